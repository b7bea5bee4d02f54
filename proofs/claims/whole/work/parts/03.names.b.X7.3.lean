theorem dX7_reads_22 : decode cX7_reads 22 = .ok (.putfield 172, 3) := by decide +kernel
theorem dX7_reads_25 : decode cX7_reads 25 = .ok (.aload_n 0, 1) := by decide +kernel
theorem dX7_reads_26 : decode cX7_reads 26 = .ok (.iconst 0, 1) := by decide +kernel
theorem dX7_reads_27 : decode cX7_reads 27 = .ok (.putfield 139, 3) := by decide +kernel
theorem dX7_reads_30 : decode cX7_reads 30 = .ok (.aload_n 0, 1) := by decide +kernel
theorem dX7_reads_31 : decode cX7_reads 31 = .ok (.iconst 0, 1) := by decide +kernel
theorem dX7_reads_32 : decode cX7_reads 32 = .ok (.putfield 117, 3) := by decide +kernel
theorem dX7_reads_35 : decode cX7_reads 35 = .ok (.aload_n 0, 1) := by decide +kernel
theorem dX7_reads_36 : decode cX7_reads 36 = .ok (.iconst 0, 1) := by decide +kernel
theorem dX7_reads_37 : decode cX7_reads 37 = .ok (.putfield 121, 3) := by decide +kernel
theorem dX7_reads_40 : decode cX7_reads 40 = .ok (.aload_n 0, 1) := by decide +kernel
theorem dX7_reads_41 : decode cX7_reads 41 = .ok (.iconst 0, 1) := by decide +kernel
theorem dX7_reads_42 : decode cX7_reads 42 = .ok (.iconst 0, 1) := by decide +kernel
theorem dX7_reads_43 : decode cX7_reads 43 = .ok (.invokevirtual 156, 3) := by decide +kernel
theorem dX7_reads_46 : decode cX7_reads 46 = .ok (.aload_n 0, 1) := by decide +kernel
theorem dX7_reads_47 : decode cX7_reads 47 = .ok (.getfield 117, 3) := by decide +kernel
theorem dX7_reads_50 : decode cX7_reads 50 = .ok (.ifCond .ne 165, 3) := by decide +kernel
theorem dX7_reads_53 : decode cX7_reads 53 = .ok (.aload_n 0, 1) := by decide +kernel
theorem dX7_reads_54 : decode cX7_reads 54 = .ok (.getfield 139, 3) := by decide +kernel
theorem dX7_reads_57 : decode cX7_reads 57 = .ok (.aload_n 0, 1) := by decide +kernel
theorem dX7_reads_58 : decode cX7_reads 58 = .ok (.getfield 86, 3) := by decide +kernel
theorem dX7_reads_61 : decode cX7_reads 61 = .ok (.if_icmp .ge 154, 3) := by decide +kernel
theorem dX7_reads_64 : decode cX7_reads 64 = .ok (.aload_n 0, 1) := by decide +kernel
theorem dX7_reads_65 : decode cX7_reads 65 = .ok (.aload_n 0, 1) := by decide +kernel
theorem dX7_reads_66 : decode cX7_reads 66 = .ok (.getfield 139, 3) := by decide +kernel
theorem dX7_reads_69 : decode cX7_reads 69 = .ok (.invokevirtual 142, 3) := by decide +kernel
theorem dX7_reads_72 : decode cX7_reads 72 = .ok (.istore_n 1, 1) := by decide +kernel
theorem dX7_reads_73 : decode cX7_reads 73 = .ok (.iload_n 1, 1) := by decide +kernel
theorem dX7_reads_74 : decode cX7_reads 74 = .ok (.bipush 124, 2) := by decide +kernel
theorem dX7_reads_76 : decode cX7_reads 76 = .ok (.if_icmp .ne 21, 3) := by decide +kernel
theorem dX7_reads_79 : decode cX7_reads 79 = .ok (.aload_n 0, 1) := by decide +kernel
theorem dX7_reads_80 : decode cX7_reads 80 = .ok (.iconst 1, 1) := by decide +kernel
theorem dX7_reads_81 : decode cX7_reads 81 = .ok (.invokevirtual 128, 3) := by decide +kernel
theorem dX7_reads_84 : decode cX7_reads 84 = .ok (.aload_n 0, 1) := by decide +kernel
theorem dX7_reads_85 : decode cX7_reads 85 = .ok (.dup, 1) := by decide +kernel
theorem dX7_reads_86 : decode cX7_reads 86 = .ok (.getfield 139, 3) := by decide +kernel
theorem dX7_reads_89 : decode cX7_reads 89 = .ok (.iconst 1, 1) := by decide +kernel
theorem dX7_reads_90 : decode cX7_reads 90 = .ok (.iadd, 1) := by decide +kernel
theorem dX7_reads_91 : decode cX7_reads 91 = .ok (.putfield 139, 3) := by decide +kernel
theorem dX7_reads_94 : decode cX7_reads 94 = .ok (.goto 118, 3) := by decide +kernel
theorem dX7_reads_97 : decode cX7_reads 97 = .ok (.iload_n 1, 1) := by decide +kernel
theorem dX7_reads_98 : decode cX7_reads 98 = .ok (.bipush 41, 2) := by decide +kernel
theorem dX7_reads_100 : decode cX7_reads 100 = .ok (.if_icmp .ne 44, 3) := by decide +kernel
theorem dX7_reads_103 : decode cX7_reads 103 = .ok (.aload_n 0, 1) := by decide +kernel
theorem dX7_reads_104 : decode cX7_reads 104 = .ok (.dup, 1) := by decide +kernel
theorem dX7_reads_105 : decode cX7_reads 105 = .ok (.getfield 139, 3) := by decide +kernel
theorem dX7_reads_108 : decode cX7_reads 108 = .ok (.iconst 1, 1) := by decide +kernel
theorem dX7_reads_109 : decode cX7_reads 109 = .ok (.iadd, 1) := by decide +kernel
theorem dX7_reads_110 : decode cX7_reads 110 = .ok (.putfield 139, 3) := by decide +kernel
theorem dX7_reads_113 : decode cX7_reads 113 = .ok (.aload_n 0, 1) := by decide +kernel
theorem dX7_reads_114 : decode cX7_reads 114 = .ok (.aload_n 0, 1) := by decide +kernel
theorem dX7_reads_115 : decode cX7_reads 115 = .ok (.getfield 121, 3) := by decide +kernel
theorem dX7_reads_118 : decode cX7_reads 118 = .ok (.iconst 1, 1) := by decide +kernel
theorem dX7_reads_119 : decode cX7_reads 119 = .ok (.if_icmp .ne 7, 3) := by decide +kernel
theorem dX7_reads_122 : decode cX7_reads 122 = .ok (.iconst 1, 1) := by decide +kernel
theorem dX7_reads_123 : decode cX7_reads 123 = .ok (.goto 4, 3) := by decide +kernel
theorem dX7_reads_126 : decode cX7_reads 126 = .ok (.iconst 0, 1) := by decide +kernel
theorem dX7_reads_127 : decode cX7_reads 127 = .ok (.putfield 117, 3) := by decide +kernel
theorem dX7_reads_130 : decode cX7_reads 130 = .ok (.aload_n 0, 1) := by decide +kernel
theorem dX7_reads_131 : decode cX7_reads 131 = .ok (.getfield 117, 3) := by decide +kernel
theorem dX7_reads_134 : decode cX7_reads 134 = .ok (.ifCond .ne 78, 3) := by decide +kernel
theorem dX7_reads_137 : decode cX7_reads 137 = .ok (.aload_n 0, 1) := by decide +kernel
theorem dX7_reads_138 : decode cX7_reads 138 = .ok (.invokevirtual 181, 3) := by decide +kernel
theorem dX7_reads_141 : decode cX7_reads 141 = .ok (.goto 71, 3) := by decide +kernel
theorem dX7_reads_144 : decode cX7_reads 144 = .ok (.iload_n 1, 1) := by decide +kernel
theorem dX7_reads_145 : decode cX7_reads 145 = .ok (.bipush 94, 2) := by decide +kernel
theorem dX7_reads_147 : decode cX7_reads 147 = .ok (.if_icmp .eq 9, 3) := by decide +kernel
theorem dX7_reads_150 : decode cX7_reads 150 = .ok (.iload_n 1, 1) := by decide +kernel
theorem dX7_reads_151 : decode cX7_reads 151 = .ok (.bipush 36, 2) := by decide +kernel
theorem dX7_reads_153 : decode cX7_reads 153 = .ok (.if_icmp .ne 42, 3) := by decide +kernel
theorem dX7_reads_156 : decode cX7_reads 156 = .ok (.aload_n 0, 1) := by decide +kernel
theorem dX7_reads_157 : decode cX7_reads 157 = .ok (.iload_n 1, 1) := by decide +kernel
theorem dX7_reads_158 : decode cX7_reads 158 = .ok (.bipush 94, 2) := by decide +kernel
theorem dX7_reads_160 : decode cX7_reads 160 = .ok (.if_icmp .ne 8, 3) := by decide +kernel
theorem dX7_reads_163 : decode cX7_reads 163 = .ok (.bipush 8, 2) := by decide +kernel
theorem dX7_reads_165 : decode cX7_reads 165 = .ok (.goto 5, 3) := by decide +kernel
theorem dX7_reads_168 : decode cX7_reads 168 = .ok (.bipush 9, 2) := by decide +kernel
theorem dX7_reads_170 : decode cX7_reads 170 = .ok (.iconst 0, 1) := by decide +kernel
theorem dX7_reads_171 : decode cX7_reads 171 = .ok (.iconst 0, 1) := by decide +kernel
theorem dX7_reads_172 : decode cX7_reads 172 = .ok (.iconst 0, 1) := by decide +kernel
theorem dX7_reads_173 : decode cX7_reads 173 = .ok (.invokevirtual 124, 3) := by decide +kernel
theorem dX7_reads_176 : decode cX7_reads 176 = .ok (.pop, 1) := by decide +kernel
theorem dX7_reads_177 : decode cX7_reads 177 = .ok (.aload_n 0, 1) := by decide +kernel
theorem dX7_reads_178 : decode cX7_reads 178 = .ok (.iconst 1, 1) := by decide +kernel
theorem dX7_reads_179 : decode cX7_reads 179 = .ok (.invokevirtual 132, 3) := by decide +kernel
theorem dX7_reads_182 : decode cX7_reads 182 = .ok (.aload_n 0, 1) := by decide +kernel
theorem dX7_reads_183 : decode cX7_reads 183 = .ok (.dup, 1) := by decide +kernel
theorem dX7_reads_184 : decode cX7_reads 184 = .ok (.getfield 139, 3) := by decide +kernel
theorem dX7_reads_187 : decode cX7_reads 187 = .ok (.iconst 1, 1) := by decide +kernel
theorem dX7_reads_188 : decode cX7_reads 188 = .ok (.iadd, 1) := by decide +kernel
theorem dX7_reads_189 : decode cX7_reads 189 = .ok (.putfield 139, 3) := by decide +kernel
theorem dX7_reads_192 : decode cX7_reads 192 = .ok (.goto 20, 3) := by decide +kernel
theorem dX7_reads_195 : decode cX7_reads 195 = .ok (.iload_n 1, 1) := by decide +kernel
theorem dX7_reads_196 : decode cX7_reads 196 = .ok (.bipush 40, 2) := by decide +kernel
theorem dX7_reads_198 : decode cX7_reads 198 = .ok (.if_icmp .ne 10, 3) := by decide +kernel
theorem dX7_reads_201 : decode cX7_reads 201 = .ok (.aload_n 0, 1) := by decide +kernel
theorem dX7_reads_202 : decode cX7_reads 202 = .ok (.invokevirtual 184, 3) := by decide +kernel
theorem dX7_reads_205 : decode cX7_reads 205 = .ok (.goto 7, 3) := by decide +kernel
theorem dX7_reads_208 : decode cX7_reads 208 = .ok (.aload_n 0, 1) := by decide +kernel
theorem dX7_reads_209 : decode cX7_reads 209 = .ok (.invokevirtual 187, 3) := by decide +kernel
theorem dX7_reads_212 : decode cX7_reads 212 = .ok (.goto (-166), 3) := by decide +kernel
theorem dX7_reads_215 : decode cX7_reads 215 = .ok (.aload_n 0, 1) := by decide +kernel
theorem dX7_reads_216 : decode cX7_reads 216 = .ok (.getfield 117, 3) := by decide +kernel
theorem dX7_reads_219 : decode cX7_reads 219 = .ok (.ifCond .ne 11, 3) := by decide +kernel
theorem dX7_reads_222 : decode cX7_reads 222 = .ok (.aload_n 0, 1) := by decide +kernel
theorem dX7_reads_223 : decode cX7_reads 223 = .ok (.getfield 121, 3) := by decide +kernel
theorem dX7_reads_226 : decode cX7_reads 226 = .ok (.iconst 1, 1) := by decide +kernel
theorem dX7_reads_227 : decode cX7_reads 227 = .ok (.if_icmp .eq 5, 3) := by decide +kernel
theorem dX7_reads_230 : decode cX7_reads 230 = .ok (.iconst 0, 1) := by decide +kernel
theorem dX7_reads_231 : decode cX7_reads 231 = .ok (.ireturn, 1) := by decide +kernel
theorem dX7_reads_232 : decode cX7_reads 232 = .ok (.aload_n 0, 1) := by decide +kernel
theorem dX7_reads_233 : decode cX7_reads 233 = .ok (.invokevirtual 181, 3) := by decide +kernel
theorem dX7_reads_236 : decode cX7_reads 236 = .ok (.aload_n 0, 1) := by decide +kernel
theorem dX7_reads_237 : decode cX7_reads 237 = .ok (.bipush 16, 2) := by decide +kernel
theorem dX7_reads_239 : decode cX7_reads 239 = .ok (.iconst 0, 1) := by decide +kernel
theorem dX7_reads_240 : decode cX7_reads 240 = .ok (.iconst 0, 1) := by decide +kernel
theorem dX7_reads_241 : decode cX7_reads 241 = .ok (.iconst 0, 1) := by decide +kernel
theorem dX7_reads_242 : decode cX7_reads 242 = .ok (.invokevirtual 124, 3) := by decide +kernel
theorem dX7_reads_245 : decode cX7_reads 245 = .ok (.pop, 1) := by decide +kernel
theorem dX7_reads_246 : decode cX7_reads 246 = .ok (.aload_n 0, 1) := by decide +kernel
theorem dX7_reads_247 : decode cX7_reads 247 = .ok (.getfield 59, 3) := by decide +kernel
theorem dX7_reads_250 : decode cX7_reads 250 = .ok (.iconst 0, 1) := by decide +kernel
theorem dX7_reads_251 : decode cX7_reads 251 = .ok (.iaload, 1) := by decide +kernel
theorem dX7_reads_252 : decode cX7_reads 252 = .ok (.bipush 120, 2) := by decide +kernel
theorem dX7_reads_254 : decode cX7_reads 254 = .ok (.if_icmp .gt 27, 3) := by decide +kernel
theorem dX7_reads_257 : decode cX7_reads 257 = .ok (.aload_n 0, 1) := by decide +kernel
theorem dX7_reads_258 : decode cX7_reads 258 = .ok (.getfield 153, 3) := by decide +kernel
theorem dX7_reads_261 : decode cX7_reads 261 = .ok (.bipush 9, 2) := by decide +kernel
theorem dX7_reads_263 : decode cX7_reads 263 = .ok (.if_icmp .gt 18, 3) := by decide +kernel
theorem dX7_reads_266 : decode cX7_reads 266 = .ok (.aload_n 0, 1) := by decide +kernel
theorem dX7_reads_267 : decode cX7_reads 267 = .ok (.getfield 172, 3) := by decide +kernel
theorem dX7_reads_270 : decode cX7_reads 270 = .ok (.aload_n 0, 1) := by decide +kernel
theorem dX7_reads_271 : decode cX7_reads 271 = .ok (.getfield 153, 3) := by decide +kernel
theorem dX7_reads_274 : decode cX7_reads 274 = .ok (.if_icmp .gt 7, 3) := by decide +kernel
theorem dX7_reads_277 : decode cX7_reads 277 = .ok (.iconst 1, 1) := by decide +kernel
theorem dX7_reads_278 : decode cX7_reads 278 = .ok (.goto 4, 3) := by decide +kernel
theorem dX7_reads_281 : decode cX7_reads 281 = .ok (.iconst 0, 1) := by decide +kernel
theorem dX7_reads_282 : decode cX7_reads 282 = .ok (.ireturn, 1) := by decide +kernel
theorem dX7_take_0 : decode cX7_take 0 = .ok (.iconst 0, 1) := by decide +kernel
theorem dX7_take_1 : decode cX7_take 1 = .ok (.istore_n 2, 1) := by decide +kernel
theorem dX7_take_2 : decode cX7_take 2 = .ok (.iload_n 2, 1) := by decide +kernel
theorem dX7_take_3 : decode cX7_take 3 = .ok (.aload_n 0, 1) := by decide +kernel
theorem dX7_take_4 : decode cX7_take 4 = .ok (.getfield 114, 3) := by decide +kernel
theorem dX7_take_7 : decode cX7_take 7 = .ok (.if_icmp .ge 57, 3) := by decide +kernel
theorem dX7_take_10 : decode cX7_take 10 = .ok (.aload_n 0, 1) := by decide +kernel
theorem dX7_take_11 : decode cX7_take 11 = .ok (.getfield 19, 3) := by decide +kernel
theorem dX7_take_14 : decode cX7_take 14 = .ok (.iload_n 2, 1) := by decide +kernel
theorem dX7_take_15 : decode cX7_take 15 = .ok (.aload_n 0, 1) := by decide +kernel
theorem dX7_take_16 : decode cX7_take 16 = .ok (.getfield 35, 3) := by decide +kernel
theorem dX7_take_19 : decode cX7_take 19 = .ok (.iload_n 2, 1) := by decide +kernel
theorem dX7_take_20 : decode cX7_take 20 = .ok (.iaload, 1) := by decide +kernel
theorem dX7_take_21 : decode cX7_take 21 = .ok (.iastore, 1) := by decide +kernel
theorem dX7_take_22 : decode cX7_take 22 = .ok (.aload_n 0, 1) := by decide +kernel
theorem dX7_take_23 : decode cX7_take 23 = .ok (.getfield 23, 3) := by decide +kernel
theorem dX7_take_26 : decode cX7_take 26 = .ok (.iload_n 2, 1) := by decide +kernel
theorem dX7_take_27 : decode cX7_take 27 = .ok (.aload_n 0, 1) := by decide +kernel
theorem dX7_take_28 : decode cX7_take 28 = .ok (.getfield 38, 3) := by decide +kernel
theorem dX7_take_31 : decode cX7_take 31 = .ok (.iload_n 2, 1) := by decide +kernel
theorem dX7_take_32 : decode cX7_take 32 = .ok (.iaload, 1) := by decide +kernel
theorem dX7_take_33 : decode cX7_take 33 = .ok (.iastore, 1) := by decide +kernel
theorem dX7_take_34 : decode cX7_take 34 = .ok (.aload_n 0, 1) := by decide +kernel
theorem dX7_take_35 : decode cX7_take 35 = .ok (.getfield 26, 3) := by decide +kernel
theorem dX7_take_38 : decode cX7_take 38 = .ok (.iload_n 2, 1) := by decide +kernel
theorem dX7_take_39 : decode cX7_take 39 = .ok (.aload_n 0, 1) := by decide +kernel
theorem dX7_take_40 : decode cX7_take 40 = .ok (.getfield 41, 3) := by decide +kernel
theorem dX7_take_43 : decode cX7_take 43 = .ok (.iload_n 2, 1) := by decide +kernel
theorem dX7_take_44 : decode cX7_take 44 = .ok (.iaload, 1) := by decide +kernel
theorem dX7_take_45 : decode cX7_take 45 = .ok (.iastore, 1) := by decide +kernel
theorem dX7_take_46 : decode cX7_take 46 = .ok (.aload_n 0, 1) := by decide +kernel
theorem dX7_take_47 : decode cX7_take 47 = .ok (.getfield 29, 3) := by decide +kernel
theorem dX7_take_50 : decode cX7_take 50 = .ok (.iload_n 2, 1) := by decide +kernel
theorem dX7_take_51 : decode cX7_take 51 = .ok (.aload_n 0, 1) := by decide +kernel
theorem dX7_take_52 : decode cX7_take 52 = .ok (.getfield 44, 3) := by decide +kernel
theorem dX7_take_55 : decode cX7_take 55 = .ok (.iload_n 2, 1) := by decide +kernel
theorem dX7_take_56 : decode cX7_take 56 = .ok (.iaload, 1) := by decide +kernel
theorem dX7_take_57 : decode cX7_take 57 = .ok (.iastore, 1) := by decide +kernel
theorem dX7_take_58 : decode cX7_take 58 = .ok (.iinc 2 1, 3) := by decide +kernel
theorem dX7_take_61 : decode cX7_take 61 = .ok (.goto (-59), 3) := by decide +kernel
theorem dX7_take_64 : decode cX7_take 64 = .ok (.iconst 0, 1) := by decide +kernel
theorem dX7_take_65 : decode cX7_take 65 = .ok (.istore_n 2, 1) := by decide +kernel
theorem dX7_take_66 : decode cX7_take 66 = .ok (.iload_n 2, 1) := by decide +kernel
theorem dX7_take_67 : decode cX7_take 67 = .ok (.aload_n 0, 1) := by decide +kernel
theorem dX7_take_68 : decode cX7_take 68 = .ok (.getfield 86, 3) := by decide +kernel
theorem dX7_take_71 : decode cX7_take 71 = .ok (.if_icmp .ge 21, 3) := by decide +kernel
theorem dX7_take_74 : decode cX7_take 74 = .ok (.aload_n 0, 1) := by decide +kernel
theorem dX7_take_75 : decode cX7_take 75 = .ok (.getfield 16, 3) := by decide +kernel
theorem dX7_take_78 : decode cX7_take 78 = .ok (.iload_n 2, 1) := by decide +kernel
theorem dX7_take_79 : decode cX7_take 79 = .ok (.aload_n 0, 1) := by decide +kernel
theorem dX7_take_80 : decode cX7_take 80 = .ok (.getfield 32, 3) := by decide +kernel
theorem dX7_take_83 : decode cX7_take 83 = .ok (.iload_n 2, 1) := by decide +kernel
theorem dX7_take_84 : decode cX7_take 84 = .ok (.caload, 1) := by decide +kernel
theorem dX7_take_85 : decode cX7_take 85 = .ok (.castore, 1) := by decide +kernel
theorem dX7_take_86 : decode cX7_take 86 = .ok (.iinc 2 1, 3) := by decide +kernel
theorem dX7_take_89 : decode cX7_take 89 = .ok (.goto (-23), 3) := by decide +kernel
theorem dX7_take_92 : decode cX7_take 92 = .ok (.aload_n 0, 1) := by decide +kernel
theorem dX7_take_93 : decode cX7_take 93 = .ok (.aload_n 0, 1) := by decide +kernel
theorem dX7_take_94 : decode cX7_take 94 = .ok (.getfield 153, 3) := by decide +kernel
theorem dX7_take_97 : decode cX7_take 97 = .ok (.putfield 190, 3) := by decide +kernel
theorem dX7_take_100 : decode cX7_take 100 = .ok (.aload_n 0, 1) := by decide +kernel
theorem dX7_take_101 : decode cX7_take 101 = .ok (.iload_n 1, 1) := by decide +kernel
theorem dX7_take_102 : decode cX7_take 102 = .ok (.putfield 193, 3) := by decide +kernel
theorem dX7_take_105 : decode cX7_take 105 = .ok (.aload_n 0, 1) := by decide +kernel
theorem dX7_take_106 : decode cX7_take 106 = .ok (.iconst 0, 1) := by decide +kernel
theorem dX7_take_107 : decode cX7_take 107 = .ok (.putfield 196, 3) := by decide +kernel
theorem dX7_take_110 : decode cX7_take 110 = .ok (.aload_n 0, 1) := by decide +kernel
theorem dX7_take_111 : decode cX7_take 111 = .ok (.iconst 0, 1) := by decide +kernel
theorem dX7_take_112 : decode cX7_take 112 = .ok (.putfield 199, 3) := by decide +kernel
theorem dX7_take_115 : decode cX7_take 115 = .ok (.return_, 1) := by decide +kernel
set_option maxRecDepth 20000 in
theorem ggX7_pattern_X7_refuse : GoodIn wsX7_pattern wsX7_refuse := goodIn_r _ [11, 1, 104, 105, 106, 107, 108, 109, 110, 111, 112, 113, 114, 115, 116, 117, 118, 119, 120, 121, 122, 123, 124, 125, 126, 127, 128, 129, 130, 131, 132, 133, 134, 135, 136, 137, 138, 139, 140, 141, 142, 143, 144, 145, 146, 147, 148, 149, 150, 151, 152, 153] (by decide +kernel) (by decide +kernel)
set_option maxRecDepth 20000 in
theorem gX7_pattern_X7_refuse : GoodIn wsX7_pattern (wsV RX7 104 RX7 yX7_refuse wsX7_refuse) := goodIn_app (goodIn_of _ (by decide +kernel)) ggX7_pattern_X7_refuse
set_option maxRecDepth 20000 in
theorem ggX7_pattern_X7_reads : GoodIn wsX7_pattern wsX7_reads := goodIn_r _ [15, 16, 17, 18, 19, 20, 21, 22, 23, 5, 24, 25, 26, 27, 10, 28, 29, 30, 31, 32, 33, 34, 35, 36, 37, 38, 39, 40, 41, 42, 43, 44, 45, 3, 46, 47, 48, 49, 50, 51, 52, 53, 54, 55, 56, 57, 58, 59, 60, 61, 62, 63, 64, 65, 66, 67, 68, 69, 70, 71, 72, 73, 74, 75, 76, 77, 78, 79, 80, 81, 82, 83, 84, 85, 86, 87, 88, 89, 90, 91, 104, 105, 106, 107, 108, 109, 110, 111, 112, 113, 114, 115, 116, 117, 118, 119, 120, 121, 122, 123, 124, 125, 126, 127, 128, 129, 130, 131, 132, 133, 134, 135, 136, 137, 138, 139, 140, 141, 142, 143, 144, 145, 146, 147, 148, 149, 150, 151, 152, 153] (by decide +kernel) (by decide +kernel)
set_option maxRecDepth 20000 in
theorem gX7_pattern_X7_reads : GoodIn wsX7_pattern (wsV RX7 90 RX7 yX7_reads wsX7_reads) := goodIn_app (goodIn_of _ (by decide +kernel)) ggX7_pattern_X7_reads
set_option maxRecDepth 20000 in
theorem ggX7_pattern_X7_take : GoodIn wsX7_pattern wsX7_take := goodIn_r _ [95, 16, 96, 38, 97, 39, 98, 40, 99, 41, 5, 100, 3, 17, 6, 101, 102, 103, 104, 105, 106, 107, 108, 109, 110, 111, 112, 113, 114, 115, 116, 117, 118, 119, 120, 121, 122, 123, 124, 125, 126, 127, 128, 129, 130, 131, 132, 133, 134, 135, 136, 137, 138, 139, 140, 141, 142, 143, 144, 145, 146, 147, 148, 149, 150, 151, 152, 153] (by decide +kernel) (by decide +kernel)
set_option maxRecDepth 20000 in
theorem gX7_pattern_X7_take : GoodIn wsX7_pattern (wsV RX7 94 RX7 yX7_take wsX7_take) := goodIn_app (goodIn_of _ (by decide +kernel)) ggX7_pattern_X7_take
theorem dX7_pattern_0 : decode cX7_pattern 0 = .ok (.aload_n 0, 1) := by decide +kernel
theorem dX7_pattern_1 : decode cX7_pattern 1 = .ok (.iconst 0, 1) := by decide +kernel
theorem dX7_pattern_2 : decode cX7_pattern 2 = .ok (.putfield 98, 3) := by decide +kernel
theorem dX7_pattern_5 : decode cX7_pattern 5 = .ok (.iload_n 1, 1) := by decide +kernel
theorem dX7_pattern_6 : decode cX7_pattern 6 = .ok (.ifCond .lt 9, 3) := by decide +kernel
theorem dX7_pattern_9 : decode cX7_pattern 9 = .ok (.iload_n 1, 1) := by decide +kernel
theorem dX7_pattern_10 : decode cX7_pattern 10 = .ok (.bipush 7, 2) := by decide +kernel
theorem dX7_pattern_12 : decode cX7_pattern 12 = .ok (.if_icmp .le 9, 3) := by decide +kernel
theorem dX7_pattern_15 : decode cX7_pattern 15 = .ok (.aload_n 0, 1) := by decide +kernel
theorem dX7_pattern_16 : decode cX7_pattern 16 = .ok (.iconst 1, 1) := by decide +kernel
theorem dX7_pattern_17 : decode cX7_pattern 17 = .ok (.invokevirtual 104, 3) := by decide +kernel
theorem dX7_pattern_20 : decode cX7_pattern 20 = .ok (.ireturn, 1) := by decide +kernel
theorem dX7_pattern_21 : decode cX7_pattern 21 = .ok (.iconst 0, 1) := by decide +kernel
theorem dX7_pattern_22 : decode cX7_pattern 22 = .ok (.istore_n 2, 1) := by decide +kernel
theorem dX7_pattern_23 : decode cX7_pattern 23 = .ok (.iload_n 2, 1) := by decide +kernel
theorem dX7_pattern_24 : decode cX7_pattern 24 = .ok (.aload_n 0, 1) := by decide +kernel
theorem dX7_pattern_25 : decode cX7_pattern 25 = .ok (.getfield 101, 3) := by decide +kernel
theorem dX7_pattern_28 : decode cX7_pattern 28 = .ok (.if_icmp .ge 21, 3) := by decide +kernel
theorem dX7_pattern_31 : decode cX7_pattern 31 = .ok (.aload_n 0, 1) := by decide +kernel
theorem dX7_pattern_32 : decode cX7_pattern 32 = .ok (.getfield 32, 3) := by decide +kernel
theorem dX7_pattern_35 : decode cX7_pattern 35 = .ok (.iload_n 2, 1) := by decide +kernel
theorem dX7_pattern_36 : decode cX7_pattern 36 = .ok (.aload_n 0, 1) := by decide +kernel
theorem dX7_pattern_37 : decode cX7_pattern 37 = .ok (.getfield 7, 3) := by decide +kernel
theorem dX7_pattern_40 : decode cX7_pattern 40 = .ok (.iload_n 2, 1) := by decide +kernel
theorem dX7_pattern_41 : decode cX7_pattern 41 = .ok (.caload, 1) := by decide +kernel
theorem dX7_pattern_42 : decode cX7_pattern 42 = .ok (.castore, 1) := by decide +kernel
theorem dX7_pattern_43 : decode cX7_pattern 43 = .ok (.iinc 2 1, 3) := by decide +kernel
theorem dX7_pattern_46 : decode cX7_pattern 46 = .ok (.goto (-23), 3) := by decide +kernel
theorem dX7_pattern_49 : decode cX7_pattern 49 = .ok (.aload_n 0, 1) := by decide +kernel
theorem dX7_pattern_50 : decode cX7_pattern 50 = .ok (.aload_n 0, 1) := by decide +kernel
theorem dX7_pattern_51 : decode cX7_pattern 51 = .ok (.getfield 101, 3) := by decide +kernel
theorem dX7_pattern_54 : decode cX7_pattern 54 = .ok (.putfield 86, 3) := by decide +kernel
theorem dX7_pattern_57 : decode cX7_pattern 57 = .ok (.aload_n 0, 1) := by decide +kernel
theorem dX7_pattern_58 : decode cX7_pattern 58 = .ok (.iconst 0, 1) := by decide +kernel
theorem dX7_pattern_59 : decode cX7_pattern 59 = .ok (.putfield 101, 3) := by decide +kernel
theorem dX7_pattern_62 : decode cX7_pattern 62 = .ok (.aload_n 0, 1) := by decide +kernel
theorem dX7_pattern_63 : decode cX7_pattern 63 = .ok (.invokevirtual 90, 3) := by decide +kernel
theorem dX7_pattern_66 : decode cX7_pattern 66 = .ok (.ifCond .ne 9, 3) := by decide +kernel
theorem dX7_pattern_69 : decode cX7_pattern 69 = .ok (.aload_n 0, 1) := by decide +kernel
theorem dX7_pattern_70 : decode cX7_pattern 70 = .ok (.iconst 1, 1) := by decide +kernel
theorem dX7_pattern_71 : decode cX7_pattern 71 = .ok (.invokevirtual 104, 3) := by decide +kernel
theorem dX7_pattern_74 : decode cX7_pattern 74 = .ok (.ireturn, 1) := by decide +kernel
theorem dX7_pattern_75 : decode cX7_pattern 75 = .ok (.aload_n 0, 1) := by decide +kernel
theorem dX7_pattern_76 : decode cX7_pattern 76 = .ok (.iload_n 1, 1) := by decide +kernel
theorem dX7_pattern_77 : decode cX7_pattern 77 = .ok (.invokevirtual 94, 3) := by decide +kernel
theorem dX7_pattern_80 : decode cX7_pattern 80 = .ok (.aload_n 0, 1) := by decide +kernel
theorem dX7_pattern_81 : decode cX7_pattern 81 = .ok (.getfield 190, 3) := by decide +kernel
theorem dX7_pattern_84 : decode cX7_pattern 84 = .ok (.ireturn, 1) := by decide +kernel
set_option maxRecDepth 20000 in
theorem ggX7_text_X7_refuse : GoodIn wsX7_text wsX7_refuse := goodIn_r _ [12, 1, 13, 14, 15, 16, 17, 18, 19, 20, 21, 22, 23, 24, 25, 26, 27, 28, 29, 30, 31, 32, 33, 34, 35, 36, 37, 38, 39, 40, 41, 42, 43, 44, 45, 46, 47, 48, 49, 50, 51, 52, 53, 54, 55, 56, 57, 58, 59, 60, 61, 62] (by decide +kernel) (by decide +kernel)
set_option maxRecDepth 20000 in
theorem gX7_text_X7_refuse : GoodIn wsX7_text (wsV RX7 104 RX7 yX7_refuse wsX7_refuse) := goodIn_app (goodIn_of _ (by decide +kernel)) ggX7_text_X7_refuse
theorem dX7_text_0 : decode cX7_text 0 = .ok (.aload_n 0, 1) := by decide +kernel
theorem dX7_text_1 : decode cX7_text 1 = .ok (.iconst 0, 1) := by decide +kernel
theorem dX7_text_2 : decode cX7_text 2 = .ok (.putfield 98, 3) := by decide +kernel
theorem dX7_text_5 : decode cX7_text 5 = .ok (.aload_n 0, 1) := by decide +kernel
theorem dX7_text_6 : decode cX7_text 6 = .ok (.getfield 101, 3) := by decide +kernel
theorem dX7_text_9 : decode cX7_text 9 = .ok (.bipush 24, 2) := by decide +kernel
theorem dX7_text_11 : decode cX7_text 11 = .ok (.if_icmp .le 9, 3) := by decide +kernel
theorem dX7_text_14 : decode cX7_text 14 = .ok (.aload_n 0, 1) := by decide +kernel
theorem dX7_text_15 : decode cX7_text 15 = .ok (.iconst 1, 1) := by decide +kernel
theorem dX7_text_16 : decode cX7_text 16 = .ok (.invokevirtual 104, 3) := by decide +kernel
theorem dX7_text_19 : decode cX7_text 19 = .ok (.ireturn, 1) := by decide +kernel
theorem dX7_text_20 : decode cX7_text 20 = .ok (.iconst 0, 1) := by decide +kernel
theorem dX7_text_21 : decode cX7_text 21 = .ok (.istore_n 1, 1) := by decide +kernel
theorem dX7_text_22 : decode cX7_text 22 = .ok (.iload_n 1, 1) := by decide +kernel
theorem dX7_text_23 : decode cX7_text 23 = .ok (.aload_n 0, 1) := by decide +kernel
theorem dX7_text_24 : decode cX7_text 24 = .ok (.getfield 101, 3) := by decide +kernel
theorem dX7_text_27 : decode cX7_text 27 = .ok (.if_icmp .ge 21, 3) := by decide +kernel
theorem dX7_text_30 : decode cX7_text 30 = .ok (.aload_n 0, 1) := by decide +kernel
theorem dX7_text_31 : decode cX7_text 31 = .ok (.getfield 13, 3) := by decide +kernel
theorem dX7_text_34 : decode cX7_text 34 = .ok (.iload_n 1, 1) := by decide +kernel
theorem dX7_text_35 : decode cX7_text 35 = .ok (.aload_n 0, 1) := by decide +kernel
theorem dX7_text_36 : decode cX7_text 36 = .ok (.getfield 7, 3) := by decide +kernel
theorem dX7_text_39 : decode cX7_text 39 = .ok (.iload_n 1, 1) := by decide +kernel
theorem dX7_text_40 : decode cX7_text 40 = .ok (.caload, 1) := by decide +kernel
theorem dX7_text_41 : decode cX7_text 41 = .ok (.castore, 1) := by decide +kernel
theorem dX7_text_42 : decode cX7_text 42 = .ok (.iinc 1 1, 3) := by decide +kernel
theorem dX7_text_45 : decode cX7_text 45 = .ok (.goto (-23), 3) := by decide +kernel
theorem dX7_text_48 : decode cX7_text 48 = .ok (.aload_n 0, 1) := by decide +kernel
theorem dX7_text_49 : decode cX7_text 49 = .ok (.aload_n 0, 1) := by decide +kernel
theorem dX7_text_50 : decode cX7_text 50 = .ok (.getfield 101, 3) := by decide +kernel
theorem dX7_text_53 : decode cX7_text 53 = .ok (.putfield 202, 3) := by decide +kernel
theorem dX7_text_56 : decode cX7_text 56 = .ok (.aload_n 0, 1) := by decide +kernel
theorem dX7_text_57 : decode cX7_text 57 = .ok (.iconst 0, 1) := by decide +kernel
theorem dX7_text_58 : decode cX7_text 58 = .ok (.putfield 101, 3) := by decide +kernel
theorem dX7_text_61 : decode cX7_text 61 = .ok (.aload_n 0, 1) := by decide +kernel
theorem dX7_text_62 : decode cX7_text 62 = .ok (.iconst 0, 1) := by decide +kernel
theorem dX7_text_63 : decode cX7_text 63 = .ok (.putfield 196, 3) := by decide +kernel
theorem dX7_text_66 : decode cX7_text 66 = .ok (.aload_n 0, 1) := by decide +kernel
theorem dX7_text_67 : decode cX7_text 67 = .ok (.iconst 0, 1) := by decide +kernel
theorem dX7_text_68 : decode cX7_text 68 = .ok (.putfield 199, 3) := by decide +kernel
theorem dX7_text_71 : decode cX7_text 71 = .ok (.aload_n 0, 1) := by decide +kernel
theorem dX7_text_72 : decode cX7_text 72 = .ok (.getfield 202, 3) := by decide +kernel
theorem dX7_text_75 : decode cX7_text 75 = .ok (.ireturn, 1) := by decide +kernel
set_option maxRecDepth 20000 in
theorem ggX7_start_X7_refuse : GoodIn wsX7_start wsX7_refuse := goodIn_r _ [7, 1, 8, 9, 10, 11, 12, 13, 14, 15, 16, 17, 18, 19, 20, 21, 22, 23, 24, 25, 26, 27, 28, 29, 30, 31, 32, 33, 34, 35, 36, 37, 38, 39, 40, 41, 42, 43, 44, 45, 46, 47, 48, 49, 50, 51, 52, 53, 54, 55, 56, 57] (by decide +kernel) (by decide +kernel)
set_option maxRecDepth 20000 in
theorem gX7_start_X7_refuse : GoodIn wsX7_start (wsV RX7 104 RX7 yX7_refuse wsX7_refuse) := goodIn_app (goodIn_of _ (by decide +kernel)) ggX7_start_X7_refuse
theorem dX7_start_0 : decode cX7_start 0 = .ok (.aload_n 0, 1) := by decide +kernel
theorem dX7_start_1 : decode cX7_start 1 = .ok (.iconst 0, 1) := by decide +kernel
theorem dX7_start_2 : decode cX7_start 2 = .ok (.putfield 98, 3) := by decide +kernel
theorem dX7_start_5 : decode cX7_start 5 = .ok (.iload_n 1, 1) := by decide +kernel
theorem dX7_start_6 : decode cX7_start 6 = .ok (.ifCond .lt 9, 3) := by decide +kernel
theorem dX7_start_9 : decode cX7_start 9 = .ok (.iload_n 1, 1) := by decide +kernel
theorem dX7_start_10 : decode cX7_start 10 = .ok (.bipush 24, 2) := by decide +kernel
theorem dX7_start_12 : decode cX7_start 12 = .ok (.if_icmp .le 9, 3) := by decide +kernel
theorem dX7_start_15 : decode cX7_start 15 = .ok (.aload_n 0, 1) := by decide +kernel
theorem dX7_start_16 : decode cX7_start 16 = .ok (.iconst 1, 1) := by decide +kernel
theorem dX7_start_17 : decode cX7_start 17 = .ok (.invokevirtual 104, 3) := by decide +kernel
theorem dX7_start_20 : decode cX7_start 20 = .ok (.ireturn, 1) := by decide +kernel
theorem dX7_start_21 : decode cX7_start 21 = .ok (.aload_n 0, 1) := by decide +kernel
theorem dX7_start_22 : decode cX7_start 22 = .ok (.iload_n 1, 1) := by decide +kernel
theorem dX7_start_23 : decode cX7_start 23 = .ok (.putfield 196, 3) := by decide +kernel
theorem dX7_start_26 : decode cX7_start 26 = .ok (.iload_n 1, 1) := by decide +kernel
theorem dX7_start_27 : decode cX7_start 27 = .ok (.ireturn, 1) := by decide +kernel
theorem dX7_has_0 : decode cX7_has 0 = .ok (.aload_n 0, 1) := by decide +kernel
theorem dX7_has_1 : decode cX7_has 1 = .ok (.getfield 193, 3) := by decide +kernel
theorem dX7_has_4 : decode cX7_has 4 = .ok (.iload_n 1, 1) := by decide +kernel
theorem dX7_has_5 : decode cX7_has 5 = .ok (.iand, 1) := by decide +kernel
theorem dX7_has_6 : decode cX7_has 6 = .ok (.ifCond .eq 7, 3) := by decide +kernel
theorem dX7_has_9 : decode cX7_has 9 = .ok (.iconst 1, 1) := by decide +kernel
theorem dX7_has_10 : decode cX7_has 10 = .ok (.goto 4, 3) := by decide +kernel
theorem dX7_has_13 : decode cX7_has 13 = .ok (.iconst 0, 1) := by decide +kernel
theorem dX7_has_14 : decode cX7_has 14 = .ok (.ireturn, 1) := by decide +kernel
theorem dX7_other_0 : decode cX7_other 0 = .ok (.iload_n 0, 1) := by decide +kernel
theorem dX7_other_1 : decode cX7_other 1 = .ok (.bipush 97, 2) := by decide +kernel
theorem dX7_other_3 : decode cX7_other 3 = .ok (.if_icmp .lt 16, 3) := by decide +kernel
theorem dX7_other_6 : decode cX7_other 6 = .ok (.iload_n 0, 1) := by decide +kernel
theorem dX7_other_7 : decode cX7_other 7 = .ok (.bipush 122, 2) := by decide +kernel
theorem dX7_other_9 : decode cX7_other 9 = .ok (.if_icmp .gt 10, 3) := by decide +kernel
theorem dX7_other_12 : decode cX7_other 12 = .ok (.iload_n 0, 1) := by decide +kernel
theorem dX7_other_13 : decode cX7_other 13 = .ok (.bipush 32, 2) := by decide +kernel
theorem dX7_other_15 : decode cX7_other 15 = .ok (.isub, 1) := by decide +kernel
theorem dX7_other_16 : decode cX7_other 16 = .ok (.goto 23, 3) := by decide +kernel
theorem dX7_other_19 : decode cX7_other 19 = .ok (.iload_n 0, 1) := by decide +kernel
theorem dX7_other_20 : decode cX7_other 20 = .ok (.bipush 65, 2) := by decide +kernel
theorem dX7_other_22 : decode cX7_other 22 = .ok (.if_icmp .lt 16, 3) := by decide +kernel
theorem dX7_other_25 : decode cX7_other 25 = .ok (.iload_n 0, 1) := by decide +kernel
theorem dX7_other_26 : decode cX7_other 26 = .ok (.bipush 90, 2) := by decide +kernel
theorem dX7_other_28 : decode cX7_other 28 = .ok (.if_icmp .gt 10, 3) := by decide +kernel
theorem dX7_other_31 : decode cX7_other 31 = .ok (.iload_n 0, 1) := by decide +kernel
theorem dX7_other_32 : decode cX7_other 32 = .ok (.bipush 32, 2) := by decide +kernel
theorem dX7_other_34 : decode cX7_other 34 = .ok (.iadd, 1) := by decide +kernel
theorem dX7_other_35 : decode cX7_other 35 = .ok (.goto 4, 3) := by decide +kernel
theorem dX7_other_38 : decode cX7_other 38 = .ok (.iload_n 0, 1) := by decide +kernel
theorem dX7_other_39 : decode cX7_other 39 = .ok (.ireturn, 1) := by decide +kernel
set_option maxRecDepth 20000 in
theorem ggX7_inClass_X7_isDigit : GoodIn wsX7_inClass wsX7_isDigit := goodIn_r _ [4] (by decide +kernel) (by decide +kernel)
set_option maxRecDepth 20000 in
theorem gX7_inClass_X7_isDigit : GoodIn wsX7_inClass (va_wsS RX7 145 yX7_isDigit wsX7_isDigit) := goodIn_app (goodIn_of _ (by decide +kernel)) ggX7_inClass_X7_isDigit
theorem dX7_inClass_0 : decode cX7_inClass 0 = .ok (.iload_n 1, 1) := by decide +kernel
theorem dX7_inClass_1 : decode cX7_inClass 1 = .ok (.invokestatic 145, 3) := by decide +kernel
theorem dX7_inClass_4 : decode cX7_inClass 4 = .ok (.ifCond .ne 33, 3) := by decide +kernel
theorem dX7_inClass_7 : decode cX7_inClass 7 = .ok (.iload_n 1, 1) := by decide +kernel
theorem dX7_inClass_8 : decode cX7_inClass 8 = .ok (.bipush 97, 2) := by decide +kernel
theorem dX7_inClass_10 : decode cX7_inClass 10 = .ok (.if_icmp .lt 9, 3) := by decide +kernel
theorem dX7_inClass_13 : decode cX7_inClass 13 = .ok (.iload_n 1, 1) := by decide +kernel
theorem dX7_inClass_14 : decode cX7_inClass 14 = .ok (.bipush 122, 2) := by decide +kernel
theorem dX7_inClass_16 : decode cX7_inClass 16 = .ok (.if_icmp .le 21, 3) := by decide +kernel
theorem dX7_inClass_19 : decode cX7_inClass 19 = .ok (.iload_n 1, 1) := by decide +kernel
theorem dX7_inClass_20 : decode cX7_inClass 20 = .ok (.bipush 65, 2) := by decide +kernel
theorem dX7_inClass_22 : decode cX7_inClass 22 = .ok (.if_icmp .lt 9, 3) := by decide +kernel
theorem dX7_inClass_25 : decode cX7_inClass 25 = .ok (.iload_n 1, 1) := by decide +kernel
theorem dX7_inClass_26 : decode cX7_inClass 26 = .ok (.bipush 90, 2) := by decide +kernel
theorem dX7_inClass_28 : decode cX7_inClass 28 = .ok (.if_icmp .le 9, 3) := by decide +kernel
theorem dX7_inClass_31 : decode cX7_inClass 31 = .ok (.iload_n 1, 1) := by decide +kernel
theorem dX7_inClass_32 : decode cX7_inClass 32 = .ok (.bipush 95, 2) := by decide +kernel
theorem dX7_inClass_34 : decode cX7_inClass 34 = .ok (.if_icmp .ne 7, 3) := by decide +kernel
theorem dX7_inClass_37 : decode cX7_inClass 37 = .ok (.iconst 1, 1) := by decide +kernel
theorem dX7_inClass_38 : decode cX7_inClass 38 = .ok (.goto 4, 3) := by decide +kernel
theorem dX7_inClass_41 : decode cX7_inClass 41 = .ok (.iconst 0, 1) := by decide +kernel
theorem dX7_inClass_42 : decode cX7_inClass 42 = .ok (.istore_n 2, 1) := by decide +kernel
theorem dX7_inClass_43 : decode cX7_inClass 43 = .ok (.iload_n 0, 1) := by decide +kernel
theorem dX7_inClass_44 : decode cX7_inClass 44 = .ok (.lookupswitch 94 #[(68, 71), (87, 84), (100, 52), (115, 59), (119, 57)], 52) := by decide +kernel
theorem dX7_inClass_96 : decode cX7_inClass 96 = .ok (.iload_n 1, 1) := by decide +kernel
theorem dX7_inClass_97 : decode cX7_inClass 97 = .ok (.invokestatic 145, 3) := by decide +kernel
theorem dX7_inClass_100 : decode cX7_inClass 100 = .ok (.ireturn, 1) := by decide +kernel
theorem dX7_inClass_101 : decode cX7_inClass 101 = .ok (.iload_n 2, 1) := by decide +kernel
theorem dX7_inClass_102 : decode cX7_inClass 102 = .ok (.ireturn, 1) := by decide +kernel
theorem dX7_inClass_103 : decode cX7_inClass 103 = .ok (.iload_n 1, 1) := by decide +kernel
theorem dX7_inClass_104 : decode cX7_inClass 104 = .ok (.bipush 32, 2) := by decide +kernel
theorem dX7_inClass_106 : decode cX7_inClass 106 = .ok (.if_icmp .ne 7, 3) := by decide +kernel
theorem dX7_inClass_109 : decode cX7_inClass 109 = .ok (.iconst 1, 1) := by decide +kernel
theorem dX7_inClass_110 : decode cX7_inClass 110 = .ok (.goto 4, 3) := by decide +kernel
theorem dX7_inClass_113 : decode cX7_inClass 113 = .ok (.iconst 0, 1) := by decide +kernel
theorem dX7_inClass_114 : decode cX7_inClass 114 = .ok (.ireturn, 1) := by decide +kernel
theorem dX7_inClass_115 : decode cX7_inClass 115 = .ok (.iload_n 1, 1) := by decide +kernel
theorem dX7_inClass_116 : decode cX7_inClass 116 = .ok (.invokestatic 145, 3) := by decide +kernel
theorem dX7_inClass_119 : decode cX7_inClass 119 = .ok (.ifCond .ne 7, 3) := by decide +kernel
theorem dX7_inClass_122 : decode cX7_inClass 122 = .ok (.iconst 1, 1) := by decide +kernel
theorem dX7_inClass_123 : decode cX7_inClass 123 = .ok (.goto 4, 3) := by decide +kernel
theorem dX7_inClass_126 : decode cX7_inClass 126 = .ok (.iconst 0, 1) := by decide +kernel
theorem dX7_inClass_127 : decode cX7_inClass 127 = .ok (.ireturn, 1) := by decide +kernel
theorem dX7_inClass_128 : decode cX7_inClass 128 = .ok (.iload_n 2, 1) := by decide +kernel
theorem dX7_inClass_129 : decode cX7_inClass 129 = .ok (.ifCond .ne 7, 3) := by decide +kernel
theorem dX7_inClass_132 : decode cX7_inClass 132 = .ok (.iconst 1, 1) := by decide +kernel
theorem dX7_inClass_133 : decode cX7_inClass 133 = .ok (.goto 4, 3) := by decide +kernel
theorem dX7_inClass_136 : decode cX7_inClass 136 = .ok (.iconst 0, 1) := by decide +kernel
theorem dX7_inClass_137 : decode cX7_inClass 137 = .ok (.ireturn, 1) := by decide +kernel
theorem dX7_inClass_138 : decode cX7_inClass 138 = .ok (.iload_n 1, 1) := by decide +kernel
theorem dX7_inClass_139 : decode cX7_inClass 139 = .ok (.bipush 32, 2) := by decide +kernel
theorem dX7_inClass_141 : decode cX7_inClass 141 = .ok (.if_icmp .eq 7, 3) := by decide +kernel
theorem dX7_inClass_144 : decode cX7_inClass 144 = .ok (.iconst 1, 1) := by decide +kernel
theorem dX7_inClass_145 : decode cX7_inClass 145 = .ok (.goto 4, 3) := by decide +kernel
theorem dX7_inClass_148 : decode cX7_inClass 148 = .ok (.iconst 0, 1) := by decide +kernel
theorem dX7_inClass_149 : decode cX7_inClass 149 = .ok (.ireturn, 1) := by decide +kernel
set_option maxRecDepth 20000 in
theorem ggX7_inSet_X7_isClass : GoodIn wsX7_inSet wsX7_isClass := goodIn_r _ [5] (by decide +kernel) (by decide +kernel)
set_option maxRecDepth 20000 in
theorem gX7_inSet_X7_isClass : GoodIn wsX7_inSet (va_wsS RX7 165 yX7_isClass wsX7_isClass) := goodIn_app (goodIn_of _ (by decide +kernel)) ggX7_inSet_X7_isClass
set_option maxRecDepth 20000 in
theorem ggX7_inSet_X7_inClass : GoodIn wsX7_inSet wsX7_inClass := goodIn_r _ [8, 9, 10, 4, 11] (by decide +kernel) (by decide +kernel)
set_option maxRecDepth 20000 in
theorem gX7_inSet_X7_inClass : GoodIn wsX7_inSet (va_wsS RX7 205 yX7_inClass wsX7_inClass) := goodIn_app (goodIn_of _ (by decide +kernel)) ggX7_inSet_X7_inClass
theorem dX7_inSet_0 : decode cX7_inSet 0 = .ok (.iconst 0, 1) := by decide +kernel
theorem dX7_inSet_1 : decode cX7_inSet 1 = .ok (.istore 4, 2) := by decide +kernel
theorem dX7_inSet_3 : decode cX7_inSet 3 = .ok (.iconst 1, 1) := by decide +kernel
theorem dX7_inSet_4 : decode cX7_inSet 4 = .ok (.istore 5, 2) := by decide +kernel
theorem dX7_inSet_6 : decode cX7_inSet 6 = .ok (.iload_n 1, 1) := by decide +kernel
theorem dX7_inSet_7 : decode cX7_inSet 7 = .ok (.istore 6, 2) := by decide +kernel
theorem dX7_inSet_9 : decode cX7_inSet 9 = .ok (.iload 6, 2) := by decide +kernel
theorem dX7_inSet_11 : decode cX7_inSet 11 = .ok (.iload_n 2, 1) := by decide +kernel
theorem dX7_inSet_12 : decode cX7_inSet 12 = .ok (.if_icmp .ge 219, 3) := by decide +kernel
theorem dX7_inSet_15 : decode cX7_inSet 15 = .ok (.iload 5, 2) := by decide +kernel
theorem dX7_inSet_17 : decode cX7_inSet 17 = .ok (.ifCond .eq 19, 3) := by decide +kernel
theorem dX7_inSet_20 : decode cX7_inSet 20 = .ok (.aload_n 0, 1) := by decide +kernel
theorem dX7_inSet_21 : decode cX7_inSet 21 = .ok (.getfield 16, 3) := by decide +kernel
theorem dX7_inSet_24 : decode cX7_inSet 24 = .ok (.iload 6, 2) := by decide +kernel
theorem dX7_inSet_26 : decode cX7_inSet 26 = .ok (.caload, 1) := by decide +kernel
theorem dX7_inSet_27 : decode cX7_inSet 27 = .ok (.bipush 45, 2) := by decide +kernel
theorem dX7_inSet_29 : decode cX7_inSet 29 = .ok (.if_icmp .ne 7, 3) := by decide +kernel
theorem dX7_inSet_32 : decode cX7_inSet 32 = .ok (.iconst 1, 1) := by decide +kernel
theorem dX7_inSet_33 : decode cX7_inSet 33 = .ok (.goto 4, 3) := by decide +kernel
theorem dX7_inSet_36 : decode cX7_inSet 36 = .ok (.iconst 0, 1) := by decide +kernel
theorem dX7_inSet_37 : decode cX7_inSet 37 = .ok (.istore 7, 2) := by decide +kernel
theorem dX7_inSet_39 : decode cX7_inSet 39 = .ok (.aload_n 0, 1) := by decide +kernel
theorem dX7_inSet_40 : decode cX7_inSet 40 = .ok (.getfield 16, 3) := by decide +kernel
theorem dX7_inSet_43 : decode cX7_inSet 43 = .ok (.iload 6, 2) := by decide +kernel
theorem dX7_inSet_45 : decode cX7_inSet 45 = .ok (.caload, 1) := by decide +kernel
theorem dX7_inSet_46 : decode cX7_inSet 46 = .ok (.bipush 92, 2) := by decide +kernel
theorem dX7_inSet_48 : decode cX7_inSet 48 = .ok (.if_icmp .ne 7, 3) := by decide +kernel
theorem dX7_inSet_51 : decode cX7_inSet 51 = .ok (.iconst 1, 1) := by decide +kernel
theorem dX7_inSet_52 : decode cX7_inSet 52 = .ok (.goto 4, 3) := by decide +kernel
theorem dX7_inSet_55 : decode cX7_inSet 55 = .ok (.iconst 0, 1) := by decide +kernel
theorem dX7_inSet_56 : decode cX7_inSet 56 = .ok (.istore 8, 2) := by decide +kernel
theorem dX7_inSet_58 : decode cX7_inSet 58 = .ok (.iload 6, 2) := by decide +kernel
theorem dX7_inSet_60 : decode cX7_inSet 60 = .ok (.iload 8, 2) := by decide +kernel
theorem dX7_inSet_62 : decode cX7_inSet 62 = .ok (.ifCond .eq 7, 3) := by decide +kernel
theorem dX7_inSet_65 : decode cX7_inSet 65 = .ok (.iconst 1, 1) := by decide +kernel
theorem dX7_inSet_66 : decode cX7_inSet 66 = .ok (.goto 4, 3) := by decide +kernel
theorem dX7_inSet_69 : decode cX7_inSet 69 = .ok (.iconst 0, 1) := by decide +kernel
theorem dX7_inSet_70 : decode cX7_inSet 70 = .ok (.iadd, 1) := by decide +kernel
theorem dX7_inSet_71 : decode cX7_inSet 71 = .ok (.istore 6, 2) := by decide +kernel
theorem dX7_inSet_73 : decode cX7_inSet 73 = .ok (.aload_n 0, 1) := by decide +kernel
theorem dX7_inSet_74 : decode cX7_inSet 74 = .ok (.getfield 16, 3) := by decide +kernel
theorem dX7_inSet_77 : decode cX7_inSet 77 = .ok (.iload 6, 2) := by decide +kernel
theorem dX7_inSet_79 : decode cX7_inSet 79 = .ok (.caload, 1) := by decide +kernel
theorem dX7_inSet_80 : decode cX7_inSet 80 = .ok (.istore 9, 2) := by decide +kernel
theorem dX7_inSet_82 : decode cX7_inSet 82 = .ok (.iinc 6 1, 3) := by decide +kernel
theorem dX7_inSet_85 : decode cX7_inSet 85 = .ok (.iload 8, 2) := by decide +kernel
theorem dX7_inSet_87 : decode cX7_inSet 87 = .ok (.ifCond .eq 15, 3) := by decide +kernel
theorem dX7_inSet_90 : decode cX7_inSet 90 = .ok (.iload 9, 2) := by decide +kernel
theorem dX7_inSet_92 : decode cX7_inSet 92 = .ok (.invokestatic 165, 3) := by decide +kernel
theorem dX7_inSet_95 : decode cX7_inSet 95 = .ok (.ifCond .eq 7, 3) := by decide +kernel
theorem dX7_inSet_98 : decode cX7_inSet 98 = .ok (.iconst 1, 1) := by decide +kernel
theorem dX7_inSet_99 : decode cX7_inSet 99 = .ok (.goto 4, 3) := by decide +kernel
theorem dX7_inSet_102 : decode cX7_inSet 102 = .ok (.iconst 0, 1) := by decide +kernel
theorem dX7_inSet_103 : decode cX7_inSet 103 = .ok (.istore 10, 2) := by decide +kernel
theorem dX7_inSet_105 : decode cX7_inSet 105 = .ok (.iload 7, 2) := by decide +kernel
theorem dX7_inSet_107 : decode cX7_inSet 107 = .ok (.ifCond .ne 32, 3) := by decide +kernel
theorem dX7_inSet_110 : decode cX7_inSet 110 = .ok (.iload 10, 2) := by decide +kernel
theorem dX7_inSet_112 : decode cX7_inSet 112 = .ok (.ifCond .ne 27, 3) := by decide +kernel
theorem dX7_inSet_115 : decode cX7_inSet 115 = .ok (.iload 6, 2) := by decide +kernel
theorem dX7_inSet_117 : decode cX7_inSet 117 = .ok (.iconst 1, 1) := by decide +kernel
theorem dX7_inSet_118 : decode cX7_inSet 118 = .ok (.iadd, 1) := by decide +kernel
theorem dX7_inSet_119 : decode cX7_inSet 119 = .ok (.iload_n 2, 1) := by decide +kernel
theorem dX7_inSet_120 : decode cX7_inSet 120 = .ok (.if_icmp .ge 19, 3) := by decide +kernel
