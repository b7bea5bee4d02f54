theorem dX7_reads_183 : decode cX7_reads 183 = .ok (.dup, 1) := by decide +kernel
theorem dX7_reads_184 : decode cX7_reads 184 = .ok (.getfield 139, 3) := by decide +kernel
theorem dX7_reads_187 : decode cX7_reads 187 = .ok (.iconst 1, 1) := by decide +kernel
theorem dX7_reads_188 : decode cX7_reads 188 = .ok (.iadd, 1) := by decide +kernel
theorem dX7_reads_189 : decode cX7_reads 189 = .ok (.putfield 139, 3) := by decide +kernel
theorem dX7_reads_192 : decode cX7_reads 192 = .ok (.goto 20, 3) := by decide +kernel
theorem dX7_reads_195 : decode cX7_reads 195 = .ok (.iload_n 1, 1) := by decide +kernel
theorem dX7_reads_196 : decode cX7_reads 196 = .ok (.bipush 40, 2) := by decide +kernel
theorem dX7_reads_198 : decode cX7_reads 198 = .ok (.if_icmp .ne 10, 3) := by decide +kernel
theorem dX7_reads_201 : decode cX7_reads 201 = .ok (.aload_n 0, 1) := by decide +kernel
theorem dX7_reads_202 : decode cX7_reads 202 = .ok (.invokevirtual 184, 3) := by decide +kernel
theorem dX7_reads_205 : decode cX7_reads 205 = .ok (.goto 7, 3) := by decide +kernel
theorem dX7_reads_208 : decode cX7_reads 208 = .ok (.aload_n 0, 1) := by decide +kernel
theorem dX7_reads_209 : decode cX7_reads 209 = .ok (.invokevirtual 187, 3) := by decide +kernel
theorem dX7_reads_212 : decode cX7_reads 212 = .ok (.goto (-166), 3) := by decide +kernel
theorem dX7_reads_215 : decode cX7_reads 215 = .ok (.aload_n 0, 1) := by decide +kernel
theorem dX7_reads_216 : decode cX7_reads 216 = .ok (.getfield 117, 3) := by decide +kernel
theorem dX7_reads_219 : decode cX7_reads 219 = .ok (.ifCond .ne 11, 3) := by decide +kernel
theorem dX7_reads_222 : decode cX7_reads 222 = .ok (.aload_n 0, 1) := by decide +kernel
theorem dX7_reads_223 : decode cX7_reads 223 = .ok (.getfield 121, 3) := by decide +kernel
theorem dX7_reads_226 : decode cX7_reads 226 = .ok (.iconst 1, 1) := by decide +kernel
theorem dX7_reads_227 : decode cX7_reads 227 = .ok (.if_icmp .eq 5, 3) := by decide +kernel
theorem dX7_reads_230 : decode cX7_reads 230 = .ok (.iconst 0, 1) := by decide +kernel
theorem dX7_reads_231 : decode cX7_reads 231 = .ok (.ireturn, 1) := by decide +kernel
theorem dX7_reads_232 : decode cX7_reads 232 = .ok (.aload_n 0, 1) := by decide +kernel
theorem dX7_reads_233 : decode cX7_reads 233 = .ok (.invokevirtual 181, 3) := by decide +kernel
theorem dX7_reads_236 : decode cX7_reads 236 = .ok (.aload_n 0, 1) := by decide +kernel
theorem dX7_reads_237 : decode cX7_reads 237 = .ok (.bipush 16, 2) := by decide +kernel
theorem dX7_reads_239 : decode cX7_reads 239 = .ok (.iconst 0, 1) := by decide +kernel
theorem dX7_reads_240 : decode cX7_reads 240 = .ok (.iconst 0, 1) := by decide +kernel
theorem dX7_reads_241 : decode cX7_reads 241 = .ok (.iconst 0, 1) := by decide +kernel
theorem dX7_reads_242 : decode cX7_reads 242 = .ok (.invokevirtual 124, 3) := by decide +kernel
theorem dX7_reads_245 : decode cX7_reads 245 = .ok (.pop, 1) := by decide +kernel
theorem dX7_reads_246 : decode cX7_reads 246 = .ok (.aload_n 0, 1) := by decide +kernel
theorem dX7_reads_247 : decode cX7_reads 247 = .ok (.getfield 59, 3) := by decide +kernel
theorem dX7_reads_250 : decode cX7_reads 250 = .ok (.iconst 0, 1) := by decide +kernel
theorem dX7_reads_251 : decode cX7_reads 251 = .ok (.iaload, 1) := by decide +kernel
theorem dX7_reads_252 : decode cX7_reads 252 = .ok (.bipush 120, 2) := by decide +kernel
theorem dX7_reads_254 : decode cX7_reads 254 = .ok (.if_icmp .gt 27, 3) := by decide +kernel
theorem dX7_reads_257 : decode cX7_reads 257 = .ok (.aload_n 0, 1) := by decide +kernel
theorem dX7_reads_258 : decode cX7_reads 258 = .ok (.getfield 153, 3) := by decide +kernel
theorem dX7_reads_261 : decode cX7_reads 261 = .ok (.bipush 9, 2) := by decide +kernel
theorem dX7_reads_263 : decode cX7_reads 263 = .ok (.if_icmp .gt 18, 3) := by decide +kernel
theorem dX7_reads_266 : decode cX7_reads 266 = .ok (.aload_n 0, 1) := by decide +kernel
theorem dX7_reads_267 : decode cX7_reads 267 = .ok (.getfield 172, 3) := by decide +kernel
theorem dX7_reads_270 : decode cX7_reads 270 = .ok (.aload_n 0, 1) := by decide +kernel
theorem dX7_reads_271 : decode cX7_reads 271 = .ok (.getfield 153, 3) := by decide +kernel
theorem dX7_reads_274 : decode cX7_reads 274 = .ok (.if_icmp .gt 7, 3) := by decide +kernel
theorem dX7_reads_277 : decode cX7_reads 277 = .ok (.iconst 1, 1) := by decide +kernel
theorem dX7_reads_278 : decode cX7_reads 278 = .ok (.goto 4, 3) := by decide +kernel
theorem dX7_reads_281 : decode cX7_reads 281 = .ok (.iconst 0, 1) := by decide +kernel
theorem dX7_reads_282 : decode cX7_reads 282 = .ok (.ireturn, 1) := by decide +kernel
theorem dX7_take_0 : decode cX7_take 0 = .ok (.iconst 0, 1) := by decide +kernel
theorem dX7_take_1 : decode cX7_take 1 = .ok (.istore_n 2, 1) := by decide +kernel
theorem dX7_take_2 : decode cX7_take 2 = .ok (.iload_n 2, 1) := by decide +kernel
theorem dX7_take_3 : decode cX7_take 3 = .ok (.aload_n 0, 1) := by decide +kernel
theorem dX7_take_4 : decode cX7_take 4 = .ok (.getfield 114, 3) := by decide +kernel
theorem dX7_take_7 : decode cX7_take 7 = .ok (.if_icmp .ge 57, 3) := by decide +kernel
theorem dX7_take_10 : decode cX7_take 10 = .ok (.aload_n 0, 1) := by decide +kernel
theorem dX7_take_11 : decode cX7_take 11 = .ok (.getfield 19, 3) := by decide +kernel
theorem dX7_take_14 : decode cX7_take 14 = .ok (.iload_n 2, 1) := by decide +kernel
theorem dX7_take_15 : decode cX7_take 15 = .ok (.aload_n 0, 1) := by decide +kernel
theorem dX7_take_16 : decode cX7_take 16 = .ok (.getfield 35, 3) := by decide +kernel
theorem dX7_take_19 : decode cX7_take 19 = .ok (.iload_n 2, 1) := by decide +kernel
theorem dX7_take_20 : decode cX7_take 20 = .ok (.iaload, 1) := by decide +kernel
theorem dX7_take_21 : decode cX7_take 21 = .ok (.iastore, 1) := by decide +kernel
theorem dX7_take_22 : decode cX7_take 22 = .ok (.aload_n 0, 1) := by decide +kernel
theorem dX7_take_23 : decode cX7_take 23 = .ok (.getfield 23, 3) := by decide +kernel
theorem dX7_take_26 : decode cX7_take 26 = .ok (.iload_n 2, 1) := by decide +kernel
theorem dX7_take_27 : decode cX7_take 27 = .ok (.aload_n 0, 1) := by decide +kernel
theorem dX7_take_28 : decode cX7_take 28 = .ok (.getfield 38, 3) := by decide +kernel
theorem dX7_take_31 : decode cX7_take 31 = .ok (.iload_n 2, 1) := by decide +kernel
theorem dX7_take_32 : decode cX7_take 32 = .ok (.iaload, 1) := by decide +kernel
theorem dX7_take_33 : decode cX7_take 33 = .ok (.iastore, 1) := by decide +kernel
theorem dX7_take_34 : decode cX7_take 34 = .ok (.aload_n 0, 1) := by decide +kernel
theorem dX7_take_35 : decode cX7_take 35 = .ok (.getfield 26, 3) := by decide +kernel
theorem dX7_take_38 : decode cX7_take 38 = .ok (.iload_n 2, 1) := by decide +kernel
theorem dX7_take_39 : decode cX7_take 39 = .ok (.aload_n 0, 1) := by decide +kernel
theorem dX7_take_40 : decode cX7_take 40 = .ok (.getfield 41, 3) := by decide +kernel
theorem dX7_take_43 : decode cX7_take 43 = .ok (.iload_n 2, 1) := by decide +kernel
theorem dX7_take_44 : decode cX7_take 44 = .ok (.iaload, 1) := by decide +kernel
theorem dX7_take_45 : decode cX7_take 45 = .ok (.iastore, 1) := by decide +kernel
theorem dX7_take_46 : decode cX7_take 46 = .ok (.aload_n 0, 1) := by decide +kernel
theorem dX7_take_47 : decode cX7_take 47 = .ok (.getfield 29, 3) := by decide +kernel
theorem dX7_take_50 : decode cX7_take 50 = .ok (.iload_n 2, 1) := by decide +kernel
theorem dX7_take_51 : decode cX7_take 51 = .ok (.aload_n 0, 1) := by decide +kernel
theorem dX7_take_52 : decode cX7_take 52 = .ok (.getfield 44, 3) := by decide +kernel
theorem dX7_take_55 : decode cX7_take 55 = .ok (.iload_n 2, 1) := by decide +kernel
theorem dX7_take_56 : decode cX7_take 56 = .ok (.iaload, 1) := by decide +kernel
theorem dX7_take_57 : decode cX7_take 57 = .ok (.iastore, 1) := by decide +kernel
theorem dX7_take_58 : decode cX7_take 58 = .ok (.iinc 2 1, 3) := by decide +kernel
theorem dX7_take_61 : decode cX7_take 61 = .ok (.goto (-59), 3) := by decide +kernel
theorem dX7_take_64 : decode cX7_take 64 = .ok (.iconst 0, 1) := by decide +kernel
theorem dX7_take_65 : decode cX7_take 65 = .ok (.istore_n 2, 1) := by decide +kernel
theorem dX7_take_66 : decode cX7_take 66 = .ok (.iload_n 2, 1) := by decide +kernel
theorem dX7_take_67 : decode cX7_take 67 = .ok (.aload_n 0, 1) := by decide +kernel
theorem dX7_take_68 : decode cX7_take 68 = .ok (.getfield 86, 3) := by decide +kernel
theorem dX7_take_71 : decode cX7_take 71 = .ok (.if_icmp .ge 21, 3) := by decide +kernel
theorem dX7_take_74 : decode cX7_take 74 = .ok (.aload_n 0, 1) := by decide +kernel
theorem dX7_take_75 : decode cX7_take 75 = .ok (.getfield 16, 3) := by decide +kernel
theorem dX7_take_78 : decode cX7_take 78 = .ok (.iload_n 2, 1) := by decide +kernel
theorem dX7_take_79 : decode cX7_take 79 = .ok (.aload_n 0, 1) := by decide +kernel
theorem dX7_take_80 : decode cX7_take 80 = .ok (.getfield 32, 3) := by decide +kernel
theorem dX7_take_83 : decode cX7_take 83 = .ok (.iload_n 2, 1) := by decide +kernel
theorem dX7_take_84 : decode cX7_take 84 = .ok (.caload, 1) := by decide +kernel
theorem dX7_take_85 : decode cX7_take 85 = .ok (.castore, 1) := by decide +kernel
theorem dX7_take_86 : decode cX7_take 86 = .ok (.iinc 2 1, 3) := by decide +kernel
theorem dX7_take_89 : decode cX7_take 89 = .ok (.goto (-23), 3) := by decide +kernel
theorem dX7_take_92 : decode cX7_take 92 = .ok (.aload_n 0, 1) := by decide +kernel
theorem dX7_take_93 : decode cX7_take 93 = .ok (.aload_n 0, 1) := by decide +kernel
theorem dX7_take_94 : decode cX7_take 94 = .ok (.getfield 153, 3) := by decide +kernel
theorem dX7_take_97 : decode cX7_take 97 = .ok (.putfield 190, 3) := by decide +kernel
theorem dX7_take_100 : decode cX7_take 100 = .ok (.aload_n 0, 1) := by decide +kernel
theorem dX7_take_101 : decode cX7_take 101 = .ok (.iload_n 1, 1) := by decide +kernel
theorem dX7_take_102 : decode cX7_take 102 = .ok (.putfield 193, 3) := by decide +kernel
theorem dX7_take_105 : decode cX7_take 105 = .ok (.aload_n 0, 1) := by decide +kernel
theorem dX7_take_106 : decode cX7_take 106 = .ok (.iconst 0, 1) := by decide +kernel
theorem dX7_take_107 : decode cX7_take 107 = .ok (.putfield 196, 3) := by decide +kernel
theorem dX7_take_110 : decode cX7_take 110 = .ok (.aload_n 0, 1) := by decide +kernel
theorem dX7_take_111 : decode cX7_take 111 = .ok (.iconst 0, 1) := by decide +kernel
theorem dX7_take_112 : decode cX7_take 112 = .ok (.putfield 199, 3) := by decide +kernel
theorem dX7_take_115 : decode cX7_take 115 = .ok (.return_, 1) := by decide +kernel
theorem dX7_pattern_0 : decode cX7_pattern 0 = .ok (.aload_n 0, 1) := by decide +kernel
theorem dX7_pattern_1 : decode cX7_pattern 1 = .ok (.iconst 0, 1) := by decide +kernel
theorem dX7_pattern_2 : decode cX7_pattern 2 = .ok (.putfield 98, 3) := by decide +kernel
theorem dX7_pattern_5 : decode cX7_pattern 5 = .ok (.iload_n 1, 1) := by decide +kernel
theorem dX7_pattern_6 : decode cX7_pattern 6 = .ok (.ifCond .lt 9, 3) := by decide +kernel
theorem dX7_pattern_9 : decode cX7_pattern 9 = .ok (.iload_n 1, 1) := by decide +kernel
theorem dX7_pattern_10 : decode cX7_pattern 10 = .ok (.bipush 7, 2) := by decide +kernel
theorem dX7_pattern_12 : decode cX7_pattern 12 = .ok (.if_icmp .le 9, 3) := by decide +kernel
theorem dX7_pattern_15 : decode cX7_pattern 15 = .ok (.aload_n 0, 1) := by decide +kernel
theorem dX7_pattern_16 : decode cX7_pattern 16 = .ok (.iconst 1, 1) := by decide +kernel
theorem dX7_pattern_17 : decode cX7_pattern 17 = .ok (.invokevirtual 104, 3) := by decide +kernel
theorem dX7_pattern_20 : decode cX7_pattern 20 = .ok (.ireturn, 1) := by decide +kernel
theorem dX7_pattern_21 : decode cX7_pattern 21 = .ok (.iconst 0, 1) := by decide +kernel
theorem dX7_pattern_22 : decode cX7_pattern 22 = .ok (.istore_n 2, 1) := by decide +kernel
theorem dX7_pattern_23 : decode cX7_pattern 23 = .ok (.iload_n 2, 1) := by decide +kernel
theorem dX7_pattern_24 : decode cX7_pattern 24 = .ok (.aload_n 0, 1) := by decide +kernel
theorem dX7_pattern_25 : decode cX7_pattern 25 = .ok (.getfield 101, 3) := by decide +kernel
theorem dX7_pattern_28 : decode cX7_pattern 28 = .ok (.if_icmp .ge 21, 3) := by decide +kernel
theorem dX7_pattern_31 : decode cX7_pattern 31 = .ok (.aload_n 0, 1) := by decide +kernel
theorem dX7_pattern_32 : decode cX7_pattern 32 = .ok (.getfield 32, 3) := by decide +kernel
theorem dX7_pattern_35 : decode cX7_pattern 35 = .ok (.iload_n 2, 1) := by decide +kernel
theorem dX7_pattern_36 : decode cX7_pattern 36 = .ok (.aload_n 0, 1) := by decide +kernel
theorem dX7_pattern_37 : decode cX7_pattern 37 = .ok (.getfield 7, 3) := by decide +kernel
theorem dX7_pattern_40 : decode cX7_pattern 40 = .ok (.iload_n 2, 1) := by decide +kernel
theorem dX7_pattern_41 : decode cX7_pattern 41 = .ok (.caload, 1) := by decide +kernel
theorem dX7_pattern_42 : decode cX7_pattern 42 = .ok (.castore, 1) := by decide +kernel
theorem dX7_pattern_43 : decode cX7_pattern 43 = .ok (.iinc 2 1, 3) := by decide +kernel
theorem dX7_pattern_46 : decode cX7_pattern 46 = .ok (.goto (-23), 3) := by decide +kernel
theorem dX7_pattern_49 : decode cX7_pattern 49 = .ok (.aload_n 0, 1) := by decide +kernel
theorem dX7_pattern_50 : decode cX7_pattern 50 = .ok (.aload_n 0, 1) := by decide +kernel
theorem dX7_pattern_51 : decode cX7_pattern 51 = .ok (.getfield 101, 3) := by decide +kernel
theorem dX7_pattern_54 : decode cX7_pattern 54 = .ok (.putfield 86, 3) := by decide +kernel
theorem dX7_pattern_57 : decode cX7_pattern 57 = .ok (.aload_n 0, 1) := by decide +kernel
theorem dX7_pattern_58 : decode cX7_pattern 58 = .ok (.iconst 0, 1) := by decide +kernel
theorem dX7_pattern_59 : decode cX7_pattern 59 = .ok (.putfield 101, 3) := by decide +kernel
theorem dX7_pattern_62 : decode cX7_pattern 62 = .ok (.aload_n 0, 1) := by decide +kernel
theorem dX7_pattern_63 : decode cX7_pattern 63 = .ok (.invokevirtual 90, 3) := by decide +kernel
theorem dX7_pattern_66 : decode cX7_pattern 66 = .ok (.ifCond .ne 9, 3) := by decide +kernel
theorem dX7_pattern_69 : decode cX7_pattern 69 = .ok (.aload_n 0, 1) := by decide +kernel
theorem dX7_pattern_70 : decode cX7_pattern 70 = .ok (.iconst 1, 1) := by decide +kernel
theorem dX7_pattern_71 : decode cX7_pattern 71 = .ok (.invokevirtual 104, 3) := by decide +kernel
theorem dX7_pattern_74 : decode cX7_pattern 74 = .ok (.ireturn, 1) := by decide +kernel
theorem dX7_pattern_75 : decode cX7_pattern 75 = .ok (.aload_n 0, 1) := by decide +kernel
theorem dX7_pattern_76 : decode cX7_pattern 76 = .ok (.iload_n 1, 1) := by decide +kernel
theorem dX7_pattern_77 : decode cX7_pattern 77 = .ok (.invokevirtual 94, 3) := by decide +kernel
theorem dX7_pattern_80 : decode cX7_pattern 80 = .ok (.aload_n 0, 1) := by decide +kernel
theorem dX7_pattern_81 : decode cX7_pattern 81 = .ok (.getfield 190, 3) := by decide +kernel
theorem dX7_pattern_84 : decode cX7_pattern 84 = .ok (.ireturn, 1) := by decide +kernel
theorem dX7_text_0 : decode cX7_text 0 = .ok (.aload_n 0, 1) := by decide +kernel
theorem dX7_text_1 : decode cX7_text 1 = .ok (.iconst 0, 1) := by decide +kernel
theorem dX7_text_2 : decode cX7_text 2 = .ok (.putfield 98, 3) := by decide +kernel
theorem dX7_text_5 : decode cX7_text 5 = .ok (.aload_n 0, 1) := by decide +kernel
theorem dX7_text_6 : decode cX7_text 6 = .ok (.getfield 101, 3) := by decide +kernel
theorem dX7_text_9 : decode cX7_text 9 = .ok (.bipush 24, 2) := by decide +kernel
theorem dX7_text_11 : decode cX7_text 11 = .ok (.if_icmp .le 9, 3) := by decide +kernel
theorem dX7_text_14 : decode cX7_text 14 = .ok (.aload_n 0, 1) := by decide +kernel
theorem dX7_text_15 : decode cX7_text 15 = .ok (.iconst 1, 1) := by decide +kernel
theorem dX7_text_16 : decode cX7_text 16 = .ok (.invokevirtual 104, 3) := by decide +kernel
theorem dX7_text_19 : decode cX7_text 19 = .ok (.ireturn, 1) := by decide +kernel
theorem dX7_text_20 : decode cX7_text 20 = .ok (.iconst 0, 1) := by decide +kernel
theorem dX7_text_21 : decode cX7_text 21 = .ok (.istore_n 1, 1) := by decide +kernel
theorem dX7_text_22 : decode cX7_text 22 = .ok (.iload_n 1, 1) := by decide +kernel
theorem dX7_text_23 : decode cX7_text 23 = .ok (.aload_n 0, 1) := by decide +kernel
theorem dX7_text_24 : decode cX7_text 24 = .ok (.getfield 101, 3) := by decide +kernel
theorem dX7_text_27 : decode cX7_text 27 = .ok (.if_icmp .ge 21, 3) := by decide +kernel
theorem dX7_text_30 : decode cX7_text 30 = .ok (.aload_n 0, 1) := by decide +kernel
theorem dX7_text_31 : decode cX7_text 31 = .ok (.getfield 13, 3) := by decide +kernel
theorem dX7_text_34 : decode cX7_text 34 = .ok (.iload_n 1, 1) := by decide +kernel
theorem dX7_text_35 : decode cX7_text 35 = .ok (.aload_n 0, 1) := by decide +kernel
theorem dX7_text_36 : decode cX7_text 36 = .ok (.getfield 7, 3) := by decide +kernel
theorem dX7_text_39 : decode cX7_text 39 = .ok (.iload_n 1, 1) := by decide +kernel
theorem dX7_text_40 : decode cX7_text 40 = .ok (.caload, 1) := by decide +kernel
theorem dX7_text_41 : decode cX7_text 41 = .ok (.castore, 1) := by decide +kernel
theorem dX7_text_42 : decode cX7_text 42 = .ok (.iinc 1 1, 3) := by decide +kernel
theorem dX7_text_45 : decode cX7_text 45 = .ok (.goto (-23), 3) := by decide +kernel
theorem dX7_text_48 : decode cX7_text 48 = .ok (.aload_n 0, 1) := by decide +kernel
theorem dX7_text_49 : decode cX7_text 49 = .ok (.aload_n 0, 1) := by decide +kernel
theorem dX7_text_50 : decode cX7_text 50 = .ok (.getfield 101, 3) := by decide +kernel
theorem dX7_text_53 : decode cX7_text 53 = .ok (.putfield 202, 3) := by decide +kernel
theorem dX7_text_56 : decode cX7_text 56 = .ok (.aload_n 0, 1) := by decide +kernel
theorem dX7_text_57 : decode cX7_text 57 = .ok (.iconst 0, 1) := by decide +kernel
theorem dX7_text_58 : decode cX7_text 58 = .ok (.putfield 101, 3) := by decide +kernel
theorem dX7_text_61 : decode cX7_text 61 = .ok (.aload_n 0, 1) := by decide +kernel
theorem dX7_text_62 : decode cX7_text 62 = .ok (.iconst 0, 1) := by decide +kernel
theorem dX7_text_63 : decode cX7_text 63 = .ok (.putfield 196, 3) := by decide +kernel
theorem dX7_text_66 : decode cX7_text 66 = .ok (.aload_n 0, 1) := by decide +kernel
theorem dX7_text_67 : decode cX7_text 67 = .ok (.iconst 0, 1) := by decide +kernel
theorem dX7_text_68 : decode cX7_text 68 = .ok (.putfield 199, 3) := by decide +kernel
theorem dX7_text_71 : decode cX7_text 71 = .ok (.aload_n 0, 1) := by decide +kernel
theorem dX7_text_72 : decode cX7_text 72 = .ok (.getfield 202, 3) := by decide +kernel
theorem dX7_text_75 : decode cX7_text 75 = .ok (.ireturn, 1) := by decide +kernel
theorem dX7_start_0 : decode cX7_start 0 = .ok (.aload_n 0, 1) := by decide +kernel
theorem dX7_start_1 : decode cX7_start 1 = .ok (.iconst 0, 1) := by decide +kernel
theorem dX7_start_2 : decode cX7_start 2 = .ok (.putfield 98, 3) := by decide +kernel
theorem dX7_start_5 : decode cX7_start 5 = .ok (.iload_n 1, 1) := by decide +kernel
theorem dX7_start_6 : decode cX7_start 6 = .ok (.ifCond .lt 9, 3) := by decide +kernel
theorem dX7_start_9 : decode cX7_start 9 = .ok (.iload_n 1, 1) := by decide +kernel
theorem dX7_start_10 : decode cX7_start 10 = .ok (.bipush 24, 2) := by decide +kernel
theorem dX7_start_12 : decode cX7_start 12 = .ok (.if_icmp .le 9, 3) := by decide +kernel
theorem dX7_start_15 : decode cX7_start 15 = .ok (.aload_n 0, 1) := by decide +kernel
theorem dX7_start_16 : decode cX7_start 16 = .ok (.iconst 1, 1) := by decide +kernel
theorem dX7_start_17 : decode cX7_start 17 = .ok (.invokevirtual 104, 3) := by decide +kernel
theorem dX7_start_20 : decode cX7_start 20 = .ok (.ireturn, 1) := by decide +kernel
theorem dX7_start_21 : decode cX7_start 21 = .ok (.aload_n 0, 1) := by decide +kernel
theorem dX7_start_22 : decode cX7_start 22 = .ok (.iload_n 1, 1) := by decide +kernel
theorem dX7_start_23 : decode cX7_start 23 = .ok (.putfield 196, 3) := by decide +kernel
theorem dX7_start_26 : decode cX7_start 26 = .ok (.iload_n 1, 1) := by decide +kernel
theorem dX7_start_27 : decode cX7_start 27 = .ok (.ireturn, 1) := by decide +kernel
theorem dX7_has_0 : decode cX7_has 0 = .ok (.aload_n 0, 1) := by decide +kernel
theorem dX7_has_1 : decode cX7_has 1 = .ok (.getfield 193, 3) := by decide +kernel
theorem dX7_has_4 : decode cX7_has 4 = .ok (.iload_n 1, 1) := by decide +kernel
theorem dX7_has_5 : decode cX7_has 5 = .ok (.iand, 1) := by decide +kernel
theorem dX7_has_6 : decode cX7_has 6 = .ok (.ifCond .eq 7, 3) := by decide +kernel
theorem dX7_has_9 : decode cX7_has 9 = .ok (.iconst 1, 1) := by decide +kernel
theorem dX7_has_10 : decode cX7_has 10 = .ok (.goto 4, 3) := by decide +kernel
theorem dX7_has_13 : decode cX7_has 13 = .ok (.iconst 0, 1) := by decide +kernel
theorem dX7_has_14 : decode cX7_has 14 = .ok (.ireturn, 1) := by decide +kernel
theorem dX7_other_0 : decode cX7_other 0 = .ok (.iload_n 0, 1) := by decide +kernel
theorem dX7_other_1 : decode cX7_other 1 = .ok (.bipush 97, 2) := by decide +kernel
theorem dX7_other_3 : decode cX7_other 3 = .ok (.if_icmp .lt 16, 3) := by decide +kernel
theorem dX7_other_6 : decode cX7_other 6 = .ok (.iload_n 0, 1) := by decide +kernel
theorem dX7_other_7 : decode cX7_other 7 = .ok (.bipush 122, 2) := by decide +kernel
theorem dX7_other_9 : decode cX7_other 9 = .ok (.if_icmp .gt 10, 3) := by decide +kernel
theorem dX7_other_12 : decode cX7_other 12 = .ok (.iload_n 0, 1) := by decide +kernel
theorem dX7_other_13 : decode cX7_other 13 = .ok (.bipush 32, 2) := by decide +kernel
theorem dX7_other_15 : decode cX7_other 15 = .ok (.isub, 1) := by decide +kernel
theorem dX7_other_16 : decode cX7_other 16 = .ok (.goto 23, 3) := by decide +kernel
theorem dX7_other_19 : decode cX7_other 19 = .ok (.iload_n 0, 1) := by decide +kernel
theorem dX7_other_20 : decode cX7_other 20 = .ok (.bipush 65, 2) := by decide +kernel
theorem dX7_other_22 : decode cX7_other 22 = .ok (.if_icmp .lt 16, 3) := by decide +kernel
theorem dX7_other_25 : decode cX7_other 25 = .ok (.iload_n 0, 1) := by decide +kernel
theorem dX7_other_26 : decode cX7_other 26 = .ok (.bipush 90, 2) := by decide +kernel
theorem dX7_other_28 : decode cX7_other 28 = .ok (.if_icmp .gt 10, 3) := by decide +kernel
theorem dX7_other_31 : decode cX7_other 31 = .ok (.iload_n 0, 1) := by decide +kernel
theorem dX7_other_32 : decode cX7_other 32 = .ok (.bipush 32, 2) := by decide +kernel
theorem dX7_other_34 : decode cX7_other 34 = .ok (.iadd, 1) := by decide +kernel
theorem dX7_other_35 : decode cX7_other 35 = .ok (.goto 4, 3) := by decide +kernel
theorem dX7_other_38 : decode cX7_other 38 = .ok (.iload_n 0, 1) := by decide +kernel
theorem dX7_other_39 : decode cX7_other 39 = .ok (.ireturn, 1) := by decide +kernel
theorem dX7_inClass_0 : decode cX7_inClass 0 = .ok (.iload_n 1, 1) := by decide +kernel
theorem dX7_inClass_1 : decode cX7_inClass 1 = .ok (.invokestatic 145, 3) := by decide +kernel
theorem dX7_inClass_4 : decode cX7_inClass 4 = .ok (.ifCond .ne 33, 3) := by decide +kernel
theorem dX7_inClass_7 : decode cX7_inClass 7 = .ok (.iload_n 1, 1) := by decide +kernel
theorem dX7_inClass_8 : decode cX7_inClass 8 = .ok (.bipush 97, 2) := by decide +kernel
theorem dX7_inClass_10 : decode cX7_inClass 10 = .ok (.if_icmp .lt 9, 3) := by decide +kernel
theorem dX7_inClass_13 : decode cX7_inClass 13 = .ok (.iload_n 1, 1) := by decide +kernel
theorem dX7_inClass_14 : decode cX7_inClass 14 = .ok (.bipush 122, 2) := by decide +kernel
theorem dX7_inClass_16 : decode cX7_inClass 16 = .ok (.if_icmp .le 21, 3) := by decide +kernel
theorem dX7_inClass_19 : decode cX7_inClass 19 = .ok (.iload_n 1, 1) := by decide +kernel
theorem dX7_inClass_20 : decode cX7_inClass 20 = .ok (.bipush 65, 2) := by decide +kernel
theorem dX7_inClass_22 : decode cX7_inClass 22 = .ok (.if_icmp .lt 9, 3) := by decide +kernel
theorem dX7_inClass_25 : decode cX7_inClass 25 = .ok (.iload_n 1, 1) := by decide +kernel
theorem dX7_inClass_26 : decode cX7_inClass 26 = .ok (.bipush 90, 2) := by decide +kernel
theorem dX7_inClass_28 : decode cX7_inClass 28 = .ok (.if_icmp .le 9, 3) := by decide +kernel
theorem dX7_inClass_31 : decode cX7_inClass 31 = .ok (.iload_n 1, 1) := by decide +kernel
theorem dX7_inClass_32 : decode cX7_inClass 32 = .ok (.bipush 95, 2) := by decide +kernel
theorem dX7_inClass_34 : decode cX7_inClass 34 = .ok (.if_icmp .ne 7, 3) := by decide +kernel
theorem dX7_inClass_37 : decode cX7_inClass 37 = .ok (.iconst 1, 1) := by decide +kernel
theorem dX7_inClass_38 : decode cX7_inClass 38 = .ok (.goto 4, 3) := by decide +kernel
theorem dX7_inClass_41 : decode cX7_inClass 41 = .ok (.iconst 0, 1) := by decide +kernel
theorem dX7_inClass_42 : decode cX7_inClass 42 = .ok (.istore_n 2, 1) := by decide +kernel
theorem dX7_inClass_43 : decode cX7_inClass 43 = .ok (.iload_n 0, 1) := by decide +kernel
theorem dX7_inClass_44 : decode cX7_inClass 44 = .ok (.lookupswitch 94 #[(68, 71), (87, 84), (100, 52), (115, 59), (119, 57)], 52) := by decide +kernel
theorem dX7_inClass_96 : decode cX7_inClass 96 = .ok (.iload_n 1, 1) := by decide +kernel
theorem dX7_inClass_97 : decode cX7_inClass 97 = .ok (.invokestatic 145, 3) := by decide +kernel
theorem dX7_inClass_100 : decode cX7_inClass 100 = .ok (.ireturn, 1) := by decide +kernel
theorem dX7_inClass_101 : decode cX7_inClass 101 = .ok (.iload_n 2, 1) := by decide +kernel
theorem dX7_inClass_102 : decode cX7_inClass 102 = .ok (.ireturn, 1) := by decide +kernel
theorem dX7_inClass_103 : decode cX7_inClass 103 = .ok (.iload_n 1, 1) := by decide +kernel
theorem dX7_inClass_104 : decode cX7_inClass 104 = .ok (.bipush 32, 2) := by decide +kernel
theorem dX7_inClass_106 : decode cX7_inClass 106 = .ok (.if_icmp .ne 7, 3) := by decide +kernel
theorem dX7_inClass_109 : decode cX7_inClass 109 = .ok (.iconst 1, 1) := by decide +kernel
theorem dX7_inClass_110 : decode cX7_inClass 110 = .ok (.goto 4, 3) := by decide +kernel
theorem dX7_inClass_113 : decode cX7_inClass 113 = .ok (.iconst 0, 1) := by decide +kernel
theorem dX7_inClass_114 : decode cX7_inClass 114 = .ok (.ireturn, 1) := by decide +kernel
theorem dX7_inClass_115 : decode cX7_inClass 115 = .ok (.iload_n 1, 1) := by decide +kernel
theorem dX7_inClass_116 : decode cX7_inClass 116 = .ok (.invokestatic 145, 3) := by decide +kernel
theorem dX7_inClass_119 : decode cX7_inClass 119 = .ok (.ifCond .ne 7, 3) := by decide +kernel
theorem dX7_inClass_122 : decode cX7_inClass 122 = .ok (.iconst 1, 1) := by decide +kernel
theorem dX7_inClass_123 : decode cX7_inClass 123 = .ok (.goto 4, 3) := by decide +kernel
theorem dX7_inClass_126 : decode cX7_inClass 126 = .ok (.iconst 0, 1) := by decide +kernel
theorem dX7_inClass_127 : decode cX7_inClass 127 = .ok (.ireturn, 1) := by decide +kernel
theorem dX7_inClass_128 : decode cX7_inClass 128 = .ok (.iload_n 2, 1) := by decide +kernel
theorem dX7_inClass_129 : decode cX7_inClass 129 = .ok (.ifCond .ne 7, 3) := by decide +kernel
theorem dX7_inClass_132 : decode cX7_inClass 132 = .ok (.iconst 1, 1) := by decide +kernel
theorem dX7_inClass_133 : decode cX7_inClass 133 = .ok (.goto 4, 3) := by decide +kernel
theorem dX7_inClass_136 : decode cX7_inClass 136 = .ok (.iconst 0, 1) := by decide +kernel
theorem dX7_inClass_137 : decode cX7_inClass 137 = .ok (.ireturn, 1) := by decide +kernel
theorem dX7_inClass_138 : decode cX7_inClass 138 = .ok (.iload_n 1, 1) := by decide +kernel
theorem dX7_inClass_139 : decode cX7_inClass 139 = .ok (.bipush 32, 2) := by decide +kernel
theorem dX7_inClass_141 : decode cX7_inClass 141 = .ok (.if_icmp .eq 7, 3) := by decide +kernel
theorem dX7_inClass_144 : decode cX7_inClass 144 = .ok (.iconst 1, 1) := by decide +kernel
theorem dX7_inClass_145 : decode cX7_inClass 145 = .ok (.goto 4, 3) := by decide +kernel
theorem dX7_inClass_148 : decode cX7_inClass 148 = .ok (.iconst 0, 1) := by decide +kernel
theorem dX7_inClass_149 : decode cX7_inClass 149 = .ok (.ireturn, 1) := by decide +kernel
theorem dX7_inSet_0 : decode cX7_inSet 0 = .ok (.iconst 0, 1) := by decide +kernel
theorem dX7_inSet_1 : decode cX7_inSet 1 = .ok (.istore 4, 2) := by decide +kernel
theorem dX7_inSet_3 : decode cX7_inSet 3 = .ok (.iconst 1, 1) := by decide +kernel
theorem dX7_inSet_4 : decode cX7_inSet 4 = .ok (.istore 5, 2) := by decide +kernel
theorem dX7_inSet_6 : decode cX7_inSet 6 = .ok (.iload_n 1, 1) := by decide +kernel
theorem dX7_inSet_7 : decode cX7_inSet 7 = .ok (.istore 6, 2) := by decide +kernel
theorem dX7_inSet_9 : decode cX7_inSet 9 = .ok (.iload 6, 2) := by decide +kernel
theorem dX7_inSet_11 : decode cX7_inSet 11 = .ok (.iload_n 2, 1) := by decide +kernel
theorem dX7_inSet_12 : decode cX7_inSet 12 = .ok (.if_icmp .ge 219, 3) := by decide +kernel
theorem dX7_inSet_15 : decode cX7_inSet 15 = .ok (.iload 5, 2) := by decide +kernel
theorem dX7_inSet_17 : decode cX7_inSet 17 = .ok (.ifCond .eq 19, 3) := by decide +kernel
theorem dX7_inSet_20 : decode cX7_inSet 20 = .ok (.aload_n 0, 1) := by decide +kernel
theorem dX7_inSet_21 : decode cX7_inSet 21 = .ok (.getfield 16, 3) := by decide +kernel
theorem dX7_inSet_24 : decode cX7_inSet 24 = .ok (.iload 6, 2) := by decide +kernel
theorem dX7_inSet_26 : decode cX7_inSet 26 = .ok (.caload, 1) := by decide +kernel
theorem dX7_inSet_27 : decode cX7_inSet 27 = .ok (.bipush 45, 2) := by decide +kernel
theorem dX7_inSet_29 : decode cX7_inSet 29 = .ok (.if_icmp .ne 7, 3) := by decide +kernel
theorem dX7_inSet_32 : decode cX7_inSet 32 = .ok (.iconst 1, 1) := by decide +kernel
theorem dX7_inSet_33 : decode cX7_inSet 33 = .ok (.goto 4, 3) := by decide +kernel
theorem dX7_inSet_36 : decode cX7_inSet 36 = .ok (.iconst 0, 1) := by decide +kernel
theorem dX7_inSet_37 : decode cX7_inSet 37 = .ok (.istore 7, 2) := by decide +kernel
theorem dX7_inSet_39 : decode cX7_inSet 39 = .ok (.aload_n 0, 1) := by decide +kernel
theorem dX7_inSet_40 : decode cX7_inSet 40 = .ok (.getfield 16, 3) := by decide +kernel
theorem dX7_inSet_43 : decode cX7_inSet 43 = .ok (.iload 6, 2) := by decide +kernel
theorem dX7_inSet_45 : decode cX7_inSet 45 = .ok (.caload, 1) := by decide +kernel
theorem dX7_inSet_46 : decode cX7_inSet 46 = .ok (.bipush 92, 2) := by decide +kernel
theorem dX7_inSet_48 : decode cX7_inSet 48 = .ok (.if_icmp .ne 7, 3) := by decide +kernel
theorem dX7_inSet_51 : decode cX7_inSet 51 = .ok (.iconst 1, 1) := by decide +kernel
theorem dX7_inSet_52 : decode cX7_inSet 52 = .ok (.goto 4, 3) := by decide +kernel
theorem dX7_inSet_55 : decode cX7_inSet 55 = .ok (.iconst 0, 1) := by decide +kernel
theorem dX7_inSet_56 : decode cX7_inSet 56 = .ok (.istore 8, 2) := by decide +kernel
theorem dX7_inSet_58 : decode cX7_inSet 58 = .ok (.iload 6, 2) := by decide +kernel
theorem dX7_inSet_60 : decode cX7_inSet 60 = .ok (.iload 8, 2) := by decide +kernel
theorem dX7_inSet_62 : decode cX7_inSet 62 = .ok (.ifCond .eq 7, 3) := by decide +kernel
theorem dX7_inSet_65 : decode cX7_inSet 65 = .ok (.iconst 1, 1) := by decide +kernel
theorem dX7_inSet_66 : decode cX7_inSet 66 = .ok (.goto 4, 3) := by decide +kernel
theorem dX7_inSet_69 : decode cX7_inSet 69 = .ok (.iconst 0, 1) := by decide +kernel
theorem dX7_inSet_70 : decode cX7_inSet 70 = .ok (.iadd, 1) := by decide +kernel
theorem dX7_inSet_71 : decode cX7_inSet 71 = .ok (.istore 6, 2) := by decide +kernel
theorem dX7_inSet_73 : decode cX7_inSet 73 = .ok (.aload_n 0, 1) := by decide +kernel
theorem dX7_inSet_74 : decode cX7_inSet 74 = .ok (.getfield 16, 3) := by decide +kernel
theorem dX7_inSet_77 : decode cX7_inSet 77 = .ok (.iload 6, 2) := by decide +kernel
theorem dX7_inSet_79 : decode cX7_inSet 79 = .ok (.caload, 1) := by decide +kernel
theorem dX7_inSet_80 : decode cX7_inSet 80 = .ok (.istore 9, 2) := by decide +kernel
theorem dX7_inSet_82 : decode cX7_inSet 82 = .ok (.iinc 6 1, 3) := by decide +kernel
theorem dX7_inSet_85 : decode cX7_inSet 85 = .ok (.iload 8, 2) := by decide +kernel
theorem dX7_inSet_87 : decode cX7_inSet 87 = .ok (.ifCond .eq 15, 3) := by decide +kernel
theorem dX7_inSet_90 : decode cX7_inSet 90 = .ok (.iload 9, 2) := by decide +kernel
theorem dX7_inSet_92 : decode cX7_inSet 92 = .ok (.invokestatic 165, 3) := by decide +kernel
theorem dX7_inSet_95 : decode cX7_inSet 95 = .ok (.ifCond .eq 7, 3) := by decide +kernel
theorem dX7_inSet_98 : decode cX7_inSet 98 = .ok (.iconst 1, 1) := by decide +kernel
theorem dX7_inSet_99 : decode cX7_inSet 99 = .ok (.goto 4, 3) := by decide +kernel
theorem dX7_inSet_102 : decode cX7_inSet 102 = .ok (.iconst 0, 1) := by decide +kernel
theorem dX7_inSet_103 : decode cX7_inSet 103 = .ok (.istore 10, 2) := by decide +kernel
theorem dX7_inSet_105 : decode cX7_inSet 105 = .ok (.iload 7, 2) := by decide +kernel
theorem dX7_inSet_107 : decode cX7_inSet 107 = .ok (.ifCond .ne 32, 3) := by decide +kernel
theorem dX7_inSet_110 : decode cX7_inSet 110 = .ok (.iload 10, 2) := by decide +kernel
theorem dX7_inSet_112 : decode cX7_inSet 112 = .ok (.ifCond .ne 27, 3) := by decide +kernel
theorem dX7_inSet_115 : decode cX7_inSet 115 = .ok (.iload 6, 2) := by decide +kernel
theorem dX7_inSet_117 : decode cX7_inSet 117 = .ok (.iconst 1, 1) := by decide +kernel
theorem dX7_inSet_118 : decode cX7_inSet 118 = .ok (.iadd, 1) := by decide +kernel
theorem dX7_inSet_119 : decode cX7_inSet 119 = .ok (.iload_n 2, 1) := by decide +kernel
theorem dX7_inSet_120 : decode cX7_inSet 120 = .ok (.if_icmp .ge 19, 3) := by decide +kernel
theorem dX7_inSet_123 : decode cX7_inSet 123 = .ok (.aload_n 0, 1) := by decide +kernel
theorem dX7_inSet_124 : decode cX7_inSet 124 = .ok (.getfield 16, 3) := by decide +kernel
theorem dX7_inSet_127 : decode cX7_inSet 127 = .ok (.iload 6, 2) := by decide +kernel
theorem dX7_inSet_129 : decode cX7_inSet 129 = .ok (.caload, 1) := by decide +kernel
theorem dX7_inSet_130 : decode cX7_inSet 130 = .ok (.bipush 45, 2) := by decide +kernel
theorem dX7_inSet_132 : decode cX7_inSet 132 = .ok (.if_icmp .ne 7, 3) := by decide +kernel
theorem dX7_inSet_135 : decode cX7_inSet 135 = .ok (.iconst 1, 1) := by decide +kernel
theorem dX7_inSet_136 : decode cX7_inSet 136 = .ok (.goto 4, 3) := by decide +kernel
theorem dX7_inSet_139 : decode cX7_inSet 139 = .ok (.iconst 0, 1) := by decide +kernel
theorem dX7_inSet_140 : decode cX7_inSet 140 = .ok (.istore 5, 2) := by decide +kernel
theorem dX7_inSet_142 : decode cX7_inSet 142 = .ok (.iload 9, 2) := by decide +kernel
theorem dX7_inSet_144 : decode cX7_inSet 144 = .ok (.istore 11, 2) := by decide +kernel
theorem dX7_inSet_146 : decode cX7_inSet 146 = .ok (.iload 5, 2) := by decide +kernel
theorem dX7_inSet_148 : decode cX7_inSet 148 = .ok (.ifCond .eq 39, 3) := by decide +kernel
theorem dX7_inSet_151 : decode cX7_inSet 151 = .ok (.iload 6, 2) := by decide +kernel
theorem dX7_inSet_153 : decode cX7_inSet 153 = .ok (.aload_n 0, 1) := by decide +kernel
theorem dX7_inSet_154 : decode cX7_inSet 154 = .ok (.getfield 16, 3) := by decide +kernel
theorem dX7_inSet_157 : decode cX7_inSet 157 = .ok (.iload 6, 2) := by decide +kernel
theorem dX7_inSet_159 : decode cX7_inSet 159 = .ok (.iconst 1, 1) := by decide +kernel
theorem dX7_inSet_160 : decode cX7_inSet 160 = .ok (.iadd, 1) := by decide +kernel
theorem dX7_inSet_161 : decode cX7_inSet 161 = .ok (.caload, 1) := by decide +kernel
theorem dX7_inSet_162 : decode cX7_inSet 162 = .ok (.bipush 92, 2) := by decide +kernel
theorem dX7_inSet_164 : decode cX7_inSet 164 = .ok (.if_icmp .ne 7, 3) := by decide +kernel
theorem dX7_inSet_167 : decode cX7_inSet 167 = .ok (.iconst 2, 1) := by decide +kernel
theorem dX7_inSet_168 : decode cX7_inSet 168 = .ok (.goto 4, 3) := by decide +kernel
theorem dX7_inSet_171 : decode cX7_inSet 171 = .ok (.iconst 1, 1) := by decide +kernel
theorem dX7_inSet_172 : decode cX7_inSet 172 = .ok (.iadd, 1) := by decide +kernel
theorem dX7_inSet_173 : decode cX7_inSet 173 = .ok (.istore 6, 2) := by decide +kernel
theorem dX7_inSet_175 : decode cX7_inSet 175 = .ok (.aload_n 0, 1) := by decide +kernel
theorem dX7_inSet_176 : decode cX7_inSet 176 = .ok (.getfield 16, 3) := by decide +kernel
theorem dX7_inSet_179 : decode cX7_inSet 179 = .ok (.iload 6, 2) := by decide +kernel
theorem dX7_inSet_181 : decode cX7_inSet 181 = .ok (.caload, 1) := by decide +kernel
theorem dX7_inSet_182 : decode cX7_inSet 182 = .ok (.istore 11, 2) := by decide +kernel
theorem dX7_inSet_184 : decode cX7_inSet 184 = .ok (.iinc 6 1, 3) := by decide +kernel
theorem dX7_inSet_187 : decode cX7_inSet 187 = .ok (.iload 4, 2) := by decide +kernel
theorem dX7_inSet_189 : decode cX7_inSet 189 = .ok (.ifCond .ne 32, 3) := by decide +kernel
theorem dX7_inSet_192 : decode cX7_inSet 192 = .ok (.iload 10, 2) := by decide +kernel
theorem dX7_inSet_194 : decode cX7_inSet 194 = .ok (.ifCond .eq 15, 3) := by decide +kernel
theorem dX7_inSet_197 : decode cX7_inSet 197 = .ok (.iload 9, 2) := by decide +kernel
theorem dX7_inSet_199 : decode cX7_inSet 199 = .ok (.iload_n 3, 1) := by decide +kernel
theorem dX7_inSet_200 : decode cX7_inSet 200 = .ok (.invokestatic 205, 3) := by decide +kernel
theorem dX7_inSet_203 : decode cX7_inSet 203 = .ok (.ifCond .eq 22, 3) := by decide +kernel
theorem dX7_inSet_206 : decode cX7_inSet 206 = .ok (.goto 15, 3) := by decide +kernel
theorem dX7_inSet_209 : decode cX7_inSet 209 = .ok (.iload_n 3, 1) := by decide +kernel
theorem dX7_inSet_210 : decode cX7_inSet 210 = .ok (.iload 9, 2) := by decide +kernel
theorem dX7_inSet_212 : decode cX7_inSet 212 = .ok (.if_icmp .lt 13, 3) := by decide +kernel
theorem dX7_inSet_215 : decode cX7_inSet 215 = .ok (.iload_n 3, 1) := by decide +kernel
theorem dX7_inSet_216 : decode cX7_inSet 216 = .ok (.iload 11, 2) := by decide +kernel
theorem dX7_inSet_218 : decode cX7_inSet 218 = .ok (.if_icmp .gt 7, 3) := by decide +kernel
theorem dX7_inSet_221 : decode cX7_inSet 221 = .ok (.iconst 1, 1) := by decide +kernel
theorem dX7_inSet_222 : decode cX7_inSet 222 = .ok (.goto 4, 3) := by decide +kernel
theorem dX7_inSet_225 : decode cX7_inSet 225 = .ok (.iconst 0, 1) := by decide +kernel
theorem dX7_inSet_226 : decode cX7_inSet 226 = .ok (.istore 4, 2) := by decide +kernel
theorem dX7_inSet_228 : decode cX7_inSet 228 = .ok (.goto (-219), 3) := by decide +kernel
theorem dX7_inSet_231 : decode cX7_inSet 231 = .ok (.iload 4, 2) := by decide +kernel
theorem dX7_inSet_233 : decode cX7_inSet 233 = .ok (.ireturn, 1) := by decide +kernel
theorem dX7_fits_0 : decode cX7_fits 0 = .ok (.aload_n 0, 1) := by decide +kernel
theorem dX7_fits_1 : decode cX7_fits 1 = .ok (.getfield 19, 3) := by decide +kernel
theorem dX7_fits_4 : decode cX7_fits 4 = .ok (.iload_n 1, 1) := by decide +kernel
theorem dX7_fits_5 : decode cX7_fits 5 = .ok (.iaload, 1) := by decide +kernel
theorem dX7_fits_6 : decode cX7_fits 6 = .ok (.tableswitch 73 3 5 #[26, 42, 62], 26) := by decide +kernel
theorem dX7_fits_32 : decode cX7_fits 32 = .ok (.iload_n 2, 1) := by decide +kernel
theorem dX7_fits_33 : decode cX7_fits 33 = .ok (.aload_n 0, 1) := by decide +kernel
theorem dX7_fits_34 : decode cX7_fits 34 = .ok (.getfield 23, 3) := by decide +kernel
theorem dX7_fits_37 : decode cX7_fits 37 = .ok (.iload_n 1, 1) := by decide +kernel
theorem dX7_fits_38 : decode cX7_fits 38 = .ok (.iaload, 1) := by decide +kernel
theorem dX7_fits_39 : decode cX7_fits 39 = .ok (.if_icmp .ne 7, 3) := by decide +kernel
theorem dX7_fits_42 : decode cX7_fits 42 = .ok (.iconst 1, 1) := by decide +kernel
theorem dX7_fits_43 : decode cX7_fits 43 = .ok (.goto 4, 3) := by decide +kernel
theorem dX7_fits_46 : decode cX7_fits 46 = .ok (.iconst 0, 1) := by decide +kernel
theorem dX7_fits_47 : decode cX7_fits 47 = .ok (.ireturn, 1) := by decide +kernel
theorem dX7_fits_48 : decode cX7_fits 48 = .ok (.aload_n 0, 1) := by decide +kernel
theorem dX7_fits_49 : decode cX7_fits 49 = .ok (.iconst 2, 1) := by decide +kernel
theorem dX7_fits_50 : decode cX7_fits 50 = .ok (.invokevirtual 209, 3) := by decide +kernel
theorem dX7_fits_53 : decode cX7_fits 53 = .ok (.ifCond .eq 9, 3) := by decide +kernel
theorem dX7_fits_56 : decode cX7_fits 56 = .ok (.iload_n 2, 1) := by decide +kernel
theorem dX7_fits_57 : decode cX7_fits 57 = .ok (.bipush 47, 2) := by decide +kernel
theorem dX7_fits_59 : decode cX7_fits 59 = .ok (.if_icmp .eq 7, 3) := by decide +kernel
theorem dX7_fits_62 : decode cX7_fits 62 = .ok (.iconst 1, 1) := by decide +kernel
theorem dX7_fits_63 : decode cX7_fits 63 = .ok (.goto 4, 3) := by decide +kernel
theorem dX7_fits_66 : decode cX7_fits 66 = .ok (.iconst 0, 1) := by decide +kernel
theorem dX7_fits_67 : decode cX7_fits 67 = .ok (.ireturn, 1) := by decide +kernel
theorem dX7_fits_68 : decode cX7_fits 68 = .ok (.aload_n 0, 1) := by decide +kernel
theorem dX7_fits_69 : decode cX7_fits 69 = .ok (.getfield 23, 3) := by decide +kernel
theorem dX7_fits_72 : decode cX7_fits 72 = .ok (.iload_n 1, 1) := by decide +kernel
theorem dX7_fits_73 : decode cX7_fits 73 = .ok (.iaload, 1) := by decide +kernel
theorem dX7_fits_74 : decode cX7_fits 74 = .ok (.iload_n 2, 1) := by decide +kernel
theorem dX7_fits_75 : decode cX7_fits 75 = .ok (.invokestatic 205, 3) := by decide +kernel
theorem dX7_fits_78 : decode cX7_fits 78 = .ok (.ireturn, 1) := by decide +kernel
theorem dX7_fits_79 : decode cX7_fits 79 = .ok (.aload_n 0, 1) := by decide +kernel
theorem dX7_fits_80 : decode cX7_fits 80 = .ok (.aload_n 0, 1) := by decide +kernel
theorem dX7_fits_81 : decode cX7_fits 81 = .ok (.getfield 23, 3) := by decide +kernel
theorem dX7_fits_84 : decode cX7_fits 84 = .ok (.iload_n 1, 1) := by decide +kernel
theorem dX7_fits_85 : decode cX7_fits 85 = .ok (.iaload, 1) := by decide +kernel
theorem dX7_fits_86 : decode cX7_fits 86 = .ok (.aload_n 0, 1) := by decide +kernel
theorem dX7_fits_87 : decode cX7_fits 87 = .ok (.getfield 26, 3) := by decide +kernel
theorem dX7_fits_90 : decode cX7_fits 90 = .ok (.iload_n 1, 1) := by decide +kernel
theorem dX7_fits_91 : decode cX7_fits 91 = .ok (.iaload, 1) := by decide +kernel
theorem dX7_fits_92 : decode cX7_fits 92 = .ok (.iload_n 2, 1) := by decide +kernel
theorem dX7_fits_93 : decode cX7_fits 93 = .ok (.invokevirtual 212, 3) := by decide +kernel
theorem dX7_fits_96 : decode cX7_fits 96 = .ok (.ireturn, 1) := by decide +kernel
theorem dX7_passes_0 : decode cX7_passes 0 = .ok (.aload_n 0, 1) := by decide +kernel
theorem dX7_passes_1 : decode cX7_passes 1 = .ok (.getfield 216, 3) := by decide +kernel
theorem dX7_passes_4 : decode cX7_passes 4 = .ok (.aload_n 0, 1) := by decide +kernel
theorem dX7_passes_5 : decode cX7_passes 5 = .ok (.getfield 202, 3) := by decide +kernel
theorem dX7_passes_8 : decode cX7_passes 8 = .ok (.if_icmp .ne 5, 3) := by decide +kernel
theorem dX7_passes_11 : decode cX7_passes 11 = .ok (.iconst 0, 1) := by decide +kernel
theorem dX7_passes_12 : decode cX7_passes 12 = .ok (.ireturn, 1) := by decide +kernel
theorem dX7_passes_13 : decode cX7_passes 13 = .ok (.aload_n 0, 1) := by decide +kernel
theorem dX7_passes_14 : decode cX7_passes 14 = .ok (.getfield 13, 3) := by decide +kernel
theorem dX7_passes_17 : decode cX7_passes 17 = .ok (.aload_n 0, 1) := by decide +kernel
theorem dX7_passes_18 : decode cX7_passes 18 = .ok (.getfield 216, 3) := by decide +kernel
theorem dX7_passes_21 : decode cX7_passes 21 = .ok (.caload, 1) := by decide +kernel
theorem dX7_passes_22 : decode cX7_passes 22 = .ok (.istore_n 2, 1) := by decide +kernel
theorem dX7_passes_23 : decode cX7_passes 23 = .ok (.aload_n 0, 1) := by decide +kernel
theorem dX7_passes_24 : decode cX7_passes 24 = .ok (.iload_n 1, 1) := by decide +kernel
theorem dX7_passes_25 : decode cX7_passes 25 = .ok (.iload_n 2, 1) := by decide +kernel
theorem dX7_passes_26 : decode cX7_passes 26 = .ok (.invokevirtual 219, 3) := by decide +kernel
theorem dX7_passes_29 : decode cX7_passes 29 = .ok (.ifCond .ne 23, 3) := by decide +kernel
theorem dX7_passes_32 : decode cX7_passes 32 = .ok (.aload_n 0, 1) := by decide +kernel
theorem dX7_passes_33 : decode cX7_passes 33 = .ok (.iconst 4, 1) := by decide +kernel
theorem dX7_passes_34 : decode cX7_passes 34 = .ok (.invokevirtual 209, 3) := by decide +kernel
theorem dX7_passes_37 : decode cX7_passes 37 = .ok (.ifCond .eq 19, 3) := by decide +kernel
theorem dX7_passes_40 : decode cX7_passes 40 = .ok (.aload_n 0, 1) := by decide +kernel
theorem dX7_passes_41 : decode cX7_passes 41 = .ok (.iload_n 1, 1) := by decide +kernel
theorem dX7_passes_42 : decode cX7_passes 42 = .ok (.iload_n 2, 1) := by decide +kernel
theorem dX7_passes_43 : decode cX7_passes 43 = .ok (.invokestatic 222, 3) := by decide +kernel
theorem dX7_passes_46 : decode cX7_passes 46 = .ok (.invokevirtual 219, 3) := by decide +kernel
theorem dX7_passes_49 : decode cX7_passes 49 = .ok (.ifCond .eq 7, 3) := by decide +kernel
theorem dX7_passes_52 : decode cX7_passes 52 = .ok (.iconst 1, 1) := by decide +kernel
theorem dX7_passes_53 : decode cX7_passes 53 = .ok (.goto 4, 3) := by decide +kernel
theorem dX7_passes_56 : decode cX7_passes 56 = .ok (.iconst 0, 1) := by decide +kernel
theorem dX7_passes_57 : decode cX7_passes 57 = .ok (.istore_n 3, 1) := by decide +kernel
theorem dX7_passes_58 : decode cX7_passes 58 = .ok (.aload_n 0, 1) := by decide +kernel
theorem dX7_passes_59 : decode cX7_passes 59 = .ok (.getfield 19, 3) := by decide +kernel
theorem dX7_passes_62 : decode cX7_passes 62 = .ok (.iload_n 1, 1) := by decide +kernel
theorem dX7_passes_63 : decode cX7_passes 63 = .ok (.iaload, 1) := by decide +kernel
theorem dX7_passes_64 : decode cX7_passes 64 = .ok (.bipush 6, 2) := by decide +kernel
theorem dX7_passes_66 : decode cX7_passes 66 = .ok (.if_icmp .ne 25, 3) := by decide +kernel
theorem dX7_passes_69 : decode cX7_passes 69 = .ok (.aload_n 0, 1) := by decide +kernel
theorem dX7_passes_70 : decode cX7_passes 70 = .ok (.getfield 29, 3) := by decide +kernel
theorem dX7_passes_73 : decode cX7_passes 73 = .ok (.iload_n 1, 1) := by decide +kernel
theorem dX7_passes_74 : decode cX7_passes 74 = .ok (.iaload, 1) := by decide +kernel
theorem dX7_passes_75 : decode cX7_passes 75 = .ok (.iconst 1, 1) := by decide +kernel
theorem dX7_passes_76 : decode cX7_passes 76 = .ok (.if_icmp .ne 15, 3) := by decide +kernel
theorem dX7_passes_79 : decode cX7_passes 79 = .ok (.iload_n 3, 1) := by decide +kernel
theorem dX7_passes_80 : decode cX7_passes 80 = .ok (.ifCond .ne 7, 3) := by decide +kernel
theorem dX7_passes_83 : decode cX7_passes 83 = .ok (.iconst 1, 1) := by decide +kernel
theorem dX7_passes_84 : decode cX7_passes 84 = .ok (.goto 8, 3) := by decide +kernel
theorem dX7_passes_87 : decode cX7_passes 87 = .ok (.iconst 0, 1) := by decide +kernel
theorem dX7_passes_88 : decode cX7_passes 88 = .ok (.goto 4, 3) := by decide +kernel
theorem dX7_passes_91 : decode cX7_passes 91 = .ok (.iload_n 3, 1) := by decide +kernel
theorem dX7_passes_92 : decode cX7_passes 92 = .ok (.ireturn, 1) := by decide +kernel
theorem dX7_put_0 : decode cX7_put 0 = .ok (.aload_n 0, 1) := by decide +kernel
theorem dX7_put_1 : decode cX7_put 1 = .ok (.getfield 65, 3) := by decide +kernel
theorem dX7_put_4 : decode cX7_put 4 = .ok (.iload_n 1, 1) := by decide +kernel
theorem dX7_put_5 : decode cX7_put 5 = .ok (.iaload, 1) := by decide +kernel
theorem dX7_put_6 : decode cX7_put 6 = .ok (.iload_n 2, 1) := by decide +kernel
theorem dX7_put_7 : decode cX7_put 7 = .ok (.if_icmp .ne 4, 3) := by decide +kernel
theorem dX7_put_10 : decode cX7_put 10 = .ok (.return_, 1) := by decide +kernel
theorem dX7_put_11 : decode cX7_put 11 = .ok (.aload_n 0, 1) := by decide +kernel
theorem dX7_put_12 : decode cX7_put 12 = .ok (.getfield 68, 3) := by decide +kernel
theorem dX7_put_15 : decode cX7_put 15 = .ok (.aload_n 0, 1) := by decide +kernel
theorem dX7_put_16 : decode cX7_put 16 = .ok (.getfield 225, 3) := by decide +kernel
theorem dX7_put_19 : decode cX7_put 19 = .ok (.bipush 64, 2) := by decide +kernel
theorem dX7_put_21 : decode cX7_put 21 = .ok (.iload_n 1, 1) := by decide +kernel
theorem dX7_put_22 : decode cX7_put 22 = .ok (.imul, 1) := by decide +kernel
theorem dX7_put_23 : decode cX7_put 23 = .ok (.aload_n 0, 1) := by decide +kernel
theorem dX7_put_24 : decode cX7_put 24 = .ok (.getfield 65, 3) := by decide +kernel
theorem dX7_put_27 : decode cX7_put 27 = .ok (.iload_n 1, 1) := by decide +kernel
theorem dX7_put_28 : decode cX7_put 28 = .ok (.iaload, 1) := by decide +kernel
theorem dX7_put_29 : decode cX7_put 29 = .ok (.iadd, 1) := by decide +kernel
theorem dX7_put_30 : decode cX7_put 30 = .ok (.iconst 2, 1) := by decide +kernel
theorem dX7_put_31 : decode cX7_put 31 = .ok (.iadd, 1) := by decide +kernel
theorem dX7_put_32 : decode cX7_put 32 = .ok (.iastore, 1) := by decide +kernel
theorem dX7_put_33 : decode cX7_put 33 = .ok (.aload_n 0, 1) := by decide +kernel
theorem dX7_put_34 : decode cX7_put 34 = .ok (.dup, 1) := by decide +kernel
theorem dX7_put_35 : decode cX7_put 35 = .ok (.getfield 225, 3) := by decide +kernel
theorem dX7_put_38 : decode cX7_put 38 = .ok (.iconst 1, 1) := by decide +kernel
theorem dX7_put_39 : decode cX7_put 39 = .ok (.iadd, 1) := by decide +kernel
theorem dX7_put_40 : decode cX7_put 40 = .ok (.putfield 225, 3) := by decide +kernel
theorem dX7_put_43 : decode cX7_put 43 = .ok (.aload_n 0, 1) := by decide +kernel
theorem dX7_put_44 : decode cX7_put 44 = .ok (.getfield 65, 3) := by decide +kernel
theorem dX7_put_47 : decode cX7_put 47 = .ok (.iload_n 1, 1) := by decide +kernel
theorem dX7_put_48 : decode cX7_put 48 = .ok (.iload_n 2, 1) := by decide +kernel
theorem dX7_put_49 : decode cX7_put 49 = .ok (.iastore, 1) := by decide +kernel
theorem dX7_put_50 : decode cX7_put 50 = .ok (.return_, 1) := by decide +kernel
theorem dX7_choose_0 : decode cX7_choose 0 = .ok (.aload_n 0, 1) := by decide +kernel
theorem dX7_choose_1 : decode cX7_choose 1 = .ok (.getfield 71, 3) := by decide +kernel
theorem dX7_choose_4 : decode cX7_choose 4 = .ok (.aload_n 0, 1) := by decide +kernel
theorem dX7_choose_5 : decode cX7_choose 5 = .ok (.getfield 228, 3) := by decide +kernel
theorem dX7_choose_8 : decode cX7_choose 8 = .ok (.iload_n 1, 1) := by decide +kernel
theorem dX7_choose_9 : decode cX7_choose 9 = .ok (.iconst 4, 1) := by decide +kernel
theorem dX7_choose_10 : decode cX7_choose 10 = .ok (.iload_n 2, 1) := by decide +kernel
theorem dX7_choose_11 : decode cX7_choose 11 = .ok (.sipush 256, 3) := by decide +kernel
theorem dX7_choose_14 : decode cX7_choose 14 = .ok (.aload_n 0, 1) := by decide +kernel
theorem dX7_choose_15 : decode cX7_choose 15 = .ok (.getfield 216, 3) := by decide +kernel
theorem dX7_choose_18 : decode cX7_choose 18 = .ok (.bipush 32, 2) := by decide +kernel
theorem dX7_choose_20 : decode cX7_choose 20 = .ok (.aload_n 0, 1) := by decide +kernel
theorem dX7_choose_21 : decode cX7_choose 21 = .ok (.getfield 225, 3) := by decide +kernel
theorem dX7_choose_24 : decode cX7_choose 24 = .ok (.imul, 1) := by decide +kernel
theorem dX7_choose_25 : decode cX7_choose 25 = .ok (.iadd, 1) := by decide +kernel
theorem dX7_choose_26 : decode cX7_choose 26 = .ok (.imul, 1) := by decide +kernel
theorem dX7_choose_27 : decode cX7_choose 27 = .ok (.iadd, 1) := by decide +kernel
theorem dX7_choose_28 : decode cX7_choose 28 = .ok (.imul, 1) := by decide +kernel
theorem dX7_choose_29 : decode cX7_choose 29 = .ok (.iadd, 1) := by decide +kernel
theorem dX7_choose_30 : decode cX7_choose 30 = .ok (.iastore, 1) := by decide +kernel
theorem dX7_choose_31 : decode cX7_choose 31 = .ok (.aload_n 0, 1) := by decide +kernel
theorem dX7_choose_32 : decode cX7_choose 32 = .ok (.dup, 1) := by decide +kernel
theorem dX7_choose_33 : decode cX7_choose 33 = .ok (.getfield 228, 3) := by decide +kernel
theorem dX7_choose_36 : decode cX7_choose 36 = .ok (.iconst 1, 1) := by decide +kernel
theorem dX7_choose_37 : decode cX7_choose 37 = .ok (.iadd, 1) := by decide +kernel
theorem dX7_choose_38 : decode cX7_choose 38 = .ok (.putfield 228, 3) := by decide +kernel
theorem dX7_choose_41 : decode cX7_choose 41 = .ok (.return_, 1) := by decide +kernel
theorem dX7_undo_0 : decode cX7_undo 0 = .ok (.aload_n 0, 1) := by decide +kernel
theorem dX7_undo_1 : decode cX7_undo 1 = .ok (.getfield 225, 3) := by decide +kernel
theorem dX7_undo_4 : decode cX7_undo 4 = .ok (.iload_n 1, 1) := by decide +kernel
theorem dX7_undo_5 : decode cX7_undo 5 = .ok (.if_icmp .le 47, 3) := by decide +kernel
theorem dX7_undo_8 : decode cX7_undo 8 = .ok (.aload_n 0, 1) := by decide +kernel
theorem dX7_undo_9 : decode cX7_undo 9 = .ok (.dup, 1) := by decide +kernel
theorem dX7_undo_10 : decode cX7_undo 10 = .ok (.getfield 225, 3) := by decide +kernel
theorem dX7_undo_13 : decode cX7_undo 13 = .ok (.iconst 1, 1) := by decide +kernel
theorem dX7_undo_14 : decode cX7_undo 14 = .ok (.isub, 1) := by decide +kernel
theorem dX7_undo_15 : decode cX7_undo 15 = .ok (.putfield 225, 3) := by decide +kernel
theorem dX7_undo_18 : decode cX7_undo 18 = .ok (.aload_n 0, 1) := by decide +kernel
theorem dX7_undo_19 : decode cX7_undo 19 = .ok (.getfield 65, 3) := by decide +kernel
theorem dX7_undo_22 : decode cX7_undo 22 = .ok (.aload_n 0, 1) := by decide +kernel
theorem dX7_undo_23 : decode cX7_undo 23 = .ok (.getfield 68, 3) := by decide +kernel
theorem dX7_undo_26 : decode cX7_undo 26 = .ok (.aload_n 0, 1) := by decide +kernel
theorem dX7_undo_27 : decode cX7_undo 27 = .ok (.getfield 225, 3) := by decide +kernel
theorem dX7_undo_30 : decode cX7_undo 30 = .ok (.iaload, 1) := by decide +kernel
theorem dX7_undo_31 : decode cX7_undo 31 = .ok (.bipush 64, 2) := by decide +kernel
theorem dX7_undo_33 : decode cX7_undo 33 = .ok (.idiv, 1) := by decide +kernel
theorem dX7_undo_34 : decode cX7_undo 34 = .ok (.aload_n 0, 1) := by decide +kernel
theorem dX7_undo_35 : decode cX7_undo 35 = .ok (.getfield 68, 3) := by decide +kernel
theorem dX7_undo_38 : decode cX7_undo 38 = .ok (.aload_n 0, 1) := by decide +kernel
theorem dX7_undo_39 : decode cX7_undo 39 = .ok (.getfield 225, 3) := by decide +kernel
theorem dX7_undo_42 : decode cX7_undo 42 = .ok (.iaload, 1) := by decide +kernel
theorem dX7_undo_43 : decode cX7_undo 43 = .ok (.bipush 64, 2) := by decide +kernel
theorem dX7_undo_45 : decode cX7_undo 45 = .ok (.irem, 1) := by decide +kernel
theorem dX7_undo_46 : decode cX7_undo 46 = .ok (.iconst 2, 1) := by decide +kernel
theorem dX7_undo_47 : decode cX7_undo 47 = .ok (.isub, 1) := by decide +kernel
theorem dX7_undo_48 : decode cX7_undo 48 = .ok (.iastore, 1) := by decide +kernel
theorem dX7_undo_49 : decode cX7_undo 49 = .ok (.goto (-49), 3) := by decide +kernel
theorem dX7_undo_52 : decode cX7_undo 52 = .ok (.return_, 1) := by decide +kernel
theorem dX7_goBack_0 : decode cX7_goBack 0 = .ok (.aload_n 0, 1) := by decide +kernel
theorem dX7_goBack_1 : decode cX7_goBack 1 = .ok (.getfield 228, 3) := by decide +kernel
theorem dX7_goBack_4 : decode cX7_goBack 4 = .ok (.ifCond .le 104, 3) := by decide +kernel
theorem dX7_goBack_7 : decode cX7_goBack 7 = .ok (.aload_n 0, 1) := by decide +kernel
theorem dX7_goBack_8 : decode cX7_goBack 8 = .ok (.dup, 1) := by decide +kernel
theorem dX7_goBack_9 : decode cX7_goBack 9 = .ok (.getfield 228, 3) := by decide +kernel
theorem dX7_goBack_12 : decode cX7_goBack 12 = .ok (.iconst 1, 1) := by decide +kernel
theorem dX7_goBack_13 : decode cX7_goBack 13 = .ok (.isub, 1) := by decide +kernel
theorem dX7_goBack_14 : decode cX7_goBack 14 = .ok (.putfield 228, 3) := by decide +kernel
theorem dX7_goBack_17 : decode cX7_goBack 17 = .ok (.aload_n 0, 1) := by decide +kernel
theorem dX7_goBack_18 : decode cX7_goBack 18 = .ok (.getfield 71, 3) := by decide +kernel
theorem dX7_goBack_21 : decode cX7_goBack 21 = .ok (.aload_n 0, 1) := by decide +kernel
theorem dX7_goBack_22 : decode cX7_goBack 22 = .ok (.getfield 228, 3) := by decide +kernel
theorem dX7_goBack_25 : decode cX7_goBack 25 = .ok (.iaload, 1) := by decide +kernel
theorem dX7_goBack_26 : decode cX7_goBack 26 = .ok (.istore_n 1, 1) := by decide +kernel
theorem dX7_goBack_27 : decode cX7_goBack 27 = .ok (.iload_n 1, 1) := by decide +kernel
theorem dX7_goBack_28 : decode cX7_goBack 28 = .ok (.iconst 4, 1) := by decide +kernel
theorem dX7_goBack_29 : decode cX7_goBack 29 = .ok (.irem, 1) := by decide +kernel
theorem dX7_goBack_30 : decode cX7_goBack 30 = .ok (.istore_n 2, 1) := by decide +kernel
theorem dX7_goBack_31 : decode cX7_goBack 31 = .ok (.iload_n 1, 1) := by decide +kernel
theorem dX7_goBack_32 : decode cX7_goBack 32 = .ok (.iconst 4, 1) := by decide +kernel
theorem dX7_goBack_33 : decode cX7_goBack 33 = .ok (.idiv, 1) := by decide +kernel
theorem dX7_goBack_34 : decode cX7_goBack 34 = .ok (.sipush 256, 3) := by decide +kernel
theorem dX7_goBack_37 : decode cX7_goBack 37 = .ok (.irem, 1) := by decide +kernel
theorem dX7_goBack_38 : decode cX7_goBack 38 = .ok (.istore_n 3, 1) := by decide +kernel
theorem dX7_goBack_39 : decode cX7_goBack 39 = .ok (.aload_n 0, 1) := by decide +kernel
theorem dX7_goBack_40 : decode cX7_goBack 40 = .ok (.iload_n 1, 1) := by decide +kernel
theorem dX7_goBack_41 : decode cX7_goBack 41 = .ok (.sipush 1024, 3) := by decide +kernel
theorem dX7_goBack_44 : decode cX7_goBack 44 = .ok (.idiv, 1) := by decide +kernel
theorem dX7_goBack_45 : decode cX7_goBack 45 = .ok (.bipush 32, 2) := by decide +kernel
theorem dX7_goBack_47 : decode cX7_goBack 47 = .ok (.irem, 1) := by decide +kernel
theorem dX7_goBack_48 : decode cX7_goBack 48 = .ok (.putfield 216, 3) := by decide +kernel
theorem dX7_goBack_51 : decode cX7_goBack 51 = .ok (.aload_n 0, 1) := by decide +kernel
theorem dX7_goBack_52 : decode cX7_goBack 52 = .ok (.iload_n 1, 1) := by decide +kernel
theorem dX7_goBack_53 : decode cX7_goBack 53 = .ok (.ldc 231, 2) := by decide +kernel
theorem dX7_goBack_55 : decode cX7_goBack 55 = .ok (.idiv, 1) := by decide +kernel
theorem dX7_goBack_56 : decode cX7_goBack 56 = .ok (.invokevirtual 232, 3) := by decide +kernel
theorem dX7_goBack_59 : decode cX7_goBack 59 = .ok (.iload_n 2, 1) := by decide +kernel
theorem dX7_goBack_60 : decode cX7_goBack 60 = .ok (.ifCond .ne 10, 3) := by decide +kernel
theorem dX7_goBack_63 : decode cX7_goBack 63 = .ok (.aload_n 0, 1) := by decide +kernel
theorem dX7_goBack_64 : decode cX7_goBack 64 = .ok (.iload_n 3, 1) := by decide +kernel
theorem dX7_goBack_65 : decode cX7_goBack 65 = .ok (.putfield 235, 3) := by decide +kernel
theorem dX7_goBack_68 : decode cX7_goBack 68 = .ok (.iconst 1, 1) := by decide +kernel
theorem dX7_goBack_69 : decode cX7_goBack 69 = .ok (.ireturn, 1) := by decide +kernel
theorem dX7_goBack_70 : decode cX7_goBack 70 = .ok (.iload_n 2, 1) := by decide +kernel
theorem dX7_goBack_71 : decode cX7_goBack 71 = .ok (.iconst 1, 1) := by decide +kernel
theorem dX7_goBack_72 : decode cX7_goBack 72 = .ok (.if_icmp .ne 10, 3) := by decide +kernel
theorem dX7_goBack_75 : decode cX7_goBack 75 = .ok (.aload_n 0, 1) := by decide +kernel
theorem dX7_goBack_76 : decode cX7_goBack 76 = .ok (.iload_n 3, 1) := by decide +kernel
theorem dX7_goBack_77 : decode cX7_goBack 77 = .ok (.invokevirtual 238, 3) := by decide +kernel
theorem dX7_goBack_80 : decode cX7_goBack 80 = .ok (.iconst 1, 1) := by decide +kernel
theorem dX7_goBack_81 : decode cX7_goBack 81 = .ok (.ireturn, 1) := by decide +kernel
theorem dX7_goBack_82 : decode cX7_goBack 82 = .ok (.aload_n 0, 1) := by decide +kernel
theorem dX7_goBack_83 : decode cX7_goBack 83 = .ok (.getfield 23, 3) := by decide +kernel
theorem dX7_goBack_86 : decode cX7_goBack 86 = .ok (.iload_n 3, 1) := by decide +kernel
theorem dX7_goBack_87 : decode cX7_goBack 87 = .ok (.iaload, 1) := by decide +kernel
theorem dX7_goBack_88 : decode cX7_goBack 88 = .ok (.ifCond .ne 17, 3) := by decide +kernel
theorem dX7_goBack_91 : decode cX7_goBack 91 = .ok (.aload_n 0, 1) := by decide +kernel
theorem dX7_goBack_92 : decode cX7_goBack 92 = .ok (.aload_n 0, 1) := by decide +kernel
theorem dX7_goBack_93 : decode cX7_goBack 93 = .ok (.getfield 26, 3) := by decide +kernel
theorem dX7_goBack_96 : decode cX7_goBack 96 = .ok (.iload_n 3, 1) := by decide +kernel
theorem dX7_goBack_97 : decode cX7_goBack 97 = .ok (.iaload, 1) := by decide +kernel
theorem dX7_goBack_98 : decode cX7_goBack 98 = .ok (.iconst 1, 1) := by decide +kernel
theorem dX7_goBack_99 : decode cX7_goBack 99 = .ok (.iadd, 1) := by decide +kernel
theorem dX7_goBack_100 : decode cX7_goBack 100 = .ok (.putfield 235, 3) := by decide +kernel
theorem dX7_goBack_103 : decode cX7_goBack 103 = .ok (.iconst 1, 1) := by decide +kernel
theorem dX7_goBack_104 : decode cX7_goBack 104 = .ok (.ireturn, 1) := by decide +kernel
