set_option maxRecDepth 20000 in
theorem ggX7_init_X7_reads : GoodIn wsX7_init wsX7_reads := goodIn_r _ [36, 37, 38, 39, 40, 41, 42, 43, 44, 31, 22, 45, 46, 47, 35, 48, 18, 19, 23, 21, 20, 49, 50, 51, 52, 14, 15, 16, 17, 53, 54, 55, 56, 13, 57, 58, 59, 60, 61, 62, 63, 64, 65, 66, 67, 68, 69, 70, 71, 72, 73, 74, 75, 76, 77, 78, 79, 80, 81, 82, 83, 84, 85, 86, 87, 88, 89, 90, 91, 92, 93, 94, 95, 96, 97, 98, 99, 100, 101, 102, 111, 112, 113, 114, 115, 116, 117, 118, 119, 120, 121, 122, 123, 124, 125, 126, 127, 128, 129, 130, 131, 132, 133, 134, 135, 136, 137, 138, 139, 140, 141, 142, 143, 144, 145, 146, 147, 148, 149, 150, 151, 152, 153, 154, 155, 156, 157, 158, 159, 160] (by decide +kernel) (by decide +kernel)
set_option maxRecDepth 20000 in
theorem gX7_init_X7_reads : GoodIn wsX7_init (wsV RX7 90 RX7 yX7_reads wsX7_reads) := goodIn_app (goodIn_of _ (by decide +kernel)) ggX7_init_X7_reads
set_option maxRecDepth 20000 in
theorem ggX7_init_X7_take : GoodIn wsX7_init wsX7_take := goodIn_r _ [106, 37, 9, 14, 10, 15, 11, 16, 12, 17, 31, 7, 13, 38, 107, 108, 109, 110, 111, 112, 113, 114, 115, 116, 117, 118, 119, 120, 121, 122, 123, 124, 125, 126, 127, 128, 129, 130, 131, 132, 133, 134, 135, 136, 137, 138, 139, 140, 141, 142, 143, 144, 145, 146, 147, 148, 149, 150, 151, 152, 153, 154, 155, 156, 157, 158, 159, 160] (by decide +kernel) (by decide +kernel)
set_option maxRecDepth 20000 in
theorem gX7_init_X7_take : GoodIn wsX7_init (wsV RX7 94 RX7 yX7_take wsX7_take) := goodIn_app (goodIn_of _ (by decide +kernel)) ggX7_init_X7_take
theorem dX7_init_0 : decode cX7_init 0 = .ok (.aload_n 0, 1) := by decide +kernel
theorem dX7_init_1 : decode cX7_init 1 = .ok (.invokespecial 1, 3) := by decide +kernel
theorem dX7_init_4 : decode cX7_init 4 = .ok (.aload_n 0, 1) := by decide +kernel
theorem dX7_init_5 : decode cX7_init 5 = .ok (.bipush 40, 2) := by decide +kernel
theorem dX7_init_7 : decode cX7_init 7 = .ok (.newarray .char, 2) := by decide +kernel
theorem dX7_init_9 : decode cX7_init 9 = .ok (.putfield 7, 3) := by decide +kernel
theorem dX7_init_12 : decode cX7_init 12 = .ok (.aload_n 0, 1) := by decide +kernel
theorem dX7_init_13 : decode cX7_init 13 = .ok (.bipush 24, 2) := by decide +kernel
theorem dX7_init_15 : decode cX7_init 15 = .ok (.newarray .char, 2) := by decide +kernel
theorem dX7_init_17 : decode cX7_init 17 = .ok (.putfield 13, 3) := by decide +kernel
theorem dX7_init_20 : decode cX7_init 20 = .ok (.aload_n 0, 1) := by decide +kernel
theorem dX7_init_21 : decode cX7_init 21 = .ok (.bipush 40, 2) := by decide +kernel
theorem dX7_init_23 : decode cX7_init 23 = .ok (.newarray .char, 2) := by decide +kernel
theorem dX7_init_25 : decode cX7_init 25 = .ok (.putfield 16, 3) := by decide +kernel
theorem dX7_init_28 : decode cX7_init 28 = .ok (.aload_n 0, 1) := by decide +kernel
theorem dX7_init_29 : decode cX7_init 29 = .ok (.sipush 220, 3) := by decide +kernel
theorem dX7_init_32 : decode cX7_init 32 = .ok (.newarray .int, 2) := by decide +kernel
theorem dX7_init_34 : decode cX7_init 34 = .ok (.putfield 19, 3) := by decide +kernel
theorem dX7_init_37 : decode cX7_init 37 = .ok (.aload_n 0, 1) := by decide +kernel
theorem dX7_init_38 : decode cX7_init 38 = .ok (.sipush 220, 3) := by decide +kernel
theorem dX7_init_41 : decode cX7_init 41 = .ok (.newarray .int, 2) := by decide +kernel
theorem dX7_init_43 : decode cX7_init 43 = .ok (.putfield 23, 3) := by decide +kernel
theorem dX7_init_46 : decode cX7_init 46 = .ok (.aload_n 0, 1) := by decide +kernel
theorem dX7_init_47 : decode cX7_init 47 = .ok (.sipush 220, 3) := by decide +kernel
theorem dX7_init_50 : decode cX7_init 50 = .ok (.newarray .int, 2) := by decide +kernel
theorem dX7_init_52 : decode cX7_init 52 = .ok (.putfield 26, 3) := by decide +kernel
theorem dX7_init_55 : decode cX7_init 55 = .ok (.aload_n 0, 1) := by decide +kernel
theorem dX7_init_56 : decode cX7_init 56 = .ok (.sipush 220, 3) := by decide +kernel
theorem dX7_init_59 : decode cX7_init 59 = .ok (.newarray .int, 2) := by decide +kernel
theorem dX7_init_61 : decode cX7_init 61 = .ok (.putfield 29, 3) := by decide +kernel
theorem dX7_init_64 : decode cX7_init 64 = .ok (.aload_n 0, 1) := by decide +kernel
theorem dX7_init_65 : decode cX7_init 65 = .ok (.bipush 40, 2) := by decide +kernel
theorem dX7_init_67 : decode cX7_init 67 = .ok (.newarray .char, 2) := by decide +kernel
theorem dX7_init_69 : decode cX7_init 69 = .ok (.putfield 32, 3) := by decide +kernel
theorem dX7_init_72 : decode cX7_init 72 = .ok (.aload_n 0, 1) := by decide +kernel
theorem dX7_init_73 : decode cX7_init 73 = .ok (.sipush 220, 3) := by decide +kernel
theorem dX7_init_76 : decode cX7_init 76 = .ok (.newarray .int, 2) := by decide +kernel
theorem dX7_init_78 : decode cX7_init 78 = .ok (.putfield 35, 3) := by decide +kernel
theorem dX7_init_81 : decode cX7_init 81 = .ok (.aload_n 0, 1) := by decide +kernel
theorem dX7_init_82 : decode cX7_init 82 = .ok (.sipush 220, 3) := by decide +kernel
theorem dX7_init_85 : decode cX7_init 85 = .ok (.newarray .int, 2) := by decide +kernel
theorem dX7_init_87 : decode cX7_init 87 = .ok (.putfield 38, 3) := by decide +kernel
theorem dX7_init_90 : decode cX7_init 90 = .ok (.aload_n 0, 1) := by decide +kernel
theorem dX7_init_91 : decode cX7_init 91 = .ok (.sipush 220, 3) := by decide +kernel
theorem dX7_init_94 : decode cX7_init 94 = .ok (.newarray .int, 2) := by decide +kernel
theorem dX7_init_96 : decode cX7_init 96 = .ok (.putfield 41, 3) := by decide +kernel
theorem dX7_init_99 : decode cX7_init 99 = .ok (.aload_n 0, 1) := by decide +kernel
theorem dX7_init_100 : decode cX7_init 100 = .ok (.sipush 220, 3) := by decide +kernel
theorem dX7_init_103 : decode cX7_init 103 = .ok (.newarray .int, 2) := by decide +kernel
theorem dX7_init_105 : decode cX7_init 105 = .ok (.putfield 44, 3) := by decide +kernel
theorem dX7_init_108 : decode cX7_init 108 = .ok (.aload_n 0, 1) := by decide +kernel
theorem dX7_init_109 : decode cX7_init 109 = .ok (.bipush 44, 2) := by decide +kernel
theorem dX7_init_111 : decode cX7_init 111 = .ok (.newarray .int, 2) := by decide +kernel
theorem dX7_init_113 : decode cX7_init 113 = .ok (.putfield 47, 3) := by decide +kernel
theorem dX7_init_116 : decode cX7_init 116 = .ok (.aload_n 0, 1) := by decide +kernel
theorem dX7_init_117 : decode cX7_init 117 = .ok (.bipush 44, 2) := by decide +kernel
theorem dX7_init_119 : decode cX7_init 119 = .ok (.newarray .int, 2) := by decide +kernel
theorem dX7_init_121 : decode cX7_init 121 = .ok (.putfield 50, 3) := by decide +kernel
theorem dX7_init_124 : decode cX7_init 124 = .ok (.aload_n 0, 1) := by decide +kernel
theorem dX7_init_125 : decode cX7_init 125 = .ok (.bipush 44, 2) := by decide +kernel
theorem dX7_init_127 : decode cX7_init 127 = .ok (.newarray .int, 2) := by decide +kernel
theorem dX7_init_129 : decode cX7_init 129 = .ok (.putfield 53, 3) := by decide +kernel
theorem dX7_init_132 : decode cX7_init 132 = .ok (.aload_n 0, 1) := by decide +kernel
theorem dX7_init_133 : decode cX7_init 133 = .ok (.bipush 44, 2) := by decide +kernel
theorem dX7_init_135 : decode cX7_init 135 = .ok (.newarray .int, 2) := by decide +kernel
theorem dX7_init_137 : decode cX7_init 137 = .ok (.putfield 56, 3) := by decide +kernel
theorem dX7_init_140 : decode cX7_init 140 = .ok (.aload_n 0, 1) := by decide +kernel
theorem dX7_init_141 : decode cX7_init 141 = .ok (.bipush 44, 2) := by decide +kernel
theorem dX7_init_143 : decode cX7_init 143 = .ok (.newarray .int, 2) := by decide +kernel
theorem dX7_init_145 : decode cX7_init 145 = .ok (.putfield 59, 3) := by decide +kernel
theorem dX7_init_148 : decode cX7_init 148 = .ok (.aload_n 0, 1) := by decide +kernel
theorem dX7_init_149 : decode cX7_init 149 = .ok (.bipush 44, 2) := by decide +kernel
theorem dX7_init_151 : decode cX7_init 151 = .ok (.newarray .int, 2) := by decide +kernel
theorem dX7_init_153 : decode cX7_init 153 = .ok (.putfield 62, 3) := by decide +kernel
theorem dX7_init_156 : decode cX7_init 156 = .ok (.aload_n 0, 1) := by decide +kernel
theorem dX7_init_157 : decode cX7_init 157 = .ok (.sipush 180, 3) := by decide +kernel
theorem dX7_init_160 : decode cX7_init 160 = .ok (.newarray .int, 2) := by decide +kernel
theorem dX7_init_162 : decode cX7_init 162 = .ok (.putfield 65, 3) := by decide +kernel
theorem dX7_init_165 : decode cX7_init 165 = .ok (.aload_n 0, 1) := by decide +kernel
theorem dX7_init_166 : decode cX7_init 166 = .ok (.sipush 6000, 3) := by decide +kernel
theorem dX7_init_169 : decode cX7_init 169 = .ok (.newarray .int, 2) := by decide +kernel
theorem dX7_init_171 : decode cX7_init 171 = .ok (.putfield 68, 3) := by decide +kernel
theorem dX7_init_174 : decode cX7_init 174 = .ok (.aload_n 0, 1) := by decide +kernel
theorem dX7_init_175 : decode cX7_init 175 = .ok (.sipush 3000, 3) := by decide +kernel
theorem dX7_init_178 : decode cX7_init 178 = .ok (.newarray .int, 2) := by decide +kernel
theorem dX7_init_180 : decode cX7_init 180 = .ok (.putfield 71, 3) := by decide +kernel
theorem dX7_init_183 : decode cX7_init 183 = .ok (.aload_n 0, 1) := by decide +kernel
theorem dX7_init_184 : decode cX7_init 184 = .ok (.bipush 10, 2) := by decide +kernel
theorem dX7_init_186 : decode cX7_init 186 = .ok (.newarray .int, 2) := by decide +kernel
theorem dX7_init_188 : decode cX7_init 188 = .ok (.putfield 74, 3) := by decide +kernel
theorem dX7_init_191 : decode cX7_init 191 = .ok (.aload_n 0, 1) := by decide +kernel
theorem dX7_init_192 : decode cX7_init 192 = .ok (.bipush 10, 2) := by decide +kernel
theorem dX7_init_194 : decode cX7_init 194 = .ok (.newarray .int, 2) := by decide +kernel
theorem dX7_init_196 : decode cX7_init 196 = .ok (.putfield 77, 3) := by decide +kernel
theorem dX7_init_199 : decode cX7_init 199 = .ok (.aload_n 0, 1) := by decide +kernel
theorem dX7_init_200 : decode cX7_init 200 = .ok (.sipush 200, 3) := by decide +kernel
theorem dX7_init_203 : decode cX7_init 203 = .ok (.newarray .char, 2) := by decide +kernel
theorem dX7_init_205 : decode cX7_init 205 = .ok (.putfield 80, 3) := by decide +kernel
theorem dX7_init_208 : decode cX7_init 208 = .ok (.aload_n 0, 1) := by decide +kernel
theorem dX7_init_209 : decode cX7_init 209 = .ok (.sipush 260, 3) := by decide +kernel
theorem dX7_init_212 : decode cX7_init 212 = .ok (.newarray .char, 2) := by decide +kernel
theorem dX7_init_214 : decode cX7_init 214 = .ok (.putfield 83, 3) := by decide +kernel
theorem dX7_init_217 : decode cX7_init 217 = .ok (.aload_n 0, 1) := by decide +kernel
theorem dX7_init_218 : decode cX7_init 218 = .ok (.iconst 0, 1) := by decide +kernel
theorem dX7_init_219 : decode cX7_init 219 = .ok (.putfield 86, 3) := by decide +kernel
theorem dX7_init_222 : decode cX7_init 222 = .ok (.aload_n 0, 1) := by decide +kernel
theorem dX7_init_223 : decode cX7_init 223 = .ok (.invokevirtual 90, 3) := by decide +kernel
theorem dX7_init_226 : decode cX7_init 226 = .ok (.istore_n 1, 1) := by decide +kernel
theorem dX7_init_227 : decode cX7_init 227 = .ok (.iload_n 1, 1) := by decide +kernel
theorem dX7_init_228 : decode cX7_init 228 = .ok (.ifCond .eq 8, 3) := by decide +kernel
theorem dX7_init_231 : decode cX7_init 231 = .ok (.aload_n 0, 1) := by decide +kernel
theorem dX7_init_232 : decode cX7_init 232 = .ok (.iconst 0, 1) := by decide +kernel
theorem dX7_init_233 : decode cX7_init 233 = .ok (.invokevirtual 94, 3) := by decide +kernel
theorem dX7_init_236 : decode cX7_init 236 = .ok (.return_, 1) := by decide +kernel
theorem dX7_thrown_0 : decode cX7_thrown 0 = .ok (.aload_n 0, 1) := by decide +kernel
theorem dX7_thrown_1 : decode cX7_thrown 1 = .ok (.getfield 98, 3) := by decide +kernel
theorem dX7_thrown_4 : decode cX7_thrown 4 = .ok (.ireturn, 1) := by decide +kernel
theorem dX7_refuse_0 : decode cX7_refuse 0 = .ok (.aload_n 0, 1) := by decide +kernel
theorem dX7_refuse_1 : decode cX7_refuse 1 = .ok (.iload_n 1, 1) := by decide +kernel
theorem dX7_refuse_2 : decode cX7_refuse 2 = .ok (.putfield 98, 3) := by decide +kernel
theorem dX7_refuse_5 : decode cX7_refuse 5 = .ok (.iconst 0, 1) := by decide +kernel
theorem dX7_refuse_6 : decode cX7_refuse 6 = .ok (.ireturn, 1) := by decide +kernel
set_option maxRecDepth 20000 in
theorem ggX7_type_X7_refuse : GoodIn wsX7_type wsX7_refuse := goodIn_r _ [11, 1, 12, 13, 14, 15, 16, 17, 18, 19, 20, 21, 22, 23, 24, 25, 26, 27, 28, 29, 30, 31, 32, 33, 34, 35, 36, 37, 38, 39, 40, 41, 42, 43, 44, 45, 46, 47, 48, 49, 50, 51, 52, 53, 54, 55, 56, 57, 58, 59, 60, 61] (by decide +kernel) (by decide +kernel)
set_option maxRecDepth 20000 in
theorem gX7_type_X7_refuse : GoodIn wsX7_type (wsV RX7 104 RX7 yX7_refuse wsX7_refuse) := goodIn_app (goodIn_of _ (by decide +kernel)) ggX7_type_X7_refuse
theorem dX7_type_0 : decode cX7_type 0 = .ok (.aload_n 0, 1) := by decide +kernel
theorem dX7_type_1 : decode cX7_type 1 = .ok (.iconst 0, 1) := by decide +kernel
theorem dX7_type_2 : decode cX7_type 2 = .ok (.putfield 98, 3) := by decide +kernel
theorem dX7_type_5 : decode cX7_type 5 = .ok (.iload_n 3, 1) := by decide +kernel
theorem dX7_type_6 : decode cX7_type 6 = .ok (.iconst 1, 1) := by decide +kernel
theorem dX7_type_7 : decode cX7_type 7 = .ok (.if_icmp .lt 20, 3) := by decide +kernel
theorem dX7_type_10 : decode cX7_type 10 = .ok (.iload_n 3, 1) := by decide +kernel
theorem dX7_type_11 : decode cX7_type 11 = .ok (.bipush 8, 2) := by decide +kernel
theorem dX7_type_13 : decode cX7_type 13 = .ok (.if_icmp .gt 14, 3) := by decide +kernel
theorem dX7_type_16 : decode cX7_type 16 = .ok (.aload_n 0, 1) := by decide +kernel
theorem dX7_type_17 : decode cX7_type 17 = .ok (.getfield 101, 3) := by decide +kernel
theorem dX7_type_20 : decode cX7_type 20 = .ok (.iload_n 3, 1) := by decide +kernel
theorem dX7_type_21 : decode cX7_type 21 = .ok (.iadd, 1) := by decide +kernel
theorem dX7_type_22 : decode cX7_type 22 = .ok (.bipush 40, 2) := by decide +kernel
theorem dX7_type_24 : decode cX7_type 24 = .ok (.if_icmp .le 9, 3) := by decide +kernel
theorem dX7_type_27 : decode cX7_type 27 = .ok (.aload_n 0, 1) := by decide +kernel
theorem dX7_type_28 : decode cX7_type 28 = .ok (.iconst 1, 1) := by decide +kernel
theorem dX7_type_29 : decode cX7_type 29 = .ok (.invokevirtual 104, 3) := by decide +kernel
theorem dX7_type_32 : decode cX7_type 32 = .ok (.ireturn, 1) := by decide +kernel
theorem dX7_type_33 : decode cX7_type 33 = .ok (.iconst 0, 1) := by decide +kernel
theorem dX7_type_34 : decode cX7_type 34 = .ok (.istore 4, 2) := by decide +kernel
theorem dX7_type_36 : decode cX7_type 36 = .ok (.iload 4, 2) := by decide +kernel
theorem dX7_type_38 : decode cX7_type 38 = .ok (.iload_n 3, 1) := by decide +kernel
theorem dX7_type_39 : decode cX7_type 39 = .ok (.if_icmp .ge 46, 3) := by decide +kernel
theorem dX7_type_42 : decode cX7_type 42 = .ok (.lload_n 1, 1) := by decide +kernel
theorem dX7_type_43 : decode cX7_type 43 = .ok (.bipush 8, 2) := by decide +kernel
theorem dX7_type_45 : decode cX7_type 45 = .ok (.iload 4, 2) := by decide +kernel
theorem dX7_type_47 : decode cX7_type 47 = .ok (.imul, 1) := by decide +kernel
theorem dX7_type_48 : decode cX7_type 48 = .ok (.lshr, 1) := by decide +kernel
theorem dX7_type_49 : decode cX7_type 49 = .ok (.ldc2_w 108, 3) := by decide +kernel
theorem dX7_type_52 : decode cX7_type 52 = .ok (.land, 1) := by decide +kernel
theorem dX7_type_53 : decode cX7_type 53 = .ok (.lstore 5, 2) := by decide +kernel
theorem dX7_type_55 : decode cX7_type 55 = .ok (.lload 5, 2) := by decide +kernel
theorem dX7_type_57 : decode cX7_type 57 = .ok (.ldc2_w 110, 3) := by decide +kernel
theorem dX7_type_60 : decode cX7_type 60 = .ok (.lcmp, 1) := by decide +kernel
theorem dX7_type_61 : decode cX7_type 61 = .ok (.ifCond .lt 12, 3) := by decide +kernel
theorem dX7_type_64 : decode cX7_type 64 = .ok (.lload 5, 2) := by decide +kernel
theorem dX7_type_66 : decode cX7_type 66 = .ok (.ldc2_w 112, 3) := by decide +kernel
theorem dX7_type_69 : decode cX7_type 69 = .ok (.lcmp, 1) := by decide +kernel
theorem dX7_type_70 : decode cX7_type 70 = .ok (.ifCond .le 9, 3) := by decide +kernel
theorem dX7_type_73 : decode cX7_type 73 = .ok (.aload_n 0, 1) := by decide +kernel
theorem dX7_type_74 : decode cX7_type 74 = .ok (.iconst 1, 1) := by decide +kernel
theorem dX7_type_75 : decode cX7_type 75 = .ok (.invokevirtual 104, 3) := by decide +kernel
theorem dX7_type_78 : decode cX7_type 78 = .ok (.ireturn, 1) := by decide +kernel
theorem dX7_type_79 : decode cX7_type 79 = .ok (.iinc 4 1, 3) := by decide +kernel
theorem dX7_type_82 : decode cX7_type 82 = .ok (.goto (-46), 3) := by decide +kernel
theorem dX7_type_85 : decode cX7_type 85 = .ok (.iconst 0, 1) := by decide +kernel
theorem dX7_type_86 : decode cX7_type 86 = .ok (.istore 4, 2) := by decide +kernel
theorem dX7_type_88 : decode cX7_type 88 = .ok (.iload 4, 2) := by decide +kernel
theorem dX7_type_90 : decode cX7_type 90 = .ok (.iload_n 3, 1) := by decide +kernel
theorem dX7_type_91 : decode cX7_type 91 = .ok (.if_icmp .ge 41, 3) := by decide +kernel
theorem dX7_type_94 : decode cX7_type 94 = .ok (.aload_n 0, 1) := by decide +kernel
theorem dX7_type_95 : decode cX7_type 95 = .ok (.getfield 7, 3) := by decide +kernel
theorem dX7_type_98 : decode cX7_type 98 = .ok (.aload_n 0, 1) := by decide +kernel
theorem dX7_type_99 : decode cX7_type 99 = .ok (.getfield 101, 3) := by decide +kernel
theorem dX7_type_102 : decode cX7_type 102 = .ok (.lload_n 1, 1) := by decide +kernel
theorem dX7_type_103 : decode cX7_type 103 = .ok (.bipush 8, 2) := by decide +kernel
theorem dX7_type_105 : decode cX7_type 105 = .ok (.iload 4, 2) := by decide +kernel
theorem dX7_type_107 : decode cX7_type 107 = .ok (.imul, 1) := by decide +kernel
theorem dX7_type_108 : decode cX7_type 108 = .ok (.lshr, 1) := by decide +kernel
theorem dX7_type_109 : decode cX7_type 109 = .ok (.ldc2_w 108, 3) := by decide +kernel
theorem dX7_type_112 : decode cX7_type 112 = .ok (.land, 1) := by decide +kernel
theorem dX7_type_113 : decode cX7_type 113 = .ok (.l2i, 1) := by decide +kernel
theorem dX7_type_114 : decode cX7_type 114 = .ok (.i2c, 1) := by decide +kernel
theorem dX7_type_115 : decode cX7_type 115 = .ok (.castore, 1) := by decide +kernel
theorem dX7_type_116 : decode cX7_type 116 = .ok (.aload_n 0, 1) := by decide +kernel
theorem dX7_type_117 : decode cX7_type 117 = .ok (.dup, 1) := by decide +kernel
theorem dX7_type_118 : decode cX7_type 118 = .ok (.getfield 101, 3) := by decide +kernel
theorem dX7_type_121 : decode cX7_type 121 = .ok (.iconst 1, 1) := by decide +kernel
theorem dX7_type_122 : decode cX7_type 122 = .ok (.iadd, 1) := by decide +kernel
theorem dX7_type_123 : decode cX7_type 123 = .ok (.putfield 101, 3) := by decide +kernel
theorem dX7_type_126 : decode cX7_type 126 = .ok (.iinc 4 1, 3) := by decide +kernel
theorem dX7_type_129 : decode cX7_type 129 = .ok (.goto (-41), 3) := by decide +kernel
theorem dX7_type_132 : decode cX7_type 132 = .ok (.aload_n 0, 1) := by decide +kernel
theorem dX7_type_133 : decode cX7_type 133 = .ok (.getfield 101, 3) := by decide +kernel
theorem dX7_type_136 : decode cX7_type 136 = .ok (.ireturn, 1) := by decide +kernel
theorem dX7_emit_0 : decode cX7_emit 0 = .ok (.aload_n 0, 1) := by decide +kernel
theorem dX7_emit_1 : decode cX7_emit 1 = .ok (.getfield 35, 3) := by decide +kernel
theorem dX7_emit_4 : decode cX7_emit 4 = .ok (.aload_n 0, 1) := by decide +kernel
theorem dX7_emit_5 : decode cX7_emit 5 = .ok (.getfield 114, 3) := by decide +kernel
theorem dX7_emit_8 : decode cX7_emit 8 = .ok (.iload_n 1, 1) := by decide +kernel
theorem dX7_emit_9 : decode cX7_emit 9 = .ok (.iastore, 1) := by decide +kernel
theorem dX7_emit_10 : decode cX7_emit 10 = .ok (.aload_n 0, 1) := by decide +kernel
theorem dX7_emit_11 : decode cX7_emit 11 = .ok (.getfield 38, 3) := by decide +kernel
theorem dX7_emit_14 : decode cX7_emit 14 = .ok (.aload_n 0, 1) := by decide +kernel
theorem dX7_emit_15 : decode cX7_emit 15 = .ok (.getfield 114, 3) := by decide +kernel
theorem dX7_emit_18 : decode cX7_emit 18 = .ok (.iload_n 2, 1) := by decide +kernel
theorem dX7_emit_19 : decode cX7_emit 19 = .ok (.iastore, 1) := by decide +kernel
theorem dX7_emit_20 : decode cX7_emit 20 = .ok (.aload_n 0, 1) := by decide +kernel
theorem dX7_emit_21 : decode cX7_emit 21 = .ok (.getfield 41, 3) := by decide +kernel
theorem dX7_emit_24 : decode cX7_emit 24 = .ok (.aload_n 0, 1) := by decide +kernel
theorem dX7_emit_25 : decode cX7_emit 25 = .ok (.getfield 114, 3) := by decide +kernel
theorem dX7_emit_28 : decode cX7_emit 28 = .ok (.iload_n 3, 1) := by decide +kernel
theorem dX7_emit_29 : decode cX7_emit 29 = .ok (.iastore, 1) := by decide +kernel
theorem dX7_emit_30 : decode cX7_emit 30 = .ok (.aload_n 0, 1) := by decide +kernel
theorem dX7_emit_31 : decode cX7_emit 31 = .ok (.getfield 44, 3) := by decide +kernel
theorem dX7_emit_34 : decode cX7_emit 34 = .ok (.aload_n 0, 1) := by decide +kernel
theorem dX7_emit_35 : decode cX7_emit 35 = .ok (.getfield 114, 3) := by decide +kernel
theorem dX7_emit_38 : decode cX7_emit 38 = .ok (.iload 4, 2) := by decide +kernel
theorem dX7_emit_40 : decode cX7_emit 40 = .ok (.iastore, 1) := by decide +kernel
theorem dX7_emit_41 : decode cX7_emit 41 = .ok (.aload_n 0, 1) := by decide +kernel
theorem dX7_emit_42 : decode cX7_emit 42 = .ok (.dup, 1) := by decide +kernel
theorem dX7_emit_43 : decode cX7_emit 43 = .ok (.getfield 114, 3) := by decide +kernel
theorem dX7_emit_46 : decode cX7_emit 46 = .ok (.iconst 1, 1) := by decide +kernel
theorem dX7_emit_47 : decode cX7_emit 47 = .ok (.iadd, 1) := by decide +kernel
theorem dX7_emit_48 : decode cX7_emit 48 = .ok (.putfield 114, 3) := by decide +kernel
theorem dX7_emit_51 : decode cX7_emit 51 = .ok (.aload_n 0, 1) := by decide +kernel
theorem dX7_emit_52 : decode cX7_emit 52 = .ok (.getfield 114, 3) := by decide +kernel
theorem dX7_emit_55 : decode cX7_emit 55 = .ok (.iconst 1, 1) := by decide +kernel
theorem dX7_emit_56 : decode cX7_emit 56 = .ok (.isub, 1) := by decide +kernel
theorem dX7_emit_57 : decode cX7_emit 57 = .ok (.ireturn, 1) := by decide +kernel
theorem dX7_sign_0 : decode cX7_sign 0 = .ok (.iload_n 1, 1) := by decide +kernel
theorem dX7_sign_1 : decode cX7_sign 1 = .ok (.aload_n 0, 1) := by decide +kernel
theorem dX7_sign_2 : decode cX7_sign 2 = .ok (.getfield 86, 3) := by decide +kernel
theorem dX7_sign_5 : decode cX7_sign 5 = .ok (.if_icmp .ge 12, 3) := by decide +kernel
theorem dX7_sign_8 : decode cX7_sign 8 = .ok (.aload_n 0, 1) := by decide +kernel
theorem dX7_sign_9 : decode cX7_sign 9 = .ok (.getfield 32, 3) := by decide +kernel
theorem dX7_sign_12 : decode cX7_sign 12 = .ok (.iload_n 1, 1) := by decide +kernel
theorem dX7_sign_13 : decode cX7_sign 13 = .ok (.caload, 1) := by decide +kernel
theorem dX7_sign_14 : decode cX7_sign 14 = .ok (.goto 4, 3) := by decide +kernel
theorem dX7_sign_17 : decode cX7_sign 17 = .ok (.iconst 0, 1) := by decide +kernel
theorem dX7_sign_18 : decode cX7_sign 18 = .ok (.ireturn, 1) := by decide +kernel
theorem dX7_isSpecial_0 : decode cX7_isSpecial 0 = .ok (.iload_n 0, 1) := by decide +kernel
theorem dX7_isSpecial_1 : decode cX7_isSpecial 1 = .ok (.bipush 94, 2) := by decide +kernel
theorem dX7_isSpecial_3 : decode cX7_isSpecial 3 = .ok (.if_icmp .eq 81, 3) := by decide +kernel
theorem dX7_isSpecial_6 : decode cX7_isSpecial 6 = .ok (.iload_n 0, 1) := by decide +kernel
theorem dX7_isSpecial_7 : decode cX7_isSpecial 7 = .ok (.bipush 36, 2) := by decide +kernel
theorem dX7_isSpecial_9 : decode cX7_isSpecial 9 = .ok (.if_icmp .eq 75, 3) := by decide +kernel
theorem dX7_isSpecial_12 : decode cX7_isSpecial 12 = .ok (.iload_n 0, 1) := by decide +kernel
theorem dX7_isSpecial_13 : decode cX7_isSpecial 13 = .ok (.bipush 92, 2) := by decide +kernel
theorem dX7_isSpecial_15 : decode cX7_isSpecial 15 = .ok (.if_icmp .eq 69, 3) := by decide +kernel
theorem dX7_isSpecial_18 : decode cX7_isSpecial 18 = .ok (.iload_n 0, 1) := by decide +kernel
theorem dX7_isSpecial_19 : decode cX7_isSpecial 19 = .ok (.bipush 46, 2) := by decide +kernel
theorem dX7_isSpecial_21 : decode cX7_isSpecial 21 = .ok (.if_icmp .eq 63, 3) := by decide +kernel
theorem dX7_isSpecial_24 : decode cX7_isSpecial 24 = .ok (.iload_n 0, 1) := by decide +kernel
theorem dX7_isSpecial_25 : decode cX7_isSpecial 25 = .ok (.bipush 42, 2) := by decide +kernel
theorem dX7_isSpecial_27 : decode cX7_isSpecial 27 = .ok (.if_icmp .eq 57, 3) := by decide +kernel
theorem dX7_isSpecial_30 : decode cX7_isSpecial 30 = .ok (.iload_n 0, 1) := by decide +kernel
theorem dX7_isSpecial_31 : decode cX7_isSpecial 31 = .ok (.bipush 43, 2) := by decide +kernel
theorem dX7_isSpecial_33 : decode cX7_isSpecial 33 = .ok (.if_icmp .eq 51, 3) := by decide +kernel
theorem dX7_isSpecial_36 : decode cX7_isSpecial 36 = .ok (.iload_n 0, 1) := by decide +kernel
theorem dX7_isSpecial_37 : decode cX7_isSpecial 37 = .ok (.bipush 63, 2) := by decide +kernel
theorem dX7_isSpecial_39 : decode cX7_isSpecial 39 = .ok (.if_icmp .eq 45, 3) := by decide +kernel
theorem dX7_isSpecial_42 : decode cX7_isSpecial 42 = .ok (.iload_n 0, 1) := by decide +kernel
theorem dX7_isSpecial_43 : decode cX7_isSpecial 43 = .ok (.bipush 40, 2) := by decide +kernel
theorem dX7_isSpecial_45 : decode cX7_isSpecial 45 = .ok (.if_icmp .eq 39, 3) := by decide +kernel
theorem dX7_isSpecial_48 : decode cX7_isSpecial 48 = .ok (.iload_n 0, 1) := by decide +kernel
theorem dX7_isSpecial_49 : decode cX7_isSpecial 49 = .ok (.bipush 41, 2) := by decide +kernel
theorem dX7_isSpecial_51 : decode cX7_isSpecial 51 = .ok (.if_icmp .eq 33, 3) := by decide +kernel
theorem dX7_isSpecial_54 : decode cX7_isSpecial 54 = .ok (.iload_n 0, 1) := by decide +kernel
theorem dX7_isSpecial_55 : decode cX7_isSpecial 55 = .ok (.bipush 91, 2) := by decide +kernel
theorem dX7_isSpecial_57 : decode cX7_isSpecial 57 = .ok (.if_icmp .eq 27, 3) := by decide +kernel
theorem dX7_isSpecial_60 : decode cX7_isSpecial 60 = .ok (.iload_n 0, 1) := by decide +kernel
theorem dX7_isSpecial_61 : decode cX7_isSpecial 61 = .ok (.bipush 93, 2) := by decide +kernel
theorem dX7_isSpecial_63 : decode cX7_isSpecial 63 = .ok (.if_icmp .eq 21, 3) := by decide +kernel
theorem dX7_isSpecial_66 : decode cX7_isSpecial 66 = .ok (.iload_n 0, 1) := by decide +kernel
theorem dX7_isSpecial_67 : decode cX7_isSpecial 67 = .ok (.bipush 123, 2) := by decide +kernel
theorem dX7_isSpecial_69 : decode cX7_isSpecial 69 = .ok (.if_icmp .eq 15, 3) := by decide +kernel
theorem dX7_isSpecial_72 : decode cX7_isSpecial 72 = .ok (.iload_n 0, 1) := by decide +kernel
theorem dX7_isSpecial_73 : decode cX7_isSpecial 73 = .ok (.bipush 125, 2) := by decide +kernel
theorem dX7_isSpecial_75 : decode cX7_isSpecial 75 = .ok (.if_icmp .eq 9, 3) := by decide +kernel
theorem dX7_isSpecial_78 : decode cX7_isSpecial 78 = .ok (.iload_n 0, 1) := by decide +kernel
theorem dX7_isSpecial_79 : decode cX7_isSpecial 79 = .ok (.bipush 124, 2) := by decide +kernel
theorem dX7_isSpecial_81 : decode cX7_isSpecial 81 = .ok (.if_icmp .ne 7, 3) := by decide +kernel
theorem dX7_isSpecial_84 : decode cX7_isSpecial 84 = .ok (.iconst 1, 1) := by decide +kernel
theorem dX7_isSpecial_85 : decode cX7_isSpecial 85 = .ok (.goto 4, 3) := by decide +kernel
theorem dX7_isSpecial_88 : decode cX7_isSpecial 88 = .ok (.iconst 0, 1) := by decide +kernel
theorem dX7_isSpecial_89 : decode cX7_isSpecial 89 = .ok (.ireturn, 1) := by decide +kernel
theorem dX7_isClass_0 : decode cX7_isClass 0 = .ok (.iload_n 0, 1) := by decide +kernel
theorem dX7_isClass_1 : decode cX7_isClass 1 = .ok (.bipush 100, 2) := by decide +kernel
theorem dX7_isClass_3 : decode cX7_isClass 3 = .ok (.if_icmp .eq 33, 3) := by decide +kernel
theorem dX7_isClass_6 : decode cX7_isClass 6 = .ok (.iload_n 0, 1) := by decide +kernel
theorem dX7_isClass_7 : decode cX7_isClass 7 = .ok (.bipush 119, 2) := by decide +kernel
theorem dX7_isClass_9 : decode cX7_isClass 9 = .ok (.if_icmp .eq 27, 3) := by decide +kernel
theorem dX7_isClass_12 : decode cX7_isClass 12 = .ok (.iload_n 0, 1) := by decide +kernel
theorem dX7_isClass_13 : decode cX7_isClass 13 = .ok (.bipush 115, 2) := by decide +kernel
theorem dX7_isClass_15 : decode cX7_isClass 15 = .ok (.if_icmp .eq 21, 3) := by decide +kernel
theorem dX7_isClass_18 : decode cX7_isClass 18 = .ok (.iload_n 0, 1) := by decide +kernel
theorem dX7_isClass_19 : decode cX7_isClass 19 = .ok (.bipush 68, 2) := by decide +kernel
theorem dX7_isClass_21 : decode cX7_isClass 21 = .ok (.if_icmp .eq 15, 3) := by decide +kernel
theorem dX7_isClass_24 : decode cX7_isClass 24 = .ok (.iload_n 0, 1) := by decide +kernel
theorem dX7_isClass_25 : decode cX7_isClass 25 = .ok (.bipush 87, 2) := by decide +kernel
theorem dX7_isClass_27 : decode cX7_isClass 27 = .ok (.if_icmp .eq 9, 3) := by decide +kernel
theorem dX7_isClass_30 : decode cX7_isClass 30 = .ok (.iload_n 0, 1) := by decide +kernel
theorem dX7_isClass_31 : decode cX7_isClass 31 = .ok (.bipush 83, 2) := by decide +kernel
theorem dX7_isClass_33 : decode cX7_isClass 33 = .ok (.if_icmp .ne 7, 3) := by decide +kernel
theorem dX7_isClass_36 : decode cX7_isClass 36 = .ok (.iconst 1, 1) := by decide +kernel
theorem dX7_isClass_37 : decode cX7_isClass 37 = .ok (.goto 4, 3) := by decide +kernel
theorem dX7_isClass_40 : decode cX7_isClass 40 = .ok (.iconst 0, 1) := by decide +kernel
theorem dX7_isClass_41 : decode cX7_isClass 41 = .ok (.ireturn, 1) := by decide +kernel
theorem dX7_isDigit_0 : decode cX7_isDigit 0 = .ok (.iload_n 0, 1) := by decide +kernel
theorem dX7_isDigit_1 : decode cX7_isDigit 1 = .ok (.bipush 48, 2) := by decide +kernel
theorem dX7_isDigit_3 : decode cX7_isDigit 3 = .ok (.if_icmp .lt 13, 3) := by decide +kernel
theorem dX7_isDigit_6 : decode cX7_isDigit 6 = .ok (.iload_n 0, 1) := by decide +kernel
theorem dX7_isDigit_7 : decode cX7_isDigit 7 = .ok (.bipush 57, 2) := by decide +kernel
theorem dX7_isDigit_9 : decode cX7_isDigit 9 = .ok (.if_icmp .gt 7, 3) := by decide +kernel
theorem dX7_isDigit_12 : decode cX7_isDigit 12 = .ok (.iconst 1, 1) := by decide +kernel
theorem dX7_isDigit_13 : decode cX7_isDigit 13 = .ok (.goto 4, 3) := by decide +kernel
theorem dX7_isDigit_16 : decode cX7_isDigit 16 = .ok (.iconst 0, 1) := by decide +kernel
theorem dX7_isDigit_17 : decode cX7_isDigit 17 = .ok (.ireturn, 1) := by decide +kernel
set_option maxRecDepth 20000 in
theorem ggX7_openBody_X7_emit : GoodIn wsX7_openBody wsX7_emit := goodIn_r _ [13, 14, 15, 16, 17, 18, 19, 20, 21, 22, 23, 24, 25, 26, 27, 28, 29, 30, 31, 32, 33, 34, 35, 36, 37, 38, 39, 40, 41, 42, 43, 44, 45, 46, 47, 48, 49, 50, 51, 52, 53, 54, 55, 56, 57, 58, 59, 60, 61, 62, 63, 64, 65, 66, 67, 68] (by decide +kernel) (by decide +kernel)
set_option maxRecDepth 20000 in
theorem gX7_openBody_X7_emit : GoodIn wsX7_openBody (wsV RX7 124 RX7 yX7_emit wsX7_emit) := goodIn_app (goodIn_of _ (by decide +kernel)) ggX7_openBody_X7_emit
theorem dX7_openBody_0 : decode cX7_openBody 0 = .ok (.aload_n 0, 1) := by decide +kernel
theorem dX7_openBody_1 : decode cX7_openBody 1 = .ok (.aload_n 0, 1) := by decide +kernel
theorem dX7_openBody_2 : decode cX7_openBody 2 = .ok (.getfield 117, 3) := by decide +kernel
theorem dX7_openBody_5 : decode cX7_openBody 5 = .ok (.ifCond .ne 12, 3) := by decide +kernel
theorem dX7_openBody_8 : decode cX7_openBody 8 = .ok (.aload_n 0, 1) := by decide +kernel
theorem dX7_openBody_9 : decode cX7_openBody 9 = .ok (.getfield 121, 3) := by decide +kernel
theorem dX7_openBody_12 : decode cX7_openBody 12 = .ok (.bipush 8, 2) := by decide +kernel
theorem dX7_openBody_14 : decode cX7_openBody 14 = .ok (.if_icmp .le 7, 3) := by decide +kernel
theorem dX7_openBody_17 : decode cX7_openBody 17 = .ok (.iconst 1, 1) := by decide +kernel
theorem dX7_openBody_18 : decode cX7_openBody 18 = .ok (.goto 4, 3) := by decide +kernel
theorem dX7_openBody_21 : decode cX7_openBody 21 = .ok (.iconst 0, 1) := by decide +kernel
theorem dX7_openBody_22 : decode cX7_openBody 22 = .ok (.putfield 117, 3) := by decide +kernel
theorem dX7_openBody_25 : decode cX7_openBody 25 = .ok (.aload_n 0, 1) := by decide +kernel
theorem dX7_openBody_26 : decode cX7_openBody 26 = .ok (.getfield 47, 3) := by decide +kernel
theorem dX7_openBody_29 : decode cX7_openBody 29 = .ok (.aload_n 0, 1) := by decide +kernel
theorem dX7_openBody_30 : decode cX7_openBody 30 = .ok (.getfield 121, 3) := by decide +kernel
theorem dX7_openBody_33 : decode cX7_openBody 33 = .ok (.iload_n 1, 1) := by decide +kernel
theorem dX7_openBody_34 : decode cX7_openBody 34 = .ok (.iastore, 1) := by decide +kernel
theorem dX7_openBody_35 : decode cX7_openBody 35 = .ok (.aload_n 0, 1) := by decide +kernel
theorem dX7_openBody_36 : decode cX7_openBody 36 = .ok (.getfield 50, 3) := by decide +kernel
theorem dX7_openBody_39 : decode cX7_openBody 39 = .ok (.aload_n 0, 1) := by decide +kernel
theorem dX7_openBody_40 : decode cX7_openBody 40 = .ok (.getfield 121, 3) := by decide +kernel
theorem dX7_openBody_43 : decode cX7_openBody 43 = .ok (.iconst 0, 1) := by decide +kernel
theorem dX7_openBody_44 : decode cX7_openBody 44 = .ok (.iastore, 1) := by decide +kernel
theorem dX7_openBody_45 : decode cX7_openBody 45 = .ok (.aload_n 0, 1) := by decide +kernel
theorem dX7_openBody_46 : decode cX7_openBody 46 = .ok (.getfield 62, 3) := by decide +kernel
theorem dX7_openBody_49 : decode cX7_openBody 49 = .ok (.aload_n 0, 1) := by decide +kernel
theorem dX7_openBody_50 : decode cX7_openBody 50 = .ok (.getfield 121, 3) := by decide +kernel
theorem dX7_openBody_53 : decode cX7_openBody 53 = .ok (.iload_n 2, 1) := by decide +kernel
theorem dX7_openBody_54 : decode cX7_openBody 54 = .ok (.iastore, 1) := by decide +kernel
theorem dX7_openBody_55 : decode cX7_openBody 55 = .ok (.aload_n 0, 1) := by decide +kernel
theorem dX7_openBody_56 : decode cX7_openBody 56 = .ok (.getfield 56, 3) := by decide +kernel
theorem dX7_openBody_59 : decode cX7_openBody 59 = .ok (.aload_n 0, 1) := by decide +kernel
theorem dX7_openBody_60 : decode cX7_openBody 60 = .ok (.getfield 121, 3) := by decide +kernel
theorem dX7_openBody_63 : decode cX7_openBody 63 = .ok (.iconst (-1), 1) := by decide +kernel
theorem dX7_openBody_64 : decode cX7_openBody 64 = .ok (.iastore, 1) := by decide +kernel
theorem dX7_openBody_65 : decode cX7_openBody 65 = .ok (.aload_n 0, 1) := by decide +kernel
theorem dX7_openBody_66 : decode cX7_openBody 66 = .ok (.getfield 59, 3) := by decide +kernel
theorem dX7_openBody_69 : decode cX7_openBody 69 = .ok (.aload_n 0, 1) := by decide +kernel
theorem dX7_openBody_70 : decode cX7_openBody 70 = .ok (.getfield 121, 3) := by decide +kernel
theorem dX7_openBody_73 : decode cX7_openBody 73 = .ok (.iconst 0, 1) := by decide +kernel
theorem dX7_openBody_74 : decode cX7_openBody 74 = .ok (.iastore, 1) := by decide +kernel
theorem dX7_openBody_75 : decode cX7_openBody 75 = .ok (.aload_n 0, 1) := by decide +kernel
theorem dX7_openBody_76 : decode cX7_openBody 76 = .ok (.dup, 1) := by decide +kernel
theorem dX7_openBody_77 : decode cX7_openBody 77 = .ok (.getfield 121, 3) := by decide +kernel
theorem dX7_openBody_80 : decode cX7_openBody 80 = .ok (.iconst 1, 1) := by decide +kernel
theorem dX7_openBody_81 : decode cX7_openBody 81 = .ok (.iadd, 1) := by decide +kernel
theorem dX7_openBody_82 : decode cX7_openBody 82 = .ok (.putfield 121, 3) := by decide +kernel
theorem dX7_openBody_85 : decode cX7_openBody 85 = .ok (.aload_n 0, 1) := by decide +kernel
theorem dX7_openBody_86 : decode cX7_openBody 86 = .ok (.iconst 1, 1) := by decide +kernel
theorem dX7_openBody_87 : decode cX7_openBody 87 = .ok (.iconst (-1), 1) := by decide +kernel
theorem dX7_openBody_88 : decode cX7_openBody 88 = .ok (.iconst 0, 1) := by decide +kernel
theorem dX7_openBody_89 : decode cX7_openBody 89 = .ok (.iconst 0, 1) := by decide +kernel
theorem dX7_openBody_90 : decode cX7_openBody 90 = .ok (.invokevirtual 124, 3) := by decide +kernel
theorem dX7_openBody_93 : decode cX7_openBody 93 = .ok (.istore_n 3, 1) := by decide +kernel
theorem dX7_openBody_94 : decode cX7_openBody 94 = .ok (.aload_n 0, 1) := by decide +kernel
theorem dX7_openBody_95 : decode cX7_openBody 95 = .ok (.getfield 53, 3) := by decide +kernel
theorem dX7_openBody_98 : decode cX7_openBody 98 = .ok (.aload_n 0, 1) := by decide +kernel
theorem dX7_openBody_99 : decode cX7_openBody 99 = .ok (.getfield 121, 3) := by decide +kernel
theorem dX7_openBody_102 : decode cX7_openBody 102 = .ok (.iconst 1, 1) := by decide +kernel
theorem dX7_openBody_103 : decode cX7_openBody 103 = .ok (.isub, 1) := by decide +kernel
theorem dX7_openBody_104 : decode cX7_openBody 104 = .ok (.iload_n 3, 1) := by decide +kernel
theorem dX7_openBody_105 : decode cX7_openBody 105 = .ok (.iastore, 1) := by decide +kernel
theorem dX7_openBody_106 : decode cX7_openBody 106 = .ok (.return_, 1) := by decide +kernel
set_option maxRecDepth 20000 in
theorem ggX7_endAlternative_X7_emit : GoodIn wsX7_endAlternative wsX7_emit := goodIn_r _ [11, 12, 6, 4, 13, 14, 15, 16, 17, 18, 19, 20, 21, 22, 23, 24, 25, 26, 27, 28, 29, 30, 31, 32, 33, 34, 35, 36, 37, 38, 39, 40, 41, 42, 43, 44, 45, 46, 47, 48, 49, 50, 51, 52, 53, 54, 55, 56, 57, 58, 59, 60, 61, 62, 63, 64] (by decide +kernel) (by decide +kernel)
set_option maxRecDepth 20000 in
theorem gX7_endAlternative_X7_emit : GoodIn wsX7_endAlternative (wsV RX7 124 RX7 yX7_emit wsX7_emit) := goodIn_app (goodIn_of _ (by decide +kernel)) ggX7_endAlternative_X7_emit
theorem dX7_endAlternative_0 : decode cX7_endAlternative 0 = .ok (.aload_n 0, 1) := by decide +kernel
theorem dX7_endAlternative_1 : decode cX7_endAlternative 1 = .ok (.getfield 121, 3) := by decide +kernel
theorem dX7_endAlternative_4 : decode cX7_endAlternative 4 = .ok (.iconst 1, 1) := by decide +kernel
theorem dX7_endAlternative_5 : decode cX7_endAlternative 5 = .ok (.isub, 1) := by decide +kernel
theorem dX7_endAlternative_6 : decode cX7_endAlternative 6 = .ok (.istore_n 2, 1) := by decide +kernel
theorem dX7_endAlternative_7 : decode cX7_endAlternative 7 = .ok (.aload_n 0, 1) := by decide +kernel
theorem dX7_endAlternative_8 : decode cX7_endAlternative 8 = .ok (.iconst 2, 1) := by decide +kernel
theorem dX7_endAlternative_9 : decode cX7_endAlternative 9 = .ok (.aload_n 0, 1) := by decide +kernel
theorem dX7_endAlternative_10 : decode cX7_endAlternative 10 = .ok (.getfield 56, 3) := by decide +kernel
theorem dX7_endAlternative_13 : decode cX7_endAlternative 13 = .ok (.iload_n 2, 1) := by decide +kernel
theorem dX7_endAlternative_14 : decode cX7_endAlternative 14 = .ok (.iaload, 1) := by decide +kernel
theorem dX7_endAlternative_15 : decode cX7_endAlternative 15 = .ok (.iconst 0, 1) := by decide +kernel
theorem dX7_endAlternative_16 : decode cX7_endAlternative 16 = .ok (.iconst 0, 1) := by decide +kernel
theorem dX7_endAlternative_17 : decode cX7_endAlternative 17 = .ok (.invokevirtual 124, 3) := by decide +kernel
theorem dX7_endAlternative_20 : decode cX7_endAlternative 20 = .ok (.istore_n 3, 1) := by decide +kernel
theorem dX7_endAlternative_21 : decode cX7_endAlternative 21 = .ok (.aload_n 0, 1) := by decide +kernel
theorem dX7_endAlternative_22 : decode cX7_endAlternative 22 = .ok (.getfield 56, 3) := by decide +kernel
theorem dX7_endAlternative_25 : decode cX7_endAlternative 25 = .ok (.iload_n 2, 1) := by decide +kernel
theorem dX7_endAlternative_26 : decode cX7_endAlternative 26 = .ok (.iload_n 3, 1) := by decide +kernel
theorem dX7_endAlternative_27 : decode cX7_endAlternative 27 = .ok (.iastore, 1) := by decide +kernel
theorem dX7_endAlternative_28 : decode cX7_endAlternative 28 = .ok (.iload_n 1, 1) := by decide +kernel
theorem dX7_endAlternative_29 : decode cX7_endAlternative 29 = .ok (.ifCond .ne 4, 3) := by decide +kernel
theorem dX7_endAlternative_32 : decode cX7_endAlternative 32 = .ok (.return_, 1) := by decide +kernel
theorem dX7_endAlternative_33 : decode cX7_endAlternative 33 = .ok (.aload_n 0, 1) := by decide +kernel
theorem dX7_endAlternative_34 : decode cX7_endAlternative 34 = .ok (.getfield 59, 3) := by decide +kernel
theorem dX7_endAlternative_37 : decode cX7_endAlternative 37 = .ok (.iload_n 2, 1) := by decide +kernel
theorem dX7_endAlternative_38 : decode cX7_endAlternative 38 = .ok (.dup2, 1) := by decide +kernel
theorem dX7_endAlternative_39 : decode cX7_endAlternative 39 = .ok (.iaload, 1) := by decide +kernel
theorem dX7_endAlternative_40 : decode cX7_endAlternative 40 = .ok (.iconst 1, 1) := by decide +kernel
theorem dX7_endAlternative_41 : decode cX7_endAlternative 41 = .ok (.iadd, 1) := by decide +kernel
theorem dX7_endAlternative_42 : decode cX7_endAlternative 42 = .ok (.iastore, 1) := by decide +kernel
theorem dX7_endAlternative_43 : decode cX7_endAlternative 43 = .ok (.aload_n 0, 1) := by decide +kernel
theorem dX7_endAlternative_44 : decode cX7_endAlternative 44 = .ok (.getfield 38, 3) := by decide +kernel
theorem dX7_endAlternative_47 : decode cX7_endAlternative 47 = .ok (.aload_n 0, 1) := by decide +kernel
theorem dX7_endAlternative_48 : decode cX7_endAlternative 48 = .ok (.getfield 53, 3) := by decide +kernel
theorem dX7_endAlternative_51 : decode cX7_endAlternative 51 = .ok (.iload_n 2, 1) := by decide +kernel
theorem dX7_endAlternative_52 : decode cX7_endAlternative 52 = .ok (.iaload, 1) := by decide +kernel
theorem dX7_endAlternative_53 : decode cX7_endAlternative 53 = .ok (.aload_n 0, 1) := by decide +kernel
theorem dX7_endAlternative_54 : decode cX7_endAlternative 54 = .ok (.getfield 114, 3) := by decide +kernel
theorem dX7_endAlternative_57 : decode cX7_endAlternative 57 = .ok (.iastore, 1) := by decide +kernel
theorem dX7_endAlternative_58 : decode cX7_endAlternative 58 = .ok (.aload_n 0, 1) := by decide +kernel
theorem dX7_endAlternative_59 : decode cX7_endAlternative 59 = .ok (.iconst 1, 1) := by decide +kernel
theorem dX7_endAlternative_60 : decode cX7_endAlternative 60 = .ok (.iconst (-1), 1) := by decide +kernel
theorem dX7_endAlternative_61 : decode cX7_endAlternative 61 = .ok (.iconst 0, 1) := by decide +kernel
theorem dX7_endAlternative_62 : decode cX7_endAlternative 62 = .ok (.iconst 0, 1) := by decide +kernel
theorem dX7_endAlternative_63 : decode cX7_endAlternative 63 = .ok (.invokevirtual 124, 3) := by decide +kernel
theorem dX7_endAlternative_66 : decode cX7_endAlternative 66 = .ok (.istore 4, 2) := by decide +kernel
theorem dX7_endAlternative_68 : decode cX7_endAlternative 68 = .ok (.aload_n 0, 1) := by decide +kernel
theorem dX7_endAlternative_69 : decode cX7_endAlternative 69 = .ok (.getfield 53, 3) := by decide +kernel
theorem dX7_endAlternative_72 : decode cX7_endAlternative 72 = .ok (.iload_n 2, 1) := by decide +kernel
theorem dX7_endAlternative_73 : decode cX7_endAlternative 73 = .ok (.iload 4, 2) := by decide +kernel
theorem dX7_endAlternative_75 : decode cX7_endAlternative 75 = .ok (.iastore, 1) := by decide +kernel
theorem dX7_endAlternative_76 : decode cX7_endAlternative 76 = .ok (.return_, 1) := by decide +kernel
theorem dX7_weigh_0 : decode cX7_weigh 0 = .ok (.aload_n 0, 1) := by decide +kernel
theorem dX7_weigh_1 : decode cX7_weigh 1 = .ok (.getfield 59, 3) := by decide +kernel
theorem dX7_weigh_4 : decode cX7_weigh 4 = .ok (.aload_n 0, 1) := by decide +kernel
theorem dX7_weigh_5 : decode cX7_weigh 5 = .ok (.getfield 121, 3) := by decide +kernel
theorem dX7_weigh_8 : decode cX7_weigh 8 = .ok (.iconst 1, 1) := by decide +kernel
theorem dX7_weigh_9 : decode cX7_weigh 9 = .ok (.isub, 1) := by decide +kernel
theorem dX7_weigh_10 : decode cX7_weigh 10 = .ok (.dup2, 1) := by decide +kernel
theorem dX7_weigh_11 : decode cX7_weigh 11 = .ok (.iaload, 1) := by decide +kernel
theorem dX7_weigh_12 : decode cX7_weigh 12 = .ok (.iload_n 1, 1) := by decide +kernel
theorem dX7_weigh_13 : decode cX7_weigh 13 = .ok (.iadd, 1) := by decide +kernel
theorem dX7_weigh_14 : decode cX7_weigh 14 = .ok (.iastore, 1) := by decide +kernel
theorem dX7_weigh_15 : decode cX7_weigh 15 = .ok (.return_, 1) := by decide +kernel
set_option maxRecDepth 20000 in
theorem ggX7_closeBody_X7_endAlternative : GoodIn wsX7_closeBody wsX7_endAlternative := goodIn_r _ [15, 1, 2, 6, 3, 16, 4, 17, 18, 19, 14, 20, 21, 8, 10, 44, 45, 46, 47, 48, 49, 50, 51, 52, 53, 54, 55, 56, 57, 58, 59, 60, 61, 62, 63, 64, 65, 66, 67, 68, 69, 70, 71, 72, 73, 74, 75, 76, 77, 78, 79, 80, 81, 82, 83, 84, 85, 86, 87, 88, 89, 90, 91, 92, 93] (by decide +kernel) (by decide +kernel)
set_option maxRecDepth 20000 in
theorem gX7_closeBody_X7_endAlternative : GoodIn wsX7_closeBody (wsV RX7 128 RX7 yX7_endAlternative wsX7_endAlternative) := goodIn_app (goodIn_of _ (by decide +kernel)) ggX7_closeBody_X7_endAlternative
set_option maxRecDepth 20000 in
theorem ggX7_closeBody_X7_emit : GoodIn wsX7_closeBody wsX7_emit := goodIn_r _ [20, 21, 4, 3, 8, 10, 44, 45, 46, 47, 48, 49, 50, 51, 52, 53, 54, 55, 56, 57, 58, 59, 60, 61, 62, 63, 64, 65, 66, 67, 68, 69, 70, 71, 72, 73, 74, 75, 76, 77, 78, 79, 80, 81, 82, 83, 84, 85, 86, 87, 88, 89, 90, 91, 92, 93] (by decide +kernel) (by decide +kernel)
set_option maxRecDepth 20000 in
theorem gX7_closeBody_X7_emit : GoodIn wsX7_closeBody (wsV RX7 124 RX7 yX7_emit wsX7_emit) := goodIn_app (goodIn_of _ (by decide +kernel)) ggX7_closeBody_X7_emit
set_option maxRecDepth 20000 in
theorem ggX7_closeBody_X7_weigh : GoodIn wsX7_closeBody wsX7_weigh := goodIn_r _ [25, 6, 1, 44, 45, 46, 47, 48, 49, 50, 51, 52, 53, 54, 55, 56, 57, 58, 59, 60, 61, 62, 63, 64, 65, 66, 67, 68, 69, 70, 71, 72, 73, 74, 75, 76, 77, 78, 79, 80, 81, 82, 83, 84, 85, 86, 87, 88, 89, 90, 91, 92, 93] (by decide +kernel) (by decide +kernel)
