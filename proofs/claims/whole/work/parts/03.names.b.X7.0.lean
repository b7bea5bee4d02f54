theorem dX7_init_0 : decode cX7_init 0 = .ok (.aload_n 0, 1) := by decide +kernel
theorem dX7_init_1 : decode cX7_init 1 = .ok (.invokespecial 1, 3) := by decide +kernel
theorem dX7_init_4 : decode cX7_init 4 = .ok (.aload_n 0, 1) := by decide +kernel
theorem dX7_init_5 : decode cX7_init 5 = .ok (.bipush 40, 2) := by decide +kernel
theorem dX7_init_7 : decode cX7_init 7 = .ok (.newarray .char, 2) := by decide +kernel
theorem dX7_init_9 : decode cX7_init 9 = .ok (.putfield 7, 3) := by decide +kernel
theorem dX7_init_12 : decode cX7_init 12 = .ok (.aload_n 0, 1) := by decide +kernel
theorem dX7_init_13 : decode cX7_init 13 = .ok (.bipush 24, 2) := by decide +kernel
theorem dX7_init_15 : decode cX7_init 15 = .ok (.newarray .char, 2) := by decide +kernel
theorem dX7_init_17 : decode cX7_init 17 = .ok (.putfield 13, 3) := by decide +kernel
theorem dX7_init_20 : decode cX7_init 20 = .ok (.aload_n 0, 1) := by decide +kernel
theorem dX7_init_21 : decode cX7_init 21 = .ok (.bipush 40, 2) := by decide +kernel
theorem dX7_init_23 : decode cX7_init 23 = .ok (.newarray .char, 2) := by decide +kernel
theorem dX7_init_25 : decode cX7_init 25 = .ok (.putfield 16, 3) := by decide +kernel
theorem dX7_init_28 : decode cX7_init 28 = .ok (.aload_n 0, 1) := by decide +kernel
theorem dX7_init_29 : decode cX7_init 29 = .ok (.sipush 220, 3) := by decide +kernel
theorem dX7_init_32 : decode cX7_init 32 = .ok (.newarray .int, 2) := by decide +kernel
theorem dX7_init_34 : decode cX7_init 34 = .ok (.putfield 19, 3) := by decide +kernel
theorem dX7_init_37 : decode cX7_init 37 = .ok (.aload_n 0, 1) := by decide +kernel
theorem dX7_init_38 : decode cX7_init 38 = .ok (.sipush 220, 3) := by decide +kernel
theorem dX7_init_41 : decode cX7_init 41 = .ok (.newarray .int, 2) := by decide +kernel
theorem dX7_init_43 : decode cX7_init 43 = .ok (.putfield 23, 3) := by decide +kernel
theorem dX7_init_46 : decode cX7_init 46 = .ok (.aload_n 0, 1) := by decide +kernel
theorem dX7_init_47 : decode cX7_init 47 = .ok (.sipush 220, 3) := by decide +kernel
theorem dX7_init_50 : decode cX7_init 50 = .ok (.newarray .int, 2) := by decide +kernel
theorem dX7_init_52 : decode cX7_init 52 = .ok (.putfield 26, 3) := by decide +kernel
theorem dX7_init_55 : decode cX7_init 55 = .ok (.aload_n 0, 1) := by decide +kernel
theorem dX7_init_56 : decode cX7_init 56 = .ok (.sipush 220, 3) := by decide +kernel
theorem dX7_init_59 : decode cX7_init 59 = .ok (.newarray .int, 2) := by decide +kernel
theorem dX7_init_61 : decode cX7_init 61 = .ok (.putfield 29, 3) := by decide +kernel
theorem dX7_init_64 : decode cX7_init 64 = .ok (.aload_n 0, 1) := by decide +kernel
theorem dX7_init_65 : decode cX7_init 65 = .ok (.bipush 40, 2) := by decide +kernel
theorem dX7_init_67 : decode cX7_init 67 = .ok (.newarray .char, 2) := by decide +kernel
theorem dX7_init_69 : decode cX7_init 69 = .ok (.putfield 32, 3) := by decide +kernel
theorem dX7_init_72 : decode cX7_init 72 = .ok (.aload_n 0, 1) := by decide +kernel
theorem dX7_init_73 : decode cX7_init 73 = .ok (.sipush 220, 3) := by decide +kernel
theorem dX7_init_76 : decode cX7_init 76 = .ok (.newarray .int, 2) := by decide +kernel
theorem dX7_init_78 : decode cX7_init 78 = .ok (.putfield 35, 3) := by decide +kernel
theorem dX7_init_81 : decode cX7_init 81 = .ok (.aload_n 0, 1) := by decide +kernel
theorem dX7_init_82 : decode cX7_init 82 = .ok (.sipush 220, 3) := by decide +kernel
theorem dX7_init_85 : decode cX7_init 85 = .ok (.newarray .int, 2) := by decide +kernel
theorem dX7_init_87 : decode cX7_init 87 = .ok (.putfield 38, 3) := by decide +kernel
theorem dX7_init_90 : decode cX7_init 90 = .ok (.aload_n 0, 1) := by decide +kernel
theorem dX7_init_91 : decode cX7_init 91 = .ok (.sipush 220, 3) := by decide +kernel
theorem dX7_init_94 : decode cX7_init 94 = .ok (.newarray .int, 2) := by decide +kernel
theorem dX7_init_96 : decode cX7_init 96 = .ok (.putfield 41, 3) := by decide +kernel
theorem dX7_init_99 : decode cX7_init 99 = .ok (.aload_n 0, 1) := by decide +kernel
theorem dX7_init_100 : decode cX7_init 100 = .ok (.sipush 220, 3) := by decide +kernel
theorem dX7_init_103 : decode cX7_init 103 = .ok (.newarray .int, 2) := by decide +kernel
theorem dX7_init_105 : decode cX7_init 105 = .ok (.putfield 44, 3) := by decide +kernel
theorem dX7_init_108 : decode cX7_init 108 = .ok (.aload_n 0, 1) := by decide +kernel
theorem dX7_init_109 : decode cX7_init 109 = .ok (.bipush 44, 2) := by decide +kernel
theorem dX7_init_111 : decode cX7_init 111 = .ok (.newarray .int, 2) := by decide +kernel
theorem dX7_init_113 : decode cX7_init 113 = .ok (.putfield 47, 3) := by decide +kernel
theorem dX7_init_116 : decode cX7_init 116 = .ok (.aload_n 0, 1) := by decide +kernel
theorem dX7_init_117 : decode cX7_init 117 = .ok (.bipush 44, 2) := by decide +kernel
theorem dX7_init_119 : decode cX7_init 119 = .ok (.newarray .int, 2) := by decide +kernel
theorem dX7_init_121 : decode cX7_init 121 = .ok (.putfield 50, 3) := by decide +kernel
theorem dX7_init_124 : decode cX7_init 124 = .ok (.aload_n 0, 1) := by decide +kernel
theorem dX7_init_125 : decode cX7_init 125 = .ok (.bipush 44, 2) := by decide +kernel
theorem dX7_init_127 : decode cX7_init 127 = .ok (.newarray .int, 2) := by decide +kernel
theorem dX7_init_129 : decode cX7_init 129 = .ok (.putfield 53, 3) := by decide +kernel
theorem dX7_init_132 : decode cX7_init 132 = .ok (.aload_n 0, 1) := by decide +kernel
theorem dX7_init_133 : decode cX7_init 133 = .ok (.bipush 44, 2) := by decide +kernel
theorem dX7_init_135 : decode cX7_init 135 = .ok (.newarray .int, 2) := by decide +kernel
theorem dX7_init_137 : decode cX7_init 137 = .ok (.putfield 56, 3) := by decide +kernel
theorem dX7_init_140 : decode cX7_init 140 = .ok (.aload_n 0, 1) := by decide +kernel
theorem dX7_init_141 : decode cX7_init 141 = .ok (.bipush 44, 2) := by decide +kernel
theorem dX7_init_143 : decode cX7_init 143 = .ok (.newarray .int, 2) := by decide +kernel
theorem dX7_init_145 : decode cX7_init 145 = .ok (.putfield 59, 3) := by decide +kernel
theorem dX7_init_148 : decode cX7_init 148 = .ok (.aload_n 0, 1) := by decide +kernel
theorem dX7_init_149 : decode cX7_init 149 = .ok (.bipush 44, 2) := by decide +kernel
theorem dX7_init_151 : decode cX7_init 151 = .ok (.newarray .int, 2) := by decide +kernel
theorem dX7_init_153 : decode cX7_init 153 = .ok (.putfield 62, 3) := by decide +kernel
theorem dX7_init_156 : decode cX7_init 156 = .ok (.aload_n 0, 1) := by decide +kernel
theorem dX7_init_157 : decode cX7_init 157 = .ok (.sipush 180, 3) := by decide +kernel
theorem dX7_init_160 : decode cX7_init 160 = .ok (.newarray .int, 2) := by decide +kernel
theorem dX7_init_162 : decode cX7_init 162 = .ok (.putfield 65, 3) := by decide +kernel
theorem dX7_init_165 : decode cX7_init 165 = .ok (.aload_n 0, 1) := by decide +kernel
theorem dX7_init_166 : decode cX7_init 166 = .ok (.sipush 6000, 3) := by decide +kernel
theorem dX7_init_169 : decode cX7_init 169 = .ok (.newarray .int, 2) := by decide +kernel
theorem dX7_init_171 : decode cX7_init 171 = .ok (.putfield 68, 3) := by decide +kernel
theorem dX7_init_174 : decode cX7_init 174 = .ok (.aload_n 0, 1) := by decide +kernel
theorem dX7_init_175 : decode cX7_init 175 = .ok (.sipush 3000, 3) := by decide +kernel
theorem dX7_init_178 : decode cX7_init 178 = .ok (.newarray .int, 2) := by decide +kernel
theorem dX7_init_180 : decode cX7_init 180 = .ok (.putfield 71, 3) := by decide +kernel
theorem dX7_init_183 : decode cX7_init 183 = .ok (.aload_n 0, 1) := by decide +kernel
theorem dX7_init_184 : decode cX7_init 184 = .ok (.bipush 10, 2) := by decide +kernel
theorem dX7_init_186 : decode cX7_init 186 = .ok (.newarray .int, 2) := by decide +kernel
theorem dX7_init_188 : decode cX7_init 188 = .ok (.putfield 74, 3) := by decide +kernel
theorem dX7_init_191 : decode cX7_init 191 = .ok (.aload_n 0, 1) := by decide +kernel
theorem dX7_init_192 : decode cX7_init 192 = .ok (.bipush 10, 2) := by decide +kernel
theorem dX7_init_194 : decode cX7_init 194 = .ok (.newarray .int, 2) := by decide +kernel
theorem dX7_init_196 : decode cX7_init 196 = .ok (.putfield 77, 3) := by decide +kernel
theorem dX7_init_199 : decode cX7_init 199 = .ok (.aload_n 0, 1) := by decide +kernel
theorem dX7_init_200 : decode cX7_init 200 = .ok (.sipush 200, 3) := by decide +kernel
theorem dX7_init_203 : decode cX7_init 203 = .ok (.newarray .char, 2) := by decide +kernel
theorem dX7_init_205 : decode cX7_init 205 = .ok (.putfield 80, 3) := by decide +kernel
theorem dX7_init_208 : decode cX7_init 208 = .ok (.aload_n 0, 1) := by decide +kernel
theorem dX7_init_209 : decode cX7_init 209 = .ok (.sipush 260, 3) := by decide +kernel
theorem dX7_init_212 : decode cX7_init 212 = .ok (.newarray .char, 2) := by decide +kernel
theorem dX7_init_214 : decode cX7_init 214 = .ok (.putfield 83, 3) := by decide +kernel
theorem dX7_init_217 : decode cX7_init 217 = .ok (.aload_n 0, 1) := by decide +kernel
theorem dX7_init_218 : decode cX7_init 218 = .ok (.iconst 0, 1) := by decide +kernel
theorem dX7_init_219 : decode cX7_init 219 = .ok (.putfield 86, 3) := by decide +kernel
theorem dX7_init_222 : decode cX7_init 222 = .ok (.aload_n 0, 1) := by decide +kernel
theorem dX7_init_223 : decode cX7_init 223 = .ok (.invokevirtual 90, 3) := by decide +kernel
theorem dX7_init_226 : decode cX7_init 226 = .ok (.istore_n 1, 1) := by decide +kernel
theorem dX7_init_227 : decode cX7_init 227 = .ok (.iload_n 1, 1) := by decide +kernel
theorem dX7_init_228 : decode cX7_init 228 = .ok (.ifCond .eq 8, 3) := by decide +kernel
theorem dX7_init_231 : decode cX7_init 231 = .ok (.aload_n 0, 1) := by decide +kernel
theorem dX7_init_232 : decode cX7_init 232 = .ok (.iconst 0, 1) := by decide +kernel
theorem dX7_init_233 : decode cX7_init 233 = .ok (.invokevirtual 94, 3) := by decide +kernel
theorem dX7_init_236 : decode cX7_init 236 = .ok (.return_, 1) := by decide +kernel
theorem dX7_thrown_0 : decode cX7_thrown 0 = .ok (.aload_n 0, 1) := by decide +kernel
theorem dX7_thrown_1 : decode cX7_thrown 1 = .ok (.getfield 98, 3) := by decide +kernel
theorem dX7_thrown_4 : decode cX7_thrown 4 = .ok (.ireturn, 1) := by decide +kernel
theorem dX7_refuse_0 : decode cX7_refuse 0 = .ok (.aload_n 0, 1) := by decide +kernel
theorem dX7_refuse_1 : decode cX7_refuse 1 = .ok (.iload_n 1, 1) := by decide +kernel
theorem dX7_refuse_2 : decode cX7_refuse 2 = .ok (.putfield 98, 3) := by decide +kernel
theorem dX7_refuse_5 : decode cX7_refuse 5 = .ok (.iconst 0, 1) := by decide +kernel
theorem dX7_refuse_6 : decode cX7_refuse 6 = .ok (.ireturn, 1) := by decide +kernel
theorem dX7_type_0 : decode cX7_type 0 = .ok (.aload_n 0, 1) := by decide +kernel
theorem dX7_type_1 : decode cX7_type 1 = .ok (.iconst 0, 1) := by decide +kernel
theorem dX7_type_2 : decode cX7_type 2 = .ok (.putfield 98, 3) := by decide +kernel
theorem dX7_type_5 : decode cX7_type 5 = .ok (.iload_n 3, 1) := by decide +kernel
theorem dX7_type_6 : decode cX7_type 6 = .ok (.iconst 1, 1) := by decide +kernel
theorem dX7_type_7 : decode cX7_type 7 = .ok (.if_icmp .lt 20, 3) := by decide +kernel
theorem dX7_type_10 : decode cX7_type 10 = .ok (.iload_n 3, 1) := by decide +kernel
theorem dX7_type_11 : decode cX7_type 11 = .ok (.bipush 8, 2) := by decide +kernel
theorem dX7_type_13 : decode cX7_type 13 = .ok (.if_icmp .gt 14, 3) := by decide +kernel
theorem dX7_type_16 : decode cX7_type 16 = .ok (.aload_n 0, 1) := by decide +kernel
theorem dX7_type_17 : decode cX7_type 17 = .ok (.getfield 101, 3) := by decide +kernel
theorem dX7_type_20 : decode cX7_type 20 = .ok (.iload_n 3, 1) := by decide +kernel
theorem dX7_type_21 : decode cX7_type 21 = .ok (.iadd, 1) := by decide +kernel
theorem dX7_type_22 : decode cX7_type 22 = .ok (.bipush 40, 2) := by decide +kernel
theorem dX7_type_24 : decode cX7_type 24 = .ok (.if_icmp .le 9, 3) := by decide +kernel
theorem dX7_type_27 : decode cX7_type 27 = .ok (.aload_n 0, 1) := by decide +kernel
theorem dX7_type_28 : decode cX7_type 28 = .ok (.iconst 1, 1) := by decide +kernel
theorem dX7_type_29 : decode cX7_type 29 = .ok (.invokevirtual 104, 3) := by decide +kernel
theorem dX7_type_32 : decode cX7_type 32 = .ok (.ireturn, 1) := by decide +kernel
theorem dX7_type_33 : decode cX7_type 33 = .ok (.iconst 0, 1) := by decide +kernel
theorem dX7_type_34 : decode cX7_type 34 = .ok (.istore 4, 2) := by decide +kernel
theorem dX7_type_36 : decode cX7_type 36 = .ok (.iload 4, 2) := by decide +kernel
theorem dX7_type_38 : decode cX7_type 38 = .ok (.iload_n 3, 1) := by decide +kernel
theorem dX7_type_39 : decode cX7_type 39 = .ok (.if_icmp .ge 46, 3) := by decide +kernel
theorem dX7_type_42 : decode cX7_type 42 = .ok (.lload_n 1, 1) := by decide +kernel
theorem dX7_type_43 : decode cX7_type 43 = .ok (.bipush 8, 2) := by decide +kernel
theorem dX7_type_45 : decode cX7_type 45 = .ok (.iload 4, 2) := by decide +kernel
theorem dX7_type_47 : decode cX7_type 47 = .ok (.imul, 1) := by decide +kernel
theorem dX7_type_48 : decode cX7_type 48 = .ok (.lshr, 1) := by decide +kernel
theorem dX7_type_49 : decode cX7_type 49 = .ok (.ldc2_w 108, 3) := by decide +kernel
theorem dX7_type_52 : decode cX7_type 52 = .ok (.land, 1) := by decide +kernel
theorem dX7_type_53 : decode cX7_type 53 = .ok (.lstore 5, 2) := by decide +kernel
theorem dX7_type_55 : decode cX7_type 55 = .ok (.lload 5, 2) := by decide +kernel
theorem dX7_type_57 : decode cX7_type 57 = .ok (.ldc2_w 110, 3) := by decide +kernel
theorem dX7_type_60 : decode cX7_type 60 = .ok (.lcmp, 1) := by decide +kernel
theorem dX7_type_61 : decode cX7_type 61 = .ok (.ifCond .lt 12, 3) := by decide +kernel
theorem dX7_type_64 : decode cX7_type 64 = .ok (.lload 5, 2) := by decide +kernel
theorem dX7_type_66 : decode cX7_type 66 = .ok (.ldc2_w 112, 3) := by decide +kernel
theorem dX7_type_69 : decode cX7_type 69 = .ok (.lcmp, 1) := by decide +kernel
theorem dX7_type_70 : decode cX7_type 70 = .ok (.ifCond .le 9, 3) := by decide +kernel
theorem dX7_type_73 : decode cX7_type 73 = .ok (.aload_n 0, 1) := by decide +kernel
theorem dX7_type_74 : decode cX7_type 74 = .ok (.iconst 1, 1) := by decide +kernel
theorem dX7_type_75 : decode cX7_type 75 = .ok (.invokevirtual 104, 3) := by decide +kernel
theorem dX7_type_78 : decode cX7_type 78 = .ok (.ireturn, 1) := by decide +kernel
theorem dX7_type_79 : decode cX7_type 79 = .ok (.iinc 4 1, 3) := by decide +kernel
theorem dX7_type_82 : decode cX7_type 82 = .ok (.goto (-46), 3) := by decide +kernel
theorem dX7_type_85 : decode cX7_type 85 = .ok (.iconst 0, 1) := by decide +kernel
theorem dX7_type_86 : decode cX7_type 86 = .ok (.istore 4, 2) := by decide +kernel
theorem dX7_type_88 : decode cX7_type 88 = .ok (.iload 4, 2) := by decide +kernel
theorem dX7_type_90 : decode cX7_type 90 = .ok (.iload_n 3, 1) := by decide +kernel
theorem dX7_type_91 : decode cX7_type 91 = .ok (.if_icmp .ge 41, 3) := by decide +kernel
theorem dX7_type_94 : decode cX7_type 94 = .ok (.aload_n 0, 1) := by decide +kernel
theorem dX7_type_95 : decode cX7_type 95 = .ok (.getfield 7, 3) := by decide +kernel
theorem dX7_type_98 : decode cX7_type 98 = .ok (.aload_n 0, 1) := by decide +kernel
theorem dX7_type_99 : decode cX7_type 99 = .ok (.getfield 101, 3) := by decide +kernel
theorem dX7_type_102 : decode cX7_type 102 = .ok (.lload_n 1, 1) := by decide +kernel
theorem dX7_type_103 : decode cX7_type 103 = .ok (.bipush 8, 2) := by decide +kernel
theorem dX7_type_105 : decode cX7_type 105 = .ok (.iload 4, 2) := by decide +kernel
theorem dX7_type_107 : decode cX7_type 107 = .ok (.imul, 1) := by decide +kernel
theorem dX7_type_108 : decode cX7_type 108 = .ok (.lshr, 1) := by decide +kernel
theorem dX7_type_109 : decode cX7_type 109 = .ok (.ldc2_w 108, 3) := by decide +kernel
theorem dX7_type_112 : decode cX7_type 112 = .ok (.land, 1) := by decide +kernel
theorem dX7_type_113 : decode cX7_type 113 = .ok (.l2i, 1) := by decide +kernel
theorem dX7_type_114 : decode cX7_type 114 = .ok (.i2c, 1) := by decide +kernel
theorem dX7_type_115 : decode cX7_type 115 = .ok (.castore, 1) := by decide +kernel
theorem dX7_type_116 : decode cX7_type 116 = .ok (.aload_n 0, 1) := by decide +kernel
theorem dX7_type_117 : decode cX7_type 117 = .ok (.dup, 1) := by decide +kernel
theorem dX7_type_118 : decode cX7_type 118 = .ok (.getfield 101, 3) := by decide +kernel
theorem dX7_type_121 : decode cX7_type 121 = .ok (.iconst 1, 1) := by decide +kernel
theorem dX7_type_122 : decode cX7_type 122 = .ok (.iadd, 1) := by decide +kernel
theorem dX7_type_123 : decode cX7_type 123 = .ok (.putfield 101, 3) := by decide +kernel
theorem dX7_type_126 : decode cX7_type 126 = .ok (.iinc 4 1, 3) := by decide +kernel
theorem dX7_type_129 : decode cX7_type 129 = .ok (.goto (-41), 3) := by decide +kernel
theorem dX7_type_132 : decode cX7_type 132 = .ok (.aload_n 0, 1) := by decide +kernel
theorem dX7_type_133 : decode cX7_type 133 = .ok (.getfield 101, 3) := by decide +kernel
theorem dX7_type_136 : decode cX7_type 136 = .ok (.ireturn, 1) := by decide +kernel
theorem dX7_emit_0 : decode cX7_emit 0 = .ok (.aload_n 0, 1) := by decide +kernel
theorem dX7_emit_1 : decode cX7_emit 1 = .ok (.getfield 35, 3) := by decide +kernel
theorem dX7_emit_4 : decode cX7_emit 4 = .ok (.aload_n 0, 1) := by decide +kernel
theorem dX7_emit_5 : decode cX7_emit 5 = .ok (.getfield 114, 3) := by decide +kernel
theorem dX7_emit_8 : decode cX7_emit 8 = .ok (.iload_n 1, 1) := by decide +kernel
theorem dX7_emit_9 : decode cX7_emit 9 = .ok (.iastore, 1) := by decide +kernel
theorem dX7_emit_10 : decode cX7_emit 10 = .ok (.aload_n 0, 1) := by decide +kernel
theorem dX7_emit_11 : decode cX7_emit 11 = .ok (.getfield 38, 3) := by decide +kernel
theorem dX7_emit_14 : decode cX7_emit 14 = .ok (.aload_n 0, 1) := by decide +kernel
theorem dX7_emit_15 : decode cX7_emit 15 = .ok (.getfield 114, 3) := by decide +kernel
theorem dX7_emit_18 : decode cX7_emit 18 = .ok (.iload_n 2, 1) := by decide +kernel
theorem dX7_emit_19 : decode cX7_emit 19 = .ok (.iastore, 1) := by decide +kernel
theorem dX7_emit_20 : decode cX7_emit 20 = .ok (.aload_n 0, 1) := by decide +kernel
theorem dX7_emit_21 : decode cX7_emit 21 = .ok (.getfield 41, 3) := by decide +kernel
theorem dX7_emit_24 : decode cX7_emit 24 = .ok (.aload_n 0, 1) := by decide +kernel
theorem dX7_emit_25 : decode cX7_emit 25 = .ok (.getfield 114, 3) := by decide +kernel
theorem dX7_emit_28 : decode cX7_emit 28 = .ok (.iload_n 3, 1) := by decide +kernel
theorem dX7_emit_29 : decode cX7_emit 29 = .ok (.iastore, 1) := by decide +kernel
theorem dX7_emit_30 : decode cX7_emit 30 = .ok (.aload_n 0, 1) := by decide +kernel
theorem dX7_emit_31 : decode cX7_emit 31 = .ok (.getfield 44, 3) := by decide +kernel
theorem dX7_emit_34 : decode cX7_emit 34 = .ok (.aload_n 0, 1) := by decide +kernel
theorem dX7_emit_35 : decode cX7_emit 35 = .ok (.getfield 114, 3) := by decide +kernel
theorem dX7_emit_38 : decode cX7_emit 38 = .ok (.iload 4, 2) := by decide +kernel
theorem dX7_emit_40 : decode cX7_emit 40 = .ok (.iastore, 1) := by decide +kernel
theorem dX7_emit_41 : decode cX7_emit 41 = .ok (.aload_n 0, 1) := by decide +kernel
theorem dX7_emit_42 : decode cX7_emit 42 = .ok (.dup, 1) := by decide +kernel
theorem dX7_emit_43 : decode cX7_emit 43 = .ok (.getfield 114, 3) := by decide +kernel
theorem dX7_emit_46 : decode cX7_emit 46 = .ok (.iconst 1, 1) := by decide +kernel
theorem dX7_emit_47 : decode cX7_emit 47 = .ok (.iadd, 1) := by decide +kernel
theorem dX7_emit_48 : decode cX7_emit 48 = .ok (.putfield 114, 3) := by decide +kernel
theorem dX7_emit_51 : decode cX7_emit 51 = .ok (.aload_n 0, 1) := by decide +kernel
theorem dX7_emit_52 : decode cX7_emit 52 = .ok (.getfield 114, 3) := by decide +kernel
theorem dX7_emit_55 : decode cX7_emit 55 = .ok (.iconst 1, 1) := by decide +kernel
theorem dX7_emit_56 : decode cX7_emit 56 = .ok (.isub, 1) := by decide +kernel
theorem dX7_emit_57 : decode cX7_emit 57 = .ok (.ireturn, 1) := by decide +kernel
theorem dX7_sign_0 : decode cX7_sign 0 = .ok (.iload_n 1, 1) := by decide +kernel
theorem dX7_sign_1 : decode cX7_sign 1 = .ok (.aload_n 0, 1) := by decide +kernel
theorem dX7_sign_2 : decode cX7_sign 2 = .ok (.getfield 86, 3) := by decide +kernel
theorem dX7_sign_5 : decode cX7_sign 5 = .ok (.if_icmp .ge 12, 3) := by decide +kernel
theorem dX7_sign_8 : decode cX7_sign 8 = .ok (.aload_n 0, 1) := by decide +kernel
theorem dX7_sign_9 : decode cX7_sign 9 = .ok (.getfield 32, 3) := by decide +kernel
theorem dX7_sign_12 : decode cX7_sign 12 = .ok (.iload_n 1, 1) := by decide +kernel
theorem dX7_sign_13 : decode cX7_sign 13 = .ok (.caload, 1) := by decide +kernel
theorem dX7_sign_14 : decode cX7_sign 14 = .ok (.goto 4, 3) := by decide +kernel
theorem dX7_sign_17 : decode cX7_sign 17 = .ok (.iconst 0, 1) := by decide +kernel
theorem dX7_sign_18 : decode cX7_sign 18 = .ok (.ireturn, 1) := by decide +kernel
theorem dX7_isSpecial_0 : decode cX7_isSpecial 0 = .ok (.iload_n 0, 1) := by decide +kernel
theorem dX7_isSpecial_1 : decode cX7_isSpecial 1 = .ok (.bipush 94, 2) := by decide +kernel
theorem dX7_isSpecial_3 : decode cX7_isSpecial 3 = .ok (.if_icmp .eq 81, 3) := by decide +kernel
theorem dX7_isSpecial_6 : decode cX7_isSpecial 6 = .ok (.iload_n 0, 1) := by decide +kernel
theorem dX7_isSpecial_7 : decode cX7_isSpecial 7 = .ok (.bipush 36, 2) := by decide +kernel
theorem dX7_isSpecial_9 : decode cX7_isSpecial 9 = .ok (.if_icmp .eq 75, 3) := by decide +kernel
theorem dX7_isSpecial_12 : decode cX7_isSpecial 12 = .ok (.iload_n 0, 1) := by decide +kernel
theorem dX7_isSpecial_13 : decode cX7_isSpecial 13 = .ok (.bipush 92, 2) := by decide +kernel
theorem dX7_isSpecial_15 : decode cX7_isSpecial 15 = .ok (.if_icmp .eq 69, 3) := by decide +kernel
theorem dX7_isSpecial_18 : decode cX7_isSpecial 18 = .ok (.iload_n 0, 1) := by decide +kernel
theorem dX7_isSpecial_19 : decode cX7_isSpecial 19 = .ok (.bipush 46, 2) := by decide +kernel
theorem dX7_isSpecial_21 : decode cX7_isSpecial 21 = .ok (.if_icmp .eq 63, 3) := by decide +kernel
theorem dX7_isSpecial_24 : decode cX7_isSpecial 24 = .ok (.iload_n 0, 1) := by decide +kernel
theorem dX7_isSpecial_25 : decode cX7_isSpecial 25 = .ok (.bipush 42, 2) := by decide +kernel
theorem dX7_isSpecial_27 : decode cX7_isSpecial 27 = .ok (.if_icmp .eq 57, 3) := by decide +kernel
theorem dX7_isSpecial_30 : decode cX7_isSpecial 30 = .ok (.iload_n 0, 1) := by decide +kernel
theorem dX7_isSpecial_31 : decode cX7_isSpecial 31 = .ok (.bipush 43, 2) := by decide +kernel
theorem dX7_isSpecial_33 : decode cX7_isSpecial 33 = .ok (.if_icmp .eq 51, 3) := by decide +kernel
theorem dX7_isSpecial_36 : decode cX7_isSpecial 36 = .ok (.iload_n 0, 1) := by decide +kernel
theorem dX7_isSpecial_37 : decode cX7_isSpecial 37 = .ok (.bipush 63, 2) := by decide +kernel
theorem dX7_isSpecial_39 : decode cX7_isSpecial 39 = .ok (.if_icmp .eq 45, 3) := by decide +kernel
theorem dX7_isSpecial_42 : decode cX7_isSpecial 42 = .ok (.iload_n 0, 1) := by decide +kernel
theorem dX7_isSpecial_43 : decode cX7_isSpecial 43 = .ok (.bipush 40, 2) := by decide +kernel
theorem dX7_isSpecial_45 : decode cX7_isSpecial 45 = .ok (.if_icmp .eq 39, 3) := by decide +kernel
theorem dX7_isSpecial_48 : decode cX7_isSpecial 48 = .ok (.iload_n 0, 1) := by decide +kernel
theorem dX7_isSpecial_49 : decode cX7_isSpecial 49 = .ok (.bipush 41, 2) := by decide +kernel
theorem dX7_isSpecial_51 : decode cX7_isSpecial 51 = .ok (.if_icmp .eq 33, 3) := by decide +kernel
theorem dX7_isSpecial_54 : decode cX7_isSpecial 54 = .ok (.iload_n 0, 1) := by decide +kernel
theorem dX7_isSpecial_55 : decode cX7_isSpecial 55 = .ok (.bipush 91, 2) := by decide +kernel
theorem dX7_isSpecial_57 : decode cX7_isSpecial 57 = .ok (.if_icmp .eq 27, 3) := by decide +kernel
theorem dX7_isSpecial_60 : decode cX7_isSpecial 60 = .ok (.iload_n 0, 1) := by decide +kernel
theorem dX7_isSpecial_61 : decode cX7_isSpecial 61 = .ok (.bipush 93, 2) := by decide +kernel
theorem dX7_isSpecial_63 : decode cX7_isSpecial 63 = .ok (.if_icmp .eq 21, 3) := by decide +kernel
theorem dX7_isSpecial_66 : decode cX7_isSpecial 66 = .ok (.iload_n 0, 1) := by decide +kernel
theorem dX7_isSpecial_67 : decode cX7_isSpecial 67 = .ok (.bipush 123, 2) := by decide +kernel
theorem dX7_isSpecial_69 : decode cX7_isSpecial 69 = .ok (.if_icmp .eq 15, 3) := by decide +kernel
theorem dX7_isSpecial_72 : decode cX7_isSpecial 72 = .ok (.iload_n 0, 1) := by decide +kernel
theorem dX7_isSpecial_73 : decode cX7_isSpecial 73 = .ok (.bipush 125, 2) := by decide +kernel
theorem dX7_isSpecial_75 : decode cX7_isSpecial 75 = .ok (.if_icmp .eq 9, 3) := by decide +kernel
theorem dX7_isSpecial_78 : decode cX7_isSpecial 78 = .ok (.iload_n 0, 1) := by decide +kernel
theorem dX7_isSpecial_79 : decode cX7_isSpecial 79 = .ok (.bipush 124, 2) := by decide +kernel
theorem dX7_isSpecial_81 : decode cX7_isSpecial 81 = .ok (.if_icmp .ne 7, 3) := by decide +kernel
theorem dX7_isSpecial_84 : decode cX7_isSpecial 84 = .ok (.iconst 1, 1) := by decide +kernel
theorem dX7_isSpecial_85 : decode cX7_isSpecial 85 = .ok (.goto 4, 3) := by decide +kernel
theorem dX7_isSpecial_88 : decode cX7_isSpecial 88 = .ok (.iconst 0, 1) := by decide +kernel
theorem dX7_isSpecial_89 : decode cX7_isSpecial 89 = .ok (.ireturn, 1) := by decide +kernel
theorem dX7_isClass_0 : decode cX7_isClass 0 = .ok (.iload_n 0, 1) := by decide +kernel
theorem dX7_isClass_1 : decode cX7_isClass 1 = .ok (.bipush 100, 2) := by decide +kernel
theorem dX7_isClass_3 : decode cX7_isClass 3 = .ok (.if_icmp .eq 33, 3) := by decide +kernel
theorem dX7_isClass_6 : decode cX7_isClass 6 = .ok (.iload_n 0, 1) := by decide +kernel
theorem dX7_isClass_7 : decode cX7_isClass 7 = .ok (.bipush 119, 2) := by decide +kernel
theorem dX7_isClass_9 : decode cX7_isClass 9 = .ok (.if_icmp .eq 27, 3) := by decide +kernel
theorem dX7_isClass_12 : decode cX7_isClass 12 = .ok (.iload_n 0, 1) := by decide +kernel
theorem dX7_isClass_13 : decode cX7_isClass 13 = .ok (.bipush 115, 2) := by decide +kernel
theorem dX7_isClass_15 : decode cX7_isClass 15 = .ok (.if_icmp .eq 21, 3) := by decide +kernel
theorem dX7_isClass_18 : decode cX7_isClass 18 = .ok (.iload_n 0, 1) := by decide +kernel
theorem dX7_isClass_19 : decode cX7_isClass 19 = .ok (.bipush 68, 2) := by decide +kernel
theorem dX7_isClass_21 : decode cX7_isClass 21 = .ok (.if_icmp .eq 15, 3) := by decide +kernel
theorem dX7_isClass_24 : decode cX7_isClass 24 = .ok (.iload_n 0, 1) := by decide +kernel
theorem dX7_isClass_25 : decode cX7_isClass 25 = .ok (.bipush 87, 2) := by decide +kernel
theorem dX7_isClass_27 : decode cX7_isClass 27 = .ok (.if_icmp .eq 9, 3) := by decide +kernel
theorem dX7_isClass_30 : decode cX7_isClass 30 = .ok (.iload_n 0, 1) := by decide +kernel
theorem dX7_isClass_31 : decode cX7_isClass 31 = .ok (.bipush 83, 2) := by decide +kernel
theorem dX7_isClass_33 : decode cX7_isClass 33 = .ok (.if_icmp .ne 7, 3) := by decide +kernel
theorem dX7_isClass_36 : decode cX7_isClass 36 = .ok (.iconst 1, 1) := by decide +kernel
theorem dX7_isClass_37 : decode cX7_isClass 37 = .ok (.goto 4, 3) := by decide +kernel
theorem dX7_isClass_40 : decode cX7_isClass 40 = .ok (.iconst 0, 1) := by decide +kernel
theorem dX7_isClass_41 : decode cX7_isClass 41 = .ok (.ireturn, 1) := by decide +kernel
theorem dX7_isDigit_0 : decode cX7_isDigit 0 = .ok (.iload_n 0, 1) := by decide +kernel
theorem dX7_isDigit_1 : decode cX7_isDigit 1 = .ok (.bipush 48, 2) := by decide +kernel
theorem dX7_isDigit_3 : decode cX7_isDigit 3 = .ok (.if_icmp .lt 13, 3) := by decide +kernel
theorem dX7_isDigit_6 : decode cX7_isDigit 6 = .ok (.iload_n 0, 1) := by decide +kernel
theorem dX7_isDigit_7 : decode cX7_isDigit 7 = .ok (.bipush 57, 2) := by decide +kernel
theorem dX7_isDigit_9 : decode cX7_isDigit 9 = .ok (.if_icmp .gt 7, 3) := by decide +kernel
theorem dX7_isDigit_12 : decode cX7_isDigit 12 = .ok (.iconst 1, 1) := by decide +kernel
theorem dX7_isDigit_13 : decode cX7_isDigit 13 = .ok (.goto 4, 3) := by decide +kernel
theorem dX7_isDigit_16 : decode cX7_isDigit 16 = .ok (.iconst 0, 1) := by decide +kernel
theorem dX7_isDigit_17 : decode cX7_isDigit 17 = .ok (.ireturn, 1) := by decide +kernel
theorem dX7_openBody_0 : decode cX7_openBody 0 = .ok (.aload_n 0, 1) := by decide +kernel
theorem dX7_openBody_1 : decode cX7_openBody 1 = .ok (.aload_n 0, 1) := by decide +kernel
theorem dX7_openBody_2 : decode cX7_openBody 2 = .ok (.getfield 117, 3) := by decide +kernel
theorem dX7_openBody_5 : decode cX7_openBody 5 = .ok (.ifCond .ne 12, 3) := by decide +kernel
theorem dX7_openBody_8 : decode cX7_openBody 8 = .ok (.aload_n 0, 1) := by decide +kernel
theorem dX7_openBody_9 : decode cX7_openBody 9 = .ok (.getfield 121, 3) := by decide +kernel
theorem dX7_openBody_12 : decode cX7_openBody 12 = .ok (.bipush 8, 2) := by decide +kernel
theorem dX7_openBody_14 : decode cX7_openBody 14 = .ok (.if_icmp .le 7, 3) := by decide +kernel
theorem dX7_openBody_17 : decode cX7_openBody 17 = .ok (.iconst 1, 1) := by decide +kernel
theorem dX7_openBody_18 : decode cX7_openBody 18 = .ok (.goto 4, 3) := by decide +kernel
theorem dX7_openBody_21 : decode cX7_openBody 21 = .ok (.iconst 0, 1) := by decide +kernel
theorem dX7_openBody_22 : decode cX7_openBody 22 = .ok (.putfield 117, 3) := by decide +kernel
theorem dX7_openBody_25 : decode cX7_openBody 25 = .ok (.aload_n 0, 1) := by decide +kernel
theorem dX7_openBody_26 : decode cX7_openBody 26 = .ok (.getfield 47, 3) := by decide +kernel
theorem dX7_openBody_29 : decode cX7_openBody 29 = .ok (.aload_n 0, 1) := by decide +kernel
theorem dX7_openBody_30 : decode cX7_openBody 30 = .ok (.getfield 121, 3) := by decide +kernel
theorem dX7_openBody_33 : decode cX7_openBody 33 = .ok (.iload_n 1, 1) := by decide +kernel
theorem dX7_openBody_34 : decode cX7_openBody 34 = .ok (.iastore, 1) := by decide +kernel
theorem dX7_openBody_35 : decode cX7_openBody 35 = .ok (.aload_n 0, 1) := by decide +kernel
theorem dX7_openBody_36 : decode cX7_openBody 36 = .ok (.getfield 50, 3) := by decide +kernel
theorem dX7_openBody_39 : decode cX7_openBody 39 = .ok (.aload_n 0, 1) := by decide +kernel
theorem dX7_openBody_40 : decode cX7_openBody 40 = .ok (.getfield 121, 3) := by decide +kernel
theorem dX7_openBody_43 : decode cX7_openBody 43 = .ok (.iconst 0, 1) := by decide +kernel
theorem dX7_openBody_44 : decode cX7_openBody 44 = .ok (.iastore, 1) := by decide +kernel
theorem dX7_openBody_45 : decode cX7_openBody 45 = .ok (.aload_n 0, 1) := by decide +kernel
theorem dX7_openBody_46 : decode cX7_openBody 46 = .ok (.getfield 62, 3) := by decide +kernel
theorem dX7_openBody_49 : decode cX7_openBody 49 = .ok (.aload_n 0, 1) := by decide +kernel
theorem dX7_openBody_50 : decode cX7_openBody 50 = .ok (.getfield 121, 3) := by decide +kernel
theorem dX7_openBody_53 : decode cX7_openBody 53 = .ok (.iload_n 2, 1) := by decide +kernel
theorem dX7_openBody_54 : decode cX7_openBody 54 = .ok (.iastore, 1) := by decide +kernel
theorem dX7_openBody_55 : decode cX7_openBody 55 = .ok (.aload_n 0, 1) := by decide +kernel
theorem dX7_openBody_56 : decode cX7_openBody 56 = .ok (.getfield 56, 3) := by decide +kernel
theorem dX7_openBody_59 : decode cX7_openBody 59 = .ok (.aload_n 0, 1) := by decide +kernel
theorem dX7_openBody_60 : decode cX7_openBody 60 = .ok (.getfield 121, 3) := by decide +kernel
theorem dX7_openBody_63 : decode cX7_openBody 63 = .ok (.iconst (-1), 1) := by decide +kernel
theorem dX7_openBody_64 : decode cX7_openBody 64 = .ok (.iastore, 1) := by decide +kernel
theorem dX7_openBody_65 : decode cX7_openBody 65 = .ok (.aload_n 0, 1) := by decide +kernel
theorem dX7_openBody_66 : decode cX7_openBody 66 = .ok (.getfield 59, 3) := by decide +kernel
theorem dX7_openBody_69 : decode cX7_openBody 69 = .ok (.aload_n 0, 1) := by decide +kernel
theorem dX7_openBody_70 : decode cX7_openBody 70 = .ok (.getfield 121, 3) := by decide +kernel
theorem dX7_openBody_73 : decode cX7_openBody 73 = .ok (.iconst 0, 1) := by decide +kernel
theorem dX7_openBody_74 : decode cX7_openBody 74 = .ok (.iastore, 1) := by decide +kernel
theorem dX7_openBody_75 : decode cX7_openBody 75 = .ok (.aload_n 0, 1) := by decide +kernel
theorem dX7_openBody_76 : decode cX7_openBody 76 = .ok (.dup, 1) := by decide +kernel
theorem dX7_openBody_77 : decode cX7_openBody 77 = .ok (.getfield 121, 3) := by decide +kernel
theorem dX7_openBody_80 : decode cX7_openBody 80 = .ok (.iconst 1, 1) := by decide +kernel
theorem dX7_openBody_81 : decode cX7_openBody 81 = .ok (.iadd, 1) := by decide +kernel
theorem dX7_openBody_82 : decode cX7_openBody 82 = .ok (.putfield 121, 3) := by decide +kernel
theorem dX7_openBody_85 : decode cX7_openBody 85 = .ok (.aload_n 0, 1) := by decide +kernel
theorem dX7_openBody_86 : decode cX7_openBody 86 = .ok (.iconst 1, 1) := by decide +kernel
theorem dX7_openBody_87 : decode cX7_openBody 87 = .ok (.iconst (-1), 1) := by decide +kernel
theorem dX7_openBody_88 : decode cX7_openBody 88 = .ok (.iconst 0, 1) := by decide +kernel
theorem dX7_openBody_89 : decode cX7_openBody 89 = .ok (.iconst 0, 1) := by decide +kernel
theorem dX7_openBody_90 : decode cX7_openBody 90 = .ok (.invokevirtual 124, 3) := by decide +kernel
theorem dX7_openBody_93 : decode cX7_openBody 93 = .ok (.istore_n 3, 1) := by decide +kernel
theorem dX7_openBody_94 : decode cX7_openBody 94 = .ok (.aload_n 0, 1) := by decide +kernel
theorem dX7_openBody_95 : decode cX7_openBody 95 = .ok (.getfield 53, 3) := by decide +kernel
theorem dX7_openBody_98 : decode cX7_openBody 98 = .ok (.aload_n 0, 1) := by decide +kernel
theorem dX7_openBody_99 : decode cX7_openBody 99 = .ok (.getfield 121, 3) := by decide +kernel
theorem dX7_openBody_102 : decode cX7_openBody 102 = .ok (.iconst 1, 1) := by decide +kernel
theorem dX7_openBody_103 : decode cX7_openBody 103 = .ok (.isub, 1) := by decide +kernel
theorem dX7_openBody_104 : decode cX7_openBody 104 = .ok (.iload_n 3, 1) := by decide +kernel
theorem dX7_openBody_105 : decode cX7_openBody 105 = .ok (.iastore, 1) := by decide +kernel
theorem dX7_openBody_106 : decode cX7_openBody 106 = .ok (.return_, 1) := by decide +kernel
theorem dX7_endAlternative_0 : decode cX7_endAlternative 0 = .ok (.aload_n 0, 1) := by decide +kernel
theorem dX7_endAlternative_1 : decode cX7_endAlternative 1 = .ok (.getfield 121, 3) := by decide +kernel
theorem dX7_endAlternative_4 : decode cX7_endAlternative 4 = .ok (.iconst 1, 1) := by decide +kernel
theorem dX7_endAlternative_5 : decode cX7_endAlternative 5 = .ok (.isub, 1) := by decide +kernel
theorem dX7_endAlternative_6 : decode cX7_endAlternative 6 = .ok (.istore_n 2, 1) := by decide +kernel
theorem dX7_endAlternative_7 : decode cX7_endAlternative 7 = .ok (.aload_n 0, 1) := by decide +kernel
theorem dX7_endAlternative_8 : decode cX7_endAlternative 8 = .ok (.iconst 2, 1) := by decide +kernel
theorem dX7_endAlternative_9 : decode cX7_endAlternative 9 = .ok (.aload_n 0, 1) := by decide +kernel
theorem dX7_endAlternative_10 : decode cX7_endAlternative 10 = .ok (.getfield 56, 3) := by decide +kernel
theorem dX7_endAlternative_13 : decode cX7_endAlternative 13 = .ok (.iload_n 2, 1) := by decide +kernel
theorem dX7_endAlternative_14 : decode cX7_endAlternative 14 = .ok (.iaload, 1) := by decide +kernel
theorem dX7_endAlternative_15 : decode cX7_endAlternative 15 = .ok (.iconst 0, 1) := by decide +kernel
theorem dX7_endAlternative_16 : decode cX7_endAlternative 16 = .ok (.iconst 0, 1) := by decide +kernel
theorem dX7_endAlternative_17 : decode cX7_endAlternative 17 = .ok (.invokevirtual 124, 3) := by decide +kernel
theorem dX7_endAlternative_20 : decode cX7_endAlternative 20 = .ok (.istore_n 3, 1) := by decide +kernel
theorem dX7_endAlternative_21 : decode cX7_endAlternative 21 = .ok (.aload_n 0, 1) := by decide +kernel
theorem dX7_endAlternative_22 : decode cX7_endAlternative 22 = .ok (.getfield 56, 3) := by decide +kernel
theorem dX7_endAlternative_25 : decode cX7_endAlternative 25 = .ok (.iload_n 2, 1) := by decide +kernel
theorem dX7_endAlternative_26 : decode cX7_endAlternative 26 = .ok (.iload_n 3, 1) := by decide +kernel
theorem dX7_endAlternative_27 : decode cX7_endAlternative 27 = .ok (.iastore, 1) := by decide +kernel
theorem dX7_endAlternative_28 : decode cX7_endAlternative 28 = .ok (.iload_n 1, 1) := by decide +kernel
theorem dX7_endAlternative_29 : decode cX7_endAlternative 29 = .ok (.ifCond .ne 4, 3) := by decide +kernel
theorem dX7_endAlternative_32 : decode cX7_endAlternative 32 = .ok (.return_, 1) := by decide +kernel
theorem dX7_endAlternative_33 : decode cX7_endAlternative 33 = .ok (.aload_n 0, 1) := by decide +kernel
theorem dX7_endAlternative_34 : decode cX7_endAlternative 34 = .ok (.getfield 59, 3) := by decide +kernel
theorem dX7_endAlternative_37 : decode cX7_endAlternative 37 = .ok (.iload_n 2, 1) := by decide +kernel
theorem dX7_endAlternative_38 : decode cX7_endAlternative 38 = .ok (.dup2, 1) := by decide +kernel
theorem dX7_endAlternative_39 : decode cX7_endAlternative 39 = .ok (.iaload, 1) := by decide +kernel
theorem dX7_endAlternative_40 : decode cX7_endAlternative 40 = .ok (.iconst 1, 1) := by decide +kernel
theorem dX7_endAlternative_41 : decode cX7_endAlternative 41 = .ok (.iadd, 1) := by decide +kernel
theorem dX7_endAlternative_42 : decode cX7_endAlternative 42 = .ok (.iastore, 1) := by decide +kernel
theorem dX7_endAlternative_43 : decode cX7_endAlternative 43 = .ok (.aload_n 0, 1) := by decide +kernel
theorem dX7_endAlternative_44 : decode cX7_endAlternative 44 = .ok (.getfield 38, 3) := by decide +kernel
theorem dX7_endAlternative_47 : decode cX7_endAlternative 47 = .ok (.aload_n 0, 1) := by decide +kernel
theorem dX7_endAlternative_48 : decode cX7_endAlternative 48 = .ok (.getfield 53, 3) := by decide +kernel
theorem dX7_endAlternative_51 : decode cX7_endAlternative 51 = .ok (.iload_n 2, 1) := by decide +kernel
theorem dX7_endAlternative_52 : decode cX7_endAlternative 52 = .ok (.iaload, 1) := by decide +kernel
theorem dX7_endAlternative_53 : decode cX7_endAlternative 53 = .ok (.aload_n 0, 1) := by decide +kernel
theorem dX7_endAlternative_54 : decode cX7_endAlternative 54 = .ok (.getfield 114, 3) := by decide +kernel
theorem dX7_endAlternative_57 : decode cX7_endAlternative 57 = .ok (.iastore, 1) := by decide +kernel
theorem dX7_endAlternative_58 : decode cX7_endAlternative 58 = .ok (.aload_n 0, 1) := by decide +kernel
theorem dX7_endAlternative_59 : decode cX7_endAlternative 59 = .ok (.iconst 1, 1) := by decide +kernel
theorem dX7_endAlternative_60 : decode cX7_endAlternative 60 = .ok (.iconst (-1), 1) := by decide +kernel
theorem dX7_endAlternative_61 : decode cX7_endAlternative 61 = .ok (.iconst 0, 1) := by decide +kernel
theorem dX7_endAlternative_62 : decode cX7_endAlternative 62 = .ok (.iconst 0, 1) := by decide +kernel
theorem dX7_endAlternative_63 : decode cX7_endAlternative 63 = .ok (.invokevirtual 124, 3) := by decide +kernel
theorem dX7_endAlternative_66 : decode cX7_endAlternative 66 = .ok (.istore 4, 2) := by decide +kernel
theorem dX7_endAlternative_68 : decode cX7_endAlternative 68 = .ok (.aload_n 0, 1) := by decide +kernel
theorem dX7_endAlternative_69 : decode cX7_endAlternative 69 = .ok (.getfield 53, 3) := by decide +kernel
theorem dX7_endAlternative_72 : decode cX7_endAlternative 72 = .ok (.iload_n 2, 1) := by decide +kernel
theorem dX7_endAlternative_73 : decode cX7_endAlternative 73 = .ok (.iload 4, 2) := by decide +kernel
theorem dX7_endAlternative_75 : decode cX7_endAlternative 75 = .ok (.iastore, 1) := by decide +kernel
theorem dX7_endAlternative_76 : decode cX7_endAlternative 76 = .ok (.return_, 1) := by decide +kernel
theorem dX7_weigh_0 : decode cX7_weigh 0 = .ok (.aload_n 0, 1) := by decide +kernel
theorem dX7_weigh_1 : decode cX7_weigh 1 = .ok (.getfield 59, 3) := by decide +kernel
theorem dX7_weigh_4 : decode cX7_weigh 4 = .ok (.aload_n 0, 1) := by decide +kernel
theorem dX7_weigh_5 : decode cX7_weigh 5 = .ok (.getfield 121, 3) := by decide +kernel
theorem dX7_weigh_8 : decode cX7_weigh 8 = .ok (.iconst 1, 1) := by decide +kernel
theorem dX7_weigh_9 : decode cX7_weigh 9 = .ok (.isub, 1) := by decide +kernel
theorem dX7_weigh_10 : decode cX7_weigh 10 = .ok (.dup2, 1) := by decide +kernel
theorem dX7_weigh_11 : decode cX7_weigh 11 = .ok (.iaload, 1) := by decide +kernel
theorem dX7_weigh_12 : decode cX7_weigh 12 = .ok (.iload_n 1, 1) := by decide +kernel
theorem dX7_weigh_13 : decode cX7_weigh 13 = .ok (.iadd, 1) := by decide +kernel
theorem dX7_weigh_14 : decode cX7_weigh 14 = .ok (.iastore, 1) := by decide +kernel
theorem dX7_weigh_15 : decode cX7_weigh 15 = .ok (.return_, 1) := by decide +kernel
theorem dX7_closeBody_0 : decode cX7_closeBody 0 = .ok (.aload_n 0, 1) := by decide +kernel
theorem dX7_closeBody_1 : decode cX7_closeBody 1 = .ok (.iconst 0, 1) := by decide +kernel
theorem dX7_closeBody_2 : decode cX7_closeBody 2 = .ok (.invokevirtual 128, 3) := by decide +kernel
theorem dX7_closeBody_5 : decode cX7_closeBody 5 = .ok (.aload_n 0, 1) := by decide +kernel
theorem dX7_closeBody_6 : decode cX7_closeBody 6 = .ok (.getfield 121, 3) := by decide +kernel
theorem dX7_closeBody_9 : decode cX7_closeBody 9 = .ok (.iconst 1, 1) := by decide +kernel
theorem dX7_closeBody_10 : decode cX7_closeBody 10 = .ok (.isub, 1) := by decide +kernel
theorem dX7_closeBody_11 : decode cX7_closeBody 11 = .ok (.istore_n 1, 1) := by decide +kernel
theorem dX7_closeBody_12 : decode cX7_closeBody 12 = .ok (.aload_n 0, 1) := by decide +kernel
theorem dX7_closeBody_13 : decode cX7_closeBody 13 = .ok (.getfield 56, 3) := by decide +kernel
theorem dX7_closeBody_16 : decode cX7_closeBody 16 = .ok (.iload_n 1, 1) := by decide +kernel
theorem dX7_closeBody_17 : decode cX7_closeBody 17 = .ok (.iaload, 1) := by decide +kernel
theorem dX7_closeBody_18 : decode cX7_closeBody 18 = .ok (.istore_n 2, 1) := by decide +kernel
theorem dX7_closeBody_19 : decode cX7_closeBody 19 = .ok (.iload_n 2, 1) := by decide +kernel
theorem dX7_closeBody_20 : decode cX7_closeBody 20 = .ok (.ifCond .lt 25, 3) := by decide +kernel
theorem dX7_closeBody_23 : decode cX7_closeBody 23 = .ok (.aload_n 0, 1) := by decide +kernel
theorem dX7_closeBody_24 : decode cX7_closeBody 24 = .ok (.getfield 38, 3) := by decide +kernel
theorem dX7_closeBody_27 : decode cX7_closeBody 27 = .ok (.iload_n 2, 1) := by decide +kernel
theorem dX7_closeBody_28 : decode cX7_closeBody 28 = .ok (.iaload, 1) := by decide +kernel
theorem dX7_closeBody_29 : decode cX7_closeBody 29 = .ok (.istore_n 3, 1) := by decide +kernel
theorem dX7_closeBody_30 : decode cX7_closeBody 30 = .ok (.aload_n 0, 1) := by decide +kernel
theorem dX7_closeBody_31 : decode cX7_closeBody 31 = .ok (.getfield 38, 3) := by decide +kernel
theorem dX7_closeBody_34 : decode cX7_closeBody 34 = .ok (.iload_n 2, 1) := by decide +kernel
theorem dX7_closeBody_35 : decode cX7_closeBody 35 = .ok (.aload_n 0, 1) := by decide +kernel
theorem dX7_closeBody_36 : decode cX7_closeBody 36 = .ok (.getfield 114, 3) := by decide +kernel
theorem dX7_closeBody_39 : decode cX7_closeBody 39 = .ok (.iastore, 1) := by decide +kernel
theorem dX7_closeBody_40 : decode cX7_closeBody 40 = .ok (.iload_n 3, 1) := by decide +kernel
theorem dX7_closeBody_41 : decode cX7_closeBody 41 = .ok (.istore_n 2, 1) := by decide +kernel
theorem dX7_closeBody_42 : decode cX7_closeBody 42 = .ok (.goto (-23), 3) := by decide +kernel
theorem dX7_closeBody_45 : decode cX7_closeBody 45 = .ok (.aload_n 0, 1) := by decide +kernel
theorem dX7_closeBody_46 : decode cX7_closeBody 46 = .ok (.dup, 1) := by decide +kernel
theorem dX7_closeBody_47 : decode cX7_closeBody 47 = .ok (.getfield 121, 3) := by decide +kernel
theorem dX7_closeBody_50 : decode cX7_closeBody 50 = .ok (.iconst 1, 1) := by decide +kernel
theorem dX7_closeBody_51 : decode cX7_closeBody 51 = .ok (.isub, 1) := by decide +kernel
theorem dX7_closeBody_52 : decode cX7_closeBody 52 = .ok (.putfield 121, 3) := by decide +kernel
theorem dX7_closeBody_55 : decode cX7_closeBody 55 = .ok (.aload_n 0, 1) := by decide +kernel
theorem dX7_closeBody_56 : decode cX7_closeBody 56 = .ok (.getfield 47, 3) := by decide +kernel
theorem dX7_closeBody_59 : decode cX7_closeBody 59 = .ok (.iload_n 1, 1) := by decide +kernel
theorem dX7_closeBody_60 : decode cX7_closeBody 60 = .ok (.iaload, 1) := by decide +kernel
theorem dX7_closeBody_61 : decode cX7_closeBody 61 = .ok (.istore_n 3, 1) := by decide +kernel
theorem dX7_closeBody_62 : decode cX7_closeBody 62 = .ok (.iload_n 3, 1) := by decide +kernel
theorem dX7_closeBody_63 : decode cX7_closeBody 63 = .ok (.ifCond .ne 4, 3) := by decide +kernel
theorem dX7_closeBody_66 : decode cX7_closeBody 66 = .ok (.return_, 1) := by decide +kernel
theorem dX7_closeBody_67 : decode cX7_closeBody 67 = .ok (.aload_n 0, 1) := by decide +kernel
theorem dX7_closeBody_68 : decode cX7_closeBody 68 = .ok (.getfield 59, 3) := by decide +kernel
theorem dX7_closeBody_71 : decode cX7_closeBody 71 = .ok (.iload_n 1, 1) := by decide +kernel
theorem dX7_closeBody_72 : decode cX7_closeBody 72 = .ok (.iaload, 1) := by decide +kernel
theorem dX7_closeBody_73 : decode cX7_closeBody 73 = .ok (.iconst 1, 1) := by decide +kernel
theorem dX7_closeBody_74 : decode cX7_closeBody 74 = .ok (.iadd, 1) := by decide +kernel
theorem dX7_closeBody_75 : decode cX7_closeBody 75 = .ok (.istore 4, 2) := by decide +kernel
theorem dX7_closeBody_77 : decode cX7_closeBody 77 = .ok (.iload_n 3, 1) := by decide +kernel
theorem dX7_closeBody_78 : decode cX7_closeBody 78 = .ok (.iconst 1, 1) := by decide +kernel
theorem dX7_closeBody_79 : decode cX7_closeBody 79 = .ok (.if_icmp .ne 18, 3) := by decide +kernel
theorem dX7_closeBody_82 : decode cX7_closeBody 82 = .ok (.aload_n 0, 1) := by decide +kernel
theorem dX7_closeBody_83 : decode cX7_closeBody 83 = .ok (.bipush 11, 2) := by decide +kernel
theorem dX7_closeBody_85 : decode cX7_closeBody 85 = .ok (.aload_n 0, 1) := by decide +kernel
theorem dX7_closeBody_86 : decode cX7_closeBody 86 = .ok (.getfield 50, 3) := by decide +kernel
theorem dX7_closeBody_89 : decode cX7_closeBody 89 = .ok (.iload_n 1, 1) := by decide +kernel
theorem dX7_closeBody_90 : decode cX7_closeBody 90 = .ok (.iaload, 1) := by decide +kernel
theorem dX7_closeBody_91 : decode cX7_closeBody 91 = .ok (.iconst 0, 1) := by decide +kernel
theorem dX7_closeBody_92 : decode cX7_closeBody 92 = .ok (.iconst 0, 1) := by decide +kernel
theorem dX7_closeBody_93 : decode cX7_closeBody 93 = .ok (.invokevirtual 124, 3) := by decide +kernel
theorem dX7_closeBody_96 : decode cX7_closeBody 96 = .ok (.pop, 1) := by decide +kernel
theorem dX7_closeBody_97 : decode cX7_closeBody 97 = .ok (.iload_n 3, 1) := by decide +kernel
theorem dX7_closeBody_98 : decode cX7_closeBody 98 = .ok (.iconst 2, 1) := by decide +kernel
theorem dX7_closeBody_99 : decode cX7_closeBody 99 = .ok (.if_icmp .le 62, 3) := by decide +kernel
theorem dX7_closeBody_102 : decode cX7_closeBody 102 = .ok (.aload_n 0, 1) := by decide +kernel
theorem dX7_closeBody_103 : decode cX7_closeBody 103 = .ok (.getfield 41, 3) := by decide +kernel
theorem dX7_closeBody_106 : decode cX7_closeBody 106 = .ok (.aload_n 0, 1) := by decide +kernel
theorem dX7_closeBody_107 : decode cX7_closeBody 107 = .ok (.getfield 62, 3) := by decide +kernel
theorem dX7_closeBody_110 : decode cX7_closeBody 110 = .ok (.iload_n 1, 1) := by decide +kernel
theorem dX7_closeBody_111 : decode cX7_closeBody 111 = .ok (.iaload, 1) := by decide +kernel
theorem dX7_closeBody_112 : decode cX7_closeBody 112 = .ok (.aload_n 0, 1) := by decide +kernel
theorem dX7_closeBody_113 : decode cX7_closeBody 113 = .ok (.getfield 114, 3) := by decide +kernel
theorem dX7_closeBody_116 : decode cX7_closeBody 116 = .ok (.iastore, 1) := by decide +kernel
theorem dX7_closeBody_117 : decode cX7_closeBody 117 = .ok (.aload_n 0, 1) := by decide +kernel
theorem dX7_closeBody_118 : decode cX7_closeBody 118 = .ok (.bipush 13, 2) := by decide +kernel
theorem dX7_closeBody_120 : decode cX7_closeBody 120 = .ok (.aload_n 0, 1) := by decide +kernel
theorem dX7_closeBody_121 : decode cX7_closeBody 121 = .ok (.getfield 62, 3) := by decide +kernel
theorem dX7_closeBody_124 : decode cX7_closeBody 124 = .ok (.iload_n 1, 1) := by decide +kernel
theorem dX7_closeBody_125 : decode cX7_closeBody 125 = .ok (.iaload, 1) := by decide +kernel
theorem dX7_closeBody_126 : decode cX7_closeBody 126 = .ok (.aload_n 0, 1) := by decide +kernel
theorem dX7_closeBody_127 : decode cX7_closeBody 127 = .ok (.getfield 38, 3) := by decide +kernel
theorem dX7_closeBody_130 : decode cX7_closeBody 130 = .ok (.aload_n 0, 1) := by decide +kernel
theorem dX7_closeBody_131 : decode cX7_closeBody 131 = .ok (.getfield 62, 3) := by decide +kernel
theorem dX7_closeBody_134 : decode cX7_closeBody 134 = .ok (.iload_n 1, 1) := by decide +kernel
theorem dX7_closeBody_135 : decode cX7_closeBody 135 = .ok (.iaload, 1) := by decide +kernel
theorem dX7_closeBody_136 : decode cX7_closeBody 136 = .ok (.iaload, 1) := by decide +kernel
theorem dX7_closeBody_137 : decode cX7_closeBody 137 = .ok (.aload_n 0, 1) := by decide +kernel
theorem dX7_closeBody_138 : decode cX7_closeBody 138 = .ok (.getfield 44, 3) := by decide +kernel
theorem dX7_closeBody_141 : decode cX7_closeBody 141 = .ok (.aload_n 0, 1) := by decide +kernel
theorem dX7_closeBody_142 : decode cX7_closeBody 142 = .ok (.getfield 62, 3) := by decide +kernel
theorem dX7_closeBody_145 : decode cX7_closeBody 145 = .ok (.iload_n 1, 1) := by decide +kernel
theorem dX7_closeBody_146 : decode cX7_closeBody 146 = .ok (.iaload, 1) := by decide +kernel
theorem dX7_closeBody_147 : decode cX7_closeBody 147 = .ok (.iaload, 1) := by decide +kernel
theorem dX7_closeBody_148 : decode cX7_closeBody 148 = .ok (.invokevirtual 124, 3) := by decide +kernel
theorem dX7_closeBody_151 : decode cX7_closeBody 151 = .ok (.pop, 1) := by decide +kernel
theorem dX7_closeBody_152 : decode cX7_closeBody 152 = .ok (.aload_n 0, 1) := by decide +kernel
theorem dX7_closeBody_153 : decode cX7_closeBody 153 = .ok (.iload 4, 2) := by decide +kernel
theorem dX7_closeBody_155 : decode cX7_closeBody 155 = .ok (.invokevirtual 132, 3) := by decide +kernel
theorem dX7_closeBody_158 : decode cX7_closeBody 158 = .ok (.goto 15, 3) := by decide +kernel
theorem dX7_closeBody_161 : decode cX7_closeBody 161 = .ok (.aload_n 0, 1) := by decide +kernel
theorem dX7_closeBody_162 : decode cX7_closeBody 162 = .ok (.aload_n 0, 1) := by decide +kernel
theorem dX7_closeBody_163 : decode cX7_closeBody 163 = .ok (.getfield 62, 3) := by decide +kernel
theorem dX7_closeBody_166 : decode cX7_closeBody 166 = .ok (.iload_n 1, 1) := by decide +kernel
theorem dX7_closeBody_167 : decode cX7_closeBody 167 = .ok (.iaload, 1) := by decide +kernel
theorem dX7_closeBody_168 : decode cX7_closeBody 168 = .ok (.iload 4, 2) := by decide +kernel
theorem dX7_closeBody_170 : decode cX7_closeBody 170 = .ok (.invokevirtual 135, 3) := by decide +kernel
theorem dX7_closeBody_173 : decode cX7_closeBody 173 = .ok (.return_, 1) := by decide +kernel
theorem dX7_count_0 : decode cX7_count 0 = .ok (.aload_n 0, 1) := by decide +kernel
theorem dX7_count_1 : decode cX7_count 1 = .ok (.aload_n 0, 1) := by decide +kernel
theorem dX7_count_2 : decode cX7_count 2 = .ok (.getfield 139, 3) := by decide +kernel
theorem dX7_count_5 : decode cX7_count 5 = .ok (.invokevirtual 142, 3) := by decide +kernel
theorem dX7_count_8 : decode cX7_count 8 = .ok (.istore_n 3, 1) := by decide +kernel
theorem dX7_count_9 : decode cX7_count 9 = .ok (.iload_n 3, 1) := by decide +kernel
theorem dX7_count_10 : decode cX7_count 10 = .ok (.bipush 43, 2) := by decide +kernel
theorem dX7_count_12 : decode cX7_count 12 = .ok (.if_icmp .ne 7, 3) := by decide +kernel
theorem dX7_count_15 : decode cX7_count 15 = .ok (.iconst 1, 1) := by decide +kernel
theorem dX7_count_16 : decode cX7_count 16 = .ok (.goto 4, 3) := by decide +kernel
theorem dX7_count_19 : decode cX7_count 19 = .ok (.iconst 0, 1) := by decide +kernel
theorem dX7_count_20 : decode cX7_count 20 = .ok (.istore 4, 2) := by decide +kernel
theorem dX7_count_22 : decode cX7_count 22 = .ok (.iload_n 3, 1) := by decide +kernel
theorem dX7_count_23 : decode cX7_count 23 = .ok (.bipush 63, 2) := by decide +kernel
theorem dX7_count_25 : decode cX7_count 25 = .ok (.if_icmp .ne 7, 3) := by decide +kernel
theorem dX7_count_28 : decode cX7_count 28 = .ok (.iconst 1, 1) := by decide +kernel
theorem dX7_count_29 : decode cX7_count 29 = .ok (.goto 5, 3) := by decide +kernel
theorem dX7_count_32 : decode cX7_count 32 = .ok (.bipush 99, 2) := by decide +kernel
theorem dX7_count_34 : decode cX7_count 34 = .ok (.istore 5, 2) := by decide +kernel
theorem dX7_count_36 : decode cX7_count 36 = .ok (.iload_n 3, 1) := by decide +kernel
theorem dX7_count_37 : decode cX7_count 37 = .ok (.bipush 123, 2) := by decide +kernel
theorem dX7_count_39 : decode cX7_count 39 = .ok (.if_icmp .ne 186, 3) := by decide +kernel
theorem dX7_count_42 : decode cX7_count 42 = .ok (.aload_n 0, 1) := by decide +kernel
theorem dX7_count_43 : decode cX7_count 43 = .ok (.aload_n 0, 1) := by decide +kernel
theorem dX7_count_44 : decode cX7_count 44 = .ok (.getfield 117, 3) := by decide +kernel
theorem dX7_count_47 : decode cX7_count 47 = .ok (.ifCond .ne 19, 3) := by decide +kernel
theorem dX7_count_50 : decode cX7_count 50 = .ok (.aload_n 0, 1) := by decide +kernel
theorem dX7_count_51 : decode cX7_count 51 = .ok (.aload_n 0, 1) := by decide +kernel
theorem dX7_count_52 : decode cX7_count 52 = .ok (.getfield 139, 3) := by decide +kernel
theorem dX7_count_55 : decode cX7_count 55 = .ok (.iconst 1, 1) := by decide +kernel
theorem dX7_count_56 : decode cX7_count 56 = .ok (.iadd, 1) := by decide +kernel
theorem dX7_count_57 : decode cX7_count 57 = .ok (.invokevirtual 142, 3) := by decide +kernel
theorem dX7_count_60 : decode cX7_count 60 = .ok (.invokestatic 145, 3) := by decide +kernel
theorem dX7_count_63 : decode cX7_count 63 = .ok (.ifCond .ne 7, 3) := by decide +kernel
theorem dX7_count_66 : decode cX7_count 66 = .ok (.iconst 1, 1) := by decide +kernel
theorem dX7_count_67 : decode cX7_count 67 = .ok (.goto 4, 3) := by decide +kernel
theorem dX7_count_70 : decode cX7_count 70 = .ok (.iconst 0, 1) := by decide +kernel
theorem dX7_count_71 : decode cX7_count 71 = .ok (.putfield 117, 3) := by decide +kernel
theorem dX7_count_74 : decode cX7_count 74 = .ok (.aload_n 0, 1) := by decide +kernel
theorem dX7_count_75 : decode cX7_count 75 = .ok (.aload_n 0, 1) := by decide +kernel
theorem dX7_count_76 : decode cX7_count 76 = .ok (.getfield 139, 3) := by decide +kernel
theorem dX7_count_79 : decode cX7_count 79 = .ok (.iconst 1, 1) := by decide +kernel
theorem dX7_count_80 : decode cX7_count 80 = .ok (.iadd, 1) := by decide +kernel
theorem dX7_count_81 : decode cX7_count 81 = .ok (.invokevirtual 142, 3) := by decide +kernel
theorem dX7_count_84 : decode cX7_count 84 = .ok (.bipush 48, 2) := by decide +kernel
theorem dX7_count_86 : decode cX7_count 86 = .ok (.isub, 1) := by decide +kernel
theorem dX7_count_87 : decode cX7_count 87 = .ok (.istore 4, 2) := by decide +kernel
theorem dX7_count_89 : decode cX7_count 89 = .ok (.iload 4, 2) := by decide +kernel
theorem dX7_count_91 : decode cX7_count 91 = .ok (.istore 5, 2) := by decide +kernel
theorem dX7_count_93 : decode cX7_count 93 = .ok (.aload_n 0, 1) := by decide +kernel
theorem dX7_count_94 : decode cX7_count 94 = .ok (.dup, 1) := by decide +kernel
theorem dX7_count_95 : decode cX7_count 95 = .ok (.getfield 139, 3) := by decide +kernel
theorem dX7_count_98 : decode cX7_count 98 = .ok (.iconst 2, 1) := by decide +kernel
theorem dX7_count_99 : decode cX7_count 99 = .ok (.iadd, 1) := by decide +kernel
theorem dX7_count_100 : decode cX7_count 100 = .ok (.putfield 139, 3) := by decide +kernel
theorem dX7_count_103 : decode cX7_count 103 = .ok (.aload_n 0, 1) := by decide +kernel
theorem dX7_count_104 : decode cX7_count 104 = .ok (.aload_n 0, 1) := by decide +kernel
theorem dX7_count_105 : decode cX7_count 105 = .ok (.getfield 139, 3) := by decide +kernel
theorem dX7_count_108 : decode cX7_count 108 = .ok (.invokevirtual 142, 3) := by decide +kernel
theorem dX7_count_111 : decode cX7_count 111 = .ok (.bipush 44, 2) := by decide +kernel
theorem dX7_count_113 : decode cX7_count 113 = .ok (.if_icmp .ne 73, 3) := by decide +kernel
theorem dX7_count_116 : decode cX7_count 116 = .ok (.aload_n 0, 1) := by decide +kernel
theorem dX7_count_117 : decode cX7_count 117 = .ok (.dup, 1) := by decide +kernel
theorem dX7_count_118 : decode cX7_count 118 = .ok (.getfield 139, 3) := by decide +kernel
theorem dX7_count_121 : decode cX7_count 121 = .ok (.iconst 1, 1) := by decide +kernel
theorem dX7_count_122 : decode cX7_count 122 = .ok (.iadd, 1) := by decide +kernel
theorem dX7_count_123 : decode cX7_count 123 = .ok (.putfield 139, 3) := by decide +kernel
theorem dX7_count_126 : decode cX7_count 126 = .ok (.aload_n 0, 1) := by decide +kernel
theorem dX7_count_127 : decode cX7_count 127 = .ok (.aload_n 0, 1) := by decide +kernel
theorem dX7_count_128 : decode cX7_count 128 = .ok (.getfield 139, 3) := by decide +kernel
theorem dX7_count_131 : decode cX7_count 131 = .ok (.invokevirtual 142, 3) := by decide +kernel
theorem dX7_count_134 : decode cX7_count 134 = .ok (.invokestatic 145, 3) := by decide +kernel
theorem dX7_count_137 : decode cX7_count 137 = .ok (.ifCond .eq 17, 3) := by decide +kernel
theorem dX7_count_140 : decode cX7_count 140 = .ok (.aload_n 0, 1) := by decide +kernel
theorem dX7_count_141 : decode cX7_count 141 = .ok (.aload_n 0, 1) := by decide +kernel
theorem dX7_count_142 : decode cX7_count 142 = .ok (.getfield 139, 3) := by decide +kernel
theorem dX7_count_145 : decode cX7_count 145 = .ok (.invokevirtual 142, 3) := by decide +kernel
theorem dX7_count_148 : decode cX7_count 148 = .ok (.bipush 48, 2) := by decide +kernel
theorem dX7_count_150 : decode cX7_count 150 = .ok (.isub, 1) := by decide +kernel
theorem dX7_count_151 : decode cX7_count 151 = .ok (.goto 5, 3) := by decide +kernel
theorem dX7_count_154 : decode cX7_count 154 = .ok (.bipush 99, 2) := by decide +kernel
theorem dX7_count_156 : decode cX7_count 156 = .ok (.istore 5, 2) := by decide +kernel
theorem dX7_count_158 : decode cX7_count 158 = .ok (.aload_n 0, 1) := by decide +kernel
theorem dX7_count_159 : decode cX7_count 159 = .ok (.dup, 1) := by decide +kernel
theorem dX7_count_160 : decode cX7_count 160 = .ok (.getfield 139, 3) := by decide +kernel
theorem dX7_count_163 : decode cX7_count 163 = .ok (.aload_n 0, 1) := by decide +kernel
theorem dX7_count_164 : decode cX7_count 164 = .ok (.aload_n 0, 1) := by decide +kernel
theorem dX7_count_165 : decode cX7_count 165 = .ok (.getfield 139, 3) := by decide +kernel
theorem dX7_count_168 : decode cX7_count 168 = .ok (.invokevirtual 142, 3) := by decide +kernel
theorem dX7_count_171 : decode cX7_count 171 = .ok (.invokestatic 145, 3) := by decide +kernel
theorem dX7_count_174 : decode cX7_count 174 = .ok (.ifCond .eq 7, 3) := by decide +kernel
theorem dX7_count_177 : decode cX7_count 177 = .ok (.iconst 1, 1) := by decide +kernel
theorem dX7_count_178 : decode cX7_count 178 = .ok (.goto 4, 3) := by decide +kernel
theorem dX7_count_181 : decode cX7_count 181 = .ok (.iconst 0, 1) := by decide +kernel
theorem dX7_count_182 : decode cX7_count 182 = .ok (.iadd, 1) := by decide +kernel
theorem dX7_count_183 : decode cX7_count 183 = .ok (.putfield 139, 3) := by decide +kernel
theorem dX7_count_186 : decode cX7_count 186 = .ok (.aload_n 0, 1) := by decide +kernel
theorem dX7_count_187 : decode cX7_count 187 = .ok (.aload_n 0, 1) := by decide +kernel
theorem dX7_count_188 : decode cX7_count 188 = .ok (.getfield 117, 3) := by decide +kernel
theorem dX7_count_191 : decode cX7_count 191 = .ok (.ifCond .ne 23, 3) := by decide +kernel
theorem dX7_count_194 : decode cX7_count 194 = .ok (.aload_n 0, 1) := by decide +kernel
theorem dX7_count_195 : decode cX7_count 195 = .ok (.aload_n 0, 1) := by decide +kernel
theorem dX7_count_196 : decode cX7_count 196 = .ok (.getfield 139, 3) := by decide +kernel
theorem dX7_count_199 : decode cX7_count 199 = .ok (.invokevirtual 142, 3) := by decide +kernel
theorem dX7_count_202 : decode cX7_count 202 = .ok (.bipush 125, 2) := by decide +kernel
