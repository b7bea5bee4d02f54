theorem dX0_init_0 : decode cX0_init 0 = .ok (.aload_n 0, 1) := by decide +kernel
theorem dX0_init_1 : decode cX0_init 1 = .ok (.invokespecial 3, 3) := by decide +kernel
theorem dX0_init_4 : decode cX0_init 4 = .ok (.aload_n 0, 1) := by decide +kernel
theorem dX0_init_5 : decode cX0_init 5 = .ok (.new 9, 3) := by decide +kernel
theorem dX0_init_8 : decode cX0_init 8 = .ok (.dup, 1) := by decide +kernel
theorem dX0_init_9 : decode cX0_init 9 = .ok (.invokespecial 11, 3) := by decide +kernel
theorem dX0_init_12 : decode cX0_init 12 = .ok (.putfield 12, 3) := by decide +kernel
theorem dX0_init_15 : decode cX0_init 15 = .ok (.aload_n 0, 1) := by decide +kernel
theorem dX0_init_16 : decode cX0_init 16 = .ok (.aload_n 1, 1) := by decide +kernel
theorem dX0_init_17 : decode cX0_init 17 = .ok (.putfield 18, 3) := by decide +kernel
theorem dX0_init_20 : decode cX0_init 20 = .ok (.aload_n 0, 1) := by decide +kernel
theorem dX0_init_21 : decode cX0_init 21 = .ok (.aload_n 2, 1) := by decide +kernel
theorem dX0_init_22 : decode cX0_init 22 = .ok (.putfield 22, 3) := by decide +kernel
theorem dX0_init_25 : decode cX0_init 25 = .ok (.return_, 1) := by decide +kernel
theorem dX0_search_0 : decode cX0_search 0 = .ok (.aload_n 0, 1) := by decide +kernel
theorem dX0_search_1 : decode cX0_search 1 = .ok (.aload_n 1, 1) := by decide +kernel
theorem dX0_search_2 : decode cX0_search 2 = .ok (.putfield 22, 3) := by decide +kernel
theorem dX0_search_5 : decode cX0_search 5 = .ok (.aload_n 0, 1) := by decide +kernel
theorem dX0_search_6 : decode cX0_search 6 = .ok (.iconst 0, 1) := by decide +kernel
theorem dX0_search_7 : decode cX0_search 7 = .ok (.putfield 26, 3) := by decide +kernel
theorem dX0_search_10 : decode cX0_search 10 = .ok (.aload_n 0, 1) := by decide +kernel
theorem dX0_search_11 : decode cX0_search 11 = .ok (.getfield 22, 3) := by decide +kernel
theorem dX0_search_14 : decode cX0_search 14 = .ok (.iconst 1, 1) := by decide +kernel
theorem dX0_search_15 : decode cX0_search 15 = .ok (.invokevirtual 30, 3) := by decide +kernel
theorem dX0_search_18 : decode cX0_search 18 = .ok (.ifCond .eq 17, 3) := by decide +kernel
theorem dX0_search_21 : decode cX0_search 21 = .ok (.iload_n 2, 1) := by decide +kernel
theorem dX0_search_22 : decode cX0_search 22 = .ok (.aload_n 0, 1) := by decide +kernel
theorem dX0_search_23 : decode cX0_search 23 = .ok (.getfield 18, 3) := by decide +kernel
theorem dX0_search_26 : decode cX0_search 26 = .ok (.invokevirtual 36, 3) := by decide +kernel
theorem dX0_search_29 : decode cX0_search 29 = .ok (.invokestatic 42, 3) := by decide +kernel
theorem dX0_search_32 : decode cX0_search 32 = .ok (.goto 10, 3) := by decide +kernel
theorem dX0_search_35 : decode cX0_search 35 = .ok (.aload_n 0, 1) := by decide +kernel
theorem dX0_search_36 : decode cX0_search 36 = .ok (.getfield 18, 3) := by decide +kernel
theorem dX0_search_39 : decode cX0_search 39 = .ok (.invokevirtual 36, 3) := by decide +kernel
theorem dX0_search_42 : decode cX0_search 42 = .ok (.istore_n 3, 1) := by decide +kernel
theorem dX0_search_43 : decode cX0_search 43 = .ok (.iload_n 2, 1) := by decide +kernel
theorem dX0_search_44 : decode cX0_search 44 = .ok (.istore 4, 2) := by decide +kernel
theorem dX0_search_46 : decode cX0_search 46 = .ok (.iload 4, 2) := by decide +kernel
theorem dX0_search_48 : decode cX0_search 48 = .ok (.iload_n 3, 1) := by decide +kernel
theorem dX0_search_49 : decode cX0_search 49 = .ok (.if_icmp .gt 21, 3) := by decide +kernel
theorem dX0_search_52 : decode cX0_search 52 = .ok (.aload_n 0, 1) := by decide +kernel
theorem dX0_search_53 : decode cX0_search 53 = .ok (.iload 4, 2) := by decide +kernel
theorem dX0_search_55 : decode cX0_search 55 = .ok (.invokevirtual 48, 3) := by decide +kernel
theorem dX0_search_58 : decode cX0_search 58 = .ok (.ifCond .eq 6, 3) := by decide +kernel
theorem dX0_search_61 : decode cX0_search 61 = .ok (.iload 4, 2) := by decide +kernel
theorem dX0_search_63 : decode cX0_search 63 = .ok (.ireturn, 1) := by decide +kernel
theorem dX0_search_64 : decode cX0_search 64 = .ok (.iinc 4 1, 3) := by decide +kernel
theorem dX0_search_67 : decode cX0_search 67 = .ok (.goto (-21), 3) := by decide +kernel
theorem dX0_search_70 : decode cX0_search 70 = .ok (.iconst (-1), 1) := by decide +kernel
theorem dX0_search_71 : decode cX0_search 71 = .ok (.ireturn, 1) := by decide +kernel
theorem dX0_stepsMade_0 : decode cX0_stepsMade 0 = .ok (.aload_n 0, 1) := by decide +kernel
theorem dX0_stepsMade_1 : decode cX0_stepsMade 1 = .ok (.getfield 26, 3) := by decide +kernel
theorem dX0_stepsMade_4 : decode cX0_stepsMade 4 = .ok (.ireturn, 1) := by decide +kernel
theorem dX0_tookFrom_0 : decode cX0_tookFrom 0 = .ok (.aload_n 0, 1) := by decide +kernel
theorem dX0_tookFrom_1 : decode cX0_tookFrom 1 = .ok (.getfield 12, 3) := by decide +kernel
theorem dX0_tookFrom_4 : decode cX0_tookFrom 4 = .ok (.bipush 10, 2) := by decide +kernel
theorem dX0_tookFrom_6 : decode cX0_tookFrom 6 = .ok (.iload_n 1, 1) := by decide +kernel
theorem dX0_tookFrom_7 : decode cX0_tookFrom 7 = .ok (.iadd, 1) := by decide +kernel
theorem dX0_tookFrom_8 : decode cX0_tookFrom 8 = .ok (.invokevirtual 51, 3) := by decide +kernel
theorem dX0_tookFrom_11 : decode cX0_tookFrom 11 = .ok (.ireturn, 1) := by decide +kernel
theorem dX0_tookTo_0 : decode cX0_tookTo 0 = .ok (.aload_n 0, 1) := by decide +kernel
theorem dX0_tookTo_1 : decode cX0_tookTo 1 = .ok (.getfield 12, 3) := by decide +kernel
theorem dX0_tookTo_4 : decode cX0_tookTo 4 = .ok (.bipush 20, 2) := by decide +kernel
theorem dX0_tookTo_6 : decode cX0_tookTo 6 = .ok (.iload_n 1, 1) := by decide +kernel
theorem dX0_tookTo_7 : decode cX0_tookTo 7 = .ok (.iadd, 1) := by decide +kernel
theorem dX0_tookTo_8 : decode cX0_tookTo 8 = .ok (.invokevirtual 51, 3) := by decide +kernel
theorem dX0_tookTo_11 : decode cX0_tookTo 11 = .ok (.ireturn, 1) := by decide +kernel
theorem dX0_isFoundAt_0 : decode cX0_isFoundAt 0 = .ok (.aload_n 0, 1) := by decide +kernel
theorem dX0_isFoundAt_1 : decode cX0_isFoundAt 1 = .ok (.getfield 12, 3) := by decide +kernel
theorem dX0_isFoundAt_4 : decode cX0_isFoundAt 4 = .ok (.invokevirtual 55, 3) := by decide +kernel
theorem dX0_isFoundAt_7 : decode cX0_isFoundAt 7 = .ok (.aload_n 0, 1) := by decide +kernel
theorem dX0_isFoundAt_8 : decode cX0_isFoundAt 8 = .ok (.iload_n 1, 1) := by decide +kernel
theorem dX0_isFoundAt_9 : decode cX0_isFoundAt 9 = .ok (.putfield 58, 3) := by decide +kernel
theorem dX0_isFoundAt_12 : decode cX0_isFoundAt 12 = .ok (.iconst 0, 1) := by decide +kernel
theorem dX0_isFoundAt_13 : decode cX0_isFoundAt 13 = .ok (.istore_n 2, 1) := by decide +kernel
theorem dX0_isFoundAt_14 : decode cX0_isFoundAt 14 = .ok (.iconst 0, 1) := by decide +kernel
theorem dX0_isFoundAt_15 : decode cX0_isFoundAt 15 = .ok (.istore_n 3, 1) := by decide +kernel
theorem dX0_isFoundAt_16 : decode cX0_isFoundAt 16 = .ok (.iload_n 3, 1) := by decide +kernel
theorem dX0_isFoundAt_17 : decode cX0_isFoundAt 17 = .ok (.ldc 61, 2) := by decide +kernel
theorem dX0_isFoundAt_19 : decode cX0_isFoundAt 19 = .ok (.if_icmp .ge 77, 3) := by decide +kernel
theorem dX0_isFoundAt_22 : decode cX0_isFoundAt 22 = .ok (.aload_n 0, 1) := by decide +kernel
theorem dX0_isFoundAt_23 : decode cX0_isFoundAt 23 = .ok (.iload_n 2, 1) := by decide +kernel
theorem dX0_isFoundAt_24 : decode cX0_isFoundAt 24 = .ok (.invokevirtual 62, 3) := by decide +kernel
theorem dX0_isFoundAt_27 : decode cX0_isFoundAt 27 = .ok (.istore_n 2, 1) := by decide +kernel
theorem dX0_isFoundAt_28 : decode cX0_isFoundAt 28 = .ok (.iload_n 2, 1) := by decide +kernel
theorem dX0_isFoundAt_29 : decode cX0_isFoundAt 29 = .ok (.bipush (-2), 2) := by decide +kernel
theorem dX0_isFoundAt_31 : decode cX0_isFoundAt 31 = .ok (.if_icmp .ne 28, 3) := by decide +kernel
theorem dX0_isFoundAt_34 : decode cX0_isFoundAt 34 = .ok (.aload_n 0, 1) := by decide +kernel
theorem dX0_isFoundAt_35 : decode cX0_isFoundAt 35 = .ok (.getfield 12, 3) := by decide +kernel
theorem dX0_isFoundAt_38 : decode cX0_isFoundAt 38 = .ok (.bipush 10, 2) := by decide +kernel
theorem dX0_isFoundAt_40 : decode cX0_isFoundAt 40 = .ok (.iload_n 1, 1) := by decide +kernel
theorem dX0_isFoundAt_41 : decode cX0_isFoundAt 41 = .ok (.invokevirtual 65, 3) := by decide +kernel
theorem dX0_isFoundAt_44 : decode cX0_isFoundAt 44 = .ok (.aload_n 0, 1) := by decide +kernel
theorem dX0_isFoundAt_45 : decode cX0_isFoundAt 45 = .ok (.getfield 12, 3) := by decide +kernel
theorem dX0_isFoundAt_48 : decode cX0_isFoundAt 48 = .ok (.bipush 20, 2) := by decide +kernel
theorem dX0_isFoundAt_50 : decode cX0_isFoundAt 50 = .ok (.aload_n 0, 1) := by decide +kernel
theorem dX0_isFoundAt_51 : decode cX0_isFoundAt 51 = .ok (.getfield 58, 3) := by decide +kernel
theorem dX0_isFoundAt_54 : decode cX0_isFoundAt 54 = .ok (.invokevirtual 65, 3) := by decide +kernel
theorem dX0_isFoundAt_57 : decode cX0_isFoundAt 57 = .ok (.iconst 1, 1) := by decide +kernel
theorem dX0_isFoundAt_58 : decode cX0_isFoundAt 58 = .ok (.ireturn, 1) := by decide +kernel
theorem dX0_isFoundAt_59 : decode cX0_isFoundAt 59 = .ok (.iload_n 2, 1) := by decide +kernel
theorem dX0_isFoundAt_60 : decode cX0_isFoundAt 60 = .ok (.iconst (-1), 1) := by decide +kernel
theorem dX0_isFoundAt_61 : decode cX0_isFoundAt 61 = .ok (.if_icmp .ne 29, 3) := by decide +kernel
theorem dX0_isFoundAt_64 : decode cX0_isFoundAt 64 = .ok (.aload_n 0, 1) := by decide +kernel
theorem dX0_isFoundAt_65 : decode cX0_isFoundAt 65 = .ok (.getfield 12, 3) := by decide +kernel
theorem dX0_isFoundAt_68 : decode cX0_isFoundAt 68 = .ok (.invokevirtual 69, 3) := by decide +kernel
theorem dX0_isFoundAt_71 : decode cX0_isFoundAt 71 = .ok (.istore_n 2, 1) := by decide +kernel
theorem dX0_isFoundAt_72 : decode cX0_isFoundAt 72 = .ok (.iload_n 2, 1) := by decide +kernel
theorem dX0_isFoundAt_73 : decode cX0_isFoundAt 73 = .ok (.iconst (-1), 1) := by decide +kernel
theorem dX0_isFoundAt_74 : decode cX0_isFoundAt 74 = .ok (.if_icmp .ne 5, 3) := by decide +kernel
theorem dX0_isFoundAt_77 : decode cX0_isFoundAt 77 = .ok (.iconst 0, 1) := by decide +kernel
theorem dX0_isFoundAt_78 : decode cX0_isFoundAt 78 = .ok (.ireturn, 1) := by decide +kernel
theorem dX0_isFoundAt_79 : decode cX0_isFoundAt 79 = .ok (.aload_n 0, 1) := by decide +kernel
theorem dX0_isFoundAt_80 : decode cX0_isFoundAt 80 = .ok (.aload_n 0, 1) := by decide +kernel
theorem dX0_isFoundAt_81 : decode cX0_isFoundAt 81 = .ok (.getfield 12, 3) := by decide +kernel
theorem dX0_isFoundAt_84 : decode cX0_isFoundAt 84 = .ok (.invokevirtual 72, 3) := by decide +kernel
theorem dX0_isFoundAt_87 : decode cX0_isFoundAt 87 = .ok (.putfield 58, 3) := by decide +kernel
theorem dX0_isFoundAt_90 : decode cX0_isFoundAt 90 = .ok (.iinc 3 1, 3) := by decide +kernel
theorem dX0_isFoundAt_93 : decode cX0_isFoundAt 93 = .ok (.goto (-77), 3) := by decide +kernel
theorem dX0_isFoundAt_96 : decode cX0_isFoundAt 96 = .ok (.iconst 0, 1) := by decide +kernel
theorem dX0_isFoundAt_97 : decode cX0_isFoundAt 97 = .ok (.ireturn, 1) := by decide +kernel
theorem dX0_carryOut_0 : decode cX0_carryOut 0 = .ok (.aload_n 0, 1) := by decide +kernel
theorem dX0_carryOut_1 : decode cX0_carryOut 1 = .ok (.getfield 22, 3) := by decide +kernel
theorem dX0_carryOut_4 : decode cX0_carryOut 4 = .ok (.iload_n 1, 1) := by decide +kernel
theorem dX0_carryOut_5 : decode cX0_carryOut 5 = .ok (.invokevirtual 75, 3) := by decide +kernel
theorem dX0_carryOut_8 : decode cX0_carryOut 8 = .ok (.tableswitch 198 0 16 #[84, 87, 93, 108, 123, 129, 135, 144, 150, 156, 162, 162, 168, 174, 180, 186, 192], 84) := by decide +kernel
theorem dX0_carryOut_92 : decode cX0_carryOut 92 = .ok (.bipush (-2), 2) := by decide +kernel
theorem dX0_carryOut_94 : decode cX0_carryOut 94 = .ok (.ireturn, 1) := by decide +kernel
theorem dX0_carryOut_95 : decode cX0_carryOut 95 = .ok (.aload_n 0, 1) := by decide +kernel
theorem dX0_carryOut_96 : decode cX0_carryOut 96 = .ok (.iload_n 1, 1) := by decide +kernel
theorem dX0_carryOut_97 : decode cX0_carryOut 97 = .ok (.invokevirtual 78, 3) := by decide +kernel
theorem dX0_carryOut_100 : decode cX0_carryOut 100 = .ok (.ireturn, 1) := by decide +kernel
theorem dX0_carryOut_101 : decode cX0_carryOut 101 = .ok (.aload_n 0, 1) := by decide +kernel
theorem dX0_carryOut_102 : decode cX0_carryOut 102 = .ok (.invokevirtual 81, 3) := by decide +kernel
theorem dX0_carryOut_105 : decode cX0_carryOut 105 = .ok (.ifCond .eq 9, 3) := by decide +kernel
theorem dX0_carryOut_108 : decode cX0_carryOut 108 = .ok (.iload_n 1, 1) := by decide +kernel
theorem dX0_carryOut_109 : decode cX0_carryOut 109 = .ok (.iconst 1, 1) := by decide +kernel
theorem dX0_carryOut_110 : decode cX0_carryOut 110 = .ok (.iadd, 1) := by decide +kernel
theorem dX0_carryOut_111 : decode cX0_carryOut 111 = .ok (.goto 4, 3) := by decide +kernel
theorem dX0_carryOut_114 : decode cX0_carryOut 114 = .ok (.iconst (-1), 1) := by decide +kernel
theorem dX0_carryOut_115 : decode cX0_carryOut 115 = .ok (.ireturn, 1) := by decide +kernel
theorem dX0_carryOut_116 : decode cX0_carryOut 116 = .ok (.aload_n 0, 1) := by decide +kernel
theorem dX0_carryOut_117 : decode cX0_carryOut 117 = .ok (.invokevirtual 85, 3) := by decide +kernel
theorem dX0_carryOut_120 : decode cX0_carryOut 120 = .ok (.ifCond .eq 9, 3) := by decide +kernel
theorem dX0_carryOut_123 : decode cX0_carryOut 123 = .ok (.iload_n 1, 1) := by decide +kernel
theorem dX0_carryOut_124 : decode cX0_carryOut 124 = .ok (.iconst 1, 1) := by decide +kernel
theorem dX0_carryOut_125 : decode cX0_carryOut 125 = .ok (.iadd, 1) := by decide +kernel
theorem dX0_carryOut_126 : decode cX0_carryOut 126 = .ok (.goto 4, 3) := by decide +kernel
theorem dX0_carryOut_129 : decode cX0_carryOut 129 = .ok (.iconst (-1), 1) := by decide +kernel
theorem dX0_carryOut_130 : decode cX0_carryOut 130 = .ok (.ireturn, 1) := by decide +kernel
theorem dX0_carryOut_131 : decode cX0_carryOut 131 = .ok (.aload_n 0, 1) := by decide +kernel
theorem dX0_carryOut_132 : decode cX0_carryOut 132 = .ok (.iload_n 1, 1) := by decide +kernel
theorem dX0_carryOut_133 : decode cX0_carryOut 133 = .ok (.invokevirtual 88, 3) := by decide +kernel
theorem dX0_carryOut_136 : decode cX0_carryOut 136 = .ok (.ireturn, 1) := by decide +kernel
theorem dX0_carryOut_137 : decode cX0_carryOut 137 = .ok (.aload_n 0, 1) := by decide +kernel
theorem dX0_carryOut_138 : decode cX0_carryOut 138 = .ok (.iload_n 1, 1) := by decide +kernel
theorem dX0_carryOut_139 : decode cX0_carryOut 139 = .ok (.invokevirtual 91, 3) := by decide +kernel
theorem dX0_carryOut_142 : decode cX0_carryOut 142 = .ok (.ireturn, 1) := by decide +kernel
theorem dX0_carryOut_143 : decode cX0_carryOut 143 = .ok (.aload_n 0, 1) := by decide +kernel
theorem dX0_carryOut_144 : decode cX0_carryOut 144 = .ok (.getfield 22, 3) := by decide +kernel
theorem dX0_carryOut_147 : decode cX0_carryOut 147 = .ok (.iload_n 1, 1) := by decide +kernel
theorem dX0_carryOut_148 : decode cX0_carryOut 148 = .ok (.invokevirtual 94, 3) := by decide +kernel
theorem dX0_carryOut_151 : decode cX0_carryOut 151 = .ok (.ireturn, 1) := by decide +kernel
theorem dX0_carryOut_152 : decode cX0_carryOut 152 = .ok (.aload_n 0, 1) := by decide +kernel
theorem dX0_carryOut_153 : decode cX0_carryOut 153 = .ok (.iload_n 1, 1) := by decide +kernel
theorem dX0_carryOut_154 : decode cX0_carryOut 154 = .ok (.invokevirtual 97, 3) := by decide +kernel
theorem dX0_carryOut_157 : decode cX0_carryOut 157 = .ok (.ireturn, 1) := by decide +kernel
theorem dX0_carryOut_158 : decode cX0_carryOut 158 = .ok (.aload_n 0, 1) := by decide +kernel
theorem dX0_carryOut_159 : decode cX0_carryOut 159 = .ok (.iload_n 1, 1) := by decide +kernel
theorem dX0_carryOut_160 : decode cX0_carryOut 160 = .ok (.invokevirtual 100, 3) := by decide +kernel
theorem dX0_carryOut_163 : decode cX0_carryOut 163 = .ok (.ireturn, 1) := by decide +kernel
theorem dX0_carryOut_164 : decode cX0_carryOut 164 = .ok (.aload_n 0, 1) := by decide +kernel
theorem dX0_carryOut_165 : decode cX0_carryOut 165 = .ok (.iload_n 1, 1) := by decide +kernel
theorem dX0_carryOut_166 : decode cX0_carryOut 166 = .ok (.invokevirtual 103, 3) := by decide +kernel
theorem dX0_carryOut_169 : decode cX0_carryOut 169 = .ok (.ireturn, 1) := by decide +kernel
theorem dX0_carryOut_170 : decode cX0_carryOut 170 = .ok (.aload_n 0, 1) := by decide +kernel
theorem dX0_carryOut_171 : decode cX0_carryOut 171 = .ok (.iload_n 1, 1) := by decide +kernel
theorem dX0_carryOut_172 : decode cX0_carryOut 172 = .ok (.invokevirtual 106, 3) := by decide +kernel
theorem dX0_carryOut_175 : decode cX0_carryOut 175 = .ok (.ireturn, 1) := by decide +kernel
theorem dX0_carryOut_176 : decode cX0_carryOut 176 = .ok (.aload_n 0, 1) := by decide +kernel
theorem dX0_carryOut_177 : decode cX0_carryOut 177 = .ok (.iload_n 1, 1) := by decide +kernel
theorem dX0_carryOut_178 : decode cX0_carryOut 178 = .ok (.invokevirtual 109, 3) := by decide +kernel
theorem dX0_carryOut_181 : decode cX0_carryOut 181 = .ok (.ireturn, 1) := by decide +kernel
theorem dX0_carryOut_182 : decode cX0_carryOut 182 = .ok (.aload_n 0, 1) := by decide +kernel
theorem dX0_carryOut_183 : decode cX0_carryOut 183 = .ok (.iload_n 1, 1) := by decide +kernel
theorem dX0_carryOut_184 : decode cX0_carryOut 184 = .ok (.invokevirtual 112, 3) := by decide +kernel
theorem dX0_carryOut_187 : decode cX0_carryOut 187 = .ok (.ireturn, 1) := by decide +kernel
theorem dX0_carryOut_188 : decode cX0_carryOut 188 = .ok (.aload_n 0, 1) := by decide +kernel
theorem dX0_carryOut_189 : decode cX0_carryOut 189 = .ok (.iload_n 1, 1) := by decide +kernel
theorem dX0_carryOut_190 : decode cX0_carryOut 190 = .ok (.invokevirtual 115, 3) := by decide +kernel
theorem dX0_carryOut_193 : decode cX0_carryOut 193 = .ok (.ireturn, 1) := by decide +kernel
theorem dX0_carryOut_194 : decode cX0_carryOut 194 = .ok (.aload_n 0, 1) := by decide +kernel
theorem dX0_carryOut_195 : decode cX0_carryOut 195 = .ok (.iload_n 1, 1) := by decide +kernel
theorem dX0_carryOut_196 : decode cX0_carryOut 196 = .ok (.invokevirtual 118, 3) := by decide +kernel
theorem dX0_carryOut_199 : decode cX0_carryOut 199 = .ok (.ireturn, 1) := by decide +kernel
theorem dX0_carryOut_200 : decode cX0_carryOut 200 = .ok (.aload_n 0, 1) := by decide +kernel
theorem dX0_carryOut_201 : decode cX0_carryOut 201 = .ok (.iload_n 1, 1) := by decide +kernel
theorem dX0_carryOut_202 : decode cX0_carryOut 202 = .ok (.invokevirtual 121, 3) := by decide +kernel
theorem dX0_carryOut_205 : decode cX0_carryOut 205 = .ok (.ireturn, 1) := by decide +kernel
theorem dX0_carryOut_206 : decode cX0_carryOut 206 = .ok (.iconst (-1), 1) := by decide +kernel
theorem dX0_carryOut_207 : decode cX0_carryOut 207 = .ok (.ireturn, 1) := by decide +kernel
theorem dX0_countStep_0 : decode cX0_countStep 0 = .ok (.aload_n 0, 1) := by decide +kernel
theorem dX0_countStep_1 : decode cX0_countStep 1 = .ok (.getfield 26, 3) := by decide +kernel
theorem dX0_countStep_4 : decode cX0_countStep 4 = .ok (.sipush 500, 3) := by decide +kernel
theorem dX0_countStep_7 : decode cX0_countStep 7 = .ok (.if_icmp .lt 13, 3) := by decide +kernel
theorem dX0_countStep_10 : decode cX0_countStep 10 = .ok (.new 124, 3) := by decide +kernel
theorem dX0_countStep_13 : decode cX0_countStep 13 = .ok (.dup, 1) := by decide +kernel
theorem dX0_countStep_14 : decode cX0_countStep 14 = .ok (.ldc 126, 2) := by decide +kernel
theorem dX0_countStep_16 : decode cX0_countStep 16 = .ok (.invokespecial 128, 3) := by decide +kernel
theorem dX0_countStep_19 : decode cX0_countStep 19 = .ok (.athrow, 1) := by decide +kernel
theorem dX0_countStep_20 : decode cX0_countStep 20 = .ok (.aload_n 0, 1) := by decide +kernel
theorem dX0_countStep_21 : decode cX0_countStep 21 = .ok (.dup, 1) := by decide +kernel
theorem dX0_countStep_22 : decode cX0_countStep 22 = .ok (.getfield 26, 3) := by decide +kernel
theorem dX0_countStep_25 : decode cX0_countStep 25 = .ok (.iconst 1, 1) := by decide +kernel
theorem dX0_countStep_26 : decode cX0_countStep 26 = .ok (.iadd, 1) := by decide +kernel
theorem dX0_countStep_27 : decode cX0_countStep 27 = .ok (.putfield 26, 3) := by decide +kernel
theorem dX0_countStep_30 : decode cX0_countStep 30 = .ok (.return_, 1) := by decide +kernel
theorem dX0_passSign_0 : decode cX0_passSign 0 = .ok (.aload_n 0, 1) := by decide +kernel
theorem dX0_passSign_1 : decode cX0_passSign 1 = .ok (.invokevirtual 131, 3) := by decide +kernel
theorem dX0_passSign_4 : decode cX0_passSign 4 = .ok (.aload_n 0, 1) := by decide +kernel
theorem dX0_passSign_5 : decode cX0_passSign 5 = .ok (.getfield 58, 3) := by decide +kernel
theorem dX0_passSign_8 : decode cX0_passSign 8 = .ok (.aload_n 0, 1) := by decide +kernel
theorem dX0_passSign_9 : decode cX0_passSign 9 = .ok (.getfield 18, 3) := by decide +kernel
theorem dX0_passSign_12 : decode cX0_passSign 12 = .ok (.invokevirtual 36, 3) := by decide +kernel
theorem dX0_passSign_15 : decode cX0_passSign 15 = .ok (.if_icmp .ge 25, 3) := by decide +kernel
theorem dX0_passSign_18 : decode cX0_passSign 18 = .ok (.aload_n 0, 1) := by decide +kernel
theorem dX0_passSign_19 : decode cX0_passSign 19 = .ok (.getfield 22, 3) := by decide +kernel
theorem dX0_passSign_22 : decode cX0_passSign 22 = .ok (.iload_n 1, 1) := by decide +kernel
theorem dX0_passSign_23 : decode cX0_passSign 23 = .ok (.aload_n 0, 1) := by decide +kernel
theorem dX0_passSign_24 : decode cX0_passSign 24 = .ok (.getfield 18, 3) := by decide +kernel
theorem dX0_passSign_27 : decode cX0_passSign 27 = .ok (.aload_n 0, 1) := by decide +kernel
theorem dX0_passSign_28 : decode cX0_passSign 28 = .ok (.getfield 58, 3) := by decide +kernel
theorem dX0_passSign_31 : decode cX0_passSign 31 = .ok (.invokevirtual 134, 3) := by decide +kernel
theorem dX0_passSign_34 : decode cX0_passSign 34 = .ok (.invokevirtual 138, 3) := by decide +kernel
theorem dX0_passSign_37 : decode cX0_passSign 37 = .ok (.ifCond .ne 5, 3) := by decide +kernel
theorem dX0_passSign_40 : decode cX0_passSign 40 = .ok (.iconst (-1), 1) := by decide +kernel
theorem dX0_passSign_41 : decode cX0_passSign 41 = .ok (.ireturn, 1) := by decide +kernel
theorem dX0_passSign_42 : decode cX0_passSign 42 = .ok (.aload_n 0, 1) := by decide +kernel
theorem dX0_passSign_43 : decode cX0_passSign 43 = .ok (.dup, 1) := by decide +kernel
theorem dX0_passSign_44 : decode cX0_passSign 44 = .ok (.getfield 58, 3) := by decide +kernel
theorem dX0_passSign_47 : decode cX0_passSign 47 = .ok (.iconst 1, 1) := by decide +kernel
theorem dX0_passSign_48 : decode cX0_passSign 48 = .ok (.iadd, 1) := by decide +kernel
theorem dX0_passSign_49 : decode cX0_passSign 49 = .ok (.putfield 58, 3) := by decide +kernel
theorem dX0_passSign_52 : decode cX0_passSign 52 = .ok (.iload_n 1, 1) := by decide +kernel
theorem dX0_passSign_53 : decode cX0_passSign 53 = .ok (.iconst 1, 1) := by decide +kernel
theorem dX0_passSign_54 : decode cX0_passSign 54 = .ok (.iadd, 1) := by decide +kernel
theorem dX0_passSign_55 : decode cX0_passSign 55 = .ok (.ireturn, 1) := by decide +kernel
theorem dX0_isLineBegin_0 : decode cX0_isLineBegin 0 = .ok (.aload_n 0, 1) := by decide +kernel
theorem dX0_isLineBegin_1 : decode cX0_isLineBegin 1 = .ok (.getfield 58, 3) := by decide +kernel
theorem dX0_isLineBegin_4 : decode cX0_isLineBegin 4 = .ok (.ifCond .eq 32, 3) := by decide +kernel
theorem dX0_isLineBegin_7 : decode cX0_isLineBegin 7 = .ok (.aload_n 0, 1) := by decide +kernel
theorem dX0_isLineBegin_8 : decode cX0_isLineBegin 8 = .ok (.getfield 22, 3) := by decide +kernel
theorem dX0_isLineBegin_11 : decode cX0_isLineBegin 11 = .ok (.iconst 2, 1) := by decide +kernel
theorem dX0_isLineBegin_12 : decode cX0_isLineBegin 12 = .ok (.invokevirtual 30, 3) := by decide +kernel
theorem dX0_isLineBegin_15 : decode cX0_isLineBegin 15 = .ok (.ifCond .eq 25, 3) := by decide +kernel
theorem dX0_isLineBegin_18 : decode cX0_isLineBegin 18 = .ok (.aload_n 0, 1) := by decide +kernel
theorem dX0_isLineBegin_19 : decode cX0_isLineBegin 19 = .ok (.getfield 18, 3) := by decide +kernel
theorem dX0_isLineBegin_22 : decode cX0_isLineBegin 22 = .ok (.aload_n 0, 1) := by decide +kernel
theorem dX0_isLineBegin_23 : decode cX0_isLineBegin 23 = .ok (.getfield 58, 3) := by decide +kernel
theorem dX0_isLineBegin_26 : decode cX0_isLineBegin 26 = .ok (.iconst 1, 1) := by decide +kernel
theorem dX0_isLineBegin_27 : decode cX0_isLineBegin 27 = .ok (.isub, 1) := by decide +kernel
theorem dX0_isLineBegin_28 : decode cX0_isLineBegin 28 = .ok (.invokevirtual 134, 3) := by decide +kernel
theorem dX0_isLineBegin_31 : decode cX0_isLineBegin 31 = .ok (.bipush 47, 2) := by decide +kernel
theorem dX0_isLineBegin_33 : decode cX0_isLineBegin 33 = .ok (.if_icmp .ne 7, 3) := by decide +kernel
theorem dX0_isLineBegin_36 : decode cX0_isLineBegin 36 = .ok (.iconst 1, 1) := by decide +kernel
theorem dX0_isLineBegin_37 : decode cX0_isLineBegin 37 = .ok (.goto 4, 3) := by decide +kernel
theorem dX0_isLineBegin_40 : decode cX0_isLineBegin 40 = .ok (.iconst 0, 1) := by decide +kernel
theorem dX0_isLineBegin_41 : decode cX0_isLineBegin 41 = .ok (.ireturn, 1) := by decide +kernel
theorem dX0_isLineEnd_0 : decode cX0_isLineEnd 0 = .ok (.aload_n 0, 1) := by decide +kernel
theorem dX0_isLineEnd_1 : decode cX0_isLineEnd 1 = .ok (.getfield 58, 3) := by decide +kernel
theorem dX0_isLineEnd_4 : decode cX0_isLineEnd 4 = .ok (.aload_n 0, 1) := by decide +kernel
theorem dX0_isLineEnd_5 : decode cX0_isLineEnd 5 = .ok (.getfield 18, 3) := by decide +kernel
theorem dX0_isLineEnd_8 : decode cX0_isLineEnd 8 = .ok (.invokevirtual 36, 3) := by decide +kernel
theorem dX0_isLineEnd_11 : decode cX0_isLineEnd 11 = .ok (.if_icmp .eq 30, 3) := by decide +kernel
theorem dX0_isLineEnd_14 : decode cX0_isLineEnd 14 = .ok (.aload_n 0, 1) := by decide +kernel
theorem dX0_isLineEnd_15 : decode cX0_isLineEnd 15 = .ok (.getfield 22, 3) := by decide +kernel
theorem dX0_isLineEnd_18 : decode cX0_isLineEnd 18 = .ok (.iconst 2, 1) := by decide +kernel
theorem dX0_isLineEnd_19 : decode cX0_isLineEnd 19 = .ok (.invokevirtual 30, 3) := by decide +kernel
theorem dX0_isLineEnd_22 : decode cX0_isLineEnd 22 = .ok (.ifCond .eq 23, 3) := by decide +kernel
theorem dX0_isLineEnd_25 : decode cX0_isLineEnd 25 = .ok (.aload_n 0, 1) := by decide +kernel
theorem dX0_isLineEnd_26 : decode cX0_isLineEnd 26 = .ok (.getfield 18, 3) := by decide +kernel
theorem dX0_isLineEnd_29 : decode cX0_isLineEnd 29 = .ok (.aload_n 0, 1) := by decide +kernel
theorem dX0_isLineEnd_30 : decode cX0_isLineEnd 30 = .ok (.getfield 58, 3) := by decide +kernel
theorem dX0_isLineEnd_33 : decode cX0_isLineEnd 33 = .ok (.invokevirtual 134, 3) := by decide +kernel
theorem dX0_isLineEnd_36 : decode cX0_isLineEnd 36 = .ok (.bipush 47, 2) := by decide +kernel
theorem dX0_isLineEnd_38 : decode cX0_isLineEnd 38 = .ok (.if_icmp .ne 7, 3) := by decide +kernel
theorem dX0_isLineEnd_41 : decode cX0_isLineEnd 41 = .ok (.iconst 1, 1) := by decide +kernel
theorem dX0_isLineEnd_42 : decode cX0_isLineEnd 42 = .ok (.goto 4, 3) := by decide +kernel
theorem dX0_isLineEnd_45 : decode cX0_isLineEnd 45 = .ok (.iconst 0, 1) := by decide +kernel
theorem dX0_isLineEnd_46 : decode cX0_isLineEnd 46 = .ok (.ireturn, 1) := by decide +kernel
theorem dX0_passReference_0 : decode cX0_passReference 0 = .ok (.aload_n 0, 1) := by decide +kernel
theorem dX0_passReference_1 : decode cX0_passReference 1 = .ok (.invokevirtual 131, 3) := by decide +kernel
theorem dX0_passReference_4 : decode cX0_passReference 4 = .ok (.aload_n 0, 1) := by decide +kernel
theorem dX0_passReference_5 : decode cX0_passReference 5 = .ok (.getfield 22, 3) := by decide +kernel
theorem dX0_passReference_8 : decode cX0_passReference 8 = .ok (.iload_n 1, 1) := by decide +kernel
theorem dX0_passReference_9 : decode cX0_passReference 9 = .ok (.invokevirtual 142, 3) := by decide +kernel
theorem dX0_passReference_12 : decode cX0_passReference 12 = .ok (.istore_n 2, 1) := by decide +kernel
theorem dX0_passReference_13 : decode cX0_passReference 13 = .ok (.aload_n 0, 1) := by decide +kernel
theorem dX0_passReference_14 : decode cX0_passReference 14 = .ok (.iload_n 2, 1) := by decide +kernel
theorem dX0_passReference_15 : decode cX0_passReference 15 = .ok (.invokevirtual 145, 3) := by decide +kernel
theorem dX0_passReference_18 : decode cX0_passReference 18 = .ok (.istore_n 3, 1) := by decide +kernel
theorem dX0_passReference_19 : decode cX0_passReference 19 = .ok (.aload_n 0, 1) := by decide +kernel
theorem dX0_passReference_20 : decode cX0_passReference 20 = .ok (.iload_n 2, 1) := by decide +kernel
theorem dX0_passReference_21 : decode cX0_passReference 21 = .ok (.invokevirtual 148, 3) := by decide +kernel
theorem dX0_passReference_24 : decode cX0_passReference 24 = .ok (.istore 4, 2) := by decide +kernel
theorem dX0_passReference_26 : decode cX0_passReference 26 = .ok (.iload_n 3, 1) := by decide +kernel
theorem dX0_passReference_27 : decode cX0_passReference 27 = .ok (.iconst (-1), 1) := by decide +kernel
theorem dX0_passReference_28 : decode cX0_passReference 28 = .ok (.if_icmp .ne 7, 3) := by decide +kernel
theorem dX0_passReference_31 : decode cX0_passReference 31 = .ok (.iload_n 1, 1) := by decide +kernel
theorem dX0_passReference_32 : decode cX0_passReference 32 = .ok (.iconst 1, 1) := by decide +kernel
theorem dX0_passReference_33 : decode cX0_passReference 33 = .ok (.iadd, 1) := by decide +kernel
theorem dX0_passReference_34 : decode cX0_passReference 34 = .ok (.ireturn, 1) := by decide +kernel
theorem dX0_passReference_35 : decode cX0_passReference 35 = .ok (.iload_n 3, 1) := by decide +kernel
theorem dX0_passReference_36 : decode cX0_passReference 36 = .ok (.istore 5, 2) := by decide +kernel
theorem dX0_passReference_38 : decode cX0_passReference 38 = .ok (.iload 5, 2) := by decide +kernel
theorem dX0_passReference_40 : decode cX0_passReference 40 = .ok (.iload 4, 2) := by decide +kernel
theorem dX0_passReference_42 : decode cX0_passReference 42 = .ok (.if_icmp .ge 43, 3) := by decide +kernel
theorem dX0_passReference_45 : decode cX0_passReference 45 = .ok (.aload_n 0, 1) := by decide +kernel
theorem dX0_passReference_46 : decode cX0_passReference 46 = .ok (.aload_n 0, 1) := by decide +kernel
theorem dX0_passReference_47 : decode cX0_passReference 47 = .ok (.getfield 18, 3) := by decide +kernel
theorem dX0_passReference_50 : decode cX0_passReference 50 = .ok (.iload 5, 2) := by decide +kernel
theorem dX0_passReference_52 : decode cX0_passReference 52 = .ok (.invokevirtual 134, 3) := by decide +kernel
theorem dX0_passReference_55 : decode cX0_passReference 55 = .ok (.aload_n 0, 1) := by decide +kernel
theorem dX0_passReference_56 : decode cX0_passReference 56 = .ok (.getfield 18, 3) := by decide +kernel
theorem dX0_passReference_59 : decode cX0_passReference 59 = .ok (.aload_n 0, 1) := by decide +kernel
theorem dX0_passReference_60 : decode cX0_passReference 60 = .ok (.getfield 58, 3) := by decide +kernel
theorem dX0_passReference_63 : decode cX0_passReference 63 = .ok (.iload 5, 2) := by decide +kernel
theorem dX0_passReference_65 : decode cX0_passReference 65 = .ok (.iadd, 1) := by decide +kernel
theorem dX0_passReference_66 : decode cX0_passReference 66 = .ok (.iload_n 3, 1) := by decide +kernel
theorem dX0_passReference_67 : decode cX0_passReference 67 = .ok (.isub, 1) := by decide +kernel
theorem dX0_passReference_68 : decode cX0_passReference 68 = .ok (.invokevirtual 134, 3) := by decide +kernel
theorem dX0_passReference_71 : decode cX0_passReference 71 = .ok (.invokevirtual 151, 3) := by decide +kernel
theorem dX0_passReference_74 : decode cX0_passReference 74 = .ok (.ifCond .ne 5, 3) := by decide +kernel
theorem dX0_passReference_77 : decode cX0_passReference 77 = .ok (.iconst (-1), 1) := by decide +kernel
theorem dX0_passReference_78 : decode cX0_passReference 78 = .ok (.ireturn, 1) := by decide +kernel
theorem dX0_passReference_79 : decode cX0_passReference 79 = .ok (.iinc 5 1, 3) := by decide +kernel
theorem dX0_passReference_82 : decode cX0_passReference 82 = .ok (.goto (-44), 3) := by decide +kernel
theorem dX0_passReference_85 : decode cX0_passReference 85 = .ok (.aload_n 0, 1) := by decide +kernel
theorem dX0_passReference_86 : decode cX0_passReference 86 = .ok (.dup, 1) := by decide +kernel
theorem dX0_passReference_87 : decode cX0_passReference 87 = .ok (.getfield 58, 3) := by decide +kernel
theorem dX0_passReference_90 : decode cX0_passReference 90 = .ok (.iload 4, 2) := by decide +kernel
theorem dX0_passReference_92 : decode cX0_passReference 92 = .ok (.iload_n 3, 1) := by decide +kernel
theorem dX0_passReference_93 : decode cX0_passReference 93 = .ok (.isub, 1) := by decide +kernel
theorem dX0_passReference_94 : decode cX0_passReference 94 = .ok (.iadd, 1) := by decide +kernel
theorem dX0_passReference_95 : decode cX0_passReference 95 = .ok (.putfield 58, 3) := by decide +kernel
theorem dX0_passReference_98 : decode cX0_passReference 98 = .ok (.iload_n 1, 1) := by decide +kernel
theorem dX0_passReference_99 : decode cX0_passReference 99 = .ok (.iconst 1, 1) := by decide +kernel
theorem dX0_passReference_100 : decode cX0_passReference 100 = .ok (.iadd, 1) := by decide +kernel
theorem dX0_passReference_101 : decode cX0_passReference 101 = .ok (.ireturn, 1) := by decide +kernel
theorem dX0_isSame_0 : decode cX0_isSame 0 = .ok (.iload_n 1, 1) := by decide +kernel
theorem dX0_isSame_1 : decode cX0_isSame 1 = .ok (.iload_n 2, 1) := by decide +kernel
theorem dX0_isSame_2 : decode cX0_isSame 2 = .ok (.if_icmp .eq 25, 3) := by decide +kernel
theorem dX0_isSame_5 : decode cX0_isSame 5 = .ok (.aload_n 0, 1) := by decide +kernel
theorem dX0_isSame_6 : decode cX0_isSame 6 = .ok (.getfield 22, 3) := by decide +kernel
theorem dX0_isSame_9 : decode cX0_isSame 9 = .ok (.iconst 4, 1) := by decide +kernel
theorem dX0_isSame_10 : decode cX0_isSame 10 = .ok (.invokevirtual 30, 3) := by decide +kernel
theorem dX0_isSame_13 : decode cX0_isSame 13 = .ok (.ifCond .eq 18, 3) := by decide +kernel
theorem dX0_isSame_16 : decode cX0_isSame 16 = .ok (.iload_n 1, 1) := by decide +kernel
theorem dX0_isSame_17 : decode cX0_isSame 17 = .ok (.invokestatic 155, 3) := by decide +kernel
theorem dX0_isSame_20 : decode cX0_isSame 20 = .ok (.iload_n 2, 1) := by decide +kernel
theorem dX0_isSame_21 : decode cX0_isSame 21 = .ok (.invokestatic 155, 3) := by decide +kernel
theorem dX0_isSame_24 : decode cX0_isSame 24 = .ok (.if_icmp .ne 7, 3) := by decide +kernel
theorem dX0_isSame_27 : decode cX0_isSame 27 = .ok (.iconst 1, 1) := by decide +kernel
theorem dX0_isSame_28 : decode cX0_isSame 28 = .ok (.goto 4, 3) := by decide +kernel
theorem dX0_isSame_31 : decode cX0_isSame 31 = .ok (.iconst 0, 1) := by decide +kernel
theorem dX0_isSame_32 : decode cX0_isSame 32 = .ok (.ireturn, 1) := by decide +kernel
theorem dX0_small_0 : decode cX0_small 0 = .ok (.iload_n 0, 1) := by decide +kernel
theorem dX0_small_1 : decode cX0_small 1 = .ok (.bipush 65, 2) := by decide +kernel
theorem dX0_small_3 : decode cX0_small 3 = .ok (.if_icmp .lt 16, 3) := by decide +kernel
theorem dX0_small_6 : decode cX0_small 6 = .ok (.iload_n 0, 1) := by decide +kernel
theorem dX0_small_7 : decode cX0_small 7 = .ok (.bipush 90, 2) := by decide +kernel
theorem dX0_small_9 : decode cX0_small 9 = .ok (.if_icmp .gt 10, 3) := by decide +kernel
theorem dX0_small_12 : decode cX0_small 12 = .ok (.iload_n 0, 1) := by decide +kernel
theorem dX0_small_13 : decode cX0_small 13 = .ok (.bipush 32, 2) := by decide +kernel
theorem dX0_small_15 : decode cX0_small 15 = .ok (.iadd, 1) := by decide +kernel
theorem dX0_small_16 : decode cX0_small 16 = .ok (.goto 4, 3) := by decide +kernel
theorem dX0_small_19 : decode cX0_small 19 = .ok (.iload_n 0, 1) := by decide +kernel
theorem dX0_small_20 : decode cX0_small 20 = .ok (.ireturn, 1) := by decide +kernel
theorem dX0_beginAlternative_0 : decode cX0_beginAlternative 0 = .ok (.aload_n 0, 1) := by decide +kernel
theorem dX0_beginAlternative_1 : decode cX0_beginAlternative 1 = .ok (.invokevirtual 131, 3) := by decide +kernel
theorem dX0_beginAlternative_4 : decode cX0_beginAlternative 4 = .ok (.aload_n 0, 1) := by decide +kernel
theorem dX0_beginAlternative_5 : decode cX0_beginAlternative 5 = .ok (.getfield 22, 3) := by decide +kernel
theorem dX0_beginAlternative_8 : decode cX0_beginAlternative 8 = .ok (.iload_n 1, 1) := by decide +kernel
theorem dX0_beginAlternative_9 : decode cX0_beginAlternative 9 = .ok (.invokevirtual 94, 3) := by decide +kernel
theorem dX0_beginAlternative_12 : decode cX0_beginAlternative 12 = .ok (.istore_n 2, 1) := by decide +kernel
theorem dX0_beginAlternative_13 : decode cX0_beginAlternative 13 = .ok (.iload_n 2, 1) := by decide +kernel
theorem dX0_beginAlternative_14 : decode cX0_beginAlternative 14 = .ok (.iconst (-1), 1) := by decide +kernel
theorem dX0_beginAlternative_15 : decode cX0_beginAlternative 15 = .ok (.if_icmp .eq 15, 3) := by decide +kernel
theorem dX0_beginAlternative_18 : decode cX0_beginAlternative 18 = .ok (.aload_n 0, 1) := by decide +kernel
theorem dX0_beginAlternative_19 : decode cX0_beginAlternative 19 = .ok (.getfield 12, 3) := by decide +kernel
theorem dX0_beginAlternative_22 : decode cX0_beginAlternative 22 = .ok (.iload_n 2, 1) := by decide +kernel
theorem dX0_beginAlternative_23 : decode cX0_beginAlternative 23 = .ok (.aload_n 0, 1) := by decide +kernel
theorem dX0_beginAlternative_24 : decode cX0_beginAlternative 24 = .ok (.getfield 58, 3) := by decide +kernel
theorem dX0_beginAlternative_27 : decode cX0_beginAlternative 27 = .ok (.invokevirtual 159, 3) := by decide +kernel
theorem dX0_beginAlternative_30 : decode cX0_beginAlternative 30 = .ok (.iload_n 1, 1) := by decide +kernel
theorem dX0_beginAlternative_31 : decode cX0_beginAlternative 31 = .ok (.iconst 1, 1) := by decide +kernel
theorem dX0_beginAlternative_32 : decode cX0_beginAlternative 32 = .ok (.iadd, 1) := by decide +kernel
theorem dX0_beginAlternative_33 : decode cX0_beginAlternative 33 = .ok (.ireturn, 1) := by decide +kernel
theorem dX0_beginGroup_0 : decode cX0_beginGroup 0 = .ok (.aload_n 0, 1) := by decide +kernel
theorem dX0_beginGroup_1 : decode cX0_beginGroup 1 = .ok (.getfield 12, 3) := by decide +kernel
theorem dX0_beginGroup_4 : decode cX0_beginGroup 4 = .ok (.iconst 0, 1) := by decide +kernel
theorem dX0_beginGroup_5 : decode cX0_beginGroup 5 = .ok (.aload_n 0, 1) := by decide +kernel
theorem dX0_beginGroup_6 : decode cX0_beginGroup 6 = .ok (.getfield 22, 3) := by decide +kernel
theorem dX0_beginGroup_9 : decode cX0_beginGroup 9 = .ok (.iload_n 1, 1) := by decide +kernel
theorem dX0_beginGroup_10 : decode cX0_beginGroup 10 = .ok (.invokevirtual 142, 3) := by decide +kernel
theorem dX0_beginGroup_13 : decode cX0_beginGroup 13 = .ok (.iadd, 1) := by decide +kernel
theorem dX0_beginGroup_14 : decode cX0_beginGroup 14 = .ok (.aload_n 0, 1) := by decide +kernel
theorem dX0_beginGroup_15 : decode cX0_beginGroup 15 = .ok (.getfield 58, 3) := by decide +kernel
theorem dX0_beginGroup_18 : decode cX0_beginGroup 18 = .ok (.invokevirtual 65, 3) := by decide +kernel
theorem dX0_beginGroup_21 : decode cX0_beginGroup 21 = .ok (.iload_n 1, 1) := by decide +kernel
theorem dX0_beginGroup_22 : decode cX0_beginGroup 22 = .ok (.iconst 1, 1) := by decide +kernel
theorem dX0_beginGroup_23 : decode cX0_beginGroup 23 = .ok (.iadd, 1) := by decide +kernel
theorem dX0_beginGroup_24 : decode cX0_beginGroup 24 = .ok (.ireturn, 1) := by decide +kernel
theorem dX0_endGroup_0 : decode cX0_endGroup 0 = .ok (.aload_n 0, 1) := by decide +kernel
theorem dX0_endGroup_1 : decode cX0_endGroup 1 = .ok (.getfield 22, 3) := by decide +kernel
theorem dX0_endGroup_4 : decode cX0_endGroup 4 = .ok (.iload_n 1, 1) := by decide +kernel
theorem dX0_endGroup_5 : decode cX0_endGroup 5 = .ok (.invokevirtual 142, 3) := by decide +kernel
theorem dX0_endGroup_8 : decode cX0_endGroup 8 = .ok (.istore_n 2, 1) := by decide +kernel
theorem dX0_endGroup_9 : decode cX0_endGroup 9 = .ok (.aload_n 0, 1) := by decide +kernel
theorem dX0_endGroup_10 : decode cX0_endGroup 10 = .ok (.getfield 12, 3) := by decide +kernel
theorem dX0_endGroup_13 : decode cX0_endGroup 13 = .ok (.bipush 10, 2) := by decide +kernel
theorem dX0_endGroup_15 : decode cX0_endGroup 15 = .ok (.iload_n 2, 1) := by decide +kernel
theorem dX0_endGroup_16 : decode cX0_endGroup 16 = .ok (.iadd, 1) := by decide +kernel
theorem dX0_endGroup_17 : decode cX0_endGroup 17 = .ok (.aload_n 0, 1) := by decide +kernel
theorem dX0_endGroup_18 : decode cX0_endGroup 18 = .ok (.getfield 12, 3) := by decide +kernel
theorem dX0_endGroup_21 : decode cX0_endGroup 21 = .ok (.iconst 0, 1) := by decide +kernel
theorem dX0_endGroup_22 : decode cX0_endGroup 22 = .ok (.iload_n 2, 1) := by decide +kernel
theorem dX0_endGroup_23 : decode cX0_endGroup 23 = .ok (.iadd, 1) := by decide +kernel
theorem dX0_endGroup_24 : decode cX0_endGroup 24 = .ok (.invokevirtual 51, 3) := by decide +kernel
theorem dX0_endGroup_27 : decode cX0_endGroup 27 = .ok (.invokevirtual 65, 3) := by decide +kernel
theorem dX0_endGroup_30 : decode cX0_endGroup 30 = .ok (.aload_n 0, 1) := by decide +kernel
theorem dX0_endGroup_31 : decode cX0_endGroup 31 = .ok (.getfield 12, 3) := by decide +kernel
theorem dX0_endGroup_34 : decode cX0_endGroup 34 = .ok (.bipush 20, 2) := by decide +kernel
theorem dX0_endGroup_36 : decode cX0_endGroup 36 = .ok (.iload_n 2, 1) := by decide +kernel
theorem dX0_endGroup_37 : decode cX0_endGroup 37 = .ok (.iadd, 1) := by decide +kernel
theorem dX0_endGroup_38 : decode cX0_endGroup 38 = .ok (.aload_n 0, 1) := by decide +kernel
theorem dX0_endGroup_39 : decode cX0_endGroup 39 = .ok (.getfield 58, 3) := by decide +kernel
theorem dX0_endGroup_42 : decode cX0_endGroup 42 = .ok (.invokevirtual 65, 3) := by decide +kernel
theorem dX0_endGroup_45 : decode cX0_endGroup 45 = .ok (.iload_n 1, 1) := by decide +kernel
theorem dX0_endGroup_46 : decode cX0_endGroup 46 = .ok (.iconst 1, 1) := by decide +kernel
theorem dX0_endGroup_47 : decode cX0_endGroup 47 = .ok (.iadd, 1) := by decide +kernel
theorem dX0_endGroup_48 : decode cX0_endGroup 48 = .ok (.ireturn, 1) := by decide +kernel
theorem dX0_enterLoop_0 : decode cX0_enterLoop 0 = .ok (.aload_n 0, 1) := by decide +kernel
theorem dX0_enterLoop_1 : decode cX0_enterLoop 1 = .ok (.getfield 22, 3) := by decide +kernel
theorem dX0_enterLoop_4 : decode cX0_enterLoop 4 = .ok (.iload_n 1, 1) := by decide +kernel
theorem dX0_enterLoop_5 : decode cX0_enterLoop 5 = .ok (.invokevirtual 94, 3) := by decide +kernel
theorem dX0_enterLoop_8 : decode cX0_enterLoop 8 = .ok (.istore_n 2, 1) := by decide +kernel
theorem dX0_enterLoop_9 : decode cX0_enterLoop 9 = .ok (.iload_n 2, 1) := by decide +kernel
theorem dX0_enterLoop_10 : decode cX0_enterLoop 10 = .ok (.iconst (-1), 1) := by decide +kernel
theorem dX0_enterLoop_11 : decode cX0_enterLoop 11 = .ok (.if_icmp .ne 7, 3) := by decide +kernel
theorem dX0_enterLoop_14 : decode cX0_enterLoop 14 = .ok (.iload_n 1, 1) := by decide +kernel
theorem dX0_enterLoop_15 : decode cX0_enterLoop 15 = .ok (.iconst 1, 1) := by decide +kernel
theorem dX0_enterLoop_16 : decode cX0_enterLoop 16 = .ok (.iadd, 1) := by decide +kernel
theorem dX0_enterLoop_17 : decode cX0_enterLoop 17 = .ok (.ireturn, 1) := by decide +kernel
theorem dX0_enterLoop_18 : decode cX0_enterLoop 18 = .ok (.aload_n 0, 1) := by decide +kernel
theorem dX0_enterLoop_19 : decode cX0_enterLoop 19 = .ok (.getfield 12, 3) := by decide +kernel
theorem dX0_enterLoop_22 : decode cX0_enterLoop 22 = .ok (.bipush 30, 2) := by decide +kernel
theorem dX0_enterLoop_24 : decode cX0_enterLoop 24 = .ok (.aload_n 0, 1) := by decide +kernel
theorem dX0_enterLoop_25 : decode cX0_enterLoop 25 = .ok (.getfield 22, 3) := by decide +kernel
theorem dX0_enterLoop_28 : decode cX0_enterLoop 28 = .ok (.iload_n 2, 1) := by decide +kernel
theorem dX0_enterLoop_29 : decode cX0_enterLoop 29 = .ok (.invokevirtual 142, 3) := by decide +kernel
theorem dX0_enterLoop_32 : decode cX0_enterLoop 32 = .ok (.iadd, 1) := by decide +kernel
theorem dX0_enterLoop_33 : decode cX0_enterLoop 33 = .ok (.iconst 0, 1) := by decide +kernel
theorem dX0_enterLoop_34 : decode cX0_enterLoop 34 = .ok (.invokevirtual 65, 3) := by decide +kernel
theorem dX0_enterLoop_37 : decode cX0_enterLoop 37 = .ok (.aload_n 0, 1) := by decide +kernel
theorem dX0_enterLoop_38 : decode cX0_enterLoop 38 = .ok (.iload_n 2, 1) := by decide +kernel
theorem dX0_enterLoop_39 : decode cX0_enterLoop 39 = .ok (.invokevirtual 162, 3) := by decide +kernel
theorem dX0_enterLoop_42 : decode cX0_enterLoop 42 = .ok (.ireturn, 1) := by decide +kernel
theorem dX0_endPass_0 : decode cX0_endPass 0 = .ok (.aload_n 0, 1) := by decide +kernel
theorem dX0_endPass_1 : decode cX0_endPass 1 = .ok (.getfield 22, 3) := by decide +kernel
theorem dX0_endPass_4 : decode cX0_endPass 4 = .ok (.iload_n 1, 1) := by decide +kernel
theorem dX0_endPass_5 : decode cX0_endPass 5 = .ok (.invokevirtual 142, 3) := by decide +kernel
theorem dX0_endPass_8 : decode cX0_endPass 8 = .ok (.istore_n 2, 1) := by decide +kernel
theorem dX0_endPass_9 : decode cX0_endPass 9 = .ok (.aload_n 0, 1) := by decide +kernel
theorem dX0_endPass_10 : decode cX0_endPass 10 = .ok (.getfield 12, 3) := by decide +kernel
theorem dX0_endPass_13 : decode cX0_endPass 13 = .ok (.bipush 30, 2) := by decide +kernel
theorem dX0_endPass_15 : decode cX0_endPass 15 = .ok (.iload_n 2, 1) := by decide +kernel
theorem dX0_endPass_16 : decode cX0_endPass 16 = .ok (.iadd, 1) := by decide +kernel
theorem dX0_endPass_17 : decode cX0_endPass 17 = .ok (.invokevirtual 51, 3) := by decide +kernel
theorem dX0_endPass_20 : decode cX0_endPass 20 = .ok (.iconst 1, 1) := by decide +kernel
theorem dX0_endPass_21 : decode cX0_endPass 21 = .ok (.iadd, 1) := by decide +kernel
theorem dX0_endPass_22 : decode cX0_endPass 22 = .ok (.istore_n 3, 1) := by decide +kernel
theorem dX0_endPass_23 : decode cX0_endPass 23 = .ok (.iload_n 3, 1) := by decide +kernel
theorem dX0_endPass_24 : decode cX0_endPass 24 = .ok (.aload_n 0, 1) := by decide +kernel
theorem dX0_endPass_25 : decode cX0_endPass 25 = .ok (.getfield 22, 3) := by decide +kernel
theorem dX0_endPass_28 : decode cX0_endPass 28 = .ok (.iload_n 2, 1) := by decide +kernel
theorem dX0_endPass_29 : decode cX0_endPass 29 = .ok (.invokevirtual 165, 3) := by decide +kernel
theorem dX0_endPass_32 : decode cX0_endPass 32 = .ok (.if_icmp .le 23, 3) := by decide +kernel
theorem dX0_endPass_35 : decode cX0_endPass 35 = .ok (.aload_n 0, 1) := by decide +kernel
theorem dX0_endPass_36 : decode cX0_endPass 36 = .ok (.getfield 12, 3) := by decide +kernel
theorem dX0_endPass_39 : decode cX0_endPass 39 = .ok (.bipush 50, 2) := by decide +kernel
theorem dX0_endPass_41 : decode cX0_endPass 41 = .ok (.iload_n 2, 1) := by decide +kernel
theorem dX0_endPass_42 : decode cX0_endPass 42 = .ok (.iadd, 1) := by decide +kernel
theorem dX0_endPass_43 : decode cX0_endPass 43 = .ok (.invokevirtual 51, 3) := by decide +kernel
theorem dX0_endPass_46 : decode cX0_endPass 46 = .ok (.aload_n 0, 1) := by decide +kernel
theorem dX0_endPass_47 : decode cX0_endPass 47 = .ok (.getfield 58, 3) := by decide +kernel
theorem dX0_endPass_50 : decode cX0_endPass 50 = .ok (.if_icmp .ne 5, 3) := by decide +kernel
theorem dX0_endPass_53 : decode cX0_endPass 53 = .ok (.iconst (-1), 1) := by decide +kernel
theorem dX0_endPass_54 : decode cX0_endPass 54 = .ok (.ireturn, 1) := by decide +kernel
theorem dX0_endPass_55 : decode cX0_endPass 55 = .ok (.aload_n 0, 1) := by decide +kernel
theorem dX0_endPass_56 : decode cX0_endPass 56 = .ok (.getfield 12, 3) := by decide +kernel
theorem dX0_endPass_59 : decode cX0_endPass 59 = .ok (.bipush 30, 2) := by decide +kernel
theorem dX0_endPass_61 : decode cX0_endPass 61 = .ok (.iload_n 2, 1) := by decide +kernel
theorem dX0_endPass_62 : decode cX0_endPass 62 = .ok (.iadd, 1) := by decide +kernel
theorem dX0_endPass_63 : decode cX0_endPass 63 = .ok (.iload_n 3, 1) := by decide +kernel
theorem dX0_endPass_64 : decode cX0_endPass 64 = .ok (.invokevirtual 65, 3) := by decide +kernel
theorem dX0_endPass_67 : decode cX0_endPass 67 = .ok (.aload_n 0, 1) := by decide +kernel
theorem dX0_endPass_68 : decode cX0_endPass 68 = .ok (.iload_n 1, 1) := by decide +kernel
theorem dX0_endPass_69 : decode cX0_endPass 69 = .ok (.invokevirtual 162, 3) := by decide +kernel
theorem dX0_endPass_72 : decode cX0_endPass 72 = .ok (.ireturn, 1) := by decide +kernel
theorem dX0_choosePass_0 : decode cX0_choosePass 0 = .ok (.aload_n 0, 1) := by decide +kernel
theorem dX0_choosePass_1 : decode cX0_choosePass 1 = .ok (.getfield 22, 3) := by decide +kernel
theorem dX0_choosePass_4 : decode cX0_choosePass 4 = .ok (.iload_n 1, 1) := by decide +kernel
theorem dX0_choosePass_5 : decode cX0_choosePass 5 = .ok (.invokevirtual 142, 3) := by decide +kernel
theorem dX0_choosePass_8 : decode cX0_choosePass 8 = .ok (.istore_n 2, 1) := by decide +kernel
theorem dX0_choosePass_9 : decode cX0_choosePass 9 = .ok (.aload_n 0, 1) := by decide +kernel
theorem dX0_choosePass_10 : decode cX0_choosePass 10 = .ok (.getfield 12, 3) := by decide +kernel
theorem dX0_choosePass_13 : decode cX0_choosePass 13 = .ok (.bipush 30, 2) := by decide +kernel
theorem dX0_choosePass_15 : decode cX0_choosePass 15 = .ok (.iload_n 2, 1) := by decide +kernel
theorem dX0_choosePass_16 : decode cX0_choosePass 16 = .ok (.iadd, 1) := by decide +kernel
theorem dX0_choosePass_17 : decode cX0_choosePass 17 = .ok (.invokevirtual 51, 3) := by decide +kernel
theorem dX0_choosePass_20 : decode cX0_choosePass 20 = .ok (.istore_n 3, 1) := by decide +kernel
theorem dX0_choosePass_21 : decode cX0_choosePass 21 = .ok (.iload_n 1, 1) := by decide +kernel
theorem dX0_choosePass_22 : decode cX0_choosePass 22 = .ok (.iconst 1, 1) := by decide +kernel
theorem dX0_choosePass_23 : decode cX0_choosePass 23 = .ok (.iadd, 1) := by decide +kernel
theorem dX0_choosePass_24 : decode cX0_choosePass 24 = .ok (.istore 4, 2) := by decide +kernel
theorem dX0_choosePass_26 : decode cX0_choosePass 26 = .ok (.iload_n 1, 1) := by decide +kernel
theorem dX0_choosePass_27 : decode cX0_choosePass 27 = .ok (.iconst 2, 1) := by decide +kernel
theorem dX0_choosePass_28 : decode cX0_choosePass 28 = .ok (.iadd, 1) := by decide +kernel
theorem dX0_choosePass_29 : decode cX0_choosePass 29 = .ok (.istore 5, 2) := by decide +kernel
theorem dX0_choosePass_31 : decode cX0_choosePass 31 = .ok (.iload_n 3, 1) := by decide +kernel
theorem dX0_choosePass_32 : decode cX0_choosePass 32 = .ok (.aload_n 0, 1) := by decide +kernel
theorem dX0_choosePass_33 : decode cX0_choosePass 33 = .ok (.getfield 22, 3) := by decide +kernel
theorem dX0_choosePass_36 : decode cX0_choosePass 36 = .ok (.iload_n 2, 1) := by decide +kernel
theorem dX0_choosePass_37 : decode cX0_choosePass 37 = .ok (.invokevirtual 165, 3) := by decide +kernel
theorem dX0_choosePass_40 : decode cX0_choosePass 40 = .ok (.if_icmp .ge 6, 3) := by decide +kernel
theorem dX0_choosePass_43 : decode cX0_choosePass 43 = .ok (.iload 4, 2) := by decide +kernel
theorem dX0_choosePass_45 : decode cX0_choosePass 45 = .ok (.ireturn, 1) := by decide +kernel
theorem dX0_choosePass_46 : decode cX0_choosePass 46 = .ok (.iload_n 3, 1) := by decide +kernel
theorem dX0_choosePass_47 : decode cX0_choosePass 47 = .ok (.aload_n 0, 1) := by decide +kernel
theorem dX0_choosePass_48 : decode cX0_choosePass 48 = .ok (.getfield 22, 3) := by decide +kernel
theorem dX0_choosePass_51 : decode cX0_choosePass 51 = .ok (.iload_n 2, 1) := by decide +kernel
theorem dX0_choosePass_52 : decode cX0_choosePass 52 = .ok (.invokevirtual 168, 3) := by decide +kernel
theorem dX0_choosePass_55 : decode cX0_choosePass 55 = .ok (.if_icmp .lt 6, 3) := by decide +kernel
theorem dX0_choosePass_58 : decode cX0_choosePass 58 = .ok (.iload 5, 2) := by decide +kernel
theorem dX0_choosePass_60 : decode cX0_choosePass 60 = .ok (.ireturn, 1) := by decide +kernel
theorem dX0_choosePass_61 : decode cX0_choosePass 61 = .ok (.aload_n 0, 1) := by decide +kernel
theorem dX0_choosePass_62 : decode cX0_choosePass 62 = .ok (.getfield 22, 3) := by decide +kernel
theorem dX0_choosePass_65 : decode cX0_choosePass 65 = .ok (.iload_n 1, 1) := by decide +kernel
theorem dX0_choosePass_66 : decode cX0_choosePass 66 = .ok (.invokevirtual 75, 3) := by decide +kernel
theorem dX0_choosePass_69 : decode cX0_choosePass 69 = .ok (.bipush 10, 2) := by decide +kernel
theorem dX0_choosePass_71 : decode cX0_choosePass 71 = .ok (.if_icmp .ne 7, 3) := by decide +kernel
theorem dX0_choosePass_74 : decode cX0_choosePass 74 = .ok (.iconst 1, 1) := by decide +kernel
theorem dX0_choosePass_75 : decode cX0_choosePass 75 = .ok (.goto 4, 3) := by decide +kernel
theorem dX0_choosePass_78 : decode cX0_choosePass 78 = .ok (.iconst 0, 1) := by decide +kernel
theorem dX0_choosePass_79 : decode cX0_choosePass 79 = .ok (.istore 6, 2) := by decide +kernel
theorem dX0_choosePass_81 : decode cX0_choosePass 81 = .ok (.aload_n 0, 1) := by decide +kernel
theorem dX0_choosePass_82 : decode cX0_choosePass 82 = .ok (.getfield 12, 3) := by decide +kernel
theorem dX0_choosePass_85 : decode cX0_choosePass 85 = .ok (.iload 6, 2) := by decide +kernel
theorem dX0_choosePass_87 : decode cX0_choosePass 87 = .ok (.ifCond .eq 8, 3) := by decide +kernel
theorem dX0_choosePass_90 : decode cX0_choosePass 90 = .ok (.iload 5, 2) := by decide +kernel
theorem dX0_choosePass_92 : decode cX0_choosePass 92 = .ok (.goto 5, 3) := by decide +kernel
theorem dX0_choosePass_95 : decode cX0_choosePass 95 = .ok (.iload 4, 2) := by decide +kernel
theorem dX0_choosePass_97 : decode cX0_choosePass 97 = .ok (.aload_n 0, 1) := by decide +kernel
theorem dX0_choosePass_98 : decode cX0_choosePass 98 = .ok (.getfield 58, 3) := by decide +kernel
theorem dX0_choosePass_101 : decode cX0_choosePass 101 = .ok (.invokevirtual 159, 3) := by decide +kernel
theorem dX0_choosePass_104 : decode cX0_choosePass 104 = .ok (.iload 6, 2) := by decide +kernel
theorem dX0_choosePass_106 : decode cX0_choosePass 106 = .ok (.ifCond .eq 8, 3) := by decide +kernel
theorem dX0_choosePass_109 : decode cX0_choosePass 109 = .ok (.iload 4, 2) := by decide +kernel
theorem dX0_choosePass_111 : decode cX0_choosePass 111 = .ok (.goto 5, 3) := by decide +kernel
theorem dX0_choosePass_114 : decode cX0_choosePass 114 = .ok (.iload 5, 2) := by decide +kernel
theorem dX0_choosePass_116 : decode cX0_choosePass 116 = .ok (.ireturn, 1) := by decide +kernel
theorem dX0_beginPass_0 : decode cX0_beginPass 0 = .ok (.aload_n 0, 1) := by decide +kernel
theorem dX0_beginPass_1 : decode cX0_beginPass 1 = .ok (.getfield 22, 3) := by decide +kernel
theorem dX0_beginPass_4 : decode cX0_beginPass 4 = .ok (.iload_n 1, 1) := by decide +kernel
theorem dX0_beginPass_5 : decode cX0_beginPass 5 = .ok (.invokevirtual 142, 3) := by decide +kernel
theorem dX0_beginPass_8 : decode cX0_beginPass 8 = .ok (.istore_n 2, 1) := by decide +kernel
theorem dX0_beginPass_9 : decode cX0_beginPass 9 = .ok (.aload_n 0, 1) := by decide +kernel
theorem dX0_beginPass_10 : decode cX0_beginPass 10 = .ok (.getfield 12, 3) := by decide +kernel
theorem dX0_beginPass_13 : decode cX0_beginPass 13 = .ok (.bipush 50, 2) := by decide +kernel
theorem dX0_beginPass_15 : decode cX0_beginPass 15 = .ok (.iload_n 2, 1) := by decide +kernel
theorem dX0_beginPass_16 : decode cX0_beginPass 16 = .ok (.iadd, 1) := by decide +kernel
theorem dX0_beginPass_17 : decode cX0_beginPass 17 = .ok (.aload_n 0, 1) := by decide +kernel
theorem dX0_beginPass_18 : decode cX0_beginPass 18 = .ok (.getfield 58, 3) := by decide +kernel
theorem dX0_beginPass_21 : decode cX0_beginPass 21 = .ok (.invokevirtual 65, 3) := by decide +kernel
theorem dX0_beginPass_24 : decode cX0_beginPass 24 = .ok (.aload_n 0, 1) := by decide +kernel
theorem dX0_beginPass_25 : decode cX0_beginPass 25 = .ok (.getfield 22, 3) := by decide +kernel
theorem dX0_beginPass_28 : decode cX0_beginPass 28 = .ok (.iload_n 2, 1) := by decide +kernel
theorem dX0_beginPass_29 : decode cX0_beginPass 29 = .ok (.invokevirtual 171, 3) := by decide +kernel
theorem dX0_beginPass_32 : decode cX0_beginPass 32 = .ok (.istore_n 3, 1) := by decide +kernel
theorem dX0_beginPass_33 : decode cX0_beginPass 33 = .ok (.iload_n 3, 1) := by decide +kernel
theorem dX0_beginPass_34 : decode cX0_beginPass 34 = .ok (.aload_n 0, 1) := by decide +kernel
theorem dX0_beginPass_35 : decode cX0_beginPass 35 = .ok (.getfield 22, 3) := by decide +kernel
theorem dX0_beginPass_38 : decode cX0_beginPass 38 = .ok (.iload_n 2, 1) := by decide +kernel
theorem dX0_beginPass_39 : decode cX0_beginPass 39 = .ok (.invokevirtual 174, 3) := by decide +kernel
theorem dX0_beginPass_42 : decode cX0_beginPass 42 = .ok (.if_icmp .gt 33, 3) := by decide +kernel
theorem dX0_beginPass_45 : decode cX0_beginPass 45 = .ok (.aload_n 0, 1) := by decide +kernel
theorem dX0_beginPass_46 : decode cX0_beginPass 46 = .ok (.getfield 12, 3) := by decide +kernel
theorem dX0_beginPass_49 : decode cX0_beginPass 49 = .ok (.bipush 10, 2) := by decide +kernel
theorem dX0_beginPass_51 : decode cX0_beginPass 51 = .ok (.iload_n 3, 1) := by decide +kernel
theorem dX0_beginPass_52 : decode cX0_beginPass 52 = .ok (.iadd, 1) := by decide +kernel
theorem dX0_beginPass_53 : decode cX0_beginPass 53 = .ok (.iconst (-1), 1) := by decide +kernel
theorem dX0_beginPass_54 : decode cX0_beginPass 54 = .ok (.invokevirtual 65, 3) := by decide +kernel
theorem dX0_beginPass_57 : decode cX0_beginPass 57 = .ok (.aload_n 0, 1) := by decide +kernel
theorem dX0_beginPass_58 : decode cX0_beginPass 58 = .ok (.getfield 12, 3) := by decide +kernel
theorem dX0_beginPass_61 : decode cX0_beginPass 61 = .ok (.bipush 20, 2) := by decide +kernel
theorem dX0_beginPass_63 : decode cX0_beginPass 63 = .ok (.iload_n 3, 1) := by decide +kernel
theorem dX0_beginPass_64 : decode cX0_beginPass 64 = .ok (.iadd, 1) := by decide +kernel
theorem dX0_beginPass_65 : decode cX0_beginPass 65 = .ok (.iconst (-1), 1) := by decide +kernel
theorem dX0_beginPass_66 : decode cX0_beginPass 66 = .ok (.invokevirtual 65, 3) := by decide +kernel
theorem dX0_beginPass_69 : decode cX0_beginPass 69 = .ok (.iinc 3 1, 3) := by decide +kernel
theorem dX0_beginPass_72 : decode cX0_beginPass 72 = .ok (.goto (-39), 3) := by decide +kernel
theorem dX0_beginPass_75 : decode cX0_beginPass 75 = .ok (.aload_n 0, 1) := by decide +kernel
theorem dX0_beginPass_76 : decode cX0_beginPass 76 = .ok (.getfield 22, 3) := by decide +kernel
theorem dX0_beginPass_79 : decode cX0_beginPass 79 = .ok (.iload_n 1, 1) := by decide +kernel
theorem dX0_beginPass_80 : decode cX0_beginPass 80 = .ok (.invokevirtual 94, 3) := by decide +kernel
theorem dX0_beginPass_83 : decode cX0_beginPass 83 = .ok (.ireturn, 1) := by decide +kernel
theorem dX0_beginLook_0 : decode cX0_beginLook 0 = .ok (.aload_n 0, 1) := by decide +kernel
theorem dX0_beginLook_1 : decode cX0_beginLook 1 = .ok (.getfield 22, 3) := by decide +kernel
theorem dX0_beginLook_4 : decode cX0_beginLook 4 = .ok (.iload_n 1, 1) := by decide +kernel
theorem dX0_beginLook_5 : decode cX0_beginLook 5 = .ok (.invokevirtual 142, 3) := by decide +kernel
theorem dX0_beginLook_8 : decode cX0_beginLook 8 = .ok (.istore_n 2, 1) := by decide +kernel
theorem dX0_beginLook_9 : decode cX0_beginLook 9 = .ok (.aload_n 0, 1) := by decide +kernel
theorem dX0_beginLook_10 : decode cX0_beginLook 10 = .ok (.getfield 12, 3) := by decide +kernel
theorem dX0_beginLook_13 : decode cX0_beginLook 13 = .ok (.bipush 70, 2) := by decide +kernel
theorem dX0_beginLook_15 : decode cX0_beginLook 15 = .ok (.iload_n 2, 1) := by decide +kernel
theorem dX0_beginLook_16 : decode cX0_beginLook 16 = .ok (.iadd, 1) := by decide +kernel
theorem dX0_beginLook_17 : decode cX0_beginLook 17 = .ok (.aload_n 0, 1) := by decide +kernel
theorem dX0_beginLook_18 : decode cX0_beginLook 18 = .ok (.getfield 12, 3) := by decide +kernel
theorem dX0_beginLook_21 : decode cX0_beginLook 21 = .ok (.invokevirtual 177, 3) := by decide +kernel
theorem dX0_beginLook_24 : decode cX0_beginLook 24 = .ok (.invokevirtual 65, 3) := by decide +kernel
theorem dX0_beginLook_27 : decode cX0_beginLook 27 = .ok (.aload_n 0, 1) := by decide +kernel
theorem dX0_beginLook_28 : decode cX0_beginLook 28 = .ok (.getfield 12, 3) := by decide +kernel
