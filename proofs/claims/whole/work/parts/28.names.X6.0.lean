theorem dX6_init_0 : decode cX6_init 0 = .ok (.aload_n 0, 1) := by decide +kernel
theorem dX6_init_1 : decode cX6_init 1 = .ok (.invokespecial 3, 3) := by decide +kernel
theorem dX6_init_4 : decode cX6_init 4 = .ok (.aload_n 0, 1) := by decide +kernel
theorem dX6_init_5 : decode cX6_init 5 = .ok (.new 9, 3) := by decide +kernel
theorem dX6_init_8 : decode cX6_init 8 = .ok (.dup, 1) := by decide +kernel
theorem dX6_init_9 : decode cX6_init 9 = .ok (.bipush 40, 2) := by decide +kernel
theorem dX6_init_11 : decode cX6_init 11 = .ok (.invokespecial 11, 3) := by decide +kernel
theorem dX6_init_14 : decode cX6_init 14 = .ok (.putfield 14, 3) := by decide +kernel
theorem dX6_init_17 : decode cX6_init 17 = .ok (.aload_n 0, 1) := by decide +kernel
theorem dX6_init_18 : decode cX6_init 18 = .ok (.new 9, 3) := by decide +kernel
theorem dX6_init_21 : decode cX6_init 21 = .ok (.dup, 1) := by decide +kernel
theorem dX6_init_22 : decode cX6_init 22 = .ok (.bipush 40, 2) := by decide +kernel
theorem dX6_init_24 : decode cX6_init 24 = .ok (.invokespecial 11, 3) := by decide +kernel
theorem dX6_init_27 : decode cX6_init 27 = .ok (.putfield 18, 3) := by decide +kernel
theorem dX6_init_30 : decode cX6_init 30 = .ok (.aload_n 0, 1) := by decide +kernel
theorem dX6_init_31 : decode cX6_init 31 = .ok (.new 9, 3) := by decide +kernel
theorem dX6_init_34 : decode cX6_init 34 = .ok (.dup, 1) := by decide +kernel
theorem dX6_init_35 : decode cX6_init 35 = .ok (.bipush 24, 2) := by decide +kernel
theorem dX6_init_37 : decode cX6_init 37 = .ok (.invokespecial 11, 3) := by decide +kernel
theorem dX6_init_40 : decode cX6_init 40 = .ok (.putfield 21, 3) := by decide +kernel
theorem dX6_init_43 : decode cX6_init 43 = .ok (.aload_n 0, 1) := by decide +kernel
theorem dX6_init_44 : decode cX6_init 44 = .ok (.new 9, 3) := by decide +kernel
theorem dX6_init_47 : decode cX6_init 47 = .ok (.dup, 1) := by decide +kernel
theorem dX6_init_48 : decode cX6_init 48 = .ok (.sipush 200, 3) := by decide +kernel
theorem dX6_init_51 : decode cX6_init 51 = .ok (.invokespecial 11, 3) := by decide +kernel
theorem dX6_init_54 : decode cX6_init 54 = .ok (.putfield 24, 3) := by decide +kernel
theorem dX6_init_57 : decode cX6_init 57 = .ok (.aload_n 0, 1) := by decide +kernel
theorem dX6_init_58 : decode cX6_init 58 = .ok (.new 9, 3) := by decide +kernel
theorem dX6_init_61 : decode cX6_init 61 = .ok (.dup, 1) := by decide +kernel
theorem dX6_init_62 : decode cX6_init 62 = .ok (.sipush 200, 3) := by decide +kernel
theorem dX6_init_65 : decode cX6_init 65 = .ok (.invokespecial 11, 3) := by decide +kernel
theorem dX6_init_68 : decode cX6_init 68 = .ok (.putfield 27, 3) := by decide +kernel
theorem dX6_init_71 : decode cX6_init 71 = .ok (.aload_n 0, 1) := by decide +kernel
theorem dX6_init_72 : decode cX6_init 72 = .ok (.new 30, 3) := by decide +kernel
theorem dX6_init_75 : decode cX6_init 75 = .ok (.dup, 1) := by decide +kernel
theorem dX6_init_76 : decode cX6_init 76 = .ok (.invokespecial 32, 3) := by decide +kernel
theorem dX6_init_79 : decode cX6_init 79 = .ok (.putfield 33, 3) := by decide +kernel
theorem dX6_init_82 : decode cX6_init 82 = .ok (.aload_n 0, 1) := by decide +kernel
theorem dX6_init_83 : decode cX6_init 83 = .ok (.new 30, 3) := by decide +kernel
theorem dX6_init_86 : decode cX6_init 86 = .ok (.dup, 1) := by decide +kernel
theorem dX6_init_87 : decode cX6_init 87 = .ok (.invokespecial 32, 3) := by decide +kernel
theorem dX6_init_90 : decode cX6_init 90 = .ok (.putfield 37, 3) := by decide +kernel
theorem dX6_init_93 : decode cX6_init 93 = .ok (.aload_n 0, 1) := by decide +kernel
theorem dX6_init_94 : decode cX6_init 94 = .ok (.new 40, 3) := by decide +kernel
theorem dX6_init_97 : decode cX6_init 97 = .ok (.dup, 1) := by decide +kernel
theorem dX6_init_98 : decode cX6_init 98 = .ok (.aload_n 0, 1) := by decide +kernel
theorem dX6_init_99 : decode cX6_init 99 = .ok (.getfield 18, 3) := by decide +kernel
theorem dX6_init_102 : decode cX6_init 102 = .ok (.aload_n 0, 1) := by decide +kernel
theorem dX6_init_103 : decode cX6_init 103 = .ok (.getfield 33, 3) := by decide +kernel
theorem dX6_init_106 : decode cX6_init 106 = .ok (.invokespecial 42, 3) := by decide +kernel
theorem dX6_init_109 : decode cX6_init 109 = .ok (.putfield 45, 3) := by decide +kernel
theorem dX6_init_112 : decode cX6_init 112 = .ok (.aload_n 0, 1) := by decide +kernel
theorem dX6_init_113 : decode cX6_init 113 = .ok (.new 49, 3) := by decide +kernel
theorem dX6_init_116 : decode cX6_init 116 = .ok (.dup, 1) := by decide +kernel
theorem dX6_init_117 : decode cX6_init 117 = .ok (.aload_n 0, 1) := by decide +kernel
theorem dX6_init_118 : decode cX6_init 118 = .ok (.getfield 21, 3) := by decide +kernel
theorem dX6_init_121 : decode cX6_init 121 = .ok (.aload_n 0, 1) := by decide +kernel
theorem dX6_init_122 : decode cX6_init 122 = .ok (.getfield 33, 3) := by decide +kernel
theorem dX6_init_125 : decode cX6_init 125 = .ok (.invokespecial 51, 3) := by decide +kernel
theorem dX6_init_128 : decode cX6_init 128 = .ok (.putfield 52, 3) := by decide +kernel
theorem dX6_init_131 : decode cX6_init 131 = .ok (.aload_n 0, 1) := by decide +kernel
theorem dX6_init_132 : decode cX6_init 132 = .ok (.bipush 10, 2) := by decide +kernel
theorem dX6_init_134 : decode cX6_init 134 = .ok (.newarray .int, 2) := by decide +kernel
theorem dX6_init_136 : decode cX6_init 136 = .ok (.putfield 56, 3) := by decide +kernel
theorem dX6_init_139 : decode cX6_init 139 = .ok (.aload_n 0, 1) := by decide +kernel
theorem dX6_init_140 : decode cX6_init 140 = .ok (.bipush 10, 2) := by decide +kernel
theorem dX6_init_142 : decode cX6_init 142 = .ok (.newarray .int, 2) := by decide +kernel
theorem dX6_init_144 : decode cX6_init 144 = .ok (.putfield 60, 3) := by decide +kernel
theorem dX6_init_147 : decode cX6_init 147 = .ok (.aload_n 0, 1) := by decide +kernel
theorem dX6_init_148 : decode cX6_init 148 = .ok (.iconst 0, 1) := by decide +kernel
theorem dX6_init_149 : decode cX6_init 149 = .ok (.putfield 63, 3) := by decide +kernel
theorem dX6_init_152 : decode cX6_init 152 = .ok (.aload_n 0, 1) := by decide +kernel
theorem dX6_init_153 : decode cX6_init 153 = .ok (.iconst 0, 1) := by decide +kernel
theorem dX6_init_154 : decode cX6_init 154 = .ok (.putfield 67, 3) := by decide +kernel
theorem dX6_init_157 : decode cX6_init 157 = .ok (.aload_n 0, 1) := by decide +kernel
theorem dX6_init_158 : decode cX6_init 158 = .ok (.invokevirtual 70, 3) := by decide +kernel
theorem dX6_init_161 : decode cX6_init 161 = .ok (.return_, 1) := by decide +kernel
theorem dX6_type_0 : decode cX6_type 0 = .ok (.iload_n 3, 1) := by decide +kernel
theorem dX6_type_1 : decode cX6_type 1 = .ok (.iconst 1, 1) := by decide +kernel
theorem dX6_type_2 : decode cX6_type 2 = .ok (.if_icmp .lt 9, 3) := by decide +kernel
theorem dX6_type_5 : decode cX6_type 5 = .ok (.iload_n 3, 1) := by decide +kernel
theorem dX6_type_6 : decode cX6_type 6 = .ok (.bipush 8, 2) := by decide +kernel
theorem dX6_type_8 : decode cX6_type 8 = .ok (.if_icmp .le 13, 3) := by decide +kernel
theorem dX6_type_11 : decode cX6_type 11 = .ok (.new 73, 3) := by decide +kernel
theorem dX6_type_14 : decode cX6_type 14 = .ok (.dup, 1) := by decide +kernel
theorem dX6_type_15 : decode cX6_type 15 = .ok (.ldc 75, 2) := by decide +kernel
theorem dX6_type_17 : decode cX6_type 17 = .ok (.invokespecial 77, 3) := by decide +kernel
theorem dX6_type_20 : decode cX6_type 20 = .ok (.athrow, 1) := by decide +kernel
theorem dX6_type_21 : decode cX6_type 21 = .ok (.aload_n 0, 1) := by decide +kernel
theorem dX6_type_22 : decode cX6_type 22 = .ok (.getfield 14, 3) := by decide +kernel
theorem dX6_type_25 : decode cX6_type 25 = .ok (.invokevirtual 80, 3) := by decide +kernel
theorem dX6_type_28 : decode cX6_type 28 = .ok (.iload_n 3, 1) := by decide +kernel
theorem dX6_type_29 : decode cX6_type 29 = .ok (.iadd, 1) := by decide +kernel
theorem dX6_type_30 : decode cX6_type 30 = .ok (.bipush 40, 2) := by decide +kernel
theorem dX6_type_32 : decode cX6_type 32 = .ok (.if_icmp .le 13, 3) := by decide +kernel
theorem dX6_type_35 : decode cX6_type 35 = .ok (.new 73, 3) := by decide +kernel
theorem dX6_type_38 : decode cX6_type 38 = .ok (.dup, 1) := by decide +kernel
theorem dX6_type_39 : decode cX6_type 39 = .ok (.ldc 84, 2) := by decide +kernel
theorem dX6_type_41 : decode cX6_type 41 = .ok (.invokespecial 77, 3) := by decide +kernel
theorem dX6_type_44 : decode cX6_type 44 = .ok (.athrow, 1) := by decide +kernel
theorem dX6_type_45 : decode cX6_type 45 = .ok (.iconst 0, 1) := by decide +kernel
theorem dX6_type_46 : decode cX6_type 46 = .ok (.istore 4, 2) := by decide +kernel
theorem dX6_type_48 : decode cX6_type 48 = .ok (.iload 4, 2) := by decide +kernel
theorem dX6_type_50 : decode cX6_type 50 = .ok (.iload_n 3, 1) := by decide +kernel
theorem dX6_type_51 : decode cX6_type 51 = .ok (.if_icmp .ge 41, 3) := by decide +kernel
theorem dX6_type_54 : decode cX6_type 54 = .ok (.lload_n 1, 1) := by decide +kernel
theorem dX6_type_55 : decode cX6_type 55 = .ok (.iload 4, 2) := by decide +kernel
theorem dX6_type_57 : decode cX6_type 57 = .ok (.invokestatic 86, 3) := by decide +kernel
theorem dX6_type_60 : decode cX6_type 60 = .ok (.istore 5, 2) := by decide +kernel
theorem dX6_type_62 : decode cX6_type 62 = .ok (.iload 5, 2) := by decide +kernel
theorem dX6_type_64 : decode cX6_type 64 = .ok (.bipush 32, 2) := by decide +kernel
theorem dX6_type_66 : decode cX6_type 66 = .ok (.if_icmp .lt 10, 3) := by decide +kernel
theorem dX6_type_69 : decode cX6_type 69 = .ok (.iload 5, 2) := by decide +kernel
theorem dX6_type_71 : decode cX6_type 71 = .ok (.bipush 126, 2) := by decide +kernel
theorem dX6_type_73 : decode cX6_type 73 = .ok (.if_icmp .le 13, 3) := by decide +kernel
theorem dX6_type_76 : decode cX6_type 76 = .ok (.new 73, 3) := by decide +kernel
theorem dX6_type_79 : decode cX6_type 79 = .ok (.dup, 1) := by decide +kernel
theorem dX6_type_80 : decode cX6_type 80 = .ok (.ldc 90, 2) := by decide +kernel
theorem dX6_type_82 : decode cX6_type 82 = .ok (.invokespecial 77, 3) := by decide +kernel
theorem dX6_type_85 : decode cX6_type 85 = .ok (.athrow, 1) := by decide +kernel
theorem dX6_type_86 : decode cX6_type 86 = .ok (.iinc 4 1, 3) := by decide +kernel
theorem dX6_type_89 : decode cX6_type 89 = .ok (.goto (-41), 3) := by decide +kernel
theorem dX6_type_92 : decode cX6_type 92 = .ok (.iconst 0, 1) := by decide +kernel
theorem dX6_type_93 : decode cX6_type 93 = .ok (.istore 4, 2) := by decide +kernel
theorem dX6_type_95 : decode cX6_type 95 = .ok (.iload 4, 2) := by decide +kernel
theorem dX6_type_97 : decode cX6_type 97 = .ok (.iload_n 3, 1) := by decide +kernel
theorem dX6_type_98 : decode cX6_type 98 = .ok (.if_icmp .ge 24, 3) := by decide +kernel
theorem dX6_type_101 : decode cX6_type 101 = .ok (.aload_n 0, 1) := by decide +kernel
theorem dX6_type_102 : decode cX6_type 102 = .ok (.getfield 14, 3) := by decide +kernel
theorem dX6_type_105 : decode cX6_type 105 = .ok (.lload_n 1, 1) := by decide +kernel
theorem dX6_type_106 : decode cX6_type 106 = .ok (.iload 4, 2) := by decide +kernel
theorem dX6_type_108 : decode cX6_type 108 = .ok (.invokestatic 86, 3) := by decide +kernel
theorem dX6_type_111 : decode cX6_type 111 = .ok (.i2c, 1) := by decide +kernel
theorem dX6_type_112 : decode cX6_type 112 = .ok (.invokevirtual 92, 3) := by decide +kernel
theorem dX6_type_115 : decode cX6_type 115 = .ok (.pop, 1) := by decide +kernel
theorem dX6_type_116 : decode cX6_type 116 = .ok (.iinc 4 1, 3) := by decide +kernel
theorem dX6_type_119 : decode cX6_type 119 = .ok (.goto (-24), 3) := by decide +kernel
theorem dX6_type_122 : decode cX6_type 122 = .ok (.aload_n 0, 1) := by decide +kernel
theorem dX6_type_123 : decode cX6_type 123 = .ok (.getfield 14, 3) := by decide +kernel
theorem dX6_type_126 : decode cX6_type 126 = .ok (.invokevirtual 80, 3) := by decide +kernel
theorem dX6_type_129 : decode cX6_type 129 = .ok (.ireturn, 1) := by decide +kernel
theorem dX6_pattern_0 : decode cX6_pattern 0 = .ok (.iload_n 1, 1) := by decide +kernel
theorem dX6_pattern_1 : decode cX6_pattern 1 = .ok (.ifCond .lt 9, 3) := by decide +kernel
theorem dX6_pattern_4 : decode cX6_pattern 4 = .ok (.iload_n 1, 1) := by decide +kernel
theorem dX6_pattern_5 : decode cX6_pattern 5 = .ok (.bipush 7, 2) := by decide +kernel
theorem dX6_pattern_7 : decode cX6_pattern 7 = .ok (.if_icmp .le 13, 3) := by decide +kernel
theorem dX6_pattern_10 : decode cX6_pattern 10 = .ok (.new 73, 3) := by decide +kernel
theorem dX6_pattern_13 : decode cX6_pattern 13 = .ok (.dup, 1) := by decide +kernel
theorem dX6_pattern_14 : decode cX6_pattern 14 = .ok (.ldc 96, 2) := by decide +kernel
theorem dX6_pattern_16 : decode cX6_pattern 16 = .ok (.invokespecial 77, 3) := by decide +kernel
theorem dX6_pattern_19 : decode cX6_pattern 19 = .ok (.athrow, 1) := by decide +kernel
theorem dX6_pattern_20 : decode cX6_pattern 20 = .ok (.aload_n 0, 1) := by decide +kernel
theorem dX6_pattern_21 : decode cX6_pattern 21 = .ok (.getfield 18, 3) := by decide +kernel
theorem dX6_pattern_24 : decode cX6_pattern 24 = .ok (.aload_n 0, 1) := by decide +kernel
theorem dX6_pattern_25 : decode cX6_pattern 25 = .ok (.getfield 14, 3) := by decide +kernel
theorem dX6_pattern_28 : decode cX6_pattern 28 = .ok (.invokevirtual 98, 3) := by decide +kernel
theorem dX6_pattern_31 : decode cX6_pattern 31 = .ok (.aload_n 0, 1) := by decide +kernel
theorem dX6_pattern_32 : decode cX6_pattern 32 = .ok (.getfield 14, 3) := by decide +kernel
theorem dX6_pattern_35 : decode cX6_pattern 35 = .ok (.invokevirtual 102, 3) := by decide +kernel
theorem dX6_pattern_38 : decode cX6_pattern 38 = .ok (.aload_n 0, 1) := by decide +kernel
theorem dX6_pattern_39 : decode cX6_pattern 39 = .ok (.getfield 45, 3) := by decide +kernel
theorem dX6_pattern_42 : decode cX6_pattern 42 = .ok (.iload_n 1, 1) := by decide +kernel
theorem dX6_pattern_43 : decode cX6_pattern 43 = .ok (.aload_n 0, 1) := by decide +kernel
theorem dX6_pattern_44 : decode cX6_pattern 44 = .ok (.getfield 37, 3) := by decide +kernel
theorem dX6_pattern_47 : decode cX6_pattern 47 = .ok (.invokevirtual 105, 3) := by decide +kernel
theorem dX6_pattern_50 : decode cX6_pattern 50 = .ok (.aload_n 0, 1) := by decide +kernel
theorem dX6_pattern_51 : decode cX6_pattern 51 = .ok (.getfield 33, 3) := by decide +kernel
theorem dX6_pattern_54 : decode cX6_pattern 54 = .ok (.astore_n 2, 1) := by decide +kernel
theorem dX6_pattern_55 : decode cX6_pattern 55 = .ok (.aload_n 0, 1) := by decide +kernel
theorem dX6_pattern_56 : decode cX6_pattern 56 = .ok (.aload_n 0, 1) := by decide +kernel
theorem dX6_pattern_57 : decode cX6_pattern 57 = .ok (.getfield 37, 3) := by decide +kernel
theorem dX6_pattern_60 : decode cX6_pattern 60 = .ok (.putfield 33, 3) := by decide +kernel
theorem dX6_pattern_63 : decode cX6_pattern 63 = .ok (.aload_n 0, 1) := by decide +kernel
theorem dX6_pattern_64 : decode cX6_pattern 64 = .ok (.aload_n 2, 1) := by decide +kernel
theorem dX6_pattern_65 : decode cX6_pattern 65 = .ok (.putfield 37, 3) := by decide +kernel
theorem dX6_pattern_68 : decode cX6_pattern 68 = .ok (.aload_n 0, 1) := by decide +kernel
theorem dX6_pattern_69 : decode cX6_pattern 69 = .ok (.iconst 0, 1) := by decide +kernel
theorem dX6_pattern_70 : decode cX6_pattern 70 = .ok (.putfield 63, 3) := by decide +kernel
theorem dX6_pattern_73 : decode cX6_pattern 73 = .ok (.aload_n 0, 1) := by decide +kernel
theorem dX6_pattern_74 : decode cX6_pattern 74 = .ok (.invokevirtual 70, 3) := by decide +kernel
theorem dX6_pattern_77 : decode cX6_pattern 77 = .ok (.aload_n 0, 1) := by decide +kernel
theorem dX6_pattern_78 : decode cX6_pattern 78 = .ok (.getfield 33, 3) := by decide +kernel
theorem dX6_pattern_81 : decode cX6_pattern 81 = .ok (.invokevirtual 109, 3) := by decide +kernel
theorem dX6_pattern_84 : decode cX6_pattern 84 = .ok (.ireturn, 1) := by decide +kernel
theorem dX6_text_0 : decode cX6_text 0 = .ok (.aload_n 0, 1) := by decide +kernel
theorem dX6_text_1 : decode cX6_text 1 = .ok (.getfield 14, 3) := by decide +kernel
theorem dX6_text_4 : decode cX6_text 4 = .ok (.invokevirtual 80, 3) := by decide +kernel
theorem dX6_text_7 : decode cX6_text 7 = .ok (.bipush 24, 2) := by decide +kernel
theorem dX6_text_9 : decode cX6_text 9 = .ok (.if_icmp .le 13, 3) := by decide +kernel
theorem dX6_text_12 : decode cX6_text 12 = .ok (.new 112, 3) := by decide +kernel
theorem dX6_text_15 : decode cX6_text 15 = .ok (.dup, 1) := by decide +kernel
theorem dX6_text_16 : decode cX6_text 16 = .ok (.ldc 114, 2) := by decide +kernel
theorem dX6_text_18 : decode cX6_text 18 = .ok (.invokespecial 116, 3) := by decide +kernel
theorem dX6_text_21 : decode cX6_text 21 = .ok (.athrow, 1) := by decide +kernel
theorem dX6_text_22 : decode cX6_text 22 = .ok (.aload_n 0, 1) := by decide +kernel
theorem dX6_text_23 : decode cX6_text 23 = .ok (.getfield 21, 3) := by decide +kernel
theorem dX6_text_26 : decode cX6_text 26 = .ok (.aload_n 0, 1) := by decide +kernel
theorem dX6_text_27 : decode cX6_text 27 = .ok (.getfield 14, 3) := by decide +kernel
theorem dX6_text_30 : decode cX6_text 30 = .ok (.invokevirtual 98, 3) := by decide +kernel
theorem dX6_text_33 : decode cX6_text 33 = .ok (.aload_n 0, 1) := by decide +kernel
theorem dX6_text_34 : decode cX6_text 34 = .ok (.getfield 14, 3) := by decide +kernel
theorem dX6_text_37 : decode cX6_text 37 = .ok (.invokevirtual 102, 3) := by decide +kernel
theorem dX6_text_40 : decode cX6_text 40 = .ok (.aload_n 0, 1) := by decide +kernel
theorem dX6_text_41 : decode cX6_text 41 = .ok (.iconst 0, 1) := by decide +kernel
theorem dX6_text_42 : decode cX6_text 42 = .ok (.putfield 63, 3) := by decide +kernel
theorem dX6_text_45 : decode cX6_text 45 = .ok (.aload_n 0, 1) := by decide +kernel
theorem dX6_text_46 : decode cX6_text 46 = .ok (.invokevirtual 70, 3) := by decide +kernel
theorem dX6_text_49 : decode cX6_text 49 = .ok (.aload_n 0, 1) := by decide +kernel
theorem dX6_text_50 : decode cX6_text 50 = .ok (.getfield 21, 3) := by decide +kernel
theorem dX6_text_53 : decode cX6_text 53 = .ok (.invokevirtual 80, 3) := by decide +kernel
theorem dX6_text_56 : decode cX6_text 56 = .ok (.ireturn, 1) := by decide +kernel
theorem dX6_start_0 : decode cX6_start 0 = .ok (.iload_n 1, 1) := by decide +kernel
theorem dX6_start_1 : decode cX6_start 1 = .ok (.ifCond .lt 9, 3) := by decide +kernel
theorem dX6_start_4 : decode cX6_start 4 = .ok (.iload_n 1, 1) := by decide +kernel
theorem dX6_start_5 : decode cX6_start 5 = .ok (.bipush 24, 2) := by decide +kernel
theorem dX6_start_7 : decode cX6_start 7 = .ok (.if_icmp .le 13, 3) := by decide +kernel
theorem dX6_start_10 : decode cX6_start 10 = .ok (.new 73, 3) := by decide +kernel
theorem dX6_start_13 : decode cX6_start 13 = .ok (.dup, 1) := by decide +kernel
theorem dX6_start_14 : decode cX6_start 14 = .ok (.ldc 117, 2) := by decide +kernel
theorem dX6_start_16 : decode cX6_start 16 = .ok (.invokespecial 77, 3) := by decide +kernel
theorem dX6_start_19 : decode cX6_start 19 = .ok (.athrow, 1) := by decide +kernel
theorem dX6_start_20 : decode cX6_start 20 = .ok (.aload_n 0, 1) := by decide +kernel
theorem dX6_start_21 : decode cX6_start 21 = .ok (.iload_n 1, 1) := by decide +kernel
theorem dX6_start_22 : decode cX6_start 22 = .ok (.putfield 63, 3) := by decide +kernel
theorem dX6_start_25 : decode cX6_start 25 = .ok (.aload_n 0, 1) := by decide +kernel
theorem dX6_start_26 : decode cX6_start 26 = .ok (.getfield 63, 3) := by decide +kernel
theorem dX6_start_29 : decode cX6_start 29 = .ok (.ireturn, 1) := by decide +kernel
theorem dX6_find_0 : decode cX6_find 0 = .ok (.aload_n 0, 1) := by decide +kernel
theorem dX6_find_1 : decode cX6_find 1 = .ok (.getfield 52, 3) := by decide +kernel
theorem dX6_find_4 : decode cX6_find 4 = .ok (.aload_n 0, 1) := by decide +kernel
theorem dX6_find_5 : decode cX6_find 5 = .ok (.getfield 33, 3) := by decide +kernel
theorem dX6_find_8 : decode cX6_find 8 = .ok (.aload_n 0, 1) := by decide +kernel
theorem dX6_find_9 : decode cX6_find 9 = .ok (.getfield 63, 3) := by decide +kernel
theorem dX6_find_12 : decode cX6_find 12 = .ok (.invokevirtual 119, 3) := by decide +kernel
theorem dX6_find_15 : decode cX6_find 15 = .ok (.istore_n 1, 1) := by decide +kernel
theorem dX6_find_16 : decode cX6_find 16 = .ok (.aload_n 0, 1) := by decide +kernel
theorem dX6_find_17 : decode cX6_find 17 = .ok (.aload_n 0, 1) := by decide +kernel
theorem dX6_find_18 : decode cX6_find 18 = .ok (.getfield 52, 3) := by decide +kernel
theorem dX6_find_21 : decode cX6_find 21 = .ok (.invokevirtual 123, 3) := by decide +kernel
theorem dX6_find_24 : decode cX6_find 24 = .ok (.putfield 67, 3) := by decide +kernel
theorem dX6_find_27 : decode cX6_find 27 = .ok (.iload_n 1, 1) := by decide +kernel
theorem dX6_find_28 : decode cX6_find 28 = .ok (.iconst (-1), 1) := by decide +kernel
theorem dX6_find_29 : decode cX6_find 29 = .ok (.if_icmp .ne 14, 3) := by decide +kernel
theorem dX6_find_32 : decode cX6_find 32 = .ok (.aload_n 0, 1) := by decide +kernel
theorem dX6_find_33 : decode cX6_find 33 = .ok (.iconst 0, 1) := by decide +kernel
theorem dX6_find_34 : decode cX6_find 34 = .ok (.putfield 63, 3) := by decide +kernel
theorem dX6_find_37 : decode cX6_find 37 = .ok (.aload_n 0, 1) := by decide +kernel
theorem dX6_find_38 : decode cX6_find 38 = .ok (.invokevirtual 70, 3) := by decide +kernel
theorem dX6_find_41 : decode cX6_find 41 = .ok (.iconst (-1), 1) := by decide +kernel
theorem dX6_find_42 : decode cX6_find 42 = .ok (.ireturn, 1) := by decide +kernel
theorem dX6_find_43 : decode cX6_find 43 = .ok (.aload_n 0, 1) := by decide +kernel
theorem dX6_find_44 : decode cX6_find 44 = .ok (.aload_n 0, 1) := by decide +kernel
theorem dX6_find_45 : decode cX6_find 45 = .ok (.getfield 52, 3) := by decide +kernel
theorem dX6_find_48 : decode cX6_find 48 = .ok (.iconst 0, 1) := by decide +kernel
theorem dX6_find_49 : decode cX6_find 49 = .ok (.invokevirtual 125, 3) := by decide +kernel
theorem dX6_find_52 : decode cX6_find 52 = .ok (.putfield 63, 3) := by decide +kernel
theorem dX6_find_55 : decode cX6_find 55 = .ok (.iconst 0, 1) := by decide +kernel
theorem dX6_find_56 : decode cX6_find 56 = .ok (.istore_n 2, 1) := by decide +kernel
theorem dX6_find_57 : decode cX6_find 57 = .ok (.iload_n 2, 1) := by decide +kernel
theorem dX6_find_58 : decode cX6_find 58 = .ok (.aload_n 0, 1) := by decide +kernel
theorem dX6_find_59 : decode cX6_find 59 = .ok (.getfield 56, 3) := by decide +kernel
theorem dX6_find_62 : decode cX6_find 62 = .ok (.arraylength, 1) := by decide +kernel
theorem dX6_find_63 : decode cX6_find 63 = .ok (.if_icmp .ge 46, 3) := by decide +kernel
theorem dX6_find_66 : decode cX6_find 66 = .ok (.iload_n 2, 1) := by decide +kernel
theorem dX6_find_67 : decode cX6_find 67 = .ok (.aload_n 0, 1) := by decide +kernel
theorem dX6_find_68 : decode cX6_find 68 = .ok (.getfield 60, 3) := by decide +kernel
theorem dX6_find_71 : decode cX6_find 71 = .ok (.arraylength, 1) := by decide +kernel
theorem dX6_find_72 : decode cX6_find 72 = .ok (.if_icmp .ge 37, 3) := by decide +kernel
theorem dX6_find_75 : decode cX6_find 75 = .ok (.aload_n 0, 1) := by decide +kernel
theorem dX6_find_76 : decode cX6_find 76 = .ok (.getfield 56, 3) := by decide +kernel
theorem dX6_find_79 : decode cX6_find 79 = .ok (.iload_n 2, 1) := by decide +kernel
theorem dX6_find_80 : decode cX6_find 80 = .ok (.aload_n 0, 1) := by decide +kernel
theorem dX6_find_81 : decode cX6_find 81 = .ok (.getfield 52, 3) := by decide +kernel
theorem dX6_find_84 : decode cX6_find 84 = .ok (.iload_n 2, 1) := by decide +kernel
theorem dX6_find_85 : decode cX6_find 85 = .ok (.invokevirtual 129, 3) := by decide +kernel
theorem dX6_find_88 : decode cX6_find 88 = .ok (.iastore, 1) := by decide +kernel
theorem dX6_find_89 : decode cX6_find 89 = .ok (.aload_n 0, 1) := by decide +kernel
theorem dX6_find_90 : decode cX6_find 90 = .ok (.getfield 60, 3) := by decide +kernel
theorem dX6_find_93 : decode cX6_find 93 = .ok (.iload_n 2, 1) := by decide +kernel
theorem dX6_find_94 : decode cX6_find 94 = .ok (.aload_n 0, 1) := by decide +kernel
theorem dX6_find_95 : decode cX6_find 95 = .ok (.getfield 52, 3) := by decide +kernel
theorem dX6_find_98 : decode cX6_find 98 = .ok (.iload_n 2, 1) := by decide +kernel
theorem dX6_find_99 : decode cX6_find 99 = .ok (.invokevirtual 125, 3) := by decide +kernel
theorem dX6_find_102 : decode cX6_find 102 = .ok (.iastore, 1) := by decide +kernel
theorem dX6_find_103 : decode cX6_find 103 = .ok (.iinc 2 1, 3) := by decide +kernel
theorem dX6_find_106 : decode cX6_find 106 = .ok (.goto (-49), 3) := by decide +kernel
theorem dX6_find_109 : decode cX6_find 109 = .ok (.iload_n 1, 1) := by decide +kernel
theorem dX6_find_110 : decode cX6_find 110 = .ok (.ireturn, 1) := by decide +kernel
theorem dX6_from_0 : decode cX6_from 0 = .ok (.iload_n 1, 1) := by decide +kernel
theorem dX6_from_1 : decode cX6_from 1 = .ok (.ifCond .lt 21, 3) := by decide +kernel
theorem dX6_from_4 : decode cX6_from 4 = .ok (.iload_n 1, 1) := by decide +kernel
theorem dX6_from_5 : decode cX6_from 5 = .ok (.aload_n 0, 1) := by decide +kernel
theorem dX6_from_6 : decode cX6_from 6 = .ok (.getfield 56, 3) := by decide +kernel
theorem dX6_from_9 : decode cX6_from 9 = .ok (.arraylength, 1) := by decide +kernel
theorem dX6_from_10 : decode cX6_from 10 = .ok (.if_icmp .ge 12, 3) := by decide +kernel
theorem dX6_from_13 : decode cX6_from 13 = .ok (.aload_n 0, 1) := by decide +kernel
theorem dX6_from_14 : decode cX6_from 14 = .ok (.getfield 56, 3) := by decide +kernel
theorem dX6_from_17 : decode cX6_from 17 = .ok (.iload_n 1, 1) := by decide +kernel
theorem dX6_from_18 : decode cX6_from 18 = .ok (.iaload, 1) := by decide +kernel
theorem dX6_from_19 : decode cX6_from 19 = .ok (.goto 4, 3) := by decide +kernel
theorem dX6_from_22 : decode cX6_from 22 = .ok (.iconst (-1), 1) := by decide +kernel
theorem dX6_from_23 : decode cX6_from 23 = .ok (.ireturn, 1) := by decide +kernel
theorem dX6_to_0 : decode cX6_to 0 = .ok (.iload_n 1, 1) := by decide +kernel
theorem dX6_to_1 : decode cX6_to 1 = .ok (.ifCond .lt 21, 3) := by decide +kernel
theorem dX6_to_4 : decode cX6_to 4 = .ok (.iload_n 1, 1) := by decide +kernel
theorem dX6_to_5 : decode cX6_to 5 = .ok (.aload_n 0, 1) := by decide +kernel
theorem dX6_to_6 : decode cX6_to 6 = .ok (.getfield 60, 3) := by decide +kernel
theorem dX6_to_9 : decode cX6_to 9 = .ok (.arraylength, 1) := by decide +kernel
theorem dX6_to_10 : decode cX6_to 10 = .ok (.if_icmp .ge 12, 3) := by decide +kernel
theorem dX6_to_13 : decode cX6_to 13 = .ok (.aload_n 0, 1) := by decide +kernel
theorem dX6_to_14 : decode cX6_to 14 = .ok (.getfield 60, 3) := by decide +kernel
theorem dX6_to_17 : decode cX6_to 17 = .ok (.iload_n 1, 1) := by decide +kernel
theorem dX6_to_18 : decode cX6_to 18 = .ok (.iaload, 1) := by decide +kernel
theorem dX6_to_19 : decode cX6_to 19 = .ok (.goto 4, 3) := by decide +kernel
theorem dX6_to_22 : decode cX6_to 22 = .ok (.iconst (-1), 1) := by decide +kernel
theorem dX6_to_23 : decode cX6_to 23 = .ok (.ireturn, 1) := by decide +kernel
theorem dX6_steps_0 : decode cX6_steps 0 = .ok (.aload_n 0, 1) := by decide +kernel
theorem dX6_steps_1 : decode cX6_steps 1 = .ok (.getfield 67, 3) := by decide +kernel
theorem dX6_steps_4 : decode cX6_steps 4 = .ok (.ireturn, 1) := by decide +kernel
theorem dX6_replace_0 : decode cX6_replace 0 = .ok (.aload_n 0, 1) := by decide +kernel
theorem dX6_replace_1 : decode cX6_replace 1 = .ok (.getfield 27, 3) := by decide +kernel
theorem dX6_replace_4 : decode cX6_replace 4 = .ok (.invokevirtual 102, 3) := by decide +kernel
theorem dX6_replace_7 : decode cX6_replace 7 = .ok (.iconst 0, 1) := by decide +kernel
theorem dX6_replace_8 : decode cX6_replace 8 = .ok (.istore_n 1, 1) := by decide +kernel
theorem dX6_replace_9 : decode cX6_replace 9 = .ok (.iconst 0, 1) := by decide +kernel
theorem dX6_replace_10 : decode cX6_replace 10 = .ok (.istore_n 2, 1) := by decide +kernel
theorem dX6_replace_11 : decode cX6_replace 11 = .ok (.iconst 0, 1) := by decide +kernel
theorem dX6_replace_12 : decode cX6_replace 12 = .ok (.istore_n 3, 1) := by decide +kernel
theorem dX6_replace_13 : decode cX6_replace 13 = .ok (.iconst 0, 1) := by decide +kernel
theorem dX6_replace_14 : decode cX6_replace 14 = .ok (.istore 4, 2) := by decide +kernel
theorem dX6_replace_16 : decode cX6_replace 16 = .ok (.iload 4, 2) := by decide +kernel
theorem dX6_replace_18 : decode cX6_replace 18 = .ok (.bipush 24, 2) := by decide +kernel
theorem dX6_replace_20 : decode cX6_replace 20 = .ok (.if_icmp .gt 76, 3) := by decide +kernel
theorem dX6_replace_23 : decode cX6_replace 23 = .ok (.aload_n 0, 1) := by decide +kernel
theorem dX6_replace_24 : decode cX6_replace 24 = .ok (.getfield 52, 3) := by decide +kernel
theorem dX6_replace_27 : decode cX6_replace 27 = .ok (.aload_n 0, 1) := by decide +kernel
theorem dX6_replace_28 : decode cX6_replace 28 = .ok (.getfield 33, 3) := by decide +kernel
theorem dX6_replace_31 : decode cX6_replace 31 = .ok (.iload_n 2, 1) := by decide +kernel
theorem dX6_replace_32 : decode cX6_replace 32 = .ok (.invokevirtual 119, 3) := by decide +kernel
theorem dX6_replace_35 : decode cX6_replace 35 = .ok (.istore 5, 2) := by decide +kernel
theorem dX6_replace_37 : decode cX6_replace 37 = .ok (.iload 5, 2) := by decide +kernel
theorem dX6_replace_39 : decode cX6_replace 39 = .ok (.iconst (-1), 1) := by decide +kernel
theorem dX6_replace_40 : decode cX6_replace 40 = .ok (.if_icmp .ne 6, 3) := by decide +kernel
theorem dX6_replace_43 : decode cX6_replace 43 = .ok (.goto 53, 3) := by decide +kernel
theorem dX6_replace_46 : decode cX6_replace 46 = .ok (.aload_n 0, 1) := by decide +kernel
theorem dX6_replace_47 : decode cX6_replace 47 = .ok (.getfield 52, 3) := by decide +kernel
theorem dX6_replace_50 : decode cX6_replace 50 = .ok (.iconst 0, 1) := by decide +kernel
theorem dX6_replace_51 : decode cX6_replace 51 = .ok (.invokevirtual 125, 3) := by decide +kernel
theorem dX6_replace_54 : decode cX6_replace 54 = .ok (.istore 6, 2) := by decide +kernel
theorem dX6_replace_56 : decode cX6_replace 56 = .ok (.aload_n 0, 1) := by decide +kernel
theorem dX6_replace_57 : decode cX6_replace 57 = .ok (.iload_n 3, 1) := by decide +kernel
theorem dX6_replace_58 : decode cX6_replace 58 = .ok (.iload 5, 2) := by decide +kernel
theorem dX6_replace_60 : decode cX6_replace 60 = .ok (.invokevirtual 132, 3) := by decide +kernel
theorem dX6_replace_63 : decode cX6_replace 63 = .ok (.aload_n 0, 1) := by decide +kernel
theorem dX6_replace_64 : decode cX6_replace 64 = .ok (.invokevirtual 136, 3) := by decide +kernel
theorem dX6_replace_67 : decode cX6_replace 67 = .ok (.iload 6, 2) := by decide +kernel
theorem dX6_replace_69 : decode cX6_replace 69 = .ok (.istore_n 3, 1) := by decide +kernel
theorem dX6_replace_70 : decode cX6_replace 70 = .ok (.iload 6, 2) := by decide +kernel
theorem dX6_replace_72 : decode cX6_replace 72 = .ok (.iload 5, 2) := by decide +kernel
theorem dX6_replace_74 : decode cX6_replace 74 = .ok (.if_icmp .le 8, 3) := by decide +kernel
theorem dX6_replace_77 : decode cX6_replace 77 = .ok (.iload 6, 2) := by decide +kernel
theorem dX6_replace_79 : decode cX6_replace 79 = .ok (.goto 7, 3) := by decide +kernel
theorem dX6_replace_82 : decode cX6_replace 82 = .ok (.iload 6, 2) := by decide +kernel
theorem dX6_replace_84 : decode cX6_replace 84 = .ok (.iconst 1, 1) := by decide +kernel
theorem dX6_replace_85 : decode cX6_replace 85 = .ok (.iadd, 1) := by decide +kernel
theorem dX6_replace_86 : decode cX6_replace 86 = .ok (.istore_n 2, 1) := by decide +kernel
theorem dX6_replace_87 : decode cX6_replace 87 = .ok (.iinc 1 1, 3) := by decide +kernel
theorem dX6_replace_90 : decode cX6_replace 90 = .ok (.iinc 4 1, 3) := by decide +kernel
theorem dX6_replace_93 : decode cX6_replace 93 = .ok (.goto (-77), 3) := by decide +kernel
theorem dX6_replace_96 : decode cX6_replace 96 = .ok (.aload_n 0, 1) := by decide +kernel
theorem dX6_replace_97 : decode cX6_replace 97 = .ok (.iload_n 3, 1) := by decide +kernel
theorem dX6_replace_98 : decode cX6_replace 98 = .ok (.aload_n 0, 1) := by decide +kernel
theorem dX6_replace_99 : decode cX6_replace 99 = .ok (.getfield 21, 3) := by decide +kernel
theorem dX6_replace_102 : decode cX6_replace 102 = .ok (.invokevirtual 80, 3) := by decide +kernel
theorem dX6_replace_105 : decode cX6_replace 105 = .ok (.invokevirtual 132, 3) := by decide +kernel
theorem dX6_replace_108 : decode cX6_replace 108 = .ok (.aload_n 0, 1) := by decide +kernel
theorem dX6_replace_109 : decode cX6_replace 109 = .ok (.getfield 24, 3) := by decide +kernel
theorem dX6_replace_112 : decode cX6_replace 112 = .ok (.astore 4, 2) := by decide +kernel
theorem dX6_replace_114 : decode cX6_replace 114 = .ok (.aload_n 0, 1) := by decide +kernel
theorem dX6_replace_115 : decode cX6_replace 115 = .ok (.aload_n 0, 1) := by decide +kernel
theorem dX6_replace_116 : decode cX6_replace 116 = .ok (.getfield 27, 3) := by decide +kernel
theorem dX6_replace_119 : decode cX6_replace 119 = .ok (.putfield 24, 3) := by decide +kernel
theorem dX6_replace_122 : decode cX6_replace 122 = .ok (.aload_n 0, 1) := by decide +kernel
theorem dX6_replace_123 : decode cX6_replace 123 = .ok (.aload 4, 2) := by decide +kernel
theorem dX6_replace_125 : decode cX6_replace 125 = .ok (.putfield 27, 3) := by decide +kernel
theorem dX6_replace_128 : decode cX6_replace 128 = .ok (.aload_n 0, 1) := by decide +kernel
theorem dX6_replace_129 : decode cX6_replace 129 = .ok (.getfield 14, 3) := by decide +kernel
theorem dX6_replace_132 : decode cX6_replace 132 = .ok (.invokevirtual 102, 3) := by decide +kernel
theorem dX6_replace_135 : decode cX6_replace 135 = .ok (.aload_n 0, 1) := by decide +kernel
theorem dX6_replace_136 : decode cX6_replace 136 = .ok (.iconst 0, 1) := by decide +kernel
theorem dX6_replace_137 : decode cX6_replace 137 = .ok (.putfield 63, 3) := by decide +kernel
theorem dX6_replace_140 : decode cX6_replace 140 = .ok (.aload_n 0, 1) := by decide +kernel
theorem dX6_replace_141 : decode cX6_replace 141 = .ok (.invokevirtual 70, 3) := by decide +kernel
theorem dX6_replace_144 : decode cX6_replace 144 = .ok (.iload_n 1, 1) := by decide +kernel
theorem dX6_replace_145 : decode cX6_replace 145 = .ok (.ireturn, 1) := by decide +kernel
theorem dX6_result_0 : decode cX6_result 0 = .ok (.iload_n 1, 1) := by decide +kernel
theorem dX6_result_1 : decode cX6_result 1 = .ok (.ifCond .lt 14, 3) := by decide +kernel
theorem dX6_result_4 : decode cX6_result 4 = .ok (.iload_n 1, 1) := by decide +kernel
theorem dX6_result_5 : decode cX6_result 5 = .ok (.aload_n 0, 1) := by decide +kernel
theorem dX6_result_6 : decode cX6_result 6 = .ok (.getfield 24, 3) := by decide +kernel
theorem dX6_result_9 : decode cX6_result 9 = .ok (.invokevirtual 80, 3) := by decide +kernel
theorem dX6_result_12 : decode cX6_result 12 = .ok (.if_icmp .lt 13, 3) := by decide +kernel
theorem dX6_result_15 : decode cX6_result 15 = .ok (.new 139, 3) := by decide +kernel
theorem dX6_result_18 : decode cX6_result 18 = .ok (.dup, 1) := by decide +kernel
theorem dX6_result_19 : decode cX6_result 19 = .ok (.ldc 141, 2) := by decide +kernel
theorem dX6_result_21 : decode cX6_result 21 = .ok (.invokespecial 143, 3) := by decide +kernel
theorem dX6_result_24 : decode cX6_result 24 = .ok (.athrow, 1) := by decide +kernel
theorem dX6_result_25 : decode cX6_result 25 = .ok (.aload_n 0, 1) := by decide +kernel
theorem dX6_result_26 : decode cX6_result 26 = .ok (.getfield 24, 3) := by decide +kernel
theorem dX6_result_29 : decode cX6_result 29 = .ok (.iload_n 1, 1) := by decide +kernel
theorem dX6_result_30 : decode cX6_result 30 = .ok (.invokevirtual 144, 3) := by decide +kernel
theorem dX6_result_33 : decode cX6_result 33 = .ok (.ireturn, 1) := by decide +kernel
theorem dX6_byteOf_0 : decode cX6_byteOf 0 = .ok (.lload_n 0, 1) := by decide +kernel
theorem dX6_byteOf_1 : decode cX6_byteOf 1 = .ok (.bipush 8, 2) := by decide +kernel
theorem dX6_byteOf_3 : decode cX6_byteOf 3 = .ok (.iload_n 2, 1) := by decide +kernel
theorem dX6_byteOf_4 : decode cX6_byteOf 4 = .ok (.imul, 1) := by decide +kernel
theorem dX6_byteOf_5 : decode cX6_byteOf 5 = .ok (.lushr, 1) := by decide +kernel
theorem dX6_byteOf_6 : decode cX6_byteOf 6 = .ok (.l2i, 1) := by decide +kernel
theorem dX6_byteOf_7 : decode cX6_byteOf 7 = .ok (.sipush 255, 3) := by decide +kernel
theorem dX6_byteOf_10 : decode cX6_byteOf 10 = .ok (.iand, 1) := by decide +kernel
theorem dX6_byteOf_11 : decode cX6_byteOf 11 = .ok (.ireturn, 1) := by decide +kernel
theorem dX6_forgetFound_0 : decode cX6_forgetFound 0 = .ok (.aload_n 0, 1) := by decide +kernel
theorem dX6_forgetFound_1 : decode cX6_forgetFound 1 = .ok (.getfield 56, 3) := by decide +kernel
theorem dX6_forgetFound_4 : decode cX6_forgetFound 4 = .ok (.iconst (-1), 1) := by decide +kernel
theorem dX6_forgetFound_5 : decode cX6_forgetFound 5 = .ok (.invokestatic 148, 3) := by decide +kernel
theorem dX6_forgetFound_8 : decode cX6_forgetFound 8 = .ok (.aload_n 0, 1) := by decide +kernel
theorem dX6_forgetFound_9 : decode cX6_forgetFound 9 = .ok (.getfield 60, 3) := by decide +kernel
theorem dX6_forgetFound_12 : decode cX6_forgetFound 12 = .ok (.iconst (-1), 1) := by decide +kernel
theorem dX6_forgetFound_13 : decode cX6_forgetFound 13 = .ok (.invokestatic 148, 3) := by decide +kernel
theorem dX6_forgetFound_16 : decode cX6_forgetFound 16 = .ok (.return_, 1) := by decide +kernel
theorem dX6_writeTemplate_0 : decode cX6_writeTemplate 0 = .ok (.iconst 0, 1) := by decide +kernel
theorem dX6_writeTemplate_1 : decode cX6_writeTemplate 1 = .ok (.istore_n 1, 1) := by decide +kernel
theorem dX6_writeTemplate_2 : decode cX6_writeTemplate 2 = .ok (.iconst 0, 1) := by decide +kernel
theorem dX6_writeTemplate_3 : decode cX6_writeTemplate 3 = .ok (.istore_n 2, 1) := by decide +kernel
theorem dX6_writeTemplate_4 : decode cX6_writeTemplate 4 = .ok (.iload_n 2, 1) := by decide +kernel
theorem dX6_writeTemplate_5 : decode cX6_writeTemplate 5 = .ok (.bipush 40, 2) := by decide +kernel
theorem dX6_writeTemplate_7 : decode cX6_writeTemplate 7 = .ok (.if_icmp .ge 28, 3) := by decide +kernel
theorem dX6_writeTemplate_10 : decode cX6_writeTemplate 10 = .ok (.iload_n 1, 1) := by decide +kernel
theorem dX6_writeTemplate_11 : decode cX6_writeTemplate 11 = .ok (.aload_n 0, 1) := by decide +kernel
theorem dX6_writeTemplate_12 : decode cX6_writeTemplate 12 = .ok (.getfield 14, 3) := by decide +kernel
theorem dX6_writeTemplate_15 : decode cX6_writeTemplate 15 = .ok (.invokevirtual 80, 3) := by decide +kernel
theorem dX6_writeTemplate_18 : decode cX6_writeTemplate 18 = .ok (.if_icmp .ge 17, 3) := by decide +kernel
theorem dX6_writeTemplate_21 : decode cX6_writeTemplate 21 = .ok (.iload_n 1, 1) := by decide +kernel
theorem dX6_writeTemplate_22 : decode cX6_writeTemplate 22 = .ok (.aload_n 0, 1) := by decide +kernel
theorem dX6_writeTemplate_23 : decode cX6_writeTemplate 23 = .ok (.iload_n 1, 1) := by decide +kernel
theorem dX6_writeTemplate_24 : decode cX6_writeTemplate 24 = .ok (.invokevirtual 154, 3) := by decide +kernel
theorem dX6_writeTemplate_27 : decode cX6_writeTemplate 27 = .ok (.iadd, 1) := by decide +kernel
theorem dX6_writeTemplate_28 : decode cX6_writeTemplate 28 = .ok (.istore_n 1, 1) := by decide +kernel
theorem dX6_writeTemplate_29 : decode cX6_writeTemplate 29 = .ok (.iinc 2 1, 3) := by decide +kernel
theorem dX6_writeTemplate_32 : decode cX6_writeTemplate 32 = .ok (.goto (-28), 3) := by decide +kernel
theorem dX6_writeTemplate_35 : decode cX6_writeTemplate 35 = .ok (.return_, 1) := by decide +kernel
theorem dX6_writePart_0 : decode cX6_writePart 0 = .ok (.aload_n 0, 1) := by decide +kernel
theorem dX6_writePart_1 : decode cX6_writePart 1 = .ok (.getfield 14, 3) := by decide +kernel
theorem dX6_writePart_4 : decode cX6_writePart 4 = .ok (.iload_n 1, 1) := by decide +kernel
theorem dX6_writePart_5 : decode cX6_writePart 5 = .ok (.invokevirtual 144, 3) := by decide +kernel
theorem dX6_writePart_8 : decode cX6_writePart 8 = .ok (.istore_n 2, 1) := by decide +kernel
theorem dX6_writePart_9 : decode cX6_writePart 9 = .ok (.aload_n 0, 1) := by decide +kernel
theorem dX6_writePart_10 : decode cX6_writePart 10 = .ok (.getfield 14, 3) := by decide +kernel
theorem dX6_writePart_13 : decode cX6_writePart 13 = .ok (.iload_n 1, 1) := by decide +kernel
theorem dX6_writePart_14 : decode cX6_writePart 14 = .ok (.iconst 1, 1) := by decide +kernel
theorem dX6_writePart_15 : decode cX6_writePart 15 = .ok (.iadd, 1) := by decide +kernel
theorem dX6_writePart_16 : decode cX6_writePart 16 = .ok (.invokevirtual 144, 3) := by decide +kernel
theorem dX6_writePart_19 : decode cX6_writePart 19 = .ok (.istore_n 3, 1) := by decide +kernel
theorem dX6_writePart_20 : decode cX6_writePart 20 = .ok (.iload_n 3, 1) := by decide +kernel
theorem dX6_writePart_21 : decode cX6_writePart 21 = .ok (.bipush 48, 2) := by decide +kernel
theorem dX6_writePart_23 : decode cX6_writePart 23 = .ok (.isub, 1) := by decide +kernel
theorem dX6_writePart_24 : decode cX6_writePart 24 = .ok (.istore 4, 2) := by decide +kernel
theorem dX6_writePart_26 : decode cX6_writePart 26 = .ok (.iload_n 2, 1) := by decide +kernel
theorem dX6_writePart_27 : decode cX6_writePart 27 = .ok (.bipush 36, 2) := by decide +kernel
theorem dX6_writePart_29 : decode cX6_writePart 29 = .ok (.if_icmp .eq 10, 3) := by decide +kernel
theorem dX6_writePart_32 : decode cX6_writePart 32 = .ok (.aload_n 0, 1) := by decide +kernel
theorem dX6_writePart_33 : decode cX6_writePart 33 = .ok (.iload_n 2, 1) := by decide +kernel
theorem dX6_writePart_34 : decode cX6_writePart 34 = .ok (.invokevirtual 157, 3) := by decide +kernel
theorem dX6_writePart_37 : decode cX6_writePart 37 = .ok (.iconst 1, 1) := by decide +kernel
theorem dX6_writePart_38 : decode cX6_writePart 38 = .ok (.ireturn, 1) := by decide +kernel
theorem dX6_writePart_39 : decode cX6_writePart 39 = .ok (.iload_n 3, 1) := by decide +kernel
theorem dX6_writePart_40 : decode cX6_writePart 40 = .ok (.bipush 36, 2) := by decide +kernel
theorem dX6_writePart_42 : decode cX6_writePart 42 = .ok (.if_icmp .ne 11, 3) := by decide +kernel
theorem dX6_writePart_45 : decode cX6_writePart 45 = .ok (.aload_n 0, 1) := by decide +kernel
theorem dX6_writePart_46 : decode cX6_writePart 46 = .ok (.bipush 36, 2) := by decide +kernel
theorem dX6_writePart_48 : decode cX6_writePart 48 = .ok (.invokevirtual 157, 3) := by decide +kernel
theorem dX6_writePart_51 : decode cX6_writePart 51 = .ok (.iconst 2, 1) := by decide +kernel
theorem dX6_writePart_52 : decode cX6_writePart 52 = .ok (.ireturn, 1) := by decide +kernel
theorem dX6_writePart_53 : decode cX6_writePart 53 = .ok (.iload_n 3, 1) := by decide +kernel
theorem dX6_writePart_54 : decode cX6_writePart 54 = .ok (.bipush 38, 2) := by decide +kernel
theorem dX6_writePart_56 : decode cX6_writePart 56 = .ok (.if_icmp .ne 25, 3) := by decide +kernel
theorem dX6_writePart_59 : decode cX6_writePart 59 = .ok (.aload_n 0, 1) := by decide +kernel
theorem dX6_writePart_60 : decode cX6_writePart 60 = .ok (.aload_n 0, 1) := by decide +kernel
theorem dX6_writePart_61 : decode cX6_writePart 61 = .ok (.getfield 52, 3) := by decide +kernel
theorem dX6_writePart_64 : decode cX6_writePart 64 = .ok (.iconst 0, 1) := by decide +kernel
theorem dX6_writePart_65 : decode cX6_writePart 65 = .ok (.invokevirtual 129, 3) := by decide +kernel
theorem dX6_writePart_68 : decode cX6_writePart 68 = .ok (.aload_n 0, 1) := by decide +kernel
theorem dX6_writePart_69 : decode cX6_writePart 69 = .ok (.getfield 52, 3) := by decide +kernel
theorem dX6_writePart_72 : decode cX6_writePart 72 = .ok (.iconst 0, 1) := by decide +kernel
theorem dX6_writePart_73 : decode cX6_writePart 73 = .ok (.invokevirtual 125, 3) := by decide +kernel
theorem dX6_writePart_76 : decode cX6_writePart 76 = .ok (.invokevirtual 132, 3) := by decide +kernel
theorem dX6_writePart_79 : decode cX6_writePart 79 = .ok (.iconst 2, 1) := by decide +kernel
theorem dX6_writePart_80 : decode cX6_writePart 80 = .ok (.ireturn, 1) := by decide +kernel
theorem dX6_writePart_81 : decode cX6_writePart 81 = .ok (.iload 4, 2) := by decide +kernel
theorem dX6_writePart_83 : decode cX6_writePart 83 = .ok (.iconst 1, 1) := by decide +kernel
theorem dX6_writePart_84 : decode cX6_writePart 84 = .ok (.if_icmp .lt 39, 3) := by decide +kernel
theorem dX6_writePart_87 : decode cX6_writePart 87 = .ok (.iload 4, 2) := by decide +kernel
theorem dX6_writePart_89 : decode cX6_writePart 89 = .ok (.aload_n 0, 1) := by decide +kernel
theorem dX6_writePart_90 : decode cX6_writePart 90 = .ok (.getfield 33, 3) := by decide +kernel
theorem dX6_writePart_93 : decode cX6_writePart 93 = .ok (.invokevirtual 109, 3) := by decide +kernel
theorem dX6_writePart_96 : decode cX6_writePart 96 = .ok (.if_icmp .gt 27, 3) := by decide +kernel
theorem dX6_writePart_99 : decode cX6_writePart 99 = .ok (.aload_n 0, 1) := by decide +kernel
theorem dX6_writePart_100 : decode cX6_writePart 100 = .ok (.aload_n 0, 1) := by decide +kernel
theorem dX6_writePart_101 : decode cX6_writePart 101 = .ok (.getfield 52, 3) := by decide +kernel
theorem dX6_writePart_104 : decode cX6_writePart 104 = .ok (.iload 4, 2) := by decide +kernel
theorem dX6_writePart_106 : decode cX6_writePart 106 = .ok (.invokevirtual 129, 3) := by decide +kernel
theorem dX6_writePart_109 : decode cX6_writePart 109 = .ok (.aload_n 0, 1) := by decide +kernel
theorem dX6_writePart_110 : decode cX6_writePart 110 = .ok (.getfield 52, 3) := by decide +kernel
theorem dX6_writePart_113 : decode cX6_writePart 113 = .ok (.iload 4, 2) := by decide +kernel
theorem dX6_writePart_115 : decode cX6_writePart 115 = .ok (.invokevirtual 125, 3) := by decide +kernel
theorem dX6_writePart_118 : decode cX6_writePart 118 = .ok (.invokevirtual 132, 3) := by decide +kernel
theorem dX6_writePart_121 : decode cX6_writePart 121 = .ok (.iconst 2, 1) := by decide +kernel
theorem dX6_writePart_122 : decode cX6_writePart 122 = .ok (.ireturn, 1) := by decide +kernel
theorem dX6_writePart_123 : decode cX6_writePart 123 = .ok (.aload_n 0, 1) := by decide +kernel
theorem dX6_writePart_124 : decode cX6_writePart 124 = .ok (.bipush 36, 2) := by decide +kernel
theorem dX6_writePart_126 : decode cX6_writePart 126 = .ok (.invokevirtual 157, 3) := by decide +kernel
theorem dX6_writePart_129 : decode cX6_writePart 129 = .ok (.iconst 1, 1) := by decide +kernel
theorem dX6_writePart_130 : decode cX6_writePart 130 = .ok (.ireturn, 1) := by decide +kernel
theorem dX6_writeText_0 : decode cX6_writeText 0 = .ok (.iload_n 1, 1) := by decide +kernel
theorem dX6_writeText_1 : decode cX6_writeText 1 = .ok (.istore_n 3, 1) := by decide +kernel
theorem dX6_writeText_2 : decode cX6_writeText 2 = .ok (.iload_n 3, 1) := by decide +kernel
theorem dX6_writeText_3 : decode cX6_writeText 3 = .ok (.iload_n 2, 1) := by decide +kernel
theorem dX6_writeText_4 : decode cX6_writeText 4 = .ok (.if_icmp .ge 21, 3) := by decide +kernel
theorem dX6_writeText_7 : decode cX6_writeText 7 = .ok (.aload_n 0, 1) := by decide +kernel
theorem dX6_writeText_8 : decode cX6_writeText 8 = .ok (.aload_n 0, 1) := by decide +kernel
theorem dX6_writeText_9 : decode cX6_writeText 9 = .ok (.getfield 21, 3) := by decide +kernel
theorem dX6_writeText_12 : decode cX6_writeText 12 = .ok (.iload_n 3, 1) := by decide +kernel
theorem dX6_writeText_13 : decode cX6_writeText 13 = .ok (.invokevirtual 144, 3) := by decide +kernel
theorem dX6_writeText_16 : decode cX6_writeText 16 = .ok (.invokevirtual 157, 3) := by decide +kernel
theorem dX6_writeText_19 : decode cX6_writeText 19 = .ok (.iinc 3 1, 3) := by decide +kernel
theorem dX6_writeText_22 : decode cX6_writeText 22 = .ok (.goto (-20), 3) := by decide +kernel
theorem dX6_writeText_25 : decode cX6_writeText 25 = .ok (.return_, 1) := by decide +kernel
theorem dX6_write_0 : decode cX6_write 0 = .ok (.aload_n 0, 1) := by decide +kernel
theorem dX6_write_1 : decode cX6_write 1 = .ok (.getfield 27, 3) := by decide +kernel
theorem dX6_write_4 : decode cX6_write 4 = .ok (.iload_n 1, 1) := by decide +kernel
theorem dX6_write_5 : decode cX6_write 5 = .ok (.invokevirtual 92, 3) := by decide +kernel
theorem dX6_write_8 : decode cX6_write 8 = .ok (.ifCond .ne 13, 3) := by decide +kernel
theorem dX6_write_11 : decode cX6_write 11 = .ok (.new 161, 3) := by decide +kernel
theorem dX6_write_14 : decode cX6_write 14 = .ok (.dup, 1) := by decide +kernel
theorem dX6_write_15 : decode cX6_write 15 = .ok (.ldc 163, 2) := by decide +kernel
theorem dX6_write_17 : decode cX6_write 17 = .ok (.invokespecial 165, 3) := by decide +kernel
theorem dX6_write_20 : decode cX6_write 20 = .ok (.athrow, 1) := by decide +kernel
theorem dX6_write_21 : decode cX6_write 21 = .ok (.return_, 1) := by decide +kernel
