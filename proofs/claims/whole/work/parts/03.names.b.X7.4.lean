theorem dX7_from_18 : decode cX7_from 18 = .ok (.iaload, 1) := by decide +kernel
theorem dX7_from_19 : decode cX7_from 19 = .ok (.goto 4, 3) := by decide +kernel
theorem dX7_from_22 : decode cX7_from 22 = .ok (.iconst (-1), 1) := by decide +kernel
theorem dX7_from_23 : decode cX7_from 23 = .ok (.ireturn, 1) := by decide +kernel
theorem dX7_to_0 : decode cX7_to 0 = .ok (.aload_n 0, 1) := by decide +kernel
theorem dX7_to_1 : decode cX7_to 1 = .ok (.iconst 0, 1) := by decide +kernel
theorem dX7_to_2 : decode cX7_to 2 = .ok (.putfield 98, 3) := by decide +kernel
theorem dX7_to_5 : decode cX7_to 5 = .ok (.aload_n 0, 1) := by decide +kernel
theorem dX7_to_6 : decode cX7_to 6 = .ok (.iload_n 1, 1) := by decide +kernel
theorem dX7_to_7 : decode cX7_to 7 = .ok (.invokevirtual 289, 3) := by decide +kernel
theorem dX7_to_10 : decode cX7_to 10 = .ok (.ifCond .eq 12, 3) := by decide +kernel
theorem dX7_to_13 : decode cX7_to 13 = .ok (.aload_n 0, 1) := by decide +kernel
theorem dX7_to_14 : decode cX7_to 14 = .ok (.getfield 77, 3) := by decide +kernel
theorem dX7_to_17 : decode cX7_to 17 = .ok (.iload_n 1, 1) := by decide +kernel
theorem dX7_to_18 : decode cX7_to 18 = .ok (.iaload, 1) := by decide +kernel
theorem dX7_to_19 : decode cX7_to 19 = .ok (.goto 4, 3) := by decide +kernel
theorem dX7_to_22 : decode cX7_to 22 = .ok (.iconst (-1), 1) := by decide +kernel
theorem dX7_to_23 : decode cX7_to 23 = .ok (.ireturn, 1) := by decide +kernel
theorem dX7_steps_0 : decode cX7_steps 0 = .ok (.aload_n 0, 1) := by decide +kernel
theorem dX7_steps_1 : decode cX7_steps 1 = .ok (.iconst 0, 1) := by decide +kernel
theorem dX7_steps_2 : decode cX7_steps 2 = .ok (.putfield 98, 3) := by decide +kernel
theorem dX7_steps_5 : decode cX7_steps 5 = .ok (.aload_n 0, 1) := by decide +kernel
theorem dX7_steps_6 : decode cX7_steps 6 = .ok (.getfield 286, 3) := by decide +kernel
theorem dX7_steps_9 : decode cX7_steps 9 = .ok (.ireturn, 1) := by decide +kernel
theorem dX7_write_0 : decode cX7_write 0 = .ok (.aload_n 0, 1) := by decide +kernel
theorem dX7_write_1 : decode cX7_write 1 = .ok (.getfield 292, 3) := by decide +kernel
theorem dX7_write_4 : decode cX7_write 4 = .ok (.sipush 260, 3) := by decide +kernel
theorem dX7_write_7 : decode cX7_write 7 = .ok (.if_icmp .ge 14, 3) := by decide +kernel
theorem dX7_write_10 : decode cX7_write 10 = .ok (.aload_n 0, 1) := by decide +kernel
theorem dX7_write_11 : decode cX7_write 11 = .ok (.getfield 83, 3) := by decide +kernel
theorem dX7_write_14 : decode cX7_write 14 = .ok (.aload_n 0, 1) := by decide +kernel
theorem dX7_write_15 : decode cX7_write 15 = .ok (.getfield 292, 3) := by decide +kernel
theorem dX7_write_18 : decode cX7_write 18 = .ok (.iload_n 1, 1) := by decide +kernel
theorem dX7_write_19 : decode cX7_write 19 = .ok (.i2c, 1) := by decide +kernel
theorem dX7_write_20 : decode cX7_write 20 = .ok (.castore, 1) := by decide +kernel
theorem dX7_write_21 : decode cX7_write 21 = .ok (.aload_n 0, 1) := by decide +kernel
theorem dX7_write_22 : decode cX7_write 22 = .ok (.dup, 1) := by decide +kernel
theorem dX7_write_23 : decode cX7_write 23 = .ok (.getfield 292, 3) := by decide +kernel
theorem dX7_write_26 : decode cX7_write 26 = .ok (.aload_n 0, 1) := by decide +kernel
theorem dX7_write_27 : decode cX7_write 27 = .ok (.getfield 292, 3) := by decide +kernel
theorem dX7_write_30 : decode cX7_write 30 = .ok (.sipush 260, 3) := by decide +kernel
theorem dX7_write_33 : decode cX7_write 33 = .ok (.if_icmp .ge 7, 3) := by decide +kernel
theorem dX7_write_36 : decode cX7_write 36 = .ok (.iconst 1, 1) := by decide +kernel
theorem dX7_write_37 : decode cX7_write 37 = .ok (.goto 4, 3) := by decide +kernel
theorem dX7_write_40 : decode cX7_write 40 = .ok (.iconst 0, 1) := by decide +kernel
theorem dX7_write_41 : decode cX7_write 41 = .ok (.iadd, 1) := by decide +kernel
theorem dX7_write_42 : decode cX7_write 42 = .ok (.putfield 292, 3) := by decide +kernel
theorem dX7_write_45 : decode cX7_write 45 = .ok (.return_, 1) := by decide +kernel
theorem dX7_writeText_0 : decode cX7_writeText 0 = .ok (.iload_n 1, 1) := by decide +kernel
theorem dX7_writeText_1 : decode cX7_writeText 1 = .ok (.istore_n 3, 1) := by decide +kernel
theorem dX7_writeText_2 : decode cX7_writeText 2 = .ok (.iload_n 3, 1) := by decide +kernel
theorem dX7_writeText_3 : decode cX7_writeText 3 = .ok (.iload_n 2, 1) := by decide +kernel
theorem dX7_writeText_4 : decode cX7_writeText 4 = .ok (.if_icmp .ge 19, 3) := by decide +kernel
theorem dX7_writeText_7 : decode cX7_writeText 7 = .ok (.aload_n 0, 1) := by decide +kernel
theorem dX7_writeText_8 : decode cX7_writeText 8 = .ok (.aload_n 0, 1) := by decide +kernel
theorem dX7_writeText_9 : decode cX7_writeText 9 = .ok (.getfield 13, 3) := by decide +kernel
theorem dX7_writeText_12 : decode cX7_writeText 12 = .ok (.iload_n 3, 1) := by decide +kernel
theorem dX7_writeText_13 : decode cX7_writeText 13 = .ok (.caload, 1) := by decide +kernel
theorem dX7_writeText_14 : decode cX7_writeText 14 = .ok (.invokevirtual 295, 3) := by decide +kernel
theorem dX7_writeText_17 : decode cX7_writeText 17 = .ok (.iinc 3 1, 3) := by decide +kernel
theorem dX7_writeText_20 : decode cX7_writeText 20 = .ok (.goto (-18), 3) := by decide +kernel
theorem dX7_writeText_23 : decode cX7_writeText 23 = .ok (.return_, 1) := by decide +kernel
theorem dX7_writeTemplate_0 : decode cX7_writeTemplate 0 = .ok (.iconst 0, 1) := by decide +kernel
theorem dX7_writeTemplate_1 : decode cX7_writeTemplate 1 = .ok (.istore_n 2, 1) := by decide +kernel
theorem dX7_writeTemplate_2 : decode cX7_writeTemplate 2 = .ok (.iload_n 2, 1) := by decide +kernel
theorem dX7_writeTemplate_3 : decode cX7_writeTemplate 3 = .ok (.aload_n 0, 1) := by decide +kernel
theorem dX7_writeTemplate_4 : decode cX7_writeTemplate 4 = .ok (.getfield 101, 3) := by decide +kernel
theorem dX7_writeTemplate_7 : decode cX7_writeTemplate 7 = .ok (.if_icmp .ge 154, 3) := by decide +kernel
theorem dX7_writeTemplate_10 : decode cX7_writeTemplate 10 = .ok (.aload_n 0, 1) := by decide +kernel
theorem dX7_writeTemplate_11 : decode cX7_writeTemplate 11 = .ok (.getfield 7, 3) := by decide +kernel
theorem dX7_writeTemplate_14 : decode cX7_writeTemplate 14 = .ok (.iload_n 2, 1) := by decide +kernel
theorem dX7_writeTemplate_15 : decode cX7_writeTemplate 15 = .ok (.caload, 1) := by decide +kernel
theorem dX7_writeTemplate_16 : decode cX7_writeTemplate 16 = .ok (.istore_n 3, 1) := by decide +kernel
theorem dX7_writeTemplate_17 : decode cX7_writeTemplate 17 = .ok (.iload_n 2, 1) := by decide +kernel
theorem dX7_writeTemplate_18 : decode cX7_writeTemplate 18 = .ok (.iconst 1, 1) := by decide +kernel
theorem dX7_writeTemplate_19 : decode cX7_writeTemplate 19 = .ok (.iadd, 1) := by decide +kernel
theorem dX7_writeTemplate_20 : decode cX7_writeTemplate 20 = .ok (.aload_n 0, 1) := by decide +kernel
theorem dX7_writeTemplate_21 : decode cX7_writeTemplate 21 = .ok (.getfield 101, 3) := by decide +kernel
theorem dX7_writeTemplate_24 : decode cX7_writeTemplate 24 = .ok (.if_icmp .ge 14, 3) := by decide +kernel
theorem dX7_writeTemplate_27 : decode cX7_writeTemplate 27 = .ok (.aload_n 0, 1) := by decide +kernel
theorem dX7_writeTemplate_28 : decode cX7_writeTemplate 28 = .ok (.getfield 7, 3) := by decide +kernel
theorem dX7_writeTemplate_31 : decode cX7_writeTemplate 31 = .ok (.iload_n 2, 1) := by decide +kernel
theorem dX7_writeTemplate_32 : decode cX7_writeTemplate 32 = .ok (.iconst 1, 1) := by decide +kernel
theorem dX7_writeTemplate_33 : decode cX7_writeTemplate 33 = .ok (.iadd, 1) := by decide +kernel
theorem dX7_writeTemplate_34 : decode cX7_writeTemplate 34 = .ok (.caload, 1) := by decide +kernel
theorem dX7_writeTemplate_35 : decode cX7_writeTemplate 35 = .ok (.goto 4, 3) := by decide +kernel
theorem dX7_writeTemplate_38 : decode cX7_writeTemplate 38 = .ok (.iconst 0, 1) := by decide +kernel
theorem dX7_writeTemplate_39 : decode cX7_writeTemplate 39 = .ok (.istore 4, 2) := by decide +kernel
theorem dX7_writeTemplate_41 : decode cX7_writeTemplate 41 = .ok (.iload 4, 2) := by decide +kernel
theorem dX7_writeTemplate_43 : decode cX7_writeTemplate 43 = .ok (.bipush 48, 2) := by decide +kernel
theorem dX7_writeTemplate_45 : decode cX7_writeTemplate 45 = .ok (.isub, 1) := by decide +kernel
theorem dX7_writeTemplate_46 : decode cX7_writeTemplate 46 = .ok (.istore 5, 2) := by decide +kernel
theorem dX7_writeTemplate_48 : decode cX7_writeTemplate 48 = .ok (.iinc 2 2, 3) := by decide +kernel
theorem dX7_writeTemplate_51 : decode cX7_writeTemplate 51 = .ok (.iload_n 3, 1) := by decide +kernel
theorem dX7_writeTemplate_52 : decode cX7_writeTemplate 52 = .ok (.bipush 36, 2) := by decide +kernel
theorem dX7_writeTemplate_54 : decode cX7_writeTemplate 54 = .ok (.if_icmp .ne 19, 3) := by decide +kernel
theorem dX7_writeTemplate_57 : decode cX7_writeTemplate 57 = .ok (.iload 4, 2) := by decide +kernel
theorem dX7_writeTemplate_59 : decode cX7_writeTemplate 59 = .ok (.bipush 36, 2) := by decide +kernel
theorem dX7_writeTemplate_61 : decode cX7_writeTemplate 61 = .ok (.if_icmp .ne 12, 3) := by decide +kernel
theorem dX7_writeTemplate_64 : decode cX7_writeTemplate 64 = .ok (.aload_n 0, 1) := by decide +kernel
theorem dX7_writeTemplate_65 : decode cX7_writeTemplate 65 = .ok (.bipush 36, 2) := by decide +kernel
theorem dX7_writeTemplate_67 : decode cX7_writeTemplate 67 = .ok (.invokevirtual 295, 3) := by decide +kernel
theorem dX7_writeTemplate_70 : decode cX7_writeTemplate 70 = .ok (.goto 88, 3) := by decide +kernel
theorem dX7_writeTemplate_73 : decode cX7_writeTemplate 73 = .ok (.iload_n 3, 1) := by decide +kernel
theorem dX7_writeTemplate_74 : decode cX7_writeTemplate 74 = .ok (.bipush 36, 2) := by decide +kernel
theorem dX7_writeTemplate_76 : decode cX7_writeTemplate 76 = .ok (.if_icmp .ne 22, 3) := by decide +kernel
theorem dX7_writeTemplate_79 : decode cX7_writeTemplate 79 = .ok (.iload 4, 2) := by decide +kernel
theorem dX7_writeTemplate_81 : decode cX7_writeTemplate 81 = .ok (.bipush 38, 2) := by decide +kernel
theorem dX7_writeTemplate_83 : decode cX7_writeTemplate 83 = .ok (.if_icmp .ne 15, 3) := by decide +kernel
theorem dX7_writeTemplate_86 : decode cX7_writeTemplate 86 = .ok (.aload_n 0, 1) := by decide +kernel
theorem dX7_writeTemplate_87 : decode cX7_writeTemplate 87 = .ok (.iload_n 1, 1) := by decide +kernel
theorem dX7_writeTemplate_88 : decode cX7_writeTemplate 88 = .ok (.aload_n 0, 1) := by decide +kernel
theorem dX7_writeTemplate_89 : decode cX7_writeTemplate 89 = .ok (.getfield 216, 3) := by decide +kernel
theorem dX7_writeTemplate_92 : decode cX7_writeTemplate 92 = .ok (.invokevirtual 298, 3) := by decide +kernel
theorem dX7_writeTemplate_95 : decode cX7_writeTemplate 95 = .ok (.goto 63, 3) := by decide +kernel
theorem dX7_writeTemplate_98 : decode cX7_writeTemplate 98 = .ok (.iload_n 3, 1) := by decide +kernel
theorem dX7_writeTemplate_99 : decode cX7_writeTemplate 99 = .ok (.bipush 36, 2) := by decide +kernel
theorem dX7_writeTemplate_101 : decode cX7_writeTemplate 101 = .ok (.if_icmp .ne 49, 3) := by decide +kernel
theorem dX7_writeTemplate_104 : decode cX7_writeTemplate 104 = .ok (.iload 5, 2) := by decide +kernel
theorem dX7_writeTemplate_106 : decode cX7_writeTemplate 106 = .ok (.iconst 1, 1) := by decide +kernel
theorem dX7_writeTemplate_107 : decode cX7_writeTemplate 107 = .ok (.if_icmp .lt 43, 3) := by decide +kernel
theorem dX7_writeTemplate_110 : decode cX7_writeTemplate 110 = .ok (.iload 5, 2) := by decide +kernel
theorem dX7_writeTemplate_112 : decode cX7_writeTemplate 112 = .ok (.aload_n 0, 1) := by decide +kernel
theorem dX7_writeTemplate_113 : decode cX7_writeTemplate 113 = .ok (.getfield 190, 3) := by decide +kernel
theorem dX7_writeTemplate_116 : decode cX7_writeTemplate 116 = .ok (.if_icmp .gt 34, 3) := by decide +kernel
theorem dX7_writeTemplate_119 : decode cX7_writeTemplate 119 = .ok (.iload 5, 2) := by decide +kernel
theorem dX7_writeTemplate_121 : decode cX7_writeTemplate 121 = .ok (.bipush 9, 2) := by decide +kernel
theorem dX7_writeTemplate_123 : decode cX7_writeTemplate 123 = .ok (.if_icmp .gt 27, 3) := by decide +kernel
theorem dX7_writeTemplate_126 : decode cX7_writeTemplate 126 = .ok (.aload_n 0, 1) := by decide +kernel
theorem dX7_writeTemplate_127 : decode cX7_writeTemplate 127 = .ok (.aload_n 0, 1) := by decide +kernel
theorem dX7_writeTemplate_128 : decode cX7_writeTemplate 128 = .ok (.getfield 65, 3) := by decide +kernel
theorem dX7_writeTemplate_131 : decode cX7_writeTemplate 131 = .ok (.iload 5, 2) := by decide +kernel
theorem dX7_writeTemplate_133 : decode cX7_writeTemplate 133 = .ok (.iaload, 1) := by decide +kernel
theorem dX7_writeTemplate_134 : decode cX7_writeTemplate 134 = .ok (.aload_n 0, 1) := by decide +kernel
theorem dX7_writeTemplate_135 : decode cX7_writeTemplate 135 = .ok (.getfield 65, 3) := by decide +kernel
theorem dX7_writeTemplate_138 : decode cX7_writeTemplate 138 = .ok (.bipush 10, 2) := by decide +kernel
theorem dX7_writeTemplate_140 : decode cX7_writeTemplate 140 = .ok (.iload 5, 2) := by decide +kernel
theorem dX7_writeTemplate_142 : decode cX7_writeTemplate 142 = .ok (.iadd, 1) := by decide +kernel
theorem dX7_writeTemplate_143 : decode cX7_writeTemplate 143 = .ok (.iaload, 1) := by decide +kernel
theorem dX7_writeTemplate_144 : decode cX7_writeTemplate 144 = .ok (.invokevirtual 298, 3) := by decide +kernel
theorem dX7_writeTemplate_147 : decode cX7_writeTemplate 147 = .ok (.goto 11, 3) := by decide +kernel
theorem dX7_writeTemplate_150 : decode cX7_writeTemplate 150 = .ok (.aload_n 0, 1) := by decide +kernel
theorem dX7_writeTemplate_151 : decode cX7_writeTemplate 151 = .ok (.iload_n 3, 1) := by decide +kernel
theorem dX7_writeTemplate_152 : decode cX7_writeTemplate 152 = .ok (.invokevirtual 295, 3) := by decide +kernel
theorem dX7_writeTemplate_155 : decode cX7_writeTemplate 155 = .ok (.iinc 2 (-1), 3) := by decide +kernel
theorem dX7_writeTemplate_158 : decode cX7_writeTemplate 158 = .ok (.goto (-156), 3) := by decide +kernel
theorem dX7_writeTemplate_161 : decode cX7_writeTemplate 161 = .ok (.return_, 1) := by decide +kernel
theorem dX7_replace_0 : decode cX7_replace 0 = .ok (.aload_n 0, 1) := by decide +kernel
theorem dX7_replace_1 : decode cX7_replace 1 = .ok (.iconst 0, 1) := by decide +kernel
theorem dX7_replace_2 : decode cX7_replace 2 = .ok (.putfield 98, 3) := by decide +kernel
theorem dX7_replace_5 : decode cX7_replace 5 = .ok (.aload_n 0, 1) := by decide +kernel
theorem dX7_replace_6 : decode cX7_replace 6 = .ok (.iconst 0, 1) := by decide +kernel
theorem dX7_replace_7 : decode cX7_replace 7 = .ok (.putfield 292, 3) := by decide +kernel
theorem dX7_replace_10 : decode cX7_replace 10 = .ok (.iconst 0, 1) := by decide +kernel
theorem dX7_replace_11 : decode cX7_replace 11 = .ok (.istore_n 1, 1) := by decide +kernel
theorem dX7_replace_12 : decode cX7_replace 12 = .ok (.iconst 0, 1) := by decide +kernel
theorem dX7_replace_13 : decode cX7_replace 13 = .ok (.istore_n 2, 1) := by decide +kernel
theorem dX7_replace_14 : decode cX7_replace 14 = .ok (.aload_n 0, 1) := by decide +kernel
theorem dX7_replace_15 : decode cX7_replace 15 = .ok (.iconst 0, 1) := by decide +kernel
theorem dX7_replace_16 : decode cX7_replace 16 = .ok (.invokevirtual 283, 3) := by decide +kernel
theorem dX7_replace_19 : decode cX7_replace 19 = .ok (.istore_n 3, 1) := by decide +kernel
theorem dX7_replace_20 : decode cX7_replace 20 = .ok (.iload_n 3, 1) := by decide +kernel
theorem dX7_replace_21 : decode cX7_replace 21 = .ok (.ifCond .lt 56, 3) := by decide +kernel
theorem dX7_replace_24 : decode cX7_replace 24 = .ok (.aload_n 0, 1) := by decide +kernel
theorem dX7_replace_25 : decode cX7_replace 25 = .ok (.getfield 247, 3) := by decide +kernel
theorem dX7_replace_28 : decode cX7_replace 28 = .ok (.ifCond .ne 49, 3) := by decide +kernel
theorem dX7_replace_31 : decode cX7_replace 31 = .ok (.aload_n 0, 1) := by decide +kernel
theorem dX7_replace_32 : decode cX7_replace 32 = .ok (.getfield 216, 3) := by decide +kernel
theorem dX7_replace_35 : decode cX7_replace 35 = .ok (.istore 4, 2) := by decide +kernel
theorem dX7_replace_37 : decode cX7_replace 37 = .ok (.aload_n 0, 1) := by decide +kernel
theorem dX7_replace_38 : decode cX7_replace 38 = .ok (.iload_n 2, 1) := by decide +kernel
theorem dX7_replace_39 : decode cX7_replace 39 = .ok (.iload_n 3, 1) := by decide +kernel
theorem dX7_replace_40 : decode cX7_replace 40 = .ok (.invokevirtual 298, 3) := by decide +kernel
theorem dX7_replace_43 : decode cX7_replace 43 = .ok (.aload_n 0, 1) := by decide +kernel
theorem dX7_replace_44 : decode cX7_replace 44 = .ok (.iload_n 3, 1) := by decide +kernel
theorem dX7_replace_45 : decode cX7_replace 45 = .ok (.invokevirtual 301, 3) := by decide +kernel
theorem dX7_replace_48 : decode cX7_replace 48 = .ok (.iinc 1 1, 3) := by decide +kernel
theorem dX7_replace_51 : decode cX7_replace 51 = .ok (.iload 4, 2) := by decide +kernel
theorem dX7_replace_53 : decode cX7_replace 53 = .ok (.istore_n 2, 1) := by decide +kernel
theorem dX7_replace_54 : decode cX7_replace 54 = .ok (.aload_n 0, 1) := by decide +kernel
theorem dX7_replace_55 : decode cX7_replace 55 = .ok (.iload 4, 2) := by decide +kernel
theorem dX7_replace_57 : decode cX7_replace 57 = .ok (.iload_n 3, 1) := by decide +kernel
theorem dX7_replace_58 : decode cX7_replace 58 = .ok (.if_icmp .ne 10, 3) := by decide +kernel
theorem dX7_replace_61 : decode cX7_replace 61 = .ok (.iload 4, 2) := by decide +kernel
theorem dX7_replace_63 : decode cX7_replace 63 = .ok (.iconst 1, 1) := by decide +kernel
theorem dX7_replace_64 : decode cX7_replace 64 = .ok (.iadd, 1) := by decide +kernel
theorem dX7_replace_65 : decode cX7_replace 65 = .ok (.goto 5, 3) := by decide +kernel
theorem dX7_replace_68 : decode cX7_replace 68 = .ok (.iload 4, 2) := by decide +kernel
theorem dX7_replace_70 : decode cX7_replace 70 = .ok (.invokevirtual 283, 3) := by decide +kernel
theorem dX7_replace_73 : decode cX7_replace 73 = .ok (.istore_n 3, 1) := by decide +kernel
theorem dX7_replace_74 : decode cX7_replace 74 = .ok (.goto (-54), 3) := by decide +kernel
theorem dX7_replace_77 : decode cX7_replace 77 = .ok (.aload_n 0, 1) := by decide +kernel
theorem dX7_replace_78 : decode cX7_replace 78 = .ok (.iload_n 2, 1) := by decide +kernel
theorem dX7_replace_79 : decode cX7_replace 79 = .ok (.aload_n 0, 1) := by decide +kernel
theorem dX7_replace_80 : decode cX7_replace 80 = .ok (.getfield 202, 3) := by decide +kernel
theorem dX7_replace_83 : decode cX7_replace 83 = .ok (.invokevirtual 298, 3) := by decide +kernel
theorem dX7_replace_86 : decode cX7_replace 86 = .ok (.aload_n 0, 1) := by decide +kernel
theorem dX7_replace_87 : decode cX7_replace 87 = .ok (.getfield 247, 3) := by decide +kernel
theorem dX7_replace_90 : decode cX7_replace 90 = .ok (.ifCond .ne 13, 3) := by decide +kernel
theorem dX7_replace_93 : decode cX7_replace 93 = .ok (.aload_n 0, 1) := by decide +kernel
theorem dX7_replace_94 : decode cX7_replace 94 = .ok (.getfield 292, 3) := by decide +kernel
theorem dX7_replace_97 : decode cX7_replace 97 = .ok (.sipush 200, 3) := by decide +kernel
theorem dX7_replace_100 : decode cX7_replace 100 = .ok (.if_icmp .le 9, 3) := by decide +kernel
theorem dX7_replace_103 : decode cX7_replace 103 = .ok (.aload_n 0, 1) := by decide +kernel
theorem dX7_replace_104 : decode cX7_replace 104 = .ok (.iconst 1, 1) := by decide +kernel
theorem dX7_replace_105 : decode cX7_replace 105 = .ok (.invokevirtual 104, 3) := by decide +kernel
theorem dX7_replace_108 : decode cX7_replace 108 = .ok (.ireturn, 1) := by decide +kernel
theorem dX7_replace_109 : decode cX7_replace 109 = .ok (.iconst 0, 1) := by decide +kernel
theorem dX7_replace_110 : decode cX7_replace 110 = .ok (.istore 4, 2) := by decide +kernel
theorem dX7_replace_112 : decode cX7_replace 112 = .ok (.iload 4, 2) := by decide +kernel
theorem dX7_replace_114 : decode cX7_replace 114 = .ok (.aload_n 0, 1) := by decide +kernel
theorem dX7_replace_115 : decode cX7_replace 115 = .ok (.getfield 292, 3) := by decide +kernel
theorem dX7_replace_118 : decode cX7_replace 118 = .ok (.if_icmp .ge 23, 3) := by decide +kernel
theorem dX7_replace_121 : decode cX7_replace 121 = .ok (.aload_n 0, 1) := by decide +kernel
theorem dX7_replace_122 : decode cX7_replace 122 = .ok (.getfield 80, 3) := by decide +kernel
theorem dX7_replace_125 : decode cX7_replace 125 = .ok (.iload 4, 2) := by decide +kernel
theorem dX7_replace_127 : decode cX7_replace 127 = .ok (.aload_n 0, 1) := by decide +kernel
theorem dX7_replace_128 : decode cX7_replace 128 = .ok (.getfield 83, 3) := by decide +kernel
theorem dX7_replace_131 : decode cX7_replace 131 = .ok (.iload 4, 2) := by decide +kernel
theorem dX7_replace_133 : decode cX7_replace 133 = .ok (.caload, 1) := by decide +kernel
theorem dX7_replace_134 : decode cX7_replace 134 = .ok (.castore, 1) := by decide +kernel
theorem dX7_replace_135 : decode cX7_replace 135 = .ok (.iinc 4 1, 3) := by decide +kernel
theorem dX7_replace_138 : decode cX7_replace 138 = .ok (.goto (-26), 3) := by decide +kernel
theorem dX7_replace_141 : decode cX7_replace 141 = .ok (.aload_n 0, 1) := by decide +kernel
theorem dX7_replace_142 : decode cX7_replace 142 = .ok (.aload_n 0, 1) := by decide +kernel
theorem dX7_replace_143 : decode cX7_replace 143 = .ok (.getfield 292, 3) := by decide +kernel
theorem dX7_replace_146 : decode cX7_replace 146 = .ok (.putfield 304, 3) := by decide +kernel
theorem dX7_replace_149 : decode cX7_replace 149 = .ok (.aload_n 0, 1) := by decide +kernel
theorem dX7_replace_150 : decode cX7_replace 150 = .ok (.iconst 0, 1) := by decide +kernel
theorem dX7_replace_151 : decode cX7_replace 151 = .ok (.putfield 101, 3) := by decide +kernel
theorem dX7_replace_154 : decode cX7_replace 154 = .ok (.aload_n 0, 1) := by decide +kernel
theorem dX7_replace_155 : decode cX7_replace 155 = .ok (.iconst 0, 1) := by decide +kernel
theorem dX7_replace_156 : decode cX7_replace 156 = .ok (.putfield 196, 3) := by decide +kernel
theorem dX7_replace_159 : decode cX7_replace 159 = .ok (.aload_n 0, 1) := by decide +kernel
theorem dX7_replace_160 : decode cX7_replace 160 = .ok (.iconst 0, 1) := by decide +kernel
theorem dX7_replace_161 : decode cX7_replace 161 = .ok (.putfield 199, 3) := by decide +kernel
theorem dX7_replace_164 : decode cX7_replace 164 = .ok (.iload_n 1, 1) := by decide +kernel
theorem dX7_replace_165 : decode cX7_replace 165 = .ok (.ireturn, 1) := by decide +kernel
theorem dX7_result_0 : decode cX7_result 0 = .ok (.aload_n 0, 1) := by decide +kernel
theorem dX7_result_1 : decode cX7_result 1 = .ok (.iload_n 1, 1) := by decide +kernel
theorem dX7_result_2 : decode cX7_result 2 = .ok (.ifCond .lt 15, 3) := by decide +kernel
theorem dX7_result_5 : decode cX7_result 5 = .ok (.iload_n 1, 1) := by decide +kernel
theorem dX7_result_6 : decode cX7_result 6 = .ok (.aload_n 0, 1) := by decide +kernel
theorem dX7_result_7 : decode cX7_result 7 = .ok (.getfield 304, 3) := by decide +kernel
theorem dX7_result_10 : decode cX7_result 10 = .ok (.if_icmp .ge 7, 3) := by decide +kernel
theorem dX7_result_13 : decode cX7_result 13 = .ok (.iconst 0, 1) := by decide +kernel
theorem dX7_result_14 : decode cX7_result 14 = .ok (.goto 4, 3) := by decide +kernel
theorem dX7_result_17 : decode cX7_result 17 = .ok (.iconst 1, 1) := by decide +kernel
theorem dX7_result_18 : decode cX7_result 18 = .ok (.putfield 98, 3) := by decide +kernel
theorem dX7_result_21 : decode cX7_result 21 = .ok (.aload_n 0, 1) := by decide +kernel
theorem dX7_result_22 : decode cX7_result 22 = .ok (.getfield 98, 3) := by decide +kernel
theorem dX7_result_25 : decode cX7_result 25 = .ok (.ifCond .ne 12, 3) := by decide +kernel
theorem dX7_result_28 : decode cX7_result 28 = .ok (.aload_n 0, 1) := by decide +kernel
theorem dX7_result_29 : decode cX7_result 29 = .ok (.getfield 80, 3) := by decide +kernel
theorem dX7_result_32 : decode cX7_result 32 = .ok (.iload_n 1, 1) := by decide +kernel
theorem dX7_result_33 : decode cX7_result 33 = .ok (.caload, 1) := by decide +kernel
theorem dX7_result_34 : decode cX7_result 34 = .ok (.goto 5, 3) := by decide +kernel
theorem dX7_result_37 : decode cX7_result 37 = .ok (.bipush 32, 2) := by decide +kernel
theorem dX7_result_39 : decode cX7_result 39 = .ok (.ireturn, 1) := by decide +kernel
