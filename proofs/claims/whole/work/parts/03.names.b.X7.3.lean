theorem dX7_goBack_105 : decode cX7_goBack 105 = .ok (.goto (-105), 3) := by decide +kernel
theorem dX7_goBack_108 : decode cX7_goBack 108 = .ok (.iconst 0, 1) := by decide +kernel
theorem dX7_goBack_109 : decode cX7_goBack 109 = .ok (.ireturn, 1) := by decide +kernel
theorem dX7_pass_0 : decode cX7_pass 0 = .ok (.aload_n 0, 1) := by decide +kernel
theorem dX7_pass_1 : decode cX7_pass 1 = .ok (.getfield 29, 3) := by decide +kernel
theorem dX7_pass_4 : decode cX7_pass 4 = .ok (.iload_n 1, 1) := by decide +kernel
theorem dX7_pass_5 : decode cX7_pass 5 = .ok (.iaload, 1) := by decide +kernel
theorem dX7_pass_6 : decode cX7_pass 6 = .ok (.istore_n 2, 1) := by decide +kernel
theorem dX7_pass_7 : decode cX7_pass 7 = .ok (.aload_n 0, 1) := by decide +kernel
theorem dX7_pass_8 : decode cX7_pass 8 = .ok (.getfield 26, 3) := by decide +kernel
theorem dX7_pass_11 : decode cX7_pass 11 = .ok (.iload_n 1, 1) := by decide +kernel
theorem dX7_pass_12 : decode cX7_pass 12 = .ok (.iaload, 1) := by decide +kernel
theorem dX7_pass_13 : decode cX7_pass 13 = .ok (.bipush 16, 2) := by decide +kernel
theorem dX7_pass_15 : decode cX7_pass 15 = .ok (.irem, 1) := by decide +kernel
theorem dX7_pass_16 : decode cX7_pass 16 = .ok (.istore_n 3, 1) := by decide +kernel
theorem dX7_pass_17 : decode cX7_pass 17 = .ok (.aload_n 0, 1) := by decide +kernel
theorem dX7_pass_18 : decode cX7_pass 18 = .ok (.bipush 30, 2) := by decide +kernel
theorem dX7_pass_20 : decode cX7_pass 20 = .ok (.iload_n 2, 1) := by decide +kernel
theorem dX7_pass_21 : decode cX7_pass 21 = .ok (.iadd, 1) := by decide +kernel
theorem dX7_pass_22 : decode cX7_pass 22 = .ok (.aload_n 0, 1) := by decide +kernel
theorem dX7_pass_23 : decode cX7_pass 23 = .ok (.getfield 65, 3) := by decide +kernel
theorem dX7_pass_26 : decode cX7_pass 26 = .ok (.bipush 30, 2) := by decide +kernel
theorem dX7_pass_28 : decode cX7_pass 28 = .ok (.iload_n 2, 1) := by decide +kernel
theorem dX7_pass_29 : decode cX7_pass 29 = .ok (.iadd, 1) := by decide +kernel
theorem dX7_pass_30 : decode cX7_pass 30 = .ok (.iaload, 1) := by decide +kernel
theorem dX7_pass_31 : decode cX7_pass 31 = .ok (.iconst 1, 1) := by decide +kernel
theorem dX7_pass_32 : decode cX7_pass 32 = .ok (.iadd, 1) := by decide +kernel
theorem dX7_pass_33 : decode cX7_pass 33 = .ok (.invokevirtual 241, 3) := by decide +kernel
theorem dX7_pass_36 : decode cX7_pass 36 = .ok (.aload_n 0, 1) := by decide +kernel
theorem dX7_pass_37 : decode cX7_pass 37 = .ok (.bipush 80, 2) := by decide +kernel
theorem dX7_pass_39 : decode cX7_pass 39 = .ok (.iload_n 2, 1) := by decide +kernel
theorem dX7_pass_40 : decode cX7_pass 40 = .ok (.iadd, 1) := by decide +kernel
theorem dX7_pass_41 : decode cX7_pass 41 = .ok (.aload_n 0, 1) := by decide +kernel
theorem dX7_pass_42 : decode cX7_pass 42 = .ok (.getfield 216, 3) := by decide +kernel
theorem dX7_pass_45 : decode cX7_pass 45 = .ok (.invokevirtual 241, 3) := by decide +kernel
theorem dX7_pass_48 : decode cX7_pass 48 = .ok (.aload_n 0, 1) := by decide +kernel
theorem dX7_pass_49 : decode cX7_pass 49 = .ok (.getfield 26, 3) := by decide +kernel
theorem dX7_pass_52 : decode cX7_pass 52 = .ok (.iload_n 1, 1) := by decide +kernel
theorem dX7_pass_53 : decode cX7_pass 53 = .ok (.iaload, 1) := by decide +kernel
theorem dX7_pass_54 : decode cX7_pass 54 = .ok (.bipush 16, 2) := by decide +kernel
theorem dX7_pass_56 : decode cX7_pass 56 = .ok (.idiv, 1) := by decide +kernel
theorem dX7_pass_57 : decode cX7_pass 57 = .ok (.sipush 256, 3) := by decide +kernel
theorem dX7_pass_60 : decode cX7_pass 60 = .ok (.irem, 1) := by decide +kernel
theorem dX7_pass_61 : decode cX7_pass 61 = .ok (.iconst 1, 1) := by decide +kernel
theorem dX7_pass_62 : decode cX7_pass 62 = .ok (.iadd, 1) := by decide +kernel
theorem dX7_pass_63 : decode cX7_pass 63 = .ok (.istore 4, 2) := by decide +kernel
theorem dX7_pass_65 : decode cX7_pass 65 = .ok (.iload 4, 2) := by decide +kernel
theorem dX7_pass_67 : decode cX7_pass 67 = .ok (.iload_n 3, 1) := by decide +kernel
theorem dX7_pass_68 : decode cX7_pass 68 = .ok (.if_icmp .gt 26, 3) := by decide +kernel
theorem dX7_pass_71 : decode cX7_pass 71 = .ok (.aload_n 0, 1) := by decide +kernel
theorem dX7_pass_72 : decode cX7_pass 72 = .ok (.iload 4, 2) := by decide +kernel
theorem dX7_pass_74 : decode cX7_pass 74 = .ok (.iconst (-1), 1) := by decide +kernel
theorem dX7_pass_75 : decode cX7_pass 75 = .ok (.invokevirtual 241, 3) := by decide +kernel
theorem dX7_pass_78 : decode cX7_pass 78 = .ok (.aload_n 0, 1) := by decide +kernel
theorem dX7_pass_79 : decode cX7_pass 79 = .ok (.bipush 10, 2) := by decide +kernel
theorem dX7_pass_81 : decode cX7_pass 81 = .ok (.iload 4, 2) := by decide +kernel
theorem dX7_pass_83 : decode cX7_pass 83 = .ok (.iadd, 1) := by decide +kernel
theorem dX7_pass_84 : decode cX7_pass 84 = .ok (.iconst (-1), 1) := by decide +kernel
theorem dX7_pass_85 : decode cX7_pass 85 = .ok (.invokevirtual 241, 3) := by decide +kernel
theorem dX7_pass_88 : decode cX7_pass 88 = .ok (.iinc 4 1, 3) := by decide +kernel
theorem dX7_pass_91 : decode cX7_pass 91 = .ok (.goto (-26), 3) := by decide +kernel
theorem dX7_pass_94 : decode cX7_pass 94 = .ok (.aload_n 0, 1) := by decide +kernel
theorem dX7_pass_95 : decode cX7_pass 95 = .ok (.iload_n 1, 1) := by decide +kernel
theorem dX7_pass_96 : decode cX7_pass 96 = .ok (.iconst 1, 1) := by decide +kernel
theorem dX7_pass_97 : decode cX7_pass 97 = .ok (.iadd, 1) := by decide +kernel
theorem dX7_pass_98 : decode cX7_pass 98 = .ok (.putfield 235, 3) := by decide +kernel
theorem dX7_pass_101 : decode cX7_pass 101 = .ok (.return_, 1) := by decide +kernel
theorem dX7_decide_0 : decode cX7_decide 0 = .ok (.aload_n 0, 1) := by decide +kernel
theorem dX7_decide_1 : decode cX7_decide 1 = .ok (.getfield 23, 3) := by decide +kernel
theorem dX7_decide_4 : decode cX7_decide 4 = .ok (.iload_n 1, 1) := by decide +kernel
theorem dX7_decide_5 : decode cX7_decide 5 = .ok (.iaload, 1) := by decide +kernel
theorem dX7_decide_6 : decode cX7_decide 6 = .ok (.sipush 128, 3) := by decide +kernel
theorem dX7_decide_9 : decode cX7_decide 9 = .ok (.irem, 1) := by decide +kernel
theorem dX7_decide_10 : decode cX7_decide 10 = .ok (.istore_n 2, 1) := by decide +kernel
theorem dX7_decide_11 : decode cX7_decide 11 = .ok (.aload_n 0, 1) := by decide +kernel
theorem dX7_decide_12 : decode cX7_decide 12 = .ok (.getfield 23, 3) := by decide +kernel
theorem dX7_decide_15 : decode cX7_decide 15 = .ok (.iload_n 1, 1) := by decide +kernel
theorem dX7_decide_16 : decode cX7_decide 16 = .ok (.iaload, 1) := by decide +kernel
theorem dX7_decide_17 : decode cX7_decide 17 = .ok (.sipush 128, 3) := by decide +kernel
theorem dX7_decide_20 : decode cX7_decide 20 = .ok (.idiv, 1) := by decide +kernel
theorem dX7_decide_21 : decode cX7_decide 21 = .ok (.sipush 512, 3) := by decide +kernel
theorem dX7_decide_24 : decode cX7_decide 24 = .ok (.irem, 1) := by decide +kernel
theorem dX7_decide_25 : decode cX7_decide 25 = .ok (.istore_n 3, 1) := by decide +kernel
theorem dX7_decide_26 : decode cX7_decide 26 = .ok (.aload_n 0, 1) := by decide +kernel
theorem dX7_decide_27 : decode cX7_decide 27 = .ok (.getfield 23, 3) := by decide +kernel
theorem dX7_decide_30 : decode cX7_decide 30 = .ok (.iload_n 1, 1) := by decide +kernel
theorem dX7_decide_31 : decode cX7_decide 31 = .ok (.iaload, 1) := by decide +kernel
theorem dX7_decide_32 : decode cX7_decide 32 = .ok (.ldc 149, 2) := by decide +kernel
theorem dX7_decide_34 : decode cX7_decide 34 = .ok (.if_icmp .lt 7, 3) := by decide +kernel
theorem dX7_decide_37 : decode cX7_decide 37 = .ok (.iconst 1, 1) := by decide +kernel
theorem dX7_decide_38 : decode cX7_decide 38 = .ok (.goto 4, 3) := by decide +kernel
theorem dX7_decide_41 : decode cX7_decide 41 = .ok (.iconst 0, 1) := by decide +kernel
theorem dX7_decide_42 : decode cX7_decide 42 = .ok (.istore 4, 2) := by decide +kernel
theorem dX7_decide_44 : decode cX7_decide 44 = .ok (.aload_n 0, 1) := by decide +kernel
theorem dX7_decide_45 : decode cX7_decide 45 = .ok (.getfield 65, 3) := by decide +kernel
theorem dX7_decide_48 : decode cX7_decide 48 = .ok (.bipush 30, 2) := by decide +kernel
theorem dX7_decide_50 : decode cX7_decide 50 = .ok (.aload_n 0, 1) := by decide +kernel
theorem dX7_decide_51 : decode cX7_decide 51 = .ok (.getfield 29, 3) := by decide +kernel
theorem dX7_decide_54 : decode cX7_decide 54 = .ok (.iload_n 1, 1) := by decide +kernel
theorem dX7_decide_55 : decode cX7_decide 55 = .ok (.iaload, 1) := by decide +kernel
theorem dX7_decide_56 : decode cX7_decide 56 = .ok (.iadd, 1) := by decide +kernel
theorem dX7_decide_57 : decode cX7_decide 57 = .ok (.iaload, 1) := by decide +kernel
theorem dX7_decide_58 : decode cX7_decide 58 = .ok (.istore 5, 2) := by decide +kernel
theorem dX7_decide_60 : decode cX7_decide 60 = .ok (.aload_n 0, 1) := by decide +kernel
theorem dX7_decide_61 : decode cX7_decide 61 = .ok (.getfield 26, 3) := by decide +kernel
theorem dX7_decide_64 : decode cX7_decide 64 = .ok (.iload_n 1, 1) := by decide +kernel
theorem dX7_decide_65 : decode cX7_decide 65 = .ok (.iaload, 1) := by decide +kernel
theorem dX7_decide_66 : decode cX7_decide 66 = .ok (.sipush 4096, 3) := by decide +kernel
theorem dX7_decide_69 : decode cX7_decide 69 = .ok (.idiv, 1) := by decide +kernel
theorem dX7_decide_70 : decode cX7_decide 70 = .ok (.istore 6, 2) := by decide +kernel
theorem dX7_decide_72 : decode cX7_decide 72 = .ok (.iload 5, 2) := by decide +kernel
theorem dX7_decide_74 : decode cX7_decide 74 = .ok (.iload_n 2, 1) := by decide +kernel
theorem dX7_decide_75 : decode cX7_decide 75 = .ok (.if_icmp .ge 11, 3) := by decide +kernel
theorem dX7_decide_78 : decode cX7_decide 78 = .ok (.aload_n 0, 1) := by decide +kernel
theorem dX7_decide_79 : decode cX7_decide 79 = .ok (.iload_n 1, 1) := by decide +kernel
theorem dX7_decide_80 : decode cX7_decide 80 = .ok (.invokevirtual 238, 3) := by decide +kernel
theorem dX7_decide_83 : decode cX7_decide 83 = .ok (.goto 62, 3) := by decide +kernel
theorem dX7_decide_86 : decode cX7_decide 86 = .ok (.iload_n 3, 1) := by decide +kernel
theorem dX7_decide_87 : decode cX7_decide 87 = .ok (.bipush 99, 2) := by decide +kernel
theorem dX7_decide_89 : decode cX7_decide 89 = .ok (.if_icmp .eq 20, 3) := by decide +kernel
theorem dX7_decide_92 : decode cX7_decide 92 = .ok (.iload 5, 2) := by decide +kernel
theorem dX7_decide_94 : decode cX7_decide 94 = .ok (.iload_n 3, 1) := by decide +kernel
theorem dX7_decide_95 : decode cX7_decide 95 = .ok (.if_icmp .lt 14, 3) := by decide +kernel
theorem dX7_decide_98 : decode cX7_decide 98 = .ok (.aload_n 0, 1) := by decide +kernel
theorem dX7_decide_99 : decode cX7_decide 99 = .ok (.iload 6, 2) := by decide +kernel
theorem dX7_decide_101 : decode cX7_decide 101 = .ok (.iconst 1, 1) := by decide +kernel
theorem dX7_decide_102 : decode cX7_decide 102 = .ok (.iadd, 1) := by decide +kernel
theorem dX7_decide_103 : decode cX7_decide 103 = .ok (.putfield 235, 3) := by decide +kernel
theorem dX7_decide_106 : decode cX7_decide 106 = .ok (.goto 39, 3) := by decide +kernel
theorem dX7_decide_109 : decode cX7_decide 109 = .ok (.iload 4, 2) := by decide +kernel
theorem dX7_decide_111 : decode cX7_decide 111 = .ok (.ifCond .eq 20, 3) := by decide +kernel
theorem dX7_decide_114 : decode cX7_decide 114 = .ok (.aload_n 0, 1) := by decide +kernel
theorem dX7_decide_115 : decode cX7_decide 115 = .ok (.iconst 1, 1) := by decide +kernel
theorem dX7_decide_116 : decode cX7_decide 116 = .ok (.iload_n 1, 1) := by decide +kernel
theorem dX7_decide_117 : decode cX7_decide 117 = .ok (.invokevirtual 244, 3) := by decide +kernel
theorem dX7_decide_120 : decode cX7_decide 120 = .ok (.aload_n 0, 1) := by decide +kernel
theorem dX7_decide_121 : decode cX7_decide 121 = .ok (.iload 6, 2) := by decide +kernel
theorem dX7_decide_123 : decode cX7_decide 123 = .ok (.iconst 1, 1) := by decide +kernel
theorem dX7_decide_124 : decode cX7_decide 124 = .ok (.iadd, 1) := by decide +kernel
theorem dX7_decide_125 : decode cX7_decide 125 = .ok (.putfield 235, 3) := by decide +kernel
theorem dX7_decide_128 : decode cX7_decide 128 = .ok (.goto 17, 3) := by decide +kernel
theorem dX7_decide_131 : decode cX7_decide 131 = .ok (.aload_n 0, 1) := by decide +kernel
theorem dX7_decide_132 : decode cX7_decide 132 = .ok (.iconst 0, 1) := by decide +kernel
theorem dX7_decide_133 : decode cX7_decide 133 = .ok (.iload 6, 2) := by decide +kernel
theorem dX7_decide_135 : decode cX7_decide 135 = .ok (.iconst 1, 1) := by decide +kernel
theorem dX7_decide_136 : decode cX7_decide 136 = .ok (.iadd, 1) := by decide +kernel
theorem dX7_decide_137 : decode cX7_decide 137 = .ok (.invokevirtual 244, 3) := by decide +kernel
theorem dX7_decide_140 : decode cX7_decide 140 = .ok (.aload_n 0, 1) := by decide +kernel
theorem dX7_decide_141 : decode cX7_decide 141 = .ok (.iload_n 1, 1) := by decide +kernel
theorem dX7_decide_142 : decode cX7_decide 142 = .ok (.invokevirtual 238, 3) := by decide +kernel
theorem dX7_decide_145 : decode cX7_decide 145 = .ok (.return_, 1) := by decide +kernel
theorem dX7_step_0 : decode cX7_step 0 = .ok (.aload_n 0, 1) := by decide +kernel
theorem dX7_step_1 : decode cX7_step 1 = .ok (.aload_n 0, 1) := by decide +kernel
theorem dX7_step_2 : decode cX7_step 2 = .ok (.getfield 247, 3) := by decide +kernel
theorem dX7_step_5 : decode cX7_step 5 = .ok (.ifCond .ne 13, 3) := by decide +kernel
theorem dX7_step_8 : decode cX7_step 8 = .ok (.aload_n 0, 1) := by decide +kernel
theorem dX7_step_9 : decode cX7_step 9 = .ok (.getfield 250, 3) := by decide +kernel
theorem dX7_step_12 : decode cX7_step 12 = .ok (.sipush 500, 3) := by decide +kernel
theorem dX7_step_15 : decode cX7_step 15 = .ok (.if_icmp .ne 7, 3) := by decide +kernel
theorem dX7_step_18 : decode cX7_step 18 = .ok (.iconst 1, 1) := by decide +kernel
theorem dX7_step_19 : decode cX7_step 19 = .ok (.goto 4, 3) := by decide +kernel
theorem dX7_step_22 : decode cX7_step 22 = .ok (.iconst 0, 1) := by decide +kernel
theorem dX7_step_23 : decode cX7_step 23 = .ok (.putfield 247, 3) := by decide +kernel
theorem dX7_step_26 : decode cX7_step 26 = .ok (.aload_n 0, 1) := by decide +kernel
theorem dX7_step_27 : decode cX7_step 27 = .ok (.dup, 1) := by decide +kernel
theorem dX7_step_28 : decode cX7_step 28 = .ok (.getfield 250, 3) := by decide +kernel
theorem dX7_step_31 : decode cX7_step 31 = .ok (.iconst 1, 1) := by decide +kernel
theorem dX7_step_32 : decode cX7_step 32 = .ok (.iadd, 1) := by decide +kernel
theorem dX7_step_33 : decode cX7_step 33 = .ok (.putfield 250, 3) := by decide +kernel
theorem dX7_step_36 : decode cX7_step 36 = .ok (.return_, 1) := by decide +kernel
theorem dX7_isSame_0 : decode cX7_isSame 0 = .ok (.aload_n 0, 1) := by decide +kernel
theorem dX7_isSame_1 : decode cX7_isSame 1 = .ok (.getfield 65, 3) := by decide +kernel
theorem dX7_isSame_4 : decode cX7_isSame 4 = .ok (.iload_n 1, 1) := by decide +kernel
theorem dX7_isSame_5 : decode cX7_isSame 5 = .ok (.iaload, 1) := by decide +kernel
theorem dX7_isSame_6 : decode cX7_isSame 6 = .ok (.istore_n 2, 1) := by decide +kernel
theorem dX7_isSame_7 : decode cX7_isSame 7 = .ok (.aload_n 0, 1) := by decide +kernel
theorem dX7_isSame_8 : decode cX7_isSame 8 = .ok (.getfield 65, 3) := by decide +kernel
theorem dX7_isSame_11 : decode cX7_isSame 11 = .ok (.bipush 10, 2) := by decide +kernel
theorem dX7_isSame_13 : decode cX7_isSame 13 = .ok (.iload_n 1, 1) := by decide +kernel
theorem dX7_isSame_14 : decode cX7_isSame 14 = .ok (.iadd, 1) := by decide +kernel
theorem dX7_isSame_15 : decode cX7_isSame 15 = .ok (.iaload, 1) := by decide +kernel
theorem dX7_isSame_16 : decode cX7_isSame 16 = .ok (.iload_n 2, 1) := by decide +kernel
theorem dX7_isSame_17 : decode cX7_isSame 17 = .ok (.isub, 1) := by decide +kernel
theorem dX7_isSame_18 : decode cX7_isSame 18 = .ok (.istore_n 3, 1) := by decide +kernel
theorem dX7_isSame_19 : decode cX7_isSame 19 = .ok (.iload_n 2, 1) := by decide +kernel
theorem dX7_isSame_20 : decode cX7_isSame 20 = .ok (.ifCond .ge 5, 3) := by decide +kernel
theorem dX7_isSame_23 : decode cX7_isSame 23 = .ok (.iconst 1, 1) := by decide +kernel
theorem dX7_isSame_24 : decode cX7_isSame 24 = .ok (.ireturn, 1) := by decide +kernel
theorem dX7_isSame_25 : decode cX7_isSame 25 = .ok (.aload_n 0, 1) := by decide +kernel
theorem dX7_isSame_26 : decode cX7_isSame 26 = .ok (.getfield 216, 3) := by decide +kernel
theorem dX7_isSame_29 : decode cX7_isSame 29 = .ok (.iload_n 3, 1) := by decide +kernel
theorem dX7_isSame_30 : decode cX7_isSame 30 = .ok (.iadd, 1) := by decide +kernel
theorem dX7_isSame_31 : decode cX7_isSame 31 = .ok (.aload_n 0, 1) := by decide +kernel
theorem dX7_isSame_32 : decode cX7_isSame 32 = .ok (.getfield 202, 3) := by decide +kernel
theorem dX7_isSame_35 : decode cX7_isSame 35 = .ok (.if_icmp .le 5, 3) := by decide +kernel
theorem dX7_isSame_38 : decode cX7_isSame 38 = .ok (.iconst 0, 1) := by decide +kernel
theorem dX7_isSame_39 : decode cX7_isSame 39 = .ok (.ireturn, 1) := by decide +kernel
theorem dX7_isSame_40 : decode cX7_isSame 40 = .ok (.iconst 1, 1) := by decide +kernel
theorem dX7_isSame_41 : decode cX7_isSame 41 = .ok (.istore 4, 2) := by decide +kernel
theorem dX7_isSame_43 : decode cX7_isSame 43 = .ok (.iconst 0, 1) := by decide +kernel
theorem dX7_isSame_44 : decode cX7_isSame 44 = .ok (.istore 5, 2) := by decide +kernel
theorem dX7_isSame_46 : decode cX7_isSame 46 = .ok (.iload 5, 2) := by decide +kernel
theorem dX7_isSame_48 : decode cX7_isSame 48 = .ok (.iload_n 3, 1) := by decide +kernel
theorem dX7_isSame_49 : decode cX7_isSame 49 = .ok (.if_icmp .ge 71, 3) := by decide +kernel
theorem dX7_isSame_52 : decode cX7_isSame 52 = .ok (.aload_n 0, 1) := by decide +kernel
theorem dX7_isSame_53 : decode cX7_isSame 53 = .ok (.getfield 13, 3) := by decide +kernel
theorem dX7_isSame_56 : decode cX7_isSame 56 = .ok (.iload_n 2, 1) := by decide +kernel
theorem dX7_isSame_57 : decode cX7_isSame 57 = .ok (.iload 5, 2) := by decide +kernel
theorem dX7_isSame_59 : decode cX7_isSame 59 = .ok (.iadd, 1) := by decide +kernel
theorem dX7_isSame_60 : decode cX7_isSame 60 = .ok (.caload, 1) := by decide +kernel
theorem dX7_isSame_61 : decode cX7_isSame 61 = .ok (.istore 6, 2) := by decide +kernel
theorem dX7_isSame_63 : decode cX7_isSame 63 = .ok (.aload_n 0, 1) := by decide +kernel
theorem dX7_isSame_64 : decode cX7_isSame 64 = .ok (.getfield 13, 3) := by decide +kernel
theorem dX7_isSame_67 : decode cX7_isSame 67 = .ok (.aload_n 0, 1) := by decide +kernel
theorem dX7_isSame_68 : decode cX7_isSame 68 = .ok (.getfield 216, 3) := by decide +kernel
theorem dX7_isSame_71 : decode cX7_isSame 71 = .ok (.iload 5, 2) := by decide +kernel
theorem dX7_isSame_73 : decode cX7_isSame 73 = .ok (.iadd, 1) := by decide +kernel
theorem dX7_isSame_74 : decode cX7_isSame 74 = .ok (.caload, 1) := by decide +kernel
theorem dX7_isSame_75 : decode cX7_isSame 75 = .ok (.istore 7, 2) := by decide +kernel
theorem dX7_isSame_77 : decode cX7_isSame 77 = .ok (.iload 4, 2) := by decide +kernel
theorem dX7_isSame_79 : decode cX7_isSame 79 = .ok (.ifCond .eq 32, 3) := by decide +kernel
theorem dX7_isSame_82 : decode cX7_isSame 82 = .ok (.iload 6, 2) := by decide +kernel
theorem dX7_isSame_84 : decode cX7_isSame 84 = .ok (.iload 7, 2) := by decide +kernel
theorem dX7_isSame_86 : decode cX7_isSame 86 = .ok (.if_icmp .eq 21, 3) := by decide +kernel
theorem dX7_isSame_89 : decode cX7_isSame 89 = .ok (.aload_n 0, 1) := by decide +kernel
theorem dX7_isSame_90 : decode cX7_isSame 90 = .ok (.iconst 4, 1) := by decide +kernel
theorem dX7_isSame_91 : decode cX7_isSame 91 = .ok (.invokevirtual 209, 3) := by decide +kernel
theorem dX7_isSame_94 : decode cX7_isSame 94 = .ok (.ifCond .eq 17, 3) := by decide +kernel
theorem dX7_isSame_97 : decode cX7_isSame 97 = .ok (.iload 6, 2) := by decide +kernel
theorem dX7_isSame_99 : decode cX7_isSame 99 = .ok (.invokestatic 222, 3) := by decide +kernel
theorem dX7_isSame_102 : decode cX7_isSame 102 = .ok (.iload 7, 2) := by decide +kernel
theorem dX7_isSame_104 : decode cX7_isSame 104 = .ok (.if_icmp .ne 7, 3) := by decide +kernel
theorem dX7_isSame_107 : decode cX7_isSame 107 = .ok (.iconst 1, 1) := by decide +kernel
theorem dX7_isSame_108 : decode cX7_isSame 108 = .ok (.goto 4, 3) := by decide +kernel
theorem dX7_isSame_111 : decode cX7_isSame 111 = .ok (.iconst 0, 1) := by decide +kernel
theorem dX7_isSame_112 : decode cX7_isSame 112 = .ok (.istore 4, 2) := by decide +kernel
theorem dX7_isSame_114 : decode cX7_isSame 114 = .ok (.iinc 5 1, 3) := by decide +kernel
theorem dX7_isSame_117 : decode cX7_isSame 117 = .ok (.goto (-71), 3) := by decide +kernel
theorem dX7_isSame_120 : decode cX7_isSame 120 = .ok (.iload 4, 2) := by decide +kernel
theorem dX7_isSame_122 : decode cX7_isSame 122 = .ok (.ifCond .eq 13, 3) := by decide +kernel
theorem dX7_isSame_125 : decode cX7_isSame 125 = .ok (.aload_n 0, 1) := by decide +kernel
theorem dX7_isSame_126 : decode cX7_isSame 126 = .ok (.dup, 1) := by decide +kernel
theorem dX7_isSame_127 : decode cX7_isSame 127 = .ok (.getfield 216, 3) := by decide +kernel
theorem dX7_isSame_130 : decode cX7_isSame 130 = .ok (.iload_n 3, 1) := by decide +kernel
theorem dX7_isSame_131 : decode cX7_isSame 131 = .ok (.iadd, 1) := by decide +kernel
theorem dX7_isSame_132 : decode cX7_isSame 132 = .ok (.putfield 216, 3) := by decide +kernel
theorem dX7_isSame_135 : decode cX7_isSame 135 = .ok (.iload 4, 2) := by decide +kernel
theorem dX7_isSame_137 : decode cX7_isSame 137 = .ok (.ireturn, 1) := by decide +kernel
theorem dX7_isIdle_0 : decode cX7_isIdle 0 = .ok (.aload_n 0, 1) := by decide +kernel
theorem dX7_isIdle_1 : decode cX7_isIdle 1 = .ok (.getfield 65, 3) := by decide +kernel
theorem dX7_isIdle_4 : decode cX7_isIdle 4 = .ok (.bipush 30, 2) := by decide +kernel
theorem dX7_isIdle_6 : decode cX7_isIdle 6 = .ok (.aload_n 0, 1) := by decide +kernel
theorem dX7_isIdle_7 : decode cX7_isIdle 7 = .ok (.getfield 29, 3) := by decide +kernel
theorem dX7_isIdle_10 : decode cX7_isIdle 10 = .ok (.iload_n 1, 1) := by decide +kernel
theorem dX7_isIdle_11 : decode cX7_isIdle 11 = .ok (.iaload, 1) := by decide +kernel
theorem dX7_isIdle_12 : decode cX7_isIdle 12 = .ok (.iadd, 1) := by decide +kernel
theorem dX7_isIdle_13 : decode cX7_isIdle 13 = .ok (.iaload, 1) := by decide +kernel
theorem dX7_isIdle_14 : decode cX7_isIdle 14 = .ok (.aload_n 0, 1) := by decide +kernel
theorem dX7_isIdle_15 : decode cX7_isIdle 15 = .ok (.getfield 23, 3) := by decide +kernel
theorem dX7_isIdle_18 : decode cX7_isIdle 18 = .ok (.iload_n 1, 1) := by decide +kernel
theorem dX7_isIdle_19 : decode cX7_isIdle 19 = .ok (.iaload, 1) := by decide +kernel
theorem dX7_isIdle_20 : decode cX7_isIdle 20 = .ok (.sipush 128, 3) := by decide +kernel
theorem dX7_isIdle_23 : decode cX7_isIdle 23 = .ok (.irem, 1) := by decide +kernel
theorem dX7_isIdle_24 : decode cX7_isIdle 24 = .ok (.if_icmp .le 28, 3) := by decide +kernel
theorem dX7_isIdle_27 : decode cX7_isIdle 27 = .ok (.aload_n 0, 1) := by decide +kernel
theorem dX7_isIdle_28 : decode cX7_isIdle 28 = .ok (.getfield 65, 3) := by decide +kernel
theorem dX7_isIdle_31 : decode cX7_isIdle 31 = .ok (.bipush 80, 2) := by decide +kernel
theorem dX7_isIdle_33 : decode cX7_isIdle 33 = .ok (.aload_n 0, 1) := by decide +kernel
theorem dX7_isIdle_34 : decode cX7_isIdle 34 = .ok (.getfield 29, 3) := by decide +kernel
theorem dX7_isIdle_37 : decode cX7_isIdle 37 = .ok (.iload_n 1, 1) := by decide +kernel
theorem dX7_isIdle_38 : decode cX7_isIdle 38 = .ok (.iaload, 1) := by decide +kernel
theorem dX7_isIdle_39 : decode cX7_isIdle 39 = .ok (.iadd, 1) := by decide +kernel
theorem dX7_isIdle_40 : decode cX7_isIdle 40 = .ok (.iaload, 1) := by decide +kernel
theorem dX7_isIdle_41 : decode cX7_isIdle 41 = .ok (.aload_n 0, 1) := by decide +kernel
theorem dX7_isIdle_42 : decode cX7_isIdle 42 = .ok (.getfield 216, 3) := by decide +kernel
theorem dX7_isIdle_45 : decode cX7_isIdle 45 = .ok (.if_icmp .ne 7, 3) := by decide +kernel
theorem dX7_isIdle_48 : decode cX7_isIdle 48 = .ok (.iconst 1, 1) := by decide +kernel
theorem dX7_isIdle_49 : decode cX7_isIdle 49 = .ok (.goto 4, 3) := by decide +kernel
theorem dX7_isIdle_52 : decode cX7_isIdle 52 = .ok (.iconst 0, 1) := by decide +kernel
theorem dX7_isIdle_53 : decode cX7_isIdle 53 = .ok (.ireturn, 1) := by decide +kernel
theorem dX7_looked_0 : decode cX7_looked 0 = .ok (.aload_n 0, 1) := by decide +kernel
theorem dX7_looked_1 : decode cX7_looked 1 = .ok (.getfield 65, 3) := by decide +kernel
theorem dX7_looked_4 : decode cX7_looked 4 = .ok (.sipush 130, 3) := by decide +kernel
theorem dX7_looked_7 : decode cX7_looked 7 = .ok (.aload_n 0, 1) := by decide +kernel
theorem dX7_looked_8 : decode cX7_looked 8 = .ok (.getfield 29, 3) := by decide +kernel
theorem dX7_looked_11 : decode cX7_looked 11 = .ok (.iload_n 1, 1) := by decide +kernel
theorem dX7_looked_12 : decode cX7_looked 12 = .ok (.iaload, 1) := by decide +kernel
theorem dX7_looked_13 : decode cX7_looked 13 = .ok (.iadd, 1) := by decide +kernel
theorem dX7_looked_14 : decode cX7_looked 14 = .ok (.iaload, 1) := by decide +kernel
theorem dX7_looked_15 : decode cX7_looked 15 = .ok (.istore_n 2, 1) := by decide +kernel
theorem dX7_looked_16 : decode cX7_looked 16 = .ok (.aload_n 0, 1) := by decide +kernel
theorem dX7_looked_17 : decode cX7_looked 17 = .ok (.aload_n 0, 1) := by decide +kernel
theorem dX7_looked_18 : decode cX7_looked 18 = .ok (.getfield 71, 3) := by decide +kernel
theorem dX7_looked_21 : decode cX7_looked 21 = .ok (.iload_n 2, 1) := by decide +kernel
theorem dX7_looked_22 : decode cX7_looked 22 = .ok (.iaload, 1) := by decide +kernel
theorem dX7_looked_23 : decode cX7_looked 23 = .ok (.sipush 1024, 3) := by decide +kernel
theorem dX7_looked_26 : decode cX7_looked 26 = .ok (.idiv, 1) := by decide +kernel
theorem dX7_looked_27 : decode cX7_looked 27 = .ok (.bipush 32, 2) := by decide +kernel
theorem dX7_looked_29 : decode cX7_looked 29 = .ok (.irem, 1) := by decide +kernel
theorem dX7_looked_30 : decode cX7_looked 30 = .ok (.putfield 216, 3) := by decide +kernel
theorem dX7_looked_33 : decode cX7_looked 33 = .ok (.aload_n 0, 1) := by decide +kernel
theorem dX7_looked_34 : decode cX7_looked 34 = .ok (.iload_n 2, 1) := by decide +kernel
theorem dX7_looked_35 : decode cX7_looked 35 = .ok (.putfield 228, 3) := by decide +kernel
theorem dX7_looked_38 : decode cX7_looked 38 = .ok (.return_, 1) := by decide +kernel
theorem dX7_order_0 : decode cX7_order 0 = .ok (.aload_n 0, 1) := by decide +kernel
theorem dX7_order_1 : decode cX7_order 1 = .ok (.getfield 235, 3) := by decide +kernel
theorem dX7_order_4 : decode cX7_order 4 = .ok (.istore_n 1, 1) := by decide +kernel
theorem dX7_order_5 : decode cX7_order 5 = .ok (.aload_n 0, 1) := by decide +kernel
theorem dX7_order_6 : decode cX7_order 6 = .ok (.iload_n 1, 1) := by decide +kernel
theorem dX7_order_7 : decode cX7_order 7 = .ok (.iconst 1, 1) := by decide +kernel
theorem dX7_order_8 : decode cX7_order 8 = .ok (.iadd, 1) := by decide +kernel
theorem dX7_order_9 : decode cX7_order 9 = .ok (.putfield 235, 3) := by decide +kernel
theorem dX7_order_12 : decode cX7_order 12 = .ok (.aload_n 0, 1) := by decide +kernel
theorem dX7_order_13 : decode cX7_order 13 = .ok (.getfield 19, 3) := by decide +kernel
theorem dX7_order_16 : decode cX7_order 16 = .ok (.iload_n 1, 1) := by decide +kernel
theorem dX7_order_17 : decode cX7_order 17 = .ok (.iaload, 1) := by decide +kernel
theorem dX7_order_18 : decode cX7_order 18 = .ok (.tableswitch 371 1 17 #[82, 108, 371, 371, 371, 371, 120, 135, 172, 211, 230, 273, 300, 321, 342, 371, 369], 82) := by decide +kernel
theorem dX7_order_100 : decode cX7_order 100 = .ok (.aload_n 0, 1) := by decide +kernel
theorem dX7_order_101 : decode cX7_order 101 = .ok (.invokevirtual 253, 3) := by decide +kernel
theorem dX7_order_104 : decode cX7_order 104 = .ok (.aload_n 0, 1) := by decide +kernel
theorem dX7_order_105 : decode cX7_order 105 = .ok (.getfield 23, 3) := by decide +kernel
theorem dX7_order_108 : decode cX7_order 108 = .ok (.iload_n 1, 1) := by decide +kernel
theorem dX7_order_109 : decode cX7_order 109 = .ok (.iaload, 1) := by decide +kernel
theorem dX7_order_110 : decode cX7_order 110 = .ok (.ifCond .lt 14, 3) := by decide +kernel
theorem dX7_order_113 : decode cX7_order 113 = .ok (.aload_n 0, 1) := by decide +kernel
theorem dX7_order_114 : decode cX7_order 114 = .ok (.iconst 0, 1) := by decide +kernel
theorem dX7_order_115 : decode cX7_order 115 = .ok (.aload_n 0, 1) := by decide +kernel
theorem dX7_order_116 : decode cX7_order 116 = .ok (.getfield 23, 3) := by decide +kernel
theorem dX7_order_119 : decode cX7_order 119 = .ok (.iload_n 1, 1) := by decide +kernel
theorem dX7_order_120 : decode cX7_order 120 = .ok (.iaload, 1) := by decide +kernel
theorem dX7_order_121 : decode cX7_order 121 = .ok (.invokevirtual 244, 3) := by decide +kernel
theorem dX7_order_124 : decode cX7_order 124 = .ok (.iconst 1, 1) := by decide +kernel
theorem dX7_order_125 : decode cX7_order 125 = .ok (.ireturn, 1) := by decide +kernel
theorem dX7_order_126 : decode cX7_order 126 = .ok (.aload_n 0, 1) := by decide +kernel
theorem dX7_order_127 : decode cX7_order 127 = .ok (.aload_n 0, 1) := by decide +kernel
theorem dX7_order_128 : decode cX7_order 128 = .ok (.getfield 23, 3) := by decide +kernel
theorem dX7_order_131 : decode cX7_order 131 = .ok (.iload_n 1, 1) := by decide +kernel
theorem dX7_order_132 : decode cX7_order 132 = .ok (.iaload, 1) := by decide +kernel
theorem dX7_order_133 : decode cX7_order 133 = .ok (.putfield 235, 3) := by decide +kernel
theorem dX7_order_136 : decode cX7_order 136 = .ok (.iconst 1, 1) := by decide +kernel
theorem dX7_order_137 : decode cX7_order 137 = .ok (.ireturn, 1) := by decide +kernel
theorem dX7_order_138 : decode cX7_order 138 = .ok (.aload_n 0, 1) := by decide +kernel
theorem dX7_order_139 : decode cX7_order 139 = .ok (.invokevirtual 253, 3) := by decide +kernel
theorem dX7_order_142 : decode cX7_order 142 = .ok (.aload_n 0, 1) := by decide +kernel
theorem dX7_order_143 : decode cX7_order 143 = .ok (.aload_n 0, 1) := by decide +kernel
theorem dX7_order_144 : decode cX7_order 144 = .ok (.getfield 23, 3) := by decide +kernel
theorem dX7_order_147 : decode cX7_order 147 = .ok (.iload_n 1, 1) := by decide +kernel
theorem dX7_order_148 : decode cX7_order 148 = .ok (.iaload, 1) := by decide +kernel
theorem dX7_order_149 : decode cX7_order 149 = .ok (.invokevirtual 256, 3) := by decide +kernel
theorem dX7_order_152 : decode cX7_order 152 = .ok (.ireturn, 1) := by decide +kernel
theorem dX7_order_153 : decode cX7_order 153 = .ok (.aload_n 0, 1) := by decide +kernel
theorem dX7_order_154 : decode cX7_order 154 = .ok (.getfield 216, 3) := by decide +kernel
theorem dX7_order_157 : decode cX7_order 157 = .ok (.ifCond .eq 27, 3) := by decide +kernel
theorem dX7_order_160 : decode cX7_order 160 = .ok (.aload_n 0, 1) := by decide +kernel
theorem dX7_order_161 : decode cX7_order 161 = .ok (.iconst 2, 1) := by decide +kernel
theorem dX7_order_162 : decode cX7_order 162 = .ok (.invokevirtual 209, 3) := by decide +kernel
theorem dX7_order_165 : decode cX7_order 165 = .ok (.ifCond .eq 23, 3) := by decide +kernel
theorem dX7_order_168 : decode cX7_order 168 = .ok (.aload_n 0, 1) := by decide +kernel
theorem dX7_order_169 : decode cX7_order 169 = .ok (.getfield 13, 3) := by decide +kernel
theorem dX7_order_172 : decode cX7_order 172 = .ok (.aload_n 0, 1) := by decide +kernel
theorem dX7_order_173 : decode cX7_order 173 = .ok (.getfield 216, 3) := by decide +kernel
theorem dX7_order_176 : decode cX7_order 176 = .ok (.iconst 1, 1) := by decide +kernel
theorem dX7_order_177 : decode cX7_order 177 = .ok (.isub, 1) := by decide +kernel
theorem dX7_order_178 : decode cX7_order 178 = .ok (.caload, 1) := by decide +kernel
theorem dX7_order_179 : decode cX7_order 179 = .ok (.bipush 47, 2) := by decide +kernel
theorem dX7_order_181 : decode cX7_order 181 = .ok (.if_icmp .ne 7, 3) := by decide +kernel
theorem dX7_order_184 : decode cX7_order 184 = .ok (.iconst 1, 1) := by decide +kernel
theorem dX7_order_185 : decode cX7_order 185 = .ok (.goto 4, 3) := by decide +kernel
theorem dX7_order_188 : decode cX7_order 188 = .ok (.iconst 0, 1) := by decide +kernel
theorem dX7_order_189 : decode cX7_order 189 = .ok (.ireturn, 1) := by decide +kernel
theorem dX7_order_190 : decode cX7_order 190 = .ok (.aload_n 0, 1) := by decide +kernel
theorem dX7_order_191 : decode cX7_order 191 = .ok (.getfield 216, 3) := by decide +kernel
theorem dX7_order_194 : decode cX7_order 194 = .ok (.aload_n 0, 1) := by decide +kernel
theorem dX7_order_195 : decode cX7_order 195 = .ok (.getfield 202, 3) := by decide +kernel
theorem dX7_order_198 : decode cX7_order 198 = .ok (.if_icmp .eq 25, 3) := by decide +kernel
theorem dX7_order_201 : decode cX7_order 201 = .ok (.aload_n 0, 1) := by decide +kernel
theorem dX7_order_202 : decode cX7_order 202 = .ok (.iconst 2, 1) := by decide +kernel
theorem dX7_order_203 : decode cX7_order 203 = .ok (.invokevirtual 209, 3) := by decide +kernel
theorem dX7_order_206 : decode cX7_order 206 = .ok (.ifCond .eq 21, 3) := by decide +kernel
theorem dX7_order_209 : decode cX7_order 209 = .ok (.aload_n 0, 1) := by decide +kernel
theorem dX7_order_210 : decode cX7_order 210 = .ok (.getfield 13, 3) := by decide +kernel
theorem dX7_order_213 : decode cX7_order 213 = .ok (.aload_n 0, 1) := by decide +kernel
theorem dX7_order_214 : decode cX7_order 214 = .ok (.getfield 216, 3) := by decide +kernel
theorem dX7_order_217 : decode cX7_order 217 = .ok (.caload, 1) := by decide +kernel
theorem dX7_order_218 : decode cX7_order 218 = .ok (.bipush 47, 2) := by decide +kernel
theorem dX7_order_220 : decode cX7_order 220 = .ok (.if_icmp .ne 7, 3) := by decide +kernel
theorem dX7_order_223 : decode cX7_order 223 = .ok (.iconst 1, 1) := by decide +kernel
theorem dX7_order_224 : decode cX7_order 224 = .ok (.goto 4, 3) := by decide +kernel
theorem dX7_order_227 : decode cX7_order 227 = .ok (.iconst 0, 1) := by decide +kernel
theorem dX7_order_228 : decode cX7_order 228 = .ok (.ireturn, 1) := by decide +kernel
theorem dX7_order_229 : decode cX7_order 229 = .ok (.aload_n 0, 1) := by decide +kernel
theorem dX7_order_230 : decode cX7_order 230 = .ok (.bipush 20, 2) := by decide +kernel
theorem dX7_order_232 : decode cX7_order 232 = .ok (.aload_n 0, 1) := by decide +kernel
theorem dX7_order_233 : decode cX7_order 233 = .ok (.getfield 23, 3) := by decide +kernel
theorem dX7_order_236 : decode cX7_order 236 = .ok (.iload_n 1, 1) := by decide +kernel
theorem dX7_order_237 : decode cX7_order 237 = .ok (.iaload, 1) := by decide +kernel
theorem dX7_order_238 : decode cX7_order 238 = .ok (.iadd, 1) := by decide +kernel
theorem dX7_order_239 : decode cX7_order 239 = .ok (.aload_n 0, 1) := by decide +kernel
theorem dX7_order_240 : decode cX7_order 240 = .ok (.getfield 216, 3) := by decide +kernel
theorem dX7_order_243 : decode cX7_order 243 = .ok (.invokevirtual 241, 3) := by decide +kernel
theorem dX7_order_246 : decode cX7_order 246 = .ok (.iconst 1, 1) := by decide +kernel
theorem dX7_order_247 : decode cX7_order 247 = .ok (.ireturn, 1) := by decide +kernel
theorem dX7_order_248 : decode cX7_order 248 = .ok (.aload_n 0, 1) := by decide +kernel
theorem dX7_order_249 : decode cX7_order 249 = .ok (.aload_n 0, 1) := by decide +kernel
theorem dX7_order_250 : decode cX7_order 250 = .ok (.getfield 23, 3) := by decide +kernel
theorem dX7_order_253 : decode cX7_order 253 = .ok (.iload_n 1, 1) := by decide +kernel
theorem dX7_order_254 : decode cX7_order 254 = .ok (.iaload, 1) := by decide +kernel
theorem dX7_order_255 : decode cX7_order 255 = .ok (.aload_n 0, 1) := by decide +kernel
theorem dX7_order_256 : decode cX7_order 256 = .ok (.getfield 65, 3) := by decide +kernel
theorem dX7_order_259 : decode cX7_order 259 = .ok (.bipush 20, 2) := by decide +kernel
theorem dX7_order_261 : decode cX7_order 261 = .ok (.aload_n 0, 1) := by decide +kernel
theorem dX7_order_262 : decode cX7_order 262 = .ok (.getfield 23, 3) := by decide +kernel
theorem dX7_order_265 : decode cX7_order 265 = .ok (.iload_n 1, 1) := by decide +kernel
theorem dX7_order_266 : decode cX7_order 266 = .ok (.iaload, 1) := by decide +kernel
theorem dX7_order_267 : decode cX7_order 267 = .ok (.iadd, 1) := by decide +kernel
theorem dX7_order_268 : decode cX7_order 268 = .ok (.iaload, 1) := by decide +kernel
theorem dX7_order_269 : decode cX7_order 269 = .ok (.invokevirtual 241, 3) := by decide +kernel
theorem dX7_order_272 : decode cX7_order 272 = .ok (.aload_n 0, 1) := by decide +kernel
theorem dX7_order_273 : decode cX7_order 273 = .ok (.bipush 10, 2) := by decide +kernel
theorem dX7_order_275 : decode cX7_order 275 = .ok (.aload_n 0, 1) := by decide +kernel
theorem dX7_order_276 : decode cX7_order 276 = .ok (.getfield 23, 3) := by decide +kernel
theorem dX7_order_279 : decode cX7_order 279 = .ok (.iload_n 1, 1) := by decide +kernel
theorem dX7_order_280 : decode cX7_order 280 = .ok (.iaload, 1) := by decide +kernel
theorem dX7_order_281 : decode cX7_order 281 = .ok (.iadd, 1) := by decide +kernel
theorem dX7_order_282 : decode cX7_order 282 = .ok (.aload_n 0, 1) := by decide +kernel
theorem dX7_order_283 : decode cX7_order 283 = .ok (.getfield 216, 3) := by decide +kernel
theorem dX7_order_286 : decode cX7_order 286 = .ok (.invokevirtual 241, 3) := by decide +kernel
theorem dX7_order_289 : decode cX7_order 289 = .ok (.iconst 1, 1) := by decide +kernel
theorem dX7_order_290 : decode cX7_order 290 = .ok (.ireturn, 1) := by decide +kernel
theorem dX7_order_291 : decode cX7_order 291 = .ok (.aload_n 0, 1) := by decide +kernel
theorem dX7_order_292 : decode cX7_order 292 = .ok (.getfield 65, 3) := by decide +kernel
theorem dX7_order_295 : decode cX7_order 295 = .ok (.sipush 130, 3) := by decide +kernel
theorem dX7_order_298 : decode cX7_order 298 = .ok (.aload_n 0, 1) := by decide +kernel
theorem dX7_order_299 : decode cX7_order 299 = .ok (.getfield 29, 3) := by decide +kernel
theorem dX7_order_302 : decode cX7_order 302 = .ok (.iload_n 1, 1) := by decide +kernel
theorem dX7_order_303 : decode cX7_order 303 = .ok (.iaload, 1) := by decide +kernel
theorem dX7_order_304 : decode cX7_order 304 = .ok (.iadd, 1) := by decide +kernel
theorem dX7_order_305 : decode cX7_order 305 = .ok (.aload_n 0, 1) := by decide +kernel
theorem dX7_order_306 : decode cX7_order 306 = .ok (.getfield 228, 3) := by decide +kernel
theorem dX7_order_309 : decode cX7_order 309 = .ok (.iastore, 1) := by decide +kernel
theorem dX7_order_310 : decode cX7_order 310 = .ok (.aload_n 0, 1) := by decide +kernel
theorem dX7_order_311 : decode cX7_order 311 = .ok (.iconst 2, 1) := by decide +kernel
theorem dX7_order_312 : decode cX7_order 312 = .ok (.iload_n 1, 1) := by decide +kernel
theorem dX7_order_313 : decode cX7_order 313 = .ok (.invokevirtual 244, 3) := by decide +kernel
theorem dX7_order_316 : decode cX7_order 316 = .ok (.iconst 1, 1) := by decide +kernel
theorem dX7_order_317 : decode cX7_order 317 = .ok (.ireturn, 1) := by decide +kernel
theorem dX7_order_318 : decode cX7_order 318 = .ok (.aload_n 0, 1) := by decide +kernel
theorem dX7_order_319 : decode cX7_order 319 = .ok (.iload_n 1, 1) := by decide +kernel
theorem dX7_order_320 : decode cX7_order 320 = .ok (.invokevirtual 259, 3) := by decide +kernel
theorem dX7_order_323 : decode cX7_order 323 = .ok (.aload_n 0, 1) := by decide +kernel
theorem dX7_order_324 : decode cX7_order 324 = .ok (.getfield 26, 3) := by decide +kernel
theorem dX7_order_327 : decode cX7_order 327 = .ok (.iload_n 1, 1) := by decide +kernel
theorem dX7_order_328 : decode cX7_order 328 = .ok (.iaload, 1) := by decide +kernel
theorem dX7_order_329 : decode cX7_order 329 = .ok (.iconst 1, 1) := by decide +kernel
theorem dX7_order_330 : decode cX7_order 330 = .ok (.if_icmp .ne 7, 3) := by decide +kernel
theorem dX7_order_333 : decode cX7_order 333 = .ok (.iconst 1, 1) := by decide +kernel
theorem dX7_order_334 : decode cX7_order 334 = .ok (.goto 4, 3) := by decide +kernel
theorem dX7_order_337 : decode cX7_order 337 = .ok (.iconst 0, 1) := by decide +kernel
theorem dX7_order_338 : decode cX7_order 338 = .ok (.ireturn, 1) := by decide +kernel
theorem dX7_order_339 : decode cX7_order 339 = .ok (.aload_n 0, 1) := by decide +kernel
theorem dX7_order_340 : decode cX7_order 340 = .ok (.bipush 30, 2) := by decide +kernel
theorem dX7_order_342 : decode cX7_order 342 = .ok (.aload_n 0, 1) := by decide +kernel
theorem dX7_order_343 : decode cX7_order 343 = .ok (.getfield 29, 3) := by decide +kernel
theorem dX7_order_346 : decode cX7_order 346 = .ok (.iload_n 1, 1) := by decide +kernel
theorem dX7_order_347 : decode cX7_order 347 = .ok (.iaload, 1) := by decide +kernel
theorem dX7_order_348 : decode cX7_order 348 = .ok (.iadd, 1) := by decide +kernel
theorem dX7_order_349 : decode cX7_order 349 = .ok (.iconst 0, 1) := by decide +kernel
theorem dX7_order_350 : decode cX7_order 350 = .ok (.invokevirtual 241, 3) := by decide +kernel
theorem dX7_order_353 : decode cX7_order 353 = .ok (.aload_n 0, 1) := by decide +kernel
theorem dX7_order_354 : decode cX7_order 354 = .ok (.iload_n 1, 1) := by decide +kernel
theorem dX7_order_355 : decode cX7_order 355 = .ok (.invokevirtual 262, 3) := by decide +kernel
theorem dX7_order_358 : decode cX7_order 358 = .ok (.iconst 1, 1) := by decide +kernel
theorem dX7_order_359 : decode cX7_order 359 = .ok (.ireturn, 1) := by decide +kernel
theorem dX7_order_360 : decode cX7_order 360 = .ok (.aload_n 0, 1) := by decide +kernel
theorem dX7_order_361 : decode cX7_order 361 = .ok (.aload_n 0, 1) := by decide +kernel
theorem dX7_order_362 : decode cX7_order 362 = .ok (.getfield 23, 3) := by decide +kernel
theorem dX7_order_365 : decode cX7_order 365 = .ok (.iload_n 1, 1) := by decide +kernel
theorem dX7_order_366 : decode cX7_order 366 = .ok (.iaload, 1) := by decide +kernel
theorem dX7_order_367 : decode cX7_order 367 = .ok (.invokevirtual 265, 3) := by decide +kernel
theorem dX7_order_370 : decode cX7_order 370 = .ok (.ifCond .eq 5, 3) := by decide +kernel
theorem dX7_order_373 : decode cX7_order 373 = .ok (.iconst 0, 1) := by decide +kernel
theorem dX7_order_374 : decode cX7_order 374 = .ok (.ireturn, 1) := by decide +kernel
theorem dX7_order_375 : decode cX7_order 375 = .ok (.aload_n 0, 1) := by decide +kernel
theorem dX7_order_376 : decode cX7_order 376 = .ok (.aload_n 0, 1) := by decide +kernel
theorem dX7_order_377 : decode cX7_order 377 = .ok (.getfield 23, 3) := by decide +kernel
theorem dX7_order_380 : decode cX7_order 380 = .ok (.iload_n 1, 1) := by decide +kernel
theorem dX7_order_381 : decode cX7_order 381 = .ok (.iaload, 1) := by decide +kernel
theorem dX7_order_382 : decode cX7_order 382 = .ok (.invokevirtual 262, 3) := by decide +kernel
theorem dX7_order_385 : decode cX7_order 385 = .ok (.iconst 1, 1) := by decide +kernel
theorem dX7_order_386 : decode cX7_order 386 = .ok (.ireturn, 1) := by decide +kernel
theorem dX7_order_387 : decode cX7_order 387 = .ok (.iconst 1, 1) := by decide +kernel
theorem dX7_order_388 : decode cX7_order 388 = .ok (.ireturn, 1) := by decide +kernel
theorem dX7_order_389 : decode cX7_order 389 = .ok (.aload_n 0, 1) := by decide +kernel
theorem dX7_order_390 : decode cX7_order 390 = .ok (.iload_n 1, 1) := by decide +kernel
theorem dX7_order_391 : decode cX7_order 391 = .ok (.invokevirtual 268, 3) := by decide +kernel
theorem dX7_order_394 : decode cX7_order 394 = .ok (.ireturn, 1) := by decide +kernel
theorem dX7_one_0 : decode cX7_one 0 = .ok (.aload_n 0, 1) := by decide +kernel
theorem dX7_one_1 : decode cX7_one 1 = .ok (.invokevirtual 253, 3) := by decide +kernel
theorem dX7_one_4 : decode cX7_one 4 = .ok (.aload_n 0, 1) := by decide +kernel
theorem dX7_one_5 : decode cX7_one 5 = .ok (.iload_n 1, 1) := by decide +kernel
theorem dX7_one_6 : decode cX7_one 6 = .ok (.invokevirtual 271, 3) := by decide +kernel
theorem dX7_one_9 : decode cX7_one 9 = .ok (.ifCond .ne 5, 3) := by decide +kernel
theorem dX7_one_12 : decode cX7_one 12 = .ok (.iconst 0, 1) := by decide +kernel
theorem dX7_one_13 : decode cX7_one 13 = .ok (.ireturn, 1) := by decide +kernel
theorem dX7_one_14 : decode cX7_one 14 = .ok (.aload_n 0, 1) := by decide +kernel
theorem dX7_one_15 : decode cX7_one 15 = .ok (.dup, 1) := by decide +kernel
theorem dX7_one_16 : decode cX7_one 16 = .ok (.getfield 216, 3) := by decide +kernel
theorem dX7_one_19 : decode cX7_one 19 = .ok (.iconst 1, 1) := by decide +kernel
theorem dX7_one_20 : decode cX7_one 20 = .ok (.iadd, 1) := by decide +kernel
theorem dX7_one_21 : decode cX7_one 21 = .ok (.putfield 216, 3) := by decide +kernel
theorem dX7_one_24 : decode cX7_one 24 = .ok (.iconst 1, 1) := by decide +kernel
theorem dX7_one_25 : decode cX7_one 25 = .ok (.ireturn, 1) := by decide +kernel
theorem dX7_tries_0 : decode cX7_tries 0 = .ok (.iconst 0, 1) := by decide +kernel
theorem dX7_tries_1 : decode cX7_tries 1 = .ok (.istore_n 2, 1) := by decide +kernel
theorem dX7_tries_2 : decode cX7_tries 2 = .ok (.iload_n 2, 1) := by decide +kernel
theorem dX7_tries_3 : decode cX7_tries 3 = .ok (.sipush 180, 3) := by decide +kernel
theorem dX7_tries_6 : decode cX7_tries 6 = .ok (.if_icmp .ge 16, 3) := by decide +kernel
theorem dX7_tries_9 : decode cX7_tries 9 = .ok (.aload_n 0, 1) := by decide +kernel
theorem dX7_tries_10 : decode cX7_tries 10 = .ok (.getfield 65, 3) := by decide +kernel
theorem dX7_tries_13 : decode cX7_tries 13 = .ok (.iload_n 2, 1) := by decide +kernel
theorem dX7_tries_14 : decode cX7_tries 14 = .ok (.iconst (-1), 1) := by decide +kernel
theorem dX7_tries_15 : decode cX7_tries 15 = .ok (.iastore, 1) := by decide +kernel
theorem dX7_tries_16 : decode cX7_tries 16 = .ok (.iinc 2 1, 3) := by decide +kernel
theorem dX7_tries_19 : decode cX7_tries 19 = .ok (.goto (-17), 3) := by decide +kernel
theorem dX7_tries_22 : decode cX7_tries 22 = .ok (.aload_n 0, 1) := by decide +kernel
theorem dX7_tries_23 : decode cX7_tries 23 = .ok (.iconst 0, 1) := by decide +kernel
theorem dX7_tries_24 : decode cX7_tries 24 = .ok (.putfield 225, 3) := by decide +kernel
theorem dX7_tries_27 : decode cX7_tries 27 = .ok (.aload_n 0, 1) := by decide +kernel
theorem dX7_tries_28 : decode cX7_tries 28 = .ok (.iconst 0, 1) := by decide +kernel
theorem dX7_tries_29 : decode cX7_tries 29 = .ok (.putfield 228, 3) := by decide +kernel
theorem dX7_tries_32 : decode cX7_tries 32 = .ok (.aload_n 0, 1) := by decide +kernel
theorem dX7_tries_33 : decode cX7_tries 33 = .ok (.iload_n 1, 1) := by decide +kernel
theorem dX7_tries_34 : decode cX7_tries 34 = .ok (.putfield 216, 3) := by decide +kernel
theorem dX7_tries_37 : decode cX7_tries 37 = .ok (.aload_n 0, 1) := by decide +kernel
theorem dX7_tries_38 : decode cX7_tries 38 = .ok (.iconst 0, 1) := by decide +kernel
theorem dX7_tries_39 : decode cX7_tries 39 = .ok (.putfield 235, 3) := by decide +kernel
theorem dX7_tries_42 : decode cX7_tries 42 = .ok (.aload_n 0, 1) := by decide +kernel
theorem dX7_tries_43 : decode cX7_tries 43 = .ok (.getfield 19, 3) := by decide +kernel
theorem dX7_tries_46 : decode cX7_tries 46 = .ok (.aload_n 0, 1) := by decide +kernel
theorem dX7_tries_47 : decode cX7_tries 47 = .ok (.getfield 235, 3) := by decide +kernel
theorem dX7_tries_50 : decode cX7_tries 50 = .ok (.iaload, 1) := by decide +kernel
theorem dX7_tries_51 : decode cX7_tries 51 = .ok (.bipush 16, 2) := by decide +kernel
theorem dX7_tries_53 : decode cX7_tries 53 = .ok (.if_icmp .eq 26, 3) := by decide +kernel
theorem dX7_tries_56 : decode cX7_tries 56 = .ok (.aload_n 0, 1) := by decide +kernel
theorem dX7_tries_57 : decode cX7_tries 57 = .ok (.getfield 247, 3) := by decide +kernel
theorem dX7_tries_60 : decode cX7_tries 60 = .ok (.ifCond .ne 19, 3) := by decide +kernel
theorem dX7_tries_63 : decode cX7_tries 63 = .ok (.aload_n 0, 1) := by decide +kernel
theorem dX7_tries_64 : decode cX7_tries 64 = .ok (.invokevirtual 274, 3) := by decide +kernel
theorem dX7_tries_67 : decode cX7_tries 67 = .ok (.ifCond .ne (-25), 3) := by decide +kernel
theorem dX7_tries_70 : decode cX7_tries 70 = .ok (.aload_n 0, 1) := by decide +kernel
theorem dX7_tries_71 : decode cX7_tries 71 = .ok (.invokevirtual 277, 3) := by decide +kernel
theorem dX7_tries_74 : decode cX7_tries 74 = .ok (.ifCond .ne (-32), 3) := by decide +kernel
theorem dX7_tries_77 : decode cX7_tries 77 = .ok (.iconst 0, 1) := by decide +kernel
theorem dX7_tries_78 : decode cX7_tries 78 = .ok (.ireturn, 1) := by decide +kernel
theorem dX7_tries_79 : decode cX7_tries 79 = .ok (.aload_n 0, 1) := by decide +kernel
theorem dX7_tries_80 : decode cX7_tries 80 = .ok (.getfield 247, 3) := by decide +kernel
theorem dX7_tries_83 : decode cX7_tries 83 = .ok (.ifCond .ne 7, 3) := by decide +kernel
theorem dX7_tries_86 : decode cX7_tries 86 = .ok (.iconst 1, 1) := by decide +kernel
theorem dX7_tries_87 : decode cX7_tries 87 = .ok (.goto 4, 3) := by decide +kernel
theorem dX7_tries_90 : decode cX7_tries 90 = .ok (.iconst 0, 1) := by decide +kernel
theorem dX7_tries_91 : decode cX7_tries 91 = .ok (.ireturn, 1) := by decide +kernel
theorem dX7_search_0 : decode cX7_search 0 = .ok (.aload_n 0, 1) := by decide +kernel
theorem dX7_search_1 : decode cX7_search 1 = .ok (.iconst 0, 1) := by decide +kernel
theorem dX7_search_2 : decode cX7_search 2 = .ok (.putfield 250, 3) := by decide +kernel
theorem dX7_search_5 : decode cX7_search 5 = .ok (.aload_n 0, 1) := by decide +kernel
theorem dX7_search_6 : decode cX7_search 6 = .ok (.iconst 0, 1) := by decide +kernel
theorem dX7_search_7 : decode cX7_search 7 = .ok (.putfield 247, 3) := by decide +kernel
theorem dX7_search_10 : decode cX7_search 10 = .ok (.iload_n 1, 1) := by decide +kernel
theorem dX7_search_11 : decode cX7_search 11 = .ok (.istore_n 2, 1) := by decide +kernel
theorem dX7_search_12 : decode cX7_search 12 = .ok (.iload_n 2, 1) := by decide +kernel
theorem dX7_search_13 : decode cX7_search 13 = .ok (.aload_n 0, 1) := by decide +kernel
theorem dX7_search_14 : decode cX7_search 14 = .ok (.getfield 202, 3) := by decide +kernel
theorem dX7_search_17 : decode cX7_search 17 = .ok (.if_icmp .gt 36, 3) := by decide +kernel
theorem dX7_search_20 : decode cX7_search 20 = .ok (.aload_n 0, 1) := by decide +kernel
theorem dX7_search_21 : decode cX7_search 21 = .ok (.getfield 247, 3) := by decide +kernel
theorem dX7_search_24 : decode cX7_search 24 = .ok (.ifCond .ne 29, 3) := by decide +kernel
theorem dX7_search_27 : decode cX7_search 27 = .ok (.aload_n 0, 1) := by decide +kernel
theorem dX7_search_28 : decode cX7_search 28 = .ok (.iload_n 2, 1) := by decide +kernel
theorem dX7_search_29 : decode cX7_search 29 = .ok (.invokevirtual 280, 3) := by decide +kernel
theorem dX7_search_32 : decode cX7_search 32 = .ok (.ifCond .eq 5, 3) := by decide +kernel
theorem dX7_search_35 : decode cX7_search 35 = .ok (.iload_n 2, 1) := by decide +kernel
theorem dX7_search_36 : decode cX7_search 36 = .ok (.ireturn, 1) := by decide +kernel
theorem dX7_search_37 : decode cX7_search 37 = .ok (.aload_n 0, 1) := by decide +kernel
theorem dX7_search_38 : decode cX7_search 38 = .ok (.iconst 1, 1) := by decide +kernel
theorem dX7_search_39 : decode cX7_search 39 = .ok (.invokevirtual 209, 3) := by decide +kernel
theorem dX7_search_42 : decode cX7_search 42 = .ok (.ifCond .eq 5, 3) := by decide +kernel
theorem dX7_search_45 : decode cX7_search 45 = .ok (.iconst (-1), 1) := by decide +kernel
theorem dX7_search_46 : decode cX7_search 46 = .ok (.ireturn, 1) := by decide +kernel
theorem dX7_search_47 : decode cX7_search 47 = .ok (.iinc 2 1, 3) := by decide +kernel
theorem dX7_search_50 : decode cX7_search 50 = .ok (.goto (-38), 3) := by decide +kernel
theorem dX7_search_53 : decode cX7_search 53 = .ok (.iconst (-1), 1) := by decide +kernel
theorem dX7_search_54 : decode cX7_search 54 = .ok (.ireturn, 1) := by decide +kernel
theorem dX7_find_0 : decode cX7_find 0 = .ok (.aload_n 0, 1) := by decide +kernel
theorem dX7_find_1 : decode cX7_find 1 = .ok (.iconst 0, 1) := by decide +kernel
theorem dX7_find_2 : decode cX7_find 2 = .ok (.putfield 98, 3) := by decide +kernel
theorem dX7_find_5 : decode cX7_find 5 = .ok (.aload_n 0, 1) := by decide +kernel
theorem dX7_find_6 : decode cX7_find 6 = .ok (.aload_n 0, 1) := by decide +kernel
theorem dX7_find_7 : decode cX7_find 7 = .ok (.getfield 196, 3) := by decide +kernel
theorem dX7_find_10 : decode cX7_find 10 = .ok (.invokevirtual 283, 3) := by decide +kernel
theorem dX7_find_13 : decode cX7_find 13 = .ok (.istore_n 1, 1) := by decide +kernel
theorem dX7_find_14 : decode cX7_find 14 = .ok (.aload_n 0, 1) := by decide +kernel
theorem dX7_find_15 : decode cX7_find 15 = .ok (.getfield 247, 3) := by decide +kernel
theorem dX7_find_18 : decode cX7_find 18 = .ok (.ifCond .eq 9, 3) := by decide +kernel
theorem dX7_find_21 : decode cX7_find 21 = .ok (.aload_n 0, 1) := by decide +kernel
theorem dX7_find_22 : decode cX7_find 22 = .ok (.iconst 1, 1) := by decide +kernel
theorem dX7_find_23 : decode cX7_find 23 = .ok (.invokevirtual 104, 3) := by decide +kernel
theorem dX7_find_26 : decode cX7_find 26 = .ok (.ireturn, 1) := by decide +kernel
theorem dX7_find_27 : decode cX7_find 27 = .ok (.aload_n 0, 1) := by decide +kernel
theorem dX7_find_28 : decode cX7_find 28 = .ok (.aload_n 0, 1) := by decide +kernel
theorem dX7_find_29 : decode cX7_find 29 = .ok (.getfield 250, 3) := by decide +kernel
theorem dX7_find_32 : decode cX7_find 32 = .ok (.putfield 286, 3) := by decide +kernel
theorem dX7_find_35 : decode cX7_find 35 = .ok (.aload_n 0, 1) := by decide +kernel
theorem dX7_find_36 : decode cX7_find 36 = .ok (.iload_n 1, 1) := by decide +kernel
theorem dX7_find_37 : decode cX7_find 37 = .ok (.ifCond .lt 7, 3) := by decide +kernel
theorem dX7_find_40 : decode cX7_find 40 = .ok (.iconst 1, 1) := by decide +kernel
theorem dX7_find_41 : decode cX7_find 41 = .ok (.goto 4, 3) := by decide +kernel
theorem dX7_find_44 : decode cX7_find 44 = .ok (.iconst 0, 1) := by decide +kernel
theorem dX7_find_45 : decode cX7_find 45 = .ok (.putfield 199, 3) := by decide +kernel
theorem dX7_find_48 : decode cX7_find 48 = .ok (.aload_n 0, 1) := by decide +kernel
theorem dX7_find_49 : decode cX7_find 49 = .ok (.aload_n 0, 1) := by decide +kernel
theorem dX7_find_50 : decode cX7_find 50 = .ok (.getfield 199, 3) := by decide +kernel
theorem dX7_find_53 : decode cX7_find 53 = .ok (.ifCond .eq 10, 3) := by decide +kernel
theorem dX7_find_56 : decode cX7_find 56 = .ok (.aload_n 0, 1) := by decide +kernel
theorem dX7_find_57 : decode cX7_find 57 = .ok (.getfield 216, 3) := by decide +kernel
theorem dX7_find_60 : decode cX7_find 60 = .ok (.goto 4, 3) := by decide +kernel
theorem dX7_find_63 : decode cX7_find 63 = .ok (.iconst 0, 1) := by decide +kernel
theorem dX7_find_64 : decode cX7_find 64 = .ok (.putfield 196, 3) := by decide +kernel
theorem dX7_find_67 : decode cX7_find 67 = .ok (.iconst 1, 1) := by decide +kernel
theorem dX7_find_68 : decode cX7_find 68 = .ok (.istore_n 2, 1) := by decide +kernel
theorem dX7_find_69 : decode cX7_find 69 = .ok (.iload_n 2, 1) := by decide +kernel
theorem dX7_find_70 : decode cX7_find 70 = .ok (.aload_n 0, 1) := by decide +kernel
theorem dX7_find_71 : decode cX7_find 71 = .ok (.getfield 190, 3) := by decide +kernel
theorem dX7_find_74 : decode cX7_find 74 = .ok (.if_icmp .gt 36, 3) := by decide +kernel
theorem dX7_find_77 : decode cX7_find 77 = .ok (.aload_n 0, 1) := by decide +kernel
theorem dX7_find_78 : decode cX7_find 78 = .ok (.getfield 74, 3) := by decide +kernel
theorem dX7_find_81 : decode cX7_find 81 = .ok (.iload_n 2, 1) := by decide +kernel
theorem dX7_find_82 : decode cX7_find 82 = .ok (.aload_n 0, 1) := by decide +kernel
theorem dX7_find_83 : decode cX7_find 83 = .ok (.getfield 65, 3) := by decide +kernel
theorem dX7_find_86 : decode cX7_find 86 = .ok (.iload_n 2, 1) := by decide +kernel
theorem dX7_find_87 : decode cX7_find 87 = .ok (.iaload, 1) := by decide +kernel
theorem dX7_find_88 : decode cX7_find 88 = .ok (.iastore, 1) := by decide +kernel
theorem dX7_find_89 : decode cX7_find 89 = .ok (.aload_n 0, 1) := by decide +kernel
theorem dX7_find_90 : decode cX7_find 90 = .ok (.getfield 77, 3) := by decide +kernel
theorem dX7_find_93 : decode cX7_find 93 = .ok (.iload_n 2, 1) := by decide +kernel
theorem dX7_find_94 : decode cX7_find 94 = .ok (.aload_n 0, 1) := by decide +kernel
theorem dX7_find_95 : decode cX7_find 95 = .ok (.getfield 65, 3) := by decide +kernel
theorem dX7_find_98 : decode cX7_find 98 = .ok (.bipush 10, 2) := by decide +kernel
theorem dX7_find_100 : decode cX7_find 100 = .ok (.iload_n 2, 1) := by decide +kernel
theorem dX7_find_101 : decode cX7_find 101 = .ok (.iadd, 1) := by decide +kernel
theorem dX7_find_102 : decode cX7_find 102 = .ok (.iaload, 1) := by decide +kernel
theorem dX7_find_103 : decode cX7_find 103 = .ok (.iastore, 1) := by decide +kernel
theorem dX7_find_104 : decode cX7_find 104 = .ok (.iinc 2 1, 3) := by decide +kernel
theorem dX7_find_107 : decode cX7_find 107 = .ok (.goto (-38), 3) := by decide +kernel
theorem dX7_find_110 : decode cX7_find 110 = .ok (.aload_n 0, 1) := by decide +kernel
theorem dX7_find_111 : decode cX7_find 111 = .ok (.getfield 74, 3) := by decide +kernel
theorem dX7_find_114 : decode cX7_find 114 = .ok (.iconst 0, 1) := by decide +kernel
theorem dX7_find_115 : decode cX7_find 115 = .ok (.iload_n 1, 1) := by decide +kernel
theorem dX7_find_116 : decode cX7_find 116 = .ok (.iastore, 1) := by decide +kernel
theorem dX7_find_117 : decode cX7_find 117 = .ok (.aload_n 0, 1) := by decide +kernel
theorem dX7_find_118 : decode cX7_find 118 = .ok (.getfield 77, 3) := by decide +kernel
theorem dX7_find_121 : decode cX7_find 121 = .ok (.iconst 0, 1) := by decide +kernel
theorem dX7_find_122 : decode cX7_find 122 = .ok (.aload_n 0, 1) := by decide +kernel
theorem dX7_find_123 : decode cX7_find 123 = .ok (.getfield 216, 3) := by decide +kernel
theorem dX7_find_126 : decode cX7_find 126 = .ok (.iastore, 1) := by decide +kernel
theorem dX7_find_127 : decode cX7_find 127 = .ok (.iload_n 1, 1) := by decide +kernel
theorem dX7_find_128 : decode cX7_find 128 = .ok (.ireturn, 1) := by decide +kernel
theorem dX7_isGroup_0 : decode cX7_isGroup 0 = .ok (.aload_n 0, 1) := by decide +kernel
theorem dX7_isGroup_1 : decode cX7_isGroup 1 = .ok (.getfield 199, 3) := by decide +kernel
theorem dX7_isGroup_4 : decode cX7_isGroup 4 = .ok (.ifCond .eq 19, 3) := by decide +kernel
theorem dX7_isGroup_7 : decode cX7_isGroup 7 = .ok (.iload_n 1, 1) := by decide +kernel
theorem dX7_isGroup_8 : decode cX7_isGroup 8 = .ok (.ifCond .lt 15, 3) := by decide +kernel
theorem dX7_isGroup_11 : decode cX7_isGroup 11 = .ok (.iload_n 1, 1) := by decide +kernel
theorem dX7_isGroup_12 : decode cX7_isGroup 12 = .ok (.aload_n 0, 1) := by decide +kernel
theorem dX7_isGroup_13 : decode cX7_isGroup 13 = .ok (.getfield 190, 3) := by decide +kernel
theorem dX7_isGroup_16 : decode cX7_isGroup 16 = .ok (.if_icmp .gt 7, 3) := by decide +kernel
theorem dX7_isGroup_19 : decode cX7_isGroup 19 = .ok (.iconst 1, 1) := by decide +kernel
theorem dX7_isGroup_20 : decode cX7_isGroup 20 = .ok (.goto 4, 3) := by decide +kernel
theorem dX7_isGroup_23 : decode cX7_isGroup 23 = .ok (.iconst 0, 1) := by decide +kernel
theorem dX7_isGroup_24 : decode cX7_isGroup 24 = .ok (.ireturn, 1) := by decide +kernel
theorem dX7_from_0 : decode cX7_from 0 = .ok (.aload_n 0, 1) := by decide +kernel
theorem dX7_from_1 : decode cX7_from 1 = .ok (.iconst 0, 1) := by decide +kernel
theorem dX7_from_2 : decode cX7_from 2 = .ok (.putfield 98, 3) := by decide +kernel
theorem dX7_from_5 : decode cX7_from 5 = .ok (.aload_n 0, 1) := by decide +kernel
theorem dX7_from_6 : decode cX7_from 6 = .ok (.iload_n 1, 1) := by decide +kernel
theorem dX7_from_7 : decode cX7_from 7 = .ok (.invokevirtual 289, 3) := by decide +kernel
theorem dX7_from_10 : decode cX7_from 10 = .ok (.ifCond .eq 12, 3) := by decide +kernel
theorem dX7_from_13 : decode cX7_from 13 = .ok (.aload_n 0, 1) := by decide +kernel
theorem dX7_from_14 : decode cX7_from 14 = .ok (.getfield 74, 3) := by decide +kernel
theorem dX7_from_17 : decode cX7_from 17 = .ok (.iload_n 1, 1) := by decide +kernel
