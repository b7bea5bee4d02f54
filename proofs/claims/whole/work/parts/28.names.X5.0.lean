theorem dX5_init_0 : decode cX5_init 0 = .ok (.aload_n 0, 1) := by decide +kernel
theorem dX5_init_1 : decode cX5_init 1 = .ok (.invokespecial 3, 3) := by decide +kernel
theorem dX5_init_4 : decode cX5_init 4 = .ok (.return_, 1) := by decide +kernel
theorem dX5_lower_0 : decode cX5_lower 0 = .ok (.aload_n 0, 1) := by decide +kernel
theorem dX5_lower_1 : decode cX5_lower 1 = .ok (.getfield 9, 3) := by decide +kernel
theorem dX5_lower_4 : decode cX5_lower 4 = .ok (.lreturn, 1) := by decide +kernel
theorem dX5_upper_0 : decode cX5_upper 0 = .ok (.aload_n 0, 1) := by decide +kernel
theorem dX5_upper_1 : decode cX5_upper 1 = .ok (.getfield 13, 3) := by decide +kernel
theorem dX5_upper_4 : decode cX5_upper 4 = .ok (.lreturn, 1) := by decide +kernel
theorem dX5_clear_0 : decode cX5_clear 0 = .ok (.aload_n 0, 1) := by decide +kernel
theorem dX5_clear_1 : decode cX5_clear 1 = .ok (.lconst 0, 1) := by decide +kernel
theorem dX5_clear_2 : decode cX5_clear 2 = .ok (.putfield 9, 3) := by decide +kernel
theorem dX5_clear_5 : decode cX5_clear 5 = .ok (.aload_n 0, 1) := by decide +kernel
theorem dX5_clear_6 : decode cX5_clear 6 = .ok (.lconst 0, 1) := by decide +kernel
theorem dX5_clear_7 : decode cX5_clear 7 = .ok (.putfield 13, 3) := by decide +kernel
theorem dX5_clear_10 : decode cX5_clear 10 = .ok (.return_, 1) := by decide +kernel
theorem dX5_add_0 : decode cX5_add 0 = .ok (.iload_n 1, 1) := by decide +kernel
theorem dX5_add_1 : decode cX5_add 1 = .ok (.bipush 64, 2) := by decide +kernel
theorem dX5_add_3 : decode cX5_add 3 = .ok (.if_icmp .ge 18, 3) := by decide +kernel
theorem dX5_add_6 : decode cX5_add 6 = .ok (.aload_n 0, 1) := by decide +kernel
theorem dX5_add_7 : decode cX5_add 7 = .ok (.dup, 1) := by decide +kernel
theorem dX5_add_8 : decode cX5_add 8 = .ok (.getfield 9, 3) := by decide +kernel
theorem dX5_add_11 : decode cX5_add 11 = .ok (.lconst 1, 1) := by decide +kernel
theorem dX5_add_12 : decode cX5_add 12 = .ok (.iload_n 1, 1) := by decide +kernel
theorem dX5_add_13 : decode cX5_add 13 = .ok (.lshl, 1) := by decide +kernel
theorem dX5_add_14 : decode cX5_add 14 = .ok (.lor, 1) := by decide +kernel
theorem dX5_add_15 : decode cX5_add 15 = .ok (.putfield 9, 3) := by decide +kernel
theorem dX5_add_18 : decode cX5_add 18 = .ok (.goto 18, 3) := by decide +kernel
theorem dX5_add_21 : decode cX5_add 21 = .ok (.aload_n 0, 1) := by decide +kernel
theorem dX5_add_22 : decode cX5_add 22 = .ok (.dup, 1) := by decide +kernel
theorem dX5_add_23 : decode cX5_add 23 = .ok (.getfield 13, 3) := by decide +kernel
theorem dX5_add_26 : decode cX5_add 26 = .ok (.lconst 1, 1) := by decide +kernel
theorem dX5_add_27 : decode cX5_add 27 = .ok (.iload_n 1, 1) := by decide +kernel
theorem dX5_add_28 : decode cX5_add 28 = .ok (.bipush 64, 2) := by decide +kernel
theorem dX5_add_30 : decode cX5_add 30 = .ok (.isub, 1) := by decide +kernel
theorem dX5_add_31 : decode cX5_add 31 = .ok (.lshl, 1) := by decide +kernel
theorem dX5_add_32 : decode cX5_add 32 = .ok (.lor, 1) := by decide +kernel
theorem dX5_add_33 : decode cX5_add 33 = .ok (.putfield 13, 3) := by decide +kernel
theorem dX5_add_36 : decode cX5_add 36 = .ok (.return_, 1) := by decide +kernel
theorem dX5_addRange_0 : decode cX5_addRange 0 = .ok (.iload_n 1, 1) := by decide +kernel
theorem dX5_addRange_1 : decode cX5_addRange 1 = .ok (.istore_n 3, 1) := by decide +kernel
theorem dX5_addRange_2 : decode cX5_addRange 2 = .ok (.iload_n 3, 1) := by decide +kernel
theorem dX5_addRange_3 : decode cX5_addRange 3 = .ok (.iload_n 2, 1) := by decide +kernel
theorem dX5_addRange_4 : decode cX5_addRange 4 = .ok (.if_icmp .gt 14, 3) := by decide +kernel
theorem dX5_addRange_7 : decode cX5_addRange 7 = .ok (.aload_n 0, 1) := by decide +kernel
theorem dX5_addRange_8 : decode cX5_addRange 8 = .ok (.iload_n 3, 1) := by decide +kernel
theorem dX5_addRange_9 : decode cX5_addRange 9 = .ok (.invokevirtual 16, 3) := by decide +kernel
theorem dX5_addRange_12 : decode cX5_addRange 12 = .ok (.iinc 3 1, 3) := by decide +kernel
theorem dX5_addRange_15 : decode cX5_addRange 15 = .ok (.goto (-13), 3) := by decide +kernel
theorem dX5_addRange_18 : decode cX5_addRange 18 = .ok (.return_, 1) := by decide +kernel
theorem dX5_addKind_0 : decode cX5_addKind 0 = .ok (.iload_n 1, 1) := by decide +kernel
theorem dX5_addKind_1 : decode cX5_addKind 1 = .ok (.lookupswitch 133 #[(68, 70), (83, 120), (87, 96), (100, 59), (115, 109), (119, 83)], 59) := by decide +kernel
theorem dX5_addKind_60 : decode cX5_addKind 60 = .ok (.aload_n 0, 1) := by decide +kernel
theorem dX5_addKind_61 : decode cX5_addKind 61 = .ok (.ldc2_w 20, 3) := by decide +kernel
theorem dX5_addKind_64 : decode cX5_addKind 64 = .ok (.lconst 0, 1) := by decide +kernel
theorem dX5_addKind_65 : decode cX5_addKind 65 = .ok (.invokevirtual 22, 3) := by decide +kernel
theorem dX5_addKind_68 : decode cX5_addKind 68 = .ok (.goto 66, 3) := by decide +kernel
theorem dX5_addKind_71 : decode cX5_addKind 71 = .ok (.aload_n 0, 1) := by decide +kernel
theorem dX5_addKind_72 : decode cX5_addKind 72 = .ok (.ldc2_w 26, 3) := by decide +kernel
theorem dX5_addKind_75 : decode cX5_addKind 75 = .ok (.ldc2_w 28, 3) := by decide +kernel
theorem dX5_addKind_78 : decode cX5_addKind 78 = .ok (.invokevirtual 22, 3) := by decide +kernel
theorem dX5_addKind_81 : decode cX5_addKind 81 = .ok (.goto 53, 3) := by decide +kernel
theorem dX5_addKind_84 : decode cX5_addKind 84 = .ok (.aload_n 0, 1) := by decide +kernel
theorem dX5_addKind_85 : decode cX5_addKind 85 = .ok (.ldc2_w 20, 3) := by decide +kernel
theorem dX5_addKind_88 : decode cX5_addKind 88 = .ok (.ldc2_w 30, 3) := by decide +kernel
theorem dX5_addKind_91 : decode cX5_addKind 91 = .ok (.invokevirtual 22, 3) := by decide +kernel
theorem dX5_addKind_94 : decode cX5_addKind 94 = .ok (.goto 40, 3) := by decide +kernel
theorem dX5_addKind_97 : decode cX5_addKind 97 = .ok (.aload_n 0, 1) := by decide +kernel
theorem dX5_addKind_98 : decode cX5_addKind 98 = .ok (.ldc2_w 26, 3) := by decide +kernel
theorem dX5_addKind_101 : decode cX5_addKind 101 = .ok (.ldc2_w 32, 3) := by decide +kernel
theorem dX5_addKind_104 : decode cX5_addKind 104 = .ok (.invokevirtual 22, 3) := by decide +kernel
theorem dX5_addKind_107 : decode cX5_addKind 107 = .ok (.goto 27, 3) := by decide +kernel
theorem dX5_addKind_110 : decode cX5_addKind 110 = .ok (.aload_n 0, 1) := by decide +kernel
theorem dX5_addKind_111 : decode cX5_addKind 111 = .ok (.ldc2_w 34, 3) := by decide +kernel
theorem dX5_addKind_114 : decode cX5_addKind 114 = .ok (.lconst 0, 1) := by decide +kernel
theorem dX5_addKind_115 : decode cX5_addKind 115 = .ok (.invokevirtual 22, 3) := by decide +kernel
theorem dX5_addKind_118 : decode cX5_addKind 118 = .ok (.goto 16, 3) := by decide +kernel
theorem dX5_addKind_121 : decode cX5_addKind 121 = .ok (.aload_n 0, 1) := by decide +kernel
theorem dX5_addKind_122 : decode cX5_addKind 122 = .ok (.ldc2_w 36, 3) := by decide +kernel
theorem dX5_addKind_125 : decode cX5_addKind 125 = .ok (.ldc2_w 28, 3) := by decide +kernel
theorem dX5_addKind_128 : decode cX5_addKind 128 = .ok (.invokevirtual 22, 3) := by decide +kernel
theorem dX5_addKind_131 : decode cX5_addKind 131 = .ok (.goto 3, 3) := by decide +kernel
theorem dX5_addKind_134 : decode cX5_addKind 134 = .ok (.return_, 1) := by decide +kernel
theorem dX5_addSameLetters_0 : decode cX5_addSameLetters 0 = .ok (.aload_n 0, 1) := by decide +kernel
theorem dX5_addSameLetters_1 : decode cX5_addSameLetters 1 = .ok (.getfield 13, 3) := by decide +kernel
theorem dX5_addSameLetters_4 : decode cX5_addSameLetters 4 = .ok (.ldc2_w 38, 3) := by decide +kernel
theorem dX5_addSameLetters_7 : decode cX5_addSameLetters 7 = .ok (.land, 1) := by decide +kernel
theorem dX5_addSameLetters_8 : decode cX5_addSameLetters 8 = .ok (.bipush 32, 2) := by decide +kernel
theorem dX5_addSameLetters_10 : decode cX5_addSameLetters 10 = .ok (.lshl, 1) := by decide +kernel
theorem dX5_addSameLetters_11 : decode cX5_addSameLetters 11 = .ok (.lstore_n 1, 1) := by decide +kernel
theorem dX5_addSameLetters_12 : decode cX5_addSameLetters 12 = .ok (.aload_n 0, 1) := by decide +kernel
theorem dX5_addSameLetters_13 : decode cX5_addSameLetters 13 = .ok (.getfield 13, 3) := by decide +kernel
theorem dX5_addSameLetters_16 : decode cX5_addSameLetters 16 = .ok (.bipush 32, 2) := by decide +kernel
theorem dX5_addSameLetters_18 : decode cX5_addSameLetters 18 = .ok (.lushr, 1) := by decide +kernel
theorem dX5_addSameLetters_19 : decode cX5_addSameLetters 19 = .ok (.ldc2_w 38, 3) := by decide +kernel
theorem dX5_addSameLetters_22 : decode cX5_addSameLetters 22 = .ok (.land, 1) := by decide +kernel
theorem dX5_addSameLetters_23 : decode cX5_addSameLetters 23 = .ok (.lstore_n 3, 1) := by decide +kernel
theorem dX5_addSameLetters_24 : decode cX5_addSameLetters 24 = .ok (.aload_n 0, 1) := by decide +kernel
theorem dX5_addSameLetters_25 : decode cX5_addSameLetters 25 = .ok (.dup, 1) := by decide +kernel
theorem dX5_addSameLetters_26 : decode cX5_addSameLetters 26 = .ok (.getfield 13, 3) := by decide +kernel
theorem dX5_addSameLetters_29 : decode cX5_addSameLetters 29 = .ok (.lload_n 1, 1) := by decide +kernel
theorem dX5_addSameLetters_30 : decode cX5_addSameLetters 30 = .ok (.lload_n 3, 1) := by decide +kernel
theorem dX5_addSameLetters_31 : decode cX5_addSameLetters 31 = .ok (.lor, 1) := by decide +kernel
theorem dX5_addSameLetters_32 : decode cX5_addSameLetters 32 = .ok (.lor, 1) := by decide +kernel
theorem dX5_addSameLetters_33 : decode cX5_addSameLetters 33 = .ok (.putfield 13, 3) := by decide +kernel
theorem dX5_addSameLetters_36 : decode cX5_addSameLetters 36 = .ok (.return_, 1) := by decide +kernel
theorem dX5_turnRound_0 : decode cX5_turnRound 0 = .ok (.aload_n 0, 1) := by decide +kernel
theorem dX5_turnRound_1 : decode cX5_turnRound 1 = .ok (.aload_n 0, 1) := by decide +kernel
theorem dX5_turnRound_2 : decode cX5_turnRound 2 = .ok (.getfield 9, 3) := by decide +kernel
theorem dX5_turnRound_5 : decode cX5_turnRound 5 = .ok (.ldc2_w 28, 3) := by decide +kernel
theorem dX5_turnRound_8 : decode cX5_turnRound 8 = .ok (.lxor, 1) := by decide +kernel
theorem dX5_turnRound_9 : decode cX5_turnRound 9 = .ok (.putfield 9, 3) := by decide +kernel
theorem dX5_turnRound_12 : decode cX5_turnRound 12 = .ok (.aload_n 0, 1) := by decide +kernel
theorem dX5_turnRound_13 : decode cX5_turnRound 13 = .ok (.aload_n 0, 1) := by decide +kernel
theorem dX5_turnRound_14 : decode cX5_turnRound 14 = .ok (.getfield 13, 3) := by decide +kernel
theorem dX5_turnRound_17 : decode cX5_turnRound 17 = .ok (.ldc2_w 28, 3) := by decide +kernel
theorem dX5_turnRound_20 : decode cX5_turnRound 20 = .ok (.lxor, 1) := by decide +kernel
theorem dX5_turnRound_21 : decode cX5_turnRound 21 = .ok (.putfield 13, 3) := by decide +kernel
theorem dX5_turnRound_24 : decode cX5_turnRound 24 = .ok (.return_, 1) := by decide +kernel
theorem dX5_addAll_0 : decode cX5_addAll 0 = .ok (.aload_n 0, 1) := by decide +kernel
theorem dX5_addAll_1 : decode cX5_addAll 1 = .ok (.dup, 1) := by decide +kernel
theorem dX5_addAll_2 : decode cX5_addAll 2 = .ok (.getfield 9, 3) := by decide +kernel
theorem dX5_addAll_5 : decode cX5_addAll 5 = .ok (.lload_n 1, 1) := by decide +kernel
theorem dX5_addAll_6 : decode cX5_addAll 6 = .ok (.lor, 1) := by decide +kernel
theorem dX5_addAll_7 : decode cX5_addAll 7 = .ok (.putfield 9, 3) := by decide +kernel
theorem dX5_addAll_10 : decode cX5_addAll 10 = .ok (.aload_n 0, 1) := by decide +kernel
theorem dX5_addAll_11 : decode cX5_addAll 11 = .ok (.dup, 1) := by decide +kernel
theorem dX5_addAll_12 : decode cX5_addAll 12 = .ok (.getfield 13, 3) := by decide +kernel
theorem dX5_addAll_15 : decode cX5_addAll 15 = .ok (.lload_n 3, 1) := by decide +kernel
theorem dX5_addAll_16 : decode cX5_addAll 16 = .ok (.lor, 1) := by decide +kernel
theorem dX5_addAll_17 : decode cX5_addAll 17 = .ok (.putfield 13, 3) := by decide +kernel
theorem dX5_addAll_20 : decode cX5_addAll 20 = .ok (.return_, 1) := by decide +kernel
