theorem dX3_readSet_3 : decode cX3_readSet 3 = .ok (.invokevirtual 76, 3) := by decide +kernel
theorem dX3_readSet_6 : decode cX3_readSet 6 = .ok (.istore_n 1, 1) := by decide +kernel
theorem dX3_readSet_7 : decode cX3_readSet 7 = .ok (.iconst 1, 1) := by decide +kernel
theorem dX3_readSet_8 : decode cX3_readSet 8 = .ok (.istore_n 2, 1) := by decide +kernel
theorem dX3_readSet_9 : decode cX3_readSet 9 = .ok (.iconst 0, 1) := by decide +kernel
theorem dX3_readSet_10 : decode cX3_readSet 10 = .ok (.istore_n 3, 1) := by decide +kernel
theorem dX3_readSet_11 : decode cX3_readSet 11 = .ok (.iload_n 3, 1) := by decide +kernel
theorem dX3_readSet_12 : decode cX3_readSet 12 = .ok (.bipush 40, 2) := by decide +kernel
theorem dX3_readSet_14 : decode cX3_readSet 14 = .ok (.if_icmp .ge 24, 3) := by decide +kernel
theorem dX3_readSet_17 : decode cX3_readSet 17 = .ok (.aload_n 0, 1) := by decide +kernel
theorem dX3_readSet_18 : decode cX3_readSet 18 = .ok (.bipush 93, 2) := by decide +kernel
theorem dX3_readSet_20 : decode cX3_readSet 20 = .ok (.invokevirtual 76, 3) := by decide +kernel
theorem dX3_readSet_23 : decode cX3_readSet 23 = .ok (.ifCond .ne 15, 3) := by decide +kernel
theorem dX3_readSet_26 : decode cX3_readSet 26 = .ok (.aload_n 0, 1) := by decide +kernel
theorem dX3_readSet_27 : decode cX3_readSet 27 = .ok (.iload_n 2, 1) := by decide +kernel
theorem dX3_readSet_28 : decode cX3_readSet 28 = .ok (.invokevirtual 196, 3) := by decide +kernel
theorem dX3_readSet_31 : decode cX3_readSet 31 = .ok (.istore_n 2, 1) := by decide +kernel
theorem dX3_readSet_32 : decode cX3_readSet 32 = .ok (.iinc 3 1, 3) := by decide +kernel
theorem dX3_readSet_35 : decode cX3_readSet 35 = .ok (.goto (-24), 3) := by decide +kernel
theorem dX3_readSet_38 : decode cX3_readSet 38 = .ok (.aload_n 0, 1) := by decide +kernel
theorem dX3_readSet_39 : decode cX3_readSet 39 = .ok (.iload_n 1, 1) := by decide +kernel
theorem dX3_readSet_40 : decode cX3_readSet 40 = .ok (.invokevirtual 156, 3) := by decide +kernel
theorem dX3_readSet_43 : decode cX3_readSet 43 = .ok (.ireturn, 1) := by decide +kernel
theorem dX3_readMember_0 : decode cX3_readMember 0 = .ok (.iload_n 1, 1) := by decide +kernel
theorem dX3_readMember_1 : decode cX3_readMember 1 = .ok (.ifCond .eq 23, 3) := by decide +kernel
theorem dX3_readMember_4 : decode cX3_readMember 4 = .ok (.aload_n 0, 1) := by decide +kernel
theorem dX3_readMember_5 : decode cX3_readMember 5 = .ok (.bipush 45, 2) := by decide +kernel
theorem dX3_readMember_7 : decode cX3_readMember 7 = .ok (.invokevirtual 76, 3) := by decide +kernel
theorem dX3_readMember_10 : decode cX3_readMember 10 = .ok (.ifCond .eq 14, 3) := by decide +kernel
theorem dX3_readMember_13 : decode cX3_readMember 13 = .ok (.aload_n 0, 1) := by decide +kernel
theorem dX3_readMember_14 : decode cX3_readMember 14 = .ok (.getfield 12, 3) := by decide +kernel
theorem dX3_readMember_17 : decode cX3_readMember 17 = .ok (.bipush 45, 2) := by decide +kernel
theorem dX3_readMember_19 : decode cX3_readMember 19 = .ok (.invokevirtual 167, 3) := by decide +kernel
theorem dX3_readMember_22 : decode cX3_readMember 22 = .ok (.iconst 0, 1) := by decide +kernel
theorem dX3_readMember_23 : decode cX3_readMember 23 = .ok (.ireturn, 1) := by decide +kernel
theorem dX3_readMember_24 : decode cX3_readMember 24 = .ok (.aload_n 0, 1) := by decide +kernel
theorem dX3_readMember_25 : decode cX3_readMember 25 = .ok (.invokevirtual 200, 3) := by decide +kernel
theorem dX3_readMember_28 : decode cX3_readMember 28 = .ok (.istore_n 2, 1) := by decide +kernel
theorem dX3_readMember_29 : decode cX3_readMember 29 = .ok (.aload_n 0, 1) := by decide +kernel
theorem dX3_readMember_30 : decode cX3_readMember 30 = .ok (.getfield 18, 3) := by decide +kernel
theorem dX3_readMember_33 : decode cX3_readMember 33 = .ok (.aload_n 0, 1) := by decide +kernel
theorem dX3_readMember_34 : decode cX3_readMember 34 = .ok (.getfield 32, 3) := by decide +kernel
theorem dX3_readMember_37 : decode cX3_readMember 37 = .ok (.invokevirtual 70, 3) := by decide +kernel
theorem dX3_readMember_40 : decode cX3_readMember 40 = .ok (.bipush 45, 2) := by decide +kernel
theorem dX3_readMember_42 : decode cX3_readMember 42 = .ok (.if_icmp .ne 21, 3) := by decide +kernel
theorem dX3_readMember_45 : decode cX3_readMember 45 = .ok (.aload_n 0, 1) := by decide +kernel
theorem dX3_readMember_46 : decode cX3_readMember 46 = .ok (.getfield 18, 3) := by decide +kernel
theorem dX3_readMember_49 : decode cX3_readMember 49 = .ok (.aload_n 0, 1) := by decide +kernel
theorem dX3_readMember_50 : decode cX3_readMember 50 = .ok (.getfield 32, 3) := by decide +kernel
theorem dX3_readMember_53 : decode cX3_readMember 53 = .ok (.iconst 1, 1) := by decide +kernel
theorem dX3_readMember_54 : decode cX3_readMember 54 = .ok (.iadd, 1) := by decide +kernel
theorem dX3_readMember_55 : decode cX3_readMember 55 = .ok (.invokevirtual 70, 3) := by decide +kernel
theorem dX3_readMember_58 : decode cX3_readMember 58 = .ok (.bipush 93, 2) := by decide +kernel
theorem dX3_readMember_60 : decode cX3_readMember 60 = .ok (.if_icmp .ne 5, 3) := by decide +kernel
theorem dX3_readMember_63 : decode cX3_readMember 63 = .ok (.iconst 0, 1) := by decide +kernel
theorem dX3_readMember_64 : decode cX3_readMember 64 = .ok (.ireturn, 1) := by decide +kernel
theorem dX3_readMember_65 : decode cX3_readMember 65 = .ok (.aload_n 0, 1) := by decide +kernel
theorem dX3_readMember_66 : decode cX3_readMember 66 = .ok (.dup, 1) := by decide +kernel
theorem dX3_readMember_67 : decode cX3_readMember 67 = .ok (.getfield 32, 3) := by decide +kernel
theorem dX3_readMember_70 : decode cX3_readMember 70 = .ok (.iconst 1, 1) := by decide +kernel
theorem dX3_readMember_71 : decode cX3_readMember 71 = .ok (.iadd, 1) := by decide +kernel
theorem dX3_readMember_72 : decode cX3_readMember 72 = .ok (.putfield 32, 3) := by decide +kernel
theorem dX3_readMember_75 : decode cX3_readMember 75 = .ok (.aload_n 0, 1) := by decide +kernel
theorem dX3_readMember_76 : decode cX3_readMember 76 = .ok (.invokevirtual 200, 3) := by decide +kernel
theorem dX3_readMember_79 : decode cX3_readMember 79 = .ok (.istore_n 3, 1) := by decide +kernel
theorem dX3_readMember_80 : decode cX3_readMember 80 = .ok (.iload_n 2, 1) := by decide +kernel
theorem dX3_readMember_81 : decode cX3_readMember 81 = .ok (.iconst (-1), 1) := by decide +kernel
theorem dX3_readMember_82 : decode cX3_readMember 82 = .ok (.if_icmp .eq 13, 3) := by decide +kernel
theorem dX3_readMember_85 : decode cX3_readMember 85 = .ok (.iload_n 3, 1) := by decide +kernel
theorem dX3_readMember_86 : decode cX3_readMember 86 = .ok (.iconst (-1), 1) := by decide +kernel
theorem dX3_readMember_87 : decode cX3_readMember 87 = .ok (.if_icmp .eq 8, 3) := by decide +kernel
theorem dX3_readMember_90 : decode cX3_readMember 90 = .ok (.iload_n 2, 1) := by decide +kernel
theorem dX3_readMember_91 : decode cX3_readMember 91 = .ok (.iload_n 3, 1) := by decide +kernel
theorem dX3_readMember_92 : decode cX3_readMember 92 = .ok (.if_icmp .le 13, 3) := by decide +kernel
theorem dX3_readMember_95 : decode cX3_readMember 95 = .ok (.new 49, 3) := by decide +kernel
theorem dX3_readMember_98 : decode cX3_readMember 98 = .ok (.dup, 1) := by decide +kernel
theorem dX3_readMember_99 : decode cX3_readMember 99 = .ok (.ldc 203, 2) := by decide +kernel
theorem dX3_readMember_101 : decode cX3_readMember 101 = .ok (.invokespecial 53, 3) := by decide +kernel
theorem dX3_readMember_104 : decode cX3_readMember 104 = .ok (.athrow, 1) := by decide +kernel
theorem dX3_readMember_105 : decode cX3_readMember 105 = .ok (.aload_n 0, 1) := by decide +kernel
theorem dX3_readMember_106 : decode cX3_readMember 106 = .ok (.getfield 12, 3) := by decide +kernel
theorem dX3_readMember_109 : decode cX3_readMember 109 = .ok (.iload_n 2, 1) := by decide +kernel
theorem dX3_readMember_110 : decode cX3_readMember 110 = .ok (.iload_n 3, 1) := by decide +kernel
theorem dX3_readMember_111 : decode cX3_readMember 111 = .ok (.invokevirtual 176, 3) := by decide +kernel
theorem dX3_readMember_114 : decode cX3_readMember 114 = .ok (.iconst 1, 1) := by decide +kernel
theorem dX3_readMember_115 : decode cX3_readMember 115 = .ok (.ireturn, 1) := by decide +kernel
theorem dX3_readMark_0 : decode cX3_readMark 0 = .ok (.aload_n 0, 1) := by decide +kernel
theorem dX3_readMark_1 : decode cX3_readMark 1 = .ok (.getfield 18, 3) := by decide +kernel
theorem dX3_readMark_4 : decode cX3_readMark 4 = .ok (.aload_n 0, 1) := by decide +kernel
theorem dX3_readMark_5 : decode cX3_readMark 5 = .ok (.getfield 32, 3) := by decide +kernel
theorem dX3_readMark_8 : decode cX3_readMark 8 = .ok (.invokevirtual 70, 3) := by decide +kernel
theorem dX3_readMark_11 : decode cX3_readMark 11 = .ok (.istore_n 1, 1) := by decide +kernel
theorem dX3_readMark_12 : decode cX3_readMark 12 = .ok (.aload_n 0, 1) := by decide +kernel
theorem dX3_readMark_13 : decode cX3_readMark 13 = .ok (.dup, 1) := by decide +kernel
theorem dX3_readMark_14 : decode cX3_readMark 14 = .ok (.getfield 32, 3) := by decide +kernel
theorem dX3_readMark_17 : decode cX3_readMark 17 = .ok (.iconst 1, 1) := by decide +kernel
theorem dX3_readMark_18 : decode cX3_readMark 18 = .ok (.iadd, 1) := by decide +kernel
theorem dX3_readMark_19 : decode cX3_readMark 19 = .ok (.putfield 32, 3) := by decide +kernel
theorem dX3_readMark_22 : decode cX3_readMark 22 = .ok (.iload_n 1, 1) := by decide +kernel
theorem dX3_readMark_23 : decode cX3_readMark 23 = .ok (.ifCond .ne 13, 3) := by decide +kernel
theorem dX3_readMark_26 : decode cX3_readMark 26 = .ok (.new 49, 3) := by decide +kernel
theorem dX3_readMark_29 : decode cX3_readMark 29 = .ok (.dup, 1) := by decide +kernel
theorem dX3_readMark_30 : decode cX3_readMark 30 = .ok (.ldc 205, 2) := by decide +kernel
theorem dX3_readMark_32 : decode cX3_readMark 32 = .ok (.invokespecial 53, 3) := by decide +kernel
theorem dX3_readMark_35 : decode cX3_readMark 35 = .ok (.athrow, 1) := by decide +kernel
theorem dX3_readMark_36 : decode cX3_readMark 36 = .ok (.iload_n 1, 1) := by decide +kernel
theorem dX3_readMark_37 : decode cX3_readMark 37 = .ok (.bipush 92, 2) := by decide +kernel
theorem dX3_readMark_39 : decode cX3_readMark 39 = .ok (.if_icmp .eq 13, 3) := by decide +kernel
theorem dX3_readMark_42 : decode cX3_readMark 42 = .ok (.aload_n 0, 1) := by decide +kernel
theorem dX3_readMark_43 : decode cX3_readMark 43 = .ok (.getfield 12, 3) := by decide +kernel
theorem dX3_readMark_46 : decode cX3_readMark 46 = .ok (.iload_n 1, 1) := by decide +kernel
theorem dX3_readMark_47 : decode cX3_readMark 47 = .ok (.invokevirtual 167, 3) := by decide +kernel
theorem dX3_readMark_50 : decode cX3_readMark 50 = .ok (.iload_n 1, 1) := by decide +kernel
theorem dX3_readMark_51 : decode cX3_readMark 51 = .ok (.ireturn, 1) := by decide +kernel
theorem dX3_readMark_52 : decode cX3_readMark 52 = .ok (.aload_n 0, 1) := by decide +kernel
theorem dX3_readMark_53 : decode cX3_readMark 53 = .ok (.getfield 18, 3) := by decide +kernel
theorem dX3_readMark_56 : decode cX3_readMark 56 = .ok (.aload_n 0, 1) := by decide +kernel
theorem dX3_readMark_57 : decode cX3_readMark 57 = .ok (.getfield 32, 3) := by decide +kernel
theorem dX3_readMark_60 : decode cX3_readMark 60 = .ok (.invokevirtual 70, 3) := by decide +kernel
theorem dX3_readMark_63 : decode cX3_readMark 63 = .ok (.istore_n 2, 1) := by decide +kernel
theorem dX3_readMark_64 : decode cX3_readMark 64 = .ok (.aload_n 0, 1) := by decide +kernel
theorem dX3_readMark_65 : decode cX3_readMark 65 = .ok (.dup, 1) := by decide +kernel
theorem dX3_readMark_66 : decode cX3_readMark 66 = .ok (.getfield 32, 3) := by decide +kernel
theorem dX3_readMark_69 : decode cX3_readMark 69 = .ok (.iconst 1, 1) := by decide +kernel
theorem dX3_readMark_70 : decode cX3_readMark 70 = .ok (.iadd, 1) := by decide +kernel
theorem dX3_readMark_71 : decode cX3_readMark 71 = .ok (.putfield 32, 3) := by decide +kernel
theorem dX3_readMark_74 : decode cX3_readMark 74 = .ok (.ldc 188, 2) := by decide +kernel
theorem dX3_readMark_76 : decode cX3_readMark 76 = .ok (.iload_n 2, 1) := by decide +kernel
theorem dX3_readMark_77 : decode cX3_readMark 77 = .ok (.invokevirtual 162, 3) := by decide +kernel
theorem dX3_readMark_80 : decode cX3_readMark 80 = .ok (.ifCond .lt 13, 3) := by decide +kernel
theorem dX3_readMark_83 : decode cX3_readMark 83 = .ok (.aload_n 0, 1) := by decide +kernel
theorem dX3_readMark_84 : decode cX3_readMark 84 = .ok (.getfield 12, 3) := by decide +kernel
theorem dX3_readMark_87 : decode cX3_readMark 87 = .ok (.iload_n 2, 1) := by decide +kernel
theorem dX3_readMark_88 : decode cX3_readMark 88 = .ok (.invokevirtual 190, 3) := by decide +kernel
theorem dX3_readMark_91 : decode cX3_readMark 91 = .ok (.iconst (-1), 1) := by decide +kernel
theorem dX3_readMark_92 : decode cX3_readMark 92 = .ok (.ireturn, 1) := by decide +kernel
theorem dX3_readMark_93 : decode cX3_readMark 93 = .ok (.iload_n 2, 1) := by decide +kernel
theorem dX3_readMark_94 : decode cX3_readMark 94 = .ok (.bipush 45, 2) := by decide +kernel
theorem dX3_readMark_96 : decode cX3_readMark 96 = .ok (.if_icmp .eq 28, 3) := by decide +kernel
theorem dX3_readMark_99 : decode cX3_readMark 99 = .ok (.iload_n 2, 1) := by decide +kernel
theorem dX3_readMark_100 : decode cX3_readMark 100 = .ok (.bipush 47, 2) := by decide +kernel
theorem dX3_readMark_102 : decode cX3_readMark 102 = .ok (.if_icmp .eq 22, 3) := by decide +kernel
theorem dX3_readMark_105 : decode cX3_readMark 105 = .ok (.ldc 160, 2) := by decide +kernel
theorem dX3_readMark_107 : decode cX3_readMark 107 = .ok (.iload_n 2, 1) := by decide +kernel
theorem dX3_readMark_108 : decode cX3_readMark 108 = .ok (.invokevirtual 162, 3) := by decide +kernel
theorem dX3_readMark_111 : decode cX3_readMark 111 = .ok (.ifCond .ge 13, 3) := by decide +kernel
theorem dX3_readMark_114 : decode cX3_readMark 114 = .ok (.new 49, 3) := by decide +kernel
theorem dX3_readMark_117 : decode cX3_readMark 117 = .ok (.dup, 1) := by decide +kernel
theorem dX3_readMark_118 : decode cX3_readMark 118 = .ok (.ldc 194, 2) := by decide +kernel
theorem dX3_readMark_120 : decode cX3_readMark 120 = .ok (.invokespecial 53, 3) := by decide +kernel
theorem dX3_readMark_123 : decode cX3_readMark 123 = .ok (.athrow, 1) := by decide +kernel
theorem dX3_readMark_124 : decode cX3_readMark 124 = .ok (.aload_n 0, 1) := by decide +kernel
theorem dX3_readMark_125 : decode cX3_readMark 125 = .ok (.getfield 12, 3) := by decide +kernel
theorem dX3_readMark_128 : decode cX3_readMark 128 = .ok (.iload_n 2, 1) := by decide +kernel
theorem dX3_readMark_129 : decode cX3_readMark 129 = .ok (.invokevirtual 167, 3) := by decide +kernel
theorem dX3_readMark_132 : decode cX3_readMark 132 = .ok (.iload_n 2, 1) := by decide +kernel
theorem dX3_readMark_133 : decode cX3_readMark 133 = .ok (.ireturn, 1) := by decide +kernel
theorem dX3_readCount_0 : decode cX3_readCount 0 = .ok (.aload_n 0, 1) := by decide +kernel
theorem dX3_readCount_1 : decode cX3_readCount 1 = .ok (.bipush 42, 2) := by decide +kernel
theorem dX3_readCount_3 : decode cX3_readCount 3 = .ok (.invokevirtual 76, 3) := by decide +kernel
theorem dX3_readCount_6 : decode cX3_readCount 6 = .ok (.ifCond .eq 17, 3) := by decide +kernel
theorem dX3_readCount_9 : decode cX3_readCount 9 = .ok (.aload_n 0, 1) := by decide +kernel
theorem dX3_readCount_10 : decode cX3_readCount 10 = .ok (.iconst 0, 1) := by decide +kernel
theorem dX3_readCount_11 : decode cX3_readCount 11 = .ok (.putfield 122, 3) := by decide +kernel
theorem dX3_readCount_14 : decode cX3_readCount 14 = .ok (.aload_n 0, 1) := by decide +kernel
theorem dX3_readCount_15 : decode cX3_readCount 15 = .ok (.ldc 135, 2) := by decide +kernel
theorem dX3_readCount_17 : decode cX3_readCount 17 = .ok (.putfield 125, 3) := by decide +kernel
theorem dX3_readCount_20 : decode cX3_readCount 20 = .ok (.goto 66, 3) := by decide +kernel
theorem dX3_readCount_23 : decode cX3_readCount 23 = .ok (.aload_n 0, 1) := by decide +kernel
theorem dX3_readCount_24 : decode cX3_readCount 24 = .ok (.bipush 43, 2) := by decide +kernel
theorem dX3_readCount_26 : decode cX3_readCount 26 = .ok (.invokevirtual 76, 3) := by decide +kernel
theorem dX3_readCount_29 : decode cX3_readCount 29 = .ok (.ifCond .eq 17, 3) := by decide +kernel
theorem dX3_readCount_32 : decode cX3_readCount 32 = .ok (.aload_n 0, 1) := by decide +kernel
theorem dX3_readCount_33 : decode cX3_readCount 33 = .ok (.iconst 1, 1) := by decide +kernel
theorem dX3_readCount_34 : decode cX3_readCount 34 = .ok (.putfield 122, 3) := by decide +kernel
theorem dX3_readCount_37 : decode cX3_readCount 37 = .ok (.aload_n 0, 1) := by decide +kernel
theorem dX3_readCount_38 : decode cX3_readCount 38 = .ok (.ldc 135, 2) := by decide +kernel
theorem dX3_readCount_40 : decode cX3_readCount 40 = .ok (.putfield 125, 3) := by decide +kernel
theorem dX3_readCount_43 : decode cX3_readCount 43 = .ok (.goto 43, 3) := by decide +kernel
theorem dX3_readCount_46 : decode cX3_readCount 46 = .ok (.aload_n 0, 1) := by decide +kernel
theorem dX3_readCount_47 : decode cX3_readCount 47 = .ok (.bipush 63, 2) := by decide +kernel
theorem dX3_readCount_49 : decode cX3_readCount 49 = .ok (.invokevirtual 76, 3) := by decide +kernel
theorem dX3_readCount_52 : decode cX3_readCount 52 = .ok (.ifCond .eq 16, 3) := by decide +kernel
theorem dX3_readCount_55 : decode cX3_readCount 55 = .ok (.aload_n 0, 1) := by decide +kernel
theorem dX3_readCount_56 : decode cX3_readCount 56 = .ok (.iconst 0, 1) := by decide +kernel
theorem dX3_readCount_57 : decode cX3_readCount 57 = .ok (.putfield 122, 3) := by decide +kernel
theorem dX3_readCount_60 : decode cX3_readCount 60 = .ok (.aload_n 0, 1) := by decide +kernel
theorem dX3_readCount_61 : decode cX3_readCount 61 = .ok (.iconst 1, 1) := by decide +kernel
theorem dX3_readCount_62 : decode cX3_readCount 62 = .ok (.putfield 125, 3) := by decide +kernel
theorem dX3_readCount_65 : decode cX3_readCount 65 = .ok (.goto 21, 3) := by decide +kernel
theorem dX3_readCount_68 : decode cX3_readCount 68 = .ok (.aload_n 0, 1) := by decide +kernel
theorem dX3_readCount_69 : decode cX3_readCount 69 = .ok (.bipush 123, 2) := by decide +kernel
theorem dX3_readCount_71 : decode cX3_readCount 71 = .ok (.invokevirtual 76, 3) := by decide +kernel
theorem dX3_readCount_74 : decode cX3_readCount 74 = .ok (.ifCond .eq 10, 3) := by decide +kernel
theorem dX3_readCount_77 : decode cX3_readCount 77 = .ok (.aload_n 0, 1) := by decide +kernel
theorem dX3_readCount_78 : decode cX3_readCount 78 = .ok (.invokevirtual 207, 3) := by decide +kernel
theorem dX3_readCount_81 : decode cX3_readCount 81 = .ok (.goto 5, 3) := by decide +kernel
theorem dX3_readCount_84 : decode cX3_readCount 84 = .ok (.iconst 0, 1) := by decide +kernel
theorem dX3_readCount_85 : decode cX3_readCount 85 = .ok (.ireturn, 1) := by decide +kernel
theorem dX3_readCount_86 : decode cX3_readCount 86 = .ok (.aload_n 0, 1) := by decide +kernel
theorem dX3_readCount_87 : decode cX3_readCount 87 = .ok (.aload_n 0, 1) := by decide +kernel
theorem dX3_readCount_88 : decode cX3_readCount 88 = .ok (.bipush 63, 2) := by decide +kernel
theorem dX3_readCount_90 : decode cX3_readCount 90 = .ok (.invokevirtual 76, 3) := by decide +kernel
theorem dX3_readCount_93 : decode cX3_readCount 93 = .ok (.putfield 131, 3) := by decide +kernel
theorem dX3_readCount_96 : decode cX3_readCount 96 = .ok (.iconst 1, 1) := by decide +kernel
theorem dX3_readCount_97 : decode cX3_readCount 97 = .ok (.ireturn, 1) := by decide +kernel
theorem dX3_readBraces_0 : decode cX3_readBraces 0 = .ok (.aload_n 0, 1) := by decide +kernel
theorem dX3_readBraces_1 : decode cX3_readBraces 1 = .ok (.aload_n 0, 1) := by decide +kernel
theorem dX3_readBraces_2 : decode cX3_readBraces 2 = .ok (.invokevirtual 210, 3) := by decide +kernel
theorem dX3_readBraces_5 : decode cX3_readBraces 5 = .ok (.putfield 122, 3) := by decide +kernel
theorem dX3_readBraces_8 : decode cX3_readBraces 8 = .ok (.aload_n 0, 1) := by decide +kernel
theorem dX3_readBraces_9 : decode cX3_readBraces 9 = .ok (.aload_n 0, 1) := by decide +kernel
theorem dX3_readBraces_10 : decode cX3_readBraces 10 = .ok (.getfield 122, 3) := by decide +kernel
theorem dX3_readBraces_13 : decode cX3_readBraces 13 = .ok (.putfield 125, 3) := by decide +kernel
theorem dX3_readBraces_16 : decode cX3_readBraces 16 = .ok (.aload_n 0, 1) := by decide +kernel
theorem dX3_readBraces_17 : decode cX3_readBraces 17 = .ok (.bipush 44, 2) := by decide +kernel
theorem dX3_readBraces_19 : decode cX3_readBraces 19 = .ok (.invokevirtual 76, 3) := by decide +kernel
theorem dX3_readBraces_22 : decode cX3_readBraces 22 = .ok (.ifCond .eq 32, 3) := by decide +kernel
theorem dX3_readBraces_25 : decode cX3_readBraces 25 = .ok (.aload_n 0, 1) := by decide +kernel
theorem dX3_readBraces_26 : decode cX3_readBraces 26 = .ok (.aload_n 0, 1) := by decide +kernel
theorem dX3_readBraces_27 : decode cX3_readBraces 27 = .ok (.getfield 18, 3) := by decide +kernel
theorem dX3_readBraces_30 : decode cX3_readBraces 30 = .ok (.aload_n 0, 1) := by decide +kernel
theorem dX3_readBraces_31 : decode cX3_readBraces 31 = .ok (.getfield 32, 3) := by decide +kernel
theorem dX3_readBraces_34 : decode cX3_readBraces 34 = .ok (.invokevirtual 70, 3) := by decide +kernel
theorem dX3_readBraces_37 : decode cX3_readBraces 37 = .ok (.bipush 125, 2) := by decide +kernel
theorem dX3_readBraces_39 : decode cX3_readBraces 39 = .ok (.if_icmp .ne 8, 3) := by decide +kernel
theorem dX3_readBraces_42 : decode cX3_readBraces 42 = .ok (.ldc 135, 2) := by decide +kernel
theorem dX3_readBraces_44 : decode cX3_readBraces 44 = .ok (.goto 7, 3) := by decide +kernel
theorem dX3_readBraces_47 : decode cX3_readBraces 47 = .ok (.aload_n 0, 1) := by decide +kernel
theorem dX3_readBraces_48 : decode cX3_readBraces 48 = .ok (.invokevirtual 210, 3) := by decide +kernel
theorem dX3_readBraces_51 : decode cX3_readBraces 51 = .ok (.putfield 125, 3) := by decide +kernel
theorem dX3_readBraces_54 : decode cX3_readBraces 54 = .ok (.aload_n 0, 1) := by decide +kernel
theorem dX3_readBraces_55 : decode cX3_readBraces 55 = .ok (.bipush 125, 2) := by decide +kernel
theorem dX3_readBraces_57 : decode cX3_readBraces 57 = .ok (.invokevirtual 76, 3) := by decide +kernel
theorem dX3_readBraces_60 : decode cX3_readBraces 60 = .ok (.ifCond .ne 13, 3) := by decide +kernel
theorem dX3_readBraces_63 : decode cX3_readBraces 63 = .ok (.new 49, 3) := by decide +kernel
theorem dX3_readBraces_66 : decode cX3_readBraces 66 = .ok (.dup, 1) := by decide +kernel
theorem dX3_readBraces_67 : decode cX3_readBraces 67 = .ok (.ldc 213, 2) := by decide +kernel
theorem dX3_readBraces_69 : decode cX3_readBraces 69 = .ok (.invokespecial 53, 3) := by decide +kernel
theorem dX3_readBraces_72 : decode cX3_readBraces 72 = .ok (.athrow, 1) := by decide +kernel
theorem dX3_readBraces_73 : decode cX3_readBraces 73 = .ok (.aload_n 0, 1) := by decide +kernel
theorem dX3_readBraces_74 : decode cX3_readBraces 74 = .ok (.getfield 122, 3) := by decide +kernel
theorem dX3_readBraces_77 : decode cX3_readBraces 77 = .ok (.aload_n 0, 1) := by decide +kernel
theorem dX3_readBraces_78 : decode cX3_readBraces 78 = .ok (.getfield 125, 3) := by decide +kernel
theorem dX3_readBraces_81 : decode cX3_readBraces 81 = .ok (.if_icmp .le 13, 3) := by decide +kernel
theorem dX3_readBraces_84 : decode cX3_readBraces 84 = .ok (.new 49, 3) := by decide +kernel
theorem dX3_readBraces_87 : decode cX3_readBraces 87 = .ok (.dup, 1) := by decide +kernel
theorem dX3_readBraces_88 : decode cX3_readBraces 88 = .ok (.ldc 215, 2) := by decide +kernel
theorem dX3_readBraces_90 : decode cX3_readBraces 90 = .ok (.invokespecial 53, 3) := by decide +kernel
theorem dX3_readBraces_93 : decode cX3_readBraces 93 = .ok (.athrow, 1) := by decide +kernel
theorem dX3_readBraces_94 : decode cX3_readBraces 94 = .ok (.return_, 1) := by decide +kernel
theorem dX3_readDigit_0 : decode cX3_readDigit 0 = .ok (.aload_n 0, 1) := by decide +kernel
theorem dX3_readDigit_1 : decode cX3_readDigit 1 = .ok (.getfield 18, 3) := by decide +kernel
theorem dX3_readDigit_4 : decode cX3_readDigit 4 = .ok (.aload_n 0, 1) := by decide +kernel
theorem dX3_readDigit_5 : decode cX3_readDigit 5 = .ok (.getfield 32, 3) := by decide +kernel
theorem dX3_readDigit_8 : decode cX3_readDigit 8 = .ok (.invokevirtual 70, 3) := by decide +kernel
theorem dX3_readDigit_11 : decode cX3_readDigit 11 = .ok (.istore_n 1, 1) := by decide +kernel
theorem dX3_readDigit_12 : decode cX3_readDigit 12 = .ok (.iload_n 1, 1) := by decide +kernel
theorem dX3_readDigit_13 : decode cX3_readDigit 13 = .ok (.bipush 48, 2) := by decide +kernel
theorem dX3_readDigit_15 : decode cX3_readDigit 15 = .ok (.if_icmp .lt 9, 3) := by decide +kernel
theorem dX3_readDigit_18 : decode cX3_readDigit 18 = .ok (.iload_n 1, 1) := by decide +kernel
theorem dX3_readDigit_19 : decode cX3_readDigit 19 = .ok (.bipush 57, 2) := by decide +kernel
theorem dX3_readDigit_21 : decode cX3_readDigit 21 = .ok (.if_icmp .le 13, 3) := by decide +kernel
theorem dX3_readDigit_24 : decode cX3_readDigit 24 = .ok (.new 49, 3) := by decide +kernel
theorem dX3_readDigit_27 : decode cX3_readDigit 27 = .ok (.dup, 1) := by decide +kernel
theorem dX3_readDigit_28 : decode cX3_readDigit 28 = .ok (.ldc 217, 2) := by decide +kernel
theorem dX3_readDigit_30 : decode cX3_readDigit 30 = .ok (.invokespecial 53, 3) := by decide +kernel
theorem dX3_readDigit_33 : decode cX3_readDigit 33 = .ok (.athrow, 1) := by decide +kernel
theorem dX3_readDigit_34 : decode cX3_readDigit 34 = .ok (.aload_n 0, 1) := by decide +kernel
theorem dX3_readDigit_35 : decode cX3_readDigit 35 = .ok (.dup, 1) := by decide +kernel
theorem dX3_readDigit_36 : decode cX3_readDigit 36 = .ok (.getfield 32, 3) := by decide +kernel
theorem dX3_readDigit_39 : decode cX3_readDigit 39 = .ok (.iconst 1, 1) := by decide +kernel
theorem dX3_readDigit_40 : decode cX3_readDigit 40 = .ok (.iadd, 1) := by decide +kernel
theorem dX3_readDigit_41 : decode cX3_readDigit 41 = .ok (.putfield 32, 3) := by decide +kernel
theorem dX3_readDigit_44 : decode cX3_readDigit 44 = .ok (.iload_n 1, 1) := by decide +kernel
theorem dX3_readDigit_45 : decode cX3_readDigit 45 = .ok (.bipush 48, 2) := by decide +kernel
theorem dX3_readDigit_47 : decode cX3_readDigit 47 = .ok (.isub, 1) := by decide +kernel
theorem dX3_readDigit_48 : decode cX3_readDigit 48 = .ok (.ireturn, 1) := by decide +kernel
