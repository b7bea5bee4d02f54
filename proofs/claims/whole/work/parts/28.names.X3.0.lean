theorem dX3_init_0 : decode cX3_init 0 = .ok (.aload_n 0, 1) := by decide +kernel
theorem dX3_init_1 : decode cX3_init 1 = .ok (.invokespecial 3, 3) := by decide +kernel
theorem dX3_init_4 : decode cX3_init 4 = .ok (.aload_n 0, 1) := by decide +kernel
theorem dX3_init_5 : decode cX3_init 5 = .ok (.new 9, 3) := by decide +kernel
theorem dX3_init_8 : decode cX3_init 8 = .ok (.dup, 1) := by decide +kernel
theorem dX3_init_9 : decode cX3_init 9 = .ok (.invokespecial 11, 3) := by decide +kernel
theorem dX3_init_12 : decode cX3_init 12 = .ok (.putfield 12, 3) := by decide +kernel
theorem dX3_init_15 : decode cX3_init 15 = .ok (.aload_n 0, 1) := by decide +kernel
theorem dX3_init_16 : decode cX3_init 16 = .ok (.aload_n 1, 1) := by decide +kernel
theorem dX3_init_17 : decode cX3_init 17 = .ok (.putfield 18, 3) := by decide +kernel
theorem dX3_init_20 : decode cX3_init 20 = .ok (.aload_n 0, 1) := by decide +kernel
theorem dX3_init_21 : decode cX3_init 21 = .ok (.aload_n 2, 1) := by decide +kernel
theorem dX3_init_22 : decode cX3_init 22 = .ok (.putfield 22, 3) := by decide +kernel
theorem dX3_init_25 : decode cX3_init 25 = .ok (.return_, 1) := by decide +kernel
theorem dX3_read_0 : decode cX3_read 0 = .ok (.aload_n 0, 1) := by decide +kernel
theorem dX3_read_1 : decode cX3_read 1 = .ok (.aload_n 2, 1) := by decide +kernel
theorem dX3_read_2 : decode cX3_read 2 = .ok (.putfield 22, 3) := by decide +kernel
theorem dX3_read_5 : decode cX3_read 5 = .ok (.aload_n 0, 1) := by decide +kernel
theorem dX3_read_6 : decode cX3_read 6 = .ok (.getfield 22, 3) := by decide +kernel
theorem dX3_read_9 : decode cX3_read 9 = .ok (.iload_n 1, 1) := by decide +kernel
theorem dX3_read_10 : decode cX3_read 10 = .ok (.invokevirtual 26, 3) := by decide +kernel
theorem dX3_read_13 : decode cX3_read 13 = .ok (.aload_n 0, 1) := by decide +kernel
theorem dX3_read_14 : decode cX3_read 14 = .ok (.iconst 0, 1) := by decide +kernel
theorem dX3_read_15 : decode cX3_read 15 = .ok (.putfield 32, 3) := by decide +kernel
theorem dX3_read_18 : decode cX3_read 18 = .ok (.aload_n 0, 1) := by decide +kernel
theorem dX3_read_19 : decode cX3_read 19 = .ok (.iconst 0, 1) := by decide +kernel
theorem dX3_read_20 : decode cX3_read 20 = .ok (.putfield 36, 3) := by decide +kernel
theorem dX3_read_23 : decode cX3_read 23 = .ok (.aload_n 0, 1) := by decide +kernel
theorem dX3_read_24 : decode cX3_read 24 = .ok (.iconst 0, 1) := by decide +kernel
theorem dX3_read_25 : decode cX3_read 25 = .ok (.invokevirtual 39, 3) := by decide +kernel
theorem dX3_read_28 : decode cX3_read 28 = .ok (.istore_n 3, 1) := by decide +kernel
theorem dX3_read_29 : decode cX3_read 29 = .ok (.aload_n 0, 1) := by decide +kernel
theorem dX3_read_30 : decode cX3_read 30 = .ok (.getfield 32, 3) := by decide +kernel
theorem dX3_read_33 : decode cX3_read 33 = .ok (.aload_n 0, 1) := by decide +kernel
theorem dX3_read_34 : decode cX3_read 34 = .ok (.getfield 18, 3) := by decide +kernel
theorem dX3_read_37 : decode cX3_read 37 = .ok (.invokevirtual 43, 3) := by decide +kernel
theorem dX3_read_40 : decode cX3_read 40 = .ok (.if_icmp .ge 13, 3) := by decide +kernel
theorem dX3_read_43 : decode cX3_read 43 = .ok (.new 49, 3) := by decide +kernel
theorem dX3_read_46 : decode cX3_read 46 = .ok (.dup, 1) := by decide +kernel
theorem dX3_read_47 : decode cX3_read 47 = .ok (.ldc 51, 2) := by decide +kernel
theorem dX3_read_49 : decode cX3_read 49 = .ok (.invokespecial 53, 3) := by decide +kernel
theorem dX3_read_52 : decode cX3_read 52 = .ok (.athrow, 1) := by decide +kernel
theorem dX3_read_53 : decode cX3_read 53 = .ok (.aload_n 0, 1) := by decide +kernel
theorem dX3_read_54 : decode cX3_read 54 = .ok (.getfield 36, 3) := by decide +kernel
theorem dX3_read_57 : decode cX3_read 57 = .ok (.aload_n 0, 1) := by decide +kernel
theorem dX3_read_58 : decode cX3_read 58 = .ok (.getfield 22, 3) := by decide +kernel
theorem dX3_read_61 : decode cX3_read 61 = .ok (.invokevirtual 56, 3) := by decide +kernel
theorem dX3_read_64 : decode cX3_read 64 = .ok (.if_icmp .le 13, 3) := by decide +kernel
theorem dX3_read_67 : decode cX3_read 67 = .ok (.new 49, 3) := by decide +kernel
theorem dX3_read_70 : decode cX3_read 70 = .ok (.dup, 1) := by decide +kernel
theorem dX3_read_71 : decode cX3_read 71 = .ok (.ldc 59, 2) := by decide +kernel
theorem dX3_read_73 : decode cX3_read 73 = .ok (.invokespecial 53, 3) := by decide +kernel
theorem dX3_read_76 : decode cX3_read 76 = .ok (.athrow, 1) := by decide +kernel
theorem dX3_read_77 : decode cX3_read 77 = .ok (.iload_n 3, 1) := by decide +kernel
theorem dX3_read_78 : decode cX3_read 78 = .ok (.invokestatic 61, 3) := by decide +kernel
theorem dX3_read_81 : decode cX3_read 81 = .ok (.aload_n 0, 1) := by decide +kernel
theorem dX3_read_82 : decode cX3_read 82 = .ok (.getfield 22, 3) := by decide +kernel
theorem dX3_read_85 : decode cX3_read 85 = .ok (.iconst 0, 1) := by decide +kernel
theorem dX3_read_86 : decode cX3_read 86 = .ok (.iconst (-1), 1) := by decide +kernel
theorem dX3_read_87 : decode cX3_read 87 = .ok (.iconst (-1), 1) := by decide +kernel
theorem dX3_read_88 : decode cX3_read 88 = .ok (.invokevirtual 64, 3) := by decide +kernel
theorem dX3_read_91 : decode cX3_read 91 = .ok (.pop, 1) := by decide +kernel
theorem dX3_read_92 : decode cX3_read 92 = .ok (.return_, 1) := by decide +kernel
theorem dX3_checkWeight_0 : decode cX3_checkWeight 0 = .ok (.iload_n 0, 1) := by decide +kernel
theorem dX3_checkWeight_1 : decode cX3_checkWeight 1 = .ok (.bipush 120, 2) := by decide +kernel
theorem dX3_checkWeight_3 : decode cX3_checkWeight 3 = .ok (.if_icmp .le 13, 3) := by decide +kernel
theorem dX3_checkWeight_6 : decode cX3_checkWeight 6 = .ok (.new 49, 3) := by decide +kernel
theorem dX3_checkWeight_9 : decode cX3_checkWeight 9 = .ok (.dup, 1) := by decide +kernel
theorem dX3_checkWeight_10 : decode cX3_checkWeight 10 = .ok (.ldc 68, 2) := by decide +kernel
theorem dX3_checkWeight_12 : decode cX3_checkWeight 12 = .ok (.invokespecial 53, 3) := by decide +kernel
theorem dX3_checkWeight_15 : decode cX3_checkWeight 15 = .ok (.athrow, 1) := by decide +kernel
theorem dX3_checkWeight_16 : decode cX3_checkWeight 16 = .ok (.return_, 1) := by decide +kernel
theorem dX3_take_0 : decode cX3_take 0 = .ok (.aload_n 0, 1) := by decide +kernel
theorem dX3_take_1 : decode cX3_take 1 = .ok (.getfield 18, 3) := by decide +kernel
theorem dX3_take_4 : decode cX3_take 4 = .ok (.aload_n 0, 1) := by decide +kernel
theorem dX3_take_5 : decode cX3_take 5 = .ok (.getfield 32, 3) := by decide +kernel
theorem dX3_take_8 : decode cX3_take 8 = .ok (.invokevirtual 70, 3) := by decide +kernel
theorem dX3_take_11 : decode cX3_take 11 = .ok (.iload_n 1, 1) := by decide +kernel
theorem dX3_take_12 : decode cX3_take 12 = .ok (.if_icmp .eq 5, 3) := by decide +kernel
theorem dX3_take_15 : decode cX3_take 15 = .ok (.iconst 0, 1) := by decide +kernel
theorem dX3_take_16 : decode cX3_take 16 = .ok (.ireturn, 1) := by decide +kernel
theorem dX3_take_17 : decode cX3_take 17 = .ok (.aload_n 0, 1) := by decide +kernel
theorem dX3_take_18 : decode cX3_take 18 = .ok (.dup, 1) := by decide +kernel
theorem dX3_take_19 : decode cX3_take 19 = .ok (.getfield 32, 3) := by decide +kernel
theorem dX3_take_22 : decode cX3_take 22 = .ok (.iconst 1, 1) := by decide +kernel
theorem dX3_take_23 : decode cX3_take 23 = .ok (.iadd, 1) := by decide +kernel
theorem dX3_take_24 : decode cX3_take 24 = .ok (.putfield 32, 3) := by decide +kernel
theorem dX3_take_27 : decode cX3_take 27 = .ok (.iconst 1, 1) := by decide +kernel
theorem dX3_take_28 : decode cX3_take 28 = .ok (.ireturn, 1) := by decide +kernel
theorem dX3_takeOpening_0 : decode cX3_takeOpening 0 = .ok (.aload_n 0, 1) := by decide +kernel
theorem dX3_takeOpening_1 : decode cX3_takeOpening 1 = .ok (.getfield 18, 3) := by decide +kernel
theorem dX3_takeOpening_4 : decode cX3_takeOpening 4 = .ok (.aload_n 0, 1) := by decide +kernel
theorem dX3_takeOpening_5 : decode cX3_takeOpening 5 = .ok (.getfield 32, 3) := by decide +kernel
theorem dX3_takeOpening_8 : decode cX3_takeOpening 8 = .ok (.invokevirtual 70, 3) := by decide +kernel
theorem dX3_takeOpening_11 : decode cX3_takeOpening 11 = .ok (.bipush 40, 2) := by decide +kernel
theorem dX3_takeOpening_13 : decode cX3_takeOpening 13 = .ok (.if_icmp .ne 38, 3) := by decide +kernel
theorem dX3_takeOpening_16 : decode cX3_takeOpening 16 = .ok (.aload_n 0, 1) := by decide +kernel
theorem dX3_takeOpening_17 : decode cX3_takeOpening 17 = .ok (.getfield 18, 3) := by decide +kernel
theorem dX3_takeOpening_20 : decode cX3_takeOpening 20 = .ok (.aload_n 0, 1) := by decide +kernel
theorem dX3_takeOpening_21 : decode cX3_takeOpening 21 = .ok (.getfield 32, 3) := by decide +kernel
theorem dX3_takeOpening_24 : decode cX3_takeOpening 24 = .ok (.iconst 1, 1) := by decide +kernel
theorem dX3_takeOpening_25 : decode cX3_takeOpening 25 = .ok (.iadd, 1) := by decide +kernel
theorem dX3_takeOpening_26 : decode cX3_takeOpening 26 = .ok (.invokevirtual 70, 3) := by decide +kernel
theorem dX3_takeOpening_29 : decode cX3_takeOpening 29 = .ok (.bipush 63, 2) := by decide +kernel
theorem dX3_takeOpening_31 : decode cX3_takeOpening 31 = .ok (.if_icmp .ne 20, 3) := by decide +kernel
theorem dX3_takeOpening_34 : decode cX3_takeOpening 34 = .ok (.aload_n 0, 1) := by decide +kernel
theorem dX3_takeOpening_35 : decode cX3_takeOpening 35 = .ok (.getfield 18, 3) := by decide +kernel
theorem dX3_takeOpening_38 : decode cX3_takeOpening 38 = .ok (.aload_n 0, 1) := by decide +kernel
theorem dX3_takeOpening_39 : decode cX3_takeOpening 39 = .ok (.getfield 32, 3) := by decide +kernel
theorem dX3_takeOpening_42 : decode cX3_takeOpening 42 = .ok (.iconst 2, 1) := by decide +kernel
theorem dX3_takeOpening_43 : decode cX3_takeOpening 43 = .ok (.iadd, 1) := by decide +kernel
theorem dX3_takeOpening_44 : decode cX3_takeOpening 44 = .ok (.invokevirtual 70, 3) := by decide +kernel
theorem dX3_takeOpening_47 : decode cX3_takeOpening 47 = .ok (.iload_n 1, 1) := by decide +kernel
theorem dX3_takeOpening_48 : decode cX3_takeOpening 48 = .ok (.if_icmp .eq 5, 3) := by decide +kernel
theorem dX3_takeOpening_51 : decode cX3_takeOpening 51 = .ok (.iconst 0, 1) := by decide +kernel
theorem dX3_takeOpening_52 : decode cX3_takeOpening 52 = .ok (.ireturn, 1) := by decide +kernel
theorem dX3_takeOpening_53 : decode cX3_takeOpening 53 = .ok (.aload_n 0, 1) := by decide +kernel
theorem dX3_takeOpening_54 : decode cX3_takeOpening 54 = .ok (.dup, 1) := by decide +kernel
theorem dX3_takeOpening_55 : decode cX3_takeOpening 55 = .ok (.getfield 32, 3) := by decide +kernel
theorem dX3_takeOpening_58 : decode cX3_takeOpening 58 = .ok (.iconst 3, 1) := by decide +kernel
theorem dX3_takeOpening_59 : decode cX3_takeOpening 59 = .ok (.iadd, 1) := by decide +kernel
theorem dX3_takeOpening_60 : decode cX3_takeOpening 60 = .ok (.putfield 32, 3) := by decide +kernel
theorem dX3_takeOpening_63 : decode cX3_takeOpening 63 = .ok (.iconst 1, 1) := by decide +kernel
theorem dX3_takeOpening_64 : decode cX3_takeOpening 64 = .ok (.ireturn, 1) := by decide +kernel
theorem dX3_readAlternatives_0 : decode cX3_readAlternatives 0 = .ok (.aload_n 0, 1) := by decide +kernel
theorem dX3_readAlternatives_1 : decode cX3_readAlternatives 1 = .ok (.getfield 22, 3) := by decide +kernel
theorem dX3_readAlternatives_4 : decode cX3_readAlternatives 4 = .ok (.iconst 5, 1) := by decide +kernel
theorem dX3_readAlternatives_5 : decode cX3_readAlternatives 5 = .ok (.iconst (-1), 1) := by decide +kernel
theorem dX3_readAlternatives_6 : decode cX3_readAlternatives 6 = .ok (.iconst (-1), 1) := by decide +kernel
theorem dX3_readAlternatives_7 : decode cX3_readAlternatives 7 = .ok (.invokevirtual 64, 3) := by decide +kernel
theorem dX3_readAlternatives_10 : decode cX3_readAlternatives 10 = .ok (.istore_n 2, 1) := by decide +kernel
theorem dX3_readAlternatives_11 : decode cX3_readAlternatives 11 = .ok (.aload_n 0, 1) := by decide +kernel
theorem dX3_readAlternatives_12 : decode cX3_readAlternatives 12 = .ok (.iload_n 1, 1) := by decide +kernel
theorem dX3_readAlternatives_13 : decode cX3_readAlternatives 13 = .ok (.invokevirtual 73, 3) := by decide +kernel
theorem dX3_readAlternatives_16 : decode cX3_readAlternatives 16 = .ok (.istore_n 3, 1) := by decide +kernel
theorem dX3_readAlternatives_17 : decode cX3_readAlternatives 17 = .ok (.iconst (-1), 1) := by decide +kernel
theorem dX3_readAlternatives_18 : decode cX3_readAlternatives 18 = .ok (.istore 4, 2) := by decide +kernel
theorem dX3_readAlternatives_20 : decode cX3_readAlternatives 20 = .ok (.iconst 0, 1) := by decide +kernel
theorem dX3_readAlternatives_21 : decode cX3_readAlternatives 21 = .ok (.istore 5, 2) := by decide +kernel
theorem dX3_readAlternatives_23 : decode cX3_readAlternatives 23 = .ok (.iload 5, 2) := by decide +kernel
theorem dX3_readAlternatives_25 : decode cX3_readAlternatives 25 = .ok (.bipush 40, 2) := by decide +kernel
theorem dX3_readAlternatives_27 : decode cX3_readAlternatives 27 = .ok (.if_icmp .ge 67, 3) := by decide +kernel
theorem dX3_readAlternatives_30 : decode cX3_readAlternatives 30 = .ok (.aload_n 0, 1) := by decide +kernel
theorem dX3_readAlternatives_31 : decode cX3_readAlternatives 31 = .ok (.bipush 124, 2) := by decide +kernel
theorem dX3_readAlternatives_33 : decode cX3_readAlternatives 33 = .ok (.invokevirtual 76, 3) := by decide +kernel
theorem dX3_readAlternatives_36 : decode cX3_readAlternatives 36 = .ok (.ifCond .eq 58, 3) := by decide +kernel
theorem dX3_readAlternatives_39 : decode cX3_readAlternatives 39 = .ok (.aload_n 0, 1) := by decide +kernel
theorem dX3_readAlternatives_40 : decode cX3_readAlternatives 40 = .ok (.getfield 22, 3) := by decide +kernel
theorem dX3_readAlternatives_43 : decode cX3_readAlternatives 43 = .ok (.bipush 6, 2) := by decide +kernel
theorem dX3_readAlternatives_45 : decode cX3_readAlternatives 45 = .ok (.iload 4, 2) := by decide +kernel
theorem dX3_readAlternatives_47 : decode cX3_readAlternatives 47 = .ok (.iconst (-1), 1) := by decide +kernel
theorem dX3_readAlternatives_48 : decode cX3_readAlternatives 48 = .ok (.invokevirtual 64, 3) := by decide +kernel
theorem dX3_readAlternatives_51 : decode cX3_readAlternatives 51 = .ok (.istore 4, 2) := by decide +kernel
theorem dX3_readAlternatives_53 : decode cX3_readAlternatives 53 = .ok (.aload_n 0, 1) := by decide +kernel
theorem dX3_readAlternatives_54 : decode cX3_readAlternatives 54 = .ok (.getfield 22, 3) := by decide +kernel
theorem dX3_readAlternatives_57 : decode cX3_readAlternatives 57 = .ok (.iconst 5, 1) := by decide +kernel
theorem dX3_readAlternatives_58 : decode cX3_readAlternatives 58 = .ok (.iconst (-1), 1) := by decide +kernel
theorem dX3_readAlternatives_59 : decode cX3_readAlternatives 59 = .ok (.iconst (-1), 1) := by decide +kernel
theorem dX3_readAlternatives_60 : decode cX3_readAlternatives 60 = .ok (.invokevirtual 64, 3) := by decide +kernel
theorem dX3_readAlternatives_63 : decode cX3_readAlternatives 63 = .ok (.istore 6, 2) := by decide +kernel
theorem dX3_readAlternatives_65 : decode cX3_readAlternatives 65 = .ok (.aload_n 0, 1) := by decide +kernel
theorem dX3_readAlternatives_66 : decode cX3_readAlternatives 66 = .ok (.getfield 22, 3) := by decide +kernel
theorem dX3_readAlternatives_69 : decode cX3_readAlternatives 69 = .ok (.iload_n 2, 1) := by decide +kernel
theorem dX3_readAlternatives_70 : decode cX3_readAlternatives 70 = .ok (.iload 6, 2) := by decide +kernel
theorem dX3_readAlternatives_72 : decode cX3_readAlternatives 72 = .ok (.invokevirtual 80, 3) := by decide +kernel
theorem dX3_readAlternatives_75 : decode cX3_readAlternatives 75 = .ok (.iload 6, 2) := by decide +kernel
theorem dX3_readAlternatives_77 : decode cX3_readAlternatives 77 = .ok (.istore_n 2, 1) := by decide +kernel
theorem dX3_readAlternatives_78 : decode cX3_readAlternatives 78 = .ok (.iload_n 3, 1) := by decide +kernel
theorem dX3_readAlternatives_79 : decode cX3_readAlternatives 79 = .ok (.iconst 1, 1) := by decide +kernel
theorem dX3_readAlternatives_80 : decode cX3_readAlternatives 80 = .ok (.aload_n 0, 1) := by decide +kernel
theorem dX3_readAlternatives_81 : decode cX3_readAlternatives 81 = .ok (.iload_n 1, 1) := by decide +kernel
theorem dX3_readAlternatives_82 : decode cX3_readAlternatives 82 = .ok (.invokevirtual 73, 3) := by decide +kernel
theorem dX3_readAlternatives_85 : decode cX3_readAlternatives 85 = .ok (.iadd, 1) := by decide +kernel
theorem dX3_readAlternatives_86 : decode cX3_readAlternatives 86 = .ok (.iadd, 1) := by decide +kernel
theorem dX3_readAlternatives_87 : decode cX3_readAlternatives 87 = .ok (.istore_n 3, 1) := by decide +kernel
theorem dX3_readAlternatives_88 : decode cX3_readAlternatives 88 = .ok (.iinc 5 1, 3) := by decide +kernel
theorem dX3_readAlternatives_91 : decode cX3_readAlternatives 91 = .ok (.goto (-68), 3) := by decide +kernel
theorem dX3_readAlternatives_94 : decode cX3_readAlternatives 94 = .ok (.aload_n 0, 1) := by decide +kernel
theorem dX3_readAlternatives_95 : decode cX3_readAlternatives 95 = .ok (.getfield 22, 3) := by decide +kernel
theorem dX3_readAlternatives_98 : decode cX3_readAlternatives 98 = .ok (.iload 4, 2) := by decide +kernel
theorem dX3_readAlternatives_100 : decode cX3_readAlternatives 100 = .ok (.aload_n 0, 1) := by decide +kernel
theorem dX3_readAlternatives_101 : decode cX3_readAlternatives 101 = .ok (.getfield 22, 3) := by decide +kernel
theorem dX3_readAlternatives_104 : decode cX3_readAlternatives 104 = .ok (.invokevirtual 84, 3) := by decide +kernel
theorem dX3_readAlternatives_107 : decode cX3_readAlternatives 107 = .ok (.invokevirtual 87, 3) := by decide +kernel
theorem dX3_readAlternatives_110 : decode cX3_readAlternatives 110 = .ok (.iload_n 3, 1) := by decide +kernel
theorem dX3_readAlternatives_111 : decode cX3_readAlternatives 111 = .ok (.ireturn, 1) := by decide +kernel
theorem dX3_readRow_0 : decode cX3_readRow 0 = .ok (.iconst 0, 1) := by decide +kernel
theorem dX3_readRow_1 : decode cX3_readRow 1 = .ok (.istore_n 2, 1) := by decide +kernel
theorem dX3_readRow_2 : decode cX3_readRow 2 = .ok (.iconst 0, 1) := by decide +kernel
theorem dX3_readRow_3 : decode cX3_readRow 3 = .ok (.istore_n 3, 1) := by decide +kernel
theorem dX3_readRow_4 : decode cX3_readRow 4 = .ok (.iload_n 3, 1) := by decide +kernel
theorem dX3_readRow_5 : decode cX3_readRow 5 = .ok (.bipush 40, 2) := by decide +kernel
theorem dX3_readRow_7 : decode cX3_readRow 7 = .ok (.if_icmp .ge 24, 3) := by decide +kernel
theorem dX3_readRow_10 : decode cX3_readRow 10 = .ok (.aload_n 0, 1) := by decide +kernel
theorem dX3_readRow_11 : decode cX3_readRow 11 = .ok (.invokevirtual 90, 3) := by decide +kernel
theorem dX3_readRow_14 : decode cX3_readRow 14 = .ok (.ifCond .eq 17, 3) := by decide +kernel
theorem dX3_readRow_17 : decode cX3_readRow 17 = .ok (.iload_n 2, 1) := by decide +kernel
theorem dX3_readRow_18 : decode cX3_readRow 18 = .ok (.aload_n 0, 1) := by decide +kernel
theorem dX3_readRow_19 : decode cX3_readRow 19 = .ok (.iload_n 1, 1) := by decide +kernel
theorem dX3_readRow_20 : decode cX3_readRow 20 = .ok (.invokevirtual 94, 3) := by decide +kernel
theorem dX3_readRow_23 : decode cX3_readRow 23 = .ok (.iadd, 1) := by decide +kernel
theorem dX3_readRow_24 : decode cX3_readRow 24 = .ok (.istore_n 2, 1) := by decide +kernel
theorem dX3_readRow_25 : decode cX3_readRow 25 = .ok (.iinc 3 1, 3) := by decide +kernel
theorem dX3_readRow_28 : decode cX3_readRow 28 = .ok (.goto (-24), 3) := by decide +kernel
theorem dX3_readRow_31 : decode cX3_readRow 31 = .ok (.iload_n 2, 1) := by decide +kernel
theorem dX3_readRow_32 : decode cX3_readRow 32 = .ok (.ireturn, 1) := by decide +kernel
theorem dX3_rowGoesOn_0 : decode cX3_rowGoesOn 0 = .ok (.aload_n 0, 1) := by decide +kernel
theorem dX3_rowGoesOn_1 : decode cX3_rowGoesOn 1 = .ok (.getfield 18, 3) := by decide +kernel
theorem dX3_rowGoesOn_4 : decode cX3_rowGoesOn 4 = .ok (.aload_n 0, 1) := by decide +kernel
theorem dX3_rowGoesOn_5 : decode cX3_rowGoesOn 5 = .ok (.getfield 32, 3) := by decide +kernel
theorem dX3_rowGoesOn_8 : decode cX3_rowGoesOn 8 = .ok (.invokevirtual 70, 3) := by decide +kernel
theorem dX3_rowGoesOn_11 : decode cX3_rowGoesOn 11 = .ok (.istore_n 1, 1) := by decide +kernel
theorem dX3_rowGoesOn_12 : decode cX3_rowGoesOn 12 = .ok (.iload_n 1, 1) := by decide +kernel
theorem dX3_rowGoesOn_13 : decode cX3_rowGoesOn 13 = .ok (.ifCond .eq 19, 3) := by decide +kernel
theorem dX3_rowGoesOn_16 : decode cX3_rowGoesOn 16 = .ok (.iload_n 1, 1) := by decide +kernel
theorem dX3_rowGoesOn_17 : decode cX3_rowGoesOn 17 = .ok (.bipush 124, 2) := by decide +kernel
theorem dX3_rowGoesOn_19 : decode cX3_rowGoesOn 19 = .ok (.if_icmp .eq 13, 3) := by decide +kernel
theorem dX3_rowGoesOn_22 : decode cX3_rowGoesOn 22 = .ok (.iload_n 1, 1) := by decide +kernel
theorem dX3_rowGoesOn_23 : decode cX3_rowGoesOn 23 = .ok (.bipush 41, 2) := by decide +kernel
theorem dX3_rowGoesOn_25 : decode cX3_rowGoesOn 25 = .ok (.if_icmp .eq 7, 3) := by decide +kernel
theorem dX3_rowGoesOn_28 : decode cX3_rowGoesOn 28 = .ok (.iconst 1, 1) := by decide +kernel
theorem dX3_rowGoesOn_29 : decode cX3_rowGoesOn 29 = .ok (.goto 4, 3) := by decide +kernel
theorem dX3_rowGoesOn_32 : decode cX3_rowGoesOn 32 = .ok (.iconst 0, 1) := by decide +kernel
theorem dX3_rowGoesOn_33 : decode cX3_rowGoesOn 33 = .ok (.ireturn, 1) := by decide +kernel
theorem dX3_readTerm_0 : decode cX3_readTerm 0 = .ok (.aload_n 0, 1) := by decide +kernel
theorem dX3_readTerm_1 : decode cX3_readTerm 1 = .ok (.bipush 94, 2) := by decide +kernel
theorem dX3_readTerm_3 : decode cX3_readTerm 3 = .ok (.invokevirtual 76, 3) := by decide +kernel
theorem dX3_readTerm_6 : decode cX3_readTerm 6 = .ok (.ifCond .eq 16, 3) := by decide +kernel
theorem dX3_readTerm_9 : decode cX3_readTerm 9 = .ok (.aload_n 0, 1) := by decide +kernel
theorem dX3_readTerm_10 : decode cX3_readTerm 10 = .ok (.getfield 22, 3) := by decide +kernel
theorem dX3_readTerm_13 : decode cX3_readTerm 13 = .ok (.iconst 2, 1) := by decide +kernel
theorem dX3_readTerm_14 : decode cX3_readTerm 14 = .ok (.iconst (-1), 1) := by decide +kernel
theorem dX3_readTerm_15 : decode cX3_readTerm 15 = .ok (.iconst (-1), 1) := by decide +kernel
theorem dX3_readTerm_16 : decode cX3_readTerm 16 = .ok (.invokevirtual 64, 3) := by decide +kernel
theorem dX3_readTerm_19 : decode cX3_readTerm 19 = .ok (.pop, 1) := by decide +kernel
theorem dX3_readTerm_20 : decode cX3_readTerm 20 = .ok (.iconst 1, 1) := by decide +kernel
theorem dX3_readTerm_21 : decode cX3_readTerm 21 = .ok (.ireturn, 1) := by decide +kernel
theorem dX3_readTerm_22 : decode cX3_readTerm 22 = .ok (.aload_n 0, 1) := by decide +kernel
theorem dX3_readTerm_23 : decode cX3_readTerm 23 = .ok (.bipush 36, 2) := by decide +kernel
theorem dX3_readTerm_25 : decode cX3_readTerm 25 = .ok (.invokevirtual 76, 3) := by decide +kernel
theorem dX3_readTerm_28 : decode cX3_readTerm 28 = .ok (.ifCond .eq 16, 3) := by decide +kernel
theorem dX3_readTerm_31 : decode cX3_readTerm 31 = .ok (.aload_n 0, 1) := by decide +kernel
theorem dX3_readTerm_32 : decode cX3_readTerm 32 = .ok (.getfield 22, 3) := by decide +kernel
theorem dX3_readTerm_35 : decode cX3_readTerm 35 = .ok (.iconst 3, 1) := by decide +kernel
theorem dX3_readTerm_36 : decode cX3_readTerm 36 = .ok (.iconst (-1), 1) := by decide +kernel
theorem dX3_readTerm_37 : decode cX3_readTerm 37 = .ok (.iconst (-1), 1) := by decide +kernel
theorem dX3_readTerm_38 : decode cX3_readTerm 38 = .ok (.invokevirtual 64, 3) := by decide +kernel
theorem dX3_readTerm_41 : decode cX3_readTerm 41 = .ok (.pop, 1) := by decide +kernel
theorem dX3_readTerm_42 : decode cX3_readTerm 42 = .ok (.iconst 1, 1) := by decide +kernel
theorem dX3_readTerm_43 : decode cX3_readTerm 43 = .ok (.ireturn, 1) := by decide +kernel
theorem dX3_readTerm_44 : decode cX3_readTerm 44 = .ok (.aload_n 0, 1) := by decide +kernel
theorem dX3_readTerm_45 : decode cX3_readTerm 45 = .ok (.bipush 61, 2) := by decide +kernel
theorem dX3_readTerm_47 : decode cX3_readTerm 47 = .ok (.invokevirtual 97, 3) := by decide +kernel
theorem dX3_readTerm_50 : decode cX3_readTerm 50 = .ok (.ifCond .eq 13, 3) := by decide +kernel
theorem dX3_readTerm_53 : decode cX3_readTerm 53 = .ok (.aload_n 0, 1) := by decide +kernel
theorem dX3_readTerm_54 : decode cX3_readTerm 54 = .ok (.bipush 13, 2) := by decide +kernel
theorem dX3_readTerm_56 : decode cX3_readTerm 56 = .ok (.bipush 14, 2) := by decide +kernel
theorem dX3_readTerm_58 : decode cX3_readTerm 58 = .ok (.iload_n 1, 1) := by decide +kernel
theorem dX3_readTerm_59 : decode cX3_readTerm 59 = .ok (.invokevirtual 100, 3) := by decide +kernel
theorem dX3_readTerm_62 : decode cX3_readTerm 62 = .ok (.ireturn, 1) := by decide +kernel
theorem dX3_readTerm_63 : decode cX3_readTerm 63 = .ok (.aload_n 0, 1) := by decide +kernel
theorem dX3_readTerm_64 : decode cX3_readTerm 64 = .ok (.bipush 33, 2) := by decide +kernel
theorem dX3_readTerm_66 : decode cX3_readTerm 66 = .ok (.invokevirtual 97, 3) := by decide +kernel
theorem dX3_readTerm_69 : decode cX3_readTerm 69 = .ok (.ifCond .eq 13, 3) := by decide +kernel
theorem dX3_readTerm_72 : decode cX3_readTerm 72 = .ok (.aload_n 0, 1) := by decide +kernel
theorem dX3_readTerm_73 : decode cX3_readTerm 73 = .ok (.bipush 15, 2) := by decide +kernel
theorem dX3_readTerm_75 : decode cX3_readTerm 75 = .ok (.bipush 16, 2) := by decide +kernel
theorem dX3_readTerm_77 : decode cX3_readTerm 77 = .ok (.iload_n 1, 1) := by decide +kernel
theorem dX3_readTerm_78 : decode cX3_readTerm 78 = .ok (.invokevirtual 100, 3) := by decide +kernel
theorem dX3_readTerm_81 : decode cX3_readTerm 81 = .ok (.ireturn, 1) := by decide +kernel
theorem dX3_readTerm_82 : decode cX3_readTerm 82 = .ok (.aload_n 0, 1) := by decide +kernel
theorem dX3_readTerm_83 : decode cX3_readTerm 83 = .ok (.iload_n 1, 1) := by decide +kernel
theorem dX3_readTerm_84 : decode cX3_readTerm 84 = .ok (.invokevirtual 103, 3) := by decide +kernel
theorem dX3_readTerm_87 : decode cX3_readTerm 87 = .ok (.ireturn, 1) := by decide +kernel
theorem dX3_readLook_0 : decode cX3_readLook 0 = .ok (.aload_n 0, 1) := by decide +kernel
theorem dX3_readLook_1 : decode cX3_readLook 1 = .ok (.getfield 22, 3) := by decide +kernel
theorem dX3_readLook_4 : decode cX3_readLook 4 = .ok (.invokevirtual 106, 3) := by decide +kernel
theorem dX3_readLook_7 : decode cX3_readLook 7 = .ok (.istore 4, 2) := by decide +kernel
theorem dX3_readLook_9 : decode cX3_readLook 9 = .ok (.aload_n 0, 1) := by decide +kernel
theorem dX3_readLook_10 : decode cX3_readLook 10 = .ok (.getfield 22, 3) := by decide +kernel
theorem dX3_readLook_13 : decode cX3_readLook 13 = .ok (.iload_n 1, 1) := by decide +kernel
theorem dX3_readLook_14 : decode cX3_readLook 14 = .ok (.iconst (-1), 1) := by decide +kernel
theorem dX3_readLook_15 : decode cX3_readLook 15 = .ok (.iload 4, 2) := by decide +kernel
theorem dX3_readLook_17 : decode cX3_readLook 17 = .ok (.invokevirtual 64, 3) := by decide +kernel
theorem dX3_readLook_20 : decode cX3_readLook 20 = .ok (.istore 5, 2) := by decide +kernel
theorem dX3_readLook_22 : decode cX3_readLook 22 = .ok (.aload_n 0, 1) := by decide +kernel
theorem dX3_readLook_23 : decode cX3_readLook 23 = .ok (.iload_n 3, 1) := by decide +kernel
theorem dX3_readLook_24 : decode cX3_readLook 24 = .ok (.invokevirtual 109, 3) := by decide +kernel
theorem dX3_readLook_27 : decode cX3_readLook 27 = .ok (.istore 6, 2) := by decide +kernel
theorem dX3_readLook_29 : decode cX3_readLook 29 = .ok (.aload_n 0, 1) := by decide +kernel
theorem dX3_readLook_30 : decode cX3_readLook 30 = .ok (.getfield 22, 3) := by decide +kernel
theorem dX3_readLook_33 : decode cX3_readLook 33 = .ok (.iload_n 2, 1) := by decide +kernel
theorem dX3_readLook_34 : decode cX3_readLook 34 = .ok (.iconst (-1), 1) := by decide +kernel
theorem dX3_readLook_35 : decode cX3_readLook 35 = .ok (.iload 4, 2) := by decide +kernel
theorem dX3_readLook_37 : decode cX3_readLook 37 = .ok (.invokevirtual 64, 3) := by decide +kernel
theorem dX3_readLook_40 : decode cX3_readLook 40 = .ok (.pop, 1) := by decide +kernel
theorem dX3_readLook_41 : decode cX3_readLook 41 = .ok (.aload_n 0, 1) := by decide +kernel
theorem dX3_readLook_42 : decode cX3_readLook 42 = .ok (.getfield 22, 3) := by decide +kernel
theorem dX3_readLook_45 : decode cX3_readLook 45 = .ok (.iload 5, 2) := by decide +kernel
theorem dX3_readLook_47 : decode cX3_readLook 47 = .ok (.aload_n 0, 1) := by decide +kernel
theorem dX3_readLook_48 : decode cX3_readLook 48 = .ok (.getfield 22, 3) := by decide +kernel
theorem dX3_readLook_51 : decode cX3_readLook 51 = .ok (.invokevirtual 84, 3) := by decide +kernel
theorem dX3_readLook_54 : decode cX3_readLook 54 = .ok (.invokevirtual 80, 3) := by decide +kernel
theorem dX3_readLook_57 : decode cX3_readLook 57 = .ok (.iload 6, 2) := by decide +kernel
theorem dX3_readLook_59 : decode cX3_readLook 59 = .ok (.ireturn, 1) := by decide +kernel
theorem dX3_readInside_0 : decode cX3_readInside 0 = .ok (.iload_n 1, 1) := by decide +kernel
theorem dX3_readInside_1 : decode cX3_readInside 1 = .ok (.bipush 8, 2) := by decide +kernel
theorem dX3_readInside_3 : decode cX3_readInside 3 = .ok (.if_icmp .lt 13, 3) := by decide +kernel
theorem dX3_readInside_6 : decode cX3_readInside 6 = .ok (.new 49, 3) := by decide +kernel
theorem dX3_readInside_9 : decode cX3_readInside 9 = .ok (.dup, 1) := by decide +kernel
theorem dX3_readInside_10 : decode cX3_readInside 10 = .ok (.ldc 112, 2) := by decide +kernel
theorem dX3_readInside_12 : decode cX3_readInside 12 = .ok (.invokespecial 53, 3) := by decide +kernel
theorem dX3_readInside_15 : decode cX3_readInside 15 = .ok (.athrow, 1) := by decide +kernel
theorem dX3_readInside_16 : decode cX3_readInside 16 = .ok (.aload_n 0, 1) := by decide +kernel
theorem dX3_readInside_17 : decode cX3_readInside 17 = .ok (.iload_n 1, 1) := by decide +kernel
theorem dX3_readInside_18 : decode cX3_readInside 18 = .ok (.iconst 1, 1) := by decide +kernel
theorem dX3_readInside_19 : decode cX3_readInside 19 = .ok (.iadd, 1) := by decide +kernel
theorem dX3_readInside_20 : decode cX3_readInside 20 = .ok (.invokevirtual 39, 3) := by decide +kernel
theorem dX3_readInside_23 : decode cX3_readInside 23 = .ok (.istore_n 2, 1) := by decide +kernel
theorem dX3_readInside_24 : decode cX3_readInside 24 = .ok (.aload_n 0, 1) := by decide +kernel
theorem dX3_readInside_25 : decode cX3_readInside 25 = .ok (.bipush 41, 2) := by decide +kernel
theorem dX3_readInside_27 : decode cX3_readInside 27 = .ok (.invokevirtual 76, 3) := by decide +kernel
theorem dX3_readInside_30 : decode cX3_readInside 30 = .ok (.ifCond .ne 13, 3) := by decide +kernel
theorem dX3_readInside_33 : decode cX3_readInside 33 = .ok (.new 49, 3) := by decide +kernel
theorem dX3_readInside_36 : decode cX3_readInside 36 = .ok (.dup, 1) := by decide +kernel
theorem dX3_readInside_37 : decode cX3_readInside 37 = .ok (.ldc 114, 2) := by decide +kernel
theorem dX3_readInside_39 : decode cX3_readInside 39 = .ok (.invokespecial 53, 3) := by decide +kernel
theorem dX3_readInside_42 : decode cX3_readInside 42 = .ok (.athrow, 1) := by decide +kernel
theorem dX3_readInside_43 : decode cX3_readInside 43 = .ok (.iload_n 2, 1) := by decide +kernel
theorem dX3_readInside_44 : decode cX3_readInside 44 = .ok (.iconst 1, 1) := by decide +kernel
theorem dX3_readInside_45 : decode cX3_readInside 45 = .ok (.iadd, 1) := by decide +kernel
theorem dX3_readInside_46 : decode cX3_readInside 46 = .ok (.ireturn, 1) := by decide +kernel
theorem dX3_readCountedAtom_0 : decode cX3_readCountedAtom 0 = .ok (.aload_n 0, 1) := by decide +kernel
theorem dX3_readCountedAtom_1 : decode cX3_readCountedAtom 1 = .ok (.getfield 22, 3) := by decide +kernel
theorem dX3_readCountedAtom_4 : decode cX3_readCountedAtom 4 = .ok (.invokevirtual 56, 3) := by decide +kernel
theorem dX3_readCountedAtom_7 : decode cX3_readCountedAtom 7 = .ok (.istore_n 2, 1) := by decide +kernel
theorem dX3_readCountedAtom_8 : decode cX3_readCountedAtom 8 = .ok (.aload_n 0, 1) := by decide +kernel
theorem dX3_readCountedAtom_9 : decode cX3_readCountedAtom 9 = .ok (.getfield 22, 3) := by decide +kernel
theorem dX3_readCountedAtom_12 : decode cX3_readCountedAtom 12 = .ok (.bipush 9, 2) := by decide +kernel
theorem dX3_readCountedAtom_14 : decode cX3_readCountedAtom 14 = .ok (.iconst (-1), 1) := by decide +kernel
theorem dX3_readCountedAtom_15 : decode cX3_readCountedAtom 15 = .ok (.iconst (-1), 1) := by decide +kernel
theorem dX3_readCountedAtom_16 : decode cX3_readCountedAtom 16 = .ok (.invokevirtual 64, 3) := by decide +kernel
theorem dX3_readCountedAtom_19 : decode cX3_readCountedAtom 19 = .ok (.istore_n 3, 1) := by decide +kernel
theorem dX3_readCountedAtom_20 : decode cX3_readCountedAtom 20 = .ok (.aload_n 0, 1) := by decide +kernel
theorem dX3_readCountedAtom_21 : decode cX3_readCountedAtom 21 = .ok (.iload_n 1, 1) := by decide +kernel
theorem dX3_readCountedAtom_22 : decode cX3_readCountedAtom 22 = .ok (.invokevirtual 116, 3) := by decide +kernel
theorem dX3_readCountedAtom_25 : decode cX3_readCountedAtom 25 = .ok (.istore 4, 2) := by decide +kernel
theorem dX3_readCountedAtom_27 : decode cX3_readCountedAtom 27 = .ok (.aload_n 0, 1) := by decide +kernel
theorem dX3_readCountedAtom_28 : decode cX3_readCountedAtom 28 = .ok (.invokevirtual 119, 3) := by decide +kernel
theorem dX3_readCountedAtom_31 : decode cX3_readCountedAtom 31 = .ok (.ifCond .ne 6, 3) := by decide +kernel
theorem dX3_readCountedAtom_34 : decode cX3_readCountedAtom 34 = .ok (.iload 4, 2) := by decide +kernel
theorem dX3_readCountedAtom_36 : decode cX3_readCountedAtom 36 = .ok (.ireturn, 1) := by decide +kernel
theorem dX3_readCountedAtom_37 : decode cX3_readCountedAtom 37 = .ok (.aload_n 0, 1) := by decide +kernel
theorem dX3_readCountedAtom_38 : decode cX3_readCountedAtom 38 = .ok (.getfield 22, 3) := by decide +kernel
theorem dX3_readCountedAtom_41 : decode cX3_readCountedAtom 41 = .ok (.aload_n 0, 1) := by decide +kernel
theorem dX3_readCountedAtom_42 : decode cX3_readCountedAtom 42 = .ok (.getfield 122, 3) := by decide +kernel
theorem dX3_readCountedAtom_45 : decode cX3_readCountedAtom 45 = .ok (.aload_n 0, 1) := by decide +kernel
theorem dX3_readCountedAtom_46 : decode cX3_readCountedAtom 46 = .ok (.getfield 125, 3) := by decide +kernel
theorem dX3_readCountedAtom_49 : decode cX3_readCountedAtom 49 = .ok (.iload_n 2, 1) := by decide +kernel
theorem dX3_readCountedAtom_50 : decode cX3_readCountedAtom 50 = .ok (.iconst 1, 1) := by decide +kernel
theorem dX3_readCountedAtom_51 : decode cX3_readCountedAtom 51 = .ok (.iadd, 1) := by decide +kernel
theorem dX3_readCountedAtom_52 : decode cX3_readCountedAtom 52 = .ok (.invokevirtual 128, 3) := by decide +kernel
theorem dX3_readCountedAtom_55 : decode cX3_readCountedAtom 55 = .ok (.istore 5, 2) := by decide +kernel
theorem dX3_readCountedAtom_57 : decode cX3_readCountedAtom 57 = .ok (.aload_n 0, 1) := by decide +kernel
theorem dX3_readCountedAtom_58 : decode cX3_readCountedAtom 58 = .ok (.getfield 22, 3) := by decide +kernel
theorem dX3_readCountedAtom_61 : decode cX3_readCountedAtom 61 = .ok (.aload_n 0, 1) := by decide +kernel
theorem dX3_readCountedAtom_62 : decode cX3_readCountedAtom 62 = .ok (.getfield 131, 3) := by decide +kernel
theorem dX3_readCountedAtom_65 : decode cX3_readCountedAtom 65 = .ok (.ifCond .eq 8, 3) := by decide +kernel
theorem dX3_readCountedAtom_68 : decode cX3_readCountedAtom 68 = .ok (.bipush 11, 2) := by decide +kernel
theorem dX3_readCountedAtom_70 : decode cX3_readCountedAtom 70 = .ok (.goto 5, 3) := by decide +kernel
theorem dX3_readCountedAtom_73 : decode cX3_readCountedAtom 73 = .ok (.bipush 10, 2) := by decide +kernel
theorem dX3_readCountedAtom_75 : decode cX3_readCountedAtom 75 = .ok (.iconst (-1), 1) := by decide +kernel
theorem dX3_readCountedAtom_76 : decode cX3_readCountedAtom 76 = .ok (.iload 5, 2) := by decide +kernel
theorem dX3_readCountedAtom_78 : decode cX3_readCountedAtom 78 = .ok (.invokevirtual 64, 3) := by decide +kernel
theorem dX3_readCountedAtom_81 : decode cX3_readCountedAtom 81 = .ok (.istore 6, 2) := by decide +kernel
theorem dX3_readCountedAtom_83 : decode cX3_readCountedAtom 83 = .ok (.aload_n 0, 1) := by decide +kernel
theorem dX3_readCountedAtom_84 : decode cX3_readCountedAtom 84 = .ok (.getfield 22, 3) := by decide +kernel
theorem dX3_readCountedAtom_87 : decode cX3_readCountedAtom 87 = .ok (.bipush 12, 2) := by decide +kernel
theorem dX3_readCountedAtom_89 : decode cX3_readCountedAtom 89 = .ok (.iload_n 3, 1) := by decide +kernel
theorem dX3_readCountedAtom_90 : decode cX3_readCountedAtom 90 = .ok (.iconst 1, 1) := by decide +kernel
theorem dX3_readCountedAtom_91 : decode cX3_readCountedAtom 91 = .ok (.iadd, 1) := by decide +kernel
theorem dX3_readCountedAtom_92 : decode cX3_readCountedAtom 92 = .ok (.iload 5, 2) := by decide +kernel
theorem dX3_readCountedAtom_94 : decode cX3_readCountedAtom 94 = .ok (.invokevirtual 64, 3) := by decide +kernel
theorem dX3_readCountedAtom_97 : decode cX3_readCountedAtom 97 = .ok (.pop, 1) := by decide +kernel
theorem dX3_readCountedAtom_98 : decode cX3_readCountedAtom 98 = .ok (.aload_n 0, 1) := by decide +kernel
theorem dX3_readCountedAtom_99 : decode cX3_readCountedAtom 99 = .ok (.getfield 22, 3) := by decide +kernel
theorem dX3_readCountedAtom_102 : decode cX3_readCountedAtom 102 = .ok (.iload_n 3, 1) := by decide +kernel
theorem dX3_readCountedAtom_103 : decode cX3_readCountedAtom 103 = .ok (.iload 6, 2) := by decide +kernel
theorem dX3_readCountedAtom_105 : decode cX3_readCountedAtom 105 = .ok (.invokevirtual 80, 3) := by decide +kernel
theorem dX3_readCountedAtom_108 : decode cX3_readCountedAtom 108 = .ok (.aload_n 0, 1) := by decide +kernel
theorem dX3_readCountedAtom_109 : decode cX3_readCountedAtom 109 = .ok (.getfield 125, 3) := by decide +kernel
theorem dX3_readCountedAtom_112 : decode cX3_readCountedAtom 112 = .ok (.ldc 135, 2) := by decide +kernel
theorem dX3_readCountedAtom_114 : decode cX3_readCountedAtom 114 = .ok (.if_icmp .ne 12, 3) := by decide +kernel
theorem dX3_readCountedAtom_117 : decode cX3_readCountedAtom 117 = .ok (.aload_n 0, 1) := by decide +kernel
theorem dX3_readCountedAtom_118 : decode cX3_readCountedAtom 118 = .ok (.getfield 122, 3) := by decide +kernel
theorem dX3_readCountedAtom_121 : decode cX3_readCountedAtom 121 = .ok (.iconst 1, 1) := by decide +kernel
theorem dX3_readCountedAtom_122 : decode cX3_readCountedAtom 122 = .ok (.iadd, 1) := by decide +kernel
theorem dX3_readCountedAtom_123 : decode cX3_readCountedAtom 123 = .ok (.goto 11, 3) := by decide +kernel
theorem dX3_readCountedAtom_126 : decode cX3_readCountedAtom 126 = .ok (.iconst 1, 1) := by decide +kernel
theorem dX3_readCountedAtom_127 : decode cX3_readCountedAtom 127 = .ok (.aload_n 0, 1) := by decide +kernel
theorem dX3_readCountedAtom_128 : decode cX3_readCountedAtom 128 = .ok (.getfield 125, 3) := by decide +kernel
theorem dX3_readCountedAtom_131 : decode cX3_readCountedAtom 131 = .ok (.invokestatic 136, 3) := by decide +kernel
theorem dX3_readCountedAtom_134 : decode cX3_readCountedAtom 134 = .ok (.istore 7, 2) := by decide +kernel
theorem dX3_readCountedAtom_136 : decode cX3_readCountedAtom 136 = .ok (.iload 4, 2) := by decide +kernel
theorem dX3_readCountedAtom_138 : decode cX3_readCountedAtom 138 = .ok (.iload 7, 2) := by decide +kernel
theorem dX3_readCountedAtom_140 : decode cX3_readCountedAtom 140 = .ok (.imul, 1) := by decide +kernel
theorem dX3_readCountedAtom_141 : decode cX3_readCountedAtom 141 = .ok (.iconst 2, 1) := by decide +kernel
theorem dX3_readCountedAtom_142 : decode cX3_readCountedAtom 142 = .ok (.iadd, 1) := by decide +kernel
theorem dX3_readCountedAtom_143 : decode cX3_readCountedAtom 143 = .ok (.istore 8, 2) := by decide +kernel
theorem dX3_readCountedAtom_145 : decode cX3_readCountedAtom 145 = .ok (.iload 8, 2) := by decide +kernel
theorem dX3_readCountedAtom_147 : decode cX3_readCountedAtom 147 = .ok (.invokestatic 61, 3) := by decide +kernel
theorem dX3_readCountedAtom_150 : decode cX3_readCountedAtom 150 = .ok (.iload 8, 2) := by decide +kernel
theorem dX3_readCountedAtom_152 : decode cX3_readCountedAtom 152 = .ok (.ireturn, 1) := by decide +kernel
theorem dX3_readAtom_0 : decode cX3_readAtom 0 = .ok (.aload_n 0, 1) := by decide +kernel
theorem dX3_readAtom_1 : decode cX3_readAtom 1 = .ok (.bipush 58, 2) := by decide +kernel
theorem dX3_readAtom_3 : decode cX3_readAtom 3 = .ok (.invokevirtual 97, 3) := by decide +kernel
theorem dX3_readAtom_6 : decode cX3_readAtom 6 = .ok (.ifCond .eq 9, 3) := by decide +kernel
theorem dX3_readAtom_9 : decode cX3_readAtom 9 = .ok (.aload_n 0, 1) := by decide +kernel
theorem dX3_readAtom_10 : decode cX3_readAtom 10 = .ok (.iload_n 1, 1) := by decide +kernel
theorem dX3_readAtom_11 : decode cX3_readAtom 11 = .ok (.invokevirtual 109, 3) := by decide +kernel
theorem dX3_readAtom_14 : decode cX3_readAtom 14 = .ok (.ireturn, 1) := by decide +kernel
theorem dX3_readAtom_15 : decode cX3_readAtom 15 = .ok (.aload_n 0, 1) := by decide +kernel
theorem dX3_readAtom_16 : decode cX3_readAtom 16 = .ok (.bipush 40, 2) := by decide +kernel
theorem dX3_readAtom_18 : decode cX3_readAtom 18 = .ok (.invokevirtual 76, 3) := by decide +kernel
theorem dX3_readAtom_21 : decode cX3_readAtom 21 = .ok (.ifCond .eq 9, 3) := by decide +kernel
theorem dX3_readAtom_24 : decode cX3_readAtom 24 = .ok (.aload_n 0, 1) := by decide +kernel
theorem dX3_readAtom_25 : decode cX3_readAtom 25 = .ok (.iload_n 1, 1) := by decide +kernel
theorem dX3_readAtom_26 : decode cX3_readAtom 26 = .ok (.invokevirtual 142, 3) := by decide +kernel
theorem dX3_readAtom_29 : decode cX3_readAtom 29 = .ok (.ireturn, 1) := by decide +kernel
theorem dX3_readAtom_30 : decode cX3_readAtom 30 = .ok (.aload_n 0, 1) := by decide +kernel
theorem dX3_readAtom_31 : decode cX3_readAtom 31 = .ok (.getfield 12, 3) := by decide +kernel
theorem dX3_readAtom_34 : decode cX3_readAtom 34 = .ok (.invokevirtual 145, 3) := by decide +kernel
theorem dX3_readAtom_37 : decode cX3_readAtom 37 = .ok (.aload_n 0, 1) := by decide +kernel
theorem dX3_readAtom_38 : decode cX3_readAtom 38 = .ok (.bipush 92, 2) := by decide +kernel
theorem dX3_readAtom_40 : decode cX3_readAtom 40 = .ok (.invokevirtual 76, 3) := by decide +kernel
theorem dX3_readAtom_43 : decode cX3_readAtom 43 = .ok (.ifCond .eq 8, 3) := by decide +kernel
theorem dX3_readAtom_46 : decode cX3_readAtom 46 = .ok (.aload_n 0, 1) := by decide +kernel
theorem dX3_readAtom_47 : decode cX3_readAtom 47 = .ok (.invokevirtual 147, 3) := by decide +kernel
theorem dX3_readAtom_50 : decode cX3_readAtom 50 = .ok (.ireturn, 1) := by decide +kernel
theorem dX3_readAtom_51 : decode cX3_readAtom 51 = .ok (.aload_n 0, 1) := by decide +kernel
theorem dX3_readAtom_52 : decode cX3_readAtom 52 = .ok (.bipush 91, 2) := by decide +kernel
theorem dX3_readAtom_54 : decode cX3_readAtom 54 = .ok (.invokevirtual 76, 3) := by decide +kernel
theorem dX3_readAtom_57 : decode cX3_readAtom 57 = .ok (.ifCond .eq 8, 3) := by decide +kernel
theorem dX3_readAtom_60 : decode cX3_readAtom 60 = .ok (.aload_n 0, 1) := by decide +kernel
theorem dX3_readAtom_61 : decode cX3_readAtom 61 = .ok (.invokevirtual 150, 3) := by decide +kernel
theorem dX3_readAtom_64 : decode cX3_readAtom 64 = .ok (.ireturn, 1) := by decide +kernel
theorem dX3_readAtom_65 : decode cX3_readAtom 65 = .ok (.aload_n 0, 1) := by decide +kernel
theorem dX3_readAtom_66 : decode cX3_readAtom 66 = .ok (.bipush 46, 2) := by decide +kernel
theorem dX3_readAtom_68 : decode cX3_readAtom 68 = .ok (.invokevirtual 76, 3) := by decide +kernel
theorem dX3_readAtom_71 : decode cX3_readAtom 71 = .ok (.ifCond .eq 13, 3) := by decide +kernel
theorem dX3_readAtom_74 : decode cX3_readAtom 74 = .ok (.aload_n 0, 1) := by decide +kernel
theorem dX3_readAtom_75 : decode cX3_readAtom 75 = .ok (.invokevirtual 153, 3) := by decide +kernel
theorem dX3_readAtom_78 : decode cX3_readAtom 78 = .ok (.aload_n 0, 1) := by decide +kernel
theorem dX3_readAtom_79 : decode cX3_readAtom 79 = .ok (.iconst 0, 1) := by decide +kernel
theorem dX3_readAtom_80 : decode cX3_readAtom 80 = .ok (.invokevirtual 156, 3) := by decide +kernel
theorem dX3_readAtom_83 : decode cX3_readAtom 83 = .ok (.ireturn, 1) := by decide +kernel
theorem dX3_readAtom_84 : decode cX3_readAtom 84 = .ok (.aload_n 0, 1) := by decide +kernel
theorem dX3_readAtom_85 : decode cX3_readAtom 85 = .ok (.getfield 18, 3) := by decide +kernel
theorem dX3_readAtom_88 : decode cX3_readAtom 88 = .ok (.aload_n 0, 1) := by decide +kernel
theorem dX3_readAtom_89 : decode cX3_readAtom 89 = .ok (.getfield 32, 3) := by decide +kernel
theorem dX3_readAtom_92 : decode cX3_readAtom 92 = .ok (.invokevirtual 70, 3) := by decide +kernel
theorem dX3_readAtom_95 : decode cX3_readAtom 95 = .ok (.istore_n 2, 1) := by decide +kernel
theorem dX3_readAtom_96 : decode cX3_readAtom 96 = .ok (.ldc 160, 2) := by decide +kernel
theorem dX3_readAtom_98 : decode cX3_readAtom 98 = .ok (.iload_n 2, 1) := by decide +kernel
theorem dX3_readAtom_99 : decode cX3_readAtom 99 = .ok (.invokevirtual 162, 3) := by decide +kernel
theorem dX3_readAtom_102 : decode cX3_readAtom 102 = .ok (.ifCond .lt 13, 3) := by decide +kernel
theorem dX3_readAtom_105 : decode cX3_readAtom 105 = .ok (.new 49, 3) := by decide +kernel
theorem dX3_readAtom_108 : decode cX3_readAtom 108 = .ok (.dup, 1) := by decide +kernel
theorem dX3_readAtom_109 : decode cX3_readAtom 109 = .ok (.ldc 51, 2) := by decide +kernel
theorem dX3_readAtom_111 : decode cX3_readAtom 111 = .ok (.invokespecial 53, 3) := by decide +kernel
theorem dX3_readAtom_114 : decode cX3_readAtom 114 = .ok (.athrow, 1) := by decide +kernel
theorem dX3_readAtom_115 : decode cX3_readAtom 115 = .ok (.aload_n 0, 1) := by decide +kernel
theorem dX3_readAtom_116 : decode cX3_readAtom 116 = .ok (.dup, 1) := by decide +kernel
theorem dX3_readAtom_117 : decode cX3_readAtom 117 = .ok (.getfield 32, 3) := by decide +kernel
theorem dX3_readAtom_120 : decode cX3_readAtom 120 = .ok (.iconst 1, 1) := by decide +kernel
theorem dX3_readAtom_121 : decode cX3_readAtom 121 = .ok (.iadd, 1) := by decide +kernel
theorem dX3_readAtom_122 : decode cX3_readAtom 122 = .ok (.putfield 32, 3) := by decide +kernel
theorem dX3_readAtom_125 : decode cX3_readAtom 125 = .ok (.aload_n 0, 1) := by decide +kernel
theorem dX3_readAtom_126 : decode cX3_readAtom 126 = .ok (.getfield 12, 3) := by decide +kernel
theorem dX3_readAtom_129 : decode cX3_readAtom 129 = .ok (.iload_n 2, 1) := by decide +kernel
theorem dX3_readAtom_130 : decode cX3_readAtom 130 = .ok (.invokevirtual 167, 3) := by decide +kernel
theorem dX3_readAtom_133 : decode cX3_readAtom 133 = .ok (.aload_n 0, 1) := by decide +kernel
theorem dX3_readAtom_134 : decode cX3_readAtom 134 = .ok (.iconst 0, 1) := by decide +kernel
theorem dX3_readAtom_135 : decode cX3_readAtom 135 = .ok (.invokevirtual 156, 3) := by decide +kernel
theorem dX3_readAtom_138 : decode cX3_readAtom 138 = .ok (.ireturn, 1) := by decide +kernel
theorem dX3_readGroup_0 : decode cX3_readGroup 0 = .ok (.aload_n 0, 1) := by decide +kernel
theorem dX3_readGroup_1 : decode cX3_readGroup 1 = .ok (.getfield 22, 3) := by decide +kernel
theorem dX3_readGroup_4 : decode cX3_readGroup 4 = .ok (.invokevirtual 169, 3) := by decide +kernel
theorem dX3_readGroup_7 : decode cX3_readGroup 7 = .ok (.istore_n 2, 1) := by decide +kernel
theorem dX3_readGroup_8 : decode cX3_readGroup 8 = .ok (.aload_n 0, 1) := by decide +kernel
theorem dX3_readGroup_9 : decode cX3_readGroup 9 = .ok (.getfield 22, 3) := by decide +kernel
theorem dX3_readGroup_12 : decode cX3_readGroup 12 = .ok (.bipush 7, 2) := by decide +kernel
theorem dX3_readGroup_14 : decode cX3_readGroup 14 = .ok (.iconst (-1), 1) := by decide +kernel
theorem dX3_readGroup_15 : decode cX3_readGroup 15 = .ok (.iload_n 2, 1) := by decide +kernel
theorem dX3_readGroup_16 : decode cX3_readGroup 16 = .ok (.invokevirtual 64, 3) := by decide +kernel
theorem dX3_readGroup_19 : decode cX3_readGroup 19 = .ok (.pop, 1) := by decide +kernel
theorem dX3_readGroup_20 : decode cX3_readGroup 20 = .ok (.aload_n 0, 1) := by decide +kernel
theorem dX3_readGroup_21 : decode cX3_readGroup 21 = .ok (.iload_n 1, 1) := by decide +kernel
theorem dX3_readGroup_22 : decode cX3_readGroup 22 = .ok (.invokevirtual 109, 3) := by decide +kernel
theorem dX3_readGroup_25 : decode cX3_readGroup 25 = .ok (.istore_n 3, 1) := by decide +kernel
theorem dX3_readGroup_26 : decode cX3_readGroup 26 = .ok (.aload_n 0, 1) := by decide +kernel
theorem dX3_readGroup_27 : decode cX3_readGroup 27 = .ok (.getfield 22, 3) := by decide +kernel
theorem dX3_readGroup_30 : decode cX3_readGroup 30 = .ok (.bipush 8, 2) := by decide +kernel
theorem dX3_readGroup_32 : decode cX3_readGroup 32 = .ok (.iconst (-1), 1) := by decide +kernel
theorem dX3_readGroup_33 : decode cX3_readGroup 33 = .ok (.iload_n 2, 1) := by decide +kernel
theorem dX3_readGroup_34 : decode cX3_readGroup 34 = .ok (.invokevirtual 64, 3) := by decide +kernel
theorem dX3_readGroup_37 : decode cX3_readGroup 37 = .ok (.pop, 1) := by decide +kernel
theorem dX3_readGroup_38 : decode cX3_readGroup 38 = .ok (.iload_n 3, 1) := by decide +kernel
theorem dX3_readGroup_39 : decode cX3_readGroup 39 = .ok (.ireturn, 1) := by decide +kernel
theorem dX3_addAnySign_0 : decode cX3_addAnySign 0 = .ok (.aload_n 0, 1) := by decide +kernel
theorem dX3_addAnySign_1 : decode cX3_addAnySign 1 = .ok (.getfield 22, 3) := by decide +kernel
theorem dX3_addAnySign_4 : decode cX3_addAnySign 4 = .ok (.iconst 2, 1) := by decide +kernel
theorem dX3_addAnySign_5 : decode cX3_addAnySign 5 = .ok (.invokevirtual 172, 3) := by decide +kernel
theorem dX3_addAnySign_8 : decode cX3_addAnySign 8 = .ok (.ifCond .eq 28, 3) := by decide +kernel
theorem dX3_addAnySign_11 : decode cX3_addAnySign 11 = .ok (.aload_n 0, 1) := by decide +kernel
theorem dX3_addAnySign_12 : decode cX3_addAnySign 12 = .ok (.getfield 12, 3) := by decide +kernel
theorem dX3_addAnySign_15 : decode cX3_addAnySign 15 = .ok (.bipush 32, 2) := by decide +kernel
theorem dX3_addAnySign_17 : decode cX3_addAnySign 17 = .ok (.bipush 46, 2) := by decide +kernel
theorem dX3_addAnySign_19 : decode cX3_addAnySign 19 = .ok (.invokevirtual 176, 3) := by decide +kernel
theorem dX3_addAnySign_22 : decode cX3_addAnySign 22 = .ok (.aload_n 0, 1) := by decide +kernel
theorem dX3_addAnySign_23 : decode cX3_addAnySign 23 = .ok (.getfield 12, 3) := by decide +kernel
theorem dX3_addAnySign_26 : decode cX3_addAnySign 26 = .ok (.bipush 48, 2) := by decide +kernel
theorem dX3_addAnySign_28 : decode cX3_addAnySign 28 = .ok (.bipush 126, 2) := by decide +kernel
theorem dX3_addAnySign_30 : decode cX3_addAnySign 30 = .ok (.invokevirtual 176, 3) := by decide +kernel
theorem dX3_addAnySign_33 : decode cX3_addAnySign 33 = .ok (.goto 14, 3) := by decide +kernel
theorem dX3_addAnySign_36 : decode cX3_addAnySign 36 = .ok (.aload_n 0, 1) := by decide +kernel
theorem dX3_addAnySign_37 : decode cX3_addAnySign 37 = .ok (.getfield 12, 3) := by decide +kernel
theorem dX3_addAnySign_40 : decode cX3_addAnySign 40 = .ok (.bipush 32, 2) := by decide +kernel
theorem dX3_addAnySign_42 : decode cX3_addAnySign 42 = .ok (.bipush 126, 2) := by decide +kernel
theorem dX3_addAnySign_44 : decode cX3_addAnySign 44 = .ok (.invokevirtual 176, 3) := by decide +kernel
theorem dX3_addAnySign_47 : decode cX3_addAnySign 47 = .ok (.return_, 1) := by decide +kernel
theorem dX3_addOneSign_0 : decode cX3_addOneSign 0 = .ok (.aload_n 0, 1) := by decide +kernel
theorem dX3_addOneSign_1 : decode cX3_addOneSign 1 = .ok (.getfield 22, 3) := by decide +kernel
theorem dX3_addOneSign_4 : decode cX3_addOneSign 4 = .ok (.iconst 4, 1) := by decide +kernel
theorem dX3_addOneSign_5 : decode cX3_addOneSign 5 = .ok (.invokevirtual 172, 3) := by decide +kernel
theorem dX3_addOneSign_8 : decode cX3_addOneSign 8 = .ok (.ifCond .eq 10, 3) := by decide +kernel
theorem dX3_addOneSign_11 : decode cX3_addOneSign 11 = .ok (.aload_n 0, 1) := by decide +kernel
theorem dX3_addOneSign_12 : decode cX3_addOneSign 12 = .ok (.getfield 12, 3) := by decide +kernel
theorem dX3_addOneSign_15 : decode cX3_addOneSign 15 = .ok (.invokevirtual 179, 3) := by decide +kernel
theorem dX3_addOneSign_18 : decode cX3_addOneSign 18 = .ok (.iload_n 1, 1) := by decide +kernel
theorem dX3_addOneSign_19 : decode cX3_addOneSign 19 = .ok (.ifCond .eq 10, 3) := by decide +kernel
theorem dX3_addOneSign_22 : decode cX3_addOneSign 22 = .ok (.aload_n 0, 1) := by decide +kernel
theorem dX3_addOneSign_23 : decode cX3_addOneSign 23 = .ok (.getfield 12, 3) := by decide +kernel
theorem dX3_addOneSign_26 : decode cX3_addOneSign 26 = .ok (.invokevirtual 182, 3) := by decide +kernel
theorem dX3_addOneSign_29 : decode cX3_addOneSign 29 = .ok (.aload_n 0, 1) := by decide +kernel
theorem dX3_addOneSign_30 : decode cX3_addOneSign 30 = .ok (.getfield 22, 3) := by decide +kernel
theorem dX3_addOneSign_33 : decode cX3_addOneSign 33 = .ok (.aload_n 0, 1) := by decide +kernel
theorem dX3_addOneSign_34 : decode cX3_addOneSign 34 = .ok (.getfield 12, 3) := by decide +kernel
theorem dX3_addOneSign_37 : decode cX3_addOneSign 37 = .ok (.invokevirtual 185, 3) := by decide +kernel
theorem dX3_addOneSign_40 : decode cX3_addOneSign 40 = .ok (.iconst 1, 1) := by decide +kernel
theorem dX3_addOneSign_41 : decode cX3_addOneSign 41 = .ok (.ireturn, 1) := by decide +kernel
theorem dX3_readEscaped_0 : decode cX3_readEscaped 0 = .ok (.aload_n 0, 1) := by decide +kernel
theorem dX3_readEscaped_1 : decode cX3_readEscaped 1 = .ok (.getfield 18, 3) := by decide +kernel
theorem dX3_readEscaped_4 : decode cX3_readEscaped 4 = .ok (.aload_n 0, 1) := by decide +kernel
theorem dX3_readEscaped_5 : decode cX3_readEscaped 5 = .ok (.getfield 32, 3) := by decide +kernel
theorem dX3_readEscaped_8 : decode cX3_readEscaped 8 = .ok (.invokevirtual 70, 3) := by decide +kernel
theorem dX3_readEscaped_11 : decode cX3_readEscaped 11 = .ok (.istore_n 1, 1) := by decide +kernel
theorem dX3_readEscaped_12 : decode cX3_readEscaped 12 = .ok (.aload_n 0, 1) := by decide +kernel
theorem dX3_readEscaped_13 : decode cX3_readEscaped 13 = .ok (.dup, 1) := by decide +kernel
theorem dX3_readEscaped_14 : decode cX3_readEscaped 14 = .ok (.getfield 32, 3) := by decide +kernel
theorem dX3_readEscaped_17 : decode cX3_readEscaped 17 = .ok (.iconst 1, 1) := by decide +kernel
theorem dX3_readEscaped_18 : decode cX3_readEscaped 18 = .ok (.iadd, 1) := by decide +kernel
theorem dX3_readEscaped_19 : decode cX3_readEscaped 19 = .ok (.putfield 32, 3) := by decide +kernel
theorem dX3_readEscaped_22 : decode cX3_readEscaped 22 = .ok (.iload_n 1, 1) := by decide +kernel
theorem dX3_readEscaped_23 : decode cX3_readEscaped 23 = .ok (.bipush 49, 2) := by decide +kernel
theorem dX3_readEscaped_25 : decode cX3_readEscaped 25 = .ok (.if_icmp .lt 39, 3) := by decide +kernel
theorem dX3_readEscaped_28 : decode cX3_readEscaped 28 = .ok (.iload_n 1, 1) := by decide +kernel
theorem dX3_readEscaped_29 : decode cX3_readEscaped 29 = .ok (.bipush 57, 2) := by decide +kernel
theorem dX3_readEscaped_31 : decode cX3_readEscaped 31 = .ok (.if_icmp .gt 33, 3) := by decide +kernel
theorem dX3_readEscaped_34 : decode cX3_readEscaped 34 = .ok (.iload_n 1, 1) := by decide +kernel
theorem dX3_readEscaped_35 : decode cX3_readEscaped 35 = .ok (.bipush 48, 2) := by decide +kernel
theorem dX3_readEscaped_37 : decode cX3_readEscaped 37 = .ok (.isub, 1) := by decide +kernel
theorem dX3_readEscaped_38 : decode cX3_readEscaped 38 = .ok (.istore_n 2, 1) := by decide +kernel
theorem dX3_readEscaped_39 : decode cX3_readEscaped 39 = .ok (.aload_n 0, 1) := by decide +kernel
theorem dX3_readEscaped_40 : decode cX3_readEscaped 40 = .ok (.aload_n 0, 1) := by decide +kernel
theorem dX3_readEscaped_41 : decode cX3_readEscaped 41 = .ok (.getfield 36, 3) := by decide +kernel
theorem dX3_readEscaped_44 : decode cX3_readEscaped 44 = .ok (.iload_n 2, 1) := by decide +kernel
theorem dX3_readEscaped_45 : decode cX3_readEscaped 45 = .ok (.invokestatic 136, 3) := by decide +kernel
theorem dX3_readEscaped_48 : decode cX3_readEscaped 48 = .ok (.putfield 36, 3) := by decide +kernel
theorem dX3_readEscaped_51 : decode cX3_readEscaped 51 = .ok (.aload_n 0, 1) := by decide +kernel
theorem dX3_readEscaped_52 : decode cX3_readEscaped 52 = .ok (.getfield 22, 3) := by decide +kernel
theorem dX3_readEscaped_55 : decode cX3_readEscaped 55 = .ok (.iconst 4, 1) := by decide +kernel
theorem dX3_readEscaped_56 : decode cX3_readEscaped 56 = .ok (.iconst (-1), 1) := by decide +kernel
theorem dX3_readEscaped_57 : decode cX3_readEscaped 57 = .ok (.iload_n 2, 1) := by decide +kernel
theorem dX3_readEscaped_58 : decode cX3_readEscaped 58 = .ok (.invokevirtual 64, 3) := by decide +kernel
theorem dX3_readEscaped_61 : decode cX3_readEscaped 61 = .ok (.pop, 1) := by decide +kernel
theorem dX3_readEscaped_62 : decode cX3_readEscaped 62 = .ok (.iconst 1, 1) := by decide +kernel
theorem dX3_readEscaped_63 : decode cX3_readEscaped 63 = .ok (.ireturn, 1) := by decide +kernel
theorem dX3_readEscaped_64 : decode cX3_readEscaped 64 = .ok (.ldc 188, 2) := by decide +kernel
theorem dX3_readEscaped_66 : decode cX3_readEscaped 66 = .ok (.iload_n 1, 1) := by decide +kernel
theorem dX3_readEscaped_67 : decode cX3_readEscaped 67 = .ok (.invokevirtual 162, 3) := by decide +kernel
theorem dX3_readEscaped_70 : decode cX3_readEscaped 70 = .ok (.ifCond .lt 14, 3) := by decide +kernel
theorem dX3_readEscaped_73 : decode cX3_readEscaped 73 = .ok (.aload_n 0, 1) := by decide +kernel
theorem dX3_readEscaped_74 : decode cX3_readEscaped 74 = .ok (.getfield 12, 3) := by decide +kernel
theorem dX3_readEscaped_77 : decode cX3_readEscaped 77 = .ok (.iload_n 1, 1) := by decide +kernel
theorem dX3_readEscaped_78 : decode cX3_readEscaped 78 = .ok (.invokevirtual 190, 3) := by decide +kernel
theorem dX3_readEscaped_81 : decode cX3_readEscaped 81 = .ok (.goto 39, 3) := by decide +kernel
theorem dX3_readEscaped_84 : decode cX3_readEscaped 84 = .ok (.iload_n 1, 1) := by decide +kernel
theorem dX3_readEscaped_85 : decode cX3_readEscaped 85 = .ok (.bipush 47, 2) := by decide +kernel
theorem dX3_readEscaped_87 : decode cX3_readEscaped 87 = .ok (.if_icmp .eq 12, 3) := by decide +kernel
theorem dX3_readEscaped_90 : decode cX3_readEscaped 90 = .ok (.ldc 160, 2) := by decide +kernel
theorem dX3_readEscaped_92 : decode cX3_readEscaped 92 = .ok (.iload_n 1, 1) := by decide +kernel
theorem dX3_readEscaped_93 : decode cX3_readEscaped 93 = .ok (.invokevirtual 162, 3) := by decide +kernel
theorem dX3_readEscaped_96 : decode cX3_readEscaped 96 = .ok (.ifCond .lt 14, 3) := by decide +kernel
theorem dX3_readEscaped_99 : decode cX3_readEscaped 99 = .ok (.aload_n 0, 1) := by decide +kernel
theorem dX3_readEscaped_100 : decode cX3_readEscaped 100 = .ok (.getfield 12, 3) := by decide +kernel
theorem dX3_readEscaped_103 : decode cX3_readEscaped 103 = .ok (.iload_n 1, 1) := by decide +kernel
theorem dX3_readEscaped_104 : decode cX3_readEscaped 104 = .ok (.invokevirtual 167, 3) := by decide +kernel
theorem dX3_readEscaped_107 : decode cX3_readEscaped 107 = .ok (.goto 13, 3) := by decide +kernel
theorem dX3_readEscaped_110 : decode cX3_readEscaped 110 = .ok (.new 49, 3) := by decide +kernel
theorem dX3_readEscaped_113 : decode cX3_readEscaped 113 = .ok (.dup, 1) := by decide +kernel
theorem dX3_readEscaped_114 : decode cX3_readEscaped 114 = .ok (.ldc 194, 2) := by decide +kernel
theorem dX3_readEscaped_116 : decode cX3_readEscaped 116 = .ok (.invokespecial 53, 3) := by decide +kernel
theorem dX3_readEscaped_119 : decode cX3_readEscaped 119 = .ok (.athrow, 1) := by decide +kernel
theorem dX3_readEscaped_120 : decode cX3_readEscaped 120 = .ok (.aload_n 0, 1) := by decide +kernel
theorem dX3_readEscaped_121 : decode cX3_readEscaped 121 = .ok (.iconst 0, 1) := by decide +kernel
theorem dX3_readEscaped_122 : decode cX3_readEscaped 122 = .ok (.invokevirtual 156, 3) := by decide +kernel
theorem dX3_readEscaped_125 : decode cX3_readEscaped 125 = .ok (.ireturn, 1) := by decide +kernel
theorem dX3_readSet_0 : decode cX3_readSet 0 = .ok (.aload_n 0, 1) := by decide +kernel
theorem dX3_readSet_1 : decode cX3_readSet 1 = .ok (.bipush 94, 2) := by decide +kernel
