theorem dX1_init_0 : decode cX1_init 0 = .ok (.aload_n 0, 1) := by decide +kernel
theorem dX1_init_1 : decode cX1_init 1 = .ok (.invokespecial 3, 3) := by decide +kernel
theorem dX1_init_4 : decode cX1_init 4 = .ok (.aload_n 0, 1) := by decide +kernel
theorem dX1_init_5 : decode cX1_init 5 = .ok (.bipush 90, 2) := by decide +kernel
theorem dX1_init_7 : decode cX1_init 7 = .ok (.newarray .int, 2) := by decide +kernel
theorem dX1_init_9 : decode cX1_init 9 = .ok (.putfield 9, 3) := by decide +kernel
theorem dX1_init_12 : decode cX1_init 12 = .ok (.aload_n 0, 1) := by decide +kernel
theorem dX1_init_13 : decode cX1_init 13 = .ok (.sipush 192, 3) := by decide +kernel
theorem dX1_init_16 : decode cX1_init 16 = .ok (.newarray .int, 2) := by decide +kernel
theorem dX1_init_18 : decode cX1_init 18 = .ok (.putfield 15, 3) := by decide +kernel
theorem dX1_init_21 : decode cX1_init 21 = .ok (.aload_n 0, 1) := by decide +kernel
theorem dX1_init_22 : decode cX1_init 22 = .ok (.sipush 512, 3) := by decide +kernel
theorem dX1_init_25 : decode cX1_init 25 = .ok (.newarray .int, 2) := by decide +kernel
theorem dX1_init_27 : decode cX1_init 27 = .ok (.putfield 18, 3) := by decide +kernel
theorem dX1_init_30 : decode cX1_init 30 = .ok (.return_, 1) := by decide +kernel
theorem dX1_clear_0 : decode cX1_clear 0 = .ok (.aload_n 0, 1) := by decide +kernel
theorem dX1_clear_1 : decode cX1_clear 1 = .ok (.getfield 9, 3) := by decide +kernel
theorem dX1_clear_4 : decode cX1_clear 4 = .ok (.iconst (-1), 1) := by decide +kernel
theorem dX1_clear_5 : decode cX1_clear 5 = .ok (.invokestatic 21, 3) := by decide +kernel
theorem dX1_clear_8 : decode cX1_clear 8 = .ok (.aload_n 0, 1) := by decide +kernel
theorem dX1_clear_9 : decode cX1_clear 9 = .ok (.iconst 0, 1) := by decide +kernel
theorem dX1_clear_10 : decode cX1_clear 10 = .ok (.putfield 27, 3) := by decide +kernel
theorem dX1_clear_13 : decode cX1_clear 13 = .ok (.aload_n 0, 1) := by decide +kernel
theorem dX1_clear_14 : decode cX1_clear 14 = .ok (.iconst 0, 1) := by decide +kernel
theorem dX1_clear_15 : decode cX1_clear 15 = .ok (.putfield 31, 3) := by decide +kernel
theorem dX1_clear_18 : decode cX1_clear 18 = .ok (.return_, 1) := by decide +kernel
theorem dX1_mark_0 : decode cX1_mark 0 = .ok (.iload_n 1, 1) := by decide +kernel
theorem dX1_mark_1 : decode cX1_mark 1 = .ok (.ifCond .lt 21, 3) := by decide +kernel
theorem dX1_mark_4 : decode cX1_mark 4 = .ok (.iload_n 1, 1) := by decide +kernel
theorem dX1_mark_5 : decode cX1_mark 5 = .ok (.aload_n 0, 1) := by decide +kernel
theorem dX1_mark_6 : decode cX1_mark 6 = .ok (.getfield 9, 3) := by decide +kernel
theorem dX1_mark_9 : decode cX1_mark 9 = .ok (.arraylength, 1) := by decide +kernel
theorem dX1_mark_10 : decode cX1_mark 10 = .ok (.if_icmp .ge 12, 3) := by decide +kernel
theorem dX1_mark_13 : decode cX1_mark 13 = .ok (.aload_n 0, 1) := by decide +kernel
theorem dX1_mark_14 : decode cX1_mark 14 = .ok (.getfield 9, 3) := by decide +kernel
theorem dX1_mark_17 : decode cX1_mark 17 = .ok (.iload_n 1, 1) := by decide +kernel
theorem dX1_mark_18 : decode cX1_mark 18 = .ok (.iaload, 1) := by decide +kernel
theorem dX1_mark_19 : decode cX1_mark 19 = .ok (.goto 4, 3) := by decide +kernel
theorem dX1_mark_22 : decode cX1_mark 22 = .ok (.iconst (-1), 1) := by decide +kernel
theorem dX1_mark_23 : decode cX1_mark 23 = .ok (.ireturn, 1) := by decide +kernel
theorem dX1_set_0 : decode cX1_set 0 = .ok (.iload_n 1, 1) := by decide +kernel
theorem dX1_set_1 : decode cX1_set 1 = .ok (.ifCond .lt 22, 3) := by decide +kernel
theorem dX1_set_4 : decode cX1_set 4 = .ok (.iload_n 1, 1) := by decide +kernel
theorem dX1_set_5 : decode cX1_set 5 = .ok (.aload_n 0, 1) := by decide +kernel
theorem dX1_set_6 : decode cX1_set 6 = .ok (.getfield 9, 3) := by decide +kernel
theorem dX1_set_9 : decode cX1_set 9 = .ok (.arraylength, 1) := by decide +kernel
theorem dX1_set_10 : decode cX1_set 10 = .ok (.if_icmp .ge 13, 3) := by decide +kernel
theorem dX1_set_13 : decode cX1_set 13 = .ok (.aload_n 0, 1) := by decide +kernel
theorem dX1_set_14 : decode cX1_set 14 = .ok (.getfield 9, 3) := by decide +kernel
theorem dX1_set_17 : decode cX1_set 17 = .ok (.iload_n 1, 1) := by decide +kernel
theorem dX1_set_18 : decode cX1_set 18 = .ok (.iaload, 1) := by decide +kernel
theorem dX1_set_19 : decode cX1_set 19 = .ok (.iload_n 2, 1) := by decide +kernel
theorem dX1_set_20 : decode cX1_set 20 = .ok (.if_icmp .ne 4, 3) := by decide +kernel
theorem dX1_set_23 : decode cX1_set 23 = .ok (.return_, 1) := by decide +kernel
theorem dX1_set_24 : decode cX1_set 24 = .ok (.aload_n 0, 1) := by decide +kernel
theorem dX1_set_25 : decode cX1_set 25 = .ok (.getfield 31, 3) := by decide +kernel
theorem dX1_set_28 : decode cX1_set 28 = .ok (.iconst 2, 1) := by decide +kernel
theorem dX1_set_29 : decode cX1_set 29 = .ok (.iadd, 1) := by decide +kernel
theorem dX1_set_30 : decode cX1_set 30 = .ok (.aload_n 0, 1) := by decide +kernel
theorem dX1_set_31 : decode cX1_set 31 = .ok (.getfield 18, 3) := by decide +kernel
theorem dX1_set_34 : decode cX1_set 34 = .ok (.arraylength, 1) := by decide +kernel
theorem dX1_set_35 : decode cX1_set 35 = .ok (.if_icmp .le 21, 3) := by decide +kernel
theorem dX1_set_38 : decode cX1_set 38 = .ok (.aload_n 0, 1) := by decide +kernel
theorem dX1_set_39 : decode cX1_set 39 = .ok (.aload_n 0, 1) := by decide +kernel
theorem dX1_set_40 : decode cX1_set 40 = .ok (.getfield 18, 3) := by decide +kernel
theorem dX1_set_43 : decode cX1_set 43 = .ok (.aload_n 0, 1) := by decide +kernel
theorem dX1_set_44 : decode cX1_set 44 = .ok (.getfield 18, 3) := by decide +kernel
theorem dX1_set_47 : decode cX1_set 47 = .ok (.arraylength, 1) := by decide +kernel
theorem dX1_set_48 : decode cX1_set 48 = .ok (.iconst 2, 1) := by decide +kernel
theorem dX1_set_49 : decode cX1_set 49 = .ok (.imul, 1) := by decide +kernel
theorem dX1_set_50 : decode cX1_set 50 = .ok (.invokestatic 34, 3) := by decide +kernel
theorem dX1_set_53 : decode cX1_set 53 = .ok (.putfield 18, 3) := by decide +kernel
theorem dX1_set_56 : decode cX1_set 56 = .ok (.aload_n 0, 1) := by decide +kernel
theorem dX1_set_57 : decode cX1_set 57 = .ok (.getfield 18, 3) := by decide +kernel
theorem dX1_set_60 : decode cX1_set 60 = .ok (.aload_n 0, 1) := by decide +kernel
theorem dX1_set_61 : decode cX1_set 61 = .ok (.getfield 31, 3) := by decide +kernel
theorem dX1_set_64 : decode cX1_set 64 = .ok (.iload_n 1, 1) := by decide +kernel
theorem dX1_set_65 : decode cX1_set 65 = .ok (.iastore, 1) := by decide +kernel
theorem dX1_set_66 : decode cX1_set 66 = .ok (.aload_n 0, 1) := by decide +kernel
theorem dX1_set_67 : decode cX1_set 67 = .ok (.getfield 18, 3) := by decide +kernel
theorem dX1_set_70 : decode cX1_set 70 = .ok (.aload_n 0, 1) := by decide +kernel
theorem dX1_set_71 : decode cX1_set 71 = .ok (.getfield 31, 3) := by decide +kernel
theorem dX1_set_74 : decode cX1_set 74 = .ok (.iconst 1, 1) := by decide +kernel
theorem dX1_set_75 : decode cX1_set 75 = .ok (.iadd, 1) := by decide +kernel
theorem dX1_set_76 : decode cX1_set 76 = .ok (.aload_n 0, 1) := by decide +kernel
theorem dX1_set_77 : decode cX1_set 77 = .ok (.getfield 9, 3) := by decide +kernel
theorem dX1_set_80 : decode cX1_set 80 = .ok (.iload_n 1, 1) := by decide +kernel
theorem dX1_set_81 : decode cX1_set 81 = .ok (.iaload, 1) := by decide +kernel
theorem dX1_set_82 : decode cX1_set 82 = .ok (.iastore, 1) := by decide +kernel
theorem dX1_set_83 : decode cX1_set 83 = .ok (.aload_n 0, 1) := by decide +kernel
theorem dX1_set_84 : decode cX1_set 84 = .ok (.dup, 1) := by decide +kernel
theorem dX1_set_85 : decode cX1_set 85 = .ok (.getfield 31, 3) := by decide +kernel
theorem dX1_set_88 : decode cX1_set 88 = .ok (.iconst 2, 1) := by decide +kernel
theorem dX1_set_89 : decode cX1_set 89 = .ok (.iadd, 1) := by decide +kernel
theorem dX1_set_90 : decode cX1_set 90 = .ok (.putfield 31, 3) := by decide +kernel
theorem dX1_set_93 : decode cX1_set 93 = .ok (.aload_n 0, 1) := by decide +kernel
theorem dX1_set_94 : decode cX1_set 94 = .ok (.getfield 9, 3) := by decide +kernel
theorem dX1_set_97 : decode cX1_set 97 = .ok (.iload_n 1, 1) := by decide +kernel
theorem dX1_set_98 : decode cX1_set 98 = .ok (.iload_n 2, 1) := by decide +kernel
theorem dX1_set_99 : decode cX1_set 99 = .ok (.iastore, 1) := by decide +kernel
theorem dX1_set_100 : decode cX1_set 100 = .ok (.return_, 1) := by decide +kernel
theorem dX1_choose_0 : decode cX1_choose 0 = .ok (.aload_n 0, 1) := by decide +kernel
theorem dX1_choose_1 : decode cX1_choose 1 = .ok (.getfield 27, 3) := by decide +kernel
theorem dX1_choose_4 : decode cX1_choose 4 = .ok (.iconst 3, 1) := by decide +kernel
theorem dX1_choose_5 : decode cX1_choose 5 = .ok (.iadd, 1) := by decide +kernel
theorem dX1_choose_6 : decode cX1_choose 6 = .ok (.aload_n 0, 1) := by decide +kernel
theorem dX1_choose_7 : decode cX1_choose 7 = .ok (.getfield 15, 3) := by decide +kernel
theorem dX1_choose_10 : decode cX1_choose 10 = .ok (.arraylength, 1) := by decide +kernel
theorem dX1_choose_11 : decode cX1_choose 11 = .ok (.if_icmp .le 21, 3) := by decide +kernel
theorem dX1_choose_14 : decode cX1_choose 14 = .ok (.aload_n 0, 1) := by decide +kernel
theorem dX1_choose_15 : decode cX1_choose 15 = .ok (.aload_n 0, 1) := by decide +kernel
theorem dX1_choose_16 : decode cX1_choose 16 = .ok (.getfield 15, 3) := by decide +kernel
theorem dX1_choose_19 : decode cX1_choose 19 = .ok (.aload_n 0, 1) := by decide +kernel
theorem dX1_choose_20 : decode cX1_choose 20 = .ok (.getfield 15, 3) := by decide +kernel
theorem dX1_choose_23 : decode cX1_choose 23 = .ok (.arraylength, 1) := by decide +kernel
theorem dX1_choose_24 : decode cX1_choose 24 = .ok (.iconst 2, 1) := by decide +kernel
theorem dX1_choose_25 : decode cX1_choose 25 = .ok (.imul, 1) := by decide +kernel
theorem dX1_choose_26 : decode cX1_choose 26 = .ok (.invokestatic 34, 3) := by decide +kernel
theorem dX1_choose_29 : decode cX1_choose 29 = .ok (.putfield 15, 3) := by decide +kernel
theorem dX1_choose_32 : decode cX1_choose 32 = .ok (.aload_n 0, 1) := by decide +kernel
theorem dX1_choose_33 : decode cX1_choose 33 = .ok (.getfield 15, 3) := by decide +kernel
theorem dX1_choose_36 : decode cX1_choose 36 = .ok (.aload_n 0, 1) := by decide +kernel
theorem dX1_choose_37 : decode cX1_choose 37 = .ok (.getfield 27, 3) := by decide +kernel
theorem dX1_choose_40 : decode cX1_choose 40 = .ok (.iload_n 1, 1) := by decide +kernel
theorem dX1_choose_41 : decode cX1_choose 41 = .ok (.iastore, 1) := by decide +kernel
theorem dX1_choose_42 : decode cX1_choose 42 = .ok (.aload_n 0, 1) := by decide +kernel
theorem dX1_choose_43 : decode cX1_choose 43 = .ok (.getfield 15, 3) := by decide +kernel
theorem dX1_choose_46 : decode cX1_choose 46 = .ok (.aload_n 0, 1) := by decide +kernel
theorem dX1_choose_47 : decode cX1_choose 47 = .ok (.getfield 27, 3) := by decide +kernel
theorem dX1_choose_50 : decode cX1_choose 50 = .ok (.iconst 1, 1) := by decide +kernel
theorem dX1_choose_51 : decode cX1_choose 51 = .ok (.iadd, 1) := by decide +kernel
theorem dX1_choose_52 : decode cX1_choose 52 = .ok (.iload_n 2, 1) := by decide +kernel
theorem dX1_choose_53 : decode cX1_choose 53 = .ok (.iastore, 1) := by decide +kernel
theorem dX1_choose_54 : decode cX1_choose 54 = .ok (.aload_n 0, 1) := by decide +kernel
theorem dX1_choose_55 : decode cX1_choose 55 = .ok (.getfield 15, 3) := by decide +kernel
theorem dX1_choose_58 : decode cX1_choose 58 = .ok (.aload_n 0, 1) := by decide +kernel
theorem dX1_choose_59 : decode cX1_choose 59 = .ok (.getfield 27, 3) := by decide +kernel
theorem dX1_choose_62 : decode cX1_choose 62 = .ok (.iconst 2, 1) := by decide +kernel
theorem dX1_choose_63 : decode cX1_choose 63 = .ok (.iadd, 1) := by decide +kernel
theorem dX1_choose_64 : decode cX1_choose 64 = .ok (.aload_n 0, 1) := by decide +kernel
theorem dX1_choose_65 : decode cX1_choose 65 = .ok (.getfield 31, 3) := by decide +kernel
theorem dX1_choose_68 : decode cX1_choose 68 = .ok (.iastore, 1) := by decide +kernel
theorem dX1_choose_69 : decode cX1_choose 69 = .ok (.aload_n 0, 1) := by decide +kernel
theorem dX1_choose_70 : decode cX1_choose 70 = .ok (.dup, 1) := by decide +kernel
theorem dX1_choose_71 : decode cX1_choose 71 = .ok (.getfield 27, 3) := by decide +kernel
theorem dX1_choose_74 : decode cX1_choose 74 = .ok (.iconst 3, 1) := by decide +kernel
theorem dX1_choose_75 : decode cX1_choose 75 = .ok (.iadd, 1) := by decide +kernel
theorem dX1_choose_76 : decode cX1_choose 76 = .ok (.putfield 27, 3) := by decide +kernel
theorem dX1_choose_79 : decode cX1_choose 79 = .ok (.return_, 1) := by decide +kernel
theorem dX1_height_0 : decode cX1_height 0 = .ok (.aload_n 0, 1) := by decide +kernel
theorem dX1_height_1 : decode cX1_height 1 = .ok (.getfield 27, 3) := by decide +kernel
theorem dX1_height_4 : decode cX1_height 4 = .ok (.ireturn, 1) := by decide +kernel
theorem dX1_cut_0 : decode cX1_cut 0 = .ok (.iload_n 1, 1) := by decide +kernel
theorem dX1_cut_1 : decode cX1_cut 1 = .ok (.ifCond .lt 16, 3) := by decide +kernel
theorem dX1_cut_4 : decode cX1_cut 4 = .ok (.iload_n 1, 1) := by decide +kernel
theorem dX1_cut_5 : decode cX1_cut 5 = .ok (.aload_n 0, 1) := by decide +kernel
theorem dX1_cut_6 : decode cX1_cut 6 = .ok (.getfield 27, 3) := by decide +kernel
theorem dX1_cut_9 : decode cX1_cut 9 = .ok (.if_icmp .ge 8, 3) := by decide +kernel
theorem dX1_cut_12 : decode cX1_cut 12 = .ok (.aload_n 0, 1) := by decide +kernel
theorem dX1_cut_13 : decode cX1_cut 13 = .ok (.iload_n 1, 1) := by decide +kernel
theorem dX1_cut_14 : decode cX1_cut 14 = .ok (.putfield 27, 3) := by decide +kernel
theorem dX1_cut_17 : decode cX1_cut 17 = .ok (.return_, 1) := by decide +kernel
theorem dX1_goBack_0 : decode cX1_goBack 0 = .ok (.aload_n 0, 1) := by decide +kernel
theorem dX1_goBack_1 : decode cX1_goBack 1 = .ok (.getfield 27, 3) := by decide +kernel
theorem dX1_goBack_4 : decode cX1_goBack 4 = .ok (.iconst 3, 1) := by decide +kernel
theorem dX1_goBack_5 : decode cX1_goBack 5 = .ok (.if_icmp .lt 15, 3) := by decide +kernel
theorem dX1_goBack_8 : decode cX1_goBack 8 = .ok (.aload_n 0, 1) := by decide +kernel
theorem dX1_goBack_9 : decode cX1_goBack 9 = .ok (.getfield 27, 3) := by decide +kernel
theorem dX1_goBack_12 : decode cX1_goBack 12 = .ok (.aload_n 0, 1) := by decide +kernel
theorem dX1_goBack_13 : decode cX1_goBack 13 = .ok (.getfield 15, 3) := by decide +kernel
theorem dX1_goBack_16 : decode cX1_goBack 16 = .ok (.arraylength, 1) := by decide +kernel
theorem dX1_goBack_17 : decode cX1_goBack 17 = .ok (.if_icmp .le 5, 3) := by decide +kernel
theorem dX1_goBack_20 : decode cX1_goBack 20 = .ok (.iconst (-1), 1) := by decide +kernel
theorem dX1_goBack_21 : decode cX1_goBack 21 = .ok (.ireturn, 1) := by decide +kernel
theorem dX1_goBack_22 : decode cX1_goBack 22 = .ok (.aload_n 0, 1) := by decide +kernel
theorem dX1_goBack_23 : decode cX1_goBack 23 = .ok (.dup, 1) := by decide +kernel
theorem dX1_goBack_24 : decode cX1_goBack 24 = .ok (.getfield 27, 3) := by decide +kernel
theorem dX1_goBack_27 : decode cX1_goBack 27 = .ok (.iconst 3, 1) := by decide +kernel
theorem dX1_goBack_28 : decode cX1_goBack 28 = .ok (.isub, 1) := by decide +kernel
theorem dX1_goBack_29 : decode cX1_goBack 29 = .ok (.putfield 27, 3) := by decide +kernel
theorem dX1_goBack_32 : decode cX1_goBack 32 = .ok (.aload_n 0, 1) := by decide +kernel
theorem dX1_goBack_33 : decode cX1_goBack 33 = .ok (.aload_n 0, 1) := by decide +kernel
theorem dX1_goBack_34 : decode cX1_goBack 34 = .ok (.getfield 15, 3) := by decide +kernel
theorem dX1_goBack_37 : decode cX1_goBack 37 = .ok (.aload_n 0, 1) := by decide +kernel
theorem dX1_goBack_38 : decode cX1_goBack 38 = .ok (.getfield 27, 3) := by decide +kernel
theorem dX1_goBack_41 : decode cX1_goBack 41 = .ok (.iconst 2, 1) := by decide +kernel
theorem dX1_goBack_42 : decode cX1_goBack 42 = .ok (.iadd, 1) := by decide +kernel
theorem dX1_goBack_43 : decode cX1_goBack 43 = .ok (.iaload, 1) := by decide +kernel
theorem dX1_goBack_44 : decode cX1_goBack 44 = .ok (.invokevirtual 38, 3) := by decide +kernel
theorem dX1_goBack_47 : decode cX1_goBack 47 = .ok (.aload_n 0, 1) := by decide +kernel
theorem dX1_goBack_48 : decode cX1_goBack 48 = .ok (.aload_n 0, 1) := by decide +kernel
theorem dX1_goBack_49 : decode cX1_goBack 49 = .ok (.getfield 15, 3) := by decide +kernel
theorem dX1_goBack_52 : decode cX1_goBack 52 = .ok (.aload_n 0, 1) := by decide +kernel
theorem dX1_goBack_53 : decode cX1_goBack 53 = .ok (.getfield 27, 3) := by decide +kernel
theorem dX1_goBack_56 : decode cX1_goBack 56 = .ok (.iconst 1, 1) := by decide +kernel
theorem dX1_goBack_57 : decode cX1_goBack 57 = .ok (.iadd, 1) := by decide +kernel
theorem dX1_goBack_58 : decode cX1_goBack 58 = .ok (.iaload, 1) := by decide +kernel
theorem dX1_goBack_59 : decode cX1_goBack 59 = .ok (.putfield 42, 3) := by decide +kernel
theorem dX1_goBack_62 : decode cX1_goBack 62 = .ok (.aload_n 0, 1) := by decide +kernel
theorem dX1_goBack_63 : decode cX1_goBack 63 = .ok (.getfield 15, 3) := by decide +kernel
theorem dX1_goBack_66 : decode cX1_goBack 66 = .ok (.aload_n 0, 1) := by decide +kernel
theorem dX1_goBack_67 : decode cX1_goBack 67 = .ok (.getfield 27, 3) := by decide +kernel
theorem dX1_goBack_70 : decode cX1_goBack 70 = .ok (.iaload, 1) := by decide +kernel
theorem dX1_goBack_71 : decode cX1_goBack 71 = .ok (.ireturn, 1) := by decide +kernel
theorem dX1_placeBack_0 : decode cX1_placeBack 0 = .ok (.aload_n 0, 1) := by decide +kernel
theorem dX1_placeBack_1 : decode cX1_placeBack 1 = .ok (.getfield 42, 3) := by decide +kernel
theorem dX1_placeBack_4 : decode cX1_placeBack 4 = .ok (.ireturn, 1) := by decide +kernel
theorem dX1_undoDownTo_0 : decode cX1_undoDownTo 0 = .ok (.aload_n 0, 1) := by decide +kernel
theorem dX1_undoDownTo_1 : decode cX1_undoDownTo 1 = .ok (.getfield 31, 3) := by decide +kernel
theorem dX1_undoDownTo_4 : decode cX1_undoDownTo 4 = .ok (.iload_n 1, 1) := by decide +kernel
theorem dX1_undoDownTo_5 : decode cX1_undoDownTo 5 = .ok (.if_icmp .le 76, 3) := by decide +kernel
theorem dX1_undoDownTo_8 : decode cX1_undoDownTo 8 = .ok (.aload_n 0, 1) := by decide +kernel
theorem dX1_undoDownTo_9 : decode cX1_undoDownTo 9 = .ok (.getfield 31, 3) := by decide +kernel
theorem dX1_undoDownTo_12 : decode cX1_undoDownTo 12 = .ok (.iconst 2, 1) := by decide +kernel
theorem dX1_undoDownTo_13 : decode cX1_undoDownTo 13 = .ok (.if_icmp .lt 68, 3) := by decide +kernel
theorem dX1_undoDownTo_16 : decode cX1_undoDownTo 16 = .ok (.aload_n 0, 1) := by decide +kernel
theorem dX1_undoDownTo_17 : decode cX1_undoDownTo 17 = .ok (.getfield 31, 3) := by decide +kernel
theorem dX1_undoDownTo_20 : decode cX1_undoDownTo 20 = .ok (.aload_n 0, 1) := by decide +kernel
theorem dX1_undoDownTo_21 : decode cX1_undoDownTo 21 = .ok (.getfield 18, 3) := by decide +kernel
theorem dX1_undoDownTo_24 : decode cX1_undoDownTo 24 = .ok (.arraylength, 1) := by decide +kernel
theorem dX1_undoDownTo_25 : decode cX1_undoDownTo 25 = .ok (.if_icmp .gt 56, 3) := by decide +kernel
theorem dX1_undoDownTo_28 : decode cX1_undoDownTo 28 = .ok (.aload_n 0, 1) := by decide +kernel
theorem dX1_undoDownTo_29 : decode cX1_undoDownTo 29 = .ok (.dup, 1) := by decide +kernel
theorem dX1_undoDownTo_30 : decode cX1_undoDownTo 30 = .ok (.getfield 31, 3) := by decide +kernel
theorem dX1_undoDownTo_33 : decode cX1_undoDownTo 33 = .ok (.iconst 2, 1) := by decide +kernel
theorem dX1_undoDownTo_34 : decode cX1_undoDownTo 34 = .ok (.isub, 1) := by decide +kernel
theorem dX1_undoDownTo_35 : decode cX1_undoDownTo 35 = .ok (.putfield 31, 3) := by decide +kernel
theorem dX1_undoDownTo_38 : decode cX1_undoDownTo 38 = .ok (.aload_n 0, 1) := by decide +kernel
theorem dX1_undoDownTo_39 : decode cX1_undoDownTo 39 = .ok (.getfield 18, 3) := by decide +kernel
theorem dX1_undoDownTo_42 : decode cX1_undoDownTo 42 = .ok (.aload_n 0, 1) := by decide +kernel
theorem dX1_undoDownTo_43 : decode cX1_undoDownTo 43 = .ok (.getfield 31, 3) := by decide +kernel
theorem dX1_undoDownTo_46 : decode cX1_undoDownTo 46 = .ok (.iaload, 1) := by decide +kernel
theorem dX1_undoDownTo_47 : decode cX1_undoDownTo 47 = .ok (.istore_n 2, 1) := by decide +kernel
theorem dX1_undoDownTo_48 : decode cX1_undoDownTo 48 = .ok (.iload_n 2, 1) := by decide +kernel
theorem dX1_undoDownTo_49 : decode cX1_undoDownTo 49 = .ok (.ifCond .lt 29, 3) := by decide +kernel
theorem dX1_undoDownTo_52 : decode cX1_undoDownTo 52 = .ok (.iload_n 2, 1) := by decide +kernel
theorem dX1_undoDownTo_53 : decode cX1_undoDownTo 53 = .ok (.aload_n 0, 1) := by decide +kernel
theorem dX1_undoDownTo_54 : decode cX1_undoDownTo 54 = .ok (.getfield 9, 3) := by decide +kernel
theorem dX1_undoDownTo_57 : decode cX1_undoDownTo 57 = .ok (.arraylength, 1) := by decide +kernel
theorem dX1_undoDownTo_58 : decode cX1_undoDownTo 58 = .ok (.if_icmp .ge 20, 3) := by decide +kernel
theorem dX1_undoDownTo_61 : decode cX1_undoDownTo 61 = .ok (.aload_n 0, 1) := by decide +kernel
theorem dX1_undoDownTo_62 : decode cX1_undoDownTo 62 = .ok (.getfield 9, 3) := by decide +kernel
theorem dX1_undoDownTo_65 : decode cX1_undoDownTo 65 = .ok (.iload_n 2, 1) := by decide +kernel
theorem dX1_undoDownTo_66 : decode cX1_undoDownTo 66 = .ok (.aload_n 0, 1) := by decide +kernel
theorem dX1_undoDownTo_67 : decode cX1_undoDownTo 67 = .ok (.getfield 18, 3) := by decide +kernel
theorem dX1_undoDownTo_70 : decode cX1_undoDownTo 70 = .ok (.aload_n 0, 1) := by decide +kernel
theorem dX1_undoDownTo_71 : decode cX1_undoDownTo 71 = .ok (.getfield 31, 3) := by decide +kernel
theorem dX1_undoDownTo_74 : decode cX1_undoDownTo 74 = .ok (.iconst 1, 1) := by decide +kernel
theorem dX1_undoDownTo_75 : decode cX1_undoDownTo 75 = .ok (.iadd, 1) := by decide +kernel
theorem dX1_undoDownTo_76 : decode cX1_undoDownTo 76 = .ok (.iaload, 1) := by decide +kernel
theorem dX1_undoDownTo_77 : decode cX1_undoDownTo 77 = .ok (.iastore, 1) := by decide +kernel
theorem dX1_undoDownTo_78 : decode cX1_undoDownTo 78 = .ok (.goto (-78), 3) := by decide +kernel
theorem dX1_undoDownTo_81 : decode cX1_undoDownTo 81 = .ok (.return_, 1) := by decide +kernel
