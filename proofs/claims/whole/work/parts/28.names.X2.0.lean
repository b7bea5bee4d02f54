theorem dX2_init_0 : decode cX2_init 0 = .ok (.aload_n 0, 1) := by decide +kernel
theorem dX2_init_1 : decode cX2_init 1 = .ok (.invokespecial 3, 3) := by decide +kernel
theorem dX2_init_4 : decode cX2_init 4 = .ok (.aload_n 0, 1) := by decide +kernel
theorem dX2_init_5 : decode cX2_init 5 = .ok (.bipush 96, 2) := by decide +kernel
theorem dX2_init_7 : decode cX2_init 7 = .ok (.newarray .int, 2) := by decide +kernel
theorem dX2_init_9 : decode cX2_init 9 = .ok (.putfield 9, 3) := by decide +kernel
theorem dX2_init_12 : decode cX2_init 12 = .ok (.aload_n 0, 1) := by decide +kernel
theorem dX2_init_13 : decode cX2_init 13 = .ok (.bipush 96, 2) := by decide +kernel
theorem dX2_init_15 : decode cX2_init 15 = .ok (.newarray .int, 2) := by decide +kernel
theorem dX2_init_17 : decode cX2_init 17 = .ok (.putfield 15, 3) := by decide +kernel
theorem dX2_init_20 : decode cX2_init 20 = .ok (.aload_n 0, 1) := by decide +kernel
theorem dX2_init_21 : decode cX2_init 21 = .ok (.bipush 96, 2) := by decide +kernel
theorem dX2_init_23 : decode cX2_init 23 = .ok (.newarray .int, 2) := by decide +kernel
theorem dX2_init_25 : decode cX2_init 25 = .ok (.putfield 18, 3) := by decide +kernel
theorem dX2_init_28 : decode cX2_init 28 = .ok (.aload_n 0, 1) := by decide +kernel
theorem dX2_init_29 : decode cX2_init 29 = .ok (.bipush 96, 2) := by decide +kernel
theorem dX2_init_31 : decode cX2_init 31 = .ok (.newarray .long, 2) := by decide +kernel
theorem dX2_init_33 : decode cX2_init 33 = .ok (.putfield 21, 3) := by decide +kernel
theorem dX2_init_36 : decode cX2_init 36 = .ok (.aload_n 0, 1) := by decide +kernel
theorem dX2_init_37 : decode cX2_init 37 = .ok (.bipush 96, 2) := by decide +kernel
theorem dX2_init_39 : decode cX2_init 39 = .ok (.newarray .long, 2) := by decide +kernel
theorem dX2_init_41 : decode cX2_init 41 = .ok (.putfield 25, 3) := by decide +kernel
theorem dX2_init_44 : decode cX2_init 44 = .ok (.aload_n 0, 1) := by decide +kernel
theorem dX2_init_45 : decode cX2_init 45 = .ok (.bipush 20, 2) := by decide +kernel
theorem dX2_init_47 : decode cX2_init 47 = .ok (.newarray .int, 2) := by decide +kernel
theorem dX2_init_49 : decode cX2_init 49 = .ok (.putfield 28, 3) := by decide +kernel
theorem dX2_init_52 : decode cX2_init 52 = .ok (.aload_n 0, 1) := by decide +kernel
theorem dX2_init_53 : decode cX2_init 53 = .ok (.bipush 20, 2) := by decide +kernel
theorem dX2_init_55 : decode cX2_init 55 = .ok (.newarray .int, 2) := by decide +kernel
theorem dX2_init_57 : decode cX2_init 57 = .ok (.putfield 31, 3) := by decide +kernel
theorem dX2_init_60 : decode cX2_init 60 = .ok (.aload_n 0, 1) := by decide +kernel
theorem dX2_init_61 : decode cX2_init 61 = .ok (.bipush 20, 2) := by decide +kernel
theorem dX2_init_63 : decode cX2_init 63 = .ok (.newarray .int, 2) := by decide +kernel
theorem dX2_init_65 : decode cX2_init 65 = .ok (.putfield 34, 3) := by decide +kernel
theorem dX2_init_68 : decode cX2_init 68 = .ok (.aload_n 0, 1) := by decide +kernel
theorem dX2_init_69 : decode cX2_init 69 = .ok (.bipush 20, 2) := by decide +kernel
theorem dX2_init_71 : decode cX2_init 71 = .ok (.newarray .int, 2) := by decide +kernel
theorem dX2_init_73 : decode cX2_init 73 = .ok (.putfield 37, 3) := by decide +kernel
theorem dX2_init_76 : decode cX2_init 76 = .ok (.aload_n 0, 1) := by decide +kernel
theorem dX2_init_77 : decode cX2_init 77 = .ok (.getfield 9, 3) := by decide +kernel
theorem dX2_init_80 : decode cX2_init 80 = .ok (.iconst 0, 1) := by decide +kernel
theorem dX2_init_81 : decode cX2_init 81 = .ok (.iconst 5, 1) := by decide +kernel
theorem dX2_init_82 : decode cX2_init 82 = .ok (.iastore, 1) := by decide +kernel
theorem dX2_init_83 : decode cX2_init 83 = .ok (.aload_n 0, 1) := by decide +kernel
theorem dX2_init_84 : decode cX2_init 84 = .ok (.getfield 15, 3) := by decide +kernel
theorem dX2_init_87 : decode cX2_init 87 = .ok (.iconst 0, 1) := by decide +kernel
theorem dX2_init_88 : decode cX2_init 88 = .ok (.iconst (-1), 1) := by decide +kernel
theorem dX2_init_89 : decode cX2_init 89 = .ok (.iastore, 1) := by decide +kernel
theorem dX2_init_90 : decode cX2_init 90 = .ok (.aload_n 0, 1) := by decide +kernel
theorem dX2_init_91 : decode cX2_init 91 = .ok (.getfield 9, 3) := by decide +kernel
theorem dX2_init_94 : decode cX2_init 94 = .ok (.iconst 1, 1) := by decide +kernel
theorem dX2_init_95 : decode cX2_init 95 = .ok (.iconst 0, 1) := by decide +kernel
theorem dX2_init_96 : decode cX2_init 96 = .ok (.iastore, 1) := by decide +kernel
theorem dX2_init_97 : decode cX2_init 97 = .ok (.aload_n 0, 1) := by decide +kernel
theorem dX2_init_98 : decode cX2_init 98 = .ok (.iconst 2, 1) := by decide +kernel
theorem dX2_init_99 : decode cX2_init 99 = .ok (.putfield 40, 3) := by decide +kernel
theorem dX2_init_102 : decode cX2_init 102 = .ok (.return_, 1) := by decide +kernel
theorem dX2_clear_0 : decode cX2_clear 0 = .ok (.aload_n 0, 1) := by decide +kernel
theorem dX2_clear_1 : decode cX2_clear 1 = .ok (.iconst 0, 1) := by decide +kernel
theorem dX2_clear_2 : decode cX2_clear 2 = .ok (.putfield 40, 3) := by decide +kernel
theorem dX2_clear_5 : decode cX2_clear 5 = .ok (.aload_n 0, 1) := by decide +kernel
theorem dX2_clear_6 : decode cX2_clear 6 = .ok (.iconst 0, 1) := by decide +kernel
theorem dX2_clear_7 : decode cX2_clear 7 = .ok (.putfield 44, 3) := by decide +kernel
theorem dX2_clear_10 : decode cX2_clear 10 = .ok (.aload_n 0, 1) := by decide +kernel
theorem dX2_clear_11 : decode cX2_clear 11 = .ok (.iconst 0, 1) := by decide +kernel
theorem dX2_clear_12 : decode cX2_clear 12 = .ok (.putfield 47, 3) := by decide +kernel
theorem dX2_clear_15 : decode cX2_clear 15 = .ok (.aload_n 0, 1) := by decide +kernel
theorem dX2_clear_16 : decode cX2_clear 16 = .ok (.iconst 0, 1) := by decide +kernel
theorem dX2_clear_17 : decode cX2_clear 17 = .ok (.putfield 50, 3) := by decide +kernel
theorem dX2_clear_20 : decode cX2_clear 20 = .ok (.aload_n 0, 1) := by decide +kernel
theorem dX2_clear_21 : decode cX2_clear 21 = .ok (.iload_n 1, 1) := by decide +kernel
theorem dX2_clear_22 : decode cX2_clear 22 = .ok (.putfield 53, 3) := by decide +kernel
theorem dX2_clear_25 : decode cX2_clear 25 = .ok (.return_, 1) := by decide +kernel
theorem dX2_size_0 : decode cX2_size 0 = .ok (.aload_n 0, 1) := by decide +kernel
theorem dX2_size_1 : decode cX2_size 1 = .ok (.getfield 40, 3) := by decide +kernel
theorem dX2_size_4 : decode cX2_size 4 = .ok (.ireturn, 1) := by decide +kernel
theorem dX2_groups_0 : decode cX2_groups 0 = .ok (.aload_n 0, 1) := by decide +kernel
theorem dX2_groups_1 : decode cX2_groups 1 = .ok (.getfield 50, 3) := by decide +kernel
theorem dX2_groups_4 : decode cX2_groups 4 = .ok (.ireturn, 1) := by decide +kernel
theorem dX2_has_0 : decode cX2_has 0 = .ok (.aload_n 0, 1) := by decide +kernel
theorem dX2_has_1 : decode cX2_has 1 = .ok (.getfield 53, 3) := by decide +kernel
theorem dX2_has_4 : decode cX2_has 4 = .ok (.iload_n 1, 1) := by decide +kernel
theorem dX2_has_5 : decode cX2_has 5 = .ok (.iand, 1) := by decide +kernel
theorem dX2_has_6 : decode cX2_has 6 = .ok (.ifCond .eq 7, 3) := by decide +kernel
theorem dX2_has_9 : decode cX2_has 9 = .ok (.iconst 1, 1) := by decide +kernel
theorem dX2_has_10 : decode cX2_has 10 = .ok (.goto 4, 3) := by decide +kernel
theorem dX2_has_13 : decode cX2_has 13 = .ok (.iconst 0, 1) := by decide +kernel
theorem dX2_has_14 : decode cX2_has 14 = .ok (.ireturn, 1) := by decide +kernel
theorem dX2_kind_0 : decode cX2_kind 0 = .ok (.aload_n 0, 1) := by decide +kernel
theorem dX2_kind_1 : decode cX2_kind 1 = .ok (.iload_n 1, 1) := by decide +kernel
theorem dX2_kind_2 : decode cX2_kind 2 = .ok (.invokevirtual 56, 3) := by decide +kernel
theorem dX2_kind_5 : decode cX2_kind 5 = .ok (.ifCond .eq 12, 3) := by decide +kernel
theorem dX2_kind_8 : decode cX2_kind 8 = .ok (.aload_n 0, 1) := by decide +kernel
theorem dX2_kind_9 : decode cX2_kind 9 = .ok (.getfield 9, 3) := by decide +kernel
theorem dX2_kind_12 : decode cX2_kind 12 = .ok (.iload_n 1, 1) := by decide +kernel
theorem dX2_kind_13 : decode cX2_kind 13 = .ok (.iaload, 1) := by decide +kernel
theorem dX2_kind_14 : decode cX2_kind 14 = .ok (.goto 4, 3) := by decide +kernel
theorem dX2_kind_17 : decode cX2_kind 17 = .ok (.iconst (-1), 1) := by decide +kernel
theorem dX2_kind_18 : decode cX2_kind 18 = .ok (.ireturn, 1) := by decide +kernel
theorem dX2_aim_0 : decode cX2_aim 0 = .ok (.aload_n 0, 1) := by decide +kernel
theorem dX2_aim_1 : decode cX2_aim 1 = .ok (.iload_n 1, 1) := by decide +kernel
theorem dX2_aim_2 : decode cX2_aim 2 = .ok (.invokevirtual 56, 3) := by decide +kernel
theorem dX2_aim_5 : decode cX2_aim 5 = .ok (.ifCond .eq 12, 3) := by decide +kernel
theorem dX2_aim_8 : decode cX2_aim 8 = .ok (.aload_n 0, 1) := by decide +kernel
theorem dX2_aim_9 : decode cX2_aim 9 = .ok (.getfield 15, 3) := by decide +kernel
theorem dX2_aim_12 : decode cX2_aim 12 = .ok (.iload_n 1, 1) := by decide +kernel
theorem dX2_aim_13 : decode cX2_aim 13 = .ok (.iaload, 1) := by decide +kernel
theorem dX2_aim_14 : decode cX2_aim 14 = .ok (.goto 4, 3) := by decide +kernel
theorem dX2_aim_17 : decode cX2_aim 17 = .ok (.iconst (-1), 1) := by decide +kernel
theorem dX2_aim_18 : decode cX2_aim 18 = .ok (.ireturn, 1) := by decide +kernel
theorem dX2_number_0 : decode cX2_number 0 = .ok (.aload_n 0, 1) := by decide +kernel
theorem dX2_number_1 : decode cX2_number 1 = .ok (.iload_n 1, 1) := by decide +kernel
theorem dX2_number_2 : decode cX2_number 2 = .ok (.invokevirtual 56, 3) := by decide +kernel
theorem dX2_number_5 : decode cX2_number 5 = .ok (.ifCond .eq 12, 3) := by decide +kernel
theorem dX2_number_8 : decode cX2_number 8 = .ok (.aload_n 0, 1) := by decide +kernel
theorem dX2_number_9 : decode cX2_number 9 = .ok (.getfield 18, 3) := by decide +kernel
theorem dX2_number_12 : decode cX2_number 12 = .ok (.iload_n 1, 1) := by decide +kernel
theorem dX2_number_13 : decode cX2_number 13 = .ok (.iaload, 1) := by decide +kernel
theorem dX2_number_14 : decode cX2_number 14 = .ok (.goto 4, 3) := by decide +kernel
theorem dX2_number_17 : decode cX2_number 17 = .ok (.iconst (-1), 1) := by decide +kernel
theorem dX2_number_18 : decode cX2_number 18 = .ok (.ireturn, 1) := by decide +kernel
theorem dX2_fits_0 : decode cX2_fits 0 = .ok (.aload_n 0, 1) := by decide +kernel
theorem dX2_fits_1 : decode cX2_fits 1 = .ok (.iload_n 1, 1) := by decide +kernel
theorem dX2_fits_2 : decode cX2_fits 2 = .ok (.invokevirtual 56, 3) := by decide +kernel
theorem dX2_fits_5 : decode cX2_fits 5 = .ok (.ifCond .ne 5, 3) := by decide +kernel
theorem dX2_fits_8 : decode cX2_fits 8 = .ok (.iconst 0, 1) := by decide +kernel
theorem dX2_fits_9 : decode cX2_fits 9 = .ok (.ireturn, 1) := by decide +kernel
theorem dX2_fits_10 : decode cX2_fits 10 = .ok (.iload_n 2, 1) := by decide +kernel
theorem dX2_fits_11 : decode cX2_fits 11 = .ok (.bipush 64, 2) := by decide +kernel
theorem dX2_fits_13 : decode cX2_fits 13 = .ok (.if_icmp .ge 12, 3) := by decide +kernel
theorem dX2_fits_16 : decode cX2_fits 16 = .ok (.aload_n 0, 1) := by decide +kernel
theorem dX2_fits_17 : decode cX2_fits 17 = .ok (.getfield 21, 3) := by decide +kernel
theorem dX2_fits_20 : decode cX2_fits 20 = .ok (.iload_n 1, 1) := by decide +kernel
theorem dX2_fits_21 : decode cX2_fits 21 = .ok (.laload, 1) := by decide +kernel
theorem dX2_fits_22 : decode cX2_fits 22 = .ok (.goto 9, 3) := by decide +kernel
theorem dX2_fits_25 : decode cX2_fits 25 = .ok (.aload_n 0, 1) := by decide +kernel
theorem dX2_fits_26 : decode cX2_fits 26 = .ok (.getfield 25, 3) := by decide +kernel
theorem dX2_fits_29 : decode cX2_fits 29 = .ok (.iload_n 1, 1) := by decide +kernel
theorem dX2_fits_30 : decode cX2_fits 30 = .ok (.laload, 1) := by decide +kernel
theorem dX2_fits_31 : decode cX2_fits 31 = .ok (.lstore_n 3, 1) := by decide +kernel
theorem dX2_fits_32 : decode cX2_fits 32 = .ok (.lload_n 3, 1) := by decide +kernel
theorem dX2_fits_33 : decode cX2_fits 33 = .ok (.iload_n 2, 1) := by decide +kernel
theorem dX2_fits_34 : decode cX2_fits 34 = .ok (.bipush 63, 2) := by decide +kernel
theorem dX2_fits_36 : decode cX2_fits 36 = .ok (.iand, 1) := by decide +kernel
theorem dX2_fits_37 : decode cX2_fits 37 = .ok (.lushr, 1) := by decide +kernel
theorem dX2_fits_38 : decode cX2_fits 38 = .ok (.lconst 1, 1) := by decide +kernel
theorem dX2_fits_39 : decode cX2_fits 39 = .ok (.land, 1) := by decide +kernel
theorem dX2_fits_40 : decode cX2_fits 40 = .ok (.lconst 0, 1) := by decide +kernel
theorem dX2_fits_41 : decode cX2_fits 41 = .ok (.lcmp, 1) := by decide +kernel
theorem dX2_fits_42 : decode cX2_fits 42 = .ok (.ifCond .eq 7, 3) := by decide +kernel
theorem dX2_fits_45 : decode cX2_fits 45 = .ok (.iconst 1, 1) := by decide +kernel
theorem dX2_fits_46 : decode cX2_fits 46 = .ok (.goto 4, 3) := by decide +kernel
theorem dX2_fits_49 : decode cX2_fits 49 = .ok (.iconst 0, 1) := by decide +kernel
theorem dX2_fits_50 : decode cX2_fits 50 = .ok (.ireturn, 1) := by decide +kernel
theorem dX2_least_0 : decode cX2_least 0 = .ok (.aload_n 0, 1) := by decide +kernel
theorem dX2_least_1 : decode cX2_least 1 = .ok (.iload_n 1, 1) := by decide +kernel
theorem dX2_least_2 : decode cX2_least 2 = .ok (.invokevirtual 60, 3) := by decide +kernel
theorem dX2_least_5 : decode cX2_least 5 = .ok (.ifCond .eq 12, 3) := by decide +kernel
theorem dX2_least_8 : decode cX2_least 8 = .ok (.aload_n 0, 1) := by decide +kernel
theorem dX2_least_9 : decode cX2_least 9 = .ok (.getfield 28, 3) := by decide +kernel
theorem dX2_least_12 : decode cX2_least 12 = .ok (.iload_n 1, 1) := by decide +kernel
theorem dX2_least_13 : decode cX2_least 13 = .ok (.iaload, 1) := by decide +kernel
theorem dX2_least_14 : decode cX2_least 14 = .ok (.goto 4, 3) := by decide +kernel
theorem dX2_least_17 : decode cX2_least 17 = .ok (.iconst 0, 1) := by decide +kernel
theorem dX2_least_18 : decode cX2_least 18 = .ok (.ireturn, 1) := by decide +kernel
theorem dX2_most_0 : decode cX2_most 0 = .ok (.aload_n 0, 1) := by decide +kernel
theorem dX2_most_1 : decode cX2_most 1 = .ok (.iload_n 1, 1) := by decide +kernel
theorem dX2_most_2 : decode cX2_most 2 = .ok (.invokevirtual 60, 3) := by decide +kernel
theorem dX2_most_5 : decode cX2_most 5 = .ok (.ifCond .eq 12, 3) := by decide +kernel
theorem dX2_most_8 : decode cX2_most 8 = .ok (.aload_n 0, 1) := by decide +kernel
theorem dX2_most_9 : decode cX2_most 9 = .ok (.getfield 31, 3) := by decide +kernel
theorem dX2_most_12 : decode cX2_most 12 = .ok (.iload_n 1, 1) := by decide +kernel
theorem dX2_most_13 : decode cX2_most 13 = .ok (.iaload, 1) := by decide +kernel
theorem dX2_most_14 : decode cX2_most 14 = .ok (.goto 4, 3) := by decide +kernel
theorem dX2_most_17 : decode cX2_most 17 = .ok (.iconst 0, 1) := by decide +kernel
theorem dX2_most_18 : decode cX2_most 18 = .ok (.ireturn, 1) := by decide +kernel
theorem dX2_firstGroup_0 : decode cX2_firstGroup 0 = .ok (.aload_n 0, 1) := by decide +kernel
theorem dX2_firstGroup_1 : decode cX2_firstGroup 1 = .ok (.iload_n 1, 1) := by decide +kernel
theorem dX2_firstGroup_2 : decode cX2_firstGroup 2 = .ok (.invokevirtual 60, 3) := by decide +kernel
theorem dX2_firstGroup_5 : decode cX2_firstGroup 5 = .ok (.ifCond .eq 12, 3) := by decide +kernel
theorem dX2_firstGroup_8 : decode cX2_firstGroup 8 = .ok (.aload_n 0, 1) := by decide +kernel
theorem dX2_firstGroup_9 : decode cX2_firstGroup 9 = .ok (.getfield 34, 3) := by decide +kernel
theorem dX2_firstGroup_12 : decode cX2_firstGroup 12 = .ok (.iload_n 1, 1) := by decide +kernel
theorem dX2_firstGroup_13 : decode cX2_firstGroup 13 = .ok (.iaload, 1) := by decide +kernel
theorem dX2_firstGroup_14 : decode cX2_firstGroup 14 = .ok (.goto 4, 3) := by decide +kernel
theorem dX2_firstGroup_17 : decode cX2_firstGroup 17 = .ok (.iconst 0, 1) := by decide +kernel
theorem dX2_firstGroup_18 : decode cX2_firstGroup 18 = .ok (.ireturn, 1) := by decide +kernel
theorem dX2_lastGroup_0 : decode cX2_lastGroup 0 = .ok (.aload_n 0, 1) := by decide +kernel
theorem dX2_lastGroup_1 : decode cX2_lastGroup 1 = .ok (.iload_n 1, 1) := by decide +kernel
theorem dX2_lastGroup_2 : decode cX2_lastGroup 2 = .ok (.invokevirtual 60, 3) := by decide +kernel
theorem dX2_lastGroup_5 : decode cX2_lastGroup 5 = .ok (.ifCond .eq 12, 3) := by decide +kernel
theorem dX2_lastGroup_8 : decode cX2_lastGroup 8 = .ok (.aload_n 0, 1) := by decide +kernel
theorem dX2_lastGroup_9 : decode cX2_lastGroup 9 = .ok (.getfield 37, 3) := by decide +kernel
theorem dX2_lastGroup_12 : decode cX2_lastGroup 12 = .ok (.iload_n 1, 1) := by decide +kernel
theorem dX2_lastGroup_13 : decode cX2_lastGroup 13 = .ok (.iaload, 1) := by decide +kernel
theorem dX2_lastGroup_14 : decode cX2_lastGroup 14 = .ok (.goto 4, 3) := by decide +kernel
theorem dX2_lastGroup_17 : decode cX2_lastGroup 17 = .ok (.iconst (-1), 1) := by decide +kernel
theorem dX2_lastGroup_18 : decode cX2_lastGroup 18 = .ok (.ireturn, 1) := by decide +kernel
theorem dX2_add_0 : decode cX2_add 0 = .ok (.aload_n 0, 1) := by decide +kernel
theorem dX2_add_1 : decode cX2_add 1 = .ok (.getfield 40, 3) := by decide +kernel
theorem dX2_add_4 : decode cX2_add 4 = .ok (.ifCond .lt 12, 3) := by decide +kernel
theorem dX2_add_7 : decode cX2_add 7 = .ok (.aload_n 0, 1) := by decide +kernel
theorem dX2_add_8 : decode cX2_add 8 = .ok (.getfield 40, 3) := by decide +kernel
theorem dX2_add_11 : decode cX2_add 11 = .ok (.bipush 96, 2) := by decide +kernel
theorem dX2_add_13 : decode cX2_add 13 = .ok (.if_icmp .lt 13, 3) := by decide +kernel
theorem dX2_add_16 : decode cX2_add 16 = .ok (.new 63, 3) := by decide +kernel
theorem dX2_add_19 : decode cX2_add 19 = .ok (.dup, 1) := by decide +kernel
theorem dX2_add_20 : decode cX2_add 20 = .ok (.ldc 65, 2) := by decide +kernel
theorem dX2_add_22 : decode cX2_add 22 = .ok (.invokespecial 67, 3) := by decide +kernel
theorem dX2_add_25 : decode cX2_add 25 = .ok (.athrow, 1) := by decide +kernel
theorem dX2_add_26 : decode cX2_add 26 = .ok (.aload_n 0, 1) := by decide +kernel
theorem dX2_add_27 : decode cX2_add 27 = .ok (.getfield 9, 3) := by decide +kernel
theorem dX2_add_30 : decode cX2_add 30 = .ok (.aload_n 0, 1) := by decide +kernel
theorem dX2_add_31 : decode cX2_add 31 = .ok (.getfield 40, 3) := by decide +kernel
theorem dX2_add_34 : decode cX2_add 34 = .ok (.iload_n 1, 1) := by decide +kernel
theorem dX2_add_35 : decode cX2_add 35 = .ok (.iastore, 1) := by decide +kernel
theorem dX2_add_36 : decode cX2_add 36 = .ok (.aload_n 0, 1) := by decide +kernel
theorem dX2_add_37 : decode cX2_add 37 = .ok (.getfield 15, 3) := by decide +kernel
theorem dX2_add_40 : decode cX2_add 40 = .ok (.aload_n 0, 1) := by decide +kernel
theorem dX2_add_41 : decode cX2_add 41 = .ok (.getfield 40, 3) := by decide +kernel
theorem dX2_add_44 : decode cX2_add 44 = .ok (.iload_n 2, 1) := by decide +kernel
theorem dX2_add_45 : decode cX2_add 45 = .ok (.iastore, 1) := by decide +kernel
theorem dX2_add_46 : decode cX2_add 46 = .ok (.aload_n 0, 1) := by decide +kernel
theorem dX2_add_47 : decode cX2_add 47 = .ok (.getfield 18, 3) := by decide +kernel
theorem dX2_add_50 : decode cX2_add 50 = .ok (.aload_n 0, 1) := by decide +kernel
theorem dX2_add_51 : decode cX2_add 51 = .ok (.getfield 40, 3) := by decide +kernel
theorem dX2_add_54 : decode cX2_add 54 = .ok (.iload_n 3, 1) := by decide +kernel
theorem dX2_add_55 : decode cX2_add 55 = .ok (.iastore, 1) := by decide +kernel
theorem dX2_add_56 : decode cX2_add 56 = .ok (.aload_n 0, 1) := by decide +kernel
theorem dX2_add_57 : decode cX2_add 57 = .ok (.dup, 1) := by decide +kernel
theorem dX2_add_58 : decode cX2_add 58 = .ok (.getfield 40, 3) := by decide +kernel
theorem dX2_add_61 : decode cX2_add 61 = .ok (.iconst 1, 1) := by decide +kernel
theorem dX2_add_62 : decode cX2_add 62 = .ok (.iadd, 1) := by decide +kernel
theorem dX2_add_63 : decode cX2_add 63 = .ok (.putfield 40, 3) := by decide +kernel
theorem dX2_add_66 : decode cX2_add 66 = .ok (.aload_n 0, 1) := by decide +kernel
theorem dX2_add_67 : decode cX2_add 67 = .ok (.getfield 40, 3) := by decide +kernel
theorem dX2_add_70 : decode cX2_add 70 = .ok (.iconst 1, 1) := by decide +kernel
theorem dX2_add_71 : decode cX2_add 71 = .ok (.isub, 1) := by decide +kernel
theorem dX2_add_72 : decode cX2_add 72 = .ok (.ireturn, 1) := by decide +kernel
theorem dX2_addOneSign_0 : decode cX2_addOneSign 0 = .ok (.aload_n 0, 1) := by decide +kernel
theorem dX2_addOneSign_1 : decode cX2_addOneSign 1 = .ok (.iconst 1, 1) := by decide +kernel
theorem dX2_addOneSign_2 : decode cX2_addOneSign 2 = .ok (.iconst (-1), 1) := by decide +kernel
theorem dX2_addOneSign_3 : decode cX2_addOneSign 3 = .ok (.iconst (-1), 1) := by decide +kernel
theorem dX2_addOneSign_4 : decode cX2_addOneSign 4 = .ok (.invokevirtual 70, 3) := by decide +kernel
theorem dX2_addOneSign_7 : decode cX2_addOneSign 7 = .ok (.istore_n 2, 1) := by decide +kernel
theorem dX2_addOneSign_8 : decode cX2_addOneSign 8 = .ok (.aload_n 0, 1) := by decide +kernel
theorem dX2_addOneSign_9 : decode cX2_addOneSign 9 = .ok (.iload_n 2, 1) := by decide +kernel
theorem dX2_addOneSign_10 : decode cX2_addOneSign 10 = .ok (.invokevirtual 56, 3) := by decide +kernel
theorem dX2_addOneSign_13 : decode cX2_addOneSign 13 = .ok (.ifCond .eq 23, 3) := by decide +kernel
theorem dX2_addOneSign_16 : decode cX2_addOneSign 16 = .ok (.aload_n 0, 1) := by decide +kernel
theorem dX2_addOneSign_17 : decode cX2_addOneSign 17 = .ok (.getfield 21, 3) := by decide +kernel
theorem dX2_addOneSign_20 : decode cX2_addOneSign 20 = .ok (.iload_n 2, 1) := by decide +kernel
theorem dX2_addOneSign_21 : decode cX2_addOneSign 21 = .ok (.aload_n 1, 1) := by decide +kernel
theorem dX2_addOneSign_22 : decode cX2_addOneSign 22 = .ok (.invokevirtual 74, 3) := by decide +kernel
theorem dX2_addOneSign_25 : decode cX2_addOneSign 25 = .ok (.lastore, 1) := by decide +kernel
theorem dX2_addOneSign_26 : decode cX2_addOneSign 26 = .ok (.aload_n 0, 1) := by decide +kernel
theorem dX2_addOneSign_27 : decode cX2_addOneSign 27 = .ok (.getfield 25, 3) := by decide +kernel
theorem dX2_addOneSign_30 : decode cX2_addOneSign 30 = .ok (.iload_n 2, 1) := by decide +kernel
theorem dX2_addOneSign_31 : decode cX2_addOneSign 31 = .ok (.aload_n 1, 1) := by decide +kernel
theorem dX2_addOneSign_32 : decode cX2_addOneSign 32 = .ok (.invokevirtual 79, 3) := by decide +kernel
theorem dX2_addOneSign_35 : decode cX2_addOneSign 35 = .ok (.lastore, 1) := by decide +kernel
theorem dX2_addOneSign_36 : decode cX2_addOneSign 36 = .ok (.return_, 1) := by decide +kernel
theorem dX2_aimAt_0 : decode cX2_aimAt 0 = .ok (.aload_n 0, 1) := by decide +kernel
theorem dX2_aimAt_1 : decode cX2_aimAt 1 = .ok (.iload_n 1, 1) := by decide +kernel
theorem dX2_aimAt_2 : decode cX2_aimAt 2 = .ok (.invokevirtual 56, 3) := by decide +kernel
theorem dX2_aimAt_5 : decode cX2_aimAt 5 = .ok (.ifCond .eq 10, 3) := by decide +kernel
theorem dX2_aimAt_8 : decode cX2_aimAt 8 = .ok (.aload_n 0, 1) := by decide +kernel
theorem dX2_aimAt_9 : decode cX2_aimAt 9 = .ok (.getfield 15, 3) := by decide +kernel
theorem dX2_aimAt_12 : decode cX2_aimAt 12 = .ok (.iload_n 1, 1) := by decide +kernel
theorem dX2_aimAt_13 : decode cX2_aimAt 13 = .ok (.iload_n 2, 1) := by decide +kernel
theorem dX2_aimAt_14 : decode cX2_aimAt 14 = .ok (.iastore, 1) := by decide +kernel
theorem dX2_aimAt_15 : decode cX2_aimAt 15 = .ok (.return_, 1) := by decide +kernel
theorem dX2_aimChainAt_0 : decode cX2_aimChainAt 0 = .ok (.iload_n 1, 1) := by decide +kernel
theorem dX2_aimChainAt_1 : decode cX2_aimChainAt 1 = .ok (.istore_n 3, 1) := by decide +kernel
theorem dX2_aimChainAt_2 : decode cX2_aimChainAt 2 = .ok (.iconst 0, 1) := by decide +kernel
theorem dX2_aimChainAt_3 : decode cX2_aimChainAt 3 = .ok (.istore 4, 2) := by decide +kernel
theorem dX2_aimChainAt_5 : decode cX2_aimChainAt 5 = .ok (.iload 4, 2) := by decide +kernel
theorem dX2_aimChainAt_7 : decode cX2_aimChainAt 7 = .ok (.bipush 96, 2) := by decide +kernel
theorem dX2_aimChainAt_9 : decode cX2_aimChainAt 9 = .ok (.if_icmp .ge 30, 3) := by decide +kernel
theorem dX2_aimChainAt_12 : decode cX2_aimChainAt 12 = .ok (.iload_n 3, 1) := by decide +kernel
theorem dX2_aimChainAt_13 : decode cX2_aimChainAt 13 = .ok (.iconst (-1), 1) := by decide +kernel
theorem dX2_aimChainAt_14 : decode cX2_aimChainAt 14 = .ok (.if_icmp .eq 25, 3) := by decide +kernel
theorem dX2_aimChainAt_17 : decode cX2_aimChainAt 17 = .ok (.aload_n 0, 1) := by decide +kernel
theorem dX2_aimChainAt_18 : decode cX2_aimChainAt 18 = .ok (.iload_n 3, 1) := by decide +kernel
theorem dX2_aimChainAt_19 : decode cX2_aimChainAt 19 = .ok (.invokevirtual 81, 3) := by decide +kernel
theorem dX2_aimChainAt_22 : decode cX2_aimChainAt 22 = .ok (.istore 5, 2) := by decide +kernel
theorem dX2_aimChainAt_24 : decode cX2_aimChainAt 24 = .ok (.aload_n 0, 1) := by decide +kernel
theorem dX2_aimChainAt_25 : decode cX2_aimChainAt 25 = .ok (.iload_n 3, 1) := by decide +kernel
theorem dX2_aimChainAt_26 : decode cX2_aimChainAt 26 = .ok (.iload_n 2, 1) := by decide +kernel
theorem dX2_aimChainAt_27 : decode cX2_aimChainAt 27 = .ok (.invokevirtual 85, 3) := by decide +kernel
theorem dX2_aimChainAt_30 : decode cX2_aimChainAt 30 = .ok (.iload 5, 2) := by decide +kernel
theorem dX2_aimChainAt_32 : decode cX2_aimChainAt 32 = .ok (.istore_n 3, 1) := by decide +kernel
theorem dX2_aimChainAt_33 : decode cX2_aimChainAt 33 = .ok (.iinc 4 1, 3) := by decide +kernel
theorem dX2_aimChainAt_36 : decode cX2_aimChainAt 36 = .ok (.goto (-31), 3) := by decide +kernel
theorem dX2_aimChainAt_39 : decode cX2_aimChainAt 39 = .ok (.return_, 1) := by decide +kernel
theorem dX2_addGroup_0 : decode cX2_addGroup 0 = .ok (.aload_n 0, 1) := by decide +kernel
theorem dX2_addGroup_1 : decode cX2_addGroup 1 = .ok (.getfield 50, 3) := by decide +kernel
theorem dX2_addGroup_4 : decode cX2_addGroup 4 = .ok (.bipush 9, 2) := by decide +kernel
theorem dX2_addGroup_6 : decode cX2_addGroup 6 = .ok (.if_icmp .lt 13, 3) := by decide +kernel
theorem dX2_addGroup_9 : decode cX2_addGroup 9 = .ok (.new 63, 3) := by decide +kernel
theorem dX2_addGroup_12 : decode cX2_addGroup 12 = .ok (.dup, 1) := by decide +kernel
theorem dX2_addGroup_13 : decode cX2_addGroup 13 = .ok (.ldc 89, 2) := by decide +kernel
theorem dX2_addGroup_15 : decode cX2_addGroup 15 = .ok (.invokespecial 67, 3) := by decide +kernel
theorem dX2_addGroup_18 : decode cX2_addGroup 18 = .ok (.athrow, 1) := by decide +kernel
theorem dX2_addGroup_19 : decode cX2_addGroup 19 = .ok (.aload_n 0, 1) := by decide +kernel
theorem dX2_addGroup_20 : decode cX2_addGroup 20 = .ok (.dup, 1) := by decide +kernel
theorem dX2_addGroup_21 : decode cX2_addGroup 21 = .ok (.getfield 50, 3) := by decide +kernel
theorem dX2_addGroup_24 : decode cX2_addGroup 24 = .ok (.iconst 1, 1) := by decide +kernel
theorem dX2_addGroup_25 : decode cX2_addGroup 25 = .ok (.iadd, 1) := by decide +kernel
theorem dX2_addGroup_26 : decode cX2_addGroup 26 = .ok (.putfield 50, 3) := by decide +kernel
theorem dX2_addGroup_29 : decode cX2_addGroup 29 = .ok (.aload_n 0, 1) := by decide +kernel
theorem dX2_addGroup_30 : decode cX2_addGroup 30 = .ok (.getfield 50, 3) := by decide +kernel
theorem dX2_addGroup_33 : decode cX2_addGroup 33 = .ok (.ireturn, 1) := by decide +kernel
theorem dX2_addLook_0 : decode cX2_addLook 0 = .ok (.aload_n 0, 1) := by decide +kernel
theorem dX2_addLook_1 : decode cX2_addLook 1 = .ok (.getfield 47, 3) := by decide +kernel
theorem dX2_addLook_4 : decode cX2_addLook 4 = .ok (.bipush 10, 2) := by decide +kernel
theorem dX2_addLook_6 : decode cX2_addLook 6 = .ok (.if_icmp .lt 13, 3) := by decide +kernel
theorem dX2_addLook_9 : decode cX2_addLook 9 = .ok (.new 63, 3) := by decide +kernel
theorem dX2_addLook_12 : decode cX2_addLook 12 = .ok (.dup, 1) := by decide +kernel
theorem dX2_addLook_13 : decode cX2_addLook 13 = .ok (.ldc 91, 2) := by decide +kernel
theorem dX2_addLook_15 : decode cX2_addLook 15 = .ok (.invokespecial 67, 3) := by decide +kernel
theorem dX2_addLook_18 : decode cX2_addLook 18 = .ok (.athrow, 1) := by decide +kernel
theorem dX2_addLook_19 : decode cX2_addLook 19 = .ok (.aload_n 0, 1) := by decide +kernel
theorem dX2_addLook_20 : decode cX2_addLook 20 = .ok (.dup, 1) := by decide +kernel
theorem dX2_addLook_21 : decode cX2_addLook 21 = .ok (.getfield 47, 3) := by decide +kernel
theorem dX2_addLook_24 : decode cX2_addLook 24 = .ok (.iconst 1, 1) := by decide +kernel
theorem dX2_addLook_25 : decode cX2_addLook 25 = .ok (.iadd, 1) := by decide +kernel
theorem dX2_addLook_26 : decode cX2_addLook 26 = .ok (.putfield 47, 3) := by decide +kernel
theorem dX2_addLook_29 : decode cX2_addLook 29 = .ok (.aload_n 0, 1) := by decide +kernel
theorem dX2_addLook_30 : decode cX2_addLook 30 = .ok (.getfield 47, 3) := by decide +kernel
theorem dX2_addLook_33 : decode cX2_addLook 33 = .ok (.iconst 1, 1) := by decide +kernel
theorem dX2_addLook_34 : decode cX2_addLook 34 = .ok (.isub, 1) := by decide +kernel
theorem dX2_addLook_35 : decode cX2_addLook 35 = .ok (.ireturn, 1) := by decide +kernel
theorem dX2_addLoop_0 : decode cX2_addLoop 0 = .ok (.aload_n 0, 1) := by decide +kernel
theorem dX2_addLoop_1 : decode cX2_addLoop 1 = .ok (.getfield 44, 3) := by decide +kernel
theorem dX2_addLoop_4 : decode cX2_addLoop 4 = .ok (.ifCond .lt 12, 3) := by decide +kernel
theorem dX2_addLoop_7 : decode cX2_addLoop 7 = .ok (.aload_n 0, 1) := by decide +kernel
theorem dX2_addLoop_8 : decode cX2_addLoop 8 = .ok (.getfield 44, 3) := by decide +kernel
theorem dX2_addLoop_11 : decode cX2_addLoop 11 = .ok (.bipush 20, 2) := by decide +kernel
theorem dX2_addLoop_13 : decode cX2_addLoop 13 = .ok (.if_icmp .lt 13, 3) := by decide +kernel
theorem dX2_addLoop_16 : decode cX2_addLoop 16 = .ok (.new 63, 3) := by decide +kernel
theorem dX2_addLoop_19 : decode cX2_addLoop 19 = .ok (.dup, 1) := by decide +kernel
theorem dX2_addLoop_20 : decode cX2_addLoop 20 = .ok (.ldc 93, 2) := by decide +kernel
theorem dX2_addLoop_22 : decode cX2_addLoop 22 = .ok (.invokespecial 67, 3) := by decide +kernel
theorem dX2_addLoop_25 : decode cX2_addLoop 25 = .ok (.athrow, 1) := by decide +kernel
theorem dX2_addLoop_26 : decode cX2_addLoop 26 = .ok (.aload_n 0, 1) := by decide +kernel
theorem dX2_addLoop_27 : decode cX2_addLoop 27 = .ok (.getfield 28, 3) := by decide +kernel
theorem dX2_addLoop_30 : decode cX2_addLoop 30 = .ok (.aload_n 0, 1) := by decide +kernel
theorem dX2_addLoop_31 : decode cX2_addLoop 31 = .ok (.getfield 44, 3) := by decide +kernel
theorem dX2_addLoop_34 : decode cX2_addLoop 34 = .ok (.iload_n 1, 1) := by decide +kernel
theorem dX2_addLoop_35 : decode cX2_addLoop 35 = .ok (.iastore, 1) := by decide +kernel
theorem dX2_addLoop_36 : decode cX2_addLoop 36 = .ok (.aload_n 0, 1) := by decide +kernel
theorem dX2_addLoop_37 : decode cX2_addLoop 37 = .ok (.getfield 31, 3) := by decide +kernel
theorem dX2_addLoop_40 : decode cX2_addLoop 40 = .ok (.aload_n 0, 1) := by decide +kernel
theorem dX2_addLoop_41 : decode cX2_addLoop 41 = .ok (.getfield 44, 3) := by decide +kernel
theorem dX2_addLoop_44 : decode cX2_addLoop 44 = .ok (.iload_n 2, 1) := by decide +kernel
theorem dX2_addLoop_45 : decode cX2_addLoop 45 = .ok (.iastore, 1) := by decide +kernel
theorem dX2_addLoop_46 : decode cX2_addLoop 46 = .ok (.aload_n 0, 1) := by decide +kernel
theorem dX2_addLoop_47 : decode cX2_addLoop 47 = .ok (.getfield 34, 3) := by decide +kernel
theorem dX2_addLoop_50 : decode cX2_addLoop 50 = .ok (.aload_n 0, 1) := by decide +kernel
theorem dX2_addLoop_51 : decode cX2_addLoop 51 = .ok (.getfield 44, 3) := by decide +kernel
theorem dX2_addLoop_54 : decode cX2_addLoop 54 = .ok (.iload_n 3, 1) := by decide +kernel
theorem dX2_addLoop_55 : decode cX2_addLoop 55 = .ok (.iastore, 1) := by decide +kernel
theorem dX2_addLoop_56 : decode cX2_addLoop 56 = .ok (.aload_n 0, 1) := by decide +kernel
theorem dX2_addLoop_57 : decode cX2_addLoop 57 = .ok (.getfield 37, 3) := by decide +kernel
theorem dX2_addLoop_60 : decode cX2_addLoop 60 = .ok (.aload_n 0, 1) := by decide +kernel
theorem dX2_addLoop_61 : decode cX2_addLoop 61 = .ok (.getfield 44, 3) := by decide +kernel
theorem dX2_addLoop_64 : decode cX2_addLoop 64 = .ok (.aload_n 0, 1) := by decide +kernel
theorem dX2_addLoop_65 : decode cX2_addLoop 65 = .ok (.getfield 50, 3) := by decide +kernel
theorem dX2_addLoop_68 : decode cX2_addLoop 68 = .ok (.iastore, 1) := by decide +kernel
theorem dX2_addLoop_69 : decode cX2_addLoop 69 = .ok (.aload_n 0, 1) := by decide +kernel
theorem dX2_addLoop_70 : decode cX2_addLoop 70 = .ok (.dup, 1) := by decide +kernel
theorem dX2_addLoop_71 : decode cX2_addLoop 71 = .ok (.getfield 44, 3) := by decide +kernel
theorem dX2_addLoop_74 : decode cX2_addLoop 74 = .ok (.iconst 1, 1) := by decide +kernel
theorem dX2_addLoop_75 : decode cX2_addLoop 75 = .ok (.iadd, 1) := by decide +kernel
theorem dX2_addLoop_76 : decode cX2_addLoop 76 = .ok (.putfield 44, 3) := by decide +kernel
theorem dX2_addLoop_79 : decode cX2_addLoop 79 = .ok (.aload_n 0, 1) := by decide +kernel
theorem dX2_addLoop_80 : decode cX2_addLoop 80 = .ok (.getfield 44, 3) := by decide +kernel
theorem dX2_addLoop_83 : decode cX2_addLoop 83 = .ok (.iconst 1, 1) := by decide +kernel
theorem dX2_addLoop_84 : decode cX2_addLoop 84 = .ok (.isub, 1) := by decide +kernel
theorem dX2_addLoop_85 : decode cX2_addLoop 85 = .ok (.ireturn, 1) := by decide +kernel
theorem dX2_isInstruction_0 : decode cX2_isInstruction 0 = .ok (.iload_n 1, 1) := by decide +kernel
theorem dX2_isInstruction_1 : decode cX2_isInstruction 1 = .ok (.ifCond .lt 21, 3) := by decide +kernel
theorem dX2_isInstruction_4 : decode cX2_isInstruction 4 = .ok (.iload_n 1, 1) := by decide +kernel
theorem dX2_isInstruction_5 : decode cX2_isInstruction 5 = .ok (.aload_n 0, 1) := by decide +kernel
theorem dX2_isInstruction_6 : decode cX2_isInstruction 6 = .ok (.getfield 40, 3) := by decide +kernel
theorem dX2_isInstruction_9 : decode cX2_isInstruction 9 = .ok (.if_icmp .ge 13, 3) := by decide +kernel
theorem dX2_isInstruction_12 : decode cX2_isInstruction 12 = .ok (.iload_n 1, 1) := by decide +kernel
theorem dX2_isInstruction_13 : decode cX2_isInstruction 13 = .ok (.bipush 96, 2) := by decide +kernel
theorem dX2_isInstruction_15 : decode cX2_isInstruction 15 = .ok (.if_icmp .ge 7, 3) := by decide +kernel
theorem dX2_isInstruction_18 : decode cX2_isInstruction 18 = .ok (.iconst 1, 1) := by decide +kernel
theorem dX2_isInstruction_19 : decode cX2_isInstruction 19 = .ok (.goto 4, 3) := by decide +kernel
theorem dX2_isInstruction_22 : decode cX2_isInstruction 22 = .ok (.iconst 0, 1) := by decide +kernel
theorem dX2_isInstruction_23 : decode cX2_isInstruction 23 = .ok (.ireturn, 1) := by decide +kernel
theorem dX2_isLoop_0 : decode cX2_isLoop 0 = .ok (.iload_n 1, 1) := by decide +kernel
theorem dX2_isLoop_1 : decode cX2_isLoop 1 = .ok (.ifCond .lt 21, 3) := by decide +kernel
theorem dX2_isLoop_4 : decode cX2_isLoop 4 = .ok (.iload_n 1, 1) := by decide +kernel
theorem dX2_isLoop_5 : decode cX2_isLoop 5 = .ok (.aload_n 0, 1) := by decide +kernel
theorem dX2_isLoop_6 : decode cX2_isLoop 6 = .ok (.getfield 44, 3) := by decide +kernel
theorem dX2_isLoop_9 : decode cX2_isLoop 9 = .ok (.if_icmp .ge 13, 3) := by decide +kernel
theorem dX2_isLoop_12 : decode cX2_isLoop 12 = .ok (.iload_n 1, 1) := by decide +kernel
theorem dX2_isLoop_13 : decode cX2_isLoop 13 = .ok (.bipush 20, 2) := by decide +kernel
theorem dX2_isLoop_15 : decode cX2_isLoop 15 = .ok (.if_icmp .ge 7, 3) := by decide +kernel
theorem dX2_isLoop_18 : decode cX2_isLoop 18 = .ok (.iconst 1, 1) := by decide +kernel
theorem dX2_isLoop_19 : decode cX2_isLoop 19 = .ok (.goto 4, 3) := by decide +kernel
theorem dX2_isLoop_22 : decode cX2_isLoop 22 = .ok (.iconst 0, 1) := by decide +kernel
theorem dX2_isLoop_23 : decode cX2_isLoop 23 = .ok (.ireturn, 1) := by decide +kernel
