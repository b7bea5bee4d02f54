theorem dX7_tries_78 : decode cX7_tries 78 = .ok (.ireturn, 1) := by decide +kernel
theorem dX7_tries_79 : decode cX7_tries 79 = .ok (.aload_n 0, 1) := by decide +kernel
theorem dX7_tries_80 : decode cX7_tries 80 = .ok (.getfield 247, 3) := by decide +kernel
theorem dX7_tries_83 : decode cX7_tries 83 = .ok (.ifCond .ne 7, 3) := by decide +kernel
theorem dX7_tries_86 : decode cX7_tries 86 = .ok (.iconst 1, 1) := by decide +kernel
theorem dX7_tries_87 : decode cX7_tries 87 = .ok (.goto 4, 3) := by decide +kernel
theorem dX7_tries_90 : decode cX7_tries 90 = .ok (.iconst 0, 1) := by decide +kernel
theorem dX7_tries_91 : decode cX7_tries 91 = .ok (.ireturn, 1) := by decide +kernel
set_option maxRecDepth 20000 in
theorem ggX7_search_X7_tries : GoodIn wsX7_search wsX7_tries := goodIn_r _ [8, 9, 10, 11, 12, 13, 14, 2, 15, 16, 17, 7, 18, 19, 20, 3, 21, 22, 23, 24, 25, 26, 1, 27, 28, 29, 30, 31, 32, 33, 34, 35, 36, 37, 38, 39, 40, 41, 42, 43, 44, 45, 46, 47, 48, 49, 50, 51, 52, 53, 54, 55, 56, 57, 58, 59, 60, 61, 62, 63, 64, 65, 66, 67, 68, 69, 70, 71, 72, 73, 74, 75, 76, 77, 78, 79, 80, 81, 82, 83, 84, 85, 86, 87, 88, 89, 90, 91, 92, 93, 94, 95, 96, 97, 98, 99, 100, 101, 102, 103, 104, 105, 106, 107, 108, 109, 110, 111, 112, 113, 114, 115, 116, 117, 118, 119, 120, 121, 122, 123, 124, 125, 126, 127, 128, 129, 130, 131, 132, 133, 134, 135, 136, 137, 138, 139, 140, 141, 142, 143, 144, 145, 146, 147, 148, 149, 150] (by decide +kernel) (by decide +kernel)
set_option maxRecDepth 20000 in
theorem gX7_search_X7_tries : GoodIn wsX7_search (wsV RX7 280 RX7 yX7_tries wsX7_tries) := goodIn_app (goodIn_of _ (by decide +kernel)) ggX7_search_X7_tries
set_option maxRecDepth 20000 in
theorem ggX7_search_X7_has : GoodIn wsX7_search wsX7_has := goodIn_r _ [39, 40, 101, 102, 103, 104, 105, 106, 107, 108, 109, 110, 111, 112, 113, 114, 115, 116, 117, 118, 119, 120, 121, 122, 123, 124, 125, 126, 127, 128, 129, 130, 131, 132, 133, 134, 135, 136, 137, 138, 139, 140, 141, 142, 143, 144, 145, 146, 147, 148, 149, 150] (by decide +kernel) (by decide +kernel)
set_option maxRecDepth 20000 in
theorem gX7_search_X7_has : GoodIn wsX7_search (wsV RX7 209 RX7 yX7_has wsX7_has) := goodIn_app (goodIn_of _ (by decide +kernel)) ggX7_search_X7_has
theorem dX7_search_0 : decode cX7_search 0 = .ok (.aload_n 0, 1) := by decide +kernel
theorem dX7_search_1 : decode cX7_search 1 = .ok (.iconst 0, 1) := by decide +kernel
theorem dX7_search_2 : decode cX7_search 2 = .ok (.putfield 250, 3) := by decide +kernel
theorem dX7_search_5 : decode cX7_search 5 = .ok (.aload_n 0, 1) := by decide +kernel
theorem dX7_search_6 : decode cX7_search 6 = .ok (.iconst 0, 1) := by decide +kernel
theorem dX7_search_7 : decode cX7_search 7 = .ok (.putfield 247, 3) := by decide +kernel
theorem dX7_search_10 : decode cX7_search 10 = .ok (.iload_n 1, 1) := by decide +kernel
theorem dX7_search_11 : decode cX7_search 11 = .ok (.istore_n 2, 1) := by decide +kernel
theorem dX7_search_12 : decode cX7_search 12 = .ok (.iload_n 2, 1) := by decide +kernel
theorem dX7_search_13 : decode cX7_search 13 = .ok (.aload_n 0, 1) := by decide +kernel
theorem dX7_search_14 : decode cX7_search 14 = .ok (.getfield 202, 3) := by decide +kernel
theorem dX7_search_17 : decode cX7_search 17 = .ok (.if_icmp .gt 36, 3) := by decide +kernel
theorem dX7_search_20 : decode cX7_search 20 = .ok (.aload_n 0, 1) := by decide +kernel
theorem dX7_search_21 : decode cX7_search 21 = .ok (.getfield 247, 3) := by decide +kernel
theorem dX7_search_24 : decode cX7_search 24 = .ok (.ifCond .ne 29, 3) := by decide +kernel
theorem dX7_search_27 : decode cX7_search 27 = .ok (.aload_n 0, 1) := by decide +kernel
theorem dX7_search_28 : decode cX7_search 28 = .ok (.iload_n 2, 1) := by decide +kernel
theorem dX7_search_29 : decode cX7_search 29 = .ok (.invokevirtual 280, 3) := by decide +kernel
theorem dX7_search_32 : decode cX7_search 32 = .ok (.ifCond .eq 5, 3) := by decide +kernel
theorem dX7_search_35 : decode cX7_search 35 = .ok (.iload_n 2, 1) := by decide +kernel
theorem dX7_search_36 : decode cX7_search 36 = .ok (.ireturn, 1) := by decide +kernel
theorem dX7_search_37 : decode cX7_search 37 = .ok (.aload_n 0, 1) := by decide +kernel
theorem dX7_search_38 : decode cX7_search 38 = .ok (.iconst 1, 1) := by decide +kernel
theorem dX7_search_39 : decode cX7_search 39 = .ok (.invokevirtual 209, 3) := by decide +kernel
theorem dX7_search_42 : decode cX7_search 42 = .ok (.ifCond .eq 5, 3) := by decide +kernel
theorem dX7_search_45 : decode cX7_search 45 = .ok (.iconst (-1), 1) := by decide +kernel
theorem dX7_search_46 : decode cX7_search 46 = .ok (.ireturn, 1) := by decide +kernel
theorem dX7_search_47 : decode cX7_search 47 = .ok (.iinc 2 1, 3) := by decide +kernel
theorem dX7_search_50 : decode cX7_search 50 = .ok (.goto (-38), 3) := by decide +kernel
theorem dX7_search_53 : decode cX7_search 53 = .ok (.iconst (-1), 1) := by decide +kernel
theorem dX7_search_54 : decode cX7_search 54 = .ok (.ireturn, 1) := by decide +kernel
set_option maxRecDepth 20000 in
theorem ggX7_find_X7_search : GoodIn wsX7_find wsX7_search := goodIn_r _ [16, 4, 3, 17, 18, 19, 20, 15, 21, 10, 22, 23, 7, 24, 25, 26, 27, 28, 29, 30, 31, 32, 33, 34, 35, 36, 37, 38, 39, 40, 41, 42, 43, 44, 45, 46, 47, 48, 49, 50, 51, 52, 53, 54, 55, 56, 57, 58, 59, 60, 61, 62, 63, 64, 65, 66, 67, 68, 69, 70, 71, 72, 73, 74, 75, 76, 77, 78, 79, 80, 81, 82, 83, 84, 85, 86, 87, 88, 89, 90, 91, 92, 93, 94, 95, 96, 97, 98, 99, 100, 101, 102, 103, 104, 105, 106, 107, 108, 109, 110, 111, 116, 117, 118, 119, 120, 121, 122, 123, 124, 125, 126, 127, 128, 129, 130, 131, 132, 133, 134, 135, 136, 137, 138, 139, 140, 141, 142, 143, 144, 145, 146, 147, 148, 149, 150, 151, 152, 153, 154, 155, 156, 157, 158, 159, 160, 161, 162, 163, 164, 165] (by decide +kernel) (by decide +kernel)
set_option maxRecDepth 20000 in
theorem gX7_find_X7_search : GoodIn wsX7_find (wsV RX7 283 RX7 yX7_search wsX7_search) := goodIn_app (goodIn_of _ (by decide +kernel)) ggX7_find_X7_search
set_option maxRecDepth 20000 in
theorem ggX7_find_X7_refuse : GoodIn wsX7_find wsX7_refuse := goodIn_r _ [115, 1, 116, 117, 118, 119, 120, 121, 122, 123, 124, 125, 126, 127, 128, 129, 130, 131, 132, 133, 134, 135, 136, 137, 138, 139, 140, 141, 142, 143, 144, 145, 146, 147, 148, 149, 150, 151, 152, 153, 154, 155, 156, 157, 158, 159, 160, 161, 162, 163, 164, 165] (by decide +kernel) (by decide +kernel)
set_option maxRecDepth 20000 in
theorem gX7_find_X7_refuse : GoodIn wsX7_find (wsV RX7 104 RX7 yX7_refuse wsX7_refuse) := goodIn_app (goodIn_of _ (by decide +kernel)) ggX7_find_X7_refuse
theorem dX7_find_0 : decode cX7_find 0 = .ok (.aload_n 0, 1) := by decide +kernel
theorem dX7_find_1 : decode cX7_find 1 = .ok (.iconst 0, 1) := by decide +kernel
theorem dX7_find_2 : decode cX7_find 2 = .ok (.putfield 98, 3) := by decide +kernel
theorem dX7_find_5 : decode cX7_find 5 = .ok (.aload_n 0, 1) := by decide +kernel
theorem dX7_find_6 : decode cX7_find 6 = .ok (.aload_n 0, 1) := by decide +kernel
theorem dX7_find_7 : decode cX7_find 7 = .ok (.getfield 196, 3) := by decide +kernel
theorem dX7_find_10 : decode cX7_find 10 = .ok (.invokevirtual 283, 3) := by decide +kernel
theorem dX7_find_13 : decode cX7_find 13 = .ok (.istore_n 1, 1) := by decide +kernel
theorem dX7_find_14 : decode cX7_find 14 = .ok (.aload_n 0, 1) := by decide +kernel
theorem dX7_find_15 : decode cX7_find 15 = .ok (.getfield 247, 3) := by decide +kernel
theorem dX7_find_18 : decode cX7_find 18 = .ok (.ifCond .eq 9, 3) := by decide +kernel
theorem dX7_find_21 : decode cX7_find 21 = .ok (.aload_n 0, 1) := by decide +kernel
theorem dX7_find_22 : decode cX7_find 22 = .ok (.iconst 1, 1) := by decide +kernel
theorem dX7_find_23 : decode cX7_find 23 = .ok (.invokevirtual 104, 3) := by decide +kernel
theorem dX7_find_26 : decode cX7_find 26 = .ok (.ireturn, 1) := by decide +kernel
theorem dX7_find_27 : decode cX7_find 27 = .ok (.aload_n 0, 1) := by decide +kernel
theorem dX7_find_28 : decode cX7_find 28 = .ok (.aload_n 0, 1) := by decide +kernel
theorem dX7_find_29 : decode cX7_find 29 = .ok (.getfield 250, 3) := by decide +kernel
theorem dX7_find_32 : decode cX7_find 32 = .ok (.putfield 286, 3) := by decide +kernel
theorem dX7_find_35 : decode cX7_find 35 = .ok (.aload_n 0, 1) := by decide +kernel
theorem dX7_find_36 : decode cX7_find 36 = .ok (.iload_n 1, 1) := by decide +kernel
theorem dX7_find_37 : decode cX7_find 37 = .ok (.ifCond .lt 7, 3) := by decide +kernel
theorem dX7_find_40 : decode cX7_find 40 = .ok (.iconst 1, 1) := by decide +kernel
theorem dX7_find_41 : decode cX7_find 41 = .ok (.goto 4, 3) := by decide +kernel
theorem dX7_find_44 : decode cX7_find 44 = .ok (.iconst 0, 1) := by decide +kernel
theorem dX7_find_45 : decode cX7_find 45 = .ok (.putfield 199, 3) := by decide +kernel
theorem dX7_find_48 : decode cX7_find 48 = .ok (.aload_n 0, 1) := by decide +kernel
theorem dX7_find_49 : decode cX7_find 49 = .ok (.aload_n 0, 1) := by decide +kernel
theorem dX7_find_50 : decode cX7_find 50 = .ok (.getfield 199, 3) := by decide +kernel
theorem dX7_find_53 : decode cX7_find 53 = .ok (.ifCond .eq 10, 3) := by decide +kernel
theorem dX7_find_56 : decode cX7_find 56 = .ok (.aload_n 0, 1) := by decide +kernel
theorem dX7_find_57 : decode cX7_find 57 = .ok (.getfield 216, 3) := by decide +kernel
theorem dX7_find_60 : decode cX7_find 60 = .ok (.goto 4, 3) := by decide +kernel
theorem dX7_find_63 : decode cX7_find 63 = .ok (.iconst 0, 1) := by decide +kernel
theorem dX7_find_64 : decode cX7_find 64 = .ok (.putfield 196, 3) := by decide +kernel
theorem dX7_find_67 : decode cX7_find 67 = .ok (.iconst 1, 1) := by decide +kernel
theorem dX7_find_68 : decode cX7_find 68 = .ok (.istore_n 2, 1) := by decide +kernel
theorem dX7_find_69 : decode cX7_find 69 = .ok (.iload_n 2, 1) := by decide +kernel
theorem dX7_find_70 : decode cX7_find 70 = .ok (.aload_n 0, 1) := by decide +kernel
theorem dX7_find_71 : decode cX7_find 71 = .ok (.getfield 190, 3) := by decide +kernel
theorem dX7_find_74 : decode cX7_find 74 = .ok (.if_icmp .gt 36, 3) := by decide +kernel
theorem dX7_find_77 : decode cX7_find 77 = .ok (.aload_n 0, 1) := by decide +kernel
theorem dX7_find_78 : decode cX7_find 78 = .ok (.getfield 74, 3) := by decide +kernel
theorem dX7_find_81 : decode cX7_find 81 = .ok (.iload_n 2, 1) := by decide +kernel
theorem dX7_find_82 : decode cX7_find 82 = .ok (.aload_n 0, 1) := by decide +kernel
theorem dX7_find_83 : decode cX7_find 83 = .ok (.getfield 65, 3) := by decide +kernel
theorem dX7_find_86 : decode cX7_find 86 = .ok (.iload_n 2, 1) := by decide +kernel
theorem dX7_find_87 : decode cX7_find 87 = .ok (.iaload, 1) := by decide +kernel
theorem dX7_find_88 : decode cX7_find 88 = .ok (.iastore, 1) := by decide +kernel
theorem dX7_find_89 : decode cX7_find 89 = .ok (.aload_n 0, 1) := by decide +kernel
theorem dX7_find_90 : decode cX7_find 90 = .ok (.getfield 77, 3) := by decide +kernel
theorem dX7_find_93 : decode cX7_find 93 = .ok (.iload_n 2, 1) := by decide +kernel
theorem dX7_find_94 : decode cX7_find 94 = .ok (.aload_n 0, 1) := by decide +kernel
theorem dX7_find_95 : decode cX7_find 95 = .ok (.getfield 65, 3) := by decide +kernel
theorem dX7_find_98 : decode cX7_find 98 = .ok (.bipush 10, 2) := by decide +kernel
theorem dX7_find_100 : decode cX7_find 100 = .ok (.iload_n 2, 1) := by decide +kernel
theorem dX7_find_101 : decode cX7_find 101 = .ok (.iadd, 1) := by decide +kernel
theorem dX7_find_102 : decode cX7_find 102 = .ok (.iaload, 1) := by decide +kernel
theorem dX7_find_103 : decode cX7_find 103 = .ok (.iastore, 1) := by decide +kernel
theorem dX7_find_104 : decode cX7_find 104 = .ok (.iinc 2 1, 3) := by decide +kernel
theorem dX7_find_107 : decode cX7_find 107 = .ok (.goto (-38), 3) := by decide +kernel
theorem dX7_find_110 : decode cX7_find 110 = .ok (.aload_n 0, 1) := by decide +kernel
theorem dX7_find_111 : decode cX7_find 111 = .ok (.getfield 74, 3) := by decide +kernel
theorem dX7_find_114 : decode cX7_find 114 = .ok (.iconst 0, 1) := by decide +kernel
theorem dX7_find_115 : decode cX7_find 115 = .ok (.iload_n 1, 1) := by decide +kernel
theorem dX7_find_116 : decode cX7_find 116 = .ok (.iastore, 1) := by decide +kernel
theorem dX7_find_117 : decode cX7_find 117 = .ok (.aload_n 0, 1) := by decide +kernel
theorem dX7_find_118 : decode cX7_find 118 = .ok (.getfield 77, 3) := by decide +kernel
theorem dX7_find_121 : decode cX7_find 121 = .ok (.iconst 0, 1) := by decide +kernel
theorem dX7_find_122 : decode cX7_find 122 = .ok (.aload_n 0, 1) := by decide +kernel
theorem dX7_find_123 : decode cX7_find 123 = .ok (.getfield 216, 3) := by decide +kernel
theorem dX7_find_126 : decode cX7_find 126 = .ok (.iastore, 1) := by decide +kernel
theorem dX7_find_127 : decode cX7_find 127 = .ok (.iload_n 1, 1) := by decide +kernel
theorem dX7_find_128 : decode cX7_find 128 = .ok (.ireturn, 1) := by decide +kernel
theorem dX7_isGroup_0 : decode cX7_isGroup 0 = .ok (.aload_n 0, 1) := by decide +kernel
theorem dX7_isGroup_1 : decode cX7_isGroup 1 = .ok (.getfield 199, 3) := by decide +kernel
theorem dX7_isGroup_4 : decode cX7_isGroup 4 = .ok (.ifCond .eq 19, 3) := by decide +kernel
theorem dX7_isGroup_7 : decode cX7_isGroup 7 = .ok (.iload_n 1, 1) := by decide +kernel
theorem dX7_isGroup_8 : decode cX7_isGroup 8 = .ok (.ifCond .lt 15, 3) := by decide +kernel
theorem dX7_isGroup_11 : decode cX7_isGroup 11 = .ok (.iload_n 1, 1) := by decide +kernel
theorem dX7_isGroup_12 : decode cX7_isGroup 12 = .ok (.aload_n 0, 1) := by decide +kernel
theorem dX7_isGroup_13 : decode cX7_isGroup 13 = .ok (.getfield 190, 3) := by decide +kernel
theorem dX7_isGroup_16 : decode cX7_isGroup 16 = .ok (.if_icmp .gt 7, 3) := by decide +kernel
theorem dX7_isGroup_19 : decode cX7_isGroup 19 = .ok (.iconst 1, 1) := by decide +kernel
theorem dX7_isGroup_20 : decode cX7_isGroup 20 = .ok (.goto 4, 3) := by decide +kernel
theorem dX7_isGroup_23 : decode cX7_isGroup 23 = .ok (.iconst 0, 1) := by decide +kernel
theorem dX7_isGroup_24 : decode cX7_isGroup 24 = .ok (.ireturn, 1) := by decide +kernel
set_option maxRecDepth 20000 in
theorem ggX7_from_X7_isGroup : GoodIn wsX7_from wsX7_isGroup := goodIn_r _ [7, 8, 9, 10, 11, 12, 13, 14, 15, 16, 17, 18, 19, 20, 21, 22, 23, 24, 25, 26, 27, 28, 29, 30, 31, 32, 33, 34, 35, 36, 37, 38, 39, 40, 41, 42, 43, 44, 45, 46, 47, 48, 49, 50, 51, 52, 53, 54, 55, 56, 57, 58, 59] (by decide +kernel) (by decide +kernel)
set_option maxRecDepth 20000 in
theorem gX7_from_X7_isGroup : GoodIn wsX7_from (wsV RX7 289 RX7 yX7_isGroup wsX7_isGroup) := goodIn_app (goodIn_of _ (by decide +kernel)) ggX7_from_X7_isGroup
theorem dX7_from_0 : decode cX7_from 0 = .ok (.aload_n 0, 1) := by decide +kernel
theorem dX7_from_1 : decode cX7_from 1 = .ok (.iconst 0, 1) := by decide +kernel
theorem dX7_from_2 : decode cX7_from 2 = .ok (.putfield 98, 3) := by decide +kernel
theorem dX7_from_5 : decode cX7_from 5 = .ok (.aload_n 0, 1) := by decide +kernel
theorem dX7_from_6 : decode cX7_from 6 = .ok (.iload_n 1, 1) := by decide +kernel
theorem dX7_from_7 : decode cX7_from 7 = .ok (.invokevirtual 289, 3) := by decide +kernel
theorem dX7_from_10 : decode cX7_from 10 = .ok (.ifCond .eq 12, 3) := by decide +kernel
theorem dX7_from_13 : decode cX7_from 13 = .ok (.aload_n 0, 1) := by decide +kernel
theorem dX7_from_14 : decode cX7_from 14 = .ok (.getfield 74, 3) := by decide +kernel
theorem dX7_from_17 : decode cX7_from 17 = .ok (.iload_n 1, 1) := by decide +kernel
theorem dX7_from_18 : decode cX7_from 18 = .ok (.iaload, 1) := by decide +kernel
theorem dX7_from_19 : decode cX7_from 19 = .ok (.goto 4, 3) := by decide +kernel
theorem dX7_from_22 : decode cX7_from 22 = .ok (.iconst (-1), 1) := by decide +kernel
theorem dX7_from_23 : decode cX7_from 23 = .ok (.ireturn, 1) := by decide +kernel
set_option maxRecDepth 20000 in
theorem ggX7_to_X7_isGroup : GoodIn wsX7_to wsX7_isGroup := goodIn_r _ [7, 8, 9, 10, 11, 12, 13, 14, 15, 16, 17, 18, 19, 20, 21, 22, 23, 24, 25, 26, 27, 28, 29, 30, 31, 32, 33, 34, 35, 36, 37, 38, 39, 40, 41, 42, 43, 44, 45, 46, 47, 48, 49, 50, 51, 52, 53, 54, 55, 56, 57, 58, 59] (by decide +kernel) (by decide +kernel)
set_option maxRecDepth 20000 in
theorem gX7_to_X7_isGroup : GoodIn wsX7_to (wsV RX7 289 RX7 yX7_isGroup wsX7_isGroup) := goodIn_app (goodIn_of _ (by decide +kernel)) ggX7_to_X7_isGroup
theorem dX7_to_0 : decode cX7_to 0 = .ok (.aload_n 0, 1) := by decide +kernel
theorem dX7_to_1 : decode cX7_to 1 = .ok (.iconst 0, 1) := by decide +kernel
theorem dX7_to_2 : decode cX7_to 2 = .ok (.putfield 98, 3) := by decide +kernel
theorem dX7_to_5 : decode cX7_to 5 = .ok (.aload_n 0, 1) := by decide +kernel
theorem dX7_to_6 : decode cX7_to 6 = .ok (.iload_n 1, 1) := by decide +kernel
theorem dX7_to_7 : decode cX7_to 7 = .ok (.invokevirtual 289, 3) := by decide +kernel
theorem dX7_to_10 : decode cX7_to 10 = .ok (.ifCond .eq 12, 3) := by decide +kernel
theorem dX7_to_13 : decode cX7_to 13 = .ok (.aload_n 0, 1) := by decide +kernel
theorem dX7_to_14 : decode cX7_to 14 = .ok (.getfield 77, 3) := by decide +kernel
theorem dX7_to_17 : decode cX7_to 17 = .ok (.iload_n 1, 1) := by decide +kernel
theorem dX7_to_18 : decode cX7_to 18 = .ok (.iaload, 1) := by decide +kernel
theorem dX7_to_19 : decode cX7_to 19 = .ok (.goto 4, 3) := by decide +kernel
theorem dX7_to_22 : decode cX7_to 22 = .ok (.iconst (-1), 1) := by decide +kernel
theorem dX7_to_23 : decode cX7_to 23 = .ok (.ireturn, 1) := by decide +kernel
theorem dX7_steps_0 : decode cX7_steps 0 = .ok (.aload_n 0, 1) := by decide +kernel
theorem dX7_steps_1 : decode cX7_steps 1 = .ok (.iconst 0, 1) := by decide +kernel
theorem dX7_steps_2 : decode cX7_steps 2 = .ok (.putfield 98, 3) := by decide +kernel
theorem dX7_steps_5 : decode cX7_steps 5 = .ok (.aload_n 0, 1) := by decide +kernel
theorem dX7_steps_6 : decode cX7_steps 6 = .ok (.getfield 286, 3) := by decide +kernel
theorem dX7_steps_9 : decode cX7_steps 9 = .ok (.ireturn, 1) := by decide +kernel
theorem dX7_write_0 : decode cX7_write 0 = .ok (.aload_n 0, 1) := by decide +kernel
theorem dX7_write_1 : decode cX7_write 1 = .ok (.getfield 292, 3) := by decide +kernel
theorem dX7_write_4 : decode cX7_write 4 = .ok (.sipush 260, 3) := by decide +kernel
theorem dX7_write_7 : decode cX7_write 7 = .ok (.if_icmp .ge 14, 3) := by decide +kernel
theorem dX7_write_10 : decode cX7_write 10 = .ok (.aload_n 0, 1) := by decide +kernel
theorem dX7_write_11 : decode cX7_write 11 = .ok (.getfield 83, 3) := by decide +kernel
theorem dX7_write_14 : decode cX7_write 14 = .ok (.aload_n 0, 1) := by decide +kernel
theorem dX7_write_15 : decode cX7_write 15 = .ok (.getfield 292, 3) := by decide +kernel
theorem dX7_write_18 : decode cX7_write 18 = .ok (.iload_n 1, 1) := by decide +kernel
theorem dX7_write_19 : decode cX7_write 19 = .ok (.i2c, 1) := by decide +kernel
theorem dX7_write_20 : decode cX7_write 20 = .ok (.castore, 1) := by decide +kernel
theorem dX7_write_21 : decode cX7_write 21 = .ok (.aload_n 0, 1) := by decide +kernel
theorem dX7_write_22 : decode cX7_write 22 = .ok (.dup, 1) := by decide +kernel
theorem dX7_write_23 : decode cX7_write 23 = .ok (.getfield 292, 3) := by decide +kernel
theorem dX7_write_26 : decode cX7_write 26 = .ok (.aload_n 0, 1) := by decide +kernel
theorem dX7_write_27 : decode cX7_write 27 = .ok (.getfield 292, 3) := by decide +kernel
theorem dX7_write_30 : decode cX7_write 30 = .ok (.sipush 260, 3) := by decide +kernel
theorem dX7_write_33 : decode cX7_write 33 = .ok (.if_icmp .ge 7, 3) := by decide +kernel
theorem dX7_write_36 : decode cX7_write 36 = .ok (.iconst 1, 1) := by decide +kernel
theorem dX7_write_37 : decode cX7_write 37 = .ok (.goto 4, 3) := by decide +kernel
theorem dX7_write_40 : decode cX7_write 40 = .ok (.iconst 0, 1) := by decide +kernel
theorem dX7_write_41 : decode cX7_write 41 = .ok (.iadd, 1) := by decide +kernel
theorem dX7_write_42 : decode cX7_write 42 = .ok (.putfield 292, 3) := by decide +kernel
theorem dX7_write_45 : decode cX7_write 45 = .ok (.return_, 1) := by decide +kernel
set_option maxRecDepth 20000 in
theorem ggX7_writeText_X7_write : GoodIn wsX7_writeText wsX7_write := goodIn_r _ [6, 7, 8, 9, 10, 11, 12, 13, 14, 15, 16, 17, 18, 19, 20, 21, 22, 23, 24, 25, 26, 27, 28, 29, 30, 31, 32, 33, 34, 35, 36, 37, 38, 39, 40, 41, 42, 43, 44, 45, 46, 47, 48, 49, 50, 51, 52, 53, 54, 55, 56, 57, 58] (by decide +kernel) (by decide +kernel)
set_option maxRecDepth 20000 in
theorem gX7_writeText_X7_write : GoodIn wsX7_writeText (wsV RX7 295 RX7 yX7_write wsX7_write) := goodIn_app (goodIn_of _ (by decide +kernel)) ggX7_writeText_X7_write
theorem dX7_writeText_0 : decode cX7_writeText 0 = .ok (.iload_n 1, 1) := by decide +kernel
theorem dX7_writeText_1 : decode cX7_writeText 1 = .ok (.istore_n 3, 1) := by decide +kernel
theorem dX7_writeText_2 : decode cX7_writeText 2 = .ok (.iload_n 3, 1) := by decide +kernel
theorem dX7_writeText_3 : decode cX7_writeText 3 = .ok (.iload_n 2, 1) := by decide +kernel
theorem dX7_writeText_4 : decode cX7_writeText 4 = .ok (.if_icmp .ge 19, 3) := by decide +kernel
theorem dX7_writeText_7 : decode cX7_writeText 7 = .ok (.aload_n 0, 1) := by decide +kernel
theorem dX7_writeText_8 : decode cX7_writeText 8 = .ok (.aload_n 0, 1) := by decide +kernel
theorem dX7_writeText_9 : decode cX7_writeText 9 = .ok (.getfield 13, 3) := by decide +kernel
theorem dX7_writeText_12 : decode cX7_writeText 12 = .ok (.iload_n 3, 1) := by decide +kernel
theorem dX7_writeText_13 : decode cX7_writeText 13 = .ok (.caload, 1) := by decide +kernel
theorem dX7_writeText_14 : decode cX7_writeText 14 = .ok (.invokevirtual 295, 3) := by decide +kernel
theorem dX7_writeText_17 : decode cX7_writeText 17 = .ok (.iinc 3 1, 3) := by decide +kernel
theorem dX7_writeText_20 : decode cX7_writeText 20 = .ok (.goto (-18), 3) := by decide +kernel
theorem dX7_writeText_23 : decode cX7_writeText 23 = .ok (.return_, 1) := by decide +kernel
set_option maxRecDepth 20000 in
theorem ggX7_writeTemplate_X7_write : GoodIn wsX7_writeTemplate wsX7_write := goodIn_r _ [10, 11, 12, 18, 19, 20, 21, 22, 23, 24, 25, 26, 27, 28, 29, 30, 31, 32, 33, 34, 35, 36, 37, 38, 39, 40, 41, 42, 43, 44, 45, 46, 47, 48, 49, 50, 51, 52, 53, 54, 55, 56, 57, 58, 59, 60, 61, 62, 63, 64, 65, 66, 67] (by decide +kernel) (by decide +kernel)
set_option maxRecDepth 20000 in
theorem gX7_writeTemplate_X7_write : GoodIn wsX7_writeTemplate (wsV RX7 295 RX7 yX7_write wsX7_write) := goodIn_app (goodIn_of _ (by decide +kernel)) ggX7_writeTemplate_X7_write
set_option maxRecDepth 20000 in
theorem ggX7_writeTemplate_X7_writeText : GoodIn wsX7_writeTemplate wsX7_writeText := goodIn_r _ [16, 17, 6, 7, 8, 9, 10, 11, 12, 18, 19, 20, 21, 22, 23, 24, 25, 26, 27, 28, 29, 30, 31, 32, 33, 34, 35, 36, 37, 38, 39, 40, 41, 42, 43, 44, 45, 46, 47, 48, 49, 50, 51, 52, 53, 54, 55, 56, 57, 58, 59, 60, 61, 62, 63, 64, 65, 66, 67] (by decide +kernel) (by decide +kernel)
set_option maxRecDepth 20000 in
theorem gX7_writeTemplate_X7_writeText : GoodIn wsX7_writeTemplate (wsV RX7 298 RX7 yX7_writeText wsX7_writeText) := goodIn_app (goodIn_of _ (by decide +kernel)) ggX7_writeTemplate_X7_writeText
theorem dX7_writeTemplate_0 : decode cX7_writeTemplate 0 = .ok (.iconst 0, 1) := by decide +kernel
theorem dX7_writeTemplate_1 : decode cX7_writeTemplate 1 = .ok (.istore_n 2, 1) := by decide +kernel
theorem dX7_writeTemplate_2 : decode cX7_writeTemplate 2 = .ok (.iload_n 2, 1) := by decide +kernel
theorem dX7_writeTemplate_3 : decode cX7_writeTemplate 3 = .ok (.aload_n 0, 1) := by decide +kernel
theorem dX7_writeTemplate_4 : decode cX7_writeTemplate 4 = .ok (.getfield 101, 3) := by decide +kernel
theorem dX7_writeTemplate_7 : decode cX7_writeTemplate 7 = .ok (.if_icmp .ge 154, 3) := by decide +kernel
theorem dX7_writeTemplate_10 : decode cX7_writeTemplate 10 = .ok (.aload_n 0, 1) := by decide +kernel
theorem dX7_writeTemplate_11 : decode cX7_writeTemplate 11 = .ok (.getfield 7, 3) := by decide +kernel
theorem dX7_writeTemplate_14 : decode cX7_writeTemplate 14 = .ok (.iload_n 2, 1) := by decide +kernel
theorem dX7_writeTemplate_15 : decode cX7_writeTemplate 15 = .ok (.caload, 1) := by decide +kernel
theorem dX7_writeTemplate_16 : decode cX7_writeTemplate 16 = .ok (.istore_n 3, 1) := by decide +kernel
theorem dX7_writeTemplate_17 : decode cX7_writeTemplate 17 = .ok (.iload_n 2, 1) := by decide +kernel
theorem dX7_writeTemplate_18 : decode cX7_writeTemplate 18 = .ok (.iconst 1, 1) := by decide +kernel
theorem dX7_writeTemplate_19 : decode cX7_writeTemplate 19 = .ok (.iadd, 1) := by decide +kernel
theorem dX7_writeTemplate_20 : decode cX7_writeTemplate 20 = .ok (.aload_n 0, 1) := by decide +kernel
theorem dX7_writeTemplate_21 : decode cX7_writeTemplate 21 = .ok (.getfield 101, 3) := by decide +kernel
theorem dX7_writeTemplate_24 : decode cX7_writeTemplate 24 = .ok (.if_icmp .ge 14, 3) := by decide +kernel
theorem dX7_writeTemplate_27 : decode cX7_writeTemplate 27 = .ok (.aload_n 0, 1) := by decide +kernel
theorem dX7_writeTemplate_28 : decode cX7_writeTemplate 28 = .ok (.getfield 7, 3) := by decide +kernel
theorem dX7_writeTemplate_31 : decode cX7_writeTemplate 31 = .ok (.iload_n 2, 1) := by decide +kernel
theorem dX7_writeTemplate_32 : decode cX7_writeTemplate 32 = .ok (.iconst 1, 1) := by decide +kernel
theorem dX7_writeTemplate_33 : decode cX7_writeTemplate 33 = .ok (.iadd, 1) := by decide +kernel
theorem dX7_writeTemplate_34 : decode cX7_writeTemplate 34 = .ok (.caload, 1) := by decide +kernel
theorem dX7_writeTemplate_35 : decode cX7_writeTemplate 35 = .ok (.goto 4, 3) := by decide +kernel
theorem dX7_writeTemplate_38 : decode cX7_writeTemplate 38 = .ok (.iconst 0, 1) := by decide +kernel
theorem dX7_writeTemplate_39 : decode cX7_writeTemplate 39 = .ok (.istore 4, 2) := by decide +kernel
theorem dX7_writeTemplate_41 : decode cX7_writeTemplate 41 = .ok (.iload 4, 2) := by decide +kernel
theorem dX7_writeTemplate_43 : decode cX7_writeTemplate 43 = .ok (.bipush 48, 2) := by decide +kernel
theorem dX7_writeTemplate_45 : decode cX7_writeTemplate 45 = .ok (.isub, 1) := by decide +kernel
theorem dX7_writeTemplate_46 : decode cX7_writeTemplate 46 = .ok (.istore 5, 2) := by decide +kernel
theorem dX7_writeTemplate_48 : decode cX7_writeTemplate 48 = .ok (.iinc 2 2, 3) := by decide +kernel
theorem dX7_writeTemplate_51 : decode cX7_writeTemplate 51 = .ok (.iload_n 3, 1) := by decide +kernel
theorem dX7_writeTemplate_52 : decode cX7_writeTemplate 52 = .ok (.bipush 36, 2) := by decide +kernel
theorem dX7_writeTemplate_54 : decode cX7_writeTemplate 54 = .ok (.if_icmp .ne 19, 3) := by decide +kernel
theorem dX7_writeTemplate_57 : decode cX7_writeTemplate 57 = .ok (.iload 4, 2) := by decide +kernel
theorem dX7_writeTemplate_59 : decode cX7_writeTemplate 59 = .ok (.bipush 36, 2) := by decide +kernel
theorem dX7_writeTemplate_61 : decode cX7_writeTemplate 61 = .ok (.if_icmp .ne 12, 3) := by decide +kernel
theorem dX7_writeTemplate_64 : decode cX7_writeTemplate 64 = .ok (.aload_n 0, 1) := by decide +kernel
theorem dX7_writeTemplate_65 : decode cX7_writeTemplate 65 = .ok (.bipush 36, 2) := by decide +kernel
theorem dX7_writeTemplate_67 : decode cX7_writeTemplate 67 = .ok (.invokevirtual 295, 3) := by decide +kernel
theorem dX7_writeTemplate_70 : decode cX7_writeTemplate 70 = .ok (.goto 88, 3) := by decide +kernel
theorem dX7_writeTemplate_73 : decode cX7_writeTemplate 73 = .ok (.iload_n 3, 1) := by decide +kernel
theorem dX7_writeTemplate_74 : decode cX7_writeTemplate 74 = .ok (.bipush 36, 2) := by decide +kernel
theorem dX7_writeTemplate_76 : decode cX7_writeTemplate 76 = .ok (.if_icmp .ne 22, 3) := by decide +kernel
theorem dX7_writeTemplate_79 : decode cX7_writeTemplate 79 = .ok (.iload 4, 2) := by decide +kernel
theorem dX7_writeTemplate_81 : decode cX7_writeTemplate 81 = .ok (.bipush 38, 2) := by decide +kernel
theorem dX7_writeTemplate_83 : decode cX7_writeTemplate 83 = .ok (.if_icmp .ne 15, 3) := by decide +kernel
theorem dX7_writeTemplate_86 : decode cX7_writeTemplate 86 = .ok (.aload_n 0, 1) := by decide +kernel
theorem dX7_writeTemplate_87 : decode cX7_writeTemplate 87 = .ok (.iload_n 1, 1) := by decide +kernel
theorem dX7_writeTemplate_88 : decode cX7_writeTemplate 88 = .ok (.aload_n 0, 1) := by decide +kernel
theorem dX7_writeTemplate_89 : decode cX7_writeTemplate 89 = .ok (.getfield 216, 3) := by decide +kernel
theorem dX7_writeTemplate_92 : decode cX7_writeTemplate 92 = .ok (.invokevirtual 298, 3) := by decide +kernel
theorem dX7_writeTemplate_95 : decode cX7_writeTemplate 95 = .ok (.goto 63, 3) := by decide +kernel
theorem dX7_writeTemplate_98 : decode cX7_writeTemplate 98 = .ok (.iload_n 3, 1) := by decide +kernel
theorem dX7_writeTemplate_99 : decode cX7_writeTemplate 99 = .ok (.bipush 36, 2) := by decide +kernel
theorem dX7_writeTemplate_101 : decode cX7_writeTemplate 101 = .ok (.if_icmp .ne 49, 3) := by decide +kernel
theorem dX7_writeTemplate_104 : decode cX7_writeTemplate 104 = .ok (.iload 5, 2) := by decide +kernel
theorem dX7_writeTemplate_106 : decode cX7_writeTemplate 106 = .ok (.iconst 1, 1) := by decide +kernel
theorem dX7_writeTemplate_107 : decode cX7_writeTemplate 107 = .ok (.if_icmp .lt 43, 3) := by decide +kernel
theorem dX7_writeTemplate_110 : decode cX7_writeTemplate 110 = .ok (.iload 5, 2) := by decide +kernel
theorem dX7_writeTemplate_112 : decode cX7_writeTemplate 112 = .ok (.aload_n 0, 1) := by decide +kernel
theorem dX7_writeTemplate_113 : decode cX7_writeTemplate 113 = .ok (.getfield 190, 3) := by decide +kernel
theorem dX7_writeTemplate_116 : decode cX7_writeTemplate 116 = .ok (.if_icmp .gt 34, 3) := by decide +kernel
theorem dX7_writeTemplate_119 : decode cX7_writeTemplate 119 = .ok (.iload 5, 2) := by decide +kernel
theorem dX7_writeTemplate_121 : decode cX7_writeTemplate 121 = .ok (.bipush 9, 2) := by decide +kernel
theorem dX7_writeTemplate_123 : decode cX7_writeTemplate 123 = .ok (.if_icmp .gt 27, 3) := by decide +kernel
theorem dX7_writeTemplate_126 : decode cX7_writeTemplate 126 = .ok (.aload_n 0, 1) := by decide +kernel
theorem dX7_writeTemplate_127 : decode cX7_writeTemplate 127 = .ok (.aload_n 0, 1) := by decide +kernel
theorem dX7_writeTemplate_128 : decode cX7_writeTemplate 128 = .ok (.getfield 65, 3) := by decide +kernel
theorem dX7_writeTemplate_131 : decode cX7_writeTemplate 131 = .ok (.iload 5, 2) := by decide +kernel
theorem dX7_writeTemplate_133 : decode cX7_writeTemplate 133 = .ok (.iaload, 1) := by decide +kernel
theorem dX7_writeTemplate_134 : decode cX7_writeTemplate 134 = .ok (.aload_n 0, 1) := by decide +kernel
theorem dX7_writeTemplate_135 : decode cX7_writeTemplate 135 = .ok (.getfield 65, 3) := by decide +kernel
theorem dX7_writeTemplate_138 : decode cX7_writeTemplate 138 = .ok (.bipush 10, 2) := by decide +kernel
theorem dX7_writeTemplate_140 : decode cX7_writeTemplate 140 = .ok (.iload 5, 2) := by decide +kernel
theorem dX7_writeTemplate_142 : decode cX7_writeTemplate 142 = .ok (.iadd, 1) := by decide +kernel
theorem dX7_writeTemplate_143 : decode cX7_writeTemplate 143 = .ok (.iaload, 1) := by decide +kernel
theorem dX7_writeTemplate_144 : decode cX7_writeTemplate 144 = .ok (.invokevirtual 298, 3) := by decide +kernel
theorem dX7_writeTemplate_147 : decode cX7_writeTemplate 147 = .ok (.goto 11, 3) := by decide +kernel
theorem dX7_writeTemplate_150 : decode cX7_writeTemplate 150 = .ok (.aload_n 0, 1) := by decide +kernel
theorem dX7_writeTemplate_151 : decode cX7_writeTemplate 151 = .ok (.iload_n 3, 1) := by decide +kernel
theorem dX7_writeTemplate_152 : decode cX7_writeTemplate 152 = .ok (.invokevirtual 295, 3) := by decide +kernel
theorem dX7_writeTemplate_155 : decode cX7_writeTemplate 155 = .ok (.iinc 2 (-1), 3) := by decide +kernel
theorem dX7_writeTemplate_158 : decode cX7_writeTemplate 158 = .ok (.goto (-156), 3) := by decide +kernel
theorem dX7_writeTemplate_161 : decode cX7_writeTemplate 161 = .ok (.return_, 1) := by decide +kernel
set_option maxRecDepth 20000 in
theorem ggX7_replace_X7_search : GoodIn wsX7_replace wsX7_search := goodIn_r _ [16, 17, 3, 5, 18, 19, 20, 15, 21, 22, 23, 24, 4, 25, 26, 27, 28, 29, 30, 31, 32, 33, 34, 35, 36, 37, 38, 39, 40, 41, 42, 43, 44, 45, 46, 47, 48, 49, 50, 51, 52, 53, 54, 55, 56, 57, 58, 59, 60, 61, 62, 63, 64, 65, 66, 67, 68, 69, 70, 71, 72, 73, 74, 75, 76, 77, 78, 79, 80, 81, 82, 83, 84, 85, 86, 87, 88, 89, 90, 91, 92, 93, 94, 95, 96, 97, 98, 99, 100, 101, 102, 103, 104, 105, 106, 107, 108, 109, 110, 111, 112, 131, 132, 133, 134, 135, 136, 137, 138, 139, 140, 141, 142, 143, 144, 145, 146, 147, 148, 149, 150, 151, 152, 153, 154, 155, 156, 157, 158, 159, 160, 161, 162, 163, 164, 165, 166, 167, 168, 169, 170, 171, 172, 173, 174, 175, 176, 177, 178, 179, 180] (by decide +kernel) (by decide +kernel)
set_option maxRecDepth 20000 in
theorem gX7_replace_X7_search : GoodIn wsX7_replace (wsV RX7 283 RX7 yX7_search wsX7_search) := goodIn_app (goodIn_of _ (by decide +kernel)) ggX7_replace_X7_search
set_option maxRecDepth 20000 in
theorem ggX7_replace_X7_writeText : GoodIn wsX7_replace wsX7_writeText := goodIn_r _ [116, 32, 117, 118, 119, 15, 120, 2, 7, 131, 132, 133, 134, 135, 136, 137, 138, 139, 140, 141, 142, 143, 144, 145, 146, 147, 148, 149, 150, 151, 152, 153, 154, 155, 156, 157, 158, 159, 160, 161, 162, 163, 164, 165, 166, 167, 168, 169, 170, 171, 172, 173, 174, 175, 176, 177, 178, 179, 180] (by decide +kernel) (by decide +kernel)
set_option maxRecDepth 20000 in
theorem gX7_replace_X7_writeText : GoodIn wsX7_replace (wsV RX7 298 RX7 yX7_writeText wsX7_writeText) := goodIn_app (goodIn_of _ (by decide +kernel)) ggX7_replace_X7_writeText
set_option maxRecDepth 20000 in
theorem ggX7_replace_X7_writeTemplate : GoodIn wsX7_replace wsX7_writeTemplate := goodIn_r _ [124, 9, 125, 4, 126, 22, 117, 118, 119, 15, 120, 2, 7, 113, 114, 115, 116, 32, 131, 132, 133, 134, 135, 136, 137, 138, 139, 140, 141, 142, 143, 144, 145, 146, 147, 148, 149, 150, 151, 152, 153, 154, 155, 156, 157, 158, 159, 160, 161, 162, 163, 164, 165, 166, 167, 168, 169, 170, 171, 172, 173, 174, 175, 176, 177, 178, 179, 180] (by decide +kernel) (by decide +kernel)
set_option maxRecDepth 20000 in
theorem gX7_replace_X7_writeTemplate : GoodIn wsX7_replace (wsV RX7 301 RX7 yX7_writeTemplate wsX7_writeTemplate) := goodIn_app (goodIn_of _ (by decide +kernel)) ggX7_replace_X7_writeTemplate
set_option maxRecDepth 20000 in
theorem ggX7_replace_X7_refuse : GoodIn wsX7_replace wsX7_refuse := goodIn_r _ [130, 1, 131, 132, 133, 134, 135, 136, 137, 138, 139, 140, 141, 142, 143, 144, 145, 146, 147, 148, 149, 150, 151, 152, 153, 154, 155, 156, 157, 158, 159, 160, 161, 162, 163, 164, 165, 166, 167, 168, 169, 170, 171, 172, 173, 174, 175, 176, 177, 178, 179, 180] (by decide +kernel) (by decide +kernel)
set_option maxRecDepth 20000 in
theorem gX7_replace_X7_refuse : GoodIn wsX7_replace (wsV RX7 104 RX7 yX7_refuse wsX7_refuse) := goodIn_app (goodIn_of _ (by decide +kernel)) ggX7_replace_X7_refuse
theorem dX7_replace_0 : decode cX7_replace 0 = .ok (.aload_n 0, 1) := by decide +kernel
theorem dX7_replace_1 : decode cX7_replace 1 = .ok (.iconst 0, 1) := by decide +kernel
theorem dX7_replace_2 : decode cX7_replace 2 = .ok (.putfield 98, 3) := by decide +kernel
theorem dX7_replace_5 : decode cX7_replace 5 = .ok (.aload_n 0, 1) := by decide +kernel
theorem dX7_replace_6 : decode cX7_replace 6 = .ok (.iconst 0, 1) := by decide +kernel
theorem dX7_replace_7 : decode cX7_replace 7 = .ok (.putfield 292, 3) := by decide +kernel
theorem dX7_replace_10 : decode cX7_replace 10 = .ok (.iconst 0, 1) := by decide +kernel
theorem dX7_replace_11 : decode cX7_replace 11 = .ok (.istore_n 1, 1) := by decide +kernel
theorem dX7_replace_12 : decode cX7_replace 12 = .ok (.iconst 0, 1) := by decide +kernel
theorem dX7_replace_13 : decode cX7_replace 13 = .ok (.istore_n 2, 1) := by decide +kernel
theorem dX7_replace_14 : decode cX7_replace 14 = .ok (.aload_n 0, 1) := by decide +kernel
theorem dX7_replace_15 : decode cX7_replace 15 = .ok (.iconst 0, 1) := by decide +kernel
theorem dX7_replace_16 : decode cX7_replace 16 = .ok (.invokevirtual 283, 3) := by decide +kernel
theorem dX7_replace_19 : decode cX7_replace 19 = .ok (.istore_n 3, 1) := by decide +kernel
theorem dX7_replace_20 : decode cX7_replace 20 = .ok (.iload_n 3, 1) := by decide +kernel
theorem dX7_replace_21 : decode cX7_replace 21 = .ok (.ifCond .lt 56, 3) := by decide +kernel
theorem dX7_replace_24 : decode cX7_replace 24 = .ok (.aload_n 0, 1) := by decide +kernel
theorem dX7_replace_25 : decode cX7_replace 25 = .ok (.getfield 247, 3) := by decide +kernel
theorem dX7_replace_28 : decode cX7_replace 28 = .ok (.ifCond .ne 49, 3) := by decide +kernel
theorem dX7_replace_31 : decode cX7_replace 31 = .ok (.aload_n 0, 1) := by decide +kernel
theorem dX7_replace_32 : decode cX7_replace 32 = .ok (.getfield 216, 3) := by decide +kernel
theorem dX7_replace_35 : decode cX7_replace 35 = .ok (.istore 4, 2) := by decide +kernel
theorem dX7_replace_37 : decode cX7_replace 37 = .ok (.aload_n 0, 1) := by decide +kernel
theorem dX7_replace_38 : decode cX7_replace 38 = .ok (.iload_n 2, 1) := by decide +kernel
theorem dX7_replace_39 : decode cX7_replace 39 = .ok (.iload_n 3, 1) := by decide +kernel
theorem dX7_replace_40 : decode cX7_replace 40 = .ok (.invokevirtual 298, 3) := by decide +kernel
theorem dX7_replace_43 : decode cX7_replace 43 = .ok (.aload_n 0, 1) := by decide +kernel
theorem dX7_replace_44 : decode cX7_replace 44 = .ok (.iload_n 3, 1) := by decide +kernel
theorem dX7_replace_45 : decode cX7_replace 45 = .ok (.invokevirtual 301, 3) := by decide +kernel
theorem dX7_replace_48 : decode cX7_replace 48 = .ok (.iinc 1 1, 3) := by decide +kernel
theorem dX7_replace_51 : decode cX7_replace 51 = .ok (.iload 4, 2) := by decide +kernel
theorem dX7_replace_53 : decode cX7_replace 53 = .ok (.istore_n 2, 1) := by decide +kernel
theorem dX7_replace_54 : decode cX7_replace 54 = .ok (.aload_n 0, 1) := by decide +kernel
theorem dX7_replace_55 : decode cX7_replace 55 = .ok (.iload 4, 2) := by decide +kernel
theorem dX7_replace_57 : decode cX7_replace 57 = .ok (.iload_n 3, 1) := by decide +kernel
theorem dX7_replace_58 : decode cX7_replace 58 = .ok (.if_icmp .ne 10, 3) := by decide +kernel
theorem dX7_replace_61 : decode cX7_replace 61 = .ok (.iload 4, 2) := by decide +kernel
theorem dX7_replace_63 : decode cX7_replace 63 = .ok (.iconst 1, 1) := by decide +kernel
theorem dX7_replace_64 : decode cX7_replace 64 = .ok (.iadd, 1) := by decide +kernel
theorem dX7_replace_65 : decode cX7_replace 65 = .ok (.goto 5, 3) := by decide +kernel
theorem dX7_replace_68 : decode cX7_replace 68 = .ok (.iload 4, 2) := by decide +kernel
theorem dX7_replace_70 : decode cX7_replace 70 = .ok (.invokevirtual 283, 3) := by decide +kernel
theorem dX7_replace_73 : decode cX7_replace 73 = .ok (.istore_n 3, 1) := by decide +kernel
theorem dX7_replace_74 : decode cX7_replace 74 = .ok (.goto (-54), 3) := by decide +kernel
theorem dX7_replace_77 : decode cX7_replace 77 = .ok (.aload_n 0, 1) := by decide +kernel
theorem dX7_replace_78 : decode cX7_replace 78 = .ok (.iload_n 2, 1) := by decide +kernel
theorem dX7_replace_79 : decode cX7_replace 79 = .ok (.aload_n 0, 1) := by decide +kernel
theorem dX7_replace_80 : decode cX7_replace 80 = .ok (.getfield 202, 3) := by decide +kernel
theorem dX7_replace_83 : decode cX7_replace 83 = .ok (.invokevirtual 298, 3) := by decide +kernel
theorem dX7_replace_86 : decode cX7_replace 86 = .ok (.aload_n 0, 1) := by decide +kernel
theorem dX7_replace_87 : decode cX7_replace 87 = .ok (.getfield 247, 3) := by decide +kernel
theorem dX7_replace_90 : decode cX7_replace 90 = .ok (.ifCond .ne 13, 3) := by decide +kernel
theorem dX7_replace_93 : decode cX7_replace 93 = .ok (.aload_n 0, 1) := by decide +kernel
theorem dX7_replace_94 : decode cX7_replace 94 = .ok (.getfield 292, 3) := by decide +kernel
theorem dX7_replace_97 : decode cX7_replace 97 = .ok (.sipush 200, 3) := by decide +kernel
theorem dX7_replace_100 : decode cX7_replace 100 = .ok (.if_icmp .le 9, 3) := by decide +kernel
theorem dX7_replace_103 : decode cX7_replace 103 = .ok (.aload_n 0, 1) := by decide +kernel
theorem dX7_replace_104 : decode cX7_replace 104 = .ok (.iconst 1, 1) := by decide +kernel
theorem dX7_replace_105 : decode cX7_replace 105 = .ok (.invokevirtual 104, 3) := by decide +kernel
theorem dX7_replace_108 : decode cX7_replace 108 = .ok (.ireturn, 1) := by decide +kernel
theorem dX7_replace_109 : decode cX7_replace 109 = .ok (.iconst 0, 1) := by decide +kernel
theorem dX7_replace_110 : decode cX7_replace 110 = .ok (.istore 4, 2) := by decide +kernel
theorem dX7_replace_112 : decode cX7_replace 112 = .ok (.iload 4, 2) := by decide +kernel
theorem dX7_replace_114 : decode cX7_replace 114 = .ok (.aload_n 0, 1) := by decide +kernel
theorem dX7_replace_115 : decode cX7_replace 115 = .ok (.getfield 292, 3) := by decide +kernel
theorem dX7_replace_118 : decode cX7_replace 118 = .ok (.if_icmp .ge 23, 3) := by decide +kernel
theorem dX7_replace_121 : decode cX7_replace 121 = .ok (.aload_n 0, 1) := by decide +kernel
theorem dX7_replace_122 : decode cX7_replace 122 = .ok (.getfield 80, 3) := by decide +kernel
theorem dX7_replace_125 : decode cX7_replace 125 = .ok (.iload 4, 2) := by decide +kernel
theorem dX7_replace_127 : decode cX7_replace 127 = .ok (.aload_n 0, 1) := by decide +kernel
theorem dX7_replace_128 : decode cX7_replace 128 = .ok (.getfield 83, 3) := by decide +kernel
theorem dX7_replace_131 : decode cX7_replace 131 = .ok (.iload 4, 2) := by decide +kernel
theorem dX7_replace_133 : decode cX7_replace 133 = .ok (.caload, 1) := by decide +kernel
theorem dX7_replace_134 : decode cX7_replace 134 = .ok (.castore, 1) := by decide +kernel
theorem dX7_replace_135 : decode cX7_replace 135 = .ok (.iinc 4 1, 3) := by decide +kernel
theorem dX7_replace_138 : decode cX7_replace 138 = .ok (.goto (-26), 3) := by decide +kernel
theorem dX7_replace_141 : decode cX7_replace 141 = .ok (.aload_n 0, 1) := by decide +kernel
theorem dX7_replace_142 : decode cX7_replace 142 = .ok (.aload_n 0, 1) := by decide +kernel
theorem dX7_replace_143 : decode cX7_replace 143 = .ok (.getfield 292, 3) := by decide +kernel
theorem dX7_replace_146 : decode cX7_replace 146 = .ok (.putfield 304, 3) := by decide +kernel
theorem dX7_replace_149 : decode cX7_replace 149 = .ok (.aload_n 0, 1) := by decide +kernel
theorem dX7_replace_150 : decode cX7_replace 150 = .ok (.iconst 0, 1) := by decide +kernel
theorem dX7_replace_151 : decode cX7_replace 151 = .ok (.putfield 101, 3) := by decide +kernel
theorem dX7_replace_154 : decode cX7_replace 154 = .ok (.aload_n 0, 1) := by decide +kernel
theorem dX7_replace_155 : decode cX7_replace 155 = .ok (.iconst 0, 1) := by decide +kernel
theorem dX7_replace_156 : decode cX7_replace 156 = .ok (.putfield 196, 3) := by decide +kernel
theorem dX7_replace_159 : decode cX7_replace 159 = .ok (.aload_n 0, 1) := by decide +kernel
theorem dX7_replace_160 : decode cX7_replace 160 = .ok (.iconst 0, 1) := by decide +kernel
theorem dX7_replace_161 : decode cX7_replace 161 = .ok (.putfield 199, 3) := by decide +kernel
theorem dX7_replace_164 : decode cX7_replace 164 = .ok (.iload_n 1, 1) := by decide +kernel
theorem dX7_replace_165 : decode cX7_replace 165 = .ok (.ireturn, 1) := by decide +kernel
theorem dX7_result_0 : decode cX7_result 0 = .ok (.aload_n 0, 1) := by decide +kernel
theorem dX7_result_1 : decode cX7_result 1 = .ok (.iload_n 1, 1) := by decide +kernel
theorem dX7_result_2 : decode cX7_result 2 = .ok (.ifCond .lt 15, 3) := by decide +kernel
theorem dX7_result_5 : decode cX7_result 5 = .ok (.iload_n 1, 1) := by decide +kernel
theorem dX7_result_6 : decode cX7_result 6 = .ok (.aload_n 0, 1) := by decide +kernel
theorem dX7_result_7 : decode cX7_result 7 = .ok (.getfield 304, 3) := by decide +kernel
theorem dX7_result_10 : decode cX7_result 10 = .ok (.if_icmp .ge 7, 3) := by decide +kernel
theorem dX7_result_13 : decode cX7_result 13 = .ok (.iconst 0, 1) := by decide +kernel
theorem dX7_result_14 : decode cX7_result 14 = .ok (.goto 4, 3) := by decide +kernel
theorem dX7_result_17 : decode cX7_result 17 = .ok (.iconst 1, 1) := by decide +kernel
theorem dX7_result_18 : decode cX7_result 18 = .ok (.putfield 98, 3) := by decide +kernel
theorem dX7_result_21 : decode cX7_result 21 = .ok (.aload_n 0, 1) := by decide +kernel
theorem dX7_result_22 : decode cX7_result 22 = .ok (.getfield 98, 3) := by decide +kernel
theorem dX7_result_25 : decode cX7_result 25 = .ok (.ifCond .ne 12, 3) := by decide +kernel
theorem dX7_result_28 : decode cX7_result 28 = .ok (.aload_n 0, 1) := by decide +kernel
theorem dX7_result_29 : decode cX7_result 29 = .ok (.getfield 80, 3) := by decide +kernel
theorem dX7_result_32 : decode cX7_result 32 = .ok (.iload_n 1, 1) := by decide +kernel
theorem dX7_result_33 : decode cX7_result 33 = .ok (.caload, 1) := by decide +kernel
theorem dX7_result_34 : decode cX7_result 34 = .ok (.goto 5, 3) := by decide +kernel
theorem dX7_result_37 : decode cX7_result 37 = .ok (.bipush 32, 2) := by decide +kernel
theorem dX7_result_39 : decode cX7_result 39 = .ok (.ireturn, 1) := by decide +kernel
