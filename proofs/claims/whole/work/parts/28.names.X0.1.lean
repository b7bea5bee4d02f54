theorem dX0_beginLook_31 : decode cX0_beginLook 31 = .ok (.bipush 80, 2) := by decide +kernel
theorem dX0_beginLook_33 : decode cX0_beginLook 33 = .ok (.iload_n 2, 1) := by decide +kernel
theorem dX0_beginLook_34 : decode cX0_beginLook 34 = .ok (.iadd, 1) := by decide +kernel
theorem dX0_beginLook_35 : decode cX0_beginLook 35 = .ok (.aload_n 0, 1) := by decide +kernel
theorem dX0_beginLook_36 : decode cX0_beginLook 36 = .ok (.getfield 58, 3) := by decide +kernel
theorem dX0_beginLook_39 : decode cX0_beginLook 39 = .ok (.invokevirtual 65, 3) := by decide +kernel
theorem dX0_beginLook_42 : decode cX0_beginLook 42 = .ok (.iload_n 1, 1) := by decide +kernel
theorem dX0_beginLook_43 : decode cX0_beginLook 43 = .ok (.iconst 1, 1) := by decide +kernel
theorem dX0_beginLook_44 : decode cX0_beginLook 44 = .ok (.iadd, 1) := by decide +kernel
theorem dX0_beginLook_45 : decode cX0_beginLook 45 = .ok (.ireturn, 1) := by decide +kernel
theorem dX0_endLook_0 : decode cX0_endLook 0 = .ok (.aload_n 0, 1) := by decide +kernel
theorem dX0_endLook_1 : decode cX0_endLook 1 = .ok (.getfield 22, 3) := by decide +kernel
theorem dX0_endLook_4 : decode cX0_endLook 4 = .ok (.iload_n 1, 1) := by decide +kernel
theorem dX0_endLook_5 : decode cX0_endLook 5 = .ok (.invokevirtual 142, 3) := by decide +kernel
theorem dX0_endLook_8 : decode cX0_endLook 8 = .ok (.istore_n 2, 1) := by decide +kernel
theorem dX0_endLook_9 : decode cX0_endLook 9 = .ok (.aload_n 0, 1) := by decide +kernel
theorem dX0_endLook_10 : decode cX0_endLook 10 = .ok (.getfield 12, 3) := by decide +kernel
theorem dX0_endLook_13 : decode cX0_endLook 13 = .ok (.aload_n 0, 1) := by decide +kernel
theorem dX0_endLook_14 : decode cX0_endLook 14 = .ok (.getfield 12, 3) := by decide +kernel
theorem dX0_endLook_17 : decode cX0_endLook 17 = .ok (.bipush 70, 2) := by decide +kernel
theorem dX0_endLook_19 : decode cX0_endLook 19 = .ok (.iload_n 2, 1) := by decide +kernel
theorem dX0_endLook_20 : decode cX0_endLook 20 = .ok (.iadd, 1) := by decide +kernel
theorem dX0_endLook_21 : decode cX0_endLook 21 = .ok (.invokevirtual 51, 3) := by decide +kernel
theorem dX0_endLook_24 : decode cX0_endLook 24 = .ok (.invokevirtual 180, 3) := by decide +kernel
theorem dX0_endLook_27 : decode cX0_endLook 27 = .ok (.aload_n 0, 1) := by decide +kernel
theorem dX0_endLook_28 : decode cX0_endLook 28 = .ok (.aload_n 0, 1) := by decide +kernel
theorem dX0_endLook_29 : decode cX0_endLook 29 = .ok (.getfield 12, 3) := by decide +kernel
theorem dX0_endLook_32 : decode cX0_endLook 32 = .ok (.bipush 80, 2) := by decide +kernel
theorem dX0_endLook_34 : decode cX0_endLook 34 = .ok (.iload_n 2, 1) := by decide +kernel
theorem dX0_endLook_35 : decode cX0_endLook 35 = .ok (.iadd, 1) := by decide +kernel
theorem dX0_endLook_36 : decode cX0_endLook 36 = .ok (.invokevirtual 51, 3) := by decide +kernel
theorem dX0_endLook_39 : decode cX0_endLook 39 = .ok (.putfield 58, 3) := by decide +kernel
theorem dX0_endLook_42 : decode cX0_endLook 42 = .ok (.iload_n 1, 1) := by decide +kernel
theorem dX0_endLook_43 : decode cX0_endLook 43 = .ok (.iconst 1, 1) := by decide +kernel
theorem dX0_endLook_44 : decode cX0_endLook 44 = .ok (.iadd, 1) := by decide +kernel
theorem dX0_endLook_45 : decode cX0_endLook 45 = .ok (.ireturn, 1) := by decide +kernel
theorem dX0_beginLookNot_0 : decode cX0_beginLookNot 0 = .ok (.aload_n 0, 1) := by decide +kernel
theorem dX0_beginLookNot_1 : decode cX0_beginLookNot 1 = .ok (.getfield 12, 3) := by decide +kernel
theorem dX0_beginLookNot_4 : decode cX0_beginLookNot 4 = .ok (.bipush 70, 2) := by decide +kernel
theorem dX0_beginLookNot_6 : decode cX0_beginLookNot 6 = .ok (.aload_n 0, 1) := by decide +kernel
theorem dX0_beginLookNot_7 : decode cX0_beginLookNot 7 = .ok (.getfield 22, 3) := by decide +kernel
theorem dX0_beginLookNot_10 : decode cX0_beginLookNot 10 = .ok (.iload_n 1, 1) := by decide +kernel
theorem dX0_beginLookNot_11 : decode cX0_beginLookNot 11 = .ok (.invokevirtual 142, 3) := by decide +kernel
theorem dX0_beginLookNot_14 : decode cX0_beginLookNot 14 = .ok (.iadd, 1) := by decide +kernel
theorem dX0_beginLookNot_15 : decode cX0_beginLookNot 15 = .ok (.aload_n 0, 1) := by decide +kernel
theorem dX0_beginLookNot_16 : decode cX0_beginLookNot 16 = .ok (.getfield 12, 3) := by decide +kernel
theorem dX0_beginLookNot_19 : decode cX0_beginLookNot 19 = .ok (.invokevirtual 177, 3) := by decide +kernel
theorem dX0_beginLookNot_22 : decode cX0_beginLookNot 22 = .ok (.invokevirtual 65, 3) := by decide +kernel
theorem dX0_beginLookNot_25 : decode cX0_beginLookNot 25 = .ok (.aload_n 0, 1) := by decide +kernel
theorem dX0_beginLookNot_26 : decode cX0_beginLookNot 26 = .ok (.getfield 12, 3) := by decide +kernel
theorem dX0_beginLookNot_29 : decode cX0_beginLookNot 29 = .ok (.aload_n 0, 1) := by decide +kernel
theorem dX0_beginLookNot_30 : decode cX0_beginLookNot 30 = .ok (.getfield 22, 3) := by decide +kernel
theorem dX0_beginLookNot_33 : decode cX0_beginLookNot 33 = .ok (.iload_n 1, 1) := by decide +kernel
theorem dX0_beginLookNot_34 : decode cX0_beginLookNot 34 = .ok (.invokevirtual 94, 3) := by decide +kernel
theorem dX0_beginLookNot_37 : decode cX0_beginLookNot 37 = .ok (.aload_n 0, 1) := by decide +kernel
theorem dX0_beginLookNot_38 : decode cX0_beginLookNot 38 = .ok (.getfield 58, 3) := by decide +kernel
theorem dX0_beginLookNot_41 : decode cX0_beginLookNot 41 = .ok (.invokevirtual 159, 3) := by decide +kernel
theorem dX0_beginLookNot_44 : decode cX0_beginLookNot 44 = .ok (.iload_n 1, 1) := by decide +kernel
theorem dX0_beginLookNot_45 : decode cX0_beginLookNot 45 = .ok (.iconst 1, 1) := by decide +kernel
theorem dX0_beginLookNot_46 : decode cX0_beginLookNot 46 = .ok (.iadd, 1) := by decide +kernel
theorem dX0_beginLookNot_47 : decode cX0_beginLookNot 47 = .ok (.ireturn, 1) := by decide +kernel
theorem dX0_endLookNot_0 : decode cX0_endLookNot 0 = .ok (.aload_n 0, 1) := by decide +kernel
theorem dX0_endLookNot_1 : decode cX0_endLookNot 1 = .ok (.getfield 12, 3) := by decide +kernel
theorem dX0_endLookNot_4 : decode cX0_endLookNot 4 = .ok (.aload_n 0, 1) := by decide +kernel
theorem dX0_endLookNot_5 : decode cX0_endLookNot 5 = .ok (.getfield 12, 3) := by decide +kernel
theorem dX0_endLookNot_8 : decode cX0_endLookNot 8 = .ok (.bipush 70, 2) := by decide +kernel
theorem dX0_endLookNot_10 : decode cX0_endLookNot 10 = .ok (.aload_n 0, 1) := by decide +kernel
theorem dX0_endLookNot_11 : decode cX0_endLookNot 11 = .ok (.getfield 22, 3) := by decide +kernel
theorem dX0_endLookNot_14 : decode cX0_endLookNot 14 = .ok (.iload_n 1, 1) := by decide +kernel
theorem dX0_endLookNot_15 : decode cX0_endLookNot 15 = .ok (.invokevirtual 142, 3) := by decide +kernel
theorem dX0_endLookNot_18 : decode cX0_endLookNot 18 = .ok (.iadd, 1) := by decide +kernel
theorem dX0_endLookNot_19 : decode cX0_endLookNot 19 = .ok (.invokevirtual 51, 3) := by decide +kernel
theorem dX0_endLookNot_22 : decode cX0_endLookNot 22 = .ok (.invokevirtual 180, 3) := by decide +kernel
theorem dX0_endLookNot_25 : decode cX0_endLookNot 25 = .ok (.iconst (-1), 1) := by decide +kernel
theorem dX0_endLookNot_26 : decode cX0_endLookNot 26 = .ok (.ireturn, 1) := by decide +kernel
