theorem dX2_undoLast_0 : decode cX2_undoLast 0 = .ok (.aload_n 0, 1) := by decide +kernel
theorem dX2_undoLast_1 : decode cX2_undoLast 1 = .ok (.getfield 18, 3) := by decide +kernel
theorem dX2_undoLast_4 : decode cX2_undoLast 4 = .ok (.ifCond .gt 4, 3) := by decide +kernel
theorem dX2_undoLast_8 : decode cX2_undoLast 8 = .ok (.aload_n 0, 1) := by decide +kernel
theorem dX2_undoLast_9 : decode cX2_undoLast 9 = .ok (.dup, 1) := by decide +kernel
theorem dX2_undoLast_10 : decode cX2_undoLast 10 = .ok (.getfield 18, 3) := by decide +kernel
theorem dX2_undoLast_13 : decode cX2_undoLast 13 = .ok (.iconst 1, 1) := by decide +kernel
theorem dX2_undoLast_14 : decode cX2_undoLast 14 = .ok (.isub, 1) := by decide +kernel
theorem dX2_undoLast_15 : decode cX2_undoLast 15 = .ok (.putfield 18, 3) := by decide +kernel
theorem dX2_undoLast_18 : decode cX2_undoLast 18 = .ok (.aload_n 0, 1) := by decide +kernel
theorem dX2_undoLast_19 : decode cX2_undoLast 19 = .ok (.getfield 11, 3) := by decide +kernel
theorem dX2_undoLast_22 : decode cX2_undoLast 22 = .ok (.aload_n 0, 1) := by decide +kernel
theorem dX2_undoLast_23 : decode cX2_undoLast 23 = .ok (.getfield 18, 3) := by decide +kernel
theorem dX2_undoLast_26 : decode cX2_undoLast 26 = .ok (.aaload, 1) := by decide +kernel
theorem dX2_undoLast_27 : decode cX2_undoLast 27 = .ok (.astore_n 2, 1) := by decide +kernel
theorem dX2_undoLast_28 : decode cX2_undoLast 28 = .ok (.aload_n 1, 1) := by decide +kernel
theorem dX2_undoLast_29 : decode cX2_undoLast 29 = .ok (.getfield 22, 3) := by decide +kernel
theorem dX2_undoLast_32 : decode cX2_undoLast 32 = .ok (.getfield 28, 3) := by decide +kernel
theorem dX2_undoLast_35 : decode cX2_undoLast 35 = .ok (.aload_n 2, 1) := by decide +kernel
theorem dX2_undoLast_36 : decode cX2_undoLast 36 = .ok (.getfield 51, 3) := by decide +kernel
theorem dX2_undoLast_39 : decode cX2_undoLast 39 = .ok (.aaload, 1) := by decide +kernel
theorem dX2_undoLast_40 : decode cX2_undoLast 40 = .ok (.astore_n 3, 1) := by decide +kernel
theorem dX2_undoLast_41 : decode cX2_undoLast 41 = .ok (.aload_n 3, 1) := by decide +kernel
theorem dX2_undoLast_42 : decode cX2_undoLast 42 = .ok (.aload_n 2, 1) := by decide +kernel
theorem dX2_undoLast_43 : decode cX2_undoLast 43 = .ok (.getfield 59, 3) := by decide +kernel
theorem dX2_undoLast_46 : decode cX2_undoLast 46 = .ok (.putfield 54, 3) := by decide +kernel
theorem dX2_undoLast_49 : decode cX2_undoLast 49 = .ok (.aload_n 3, 1) := by decide +kernel
theorem dX2_undoLast_50 : decode cX2_undoLast 50 = .ok (.aload_n 2, 1) := by decide +kernel
theorem dX2_undoLast_51 : decode cX2_undoLast 51 = .ok (.getfield 71, 3) := by decide +kernel
theorem dX2_undoLast_54 : decode cX2_undoLast 54 = .ok (.putfield 68, 3) := by decide +kernel
theorem dX2_undoLast_57 : decode cX2_undoLast 57 = .ok (.aload_n 3, 1) := by decide +kernel
theorem dX2_undoLast_58 : decode cX2_undoLast 58 = .ok (.aload_n 2, 1) := by decide +kernel
theorem dX2_undoLast_59 : decode cX2_undoLast 59 = .ok (.getfield 77, 3) := by decide +kernel
theorem dX2_undoLast_62 : decode cX2_undoLast 62 = .ok (.putfield 74, 3) := by decide +kernel
theorem dX2_undoLast_65 : decode cX2_undoLast 65 = .ok (.aload_n 3, 1) := by decide +kernel
theorem dX2_undoLast_66 : decode cX2_undoLast 66 = .ok (.dup, 1) := by decide +kernel
theorem dX2_undoLast_67 : decode cX2_undoLast 67 = .ok (.getfield 83, 3) := by decide +kernel
theorem dX2_undoLast_70 : decode cX2_undoLast 70 = .ok (.iconst 1, 1) := by decide +kernel
theorem dX2_undoLast_71 : decode cX2_undoLast 71 = .ok (.isub, 1) := by decide +kernel
theorem dX2_undoLast_72 : decode cX2_undoLast 72 = .ok (.putfield 83, 3) := by decide +kernel
theorem dX2_undoLast_75 : decode cX2_undoLast 75 = .ok (.aload_n 3, 1) := by decide +kernel
theorem dX2_undoLast_76 : decode cX2_undoLast 76 = .ok (.iconst 0, 1) := by decide +kernel
theorem dX2_undoLast_77 : decode cX2_undoLast 77 = .ok (.putfield 89, 3) := by decide +kernel
theorem dX2_undoLast_80 : decode cX2_undoLast 80 = .ok (.aload_n 2, 1) := by decide +kernel
theorem dX2_undoLast_81 : decode cX2_undoLast 81 = .ok (.getfield 42, 3) := by decide +kernel
theorem dX2_undoLast_84 : decode cX2_undoLast 84 = .ok (.iconst 0, 1) := by decide +kernel
theorem dX2_undoLast_85 : decode cX2_undoLast 85 = .ok (.aload_n 1, 1) := by decide +kernel
theorem dX2_undoLast_86 : decode cX2_undoLast 86 = .ok (.getfield 22, 3) := by decide +kernel
theorem dX2_undoLast_89 : decode cX2_undoLast 89 = .ok (.getfield 38, 3) := by decide +kernel
theorem dX2_undoLast_92 : decode cX2_undoLast 92 = .ok (.iconst 0, 1) := by decide +kernel
theorem dX2_undoLast_93 : decode cX2_undoLast 93 = .ok (.bipush 7, 2) := by decide +kernel
theorem dX2_undoLast_95 : decode cX2_undoLast 95 = .ok (.invokestatic 45, 3) := by decide +kernel
theorem dX2_undoLast_98 : decode cX2_undoLast 98 = .ok (.return_, 1) := by decide +kernel
theorem dX2_undoLast_7 : decode cX2_undoLast 7 = .ok (.return_, 1) := by decide +kernel
