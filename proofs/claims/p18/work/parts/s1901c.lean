theorem dX10_worthBeside_0 : decode cX10_worthBeside 0 = .ok (.aload_n 0, 1) := by decide +kernel
theorem dX10_worthBeside_1 : decode cX10_worthBeside 1 = .ok (.iload_n 2, 1) := by decide +kernel
theorem dX10_worthBeside_2 : decode cX10_worthBeside 2 = .ok (.aload_n 0, 1) := by decide +kernel
theorem dX10_worthBeside_3 : decode cX10_worthBeside 3 = .ok (.getfield 24, 3) := by decide +kernel
theorem dX10_worthBeside_6 : decode cX10_worthBeside 6 = .ok (.getfield 48, 3) := by decide +kernel
theorem dX10_worthBeside_9 : decode cX10_worthBeside 9 = .ok (.invokevirtual 51, 3) := by decide +kernel
theorem dX10_worthBeside_12 : decode cX10_worthBeside 12 = .ok (.istore_n 3, 1) := by decide +kernel
theorem dX10_worthBeside_13 : decode cX10_worthBeside 13 = .ok (.iconst 0, 1) := by decide +kernel
theorem dX10_worthBeside_14 : decode cX10_worthBeside 14 = .ok (.istore 4, 2) := by decide +kernel
theorem dX10_worthBeside_16 : decode cX10_worthBeside 16 = .ok (.iconst 0, 1) := by decide +kernel
theorem dX10_worthBeside_17 : decode cX10_worthBeside 17 = .ok (.istore 5, 2) := by decide +kernel
theorem dX10_worthBeside_19 : decode cX10_worthBeside 19 = .ok (.iload 5, 2) := by decide +kernel
theorem dX10_worthBeside_21 : decode cX10_worthBeside 21 = .ok (.aload_n 0, 1) := by decide +kernel
theorem dX10_worthBeside_22 : decode cX10_worthBeside 22 = .ok (.getfield 34, 3) := by decide +kernel
theorem dX10_worthBeside_25 : decode cX10_worthBeside 25 = .ok (.if_icmp .ge 52, 3) := by decide +kernel
theorem dX10_worthBeside_77 : decode cX10_worthBeside 77 = .ok (.iconst 0, 1) := by decide +kernel
theorem dX10_worthBeside_78 : decode cX10_worthBeside 78 = .ok (.iload 4, 2) := by decide +kernel
theorem dX10_worthBeside_80 : decode cX10_worthBeside 80 = .ok (.iconst 1, 1) := by decide +kernel
theorem dX10_worthBeside_81 : decode cX10_worthBeside 81 = .ok (.isub, 1) := by decide +kernel
theorem dX10_worthBeside_82 : decode cX10_worthBeside 82 = .ok (.invokestatic 124, 3) := by decide +kernel
theorem dX10_worthBeside_85 : decode cX10_worthBeside 85 = .ok (.ireturn, 1) := by decide +kernel
theorem dX10_worthBeside_28 : decode cX10_worthBeside 28 = .ok (.iload_n 3, 1) := by decide +kernel
theorem dX10_worthBeside_29 : decode cX10_worthBeside 29 = .ok (.iload 5, 2) := by decide +kernel
theorem dX10_worthBeside_31 : decode cX10_worthBeside 31 = .ok (.invokestatic 41, 3) := by decide +kernel
theorem dX10_worthBeside_34 : decode cX10_worthBeside 34 = .ok (.ifCond .eq 37, 3) := by decide +kernel
theorem dX10_worthBeside_71 : decode cX10_worthBeside 71 = .ok (.iinc 5 1, 3) := by decide +kernel
theorem dX10_worthBeside_74 : decode cX10_worthBeside 74 = .ok (.goto (-55), 3) := by decide +kernel
theorem dX10_worthBeside_37 : decode cX10_worthBeside 37 = .ok (.iload 5, 2) := by decide +kernel
theorem dX10_worthBeside_39 : decode cX10_worthBeside 39 = .ok (.aload_n 1, 1) := by decide +kernel
theorem dX10_worthBeside_40 : decode cX10_worthBeside 40 = .ok (.getfield 80, 3) := by decide +kernel
theorem dX10_worthBeside_43 : decode cX10_worthBeside 43 = .ok (.if_icmp .eq 14, 3) := by decide +kernel
theorem dX10_worthBeside_57 : decode cX10_worthBeside 57 = .ok (.iload 4, 2) := by decide +kernel
theorem dX10_worthBeside_59 : decode cX10_worthBeside 59 = .ok (.aload_n 0, 1) := by decide +kernel
theorem dX10_worthBeside_60 : decode cX10_worthBeside 60 = .ok (.getfield 31, 3) := by decide +kernel
theorem dX10_worthBeside_63 : decode cX10_worthBeside 63 = .ok (.iload 5, 2) := by decide +kernel
theorem dX10_worthBeside_65 : decode cX10_worthBeside 65 = .ok (.iaload, 1) := by decide +kernel
theorem dX10_worthBeside_66 : decode cX10_worthBeside 66 = .ok (.invokestatic 124, 3) := by decide +kernel
theorem dX10_worthBeside_69 : decode cX10_worthBeside 69 = .ok (.istore 4, 2) := by decide +kernel
theorem dX10_worthBeside_46 : decode cX10_worthBeside 46 = .ok (.aload_n 0, 1) := by decide +kernel
theorem dX10_worthBeside_47 : decode cX10_worthBeside 47 = .ok (.getfield 9, 3) := by decide +kernel
theorem dX10_worthBeside_50 : decode cX10_worthBeside 50 = .ok (.iload 5, 2) := by decide +kernel
theorem dX10_worthBeside_52 : decode cX10_worthBeside 52 = .ok (.iaload, 1) := by decide +kernel
theorem dX10_worthBeside_53 : decode cX10_worthBeside 53 = .ok (.iconst 3, 1) := by decide +kernel
theorem dX10_worthBeside_54 : decode cX10_worthBeside 54 = .ok (.if_icmp .eq 17, 3) := by decide +kernel
