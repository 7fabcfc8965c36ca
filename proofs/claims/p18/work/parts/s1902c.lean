theorem dX10_worthTo_0 : decode cX10_worthTo 0 = .ok (.aload_n 0, 1) := by decide +kernel
theorem dX10_worthTo_1 : decode cX10_worthTo 1 = .ok (.getfield 28, 3) := by decide +kernel
theorem dX10_worthTo_4 : decode cX10_worthTo 4 = .ok (.iconst 0, 1) := by decide +kernel
theorem dX10_worthTo_5 : decode cX10_worthTo 5 = .ok (.invokestatic 108, 3) := by decide +kernel
theorem dX10_worthTo_8 : decode cX10_worthTo 8 = .ok (.aload_n 0, 1) := by decide +kernel
theorem dX10_worthTo_9 : decode cX10_worthTo 9 = .ok (.getfield 28, 3) := by decide +kernel
theorem dX10_worthTo_12 : decode cX10_worthTo 12 = .ok (.aload_n 1, 1) := by decide +kernel
theorem dX10_worthTo_13 : decode cX10_worthTo 13 = .ok (.getfield 80, 3) := by decide +kernel
theorem dX10_worthTo_16 : decode cX10_worthTo 16 = .ok (.aload_n 1, 1) := by decide +kernel
theorem dX10_worthTo_17 : decode cX10_worthTo 17 = .ok (.aload_n 0, 1) := by decide +kernel
theorem dX10_worthTo_18 : decode cX10_worthTo 18 = .ok (.getfield 24, 3) := by decide +kernel
theorem dX10_worthTo_21 : decode cX10_worthTo 21 = .ok (.getfield 95, 3) := by decide +kernel
theorem dX10_worthTo_24 : decode cX10_worthTo 24 = .ok (.bipush 20, 2) := by decide +kernel
theorem dX10_worthTo_26 : decode cX10_worthTo 26 = .ok (.iadd, 1) := by decide +kernel
theorem dX10_worthTo_27 : decode cX10_worthTo 27 = .ok (.invokevirtual 102, 3) := by decide +kernel
theorem dX10_worthTo_30 : decode cX10_worthTo 30 = .ok (.iastore, 1) := by decide +kernel
theorem dX10_worthTo_31 : decode cX10_worthTo 31 = .ok (.bipush 19, 2) := by decide +kernel
theorem dX10_worthTo_33 : decode cX10_worthTo 33 = .ok (.istore 4, 2) := by decide +kernel
theorem dX10_worthTo_35 : decode cX10_worthTo 35 = .ok (.iload 4, 2) := by decide +kernel
theorem dX10_worthTo_37 : decode cX10_worthTo 37 = .ok (.iload_n 3, 1) := by decide +kernel
theorem dX10_worthTo_38 : decode cX10_worthTo 38 = .ok (.if_icmp .lt 82, 3) := by decide +kernel
theorem dX10_worthTo_120 : decode cX10_worthTo 120 = .ok (.aload_n 0, 1) := by decide +kernel
theorem dX10_worthTo_121 : decode cX10_worthTo 121 = .ok (.getfield 28, 3) := by decide +kernel
theorem dX10_worthTo_124 : decode cX10_worthTo 124 = .ok (.iload_n 2, 1) := by decide +kernel
theorem dX10_worthTo_125 : decode cX10_worthTo 125 = .ok (.iaload, 1) := by decide +kernel
theorem dX10_worthTo_126 : decode cX10_worthTo 126 = .ok (.ireturn, 1) := by decide +kernel
theorem dX10_worthTo_41 : decode cX10_worthTo 41 = .ok (.aload_n 0, 1) := by decide +kernel
theorem dX10_worthTo_42 : decode cX10_worthTo 42 = .ok (.getfield 28, 3) := by decide +kernel
theorem dX10_worthTo_45 : decode cX10_worthTo 45 = .ok (.iconst 0, 1) := by decide +kernel
theorem dX10_worthTo_46 : decode cX10_worthTo 46 = .ok (.aload_n 0, 1) := by decide +kernel
theorem dX10_worthTo_47 : decode cX10_worthTo 47 = .ok (.getfield 31, 3) := by decide +kernel
theorem dX10_worthTo_50 : decode cX10_worthTo 50 = .ok (.iconst 0, 1) := by decide +kernel
theorem dX10_worthTo_51 : decode cX10_worthTo 51 = .ok (.bipush 7, 2) := by decide +kernel
theorem dX10_worthTo_53 : decode cX10_worthTo 53 = .ok (.invokestatic 114, 3) := by decide +kernel
theorem dX10_worthTo_56 : decode cX10_worthTo 56 = .ok (.iconst 0, 1) := by decide +kernel
theorem dX10_worthTo_57 : decode cX10_worthTo 57 = .ok (.istore 5, 2) := by decide +kernel
theorem dX10_worthTo_59 : decode cX10_worthTo 59 = .ok (.iload 5, 2) := by decide +kernel
theorem dX10_worthTo_61 : decode cX10_worthTo 61 = .ok (.aload_n 0, 1) := by decide +kernel
theorem dX10_worthTo_62 : decode cX10_worthTo 62 = .ok (.getfield 34, 3) := by decide +kernel
theorem dX10_worthTo_65 : decode cX10_worthTo 65 = .ok (.if_icmp .ge 49, 3) := by decide +kernel
theorem dX10_worthTo_114 : decode cX10_worthTo 114 = .ok (.iinc 4 (-1), 3) := by decide +kernel
theorem dX10_worthTo_117 : decode cX10_worthTo 117 = .ok (.goto (-82), 3) := by decide +kernel
theorem dX10_worthTo_68 : decode cX10_worthTo 68 = .ok (.aload_n 0, 1) := by decide +kernel
theorem dX10_worthTo_69 : decode cX10_worthTo 69 = .ok (.getfield 28, 3) := by decide +kernel
theorem dX10_worthTo_72 : decode cX10_worthTo 72 = .ok (.iload 5, 2) := by decide +kernel
theorem dX10_worthTo_74 : decode cX10_worthTo 74 = .ok (.iload 5, 2) := by decide +kernel
theorem dX10_worthTo_76 : decode cX10_worthTo 76 = .ok (.aload_n 1, 1) := by decide +kernel
theorem dX10_worthTo_77 : decode cX10_worthTo 77 = .ok (.getfield 80, 3) := by decide +kernel
theorem dX10_worthTo_80 : decode cX10_worthTo 80 = .ok (.if_icmp .ne 20, 3) := by decide +kernel
theorem dX10_worthTo_100 : decode cX10_worthTo 100 = .ok (.aload_n 0, 1) := by decide +kernel
theorem dX10_worthTo_101 : decode cX10_worthTo 101 = .ok (.aload_n 1, 1) := by decide +kernel
theorem dX10_worthTo_102 : decode cX10_worthTo 102 = .ok (.iload 5, 2) := by decide +kernel
theorem dX10_worthTo_104 : decode cX10_worthTo 104 = .ok (.invokevirtual 120, 3) := by decide +kernel
theorem dX10_worthTo_107 : decode cX10_worthTo 107 = .ok (.iastore, 1) := by decide +kernel
theorem dX10_worthTo_108 : decode cX10_worthTo 108 = .ok (.iinc 5 1, 3) := by decide +kernel
theorem dX10_worthTo_111 : decode cX10_worthTo 111 = .ok (.goto (-52), 3) := by decide +kernel
theorem dX10_worthTo_83 : decode cX10_worthTo 83 = .ok (.aload_n 1, 1) := by decide +kernel
theorem dX10_worthTo_84 : decode cX10_worthTo 84 = .ok (.aload_n 0, 1) := by decide +kernel
theorem dX10_worthTo_85 : decode cX10_worthTo 85 = .ok (.getfield 24, 3) := by decide +kernel
theorem dX10_worthTo_88 : decode cX10_worthTo 88 = .ok (.getfield 95, 3) := by decide +kernel
theorem dX10_worthTo_91 : decode cX10_worthTo 91 = .ok (.iload 4, 2) := by decide +kernel
theorem dX10_worthTo_93 : decode cX10_worthTo 93 = .ok (.iadd, 1) := by decide +kernel
theorem dX10_worthTo_94 : decode cX10_worthTo 94 = .ok (.invokevirtual 102, 3) := by decide +kernel
theorem dX10_worthTo_97 : decode cX10_worthTo 97 = .ok (.goto 10, 3) := by decide +kernel
