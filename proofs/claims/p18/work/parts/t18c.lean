theorem dX12_routeOn_0 : decode cX12_routeOn 0 = .ok (.aload_n 0, 1) := by decide +kernel
theorem dX12_routeOn_1 : decode cX12_routeOn 1 = .ok (.getfield 55, 3) := by decide +kernel
theorem dX12_routeOn_4 : decode cX12_routeOn 4 = .ok (.iload_n 1, 1) := by decide +kernel
theorem dX12_routeOn_5 : decode cX12_routeOn 5 = .ok (.iconst 1, 1) := by decide +kernel
theorem dX12_routeOn_6 : decode cX12_routeOn 6 = .ok (.isub, 1) := by decide +kernel
theorem dX12_routeOn_7 : decode cX12_routeOn 7 = .ok (.iaload, 1) := by decide +kernel
theorem dX12_routeOn_8 : decode cX12_routeOn 8 = .ok (.istore 4, 2) := by decide +kernel
theorem dX12_routeOn_10 : decode cX12_routeOn 10 = .ok (.aload_n 0, 1) := by decide +kernel
theorem dX12_routeOn_11 : decode cX12_routeOn 11 = .ok (.iload 4, 2) := by decide +kernel
theorem dX12_routeOn_13 : decode cX12_routeOn 13 = .ok (.iload_n 3, 1) := by decide +kernel
theorem dX12_routeOn_14 : decode cX12_routeOn 14 = .ok (.invokevirtual 179, 3) := by decide +kernel
theorem dX12_routeOn_17 : decode cX12_routeOn 17 = .ok (.istore 5, 2) := by decide +kernel
theorem dX12_routeOn_19 : decode cX12_routeOn 19 = .ok (.aload_n 0, 1) := by decide +kernel
theorem dX12_routeOn_20 : decode cX12_routeOn 20 = .ok (.iload 4, 2) := by decide +kernel
theorem dX12_routeOn_22 : decode cX12_routeOn 22 = .ok (.invokevirtual 167, 3) := by decide +kernel
theorem dX12_routeOn_25 : decode cX12_routeOn 25 = .ok (.iload_n 2, 1) := by decide +kernel
theorem dX12_routeOn_26 : decode cX12_routeOn 26 = .ok (.iconst (-1), 1) := by decide +kernel
theorem dX12_routeOn_27 : decode cX12_routeOn 27 = .ok (.ixor, 1) := by decide +kernel
theorem dX12_routeOn_28 : decode cX12_routeOn 28 = .ok (.iand, 1) := by decide +kernel
theorem dX12_routeOn_29 : decode cX12_routeOn 29 = .ok (.istore 6, 2) := by decide +kernel
theorem dX12_routeOn_31 : decode cX12_routeOn 31 = .ok (.iconst 0, 1) := by decide +kernel
theorem dX12_routeOn_32 : decode cX12_routeOn 32 = .ok (.istore 7, 2) := by decide +kernel
theorem dX12_routeOn_34 : decode cX12_routeOn 34 = .ok (.iload 7, 2) := by decide +kernel
theorem dX12_routeOn_36 : decode cX12_routeOn 36 = .ok (.aload_n 0, 1) := by decide +kernel
theorem dX12_routeOn_37 : decode cX12_routeOn 37 = .ok (.getfield 136, 3) := by decide +kernel
theorem dX12_routeOn_40 : decode cX12_routeOn 40 = .ok (.if_icmp .ge 105, 3) := by decide +kernel
theorem dX12_routeOn_145 : decode cX12_routeOn 145 = .ok (.return_, 1) := by decide +kernel
theorem dX12_routeOn_43 : decode cX12_routeOn 43 = .ok (.iload 6, 2) := by decide +kernel
theorem dX12_routeOn_45 : decode cX12_routeOn 45 = .ok (.iload 7, 2) := by decide +kernel
theorem dX12_routeOn_47 : decode cX12_routeOn 47 = .ok (.invokestatic 157, 3) := by decide +kernel
theorem dX12_routeOn_50 : decode cX12_routeOn 50 = .ok (.ifCond .eq 89, 3) := by decide +kernel
theorem dX12_routeOn_139 : decode cX12_routeOn 139 = .ok (.iinc 7 1, 3) := by decide +kernel
theorem dX12_routeOn_142 : decode cX12_routeOn 142 = .ok (.goto (-108), 3) := by decide +kernel
theorem dX12_routeOn_53 : decode cX12_routeOn 53 = .ok (.aload_n 0, 1) := by decide +kernel
theorem dX12_routeOn_54 : decode cX12_routeOn 54 = .ok (.getfield 241, 3) := by decide +kernel
theorem dX12_routeOn_57 : decode cX12_routeOn 57 = .ok (.ifCond .eq 15, 3) := by decide +kernel
theorem dX12_routeOn_72 : decode cX12_routeOn 72 = .ok (.aload_n 0, 1) := by decide +kernel
theorem dX12_routeOn_73 : decode cX12_routeOn 73 = .ok (.getfield 55, 3) := by decide +kernel
theorem dX12_routeOn_76 : decode cX12_routeOn 76 = .ok (.iload_n 1, 1) := by decide +kernel
theorem dX12_routeOn_77 : decode cX12_routeOn 77 = .ok (.iload 7, 2) := by decide +kernel
theorem dX12_routeOn_79 : decode cX12_routeOn 79 = .ok (.iastore, 1) := by decide +kernel
theorem dX12_routeOn_80 : decode cX12_routeOn 80 = .ok (.iload 7, 2) := by decide +kernel
theorem dX12_routeOn_82 : decode cX12_routeOn 82 = .ok (.aload_n 0, 1) := by decide +kernel
theorem dX12_routeOn_83 : decode cX12_routeOn 83 = .ok (.getfield 245, 3) := by decide +kernel
theorem dX12_routeOn_86 : decode cX12_routeOn 86 = .ok (.if_icmp .ne 27, 3) := by decide +kernel
theorem dX12_routeOn_113 : decode cX12_routeOn 113 = .ok (.aload_n 0, 1) := by decide +kernel
theorem dX12_routeOn_114 : decode cX12_routeOn 114 = .ok (.getfield 28, 3) := by decide +kernel
theorem dX12_routeOn_117 : decode cX12_routeOn 117 = .ok (.iload 7, 2) := by decide +kernel
theorem dX12_routeOn_119 : decode cX12_routeOn 119 = .ok (.iaload, 1) := by decide +kernel
theorem dX12_routeOn_120 : decode cX12_routeOn 120 = .ok (.iconst 3, 1) := by decide +kernel
theorem dX12_routeOn_121 : decode cX12_routeOn 121 = .ok (.if_icmp .eq 18, 3) := by decide +kernel
theorem dX12_routeOn_124 : decode cX12_routeOn 124 = .ok (.aload_n 0, 1) := by decide +kernel
theorem dX12_routeOn_125 : decode cX12_routeOn 125 = .ok (.iload_n 1, 1) := by decide +kernel
theorem dX12_routeOn_126 : decode cX12_routeOn 126 = .ok (.iconst 1, 1) := by decide +kernel
theorem dX12_routeOn_127 : decode cX12_routeOn 127 = .ok (.iadd, 1) := by decide +kernel
theorem dX12_routeOn_128 : decode cX12_routeOn 128 = .ok (.iload_n 2, 1) := by decide +kernel
theorem dX12_routeOn_129 : decode cX12_routeOn 129 = .ok (.iconst 1, 1) := by decide +kernel
theorem dX12_routeOn_130 : decode cX12_routeOn 130 = .ok (.iload 7, 2) := by decide +kernel
theorem dX12_routeOn_132 : decode cX12_routeOn 132 = .ok (.ishl, 1) := by decide +kernel
theorem dX12_routeOn_133 : decode cX12_routeOn 133 = .ok (.ior, 1) := by decide +kernel
theorem dX12_routeOn_134 : decode cX12_routeOn 134 = .ok (.iload 5, 2) := by decide +kernel
theorem dX12_routeOn_136 : decode cX12_routeOn 136 = .ok (.invokevirtual 251, 3) := by decide +kernel
theorem dX12_routeOn_89 : decode cX12_routeOn 89 = .ok (.aload_n 0, 1) := by decide +kernel
theorem dX12_routeOn_90 : decode cX12_routeOn 90 = .ok (.iload_n 1, 1) := by decide +kernel
theorem dX12_routeOn_91 : decode cX12_routeOn 91 = .ok (.iconst 1, 1) := by decide +kernel
theorem dX12_routeOn_92 : decode cX12_routeOn 92 = .ok (.iadd, 1) := by decide +kernel
theorem dX12_routeOn_93 : decode cX12_routeOn 93 = .ok (.iload_n 2, 1) := by decide +kernel
theorem dX12_routeOn_94 : decode cX12_routeOn 94 = .ok (.iconst 1, 1) := by decide +kernel
theorem dX12_routeOn_95 : decode cX12_routeOn 95 = .ok (.aload_n 0, 1) := by decide +kernel
theorem dX12_routeOn_96 : decode cX12_routeOn 96 = .ok (.getfield 55, 3) := by decide +kernel
theorem dX12_routeOn_99 : decode cX12_routeOn 99 = .ok (.iconst 0, 1) := by decide +kernel
theorem dX12_routeOn_100 : decode cX12_routeOn 100 = .ok (.iaload, 1) := by decide +kernel
theorem dX12_routeOn_101 : decode cX12_routeOn 101 = .ok (.ishl, 1) := by decide +kernel
theorem dX12_routeOn_102 : decode cX12_routeOn 102 = .ok (.iconst (-1), 1) := by decide +kernel
theorem dX12_routeOn_103 : decode cX12_routeOn 103 = .ok (.ixor, 1) := by decide +kernel
theorem dX12_routeOn_104 : decode cX12_routeOn 104 = .ok (.iand, 1) := by decide +kernel
theorem dX12_routeOn_105 : decode cX12_routeOn 105 = .ok (.iload 5, 2) := by decide +kernel
theorem dX12_routeOn_107 : decode cX12_routeOn 107 = .ok (.invokevirtual 248, 3) := by decide +kernel
theorem dX12_routeOn_110 : decode cX12_routeOn 110 = .ok (.goto 29, 3) := by decide +kernel
theorem dX12_routeOn_60 : decode cX12_routeOn 60 = .ok (.aload_n 0, 1) := by decide +kernel
theorem dX12_routeOn_61 : decode cX12_routeOn 61 = .ok (.getfield 31, 3) := by decide +kernel
theorem dX12_routeOn_64 : decode cX12_routeOn 64 = .ok (.iload 7, 2) := by decide +kernel
theorem dX12_routeOn_66 : decode cX12_routeOn 66 = .ok (.iaload, 1) := by decide +kernel
theorem dX12_routeOn_67 : decode cX12_routeOn 67 = .ok (.iload 5, 2) := by decide +kernel
theorem dX12_routeOn_69 : decode cX12_routeOn 69 = .ok (.if_icmp .lt 70, 3) := by decide +kernel
