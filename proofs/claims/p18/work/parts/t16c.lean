theorem dX12_undo_0 : decode cX12_undo 0 = .ok (.iload_n 1, 1) := by decide +kernel
theorem dX12_undo_1 : decode cX12_undo 1 = .ok (.iconst 0, 1) := by decide +kernel
theorem dX12_undo_2 : decode cX12_undo 2 = .ok (.aload_n 0, 1) := by decide +kernel
theorem dX12_undo_3 : decode cX12_undo 3 = .ok (.getfield 151, 3) := by decide +kernel
theorem dX12_undo_6 : decode cX12_undo 6 = .ok (.invokestatic 77, 3) := by decide +kernel
theorem dX12_undo_9 : decode cX12_undo 9 = .ok (.ifCond .ne 5, 3) := by decide +kernel
theorem dX12_undo_14 : decode cX12_undo 14 = .ok (.aload_n 0, 1) := by decide +kernel
theorem dX12_undo_15 : decode cX12_undo 15 = .ok (.getfield 151, 3) := by decide +kernel
theorem dX12_undo_18 : decode cX12_undo 18 = .ok (.iload_n 1, 1) := by decide +kernel
theorem dX12_undo_19 : decode cX12_undo 19 = .ok (.isub, 1) := by decide +kernel
theorem dX12_undo_20 : decode cX12_undo 20 = .ok (.istore_n 2, 1) := by decide +kernel
theorem dX12_undo_21 : decode cX12_undo 21 = .ok (.aload_n 0, 1) := by decide +kernel
theorem dX12_undo_22 : decode cX12_undo 22 = .ok (.getfield 151, 3) := by decide +kernel
theorem dX12_undo_25 : decode cX12_undo 25 = .ok (.iconst 1, 1) := by decide +kernel
theorem dX12_undo_26 : decode cX12_undo 26 = .ok (.isub, 1) := by decide +kernel
theorem dX12_undo_27 : decode cX12_undo 27 = .ok (.istore_n 3, 1) := by decide +kernel
theorem dX12_undo_28 : decode cX12_undo 28 = .ok (.iload_n 3, 1) := by decide +kernel
theorem dX12_undo_29 : decode cX12_undo 29 = .ok (.iload_n 1, 1) := by decide +kernel
theorem dX12_undo_30 : decode cX12_undo 30 = .ok (.if_icmp .lt 136, 3) := by decide +kernel
theorem dX12_undo_166 : decode cX12_undo 166 = .ok (.aload_n 0, 1) := by decide +kernel
theorem dX12_undo_167 : decode cX12_undo 167 = .ok (.iload_n 1, 1) := by decide +kernel
theorem dX12_undo_168 : decode cX12_undo 168 = .ok (.putfield 151, 3) := by decide +kernel
theorem dX12_undo_171 : decode cX12_undo 171 = .ok (.iload_n 2, 1) := by decide +kernel
theorem dX12_undo_172 : decode cX12_undo 172 = .ok (.ireturn, 1) := by decide +kernel
theorem dX12_undo_33 : decode cX12_undo 33 = .ok (.bipush 12, 2) := by decide +kernel
theorem dX12_undo_35 : decode cX12_undo 35 = .ok (.iload_n 3, 1) := by decide +kernel
theorem dX12_undo_36 : decode cX12_undo 36 = .ok (.imul, 1) := by decide +kernel
theorem dX12_undo_37 : decode cX12_undo 37 = .ok (.istore 4, 2) := by decide +kernel
theorem dX12_undo_39 : decode cX12_undo 39 = .ok (.aload_n 0, 1) := by decide +kernel
theorem dX12_undo_40 : decode cX12_undo 40 = .ok (.getfield 49, 3) := by decide +kernel
theorem dX12_undo_43 : decode cX12_undo 43 = .ok (.iload 4, 2) := by decide +kernel
theorem dX12_undo_45 : decode cX12_undo 45 = .ok (.iaload, 1) := by decide +kernel
theorem dX12_undo_46 : decode cX12_undo 46 = .ok (.istore 5, 2) := by decide +kernel
theorem dX12_undo_48 : decode cX12_undo 48 = .ok (.aload_n 0, 1) := by decide +kernel
theorem dX12_undo_49 : decode cX12_undo 49 = .ok (.iload 5, 2) := by decide +kernel
theorem dX12_undo_51 : decode cX12_undo 51 = .ok (.iconst 5, 1) := by decide +kernel
theorem dX12_undo_52 : decode cX12_undo 52 = .ok (.aload_n 0, 1) := by decide +kernel
theorem dX12_undo_53 : decode cX12_undo 53 = .ok (.getfield 49, 3) := by decide +kernel
theorem dX12_undo_56 : decode cX12_undo 56 = .ok (.iload 4, 2) := by decide +kernel
theorem dX12_undo_58 : decode cX12_undo 58 = .ok (.iconst 1, 1) := by decide +kernel
theorem dX12_undo_59 : decode cX12_undo 59 = .ok (.iadd, 1) := by decide +kernel
theorem dX12_undo_60 : decode cX12_undo 60 = .ok (.iaload, 1) := by decide +kernel
theorem dX12_undo_61 : decode cX12_undo 61 = .ok (.invokevirtual 188, 3) := by decide +kernel
theorem dX12_undo_64 : decode cX12_undo 64 = .ok (.aload_n 0, 1) := by decide +kernel
theorem dX12_undo_65 : decode cX12_undo 65 = .ok (.iload 5, 2) := by decide +kernel
theorem dX12_undo_67 : decode cX12_undo 67 = .ok (.bipush 6, 2) := by decide +kernel
theorem dX12_undo_69 : decode cX12_undo 69 = .ok (.aload_n 0, 1) := by decide +kernel
theorem dX12_undo_70 : decode cX12_undo 70 = .ok (.getfield 49, 3) := by decide +kernel
theorem dX12_undo_73 : decode cX12_undo 73 = .ok (.iload 4, 2) := by decide +kernel
theorem dX12_undo_75 : decode cX12_undo 75 = .ok (.iconst 2, 1) := by decide +kernel
theorem dX12_undo_76 : decode cX12_undo 76 = .ok (.iadd, 1) := by decide +kernel
theorem dX12_undo_77 : decode cX12_undo 77 = .ok (.iaload, 1) := by decide +kernel
theorem dX12_undo_78 : decode cX12_undo 78 = .ok (.invokevirtual 188, 3) := by decide +kernel
theorem dX12_undo_81 : decode cX12_undo 81 = .ok (.aload_n 0, 1) := by decide +kernel
theorem dX12_undo_82 : decode cX12_undo 82 = .ok (.iload 5, 2) := by decide +kernel
theorem dX12_undo_84 : decode cX12_undo 84 = .ok (.bipush 8, 2) := by decide +kernel
theorem dX12_undo_86 : decode cX12_undo 86 = .ok (.aload_n 0, 1) := by decide +kernel
theorem dX12_undo_87 : decode cX12_undo 87 = .ok (.getfield 49, 3) := by decide +kernel
theorem dX12_undo_90 : decode cX12_undo 90 = .ok (.iload 4, 2) := by decide +kernel
theorem dX12_undo_92 : decode cX12_undo 92 = .ok (.iconst 3, 1) := by decide +kernel
theorem dX12_undo_93 : decode cX12_undo 93 = .ok (.iadd, 1) := by decide +kernel
theorem dX12_undo_94 : decode cX12_undo 94 = .ok (.iaload, 1) := by decide +kernel
theorem dX12_undo_95 : decode cX12_undo 95 = .ok (.invokevirtual 188, 3) := by decide +kernel
theorem dX12_undo_98 : decode cX12_undo 98 = .ok (.aload_n 0, 1) := by decide +kernel
theorem dX12_undo_99 : decode cX12_undo 99 = .ok (.iload 5, 2) := by decide +kernel
theorem dX12_undo_101 : decode cX12_undo 101 = .ok (.bipush 7, 2) := by decide +kernel
theorem dX12_undo_103 : decode cX12_undo 103 = .ok (.aload_n 0, 1) := by decide +kernel
theorem dX12_undo_104 : decode cX12_undo 104 = .ok (.iload 5, 2) := by decide +kernel
theorem dX12_undo_106 : decode cX12_undo 106 = .ok (.bipush 7, 2) := by decide +kernel
theorem dX12_undo_108 : decode cX12_undo 108 = .ok (.invokevirtual 161, 3) := by decide +kernel
theorem dX12_undo_111 : decode cX12_undo 111 = .ok (.iconst 1, 1) := by decide +kernel
theorem dX12_undo_112 : decode cX12_undo 112 = .ok (.isub, 1) := by decide +kernel
theorem dX12_undo_113 : decode cX12_undo 113 = .ok (.invokevirtual 188, 3) := by decide +kernel
theorem dX12_undo_116 : decode cX12_undo 116 = .ok (.aload_n 0, 1) := by decide +kernel
theorem dX12_undo_117 : decode cX12_undo 117 = .ok (.iload 5, 2) := by decide +kernel
theorem dX12_undo_119 : decode cX12_undo 119 = .ok (.bipush 9, 2) := by decide +kernel
theorem dX12_undo_121 : decode cX12_undo 121 = .ok (.iconst 0, 1) := by decide +kernel
theorem dX12_undo_122 : decode cX12_undo 122 = .ok (.invokevirtual 188, 3) := by decide +kernel
theorem dX12_undo_125 : decode cX12_undo 125 = .ok (.iconst 0, 1) := by decide +kernel
theorem dX12_undo_126 : decode cX12_undo 126 = .ok (.istore 6, 2) := by decide +kernel
theorem dX12_undo_128 : decode cX12_undo 128 = .ok (.iload 6, 2) := by decide +kernel
theorem dX12_undo_130 : decode cX12_undo 130 = .ok (.bipush 7, 2) := by decide +kernel
theorem dX12_undo_132 : decode cX12_undo 132 = .ok (.if_icmp .ge 28, 3) := by decide +kernel
theorem dX12_undo_160 : decode cX12_undo 160 = .ok (.iinc 3 (-1), 3) := by decide +kernel
theorem dX12_undo_163 : decode cX12_undo 163 = .ok (.goto (-135), 3) := by decide +kernel
theorem dX12_undo_135 : decode cX12_undo 135 = .ok (.aload_n 0, 1) := by decide +kernel
theorem dX12_undo_136 : decode cX12_undo 136 = .ok (.getfield 31, 3) := by decide +kernel
theorem dX12_undo_139 : decode cX12_undo 139 = .ok (.iload 6, 2) := by decide +kernel
theorem dX12_undo_141 : decode cX12_undo 141 = .ok (.aload_n 0, 1) := by decide +kernel
theorem dX12_undo_142 : decode cX12_undo 142 = .ok (.getfield 49, 3) := by decide +kernel
theorem dX12_undo_145 : decode cX12_undo 145 = .ok (.iload 4, 2) := by decide +kernel
theorem dX12_undo_147 : decode cX12_undo 147 = .ok (.iconst 5, 1) := by decide +kernel
theorem dX12_undo_148 : decode cX12_undo 148 = .ok (.iadd, 1) := by decide +kernel
theorem dX12_undo_149 : decode cX12_undo 149 = .ok (.iload 6, 2) := by decide +kernel
theorem dX12_undo_151 : decode cX12_undo 151 = .ok (.iadd, 1) := by decide +kernel
theorem dX12_undo_152 : decode cX12_undo 152 = .ok (.iaload, 1) := by decide +kernel
theorem dX12_undo_153 : decode cX12_undo 153 = .ok (.iastore, 1) := by decide +kernel
theorem dX12_undo_154 : decode cX12_undo 154 = .ok (.iinc 6 1, 3) := by decide +kernel
theorem dX12_undo_157 : decode cX12_undo 157 = .ok (.goto (-29), 3) := by decide +kernel
theorem dX12_undo_12 : decode cX12_undo 12 = .ok (.iconst (-1), 1) := by decide +kernel
theorem dX12_undo_13 : decode cX12_undo 13 = .ok (.ireturn, 1) := by decide +kernel
theorem dX12_keep_0 : decode cX12_keep 0 = .ok (.iload_n 1, 1) := by decide +kernel
theorem dX12_keep_1 : decode cX12_keep 1 = .ok (.iconst 0, 1) := by decide +kernel
theorem dX12_keep_2 : decode cX12_keep 2 = .ok (.iconst 2, 1) := by decide +kernel
theorem dX12_keep_3 : decode cX12_keep 3 = .ok (.invokestatic 77, 3) := by decide +kernel
theorem dX12_keep_6 : decode cX12_keep 6 = .ok (.ifCond .ne 5, 3) := by decide +kernel
theorem dX12_keep_11 : decode cX12_keep 11 = .ok (.aload_n 0, 1) := by decide +kernel
theorem dX12_keep_12 : decode cX12_keep 12 = .ok (.getfield 136, 3) := by decide +kernel
theorem dX12_keep_15 : decode cX12_keep 15 = .ok (.ifCond .ne 6, 3) := by decide +kernel
theorem dX12_keep_21 : decode cX12_keep 21 = .ok (.bipush 64, 2) := by decide +kernel
theorem dX12_keep_23 : decode cX12_keep 23 = .ok (.iload_n 1, 1) := by decide +kernel
theorem dX12_keep_24 : decode cX12_keep 24 = .ok (.imul, 1) := by decide +kernel
theorem dX12_keep_25 : decode cX12_keep 25 = .ok (.istore_n 2, 1) := by decide +kernel
theorem dX12_keep_26 : decode cX12_keep 26 = .ok (.aload_n 0, 1) := by decide +kernel
theorem dX12_keep_27 : decode cX12_keep 27 = .ok (.getfield 52, 3) := by decide +kernel
theorem dX12_keep_30 : decode cX12_keep 30 = .ok (.iload_n 2, 1) := by decide +kernel
theorem dX12_keep_31 : decode cX12_keep 31 = .ok (.aload_n 0, 1) := by decide +kernel
theorem dX12_keep_32 : decode cX12_keep 32 = .ok (.getfield 145, 3) := by decide +kernel
theorem dX12_keep_35 : decode cX12_keep 35 = .ok (.iastore, 1) := by decide +kernel
theorem dX12_keep_36 : decode cX12_keep 36 = .ok (.aload_n 0, 1) := by decide +kernel
theorem dX12_keep_37 : decode cX12_keep 37 = .ok (.getfield 52, 3) := by decide +kernel
theorem dX12_keep_40 : decode cX12_keep 40 = .ok (.iload_n 2, 1) := by decide +kernel
theorem dX12_keep_41 : decode cX12_keep 41 = .ok (.iconst 1, 1) := by decide +kernel
theorem dX12_keep_42 : decode cX12_keep 42 = .ok (.iadd, 1) := by decide +kernel
theorem dX12_keep_43 : decode cX12_keep 43 = .ok (.aload_n 0, 1) := by decide +kernel
theorem dX12_keep_44 : decode cX12_keep 44 = .ok (.getfield 142, 3) := by decide +kernel
theorem dX12_keep_47 : decode cX12_keep 47 = .ok (.iastore, 1) := by decide +kernel
theorem dX12_keep_48 : decode cX12_keep 48 = .ok (.aload_n 0, 1) := by decide +kernel
theorem dX12_keep_49 : decode cX12_keep 49 = .ok (.getfield 52, 3) := by decide +kernel
theorem dX12_keep_52 : decode cX12_keep 52 = .ok (.iload_n 2, 1) := by decide +kernel
theorem dX12_keep_53 : decode cX12_keep 53 = .ok (.iconst 2, 1) := by decide +kernel
theorem dX12_keep_54 : decode cX12_keep 54 = .ok (.iadd, 1) := by decide +kernel
theorem dX12_keep_55 : decode cX12_keep 55 = .ok (.aload_n 0, 1) := by decide +kernel
theorem dX12_keep_56 : decode cX12_keep 56 = .ok (.getfield 148, 3) := by decide +kernel
theorem dX12_keep_59 : decode cX12_keep 59 = .ok (.iastore, 1) := by decide +kernel
theorem dX12_keep_60 : decode cX12_keep 60 = .ok (.iconst 0, 1) := by decide +kernel
theorem dX12_keep_61 : decode cX12_keep 61 = .ok (.istore_n 3, 1) := by decide +kernel
theorem dX12_keep_62 : decode cX12_keep 62 = .ok (.iload_n 3, 1) := by decide +kernel
theorem dX12_keep_63 : decode cX12_keep 63 = .ok (.bipush 7, 2) := by decide +kernel
theorem dX12_keep_65 : decode cX12_keep 65 = .ok (.if_icmp .ge 25, 3) := by decide +kernel
theorem dX12_keep_90 : decode cX12_keep 90 = .ok (.iconst 0, 1) := by decide +kernel
theorem dX12_keep_91 : decode cX12_keep 91 = .ok (.istore_n 3, 1) := by decide +kernel
theorem dX12_keep_92 : decode cX12_keep 92 = .ok (.iload_n 3, 1) := by decide +kernel
theorem dX12_keep_93 : decode cX12_keep 93 = .ok (.bipush 40, 2) := by decide +kernel
theorem dX12_keep_95 : decode cX12_keep 95 = .ok (.if_icmp .ge 26, 3) := by decide +kernel
theorem dX12_keep_121 : decode cX12_keep 121 = .ok (.aload_n 0, 1) := by decide +kernel
theorem dX12_keep_122 : decode cX12_keep 122 = .ok (.getfield 145, 3) := by decide +kernel
theorem dX12_keep_125 : decode cX12_keep 125 = .ok (.ireturn, 1) := by decide +kernel
theorem dX12_keep_98 : decode cX12_keep 98 = .ok (.aload_n 0, 1) := by decide +kernel
theorem dX12_keep_99 : decode cX12_keep 99 = .ok (.getfield 52, 3) := by decide +kernel
theorem dX12_keep_102 : decode cX12_keep 102 = .ok (.iload_n 2, 1) := by decide +kernel
theorem dX12_keep_103 : decode cX12_keep 103 = .ok (.bipush 10, 2) := by decide +kernel
theorem dX12_keep_105 : decode cX12_keep 105 = .ok (.iadd, 1) := by decide +kernel
theorem dX12_keep_106 : decode cX12_keep 106 = .ok (.iload_n 3, 1) := by decide +kernel
theorem dX12_keep_107 : decode cX12_keep 107 = .ok (.iadd, 1) := by decide +kernel
theorem dX12_keep_108 : decode cX12_keep 108 = .ok (.aload_n 0, 1) := by decide +kernel
theorem dX12_keep_109 : decode cX12_keep 109 = .ok (.getfield 37, 3) := by decide +kernel
theorem dX12_keep_112 : decode cX12_keep 112 = .ok (.iload_n 3, 1) := by decide +kernel
theorem dX12_keep_113 : decode cX12_keep 113 = .ok (.iaload, 1) := by decide +kernel
theorem dX12_keep_114 : decode cX12_keep 114 = .ok (.iastore, 1) := by decide +kernel
theorem dX12_keep_115 : decode cX12_keep 115 = .ok (.iinc 3 1, 3) := by decide +kernel
theorem dX12_keep_118 : decode cX12_keep 118 = .ok (.goto (-26), 3) := by decide +kernel
theorem dX12_keep_68 : decode cX12_keep 68 = .ok (.aload_n 0, 1) := by decide +kernel
theorem dX12_keep_69 : decode cX12_keep 69 = .ok (.getfield 52, 3) := by decide +kernel
theorem dX12_keep_72 : decode cX12_keep 72 = .ok (.iload_n 2, 1) := by decide +kernel
theorem dX12_keep_73 : decode cX12_keep 73 = .ok (.iconst 3, 1) := by decide +kernel
theorem dX12_keep_74 : decode cX12_keep 74 = .ok (.iadd, 1) := by decide +kernel
theorem dX12_keep_75 : decode cX12_keep 75 = .ok (.iload_n 3, 1) := by decide +kernel
theorem dX12_keep_76 : decode cX12_keep 76 = .ok (.iadd, 1) := by decide +kernel
theorem dX12_keep_77 : decode cX12_keep 77 = .ok (.aload_n 0, 1) := by decide +kernel
theorem dX12_keep_78 : decode cX12_keep 78 = .ok (.getfield 31, 3) := by decide +kernel
theorem dX12_keep_81 : decode cX12_keep 81 = .ok (.iload_n 3, 1) := by decide +kernel
theorem dX12_keep_82 : decode cX12_keep 82 = .ok (.iaload, 1) := by decide +kernel
theorem dX12_keep_83 : decode cX12_keep 83 = .ok (.iastore, 1) := by decide +kernel
theorem dX12_keep_84 : decode cX12_keep 84 = .ok (.iinc 3 1, 3) := by decide +kernel
theorem dX12_keep_87 : decode cX12_keep 87 = .ok (.goto (-25), 3) := by decide +kernel
theorem dX12_keep_18 : decode cX12_keep 18 = .ok (.bipush (-4), 2) := by decide +kernel
theorem dX12_keep_20 : decode cX12_keep 20 = .ok (.ireturn, 1) := by decide +kernel
theorem dX12_keep_9 : decode cX12_keep 9 = .ok (.iconst (-1), 1) := by decide +kernel
theorem dX12_keep_10 : decode cX12_keep 10 = .ok (.ireturn, 1) := by decide +kernel
theorem dX12_on_0 : decode cX12_on 0 = .ok (.iload_n 1, 1) := by decide +kernel
theorem dX12_on_1 : decode cX12_on 1 = .ok (.iconst 0, 1) := by decide +kernel
theorem dX12_on_2 : decode cX12_on 2 = .ok (.iconst 2, 1) := by decide +kernel
theorem dX12_on_3 : decode cX12_on 3 = .ok (.invokestatic 77, 3) := by decide +kernel
theorem dX12_on_6 : decode cX12_on 6 = .ok (.ifCond .ne 5, 3) := by decide +kernel
theorem dX12_on_11 : decode cX12_on 11 = .ok (.bipush 64, 2) := by decide +kernel
theorem dX12_on_13 : decode cX12_on 13 = .ok (.iload_n 1, 1) := by decide +kernel
theorem dX12_on_14 : decode cX12_on 14 = .ok (.imul, 1) := by decide +kernel
theorem dX12_on_15 : decode cX12_on 15 = .ok (.istore_n 2, 1) := by decide +kernel
theorem dX12_on_16 : decode cX12_on 16 = .ok (.aload_n 0, 1) := by decide +kernel
theorem dX12_on_17 : decode cX12_on 17 = .ok (.getfield 52, 3) := by decide +kernel
theorem dX12_on_20 : decode cX12_on 20 = .ok (.iload_n 2, 1) := by decide +kernel
theorem dX12_on_21 : decode cX12_on 21 = .ok (.iaload, 1) := by decide +kernel
theorem dX12_on_22 : decode cX12_on 22 = .ok (.bipush (-9), 2) := by decide +kernel
theorem dX12_on_24 : decode cX12_on 24 = .ok (.if_icmp .ne 9, 3) := by decide +kernel
theorem dX12_on_33 : decode cX12_on 33 = .ok (.aload_n 0, 1) := by decide +kernel
theorem dX12_on_34 : decode cX12_on 34 = .ok (.aload_n 0, 1) := by decide +kernel
theorem dX12_on_35 : decode cX12_on 35 = .ok (.getfield 52, 3) := by decide +kernel
theorem dX12_on_38 : decode cX12_on 38 = .ok (.iload_n 2, 1) := by decide +kernel
theorem dX12_on_39 : decode cX12_on 39 = .ok (.iaload, 1) := by decide +kernel
theorem dX12_on_40 : decode cX12_on 40 = .ok (.putfield 145, 3) := by decide +kernel
theorem dX12_on_43 : decode cX12_on 43 = .ok (.aload_n 0, 1) := by decide +kernel
theorem dX12_on_44 : decode cX12_on 44 = .ok (.aload_n 0, 1) := by decide +kernel
theorem dX12_on_45 : decode cX12_on 45 = .ok (.getfield 52, 3) := by decide +kernel
theorem dX12_on_48 : decode cX12_on 48 = .ok (.iload_n 2, 1) := by decide +kernel
theorem dX12_on_49 : decode cX12_on 49 = .ok (.iconst 1, 1) := by decide +kernel
theorem dX12_on_50 : decode cX12_on 50 = .ok (.iadd, 1) := by decide +kernel
theorem dX12_on_51 : decode cX12_on 51 = .ok (.iaload, 1) := by decide +kernel
theorem dX12_on_52 : decode cX12_on 52 = .ok (.putfield 142, 3) := by decide +kernel
theorem dX12_on_55 : decode cX12_on 55 = .ok (.aload_n 0, 1) := by decide +kernel
theorem dX12_on_56 : decode cX12_on 56 = .ok (.aload_n 0, 1) := by decide +kernel
theorem dX12_on_57 : decode cX12_on 57 = .ok (.getfield 52, 3) := by decide +kernel
theorem dX12_on_60 : decode cX12_on 60 = .ok (.iload_n 2, 1) := by decide +kernel
theorem dX12_on_61 : decode cX12_on 61 = .ok (.iconst 2, 1) := by decide +kernel
theorem dX12_on_62 : decode cX12_on 62 = .ok (.iadd, 1) := by decide +kernel
theorem dX12_on_63 : decode cX12_on 63 = .ok (.iaload, 1) := by decide +kernel
theorem dX12_on_64 : decode cX12_on 64 = .ok (.putfield 148, 3) := by decide +kernel
theorem dX12_on_67 : decode cX12_on 67 = .ok (.iconst 0, 1) := by decide +kernel
theorem dX12_on_68 : decode cX12_on 68 = .ok (.istore_n 3, 1) := by decide +kernel
theorem dX12_on_69 : decode cX12_on 69 = .ok (.iload_n 3, 1) := by decide +kernel
theorem dX12_on_70 : decode cX12_on 70 = .ok (.bipush 7, 2) := by decide +kernel
theorem dX12_on_72 : decode cX12_on 72 = .ok (.if_icmp .ge 25, 3) := by decide +kernel
theorem dX12_on_97 : decode cX12_on 97 = .ok (.iconst 0, 1) := by decide +kernel
theorem dX12_on_98 : decode cX12_on 98 = .ok (.istore_n 3, 1) := by decide +kernel
theorem dX12_on_99 : decode cX12_on 99 = .ok (.iload_n 3, 1) := by decide +kernel
theorem dX12_on_100 : decode cX12_on 100 = .ok (.bipush 40, 2) := by decide +kernel
theorem dX12_on_102 : decode cX12_on 102 = .ok (.if_icmp .ge 26, 3) := by decide +kernel
theorem dX12_on_128 : decode cX12_on 128 = .ok (.aload_n 0, 1) := by decide +kernel
theorem dX12_on_129 : decode cX12_on 129 = .ok (.iconst 0, 1) := by decide +kernel
theorem dX12_on_130 : decode cX12_on 130 = .ok (.putfield 151, 3) := by decide +kernel
theorem dX12_on_133 : decode cX12_on 133 = .ok (.aload_n 0, 1) := by decide +kernel
theorem dX12_on_134 : decode cX12_on 134 = .ok (.getfield 145, 3) := by decide +kernel
theorem dX12_on_137 : decode cX12_on 137 = .ok (.ireturn, 1) := by decide +kernel
theorem dX12_on_105 : decode cX12_on 105 = .ok (.aload_n 0, 1) := by decide +kernel
theorem dX12_on_106 : decode cX12_on 106 = .ok (.getfield 37, 3) := by decide +kernel
theorem dX12_on_109 : decode cX12_on 109 = .ok (.iload_n 3, 1) := by decide +kernel
theorem dX12_on_110 : decode cX12_on 110 = .ok (.aload_n 0, 1) := by decide +kernel
theorem dX12_on_111 : decode cX12_on 111 = .ok (.getfield 52, 3) := by decide +kernel
theorem dX12_on_114 : decode cX12_on 114 = .ok (.iload_n 2, 1) := by decide +kernel
theorem dX12_on_115 : decode cX12_on 115 = .ok (.bipush 10, 2) := by decide +kernel
theorem dX12_on_117 : decode cX12_on 117 = .ok (.iadd, 1) := by decide +kernel
theorem dX12_on_118 : decode cX12_on 118 = .ok (.iload_n 3, 1) := by decide +kernel
theorem dX12_on_119 : decode cX12_on 119 = .ok (.iadd, 1) := by decide +kernel
theorem dX12_on_120 : decode cX12_on 120 = .ok (.iaload, 1) := by decide +kernel
theorem dX12_on_121 : decode cX12_on 121 = .ok (.iastore, 1) := by decide +kernel
theorem dX12_on_122 : decode cX12_on 122 = .ok (.iinc 3 1, 3) := by decide +kernel
theorem dX12_on_125 : decode cX12_on 125 = .ok (.goto (-26), 3) := by decide +kernel
theorem dX12_on_75 : decode cX12_on 75 = .ok (.aload_n 0, 1) := by decide +kernel
theorem dX12_on_76 : decode cX12_on 76 = .ok (.getfield 31, 3) := by decide +kernel
theorem dX12_on_79 : decode cX12_on 79 = .ok (.iload_n 3, 1) := by decide +kernel
theorem dX12_on_80 : decode cX12_on 80 = .ok (.aload_n 0, 1) := by decide +kernel
theorem dX12_on_81 : decode cX12_on 81 = .ok (.getfield 52, 3) := by decide +kernel
theorem dX12_on_84 : decode cX12_on 84 = .ok (.iload_n 2, 1) := by decide +kernel
theorem dX12_on_85 : decode cX12_on 85 = .ok (.iconst 3, 1) := by decide +kernel
theorem dX12_on_86 : decode cX12_on 86 = .ok (.iadd, 1) := by decide +kernel
theorem dX12_on_87 : decode cX12_on 87 = .ok (.iload_n 3, 1) := by decide +kernel
theorem dX12_on_88 : decode cX12_on 88 = .ok (.iadd, 1) := by decide +kernel
theorem dX12_on_89 : decode cX12_on 89 = .ok (.iaload, 1) := by decide +kernel
theorem dX12_on_90 : decode cX12_on 90 = .ok (.iastore, 1) := by decide +kernel
theorem dX12_on_91 : decode cX12_on 91 = .ok (.iinc 3 1, 3) := by decide +kernel
theorem dX12_on_94 : decode cX12_on 94 = .ok (.goto (-25), 3) := by decide +kernel
theorem dX12_on_27 : decode cX12_on 27 = .ok (.aload_n 0, 1) := by decide +kernel
theorem dX12_on_28 : decode cX12_on 28 = .ok (.iconst 1, 1) := by decide +kernel
theorem dX12_on_29 : decode cX12_on 29 = .ok (.invokevirtual 85, 3) := by decide +kernel
theorem dX12_on_32 : decode cX12_on 32 = .ok (.ireturn, 1) := by decide +kernel
theorem dX12_on_9 : decode cX12_on 9 = .ok (.iconst (-1), 1) := by decide +kernel
theorem dX12_on_10 : decode cX12_on 10 = .ok (.ireturn, 1) := by decide +kernel
