theorem dX2_enterSale_0 : decode cX2_enterSale 0 = .ok (.aload_n 1, 1) := by decide +kernel
theorem dX2_enterSale_1 : decode cX2_enterSale 1 = .ok (.getfield 22, 3) := by decide +kernel
theorem dX2_enterSale_4 : decode cX2_enterSale 4 = .ok (.getfield 28, 3) := by decide +kernel
theorem dX2_enterSale_7 : decode cX2_enterSale 7 = .ok (.iload_n 2, 1) := by decide +kernel
theorem dX2_enterSale_8 : decode cX2_enterSale 8 = .ok (.aaload, 1) := by decide +kernel
theorem dX2_enterSale_9 : decode cX2_enterSale 9 = .ok (.astore 4, 2) := by decide +kernel
theorem dX2_enterSale_11 : decode cX2_enterSale 11 = .ok (.aload_n 1, 1) := by decide +kernel
theorem dX2_enterSale_12 : decode cX2_enterSale 12 = .ok (.aload 4, 2) := by decide +kernel
theorem dX2_enterSale_14 : decode cX2_enterSale 14 = .ok (.invokevirtual 34, 3) := by decide +kernel
theorem dX2_enterSale_17 : decode cX2_enterSale 17 = .ok (.istore 5, 2) := by decide +kernel
theorem dX2_enterSale_19 : decode cX2_enterSale 19 = .ok (.aload_n 0, 1) := by decide +kernel
theorem dX2_enterSale_20 : decode cX2_enterSale 20 = .ok (.getfield 11, 3) := by decide +kernel
theorem dX2_enterSale_23 : decode cX2_enterSale 23 = .ok (.aload_n 0, 1) := by decide +kernel
theorem dX2_enterSale_24 : decode cX2_enterSale 24 = .ok (.getfield 18, 3) := by decide +kernel
theorem dX2_enterSale_27 : decode cX2_enterSale 27 = .ok (.aaload, 1) := by decide +kernel
theorem dX2_enterSale_28 : decode cX2_enterSale 28 = .ok (.astore 6, 2) := by decide +kernel
theorem dX2_enterSale_30 : decode cX2_enterSale 30 = .ok (.aload_n 1, 1) := by decide +kernel
theorem dX2_enterSale_31 : decode cX2_enterSale 31 = .ok (.getfield 22, 3) := by decide +kernel
theorem dX2_enterSale_34 : decode cX2_enterSale 34 = .ok (.getfield 38, 3) := by decide +kernel
theorem dX2_enterSale_37 : decode cX2_enterSale 37 = .ok (.iconst 0, 1) := by decide +kernel
theorem dX2_enterSale_38 : decode cX2_enterSale 38 = .ok (.aload 6, 2) := by decide +kernel
theorem dX2_enterSale_40 : decode cX2_enterSale 40 = .ok (.getfield 42, 3) := by decide +kernel
theorem dX2_enterSale_43 : decode cX2_enterSale 43 = .ok (.iconst 0, 1) := by decide +kernel
theorem dX2_enterSale_44 : decode cX2_enterSale 44 = .ok (.bipush 7, 2) := by decide +kernel
theorem dX2_enterSale_46 : decode cX2_enterSale 46 = .ok (.invokestatic 45, 3) := by decide +kernel
theorem dX2_enterSale_49 : decode cX2_enterSale 49 = .ok (.aload 6, 2) := by decide +kernel
theorem dX2_enterSale_51 : decode cX2_enterSale 51 = .ok (.iload_n 2, 1) := by decide +kernel
theorem dX2_enterSale_52 : decode cX2_enterSale 52 = .ok (.putfield 51, 3) := by decide +kernel
theorem dX2_enterSale_55 : decode cX2_enterSale 55 = .ok (.aload 6, 2) := by decide +kernel
theorem dX2_enterSale_57 : decode cX2_enterSale 57 = .ok (.aload 4, 2) := by decide +kernel
theorem dX2_enterSale_59 : decode cX2_enterSale 59 = .ok (.getfield 54, 3) := by decide +kernel
theorem dX2_enterSale_62 : decode cX2_enterSale 62 = .ok (.putfield 59, 3) := by decide +kernel
theorem dX2_enterSale_65 : decode cX2_enterSale 65 = .ok (.aload 6, 2) := by decide +kernel
theorem dX2_enterSale_67 : decode cX2_enterSale 67 = .ok (.iload_n 3, 1) := by decide +kernel
theorem dX2_enterSale_68 : decode cX2_enterSale 68 = .ok (.putfield 62, 3) := by decide +kernel
theorem dX2_enterSale_71 : decode cX2_enterSale 71 = .ok (.aload 6, 2) := by decide +kernel
theorem dX2_enterSale_73 : decode cX2_enterSale 73 = .ok (.iload 5, 2) := by decide +kernel
theorem dX2_enterSale_75 : decode cX2_enterSale 75 = .ok (.putfield 65, 3) := by decide +kernel
theorem dX2_enterSale_78 : decode cX2_enterSale 78 = .ok (.aload 6, 2) := by decide +kernel
theorem dX2_enterSale_80 : decode cX2_enterSale 80 = .ok (.aload 4, 2) := by decide +kernel
theorem dX2_enterSale_82 : decode cX2_enterSale 82 = .ok (.getfield 68, 3) := by decide +kernel
theorem dX2_enterSale_85 : decode cX2_enterSale 85 = .ok (.putfield 71, 3) := by decide +kernel
theorem dX2_enterSale_88 : decode cX2_enterSale 88 = .ok (.aload 6, 2) := by decide +kernel
theorem dX2_enterSale_90 : decode cX2_enterSale 90 = .ok (.aload 4, 2) := by decide +kernel
theorem dX2_enterSale_92 : decode cX2_enterSale 92 = .ok (.getfield 74, 3) := by decide +kernel
theorem dX2_enterSale_95 : decode cX2_enterSale 95 = .ok (.putfield 77, 3) := by decide +kernel
theorem dX2_enterSale_98 : decode cX2_enterSale 98 = .ok (.aload_n 0, 1) := by decide +kernel
theorem dX2_enterSale_99 : decode cX2_enterSale 99 = .ok (.dup, 1) := by decide +kernel
theorem dX2_enterSale_100 : decode cX2_enterSale 100 = .ok (.getfield 18, 3) := by decide +kernel
theorem dX2_enterSale_103 : decode cX2_enterSale 103 = .ok (.iconst 1, 1) := by decide +kernel
theorem dX2_enterSale_104 : decode cX2_enterSale 104 = .ok (.iadd, 1) := by decide +kernel
theorem dX2_enterSale_105 : decode cX2_enterSale 105 = .ok (.putfield 18, 3) := by decide +kernel
theorem dX2_enterSale_108 : decode cX2_enterSale 108 = .ok (.aload_n 1, 1) := by decide +kernel
theorem dX2_enterSale_109 : decode cX2_enterSale 109 = .ok (.getfield 22, 3) := by decide +kernel
theorem dX2_enterSale_112 : decode cX2_enterSale 112 = .ok (.getfield 38, 3) := by decide +kernel
theorem dX2_enterSale_115 : decode cX2_enterSale 115 = .ok (.iload_n 3, 1) := by decide +kernel
theorem dX2_enterSale_116 : decode cX2_enterSale 116 = .ok (.dup2, 1) := by decide +kernel
theorem dX2_enterSale_117 : decode cX2_enterSale 117 = .ok (.iaload, 1) := by decide +kernel
theorem dX2_enterSale_118 : decode cX2_enterSale 118 = .ok (.iload 5, 2) := by decide +kernel
theorem dX2_enterSale_120 : decode cX2_enterSale 120 = .ok (.isub, 1) := by decide +kernel
theorem dX2_enterSale_121 : decode cX2_enterSale 121 = .ok (.iastore, 1) := by decide +kernel
theorem dX2_enterSale_122 : decode cX2_enterSale 122 = .ok (.aload_n 1, 1) := by decide +kernel
theorem dX2_enterSale_123 : decode cX2_enterSale 123 = .ok (.getfield 22, 3) := by decide +kernel
theorem dX2_enterSale_126 : decode cX2_enterSale 126 = .ok (.getfield 38, 3) := by decide +kernel
theorem dX2_enterSale_129 : decode cX2_enterSale 129 = .ok (.aload 4, 2) := by decide +kernel
theorem dX2_enterSale_131 : decode cX2_enterSale 131 = .ok (.getfield 54, 3) := by decide +kernel
theorem dX2_enterSale_134 : decode cX2_enterSale 134 = .ok (.dup2, 1) := by decide +kernel
theorem dX2_enterSale_135 : decode cX2_enterSale 135 = .ok (.iaload, 1) := by decide +kernel
theorem dX2_enterSale_136 : decode cX2_enterSale 136 = .ok (.iload 5, 2) := by decide +kernel
theorem dX2_enterSale_138 : decode cX2_enterSale 138 = .ok (.iadd, 1) := by decide +kernel
theorem dX2_enterSale_139 : decode cX2_enterSale 139 = .ok (.iastore, 1) := by decide +kernel
theorem dX2_enterSale_140 : decode cX2_enterSale 140 = .ok (.aload 4, 2) := by decide +kernel
theorem dX2_enterSale_142 : decode cX2_enterSale 142 = .ok (.iload_n 3, 1) := by decide +kernel
theorem dX2_enterSale_143 : decode cX2_enterSale 143 = .ok (.putfield 54, 3) := by decide +kernel
theorem dX2_enterSale_146 : decode cX2_enterSale 146 = .ok (.aload 4, 2) := by decide +kernel
theorem dX2_enterSale_148 : decode cX2_enterSale 148 = .ok (.iload 5, 2) := by decide +kernel
theorem dX2_enterSale_150 : decode cX2_enterSale 150 = .ok (.putfield 68, 3) := by decide +kernel
theorem dX2_enterSale_153 : decode cX2_enterSale 153 = .ok (.aload 4, 2) := by decide +kernel
theorem dX2_enterSale_155 : decode cX2_enterSale 155 = .ok (.aload_n 1, 1) := by decide +kernel
theorem dX2_enterSale_156 : decode cX2_enterSale 156 = .ok (.getfield 22, 3) := by decide +kernel
theorem dX2_enterSale_159 : decode cX2_enterSale 159 = .ok (.getfield 80, 3) := by decide +kernel
theorem dX2_enterSale_162 : decode cX2_enterSale 162 = .ok (.putfield 74, 3) := by decide +kernel
theorem dX2_enterSale_165 : decode cX2_enterSale 165 = .ok (.aload 4, 2) := by decide +kernel
theorem dX2_enterSale_167 : decode cX2_enterSale 167 = .ok (.dup, 1) := by decide +kernel
theorem dX2_enterSale_168 : decode cX2_enterSale 168 = .ok (.getfield 83, 3) := by decide +kernel
theorem dX2_enterSale_171 : decode cX2_enterSale 171 = .ok (.iconst 1, 1) := by decide +kernel
theorem dX2_enterSale_172 : decode cX2_enterSale 172 = .ok (.iadd, 1) := by decide +kernel
theorem dX2_enterSale_173 : decode cX2_enterSale 173 = .ok (.putfield 83, 3) := by decide +kernel
theorem dX2_enterSale_176 : decode cX2_enterSale 176 = .ok (.aload 4, 2) := by decide +kernel
theorem dX2_enterSale_178 : decode cX2_enterSale 178 = .ok (.iload_n 3, 1) := by decide +kernel
theorem dX2_enterSale_179 : decode cX2_enterSale 179 = .ok (.aload 4, 2) := by decide +kernel
theorem dX2_enterSale_181 : decode cX2_enterSale 181 = .ok (.getfield 86, 3) := by decide +kernel
theorem dX2_enterSale_184 : decode cX2_enterSale 184 = .ok (.if_icmp .ne 7, 3) := by decide +kernel
theorem dX2_enterSale_191 : decode cX2_enterSale 191 = .ok (.iconst 0, 1) := by decide +kernel
theorem dX2_enterSale_192 : decode cX2_enterSale 192 = .ok (.putfield 89, 3) := by decide +kernel
theorem dX2_enterSale_195 : decode cX2_enterSale 195 = .ok (.iload 5, 2) := by decide +kernel
theorem dX2_enterSale_197 : decode cX2_enterSale 197 = .ok (.ireturn, 1) := by decide +kernel
theorem dX2_enterSale_187 : decode cX2_enterSale 187 = .ok (.iconst 1, 1) := by decide +kernel
theorem dX2_enterSale_188 : decode cX2_enterSale 188 = .ok (.goto 4, 3) := by decide +kernel
