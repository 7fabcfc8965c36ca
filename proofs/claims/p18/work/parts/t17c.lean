theorem dX12_copyRoute_0 : decode cX12_copyRoute 0 = .ok (.iconst 0, 1) := by decide +kernel
theorem dX12_copyRoute_1 : decode cX12_copyRoute 1 = .ok (.istore_n 3, 1) := by decide +kernel
theorem dX12_copyRoute_2 : decode cX12_copyRoute 2 = .ok (.iload_n 3, 1) := by decide +kernel
theorem dX12_copyRoute_3 : decode cX12_copyRoute 3 = .ok (.iload_n 2, 1) := by decide +kernel
theorem dX12_copyRoute_4 : decode cX12_copyRoute 4 = .ok (.if_icmp .ge 18, 3) := by decide +kernel
theorem dX12_copyRoute_22 : decode cX12_copyRoute 22 = .ok (.return_, 1) := by decide +kernel
theorem dX12_copyRoute_7 : decode cX12_copyRoute 7 = .ok (.aload_n 1, 1) := by decide +kernel
theorem dX12_copyRoute_8 : decode cX12_copyRoute 8 = .ok (.iload_n 3, 1) := by decide +kernel
theorem dX12_copyRoute_9 : decode cX12_copyRoute 9 = .ok (.aload_n 0, 1) := by decide +kernel
theorem dX12_copyRoute_10 : decode cX12_copyRoute 10 = .ok (.getfield 55, 3) := by decide +kernel
theorem dX12_copyRoute_13 : decode cX12_copyRoute 13 = .ok (.iload_n 3, 1) := by decide +kernel
theorem dX12_copyRoute_14 : decode cX12_copyRoute 14 = .ok (.iaload, 1) := by decide +kernel
theorem dX12_copyRoute_15 : decode cX12_copyRoute 15 = .ok (.iastore, 1) := by decide +kernel
theorem dX12_copyRoute_16 : decode cX12_copyRoute 16 = .ok (.iinc 3 1, 3) := by decide +kernel
theorem dX12_copyRoute_19 : decode cX12_copyRoute 19 = .ok (.goto (-17), 3) := by decide +kernel
theorem dX12_meetRoute_0 : decode cX12_meetRoute 0 = .ok (.aload_n 0, 1) := by decide +kernel
theorem dX12_meetRoute_1 : decode cX12_meetRoute 1 = .ok (.dup, 1) := by decide +kernel
theorem dX12_meetRoute_2 : decode cX12_meetRoute 2 = .ok (.getfield 210, 3) := by decide +kernel
theorem dX12_meetRoute_5 : decode cX12_meetRoute 5 = .ok (.iconst 1, 1) := by decide +kernel
theorem dX12_meetRoute_6 : decode cX12_meetRoute 6 = .ok (.iadd, 1) := by decide +kernel
theorem dX12_meetRoute_7 : decode cX12_meetRoute 7 = .ok (.putfield 210, 3) := by decide +kernel
theorem dX12_meetRoute_53 : decode cX12_meetRoute 53 = .ok (.aload_n 0, 1) := by decide +kernel
theorem dX12_meetRoute_54 : decode cX12_meetRoute 54 = .ok (.getfield 223, 3) := by decide +kernel
theorem dX12_meetRoute_57 : decode cX12_meetRoute 57 = .ok (.bipush (-9), 2) := by decide +kernel
theorem dX12_meetRoute_59 : decode cX12_meetRoute 59 = .ok (.if_icmp .ne 4, 3) := by decide +kernel
theorem dX12_meetRoute_137 : decode cX12_meetRoute 137 = .ok (.aload_n 0, 1) := by decide +kernel
theorem dX12_meetRoute_138 : decode cX12_meetRoute 138 = .ok (.aload_n 0, 1) := by decide +kernel
theorem dX12_meetRoute_139 : decode cX12_meetRoute 139 = .ok (.getfield 223, 3) := by decide +kernel
theorem dX12_meetRoute_142 : decode cX12_meetRoute 142 = .ok (.iload 4, 2) := by decide +kernel
theorem dX12_meetRoute_144 : decode cX12_meetRoute 144 = .ok (.invokevirtual 194, 3) := by decide +kernel
theorem dX12_meetRoute_147 : decode cX12_meetRoute 147 = .ok (.iload_n 3, 1) := by decide +kernel
theorem dX12_meetRoute_148 : decode cX12_meetRoute 148 = .ok (.if_icmp .lt 66, 3) := by decide +kernel
theorem dX12_meetRoute_214 : decode cX12_meetRoute 214 = .ok (.return_, 1) := by decide +kernel
theorem dX12_meetRoute_151 : decode cX12_meetRoute 151 = .ok (.aload_n 0, 1) := by decide +kernel
theorem dX12_meetRoute_152 : decode cX12_meetRoute 152 = .ok (.dup, 1) := by decide +kernel
theorem dX12_meetRoute_153 : decode cX12_meetRoute 153 = .ok (.getfield 229, 3) := by decide +kernel
theorem dX12_meetRoute_156 : decode cX12_meetRoute 156 = .ok (.iconst 1, 1) := by decide +kernel
theorem dX12_meetRoute_157 : decode cX12_meetRoute 157 = .ok (.iadd, 1) := by decide +kernel
theorem dX12_meetRoute_158 : decode cX12_meetRoute 158 = .ok (.putfield 229, 3) := by decide +kernel
theorem dX12_meetRoute_161 : decode cX12_meetRoute 161 = .ok (.aload_n 0, 1) := by decide +kernel
theorem dX12_meetRoute_162 : decode cX12_meetRoute 162 = .ok (.dup, 1) := by decide +kernel
theorem dX12_meetRoute_163 : decode cX12_meetRoute 163 = .ok (.getfield 232, 3) := by decide +kernel
theorem dX12_meetRoute_166 : decode cX12_meetRoute 166 = .ok (.iload_n 2, 1) := by decide +kernel
theorem dX12_meetRoute_167 : decode cX12_meetRoute 167 = .ok (.iand, 1) := by decide +kernel
theorem dX12_meetRoute_168 : decode cX12_meetRoute 168 = .ok (.putfield 232, 3) := by decide +kernel
theorem dX12_meetRoute_171 : decode cX12_meetRoute 171 = .ok (.iload_n 1, 1) := by decide +kernel
theorem dX12_meetRoute_172 : decode cX12_meetRoute 172 = .ok (.aload_n 0, 1) := by decide +kernel
theorem dX12_meetRoute_173 : decode cX12_meetRoute 173 = .ok (.getfield 235, 3) := by decide +kernel
theorem dX12_meetRoute_176 : decode cX12_meetRoute 176 = .ok (.if_icmp .lt 19, 3) := by decide +kernel
theorem dX12_meetRoute_195 : decode cX12_meetRoute 195 = .ok (.aload_n 0, 1) := by decide +kernel
theorem dX12_meetRoute_196 : decode cX12_meetRoute 196 = .ok (.iload_n 3, 1) := by decide +kernel
theorem dX12_meetRoute_197 : decode cX12_meetRoute 197 = .ok (.putfield 238, 3) := by decide +kernel
theorem dX12_meetRoute_200 : decode cX12_meetRoute 200 = .ok (.aload_n 0, 1) := by decide +kernel
theorem dX12_meetRoute_201 : decode cX12_meetRoute 201 = .ok (.iload_n 1, 1) := by decide +kernel
theorem dX12_meetRoute_202 : decode cX12_meetRoute 202 = .ok (.putfield 235, 3) := by decide +kernel
theorem dX12_meetRoute_205 : decode cX12_meetRoute 205 = .ok (.aload_n 0, 1) := by decide +kernel
theorem dX12_meetRoute_206 : decode cX12_meetRoute 206 = .ok (.aload_n 0, 1) := by decide +kernel
theorem dX12_meetRoute_207 : decode cX12_meetRoute 207 = .ok (.getfield 61, 3) := by decide +kernel
theorem dX12_meetRoute_210 : decode cX12_meetRoute 210 = .ok (.iload_n 1, 1) := by decide +kernel
theorem dX12_meetRoute_211 : decode cX12_meetRoute 211 = .ok (.invokevirtual 219, 3) := by decide +kernel
theorem dX12_meetRoute_179 : decode cX12_meetRoute 179 = .ok (.iload_n 1, 1) := by decide +kernel
theorem dX12_meetRoute_180 : decode cX12_meetRoute 180 = .ok (.aload_n 0, 1) := by decide +kernel
theorem dX12_meetRoute_181 : decode cX12_meetRoute 181 = .ok (.getfield 235, 3) := by decide +kernel
theorem dX12_meetRoute_184 : decode cX12_meetRoute 184 = .ok (.if_icmp .ne 30, 3) := by decide +kernel
theorem dX12_meetRoute_187 : decode cX12_meetRoute 187 = .ok (.iload_n 3, 1) := by decide +kernel
theorem dX12_meetRoute_188 : decode cX12_meetRoute 188 = .ok (.aload_n 0, 1) := by decide +kernel
theorem dX12_meetRoute_189 : decode cX12_meetRoute 189 = .ok (.getfield 238, 3) := by decide +kernel
theorem dX12_meetRoute_192 : decode cX12_meetRoute 192 = .ok (.if_icmp .ge 22, 3) := by decide +kernel
theorem dX12_meetRoute_115 : decode cX12_meetRoute 115 = .ok (.aload_n 0, 1) := by decide +kernel
theorem dX12_meetRoute_116 : decode cX12_meetRoute 116 = .ok (.iload 5, 2) := by decide +kernel
theorem dX12_meetRoute_118 : decode cX12_meetRoute 118 = .ok (.aload_n 0, 1) := by decide +kernel
theorem dX12_meetRoute_119 : decode cX12_meetRoute 119 = .ok (.getfield 226, 3) := by decide +kernel
theorem dX12_meetRoute_122 : decode cX12_meetRoute 122 = .ok (.if_icmp .ge 8, 3) := by decide +kernel
theorem dX12_meetRoute_130 : decode cX12_meetRoute 130 = .ok (.aload_n 0, 1) := by decide +kernel
theorem dX12_meetRoute_131 : decode cX12_meetRoute 131 = .ok (.getfield 226, 3) := by decide +kernel
theorem dX12_meetRoute_134 : decode cX12_meetRoute 134 = .ok (.putfield 226, 3) := by decide +kernel
theorem dX12_meetRoute_125 : decode cX12_meetRoute 125 = .ok (.iload 5, 2) := by decide +kernel
theorem dX12_meetRoute_127 : decode cX12_meetRoute 127 = .ok (.goto 7, 3) := by decide +kernel
theorem dX12_meetRoute_91 : decode cX12_meetRoute 91 = .ok (.iload_n 3, 1) := by decide +kernel
theorem dX12_meetRoute_92 : decode cX12_meetRoute 92 = .ok (.ifCond .ne 7, 3) := by decide +kernel
theorem dX12_meetRoute_99 : decode cX12_meetRoute 99 = .ok (.iload_n 3, 1) := by decide +kernel
theorem dX12_meetRoute_100 : decode cX12_meetRoute 100 = .ok (.aload_n 0, 1) := by decide +kernel
theorem dX12_meetRoute_101 : decode cX12_meetRoute 101 = .ok (.aload_n 0, 1) := by decide +kernel
theorem dX12_meetRoute_102 : decode cX12_meetRoute 102 = .ok (.getfield 223, 3) := by decide +kernel
theorem dX12_meetRoute_105 : decode cX12_meetRoute 105 = .ok (.iconst 3, 1) := by decide +kernel
theorem dX12_meetRoute_106 : decode cX12_meetRoute 106 = .ok (.invokevirtual 161, 3) := by decide +kernel
theorem dX12_meetRoute_109 : decode cX12_meetRoute 109 = .ok (.iload 4, 2) := by decide +kernel
theorem dX12_meetRoute_111 : decode cX12_meetRoute 111 = .ok (.imul, 1) := by decide +kernel
theorem dX12_meetRoute_112 : decode cX12_meetRoute 112 = .ok (.iadd, 1) := by decide +kernel
theorem dX12_meetRoute_113 : decode cX12_meetRoute 113 = .ok (.istore 5, 2) := by decide +kernel
theorem dX12_meetRoute_95 : decode cX12_meetRoute 95 = .ok (.iconst 0, 1) := by decide +kernel
theorem dX12_meetRoute_96 : decode cX12_meetRoute 96 = .ok (.goto 17, 3) := by decide +kernel
theorem dX12_meetRoute_63 : decode cX12_meetRoute 63 = .ok (.iload_n 1, 1) := by decide +kernel
theorem dX12_meetRoute_64 : decode cX12_meetRoute 64 = .ok (.iconst 2, 1) := by decide +kernel
theorem dX12_meetRoute_65 : decode cX12_meetRoute 65 = .ok (.isub, 1) := by decide +kernel
theorem dX12_meetRoute_66 : decode cX12_meetRoute 66 = .ok (.aload_n 0, 1) := by decide +kernel
theorem dX12_meetRoute_67 : decode cX12_meetRoute 67 = .ok (.aload_n 0, 1) := by decide +kernel
theorem dX12_meetRoute_68 : decode cX12_meetRoute 68 = .ok (.getfield 223, 3) := by decide +kernel
theorem dX12_meetRoute_71 : decode cX12_meetRoute 71 = .ok (.bipush 8, 2) := by decide +kernel
theorem dX12_meetRoute_73 : decode cX12_meetRoute 73 = .ok (.invokevirtual 161, 3) := by decide +kernel
theorem dX12_meetRoute_76 : decode cX12_meetRoute 76 = .ok (.aload_n 0, 1) := by decide +kernel
theorem dX12_meetRoute_77 : decode cX12_meetRoute 77 = .ok (.getfield 145, 3) := by decide +kernel
theorem dX12_meetRoute_80 : decode cX12_meetRoute 80 = .ok (.if_icmp .ne 7, 3) := by decide +kernel
theorem dX12_meetRoute_87 : decode cX12_meetRoute 87 = .ok (.iconst 0, 1) := by decide +kernel
theorem dX12_meetRoute_88 : decode cX12_meetRoute 88 = .ok (.iadd, 1) := by decide +kernel
theorem dX12_meetRoute_89 : decode cX12_meetRoute 89 = .ok (.istore 4, 2) := by decide +kernel
theorem dX12_meetRoute_83 : decode cX12_meetRoute 83 = .ok (.iconst 1, 1) := by decide +kernel
theorem dX12_meetRoute_84 : decode cX12_meetRoute 84 = .ok (.goto 4, 3) := by decide +kernel
theorem dX12_meetRoute_62 : decode cX12_meetRoute 62 = .ok (.return_, 1) := by decide +kernel
theorem dX12_meetRoute_10 : decode cX12_meetRoute 10 = .ok (.iload_n 3, 1) := by decide +kernel
theorem dX12_meetRoute_11 : decode cX12_meetRoute 11 = .ok (.aload_n 0, 1) := by decide +kernel
theorem dX12_meetRoute_12 : decode cX12_meetRoute 12 = .ok (.getfield 213, 3) := by decide +kernel
theorem dX12_meetRoute_15 : decode cX12_meetRoute 15 = .ok (.if_icmp .lt 19, 3) := by decide +kernel
theorem dX12_meetRoute_34 : decode cX12_meetRoute 34 = .ok (.aload_n 0, 1) := by decide +kernel
theorem dX12_meetRoute_35 : decode cX12_meetRoute 35 = .ok (.iload_n 3, 1) := by decide +kernel
theorem dX12_meetRoute_36 : decode cX12_meetRoute 36 = .ok (.putfield 213, 3) := by decide +kernel
theorem dX12_meetRoute_39 : decode cX12_meetRoute 39 = .ok (.aload_n 0, 1) := by decide +kernel
theorem dX12_meetRoute_40 : decode cX12_meetRoute 40 = .ok (.iload_n 1, 1) := by decide +kernel
theorem dX12_meetRoute_41 : decode cX12_meetRoute 41 = .ok (.putfield 216, 3) := by decide +kernel
theorem dX12_meetRoute_44 : decode cX12_meetRoute 44 = .ok (.aload_n 0, 1) := by decide +kernel
theorem dX12_meetRoute_45 : decode cX12_meetRoute 45 = .ok (.aload_n 0, 1) := by decide +kernel
theorem dX12_meetRoute_46 : decode cX12_meetRoute 46 = .ok (.getfield 58, 3) := by decide +kernel
theorem dX12_meetRoute_49 : decode cX12_meetRoute 49 = .ok (.iload_n 1, 1) := by decide +kernel
theorem dX12_meetRoute_50 : decode cX12_meetRoute 50 = .ok (.invokevirtual 219, 3) := by decide +kernel
theorem dX12_meetRoute_18 : decode cX12_meetRoute 18 = .ok (.iload_n 3, 1) := by decide +kernel
theorem dX12_meetRoute_19 : decode cX12_meetRoute 19 = .ok (.aload_n 0, 1) := by decide +kernel
theorem dX12_meetRoute_20 : decode cX12_meetRoute 20 = .ok (.getfield 213, 3) := by decide +kernel
theorem dX12_meetRoute_23 : decode cX12_meetRoute 23 = .ok (.if_icmp .ne 30, 3) := by decide +kernel
theorem dX12_meetRoute_26 : decode cX12_meetRoute 26 = .ok (.iload_n 1, 1) := by decide +kernel
theorem dX12_meetRoute_27 : decode cX12_meetRoute 27 = .ok (.aload_n 0, 1) := by decide +kernel
theorem dX12_meetRoute_28 : decode cX12_meetRoute 28 = .ok (.getfield 216, 3) := by decide +kernel
theorem dX12_meetRoute_31 : decode cX12_meetRoute 31 = .ok (.if_icmp .ge 22, 3) := by decide +kernel
