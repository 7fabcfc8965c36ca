theorem dX12_luck_0 : decode cX12_luck 0 = .ok (.iload_n 1, 1) := by decide +kernel
theorem dX12_luck_1 : decode cX12_luck 1 = .ok (.iconst 1, 1) := by decide +kernel
theorem dX12_luck_2 : decode cX12_luck 2 = .ok (.bipush 40, 2) := by decide +kernel
theorem dX12_luck_4 : decode cX12_luck 4 = .ok (.invokestatic 77, 3) := by decide +kernel
theorem dX12_luck_7 : decode cX12_luck 7 = .ok (.ifCond .eq 14, 3) := by decide +kernel
theorem dX12_luck_10 : decode cX12_luck 10 = .ok (.iload_n 2, 1) := by decide +kernel
theorem dX12_luck_11 : decode cX12_luck 11 = .ok (.iconst 1, 1) := by decide +kernel
theorem dX12_luck_12 : decode cX12_luck 12 = .ok (.ldc_w 294, 3) := by decide +kernel
theorem dX12_luck_15 : decode cX12_luck 15 = .ok (.invokestatic 77, 3) := by decide +kernel
theorem dX12_luck_18 : decode cX12_luck 18 = .ok (.ifCond .ne 5, 3) := by decide +kernel
theorem dX12_luck_23 : decode cX12_luck 23 = .ok (.aload_n 0, 1) := by decide +kernel
theorem dX12_luck_24 : decode cX12_luck 24 = .ok (.getfield 136, 3) := by decide +kernel
theorem dX12_luck_27 : decode cX12_luck 27 = .ok (.ifCond .ne 6, 3) := by decide +kernel
theorem dX12_luck_33 : decode cX12_luck 33 = .ok (.aload_n 0, 1) := by decide +kernel
theorem dX12_luck_34 : decode cX12_luck 34 = .ok (.getfield 145, 3) := by decide +kernel
theorem dX12_luck_37 : decode cX12_luck 37 = .ok (.iload_n 1, 1) := by decide +kernel
theorem dX12_luck_38 : decode cX12_luck 38 = .ok (.iadd, 1) := by decide +kernel
theorem dX12_luck_39 : decode cX12_luck 39 = .ok (.bipush 99, 2) := by decide +kernel
theorem dX12_luck_41 : decode cX12_luck 41 = .ok (.if_icmp .le 6, 3) := by decide +kernel
theorem dX12_luck_47 : decode cX12_luck 47 = .ok (.iload_n 2, 1) := by decide +kernel
theorem dX12_luck_48 : decode cX12_luck 48 = .ok (.i2l, 1) := by decide +kernel
theorem dX12_luck_49 : decode cX12_luck 49 = .ok (.lstore_n 3, 1) := by decide +kernel
theorem dX12_luck_50 : decode cX12_luck 50 = .ok (.iconst 0, 1) := by decide +kernel
theorem dX12_luck_51 : decode cX12_luck 51 = .ok (.istore 5, 2) := by decide +kernel
theorem dX12_luck_53 : decode cX12_luck 53 = .ok (.iconst 0, 1) := by decide +kernel
theorem dX12_luck_54 : decode cX12_luck 54 = .ok (.istore 6, 2) := by decide +kernel
theorem dX12_luck_56 : decode cX12_luck 56 = .ok (.iload 6, 2) := by decide +kernel
theorem dX12_luck_58 : decode cX12_luck 58 = .ok (.iload_n 1, 1) := by decide +kernel
theorem dX12_luck_59 : decode cX12_luck 59 = .ok (.if_icmp .ge 153, 3) := by decide +kernel
theorem dX12_luck_212 : decode cX12_luck 212 = .ok (.iload 5, 2) := by decide +kernel
theorem dX12_luck_214 : decode cX12_luck 214 = .ok (.ireturn, 1) := by decide +kernel
theorem dX12_luck_62 : decode cX12_luck 62 = .ok (.iconst 0, 1) := by decide +kernel
theorem dX12_luck_63 : decode cX12_luck 63 = .ok (.istore 7, 2) := by decide +kernel
theorem dX12_luck_65 : decode cX12_luck 65 = .ok (.iload 7, 2) := by decide +kernel
theorem dX12_luck_67 : decode cX12_luck 67 = .ok (.aload_n 0, 1) := by decide +kernel
theorem dX12_luck_68 : decode cX12_luck 68 = .ok (.getfield 148, 3) := by decide +kernel
theorem dX12_luck_71 : decode cX12_luck 71 = .ok (.if_icmp .ge 125, 3) := by decide +kernel
theorem dX12_luck_196 : decode cX12_luck 196 = .ok (.aload_n 0, 1) := by decide +kernel
theorem dX12_luck_197 : decode cX12_luck 197 = .ok (.dup, 1) := by decide +kernel
theorem dX12_luck_198 : decode cX12_luck 198 = .ok (.getfield 145, 3) := by decide +kernel
theorem dX12_luck_201 : decode cX12_luck 201 = .ok (.iconst 1, 1) := by decide +kernel
theorem dX12_luck_202 : decode cX12_luck 202 = .ok (.iadd, 1) := by decide +kernel
theorem dX12_luck_203 : decode cX12_luck 203 = .ok (.putfield 145, 3) := by decide +kernel
theorem dX12_luck_206 : decode cX12_luck 206 = .ok (.iinc 6 1, 3) := by decide +kernel
theorem dX12_luck_209 : decode cX12_luck 209 = .ok (.goto (-153), 3) := by decide +kernel
theorem dX12_luck_74 : decode cX12_luck 74 = .ok (.aload_n 0, 1) := by decide +kernel
theorem dX12_luck_75 : decode cX12_luck 75 = .ok (.iload 7, 2) := by decide +kernel
theorem dX12_luck_77 : decode cX12_luck 77 = .ok (.invokevirtual 200, 3) := by decide +kernel
theorem dX12_luck_80 : decode cX12_luck 80 = .ok (.istore 8, 2) := by decide +kernel
theorem dX12_luck_82 : decode cX12_luck 82 = .ok (.iload 8, 2) := by decide +kernel
theorem dX12_luck_84 : decode cX12_luck 84 = .ok (.ifCond .eq 15, 3) := by decide +kernel
theorem dX12_luck_99 : decode cX12_luck 99 = .ok (.iload 8, 2) := by decide +kernel
theorem dX12_luck_101 : decode cX12_luck 101 = .ok (.ifCond .eq 89, 3) := by decide +kernel
theorem dX12_luck_190 : decode cX12_luck 190 = .ok (.iinc 7 1, 3) := by decide +kernel
theorem dX12_luck_193 : decode cX12_luck 193 = .ok (.goto (-128), 3) := by decide +kernel
theorem dX12_luck_87 : decode cX12_luck 87 = .ok (.aload_n 0, 1) := by decide +kernel
theorem dX12_luck_88 : decode cX12_luck 88 = .ok (.getfield 151, 3) := by decide +kernel
theorem dX12_luck_91 : decode cX12_luck 91 = .ok (.bipush 40, 2) := by decide +kernel
theorem dX12_luck_93 : decode cX12_luck 93 = .ok (.if_icmp .ne 6, 3) := by decide +kernel
theorem dX12_luck_104 : decode cX12_luck 104 = .ok (.ldc2_w 295, 3) := by decide +kernel
theorem dX12_luck_107 : decode cX12_luck 107 = .ok (.lload_n 3, 1) := by decide +kernel
theorem dX12_luck_108 : decode cX12_luck 108 = .ok (.lmul, 1) := by decide +kernel
theorem dX12_luck_109 : decode cX12_luck 109 = .ok (.ldc2_w 297, 3) := by decide +kernel
theorem dX12_luck_112 : decode cX12_luck 112 = .ok (.lrem, 1) := by decide +kernel
theorem dX12_luck_113 : decode cX12_luck 113 = .ok (.lstore_n 3, 1) := by decide +kernel
theorem dX12_luck_114 : decode cX12_luck 114 = .ok (.lload_n 3, 1) := by decide +kernel
theorem dX12_luck_115 : decode cX12_luck 115 = .ok (.iload 8, 2) := by decide +kernel
theorem dX12_luck_117 : decode cX12_luck 117 = .ok (.invokestatic 170, 3) := by decide +kernel
theorem dX12_luck_120 : decode cX12_luck 120 = .ok (.i2l, 1) := by decide +kernel
theorem dX12_luck_121 : decode cX12_luck 121 = .ok (.lrem, 1) := by decide +kernel
theorem dX12_luck_122 : decode cX12_luck 122 = .ok (.l2i, 1) := by decide +kernel
theorem dX12_luck_123 : decode cX12_luck 123 = .ok (.istore 9, 2) := by decide +kernel
theorem dX12_luck_125 : decode cX12_luck 125 = .ok (.iconst 0, 1) := by decide +kernel
theorem dX12_luck_126 : decode cX12_luck 126 = .ok (.istore 10, 2) := by decide +kernel
theorem dX12_luck_128 : decode cX12_luck 128 = .ok (.iload 8, 2) := by decide +kernel
theorem dX12_luck_130 : decode cX12_luck 130 = .ok (.iload 10, 2) := by decide +kernel
theorem dX12_luck_132 : decode cX12_luck 132 = .ok (.invokestatic 157, 3) := by decide +kernel
theorem dX12_luck_135 : decode cX12_luck 135 = .ok (.ifCond .eq 8, 3) := by decide +kernel
theorem dX12_luck_138 : decode cX12_luck 138 = .ok (.iload 9, 2) := by decide +kernel
theorem dX12_luck_140 : decode cX12_luck 140 = .ok (.ifCond .le 29, 3) := by decide +kernel
theorem dX12_luck_169 : decode cX12_luck 169 = .ok (.aload_n 0, 1) := by decide +kernel
theorem dX12_luck_170 : decode cX12_luck 170 = .ok (.iload 7, 2) := by decide +kernel
theorem dX12_luck_172 : decode cX12_luck 172 = .ok (.iload 10, 2) := by decide +kernel
theorem dX12_luck_174 : decode cX12_luck 174 = .ok (.invokevirtual 203, 3) := by decide +kernel
theorem dX12_luck_177 : decode cX12_luck 177 = .ok (.iload 5, 2) := by decide +kernel
theorem dX12_luck_179 : decode cX12_luck 179 = .ok (.aload_n 0, 1) := by decide +kernel
theorem dX12_luck_180 : decode cX12_luck 180 = .ok (.iload 7, 2) := by decide +kernel
theorem dX12_luck_182 : decode cX12_luck 182 = .ok (.bipush 9, 2) := by decide +kernel
theorem dX12_luck_184 : decode cX12_luck 184 = .ok (.invokevirtual 161, 3) := by decide +kernel
theorem dX12_luck_187 : decode cX12_luck 187 = .ok (.iadd, 1) := by decide +kernel
theorem dX12_luck_188 : decode cX12_luck 188 = .ok (.istore 5, 2) := by decide +kernel
theorem dX12_luck_143 : decode cX12_luck 143 = .ok (.iload 9, 2) := by decide +kernel
theorem dX12_luck_145 : decode cX12_luck 145 = .ok (.iload 8, 2) := by decide +kernel
theorem dX12_luck_147 : decode cX12_luck 147 = .ok (.iload 10, 2) := by decide +kernel
theorem dX12_luck_149 : decode cX12_luck 149 = .ok (.invokestatic 157, 3) := by decide +kernel
theorem dX12_luck_152 : decode cX12_luck 152 = .ok (.ifCond .eq 7, 3) := by decide +kernel
theorem dX12_luck_155 : decode cX12_luck 155 = .ok (.iconst 1, 1) := by decide +kernel
theorem dX12_luck_156 : decode cX12_luck 156 = .ok (.goto 4, 3) := by decide +kernel
theorem dX12_luck_160 : decode cX12_luck 160 = .ok (.isub, 1) := by decide +kernel
theorem dX12_luck_161 : decode cX12_luck 161 = .ok (.istore 9, 2) := by decide +kernel
theorem dX12_luck_163 : decode cX12_luck 163 = .ok (.iinc 10 1, 3) := by decide +kernel
theorem dX12_luck_166 : decode cX12_luck 166 = .ok (.goto (-38), 3) := by decide +kernel
theorem dX12_luck_159 : decode cX12_luck 159 = .ok (.iconst 0, 1) := by decide +kernel
theorem dX12_luck_96 : decode cX12_luck 96 = .ok (.iload 5, 2) := by decide +kernel
theorem dX12_luck_98 : decode cX12_luck 98 = .ok (.ireturn, 1) := by decide +kernel
theorem dX12_luck_44 : decode cX12_luck 44 = .ok (.bipush (-2), 2) := by decide +kernel
theorem dX12_luck_46 : decode cX12_luck 46 = .ok (.ireturn, 1) := by decide +kernel
theorem dX12_luck_30 : decode cX12_luck 30 = .ok (.bipush (-4), 2) := by decide +kernel
theorem dX12_luck_32 : decode cX12_luck 32 = .ok (.ireturn, 1) := by decide +kernel
theorem dX12_luck_21 : decode cX12_luck 21 = .ok (.iconst (-1), 1) := by decide +kernel
theorem dX12_luck_22 : decode cX12_luck 22 = .ok (.ireturn, 1) := by decide +kernel
