theorem mw_5_40 : (Cond.methodLink RX12 1 objectInit : Cond) ∈ lw_good := lg_at 5 40 rfl rfl
theorem lb_X12_init_0 : dl_ck (cX12_init.data.toList.drop 0) [42, 183, 0, 1, 42, 16, 6, 188, 10, 181, 0, 7, 42, 16, 6, 188, 10, 181, 0, 13, 42, 17, 0, 240, 188, 10, 181, 0, 16, 42, 16, 40] = true := by decide +kernel
theorem lb_X12_init_1 : dl_ck (cX12_init.data.toList.drop 32) [188, 10, 181, 0, 19, 42, 7, 188, 10, 181, 0, 22, 42, 17, 1, 64, 188, 10, 181, 0, 25, 42, 16, 7, 188, 10, 181, 0, 28, 42, 16, 7] = true := by decide +kernel
theorem lb_X12_init_2 : dl_ck (cX12_init.data.toList.drop 64) [188, 10, 181, 0, 31, 42, 16, 24, 188, 10, 181, 0, 34, 42, 16, 40, 188, 10, 181, 0, 37, 42, 16, 7, 188, 10, 181, 0, 40, 42, 16, 7] = true := by decide +kernel
theorem lb_X12_init_3 : dl_ck (cX12_init.data.toList.drop 96) [188, 10, 181, 0, 43, 42, 16, 24, 188, 10, 181, 0, 46, 42, 17, 1, 224, 188, 10, 181, 0, 49, 42, 17, 0, 192, 188, 10, 181, 0, 52, 42] = true := by decide +kernel
theorem lb_X12_init_4 : dl_ck (cX12_init.data.toList.drop 128) [16, 7, 188, 10, 181, 0, 55, 42, 16, 7, 188, 10, 181, 0, 58, 42, 16, 7, 188, 10, 181, 0, 61, 42, 16, 7, 188, 10, 181, 0, 64, 42] = true := by decide +kernel
theorem lb_X12_init_5 : dl_ck (cX12_init.data.toList.drop 160) [16, 7, 188, 10, 181, 0, 67, 3, 60, 27, 16, 6, 162, 0, 17, 42, 180, 0, 13, 27, 16, 247, 79, 132, 1, 1, 167, 255, 239, 3, 60, 27] = true := by decide +kernel
theorem lb_X12_init_6 : dl_ck (cX12_init.data.toList.drop 192) [7, 162, 0, 17, 42, 180, 0, 22, 27, 16, 247, 79, 132, 1, 1, 167, 255, 240, 3, 60, 27, 6, 162, 0, 20, 42, 180, 0, 52, 16, 64, 27] = true := by decide +kernel
theorem lb_X12_init_7 : dl_ck (cX12_init.data.toList.drop 224) [104, 16, 247, 79, 132, 1, 1, 167, 255, 237, 177] = true := by decide +kernel
theorem dX12_init_0 : decode cX12_init 0 = .ok (.aload_n 0, 1) := dx_42 (dl_at 0 0 lb_X12_init_0 rfl)
theorem dX12_init_1 : decode cX12_init 1 = .ok (.invokespecial 1, 3) := dx_183 (a := 0) (b := 1) (dl_at 0 1 lb_X12_init_0 rfl) (dl_at 0 2 lb_X12_init_0 rfl) (dl_at 0 3 lb_X12_init_0 rfl) rfl
theorem dX12_init_4 : decode cX12_init 4 = .ok (.aload_n 0, 1) := dx_42 (dl_at 0 4 lb_X12_init_0 rfl)
theorem dX12_init_5 : decode cX12_init 5 = .ok (.bipush 6, 2) := dx_16 (dl_at 0 5 lb_X12_init_0 rfl) (dl_at 0 6 lb_X12_init_0 rfl) sg8_6
theorem dX12_init_7 : decode cX12_init 7 = .ok (.newarray .int, 2) := by decide +kernel
theorem dX12_init_9 : decode cX12_init 9 = .ok (.putfield 7, 3) := dx_181 (a := 0) (b := 7) (dl_at 0 9 lb_X12_init_0 rfl) (dl_at 0 10 lb_X12_init_0 rfl) (dl_at 0 11 lb_X12_init_0 rfl) rfl
theorem dX12_init_12 : decode cX12_init 12 = .ok (.aload_n 0, 1) := dx_42 (dl_at 0 12 lb_X12_init_0 rfl)
theorem dX12_init_13 : decode cX12_init 13 = .ok (.bipush 6, 2) := dx_16 (dl_at 0 13 lb_X12_init_0 rfl) (dl_at 0 14 lb_X12_init_0 rfl) sg8_6
theorem dX12_init_15 : decode cX12_init 15 = .ok (.newarray .int, 2) := by decide +kernel
theorem dX12_init_17 : decode cX12_init 17 = .ok (.putfield 13, 3) := dx_181 (a := 0) (b := 13) (dl_at 0 17 lb_X12_init_0 rfl) (dl_at 0 18 lb_X12_init_0 rfl) (dl_at 0 19 lb_X12_init_0 rfl) rfl
theorem dX12_init_20 : decode cX12_init 20 = .ok (.aload_n 0, 1) := dx_42 (dl_at 0 20 lb_X12_init_0 rfl)
theorem dX12_init_21 : decode cX12_init 21 = .ok (.sipush 240, 3) := dx_17 (a := 0) (b := 240) (dl_at 0 21 lb_X12_init_0 rfl) (dl_at 0 22 lb_X12_init_0 rfl) (dl_at 0 23 lb_X12_init_0 rfl) sg16_240
theorem dX12_init_24 : decode cX12_init 24 = .ok (.newarray .int, 2) := by decide +kernel
theorem dX12_init_26 : decode cX12_init 26 = .ok (.putfield 16, 3) := dx_181 (a := 0) (b := 16) (dl_at 0 26 lb_X12_init_0 rfl) (dl_at 0 27 lb_X12_init_0 rfl) (dl_at 0 28 lb_X12_init_0 rfl) rfl
theorem dX12_init_29 : decode cX12_init 29 = .ok (.aload_n 0, 1) := dx_42 (dl_at 0 29 lb_X12_init_0 rfl)
theorem dX12_init_30 : decode cX12_init 30 = .ok (.bipush 40, 2) := dx_16 (dl_at 0 30 lb_X12_init_0 rfl) (dl_at 0 31 lb_X12_init_0 rfl) sg8_40
theorem dX12_init_32 : decode cX12_init 32 = .ok (.newarray .int, 2) := by decide +kernel
theorem dX12_init_34 : decode cX12_init 34 = .ok (.putfield 19, 3) := dx_181 (a := 0) (b := 19) (dl_at 32 2 lb_X12_init_1 rfl) (dl_at 32 3 lb_X12_init_1 rfl) (dl_at 32 4 lb_X12_init_1 rfl) rfl
theorem dX12_init_37 : decode cX12_init 37 = .ok (.aload_n 0, 1) := dx_42 (dl_at 32 5 lb_X12_init_1 rfl)
theorem dX12_init_38 : decode cX12_init 38 = .ok (.iconst 4, 1) := dx_7 (dl_at 32 6 lb_X12_init_1 rfl)
theorem dX12_init_39 : decode cX12_init 39 = .ok (.newarray .int, 2) := by decide +kernel
theorem dX12_init_41 : decode cX12_init 41 = .ok (.putfield 22, 3) := dx_181 (a := 0) (b := 22) (dl_at 32 9 lb_X12_init_1 rfl) (dl_at 32 10 lb_X12_init_1 rfl) (dl_at 32 11 lb_X12_init_1 rfl) rfl
theorem dX12_init_44 : decode cX12_init 44 = .ok (.aload_n 0, 1) := dx_42 (dl_at 32 12 lb_X12_init_1 rfl)
theorem dX12_init_45 : decode cX12_init 45 = .ok (.sipush 320, 3) := dx_17 (a := 1) (b := 64) (dl_at 32 13 lb_X12_init_1 rfl) (dl_at 32 14 lb_X12_init_1 rfl) (dl_at 32 15 lb_X12_init_1 rfl) sg16_320
theorem dX12_init_48 : decode cX12_init 48 = .ok (.newarray .int, 2) := by decide +kernel
theorem dX12_init_50 : decode cX12_init 50 = .ok (.putfield 25, 3) := dx_181 (a := 0) (b := 25) (dl_at 32 18 lb_X12_init_1 rfl) (dl_at 32 19 lb_X12_init_1 rfl) (dl_at 32 20 lb_X12_init_1 rfl) rfl
theorem dX12_init_53 : decode cX12_init 53 = .ok (.aload_n 0, 1) := dx_42 (dl_at 32 21 lb_X12_init_1 rfl)
theorem dX12_init_54 : decode cX12_init 54 = .ok (.bipush 7, 2) := dx_16 (dl_at 32 22 lb_X12_init_1 rfl) (dl_at 32 23 lb_X12_init_1 rfl) sg8_7
theorem dX12_init_56 : decode cX12_init 56 = .ok (.newarray .int, 2) := by decide +kernel
theorem dX12_init_58 : decode cX12_init 58 = .ok (.putfield 28, 3) := dx_181 (a := 0) (b := 28) (dl_at 32 26 lb_X12_init_1 rfl) (dl_at 32 27 lb_X12_init_1 rfl) (dl_at 32 28 lb_X12_init_1 rfl) rfl
theorem dX12_init_61 : decode cX12_init 61 = .ok (.aload_n 0, 1) := dx_42 (dl_at 32 29 lb_X12_init_1 rfl)
theorem dX12_init_62 : decode cX12_init 62 = .ok (.bipush 7, 2) := dx_16 (dl_at 32 30 lb_X12_init_1 rfl) (dl_at 32 31 lb_X12_init_1 rfl) sg8_7
theorem dX12_init_64 : decode cX12_init 64 = .ok (.newarray .int, 2) := by decide +kernel
theorem dX12_init_66 : decode cX12_init 66 = .ok (.putfield 31, 3) := dx_181 (a := 0) (b := 31) (dl_at 64 2 lb_X12_init_2 rfl) (dl_at 64 3 lb_X12_init_2 rfl) (dl_at 64 4 lb_X12_init_2 rfl) rfl
theorem dX12_init_69 : decode cX12_init 69 = .ok (.aload_n 0, 1) := dx_42 (dl_at 64 5 lb_X12_init_2 rfl)
theorem dX12_init_70 : decode cX12_init 70 = .ok (.bipush 24, 2) := dx_16 (dl_at 64 6 lb_X12_init_2 rfl) (dl_at 64 7 lb_X12_init_2 rfl) sg8_24
theorem dX12_init_72 : decode cX12_init 72 = .ok (.newarray .int, 2) := by decide +kernel
theorem dX12_init_74 : decode cX12_init 74 = .ok (.putfield 34, 3) := dx_181 (a := 0) (b := 34) (dl_at 64 10 lb_X12_init_2 rfl) (dl_at 64 11 lb_X12_init_2 rfl) (dl_at 64 12 lb_X12_init_2 rfl) rfl
theorem dX12_init_77 : decode cX12_init 77 = .ok (.aload_n 0, 1) := dx_42 (dl_at 64 13 lb_X12_init_2 rfl)
theorem dX12_init_78 : decode cX12_init 78 = .ok (.bipush 40, 2) := dx_16 (dl_at 64 14 lb_X12_init_2 rfl) (dl_at 64 15 lb_X12_init_2 rfl) sg8_40
theorem dX12_init_80 : decode cX12_init 80 = .ok (.newarray .int, 2) := by decide +kernel
theorem dX12_init_82 : decode cX12_init 82 = .ok (.putfield 37, 3) := dx_181 (a := 0) (b := 37) (dl_at 64 18 lb_X12_init_2 rfl) (dl_at 64 19 lb_X12_init_2 rfl) (dl_at 64 20 lb_X12_init_2 rfl) rfl
theorem dX12_init_85 : decode cX12_init 85 = .ok (.aload_n 0, 1) := dx_42 (dl_at 64 21 lb_X12_init_2 rfl)
theorem dX12_init_86 : decode cX12_init 86 = .ok (.bipush 7, 2) := dx_16 (dl_at 64 22 lb_X12_init_2 rfl) (dl_at 64 23 lb_X12_init_2 rfl) sg8_7
theorem dX12_init_88 : decode cX12_init 88 = .ok (.newarray .int, 2) := by decide +kernel
theorem dX12_init_90 : decode cX12_init 90 = .ok (.putfield 40, 3) := dx_181 (a := 0) (b := 40) (dl_at 64 26 lb_X12_init_2 rfl) (dl_at 64 27 lb_X12_init_2 rfl) (dl_at 64 28 lb_X12_init_2 rfl) rfl
theorem dX12_init_93 : decode cX12_init 93 = .ok (.aload_n 0, 1) := dx_42 (dl_at 64 29 lb_X12_init_2 rfl)
theorem dX12_init_94 : decode cX12_init 94 = .ok (.bipush 7, 2) := dx_16 (dl_at 64 30 lb_X12_init_2 rfl) (dl_at 64 31 lb_X12_init_2 rfl) sg8_7
theorem dX12_init_96 : decode cX12_init 96 = .ok (.newarray .int, 2) := by decide +kernel
theorem dX12_init_98 : decode cX12_init 98 = .ok (.putfield 43, 3) := dx_181 (a := 0) (b := 43) (dl_at 96 2 lb_X12_init_3 rfl) (dl_at 96 3 lb_X12_init_3 rfl) (dl_at 96 4 lb_X12_init_3 rfl) rfl
theorem dX12_init_101 : decode cX12_init 101 = .ok (.aload_n 0, 1) := dx_42 (dl_at 96 5 lb_X12_init_3 rfl)
theorem dX12_init_102 : decode cX12_init 102 = .ok (.bipush 24, 2) := dx_16 (dl_at 96 6 lb_X12_init_3 rfl) (dl_at 96 7 lb_X12_init_3 rfl) sg8_24
theorem dX12_init_104 : decode cX12_init 104 = .ok (.newarray .int, 2) := by decide +kernel
theorem dX12_init_106 : decode cX12_init 106 = .ok (.putfield 46, 3) := dx_181 (a := 0) (b := 46) (dl_at 96 10 lb_X12_init_3 rfl) (dl_at 96 11 lb_X12_init_3 rfl) (dl_at 96 12 lb_X12_init_3 rfl) rfl
theorem dX12_init_109 : decode cX12_init 109 = .ok (.aload_n 0, 1) := dx_42 (dl_at 96 13 lb_X12_init_3 rfl)
theorem dX12_init_110 : decode cX12_init 110 = .ok (.sipush 480, 3) := dx_17 (a := 1) (b := 224) (dl_at 96 14 lb_X12_init_3 rfl) (dl_at 96 15 lb_X12_init_3 rfl) (dl_at 96 16 lb_X12_init_3 rfl) sg16_480
theorem dX12_init_113 : decode cX12_init 113 = .ok (.newarray .int, 2) := by decide +kernel
theorem dX12_init_115 : decode cX12_init 115 = .ok (.putfield 49, 3) := dx_181 (a := 0) (b := 49) (dl_at 96 19 lb_X12_init_3 rfl) (dl_at 96 20 lb_X12_init_3 rfl) (dl_at 96 21 lb_X12_init_3 rfl) rfl
theorem dX12_init_118 : decode cX12_init 118 = .ok (.aload_n 0, 1) := dx_42 (dl_at 96 22 lb_X12_init_3 rfl)
theorem dX12_init_119 : decode cX12_init 119 = .ok (.sipush 192, 3) := dx_17 (a := 0) (b := 192) (dl_at 96 23 lb_X12_init_3 rfl) (dl_at 96 24 lb_X12_init_3 rfl) (dl_at 96 25 lb_X12_init_3 rfl) sg16_192
theorem dX12_init_122 : decode cX12_init 122 = .ok (.newarray .int, 2) := by decide +kernel
theorem dX12_init_124 : decode cX12_init 124 = .ok (.putfield 52, 3) := dx_181 (a := 0) (b := 52) (dl_at 96 28 lb_X12_init_3 rfl) (dl_at 96 29 lb_X12_init_3 rfl) (dl_at 96 30 lb_X12_init_3 rfl) rfl
theorem dX12_init_127 : decode cX12_init 127 = .ok (.aload_n 0, 1) := dx_42 (dl_at 96 31 lb_X12_init_3 rfl)
theorem dX12_init_128 : decode cX12_init 128 = .ok (.bipush 7, 2) := dx_16 (dl_at 128 0 lb_X12_init_4 rfl) (dl_at 128 1 lb_X12_init_4 rfl) sg8_7
theorem dX12_init_130 : decode cX12_init 130 = .ok (.newarray .int, 2) := by decide +kernel
theorem dX12_init_132 : decode cX12_init 132 = .ok (.putfield 55, 3) := dx_181 (a := 0) (b := 55) (dl_at 128 4 lb_X12_init_4 rfl) (dl_at 128 5 lb_X12_init_4 rfl) (dl_at 128 6 lb_X12_init_4 rfl) rfl
theorem dX12_init_135 : decode cX12_init 135 = .ok (.aload_n 0, 1) := dx_42 (dl_at 128 7 lb_X12_init_4 rfl)
theorem dX12_init_136 : decode cX12_init 136 = .ok (.bipush 7, 2) := dx_16 (dl_at 128 8 lb_X12_init_4 rfl) (dl_at 128 9 lb_X12_init_4 rfl) sg8_7
theorem dX12_init_138 : decode cX12_init 138 = .ok (.newarray .int, 2) := by decide +kernel
theorem dX12_init_140 : decode cX12_init 140 = .ok (.putfield 58, 3) := dx_181 (a := 0) (b := 58) (dl_at 128 12 lb_X12_init_4 rfl) (dl_at 128 13 lb_X12_init_4 rfl) (dl_at 128 14 lb_X12_init_4 rfl) rfl
theorem dX12_init_143 : decode cX12_init 143 = .ok (.aload_n 0, 1) := dx_42 (dl_at 128 15 lb_X12_init_4 rfl)
theorem dX12_init_144 : decode cX12_init 144 = .ok (.bipush 7, 2) := dx_16 (dl_at 128 16 lb_X12_init_4 rfl) (dl_at 128 17 lb_X12_init_4 rfl) sg8_7
theorem dX12_init_146 : decode cX12_init 146 = .ok (.newarray .int, 2) := by decide +kernel
theorem dX12_init_148 : decode cX12_init 148 = .ok (.putfield 61, 3) := dx_181 (a := 0) (b := 61) (dl_at 128 20 lb_X12_init_4 rfl) (dl_at 128 21 lb_X12_init_4 rfl) (dl_at 128 22 lb_X12_init_4 rfl) rfl
theorem dX12_init_151 : decode cX12_init 151 = .ok (.aload_n 0, 1) := dx_42 (dl_at 128 23 lb_X12_init_4 rfl)
theorem dX12_init_152 : decode cX12_init 152 = .ok (.bipush 7, 2) := dx_16 (dl_at 128 24 lb_X12_init_4 rfl) (dl_at 128 25 lb_X12_init_4 rfl) sg8_7
theorem dX12_init_154 : decode cX12_init 154 = .ok (.newarray .int, 2) := by decide +kernel
theorem dX12_init_156 : decode cX12_init 156 = .ok (.putfield 64, 3) := dx_181 (a := 0) (b := 64) (dl_at 128 28 lb_X12_init_4 rfl) (dl_at 128 29 lb_X12_init_4 rfl) (dl_at 128 30 lb_X12_init_4 rfl) rfl
theorem dX12_init_159 : decode cX12_init 159 = .ok (.aload_n 0, 1) := dx_42 (dl_at 128 31 lb_X12_init_4 rfl)
theorem dX12_init_160 : decode cX12_init 160 = .ok (.bipush 7, 2) := dx_16 (dl_at 160 0 lb_X12_init_5 rfl) (dl_at 160 1 lb_X12_init_5 rfl) sg8_7
theorem dX12_init_162 : decode cX12_init 162 = .ok (.newarray .int, 2) := by decide +kernel
theorem dX12_init_164 : decode cX12_init 164 = .ok (.putfield 67, 3) := dx_181 (a := 0) (b := 67) (dl_at 160 4 lb_X12_init_5 rfl) (dl_at 160 5 lb_X12_init_5 rfl) (dl_at 160 6 lb_X12_init_5 rfl) rfl
theorem dX12_init_167 : decode cX12_init 167 = .ok (.iconst 0, 1) := dx_3 (dl_at 160 7 lb_X12_init_5 rfl)
theorem dX12_init_168 : decode cX12_init 168 = .ok (.istore_n 1, 1) := dx_60 (dl_at 160 8 lb_X12_init_5 rfl)
theorem dX12_init_169 : decode cX12_init 169 = .ok (.iload_n 1, 1) := dx_27 (dl_at 160 9 lb_X12_init_5 rfl)
theorem dX12_init_170 : decode cX12_init 170 = .ok (.bipush 6, 2) := dx_16 (dl_at 160 10 lb_X12_init_5 rfl) (dl_at 160 11 lb_X12_init_5 rfl) sg8_6
theorem dX12_init_172 : decode cX12_init 172 = .ok (.if_icmp .ge 17, 3) := dx_162 (a := 0) (b := 17) (dl_at 160 12 lb_X12_init_5 rfl) (dl_at 160 13 lb_X12_init_5 rfl) (dl_at 160 14 lb_X12_init_5 rfl) sg16_17
theorem dX12_init_175 : decode cX12_init 175 = .ok (.aload_n 0, 1) := dx_42 (dl_at 160 15 lb_X12_init_5 rfl)
theorem dX12_init_176 : decode cX12_init 176 = .ok (.getfield 13, 3) := dx_180 (a := 0) (b := 13) (dl_at 160 16 lb_X12_init_5 rfl) (dl_at 160 17 lb_X12_init_5 rfl) (dl_at 160 18 lb_X12_init_5 rfl) rfl
theorem dX12_init_179 : decode cX12_init 179 = .ok (.iload_n 1, 1) := dx_27 (dl_at 160 19 lb_X12_init_5 rfl)
theorem dX12_init_180 : decode cX12_init 180 = .ok (.bipush (-9), 2) := dx_16 (dl_at 160 20 lb_X12_init_5 rfl) (dl_at 160 21 lb_X12_init_5 rfl) sg8_247
theorem dX12_init_182 : decode cX12_init 182 = .ok (.iastore, 1) := dx_79 (dl_at 160 22 lb_X12_init_5 rfl)
theorem dX12_init_183 : decode cX12_init 183 = .ok (.iinc 1 1, 3) := dx_132 (dl_at 160 23 lb_X12_init_5 rfl) (dl_at 160 24 lb_X12_init_5 rfl) (dl_at 160 25 lb_X12_init_5 rfl) sg8_1
theorem dX12_init_186 : decode cX12_init 186 = .ok (.goto (-17), 3) := dx_167 (a := 255) (b := 239) (dl_at 160 26 lb_X12_init_5 rfl) (dl_at 160 27 lb_X12_init_5 rfl) (dl_at 160 28 lb_X12_init_5 rfl) sg16_65519
theorem dX12_init_189 : decode cX12_init 189 = .ok (.iconst 0, 1) := dx_3 (dl_at 160 29 lb_X12_init_5 rfl)
theorem dX12_init_190 : decode cX12_init 190 = .ok (.istore_n 1, 1) := dx_60 (dl_at 160 30 lb_X12_init_5 rfl)
theorem dX12_init_191 : decode cX12_init 191 = .ok (.iload_n 1, 1) := dx_27 (dl_at 160 31 lb_X12_init_5 rfl)
theorem dX12_init_192 : decode cX12_init 192 = .ok (.iconst 4, 1) := dx_7 (dl_at 192 0 lb_X12_init_6 rfl)
theorem dX12_init_193 : decode cX12_init 193 = .ok (.if_icmp .ge 17, 3) := dx_162 (a := 0) (b := 17) (dl_at 192 1 lb_X12_init_6 rfl) (dl_at 192 2 lb_X12_init_6 rfl) (dl_at 192 3 lb_X12_init_6 rfl) sg16_17
theorem dX12_init_196 : decode cX12_init 196 = .ok (.aload_n 0, 1) := dx_42 (dl_at 192 4 lb_X12_init_6 rfl)
theorem dX12_init_197 : decode cX12_init 197 = .ok (.getfield 22, 3) := dx_180 (a := 0) (b := 22) (dl_at 192 5 lb_X12_init_6 rfl) (dl_at 192 6 lb_X12_init_6 rfl) (dl_at 192 7 lb_X12_init_6 rfl) rfl
theorem dX12_init_200 : decode cX12_init 200 = .ok (.iload_n 1, 1) := dx_27 (dl_at 192 8 lb_X12_init_6 rfl)
theorem dX12_init_201 : decode cX12_init 201 = .ok (.bipush (-9), 2) := dx_16 (dl_at 192 9 lb_X12_init_6 rfl) (dl_at 192 10 lb_X12_init_6 rfl) sg8_247
theorem dX12_init_203 : decode cX12_init 203 = .ok (.iastore, 1) := dx_79 (dl_at 192 11 lb_X12_init_6 rfl)
theorem dX12_init_204 : decode cX12_init 204 = .ok (.iinc 1 1, 3) := dx_132 (dl_at 192 12 lb_X12_init_6 rfl) (dl_at 192 13 lb_X12_init_6 rfl) (dl_at 192 14 lb_X12_init_6 rfl) sg8_1
theorem dX12_init_207 : decode cX12_init 207 = .ok (.goto (-16), 3) := dx_167 (a := 255) (b := 240) (dl_at 192 15 lb_X12_init_6 rfl) (dl_at 192 16 lb_X12_init_6 rfl) (dl_at 192 17 lb_X12_init_6 rfl) sg16_65520
theorem dX12_init_210 : decode cX12_init 210 = .ok (.iconst 0, 1) := dx_3 (dl_at 192 18 lb_X12_init_6 rfl)
theorem dX12_init_211 : decode cX12_init 211 = .ok (.istore_n 1, 1) := dx_60 (dl_at 192 19 lb_X12_init_6 rfl)
theorem dX12_init_212 : decode cX12_init 212 = .ok (.iload_n 1, 1) := dx_27 (dl_at 192 20 lb_X12_init_6 rfl)
theorem dX12_init_213 : decode cX12_init 213 = .ok (.iconst 3, 1) := dx_6 (dl_at 192 21 lb_X12_init_6 rfl)
theorem dX12_init_214 : decode cX12_init 214 = .ok (.if_icmp .ge 20, 3) := dx_162 (a := 0) (b := 20) (dl_at 192 22 lb_X12_init_6 rfl) (dl_at 192 23 lb_X12_init_6 rfl) (dl_at 192 24 lb_X12_init_6 rfl) sg16_20
theorem dX12_init_217 : decode cX12_init 217 = .ok (.aload_n 0, 1) := dx_42 (dl_at 192 25 lb_X12_init_6 rfl)
theorem dX12_init_218 : decode cX12_init 218 = .ok (.getfield 52, 3) := dx_180 (a := 0) (b := 52) (dl_at 192 26 lb_X12_init_6 rfl) (dl_at 192 27 lb_X12_init_6 rfl) (dl_at 192 28 lb_X12_init_6 rfl) rfl
theorem dX12_init_221 : decode cX12_init 221 = .ok (.bipush 64, 2) := dx_16 (dl_at 192 29 lb_X12_init_6 rfl) (dl_at 192 30 lb_X12_init_6 rfl) sg8_64
theorem dX12_init_223 : decode cX12_init 223 = .ok (.iload_n 1, 1) := dx_27 (dl_at 192 31 lb_X12_init_6 rfl)
theorem dX12_init_224 : decode cX12_init 224 = .ok (.imul, 1) := dx_104 (dl_at 224 0 lb_X12_init_7 rfl)
theorem dX12_init_225 : decode cX12_init 225 = .ok (.bipush (-9), 2) := dx_16 (dl_at 224 1 lb_X12_init_7 rfl) (dl_at 224 2 lb_X12_init_7 rfl) sg8_247
theorem dX12_init_227 : decode cX12_init 227 = .ok (.iastore, 1) := dx_79 (dl_at 224 3 lb_X12_init_7 rfl)
theorem dX12_init_228 : decode cX12_init 228 = .ok (.iinc 1 1, 3) := dx_132 (dl_at 224 4 lb_X12_init_7 rfl) (dl_at 224 5 lb_X12_init_7 rfl) (dl_at 224 6 lb_X12_init_7 rfl) sg8_1
theorem dX12_init_231 : decode cX12_init 231 = .ok (.goto (-19), 3) := dx_167 (a := 255) (b := 237) (dl_at 224 7 lb_X12_init_7 rfl) (dl_at 224 8 lb_X12_init_7 rfl) (dl_at 224 9 lb_X12_init_7 rfl) sg16_65517
theorem dX12_init_234 : decode cX12_init 234 = .ok (.return_, 1) := dx_177 (dl_at 224 10 lb_X12_init_7 rfl)
