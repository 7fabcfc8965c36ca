theorem irem_eq (x y : Int32) : x - x / y * y = x % y := by
  apply Int32.toInt_inj.mp
  rw [Int32.toInt_sub, Int32.toInt_mul, Int32.toInt_div]
  have h1 : x.toInt - x.toInt.tdiv y.toInt * y.toInt = (x % y).toInt := by
    rw [Int32.toInt_mod]
    have := Int.tmod_add_mul_tdiv x.toInt y.toInt
    rw [Int.mul_comm y.toInt] at this
    omega
  have h2 : ((x.toInt - (((x.toInt.tdiv y.toInt).bmod (2 ^ 32)) * y.toInt).bmod (2 ^ 32)).bmod (2 ^ 32)) = (x.toInt - x.toInt.tdiv y.toInt * y.toInt).bmod (2 ^ 32) := by
    simp
  rw [h2, h1]
  exact Int.bmod_eq_of_le (by have := tI_lo (x % y); omega) (by have := tI_hi (x % y); omega)
theorem lrem_eq (x y : Int64) : x - x / y * y = x % y := by
  apply Int64.toInt_inj.mp
  rw [Int64.toInt_sub, Int64.toInt_mul, Int64.toInt_div]
  have h1 : x.toInt - x.toInt.tdiv y.toInt * y.toInt = (x % y).toInt := by
    rw [Int64.toInt_mod]
    have := Int.tmod_add_mul_tdiv x.toInt y.toInt
    rw [Int.mul_comm y.toInt] at this
    omega
  have h2 : ((x.toInt - (((x.toInt.tdiv y.toInt).bmod (2 ^ 64)) * y.toInt).bmod (2 ^ 64)).bmod (2 ^ 64)) = (x.toInt - x.toInt.tdiv y.toInt * y.toInt).bmod (2 ^ 64) := by
    simp
  rw [h2, h1]
  exact Int.bmod_eq_of_le (by have := Int64.le_toInt (x % y); omega) (by have := Int64.toInt_lt (x % y); omega)
theorem mw_7_37 : (Cond.constant RX12 294 2147483646 : Cond) ∈ lw_good := lg_at 7 37 rfl rfl
theorem mw_7_38 : (Cond.constantLong RX12 295 48271 : Cond) ∈ lw_good := lg_at 7 38 rfl rfl
theorem mw_7_39 : (Cond.constantLong RX12 297 2147483647 : Cond) ∈ lw_good := lg_at 7 39 rfl rfl
theorem lb_X12_luck_0 : dl_ck (cX12_luck.data.toList.drop 0) [27, 4, 16, 40, 184, 0, 77, 153, 0, 14, 28, 4, 19, 1, 38, 184, 0, 77, 154, 0, 5, 2, 172, 42, 180, 0, 136, 154, 0, 6, 16, 252] = true := by decide +kernel
theorem lb_X12_luck_1 : dl_ck (cX12_luck.data.toList.drop 32) [172, 42, 180, 0, 145, 27, 96, 16, 99, 164, 0, 6, 16, 254, 172, 28, 133, 66, 3, 54, 5, 3, 54, 6, 21, 6, 27, 162, 0, 153, 3, 54] = true := by decide +kernel
theorem lb_X12_luck_2 : dl_ck (cX12_luck.data.toList.drop 64) [7, 21, 7, 42, 180, 0, 148, 162, 0, 125, 42, 21, 7, 182, 0, 200, 54, 8, 21, 8, 153, 0, 15, 42, 180, 0, 151, 16, 40, 160, 0, 6] = true := by decide +kernel
theorem lb_X12_luck_3 : dl_ck (cX12_luck.data.toList.drop 96) [21, 5, 172, 21, 8, 153, 0, 89, 20, 1, 39, 33, 105, 20, 1, 41, 113, 66, 33, 21, 8, 184, 0, 170, 133, 113, 136, 54, 9, 3, 54, 10] = true := by decide +kernel
theorem lb_X12_luck_4 : dl_ck (cX12_luck.data.toList.drop 128) [21, 8, 21, 10, 184, 0, 157, 153, 0, 8, 21, 9, 158, 0, 29, 21, 9, 21, 8, 21, 10, 184, 0, 157, 153, 0, 7, 4, 167, 0, 4, 3] = true := by decide +kernel
theorem lb_X12_luck_5 : dl_ck (cX12_luck.data.toList.drop 160) [100, 54, 9, 132, 10, 1, 167, 255, 218, 42, 21, 7, 21, 10, 182, 0, 203, 21, 5, 42, 21, 7, 16, 9, 182, 0, 161, 96, 54, 5, 132, 7] = true := by decide +kernel
theorem lb_X12_luck_6 : dl_ck (cX12_luck.data.toList.drop 192) [1, 167, 255, 128, 42, 89, 180, 0, 145, 4, 96, 181, 0, 145, 132, 6, 1, 167, 255, 103, 21, 5, 172] = true := by decide +kernel
theorem dX12_luck_0 : decode cX12_luck 0 = .ok (.iload_n 1, 1) := dx_27 (dl_at 0 0 lb_X12_luck_0 rfl)
theorem dX12_luck_1 : decode cX12_luck 1 = .ok (.iconst 1, 1) := dx_4 (dl_at 0 1 lb_X12_luck_0 rfl)
theorem dX12_luck_2 : decode cX12_luck 2 = .ok (.bipush 40, 2) := dx_16 (dl_at 0 2 lb_X12_luck_0 rfl) (dl_at 0 3 lb_X12_luck_0 rfl) sg8_40
theorem dX12_luck_4 : decode cX12_luck 4 = .ok (.invokestatic 77, 3) := dx_184 (a := 0) (b := 77) (dl_at 0 4 lb_X12_luck_0 rfl) (dl_at 0 5 lb_X12_luck_0 rfl) (dl_at 0 6 lb_X12_luck_0 rfl) rfl
theorem dX12_luck_7 : decode cX12_luck 7 = .ok (.ifCond .eq 14, 3) := dx_153 (a := 0) (b := 14) (dl_at 0 7 lb_X12_luck_0 rfl) (dl_at 0 8 lb_X12_luck_0 rfl) (dl_at 0 9 lb_X12_luck_0 rfl) sg16_14
theorem dX12_luck_10 : decode cX12_luck 10 = .ok (.iload_n 2, 1) := dx_28 (dl_at 0 10 lb_X12_luck_0 rfl)
theorem dX12_luck_11 : decode cX12_luck 11 = .ok (.iconst 1, 1) := dx_4 (dl_at 0 11 lb_X12_luck_0 rfl)
theorem dX12_luck_12 : decode cX12_luck 12 = .ok (.ldc_w 294, 3) := by decide +kernel
theorem dX12_luck_15 : decode cX12_luck 15 = .ok (.invokestatic 77, 3) := dx_184 (a := 0) (b := 77) (dl_at 0 15 lb_X12_luck_0 rfl) (dl_at 0 16 lb_X12_luck_0 rfl) (dl_at 0 17 lb_X12_luck_0 rfl) rfl
theorem dX12_luck_18 : decode cX12_luck 18 = .ok (.ifCond .ne 5, 3) := dx_154 (a := 0) (b := 5) (dl_at 0 18 lb_X12_luck_0 rfl) (dl_at 0 19 lb_X12_luck_0 rfl) (dl_at 0 20 lb_X12_luck_0 rfl) sg16_5
theorem dX12_luck_23 : decode cX12_luck 23 = .ok (.aload_n 0, 1) := dx_42 (dl_at 0 23 lb_X12_luck_0 rfl)
theorem dX12_luck_24 : decode cX12_luck 24 = .ok (.getfield 136, 3) := dx_180 (a := 0) (b := 136) (dl_at 0 24 lb_X12_luck_0 rfl) (dl_at 0 25 lb_X12_luck_0 rfl) (dl_at 0 26 lb_X12_luck_0 rfl) rfl
theorem dX12_luck_27 : decode cX12_luck 27 = .ok (.ifCond .ne 6, 3) := dx_154 (a := 0) (b := 6) (dl_at 0 27 lb_X12_luck_0 rfl) (dl_at 0 28 lb_X12_luck_0 rfl) (dl_at 0 29 lb_X12_luck_0 rfl) sg16_6
theorem dX12_luck_33 : decode cX12_luck 33 = .ok (.aload_n 0, 1) := dx_42 (dl_at 32 1 lb_X12_luck_1 rfl)
theorem dX12_luck_34 : decode cX12_luck 34 = .ok (.getfield 145, 3) := dx_180 (a := 0) (b := 145) (dl_at 32 2 lb_X12_luck_1 rfl) (dl_at 32 3 lb_X12_luck_1 rfl) (dl_at 32 4 lb_X12_luck_1 rfl) rfl
theorem dX12_luck_37 : decode cX12_luck 37 = .ok (.iload_n 1, 1) := dx_27 (dl_at 32 5 lb_X12_luck_1 rfl)
theorem dX12_luck_38 : decode cX12_luck 38 = .ok (.iadd, 1) := dx_96 (dl_at 32 6 lb_X12_luck_1 rfl)
theorem dX12_luck_39 : decode cX12_luck 39 = .ok (.bipush 99, 2) := dx_16 (dl_at 32 7 lb_X12_luck_1 rfl) (dl_at 32 8 lb_X12_luck_1 rfl) sg8_99
theorem dX12_luck_41 : decode cX12_luck 41 = .ok (.if_icmp .le 6, 3) := dx_164 (a := 0) (b := 6) (dl_at 32 9 lb_X12_luck_1 rfl) (dl_at 32 10 lb_X12_luck_1 rfl) (dl_at 32 11 lb_X12_luck_1 rfl) sg16_6
theorem dX12_luck_47 : decode cX12_luck 47 = .ok (.iload_n 2, 1) := dx_28 (dl_at 32 15 lb_X12_luck_1 rfl)
theorem dX12_luck_48 : decode cX12_luck 48 = .ok (.i2l, 1) := dx_133 (dl_at 32 16 lb_X12_luck_1 rfl)
theorem dX12_luck_49 : decode cX12_luck 49 = .ok (.lstore_n 3, 1) := dx_66 (dl_at 32 17 lb_X12_luck_1 rfl)
theorem dX12_luck_50 : decode cX12_luck 50 = .ok (.iconst 0, 1) := dx_3 (dl_at 32 18 lb_X12_luck_1 rfl)
theorem dX12_luck_51 : decode cX12_luck 51 = .ok (.istore 5, 2) := dx_54 (dl_at 32 19 lb_X12_luck_1 rfl) (dl_at 32 20 lb_X12_luck_1 rfl)
theorem dX12_luck_53 : decode cX12_luck 53 = .ok (.iconst 0, 1) := dx_3 (dl_at 32 21 lb_X12_luck_1 rfl)
theorem dX12_luck_54 : decode cX12_luck 54 = .ok (.istore 6, 2) := dx_54 (dl_at 32 22 lb_X12_luck_1 rfl) (dl_at 32 23 lb_X12_luck_1 rfl)
theorem dX12_luck_56 : decode cX12_luck 56 = .ok (.iload 6, 2) := dx_21 (dl_at 32 24 lb_X12_luck_1 rfl) (dl_at 32 25 lb_X12_luck_1 rfl)
theorem dX12_luck_58 : decode cX12_luck 58 = .ok (.iload_n 1, 1) := dx_27 (dl_at 32 26 lb_X12_luck_1 rfl)
theorem dX12_luck_59 : decode cX12_luck 59 = .ok (.if_icmp .ge 153, 3) := dx_162 (a := 0) (b := 153) (dl_at 32 27 lb_X12_luck_1 rfl) (dl_at 32 28 lb_X12_luck_1 rfl) (dl_at 32 29 lb_X12_luck_1 rfl) sg16_153
theorem dX12_luck_212 : decode cX12_luck 212 = .ok (.iload 5, 2) := dx_21 (dl_at 192 20 lb_X12_luck_6 rfl) (dl_at 192 21 lb_X12_luck_6 rfl)
theorem dX12_luck_214 : decode cX12_luck 214 = .ok (.ireturn, 1) := dx_172 (dl_at 192 22 lb_X12_luck_6 rfl)
theorem dX12_luck_62 : decode cX12_luck 62 = .ok (.iconst 0, 1) := dx_3 (dl_at 32 30 lb_X12_luck_1 rfl)
theorem dX12_luck_63 : decode cX12_luck 63 = .ok (.istore 7, 2) := dx_54 (dl_at 32 31 lb_X12_luck_1 rfl) (dl_at 64 0 lb_X12_luck_2 rfl)
theorem dX12_luck_65 : decode cX12_luck 65 = .ok (.iload 7, 2) := dx_21 (dl_at 64 1 lb_X12_luck_2 rfl) (dl_at 64 2 lb_X12_luck_2 rfl)
theorem dX12_luck_67 : decode cX12_luck 67 = .ok (.aload_n 0, 1) := dx_42 (dl_at 64 3 lb_X12_luck_2 rfl)
theorem dX12_luck_68 : decode cX12_luck 68 = .ok (.getfield 148, 3) := dx_180 (a := 0) (b := 148) (dl_at 64 4 lb_X12_luck_2 rfl) (dl_at 64 5 lb_X12_luck_2 rfl) (dl_at 64 6 lb_X12_luck_2 rfl) rfl
theorem dX12_luck_71 : decode cX12_luck 71 = .ok (.if_icmp .ge 125, 3) := dx_162 (a := 0) (b := 125) (dl_at 64 7 lb_X12_luck_2 rfl) (dl_at 64 8 lb_X12_luck_2 rfl) (dl_at 64 9 lb_X12_luck_2 rfl) sg16_125
theorem dX12_luck_196 : decode cX12_luck 196 = .ok (.aload_n 0, 1) := dx_42 (dl_at 192 4 lb_X12_luck_6 rfl)
theorem dX12_luck_197 : decode cX12_luck 197 = .ok (.dup, 1) := dx_89 (dl_at 192 5 lb_X12_luck_6 rfl)
theorem dX12_luck_198 : decode cX12_luck 198 = .ok (.getfield 145, 3) := dx_180 (a := 0) (b := 145) (dl_at 192 6 lb_X12_luck_6 rfl) (dl_at 192 7 lb_X12_luck_6 rfl) (dl_at 192 8 lb_X12_luck_6 rfl) rfl
theorem dX12_luck_201 : decode cX12_luck 201 = .ok (.iconst 1, 1) := dx_4 (dl_at 192 9 lb_X12_luck_6 rfl)
theorem dX12_luck_202 : decode cX12_luck 202 = .ok (.iadd, 1) := dx_96 (dl_at 192 10 lb_X12_luck_6 rfl)
theorem dX12_luck_203 : decode cX12_luck 203 = .ok (.putfield 145, 3) := dx_181 (a := 0) (b := 145) (dl_at 192 11 lb_X12_luck_6 rfl) (dl_at 192 12 lb_X12_luck_6 rfl) (dl_at 192 13 lb_X12_luck_6 rfl) rfl
theorem dX12_luck_206 : decode cX12_luck 206 = .ok (.iinc 6 1, 3) := dx_132 (dl_at 192 14 lb_X12_luck_6 rfl) (dl_at 192 15 lb_X12_luck_6 rfl) (dl_at 192 16 lb_X12_luck_6 rfl) sg8_1
theorem dX12_luck_209 : decode cX12_luck 209 = .ok (.goto (-153), 3) := dx_167 (a := 255) (b := 103) (dl_at 192 17 lb_X12_luck_6 rfl) (dl_at 192 18 lb_X12_luck_6 rfl) (dl_at 192 19 lb_X12_luck_6 rfl) sg16_65383
theorem dX12_luck_74 : decode cX12_luck 74 = .ok (.aload_n 0, 1) := dx_42 (dl_at 64 10 lb_X12_luck_2 rfl)
theorem dX12_luck_75 : decode cX12_luck 75 = .ok (.iload 7, 2) := dx_21 (dl_at 64 11 lb_X12_luck_2 rfl) (dl_at 64 12 lb_X12_luck_2 rfl)
theorem dX12_luck_77 : decode cX12_luck 77 = .ok (.invokevirtual 200, 3) := dx_182 (a := 0) (b := 200) (dl_at 64 13 lb_X12_luck_2 rfl) (dl_at 64 14 lb_X12_luck_2 rfl) (dl_at 64 15 lb_X12_luck_2 rfl) rfl
theorem dX12_luck_80 : decode cX12_luck 80 = .ok (.istore 8, 2) := dx_54 (dl_at 64 16 lb_X12_luck_2 rfl) (dl_at 64 17 lb_X12_luck_2 rfl)
theorem dX12_luck_82 : decode cX12_luck 82 = .ok (.iload 8, 2) := dx_21 (dl_at 64 18 lb_X12_luck_2 rfl) (dl_at 64 19 lb_X12_luck_2 rfl)
theorem dX12_luck_84 : decode cX12_luck 84 = .ok (.ifCond .eq 15, 3) := dx_153 (a := 0) (b := 15) (dl_at 64 20 lb_X12_luck_2 rfl) (dl_at 64 21 lb_X12_luck_2 rfl) (dl_at 64 22 lb_X12_luck_2 rfl) sg16_15
theorem dX12_luck_99 : decode cX12_luck 99 = .ok (.iload 8, 2) := dx_21 (dl_at 96 3 lb_X12_luck_3 rfl) (dl_at 96 4 lb_X12_luck_3 rfl)
theorem dX12_luck_101 : decode cX12_luck 101 = .ok (.ifCond .eq 89, 3) := dx_153 (a := 0) (b := 89) (dl_at 96 5 lb_X12_luck_3 rfl) (dl_at 96 6 lb_X12_luck_3 rfl) (dl_at 96 7 lb_X12_luck_3 rfl) sg16_89
theorem dX12_luck_190 : decode cX12_luck 190 = .ok (.iinc 7 1, 3) := dx_132 (dl_at 160 30 lb_X12_luck_5 rfl) (dl_at 160 31 lb_X12_luck_5 rfl) (dl_at 192 0 lb_X12_luck_6 rfl) sg8_1
theorem dX12_luck_193 : decode cX12_luck 193 = .ok (.goto (-128), 3) := dx_167 (a := 255) (b := 128) (dl_at 192 1 lb_X12_luck_6 rfl) (dl_at 192 2 lb_X12_luck_6 rfl) (dl_at 192 3 lb_X12_luck_6 rfl) sg16_65408
theorem dX12_luck_87 : decode cX12_luck 87 = .ok (.aload_n 0, 1) := dx_42 (dl_at 64 23 lb_X12_luck_2 rfl)
theorem dX12_luck_88 : decode cX12_luck 88 = .ok (.getfield 151, 3) := dx_180 (a := 0) (b := 151) (dl_at 64 24 lb_X12_luck_2 rfl) (dl_at 64 25 lb_X12_luck_2 rfl) (dl_at 64 26 lb_X12_luck_2 rfl) rfl
theorem dX12_luck_91 : decode cX12_luck 91 = .ok (.bipush 40, 2) := dx_16 (dl_at 64 27 lb_X12_luck_2 rfl) (dl_at 64 28 lb_X12_luck_2 rfl) sg8_40
theorem dX12_luck_93 : decode cX12_luck 93 = .ok (.if_icmp .ne 6, 3) := dx_160 (a := 0) (b := 6) (dl_at 64 29 lb_X12_luck_2 rfl) (dl_at 64 30 lb_X12_luck_2 rfl) (dl_at 64 31 lb_X12_luck_2 rfl) sg16_6
theorem dX12_luck_104 : decode cX12_luck 104 = .ok (.ldc2_w 295, 3) := dx_20 (a := 1) (b := 39) (dl_at 96 8 lb_X12_luck_3 rfl) (dl_at 96 9 lb_X12_luck_3 rfl) (dl_at 96 10 lb_X12_luck_3 rfl) rfl
theorem dX12_luck_107 : decode cX12_luck 107 = .ok (.lload_n 3, 1) := dx_33 (dl_at 96 11 lb_X12_luck_3 rfl)
theorem dX12_luck_108 : decode cX12_luck 108 = .ok (.lmul, 1) := dx_105 (dl_at 96 12 lb_X12_luck_3 rfl)
theorem dX12_luck_109 : decode cX12_luck 109 = .ok (.ldc2_w 297, 3) := dx_20 (a := 1) (b := 41) (dl_at 96 13 lb_X12_luck_3 rfl) (dl_at 96 14 lb_X12_luck_3 rfl) (dl_at 96 15 lb_X12_luck_3 rfl) rfl
theorem dX12_luck_112 : decode cX12_luck 112 = .ok (.lrem, 1) := dx_113 (dl_at 96 16 lb_X12_luck_3 rfl)
theorem dX12_luck_113 : decode cX12_luck 113 = .ok (.lstore_n 3, 1) := dx_66 (dl_at 96 17 lb_X12_luck_3 rfl)
theorem dX12_luck_114 : decode cX12_luck 114 = .ok (.lload_n 3, 1) := dx_33 (dl_at 96 18 lb_X12_luck_3 rfl)
theorem dX12_luck_115 : decode cX12_luck 115 = .ok (.iload 8, 2) := dx_21 (dl_at 96 19 lb_X12_luck_3 rfl) (dl_at 96 20 lb_X12_luck_3 rfl)
theorem dX12_luck_117 : decode cX12_luck 117 = .ok (.invokestatic 170, 3) := dx_184 (a := 0) (b := 170) (dl_at 96 21 lb_X12_luck_3 rfl) (dl_at 96 22 lb_X12_luck_3 rfl) (dl_at 96 23 lb_X12_luck_3 rfl) rfl
theorem dX12_luck_120 : decode cX12_luck 120 = .ok (.i2l, 1) := dx_133 (dl_at 96 24 lb_X12_luck_3 rfl)
theorem dX12_luck_121 : decode cX12_luck 121 = .ok (.lrem, 1) := dx_113 (dl_at 96 25 lb_X12_luck_3 rfl)
theorem dX12_luck_122 : decode cX12_luck 122 = .ok (.l2i, 1) := dx_136 (dl_at 96 26 lb_X12_luck_3 rfl)
theorem dX12_luck_123 : decode cX12_luck 123 = .ok (.istore 9, 2) := dx_54 (dl_at 96 27 lb_X12_luck_3 rfl) (dl_at 96 28 lb_X12_luck_3 rfl)
theorem dX12_luck_125 : decode cX12_luck 125 = .ok (.iconst 0, 1) := dx_3 (dl_at 96 29 lb_X12_luck_3 rfl)
theorem dX12_luck_126 : decode cX12_luck 126 = .ok (.istore 10, 2) := dx_54 (dl_at 96 30 lb_X12_luck_3 rfl) (dl_at 96 31 lb_X12_luck_3 rfl)
theorem dX12_luck_128 : decode cX12_luck 128 = .ok (.iload 8, 2) := dx_21 (dl_at 128 0 lb_X12_luck_4 rfl) (dl_at 128 1 lb_X12_luck_4 rfl)
theorem dX12_luck_130 : decode cX12_luck 130 = .ok (.iload 10, 2) := dx_21 (dl_at 128 2 lb_X12_luck_4 rfl) (dl_at 128 3 lb_X12_luck_4 rfl)
theorem dX12_luck_132 : decode cX12_luck 132 = .ok (.invokestatic 157, 3) := dx_184 (a := 0) (b := 157) (dl_at 128 4 lb_X12_luck_4 rfl) (dl_at 128 5 lb_X12_luck_4 rfl) (dl_at 128 6 lb_X12_luck_4 rfl) rfl
theorem dX12_luck_135 : decode cX12_luck 135 = .ok (.ifCond .eq 8, 3) := dx_153 (a := 0) (b := 8) (dl_at 128 7 lb_X12_luck_4 rfl) (dl_at 128 8 lb_X12_luck_4 rfl) (dl_at 128 9 lb_X12_luck_4 rfl) sg16_8
theorem dX12_luck_138 : decode cX12_luck 138 = .ok (.iload 9, 2) := dx_21 (dl_at 128 10 lb_X12_luck_4 rfl) (dl_at 128 11 lb_X12_luck_4 rfl)
theorem dX12_luck_140 : decode cX12_luck 140 = .ok (.ifCond .le 29, 3) := dx_158 (a := 0) (b := 29) (dl_at 128 12 lb_X12_luck_4 rfl) (dl_at 128 13 lb_X12_luck_4 rfl) (dl_at 128 14 lb_X12_luck_4 rfl) sg16_29
theorem dX12_luck_169 : decode cX12_luck 169 = .ok (.aload_n 0, 1) := dx_42 (dl_at 160 9 lb_X12_luck_5 rfl)
theorem dX12_luck_170 : decode cX12_luck 170 = .ok (.iload 7, 2) := dx_21 (dl_at 160 10 lb_X12_luck_5 rfl) (dl_at 160 11 lb_X12_luck_5 rfl)
theorem dX12_luck_172 : decode cX12_luck 172 = .ok (.iload 10, 2) := dx_21 (dl_at 160 12 lb_X12_luck_5 rfl) (dl_at 160 13 lb_X12_luck_5 rfl)
theorem dX12_luck_174 : decode cX12_luck 174 = .ok (.invokevirtual 203, 3) := dx_182 (a := 0) (b := 203) (dl_at 160 14 lb_X12_luck_5 rfl) (dl_at 160 15 lb_X12_luck_5 rfl) (dl_at 160 16 lb_X12_luck_5 rfl) rfl
theorem dX12_luck_177 : decode cX12_luck 177 = .ok (.iload 5, 2) := dx_21 (dl_at 160 17 lb_X12_luck_5 rfl) (dl_at 160 18 lb_X12_luck_5 rfl)
theorem dX12_luck_179 : decode cX12_luck 179 = .ok (.aload_n 0, 1) := dx_42 (dl_at 160 19 lb_X12_luck_5 rfl)
theorem dX12_luck_180 : decode cX12_luck 180 = .ok (.iload 7, 2) := dx_21 (dl_at 160 20 lb_X12_luck_5 rfl) (dl_at 160 21 lb_X12_luck_5 rfl)
theorem dX12_luck_182 : decode cX12_luck 182 = .ok (.bipush 9, 2) := dx_16 (dl_at 160 22 lb_X12_luck_5 rfl) (dl_at 160 23 lb_X12_luck_5 rfl) sg8_9
theorem dX12_luck_184 : decode cX12_luck 184 = .ok (.invokevirtual 161, 3) := dx_182 (a := 0) (b := 161) (dl_at 160 24 lb_X12_luck_5 rfl) (dl_at 160 25 lb_X12_luck_5 rfl) (dl_at 160 26 lb_X12_luck_5 rfl) rfl
theorem dX12_luck_187 : decode cX12_luck 187 = .ok (.iadd, 1) := dx_96 (dl_at 160 27 lb_X12_luck_5 rfl)
theorem dX12_luck_188 : decode cX12_luck 188 = .ok (.istore 5, 2) := dx_54 (dl_at 160 28 lb_X12_luck_5 rfl) (dl_at 160 29 lb_X12_luck_5 rfl)
theorem dX12_luck_143 : decode cX12_luck 143 = .ok (.iload 9, 2) := dx_21 (dl_at 128 15 lb_X12_luck_4 rfl) (dl_at 128 16 lb_X12_luck_4 rfl)
theorem dX12_luck_145 : decode cX12_luck 145 = .ok (.iload 8, 2) := dx_21 (dl_at 128 17 lb_X12_luck_4 rfl) (dl_at 128 18 lb_X12_luck_4 rfl)
theorem dX12_luck_147 : decode cX12_luck 147 = .ok (.iload 10, 2) := dx_21 (dl_at 128 19 lb_X12_luck_4 rfl) (dl_at 128 20 lb_X12_luck_4 rfl)
theorem dX12_luck_149 : decode cX12_luck 149 = .ok (.invokestatic 157, 3) := dx_184 (a := 0) (b := 157) (dl_at 128 21 lb_X12_luck_4 rfl) (dl_at 128 22 lb_X12_luck_4 rfl) (dl_at 128 23 lb_X12_luck_4 rfl) rfl
theorem dX12_luck_152 : decode cX12_luck 152 = .ok (.ifCond .eq 7, 3) := dx_153 (a := 0) (b := 7) (dl_at 128 24 lb_X12_luck_4 rfl) (dl_at 128 25 lb_X12_luck_4 rfl) (dl_at 128 26 lb_X12_luck_4 rfl) sg16_7
theorem dX12_luck_155 : decode cX12_luck 155 = .ok (.iconst 1, 1) := dx_4 (dl_at 128 27 lb_X12_luck_4 rfl)
theorem dX12_luck_156 : decode cX12_luck 156 = .ok (.goto 4, 3) := dx_167 (a := 0) (b := 4) (dl_at 128 28 lb_X12_luck_4 rfl) (dl_at 128 29 lb_X12_luck_4 rfl) (dl_at 128 30 lb_X12_luck_4 rfl) sg16_4
theorem dX12_luck_160 : decode cX12_luck 160 = .ok (.isub, 1) := dx_100 (dl_at 160 0 lb_X12_luck_5 rfl)
theorem dX12_luck_161 : decode cX12_luck 161 = .ok (.istore 9, 2) := dx_54 (dl_at 160 1 lb_X12_luck_5 rfl) (dl_at 160 2 lb_X12_luck_5 rfl)
theorem dX12_luck_163 : decode cX12_luck 163 = .ok (.iinc 10 1, 3) := dx_132 (dl_at 160 3 lb_X12_luck_5 rfl) (dl_at 160 4 lb_X12_luck_5 rfl) (dl_at 160 5 lb_X12_luck_5 rfl) sg8_1
theorem dX12_luck_166 : decode cX12_luck 166 = .ok (.goto (-38), 3) := dx_167 (a := 255) (b := 218) (dl_at 160 6 lb_X12_luck_5 rfl) (dl_at 160 7 lb_X12_luck_5 rfl) (dl_at 160 8 lb_X12_luck_5 rfl) sg16_65498
theorem dX12_luck_159 : decode cX12_luck 159 = .ok (.iconst 0, 1) := dx_3 (dl_at 128 31 lb_X12_luck_4 rfl)
theorem dX12_luck_96 : decode cX12_luck 96 = .ok (.iload 5, 2) := dx_21 (dl_at 96 0 lb_X12_luck_3 rfl) (dl_at 96 1 lb_X12_luck_3 rfl)
theorem dX12_luck_98 : decode cX12_luck 98 = .ok (.ireturn, 1) := dx_172 (dl_at 96 2 lb_X12_luck_3 rfl)
theorem dX12_luck_44 : decode cX12_luck 44 = .ok (.bipush (-2), 2) := dx_16 (dl_at 32 12 lb_X12_luck_1 rfl) (dl_at 32 13 lb_X12_luck_1 rfl) sg8_254
theorem dX12_luck_46 : decode cX12_luck 46 = .ok (.ireturn, 1) := dx_172 (dl_at 32 14 lb_X12_luck_1 rfl)
theorem dX12_luck_30 : decode cX12_luck 30 = .ok (.bipush (-4), 2) := dx_16 (dl_at 0 30 lb_X12_luck_0 rfl) (dl_at 0 31 lb_X12_luck_0 rfl) sg8_252
theorem dX12_luck_32 : decode cX12_luck 32 = .ok (.ireturn, 1) := dx_172 (dl_at 32 0 lb_X12_luck_1 rfl)
theorem dX12_luck_21 : decode cX12_luck 21 = .ok (.iconst (-1), 1) := dx_2 (dl_at 0 21 lb_X12_luck_0 rfl)
theorem dX12_luck_22 : decode cX12_luck 22 = .ok (.ireturn, 1) := dx_172 (dl_at 0 22 lb_X12_luck_0 rfl)
def L_qm_luck_128_2 (l27 : Int64) (mu : Nat → Nat → Int32) (r19 : Int32) (v5_65 : Int32) (v7_65 : Int32) (k_qm_luck_65_1 : (Int64) → (Int32) → (Int32) → (Nat → Nat → Int32) → (Int32 × (Nat → Nat → Int32))) : Nat → (Int32) → (Int32) → (Nat → Nat → Int32) → Int32 × (Nat → Nat → Int32)
  | 0, v9_128, v10_128, nu128_ => (0, nu128_)
  | n + 1, v9_128, v10_128, nu128_ =>
    if F_sm_has (r19 : Int32) (v10_128 : Int32) = 1 then (
      if v9_128 ≤ (0 : Int32) then (
        LETV (F_sm_sellTo nu128_ (v7_65 : Int32) (v10_128 : Int32) : Nat → Nat → Int32) fun xi35 =>
        LETV (F_sm_letterOf xi35 (v7_65 : Int32) (9 : Int32) : Int32) fun r37 =>
        LETV (v5_65 + r37 : Int32) fun t38 =>
        LETV ((v7_65 + 1) : Int32) fun w39 =>
        k_qm_luck_65_1 (l27 : Int64) (t38 : Int32) (w39 : Int32) xi35
      ) else (
        if F_sm_has (r19 : Int32) (v10_128 : Int32) = 1 then (
          LETV (v9_128 - 1 : Int32) fun t41 =>
          LETV ((v10_128 + 1) : Int32) fun w42 =>
          L_qm_luck_128_2 l27 mu r19 v5_65 v7_65 k_qm_luck_65_1 n (t41 : Int32) (w42 : Int32) nu128_
        ) else (
          (0, mu)
        )
      )
    ) else (
      if F_sm_has (r19 : Int32) (v10_128 : Int32) = 1 then (
        (0, mu)
      ) else (
        LETV (v9_128 - 0 : Int32) fun t44 =>
        LETV ((v10_128 + 1) : Int32) fun w45 =>
        L_qm_luck_128_2 l27 mu r19 v5_65 v7_65 k_qm_luck_65_1 n (t44 : Int32) (w45 : Int32) nu128_
      )
    )
def L_qm_luck_65_1 (mu : Nat → Nat → Int32) (v6_56 : Int32) (k_qm_luck_56_0 : (Int64) → (Int32) → (Int32) → (Nat → Nat → Int32) → (Int32 × (Nat → Nat → Int32))) : Nat → (Int64) → (Int32) → (Int32) → (Nat → Nat → Int32) → Int32 × (Nat → Nat → Int32)
  | 0, v3_65, v5_65, v7_65, nu65_ => (0, nu65_)
  | n + 1, v3_65, v5_65, v7_65, nu65_ =>
    LETV (nu65_ 0 15 : Int32) fun y10 =>
    if v7_65 ≥ y10 then (
      LETV (nu65_ 0 14 : Int32) fun y12 =>
      LETV (y12 + 1 : Int32) fun t13 =>
      LETV (va_up nu65_ 0 (upd (nu65_ 0) 14 t13) : Nat → Nat → Int32) fun nu14 =>
      LETV ((v6_56 + 1) : Int32) fun w18 =>
      k_qm_luck_56_0 (v3_65 : Int64) (v5_65 : Int32) (w18 : Int32) nu14
    ) else (
      LETV (F_sm_canSell nu65_ (v7_65 : Int32) : Int32) fun r19 =>
      if r19 = (0 : Int32) then (
        LETV ((v7_65 + 1) : Int32) fun w22 =>
        L_qm_luck_65_1 mu v6_56 k_qm_luck_56_0 n (v3_65 : Int64) (v5_65 : Int32) (w22 : Int32) nu65_
      ) else (
        LETV (nu65_ 0 17 : Int32) fun y23 =>
        if y23 = (40 : Int32) then (
          ((v5_65 : Int32), nu65_)
        ) else (
          LETV (48271 * v3_65 : Int64) fun l26 =>
          LETV (l26 - l26 / 2147483647 * 2147483647 : Int64) fun l27 =>
          LETV (F_sm_sizeOf (r19 : Int32) : Int32) fun r28 =>
          LETV ((r28 : Int32).toInt64 : Int64) fun l29 =>
          LETV (l27 - l27 / l29 * l29 : Int64) fun l30 =>
          LETV ((l30 : Int64).toInt32 : Int32) fun t31 =>
          L_qm_luck_128_2 l27 mu r19 v5_65 v7_65 (fun z_v3_65 z_v5_65 z_v7_65 z_nu65_ => L_qm_luck_65_1 mu v6_56 k_qm_luck_56_0 n z_v3_65 z_v5_65 z_v7_65 z_nu65_) 10 (t31 : Int32) (0 : Int32) nu65_
        )
      )
    )
def L_qm_luck_56_0 (mu : Nat → Nat → Int32) (vn : Int32) : Nat → (Int64) → (Int32) → (Int32) → (Nat → Nat → Int32) → Int32 × (Nat → Nat → Int32)
  | 0, v3_56, v5_56, v6_56, nu56_ => (0, nu56_)
  | n + 1, v3_56, v5_56, v6_56, nu56_ =>
    if v6_56 ≥ vn then (
      ((v5_56 : Int32), nu56_)
    ) else (
      L_qm_luck_65_1 mu v6_56 (fun z_v3_56 z_v5_56 z_v6_56 z_nu56_ => L_qm_luck_56_0 mu vn n z_v3_56 z_v5_56 z_v6_56 z_nu56_) 7 (v3_56 : Int64) (v5_56 : Int32) (0 : Int32) nu56_
    )
def F_qm_luck (mu : Nat → Nat → Int32) (vn : Int32) (vs : Int32) : Int32 × (Nat → Nat → Int32) :=
  if F_sm_in (vn : Int32) (1 : Int32) (40 : Int32) = 1 then (
    if F_sm_in (vs : Int32) (1 : Int32) (2147483646 : Int32) = 1 then (
      LETV (mu 0 8 : Int32) fun y3 =>
      if y3 = (0 : Int32) then (
        (((-4) : Int32), mu)
      ) else (
        LETV (mu 0 14 : Int32) fun y5 =>
        LETV (y5 + vn : Int32) fun t6 =>
        if t6 ≤ (99 : Int32) then (
          LETV ((vs : Int32).toInt64 : Int64) fun l8 =>
          L_qm_luck_56_0 mu vn 43 (l8 : Int64) (0 : Int32) (0 : Int32) mu
        ) else (
          (((-2) : Int32), mu)
        )
      )
    ) else (
      (((-1) : Int32), mu)
    )
  ) else (
    (((-1) : Int32), mu)
  )
set_option maxHeartbeats 4000000 in
set_option maxRecDepth 100000 in
/-- qm_luck -/
theorem qm_luck (l : Launch) (dC : Nat → ClassId) (dI : Nat → Nat → Nat) (cs : Nat → ClassId) (ad : Nat → Nat) (mu : Nat → Nat → Int32) (ok : okR loM hiM mu) (H : Heap) (hP : va_P (dC, dI) vwCl (wR 21 ad (EM cs ad) mu) H) (hD0 : va_D (fun _ => True) (wR 21 ad (EM cs ad) mu)) (vn : Int32) (vs : Int32) : Met l yX12_luck (wU yX12_luck cX12_luck 11 (some .int)) ({ frames := 3, cells := 0, slots := 0, locals := 73 }) (va_Pc [.ref (ad 0), .int vn, .int vs] (sz_P (dC, dI) vwCl (tyM cs) H)) (va_Qi (fun (z : Int32) (xi : Nat → Nat → Int32) => (z, xi) = F_qm_luck mu vn vs ∧ okR loM hiM xi ∧ (True) ∧ (∀ k f : Nat, Nat.testBit 358 (gpM k f) = true → xi k f = mu k f)) (fun xi t => va_P (dC, dI) vwCl (wR 21 ad (EM cs ad) xi) t.heap) (va_A (wR 21 ad (EM cs ad) mu) H.size)) 0 0 (va_A (wR 21 ad (EM cs ad) mu) H.size) := by
  refine Met.ofW (cc := cX12_luck) (maxL := 11) (ret := (some .int)) (by decide) rfl ?_
  intro p e s m args below meth c s₁ B hml hv
  obtain ⟨rfl, hh, hK, hz⟩ := hv
  have hx := B.exec
  have hb := B.bytes
  have hr := B.returns
  have hts := atoms_spec (ws := (wU yX12_luck cX12_luck 11 (some .int))) B.pre
  have hown : s.vm.findClass RX12 = some m.cls := findClass_of_methodNamed B.named
  have hlocks := B.notSynchronized
  subst hh
  have hD := hD0.self (sz := s.heap.size)
  have hA : ∀ q : Nat, s.heap.size ≤ q → (va_A (wR 21 ad (EM cs ad) mu) s.heap.size) q := fun q h => Or.inr h
  have hS : va_S (va_A (wR 21 ad (EM cs ad) mu) s.heap.size) s.heap s.heap [] := va_S.rf
  have hl := lv_entry ([.ref (ad 0), .int vn, .int vs]) (n := 11) (Nat.le_of_ble_eq_true rfl)
  rw [lg_entry_eq]
  generalize (lg_sl ([.ref (ad 0), .int vn, .int vs]) ++ List.replicate (11 - (lg_sl ([.ref (ad 0), .int vn, .int vs])).length) Slot.unset).toArray = ls at hl ⊢
  have hl : lv_has ls 11 [(0, .ref (ad 0)), (1, .int vn), (2, .int vs)] := hl
  obtain ⟨fz, hfz⟩ : ∃ z, F_qm_luck mu vn vs = z := ⟨_, rfl⟩
  have hF := hfz
  unfold F_qm_luck at hF
  refine lv_iload_n hx hb dX12_luck_0 rfl (lv_at hl 1 rfl) ?_
  refine lv_iconst (v := 1) hx hb dX12_luck_1 (by decide) ?_
  refine lv_bipush (v := 40) hx hb dX12_luck_2 (by decide) ?_
  refine cr_i (va_runS (As := [.int vn, .int 1, .int 40]) (rest := []) ⟨hx, hb, hml, hown, hts⟩ (sm_in l dC dI (tyM cs) s.heap vn 1 40) (va_cwS 3 hts (wU_S mw_5_189 mw_5_187 mw_5_188 mw_1_13) rfl rfl rfl (by decide +kernel) ⟨Nat.le_of_ble_eq_true rfl, Nat.le_of_ble_eq_true rfl⟩) ⟨sz_c, sz_m hK hz⟩ rfl rfl hl.1 rfl (lv_room (Nat.le_of_ble_eq_true rfl)) dX12_luck_4 ⟨Nat.zero_le _, Nat.zero_le _⟩) hS (fun r1 hw1 locs hS => ?_)
  obtain ⟨hfe1, hw1⟩ := hw1
  rcases hw1 with ⟨rfl, f1⟩ | ⟨rfl, f1⟩
  · have hF := (if_pos hfe1.symm).symm.trans hF
    have f1 : (1 : Int) ≤ vn.toInt ∧ vn.toInt ≤ (40 : Int) := f1
    refine lv_if_eq (tgt := 21) hx hb dX12_luck_7 (by decide) (fun c => absurd c (by decide)) (fun _ => ?_)
    refine lv_iload_n hx hb dX12_luck_10 rfl (lv_at hl 2 rfl) ?_
    refine lv_iconst (v := 1) hx hb dX12_luck_11 (by decide) ?_
    refine lv_ldcw (v := 2147483646) hx hb hown (hts _ (List.mem_cons_of_mem _ mw_7_37)) dX12_luck_12 ?_
    refine cr_i (va_runS (As := [.int vs, .int 1, .int 2147483646]) (rest := []) ⟨hx, hb, hml, hown, hts⟩ (sm_in l dC dI (tyM cs) s.heap vs 1 2147483646) (va_cwS 3 hts (wU_S mw_5_189 mw_5_187 mw_5_188 mw_1_13) rfl rfl rfl (by decide +kernel) ⟨Nat.le_of_ble_eq_true rfl, Nat.le_of_ble_eq_true rfl⟩) ⟨sz_c, sz_m hK hz⟩ rfl rfl hl.1 rfl (lv_room (Nat.le_of_ble_eq_true rfl)) dX12_luck_15 ⟨Nat.zero_le _, Nat.zero_le _⟩) hS (fun r2 hw2 locs hS => ?_)
    obtain ⟨hfe2, hw2⟩ := hw2
    rcases hw2 with ⟨rfl, f2⟩ | ⟨rfl, f2⟩
    · have hF := (if_pos hfe2.symm).symm.trans hF
      have f2 : (1 : Int) ≤ vs.toInt ∧ vs.toInt ≤ (2147483646 : Int) := f2
      refine lv_if_ne (tgt := 23) hx hb dX12_luck_18 (by decide) (fun _ => ?_) (fun c => absurd c (by decide))
      refine lv_aload_n hx hb dX12_luck_23 rfl (lv_at hl 0 rfl) ?_
      refine va_get (D := (dC, dI)) (ci := 12) (v := .int (mu 0 8)) (C := RX12) (T := TX12) (N := 46) hx hb hts inG12 hown hK hP 0 (gM_0 cs ad mu) rfl 8 (by decide) (hts _ (List.mem_cons_of_mem _ mw_5_49)) (fun _ h9 => h9) rfl dX12_luck_24 ?_
      refine lv_topi (fun y3 ey3 => ?_)
      have hF := mi_let hF ey3
      have by3 : y3.toInt = (mu 0 8).toInt := congrArg Int32.toInt ey3
      have gy3 : 0 ≤ y3.toInt ∧ y3.toInt ≤ 7 := by rw [ey3]; exact rM_0_8 ok
      refine lv_if_ne (tgt := 33) hx hb dX12_luck_27 (by decide) (fun c_4 => ?_) (fun c_4 => ?_)
      · have hF := (if_neg c_4).symm.trans hF
        have c_4 : ¬ y3.toInt = 0 := il_ne c_4
        refine lv_aload_n hx hb dX12_luck_33 rfl (lv_at hl 0 rfl) ?_
        refine va_get (D := (dC, dI)) (ci := 12) (v := .int (mu 0 14)) (C := RX12) (T := TX12) (N := 46) hx hb hts inG12 hown hK hP 0 (gM_0 cs ad mu) rfl 14 (by decide) (hts _ (List.mem_cons_of_mem _ mw_5_55)) (fun _ h9 => h9) rfl dX12_luck_34 ?_
        refine lv_topi (fun y5 ey5 => ?_)
        have hF := mi_let hF ey5
        have by5 : y5.toInt = (mu 0 14).toInt := congrArg Int32.toInt ey5
        refine lv_iload_n hx hb dX12_luck_37 rfl (lv_at hl 1 rfl) ?_
        refine lv_iadd hx hb dX12_luck_38 ?_
        refine lv_topi (fun t6 et6 => ?_)
        have hF := mi_let hF et6
        refine lv_bipush (v := 99) hx hb dX12_luck_39 (by decide) ?_
        refine lv_icmp_le (tgt := 47) hx hb dX12_luck_41 (by decide) (fun c_7 => ?_) (fun c_7 => ?_)
        · have hF := (if_pos c_7).symm.trans hF
          have c_7 : t6.toInt ≤ 99 := il_le c_7
          refine lv_iload_n hx hb dX12_luck_47 rfl (lv_at hl 2 rfl) ?_
          refine lv_i2l hx hb dX12_luck_48 rfl ?_
          refine lv_topl (fun l8 el8 => ?_)
          have hF := mi_let hF el8
          have al8 : l8.toInt = vs.toInt := by rw [el8]; exact Int32.toInt_toInt64 _
          refine lv_lstore_n (lv' := [(3, .long l8), (0, .ref (ad 0)), (1, .int vn), (2, .int vs)]) hx hb dX12_luck_49 rfl hl (by decide) rfl (fun ls hl => ?_)
          refine lv_iconst (v := 0) hx hb dX12_luck_50 (by decide) ?_
          refine lv_istore (lv' := [(5, .int 0), (3, .long l8), (0, .ref (ad 0)), (1, .int vn), (2, .int vs)]) hx hb dX12_luck_51 hl (by decide) rfl (fun ls hl => ?_)
          refine lv_iconst (v := 0) hx hb dX12_luck_53 (by decide) ?_
          refine lv_istore (lv' := [(6, .int 0), (5, .int 0), (3, .long l8), (0, .ref (ad 0)), (1, .int vn), (2, .int vs)]) hx hb dX12_luck_54 hl (by decide) rfl (fun ls hl => ?_)
          have loop56 : ∀ (n56 : Nat) (v3_56 : Int64) (v5_56 : Int32) (v6_56 : Int32) (nu56_ : Nat → Nat → Int32) (H : Heap) (locs : List Loc) (ls : Array Slot), (40 + 1 - v6_56.toInt).toNat < n56 → (0 ≤ v3_56.toInt ∧ v3_56.toInt ≤ 2147483646) → (0 ≤ v6_56.toInt ∧ v6_56.toInt ≤ 40) → okR loM hiM nu56_ → va_P (dC, dI) vwCl (wR 21 ad (EM cs ad) nu56_) H → (∀ k f : Nat, Nat.testBit 358 (gpM k f) = true → nu56_ k f = mu k f) → L_qm_luck_56_0 mu vn n56 v3_56 v5_56 v6_56 nu56_ = fz → va_S (va_A (wR 21 ad (EM cs ad) mu) s.heap.size) s.heap H locs → lv_has ls 11 [(6, .int v6_56), (5, .int v5_56), (3, .long v3_56), (0, .ref (ad 0)), (1, .int vn), (2, .int vs)] → W p l e (headSpec (wU yX12_luck cX12_luck 11 (some .int)) ({ frames := 3, cells := 0, slots := 0, locals := 73 })).room s m ([.ref (ad 0), .int vn, .int vs] : List Value).toArray below meth c H locs 0 0 (MQ below (va_Qi (fun (z : Int32) (xi : Nat → Nat → Int32) => (z, xi) = F_qm_luck mu vn vs ∧ okR loM hiM xi ∧ (True) ∧ (∀ k f : Nat, Nat.testBit 358 (gpM k f) = true → xi k f = mu k f)) (fun xi t => va_P (dC, dI) vwCl (wR 21 ad (EM cs ad) xi) t.heap) (va_A (wR 21 ad (EM cs ad) mu) s.heap.size)) ([.ref (ad 0), .int vn, .int vs] : List Value).toArray s 0 0 (va_A (wR 21 ad (EM cs ad) mu) s.heap.size)) (F0 m 56 ls []) := by
            intro n56
            induction n56 with
            | zero => intro v3_56 v5_56 v6_56 nu56_ H locs ls hm; exact absurd hm (Nat.not_lt_zero _)
            | succ n56 ih56 =>
              intro v3_56 v5_56 v6_56 nu56_ H locs ls hm_56 h_v3_56 h_v6_56 ok hP kq56_0 hF hS hl
              rw [L_qm_luck_56_0] at hF
              refine lv_iload hx hb dX12_luck_56 (lv_at hl 0 rfl) ?_
              refine lv_iload_n hx hb dX12_luck_58 rfl (lv_at hl 4 rfl) ?_
              refine lv_icmp_ge (tgt := 212) hx hb dX12_luck_59 (by decide) (fun c_9 => ?_) (fun c_9 => ?_)
              · have hF := (if_pos c_9).symm.trans hF
                have c_9 : vn.toInt ≤ v6_56.toInt := il_le c_9
                refine lv_iload hx hb dX12_luck_212 (lv_at hl 1 rfl) ?_
                exact W.iret (v := v5_56) hx hb hr (fun t ht hW => ⟨⟨v5_56, nu56_, rfl, ⟨hF.trans hfz.symm, ok, trivial, kq56_0⟩, by first | (subst ht; exact hP) | (rw [ht]; exact hP) | (show va_P (dC, dI) vwCl (wR 21 ad (EM cs ad) nu56_) t.heap; rw [ht]; exact hP)⟩, hS.F ht⟩) hS.2.2 dX12_luck_214
              · have hF := (if_neg c_9).symm.trans hF
                have c_9 : v6_56.toInt < vn.toInt := il_nle c_9
                refine lv_iconst (v := 0) hx hb dX12_luck_62 (by decide) ?_
                refine lv_istore (lv' := [(7, .int 0), (6, .int v6_56), (5, .int v5_56), (3, .long v3_56), (0, .ref (ad 0)), (1, .int vn), (2, .int vs)]) hx hb dX12_luck_63 hl (by decide) rfl (fun ls hl => ?_)
                have loop65 : ∀ (n65 : Nat) (v3_65 : Int64) (v5_65 : Int32) (v7_65 : Int32) (nu65_ : Nat → Nat → Int32) (H : Heap) (locs : List Loc) (ls : Array Slot), (4 + 1 - v7_65.toInt).toNat < n65 → (0 ≤ v3_65.toInt ∧ v3_65.toInt ≤ 2147483646) → (0 ≤ v7_65.toInt ∧ v7_65.toInt ≤ 4) → okR loM hiM nu65_ → va_P (dC, dI) vwCl (wR 21 ad (EM cs ad) nu65_) H → (∀ k f : Nat, Nat.testBit 358 (gpM k f) = true → nu65_ k f = mu k f) → L_qm_luck_65_1 mu v6_56 (fun z_v3_56 z_v5_56 z_v6_56 z_nu56_ => L_qm_luck_56_0 mu vn n56 z_v3_56 z_v5_56 z_v6_56 z_nu56_) n65 v3_65 v5_65 v7_65 nu65_ = fz → va_S (va_A (wR 21 ad (EM cs ad) mu) s.heap.size) s.heap H locs → lv_has ls 11 [(7, .int v7_65), (6, .int v6_56), (5, .int v5_65), (3, .long v3_65), (0, .ref (ad 0)), (1, .int vn), (2, .int vs)] → W p l e (headSpec (wU yX12_luck cX12_luck 11 (some .int)) ({ frames := 3, cells := 0, slots := 0, locals := 73 })).room s m ([.ref (ad 0), .int vn, .int vs] : List Value).toArray below meth c H locs 0 0 (MQ below (va_Qi (fun (z : Int32) (xi : Nat → Nat → Int32) => (z, xi) = F_qm_luck mu vn vs ∧ okR loM hiM xi ∧ (True) ∧ (∀ k f : Nat, Nat.testBit 358 (gpM k f) = true → xi k f = mu k f)) (fun xi t => va_P (dC, dI) vwCl (wR 21 ad (EM cs ad) xi) t.heap) (va_A (wR 21 ad (EM cs ad) mu) s.heap.size)) ([.ref (ad 0), .int vn, .int vs] : List Value).toArray s 0 0 (va_A (wR 21 ad (EM cs ad) mu) s.heap.size)) (F0 m 65 ls []) := by
                  intro n65
                  induction n65 with
                  | zero => intro v3_65 v5_65 v7_65 nu65_ H locs ls hm; exact absurd hm (Nat.not_lt_zero _)
                  | succ n65 ih65 =>
                    intro v3_65 v5_65 v7_65 nu65_ H locs ls hm_65 h_v3_65 h_v7_65 ok hP kq65_0 hF hS hl
                    rw [L_qm_luck_65_1] at hF
                    refine lv_iload hx hb dX12_luck_65 (lv_at hl 0 rfl) ?_
                    refine lv_aload_n hx hb dX12_luck_67 rfl (lv_at hl 4 rfl) ?_
                    refine va_get (D := (dC, dI)) (ci := 12) (v := .int (nu65_ 0 15)) (C := RX12) (T := TX12) (N := 46) hx hb hts inG12 hown hK hP 0 (gM_0 cs ad nu65_) rfl 15 (by decide) (hts _ (List.mem_cons_of_mem _ mw_5_56)) (fun _ h9 => h9) rfl dX12_luck_68 ?_
                    refine lv_topi (fun y10 ey10 => ?_)
                    have hF := mi_let hF ey10
                    have by10 : y10.toInt = (nu65_ 0 15).toInt := congrArg Int32.toInt ey10
                    have gy10 : 0 ≤ y10.toInt ∧ y10.toInt ≤ 4 := by rw [ey10]; exact rM_0_15 ok
                    refine lv_icmp_ge (tgt := 196) hx hb dX12_luck_71 (by decide) (fun c_11 => ?_) (fun c_11 => ?_)
                    · have hF := (if_pos c_11).symm.trans hF
                      have c_11 : y10.toInt ≤ v7_65.toInt := il_le c_11
                      refine lv_aload_n hx hb dX12_luck_196 rfl (lv_at hl 4 rfl) ?_
                      refine lv_dup hx hb dX12_luck_197 rfl ?_
                      refine va_get (D := (dC, dI)) (ci := 12) (v := .int (nu65_ 0 14)) (C := RX12) (T := TX12) (N := 46) hx hb hts inG12 hown hK hP 0 (gM_0 cs ad nu65_) rfl 14 (by decide) (hts _ (List.mem_cons_of_mem _ mw_5_55)) (fun _ h9 => h9) rfl dX12_luck_198 ?_
                      refine lv_topi (fun y12 ey12 => ?_)
                      have hF := mi_let hF ey12
                      have by12 : y12.toInt = (nu65_ 0 14).toInt := congrArg Int32.toInt ey12
                      refine lv_iconst (v := 1) hx hb dX12_luck_201 (by decide) ?_
                      refine lv_iadd hx hb dX12_luck_202 ?_
                      refine lv_topi (fun t13 et13 => ?_)
                      have hF := mi_let hF et13
                      refine va_put (D := (dC, dI)) (ci := 12) (v := .int t13) (ty := .int) (C := RX12) (T := TX12) (N := 46) hx hb hts inG12 tyX12 tyX12_ok nmX12 hown hK hP (wR_D nu65_ hD) hS 0 (gM_0 cs ad nu65_) rfl 14 (by decide) (hts _ (List.mem_cons_of_mem _ mw_5_55)) (fun _ h9 => h9) rfl (by decide +kernel) rfl rfl (Nat.le_of_ble_eq_true rfl) dX12_luck_203 (fun H locs hP _ hS => ?_)
                      simp only [List.set_cons_succ, List.set_cons_zero] at hP
                      refine wr_gen (upd (nu65_ 0) 14 t13) hP ((hM_0_14 cs ad _ _)) (fun nu14 hn14 hP => ?_)
                      have hF := mi_let hF hn14.symm
                      have ok := tM_0_14 ok hn14
                      have ez15 : y10 = nu14 0 15 := ey10.trans (up_f hn14 (by decide)).symm
                      have kp16 : (∀ k f : Nat, Nat.testBit 358 (gpM k f) = true → nu14 k f = mu k f) := kp_f hn14 (by decide) kq65_0
                      have ez17 : t13 = nu14 0 14 := up_v hn14
                      refine lv_iinc (v := (v6_56 + 1)) (lv' := [(6, .int (v6_56 + 1)), (7, .int v7_65), (5, .int v5_65), (3, .long v3_65), (0, .ref (ad 0)), (1, .int vn), (2, .int vs)]) hx hb dX12_luck_206 hl (k := 1) rfl rfl (by decide) rfl (fun ls hl => ?_)
                      refine loc_gen (P := fun w9 => lv_has ls 11 [(6, .int w9), (7, .int v7_65), (5, .int v5_65), (3, .long v3_65), (0, .ref (ad 0)), (1, .int vn), (2, .int vs)]) (v6_56 + 1) hl (fun w18 hw18 hl => ?_)
                      have hl : lv_has ls 11 [(6, .int w18), (7, .int v7_65), (5, .int v5_65), (3, .long v3_65), (0, .ref (ad 0)), (1, .int vn), (2, .int vs)] := hl
                      have hF := mi_let hF hw18.symm
                      have aw18 : w18.toInt = v6_56.toInt + 1 := by rw [← hw18]; exact va1 (by omega)
                      refine lv_goto (tgt := 56) hx hb dX12_luck_209 (by decide) ?_
                      exact ih56 (v3_65) (v5_65) (w18) nu14 _ _ _ (by first | exact ms_lt hm_56 (by omega) (by omega) | omega) (by omega) (by omega)  ok hP  kp16 hF hS (lv_sub hl [0, 2, 3, 4, 5, 6] rfl)
                    · have hF := (if_neg c_11).symm.trans hF
                      have c_11 : v7_65.toInt < y10.toInt := il_nle c_11
                      refine lv_aload_n hx hb dX12_luck_74 rfl (lv_at hl 4 rfl) ?_
                      refine lv_iload hx hb dX12_luck_75 (lv_at hl 0 rfl) ?_
                      refine cr_i (va_runV (As := [.int v7_65]) (rest := []) ⟨hx, hb, hml, hown, hts⟩ (sm_canSell l dC dI cs ad nu65_ ok H hP v7_65 (by omega)) (cwV 1 hts (wU_V mw_6_118 mw_6_115 mw_6_117 mw_0_47 mw_1_13) rfl rfl rfl (by decide +kernel) ⟨Nat.le_of_ble_eq_true rfl, Nat.le_of_ble_eq_true rfl⟩) ⟨sz_c, va_recv hK hP (ci := 12) (q0 := 0) rfl (gM_0 cs ad nu65_), sz_m hK hz⟩ rfl rfl hl.1 rfl (lv_room (Nat.le_of_ble_eq_true rfl)) dX12_luck_77 ⟨Nat.zero_le _, Nat.zero_le _⟩) hS (fun r19 hw19 locs hS => ?_)
                      obtain ⟨hfe19, hw19⟩ := hw19
                      have hF := mi_let hF hfe19
                      have gr19 : 0 ≤ r19.toInt ∧ r19.toInt ≤ 127 := hw19
                      refine lv_istore (lv' := [(8, .int r19), (7, .int v7_65), (6, .int v6_56), (5, .int v5_65), (3, .long v3_65), (0, .ref (ad 0)), (1, .int vn), (2, .int vs)]) hx hb dX12_luck_80 hl (by decide) rfl (fun ls hl => ?_)
                      refine lv_iload hx hb dX12_luck_82 (lv_at hl 0 rfl) ?_
                      refine lv_if_eq (tgt := 99) hx hb dX12_luck_84 (by decide) (fun c_20 => ?_) (fun c_20 => ?_)
                      · have hF := (if_pos c_20).symm.trans hF
                        have c_20 : r19.toInt = 0 := il_eq c_20
                        refine lv_iload hx hb dX12_luck_99 (lv_at hl 0 rfl) ?_
                        refine lv_if_eq (tgt := 190) hx hb dX12_luck_101 (by decide) (fun c_21 => ?_) (fun c_21 => by have c_21 : ¬ r19.toInt = 0 := il_ne c_21; exfalso; omega)
                        have c_21 : r19.toInt = 0 := il_eq c_21
                        refine lv_iinc (v := (v7_65 + 1)) (lv' := [(7, .int (v7_65 + 1)), (8, .int r19), (6, .int v6_56), (5, .int v5_65), (3, .long v3_65), (0, .ref (ad 0)), (1, .int vn), (2, .int vs)]) hx hb dX12_luck_190 hl (k := 1) rfl rfl (by decide) rfl (fun ls hl => ?_)
                        refine loc_gen (P := fun w9 => lv_has ls 11 [(7, .int w9), (8, .int r19), (6, .int v6_56), (5, .int v5_65), (3, .long v3_65), (0, .ref (ad 0)), (1, .int vn), (2, .int vs)]) (v7_65 + 1) hl (fun w22 hw22 hl => ?_)
                        have hl : lv_has ls 11 [(7, .int w22), (8, .int r19), (6, .int v6_56), (5, .int v5_65), (3, .long v3_65), (0, .ref (ad 0)), (1, .int vn), (2, .int vs)] := hl
                        have hF := mi_let hF hw22.symm
                        have aw22 : w22.toInt = v7_65.toInt + 1 := by rw [← hw22]; exact va1 (by omega)
                        refine lv_goto (tgt := 65) hx hb dX12_luck_193 (by decide) ?_
                        exact ih65 (v3_65) (v5_65) (w22) nu65_ _ _ _ (by first | exact ms_lt hm_65 (by omega) (by omega) | omega) (by omega) (by omega)  ok hP  kq65_0 hF hS (lv_sub hl [0, 2, 3, 4, 5, 6, 7] rfl)
                      · have hF := (if_neg c_20).symm.trans hF
                        have c_20 : ¬ r19.toInt = 0 := il_ne c_20
                        refine lv_aload_n hx hb dX12_luck_87 rfl (lv_at hl 5 rfl) ?_
                        refine va_get (D := (dC, dI)) (ci := 12) (v := .int (nu65_ 0 17)) (C := RX12) (T := TX12) (N := 46) hx hb hts inG12 hown hK hP 0 (gM_0 cs ad nu65_) rfl 17 (by decide) (hts _ (List.mem_cons_of_mem _ mw_5_58)) (fun _ h9 => h9) rfl dX12_luck_88 ?_
                        refine lv_topi (fun y23 ey23 => ?_)
                        have hF := mi_let hF ey23
                        have by23 : y23.toInt = (nu65_ 0 17).toInt := congrArg Int32.toInt ey23
                        have gy23 : 0 ≤ y23.toInt ∧ y23.toInt ≤ 40 := by rw [ey23]; exact rM_0_17 ok
                        refine lv_bipush (v := 40) hx hb dX12_luck_91 (by decide) ?_
                        refine lv_icmp_ne (tgt := 99) hx hb dX12_luck_93 (by decide) (fun c_24 => ?_) (fun c_24 => ?_)
                        · have hF := (if_neg c_24).symm.trans hF
                          have c_24 : ¬ y23.toInt = 40 := il_ne c_24
                          refine lv_iload hx hb dX12_luck_99 (lv_at hl 0 rfl) ?_
                          refine lv_if_eq (tgt := 190) hx hb dX12_luck_101 (by decide) (fun c_25 => by have c_25 : r19.toInt = 0 := il_eq c_25; exfalso; omega) (fun c_25 => ?_)
                          have c_25 : ¬ r19.toInt = 0 := il_ne c_25
                          refine lv_ldc2 (v := 48271) hx hb hown (hts _ (List.mem_cons_of_mem _ mw_7_38)) dX12_luck_104 ?_
                          refine lv_lload_n hx hb dX12_luck_107 rfl (lv_at hl 4 rfl) ?_
                          refine lv_lmul hx hb dX12_luck_108 ?_
                          refine lv_topl (fun l26 el26 => ?_)
                          have hF := mi_let hF el26
                          refine lv_ldc2 (v := 2147483647) hx hb hown (hts _ (List.mem_cons_of_mem _ mw_7_39)) dX12_luck_109 ?_
                          refine lv_lrem hx hb dX12_luck_112 (by decide) ?_
                          refine lv_topl (fun l27 el27 => ?_)
                          have hF := mi_let hF el27
                          have gl27 : 0 ≤ l27.toInt ∧ l27.toInt ≤ 2147483646 := lot_rng (n := v3_65) ⟨by omega, by omega⟩ el26 (el27.trans (lrem_eq _ _))
                          refine lv_lstore_n (lv' := [(3, .long l27), (8, .int r19), (7, .int v7_65), (6, .int v6_56), (5, .int v5_65), (0, .ref (ad 0)), (1, .int vn), (2, .int vs)]) hx hb dX12_luck_113 rfl hl (by decide) rfl (fun ls hl => ?_)
                          refine lv_lload_n hx hb dX12_luck_114 rfl (lv_at hl 0 rfl) ?_
                          refine lv_iload hx hb dX12_luck_115 (lv_at hl 1 rfl) ?_
                          refine cr_i (va_runS (As := [.int r19]) (rest := [.long l27]) ⟨hx, hb, hml, hown, hts⟩ (sm_sizeOf l dC dI (tyM cs) H r19) (va_cwS 1 hts (wU_S mw_6_62 mw_6_60 mw_6_61 mw_1_13) rfl rfl rfl (by decide +kernel) ⟨Nat.le_of_ble_eq_true rfl, Nat.le_of_ble_eq_true rfl⟩) ⟨sz_c, sz_m hK hz⟩ rfl rfl hl.1 rfl (lv_room (Nat.le_of_ble_eq_true rfl)) dX12_luck_117 ⟨Nat.zero_le _, Nat.zero_le _⟩) hS (fun r28 hw28 locs hS => ?_)
                          obtain ⟨hfe28, hw28⟩ := hw28
                          have hF := mi_let hF hfe28
                          have gr28 : r28 = so r19 ∧ (0 ≤ r19.toInt → r19.toInt ≤ 127 → r28.toInt = (pp r19.toNatClampNeg : Int) ∧ pp r19.toNatClampNeg ≤ 7 ∧ (r19.toInt = 0 ∨ 1 ≤ pp r19.toNatClampNeg)) := hw28
                          refine lv_i2l hx hb dX12_luck_120 rfl ?_
                          refine lv_topl (fun l29 el29 => ?_)
                          have hF := mi_let hF el29
                          have al29 : l29.toInt = r28.toInt := by rw [el29]; exact Int32.toInt_toInt64 _
                          refine lv_lrem hx hb dX12_luck_121 (by rw [el29]; exact l_ne (by omega)) ?_
                          refine lv_topl (fun l30 el30 => ?_)
                          have hF := mi_let hF el30
                          have gl30 : 0 ≤ l30.toInt ∧ l30.toInt < r28.toInt := by rw [el30, lrem_eq]; exact lrem_rng (by omega) al29 (by omega)
                          refine lv_l2i hx hb dX12_luck_122 rfl ?_
                          refine lv_topi (fun t31 et31 => ?_)
                          have hF := mi_let hF et31
                          have at31 : t31.toInt = l30.toInt := l2i_of et31 (by omega) (by omega)
                          refine lv_istore (lv' := [(9, .int t31), (3, .long l27), (8, .int r19), (7, .int v7_65), (6, .int v6_56), (5, .int v5_65), (0, .ref (ad 0)), (1, .int vn), (2, .int vs)]) hx hb dX12_luck_123 hl (by decide) rfl (fun ls hl => ?_)
                          refine lv_iconst (v := 0) hx hb dX12_luck_125 (by decide) ?_
                          refine lv_istore (lv' := [(10, .int 0), (9, .int t31), (3, .long l27), (8, .int r19), (7, .int v7_65), (6, .int v6_56), (5, .int v5_65), (0, .ref (ad 0)), (1, .int vn), (2, .int vs)]) hx hb dX12_luck_126 hl (by decide) rfl (fun ls hl => ?_)
                          have loop128 : ∀ (n128 : Nat) (v9_128 : Int32) (v10_128 : Int32) (nu128_ : Nat → Nat → Int32) (H : Heap) (locs : List Loc) (ls : Array Slot), (7 + 1 - v10_128.toInt).toNat < n128 → (0 ≤ v9_128.toInt ∧ v9_128.toInt ≤ 6) → (0 ≤ v10_128.toInt ∧ v10_128.toInt ≤ 7) → (v9_128.toInt < (ab (r19 : Int32).toNatClampNeg v10_128.toNatClampNeg : Int)) → okR loM hiM nu128_ → va_P (dC, dI) vwCl (wR 21 ad (EM cs ad) nu128_) H → y23 = nu128_ 0 17 → (∀ k f : Nat, Nat.testBit 358 (gpM k f) = true → nu128_ k f = mu k f) → L_qm_luck_128_2 l27 mu r19 v5_65 v7_65 (fun z_v3_65 z_v5_65 z_v7_65 z_nu65_ => L_qm_luck_65_1 mu v6_56 (fun z_v3_56 z_v5_56 z_v6_56 z_nu56_ => L_qm_luck_56_0 mu vn n56 z_v3_56 z_v5_56 z_v6_56 z_nu56_) n65 z_v3_65 z_v5_65 z_v7_65 z_nu65_) n128 v9_128 v10_128 nu128_ = fz → va_S (va_A (wR 21 ad (EM cs ad) mu) s.heap.size) s.heap H locs → lv_has ls 11 [(10, .int v10_128), (9, .int v9_128), (3, .long l27), (8, .int r19), (7, .int v7_65), (6, .int v6_56), (5, .int v5_65), (0, .ref (ad 0)), (1, .int vn), (2, .int vs)] → W p l e (headSpec (wU yX12_luck cX12_luck 11 (some .int)) ({ frames := 3, cells := 0, slots := 0, locals := 73 })).room s m ([.ref (ad 0), .int vn, .int vs] : List Value).toArray below meth c H locs 0 0 (MQ below (va_Qi (fun (z : Int32) (xi : Nat → Nat → Int32) => (z, xi) = F_qm_luck mu vn vs ∧ okR loM hiM xi ∧ (True) ∧ (∀ k f : Nat, Nat.testBit 358 (gpM k f) = true → xi k f = mu k f)) (fun xi t => va_P (dC, dI) vwCl (wR 21 ad (EM cs ad) xi) t.heap) (va_A (wR 21 ad (EM cs ad) mu) s.heap.size)) ([.ref (ad 0), .int vn, .int vs] : List Value).toArray s 0 0 (va_A (wR 21 ad (EM cs ad) mu) s.heap.size)) (F0 m 128 ls []) := by
                            intro n128
                            induction n128 with
                            | zero => intro v9_128 v10_128 nu128_ H locs ls hm; exact absurd hm (Nat.not_lt_zero _)
                            | succ n128 ih128 =>
                              intro v9_128 v10_128 nu128_ H locs ls hm_128 h_v9_128 h_v10_128 hi128_0 ok hP ek128_0 kq128_0 hF hS hl
                              rw [L_qm_luck_128_2] at hF
                              have h10_6 : v10_128.toInt ≤ 6 := by
                                rcases Int.lt_or_le v10_128.toInt 7 with h7 | h7
                                · omega
                                · exfalso
                                  have u1 := tC_of (v := v10_128) (by omega)
                                  have u2 := tC_of (v := (r19 : Int32)) (by omega)
                                  rw [show v10_128.toNatClampNeg = 7 by omega, ab_7 _ (by omega)] at hi128_0
                                  omega
                              refine lv_iload hx hb dX12_luck_128 (lv_at hl 3 rfl) ?_
                              refine lv_iload hx hb dX12_luck_130 (lv_at hl 0 rfl) ?_
                              refine cr_i (va_runS (As := [.int r19, .int v10_128]) (rest := []) ⟨hx, hb, hml, hown, hts⟩ (sm_has l dC dI (tyM cs) H r19 v10_128) (va_cwS 2 hts (wU_S mw_6_59 mw_6_57 mw_6_58 mw_1_13) rfl rfl rfl (by decide +kernel) ⟨Nat.le_of_ble_eq_true rfl, Nat.le_of_ble_eq_true rfl⟩) ⟨sz_c, sz_m hK hz⟩ rfl rfl hl.1 rfl (lv_room (Nat.le_of_ble_eq_true rfl)) dX12_luck_132 ⟨Nat.zero_le _, Nat.zero_le _⟩) hS (fun r32 hw32 locs hS => ?_)
                              obtain ⟨hfe32, hw32⟩ := hw32
                              rcases hw32 with ⟨rfl, f32⟩ | ⟨rfl, f32⟩
                              · have hF := (if_pos hfe32.symm).symm.trans hF
                                have f32 : rb r19 v10_128 = 1 := f32
                                refine lv_if_eq (tgt := 143) hx hb dX12_luck_135 (by decide) (fun c => absurd c (by decide)) (fun _ => ?_)
                                refine lv_iload hx hb dX12_luck_138 (lv_at hl 1 rfl) ?_
                                refine lv_if_le (tgt := 169) hx hb dX12_luck_140 (by decide) (fun c_33 => ?_) (fun c_33 => ?_)
                                · have hF := (if_pos c_33).symm.trans hF
                                  have c_33 : v9_128.toInt ≤ 0 := il_le c_33
                                  refine lv_aload_n hx hb dX12_luck_169 rfl (lv_at hl 7 rfl) ?_
                                  refine lv_iload hx hb dX12_luck_170 (lv_at hl 4 rfl) ?_
                                  refine lv_iload hx hb dX12_luck_172 (lv_at hl 0 rfl) ?_
                                  have hFc := fr_all (wR_D nu128_ hD) hS hA
                                  refine va_callv (va_runV (As := [.int v7_65, .int v10_128]) (rest := []) ⟨hx, hb, hml, hown, hts⟩ (sm_sellTo l dC dI cs ad nu128_ ok H hP ((wR_D nu128_ hD).weaken (fun _ _ _ _ => trivial)) v7_65 v10_128 (by omega) (by have hb34 := congrArg Int32.toInt ek128_0; omega)) (cwV 2 hts (wU_V mw_6_130 mw_6_127 mw_6_129 mw_0_50 mw_1_13) rfl rfl rfl (by decide +kernel) ⟨Nat.le_of_ble_eq_true rfl, Nat.le_of_ble_eq_true rfl⟩) ⟨sz_c, va_recv hK hP (ci := 12) (q0 := 0) rfl (gM_0 cs ad nu128_), sz_m hK hz⟩ rfl rfl hl.1 rfl (lv_room (Nat.le_of_ble_eq_true rfl)) dX12_luck_174 ⟨Nat.zero_le _, Nat.zero_le _⟩) hS (fun q _ h => hFc q h) hFc (fun xi35 t H35 locs ht hvm hw35 hB hz1 hk1 hS => ?_)
                                  have hP : va_P (dC, dI) vwCl (wR 21 ad (EM cs ad) xi35) H35 := by rw [← ht]; exact hB
                                  obtain ⟨hfe35, ok, hw35, hkp35_0⟩ := hw35
                                  have hF := mi_let hF hfe35
                                  have kp36 : (∀ k f : Nat, Nat.testBit 358 (gpM k f) = true → xi35 k f = mu k f) := kp_t hkp35_0 (by decide) kq128_0
                                  refine lv_iload hx hb dX12_luck_177 (lv_at hl 6 rfl) ?_
                                  refine lv_aload_n hx hb dX12_luck_179 rfl (lv_at hl 7 rfl) ?_
                                  refine lv_iload hx hb dX12_luck_180 (lv_at hl 4 rfl) ?_
                                  refine lv_bipush (v := 9) hx hb dX12_luck_182 (by decide) ?_
                                  refine cr_i (va_runV (As := [.int v7_65, .int 9]) (rest := [.int v5_65]) ⟨hx, hb, hml, hown, hts⟩ (sm_letterOf l dC dI cs ad xi35 ok H35 hP v7_65 9 (by have h51 : (9 : Int32).toInt = 9 := rfl; omega)) (cwV 2 hts (wU_V mw_6_48 mw_6_45 mw_6_47 mw_0_38 mw_1_13) rfl rfl rfl (by decide +kernel) ⟨Nat.le_of_ble_eq_true rfl, Nat.le_of_ble_eq_true rfl⟩) ⟨sz_c, va_recv hK hP (ci := 12) (q0 := 0) rfl (gM_0 cs ad xi35), sz_m hK hz⟩ rfl rfl hl.1 rfl (lv_room (Nat.le_of_ble_eq_true rfl)) dX12_luck_184 ⟨Nat.zero_le _, Nat.zero_le _⟩) hS (fun r37 hw37 locs hS => ?_)
                                  obtain ⟨hfe37, hw37⟩ := hw37
                                  have hF := mi_let hF hfe37
                                  refine lv_iadd hx hb dX12_luck_187 ?_
                                  refine lv_topi (fun t38 et38 => ?_)
                                  have hF := mi_let hF et38
                                  refine lv_istore (lv' := [(5, .int t38), (10, .int v10_128), (9, .int v9_128), (3, .long l27), (8, .int r19), (7, .int v7_65), (6, .int v6_56), (0, .ref (ad 0)), (1, .int vn), (2, .int vs)]) hx hb dX12_luck_188 hl (by decide) rfl (fun ls hl => ?_)
                                  refine lv_iinc (v := (v7_65 + 1)) (lv' := [(7, .int (v7_65 + 1)), (5, .int t38), (10, .int v10_128), (9, .int v9_128), (3, .long l27), (8, .int r19), (6, .int v6_56), (0, .ref (ad 0)), (1, .int vn), (2, .int vs)]) hx hb dX12_luck_190 hl (k := 5) rfl rfl (by decide) rfl (fun ls hl => ?_)
                                  refine loc_gen (P := fun w9 => lv_has ls 11 [(7, .int w9), (5, .int t38), (10, .int v10_128), (9, .int v9_128), (3, .long l27), (8, .int r19), (6, .int v6_56), (0, .ref (ad 0)), (1, .int vn), (2, .int vs)]) (v7_65 + 1) hl (fun w39 hw39 hl => ?_)
                                  have hl : lv_has ls 11 [(7, .int w39), (5, .int t38), (10, .int v10_128), (9, .int v9_128), (3, .long l27), (8, .int r19), (6, .int v6_56), (0, .ref (ad 0)), (1, .int vn), (2, .int vs)] := hl
                                  have hF := mi_let hF hw39.symm
                                  have aw39 : w39.toInt = v7_65.toInt + 1 := by rw [← hw39]; exact va1 (by omega)
                                  refine lv_goto (tgt := 65) hx hb dX12_luck_193 (by decide) ?_
                                  exact ih65 (l27) (t38) (w39) xi35 _ _ _ (by first | exact ms_lt hm_65 (by omega) (by omega) | omega) (by omega) (by omega)  ok hP  kp36 hF hS (lv_sub hl [0, 6, 1, 4, 7, 8, 9] rfl)
                                · have hF := (if_neg c_33).symm.trans hF
                                  have c_33 : 0 < v9_128.toInt := il_nle c_33
                                  refine lv_iload hx hb dX12_luck_143 (lv_at hl 1 rfl) ?_
                                  refine lv_iload hx hb dX12_luck_145 (lv_at hl 3 rfl) ?_
                                  refine lv_iload hx hb dX12_luck_147 (lv_at hl 0 rfl) ?_
                                  refine cr_i (va_runS (As := [.int r19, .int v10_128]) (rest := [.int v9_128]) ⟨hx, hb, hml, hown, hts⟩ (sm_has l dC dI (tyM cs) H r19 v10_128) (va_cwS 2 hts (wU_S mw_6_59 mw_6_57 mw_6_58 mw_1_13) rfl rfl rfl (by decide +kernel) ⟨Nat.le_of_ble_eq_true rfl, Nat.le_of_ble_eq_true rfl⟩) ⟨sz_c, sz_m hK hz⟩ rfl rfl hl.1 rfl (lv_room (Nat.le_of_ble_eq_true rfl)) dX12_luck_149 ⟨Nat.zero_le _, Nat.zero_le _⟩) hS (fun r40 hw40 locs hS => ?_)
                                  obtain ⟨hfe40, hw40⟩ := hw40
                                  rcases hw40 with ⟨rfl, f40⟩ | ⟨rfl, f40⟩
                                  · have hF := (if_pos hfe40.symm).symm.trans hF
                                    have f40 : rb r19 v10_128 = 1 := f40
                                    refine lv_if_eq (tgt := 159) hx hb dX12_luck_152 (by decide) (fun c => absurd c (by decide)) (fun _ => ?_)
                                    refine lv_iconst (v := 1) hx hb dX12_luck_155 (by decide) ?_
                                    refine lv_goto (tgt := 160) hx hb dX12_luck_156 (by decide) ?_
                                    refine lv_isub hx hb dX12_luck_160 ?_
                                    refine lv_topi (fun t41 et41 => ?_)
                                    have hF := mi_let hF et41
                                    have at41 : t41.toInt = v9_128.toInt - 1 := by rw [et41]; exact tI_sub (rfl : v9_128.toInt = _) (rfl : (1 : Int32).toInt = 1) (by omega) (by omega)
                                    refine lv_istore (lv' := [(9, .int t41), (10, .int v10_128), (3, .long l27), (8, .int r19), (7, .int v7_65), (6, .int v6_56), (5, .int v5_65), (0, .ref (ad 0)), (1, .int vn), (2, .int vs)]) hx hb dX12_luck_161 hl (by decide) rfl (fun ls hl => ?_)
                                    refine lv_iinc (v := (v10_128 + 1)) (lv' := [(10, .int (v10_128 + 1)), (9, .int t41), (3, .long l27), (8, .int r19), (7, .int v7_65), (6, .int v6_56), (5, .int v5_65), (0, .ref (ad 0)), (1, .int vn), (2, .int vs)]) hx hb dX12_luck_163 hl (k := 1) rfl rfl (by decide) rfl (fun ls hl => ?_)
                                    refine loc_gen (P := fun w9 => lv_has ls 11 [(10, .int w9), (9, .int t41), (3, .long l27), (8, .int r19), (7, .int v7_65), (6, .int v6_56), (5, .int v5_65), (0, .ref (ad 0)), (1, .int vn), (2, .int vs)]) (v10_128 + 1) hl (fun w42 hw42 hl => ?_)
                                    have hl : lv_has ls 11 [(10, .int w42), (9, .int t41), (3, .long l27), (8, .int r19), (7, .int v7_65), (6, .int v6_56), (5, .int v5_65), (0, .ref (ad 0)), (1, .int vn), (2, .int vs)] := hl
                                    have hF := mi_let hF hw42.symm
                                    have aw42 : w42.toInt = v10_128.toInt + 1 := by rw [← hw42]; first | exact va1 (Int.lt_of_le_of_lt h_v10_128.2 (by decide)) | exact va1 (by omega)
                                    refine lv_goto (tgt := 128) hx hb dX12_luck_166 (by decide) ?_
                                    exact ih128 (t41) (w42) nu128_ _ _ _ (by first | exact ms_up hm_128 aw42 h_v10_128.2 | exact ms_lt hm_128 (by omega) (by omega) | omega) (by first | exact rg_up aw42 h_v10_128 (by omega) | omega) (by first | exact rg_up aw42 h_v10_128 (by omega) | omega) (by have h7 := ab_step (v := r19) (x := v10_128) (by first | exact rg_up aw42 h_v10_128 (by omega) | omega) (by first | exact rg_up aw42 h_v10_128 (by omega) | omega) (by first | exact rg_up aw42 h_v10_128 (by omega) | omega) (by first | exact rg_up aw42 h_v10_128 (by omega) | omega); have h6 : w42.toNatClampNeg = v10_128.toNatClampNeg + 1 := (by have u1 := tC_of (v := w42) (by first | exact rg_up aw42 h_v10_128 (by omega) | omega); have u2 := tC_of (v := v10_128) (by first | exact rg_up aw42 h_v10_128 (by omega) | omega); omega); rw [h6]; by_cases h5 : rb r19 v10_128 = 1; (have h4 := h7.1 h5; first | exact absurd h5 f32 | exact absurd f32 h5 | omega | contradiction); (have h4 := h7.2 h5; first | exact absurd h5 f32 | exact absurd f32 h5 | omega | contradiction)) ok hP ek128_0 kq128_0 hF hS (lv_sub hl [0, 1, 2, 3, 4, 5, 6, 7, 8, 9] rfl)
                                  · exact absurd f32 f40
                              · have hF := (if_neg (fun h => absurd (hfe32.trans h) (by decide))).symm.trans hF
                                have f32 : ¬ rb r19 v10_128 = 1 := f32
                                refine lv_if_eq (tgt := 143) hx hb dX12_luck_135 (by decide) (fun _ => ?_) (fun c => absurd (by decide) c)
                                refine lv_iload hx hb dX12_luck_143 (lv_at hl 1 rfl) ?_
                                refine lv_iload hx hb dX12_luck_145 (lv_at hl 3 rfl) ?_
                                refine lv_iload hx hb dX12_luck_147 (lv_at hl 0 rfl) ?_
                                refine cr_i (va_runS (As := [.int r19, .int v10_128]) (rest := [.int v9_128]) ⟨hx, hb, hml, hown, hts⟩ (sm_has l dC dI (tyM cs) H r19 v10_128) (va_cwS 2 hts (wU_S mw_6_59 mw_6_57 mw_6_58 mw_1_13) rfl rfl rfl (by decide +kernel) ⟨Nat.le_of_ble_eq_true rfl, Nat.le_of_ble_eq_true rfl⟩) ⟨sz_c, sz_m hK hz⟩ rfl rfl hl.1 rfl (lv_room (Nat.le_of_ble_eq_true rfl)) dX12_luck_149 ⟨Nat.zero_le _, Nat.zero_le _⟩) hS (fun r43 hw43 locs hS => ?_)
                                obtain ⟨hfe43, hw43⟩ := hw43
                                rcases hw43 with ⟨rfl, f43⟩ | ⟨rfl, f43⟩
                                · exact absurd f43 f32
                                · have hF := (if_neg (fun h => absurd (hfe43.trans h) (by decide))).symm.trans hF
                                  have f43 : ¬ rb r19 v10_128 = 1 := f43
                                  refine lv_if_eq (tgt := 159) hx hb dX12_luck_152 (by decide) (fun _ => ?_) (fun c => absurd (by decide) c)
                                  refine lv_iconst (v := 0) hx hb dX12_luck_159 (by decide) ?_
                                  refine lv_isub hx hb dX12_luck_160 ?_
                                  refine lv_topi (fun t44 et44 => ?_)
                                  have hF := mi_let hF et44
                                  have at44 : t44.toInt = v9_128.toInt - 0 := by rw [et44]; exact tI_sub (rfl : v9_128.toInt = _) (rfl : (0 : Int32).toInt = 0) (by omega) (by omega)
                                  refine lv_istore (lv' := [(9, .int t44), (10, .int v10_128), (3, .long l27), (8, .int r19), (7, .int v7_65), (6, .int v6_56), (5, .int v5_65), (0, .ref (ad 0)), (1, .int vn), (2, .int vs)]) hx hb dX12_luck_161 hl (by decide) rfl (fun ls hl => ?_)
                                  refine lv_iinc (v := (v10_128 + 1)) (lv' := [(10, .int (v10_128 + 1)), (9, .int t44), (3, .long l27), (8, .int r19), (7, .int v7_65), (6, .int v6_56), (5, .int v5_65), (0, .ref (ad 0)), (1, .int vn), (2, .int vs)]) hx hb dX12_luck_163 hl (k := 1) rfl rfl (by decide) rfl (fun ls hl => ?_)
                                  refine loc_gen (P := fun w9 => lv_has ls 11 [(10, .int w9), (9, .int t44), (3, .long l27), (8, .int r19), (7, .int v7_65), (6, .int v6_56), (5, .int v5_65), (0, .ref (ad 0)), (1, .int vn), (2, .int vs)]) (v10_128 + 1) hl (fun w45 hw45 hl => ?_)
                                  have hl : lv_has ls 11 [(10, .int w45), (9, .int t44), (3, .long l27), (8, .int r19), (7, .int v7_65), (6, .int v6_56), (5, .int v5_65), (0, .ref (ad 0)), (1, .int vn), (2, .int vs)] := hl
                                  have hF := mi_let hF hw45.symm
                                  have aw45 : w45.toInt = v10_128.toInt + 1 := by rw [← hw45]; first | exact va1 (Int.lt_of_le_of_lt h_v10_128.2 (by decide)) | exact va1 (by omega)
                                  refine lv_goto (tgt := 128) hx hb dX12_luck_166 (by decide) ?_
                                  exact ih128 (t44) (w45) nu128_ _ _ _ (by first | exact ms_up hm_128 aw45 h_v10_128.2 | exact ms_lt hm_128 (by omega) (by omega) | omega) (by first | exact rg_up aw45 h_v10_128 (by omega) | omega) (by first | exact rg_up aw45 h_v10_128 (by omega) | omega) (by have h7 := ab_step (v := r19) (x := v10_128) (by first | exact rg_up aw45 h_v10_128 (by omega) | omega) (by first | exact rg_up aw45 h_v10_128 (by omega) | omega) (by first | exact rg_up aw45 h_v10_128 (by omega) | omega) (by first | exact rg_up aw45 h_v10_128 (by omega) | omega); have h6 : w45.toNatClampNeg = v10_128.toNatClampNeg + 1 := (by have u1 := tC_of (v := w45) (by first | exact rg_up aw45 h_v10_128 (by omega) | omega); have u2 := tC_of (v := v10_128) (by first | exact rg_up aw45 h_v10_128 (by omega) | omega); omega); rw [h6]; by_cases h5 : rb r19 v10_128 = 1; (have h4 := h7.1 h5; first | exact absurd h5 f32 | exact absurd f32 h5 | omega | contradiction); (have h4 := h7.2 h5; first | exact absurd h5 f32 | exact absurd f32 h5 | omega | contradiction)) ok hP ek128_0 kq128_0 hF hS (lv_sub hl [0, 1, 2, 3, 4, 5, 6, 7, 8, 9] rfl)
                          exact loop128 10 (t31) (0) nu65_ _ _ _ (by have h81 : (0 : Int32).toInt = 0 := rfl; omega) (by omega) (by have h80 : (0 : Int32).toInt = 0 := rfl; exact ⟨by omega, by omega⟩) (by have h81 : (0 : Int32).toInt = 0 := rfl; have h8 := ab_0 r19.toNatClampNeg; have h9 : (0 : Int32).toNatClampNeg = 0 := rfl; rw [h9, h8]; omega) ok hP ey23 kq65_0 hF hS hl
                        · have hF := (if_pos c_24).symm.trans hF
                          have c_24 : y23.toInt = 40 := il_eq c_24
                          refine lv_iload hx hb dX12_luck_96 (lv_at hl 3 rfl) ?_
                          exact W.iret (v := v5_65) hx hb hr (fun t ht hW => ⟨⟨v5_65, nu65_, rfl, ⟨hF.trans hfz.symm, ok, trivial, kq65_0⟩, by first | (subst ht; exact hP) | (rw [ht]; exact hP) | (show va_P (dC, dI) vwCl (wR 21 ad (EM cs ad) nu65_) t.heap; rw [ht]; exact hP)⟩, hS.F ht⟩) hS.2.2 dX12_luck_98
                exact loop65 7 (v3_56) (v5_56) (0) nu56_ _ _ _ (by have h82 : (0 : Int32).toInt = 0 := rfl; omega) (by omega) (by have h80 : (0 : Int32).toInt = 0 := rfl; exact ⟨by omega, by omega⟩)  ok hP  kq56_0 hF hS hl
          exact loop56 43 (l8) (0) (0) mu _ _ _ (by have h81 : (0 : Int32).toInt = 0 := rfl; have h82 : (0 : Int32).toInt = 0 := rfl; omega) (by omega) (by have h80 : (0 : Int32).toInt = 0 := rfl; exact ⟨by omega, by omega⟩)  ok hP  (fun _ _ _ => rfl) hF hS hl
        · have hF := (if_neg c_7).symm.trans hF
          have c_7 : 99 < t6.toInt := il_nle c_7
          refine lv_bipush (v := (-2)) hx hb dX12_luck_44 (by decide) ?_
          exact W.iret (v := (-2)) hx hb hr (fun t ht hW => ⟨⟨(-2), mu, rfl, ⟨hF.trans hfz.symm, ok, trivial, (fun _ _ _ => rfl)⟩, by first | (subst ht; exact hP) | (rw [ht]; exact hP) | (show va_P (dC, dI) vwCl (wR 21 ad (EM cs ad) mu) t.heap; rw [ht]; exact hP)⟩, hS.F ht⟩) hS.2.2 dX12_luck_46
      · have hF := (if_pos c_4).symm.trans hF
        have c_4 : y3.toInt = 0 := il_eq c_4
        refine lv_bipush (v := (-4)) hx hb dX12_luck_30 (by decide) ?_
        exact W.iret (v := (-4)) hx hb hr (fun t ht hW => ⟨⟨(-4), mu, rfl, ⟨hF.trans hfz.symm, ok, trivial, (fun _ _ _ => rfl)⟩, by first | (subst ht; exact hP) | (rw [ht]; exact hP) | (show va_P (dC, dI) vwCl (wR 21 ad (EM cs ad) mu) t.heap; rw [ht]; exact hP)⟩, hS.F ht⟩) hS.2.2 dX12_luck_32
    · have hF := (if_neg (fun h => absurd (hfe2.trans h) (by decide))).symm.trans hF
      have f2 : vs.toInt < (1 : Int) ∨ (2147483646 : Int) < vs.toInt := f2
      refine lv_if_ne (tgt := 23) hx hb dX12_luck_18 (by decide) (fun c => absurd (by decide) c) (fun _ => ?_)
      refine lv_iconst (v := (-1)) hx hb dX12_luck_21 (by decide) ?_
      exact W.iret (v := (-1)) hx hb hr (fun t ht hW => ⟨⟨(-1), mu, rfl, ⟨hF.trans hfz.symm, ok, trivial, (fun _ _ _ => rfl)⟩, by first | (subst ht; exact hP) | (rw [ht]; exact hP) | (show va_P (dC, dI) vwCl (wR 21 ad (EM cs ad) mu) t.heap; rw [ht]; exact hP)⟩, hS.F ht⟩) hS.2.2 dX12_luck_22
  · have hF := (if_neg (fun h => absurd (hfe1.trans h) (by decide))).symm.trans hF
    have f1 : vn.toInt < (1 : Int) ∨ (40 : Int) < vn.toInt := f1
    refine lv_if_eq (tgt := 21) hx hb dX12_luck_7 (by decide) (fun _ => ?_) (fun c => absurd (by decide) c)
    refine lv_iconst (v := (-1)) hx hb dX12_luck_21 (by decide) ?_
    exact W.iret (v := (-1)) hx hb hr (fun t ht hW => ⟨⟨(-1), mu, rfl, ⟨hF.trans hfz.symm, ok, trivial, (fun _ _ _ => rfl)⟩, by first | (subst ht; exact hP) | (rw [ht]; exact hP) | (show va_P (dC, dI) vwCl (wR 21 ad (EM cs ad) mu) t.heap; rw [ht]; exact hP)⟩, hS.F ht⟩) hS.2.2 dX12_luck_22
theorem mw_7_51 : (Cond.code yX12_allPurses cX12_allPurses 3 (some .int) : Cond) ∈ lw_good := lg_at 7 51 rfl rfl
theorem mw_7_48 : (Cond.methodLink RX12 299 yX12_allPurses : Cond) ∈ lw_good := lg_at 7 48 rfl rfl
theorem mw_7_50 : (Cond.instanceMethod yX12_allPurses : Cond) ∈ lw_good := lg_at 7 50 rfl rfl
theorem mw_0_63 : (Cond.selects RX12 yX12_allPurses yX12_allPurses : Cond) ∈ lw_good := lg_at 0 63 rfl rfl
theorem mw_7_55 : (Cond.code yX12_richest cX12_richest 3 (some .int) : Cond) ∈ lw_good := lg_at 7 55 rfl rfl
theorem mw_7_52 : (Cond.methodLink RX12 303 yX12_richest : Cond) ∈ lw_good := lg_at 7 52 rfl rfl
theorem mw_7_54 : (Cond.instanceMethod yX12_richest : Cond) ∈ lw_good := lg_at 7 54 rfl rfl
theorem mw_0_64 : (Cond.selects RX12 yX12_richest yX12_richest : Cond) ∈ lw_good := lg_at 0 64 rfl rfl
theorem mw_7_58 : (Cond.code yX12_divisor cX12_divisor 5 (some .int) : Cond) ∈ lw_good := lg_at 7 58 rfl rfl
theorem mw_7_56 : (Cond.methodLink RX12 306 yX12_divisor : Cond) ∈ lw_good := lg_at 7 56 rfl rfl
theorem mw_7_57 : (Cond.static yX12_divisor : Cond) ∈ lw_good := lg_at 7 57 rfl rfl
theorem mw_7_70 : (Cond.code yX12_tells cX12_tells 4 (some .int) : Cond) ∈ lw_good := lg_at 7 70 rfl rfl
theorem mw_7_67 : (Cond.methodLink RX12 309 yX12_tells : Cond) ∈ lw_good := lg_at 7 67 rfl rfl
theorem mw_7_69 : (Cond.instanceMethod yX12_tells : Cond) ∈ lw_good := lg_at 7 69 rfl rfl
theorem mw_0_65 : (Cond.selects RX12 yX12_tells yX12_tells : Cond) ∈ lw_good := lg_at 0 65 rfl rfl
theorem mw_7_88 : (Cond.constantLong RX12 312 31 : Cond) ∈ lw_good := lg_at 7 88 rfl rfl
theorem mw_5_86 : (Cond.fieldLink RX12 314 "DearLettersModel" "h0" "J" : Cond) ∈ lw_good := lg_at 5 86 rfl rfl
theorem mw_7_87 : (Cond.code yX12_mix cX12_mix 2 none : Cond) ∈ lw_good := lg_at 7 87 rfl rfl
theorem mw_7_84 : (Cond.methodLink RX12 318 yX12_mix : Cond) ∈ lw_good := lg_at 7 84 rfl rfl
theorem mw_7_86 : (Cond.instanceMethod yX12_mix : Cond) ∈ lw_good := lg_at 7 86 rfl rfl
theorem mw_0_66 : (Cond.selects RX12 yX12_mix yX12_mix : Cond) ∈ lw_good := lg_at 0 66 rfl rfl
theorem mw_7_83 : (Cond.constantLong RX12 321 17 : Cond) ∈ lw_good := lg_at 7 83 rfl rfl
theorem mw_7_92 : (Cond.code yX12_mixTown cX12_mixTown 3 none : Cond) ∈ lw_good := lg_at 7 92 rfl rfl
theorem mw_7_89 : (Cond.methodLink RX12 323 yX12_mixTown : Cond) ∈ lw_good := lg_at 7 89 rfl rfl
theorem mw_7_91 : (Cond.instanceMethod yX12_mixTown : Cond) ∈ lw_good := lg_at 7 91 rfl rfl
theorem mw_0_67 : (Cond.selects RX12 yX12_mixTown yX12_mixTown : Cond) ∈ lw_good := lg_at 0 67 rfl rfl
theorem lb_X12_divisor_0 : dl_ck (cX12_divisor.data.toList.drop 0) [26, 61, 27, 62, 29, 153, 0, 16, 28, 29, 112, 54, 4, 29, 61, 21, 4, 62, 167, 255, 242, 28, 172] = true := by decide +kernel
theorem dX12_divisor_0 : decode cX12_divisor 0 = .ok (.iload_n 0, 1) := dx_26 (dl_at 0 0 lb_X12_divisor_0 rfl)
theorem dX12_divisor_1 : decode cX12_divisor 1 = .ok (.istore_n 2, 1) := dx_61 (dl_at 0 1 lb_X12_divisor_0 rfl)
theorem dX12_divisor_2 : decode cX12_divisor 2 = .ok (.iload_n 1, 1) := dx_27 (dl_at 0 2 lb_X12_divisor_0 rfl)
theorem dX12_divisor_3 : decode cX12_divisor 3 = .ok (.istore_n 3, 1) := dx_62 (dl_at 0 3 lb_X12_divisor_0 rfl)
theorem dX12_divisor_4 : decode cX12_divisor 4 = .ok (.iload_n 3, 1) := dx_29 (dl_at 0 4 lb_X12_divisor_0 rfl)
theorem dX12_divisor_5 : decode cX12_divisor 5 = .ok (.ifCond .eq 16, 3) := dx_153 (a := 0) (b := 16) (dl_at 0 5 lb_X12_divisor_0 rfl) (dl_at 0 6 lb_X12_divisor_0 rfl) (dl_at 0 7 lb_X12_divisor_0 rfl) sg16_16
theorem dX12_divisor_21 : decode cX12_divisor 21 = .ok (.iload_n 2, 1) := dx_28 (dl_at 0 21 lb_X12_divisor_0 rfl)
theorem dX12_divisor_22 : decode cX12_divisor 22 = .ok (.ireturn, 1) := dx_172 (dl_at 0 22 lb_X12_divisor_0 rfl)
theorem dX12_divisor_8 : decode cX12_divisor 8 = .ok (.iload_n 2, 1) := dx_28 (dl_at 0 8 lb_X12_divisor_0 rfl)
theorem dX12_divisor_9 : decode cX12_divisor 9 = .ok (.iload_n 3, 1) := dx_29 (dl_at 0 9 lb_X12_divisor_0 rfl)
theorem dX12_divisor_10 : decode cX12_divisor 10 = .ok (.irem, 1) := dx_112 (dl_at 0 10 lb_X12_divisor_0 rfl)
theorem dX12_divisor_11 : decode cX12_divisor 11 = .ok (.istore 4, 2) := dx_54 (dl_at 0 11 lb_X12_divisor_0 rfl) (dl_at 0 12 lb_X12_divisor_0 rfl)
theorem dX12_divisor_13 : decode cX12_divisor 13 = .ok (.iload_n 3, 1) := dx_29 (dl_at 0 13 lb_X12_divisor_0 rfl)
theorem dX12_divisor_14 : decode cX12_divisor 14 = .ok (.istore_n 2, 1) := dx_61 (dl_at 0 14 lb_X12_divisor_0 rfl)
theorem dX12_divisor_15 : decode cX12_divisor 15 = .ok (.iload 4, 2) := dx_21 (dl_at 0 15 lb_X12_divisor_0 rfl) (dl_at 0 16 lb_X12_divisor_0 rfl)
theorem dX12_divisor_17 : decode cX12_divisor 17 = .ok (.istore_n 3, 1) := dx_62 (dl_at 0 17 lb_X12_divisor_0 rfl)
theorem dX12_divisor_18 : decode cX12_divisor 18 = .ok (.goto (-14), 3) := dx_167 (a := 255) (b := 242) (dl_at 0 18 lb_X12_divisor_0 rfl) (dl_at 0 19 lb_X12_divisor_0 rfl) (dl_at 0 20 lb_X12_divisor_0 rfl) sg16_65522
theorem lb_X12_allPurses_0 : dl_ck (cX12_allPurses.data.toList.drop 0) [3, 60, 3, 61, 28, 42, 180, 0, 136, 162, 0, 18, 27, 42, 180, 0, 31, 28, 46, 96, 60, 132, 2, 1, 167, 255, 236, 27, 172] = true := by decide +kernel
theorem dX12_allPurses_0 : decode cX12_allPurses 0 = .ok (.iconst 0, 1) := dx_3 (dl_at 0 0 lb_X12_allPurses_0 rfl)
theorem dX12_allPurses_1 : decode cX12_allPurses 1 = .ok (.istore_n 1, 1) := dx_60 (dl_at 0 1 lb_X12_allPurses_0 rfl)
theorem dX12_allPurses_2 : decode cX12_allPurses 2 = .ok (.iconst 0, 1) := dx_3 (dl_at 0 2 lb_X12_allPurses_0 rfl)
theorem dX12_allPurses_3 : decode cX12_allPurses 3 = .ok (.istore_n 2, 1) := dx_61 (dl_at 0 3 lb_X12_allPurses_0 rfl)
theorem dX12_allPurses_4 : decode cX12_allPurses 4 = .ok (.iload_n 2, 1) := dx_28 (dl_at 0 4 lb_X12_allPurses_0 rfl)
theorem dX12_allPurses_5 : decode cX12_allPurses 5 = .ok (.aload_n 0, 1) := dx_42 (dl_at 0 5 lb_X12_allPurses_0 rfl)
theorem dX12_allPurses_6 : decode cX12_allPurses 6 = .ok (.getfield 136, 3) := dx_180 (a := 0) (b := 136) (dl_at 0 6 lb_X12_allPurses_0 rfl) (dl_at 0 7 lb_X12_allPurses_0 rfl) (dl_at 0 8 lb_X12_allPurses_0 rfl) rfl
theorem dX12_allPurses_9 : decode cX12_allPurses 9 = .ok (.if_icmp .ge 18, 3) := dx_162 (a := 0) (b := 18) (dl_at 0 9 lb_X12_allPurses_0 rfl) (dl_at 0 10 lb_X12_allPurses_0 rfl) (dl_at 0 11 lb_X12_allPurses_0 rfl) sg16_18
theorem dX12_allPurses_27 : decode cX12_allPurses 27 = .ok (.iload_n 1, 1) := dx_27 (dl_at 0 27 lb_X12_allPurses_0 rfl)
theorem dX12_allPurses_28 : decode cX12_allPurses 28 = .ok (.ireturn, 1) := dx_172 (dl_at 0 28 lb_X12_allPurses_0 rfl)
theorem dX12_allPurses_12 : decode cX12_allPurses 12 = .ok (.iload_n 1, 1) := dx_27 (dl_at 0 12 lb_X12_allPurses_0 rfl)
theorem dX12_allPurses_13 : decode cX12_allPurses 13 = .ok (.aload_n 0, 1) := dx_42 (dl_at 0 13 lb_X12_allPurses_0 rfl)
theorem dX12_allPurses_14 : decode cX12_allPurses 14 = .ok (.getfield 31, 3) := dx_180 (a := 0) (b := 31) (dl_at 0 14 lb_X12_allPurses_0 rfl) (dl_at 0 15 lb_X12_allPurses_0 rfl) (dl_at 0 16 lb_X12_allPurses_0 rfl) rfl
theorem dX12_allPurses_17 : decode cX12_allPurses 17 = .ok (.iload_n 2, 1) := dx_28 (dl_at 0 17 lb_X12_allPurses_0 rfl)
theorem dX12_allPurses_18 : decode cX12_allPurses 18 = .ok (.iaload, 1) := dx_46 (dl_at 0 18 lb_X12_allPurses_0 rfl)
theorem dX12_allPurses_19 : decode cX12_allPurses 19 = .ok (.iadd, 1) := dx_96 (dl_at 0 19 lb_X12_allPurses_0 rfl)
theorem dX12_allPurses_20 : decode cX12_allPurses 20 = .ok (.istore_n 1, 1) := dx_60 (dl_at 0 20 lb_X12_allPurses_0 rfl)
theorem dX12_allPurses_21 : decode cX12_allPurses 21 = .ok (.iinc 2 1, 3) := dx_132 (dl_at 0 21 lb_X12_allPurses_0 rfl) (dl_at 0 22 lb_X12_allPurses_0 rfl) (dl_at 0 23 lb_X12_allPurses_0 rfl) sg8_1
theorem dX12_allPurses_24 : decode cX12_allPurses 24 = .ok (.goto (-20), 3) := dx_167 (a := 255) (b := 236) (dl_at 0 24 lb_X12_allPurses_0 rfl) (dl_at 0 25 lb_X12_allPurses_0 rfl) (dl_at 0 26 lb_X12_allPurses_0 rfl) sg16_65516
theorem lb_X12_richest_0 : dl_ck (cX12_richest.data.toList.drop 0) [3, 60, 3, 61, 28, 42, 180, 0, 136, 162, 0, 30, 42, 180, 0, 31, 28, 46, 27, 164, 0, 12, 42, 180, 0, 31, 28, 46, 167, 0, 4, 27] = true := by decide +kernel
theorem lb_X12_richest_1 : dl_ck (cX12_richest.data.toList.drop 32) [60, 132, 2, 1, 167, 255, 224, 27, 172] = true := by decide +kernel
theorem dX12_richest_0 : decode cX12_richest 0 = .ok (.iconst 0, 1) := dx_3 (dl_at 0 0 lb_X12_richest_0 rfl)
theorem dX12_richest_1 : decode cX12_richest 1 = .ok (.istore_n 1, 1) := dx_60 (dl_at 0 1 lb_X12_richest_0 rfl)
theorem dX12_richest_2 : decode cX12_richest 2 = .ok (.iconst 0, 1) := dx_3 (dl_at 0 2 lb_X12_richest_0 rfl)
theorem dX12_richest_3 : decode cX12_richest 3 = .ok (.istore_n 2, 1) := dx_61 (dl_at 0 3 lb_X12_richest_0 rfl)
theorem dX12_richest_4 : decode cX12_richest 4 = .ok (.iload_n 2, 1) := dx_28 (dl_at 0 4 lb_X12_richest_0 rfl)
theorem dX12_richest_5 : decode cX12_richest 5 = .ok (.aload_n 0, 1) := dx_42 (dl_at 0 5 lb_X12_richest_0 rfl)
theorem dX12_richest_6 : decode cX12_richest 6 = .ok (.getfield 136, 3) := dx_180 (a := 0) (b := 136) (dl_at 0 6 lb_X12_richest_0 rfl) (dl_at 0 7 lb_X12_richest_0 rfl) (dl_at 0 8 lb_X12_richest_0 rfl) rfl
theorem dX12_richest_9 : decode cX12_richest 9 = .ok (.if_icmp .ge 30, 3) := dx_162 (a := 0) (b := 30) (dl_at 0 9 lb_X12_richest_0 rfl) (dl_at 0 10 lb_X12_richest_0 rfl) (dl_at 0 11 lb_X12_richest_0 rfl) sg16_30
theorem dX12_richest_39 : decode cX12_richest 39 = .ok (.iload_n 1, 1) := dx_27 (dl_at 32 7 lb_X12_richest_1 rfl)
theorem dX12_richest_40 : decode cX12_richest 40 = .ok (.ireturn, 1) := dx_172 (dl_at 32 8 lb_X12_richest_1 rfl)
theorem dX12_richest_12 : decode cX12_richest 12 = .ok (.aload_n 0, 1) := dx_42 (dl_at 0 12 lb_X12_richest_0 rfl)
theorem dX12_richest_13 : decode cX12_richest 13 = .ok (.getfield 31, 3) := dx_180 (a := 0) (b := 31) (dl_at 0 13 lb_X12_richest_0 rfl) (dl_at 0 14 lb_X12_richest_0 rfl) (dl_at 0 15 lb_X12_richest_0 rfl) rfl
theorem dX12_richest_16 : decode cX12_richest 16 = .ok (.iload_n 2, 1) := dx_28 (dl_at 0 16 lb_X12_richest_0 rfl)
theorem dX12_richest_17 : decode cX12_richest 17 = .ok (.iaload, 1) := dx_46 (dl_at 0 17 lb_X12_richest_0 rfl)
theorem dX12_richest_18 : decode cX12_richest 18 = .ok (.iload_n 1, 1) := dx_27 (dl_at 0 18 lb_X12_richest_0 rfl)
theorem dX12_richest_19 : decode cX12_richest 19 = .ok (.if_icmp .le 12, 3) := dx_164 (a := 0) (b := 12) (dl_at 0 19 lb_X12_richest_0 rfl) (dl_at 0 20 lb_X12_richest_0 rfl) (dl_at 0 21 lb_X12_richest_0 rfl) sg16_12
theorem dX12_richest_31 : decode cX12_richest 31 = .ok (.iload_n 1, 1) := dx_27 (dl_at 0 31 lb_X12_richest_0 rfl)
theorem dX12_richest_32 : decode cX12_richest 32 = .ok (.istore_n 1, 1) := dx_60 (dl_at 32 0 lb_X12_richest_1 rfl)
theorem dX12_richest_33 : decode cX12_richest 33 = .ok (.iinc 2 1, 3) := dx_132 (dl_at 32 1 lb_X12_richest_1 rfl) (dl_at 32 2 lb_X12_richest_1 rfl) (dl_at 32 3 lb_X12_richest_1 rfl) sg8_1
theorem dX12_richest_36 : decode cX12_richest 36 = .ok (.goto (-32), 3) := dx_167 (a := 255) (b := 224) (dl_at 32 4 lb_X12_richest_1 rfl) (dl_at 32 5 lb_X12_richest_1 rfl) (dl_at 32 6 lb_X12_richest_1 rfl) sg16_65504
theorem dX12_richest_22 : decode cX12_richest 22 = .ok (.aload_n 0, 1) := dx_42 (dl_at 0 22 lb_X12_richest_0 rfl)
theorem dX12_richest_23 : decode cX12_richest 23 = .ok (.getfield 31, 3) := dx_180 (a := 0) (b := 31) (dl_at 0 23 lb_X12_richest_0 rfl) (dl_at 0 24 lb_X12_richest_0 rfl) (dl_at 0 25 lb_X12_richest_0 rfl) rfl
theorem dX12_richest_26 : decode cX12_richest 26 = .ok (.iload_n 2, 1) := dx_28 (dl_at 0 26 lb_X12_richest_0 rfl)
theorem dX12_richest_27 : decode cX12_richest 27 = .ok (.iaload, 1) := dx_46 (dl_at 0 27 lb_X12_richest_0 rfl)
theorem dX12_richest_28 : decode cX12_richest 28 = .ok (.goto 4, 3) := dx_167 (a := 0) (b := 4) (dl_at 0 28 lb_X12_richest_0 rfl) (dl_at 0 29 lb_X12_richest_0 rfl) (dl_at 0 30 lb_X12_richest_0 rfl) sg16_4
theorem lb_X12_asked_0 : dl_ck (cX12_asked.data.toList.drop 0) [42, 180, 0, 74, 172] = true := by decide +kernel
theorem dX12_asked_0 : decode cX12_asked 0 = .ok (.aload_n 0, 1) := dx_42 (dl_at 0 0 lb_X12_asked_0 rfl)
theorem dX12_asked_1 : decode cX12_asked 1 = .ok (.getfield 74, 3) := dx_180 (a := 0) (b := 74) (dl_at 0 1 lb_X12_asked_0 rfl) (dl_at 0 2 lb_X12_asked_0 rfl) (dl_at 0 3 lb_X12_asked_0 rfl) rfl
theorem dX12_asked_4 : decode cX12_asked 4 = .ok (.ireturn, 1) := dx_172 (dl_at 0 4 lb_X12_asked_0 rfl)
theorem lb_X12_upper_0 : dl_ck (cX12_upper.data.toList.drop 0) [42, 182, 1, 43, 60, 27, 154, 0, 7, 9, 167, 0, 17, 42, 182, 1, 47, 42, 182, 1, 47, 27, 184, 1, 50, 108, 133, 173] = true := by decide +kernel
theorem dX12_upper_0 : decode cX12_upper 0 = .ok (.aload_n 0, 1) := dx_42 (dl_at 0 0 lb_X12_upper_0 rfl)
theorem dX12_upper_1 : decode cX12_upper 1 = .ok (.invokevirtual 299, 3) := dx_182 (a := 1) (b := 43) (dl_at 0 1 lb_X12_upper_0 rfl) (dl_at 0 2 lb_X12_upper_0 rfl) (dl_at 0 3 lb_X12_upper_0 rfl) rfl
theorem dX12_upper_4 : decode cX12_upper 4 = .ok (.istore_n 1, 1) := dx_60 (dl_at 0 4 lb_X12_upper_0 rfl)
theorem dX12_upper_5 : decode cX12_upper 5 = .ok (.iload_n 1, 1) := dx_27 (dl_at 0 5 lb_X12_upper_0 rfl)
theorem dX12_upper_6 : decode cX12_upper 6 = .ok (.ifCond .ne 7, 3) := dx_154 (a := 0) (b := 7) (dl_at 0 6 lb_X12_upper_0 rfl) (dl_at 0 7 lb_X12_upper_0 rfl) (dl_at 0 8 lb_X12_upper_0 rfl) sg16_7
theorem dX12_upper_13 : decode cX12_upper 13 = .ok (.aload_n 0, 1) := dx_42 (dl_at 0 13 lb_X12_upper_0 rfl)
theorem dX12_upper_14 : decode cX12_upper 14 = .ok (.invokevirtual 303, 3) := dx_182 (a := 1) (b := 47) (dl_at 0 14 lb_X12_upper_0 rfl) (dl_at 0 15 lb_X12_upper_0 rfl) (dl_at 0 16 lb_X12_upper_0 rfl) rfl
theorem dX12_upper_17 : decode cX12_upper 17 = .ok (.aload_n 0, 1) := dx_42 (dl_at 0 17 lb_X12_upper_0 rfl)
theorem dX12_upper_18 : decode cX12_upper 18 = .ok (.invokevirtual 303, 3) := dx_182 (a := 1) (b := 47) (dl_at 0 18 lb_X12_upper_0 rfl) (dl_at 0 19 lb_X12_upper_0 rfl) (dl_at 0 20 lb_X12_upper_0 rfl) rfl
theorem dX12_upper_21 : decode cX12_upper 21 = .ok (.iload_n 1, 1) := dx_27 (dl_at 0 21 lb_X12_upper_0 rfl)
theorem dX12_upper_22 : decode cX12_upper 22 = .ok (.invokestatic 306, 3) := dx_184 (a := 1) (b := 50) (dl_at 0 22 lb_X12_upper_0 rfl) (dl_at 0 23 lb_X12_upper_0 rfl) (dl_at 0 24 lb_X12_upper_0 rfl) rfl
theorem dX12_upper_25 : decode cX12_upper 25 = .ok (.idiv, 1) := dx_108 (dl_at 0 25 lb_X12_upper_0 rfl)
theorem dX12_upper_26 : decode cX12_upper 26 = .ok (.i2l, 1) := dx_133 (dl_at 0 26 lb_X12_upper_0 rfl)
theorem dX12_upper_27 : decode cX12_upper 27 = .ok (.lreturn, 1) := dx_173 (dl_at 0 27 lb_X12_upper_0 rfl)
theorem dX12_upper_9 : decode cX12_upper 9 = .ok (.lconst 0, 1) := dx_9 (dl_at 0 9 lb_X12_upper_0 rfl)
theorem dX12_upper_10 : decode cX12_upper 10 = .ok (.goto 17, 3) := dx_167 (a := 0) (b := 17) (dl_at 0 10 lb_X12_upper_0 rfl) (dl_at 0 11 lb_X12_upper_0 rfl) (dl_at 0 12 lb_X12_upper_0 rfl) sg16_17
theorem lb_X12_lower_0 : dl_ck (cX12_lower.data.toList.drop 0) [42, 182, 1, 43, 60, 27, 154, 0, 7, 10, 167, 0, 14, 27, 42, 182, 1, 47, 27, 184, 1, 50, 108, 133, 173] = true := by decide +kernel
theorem dX12_lower_0 : decode cX12_lower 0 = .ok (.aload_n 0, 1) := dx_42 (dl_at 0 0 lb_X12_lower_0 rfl)
theorem dX12_lower_1 : decode cX12_lower 1 = .ok (.invokevirtual 299, 3) := dx_182 (a := 1) (b := 43) (dl_at 0 1 lb_X12_lower_0 rfl) (dl_at 0 2 lb_X12_lower_0 rfl) (dl_at 0 3 lb_X12_lower_0 rfl) rfl
theorem dX12_lower_4 : decode cX12_lower 4 = .ok (.istore_n 1, 1) := dx_60 (dl_at 0 4 lb_X12_lower_0 rfl)
theorem dX12_lower_5 : decode cX12_lower 5 = .ok (.iload_n 1, 1) := dx_27 (dl_at 0 5 lb_X12_lower_0 rfl)
theorem dX12_lower_6 : decode cX12_lower 6 = .ok (.ifCond .ne 7, 3) := dx_154 (a := 0) (b := 7) (dl_at 0 6 lb_X12_lower_0 rfl) (dl_at 0 7 lb_X12_lower_0 rfl) (dl_at 0 8 lb_X12_lower_0 rfl) sg16_7
theorem dX12_lower_13 : decode cX12_lower 13 = .ok (.iload_n 1, 1) := dx_27 (dl_at 0 13 lb_X12_lower_0 rfl)
theorem dX12_lower_14 : decode cX12_lower 14 = .ok (.aload_n 0, 1) := dx_42 (dl_at 0 14 lb_X12_lower_0 rfl)
theorem dX12_lower_15 : decode cX12_lower 15 = .ok (.invokevirtual 303, 3) := dx_182 (a := 1) (b := 47) (dl_at 0 15 lb_X12_lower_0 rfl) (dl_at 0 16 lb_X12_lower_0 rfl) (dl_at 0 17 lb_X12_lower_0 rfl) rfl
theorem dX12_lower_18 : decode cX12_lower 18 = .ok (.iload_n 1, 1) := dx_27 (dl_at 0 18 lb_X12_lower_0 rfl)
theorem dX12_lower_19 : decode cX12_lower 19 = .ok (.invokestatic 306, 3) := dx_184 (a := 1) (b := 50) (dl_at 0 19 lb_X12_lower_0 rfl) (dl_at 0 20 lb_X12_lower_0 rfl) (dl_at 0 21 lb_X12_lower_0 rfl) rfl
theorem dX12_lower_22 : decode cX12_lower 22 = .ok (.idiv, 1) := dx_108 (dl_at 0 22 lb_X12_lower_0 rfl)
theorem dX12_lower_23 : decode cX12_lower 23 = .ok (.i2l, 1) := dx_133 (dl_at 0 23 lb_X12_lower_0 rfl)
theorem dX12_lower_24 : decode cX12_lower 24 = .ok (.lreturn, 1) := dx_173 (dl_at 0 24 lb_X12_lower_0 rfl)
theorem dX12_lower_9 : decode cX12_lower 9 = .ok (.lconst 1, 1) := dx_10 (dl_at 0 9 lb_X12_lower_0 rfl)
theorem dX12_lower_10 : decode cX12_lower 10 = .ok (.goto 14, 3) := dx_167 (a := 0) (b := 14) (dl_at 0 10 lb_X12_lower_0 rfl) (dl_at 0 11 lb_X12_lower_0 rfl) (dl_at 0 12 lb_X12_lower_0 rfl) sg16_14
theorem lb_X12_tells_0 : dl_ck (cX12_tells.data.toList.drop 0) [3, 61, 3, 62, 29, 16, 6, 162, 0, 77, 28, 27, 16, 6, 160, 0, 12, 42, 180, 0, 13, 29, 46, 156, 0, 48, 27, 16, 7, 160, 0, 17] = true := by decide +kernel
theorem lb_X12_tells_1 : dl_ck (cX12_tells.data.toList.drop 32) [29, 7, 162, 0, 12, 42, 180, 0, 22, 29, 46, 156, 0, 28, 27, 16, 8, 160, 0, 26, 29, 6, 162, 0, 21, 42, 180, 0, 52, 16, 64, 29] = true := by decide +kernel
theorem lb_X12_tells_2 : dl_ck (cX12_tells.data.toList.drop 64) [104, 46, 16, 247, 159, 0, 7, 4, 167, 0, 4, 3, 96, 61, 132, 3, 1, 167, 255, 179, 27, 170, 0, 0, 0, 0, 0, 72, 0, 0, 0, 0] = true := by decide +kernel
theorem lb_X12_tells_3 : dl_ck (cX12_tells.data.toList.drop 96) [0, 0, 0, 5, 0, 0, 0, 39, 0, 0, 0, 44, 0, 0, 0, 49, 0, 0, 0, 54, 0, 0, 0, 59, 0, 0, 0, 64, 42, 180, 0, 136] = true := by decide +kernel
theorem lb_X12_tells_4 : dl_ck (cX12_tells.data.toList.drop 128) [172, 42, 180, 0, 139, 172, 42, 180, 0, 145, 172, 42, 180, 0, 148, 172, 42, 180, 0, 151, 172, 42, 180, 0, 142, 184, 0, 170, 172, 28, 172] = true := by decide +kernel
theorem dX12_tells_0 : decode cX12_tells 0 = .ok (.iconst 0, 1) := dx_3 (dl_at 0 0 lb_X12_tells_0 rfl)
theorem dX12_tells_1 : decode cX12_tells 1 = .ok (.istore_n 2, 1) := dx_61 (dl_at 0 1 lb_X12_tells_0 rfl)
theorem dX12_tells_2 : decode cX12_tells 2 = .ok (.iconst 0, 1) := dx_3 (dl_at 0 2 lb_X12_tells_0 rfl)
theorem dX12_tells_3 : decode cX12_tells 3 = .ok (.istore_n 3, 1) := dx_62 (dl_at 0 3 lb_X12_tells_0 rfl)
theorem dX12_tells_4 : decode cX12_tells 4 = .ok (.iload_n 3, 1) := dx_29 (dl_at 0 4 lb_X12_tells_0 rfl)
theorem dX12_tells_5 : decode cX12_tells 5 = .ok (.bipush 6, 2) := dx_16 (dl_at 0 5 lb_X12_tells_0 rfl) (dl_at 0 6 lb_X12_tells_0 rfl) sg8_6
theorem dX12_tells_7 : decode cX12_tells 7 = .ok (.if_icmp .ge 77, 3) := dx_162 (a := 0) (b := 77) (dl_at 0 7 lb_X12_tells_0 rfl) (dl_at 0 8 lb_X12_tells_0 rfl) (dl_at 0 9 lb_X12_tells_0 rfl) sg16_77
theorem dX12_tells_84 : decode cX12_tells 84 = .ok (.iload_n 1, 1) := dx_27 (dl_at 64 20 lb_X12_tells_2 rfl)
theorem dX12_tells_85 : decode cX12_tells 85 = .ok (.tableswitch 72 0 5 #[39, 44, 49, 54, 59, 64], 39) := by decide +kernel
theorem dX12_tells_157 : decode cX12_tells 157 = .ok (.iload_n 2, 1) := dx_28 (dl_at 128 29 lb_X12_tells_4 rfl)
theorem dX12_tells_158 : decode cX12_tells 158 = .ok (.ireturn, 1) := dx_172 (dl_at 128 30 lb_X12_tells_4 rfl)
theorem dX12_tells_124 : decode cX12_tells 124 = .ok (.aload_n 0, 1) := dx_42 (dl_at 96 28 lb_X12_tells_3 rfl)
theorem dX12_tells_125 : decode cX12_tells 125 = .ok (.getfield 136, 3) := dx_180 (a := 0) (b := 136) (dl_at 96 29 lb_X12_tells_3 rfl) (dl_at 96 30 lb_X12_tells_3 rfl) (dl_at 96 31 lb_X12_tells_3 rfl) rfl
theorem dX12_tells_128 : decode cX12_tells 128 = .ok (.ireturn, 1) := dx_172 (dl_at 128 0 lb_X12_tells_4 rfl)
theorem dX12_tells_129 : decode cX12_tells 129 = .ok (.aload_n 0, 1) := dx_42 (dl_at 128 1 lb_X12_tells_4 rfl)
theorem dX12_tells_130 : decode cX12_tells 130 = .ok (.getfield 139, 3) := dx_180 (a := 0) (b := 139) (dl_at 128 2 lb_X12_tells_4 rfl) (dl_at 128 3 lb_X12_tells_4 rfl) (dl_at 128 4 lb_X12_tells_4 rfl) rfl
theorem dX12_tells_133 : decode cX12_tells 133 = .ok (.ireturn, 1) := dx_172 (dl_at 128 5 lb_X12_tells_4 rfl)
theorem dX12_tells_134 : decode cX12_tells 134 = .ok (.aload_n 0, 1) := dx_42 (dl_at 128 6 lb_X12_tells_4 rfl)
theorem dX12_tells_135 : decode cX12_tells 135 = .ok (.getfield 145, 3) := dx_180 (a := 0) (b := 145) (dl_at 128 7 lb_X12_tells_4 rfl) (dl_at 128 8 lb_X12_tells_4 rfl) (dl_at 128 9 lb_X12_tells_4 rfl) rfl
theorem dX12_tells_138 : decode cX12_tells 138 = .ok (.ireturn, 1) := dx_172 (dl_at 128 10 lb_X12_tells_4 rfl)
theorem dX12_tells_139 : decode cX12_tells 139 = .ok (.aload_n 0, 1) := dx_42 (dl_at 128 11 lb_X12_tells_4 rfl)
theorem dX12_tells_140 : decode cX12_tells 140 = .ok (.getfield 148, 3) := dx_180 (a := 0) (b := 148) (dl_at 128 12 lb_X12_tells_4 rfl) (dl_at 128 13 lb_X12_tells_4 rfl) (dl_at 128 14 lb_X12_tells_4 rfl) rfl
theorem dX12_tells_143 : decode cX12_tells 143 = .ok (.ireturn, 1) := dx_172 (dl_at 128 15 lb_X12_tells_4 rfl)
theorem dX12_tells_144 : decode cX12_tells 144 = .ok (.aload_n 0, 1) := dx_42 (dl_at 128 16 lb_X12_tells_4 rfl)
theorem dX12_tells_145 : decode cX12_tells 145 = .ok (.getfield 151, 3) := dx_180 (a := 0) (b := 151) (dl_at 128 17 lb_X12_tells_4 rfl) (dl_at 128 18 lb_X12_tells_4 rfl) (dl_at 128 19 lb_X12_tells_4 rfl) rfl
theorem dX12_tells_148 : decode cX12_tells 148 = .ok (.ireturn, 1) := dx_172 (dl_at 128 20 lb_X12_tells_4 rfl)
theorem dX12_tells_149 : decode cX12_tells 149 = .ok (.aload_n 0, 1) := dx_42 (dl_at 128 21 lb_X12_tells_4 rfl)
theorem dX12_tells_150 : decode cX12_tells 150 = .ok (.getfield 142, 3) := dx_180 (a := 0) (b := 142) (dl_at 128 22 lb_X12_tells_4 rfl) (dl_at 128 23 lb_X12_tells_4 rfl) (dl_at 128 24 lb_X12_tells_4 rfl) rfl
theorem dX12_tells_153 : decode cX12_tells 153 = .ok (.invokestatic 170, 3) := dx_184 (a := 0) (b := 170) (dl_at 128 25 lb_X12_tells_4 rfl) (dl_at 128 26 lb_X12_tells_4 rfl) (dl_at 128 27 lb_X12_tells_4 rfl) rfl
theorem dX12_tells_156 : decode cX12_tells 156 = .ok (.ireturn, 1) := dx_172 (dl_at 128 28 lb_X12_tells_4 rfl)
theorem dX12_tells_10 : decode cX12_tells 10 = .ok (.iload_n 2, 1) := dx_28 (dl_at 0 10 lb_X12_tells_0 rfl)
theorem dX12_tells_11 : decode cX12_tells 11 = .ok (.iload_n 1, 1) := dx_27 (dl_at 0 11 lb_X12_tells_0 rfl)
theorem dX12_tells_12 : decode cX12_tells 12 = .ok (.bipush 6, 2) := dx_16 (dl_at 0 12 lb_X12_tells_0 rfl) (dl_at 0 13 lb_X12_tells_0 rfl) sg8_6
theorem dX12_tells_14 : decode cX12_tells 14 = .ok (.if_icmp .ne 12, 3) := dx_160 (a := 0) (b := 12) (dl_at 0 14 lb_X12_tells_0 rfl) (dl_at 0 15 lb_X12_tells_0 rfl) (dl_at 0 16 lb_X12_tells_0 rfl) sg16_12
theorem dX12_tells_26 : decode cX12_tells 26 = .ok (.iload_n 1, 1) := dx_27 (dl_at 0 26 lb_X12_tells_0 rfl)
theorem dX12_tells_27 : decode cX12_tells 27 = .ok (.bipush 7, 2) := dx_16 (dl_at 0 27 lb_X12_tells_0 rfl) (dl_at 0 28 lb_X12_tells_0 rfl) sg8_7
theorem dX12_tells_29 : decode cX12_tells 29 = .ok (.if_icmp .ne 17, 3) := dx_160 (a := 0) (b := 17) (dl_at 0 29 lb_X12_tells_0 rfl) (dl_at 0 30 lb_X12_tells_0 rfl) (dl_at 0 31 lb_X12_tells_0 rfl) sg16_17
theorem dX12_tells_46 : decode cX12_tells 46 = .ok (.iload_n 1, 1) := dx_27 (dl_at 32 14 lb_X12_tells_1 rfl)
theorem dX12_tells_47 : decode cX12_tells 47 = .ok (.bipush 8, 2) := dx_16 (dl_at 32 15 lb_X12_tells_1 rfl) (dl_at 32 16 lb_X12_tells_1 rfl) sg8_8
theorem dX12_tells_49 : decode cX12_tells 49 = .ok (.if_icmp .ne 26, 3) := dx_160 (a := 0) (b := 26) (dl_at 32 17 lb_X12_tells_1 rfl) (dl_at 32 18 lb_X12_tells_1 rfl) (dl_at 32 19 lb_X12_tells_1 rfl) sg16_26
theorem dX12_tells_75 : decode cX12_tells 75 = .ok (.iconst 0, 1) := dx_3 (dl_at 64 11 lb_X12_tells_2 rfl)
theorem dX12_tells_76 : decode cX12_tells 76 = .ok (.iadd, 1) := dx_96 (dl_at 64 12 lb_X12_tells_2 rfl)
theorem dX12_tells_77 : decode cX12_tells 77 = .ok (.istore_n 2, 1) := dx_61 (dl_at 64 13 lb_X12_tells_2 rfl)
theorem dX12_tells_78 : decode cX12_tells 78 = .ok (.iinc 3 1, 3) := dx_132 (dl_at 64 14 lb_X12_tells_2 rfl) (dl_at 64 15 lb_X12_tells_2 rfl) (dl_at 64 16 lb_X12_tells_2 rfl) sg8_1
theorem dX12_tells_81 : decode cX12_tells 81 = .ok (.goto (-77), 3) := dx_167 (a := 255) (b := 179) (dl_at 64 17 lb_X12_tells_2 rfl) (dl_at 64 18 lb_X12_tells_2 rfl) (dl_at 64 19 lb_X12_tells_2 rfl) sg16_65459
theorem dX12_tells_52 : decode cX12_tells 52 = .ok (.iload_n 3, 1) := dx_29 (dl_at 32 20 lb_X12_tells_1 rfl)
theorem dX12_tells_53 : decode cX12_tells 53 = .ok (.iconst 3, 1) := dx_6 (dl_at 32 21 lb_X12_tells_1 rfl)
theorem dX12_tells_54 : decode cX12_tells 54 = .ok (.if_icmp .ge 21, 3) := dx_162 (a := 0) (b := 21) (dl_at 32 22 lb_X12_tells_1 rfl) (dl_at 32 23 lb_X12_tells_1 rfl) (dl_at 32 24 lb_X12_tells_1 rfl) sg16_21
theorem dX12_tells_57 : decode cX12_tells 57 = .ok (.aload_n 0, 1) := dx_42 (dl_at 32 25 lb_X12_tells_1 rfl)
theorem dX12_tells_58 : decode cX12_tells 58 = .ok (.getfield 52, 3) := dx_180 (a := 0) (b := 52) (dl_at 32 26 lb_X12_tells_1 rfl) (dl_at 32 27 lb_X12_tells_1 rfl) (dl_at 32 28 lb_X12_tells_1 rfl) rfl
theorem dX12_tells_61 : decode cX12_tells 61 = .ok (.bipush 64, 2) := dx_16 (dl_at 32 29 lb_X12_tells_1 rfl) (dl_at 32 30 lb_X12_tells_1 rfl) sg8_64
theorem dX12_tells_63 : decode cX12_tells 63 = .ok (.iload_n 3, 1) := dx_29 (dl_at 32 31 lb_X12_tells_1 rfl)
theorem dX12_tells_64 : decode cX12_tells 64 = .ok (.imul, 1) := dx_104 (dl_at 64 0 lb_X12_tells_2 rfl)
theorem dX12_tells_65 : decode cX12_tells 65 = .ok (.iaload, 1) := dx_46 (dl_at 64 1 lb_X12_tells_2 rfl)
theorem dX12_tells_66 : decode cX12_tells 66 = .ok (.bipush (-9), 2) := dx_16 (dl_at 64 2 lb_X12_tells_2 rfl) (dl_at 64 3 lb_X12_tells_2 rfl) sg8_247
theorem dX12_tells_68 : decode cX12_tells 68 = .ok (.if_icmp .eq 7, 3) := dx_159 (a := 0) (b := 7) (dl_at 64 4 lb_X12_tells_2 rfl) (dl_at 64 5 lb_X12_tells_2 rfl) (dl_at 64 6 lb_X12_tells_2 rfl) sg16_7
theorem dX12_tells_71 : decode cX12_tells 71 = .ok (.iconst 1, 1) := dx_4 (dl_at 64 7 lb_X12_tells_2 rfl)
theorem dX12_tells_72 : decode cX12_tells 72 = .ok (.goto 4, 3) := dx_167 (a := 0) (b := 4) (dl_at 64 8 lb_X12_tells_2 rfl) (dl_at 64 9 lb_X12_tells_2 rfl) (dl_at 64 10 lb_X12_tells_2 rfl) sg16_4
theorem dX12_tells_32 : decode cX12_tells 32 = .ok (.iload_n 3, 1) := dx_29 (dl_at 32 0 lb_X12_tells_1 rfl)
theorem dX12_tells_33 : decode cX12_tells 33 = .ok (.iconst 4, 1) := dx_7 (dl_at 32 1 lb_X12_tells_1 rfl)
theorem dX12_tells_34 : decode cX12_tells 34 = .ok (.if_icmp .ge 12, 3) := dx_162 (a := 0) (b := 12) (dl_at 32 2 lb_X12_tells_1 rfl) (dl_at 32 3 lb_X12_tells_1 rfl) (dl_at 32 4 lb_X12_tells_1 rfl) sg16_12
theorem dX12_tells_37 : decode cX12_tells 37 = .ok (.aload_n 0, 1) := dx_42 (dl_at 32 5 lb_X12_tells_1 rfl)
theorem dX12_tells_38 : decode cX12_tells 38 = .ok (.getfield 22, 3) := dx_180 (a := 0) (b := 22) (dl_at 32 6 lb_X12_tells_1 rfl) (dl_at 32 7 lb_X12_tells_1 rfl) (dl_at 32 8 lb_X12_tells_1 rfl) rfl
theorem dX12_tells_41 : decode cX12_tells 41 = .ok (.iload_n 3, 1) := dx_29 (dl_at 32 9 lb_X12_tells_1 rfl)
theorem dX12_tells_42 : decode cX12_tells 42 = .ok (.iaload, 1) := dx_46 (dl_at 32 10 lb_X12_tells_1 rfl)
theorem dX12_tells_43 : decode cX12_tells 43 = .ok (.ifCond .ge 28, 3) := dx_156 (a := 0) (b := 28) (dl_at 32 11 lb_X12_tells_1 rfl) (dl_at 32 12 lb_X12_tells_1 rfl) (dl_at 32 13 lb_X12_tells_1 rfl) sg16_28
theorem dX12_tells_17 : decode cX12_tells 17 = .ok (.aload_n 0, 1) := dx_42 (dl_at 0 17 lb_X12_tells_0 rfl)
theorem dX12_tells_18 : decode cX12_tells 18 = .ok (.getfield 13, 3) := dx_180 (a := 0) (b := 13) (dl_at 0 18 lb_X12_tells_0 rfl) (dl_at 0 19 lb_X12_tells_0 rfl) (dl_at 0 20 lb_X12_tells_0 rfl) rfl
theorem dX12_tells_21 : decode cX12_tells 21 = .ok (.iload_n 3, 1) := dx_29 (dl_at 0 21 lb_X12_tells_0 rfl)
theorem dX12_tells_22 : decode cX12_tells 22 = .ok (.iaload, 1) := dx_46 (dl_at 0 22 lb_X12_tells_0 rfl)
theorem dX12_tells_23 : decode cX12_tells 23 = .ok (.ifCond .ge 48, 3) := dx_156 (a := 0) (b := 48) (dl_at 0 23 lb_X12_tells_0 rfl) (dl_at 0 24 lb_X12_tells_0 rfl) (dl_at 0 25 lb_X12_tells_0 rfl) sg16_48
theorem lb_X12_count_0 : dl_ck (cX12_count.data.toList.drop 0) [27, 3, 16, 8, 184, 0, 77, 153, 0, 11, 42, 27, 182, 1, 53, 167, 0, 4, 2, 172] = true := by decide +kernel
theorem dX12_count_0 : decode cX12_count 0 = .ok (.iload_n 1, 1) := dx_27 (dl_at 0 0 lb_X12_count_0 rfl)
theorem dX12_count_1 : decode cX12_count 1 = .ok (.iconst 0, 1) := dx_3 (dl_at 0 1 lb_X12_count_0 rfl)
theorem dX12_count_2 : decode cX12_count 2 = .ok (.bipush 8, 2) := dx_16 (dl_at 0 2 lb_X12_count_0 rfl) (dl_at 0 3 lb_X12_count_0 rfl) sg8_8
theorem dX12_count_4 : decode cX12_count 4 = .ok (.invokestatic 77, 3) := dx_184 (a := 0) (b := 77) (dl_at 0 4 lb_X12_count_0 rfl) (dl_at 0 5 lb_X12_count_0 rfl) (dl_at 0 6 lb_X12_count_0 rfl) rfl
theorem dX12_count_7 : decode cX12_count 7 = .ok (.ifCond .eq 11, 3) := dx_153 (a := 0) (b := 11) (dl_at 0 7 lb_X12_count_0 rfl) (dl_at 0 8 lb_X12_count_0 rfl) (dl_at 0 9 lb_X12_count_0 rfl) sg16_11
theorem dX12_count_10 : decode cX12_count 10 = .ok (.aload_n 0, 1) := dx_42 (dl_at 0 10 lb_X12_count_0 rfl)
theorem dX12_count_11 : decode cX12_count 11 = .ok (.iload_n 1, 1) := dx_27 (dl_at 0 11 lb_X12_count_0 rfl)
theorem dX12_count_12 : decode cX12_count 12 = .ok (.invokevirtual 309, 3) := dx_182 (a := 1) (b := 53) (dl_at 0 12 lb_X12_count_0 rfl) (dl_at 0 13 lb_X12_count_0 rfl) (dl_at 0 14 lb_X12_count_0 rfl) rfl
theorem dX12_count_15 : decode cX12_count 15 = .ok (.goto 4, 3) := dx_167 (a := 0) (b := 4) (dl_at 0 15 lb_X12_count_0 rfl) (dl_at 0 16 lb_X12_count_0 rfl) (dl_at 0 17 lb_X12_count_0 rfl) sg16_4
theorem dX12_count_19 : decode cX12_count 19 = .ok (.ireturn, 1) := dx_172 (dl_at 0 19 lb_X12_count_0 rfl)
theorem dX12_count_18 : decode cX12_count 18 = .ok (.iconst (-1), 1) := dx_2 (dl_at 0 18 lb_X12_count_0 rfl)
theorem lb_X12_finding_0 : dl_ck (cX12_finding.data.toList.drop 0) [42, 180, 0, 70, 172] = true := by decide +kernel
theorem dX12_finding_0 : decode cX12_finding 0 = .ok (.aload_n 0, 1) := dx_42 (dl_at 0 0 lb_X12_finding_0 rfl)
theorem dX12_finding_1 : decode cX12_finding 1 = .ok (.getfield 70, 3) := dx_180 (a := 0) (b := 70) (dl_at 0 1 lb_X12_finding_0 rfl) (dl_at 0 2 lb_X12_finding_0 rfl) (dl_at 0 3 lb_X12_finding_0 rfl) rfl
theorem dX12_finding_4 : decode cX12_finding 4 = .ok (.ireturn, 1) := dx_172 (dl_at 0 4 lb_X12_finding_0 rfl)
theorem lb_X12_findings_0 : dl_ck (cX12_findings.data.toList.drop 0) [27, 4, 8, 184, 0, 77, 153, 0, 12, 42, 180, 0, 7, 27, 46, 167, 0, 4, 2, 172] = true := by decide +kernel
theorem dX12_findings_0 : decode cX12_findings 0 = .ok (.iload_n 1, 1) := dx_27 (dl_at 0 0 lb_X12_findings_0 rfl)
theorem dX12_findings_1 : decode cX12_findings 1 = .ok (.iconst 1, 1) := dx_4 (dl_at 0 1 lb_X12_findings_0 rfl)
theorem dX12_findings_2 : decode cX12_findings 2 = .ok (.iconst 5, 1) := dx_8 (dl_at 0 2 lb_X12_findings_0 rfl)
theorem dX12_findings_3 : decode cX12_findings 3 = .ok (.invokestatic 77, 3) := dx_184 (a := 0) (b := 77) (dl_at 0 3 lb_X12_findings_0 rfl) (dl_at 0 4 lb_X12_findings_0 rfl) (dl_at 0 5 lb_X12_findings_0 rfl) rfl
theorem dX12_findings_6 : decode cX12_findings 6 = .ok (.ifCond .eq 12, 3) := dx_153 (a := 0) (b := 12) (dl_at 0 6 lb_X12_findings_0 rfl) (dl_at 0 7 lb_X12_findings_0 rfl) (dl_at 0 8 lb_X12_findings_0 rfl) sg16_12
theorem dX12_findings_9 : decode cX12_findings 9 = .ok (.aload_n 0, 1) := dx_42 (dl_at 0 9 lb_X12_findings_0 rfl)
theorem dX12_findings_10 : decode cX12_findings 10 = .ok (.getfield 7, 3) := dx_180 (a := 0) (b := 7) (dl_at 0 10 lb_X12_findings_0 rfl) (dl_at 0 11 lb_X12_findings_0 rfl) (dl_at 0 12 lb_X12_findings_0 rfl) rfl
theorem dX12_findings_13 : decode cX12_findings 13 = .ok (.iload_n 1, 1) := dx_27 (dl_at 0 13 lb_X12_findings_0 rfl)
theorem dX12_findings_14 : decode cX12_findings 14 = .ok (.iaload, 1) := dx_46 (dl_at 0 14 lb_X12_findings_0 rfl)
theorem dX12_findings_15 : decode cX12_findings 15 = .ok (.goto 4, 3) := dx_167 (a := 0) (b := 4) (dl_at 0 15 lb_X12_findings_0 rfl) (dl_at 0 16 lb_X12_findings_0 rfl) (dl_at 0 17 lb_X12_findings_0 rfl) sg16_4
theorem dX12_findings_19 : decode cX12_findings 19 = .ok (.ireturn, 1) := dx_172 (dl_at 0 19 lb_X12_findings_0 rfl)
theorem dX12_findings_18 : decode cX12_findings 18 = .ok (.iconst (-1), 1) := dx_2 (dl_at 0 18 lb_X12_findings_0 rfl)
theorem lb_X12_mix_0 : dl_ck (cX12_mix.data.toList.drop 0) [42, 20, 1, 56, 42, 180, 1, 58, 105, 27, 133, 97, 181, 1, 58, 177] = true := by decide +kernel
theorem dX12_mix_0 : decode cX12_mix 0 = .ok (.aload_n 0, 1) := dx_42 (dl_at 0 0 lb_X12_mix_0 rfl)
theorem dX12_mix_1 : decode cX12_mix 1 = .ok (.ldc2_w 312, 3) := dx_20 (a := 1) (b := 56) (dl_at 0 1 lb_X12_mix_0 rfl) (dl_at 0 2 lb_X12_mix_0 rfl) (dl_at 0 3 lb_X12_mix_0 rfl) rfl
theorem dX12_mix_4 : decode cX12_mix 4 = .ok (.aload_n 0, 1) := dx_42 (dl_at 0 4 lb_X12_mix_0 rfl)
theorem dX12_mix_5 : decode cX12_mix 5 = .ok (.getfield 314, 3) := dx_180 (a := 1) (b := 58) (dl_at 0 5 lb_X12_mix_0 rfl) (dl_at 0 6 lb_X12_mix_0 rfl) (dl_at 0 7 lb_X12_mix_0 rfl) rfl
theorem dX12_mix_8 : decode cX12_mix 8 = .ok (.lmul, 1) := dx_105 (dl_at 0 8 lb_X12_mix_0 rfl)
theorem dX12_mix_9 : decode cX12_mix 9 = .ok (.iload_n 1, 1) := dx_27 (dl_at 0 9 lb_X12_mix_0 rfl)
theorem dX12_mix_10 : decode cX12_mix 10 = .ok (.i2l, 1) := dx_133 (dl_at 0 10 lb_X12_mix_0 rfl)
theorem dX12_mix_11 : decode cX12_mix 11 = .ok (.ladd, 1) := dx_97 (dl_at 0 11 lb_X12_mix_0 rfl)
theorem dX12_mix_12 : decode cX12_mix 12 = .ok (.putfield 314, 3) := dx_181 (a := 1) (b := 58) (dl_at 0 12 lb_X12_mix_0 rfl) (dl_at 0 13 lb_X12_mix_0 rfl) (dl_at 0 14 lb_X12_mix_0 rfl) rfl
theorem dX12_mix_15 : decode cX12_mix 15 = .ok (.return_, 1) := dx_177 (dl_at 0 15 lb_X12_mix_0 rfl)
theorem lb_X12_mixTown_0 : dl_ck (cX12_mixTown.data.toList.drop 0) [3, 60, 27, 42, 180, 0, 136, 162, 0, 32, 3, 61, 28, 6, 163, 0, 19, 42, 42, 27, 28, 182, 0, 173, 182, 1, 62, 132, 2, 1, 167, 255] = true := by decide +kernel
theorem lb_X12_mixTown_1 : dl_ck (cX12_mixTown.data.toList.drop 32) [238, 132, 1, 1, 167, 255, 222, 3, 60, 27, 42, 180, 0, 139, 162, 0, 47, 42, 42, 180, 0, 34, 5, 27, 104, 46, 182, 1, 62, 42, 42, 180] = true := by decide +kernel
theorem lb_X12_mixTown_2 : dl_ck (cX12_mixTown.data.toList.drop 64) [0, 34, 5, 27, 104, 4, 96, 46, 182, 1, 62, 42, 42, 180, 0, 142, 27, 122, 4, 126, 182, 1, 62, 132, 1, 1, 167, 255, 207, 3, 60, 27] = true := by decide +kernel
theorem lb_X12_mixTown_3 : dl_ck (cX12_mixTown.data.toList.drop 96) [42, 180, 0, 148, 162, 0, 53, 3, 61, 28, 7, 163, 0, 19, 42, 42, 27, 28, 182, 0, 207, 182, 1, 62, 132, 2, 1, 167, 255, 238, 42, 42] = true := by decide +kernel
theorem lb_X12_mixTown_4 : dl_ck (cX12_mixTown.data.toList.drop 128) [27, 8, 182, 0, 161, 182, 1, 62, 42, 42, 27, 16, 6, 182, 0, 161, 182, 1, 62, 132, 1, 1, 167, 255, 201, 3, 60, 27, 6, 162, 0, 40] = true := by decide +kernel
theorem lb_X12_mixTown_5 : dl_ck (cX12_mixTown.data.toList.drop 160) [42, 42, 180, 0, 52, 16, 64, 27, 104, 46, 16, 247, 160, 0, 7, 2, 167, 0, 12, 42, 180, 0, 52, 16, 64, 27, 104, 46, 182, 1, 62, 132] = true := by decide +kernel
theorem lb_X12_mixTown_6 : dl_ck (cX12_mixTown.data.toList.drop 192) [1, 1, 167, 255, 217, 177] = true := by decide +kernel
theorem dX12_mixTown_0 : decode cX12_mixTown 0 = .ok (.iconst 0, 1) := dx_3 (dl_at 0 0 lb_X12_mixTown_0 rfl)
theorem dX12_mixTown_1 : decode cX12_mixTown 1 = .ok (.istore_n 1, 1) := dx_60 (dl_at 0 1 lb_X12_mixTown_0 rfl)
theorem dX12_mixTown_2 : decode cX12_mixTown 2 = .ok (.iload_n 1, 1) := dx_27 (dl_at 0 2 lb_X12_mixTown_0 rfl)
theorem dX12_mixTown_3 : decode cX12_mixTown 3 = .ok (.aload_n 0, 1) := dx_42 (dl_at 0 3 lb_X12_mixTown_0 rfl)
theorem dX12_mixTown_4 : decode cX12_mixTown 4 = .ok (.getfield 136, 3) := dx_180 (a := 0) (b := 136) (dl_at 0 4 lb_X12_mixTown_0 rfl) (dl_at 0 5 lb_X12_mixTown_0 rfl) (dl_at 0 6 lb_X12_mixTown_0 rfl) rfl
theorem dX12_mixTown_7 : decode cX12_mixTown 7 = .ok (.if_icmp .ge 32, 3) := dx_162 (a := 0) (b := 32) (dl_at 0 7 lb_X12_mixTown_0 rfl) (dl_at 0 8 lb_X12_mixTown_0 rfl) (dl_at 0 9 lb_X12_mixTown_0 rfl) sg16_32
theorem dX12_mixTown_39 : decode cX12_mixTown 39 = .ok (.iconst 0, 1) := dx_3 (dl_at 32 7 lb_X12_mixTown_1 rfl)
theorem dX12_mixTown_40 : decode cX12_mixTown 40 = .ok (.istore_n 1, 1) := dx_60 (dl_at 32 8 lb_X12_mixTown_1 rfl)
theorem dX12_mixTown_41 : decode cX12_mixTown 41 = .ok (.iload_n 1, 1) := dx_27 (dl_at 32 9 lb_X12_mixTown_1 rfl)
theorem dX12_mixTown_42 : decode cX12_mixTown 42 = .ok (.aload_n 0, 1) := dx_42 (dl_at 32 10 lb_X12_mixTown_1 rfl)
theorem dX12_mixTown_43 : decode cX12_mixTown 43 = .ok (.getfield 139, 3) := dx_180 (a := 0) (b := 139) (dl_at 32 11 lb_X12_mixTown_1 rfl) (dl_at 32 12 lb_X12_mixTown_1 rfl) (dl_at 32 13 lb_X12_mixTown_1 rfl) rfl
theorem dX12_mixTown_46 : decode cX12_mixTown 46 = .ok (.if_icmp .ge 47, 3) := dx_162 (a := 0) (b := 47) (dl_at 32 14 lb_X12_mixTown_1 rfl) (dl_at 32 15 lb_X12_mixTown_1 rfl) (dl_at 32 16 lb_X12_mixTown_1 rfl) sg16_47
theorem dX12_mixTown_93 : decode cX12_mixTown 93 = .ok (.iconst 0, 1) := dx_3 (dl_at 64 29 lb_X12_mixTown_2 rfl)
theorem dX12_mixTown_94 : decode cX12_mixTown 94 = .ok (.istore_n 1, 1) := dx_60 (dl_at 64 30 lb_X12_mixTown_2 rfl)
theorem dX12_mixTown_95 : decode cX12_mixTown 95 = .ok (.iload_n 1, 1) := dx_27 (dl_at 64 31 lb_X12_mixTown_2 rfl)
theorem dX12_mixTown_96 : decode cX12_mixTown 96 = .ok (.aload_n 0, 1) := dx_42 (dl_at 96 0 lb_X12_mixTown_3 rfl)
theorem dX12_mixTown_97 : decode cX12_mixTown 97 = .ok (.getfield 148, 3) := dx_180 (a := 0) (b := 148) (dl_at 96 1 lb_X12_mixTown_3 rfl) (dl_at 96 2 lb_X12_mixTown_3 rfl) (dl_at 96 3 lb_X12_mixTown_3 rfl) rfl
theorem dX12_mixTown_100 : decode cX12_mixTown 100 = .ok (.if_icmp .ge 53, 3) := dx_162 (a := 0) (b := 53) (dl_at 96 4 lb_X12_mixTown_3 rfl) (dl_at 96 5 lb_X12_mixTown_3 rfl) (dl_at 96 6 lb_X12_mixTown_3 rfl) sg16_53
theorem dX12_mixTown_153 : decode cX12_mixTown 153 = .ok (.iconst 0, 1) := dx_3 (dl_at 128 25 lb_X12_mixTown_4 rfl)
theorem dX12_mixTown_154 : decode cX12_mixTown 154 = .ok (.istore_n 1, 1) := dx_60 (dl_at 128 26 lb_X12_mixTown_4 rfl)
theorem dX12_mixTown_155 : decode cX12_mixTown 155 = .ok (.iload_n 1, 1) := dx_27 (dl_at 128 27 lb_X12_mixTown_4 rfl)
theorem dX12_mixTown_156 : decode cX12_mixTown 156 = .ok (.iconst 3, 1) := dx_6 (dl_at 128 28 lb_X12_mixTown_4 rfl)
theorem dX12_mixTown_157 : decode cX12_mixTown 157 = .ok (.if_icmp .ge 40, 3) := dx_162 (a := 0) (b := 40) (dl_at 128 29 lb_X12_mixTown_4 rfl) (dl_at 128 30 lb_X12_mixTown_4 rfl) (dl_at 128 31 lb_X12_mixTown_4 rfl) sg16_40
theorem dX12_mixTown_197 : decode cX12_mixTown 197 = .ok (.return_, 1) := dx_177 (dl_at 192 5 lb_X12_mixTown_6 rfl)
theorem dX12_mixTown_160 : decode cX12_mixTown 160 = .ok (.aload_n 0, 1) := dx_42 (dl_at 160 0 lb_X12_mixTown_5 rfl)
theorem dX12_mixTown_161 : decode cX12_mixTown 161 = .ok (.aload_n 0, 1) := dx_42 (dl_at 160 1 lb_X12_mixTown_5 rfl)
theorem dX12_mixTown_162 : decode cX12_mixTown 162 = .ok (.getfield 52, 3) := dx_180 (a := 0) (b := 52) (dl_at 160 2 lb_X12_mixTown_5 rfl) (dl_at 160 3 lb_X12_mixTown_5 rfl) (dl_at 160 4 lb_X12_mixTown_5 rfl) rfl
theorem dX12_mixTown_165 : decode cX12_mixTown 165 = .ok (.bipush 64, 2) := dx_16 (dl_at 160 5 lb_X12_mixTown_5 rfl) (dl_at 160 6 lb_X12_mixTown_5 rfl) sg8_64
theorem dX12_mixTown_167 : decode cX12_mixTown 167 = .ok (.iload_n 1, 1) := dx_27 (dl_at 160 7 lb_X12_mixTown_5 rfl)
theorem dX12_mixTown_168 : decode cX12_mixTown 168 = .ok (.imul, 1) := dx_104 (dl_at 160 8 lb_X12_mixTown_5 rfl)
theorem dX12_mixTown_169 : decode cX12_mixTown 169 = .ok (.iaload, 1) := dx_46 (dl_at 160 9 lb_X12_mixTown_5 rfl)
theorem dX12_mixTown_170 : decode cX12_mixTown 170 = .ok (.bipush (-9), 2) := dx_16 (dl_at 160 10 lb_X12_mixTown_5 rfl) (dl_at 160 11 lb_X12_mixTown_5 rfl) sg8_247
theorem dX12_mixTown_172 : decode cX12_mixTown 172 = .ok (.if_icmp .ne 7, 3) := dx_160 (a := 0) (b := 7) (dl_at 160 12 lb_X12_mixTown_5 rfl) (dl_at 160 13 lb_X12_mixTown_5 rfl) (dl_at 160 14 lb_X12_mixTown_5 rfl) sg16_7
theorem dX12_mixTown_179 : decode cX12_mixTown 179 = .ok (.aload_n 0, 1) := dx_42 (dl_at 160 19 lb_X12_mixTown_5 rfl)
theorem dX12_mixTown_180 : decode cX12_mixTown 180 = .ok (.getfield 52, 3) := dx_180 (a := 0) (b := 52) (dl_at 160 20 lb_X12_mixTown_5 rfl) (dl_at 160 21 lb_X12_mixTown_5 rfl) (dl_at 160 22 lb_X12_mixTown_5 rfl) rfl
theorem dX12_mixTown_183 : decode cX12_mixTown 183 = .ok (.bipush 64, 2) := dx_16 (dl_at 160 23 lb_X12_mixTown_5 rfl) (dl_at 160 24 lb_X12_mixTown_5 rfl) sg8_64
theorem dX12_mixTown_185 : decode cX12_mixTown 185 = .ok (.iload_n 1, 1) := dx_27 (dl_at 160 25 lb_X12_mixTown_5 rfl)
theorem dX12_mixTown_186 : decode cX12_mixTown 186 = .ok (.imul, 1) := dx_104 (dl_at 160 26 lb_X12_mixTown_5 rfl)
theorem dX12_mixTown_187 : decode cX12_mixTown 187 = .ok (.iaload, 1) := dx_46 (dl_at 160 27 lb_X12_mixTown_5 rfl)
theorem dX12_mixTown_188 : decode cX12_mixTown 188 = .ok (.invokevirtual 318, 3) := dx_182 (a := 1) (b := 62) (dl_at 160 28 lb_X12_mixTown_5 rfl) (dl_at 160 29 lb_X12_mixTown_5 rfl) (dl_at 160 30 lb_X12_mixTown_5 rfl) rfl
theorem dX12_mixTown_191 : decode cX12_mixTown 191 = .ok (.iinc 1 1, 3) := dx_132 (dl_at 160 31 lb_X12_mixTown_5 rfl) (dl_at 192 0 lb_X12_mixTown_6 rfl) (dl_at 192 1 lb_X12_mixTown_6 rfl) sg8_1
theorem dX12_mixTown_194 : decode cX12_mixTown 194 = .ok (.goto (-39), 3) := dx_167 (a := 255) (b := 217) (dl_at 192 2 lb_X12_mixTown_6 rfl) (dl_at 192 3 lb_X12_mixTown_6 rfl) (dl_at 192 4 lb_X12_mixTown_6 rfl) sg16_65497
theorem dX12_mixTown_175 : decode cX12_mixTown 175 = .ok (.iconst (-1), 1) := dx_2 (dl_at 160 15 lb_X12_mixTown_5 rfl)
theorem dX12_mixTown_176 : decode cX12_mixTown 176 = .ok (.goto 12, 3) := dx_167 (a := 0) (b := 12) (dl_at 160 16 lb_X12_mixTown_5 rfl) (dl_at 160 17 lb_X12_mixTown_5 rfl) (dl_at 160 18 lb_X12_mixTown_5 rfl) sg16_12
theorem dX12_mixTown_103 : decode cX12_mixTown 103 = .ok (.iconst 0, 1) := dx_3 (dl_at 96 7 lb_X12_mixTown_3 rfl)
theorem dX12_mixTown_104 : decode cX12_mixTown 104 = .ok (.istore_n 2, 1) := dx_61 (dl_at 96 8 lb_X12_mixTown_3 rfl)
theorem dX12_mixTown_105 : decode cX12_mixTown 105 = .ok (.iload_n 2, 1) := dx_28 (dl_at 96 9 lb_X12_mixTown_3 rfl)
theorem dX12_mixTown_106 : decode cX12_mixTown 106 = .ok (.iconst 4, 1) := dx_7 (dl_at 96 10 lb_X12_mixTown_3 rfl)
theorem dX12_mixTown_107 : decode cX12_mixTown 107 = .ok (.if_icmp .gt 19, 3) := dx_163 (a := 0) (b := 19) (dl_at 96 11 lb_X12_mixTown_3 rfl) (dl_at 96 12 lb_X12_mixTown_3 rfl) (dl_at 96 13 lb_X12_mixTown_3 rfl) sg16_19
theorem dX12_mixTown_126 : decode cX12_mixTown 126 = .ok (.aload_n 0, 1) := dx_42 (dl_at 96 30 lb_X12_mixTown_3 rfl)
theorem dX12_mixTown_127 : decode cX12_mixTown 127 = .ok (.aload_n 0, 1) := dx_42 (dl_at 96 31 lb_X12_mixTown_3 rfl)
theorem dX12_mixTown_128 : decode cX12_mixTown 128 = .ok (.iload_n 1, 1) := dx_27 (dl_at 128 0 lb_X12_mixTown_4 rfl)
theorem dX12_mixTown_129 : decode cX12_mixTown 129 = .ok (.iconst 5, 1) := dx_8 (dl_at 128 1 lb_X12_mixTown_4 rfl)
theorem dX12_mixTown_130 : decode cX12_mixTown 130 = .ok (.invokevirtual 161, 3) := dx_182 (a := 0) (b := 161) (dl_at 128 2 lb_X12_mixTown_4 rfl) (dl_at 128 3 lb_X12_mixTown_4 rfl) (dl_at 128 4 lb_X12_mixTown_4 rfl) rfl
theorem dX12_mixTown_133 : decode cX12_mixTown 133 = .ok (.invokevirtual 318, 3) := dx_182 (a := 1) (b := 62) (dl_at 128 5 lb_X12_mixTown_4 rfl) (dl_at 128 6 lb_X12_mixTown_4 rfl) (dl_at 128 7 lb_X12_mixTown_4 rfl) rfl
theorem dX12_mixTown_136 : decode cX12_mixTown 136 = .ok (.aload_n 0, 1) := dx_42 (dl_at 128 8 lb_X12_mixTown_4 rfl)
theorem dX12_mixTown_137 : decode cX12_mixTown 137 = .ok (.aload_n 0, 1) := dx_42 (dl_at 128 9 lb_X12_mixTown_4 rfl)
theorem dX12_mixTown_138 : decode cX12_mixTown 138 = .ok (.iload_n 1, 1) := dx_27 (dl_at 128 10 lb_X12_mixTown_4 rfl)
theorem dX12_mixTown_139 : decode cX12_mixTown 139 = .ok (.bipush 6, 2) := dx_16 (dl_at 128 11 lb_X12_mixTown_4 rfl) (dl_at 128 12 lb_X12_mixTown_4 rfl) sg8_6
theorem dX12_mixTown_141 : decode cX12_mixTown 141 = .ok (.invokevirtual 161, 3) := dx_182 (a := 0) (b := 161) (dl_at 128 13 lb_X12_mixTown_4 rfl) (dl_at 128 14 lb_X12_mixTown_4 rfl) (dl_at 128 15 lb_X12_mixTown_4 rfl) rfl
theorem dX12_mixTown_144 : decode cX12_mixTown 144 = .ok (.invokevirtual 318, 3) := dx_182 (a := 1) (b := 62) (dl_at 128 16 lb_X12_mixTown_4 rfl) (dl_at 128 17 lb_X12_mixTown_4 rfl) (dl_at 128 18 lb_X12_mixTown_4 rfl) rfl
theorem dX12_mixTown_147 : decode cX12_mixTown 147 = .ok (.iinc 1 1, 3) := dx_132 (dl_at 128 19 lb_X12_mixTown_4 rfl) (dl_at 128 20 lb_X12_mixTown_4 rfl) (dl_at 128 21 lb_X12_mixTown_4 rfl) sg8_1
theorem dX12_mixTown_150 : decode cX12_mixTown 150 = .ok (.goto (-55), 3) := dx_167 (a := 255) (b := 201) (dl_at 128 22 lb_X12_mixTown_4 rfl) (dl_at 128 23 lb_X12_mixTown_4 rfl) (dl_at 128 24 lb_X12_mixTown_4 rfl) sg16_65481
theorem dX12_mixTown_110 : decode cX12_mixTown 110 = .ok (.aload_n 0, 1) := dx_42 (dl_at 96 14 lb_X12_mixTown_3 rfl)
theorem dX12_mixTown_111 : decode cX12_mixTown 111 = .ok (.aload_n 0, 1) := dx_42 (dl_at 96 15 lb_X12_mixTown_3 rfl)
theorem dX12_mixTown_112 : decode cX12_mixTown 112 = .ok (.iload_n 1, 1) := dx_27 (dl_at 96 16 lb_X12_mixTown_3 rfl)
theorem dX12_mixTown_113 : decode cX12_mixTown 113 = .ok (.iload_n 2, 1) := dx_28 (dl_at 96 17 lb_X12_mixTown_3 rfl)
theorem dX12_mixTown_114 : decode cX12_mixTown 114 = .ok (.invokevirtual 207, 3) := dx_182 (a := 0) (b := 207) (dl_at 96 18 lb_X12_mixTown_3 rfl) (dl_at 96 19 lb_X12_mixTown_3 rfl) (dl_at 96 20 lb_X12_mixTown_3 rfl) rfl
theorem dX12_mixTown_117 : decode cX12_mixTown 117 = .ok (.invokevirtual 318, 3) := dx_182 (a := 1) (b := 62) (dl_at 96 21 lb_X12_mixTown_3 rfl) (dl_at 96 22 lb_X12_mixTown_3 rfl) (dl_at 96 23 lb_X12_mixTown_3 rfl) rfl
theorem dX12_mixTown_120 : decode cX12_mixTown 120 = .ok (.iinc 2 1, 3) := dx_132 (dl_at 96 24 lb_X12_mixTown_3 rfl) (dl_at 96 25 lb_X12_mixTown_3 rfl) (dl_at 96 26 lb_X12_mixTown_3 rfl) sg8_1
theorem dX12_mixTown_123 : decode cX12_mixTown 123 = .ok (.goto (-18), 3) := dx_167 (a := 255) (b := 238) (dl_at 96 27 lb_X12_mixTown_3 rfl) (dl_at 96 28 lb_X12_mixTown_3 rfl) (dl_at 96 29 lb_X12_mixTown_3 rfl) sg16_65518
theorem dX12_mixTown_49 : decode cX12_mixTown 49 = .ok (.aload_n 0, 1) := dx_42 (dl_at 32 17 lb_X12_mixTown_1 rfl)
theorem dX12_mixTown_50 : decode cX12_mixTown 50 = .ok (.aload_n 0, 1) := dx_42 (dl_at 32 18 lb_X12_mixTown_1 rfl)
theorem dX12_mixTown_51 : decode cX12_mixTown 51 = .ok (.getfield 34, 3) := dx_180 (a := 0) (b := 34) (dl_at 32 19 lb_X12_mixTown_1 rfl) (dl_at 32 20 lb_X12_mixTown_1 rfl) (dl_at 32 21 lb_X12_mixTown_1 rfl) rfl
theorem dX12_mixTown_54 : decode cX12_mixTown 54 = .ok (.iconst 2, 1) := dx_5 (dl_at 32 22 lb_X12_mixTown_1 rfl)
theorem dX12_mixTown_55 : decode cX12_mixTown 55 = .ok (.iload_n 1, 1) := dx_27 (dl_at 32 23 lb_X12_mixTown_1 rfl)
theorem dX12_mixTown_56 : decode cX12_mixTown 56 = .ok (.imul, 1) := dx_104 (dl_at 32 24 lb_X12_mixTown_1 rfl)
theorem dX12_mixTown_57 : decode cX12_mixTown 57 = .ok (.iaload, 1) := dx_46 (dl_at 32 25 lb_X12_mixTown_1 rfl)
theorem dX12_mixTown_58 : decode cX12_mixTown 58 = .ok (.invokevirtual 318, 3) := dx_182 (a := 1) (b := 62) (dl_at 32 26 lb_X12_mixTown_1 rfl) (dl_at 32 27 lb_X12_mixTown_1 rfl) (dl_at 32 28 lb_X12_mixTown_1 rfl) rfl
theorem dX12_mixTown_61 : decode cX12_mixTown 61 = .ok (.aload_n 0, 1) := dx_42 (dl_at 32 29 lb_X12_mixTown_1 rfl)
theorem dX12_mixTown_62 : decode cX12_mixTown 62 = .ok (.aload_n 0, 1) := dx_42 (dl_at 32 30 lb_X12_mixTown_1 rfl)
theorem dX12_mixTown_63 : decode cX12_mixTown 63 = .ok (.getfield 34, 3) := dx_180 (a := 0) (b := 34) (dl_at 32 31 lb_X12_mixTown_1 rfl) (dl_at 64 0 lb_X12_mixTown_2 rfl) (dl_at 64 1 lb_X12_mixTown_2 rfl) rfl
theorem dX12_mixTown_66 : decode cX12_mixTown 66 = .ok (.iconst 2, 1) := dx_5 (dl_at 64 2 lb_X12_mixTown_2 rfl)
theorem dX12_mixTown_67 : decode cX12_mixTown 67 = .ok (.iload_n 1, 1) := dx_27 (dl_at 64 3 lb_X12_mixTown_2 rfl)
theorem dX12_mixTown_68 : decode cX12_mixTown 68 = .ok (.imul, 1) := dx_104 (dl_at 64 4 lb_X12_mixTown_2 rfl)
theorem dX12_mixTown_69 : decode cX12_mixTown 69 = .ok (.iconst 1, 1) := dx_4 (dl_at 64 5 lb_X12_mixTown_2 rfl)
theorem dX12_mixTown_70 : decode cX12_mixTown 70 = .ok (.iadd, 1) := dx_96 (dl_at 64 6 lb_X12_mixTown_2 rfl)
theorem dX12_mixTown_71 : decode cX12_mixTown 71 = .ok (.iaload, 1) := dx_46 (dl_at 64 7 lb_X12_mixTown_2 rfl)
theorem dX12_mixTown_72 : decode cX12_mixTown 72 = .ok (.invokevirtual 318, 3) := dx_182 (a := 1) (b := 62) (dl_at 64 8 lb_X12_mixTown_2 rfl) (dl_at 64 9 lb_X12_mixTown_2 rfl) (dl_at 64 10 lb_X12_mixTown_2 rfl) rfl
theorem dX12_mixTown_75 : decode cX12_mixTown 75 = .ok (.aload_n 0, 1) := dx_42 (dl_at 64 11 lb_X12_mixTown_2 rfl)
theorem dX12_mixTown_76 : decode cX12_mixTown 76 = .ok (.aload_n 0, 1) := dx_42 (dl_at 64 12 lb_X12_mixTown_2 rfl)
theorem dX12_mixTown_77 : decode cX12_mixTown 77 = .ok (.getfield 142, 3) := dx_180 (a := 0) (b := 142) (dl_at 64 13 lb_X12_mixTown_2 rfl) (dl_at 64 14 lb_X12_mixTown_2 rfl) (dl_at 64 15 lb_X12_mixTown_2 rfl) rfl
theorem dX12_mixTown_80 : decode cX12_mixTown 80 = .ok (.iload_n 1, 1) := dx_27 (dl_at 64 16 lb_X12_mixTown_2 rfl)
theorem dX12_mixTown_81 : decode cX12_mixTown 81 = .ok (.ishr, 1) := dx_122 (dl_at 64 17 lb_X12_mixTown_2 rfl)
theorem dX12_mixTown_82 : decode cX12_mixTown 82 = .ok (.iconst 1, 1) := dx_4 (dl_at 64 18 lb_X12_mixTown_2 rfl)
theorem dX12_mixTown_83 : decode cX12_mixTown 83 = .ok (.iand, 1) := dx_126 (dl_at 64 19 lb_X12_mixTown_2 rfl)
theorem dX12_mixTown_84 : decode cX12_mixTown 84 = .ok (.invokevirtual 318, 3) := dx_182 (a := 1) (b := 62) (dl_at 64 20 lb_X12_mixTown_2 rfl) (dl_at 64 21 lb_X12_mixTown_2 rfl) (dl_at 64 22 lb_X12_mixTown_2 rfl) rfl
theorem dX12_mixTown_87 : decode cX12_mixTown 87 = .ok (.iinc 1 1, 3) := dx_132 (dl_at 64 23 lb_X12_mixTown_2 rfl) (dl_at 64 24 lb_X12_mixTown_2 rfl) (dl_at 64 25 lb_X12_mixTown_2 rfl) sg8_1
theorem dX12_mixTown_90 : decode cX12_mixTown 90 = .ok (.goto (-49), 3) := dx_167 (a := 255) (b := 207) (dl_at 64 26 lb_X12_mixTown_2 rfl) (dl_at 64 27 lb_X12_mixTown_2 rfl) (dl_at 64 28 lb_X12_mixTown_2 rfl) sg16_65487
theorem dX12_mixTown_10 : decode cX12_mixTown 10 = .ok (.iconst 0, 1) := dx_3 (dl_at 0 10 lb_X12_mixTown_0 rfl)
theorem dX12_mixTown_11 : decode cX12_mixTown 11 = .ok (.istore_n 2, 1) := dx_61 (dl_at 0 11 lb_X12_mixTown_0 rfl)
theorem dX12_mixTown_12 : decode cX12_mixTown 12 = .ok (.iload_n 2, 1) := dx_28 (dl_at 0 12 lb_X12_mixTown_0 rfl)
theorem dX12_mixTown_13 : decode cX12_mixTown 13 = .ok (.iconst 3, 1) := dx_6 (dl_at 0 13 lb_X12_mixTown_0 rfl)
theorem dX12_mixTown_14 : decode cX12_mixTown 14 = .ok (.if_icmp .gt 19, 3) := dx_163 (a := 0) (b := 19) (dl_at 0 14 lb_X12_mixTown_0 rfl) (dl_at 0 15 lb_X12_mixTown_0 rfl) (dl_at 0 16 lb_X12_mixTown_0 rfl) sg16_19
theorem dX12_mixTown_33 : decode cX12_mixTown 33 = .ok (.iinc 1 1, 3) := dx_132 (dl_at 32 1 lb_X12_mixTown_1 rfl) (dl_at 32 2 lb_X12_mixTown_1 rfl) (dl_at 32 3 lb_X12_mixTown_1 rfl) sg8_1
theorem dX12_mixTown_36 : decode cX12_mixTown 36 = .ok (.goto (-34), 3) := dx_167 (a := 255) (b := 222) (dl_at 32 4 lb_X12_mixTown_1 rfl) (dl_at 32 5 lb_X12_mixTown_1 rfl) (dl_at 32 6 lb_X12_mixTown_1 rfl) sg16_65502
theorem dX12_mixTown_17 : decode cX12_mixTown 17 = .ok (.aload_n 0, 1) := dx_42 (dl_at 0 17 lb_X12_mixTown_0 rfl)
theorem dX12_mixTown_18 : decode cX12_mixTown 18 = .ok (.aload_n 0, 1) := dx_42 (dl_at 0 18 lb_X12_mixTown_0 rfl)
theorem dX12_mixTown_19 : decode cX12_mixTown 19 = .ok (.iload_n 1, 1) := dx_27 (dl_at 0 19 lb_X12_mixTown_0 rfl)
theorem dX12_mixTown_20 : decode cX12_mixTown 20 = .ok (.iload_n 2, 1) := dx_28 (dl_at 0 20 lb_X12_mixTown_0 rfl)
theorem dX12_mixTown_21 : decode cX12_mixTown 21 = .ok (.invokevirtual 173, 3) := dx_182 (a := 0) (b := 173) (dl_at 0 21 lb_X12_mixTown_0 rfl) (dl_at 0 22 lb_X12_mixTown_0 rfl) (dl_at 0 23 lb_X12_mixTown_0 rfl) rfl
theorem dX12_mixTown_24 : decode cX12_mixTown 24 = .ok (.invokevirtual 318, 3) := dx_182 (a := 1) (b := 62) (dl_at 0 24 lb_X12_mixTown_0 rfl) (dl_at 0 25 lb_X12_mixTown_0 rfl) (dl_at 0 26 lb_X12_mixTown_0 rfl) rfl
theorem dX12_mixTown_27 : decode cX12_mixTown 27 = .ok (.iinc 2 1, 3) := dx_132 (dl_at 0 27 lb_X12_mixTown_0 rfl) (dl_at 0 28 lb_X12_mixTown_0 rfl) (dl_at 0 29 lb_X12_mixTown_0 rfl) sg8_1
theorem dX12_mixTown_30 : decode cX12_mixTown 30 = .ok (.goto (-18), 3) := dx_167 (a := 255) (b := 238) (dl_at 0 30 lb_X12_mixTown_0 rfl) (dl_at 0 31 lb_X12_mixTown_0 rfl) (dl_at 32 0 lb_X12_mixTown_1 rfl) sg16_65518
theorem lb_X12_digest_0 : dl_ck (cX12_digest.data.toList.drop 0) [42, 20, 1, 65, 181, 1, 58, 3, 60, 27, 16, 8, 163, 0, 18, 42, 42, 27, 182, 1, 53, 182, 1, 62, 132, 1, 1, 167, 255, 238, 42, 182] = true := by decide +kernel
theorem lb_X12_digest_1 : dl_ck (cX12_digest.data.toList.drop 32) [1, 67, 3, 60, 27, 16, 6, 162, 0, 60, 42, 42, 180, 0, 13, 27, 46, 156, 0, 7, 2, 167, 0, 9, 42, 180, 0, 13, 27, 46, 182, 1] = true := by decide +kernel
theorem lb_X12_digest_2 : dl_ck (cX12_digest.data.toList.drop 64) [62, 3, 61, 28, 42, 180, 0, 13, 27, 46, 162, 0, 19, 42, 42, 27, 28, 182, 0, 99, 182, 1, 62, 132, 2, 1, 167, 255, 233, 132, 1, 1] = true := by decide +kernel
theorem lb_X12_digest_3 : dl_ck (cX12_digest.data.toList.drop 96) [167, 255, 196, 3, 60, 27, 7, 162, 0, 65, 42, 42, 180, 0, 22, 27, 46, 156, 0, 7, 2, 167, 0, 9, 42, 180, 0, 22, 27, 46, 182, 1] = true := by decide +kernel
theorem lb_X12_digest_4 : dl_ck (cX12_digest.data.toList.drop 128) [62, 3, 61, 28, 42, 180, 0, 22, 27, 46, 162, 0, 24, 42, 42, 180, 0, 25, 16, 80, 27, 104, 28, 96, 46, 182, 1, 62, 132, 2, 1, 167] = true := by decide +kernel
theorem lb_X12_digest_5 : dl_ck (cX12_digest.data.toList.drop 160) [255, 228, 132, 1, 1, 167, 255, 192, 42, 180, 1, 58, 173] = true := by decide +kernel
theorem dX12_digest_0 : decode cX12_digest 0 = .ok (.aload_n 0, 1) := dx_42 (dl_at 0 0 lb_X12_digest_0 rfl)
theorem dX12_digest_1 : decode cX12_digest 1 = .ok (.ldc2_w 321, 3) := dx_20 (a := 1) (b := 65) (dl_at 0 1 lb_X12_digest_0 rfl) (dl_at 0 2 lb_X12_digest_0 rfl) (dl_at 0 3 lb_X12_digest_0 rfl) rfl
theorem dX12_digest_4 : decode cX12_digest 4 = .ok (.putfield 314, 3) := dx_181 (a := 1) (b := 58) (dl_at 0 4 lb_X12_digest_0 rfl) (dl_at 0 5 lb_X12_digest_0 rfl) (dl_at 0 6 lb_X12_digest_0 rfl) rfl
theorem dX12_digest_7 : decode cX12_digest 7 = .ok (.iconst 0, 1) := dx_3 (dl_at 0 7 lb_X12_digest_0 rfl)
theorem dX12_digest_8 : decode cX12_digest 8 = .ok (.istore_n 1, 1) := dx_60 (dl_at 0 8 lb_X12_digest_0 rfl)
theorem dX12_digest_9 : decode cX12_digest 9 = .ok (.iload_n 1, 1) := dx_27 (dl_at 0 9 lb_X12_digest_0 rfl)
theorem dX12_digest_10 : decode cX12_digest 10 = .ok (.bipush 8, 2) := dx_16 (dl_at 0 10 lb_X12_digest_0 rfl) (dl_at 0 11 lb_X12_digest_0 rfl) sg8_8
theorem dX12_digest_12 : decode cX12_digest 12 = .ok (.if_icmp .gt 18, 3) := dx_163 (a := 0) (b := 18) (dl_at 0 12 lb_X12_digest_0 rfl) (dl_at 0 13 lb_X12_digest_0 rfl) (dl_at 0 14 lb_X12_digest_0 rfl) sg16_18
theorem dX12_digest_30 : decode cX12_digest 30 = .ok (.aload_n 0, 1) := dx_42 (dl_at 0 30 lb_X12_digest_0 rfl)
theorem dX12_digest_31 : decode cX12_digest 31 = .ok (.invokevirtual 323, 3) := dx_182 (a := 1) (b := 67) (dl_at 0 31 lb_X12_digest_0 rfl) (dl_at 32 0 lb_X12_digest_1 rfl) (dl_at 32 1 lb_X12_digest_1 rfl) rfl
theorem dX12_digest_34 : decode cX12_digest 34 = .ok (.iconst 0, 1) := dx_3 (dl_at 32 2 lb_X12_digest_1 rfl)
theorem dX12_digest_35 : decode cX12_digest 35 = .ok (.istore_n 1, 1) := dx_60 (dl_at 32 3 lb_X12_digest_1 rfl)
theorem dX12_digest_36 : decode cX12_digest 36 = .ok (.iload_n 1, 1) := dx_27 (dl_at 32 4 lb_X12_digest_1 rfl)
theorem dX12_digest_37 : decode cX12_digest 37 = .ok (.bipush 6, 2) := dx_16 (dl_at 32 5 lb_X12_digest_1 rfl) (dl_at 32 6 lb_X12_digest_1 rfl) sg8_6
theorem dX12_digest_39 : decode cX12_digest 39 = .ok (.if_icmp .ge 60, 3) := dx_162 (a := 0) (b := 60) (dl_at 32 7 lb_X12_digest_1 rfl) (dl_at 32 8 lb_X12_digest_1 rfl) (dl_at 32 9 lb_X12_digest_1 rfl) sg16_60
theorem dX12_digest_99 : decode cX12_digest 99 = .ok (.iconst 0, 1) := dx_3 (dl_at 96 3 lb_X12_digest_3 rfl)
theorem dX12_digest_100 : decode cX12_digest 100 = .ok (.istore_n 1, 1) := dx_60 (dl_at 96 4 lb_X12_digest_3 rfl)
theorem dX12_digest_101 : decode cX12_digest 101 = .ok (.iload_n 1, 1) := dx_27 (dl_at 96 5 lb_X12_digest_3 rfl)
theorem dX12_digest_102 : decode cX12_digest 102 = .ok (.iconst 4, 1) := dx_7 (dl_at 96 6 lb_X12_digest_3 rfl)
theorem dX12_digest_103 : decode cX12_digest 103 = .ok (.if_icmp .ge 65, 3) := dx_162 (a := 0) (b := 65) (dl_at 96 7 lb_X12_digest_3 rfl) (dl_at 96 8 lb_X12_digest_3 rfl) (dl_at 96 9 lb_X12_digest_3 rfl) sg16_65
theorem dX12_digest_168 : decode cX12_digest 168 = .ok (.aload_n 0, 1) := dx_42 (dl_at 160 8 lb_X12_digest_5 rfl)
theorem dX12_digest_169 : decode cX12_digest 169 = .ok (.getfield 314, 3) := dx_180 (a := 1) (b := 58) (dl_at 160 9 lb_X12_digest_5 rfl) (dl_at 160 10 lb_X12_digest_5 rfl) (dl_at 160 11 lb_X12_digest_5 rfl) rfl
theorem dX12_digest_172 : decode cX12_digest 172 = .ok (.lreturn, 1) := dx_173 (dl_at 160 12 lb_X12_digest_5 rfl)
theorem dX12_digest_106 : decode cX12_digest 106 = .ok (.aload_n 0, 1) := dx_42 (dl_at 96 10 lb_X12_digest_3 rfl)
theorem dX12_digest_107 : decode cX12_digest 107 = .ok (.aload_n 0, 1) := dx_42 (dl_at 96 11 lb_X12_digest_3 rfl)
theorem dX12_digest_108 : decode cX12_digest 108 = .ok (.getfield 22, 3) := dx_180 (a := 0) (b := 22) (dl_at 96 12 lb_X12_digest_3 rfl) (dl_at 96 13 lb_X12_digest_3 rfl) (dl_at 96 14 lb_X12_digest_3 rfl) rfl
theorem dX12_digest_111 : decode cX12_digest 111 = .ok (.iload_n 1, 1) := dx_27 (dl_at 96 15 lb_X12_digest_3 rfl)
theorem dX12_digest_112 : decode cX12_digest 112 = .ok (.iaload, 1) := dx_46 (dl_at 96 16 lb_X12_digest_3 rfl)
theorem dX12_digest_113 : decode cX12_digest 113 = .ok (.ifCond .ge 7, 3) := dx_156 (a := 0) (b := 7) (dl_at 96 17 lb_X12_digest_3 rfl) (dl_at 96 18 lb_X12_digest_3 rfl) (dl_at 96 19 lb_X12_digest_3 rfl) sg16_7
theorem dX12_digest_120 : decode cX12_digest 120 = .ok (.aload_n 0, 1) := dx_42 (dl_at 96 24 lb_X12_digest_3 rfl)
theorem dX12_digest_121 : decode cX12_digest 121 = .ok (.getfield 22, 3) := dx_180 (a := 0) (b := 22) (dl_at 96 25 lb_X12_digest_3 rfl) (dl_at 96 26 lb_X12_digest_3 rfl) (dl_at 96 27 lb_X12_digest_3 rfl) rfl
theorem dX12_digest_124 : decode cX12_digest 124 = .ok (.iload_n 1, 1) := dx_27 (dl_at 96 28 lb_X12_digest_3 rfl)
theorem dX12_digest_125 : decode cX12_digest 125 = .ok (.iaload, 1) := dx_46 (dl_at 96 29 lb_X12_digest_3 rfl)
theorem dX12_digest_126 : decode cX12_digest 126 = .ok (.invokevirtual 318, 3) := dx_182 (a := 1) (b := 62) (dl_at 96 30 lb_X12_digest_3 rfl) (dl_at 96 31 lb_X12_digest_3 rfl) (dl_at 128 0 lb_X12_digest_4 rfl) rfl
theorem dX12_digest_129 : decode cX12_digest 129 = .ok (.iconst 0, 1) := dx_3 (dl_at 128 1 lb_X12_digest_4 rfl)
theorem dX12_digest_130 : decode cX12_digest 130 = .ok (.istore_n 2, 1) := dx_61 (dl_at 128 2 lb_X12_digest_4 rfl)
theorem dX12_digest_131 : decode cX12_digest 131 = .ok (.iload_n 2, 1) := dx_28 (dl_at 128 3 lb_X12_digest_4 rfl)
theorem dX12_digest_132 : decode cX12_digest 132 = .ok (.aload_n 0, 1) := dx_42 (dl_at 128 4 lb_X12_digest_4 rfl)
theorem dX12_digest_133 : decode cX12_digest 133 = .ok (.getfield 22, 3) := dx_180 (a := 0) (b := 22) (dl_at 128 5 lb_X12_digest_4 rfl) (dl_at 128 6 lb_X12_digest_4 rfl) (dl_at 128 7 lb_X12_digest_4 rfl) rfl
theorem dX12_digest_136 : decode cX12_digest 136 = .ok (.iload_n 1, 1) := dx_27 (dl_at 128 8 lb_X12_digest_4 rfl)
theorem dX12_digest_137 : decode cX12_digest 137 = .ok (.iaload, 1) := dx_46 (dl_at 128 9 lb_X12_digest_4 rfl)
theorem dX12_digest_138 : decode cX12_digest 138 = .ok (.if_icmp .ge 24, 3) := dx_162 (a := 0) (b := 24) (dl_at 128 10 lb_X12_digest_4 rfl) (dl_at 128 11 lb_X12_digest_4 rfl) (dl_at 128 12 lb_X12_digest_4 rfl) sg16_24
theorem dX12_digest_162 : decode cX12_digest 162 = .ok (.iinc 1 1, 3) := dx_132 (dl_at 160 2 lb_X12_digest_5 rfl) (dl_at 160 3 lb_X12_digest_5 rfl) (dl_at 160 4 lb_X12_digest_5 rfl) sg8_1
theorem dX12_digest_165 : decode cX12_digest 165 = .ok (.goto (-64), 3) := dx_167 (a := 255) (b := 192) (dl_at 160 5 lb_X12_digest_5 rfl) (dl_at 160 6 lb_X12_digest_5 rfl) (dl_at 160 7 lb_X12_digest_5 rfl) sg16_65472
theorem dX12_digest_141 : decode cX12_digest 141 = .ok (.aload_n 0, 1) := dx_42 (dl_at 128 13 lb_X12_digest_4 rfl)
theorem dX12_digest_142 : decode cX12_digest 142 = .ok (.aload_n 0, 1) := dx_42 (dl_at 128 14 lb_X12_digest_4 rfl)
theorem dX12_digest_143 : decode cX12_digest 143 = .ok (.getfield 25, 3) := dx_180 (a := 0) (b := 25) (dl_at 128 15 lb_X12_digest_4 rfl) (dl_at 128 16 lb_X12_digest_4 rfl) (dl_at 128 17 lb_X12_digest_4 rfl) rfl
theorem dX12_digest_146 : decode cX12_digest 146 = .ok (.bipush 80, 2) := dx_16 (dl_at 128 18 lb_X12_digest_4 rfl) (dl_at 128 19 lb_X12_digest_4 rfl) sg8_80
theorem dX12_digest_148 : decode cX12_digest 148 = .ok (.iload_n 1, 1) := dx_27 (dl_at 128 20 lb_X12_digest_4 rfl)
theorem dX12_digest_149 : decode cX12_digest 149 = .ok (.imul, 1) := dx_104 (dl_at 128 21 lb_X12_digest_4 rfl)
theorem dX12_digest_150 : decode cX12_digest 150 = .ok (.iload_n 2, 1) := dx_28 (dl_at 128 22 lb_X12_digest_4 rfl)
theorem dX12_digest_151 : decode cX12_digest 151 = .ok (.iadd, 1) := dx_96 (dl_at 128 23 lb_X12_digest_4 rfl)
theorem dX12_digest_152 : decode cX12_digest 152 = .ok (.iaload, 1) := dx_46 (dl_at 128 24 lb_X12_digest_4 rfl)
theorem dX12_digest_153 : decode cX12_digest 153 = .ok (.invokevirtual 318, 3) := dx_182 (a := 1) (b := 62) (dl_at 128 25 lb_X12_digest_4 rfl) (dl_at 128 26 lb_X12_digest_4 rfl) (dl_at 128 27 lb_X12_digest_4 rfl) rfl
theorem dX12_digest_156 : decode cX12_digest 156 = .ok (.iinc 2 1, 3) := dx_132 (dl_at 128 28 lb_X12_digest_4 rfl) (dl_at 128 29 lb_X12_digest_4 rfl) (dl_at 128 30 lb_X12_digest_4 rfl) sg8_1
theorem dX12_digest_159 : decode cX12_digest 159 = .ok (.goto (-28), 3) := dx_167 (a := 255) (b := 228) (dl_at 128 31 lb_X12_digest_4 rfl) (dl_at 160 0 lb_X12_digest_5 rfl) (dl_at 160 1 lb_X12_digest_5 rfl) sg16_65508
theorem dX12_digest_116 : decode cX12_digest 116 = .ok (.iconst (-1), 1) := dx_2 (dl_at 96 20 lb_X12_digest_3 rfl)
theorem dX12_digest_117 : decode cX12_digest 117 = .ok (.goto 9, 3) := dx_167 (a := 0) (b := 9) (dl_at 96 21 lb_X12_digest_3 rfl) (dl_at 96 22 lb_X12_digest_3 rfl) (dl_at 96 23 lb_X12_digest_3 rfl) sg16_9
theorem dX12_digest_42 : decode cX12_digest 42 = .ok (.aload_n 0, 1) := dx_42 (dl_at 32 10 lb_X12_digest_1 rfl)
theorem dX12_digest_43 : decode cX12_digest 43 = .ok (.aload_n 0, 1) := dx_42 (dl_at 32 11 lb_X12_digest_1 rfl)
theorem dX12_digest_44 : decode cX12_digest 44 = .ok (.getfield 13, 3) := dx_180 (a := 0) (b := 13) (dl_at 32 12 lb_X12_digest_1 rfl) (dl_at 32 13 lb_X12_digest_1 rfl) (dl_at 32 14 lb_X12_digest_1 rfl) rfl
theorem dX12_digest_47 : decode cX12_digest 47 = .ok (.iload_n 1, 1) := dx_27 (dl_at 32 15 lb_X12_digest_1 rfl)
theorem dX12_digest_48 : decode cX12_digest 48 = .ok (.iaload, 1) := dx_46 (dl_at 32 16 lb_X12_digest_1 rfl)
theorem dX12_digest_49 : decode cX12_digest 49 = .ok (.ifCond .ge 7, 3) := dx_156 (a := 0) (b := 7) (dl_at 32 17 lb_X12_digest_1 rfl) (dl_at 32 18 lb_X12_digest_1 rfl) (dl_at 32 19 lb_X12_digest_1 rfl) sg16_7
theorem dX12_digest_56 : decode cX12_digest 56 = .ok (.aload_n 0, 1) := dx_42 (dl_at 32 24 lb_X12_digest_1 rfl)
theorem dX12_digest_57 : decode cX12_digest 57 = .ok (.getfield 13, 3) := dx_180 (a := 0) (b := 13) (dl_at 32 25 lb_X12_digest_1 rfl) (dl_at 32 26 lb_X12_digest_1 rfl) (dl_at 32 27 lb_X12_digest_1 rfl) rfl
theorem dX12_digest_60 : decode cX12_digest 60 = .ok (.iload_n 1, 1) := dx_27 (dl_at 32 28 lb_X12_digest_1 rfl)
theorem dX12_digest_61 : decode cX12_digest 61 = .ok (.iaload, 1) := dx_46 (dl_at 32 29 lb_X12_digest_1 rfl)
theorem dX12_digest_62 : decode cX12_digest 62 = .ok (.invokevirtual 318, 3) := dx_182 (a := 1) (b := 62) (dl_at 32 30 lb_X12_digest_1 rfl) (dl_at 32 31 lb_X12_digest_1 rfl) (dl_at 64 0 lb_X12_digest_2 rfl) rfl
theorem dX12_digest_65 : decode cX12_digest 65 = .ok (.iconst 0, 1) := dx_3 (dl_at 64 1 lb_X12_digest_2 rfl)
theorem dX12_digest_66 : decode cX12_digest 66 = .ok (.istore_n 2, 1) := dx_61 (dl_at 64 2 lb_X12_digest_2 rfl)
theorem dX12_digest_67 : decode cX12_digest 67 = .ok (.iload_n 2, 1) := dx_28 (dl_at 64 3 lb_X12_digest_2 rfl)
theorem dX12_digest_68 : decode cX12_digest 68 = .ok (.aload_n 0, 1) := dx_42 (dl_at 64 4 lb_X12_digest_2 rfl)
theorem dX12_digest_69 : decode cX12_digest 69 = .ok (.getfield 13, 3) := dx_180 (a := 0) (b := 13) (dl_at 64 5 lb_X12_digest_2 rfl) (dl_at 64 6 lb_X12_digest_2 rfl) (dl_at 64 7 lb_X12_digest_2 rfl) rfl
theorem dX12_digest_72 : decode cX12_digest 72 = .ok (.iload_n 1, 1) := dx_27 (dl_at 64 8 lb_X12_digest_2 rfl)
theorem dX12_digest_73 : decode cX12_digest 73 = .ok (.iaload, 1) := dx_46 (dl_at 64 9 lb_X12_digest_2 rfl)
theorem dX12_digest_74 : decode cX12_digest 74 = .ok (.if_icmp .ge 19, 3) := dx_162 (a := 0) (b := 19) (dl_at 64 10 lb_X12_digest_2 rfl) (dl_at 64 11 lb_X12_digest_2 rfl) (dl_at 64 12 lb_X12_digest_2 rfl) sg16_19
theorem dX12_digest_93 : decode cX12_digest 93 = .ok (.iinc 1 1, 3) := dx_132 (dl_at 64 29 lb_X12_digest_2 rfl) (dl_at 64 30 lb_X12_digest_2 rfl) (dl_at 64 31 lb_X12_digest_2 rfl) sg8_1
theorem dX12_digest_96 : decode cX12_digest 96 = .ok (.goto (-60), 3) := dx_167 (a := 255) (b := 196) (dl_at 96 0 lb_X12_digest_3 rfl) (dl_at 96 1 lb_X12_digest_3 rfl) (dl_at 96 2 lb_X12_digest_3 rfl) sg16_65476
theorem dX12_digest_77 : decode cX12_digest 77 = .ok (.aload_n 0, 1) := dx_42 (dl_at 64 13 lb_X12_digest_2 rfl)
theorem dX12_digest_78 : decode cX12_digest 78 = .ok (.aload_n 0, 1) := dx_42 (dl_at 64 14 lb_X12_digest_2 rfl)
theorem dX12_digest_79 : decode cX12_digest 79 = .ok (.iload_n 1, 1) := dx_27 (dl_at 64 15 lb_X12_digest_2 rfl)
theorem dX12_digest_80 : decode cX12_digest 80 = .ok (.iload_n 2, 1) := dx_28 (dl_at 64 16 lb_X12_digest_2 rfl)
theorem dX12_digest_81 : decode cX12_digest 81 = .ok (.invokevirtual 99, 3) := dx_182 (a := 0) (b := 99) (dl_at 64 17 lb_X12_digest_2 rfl) (dl_at 64 18 lb_X12_digest_2 rfl) (dl_at 64 19 lb_X12_digest_2 rfl) rfl
theorem dX12_digest_84 : decode cX12_digest 84 = .ok (.invokevirtual 318, 3) := dx_182 (a := 1) (b := 62) (dl_at 64 20 lb_X12_digest_2 rfl) (dl_at 64 21 lb_X12_digest_2 rfl) (dl_at 64 22 lb_X12_digest_2 rfl) rfl
theorem dX12_digest_87 : decode cX12_digest 87 = .ok (.iinc 2 1, 3) := dx_132 (dl_at 64 23 lb_X12_digest_2 rfl) (dl_at 64 24 lb_X12_digest_2 rfl) (dl_at 64 25 lb_X12_digest_2 rfl) sg8_1
theorem dX12_digest_90 : decode cX12_digest 90 = .ok (.goto (-23), 3) := dx_167 (a := 255) (b := 233) (dl_at 64 26 lb_X12_digest_2 rfl) (dl_at 64 27 lb_X12_digest_2 rfl) (dl_at 64 28 lb_X12_digest_2 rfl) sg16_65513
theorem dX12_digest_52 : decode cX12_digest 52 = .ok (.iconst (-1), 1) := dx_2 (dl_at 32 20 lb_X12_digest_1 rfl)
theorem dX12_digest_53 : decode cX12_digest 53 = .ok (.goto 9, 3) := dx_167 (a := 0) (b := 9) (dl_at 32 21 lb_X12_digest_1 rfl) (dl_at 32 22 lb_X12_digest_1 rfl) (dl_at 32 23 lb_X12_digest_1 rfl) sg16_9
theorem dX12_digest_15 : decode cX12_digest 15 = .ok (.aload_n 0, 1) := dx_42 (dl_at 0 15 lb_X12_digest_0 rfl)
theorem dX12_digest_16 : decode cX12_digest 16 = .ok (.aload_n 0, 1) := dx_42 (dl_at 0 16 lb_X12_digest_0 rfl)
theorem dX12_digest_17 : decode cX12_digest 17 = .ok (.iload_n 1, 1) := dx_27 (dl_at 0 17 lb_X12_digest_0 rfl)
theorem dX12_digest_18 : decode cX12_digest 18 = .ok (.invokevirtual 309, 3) := dx_182 (a := 1) (b := 53) (dl_at 0 18 lb_X12_digest_0 rfl) (dl_at 0 19 lb_X12_digest_0 rfl) (dl_at 0 20 lb_X12_digest_0 rfl) rfl
theorem dX12_digest_21 : decode cX12_digest 21 = .ok (.invokevirtual 318, 3) := dx_182 (a := 1) (b := 62) (dl_at 0 21 lb_X12_digest_0 rfl) (dl_at 0 22 lb_X12_digest_0 rfl) (dl_at 0 23 lb_X12_digest_0 rfl) rfl
theorem dX12_digest_24 : decode cX12_digest 24 = .ok (.iinc 1 1, 3) := dx_132 (dl_at 0 24 lb_X12_digest_0 rfl) (dl_at 0 25 lb_X12_digest_0 rfl) (dl_at 0 26 lb_X12_digest_0 rfl) sg8_1
theorem dX12_digest_27 : decode cX12_digest 27 = .ok (.goto (-18), 3) := dx_167 (a := 255) (b := 238) (dl_at 0 27 lb_X12_digest_0 rfl) (dl_at 0 28 lb_X12_digest_0 rfl) (dl_at 0 29 lb_X12_digest_0 rfl) sg16_65518
def L_sm_divisor_4_0 : Nat → (Int32) → (Int32) → Int32
  | 0, v2_4, v3_4 => 0
  | n + 1, v2_4, v3_4 =>
    if v3_4 = (0 : Int32) then (
      (v2_4 : Int32)
    ) else (
      LETV (v2_4 - v2_4 / v3_4 * v3_4 : Int32) fun t2 =>
      L_sm_divisor_4_0 n (v3_4 : Int32) (t2 : Int32)
    )
def F_sm_divisor (va : Int32) (vb : Int32) : Int32 :=
  L_sm_divisor_4_0 2147483650 (va : Int32) (vb : Int32)
def L_sm_allPurses_4_0 (mu : Nat → Nat → Int32) : Nat → (Int32) → (Int32) → Int32
  | 0, v1_4, v2_4 => 0
  | n + 1, v1_4, v2_4 =>
    LETV (mu 0 8 : Int32) fun y1 =>
    if v2_4 ≥ y1 then (
      (v1_4 : Int32)
    ) else (
      LETV (mu 8 v2_4.toNatClampNeg : Int32) fun y3 =>
      LETV (v1_4 + y3 : Int32) fun t4 =>
      LETV ((v2_4 + 1) : Int32) fun w5 =>
      L_sm_allPurses_4_0 mu n (t4 : Int32) (w5 : Int32)
    )
def F_sm_allPurses (mu : Nat → Nat → Int32) : Int32 :=
  L_sm_allPurses_4_0 mu 10 (0 : Int32) (0 : Int32)
def L_sm_richest_4_0 (mu : Nat → Nat → Int32) : Nat → (Int32) → (Int32) → Int32
  | 0, v1_4, v2_4 => 0
  | n + 1, v1_4, v2_4 =>
    LETV (mu 0 8 : Int32) fun y1 =>
    if v2_4 ≥ y1 then (
      (v1_4 : Int32)
    ) else (
      LETV (mu 8 v2_4.toNatClampNeg : Int32) fun y3 =>
      if y3 ≤ v1_4 then (
        LETV ((v2_4 + 1) : Int32) fun w5 =>
        L_sm_richest_4_0 mu n (v1_4 : Int32) (w5 : Int32)
      ) else (
        LETV ((v2_4 + 1) : Int32) fun w6 =>
        L_sm_richest_4_0 mu n (y3 : Int32) (w6 : Int32)
      )
    )
def F_sm_richest (mu : Nat → Nat → Int32) : Int32 :=
  L_sm_richest_4_0 mu 10 (0 : Int32) (0 : Int32)
def F_qm_upper (mu : Nat → Nat → Int32) : Int64 × (Nat → Nat → Int32) :=
  LETV (F_sm_allPurses mu : Int32) fun r1 =>
  if r1 = (0 : Int32) then (
    ((0 : Int64), mu)
  ) else (
    LETV (F_sm_richest mu : Int32) fun r3 =>
    LETV (F_sm_richest mu : Int32) fun r4 =>
    LETV (F_sm_divisor (r4 : Int32) (r1 : Int32) : Int32) fun r5 =>
    LETV (r3 / r5 : Int32) fun t6 =>
    LETV ((t6 : Int32).toInt64 : Int64) fun l7 =>
    ((l7 : Int64), mu)
  )
def F_qm_lower (mu : Nat → Nat → Int32) : Int64 × (Nat → Nat → Int32) :=
  LETV (F_sm_allPurses mu : Int32) fun r1 =>
  if r1 = (0 : Int32) then (
    ((1 : Int64), mu)
  ) else (
    LETV (F_sm_richest mu : Int32) fun r3 =>
    LETV (F_sm_divisor (r3 : Int32) (r1 : Int32) : Int32) fun r4 =>
    LETV (r1 / r4 : Int32) fun t5 =>
    LETV ((t5 : Int32).toInt64 : Int64) fun l6 =>
    ((l6 : Int64), mu)
  )
def L_sm_tells_4_0 (mu : Nat → Nat → Int32) (vw : Int32) : Nat → (Int32) → (Int32) → Int32
  | 0, v2_4, v3_4 => 0
  | n + 1, v2_4, v3_4 =>
    if v3_4 ≥ (6 : Int32) then (
      if (vw).toInt < 0 ∨ 5 < (vw).toInt then (
        (v2_4 : Int32)
      ) else (
        if (vw).toInt = 0 then (
          LETV (mu 0 8 : Int32) fun y3 =>
          (y3 : Int32)
        ) else (
          if (vw).toInt = 1 then (
            LETV (mu 0 11 : Int32) fun y4 =>
            (y4 : Int32)
          ) else (
            if (vw).toInt = 2 then (
              LETV (mu 0 14 : Int32) fun y5 =>
              (y5 : Int32)
            ) else (
              if (vw).toInt = 3 then (
                LETV (mu 0 15 : Int32) fun y6 =>
                (y6 : Int32)
              ) else (
                if (vw).toInt = 4 then (
                  LETV (mu 0 17 : Int32) fun y7 =>
                  (y7 : Int32)
                ) else (
                  LETV (mu 0 13 : Int32) fun y8 =>
                  LETV (F_sm_sizeOf (y8 : Int32) : Int32) fun r9 =>
                  (r9 : Int32)
                )
              )
            )
          )
        )
      )
    ) else (
      if vw = (6 : Int32) then (
        LETV (mu 2 v3_4.toNatClampNeg : Int32) fun y37 =>
        if y37 ≥ (0 : Int32) then (
          LETV (v2_4 + 1 : Int32) fun t39 =>
          LETV ((v3_4 + 1) : Int32) fun w40 =>
          L_sm_tells_4_0 mu vw n (t39 : Int32) (w40 : Int32)
        ) else (
          LETV (v2_4 + 0 : Int32) fun t43 =>
          LETV ((v3_4 + 1) : Int32) fun w44 =>
          L_sm_tells_4_0 mu vw n (t43 : Int32) (w44 : Int32)
        )
      ) else (
        if vw = (7 : Int32) then (
          if v3_4 ≥ (4 : Int32) then (
            LETV (v2_4 + 0 : Int32) fun t28 =>
            LETV ((v3_4 + 1) : Int32) fun w29 =>
            L_sm_tells_4_0 mu vw n (t28 : Int32) (w29 : Int32)
          ) else (
            LETV (mu 5 v3_4.toNatClampNeg : Int32) fun y30 =>
            if y30 ≥ (0 : Int32) then (
              LETV (v2_4 + 1 : Int32) fun t32 =>
              LETV ((v3_4 + 1) : Int32) fun w33 =>
              L_sm_tells_4_0 mu vw n (t32 : Int32) (w33 : Int32)
            ) else (
              LETV (v2_4 + 0 : Int32) fun t35 =>
              LETV ((v3_4 + 1) : Int32) fun w36 =>
              L_sm_tells_4_0 mu vw n (t35 : Int32) (w36 : Int32)
            )
          )
        ) else (
          if vw = (8 : Int32) then (
            if v3_4 ≥ (3 : Int32) then (
              LETV (v2_4 + 0 : Int32) fun t16 =>
              LETV ((v3_4 + 1) : Int32) fun w17 =>
              L_sm_tells_4_0 mu vw n (t16 : Int32) (w17 : Int32)
            ) else (
              LETV (64 * v3_4 : Int32) fun t18 =>
              LETV (mu 15 t18.toNatClampNeg : Int32) fun y20 =>
              if y20 = ((-9) : Int32) then (
                LETV (v2_4 + 0 : Int32) fun t22 =>
                LETV ((v3_4 + 1) : Int32) fun w23 =>
                L_sm_tells_4_0 mu vw n (t22 : Int32) (w23 : Int32)
              ) else (
                LETV (v2_4 + 1 : Int32) fun t24 =>
                LETV ((v3_4 + 1) : Int32) fun w25 =>
                L_sm_tells_4_0 mu vw n (t24 : Int32) (w25 : Int32)
              )
            )
          ) else (
            LETV (v2_4 + 0 : Int32) fun t13 =>
            LETV ((v3_4 + 1) : Int32) fun w14 =>
            L_sm_tells_4_0 mu vw n (t13 : Int32) (w14 : Int32)
          )
        )
      )
    )
def F_sm_tells (mu : Nat → Nat → Int32) (vw : Int32) : Int32 :=
  L_sm_tells_4_0 mu vw 9 (0 : Int32) (0 : Int32)
