theorem lb_J6_bitCount_0f7a4_0 : dl_ck (cJ6_bitCount_0f7a4.data.toList.drop 0) [26, 26, 4, 124, 19, 1, 9, 126, 100, 59, 26, 19, 1, 10, 126, 26, 5, 124, 19, 1, 10, 126, 96, 59, 26, 26, 7, 124, 96, 19, 1, 11] = true := by decide +kernel
theorem lb_J6_bitCount_0f7a4_1 : dl_ck (cJ6_bitCount_0f7a4.data.toList.drop 32) [126, 59, 26, 26, 16, 8, 124, 96, 59, 26, 26, 16, 16, 124, 96, 59, 26, 16, 63, 126, 172] = true := by decide +kernel
theorem dJ6_bitCount_0f7a4_0 : decode cJ6_bitCount_0f7a4 0 = .ok (.iload_n 0, 1) := dx_26 (dl_at 0 0 lb_J6_bitCount_0f7a4_0 rfl)
theorem dJ6_bitCount_0f7a4_1 : decode cJ6_bitCount_0f7a4 1 = .ok (.iload_n 0, 1) := dx_26 (dl_at 0 1 lb_J6_bitCount_0f7a4_0 rfl)
theorem dJ6_bitCount_0f7a4_2 : decode cJ6_bitCount_0f7a4 2 = .ok (.iconst 1, 1) := dx_4 (dl_at 0 2 lb_J6_bitCount_0f7a4_0 rfl)
theorem dJ6_bitCount_0f7a4_3 : decode cJ6_bitCount_0f7a4 3 = .ok (.iushr, 1) := dx_124 (dl_at 0 3 lb_J6_bitCount_0f7a4_0 rfl)
theorem dJ6_bitCount_0f7a4_4 : decode cJ6_bitCount_0f7a4 4 = .ok (.ldc_w 265, 3) := by decide +kernel
theorem dJ6_bitCount_0f7a4_7 : decode cJ6_bitCount_0f7a4 7 = .ok (.iand, 1) := dx_126 (dl_at 0 7 lb_J6_bitCount_0f7a4_0 rfl)
theorem dJ6_bitCount_0f7a4_8 : decode cJ6_bitCount_0f7a4 8 = .ok (.isub, 1) := dx_100 (dl_at 0 8 lb_J6_bitCount_0f7a4_0 rfl)
theorem dJ6_bitCount_0f7a4_9 : decode cJ6_bitCount_0f7a4 9 = .ok (.istore_n 0, 1) := dx_59 (dl_at 0 9 lb_J6_bitCount_0f7a4_0 rfl)
theorem dJ6_bitCount_0f7a4_10 : decode cJ6_bitCount_0f7a4 10 = .ok (.iload_n 0, 1) := dx_26 (dl_at 0 10 lb_J6_bitCount_0f7a4_0 rfl)
theorem dJ6_bitCount_0f7a4_11 : decode cJ6_bitCount_0f7a4 11 = .ok (.ldc_w 266, 3) := by decide +kernel
theorem dJ6_bitCount_0f7a4_14 : decode cJ6_bitCount_0f7a4 14 = .ok (.iand, 1) := dx_126 (dl_at 0 14 lb_J6_bitCount_0f7a4_0 rfl)
theorem dJ6_bitCount_0f7a4_15 : decode cJ6_bitCount_0f7a4 15 = .ok (.iload_n 0, 1) := dx_26 (dl_at 0 15 lb_J6_bitCount_0f7a4_0 rfl)
theorem dJ6_bitCount_0f7a4_16 : decode cJ6_bitCount_0f7a4 16 = .ok (.iconst 2, 1) := dx_5 (dl_at 0 16 lb_J6_bitCount_0f7a4_0 rfl)
theorem dJ6_bitCount_0f7a4_17 : decode cJ6_bitCount_0f7a4 17 = .ok (.iushr, 1) := dx_124 (dl_at 0 17 lb_J6_bitCount_0f7a4_0 rfl)
theorem dJ6_bitCount_0f7a4_18 : decode cJ6_bitCount_0f7a4 18 = .ok (.ldc_w 266, 3) := by decide +kernel
theorem dJ6_bitCount_0f7a4_21 : decode cJ6_bitCount_0f7a4 21 = .ok (.iand, 1) := dx_126 (dl_at 0 21 lb_J6_bitCount_0f7a4_0 rfl)
theorem dJ6_bitCount_0f7a4_22 : decode cJ6_bitCount_0f7a4 22 = .ok (.iadd, 1) := dx_96 (dl_at 0 22 lb_J6_bitCount_0f7a4_0 rfl)
theorem dJ6_bitCount_0f7a4_23 : decode cJ6_bitCount_0f7a4 23 = .ok (.istore_n 0, 1) := dx_59 (dl_at 0 23 lb_J6_bitCount_0f7a4_0 rfl)
theorem dJ6_bitCount_0f7a4_24 : decode cJ6_bitCount_0f7a4 24 = .ok (.iload_n 0, 1) := dx_26 (dl_at 0 24 lb_J6_bitCount_0f7a4_0 rfl)
theorem dJ6_bitCount_0f7a4_25 : decode cJ6_bitCount_0f7a4 25 = .ok (.iload_n 0, 1) := dx_26 (dl_at 0 25 lb_J6_bitCount_0f7a4_0 rfl)
theorem dJ6_bitCount_0f7a4_26 : decode cJ6_bitCount_0f7a4 26 = .ok (.iconst 4, 1) := dx_7 (dl_at 0 26 lb_J6_bitCount_0f7a4_0 rfl)
theorem dJ6_bitCount_0f7a4_27 : decode cJ6_bitCount_0f7a4 27 = .ok (.iushr, 1) := dx_124 (dl_at 0 27 lb_J6_bitCount_0f7a4_0 rfl)
theorem dJ6_bitCount_0f7a4_28 : decode cJ6_bitCount_0f7a4 28 = .ok (.iadd, 1) := dx_96 (dl_at 0 28 lb_J6_bitCount_0f7a4_0 rfl)
theorem dJ6_bitCount_0f7a4_29 : decode cJ6_bitCount_0f7a4 29 = .ok (.ldc_w 267, 3) := by decide +kernel
theorem dJ6_bitCount_0f7a4_32 : decode cJ6_bitCount_0f7a4 32 = .ok (.iand, 1) := dx_126 (dl_at 32 0 lb_J6_bitCount_0f7a4_1 rfl)
theorem dJ6_bitCount_0f7a4_33 : decode cJ6_bitCount_0f7a4 33 = .ok (.istore_n 0, 1) := dx_59 (dl_at 32 1 lb_J6_bitCount_0f7a4_1 rfl)
theorem dJ6_bitCount_0f7a4_34 : decode cJ6_bitCount_0f7a4 34 = .ok (.iload_n 0, 1) := dx_26 (dl_at 32 2 lb_J6_bitCount_0f7a4_1 rfl)
theorem dJ6_bitCount_0f7a4_35 : decode cJ6_bitCount_0f7a4 35 = .ok (.iload_n 0, 1) := dx_26 (dl_at 32 3 lb_J6_bitCount_0f7a4_1 rfl)
theorem dJ6_bitCount_0f7a4_36 : decode cJ6_bitCount_0f7a4 36 = .ok (.bipush 8, 2) := dx_16 (dl_at 32 4 lb_J6_bitCount_0f7a4_1 rfl) (dl_at 32 5 lb_J6_bitCount_0f7a4_1 rfl) sg8_8
theorem dJ6_bitCount_0f7a4_38 : decode cJ6_bitCount_0f7a4 38 = .ok (.iushr, 1) := dx_124 (dl_at 32 6 lb_J6_bitCount_0f7a4_1 rfl)
theorem dJ6_bitCount_0f7a4_39 : decode cJ6_bitCount_0f7a4 39 = .ok (.iadd, 1) := dx_96 (dl_at 32 7 lb_J6_bitCount_0f7a4_1 rfl)
theorem dJ6_bitCount_0f7a4_40 : decode cJ6_bitCount_0f7a4 40 = .ok (.istore_n 0, 1) := dx_59 (dl_at 32 8 lb_J6_bitCount_0f7a4_1 rfl)
theorem dJ6_bitCount_0f7a4_41 : decode cJ6_bitCount_0f7a4 41 = .ok (.iload_n 0, 1) := dx_26 (dl_at 32 9 lb_J6_bitCount_0f7a4_1 rfl)
theorem dJ6_bitCount_0f7a4_42 : decode cJ6_bitCount_0f7a4 42 = .ok (.iload_n 0, 1) := dx_26 (dl_at 32 10 lb_J6_bitCount_0f7a4_1 rfl)
theorem dJ6_bitCount_0f7a4_43 : decode cJ6_bitCount_0f7a4 43 = .ok (.bipush 16, 2) := dx_16 (dl_at 32 11 lb_J6_bitCount_0f7a4_1 rfl) (dl_at 32 12 lb_J6_bitCount_0f7a4_1 rfl) sg8_16
theorem dJ6_bitCount_0f7a4_45 : decode cJ6_bitCount_0f7a4 45 = .ok (.iushr, 1) := dx_124 (dl_at 32 13 lb_J6_bitCount_0f7a4_1 rfl)
theorem dJ6_bitCount_0f7a4_46 : decode cJ6_bitCount_0f7a4 46 = .ok (.iadd, 1) := dx_96 (dl_at 32 14 lb_J6_bitCount_0f7a4_1 rfl)
theorem dJ6_bitCount_0f7a4_47 : decode cJ6_bitCount_0f7a4 47 = .ok (.istore_n 0, 1) := dx_59 (dl_at 32 15 lb_J6_bitCount_0f7a4_1 rfl)
theorem dJ6_bitCount_0f7a4_48 : decode cJ6_bitCount_0f7a4 48 = .ok (.iload_n 0, 1) := dx_26 (dl_at 32 16 lb_J6_bitCount_0f7a4_1 rfl)
theorem dJ6_bitCount_0f7a4_49 : decode cJ6_bitCount_0f7a4 49 = .ok (.bipush 63, 2) := dx_16 (dl_at 32 17 lb_J6_bitCount_0f7a4_1 rfl) (dl_at 32 18 lb_J6_bitCount_0f7a4_1 rfl) sg8_63
theorem dJ6_bitCount_0f7a4_51 : decode cJ6_bitCount_0f7a4 51 = .ok (.iand, 1) := dx_126 (dl_at 32 19 lb_J6_bitCount_0f7a4_1 rfl)
theorem dJ6_bitCount_0f7a4_52 : decode cJ6_bitCount_0f7a4 52 = .ok (.ireturn, 1) := dx_172 (dl_at 32 20 lb_J6_bitCount_0f7a4_1 rfl)
theorem lb_X11_commonDivisor_0 : dl_ck (cX11_commonDivisor.data.toList.drop 0) [30, 55, 4, 32, 55, 6, 3, 54, 8, 21, 8, 17, 0, 128, 162, 0, 31, 22, 6, 9, 148, 153, 0, 24, 22, 4, 22, 6, 113, 55, 9, 22] = true := by decide +kernel
theorem lb_X11_commonDivisor_1 : dl_ck (cX11_commonDivisor.data.toList.drop 32) [6, 55, 4, 22, 9, 55, 6, 132, 8, 1, 167, 255, 223, 22, 4, 173] = true := by decide +kernel
theorem dX11_commonDivisor_0 : decode cX11_commonDivisor 0 = .ok (.lload_n 0, 1) := dx_30 (dl_at 0 0 lb_X11_commonDivisor_0 rfl)
theorem dX11_commonDivisor_1 : decode cX11_commonDivisor 1 = .ok (.lstore 4, 2) := dx_55 (dl_at 0 1 lb_X11_commonDivisor_0 rfl) (dl_at 0 2 lb_X11_commonDivisor_0 rfl)
theorem dX11_commonDivisor_3 : decode cX11_commonDivisor 3 = .ok (.lload_n 2, 1) := dx_32 (dl_at 0 3 lb_X11_commonDivisor_0 rfl)
theorem dX11_commonDivisor_4 : decode cX11_commonDivisor 4 = .ok (.lstore 6, 2) := dx_55 (dl_at 0 4 lb_X11_commonDivisor_0 rfl) (dl_at 0 5 lb_X11_commonDivisor_0 rfl)
theorem dX11_commonDivisor_6 : decode cX11_commonDivisor 6 = .ok (.iconst 0, 1) := dx_3 (dl_at 0 6 lb_X11_commonDivisor_0 rfl)
theorem dX11_commonDivisor_7 : decode cX11_commonDivisor 7 = .ok (.istore 8, 2) := dx_54 (dl_at 0 7 lb_X11_commonDivisor_0 rfl) (dl_at 0 8 lb_X11_commonDivisor_0 rfl)
theorem dX11_commonDivisor_9 : decode cX11_commonDivisor 9 = .ok (.iload 8, 2) := dx_21 (dl_at 0 9 lb_X11_commonDivisor_0 rfl) (dl_at 0 10 lb_X11_commonDivisor_0 rfl)
theorem dX11_commonDivisor_11 : decode cX11_commonDivisor 11 = .ok (.sipush 128, 3) := dx_17 (a := 0) (b := 128) (dl_at 0 11 lb_X11_commonDivisor_0 rfl) (dl_at 0 12 lb_X11_commonDivisor_0 rfl) (dl_at 0 13 lb_X11_commonDivisor_0 rfl) sg16_128
theorem dX11_commonDivisor_14 : decode cX11_commonDivisor 14 = .ok (.if_icmp .ge 31, 3) := dx_162 (a := 0) (b := 31) (dl_at 0 14 lb_X11_commonDivisor_0 rfl) (dl_at 0 15 lb_X11_commonDivisor_0 rfl) (dl_at 0 16 lb_X11_commonDivisor_0 rfl) sg16_31
theorem dX11_commonDivisor_45 : decode cX11_commonDivisor 45 = .ok (.lload 4, 2) := dx_22 (dl_at 32 13 lb_X11_commonDivisor_1 rfl) (dl_at 32 14 lb_X11_commonDivisor_1 rfl)
theorem dX11_commonDivisor_47 : decode cX11_commonDivisor 47 = .ok (.lreturn, 1) := dx_173 (dl_at 32 15 lb_X11_commonDivisor_1 rfl)
theorem dX11_commonDivisor_17 : decode cX11_commonDivisor 17 = .ok (.lload 6, 2) := dx_22 (dl_at 0 17 lb_X11_commonDivisor_0 rfl) (dl_at 0 18 lb_X11_commonDivisor_0 rfl)
theorem dX11_commonDivisor_19 : decode cX11_commonDivisor 19 = .ok (.lconst 0, 1) := dx_9 (dl_at 0 19 lb_X11_commonDivisor_0 rfl)
theorem dX11_commonDivisor_20 : decode cX11_commonDivisor 20 = .ok (.lcmp, 1) := dx_148 (dl_at 0 20 lb_X11_commonDivisor_0 rfl)
theorem dX11_commonDivisor_21 : decode cX11_commonDivisor 21 = .ok (.ifCond .eq 24, 3) := dx_153 (a := 0) (b := 24) (dl_at 0 21 lb_X11_commonDivisor_0 rfl) (dl_at 0 22 lb_X11_commonDivisor_0 rfl) (dl_at 0 23 lb_X11_commonDivisor_0 rfl) sg16_24
theorem dX11_commonDivisor_24 : decode cX11_commonDivisor 24 = .ok (.lload 4, 2) := dx_22 (dl_at 0 24 lb_X11_commonDivisor_0 rfl) (dl_at 0 25 lb_X11_commonDivisor_0 rfl)
theorem dX11_commonDivisor_26 : decode cX11_commonDivisor 26 = .ok (.lload 6, 2) := dx_22 (dl_at 0 26 lb_X11_commonDivisor_0 rfl) (dl_at 0 27 lb_X11_commonDivisor_0 rfl)
theorem dX11_commonDivisor_28 : decode cX11_commonDivisor 28 = .ok (.lrem, 1) := dx_113 (dl_at 0 28 lb_X11_commonDivisor_0 rfl)
theorem dX11_commonDivisor_29 : decode cX11_commonDivisor 29 = .ok (.lstore 9, 2) := dx_55 (dl_at 0 29 lb_X11_commonDivisor_0 rfl) (dl_at 0 30 lb_X11_commonDivisor_0 rfl)
theorem dX11_commonDivisor_31 : decode cX11_commonDivisor 31 = .ok (.lload 6, 2) := dx_22 (dl_at 0 31 lb_X11_commonDivisor_0 rfl) (dl_at 32 0 lb_X11_commonDivisor_1 rfl)
theorem dX11_commonDivisor_33 : decode cX11_commonDivisor 33 = .ok (.lstore 4, 2) := dx_55 (dl_at 32 1 lb_X11_commonDivisor_1 rfl) (dl_at 32 2 lb_X11_commonDivisor_1 rfl)
theorem dX11_commonDivisor_35 : decode cX11_commonDivisor 35 = .ok (.lload 9, 2) := dx_22 (dl_at 32 3 lb_X11_commonDivisor_1 rfl) (dl_at 32 4 lb_X11_commonDivisor_1 rfl)
theorem dX11_commonDivisor_37 : decode cX11_commonDivisor 37 = .ok (.lstore 6, 2) := dx_55 (dl_at 32 5 lb_X11_commonDivisor_1 rfl) (dl_at 32 6 lb_X11_commonDivisor_1 rfl)
theorem dX11_commonDivisor_39 : decode cX11_commonDivisor 39 = .ok (.iinc 8 1, 3) := dx_132 (dl_at 32 7 lb_X11_commonDivisor_1 rfl) (dl_at 32 8 lb_X11_commonDivisor_1 rfl) (dl_at 32 9 lb_X11_commonDivisor_1 rfl) sg8_1
theorem dX11_commonDivisor_42 : decode cX11_commonDivisor 42 = .ok (.goto (-33), 3) := dx_167 (a := 255) (b := 223) (dl_at 32 10 lb_X11_commonDivisor_1 rfl) (dl_at 32 11 lb_X11_commonDivisor_1 rfl) (dl_at 32 12 lb_X11_commonDivisor_1 rfl) sg16_65503
theorem lb_X10_richestPurse_0 : dl_ck (cX10_richestPurse.data.toList.drop 0) [9, 64, 3, 62, 29, 42, 180, 0, 34, 162, 0, 24, 31, 42, 180, 0, 24, 180, 0, 45, 29, 46, 133, 184, 0, 129, 64, 132, 3, 1, 167, 255] = true := by decide +kernel
theorem lb_X10_richestPurse_1 : dl_ck (cX10_richestPurse.data.toList.drop 32) [230, 31, 173] = true := by decide +kernel
theorem dX10_richestPurse_0 : decode cX10_richestPurse 0 = .ok (.lconst 0, 1) := dx_9 (dl_at 0 0 lb_X10_richestPurse_0 rfl)
theorem dX10_richestPurse_1 : decode cX10_richestPurse 1 = .ok (.lstore_n 1, 1) := dx_64 (dl_at 0 1 lb_X10_richestPurse_0 rfl)
theorem dX10_richestPurse_2 : decode cX10_richestPurse 2 = .ok (.iconst 0, 1) := dx_3 (dl_at 0 2 lb_X10_richestPurse_0 rfl)
theorem dX10_richestPurse_3 : decode cX10_richestPurse 3 = .ok (.istore_n 3, 1) := dx_62 (dl_at 0 3 lb_X10_richestPurse_0 rfl)
theorem dX10_richestPurse_4 : decode cX10_richestPurse 4 = .ok (.iload_n 3, 1) := dx_29 (dl_at 0 4 lb_X10_richestPurse_0 rfl)
theorem dX10_richestPurse_5 : decode cX10_richestPurse 5 = .ok (.aload_n 0, 1) := dx_42 (dl_at 0 5 lb_X10_richestPurse_0 rfl)
theorem dX10_richestPurse_6 : decode cX10_richestPurse 6 = .ok (.getfield 34, 3) := dx_180 (a := 0) (b := 34) (dl_at 0 6 lb_X10_richestPurse_0 rfl) (dl_at 0 7 lb_X10_richestPurse_0 rfl) (dl_at 0 8 lb_X10_richestPurse_0 rfl) rfl
theorem dX10_richestPurse_9 : decode cX10_richestPurse 9 = .ok (.if_icmp .ge 24, 3) := dx_162 (a := 0) (b := 24) (dl_at 0 9 lb_X10_richestPurse_0 rfl) (dl_at 0 10 lb_X10_richestPurse_0 rfl) (dl_at 0 11 lb_X10_richestPurse_0 rfl) sg16_24
theorem dX10_richestPurse_33 : decode cX10_richestPurse 33 = .ok (.lload_n 1, 1) := dx_31 (dl_at 32 1 lb_X10_richestPurse_1 rfl)
theorem dX10_richestPurse_34 : decode cX10_richestPurse 34 = .ok (.lreturn, 1) := dx_173 (dl_at 32 2 lb_X10_richestPurse_1 rfl)
theorem dX10_richestPurse_12 : decode cX10_richestPurse 12 = .ok (.lload_n 1, 1) := dx_31 (dl_at 0 12 lb_X10_richestPurse_0 rfl)
theorem dX10_richestPurse_13 : decode cX10_richestPurse 13 = .ok (.aload_n 0, 1) := dx_42 (dl_at 0 13 lb_X10_richestPurse_0 rfl)
theorem dX10_richestPurse_14 : decode cX10_richestPurse 14 = .ok (.getfield 24, 3) := dx_180 (a := 0) (b := 24) (dl_at 0 14 lb_X10_richestPurse_0 rfl) (dl_at 0 15 lb_X10_richestPurse_0 rfl) (dl_at 0 16 lb_X10_richestPurse_0 rfl) rfl
theorem dX10_richestPurse_17 : decode cX10_richestPurse 17 = .ok (.getfield 45, 3) := dx_180 (a := 0) (b := 45) (dl_at 0 17 lb_X10_richestPurse_0 rfl) (dl_at 0 18 lb_X10_richestPurse_0 rfl) (dl_at 0 19 lb_X10_richestPurse_0 rfl) rfl
theorem dX10_richestPurse_20 : decode cX10_richestPurse 20 = .ok (.iload_n 3, 1) := dx_29 (dl_at 0 20 lb_X10_richestPurse_0 rfl)
theorem dX10_richestPurse_21 : decode cX10_richestPurse 21 = .ok (.iaload, 1) := dx_46 (dl_at 0 21 lb_X10_richestPurse_0 rfl)
theorem dX10_richestPurse_22 : decode cX10_richestPurse 22 = .ok (.i2l, 1) := dx_133 (dl_at 0 22 lb_X10_richestPurse_0 rfl)
theorem dX10_richestPurse_23 : decode cX10_richestPurse 23 = .ok (.invokestatic 129, 3) := dx_184 (a := 0) (b := 129) (dl_at 0 23 lb_X10_richestPurse_0 rfl) (dl_at 0 24 lb_X10_richestPurse_0 rfl) (dl_at 0 25 lb_X10_richestPurse_0 rfl) rfl
theorem dX10_richestPurse_26 : decode cX10_richestPurse 26 = .ok (.lstore_n 1, 1) := dx_64 (dl_at 0 26 lb_X10_richestPurse_0 rfl)
theorem dX10_richestPurse_27 : decode cX10_richestPurse 27 = .ok (.iinc 3 1, 3) := dx_132 (dl_at 0 27 lb_X10_richestPurse_0 rfl) (dl_at 0 28 lb_X10_richestPurse_0 rfl) (dl_at 0 29 lb_X10_richestPurse_0 rfl) sg8_1
theorem dX10_richestPurse_30 : decode cX10_richestPurse 30 = .ok (.goto (-26), 3) := dx_167 (a := 255) (b := 230) (dl_at 0 30 lb_X10_richestPurse_0 rfl) (dl_at 0 31 lb_X10_richestPurse_0 rfl) (dl_at 32 0 lb_X10_richestPurse_1 rfl) sg16_65510
theorem lb_X10_allPurses_0 : dl_ck (cX10_allPurses.data.toList.drop 0) [9, 64, 3, 62, 29, 42, 180, 0, 34, 162, 0, 22, 31, 42, 180, 0, 24, 180, 0, 45, 29, 46, 133, 97, 64, 132, 3, 1, 167, 255, 232, 31] = true := by decide +kernel
theorem lb_X10_allPurses_1 : dl_ck (cX10_allPurses.data.toList.drop 32) [173] = true := by decide +kernel
theorem dX10_allPurses_0 : decode cX10_allPurses 0 = .ok (.lconst 0, 1) := dx_9 (dl_at 0 0 lb_X10_allPurses_0 rfl)
theorem dX10_allPurses_1 : decode cX10_allPurses 1 = .ok (.lstore_n 1, 1) := dx_64 (dl_at 0 1 lb_X10_allPurses_0 rfl)
theorem dX10_allPurses_2 : decode cX10_allPurses 2 = .ok (.iconst 0, 1) := dx_3 (dl_at 0 2 lb_X10_allPurses_0 rfl)
theorem dX10_allPurses_3 : decode cX10_allPurses 3 = .ok (.istore_n 3, 1) := dx_62 (dl_at 0 3 lb_X10_allPurses_0 rfl)
theorem dX10_allPurses_4 : decode cX10_allPurses 4 = .ok (.iload_n 3, 1) := dx_29 (dl_at 0 4 lb_X10_allPurses_0 rfl)
theorem dX10_allPurses_5 : decode cX10_allPurses 5 = .ok (.aload_n 0, 1) := dx_42 (dl_at 0 5 lb_X10_allPurses_0 rfl)
theorem dX10_allPurses_6 : decode cX10_allPurses 6 = .ok (.getfield 34, 3) := dx_180 (a := 0) (b := 34) (dl_at 0 6 lb_X10_allPurses_0 rfl) (dl_at 0 7 lb_X10_allPurses_0 rfl) (dl_at 0 8 lb_X10_allPurses_0 rfl) rfl
theorem dX10_allPurses_9 : decode cX10_allPurses 9 = .ok (.if_icmp .ge 22, 3) := dx_162 (a := 0) (b := 22) (dl_at 0 9 lb_X10_allPurses_0 rfl) (dl_at 0 10 lb_X10_allPurses_0 rfl) (dl_at 0 11 lb_X10_allPurses_0 rfl) sg16_22
theorem dX10_allPurses_31 : decode cX10_allPurses 31 = .ok (.lload_n 1, 1) := dx_31 (dl_at 0 31 lb_X10_allPurses_0 rfl)
theorem dX10_allPurses_32 : decode cX10_allPurses 32 = .ok (.lreturn, 1) := dx_173 (dl_at 32 0 lb_X10_allPurses_1 rfl)
theorem dX10_allPurses_12 : decode cX10_allPurses 12 = .ok (.lload_n 1, 1) := dx_31 (dl_at 0 12 lb_X10_allPurses_0 rfl)
theorem dX10_allPurses_13 : decode cX10_allPurses 13 = .ok (.aload_n 0, 1) := dx_42 (dl_at 0 13 lb_X10_allPurses_0 rfl)
theorem dX10_allPurses_14 : decode cX10_allPurses 14 = .ok (.getfield 24, 3) := dx_180 (a := 0) (b := 24) (dl_at 0 14 lb_X10_allPurses_0 rfl) (dl_at 0 15 lb_X10_allPurses_0 rfl) (dl_at 0 16 lb_X10_allPurses_0 rfl) rfl
theorem dX10_allPurses_17 : decode cX10_allPurses 17 = .ok (.getfield 45, 3) := dx_180 (a := 0) (b := 45) (dl_at 0 17 lb_X10_allPurses_0 rfl) (dl_at 0 18 lb_X10_allPurses_0 rfl) (dl_at 0 19 lb_X10_allPurses_0 rfl) rfl
theorem dX10_allPurses_20 : decode cX10_allPurses 20 = .ok (.iload_n 3, 1) := dx_29 (dl_at 0 20 lb_X10_allPurses_0 rfl)
theorem dX10_allPurses_21 : decode cX10_allPurses 21 = .ok (.iaload, 1) := dx_46 (dl_at 0 21 lb_X10_allPurses_0 rfl)
theorem dX10_allPurses_22 : decode cX10_allPurses 22 = .ok (.i2l, 1) := dx_133 (dl_at 0 22 lb_X10_allPurses_0 rfl)
theorem dX10_allPurses_23 : decode cX10_allPurses 23 = .ok (.ladd, 1) := dx_97 (dl_at 0 23 lb_X10_allPurses_0 rfl)
theorem dX10_allPurses_24 : decode cX10_allPurses 24 = .ok (.lstore_n 1, 1) := dx_64 (dl_at 0 24 lb_X10_allPurses_0 rfl)
theorem dX10_allPurses_25 : decode cX10_allPurses 25 = .ok (.iinc 3 1, 3) := dx_132 (dl_at 0 25 lb_X10_allPurses_0 rfl) (dl_at 0 26 lb_X10_allPurses_0 rfl) (dl_at 0 27 lb_X10_allPurses_0 rfl) sg8_1
theorem dX10_allPurses_28 : decode cX10_allPurses 28 = .ok (.goto (-24), 3) := dx_167 (a := 255) (b := 232) (dl_at 0 28 lb_X10_allPurses_0 rfl) (dl_at 0 29 lb_X10_allPurses_0 rfl) (dl_at 0 30 lb_X10_allPurses_0 rfl) sg16_65512
theorem lb_X10_unreadWith_0 : dl_ck (cX10_unreadWith.data.toList.drop 0) [3, 61, 3, 62, 29, 42, 180, 0, 24, 180, 0, 64, 162, 0, 48, 28, 42, 180, 0, 24, 180, 0, 67, 29, 50, 180, 0, 71, 27, 160, 0, 22] = true := by decide +kernel
theorem lb_X10_unreadWith_1 : dl_ck (cX10_unreadWith.data.toList.drop 32) [42, 180, 0, 24, 180, 0, 67, 29, 50, 180, 0, 76, 154, 0, 7, 4, 167, 0, 4, 3, 96, 61, 132, 3, 1, 167, 255, 203, 28, 172] = true := by decide +kernel
theorem dX10_unreadWith_0 : decode cX10_unreadWith 0 = .ok (.iconst 0, 1) := dx_3 (dl_at 0 0 lb_X10_unreadWith_0 rfl)
theorem dX10_unreadWith_1 : decode cX10_unreadWith 1 = .ok (.istore_n 2, 1) := dx_61 (dl_at 0 1 lb_X10_unreadWith_0 rfl)
theorem dX10_unreadWith_2 : decode cX10_unreadWith 2 = .ok (.iconst 0, 1) := dx_3 (dl_at 0 2 lb_X10_unreadWith_0 rfl)
theorem dX10_unreadWith_3 : decode cX10_unreadWith 3 = .ok (.istore_n 3, 1) := dx_62 (dl_at 0 3 lb_X10_unreadWith_0 rfl)
theorem dX10_unreadWith_4 : decode cX10_unreadWith 4 = .ok (.iload_n 3, 1) := dx_29 (dl_at 0 4 lb_X10_unreadWith_0 rfl)
theorem dX10_unreadWith_5 : decode cX10_unreadWith 5 = .ok (.aload_n 0, 1) := dx_42 (dl_at 0 5 lb_X10_unreadWith_0 rfl)
theorem dX10_unreadWith_6 : decode cX10_unreadWith 6 = .ok (.getfield 24, 3) := dx_180 (a := 0) (b := 24) (dl_at 0 6 lb_X10_unreadWith_0 rfl) (dl_at 0 7 lb_X10_unreadWith_0 rfl) (dl_at 0 8 lb_X10_unreadWith_0 rfl) rfl
theorem dX10_unreadWith_9 : decode cX10_unreadWith 9 = .ok (.getfield 64, 3) := dx_180 (a := 0) (b := 64) (dl_at 0 9 lb_X10_unreadWith_0 rfl) (dl_at 0 10 lb_X10_unreadWith_0 rfl) (dl_at 0 11 lb_X10_unreadWith_0 rfl) rfl
theorem dX10_unreadWith_12 : decode cX10_unreadWith 12 = .ok (.if_icmp .ge 48, 3) := dx_162 (a := 0) (b := 48) (dl_at 0 12 lb_X10_unreadWith_0 rfl) (dl_at 0 13 lb_X10_unreadWith_0 rfl) (dl_at 0 14 lb_X10_unreadWith_0 rfl) sg16_48
theorem dX10_unreadWith_60 : decode cX10_unreadWith 60 = .ok (.iload_n 2, 1) := dx_28 (dl_at 32 28 lb_X10_unreadWith_1 rfl)
theorem dX10_unreadWith_61 : decode cX10_unreadWith 61 = .ok (.ireturn, 1) := dx_172 (dl_at 32 29 lb_X10_unreadWith_1 rfl)
theorem dX10_unreadWith_15 : decode cX10_unreadWith 15 = .ok (.iload_n 2, 1) := dx_28 (dl_at 0 15 lb_X10_unreadWith_0 rfl)
theorem dX10_unreadWith_16 : decode cX10_unreadWith 16 = .ok (.aload_n 0, 1) := dx_42 (dl_at 0 16 lb_X10_unreadWith_0 rfl)
theorem dX10_unreadWith_17 : decode cX10_unreadWith 17 = .ok (.getfield 24, 3) := dx_180 (a := 0) (b := 24) (dl_at 0 17 lb_X10_unreadWith_0 rfl) (dl_at 0 18 lb_X10_unreadWith_0 rfl) (dl_at 0 19 lb_X10_unreadWith_0 rfl) rfl
theorem dX10_unreadWith_20 : decode cX10_unreadWith 20 = .ok (.getfield 67, 3) := dx_180 (a := 0) (b := 67) (dl_at 0 20 lb_X10_unreadWith_0 rfl) (dl_at 0 21 lb_X10_unreadWith_0 rfl) (dl_at 0 22 lb_X10_unreadWith_0 rfl) rfl
theorem dX10_unreadWith_23 : decode cX10_unreadWith 23 = .ok (.iload_n 3, 1) := dx_29 (dl_at 0 23 lb_X10_unreadWith_0 rfl)
theorem dX10_unreadWith_24 : decode cX10_unreadWith 24 = .ok (.aaload, 1) := dx_50 (dl_at 0 24 lb_X10_unreadWith_0 rfl)
theorem dX10_unreadWith_25 : decode cX10_unreadWith 25 = .ok (.getfield 71, 3) := dx_180 (a := 0) (b := 71) (dl_at 0 25 lb_X10_unreadWith_0 rfl) (dl_at 0 26 lb_X10_unreadWith_0 rfl) (dl_at 0 27 lb_X10_unreadWith_0 rfl) rfl
theorem dX10_unreadWith_28 : decode cX10_unreadWith 28 = .ok (.iload_n 1, 1) := dx_27 (dl_at 0 28 lb_X10_unreadWith_0 rfl)
theorem dX10_unreadWith_29 : decode cX10_unreadWith 29 = .ok (.if_icmp .ne 22, 3) := dx_160 (a := 0) (b := 22) (dl_at 0 29 lb_X10_unreadWith_0 rfl) (dl_at 0 30 lb_X10_unreadWith_0 rfl) (dl_at 0 31 lb_X10_unreadWith_0 rfl) sg16_22
theorem dX10_unreadWith_51 : decode cX10_unreadWith 51 = .ok (.iconst 0, 1) := dx_3 (dl_at 32 19 lb_X10_unreadWith_1 rfl)
theorem dX10_unreadWith_52 : decode cX10_unreadWith 52 = .ok (.iadd, 1) := dx_96 (dl_at 32 20 lb_X10_unreadWith_1 rfl)
theorem dX10_unreadWith_53 : decode cX10_unreadWith 53 = .ok (.istore_n 2, 1) := dx_61 (dl_at 32 21 lb_X10_unreadWith_1 rfl)
theorem dX10_unreadWith_54 : decode cX10_unreadWith 54 = .ok (.iinc 3 1, 3) := dx_132 (dl_at 32 22 lb_X10_unreadWith_1 rfl) (dl_at 32 23 lb_X10_unreadWith_1 rfl) (dl_at 32 24 lb_X10_unreadWith_1 rfl) sg8_1
theorem dX10_unreadWith_57 : decode cX10_unreadWith 57 = .ok (.goto (-53), 3) := dx_167 (a := 255) (b := 203) (dl_at 32 25 lb_X10_unreadWith_1 rfl) (dl_at 32 26 lb_X10_unreadWith_1 rfl) (dl_at 32 27 lb_X10_unreadWith_1 rfl) sg16_65483
theorem dX10_unreadWith_32 : decode cX10_unreadWith 32 = .ok (.aload_n 0, 1) := dx_42 (dl_at 32 0 lb_X10_unreadWith_1 rfl)
theorem dX10_unreadWith_33 : decode cX10_unreadWith 33 = .ok (.getfield 24, 3) := dx_180 (a := 0) (b := 24) (dl_at 32 1 lb_X10_unreadWith_1 rfl) (dl_at 32 2 lb_X10_unreadWith_1 rfl) (dl_at 32 3 lb_X10_unreadWith_1 rfl) rfl
theorem dX10_unreadWith_36 : decode cX10_unreadWith 36 = .ok (.getfield 67, 3) := dx_180 (a := 0) (b := 67) (dl_at 32 4 lb_X10_unreadWith_1 rfl) (dl_at 32 5 lb_X10_unreadWith_1 rfl) (dl_at 32 6 lb_X10_unreadWith_1 rfl) rfl
theorem dX10_unreadWith_39 : decode cX10_unreadWith 39 = .ok (.iload_n 3, 1) := dx_29 (dl_at 32 7 lb_X10_unreadWith_1 rfl)
theorem dX10_unreadWith_40 : decode cX10_unreadWith 40 = .ok (.aaload, 1) := dx_50 (dl_at 32 8 lb_X10_unreadWith_1 rfl)
theorem dX10_unreadWith_41 : decode cX10_unreadWith 41 = .ok (.getfield 76, 3) := dx_180 (a := 0) (b := 76) (dl_at 32 9 lb_X10_unreadWith_1 rfl) (dl_at 32 10 lb_X10_unreadWith_1 rfl) (dl_at 32 11 lb_X10_unreadWith_1 rfl) rfl
theorem dX10_unreadWith_44 : decode cX10_unreadWith 44 = .ok (.ifCond .ne 7, 3) := dx_154 (a := 0) (b := 7) (dl_at 32 12 lb_X10_unreadWith_1 rfl) (dl_at 32 13 lb_X10_unreadWith_1 rfl) (dl_at 32 14 lb_X10_unreadWith_1 rfl) sg16_7
theorem dX10_unreadWith_47 : decode cX10_unreadWith 47 = .ok (.iconst 1, 1) := dx_4 (dl_at 32 15 lb_X10_unreadWith_1 rfl)
theorem dX10_unreadWith_48 : decode cX10_unreadWith 48 = .ok (.goto 4, 3) := dx_167 (a := 0) (b := 4) (dl_at 32 16 lb_X10_unreadWith_1 rfl) (dl_at 32 17 lb_X10_unreadWith_1 rfl) (dl_at 32 18 lb_X10_unreadWith_1 rfl) sg16_4
theorem lb_X10_unreadTo_0 : dl_ck (cX10_unreadTo.data.toList.drop 0) [3, 61, 3, 62, 29, 42, 180, 0, 24, 180, 0, 64, 162, 0, 48, 28, 42, 180, 0, 24, 180, 0, 67, 29, 50, 180, 0, 80, 27, 160, 0, 22] = true := by decide +kernel
theorem lb_X10_unreadTo_1 : dl_ck (cX10_unreadTo.data.toList.drop 32) [42, 180, 0, 24, 180, 0, 67, 29, 50, 180, 0, 76, 154, 0, 7, 4, 167, 0, 4, 3, 96, 61, 132, 3, 1, 167, 255, 203, 28, 172] = true := by decide +kernel
theorem dX10_unreadTo_0 : decode cX10_unreadTo 0 = .ok (.iconst 0, 1) := dx_3 (dl_at 0 0 lb_X10_unreadTo_0 rfl)
theorem dX10_unreadTo_1 : decode cX10_unreadTo 1 = .ok (.istore_n 2, 1) := dx_61 (dl_at 0 1 lb_X10_unreadTo_0 rfl)
theorem dX10_unreadTo_2 : decode cX10_unreadTo 2 = .ok (.iconst 0, 1) := dx_3 (dl_at 0 2 lb_X10_unreadTo_0 rfl)
theorem dX10_unreadTo_3 : decode cX10_unreadTo 3 = .ok (.istore_n 3, 1) := dx_62 (dl_at 0 3 lb_X10_unreadTo_0 rfl)
theorem dX10_unreadTo_4 : decode cX10_unreadTo 4 = .ok (.iload_n 3, 1) := dx_29 (dl_at 0 4 lb_X10_unreadTo_0 rfl)
theorem dX10_unreadTo_5 : decode cX10_unreadTo 5 = .ok (.aload_n 0, 1) := dx_42 (dl_at 0 5 lb_X10_unreadTo_0 rfl)
theorem dX10_unreadTo_6 : decode cX10_unreadTo 6 = .ok (.getfield 24, 3) := dx_180 (a := 0) (b := 24) (dl_at 0 6 lb_X10_unreadTo_0 rfl) (dl_at 0 7 lb_X10_unreadTo_0 rfl) (dl_at 0 8 lb_X10_unreadTo_0 rfl) rfl
theorem dX10_unreadTo_9 : decode cX10_unreadTo 9 = .ok (.getfield 64, 3) := dx_180 (a := 0) (b := 64) (dl_at 0 9 lb_X10_unreadTo_0 rfl) (dl_at 0 10 lb_X10_unreadTo_0 rfl) (dl_at 0 11 lb_X10_unreadTo_0 rfl) rfl
theorem dX10_unreadTo_12 : decode cX10_unreadTo 12 = .ok (.if_icmp .ge 48, 3) := dx_162 (a := 0) (b := 48) (dl_at 0 12 lb_X10_unreadTo_0 rfl) (dl_at 0 13 lb_X10_unreadTo_0 rfl) (dl_at 0 14 lb_X10_unreadTo_0 rfl) sg16_48
theorem dX10_unreadTo_60 : decode cX10_unreadTo 60 = .ok (.iload_n 2, 1) := dx_28 (dl_at 32 28 lb_X10_unreadTo_1 rfl)
theorem dX10_unreadTo_61 : decode cX10_unreadTo 61 = .ok (.ireturn, 1) := dx_172 (dl_at 32 29 lb_X10_unreadTo_1 rfl)
theorem dX10_unreadTo_15 : decode cX10_unreadTo 15 = .ok (.iload_n 2, 1) := dx_28 (dl_at 0 15 lb_X10_unreadTo_0 rfl)
theorem dX10_unreadTo_16 : decode cX10_unreadTo 16 = .ok (.aload_n 0, 1) := dx_42 (dl_at 0 16 lb_X10_unreadTo_0 rfl)
theorem dX10_unreadTo_17 : decode cX10_unreadTo 17 = .ok (.getfield 24, 3) := dx_180 (a := 0) (b := 24) (dl_at 0 17 lb_X10_unreadTo_0 rfl) (dl_at 0 18 lb_X10_unreadTo_0 rfl) (dl_at 0 19 lb_X10_unreadTo_0 rfl) rfl
theorem dX10_unreadTo_20 : decode cX10_unreadTo 20 = .ok (.getfield 67, 3) := dx_180 (a := 0) (b := 67) (dl_at 0 20 lb_X10_unreadTo_0 rfl) (dl_at 0 21 lb_X10_unreadTo_0 rfl) (dl_at 0 22 lb_X10_unreadTo_0 rfl) rfl
theorem dX10_unreadTo_23 : decode cX10_unreadTo 23 = .ok (.iload_n 3, 1) := dx_29 (dl_at 0 23 lb_X10_unreadTo_0 rfl)
theorem dX10_unreadTo_24 : decode cX10_unreadTo 24 = .ok (.aaload, 1) := dx_50 (dl_at 0 24 lb_X10_unreadTo_0 rfl)
theorem dX10_unreadTo_25 : decode cX10_unreadTo 25 = .ok (.getfield 80, 3) := dx_180 (a := 0) (b := 80) (dl_at 0 25 lb_X10_unreadTo_0 rfl) (dl_at 0 26 lb_X10_unreadTo_0 rfl) (dl_at 0 27 lb_X10_unreadTo_0 rfl) rfl
theorem dX10_unreadTo_28 : decode cX10_unreadTo 28 = .ok (.iload_n 1, 1) := dx_27 (dl_at 0 28 lb_X10_unreadTo_0 rfl)
theorem dX10_unreadTo_29 : decode cX10_unreadTo 29 = .ok (.if_icmp .ne 22, 3) := dx_160 (a := 0) (b := 22) (dl_at 0 29 lb_X10_unreadTo_0 rfl) (dl_at 0 30 lb_X10_unreadTo_0 rfl) (dl_at 0 31 lb_X10_unreadTo_0 rfl) sg16_22
theorem dX10_unreadTo_51 : decode cX10_unreadTo 51 = .ok (.iconst 0, 1) := dx_3 (dl_at 32 19 lb_X10_unreadTo_1 rfl)
theorem dX10_unreadTo_52 : decode cX10_unreadTo 52 = .ok (.iadd, 1) := dx_96 (dl_at 32 20 lb_X10_unreadTo_1 rfl)
theorem dX10_unreadTo_53 : decode cX10_unreadTo 53 = .ok (.istore_n 2, 1) := dx_61 (dl_at 32 21 lb_X10_unreadTo_1 rfl)
theorem dX10_unreadTo_54 : decode cX10_unreadTo 54 = .ok (.iinc 3 1, 3) := dx_132 (dl_at 32 22 lb_X10_unreadTo_1 rfl) (dl_at 32 23 lb_X10_unreadTo_1 rfl) (dl_at 32 24 lb_X10_unreadTo_1 rfl) sg8_1
theorem dX10_unreadTo_57 : decode cX10_unreadTo 57 = .ok (.goto (-53), 3) := dx_167 (a := 255) (b := 203) (dl_at 32 25 lb_X10_unreadTo_1 rfl) (dl_at 32 26 lb_X10_unreadTo_1 rfl) (dl_at 32 27 lb_X10_unreadTo_1 rfl) sg16_65483
theorem dX10_unreadTo_32 : decode cX10_unreadTo 32 = .ok (.aload_n 0, 1) := dx_42 (dl_at 32 0 lb_X10_unreadTo_1 rfl)
theorem dX10_unreadTo_33 : decode cX10_unreadTo 33 = .ok (.getfield 24, 3) := dx_180 (a := 0) (b := 24) (dl_at 32 1 lb_X10_unreadTo_1 rfl) (dl_at 32 2 lb_X10_unreadTo_1 rfl) (dl_at 32 3 lb_X10_unreadTo_1 rfl) rfl
theorem dX10_unreadTo_36 : decode cX10_unreadTo 36 = .ok (.getfield 67, 3) := dx_180 (a := 0) (b := 67) (dl_at 32 4 lb_X10_unreadTo_1 rfl) (dl_at 32 5 lb_X10_unreadTo_1 rfl) (dl_at 32 6 lb_X10_unreadTo_1 rfl) rfl
theorem dX10_unreadTo_39 : decode cX10_unreadTo 39 = .ok (.iload_n 3, 1) := dx_29 (dl_at 32 7 lb_X10_unreadTo_1 rfl)
theorem dX10_unreadTo_40 : decode cX10_unreadTo 40 = .ok (.aaload, 1) := dx_50 (dl_at 32 8 lb_X10_unreadTo_1 rfl)
theorem dX10_unreadTo_41 : decode cX10_unreadTo 41 = .ok (.getfield 76, 3) := dx_180 (a := 0) (b := 76) (dl_at 32 9 lb_X10_unreadTo_1 rfl) (dl_at 32 10 lb_X10_unreadTo_1 rfl) (dl_at 32 11 lb_X10_unreadTo_1 rfl) rfl
theorem dX10_unreadTo_44 : decode cX10_unreadTo 44 = .ok (.ifCond .ne 7, 3) := dx_154 (a := 0) (b := 7) (dl_at 32 12 lb_X10_unreadTo_1 rfl) (dl_at 32 13 lb_X10_unreadTo_1 rfl) (dl_at 32 14 lb_X10_unreadTo_1 rfl) sg16_7
theorem dX10_unreadTo_47 : decode cX10_unreadTo 47 = .ok (.iconst 1, 1) := dx_4 (dl_at 32 15 lb_X10_unreadTo_1 rfl)
theorem dX10_unreadTo_48 : decode cX10_unreadTo 48 = .ok (.goto 4, 3) := dx_167 (a := 0) (b := 4) (dl_at 32 16 lb_X10_unreadTo_1 rfl) (dl_at 32 17 lb_X10_unreadTo_1 rfl) (dl_at 32 18 lb_X10_unreadTo_1 rfl) sg16_4
theorem lb_X10_paidForUnread_0 : dl_ck (cX10_paidForUnread.data.toList.drop 0) [3, 61, 3, 62, 29, 42, 180, 0, 24, 180, 0, 64, 162, 0, 59, 28, 42, 180, 0, 24, 180, 0, 67, 29, 50, 180, 0, 71, 27, 160, 0, 33] = true := by decide +kernel
theorem lb_X10_paidForUnread_1 : dl_ck (cX10_paidForUnread.data.toList.drop 32) [42, 180, 0, 24, 180, 0, 67, 29, 50, 180, 0, 76, 154, 0, 18, 42, 180, 0, 24, 180, 0, 67, 29, 50, 180, 0, 83, 167, 0, 4, 3, 96] = true := by decide +kernel
theorem lb_X10_paidForUnread_2 : dl_ck (cX10_paidForUnread.data.toList.drop 64) [61, 132, 3, 1, 167, 255, 192, 28, 172] = true := by decide +kernel
theorem dX10_paidForUnread_0 : decode cX10_paidForUnread 0 = .ok (.iconst 0, 1) := dx_3 (dl_at 0 0 lb_X10_paidForUnread_0 rfl)
theorem dX10_paidForUnread_1 : decode cX10_paidForUnread 1 = .ok (.istore_n 2, 1) := dx_61 (dl_at 0 1 lb_X10_paidForUnread_0 rfl)
theorem dX10_paidForUnread_2 : decode cX10_paidForUnread 2 = .ok (.iconst 0, 1) := dx_3 (dl_at 0 2 lb_X10_paidForUnread_0 rfl)
theorem dX10_paidForUnread_3 : decode cX10_paidForUnread 3 = .ok (.istore_n 3, 1) := dx_62 (dl_at 0 3 lb_X10_paidForUnread_0 rfl)
theorem dX10_paidForUnread_4 : decode cX10_paidForUnread 4 = .ok (.iload_n 3, 1) := dx_29 (dl_at 0 4 lb_X10_paidForUnread_0 rfl)
theorem dX10_paidForUnread_5 : decode cX10_paidForUnread 5 = .ok (.aload_n 0, 1) := dx_42 (dl_at 0 5 lb_X10_paidForUnread_0 rfl)
theorem dX10_paidForUnread_6 : decode cX10_paidForUnread 6 = .ok (.getfield 24, 3) := dx_180 (a := 0) (b := 24) (dl_at 0 6 lb_X10_paidForUnread_0 rfl) (dl_at 0 7 lb_X10_paidForUnread_0 rfl) (dl_at 0 8 lb_X10_paidForUnread_0 rfl) rfl
theorem dX10_paidForUnread_9 : decode cX10_paidForUnread 9 = .ok (.getfield 64, 3) := dx_180 (a := 0) (b := 64) (dl_at 0 9 lb_X10_paidForUnread_0 rfl) (dl_at 0 10 lb_X10_paidForUnread_0 rfl) (dl_at 0 11 lb_X10_paidForUnread_0 rfl) rfl
theorem dX10_paidForUnread_12 : decode cX10_paidForUnread 12 = .ok (.if_icmp .ge 59, 3) := dx_162 (a := 0) (b := 59) (dl_at 0 12 lb_X10_paidForUnread_0 rfl) (dl_at 0 13 lb_X10_paidForUnread_0 rfl) (dl_at 0 14 lb_X10_paidForUnread_0 rfl) sg16_59
theorem dX10_paidForUnread_71 : decode cX10_paidForUnread 71 = .ok (.iload_n 2, 1) := dx_28 (dl_at 64 7 lb_X10_paidForUnread_2 rfl)
theorem dX10_paidForUnread_72 : decode cX10_paidForUnread 72 = .ok (.ireturn, 1) := dx_172 (dl_at 64 8 lb_X10_paidForUnread_2 rfl)
theorem dX10_paidForUnread_15 : decode cX10_paidForUnread 15 = .ok (.iload_n 2, 1) := dx_28 (dl_at 0 15 lb_X10_paidForUnread_0 rfl)
theorem dX10_paidForUnread_16 : decode cX10_paidForUnread 16 = .ok (.aload_n 0, 1) := dx_42 (dl_at 0 16 lb_X10_paidForUnread_0 rfl)
theorem dX10_paidForUnread_17 : decode cX10_paidForUnread 17 = .ok (.getfield 24, 3) := dx_180 (a := 0) (b := 24) (dl_at 0 17 lb_X10_paidForUnread_0 rfl) (dl_at 0 18 lb_X10_paidForUnread_0 rfl) (dl_at 0 19 lb_X10_paidForUnread_0 rfl) rfl
theorem dX10_paidForUnread_20 : decode cX10_paidForUnread 20 = .ok (.getfield 67, 3) := dx_180 (a := 0) (b := 67) (dl_at 0 20 lb_X10_paidForUnread_0 rfl) (dl_at 0 21 lb_X10_paidForUnread_0 rfl) (dl_at 0 22 lb_X10_paidForUnread_0 rfl) rfl
theorem dX10_paidForUnread_23 : decode cX10_paidForUnread 23 = .ok (.iload_n 3, 1) := dx_29 (dl_at 0 23 lb_X10_paidForUnread_0 rfl)
theorem dX10_paidForUnread_24 : decode cX10_paidForUnread 24 = .ok (.aaload, 1) := dx_50 (dl_at 0 24 lb_X10_paidForUnread_0 rfl)
theorem dX10_paidForUnread_25 : decode cX10_paidForUnread 25 = .ok (.getfield 71, 3) := dx_180 (a := 0) (b := 71) (dl_at 0 25 lb_X10_paidForUnread_0 rfl) (dl_at 0 26 lb_X10_paidForUnread_0 rfl) (dl_at 0 27 lb_X10_paidForUnread_0 rfl) rfl
theorem dX10_paidForUnread_28 : decode cX10_paidForUnread 28 = .ok (.iload_n 1, 1) := dx_27 (dl_at 0 28 lb_X10_paidForUnread_0 rfl)
theorem dX10_paidForUnread_29 : decode cX10_paidForUnread 29 = .ok (.if_icmp .ne 33, 3) := dx_160 (a := 0) (b := 33) (dl_at 0 29 lb_X10_paidForUnread_0 rfl) (dl_at 0 30 lb_X10_paidForUnread_0 rfl) (dl_at 0 31 lb_X10_paidForUnread_0 rfl) sg16_33
theorem dX10_paidForUnread_62 : decode cX10_paidForUnread 62 = .ok (.iconst 0, 1) := dx_3 (dl_at 32 30 lb_X10_paidForUnread_1 rfl)
theorem dX10_paidForUnread_63 : decode cX10_paidForUnread 63 = .ok (.iadd, 1) := dx_96 (dl_at 32 31 lb_X10_paidForUnread_1 rfl)
theorem dX10_paidForUnread_64 : decode cX10_paidForUnread 64 = .ok (.istore_n 2, 1) := dx_61 (dl_at 64 0 lb_X10_paidForUnread_2 rfl)
theorem dX10_paidForUnread_65 : decode cX10_paidForUnread 65 = .ok (.iinc 3 1, 3) := dx_132 (dl_at 64 1 lb_X10_paidForUnread_2 rfl) (dl_at 64 2 lb_X10_paidForUnread_2 rfl) (dl_at 64 3 lb_X10_paidForUnread_2 rfl) sg8_1
theorem dX10_paidForUnread_68 : decode cX10_paidForUnread 68 = .ok (.goto (-64), 3) := dx_167 (a := 255) (b := 192) (dl_at 64 4 lb_X10_paidForUnread_2 rfl) (dl_at 64 5 lb_X10_paidForUnread_2 rfl) (dl_at 64 6 lb_X10_paidForUnread_2 rfl) sg16_65472
theorem dX10_paidForUnread_32 : decode cX10_paidForUnread 32 = .ok (.aload_n 0, 1) := dx_42 (dl_at 32 0 lb_X10_paidForUnread_1 rfl)
theorem dX10_paidForUnread_33 : decode cX10_paidForUnread 33 = .ok (.getfield 24, 3) := dx_180 (a := 0) (b := 24) (dl_at 32 1 lb_X10_paidForUnread_1 rfl) (dl_at 32 2 lb_X10_paidForUnread_1 rfl) (dl_at 32 3 lb_X10_paidForUnread_1 rfl) rfl
theorem dX10_paidForUnread_36 : decode cX10_paidForUnread 36 = .ok (.getfield 67, 3) := dx_180 (a := 0) (b := 67) (dl_at 32 4 lb_X10_paidForUnread_1 rfl) (dl_at 32 5 lb_X10_paidForUnread_1 rfl) (dl_at 32 6 lb_X10_paidForUnread_1 rfl) rfl
theorem dX10_paidForUnread_39 : decode cX10_paidForUnread 39 = .ok (.iload_n 3, 1) := dx_29 (dl_at 32 7 lb_X10_paidForUnread_1 rfl)
theorem dX10_paidForUnread_40 : decode cX10_paidForUnread 40 = .ok (.aaload, 1) := dx_50 (dl_at 32 8 lb_X10_paidForUnread_1 rfl)
theorem dX10_paidForUnread_41 : decode cX10_paidForUnread 41 = .ok (.getfield 76, 3) := dx_180 (a := 0) (b := 76) (dl_at 32 9 lb_X10_paidForUnread_1 rfl) (dl_at 32 10 lb_X10_paidForUnread_1 rfl) (dl_at 32 11 lb_X10_paidForUnread_1 rfl) rfl
theorem dX10_paidForUnread_44 : decode cX10_paidForUnread 44 = .ok (.ifCond .ne 18, 3) := dx_154 (a := 0) (b := 18) (dl_at 32 12 lb_X10_paidForUnread_1 rfl) (dl_at 32 13 lb_X10_paidForUnread_1 rfl) (dl_at 32 14 lb_X10_paidForUnread_1 rfl) sg16_18
theorem dX10_paidForUnread_47 : decode cX10_paidForUnread 47 = .ok (.aload_n 0, 1) := dx_42 (dl_at 32 15 lb_X10_paidForUnread_1 rfl)
theorem dX10_paidForUnread_48 : decode cX10_paidForUnread 48 = .ok (.getfield 24, 3) := dx_180 (a := 0) (b := 24) (dl_at 32 16 lb_X10_paidForUnread_1 rfl) (dl_at 32 17 lb_X10_paidForUnread_1 rfl) (dl_at 32 18 lb_X10_paidForUnread_1 rfl) rfl
theorem dX10_paidForUnread_51 : decode cX10_paidForUnread 51 = .ok (.getfield 67, 3) := dx_180 (a := 0) (b := 67) (dl_at 32 19 lb_X10_paidForUnread_1 rfl) (dl_at 32 20 lb_X10_paidForUnread_1 rfl) (dl_at 32 21 lb_X10_paidForUnread_1 rfl) rfl
theorem dX10_paidForUnread_54 : decode cX10_paidForUnread 54 = .ok (.iload_n 3, 1) := dx_29 (dl_at 32 22 lb_X10_paidForUnread_1 rfl)
theorem dX10_paidForUnread_55 : decode cX10_paidForUnread 55 = .ok (.aaload, 1) := dx_50 (dl_at 32 23 lb_X10_paidForUnread_1 rfl)
theorem dX10_paidForUnread_56 : decode cX10_paidForUnread 56 = .ok (.getfield 83, 3) := dx_180 (a := 0) (b := 83) (dl_at 32 24 lb_X10_paidForUnread_1 rfl) (dl_at 32 25 lb_X10_paidForUnread_1 rfl) (dl_at 32 26 lb_X10_paidForUnread_1 rfl) rfl
theorem dX10_paidForUnread_59 : decode cX10_paidForUnread 59 = .ok (.goto 4, 3) := dx_167 (a := 0) (b := 4) (dl_at 32 27 lb_X10_paidForUnread_1 rfl) (dl_at 32 28 lb_X10_paidForUnread_1 rfl) (dl_at 32 29 lb_X10_paidForUnread_1 rfl) sg16_4
theorem lb_X10_friendsNear_0 : dl_ck (cX10_friendsNear.data.toList.drop 0) [42, 27, 42, 180, 0, 24, 180, 0, 48, 182, 0, 51, 61, 3, 62, 3, 54, 4, 21, 4, 42, 180, 0, 34, 162, 0, 40, 29, 28, 21, 4, 184] = true := by decide +kernel
theorem lb_X10_friendsNear_1 : dl_ck (cX10_friendsNear.data.toList.drop 32) [0, 41, 153, 0, 21, 42, 180, 0, 9, 21, 4, 46, 5, 184, 0, 86, 153, 0, 7, 4, 167, 0, 4, 3, 96, 62, 132, 4, 1, 167, 255, 213] = true := by decide +kernel
theorem lb_X10_friendsNear_2 : dl_ck (cX10_friendsNear.data.toList.drop 64) [29, 172] = true := by decide +kernel
theorem dX10_friendsNear_0 : decode cX10_friendsNear 0 = .ok (.aload_n 0, 1) := dx_42 (dl_at 0 0 lb_X10_friendsNear_0 rfl)
theorem dX10_friendsNear_1 : decode cX10_friendsNear 1 = .ok (.iload_n 1, 1) := dx_27 (dl_at 0 1 lb_X10_friendsNear_0 rfl)
theorem dX10_friendsNear_2 : decode cX10_friendsNear 2 = .ok (.aload_n 0, 1) := dx_42 (dl_at 0 2 lb_X10_friendsNear_0 rfl)
theorem dX10_friendsNear_3 : decode cX10_friendsNear 3 = .ok (.getfield 24, 3) := dx_180 (a := 0) (b := 24) (dl_at 0 3 lb_X10_friendsNear_0 rfl) (dl_at 0 4 lb_X10_friendsNear_0 rfl) (dl_at 0 5 lb_X10_friendsNear_0 rfl) rfl
theorem dX10_friendsNear_6 : decode cX10_friendsNear 6 = .ok (.getfield 48, 3) := dx_180 (a := 0) (b := 48) (dl_at 0 6 lb_X10_friendsNear_0 rfl) (dl_at 0 7 lb_X10_friendsNear_0 rfl) (dl_at 0 8 lb_X10_friendsNear_0 rfl) rfl
theorem dX10_friendsNear_9 : decode cX10_friendsNear 9 = .ok (.invokevirtual 51, 3) := dx_182 (a := 0) (b := 51) (dl_at 0 9 lb_X10_friendsNear_0 rfl) (dl_at 0 10 lb_X10_friendsNear_0 rfl) (dl_at 0 11 lb_X10_friendsNear_0 rfl) rfl
theorem dX10_friendsNear_12 : decode cX10_friendsNear 12 = .ok (.istore_n 2, 1) := dx_61 (dl_at 0 12 lb_X10_friendsNear_0 rfl)
theorem dX10_friendsNear_13 : decode cX10_friendsNear 13 = .ok (.iconst 0, 1) := dx_3 (dl_at 0 13 lb_X10_friendsNear_0 rfl)
theorem dX10_friendsNear_14 : decode cX10_friendsNear 14 = .ok (.istore_n 3, 1) := dx_62 (dl_at 0 14 lb_X10_friendsNear_0 rfl)
theorem dX10_friendsNear_15 : decode cX10_friendsNear 15 = .ok (.iconst 0, 1) := dx_3 (dl_at 0 15 lb_X10_friendsNear_0 rfl)
theorem dX10_friendsNear_16 : decode cX10_friendsNear 16 = .ok (.istore 4, 2) := dx_54 (dl_at 0 16 lb_X10_friendsNear_0 rfl) (dl_at 0 17 lb_X10_friendsNear_0 rfl)
theorem dX10_friendsNear_18 : decode cX10_friendsNear 18 = .ok (.iload 4, 2) := dx_21 (dl_at 0 18 lb_X10_friendsNear_0 rfl) (dl_at 0 19 lb_X10_friendsNear_0 rfl)
theorem dX10_friendsNear_20 : decode cX10_friendsNear 20 = .ok (.aload_n 0, 1) := dx_42 (dl_at 0 20 lb_X10_friendsNear_0 rfl)
theorem dX10_friendsNear_21 : decode cX10_friendsNear 21 = .ok (.getfield 34, 3) := dx_180 (a := 0) (b := 34) (dl_at 0 21 lb_X10_friendsNear_0 rfl) (dl_at 0 22 lb_X10_friendsNear_0 rfl) (dl_at 0 23 lb_X10_friendsNear_0 rfl) rfl
theorem dX10_friendsNear_24 : decode cX10_friendsNear 24 = .ok (.if_icmp .ge 40, 3) := dx_162 (a := 0) (b := 40) (dl_at 0 24 lb_X10_friendsNear_0 rfl) (dl_at 0 25 lb_X10_friendsNear_0 rfl) (dl_at 0 26 lb_X10_friendsNear_0 rfl) sg16_40
theorem dX10_friendsNear_64 : decode cX10_friendsNear 64 = .ok (.iload_n 3, 1) := dx_29 (dl_at 64 0 lb_X10_friendsNear_2 rfl)
theorem dX10_friendsNear_65 : decode cX10_friendsNear 65 = .ok (.ireturn, 1) := dx_172 (dl_at 64 1 lb_X10_friendsNear_2 rfl)
theorem dX10_friendsNear_27 : decode cX10_friendsNear 27 = .ok (.iload_n 3, 1) := dx_29 (dl_at 0 27 lb_X10_friendsNear_0 rfl)
theorem dX10_friendsNear_28 : decode cX10_friendsNear 28 = .ok (.iload_n 2, 1) := dx_28 (dl_at 0 28 lb_X10_friendsNear_0 rfl)
theorem dX10_friendsNear_29 : decode cX10_friendsNear 29 = .ok (.iload 4, 2) := dx_21 (dl_at 0 29 lb_X10_friendsNear_0 rfl) (dl_at 0 30 lb_X10_friendsNear_0 rfl)
theorem dX10_friendsNear_31 : decode cX10_friendsNear 31 = .ok (.invokestatic 41, 3) := dx_184 (a := 0) (b := 41) (dl_at 0 31 lb_X10_friendsNear_0 rfl) (dl_at 32 0 lb_X10_friendsNear_1 rfl) (dl_at 32 1 lb_X10_friendsNear_1 rfl) rfl
theorem dX10_friendsNear_34 : decode cX10_friendsNear 34 = .ok (.ifCond .eq 21, 3) := dx_153 (a := 0) (b := 21) (dl_at 32 2 lb_X10_friendsNear_1 rfl) (dl_at 32 3 lb_X10_friendsNear_1 rfl) (dl_at 32 4 lb_X10_friendsNear_1 rfl) sg16_21
theorem dX10_friendsNear_55 : decode cX10_friendsNear 55 = .ok (.iconst 0, 1) := dx_3 (dl_at 32 23 lb_X10_friendsNear_1 rfl)
theorem dX10_friendsNear_56 : decode cX10_friendsNear 56 = .ok (.iadd, 1) := dx_96 (dl_at 32 24 lb_X10_friendsNear_1 rfl)
theorem dX10_friendsNear_57 : decode cX10_friendsNear 57 = .ok (.istore_n 3, 1) := dx_62 (dl_at 32 25 lb_X10_friendsNear_1 rfl)
theorem dX10_friendsNear_58 : decode cX10_friendsNear 58 = .ok (.iinc 4 1, 3) := dx_132 (dl_at 32 26 lb_X10_friendsNear_1 rfl) (dl_at 32 27 lb_X10_friendsNear_1 rfl) (dl_at 32 28 lb_X10_friendsNear_1 rfl) sg8_1
theorem dX10_friendsNear_61 : decode cX10_friendsNear 61 = .ok (.goto (-43), 3) := dx_167 (a := 255) (b := 213) (dl_at 32 29 lb_X10_friendsNear_1 rfl) (dl_at 32 30 lb_X10_friendsNear_1 rfl) (dl_at 32 31 lb_X10_friendsNear_1 rfl) sg16_65493
theorem dX10_friendsNear_37 : decode cX10_friendsNear 37 = .ok (.aload_n 0, 1) := dx_42 (dl_at 32 5 lb_X10_friendsNear_1 rfl)
theorem dX10_friendsNear_38 : decode cX10_friendsNear 38 = .ok (.getfield 9, 3) := dx_180 (a := 0) (b := 9) (dl_at 32 6 lb_X10_friendsNear_1 rfl) (dl_at 32 7 lb_X10_friendsNear_1 rfl) (dl_at 32 8 lb_X10_friendsNear_1 rfl) rfl
theorem dX10_friendsNear_41 : decode cX10_friendsNear 41 = .ok (.iload 4, 2) := dx_21 (dl_at 32 9 lb_X10_friendsNear_1 rfl) (dl_at 32 10 lb_X10_friendsNear_1 rfl)
theorem dX10_friendsNear_43 : decode cX10_friendsNear 43 = .ok (.iaload, 1) := dx_46 (dl_at 32 11 lb_X10_friendsNear_1 rfl)
theorem dX10_friendsNear_44 : decode cX10_friendsNear 44 = .ok (.iconst 2, 1) := dx_5 (dl_at 32 12 lb_X10_friendsNear_1 rfl)
theorem dX10_friendsNear_45 : decode cX10_friendsNear 45 = .ok (.invokestatic 86, 3) := dx_184 (a := 0) (b := 86) (dl_at 32 13 lb_X10_friendsNear_1 rfl) (dl_at 32 14 lb_X10_friendsNear_1 rfl) (dl_at 32 15 lb_X10_friendsNear_1 rfl) rfl
theorem dX10_friendsNear_48 : decode cX10_friendsNear 48 = .ok (.ifCond .eq 7, 3) := dx_153 (a := 0) (b := 7) (dl_at 32 16 lb_X10_friendsNear_1 rfl) (dl_at 32 17 lb_X10_friendsNear_1 rfl) (dl_at 32 18 lb_X10_friendsNear_1 rfl) sg16_7
theorem dX10_friendsNear_51 : decode cX10_friendsNear 51 = .ok (.iconst 1, 1) := dx_4 (dl_at 32 19 lb_X10_friendsNear_1 rfl)
theorem dX10_friendsNear_52 : decode cX10_friendsNear 52 = .ok (.goto 4, 3) := dx_167 (a := 0) (b := 4) (dl_at 32 20 lb_X10_friendsNear_1 rfl) (dl_at 32 21 lb_X10_friendsNear_1 rfl) (dl_at 32 22 lb_X10_friendsNear_1 rfl) sg16_4
theorem lb_X11_rowsThere_0 : dl_ck (cX11_rowsThere.data.toList.drop 0) [3, 60, 3, 61, 28, 16, 6, 162, 0, 29, 27, 42, 180, 0, 11, 28, 50, 182, 0, 98, 153, 0, 7, 3, 167, 0, 4, 4, 96, 60, 132, 2] = true := by decide +kernel
theorem lb_X11_rowsThere_1 : dl_ck (cX11_rowsThere.data.toList.drop 32) [1, 167, 255, 227, 27, 172] = true := by decide +kernel
theorem dX11_rowsThere_0 : decode cX11_rowsThere 0 = .ok (.iconst 0, 1) := dx_3 (dl_at 0 0 lb_X11_rowsThere_0 rfl)
theorem dX11_rowsThere_1 : decode cX11_rowsThere 1 = .ok (.istore_n 1, 1) := dx_60 (dl_at 0 1 lb_X11_rowsThere_0 rfl)
theorem dX11_rowsThere_2 : decode cX11_rowsThere 2 = .ok (.iconst 0, 1) := dx_3 (dl_at 0 2 lb_X11_rowsThere_0 rfl)
theorem dX11_rowsThere_3 : decode cX11_rowsThere 3 = .ok (.istore_n 2, 1) := dx_61 (dl_at 0 3 lb_X11_rowsThere_0 rfl)
theorem dX11_rowsThere_4 : decode cX11_rowsThere 4 = .ok (.iload_n 2, 1) := dx_28 (dl_at 0 4 lb_X11_rowsThere_0 rfl)
theorem dX11_rowsThere_5 : decode cX11_rowsThere 5 = .ok (.bipush 6, 2) := dx_16 (dl_at 0 5 lb_X11_rowsThere_0 rfl) (dl_at 0 6 lb_X11_rowsThere_0 rfl) sg8_6
theorem dX11_rowsThere_7 : decode cX11_rowsThere 7 = .ok (.if_icmp .ge 29, 3) := dx_162 (a := 0) (b := 29) (dl_at 0 7 lb_X11_rowsThere_0 rfl) (dl_at 0 8 lb_X11_rowsThere_0 rfl) (dl_at 0 9 lb_X11_rowsThere_0 rfl) sg16_29
theorem dX11_rowsThere_36 : decode cX11_rowsThere 36 = .ok (.iload_n 1, 1) := dx_27 (dl_at 32 4 lb_X11_rowsThere_1 rfl)
theorem dX11_rowsThere_37 : decode cX11_rowsThere 37 = .ok (.ireturn, 1) := dx_172 (dl_at 32 5 lb_X11_rowsThere_1 rfl)
theorem dX11_rowsThere_10 : decode cX11_rowsThere 10 = .ok (.iload_n 1, 1) := dx_27 (dl_at 0 10 lb_X11_rowsThere_0 rfl)
theorem dX11_rowsThere_11 : decode cX11_rowsThere 11 = .ok (.aload_n 0, 1) := dx_42 (dl_at 0 11 lb_X11_rowsThere_0 rfl)
theorem dX11_rowsThere_12 : decode cX11_rowsThere 12 = .ok (.getfield 11, 3) := dx_180 (a := 0) (b := 11) (dl_at 0 12 lb_X11_rowsThere_0 rfl) (dl_at 0 13 lb_X11_rowsThere_0 rfl) (dl_at 0 14 lb_X11_rowsThere_0 rfl) rfl
theorem dX11_rowsThere_15 : decode cX11_rowsThere 15 = .ok (.iload_n 2, 1) := dx_28 (dl_at 0 15 lb_X11_rowsThere_0 rfl)
theorem dX11_rowsThere_16 : decode cX11_rowsThere 16 = .ok (.aaload, 1) := dx_50 (dl_at 0 16 lb_X11_rowsThere_0 rfl)
theorem dX11_rowsThere_17 : decode cX11_rowsThere 17 = .ok (.invokevirtual 98, 3) := dx_182 (a := 0) (b := 98) (dl_at 0 17 lb_X11_rowsThere_0 rfl) (dl_at 0 18 lb_X11_rowsThere_0 rfl) (dl_at 0 19 lb_X11_rowsThere_0 rfl) rfl
theorem dX11_rowsThere_20 : decode cX11_rowsThere 20 = .ok (.ifCond .eq 7, 3) := dx_153 (a := 0) (b := 7) (dl_at 0 20 lb_X11_rowsThere_0 rfl) (dl_at 0 21 lb_X11_rowsThere_0 rfl) (dl_at 0 22 lb_X11_rowsThere_0 rfl) sg16_7
theorem dX11_rowsThere_23 : decode cX11_rowsThere 23 = .ok (.iconst 0, 1) := dx_3 (dl_at 0 23 lb_X11_rowsThere_0 rfl)
theorem dX11_rowsThere_24 : decode cX11_rowsThere 24 = .ok (.goto 4, 3) := dx_167 (a := 0) (b := 4) (dl_at 0 24 lb_X11_rowsThere_0 rfl) (dl_at 0 25 lb_X11_rowsThere_0 rfl) (dl_at 0 26 lb_X11_rowsThere_0 rfl) sg16_4
theorem dX11_rowsThere_28 : decode cX11_rowsThere 28 = .ok (.iadd, 1) := dx_96 (dl_at 0 28 lb_X11_rowsThere_0 rfl)
theorem dX11_rowsThere_29 : decode cX11_rowsThere 29 = .ok (.istore_n 1, 1) := dx_60 (dl_at 0 29 lb_X11_rowsThere_0 rfl)
theorem dX11_rowsThere_30 : decode cX11_rowsThere 30 = .ok (.iinc 2 1, 3) := dx_132 (dl_at 0 30 lb_X11_rowsThere_0 rfl) (dl_at 0 31 lb_X11_rowsThere_0 rfl) (dl_at 32 0 lb_X11_rowsThere_1 rfl) sg8_1
theorem dX11_rowsThere_33 : decode cX11_rowsThere 33 = .ok (.goto (-29), 3) := dx_167 (a := 255) (b := 227) (dl_at 32 1 lb_X11_rowsThere_1 rfl) (dl_at 32 2 lb_X11_rowsThere_1 rfl) (dl_at 32 3 lb_X11_rowsThere_1 rfl) sg16_65507
theorem dX11_rowsThere_27 : decode cX11_rowsThere 27 = .ok (.iconst 1, 1) := dx_4 (dl_at 0 27 lb_X11_rowsThere_0 rfl)
theorem lb_X11_textsThere_0 : dl_ck (cX11_textsThere.data.toList.drop 0) [3, 60, 3, 61, 28, 7, 162, 0, 29, 27, 42, 180, 0, 17, 28, 50, 182, 1, 126, 153, 0, 7, 3, 167, 0, 4, 4, 96, 60, 132, 2, 1] = true := by decide +kernel
theorem lb_X11_textsThere_1 : dl_ck (cX11_textsThere.data.toList.drop 32) [167, 255, 228, 27, 172] = true := by decide +kernel
theorem dX11_textsThere_0 : decode cX11_textsThere 0 = .ok (.iconst 0, 1) := dx_3 (dl_at 0 0 lb_X11_textsThere_0 rfl)
theorem dX11_textsThere_1 : decode cX11_textsThere 1 = .ok (.istore_n 1, 1) := dx_60 (dl_at 0 1 lb_X11_textsThere_0 rfl)
theorem dX11_textsThere_2 : decode cX11_textsThere 2 = .ok (.iconst 0, 1) := dx_3 (dl_at 0 2 lb_X11_textsThere_0 rfl)
theorem dX11_textsThere_3 : decode cX11_textsThere 3 = .ok (.istore_n 2, 1) := dx_61 (dl_at 0 3 lb_X11_textsThere_0 rfl)
theorem dX11_textsThere_4 : decode cX11_textsThere 4 = .ok (.iload_n 2, 1) := dx_28 (dl_at 0 4 lb_X11_textsThere_0 rfl)
theorem dX11_textsThere_5 : decode cX11_textsThere 5 = .ok (.iconst 4, 1) := dx_7 (dl_at 0 5 lb_X11_textsThere_0 rfl)
theorem dX11_textsThere_6 : decode cX11_textsThere 6 = .ok (.if_icmp .ge 29, 3) := dx_162 (a := 0) (b := 29) (dl_at 0 6 lb_X11_textsThere_0 rfl) (dl_at 0 7 lb_X11_textsThere_0 rfl) (dl_at 0 8 lb_X11_textsThere_0 rfl) sg16_29
theorem dX11_textsThere_35 : decode cX11_textsThere 35 = .ok (.iload_n 1, 1) := dx_27 (dl_at 32 3 lb_X11_textsThere_1 rfl)
theorem dX11_textsThere_36 : decode cX11_textsThere 36 = .ok (.ireturn, 1) := dx_172 (dl_at 32 4 lb_X11_textsThere_1 rfl)
theorem dX11_textsThere_9 : decode cX11_textsThere 9 = .ok (.iload_n 1, 1) := dx_27 (dl_at 0 9 lb_X11_textsThere_0 rfl)
theorem dX11_textsThere_10 : decode cX11_textsThere 10 = .ok (.aload_n 0, 1) := dx_42 (dl_at 0 10 lb_X11_textsThere_0 rfl)
theorem dX11_textsThere_11 : decode cX11_textsThere 11 = .ok (.getfield 17, 3) := dx_180 (a := 0) (b := 17) (dl_at 0 11 lb_X11_textsThere_0 rfl) (dl_at 0 12 lb_X11_textsThere_0 rfl) (dl_at 0 13 lb_X11_textsThere_0 rfl) rfl
theorem dX11_textsThere_14 : decode cX11_textsThere 14 = .ok (.iload_n 2, 1) := dx_28 (dl_at 0 14 lb_X11_textsThere_0 rfl)
theorem dX11_textsThere_15 : decode cX11_textsThere 15 = .ok (.aaload, 1) := dx_50 (dl_at 0 15 lb_X11_textsThere_0 rfl)
theorem dX11_textsThere_16 : decode cX11_textsThere 16 = .ok (.invokevirtual 382, 3) := dx_182 (a := 1) (b := 126) (dl_at 0 16 lb_X11_textsThere_0 rfl) (dl_at 0 17 lb_X11_textsThere_0 rfl) (dl_at 0 18 lb_X11_textsThere_0 rfl) rfl
theorem dX11_textsThere_19 : decode cX11_textsThere 19 = .ok (.ifCond .eq 7, 3) := dx_153 (a := 0) (b := 7) (dl_at 0 19 lb_X11_textsThere_0 rfl) (dl_at 0 20 lb_X11_textsThere_0 rfl) (dl_at 0 21 lb_X11_textsThere_0 rfl) sg16_7
theorem dX11_textsThere_22 : decode cX11_textsThere 22 = .ok (.iconst 0, 1) := dx_3 (dl_at 0 22 lb_X11_textsThere_0 rfl)
theorem dX11_textsThere_23 : decode cX11_textsThere 23 = .ok (.goto 4, 3) := dx_167 (a := 0) (b := 4) (dl_at 0 23 lb_X11_textsThere_0 rfl) (dl_at 0 24 lb_X11_textsThere_0 rfl) (dl_at 0 25 lb_X11_textsThere_0 rfl) sg16_4
theorem dX11_textsThere_27 : decode cX11_textsThere 27 = .ok (.iadd, 1) := dx_96 (dl_at 0 27 lb_X11_textsThere_0 rfl)
theorem dX11_textsThere_28 : decode cX11_textsThere 28 = .ok (.istore_n 1, 1) := dx_60 (dl_at 0 28 lb_X11_textsThere_0 rfl)
theorem dX11_textsThere_29 : decode cX11_textsThere 29 = .ok (.iinc 2 1, 3) := dx_132 (dl_at 0 29 lb_X11_textsThere_0 rfl) (dl_at 0 30 lb_X11_textsThere_0 rfl) (dl_at 0 31 lb_X11_textsThere_0 rfl) sg8_1
theorem dX11_textsThere_32 : decode cX11_textsThere 32 = .ok (.goto (-28), 3) := dx_167 (a := 255) (b := 228) (dl_at 32 0 lb_X11_textsThere_1 rfl) (dl_at 32 1 lb_X11_textsThere_1 rfl) (dl_at 32 2 lb_X11_textsThere_1 rfl) sg16_65508
theorem dX11_textsThere_26 : decode cX11_textsThere 26 = .ok (.iconst 1, 1) := dx_4 (dl_at 0 26 lb_X11_textsThere_0 rfl)
theorem lb_X11_townsKept_0 : dl_ck (cX11_townsKept.data.toList.drop 0) [3, 60, 3, 61, 28, 6, 162, 0, 29, 27, 42, 180, 0, 23, 28, 50, 180, 0, 135, 153, 0, 7, 4, 167, 0, 4, 3, 96, 60, 132, 2, 1] = true := by decide +kernel
theorem lb_X11_townsKept_1 : dl_ck (cX11_townsKept.data.toList.drop 32) [167, 255, 228, 27, 172] = true := by decide +kernel
theorem dX11_townsKept_0 : decode cX11_townsKept 0 = .ok (.iconst 0, 1) := dx_3 (dl_at 0 0 lb_X11_townsKept_0 rfl)
theorem dX11_townsKept_1 : decode cX11_townsKept 1 = .ok (.istore_n 1, 1) := dx_60 (dl_at 0 1 lb_X11_townsKept_0 rfl)
theorem dX11_townsKept_2 : decode cX11_townsKept 2 = .ok (.iconst 0, 1) := dx_3 (dl_at 0 2 lb_X11_townsKept_0 rfl)
theorem dX11_townsKept_3 : decode cX11_townsKept 3 = .ok (.istore_n 2, 1) := dx_61 (dl_at 0 3 lb_X11_townsKept_0 rfl)
theorem dX11_townsKept_4 : decode cX11_townsKept 4 = .ok (.iload_n 2, 1) := dx_28 (dl_at 0 4 lb_X11_townsKept_0 rfl)
theorem dX11_townsKept_5 : decode cX11_townsKept 5 = .ok (.iconst 3, 1) := dx_6 (dl_at 0 5 lb_X11_townsKept_0 rfl)
theorem dX11_townsKept_6 : decode cX11_townsKept 6 = .ok (.if_icmp .ge 29, 3) := dx_162 (a := 0) (b := 29) (dl_at 0 6 lb_X11_townsKept_0 rfl) (dl_at 0 7 lb_X11_townsKept_0 rfl) (dl_at 0 8 lb_X11_townsKept_0 rfl) sg16_29
theorem dX11_townsKept_35 : decode cX11_townsKept 35 = .ok (.iload_n 1, 1) := dx_27 (dl_at 32 3 lb_X11_townsKept_1 rfl)
theorem dX11_townsKept_36 : decode cX11_townsKept 36 = .ok (.ireturn, 1) := dx_172 (dl_at 32 4 lb_X11_townsKept_1 rfl)
theorem dX11_townsKept_9 : decode cX11_townsKept 9 = .ok (.iload_n 1, 1) := dx_27 (dl_at 0 9 lb_X11_townsKept_0 rfl)
theorem dX11_townsKept_10 : decode cX11_townsKept 10 = .ok (.aload_n 0, 1) := dx_42 (dl_at 0 10 lb_X11_townsKept_0 rfl)
theorem dX11_townsKept_11 : decode cX11_townsKept 11 = .ok (.getfield 23, 3) := dx_180 (a := 0) (b := 23) (dl_at 0 11 lb_X11_townsKept_0 rfl) (dl_at 0 12 lb_X11_townsKept_0 rfl) (dl_at 0 13 lb_X11_townsKept_0 rfl) rfl
theorem dX11_townsKept_14 : decode cX11_townsKept 14 = .ok (.iload_n 2, 1) := dx_28 (dl_at 0 14 lb_X11_townsKept_0 rfl)
theorem dX11_townsKept_15 : decode cX11_townsKept 15 = .ok (.aaload, 1) := dx_50 (dl_at 0 15 lb_X11_townsKept_0 rfl)
theorem dX11_townsKept_16 : decode cX11_townsKept 16 = .ok (.getfield 135, 3) := dx_180 (a := 0) (b := 135) (dl_at 0 16 lb_X11_townsKept_0 rfl) (dl_at 0 17 lb_X11_townsKept_0 rfl) (dl_at 0 18 lb_X11_townsKept_0 rfl) rfl
theorem dX11_townsKept_19 : decode cX11_townsKept 19 = .ok (.ifCond .eq 7, 3) := dx_153 (a := 0) (b := 7) (dl_at 0 19 lb_X11_townsKept_0 rfl) (dl_at 0 20 lb_X11_townsKept_0 rfl) (dl_at 0 21 lb_X11_townsKept_0 rfl) sg16_7
theorem dX11_townsKept_26 : decode cX11_townsKept 26 = .ok (.iconst 0, 1) := dx_3 (dl_at 0 26 lb_X11_townsKept_0 rfl)
theorem dX11_townsKept_27 : decode cX11_townsKept 27 = .ok (.iadd, 1) := dx_96 (dl_at 0 27 lb_X11_townsKept_0 rfl)
theorem dX11_townsKept_28 : decode cX11_townsKept 28 = .ok (.istore_n 1, 1) := dx_60 (dl_at 0 28 lb_X11_townsKept_0 rfl)
theorem dX11_townsKept_29 : decode cX11_townsKept 29 = .ok (.iinc 2 1, 3) := dx_132 (dl_at 0 29 lb_X11_townsKept_0 rfl) (dl_at 0 30 lb_X11_townsKept_0 rfl) (dl_at 0 31 lb_X11_townsKept_0 rfl) sg8_1
theorem dX11_townsKept_32 : decode cX11_townsKept 32 = .ok (.goto (-28), 3) := dx_167 (a := 255) (b := 228) (dl_at 32 0 lb_X11_townsKept_1 rfl) (dl_at 32 1 lb_X11_townsKept_1 rfl) (dl_at 32 2 lb_X11_townsKept_1 rfl) sg16_65508
theorem dX11_townsKept_22 : decode cX11_townsKept 22 = .ok (.iconst 1, 1) := dx_4 (dl_at 0 22 lb_X11_townsKept_0 rfl)
theorem dX11_townsKept_23 : decode cX11_townsKept 23 = .ok (.goto 4, 3) := dx_167 (a := 0) (b := 4) (dl_at 0 23 lb_X11_townsKept_0 rfl) (dl_at 0 24 lb_X11_townsKept_0 rfl) (dl_at 0 25 lb_X11_townsKept_0 rfl) sg16_4
theorem lb_X2_gainOf_0 : dl_ck (cX2_gainOf.data.toList.drop 0) [3, 61, 3, 62, 29, 42, 180, 0, 18, 162, 0, 67, 28, 42, 180, 0, 11, 29, 50, 180, 0, 59, 27, 160, 0, 15, 42, 180, 0, 11, 29, 50] = true := by decide +kernel
theorem lb_X2_gainOf_1 : dl_ck (cX2_gainOf.data.toList.drop 32) [180, 0, 65, 167, 0, 4, 3, 96, 61, 28, 42, 180, 0, 11, 29, 50, 180, 0, 62, 27, 160, 0, 15, 42, 180, 0, 11, 29, 50, 180, 0, 65] = true := by decide +kernel
theorem lb_X2_gainOf_2 : dl_ck (cX2_gainOf.data.toList.drop 64) [167, 0, 4, 3, 100, 61, 132, 3, 1, 167, 255, 187, 28, 172] = true := by decide +kernel
theorem dX2_gainOf_0 : decode cX2_gainOf 0 = .ok (.iconst 0, 1) := dx_3 (dl_at 0 0 lb_X2_gainOf_0 rfl)
theorem dX2_gainOf_1 : decode cX2_gainOf 1 = .ok (.istore_n 2, 1) := dx_61 (dl_at 0 1 lb_X2_gainOf_0 rfl)
theorem dX2_gainOf_2 : decode cX2_gainOf 2 = .ok (.iconst 0, 1) := dx_3 (dl_at 0 2 lb_X2_gainOf_0 rfl)
theorem dX2_gainOf_3 : decode cX2_gainOf 3 = .ok (.istore_n 3, 1) := dx_62 (dl_at 0 3 lb_X2_gainOf_0 rfl)
theorem dX2_gainOf_4 : decode cX2_gainOf 4 = .ok (.iload_n 3, 1) := dx_29 (dl_at 0 4 lb_X2_gainOf_0 rfl)
theorem dX2_gainOf_5 : decode cX2_gainOf 5 = .ok (.aload_n 0, 1) := dx_42 (dl_at 0 5 lb_X2_gainOf_0 rfl)
theorem dX2_gainOf_6 : decode cX2_gainOf 6 = .ok (.getfield 18, 3) := dx_180 (a := 0) (b := 18) (dl_at 0 6 lb_X2_gainOf_0 rfl) (dl_at 0 7 lb_X2_gainOf_0 rfl) (dl_at 0 8 lb_X2_gainOf_0 rfl) rfl
theorem dX2_gainOf_9 : decode cX2_gainOf 9 = .ok (.if_icmp .ge 67, 3) := dx_162 (a := 0) (b := 67) (dl_at 0 9 lb_X2_gainOf_0 rfl) (dl_at 0 10 lb_X2_gainOf_0 rfl) (dl_at 0 11 lb_X2_gainOf_0 rfl) sg16_67
theorem dX2_gainOf_76 : decode cX2_gainOf 76 = .ok (.iload_n 2, 1) := dx_28 (dl_at 64 12 lb_X2_gainOf_2 rfl)
theorem dX2_gainOf_77 : decode cX2_gainOf 77 = .ok (.ireturn, 1) := dx_172 (dl_at 64 13 lb_X2_gainOf_2 rfl)
theorem dX2_gainOf_12 : decode cX2_gainOf 12 = .ok (.iload_n 2, 1) := dx_28 (dl_at 0 12 lb_X2_gainOf_0 rfl)
theorem dX2_gainOf_13 : decode cX2_gainOf 13 = .ok (.aload_n 0, 1) := dx_42 (dl_at 0 13 lb_X2_gainOf_0 rfl)
theorem dX2_gainOf_14 : decode cX2_gainOf 14 = .ok (.getfield 11, 3) := dx_180 (a := 0) (b := 11) (dl_at 0 14 lb_X2_gainOf_0 rfl) (dl_at 0 15 lb_X2_gainOf_0 rfl) (dl_at 0 16 lb_X2_gainOf_0 rfl) rfl
theorem dX2_gainOf_17 : decode cX2_gainOf 17 = .ok (.iload_n 3, 1) := dx_29 (dl_at 0 17 lb_X2_gainOf_0 rfl)
theorem dX2_gainOf_18 : decode cX2_gainOf 18 = .ok (.aaload, 1) := dx_50 (dl_at 0 18 lb_X2_gainOf_0 rfl)
theorem dX2_gainOf_19 : decode cX2_gainOf 19 = .ok (.getfield 59, 3) := dx_180 (a := 0) (b := 59) (dl_at 0 19 lb_X2_gainOf_0 rfl) (dl_at 0 20 lb_X2_gainOf_0 rfl) (dl_at 0 21 lb_X2_gainOf_0 rfl) rfl
theorem dX2_gainOf_22 : decode cX2_gainOf 22 = .ok (.iload_n 1, 1) := dx_27 (dl_at 0 22 lb_X2_gainOf_0 rfl)
theorem dX2_gainOf_23 : decode cX2_gainOf 23 = .ok (.if_icmp .ne 15, 3) := dx_160 (a := 0) (b := 15) (dl_at 0 23 lb_X2_gainOf_0 rfl) (dl_at 0 24 lb_X2_gainOf_0 rfl) (dl_at 0 25 lb_X2_gainOf_0 rfl) sg16_15
theorem dX2_gainOf_38 : decode cX2_gainOf 38 = .ok (.iconst 0, 1) := dx_3 (dl_at 32 6 lb_X2_gainOf_1 rfl)
theorem dX2_gainOf_39 : decode cX2_gainOf 39 = .ok (.iadd, 1) := dx_96 (dl_at 32 7 lb_X2_gainOf_1 rfl)
theorem dX2_gainOf_40 : decode cX2_gainOf 40 = .ok (.istore_n 2, 1) := dx_61 (dl_at 32 8 lb_X2_gainOf_1 rfl)
theorem dX2_gainOf_41 : decode cX2_gainOf 41 = .ok (.iload_n 2, 1) := dx_28 (dl_at 32 9 lb_X2_gainOf_1 rfl)
theorem dX2_gainOf_42 : decode cX2_gainOf 42 = .ok (.aload_n 0, 1) := dx_42 (dl_at 32 10 lb_X2_gainOf_1 rfl)
theorem dX2_gainOf_43 : decode cX2_gainOf 43 = .ok (.getfield 11, 3) := dx_180 (a := 0) (b := 11) (dl_at 32 11 lb_X2_gainOf_1 rfl) (dl_at 32 12 lb_X2_gainOf_1 rfl) (dl_at 32 13 lb_X2_gainOf_1 rfl) rfl
theorem dX2_gainOf_46 : decode cX2_gainOf 46 = .ok (.iload_n 3, 1) := dx_29 (dl_at 32 14 lb_X2_gainOf_1 rfl)
theorem dX2_gainOf_47 : decode cX2_gainOf 47 = .ok (.aaload, 1) := dx_50 (dl_at 32 15 lb_X2_gainOf_1 rfl)
theorem dX2_gainOf_48 : decode cX2_gainOf 48 = .ok (.getfield 62, 3) := dx_180 (a := 0) (b := 62) (dl_at 32 16 lb_X2_gainOf_1 rfl) (dl_at 32 17 lb_X2_gainOf_1 rfl) (dl_at 32 18 lb_X2_gainOf_1 rfl) rfl
theorem dX2_gainOf_51 : decode cX2_gainOf 51 = .ok (.iload_n 1, 1) := dx_27 (dl_at 32 19 lb_X2_gainOf_1 rfl)
theorem dX2_gainOf_52 : decode cX2_gainOf 52 = .ok (.if_icmp .ne 15, 3) := dx_160 (a := 0) (b := 15) (dl_at 32 20 lb_X2_gainOf_1 rfl) (dl_at 32 21 lb_X2_gainOf_1 rfl) (dl_at 32 22 lb_X2_gainOf_1 rfl) sg16_15
theorem dX2_gainOf_67 : decode cX2_gainOf 67 = .ok (.iconst 0, 1) := dx_3 (dl_at 64 3 lb_X2_gainOf_2 rfl)
theorem dX2_gainOf_68 : decode cX2_gainOf 68 = .ok (.isub, 1) := dx_100 (dl_at 64 4 lb_X2_gainOf_2 rfl)
theorem dX2_gainOf_69 : decode cX2_gainOf 69 = .ok (.istore_n 2, 1) := dx_61 (dl_at 64 5 lb_X2_gainOf_2 rfl)
theorem dX2_gainOf_70 : decode cX2_gainOf 70 = .ok (.iinc 3 1, 3) := dx_132 (dl_at 64 6 lb_X2_gainOf_2 rfl) (dl_at 64 7 lb_X2_gainOf_2 rfl) (dl_at 64 8 lb_X2_gainOf_2 rfl) sg8_1
theorem dX2_gainOf_73 : decode cX2_gainOf 73 = .ok (.goto (-69), 3) := dx_167 (a := 255) (b := 187) (dl_at 64 9 lb_X2_gainOf_2 rfl) (dl_at 64 10 lb_X2_gainOf_2 rfl) (dl_at 64 11 lb_X2_gainOf_2 rfl) sg16_65467
theorem dX2_gainOf_55 : decode cX2_gainOf 55 = .ok (.aload_n 0, 1) := dx_42 (dl_at 32 23 lb_X2_gainOf_1 rfl)
theorem dX2_gainOf_56 : decode cX2_gainOf 56 = .ok (.getfield 11, 3) := dx_180 (a := 0) (b := 11) (dl_at 32 24 lb_X2_gainOf_1 rfl) (dl_at 32 25 lb_X2_gainOf_1 rfl) (dl_at 32 26 lb_X2_gainOf_1 rfl) rfl
theorem dX2_gainOf_59 : decode cX2_gainOf 59 = .ok (.iload_n 3, 1) := dx_29 (dl_at 32 27 lb_X2_gainOf_1 rfl)
theorem dX2_gainOf_60 : decode cX2_gainOf 60 = .ok (.aaload, 1) := dx_50 (dl_at 32 28 lb_X2_gainOf_1 rfl)
theorem dX2_gainOf_61 : decode cX2_gainOf 61 = .ok (.getfield 65, 3) := dx_180 (a := 0) (b := 65) (dl_at 32 29 lb_X2_gainOf_1 rfl) (dl_at 32 30 lb_X2_gainOf_1 rfl) (dl_at 32 31 lb_X2_gainOf_1 rfl) rfl
theorem dX2_gainOf_64 : decode cX2_gainOf 64 = .ok (.goto 4, 3) := dx_167 (a := 0) (b := 4) (dl_at 64 0 lb_X2_gainOf_2 rfl) (dl_at 64 1 lb_X2_gainOf_2 rfl) (dl_at 64 2 lb_X2_gainOf_2 rfl) sg16_4
theorem dX2_gainOf_26 : decode cX2_gainOf 26 = .ok (.aload_n 0, 1) := dx_42 (dl_at 0 26 lb_X2_gainOf_0 rfl)
theorem dX2_gainOf_27 : decode cX2_gainOf 27 = .ok (.getfield 11, 3) := dx_180 (a := 0) (b := 11) (dl_at 0 27 lb_X2_gainOf_0 rfl) (dl_at 0 28 lb_X2_gainOf_0 rfl) (dl_at 0 29 lb_X2_gainOf_0 rfl) rfl
theorem dX2_gainOf_30 : decode cX2_gainOf 30 = .ok (.iload_n 3, 1) := dx_29 (dl_at 0 30 lb_X2_gainOf_0 rfl)
theorem dX2_gainOf_31 : decode cX2_gainOf 31 = .ok (.aaload, 1) := dx_50 (dl_at 0 31 lb_X2_gainOf_0 rfl)
theorem dX2_gainOf_32 : decode cX2_gainOf 32 = .ok (.getfield 65, 3) := dx_180 (a := 0) (b := 65) (dl_at 32 0 lb_X2_gainOf_1 rfl) (dl_at 32 1 lb_X2_gainOf_1 rfl) (dl_at 32 2 lb_X2_gainOf_1 rfl) rfl
theorem dX2_gainOf_35 : decode cX2_gainOf 35 = .ok (.goto 4, 3) := dx_167 (a := 0) (b := 4) (dl_at 32 3 lb_X2_gainOf_1 rfl) (dl_at 32 4 lb_X2_gainOf_1 rfl) (dl_at 32 5 lb_X2_gainOf_1 rfl) sg16_4
theorem lb_X11_bitAt_0 : dl_ck (cX11_bitAt.data.toList.drop 0) [27, 61, 3, 62, 29, 16, 7, 162, 0, 29, 26, 29, 184, 0, 209, 154, 0, 6, 167, 0, 12, 28, 154, 0, 5, 29, 172, 132, 2, 255, 132, 3] = true := by decide +kernel
theorem lb_X11_bitAt_1 : dl_ck (cX11_bitAt.data.toList.drop 32) [1, 167, 255, 227, 3, 172] = true := by decide +kernel
theorem dX11_bitAt_0 : decode cX11_bitAt 0 = .ok (.iload_n 1, 1) := dx_27 (dl_at 0 0 lb_X11_bitAt_0 rfl)
theorem dX11_bitAt_1 : decode cX11_bitAt 1 = .ok (.istore_n 2, 1) := dx_61 (dl_at 0 1 lb_X11_bitAt_0 rfl)
theorem dX11_bitAt_2 : decode cX11_bitAt 2 = .ok (.iconst 0, 1) := dx_3 (dl_at 0 2 lb_X11_bitAt_0 rfl)
theorem dX11_bitAt_3 : decode cX11_bitAt 3 = .ok (.istore_n 3, 1) := dx_62 (dl_at 0 3 lb_X11_bitAt_0 rfl)
theorem dX11_bitAt_4 : decode cX11_bitAt 4 = .ok (.iload_n 3, 1) := dx_29 (dl_at 0 4 lb_X11_bitAt_0 rfl)
theorem dX11_bitAt_5 : decode cX11_bitAt 5 = .ok (.bipush 7, 2) := dx_16 (dl_at 0 5 lb_X11_bitAt_0 rfl) (dl_at 0 6 lb_X11_bitAt_0 rfl) sg8_7
theorem dX11_bitAt_7 : decode cX11_bitAt 7 = .ok (.if_icmp .ge 29, 3) := dx_162 (a := 0) (b := 29) (dl_at 0 7 lb_X11_bitAt_0 rfl) (dl_at 0 8 lb_X11_bitAt_0 rfl) (dl_at 0 9 lb_X11_bitAt_0 rfl) sg16_29
theorem dX11_bitAt_36 : decode cX11_bitAt 36 = .ok (.iconst 0, 1) := dx_3 (dl_at 32 4 lb_X11_bitAt_1 rfl)
theorem dX11_bitAt_37 : decode cX11_bitAt 37 = .ok (.ireturn, 1) := dx_172 (dl_at 32 5 lb_X11_bitAt_1 rfl)
theorem dX11_bitAt_10 : decode cX11_bitAt 10 = .ok (.iload_n 0, 1) := dx_26 (dl_at 0 10 lb_X11_bitAt_0 rfl)
theorem dX11_bitAt_11 : decode cX11_bitAt 11 = .ok (.iload_n 3, 1) := dx_29 (dl_at 0 11 lb_X11_bitAt_0 rfl)
theorem dX11_bitAt_12 : decode cX11_bitAt 12 = .ok (.invokestatic 209, 3) := dx_184 (a := 0) (b := 209) (dl_at 0 12 lb_X11_bitAt_0 rfl) (dl_at 0 13 lb_X11_bitAt_0 rfl) (dl_at 0 14 lb_X11_bitAt_0 rfl) rfl
theorem dX11_bitAt_15 : decode cX11_bitAt 15 = .ok (.ifCond .ne 6, 3) := dx_154 (a := 0) (b := 6) (dl_at 0 15 lb_X11_bitAt_0 rfl) (dl_at 0 16 lb_X11_bitAt_0 rfl) (dl_at 0 17 lb_X11_bitAt_0 rfl) sg16_6
theorem dX11_bitAt_21 : decode cX11_bitAt 21 = .ok (.iload_n 2, 1) := dx_28 (dl_at 0 21 lb_X11_bitAt_0 rfl)
theorem dX11_bitAt_22 : decode cX11_bitAt 22 = .ok (.ifCond .ne 5, 3) := dx_154 (a := 0) (b := 5) (dl_at 0 22 lb_X11_bitAt_0 rfl) (dl_at 0 23 lb_X11_bitAt_0 rfl) (dl_at 0 24 lb_X11_bitAt_0 rfl) sg16_5
theorem dX11_bitAt_27 : decode cX11_bitAt 27 = .ok (.iinc 2 (-1), 3) := dx_132 (dl_at 0 27 lb_X11_bitAt_0 rfl) (dl_at 0 28 lb_X11_bitAt_0 rfl) (dl_at 0 29 lb_X11_bitAt_0 rfl) sg8_255
theorem dX11_bitAt_30 : decode cX11_bitAt 30 = .ok (.iinc 3 1, 3) := dx_132 (dl_at 0 30 lb_X11_bitAt_0 rfl) (dl_at 0 31 lb_X11_bitAt_0 rfl) (dl_at 32 0 lb_X11_bitAt_1 rfl) sg8_1
theorem dX11_bitAt_33 : decode cX11_bitAt 33 = .ok (.goto (-29), 3) := dx_167 (a := 255) (b := 227) (dl_at 32 1 lb_X11_bitAt_1 rfl) (dl_at 32 2 lb_X11_bitAt_1 rfl) (dl_at 32 3 lb_X11_bitAt_1 rfl) sg16_65507
theorem dX11_bitAt_25 : decode cX11_bitAt 25 = .ok (.iload_n 3, 1) := dx_29 (dl_at 0 25 lb_X11_bitAt_0 rfl)
theorem dX11_bitAt_26 : decode cX11_bitAt 26 = .ok (.ireturn, 1) := dx_172 (dl_at 0 26 lb_X11_bitAt_0 rfl)
theorem dX11_bitAt_18 : decode cX11_bitAt 18 = .ok (.goto 12, 3) := dx_167 (a := 0) (b := 12) (dl_at 0 18 lb_X11_bitAt_0 rfl) (dl_at 0 19 lb_X11_bitAt_0 rfl) (dl_at 0 20 lb_X11_bitAt_0 rfl) sg16_12
def F_sx_bitCount (va : Int32) : Int32 :=
  LETV (((va : Int32).toUInt32 >>> ((1 : Int32).toUInt32 &&& Int32.toUInt32 31)).toInt32 : Int32) fun t1 =>
  LETV (t1 &&& 1431655765 : Int32) fun t2 =>
  LETV (va - t2 : Int32) fun t3 =>
  LETV (t3 &&& 858993459 : Int32) fun t4 =>
  LETV (((t3 : Int32).toUInt32 >>> ((2 : Int32).toUInt32 &&& Int32.toUInt32 31)).toInt32 : Int32) fun t5 =>
  LETV (t5 &&& 858993459 : Int32) fun t6 =>
  LETV (t4 + t6 : Int32) fun t7 =>
  LETV (((t7 : Int32).toUInt32 >>> ((4 : Int32).toUInt32 &&& Int32.toUInt32 31)).toInt32 : Int32) fun t8 =>
  LETV (t7 + t8 : Int32) fun t9 =>
  LETV (t9 &&& 252645135 : Int32) fun t10 =>
  LETV (((t10 : Int32).toUInt32 >>> ((8 : Int32).toUInt32 &&& Int32.toUInt32 31)).toInt32 : Int32) fun t11 =>
  LETV (t10 + t11 : Int32) fun t12 =>
  LETV (((t12 : Int32).toUInt32 >>> ((16 : Int32).toUInt32 &&& Int32.toUInt32 31)).toInt32 : Int32) fun t13 =>
  LETV (t12 + t13 : Int32) fun t14 =>
  LETV (t14 &&& 63 : Int32) fun t15 =>
  (t15 : Int32)
def L_sx_commonDivisor_9_0 : Nat → (Int64) → (Int64) → (Int32) → Int64
  | 0, v4_9, v6_9, v8_9 => 0
  | n + 1, v4_9, v6_9, v8_9 =>
    if v8_9 ≥ (128 : Int32) then (
      (v4_9 : Int64)
    ) else (
      LETV (lg_cmp v6_9 0 : Int32) fun t2 =>
      if t2 = (0 : Int32) then (
        (v4_9 : Int64)
      ) else (
        LETV (v4_9 - v4_9 / v6_9 * v6_9 : Int64) fun l4 =>
        LETV ((v8_9 + 1) : Int32) fun w5 =>
        L_sx_commonDivisor_9_0 n (v6_9 : Int64) (l4 : Int64) (w5 : Int32)
      )
    )
def F_sx_commonDivisor (la : Int64) (lb : Int64) : Int64 :=
  L_sx_commonDivisor_9_0 131 (la : Int64) (lb : Int64) (0 : Int32)
def L_sx_richestPurse_4_0 (mu : Nat → Nat → Int32) : Nat → (Int64) → (Int32) → Int64
  | 0, v1_4, v3_4 => 0
  | n + 1, v1_4, v3_4 =>
    LETV (mu 4 6 : Int32) fun y1 =>
    if v3_4 ≥ y1 then (
      (v1_4 : Int64)
    ) else (
      LETV (mu 46 v3_4.toNatClampNeg : Int32) fun y3 =>
      LETV ((y3 : Int32).toInt64 : Int64) fun l4 =>
      LETV (if l4 < v1_4 then v1_4 else l4 : Int64) fun t5 =>
      LETV ((v3_4 + 1) : Int32) fun w6 =>
      L_sx_richestPurse_4_0 mu n (t5 : Int64) (w6 : Int32)
    )
def F_sx_richestPurse (mu : Nat → Nat → Int32) : Int64 :=
  L_sx_richestPurse_4_0 mu 10 (0 : Int64) (0 : Int32)
def L_sx_allPurses_4_0 (mu : Nat → Nat → Int32) : Nat → (Int64) → (Int32) → Int64
  | 0, v1_4, v3_4 => 0
  | n + 1, v1_4, v3_4 =>
    LETV (mu 4 6 : Int32) fun y1 =>
    if v3_4 ≥ y1 then (
      (v1_4 : Int64)
    ) else (
      LETV (mu 46 v3_4.toNatClampNeg : Int32) fun y3 =>
      LETV ((y3 : Int32).toInt64 : Int64) fun l4 =>
      LETV (v1_4 + l4 : Int64) fun l5 =>
      LETV ((v3_4 + 1) : Int32) fun w6 =>
      L_sx_allPurses_4_0 mu n (l5 : Int64) (w6 : Int32)
    )
def F_sx_allPurses (mu : Nat → Nat → Int32) : Int64 :=
  L_sx_allPurses_4_0 mu 10 (0 : Int64) (0 : Int32)
def L_sx_unreadWith_4_0 (mu : Nat → Nat → Int32) (vx : Int32) : Nat → (Int32) → (Int32) → Int32
  | 0, v2_4, v3_4 => 0
  | n + 1, v2_4, v3_4 =>
    LETV (mu 5 4 : Int32) fun y1 =>
    if v3_4 ≥ y1 then (
      (v2_4 : Int32)
    ) else (
      LETV (mu (61 + v3_4.toNatClampNeg) 5 : Int32) fun y4 =>
      if y4 = vx then (
        LETV (mu (61 + v3_4.toNatClampNeg) 9 : Int32) fun y9 =>
        if y9 = (0 : Int32) then (
          LETV (v2_4 + 1 : Int32) fun t13 =>
          LETV ((v3_4 + 1) : Int32) fun w14 =>
          L_sx_unreadWith_4_0 mu vx n (t13 : Int32) (w14 : Int32)
        ) else (
          LETV (v2_4 + 0 : Int32) fun t11 =>
          LETV ((v3_4 + 1) : Int32) fun w12 =>
          L_sx_unreadWith_4_0 mu vx n (t11 : Int32) (w12 : Int32)
        )
      ) else (
        LETV (v2_4 + 0 : Int32) fun t6 =>
        LETV ((v3_4 + 1) : Int32) fun w7 =>
        L_sx_unreadWith_4_0 mu vx n (t6 : Int32) (w7 : Int32)
      )
    )
def F_sx_unreadWith (mu : Nat → Nat → Int32) (vx : Int32) : Int32 :=
  L_sx_unreadWith_4_0 mu vx 7 (0 : Int32) (0 : Int32)
def L_sx_unreadTo_4_0 (mu : Nat → Nat → Int32) (vx : Int32) : Nat → (Int32) → (Int32) → Int32
  | 0, v2_4, v3_4 => 0
  | n + 1, v2_4, v3_4 =>
    LETV (mu 5 4 : Int32) fun y1 =>
    if v3_4 ≥ y1 then (
      (v2_4 : Int32)
    ) else (
      LETV (mu (61 + v3_4.toNatClampNeg) 1 : Int32) fun y4 =>
      if y4 = vx then (
        LETV (mu (61 + v3_4.toNatClampNeg) 9 : Int32) fun y9 =>
        if y9 = (0 : Int32) then (
          LETV (v2_4 + 1 : Int32) fun t13 =>
          LETV ((v3_4 + 1) : Int32) fun w14 =>
          L_sx_unreadTo_4_0 mu vx n (t13 : Int32) (w14 : Int32)
        ) else (
          LETV (v2_4 + 0 : Int32) fun t11 =>
          LETV ((v3_4 + 1) : Int32) fun w12 =>
          L_sx_unreadTo_4_0 mu vx n (t11 : Int32) (w12 : Int32)
        )
      ) else (
        LETV (v2_4 + 0 : Int32) fun t6 =>
        LETV ((v3_4 + 1) : Int32) fun w7 =>
        L_sx_unreadTo_4_0 mu vx n (t6 : Int32) (w7 : Int32)
      )
    )
def F_sx_unreadTo (mu : Nat → Nat → Int32) (vx : Int32) : Int32 :=
  L_sx_unreadTo_4_0 mu vx 7 (0 : Int32) (0 : Int32)
def L_sx_paidForUnread_4_0 (mu : Nat → Nat → Int32) (vx : Int32) : Nat → (Int32) → (Int32) → Int32
  | 0, v2_4, v3_4 => 0
  | n + 1, v2_4, v3_4 =>
    LETV (mu 5 4 : Int32) fun y1 =>
    if v3_4 ≥ y1 then (
      (v2_4 : Int32)
    ) else (
      LETV (mu (61 + v3_4.toNatClampNeg) 5 : Int32) fun y4 =>
      if y4 = vx then (
        LETV (mu (61 + v3_4.toNatClampNeg) 9 : Int32) fun y9 =>
        if y9 = (0 : Int32) then (
          LETV (mu (61 + v3_4.toNatClampNeg) 6 : Int32) fun y14 =>
          LETV (v2_4 + y14 : Int32) fun t15 =>
          LETV ((v3_4 + 1) : Int32) fun w16 =>
          L_sx_paidForUnread_4_0 mu vx n (t15 : Int32) (w16 : Int32)
        ) else (
          LETV (v2_4 + 0 : Int32) fun t11 =>
          LETV ((v3_4 + 1) : Int32) fun w12 =>
          L_sx_paidForUnread_4_0 mu vx n (t11 : Int32) (w12 : Int32)
        )
      ) else (
        LETV (v2_4 + 0 : Int32) fun t6 =>
        LETV ((v3_4 + 1) : Int32) fun w7 =>
        L_sx_paidForUnread_4_0 mu vx n (t6 : Int32) (w7 : Int32)
      )
    )
def F_sx_paidForUnread (mu : Nat → Nat → Int32) (vx : Int32) : Int32 :=
  L_sx_paidForUnread_4_0 mu vx 7 (0 : Int32) (0 : Int32)
def L_sx_friendsNear_18_0 (mu : Nat → Nat → Int32) (r2 : Int32) : Nat → (Int32) → (Int32) → Int32
  | 0, v3_18, v4_18 => 0
  | n + 1, v3_18, v4_18 =>
    LETV (mu 4 6 : Int32) fun y3 =>
    if v4_18 ≥ y3 then (
      (v3_18 : Int32)
    ) else (
      LETV (F_sx_hasBit (r2 : Int32) (v4_18 : Int32) : Int32) fun r5 =>
      if r5 = (0 : Int32) then (
        LETV (v3_18 + 0 : Int32) fun t7 =>
        LETV ((v4_18 + 1) : Int32) fun w8 =>
        L_sx_friendsNear_18_0 mu r2 n (t7 : Int32) (w8 : Int32)
      ) else (
        LETV (mu 34 v4_18.toNatClampNeg : Int32) fun y9 =>
        LETV (F_sx_isOfKind (y9 : Int32) (2 : Int32) : Int32) fun r10 =>
        if r10 = (0 : Int32) then (
          LETV (v3_18 + 0 : Int32) fun t12 =>
          LETV ((v4_18 + 1) : Int32) fun w13 =>
          L_sx_friendsNear_18_0 mu r2 n (t12 : Int32) (w13 : Int32)
        ) else (
          LETV (v3_18 + 1 : Int32) fun t14 =>
          LETV ((v4_18 + 1) : Int32) fun w15 =>
          L_sx_friendsNear_18_0 mu r2 n (t14 : Int32) (w15 : Int32)
        )
      )
    )
def F_sx_friendsNear (mu : Nat → Nat → Int32) (vx : Int32) : Int32 :=
  LETV (mu 5 2 : Int32) fun y1 =>
  LETV (F_sx_near mu (vx : Int32) (y1 : Int32) : Int32) fun r2 =>
  L_sx_friendsNear_18_0 mu r2 10 (0 : Int32) (0 : Int32)
def L_sx_gainOf_4_0 (mu : Nat → Nat → Int32) (vx : Int32) : Nat → (Int32) → (Int32) → Int32
  | 0, v2_4, v3_4 => 0
  | n + 1, v2_4, v3_4 =>
    LETV (mu 6 1 : Int32) fun y1 =>
    if v3_4 ≥ y1 then (
      (v2_4 : Int32)
    ) else (
      LETV (mu (77 + v3_4.toNatClampNeg) 2 : Int32) fun y4 =>
      if y4 = vx then (
        LETV (mu (77 + v3_4.toNatClampNeg) 4 : Int32) fun y17 =>
        LETV (v2_4 + y17 : Int32) fun t18 =>
        LETV (mu (77 + v3_4.toNatClampNeg) 3 : Int32) fun y20 =>
        if y20 = vx then (
          LETV (t18 - y17 : Int32) fun t25 =>
          LETV ((v3_4 + 1) : Int32) fun w26 =>
          L_sx_gainOf_4_0 mu vx n (t25 : Int32) (w26 : Int32)
        ) else (
          LETV (t18 - 0 : Int32) fun t22 =>
          LETV ((v3_4 + 1) : Int32) fun w23 =>
          L_sx_gainOf_4_0 mu vx n (t22 : Int32) (w23 : Int32)
        )
      ) else (
        LETV (v2_4 + 0 : Int32) fun t6 =>
        LETV (mu (77 + v3_4.toNatClampNeg) 3 : Int32) fun y8 =>
        if y8 = vx then (
          LETV (mu (77 + v3_4.toNatClampNeg) 4 : Int32) fun y13 =>
          LETV (t6 - y13 : Int32) fun t14 =>
          LETV ((v3_4 + 1) : Int32) fun w15 =>
          L_sx_gainOf_4_0 mu vx n (t14 : Int32) (w15 : Int32)
        ) else (
          LETV (t6 - 0 : Int32) fun t10 =>
          LETV ((v3_4 + 1) : Int32) fun w11 =>
          L_sx_gainOf_4_0 mu vx n (t10 : Int32) (w11 : Int32)
        )
      )
    )
def F_sx_gainOf (mu : Nat → Nat → Int32) (vx : Int32) : Int32 :=
  L_sx_gainOf_4_0 mu vx 43 (0 : Int32) (0 : Int32)
def L_sx_bitAt_4_0 (va : Int32) : Nat → (Int32) → (Int32) → Int32
  | 0, v2_4, v3_4 => 0
  | n + 1, v2_4, v3_4 =>
    if v3_4 ≥ (7 : Int32) then (
      (0 : Int32)
    ) else (
      LETV (F_sx_hasBit (va : Int32) (v3_4 : Int32) : Int32) fun r2 =>
      if r2 = (0 : Int32) then (
        LETV ((v3_4 + 1) : Int32) fun w7 =>
        L_sx_bitAt_4_0 va n (v2_4 : Int32) (w7 : Int32)
      ) else (
        if v2_4 = (0 : Int32) then (
          (v3_4 : Int32)
        ) else (
          LETV ((v2_4 + (-1)) : Int32) fun w5 =>
          LETV ((v3_4 + 1) : Int32) fun w6 =>
          L_sx_bitAt_4_0 va n (w5 : Int32) (w6 : Int32)
        )
      )
    )
def F_sx_bitAt (va : Int32) (vb : Int32) : Int32 :=
  L_sx_bitAt_4_0 va 10 (vb : Int32) (0 : Int32)
