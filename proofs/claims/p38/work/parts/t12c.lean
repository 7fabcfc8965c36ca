theorem lb_X12_here_0 : dl_ck (cX12_here.data.toList.drop 0) [42, 180, 0, 112, 42, 180, 0, 22, 27, 46, 162, 0, 20, 42, 180, 0, 25, 16, 80, 27, 104, 42, 180, 0, 112, 96, 46, 167, 0, 5, 16, 247] = true := by decide +kernel
theorem lb_X12_here_1 : dl_ck (cX12_here.data.toList.drop 32) [172] = true := by decide +kernel
theorem dX12_here_0 : decode cX12_here 0 = .ok (.aload_n 0, 1) := dx_42 (dl_at 0 0 lb_X12_here_0 rfl)
theorem dX12_here_1 : decode cX12_here 1 = .ok (.getfield 112, 3) := dx_180 (a := 0) (b := 112) (dl_at 0 1 lb_X12_here_0 rfl) (dl_at 0 2 lb_X12_here_0 rfl) (dl_at 0 3 lb_X12_here_0 rfl) rfl
theorem dX12_here_4 : decode cX12_here 4 = .ok (.aload_n 0, 1) := dx_42 (dl_at 0 4 lb_X12_here_0 rfl)
theorem dX12_here_5 : decode cX12_here 5 = .ok (.getfield 22, 3) := dx_180 (a := 0) (b := 22) (dl_at 0 5 lb_X12_here_0 rfl) (dl_at 0 6 lb_X12_here_0 rfl) (dl_at 0 7 lb_X12_here_0 rfl) rfl
theorem dX12_here_8 : decode cX12_here 8 = .ok (.iload_n 1, 1) := dx_27 (dl_at 0 8 lb_X12_here_0 rfl)
theorem dX12_here_9 : decode cX12_here 9 = .ok (.iaload, 1) := dx_46 (dl_at 0 9 lb_X12_here_0 rfl)
theorem dX12_here_10 : decode cX12_here 10 = .ok (.if_icmp .ge 20, 3) := dx_162 (a := 0) (b := 20) (dl_at 0 10 lb_X12_here_0 rfl) (dl_at 0 11 lb_X12_here_0 rfl) (dl_at 0 12 lb_X12_here_0 rfl) sg16_20
theorem dX12_here_30 : decode cX12_here 30 = .ok (.bipush (-9), 2) := dx_16 (dl_at 0 30 lb_X12_here_0 rfl) (dl_at 0 31 lb_X12_here_0 rfl) sg8_247
theorem dX12_here_32 : decode cX12_here 32 = .ok (.ireturn, 1) := dx_172 (dl_at 32 0 lb_X12_here_1 rfl)
theorem dX12_here_13 : decode cX12_here 13 = .ok (.aload_n 0, 1) := dx_42 (dl_at 0 13 lb_X12_here_0 rfl)
theorem dX12_here_14 : decode cX12_here 14 = .ok (.getfield 25, 3) := dx_180 (a := 0) (b := 25) (dl_at 0 14 lb_X12_here_0 rfl) (dl_at 0 15 lb_X12_here_0 rfl) (dl_at 0 16 lb_X12_here_0 rfl) rfl
theorem dX12_here_17 : decode cX12_here 17 = .ok (.bipush 80, 2) := dx_16 (dl_at 0 17 lb_X12_here_0 rfl) (dl_at 0 18 lb_X12_here_0 rfl) sg8_80
theorem dX12_here_19 : decode cX12_here 19 = .ok (.iload_n 1, 1) := dx_27 (dl_at 0 19 lb_X12_here_0 rfl)
theorem dX12_here_20 : decode cX12_here 20 = .ok (.imul, 1) := dx_104 (dl_at 0 20 lb_X12_here_0 rfl)
theorem dX12_here_21 : decode cX12_here 21 = .ok (.aload_n 0, 1) := dx_42 (dl_at 0 21 lb_X12_here_0 rfl)
theorem dX12_here_22 : decode cX12_here 22 = .ok (.getfield 112, 3) := dx_180 (a := 0) (b := 112) (dl_at 0 22 lb_X12_here_0 rfl) (dl_at 0 23 lb_X12_here_0 rfl) (dl_at 0 24 lb_X12_here_0 rfl) rfl
theorem dX12_here_25 : decode cX12_here 25 = .ok (.iadd, 1) := dx_96 (dl_at 0 25 lb_X12_here_0 rfl)
theorem dX12_here_26 : decode cX12_here 26 = .ok (.iaload, 1) := dx_46 (dl_at 0 26 lb_X12_here_0 rfl)
theorem dX12_here_27 : decode cX12_here 27 = .ok (.goto 5, 3) := dx_167 (a := 0) (b := 5) (dl_at 0 27 lb_X12_here_0 rfl) (dl_at 0 28 lb_X12_here_0 rfl) (dl_at 0 29 lb_X12_here_0 rfl) sg16_5
theorem lb_X12_kindOf_0 : dl_ck (cX12_kindOf.data.toList.drop 0) [26, 16, 98, 160, 0, 7, 3, 167, 0, 55, 26, 16, 109, 160, 0, 7, 4, 167, 0, 45, 26, 16, 102, 160, 0, 7, 5, 167, 0, 35, 26, 16] = true := by decide +kernel
theorem lb_X12_kindOf_1 : dl_ck (cX12_kindOf.data.toList.drop 32) [114, 160, 0, 7, 6, 167, 0, 25, 26, 16, 117, 160, 0, 7, 7, 167, 0, 15, 26, 16, 115, 160, 0, 7, 8, 167, 0, 5, 16, 247, 172] = true := by decide +kernel
theorem dX12_kindOf_0 : decode cX12_kindOf 0 = .ok (.iload_n 0, 1) := dx_26 (dl_at 0 0 lb_X12_kindOf_0 rfl)
theorem dX12_kindOf_1 : decode cX12_kindOf 1 = .ok (.bipush 98, 2) := dx_16 (dl_at 0 1 lb_X12_kindOf_0 rfl) (dl_at 0 2 lb_X12_kindOf_0 rfl) sg8_98
theorem dX12_kindOf_3 : decode cX12_kindOf 3 = .ok (.if_icmp .ne 7, 3) := dx_160 (a := 0) (b := 7) (dl_at 0 3 lb_X12_kindOf_0 rfl) (dl_at 0 4 lb_X12_kindOf_0 rfl) (dl_at 0 5 lb_X12_kindOf_0 rfl) sg16_7
theorem dX12_kindOf_10 : decode cX12_kindOf 10 = .ok (.iload_n 0, 1) := dx_26 (dl_at 0 10 lb_X12_kindOf_0 rfl)
theorem dX12_kindOf_11 : decode cX12_kindOf 11 = .ok (.bipush 109, 2) := dx_16 (dl_at 0 11 lb_X12_kindOf_0 rfl) (dl_at 0 12 lb_X12_kindOf_0 rfl) sg8_109
theorem dX12_kindOf_13 : decode cX12_kindOf 13 = .ok (.if_icmp .ne 7, 3) := dx_160 (a := 0) (b := 7) (dl_at 0 13 lb_X12_kindOf_0 rfl) (dl_at 0 14 lb_X12_kindOf_0 rfl) (dl_at 0 15 lb_X12_kindOf_0 rfl) sg16_7
theorem dX12_kindOf_20 : decode cX12_kindOf 20 = .ok (.iload_n 0, 1) := dx_26 (dl_at 0 20 lb_X12_kindOf_0 rfl)
theorem dX12_kindOf_21 : decode cX12_kindOf 21 = .ok (.bipush 102, 2) := dx_16 (dl_at 0 21 lb_X12_kindOf_0 rfl) (dl_at 0 22 lb_X12_kindOf_0 rfl) sg8_102
theorem dX12_kindOf_23 : decode cX12_kindOf 23 = .ok (.if_icmp .ne 7, 3) := dx_160 (a := 0) (b := 7) (dl_at 0 23 lb_X12_kindOf_0 rfl) (dl_at 0 24 lb_X12_kindOf_0 rfl) (dl_at 0 25 lb_X12_kindOf_0 rfl) sg16_7
theorem dX12_kindOf_30 : decode cX12_kindOf 30 = .ok (.iload_n 0, 1) := dx_26 (dl_at 0 30 lb_X12_kindOf_0 rfl)
theorem dX12_kindOf_31 : decode cX12_kindOf 31 = .ok (.bipush 114, 2) := dx_16 (dl_at 0 31 lb_X12_kindOf_0 rfl) (dl_at 32 0 lb_X12_kindOf_1 rfl) sg8_114
theorem dX12_kindOf_33 : decode cX12_kindOf 33 = .ok (.if_icmp .ne 7, 3) := dx_160 (a := 0) (b := 7) (dl_at 32 1 lb_X12_kindOf_1 rfl) (dl_at 32 2 lb_X12_kindOf_1 rfl) (dl_at 32 3 lb_X12_kindOf_1 rfl) sg16_7
theorem dX12_kindOf_40 : decode cX12_kindOf 40 = .ok (.iload_n 0, 1) := dx_26 (dl_at 32 8 lb_X12_kindOf_1 rfl)
theorem dX12_kindOf_41 : decode cX12_kindOf 41 = .ok (.bipush 117, 2) := dx_16 (dl_at 32 9 lb_X12_kindOf_1 rfl) (dl_at 32 10 lb_X12_kindOf_1 rfl) sg8_117
theorem dX12_kindOf_43 : decode cX12_kindOf 43 = .ok (.if_icmp .ne 7, 3) := dx_160 (a := 0) (b := 7) (dl_at 32 11 lb_X12_kindOf_1 rfl) (dl_at 32 12 lb_X12_kindOf_1 rfl) (dl_at 32 13 lb_X12_kindOf_1 rfl) sg16_7
theorem dX12_kindOf_50 : decode cX12_kindOf 50 = .ok (.iload_n 0, 1) := dx_26 (dl_at 32 18 lb_X12_kindOf_1 rfl)
theorem dX12_kindOf_51 : decode cX12_kindOf 51 = .ok (.bipush 115, 2) := dx_16 (dl_at 32 19 lb_X12_kindOf_1 rfl) (dl_at 32 20 lb_X12_kindOf_1 rfl) sg8_115
theorem dX12_kindOf_53 : decode cX12_kindOf 53 = .ok (.if_icmp .ne 7, 3) := dx_160 (a := 0) (b := 7) (dl_at 32 21 lb_X12_kindOf_1 rfl) (dl_at 32 22 lb_X12_kindOf_1 rfl) (dl_at 32 23 lb_X12_kindOf_1 rfl) sg16_7
theorem dX12_kindOf_60 : decode cX12_kindOf 60 = .ok (.bipush (-9), 2) := dx_16 (dl_at 32 28 lb_X12_kindOf_1 rfl) (dl_at 32 29 lb_X12_kindOf_1 rfl) sg8_247
theorem dX12_kindOf_62 : decode cX12_kindOf 62 = .ok (.ireturn, 1) := dx_172 (dl_at 32 30 lb_X12_kindOf_1 rfl)
theorem dX12_kindOf_56 : decode cX12_kindOf 56 = .ok (.iconst 5, 1) := dx_8 (dl_at 32 24 lb_X12_kindOf_1 rfl)
theorem dX12_kindOf_57 : decode cX12_kindOf 57 = .ok (.goto 5, 3) := dx_167 (a := 0) (b := 5) (dl_at 32 25 lb_X12_kindOf_1 rfl) (dl_at 32 26 lb_X12_kindOf_1 rfl) (dl_at 32 27 lb_X12_kindOf_1 rfl) sg16_5
theorem dX12_kindOf_46 : decode cX12_kindOf 46 = .ok (.iconst 4, 1) := dx_7 (dl_at 32 14 lb_X12_kindOf_1 rfl)
theorem dX12_kindOf_47 : decode cX12_kindOf 47 = .ok (.goto 15, 3) := dx_167 (a := 0) (b := 15) (dl_at 32 15 lb_X12_kindOf_1 rfl) (dl_at 32 16 lb_X12_kindOf_1 rfl) (dl_at 32 17 lb_X12_kindOf_1 rfl) sg16_15
theorem dX12_kindOf_36 : decode cX12_kindOf 36 = .ok (.iconst 3, 1) := dx_6 (dl_at 32 4 lb_X12_kindOf_1 rfl)
theorem dX12_kindOf_37 : decode cX12_kindOf 37 = .ok (.goto 25, 3) := dx_167 (a := 0) (b := 25) (dl_at 32 5 lb_X12_kindOf_1 rfl) (dl_at 32 6 lb_X12_kindOf_1 rfl) (dl_at 32 7 lb_X12_kindOf_1 rfl) sg16_25
theorem dX12_kindOf_26 : decode cX12_kindOf 26 = .ok (.iconst 2, 1) := dx_5 (dl_at 0 26 lb_X12_kindOf_0 rfl)
theorem dX12_kindOf_27 : decode cX12_kindOf 27 = .ok (.goto 35, 3) := dx_167 (a := 0) (b := 35) (dl_at 0 27 lb_X12_kindOf_0 rfl) (dl_at 0 28 lb_X12_kindOf_0 rfl) (dl_at 0 29 lb_X12_kindOf_0 rfl) sg16_35
theorem dX12_kindOf_16 : decode cX12_kindOf 16 = .ok (.iconst 1, 1) := dx_4 (dl_at 0 16 lb_X12_kindOf_0 rfl)
theorem dX12_kindOf_17 : decode cX12_kindOf 17 = .ok (.goto 45, 3) := dx_167 (a := 0) (b := 45) (dl_at 0 17 lb_X12_kindOf_0 rfl) (dl_at 0 18 lb_X12_kindOf_0 rfl) (dl_at 0 19 lb_X12_kindOf_0 rfl) sg16_45
theorem dX12_kindOf_6 : decode cX12_kindOf 6 = .ok (.iconst 0, 1) := dx_3 (dl_at 0 6 lb_X12_kindOf_0 rfl)
theorem dX12_kindOf_7 : decode cX12_kindOf 7 = .ok (.goto 55, 3) := dx_167 (a := 0) (b := 55) (dl_at 0 7 lb_X12_kindOf_0 rfl) (dl_at 0 8 lb_X12_kindOf_0 rfl) (dl_at 0 9 lb_X12_kindOf_0 rfl) sg16_55
theorem lb_X12_readsBearer_0 : dl_ck (cX12_readsBearer.data.toList.drop 0) [42, 27, 182, 0, 115, 184, 0, 118, 61, 28, 16, 247, 159, 0, 19, 42, 180, 0, 121, 157, 0, 12, 42, 180, 0, 124, 16, 7, 160, 0, 5, 3] = true := by decide +kernel
theorem lb_X12_readsBearer_1 : dl_ck (cX12_readsBearer.data.toList.drop 32) [172, 42, 89, 180, 0, 112, 4, 96, 181, 0, 112, 3, 62, 3, 54, 4, 21, 4, 5, 162, 0, 50, 42, 27, 182, 0, 115, 16, 48, 16, 57, 184] = true := by decide +kernel
theorem lb_X12_readsBearer_2 : dl_ck (cX12_readsBearer.data.toList.drop 64) [0, 77, 154, 0, 5, 3, 172, 16, 10, 29, 104, 42, 27, 182, 0, 115, 96, 16, 48, 100, 62, 42, 89, 180, 0, 112, 4, 96, 181, 0, 112, 132] = true := by decide +kernel
theorem lb_X12_readsBearer_3 : dl_ck (cX12_readsBearer.data.toList.drop 96) [4, 1, 167, 255, 206, 42, 180, 0, 40, 42, 180, 0, 124, 28, 79, 42, 180, 0, 43, 42, 180, 0, 124, 29, 79, 42, 89, 180, 0, 124, 4, 96] = true := by decide +kernel
theorem lb_X12_readsBearer_4 : dl_ck (cX12_readsBearer.data.toList.drop 128) [181, 0, 124, 4, 172] = true := by decide +kernel
theorem dX12_readsBearer_0 : decode cX12_readsBearer 0 = .ok (.aload_n 0, 1) := dx_42 (dl_at 0 0 lb_X12_readsBearer_0 rfl)
theorem dX12_readsBearer_1 : decode cX12_readsBearer 1 = .ok (.iload_n 1, 1) := dx_27 (dl_at 0 1 lb_X12_readsBearer_0 rfl)
theorem dX12_readsBearer_2 : decode cX12_readsBearer 2 = .ok (.invokevirtual 115, 3) := dx_182 (a := 0) (b := 115) (dl_at 0 2 lb_X12_readsBearer_0 rfl) (dl_at 0 3 lb_X12_readsBearer_0 rfl) (dl_at 0 4 lb_X12_readsBearer_0 rfl) rfl
theorem dX12_readsBearer_5 : decode cX12_readsBearer 5 = .ok (.invokestatic 118, 3) := dx_184 (a := 0) (b := 118) (dl_at 0 5 lb_X12_readsBearer_0 rfl) (dl_at 0 6 lb_X12_readsBearer_0 rfl) (dl_at 0 7 lb_X12_readsBearer_0 rfl) rfl
theorem dX12_readsBearer_8 : decode cX12_readsBearer 8 = .ok (.istore_n 2, 1) := dx_61 (dl_at 0 8 lb_X12_readsBearer_0 rfl)
theorem dX12_readsBearer_9 : decode cX12_readsBearer 9 = .ok (.iload_n 2, 1) := dx_28 (dl_at 0 9 lb_X12_readsBearer_0 rfl)
theorem dX12_readsBearer_10 : decode cX12_readsBearer 10 = .ok (.bipush (-9), 2) := dx_16 (dl_at 0 10 lb_X12_readsBearer_0 rfl) (dl_at 0 11 lb_X12_readsBearer_0 rfl) sg8_247
theorem dX12_readsBearer_12 : decode cX12_readsBearer 12 = .ok (.if_icmp .eq 19, 3) := dx_159 (a := 0) (b := 19) (dl_at 0 12 lb_X12_readsBearer_0 rfl) (dl_at 0 13 lb_X12_readsBearer_0 rfl) (dl_at 0 14 lb_X12_readsBearer_0 rfl) sg16_19
theorem dX12_readsBearer_31 : decode cX12_readsBearer 31 = .ok (.iconst 0, 1) := dx_3 (dl_at 0 31 lb_X12_readsBearer_0 rfl)
theorem dX12_readsBearer_32 : decode cX12_readsBearer 32 = .ok (.ireturn, 1) := dx_172 (dl_at 32 0 lb_X12_readsBearer_1 rfl)
theorem dX12_readsBearer_15 : decode cX12_readsBearer 15 = .ok (.aload_n 0, 1) := dx_42 (dl_at 0 15 lb_X12_readsBearer_0 rfl)
theorem dX12_readsBearer_16 : decode cX12_readsBearer 16 = .ok (.getfield 121, 3) := dx_180 (a := 0) (b := 121) (dl_at 0 16 lb_X12_readsBearer_0 rfl) (dl_at 0 17 lb_X12_readsBearer_0 rfl) (dl_at 0 18 lb_X12_readsBearer_0 rfl) rfl
theorem dX12_readsBearer_19 : decode cX12_readsBearer 19 = .ok (.ifCond .gt 12, 3) := dx_157 (a := 0) (b := 12) (dl_at 0 19 lb_X12_readsBearer_0 rfl) (dl_at 0 20 lb_X12_readsBearer_0 rfl) (dl_at 0 21 lb_X12_readsBearer_0 rfl) sg16_12
theorem dX12_readsBearer_22 : decode cX12_readsBearer 22 = .ok (.aload_n 0, 1) := dx_42 (dl_at 0 22 lb_X12_readsBearer_0 rfl)
theorem dX12_readsBearer_23 : decode cX12_readsBearer 23 = .ok (.getfield 124, 3) := dx_180 (a := 0) (b := 124) (dl_at 0 23 lb_X12_readsBearer_0 rfl) (dl_at 0 24 lb_X12_readsBearer_0 rfl) (dl_at 0 25 lb_X12_readsBearer_0 rfl) rfl
theorem dX12_readsBearer_26 : decode cX12_readsBearer 26 = .ok (.bipush 7, 2) := dx_16 (dl_at 0 26 lb_X12_readsBearer_0 rfl) (dl_at 0 27 lb_X12_readsBearer_0 rfl) sg8_7
theorem dX12_readsBearer_28 : decode cX12_readsBearer 28 = .ok (.if_icmp .ne 5, 3) := dx_160 (a := 0) (b := 5) (dl_at 0 28 lb_X12_readsBearer_0 rfl) (dl_at 0 29 lb_X12_readsBearer_0 rfl) (dl_at 0 30 lb_X12_readsBearer_0 rfl) sg16_5
theorem dX12_readsBearer_33 : decode cX12_readsBearer 33 = .ok (.aload_n 0, 1) := dx_42 (dl_at 32 1 lb_X12_readsBearer_1 rfl)
theorem dX12_readsBearer_34 : decode cX12_readsBearer 34 = .ok (.dup, 1) := dx_89 (dl_at 32 2 lb_X12_readsBearer_1 rfl)
theorem dX12_readsBearer_35 : decode cX12_readsBearer 35 = .ok (.getfield 112, 3) := dx_180 (a := 0) (b := 112) (dl_at 32 3 lb_X12_readsBearer_1 rfl) (dl_at 32 4 lb_X12_readsBearer_1 rfl) (dl_at 32 5 lb_X12_readsBearer_1 rfl) rfl
theorem dX12_readsBearer_38 : decode cX12_readsBearer 38 = .ok (.iconst 1, 1) := dx_4 (dl_at 32 6 lb_X12_readsBearer_1 rfl)
theorem dX12_readsBearer_39 : decode cX12_readsBearer 39 = .ok (.iadd, 1) := dx_96 (dl_at 32 7 lb_X12_readsBearer_1 rfl)
theorem dX12_readsBearer_40 : decode cX12_readsBearer 40 = .ok (.putfield 112, 3) := dx_181 (a := 0) (b := 112) (dl_at 32 8 lb_X12_readsBearer_1 rfl) (dl_at 32 9 lb_X12_readsBearer_1 rfl) (dl_at 32 10 lb_X12_readsBearer_1 rfl) rfl
theorem dX12_readsBearer_43 : decode cX12_readsBearer 43 = .ok (.iconst 0, 1) := dx_3 (dl_at 32 11 lb_X12_readsBearer_1 rfl)
theorem dX12_readsBearer_44 : decode cX12_readsBearer 44 = .ok (.istore_n 3, 1) := dx_62 (dl_at 32 12 lb_X12_readsBearer_1 rfl)
theorem dX12_readsBearer_45 : decode cX12_readsBearer 45 = .ok (.iconst 0, 1) := dx_3 (dl_at 32 13 lb_X12_readsBearer_1 rfl)
theorem dX12_readsBearer_46 : decode cX12_readsBearer 46 = .ok (.istore 4, 2) := dx_54 (dl_at 32 14 lb_X12_readsBearer_1 rfl) (dl_at 32 15 lb_X12_readsBearer_1 rfl)
theorem dX12_readsBearer_48 : decode cX12_readsBearer 48 = .ok (.iload 4, 2) := dx_21 (dl_at 32 16 lb_X12_readsBearer_1 rfl) (dl_at 32 17 lb_X12_readsBearer_1 rfl)
theorem dX12_readsBearer_50 : decode cX12_readsBearer 50 = .ok (.iconst 2, 1) := dx_5 (dl_at 32 18 lb_X12_readsBearer_1 rfl)
theorem dX12_readsBearer_51 : decode cX12_readsBearer 51 = .ok (.if_icmp .ge 50, 3) := dx_162 (a := 0) (b := 50) (dl_at 32 19 lb_X12_readsBearer_1 rfl) (dl_at 32 20 lb_X12_readsBearer_1 rfl) (dl_at 32 21 lb_X12_readsBearer_1 rfl) sg16_50
theorem dX12_readsBearer_101 : decode cX12_readsBearer 101 = .ok (.aload_n 0, 1) := dx_42 (dl_at 96 5 lb_X12_readsBearer_3 rfl)
theorem dX12_readsBearer_102 : decode cX12_readsBearer 102 = .ok (.getfield 40, 3) := dx_180 (a := 0) (b := 40) (dl_at 96 6 lb_X12_readsBearer_3 rfl) (dl_at 96 7 lb_X12_readsBearer_3 rfl) (dl_at 96 8 lb_X12_readsBearer_3 rfl) rfl
theorem dX12_readsBearer_105 : decode cX12_readsBearer 105 = .ok (.aload_n 0, 1) := dx_42 (dl_at 96 9 lb_X12_readsBearer_3 rfl)
theorem dX12_readsBearer_106 : decode cX12_readsBearer 106 = .ok (.getfield 124, 3) := dx_180 (a := 0) (b := 124) (dl_at 96 10 lb_X12_readsBearer_3 rfl) (dl_at 96 11 lb_X12_readsBearer_3 rfl) (dl_at 96 12 lb_X12_readsBearer_3 rfl) rfl
theorem dX12_readsBearer_109 : decode cX12_readsBearer 109 = .ok (.iload_n 2, 1) := dx_28 (dl_at 96 13 lb_X12_readsBearer_3 rfl)
theorem dX12_readsBearer_110 : decode cX12_readsBearer 110 = .ok (.iastore, 1) := dx_79 (dl_at 96 14 lb_X12_readsBearer_3 rfl)
theorem dX12_readsBearer_111 : decode cX12_readsBearer 111 = .ok (.aload_n 0, 1) := dx_42 (dl_at 96 15 lb_X12_readsBearer_3 rfl)
theorem dX12_readsBearer_112 : decode cX12_readsBearer 112 = .ok (.getfield 43, 3) := dx_180 (a := 0) (b := 43) (dl_at 96 16 lb_X12_readsBearer_3 rfl) (dl_at 96 17 lb_X12_readsBearer_3 rfl) (dl_at 96 18 lb_X12_readsBearer_3 rfl) rfl
theorem dX12_readsBearer_115 : decode cX12_readsBearer 115 = .ok (.aload_n 0, 1) := dx_42 (dl_at 96 19 lb_X12_readsBearer_3 rfl)
theorem dX12_readsBearer_116 : decode cX12_readsBearer 116 = .ok (.getfield 124, 3) := dx_180 (a := 0) (b := 124) (dl_at 96 20 lb_X12_readsBearer_3 rfl) (dl_at 96 21 lb_X12_readsBearer_3 rfl) (dl_at 96 22 lb_X12_readsBearer_3 rfl) rfl
theorem dX12_readsBearer_119 : decode cX12_readsBearer 119 = .ok (.iload_n 3, 1) := dx_29 (dl_at 96 23 lb_X12_readsBearer_3 rfl)
theorem dX12_readsBearer_120 : decode cX12_readsBearer 120 = .ok (.iastore, 1) := dx_79 (dl_at 96 24 lb_X12_readsBearer_3 rfl)
theorem dX12_readsBearer_121 : decode cX12_readsBearer 121 = .ok (.aload_n 0, 1) := dx_42 (dl_at 96 25 lb_X12_readsBearer_3 rfl)
theorem dX12_readsBearer_122 : decode cX12_readsBearer 122 = .ok (.dup, 1) := dx_89 (dl_at 96 26 lb_X12_readsBearer_3 rfl)
theorem dX12_readsBearer_123 : decode cX12_readsBearer 123 = .ok (.getfield 124, 3) := dx_180 (a := 0) (b := 124) (dl_at 96 27 lb_X12_readsBearer_3 rfl) (dl_at 96 28 lb_X12_readsBearer_3 rfl) (dl_at 96 29 lb_X12_readsBearer_3 rfl) rfl
theorem dX12_readsBearer_126 : decode cX12_readsBearer 126 = .ok (.iconst 1, 1) := dx_4 (dl_at 96 30 lb_X12_readsBearer_3 rfl)
theorem dX12_readsBearer_127 : decode cX12_readsBearer 127 = .ok (.iadd, 1) := dx_96 (dl_at 96 31 lb_X12_readsBearer_3 rfl)
theorem dX12_readsBearer_128 : decode cX12_readsBearer 128 = .ok (.putfield 124, 3) := dx_181 (a := 0) (b := 124) (dl_at 128 0 lb_X12_readsBearer_4 rfl) (dl_at 128 1 lb_X12_readsBearer_4 rfl) (dl_at 128 2 lb_X12_readsBearer_4 rfl) rfl
theorem dX12_readsBearer_131 : decode cX12_readsBearer 131 = .ok (.iconst 1, 1) := dx_4 (dl_at 128 3 lb_X12_readsBearer_4 rfl)
theorem dX12_readsBearer_132 : decode cX12_readsBearer 132 = .ok (.ireturn, 1) := dx_172 (dl_at 128 4 lb_X12_readsBearer_4 rfl)
theorem dX12_readsBearer_54 : decode cX12_readsBearer 54 = .ok (.aload_n 0, 1) := dx_42 (dl_at 32 22 lb_X12_readsBearer_1 rfl)
theorem dX12_readsBearer_55 : decode cX12_readsBearer 55 = .ok (.iload_n 1, 1) := dx_27 (dl_at 32 23 lb_X12_readsBearer_1 rfl)
theorem dX12_readsBearer_56 : decode cX12_readsBearer 56 = .ok (.invokevirtual 115, 3) := dx_182 (a := 0) (b := 115) (dl_at 32 24 lb_X12_readsBearer_1 rfl) (dl_at 32 25 lb_X12_readsBearer_1 rfl) (dl_at 32 26 lb_X12_readsBearer_1 rfl) rfl
theorem dX12_readsBearer_59 : decode cX12_readsBearer 59 = .ok (.bipush 48, 2) := dx_16 (dl_at 32 27 lb_X12_readsBearer_1 rfl) (dl_at 32 28 lb_X12_readsBearer_1 rfl) sg8_48
theorem dX12_readsBearer_61 : decode cX12_readsBearer 61 = .ok (.bipush 57, 2) := dx_16 (dl_at 32 29 lb_X12_readsBearer_1 rfl) (dl_at 32 30 lb_X12_readsBearer_1 rfl) sg8_57
theorem dX12_readsBearer_63 : decode cX12_readsBearer 63 = .ok (.invokestatic 77, 3) := dx_184 (a := 0) (b := 77) (dl_at 32 31 lb_X12_readsBearer_1 rfl) (dl_at 64 0 lb_X12_readsBearer_2 rfl) (dl_at 64 1 lb_X12_readsBearer_2 rfl) rfl
theorem dX12_readsBearer_66 : decode cX12_readsBearer 66 = .ok (.ifCond .ne 5, 3) := dx_154 (a := 0) (b := 5) (dl_at 64 2 lb_X12_readsBearer_2 rfl) (dl_at 64 3 lb_X12_readsBearer_2 rfl) (dl_at 64 4 lb_X12_readsBearer_2 rfl) sg16_5
theorem dX12_readsBearer_71 : decode cX12_readsBearer 71 = .ok (.bipush 10, 2) := dx_16 (dl_at 64 7 lb_X12_readsBearer_2 rfl) (dl_at 64 8 lb_X12_readsBearer_2 rfl) sg8_10
theorem dX12_readsBearer_73 : decode cX12_readsBearer 73 = .ok (.iload_n 3, 1) := dx_29 (dl_at 64 9 lb_X12_readsBearer_2 rfl)
theorem dX12_readsBearer_74 : decode cX12_readsBearer 74 = .ok (.imul, 1) := dx_104 (dl_at 64 10 lb_X12_readsBearer_2 rfl)
theorem dX12_readsBearer_75 : decode cX12_readsBearer 75 = .ok (.aload_n 0, 1) := dx_42 (dl_at 64 11 lb_X12_readsBearer_2 rfl)
theorem dX12_readsBearer_76 : decode cX12_readsBearer 76 = .ok (.iload_n 1, 1) := dx_27 (dl_at 64 12 lb_X12_readsBearer_2 rfl)
theorem dX12_readsBearer_77 : decode cX12_readsBearer 77 = .ok (.invokevirtual 115, 3) := dx_182 (a := 0) (b := 115) (dl_at 64 13 lb_X12_readsBearer_2 rfl) (dl_at 64 14 lb_X12_readsBearer_2 rfl) (dl_at 64 15 lb_X12_readsBearer_2 rfl) rfl
theorem dX12_readsBearer_80 : decode cX12_readsBearer 80 = .ok (.iadd, 1) := dx_96 (dl_at 64 16 lb_X12_readsBearer_2 rfl)
theorem dX12_readsBearer_81 : decode cX12_readsBearer 81 = .ok (.bipush 48, 2) := dx_16 (dl_at 64 17 lb_X12_readsBearer_2 rfl) (dl_at 64 18 lb_X12_readsBearer_2 rfl) sg8_48
theorem dX12_readsBearer_83 : decode cX12_readsBearer 83 = .ok (.isub, 1) := dx_100 (dl_at 64 19 lb_X12_readsBearer_2 rfl)
theorem dX12_readsBearer_84 : decode cX12_readsBearer 84 = .ok (.istore_n 3, 1) := dx_62 (dl_at 64 20 lb_X12_readsBearer_2 rfl)
theorem dX12_readsBearer_85 : decode cX12_readsBearer 85 = .ok (.aload_n 0, 1) := dx_42 (dl_at 64 21 lb_X12_readsBearer_2 rfl)
theorem dX12_readsBearer_86 : decode cX12_readsBearer 86 = .ok (.dup, 1) := dx_89 (dl_at 64 22 lb_X12_readsBearer_2 rfl)
theorem dX12_readsBearer_87 : decode cX12_readsBearer 87 = .ok (.getfield 112, 3) := dx_180 (a := 0) (b := 112) (dl_at 64 23 lb_X12_readsBearer_2 rfl) (dl_at 64 24 lb_X12_readsBearer_2 rfl) (dl_at 64 25 lb_X12_readsBearer_2 rfl) rfl
theorem dX12_readsBearer_90 : decode cX12_readsBearer 90 = .ok (.iconst 1, 1) := dx_4 (dl_at 64 26 lb_X12_readsBearer_2 rfl)
theorem dX12_readsBearer_91 : decode cX12_readsBearer 91 = .ok (.iadd, 1) := dx_96 (dl_at 64 27 lb_X12_readsBearer_2 rfl)
theorem dX12_readsBearer_92 : decode cX12_readsBearer 92 = .ok (.putfield 112, 3) := dx_181 (a := 0) (b := 112) (dl_at 64 28 lb_X12_readsBearer_2 rfl) (dl_at 64 29 lb_X12_readsBearer_2 rfl) (dl_at 64 30 lb_X12_readsBearer_2 rfl) rfl
theorem dX12_readsBearer_95 : decode cX12_readsBearer 95 = .ok (.iinc 4 1, 3) := dx_132 (dl_at 64 31 lb_X12_readsBearer_2 rfl) (dl_at 96 0 lb_X12_readsBearer_3 rfl) (dl_at 96 1 lb_X12_readsBearer_3 rfl) sg8_1
theorem dX12_readsBearer_98 : decode cX12_readsBearer 98 = .ok (.goto (-50), 3) := dx_167 (a := 255) (b := 206) (dl_at 96 2 lb_X12_readsBearer_3 rfl) (dl_at 96 3 lb_X12_readsBearer_3 rfl) (dl_at 96 4 lb_X12_readsBearer_3 rfl) sg16_65486
theorem dX12_readsBearer_69 : decode cX12_readsBearer 69 = .ok (.iconst 0, 1) := dx_3 (dl_at 64 5 lb_X12_readsBearer_2 rfl)
theorem dX12_readsBearer_70 : decode cX12_readsBearer 70 = .ok (.ireturn, 1) := dx_172 (dl_at 64 6 lb_X12_readsBearer_2 rfl)
theorem lb_X12_readsPath_0 : dl_ck (cX12_readsPath.data.toList.drop 0) [42, 180, 0, 121, 16, 12, 160, 0, 5, 3, 172, 42, 89, 180, 0, 112, 4, 96, 181, 0, 112, 5, 42, 180, 0, 121, 104, 61, 3, 62, 29, 5] = true := by decide +kernel
theorem lb_X12_readsPath_1 : dl_ck (cX12_readsPath.data.toList.drop 32) [162, 0, 72, 42, 27, 182, 0, 115, 16, 48, 100, 54, 4, 21, 4, 3, 42, 180, 0, 124, 4, 100, 184, 0, 77, 153, 0, 19, 29, 4, 160, 0] = true := by decide +kernel
theorem lb_X12_readsPath_2 : dl_ck (cX12_readsPath.data.toList.drop 64) [16, 21, 4, 42, 180, 0, 46, 28, 46, 160, 0, 5, 3, 172, 42, 180, 0, 46, 28, 29, 96, 21, 4, 79, 42, 89, 180, 0, 112, 4, 96, 181] = true := by decide +kernel
theorem lb_X12_readsPath_3 : dl_ck (cX12_readsPath.data.toList.drop 96) [0, 112, 132, 3, 1, 167, 255, 185, 42, 89, 180, 0, 121, 4, 96, 181, 0, 121, 4, 172] = true := by decide +kernel
theorem dX12_readsPath_0 : decode cX12_readsPath 0 = .ok (.aload_n 0, 1) := dx_42 (dl_at 0 0 lb_X12_readsPath_0 rfl)
theorem dX12_readsPath_1 : decode cX12_readsPath 1 = .ok (.getfield 121, 3) := dx_180 (a := 0) (b := 121) (dl_at 0 1 lb_X12_readsPath_0 rfl) (dl_at 0 2 lb_X12_readsPath_0 rfl) (dl_at 0 3 lb_X12_readsPath_0 rfl) rfl
theorem dX12_readsPath_4 : decode cX12_readsPath 4 = .ok (.bipush 12, 2) := dx_16 (dl_at 0 4 lb_X12_readsPath_0 rfl) (dl_at 0 5 lb_X12_readsPath_0 rfl) sg8_12
theorem dX12_readsPath_6 : decode cX12_readsPath 6 = .ok (.if_icmp .ne 5, 3) := dx_160 (a := 0) (b := 5) (dl_at 0 6 lb_X12_readsPath_0 rfl) (dl_at 0 7 lb_X12_readsPath_0 rfl) (dl_at 0 8 lb_X12_readsPath_0 rfl) sg16_5
theorem dX12_readsPath_11 : decode cX12_readsPath 11 = .ok (.aload_n 0, 1) := dx_42 (dl_at 0 11 lb_X12_readsPath_0 rfl)
theorem dX12_readsPath_12 : decode cX12_readsPath 12 = .ok (.dup, 1) := dx_89 (dl_at 0 12 lb_X12_readsPath_0 rfl)
theorem dX12_readsPath_13 : decode cX12_readsPath 13 = .ok (.getfield 112, 3) := dx_180 (a := 0) (b := 112) (dl_at 0 13 lb_X12_readsPath_0 rfl) (dl_at 0 14 lb_X12_readsPath_0 rfl) (dl_at 0 15 lb_X12_readsPath_0 rfl) rfl
theorem dX12_readsPath_16 : decode cX12_readsPath 16 = .ok (.iconst 1, 1) := dx_4 (dl_at 0 16 lb_X12_readsPath_0 rfl)
theorem dX12_readsPath_17 : decode cX12_readsPath 17 = .ok (.iadd, 1) := dx_96 (dl_at 0 17 lb_X12_readsPath_0 rfl)
theorem dX12_readsPath_18 : decode cX12_readsPath 18 = .ok (.putfield 112, 3) := dx_181 (a := 0) (b := 112) (dl_at 0 18 lb_X12_readsPath_0 rfl) (dl_at 0 19 lb_X12_readsPath_0 rfl) (dl_at 0 20 lb_X12_readsPath_0 rfl) rfl
theorem dX12_readsPath_21 : decode cX12_readsPath 21 = .ok (.iconst 2, 1) := dx_5 (dl_at 0 21 lb_X12_readsPath_0 rfl)
theorem dX12_readsPath_22 : decode cX12_readsPath 22 = .ok (.aload_n 0, 1) := dx_42 (dl_at 0 22 lb_X12_readsPath_0 rfl)
theorem dX12_readsPath_23 : decode cX12_readsPath 23 = .ok (.getfield 121, 3) := dx_180 (a := 0) (b := 121) (dl_at 0 23 lb_X12_readsPath_0 rfl) (dl_at 0 24 lb_X12_readsPath_0 rfl) (dl_at 0 25 lb_X12_readsPath_0 rfl) rfl
theorem dX12_readsPath_26 : decode cX12_readsPath 26 = .ok (.imul, 1) := dx_104 (dl_at 0 26 lb_X12_readsPath_0 rfl)
theorem dX12_readsPath_27 : decode cX12_readsPath 27 = .ok (.istore_n 2, 1) := dx_61 (dl_at 0 27 lb_X12_readsPath_0 rfl)
theorem dX12_readsPath_28 : decode cX12_readsPath 28 = .ok (.iconst 0, 1) := dx_3 (dl_at 0 28 lb_X12_readsPath_0 rfl)
theorem dX12_readsPath_29 : decode cX12_readsPath 29 = .ok (.istore_n 3, 1) := dx_62 (dl_at 0 29 lb_X12_readsPath_0 rfl)
theorem dX12_readsPath_30 : decode cX12_readsPath 30 = .ok (.iload_n 3, 1) := dx_29 (dl_at 0 30 lb_X12_readsPath_0 rfl)
theorem dX12_readsPath_31 : decode cX12_readsPath 31 = .ok (.iconst 2, 1) := dx_5 (dl_at 0 31 lb_X12_readsPath_0 rfl)
theorem dX12_readsPath_32 : decode cX12_readsPath 32 = .ok (.if_icmp .ge 72, 3) := dx_162 (a := 0) (b := 72) (dl_at 32 0 lb_X12_readsPath_1 rfl) (dl_at 32 1 lb_X12_readsPath_1 rfl) (dl_at 32 2 lb_X12_readsPath_1 rfl) sg16_72
theorem dX12_readsPath_104 : decode cX12_readsPath 104 = .ok (.aload_n 0, 1) := dx_42 (dl_at 96 8 lb_X12_readsPath_3 rfl)
theorem dX12_readsPath_105 : decode cX12_readsPath 105 = .ok (.dup, 1) := dx_89 (dl_at 96 9 lb_X12_readsPath_3 rfl)
theorem dX12_readsPath_106 : decode cX12_readsPath 106 = .ok (.getfield 121, 3) := dx_180 (a := 0) (b := 121) (dl_at 96 10 lb_X12_readsPath_3 rfl) (dl_at 96 11 lb_X12_readsPath_3 rfl) (dl_at 96 12 lb_X12_readsPath_3 rfl) rfl
theorem dX12_readsPath_109 : decode cX12_readsPath 109 = .ok (.iconst 1, 1) := dx_4 (dl_at 96 13 lb_X12_readsPath_3 rfl)
theorem dX12_readsPath_110 : decode cX12_readsPath 110 = .ok (.iadd, 1) := dx_96 (dl_at 96 14 lb_X12_readsPath_3 rfl)
theorem dX12_readsPath_111 : decode cX12_readsPath 111 = .ok (.putfield 121, 3) := dx_181 (a := 0) (b := 121) (dl_at 96 15 lb_X12_readsPath_3 rfl) (dl_at 96 16 lb_X12_readsPath_3 rfl) (dl_at 96 17 lb_X12_readsPath_3 rfl) rfl
theorem dX12_readsPath_114 : decode cX12_readsPath 114 = .ok (.iconst 1, 1) := dx_4 (dl_at 96 18 lb_X12_readsPath_3 rfl)
theorem dX12_readsPath_115 : decode cX12_readsPath 115 = .ok (.ireturn, 1) := dx_172 (dl_at 96 19 lb_X12_readsPath_3 rfl)
theorem dX12_readsPath_35 : decode cX12_readsPath 35 = .ok (.aload_n 0, 1) := dx_42 (dl_at 32 3 lb_X12_readsPath_1 rfl)
theorem dX12_readsPath_36 : decode cX12_readsPath 36 = .ok (.iload_n 1, 1) := dx_27 (dl_at 32 4 lb_X12_readsPath_1 rfl)
theorem dX12_readsPath_37 : decode cX12_readsPath 37 = .ok (.invokevirtual 115, 3) := dx_182 (a := 0) (b := 115) (dl_at 32 5 lb_X12_readsPath_1 rfl) (dl_at 32 6 lb_X12_readsPath_1 rfl) (dl_at 32 7 lb_X12_readsPath_1 rfl) rfl
theorem dX12_readsPath_40 : decode cX12_readsPath 40 = .ok (.bipush 48, 2) := dx_16 (dl_at 32 8 lb_X12_readsPath_1 rfl) (dl_at 32 9 lb_X12_readsPath_1 rfl) sg8_48
theorem dX12_readsPath_42 : decode cX12_readsPath 42 = .ok (.isub, 1) := dx_100 (dl_at 32 10 lb_X12_readsPath_1 rfl)
theorem dX12_readsPath_43 : decode cX12_readsPath 43 = .ok (.istore 4, 2) := dx_54 (dl_at 32 11 lb_X12_readsPath_1 rfl) (dl_at 32 12 lb_X12_readsPath_1 rfl)
theorem dX12_readsPath_45 : decode cX12_readsPath 45 = .ok (.iload 4, 2) := dx_21 (dl_at 32 13 lb_X12_readsPath_1 rfl) (dl_at 32 14 lb_X12_readsPath_1 rfl)
theorem dX12_readsPath_47 : decode cX12_readsPath 47 = .ok (.iconst 0, 1) := dx_3 (dl_at 32 15 lb_X12_readsPath_1 rfl)
theorem dX12_readsPath_48 : decode cX12_readsPath 48 = .ok (.aload_n 0, 1) := dx_42 (dl_at 32 16 lb_X12_readsPath_1 rfl)
theorem dX12_readsPath_49 : decode cX12_readsPath 49 = .ok (.getfield 124, 3) := dx_180 (a := 0) (b := 124) (dl_at 32 17 lb_X12_readsPath_1 rfl) (dl_at 32 18 lb_X12_readsPath_1 rfl) (dl_at 32 19 lb_X12_readsPath_1 rfl) rfl
theorem dX12_readsPath_52 : decode cX12_readsPath 52 = .ok (.iconst 1, 1) := dx_4 (dl_at 32 20 lb_X12_readsPath_1 rfl)
theorem dX12_readsPath_53 : decode cX12_readsPath 53 = .ok (.isub, 1) := dx_100 (dl_at 32 21 lb_X12_readsPath_1 rfl)
theorem dX12_readsPath_54 : decode cX12_readsPath 54 = .ok (.invokestatic 77, 3) := dx_184 (a := 0) (b := 77) (dl_at 32 22 lb_X12_readsPath_1 rfl) (dl_at 32 23 lb_X12_readsPath_1 rfl) (dl_at 32 24 lb_X12_readsPath_1 rfl) rfl
theorem dX12_readsPath_57 : decode cX12_readsPath 57 = .ok (.ifCond .eq 19, 3) := dx_153 (a := 0) (b := 19) (dl_at 32 25 lb_X12_readsPath_1 rfl) (dl_at 32 26 lb_X12_readsPath_1 rfl) (dl_at 32 27 lb_X12_readsPath_1 rfl) sg16_19
theorem dX12_readsPath_60 : decode cX12_readsPath 60 = .ok (.iload_n 3, 1) := dx_29 (dl_at 32 28 lb_X12_readsPath_1 rfl)
theorem dX12_readsPath_61 : decode cX12_readsPath 61 = .ok (.iconst 1, 1) := dx_4 (dl_at 32 29 lb_X12_readsPath_1 rfl)
theorem dX12_readsPath_62 : decode cX12_readsPath 62 = .ok (.if_icmp .ne 16, 3) := dx_160 (a := 0) (b := 16) (dl_at 32 30 lb_X12_readsPath_1 rfl) (dl_at 32 31 lb_X12_readsPath_1 rfl) (dl_at 64 0 lb_X12_readsPath_2 rfl) sg16_16
theorem dX12_readsPath_78 : decode cX12_readsPath 78 = .ok (.aload_n 0, 1) := dx_42 (dl_at 64 14 lb_X12_readsPath_2 rfl)
theorem dX12_readsPath_79 : decode cX12_readsPath 79 = .ok (.getfield 46, 3) := dx_180 (a := 0) (b := 46) (dl_at 64 15 lb_X12_readsPath_2 rfl) (dl_at 64 16 lb_X12_readsPath_2 rfl) (dl_at 64 17 lb_X12_readsPath_2 rfl) rfl
theorem dX12_readsPath_82 : decode cX12_readsPath 82 = .ok (.iload_n 2, 1) := dx_28 (dl_at 64 18 lb_X12_readsPath_2 rfl)
theorem dX12_readsPath_83 : decode cX12_readsPath 83 = .ok (.iload_n 3, 1) := dx_29 (dl_at 64 19 lb_X12_readsPath_2 rfl)
theorem dX12_readsPath_84 : decode cX12_readsPath 84 = .ok (.iadd, 1) := dx_96 (dl_at 64 20 lb_X12_readsPath_2 rfl)
theorem dX12_readsPath_85 : decode cX12_readsPath 85 = .ok (.iload 4, 2) := dx_21 (dl_at 64 21 lb_X12_readsPath_2 rfl) (dl_at 64 22 lb_X12_readsPath_2 rfl)
theorem dX12_readsPath_87 : decode cX12_readsPath 87 = .ok (.iastore, 1) := dx_79 (dl_at 64 23 lb_X12_readsPath_2 rfl)
theorem dX12_readsPath_88 : decode cX12_readsPath 88 = .ok (.aload_n 0, 1) := dx_42 (dl_at 64 24 lb_X12_readsPath_2 rfl)
theorem dX12_readsPath_89 : decode cX12_readsPath 89 = .ok (.dup, 1) := dx_89 (dl_at 64 25 lb_X12_readsPath_2 rfl)
theorem dX12_readsPath_90 : decode cX12_readsPath 90 = .ok (.getfield 112, 3) := dx_180 (a := 0) (b := 112) (dl_at 64 26 lb_X12_readsPath_2 rfl) (dl_at 64 27 lb_X12_readsPath_2 rfl) (dl_at 64 28 lb_X12_readsPath_2 rfl) rfl
theorem dX12_readsPath_93 : decode cX12_readsPath 93 = .ok (.iconst 1, 1) := dx_4 (dl_at 64 29 lb_X12_readsPath_2 rfl)
theorem dX12_readsPath_94 : decode cX12_readsPath 94 = .ok (.iadd, 1) := dx_96 (dl_at 64 30 lb_X12_readsPath_2 rfl)
theorem dX12_readsPath_95 : decode cX12_readsPath 95 = .ok (.putfield 112, 3) := dx_181 (a := 0) (b := 112) (dl_at 64 31 lb_X12_readsPath_2 rfl) (dl_at 96 0 lb_X12_readsPath_3 rfl) (dl_at 96 1 lb_X12_readsPath_3 rfl) rfl
theorem dX12_readsPath_98 : decode cX12_readsPath 98 = .ok (.iinc 3 1, 3) := dx_132 (dl_at 96 2 lb_X12_readsPath_3 rfl) (dl_at 96 3 lb_X12_readsPath_3 rfl) (dl_at 96 4 lb_X12_readsPath_3 rfl) sg8_1
theorem dX12_readsPath_101 : decode cX12_readsPath 101 = .ok (.goto (-71), 3) := dx_167 (a := 255) (b := 185) (dl_at 96 5 lb_X12_readsPath_3 rfl) (dl_at 96 6 lb_X12_readsPath_3 rfl) (dl_at 96 7 lb_X12_readsPath_3 rfl) sg16_65465
theorem dX12_readsPath_65 : decode cX12_readsPath 65 = .ok (.iload 4, 2) := dx_21 (dl_at 64 1 lb_X12_readsPath_2 rfl) (dl_at 64 2 lb_X12_readsPath_2 rfl)
theorem dX12_readsPath_67 : decode cX12_readsPath 67 = .ok (.aload_n 0, 1) := dx_42 (dl_at 64 3 lb_X12_readsPath_2 rfl)
theorem dX12_readsPath_68 : decode cX12_readsPath 68 = .ok (.getfield 46, 3) := dx_180 (a := 0) (b := 46) (dl_at 64 4 lb_X12_readsPath_2 rfl) (dl_at 64 5 lb_X12_readsPath_2 rfl) (dl_at 64 6 lb_X12_readsPath_2 rfl) rfl
theorem dX12_readsPath_71 : decode cX12_readsPath 71 = .ok (.iload_n 2, 1) := dx_28 (dl_at 64 7 lb_X12_readsPath_2 rfl)
theorem dX12_readsPath_72 : decode cX12_readsPath 72 = .ok (.iaload, 1) := dx_46 (dl_at 64 8 lb_X12_readsPath_2 rfl)
theorem dX12_readsPath_73 : decode cX12_readsPath 73 = .ok (.if_icmp .ne 5, 3) := dx_160 (a := 0) (b := 5) (dl_at 64 9 lb_X12_readsPath_2 rfl) (dl_at 64 10 lb_X12_readsPath_2 rfl) (dl_at 64 11 lb_X12_readsPath_2 rfl) sg16_5
theorem dX12_readsPath_76 : decode cX12_readsPath 76 = .ok (.iconst 0, 1) := dx_3 (dl_at 64 12 lb_X12_readsPath_2 rfl)
theorem dX12_readsPath_77 : decode cX12_readsPath 77 = .ok (.ireturn, 1) := dx_172 (dl_at 64 13 lb_X12_readsPath_2 rfl)
theorem dX12_readsPath_9 : decode cX12_readsPath 9 = .ok (.iconst 0, 1) := dx_3 (dl_at 0 9 lb_X12_readsPath_0 rfl)
theorem dX12_readsPath_10 : decode cX12_readsPath 10 = .ok (.ireturn, 1) := dx_172 (dl_at 0 10 lb_X12_readsPath_0 rfl)
theorem lb_X12_goesOn_0 : dl_ck (cX12_goesOn.data.toList.drop 0) [42, 3, 181, 0, 112, 42, 3, 181, 0, 124, 42, 3, 181, 0, 121, 42, 180, 0, 112, 42, 180, 0, 22, 27, 46, 162, 0, 60, 42, 27, 182, 0] = true := by decide +kernel
theorem lb_X12_goesOn_1 : dl_ck (cX12_goesOn.data.toList.drop 32) [115, 16, 32, 160, 0, 16, 42, 89, 180, 0, 112, 4, 96, 181, 0, 112, 167, 255, 223, 42, 27, 182, 0, 115, 16, 119, 160, 0, 14, 42, 27, 182] = true := by decide +kernel
theorem lb_X12_goesOn_2 : dl_ck (cX12_goesOn.data.toList.drop 64) [0, 127, 154, 255, 205, 167, 0, 11, 42, 27, 182, 0, 130, 154, 255, 194, 42, 180, 0, 112, 172, 16, 247, 172] = true := by decide +kernel
theorem dX12_goesOn_0 : decode cX12_goesOn 0 = .ok (.aload_n 0, 1) := dx_42 (dl_at 0 0 lb_X12_goesOn_0 rfl)
theorem dX12_goesOn_1 : decode cX12_goesOn 1 = .ok (.iconst 0, 1) := dx_3 (dl_at 0 1 lb_X12_goesOn_0 rfl)
theorem dX12_goesOn_2 : decode cX12_goesOn 2 = .ok (.putfield 112, 3) := dx_181 (a := 0) (b := 112) (dl_at 0 2 lb_X12_goesOn_0 rfl) (dl_at 0 3 lb_X12_goesOn_0 rfl) (dl_at 0 4 lb_X12_goesOn_0 rfl) rfl
theorem dX12_goesOn_5 : decode cX12_goesOn 5 = .ok (.aload_n 0, 1) := dx_42 (dl_at 0 5 lb_X12_goesOn_0 rfl)
theorem dX12_goesOn_6 : decode cX12_goesOn 6 = .ok (.iconst 0, 1) := dx_3 (dl_at 0 6 lb_X12_goesOn_0 rfl)
theorem dX12_goesOn_7 : decode cX12_goesOn 7 = .ok (.putfield 124, 3) := dx_181 (a := 0) (b := 124) (dl_at 0 7 lb_X12_goesOn_0 rfl) (dl_at 0 8 lb_X12_goesOn_0 rfl) (dl_at 0 9 lb_X12_goesOn_0 rfl) rfl
theorem dX12_goesOn_10 : decode cX12_goesOn 10 = .ok (.aload_n 0, 1) := dx_42 (dl_at 0 10 lb_X12_goesOn_0 rfl)
theorem dX12_goesOn_11 : decode cX12_goesOn 11 = .ok (.iconst 0, 1) := dx_3 (dl_at 0 11 lb_X12_goesOn_0 rfl)
theorem dX12_goesOn_12 : decode cX12_goesOn 12 = .ok (.putfield 121, 3) := dx_181 (a := 0) (b := 121) (dl_at 0 12 lb_X12_goesOn_0 rfl) (dl_at 0 13 lb_X12_goesOn_0 rfl) (dl_at 0 14 lb_X12_goesOn_0 rfl) rfl
theorem dX12_goesOn_15 : decode cX12_goesOn 15 = .ok (.aload_n 0, 1) := dx_42 (dl_at 0 15 lb_X12_goesOn_0 rfl)
theorem dX12_goesOn_16 : decode cX12_goesOn 16 = .ok (.getfield 112, 3) := dx_180 (a := 0) (b := 112) (dl_at 0 16 lb_X12_goesOn_0 rfl) (dl_at 0 17 lb_X12_goesOn_0 rfl) (dl_at 0 18 lb_X12_goesOn_0 rfl) rfl
theorem dX12_goesOn_19 : decode cX12_goesOn 19 = .ok (.aload_n 0, 1) := dx_42 (dl_at 0 19 lb_X12_goesOn_0 rfl)
theorem dX12_goesOn_20 : decode cX12_goesOn 20 = .ok (.getfield 22, 3) := dx_180 (a := 0) (b := 22) (dl_at 0 20 lb_X12_goesOn_0 rfl) (dl_at 0 21 lb_X12_goesOn_0 rfl) (dl_at 0 22 lb_X12_goesOn_0 rfl) rfl
theorem dX12_goesOn_23 : decode cX12_goesOn 23 = .ok (.iload_n 1, 1) := dx_27 (dl_at 0 23 lb_X12_goesOn_0 rfl)
theorem dX12_goesOn_24 : decode cX12_goesOn 24 = .ok (.iaload, 1) := dx_46 (dl_at 0 24 lb_X12_goesOn_0 rfl)
theorem dX12_goesOn_25 : decode cX12_goesOn 25 = .ok (.if_icmp .ge 60, 3) := dx_162 (a := 0) (b := 60) (dl_at 0 25 lb_X12_goesOn_0 rfl) (dl_at 0 26 lb_X12_goesOn_0 rfl) (dl_at 0 27 lb_X12_goesOn_0 rfl) sg16_60
theorem dX12_goesOn_85 : decode cX12_goesOn 85 = .ok (.bipush (-9), 2) := dx_16 (dl_at 64 21 lb_X12_goesOn_2 rfl) (dl_at 64 22 lb_X12_goesOn_2 rfl) sg8_247
theorem dX12_goesOn_87 : decode cX12_goesOn 87 = .ok (.ireturn, 1) := dx_172 (dl_at 64 23 lb_X12_goesOn_2 rfl)
theorem dX12_goesOn_28 : decode cX12_goesOn 28 = .ok (.aload_n 0, 1) := dx_42 (dl_at 0 28 lb_X12_goesOn_0 rfl)
theorem dX12_goesOn_29 : decode cX12_goesOn 29 = .ok (.iload_n 1, 1) := dx_27 (dl_at 0 29 lb_X12_goesOn_0 rfl)
theorem dX12_goesOn_30 : decode cX12_goesOn 30 = .ok (.invokevirtual 115, 3) := dx_182 (a := 0) (b := 115) (dl_at 0 30 lb_X12_goesOn_0 rfl) (dl_at 0 31 lb_X12_goesOn_0 rfl) (dl_at 32 0 lb_X12_goesOn_1 rfl) rfl
theorem dX12_goesOn_33 : decode cX12_goesOn 33 = .ok (.bipush 32, 2) := dx_16 (dl_at 32 1 lb_X12_goesOn_1 rfl) (dl_at 32 2 lb_X12_goesOn_1 rfl) sg8_32
theorem dX12_goesOn_35 : decode cX12_goesOn 35 = .ok (.if_icmp .ne 16, 3) := dx_160 (a := 0) (b := 16) (dl_at 32 3 lb_X12_goesOn_1 rfl) (dl_at 32 4 lb_X12_goesOn_1 rfl) (dl_at 32 5 lb_X12_goesOn_1 rfl) sg16_16
theorem dX12_goesOn_51 : decode cX12_goesOn 51 = .ok (.aload_n 0, 1) := dx_42 (dl_at 32 19 lb_X12_goesOn_1 rfl)
theorem dX12_goesOn_52 : decode cX12_goesOn 52 = .ok (.iload_n 1, 1) := dx_27 (dl_at 32 20 lb_X12_goesOn_1 rfl)
theorem dX12_goesOn_53 : decode cX12_goesOn 53 = .ok (.invokevirtual 115, 3) := dx_182 (a := 0) (b := 115) (dl_at 32 21 lb_X12_goesOn_1 rfl) (dl_at 32 22 lb_X12_goesOn_1 rfl) (dl_at 32 23 lb_X12_goesOn_1 rfl) rfl
theorem dX12_goesOn_56 : decode cX12_goesOn 56 = .ok (.bipush 119, 2) := dx_16 (dl_at 32 24 lb_X12_goesOn_1 rfl) (dl_at 32 25 lb_X12_goesOn_1 rfl) sg8_119
theorem dX12_goesOn_58 : decode cX12_goesOn 58 = .ok (.if_icmp .ne 14, 3) := dx_160 (a := 0) (b := 14) (dl_at 32 26 lb_X12_goesOn_1 rfl) (dl_at 32 27 lb_X12_goesOn_1 rfl) (dl_at 32 28 lb_X12_goesOn_1 rfl) sg16_14
theorem dX12_goesOn_72 : decode cX12_goesOn 72 = .ok (.aload_n 0, 1) := dx_42 (dl_at 64 8 lb_X12_goesOn_2 rfl)
theorem dX12_goesOn_73 : decode cX12_goesOn 73 = .ok (.iload_n 1, 1) := dx_27 (dl_at 64 9 lb_X12_goesOn_2 rfl)
theorem dX12_goesOn_74 : decode cX12_goesOn 74 = .ok (.invokevirtual 130, 3) := dx_182 (a := 0) (b := 130) (dl_at 64 10 lb_X12_goesOn_2 rfl) (dl_at 64 11 lb_X12_goesOn_2 rfl) (dl_at 64 12 lb_X12_goesOn_2 rfl) rfl
theorem dX12_goesOn_77 : decode cX12_goesOn 77 = .ok (.ifCond .ne (-62), 3) := dx_154 (a := 255) (b := 194) (dl_at 64 13 lb_X12_goesOn_2 rfl) (dl_at 64 14 lb_X12_goesOn_2 rfl) (dl_at 64 15 lb_X12_goesOn_2 rfl) sg16_65474
theorem dX12_goesOn_80 : decode cX12_goesOn 80 = .ok (.aload_n 0, 1) := dx_42 (dl_at 64 16 lb_X12_goesOn_2 rfl)
theorem dX12_goesOn_81 : decode cX12_goesOn 81 = .ok (.getfield 112, 3) := dx_180 (a := 0) (b := 112) (dl_at 64 17 lb_X12_goesOn_2 rfl) (dl_at 64 18 lb_X12_goesOn_2 rfl) (dl_at 64 19 lb_X12_goesOn_2 rfl) rfl
theorem dX12_goesOn_84 : decode cX12_goesOn 84 = .ok (.ireturn, 1) := dx_172 (dl_at 64 20 lb_X12_goesOn_2 rfl)
theorem dX12_goesOn_61 : decode cX12_goesOn 61 = .ok (.aload_n 0, 1) := dx_42 (dl_at 32 29 lb_X12_goesOn_1 rfl)
theorem dX12_goesOn_62 : decode cX12_goesOn 62 = .ok (.iload_n 1, 1) := dx_27 (dl_at 32 30 lb_X12_goesOn_1 rfl)
theorem dX12_goesOn_63 : decode cX12_goesOn 63 = .ok (.invokevirtual 127, 3) := dx_182 (a := 0) (b := 127) (dl_at 32 31 lb_X12_goesOn_1 rfl) (dl_at 64 0 lb_X12_goesOn_2 rfl) (dl_at 64 1 lb_X12_goesOn_2 rfl) rfl
theorem dX12_goesOn_66 : decode cX12_goesOn 66 = .ok (.ifCond .ne (-51), 3) := dx_154 (a := 255) (b := 205) (dl_at 64 2 lb_X12_goesOn_2 rfl) (dl_at 64 3 lb_X12_goesOn_2 rfl) (dl_at 64 4 lb_X12_goesOn_2 rfl) sg16_65485
theorem dX12_goesOn_69 : decode cX12_goesOn 69 = .ok (.goto 11, 3) := dx_167 (a := 0) (b := 11) (dl_at 64 5 lb_X12_goesOn_2 rfl) (dl_at 64 6 lb_X12_goesOn_2 rfl) (dl_at 64 7 lb_X12_goesOn_2 rfl) sg16_11
theorem dX12_goesOn_38 : decode cX12_goesOn 38 = .ok (.aload_n 0, 1) := dx_42 (dl_at 32 6 lb_X12_goesOn_1 rfl)
theorem dX12_goesOn_39 : decode cX12_goesOn 39 = .ok (.dup, 1) := dx_89 (dl_at 32 7 lb_X12_goesOn_1 rfl)
theorem dX12_goesOn_40 : decode cX12_goesOn 40 = .ok (.getfield 112, 3) := dx_180 (a := 0) (b := 112) (dl_at 32 8 lb_X12_goesOn_1 rfl) (dl_at 32 9 lb_X12_goesOn_1 rfl) (dl_at 32 10 lb_X12_goesOn_1 rfl) rfl
theorem dX12_goesOn_43 : decode cX12_goesOn 43 = .ok (.iconst 1, 1) := dx_4 (dl_at 32 11 lb_X12_goesOn_1 rfl)
theorem dX12_goesOn_44 : decode cX12_goesOn 44 = .ok (.iadd, 1) := dx_96 (dl_at 32 12 lb_X12_goesOn_1 rfl)
theorem dX12_goesOn_45 : decode cX12_goesOn 45 = .ok (.putfield 112, 3) := dx_181 (a := 0) (b := 112) (dl_at 32 13 lb_X12_goesOn_1 rfl) (dl_at 32 14 lb_X12_goesOn_1 rfl) (dl_at 32 15 lb_X12_goesOn_1 rfl) rfl
theorem dX12_goesOn_48 : decode cX12_goesOn 48 = .ok (.goto (-33), 3) := dx_167 (a := 255) (b := 223) (dl_at 32 16 lb_X12_goesOn_1 rfl) (dl_at 32 17 lb_X12_goesOn_1 rfl) (dl_at 32 18 lb_X12_goesOn_1 rfl) sg16_65503
theorem lb_X12_fault_0 : dl_ck (cX12_fault.data.toList.drop 0) [42, 27, 182, 0, 109, 61, 28, 156, 0, 7, 28, 167, 0, 8, 42, 27, 182, 0, 133, 172] = true := by decide +kernel
theorem dX12_fault_0 : decode cX12_fault 0 = .ok (.aload_n 0, 1) := dx_42 (dl_at 0 0 lb_X12_fault_0 rfl)
theorem dX12_fault_1 : decode cX12_fault 1 = .ok (.iload_n 1, 1) := dx_27 (dl_at 0 1 lb_X12_fault_0 rfl)
theorem dX12_fault_2 : decode cX12_fault 2 = .ok (.invokevirtual 109, 3) := dx_182 (a := 0) (b := 109) (dl_at 0 2 lb_X12_fault_0 rfl) (dl_at 0 3 lb_X12_fault_0 rfl) (dl_at 0 4 lb_X12_fault_0 rfl) rfl
theorem dX12_fault_5 : decode cX12_fault 5 = .ok (.istore_n 2, 1) := dx_61 (dl_at 0 5 lb_X12_fault_0 rfl)
theorem dX12_fault_6 : decode cX12_fault 6 = .ok (.iload_n 2, 1) := dx_28 (dl_at 0 6 lb_X12_fault_0 rfl)
theorem dX12_fault_7 : decode cX12_fault 7 = .ok (.ifCond .ge 7, 3) := dx_156 (a := 0) (b := 7) (dl_at 0 7 lb_X12_fault_0 rfl) (dl_at 0 8 lb_X12_fault_0 rfl) (dl_at 0 9 lb_X12_fault_0 rfl) sg16_7
theorem dX12_fault_14 : decode cX12_fault 14 = .ok (.aload_n 0, 1) := dx_42 (dl_at 0 14 lb_X12_fault_0 rfl)
theorem dX12_fault_15 : decode cX12_fault 15 = .ok (.iload_n 1, 1) := dx_27 (dl_at 0 15 lb_X12_fault_0 rfl)
theorem dX12_fault_16 : decode cX12_fault 16 = .ok (.invokevirtual 133, 3) := dx_182 (a := 0) (b := 133) (dl_at 0 16 lb_X12_fault_0 rfl) (dl_at 0 17 lb_X12_fault_0 rfl) (dl_at 0 18 lb_X12_fault_0 rfl) rfl
theorem dX12_fault_19 : decode cX12_fault 19 = .ok (.ireturn, 1) := dx_172 (dl_at 0 19 lb_X12_fault_0 rfl)
theorem dX12_fault_10 : decode cX12_fault 10 = .ok (.iload_n 2, 1) := dx_28 (dl_at 0 10 lb_X12_fault_0 rfl)
theorem dX12_fault_11 : decode cX12_fault 11 = .ok (.goto 8, 3) := dx_167 (a := 0) (b := 8) (dl_at 0 11 lb_X12_fault_0 rfl) (dl_at 0 12 lb_X12_fault_0 rfl) (dl_at 0 13 lb_X12_fault_0 rfl) sg16_8
theorem lb_X12_town_0 : dl_ck (cX12_town.data.toList.drop 0) [42, 27, 182, 0, 109, 61, 28, 156, 0, 5, 28, 172, 42, 27, 182, 0, 133, 16, 247, 159, 0, 6, 16, 252, 172, 42, 42, 180, 0, 124, 181, 0] = true := by decide +kernel
theorem lb_X12_town_1 : dl_ck (cX12_town.data.toList.drop 32) [136, 42, 42, 180, 0, 121, 181, 0, 139, 3, 62, 29, 16, 7, 162, 0, 33, 42, 180, 0, 28, 29, 42, 180, 0, 40, 29, 46, 79, 42, 180, 0] = true := by decide +kernel
theorem lb_X12_town_2 : dl_ck (cX12_town.data.toList.drop 64) [31, 29, 42, 180, 0, 43, 29, 46, 79, 132, 3, 1, 167, 255, 223, 3, 62, 29, 16, 24, 162, 0, 21, 42, 180, 0, 34, 29, 42, 180, 0, 46] = true := by decide +kernel
theorem lb_X12_town_3 : dl_ck (cX12_town.data.toList.drop 96) [29, 46, 79, 132, 3, 1, 167, 255, 235, 42, 3, 181, 0, 142, 42, 3, 181, 0, 145, 42, 3, 181, 0, 148, 42, 3, 181, 0, 151, 3, 62, 29] = true := by decide +kernel
theorem lb_X12_town_4 : dl_ck (cX12_town.data.toList.drop 128) [6, 162, 0, 20, 42, 180, 0, 52, 16, 64, 29, 104, 16, 247, 79, 132, 3, 1, 167, 255, 237, 42, 180, 0, 136, 172] = true := by decide +kernel
theorem dX12_town_0 : decode cX12_town 0 = .ok (.aload_n 0, 1) := dx_42 (dl_at 0 0 lb_X12_town_0 rfl)
theorem dX12_town_1 : decode cX12_town 1 = .ok (.iload_n 1, 1) := dx_27 (dl_at 0 1 lb_X12_town_0 rfl)
theorem dX12_town_2 : decode cX12_town 2 = .ok (.invokevirtual 109, 3) := dx_182 (a := 0) (b := 109) (dl_at 0 2 lb_X12_town_0 rfl) (dl_at 0 3 lb_X12_town_0 rfl) (dl_at 0 4 lb_X12_town_0 rfl) rfl
theorem dX12_town_5 : decode cX12_town 5 = .ok (.istore_n 2, 1) := dx_61 (dl_at 0 5 lb_X12_town_0 rfl)
theorem dX12_town_6 : decode cX12_town 6 = .ok (.iload_n 2, 1) := dx_28 (dl_at 0 6 lb_X12_town_0 rfl)
theorem dX12_town_7 : decode cX12_town 7 = .ok (.ifCond .ge 5, 3) := dx_156 (a := 0) (b := 5) (dl_at 0 7 lb_X12_town_0 rfl) (dl_at 0 8 lb_X12_town_0 rfl) (dl_at 0 9 lb_X12_town_0 rfl) sg16_5
theorem dX12_town_12 : decode cX12_town 12 = .ok (.aload_n 0, 1) := dx_42 (dl_at 0 12 lb_X12_town_0 rfl)
theorem dX12_town_13 : decode cX12_town 13 = .ok (.iload_n 1, 1) := dx_27 (dl_at 0 13 lb_X12_town_0 rfl)
theorem dX12_town_14 : decode cX12_town 14 = .ok (.invokevirtual 133, 3) := dx_182 (a := 0) (b := 133) (dl_at 0 14 lb_X12_town_0 rfl) (dl_at 0 15 lb_X12_town_0 rfl) (dl_at 0 16 lb_X12_town_0 rfl) rfl
theorem dX12_town_17 : decode cX12_town 17 = .ok (.bipush (-9), 2) := dx_16 (dl_at 0 17 lb_X12_town_0 rfl) (dl_at 0 18 lb_X12_town_0 rfl) sg8_247
theorem dX12_town_19 : decode cX12_town 19 = .ok (.if_icmp .eq 6, 3) := dx_159 (a := 0) (b := 6) (dl_at 0 19 lb_X12_town_0 rfl) (dl_at 0 20 lb_X12_town_0 rfl) (dl_at 0 21 lb_X12_town_0 rfl) sg16_6
theorem dX12_town_25 : decode cX12_town 25 = .ok (.aload_n 0, 1) := dx_42 (dl_at 0 25 lb_X12_town_0 rfl)
theorem dX12_town_26 : decode cX12_town 26 = .ok (.aload_n 0, 1) := dx_42 (dl_at 0 26 lb_X12_town_0 rfl)
theorem dX12_town_27 : decode cX12_town 27 = .ok (.getfield 124, 3) := dx_180 (a := 0) (b := 124) (dl_at 0 27 lb_X12_town_0 rfl) (dl_at 0 28 lb_X12_town_0 rfl) (dl_at 0 29 lb_X12_town_0 rfl) rfl
theorem dX12_town_30 : decode cX12_town 30 = .ok (.putfield 136, 3) := dx_181 (a := 0) (b := 136) (dl_at 0 30 lb_X12_town_0 rfl) (dl_at 0 31 lb_X12_town_0 rfl) (dl_at 32 0 lb_X12_town_1 rfl) rfl
theorem dX12_town_33 : decode cX12_town 33 = .ok (.aload_n 0, 1) := dx_42 (dl_at 32 1 lb_X12_town_1 rfl)
theorem dX12_town_34 : decode cX12_town 34 = .ok (.aload_n 0, 1) := dx_42 (dl_at 32 2 lb_X12_town_1 rfl)
theorem dX12_town_35 : decode cX12_town 35 = .ok (.getfield 121, 3) := dx_180 (a := 0) (b := 121) (dl_at 32 3 lb_X12_town_1 rfl) (dl_at 32 4 lb_X12_town_1 rfl) (dl_at 32 5 lb_X12_town_1 rfl) rfl
theorem dX12_town_38 : decode cX12_town 38 = .ok (.putfield 139, 3) := dx_181 (a := 0) (b := 139) (dl_at 32 6 lb_X12_town_1 rfl) (dl_at 32 7 lb_X12_town_1 rfl) (dl_at 32 8 lb_X12_town_1 rfl) rfl
theorem dX12_town_41 : decode cX12_town 41 = .ok (.iconst 0, 1) := dx_3 (dl_at 32 9 lb_X12_town_1 rfl)
theorem dX12_town_42 : decode cX12_town 42 = .ok (.istore_n 3, 1) := dx_62 (dl_at 32 10 lb_X12_town_1 rfl)
theorem dX12_town_43 : decode cX12_town 43 = .ok (.iload_n 3, 1) := dx_29 (dl_at 32 11 lb_X12_town_1 rfl)
theorem dX12_town_44 : decode cX12_town 44 = .ok (.bipush 7, 2) := dx_16 (dl_at 32 12 lb_X12_town_1 rfl) (dl_at 32 13 lb_X12_town_1 rfl) sg8_7
theorem dX12_town_46 : decode cX12_town 46 = .ok (.if_icmp .ge 33, 3) := dx_162 (a := 0) (b := 33) (dl_at 32 14 lb_X12_town_1 rfl) (dl_at 32 15 lb_X12_town_1 rfl) (dl_at 32 16 lb_X12_town_1 rfl) sg16_33
theorem dX12_town_79 : decode cX12_town 79 = .ok (.iconst 0, 1) := dx_3 (dl_at 64 15 lb_X12_town_2 rfl)
theorem dX12_town_80 : decode cX12_town 80 = .ok (.istore_n 3, 1) := dx_62 (dl_at 64 16 lb_X12_town_2 rfl)
theorem dX12_town_81 : decode cX12_town 81 = .ok (.iload_n 3, 1) := dx_29 (dl_at 64 17 lb_X12_town_2 rfl)
theorem dX12_town_82 : decode cX12_town 82 = .ok (.bipush 24, 2) := dx_16 (dl_at 64 18 lb_X12_town_2 rfl) (dl_at 64 19 lb_X12_town_2 rfl) sg8_24
theorem dX12_town_84 : decode cX12_town 84 = .ok (.if_icmp .ge 21, 3) := dx_162 (a := 0) (b := 21) (dl_at 64 20 lb_X12_town_2 rfl) (dl_at 64 21 lb_X12_town_2 rfl) (dl_at 64 22 lb_X12_town_2 rfl) sg16_21
theorem dX12_town_105 : decode cX12_town 105 = .ok (.aload_n 0, 1) := dx_42 (dl_at 96 9 lb_X12_town_3 rfl)
theorem dX12_town_106 : decode cX12_town 106 = .ok (.iconst 0, 1) := dx_3 (dl_at 96 10 lb_X12_town_3 rfl)
theorem dX12_town_107 : decode cX12_town 107 = .ok (.putfield 142, 3) := dx_181 (a := 0) (b := 142) (dl_at 96 11 lb_X12_town_3 rfl) (dl_at 96 12 lb_X12_town_3 rfl) (dl_at 96 13 lb_X12_town_3 rfl) rfl
theorem dX12_town_110 : decode cX12_town 110 = .ok (.aload_n 0, 1) := dx_42 (dl_at 96 14 lb_X12_town_3 rfl)
theorem dX12_town_111 : decode cX12_town 111 = .ok (.iconst 0, 1) := dx_3 (dl_at 96 15 lb_X12_town_3 rfl)
theorem dX12_town_112 : decode cX12_town 112 = .ok (.putfield 145, 3) := dx_181 (a := 0) (b := 145) (dl_at 96 16 lb_X12_town_3 rfl) (dl_at 96 17 lb_X12_town_3 rfl) (dl_at 96 18 lb_X12_town_3 rfl) rfl
theorem dX12_town_115 : decode cX12_town 115 = .ok (.aload_n 0, 1) := dx_42 (dl_at 96 19 lb_X12_town_3 rfl)
theorem dX12_town_116 : decode cX12_town 116 = .ok (.iconst 0, 1) := dx_3 (dl_at 96 20 lb_X12_town_3 rfl)
theorem dX12_town_117 : decode cX12_town 117 = .ok (.putfield 148, 3) := dx_181 (a := 0) (b := 148) (dl_at 96 21 lb_X12_town_3 rfl) (dl_at 96 22 lb_X12_town_3 rfl) (dl_at 96 23 lb_X12_town_3 rfl) rfl
theorem dX12_town_120 : decode cX12_town 120 = .ok (.aload_n 0, 1) := dx_42 (dl_at 96 24 lb_X12_town_3 rfl)
theorem dX12_town_121 : decode cX12_town 121 = .ok (.iconst 0, 1) := dx_3 (dl_at 96 25 lb_X12_town_3 rfl)
theorem dX12_town_122 : decode cX12_town 122 = .ok (.putfield 151, 3) := dx_181 (a := 0) (b := 151) (dl_at 96 26 lb_X12_town_3 rfl) (dl_at 96 27 lb_X12_town_3 rfl) (dl_at 96 28 lb_X12_town_3 rfl) rfl
theorem dX12_town_125 : decode cX12_town 125 = .ok (.iconst 0, 1) := dx_3 (dl_at 96 29 lb_X12_town_3 rfl)
theorem dX12_town_126 : decode cX12_town 126 = .ok (.istore_n 3, 1) := dx_62 (dl_at 96 30 lb_X12_town_3 rfl)
theorem dX12_town_127 : decode cX12_town 127 = .ok (.iload_n 3, 1) := dx_29 (dl_at 96 31 lb_X12_town_3 rfl)
theorem dX12_town_128 : decode cX12_town 128 = .ok (.iconst 3, 1) := dx_6 (dl_at 128 0 lb_X12_town_4 rfl)
theorem dX12_town_129 : decode cX12_town 129 = .ok (.if_icmp .ge 20, 3) := dx_162 (a := 0) (b := 20) (dl_at 128 1 lb_X12_town_4 rfl) (dl_at 128 2 lb_X12_town_4 rfl) (dl_at 128 3 lb_X12_town_4 rfl) sg16_20
theorem dX12_town_149 : decode cX12_town 149 = .ok (.aload_n 0, 1) := dx_42 (dl_at 128 21 lb_X12_town_4 rfl)
theorem dX12_town_150 : decode cX12_town 150 = .ok (.getfield 136, 3) := dx_180 (a := 0) (b := 136) (dl_at 128 22 lb_X12_town_4 rfl) (dl_at 128 23 lb_X12_town_4 rfl) (dl_at 128 24 lb_X12_town_4 rfl) rfl
theorem dX12_town_153 : decode cX12_town 153 = .ok (.ireturn, 1) := dx_172 (dl_at 128 25 lb_X12_town_4 rfl)
theorem dX12_town_132 : decode cX12_town 132 = .ok (.aload_n 0, 1) := dx_42 (dl_at 128 4 lb_X12_town_4 rfl)
theorem dX12_town_133 : decode cX12_town 133 = .ok (.getfield 52, 3) := dx_180 (a := 0) (b := 52) (dl_at 128 5 lb_X12_town_4 rfl) (dl_at 128 6 lb_X12_town_4 rfl) (dl_at 128 7 lb_X12_town_4 rfl) rfl
theorem dX12_town_136 : decode cX12_town 136 = .ok (.bipush 64, 2) := dx_16 (dl_at 128 8 lb_X12_town_4 rfl) (dl_at 128 9 lb_X12_town_4 rfl) sg8_64
theorem dX12_town_138 : decode cX12_town 138 = .ok (.iload_n 3, 1) := dx_29 (dl_at 128 10 lb_X12_town_4 rfl)
theorem dX12_town_139 : decode cX12_town 139 = .ok (.imul, 1) := dx_104 (dl_at 128 11 lb_X12_town_4 rfl)
theorem dX12_town_140 : decode cX12_town 140 = .ok (.bipush (-9), 2) := dx_16 (dl_at 128 12 lb_X12_town_4 rfl) (dl_at 128 13 lb_X12_town_4 rfl) sg8_247
theorem dX12_town_142 : decode cX12_town 142 = .ok (.iastore, 1) := dx_79 (dl_at 128 14 lb_X12_town_4 rfl)
theorem dX12_town_143 : decode cX12_town 143 = .ok (.iinc 3 1, 3) := dx_132 (dl_at 128 15 lb_X12_town_4 rfl) (dl_at 128 16 lb_X12_town_4 rfl) (dl_at 128 17 lb_X12_town_4 rfl) sg8_1
theorem dX12_town_146 : decode cX12_town 146 = .ok (.goto (-19), 3) := dx_167 (a := 255) (b := 237) (dl_at 128 18 lb_X12_town_4 rfl) (dl_at 128 19 lb_X12_town_4 rfl) (dl_at 128 20 lb_X12_town_4 rfl) sg16_65517
theorem dX12_town_87 : decode cX12_town 87 = .ok (.aload_n 0, 1) := dx_42 (dl_at 64 23 lb_X12_town_2 rfl)
theorem dX12_town_88 : decode cX12_town 88 = .ok (.getfield 34, 3) := dx_180 (a := 0) (b := 34) (dl_at 64 24 lb_X12_town_2 rfl) (dl_at 64 25 lb_X12_town_2 rfl) (dl_at 64 26 lb_X12_town_2 rfl) rfl
theorem dX12_town_91 : decode cX12_town 91 = .ok (.iload_n 3, 1) := dx_29 (dl_at 64 27 lb_X12_town_2 rfl)
theorem dX12_town_92 : decode cX12_town 92 = .ok (.aload_n 0, 1) := dx_42 (dl_at 64 28 lb_X12_town_2 rfl)
theorem dX12_town_93 : decode cX12_town 93 = .ok (.getfield 46, 3) := dx_180 (a := 0) (b := 46) (dl_at 64 29 lb_X12_town_2 rfl) (dl_at 64 30 lb_X12_town_2 rfl) (dl_at 64 31 lb_X12_town_2 rfl) rfl
theorem dX12_town_96 : decode cX12_town 96 = .ok (.iload_n 3, 1) := dx_29 (dl_at 96 0 lb_X12_town_3 rfl)
theorem dX12_town_97 : decode cX12_town 97 = .ok (.iaload, 1) := dx_46 (dl_at 96 1 lb_X12_town_3 rfl)
theorem dX12_town_98 : decode cX12_town 98 = .ok (.iastore, 1) := dx_79 (dl_at 96 2 lb_X12_town_3 rfl)
theorem dX12_town_99 : decode cX12_town 99 = .ok (.iinc 3 1, 3) := dx_132 (dl_at 96 3 lb_X12_town_3 rfl) (dl_at 96 4 lb_X12_town_3 rfl) (dl_at 96 5 lb_X12_town_3 rfl) sg8_1
theorem dX12_town_102 : decode cX12_town 102 = .ok (.goto (-21), 3) := dx_167 (a := 255) (b := 235) (dl_at 96 6 lb_X12_town_3 rfl) (dl_at 96 7 lb_X12_town_3 rfl) (dl_at 96 8 lb_X12_town_3 rfl) sg16_65515
theorem dX12_town_49 : decode cX12_town 49 = .ok (.aload_n 0, 1) := dx_42 (dl_at 32 17 lb_X12_town_1 rfl)
theorem dX12_town_50 : decode cX12_town 50 = .ok (.getfield 28, 3) := dx_180 (a := 0) (b := 28) (dl_at 32 18 lb_X12_town_1 rfl) (dl_at 32 19 lb_X12_town_1 rfl) (dl_at 32 20 lb_X12_town_1 rfl) rfl
theorem dX12_town_53 : decode cX12_town 53 = .ok (.iload_n 3, 1) := dx_29 (dl_at 32 21 lb_X12_town_1 rfl)
theorem dX12_town_54 : decode cX12_town 54 = .ok (.aload_n 0, 1) := dx_42 (dl_at 32 22 lb_X12_town_1 rfl)
theorem dX12_town_55 : decode cX12_town 55 = .ok (.getfield 40, 3) := dx_180 (a := 0) (b := 40) (dl_at 32 23 lb_X12_town_1 rfl) (dl_at 32 24 lb_X12_town_1 rfl) (dl_at 32 25 lb_X12_town_1 rfl) rfl
theorem dX12_town_58 : decode cX12_town 58 = .ok (.iload_n 3, 1) := dx_29 (dl_at 32 26 lb_X12_town_1 rfl)
theorem dX12_town_59 : decode cX12_town 59 = .ok (.iaload, 1) := dx_46 (dl_at 32 27 lb_X12_town_1 rfl)
theorem dX12_town_60 : decode cX12_town 60 = .ok (.iastore, 1) := dx_79 (dl_at 32 28 lb_X12_town_1 rfl)
theorem dX12_town_61 : decode cX12_town 61 = .ok (.aload_n 0, 1) := dx_42 (dl_at 32 29 lb_X12_town_1 rfl)
theorem dX12_town_62 : decode cX12_town 62 = .ok (.getfield 31, 3) := dx_180 (a := 0) (b := 31) (dl_at 32 30 lb_X12_town_1 rfl) (dl_at 32 31 lb_X12_town_1 rfl) (dl_at 64 0 lb_X12_town_2 rfl) rfl
theorem dX12_town_65 : decode cX12_town 65 = .ok (.iload_n 3, 1) := dx_29 (dl_at 64 1 lb_X12_town_2 rfl)
theorem dX12_town_66 : decode cX12_town 66 = .ok (.aload_n 0, 1) := dx_42 (dl_at 64 2 lb_X12_town_2 rfl)
theorem dX12_town_67 : decode cX12_town 67 = .ok (.getfield 43, 3) := dx_180 (a := 0) (b := 43) (dl_at 64 3 lb_X12_town_2 rfl) (dl_at 64 4 lb_X12_town_2 rfl) (dl_at 64 5 lb_X12_town_2 rfl) rfl
theorem dX12_town_70 : decode cX12_town 70 = .ok (.iload_n 3, 1) := dx_29 (dl_at 64 6 lb_X12_town_2 rfl)
theorem dX12_town_71 : decode cX12_town 71 = .ok (.iaload, 1) := dx_46 (dl_at 64 7 lb_X12_town_2 rfl)
theorem dX12_town_72 : decode cX12_town 72 = .ok (.iastore, 1) := dx_79 (dl_at 64 8 lb_X12_town_2 rfl)
theorem dX12_town_73 : decode cX12_town 73 = .ok (.iinc 3 1, 3) := dx_132 (dl_at 64 9 lb_X12_town_2 rfl) (dl_at 64 10 lb_X12_town_2 rfl) (dl_at 64 11 lb_X12_town_2 rfl) sg8_1
theorem dX12_town_76 : decode cX12_town 76 = .ok (.goto (-33), 3) := dx_167 (a := 255) (b := 223) (dl_at 64 12 lb_X12_town_2 rfl) (dl_at 64 13 lb_X12_town_2 rfl) (dl_at 64 14 lb_X12_town_2 rfl) sg16_65503
theorem dX12_town_22 : decode cX12_town 22 = .ok (.bipush (-4), 2) := dx_16 (dl_at 0 22 lb_X12_town_0 rfl) (dl_at 0 23 lb_X12_town_0 rfl) sg8_252
theorem dX12_town_24 : decode cX12_town 24 = .ok (.ireturn, 1) := dx_172 (dl_at 0 24 lb_X12_town_0 rfl)
theorem dX12_town_10 : decode cX12_town 10 = .ok (.iload_n 2, 1) := dx_28 (dl_at 0 10 lb_X12_town_0 rfl)
theorem dX12_town_11 : decode cX12_town 11 = .ok (.ireturn, 1) := dx_172 (dl_at 0 11 lb_X12_town_0 rfl)
def F_sm_here (mu : Nat → Nat → Int32) (vt : Int32) : Int32 :=
  LETV (mu 0 18 : Int32) fun y1 =>
  LETV (mu 5 vt.toNatClampNeg : Int32) fun y2 =>
  if y1 ≥ y2 then (
    ((-9) : Int32)
  ) else (
    LETV (80 * vt : Int32) fun t5 =>
    LETV (t5 + y1 : Int32) fun t6 =>
    LETV (mu 6 t6.toNatClampNeg : Int32) fun y7 =>
    (y7 : Int32)
  )
def F_sm_kindOf (va : Int32) : Int32 :=
  if va = (98 : Int32) then (
    (0 : Int32)
  ) else (
    if va = (109 : Int32) then (
      (1 : Int32)
    ) else (
      if va = (102 : Int32) then (
        (2 : Int32)
      ) else (
        if va = (114 : Int32) then (
          (3 : Int32)
        ) else (
          if va = (117 : Int32) then (
            (4 : Int32)
          ) else (
            if va = (115 : Int32) then (
              (5 : Int32)
            ) else (
              ((-9) : Int32)
            )
          )
        )
      )
    )
  )
def L_sm_readsBearer_48_0 (r4 : Int32) (vt : Int32) : Nat → (Int32) → (Int32) → (Nat → Nat → Int32) → Int32 × (Nat → Nat → Int32)
  | 0, v3_48, v4_48, nu48_ => (0, nu48_)
  | n + 1, v3_48, v4_48, nu48_ =>
    LETV (nu48_ 0 18 : Int32) fun y18 =>
    LETV (nu48_ 0 19 : Int32) fun y19 =>
    if v4_48 ≥ (2 : Int32) then (
      LETV (va_up nu48_ 11 (upd (nu48_ 11) y19.toNatClampNeg r4) : Nat → Nat → Int32) fun nu21 =>
      LETV (va_up nu21 12 (upd (nu21 12) y19.toNatClampNeg v3_48) : Nat → Nat → Int32) fun nu26 =>
      LETV (y19 + 1 : Int32) fun t31 =>
      LETV (va_up nu26 0 (upd (nu26 0) 19 t31) : Nat → Nat → Int32) fun nu32 =>
      ((1 : Int32), nu32)
    ) else (
      LETV (F_sm_here nu48_ (vt : Int32) : Int32) fun r38 =>
      if F_sm_in (r38 : Int32) (48 : Int32) (57 : Int32) = 1 then (
        LETV (10 * v3_48 : Int32) fun t40 =>
        LETV (F_sm_here nu48_ (vt : Int32) : Int32) fun r41 =>
        LETV (t40 + r41 : Int32) fun t42 =>
        LETV (t42 - 48 : Int32) fun t43 =>
        LETV (y18 + 1 : Int32) fun t44 =>
        LETV (va_up nu48_ 0 (upd (nu48_ 0) 18 t44) : Nat → Nat → Int32) fun nu45 =>
        LETV ((v4_48 + 1) : Int32) fun w50 =>
        L_sm_readsBearer_48_0 r4 vt n (t43 : Int32) (w50 : Int32) nu45
      ) else (
        ((0 : Int32), nu48_)
      )
    )
def F_sm_readsBearer (mu : Nat → Nat → Int32) (vt : Int32) : Int32 × (Nat → Nat → Int32) :=
  LETV (mu 0 18 : Int32) fun y1 =>
  LETV (mu 0 19 : Int32) fun y2 =>
  LETV (F_sm_here mu (vt : Int32) : Int32) fun r3 =>
  LETV (F_sm_kindOf (r3 : Int32) : Int32) fun r4 =>
  if r4 = ((-9) : Int32) then (
    ((0 : Int32), mu)
  ) else (
    LETV (mu 0 20 : Int32) fun y7 =>
    if y7 > (0 : Int32) then (
      ((0 : Int32), mu)
    ) else (
      if y2 = (7 : Int32) then (
        ((0 : Int32), mu)
      ) else (
        LETV (y1 + 1 : Int32) fun t11 =>
        LETV (va_up mu 0 (upd (mu 0) 18 t11) : Nat → Nat → Int32) fun nu12 =>
        L_sm_readsBearer_48_0 r4 vt 5 (0 : Int32) (0 : Int32) nu12
      )
    )
  )
def L_sm_readsPath_30_0 (t12 : Int32) (vt : Int32) : Nat → (Int32) → (Nat → Nat → Int32) → Int32 × (Nat → Nat → Int32)
  | 0, v3_30, nu30_ => (0, nu30_)
  | n + 1, v3_30, nu30_ =>
    LETV (nu30_ 0 18 : Int32) fun y13 =>
    LETV (nu30_ 0 20 : Int32) fun y14 =>
    LETV (nu30_ 0 19 : Int32) fun y15 =>
    if v3_30 ≥ (2 : Int32) then (
      LETV (y14 + 1 : Int32) fun t17 =>
      LETV (va_up nu30_ 0 (upd (nu30_ 0) 20 t17) : Nat → Nat → Int32) fun nu18 =>
      ((1 : Int32), nu18)
    ) else (
      LETV (F_sm_here nu30_ (vt : Int32) : Int32) fun r25 =>
      LETV (r25 - 48 : Int32) fun t26 =>
      LETV (y15 - 1 : Int32) fun t27 =>
      if F_sm_in (t26 : Int32) (0 : Int32) (t27 : Int32) = 1 then (
        if v3_30 = (1 : Int32) then (
          LETV (nu30_ 13 t12.toNatClampNeg : Int32) fun y47 =>
          if t26 = y47 then (
            ((0 : Int32), nu30_)
          ) else (
            LETV (t12 + v3_30 : Int32) fun t49 =>
            LETV (va_up nu30_ 13 (upd (nu30_ 13) t49.toNatClampNeg t26) : Nat → Nat → Int32) fun nu50 =>
            LETV (y13 + 1 : Int32) fun t56 =>
            LETV (va_up nu50 0 (upd (nu50 0) 18 t56) : Nat → Nat → Int32) fun nu57 =>
            LETV ((v3_30 + 1) : Int32) fun w63 =>
            L_sm_readsPath_30_0 t12 vt n (w63 : Int32) nu57
          )
        ) else (
          LETV (t12 + v3_30 : Int32) fun t30 =>
          LETV (va_up nu30_ 13 (upd (nu30_ 13) t30.toNatClampNeg t26) : Nat → Nat → Int32) fun nu31 =>
          LETV (y13 + 1 : Int32) fun t37 =>
          LETV (va_up nu31 0 (upd (nu31 0) 18 t37) : Nat → Nat → Int32) fun nu38 =>
          LETV ((v3_30 + 1) : Int32) fun w44 =>
          L_sm_readsPath_30_0 t12 vt n (w44 : Int32) nu38
        )
      ) else (
        ((0 : Int32), nu30_)
      )
    )
def F_sm_readsPath (mu : Nat → Nat → Int32) (vt : Int32) : Int32 × (Nat → Nat → Int32) :=
  LETV (mu 0 18 : Int32) fun y1 =>
  LETV (mu 0 20 : Int32) fun y2 =>
  LETV (mu 0 19 : Int32) fun y3 =>
  if y2 = (12 : Int32) then (
    ((0 : Int32), mu)
  ) else (
    LETV (y1 + 1 : Int32) fun t5 =>
    LETV (va_up mu 0 (upd (mu 0) 18 t5) : Nat → Nat → Int32) fun nu6 =>
    LETV (2 * y2 : Int32) fun t12 =>
    L_sm_readsPath_30_0 t12 vt 5 (0 : Int32) nu6
  )
def L_sm_goesOn_15_0 (vt : Int32) : Nat → (Nat → Nat → Int32) → Int32 × (Nat → Nat → Int32)
  | 0, nu15_ => (0, nu15_)
  | n + 1, nu15_ =>
    LETV (nu15_ 0 18 : Int32) fun y14 =>
    LETV (nu15_ 5 vt.toNatClampNeg : Int32) fun y15 =>
    if y14 ≥ y15 then (
      (((-9) : Int32), nu15_)
    ) else (
      LETV (F_sm_here nu15_ (vt : Int32) : Int32) fun r17 =>
      if r17 = (32 : Int32) then (
        LETV (y14 + 1 : Int32) fun t35 =>
        LETV (va_up nu15_ 0 (upd (nu15_ 0) 18 t35) : Nat → Nat → Int32) fun nu36 =>
        L_sm_goesOn_15_0 vt n nu36
      ) else (
        LETV (F_sm_here nu15_ (vt : Int32) : Int32) fun r19 =>
        if r19 = (119 : Int32) then (
          LETP (F_sm_readsPath nu15_ (vt : Int32)) fun r29 xi29 =>
          LETV (xi29 0 18 : Int32) fun y32 =>
          if r29 = (0 : Int32) then (
            ((y32 : Int32), xi29)
          ) else (
            L_sm_goesOn_15_0 vt n xi29
          )
        ) else (
          LETP (F_sm_readsBearer nu15_ (vt : Int32)) fun r22 xi22 =>
          LETV (xi22 0 18 : Int32) fun y25 =>
          if r22 = (0 : Int32) then (
            ((y25 : Int32), xi22)
          ) else (
            L_sm_goesOn_15_0 vt n xi22
          )
        )
      )
    )
def F_sm_goesOn (mu : Nat → Nat → Int32) (vt : Int32) : Int32 × (Nat → Nat → Int32) :=
  LETV (mu 0 18 : Int32) fun y1 =>
  LETV (va_up mu 0 (upd (mu 0) 18 0) : Nat → Nat → Int32) fun nu2 =>
  LETV (va_up nu2 0 (upd (nu2 0) 19 0) : Nat → Nat → Int32) fun nu5 =>
  LETV (va_up nu5 0 (upd (nu5 0) 20 0) : Nat → Nat → Int32) fun nu9 =>
  L_sm_goesOn_15_0 vt 102 nu9
def F_qm_fault (mu : Nat → Nat → Int32) (vt : Int32) : Int32 × (Nat → Nat → Int32) :=
  LETP (F_sm_askedText mu (vt : Int32)) fun r1 xi1 =>
  if r1 = 0 then (
    LETP (F_sm_goesOn mu (vt : Int32)) fun r3 xi3 =>
    ((r3 : Int32), xi3)
  ) else (
    ((r1 : Int32), xi1)
  )
def L_qm_town_127_2 : Nat → (Int32) → (Nat → Nat → Int32) → Int32 × (Nat → Nat → Int32)
  | 0, v3_127, nu127_ => (0, nu127_)
  | n + 1, v3_127, nu127_ =>
    if v3_127 ≥ (3 : Int32) then (
      LETV (nu127_ 0 8 : Int32) fun y39 =>
      ((y39 : Int32), nu127_)
    ) else (
      LETV (64 * v3_127 : Int32) fun t40 =>
      LETV (va_up nu127_ 15 (upd (nu127_ 15) t40.toNatClampNeg (-9)) : Nat → Nat → Int32) fun nu42 =>
      LETV ((v3_127 + 1) : Int32) fun w44 =>
      L_qm_town_127_2 n (w44 : Int32) nu42
    )
def L_qm_town_81_1 : Nat → (Int32) → (Nat → Nat → Int32) → Int32 × (Nat → Nat → Int32)
  | 0, v3_81, nu81_ => (0, nu81_)
  | n + 1, v3_81, nu81_ =>
    if v3_81 ≥ (24 : Int32) then (
      LETV (va_up nu81_ 0 (upd (nu81_ 0) 13 0) : Nat → Nat → Int32) fun nu20 =>
      LETV (va_up nu20 0 (upd (nu20 0) 14 0) : Nat → Nat → Int32) fun nu23 =>
      LETV (va_up nu23 0 (upd (nu23 0) 15 0) : Nat → Nat → Int32) fun nu27 =>
      LETV (va_up nu27 0 (upd (nu27 0) 17 0) : Nat → Nat → Int32) fun nu32 =>
      L_qm_town_127_2 6 (0 : Int32) nu32
    ) else (
      LETV (nu81_ 13 v3_81.toNatClampNeg : Int32) fun y45 =>
      LETV (va_up nu81_ 9 (upd (nu81_ 9) v3_81.toNatClampNeg y45) : Nat → Nat → Int32) fun nu46 =>
      LETV ((v3_81 + 1) : Int32) fun w49 =>
      L_qm_town_81_1 n (w49 : Int32) nu46
    )
def L_qm_town_43_0 : Nat → (Int32) → (Nat → Nat → Int32) → Int32 × (Nat → Nat → Int32)
  | 0, v3_43, nu43_ => (0, nu43_)
  | n + 1, v3_43, nu43_ =>
    if v3_43 ≥ (7 : Int32) then (
      L_qm_town_81_1 27 (0 : Int32) nu43_
    ) else (
      LETV (nu43_ 11 v3_43.toNatClampNeg : Int32) fun y50 =>
      LETV (va_up nu43_ 7 (upd (nu43_ 7) v3_43.toNatClampNeg y50) : Nat → Nat → Int32) fun nu51 =>
      LETV (nu51 12 v3_43.toNatClampNeg : Int32) fun y54 =>
      LETV (va_up nu51 8 (upd (nu51 8) v3_43.toNatClampNeg y54) : Nat → Nat → Int32) fun nu55 =>
      LETV ((v3_43 + 1) : Int32) fun w59 =>
      L_qm_town_43_0 n (w59 : Int32) nu55
    )
def F_qm_town (mu : Nat → Nat → Int32) (vt : Int32) : Int32 × (Nat → Nat → Int32) :=
  LETP (F_sm_askedText mu (vt : Int32)) fun r1 xi1 =>
  if r1 = 0 then (
    LETP (F_sm_goesOn mu (vt : Int32)) fun r3 xi3 =>
    if r3 = ((-9) : Int32) then (
      LETV (xi3 0 19 : Int32) fun y6 =>
      LETV (va_up xi3 0 (upd (xi3 0) 8 y6) : Nat → Nat → Int32) fun nu7 =>
      LETV (nu7 0 20 : Int32) fun y11 =>
      LETV (va_up nu7 0 (upd (nu7 0) 11 y11) : Nat → Nat → Int32) fun nu12 =>
      L_qm_town_43_0 10 (0 : Int32) nu12
    ) else (
      (((-4) : Int32), xi3)
    )
  ) else (
    ((r1 : Int32), xi1)
  )
