theorem lb_X4_kindSigned_0 : dl_ck (cX4_kindSigned.data.toList.drop 0) [3, 60, 27, 178, 0, 54, 190, 162, 0, 20, 178, 0, 54, 27, 52, 26, 160, 0, 5, 27, 172, 132, 1, 1, 167, 255, 234, 16, 247, 172] = true := by decide +kernel
theorem dX4_kindSigned_0 : decode cX4_kindSigned 0 = .ok (.iconst 0, 1) := dx_3 (dl_at 0 0 lb_X4_kindSigned_0 rfl)
theorem dX4_kindSigned_1 : decode cX4_kindSigned 1 = .ok (.istore_n 1, 1) := dx_60 (dl_at 0 1 lb_X4_kindSigned_0 rfl)
theorem dX4_kindSigned_2 : decode cX4_kindSigned 2 = .ok (.iload_n 1, 1) := dx_27 (dl_at 0 2 lb_X4_kindSigned_0 rfl)
theorem dX4_kindSigned_3 : decode cX4_kindSigned 3 = .ok (.getstatic 54, 3) := dx_178 (a := 0) (b := 54) (dl_at 0 3 lb_X4_kindSigned_0 rfl) (dl_at 0 4 lb_X4_kindSigned_0 rfl) (dl_at 0 5 lb_X4_kindSigned_0 rfl) rfl
theorem dX4_kindSigned_6 : decode cX4_kindSigned 6 = .ok (.arraylength, 1) := dx_190 (dl_at 0 6 lb_X4_kindSigned_0 rfl)
theorem dX4_kindSigned_7 : decode cX4_kindSigned 7 = .ok (.if_icmp .ge 20, 3) := dx_162 (a := 0) (b := 20) (dl_at 0 7 lb_X4_kindSigned_0 rfl) (dl_at 0 8 lb_X4_kindSigned_0 rfl) (dl_at 0 9 lb_X4_kindSigned_0 rfl) sg16_20
theorem dX4_kindSigned_27 : decode cX4_kindSigned 27 = .ok (.bipush (-9), 2) := dx_16 (dl_at 0 27 lb_X4_kindSigned_0 rfl) (dl_at 0 28 lb_X4_kindSigned_0 rfl) sg8_247
theorem dX4_kindSigned_29 : decode cX4_kindSigned 29 = .ok (.ireturn, 1) := dx_172 (dl_at 0 29 lb_X4_kindSigned_0 rfl)
theorem dX4_kindSigned_10 : decode cX4_kindSigned 10 = .ok (.getstatic 54, 3) := dx_178 (a := 0) (b := 54) (dl_at 0 10 lb_X4_kindSigned_0 rfl) (dl_at 0 11 lb_X4_kindSigned_0 rfl) (dl_at 0 12 lb_X4_kindSigned_0 rfl) rfl
theorem dX4_kindSigned_13 : decode cX4_kindSigned 13 = .ok (.iload_n 1, 1) := dx_27 (dl_at 0 13 lb_X4_kindSigned_0 rfl)
theorem dX4_kindSigned_14 : decode cX4_kindSigned 14 = .ok (.caload, 1) := by decide +kernel
theorem dX4_kindSigned_15 : decode cX4_kindSigned 15 = .ok (.iload_n 0, 1) := dx_26 (dl_at 0 15 lb_X4_kindSigned_0 rfl)
theorem dX4_kindSigned_16 : decode cX4_kindSigned 16 = .ok (.if_icmp .ne 5, 3) := dx_160 (a := 0) (b := 5) (dl_at 0 16 lb_X4_kindSigned_0 rfl) (dl_at 0 17 lb_X4_kindSigned_0 rfl) (dl_at 0 18 lb_X4_kindSigned_0 rfl) sg16_5
theorem dX4_kindSigned_21 : decode cX4_kindSigned 21 = .ok (.iinc 1 1, 3) := dx_132 (dl_at 0 21 lb_X4_kindSigned_0 rfl) (dl_at 0 22 lb_X4_kindSigned_0 rfl) (dl_at 0 23 lb_X4_kindSigned_0 rfl) sg8_1
theorem dX4_kindSigned_24 : decode cX4_kindSigned 24 = .ok (.goto (-22), 3) := dx_167 (a := 255) (b := 234) (dl_at 0 24 lb_X4_kindSigned_0 rfl) (dl_at 0 25 lb_X4_kindSigned_0 rfl) (dl_at 0 26 lb_X4_kindSigned_0 rfl) sg16_65514
theorem dX4_kindSigned_19 : decode cX4_kindSigned 19 = .ok (.iload_n 1, 1) := dx_27 (dl_at 0 19 lb_X4_kindSigned_0 rfl)
theorem dX4_kindSigned_20 : decode cX4_kindSigned 20 = .ok (.ireturn, 1) := dx_172 (dl_at 0 20 lb_X4_kindSigned_0 rfl)
theorem lb_X4_faultInBearer_0 : dl_ck (cX4_faultInBearer.data.toList.drop 0) [43, 180, 0, 36, 28, 51, 184, 0, 47, 62, 29, 16, 247, 159, 0, 19, 42, 180, 0, 28, 157, 0, 12, 42, 180, 0, 24, 16, 7, 161, 0, 5] = true := by decide +kernel
theorem lb_X4_faultInBearer_1 : dl_ck (cX4_faultInBearer.data.toList.drop 32) [28, 172, 43, 28, 4, 96, 182, 0, 51, 54, 4, 21, 4, 16, 247, 160, 0, 7, 28, 4, 96, 172, 43, 28, 5, 96, 182, 0, 51, 54, 5, 21] = true := by decide +kernel
theorem lb_X4_faultInBearer_2 : dl_ck (cX4_faultInBearer.data.toList.drop 64) [5, 16, 247, 160, 0, 7, 28, 5, 96, 172, 42, 180, 0, 9, 42, 180, 0, 24, 29, 79, 42, 180, 0, 15, 42, 180, 0, 24, 16, 10, 21, 4] = true := by decide +kernel
theorem lb_X4_faultInBearer_3 : dl_ck (cX4_faultInBearer.data.toList.drop 96) [104, 21, 5, 96, 79, 42, 89, 180, 0, 24, 4, 96, 181, 0, 24, 16, 247, 172] = true := by decide +kernel
theorem dX4_faultInBearer_0 : decode cX4_faultInBearer 0 = .ok (.aload_n 1, 1) := dx_43 (dl_at 0 0 lb_X4_faultInBearer_0 rfl)
theorem dX4_faultInBearer_1 : decode cX4_faultInBearer 1 = .ok (.getfield 36, 3) := dx_180 (a := 0) (b := 36) (dl_at 0 1 lb_X4_faultInBearer_0 rfl) (dl_at 0 2 lb_X4_faultInBearer_0 rfl) (dl_at 0 3 lb_X4_faultInBearer_0 rfl) rfl
theorem dX4_faultInBearer_4 : decode cX4_faultInBearer 4 = .ok (.iload_n 2, 1) := dx_28 (dl_at 0 4 lb_X4_faultInBearer_0 rfl)
theorem dX4_faultInBearer_5 : decode cX4_faultInBearer 5 = .ok (.baload, 1) := dx_51 (dl_at 0 5 lb_X4_faultInBearer_0 rfl)
theorem dX4_faultInBearer_6 : decode cX4_faultInBearer 6 = .ok (.invokestatic 47, 3) := dx_184 (a := 0) (b := 47) (dl_at 0 6 lb_X4_faultInBearer_0 rfl) (dl_at 0 7 lb_X4_faultInBearer_0 rfl) (dl_at 0 8 lb_X4_faultInBearer_0 rfl) rfl
theorem dX4_faultInBearer_9 : decode cX4_faultInBearer 9 = .ok (.istore_n 3, 1) := dx_62 (dl_at 0 9 lb_X4_faultInBearer_0 rfl)
theorem dX4_faultInBearer_10 : decode cX4_faultInBearer 10 = .ok (.iload_n 3, 1) := dx_29 (dl_at 0 10 lb_X4_faultInBearer_0 rfl)
theorem dX4_faultInBearer_11 : decode cX4_faultInBearer 11 = .ok (.bipush (-9), 2) := dx_16 (dl_at 0 11 lb_X4_faultInBearer_0 rfl) (dl_at 0 12 lb_X4_faultInBearer_0 rfl) sg8_247
theorem dX4_faultInBearer_13 : decode cX4_faultInBearer 13 = .ok (.if_icmp .eq 19, 3) := dx_159 (a := 0) (b := 19) (dl_at 0 13 lb_X4_faultInBearer_0 rfl) (dl_at 0 14 lb_X4_faultInBearer_0 rfl) (dl_at 0 15 lb_X4_faultInBearer_0 rfl) sg16_19
theorem dX4_faultInBearer_32 : decode cX4_faultInBearer 32 = .ok (.iload_n 2, 1) := dx_28 (dl_at 32 0 lb_X4_faultInBearer_1 rfl)
theorem dX4_faultInBearer_33 : decode cX4_faultInBearer 33 = .ok (.ireturn, 1) := dx_172 (dl_at 32 1 lb_X4_faultInBearer_1 rfl)
theorem dX4_faultInBearer_16 : decode cX4_faultInBearer 16 = .ok (.aload_n 0, 1) := dx_42 (dl_at 0 16 lb_X4_faultInBearer_0 rfl)
theorem dX4_faultInBearer_17 : decode cX4_faultInBearer 17 = .ok (.getfield 28, 3) := dx_180 (a := 0) (b := 28) (dl_at 0 17 lb_X4_faultInBearer_0 rfl) (dl_at 0 18 lb_X4_faultInBearer_0 rfl) (dl_at 0 19 lb_X4_faultInBearer_0 rfl) rfl
theorem dX4_faultInBearer_20 : decode cX4_faultInBearer 20 = .ok (.ifCond .gt 12, 3) := dx_157 (a := 0) (b := 12) (dl_at 0 20 lb_X4_faultInBearer_0 rfl) (dl_at 0 21 lb_X4_faultInBearer_0 rfl) (dl_at 0 22 lb_X4_faultInBearer_0 rfl) sg16_12
theorem dX4_faultInBearer_23 : decode cX4_faultInBearer 23 = .ok (.aload_n 0, 1) := dx_42 (dl_at 0 23 lb_X4_faultInBearer_0 rfl)
theorem dX4_faultInBearer_24 : decode cX4_faultInBearer 24 = .ok (.getfield 24, 3) := dx_180 (a := 0) (b := 24) (dl_at 0 24 lb_X4_faultInBearer_0 rfl) (dl_at 0 25 lb_X4_faultInBearer_0 rfl) (dl_at 0 26 lb_X4_faultInBearer_0 rfl) rfl
theorem dX4_faultInBearer_27 : decode cX4_faultInBearer 27 = .ok (.bipush 7, 2) := dx_16 (dl_at 0 27 lb_X4_faultInBearer_0 rfl) (dl_at 0 28 lb_X4_faultInBearer_0 rfl) sg8_7
theorem dX4_faultInBearer_29 : decode cX4_faultInBearer 29 = .ok (.if_icmp .lt 5, 3) := dx_161 (a := 0) (b := 5) (dl_at 0 29 lb_X4_faultInBearer_0 rfl) (dl_at 0 30 lb_X4_faultInBearer_0 rfl) (dl_at 0 31 lb_X4_faultInBearer_0 rfl) sg16_5
theorem dX4_faultInBearer_34 : decode cX4_faultInBearer 34 = .ok (.aload_n 1, 1) := dx_43 (dl_at 32 2 lb_X4_faultInBearer_1 rfl)
theorem dX4_faultInBearer_35 : decode cX4_faultInBearer 35 = .ok (.iload_n 2, 1) := dx_28 (dl_at 32 3 lb_X4_faultInBearer_1 rfl)
theorem dX4_faultInBearer_36 : decode cX4_faultInBearer 36 = .ok (.iconst 1, 1) := dx_4 (dl_at 32 4 lb_X4_faultInBearer_1 rfl)
theorem dX4_faultInBearer_37 : decode cX4_faultInBearer 37 = .ok (.iadd, 1) := dx_96 (dl_at 32 5 lb_X4_faultInBearer_1 rfl)
theorem dX4_faultInBearer_38 : decode cX4_faultInBearer 38 = .ok (.invokevirtual 51, 3) := dx_182 (a := 0) (b := 51) (dl_at 32 6 lb_X4_faultInBearer_1 rfl) (dl_at 32 7 lb_X4_faultInBearer_1 rfl) (dl_at 32 8 lb_X4_faultInBearer_1 rfl) rfl
theorem dX4_faultInBearer_41 : decode cX4_faultInBearer 41 = .ok (.istore 4, 2) := dx_54 (dl_at 32 9 lb_X4_faultInBearer_1 rfl) (dl_at 32 10 lb_X4_faultInBearer_1 rfl)
theorem dX4_faultInBearer_43 : decode cX4_faultInBearer 43 = .ok (.iload 4, 2) := dx_21 (dl_at 32 11 lb_X4_faultInBearer_1 rfl) (dl_at 32 12 lb_X4_faultInBearer_1 rfl)
theorem dX4_faultInBearer_45 : decode cX4_faultInBearer 45 = .ok (.bipush (-9), 2) := dx_16 (dl_at 32 13 lb_X4_faultInBearer_1 rfl) (dl_at 32 14 lb_X4_faultInBearer_1 rfl) sg8_247
theorem dX4_faultInBearer_47 : decode cX4_faultInBearer 47 = .ok (.if_icmp .ne 7, 3) := dx_160 (a := 0) (b := 7) (dl_at 32 15 lb_X4_faultInBearer_1 rfl) (dl_at 32 16 lb_X4_faultInBearer_1 rfl) (dl_at 32 17 lb_X4_faultInBearer_1 rfl) sg16_7
theorem dX4_faultInBearer_54 : decode cX4_faultInBearer 54 = .ok (.aload_n 1, 1) := dx_43 (dl_at 32 22 lb_X4_faultInBearer_1 rfl)
theorem dX4_faultInBearer_55 : decode cX4_faultInBearer 55 = .ok (.iload_n 2, 1) := dx_28 (dl_at 32 23 lb_X4_faultInBearer_1 rfl)
theorem dX4_faultInBearer_56 : decode cX4_faultInBearer 56 = .ok (.iconst 2, 1) := dx_5 (dl_at 32 24 lb_X4_faultInBearer_1 rfl)
theorem dX4_faultInBearer_57 : decode cX4_faultInBearer 57 = .ok (.iadd, 1) := dx_96 (dl_at 32 25 lb_X4_faultInBearer_1 rfl)
theorem dX4_faultInBearer_58 : decode cX4_faultInBearer 58 = .ok (.invokevirtual 51, 3) := dx_182 (a := 0) (b := 51) (dl_at 32 26 lb_X4_faultInBearer_1 rfl) (dl_at 32 27 lb_X4_faultInBearer_1 rfl) (dl_at 32 28 lb_X4_faultInBearer_1 rfl) rfl
theorem dX4_faultInBearer_61 : decode cX4_faultInBearer 61 = .ok (.istore 5, 2) := dx_54 (dl_at 32 29 lb_X4_faultInBearer_1 rfl) (dl_at 32 30 lb_X4_faultInBearer_1 rfl)
theorem dX4_faultInBearer_63 : decode cX4_faultInBearer 63 = .ok (.iload 5, 2) := dx_21 (dl_at 32 31 lb_X4_faultInBearer_1 rfl) (dl_at 64 0 lb_X4_faultInBearer_2 rfl)
theorem dX4_faultInBearer_65 : decode cX4_faultInBearer 65 = .ok (.bipush (-9), 2) := dx_16 (dl_at 64 1 lb_X4_faultInBearer_2 rfl) (dl_at 64 2 lb_X4_faultInBearer_2 rfl) sg8_247
theorem dX4_faultInBearer_67 : decode cX4_faultInBearer 67 = .ok (.if_icmp .ne 7, 3) := dx_160 (a := 0) (b := 7) (dl_at 64 3 lb_X4_faultInBearer_2 rfl) (dl_at 64 4 lb_X4_faultInBearer_2 rfl) (dl_at 64 5 lb_X4_faultInBearer_2 rfl) sg16_7
theorem dX4_faultInBearer_74 : decode cX4_faultInBearer 74 = .ok (.aload_n 0, 1) := dx_42 (dl_at 64 10 lb_X4_faultInBearer_2 rfl)
theorem dX4_faultInBearer_75 : decode cX4_faultInBearer 75 = .ok (.getfield 9, 3) := dx_180 (a := 0) (b := 9) (dl_at 64 11 lb_X4_faultInBearer_2 rfl) (dl_at 64 12 lb_X4_faultInBearer_2 rfl) (dl_at 64 13 lb_X4_faultInBearer_2 rfl) rfl
theorem dX4_faultInBearer_78 : decode cX4_faultInBearer 78 = .ok (.aload_n 0, 1) := dx_42 (dl_at 64 14 lb_X4_faultInBearer_2 rfl)
theorem dX4_faultInBearer_79 : decode cX4_faultInBearer 79 = .ok (.getfield 24, 3) := dx_180 (a := 0) (b := 24) (dl_at 64 15 lb_X4_faultInBearer_2 rfl) (dl_at 64 16 lb_X4_faultInBearer_2 rfl) (dl_at 64 17 lb_X4_faultInBearer_2 rfl) rfl
theorem dX4_faultInBearer_82 : decode cX4_faultInBearer 82 = .ok (.iload_n 3, 1) := dx_29 (dl_at 64 18 lb_X4_faultInBearer_2 rfl)
theorem dX4_faultInBearer_83 : decode cX4_faultInBearer 83 = .ok (.iastore, 1) := dx_79 (dl_at 64 19 lb_X4_faultInBearer_2 rfl)
theorem dX4_faultInBearer_84 : decode cX4_faultInBearer 84 = .ok (.aload_n 0, 1) := dx_42 (dl_at 64 20 lb_X4_faultInBearer_2 rfl)
theorem dX4_faultInBearer_85 : decode cX4_faultInBearer 85 = .ok (.getfield 15, 3) := dx_180 (a := 0) (b := 15) (dl_at 64 21 lb_X4_faultInBearer_2 rfl) (dl_at 64 22 lb_X4_faultInBearer_2 rfl) (dl_at 64 23 lb_X4_faultInBearer_2 rfl) rfl
theorem dX4_faultInBearer_88 : decode cX4_faultInBearer 88 = .ok (.aload_n 0, 1) := dx_42 (dl_at 64 24 lb_X4_faultInBearer_2 rfl)
theorem dX4_faultInBearer_89 : decode cX4_faultInBearer 89 = .ok (.getfield 24, 3) := dx_180 (a := 0) (b := 24) (dl_at 64 25 lb_X4_faultInBearer_2 rfl) (dl_at 64 26 lb_X4_faultInBearer_2 rfl) (dl_at 64 27 lb_X4_faultInBearer_2 rfl) rfl
theorem dX4_faultInBearer_92 : decode cX4_faultInBearer 92 = .ok (.bipush 10, 2) := dx_16 (dl_at 64 28 lb_X4_faultInBearer_2 rfl) (dl_at 64 29 lb_X4_faultInBearer_2 rfl) sg8_10
theorem dX4_faultInBearer_94 : decode cX4_faultInBearer 94 = .ok (.iload 4, 2) := dx_21 (dl_at 64 30 lb_X4_faultInBearer_2 rfl) (dl_at 64 31 lb_X4_faultInBearer_2 rfl)
theorem dX4_faultInBearer_96 : decode cX4_faultInBearer 96 = .ok (.imul, 1) := dx_104 (dl_at 96 0 lb_X4_faultInBearer_3 rfl)
theorem dX4_faultInBearer_97 : decode cX4_faultInBearer 97 = .ok (.iload 5, 2) := dx_21 (dl_at 96 1 lb_X4_faultInBearer_3 rfl) (dl_at 96 2 lb_X4_faultInBearer_3 rfl)
theorem dX4_faultInBearer_99 : decode cX4_faultInBearer 99 = .ok (.iadd, 1) := dx_96 (dl_at 96 3 lb_X4_faultInBearer_3 rfl)
theorem dX4_faultInBearer_100 : decode cX4_faultInBearer 100 = .ok (.iastore, 1) := dx_79 (dl_at 96 4 lb_X4_faultInBearer_3 rfl)
theorem dX4_faultInBearer_101 : decode cX4_faultInBearer 101 = .ok (.aload_n 0, 1) := dx_42 (dl_at 96 5 lb_X4_faultInBearer_3 rfl)
theorem dX4_faultInBearer_102 : decode cX4_faultInBearer 102 = .ok (.dup, 1) := dx_89 (dl_at 96 6 lb_X4_faultInBearer_3 rfl)
theorem dX4_faultInBearer_103 : decode cX4_faultInBearer 103 = .ok (.getfield 24, 3) := dx_180 (a := 0) (b := 24) (dl_at 96 7 lb_X4_faultInBearer_3 rfl) (dl_at 96 8 lb_X4_faultInBearer_3 rfl) (dl_at 96 9 lb_X4_faultInBearer_3 rfl) rfl
theorem dX4_faultInBearer_106 : decode cX4_faultInBearer 106 = .ok (.iconst 1, 1) := dx_4 (dl_at 96 10 lb_X4_faultInBearer_3 rfl)
theorem dX4_faultInBearer_107 : decode cX4_faultInBearer 107 = .ok (.iadd, 1) := dx_96 (dl_at 96 11 lb_X4_faultInBearer_3 rfl)
theorem dX4_faultInBearer_108 : decode cX4_faultInBearer 108 = .ok (.putfield 24, 3) := dx_181 (a := 0) (b := 24) (dl_at 96 12 lb_X4_faultInBearer_3 rfl) (dl_at 96 13 lb_X4_faultInBearer_3 rfl) (dl_at 96 14 lb_X4_faultInBearer_3 rfl) rfl
theorem dX4_faultInBearer_111 : decode cX4_faultInBearer 111 = .ok (.bipush (-9), 2) := dx_16 (dl_at 96 15 lb_X4_faultInBearer_3 rfl) (dl_at 96 16 lb_X4_faultInBearer_3 rfl) sg8_247
theorem dX4_faultInBearer_113 : decode cX4_faultInBearer 113 = .ok (.ireturn, 1) := dx_172 (dl_at 96 17 lb_X4_faultInBearer_3 rfl)
theorem dX4_faultInBearer_70 : decode cX4_faultInBearer 70 = .ok (.iload_n 2, 1) := dx_28 (dl_at 64 6 lb_X4_faultInBearer_2 rfl)
theorem dX4_faultInBearer_71 : decode cX4_faultInBearer 71 = .ok (.iconst 2, 1) := dx_5 (dl_at 64 7 lb_X4_faultInBearer_2 rfl)
theorem dX4_faultInBearer_72 : decode cX4_faultInBearer 72 = .ok (.iadd, 1) := dx_96 (dl_at 64 8 lb_X4_faultInBearer_2 rfl)
theorem dX4_faultInBearer_73 : decode cX4_faultInBearer 73 = .ok (.ireturn, 1) := dx_172 (dl_at 64 9 lb_X4_faultInBearer_2 rfl)
theorem dX4_faultInBearer_50 : decode cX4_faultInBearer 50 = .ok (.iload_n 2, 1) := dx_28 (dl_at 32 18 lb_X4_faultInBearer_1 rfl)
theorem dX4_faultInBearer_51 : decode cX4_faultInBearer 51 = .ok (.iconst 1, 1) := dx_4 (dl_at 32 19 lb_X4_faultInBearer_1 rfl)
theorem dX4_faultInBearer_52 : decode cX4_faultInBearer 52 = .ok (.iadd, 1) := dx_96 (dl_at 32 20 lb_X4_faultInBearer_1 rfl)
theorem dX4_faultInBearer_53 : decode cX4_faultInBearer 53 = .ok (.ireturn, 1) := dx_172 (dl_at 32 21 lb_X4_faultInBearer_1 rfl)
theorem lb_X4_faultInPath_0 : dl_ck (cX4_faultInPath.data.toList.drop 0) [42, 180, 0, 28, 16, 12, 161, 0, 5, 28, 172, 43, 28, 4, 96, 182, 0, 51, 62, 29, 16, 247, 159, 0, 11, 29, 42, 180, 0, 24, 161, 0] = true := by decide +kernel
theorem lb_X4_faultInPath_1 : dl_ck (cX4_faultInPath.data.toList.drop 32) [7, 28, 4, 96, 172, 43, 28, 5, 96, 182, 0, 51, 54, 4, 21, 4, 16, 247, 159, 0, 18, 21, 4, 42, 180, 0, 24, 162, 0, 9, 21, 4] = true := by decide +kernel
theorem lb_X4_faultInPath_2 : dl_ck (cX4_faultInPath.data.toList.drop 64) [29, 160, 0, 7, 28, 5, 96, 172, 42, 180, 0, 18, 42, 180, 0, 28, 29, 79, 42, 180, 0, 21, 42, 180, 0, 28, 21, 4, 79, 42, 89, 180] = true := by decide +kernel
theorem lb_X4_faultInPath_3 : dl_ck (cX4_faultInPath.data.toList.drop 96) [0, 28, 4, 96, 181, 0, 28, 16, 247, 172] = true := by decide +kernel
theorem dX4_faultInPath_0 : decode cX4_faultInPath 0 = .ok (.aload_n 0, 1) := dx_42 (dl_at 0 0 lb_X4_faultInPath_0 rfl)
theorem dX4_faultInPath_1 : decode cX4_faultInPath 1 = .ok (.getfield 28, 3) := dx_180 (a := 0) (b := 28) (dl_at 0 1 lb_X4_faultInPath_0 rfl) (dl_at 0 2 lb_X4_faultInPath_0 rfl) (dl_at 0 3 lb_X4_faultInPath_0 rfl) rfl
theorem dX4_faultInPath_4 : decode cX4_faultInPath 4 = .ok (.bipush 12, 2) := dx_16 (dl_at 0 4 lb_X4_faultInPath_0 rfl) (dl_at 0 5 lb_X4_faultInPath_0 rfl) sg8_12
theorem dX4_faultInPath_6 : decode cX4_faultInPath 6 = .ok (.if_icmp .lt 5, 3) := dx_161 (a := 0) (b := 5) (dl_at 0 6 lb_X4_faultInPath_0 rfl) (dl_at 0 7 lb_X4_faultInPath_0 rfl) (dl_at 0 8 lb_X4_faultInPath_0 rfl) sg16_5
theorem dX4_faultInPath_11 : decode cX4_faultInPath 11 = .ok (.aload_n 1, 1) := dx_43 (dl_at 0 11 lb_X4_faultInPath_0 rfl)
theorem dX4_faultInPath_12 : decode cX4_faultInPath 12 = .ok (.iload_n 2, 1) := dx_28 (dl_at 0 12 lb_X4_faultInPath_0 rfl)
theorem dX4_faultInPath_13 : decode cX4_faultInPath 13 = .ok (.iconst 1, 1) := dx_4 (dl_at 0 13 lb_X4_faultInPath_0 rfl)
theorem dX4_faultInPath_14 : decode cX4_faultInPath 14 = .ok (.iadd, 1) := dx_96 (dl_at 0 14 lb_X4_faultInPath_0 rfl)
theorem dX4_faultInPath_15 : decode cX4_faultInPath 15 = .ok (.invokevirtual 51, 3) := dx_182 (a := 0) (b := 51) (dl_at 0 15 lb_X4_faultInPath_0 rfl) (dl_at 0 16 lb_X4_faultInPath_0 rfl) (dl_at 0 17 lb_X4_faultInPath_0 rfl) rfl
theorem dX4_faultInPath_18 : decode cX4_faultInPath 18 = .ok (.istore_n 3, 1) := dx_62 (dl_at 0 18 lb_X4_faultInPath_0 rfl)
theorem dX4_faultInPath_19 : decode cX4_faultInPath 19 = .ok (.iload_n 3, 1) := dx_29 (dl_at 0 19 lb_X4_faultInPath_0 rfl)
theorem dX4_faultInPath_20 : decode cX4_faultInPath 20 = .ok (.bipush (-9), 2) := dx_16 (dl_at 0 20 lb_X4_faultInPath_0 rfl) (dl_at 0 21 lb_X4_faultInPath_0 rfl) sg8_247
theorem dX4_faultInPath_22 : decode cX4_faultInPath 22 = .ok (.if_icmp .eq 11, 3) := dx_159 (a := 0) (b := 11) (dl_at 0 22 lb_X4_faultInPath_0 rfl) (dl_at 0 23 lb_X4_faultInPath_0 rfl) (dl_at 0 24 lb_X4_faultInPath_0 rfl) sg16_11
theorem dX4_faultInPath_33 : decode cX4_faultInPath 33 = .ok (.iload_n 2, 1) := dx_28 (dl_at 32 1 lb_X4_faultInPath_1 rfl)
theorem dX4_faultInPath_34 : decode cX4_faultInPath 34 = .ok (.iconst 1, 1) := dx_4 (dl_at 32 2 lb_X4_faultInPath_1 rfl)
theorem dX4_faultInPath_35 : decode cX4_faultInPath 35 = .ok (.iadd, 1) := dx_96 (dl_at 32 3 lb_X4_faultInPath_1 rfl)
theorem dX4_faultInPath_36 : decode cX4_faultInPath 36 = .ok (.ireturn, 1) := dx_172 (dl_at 32 4 lb_X4_faultInPath_1 rfl)
theorem dX4_faultInPath_25 : decode cX4_faultInPath 25 = .ok (.iload_n 3, 1) := dx_29 (dl_at 0 25 lb_X4_faultInPath_0 rfl)
theorem dX4_faultInPath_26 : decode cX4_faultInPath 26 = .ok (.aload_n 0, 1) := dx_42 (dl_at 0 26 lb_X4_faultInPath_0 rfl)
theorem dX4_faultInPath_27 : decode cX4_faultInPath 27 = .ok (.getfield 24, 3) := dx_180 (a := 0) (b := 24) (dl_at 0 27 lb_X4_faultInPath_0 rfl) (dl_at 0 28 lb_X4_faultInPath_0 rfl) (dl_at 0 29 lb_X4_faultInPath_0 rfl) rfl
theorem dX4_faultInPath_30 : decode cX4_faultInPath 30 = .ok (.if_icmp .lt 7, 3) := dx_161 (a := 0) (b := 7) (dl_at 0 30 lb_X4_faultInPath_0 rfl) (dl_at 0 31 lb_X4_faultInPath_0 rfl) (dl_at 32 0 lb_X4_faultInPath_1 rfl) sg16_7
theorem dX4_faultInPath_37 : decode cX4_faultInPath 37 = .ok (.aload_n 1, 1) := dx_43 (dl_at 32 5 lb_X4_faultInPath_1 rfl)
theorem dX4_faultInPath_38 : decode cX4_faultInPath 38 = .ok (.iload_n 2, 1) := dx_28 (dl_at 32 6 lb_X4_faultInPath_1 rfl)
theorem dX4_faultInPath_39 : decode cX4_faultInPath 39 = .ok (.iconst 2, 1) := dx_5 (dl_at 32 7 lb_X4_faultInPath_1 rfl)
theorem dX4_faultInPath_40 : decode cX4_faultInPath 40 = .ok (.iadd, 1) := dx_96 (dl_at 32 8 lb_X4_faultInPath_1 rfl)
theorem dX4_faultInPath_41 : decode cX4_faultInPath 41 = .ok (.invokevirtual 51, 3) := dx_182 (a := 0) (b := 51) (dl_at 32 9 lb_X4_faultInPath_1 rfl) (dl_at 32 10 lb_X4_faultInPath_1 rfl) (dl_at 32 11 lb_X4_faultInPath_1 rfl) rfl
theorem dX4_faultInPath_44 : decode cX4_faultInPath 44 = .ok (.istore 4, 2) := dx_54 (dl_at 32 12 lb_X4_faultInPath_1 rfl) (dl_at 32 13 lb_X4_faultInPath_1 rfl)
theorem dX4_faultInPath_46 : decode cX4_faultInPath 46 = .ok (.iload 4, 2) := dx_21 (dl_at 32 14 lb_X4_faultInPath_1 rfl) (dl_at 32 15 lb_X4_faultInPath_1 rfl)
theorem dX4_faultInPath_48 : decode cX4_faultInPath 48 = .ok (.bipush (-9), 2) := dx_16 (dl_at 32 16 lb_X4_faultInPath_1 rfl) (dl_at 32 17 lb_X4_faultInPath_1 rfl) sg8_247
theorem dX4_faultInPath_50 : decode cX4_faultInPath 50 = .ok (.if_icmp .eq 18, 3) := dx_159 (a := 0) (b := 18) (dl_at 32 18 lb_X4_faultInPath_1 rfl) (dl_at 32 19 lb_X4_faultInPath_1 rfl) (dl_at 32 20 lb_X4_faultInPath_1 rfl) sg16_18
theorem dX4_faultInPath_68 : decode cX4_faultInPath 68 = .ok (.iload_n 2, 1) := dx_28 (dl_at 64 4 lb_X4_faultInPath_2 rfl)
theorem dX4_faultInPath_69 : decode cX4_faultInPath 69 = .ok (.iconst 2, 1) := dx_5 (dl_at 64 5 lb_X4_faultInPath_2 rfl)
theorem dX4_faultInPath_70 : decode cX4_faultInPath 70 = .ok (.iadd, 1) := dx_96 (dl_at 64 6 lb_X4_faultInPath_2 rfl)
theorem dX4_faultInPath_71 : decode cX4_faultInPath 71 = .ok (.ireturn, 1) := dx_172 (dl_at 64 7 lb_X4_faultInPath_2 rfl)
theorem dX4_faultInPath_53 : decode cX4_faultInPath 53 = .ok (.iload 4, 2) := dx_21 (dl_at 32 21 lb_X4_faultInPath_1 rfl) (dl_at 32 22 lb_X4_faultInPath_1 rfl)
theorem dX4_faultInPath_55 : decode cX4_faultInPath 55 = .ok (.aload_n 0, 1) := dx_42 (dl_at 32 23 lb_X4_faultInPath_1 rfl)
theorem dX4_faultInPath_56 : decode cX4_faultInPath 56 = .ok (.getfield 24, 3) := dx_180 (a := 0) (b := 24) (dl_at 32 24 lb_X4_faultInPath_1 rfl) (dl_at 32 25 lb_X4_faultInPath_1 rfl) (dl_at 32 26 lb_X4_faultInPath_1 rfl) rfl
theorem dX4_faultInPath_59 : decode cX4_faultInPath 59 = .ok (.if_icmp .ge 9, 3) := dx_162 (a := 0) (b := 9) (dl_at 32 27 lb_X4_faultInPath_1 rfl) (dl_at 32 28 lb_X4_faultInPath_1 rfl) (dl_at 32 29 lb_X4_faultInPath_1 rfl) sg16_9
theorem dX4_faultInPath_62 : decode cX4_faultInPath 62 = .ok (.iload 4, 2) := dx_21 (dl_at 32 30 lb_X4_faultInPath_1 rfl) (dl_at 32 31 lb_X4_faultInPath_1 rfl)
theorem dX4_faultInPath_64 : decode cX4_faultInPath 64 = .ok (.iload_n 3, 1) := dx_29 (dl_at 64 0 lb_X4_faultInPath_2 rfl)
theorem dX4_faultInPath_65 : decode cX4_faultInPath 65 = .ok (.if_icmp .ne 7, 3) := dx_160 (a := 0) (b := 7) (dl_at 64 1 lb_X4_faultInPath_2 rfl) (dl_at 64 2 lb_X4_faultInPath_2 rfl) (dl_at 64 3 lb_X4_faultInPath_2 rfl) sg16_7
theorem dX4_faultInPath_72 : decode cX4_faultInPath 72 = .ok (.aload_n 0, 1) := dx_42 (dl_at 64 8 lb_X4_faultInPath_2 rfl)
theorem dX4_faultInPath_73 : decode cX4_faultInPath 73 = .ok (.getfield 18, 3) := dx_180 (a := 0) (b := 18) (dl_at 64 9 lb_X4_faultInPath_2 rfl) (dl_at 64 10 lb_X4_faultInPath_2 rfl) (dl_at 64 11 lb_X4_faultInPath_2 rfl) rfl
theorem dX4_faultInPath_76 : decode cX4_faultInPath 76 = .ok (.aload_n 0, 1) := dx_42 (dl_at 64 12 lb_X4_faultInPath_2 rfl)
theorem dX4_faultInPath_77 : decode cX4_faultInPath 77 = .ok (.getfield 28, 3) := dx_180 (a := 0) (b := 28) (dl_at 64 13 lb_X4_faultInPath_2 rfl) (dl_at 64 14 lb_X4_faultInPath_2 rfl) (dl_at 64 15 lb_X4_faultInPath_2 rfl) rfl
theorem dX4_faultInPath_80 : decode cX4_faultInPath 80 = .ok (.iload_n 3, 1) := dx_29 (dl_at 64 16 lb_X4_faultInPath_2 rfl)
theorem dX4_faultInPath_81 : decode cX4_faultInPath 81 = .ok (.iastore, 1) := dx_79 (dl_at 64 17 lb_X4_faultInPath_2 rfl)
theorem dX4_faultInPath_82 : decode cX4_faultInPath 82 = .ok (.aload_n 0, 1) := dx_42 (dl_at 64 18 lb_X4_faultInPath_2 rfl)
theorem dX4_faultInPath_83 : decode cX4_faultInPath 83 = .ok (.getfield 21, 3) := dx_180 (a := 0) (b := 21) (dl_at 64 19 lb_X4_faultInPath_2 rfl) (dl_at 64 20 lb_X4_faultInPath_2 rfl) (dl_at 64 21 lb_X4_faultInPath_2 rfl) rfl
theorem dX4_faultInPath_86 : decode cX4_faultInPath 86 = .ok (.aload_n 0, 1) := dx_42 (dl_at 64 22 lb_X4_faultInPath_2 rfl)
theorem dX4_faultInPath_87 : decode cX4_faultInPath 87 = .ok (.getfield 28, 3) := dx_180 (a := 0) (b := 28) (dl_at 64 23 lb_X4_faultInPath_2 rfl) (dl_at 64 24 lb_X4_faultInPath_2 rfl) (dl_at 64 25 lb_X4_faultInPath_2 rfl) rfl
theorem dX4_faultInPath_90 : decode cX4_faultInPath 90 = .ok (.iload 4, 2) := dx_21 (dl_at 64 26 lb_X4_faultInPath_2 rfl) (dl_at 64 27 lb_X4_faultInPath_2 rfl)
theorem dX4_faultInPath_92 : decode cX4_faultInPath 92 = .ok (.iastore, 1) := dx_79 (dl_at 64 28 lb_X4_faultInPath_2 rfl)
theorem dX4_faultInPath_93 : decode cX4_faultInPath 93 = .ok (.aload_n 0, 1) := dx_42 (dl_at 64 29 lb_X4_faultInPath_2 rfl)
theorem dX4_faultInPath_94 : decode cX4_faultInPath 94 = .ok (.dup, 1) := dx_89 (dl_at 64 30 lb_X4_faultInPath_2 rfl)
theorem dX4_faultInPath_95 : decode cX4_faultInPath 95 = .ok (.getfield 28, 3) := dx_180 (a := 0) (b := 28) (dl_at 64 31 lb_X4_faultInPath_2 rfl) (dl_at 96 0 lb_X4_faultInPath_3 rfl) (dl_at 96 1 lb_X4_faultInPath_3 rfl) rfl
theorem dX4_faultInPath_98 : decode cX4_faultInPath 98 = .ok (.iconst 1, 1) := dx_4 (dl_at 96 2 lb_X4_faultInPath_3 rfl)
theorem dX4_faultInPath_99 : decode cX4_faultInPath 99 = .ok (.iadd, 1) := dx_96 (dl_at 96 3 lb_X4_faultInPath_3 rfl)
theorem dX4_faultInPath_100 : decode cX4_faultInPath 100 = .ok (.putfield 28, 3) := dx_181 (a := 0) (b := 28) (dl_at 96 4 lb_X4_faultInPath_3 rfl) (dl_at 96 5 lb_X4_faultInPath_3 rfl) (dl_at 96 6 lb_X4_faultInPath_3 rfl) rfl
theorem dX4_faultInPath_103 : decode cX4_faultInPath 103 = .ok (.bipush (-9), 2) := dx_16 (dl_at 96 7 lb_X4_faultInPath_3 rfl) (dl_at 96 8 lb_X4_faultInPath_3 rfl) sg8_247
theorem dX4_faultInPath_105 : decode cX4_faultInPath 105 = .ok (.ireturn, 1) := dx_172 (dl_at 96 9 lb_X4_faultInPath_3 rfl)
theorem dX4_faultInPath_9 : decode cX4_faultInPath 9 = .ok (.iload_n 2, 1) := dx_28 (dl_at 0 9 lb_X4_faultInPath_0 rfl)
theorem dX4_faultInPath_10 : decode cX4_faultInPath 10 = .ok (.ireturn, 1) := dx_172 (dl_at 0 10 lb_X4_faultInPath_0 rfl)
theorem lb_X4_faultIn_0 : dl_ck (cX4_faultIn.data.toList.drop 0) [42, 3, 181, 0, 24, 42, 3, 181, 0, 28, 3, 61, 28, 43, 180, 0, 31, 162, 0, 61, 43, 180, 0, 36, 28, 51, 16, 32, 160, 0, 6, 167] = true := by decide +kernel
theorem lb_X4_faultIn_1 : dl_ck (cX4_faultIn.data.toList.drop 32) [0, 41, 43, 180, 0, 36, 28, 51, 16, 119, 160, 0, 12, 42, 43, 28, 182, 0, 40, 167, 0, 9, 42, 43, 28, 182, 0, 44, 62, 29, 16, 247] = true := by decide +kernel
theorem lb_X4_faultIn_2 : dl_ck (cX4_faultIn.data.toList.drop 64) [159, 0, 5, 29, 172, 132, 2, 2, 132, 2, 1, 167, 255, 193, 16, 247, 172] = true := by decide +kernel
theorem dX4_faultIn_0 : decode cX4_faultIn 0 = .ok (.aload_n 0, 1) := dx_42 (dl_at 0 0 lb_X4_faultIn_0 rfl)
theorem dX4_faultIn_1 : decode cX4_faultIn 1 = .ok (.iconst 0, 1) := dx_3 (dl_at 0 1 lb_X4_faultIn_0 rfl)
theorem dX4_faultIn_2 : decode cX4_faultIn 2 = .ok (.putfield 24, 3) := dx_181 (a := 0) (b := 24) (dl_at 0 2 lb_X4_faultIn_0 rfl) (dl_at 0 3 lb_X4_faultIn_0 rfl) (dl_at 0 4 lb_X4_faultIn_0 rfl) rfl
theorem dX4_faultIn_5 : decode cX4_faultIn 5 = .ok (.aload_n 0, 1) := dx_42 (dl_at 0 5 lb_X4_faultIn_0 rfl)
theorem dX4_faultIn_6 : decode cX4_faultIn 6 = .ok (.iconst 0, 1) := dx_3 (dl_at 0 6 lb_X4_faultIn_0 rfl)
theorem dX4_faultIn_7 : decode cX4_faultIn 7 = .ok (.putfield 28, 3) := dx_181 (a := 0) (b := 28) (dl_at 0 7 lb_X4_faultIn_0 rfl) (dl_at 0 8 lb_X4_faultIn_0 rfl) (dl_at 0 9 lb_X4_faultIn_0 rfl) rfl
theorem dX4_faultIn_10 : decode cX4_faultIn 10 = .ok (.iconst 0, 1) := dx_3 (dl_at 0 10 lb_X4_faultIn_0 rfl)
theorem dX4_faultIn_11 : decode cX4_faultIn 11 = .ok (.istore_n 2, 1) := dx_61 (dl_at 0 11 lb_X4_faultIn_0 rfl)
theorem dX4_faultIn_12 : decode cX4_faultIn 12 = .ok (.iload_n 2, 1) := dx_28 (dl_at 0 12 lb_X4_faultIn_0 rfl)
theorem dX4_faultIn_13 : decode cX4_faultIn 13 = .ok (.aload_n 1, 1) := dx_43 (dl_at 0 13 lb_X4_faultIn_0 rfl)
theorem dX4_faultIn_14 : decode cX4_faultIn 14 = .ok (.getfield 31, 3) := dx_180 (a := 0) (b := 31) (dl_at 0 14 lb_X4_faultIn_0 rfl) (dl_at 0 15 lb_X4_faultIn_0 rfl) (dl_at 0 16 lb_X4_faultIn_0 rfl) rfl
theorem dX4_faultIn_17 : decode cX4_faultIn 17 = .ok (.if_icmp .ge 61, 3) := dx_162 (a := 0) (b := 61) (dl_at 0 17 lb_X4_faultIn_0 rfl) (dl_at 0 18 lb_X4_faultIn_0 rfl) (dl_at 0 19 lb_X4_faultIn_0 rfl) sg16_61
theorem dX4_faultIn_78 : decode cX4_faultIn 78 = .ok (.bipush (-9), 2) := dx_16 (dl_at 64 14 lb_X4_faultIn_2 rfl) (dl_at 64 15 lb_X4_faultIn_2 rfl) sg8_247
theorem dX4_faultIn_80 : decode cX4_faultIn 80 = .ok (.ireturn, 1) := dx_172 (dl_at 64 16 lb_X4_faultIn_2 rfl)
theorem dX4_faultIn_20 : decode cX4_faultIn 20 = .ok (.aload_n 1, 1) := dx_43 (dl_at 0 20 lb_X4_faultIn_0 rfl)
theorem dX4_faultIn_21 : decode cX4_faultIn 21 = .ok (.getfield 36, 3) := dx_180 (a := 0) (b := 36) (dl_at 0 21 lb_X4_faultIn_0 rfl) (dl_at 0 22 lb_X4_faultIn_0 rfl) (dl_at 0 23 lb_X4_faultIn_0 rfl) rfl
theorem dX4_faultIn_24 : decode cX4_faultIn 24 = .ok (.iload_n 2, 1) := dx_28 (dl_at 0 24 lb_X4_faultIn_0 rfl)
theorem dX4_faultIn_25 : decode cX4_faultIn 25 = .ok (.baload, 1) := dx_51 (dl_at 0 25 lb_X4_faultIn_0 rfl)
theorem dX4_faultIn_26 : decode cX4_faultIn 26 = .ok (.bipush 32, 2) := dx_16 (dl_at 0 26 lb_X4_faultIn_0 rfl) (dl_at 0 27 lb_X4_faultIn_0 rfl) sg8_32
theorem dX4_faultIn_28 : decode cX4_faultIn 28 = .ok (.if_icmp .ne 6, 3) := dx_160 (a := 0) (b := 6) (dl_at 0 28 lb_X4_faultIn_0 rfl) (dl_at 0 29 lb_X4_faultIn_0 rfl) (dl_at 0 30 lb_X4_faultIn_0 rfl) sg16_6
theorem dX4_faultIn_34 : decode cX4_faultIn 34 = .ok (.aload_n 1, 1) := dx_43 (dl_at 32 2 lb_X4_faultIn_1 rfl)
theorem dX4_faultIn_35 : decode cX4_faultIn 35 = .ok (.getfield 36, 3) := dx_180 (a := 0) (b := 36) (dl_at 32 3 lb_X4_faultIn_1 rfl) (dl_at 32 4 lb_X4_faultIn_1 rfl) (dl_at 32 5 lb_X4_faultIn_1 rfl) rfl
theorem dX4_faultIn_38 : decode cX4_faultIn 38 = .ok (.iload_n 2, 1) := dx_28 (dl_at 32 6 lb_X4_faultIn_1 rfl)
theorem dX4_faultIn_39 : decode cX4_faultIn 39 = .ok (.baload, 1) := dx_51 (dl_at 32 7 lb_X4_faultIn_1 rfl)
theorem dX4_faultIn_40 : decode cX4_faultIn 40 = .ok (.bipush 119, 2) := dx_16 (dl_at 32 8 lb_X4_faultIn_1 rfl) (dl_at 32 9 lb_X4_faultIn_1 rfl) sg8_119
theorem dX4_faultIn_42 : decode cX4_faultIn 42 = .ok (.if_icmp .ne 12, 3) := dx_160 (a := 0) (b := 12) (dl_at 32 10 lb_X4_faultIn_1 rfl) (dl_at 32 11 lb_X4_faultIn_1 rfl) (dl_at 32 12 lb_X4_faultIn_1 rfl) sg16_12
theorem dX4_faultIn_54 : decode cX4_faultIn 54 = .ok (.aload_n 0, 1) := dx_42 (dl_at 32 22 lb_X4_faultIn_1 rfl)
theorem dX4_faultIn_55 : decode cX4_faultIn 55 = .ok (.aload_n 1, 1) := dx_43 (dl_at 32 23 lb_X4_faultIn_1 rfl)
theorem dX4_faultIn_56 : decode cX4_faultIn 56 = .ok (.iload_n 2, 1) := dx_28 (dl_at 32 24 lb_X4_faultIn_1 rfl)
theorem dX4_faultIn_57 : decode cX4_faultIn 57 = .ok (.invokevirtual 44, 3) := dx_182 (a := 0) (b := 44) (dl_at 32 25 lb_X4_faultIn_1 rfl) (dl_at 32 26 lb_X4_faultIn_1 rfl) (dl_at 32 27 lb_X4_faultIn_1 rfl) rfl
theorem dX4_faultIn_60 : decode cX4_faultIn 60 = .ok (.istore_n 3, 1) := dx_62 (dl_at 32 28 lb_X4_faultIn_1 rfl)
theorem dX4_faultIn_61 : decode cX4_faultIn 61 = .ok (.iload_n 3, 1) := dx_29 (dl_at 32 29 lb_X4_faultIn_1 rfl)
theorem dX4_faultIn_62 : decode cX4_faultIn 62 = .ok (.bipush (-9), 2) := dx_16 (dl_at 32 30 lb_X4_faultIn_1 rfl) (dl_at 32 31 lb_X4_faultIn_1 rfl) sg8_247
theorem dX4_faultIn_64 : decode cX4_faultIn 64 = .ok (.if_icmp .eq 5, 3) := dx_159 (a := 0) (b := 5) (dl_at 64 0 lb_X4_faultIn_2 rfl) (dl_at 64 1 lb_X4_faultIn_2 rfl) (dl_at 64 2 lb_X4_faultIn_2 rfl) sg16_5
theorem dX4_faultIn_69 : decode cX4_faultIn 69 = .ok (.iinc 2 2, 3) := dx_132 (dl_at 64 5 lb_X4_faultIn_2 rfl) (dl_at 64 6 lb_X4_faultIn_2 rfl) (dl_at 64 7 lb_X4_faultIn_2 rfl) sg8_2
theorem dX4_faultIn_72 : decode cX4_faultIn 72 = .ok (.iinc 2 1, 3) := dx_132 (dl_at 64 8 lb_X4_faultIn_2 rfl) (dl_at 64 9 lb_X4_faultIn_2 rfl) (dl_at 64 10 lb_X4_faultIn_2 rfl) sg8_1
theorem dX4_faultIn_75 : decode cX4_faultIn 75 = .ok (.goto (-63), 3) := dx_167 (a := 255) (b := 193) (dl_at 64 11 lb_X4_faultIn_2 rfl) (dl_at 64 12 lb_X4_faultIn_2 rfl) (dl_at 64 13 lb_X4_faultIn_2 rfl) sg16_65473
theorem dX4_faultIn_67 : decode cX4_faultIn 67 = .ok (.iload_n 3, 1) := dx_29 (dl_at 64 3 lb_X4_faultIn_2 rfl)
theorem dX4_faultIn_68 : decode cX4_faultIn 68 = .ok (.ireturn, 1) := dx_172 (dl_at 64 4 lb_X4_faultIn_2 rfl)
theorem dX4_faultIn_45 : decode cX4_faultIn 45 = .ok (.aload_n 0, 1) := dx_42 (dl_at 32 13 lb_X4_faultIn_1 rfl)
theorem dX4_faultIn_46 : decode cX4_faultIn 46 = .ok (.aload_n 1, 1) := dx_43 (dl_at 32 14 lb_X4_faultIn_1 rfl)
theorem dX4_faultIn_47 : decode cX4_faultIn 47 = .ok (.iload_n 2, 1) := dx_28 (dl_at 32 15 lb_X4_faultIn_1 rfl)
theorem dX4_faultIn_48 : decode cX4_faultIn 48 = .ok (.invokevirtual 40, 3) := dx_182 (a := 0) (b := 40) (dl_at 32 16 lb_X4_faultIn_1 rfl) (dl_at 32 17 lb_X4_faultIn_1 rfl) (dl_at 32 18 lb_X4_faultIn_1 rfl) rfl
theorem dX4_faultIn_51 : decode cX4_faultIn 51 = .ok (.goto 9, 3) := dx_167 (a := 0) (b := 9) (dl_at 32 19 lb_X4_faultIn_1 rfl) (dl_at 32 20 lb_X4_faultIn_1 rfl) (dl_at 32 21 lb_X4_faultIn_1 rfl) sg16_9
theorem dX4_faultIn_31 : decode cX4_faultIn 31 = .ok (.goto 41, 3) := dx_167 (a := 0) (b := 41) (dl_at 0 31 lb_X4_faultIn_0 rfl) (dl_at 32 0 lb_X4_faultIn_1 rfl) (dl_at 32 1 lb_X4_faultIn_1 rfl) sg16_41
def L_sx_kindSigned_2_0 (vs : Int32) : Nat → (Int32) → Int32
  | 0, v1_2 => 0
  | n + 1, v1_2 =>
    if v1_2 ≥ (6 : Int32) then (
      ((-9) : Int32)
    ) else (
      LETV (([98, 109, 102, 114, 117, 115] : List Int32).getD (v1_2 : Int32).toNatClampNeg 0 : Int32) fun t4 =>
      if t4 = vs then (
        (v1_2 : Int32)
      ) else (
        LETV ((v1_2 + 1) : Int32) fun w6 =>
        L_sx_kindSigned_2_0 vs n (w6 : Int32)
      )
    )
def F_sx_kindSigned (vs : Int32) : Int32 :=
  L_sx_kindSigned_2_0 vs 9 (0 : Int32)
def F_sx_faultInBearer (mu : Nat → Nat → Int32) (kx : Nat) (vi : Int32) : Int32 × (Nat → Nat → Int32) :=
  LETV (mu (kx + 13) vi.toNatClampNeg : Int32) fun y2 =>
  LETV (F_sx_kindSigned (y2 : Int32) : Int32) fun r3 =>
  if r3 = ((-9) : Int32) then (
    ((vi : Int32), mu)
  ) else (
    LETV (mu 31 5 : Int32) fun y5 =>
    if y5 > (0 : Int32) then (
      ((vi : Int32), mu)
    ) else (
      LETV (mu 31 4 : Int32) fun y7 =>
      if y7 < (7 : Int32) then (
        LETV (vi + 1 : Int32) fun t9 =>
        LETV (F_sx_figureAt mu kx (t9 : Int32) : Int32) fun r10 =>
        if r10 = ((-9) : Int32) then (
          LETV (vi + 1 : Int32) fun t34 =>
          ((t34 : Int32), mu)
        ) else (
          LETV (vi + 2 : Int32) fun t12 =>
          LETV (F_sx_figureAt mu kx (t12 : Int32) : Int32) fun r13 =>
          if r13 = ((-9) : Int32) then (
            LETV (vi + 2 : Int32) fun t33 =>
            ((t33 : Int32), mu)
          ) else (
            LETV (va_up mu 48 (upd (mu 48) y7.toNatClampNeg r3) : Nat → Nat → Int32) fun nu15 =>
            LETV (10 * r10 : Int32) fun t20 =>
            LETV (t20 + r13 : Int32) fun t21 =>
            LETV (va_up nu15 49 (upd (nu15 49) y7.toNatClampNeg t21) : Nat → Nat → Int32) fun nu22 =>
            LETV (y7 + 1 : Int32) fun t27 =>
            LETV (va_up nu22 31 (upd (nu22 31) 4 t27) : Nat → Nat → Int32) fun nu28 =>
            (((-9) : Int32), nu28)
          )
        )
      ) else (
        ((vi : Int32), mu)
      )
    )
  )
def F_sx_faultInPath (mu : Nat → Nat → Int32) (kx : Nat) (vi : Int32) : Int32 × (Nat → Nat → Int32) :=
  LETV (mu 31 5 : Int32) fun y1 =>
  if y1 < (12 : Int32) then (
    LETV (vi + 1 : Int32) fun t3 =>
    LETV (F_sx_figureAt mu kx (t3 : Int32) : Int32) fun r4 =>
    if r4 = ((-9) : Int32) then (
      LETV (vi + 1 : Int32) fun t6 =>
      ((t6 : Int32), mu)
    ) else (
      LETV (mu 31 4 : Int32) fun y7 =>
      if r4 < y7 then (
        LETV (vi + 2 : Int32) fun t9 =>
        LETV (F_sx_figureAt mu kx (t9 : Int32) : Int32) fun r10 =>
        if r10 = ((-9) : Int32) then (
          LETV (vi + 2 : Int32) fun t12 =>
          ((t12 : Int32), mu)
        ) else (
          if r10 ≥ y7 then (
            LETV (vi + 2 : Int32) fun t14 =>
            ((t14 : Int32), mu)
          ) else (
            if r10 = r4 then (
              LETV (vi + 2 : Int32) fun t29 =>
              ((t29 : Int32), mu)
            ) else (
              LETV (va_up mu 50 (upd (mu 50) y1.toNatClampNeg r4) : Nat → Nat → Int32) fun nu16 =>
              LETV (va_up nu16 51 (upd (nu16 51) y1.toNatClampNeg r10) : Nat → Nat → Int32) fun nu20 =>
              LETV (y1 + 1 : Int32) fun t24 =>
              LETV (va_up nu20 31 (upd (nu20 31) 5 t24) : Nat → Nat → Int32) fun nu25 =>
              (((-9) : Int32), nu25)
            )
          )
        )
      ) else (
        LETV (vi + 1 : Int32) fun t30 =>
        ((t30 : Int32), mu)
      )
    )
  ) else (
    ((vi : Int32), mu)
  )
def L_sx_faultIn_12_0 (kx : Nat) : Nat → (Int32) → (Nat → Nat → Int32) → Int32 × (Nat → Nat → Int32)
  | 0, v2_12, nu12_ => (0, nu12_)
  | n + 1, v2_12, nu12_ =>
    LETV (nu12_ kx 1 : Int32) fun y8 =>
    if v2_12 ≥ y8 then (
      (((-9) : Int32), nu12_)
    ) else (
      LETV (nu12_ (kx + 13) v2_12.toNatClampNeg : Int32) fun y11 =>
      if y11 = (32 : Int32) then (
        LETV ((v2_12 + 1) : Int32) fun w25 =>
        L_sx_faultIn_12_0 kx n (w25 : Int32) nu12_
      ) else (
        if y11 = (119 : Int32) then (
          LETP (F_sx_faultInPath nu12_ kx (v2_12 : Int32)) fun r20 xi20 =>
          if r20 = ((-9) : Int32) then (
            LETV ((v2_12 + 2) : Int32) fun w23 =>
            LETV ((w23 + 1) : Int32) fun w24 =>
            L_sx_faultIn_12_0 kx n (w24 : Int32) xi20
          ) else (
            ((r20 : Int32), xi20)
          )
        ) else (
          LETP (F_sx_faultInBearer nu12_ kx (v2_12 : Int32)) fun r15 xi15 =>
          if r15 = ((-9) : Int32) then (
            LETV ((v2_12 + 2) : Int32) fun w18 =>
            LETV ((w18 + 1) : Int32) fun w19 =>
            L_sx_faultIn_12_0 kx n (w19 : Int32) xi15
          ) else (
            ((r15 : Int32), xi15)
          )
        )
      )
    )
def F_sx_faultIn (mu : Nat → Nat → Int32) (kx : Nat) : Int32 × (Nat → Nat → Int32) :=
  LETV (va_up mu 31 (upd (mu 31) 4 0) : Nat → Nat → Int32) fun nu1 =>
  LETV (va_up nu1 31 (upd (nu1 31) 5 0) : Nat → Nat → Int32) fun nu4 =>
  L_sx_faultIn_12_0 kx 85 (0 : Int32) nu4
set_option maxHeartbeats 4000000 in
set_option maxRecDepth 100000 in
/-- sx_kindSigned -/
theorem sx_kindSigned (l : Launch) (dC : Nat → ClassId) (dI : Nat → Nat → Nat) (tys : List (ClassId × FieldType)) (H : Heap) (tt : Nat) (vs : Int32) : Met l yX4_kindSigned (wU yX4_kindSigned cX4_kindSigned 2 (some .int)) ({ frames := 0, cells := 0, slots := 0, locals := 0 }) (va_Pc [.int vs] (sy_P (dC, dI) vwCl tys (fun _ => False) tt H)) (va_Qi (fun (z : Int32) (_ : Unit) => z = F_sx_kindSigned vs ∧ (-9 ≤ z.toInt ∧ z.toInt ≤ 5)) (fun _ t => t.heap = H) (fun _ => False)) 0 0 (fun _ => False) := by
  refine Met.ofW (cc := cX4_kindSigned) (maxL := 2) (ret := (some .int)) (by decide) rfl ?_
  intro p e s m args below meth c s₁ B hml hv
  obtain ⟨rfl, hh, hK, hz, hks⟩ := hv
  have hx := B.exec
  have hb := B.bytes
  have hr := B.returns
  have hts := atoms_spec (ws := (wU yX4_kindSigned cX4_kindSigned 2 (some .int))) B.pre
  have hown : s.vm.findClass RX4 = some m.cls := findClass_of_methodNamed B.named
  have hlocks := B.notSynchronized
  subst hh
  have hS : va_S (fun _ => False) s.heap s.heap [] := va_S.rf
  have hl := lv_entry ([.int vs]) (n := 2) (Nat.le_of_ble_eq_true rfl)
  rw [lg_entry_eq]
  generalize (lg_sl ([.int vs]) ++ List.replicate (2 - (lg_sl ([.int vs])).length) Slot.unset).toArray = ls at hl ⊢
  have hl : lv_has ls 2 [(0, .int vs)] := hl
  obtain ⟨fz, hfz⟩ : ∃ z, F_sx_kindSigned vs = z := ⟨_, rfl⟩
  have hF := hfz
  unfold F_sx_kindSigned at hF
  refine lv_iconst (v := 0) hx hb dX4_kindSigned_0 (by decide) ?_
  refine lv_istore_n (lv' := [(1, .int 0), (0, .int vs)]) hx hb dX4_kindSigned_1 rfl hl (by decide) rfl (fun ls hl => ?_)
  have loop2 : ∀ (n2 : Nat) (v1_2 : Int32) (locs : List Loc) (ls : Array Slot), (6 + 1 - v1_2.toInt).toNat < n2 → (0 ≤ v1_2.toInt ∧ v1_2.toInt ≤ 6) → L_sx_kindSigned_2_0 vs n2 v1_2 = fz → va_S (fun _ => False) s.heap s.heap locs → lv_has ls 2 [(1, .int v1_2), (0, .int vs)] → W p l e (headSpec (wU yX4_kindSigned cX4_kindSigned 2 (some .int)) ({ frames := 0, cells := 0, slots := 0, locals := 0 })).room s m ([.int vs] : List Value).toArray below meth c s.heap locs 0 0 (MQ below (va_Qi (fun (z : Int32) (_ : Unit) => z = F_sx_kindSigned vs ∧ (-9 ≤ z.toInt ∧ z.toInt ≤ 5)) (fun _ t => t.heap = s.heap) (fun _ => False)) ([.int vs] : List Value).toArray s 0 0 (fun _ => False)) (F0 m 2 ls []) := by
    intro n2
    induction n2 with
    | zero => intro v1_2 locs ls hm; exact absurd hm (Nat.not_lt_zero _)
    | succ n2 ih2 =>
      intro v1_2 locs ls hm_2 h_v1_2 hF hS hl
      rw [L_sx_kindSigned_2_0] at hF
      refine lv_iload_n hx hb dX4_kindSigned_2 rfl (lv_at hl 0 rfl) ?_
      refine va_getsN hx hb hks.1 hS hown (va_Nw.use rfl hz.2.2.2.2.2.2.2.2.2.2.2.2.2.2.2.2) (fun _ h9 => h9) dX4_kindSigned_3 ?_
      refine va_tlen hx hb hks.2 hS (v := 6) rfl dX4_kindSigned_6 ?_
      refine lv_icmp_ge (tgt := 27) hx hb dX4_kindSigned_7 (by decide) (fun c_2 => ?_) (fun c_2 => ?_)
      · have hF := (if_pos c_2).symm.trans hF
        have c_2 : 6 ≤ v1_2.toInt := il_le c_2
        refine lv_bipush (v := (-9)) hx hb dX4_kindSigned_27 (by decide) ?_
        exact W.iret (v := (-9)) hx hb hr (fun t ht hW => ⟨⟨(-9), (), rfl, ⟨hF.trans hfz.symm, (by have h6 : ((-9) : Int32).toInt = -9 := rfl; omega)⟩, ht⟩, hS.F ht⟩) hS.2.2 dX4_kindSigned_29
      · have hF := (if_neg c_2).symm.trans hF
        have c_2 : v1_2.toInt < 6 := il_nle c_2
        refine va_getsN hx hb hks.1 hS hown (va_Nw.use rfl hz.2.2.2.2.2.2.2.2.2.2.2.2.2.2.2.2) (fun _ h9 => h9) dX4_kindSigned_10 ?_
        refine lv_iload_n hx hb dX4_kindSigned_13 rfl (lv_at hl 0 rfl) ?_
        refine va_tc hx hb hks.2 hS (show vp_in v1_2 6 from vi_of (by omega) (by omega)) rfl dX4_kindSigned_14 ?_
        refine lv_topi (fun t4 et4 => ?_)
        have hF := mi_let hF et4
        refine lv_iload_n hx hb dX4_kindSigned_15 rfl (lv_at hl 1 rfl) ?_
        refine lv_icmp_ne (tgt := 21) hx hb dX4_kindSigned_16 (by decide) (fun c_5 => ?_) (fun c_5 => ?_)
        · have hF := (if_neg c_5).symm.trans hF
          have c_5 : ¬ t4.toInt = vs.toInt := il_ne c_5
          refine lv_iinc (v := (v1_2 + 1)) (lv' := [(1, .int (v1_2 + 1)), (0, .int vs)]) hx hb dX4_kindSigned_21 hl (k := 0) rfl rfl (by decide) rfl (fun ls hl => ?_)
          refine loc_gen (P := fun w9 => lv_has ls 2 [(1, .int w9), (0, .int vs)]) (v1_2 + 1) hl (fun w6 hw6 hl => ?_)
          have hl : lv_has ls 2 [(1, .int w6), (0, .int vs)] := hl
          have hF := mi_let hF hw6.symm
          have aw6 : w6.toInt = v1_2.toInt + 1 := by rw [← hw6]; first | exact va1 (Int.lt_of_le_of_lt h_v1_2.2 (by decide)) | exact va1 (by omega)
          refine lv_goto (tgt := 2) hx hb dX4_kindSigned_24 (by decide) ?_
          exact ih2 (w6)  _ _ (by first | exact ms_up hm_2 aw6 h_v1_2.2 | exact ms_lt hm_2 (by omega) (by omega) | omega) (by first | exact rg_up aw6 h_v1_2 (by omega) | omega)   hF hS (lv_sub hl [0, 1] rfl)
        · have hF := (if_pos c_5).symm.trans hF
          have c_5 : t4.toInt = vs.toInt := il_eq c_5
          refine lv_iload_n hx hb dX4_kindSigned_19 rfl (lv_at hl 0 rfl) ?_
          exact W.iret (v := v1_2) hx hb hr (fun t ht hW => ⟨⟨v1_2, (), rfl, ⟨hF.trans hfz.symm, (by omega)⟩, ht⟩, hS.F ht⟩) hS.2.2 dX4_kindSigned_20
  exact loop2 9 (0)  _ _ (by have h80 : (0 : Int32).toInt = 0 := rfl; omega) (by have h80 : (0 : Int32).toInt = 0 := rfl; exact ⟨by omega, by omega⟩)   hF hS hl
set_option maxHeartbeats 4000000 in
set_option maxRecDepth 100000 in
/-- sx_faultInBearer -/
theorem sx_faultInBearer (l : Launch) (dC : Nat → ClassId) (dI : Nat → Nat → Nat) (cs : Nat → ClassId) (ad : Nat → Nat) (mu : Nat → Nat → Int32) (ok : okR loX hiX mu) (H : Heap) (hP : va_P (dC, dI) vwCl (wR 157 ad (EX cs ad) mu) H) (hD0 : va_D (fun _ => True) (wR 157 ad (EX cs ad) mu)) (tt : Nat) (kx : Nat) (h1kx : 14 ≤ kx) (h2kx : kx < 18) (vi : Int32) (hin0 : 0 ≤ vi.toInt ∧ vi.toInt ≤ 79) : Met l yX4_faultInBearer (wU yX4_faultInBearer cX4_faultInBearer 6 (some .int)) ({ frames := 1, cells := 0, slots := 0, locals := 21 }) (va_Pc [.ref (ad 31), .ref (ad kx), .int vi] (sy_P (dC, dI) vwCl (tyW cs) (va_A (wR 157 ad (EX cs ad) mu) H.size) tt H)) (va_Qi (fun (z : Int32) (xi : Nat → Nat → Int32) => (z, xi) = F_sx_faultInBearer mu kx vi ∧ okR loX hiX xi ∧ (True) ∧ (∀ k f : Nat, Nat.testBit 510 (gpX k f) = true → xi k f = mu k f)) (fun xi t => va_P (dC, dI) vwCl (wR 157 ad (EX cs ad) xi) t.heap) (va_A (wR 157 ad (EX cs ad) mu) H.size)) 0 0 (va_A (wR 157 ad (EX cs ad) mu) H.size) := by
  refine Met.ofW (cc := cX4_faultInBearer) (maxL := 6) (ret := (some .int)) (by decide) rfl ?_
  intro p e s m args below meth c s₁ B hml hv
  obtain ⟨rfl, hh, hK, hz, hks⟩ := hv
  have hx := B.exec
  have hb := B.bytes
  have hr := B.returns
  have hts := atoms_spec (ws := (wU yX4_faultInBearer cX4_faultInBearer 6 (some .int))) B.pre
  have hown : s.vm.findClass RX4 = some m.cls := findClass_of_methodNamed B.named
  have hlocks := B.notSynchronized
  subst hh
  have hD := hD0.self (sz := s.heap.size)
  have hA : ∀ q : Nat, s.heap.size ≤ q → (va_A (wR 157 ad (EX cs ad) mu) s.heap.size) q := fun q h => Or.inr h
  have hS : va_S (va_A (wR 157 ad (EX cs ad) mu) s.heap.size) s.heap s.heap [] := va_S.rf
  have hl := lv_entry ([.ref (ad 31), .ref (ad kx), .int vi]) (n := 6) (Nat.le_of_ble_eq_true rfl)
  rw [lg_entry_eq]
  generalize (lg_sl ([.ref (ad 31), .ref (ad kx), .int vi]) ++ List.replicate (6 - (lg_sl ([.ref (ad 31), .ref (ad kx), .int vi])).length) Slot.unset).toArray = ls at hl ⊢
  have hl : lv_has ls 6 [(0, .ref (ad 31)), (1, .ref (ad kx)), (2, .int vi)] := hl
  obtain ⟨fz, hfz⟩ : ∃ z, F_sx_faultInBearer mu kx vi = z := ⟨_, rfl⟩
  have hF := hfz
  unfold F_sx_faultInBearer at hF
  refine lv_aload_n hx hb dX4_faultInBearer_0 rfl (lv_at hl 1 rfl) ?_
  have hk1 : 27 ≤ kx + 13 ∧ kx + 13 < 31 := add_in 13 h1kx h2kx
  refine va_get (D := (dC, dI)) (ci := 9) (v := .ref (ad (kx + 13))) (C := RX9) (T := TX9) (N := 2) hx hb hts inG9 hown hK hP kx (gX_text cs ad mu kx h1kx h2kx) rfl 0 (by decide) (hts _ (List.mem_cons_of_mem _ mw_2_146)) (fun _ h9 => h9) rfl dX4_faultInBearer_1 ?_
  refine lv_iload_n hx hb dX4_faultInBearer_4 rfl (lv_at hl 2 rfl) ?_
  refine va_bald hx hb hK hP (kx + 13) 1 (gX_bytes cs ad mu (kx + 13) hk1.1 hk1.2) rfl (show vp_in vi 80 from vi_of (by omega) (by omega)) dX4_faultInBearer_5 ?_
  refine lv_topi (fun y2 ey2 => ?_)
  have hF := mi_let hF ey2
  have by2 : y2.toInt = (mu (kx + 13) vi.toNatClampNeg).toInt := congrArg Int32.toInt ey2
  have gy2 : -128 ≤ y2.toInt ∧ y2.toInt ≤ 127 := by rw [ey2]; exact rX_bytes_s ok (kx + 13) hk1.1 hk1.2 vi.toNatClampNeg
  refine cr_i (va_runS (As := [.int y2]) (rest := []) ⟨hx, hb, hml, hown, hts⟩ (sx_kindSigned l dC dI (tyW cs) s.heap tt y2) (va_cwS 1 hts (wU_S mw_3_57 mw_3_55 mw_3_56 mw_1_5) rfl rfl rfl (by decide +kernel) ⟨Nat.le_of_ble_eq_true rfl, Nat.le_of_ble_eq_true rfl⟩) ⟨sy_c, sy_m hK hz (hks.on hS (fun _ h => h.elim))⟩ rfl rfl hl.1 rfl (lv_room (Nat.le_of_ble_eq_true rfl)) dX4_faultInBearer_6 ⟨Nat.zero_le _, Nat.zero_le _⟩) hS (fun r3 hw3 locs hS => ?_)
  obtain ⟨hfe3, hw3⟩ := hw3
  have hF := mi_let hF hfe3
  have gr3 : -9 ≤ r3.toInt ∧ r3.toInt ≤ 5 := hw3
  refine lv_istore_n (lv' := [(3, .int r3), (0, .ref (ad 31)), (1, .ref (ad kx)), (2, .int vi)]) hx hb dX4_faultInBearer_9 rfl hl (by decide) rfl (fun ls hl => ?_)
  refine lv_iload_n hx hb dX4_faultInBearer_10 rfl (lv_at hl 0 rfl) ?_
  refine lv_bipush (v := (-9)) hx hb dX4_faultInBearer_11 (by decide) ?_
  refine lv_icmp_eq (tgt := 32) hx hb dX4_faultInBearer_13 (by decide) (fun c_4 => ?_) (fun c_4 => ?_)
  · have hF := (if_pos c_4).symm.trans hF
    have c_4 : r3.toInt = -9 := il_eq c_4
    refine lv_iload_n hx hb dX4_faultInBearer_32 rfl (lv_at hl 3 rfl) ?_
    exact W.iret (v := vi) hx hb hr (fun t ht hW => ⟨⟨vi, mu, rfl, ⟨hF.trans hfz.symm, ok, trivial, (fun _ _ _ => rfl)⟩, by first | (subst ht; exact hP) | (rw [ht]; exact hP) | (show va_P (dC, dI) vwCl (wR 157 ad (EX cs ad) mu) t.heap; rw [ht]; exact hP)⟩, hS.F ht⟩) hS.2.2 dX4_faultInBearer_33
  · have hF := (if_neg c_4).symm.trans hF
    have c_4 : ¬ r3.toInt = -9 := il_ne c_4
    refine lv_aload_n hx hb dX4_faultInBearer_16 rfl (lv_at hl 1 rfl) ?_
    refine va_get (D := (dC, dI)) (ci := 4) (v := .int (mu 31 5)) (C := RX4) (T := TX4) (N := 6) hx hb hts inG4 hown hK hP 31 (gX_31 cs ad mu) rfl 5 (by decide) (hts _ (List.mem_cons_of_mem _ mw_1_196)) (fun _ h9 => h9) rfl dX4_faultInBearer_17 ?_
    refine lv_topi (fun y5 ey5 => ?_)
    have hF := mi_let hF ey5
    have by5 : y5.toInt = (mu 31 5).toInt := congrArg Int32.toInt ey5
    have gy5 : 0 ≤ y5.toInt ∧ y5.toInt ≤ 12 := by rw [ey5]; exact rX_31_5 ok
    refine lv_if_gt (tgt := 32) hx hb dX4_faultInBearer_20 (by decide) (fun c_6 => ?_) (fun c_6 => ?_)
    · have hF := (if_pos c_6).symm.trans hF
      have c_6 : 0 < y5.toInt := il_lt c_6
      refine lv_iload_n hx hb dX4_faultInBearer_32 rfl (lv_at hl 3 rfl) ?_
      exact W.iret (v := vi) hx hb hr (fun t ht hW => ⟨⟨vi, mu, rfl, ⟨hF.trans hfz.symm, ok, trivial, (fun _ _ _ => rfl)⟩, by first | (subst ht; exact hP) | (rw [ht]; exact hP) | (show va_P (dC, dI) vwCl (wR 157 ad (EX cs ad) mu) t.heap; rw [ht]; exact hP)⟩, hS.F ht⟩) hS.2.2 dX4_faultInBearer_33
    · have hF := (if_neg c_6).symm.trans hF
      have c_6 : y5.toInt ≤ 0 := il_nlt c_6
      refine lv_aload_n hx hb dX4_faultInBearer_23 rfl (lv_at hl 1 rfl) ?_
      refine va_get (D := (dC, dI)) (ci := 4) (v := .int (mu 31 4)) (C := RX4) (T := TX4) (N := 6) hx hb hts inG4 hown hK hP 31 (gX_31 cs ad mu) rfl 4 (by decide) (hts _ (List.mem_cons_of_mem _ mw_1_195)) (fun _ h9 => h9) rfl dX4_faultInBearer_24 ?_
      refine lv_topi (fun y7 ey7 => ?_)
      have hF := mi_let hF ey7
      have by7 : y7.toInt = (mu 31 4).toInt := congrArg Int32.toInt ey7
      have gy7 : 0 ≤ y7.toInt ∧ y7.toInt ≤ 7 := by rw [ey7]; exact rX_31_4 ok
      refine lv_bipush (v := 7) hx hb dX4_faultInBearer_27 (by decide) ?_
      refine lv_icmp_lt (tgt := 34) hx hb dX4_faultInBearer_29 (by decide) (fun c_8 => ?_) (fun c_8 => ?_)
      · have hF := (if_pos c_8).symm.trans hF
        have c_8 : y7.toInt < 7 := il_lt c_8
        refine lv_aload_n hx hb dX4_faultInBearer_34 rfl (lv_at hl 2 rfl) ?_
        refine lv_iload_n hx hb dX4_faultInBearer_35 rfl (lv_at hl 3 rfl) ?_
        refine lv_iconst (v := 1) hx hb dX4_faultInBearer_36 (by decide) ?_
        refine lv_iadd hx hb dX4_faultInBearer_37 ?_
        refine lv_topi (fun t9 et9 => ?_)
        have hF := mi_let hF et9
        have at9 : t9.toInt = vi.toInt + 1 := by rw [et9]; exact va1 (by omega)
        refine cr_i (va_runV (As := [.int t9]) (rest := []) ⟨hx, hb, hml, hown, hts⟩ (sx_figureAt l dC dI cs ad mu ok s.heap hP kx h1kx h2kx t9) (cwV 1 hts (wU_V mw_3_50 mw_3_47 mw_3_48 mw_3_49 mw_1_12) rfl rfl rfl (by decide +kernel) ⟨Nat.le_of_ble_eq_true rfl, Nat.le_of_ble_eq_true rfl⟩) ⟨sz_c, va_recv hK hP (ci := 9) (q0 := kx) rfl (gX_text cs ad mu kx h1kx h2kx), sz_m hK hz⟩ rfl rfl hl.1 rfl (lv_room (Nat.le_of_ble_eq_true rfl)) dX4_faultInBearer_38 ⟨Nat.zero_le _, Nat.zero_le _⟩) hS (fun r10 hw10 locs hS => ?_)
        obtain ⟨hfe10, hw10⟩ := hw10
        have hF := mi_let hF hfe10
        have gr10 : (r10.toInt = -9 ∨ 0 ≤ r10.toInt) ∧ -9 ≤ r10.toInt ∧ r10.toInt ≤ 9 := hw10
        refine lv_istore (lv' := [(4, .int r10), (3, .int r3), (0, .ref (ad 31)), (1, .ref (ad kx)), (2, .int vi)]) hx hb dX4_faultInBearer_41 hl (by decide) rfl (fun ls hl => ?_)
        refine lv_iload hx hb dX4_faultInBearer_43 (lv_at hl 0 rfl) ?_
        refine lv_bipush (v := (-9)) hx hb dX4_faultInBearer_45 (by decide) ?_
        refine lv_icmp_ne (tgt := 54) hx hb dX4_faultInBearer_47 (by decide) (fun c_11 => ?_) (fun c_11 => ?_)
        · have hF := (if_neg c_11).symm.trans hF
          have c_11 : ¬ r10.toInt = -9 := il_ne c_11
          refine lv_aload_n hx hb dX4_faultInBearer_54 rfl (lv_at hl 3 rfl) ?_
          refine lv_iload_n hx hb dX4_faultInBearer_55 rfl (lv_at hl 4 rfl) ?_
          refine lv_iconst (v := 2) hx hb dX4_faultInBearer_56 (by decide) ?_
          refine lv_iadd hx hb dX4_faultInBearer_57 ?_
          refine lv_topi (fun t12 et12 => ?_)
          have hF := mi_let hF et12
          have at12 : t12.toInt = vi.toInt + 2 := by rw [et12]; exact tI_add (rfl : vi.toInt = _) (rfl : (2 : Int32).toInt = 2) (by omega) (by omega)
          refine cr_i (va_runV (As := [.int t12]) (rest := []) ⟨hx, hb, hml, hown, hts⟩ (sx_figureAt l dC dI cs ad mu ok s.heap hP kx h1kx h2kx t12) (cwV 1 hts (wU_V mw_3_50 mw_3_47 mw_3_48 mw_3_49 mw_1_12) rfl rfl rfl (by decide +kernel) ⟨Nat.le_of_ble_eq_true rfl, Nat.le_of_ble_eq_true rfl⟩) ⟨sz_c, va_recv hK hP (ci := 9) (q0 := kx) rfl (gX_text cs ad mu kx h1kx h2kx), sz_m hK hz⟩ rfl rfl hl.1 rfl (lv_room (Nat.le_of_ble_eq_true rfl)) dX4_faultInBearer_58 ⟨Nat.zero_le _, Nat.zero_le _⟩) hS (fun r13 hw13 locs hS => ?_)
          obtain ⟨hfe13, hw13⟩ := hw13
          have hF := mi_let hF hfe13
          have gr13 : (r13.toInt = -9 ∨ 0 ≤ r13.toInt) ∧ -9 ≤ r13.toInt ∧ r13.toInt ≤ 9 := hw13
          refine lv_istore (lv' := [(5, .int r13), (4, .int r10), (3, .int r3), (0, .ref (ad 31)), (1, .ref (ad kx)), (2, .int vi)]) hx hb dX4_faultInBearer_61 hl (by decide) rfl (fun ls hl => ?_)
          refine lv_iload hx hb dX4_faultInBearer_63 (lv_at hl 0 rfl) ?_
          refine lv_bipush (v := (-9)) hx hb dX4_faultInBearer_65 (by decide) ?_
          refine lv_icmp_ne (tgt := 74) hx hb dX4_faultInBearer_67 (by decide) (fun c_14 => ?_) (fun c_14 => ?_)
          · have hF := (if_neg c_14).symm.trans hF
            have c_14 : ¬ r13.toInt = -9 := il_ne c_14
            refine lv_aload_n hx hb dX4_faultInBearer_74 rfl (lv_at hl 3 rfl) ?_
            refine va_get (D := (dC, dI)) (ci := 4) (v := .ref (ad 48)) (C := RX4) (T := TX4) (N := 6) hx hb hts inG4 hown hK hP 31 (gX_31 cs ad mu) rfl 0 (by decide) (hts _ (List.mem_cons_of_mem _ mw_1_191)) (fun _ h9 => h9) rfl dX4_faultInBearer_75 ?_
            refine lv_aload_n hx hb dX4_faultInBearer_78 rfl (lv_at hl 3 rfl) ?_
            refine va_get (D := (dC, dI)) (ci := 4) (v := .int (mu 31 4)) (C := RX4) (T := TX4) (N := 6) hx hb hts inG4 hown hK hP 31 (gX_31 cs ad mu) rfl 4 (by decide) (hts _ (List.mem_cons_of_mem _ mw_1_195)) (fun _ h9 => h9) rfl dX4_faultInBearer_79 ?_
            refine lq_i y7 ey7.symm ?_
            refine lv_iload_n hx hb dX4_faultInBearer_82 rfl (lv_at hl 2 rfl) ?_
            refine va_iast hx hb hK hP (wR_D mu hD) hS 48 0 (gX_48 cs ad mu) rfl (show vp_in y7 7 from vi_of (by omega) (by omega)) dX4_faultInBearer_83 (fun H locs hP _ hS => ?_)
            refine wr_gen (upd (mu 48) y7.toNatClampNeg r3) hP (rfl) (fun nu15 hn15 hP => ?_)
            have hF := mi_let hF hn15.symm
            have ok := tX_48_s ok y7.toNatClampNeg hn15
            have ez16 : y2 = nu15 (kx + 13) vi.toNatClampNeg := ey2.trans (congrFun (up_k hn15 (ne_hi (by decide) hk1.2).symm) vi.toNatClampNeg).symm
            have ez17 : y5 = nu15 31 5 := ey5.trans (congrFun (up_k hn15 (by decide)) 5).symm
            have ez18 : y7 = nu15 31 4 := ey7.trans (congrFun (up_k hn15 (by decide)) 4).symm
            have kp19 : (∀ k f : Nat, Nat.testBit 510 (gpX k f) = true → nu15 k f = mu k f) := kp_c 0 hn15 (fun _ => rfl) (by decide) (fun _ _ _ => rfl)
            refine lv_aload_n hx hb dX4_faultInBearer_84 rfl (lv_at hl 3 rfl) ?_
            refine va_get (D := (dC, dI)) (ci := 4) (v := .ref (ad 49)) (C := RX4) (T := TX4) (N := 6) hx hb hts inG4 hown hK hP 31 (gX_31 cs ad nu15) rfl 1 (by decide) (hts _ (List.mem_cons_of_mem _ mw_1_192)) (fun _ h9 => h9) rfl dX4_faultInBearer_85 ?_
            refine lv_aload_n hx hb dX4_faultInBearer_88 rfl (lv_at hl 3 rfl) ?_
            refine va_get (D := (dC, dI)) (ci := 4) (v := .int (nu15 31 4)) (C := RX4) (T := TX4) (N := 6) hx hb hts inG4 hown hK hP 31 (gX_31 cs ad nu15) rfl 4 (by decide) (hts _ (List.mem_cons_of_mem _ mw_1_195)) (fun _ h9 => h9) rfl dX4_faultInBearer_89 ?_
            refine lq_i y7 ez18.symm ?_
            refine lv_bipush (v := 10) hx hb dX4_faultInBearer_92 (by decide) ?_
            refine lv_iload hx hb dX4_faultInBearer_94 (lv_at hl 1 rfl) ?_
            refine lv_imul hx hb dX4_faultInBearer_96 ?_
            refine lv_topi (fun t20 et20 => ?_)
            have hF := mi_let hF et20
            have at20 : t20.toInt = 10 * r10.toInt := by rw [et20]; exact tI_mul (rfl : (10 : Int32).toInt = 10) (rfl : r10.toInt = _) (by omega) (by omega)
            refine lv_iload hx hb dX4_faultInBearer_97 (lv_at hl 0 rfl) ?_
            refine lv_iadd hx hb dX4_faultInBearer_99 ?_
            refine lv_topi (fun t21 et21 => ?_)
            have hF := mi_let hF et21
            have at21 : t21.toInt = t20.toInt + r13.toInt := by rw [et21]; exact tI_add (rfl : t20.toInt = _) (rfl : r13.toInt = _) (by omega) (by omega)
            refine va_iast hx hb hK hP (wR_D nu15 hD) hS 49 0 (gX_49 cs ad nu15) rfl (show vp_in y7 7 from vi_of (by omega) (by omega)) dX4_faultInBearer_100 (fun H locs hP _ hS => ?_)
            refine wr_gen (upd (nu15 49) y7.toNatClampNeg t21) hP (rfl) (fun nu22 hn22 hP => ?_)
            have hF := mi_let hF hn22.symm
            have ok := tX_49_s ok y7.toNatClampNeg hn22
            have ez23 : y2 = nu22 (kx + 13) vi.toNatClampNeg := ez16.trans (congrFun (up_k hn22 (ne_hi (by decide) hk1.2).symm) vi.toNatClampNeg).symm
            have ez24 : y5 = nu22 31 5 := ez17.trans (congrFun (up_k hn22 (by decide)) 5).symm
            have ez25 : y7 = nu22 31 4 := ez18.trans (congrFun (up_k hn22 (by decide)) 4).symm
            have kp26 : (∀ k f : Nat, Nat.testBit 510 (gpX k f) = true → nu22 k f = mu k f) := kp_c 0 hn22 (fun _ => rfl) (by decide) kp19
            refine lv_aload_n hx hb dX4_faultInBearer_101 rfl (lv_at hl 3 rfl) ?_
            refine lv_dup hx hb dX4_faultInBearer_102 rfl ?_
            refine va_get (D := (dC, dI)) (ci := 4) (v := .int (nu22 31 4)) (C := RX4) (T := TX4) (N := 6) hx hb hts inG4 hown hK hP 31 (gX_31 cs ad nu22) rfl 4 (by decide) (hts _ (List.mem_cons_of_mem _ mw_1_195)) (fun _ h9 => h9) rfl dX4_faultInBearer_103 ?_
            refine lq_i y7 ez25.symm ?_
            refine lv_iconst (v := 1) hx hb dX4_faultInBearer_106 (by decide) ?_
            refine lv_iadd hx hb dX4_faultInBearer_107 ?_
            refine lv_topi (fun t27 et27 => ?_)
            have hF := mi_let hF et27
            have at27 : t27.toInt = y7.toInt + 1 := by rw [et27]; exact va1 (by omega)
            refine va_put (D := (dC, dI)) (ci := 4) (v := .int t27) (ty := .int) (C := RX4) (T := TX4) (N := 6) hx hb hts inG4 tyX4 tyX4_ok nmX4 hown hK hP (wR_D nu22 hD) hS 31 (gX_31 cs ad nu22) rfl 4 (by decide) (hts _ (List.mem_cons_of_mem _ mw_1_195)) (fun _ h9 => h9) rfl (by decide +kernel) rfl rfl (Nat.le_of_ble_eq_true rfl) dX4_faultInBearer_108 (fun H locs hP _ hS => ?_)
            simp only [List.set_cons_succ, List.set_cons_zero] at hP
            refine wr_gen (upd (nu22 31) 4 t27) hP ((hX_31_4 cs ad _ _)) (fun nu28 hn28 hP => ?_)
            have hF := mi_let hF hn28.symm
            have ok := tX_31_4 ok hn28 (by omega)
            have ez29 : y2 = nu28 (kx + 13) vi.toNatClampNeg := ez23.trans (congrFun (up_k hn28 (ne_hi (by decide) hk1.2).symm) vi.toNatClampNeg).symm
            have ez30 : y5 = nu28 31 5 := ez24.trans (up_f hn28 (by decide)).symm
            have kp31 : (∀ k f : Nat, Nat.testBit 510 (gpX k f) = true → nu28 k f = mu k f) := kp_c 0 hn28 (fun _ => rfl) (by decide) kp26
            have ez32 : t27 = nu28 31 4 := up_v hn28
            refine lv_bipush (v := (-9)) hx hb dX4_faultInBearer_111 (by decide) ?_
            exact W.iret (v := (-9)) hx hb hr (fun t ht hW => ⟨⟨(-9), nu28, rfl, ⟨hF.trans hfz.symm, ok, trivial, kp31⟩, by first | (subst ht; exact hP) | (rw [ht]; exact hP) | (show va_P (dC, dI) vwCl (wR 157 ad (EX cs ad) nu28) t.heap; rw [ht]; exact hP)⟩, hS.F ht⟩) hS.2.2 dX4_faultInBearer_113
          · have hF := (if_pos c_14).symm.trans hF
            have c_14 : r13.toInt = -9 := il_eq c_14
            refine lv_iload_n hx hb dX4_faultInBearer_70 rfl (lv_at hl 5 rfl) ?_
            refine lv_iconst (v := 2) hx hb dX4_faultInBearer_71 (by decide) ?_
            refine lv_iadd hx hb dX4_faultInBearer_72 ?_
            refine lv_topi (fun t33 et33 => ?_)
            have hF := mi_let hF et33
            have at33 : t33.toInt = vi.toInt + 2 := by rw [et33]; exact tI_add (rfl : vi.toInt = _) (rfl : (2 : Int32).toInt = 2) (by omega) (by omega)
            exact W.iret (v := t33) hx hb hr (fun t ht hW => ⟨⟨t33, mu, rfl, ⟨hF.trans hfz.symm, ok, trivial, (fun _ _ _ => rfl)⟩, by first | (subst ht; exact hP) | (rw [ht]; exact hP) | (show va_P (dC, dI) vwCl (wR 157 ad (EX cs ad) mu) t.heap; rw [ht]; exact hP)⟩, hS.F ht⟩) hS.2.2 dX4_faultInBearer_73
        · have hF := (if_pos c_11).symm.trans hF
          have c_11 : r10.toInt = -9 := il_eq c_11
          refine lv_iload_n hx hb dX4_faultInBearer_50 rfl (lv_at hl 4 rfl) ?_
          refine lv_iconst (v := 1) hx hb dX4_faultInBearer_51 (by decide) ?_
          refine lv_iadd hx hb dX4_faultInBearer_52 ?_
          refine lv_topi (fun t34 et34 => ?_)
          have hF := mi_let hF et34
          have at34 : t34.toInt = vi.toInt + 1 := by rw [et34]; exact va1 (by omega)
          exact W.iret (v := t34) hx hb hr (fun t ht hW => ⟨⟨t34, mu, rfl, ⟨hF.trans hfz.symm, ok, trivial, (fun _ _ _ => rfl)⟩, by first | (subst ht; exact hP) | (rw [ht]; exact hP) | (show va_P (dC, dI) vwCl (wR 157 ad (EX cs ad) mu) t.heap; rw [ht]; exact hP)⟩, hS.F ht⟩) hS.2.2 dX4_faultInBearer_53
      · have hF := (if_neg c_8).symm.trans hF
        have c_8 : 7 ≤ y7.toInt := il_nlt c_8
        refine lv_iload_n hx hb dX4_faultInBearer_32 rfl (lv_at hl 3 rfl) ?_
        exact W.iret (v := vi) hx hb hr (fun t ht hW => ⟨⟨vi, mu, rfl, ⟨hF.trans hfz.symm, ok, trivial, (fun _ _ _ => rfl)⟩, by first | (subst ht; exact hP) | (rw [ht]; exact hP) | (show va_P (dC, dI) vwCl (wR 157 ad (EX cs ad) mu) t.heap; rw [ht]; exact hP)⟩, hS.F ht⟩) hS.2.2 dX4_faultInBearer_33
set_option maxHeartbeats 4000000 in
set_option maxRecDepth 100000 in
/-- sx_faultInPath -/
theorem sx_faultInPath (l : Launch) (dC : Nat → ClassId) (dI : Nat → Nat → Nat) (cs : Nat → ClassId) (ad : Nat → Nat) (mu : Nat → Nat → Int32) (ok : okR loX hiX mu) (H : Heap) (hP : va_P (dC, dI) vwCl (wR 157 ad (EX cs ad) mu) H) (hD0 : va_D (fun _ => True) (wR 157 ad (EX cs ad) mu)) (kx : Nat) (h1kx : 14 ≤ kx) (h2kx : kx < 18) (vi : Int32) (hin0 : 0 ≤ vi.toInt ∧ vi.toInt ≤ 79) : Met l yX4_faultInPath (wU yX4_faultInPath cX4_faultInPath 5 (some .int)) ({ frames := 1, cells := 0, slots := 0, locals := 21 }) (va_Pc [.ref (ad 31), .ref (ad kx), .int vi] (sz_P (dC, dI) vwCl (tyW cs) H)) (va_Qi (fun (z : Int32) (xi : Nat → Nat → Int32) => (z, xi) = F_sx_faultInPath mu kx vi ∧ okR loX hiX xi ∧ (True) ∧ (∀ k f : Nat, Nat.testBit 510 (gpX k f) = true → xi k f = mu k f)) (fun xi t => va_P (dC, dI) vwCl (wR 157 ad (EX cs ad) xi) t.heap) (va_A (wR 157 ad (EX cs ad) mu) H.size)) 0 0 (va_A (wR 157 ad (EX cs ad) mu) H.size) := by
  refine Met.ofW (cc := cX4_faultInPath) (maxL := 5) (ret := (some .int)) (by decide) rfl ?_
  intro p e s m args below meth c s₁ B hml hv
  obtain ⟨rfl, hh, hK, hz⟩ := hv
  have hx := B.exec
  have hb := B.bytes
  have hr := B.returns
  have hts := atoms_spec (ws := (wU yX4_faultInPath cX4_faultInPath 5 (some .int))) B.pre
  have hown : s.vm.findClass RX4 = some m.cls := findClass_of_methodNamed B.named
  have hlocks := B.notSynchronized
  subst hh
  have hD := hD0.self (sz := s.heap.size)
  have hA : ∀ q : Nat, s.heap.size ≤ q → (va_A (wR 157 ad (EX cs ad) mu) s.heap.size) q := fun q h => Or.inr h
  have hS : va_S (va_A (wR 157 ad (EX cs ad) mu) s.heap.size) s.heap s.heap [] := va_S.rf
  have hl := lv_entry ([.ref (ad 31), .ref (ad kx), .int vi]) (n := 5) (Nat.le_of_ble_eq_true rfl)
  rw [lg_entry_eq]
  generalize (lg_sl ([.ref (ad 31), .ref (ad kx), .int vi]) ++ List.replicate (5 - (lg_sl ([.ref (ad 31), .ref (ad kx), .int vi])).length) Slot.unset).toArray = ls at hl ⊢
  have hl : lv_has ls 5 [(0, .ref (ad 31)), (1, .ref (ad kx)), (2, .int vi)] := hl
  obtain ⟨fz, hfz⟩ : ∃ z, F_sx_faultInPath mu kx vi = z := ⟨_, rfl⟩
  have hF := hfz
  unfold F_sx_faultInPath at hF
  refine lv_aload_n hx hb dX4_faultInPath_0 rfl (lv_at hl 0 rfl) ?_
  refine va_get (D := (dC, dI)) (ci := 4) (v := .int (mu 31 5)) (C := RX4) (T := TX4) (N := 6) hx hb hts inG4 hown hK hP 31 (gX_31 cs ad mu) rfl 5 (by decide) (hts _ (List.mem_cons_of_mem _ mw_1_196)) (fun _ h9 => h9) rfl dX4_faultInPath_1 ?_
  refine lv_topi (fun y1 ey1 => ?_)
  have hF := mi_let hF ey1
  have by1 : y1.toInt = (mu 31 5).toInt := congrArg Int32.toInt ey1
  have gy1 : 0 ≤ y1.toInt ∧ y1.toInt ≤ 12 := by rw [ey1]; exact rX_31_5 ok
  refine lv_bipush (v := 12) hx hb dX4_faultInPath_4 (by decide) ?_
  refine lv_icmp_lt (tgt := 11) hx hb dX4_faultInPath_6 (by decide) (fun c_2 => ?_) (fun c_2 => ?_)
  · have hF := (if_pos c_2).symm.trans hF
    have c_2 : y1.toInt < 12 := il_lt c_2
    refine lv_aload_n hx hb dX4_faultInPath_11 rfl (lv_at hl 1 rfl) ?_
    refine lv_iload_n hx hb dX4_faultInPath_12 rfl (lv_at hl 2 rfl) ?_
    refine lv_iconst (v := 1) hx hb dX4_faultInPath_13 (by decide) ?_
    refine lv_iadd hx hb dX4_faultInPath_14 ?_
    refine lv_topi (fun t3 et3 => ?_)
    have hF := mi_let hF et3
    have at3 : t3.toInt = vi.toInt + 1 := by rw [et3]; exact va1 (by omega)
    refine cr_i (va_runV (As := [.int t3]) (rest := []) ⟨hx, hb, hml, hown, hts⟩ (sx_figureAt l dC dI cs ad mu ok s.heap hP kx h1kx h2kx t3) (cwV 1 hts (wU_V mw_3_50 mw_3_47 mw_3_48 mw_3_49 mw_1_12) rfl rfl rfl (by decide +kernel) ⟨Nat.le_of_ble_eq_true rfl, Nat.le_of_ble_eq_true rfl⟩) ⟨sz_c, va_recv hK hP (ci := 9) (q0 := kx) rfl (gX_text cs ad mu kx h1kx h2kx), sz_m hK hz⟩ rfl rfl hl.1 rfl (lv_room (Nat.le_of_ble_eq_true rfl)) dX4_faultInPath_15 ⟨Nat.zero_le _, Nat.zero_le _⟩) hS (fun r4 hw4 locs hS => ?_)
    obtain ⟨hfe4, hw4⟩ := hw4
    have hF := mi_let hF hfe4
    have gr4 : (r4.toInt = -9 ∨ 0 ≤ r4.toInt) ∧ -9 ≤ r4.toInt ∧ r4.toInt ≤ 9 := hw4
    refine lv_istore_n (lv' := [(3, .int r4), (0, .ref (ad 31)), (1, .ref (ad kx)), (2, .int vi)]) hx hb dX4_faultInPath_18 rfl hl (by decide) rfl (fun ls hl => ?_)
    refine lv_iload_n hx hb dX4_faultInPath_19 rfl (lv_at hl 0 rfl) ?_
    refine lv_bipush (v := (-9)) hx hb dX4_faultInPath_20 (by decide) ?_
    refine lv_icmp_eq (tgt := 33) hx hb dX4_faultInPath_22 (by decide) (fun c_5 => ?_) (fun c_5 => ?_)
    · have hF := (if_pos c_5).symm.trans hF
      have c_5 : r4.toInt = -9 := il_eq c_5
      refine lv_iload_n hx hb dX4_faultInPath_33 rfl (lv_at hl 3 rfl) ?_
      refine lv_iconst (v := 1) hx hb dX4_faultInPath_34 (by decide) ?_
      refine lv_iadd hx hb dX4_faultInPath_35 ?_
      refine lv_topi (fun t6 et6 => ?_)
      have hF := mi_let hF et6
      have at6 : t6.toInt = vi.toInt + 1 := by rw [et6]; exact va1 (by omega)
      exact W.iret (v := t6) hx hb hr (fun t ht hW => ⟨⟨t6, mu, rfl, ⟨hF.trans hfz.symm, ok, trivial, (fun _ _ _ => rfl)⟩, by first | (subst ht; exact hP) | (rw [ht]; exact hP) | (show va_P (dC, dI) vwCl (wR 157 ad (EX cs ad) mu) t.heap; rw [ht]; exact hP)⟩, hS.F ht⟩) hS.2.2 dX4_faultInPath_36
    · have hF := (if_neg c_5).symm.trans hF
      have c_5 : ¬ r4.toInt = -9 := il_ne c_5
      refine lv_iload_n hx hb dX4_faultInPath_25 rfl (lv_at hl 0 rfl) ?_
      refine lv_aload_n hx hb dX4_faultInPath_26 rfl (lv_at hl 1 rfl) ?_
      refine va_get (D := (dC, dI)) (ci := 4) (v := .int (mu 31 4)) (C := RX4) (T := TX4) (N := 6) hx hb hts inG4 hown hK hP 31 (gX_31 cs ad mu) rfl 4 (by decide) (hts _ (List.mem_cons_of_mem _ mw_1_195)) (fun _ h9 => h9) rfl dX4_faultInPath_27 ?_
      refine lv_topi (fun y7 ey7 => ?_)
      have hF := mi_let hF ey7
      have by7 : y7.toInt = (mu 31 4).toInt := congrArg Int32.toInt ey7
      have gy7 : 0 ≤ y7.toInt ∧ y7.toInt ≤ 7 := by rw [ey7]; exact rX_31_4 ok
      refine lv_icmp_lt (tgt := 37) hx hb dX4_faultInPath_30 (by decide) (fun c_8 => ?_) (fun c_8 => ?_)
      · have hF := (if_pos c_8).symm.trans hF
        have c_8 : r4.toInt < y7.toInt := il_lt c_8
        refine lv_aload_n hx hb dX4_faultInPath_37 rfl (lv_at hl 2 rfl) ?_
        refine lv_iload_n hx hb dX4_faultInPath_38 rfl (lv_at hl 3 rfl) ?_
        refine lv_iconst (v := 2) hx hb dX4_faultInPath_39 (by decide) ?_
        refine lv_iadd hx hb dX4_faultInPath_40 ?_
        refine lv_topi (fun t9 et9 => ?_)
        have hF := mi_let hF et9
        have at9 : t9.toInt = vi.toInt + 2 := by rw [et9]; exact tI_add (rfl : vi.toInt = _) (rfl : (2 : Int32).toInt = 2) (by omega) (by omega)
        refine cr_i (va_runV (As := [.int t9]) (rest := []) ⟨hx, hb, hml, hown, hts⟩ (sx_figureAt l dC dI cs ad mu ok s.heap hP kx h1kx h2kx t9) (cwV 1 hts (wU_V mw_3_50 mw_3_47 mw_3_48 mw_3_49 mw_1_12) rfl rfl rfl (by decide +kernel) ⟨Nat.le_of_ble_eq_true rfl, Nat.le_of_ble_eq_true rfl⟩) ⟨sz_c, va_recv hK hP (ci := 9) (q0 := kx) rfl (gX_text cs ad mu kx h1kx h2kx), sz_m hK hz⟩ rfl rfl hl.1 rfl (lv_room (Nat.le_of_ble_eq_true rfl)) dX4_faultInPath_41 ⟨Nat.zero_le _, Nat.zero_le _⟩) hS (fun r10 hw10 locs hS => ?_)
        obtain ⟨hfe10, hw10⟩ := hw10
        have hF := mi_let hF hfe10
        have gr10 : (r10.toInt = -9 ∨ 0 ≤ r10.toInt) ∧ -9 ≤ r10.toInt ∧ r10.toInt ≤ 9 := hw10
        refine lv_istore (lv' := [(4, .int r10), (3, .int r4), (0, .ref (ad 31)), (1, .ref (ad kx)), (2, .int vi)]) hx hb dX4_faultInPath_44 hl (by decide) rfl (fun ls hl => ?_)
        refine lv_iload hx hb dX4_faultInPath_46 (lv_at hl 0 rfl) ?_
        refine lv_bipush (v := (-9)) hx hb dX4_faultInPath_48 (by decide) ?_
        refine lv_icmp_eq (tgt := 68) hx hb dX4_faultInPath_50 (by decide) (fun c_11 => ?_) (fun c_11 => ?_)
        · have hF := (if_pos c_11).symm.trans hF
          have c_11 : r10.toInt = -9 := il_eq c_11
          refine lv_iload_n hx hb dX4_faultInPath_68 rfl (lv_at hl 4 rfl) ?_
          refine lv_iconst (v := 2) hx hb dX4_faultInPath_69 (by decide) ?_
          refine lv_iadd hx hb dX4_faultInPath_70 ?_
          refine lv_topi (fun t12 et12 => ?_)
          have hF := mi_let hF et12
          have at12 : t12.toInt = vi.toInt + 2 := by rw [et12]; exact tI_add (rfl : vi.toInt = _) (rfl : (2 : Int32).toInt = 2) (by omega) (by omega)
          exact W.iret (v := t12) hx hb hr (fun t ht hW => ⟨⟨t12, mu, rfl, ⟨hF.trans hfz.symm, ok, trivial, (fun _ _ _ => rfl)⟩, by first | (subst ht; exact hP) | (rw [ht]; exact hP) | (show va_P (dC, dI) vwCl (wR 157 ad (EX cs ad) mu) t.heap; rw [ht]; exact hP)⟩, hS.F ht⟩) hS.2.2 dX4_faultInPath_71
        · have hF := (if_neg c_11).symm.trans hF
          have c_11 : ¬ r10.toInt = -9 := il_ne c_11
          refine lv_iload hx hb dX4_faultInPath_53 (lv_at hl 0 rfl) ?_
          refine lv_aload_n hx hb dX4_faultInPath_55 rfl (lv_at hl 2 rfl) ?_
          refine va_get (D := (dC, dI)) (ci := 4) (v := .int (mu 31 4)) (C := RX4) (T := TX4) (N := 6) hx hb hts inG4 hown hK hP 31 (gX_31 cs ad mu) rfl 4 (by decide) (hts _ (List.mem_cons_of_mem _ mw_1_195)) (fun _ h9 => h9) rfl dX4_faultInPath_56 ?_
          refine lq_i y7 ey7.symm ?_
          refine lv_icmp_ge (tgt := 68) hx hb dX4_faultInPath_59 (by decide) (fun c_13 => ?_) (fun c_13 => ?_)
          · have hF := (if_pos c_13).symm.trans hF
            have c_13 : y7.toInt ≤ r10.toInt := il_le c_13
            refine lv_iload_n hx hb dX4_faultInPath_68 rfl (lv_at hl 4 rfl) ?_
            refine lv_iconst (v := 2) hx hb dX4_faultInPath_69 (by decide) ?_
            refine lv_iadd hx hb dX4_faultInPath_70 ?_
            refine lv_topi (fun t14 et14 => ?_)
            have hF := mi_let hF et14
            have at14 : t14.toInt = vi.toInt + 2 := by rw [et14]; exact tI_add (rfl : vi.toInt = _) (rfl : (2 : Int32).toInt = 2) (by omega) (by omega)
            exact W.iret (v := t14) hx hb hr (fun t ht hW => ⟨⟨t14, mu, rfl, ⟨hF.trans hfz.symm, ok, trivial, (fun _ _ _ => rfl)⟩, by first | (subst ht; exact hP) | (rw [ht]; exact hP) | (show va_P (dC, dI) vwCl (wR 157 ad (EX cs ad) mu) t.heap; rw [ht]; exact hP)⟩, hS.F ht⟩) hS.2.2 dX4_faultInPath_71
          · have hF := (if_neg c_13).symm.trans hF
            have c_13 : r10.toInt < y7.toInt := il_nle c_13
            refine lv_iload hx hb dX4_faultInPath_62 (lv_at hl 0 rfl) ?_
            refine lv_iload_n hx hb dX4_faultInPath_64 rfl (lv_at hl 1 rfl) ?_
            refine lv_icmp_ne (tgt := 72) hx hb dX4_faultInPath_65 (by decide) (fun c_15 => ?_) (fun c_15 => ?_)
            · have hF := (if_neg c_15).symm.trans hF
              have c_15 : ¬ r10.toInt = r4.toInt := il_ne c_15
              refine lv_aload_n hx hb dX4_faultInPath_72 rfl (lv_at hl 2 rfl) ?_
              refine va_get (D := (dC, dI)) (ci := 4) (v := .ref (ad 50)) (C := RX4) (T := TX4) (N := 6) hx hb hts inG4 hown hK hP 31 (gX_31 cs ad mu) rfl 2 (by decide) (hts _ (List.mem_cons_of_mem _ mw_1_193)) (fun _ h9 => h9) rfl dX4_faultInPath_73 ?_
              refine lv_aload_n hx hb dX4_faultInPath_76 rfl (lv_at hl 2 rfl) ?_
              refine va_get (D := (dC, dI)) (ci := 4) (v := .int (mu 31 5)) (C := RX4) (T := TX4) (N := 6) hx hb hts inG4 hown hK hP 31 (gX_31 cs ad mu) rfl 5 (by decide) (hts _ (List.mem_cons_of_mem _ mw_1_196)) (fun _ h9 => h9) rfl dX4_faultInPath_77 ?_
              refine lq_i y1 ey1.symm ?_
              refine lv_iload_n hx hb dX4_faultInPath_80 rfl (lv_at hl 1 rfl) ?_
              refine va_iast hx hb hK hP (wR_D mu hD) hS 50 0 (gX_50 cs ad mu) rfl (show vp_in y1 12 from vi_of (by omega) (by omega)) dX4_faultInPath_81 (fun H locs hP _ hS => ?_)
              refine wr_gen (upd (mu 50) y1.toNatClampNeg r4) hP (rfl) (fun nu16 hn16 hP => ?_)
              have hF := mi_let hF hn16.symm
              have ok := tX_50_s ok y1.toNatClampNeg hn16 (by omega)
              have ez17 : y1 = nu16 31 5 := ey1.trans (congrFun (up_k hn16 (by decide)) 5).symm
              have ez18 : y7 = nu16 31 4 := ey7.trans (congrFun (up_k hn16 (by decide)) 4).symm
              have kp19 : (∀ k f : Nat, Nat.testBit 510 (gpX k f) = true → nu16 k f = mu k f) := kp_c 0 hn16 (fun _ => rfl) (by decide) (fun _ _ _ => rfl)
              refine lv_aload_n hx hb dX4_faultInPath_82 rfl (lv_at hl 2 rfl) ?_
              refine va_get (D := (dC, dI)) (ci := 4) (v := .ref (ad 51)) (C := RX4) (T := TX4) (N := 6) hx hb hts inG4 hown hK hP 31 (gX_31 cs ad nu16) rfl 3 (by decide) (hts _ (List.mem_cons_of_mem _ mw_1_194)) (fun _ h9 => h9) rfl dX4_faultInPath_83 ?_
              refine lv_aload_n hx hb dX4_faultInPath_86 rfl (lv_at hl 2 rfl) ?_
              refine va_get (D := (dC, dI)) (ci := 4) (v := .int (nu16 31 5)) (C := RX4) (T := TX4) (N := 6) hx hb hts inG4 hown hK hP 31 (gX_31 cs ad nu16) rfl 5 (by decide) (hts _ (List.mem_cons_of_mem _ mw_1_196)) (fun _ h9 => h9) rfl dX4_faultInPath_87 ?_
              refine lq_i y1 ez17.symm ?_
              refine lv_iload hx hb dX4_faultInPath_90 (lv_at hl 0 rfl) ?_
              refine va_iast hx hb hK hP (wR_D nu16 hD) hS 51 0 (gX_51 cs ad nu16) rfl (show vp_in y1 12 from vi_of (by omega) (by omega)) dX4_faultInPath_92 (fun H locs hP _ hS => ?_)
              refine wr_gen (upd (nu16 51) y1.toNatClampNeg r10) hP (rfl) (fun nu20 hn20 hP => ?_)
              have hF := mi_let hF hn20.symm
              have ok := tX_51_s ok y1.toNatClampNeg hn20 (by omega)
              have ez21 : y1 = nu20 31 5 := ez17.trans (congrFun (up_k hn20 (by decide)) 5).symm
              have ez22 : y7 = nu20 31 4 := ez18.trans (congrFun (up_k hn20 (by decide)) 4).symm
              have kp23 : (∀ k f : Nat, Nat.testBit 510 (gpX k f) = true → nu20 k f = mu k f) := kp_c 0 hn20 (fun _ => rfl) (by decide) kp19
              refine lv_aload_n hx hb dX4_faultInPath_93 rfl (lv_at hl 2 rfl) ?_
              refine lv_dup hx hb dX4_faultInPath_94 rfl ?_
              refine va_get (D := (dC, dI)) (ci := 4) (v := .int (nu20 31 5)) (C := RX4) (T := TX4) (N := 6) hx hb hts inG4 hown hK hP 31 (gX_31 cs ad nu20) rfl 5 (by decide) (hts _ (List.mem_cons_of_mem _ mw_1_196)) (fun _ h9 => h9) rfl dX4_faultInPath_95 ?_
              refine lq_i y1 ez21.symm ?_
              refine lv_iconst (v := 1) hx hb dX4_faultInPath_98 (by decide) ?_
              refine lv_iadd hx hb dX4_faultInPath_99 ?_
              refine lv_topi (fun t24 et24 => ?_)
              have hF := mi_let hF et24
              have at24 : t24.toInt = y1.toInt + 1 := by rw [et24]; exact va1 (by omega)
              refine va_put (D := (dC, dI)) (ci := 4) (v := .int t24) (ty := .int) (C := RX4) (T := TX4) (N := 6) hx hb hts inG4 tyX4 tyX4_ok nmX4 hown hK hP (wR_D nu20 hD) hS 31 (gX_31 cs ad nu20) rfl 5 (by decide) (hts _ (List.mem_cons_of_mem _ mw_1_196)) (fun _ h9 => h9) rfl (by decide +kernel) rfl rfl (Nat.le_of_ble_eq_true rfl) dX4_faultInPath_100 (fun H locs hP _ hS => ?_)
              simp only [List.set_cons_succ, List.set_cons_zero] at hP
              refine wr_gen (upd (nu20 31) 5 t24) hP ((hX_31_5 cs ad _ _)) (fun nu25 hn25 hP => ?_)
              have hF := mi_let hF hn25.symm
              have ok := tX_31_5 ok hn25 (by omega)
              have ez26 : y7 = nu25 31 4 := ez22.trans (up_f hn25 (by decide)).symm
              have kp27 : (∀ k f : Nat, Nat.testBit 510 (gpX k f) = true → nu25 k f = mu k f) := kp_c 0 hn25 (fun _ => rfl) (by decide) kp23
              have ez28 : t24 = nu25 31 5 := up_v hn25
              refine lv_bipush (v := (-9)) hx hb dX4_faultInPath_103 (by decide) ?_
              exact W.iret (v := (-9)) hx hb hr (fun t ht hW => ⟨⟨(-9), nu25, rfl, ⟨hF.trans hfz.symm, ok, trivial, kp27⟩, by first | (subst ht; exact hP) | (rw [ht]; exact hP) | (show va_P (dC, dI) vwCl (wR 157 ad (EX cs ad) nu25) t.heap; rw [ht]; exact hP)⟩, hS.F ht⟩) hS.2.2 dX4_faultInPath_105
            · have hF := (if_pos c_15).symm.trans hF
              have c_15 : r10.toInt = r4.toInt := il_eq c_15
              refine lv_iload_n hx hb dX4_faultInPath_68 rfl (lv_at hl 4 rfl) ?_
              refine lv_iconst (v := 2) hx hb dX4_faultInPath_69 (by decide) ?_
              refine lv_iadd hx hb dX4_faultInPath_70 ?_
              refine lv_topi (fun t29 et29 => ?_)
              have hF := mi_let hF et29
              have at29 : t29.toInt = vi.toInt + 2 := by rw [et29]; exact tI_add (rfl : vi.toInt = _) (rfl : (2 : Int32).toInt = 2) (by omega) (by omega)
              exact W.iret (v := t29) hx hb hr (fun t ht hW => ⟨⟨t29, mu, rfl, ⟨hF.trans hfz.symm, ok, trivial, (fun _ _ _ => rfl)⟩, by first | (subst ht; exact hP) | (rw [ht]; exact hP) | (show va_P (dC, dI) vwCl (wR 157 ad (EX cs ad) mu) t.heap; rw [ht]; exact hP)⟩, hS.F ht⟩) hS.2.2 dX4_faultInPath_71
      · have hF := (if_neg c_8).symm.trans hF
        have c_8 : y7.toInt ≤ r4.toInt := il_nlt c_8
        refine lv_iload_n hx hb dX4_faultInPath_33 rfl (lv_at hl 3 rfl) ?_
        refine lv_iconst (v := 1) hx hb dX4_faultInPath_34 (by decide) ?_
        refine lv_iadd hx hb dX4_faultInPath_35 ?_
        refine lv_topi (fun t30 et30 => ?_)
        have hF := mi_let hF et30
        have at30 : t30.toInt = vi.toInt + 1 := by rw [et30]; exact va1 (by omega)
        exact W.iret (v := t30) hx hb hr (fun t ht hW => ⟨⟨t30, mu, rfl, ⟨hF.trans hfz.symm, ok, trivial, (fun _ _ _ => rfl)⟩, by first | (subst ht; exact hP) | (rw [ht]; exact hP) | (show va_P (dC, dI) vwCl (wR 157 ad (EX cs ad) mu) t.heap; rw [ht]; exact hP)⟩, hS.F ht⟩) hS.2.2 dX4_faultInPath_36
  · have hF := (if_neg c_2).symm.trans hF
    have c_2 : 12 ≤ y1.toInt := il_nlt c_2
    refine lv_iload_n hx hb dX4_faultInPath_9 rfl (lv_at hl 2 rfl) ?_
    exact W.iret (v := vi) hx hb hr (fun t ht hW => ⟨⟨vi, mu, rfl, ⟨hF.trans hfz.symm, ok, trivial, (fun _ _ _ => rfl)⟩, by first | (subst ht; exact hP) | (rw [ht]; exact hP) | (show va_P (dC, dI) vwCl (wR 157 ad (EX cs ad) mu) t.heap; rw [ht]; exact hP)⟩, hS.F ht⟩) hS.2.2 dX4_faultInPath_10
set_option maxHeartbeats 4000000 in
set_option maxRecDepth 100000 in
/-- sx_faultIn -/
theorem sx_faultIn (l : Launch) (dC : Nat → ClassId) (dI : Nat → Nat → Nat) (cs : Nat → ClassId) (ad : Nat → Nat) (mu : Nat → Nat → Int32) (ok : okR loX hiX mu) (H : Heap) (hP : va_P (dC, dI) vwCl (wR 157 ad (EX cs ad) mu) H) (hD0 : va_D (fun _ => True) (wR 157 ad (EX cs ad) mu)) (tt : Nat) (kx : Nat) (h1kx : 14 ≤ kx) (h2kx : kx < 18) : Met l yX4_faultIn (wU yX4_faultIn cX4_faultIn 4 (some .int)) ({ frames := 2, cells := 0, slots := 0, locals := 46 }) (va_Pc [.ref (ad 31), .ref (ad kx)] (sy_P (dC, dI) vwCl (tyW cs) (va_A (wR 157 ad (EX cs ad) mu) H.size) tt H)) (va_Qi (fun (z : Int32) (xi : Nat → Nat → Int32) => (z, xi) = F_sx_faultIn mu kx ∧ okR loX hiX xi ∧ (True) ∧ (∀ k f : Nat, Nat.testBit 510 (gpX k f) = true → xi k f = mu k f)) (fun xi t => va_P (dC, dI) vwCl (wR 157 ad (EX cs ad) xi) t.heap) (va_A (wR 157 ad (EX cs ad) mu) H.size)) 0 0 (va_A (wR 157 ad (EX cs ad) mu) H.size) := by
  refine Met.ofW (cc := cX4_faultIn) (maxL := 4) (ret := (some .int)) (by decide) rfl ?_
  intro p e s m args below meth c s₁ B hml hv
  obtain ⟨rfl, hh, hK, hz, hks⟩ := hv
  have hx := B.exec
  have hb := B.bytes
  have hr := B.returns
  have hts := atoms_spec (ws := (wU yX4_faultIn cX4_faultIn 4 (some .int))) B.pre
  have hown : s.vm.findClass RX4 = some m.cls := findClass_of_methodNamed B.named
  have hlocks := B.notSynchronized
  subst hh
  have hD := hD0.self (sz := s.heap.size)
  have hA : ∀ q : Nat, s.heap.size ≤ q → (va_A (wR 157 ad (EX cs ad) mu) s.heap.size) q := fun q h => Or.inr h
  have hS : va_S (va_A (wR 157 ad (EX cs ad) mu) s.heap.size) s.heap s.heap [] := va_S.rf
  have hl := lv_entry ([.ref (ad 31), .ref (ad kx)]) (n := 4) (Nat.le_of_ble_eq_true rfl)
  rw [lg_entry_eq]
  generalize (lg_sl ([.ref (ad 31), .ref (ad kx)]) ++ List.replicate (4 - (lg_sl ([.ref (ad 31), .ref (ad kx)])).length) Slot.unset).toArray = ls at hl ⊢
  have hl : lv_has ls 4 [(0, .ref (ad 31)), (1, .ref (ad kx))] := hl
  obtain ⟨fz, hfz⟩ : ∃ z, F_sx_faultIn mu kx = z := ⟨_, rfl⟩
  have hF := hfz
  unfold F_sx_faultIn at hF
  refine lv_aload_n hx hb dX4_faultIn_0 rfl (lv_at hl 0 rfl) ?_
  refine lv_iconst (v := 0) hx hb dX4_faultIn_1 (by decide) ?_
  refine va_put (D := (dC, dI)) (ci := 4) (v := .int 0) (ty := .int) (C := RX4) (T := TX4) (N := 6) hx hb hts inG4 tyX4 tyX4_ok nmX4 hown hK hP (wR_D mu hD) hS 31 (gX_31 cs ad mu) rfl 4 (by decide) (hts _ (List.mem_cons_of_mem _ mw_1_195)) (fun _ h9 => h9) rfl (by decide +kernel) rfl rfl (Nat.le_of_ble_eq_true rfl) dX4_faultIn_2 (fun H locs hP _ hS => ?_)
  simp only [List.set_cons_succ, List.set_cons_zero] at hP
  refine wr_gen (upd (mu 31) 4 0) hP ((hX_31_4 cs ad _ _)) (fun nu1 hn1 hP => ?_)
  have hF := mi_let hF hn1.symm
  have ok := tX_31_4 ok hn1 (by have h9 : (0 : Int32).toInt = 0 := rfl; exact ⟨by omega, by omega⟩)
  have kp2 : (∀ k f : Nat, Nat.testBit 510 (gpX k f) = true → nu1 k f = mu k f) := kp_c 0 hn1 (fun _ => rfl) (by decide) (fun _ _ _ => rfl)
  have ez3 : 0 = nu1 31 4 := up_v hn1
  refine lv_aload_n hx hb dX4_faultIn_5 rfl (lv_at hl 0 rfl) ?_
  refine lv_iconst (v := 0) hx hb dX4_faultIn_6 (by decide) ?_
  refine va_put (D := (dC, dI)) (ci := 4) (v := .int 0) (ty := .int) (C := RX4) (T := TX4) (N := 6) hx hb hts inG4 tyX4 tyX4_ok nmX4 hown hK hP (wR_D nu1 hD) hS 31 (gX_31 cs ad nu1) rfl 5 (by decide) (hts _ (List.mem_cons_of_mem _ mw_1_196)) (fun _ h9 => h9) rfl (by decide +kernel) rfl rfl (Nat.le_of_ble_eq_true rfl) dX4_faultIn_7 (fun H locs hP _ hS => ?_)
  simp only [List.set_cons_succ, List.set_cons_zero] at hP
  refine wr_gen (upd (nu1 31) 5 0) hP ((hX_31_5 cs ad _ _)) (fun nu4 hn4 hP => ?_)
  have hF := mi_let hF hn4.symm
  have ok := tX_31_5 ok hn4 (by have h9 : (0 : Int32).toInt = 0 := rfl; exact ⟨by omega, by omega⟩)
  have ez5 : 0 = nu4 31 4 := ez3.trans (up_f hn4 (by decide)).symm
  have kp6 : (∀ k f : Nat, Nat.testBit 510 (gpX k f) = true → nu4 k f = mu k f) := kp_c 0 hn4 (fun _ => rfl) (by decide) kp2
  have ez7 : 0 = nu4 31 5 := up_v hn4
  refine lv_iconst (v := 0) hx hb dX4_faultIn_10 (by decide) ?_
  refine lv_istore_n (lv' := [(2, .int 0), (0, .ref (ad 31)), (1, .ref (ad kx))]) hx hb dX4_faultIn_11 rfl hl (by decide) rfl (fun ls hl => ?_)
  have loop12 : ∀ (n12 : Nat) (v2_12 : Int32) (nu12_ : Nat → Nat → Int32) (H : Heap) (locs : List Loc) (ls : Array Slot), (82 + 1 - v2_12.toInt).toNat < n12 → (0 ≤ v2_12.toInt ∧ v2_12.toInt ≤ 82) → okR loX hiX nu12_ → va_P (dC, dI) vwCl (wR 157 ad (EX cs ad) nu12_) H → (∀ k f : Nat, Nat.testBit 510 (gpX k f) = true → nu12_ k f = mu k f) → L_sx_faultIn_12_0 kx n12 v2_12 nu12_ = fz → va_S (va_A (wR 157 ad (EX cs ad) mu) s.heap.size) s.heap H locs → lv_has ls 4 [(2, .int v2_12), (0, .ref (ad 31)), (1, .ref (ad kx))] → W p l e (headSpec (wU yX4_faultIn cX4_faultIn 4 (some .int)) ({ frames := 2, cells := 0, slots := 0, locals := 46 })).room s m ([.ref (ad 31), .ref (ad kx)] : List Value).toArray below meth c H locs 0 0 (MQ below (va_Qi (fun (z : Int32) (xi : Nat → Nat → Int32) => (z, xi) = F_sx_faultIn mu kx ∧ okR loX hiX xi ∧ (True) ∧ (∀ k f : Nat, Nat.testBit 510 (gpX k f) = true → xi k f = mu k f)) (fun xi t => va_P (dC, dI) vwCl (wR 157 ad (EX cs ad) xi) t.heap) (va_A (wR 157 ad (EX cs ad) mu) s.heap.size)) ([.ref (ad 31), .ref (ad kx)] : List Value).toArray s 0 0 (va_A (wR 157 ad (EX cs ad) mu) s.heap.size)) (F0 m 12 ls []) := by
    intro n12
    induction n12 with
    | zero => intro v2_12 nu12_ H locs ls hm; exact absurd hm (Nat.not_lt_zero _)
    | succ n12 ih12 =>
      intro v2_12 nu12_ H locs ls hm_12 h_v2_12 ok hP kq12_0 hF hS hl
      rw [L_sx_faultIn_12_0] at hF
      refine lv_iload_n hx hb dX4_faultIn_12 rfl (lv_at hl 0 rfl) ?_
      refine lv_aload_n hx hb dX4_faultIn_13 rfl (lv_at hl 2 rfl) ?_
      refine va_get (D := (dC, dI)) (ci := 9) (v := .int (nu12_ kx 1)) (C := RX9) (T := TX9) (N := 2) hx hb hts inG9 hown hK hP kx (gX_text cs ad nu12_ kx h1kx h2kx) rfl 1 (by decide) (hts _ (List.mem_cons_of_mem _ mw_2_149)) (fun _ h9 => h9) rfl dX4_faultIn_14 ?_
      refine lv_topi (fun y8 ey8 => ?_)
      have hF := mi_let hF ey8
      have by8 : y8.toInt = (nu12_ kx 1).toInt := congrArg Int32.toInt ey8
      have gy8 : -1 ≤ y8.toInt ∧ y8.toInt ≤ 80 := by rw [ey8]; exact rX_text_1 ok kx h1kx h2kx
      refine lv_icmp_ge (tgt := 78) hx hb dX4_faultIn_17 (by decide) (fun c_9 => ?_) (fun c_9 => ?_)
      · have hF := (if_pos c_9).symm.trans hF
        have c_9 : y8.toInt ≤ v2_12.toInt := il_le c_9
        refine lv_bipush (v := (-9)) hx hb dX4_faultIn_78 (by decide) ?_
        exact W.iret (v := (-9)) hx hb hr (fun t ht hW => ⟨⟨(-9), nu12_, rfl, ⟨hF.trans hfz.symm, ok, trivial, kq12_0⟩, by first | (subst ht; exact hP) | (rw [ht]; exact hP) | (show va_P (dC, dI) vwCl (wR 157 ad (EX cs ad) nu12_) t.heap; rw [ht]; exact hP)⟩, hS.F ht⟩) hS.2.2 dX4_faultIn_80
      · have hF := (if_neg c_9).symm.trans hF
        have c_9 : v2_12.toInt < y8.toInt := il_nle c_9
        refine lv_aload_n hx hb dX4_faultIn_20 rfl (lv_at hl 2 rfl) ?_
        have hk10 : 27 ≤ kx + 13 ∧ kx + 13 < 31 := add_in 13 h1kx h2kx
        refine va_get (D := (dC, dI)) (ci := 9) (v := .ref (ad (kx + 13))) (C := RX9) (T := TX9) (N := 2) hx hb hts inG9 hown hK hP kx (gX_text cs ad nu12_ kx h1kx h2kx) rfl 0 (by decide) (hts _ (List.mem_cons_of_mem _ mw_2_146)) (fun _ h9 => h9) rfl dX4_faultIn_21 ?_
        refine lv_iload_n hx hb dX4_faultIn_24 rfl (lv_at hl 0 rfl) ?_
        refine va_bald hx hb hK hP (kx + 13) 1 (gX_bytes cs ad nu12_ (kx + 13) hk10.1 hk10.2) rfl (show vp_in v2_12 80 from vi_of (by omega) (by omega)) dX4_faultIn_25 ?_
        refine lv_topi (fun y11 ey11 => ?_)
        have hF := mi_let hF ey11
        have by11 : y11.toInt = (nu12_ (kx + 13) v2_12.toNatClampNeg).toInt := congrArg Int32.toInt ey11
        have gy11 : -128 ≤ y11.toInt ∧ y11.toInt ≤ 127 := by rw [ey11]; exact rX_bytes_s ok (kx + 13) hk10.1 hk10.2 v2_12.toNatClampNeg
        refine lv_bipush (v := 32) hx hb dX4_faultIn_26 (by decide) ?_
        refine lv_icmp_ne (tgt := 34) hx hb dX4_faultIn_28 (by decide) (fun c_12 => ?_) (fun c_12 => ?_)
        · have hF := (if_neg c_12).symm.trans hF
          have c_12 : ¬ y11.toInt = 32 := il_ne c_12
          refine lv_aload_n hx hb dX4_faultIn_34 rfl (lv_at hl 2 rfl) ?_
          have hk13 : 27 ≤ kx + 13 ∧ kx + 13 < 31 := add_in 13 h1kx h2kx
          refine va_get (D := (dC, dI)) (ci := 9) (v := .ref (ad (kx + 13))) (C := RX9) (T := TX9) (N := 2) hx hb hts inG9 hown hK hP kx (gX_text cs ad nu12_ kx h1kx h2kx) rfl 0 (by decide) (hts _ (List.mem_cons_of_mem _ mw_2_146)) (fun _ h9 => h9) rfl dX4_faultIn_35 ?_
          refine lv_iload_n hx hb dX4_faultIn_38 rfl (lv_at hl 0 rfl) ?_
          refine va_bald hx hb hK hP (kx + 13) 1 (gX_bytes cs ad nu12_ (kx + 13) hk13.1 hk13.2) rfl (show vp_in v2_12 80 from vi_of (by omega) (by omega)) dX4_faultIn_39 ?_
          refine lq_i y11 ey11.symm ?_
          refine lv_bipush (v := 119) hx hb dX4_faultIn_40 (by decide) ?_
          refine lv_icmp_ne (tgt := 54) hx hb dX4_faultIn_42 (by decide) (fun c_14 => ?_) (fun c_14 => ?_)
          · have hF := (if_neg c_14).symm.trans hF
            have c_14 : ¬ y11.toInt = 119 := il_ne c_14
            refine lv_aload_n hx hb dX4_faultIn_54 rfl (lv_at hl 1 rfl) ?_
            refine lv_aload_n hx hb dX4_faultIn_55 rfl (lv_at hl 2 rfl) ?_
            refine lv_iload_n hx hb dX4_faultIn_56 rfl (lv_at hl 0 rfl) ?_
            have hFc := fr_all (wR_D nu12_ hD) hS hA
            refine va_calli (va_runV (As := [.ref (ad kx), .int v2_12]) (rest := []) ⟨hx, hb, hml, hown, hts⟩ (sx_faultInBearer l dC dI cs ad nu12_ ok H hP ((wR_D nu12_ hD).weaken (fun _ _ _ _ => trivial)) tt kx h1kx h2kx v2_12 (by omega)) (cwV 2 hts (wU_V mw_3_54 mw_3_51 mw_3_53 mw_0_5 mw_1_5) rfl rfl rfl (by decide +kernel) ⟨Nat.le_of_ble_eq_true rfl, Nat.le_of_ble_eq_true rfl⟩) ⟨sy_c, va_recv hK hP (ci := 4) (q0 := 31) rfl (gX_31 cs ad nu12_), sy_m hK hz (hks.on hS hFc)⟩ rfl rfl hl.1 rfl (lv_room (Nat.le_of_ble_eq_true rfl)) dX4_faultIn_57 ⟨Nat.zero_le _, Nat.zero_le _⟩) hS (fun q _ h => hFc q h) hFc (fun r15 xi15 t H15 locs ht hvm hw15 hB hz1 hk1 hS => ?_)
            have hP : va_P (dC, dI) vwCl (wR 157 ad (EX cs ad) xi15) H15 := by rw [← ht]; exact hB
            obtain ⟨hfe15, ok, hw15, hkp15_0⟩ := hw15
            have hF := mi_letp hF hfe15
            have kp16 : (∀ k f : Nat, Nat.testBit 510 (gpX k f) = true → xi15 k f = mu k f) := kp_t hkp15_0 (by decide) kq12_0
            refine lv_istore_n (lv' := [(3, .int r15), (2, .int v2_12), (0, .ref (ad 31)), (1, .ref (ad kx))]) hx hb dX4_faultIn_60 rfl hl (by decide) rfl (fun ls hl => ?_)
            refine lv_iload_n hx hb dX4_faultIn_61 rfl (lv_at hl 0 rfl) ?_
            refine lv_bipush (v := (-9)) hx hb dX4_faultIn_62 (by decide) ?_
            refine lv_icmp_eq (tgt := 69) hx hb dX4_faultIn_64 (by decide) (fun c_17 => ?_) (fun c_17 => ?_)
            · have hF := (if_pos c_17).symm.trans hF
              have c_17 : r15.toInt = -9 := il_eq c_17
              refine lv_iinc (v := (v2_12 + 2)) (lv' := [(2, .int (v2_12 + 2)), (3, .int r15), (0, .ref (ad 31)), (1, .ref (ad kx))]) hx hb dX4_faultIn_69 hl (k := 1) rfl rfl (by decide) rfl (fun ls hl => ?_)
              refine loc_gen (P := fun w9 => lv_has ls 4 [(2, .int w9), (3, .int r15), (0, .ref (ad 31)), (1, .ref (ad kx))]) (v2_12 + 2) hl (fun w18 hw18 hl => ?_)
              have hl : lv_has ls 4 [(2, .int w18), (3, .int r15), (0, .ref (ad 31)), (1, .ref (ad kx))] := hl
              have hF := mi_let hF hw18.symm
              have aw18 : w18.toInt = v2_12.toInt + 2 := by rw [← hw18]; exact tI_add (rfl : v2_12.toInt = _) (rfl : (2 : Int32).toInt = 2) (by omega) (by omega)
              refine lv_iinc (v := (w18 + 1)) (lv' := [(2, .int (w18 + 1)), (3, .int r15), (0, .ref (ad 31)), (1, .ref (ad kx))]) hx hb dX4_faultIn_72 hl (k := 0) rfl rfl (by decide) rfl (fun ls hl => ?_)
              refine loc_gen (P := fun w9 => lv_has ls 4 [(2, .int w9), (3, .int r15), (0, .ref (ad 31)), (1, .ref (ad kx))]) (w18 + 1) hl (fun w19 hw19 hl => ?_)
              have hl : lv_has ls 4 [(2, .int w19), (3, .int r15), (0, .ref (ad 31)), (1, .ref (ad kx))] := hl
              have hF := mi_let hF hw19.symm
              have aw19 : w19.toInt = w18.toInt + 1 := by rw [← hw19]; exact va1 (by omega)
              refine lv_goto (tgt := 12) hx hb dX4_faultIn_75 (by decide) ?_
              exact ih12 (w19) xi15 _ _ _ (by first | exact ms_lt hm_12 (by omega) (by omega) | omega) (by omega)  ok hP  kp16 hF hS (lv_sub hl [0, 2, 3] rfl)
            · have hF := (if_neg c_17).symm.trans hF
              have c_17 : ¬ r15.toInt = -9 := il_ne c_17
              refine lv_iload_n hx hb dX4_faultIn_67 rfl (lv_at hl 0 rfl) ?_
              exact W.iret (v := r15) hx hb hr (fun t ht hW => ⟨⟨r15, xi15, rfl, ⟨hF.trans hfz.symm, ok, trivial, kp16⟩, by first | (subst ht; exact hP) | (rw [ht]; exact hP) | (show va_P (dC, dI) vwCl (wR 157 ad (EX cs ad) xi15) t.heap; rw [ht]; exact hP)⟩, hS.F ht⟩) hS.2.2 dX4_faultIn_68
          · have hF := (if_pos c_14).symm.trans hF
            have c_14 : y11.toInt = 119 := il_eq c_14
            refine lv_aload_n hx hb dX4_faultIn_45 rfl (lv_at hl 1 rfl) ?_
            refine lv_aload_n hx hb dX4_faultIn_46 rfl (lv_at hl 2 rfl) ?_
            refine lv_iload_n hx hb dX4_faultIn_47 rfl (lv_at hl 0 rfl) ?_
            have hFc := fr_all (wR_D nu12_ hD) hS hA
            refine va_calli (va_runV (As := [.ref (ad kx), .int v2_12]) (rest := []) ⟨hx, hb, hml, hown, hts⟩ (sx_faultInPath l dC dI cs ad nu12_ ok H hP ((wR_D nu12_ hD).weaken (fun _ _ _ _ => trivial)) kx h1kx h2kx v2_12 (by omega)) (cwV 2 hts (wU_V mw_3_46 mw_3_43 mw_3_45 mw_0_4 mw_1_5) rfl rfl rfl (by decide +kernel) ⟨Nat.le_of_ble_eq_true rfl, Nat.le_of_ble_eq_true rfl⟩) ⟨sz_c, va_recv hK hP (ci := 4) (q0 := 31) rfl (gX_31 cs ad nu12_), sz_m hK hz⟩ rfl rfl hl.1 rfl (lv_room (Nat.le_of_ble_eq_true rfl)) dX4_faultIn_48 ⟨Nat.zero_le _, Nat.zero_le _⟩) hS (fun q _ h => hFc q h) hFc (fun r20 xi20 t H20 locs ht hvm hw20 hB hz1 hk1 hS => ?_)
            have hP : va_P (dC, dI) vwCl (wR 157 ad (EX cs ad) xi20) H20 := by rw [← ht]; exact hB
            obtain ⟨hfe20, ok, hw20, hkp20_0⟩ := hw20
            have hF := mi_letp hF hfe20
            have kp21 : (∀ k f : Nat, Nat.testBit 510 (gpX k f) = true → xi20 k f = mu k f) := kp_t hkp20_0 (by decide) kq12_0
            refine lv_goto (tgt := 60) hx hb dX4_faultIn_51 (by decide) ?_
            refine lv_istore_n (lv' := [(3, .int r20), (2, .int v2_12), (0, .ref (ad 31)), (1, .ref (ad kx))]) hx hb dX4_faultIn_60 rfl hl (by decide) rfl (fun ls hl => ?_)
            refine lv_iload_n hx hb dX4_faultIn_61 rfl (lv_at hl 0 rfl) ?_
            refine lv_bipush (v := (-9)) hx hb dX4_faultIn_62 (by decide) ?_
            refine lv_icmp_eq (tgt := 69) hx hb dX4_faultIn_64 (by decide) (fun c_22 => ?_) (fun c_22 => ?_)
            · have hF := (if_pos c_22).symm.trans hF
              have c_22 : r20.toInt = -9 := il_eq c_22
              refine lv_iinc (v := (v2_12 + 2)) (lv' := [(2, .int (v2_12 + 2)), (3, .int r20), (0, .ref (ad 31)), (1, .ref (ad kx))]) hx hb dX4_faultIn_69 hl (k := 1) rfl rfl (by decide) rfl (fun ls hl => ?_)
              refine loc_gen (P := fun w9 => lv_has ls 4 [(2, .int w9), (3, .int r20), (0, .ref (ad 31)), (1, .ref (ad kx))]) (v2_12 + 2) hl (fun w23 hw23 hl => ?_)
              have hl : lv_has ls 4 [(2, .int w23), (3, .int r20), (0, .ref (ad 31)), (1, .ref (ad kx))] := hl
              have hF := mi_let hF hw23.symm
              have aw23 : w23.toInt = v2_12.toInt + 2 := by rw [← hw23]; exact tI_add (rfl : v2_12.toInt = _) (rfl : (2 : Int32).toInt = 2) (by omega) (by omega)
              refine lv_iinc (v := (w23 + 1)) (lv' := [(2, .int (w23 + 1)), (3, .int r20), (0, .ref (ad 31)), (1, .ref (ad kx))]) hx hb dX4_faultIn_72 hl (k := 0) rfl rfl (by decide) rfl (fun ls hl => ?_)
              refine loc_gen (P := fun w9 => lv_has ls 4 [(2, .int w9), (3, .int r20), (0, .ref (ad 31)), (1, .ref (ad kx))]) (w23 + 1) hl (fun w24 hw24 hl => ?_)
              have hl : lv_has ls 4 [(2, .int w24), (3, .int r20), (0, .ref (ad 31)), (1, .ref (ad kx))] := hl
              have hF := mi_let hF hw24.symm
              have aw24 : w24.toInt = w23.toInt + 1 := by rw [← hw24]; exact va1 (by omega)
              refine lv_goto (tgt := 12) hx hb dX4_faultIn_75 (by decide) ?_
              exact ih12 (w24) xi20 _ _ _ (by first | exact ms_lt hm_12 (by omega) (by omega) | omega) (by omega)  ok hP  kp21 hF hS (lv_sub hl [0, 2, 3] rfl)
            · have hF := (if_neg c_22).symm.trans hF
              have c_22 : ¬ r20.toInt = -9 := il_ne c_22
              refine lv_iload_n hx hb dX4_faultIn_67 rfl (lv_at hl 0 rfl) ?_
              exact W.iret (v := r20) hx hb hr (fun t ht hW => ⟨⟨r20, xi20, rfl, ⟨hF.trans hfz.symm, ok, trivial, kp21⟩, by first | (subst ht; exact hP) | (rw [ht]; exact hP) | (show va_P (dC, dI) vwCl (wR 157 ad (EX cs ad) xi20) t.heap; rw [ht]; exact hP)⟩, hS.F ht⟩) hS.2.2 dX4_faultIn_68
        · have hF := (if_pos c_12).symm.trans hF
          have c_12 : y11.toInt = 32 := il_eq c_12
          refine lv_goto (tgt := 72) hx hb dX4_faultIn_31 (by decide) ?_
          refine lv_iinc (v := (v2_12 + 1)) (lv' := [(2, .int (v2_12 + 1)), (0, .ref (ad 31)), (1, .ref (ad kx))]) hx hb dX4_faultIn_72 hl (k := 0) rfl rfl (by decide) rfl (fun ls hl => ?_)
          refine loc_gen (P := fun w9 => lv_has ls 4 [(2, .int w9), (0, .ref (ad 31)), (1, .ref (ad kx))]) (v2_12 + 1) hl (fun w25 hw25 hl => ?_)
          have hl : lv_has ls 4 [(2, .int w25), (0, .ref (ad 31)), (1, .ref (ad kx))] := hl
          have hF := mi_let hF hw25.symm
          have aw25 : w25.toInt = v2_12.toInt + 1 := by rw [← hw25]; first | exact va1 (Int.lt_of_le_of_lt h_v2_12.2 (by decide)) | exact va1 (by omega)
          refine lv_goto (tgt := 12) hx hb dX4_faultIn_75 (by decide) ?_
          exact ih12 (w25) nu12_ _ _ _ (by first | exact ms_up hm_12 aw25 h_v2_12.2 | exact ms_lt hm_12 (by omega) (by omega) | omega) (by first | exact rg_up aw25 h_v2_12 (by omega) | omega)  ok hP  kq12_0 hF hS (lv_sub hl [0, 1, 2] rfl)
  exact loop12 85 (0) nu4 _ _ _ (by have h80 : (0 : Int32).toInt = 0 := rfl; omega) (by have h80 : (0 : Int32).toInt = 0 := rfl; exact ⟨by omega, by omega⟩)  ok hP  kp6 hF hS hl
theorem mw_1_145 : (Cond.fieldLink RX4 58 "DearLetters$Town" "kinds" "[I" : Cond) ∈ lw_good := lg_at 1 145 rfl rfl
theorem mw_3_68 : (Cond.methodLink RX4 61 arraycopyName : Cond) ∈ lw_good := lg_at 3 68 rfl rfl
theorem mw_1_149 : (Cond.fieldLink RX4 67 "DearLetters$Town" "oneEnds" "[I" : Cond) ∈ lw_good := lg_at 1 149 rfl rfl
theorem mw_1_151 : (Cond.fieldLink RX4 68 "DearLetters$Town" "otherEnds" "[I" : Cond) ∈ lw_good := lg_at 1 151 rfl rfl
theorem mw_1_156 : (Cond.fieldLink RX4 69 "DearLetters$Town" "now" "LDearLetters$Standing;" : Cond) ∈ lw_good := lg_at 1 156 rfl rfl
theorem mw_1_107 : (Cond.fieldLink RX4 73 "DearLetters$Standing" "purses" "[I" : Cond) ∈ lw_good := lg_at 1 107 rfl rfl
theorem mw_1_163 : (Cond.fieldLink RX4 76 "DearLetters$Town" "bearers" "I" : Cond) ∈ lw_good := lg_at 1 163 rfl rfl
theorem mw_1_166 : (Cond.fieldLink RX4 77 "DearLetters$Town" "paths" "I" : Cond) ∈ lw_good := lg_at 1 166 rfl rfl
theorem mw_1_117 : (Cond.fieldLink RX4 78 "DearLetters$Standing" "snow" "I" : Cond) ∈ lw_good := lg_at 1 117 rfl rfl
theorem mw_1_122 : (Cond.fieldLink RX4 81 "DearLetters$Standing" "day" "I" : Cond) ∈ lw_good := lg_at 1 122 rfl rfl
theorem mw_1_127 : (Cond.fieldLink RX4 84 "DearLetters$Standing" "sent" "I" : Cond) ∈ lw_good := lg_at 1 127 rfl rfl
theorem cX_48_34 {a b : Nat} : ∀ f, loX 34 f ≤ loX 48 (a + (f - b)) ∧ hiX 48 (a + (f - b)) ≤ hiX 34 f := fun f => by
  unfold loX hiX
  exact (show (-2147483648 : Int) ≤ -2147483648 ∧ (2147483647 : Int) ≤ 2147483647 by decide)
theorem cX_50_35 {a b : Nat} : ∀ f, loX 35 f ≤ loX 50 (a + (f - b)) ∧ hiX 50 (a + (f - b)) ≤ hiX 35 f := fun f => by
  unfold loX hiX
  exact (show (0 : Int) ≤ 0 ∧ (6 : Int) ≤ 6 by decide)
theorem cX_51_36 {a b : Nat} : ∀ f, loX 36 f ≤ loX 51 (a + (f - b)) ∧ hiX 51 (a + (f - b)) ≤ hiX 36 f := fun f => by
  unfold loX hiX
  exact (show (0 : Int) ≤ 0 ∧ (6 : Int) ≤ 6 by decide)
theorem cX_49_46 {a b : Nat} : ∀ f, loX 46 f ≤ loX 49 (a + (f - b)) ∧ hiX 49 (a + (f - b)) ≤ hiX 46 f := fun f => by
  unfold loX hiX
  exact (show (-2147483648 : Int) ≤ -2147483648 ∧ (2147483647 : Int) ≤ 2147483647 by decide)
theorem hX_4_6 (cs : Nat → ClassId) (ad : Nat → Nat) (g : Nat → Int32) (v : Int32) : EX cs ad 4 (upd g 6 v) = .inr (10, [.ref (ad 34), .ref (ad 35), .ref (ad 36), .ref (ad 5), .ref (ad 37), .ref (ad 38), .int v, .int (g 7)]) := by
  rfl
theorem tX_4_6 {mu : Nat → Nat → Int32} (ok : okR loX hiX mu) {nu : Nat → Nat → Int32} {v : Int32} (hn : va_up mu 4 (upd (mu 4) 6 v) = nu) (hv : 0 ≤ v.toInt ∧ v.toInt ≤ 7) : okR loX hiX nu := by
  subst hn
  exact okR_up ok 4 6 v hv.1 hv.2
theorem hX_4_7 (cs : Nat → ClassId) (ad : Nat → Nat) (g : Nat → Int32) (v : Int32) : EX cs ad 4 (upd g 7 v) = .inr (10, [.ref (ad 34), .ref (ad 35), .ref (ad 36), .ref (ad 5), .ref (ad 37), .ref (ad 38), .int (g 6), .int v]) := by
  rfl
theorem tX_4_7 {mu : Nat → Nat → Int32} (ok : okR loX hiX mu) {nu : Nat → Nat → Int32} {v : Int32} (hn : va_up mu 4 (upd (mu 4) 7 v) = nu) (hv : 0 ≤ v.toInt ∧ v.toInt ≤ 12) : okR loX hiX nu := by
  subst hn
  exact okR_up ok 4 7 v hv.1 hv.2
theorem hX_5_4 (cs : Nat → ClassId) (ad : Nat → Nat) (g : Nat → Int32) (v : Int32) : EX cs ad 5 (upd g 4 v) = .inr (8, [.ref (ad 46), .ref (ad 47), .int (g 2), .int (g 3), .int v, .int (g 5)]) := by
  rfl
theorem tX_5_4 {mu : Nat → Nat → Int32} (ok : okR loX hiX mu) {nu : Nat → Nat → Int32} {v : Int32} (hn : va_up mu 5 (upd (mu 5) 4 v) = nu) (hv : 0 ≤ v.toInt ∧ v.toInt ≤ 4) : okR loX hiX nu := by
  subst hn
  exact okR_up ok 5 4 v hv.1 hv.2
theorem lb_X4_build_0 : dl_ck (cX4_build.data.toList.drop 0) [42, 180, 0, 9, 3, 43, 180, 0, 58, 3, 42, 180, 0, 24, 184, 0, 61, 42, 180, 0, 18, 3, 43, 180, 0, 67, 3, 42, 180, 0, 28, 184] = true := by decide +kernel
theorem lb_X4_build_1 : dl_ck (cX4_build.data.toList.drop 32) [0, 61, 42, 180, 0, 21, 3, 43, 180, 0, 68, 3, 42, 180, 0, 28, 184, 0, 61, 42, 180, 0, 15, 3, 43, 180, 0, 69, 180, 0, 73, 3] = true := by decide +kernel
theorem lb_X4_build_2 : dl_ck (cX4_build.data.toList.drop 64) [42, 180, 0, 24, 184, 0, 61, 43, 42, 180, 0, 24, 181, 0, 76, 43, 42, 180, 0, 28, 181, 0, 77, 43, 180, 0, 69, 3, 181, 0, 78, 43] = true := by decide +kernel
theorem lb_X4_build_3 : dl_ck (cX4_build.data.toList.drop 96) [180, 0, 69, 3, 181, 0, 81, 43, 180, 0, 69, 3, 181, 0, 84, 177] = true := by decide +kernel
theorem dX4_build_0 : decode cX4_build 0 = .ok (.aload_n 0, 1) := dx_42 (dl_at 0 0 lb_X4_build_0 rfl)
theorem dX4_build_1 : decode cX4_build 1 = .ok (.getfield 9, 3) := dx_180 (a := 0) (b := 9) (dl_at 0 1 lb_X4_build_0 rfl) (dl_at 0 2 lb_X4_build_0 rfl) (dl_at 0 3 lb_X4_build_0 rfl) rfl
theorem dX4_build_4 : decode cX4_build 4 = .ok (.iconst 0, 1) := dx_3 (dl_at 0 4 lb_X4_build_0 rfl)
theorem dX4_build_5 : decode cX4_build 5 = .ok (.aload_n 1, 1) := dx_43 (dl_at 0 5 lb_X4_build_0 rfl)
theorem dX4_build_6 : decode cX4_build 6 = .ok (.getfield 58, 3) := dx_180 (a := 0) (b := 58) (dl_at 0 6 lb_X4_build_0 rfl) (dl_at 0 7 lb_X4_build_0 rfl) (dl_at 0 8 lb_X4_build_0 rfl) rfl
theorem dX4_build_9 : decode cX4_build 9 = .ok (.iconst 0, 1) := dx_3 (dl_at 0 9 lb_X4_build_0 rfl)
theorem dX4_build_10 : decode cX4_build 10 = .ok (.aload_n 0, 1) := dx_42 (dl_at 0 10 lb_X4_build_0 rfl)
theorem dX4_build_11 : decode cX4_build 11 = .ok (.getfield 24, 3) := dx_180 (a := 0) (b := 24) (dl_at 0 11 lb_X4_build_0 rfl) (dl_at 0 12 lb_X4_build_0 rfl) (dl_at 0 13 lb_X4_build_0 rfl) rfl
theorem dX4_build_14 : decode cX4_build 14 = .ok (.invokestatic 61, 3) := dx_184 (a := 0) (b := 61) (dl_at 0 14 lb_X4_build_0 rfl) (dl_at 0 15 lb_X4_build_0 rfl) (dl_at 0 16 lb_X4_build_0 rfl) rfl
theorem dX4_build_17 : decode cX4_build 17 = .ok (.aload_n 0, 1) := dx_42 (dl_at 0 17 lb_X4_build_0 rfl)
theorem dX4_build_18 : decode cX4_build 18 = .ok (.getfield 18, 3) := dx_180 (a := 0) (b := 18) (dl_at 0 18 lb_X4_build_0 rfl) (dl_at 0 19 lb_X4_build_0 rfl) (dl_at 0 20 lb_X4_build_0 rfl) rfl
theorem dX4_build_21 : decode cX4_build 21 = .ok (.iconst 0, 1) := dx_3 (dl_at 0 21 lb_X4_build_0 rfl)
theorem dX4_build_22 : decode cX4_build 22 = .ok (.aload_n 1, 1) := dx_43 (dl_at 0 22 lb_X4_build_0 rfl)
theorem dX4_build_23 : decode cX4_build 23 = .ok (.getfield 67, 3) := dx_180 (a := 0) (b := 67) (dl_at 0 23 lb_X4_build_0 rfl) (dl_at 0 24 lb_X4_build_0 rfl) (dl_at 0 25 lb_X4_build_0 rfl) rfl
theorem dX4_build_26 : decode cX4_build 26 = .ok (.iconst 0, 1) := dx_3 (dl_at 0 26 lb_X4_build_0 rfl)
theorem dX4_build_27 : decode cX4_build 27 = .ok (.aload_n 0, 1) := dx_42 (dl_at 0 27 lb_X4_build_0 rfl)
theorem dX4_build_28 : decode cX4_build 28 = .ok (.getfield 28, 3) := dx_180 (a := 0) (b := 28) (dl_at 0 28 lb_X4_build_0 rfl) (dl_at 0 29 lb_X4_build_0 rfl) (dl_at 0 30 lb_X4_build_0 rfl) rfl
theorem dX4_build_31 : decode cX4_build 31 = .ok (.invokestatic 61, 3) := dx_184 (a := 0) (b := 61) (dl_at 0 31 lb_X4_build_0 rfl) (dl_at 32 0 lb_X4_build_1 rfl) (dl_at 32 1 lb_X4_build_1 rfl) rfl
theorem dX4_build_34 : decode cX4_build 34 = .ok (.aload_n 0, 1) := dx_42 (dl_at 32 2 lb_X4_build_1 rfl)
theorem dX4_build_35 : decode cX4_build 35 = .ok (.getfield 21, 3) := dx_180 (a := 0) (b := 21) (dl_at 32 3 lb_X4_build_1 rfl) (dl_at 32 4 lb_X4_build_1 rfl) (dl_at 32 5 lb_X4_build_1 rfl) rfl
theorem dX4_build_38 : decode cX4_build 38 = .ok (.iconst 0, 1) := dx_3 (dl_at 32 6 lb_X4_build_1 rfl)
theorem dX4_build_39 : decode cX4_build 39 = .ok (.aload_n 1, 1) := dx_43 (dl_at 32 7 lb_X4_build_1 rfl)
theorem dX4_build_40 : decode cX4_build 40 = .ok (.getfield 68, 3) := dx_180 (a := 0) (b := 68) (dl_at 32 8 lb_X4_build_1 rfl) (dl_at 32 9 lb_X4_build_1 rfl) (dl_at 32 10 lb_X4_build_1 rfl) rfl
theorem dX4_build_43 : decode cX4_build 43 = .ok (.iconst 0, 1) := dx_3 (dl_at 32 11 lb_X4_build_1 rfl)
theorem dX4_build_44 : decode cX4_build 44 = .ok (.aload_n 0, 1) := dx_42 (dl_at 32 12 lb_X4_build_1 rfl)
theorem dX4_build_45 : decode cX4_build 45 = .ok (.getfield 28, 3) := dx_180 (a := 0) (b := 28) (dl_at 32 13 lb_X4_build_1 rfl) (dl_at 32 14 lb_X4_build_1 rfl) (dl_at 32 15 lb_X4_build_1 rfl) rfl
theorem dX4_build_48 : decode cX4_build 48 = .ok (.invokestatic 61, 3) := dx_184 (a := 0) (b := 61) (dl_at 32 16 lb_X4_build_1 rfl) (dl_at 32 17 lb_X4_build_1 rfl) (dl_at 32 18 lb_X4_build_1 rfl) rfl
theorem dX4_build_51 : decode cX4_build 51 = .ok (.aload_n 0, 1) := dx_42 (dl_at 32 19 lb_X4_build_1 rfl)
theorem dX4_build_52 : decode cX4_build 52 = .ok (.getfield 15, 3) := dx_180 (a := 0) (b := 15) (dl_at 32 20 lb_X4_build_1 rfl) (dl_at 32 21 lb_X4_build_1 rfl) (dl_at 32 22 lb_X4_build_1 rfl) rfl
theorem dX4_build_55 : decode cX4_build 55 = .ok (.iconst 0, 1) := dx_3 (dl_at 32 23 lb_X4_build_1 rfl)
theorem dX4_build_56 : decode cX4_build 56 = .ok (.aload_n 1, 1) := dx_43 (dl_at 32 24 lb_X4_build_1 rfl)
theorem dX4_build_57 : decode cX4_build 57 = .ok (.getfield 69, 3) := dx_180 (a := 0) (b := 69) (dl_at 32 25 lb_X4_build_1 rfl) (dl_at 32 26 lb_X4_build_1 rfl) (dl_at 32 27 lb_X4_build_1 rfl) rfl
theorem dX4_build_60 : decode cX4_build 60 = .ok (.getfield 73, 3) := dx_180 (a := 0) (b := 73) (dl_at 32 28 lb_X4_build_1 rfl) (dl_at 32 29 lb_X4_build_1 rfl) (dl_at 32 30 lb_X4_build_1 rfl) rfl
theorem dX4_build_63 : decode cX4_build 63 = .ok (.iconst 0, 1) := dx_3 (dl_at 32 31 lb_X4_build_1 rfl)
theorem dX4_build_64 : decode cX4_build 64 = .ok (.aload_n 0, 1) := dx_42 (dl_at 64 0 lb_X4_build_2 rfl)
theorem dX4_build_65 : decode cX4_build 65 = .ok (.getfield 24, 3) := dx_180 (a := 0) (b := 24) (dl_at 64 1 lb_X4_build_2 rfl) (dl_at 64 2 lb_X4_build_2 rfl) (dl_at 64 3 lb_X4_build_2 rfl) rfl
theorem dX4_build_68 : decode cX4_build 68 = .ok (.invokestatic 61, 3) := dx_184 (a := 0) (b := 61) (dl_at 64 4 lb_X4_build_2 rfl) (dl_at 64 5 lb_X4_build_2 rfl) (dl_at 64 6 lb_X4_build_2 rfl) rfl
theorem dX4_build_71 : decode cX4_build 71 = .ok (.aload_n 1, 1) := dx_43 (dl_at 64 7 lb_X4_build_2 rfl)
theorem dX4_build_72 : decode cX4_build 72 = .ok (.aload_n 0, 1) := dx_42 (dl_at 64 8 lb_X4_build_2 rfl)
theorem dX4_build_73 : decode cX4_build 73 = .ok (.getfield 24, 3) := dx_180 (a := 0) (b := 24) (dl_at 64 9 lb_X4_build_2 rfl) (dl_at 64 10 lb_X4_build_2 rfl) (dl_at 64 11 lb_X4_build_2 rfl) rfl
theorem dX4_build_76 : decode cX4_build 76 = .ok (.putfield 76, 3) := dx_181 (a := 0) (b := 76) (dl_at 64 12 lb_X4_build_2 rfl) (dl_at 64 13 lb_X4_build_2 rfl) (dl_at 64 14 lb_X4_build_2 rfl) rfl
theorem dX4_build_79 : decode cX4_build 79 = .ok (.aload_n 1, 1) := dx_43 (dl_at 64 15 lb_X4_build_2 rfl)
theorem dX4_build_80 : decode cX4_build 80 = .ok (.aload_n 0, 1) := dx_42 (dl_at 64 16 lb_X4_build_2 rfl)
theorem dX4_build_81 : decode cX4_build 81 = .ok (.getfield 28, 3) := dx_180 (a := 0) (b := 28) (dl_at 64 17 lb_X4_build_2 rfl) (dl_at 64 18 lb_X4_build_2 rfl) (dl_at 64 19 lb_X4_build_2 rfl) rfl
theorem dX4_build_84 : decode cX4_build 84 = .ok (.putfield 77, 3) := dx_181 (a := 0) (b := 77) (dl_at 64 20 lb_X4_build_2 rfl) (dl_at 64 21 lb_X4_build_2 rfl) (dl_at 64 22 lb_X4_build_2 rfl) rfl
theorem dX4_build_87 : decode cX4_build 87 = .ok (.aload_n 1, 1) := dx_43 (dl_at 64 23 lb_X4_build_2 rfl)
theorem dX4_build_88 : decode cX4_build 88 = .ok (.getfield 69, 3) := dx_180 (a := 0) (b := 69) (dl_at 64 24 lb_X4_build_2 rfl) (dl_at 64 25 lb_X4_build_2 rfl) (dl_at 64 26 lb_X4_build_2 rfl) rfl
theorem dX4_build_91 : decode cX4_build 91 = .ok (.iconst 0, 1) := dx_3 (dl_at 64 27 lb_X4_build_2 rfl)
theorem dX4_build_92 : decode cX4_build 92 = .ok (.putfield 78, 3) := dx_181 (a := 0) (b := 78) (dl_at 64 28 lb_X4_build_2 rfl) (dl_at 64 29 lb_X4_build_2 rfl) (dl_at 64 30 lb_X4_build_2 rfl) rfl
theorem dX4_build_95 : decode cX4_build 95 = .ok (.aload_n 1, 1) := dx_43 (dl_at 64 31 lb_X4_build_2 rfl)
theorem dX4_build_96 : decode cX4_build 96 = .ok (.getfield 69, 3) := dx_180 (a := 0) (b := 69) (dl_at 96 0 lb_X4_build_3 rfl) (dl_at 96 1 lb_X4_build_3 rfl) (dl_at 96 2 lb_X4_build_3 rfl) rfl
theorem dX4_build_99 : decode cX4_build 99 = .ok (.iconst 0, 1) := dx_3 (dl_at 96 3 lb_X4_build_3 rfl)
theorem dX4_build_100 : decode cX4_build 100 = .ok (.putfield 81, 3) := dx_181 (a := 0) (b := 81) (dl_at 96 4 lb_X4_build_3 rfl) (dl_at 96 5 lb_X4_build_3 rfl) (dl_at 96 6 lb_X4_build_3 rfl) rfl
theorem dX4_build_103 : decode cX4_build 103 = .ok (.aload_n 1, 1) := dx_43 (dl_at 96 7 lb_X4_build_3 rfl)
theorem dX4_build_104 : decode cX4_build 104 = .ok (.getfield 69, 3) := dx_180 (a := 0) (b := 69) (dl_at 96 8 lb_X4_build_3 rfl) (dl_at 96 9 lb_X4_build_3 rfl) (dl_at 96 10 lb_X4_build_3 rfl) rfl
theorem dX4_build_107 : decode cX4_build 107 = .ok (.iconst 0, 1) := dx_3 (dl_at 96 11 lb_X4_build_3 rfl)
theorem dX4_build_108 : decode cX4_build 108 = .ok (.putfield 84, 3) := dx_181 (a := 0) (b := 84) (dl_at 96 12 lb_X4_build_3 rfl) (dl_at 96 13 lb_X4_build_3 rfl) (dl_at 96 14 lb_X4_build_3 rfl) rfl
theorem dX4_build_111 : decode cX4_build 111 = .ok (.return_, 1) := dx_177 (dl_at 96 15 lb_X4_build_3 rfl)
def F_sx_build (mu : Nat → Nat → Int32) : Nat → Nat → Int32 :=
  LETV (mu 31 4 : Int32) fun y1 =>
  LETV (va_up mu 34 (va_cpy (mu 48) (mu 34) (0 : Int32).toNatClampNeg (0 : Int32).toNatClampNeg (y1 : Int32).toNatClampNeg) : Nat → Nat → Int32) fun nu2 =>
  LETV (nu2 31 5 : Int32) fun y5 =>
  LETV (va_up nu2 35 (va_cpy (nu2 50) (nu2 35) (0 : Int32).toNatClampNeg (0 : Int32).toNatClampNeg (y5 : Int32).toNatClampNeg) : Nat → Nat → Int32) fun nu6 =>
  LETV (va_up nu6 36 (va_cpy (nu6 51) (nu6 36) (0 : Int32).toNatClampNeg (0 : Int32).toNatClampNeg (y5 : Int32).toNatClampNeg) : Nat → Nat → Int32) fun nu10 =>
  LETV (va_up nu10 46 (va_cpy (nu10 49) (nu10 46) (0 : Int32).toNatClampNeg (0 : Int32).toNatClampNeg (y1 : Int32).toNatClampNeg) : Nat → Nat → Int32) fun nu14 =>
  LETV (va_up nu14 4 (upd (nu14 4) 6 y1) : Nat → Nat → Int32) fun nu18 =>
  LETV (va_up nu18 4 (upd (nu18 4) 7 y5) : Nat → Nat → Int32) fun nu23 =>
  LETV (va_up nu23 5 (upd (nu23 5) 2 0) : Nat → Nat → Int32) fun nu29 =>
  LETV (va_up nu29 5 (upd (nu29 5) 3 0) : Nat → Nat → Int32) fun nu36 =>
  LETV (va_up nu36 5 (upd (nu36 5) 4 0) : Nat → Nat → Int32) fun nu44 =>
  nu44
