theorem lb_X12_block_0 : dl_ck (cX12_block.data.toList.drop 0) [42, 27, 182, 1, 10, 61, 28, 156, 0, 5, 28, 172, 42, 180, 0, 229, 154, 0, 10, 42, 3, 3, 182, 0, 103, 172, 42, 180, 0, 142, 62, 16] = true := by decide +kernel
theorem lb_X12_block_1 : dl_ck (cX12_block.data.toList.drop 32) [247, 54, 4, 4, 54, 5, 21, 5, 4, 42, 180, 0, 139, 120, 162, 0, 65, 21, 5, 29, 126, 154, 0, 52, 21, 4, 16, 247, 159, 0, 16, 21] = true := by decide +kernel
theorem lb_X12_block_2 : dl_ck (cX12_block.data.toList.drop 64) [5, 184, 0, 170, 21, 4, 184, 0, 170, 162, 0, 32, 42, 29, 21, 5, 128, 181, 0, 142, 42, 27, 182, 1, 3, 42, 180, 0, 229, 154, 0, 8] = true := by decide +kernel
theorem lb_X12_block_3 : dl_ck (cX12_block.data.toList.drop 96) [21, 5, 167, 0, 5, 21, 4, 54, 4, 132, 5, 1, 167, 255, 186, 42, 29, 181, 0, 142, 42, 21, 4, 21, 4, 184, 0, 170, 182, 0, 103, 172] = true := by decide +kernel
theorem dX12_block_0 : decode cX12_block 0 = .ok (.aload_n 0, 1) := dx_42 (dl_at 0 0 lb_X12_block_0 rfl)
theorem dX12_block_1 : decode cX12_block 1 = .ok (.iload_n 1, 1) := dx_27 (dl_at 0 1 lb_X12_block_0 rfl)
theorem dX12_block_2 : decode cX12_block 2 = .ok (.invokevirtual 266, 3) := dx_182 (a := 1) (b := 10) (dl_at 0 2 lb_X12_block_0 rfl) (dl_at 0 3 lb_X12_block_0 rfl) (dl_at 0 4 lb_X12_block_0 rfl) rfl
theorem dX12_block_5 : decode cX12_block 5 = .ok (.istore_n 2, 1) := dx_61 (dl_at 0 5 lb_X12_block_0 rfl)
theorem dX12_block_6 : decode cX12_block 6 = .ok (.iload_n 2, 1) := dx_28 (dl_at 0 6 lb_X12_block_0 rfl)
theorem dX12_block_7 : decode cX12_block 7 = .ok (.ifCond .ge 5, 3) := dx_156 (a := 0) (b := 5) (dl_at 0 7 lb_X12_block_0 rfl) (dl_at 0 8 lb_X12_block_0 rfl) (dl_at 0 9 lb_X12_block_0 rfl) sg16_5
theorem dX12_block_12 : decode cX12_block 12 = .ok (.aload_n 0, 1) := dx_42 (dl_at 0 12 lb_X12_block_0 rfl)
theorem dX12_block_13 : decode cX12_block 13 = .ok (.getfield 229, 3) := dx_180 (a := 0) (b := 229) (dl_at 0 13 lb_X12_block_0 rfl) (dl_at 0 14 lb_X12_block_0 rfl) (dl_at 0 15 lb_X12_block_0 rfl) rfl
theorem dX12_block_16 : decode cX12_block 16 = .ok (.ifCond .ne 10, 3) := dx_154 (a := 0) (b := 10) (dl_at 0 16 lb_X12_block_0 rfl) (dl_at 0 17 lb_X12_block_0 rfl) (dl_at 0 18 lb_X12_block_0 rfl) sg16_10
theorem dX12_block_26 : decode cX12_block 26 = .ok (.aload_n 0, 1) := dx_42 (dl_at 0 26 lb_X12_block_0 rfl)
theorem dX12_block_27 : decode cX12_block 27 = .ok (.getfield 142, 3) := dx_180 (a := 0) (b := 142) (dl_at 0 27 lb_X12_block_0 rfl) (dl_at 0 28 lb_X12_block_0 rfl) (dl_at 0 29 lb_X12_block_0 rfl) rfl
theorem dX12_block_30 : decode cX12_block 30 = .ok (.istore_n 3, 1) := dx_62 (dl_at 0 30 lb_X12_block_0 rfl)
theorem dX12_block_31 : decode cX12_block 31 = .ok (.bipush (-9), 2) := dx_16 (dl_at 0 31 lb_X12_block_0 rfl) (dl_at 32 0 lb_X12_block_1 rfl) sg8_247
theorem dX12_block_33 : decode cX12_block 33 = .ok (.istore 4, 2) := dx_54 (dl_at 32 1 lb_X12_block_1 rfl) (dl_at 32 2 lb_X12_block_1 rfl)
theorem dX12_block_35 : decode cX12_block 35 = .ok (.iconst 1, 1) := dx_4 (dl_at 32 3 lb_X12_block_1 rfl)
theorem dX12_block_36 : decode cX12_block 36 = .ok (.istore 5, 2) := dx_54 (dl_at 32 4 lb_X12_block_1 rfl) (dl_at 32 5 lb_X12_block_1 rfl)
theorem dX12_block_38 : decode cX12_block 38 = .ok (.iload 5, 2) := dx_21 (dl_at 32 6 lb_X12_block_1 rfl) (dl_at 32 7 lb_X12_block_1 rfl)
theorem dX12_block_40 : decode cX12_block 40 = .ok (.iconst 1, 1) := dx_4 (dl_at 32 8 lb_X12_block_1 rfl)
theorem dX12_block_41 : decode cX12_block 41 = .ok (.aload_n 0, 1) := dx_42 (dl_at 32 9 lb_X12_block_1 rfl)
theorem dX12_block_42 : decode cX12_block 42 = .ok (.getfield 139, 3) := dx_180 (a := 0) (b := 139) (dl_at 32 10 lb_X12_block_1 rfl) (dl_at 32 11 lb_X12_block_1 rfl) (dl_at 32 12 lb_X12_block_1 rfl) rfl
theorem dX12_block_45 : decode cX12_block 45 = .ok (.ishl, 1) := dx_120 (dl_at 32 13 lb_X12_block_1 rfl)
theorem dX12_block_46 : decode cX12_block 46 = .ok (.if_icmp .ge 65, 3) := dx_162 (a := 0) (b := 65) (dl_at 32 14 lb_X12_block_1 rfl) (dl_at 32 15 lb_X12_block_1 rfl) (dl_at 32 16 lb_X12_block_1 rfl) sg16_65
theorem dX12_block_111 : decode cX12_block 111 = .ok (.aload_n 0, 1) := dx_42 (dl_at 96 15 lb_X12_block_3 rfl)
theorem dX12_block_112 : decode cX12_block 112 = .ok (.iload_n 3, 1) := dx_29 (dl_at 96 16 lb_X12_block_3 rfl)
theorem dX12_block_113 : decode cX12_block 113 = .ok (.putfield 142, 3) := dx_181 (a := 0) (b := 142) (dl_at 96 17 lb_X12_block_3 rfl) (dl_at 96 18 lb_X12_block_3 rfl) (dl_at 96 19 lb_X12_block_3 rfl) rfl
theorem dX12_block_116 : decode cX12_block 116 = .ok (.aload_n 0, 1) := dx_42 (dl_at 96 20 lb_X12_block_3 rfl)
theorem dX12_block_117 : decode cX12_block 117 = .ok (.iload 4, 2) := dx_21 (dl_at 96 21 lb_X12_block_3 rfl) (dl_at 96 22 lb_X12_block_3 rfl)
theorem dX12_block_119 : decode cX12_block 119 = .ok (.iload 4, 2) := dx_21 (dl_at 96 23 lb_X12_block_3 rfl) (dl_at 96 24 lb_X12_block_3 rfl)
theorem dX12_block_121 : decode cX12_block 121 = .ok (.invokestatic 170, 3) := dx_184 (a := 0) (b := 170) (dl_at 96 25 lb_X12_block_3 rfl) (dl_at 96 26 lb_X12_block_3 rfl) (dl_at 96 27 lb_X12_block_3 rfl) rfl
theorem dX12_block_124 : decode cX12_block 124 = .ok (.invokevirtual 103, 3) := dx_182 (a := 0) (b := 103) (dl_at 96 28 lb_X12_block_3 rfl) (dl_at 96 29 lb_X12_block_3 rfl) (dl_at 96 30 lb_X12_block_3 rfl) rfl
theorem dX12_block_127 : decode cX12_block 127 = .ok (.ireturn, 1) := dx_172 (dl_at 96 31 lb_X12_block_3 rfl)
theorem dX12_block_49 : decode cX12_block 49 = .ok (.iload 5, 2) := dx_21 (dl_at 32 17 lb_X12_block_1 rfl) (dl_at 32 18 lb_X12_block_1 rfl)
theorem dX12_block_51 : decode cX12_block 51 = .ok (.iload_n 3, 1) := dx_29 (dl_at 32 19 lb_X12_block_1 rfl)
theorem dX12_block_52 : decode cX12_block 52 = .ok (.iand, 1) := dx_126 (dl_at 32 20 lb_X12_block_1 rfl)
theorem dX12_block_53 : decode cX12_block 53 = .ok (.ifCond .ne 52, 3) := dx_154 (a := 0) (b := 52) (dl_at 32 21 lb_X12_block_1 rfl) (dl_at 32 22 lb_X12_block_1 rfl) (dl_at 32 23 lb_X12_block_1 rfl) sg16_52
theorem dX12_block_105 : decode cX12_block 105 = .ok (.iinc 5 1, 3) := dx_132 (dl_at 96 9 lb_X12_block_3 rfl) (dl_at 96 10 lb_X12_block_3 rfl) (dl_at 96 11 lb_X12_block_3 rfl) sg8_1
theorem dX12_block_108 : decode cX12_block 108 = .ok (.goto (-70), 3) := dx_167 (a := 255) (b := 186) (dl_at 96 12 lb_X12_block_3 rfl) (dl_at 96 13 lb_X12_block_3 rfl) (dl_at 96 14 lb_X12_block_3 rfl) sg16_65466
theorem dX12_block_56 : decode cX12_block 56 = .ok (.iload 4, 2) := dx_21 (dl_at 32 24 lb_X12_block_1 rfl) (dl_at 32 25 lb_X12_block_1 rfl)
theorem dX12_block_58 : decode cX12_block 58 = .ok (.bipush (-9), 2) := dx_16 (dl_at 32 26 lb_X12_block_1 rfl) (dl_at 32 27 lb_X12_block_1 rfl) sg8_247
theorem dX12_block_60 : decode cX12_block 60 = .ok (.if_icmp .eq 16, 3) := dx_159 (a := 0) (b := 16) (dl_at 32 28 lb_X12_block_1 rfl) (dl_at 32 29 lb_X12_block_1 rfl) (dl_at 32 30 lb_X12_block_1 rfl) sg16_16
theorem dX12_block_76 : decode cX12_block 76 = .ok (.aload_n 0, 1) := dx_42 (dl_at 64 12 lb_X12_block_2 rfl)
theorem dX12_block_77 : decode cX12_block 77 = .ok (.iload_n 3, 1) := dx_29 (dl_at 64 13 lb_X12_block_2 rfl)
theorem dX12_block_78 : decode cX12_block 78 = .ok (.iload 5, 2) := dx_21 (dl_at 64 14 lb_X12_block_2 rfl) (dl_at 64 15 lb_X12_block_2 rfl)
theorem dX12_block_80 : decode cX12_block 80 = .ok (.ior, 1) := dx_128 (dl_at 64 16 lb_X12_block_2 rfl)
theorem dX12_block_81 : decode cX12_block 81 = .ok (.putfield 142, 3) := dx_181 (a := 0) (b := 142) (dl_at 64 17 lb_X12_block_2 rfl) (dl_at 64 18 lb_X12_block_2 rfl) (dl_at 64 19 lb_X12_block_2 rfl) rfl
theorem dX12_block_84 : decode cX12_block 84 = .ok (.aload_n 0, 1) := dx_42 (dl_at 64 20 lb_X12_block_2 rfl)
theorem dX12_block_85 : decode cX12_block 85 = .ok (.iload_n 1, 1) := dx_27 (dl_at 64 21 lb_X12_block_2 rfl)
theorem dX12_block_86 : decode cX12_block 86 = .ok (.invokevirtual 259, 3) := dx_182 (a := 1) (b := 3) (dl_at 64 22 lb_X12_block_2 rfl) (dl_at 64 23 lb_X12_block_2 rfl) (dl_at 64 24 lb_X12_block_2 rfl) rfl
theorem dX12_block_89 : decode cX12_block 89 = .ok (.aload_n 0, 1) := dx_42 (dl_at 64 25 lb_X12_block_2 rfl)
theorem dX12_block_90 : decode cX12_block 90 = .ok (.getfield 229, 3) := dx_180 (a := 0) (b := 229) (dl_at 64 26 lb_X12_block_2 rfl) (dl_at 64 27 lb_X12_block_2 rfl) (dl_at 64 28 lb_X12_block_2 rfl) rfl
theorem dX12_block_93 : decode cX12_block 93 = .ok (.ifCond .ne 8, 3) := dx_154 (a := 0) (b := 8) (dl_at 64 29 lb_X12_block_2 rfl) (dl_at 64 30 lb_X12_block_2 rfl) (dl_at 64 31 lb_X12_block_2 rfl) sg16_8
theorem dX12_block_101 : decode cX12_block 101 = .ok (.iload 4, 2) := dx_21 (dl_at 96 5 lb_X12_block_3 rfl) (dl_at 96 6 lb_X12_block_3 rfl)
theorem dX12_block_103 : decode cX12_block 103 = .ok (.istore 4, 2) := dx_54 (dl_at 96 7 lb_X12_block_3 rfl) (dl_at 96 8 lb_X12_block_3 rfl)
theorem dX12_block_96 : decode cX12_block 96 = .ok (.iload 5, 2) := dx_21 (dl_at 96 0 lb_X12_block_3 rfl) (dl_at 96 1 lb_X12_block_3 rfl)
theorem dX12_block_98 : decode cX12_block 98 = .ok (.goto 5, 3) := dx_167 (a := 0) (b := 5) (dl_at 96 2 lb_X12_block_3 rfl) (dl_at 96 3 lb_X12_block_3 rfl) (dl_at 96 4 lb_X12_block_3 rfl) sg16_5
theorem dX12_block_63 : decode cX12_block 63 = .ok (.iload 5, 2) := dx_21 (dl_at 32 31 lb_X12_block_1 rfl) (dl_at 64 0 lb_X12_block_2 rfl)
theorem dX12_block_65 : decode cX12_block 65 = .ok (.invokestatic 170, 3) := dx_184 (a := 0) (b := 170) (dl_at 64 1 lb_X12_block_2 rfl) (dl_at 64 2 lb_X12_block_2 rfl) (dl_at 64 3 lb_X12_block_2 rfl) rfl
theorem dX12_block_68 : decode cX12_block 68 = .ok (.iload 4, 2) := dx_21 (dl_at 64 4 lb_X12_block_2 rfl) (dl_at 64 5 lb_X12_block_2 rfl)
theorem dX12_block_70 : decode cX12_block 70 = .ok (.invokestatic 170, 3) := dx_184 (a := 0) (b := 170) (dl_at 64 6 lb_X12_block_2 rfl) (dl_at 64 7 lb_X12_block_2 rfl) (dl_at 64 8 lb_X12_block_2 rfl) rfl
theorem dX12_block_73 : decode cX12_block 73 = .ok (.if_icmp .ge 32, 3) := dx_162 (a := 0) (b := 32) (dl_at 64 9 lb_X12_block_2 rfl) (dl_at 64 10 lb_X12_block_2 rfl) (dl_at 64 11 lb_X12_block_2 rfl) sg16_32
theorem dX12_block_19 : decode cX12_block 19 = .ok (.aload_n 0, 1) := dx_42 (dl_at 0 19 lb_X12_block_0 rfl)
theorem dX12_block_20 : decode cX12_block 20 = .ok (.iconst 0, 1) := dx_3 (dl_at 0 20 lb_X12_block_0 rfl)
theorem dX12_block_21 : decode cX12_block 21 = .ok (.iconst 0, 1) := dx_3 (dl_at 0 21 lb_X12_block_0 rfl)
theorem dX12_block_22 : decode cX12_block 22 = .ok (.invokevirtual 103, 3) := dx_182 (a := 0) (b := 103) (dl_at 0 22 lb_X12_block_0 rfl) (dl_at 0 23 lb_X12_block_0 rfl) (dl_at 0 24 lb_X12_block_0 rfl) rfl
theorem dX12_block_25 : decode cX12_block 25 = .ok (.ireturn, 1) := dx_172 (dl_at 0 25 lb_X12_block_0 rfl)
theorem dX12_block_10 : decode cX12_block 10 = .ok (.iload_n 2, 1) := dx_28 (dl_at 0 10 lb_X12_block_0 rfl)
theorem dX12_block_11 : decode cX12_block 11 = .ok (.ireturn, 1) := dx_172 (dl_at 0 11 lb_X12_block_0 rfl)
theorem lb_X12_bestOf_0 : dl_ck (cX12_bestOf.data.toList.drop 0) [3, 62, 3, 54, 4, 21, 4, 42, 180, 0, 136, 162, 0, 78, 42, 27, 182, 0, 167, 21, 4, 184, 0, 157, 153, 0, 24, 42, 180, 0, 28, 21] = true := by decide +kernel
theorem lb_X12_bestOf_1 : dl_ck (cX12_bestOf.data.toList.drop 32) [4, 46, 6, 160, 0, 9, 21, 4, 28, 160, 0, 7, 4, 167, 0, 4, 3, 54, 5, 21, 5, 153, 0, 28, 42, 180, 0, 67, 21, 4, 46, 4] = true := by decide +kernel
theorem lb_X12_bestOf_2 : dl_ck (cX12_bestOf.data.toList.drop 64) [100, 29, 164, 0, 15, 42, 180, 0, 67, 21, 4, 46, 4, 100, 167, 0, 4, 29, 62, 132, 4, 1, 167, 255, 175, 29, 172] = true := by decide +kernel
theorem dX12_bestOf_0 : decode cX12_bestOf 0 = .ok (.iconst 0, 1) := dx_3 (dl_at 0 0 lb_X12_bestOf_0 rfl)
theorem dX12_bestOf_1 : decode cX12_bestOf 1 = .ok (.istore_n 3, 1) := dx_62 (dl_at 0 1 lb_X12_bestOf_0 rfl)
theorem dX12_bestOf_2 : decode cX12_bestOf 2 = .ok (.iconst 0, 1) := dx_3 (dl_at 0 2 lb_X12_bestOf_0 rfl)
theorem dX12_bestOf_3 : decode cX12_bestOf 3 = .ok (.istore 4, 2) := dx_54 (dl_at 0 3 lb_X12_bestOf_0 rfl) (dl_at 0 4 lb_X12_bestOf_0 rfl)
theorem dX12_bestOf_5 : decode cX12_bestOf 5 = .ok (.iload 4, 2) := dx_21 (dl_at 0 5 lb_X12_bestOf_0 rfl) (dl_at 0 6 lb_X12_bestOf_0 rfl)
theorem dX12_bestOf_7 : decode cX12_bestOf 7 = .ok (.aload_n 0, 1) := dx_42 (dl_at 0 7 lb_X12_bestOf_0 rfl)
theorem dX12_bestOf_8 : decode cX12_bestOf 8 = .ok (.getfield 136, 3) := dx_180 (a := 0) (b := 136) (dl_at 0 8 lb_X12_bestOf_0 rfl) (dl_at 0 9 lb_X12_bestOf_0 rfl) (dl_at 0 10 lb_X12_bestOf_0 rfl) rfl
theorem dX12_bestOf_11 : decode cX12_bestOf 11 = .ok (.if_icmp .ge 78, 3) := dx_162 (a := 0) (b := 78) (dl_at 0 11 lb_X12_bestOf_0 rfl) (dl_at 0 12 lb_X12_bestOf_0 rfl) (dl_at 0 13 lb_X12_bestOf_0 rfl) sg16_78
theorem dX12_bestOf_89 : decode cX12_bestOf 89 = .ok (.iload_n 3, 1) := dx_29 (dl_at 64 25 lb_X12_bestOf_2 rfl)
theorem dX12_bestOf_90 : decode cX12_bestOf 90 = .ok (.ireturn, 1) := dx_172 (dl_at 64 26 lb_X12_bestOf_2 rfl)
theorem dX12_bestOf_14 : decode cX12_bestOf 14 = .ok (.aload_n 0, 1) := dx_42 (dl_at 0 14 lb_X12_bestOf_0 rfl)
theorem dX12_bestOf_15 : decode cX12_bestOf 15 = .ok (.iload_n 1, 1) := dx_27 (dl_at 0 15 lb_X12_bestOf_0 rfl)
theorem dX12_bestOf_16 : decode cX12_bestOf 16 = .ok (.invokevirtual 167, 3) := dx_182 (a := 0) (b := 167) (dl_at 0 16 lb_X12_bestOf_0 rfl) (dl_at 0 17 lb_X12_bestOf_0 rfl) (dl_at 0 18 lb_X12_bestOf_0 rfl) rfl
theorem dX12_bestOf_19 : decode cX12_bestOf 19 = .ok (.iload 4, 2) := dx_21 (dl_at 0 19 lb_X12_bestOf_0 rfl) (dl_at 0 20 lb_X12_bestOf_0 rfl)
theorem dX12_bestOf_21 : decode cX12_bestOf 21 = .ok (.invokestatic 157, 3) := dx_184 (a := 0) (b := 157) (dl_at 0 21 lb_X12_bestOf_0 rfl) (dl_at 0 22 lb_X12_bestOf_0 rfl) (dl_at 0 23 lb_X12_bestOf_0 rfl) rfl
theorem dX12_bestOf_24 : decode cX12_bestOf 24 = .ok (.ifCond .eq 24, 3) := dx_153 (a := 0) (b := 24) (dl_at 0 24 lb_X12_bestOf_0 rfl) (dl_at 0 25 lb_X12_bestOf_0 rfl) (dl_at 0 26 lb_X12_bestOf_0 rfl) sg16_24
theorem dX12_bestOf_27 : decode cX12_bestOf 27 = .ok (.aload_n 0, 1) := dx_42 (dl_at 0 27 lb_X12_bestOf_0 rfl)
theorem dX12_bestOf_28 : decode cX12_bestOf 28 = .ok (.getfield 28, 3) := dx_180 (a := 0) (b := 28) (dl_at 0 28 lb_X12_bestOf_0 rfl) (dl_at 0 29 lb_X12_bestOf_0 rfl) (dl_at 0 30 lb_X12_bestOf_0 rfl) rfl
theorem dX12_bestOf_31 : decode cX12_bestOf 31 = .ok (.iload 4, 2) := dx_21 (dl_at 0 31 lb_X12_bestOf_0 rfl) (dl_at 32 0 lb_X12_bestOf_1 rfl)
theorem dX12_bestOf_33 : decode cX12_bestOf 33 = .ok (.iaload, 1) := dx_46 (dl_at 32 1 lb_X12_bestOf_1 rfl)
theorem dX12_bestOf_34 : decode cX12_bestOf 34 = .ok (.iconst 3, 1) := dx_6 (dl_at 32 2 lb_X12_bestOf_1 rfl)
theorem dX12_bestOf_35 : decode cX12_bestOf 35 = .ok (.if_icmp .ne 9, 3) := dx_160 (a := 0) (b := 9) (dl_at 32 3 lb_X12_bestOf_1 rfl) (dl_at 32 4 lb_X12_bestOf_1 rfl) (dl_at 32 5 lb_X12_bestOf_1 rfl) sg16_9
theorem dX12_bestOf_44 : decode cX12_bestOf 44 = .ok (.iconst 1, 1) := dx_4 (dl_at 32 12 lb_X12_bestOf_1 rfl)
theorem dX12_bestOf_45 : decode cX12_bestOf 45 = .ok (.goto 4, 3) := dx_167 (a := 0) (b := 4) (dl_at 32 13 lb_X12_bestOf_1 rfl) (dl_at 32 14 lb_X12_bestOf_1 rfl) (dl_at 32 15 lb_X12_bestOf_1 rfl) sg16_4
theorem dX12_bestOf_49 : decode cX12_bestOf 49 = .ok (.istore 5, 2) := dx_54 (dl_at 32 17 lb_X12_bestOf_1 rfl) (dl_at 32 18 lb_X12_bestOf_1 rfl)
theorem dX12_bestOf_51 : decode cX12_bestOf 51 = .ok (.iload 5, 2) := dx_21 (dl_at 32 19 lb_X12_bestOf_1 rfl) (dl_at 32 20 lb_X12_bestOf_1 rfl)
theorem dX12_bestOf_53 : decode cX12_bestOf 53 = .ok (.ifCond .eq 28, 3) := dx_153 (a := 0) (b := 28) (dl_at 32 21 lb_X12_bestOf_1 rfl) (dl_at 32 22 lb_X12_bestOf_1 rfl) (dl_at 32 23 lb_X12_bestOf_1 rfl) sg16_28
theorem dX12_bestOf_56 : decode cX12_bestOf 56 = .ok (.aload_n 0, 1) := dx_42 (dl_at 32 24 lb_X12_bestOf_1 rfl)
theorem dX12_bestOf_57 : decode cX12_bestOf 57 = .ok (.getfield 67, 3) := dx_180 (a := 0) (b := 67) (dl_at 32 25 lb_X12_bestOf_1 rfl) (dl_at 32 26 lb_X12_bestOf_1 rfl) (dl_at 32 27 lb_X12_bestOf_1 rfl) rfl
theorem dX12_bestOf_60 : decode cX12_bestOf 60 = .ok (.iload 4, 2) := dx_21 (dl_at 32 28 lb_X12_bestOf_1 rfl) (dl_at 32 29 lb_X12_bestOf_1 rfl)
theorem dX12_bestOf_62 : decode cX12_bestOf 62 = .ok (.iaload, 1) := dx_46 (dl_at 32 30 lb_X12_bestOf_1 rfl)
theorem dX12_bestOf_63 : decode cX12_bestOf 63 = .ok (.iconst 1, 1) := dx_4 (dl_at 32 31 lb_X12_bestOf_1 rfl)
theorem dX12_bestOf_64 : decode cX12_bestOf 64 = .ok (.isub, 1) := dx_100 (dl_at 64 0 lb_X12_bestOf_2 rfl)
theorem dX12_bestOf_65 : decode cX12_bestOf 65 = .ok (.iload_n 3, 1) := dx_29 (dl_at 64 1 lb_X12_bestOf_2 rfl)
theorem dX12_bestOf_66 : decode cX12_bestOf 66 = .ok (.if_icmp .le 15, 3) := dx_164 (a := 0) (b := 15) (dl_at 64 2 lb_X12_bestOf_2 rfl) (dl_at 64 3 lb_X12_bestOf_2 rfl) (dl_at 64 4 lb_X12_bestOf_2 rfl) sg16_15
theorem dX12_bestOf_81 : decode cX12_bestOf 81 = .ok (.iload_n 3, 1) := dx_29 (dl_at 64 17 lb_X12_bestOf_2 rfl)
theorem dX12_bestOf_82 : decode cX12_bestOf 82 = .ok (.istore_n 3, 1) := dx_62 (dl_at 64 18 lb_X12_bestOf_2 rfl)
theorem dX12_bestOf_83 : decode cX12_bestOf 83 = .ok (.iinc 4 1, 3) := dx_132 (dl_at 64 19 lb_X12_bestOf_2 rfl) (dl_at 64 20 lb_X12_bestOf_2 rfl) (dl_at 64 21 lb_X12_bestOf_2 rfl) sg8_1
theorem dX12_bestOf_86 : decode cX12_bestOf 86 = .ok (.goto (-81), 3) := dx_167 (a := 255) (b := 175) (dl_at 64 22 lb_X12_bestOf_2 rfl) (dl_at 64 23 lb_X12_bestOf_2 rfl) (dl_at 64 24 lb_X12_bestOf_2 rfl) sg16_65455
theorem dX12_bestOf_69 : decode cX12_bestOf 69 = .ok (.aload_n 0, 1) := dx_42 (dl_at 64 5 lb_X12_bestOf_2 rfl)
theorem dX12_bestOf_70 : decode cX12_bestOf 70 = .ok (.getfield 67, 3) := dx_180 (a := 0) (b := 67) (dl_at 64 6 lb_X12_bestOf_2 rfl) (dl_at 64 7 lb_X12_bestOf_2 rfl) (dl_at 64 8 lb_X12_bestOf_2 rfl) rfl
theorem dX12_bestOf_73 : decode cX12_bestOf 73 = .ok (.iload 4, 2) := dx_21 (dl_at 64 9 lb_X12_bestOf_2 rfl) (dl_at 64 10 lb_X12_bestOf_2 rfl)
theorem dX12_bestOf_75 : decode cX12_bestOf 75 = .ok (.iaload, 1) := dx_46 (dl_at 64 11 lb_X12_bestOf_2 rfl)
theorem dX12_bestOf_76 : decode cX12_bestOf 76 = .ok (.iconst 1, 1) := dx_4 (dl_at 64 12 lb_X12_bestOf_2 rfl)
theorem dX12_bestOf_77 : decode cX12_bestOf 77 = .ok (.isub, 1) := dx_100 (dl_at 64 13 lb_X12_bestOf_2 rfl)
theorem dX12_bestOf_78 : decode cX12_bestOf 78 = .ok (.goto 4, 3) := dx_167 (a := 0) (b := 4) (dl_at 64 14 lb_X12_bestOf_2 rfl) (dl_at 64 15 lb_X12_bestOf_2 rfl) (dl_at 64 16 lb_X12_bestOf_2 rfl) sg16_4
theorem dX12_bestOf_38 : decode cX12_bestOf 38 = .ok (.iload 4, 2) := dx_21 (dl_at 32 6 lb_X12_bestOf_1 rfl) (dl_at 32 7 lb_X12_bestOf_1 rfl)
theorem dX12_bestOf_40 : decode cX12_bestOf 40 = .ok (.iload_n 2, 1) := dx_28 (dl_at 32 8 lb_X12_bestOf_1 rfl)
theorem dX12_bestOf_41 : decode cX12_bestOf 41 = .ok (.if_icmp .ne 7, 3) := dx_160 (a := 0) (b := 7) (dl_at 32 9 lb_X12_bestOf_1 rfl) (dl_at 32 10 lb_X12_bestOf_1 rfl) (dl_at 32 11 lb_X12_bestOf_1 rfl) sg16_7
theorem dX12_bestOf_48 : decode cX12_bestOf 48 = .ok (.iconst 0, 1) := dx_3 (dl_at 32 16 lb_X12_bestOf_1 rfl)
theorem lb_X12_worth_0 : dl_ck (cX12_worth.data.toList.drop 0) [42, 28, 182, 0, 154, 153, 0, 13, 29, 3, 16, 20, 184, 0, 77, 154, 0, 7, 2, 167, 0, 8, 42, 27, 182, 0, 197, 54, 4, 21, 4, 156] = true := by decide +kernel
theorem lb_X12_worth_1 : dl_ck (cX12_worth.data.toList.drop 32) [0, 6, 21, 4, 172, 42, 27, 182, 0, 164, 153, 0, 6, 16, 252, 172, 42, 27, 4, 182, 0, 161, 54, 5, 16, 20, 54, 6, 21, 6, 29, 161] = true := by decide +kernel
theorem lb_X12_worth_2 : dl_ck (cX12_worth.data.toList.drop 64) [0, 102, 3, 54, 7, 21, 7, 42, 180, 0, 136, 162, 0, 23, 42, 180, 0, 67, 21, 7, 42, 180, 0, 64, 21, 7, 46, 79, 132, 7, 1, 167] = true := by decide +kernel
theorem lb_X12_worth_3 : dl_ck (cX12_worth.data.toList.drop 96) [255, 230, 3, 54, 7, 21, 7, 42, 180, 0, 136, 162, 0, 52, 42, 180, 0, 64, 21, 7, 21, 7, 21, 5, 160, 0, 13, 42, 27, 21, 6, 182] = true := by decide +kernel
theorem lb_X12_worth_4 : dl_ck (cX12_worth.data.toList.drop 128) [0, 194, 167, 0, 22, 21, 6, 16, 20, 160, 0, 7, 3, 167, 0, 11, 42, 21, 7, 21, 5, 182, 1, 17, 79, 132, 7, 1, 167, 255, 201, 132] = true := by decide +kernel
theorem lb_X12_worth_5 : dl_ck (cX12_worth.data.toList.drop 160) [6, 255, 167, 255, 154, 42, 180, 0, 64, 28, 46, 172] = true := by decide +kernel
theorem dX12_worth_0 : decode cX12_worth 0 = .ok (.aload_n 0, 1) := dx_42 (dl_at 0 0 lb_X12_worth_0 rfl)
theorem dX12_worth_1 : decode cX12_worth 1 = .ok (.iload_n 2, 1) := dx_28 (dl_at 0 1 lb_X12_worth_0 rfl)
theorem dX12_worth_2 : decode cX12_worth 2 = .ok (.invokevirtual 154, 3) := dx_182 (a := 0) (b := 154) (dl_at 0 2 lb_X12_worth_0 rfl) (dl_at 0 3 lb_X12_worth_0 rfl) (dl_at 0 4 lb_X12_worth_0 rfl) rfl
theorem dX12_worth_5 : decode cX12_worth 5 = .ok (.ifCond .eq 13, 3) := dx_153 (a := 0) (b := 13) (dl_at 0 5 lb_X12_worth_0 rfl) (dl_at 0 6 lb_X12_worth_0 rfl) (dl_at 0 7 lb_X12_worth_0 rfl) sg16_13
theorem dX12_worth_8 : decode cX12_worth 8 = .ok (.iload_n 3, 1) := dx_29 (dl_at 0 8 lb_X12_worth_0 rfl)
theorem dX12_worth_9 : decode cX12_worth 9 = .ok (.iconst 0, 1) := dx_3 (dl_at 0 9 lb_X12_worth_0 rfl)
theorem dX12_worth_10 : decode cX12_worth 10 = .ok (.bipush 20, 2) := dx_16 (dl_at 0 10 lb_X12_worth_0 rfl) (dl_at 0 11 lb_X12_worth_0 rfl) sg8_20
theorem dX12_worth_12 : decode cX12_worth 12 = .ok (.invokestatic 77, 3) := dx_184 (a := 0) (b := 77) (dl_at 0 12 lb_X12_worth_0 rfl) (dl_at 0 13 lb_X12_worth_0 rfl) (dl_at 0 14 lb_X12_worth_0 rfl) rfl
theorem dX12_worth_15 : decode cX12_worth 15 = .ok (.ifCond .ne 7, 3) := dx_154 (a := 0) (b := 7) (dl_at 0 15 lb_X12_worth_0 rfl) (dl_at 0 16 lb_X12_worth_0 rfl) (dl_at 0 17 lb_X12_worth_0 rfl) sg16_7
theorem dX12_worth_22 : decode cX12_worth 22 = .ok (.aload_n 0, 1) := dx_42 (dl_at 0 22 lb_X12_worth_0 rfl)
theorem dX12_worth_23 : decode cX12_worth 23 = .ok (.iload_n 1, 1) := dx_27 (dl_at 0 23 lb_X12_worth_0 rfl)
theorem dX12_worth_24 : decode cX12_worth 24 = .ok (.invokevirtual 197, 3) := dx_182 (a := 0) (b := 197) (dl_at 0 24 lb_X12_worth_0 rfl) (dl_at 0 25 lb_X12_worth_0 rfl) (dl_at 0 26 lb_X12_worth_0 rfl) rfl
theorem dX12_worth_27 : decode cX12_worth 27 = .ok (.istore 4, 2) := dx_54 (dl_at 0 27 lb_X12_worth_0 rfl) (dl_at 0 28 lb_X12_worth_0 rfl)
theorem dX12_worth_29 : decode cX12_worth 29 = .ok (.iload 4, 2) := dx_21 (dl_at 0 29 lb_X12_worth_0 rfl) (dl_at 0 30 lb_X12_worth_0 rfl)
theorem dX12_worth_31 : decode cX12_worth 31 = .ok (.ifCond .ge 6, 3) := dx_156 (a := 0) (b := 6) (dl_at 0 31 lb_X12_worth_0 rfl) (dl_at 32 0 lb_X12_worth_1 rfl) (dl_at 32 1 lb_X12_worth_1 rfl) sg16_6
theorem dX12_worth_37 : decode cX12_worth 37 = .ok (.aload_n 0, 1) := dx_42 (dl_at 32 5 lb_X12_worth_1 rfl)
theorem dX12_worth_38 : decode cX12_worth 38 = .ok (.iload_n 1, 1) := dx_27 (dl_at 32 6 lb_X12_worth_1 rfl)
theorem dX12_worth_39 : decode cX12_worth 39 = .ok (.invokevirtual 164, 3) := dx_182 (a := 0) (b := 164) (dl_at 32 7 lb_X12_worth_1 rfl) (dl_at 32 8 lb_X12_worth_1 rfl) (dl_at 32 9 lb_X12_worth_1 rfl) rfl
theorem dX12_worth_42 : decode cX12_worth 42 = .ok (.ifCond .eq 6, 3) := dx_153 (a := 0) (b := 6) (dl_at 32 10 lb_X12_worth_1 rfl) (dl_at 32 11 lb_X12_worth_1 rfl) (dl_at 32 12 lb_X12_worth_1 rfl) sg16_6
theorem dX12_worth_48 : decode cX12_worth 48 = .ok (.aload_n 0, 1) := dx_42 (dl_at 32 16 lb_X12_worth_1 rfl)
theorem dX12_worth_49 : decode cX12_worth 49 = .ok (.iload_n 1, 1) := dx_27 (dl_at 32 17 lb_X12_worth_1 rfl)
theorem dX12_worth_50 : decode cX12_worth 50 = .ok (.iconst 1, 1) := dx_4 (dl_at 32 18 lb_X12_worth_1 rfl)
theorem dX12_worth_51 : decode cX12_worth 51 = .ok (.invokevirtual 161, 3) := dx_182 (a := 0) (b := 161) (dl_at 32 19 lb_X12_worth_1 rfl) (dl_at 32 20 lb_X12_worth_1 rfl) (dl_at 32 21 lb_X12_worth_1 rfl) rfl
theorem dX12_worth_54 : decode cX12_worth 54 = .ok (.istore 5, 2) := dx_54 (dl_at 32 22 lb_X12_worth_1 rfl) (dl_at 32 23 lb_X12_worth_1 rfl)
theorem dX12_worth_56 : decode cX12_worth 56 = .ok (.bipush 20, 2) := dx_16 (dl_at 32 24 lb_X12_worth_1 rfl) (dl_at 32 25 lb_X12_worth_1 rfl) sg8_20
theorem dX12_worth_58 : decode cX12_worth 58 = .ok (.istore 6, 2) := dx_54 (dl_at 32 26 lb_X12_worth_1 rfl) (dl_at 32 27 lb_X12_worth_1 rfl)
theorem dX12_worth_60 : decode cX12_worth 60 = .ok (.iload 6, 2) := dx_21 (dl_at 32 28 lb_X12_worth_1 rfl) (dl_at 32 29 lb_X12_worth_1 rfl)
theorem dX12_worth_62 : decode cX12_worth 62 = .ok (.iload_n 3, 1) := dx_29 (dl_at 32 30 lb_X12_worth_1 rfl)
theorem dX12_worth_63 : decode cX12_worth 63 = .ok (.if_icmp .lt 102, 3) := dx_161 (a := 0) (b := 102) (dl_at 32 31 lb_X12_worth_1 rfl) (dl_at 64 0 lb_X12_worth_2 rfl) (dl_at 64 1 lb_X12_worth_2 rfl) sg16_102
theorem dX12_worth_165 : decode cX12_worth 165 = .ok (.aload_n 0, 1) := dx_42 (dl_at 160 5 lb_X12_worth_5 rfl)
theorem dX12_worth_166 : decode cX12_worth 166 = .ok (.getfield 64, 3) := dx_180 (a := 0) (b := 64) (dl_at 160 6 lb_X12_worth_5 rfl) (dl_at 160 7 lb_X12_worth_5 rfl) (dl_at 160 8 lb_X12_worth_5 rfl) rfl
theorem dX12_worth_169 : decode cX12_worth 169 = .ok (.iload_n 2, 1) := dx_28 (dl_at 160 9 lb_X12_worth_5 rfl)
theorem dX12_worth_170 : decode cX12_worth 170 = .ok (.iaload, 1) := dx_46 (dl_at 160 10 lb_X12_worth_5 rfl)
theorem dX12_worth_171 : decode cX12_worth 171 = .ok (.ireturn, 1) := dx_172 (dl_at 160 11 lb_X12_worth_5 rfl)
theorem dX12_worth_66 : decode cX12_worth 66 = .ok (.iconst 0, 1) := dx_3 (dl_at 64 2 lb_X12_worth_2 rfl)
theorem dX12_worth_67 : decode cX12_worth 67 = .ok (.istore 7, 2) := dx_54 (dl_at 64 3 lb_X12_worth_2 rfl) (dl_at 64 4 lb_X12_worth_2 rfl)
theorem dX12_worth_69 : decode cX12_worth 69 = .ok (.iload 7, 2) := dx_21 (dl_at 64 5 lb_X12_worth_2 rfl) (dl_at 64 6 lb_X12_worth_2 rfl)
theorem dX12_worth_71 : decode cX12_worth 71 = .ok (.aload_n 0, 1) := dx_42 (dl_at 64 7 lb_X12_worth_2 rfl)
theorem dX12_worth_72 : decode cX12_worth 72 = .ok (.getfield 136, 3) := dx_180 (a := 0) (b := 136) (dl_at 64 8 lb_X12_worth_2 rfl) (dl_at 64 9 lb_X12_worth_2 rfl) (dl_at 64 10 lb_X12_worth_2 rfl) rfl
theorem dX12_worth_75 : decode cX12_worth 75 = .ok (.if_icmp .ge 23, 3) := dx_162 (a := 0) (b := 23) (dl_at 64 11 lb_X12_worth_2 rfl) (dl_at 64 12 lb_X12_worth_2 rfl) (dl_at 64 13 lb_X12_worth_2 rfl) sg16_23
theorem dX12_worth_98 : decode cX12_worth 98 = .ok (.iconst 0, 1) := dx_3 (dl_at 96 2 lb_X12_worth_3 rfl)
theorem dX12_worth_99 : decode cX12_worth 99 = .ok (.istore 7, 2) := dx_54 (dl_at 96 3 lb_X12_worth_3 rfl) (dl_at 96 4 lb_X12_worth_3 rfl)
theorem dX12_worth_101 : decode cX12_worth 101 = .ok (.iload 7, 2) := dx_21 (dl_at 96 5 lb_X12_worth_3 rfl) (dl_at 96 6 lb_X12_worth_3 rfl)
theorem dX12_worth_103 : decode cX12_worth 103 = .ok (.aload_n 0, 1) := dx_42 (dl_at 96 7 lb_X12_worth_3 rfl)
theorem dX12_worth_104 : decode cX12_worth 104 = .ok (.getfield 136, 3) := dx_180 (a := 0) (b := 136) (dl_at 96 8 lb_X12_worth_3 rfl) (dl_at 96 9 lb_X12_worth_3 rfl) (dl_at 96 10 lb_X12_worth_3 rfl) rfl
theorem dX12_worth_107 : decode cX12_worth 107 = .ok (.if_icmp .ge 52, 3) := dx_162 (a := 0) (b := 52) (dl_at 96 11 lb_X12_worth_3 rfl) (dl_at 96 12 lb_X12_worth_3 rfl) (dl_at 96 13 lb_X12_worth_3 rfl) sg16_52
theorem dX12_worth_159 : decode cX12_worth 159 = .ok (.iinc 6 (-1), 3) := dx_132 (dl_at 128 31 lb_X12_worth_4 rfl) (dl_at 160 0 lb_X12_worth_5 rfl) (dl_at 160 1 lb_X12_worth_5 rfl) sg8_255
theorem dX12_worth_162 : decode cX12_worth 162 = .ok (.goto (-102), 3) := dx_167 (a := 255) (b := 154) (dl_at 160 2 lb_X12_worth_5 rfl) (dl_at 160 3 lb_X12_worth_5 rfl) (dl_at 160 4 lb_X12_worth_5 rfl) sg16_65434
theorem dX12_worth_110 : decode cX12_worth 110 = .ok (.aload_n 0, 1) := dx_42 (dl_at 96 14 lb_X12_worth_3 rfl)
theorem dX12_worth_111 : decode cX12_worth 111 = .ok (.getfield 64, 3) := dx_180 (a := 0) (b := 64) (dl_at 96 15 lb_X12_worth_3 rfl) (dl_at 96 16 lb_X12_worth_3 rfl) (dl_at 96 17 lb_X12_worth_3 rfl) rfl
theorem dX12_worth_114 : decode cX12_worth 114 = .ok (.iload 7, 2) := dx_21 (dl_at 96 18 lb_X12_worth_3 rfl) (dl_at 96 19 lb_X12_worth_3 rfl)
theorem dX12_worth_116 : decode cX12_worth 116 = .ok (.iload 7, 2) := dx_21 (dl_at 96 20 lb_X12_worth_3 rfl) (dl_at 96 21 lb_X12_worth_3 rfl)
theorem dX12_worth_118 : decode cX12_worth 118 = .ok (.iload 5, 2) := dx_21 (dl_at 96 22 lb_X12_worth_3 rfl) (dl_at 96 23 lb_X12_worth_3 rfl)
theorem dX12_worth_120 : decode cX12_worth 120 = .ok (.if_icmp .ne 13, 3) := dx_160 (a := 0) (b := 13) (dl_at 96 24 lb_X12_worth_3 rfl) (dl_at 96 25 lb_X12_worth_3 rfl) (dl_at 96 26 lb_X12_worth_3 rfl) sg16_13
theorem dX12_worth_133 : decode cX12_worth 133 = .ok (.iload 6, 2) := dx_21 (dl_at 128 5 lb_X12_worth_4 rfl) (dl_at 128 6 lb_X12_worth_4 rfl)
theorem dX12_worth_135 : decode cX12_worth 135 = .ok (.bipush 20, 2) := dx_16 (dl_at 128 7 lb_X12_worth_4 rfl) (dl_at 128 8 lb_X12_worth_4 rfl) sg8_20
theorem dX12_worth_137 : decode cX12_worth 137 = .ok (.if_icmp .ne 7, 3) := dx_160 (a := 0) (b := 7) (dl_at 128 9 lb_X12_worth_4 rfl) (dl_at 128 10 lb_X12_worth_4 rfl) (dl_at 128 11 lb_X12_worth_4 rfl) sg16_7
theorem dX12_worth_144 : decode cX12_worth 144 = .ok (.aload_n 0, 1) := dx_42 (dl_at 128 16 lb_X12_worth_4 rfl)
theorem dX12_worth_145 : decode cX12_worth 145 = .ok (.iload 7, 2) := dx_21 (dl_at 128 17 lb_X12_worth_4 rfl) (dl_at 128 18 lb_X12_worth_4 rfl)
theorem dX12_worth_147 : decode cX12_worth 147 = .ok (.iload 5, 2) := dx_21 (dl_at 128 19 lb_X12_worth_4 rfl) (dl_at 128 20 lb_X12_worth_4 rfl)
theorem dX12_worth_149 : decode cX12_worth 149 = .ok (.invokevirtual 273, 3) := dx_182 (a := 1) (b := 17) (dl_at 128 21 lb_X12_worth_4 rfl) (dl_at 128 22 lb_X12_worth_4 rfl) (dl_at 128 23 lb_X12_worth_4 rfl) rfl
theorem dX12_worth_152 : decode cX12_worth 152 = .ok (.iastore, 1) := dx_79 (dl_at 128 24 lb_X12_worth_4 rfl)
theorem dX12_worth_153 : decode cX12_worth 153 = .ok (.iinc 7 1, 3) := dx_132 (dl_at 128 25 lb_X12_worth_4 rfl) (dl_at 128 26 lb_X12_worth_4 rfl) (dl_at 128 27 lb_X12_worth_4 rfl) sg8_1
theorem dX12_worth_156 : decode cX12_worth 156 = .ok (.goto (-55), 3) := dx_167 (a := 255) (b := 201) (dl_at 128 28 lb_X12_worth_4 rfl) (dl_at 128 29 lb_X12_worth_4 rfl) (dl_at 128 30 lb_X12_worth_4 rfl) sg16_65481
theorem dX12_worth_140 : decode cX12_worth 140 = .ok (.iconst 0, 1) := dx_3 (dl_at 128 12 lb_X12_worth_4 rfl)
theorem dX12_worth_141 : decode cX12_worth 141 = .ok (.goto 11, 3) := dx_167 (a := 0) (b := 11) (dl_at 128 13 lb_X12_worth_4 rfl) (dl_at 128 14 lb_X12_worth_4 rfl) (dl_at 128 15 lb_X12_worth_4 rfl) sg16_11
theorem dX12_worth_123 : decode cX12_worth 123 = .ok (.aload_n 0, 1) := dx_42 (dl_at 96 27 lb_X12_worth_3 rfl)
theorem dX12_worth_124 : decode cX12_worth 124 = .ok (.iload_n 1, 1) := dx_27 (dl_at 96 28 lb_X12_worth_3 rfl)
theorem dX12_worth_125 : decode cX12_worth 125 = .ok (.iload 6, 2) := dx_21 (dl_at 96 29 lb_X12_worth_3 rfl) (dl_at 96 30 lb_X12_worth_3 rfl)
theorem dX12_worth_127 : decode cX12_worth 127 = .ok (.invokevirtual 194, 3) := dx_182 (a := 0) (b := 194) (dl_at 96 31 lb_X12_worth_3 rfl) (dl_at 128 0 lb_X12_worth_4 rfl) (dl_at 128 1 lb_X12_worth_4 rfl) rfl
theorem dX12_worth_130 : decode cX12_worth 130 = .ok (.goto 22, 3) := dx_167 (a := 0) (b := 22) (dl_at 128 2 lb_X12_worth_4 rfl) (dl_at 128 3 lb_X12_worth_4 rfl) (dl_at 128 4 lb_X12_worth_4 rfl) sg16_22
theorem dX12_worth_78 : decode cX12_worth 78 = .ok (.aload_n 0, 1) := dx_42 (dl_at 64 14 lb_X12_worth_2 rfl)
theorem dX12_worth_79 : decode cX12_worth 79 = .ok (.getfield 67, 3) := dx_180 (a := 0) (b := 67) (dl_at 64 15 lb_X12_worth_2 rfl) (dl_at 64 16 lb_X12_worth_2 rfl) (dl_at 64 17 lb_X12_worth_2 rfl) rfl
theorem dX12_worth_82 : decode cX12_worth 82 = .ok (.iload 7, 2) := dx_21 (dl_at 64 18 lb_X12_worth_2 rfl) (dl_at 64 19 lb_X12_worth_2 rfl)
theorem dX12_worth_84 : decode cX12_worth 84 = .ok (.aload_n 0, 1) := dx_42 (dl_at 64 20 lb_X12_worth_2 rfl)
theorem dX12_worth_85 : decode cX12_worth 85 = .ok (.getfield 64, 3) := dx_180 (a := 0) (b := 64) (dl_at 64 21 lb_X12_worth_2 rfl) (dl_at 64 22 lb_X12_worth_2 rfl) (dl_at 64 23 lb_X12_worth_2 rfl) rfl
theorem dX12_worth_88 : decode cX12_worth 88 = .ok (.iload 7, 2) := dx_21 (dl_at 64 24 lb_X12_worth_2 rfl) (dl_at 64 25 lb_X12_worth_2 rfl)
theorem dX12_worth_90 : decode cX12_worth 90 = .ok (.iaload, 1) := dx_46 (dl_at 64 26 lb_X12_worth_2 rfl)
theorem dX12_worth_91 : decode cX12_worth 91 = .ok (.iastore, 1) := dx_79 (dl_at 64 27 lb_X12_worth_2 rfl)
theorem dX12_worth_92 : decode cX12_worth 92 = .ok (.iinc 7 1, 3) := dx_132 (dl_at 64 28 lb_X12_worth_2 rfl) (dl_at 64 29 lb_X12_worth_2 rfl) (dl_at 64 30 lb_X12_worth_2 rfl) sg8_1
theorem dX12_worth_95 : decode cX12_worth 95 = .ok (.goto (-26), 3) := dx_167 (a := 255) (b := 230) (dl_at 64 31 lb_X12_worth_2 rfl) (dl_at 96 0 lb_X12_worth_3 rfl) (dl_at 96 1 lb_X12_worth_3 rfl) sg16_65510
theorem dX12_worth_45 : decode cX12_worth 45 = .ok (.bipush (-4), 2) := dx_16 (dl_at 32 13 lb_X12_worth_1 rfl) (dl_at 32 14 lb_X12_worth_1 rfl) sg8_252
theorem dX12_worth_47 : decode cX12_worth 47 = .ok (.ireturn, 1) := dx_172 (dl_at 32 15 lb_X12_worth_1 rfl)
theorem dX12_worth_34 : decode cX12_worth 34 = .ok (.iload 4, 2) := dx_21 (dl_at 32 2 lb_X12_worth_1 rfl) (dl_at 32 3 lb_X12_worth_1 rfl)
theorem dX12_worth_36 : decode cX12_worth 36 = .ok (.ireturn, 1) := dx_172 (dl_at 32 4 lb_X12_worth_1 rfl)
theorem dX12_worth_18 : decode cX12_worth 18 = .ok (.iconst (-1), 1) := dx_2 (dl_at 0 18 lb_X12_worth_0 rfl)
theorem dX12_worth_19 : decode cX12_worth 19 = .ok (.goto 8, 3) := dx_167 (a := 0) (b := 8) (dl_at 0 19 lb_X12_worth_0 rfl) (dl_at 0 20 lb_X12_worth_0 rfl) (dl_at 0 21 lb_X12_worth_0 rfl) sg16_8
theorem lb_X12_bundle_0 : dl_ck (cX12_bundle.data.toList.drop 0) [42, 27, 182, 0, 154, 154, 0, 5, 2, 172, 3, 61, 4, 62, 29, 4, 42, 180, 0, 148, 120, 162, 0, 124, 3, 54, 4, 4, 54, 5, 3, 54] = true := by decide +kernel
theorem lb_X12_bundle_1 : dl_ck (cX12_bundle.data.toList.drop 32) [6, 21, 6, 42, 180, 0, 148, 162, 0, 67, 21, 5, 153, 0, 29, 29, 21, 6, 184, 0, 157, 153, 0, 16, 42, 21, 6, 182, 0, 200, 27, 184] = true := by decide +kernel
theorem lb_X12_bundle_2 : dl_ck (cX12_bundle.data.toList.drop 64) [0, 157, 153, 0, 7, 4, 167, 0, 4, 3, 54, 5, 21, 4, 29, 21, 6, 184, 0, 157, 153, 0, 12, 42, 21, 6, 182, 0, 191, 167, 0, 4] = true := by decide +kernel
theorem lb_X12_bundle_3 : dl_ck (cX12_bundle.data.toList.drop 96) [3, 96, 54, 4, 132, 6, 1, 167, 255, 186, 21, 5, 153, 0, 29, 21, 4, 42, 180, 0, 31, 27, 46, 163, 0, 18, 29, 184, 0, 170, 28, 184] = true := by decide +kernel
theorem lb_X12_bundle_4 : dl_ck (cX12_bundle.data.toList.drop 128) [0, 170, 164, 0, 7, 29, 167, 0, 4, 28, 61, 132, 3, 1, 167, 255, 128, 42, 28, 28, 184, 0, 170, 182, 0, 103, 172] = true := by decide +kernel
theorem dX12_bundle_0 : decode cX12_bundle 0 = .ok (.aload_n 0, 1) := dx_42 (dl_at 0 0 lb_X12_bundle_0 rfl)
theorem dX12_bundle_1 : decode cX12_bundle 1 = .ok (.iload_n 1, 1) := dx_27 (dl_at 0 1 lb_X12_bundle_0 rfl)
theorem dX12_bundle_2 : decode cX12_bundle 2 = .ok (.invokevirtual 154, 3) := dx_182 (a := 0) (b := 154) (dl_at 0 2 lb_X12_bundle_0 rfl) (dl_at 0 3 lb_X12_bundle_0 rfl) (dl_at 0 4 lb_X12_bundle_0 rfl) rfl
theorem dX12_bundle_5 : decode cX12_bundle 5 = .ok (.ifCond .ne 5, 3) := dx_154 (a := 0) (b := 5) (dl_at 0 5 lb_X12_bundle_0 rfl) (dl_at 0 6 lb_X12_bundle_0 rfl) (dl_at 0 7 lb_X12_bundle_0 rfl) sg16_5
theorem dX12_bundle_10 : decode cX12_bundle 10 = .ok (.iconst 0, 1) := dx_3 (dl_at 0 10 lb_X12_bundle_0 rfl)
theorem dX12_bundle_11 : decode cX12_bundle 11 = .ok (.istore_n 2, 1) := dx_61 (dl_at 0 11 lb_X12_bundle_0 rfl)
theorem dX12_bundle_12 : decode cX12_bundle 12 = .ok (.iconst 1, 1) := dx_4 (dl_at 0 12 lb_X12_bundle_0 rfl)
theorem dX12_bundle_13 : decode cX12_bundle 13 = .ok (.istore_n 3, 1) := dx_62 (dl_at 0 13 lb_X12_bundle_0 rfl)
theorem dX12_bundle_14 : decode cX12_bundle 14 = .ok (.iload_n 3, 1) := dx_29 (dl_at 0 14 lb_X12_bundle_0 rfl)
theorem dX12_bundle_15 : decode cX12_bundle 15 = .ok (.iconst 1, 1) := dx_4 (dl_at 0 15 lb_X12_bundle_0 rfl)
theorem dX12_bundle_16 : decode cX12_bundle 16 = .ok (.aload_n 0, 1) := dx_42 (dl_at 0 16 lb_X12_bundle_0 rfl)
theorem dX12_bundle_17 : decode cX12_bundle 17 = .ok (.getfield 148, 3) := dx_180 (a := 0) (b := 148) (dl_at 0 17 lb_X12_bundle_0 rfl) (dl_at 0 18 lb_X12_bundle_0 rfl) (dl_at 0 19 lb_X12_bundle_0 rfl) rfl
theorem dX12_bundle_20 : decode cX12_bundle 20 = .ok (.ishl, 1) := dx_120 (dl_at 0 20 lb_X12_bundle_0 rfl)
theorem dX12_bundle_21 : decode cX12_bundle 21 = .ok (.if_icmp .ge 124, 3) := dx_162 (a := 0) (b := 124) (dl_at 0 21 lb_X12_bundle_0 rfl) (dl_at 0 22 lb_X12_bundle_0 rfl) (dl_at 0 23 lb_X12_bundle_0 rfl) sg16_124
theorem dX12_bundle_145 : decode cX12_bundle 145 = .ok (.aload_n 0, 1) := dx_42 (dl_at 128 17 lb_X12_bundle_4 rfl)
theorem dX12_bundle_146 : decode cX12_bundle 146 = .ok (.iload_n 2, 1) := dx_28 (dl_at 128 18 lb_X12_bundle_4 rfl)
theorem dX12_bundle_147 : decode cX12_bundle 147 = .ok (.iload_n 2, 1) := dx_28 (dl_at 128 19 lb_X12_bundle_4 rfl)
theorem dX12_bundle_148 : decode cX12_bundle 148 = .ok (.invokestatic 170, 3) := dx_184 (a := 0) (b := 170) (dl_at 128 20 lb_X12_bundle_4 rfl) (dl_at 128 21 lb_X12_bundle_4 rfl) (dl_at 128 22 lb_X12_bundle_4 rfl) rfl
theorem dX12_bundle_151 : decode cX12_bundle 151 = .ok (.invokevirtual 103, 3) := dx_182 (a := 0) (b := 103) (dl_at 128 23 lb_X12_bundle_4 rfl) (dl_at 128 24 lb_X12_bundle_4 rfl) (dl_at 128 25 lb_X12_bundle_4 rfl) rfl
theorem dX12_bundle_154 : decode cX12_bundle 154 = .ok (.ireturn, 1) := dx_172 (dl_at 128 26 lb_X12_bundle_4 rfl)
theorem dX12_bundle_24 : decode cX12_bundle 24 = .ok (.iconst 0, 1) := dx_3 (dl_at 0 24 lb_X12_bundle_0 rfl)
theorem dX12_bundle_25 : decode cX12_bundle 25 = .ok (.istore 4, 2) := dx_54 (dl_at 0 25 lb_X12_bundle_0 rfl) (dl_at 0 26 lb_X12_bundle_0 rfl)
theorem dX12_bundle_27 : decode cX12_bundle 27 = .ok (.iconst 1, 1) := dx_4 (dl_at 0 27 lb_X12_bundle_0 rfl)
theorem dX12_bundle_28 : decode cX12_bundle 28 = .ok (.istore 5, 2) := dx_54 (dl_at 0 28 lb_X12_bundle_0 rfl) (dl_at 0 29 lb_X12_bundle_0 rfl)
theorem dX12_bundle_30 : decode cX12_bundle 30 = .ok (.iconst 0, 1) := dx_3 (dl_at 0 30 lb_X12_bundle_0 rfl)
theorem dX12_bundle_31 : decode cX12_bundle 31 = .ok (.istore 6, 2) := dx_54 (dl_at 0 31 lb_X12_bundle_0 rfl) (dl_at 32 0 lb_X12_bundle_1 rfl)
theorem dX12_bundle_33 : decode cX12_bundle 33 = .ok (.iload 6, 2) := dx_21 (dl_at 32 1 lb_X12_bundle_1 rfl) (dl_at 32 2 lb_X12_bundle_1 rfl)
theorem dX12_bundle_35 : decode cX12_bundle 35 = .ok (.aload_n 0, 1) := dx_42 (dl_at 32 3 lb_X12_bundle_1 rfl)
theorem dX12_bundle_36 : decode cX12_bundle 36 = .ok (.getfield 148, 3) := dx_180 (a := 0) (b := 148) (dl_at 32 4 lb_X12_bundle_1 rfl) (dl_at 32 5 lb_X12_bundle_1 rfl) (dl_at 32 6 lb_X12_bundle_1 rfl) rfl
theorem dX12_bundle_39 : decode cX12_bundle 39 = .ok (.if_icmp .ge 67, 3) := dx_162 (a := 0) (b := 67) (dl_at 32 7 lb_X12_bundle_1 rfl) (dl_at 32 8 lb_X12_bundle_1 rfl) (dl_at 32 9 lb_X12_bundle_1 rfl) sg16_67
theorem dX12_bundle_106 : decode cX12_bundle 106 = .ok (.iload 5, 2) := dx_21 (dl_at 96 10 lb_X12_bundle_3 rfl) (dl_at 96 11 lb_X12_bundle_3 rfl)
theorem dX12_bundle_108 : decode cX12_bundle 108 = .ok (.ifCond .eq 29, 3) := dx_153 (a := 0) (b := 29) (dl_at 96 12 lb_X12_bundle_3 rfl) (dl_at 96 13 lb_X12_bundle_3 rfl) (dl_at 96 14 lb_X12_bundle_3 rfl) sg16_29
theorem dX12_bundle_137 : decode cX12_bundle 137 = .ok (.iload_n 2, 1) := dx_28 (dl_at 128 9 lb_X12_bundle_4 rfl)
theorem dX12_bundle_138 : decode cX12_bundle 138 = .ok (.istore_n 2, 1) := dx_61 (dl_at 128 10 lb_X12_bundle_4 rfl)
theorem dX12_bundle_139 : decode cX12_bundle 139 = .ok (.iinc 3 1, 3) := dx_132 (dl_at 128 11 lb_X12_bundle_4 rfl) (dl_at 128 12 lb_X12_bundle_4 rfl) (dl_at 128 13 lb_X12_bundle_4 rfl) sg8_1
theorem dX12_bundle_142 : decode cX12_bundle 142 = .ok (.goto (-128), 3) := dx_167 (a := 255) (b := 128) (dl_at 128 14 lb_X12_bundle_4 rfl) (dl_at 128 15 lb_X12_bundle_4 rfl) (dl_at 128 16 lb_X12_bundle_4 rfl) sg16_65408
theorem dX12_bundle_111 : decode cX12_bundle 111 = .ok (.iload 4, 2) := dx_21 (dl_at 96 15 lb_X12_bundle_3 rfl) (dl_at 96 16 lb_X12_bundle_3 rfl)
theorem dX12_bundle_113 : decode cX12_bundle 113 = .ok (.aload_n 0, 1) := dx_42 (dl_at 96 17 lb_X12_bundle_3 rfl)
theorem dX12_bundle_114 : decode cX12_bundle 114 = .ok (.getfield 31, 3) := dx_180 (a := 0) (b := 31) (dl_at 96 18 lb_X12_bundle_3 rfl) (dl_at 96 19 lb_X12_bundle_3 rfl) (dl_at 96 20 lb_X12_bundle_3 rfl) rfl
theorem dX12_bundle_117 : decode cX12_bundle 117 = .ok (.iload_n 1, 1) := dx_27 (dl_at 96 21 lb_X12_bundle_3 rfl)
theorem dX12_bundle_118 : decode cX12_bundle 118 = .ok (.iaload, 1) := dx_46 (dl_at 96 22 lb_X12_bundle_3 rfl)
theorem dX12_bundle_119 : decode cX12_bundle 119 = .ok (.if_icmp .gt 18, 3) := dx_163 (a := 0) (b := 18) (dl_at 96 23 lb_X12_bundle_3 rfl) (dl_at 96 24 lb_X12_bundle_3 rfl) (dl_at 96 25 lb_X12_bundle_3 rfl) sg16_18
theorem dX12_bundle_122 : decode cX12_bundle 122 = .ok (.iload_n 3, 1) := dx_29 (dl_at 96 26 lb_X12_bundle_3 rfl)
theorem dX12_bundle_123 : decode cX12_bundle 123 = .ok (.invokestatic 170, 3) := dx_184 (a := 0) (b := 170) (dl_at 96 27 lb_X12_bundle_3 rfl) (dl_at 96 28 lb_X12_bundle_3 rfl) (dl_at 96 29 lb_X12_bundle_3 rfl) rfl
theorem dX12_bundle_126 : decode cX12_bundle 126 = .ok (.iload_n 2, 1) := dx_28 (dl_at 96 30 lb_X12_bundle_3 rfl)
theorem dX12_bundle_127 : decode cX12_bundle 127 = .ok (.invokestatic 170, 3) := dx_184 (a := 0) (b := 170) (dl_at 96 31 lb_X12_bundle_3 rfl) (dl_at 128 0 lb_X12_bundle_4 rfl) (dl_at 128 1 lb_X12_bundle_4 rfl) rfl
theorem dX12_bundle_130 : decode cX12_bundle 130 = .ok (.if_icmp .le 7, 3) := dx_164 (a := 0) (b := 7) (dl_at 128 2 lb_X12_bundle_4 rfl) (dl_at 128 3 lb_X12_bundle_4 rfl) (dl_at 128 4 lb_X12_bundle_4 rfl) sg16_7
theorem dX12_bundle_133 : decode cX12_bundle 133 = .ok (.iload_n 3, 1) := dx_29 (dl_at 128 5 lb_X12_bundle_4 rfl)
theorem dX12_bundle_134 : decode cX12_bundle 134 = .ok (.goto 4, 3) := dx_167 (a := 0) (b := 4) (dl_at 128 6 lb_X12_bundle_4 rfl) (dl_at 128 7 lb_X12_bundle_4 rfl) (dl_at 128 8 lb_X12_bundle_4 rfl) sg16_4
theorem dX12_bundle_42 : decode cX12_bundle 42 = .ok (.iload 5, 2) := dx_21 (dl_at 32 10 lb_X12_bundle_1 rfl) (dl_at 32 11 lb_X12_bundle_1 rfl)
theorem dX12_bundle_44 : decode cX12_bundle 44 = .ok (.ifCond .eq 29, 3) := dx_153 (a := 0) (b := 29) (dl_at 32 12 lb_X12_bundle_1 rfl) (dl_at 32 13 lb_X12_bundle_1 rfl) (dl_at 32 14 lb_X12_bundle_1 rfl) sg16_29
theorem dX12_bundle_73 : decode cX12_bundle 73 = .ok (.iconst 0, 1) := dx_3 (dl_at 64 9 lb_X12_bundle_2 rfl)
theorem dX12_bundle_74 : decode cX12_bundle 74 = .ok (.istore 5, 2) := dx_54 (dl_at 64 10 lb_X12_bundle_2 rfl) (dl_at 64 11 lb_X12_bundle_2 rfl)
theorem dX12_bundle_76 : decode cX12_bundle 76 = .ok (.iload 4, 2) := dx_21 (dl_at 64 12 lb_X12_bundle_2 rfl) (dl_at 64 13 lb_X12_bundle_2 rfl)
theorem dX12_bundle_78 : decode cX12_bundle 78 = .ok (.iload_n 3, 1) := dx_29 (dl_at 64 14 lb_X12_bundle_2 rfl)
theorem dX12_bundle_79 : decode cX12_bundle 79 = .ok (.iload 6, 2) := dx_21 (dl_at 64 15 lb_X12_bundle_2 rfl) (dl_at 64 16 lb_X12_bundle_2 rfl)
theorem dX12_bundle_81 : decode cX12_bundle 81 = .ok (.invokestatic 157, 3) := dx_184 (a := 0) (b := 157) (dl_at 64 17 lb_X12_bundle_2 rfl) (dl_at 64 18 lb_X12_bundle_2 rfl) (dl_at 64 19 lb_X12_bundle_2 rfl) rfl
theorem dX12_bundle_84 : decode cX12_bundle 84 = .ok (.ifCond .eq 12, 3) := dx_153 (a := 0) (b := 12) (dl_at 64 20 lb_X12_bundle_2 rfl) (dl_at 64 21 lb_X12_bundle_2 rfl) (dl_at 64 22 lb_X12_bundle_2 rfl) sg16_12
theorem dX12_bundle_87 : decode cX12_bundle 87 = .ok (.aload_n 0, 1) := dx_42 (dl_at 64 23 lb_X12_bundle_2 rfl)
theorem dX12_bundle_88 : decode cX12_bundle 88 = .ok (.iload 6, 2) := dx_21 (dl_at 64 24 lb_X12_bundle_2 rfl) (dl_at 64 25 lb_X12_bundle_2 rfl)
theorem dX12_bundle_90 : decode cX12_bundle 90 = .ok (.invokevirtual 191, 3) := dx_182 (a := 0) (b := 191) (dl_at 64 26 lb_X12_bundle_2 rfl) (dl_at 64 27 lb_X12_bundle_2 rfl) (dl_at 64 28 lb_X12_bundle_2 rfl) rfl
theorem dX12_bundle_93 : decode cX12_bundle 93 = .ok (.goto 4, 3) := dx_167 (a := 0) (b := 4) (dl_at 64 29 lb_X12_bundle_2 rfl) (dl_at 64 30 lb_X12_bundle_2 rfl) (dl_at 64 31 lb_X12_bundle_2 rfl) sg16_4
theorem dX12_bundle_97 : decode cX12_bundle 97 = .ok (.iadd, 1) := dx_96 (dl_at 96 1 lb_X12_bundle_3 rfl)
theorem dX12_bundle_98 : decode cX12_bundle 98 = .ok (.istore 4, 2) := dx_54 (dl_at 96 2 lb_X12_bundle_3 rfl) (dl_at 96 3 lb_X12_bundle_3 rfl)
theorem dX12_bundle_100 : decode cX12_bundle 100 = .ok (.iinc 6 1, 3) := dx_132 (dl_at 96 4 lb_X12_bundle_3 rfl) (dl_at 96 5 lb_X12_bundle_3 rfl) (dl_at 96 6 lb_X12_bundle_3 rfl) sg8_1
theorem dX12_bundle_103 : decode cX12_bundle 103 = .ok (.goto (-70), 3) := dx_167 (a := 255) (b := 186) (dl_at 96 7 lb_X12_bundle_3 rfl) (dl_at 96 8 lb_X12_bundle_3 rfl) (dl_at 96 9 lb_X12_bundle_3 rfl) sg16_65466
theorem dX12_bundle_96 : decode cX12_bundle 96 = .ok (.iconst 0, 1) := dx_3 (dl_at 96 0 lb_X12_bundle_3 rfl)
theorem dX12_bundle_47 : decode cX12_bundle 47 = .ok (.iload_n 3, 1) := dx_29 (dl_at 32 15 lb_X12_bundle_1 rfl)
theorem dX12_bundle_48 : decode cX12_bundle 48 = .ok (.iload 6, 2) := dx_21 (dl_at 32 16 lb_X12_bundle_1 rfl) (dl_at 32 17 lb_X12_bundle_1 rfl)
theorem dX12_bundle_50 : decode cX12_bundle 50 = .ok (.invokestatic 157, 3) := dx_184 (a := 0) (b := 157) (dl_at 32 18 lb_X12_bundle_1 rfl) (dl_at 32 19 lb_X12_bundle_1 rfl) (dl_at 32 20 lb_X12_bundle_1 rfl) rfl
theorem dX12_bundle_53 : decode cX12_bundle 53 = .ok (.ifCond .eq 16, 3) := dx_153 (a := 0) (b := 16) (dl_at 32 21 lb_X12_bundle_1 rfl) (dl_at 32 22 lb_X12_bundle_1 rfl) (dl_at 32 23 lb_X12_bundle_1 rfl) sg16_16
theorem dX12_bundle_56 : decode cX12_bundle 56 = .ok (.aload_n 0, 1) := dx_42 (dl_at 32 24 lb_X12_bundle_1 rfl)
theorem dX12_bundle_57 : decode cX12_bundle 57 = .ok (.iload 6, 2) := dx_21 (dl_at 32 25 lb_X12_bundle_1 rfl) (dl_at 32 26 lb_X12_bundle_1 rfl)
theorem dX12_bundle_59 : decode cX12_bundle 59 = .ok (.invokevirtual 200, 3) := dx_182 (a := 0) (b := 200) (dl_at 32 27 lb_X12_bundle_1 rfl) (dl_at 32 28 lb_X12_bundle_1 rfl) (dl_at 32 29 lb_X12_bundle_1 rfl) rfl
theorem dX12_bundle_62 : decode cX12_bundle 62 = .ok (.iload_n 1, 1) := dx_27 (dl_at 32 30 lb_X12_bundle_1 rfl)
theorem dX12_bundle_63 : decode cX12_bundle 63 = .ok (.invokestatic 157, 3) := dx_184 (a := 0) (b := 157) (dl_at 32 31 lb_X12_bundle_1 rfl) (dl_at 64 0 lb_X12_bundle_2 rfl) (dl_at 64 1 lb_X12_bundle_2 rfl) rfl
theorem dX12_bundle_66 : decode cX12_bundle 66 = .ok (.ifCond .eq 7, 3) := dx_153 (a := 0) (b := 7) (dl_at 64 2 lb_X12_bundle_2 rfl) (dl_at 64 3 lb_X12_bundle_2 rfl) (dl_at 64 4 lb_X12_bundle_2 rfl) sg16_7
theorem dX12_bundle_69 : decode cX12_bundle 69 = .ok (.iconst 1, 1) := dx_4 (dl_at 64 5 lb_X12_bundle_2 rfl)
theorem dX12_bundle_70 : decode cX12_bundle 70 = .ok (.goto 4, 3) := dx_167 (a := 0) (b := 4) (dl_at 64 6 lb_X12_bundle_2 rfl) (dl_at 64 7 lb_X12_bundle_2 rfl) (dl_at 64 8 lb_X12_bundle_2 rfl) sg16_4
theorem dX12_bundle_8 : decode cX12_bundle 8 = .ok (.iconst (-1), 1) := dx_2 (dl_at 0 8 lb_X12_bundle_0 rfl)
theorem dX12_bundle_9 : decode cX12_bundle 9 = .ok (.ireturn, 1) := dx_172 (dl_at 0 9 lb_X12_bundle_0 rfl)
theorem lb_X12_post_0 : dl_ck (cX12_post.data.toList.drop 0) [27, 3, 16, 99, 184, 0, 77, 154, 0, 5, 2, 172, 42, 4, 181, 0, 241, 3, 61, 3, 62, 3, 54, 4, 21, 4, 42, 180, 0, 136, 162, 0] = true := by decide +kernel
theorem lb_X12_post_1 : dl_ck (cX12_post.data.toList.drop 32) [76, 3, 54, 5, 21, 5, 42, 180, 0, 136, 162, 0, 58, 21, 4, 21, 5, 159, 0, 45, 42, 16, 247, 21, 4, 21, 5, 3, 182, 0, 255, 29] = true := by decide +kernel
theorem lb_X12_post_2 : dl_ck (cX12_post.data.toList.drop 64) [42, 180, 0, 210, 154, 0, 7, 4, 167, 0, 4, 3, 96, 62, 28, 27, 42, 180, 0, 213, 162, 0, 7, 4, 167, 0, 4, 3, 96, 61, 132, 5] = true := by decide +kernel
theorem lb_X12_post_3 : dl_ck (cX12_post.data.toList.drop 96) [1, 167, 255, 195, 132, 4, 1, 167, 255, 177, 42, 29, 28, 182, 0, 103, 172] = true := by decide +kernel
theorem dX12_post_0 : decode cX12_post 0 = .ok (.iload_n 1, 1) := dx_27 (dl_at 0 0 lb_X12_post_0 rfl)
theorem dX12_post_1 : decode cX12_post 1 = .ok (.iconst 0, 1) := dx_3 (dl_at 0 1 lb_X12_post_0 rfl)
theorem dX12_post_2 : decode cX12_post 2 = .ok (.bipush 99, 2) := dx_16 (dl_at 0 2 lb_X12_post_0 rfl) (dl_at 0 3 lb_X12_post_0 rfl) sg8_99
theorem dX12_post_4 : decode cX12_post 4 = .ok (.invokestatic 77, 3) := dx_184 (a := 0) (b := 77) (dl_at 0 4 lb_X12_post_0 rfl) (dl_at 0 5 lb_X12_post_0 rfl) (dl_at 0 6 lb_X12_post_0 rfl) rfl
theorem dX12_post_7 : decode cX12_post 7 = .ok (.ifCond .ne 5, 3) := dx_154 (a := 0) (b := 5) (dl_at 0 7 lb_X12_post_0 rfl) (dl_at 0 8 lb_X12_post_0 rfl) (dl_at 0 9 lb_X12_post_0 rfl) sg16_5
theorem dX12_post_12 : decode cX12_post 12 = .ok (.aload_n 0, 1) := dx_42 (dl_at 0 12 lb_X12_post_0 rfl)
theorem dX12_post_13 : decode cX12_post 13 = .ok (.iconst 1, 1) := dx_4 (dl_at 0 13 lb_X12_post_0 rfl)
theorem dX12_post_14 : decode cX12_post 14 = .ok (.putfield 241, 3) := dx_181 (a := 0) (b := 241) (dl_at 0 14 lb_X12_post_0 rfl) (dl_at 0 15 lb_X12_post_0 rfl) (dl_at 0 16 lb_X12_post_0 rfl) rfl
theorem dX12_post_17 : decode cX12_post 17 = .ok (.iconst 0, 1) := dx_3 (dl_at 0 17 lb_X12_post_0 rfl)
theorem dX12_post_18 : decode cX12_post 18 = .ok (.istore_n 2, 1) := dx_61 (dl_at 0 18 lb_X12_post_0 rfl)
theorem dX12_post_19 : decode cX12_post 19 = .ok (.iconst 0, 1) := dx_3 (dl_at 0 19 lb_X12_post_0 rfl)
theorem dX12_post_20 : decode cX12_post 20 = .ok (.istore_n 3, 1) := dx_62 (dl_at 0 20 lb_X12_post_0 rfl)
theorem dX12_post_21 : decode cX12_post 21 = .ok (.iconst 0, 1) := dx_3 (dl_at 0 21 lb_X12_post_0 rfl)
theorem dX12_post_22 : decode cX12_post 22 = .ok (.istore 4, 2) := dx_54 (dl_at 0 22 lb_X12_post_0 rfl) (dl_at 0 23 lb_X12_post_0 rfl)
theorem dX12_post_24 : decode cX12_post 24 = .ok (.iload 4, 2) := dx_21 (dl_at 0 24 lb_X12_post_0 rfl) (dl_at 0 25 lb_X12_post_0 rfl)
theorem dX12_post_26 : decode cX12_post 26 = .ok (.aload_n 0, 1) := dx_42 (dl_at 0 26 lb_X12_post_0 rfl)
theorem dX12_post_27 : decode cX12_post 27 = .ok (.getfield 136, 3) := dx_180 (a := 0) (b := 136) (dl_at 0 27 lb_X12_post_0 rfl) (dl_at 0 28 lb_X12_post_0 rfl) (dl_at 0 29 lb_X12_post_0 rfl) rfl
theorem dX12_post_30 : decode cX12_post 30 = .ok (.if_icmp .ge 76, 3) := dx_162 (a := 0) (b := 76) (dl_at 0 30 lb_X12_post_0 rfl) (dl_at 0 31 lb_X12_post_0 rfl) (dl_at 32 0 lb_X12_post_1 rfl) sg16_76
theorem dX12_post_106 : decode cX12_post 106 = .ok (.aload_n 0, 1) := dx_42 (dl_at 96 10 lb_X12_post_3 rfl)
theorem dX12_post_107 : decode cX12_post 107 = .ok (.iload_n 3, 1) := dx_29 (dl_at 96 11 lb_X12_post_3 rfl)
theorem dX12_post_108 : decode cX12_post 108 = .ok (.iload_n 2, 1) := dx_28 (dl_at 96 12 lb_X12_post_3 rfl)
theorem dX12_post_109 : decode cX12_post 109 = .ok (.invokevirtual 103, 3) := dx_182 (a := 0) (b := 103) (dl_at 96 13 lb_X12_post_3 rfl) (dl_at 96 14 lb_X12_post_3 rfl) (dl_at 96 15 lb_X12_post_3 rfl) rfl
theorem dX12_post_112 : decode cX12_post 112 = .ok (.ireturn, 1) := dx_172 (dl_at 96 16 lb_X12_post_3 rfl)
theorem dX12_post_33 : decode cX12_post 33 = .ok (.iconst 0, 1) := dx_3 (dl_at 32 1 lb_X12_post_1 rfl)
theorem dX12_post_34 : decode cX12_post 34 = .ok (.istore 5, 2) := dx_54 (dl_at 32 2 lb_X12_post_1 rfl) (dl_at 32 3 lb_X12_post_1 rfl)
theorem dX12_post_36 : decode cX12_post 36 = .ok (.iload 5, 2) := dx_21 (dl_at 32 4 lb_X12_post_1 rfl) (dl_at 32 5 lb_X12_post_1 rfl)
theorem dX12_post_38 : decode cX12_post 38 = .ok (.aload_n 0, 1) := dx_42 (dl_at 32 6 lb_X12_post_1 rfl)
theorem dX12_post_39 : decode cX12_post 39 = .ok (.getfield 136, 3) := dx_180 (a := 0) (b := 136) (dl_at 32 7 lb_X12_post_1 rfl) (dl_at 32 8 lb_X12_post_1 rfl) (dl_at 32 9 lb_X12_post_1 rfl) rfl
theorem dX12_post_42 : decode cX12_post 42 = .ok (.if_icmp .ge 58, 3) := dx_162 (a := 0) (b := 58) (dl_at 32 10 lb_X12_post_1 rfl) (dl_at 32 11 lb_X12_post_1 rfl) (dl_at 32 12 lb_X12_post_1 rfl) sg16_58
theorem dX12_post_100 : decode cX12_post 100 = .ok (.iinc 4 1, 3) := dx_132 (dl_at 96 4 lb_X12_post_3 rfl) (dl_at 96 5 lb_X12_post_3 rfl) (dl_at 96 6 lb_X12_post_3 rfl) sg8_1
theorem dX12_post_103 : decode cX12_post 103 = .ok (.goto (-79), 3) := dx_167 (a := 255) (b := 177) (dl_at 96 7 lb_X12_post_3 rfl) (dl_at 96 8 lb_X12_post_3 rfl) (dl_at 96 9 lb_X12_post_3 rfl) sg16_65457
theorem dX12_post_45 : decode cX12_post 45 = .ok (.iload 4, 2) := dx_21 (dl_at 32 13 lb_X12_post_1 rfl) (dl_at 32 14 lb_X12_post_1 rfl)
theorem dX12_post_47 : decode cX12_post 47 = .ok (.iload 5, 2) := dx_21 (dl_at 32 15 lb_X12_post_1 rfl) (dl_at 32 16 lb_X12_post_1 rfl)
theorem dX12_post_49 : decode cX12_post 49 = .ok (.if_icmp .eq 45, 3) := dx_159 (a := 0) (b := 45) (dl_at 32 17 lb_X12_post_1 rfl) (dl_at 32 18 lb_X12_post_1 rfl) (dl_at 32 19 lb_X12_post_1 rfl) sg16_45
theorem dX12_post_94 : decode cX12_post 94 = .ok (.iinc 5 1, 3) := dx_132 (dl_at 64 30 lb_X12_post_2 rfl) (dl_at 64 31 lb_X12_post_2 rfl) (dl_at 96 0 lb_X12_post_3 rfl) sg8_1
theorem dX12_post_97 : decode cX12_post 97 = .ok (.goto (-61), 3) := dx_167 (a := 255) (b := 195) (dl_at 96 1 lb_X12_post_3 rfl) (dl_at 96 2 lb_X12_post_3 rfl) (dl_at 96 3 lb_X12_post_3 rfl) sg16_65475
theorem dX12_post_52 : decode cX12_post 52 = .ok (.aload_n 0, 1) := dx_42 (dl_at 32 20 lb_X12_post_1 rfl)
theorem dX12_post_53 : decode cX12_post 53 = .ok (.bipush (-9), 2) := dx_16 (dl_at 32 21 lb_X12_post_1 rfl) (dl_at 32 22 lb_X12_post_1 rfl) sg8_247
theorem dX12_post_55 : decode cX12_post 55 = .ok (.iload 4, 2) := dx_21 (dl_at 32 23 lb_X12_post_1 rfl) (dl_at 32 24 lb_X12_post_1 rfl)
theorem dX12_post_57 : decode cX12_post 57 = .ok (.iload 5, 2) := dx_21 (dl_at 32 25 lb_X12_post_1 rfl) (dl_at 32 26 lb_X12_post_1 rfl)
theorem dX12_post_59 : decode cX12_post 59 = .ok (.iconst 0, 1) := dx_3 (dl_at 32 27 lb_X12_post_1 rfl)
theorem dX12_post_60 : decode cX12_post 60 = .ok (.invokevirtual 255, 3) := dx_182 (a := 0) (b := 255) (dl_at 32 28 lb_X12_post_1 rfl) (dl_at 32 29 lb_X12_post_1 rfl) (dl_at 32 30 lb_X12_post_1 rfl) rfl
theorem dX12_post_63 : decode cX12_post 63 = .ok (.iload_n 3, 1) := dx_29 (dl_at 32 31 lb_X12_post_1 rfl)
theorem dX12_post_64 : decode cX12_post 64 = .ok (.aload_n 0, 1) := dx_42 (dl_at 64 0 lb_X12_post_2 rfl)
theorem dX12_post_65 : decode cX12_post 65 = .ok (.getfield 210, 3) := dx_180 (a := 0) (b := 210) (dl_at 64 1 lb_X12_post_2 rfl) (dl_at 64 2 lb_X12_post_2 rfl) (dl_at 64 3 lb_X12_post_2 rfl) rfl
theorem dX12_post_68 : decode cX12_post 68 = .ok (.ifCond .ne 7, 3) := dx_154 (a := 0) (b := 7) (dl_at 64 4 lb_X12_post_2 rfl) (dl_at 64 5 lb_X12_post_2 rfl) (dl_at 64 6 lb_X12_post_2 rfl) sg16_7
theorem dX12_post_75 : decode cX12_post 75 = .ok (.iconst 0, 1) := dx_3 (dl_at 64 11 lb_X12_post_2 rfl)
theorem dX12_post_76 : decode cX12_post 76 = .ok (.iadd, 1) := dx_96 (dl_at 64 12 lb_X12_post_2 rfl)
theorem dX12_post_77 : decode cX12_post 77 = .ok (.istore_n 3, 1) := dx_62 (dl_at 64 13 lb_X12_post_2 rfl)
theorem dX12_post_78 : decode cX12_post 78 = .ok (.iload_n 2, 1) := dx_28 (dl_at 64 14 lb_X12_post_2 rfl)
theorem dX12_post_79 : decode cX12_post 79 = .ok (.iload_n 1, 1) := dx_27 (dl_at 64 15 lb_X12_post_2 rfl)
theorem dX12_post_80 : decode cX12_post 80 = .ok (.aload_n 0, 1) := dx_42 (dl_at 64 16 lb_X12_post_2 rfl)
theorem dX12_post_81 : decode cX12_post 81 = .ok (.getfield 213, 3) := dx_180 (a := 0) (b := 213) (dl_at 64 17 lb_X12_post_2 rfl) (dl_at 64 18 lb_X12_post_2 rfl) (dl_at 64 19 lb_X12_post_2 rfl) rfl
theorem dX12_post_84 : decode cX12_post 84 = .ok (.if_icmp .ge 7, 3) := dx_162 (a := 0) (b := 7) (dl_at 64 20 lb_X12_post_2 rfl) (dl_at 64 21 lb_X12_post_2 rfl) (dl_at 64 22 lb_X12_post_2 rfl) sg16_7
theorem dX12_post_91 : decode cX12_post 91 = .ok (.iconst 0, 1) := dx_3 (dl_at 64 27 lb_X12_post_2 rfl)
theorem dX12_post_92 : decode cX12_post 92 = .ok (.iadd, 1) := dx_96 (dl_at 64 28 lb_X12_post_2 rfl)
theorem dX12_post_93 : decode cX12_post 93 = .ok (.istore_n 2, 1) := dx_61 (dl_at 64 29 lb_X12_post_2 rfl)
theorem dX12_post_87 : decode cX12_post 87 = .ok (.iconst 1, 1) := dx_4 (dl_at 64 23 lb_X12_post_2 rfl)
theorem dX12_post_88 : decode cX12_post 88 = .ok (.goto 4, 3) := dx_167 (a := 0) (b := 4) (dl_at 64 24 lb_X12_post_2 rfl) (dl_at 64 25 lb_X12_post_2 rfl) (dl_at 64 26 lb_X12_post_2 rfl) sg16_4
theorem dX12_post_71 : decode cX12_post 71 = .ok (.iconst 1, 1) := dx_4 (dl_at 64 7 lb_X12_post_2 rfl)
theorem dX12_post_72 : decode cX12_post 72 = .ok (.goto 4, 3) := dx_167 (a := 0) (b := 4) (dl_at 64 8 lb_X12_post_2 rfl) (dl_at 64 9 lb_X12_post_2 rfl) (dl_at 64 10 lb_X12_post_2 rfl) sg16_4
theorem dX12_post_10 : decode cX12_post 10 = .ok (.iconst (-1), 1) := dx_2 (dl_at 0 10 lb_X12_post_0 rfl)
theorem dX12_post_11 : decode cX12_post 11 = .ok (.ireturn, 1) := dx_172 (dl_at 0 11 lb_X12_post_0 rfl)
theorem lb_X12_fake_0 : dl_ck (cX12_fake.data.toList.drop 0) [42, 27, 28, 182, 0, 185, 153, 0, 13, 29, 3, 16, 99, 184, 0, 77, 154, 0, 5, 2, 172, 42, 4, 181, 0, 241, 42, 16, 247, 27, 28, 3] = true := by decide +kernel
theorem lb_X12_fake_1 : dl_ck (cX12_fake.data.toList.drop 32) [182, 0, 255, 42, 180, 0, 213, 29, 163, 0, 10, 42, 180, 0, 213, 167, 0, 4, 3, 172] = true := by decide +kernel
theorem dX12_fake_0 : decode cX12_fake 0 = .ok (.aload_n 0, 1) := dx_42 (dl_at 0 0 lb_X12_fake_0 rfl)
theorem dX12_fake_1 : decode cX12_fake 1 = .ok (.iload_n 1, 1) := dx_27 (dl_at 0 1 lb_X12_fake_0 rfl)
theorem dX12_fake_2 : decode cX12_fake 2 = .ok (.iload_n 2, 1) := dx_28 (dl_at 0 2 lb_X12_fake_0 rfl)
theorem dX12_fake_3 : decode cX12_fake 3 = .ok (.invokevirtual 185, 3) := dx_182 (a := 0) (b := 185) (dl_at 0 3 lb_X12_fake_0 rfl) (dl_at 0 4 lb_X12_fake_0 rfl) (dl_at 0 5 lb_X12_fake_0 rfl) rfl
theorem dX12_fake_6 : decode cX12_fake 6 = .ok (.ifCond .eq 13, 3) := dx_153 (a := 0) (b := 13) (dl_at 0 6 lb_X12_fake_0 rfl) (dl_at 0 7 lb_X12_fake_0 rfl) (dl_at 0 8 lb_X12_fake_0 rfl) sg16_13
theorem dX12_fake_9 : decode cX12_fake 9 = .ok (.iload_n 3, 1) := dx_29 (dl_at 0 9 lb_X12_fake_0 rfl)
theorem dX12_fake_10 : decode cX12_fake 10 = .ok (.iconst 0, 1) := dx_3 (dl_at 0 10 lb_X12_fake_0 rfl)
theorem dX12_fake_11 : decode cX12_fake 11 = .ok (.bipush 99, 2) := dx_16 (dl_at 0 11 lb_X12_fake_0 rfl) (dl_at 0 12 lb_X12_fake_0 rfl) sg8_99
theorem dX12_fake_13 : decode cX12_fake 13 = .ok (.invokestatic 77, 3) := dx_184 (a := 0) (b := 77) (dl_at 0 13 lb_X12_fake_0 rfl) (dl_at 0 14 lb_X12_fake_0 rfl) (dl_at 0 15 lb_X12_fake_0 rfl) rfl
theorem dX12_fake_16 : decode cX12_fake 16 = .ok (.ifCond .ne 5, 3) := dx_154 (a := 0) (b := 5) (dl_at 0 16 lb_X12_fake_0 rfl) (dl_at 0 17 lb_X12_fake_0 rfl) (dl_at 0 18 lb_X12_fake_0 rfl) sg16_5
theorem dX12_fake_21 : decode cX12_fake 21 = .ok (.aload_n 0, 1) := dx_42 (dl_at 0 21 lb_X12_fake_0 rfl)
theorem dX12_fake_22 : decode cX12_fake 22 = .ok (.iconst 1, 1) := dx_4 (dl_at 0 22 lb_X12_fake_0 rfl)
theorem dX12_fake_23 : decode cX12_fake 23 = .ok (.putfield 241, 3) := dx_181 (a := 0) (b := 241) (dl_at 0 23 lb_X12_fake_0 rfl) (dl_at 0 24 lb_X12_fake_0 rfl) (dl_at 0 25 lb_X12_fake_0 rfl) rfl
theorem dX12_fake_26 : decode cX12_fake 26 = .ok (.aload_n 0, 1) := dx_42 (dl_at 0 26 lb_X12_fake_0 rfl)
theorem dX12_fake_27 : decode cX12_fake 27 = .ok (.bipush (-9), 2) := dx_16 (dl_at 0 27 lb_X12_fake_0 rfl) (dl_at 0 28 lb_X12_fake_0 rfl) sg8_247
theorem dX12_fake_29 : decode cX12_fake 29 = .ok (.iload_n 1, 1) := dx_27 (dl_at 0 29 lb_X12_fake_0 rfl)
theorem dX12_fake_30 : decode cX12_fake 30 = .ok (.iload_n 2, 1) := dx_28 (dl_at 0 30 lb_X12_fake_0 rfl)
theorem dX12_fake_31 : decode cX12_fake 31 = .ok (.iconst 0, 1) := dx_3 (dl_at 0 31 lb_X12_fake_0 rfl)
theorem dX12_fake_32 : decode cX12_fake 32 = .ok (.invokevirtual 255, 3) := dx_182 (a := 0) (b := 255) (dl_at 32 0 lb_X12_fake_1 rfl) (dl_at 32 1 lb_X12_fake_1 rfl) (dl_at 32 2 lb_X12_fake_1 rfl) rfl
theorem dX12_fake_35 : decode cX12_fake 35 = .ok (.aload_n 0, 1) := dx_42 (dl_at 32 3 lb_X12_fake_1 rfl)
theorem dX12_fake_36 : decode cX12_fake 36 = .ok (.getfield 213, 3) := dx_180 (a := 0) (b := 213) (dl_at 32 4 lb_X12_fake_1 rfl) (dl_at 32 5 lb_X12_fake_1 rfl) (dl_at 32 6 lb_X12_fake_1 rfl) rfl
theorem dX12_fake_39 : decode cX12_fake 39 = .ok (.iload_n 3, 1) := dx_29 (dl_at 32 7 lb_X12_fake_1 rfl)
theorem dX12_fake_40 : decode cX12_fake 40 = .ok (.if_icmp .gt 10, 3) := dx_163 (a := 0) (b := 10) (dl_at 32 8 lb_X12_fake_1 rfl) (dl_at 32 9 lb_X12_fake_1 rfl) (dl_at 32 10 lb_X12_fake_1 rfl) sg16_10
theorem dX12_fake_50 : decode cX12_fake 50 = .ok (.iconst 0, 1) := dx_3 (dl_at 32 18 lb_X12_fake_1 rfl)
theorem dX12_fake_51 : decode cX12_fake 51 = .ok (.ireturn, 1) := dx_172 (dl_at 32 19 lb_X12_fake_1 rfl)
theorem dX12_fake_43 : decode cX12_fake 43 = .ok (.aload_n 0, 1) := dx_42 (dl_at 32 11 lb_X12_fake_1 rfl)
theorem dX12_fake_44 : decode cX12_fake 44 = .ok (.getfield 213, 3) := dx_180 (a := 0) (b := 213) (dl_at 32 12 lb_X12_fake_1 rfl) (dl_at 32 13 lb_X12_fake_1 rfl) (dl_at 32 14 lb_X12_fake_1 rfl) rfl
theorem dX12_fake_47 : decode cX12_fake 47 = .ok (.goto 4, 3) := dx_167 (a := 0) (b := 4) (dl_at 32 15 lb_X12_fake_1 rfl) (dl_at 32 16 lb_X12_fake_1 rfl) (dl_at 32 17 lb_X12_fake_1 rfl) sg16_4
theorem dX12_fake_19 : decode cX12_fake 19 = .ok (.iconst (-1), 1) := dx_2 (dl_at 0 19 lb_X12_fake_0 rfl)
theorem dX12_fake_20 : decode cX12_fake 20 = .ok (.ireturn, 1) := dx_172 (dl_at 0 20 lb_X12_fake_0 rfl)
theorem lb_X12_buyerAt_0 : dl_ck (cX12_buyerAt.data.toList.drop 0) [27, 4, 96, 61, 28, 42, 180, 0, 151, 162, 0, 42, 42, 180, 0, 49, 16, 12, 28, 104, 46, 42, 180, 0, 49, 16, 12, 27, 104, 46, 160, 0] = true := by decide +kernel
theorem lb_X12_buyerAt_1 : dl_ck (cX12_buyerAt.data.toList.drop 32) [15, 42, 180, 0, 49, 16, 12, 28, 104, 4, 96, 46, 172, 132, 2, 1, 167, 255, 212, 42, 42, 180, 0, 49, 16, 12, 27, 104, 46, 8, 182, 0] = true := by decide +kernel
theorem lb_X12_buyerAt_2 : dl_ck (cX12_buyerAt.data.toList.drop 64) [161, 172] = true := by decide +kernel
theorem dX12_buyerAt_0 : decode cX12_buyerAt 0 = .ok (.iload_n 1, 1) := dx_27 (dl_at 0 0 lb_X12_buyerAt_0 rfl)
theorem dX12_buyerAt_1 : decode cX12_buyerAt 1 = .ok (.iconst 1, 1) := dx_4 (dl_at 0 1 lb_X12_buyerAt_0 rfl)
theorem dX12_buyerAt_2 : decode cX12_buyerAt 2 = .ok (.iadd, 1) := dx_96 (dl_at 0 2 lb_X12_buyerAt_0 rfl)
theorem dX12_buyerAt_3 : decode cX12_buyerAt 3 = .ok (.istore_n 2, 1) := dx_61 (dl_at 0 3 lb_X12_buyerAt_0 rfl)
theorem dX12_buyerAt_4 : decode cX12_buyerAt 4 = .ok (.iload_n 2, 1) := dx_28 (dl_at 0 4 lb_X12_buyerAt_0 rfl)
theorem dX12_buyerAt_5 : decode cX12_buyerAt 5 = .ok (.aload_n 0, 1) := dx_42 (dl_at 0 5 lb_X12_buyerAt_0 rfl)
theorem dX12_buyerAt_6 : decode cX12_buyerAt 6 = .ok (.getfield 151, 3) := dx_180 (a := 0) (b := 151) (dl_at 0 6 lb_X12_buyerAt_0 rfl) (dl_at 0 7 lb_X12_buyerAt_0 rfl) (dl_at 0 8 lb_X12_buyerAt_0 rfl) rfl
theorem dX12_buyerAt_9 : decode cX12_buyerAt 9 = .ok (.if_icmp .ge 42, 3) := dx_162 (a := 0) (b := 42) (dl_at 0 9 lb_X12_buyerAt_0 rfl) (dl_at 0 10 lb_X12_buyerAt_0 rfl) (dl_at 0 11 lb_X12_buyerAt_0 rfl) sg16_42
theorem dX12_buyerAt_51 : decode cX12_buyerAt 51 = .ok (.aload_n 0, 1) := dx_42 (dl_at 32 19 lb_X12_buyerAt_1 rfl)
theorem dX12_buyerAt_52 : decode cX12_buyerAt 52 = .ok (.aload_n 0, 1) := dx_42 (dl_at 32 20 lb_X12_buyerAt_1 rfl)
theorem dX12_buyerAt_53 : decode cX12_buyerAt 53 = .ok (.getfield 49, 3) := dx_180 (a := 0) (b := 49) (dl_at 32 21 lb_X12_buyerAt_1 rfl) (dl_at 32 22 lb_X12_buyerAt_1 rfl) (dl_at 32 23 lb_X12_buyerAt_1 rfl) rfl
theorem dX12_buyerAt_56 : decode cX12_buyerAt 56 = .ok (.bipush 12, 2) := dx_16 (dl_at 32 24 lb_X12_buyerAt_1 rfl) (dl_at 32 25 lb_X12_buyerAt_1 rfl) sg8_12
theorem dX12_buyerAt_58 : decode cX12_buyerAt 58 = .ok (.iload_n 1, 1) := dx_27 (dl_at 32 26 lb_X12_buyerAt_1 rfl)
theorem dX12_buyerAt_59 : decode cX12_buyerAt 59 = .ok (.imul, 1) := dx_104 (dl_at 32 27 lb_X12_buyerAt_1 rfl)
theorem dX12_buyerAt_60 : decode cX12_buyerAt 60 = .ok (.iaload, 1) := dx_46 (dl_at 32 28 lb_X12_buyerAt_1 rfl)
theorem dX12_buyerAt_61 : decode cX12_buyerAt 61 = .ok (.iconst 5, 1) := dx_8 (dl_at 32 29 lb_X12_buyerAt_1 rfl)
theorem dX12_buyerAt_62 : decode cX12_buyerAt 62 = .ok (.invokevirtual 161, 3) := dx_182 (a := 0) (b := 161) (dl_at 32 30 lb_X12_buyerAt_1 rfl) (dl_at 32 31 lb_X12_buyerAt_1 rfl) (dl_at 64 0 lb_X12_buyerAt_2 rfl) rfl
theorem dX12_buyerAt_65 : decode cX12_buyerAt 65 = .ok (.ireturn, 1) := dx_172 (dl_at 64 1 lb_X12_buyerAt_2 rfl)
theorem dX12_buyerAt_12 : decode cX12_buyerAt 12 = .ok (.aload_n 0, 1) := dx_42 (dl_at 0 12 lb_X12_buyerAt_0 rfl)
theorem dX12_buyerAt_13 : decode cX12_buyerAt 13 = .ok (.getfield 49, 3) := dx_180 (a := 0) (b := 49) (dl_at 0 13 lb_X12_buyerAt_0 rfl) (dl_at 0 14 lb_X12_buyerAt_0 rfl) (dl_at 0 15 lb_X12_buyerAt_0 rfl) rfl
theorem dX12_buyerAt_16 : decode cX12_buyerAt 16 = .ok (.bipush 12, 2) := dx_16 (dl_at 0 16 lb_X12_buyerAt_0 rfl) (dl_at 0 17 lb_X12_buyerAt_0 rfl) sg8_12
theorem dX12_buyerAt_18 : decode cX12_buyerAt 18 = .ok (.iload_n 2, 1) := dx_28 (dl_at 0 18 lb_X12_buyerAt_0 rfl)
theorem dX12_buyerAt_19 : decode cX12_buyerAt 19 = .ok (.imul, 1) := dx_104 (dl_at 0 19 lb_X12_buyerAt_0 rfl)
theorem dX12_buyerAt_20 : decode cX12_buyerAt 20 = .ok (.iaload, 1) := dx_46 (dl_at 0 20 lb_X12_buyerAt_0 rfl)
theorem dX12_buyerAt_21 : decode cX12_buyerAt 21 = .ok (.aload_n 0, 1) := dx_42 (dl_at 0 21 lb_X12_buyerAt_0 rfl)
theorem dX12_buyerAt_22 : decode cX12_buyerAt 22 = .ok (.getfield 49, 3) := dx_180 (a := 0) (b := 49) (dl_at 0 22 lb_X12_buyerAt_0 rfl) (dl_at 0 23 lb_X12_buyerAt_0 rfl) (dl_at 0 24 lb_X12_buyerAt_0 rfl) rfl
theorem dX12_buyerAt_25 : decode cX12_buyerAt 25 = .ok (.bipush 12, 2) := dx_16 (dl_at 0 25 lb_X12_buyerAt_0 rfl) (dl_at 0 26 lb_X12_buyerAt_0 rfl) sg8_12
theorem dX12_buyerAt_27 : decode cX12_buyerAt 27 = .ok (.iload_n 1, 1) := dx_27 (dl_at 0 27 lb_X12_buyerAt_0 rfl)
theorem dX12_buyerAt_28 : decode cX12_buyerAt 28 = .ok (.imul, 1) := dx_104 (dl_at 0 28 lb_X12_buyerAt_0 rfl)
theorem dX12_buyerAt_29 : decode cX12_buyerAt 29 = .ok (.iaload, 1) := dx_46 (dl_at 0 29 lb_X12_buyerAt_0 rfl)
theorem dX12_buyerAt_30 : decode cX12_buyerAt 30 = .ok (.if_icmp .ne 15, 3) := dx_160 (a := 0) (b := 15) (dl_at 0 30 lb_X12_buyerAt_0 rfl) (dl_at 0 31 lb_X12_buyerAt_0 rfl) (dl_at 32 0 lb_X12_buyerAt_1 rfl) sg16_15
theorem dX12_buyerAt_45 : decode cX12_buyerAt 45 = .ok (.iinc 2 1, 3) := dx_132 (dl_at 32 13 lb_X12_buyerAt_1 rfl) (dl_at 32 14 lb_X12_buyerAt_1 rfl) (dl_at 32 15 lb_X12_buyerAt_1 rfl) sg8_1
theorem dX12_buyerAt_48 : decode cX12_buyerAt 48 = .ok (.goto (-44), 3) := dx_167 (a := 255) (b := 212) (dl_at 32 16 lb_X12_buyerAt_1 rfl) (dl_at 32 17 lb_X12_buyerAt_1 rfl) (dl_at 32 18 lb_X12_buyerAt_1 rfl) sg16_65492
theorem dX12_buyerAt_33 : decode cX12_buyerAt 33 = .ok (.aload_n 0, 1) := dx_42 (dl_at 32 1 lb_X12_buyerAt_1 rfl)
theorem dX12_buyerAt_34 : decode cX12_buyerAt 34 = .ok (.getfield 49, 3) := dx_180 (a := 0) (b := 49) (dl_at 32 2 lb_X12_buyerAt_1 rfl) (dl_at 32 3 lb_X12_buyerAt_1 rfl) (dl_at 32 4 lb_X12_buyerAt_1 rfl) rfl
theorem dX12_buyerAt_37 : decode cX12_buyerAt 37 = .ok (.bipush 12, 2) := dx_16 (dl_at 32 5 lb_X12_buyerAt_1 rfl) (dl_at 32 6 lb_X12_buyerAt_1 rfl) sg8_12
theorem dX12_buyerAt_39 : decode cX12_buyerAt 39 = .ok (.iload_n 2, 1) := dx_28 (dl_at 32 7 lb_X12_buyerAt_1 rfl)
theorem dX12_buyerAt_40 : decode cX12_buyerAt 40 = .ok (.imul, 1) := dx_104 (dl_at 32 8 lb_X12_buyerAt_1 rfl)
theorem dX12_buyerAt_41 : decode cX12_buyerAt 41 = .ok (.iconst 1, 1) := dx_4 (dl_at 32 9 lb_X12_buyerAt_1 rfl)
theorem dX12_buyerAt_42 : decode cX12_buyerAt 42 = .ok (.iadd, 1) := dx_96 (dl_at 32 10 lb_X12_buyerAt_1 rfl)
theorem dX12_buyerAt_43 : decode cX12_buyerAt 43 = .ok (.iaload, 1) := dx_46 (dl_at 32 11 lb_X12_buyerAt_1 rfl)
theorem dX12_buyerAt_44 : decode cX12_buyerAt 44 = .ok (.ireturn, 1) := dx_172 (dl_at 32 12 lb_X12_buyerAt_1 rfl)
theorem lb_X12_gain_0 : dl_ck (cX12_gain.data.toList.drop 0) [42, 27, 182, 0, 154, 154, 0, 5, 2, 172, 3, 61, 3, 62, 29, 42, 180, 0, 151, 162, 0, 69, 28, 42, 180, 0, 49, 16, 12, 29, 104, 4] = true := by decide +kernel
theorem lb_X12_gain_1 : dl_ck (cX12_gain.data.toList.drop 32) [96, 46, 27, 160, 0, 17, 42, 180, 0, 49, 16, 12, 29, 104, 7, 96, 46, 167, 0, 4, 3, 96, 61, 28, 42, 29, 182, 1, 20, 27, 160, 0] = true := by decide +kernel
theorem lb_X12_gain_2 : dl_ck (cX12_gain.data.toList.drop 64) [17, 42, 180, 0, 49, 16, 12, 29, 104, 7, 96, 46, 167, 0, 4, 3, 100, 61, 132, 3, 1, 167, 255, 185, 42, 28, 4, 182, 0, 103, 172] = true := by decide +kernel
theorem dX12_gain_0 : decode cX12_gain 0 = .ok (.aload_n 0, 1) := dx_42 (dl_at 0 0 lb_X12_gain_0 rfl)
theorem dX12_gain_1 : decode cX12_gain 1 = .ok (.iload_n 1, 1) := dx_27 (dl_at 0 1 lb_X12_gain_0 rfl)
theorem dX12_gain_2 : decode cX12_gain 2 = .ok (.invokevirtual 154, 3) := dx_182 (a := 0) (b := 154) (dl_at 0 2 lb_X12_gain_0 rfl) (dl_at 0 3 lb_X12_gain_0 rfl) (dl_at 0 4 lb_X12_gain_0 rfl) rfl
theorem dX12_gain_5 : decode cX12_gain 5 = .ok (.ifCond .ne 5, 3) := dx_154 (a := 0) (b := 5) (dl_at 0 5 lb_X12_gain_0 rfl) (dl_at 0 6 lb_X12_gain_0 rfl) (dl_at 0 7 lb_X12_gain_0 rfl) sg16_5
theorem dX12_gain_10 : decode cX12_gain 10 = .ok (.iconst 0, 1) := dx_3 (dl_at 0 10 lb_X12_gain_0 rfl)
theorem dX12_gain_11 : decode cX12_gain 11 = .ok (.istore_n 2, 1) := dx_61 (dl_at 0 11 lb_X12_gain_0 rfl)
theorem dX12_gain_12 : decode cX12_gain 12 = .ok (.iconst 0, 1) := dx_3 (dl_at 0 12 lb_X12_gain_0 rfl)
theorem dX12_gain_13 : decode cX12_gain 13 = .ok (.istore_n 3, 1) := dx_62 (dl_at 0 13 lb_X12_gain_0 rfl)
theorem dX12_gain_14 : decode cX12_gain 14 = .ok (.iload_n 3, 1) := dx_29 (dl_at 0 14 lb_X12_gain_0 rfl)
theorem dX12_gain_15 : decode cX12_gain 15 = .ok (.aload_n 0, 1) := dx_42 (dl_at 0 15 lb_X12_gain_0 rfl)
theorem dX12_gain_16 : decode cX12_gain 16 = .ok (.getfield 151, 3) := dx_180 (a := 0) (b := 151) (dl_at 0 16 lb_X12_gain_0 rfl) (dl_at 0 17 lb_X12_gain_0 rfl) (dl_at 0 18 lb_X12_gain_0 rfl) rfl
theorem dX12_gain_19 : decode cX12_gain 19 = .ok (.if_icmp .ge 69, 3) := dx_162 (a := 0) (b := 69) (dl_at 0 19 lb_X12_gain_0 rfl) (dl_at 0 20 lb_X12_gain_0 rfl) (dl_at 0 21 lb_X12_gain_0 rfl) sg16_69
theorem dX12_gain_88 : decode cX12_gain 88 = .ok (.aload_n 0, 1) := dx_42 (dl_at 64 24 lb_X12_gain_2 rfl)
theorem dX12_gain_89 : decode cX12_gain 89 = .ok (.iload_n 2, 1) := dx_28 (dl_at 64 25 lb_X12_gain_2 rfl)
theorem dX12_gain_90 : decode cX12_gain 90 = .ok (.iconst 1, 1) := dx_4 (dl_at 64 26 lb_X12_gain_2 rfl)
theorem dX12_gain_91 : decode cX12_gain 91 = .ok (.invokevirtual 103, 3) := dx_182 (a := 0) (b := 103) (dl_at 64 27 lb_X12_gain_2 rfl) (dl_at 64 28 lb_X12_gain_2 rfl) (dl_at 64 29 lb_X12_gain_2 rfl) rfl
theorem dX12_gain_94 : decode cX12_gain 94 = .ok (.ireturn, 1) := dx_172 (dl_at 64 30 lb_X12_gain_2 rfl)
theorem dX12_gain_22 : decode cX12_gain 22 = .ok (.iload_n 2, 1) := dx_28 (dl_at 0 22 lb_X12_gain_0 rfl)
theorem dX12_gain_23 : decode cX12_gain 23 = .ok (.aload_n 0, 1) := dx_42 (dl_at 0 23 lb_X12_gain_0 rfl)
theorem dX12_gain_24 : decode cX12_gain 24 = .ok (.getfield 49, 3) := dx_180 (a := 0) (b := 49) (dl_at 0 24 lb_X12_gain_0 rfl) (dl_at 0 25 lb_X12_gain_0 rfl) (dl_at 0 26 lb_X12_gain_0 rfl) rfl
theorem dX12_gain_27 : decode cX12_gain 27 = .ok (.bipush 12, 2) := dx_16 (dl_at 0 27 lb_X12_gain_0 rfl) (dl_at 0 28 lb_X12_gain_0 rfl) sg8_12
theorem dX12_gain_29 : decode cX12_gain 29 = .ok (.iload_n 3, 1) := dx_29 (dl_at 0 29 lb_X12_gain_0 rfl)
theorem dX12_gain_30 : decode cX12_gain 30 = .ok (.imul, 1) := dx_104 (dl_at 0 30 lb_X12_gain_0 rfl)
theorem dX12_gain_31 : decode cX12_gain 31 = .ok (.iconst 1, 1) := dx_4 (dl_at 0 31 lb_X12_gain_0 rfl)
theorem dX12_gain_32 : decode cX12_gain 32 = .ok (.iadd, 1) := dx_96 (dl_at 32 0 lb_X12_gain_1 rfl)
theorem dX12_gain_33 : decode cX12_gain 33 = .ok (.iaload, 1) := dx_46 (dl_at 32 1 lb_X12_gain_1 rfl)
theorem dX12_gain_34 : decode cX12_gain 34 = .ok (.iload_n 1, 1) := dx_27 (dl_at 32 2 lb_X12_gain_1 rfl)
theorem dX12_gain_35 : decode cX12_gain 35 = .ok (.if_icmp .ne 17, 3) := dx_160 (a := 0) (b := 17) (dl_at 32 3 lb_X12_gain_1 rfl) (dl_at 32 4 lb_X12_gain_1 rfl) (dl_at 32 5 lb_X12_gain_1 rfl) sg16_17
theorem dX12_gain_52 : decode cX12_gain 52 = .ok (.iconst 0, 1) := dx_3 (dl_at 32 20 lb_X12_gain_1 rfl)
theorem dX12_gain_53 : decode cX12_gain 53 = .ok (.iadd, 1) := dx_96 (dl_at 32 21 lb_X12_gain_1 rfl)
theorem dX12_gain_54 : decode cX12_gain 54 = .ok (.istore_n 2, 1) := dx_61 (dl_at 32 22 lb_X12_gain_1 rfl)
theorem dX12_gain_55 : decode cX12_gain 55 = .ok (.iload_n 2, 1) := dx_28 (dl_at 32 23 lb_X12_gain_1 rfl)
theorem dX12_gain_56 : decode cX12_gain 56 = .ok (.aload_n 0, 1) := dx_42 (dl_at 32 24 lb_X12_gain_1 rfl)
theorem dX12_gain_57 : decode cX12_gain 57 = .ok (.iload_n 3, 1) := dx_29 (dl_at 32 25 lb_X12_gain_1 rfl)
theorem dX12_gain_58 : decode cX12_gain 58 = .ok (.invokevirtual 276, 3) := dx_182 (a := 1) (b := 20) (dl_at 32 26 lb_X12_gain_1 rfl) (dl_at 32 27 lb_X12_gain_1 rfl) (dl_at 32 28 lb_X12_gain_1 rfl) rfl
theorem dX12_gain_61 : decode cX12_gain 61 = .ok (.iload_n 1, 1) := dx_27 (dl_at 32 29 lb_X12_gain_1 rfl)
theorem dX12_gain_62 : decode cX12_gain 62 = .ok (.if_icmp .ne 17, 3) := dx_160 (a := 0) (b := 17) (dl_at 32 30 lb_X12_gain_1 rfl) (dl_at 32 31 lb_X12_gain_1 rfl) (dl_at 64 0 lb_X12_gain_2 rfl) sg16_17
theorem dX12_gain_79 : decode cX12_gain 79 = .ok (.iconst 0, 1) := dx_3 (dl_at 64 15 lb_X12_gain_2 rfl)
theorem dX12_gain_80 : decode cX12_gain 80 = .ok (.isub, 1) := dx_100 (dl_at 64 16 lb_X12_gain_2 rfl)
theorem dX12_gain_81 : decode cX12_gain 81 = .ok (.istore_n 2, 1) := dx_61 (dl_at 64 17 lb_X12_gain_2 rfl)
theorem dX12_gain_82 : decode cX12_gain 82 = .ok (.iinc 3 1, 3) := dx_132 (dl_at 64 18 lb_X12_gain_2 rfl) (dl_at 64 19 lb_X12_gain_2 rfl) (dl_at 64 20 lb_X12_gain_2 rfl) sg8_1
theorem dX12_gain_85 : decode cX12_gain 85 = .ok (.goto (-71), 3) := dx_167 (a := 255) (b := 185) (dl_at 64 21 lb_X12_gain_2 rfl) (dl_at 64 22 lb_X12_gain_2 rfl) (dl_at 64 23 lb_X12_gain_2 rfl) sg16_65465
theorem dX12_gain_65 : decode cX12_gain 65 = .ok (.aload_n 0, 1) := dx_42 (dl_at 64 1 lb_X12_gain_2 rfl)
theorem dX12_gain_66 : decode cX12_gain 66 = .ok (.getfield 49, 3) := dx_180 (a := 0) (b := 49) (dl_at 64 2 lb_X12_gain_2 rfl) (dl_at 64 3 lb_X12_gain_2 rfl) (dl_at 64 4 lb_X12_gain_2 rfl) rfl
theorem dX12_gain_69 : decode cX12_gain 69 = .ok (.bipush 12, 2) := dx_16 (dl_at 64 5 lb_X12_gain_2 rfl) (dl_at 64 6 lb_X12_gain_2 rfl) sg8_12
theorem dX12_gain_71 : decode cX12_gain 71 = .ok (.iload_n 3, 1) := dx_29 (dl_at 64 7 lb_X12_gain_2 rfl)
theorem dX12_gain_72 : decode cX12_gain 72 = .ok (.imul, 1) := dx_104 (dl_at 64 8 lb_X12_gain_2 rfl)
theorem dX12_gain_73 : decode cX12_gain 73 = .ok (.iconst 4, 1) := dx_7 (dl_at 64 9 lb_X12_gain_2 rfl)
theorem dX12_gain_74 : decode cX12_gain 74 = .ok (.iadd, 1) := dx_96 (dl_at 64 10 lb_X12_gain_2 rfl)
theorem dX12_gain_75 : decode cX12_gain 75 = .ok (.iaload, 1) := dx_46 (dl_at 64 11 lb_X12_gain_2 rfl)
theorem dX12_gain_76 : decode cX12_gain 76 = .ok (.goto 4, 3) := dx_167 (a := 0) (b := 4) (dl_at 64 12 lb_X12_gain_2 rfl) (dl_at 64 13 lb_X12_gain_2 rfl) (dl_at 64 14 lb_X12_gain_2 rfl) sg16_4
theorem dX12_gain_38 : decode cX12_gain 38 = .ok (.aload_n 0, 1) := dx_42 (dl_at 32 6 lb_X12_gain_1 rfl)
theorem dX12_gain_39 : decode cX12_gain 39 = .ok (.getfield 49, 3) := dx_180 (a := 0) (b := 49) (dl_at 32 7 lb_X12_gain_1 rfl) (dl_at 32 8 lb_X12_gain_1 rfl) (dl_at 32 9 lb_X12_gain_1 rfl) rfl
theorem dX12_gain_42 : decode cX12_gain 42 = .ok (.bipush 12, 2) := dx_16 (dl_at 32 10 lb_X12_gain_1 rfl) (dl_at 32 11 lb_X12_gain_1 rfl) sg8_12
theorem dX12_gain_44 : decode cX12_gain 44 = .ok (.iload_n 3, 1) := dx_29 (dl_at 32 12 lb_X12_gain_1 rfl)
theorem dX12_gain_45 : decode cX12_gain 45 = .ok (.imul, 1) := dx_104 (dl_at 32 13 lb_X12_gain_1 rfl)
theorem dX12_gain_46 : decode cX12_gain 46 = .ok (.iconst 4, 1) := dx_7 (dl_at 32 14 lb_X12_gain_1 rfl)
theorem dX12_gain_47 : decode cX12_gain 47 = .ok (.iadd, 1) := dx_96 (dl_at 32 15 lb_X12_gain_1 rfl)
theorem dX12_gain_48 : decode cX12_gain 48 = .ok (.iaload, 1) := dx_46 (dl_at 32 16 lb_X12_gain_1 rfl)
theorem dX12_gain_49 : decode cX12_gain 49 = .ok (.goto 4, 3) := dx_167 (a := 0) (b := 4) (dl_at 32 17 lb_X12_gain_1 rfl) (dl_at 32 18 lb_X12_gain_1 rfl) (dl_at 32 19 lb_X12_gain_1 rfl) sg16_4
theorem dX12_gain_8 : decode cX12_gain 8 = .ok (.iconst (-1), 1) := dx_2 (dl_at 0 8 lb_X12_gain_0 rfl)
theorem dX12_gain_9 : decode cX12_gain 9 = .ok (.ireturn, 1) := dx_172 (dl_at 0 9 lb_X12_gain_0 rfl)
def L_qm_block_38_0 (vk : Int32) (y6 : Int32) : Nat → (Int32) → (Int32) → (Nat → Nat → Int32) → Int32 × (Nat → Nat → Int32)
  | 0, v4_38, v5_38, nu38_ => (0, nu38_)
  | n + 1, v4_38, v5_38, nu38_ =>
    LETV (nu38_ 0 11 : Int32) fun y9 =>
    LETV (1 <<< (y9 &&& 31) : Int32) fun t10 =>
    if v5_38 ≥ t10 then (
      LETV (va_up nu38_ 0 (upd (nu38_ 0) 13 y6) : Nat → Nat → Int32) fun nu12 =>
      LETV (F_sm_sizeOf (v4_38 : Int32) : Int32) fun r17 =>
      LETP (F_sm_ask nu12 (v4_38 : Int32) (r17 : Int32)) fun r18 xi18 =>
      ((r18 : Int32), xi18)
    ) else (
      LETV (v5_38 &&& y6 : Int32) fun t20 =>
      if t20 = (0 : Int32) then (
        if v4_38 = ((-9) : Int32) then (
          LETV (y6 ||| v5_38 : Int32) fun t24 =>
          LETV (va_up nu38_ 0 (upd (nu38_ 0) 13 t24) : Nat → Nat → Int32) fun nu25 =>
          LETV (F_sm_routesOf nu25 (vk : Int32) : Nat → Nat → Int32) fun xi29 =>
          LETV (xi29 0 33 : Int32) fun y31 =>
          if y31 = (0 : Int32) then (
            LETV ((v5_38 + 1) : Int32) fun w34 =>
            L_qm_block_38_0 vk y6 n (v5_38 : Int32) (w34 : Int32) xi29
          ) else (
            LETV ((v5_38 + 1) : Int32) fun w33 =>
            L_qm_block_38_0 vk y6 n (v4_38 : Int32) (w33 : Int32) xi29
          )
        ) else (
          LETV (F_sm_sizeOf (v5_38 : Int32) : Int32) fun r35 =>
          LETV (F_sm_sizeOf (v4_38 : Int32) : Int32) fun r36 =>
          if r35 ≥ r36 then (
            LETV ((v5_38 + 1) : Int32) fun w38 =>
            L_qm_block_38_0 vk y6 n (v4_38 : Int32) (w38 : Int32) nu38_
          ) else (
            LETV (y6 ||| v5_38 : Int32) fun t39 =>
            LETV (va_up nu38_ 0 (upd (nu38_ 0) 13 t39) : Nat → Nat → Int32) fun nu40 =>
            LETV (F_sm_routesOf nu40 (vk : Int32) : Nat → Nat → Int32) fun xi44 =>
            LETV (xi44 0 33 : Int32) fun y46 =>
            if y46 = (0 : Int32) then (
              LETV ((v5_38 + 1) : Int32) fun w49 =>
              L_qm_block_38_0 vk y6 n (v5_38 : Int32) (w49 : Int32) xi44
            ) else (
              LETV ((v5_38 + 1) : Int32) fun w48 =>
              L_qm_block_38_0 vk y6 n (v4_38 : Int32) (w48 : Int32) xi44
            )
          )
        )
      ) else (
        LETV ((v5_38 + 1) : Int32) fun w22 =>
        L_qm_block_38_0 vk y6 n (v4_38 : Int32) (w22 : Int32) nu38_
      )
    )
def F_qm_block (mu : Nat → Nat → Int32) (vk : Int32) : Int32 × (Nat → Nat → Int32) :=
  LETP (F_sm_askedRoutes mu (vk : Int32)) fun r1 xi1 =>
  if r1 = 0 then (
    LETV (xi1 0 33 : Int32) fun y4 =>
    if y4 = (0 : Int32) then (
      LETP (F_sm_ask xi1 (0 : Int32) (0 : Int32)) fun r50 xi50 =>
      ((r50 : Int32), xi50)
    ) else (
      LETV (xi1 0 13 : Int32) fun y6 =>
      L_qm_block_38_0 vk y6 4099 ((-9) : Int32) (1 : Int32) xi1
    )
  ) else (
    ((r1 : Int32), xi1)
  )
def L_qm_bundle_33_1 (mu : Nat → Nat → Int32) (v2_14 : Int32) (v3_14 : Int32) (vx : Int32) (k_qm_bundle_14_0 : (Int32) → (Int32) → (Nat → Nat → Int32) → (Int32 × (Nat → Nat → Int32))) : Nat → (Int32) → (Int32) → (Int32) → (Nat → Nat → Int32) → Int32 × (Nat → Nat → Int32)
  | 0, v4_33, v5_33, v6_33, nu33_ => (0, nu33_)
  | n + 1, v4_33, v5_33, v6_33, nu33_ =>
    LETV (nu33_ 0 15 : Int32) fun y8 =>
    if v6_33 ≥ y8 then (
      if v5_33 = (0 : Int32) then (
        LETV ((v3_14 + 1) : Int32) fun w11 =>
        k_qm_bundle_14_0 (v2_14 : Int32) (w11 : Int32) nu33_
      ) else (
        LETV (nu33_ 8 vx.toNatClampNeg : Int32) fun y12 =>
        if v4_33 > y12 then (
          LETV ((v3_14 + 1) : Int32) fun w14 =>
          k_qm_bundle_14_0 (v2_14 : Int32) (w14 : Int32) nu33_
        ) else (
          LETV (F_sm_sizeOf (v3_14 : Int32) : Int32) fun r15 =>
          LETV (F_sm_sizeOf (v2_14 : Int32) : Int32) fun r16 =>
          if r15 ≤ r16 then (
            LETV ((v3_14 + 1) : Int32) fun w18 =>
            k_qm_bundle_14_0 (v2_14 : Int32) (w18 : Int32) nu33_
          ) else (
            LETV ((v3_14 + 1) : Int32) fun w19 =>
            k_qm_bundle_14_0 (v3_14 : Int32) (w19 : Int32) nu33_
          )
        )
      )
    ) else (
      if v5_33 = (0 : Int32) then (
        if F_sm_has (v3_14 : Int32) (v6_33 : Int32) = 1 then (
          LETV (F_sm_priceOf nu33_ (v6_33 : Int32) : Int32) fun r22 =>
          LETV (v4_33 + r22 : Int32) fun t23 =>
          LETV ((v6_33 + 1) : Int32) fun w24 =>
          L_qm_bundle_33_1 mu v2_14 v3_14 vx k_qm_bundle_14_0 n (t23 : Int32) (0 : Int32) (w24 : Int32) nu33_
        ) else (
          LETV (v4_33 + 0 : Int32) fun t25 =>
          LETV ((v6_33 + 1) : Int32) fun w26 =>
          L_qm_bundle_33_1 mu v2_14 v3_14 vx k_qm_bundle_14_0 n (t25 : Int32) (0 : Int32) (w26 : Int32) nu33_
        )
      ) else (
        if F_sm_has (v3_14 : Int32) (v6_33 : Int32) = 1 then (
          LETV (F_sm_canSell nu33_ (v6_33 : Int32) : Int32) fun r28 =>
          if F_sm_has (r28 : Int32) (vx : Int32) = 1 then (
            if F_sm_has (v3_14 : Int32) (v6_33 : Int32) = 1 then (
              LETV (F_sm_priceOf nu33_ (v6_33 : Int32) : Int32) fun r31 =>
              LETV (v4_33 + r31 : Int32) fun t32 =>
              LETV ((v6_33 + 1) : Int32) fun w33 =>
              L_qm_bundle_33_1 mu v2_14 v3_14 vx k_qm_bundle_14_0 n (t32 : Int32) (1 : Int32) (w33 : Int32) nu33_
            ) else (
              (0, mu)
            )
          ) else (
            if F_sm_has (v3_14 : Int32) (v6_33 : Int32) = 1 then (
              LETV (F_sm_priceOf nu33_ (v6_33 : Int32) : Int32) fun r35 =>
              LETV (v4_33 + r35 : Int32) fun t36 =>
              LETV ((v6_33 + 1) : Int32) fun w37 =>
              L_qm_bundle_33_1 mu v2_14 v3_14 vx k_qm_bundle_14_0 n (t36 : Int32) (0 : Int32) (w37 : Int32) nu33_
            ) else (
              (0, mu)
            )
          )
        ) else (
          if F_sm_has (v3_14 : Int32) (v6_33 : Int32) = 1 then (
            (0, mu)
          ) else (
            LETV (v4_33 + 0 : Int32) fun t39 =>
            LETV ((v6_33 + 1) : Int32) fun w40 =>
            L_qm_bundle_33_1 mu v2_14 v3_14 vx k_qm_bundle_14_0 n (t39 : Int32) (1 : Int32) (w40 : Int32) nu33_
          )
        )
      )
    )
def L_qm_bundle_14_0 (mu : Nat → Nat → Int32) (vx : Int32) : Nat → (Int32) → (Int32) → (Nat → Nat → Int32) → Int32 × (Nat → Nat → Int32)
  | 0, v2_14, v3_14, nu14_ => (0, nu14_)
  | n + 1, v2_14, v3_14, nu14_ =>
    LETV (nu14_ 0 15 : Int32) fun y2 =>
    LETV (1 <<< (y2 &&& 31) : Int32) fun t3 =>
    if v3_14 ≥ t3 then (
      LETV (F_sm_sizeOf (v2_14 : Int32) : Int32) fun r5 =>
      LETP (F_sm_ask nu14_ (v2_14 : Int32) (r5 : Int32)) fun r6 xi6 =>
      ((r6 : Int32), xi6)
    ) else (
      L_qm_bundle_33_1 mu v2_14 v3_14 vx (fun z_v2_14 z_v3_14 z_nu14_ => L_qm_bundle_14_0 mu vx n z_v2_14 z_v3_14 z_nu14_) 7 (0 : Int32) (1 : Int32) (0 : Int32) nu14_
    )
def F_qm_bundle (mu : Nat → Nat → Int32) (vx : Int32) : Int32 × (Nat → Nat → Int32) :=
  if F_sm_isOne mu (vx : Int32) = 1 then (
    L_qm_bundle_14_0 mu vx 4099 (0 : Int32) (1 : Int32) mu
  ) else (
    (((-1) : Int32), mu)
  )
def L_qm_post_36_1 (v4_24 : Int32) (vv : Int32) (k_qm_post_24_0 : (Int32) → (Int32) → (Int32) → (Nat → Nat → Int32) → (Int32 × (Nat → Nat → Int32))) : Nat → (Int32) → (Int32) → (Int32) → (Nat → Nat → Int32) → Int32 × (Nat → Nat → Int32)
  | 0, v2_36, v3_36, v5_36, nu36_ => (0, nu36_)
  | n + 1, v2_36, v3_36, v5_36, nu36_ =>
    LETV (nu36_ 0 8 : Int32) fun y9 =>
    if v5_36 ≥ y9 then (
      LETV ((v4_24 + 1) : Int32) fun w11 =>
      k_qm_post_24_0 (v2_36 : Int32) (v3_36 : Int32) (w11 : Int32) nu36_
    ) else (
      if v4_24 = v5_36 then (
        LETV ((v5_36 + 1) : Int32) fun w13 =>
        L_qm_post_36_1 v4_24 vv k_qm_post_24_0 n (v2_36 : Int32) (v3_36 : Int32) (w13 : Int32) nu36_
      ) else (
        LETV (F_sm_setRoutes nu36_ ((-9) : Int32) (v4_24 : Int32) (v5_36 : Int32) (0 : Int32) : Nat → Nat → Int32) fun xi14 =>
        LETV (xi14 0 30 : Int32) fun y16 =>
        if y16 = (0 : Int32) then (
          LETV (v3_36 + 1 : Int32) fun t25 =>
          LETV (xi14 0 31 : Int32) fun y26 =>
          if vv ≥ y26 then (
            LETV (v2_36 + 0 : Int32) fun t28 =>
            LETV ((v5_36 + 1) : Int32) fun w29 =>
            L_qm_post_36_1 v4_24 vv k_qm_post_24_0 n (t28 : Int32) (t25 : Int32) (w29 : Int32) xi14
          ) else (
            LETV (v2_36 + 1 : Int32) fun t30 =>
            LETV ((v5_36 + 1) : Int32) fun w31 =>
            L_qm_post_36_1 v4_24 vv k_qm_post_24_0 n (t30 : Int32) (t25 : Int32) (w31 : Int32) xi14
          )
        ) else (
          LETV (v3_36 + 0 : Int32) fun t18 =>
          LETV (xi14 0 31 : Int32) fun y19 =>
          if vv ≥ y19 then (
            LETV (v2_36 + 0 : Int32) fun t21 =>
            LETV ((v5_36 + 1) : Int32) fun w22 =>
            L_qm_post_36_1 v4_24 vv k_qm_post_24_0 n (t21 : Int32) (t18 : Int32) (w22 : Int32) xi14
          ) else (
            LETV (v2_36 + 1 : Int32) fun t23 =>
            LETV ((v5_36 + 1) : Int32) fun w24 =>
            L_qm_post_36_1 v4_24 vv k_qm_post_24_0 n (t23 : Int32) (t18 : Int32) (w24 : Int32) xi14
          )
        )
      )
    )
def L_qm_post_24_0 (vv : Int32) : Nat → (Int32) → (Int32) → (Int32) → (Nat → Nat → Int32) → Int32 × (Nat → Nat → Int32)
  | 0, v2_24, v3_24, v4_24, nu24_ => (0, nu24_)
  | n + 1, v2_24, v3_24, v4_24, nu24_ =>
    LETV (nu24_ 0 8 : Int32) fun y5 =>
    if v4_24 ≥ y5 then (
      LETP (F_sm_ask nu24_ (v3_24 : Int32) (v2_24 : Int32)) fun r7 xi7 =>
      ((r7 : Int32), xi7)
    ) else (
      L_qm_post_36_1 v4_24 vv (fun z_v2_24 z_v3_24 z_v4_24 z_nu24_ => L_qm_post_24_0 vv n z_v2_24 z_v3_24 z_v4_24 z_nu24_) 10 (v2_24 : Int32) (v3_24 : Int32) (0 : Int32) nu24_
    )
def F_qm_post (mu : Nat → Nat → Int32) (vv : Int32) : Int32 × (Nat → Nat → Int32) :=
  if F_sm_in (vv : Int32) (0 : Int32) (99 : Int32) = 1 then (
    LETV (va_up mu 0 (upd (mu 0) 38 1) : Nat → Nat → Int32) fun nu2 =>
    L_qm_post_24_0 vv 10 (0 : Int32) (0 : Int32) (0 : Int32) nu2
  ) else (
    (((-1) : Int32), mu)
  )
def F_qm_fake (mu : Nat → Nat → Int32) (vx : Int32) (vy : Int32) (vw : Int32) : Int32 × (Nat → Nat → Int32) :=
  if F_sm_areTwo mu (vx : Int32) (vy : Int32) = 1 then (
    if F_sm_in (vw : Int32) (0 : Int32) (99 : Int32) = 1 then (
      LETV (va_up mu 0 (upd (mu 0) 38 1) : Nat → Nat → Int32) fun nu3 =>
      LETV (F_sm_setRoutes nu3 ((-9) : Int32) (vx : Int32) (vy : Int32) (0 : Int32) : Nat → Nat → Int32) fun xi6 =>
      LETV (xi6 0 31 : Int32) fun y8 =>
      if y8 > vw then (
        ((0 : Int32), xi6)
      ) else (
        ((y8 : Int32), xi6)
      )
    ) else (
      (((-1) : Int32), mu)
    )
  ) else (
    (((-1) : Int32), mu)
  )
def L_sm_buyerAt_4_0 (mu : Nat → Nat → Int32) (vs : Int32) : Nat → (Int32) → Int32
  | 0, v2_4 => 0
  | n + 1, v2_4 =>
    LETV (mu 0 17 : Int32) fun y2 =>
    if v2_4 ≥ y2 then (
      LETV (12 * vs : Int32) fun t4 =>
      LETV (mu 14 t4.toNatClampNeg : Int32) fun y6 =>
      LETV (F_sm_letterOf5 mu (y6 : Int32) : Int32) fun r7 =>
      (r7 : Int32)
    ) else (
      LETV (12 * v2_4 : Int32) fun t8 =>
      LETV (mu 14 t8.toNatClampNeg : Int32) fun y10 =>
      LETV (12 * vs : Int32) fun t11 =>
      LETV (mu 14 t11.toNatClampNeg : Int32) fun y13 =>
      if y10 = y13 then (
        LETV (12 * v2_4 : Int32) fun t16 =>
        LETV (t16 + 1 : Int32) fun t17 =>
        LETV (mu 14 t17.toNatClampNeg : Int32) fun y19 =>
        (y19 : Int32)
      ) else (
        LETV ((v2_4 + 1) : Int32) fun w15 =>
        L_sm_buyerAt_4_0 mu vs n (w15 : Int32)
      )
    )
def F_sm_buyerAt (mu : Nat → Nat → Int32) (vs : Int32) : Int32 :=
  LETV (vs + 1 : Int32) fun t1 =>
  L_sm_buyerAt_4_0 mu vs 43 (t1 : Int32)
def L_qm_gain_14_0 (vx : Int32) : Nat → (Int32) → (Int32) → (Nat → Nat → Int32) → Int32 × (Nat → Nat → Int32)
  | 0, v2_14, v3_14, nu14_ => (0, nu14_)
  | n + 1, v2_14, v3_14, nu14_ =>
    LETV (nu14_ 0 17 : Int32) fun y2 =>
    if v3_14 ≥ y2 then (
      LETP (F_sm_ask nu14_ (v2_14 : Int32) (1 : Int32)) fun r4 xi4 =>
      ((r4 : Int32), xi4)
    ) else (
      LETV (12 * v3_14 : Int32) fun t6 =>
      LETV (t6 + 1 : Int32) fun t7 =>
      LETV (nu14_ 14 t7.toNatClampNeg : Int32) fun y9 =>
      if y9 = vx then (
        LETV (12 * v3_14 : Int32) fun t22 =>
        LETV (t22 + 4 : Int32) fun t23 =>
        LETV (nu14_ 14 t23.toNatClampNeg : Int32) fun y25 =>
        LETV (v2_14 + y25 : Int32) fun t26 =>
        LETV (F_sm_buyerAt nu14_ (v3_14 : Int32) : Int32) fun r27 =>
        if r27 = vx then (
          LETV (12 * v3_14 : Int32) fun t31 =>
          LETV (t31 + 4 : Int32) fun t32 =>
          LETV (nu14_ 14 t32.toNatClampNeg : Int32) fun y34 =>
          LETV (t26 - y34 : Int32) fun t35 =>
          LETV ((v3_14 + 1) : Int32) fun w36 =>
          L_qm_gain_14_0 vx n (t35 : Int32) (w36 : Int32) nu14_
        ) else (
          LETV (t26 - 0 : Int32) fun t29 =>
          LETV ((v3_14 + 1) : Int32) fun w30 =>
          L_qm_gain_14_0 vx n (t29 : Int32) (w30 : Int32) nu14_
        )
      ) else (
        LETV (v2_14 + 0 : Int32) fun t11 =>
        LETV (F_sm_buyerAt nu14_ (v3_14 : Int32) : Int32) fun r12 =>
        if r12 = vx then (
          LETV (12 * v3_14 : Int32) fun t16 =>
          LETV (t16 + 4 : Int32) fun t17 =>
          LETV (nu14_ 14 t17.toNatClampNeg : Int32) fun y19 =>
          LETV (t11 - y19 : Int32) fun t20 =>
          LETV ((v3_14 + 1) : Int32) fun w21 =>
          L_qm_gain_14_0 vx n (t20 : Int32) (w21 : Int32) nu14_
        ) else (
          LETV (t11 - 0 : Int32) fun t14 =>
          LETV ((v3_14 + 1) : Int32) fun w15 =>
          L_qm_gain_14_0 vx n (t14 : Int32) (w15 : Int32) nu14_
        )
      )
    )
def F_qm_gain (mu : Nat → Nat → Int32) (vx : Int32) : Int32 × (Nat → Nat → Int32) :=
  if F_sm_isOne mu (vx : Int32) = 1 then (
    L_qm_gain_14_0 vx 43 (0 : Int32) (0 : Int32) mu
  ) else (
    (((-1) : Int32), mu)
  )
