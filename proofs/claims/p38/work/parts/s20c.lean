theorem lb_X11_send_0 : dl_ck (cX11_send.data.toList.drop 0) [42, 27, 28, 182, 0, 182, 153, 0, 25, 29, 155, 0, 21, 29, 16, 99, 163, 0, 15, 21, 4, 155, 0, 10, 21, 4, 16, 9, 164, 0, 5, 2] = true := by decide +kernel
theorem lb_X11_send_1 : dl_ck (cX11_send.data.toList.drop 32) [172, 42, 180, 0, 30, 180, 0, 166, 180, 0, 185, 54, 5, 21, 5, 7, 161, 0, 6, 16, 254, 172, 42, 180, 0, 30, 180, 0, 166, 180, 0, 188] = true := by decide +kernel
theorem lb_X11_send_2 : dl_ck (cX11_send.data.toList.drop 64) [21, 5, 50, 27, 28, 29, 21, 4, 42, 180, 0, 30, 180, 0, 166, 180, 0, 192, 182, 0, 195, 42, 180, 0, 30, 180, 0, 166, 21, 5, 4, 96] = true := by decide +kernel
theorem lb_X11_send_3 : dl_ck (cX11_send.data.toList.drop 96) [181, 0, 185, 21, 5, 172] = true := by decide +kernel
theorem dX11_send_0 : decode cX11_send 0 = .ok (.aload_n 0, 1) := dx_42 (dl_at 0 0 lb_X11_send_0 rfl)
theorem dX11_send_1 : decode cX11_send 1 = .ok (.iload_n 1, 1) := dx_27 (dl_at 0 1 lb_X11_send_0 rfl)
theorem dX11_send_2 : decode cX11_send 2 = .ok (.iload_n 2, 1) := dx_28 (dl_at 0 2 lb_X11_send_0 rfl)
theorem dX11_send_3 : decode cX11_send 3 = .ok (.invokevirtual 182, 3) := dx_182 (a := 0) (b := 182) (dl_at 0 3 lb_X11_send_0 rfl) (dl_at 0 4 lb_X11_send_0 rfl) (dl_at 0 5 lb_X11_send_0 rfl) rfl
theorem dX11_send_6 : decode cX11_send 6 = .ok (.ifCond .eq 25, 3) := dx_153 (a := 0) (b := 25) (dl_at 0 6 lb_X11_send_0 rfl) (dl_at 0 7 lb_X11_send_0 rfl) (dl_at 0 8 lb_X11_send_0 rfl) sg16_25
theorem dX11_send_9 : decode cX11_send 9 = .ok (.iload_n 3, 1) := dx_29 (dl_at 0 9 lb_X11_send_0 rfl)
theorem dX11_send_10 : decode cX11_send 10 = .ok (.ifCond .lt 21, 3) := dx_155 (a := 0) (b := 21) (dl_at 0 10 lb_X11_send_0 rfl) (dl_at 0 11 lb_X11_send_0 rfl) (dl_at 0 12 lb_X11_send_0 rfl) sg16_21
theorem dX11_send_31 : decode cX11_send 31 = .ok (.iconst (-1), 1) := dx_2 (dl_at 0 31 lb_X11_send_0 rfl)
theorem dX11_send_32 : decode cX11_send 32 = .ok (.ireturn, 1) := dx_172 (dl_at 32 0 lb_X11_send_1 rfl)
theorem dX11_send_13 : decode cX11_send 13 = .ok (.iload_n 3, 1) := dx_29 (dl_at 0 13 lb_X11_send_0 rfl)
theorem dX11_send_14 : decode cX11_send 14 = .ok (.bipush 99, 2) := dx_16 (dl_at 0 14 lb_X11_send_0 rfl) (dl_at 0 15 lb_X11_send_0 rfl) sg8_99
theorem dX11_send_16 : decode cX11_send 16 = .ok (.if_icmp .gt 15, 3) := dx_163 (a := 0) (b := 15) (dl_at 0 16 lb_X11_send_0 rfl) (dl_at 0 17 lb_X11_send_0 rfl) (dl_at 0 18 lb_X11_send_0 rfl) sg16_15
theorem dX11_send_19 : decode cX11_send 19 = .ok (.iload 4, 2) := dx_21 (dl_at 0 19 lb_X11_send_0 rfl) (dl_at 0 20 lb_X11_send_0 rfl)
theorem dX11_send_21 : decode cX11_send 21 = .ok (.ifCond .lt 10, 3) := dx_155 (a := 0) (b := 10) (dl_at 0 21 lb_X11_send_0 rfl) (dl_at 0 22 lb_X11_send_0 rfl) (dl_at 0 23 lb_X11_send_0 rfl) sg16_10
theorem dX11_send_24 : decode cX11_send 24 = .ok (.iload 4, 2) := dx_21 (dl_at 0 24 lb_X11_send_0 rfl) (dl_at 0 25 lb_X11_send_0 rfl)
theorem dX11_send_26 : decode cX11_send 26 = .ok (.bipush 9, 2) := dx_16 (dl_at 0 26 lb_X11_send_0 rfl) (dl_at 0 27 lb_X11_send_0 rfl) sg8_9
theorem dX11_send_28 : decode cX11_send 28 = .ok (.if_icmp .le 5, 3) := dx_164 (a := 0) (b := 5) (dl_at 0 28 lb_X11_send_0 rfl) (dl_at 0 29 lb_X11_send_0 rfl) (dl_at 0 30 lb_X11_send_0 rfl) sg16_5
theorem dX11_send_33 : decode cX11_send 33 = .ok (.aload_n 0, 1) := dx_42 (dl_at 32 1 lb_X11_send_1 rfl)
theorem dX11_send_34 : decode cX11_send 34 = .ok (.getfield 30, 3) := dx_180 (a := 0) (b := 30) (dl_at 32 2 lb_X11_send_1 rfl) (dl_at 32 3 lb_X11_send_1 rfl) (dl_at 32 4 lb_X11_send_1 rfl) rfl
theorem dX11_send_37 : decode cX11_send 37 = .ok (.getfield 166, 3) := dx_180 (a := 0) (b := 166) (dl_at 32 5 lb_X11_send_1 rfl) (dl_at 32 6 lb_X11_send_1 rfl) (dl_at 32 7 lb_X11_send_1 rfl) rfl
theorem dX11_send_40 : decode cX11_send 40 = .ok (.getfield 185, 3) := dx_180 (a := 0) (b := 185) (dl_at 32 8 lb_X11_send_1 rfl) (dl_at 32 9 lb_X11_send_1 rfl) (dl_at 32 10 lb_X11_send_1 rfl) rfl
theorem dX11_send_43 : decode cX11_send 43 = .ok (.istore 5, 2) := dx_54 (dl_at 32 11 lb_X11_send_1 rfl) (dl_at 32 12 lb_X11_send_1 rfl)
theorem dX11_send_45 : decode cX11_send 45 = .ok (.iload 5, 2) := dx_21 (dl_at 32 13 lb_X11_send_1 rfl) (dl_at 32 14 lb_X11_send_1 rfl)
theorem dX11_send_47 : decode cX11_send 47 = .ok (.iconst 4, 1) := dx_7 (dl_at 32 15 lb_X11_send_1 rfl)
theorem dX11_send_48 : decode cX11_send 48 = .ok (.if_icmp .lt 6, 3) := dx_161 (a := 0) (b := 6) (dl_at 32 16 lb_X11_send_1 rfl) (dl_at 32 17 lb_X11_send_1 rfl) (dl_at 32 18 lb_X11_send_1 rfl) sg16_6
theorem dX11_send_54 : decode cX11_send 54 = .ok (.aload_n 0, 1) := dx_42 (dl_at 32 22 lb_X11_send_1 rfl)
theorem dX11_send_55 : decode cX11_send 55 = .ok (.getfield 30, 3) := dx_180 (a := 0) (b := 30) (dl_at 32 23 lb_X11_send_1 rfl) (dl_at 32 24 lb_X11_send_1 rfl) (dl_at 32 25 lb_X11_send_1 rfl) rfl
theorem dX11_send_58 : decode cX11_send 58 = .ok (.getfield 166, 3) := dx_180 (a := 0) (b := 166) (dl_at 32 26 lb_X11_send_1 rfl) (dl_at 32 27 lb_X11_send_1 rfl) (dl_at 32 28 lb_X11_send_1 rfl) rfl
theorem dX11_send_61 : decode cX11_send 61 = .ok (.getfield 188, 3) := dx_180 (a := 0) (b := 188) (dl_at 32 29 lb_X11_send_1 rfl) (dl_at 32 30 lb_X11_send_1 rfl) (dl_at 32 31 lb_X11_send_1 rfl) rfl
theorem dX11_send_64 : decode cX11_send 64 = .ok (.iload 5, 2) := dx_21 (dl_at 64 0 lb_X11_send_2 rfl) (dl_at 64 1 lb_X11_send_2 rfl)
theorem dX11_send_66 : decode cX11_send 66 = .ok (.aaload, 1) := dx_50 (dl_at 64 2 lb_X11_send_2 rfl)
theorem dX11_send_67 : decode cX11_send 67 = .ok (.iload_n 1, 1) := dx_27 (dl_at 64 3 lb_X11_send_2 rfl)
theorem dX11_send_68 : decode cX11_send 68 = .ok (.iload_n 2, 1) := dx_28 (dl_at 64 4 lb_X11_send_2 rfl)
theorem dX11_send_69 : decode cX11_send 69 = .ok (.iload_n 3, 1) := dx_29 (dl_at 64 5 lb_X11_send_2 rfl)
theorem dX11_send_70 : decode cX11_send 70 = .ok (.iload 4, 2) := dx_21 (dl_at 64 6 lb_X11_send_2 rfl) (dl_at 64 7 lb_X11_send_2 rfl)
theorem dX11_send_72 : decode cX11_send 72 = .ok (.aload_n 0, 1) := dx_42 (dl_at 64 8 lb_X11_send_2 rfl)
theorem dX11_send_73 : decode cX11_send 73 = .ok (.getfield 30, 3) := dx_180 (a := 0) (b := 30) (dl_at 64 9 lb_X11_send_2 rfl) (dl_at 64 10 lb_X11_send_2 rfl) (dl_at 64 11 lb_X11_send_2 rfl) rfl
theorem dX11_send_76 : decode cX11_send 76 = .ok (.getfield 166, 3) := dx_180 (a := 0) (b := 166) (dl_at 64 12 lb_X11_send_2 rfl) (dl_at 64 13 lb_X11_send_2 rfl) (dl_at 64 14 lb_X11_send_2 rfl) rfl
theorem dX11_send_79 : decode cX11_send 79 = .ok (.getfield 192, 3) := dx_180 (a := 0) (b := 192) (dl_at 64 15 lb_X11_send_2 rfl) (dl_at 64 16 lb_X11_send_2 rfl) (dl_at 64 17 lb_X11_send_2 rfl) rfl
theorem dX11_send_82 : decode cX11_send 82 = .ok (.invokevirtual 195, 3) := dx_182 (a := 0) (b := 195) (dl_at 64 18 lb_X11_send_2 rfl) (dl_at 64 19 lb_X11_send_2 rfl) (dl_at 64 20 lb_X11_send_2 rfl) rfl
theorem dX11_send_85 : decode cX11_send 85 = .ok (.aload_n 0, 1) := dx_42 (dl_at 64 21 lb_X11_send_2 rfl)
theorem dX11_send_86 : decode cX11_send 86 = .ok (.getfield 30, 3) := dx_180 (a := 0) (b := 30) (dl_at 64 22 lb_X11_send_2 rfl) (dl_at 64 23 lb_X11_send_2 rfl) (dl_at 64 24 lb_X11_send_2 rfl) rfl
theorem dX11_send_89 : decode cX11_send 89 = .ok (.getfield 166, 3) := dx_180 (a := 0) (b := 166) (dl_at 64 25 lb_X11_send_2 rfl) (dl_at 64 26 lb_X11_send_2 rfl) (dl_at 64 27 lb_X11_send_2 rfl) rfl
theorem dX11_send_92 : decode cX11_send 92 = .ok (.iload 5, 2) := dx_21 (dl_at 64 28 lb_X11_send_2 rfl) (dl_at 64 29 lb_X11_send_2 rfl)
theorem dX11_send_94 : decode cX11_send 94 = .ok (.iconst 1, 1) := dx_4 (dl_at 64 30 lb_X11_send_2 rfl)
theorem dX11_send_95 : decode cX11_send 95 = .ok (.iadd, 1) := dx_96 (dl_at 64 31 lb_X11_send_2 rfl)
theorem dX11_send_96 : decode cX11_send 96 = .ok (.putfield 185, 3) := dx_181 (a := 0) (b := 185) (dl_at 96 0 lb_X11_send_3 rfl) (dl_at 96 1 lb_X11_send_3 rfl) (dl_at 96 2 lb_X11_send_3 rfl) rfl
theorem dX11_send_99 : decode cX11_send 99 = .ok (.iload 5, 2) := dx_21 (dl_at 96 3 lb_X11_send_3 rfl) (dl_at 96 4 lb_X11_send_3 rfl)
theorem dX11_send_101 : decode cX11_send 101 = .ok (.ireturn, 1) := dx_172 (dl_at 96 5 lb_X11_send_3 rfl)
theorem dX11_send_51 : decode cX11_send 51 = .ok (.bipush (-2), 2) := dx_16 (dl_at 32 19 lb_X11_send_1 rfl) (dl_at 32 20 lb_X11_send_1 rfl) sg8_254
theorem dX11_send_53 : decode cX11_send 53 = .ok (.ireturn, 1) := dx_172 (dl_at 32 21 lb_X11_send_1 rfl)
theorem lb_X11_sell_0 : dl_ck (cX11_sell.data.toList.drop 0) [42, 27, 42, 180, 0, 30, 28, 182, 0, 142, 154, 0, 7, 4, 167, 0, 4, 3, 182, 0, 201, 62, 29, 153, 0, 5, 29, 172, 42, 180, 0, 30] = true := by decide +kernel
theorem lb_X11_sell_1 : dl_ck (cX11_sell.data.toList.drop 32) [180, 0, 166, 180, 0, 188, 27, 50, 58, 4, 42, 180, 0, 30, 25, 4, 182, 0, 205, 28, 184, 0, 209, 154, 0, 6, 16, 252, 172, 42, 180, 0] = true := by decide +kernel
theorem lb_X11_sell_2 : dl_ck (cX11_sell.data.toList.drop 64) [44, 182, 0, 212, 153, 0, 6, 16, 254, 172, 42, 180, 0, 44, 42, 180, 0, 30, 27, 28, 182, 0, 215, 54, 5, 25, 4, 180, 0, 219, 153, 0] = true := by decide +kernel
theorem lb_X11_sell_3 : dl_ck (cX11_sell.data.toList.drop 96) [12, 21, 5, 17, 3, 232, 96, 167, 0, 5, 21, 5, 172] = true := by decide +kernel
theorem dX11_sell_0 : decode cX11_sell 0 = .ok (.aload_n 0, 1) := dx_42 (dl_at 0 0 lb_X11_sell_0 rfl)
theorem dX11_sell_1 : decode cX11_sell 1 = .ok (.iload_n 1, 1) := dx_27 (dl_at 0 1 lb_X11_sell_0 rfl)
theorem dX11_sell_2 : decode cX11_sell 2 = .ok (.aload_n 0, 1) := dx_42 (dl_at 0 2 lb_X11_sell_0 rfl)
theorem dX11_sell_3 : decode cX11_sell 3 = .ok (.getfield 30, 3) := dx_180 (a := 0) (b := 30) (dl_at 0 3 lb_X11_sell_0 rfl) (dl_at 0 4 lb_X11_sell_0 rfl) (dl_at 0 5 lb_X11_sell_0 rfl) rfl
theorem dX11_sell_6 : decode cX11_sell 6 = .ok (.iload_n 2, 1) := dx_28 (dl_at 0 6 lb_X11_sell_0 rfl)
theorem dX11_sell_7 : decode cX11_sell 7 = .ok (.invokevirtual 142, 3) := dx_182 (a := 0) (b := 142) (dl_at 0 7 lb_X11_sell_0 rfl) (dl_at 0 8 lb_X11_sell_0 rfl) (dl_at 0 9 lb_X11_sell_0 rfl) rfl
theorem dX11_sell_10 : decode cX11_sell 10 = .ok (.ifCond .ne 7, 3) := dx_154 (a := 0) (b := 7) (dl_at 0 10 lb_X11_sell_0 rfl) (dl_at 0 11 lb_X11_sell_0 rfl) (dl_at 0 12 lb_X11_sell_0 rfl) sg16_7
theorem dX11_sell_17 : decode cX11_sell 17 = .ok (.iconst 0, 1) := dx_3 (dl_at 0 17 lb_X11_sell_0 rfl)
theorem dX11_sell_18 : decode cX11_sell 18 = .ok (.invokevirtual 201, 3) := dx_182 (a := 0) (b := 201) (dl_at 0 18 lb_X11_sell_0 rfl) (dl_at 0 19 lb_X11_sell_0 rfl) (dl_at 0 20 lb_X11_sell_0 rfl) rfl
theorem dX11_sell_21 : decode cX11_sell 21 = .ok (.istore_n 3, 1) := dx_62 (dl_at 0 21 lb_X11_sell_0 rfl)
theorem dX11_sell_22 : decode cX11_sell 22 = .ok (.iload_n 3, 1) := dx_29 (dl_at 0 22 lb_X11_sell_0 rfl)
theorem dX11_sell_23 : decode cX11_sell 23 = .ok (.ifCond .eq 5, 3) := dx_153 (a := 0) (b := 5) (dl_at 0 23 lb_X11_sell_0 rfl) (dl_at 0 24 lb_X11_sell_0 rfl) (dl_at 0 25 lb_X11_sell_0 rfl) sg16_5
theorem dX11_sell_28 : decode cX11_sell 28 = .ok (.aload_n 0, 1) := dx_42 (dl_at 0 28 lb_X11_sell_0 rfl)
theorem dX11_sell_29 : decode cX11_sell 29 = .ok (.getfield 30, 3) := dx_180 (a := 0) (b := 30) (dl_at 0 29 lb_X11_sell_0 rfl) (dl_at 0 30 lb_X11_sell_0 rfl) (dl_at 0 31 lb_X11_sell_0 rfl) rfl
theorem dX11_sell_32 : decode cX11_sell 32 = .ok (.getfield 166, 3) := dx_180 (a := 0) (b := 166) (dl_at 32 0 lb_X11_sell_1 rfl) (dl_at 32 1 lb_X11_sell_1 rfl) (dl_at 32 2 lb_X11_sell_1 rfl) rfl
theorem dX11_sell_35 : decode cX11_sell 35 = .ok (.getfield 188, 3) := dx_180 (a := 0) (b := 188) (dl_at 32 3 lb_X11_sell_1 rfl) (dl_at 32 4 lb_X11_sell_1 rfl) (dl_at 32 5 lb_X11_sell_1 rfl) rfl
theorem dX11_sell_38 : decode cX11_sell 38 = .ok (.iload_n 1, 1) := dx_27 (dl_at 32 6 lb_X11_sell_1 rfl)
theorem dX11_sell_39 : decode cX11_sell 39 = .ok (.aaload, 1) := dx_50 (dl_at 32 7 lb_X11_sell_1 rfl)
theorem dX11_sell_40 : decode cX11_sell 40 = .ok (.astore 4, 2) := dx_58 (dl_at 32 8 lb_X11_sell_1 rfl) (dl_at 32 9 lb_X11_sell_1 rfl)
theorem dX11_sell_42 : decode cX11_sell 42 = .ok (.aload_n 0, 1) := dx_42 (dl_at 32 10 lb_X11_sell_1 rfl)
theorem dX11_sell_43 : decode cX11_sell 43 = .ok (.getfield 30, 3) := dx_180 (a := 0) (b := 30) (dl_at 32 11 lb_X11_sell_1 rfl) (dl_at 32 12 lb_X11_sell_1 rfl) (dl_at 32 13 lb_X11_sell_1 rfl) rfl
theorem dX11_sell_46 : decode cX11_sell 46 = .ok (.aload 4, 2) := dx_25 (dl_at 32 14 lb_X11_sell_1 rfl) (dl_at 32 15 lb_X11_sell_1 rfl)
theorem dX11_sell_48 : decode cX11_sell 48 = .ok (.invokevirtual 205, 3) := dx_182 (a := 0) (b := 205) (dl_at 32 16 lb_X11_sell_1 rfl) (dl_at 32 17 lb_X11_sell_1 rfl) (dl_at 32 18 lb_X11_sell_1 rfl) rfl
theorem dX11_sell_51 : decode cX11_sell 51 = .ok (.iload_n 2, 1) := dx_28 (dl_at 32 19 lb_X11_sell_1 rfl)
theorem dX11_sell_52 : decode cX11_sell 52 = .ok (.invokestatic 209, 3) := dx_184 (a := 0) (b := 209) (dl_at 32 20 lb_X11_sell_1 rfl) (dl_at 32 21 lb_X11_sell_1 rfl) (dl_at 32 22 lb_X11_sell_1 rfl) rfl
theorem dX11_sell_55 : decode cX11_sell 55 = .ok (.ifCond .ne 6, 3) := dx_154 (a := 0) (b := 6) (dl_at 32 23 lb_X11_sell_1 rfl) (dl_at 32 24 lb_X11_sell_1 rfl) (dl_at 32 25 lb_X11_sell_1 rfl) sg16_6
theorem dX11_sell_61 : decode cX11_sell 61 = .ok (.aload_n 0, 1) := dx_42 (dl_at 32 29 lb_X11_sell_1 rfl)
theorem dX11_sell_62 : decode cX11_sell 62 = .ok (.getfield 44, 3) := dx_180 (a := 0) (b := 44) (dl_at 32 30 lb_X11_sell_1 rfl) (dl_at 32 31 lb_X11_sell_1 rfl) (dl_at 64 0 lb_X11_sell_2 rfl) rfl
theorem dX11_sell_65 : decode cX11_sell 65 = .ok (.invokevirtual 212, 3) := dx_182 (a := 0) (b := 212) (dl_at 64 1 lb_X11_sell_2 rfl) (dl_at 64 2 lb_X11_sell_2 rfl) (dl_at 64 3 lb_X11_sell_2 rfl) rfl
theorem dX11_sell_68 : decode cX11_sell 68 = .ok (.ifCond .eq 6, 3) := dx_153 (a := 0) (b := 6) (dl_at 64 4 lb_X11_sell_2 rfl) (dl_at 64 5 lb_X11_sell_2 rfl) (dl_at 64 6 lb_X11_sell_2 rfl) sg16_6
theorem dX11_sell_71 : decode cX11_sell 71 = .ok (.bipush (-2), 2) := dx_16 (dl_at 64 7 lb_X11_sell_2 rfl) (dl_at 64 8 lb_X11_sell_2 rfl) sg8_254
theorem dX11_sell_73 : decode cX11_sell 73 = .ok (.ireturn, 1) := dx_172 (dl_at 64 9 lb_X11_sell_2 rfl)
theorem dX11_sell_74 : decode cX11_sell 74 = .ok (.aload_n 0, 1) := dx_42 (dl_at 64 10 lb_X11_sell_2 rfl)
theorem dX11_sell_75 : decode cX11_sell 75 = .ok (.getfield 44, 3) := dx_180 (a := 0) (b := 44) (dl_at 64 11 lb_X11_sell_2 rfl) (dl_at 64 12 lb_X11_sell_2 rfl) (dl_at 64 13 lb_X11_sell_2 rfl) rfl
theorem dX11_sell_78 : decode cX11_sell 78 = .ok (.aload_n 0, 1) := dx_42 (dl_at 64 14 lb_X11_sell_2 rfl)
theorem dX11_sell_79 : decode cX11_sell 79 = .ok (.getfield 30, 3) := dx_180 (a := 0) (b := 30) (dl_at 64 15 lb_X11_sell_2 rfl) (dl_at 64 16 lb_X11_sell_2 rfl) (dl_at 64 17 lb_X11_sell_2 rfl) rfl
theorem dX11_sell_82 : decode cX11_sell 82 = .ok (.iload_n 1, 1) := dx_27 (dl_at 64 18 lb_X11_sell_2 rfl)
theorem dX11_sell_83 : decode cX11_sell 83 = .ok (.iload_n 2, 1) := dx_28 (dl_at 64 19 lb_X11_sell_2 rfl)
theorem dX11_sell_84 : decode cX11_sell 84 = .ok (.invokevirtual 215, 3) := dx_182 (a := 0) (b := 215) (dl_at 64 20 lb_X11_sell_2 rfl) (dl_at 64 21 lb_X11_sell_2 rfl) (dl_at 64 22 lb_X11_sell_2 rfl) rfl
theorem dX11_sell_87 : decode cX11_sell 87 = .ok (.istore 5, 2) := dx_54 (dl_at 64 23 lb_X11_sell_2 rfl) (dl_at 64 24 lb_X11_sell_2 rfl)
theorem dX11_sell_89 : decode cX11_sell 89 = .ok (.aload 4, 2) := dx_25 (dl_at 64 25 lb_X11_sell_2 rfl) (dl_at 64 26 lb_X11_sell_2 rfl)
theorem dX11_sell_91 : decode cX11_sell 91 = .ok (.getfield 219, 3) := dx_180 (a := 0) (b := 219) (dl_at 64 27 lb_X11_sell_2 rfl) (dl_at 64 28 lb_X11_sell_2 rfl) (dl_at 64 29 lb_X11_sell_2 rfl) rfl
theorem dX11_sell_94 : decode cX11_sell 94 = .ok (.ifCond .eq 12, 3) := dx_153 (a := 0) (b := 12) (dl_at 64 30 lb_X11_sell_2 rfl) (dl_at 64 31 lb_X11_sell_2 rfl) (dl_at 96 0 lb_X11_sell_3 rfl) sg16_12
theorem dX11_sell_106 : decode cX11_sell 106 = .ok (.iload 5, 2) := dx_21 (dl_at 96 10 lb_X11_sell_3 rfl) (dl_at 96 11 lb_X11_sell_3 rfl)
theorem dX11_sell_108 : decode cX11_sell 108 = .ok (.ireturn, 1) := dx_172 (dl_at 96 12 lb_X11_sell_3 rfl)
theorem dX11_sell_97 : decode cX11_sell 97 = .ok (.iload 5, 2) := dx_21 (dl_at 96 1 lb_X11_sell_3 rfl) (dl_at 96 2 lb_X11_sell_3 rfl)
theorem dX11_sell_99 : decode cX11_sell 99 = .ok (.sipush 1000, 3) := dx_17 (a := 3) (b := 232) (dl_at 96 3 lb_X11_sell_3 rfl) (dl_at 96 4 lb_X11_sell_3 rfl) (dl_at 96 5 lb_X11_sell_3 rfl) sg16_1000
theorem dX11_sell_102 : decode cX11_sell 102 = .ok (.iadd, 1) := dx_96 (dl_at 96 6 lb_X11_sell_3 rfl)
theorem dX11_sell_103 : decode cX11_sell 103 = .ok (.goto 5, 3) := dx_167 (a := 0) (b := 5) (dl_at 96 7 lb_X11_sell_3 rfl) (dl_at 96 8 lb_X11_sell_3 rfl) (dl_at 96 9 lb_X11_sell_3 rfl) sg16_5
theorem dX11_sell_58 : decode cX11_sell 58 = .ok (.bipush (-4), 2) := dx_16 (dl_at 32 26 lb_X11_sell_1 rfl) (dl_at 32 27 lb_X11_sell_1 rfl) sg8_252
theorem dX11_sell_60 : decode cX11_sell 60 = .ok (.ireturn, 1) := dx_172 (dl_at 32 28 lb_X11_sell_1 rfl)
theorem dX11_sell_26 : decode cX11_sell 26 = .ok (.iload_n 3, 1) := dx_29 (dl_at 0 26 lb_X11_sell_0 rfl)
theorem dX11_sell_27 : decode cX11_sell 27 = .ok (.ireturn, 1) := dx_172 (dl_at 0 27 lb_X11_sell_0 rfl)
theorem dX11_sell_13 : decode cX11_sell 13 = .ok (.iconst 1, 1) := dx_4 (dl_at 0 13 lb_X11_sell_0 rfl)
theorem dX11_sell_14 : decode cX11_sell 14 = .ok (.goto 4, 3) := dx_167 (a := 0) (b := 4) (dl_at 0 14 lb_X11_sell_0 rfl) (dl_at 0 15 lb_X11_sell_0 rfl) (dl_at 0 16 lb_X11_sell_0 rfl) sg16_4
theorem lb_X11_letter_0 : dl_ck (cX11_letter.data.toList.drop 0) [42, 27, 28, 155, 0, 8, 28, 8, 161, 0, 7, 4, 167, 0, 4, 3, 182, 0, 201, 62, 29, 153, 0, 5, 29, 172, 42, 42, 180, 0, 30, 180] = true := by decide +kernel
theorem lb_X11_letter_1 : dl_ck (cX11_letter.data.toList.drop 32) [0, 166, 180, 0, 188, 27, 50, 28, 42, 180, 0, 30, 180, 0, 166, 180, 0, 192, 182, 0, 228, 181, 0, 88, 4, 172] = true := by decide +kernel
theorem dX11_letter_0 : decode cX11_letter 0 = .ok (.aload_n 0, 1) := dx_42 (dl_at 0 0 lb_X11_letter_0 rfl)
theorem dX11_letter_1 : decode cX11_letter 1 = .ok (.iload_n 1, 1) := dx_27 (dl_at 0 1 lb_X11_letter_0 rfl)
theorem dX11_letter_2 : decode cX11_letter 2 = .ok (.iload_n 2, 1) := dx_28 (dl_at 0 2 lb_X11_letter_0 rfl)
theorem dX11_letter_3 : decode cX11_letter 3 = .ok (.ifCond .lt 8, 3) := dx_155 (a := 0) (b := 8) (dl_at 0 3 lb_X11_letter_0 rfl) (dl_at 0 4 lb_X11_letter_0 rfl) (dl_at 0 5 lb_X11_letter_0 rfl) sg16_8
theorem dX11_letter_11 : decode cX11_letter 11 = .ok (.iconst 1, 1) := dx_4 (dl_at 0 11 lb_X11_letter_0 rfl)
theorem dX11_letter_12 : decode cX11_letter 12 = .ok (.goto 4, 3) := dx_167 (a := 0) (b := 4) (dl_at 0 12 lb_X11_letter_0 rfl) (dl_at 0 13 lb_X11_letter_0 rfl) (dl_at 0 14 lb_X11_letter_0 rfl) sg16_4
theorem dX11_letter_16 : decode cX11_letter 16 = .ok (.invokevirtual 201, 3) := dx_182 (a := 0) (b := 201) (dl_at 0 16 lb_X11_letter_0 rfl) (dl_at 0 17 lb_X11_letter_0 rfl) (dl_at 0 18 lb_X11_letter_0 rfl) rfl
theorem dX11_letter_19 : decode cX11_letter 19 = .ok (.istore_n 3, 1) := dx_62 (dl_at 0 19 lb_X11_letter_0 rfl)
theorem dX11_letter_20 : decode cX11_letter 20 = .ok (.iload_n 3, 1) := dx_29 (dl_at 0 20 lb_X11_letter_0 rfl)
theorem dX11_letter_21 : decode cX11_letter 21 = .ok (.ifCond .eq 5, 3) := dx_153 (a := 0) (b := 5) (dl_at 0 21 lb_X11_letter_0 rfl) (dl_at 0 22 lb_X11_letter_0 rfl) (dl_at 0 23 lb_X11_letter_0 rfl) sg16_5
theorem dX11_letter_24 : decode cX11_letter 24 = .ok (.iload_n 3, 1) := dx_29 (dl_at 0 24 lb_X11_letter_0 rfl)
theorem dX11_letter_25 : decode cX11_letter 25 = .ok (.ireturn, 1) := dx_172 (dl_at 0 25 lb_X11_letter_0 rfl)
theorem dX11_letter_6 : decode cX11_letter 6 = .ok (.iload_n 2, 1) := dx_28 (dl_at 0 6 lb_X11_letter_0 rfl)
theorem dX11_letter_7 : decode cX11_letter 7 = .ok (.iconst 5, 1) := dx_8 (dl_at 0 7 lb_X11_letter_0 rfl)
theorem dX11_letter_8 : decode cX11_letter 8 = .ok (.if_icmp .lt 7, 3) := dx_161 (a := 0) (b := 7) (dl_at 0 8 lb_X11_letter_0 rfl) (dl_at 0 9 lb_X11_letter_0 rfl) (dl_at 0 10 lb_X11_letter_0 rfl) sg16_7
theorem dX11_letter_15 : decode cX11_letter 15 = .ok (.iconst 0, 1) := dx_3 (dl_at 0 15 lb_X11_letter_0 rfl)
theorem dX11_letter_26 : decode cX11_letter 26 = .ok (.aload_n 0, 1) := dx_42 (dl_at 0 26 lb_X11_letter_0 rfl)
theorem dX11_letter_27 : decode cX11_letter 27 = .ok (.aload_n 0, 1) := dx_42 (dl_at 0 27 lb_X11_letter_0 rfl)
theorem dX11_letter_28 : decode cX11_letter 28 = .ok (.getfield 30, 3) := dx_180 (a := 0) (b := 30) (dl_at 0 28 lb_X11_letter_0 rfl) (dl_at 0 29 lb_X11_letter_0 rfl) (dl_at 0 30 lb_X11_letter_0 rfl) rfl
theorem dX11_letter_31 : decode cX11_letter 31 = .ok (.getfield 166, 3) := dx_180 (a := 0) (b := 166) (dl_at 0 31 lb_X11_letter_0 rfl) (dl_at 32 0 lb_X11_letter_1 rfl) (dl_at 32 1 lb_X11_letter_1 rfl) rfl
theorem dX11_letter_34 : decode cX11_letter 34 = .ok (.getfield 188, 3) := dx_180 (a := 0) (b := 188) (dl_at 32 2 lb_X11_letter_1 rfl) (dl_at 32 3 lb_X11_letter_1 rfl) (dl_at 32 4 lb_X11_letter_1 rfl) rfl
theorem dX11_letter_37 : decode cX11_letter 37 = .ok (.iload_n 1, 1) := dx_27 (dl_at 32 5 lb_X11_letter_1 rfl)
theorem dX11_letter_38 : decode cX11_letter 38 = .ok (.aaload, 1) := dx_50 (dl_at 32 6 lb_X11_letter_1 rfl)
theorem dX11_letter_39 : decode cX11_letter 39 = .ok (.iload_n 2, 1) := dx_28 (dl_at 32 7 lb_X11_letter_1 rfl)
theorem dX11_letter_40 : decode cX11_letter 40 = .ok (.aload_n 0, 1) := dx_42 (dl_at 32 8 lb_X11_letter_1 rfl)
theorem dX11_letter_41 : decode cX11_letter 41 = .ok (.getfield 30, 3) := dx_180 (a := 0) (b := 30) (dl_at 32 9 lb_X11_letter_1 rfl) (dl_at 32 10 lb_X11_letter_1 rfl) (dl_at 32 11 lb_X11_letter_1 rfl) rfl
theorem dX11_letter_44 : decode cX11_letter 44 = .ok (.getfield 166, 3) := dx_180 (a := 0) (b := 166) (dl_at 32 12 lb_X11_letter_1 rfl) (dl_at 32 13 lb_X11_letter_1 rfl) (dl_at 32 14 lb_X11_letter_1 rfl) rfl
theorem dX11_letter_47 : decode cX11_letter 47 = .ok (.getfield 192, 3) := dx_180 (a := 0) (b := 192) (dl_at 32 15 lb_X11_letter_1 rfl) (dl_at 32 16 lb_X11_letter_1 rfl) (dl_at 32 17 lb_X11_letter_1 rfl) rfl
theorem dX11_letter_50 : decode cX11_letter 50 = .ok (.invokevirtual 228, 3) := dx_182 (a := 0) (b := 228) (dl_at 32 18 lb_X11_letter_1 rfl) (dl_at 32 19 lb_X11_letter_1 rfl) (dl_at 32 20 lb_X11_letter_1 rfl) rfl
theorem dX11_letter_53 : decode cX11_letter 53 = .ok (.putfield 88, 3) := dx_181 (a := 0) (b := 88) (dl_at 32 21 lb_X11_letter_1 rfl) (dl_at 32 22 lb_X11_letter_1 rfl) (dl_at 32 23 lb_X11_letter_1 rfl) rfl
theorem dX11_letter_56 : decode cX11_letter 56 = .ok (.iconst 1, 1) := dx_4 (dl_at 32 24 lb_X11_letter_1 rfl)
theorem dX11_letter_57 : decode cX11_letter 57 = .ok (.ireturn, 1) := dx_172 (dl_at 32 25 lb_X11_letter_1 rfl)
theorem lb_X11_can_0 : dl_ck (cX11_can.data.toList.drop 0) [42, 27, 3, 182, 0, 201, 61, 28, 153, 0, 5, 28, 172, 42, 180, 0, 30, 42, 180, 0, 30, 180, 0, 166, 180, 0, 188, 27, 50, 182, 0, 205] = true := by decide +kernel
theorem lb_X11_can_1 : dl_ck (cX11_can.data.toList.drop 32) [172] = true := by decide +kernel
theorem dX11_can_0 : decode cX11_can 0 = .ok (.aload_n 0, 1) := dx_42 (dl_at 0 0 lb_X11_can_0 rfl)
theorem dX11_can_1 : decode cX11_can 1 = .ok (.iload_n 1, 1) := dx_27 (dl_at 0 1 lb_X11_can_0 rfl)
theorem dX11_can_2 : decode cX11_can 2 = .ok (.iconst 0, 1) := dx_3 (dl_at 0 2 lb_X11_can_0 rfl)
theorem dX11_can_3 : decode cX11_can 3 = .ok (.invokevirtual 201, 3) := dx_182 (a := 0) (b := 201) (dl_at 0 3 lb_X11_can_0 rfl) (dl_at 0 4 lb_X11_can_0 rfl) (dl_at 0 5 lb_X11_can_0 rfl) rfl
theorem dX11_can_6 : decode cX11_can 6 = .ok (.istore_n 2, 1) := dx_61 (dl_at 0 6 lb_X11_can_0 rfl)
theorem dX11_can_7 : decode cX11_can 7 = .ok (.iload_n 2, 1) := dx_28 (dl_at 0 7 lb_X11_can_0 rfl)
theorem dX11_can_8 : decode cX11_can 8 = .ok (.ifCond .eq 5, 3) := dx_153 (a := 0) (b := 5) (dl_at 0 8 lb_X11_can_0 rfl) (dl_at 0 9 lb_X11_can_0 rfl) (dl_at 0 10 lb_X11_can_0 rfl) sg16_5
theorem dX11_can_13 : decode cX11_can 13 = .ok (.aload_n 0, 1) := dx_42 (dl_at 0 13 lb_X11_can_0 rfl)
theorem dX11_can_14 : decode cX11_can 14 = .ok (.getfield 30, 3) := dx_180 (a := 0) (b := 30) (dl_at 0 14 lb_X11_can_0 rfl) (dl_at 0 15 lb_X11_can_0 rfl) (dl_at 0 16 lb_X11_can_0 rfl) rfl
theorem dX11_can_17 : decode cX11_can 17 = .ok (.aload_n 0, 1) := dx_42 (dl_at 0 17 lb_X11_can_0 rfl)
theorem dX11_can_18 : decode cX11_can 18 = .ok (.getfield 30, 3) := dx_180 (a := 0) (b := 30) (dl_at 0 18 lb_X11_can_0 rfl) (dl_at 0 19 lb_X11_can_0 rfl) (dl_at 0 20 lb_X11_can_0 rfl) rfl
theorem dX11_can_21 : decode cX11_can 21 = .ok (.getfield 166, 3) := dx_180 (a := 0) (b := 166) (dl_at 0 21 lb_X11_can_0 rfl) (dl_at 0 22 lb_X11_can_0 rfl) (dl_at 0 23 lb_X11_can_0 rfl) rfl
theorem dX11_can_24 : decode cX11_can 24 = .ok (.getfield 188, 3) := dx_180 (a := 0) (b := 188) (dl_at 0 24 lb_X11_can_0 rfl) (dl_at 0 25 lb_X11_can_0 rfl) (dl_at 0 26 lb_X11_can_0 rfl) rfl
theorem dX11_can_27 : decode cX11_can 27 = .ok (.iload_n 1, 1) := dx_27 (dl_at 0 27 lb_X11_can_0 rfl)
theorem dX11_can_28 : decode cX11_can 28 = .ok (.aaload, 1) := dx_50 (dl_at 0 28 lb_X11_can_0 rfl)
theorem dX11_can_29 : decode cX11_can 29 = .ok (.invokevirtual 205, 3) := dx_182 (a := 0) (b := 205) (dl_at 0 29 lb_X11_can_0 rfl) (dl_at 0 30 lb_X11_can_0 rfl) (dl_at 0 31 lb_X11_can_0 rfl) rfl
theorem dX11_can_32 : decode cX11_can 32 = .ok (.ireturn, 1) := dx_172 (dl_at 32 0 lb_X11_can_1 rfl)
theorem dX11_can_11 : decode cX11_can 11 = .ok (.iload_n 2, 1) := dx_28 (dl_at 0 11 lb_X11_can_0 rfl)
theorem dX11_can_12 : decode cX11_can 12 = .ok (.ireturn, 1) := dx_172 (dl_at 0 12 lb_X11_can_0 rfl)
theorem lb_X11_undo_0 : dl_ck (cX11_undo.data.toList.drop 0) [27, 155, 0, 14, 27, 42, 180, 0, 44, 180, 0, 134, 164, 0, 5, 2, 172, 42, 180, 0, 44, 180, 0, 134, 27, 100, 61, 3, 62, 29, 28, 162] = true := by decide +kernel
theorem lb_X11_undo_1 : dl_ck (cX11_undo.data.toList.drop 32) [0, 20, 42, 180, 0, 44, 42, 180, 0, 30, 182, 0, 231, 132, 3, 1, 167, 255, 237, 28, 172] = true := by decide +kernel
theorem dX11_undo_0 : decode cX11_undo 0 = .ok (.iload_n 1, 1) := dx_27 (dl_at 0 0 lb_X11_undo_0 rfl)
theorem dX11_undo_1 : decode cX11_undo 1 = .ok (.ifCond .lt 14, 3) := dx_155 (a := 0) (b := 14) (dl_at 0 1 lb_X11_undo_0 rfl) (dl_at 0 2 lb_X11_undo_0 rfl) (dl_at 0 3 lb_X11_undo_0 rfl) sg16_14
theorem dX11_undo_15 : decode cX11_undo 15 = .ok (.iconst (-1), 1) := dx_2 (dl_at 0 15 lb_X11_undo_0 rfl)
theorem dX11_undo_16 : decode cX11_undo 16 = .ok (.ireturn, 1) := dx_172 (dl_at 0 16 lb_X11_undo_0 rfl)
theorem dX11_undo_4 : decode cX11_undo 4 = .ok (.iload_n 1, 1) := dx_27 (dl_at 0 4 lb_X11_undo_0 rfl)
theorem dX11_undo_5 : decode cX11_undo 5 = .ok (.aload_n 0, 1) := dx_42 (dl_at 0 5 lb_X11_undo_0 rfl)
theorem dX11_undo_6 : decode cX11_undo 6 = .ok (.getfield 44, 3) := dx_180 (a := 0) (b := 44) (dl_at 0 6 lb_X11_undo_0 rfl) (dl_at 0 7 lb_X11_undo_0 rfl) (dl_at 0 8 lb_X11_undo_0 rfl) rfl
theorem dX11_undo_9 : decode cX11_undo 9 = .ok (.getfield 134, 3) := dx_180 (a := 0) (b := 134) (dl_at 0 9 lb_X11_undo_0 rfl) (dl_at 0 10 lb_X11_undo_0 rfl) (dl_at 0 11 lb_X11_undo_0 rfl) rfl
theorem dX11_undo_12 : decode cX11_undo 12 = .ok (.if_icmp .le 5, 3) := dx_164 (a := 0) (b := 5) (dl_at 0 12 lb_X11_undo_0 rfl) (dl_at 0 13 lb_X11_undo_0 rfl) (dl_at 0 14 lb_X11_undo_0 rfl) sg16_5
theorem dX11_undo_17 : decode cX11_undo 17 = .ok (.aload_n 0, 1) := dx_42 (dl_at 0 17 lb_X11_undo_0 rfl)
theorem dX11_undo_18 : decode cX11_undo 18 = .ok (.getfield 44, 3) := dx_180 (a := 0) (b := 44) (dl_at 0 18 lb_X11_undo_0 rfl) (dl_at 0 19 lb_X11_undo_0 rfl) (dl_at 0 20 lb_X11_undo_0 rfl) rfl
theorem dX11_undo_21 : decode cX11_undo 21 = .ok (.getfield 134, 3) := dx_180 (a := 0) (b := 134) (dl_at 0 21 lb_X11_undo_0 rfl) (dl_at 0 22 lb_X11_undo_0 rfl) (dl_at 0 23 lb_X11_undo_0 rfl) rfl
theorem dX11_undo_24 : decode cX11_undo 24 = .ok (.iload_n 1, 1) := dx_27 (dl_at 0 24 lb_X11_undo_0 rfl)
theorem dX11_undo_25 : decode cX11_undo 25 = .ok (.isub, 1) := dx_100 (dl_at 0 25 lb_X11_undo_0 rfl)
theorem dX11_undo_26 : decode cX11_undo 26 = .ok (.istore_n 2, 1) := dx_61 (dl_at 0 26 lb_X11_undo_0 rfl)
theorem dX11_undo_27 : decode cX11_undo 27 = .ok (.iconst 0, 1) := dx_3 (dl_at 0 27 lb_X11_undo_0 rfl)
theorem dX11_undo_28 : decode cX11_undo 28 = .ok (.istore_n 3, 1) := dx_62 (dl_at 0 28 lb_X11_undo_0 rfl)
theorem dX11_undo_29 : decode cX11_undo 29 = .ok (.iload_n 3, 1) := dx_29 (dl_at 0 29 lb_X11_undo_0 rfl)
theorem dX11_undo_30 : decode cX11_undo 30 = .ok (.iload_n 2, 1) := dx_28 (dl_at 0 30 lb_X11_undo_0 rfl)
theorem dX11_undo_31 : decode cX11_undo 31 = .ok (.if_icmp .ge 20, 3) := dx_162 (a := 0) (b := 20) (dl_at 0 31 lb_X11_undo_0 rfl) (dl_at 32 0 lb_X11_undo_1 rfl) (dl_at 32 1 lb_X11_undo_1 rfl) sg16_20
theorem dX11_undo_51 : decode cX11_undo 51 = .ok (.iload_n 2, 1) := dx_28 (dl_at 32 19 lb_X11_undo_1 rfl)
theorem dX11_undo_52 : decode cX11_undo 52 = .ok (.ireturn, 1) := dx_172 (dl_at 32 20 lb_X11_undo_1 rfl)
theorem dX11_undo_34 : decode cX11_undo 34 = .ok (.aload_n 0, 1) := dx_42 (dl_at 32 2 lb_X11_undo_1 rfl)
theorem dX11_undo_35 : decode cX11_undo 35 = .ok (.getfield 44, 3) := dx_180 (a := 0) (b := 44) (dl_at 32 3 lb_X11_undo_1 rfl) (dl_at 32 4 lb_X11_undo_1 rfl) (dl_at 32 5 lb_X11_undo_1 rfl) rfl
theorem dX11_undo_38 : decode cX11_undo 38 = .ok (.aload_n 0, 1) := dx_42 (dl_at 32 6 lb_X11_undo_1 rfl)
theorem dX11_undo_39 : decode cX11_undo 39 = .ok (.getfield 30, 3) := dx_180 (a := 0) (b := 30) (dl_at 32 7 lb_X11_undo_1 rfl) (dl_at 32 8 lb_X11_undo_1 rfl) (dl_at 32 9 lb_X11_undo_1 rfl) rfl
theorem dX11_undo_42 : decode cX11_undo 42 = .ok (.invokevirtual 231, 3) := dx_182 (a := 0) (b := 231) (dl_at 32 10 lb_X11_undo_1 rfl) (dl_at 32 11 lb_X11_undo_1 rfl) (dl_at 32 12 lb_X11_undo_1 rfl) rfl
theorem dX11_undo_45 : decode cX11_undo 45 = .ok (.iinc 3 1, 3) := dx_132 (dl_at 32 13 lb_X11_undo_1 rfl) (dl_at 32 14 lb_X11_undo_1 rfl) (dl_at 32 15 lb_X11_undo_1 rfl) sg8_1
theorem dX11_undo_48 : decode cX11_undo 48 = .ok (.goto (-19), 3) := dx_167 (a := 255) (b := 237) (dl_at 32 16 lb_X11_undo_1 rfl) (dl_at 32 17 lb_X11_undo_1 rfl) (dl_at 32 18 lb_X11_undo_1 rfl) sg16_65517
theorem lb_X11_keep_0 : dl_ck (cX11_keep.data.toList.drop 0) [27, 184, 0, 234, 154, 0, 5, 2, 172, 42, 180, 0, 30, 180, 0, 139, 154, 0, 6, 16, 252, 172, 42, 180, 0, 23, 27, 50, 42, 180, 0, 30] = true := by decide +kernel
theorem lb_X11_keep_1 : dl_ck (cX11_keep.data.toList.drop 32) [180, 0, 166, 182, 0, 237, 42, 180, 0, 23, 27, 50, 4, 181, 0, 135, 42, 180, 0, 30, 180, 0, 166, 180, 0, 192, 172] = true := by decide +kernel
theorem dX11_keep_0 : decode cX11_keep 0 = .ok (.iload_n 1, 1) := dx_27 (dl_at 0 0 lb_X11_keep_0 rfl)
theorem dX11_keep_1 : decode cX11_keep 1 = .ok (.invokestatic 234, 3) := dx_184 (a := 0) (b := 234) (dl_at 0 1 lb_X11_keep_0 rfl) (dl_at 0 2 lb_X11_keep_0 rfl) (dl_at 0 3 lb_X11_keep_0 rfl) rfl
theorem dX11_keep_4 : decode cX11_keep 4 = .ok (.ifCond .ne 5, 3) := dx_154 (a := 0) (b := 5) (dl_at 0 4 lb_X11_keep_0 rfl) (dl_at 0 5 lb_X11_keep_0 rfl) (dl_at 0 6 lb_X11_keep_0 rfl) sg16_5
theorem dX11_keep_9 : decode cX11_keep 9 = .ok (.aload_n 0, 1) := dx_42 (dl_at 0 9 lb_X11_keep_0 rfl)
theorem dX11_keep_10 : decode cX11_keep 10 = .ok (.getfield 30, 3) := dx_180 (a := 0) (b := 30) (dl_at 0 10 lb_X11_keep_0 rfl) (dl_at 0 11 lb_X11_keep_0 rfl) (dl_at 0 12 lb_X11_keep_0 rfl) rfl
theorem dX11_keep_13 : decode cX11_keep 13 = .ok (.getfield 139, 3) := dx_180 (a := 0) (b := 139) (dl_at 0 13 lb_X11_keep_0 rfl) (dl_at 0 14 lb_X11_keep_0 rfl) (dl_at 0 15 lb_X11_keep_0 rfl) rfl
theorem dX11_keep_16 : decode cX11_keep 16 = .ok (.ifCond .ne 6, 3) := dx_154 (a := 0) (b := 6) (dl_at 0 16 lb_X11_keep_0 rfl) (dl_at 0 17 lb_X11_keep_0 rfl) (dl_at 0 18 lb_X11_keep_0 rfl) sg16_6
theorem dX11_keep_22 : decode cX11_keep 22 = .ok (.aload_n 0, 1) := dx_42 (dl_at 0 22 lb_X11_keep_0 rfl)
theorem dX11_keep_23 : decode cX11_keep 23 = .ok (.getfield 23, 3) := dx_180 (a := 0) (b := 23) (dl_at 0 23 lb_X11_keep_0 rfl) (dl_at 0 24 lb_X11_keep_0 rfl) (dl_at 0 25 lb_X11_keep_0 rfl) rfl
theorem dX11_keep_26 : decode cX11_keep 26 = .ok (.iload_n 1, 1) := dx_27 (dl_at 0 26 lb_X11_keep_0 rfl)
theorem dX11_keep_27 : decode cX11_keep 27 = .ok (.aaload, 1) := dx_50 (dl_at 0 27 lb_X11_keep_0 rfl)
theorem dX11_keep_28 : decode cX11_keep 28 = .ok (.aload_n 0, 1) := dx_42 (dl_at 0 28 lb_X11_keep_0 rfl)
theorem dX11_keep_29 : decode cX11_keep 29 = .ok (.getfield 30, 3) := dx_180 (a := 0) (b := 30) (dl_at 0 29 lb_X11_keep_0 rfl) (dl_at 0 30 lb_X11_keep_0 rfl) (dl_at 0 31 lb_X11_keep_0 rfl) rfl
theorem dX11_keep_32 : decode cX11_keep 32 = .ok (.getfield 166, 3) := dx_180 (a := 0) (b := 166) (dl_at 32 0 lb_X11_keep_1 rfl) (dl_at 32 1 lb_X11_keep_1 rfl) (dl_at 32 2 lb_X11_keep_1 rfl) rfl
theorem dX11_keep_35 : decode cX11_keep 35 = .ok (.invokevirtual 237, 3) := dx_182 (a := 0) (b := 237) (dl_at 32 3 lb_X11_keep_1 rfl) (dl_at 32 4 lb_X11_keep_1 rfl) (dl_at 32 5 lb_X11_keep_1 rfl) rfl
theorem dX11_keep_38 : decode cX11_keep 38 = .ok (.aload_n 0, 1) := dx_42 (dl_at 32 6 lb_X11_keep_1 rfl)
theorem dX11_keep_39 : decode cX11_keep 39 = .ok (.getfield 23, 3) := dx_180 (a := 0) (b := 23) (dl_at 32 7 lb_X11_keep_1 rfl) (dl_at 32 8 lb_X11_keep_1 rfl) (dl_at 32 9 lb_X11_keep_1 rfl) rfl
theorem dX11_keep_42 : decode cX11_keep 42 = .ok (.iload_n 1, 1) := dx_27 (dl_at 32 10 lb_X11_keep_1 rfl)
theorem dX11_keep_43 : decode cX11_keep 43 = .ok (.aaload, 1) := dx_50 (dl_at 32 11 lb_X11_keep_1 rfl)
theorem dX11_keep_44 : decode cX11_keep 44 = .ok (.iconst 1, 1) := dx_4 (dl_at 32 12 lb_X11_keep_1 rfl)
theorem dX11_keep_45 : decode cX11_keep 45 = .ok (.putfield 135, 3) := dx_181 (a := 0) (b := 135) (dl_at 32 13 lb_X11_keep_1 rfl) (dl_at 32 14 lb_X11_keep_1 rfl) (dl_at 32 15 lb_X11_keep_1 rfl) rfl
theorem dX11_keep_48 : decode cX11_keep 48 = .ok (.aload_n 0, 1) := dx_42 (dl_at 32 16 lb_X11_keep_1 rfl)
theorem dX11_keep_49 : decode cX11_keep 49 = .ok (.getfield 30, 3) := dx_180 (a := 0) (b := 30) (dl_at 32 17 lb_X11_keep_1 rfl) (dl_at 32 18 lb_X11_keep_1 rfl) (dl_at 32 19 lb_X11_keep_1 rfl) rfl
theorem dX11_keep_52 : decode cX11_keep 52 = .ok (.getfield 166, 3) := dx_180 (a := 0) (b := 166) (dl_at 32 20 lb_X11_keep_1 rfl) (dl_at 32 21 lb_X11_keep_1 rfl) (dl_at 32 22 lb_X11_keep_1 rfl) rfl
theorem dX11_keep_55 : decode cX11_keep 55 = .ok (.getfield 192, 3) := dx_180 (a := 0) (b := 192) (dl_at 32 23 lb_X11_keep_1 rfl) (dl_at 32 24 lb_X11_keep_1 rfl) (dl_at 32 25 lb_X11_keep_1 rfl) rfl
theorem dX11_keep_58 : decode cX11_keep 58 = .ok (.ireturn, 1) := dx_172 (dl_at 32 26 lb_X11_keep_1 rfl)
theorem dX11_keep_19 : decode cX11_keep 19 = .ok (.bipush (-4), 2) := dx_16 (dl_at 0 19 lb_X11_keep_0 rfl) (dl_at 0 20 lb_X11_keep_0 rfl) sg8_252
theorem dX11_keep_21 : decode cX11_keep 21 = .ok (.ireturn, 1) := dx_172 (dl_at 0 21 lb_X11_keep_0 rfl)
theorem dX11_keep_7 : decode cX11_keep 7 = .ok (.iconst (-1), 1) := dx_2 (dl_at 0 7 lb_X11_keep_0 rfl)
theorem dX11_keep_8 : decode cX11_keep 8 = .ok (.ireturn, 1) := dx_172 (dl_at 0 8 lb_X11_keep_0 rfl)
theorem lb_X11_on_0 : dl_ck (cX11_on.data.toList.drop 0) [27, 184, 0, 234, 154, 0, 5, 2, 172, 42, 180, 0, 23, 27, 50, 180, 0, 135, 154, 0, 9, 42, 4, 182, 0, 73, 172, 42, 180, 0, 30, 180] = true := by decide +kernel
theorem lb_X11_on_1 : dl_ck (cX11_on.data.toList.drop 32) [0, 166, 42, 180, 0, 23, 27, 50, 182, 0, 237, 42, 180, 0, 44, 3, 181, 0, 134, 42, 180, 0, 30, 180, 0, 166, 180, 0, 192, 172] = true := by decide +kernel
theorem dX11_on_0 : decode cX11_on 0 = .ok (.iload_n 1, 1) := dx_27 (dl_at 0 0 lb_X11_on_0 rfl)
theorem dX11_on_1 : decode cX11_on 1 = .ok (.invokestatic 234, 3) := dx_184 (a := 0) (b := 234) (dl_at 0 1 lb_X11_on_0 rfl) (dl_at 0 2 lb_X11_on_0 rfl) (dl_at 0 3 lb_X11_on_0 rfl) rfl
theorem dX11_on_4 : decode cX11_on 4 = .ok (.ifCond .ne 5, 3) := dx_154 (a := 0) (b := 5) (dl_at 0 4 lb_X11_on_0 rfl) (dl_at 0 5 lb_X11_on_0 rfl) (dl_at 0 6 lb_X11_on_0 rfl) sg16_5
theorem dX11_on_9 : decode cX11_on 9 = .ok (.aload_n 0, 1) := dx_42 (dl_at 0 9 lb_X11_on_0 rfl)
theorem dX11_on_10 : decode cX11_on 10 = .ok (.getfield 23, 3) := dx_180 (a := 0) (b := 23) (dl_at 0 10 lb_X11_on_0 rfl) (dl_at 0 11 lb_X11_on_0 rfl) (dl_at 0 12 lb_X11_on_0 rfl) rfl
theorem dX11_on_13 : decode cX11_on 13 = .ok (.iload_n 1, 1) := dx_27 (dl_at 0 13 lb_X11_on_0 rfl)
theorem dX11_on_14 : decode cX11_on 14 = .ok (.aaload, 1) := dx_50 (dl_at 0 14 lb_X11_on_0 rfl)
theorem dX11_on_15 : decode cX11_on 15 = .ok (.getfield 135, 3) := dx_180 (a := 0) (b := 135) (dl_at 0 15 lb_X11_on_0 rfl) (dl_at 0 16 lb_X11_on_0 rfl) (dl_at 0 17 lb_X11_on_0 rfl) rfl
theorem dX11_on_18 : decode cX11_on 18 = .ok (.ifCond .ne 9, 3) := dx_154 (a := 0) (b := 9) (dl_at 0 18 lb_X11_on_0 rfl) (dl_at 0 19 lb_X11_on_0 rfl) (dl_at 0 20 lb_X11_on_0 rfl) sg16_9
theorem dX11_on_27 : decode cX11_on 27 = .ok (.aload_n 0, 1) := dx_42 (dl_at 0 27 lb_X11_on_0 rfl)
theorem dX11_on_28 : decode cX11_on 28 = .ok (.getfield 30, 3) := dx_180 (a := 0) (b := 30) (dl_at 0 28 lb_X11_on_0 rfl) (dl_at 0 29 lb_X11_on_0 rfl) (dl_at 0 30 lb_X11_on_0 rfl) rfl
theorem dX11_on_31 : decode cX11_on 31 = .ok (.getfield 166, 3) := dx_180 (a := 0) (b := 166) (dl_at 0 31 lb_X11_on_0 rfl) (dl_at 32 0 lb_X11_on_1 rfl) (dl_at 32 1 lb_X11_on_1 rfl) rfl
theorem dX11_on_34 : decode cX11_on 34 = .ok (.aload_n 0, 1) := dx_42 (dl_at 32 2 lb_X11_on_1 rfl)
theorem dX11_on_35 : decode cX11_on 35 = .ok (.getfield 23, 3) := dx_180 (a := 0) (b := 23) (dl_at 32 3 lb_X11_on_1 rfl) (dl_at 32 4 lb_X11_on_1 rfl) (dl_at 32 5 lb_X11_on_1 rfl) rfl
theorem dX11_on_38 : decode cX11_on 38 = .ok (.iload_n 1, 1) := dx_27 (dl_at 32 6 lb_X11_on_1 rfl)
theorem dX11_on_39 : decode cX11_on 39 = .ok (.aaload, 1) := dx_50 (dl_at 32 7 lb_X11_on_1 rfl)
theorem dX11_on_40 : decode cX11_on 40 = .ok (.invokevirtual 237, 3) := dx_182 (a := 0) (b := 237) (dl_at 32 8 lb_X11_on_1 rfl) (dl_at 32 9 lb_X11_on_1 rfl) (dl_at 32 10 lb_X11_on_1 rfl) rfl
theorem dX11_on_43 : decode cX11_on 43 = .ok (.aload_n 0, 1) := dx_42 (dl_at 32 11 lb_X11_on_1 rfl)
theorem dX11_on_44 : decode cX11_on 44 = .ok (.getfield 44, 3) := dx_180 (a := 0) (b := 44) (dl_at 32 12 lb_X11_on_1 rfl) (dl_at 32 13 lb_X11_on_1 rfl) (dl_at 32 14 lb_X11_on_1 rfl) rfl
theorem dX11_on_47 : decode cX11_on 47 = .ok (.iconst 0, 1) := dx_3 (dl_at 32 15 lb_X11_on_1 rfl)
theorem dX11_on_48 : decode cX11_on 48 = .ok (.putfield 134, 3) := dx_181 (a := 0) (b := 134) (dl_at 32 16 lb_X11_on_1 rfl) (dl_at 32 17 lb_X11_on_1 rfl) (dl_at 32 18 lb_X11_on_1 rfl) rfl
theorem dX11_on_51 : decode cX11_on 51 = .ok (.aload_n 0, 1) := dx_42 (dl_at 32 19 lb_X11_on_1 rfl)
theorem dX11_on_52 : decode cX11_on 52 = .ok (.getfield 30, 3) := dx_180 (a := 0) (b := 30) (dl_at 32 20 lb_X11_on_1 rfl) (dl_at 32 21 lb_X11_on_1 rfl) (dl_at 32 22 lb_X11_on_1 rfl) rfl
theorem dX11_on_55 : decode cX11_on 55 = .ok (.getfield 166, 3) := dx_180 (a := 0) (b := 166) (dl_at 32 23 lb_X11_on_1 rfl) (dl_at 32 24 lb_X11_on_1 rfl) (dl_at 32 25 lb_X11_on_1 rfl) rfl
theorem dX11_on_58 : decode cX11_on 58 = .ok (.getfield 192, 3) := dx_180 (a := 0) (b := 192) (dl_at 32 26 lb_X11_on_1 rfl) (dl_at 32 27 lb_X11_on_1 rfl) (dl_at 32 28 lb_X11_on_1 rfl) rfl
theorem dX11_on_61 : decode cX11_on 61 = .ok (.ireturn, 1) := dx_172 (dl_at 32 29 lb_X11_on_1 rfl)
theorem dX11_on_21 : decode cX11_on 21 = .ok (.aload_n 0, 1) := dx_42 (dl_at 0 21 lb_X11_on_0 rfl)
theorem dX11_on_22 : decode cX11_on 22 = .ok (.iconst 1, 1) := dx_4 (dl_at 0 22 lb_X11_on_0 rfl)
theorem dX11_on_23 : decode cX11_on 23 = .ok (.invokevirtual 73, 3) := dx_182 (a := 0) (b := 73) (dl_at 0 23 lb_X11_on_0 rfl) (dl_at 0 24 lb_X11_on_0 rfl) (dl_at 0 25 lb_X11_on_0 rfl) rfl
theorem dX11_on_26 : decode cX11_on 26 = .ok (.ireturn, 1) := dx_172 (dl_at 0 26 lb_X11_on_0 rfl)
theorem dX11_on_7 : decode cX11_on 7 = .ok (.iconst (-1), 1) := dx_2 (dl_at 0 7 lb_X11_on_0 rfl)
theorem dX11_on_8 : decode cX11_on 8 = .ok (.ireturn, 1) := dx_172 (dl_at 0 8 lb_X11_on_0 rfl)
theorem lb_X11_bearer_0 : dl_ck (cX11_bearer.data.toList.drop 0) [42, 180, 0, 30, 27, 182, 0, 142, 153, 0, 12, 28, 155, 0, 8, 28, 7, 161, 0, 5, 2, 172, 42, 42, 180, 0, 30, 27, 28, 182, 0, 145] = true := by decide +kernel
theorem lb_X11_bearer_1 : dl_ck (cX11_bearer.data.toList.drop 32) [181, 0, 88, 4, 172] = true := by decide +kernel
theorem dX11_bearer_0 : decode cX11_bearer 0 = .ok (.aload_n 0, 1) := dx_42 (dl_at 0 0 lb_X11_bearer_0 rfl)
theorem dX11_bearer_1 : decode cX11_bearer 1 = .ok (.getfield 30, 3) := dx_180 (a := 0) (b := 30) (dl_at 0 1 lb_X11_bearer_0 rfl) (dl_at 0 2 lb_X11_bearer_0 rfl) (dl_at 0 3 lb_X11_bearer_0 rfl) rfl
theorem dX11_bearer_4 : decode cX11_bearer 4 = .ok (.iload_n 1, 1) := dx_27 (dl_at 0 4 lb_X11_bearer_0 rfl)
theorem dX11_bearer_5 : decode cX11_bearer 5 = .ok (.invokevirtual 142, 3) := dx_182 (a := 0) (b := 142) (dl_at 0 5 lb_X11_bearer_0 rfl) (dl_at 0 6 lb_X11_bearer_0 rfl) (dl_at 0 7 lb_X11_bearer_0 rfl) rfl
theorem dX11_bearer_8 : decode cX11_bearer 8 = .ok (.ifCond .eq 12, 3) := dx_153 (a := 0) (b := 12) (dl_at 0 8 lb_X11_bearer_0 rfl) (dl_at 0 9 lb_X11_bearer_0 rfl) (dl_at 0 10 lb_X11_bearer_0 rfl) sg16_12
theorem dX11_bearer_11 : decode cX11_bearer 11 = .ok (.iload_n 2, 1) := dx_28 (dl_at 0 11 lb_X11_bearer_0 rfl)
theorem dX11_bearer_12 : decode cX11_bearer 12 = .ok (.ifCond .lt 8, 3) := dx_155 (a := 0) (b := 8) (dl_at 0 12 lb_X11_bearer_0 rfl) (dl_at 0 13 lb_X11_bearer_0 rfl) (dl_at 0 14 lb_X11_bearer_0 rfl) sg16_8
theorem dX11_bearer_20 : decode cX11_bearer 20 = .ok (.iconst (-1), 1) := dx_2 (dl_at 0 20 lb_X11_bearer_0 rfl)
theorem dX11_bearer_21 : decode cX11_bearer 21 = .ok (.ireturn, 1) := dx_172 (dl_at 0 21 lb_X11_bearer_0 rfl)
theorem dX11_bearer_15 : decode cX11_bearer 15 = .ok (.iload_n 2, 1) := dx_28 (dl_at 0 15 lb_X11_bearer_0 rfl)
theorem dX11_bearer_16 : decode cX11_bearer 16 = .ok (.iconst 4, 1) := dx_7 (dl_at 0 16 lb_X11_bearer_0 rfl)
theorem dX11_bearer_17 : decode cX11_bearer 17 = .ok (.if_icmp .lt 5, 3) := dx_161 (a := 0) (b := 5) (dl_at 0 17 lb_X11_bearer_0 rfl) (dl_at 0 18 lb_X11_bearer_0 rfl) (dl_at 0 19 lb_X11_bearer_0 rfl) sg16_5
theorem dX11_bearer_22 : decode cX11_bearer 22 = .ok (.aload_n 0, 1) := dx_42 (dl_at 0 22 lb_X11_bearer_0 rfl)
theorem dX11_bearer_23 : decode cX11_bearer 23 = .ok (.aload_n 0, 1) := dx_42 (dl_at 0 23 lb_X11_bearer_0 rfl)
theorem dX11_bearer_24 : decode cX11_bearer 24 = .ok (.getfield 30, 3) := dx_180 (a := 0) (b := 30) (dl_at 0 24 lb_X11_bearer_0 rfl) (dl_at 0 25 lb_X11_bearer_0 rfl) (dl_at 0 26 lb_X11_bearer_0 rfl) rfl
theorem dX11_bearer_27 : decode cX11_bearer 27 = .ok (.iload_n 1, 1) := dx_27 (dl_at 0 27 lb_X11_bearer_0 rfl)
theorem dX11_bearer_28 : decode cX11_bearer 28 = .ok (.iload_n 2, 1) := dx_28 (dl_at 0 28 lb_X11_bearer_0 rfl)
theorem dX11_bearer_29 : decode cX11_bearer 29 = .ok (.invokevirtual 145, 3) := dx_182 (a := 0) (b := 145) (dl_at 0 29 lb_X11_bearer_0 rfl) (dl_at 0 30 lb_X11_bearer_0 rfl) (dl_at 0 31 lb_X11_bearer_0 rfl) rfl
theorem dX11_bearer_32 : decode cX11_bearer 32 = .ok (.putfield 88, 3) := dx_181 (a := 0) (b := 88) (dl_at 32 0 lb_X11_bearer_1 rfl) (dl_at 32 1 lb_X11_bearer_1 rfl) (dl_at 32 2 lb_X11_bearer_1 rfl) rfl
theorem dX11_bearer_35 : decode cX11_bearer 35 = .ok (.iconst 1, 1) := dx_4 (dl_at 32 3 lb_X11_bearer_1 rfl)
theorem dX11_bearer_36 : decode cX11_bearer 36 = .ok (.ireturn, 1) := dx_172 (dl_at 32 4 lb_X11_bearer_1 rfl)
theorem lb_X11_mark_0 : dl_ck (cX11_mark.data.toList.drop 0) [42, 180, 0, 30, 27, 182, 0, 142, 153, 0, 12, 28, 158, 0, 8, 28, 8, 164, 0, 5, 2, 172, 42, 180, 0, 30, 180, 0, 148, 27, 46, 28] = true := by decide +kernel
theorem lb_X11_mark_1 : dl_ck (cX11_mark.data.toList.drop 32) [184, 0, 151, 154, 0, 9, 42, 6, 182, 0, 73, 172, 28, 170, 0, 0, 0, 0, 0, 84, 0, 0, 0, 1, 0, 0, 0, 4, 0, 0, 0, 31] = true := by decide +kernel
theorem lb_X11_mark_2 : dl_ck (cX11_mark.data.toList.drop 64) [0, 0, 0, 51, 0, 0, 0, 60, 0, 0, 0, 69, 42, 180, 0, 30, 180, 0, 148, 27, 46, 3, 184, 0, 154, 3, 3, 184, 0, 154, 100, 172] = true := by decide +kernel
theorem lb_X11_mark_3 : dl_ck (cX11_mark.data.toList.drop 96) [42, 180, 0, 30, 27, 182, 0, 157, 172, 42, 180, 0, 30, 27, 182, 0, 160, 172, 42, 180, 0, 30, 180, 0, 148, 27, 46, 16, 10, 184, 0, 154] = true := by decide +kernel
theorem lb_X11_mark_4 : dl_ck (cX11_mark.data.toList.drop 128) [172, 42, 180, 0, 30, 27, 182, 0, 163, 172] = true := by decide +kernel
theorem dX11_mark_0 : decode cX11_mark 0 = .ok (.aload_n 0, 1) := dx_42 (dl_at 0 0 lb_X11_mark_0 rfl)
theorem dX11_mark_1 : decode cX11_mark 1 = .ok (.getfield 30, 3) := dx_180 (a := 0) (b := 30) (dl_at 0 1 lb_X11_mark_0 rfl) (dl_at 0 2 lb_X11_mark_0 rfl) (dl_at 0 3 lb_X11_mark_0 rfl) rfl
theorem dX11_mark_4 : decode cX11_mark 4 = .ok (.iload_n 1, 1) := dx_27 (dl_at 0 4 lb_X11_mark_0 rfl)
theorem dX11_mark_5 : decode cX11_mark 5 = .ok (.invokevirtual 142, 3) := dx_182 (a := 0) (b := 142) (dl_at 0 5 lb_X11_mark_0 rfl) (dl_at 0 6 lb_X11_mark_0 rfl) (dl_at 0 7 lb_X11_mark_0 rfl) rfl
theorem dX11_mark_8 : decode cX11_mark 8 = .ok (.ifCond .eq 12, 3) := dx_153 (a := 0) (b := 12) (dl_at 0 8 lb_X11_mark_0 rfl) (dl_at 0 9 lb_X11_mark_0 rfl) (dl_at 0 10 lb_X11_mark_0 rfl) sg16_12
theorem dX11_mark_11 : decode cX11_mark 11 = .ok (.iload_n 2, 1) := dx_28 (dl_at 0 11 lb_X11_mark_0 rfl)
theorem dX11_mark_12 : decode cX11_mark 12 = .ok (.ifCond .le 8, 3) := dx_158 (a := 0) (b := 8) (dl_at 0 12 lb_X11_mark_0 rfl) (dl_at 0 13 lb_X11_mark_0 rfl) (dl_at 0 14 lb_X11_mark_0 rfl) sg16_8
theorem dX11_mark_20 : decode cX11_mark 20 = .ok (.iconst (-1), 1) := dx_2 (dl_at 0 20 lb_X11_mark_0 rfl)
theorem dX11_mark_21 : decode cX11_mark 21 = .ok (.ireturn, 1) := dx_172 (dl_at 0 21 lb_X11_mark_0 rfl)
theorem dX11_mark_15 : decode cX11_mark 15 = .ok (.iload_n 2, 1) := dx_28 (dl_at 0 15 lb_X11_mark_0 rfl)
theorem dX11_mark_16 : decode cX11_mark 16 = .ok (.iconst 5, 1) := dx_8 (dl_at 0 16 lb_X11_mark_0 rfl)
theorem dX11_mark_17 : decode cX11_mark 17 = .ok (.if_icmp .le 5, 3) := dx_164 (a := 0) (b := 5) (dl_at 0 17 lb_X11_mark_0 rfl) (dl_at 0 18 lb_X11_mark_0 rfl) (dl_at 0 19 lb_X11_mark_0 rfl) sg16_5
theorem dX11_mark_22 : decode cX11_mark 22 = .ok (.aload_n 0, 1) := dx_42 (dl_at 0 22 lb_X11_mark_0 rfl)
theorem dX11_mark_23 : decode cX11_mark 23 = .ok (.getfield 30, 3) := dx_180 (a := 0) (b := 30) (dl_at 0 23 lb_X11_mark_0 rfl) (dl_at 0 24 lb_X11_mark_0 rfl) (dl_at 0 25 lb_X11_mark_0 rfl) rfl
theorem dX11_mark_26 : decode cX11_mark 26 = .ok (.getfield 148, 3) := dx_180 (a := 0) (b := 148) (dl_at 0 26 lb_X11_mark_0 rfl) (dl_at 0 27 lb_X11_mark_0 rfl) (dl_at 0 28 lb_X11_mark_0 rfl) rfl
theorem dX11_mark_29 : decode cX11_mark 29 = .ok (.iload_n 1, 1) := dx_27 (dl_at 0 29 lb_X11_mark_0 rfl)
theorem dX11_mark_30 : decode cX11_mark 30 = .ok (.iaload, 1) := dx_46 (dl_at 0 30 lb_X11_mark_0 rfl)
theorem dX11_mark_31 : decode cX11_mark 31 = .ok (.iload_n 2, 1) := dx_28 (dl_at 0 31 lb_X11_mark_0 rfl)
theorem dX11_mark_32 : decode cX11_mark 32 = .ok (.invokestatic 151, 3) := dx_184 (a := 0) (b := 151) (dl_at 32 0 lb_X11_mark_1 rfl) (dl_at 32 1 lb_X11_mark_1 rfl) (dl_at 32 2 lb_X11_mark_1 rfl) rfl
theorem dX11_mark_35 : decode cX11_mark 35 = .ok (.ifCond .ne 9, 3) := dx_154 (a := 0) (b := 9) (dl_at 32 3 lb_X11_mark_1 rfl) (dl_at 32 4 lb_X11_mark_1 rfl) (dl_at 32 5 lb_X11_mark_1 rfl) sg16_9
theorem dX11_mark_44 : decode cX11_mark 44 = .ok (.iload_n 2, 1) := dx_28 (dl_at 32 12 lb_X11_mark_1 rfl)
theorem dX11_mark_45 : decode cX11_mark 45 = .ok (.tableswitch 84 1 4 #[31, 51, 60, 69], 31) := by decide +kernel
theorem dX11_mark_129 : decode cX11_mark 129 = .ok (.aload_n 0, 1) := dx_42 (dl_at 128 1 lb_X11_mark_4 rfl)
theorem dX11_mark_130 : decode cX11_mark 130 = .ok (.getfield 30, 3) := dx_180 (a := 0) (b := 30) (dl_at 128 2 lb_X11_mark_4 rfl) (dl_at 128 3 lb_X11_mark_4 rfl) (dl_at 128 4 lb_X11_mark_4 rfl) rfl
theorem dX11_mark_133 : decode cX11_mark 133 = .ok (.iload_n 1, 1) := dx_27 (dl_at 128 5 lb_X11_mark_4 rfl)
theorem dX11_mark_134 : decode cX11_mark 134 = .ok (.invokevirtual 163, 3) := dx_182 (a := 0) (b := 163) (dl_at 128 6 lb_X11_mark_4 rfl) (dl_at 128 7 lb_X11_mark_4 rfl) (dl_at 128 8 lb_X11_mark_4 rfl) rfl
theorem dX11_mark_137 : decode cX11_mark 137 = .ok (.ireturn, 1) := dx_172 (dl_at 128 9 lb_X11_mark_4 rfl)
theorem dX11_mark_76 : decode cX11_mark 76 = .ok (.aload_n 0, 1) := dx_42 (dl_at 64 12 lb_X11_mark_2 rfl)
theorem dX11_mark_77 : decode cX11_mark 77 = .ok (.getfield 30, 3) := dx_180 (a := 0) (b := 30) (dl_at 64 13 lb_X11_mark_2 rfl) (dl_at 64 14 lb_X11_mark_2 rfl) (dl_at 64 15 lb_X11_mark_2 rfl) rfl
theorem dX11_mark_80 : decode cX11_mark 80 = .ok (.getfield 148, 3) := dx_180 (a := 0) (b := 148) (dl_at 64 16 lb_X11_mark_2 rfl) (dl_at 64 17 lb_X11_mark_2 rfl) (dl_at 64 18 lb_X11_mark_2 rfl) rfl
theorem dX11_mark_83 : decode cX11_mark 83 = .ok (.iload_n 1, 1) := dx_27 (dl_at 64 19 lb_X11_mark_2 rfl)
theorem dX11_mark_84 : decode cX11_mark 84 = .ok (.iaload, 1) := dx_46 (dl_at 64 20 lb_X11_mark_2 rfl)
theorem dX11_mark_85 : decode cX11_mark 85 = .ok (.iconst 0, 1) := dx_3 (dl_at 64 21 lb_X11_mark_2 rfl)
theorem dX11_mark_86 : decode cX11_mark 86 = .ok (.invokestatic 154, 3) := dx_184 (a := 0) (b := 154) (dl_at 64 22 lb_X11_mark_2 rfl) (dl_at 64 23 lb_X11_mark_2 rfl) (dl_at 64 24 lb_X11_mark_2 rfl) rfl
theorem dX11_mark_89 : decode cX11_mark 89 = .ok (.iconst 0, 1) := dx_3 (dl_at 64 25 lb_X11_mark_2 rfl)
theorem dX11_mark_90 : decode cX11_mark 90 = .ok (.iconst 0, 1) := dx_3 (dl_at 64 26 lb_X11_mark_2 rfl)
theorem dX11_mark_91 : decode cX11_mark 91 = .ok (.invokestatic 154, 3) := dx_184 (a := 0) (b := 154) (dl_at 64 27 lb_X11_mark_2 rfl) (dl_at 64 28 lb_X11_mark_2 rfl) (dl_at 64 29 lb_X11_mark_2 rfl) rfl
theorem dX11_mark_94 : decode cX11_mark 94 = .ok (.isub, 1) := dx_100 (dl_at 64 30 lb_X11_mark_2 rfl)
theorem dX11_mark_95 : decode cX11_mark 95 = .ok (.ireturn, 1) := dx_172 (dl_at 64 31 lb_X11_mark_2 rfl)
theorem dX11_mark_96 : decode cX11_mark 96 = .ok (.aload_n 0, 1) := dx_42 (dl_at 96 0 lb_X11_mark_3 rfl)
theorem dX11_mark_97 : decode cX11_mark 97 = .ok (.getfield 30, 3) := dx_180 (a := 0) (b := 30) (dl_at 96 1 lb_X11_mark_3 rfl) (dl_at 96 2 lb_X11_mark_3 rfl) (dl_at 96 3 lb_X11_mark_3 rfl) rfl
theorem dX11_mark_100 : decode cX11_mark 100 = .ok (.iload_n 1, 1) := dx_27 (dl_at 96 4 lb_X11_mark_3 rfl)
theorem dX11_mark_101 : decode cX11_mark 101 = .ok (.invokevirtual 157, 3) := dx_182 (a := 0) (b := 157) (dl_at 96 5 lb_X11_mark_3 rfl) (dl_at 96 6 lb_X11_mark_3 rfl) (dl_at 96 7 lb_X11_mark_3 rfl) rfl
theorem dX11_mark_104 : decode cX11_mark 104 = .ok (.ireturn, 1) := dx_172 (dl_at 96 8 lb_X11_mark_3 rfl)
theorem dX11_mark_105 : decode cX11_mark 105 = .ok (.aload_n 0, 1) := dx_42 (dl_at 96 9 lb_X11_mark_3 rfl)
theorem dX11_mark_106 : decode cX11_mark 106 = .ok (.getfield 30, 3) := dx_180 (a := 0) (b := 30) (dl_at 96 10 lb_X11_mark_3 rfl) (dl_at 96 11 lb_X11_mark_3 rfl) (dl_at 96 12 lb_X11_mark_3 rfl) rfl
theorem dX11_mark_109 : decode cX11_mark 109 = .ok (.iload_n 1, 1) := dx_27 (dl_at 96 13 lb_X11_mark_3 rfl)
theorem dX11_mark_110 : decode cX11_mark 110 = .ok (.invokevirtual 160, 3) := dx_182 (a := 0) (b := 160) (dl_at 96 14 lb_X11_mark_3 rfl) (dl_at 96 15 lb_X11_mark_3 rfl) (dl_at 96 16 lb_X11_mark_3 rfl) rfl
theorem dX11_mark_113 : decode cX11_mark 113 = .ok (.ireturn, 1) := dx_172 (dl_at 96 17 lb_X11_mark_3 rfl)
theorem dX11_mark_114 : decode cX11_mark 114 = .ok (.aload_n 0, 1) := dx_42 (dl_at 96 18 lb_X11_mark_3 rfl)
theorem dX11_mark_115 : decode cX11_mark 115 = .ok (.getfield 30, 3) := dx_180 (a := 0) (b := 30) (dl_at 96 19 lb_X11_mark_3 rfl) (dl_at 96 20 lb_X11_mark_3 rfl) (dl_at 96 21 lb_X11_mark_3 rfl) rfl
theorem dX11_mark_118 : decode cX11_mark 118 = .ok (.getfield 148, 3) := dx_180 (a := 0) (b := 148) (dl_at 96 22 lb_X11_mark_3 rfl) (dl_at 96 23 lb_X11_mark_3 rfl) (dl_at 96 24 lb_X11_mark_3 rfl) rfl
theorem dX11_mark_121 : decode cX11_mark 121 = .ok (.iload_n 1, 1) := dx_27 (dl_at 96 25 lb_X11_mark_3 rfl)
theorem dX11_mark_122 : decode cX11_mark 122 = .ok (.iaload, 1) := dx_46 (dl_at 96 26 lb_X11_mark_3 rfl)
theorem dX11_mark_123 : decode cX11_mark 123 = .ok (.bipush 10, 2) := dx_16 (dl_at 96 27 lb_X11_mark_3 rfl) (dl_at 96 28 lb_X11_mark_3 rfl) sg8_10
theorem dX11_mark_125 : decode cX11_mark 125 = .ok (.invokestatic 154, 3) := dx_184 (a := 0) (b := 154) (dl_at 96 29 lb_X11_mark_3 rfl) (dl_at 96 30 lb_X11_mark_3 rfl) (dl_at 96 31 lb_X11_mark_3 rfl) rfl
theorem dX11_mark_128 : decode cX11_mark 128 = .ok (.ireturn, 1) := dx_172 (dl_at 128 0 lb_X11_mark_4 rfl)
theorem dX11_mark_38 : decode cX11_mark 38 = .ok (.aload_n 0, 1) := dx_42 (dl_at 32 6 lb_X11_mark_1 rfl)
theorem dX11_mark_39 : decode cX11_mark 39 = .ok (.iconst 3, 1) := dx_6 (dl_at 32 7 lb_X11_mark_1 rfl)
theorem dX11_mark_40 : decode cX11_mark 40 = .ok (.invokevirtual 73, 3) := dx_182 (a := 0) (b := 73) (dl_at 32 8 lb_X11_mark_1 rfl) (dl_at 32 9 lb_X11_mark_1 rfl) (dl_at 32 10 lb_X11_mark_1 rfl) rfl
theorem dX11_mark_43 : decode cX11_mark 43 = .ok (.ireturn, 1) := dx_172 (dl_at 32 11 lb_X11_mark_1 rfl)
theorem lb_X11_gain_0 : dl_ck (cX11_gain.data.toList.drop 0) [42, 180, 0, 30, 27, 182, 0, 142, 154, 0, 5, 2, 172, 42, 42, 180, 0, 44, 27, 182, 1, 61, 181, 0, 88, 4, 172] = true := by decide +kernel
theorem dX11_gain_0 : decode cX11_gain 0 = .ok (.aload_n 0, 1) := dx_42 (dl_at 0 0 lb_X11_gain_0 rfl)
theorem dX11_gain_1 : decode cX11_gain 1 = .ok (.getfield 30, 3) := dx_180 (a := 0) (b := 30) (dl_at 0 1 lb_X11_gain_0 rfl) (dl_at 0 2 lb_X11_gain_0 rfl) (dl_at 0 3 lb_X11_gain_0 rfl) rfl
theorem dX11_gain_4 : decode cX11_gain 4 = .ok (.iload_n 1, 1) := dx_27 (dl_at 0 4 lb_X11_gain_0 rfl)
theorem dX11_gain_5 : decode cX11_gain 5 = .ok (.invokevirtual 142, 3) := dx_182 (a := 0) (b := 142) (dl_at 0 5 lb_X11_gain_0 rfl) (dl_at 0 6 lb_X11_gain_0 rfl) (dl_at 0 7 lb_X11_gain_0 rfl) rfl
theorem dX11_gain_8 : decode cX11_gain 8 = .ok (.ifCond .ne 5, 3) := dx_154 (a := 0) (b := 5) (dl_at 0 8 lb_X11_gain_0 rfl) (dl_at 0 9 lb_X11_gain_0 rfl) (dl_at 0 10 lb_X11_gain_0 rfl) sg16_5
theorem dX11_gain_13 : decode cX11_gain 13 = .ok (.aload_n 0, 1) := dx_42 (dl_at 0 13 lb_X11_gain_0 rfl)
theorem dX11_gain_14 : decode cX11_gain 14 = .ok (.aload_n 0, 1) := dx_42 (dl_at 0 14 lb_X11_gain_0 rfl)
theorem dX11_gain_15 : decode cX11_gain 15 = .ok (.getfield 44, 3) := dx_180 (a := 0) (b := 44) (dl_at 0 15 lb_X11_gain_0 rfl) (dl_at 0 16 lb_X11_gain_0 rfl) (dl_at 0 17 lb_X11_gain_0 rfl) rfl
theorem dX11_gain_18 : decode cX11_gain 18 = .ok (.iload_n 1, 1) := dx_27 (dl_at 0 18 lb_X11_gain_0 rfl)
theorem dX11_gain_19 : decode cX11_gain 19 = .ok (.invokevirtual 317, 3) := dx_182 (a := 1) (b := 61) (dl_at 0 19 lb_X11_gain_0 rfl) (dl_at 0 20 lb_X11_gain_0 rfl) (dl_at 0 21 lb_X11_gain_0 rfl) rfl
theorem dX11_gain_22 : decode cX11_gain 22 = .ok (.putfield 88, 3) := dx_181 (a := 0) (b := 88) (dl_at 0 22 lb_X11_gain_0 rfl) (dl_at 0 23 lb_X11_gain_0 rfl) (dl_at 0 24 lb_X11_gain_0 rfl) rfl
theorem dX11_gain_25 : decode cX11_gain 25 = .ok (.iconst 1, 1) := dx_4 (dl_at 0 25 lb_X11_gain_0 rfl)
theorem dX11_gain_26 : decode cX11_gain 26 = .ok (.ireturn, 1) := dx_172 (dl_at 0 26 lb_X11_gain_0 rfl)
theorem dX11_gain_11 : decode cX11_gain 11 = .ok (.iconst (-1), 1) := dx_2 (dl_at 0 11 lb_X11_gain_0 rfl)
theorem dX11_gain_12 : decode cX11_gain 12 = .ok (.ireturn, 1) := dx_172 (dl_at 0 12 lb_X11_gain_0 rfl)
theorem lb_X11_worth_0 : dl_ck (cX11_worth.data.toList.drop 0) [42, 27, 42, 180, 0, 30, 28, 182, 0, 142, 153, 0, 13, 29, 155, 0, 9, 29, 16, 20, 164, 0, 7, 4, 167, 0, 4, 3, 182, 0, 241, 54] = true := by decide +kernel
theorem lb_X11_worth_1 : dl_ck (cX11_worth.data.toList.drop 32) [4, 21, 4, 153, 0, 6, 21, 4, 172, 42, 180, 0, 30, 42, 180, 0, 30, 180, 0, 166, 180, 0, 188, 27, 50, 28, 29, 182, 1, 43, 172] = true := by decide +kernel
theorem dX11_worth_0 : decode cX11_worth 0 = .ok (.aload_n 0, 1) := dx_42 (dl_at 0 0 lb_X11_worth_0 rfl)
theorem dX11_worth_1 : decode cX11_worth 1 = .ok (.iload_n 1, 1) := dx_27 (dl_at 0 1 lb_X11_worth_0 rfl)
theorem dX11_worth_2 : decode cX11_worth 2 = .ok (.aload_n 0, 1) := dx_42 (dl_at 0 2 lb_X11_worth_0 rfl)
theorem dX11_worth_3 : decode cX11_worth 3 = .ok (.getfield 30, 3) := dx_180 (a := 0) (b := 30) (dl_at 0 3 lb_X11_worth_0 rfl) (dl_at 0 4 lb_X11_worth_0 rfl) (dl_at 0 5 lb_X11_worth_0 rfl) rfl
theorem dX11_worth_6 : decode cX11_worth 6 = .ok (.iload_n 2, 1) := dx_28 (dl_at 0 6 lb_X11_worth_0 rfl)
theorem dX11_worth_7 : decode cX11_worth 7 = .ok (.invokevirtual 142, 3) := dx_182 (a := 0) (b := 142) (dl_at 0 7 lb_X11_worth_0 rfl) (dl_at 0 8 lb_X11_worth_0 rfl) (dl_at 0 9 lb_X11_worth_0 rfl) rfl
theorem dX11_worth_10 : decode cX11_worth 10 = .ok (.ifCond .eq 13, 3) := dx_153 (a := 0) (b := 13) (dl_at 0 10 lb_X11_worth_0 rfl) (dl_at 0 11 lb_X11_worth_0 rfl) (dl_at 0 12 lb_X11_worth_0 rfl) sg16_13
theorem dX11_worth_13 : decode cX11_worth 13 = .ok (.iload_n 3, 1) := dx_29 (dl_at 0 13 lb_X11_worth_0 rfl)
theorem dX11_worth_14 : decode cX11_worth 14 = .ok (.ifCond .lt 9, 3) := dx_155 (a := 0) (b := 9) (dl_at 0 14 lb_X11_worth_0 rfl) (dl_at 0 15 lb_X11_worth_0 rfl) (dl_at 0 16 lb_X11_worth_0 rfl) sg16_9
theorem dX11_worth_23 : decode cX11_worth 23 = .ok (.iconst 1, 1) := dx_4 (dl_at 0 23 lb_X11_worth_0 rfl)
theorem dX11_worth_24 : decode cX11_worth 24 = .ok (.goto 4, 3) := dx_167 (a := 0) (b := 4) (dl_at 0 24 lb_X11_worth_0 rfl) (dl_at 0 25 lb_X11_worth_0 rfl) (dl_at 0 26 lb_X11_worth_0 rfl) sg16_4
theorem dX11_worth_28 : decode cX11_worth 28 = .ok (.invokevirtual 241, 3) := dx_182 (a := 0) (b := 241) (dl_at 0 28 lb_X11_worth_0 rfl) (dl_at 0 29 lb_X11_worth_0 rfl) (dl_at 0 30 lb_X11_worth_0 rfl) rfl
theorem dX11_worth_31 : decode cX11_worth 31 = .ok (.istore 4, 2) := dx_54 (dl_at 0 31 lb_X11_worth_0 rfl) (dl_at 32 0 lb_X11_worth_1 rfl)
theorem dX11_worth_33 : decode cX11_worth 33 = .ok (.iload 4, 2) := dx_21 (dl_at 32 1 lb_X11_worth_1 rfl) (dl_at 32 2 lb_X11_worth_1 rfl)
theorem dX11_worth_35 : decode cX11_worth 35 = .ok (.ifCond .eq 6, 3) := dx_153 (a := 0) (b := 6) (dl_at 32 3 lb_X11_worth_1 rfl) (dl_at 32 4 lb_X11_worth_1 rfl) (dl_at 32 5 lb_X11_worth_1 rfl) sg16_6
theorem dX11_worth_38 : decode cX11_worth 38 = .ok (.iload 4, 2) := dx_21 (dl_at 32 6 lb_X11_worth_1 rfl) (dl_at 32 7 lb_X11_worth_1 rfl)
theorem dX11_worth_40 : decode cX11_worth 40 = .ok (.ireturn, 1) := dx_172 (dl_at 32 8 lb_X11_worth_1 rfl)
theorem dX11_worth_17 : decode cX11_worth 17 = .ok (.iload_n 3, 1) := dx_29 (dl_at 0 17 lb_X11_worth_0 rfl)
theorem dX11_worth_18 : decode cX11_worth 18 = .ok (.bipush 20, 2) := dx_16 (dl_at 0 18 lb_X11_worth_0 rfl) (dl_at 0 19 lb_X11_worth_0 rfl) sg8_20
theorem dX11_worth_20 : decode cX11_worth 20 = .ok (.if_icmp .le 7, 3) := dx_164 (a := 0) (b := 7) (dl_at 0 20 lb_X11_worth_0 rfl) (dl_at 0 21 lb_X11_worth_0 rfl) (dl_at 0 22 lb_X11_worth_0 rfl) sg16_7
theorem dX11_worth_27 : decode cX11_worth 27 = .ok (.iconst 0, 1) := dx_3 (dl_at 0 27 lb_X11_worth_0 rfl)
theorem dX11_worth_41 : decode cX11_worth 41 = .ok (.aload_n 0, 1) := dx_42 (dl_at 32 9 lb_X11_worth_1 rfl)
theorem dX11_worth_42 : decode cX11_worth 42 = .ok (.getfield 30, 3) := dx_180 (a := 0) (b := 30) (dl_at 32 10 lb_X11_worth_1 rfl) (dl_at 32 11 lb_X11_worth_1 rfl) (dl_at 32 12 lb_X11_worth_1 rfl) rfl
theorem dX11_worth_45 : decode cX11_worth 45 = .ok (.aload_n 0, 1) := dx_42 (dl_at 32 13 lb_X11_worth_1 rfl)
theorem dX11_worth_46 : decode cX11_worth 46 = .ok (.getfield 30, 3) := dx_180 (a := 0) (b := 30) (dl_at 32 14 lb_X11_worth_1 rfl) (dl_at 32 15 lb_X11_worth_1 rfl) (dl_at 32 16 lb_X11_worth_1 rfl) rfl
theorem dX11_worth_49 : decode cX11_worth 49 = .ok (.getfield 166, 3) := dx_180 (a := 0) (b := 166) (dl_at 32 17 lb_X11_worth_1 rfl) (dl_at 32 18 lb_X11_worth_1 rfl) (dl_at 32 19 lb_X11_worth_1 rfl) rfl
theorem dX11_worth_52 : decode cX11_worth 52 = .ok (.getfield 188, 3) := dx_180 (a := 0) (b := 188) (dl_at 32 20 lb_X11_worth_1 rfl) (dl_at 32 21 lb_X11_worth_1 rfl) (dl_at 32 22 lb_X11_worth_1 rfl) rfl
theorem dX11_worth_55 : decode cX11_worth 55 = .ok (.iload_n 1, 1) := dx_27 (dl_at 32 23 lb_X11_worth_1 rfl)
theorem dX11_worth_56 : decode cX11_worth 56 = .ok (.aaload, 1) := dx_50 (dl_at 32 24 lb_X11_worth_1 rfl)
theorem dX11_worth_57 : decode cX11_worth 57 = .ok (.iload_n 2, 1) := dx_28 (dl_at 32 25 lb_X11_worth_1 rfl)
theorem dX11_worth_58 : decode cX11_worth 58 = .ok (.iload_n 3, 1) := dx_29 (dl_at 32 26 lb_X11_worth_1 rfl)
theorem dX11_worth_59 : decode cX11_worth 59 = .ok (.invokevirtual 299, 3) := dx_182 (a := 1) (b := 43) (dl_at 32 27 lb_X11_worth_1 rfl) (dl_at 32 28 lb_X11_worth_1 rfl) (dl_at 32 29 lb_X11_worth_1 rfl) rfl
theorem dX11_worth_62 : decode cX11_worth 62 = .ok (.ireturn, 1) := dx_172 (dl_at 32 30 lb_X11_worth_1 rfl)
theorem lb_X11_bundle_0 : dl_ck (cX11_bundle.data.toList.drop 0) [42, 180, 0, 30, 27, 182, 0, 142, 154, 0, 5, 2, 172, 42, 180, 0, 30, 27, 182, 1, 47, 61, 3, 62, 3, 54, 4, 4, 54, 5, 21, 5] = true := by decide +kernel
theorem lb_X11_bundle_1 : dl_ck (cX11_bundle.data.toList.drop 32) [16, 16, 162, 0, 62, 21, 5, 184, 1, 50, 54, 6, 21, 6, 29, 164, 0, 43, 21, 5, 28, 2, 130, 126, 154, 0, 34, 42, 180, 0, 30, 21] = true := by decide +kernel
theorem lb_X11_bundle_2 : dl_ck (cX11_bundle.data.toList.drop 64) [5, 182, 1, 55, 42, 180, 0, 30, 180, 0, 166, 180, 0, 170, 27, 46, 163, 0, 10, 21, 6, 62, 21, 5, 54, 4, 132, 5, 1, 167, 255, 193] = true := by decide +kernel
theorem lb_X11_bundle_3 : dl_ck (cX11_bundle.data.toList.drop 96) [42, 21, 4, 181, 0, 88, 29, 172] = true := by decide +kernel
theorem dX11_bundle_0 : decode cX11_bundle 0 = .ok (.aload_n 0, 1) := dx_42 (dl_at 0 0 lb_X11_bundle_0 rfl)
theorem dX11_bundle_1 : decode cX11_bundle 1 = .ok (.getfield 30, 3) := dx_180 (a := 0) (b := 30) (dl_at 0 1 lb_X11_bundle_0 rfl) (dl_at 0 2 lb_X11_bundle_0 rfl) (dl_at 0 3 lb_X11_bundle_0 rfl) rfl
theorem dX11_bundle_4 : decode cX11_bundle 4 = .ok (.iload_n 1, 1) := dx_27 (dl_at 0 4 lb_X11_bundle_0 rfl)
theorem dX11_bundle_5 : decode cX11_bundle 5 = .ok (.invokevirtual 142, 3) := dx_182 (a := 0) (b := 142) (dl_at 0 5 lb_X11_bundle_0 rfl) (dl_at 0 6 lb_X11_bundle_0 rfl) (dl_at 0 7 lb_X11_bundle_0 rfl) rfl
theorem dX11_bundle_8 : decode cX11_bundle 8 = .ok (.ifCond .ne 5, 3) := dx_154 (a := 0) (b := 5) (dl_at 0 8 lb_X11_bundle_0 rfl) (dl_at 0 9 lb_X11_bundle_0 rfl) (dl_at 0 10 lb_X11_bundle_0 rfl) sg16_5
theorem dX11_bundle_13 : decode cX11_bundle 13 = .ok (.aload_n 0, 1) := dx_42 (dl_at 0 13 lb_X11_bundle_0 rfl)
theorem dX11_bundle_14 : decode cX11_bundle 14 = .ok (.getfield 30, 3) := dx_180 (a := 0) (b := 30) (dl_at 0 14 lb_X11_bundle_0 rfl) (dl_at 0 15 lb_X11_bundle_0 rfl) (dl_at 0 16 lb_X11_bundle_0 rfl) rfl
theorem dX11_bundle_17 : decode cX11_bundle 17 = .ok (.iload_n 1, 1) := dx_27 (dl_at 0 17 lb_X11_bundle_0 rfl)
theorem dX11_bundle_18 : decode cX11_bundle 18 = .ok (.invokevirtual 303, 3) := dx_182 (a := 1) (b := 47) (dl_at 0 18 lb_X11_bundle_0 rfl) (dl_at 0 19 lb_X11_bundle_0 rfl) (dl_at 0 20 lb_X11_bundle_0 rfl) rfl
theorem dX11_bundle_21 : decode cX11_bundle 21 = .ok (.istore_n 2, 1) := dx_61 (dl_at 0 21 lb_X11_bundle_0 rfl)
theorem dX11_bundle_22 : decode cX11_bundle 22 = .ok (.iconst 0, 1) := dx_3 (dl_at 0 22 lb_X11_bundle_0 rfl)
theorem dX11_bundle_23 : decode cX11_bundle 23 = .ok (.istore_n 3, 1) := dx_62 (dl_at 0 23 lb_X11_bundle_0 rfl)
theorem dX11_bundle_24 : decode cX11_bundle 24 = .ok (.iconst 0, 1) := dx_3 (dl_at 0 24 lb_X11_bundle_0 rfl)
theorem dX11_bundle_25 : decode cX11_bundle 25 = .ok (.istore 4, 2) := dx_54 (dl_at 0 25 lb_X11_bundle_0 rfl) (dl_at 0 26 lb_X11_bundle_0 rfl)
theorem dX11_bundle_27 : decode cX11_bundle 27 = .ok (.iconst 1, 1) := dx_4 (dl_at 0 27 lb_X11_bundle_0 rfl)
theorem dX11_bundle_28 : decode cX11_bundle 28 = .ok (.istore 5, 2) := dx_54 (dl_at 0 28 lb_X11_bundle_0 rfl) (dl_at 0 29 lb_X11_bundle_0 rfl)
theorem dX11_bundle_30 : decode cX11_bundle 30 = .ok (.iload 5, 2) := dx_21 (dl_at 0 30 lb_X11_bundle_0 rfl) (dl_at 0 31 lb_X11_bundle_0 rfl)
theorem dX11_bundle_32 : decode cX11_bundle 32 = .ok (.bipush 16, 2) := dx_16 (dl_at 32 0 lb_X11_bundle_1 rfl) (dl_at 32 1 lb_X11_bundle_1 rfl) sg8_16
theorem dX11_bundle_34 : decode cX11_bundle 34 = .ok (.if_icmp .ge 62, 3) := dx_162 (a := 0) (b := 62) (dl_at 32 2 lb_X11_bundle_1 rfl) (dl_at 32 3 lb_X11_bundle_1 rfl) (dl_at 32 4 lb_X11_bundle_1 rfl) sg16_62
theorem dX11_bundle_96 : decode cX11_bundle 96 = .ok (.aload_n 0, 1) := dx_42 (dl_at 96 0 lb_X11_bundle_3 rfl)
theorem dX11_bundle_97 : decode cX11_bundle 97 = .ok (.iload 4, 2) := dx_21 (dl_at 96 1 lb_X11_bundle_3 rfl) (dl_at 96 2 lb_X11_bundle_3 rfl)
theorem dX11_bundle_99 : decode cX11_bundle 99 = .ok (.putfield 88, 3) := dx_181 (a := 0) (b := 88) (dl_at 96 3 lb_X11_bundle_3 rfl) (dl_at 96 4 lb_X11_bundle_3 rfl) (dl_at 96 5 lb_X11_bundle_3 rfl) rfl
theorem dX11_bundle_102 : decode cX11_bundle 102 = .ok (.iload_n 3, 1) := dx_29 (dl_at 96 6 lb_X11_bundle_3 rfl)
theorem dX11_bundle_103 : decode cX11_bundle 103 = .ok (.ireturn, 1) := dx_172 (dl_at 96 7 lb_X11_bundle_3 rfl)
theorem dX11_bundle_37 : decode cX11_bundle 37 = .ok (.iload 5, 2) := dx_21 (dl_at 32 5 lb_X11_bundle_1 rfl) (dl_at 32 6 lb_X11_bundle_1 rfl)
theorem dX11_bundle_39 : decode cX11_bundle 39 = .ok (.invokestatic 306, 3) := dx_184 (a := 1) (b := 50) (dl_at 32 7 lb_X11_bundle_1 rfl) (dl_at 32 8 lb_X11_bundle_1 rfl) (dl_at 32 9 lb_X11_bundle_1 rfl) rfl
theorem dX11_bundle_42 : decode cX11_bundle 42 = .ok (.istore 6, 2) := dx_54 (dl_at 32 10 lb_X11_bundle_1 rfl) (dl_at 32 11 lb_X11_bundle_1 rfl)
theorem dX11_bundle_44 : decode cX11_bundle 44 = .ok (.iload 6, 2) := dx_21 (dl_at 32 12 lb_X11_bundle_1 rfl) (dl_at 32 13 lb_X11_bundle_1 rfl)
theorem dX11_bundle_46 : decode cX11_bundle 46 = .ok (.iload_n 3, 1) := dx_29 (dl_at 32 14 lb_X11_bundle_1 rfl)
theorem dX11_bundle_47 : decode cX11_bundle 47 = .ok (.if_icmp .le 43, 3) := dx_164 (a := 0) (b := 43) (dl_at 32 15 lb_X11_bundle_1 rfl) (dl_at 32 16 lb_X11_bundle_1 rfl) (dl_at 32 17 lb_X11_bundle_1 rfl) sg16_43
theorem dX11_bundle_90 : decode cX11_bundle 90 = .ok (.iinc 5 1, 3) := dx_132 (dl_at 64 26 lb_X11_bundle_2 rfl) (dl_at 64 27 lb_X11_bundle_2 rfl) (dl_at 64 28 lb_X11_bundle_2 rfl) sg8_1
theorem dX11_bundle_93 : decode cX11_bundle 93 = .ok (.goto (-63), 3) := dx_167 (a := 255) (b := 193) (dl_at 64 29 lb_X11_bundle_2 rfl) (dl_at 64 30 lb_X11_bundle_2 rfl) (dl_at 64 31 lb_X11_bundle_2 rfl) sg16_65473
theorem dX11_bundle_50 : decode cX11_bundle 50 = .ok (.iload 5, 2) := dx_21 (dl_at 32 18 lb_X11_bundle_1 rfl) (dl_at 32 19 lb_X11_bundle_1 rfl)
theorem dX11_bundle_52 : decode cX11_bundle 52 = .ok (.iload_n 2, 1) := dx_28 (dl_at 32 20 lb_X11_bundle_1 rfl)
theorem dX11_bundle_53 : decode cX11_bundle 53 = .ok (.iconst (-1), 1) := dx_2 (dl_at 32 21 lb_X11_bundle_1 rfl)
theorem dX11_bundle_54 : decode cX11_bundle 54 = .ok (.ixor, 1) := dx_130 (dl_at 32 22 lb_X11_bundle_1 rfl)
theorem dX11_bundle_55 : decode cX11_bundle 55 = .ok (.iand, 1) := dx_126 (dl_at 32 23 lb_X11_bundle_1 rfl)
theorem dX11_bundle_56 : decode cX11_bundle 56 = .ok (.ifCond .ne 34, 3) := dx_154 (a := 0) (b := 34) (dl_at 32 24 lb_X11_bundle_1 rfl) (dl_at 32 25 lb_X11_bundle_1 rfl) (dl_at 32 26 lb_X11_bundle_1 rfl) sg16_34
theorem dX11_bundle_59 : decode cX11_bundle 59 = .ok (.aload_n 0, 1) := dx_42 (dl_at 32 27 lb_X11_bundle_1 rfl)
theorem dX11_bundle_60 : decode cX11_bundle 60 = .ok (.getfield 30, 3) := dx_180 (a := 0) (b := 30) (dl_at 32 28 lb_X11_bundle_1 rfl) (dl_at 32 29 lb_X11_bundle_1 rfl) (dl_at 32 30 lb_X11_bundle_1 rfl) rfl
theorem dX11_bundle_63 : decode cX11_bundle 63 = .ok (.iload 5, 2) := dx_21 (dl_at 32 31 lb_X11_bundle_1 rfl) (dl_at 64 0 lb_X11_bundle_2 rfl)
theorem dX11_bundle_65 : decode cX11_bundle 65 = .ok (.invokevirtual 311, 3) := dx_182 (a := 1) (b := 55) (dl_at 64 1 lb_X11_bundle_2 rfl) (dl_at 64 2 lb_X11_bundle_2 rfl) (dl_at 64 3 lb_X11_bundle_2 rfl) rfl
theorem dX11_bundle_68 : decode cX11_bundle 68 = .ok (.aload_n 0, 1) := dx_42 (dl_at 64 4 lb_X11_bundle_2 rfl)
theorem dX11_bundle_69 : decode cX11_bundle 69 = .ok (.getfield 30, 3) := dx_180 (a := 0) (b := 30) (dl_at 64 5 lb_X11_bundle_2 rfl) (dl_at 64 6 lb_X11_bundle_2 rfl) (dl_at 64 7 lb_X11_bundle_2 rfl) rfl
theorem dX11_bundle_72 : decode cX11_bundle 72 = .ok (.getfield 166, 3) := dx_180 (a := 0) (b := 166) (dl_at 64 8 lb_X11_bundle_2 rfl) (dl_at 64 9 lb_X11_bundle_2 rfl) (dl_at 64 10 lb_X11_bundle_2 rfl) rfl
theorem dX11_bundle_75 : decode cX11_bundle 75 = .ok (.getfield 170, 3) := dx_180 (a := 0) (b := 170) (dl_at 64 11 lb_X11_bundle_2 rfl) (dl_at 64 12 lb_X11_bundle_2 rfl) (dl_at 64 13 lb_X11_bundle_2 rfl) rfl
theorem dX11_bundle_78 : decode cX11_bundle 78 = .ok (.iload_n 1, 1) := dx_27 (dl_at 64 14 lb_X11_bundle_2 rfl)
theorem dX11_bundle_79 : decode cX11_bundle 79 = .ok (.iaload, 1) := dx_46 (dl_at 64 15 lb_X11_bundle_2 rfl)
theorem dX11_bundle_80 : decode cX11_bundle 80 = .ok (.if_icmp .gt 10, 3) := dx_163 (a := 0) (b := 10) (dl_at 64 16 lb_X11_bundle_2 rfl) (dl_at 64 17 lb_X11_bundle_2 rfl) (dl_at 64 18 lb_X11_bundle_2 rfl) sg16_10
theorem dX11_bundle_83 : decode cX11_bundle 83 = .ok (.iload 6, 2) := dx_21 (dl_at 64 19 lb_X11_bundle_2 rfl) (dl_at 64 20 lb_X11_bundle_2 rfl)
theorem dX11_bundle_85 : decode cX11_bundle 85 = .ok (.istore_n 3, 1) := dx_62 (dl_at 64 21 lb_X11_bundle_2 rfl)
theorem dX11_bundle_86 : decode cX11_bundle 86 = .ok (.iload 5, 2) := dx_21 (dl_at 64 22 lb_X11_bundle_2 rfl) (dl_at 64 23 lb_X11_bundle_2 rfl)
theorem dX11_bundle_88 : decode cX11_bundle 88 = .ok (.istore 4, 2) := dx_54 (dl_at 64 24 lb_X11_bundle_2 rfl) (dl_at 64 25 lb_X11_bundle_2 rfl)
theorem dX11_bundle_11 : decode cX11_bundle 11 = .ok (.iconst (-1), 1) := dx_2 (dl_at 0 11 lb_X11_bundle_0 rfl)
theorem dX11_bundle_12 : decode cX11_bundle 12 = .ok (.ireturn, 1) := dx_172 (dl_at 0 12 lb_X11_bundle_0 rfl)
theorem lb_X11_upper_0 : dl_ck (cX11_upper.data.toList.drop 0) [42, 180, 0, 30, 182, 1, 89, 42, 180, 0, 30, 182, 1, 93, 184, 1, 96, 64, 31, 9, 148, 154, 0, 7, 9, 167, 0, 12, 42, 180, 0, 30] = true := by decide +kernel
theorem lb_X11_upper_1 : dl_ck (cX11_upper.data.toList.drop 32) [182, 1, 89, 31, 109, 173] = true := by decide +kernel
theorem dX11_upper_0 : decode cX11_upper 0 = .ok (.aload_n 0, 1) := dx_42 (dl_at 0 0 lb_X11_upper_0 rfl)
theorem dX11_upper_1 : decode cX11_upper 1 = .ok (.getfield 30, 3) := dx_180 (a := 0) (b := 30) (dl_at 0 1 lb_X11_upper_0 rfl) (dl_at 0 2 lb_X11_upper_0 rfl) (dl_at 0 3 lb_X11_upper_0 rfl) rfl
theorem dX11_upper_4 : decode cX11_upper 4 = .ok (.invokevirtual 345, 3) := dx_182 (a := 1) (b := 89) (dl_at 0 4 lb_X11_upper_0 rfl) (dl_at 0 5 lb_X11_upper_0 rfl) (dl_at 0 6 lb_X11_upper_0 rfl) rfl
theorem dX11_upper_7 : decode cX11_upper 7 = .ok (.aload_n 0, 1) := dx_42 (dl_at 0 7 lb_X11_upper_0 rfl)
theorem dX11_upper_8 : decode cX11_upper 8 = .ok (.getfield 30, 3) := dx_180 (a := 0) (b := 30) (dl_at 0 8 lb_X11_upper_0 rfl) (dl_at 0 9 lb_X11_upper_0 rfl) (dl_at 0 10 lb_X11_upper_0 rfl) rfl
theorem dX11_upper_11 : decode cX11_upper 11 = .ok (.invokevirtual 349, 3) := dx_182 (a := 1) (b := 93) (dl_at 0 11 lb_X11_upper_0 rfl) (dl_at 0 12 lb_X11_upper_0 rfl) (dl_at 0 13 lb_X11_upper_0 rfl) rfl
theorem dX11_upper_14 : decode cX11_upper 14 = .ok (.invokestatic 352, 3) := dx_184 (a := 1) (b := 96) (dl_at 0 14 lb_X11_upper_0 rfl) (dl_at 0 15 lb_X11_upper_0 rfl) (dl_at 0 16 lb_X11_upper_0 rfl) rfl
theorem dX11_upper_17 : decode cX11_upper 17 = .ok (.lstore_n 1, 1) := dx_64 (dl_at 0 17 lb_X11_upper_0 rfl)
theorem dX11_upper_18 : decode cX11_upper 18 = .ok (.lload_n 1, 1) := dx_31 (dl_at 0 18 lb_X11_upper_0 rfl)
theorem dX11_upper_19 : decode cX11_upper 19 = .ok (.lconst 0, 1) := dx_9 (dl_at 0 19 lb_X11_upper_0 rfl)
theorem dX11_upper_20 : decode cX11_upper 20 = .ok (.lcmp, 1) := dx_148 (dl_at 0 20 lb_X11_upper_0 rfl)
theorem dX11_upper_21 : decode cX11_upper 21 = .ok (.ifCond .ne 7, 3) := dx_154 (a := 0) (b := 7) (dl_at 0 21 lb_X11_upper_0 rfl) (dl_at 0 22 lb_X11_upper_0 rfl) (dl_at 0 23 lb_X11_upper_0 rfl) sg16_7
theorem dX11_upper_28 : decode cX11_upper 28 = .ok (.aload_n 0, 1) := dx_42 (dl_at 0 28 lb_X11_upper_0 rfl)
theorem dX11_upper_29 : decode cX11_upper 29 = .ok (.getfield 30, 3) := dx_180 (a := 0) (b := 30) (dl_at 0 29 lb_X11_upper_0 rfl) (dl_at 0 30 lb_X11_upper_0 rfl) (dl_at 0 31 lb_X11_upper_0 rfl) rfl
theorem dX11_upper_32 : decode cX11_upper 32 = .ok (.invokevirtual 345, 3) := dx_182 (a := 1) (b := 89) (dl_at 32 0 lb_X11_upper_1 rfl) (dl_at 32 1 lb_X11_upper_1 rfl) (dl_at 32 2 lb_X11_upper_1 rfl) rfl
theorem dX11_upper_35 : decode cX11_upper 35 = .ok (.lload_n 1, 1) := dx_31 (dl_at 32 3 lb_X11_upper_1 rfl)
theorem dX11_upper_36 : decode cX11_upper 36 = .ok (.ldiv, 1) := dx_109 (dl_at 32 4 lb_X11_upper_1 rfl)
theorem dX11_upper_37 : decode cX11_upper 37 = .ok (.lreturn, 1) := dx_173 (dl_at 32 5 lb_X11_upper_1 rfl)
theorem dX11_upper_24 : decode cX11_upper 24 = .ok (.lconst 0, 1) := dx_9 (dl_at 0 24 lb_X11_upper_0 rfl)
theorem dX11_upper_25 : decode cX11_upper 25 = .ok (.goto 12, 3) := dx_167 (a := 0) (b := 12) (dl_at 0 25 lb_X11_upper_0 rfl) (dl_at 0 26 lb_X11_upper_0 rfl) (dl_at 0 27 lb_X11_upper_0 rfl) sg16_12
theorem lb_X11_lower_0 : dl_ck (cX11_lower.data.toList.drop 0) [42, 180, 0, 30, 182, 1, 89, 42, 180, 0, 30, 182, 1, 93, 184, 1, 96, 64, 31, 9, 148, 154, 0, 7, 10, 167, 0, 12, 42, 180, 0, 30] = true := by decide +kernel
theorem lb_X11_lower_1 : dl_ck (cX11_lower.data.toList.drop 32) [182, 1, 93, 31, 109, 173] = true := by decide +kernel
theorem dX11_lower_0 : decode cX11_lower 0 = .ok (.aload_n 0, 1) := dx_42 (dl_at 0 0 lb_X11_lower_0 rfl)
theorem dX11_lower_1 : decode cX11_lower 1 = .ok (.getfield 30, 3) := dx_180 (a := 0) (b := 30) (dl_at 0 1 lb_X11_lower_0 rfl) (dl_at 0 2 lb_X11_lower_0 rfl) (dl_at 0 3 lb_X11_lower_0 rfl) rfl
theorem dX11_lower_4 : decode cX11_lower 4 = .ok (.invokevirtual 345, 3) := dx_182 (a := 1) (b := 89) (dl_at 0 4 lb_X11_lower_0 rfl) (dl_at 0 5 lb_X11_lower_0 rfl) (dl_at 0 6 lb_X11_lower_0 rfl) rfl
theorem dX11_lower_7 : decode cX11_lower 7 = .ok (.aload_n 0, 1) := dx_42 (dl_at 0 7 lb_X11_lower_0 rfl)
theorem dX11_lower_8 : decode cX11_lower 8 = .ok (.getfield 30, 3) := dx_180 (a := 0) (b := 30) (dl_at 0 8 lb_X11_lower_0 rfl) (dl_at 0 9 lb_X11_lower_0 rfl) (dl_at 0 10 lb_X11_lower_0 rfl) rfl
theorem dX11_lower_11 : decode cX11_lower 11 = .ok (.invokevirtual 349, 3) := dx_182 (a := 1) (b := 93) (dl_at 0 11 lb_X11_lower_0 rfl) (dl_at 0 12 lb_X11_lower_0 rfl) (dl_at 0 13 lb_X11_lower_0 rfl) rfl
theorem dX11_lower_14 : decode cX11_lower 14 = .ok (.invokestatic 352, 3) := dx_184 (a := 1) (b := 96) (dl_at 0 14 lb_X11_lower_0 rfl) (dl_at 0 15 lb_X11_lower_0 rfl) (dl_at 0 16 lb_X11_lower_0 rfl) rfl
theorem dX11_lower_17 : decode cX11_lower 17 = .ok (.lstore_n 1, 1) := dx_64 (dl_at 0 17 lb_X11_lower_0 rfl)
theorem dX11_lower_18 : decode cX11_lower 18 = .ok (.lload_n 1, 1) := dx_31 (dl_at 0 18 lb_X11_lower_0 rfl)
theorem dX11_lower_19 : decode cX11_lower 19 = .ok (.lconst 0, 1) := dx_9 (dl_at 0 19 lb_X11_lower_0 rfl)
theorem dX11_lower_20 : decode cX11_lower 20 = .ok (.lcmp, 1) := dx_148 (dl_at 0 20 lb_X11_lower_0 rfl)
theorem dX11_lower_21 : decode cX11_lower 21 = .ok (.ifCond .ne 7, 3) := dx_154 (a := 0) (b := 7) (dl_at 0 21 lb_X11_lower_0 rfl) (dl_at 0 22 lb_X11_lower_0 rfl) (dl_at 0 23 lb_X11_lower_0 rfl) sg16_7
theorem dX11_lower_28 : decode cX11_lower 28 = .ok (.aload_n 0, 1) := dx_42 (dl_at 0 28 lb_X11_lower_0 rfl)
theorem dX11_lower_29 : decode cX11_lower 29 = .ok (.getfield 30, 3) := dx_180 (a := 0) (b := 30) (dl_at 0 29 lb_X11_lower_0 rfl) (dl_at 0 30 lb_X11_lower_0 rfl) (dl_at 0 31 lb_X11_lower_0 rfl) rfl
theorem dX11_lower_32 : decode cX11_lower 32 = .ok (.invokevirtual 349, 3) := dx_182 (a := 1) (b := 93) (dl_at 32 0 lb_X11_lower_1 rfl) (dl_at 32 1 lb_X11_lower_1 rfl) (dl_at 32 2 lb_X11_lower_1 rfl) rfl
theorem dX11_lower_35 : decode cX11_lower 35 = .ok (.lload_n 1, 1) := dx_31 (dl_at 32 3 lb_X11_lower_1 rfl)
theorem dX11_lower_36 : decode cX11_lower 36 = .ok (.ldiv, 1) := dx_109 (dl_at 32 4 lb_X11_lower_1 rfl)
theorem dX11_lower_37 : decode cX11_lower 37 = .ok (.lreturn, 1) := dx_173 (dl_at 32 5 lb_X11_lower_1 rfl)
theorem dX11_lower_24 : decode cX11_lower 24 = .ok (.lconst 1, 1) := dx_10 (dl_at 0 24 lb_X11_lower_0 rfl)
theorem dX11_lower_25 : decode cX11_lower 25 = .ok (.goto 12, 3) := dx_167 (a := 0) (b := 12) (dl_at 0 25 lb_X11_lower_0 rfl) (dl_at 0 26 lb_X11_lower_0 rfl) (dl_at 0 27 lb_X11_lower_0 rfl) sg16_12
theorem lb_X11_count_0 : dl_ck (cX11_count.data.toList.drop 0) [27, 170, 0, 0, 0, 0, 0, 126, 0, 0, 0, 0, 0, 0, 0, 8, 0, 0, 0, 51, 0, 0, 0, 59, 0, 0, 0, 67, 0, 0, 0, 78] = true := by decide +kernel
theorem lb_X11_count_1 : dl_ck (cX11_count.data.toList.drop 32) [0, 0, 0, 89, 0, 0, 0, 97, 0, 0, 0, 111, 0, 0, 0, 116, 0, 0, 0, 121, 42, 180, 0, 30, 180, 0, 139, 172, 42, 180, 0, 30] = true := by decide +kernel
theorem lb_X11_count_2 : dl_ck (cX11_count.data.toList.drop 64) [180, 0, 173, 172, 42, 180, 0, 30, 180, 0, 166, 180, 0, 192, 172, 42, 180, 0, 30, 180, 0, 166, 180, 0, 185, 172, 42, 180, 0, 44, 180, 0] = true := by decide +kernel
theorem lb_X11_count_3 : dl_ck (cX11_count.data.toList.drop 96) [134, 172, 42, 180, 0, 30, 180, 0, 166, 180, 0, 176, 184, 1, 50, 172, 42, 182, 1, 100, 172, 42, 182, 1, 104, 172, 42, 182, 1, 107, 172, 2] = true := by decide +kernel
theorem lb_X11_count_4 : dl_ck (cX11_count.data.toList.drop 128) [172] = true := by decide +kernel
theorem dX11_count_0 : decode cX11_count 0 = .ok (.iload_n 1, 1) := dx_27 (dl_at 0 0 lb_X11_count_0 rfl)
theorem dX11_count_1 : decode cX11_count 1 = .ok (.tableswitch 126 0 8 #[51, 59, 67, 78, 89, 97, 111, 116, 121], 51) := by decide +kernel
theorem dX11_count_127 : decode cX11_count 127 = .ok (.iconst (-1), 1) := dx_2 (dl_at 96 31 lb_X11_count_3 rfl)
theorem dX11_count_128 : decode cX11_count 128 = .ok (.ireturn, 1) := dx_172 (dl_at 128 0 lb_X11_count_4 rfl)
theorem dX11_count_52 : decode cX11_count 52 = .ok (.aload_n 0, 1) := dx_42 (dl_at 32 20 lb_X11_count_1 rfl)
theorem dX11_count_53 : decode cX11_count 53 = .ok (.getfield 30, 3) := dx_180 (a := 0) (b := 30) (dl_at 32 21 lb_X11_count_1 rfl) (dl_at 32 22 lb_X11_count_1 rfl) (dl_at 32 23 lb_X11_count_1 rfl) rfl
theorem dX11_count_56 : decode cX11_count 56 = .ok (.getfield 139, 3) := dx_180 (a := 0) (b := 139) (dl_at 32 24 lb_X11_count_1 rfl) (dl_at 32 25 lb_X11_count_1 rfl) (dl_at 32 26 lb_X11_count_1 rfl) rfl
theorem dX11_count_59 : decode cX11_count 59 = .ok (.ireturn, 1) := dx_172 (dl_at 32 27 lb_X11_count_1 rfl)
theorem dX11_count_60 : decode cX11_count 60 = .ok (.aload_n 0, 1) := dx_42 (dl_at 32 28 lb_X11_count_1 rfl)
theorem dX11_count_61 : decode cX11_count 61 = .ok (.getfield 30, 3) := dx_180 (a := 0) (b := 30) (dl_at 32 29 lb_X11_count_1 rfl) (dl_at 32 30 lb_X11_count_1 rfl) (dl_at 32 31 lb_X11_count_1 rfl) rfl
theorem dX11_count_64 : decode cX11_count 64 = .ok (.getfield 173, 3) := dx_180 (a := 0) (b := 173) (dl_at 64 0 lb_X11_count_2 rfl) (dl_at 64 1 lb_X11_count_2 rfl) (dl_at 64 2 lb_X11_count_2 rfl) rfl
theorem dX11_count_67 : decode cX11_count 67 = .ok (.ireturn, 1) := dx_172 (dl_at 64 3 lb_X11_count_2 rfl)
theorem dX11_count_68 : decode cX11_count 68 = .ok (.aload_n 0, 1) := dx_42 (dl_at 64 4 lb_X11_count_2 rfl)
theorem dX11_count_69 : decode cX11_count 69 = .ok (.getfield 30, 3) := dx_180 (a := 0) (b := 30) (dl_at 64 5 lb_X11_count_2 rfl) (dl_at 64 6 lb_X11_count_2 rfl) (dl_at 64 7 lb_X11_count_2 rfl) rfl
theorem dX11_count_72 : decode cX11_count 72 = .ok (.getfield 166, 3) := dx_180 (a := 0) (b := 166) (dl_at 64 8 lb_X11_count_2 rfl) (dl_at 64 9 lb_X11_count_2 rfl) (dl_at 64 10 lb_X11_count_2 rfl) rfl
theorem dX11_count_75 : decode cX11_count 75 = .ok (.getfield 192, 3) := dx_180 (a := 0) (b := 192) (dl_at 64 11 lb_X11_count_2 rfl) (dl_at 64 12 lb_X11_count_2 rfl) (dl_at 64 13 lb_X11_count_2 rfl) rfl
theorem dX11_count_78 : decode cX11_count 78 = .ok (.ireturn, 1) := dx_172 (dl_at 64 14 lb_X11_count_2 rfl)
theorem dX11_count_79 : decode cX11_count 79 = .ok (.aload_n 0, 1) := dx_42 (dl_at 64 15 lb_X11_count_2 rfl)
theorem dX11_count_80 : decode cX11_count 80 = .ok (.getfield 30, 3) := dx_180 (a := 0) (b := 30) (dl_at 64 16 lb_X11_count_2 rfl) (dl_at 64 17 lb_X11_count_2 rfl) (dl_at 64 18 lb_X11_count_2 rfl) rfl
theorem dX11_count_83 : decode cX11_count 83 = .ok (.getfield 166, 3) := dx_180 (a := 0) (b := 166) (dl_at 64 19 lb_X11_count_2 rfl) (dl_at 64 20 lb_X11_count_2 rfl) (dl_at 64 21 lb_X11_count_2 rfl) rfl
theorem dX11_count_86 : decode cX11_count 86 = .ok (.getfield 185, 3) := dx_180 (a := 0) (b := 185) (dl_at 64 22 lb_X11_count_2 rfl) (dl_at 64 23 lb_X11_count_2 rfl) (dl_at 64 24 lb_X11_count_2 rfl) rfl
theorem dX11_count_89 : decode cX11_count 89 = .ok (.ireturn, 1) := dx_172 (dl_at 64 25 lb_X11_count_2 rfl)
theorem dX11_count_90 : decode cX11_count 90 = .ok (.aload_n 0, 1) := dx_42 (dl_at 64 26 lb_X11_count_2 rfl)
theorem dX11_count_91 : decode cX11_count 91 = .ok (.getfield 44, 3) := dx_180 (a := 0) (b := 44) (dl_at 64 27 lb_X11_count_2 rfl) (dl_at 64 28 lb_X11_count_2 rfl) (dl_at 64 29 lb_X11_count_2 rfl) rfl
theorem dX11_count_94 : decode cX11_count 94 = .ok (.getfield 134, 3) := dx_180 (a := 0) (b := 134) (dl_at 64 30 lb_X11_count_2 rfl) (dl_at 64 31 lb_X11_count_2 rfl) (dl_at 96 0 lb_X11_count_3 rfl) rfl
theorem dX11_count_97 : decode cX11_count 97 = .ok (.ireturn, 1) := dx_172 (dl_at 96 1 lb_X11_count_3 rfl)
theorem dX11_count_98 : decode cX11_count 98 = .ok (.aload_n 0, 1) := dx_42 (dl_at 96 2 lb_X11_count_3 rfl)
theorem dX11_count_99 : decode cX11_count 99 = .ok (.getfield 30, 3) := dx_180 (a := 0) (b := 30) (dl_at 96 3 lb_X11_count_3 rfl) (dl_at 96 4 lb_X11_count_3 rfl) (dl_at 96 5 lb_X11_count_3 rfl) rfl
theorem dX11_count_102 : decode cX11_count 102 = .ok (.getfield 166, 3) := dx_180 (a := 0) (b := 166) (dl_at 96 6 lb_X11_count_3 rfl) (dl_at 96 7 lb_X11_count_3 rfl) (dl_at 96 8 lb_X11_count_3 rfl) rfl
theorem dX11_count_105 : decode cX11_count 105 = .ok (.getfield 176, 3) := dx_180 (a := 0) (b := 176) (dl_at 96 9 lb_X11_count_3 rfl) (dl_at 96 10 lb_X11_count_3 rfl) (dl_at 96 11 lb_X11_count_3 rfl) rfl
theorem dX11_count_108 : decode cX11_count 108 = .ok (.invokestatic 306, 3) := dx_184 (a := 1) (b := 50) (dl_at 96 12 lb_X11_count_3 rfl) (dl_at 96 13 lb_X11_count_3 rfl) (dl_at 96 14 lb_X11_count_3 rfl) rfl
theorem dX11_count_111 : decode cX11_count 111 = .ok (.ireturn, 1) := dx_172 (dl_at 96 15 lb_X11_count_3 rfl)
theorem dX11_count_112 : decode cX11_count 112 = .ok (.aload_n 0, 1) := dx_42 (dl_at 96 16 lb_X11_count_3 rfl)
theorem dX11_count_113 : decode cX11_count 113 = .ok (.invokevirtual 356, 3) := dx_182 (a := 1) (b := 100) (dl_at 96 17 lb_X11_count_3 rfl) (dl_at 96 18 lb_X11_count_3 rfl) (dl_at 96 19 lb_X11_count_3 rfl) rfl
theorem dX11_count_116 : decode cX11_count 116 = .ok (.ireturn, 1) := dx_172 (dl_at 96 20 lb_X11_count_3 rfl)
theorem dX11_count_117 : decode cX11_count 117 = .ok (.aload_n 0, 1) := dx_42 (dl_at 96 21 lb_X11_count_3 rfl)
theorem dX11_count_118 : decode cX11_count 118 = .ok (.invokevirtual 360, 3) := dx_182 (a := 1) (b := 104) (dl_at 96 22 lb_X11_count_3 rfl) (dl_at 96 23 lb_X11_count_3 rfl) (dl_at 96 24 lb_X11_count_3 rfl) rfl
theorem dX11_count_121 : decode cX11_count 121 = .ok (.ireturn, 1) := dx_172 (dl_at 96 25 lb_X11_count_3 rfl)
theorem dX11_count_122 : decode cX11_count 122 = .ok (.aload_n 0, 1) := dx_42 (dl_at 96 26 lb_X11_count_3 rfl)
theorem dX11_count_123 : decode cX11_count 123 = .ok (.invokevirtual 363, 3) := dx_182 (a := 1) (b := 107) (dl_at 96 27 lb_X11_count_3 rfl) (dl_at 96 28 lb_X11_count_3 rfl) (dl_at 96 29 lb_X11_count_3 rfl) rfl
theorem dX11_count_126 : decode cX11_count 126 = .ok (.ireturn, 1) := dx_172 (dl_at 96 30 lb_X11_count_3 rfl)
theorem lb_X11_digest_0 : dl_ck (cX11_digest.data.toList.drop 0) [20, 1, 113, 64, 3, 62, 29, 16, 9, 162, 0, 22, 20, 1, 115, 31, 105, 42, 29, 182, 1, 117, 133, 97, 64, 132, 3, 1, 167, 255, 234, 42] = true := by decide +kernel
theorem lb_X11_digest_1 : dl_ck (cX11_digest.data.toList.drop 32) [180, 0, 30, 31, 182, 1, 120, 64, 3, 62, 29, 6, 162, 0, 42, 20, 1, 115, 31, 105, 42, 180, 0, 23, 29, 50, 180, 0, 135, 153, 0, 15] = true := by decide +kernel
theorem lb_X11_digest_2 : dl_ck (cX11_digest.data.toList.drop 64) [42, 180, 0, 23, 29, 50, 180, 0, 192, 167, 0, 4, 2, 133, 97, 64, 132, 3, 1, 167, 255, 215, 3, 62, 29, 16, 6, 162, 0, 20, 42, 180] = true := by decide +kernel
theorem lb_X11_digest_3 : dl_ck (cX11_digest.data.toList.drop 96) [0, 11, 29, 50, 31, 182, 1, 124, 64, 132, 3, 1, 167, 255, 236, 3, 62, 29, 7, 162, 0, 20, 42, 180, 0, 17, 29, 50, 31, 182, 1, 125] = true := by decide +kernel
theorem lb_X11_digest_4 : dl_ck (cX11_digest.data.toList.drop 128) [64, 132, 3, 1, 167, 255, 237, 31, 173] = true := by decide +kernel
theorem dX11_digest_0 : decode cX11_digest 0 = .ok (.ldc2_w 369, 3) := dx_20 (a := 1) (b := 113) (dl_at 0 0 lb_X11_digest_0 rfl) (dl_at 0 1 lb_X11_digest_0 rfl) (dl_at 0 2 lb_X11_digest_0 rfl) rfl
theorem dX11_digest_3 : decode cX11_digest 3 = .ok (.lstore_n 1, 1) := dx_64 (dl_at 0 3 lb_X11_digest_0 rfl)
theorem dX11_digest_4 : decode cX11_digest 4 = .ok (.iconst 0, 1) := dx_3 (dl_at 0 4 lb_X11_digest_0 rfl)
theorem dX11_digest_5 : decode cX11_digest 5 = .ok (.istore_n 3, 1) := dx_62 (dl_at 0 5 lb_X11_digest_0 rfl)
theorem dX11_digest_6 : decode cX11_digest 6 = .ok (.iload_n 3, 1) := dx_29 (dl_at 0 6 lb_X11_digest_0 rfl)
theorem dX11_digest_7 : decode cX11_digest 7 = .ok (.bipush 9, 2) := dx_16 (dl_at 0 7 lb_X11_digest_0 rfl) (dl_at 0 8 lb_X11_digest_0 rfl) sg8_9
theorem dX11_digest_9 : decode cX11_digest 9 = .ok (.if_icmp .ge 22, 3) := dx_162 (a := 0) (b := 22) (dl_at 0 9 lb_X11_digest_0 rfl) (dl_at 0 10 lb_X11_digest_0 rfl) (dl_at 0 11 lb_X11_digest_0 rfl) sg16_22
theorem dX11_digest_31 : decode cX11_digest 31 = .ok (.aload_n 0, 1) := dx_42 (dl_at 0 31 lb_X11_digest_0 rfl)
theorem dX11_digest_32 : decode cX11_digest 32 = .ok (.getfield 30, 3) := dx_180 (a := 0) (b := 30) (dl_at 32 0 lb_X11_digest_1 rfl) (dl_at 32 1 lb_X11_digest_1 rfl) (dl_at 32 2 lb_X11_digest_1 rfl) rfl
theorem dX11_digest_35 : decode cX11_digest 35 = .ok (.lload_n 1, 1) := dx_31 (dl_at 32 3 lb_X11_digest_1 rfl)
theorem dX11_digest_36 : decode cX11_digest 36 = .ok (.invokevirtual 376, 3) := dx_182 (a := 1) (b := 120) (dl_at 32 4 lb_X11_digest_1 rfl) (dl_at 32 5 lb_X11_digest_1 rfl) (dl_at 32 6 lb_X11_digest_1 rfl) rfl
theorem dX11_digest_39 : decode cX11_digest 39 = .ok (.lstore_n 1, 1) := dx_64 (dl_at 32 7 lb_X11_digest_1 rfl)
theorem dX11_digest_40 : decode cX11_digest 40 = .ok (.iconst 0, 1) := dx_3 (dl_at 32 8 lb_X11_digest_1 rfl)
theorem dX11_digest_41 : decode cX11_digest 41 = .ok (.istore_n 3, 1) := dx_62 (dl_at 32 9 lb_X11_digest_1 rfl)
theorem dX11_digest_42 : decode cX11_digest 42 = .ok (.iload_n 3, 1) := dx_29 (dl_at 32 10 lb_X11_digest_1 rfl)
theorem dX11_digest_43 : decode cX11_digest 43 = .ok (.iconst 3, 1) := dx_6 (dl_at 32 11 lb_X11_digest_1 rfl)
theorem dX11_digest_44 : decode cX11_digest 44 = .ok (.if_icmp .ge 42, 3) := dx_162 (a := 0) (b := 42) (dl_at 32 12 lb_X11_digest_1 rfl) (dl_at 32 13 lb_X11_digest_1 rfl) (dl_at 32 14 lb_X11_digest_1 rfl) sg16_42
theorem dX11_digest_86 : decode cX11_digest 86 = .ok (.iconst 0, 1) := dx_3 (dl_at 64 22 lb_X11_digest_2 rfl)
theorem dX11_digest_87 : decode cX11_digest 87 = .ok (.istore_n 3, 1) := dx_62 (dl_at 64 23 lb_X11_digest_2 rfl)
theorem dX11_digest_88 : decode cX11_digest 88 = .ok (.iload_n 3, 1) := dx_29 (dl_at 64 24 lb_X11_digest_2 rfl)
theorem dX11_digest_89 : decode cX11_digest 89 = .ok (.bipush 6, 2) := dx_16 (dl_at 64 25 lb_X11_digest_2 rfl) (dl_at 64 26 lb_X11_digest_2 rfl) sg8_6
theorem dX11_digest_91 : decode cX11_digest 91 = .ok (.if_icmp .ge 20, 3) := dx_162 (a := 0) (b := 20) (dl_at 64 27 lb_X11_digest_2 rfl) (dl_at 64 28 lb_X11_digest_2 rfl) (dl_at 64 29 lb_X11_digest_2 rfl) sg16_20
theorem dX11_digest_111 : decode cX11_digest 111 = .ok (.iconst 0, 1) := dx_3 (dl_at 96 15 lb_X11_digest_3 rfl)
theorem dX11_digest_112 : decode cX11_digest 112 = .ok (.istore_n 3, 1) := dx_62 (dl_at 96 16 lb_X11_digest_3 rfl)
theorem dX11_digest_113 : decode cX11_digest 113 = .ok (.iload_n 3, 1) := dx_29 (dl_at 96 17 lb_X11_digest_3 rfl)
theorem dX11_digest_114 : decode cX11_digest 114 = .ok (.iconst 4, 1) := dx_7 (dl_at 96 18 lb_X11_digest_3 rfl)
theorem dX11_digest_115 : decode cX11_digest 115 = .ok (.if_icmp .ge 20, 3) := dx_162 (a := 0) (b := 20) (dl_at 96 19 lb_X11_digest_3 rfl) (dl_at 96 20 lb_X11_digest_3 rfl) (dl_at 96 21 lb_X11_digest_3 rfl) sg16_20
theorem dX11_digest_135 : decode cX11_digest 135 = .ok (.lload_n 1, 1) := dx_31 (dl_at 128 7 lb_X11_digest_4 rfl)
theorem dX11_digest_136 : decode cX11_digest 136 = .ok (.lreturn, 1) := dx_173 (dl_at 128 8 lb_X11_digest_4 rfl)
theorem dX11_digest_118 : decode cX11_digest 118 = .ok (.aload_n 0, 1) := dx_42 (dl_at 96 22 lb_X11_digest_3 rfl)
theorem dX11_digest_119 : decode cX11_digest 119 = .ok (.getfield 17, 3) := dx_180 (a := 0) (b := 17) (dl_at 96 23 lb_X11_digest_3 rfl) (dl_at 96 24 lb_X11_digest_3 rfl) (dl_at 96 25 lb_X11_digest_3 rfl) rfl
theorem dX11_digest_122 : decode cX11_digest 122 = .ok (.iload_n 3, 1) := dx_29 (dl_at 96 26 lb_X11_digest_3 rfl)
theorem dX11_digest_123 : decode cX11_digest 123 = .ok (.aaload, 1) := dx_50 (dl_at 96 27 lb_X11_digest_3 rfl)
theorem dX11_digest_124 : decode cX11_digest 124 = .ok (.lload_n 1, 1) := dx_31 (dl_at 96 28 lb_X11_digest_3 rfl)
theorem dX11_digest_125 : decode cX11_digest 125 = .ok (.invokevirtual 381, 3) := dx_182 (a := 1) (b := 125) (dl_at 96 29 lb_X11_digest_3 rfl) (dl_at 96 30 lb_X11_digest_3 rfl) (dl_at 96 31 lb_X11_digest_3 rfl) rfl
theorem dX11_digest_128 : decode cX11_digest 128 = .ok (.lstore_n 1, 1) := dx_64 (dl_at 128 0 lb_X11_digest_4 rfl)
theorem dX11_digest_129 : decode cX11_digest 129 = .ok (.iinc 3 1, 3) := dx_132 (dl_at 128 1 lb_X11_digest_4 rfl) (dl_at 128 2 lb_X11_digest_4 rfl) (dl_at 128 3 lb_X11_digest_4 rfl) sg8_1
theorem dX11_digest_132 : decode cX11_digest 132 = .ok (.goto (-19), 3) := dx_167 (a := 255) (b := 237) (dl_at 128 4 lb_X11_digest_4 rfl) (dl_at 128 5 lb_X11_digest_4 rfl) (dl_at 128 6 lb_X11_digest_4 rfl) sg16_65517
theorem dX11_digest_94 : decode cX11_digest 94 = .ok (.aload_n 0, 1) := dx_42 (dl_at 64 30 lb_X11_digest_2 rfl)
theorem dX11_digest_95 : decode cX11_digest 95 = .ok (.getfield 11, 3) := dx_180 (a := 0) (b := 11) (dl_at 64 31 lb_X11_digest_2 rfl) (dl_at 96 0 lb_X11_digest_3 rfl) (dl_at 96 1 lb_X11_digest_3 rfl) rfl
theorem dX11_digest_98 : decode cX11_digest 98 = .ok (.iload_n 3, 1) := dx_29 (dl_at 96 2 lb_X11_digest_3 rfl)
theorem dX11_digest_99 : decode cX11_digest 99 = .ok (.aaload, 1) := dx_50 (dl_at 96 3 lb_X11_digest_3 rfl)
theorem dX11_digest_100 : decode cX11_digest 100 = .ok (.lload_n 1, 1) := dx_31 (dl_at 96 4 lb_X11_digest_3 rfl)
theorem dX11_digest_101 : decode cX11_digest 101 = .ok (.invokevirtual 380, 3) := dx_182 (a := 1) (b := 124) (dl_at 96 5 lb_X11_digest_3 rfl) (dl_at 96 6 lb_X11_digest_3 rfl) (dl_at 96 7 lb_X11_digest_3 rfl) rfl
theorem dX11_digest_104 : decode cX11_digest 104 = .ok (.lstore_n 1, 1) := dx_64 (dl_at 96 8 lb_X11_digest_3 rfl)
theorem dX11_digest_105 : decode cX11_digest 105 = .ok (.iinc 3 1, 3) := dx_132 (dl_at 96 9 lb_X11_digest_3 rfl) (dl_at 96 10 lb_X11_digest_3 rfl) (dl_at 96 11 lb_X11_digest_3 rfl) sg8_1
theorem dX11_digest_108 : decode cX11_digest 108 = .ok (.goto (-20), 3) := dx_167 (a := 255) (b := 236) (dl_at 96 12 lb_X11_digest_3 rfl) (dl_at 96 13 lb_X11_digest_3 rfl) (dl_at 96 14 lb_X11_digest_3 rfl) sg16_65516
theorem dX11_digest_47 : decode cX11_digest 47 = .ok (.ldc2_w 371, 3) := dx_20 (a := 1) (b := 115) (dl_at 32 15 lb_X11_digest_1 rfl) (dl_at 32 16 lb_X11_digest_1 rfl) (dl_at 32 17 lb_X11_digest_1 rfl) rfl
theorem dX11_digest_50 : decode cX11_digest 50 = .ok (.lload_n 1, 1) := dx_31 (dl_at 32 18 lb_X11_digest_1 rfl)
theorem dX11_digest_51 : decode cX11_digest 51 = .ok (.lmul, 1) := dx_105 (dl_at 32 19 lb_X11_digest_1 rfl)
theorem dX11_digest_52 : decode cX11_digest 52 = .ok (.aload_n 0, 1) := dx_42 (dl_at 32 20 lb_X11_digest_1 rfl)
theorem dX11_digest_53 : decode cX11_digest 53 = .ok (.getfield 23, 3) := dx_180 (a := 0) (b := 23) (dl_at 32 21 lb_X11_digest_1 rfl) (dl_at 32 22 lb_X11_digest_1 rfl) (dl_at 32 23 lb_X11_digest_1 rfl) rfl
theorem dX11_digest_56 : decode cX11_digest 56 = .ok (.iload_n 3, 1) := dx_29 (dl_at 32 24 lb_X11_digest_1 rfl)
theorem dX11_digest_57 : decode cX11_digest 57 = .ok (.aaload, 1) := dx_50 (dl_at 32 25 lb_X11_digest_1 rfl)
theorem dX11_digest_58 : decode cX11_digest 58 = .ok (.getfield 135, 3) := dx_180 (a := 0) (b := 135) (dl_at 32 26 lb_X11_digest_1 rfl) (dl_at 32 27 lb_X11_digest_1 rfl) (dl_at 32 28 lb_X11_digest_1 rfl) rfl
theorem dX11_digest_61 : decode cX11_digest 61 = .ok (.ifCond .eq 15, 3) := dx_153 (a := 0) (b := 15) (dl_at 32 29 lb_X11_digest_1 rfl) (dl_at 32 30 lb_X11_digest_1 rfl) (dl_at 32 31 lb_X11_digest_1 rfl) sg16_15
theorem dX11_digest_76 : decode cX11_digest 76 = .ok (.iconst (-1), 1) := dx_2 (dl_at 64 12 lb_X11_digest_2 rfl)
theorem dX11_digest_77 : decode cX11_digest 77 = .ok (.i2l, 1) := dx_133 (dl_at 64 13 lb_X11_digest_2 rfl)
theorem dX11_digest_78 : decode cX11_digest 78 = .ok (.ladd, 1) := dx_97 (dl_at 64 14 lb_X11_digest_2 rfl)
theorem dX11_digest_79 : decode cX11_digest 79 = .ok (.lstore_n 1, 1) := dx_64 (dl_at 64 15 lb_X11_digest_2 rfl)
theorem dX11_digest_80 : decode cX11_digest 80 = .ok (.iinc 3 1, 3) := dx_132 (dl_at 64 16 lb_X11_digest_2 rfl) (dl_at 64 17 lb_X11_digest_2 rfl) (dl_at 64 18 lb_X11_digest_2 rfl) sg8_1
theorem dX11_digest_83 : decode cX11_digest 83 = .ok (.goto (-41), 3) := dx_167 (a := 255) (b := 215) (dl_at 64 19 lb_X11_digest_2 rfl) (dl_at 64 20 lb_X11_digest_2 rfl) (dl_at 64 21 lb_X11_digest_2 rfl) sg16_65495
theorem dX11_digest_64 : decode cX11_digest 64 = .ok (.aload_n 0, 1) := dx_42 (dl_at 64 0 lb_X11_digest_2 rfl)
theorem dX11_digest_65 : decode cX11_digest 65 = .ok (.getfield 23, 3) := dx_180 (a := 0) (b := 23) (dl_at 64 1 lb_X11_digest_2 rfl) (dl_at 64 2 lb_X11_digest_2 rfl) (dl_at 64 3 lb_X11_digest_2 rfl) rfl
theorem dX11_digest_68 : decode cX11_digest 68 = .ok (.iload_n 3, 1) := dx_29 (dl_at 64 4 lb_X11_digest_2 rfl)
theorem dX11_digest_69 : decode cX11_digest 69 = .ok (.aaload, 1) := dx_50 (dl_at 64 5 lb_X11_digest_2 rfl)
theorem dX11_digest_70 : decode cX11_digest 70 = .ok (.getfield 192, 3) := dx_180 (a := 0) (b := 192) (dl_at 64 6 lb_X11_digest_2 rfl) (dl_at 64 7 lb_X11_digest_2 rfl) (dl_at 64 8 lb_X11_digest_2 rfl) rfl
theorem dX11_digest_73 : decode cX11_digest 73 = .ok (.goto 4, 3) := dx_167 (a := 0) (b := 4) (dl_at 64 9 lb_X11_digest_2 rfl) (dl_at 64 10 lb_X11_digest_2 rfl) (dl_at 64 11 lb_X11_digest_2 rfl) sg16_4
theorem dX11_digest_12 : decode cX11_digest 12 = .ok (.ldc2_w 371, 3) := dx_20 (a := 1) (b := 115) (dl_at 0 12 lb_X11_digest_0 rfl) (dl_at 0 13 lb_X11_digest_0 rfl) (dl_at 0 14 lb_X11_digest_0 rfl) rfl
theorem dX11_digest_15 : decode cX11_digest 15 = .ok (.lload_n 1, 1) := dx_31 (dl_at 0 15 lb_X11_digest_0 rfl)
theorem dX11_digest_16 : decode cX11_digest 16 = .ok (.lmul, 1) := dx_105 (dl_at 0 16 lb_X11_digest_0 rfl)
theorem dX11_digest_17 : decode cX11_digest 17 = .ok (.aload_n 0, 1) := dx_42 (dl_at 0 17 lb_X11_digest_0 rfl)
theorem dX11_digest_18 : decode cX11_digest 18 = .ok (.iload_n 3, 1) := dx_29 (dl_at 0 18 lb_X11_digest_0 rfl)
theorem dX11_digest_19 : decode cX11_digest 19 = .ok (.invokevirtual 373, 3) := dx_182 (a := 1) (b := 117) (dl_at 0 19 lb_X11_digest_0 rfl) (dl_at 0 20 lb_X11_digest_0 rfl) (dl_at 0 21 lb_X11_digest_0 rfl) rfl
theorem dX11_digest_22 : decode cX11_digest 22 = .ok (.i2l, 1) := dx_133 (dl_at 0 22 lb_X11_digest_0 rfl)
theorem dX11_digest_23 : decode cX11_digest 23 = .ok (.ladd, 1) := dx_97 (dl_at 0 23 lb_X11_digest_0 rfl)
theorem dX11_digest_24 : decode cX11_digest 24 = .ok (.lstore_n 1, 1) := dx_64 (dl_at 0 24 lb_X11_digest_0 rfl)
theorem dX11_digest_25 : decode cX11_digest 25 = .ok (.iinc 3 1, 3) := dx_132 (dl_at 0 25 lb_X11_digest_0 rfl) (dl_at 0 26 lb_X11_digest_0 rfl) (dl_at 0 27 lb_X11_digest_0 rfl) sg8_1
theorem dX11_digest_28 : decode cX11_digest 28 = .ok (.goto (-22), 3) := dx_167 (a := 255) (b := 234) (dl_at 0 28 lb_X11_digest_0 rfl) (dl_at 0 29 lb_X11_digest_0 rfl) (dl_at 0 30 lb_X11_digest_0 rfl) sg16_65514
theorem lb_X11_luck_0 : dl_ck (cX11_luck.data.toList.drop 0) [27, 4, 161, 0, 23, 27, 16, 40, 163, 0, 17, 28, 4, 161, 0, 12, 28, 133, 20, 1, 82, 148, 155, 0, 5, 2, 172, 42, 180, 0, 30, 180] = true := by decide +kernel
theorem lb_X11_luck_1 : dl_ck (cX11_luck.data.toList.drop 32) [0, 139, 154, 0, 6, 16, 252, 172, 42, 180, 0, 30, 180, 0, 166, 180, 0, 192, 27, 96, 16, 99, 164, 0, 6, 16, 254, 172, 28, 133, 66, 3] = true := by decide +kernel
theorem lb_X11_luck_2 : dl_ck (cX11_luck.data.toList.drop 64) [54, 5, 3, 54, 6, 21, 6, 27, 162, 0, 163, 3, 54, 7, 21, 7, 42, 180, 0, 30, 180, 0, 166, 180, 0, 185, 162, 0, 123, 42, 180, 0] = true := by decide +kernel
theorem lb_X11_luck_3 : dl_ck (cX11_luck.data.toList.drop 96) [30, 42, 180, 0, 30, 180, 0, 166, 180, 0, 188, 21, 7, 50, 182, 0, 205, 54, 8, 21, 8, 184, 1, 50, 54, 9, 21, 9, 154, 0, 6, 167] = true := by decide +kernel
theorem lb_X11_luck_4 : dl_ck (cX11_luck.data.toList.drop 128) [0, 80, 42, 180, 0, 44, 182, 0, 212, 153, 0, 6, 21, 5, 172, 33, 20, 1, 84, 105, 20, 1, 82, 113, 66, 42, 180, 0, 44, 42, 180, 0] = true := by decide +kernel
theorem lb_X11_luck_5 : dl_ck (cX11_luck.data.toList.drop 160) [30, 21, 7, 21, 8, 33, 21, 9, 133, 113, 136, 184, 1, 86, 182, 0, 215, 87, 21, 5, 42, 180, 0, 30, 180, 0, 166, 180, 0, 188, 21, 7] = true := by decide +kernel
theorem lb_X11_luck_6 : dl_ck (cX11_luck.data.toList.drop 192) [50, 180, 0, 219, 153, 0, 7, 4, 167, 0, 4, 3, 96, 54, 5, 132, 7, 1, 167, 255, 124, 42, 180, 0, 30, 180, 0, 166, 89, 180, 0, 192] = true := by decide +kernel
theorem lb_X11_luck_7 : dl_ck (cX11_luck.data.toList.drop 224) [4, 96, 181, 0, 192, 132, 6, 1, 167, 255, 93, 21, 5, 172] = true := by decide +kernel
theorem dX11_luck_0 : decode cX11_luck 0 = .ok (.iload_n 1, 1) := dx_27 (dl_at 0 0 lb_X11_luck_0 rfl)
theorem dX11_luck_1 : decode cX11_luck 1 = .ok (.iconst 1, 1) := dx_4 (dl_at 0 1 lb_X11_luck_0 rfl)
theorem dX11_luck_2 : decode cX11_luck 2 = .ok (.if_icmp .lt 23, 3) := dx_161 (a := 0) (b := 23) (dl_at 0 2 lb_X11_luck_0 rfl) (dl_at 0 3 lb_X11_luck_0 rfl) (dl_at 0 4 lb_X11_luck_0 rfl) sg16_23
theorem dX11_luck_25 : decode cX11_luck 25 = .ok (.iconst (-1), 1) := dx_2 (dl_at 0 25 lb_X11_luck_0 rfl)
theorem dX11_luck_26 : decode cX11_luck 26 = .ok (.ireturn, 1) := dx_172 (dl_at 0 26 lb_X11_luck_0 rfl)
theorem dX11_luck_5 : decode cX11_luck 5 = .ok (.iload_n 1, 1) := dx_27 (dl_at 0 5 lb_X11_luck_0 rfl)
theorem dX11_luck_6 : decode cX11_luck 6 = .ok (.bipush 40, 2) := dx_16 (dl_at 0 6 lb_X11_luck_0 rfl) (dl_at 0 7 lb_X11_luck_0 rfl) sg8_40
theorem dX11_luck_8 : decode cX11_luck 8 = .ok (.if_icmp .gt 17, 3) := dx_163 (a := 0) (b := 17) (dl_at 0 8 lb_X11_luck_0 rfl) (dl_at 0 9 lb_X11_luck_0 rfl) (dl_at 0 10 lb_X11_luck_0 rfl) sg16_17
theorem dX11_luck_11 : decode cX11_luck 11 = .ok (.iload_n 2, 1) := dx_28 (dl_at 0 11 lb_X11_luck_0 rfl)
theorem dX11_luck_12 : decode cX11_luck 12 = .ok (.iconst 1, 1) := dx_4 (dl_at 0 12 lb_X11_luck_0 rfl)
theorem dX11_luck_13 : decode cX11_luck 13 = .ok (.if_icmp .lt 12, 3) := dx_161 (a := 0) (b := 12) (dl_at 0 13 lb_X11_luck_0 rfl) (dl_at 0 14 lb_X11_luck_0 rfl) (dl_at 0 15 lb_X11_luck_0 rfl) sg16_12
theorem dX11_luck_16 : decode cX11_luck 16 = .ok (.iload_n 2, 1) := dx_28 (dl_at 0 16 lb_X11_luck_0 rfl)
theorem dX11_luck_17 : decode cX11_luck 17 = .ok (.i2l, 1) := dx_133 (dl_at 0 17 lb_X11_luck_0 rfl)
theorem dX11_luck_18 : decode cX11_luck 18 = .ok (.ldc2_w 338, 3) := dx_20 (a := 1) (b := 82) (dl_at 0 18 lb_X11_luck_0 rfl) (dl_at 0 19 lb_X11_luck_0 rfl) (dl_at 0 20 lb_X11_luck_0 rfl) rfl
theorem dX11_luck_21 : decode cX11_luck 21 = .ok (.lcmp, 1) := dx_148 (dl_at 0 21 lb_X11_luck_0 rfl)
theorem dX11_luck_22 : decode cX11_luck 22 = .ok (.ifCond .lt 5, 3) := dx_155 (a := 0) (b := 5) (dl_at 0 22 lb_X11_luck_0 rfl) (dl_at 0 23 lb_X11_luck_0 rfl) (dl_at 0 24 lb_X11_luck_0 rfl) sg16_5
theorem dX11_luck_27 : decode cX11_luck 27 = .ok (.aload_n 0, 1) := dx_42 (dl_at 0 27 lb_X11_luck_0 rfl)
theorem dX11_luck_28 : decode cX11_luck 28 = .ok (.getfield 30, 3) := dx_180 (a := 0) (b := 30) (dl_at 0 28 lb_X11_luck_0 rfl) (dl_at 0 29 lb_X11_luck_0 rfl) (dl_at 0 30 lb_X11_luck_0 rfl) rfl
theorem dX11_luck_31 : decode cX11_luck 31 = .ok (.getfield 139, 3) := dx_180 (a := 0) (b := 139) (dl_at 0 31 lb_X11_luck_0 rfl) (dl_at 32 0 lb_X11_luck_1 rfl) (dl_at 32 1 lb_X11_luck_1 rfl) rfl
theorem dX11_luck_34 : decode cX11_luck 34 = .ok (.ifCond .ne 6, 3) := dx_154 (a := 0) (b := 6) (dl_at 32 2 lb_X11_luck_1 rfl) (dl_at 32 3 lb_X11_luck_1 rfl) (dl_at 32 4 lb_X11_luck_1 rfl) sg16_6
theorem dX11_luck_40 : decode cX11_luck 40 = .ok (.aload_n 0, 1) := dx_42 (dl_at 32 8 lb_X11_luck_1 rfl)
theorem dX11_luck_41 : decode cX11_luck 41 = .ok (.getfield 30, 3) := dx_180 (a := 0) (b := 30) (dl_at 32 9 lb_X11_luck_1 rfl) (dl_at 32 10 lb_X11_luck_1 rfl) (dl_at 32 11 lb_X11_luck_1 rfl) rfl
theorem dX11_luck_44 : decode cX11_luck 44 = .ok (.getfield 166, 3) := dx_180 (a := 0) (b := 166) (dl_at 32 12 lb_X11_luck_1 rfl) (dl_at 32 13 lb_X11_luck_1 rfl) (dl_at 32 14 lb_X11_luck_1 rfl) rfl
theorem dX11_luck_47 : decode cX11_luck 47 = .ok (.getfield 192, 3) := dx_180 (a := 0) (b := 192) (dl_at 32 15 lb_X11_luck_1 rfl) (dl_at 32 16 lb_X11_luck_1 rfl) (dl_at 32 17 lb_X11_luck_1 rfl) rfl
theorem dX11_luck_50 : decode cX11_luck 50 = .ok (.iload_n 1, 1) := dx_27 (dl_at 32 18 lb_X11_luck_1 rfl)
theorem dX11_luck_51 : decode cX11_luck 51 = .ok (.iadd, 1) := dx_96 (dl_at 32 19 lb_X11_luck_1 rfl)
theorem dX11_luck_52 : decode cX11_luck 52 = .ok (.bipush 99, 2) := dx_16 (dl_at 32 20 lb_X11_luck_1 rfl) (dl_at 32 21 lb_X11_luck_1 rfl) sg8_99
theorem dX11_luck_54 : decode cX11_luck 54 = .ok (.if_icmp .le 6, 3) := dx_164 (a := 0) (b := 6) (dl_at 32 22 lb_X11_luck_1 rfl) (dl_at 32 23 lb_X11_luck_1 rfl) (dl_at 32 24 lb_X11_luck_1 rfl) sg16_6
theorem dX11_luck_60 : decode cX11_luck 60 = .ok (.iload_n 2, 1) := dx_28 (dl_at 32 28 lb_X11_luck_1 rfl)
theorem dX11_luck_61 : decode cX11_luck 61 = .ok (.i2l, 1) := dx_133 (dl_at 32 29 lb_X11_luck_1 rfl)
theorem dX11_luck_62 : decode cX11_luck 62 = .ok (.lstore_n 3, 1) := dx_66 (dl_at 32 30 lb_X11_luck_1 rfl)
theorem dX11_luck_63 : decode cX11_luck 63 = .ok (.iconst 0, 1) := dx_3 (dl_at 32 31 lb_X11_luck_1 rfl)
theorem dX11_luck_64 : decode cX11_luck 64 = .ok (.istore 5, 2) := dx_54 (dl_at 64 0 lb_X11_luck_2 rfl) (dl_at 64 1 lb_X11_luck_2 rfl)
theorem dX11_luck_66 : decode cX11_luck 66 = .ok (.iconst 0, 1) := dx_3 (dl_at 64 2 lb_X11_luck_2 rfl)
theorem dX11_luck_67 : decode cX11_luck 67 = .ok (.istore 6, 2) := dx_54 (dl_at 64 3 lb_X11_luck_2 rfl) (dl_at 64 4 lb_X11_luck_2 rfl)
theorem dX11_luck_69 : decode cX11_luck 69 = .ok (.iload 6, 2) := dx_21 (dl_at 64 5 lb_X11_luck_2 rfl) (dl_at 64 6 lb_X11_luck_2 rfl)
theorem dX11_luck_71 : decode cX11_luck 71 = .ok (.iload_n 1, 1) := dx_27 (dl_at 64 7 lb_X11_luck_2 rfl)
theorem dX11_luck_72 : decode cX11_luck 72 = .ok (.if_icmp .ge 163, 3) := dx_162 (a := 0) (b := 163) (dl_at 64 8 lb_X11_luck_2 rfl) (dl_at 64 9 lb_X11_luck_2 rfl) (dl_at 64 10 lb_X11_luck_2 rfl) sg16_163
theorem dX11_luck_235 : decode cX11_luck 235 = .ok (.iload 5, 2) := dx_21 (dl_at 224 11 lb_X11_luck_7 rfl) (dl_at 224 12 lb_X11_luck_7 rfl)
theorem dX11_luck_237 : decode cX11_luck 237 = .ok (.ireturn, 1) := dx_172 (dl_at 224 13 lb_X11_luck_7 rfl)
theorem dX11_luck_75 : decode cX11_luck 75 = .ok (.iconst 0, 1) := dx_3 (dl_at 64 11 lb_X11_luck_2 rfl)
theorem dX11_luck_76 : decode cX11_luck 76 = .ok (.istore 7, 2) := dx_54 (dl_at 64 12 lb_X11_luck_2 rfl) (dl_at 64 13 lb_X11_luck_2 rfl)
theorem dX11_luck_78 : decode cX11_luck 78 = .ok (.iload 7, 2) := dx_21 (dl_at 64 14 lb_X11_luck_2 rfl) (dl_at 64 15 lb_X11_luck_2 rfl)
theorem dX11_luck_80 : decode cX11_luck 80 = .ok (.aload_n 0, 1) := dx_42 (dl_at 64 16 lb_X11_luck_2 rfl)
theorem dX11_luck_81 : decode cX11_luck 81 = .ok (.getfield 30, 3) := dx_180 (a := 0) (b := 30) (dl_at 64 17 lb_X11_luck_2 rfl) (dl_at 64 18 lb_X11_luck_2 rfl) (dl_at 64 19 lb_X11_luck_2 rfl) rfl
theorem dX11_luck_84 : decode cX11_luck 84 = .ok (.getfield 166, 3) := dx_180 (a := 0) (b := 166) (dl_at 64 20 lb_X11_luck_2 rfl) (dl_at 64 21 lb_X11_luck_2 rfl) (dl_at 64 22 lb_X11_luck_2 rfl) rfl
theorem dX11_luck_87 : decode cX11_luck 87 = .ok (.getfield 185, 3) := dx_180 (a := 0) (b := 185) (dl_at 64 23 lb_X11_luck_2 rfl) (dl_at 64 24 lb_X11_luck_2 rfl) (dl_at 64 25 lb_X11_luck_2 rfl) rfl
theorem dX11_luck_90 : decode cX11_luck 90 = .ok (.if_icmp .ge 123, 3) := dx_162 (a := 0) (b := 123) (dl_at 64 26 lb_X11_luck_2 rfl) (dl_at 64 27 lb_X11_luck_2 rfl) (dl_at 64 28 lb_X11_luck_2 rfl) sg16_123
theorem dX11_luck_213 : decode cX11_luck 213 = .ok (.aload_n 0, 1) := dx_42 (dl_at 192 21 lb_X11_luck_6 rfl)
theorem dX11_luck_214 : decode cX11_luck 214 = .ok (.getfield 30, 3) := dx_180 (a := 0) (b := 30) (dl_at 192 22 lb_X11_luck_6 rfl) (dl_at 192 23 lb_X11_luck_6 rfl) (dl_at 192 24 lb_X11_luck_6 rfl) rfl
theorem dX11_luck_217 : decode cX11_luck 217 = .ok (.getfield 166, 3) := dx_180 (a := 0) (b := 166) (dl_at 192 25 lb_X11_luck_6 rfl) (dl_at 192 26 lb_X11_luck_6 rfl) (dl_at 192 27 lb_X11_luck_6 rfl) rfl
theorem dX11_luck_220 : decode cX11_luck 220 = .ok (.dup, 1) := dx_89 (dl_at 192 28 lb_X11_luck_6 rfl)
theorem dX11_luck_221 : decode cX11_luck 221 = .ok (.getfield 192, 3) := dx_180 (a := 0) (b := 192) (dl_at 192 29 lb_X11_luck_6 rfl) (dl_at 192 30 lb_X11_luck_6 rfl) (dl_at 192 31 lb_X11_luck_6 rfl) rfl
theorem dX11_luck_224 : decode cX11_luck 224 = .ok (.iconst 1, 1) := dx_4 (dl_at 224 0 lb_X11_luck_7 rfl)
theorem dX11_luck_225 : decode cX11_luck 225 = .ok (.iadd, 1) := dx_96 (dl_at 224 1 lb_X11_luck_7 rfl)
theorem dX11_luck_226 : decode cX11_luck 226 = .ok (.putfield 192, 3) := dx_181 (a := 0) (b := 192) (dl_at 224 2 lb_X11_luck_7 rfl) (dl_at 224 3 lb_X11_luck_7 rfl) (dl_at 224 4 lb_X11_luck_7 rfl) rfl
theorem dX11_luck_229 : decode cX11_luck 229 = .ok (.iinc 6 1, 3) := dx_132 (dl_at 224 5 lb_X11_luck_7 rfl) (dl_at 224 6 lb_X11_luck_7 rfl) (dl_at 224 7 lb_X11_luck_7 rfl) sg8_1
theorem dX11_luck_232 : decode cX11_luck 232 = .ok (.goto (-163), 3) := dx_167 (a := 255) (b := 93) (dl_at 224 8 lb_X11_luck_7 rfl) (dl_at 224 9 lb_X11_luck_7 rfl) (dl_at 224 10 lb_X11_luck_7 rfl) sg16_65373
theorem dX11_luck_93 : decode cX11_luck 93 = .ok (.aload_n 0, 1) := dx_42 (dl_at 64 29 lb_X11_luck_2 rfl)
theorem dX11_luck_94 : decode cX11_luck 94 = .ok (.getfield 30, 3) := dx_180 (a := 0) (b := 30) (dl_at 64 30 lb_X11_luck_2 rfl) (dl_at 64 31 lb_X11_luck_2 rfl) (dl_at 96 0 lb_X11_luck_3 rfl) rfl
theorem dX11_luck_97 : decode cX11_luck 97 = .ok (.aload_n 0, 1) := dx_42 (dl_at 96 1 lb_X11_luck_3 rfl)
theorem dX11_luck_98 : decode cX11_luck 98 = .ok (.getfield 30, 3) := dx_180 (a := 0) (b := 30) (dl_at 96 2 lb_X11_luck_3 rfl) (dl_at 96 3 lb_X11_luck_3 rfl) (dl_at 96 4 lb_X11_luck_3 rfl) rfl
theorem dX11_luck_101 : decode cX11_luck 101 = .ok (.getfield 166, 3) := dx_180 (a := 0) (b := 166) (dl_at 96 5 lb_X11_luck_3 rfl) (dl_at 96 6 lb_X11_luck_3 rfl) (dl_at 96 7 lb_X11_luck_3 rfl) rfl
theorem dX11_luck_104 : decode cX11_luck 104 = .ok (.getfield 188, 3) := dx_180 (a := 0) (b := 188) (dl_at 96 8 lb_X11_luck_3 rfl) (dl_at 96 9 lb_X11_luck_3 rfl) (dl_at 96 10 lb_X11_luck_3 rfl) rfl
theorem dX11_luck_107 : decode cX11_luck 107 = .ok (.iload 7, 2) := dx_21 (dl_at 96 11 lb_X11_luck_3 rfl) (dl_at 96 12 lb_X11_luck_3 rfl)
theorem dX11_luck_109 : decode cX11_luck 109 = .ok (.aaload, 1) := dx_50 (dl_at 96 13 lb_X11_luck_3 rfl)
theorem dX11_luck_110 : decode cX11_luck 110 = .ok (.invokevirtual 205, 3) := dx_182 (a := 0) (b := 205) (dl_at 96 14 lb_X11_luck_3 rfl) (dl_at 96 15 lb_X11_luck_3 rfl) (dl_at 96 16 lb_X11_luck_3 rfl) rfl
theorem dX11_luck_113 : decode cX11_luck 113 = .ok (.istore 8, 2) := dx_54 (dl_at 96 17 lb_X11_luck_3 rfl) (dl_at 96 18 lb_X11_luck_3 rfl)
theorem dX11_luck_115 : decode cX11_luck 115 = .ok (.iload 8, 2) := dx_21 (dl_at 96 19 lb_X11_luck_3 rfl) (dl_at 96 20 lb_X11_luck_3 rfl)
theorem dX11_luck_117 : decode cX11_luck 117 = .ok (.invokestatic 306, 3) := dx_184 (a := 1) (b := 50) (dl_at 96 21 lb_X11_luck_3 rfl) (dl_at 96 22 lb_X11_luck_3 rfl) (dl_at 96 23 lb_X11_luck_3 rfl) rfl
theorem dX11_luck_120 : decode cX11_luck 120 = .ok (.istore 9, 2) := dx_54 (dl_at 96 24 lb_X11_luck_3 rfl) (dl_at 96 25 lb_X11_luck_3 rfl)
theorem dX11_luck_122 : decode cX11_luck 122 = .ok (.iload 9, 2) := dx_21 (dl_at 96 26 lb_X11_luck_3 rfl) (dl_at 96 27 lb_X11_luck_3 rfl)
theorem dX11_luck_124 : decode cX11_luck 124 = .ok (.ifCond .ne 6, 3) := dx_154 (a := 0) (b := 6) (dl_at 96 28 lb_X11_luck_3 rfl) (dl_at 96 29 lb_X11_luck_3 rfl) (dl_at 96 30 lb_X11_luck_3 rfl) sg16_6
theorem dX11_luck_130 : decode cX11_luck 130 = .ok (.aload_n 0, 1) := dx_42 (dl_at 128 2 lb_X11_luck_4 rfl)
theorem dX11_luck_131 : decode cX11_luck 131 = .ok (.getfield 44, 3) := dx_180 (a := 0) (b := 44) (dl_at 128 3 lb_X11_luck_4 rfl) (dl_at 128 4 lb_X11_luck_4 rfl) (dl_at 128 5 lb_X11_luck_4 rfl) rfl
theorem dX11_luck_134 : decode cX11_luck 134 = .ok (.invokevirtual 212, 3) := dx_182 (a := 0) (b := 212) (dl_at 128 6 lb_X11_luck_4 rfl) (dl_at 128 7 lb_X11_luck_4 rfl) (dl_at 128 8 lb_X11_luck_4 rfl) rfl
theorem dX11_luck_137 : decode cX11_luck 137 = .ok (.ifCond .eq 6, 3) := dx_153 (a := 0) (b := 6) (dl_at 128 9 lb_X11_luck_4 rfl) (dl_at 128 10 lb_X11_luck_4 rfl) (dl_at 128 11 lb_X11_luck_4 rfl) sg16_6
theorem dX11_luck_140 : decode cX11_luck 140 = .ok (.iload 5, 2) := dx_21 (dl_at 128 12 lb_X11_luck_4 rfl) (dl_at 128 13 lb_X11_luck_4 rfl)
theorem dX11_luck_142 : decode cX11_luck 142 = .ok (.ireturn, 1) := dx_172 (dl_at 128 14 lb_X11_luck_4 rfl)
theorem dX11_luck_143 : decode cX11_luck 143 = .ok (.lload_n 3, 1) := dx_33 (dl_at 128 15 lb_X11_luck_4 rfl)
theorem dX11_luck_144 : decode cX11_luck 144 = .ok (.ldc2_w 340, 3) := dx_20 (a := 1) (b := 84) (dl_at 128 16 lb_X11_luck_4 rfl) (dl_at 128 17 lb_X11_luck_4 rfl) (dl_at 128 18 lb_X11_luck_4 rfl) rfl
theorem dX11_luck_147 : decode cX11_luck 147 = .ok (.lmul, 1) := dx_105 (dl_at 128 19 lb_X11_luck_4 rfl)
theorem dX11_luck_148 : decode cX11_luck 148 = .ok (.ldc2_w 338, 3) := dx_20 (a := 1) (b := 82) (dl_at 128 20 lb_X11_luck_4 rfl) (dl_at 128 21 lb_X11_luck_4 rfl) (dl_at 128 22 lb_X11_luck_4 rfl) rfl
theorem dX11_luck_151 : decode cX11_luck 151 = .ok (.lrem, 1) := dx_113 (dl_at 128 23 lb_X11_luck_4 rfl)
theorem dX11_luck_152 : decode cX11_luck 152 = .ok (.lstore_n 3, 1) := dx_66 (dl_at 128 24 lb_X11_luck_4 rfl)
theorem dX11_luck_153 : decode cX11_luck 153 = .ok (.aload_n 0, 1) := dx_42 (dl_at 128 25 lb_X11_luck_4 rfl)
theorem dX11_luck_154 : decode cX11_luck 154 = .ok (.getfield 44, 3) := dx_180 (a := 0) (b := 44) (dl_at 128 26 lb_X11_luck_4 rfl) (dl_at 128 27 lb_X11_luck_4 rfl) (dl_at 128 28 lb_X11_luck_4 rfl) rfl
theorem dX11_luck_157 : decode cX11_luck 157 = .ok (.aload_n 0, 1) := dx_42 (dl_at 128 29 lb_X11_luck_4 rfl)
theorem dX11_luck_158 : decode cX11_luck 158 = .ok (.getfield 30, 3) := dx_180 (a := 0) (b := 30) (dl_at 128 30 lb_X11_luck_4 rfl) (dl_at 128 31 lb_X11_luck_4 rfl) (dl_at 160 0 lb_X11_luck_5 rfl) rfl
theorem dX11_luck_161 : decode cX11_luck 161 = .ok (.iload 7, 2) := dx_21 (dl_at 160 1 lb_X11_luck_5 rfl) (dl_at 160 2 lb_X11_luck_5 rfl)
theorem dX11_luck_163 : decode cX11_luck 163 = .ok (.iload 8, 2) := dx_21 (dl_at 160 3 lb_X11_luck_5 rfl) (dl_at 160 4 lb_X11_luck_5 rfl)
theorem dX11_luck_165 : decode cX11_luck 165 = .ok (.lload_n 3, 1) := dx_33 (dl_at 160 5 lb_X11_luck_5 rfl)
theorem dX11_luck_166 : decode cX11_luck 166 = .ok (.iload 9, 2) := dx_21 (dl_at 160 6 lb_X11_luck_5 rfl) (dl_at 160 7 lb_X11_luck_5 rfl)
theorem dX11_luck_168 : decode cX11_luck 168 = .ok (.i2l, 1) := dx_133 (dl_at 160 8 lb_X11_luck_5 rfl)
theorem dX11_luck_169 : decode cX11_luck 169 = .ok (.lrem, 1) := dx_113 (dl_at 160 9 lb_X11_luck_5 rfl)
theorem dX11_luck_170 : decode cX11_luck 170 = .ok (.l2i, 1) := dx_136 (dl_at 160 10 lb_X11_luck_5 rfl)
theorem dX11_luck_171 : decode cX11_luck 171 = .ok (.invokestatic 342, 3) := dx_184 (a := 1) (b := 86) (dl_at 160 11 lb_X11_luck_5 rfl) (dl_at 160 12 lb_X11_luck_5 rfl) (dl_at 160 13 lb_X11_luck_5 rfl) rfl
theorem dX11_luck_174 : decode cX11_luck 174 = .ok (.invokevirtual 215, 3) := dx_182 (a := 0) (b := 215) (dl_at 160 14 lb_X11_luck_5 rfl) (dl_at 160 15 lb_X11_luck_5 rfl) (dl_at 160 16 lb_X11_luck_5 rfl) rfl
theorem dX11_luck_177 : decode cX11_luck 177 = .ok (.pop, 1) := dx_87 (dl_at 160 17 lb_X11_luck_5 rfl)
theorem dX11_luck_178 : decode cX11_luck 178 = .ok (.iload 5, 2) := dx_21 (dl_at 160 18 lb_X11_luck_5 rfl) (dl_at 160 19 lb_X11_luck_5 rfl)
theorem dX11_luck_180 : decode cX11_luck 180 = .ok (.aload_n 0, 1) := dx_42 (dl_at 160 20 lb_X11_luck_5 rfl)
theorem dX11_luck_181 : decode cX11_luck 181 = .ok (.getfield 30, 3) := dx_180 (a := 0) (b := 30) (dl_at 160 21 lb_X11_luck_5 rfl) (dl_at 160 22 lb_X11_luck_5 rfl) (dl_at 160 23 lb_X11_luck_5 rfl) rfl
theorem dX11_luck_184 : decode cX11_luck 184 = .ok (.getfield 166, 3) := dx_180 (a := 0) (b := 166) (dl_at 160 24 lb_X11_luck_5 rfl) (dl_at 160 25 lb_X11_luck_5 rfl) (dl_at 160 26 lb_X11_luck_5 rfl) rfl
theorem dX11_luck_187 : decode cX11_luck 187 = .ok (.getfield 188, 3) := dx_180 (a := 0) (b := 188) (dl_at 160 27 lb_X11_luck_5 rfl) (dl_at 160 28 lb_X11_luck_5 rfl) (dl_at 160 29 lb_X11_luck_5 rfl) rfl
theorem dX11_luck_190 : decode cX11_luck 190 = .ok (.iload 7, 2) := dx_21 (dl_at 160 30 lb_X11_luck_5 rfl) (dl_at 160 31 lb_X11_luck_5 rfl)
theorem dX11_luck_192 : decode cX11_luck 192 = .ok (.aaload, 1) := dx_50 (dl_at 192 0 lb_X11_luck_6 rfl)
theorem dX11_luck_193 : decode cX11_luck 193 = .ok (.getfield 219, 3) := dx_180 (a := 0) (b := 219) (dl_at 192 1 lb_X11_luck_6 rfl) (dl_at 192 2 lb_X11_luck_6 rfl) (dl_at 192 3 lb_X11_luck_6 rfl) rfl
theorem dX11_luck_196 : decode cX11_luck 196 = .ok (.ifCond .eq 7, 3) := dx_153 (a := 0) (b := 7) (dl_at 192 4 lb_X11_luck_6 rfl) (dl_at 192 5 lb_X11_luck_6 rfl) (dl_at 192 6 lb_X11_luck_6 rfl) sg16_7
theorem dX11_luck_203 : decode cX11_luck 203 = .ok (.iconst 0, 1) := dx_3 (dl_at 192 11 lb_X11_luck_6 rfl)
theorem dX11_luck_204 : decode cX11_luck 204 = .ok (.iadd, 1) := dx_96 (dl_at 192 12 lb_X11_luck_6 rfl)
theorem dX11_luck_205 : decode cX11_luck 205 = .ok (.istore 5, 2) := dx_54 (dl_at 192 13 lb_X11_luck_6 rfl) (dl_at 192 14 lb_X11_luck_6 rfl)
theorem dX11_luck_207 : decode cX11_luck 207 = .ok (.iinc 7 1, 3) := dx_132 (dl_at 192 15 lb_X11_luck_6 rfl) (dl_at 192 16 lb_X11_luck_6 rfl) (dl_at 192 17 lb_X11_luck_6 rfl) sg8_1
theorem dX11_luck_210 : decode cX11_luck 210 = .ok (.goto (-132), 3) := dx_167 (a := 255) (b := 124) (dl_at 192 18 lb_X11_luck_6 rfl) (dl_at 192 19 lb_X11_luck_6 rfl) (dl_at 192 20 lb_X11_luck_6 rfl) sg16_65404
theorem dX11_luck_199 : decode cX11_luck 199 = .ok (.iconst 1, 1) := dx_4 (dl_at 192 7 lb_X11_luck_6 rfl)
theorem dX11_luck_200 : decode cX11_luck 200 = .ok (.goto 4, 3) := dx_167 (a := 0) (b := 4) (dl_at 192 8 lb_X11_luck_6 rfl) (dl_at 192 9 lb_X11_luck_6 rfl) (dl_at 192 10 lb_X11_luck_6 rfl) sg16_4
theorem dX11_luck_127 : decode cX11_luck 127 = .ok (.goto 80, 3) := dx_167 (a := 0) (b := 80) (dl_at 96 31 lb_X11_luck_3 rfl) (dl_at 128 0 lb_X11_luck_4 rfl) (dl_at 128 1 lb_X11_luck_4 rfl) sg16_80
theorem dX11_luck_57 : decode cX11_luck 57 = .ok (.bipush (-2), 2) := dx_16 (dl_at 32 25 lb_X11_luck_1 rfl) (dl_at 32 26 lb_X11_luck_1 rfl) sg8_254
theorem dX11_luck_59 : decode cX11_luck 59 = .ok (.ireturn, 1) := dx_172 (dl_at 32 27 lb_X11_luck_1 rfl)
theorem dX11_luck_37 : decode cX11_luck 37 = .ok (.bipush (-4), 2) := dx_16 (dl_at 32 5 lb_X11_luck_1 rfl) (dl_at 32 6 lb_X11_luck_1 rfl) sg8_252
theorem dX11_luck_39 : decode cX11_luck 39 = .ok (.ireturn, 1) := dx_172 (dl_at 32 7 lb_X11_luck_1 rfl)
def F_qx_send (mu : Nat → Nat → Int32) (vx : Int32) (vy : Int32) (vw : Int32) (vf : Int32) : Int32 × (Nat → Nat → Int32) :=
  if F_sx_isPair mu (vx : Int32) (vy : Int32) = 1 then (
    if vw < (0 : Int32) then (
      (((-1) : Int32), mu)
    ) else (
      if vw > (99 : Int32) then (
        (((-1) : Int32), mu)
      ) else (
        if vf < (0 : Int32) then (
          (((-1) : Int32), mu)
        ) else (
          if vf ≤ (9 : Int32) then (
            LETV (mu 5 4 : Int32) fun y6 =>
            if y6 < (4 : Int32) then (
              LETV (mu 5 3 : Int32) fun y9 =>
              LETV (F_sx_begin mu (61 + y6.toNatClampNeg) (vx : Int32) (vy : Int32) (vw : Int32) (vf : Int32) (y9 : Int32) : Nat → Nat → Int32) fun xi10 =>
              LETV (y6 + 1 : Int32) fun t12 =>
              LETV (va_up xi10 5 (upd (xi10 5) 4 t12) : Nat → Nat → Int32) fun nu13 =>
              ((y6 : Int32), nu13)
            ) else (
              (((-2) : Int32), mu)
            )
          ) else (
            (((-1) : Int32), mu)
          )
        )
      )
    )
  ) else (
    (((-1) : Int32), mu)
  )
def F_qx_sell (mu : Nat → Nat → Int32) (vk : Int32) (vx : Int32) : Int32 × (Nat → Nat → Int32) :=
  if F_sx_has mu (vx : Int32) = 1 then (
    LETP (F_sx_refusedLetter mu (vk : Int32) (0 : Int32)) fun r2 xi2 =>
    if r2 = 0 then (
      LETV (F_sx_buyersOf mu (61 + vk.toNatClampNeg) : Int32) fun r5 =>
      LETV (F_sx_hasBit (r5 : Int32) (vx : Int32) : Int32) fun r6 =>
      if r6 = (0 : Int32) then (
        (((-4) : Int32), mu)
      ) else (
        if F_sx_isFull mu = 1 then (
          (((-2) : Int32), mu)
        ) else (
          LETP (F_sx_enterSale mu (vk : Int32) (vx : Int32)) fun r9 xi9 =>
          LETV (xi9 (61 + vk.toNatClampNeg) 9 : Int32) fun y11 =>
          if y11 = (0 : Int32) then (
            ((r9 : Int32), xi9)
          ) else (
            LETV (r9 + 1000 : Int32) fun t13 =>
            ((t13 : Int32), xi9)
          )
        )
      )
    ) else (
      ((r2 : Int32), xi2)
    )
  ) else (
    LETP (F_sx_refusedLetter mu (vk : Int32) (1 : Int32)) fun r15 xi15 =>
    if r15 = 0 then (
      (0, mu)
    ) else (
      ((r15 : Int32), xi15)
    )
  )
def F_qx_letter (mu : Nat → Nat → Int32) (vk : Int32) (vw : Int32) : Int32 × (Nat → Nat → Int32) :=
  if vw < (0 : Int32) then (
    LETP (F_sx_refusedLetter mu (vk : Int32) (1 : Int32)) fun r2 xi2 =>
    if r2 = 0 then (
      (0, mu)
    ) else (
      ((r2 : Int32), xi2)
    )
  ) else (
    if vw < (5 : Int32) then (
      LETP (F_sx_refusedLetter mu (vk : Int32) (0 : Int32)) fun r6 xi6 =>
      if r6 = 0 then (
        LETV (mu 5 3 : Int32) fun y9 =>
        LETV (F_sx_fact mu (61 + vk.toNatClampNeg) (vw : Int32) (y9 : Int32) : Int32) fun r10 =>
        LETV (va_up mu 0 (upd (mu 0) 10 r10) : Nat → Nat → Int32) fun nu11 =>
        ((1 : Int32), nu11)
      ) else (
        ((r6 : Int32), xi6)
      )
    ) else (
      LETP (F_sx_refusedLetter mu (vk : Int32) (1 : Int32)) fun r16 xi16 =>
      if r16 = 0 then (
        (0, mu)
      ) else (
        ((r16 : Int32), xi16)
      )
    )
  )
def F_qx_can (mu : Nat → Nat → Int32) (vk : Int32) : Int32 × (Nat → Nat → Int32) :=
  LETP (F_sx_refusedLetter mu (vk : Int32) (0 : Int32)) fun r1 xi1 =>
  if r1 = 0 then (
    LETV (F_sx_buyersOf mu (61 + vk.toNatClampNeg) : Int32) fun r4 =>
    ((r4 : Int32), mu)
  ) else (
    ((r1 : Int32), xi1)
  )
def L_qx_undo_29_0 (t4 : Int32) : Nat → (Int32) → (Nat → Nat → Int32) → Int32 × (Nat → Nat → Int32)
  | 0, v3_29, nu29_ => (0, nu29_)
  | n + 1, v3_29, nu29_ =>
    if v3_29 ≥ t4 then (
      ((t4 : Int32), nu29_)
    ) else (
      LETV (F_sx_undoLast nu29_ : Nat → Nat → Int32) fun xi6 =>
      LETV ((v3_29 + 1) : Int32) fun w8 =>
      L_qx_undo_29_0 t4 n (w8 : Int32) xi6
    )
def F_qx_undo (mu : Nat → Nat → Int32) (vn : Int32) : Int32 × (Nat → Nat → Int32) :=
  if vn < (0 : Int32) then (
    (((-1) : Int32), mu)
  ) else (
    LETV (mu 6 1 : Int32) fun y2 =>
    if vn ≤ y2 then (
      LETV (y2 - vn : Int32) fun t4 =>
      L_qx_undo_29_0 t4 43 (0 : Int32) mu
    ) else (
      (((-1) : Int32), mu)
    )
  )
def F_qx_keep (mu : Nat → Nat → Int32) (vk : Int32) : Int32 × (Nat → Nat → Int32) :=
  if F_sx_isPlace (vk : Int32) = 1 then (
    LETV (mu 4 6 : Int32) fun y2 =>
    if y2 = (0 : Int32) then (
      (((-4) : Int32), mu)
    ) else (
      if vk = 0 then (
        LETV (F_sx_Standing_beLike_18_5 mu : Nat → Nat → Int32) fun xi5 =>
        LETV (va_up xi5 18 (upd (xi5 18) 5 1) : Nat → Nat → Int32) fun nu7 =>
        LETV (nu7 5 3 : Int32) fun y10 =>
        ((y10 : Int32), nu7)
      ) else (
        if vk = 1 then (
          LETV (F_sx_Standing_beLike_19_5 mu : Nat → Nat → Int32) fun xi11 =>
          LETV (va_up xi11 19 (upd (xi11 19) 5 1) : Nat → Nat → Int32) fun nu13 =>
          LETV (nu13 5 3 : Int32) fun y16 =>
          ((y16 : Int32), nu13)
        ) else (
          LETV (F_sx_Standing_beLike_20_5 mu : Nat → Nat → Int32) fun xi17 =>
          LETV (va_up xi17 20 (upd (xi17 20) 5 1) : Nat → Nat → Int32) fun nu19 =>
          LETV (nu19 5 3 : Int32) fun y22 =>
          ((y22 : Int32), nu19)
        )
      )
    )
  ) else (
    (((-1) : Int32), mu)
  )
def F_qx_on (mu : Nat → Nat → Int32) (vk : Int32) : Int32 × (Nat → Nat → Int32) :=
  if F_sx_isPlace (vk : Int32) = 1 then (
    if vk = 0 then (
      LETV (mu 18 5 : Int32) fun y3 =>
      if y3 = (0 : Int32) then (
        LETP (F_sx_found mu (1 : Int32)) fun r11 xi11 =>
        ((r11 : Int32), xi11)
      ) else (
        LETV (F_sx_Standing_beLike_5_18 mu : Nat → Nat → Int32) fun xi5 =>
        LETV (va_up xi5 6 (upd (xi5 6) 1 0) : Nat → Nat → Int32) fun nu7 =>
        LETV (nu7 5 3 : Int32) fun y10 =>
        ((y10 : Int32), nu7)
      )
    ) else (
      if vk = 1 then (
        LETV (mu 19 5 : Int32) fun y13 =>
        if y13 = (0 : Int32) then (
          LETP (F_sx_found mu (1 : Int32)) fun r21 xi21 =>
          ((r21 : Int32), xi21)
        ) else (
          LETV (F_sx_Standing_beLike_5_19 mu : Nat → Nat → Int32) fun xi15 =>
          LETV (va_up xi15 6 (upd (xi15 6) 1 0) : Nat → Nat → Int32) fun nu17 =>
          LETV (nu17 5 3 : Int32) fun y20 =>
          ((y20 : Int32), nu17)
        )
      ) else (
        LETV (mu 20 5 : Int32) fun y23 =>
        if y23 = (0 : Int32) then (
          LETP (F_sx_found mu (1 : Int32)) fun r31 xi31 =>
          ((r31 : Int32), xi31)
        ) else (
          LETV (F_sx_Standing_beLike_5_20 mu : Nat → Nat → Int32) fun xi25 =>
          LETV (va_up xi25 6 (upd (xi25 6) 1 0) : Nat → Nat → Int32) fun nu27 =>
          LETV (nu27 5 3 : Int32) fun y30 =>
          ((y30 : Int32), nu27)
        )
      )
    )
  ) else (
    (((-1) : Int32), mu)
  )
def F_qx_bearer (mu : Nat → Nat → Int32) (vx : Int32) (vw : Int32) : Int32 × (Nat → Nat → Int32) :=
  if F_sx_has mu (vx : Int32) = 1 then (
    if vw < (0 : Int32) then (
      (((-1) : Int32), mu)
    ) else (
      if vw < (4 : Int32) then (
        LETV (F_sx_bearerFact mu (vx : Int32) (vw : Int32) : Int32) fun r4 =>
        LETV (va_up mu 0 (upd (mu 0) 10 r4) : Nat → Nat → Int32) fun nu5 =>
        ((1 : Int32), nu5)
      ) else (
        (((-1) : Int32), mu)
      )
    )
  ) else (
    (((-1) : Int32), mu)
  )
def F_qx_mark (mu : Nat → Nat → Int32) (vx : Int32) (vd : Int32) : Int32 × (Nat → Nat → Int32) :=
  if F_sx_has mu (vx : Int32) = 1 then (
    if vd ≤ (0 : Int32) then (
      (((-1) : Int32), mu)
    ) else (
      if vd ≤ (5 : Int32) then (
        LETV (mu 34 vx.toNatClampNeg : Int32) fun y4 =>
        LETV (F_sx_isOfKind (y4 : Int32) (vd : Int32) : Int32) fun r5 =>
        if r5 = (0 : Int32) then (
          LETP (F_sx_found mu (3 : Int32)) fun r15 xi15 =>
          ((r15 : Int32), xi15)
        ) else (
          if (vd).toInt < 1 ∨ 4 < (vd).toInt then (
            LETV (F_sx_paidForUnread mu (vx : Int32) : Int32) fun r8 =>
            ((r8 : Int32), mu)
          ) else (
            if (vd).toInt = 1 then (
              LETV (F_sx_priceAsked (y4 : Int32) (0 : Int32) : Int32) fun r9 =>
              LETV (F_sx_priceAsked (0 : Int32) (0 : Int32) : Int32) fun r10 =>
              LETV (r9 - r10 : Int32) fun t11 =>
              ((t11 : Int32), mu)
            ) else (
              if (vd).toInt = 2 then (
                LETV (F_sx_friendsNear mu (vx : Int32) : Int32) fun r12 =>
                ((r12 : Int32), mu)
              ) else (
                if (vd).toInt = 3 then (
                  LETV (F_sx_unreadTo mu (vx : Int32) : Int32) fun r13 =>
                  ((r13 : Int32), mu)
                ) else (
                  LETV (F_sx_priceAsked (y4 : Int32) (10 : Int32) : Int32) fun r14 =>
                  ((r14 : Int32), mu)
                )
              )
            )
          )
        )
      ) else (
        (((-1) : Int32), mu)
      )
    )
  ) else (
    (((-1) : Int32), mu)
  )
def F_qx_gain (mu : Nat → Nat → Int32) (vx : Int32) : Int32 × (Nat → Nat → Int32) :=
  if F_sx_has mu (vx : Int32) = 1 then (
    LETV (F_sx_gainOf mu (vx : Int32) : Int32) fun r2 =>
    LETV (va_up mu 0 (upd (mu 0) 10 r2) : Nat → Nat → Int32) fun nu3 =>
    ((1 : Int32), nu3)
  ) else (
    (((-1) : Int32), mu)
  )
def L_qx_bundle_30_0 (r2 : Int32) (vx : Int32) : Nat → (Int32) → (Int32) → (Int32) → (Nat → Nat → Int32) → Int32 × (Nat → Nat → Int32)
  | 0, v3_30, v4_30, v5_30, nu30_ => (0, nu30_)
  | n + 1, v3_30, v4_30, v5_30, nu30_ =>
    if v5_30 ≥ (16 : Int32) then (
      LETV (va_up nu30_ 0 (upd (nu30_ 0) 10 v4_30) : Nat → Nat → Int32) fun nu4 =>
      ((v3_30 : Int32), nu4)
    ) else (
      LETV (F_sx_bitCount (v5_30 : Int32) : Int32) fun r7 =>
      if r7 ≤ v3_30 then (
        LETV ((v5_30 + 1) : Int32) fun w9 =>
        L_qx_bundle_30_0 r2 vx n (v3_30 : Int32) (v4_30 : Int32) (w9 : Int32) nu30_
      ) else (
        LETV (r2 ^^^ (-1) : Int32) fun t10 =>
        LETV (v5_30 &&& t10 : Int32) fun t11 =>
        if t11 = (0 : Int32) then (
          LETV (F_sx_priceOfAll nu30_ (v5_30 : Int32) : Int32) fun r14 =>
          LETV (nu30_ 46 vx.toNatClampNeg : Int32) fun y15 =>
          if r14 > y15 then (
            LETV ((v5_30 + 1) : Int32) fun w17 =>
            L_qx_bundle_30_0 r2 vx n (v3_30 : Int32) (v4_30 : Int32) (w17 : Int32) nu30_
          ) else (
            LETV ((v5_30 + 1) : Int32) fun w18 =>
            L_qx_bundle_30_0 r2 vx n (r7 : Int32) (v5_30 : Int32) (w18 : Int32) nu30_
          )
        ) else (
          LETV ((v5_30 + 1) : Int32) fun w13 =>
          L_qx_bundle_30_0 r2 vx n (v3_30 : Int32) (v4_30 : Int32) (w13 : Int32) nu30_
        )
      )
    )
def F_qx_bundle (mu : Nat → Nat → Int32) (vx : Int32) : Int32 × (Nat → Nat → Int32) :=
  if F_sx_has mu (vx : Int32) = 1 then (
    LETV (F_sx_buyableBy mu (vx : Int32) : Int32) fun r2 =>
    L_qx_bundle_30_0 r2 vx 19 (0 : Int32) (0 : Int32) (1 : Int32) mu
  ) else (
    (((-1) : Int32), mu)
  )
def F_qx_upper (mu : Nat → Nat → Int32) : Int64 × (Nat → Nat → Int32) :=
  LETV (F_sx_richestPurse mu : Int64) fun r1 =>
  LETV (F_sx_allPurses mu : Int64) fun r2 =>
  LETV (F_sx_commonDivisor (r1 : Int64) (r2 : Int64) : Int64) fun r3 =>
  LETV (lg_cmp r3 0 : Int32) fun t4 =>
  if t4 = (0 : Int32) then (
    ((0 : Int64), mu)
  ) else (
    LETV (F_sx_richestPurse mu : Int64) fun r6 =>
    LETV (r6 / r3 : Int64) fun l7 =>
    ((l7 : Int64), mu)
  )
def F_qx_lower (mu : Nat → Nat → Int32) : Int64 × (Nat → Nat → Int32) :=
  LETV (F_sx_richestPurse mu : Int64) fun r1 =>
  LETV (F_sx_allPurses mu : Int64) fun r2 =>
  LETV (F_sx_commonDivisor (r1 : Int64) (r2 : Int64) : Int64) fun r3 =>
  LETV (lg_cmp r3 0 : Int32) fun t4 =>
  if t4 = (0 : Int32) then (
    ((1 : Int64), mu)
  ) else (
    LETV (F_sx_allPurses mu : Int64) fun r6 =>
    LETV (r6 / r3 : Int64) fun l7 =>
    ((l7 : Int64), mu)
  )
def L_qx_luck_78_1 (v6_69 : Int32) (k_qx_luck_69_0 : (Int64) → (Int32) → (Int32) → (Nat → Nat → Int32) → (Int32 × (Nat → Nat → Int32))) : Nat → (Int64) → (Int32) → (Int32) → (Nat → Nat → Int32) → Int32 × (Nat → Nat → Int32)
  | 0, v3_78, v5_78, v7_78, nu78_ => (0, nu78_)
  | n + 1, v3_78, v5_78, v7_78, nu78_ =>
    LETV (nu78_ 5 4 : Int32) fun y14 =>
    if v7_78 ≥ y14 then (
      LETV (nu78_ 5 3 : Int32) fun y16 =>
      LETV (y16 + 1 : Int32) fun t17 =>
      LETV (va_up nu78_ 5 (upd (nu78_ 5) 3 t17) : Nat → Nat → Int32) fun nu18 =>
      LETV ((v6_69 + 1) : Int32) fun w22 =>
      k_qx_luck_69_0 (v3_78 : Int64) (v5_78 : Int32) (w22 : Int32) nu18
    ) else (
      LETV (F_sx_buyersOf nu78_ (61 + v7_78.toNatClampNeg) : Int32) fun r24 =>
      LETV (F_sx_bitCount (r24 : Int32) : Int32) fun r25 =>
      if r25 = (0 : Int32) then (
        LETV ((v7_78 + 1) : Int32) fun w43 =>
        L_qx_luck_78_1 v6_69 k_qx_luck_69_0 n (v3_78 : Int64) (v5_78 : Int32) (w43 : Int32) nu78_
      ) else (
        if F_sx_isFull nu78_ = 1 then (
          ((v5_78 : Int32), nu78_)
        ) else (
          LETV (v3_78 * 48271 : Int64) fun l28 =>
          LETV (l28 - l28 / 2147483647 * 2147483647 : Int64) fun l29 =>
          LETV ((r25 : Int32).toInt64 : Int64) fun l30 =>
          LETV (l29 - l29 / l30 * l30 : Int64) fun l31 =>
          LETV ((l31 : Int64).toInt32 : Int32) fun t32 =>
          LETV (F_sx_bitAt (r24 : Int32) (t32 : Int32) : Int32) fun r33 =>
          LETP (F_sx_enterSale nu78_ (v7_78 : Int32) (r33 : Int32)) fun r34 xi34 =>
          LETV (xi34 (61 + v7_78.toNatClampNeg) 9 : Int32) fun y37 =>
          if y37 = (0 : Int32) then (
            LETV (v5_78 + 0 : Int32) fun t39 =>
            LETV ((v7_78 + 1) : Int32) fun w40 =>
            L_qx_luck_78_1 v6_69 k_qx_luck_69_0 n (l29 : Int64) (t39 : Int32) (w40 : Int32) xi34
          ) else (
            LETV (v5_78 + 1 : Int32) fun t41 =>
            LETV ((v7_78 + 1) : Int32) fun w42 =>
            L_qx_luck_78_1 v6_69 k_qx_luck_69_0 n (l29 : Int64) (t41 : Int32) (w42 : Int32) xi34
          )
        )
      )
    )
def L_qx_luck_69_0 (vn : Int32) : Nat → (Int64) → (Int32) → (Int32) → (Nat → Nat → Int32) → Int32 × (Nat → Nat → Int32)
  | 0, v3_69, v5_69, v6_69, nu69_ => (0, nu69_)
  | n + 1, v3_69, v5_69, v6_69, nu69_ =>
    if v6_69 ≥ vn then (
      ((v5_69 : Int32), nu69_)
    ) else (
      L_qx_luck_78_1 v6_69 (fun z_v3_69 z_v5_69 z_v6_69 z_nu69_ => L_qx_luck_69_0 vn n z_v3_69 z_v5_69 z_v6_69 z_nu69_) 7 (v3_69 : Int64) (v5_69 : Int32) (0 : Int32) nu69_
    )
def F_qx_luck (mu : Nat → Nat → Int32) (vn : Int32) (vs : Int32) : Int32 × (Nat → Nat → Int32) :=
  if vn < (1 : Int32) then (
    (((-1) : Int32), mu)
  ) else (
    if vn > (40 : Int32) then (
      (((-1) : Int32), mu)
    ) else (
      if vs < (1 : Int32) then (
        (((-1) : Int32), mu)
      ) else (
        LETV ((vs : Int32).toInt64 : Int64) fun l4 =>
        LETV (lg_cmp l4 2147483647 : Int32) fun t5 =>
        if t5 < (0 : Int32) then (
          LETV (mu 4 6 : Int32) fun y7 =>
          if y7 = (0 : Int32) then (
            (((-4) : Int32), mu)
          ) else (
            LETV (mu 5 3 : Int32) fun y9 =>
            LETV (y9 + vn : Int32) fun t10 =>
            if t10 ≤ (99 : Int32) then (
              LETV ((vs : Int32).toInt64 : Int64) fun l12 =>
              L_qx_luck_69_0 vn 43 (l12 : Int64) (0 : Int32) (0 : Int32) mu
            ) else (
              (((-2) : Int32), mu)
            )
          )
        ) else (
          (((-1) : Int32), mu)
        )
      )
    )
  )
