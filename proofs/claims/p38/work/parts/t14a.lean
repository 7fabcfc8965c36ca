theorem mw_6_44 : (Cond.code yX12_bearerOf cX12_bearerOf 5 (some .int) : Cond) ∈ lw_good := lg_at 6 44 rfl rfl
theorem mw_6_41 : (Cond.methodLink RX12 173 yX12_bearerOf : Cond) ∈ lw_good := lg_at 6 41 rfl rfl
theorem mw_6_43 : (Cond.instanceMethod yX12_bearerOf : Cond) ∈ lw_good := lg_at 6 43 rfl rfl
theorem mw_0_37 : (Cond.selects RX12 yX12_bearerOf yX12_bearerOf : Cond) ∈ lw_good := lg_at 0 37 rfl rfl
theorem mw_6_70 : (Cond.code yX12_isA cX12_isA 3 (some .boolean) : Cond) ∈ lw_good := lg_at 6 70 rfl rfl
theorem mw_6_67 : (Cond.methodLink RX12 176 yX12_isA : Cond) ∈ lw_good := lg_at 6 67 rfl rfl
theorem mw_6_69 : (Cond.instanceMethod yX12_isA : Cond) ∈ lw_good := lg_at 6 69 rfl rfl
theorem mw_0_41 : (Cond.selects RX12 yX12_isA yX12_isA : Cond) ∈ lw_good := lg_at 0 41 rfl rfl
theorem mw_6_74 : (Cond.code yX12_asksOf cX12_asksOf 3 (some .int) : Cond) ∈ lw_good := lg_at 6 74 rfl rfl
theorem mw_6_71 : (Cond.methodLink RX12 179 yX12_asksOf : Cond) ∈ lw_good := lg_at 6 71 rfl rfl
theorem mw_6_73 : (Cond.instanceMethod yX12_asksOf : Cond) ∈ lw_good := lg_at 6 73 rfl rfl
theorem mw_0_42 : (Cond.selects RX12 yX12_asksOf yX12_asksOf : Cond) ∈ lw_good := lg_at 0 42 rfl rfl
theorem mw_6_78 : (Cond.code yX12_friendsBeside cX12_friendsBeside 4 (some .int) : Cond) ∈ lw_good := lg_at 6 78 rfl rfl
theorem mw_6_75 : (Cond.methodLink RX12 182 yX12_friendsBeside : Cond) ∈ lw_good := lg_at 6 75 rfl rfl
theorem mw_6_77 : (Cond.instanceMethod yX12_friendsBeside : Cond) ∈ lw_good := lg_at 6 77 rfl rfl
theorem mw_0_43 : (Cond.selects RX12 yX12_friendsBeside yX12_friendsBeside : Cond) ∈ lw_good := lg_at 0 43 rfl rfl
theorem mw_6_102 : (Cond.code yX12_areTwo cX12_areTwo 3 (some .boolean) : Cond) ∈ lw_good := lg_at 6 102 rfl rfl
theorem mw_6_99 : (Cond.methodLink RX12 185 yX12_areTwo : Cond) ∈ lw_good := lg_at 6 99 rfl rfl
theorem mw_6_101 : (Cond.instanceMethod yX12_areTwo : Cond) ∈ lw_good := lg_at 6 101 rfl rfl
theorem mw_0_44 : (Cond.selects RX12 yX12_areTwo yX12_areTwo : Cond) ∈ lw_good := lg_at 0 44 rfl rfl
theorem mw_6_106 : (Cond.code yX12_setLetter cX12_setLetter 4 none : Cond) ∈ lw_good := lg_at 6 106 rfl rfl
theorem mw_6_103 : (Cond.methodLink RX12 188 yX12_setLetter : Cond) ∈ lw_good := lg_at 6 103 rfl rfl
theorem mw_6_105 : (Cond.instanceMethod yX12_setLetter : Cond) ∈ lw_good := lg_at 6 105 rfl rfl
theorem mw_0_45 : (Cond.selects RX12 yX12_setLetter yX12_setLetter : Cond) ∈ lw_good := lg_at 0 45 rfl rfl
theorem mw_6_122 : (Cond.code yX12_priceOf cX12_priceOf 2 (some .int) : Cond) ∈ lw_good := lg_at 6 122 rfl rfl
theorem mw_6_119 : (Cond.methodLink RX12 191 yX12_priceOf : Cond) ∈ lw_good := lg_at 6 119 rfl rfl
theorem mw_6_121 : (Cond.instanceMethod yX12_priceOf : Cond) ∈ lw_good := lg_at 6 121 rfl rfl
theorem mw_0_48 : (Cond.selects RX12 yX12_priceOf yX12_priceOf : Cond) ∈ lw_good := lg_at 0 48 rfl rfl
theorem mw_6_126 : (Cond.code yX12_worthIn cX12_worthIn 4 (some .int) : Cond) ∈ lw_good := lg_at 6 126 rfl rfl
theorem mw_6_123 : (Cond.methodLink RX12 194 yX12_worthIn : Cond) ∈ lw_good := lg_at 6 123 rfl rfl
theorem mw_6_125 : (Cond.instanceMethod yX12_worthIn : Cond) ∈ lw_good := lg_at 6 125 rfl rfl
theorem mw_0_49 : (Cond.selects RX12 yX12_worthIn yX12_worthIn : Cond) ∈ lw_good := lg_at 0 49 rfl rfl
theorem lb_X12_bearer_0 : dl_ck (cX12_bearer.data.toList.drop 0) [42, 27, 182, 0, 154, 153, 0, 26, 28, 3, 6, 184, 0, 77, 153, 0, 17, 42, 42, 27, 28, 182, 0, 173, 4, 182, 0, 103, 167, 0, 4, 2] = true := by decide +kernel
theorem lb_X12_bearer_1 : dl_ck (cX12_bearer.data.toList.drop 32) [172] = true := by decide +kernel
theorem dX12_bearer_0 : decode cX12_bearer 0 = .ok (.aload_n 0, 1) := dx_42 (dl_at 0 0 lb_X12_bearer_0 rfl)
theorem dX12_bearer_1 : decode cX12_bearer 1 = .ok (.iload_n 1, 1) := dx_27 (dl_at 0 1 lb_X12_bearer_0 rfl)
theorem dX12_bearer_2 : decode cX12_bearer 2 = .ok (.invokevirtual 154, 3) := dx_182 (a := 0) (b := 154) (dl_at 0 2 lb_X12_bearer_0 rfl) (dl_at 0 3 lb_X12_bearer_0 rfl) (dl_at 0 4 lb_X12_bearer_0 rfl) rfl
theorem dX12_bearer_5 : decode cX12_bearer 5 = .ok (.ifCond .eq 26, 3) := dx_153 (a := 0) (b := 26) (dl_at 0 5 lb_X12_bearer_0 rfl) (dl_at 0 6 lb_X12_bearer_0 rfl) (dl_at 0 7 lb_X12_bearer_0 rfl) sg16_26
theorem dX12_bearer_8 : decode cX12_bearer 8 = .ok (.iload_n 2, 1) := dx_28 (dl_at 0 8 lb_X12_bearer_0 rfl)
theorem dX12_bearer_9 : decode cX12_bearer 9 = .ok (.iconst 0, 1) := dx_3 (dl_at 0 9 lb_X12_bearer_0 rfl)
theorem dX12_bearer_10 : decode cX12_bearer 10 = .ok (.iconst 3, 1) := dx_6 (dl_at 0 10 lb_X12_bearer_0 rfl)
theorem dX12_bearer_11 : decode cX12_bearer 11 = .ok (.invokestatic 77, 3) := dx_184 (a := 0) (b := 77) (dl_at 0 11 lb_X12_bearer_0 rfl) (dl_at 0 12 lb_X12_bearer_0 rfl) (dl_at 0 13 lb_X12_bearer_0 rfl) rfl
theorem dX12_bearer_14 : decode cX12_bearer 14 = .ok (.ifCond .eq 17, 3) := dx_153 (a := 0) (b := 17) (dl_at 0 14 lb_X12_bearer_0 rfl) (dl_at 0 15 lb_X12_bearer_0 rfl) (dl_at 0 16 lb_X12_bearer_0 rfl) sg16_17
theorem dX12_bearer_17 : decode cX12_bearer 17 = .ok (.aload_n 0, 1) := dx_42 (dl_at 0 17 lb_X12_bearer_0 rfl)
theorem dX12_bearer_18 : decode cX12_bearer 18 = .ok (.aload_n 0, 1) := dx_42 (dl_at 0 18 lb_X12_bearer_0 rfl)
theorem dX12_bearer_19 : decode cX12_bearer 19 = .ok (.iload_n 1, 1) := dx_27 (dl_at 0 19 lb_X12_bearer_0 rfl)
theorem dX12_bearer_20 : decode cX12_bearer 20 = .ok (.iload_n 2, 1) := dx_28 (dl_at 0 20 lb_X12_bearer_0 rfl)
theorem dX12_bearer_21 : decode cX12_bearer 21 = .ok (.invokevirtual 173, 3) := dx_182 (a := 0) (b := 173) (dl_at 0 21 lb_X12_bearer_0 rfl) (dl_at 0 22 lb_X12_bearer_0 rfl) (dl_at 0 23 lb_X12_bearer_0 rfl) rfl
theorem dX12_bearer_24 : decode cX12_bearer 24 = .ok (.iconst 1, 1) := dx_4 (dl_at 0 24 lb_X12_bearer_0 rfl)
theorem dX12_bearer_25 : decode cX12_bearer 25 = .ok (.invokevirtual 103, 3) := dx_182 (a := 0) (b := 103) (dl_at 0 25 lb_X12_bearer_0 rfl) (dl_at 0 26 lb_X12_bearer_0 rfl) (dl_at 0 27 lb_X12_bearer_0 rfl) rfl
theorem dX12_bearer_28 : decode cX12_bearer 28 = .ok (.goto 4, 3) := dx_167 (a := 0) (b := 4) (dl_at 0 28 lb_X12_bearer_0 rfl) (dl_at 0 29 lb_X12_bearer_0 rfl) (dl_at 0 30 lb_X12_bearer_0 rfl) sg16_4
theorem dX12_bearer_32 : decode cX12_bearer 32 = .ok (.ireturn, 1) := dx_172 (dl_at 32 0 lb_X12_bearer_1 rfl)
theorem dX12_bearer_31 : decode cX12_bearer 31 = .ok (.iconst (-1), 1) := dx_2 (dl_at 0 31 lb_X12_bearer_0 rfl)
theorem lb_X12_friendsBeside_0 : dl_ck (cX12_friendsBeside.data.toList.drop 0) [3, 61, 3, 62, 29, 42, 180, 0, 136, 162, 0, 38, 28, 42, 27, 182, 0, 167, 29, 184, 0, 157, 153, 0, 16, 42, 29, 5, 182, 0, 176, 153] = true := by decide +kernel
theorem lb_X12_friendsBeside_1 : dl_ck (cX12_friendsBeside.data.toList.drop 32) [0, 7, 4, 167, 0, 4, 3, 96, 61, 132, 3, 1, 167, 255, 216, 28, 172] = true := by decide +kernel
theorem dX12_friendsBeside_0 : decode cX12_friendsBeside 0 = .ok (.iconst 0, 1) := dx_3 (dl_at 0 0 lb_X12_friendsBeside_0 rfl)
theorem dX12_friendsBeside_1 : decode cX12_friendsBeside 1 = .ok (.istore_n 2, 1) := dx_61 (dl_at 0 1 lb_X12_friendsBeside_0 rfl)
theorem dX12_friendsBeside_2 : decode cX12_friendsBeside 2 = .ok (.iconst 0, 1) := dx_3 (dl_at 0 2 lb_X12_friendsBeside_0 rfl)
theorem dX12_friendsBeside_3 : decode cX12_friendsBeside 3 = .ok (.istore_n 3, 1) := dx_62 (dl_at 0 3 lb_X12_friendsBeside_0 rfl)
theorem dX12_friendsBeside_4 : decode cX12_friendsBeside 4 = .ok (.iload_n 3, 1) := dx_29 (dl_at 0 4 lb_X12_friendsBeside_0 rfl)
theorem dX12_friendsBeside_5 : decode cX12_friendsBeside 5 = .ok (.aload_n 0, 1) := dx_42 (dl_at 0 5 lb_X12_friendsBeside_0 rfl)
theorem dX12_friendsBeside_6 : decode cX12_friendsBeside 6 = .ok (.getfield 136, 3) := dx_180 (a := 0) (b := 136) (dl_at 0 6 lb_X12_friendsBeside_0 rfl) (dl_at 0 7 lb_X12_friendsBeside_0 rfl) (dl_at 0 8 lb_X12_friendsBeside_0 rfl) rfl
theorem dX12_friendsBeside_9 : decode cX12_friendsBeside 9 = .ok (.if_icmp .ge 38, 3) := dx_162 (a := 0) (b := 38) (dl_at 0 9 lb_X12_friendsBeside_0 rfl) (dl_at 0 10 lb_X12_friendsBeside_0 rfl) (dl_at 0 11 lb_X12_friendsBeside_0 rfl) sg16_38
theorem dX12_friendsBeside_47 : decode cX12_friendsBeside 47 = .ok (.iload_n 2, 1) := dx_28 (dl_at 32 15 lb_X12_friendsBeside_1 rfl)
theorem dX12_friendsBeside_48 : decode cX12_friendsBeside 48 = .ok (.ireturn, 1) := dx_172 (dl_at 32 16 lb_X12_friendsBeside_1 rfl)
theorem dX12_friendsBeside_12 : decode cX12_friendsBeside 12 = .ok (.iload_n 2, 1) := dx_28 (dl_at 0 12 lb_X12_friendsBeside_0 rfl)
theorem dX12_friendsBeside_13 : decode cX12_friendsBeside 13 = .ok (.aload_n 0, 1) := dx_42 (dl_at 0 13 lb_X12_friendsBeside_0 rfl)
theorem dX12_friendsBeside_14 : decode cX12_friendsBeside 14 = .ok (.iload_n 1, 1) := dx_27 (dl_at 0 14 lb_X12_friendsBeside_0 rfl)
theorem dX12_friendsBeside_15 : decode cX12_friendsBeside 15 = .ok (.invokevirtual 167, 3) := dx_182 (a := 0) (b := 167) (dl_at 0 15 lb_X12_friendsBeside_0 rfl) (dl_at 0 16 lb_X12_friendsBeside_0 rfl) (dl_at 0 17 lb_X12_friendsBeside_0 rfl) rfl
theorem dX12_friendsBeside_18 : decode cX12_friendsBeside 18 = .ok (.iload_n 3, 1) := dx_29 (dl_at 0 18 lb_X12_friendsBeside_0 rfl)
theorem dX12_friendsBeside_19 : decode cX12_friendsBeside 19 = .ok (.invokestatic 157, 3) := dx_184 (a := 0) (b := 157) (dl_at 0 19 lb_X12_friendsBeside_0 rfl) (dl_at 0 20 lb_X12_friendsBeside_0 rfl) (dl_at 0 21 lb_X12_friendsBeside_0 rfl) rfl
theorem dX12_friendsBeside_22 : decode cX12_friendsBeside 22 = .ok (.ifCond .eq 16, 3) := dx_153 (a := 0) (b := 16) (dl_at 0 22 lb_X12_friendsBeside_0 rfl) (dl_at 0 23 lb_X12_friendsBeside_0 rfl) (dl_at 0 24 lb_X12_friendsBeside_0 rfl) sg16_16
theorem dX12_friendsBeside_25 : decode cX12_friendsBeside 25 = .ok (.aload_n 0, 1) := dx_42 (dl_at 0 25 lb_X12_friendsBeside_0 rfl)
theorem dX12_friendsBeside_26 : decode cX12_friendsBeside 26 = .ok (.iload_n 3, 1) := dx_29 (dl_at 0 26 lb_X12_friendsBeside_0 rfl)
theorem dX12_friendsBeside_27 : decode cX12_friendsBeside 27 = .ok (.iconst 2, 1) := dx_5 (dl_at 0 27 lb_X12_friendsBeside_0 rfl)
theorem dX12_friendsBeside_28 : decode cX12_friendsBeside 28 = .ok (.invokevirtual 176, 3) := dx_182 (a := 0) (b := 176) (dl_at 0 28 lb_X12_friendsBeside_0 rfl) (dl_at 0 29 lb_X12_friendsBeside_0 rfl) (dl_at 0 30 lb_X12_friendsBeside_0 rfl) rfl
theorem dX12_friendsBeside_31 : decode cX12_friendsBeside 31 = .ok (.ifCond .eq 7, 3) := dx_153 (a := 0) (b := 7) (dl_at 0 31 lb_X12_friendsBeside_0 rfl) (dl_at 32 0 lb_X12_friendsBeside_1 rfl) (dl_at 32 1 lb_X12_friendsBeside_1 rfl) sg16_7
theorem dX12_friendsBeside_38 : decode cX12_friendsBeside 38 = .ok (.iconst 0, 1) := dx_3 (dl_at 32 6 lb_X12_friendsBeside_1 rfl)
theorem dX12_friendsBeside_39 : decode cX12_friendsBeside 39 = .ok (.iadd, 1) := dx_96 (dl_at 32 7 lb_X12_friendsBeside_1 rfl)
theorem dX12_friendsBeside_40 : decode cX12_friendsBeside 40 = .ok (.istore_n 2, 1) := dx_61 (dl_at 32 8 lb_X12_friendsBeside_1 rfl)
theorem dX12_friendsBeside_41 : decode cX12_friendsBeside 41 = .ok (.iinc 3 1, 3) := dx_132 (dl_at 32 9 lb_X12_friendsBeside_1 rfl) (dl_at 32 10 lb_X12_friendsBeside_1 rfl) (dl_at 32 11 lb_X12_friendsBeside_1 rfl) sg8_1
theorem dX12_friendsBeside_44 : decode cX12_friendsBeside 44 = .ok (.goto (-40), 3) := dx_167 (a := 255) (b := 216) (dl_at 32 12 lb_X12_friendsBeside_1 rfl) (dl_at 32 13 lb_X12_friendsBeside_1 rfl) (dl_at 32 14 lb_X12_friendsBeside_1 rfl) sg16_65496
theorem dX12_friendsBeside_34 : decode cX12_friendsBeside 34 = .ok (.iconst 1, 1) := dx_4 (dl_at 32 2 lb_X12_friendsBeside_1 rfl)
theorem dX12_friendsBeside_35 : decode cX12_friendsBeside 35 = .ok (.goto 4, 3) := dx_167 (a := 0) (b := 4) (dl_at 32 3 lb_X12_friendsBeside_1 rfl) (dl_at 32 4 lb_X12_friendsBeside_1 rfl) (dl_at 32 5 lb_X12_friendsBeside_1 rfl) sg16_4
theorem lb_X12_mark_0 : dl_ck (cX12_mark.data.toList.drop 0) [42, 27, 182, 0, 154, 153, 0, 12, 28, 4, 8, 184, 0, 77, 154, 0, 5, 2, 172, 42, 27, 28, 182, 0, 176, 154, 0, 9, 42, 6, 182, 0] = true := by decide +kernel
theorem lb_X12_mark_1 : dl_ck (cX12_mark.data.toList.drop 32) [85, 172, 3, 62, 3, 54, 4, 3, 54, 5, 21, 5, 42, 180, 0, 148, 162, 0, 74, 29, 42, 21, 5, 4, 182, 0, 161, 27, 160, 0, 16, 42] = true := by decide +kernel
theorem lb_X12_mark_2 : dl_ck (cX12_mark.data.toList.drop 64) [21, 5, 182, 0, 164, 154, 0, 7, 4, 167, 0, 4, 3, 96, 62, 21, 4, 42, 21, 5, 8, 182, 0, 161, 27, 160, 0, 23, 42, 21, 5, 182] = true := by decide +kernel
theorem lb_X12_mark_3 : dl_ck (cX12_mark.data.toList.drop 96) [0, 164, 154, 0, 14, 42, 21, 5, 16, 6, 182, 0, 161, 167, 0, 4, 3, 96, 54, 4, 132, 5, 1, 167, 255, 179, 28, 170, 0, 0, 0, 54] = true := by decide +kernel
theorem lb_X12_mark_4 : dl_ck (cX12_mark.data.toList.drop 128) [0, 0, 0, 1, 0, 0, 0, 4, 0, 0, 0, 29, 0, 0, 0, 38, 0, 0, 0, 44, 0, 0, 0, 46, 42, 27, 3, 182, 0, 179, 4, 100] = true := by decide +kernel
theorem lb_X12_mark_5 : dl_ck (cX12_mark.data.toList.drop 160) [172, 42, 27, 182, 0, 182, 172, 29, 172, 42, 27, 16, 10, 182, 0, 179, 172, 21, 4, 172] = true := by decide +kernel
theorem dX12_mark_0 : decode cX12_mark 0 = .ok (.aload_n 0, 1) := dx_42 (dl_at 0 0 lb_X12_mark_0 rfl)
theorem dX12_mark_1 : decode cX12_mark 1 = .ok (.iload_n 1, 1) := dx_27 (dl_at 0 1 lb_X12_mark_0 rfl)
theorem dX12_mark_2 : decode cX12_mark 2 = .ok (.invokevirtual 154, 3) := dx_182 (a := 0) (b := 154) (dl_at 0 2 lb_X12_mark_0 rfl) (dl_at 0 3 lb_X12_mark_0 rfl) (dl_at 0 4 lb_X12_mark_0 rfl) rfl
theorem dX12_mark_5 : decode cX12_mark 5 = .ok (.ifCond .eq 12, 3) := dx_153 (a := 0) (b := 12) (dl_at 0 5 lb_X12_mark_0 rfl) (dl_at 0 6 lb_X12_mark_0 rfl) (dl_at 0 7 lb_X12_mark_0 rfl) sg16_12
theorem dX12_mark_8 : decode cX12_mark 8 = .ok (.iload_n 2, 1) := dx_28 (dl_at 0 8 lb_X12_mark_0 rfl)
theorem dX12_mark_9 : decode cX12_mark 9 = .ok (.iconst 1, 1) := dx_4 (dl_at 0 9 lb_X12_mark_0 rfl)
theorem dX12_mark_10 : decode cX12_mark 10 = .ok (.iconst 5, 1) := dx_8 (dl_at 0 10 lb_X12_mark_0 rfl)
theorem dX12_mark_11 : decode cX12_mark 11 = .ok (.invokestatic 77, 3) := dx_184 (a := 0) (b := 77) (dl_at 0 11 lb_X12_mark_0 rfl) (dl_at 0 12 lb_X12_mark_0 rfl) (dl_at 0 13 lb_X12_mark_0 rfl) rfl
theorem dX12_mark_14 : decode cX12_mark 14 = .ok (.ifCond .ne 5, 3) := dx_154 (a := 0) (b := 5) (dl_at 0 14 lb_X12_mark_0 rfl) (dl_at 0 15 lb_X12_mark_0 rfl) (dl_at 0 16 lb_X12_mark_0 rfl) sg16_5
theorem dX12_mark_19 : decode cX12_mark 19 = .ok (.aload_n 0, 1) := dx_42 (dl_at 0 19 lb_X12_mark_0 rfl)
theorem dX12_mark_20 : decode cX12_mark 20 = .ok (.iload_n 1, 1) := dx_27 (dl_at 0 20 lb_X12_mark_0 rfl)
theorem dX12_mark_21 : decode cX12_mark 21 = .ok (.iload_n 2, 1) := dx_28 (dl_at 0 21 lb_X12_mark_0 rfl)
theorem dX12_mark_22 : decode cX12_mark 22 = .ok (.invokevirtual 176, 3) := dx_182 (a := 0) (b := 176) (dl_at 0 22 lb_X12_mark_0 rfl) (dl_at 0 23 lb_X12_mark_0 rfl) (dl_at 0 24 lb_X12_mark_0 rfl) rfl
theorem dX12_mark_25 : decode cX12_mark 25 = .ok (.ifCond .ne 9, 3) := dx_154 (a := 0) (b := 9) (dl_at 0 25 lb_X12_mark_0 rfl) (dl_at 0 26 lb_X12_mark_0 rfl) (dl_at 0 27 lb_X12_mark_0 rfl) sg16_9
theorem dX12_mark_34 : decode cX12_mark 34 = .ok (.iconst 0, 1) := dx_3 (dl_at 32 2 lb_X12_mark_1 rfl)
theorem dX12_mark_35 : decode cX12_mark 35 = .ok (.istore_n 3, 1) := dx_62 (dl_at 32 3 lb_X12_mark_1 rfl)
theorem dX12_mark_36 : decode cX12_mark 36 = .ok (.iconst 0, 1) := dx_3 (dl_at 32 4 lb_X12_mark_1 rfl)
theorem dX12_mark_37 : decode cX12_mark 37 = .ok (.istore 4, 2) := dx_54 (dl_at 32 5 lb_X12_mark_1 rfl) (dl_at 32 6 lb_X12_mark_1 rfl)
theorem dX12_mark_39 : decode cX12_mark 39 = .ok (.iconst 0, 1) := dx_3 (dl_at 32 7 lb_X12_mark_1 rfl)
theorem dX12_mark_40 : decode cX12_mark 40 = .ok (.istore 5, 2) := dx_54 (dl_at 32 8 lb_X12_mark_1 rfl) (dl_at 32 9 lb_X12_mark_1 rfl)
theorem dX12_mark_42 : decode cX12_mark 42 = .ok (.iload 5, 2) := dx_21 (dl_at 32 10 lb_X12_mark_1 rfl) (dl_at 32 11 lb_X12_mark_1 rfl)
theorem dX12_mark_44 : decode cX12_mark 44 = .ok (.aload_n 0, 1) := dx_42 (dl_at 32 12 lb_X12_mark_1 rfl)
theorem dX12_mark_45 : decode cX12_mark 45 = .ok (.getfield 148, 3) := dx_180 (a := 0) (b := 148) (dl_at 32 13 lb_X12_mark_1 rfl) (dl_at 32 14 lb_X12_mark_1 rfl) (dl_at 32 15 lb_X12_mark_1 rfl) rfl
theorem dX12_mark_48 : decode cX12_mark 48 = .ok (.if_icmp .ge 74, 3) := dx_162 (a := 0) (b := 74) (dl_at 32 16 lb_X12_mark_1 rfl) (dl_at 32 17 lb_X12_mark_1 rfl) (dl_at 32 18 lb_X12_mark_1 rfl) sg16_74
theorem dX12_mark_122 : decode cX12_mark 122 = .ok (.iload_n 2, 1) := dx_28 (dl_at 96 26 lb_X12_mark_3 rfl)
theorem dX12_mark_123 : decode cX12_mark 123 = .ok (.tableswitch 54 1 4 #[29, 38, 44, 46], 29) := by decide +kernel
theorem dX12_mark_177 : decode cX12_mark 177 = .ok (.iload 4, 2) := dx_21 (dl_at 160 17 lb_X12_mark_5 rfl) (dl_at 160 18 lb_X12_mark_5 rfl)
theorem dX12_mark_179 : decode cX12_mark 179 = .ok (.ireturn, 1) := dx_172 (dl_at 160 19 lb_X12_mark_5 rfl)
theorem dX12_mark_152 : decode cX12_mark 152 = .ok (.aload_n 0, 1) := dx_42 (dl_at 128 24 lb_X12_mark_4 rfl)
theorem dX12_mark_153 : decode cX12_mark 153 = .ok (.iload_n 1, 1) := dx_27 (dl_at 128 25 lb_X12_mark_4 rfl)
theorem dX12_mark_154 : decode cX12_mark 154 = .ok (.iconst 0, 1) := dx_3 (dl_at 128 26 lb_X12_mark_4 rfl)
theorem dX12_mark_155 : decode cX12_mark 155 = .ok (.invokevirtual 179, 3) := dx_182 (a := 0) (b := 179) (dl_at 128 27 lb_X12_mark_4 rfl) (dl_at 128 28 lb_X12_mark_4 rfl) (dl_at 128 29 lb_X12_mark_4 rfl) rfl
theorem dX12_mark_158 : decode cX12_mark 158 = .ok (.iconst 1, 1) := dx_4 (dl_at 128 30 lb_X12_mark_4 rfl)
theorem dX12_mark_159 : decode cX12_mark 159 = .ok (.isub, 1) := dx_100 (dl_at 128 31 lb_X12_mark_4 rfl)
theorem dX12_mark_160 : decode cX12_mark 160 = .ok (.ireturn, 1) := dx_172 (dl_at 160 0 lb_X12_mark_5 rfl)
theorem dX12_mark_161 : decode cX12_mark 161 = .ok (.aload_n 0, 1) := dx_42 (dl_at 160 1 lb_X12_mark_5 rfl)
theorem dX12_mark_162 : decode cX12_mark 162 = .ok (.iload_n 1, 1) := dx_27 (dl_at 160 2 lb_X12_mark_5 rfl)
theorem dX12_mark_163 : decode cX12_mark 163 = .ok (.invokevirtual 182, 3) := dx_182 (a := 0) (b := 182) (dl_at 160 3 lb_X12_mark_5 rfl) (dl_at 160 4 lb_X12_mark_5 rfl) (dl_at 160 5 lb_X12_mark_5 rfl) rfl
theorem dX12_mark_166 : decode cX12_mark 166 = .ok (.ireturn, 1) := dx_172 (dl_at 160 6 lb_X12_mark_5 rfl)
theorem dX12_mark_167 : decode cX12_mark 167 = .ok (.iload_n 3, 1) := dx_29 (dl_at 160 7 lb_X12_mark_5 rfl)
theorem dX12_mark_168 : decode cX12_mark 168 = .ok (.ireturn, 1) := dx_172 (dl_at 160 8 lb_X12_mark_5 rfl)
theorem dX12_mark_169 : decode cX12_mark 169 = .ok (.aload_n 0, 1) := dx_42 (dl_at 160 9 lb_X12_mark_5 rfl)
theorem dX12_mark_170 : decode cX12_mark 170 = .ok (.iload_n 1, 1) := dx_27 (dl_at 160 10 lb_X12_mark_5 rfl)
theorem dX12_mark_171 : decode cX12_mark 171 = .ok (.bipush 10, 2) := dx_16 (dl_at 160 11 lb_X12_mark_5 rfl) (dl_at 160 12 lb_X12_mark_5 rfl) sg8_10
theorem dX12_mark_173 : decode cX12_mark 173 = .ok (.invokevirtual 179, 3) := dx_182 (a := 0) (b := 179) (dl_at 160 13 lb_X12_mark_5 rfl) (dl_at 160 14 lb_X12_mark_5 rfl) (dl_at 160 15 lb_X12_mark_5 rfl) rfl
theorem dX12_mark_176 : decode cX12_mark 176 = .ok (.ireturn, 1) := dx_172 (dl_at 160 16 lb_X12_mark_5 rfl)
theorem dX12_mark_51 : decode cX12_mark 51 = .ok (.iload_n 3, 1) := dx_29 (dl_at 32 19 lb_X12_mark_1 rfl)
theorem dX12_mark_52 : decode cX12_mark 52 = .ok (.aload_n 0, 1) := dx_42 (dl_at 32 20 lb_X12_mark_1 rfl)
theorem dX12_mark_53 : decode cX12_mark 53 = .ok (.iload 5, 2) := dx_21 (dl_at 32 21 lb_X12_mark_1 rfl) (dl_at 32 22 lb_X12_mark_1 rfl)
theorem dX12_mark_55 : decode cX12_mark 55 = .ok (.iconst 1, 1) := dx_4 (dl_at 32 23 lb_X12_mark_1 rfl)
theorem dX12_mark_56 : decode cX12_mark 56 = .ok (.invokevirtual 161, 3) := dx_182 (a := 0) (b := 161) (dl_at 32 24 lb_X12_mark_1 rfl) (dl_at 32 25 lb_X12_mark_1 rfl) (dl_at 32 26 lb_X12_mark_1 rfl) rfl
theorem dX12_mark_59 : decode cX12_mark 59 = .ok (.iload_n 1, 1) := dx_27 (dl_at 32 27 lb_X12_mark_1 rfl)
theorem dX12_mark_60 : decode cX12_mark 60 = .ok (.if_icmp .ne 16, 3) := dx_160 (a := 0) (b := 16) (dl_at 32 28 lb_X12_mark_1 rfl) (dl_at 32 29 lb_X12_mark_1 rfl) (dl_at 32 30 lb_X12_mark_1 rfl) sg16_16
theorem dX12_mark_76 : decode cX12_mark 76 = .ok (.iconst 0, 1) := dx_3 (dl_at 64 12 lb_X12_mark_2 rfl)
theorem dX12_mark_77 : decode cX12_mark 77 = .ok (.iadd, 1) := dx_96 (dl_at 64 13 lb_X12_mark_2 rfl)
theorem dX12_mark_78 : decode cX12_mark 78 = .ok (.istore_n 3, 1) := dx_62 (dl_at 64 14 lb_X12_mark_2 rfl)
theorem dX12_mark_79 : decode cX12_mark 79 = .ok (.iload 4, 2) := dx_21 (dl_at 64 15 lb_X12_mark_2 rfl) (dl_at 64 16 lb_X12_mark_2 rfl)
theorem dX12_mark_81 : decode cX12_mark 81 = .ok (.aload_n 0, 1) := dx_42 (dl_at 64 17 lb_X12_mark_2 rfl)
theorem dX12_mark_82 : decode cX12_mark 82 = .ok (.iload 5, 2) := dx_21 (dl_at 64 18 lb_X12_mark_2 rfl) (dl_at 64 19 lb_X12_mark_2 rfl)
theorem dX12_mark_84 : decode cX12_mark 84 = .ok (.iconst 5, 1) := dx_8 (dl_at 64 20 lb_X12_mark_2 rfl)
theorem dX12_mark_85 : decode cX12_mark 85 = .ok (.invokevirtual 161, 3) := dx_182 (a := 0) (b := 161) (dl_at 64 21 lb_X12_mark_2 rfl) (dl_at 64 22 lb_X12_mark_2 rfl) (dl_at 64 23 lb_X12_mark_2 rfl) rfl
theorem dX12_mark_88 : decode cX12_mark 88 = .ok (.iload_n 1, 1) := dx_27 (dl_at 64 24 lb_X12_mark_2 rfl)
theorem dX12_mark_89 : decode cX12_mark 89 = .ok (.if_icmp .ne 23, 3) := dx_160 (a := 0) (b := 23) (dl_at 64 25 lb_X12_mark_2 rfl) (dl_at 64 26 lb_X12_mark_2 rfl) (dl_at 64 27 lb_X12_mark_2 rfl) sg16_23
theorem dX12_mark_112 : decode cX12_mark 112 = .ok (.iconst 0, 1) := dx_3 (dl_at 96 16 lb_X12_mark_3 rfl)
theorem dX12_mark_113 : decode cX12_mark 113 = .ok (.iadd, 1) := dx_96 (dl_at 96 17 lb_X12_mark_3 rfl)
theorem dX12_mark_114 : decode cX12_mark 114 = .ok (.istore 4, 2) := dx_54 (dl_at 96 18 lb_X12_mark_3 rfl) (dl_at 96 19 lb_X12_mark_3 rfl)
theorem dX12_mark_116 : decode cX12_mark 116 = .ok (.iinc 5 1, 3) := dx_132 (dl_at 96 20 lb_X12_mark_3 rfl) (dl_at 96 21 lb_X12_mark_3 rfl) (dl_at 96 22 lb_X12_mark_3 rfl) sg8_1
theorem dX12_mark_119 : decode cX12_mark 119 = .ok (.goto (-77), 3) := dx_167 (a := 255) (b := 179) (dl_at 96 23 lb_X12_mark_3 rfl) (dl_at 96 24 lb_X12_mark_3 rfl) (dl_at 96 25 lb_X12_mark_3 rfl) sg16_65459
theorem dX12_mark_92 : decode cX12_mark 92 = .ok (.aload_n 0, 1) := dx_42 (dl_at 64 28 lb_X12_mark_2 rfl)
theorem dX12_mark_93 : decode cX12_mark 93 = .ok (.iload 5, 2) := dx_21 (dl_at 64 29 lb_X12_mark_2 rfl) (dl_at 64 30 lb_X12_mark_2 rfl)
theorem dX12_mark_95 : decode cX12_mark 95 = .ok (.invokevirtual 164, 3) := dx_182 (a := 0) (b := 164) (dl_at 64 31 lb_X12_mark_2 rfl) (dl_at 96 0 lb_X12_mark_3 rfl) (dl_at 96 1 lb_X12_mark_3 rfl) rfl
theorem dX12_mark_98 : decode cX12_mark 98 = .ok (.ifCond .ne 14, 3) := dx_154 (a := 0) (b := 14) (dl_at 96 2 lb_X12_mark_3 rfl) (dl_at 96 3 lb_X12_mark_3 rfl) (dl_at 96 4 lb_X12_mark_3 rfl) sg16_14
theorem dX12_mark_101 : decode cX12_mark 101 = .ok (.aload_n 0, 1) := dx_42 (dl_at 96 5 lb_X12_mark_3 rfl)
theorem dX12_mark_102 : decode cX12_mark 102 = .ok (.iload 5, 2) := dx_21 (dl_at 96 6 lb_X12_mark_3 rfl) (dl_at 96 7 lb_X12_mark_3 rfl)
theorem dX12_mark_104 : decode cX12_mark 104 = .ok (.bipush 6, 2) := dx_16 (dl_at 96 8 lb_X12_mark_3 rfl) (dl_at 96 9 lb_X12_mark_3 rfl) sg8_6
theorem dX12_mark_106 : decode cX12_mark 106 = .ok (.invokevirtual 161, 3) := dx_182 (a := 0) (b := 161) (dl_at 96 10 lb_X12_mark_3 rfl) (dl_at 96 11 lb_X12_mark_3 rfl) (dl_at 96 12 lb_X12_mark_3 rfl) rfl
theorem dX12_mark_109 : decode cX12_mark 109 = .ok (.goto 4, 3) := dx_167 (a := 0) (b := 4) (dl_at 96 13 lb_X12_mark_3 rfl) (dl_at 96 14 lb_X12_mark_3 rfl) (dl_at 96 15 lb_X12_mark_3 rfl) sg16_4
theorem dX12_mark_63 : decode cX12_mark 63 = .ok (.aload_n 0, 1) := dx_42 (dl_at 32 31 lb_X12_mark_1 rfl)
theorem dX12_mark_64 : decode cX12_mark 64 = .ok (.iload 5, 2) := dx_21 (dl_at 64 0 lb_X12_mark_2 rfl) (dl_at 64 1 lb_X12_mark_2 rfl)
theorem dX12_mark_66 : decode cX12_mark 66 = .ok (.invokevirtual 164, 3) := dx_182 (a := 0) (b := 164) (dl_at 64 2 lb_X12_mark_2 rfl) (dl_at 64 3 lb_X12_mark_2 rfl) (dl_at 64 4 lb_X12_mark_2 rfl) rfl
theorem dX12_mark_69 : decode cX12_mark 69 = .ok (.ifCond .ne 7, 3) := dx_154 (a := 0) (b := 7) (dl_at 64 5 lb_X12_mark_2 rfl) (dl_at 64 6 lb_X12_mark_2 rfl) (dl_at 64 7 lb_X12_mark_2 rfl) sg16_7
theorem dX12_mark_72 : decode cX12_mark 72 = .ok (.iconst 1, 1) := dx_4 (dl_at 64 8 lb_X12_mark_2 rfl)
theorem dX12_mark_73 : decode cX12_mark 73 = .ok (.goto 4, 3) := dx_167 (a := 0) (b := 4) (dl_at 64 9 lb_X12_mark_2 rfl) (dl_at 64 10 lb_X12_mark_2 rfl) (dl_at 64 11 lb_X12_mark_2 rfl) sg16_4
theorem dX12_mark_28 : decode cX12_mark 28 = .ok (.aload_n 0, 1) := dx_42 (dl_at 0 28 lb_X12_mark_0 rfl)
theorem dX12_mark_29 : decode cX12_mark 29 = .ok (.iconst 3, 1) := dx_6 (dl_at 0 29 lb_X12_mark_0 rfl)
theorem dX12_mark_30 : decode cX12_mark 30 = .ok (.invokevirtual 85, 3) := dx_182 (a := 0) (b := 85) (dl_at 0 30 lb_X12_mark_0 rfl) (dl_at 0 31 lb_X12_mark_0 rfl) (dl_at 32 0 lb_X12_mark_1 rfl) rfl
theorem dX12_mark_33 : decode cX12_mark 33 = .ok (.ireturn, 1) := dx_172 (dl_at 32 1 lb_X12_mark_1 rfl)
theorem dX12_mark_17 : decode cX12_mark 17 = .ok (.iconst (-1), 1) := dx_2 (dl_at 0 17 lb_X12_mark_0 rfl)
theorem dX12_mark_18 : decode cX12_mark 18 = .ok (.ireturn, 1) := dx_172 (dl_at 0 18 lb_X12_mark_0 rfl)
theorem lb_X12_purse_0 : dl_ck (cX12_purse.data.toList.drop 0) [42, 27, 182, 0, 154, 153, 0, 14, 28, 3, 17, 3, 231, 184, 0, 77, 154, 0, 5, 2, 172, 42, 180, 0, 31, 27, 46, 62, 42, 180, 0, 31] = true := by decide +kernel
theorem lb_X12_purse_1 : dl_ck (cX12_purse.data.toList.drop 32) [27, 28, 79, 29, 172] = true := by decide +kernel
theorem dX12_purse_0 : decode cX12_purse 0 = .ok (.aload_n 0, 1) := dx_42 (dl_at 0 0 lb_X12_purse_0 rfl)
theorem dX12_purse_1 : decode cX12_purse 1 = .ok (.iload_n 1, 1) := dx_27 (dl_at 0 1 lb_X12_purse_0 rfl)
theorem dX12_purse_2 : decode cX12_purse 2 = .ok (.invokevirtual 154, 3) := dx_182 (a := 0) (b := 154) (dl_at 0 2 lb_X12_purse_0 rfl) (dl_at 0 3 lb_X12_purse_0 rfl) (dl_at 0 4 lb_X12_purse_0 rfl) rfl
theorem dX12_purse_5 : decode cX12_purse 5 = .ok (.ifCond .eq 14, 3) := dx_153 (a := 0) (b := 14) (dl_at 0 5 lb_X12_purse_0 rfl) (dl_at 0 6 lb_X12_purse_0 rfl) (dl_at 0 7 lb_X12_purse_0 rfl) sg16_14
theorem dX12_purse_8 : decode cX12_purse 8 = .ok (.iload_n 2, 1) := dx_28 (dl_at 0 8 lb_X12_purse_0 rfl)
theorem dX12_purse_9 : decode cX12_purse 9 = .ok (.iconst 0, 1) := dx_3 (dl_at 0 9 lb_X12_purse_0 rfl)
theorem dX12_purse_10 : decode cX12_purse 10 = .ok (.sipush 999, 3) := dx_17 (a := 3) (b := 231) (dl_at 0 10 lb_X12_purse_0 rfl) (dl_at 0 11 lb_X12_purse_0 rfl) (dl_at 0 12 lb_X12_purse_0 rfl) sg16_999
theorem dX12_purse_13 : decode cX12_purse 13 = .ok (.invokestatic 77, 3) := dx_184 (a := 0) (b := 77) (dl_at 0 13 lb_X12_purse_0 rfl) (dl_at 0 14 lb_X12_purse_0 rfl) (dl_at 0 15 lb_X12_purse_0 rfl) rfl
theorem dX12_purse_16 : decode cX12_purse 16 = .ok (.ifCond .ne 5, 3) := dx_154 (a := 0) (b := 5) (dl_at 0 16 lb_X12_purse_0 rfl) (dl_at 0 17 lb_X12_purse_0 rfl) (dl_at 0 18 lb_X12_purse_0 rfl) sg16_5
theorem dX12_purse_21 : decode cX12_purse 21 = .ok (.aload_n 0, 1) := dx_42 (dl_at 0 21 lb_X12_purse_0 rfl)
theorem dX12_purse_22 : decode cX12_purse 22 = .ok (.getfield 31, 3) := dx_180 (a := 0) (b := 31) (dl_at 0 22 lb_X12_purse_0 rfl) (dl_at 0 23 lb_X12_purse_0 rfl) (dl_at 0 24 lb_X12_purse_0 rfl) rfl
theorem dX12_purse_25 : decode cX12_purse 25 = .ok (.iload_n 1, 1) := dx_27 (dl_at 0 25 lb_X12_purse_0 rfl)
theorem dX12_purse_26 : decode cX12_purse 26 = .ok (.iaload, 1) := dx_46 (dl_at 0 26 lb_X12_purse_0 rfl)
theorem dX12_purse_27 : decode cX12_purse 27 = .ok (.istore_n 3, 1) := dx_62 (dl_at 0 27 lb_X12_purse_0 rfl)
theorem dX12_purse_28 : decode cX12_purse 28 = .ok (.aload_n 0, 1) := dx_42 (dl_at 0 28 lb_X12_purse_0 rfl)
theorem dX12_purse_29 : decode cX12_purse 29 = .ok (.getfield 31, 3) := dx_180 (a := 0) (b := 31) (dl_at 0 29 lb_X12_purse_0 rfl) (dl_at 0 30 lb_X12_purse_0 rfl) (dl_at 0 31 lb_X12_purse_0 rfl) rfl
theorem dX12_purse_32 : decode cX12_purse 32 = .ok (.iload_n 1, 1) := dx_27 (dl_at 32 0 lb_X12_purse_1 rfl)
theorem dX12_purse_33 : decode cX12_purse 33 = .ok (.iload_n 2, 1) := dx_28 (dl_at 32 1 lb_X12_purse_1 rfl)
theorem dX12_purse_34 : decode cX12_purse 34 = .ok (.iastore, 1) := dx_79 (dl_at 32 2 lb_X12_purse_1 rfl)
theorem dX12_purse_35 : decode cX12_purse 35 = .ok (.iload_n 3, 1) := dx_29 (dl_at 32 3 lb_X12_purse_1 rfl)
theorem dX12_purse_36 : decode cX12_purse 36 = .ok (.ireturn, 1) := dx_172 (dl_at 32 4 lb_X12_purse_1 rfl)
theorem dX12_purse_19 : decode cX12_purse 19 = .ok (.iconst (-1), 1) := dx_2 (dl_at 0 19 lb_X12_purse_0 rfl)
theorem dX12_purse_20 : decode cX12_purse 20 = .ok (.ireturn, 1) := dx_172 (dl_at 0 20 lb_X12_purse_0 rfl)
theorem lb_X12_snow_0 : dl_ck (cX12_snow.data.toList.drop 0) [27, 3, 42, 180, 0, 139, 4, 100, 184, 0, 77, 153, 0, 12, 28, 3, 4, 184, 0, 77, 154, 0, 5, 2, 172, 42, 180, 0, 142, 27, 122, 4] = true := by decide +kernel
theorem lb_X12_snow_1 : dl_ck (cX12_snow.data.toList.drop 32) [126, 62, 42, 28, 4, 160, 0, 14, 42, 180, 0, 142, 4, 27, 120, 128, 167, 0, 13, 42, 180, 0, 142, 4, 27, 120, 2, 130, 126, 181, 0, 142] = true := by decide +kernel
theorem lb_X12_snow_2 : dl_ck (cX12_snow.data.toList.drop 64) [29, 172] = true := by decide +kernel
theorem dX12_snow_0 : decode cX12_snow 0 = .ok (.iload_n 1, 1) := dx_27 (dl_at 0 0 lb_X12_snow_0 rfl)
theorem dX12_snow_1 : decode cX12_snow 1 = .ok (.iconst 0, 1) := dx_3 (dl_at 0 1 lb_X12_snow_0 rfl)
theorem dX12_snow_2 : decode cX12_snow 2 = .ok (.aload_n 0, 1) := dx_42 (dl_at 0 2 lb_X12_snow_0 rfl)
theorem dX12_snow_3 : decode cX12_snow 3 = .ok (.getfield 139, 3) := dx_180 (a := 0) (b := 139) (dl_at 0 3 lb_X12_snow_0 rfl) (dl_at 0 4 lb_X12_snow_0 rfl) (dl_at 0 5 lb_X12_snow_0 rfl) rfl
theorem dX12_snow_6 : decode cX12_snow 6 = .ok (.iconst 1, 1) := dx_4 (dl_at 0 6 lb_X12_snow_0 rfl)
theorem dX12_snow_7 : decode cX12_snow 7 = .ok (.isub, 1) := dx_100 (dl_at 0 7 lb_X12_snow_0 rfl)
theorem dX12_snow_8 : decode cX12_snow 8 = .ok (.invokestatic 77, 3) := dx_184 (a := 0) (b := 77) (dl_at 0 8 lb_X12_snow_0 rfl) (dl_at 0 9 lb_X12_snow_0 rfl) (dl_at 0 10 lb_X12_snow_0 rfl) rfl
theorem dX12_snow_11 : decode cX12_snow 11 = .ok (.ifCond .eq 12, 3) := dx_153 (a := 0) (b := 12) (dl_at 0 11 lb_X12_snow_0 rfl) (dl_at 0 12 lb_X12_snow_0 rfl) (dl_at 0 13 lb_X12_snow_0 rfl) sg16_12
theorem dX12_snow_14 : decode cX12_snow 14 = .ok (.iload_n 2, 1) := dx_28 (dl_at 0 14 lb_X12_snow_0 rfl)
theorem dX12_snow_15 : decode cX12_snow 15 = .ok (.iconst 0, 1) := dx_3 (dl_at 0 15 lb_X12_snow_0 rfl)
theorem dX12_snow_16 : decode cX12_snow 16 = .ok (.iconst 1, 1) := dx_4 (dl_at 0 16 lb_X12_snow_0 rfl)
theorem dX12_snow_17 : decode cX12_snow 17 = .ok (.invokestatic 77, 3) := dx_184 (a := 0) (b := 77) (dl_at 0 17 lb_X12_snow_0 rfl) (dl_at 0 18 lb_X12_snow_0 rfl) (dl_at 0 19 lb_X12_snow_0 rfl) rfl
theorem dX12_snow_20 : decode cX12_snow 20 = .ok (.ifCond .ne 5, 3) := dx_154 (a := 0) (b := 5) (dl_at 0 20 lb_X12_snow_0 rfl) (dl_at 0 21 lb_X12_snow_0 rfl) (dl_at 0 22 lb_X12_snow_0 rfl) sg16_5
theorem dX12_snow_25 : decode cX12_snow 25 = .ok (.aload_n 0, 1) := dx_42 (dl_at 0 25 lb_X12_snow_0 rfl)
theorem dX12_snow_26 : decode cX12_snow 26 = .ok (.getfield 142, 3) := dx_180 (a := 0) (b := 142) (dl_at 0 26 lb_X12_snow_0 rfl) (dl_at 0 27 lb_X12_snow_0 rfl) (dl_at 0 28 lb_X12_snow_0 rfl) rfl
theorem dX12_snow_29 : decode cX12_snow 29 = .ok (.iload_n 1, 1) := dx_27 (dl_at 0 29 lb_X12_snow_0 rfl)
theorem dX12_snow_30 : decode cX12_snow 30 = .ok (.ishr, 1) := dx_122 (dl_at 0 30 lb_X12_snow_0 rfl)
theorem dX12_snow_31 : decode cX12_snow 31 = .ok (.iconst 1, 1) := dx_4 (dl_at 0 31 lb_X12_snow_0 rfl)
theorem dX12_snow_32 : decode cX12_snow 32 = .ok (.iand, 1) := dx_126 (dl_at 32 0 lb_X12_snow_1 rfl)
theorem dX12_snow_33 : decode cX12_snow 33 = .ok (.istore_n 3, 1) := dx_62 (dl_at 32 1 lb_X12_snow_1 rfl)
theorem dX12_snow_34 : decode cX12_snow 34 = .ok (.aload_n 0, 1) := dx_42 (dl_at 32 2 lb_X12_snow_1 rfl)
theorem dX12_snow_35 : decode cX12_snow 35 = .ok (.iload_n 2, 1) := dx_28 (dl_at 32 3 lb_X12_snow_1 rfl)
theorem dX12_snow_36 : decode cX12_snow 36 = .ok (.iconst 1, 1) := dx_4 (dl_at 32 4 lb_X12_snow_1 rfl)
theorem dX12_snow_37 : decode cX12_snow 37 = .ok (.if_icmp .ne 14, 3) := dx_160 (a := 0) (b := 14) (dl_at 32 5 lb_X12_snow_1 rfl) (dl_at 32 6 lb_X12_snow_1 rfl) (dl_at 32 7 lb_X12_snow_1 rfl) sg16_14
theorem dX12_snow_51 : decode cX12_snow 51 = .ok (.aload_n 0, 1) := dx_42 (dl_at 32 19 lb_X12_snow_1 rfl)
theorem dX12_snow_52 : decode cX12_snow 52 = .ok (.getfield 142, 3) := dx_180 (a := 0) (b := 142) (dl_at 32 20 lb_X12_snow_1 rfl) (dl_at 32 21 lb_X12_snow_1 rfl) (dl_at 32 22 lb_X12_snow_1 rfl) rfl
theorem dX12_snow_55 : decode cX12_snow 55 = .ok (.iconst 1, 1) := dx_4 (dl_at 32 23 lb_X12_snow_1 rfl)
theorem dX12_snow_56 : decode cX12_snow 56 = .ok (.iload_n 1, 1) := dx_27 (dl_at 32 24 lb_X12_snow_1 rfl)
theorem dX12_snow_57 : decode cX12_snow 57 = .ok (.ishl, 1) := dx_120 (dl_at 32 25 lb_X12_snow_1 rfl)
theorem dX12_snow_58 : decode cX12_snow 58 = .ok (.iconst (-1), 1) := dx_2 (dl_at 32 26 lb_X12_snow_1 rfl)
theorem dX12_snow_59 : decode cX12_snow 59 = .ok (.ixor, 1) := dx_130 (dl_at 32 27 lb_X12_snow_1 rfl)
theorem dX12_snow_60 : decode cX12_snow 60 = .ok (.iand, 1) := dx_126 (dl_at 32 28 lb_X12_snow_1 rfl)
theorem dX12_snow_61 : decode cX12_snow 61 = .ok (.putfield 142, 3) := dx_181 (a := 0) (b := 142) (dl_at 32 29 lb_X12_snow_1 rfl) (dl_at 32 30 lb_X12_snow_1 rfl) (dl_at 32 31 lb_X12_snow_1 rfl) rfl
theorem dX12_snow_64 : decode cX12_snow 64 = .ok (.iload_n 3, 1) := dx_29 (dl_at 64 0 lb_X12_snow_2 rfl)
theorem dX12_snow_65 : decode cX12_snow 65 = .ok (.ireturn, 1) := dx_172 (dl_at 64 1 lb_X12_snow_2 rfl)
theorem dX12_snow_40 : decode cX12_snow 40 = .ok (.aload_n 0, 1) := dx_42 (dl_at 32 8 lb_X12_snow_1 rfl)
theorem dX12_snow_41 : decode cX12_snow 41 = .ok (.getfield 142, 3) := dx_180 (a := 0) (b := 142) (dl_at 32 9 lb_X12_snow_1 rfl) (dl_at 32 10 lb_X12_snow_1 rfl) (dl_at 32 11 lb_X12_snow_1 rfl) rfl
theorem dX12_snow_44 : decode cX12_snow 44 = .ok (.iconst 1, 1) := dx_4 (dl_at 32 12 lb_X12_snow_1 rfl)
theorem dX12_snow_45 : decode cX12_snow 45 = .ok (.iload_n 1, 1) := dx_27 (dl_at 32 13 lb_X12_snow_1 rfl)
theorem dX12_snow_46 : decode cX12_snow 46 = .ok (.ishl, 1) := dx_120 (dl_at 32 14 lb_X12_snow_1 rfl)
theorem dX12_snow_47 : decode cX12_snow 47 = .ok (.ior, 1) := dx_128 (dl_at 32 15 lb_X12_snow_1 rfl)
theorem dX12_snow_48 : decode cX12_snow 48 = .ok (.goto 13, 3) := dx_167 (a := 0) (b := 13) (dl_at 32 16 lb_X12_snow_1 rfl) (dl_at 32 17 lb_X12_snow_1 rfl) (dl_at 32 18 lb_X12_snow_1 rfl) sg16_13
theorem dX12_snow_23 : decode cX12_snow 23 = .ok (.iconst (-1), 1) := dx_2 (dl_at 0 23 lb_X12_snow_0 rfl)
theorem dX12_snow_24 : decode cX12_snow 24 = .ok (.ireturn, 1) := dx_172 (dl_at 0 24 lb_X12_snow_0 rfl)
theorem lb_X12_asks_0 : dl_ck (cX12_asks.data.toList.drop 0) [42, 27, 182, 0, 154, 153, 0, 23, 28, 3, 17, 3, 231, 184, 0, 77, 153, 0, 12, 42, 27, 28, 182, 0, 179, 167, 0, 4, 2, 172] = true := by decide +kernel
theorem dX12_asks_0 : decode cX12_asks 0 = .ok (.aload_n 0, 1) := dx_42 (dl_at 0 0 lb_X12_asks_0 rfl)
theorem dX12_asks_1 : decode cX12_asks 1 = .ok (.iload_n 1, 1) := dx_27 (dl_at 0 1 lb_X12_asks_0 rfl)
theorem dX12_asks_2 : decode cX12_asks 2 = .ok (.invokevirtual 154, 3) := dx_182 (a := 0) (b := 154) (dl_at 0 2 lb_X12_asks_0 rfl) (dl_at 0 3 lb_X12_asks_0 rfl) (dl_at 0 4 lb_X12_asks_0 rfl) rfl
theorem dX12_asks_5 : decode cX12_asks 5 = .ok (.ifCond .eq 23, 3) := dx_153 (a := 0) (b := 23) (dl_at 0 5 lb_X12_asks_0 rfl) (dl_at 0 6 lb_X12_asks_0 rfl) (dl_at 0 7 lb_X12_asks_0 rfl) sg16_23
theorem dX12_asks_8 : decode cX12_asks 8 = .ok (.iload_n 2, 1) := dx_28 (dl_at 0 8 lb_X12_asks_0 rfl)
theorem dX12_asks_9 : decode cX12_asks 9 = .ok (.iconst 0, 1) := dx_3 (dl_at 0 9 lb_X12_asks_0 rfl)
theorem dX12_asks_10 : decode cX12_asks 10 = .ok (.sipush 999, 3) := dx_17 (a := 3) (b := 231) (dl_at 0 10 lb_X12_asks_0 rfl) (dl_at 0 11 lb_X12_asks_0 rfl) (dl_at 0 12 lb_X12_asks_0 rfl) sg16_999
theorem dX12_asks_13 : decode cX12_asks 13 = .ok (.invokestatic 77, 3) := dx_184 (a := 0) (b := 77) (dl_at 0 13 lb_X12_asks_0 rfl) (dl_at 0 14 lb_X12_asks_0 rfl) (dl_at 0 15 lb_X12_asks_0 rfl) rfl
theorem dX12_asks_16 : decode cX12_asks 16 = .ok (.ifCond .eq 12, 3) := dx_153 (a := 0) (b := 12) (dl_at 0 16 lb_X12_asks_0 rfl) (dl_at 0 17 lb_X12_asks_0 rfl) (dl_at 0 18 lb_X12_asks_0 rfl) sg16_12
theorem dX12_asks_19 : decode cX12_asks 19 = .ok (.aload_n 0, 1) := dx_42 (dl_at 0 19 lb_X12_asks_0 rfl)
theorem dX12_asks_20 : decode cX12_asks 20 = .ok (.iload_n 1, 1) := dx_27 (dl_at 0 20 lb_X12_asks_0 rfl)
theorem dX12_asks_21 : decode cX12_asks 21 = .ok (.iload_n 2, 1) := dx_28 (dl_at 0 21 lb_X12_asks_0 rfl)
theorem dX12_asks_22 : decode cX12_asks 22 = .ok (.invokevirtual 179, 3) := dx_182 (a := 0) (b := 179) (dl_at 0 22 lb_X12_asks_0 rfl) (dl_at 0 23 lb_X12_asks_0 rfl) (dl_at 0 24 lb_X12_asks_0 rfl) rfl
theorem dX12_asks_25 : decode cX12_asks 25 = .ok (.goto 4, 3) := dx_167 (a := 0) (b := 4) (dl_at 0 25 lb_X12_asks_0 rfl) (dl_at 0 26 lb_X12_asks_0 rfl) (dl_at 0 27 lb_X12_asks_0 rfl) sg16_4
theorem dX12_asks_29 : decode cX12_asks 29 = .ok (.ireturn, 1) := dx_172 (dl_at 0 29 lb_X12_asks_0 rfl)
theorem dX12_asks_28 : decode cX12_asks 28 = .ok (.iconst (-1), 1) := dx_2 (dl_at 0 28 lb_X12_asks_0 rfl)
theorem lb_X12_beside_0 : dl_ck (cX12_beside.data.toList.drop 0) [42, 27, 182, 0, 154, 153, 0, 11, 42, 27, 182, 0, 167, 167, 0, 4, 2, 172] = true := by decide +kernel
theorem dX12_beside_0 : decode cX12_beside 0 = .ok (.aload_n 0, 1) := dx_42 (dl_at 0 0 lb_X12_beside_0 rfl)
theorem dX12_beside_1 : decode cX12_beside 1 = .ok (.iload_n 1, 1) := dx_27 (dl_at 0 1 lb_X12_beside_0 rfl)
theorem dX12_beside_2 : decode cX12_beside 2 = .ok (.invokevirtual 154, 3) := dx_182 (a := 0) (b := 154) (dl_at 0 2 lb_X12_beside_0 rfl) (dl_at 0 3 lb_X12_beside_0 rfl) (dl_at 0 4 lb_X12_beside_0 rfl) rfl
theorem dX12_beside_5 : decode cX12_beside 5 = .ok (.ifCond .eq 11, 3) := dx_153 (a := 0) (b := 11) (dl_at 0 5 lb_X12_beside_0 rfl) (dl_at 0 6 lb_X12_beside_0 rfl) (dl_at 0 7 lb_X12_beside_0 rfl) sg16_11
theorem dX12_beside_8 : decode cX12_beside 8 = .ok (.aload_n 0, 1) := dx_42 (dl_at 0 8 lb_X12_beside_0 rfl)
theorem dX12_beside_9 : decode cX12_beside 9 = .ok (.iload_n 1, 1) := dx_27 (dl_at 0 9 lb_X12_beside_0 rfl)
theorem dX12_beside_10 : decode cX12_beside 10 = .ok (.invokevirtual 167, 3) := dx_182 (a := 0) (b := 167) (dl_at 0 10 lb_X12_beside_0 rfl) (dl_at 0 11 lb_X12_beside_0 rfl) (dl_at 0 12 lb_X12_beside_0 rfl) rfl
theorem dX12_beside_13 : decode cX12_beside 13 = .ok (.goto 4, 3) := dx_167 (a := 0) (b := 4) (dl_at 0 13 lb_X12_beside_0 rfl) (dl_at 0 14 lb_X12_beside_0 rfl) (dl_at 0 15 lb_X12_beside_0 rfl) sg16_4
theorem dX12_beside_17 : decode cX12_beside 17 = .ok (.ireturn, 1) := dx_172 (dl_at 0 17 lb_X12_beside_0 rfl)
theorem dX12_beside_16 : decode cX12_beside 16 = .ok (.iconst (-1), 1) := dx_2 (dl_at 0 16 lb_X12_beside_0 rfl)
theorem lb_X12_send_0 : dl_ck (cX12_send.data.toList.drop 0) [42, 27, 28, 182, 0, 185, 153, 0, 24, 29, 3, 16, 99, 184, 0, 77, 153, 0, 14, 21, 4, 3, 16, 9, 184, 0, 77, 154, 0, 5, 2, 172] = true := by decide +kernel
theorem lb_X12_send_1 : dl_ck (cX12_send.data.toList.drop 32) [42, 180, 0, 148, 7, 160, 0, 6, 16, 254, 172, 42, 180, 0, 148, 54, 5, 42, 89, 180, 0, 148, 4, 96, 181, 0, 148, 42, 21, 5, 3, 27] = true := by decide +kernel
theorem lb_X12_send_2 : dl_ck (cX12_send.data.toList.drop 64) [182, 0, 188, 42, 21, 5, 4, 28, 182, 0, 188, 42, 21, 5, 5, 29, 182, 0, 188, 42, 21, 5, 6, 21, 4, 182, 0, 188, 42, 21, 5, 7] = true := by decide +kernel
theorem lb_X12_send_3 : dl_ck (cX12_send.data.toList.drop 96) [42, 180, 0, 145, 182, 0, 188, 42, 21, 5, 8, 27, 182, 0, 188, 42, 21, 5, 16, 6, 3, 182, 0, 188, 42, 21, 5, 16, 7, 3, 182, 0] = true := by decide +kernel
theorem lb_X12_send_4 : dl_ck (cX12_send.data.toList.drop 128) [188, 42, 21, 5, 16, 8, 16, 247, 182, 0, 188, 42, 21, 5, 16, 9, 3, 182, 0, 188, 21, 5, 172] = true := by decide +kernel
theorem dX12_send_0 : decode cX12_send 0 = .ok (.aload_n 0, 1) := dx_42 (dl_at 0 0 lb_X12_send_0 rfl)
theorem dX12_send_1 : decode cX12_send 1 = .ok (.iload_n 1, 1) := dx_27 (dl_at 0 1 lb_X12_send_0 rfl)
theorem dX12_send_2 : decode cX12_send 2 = .ok (.iload_n 2, 1) := dx_28 (dl_at 0 2 lb_X12_send_0 rfl)
theorem dX12_send_3 : decode cX12_send 3 = .ok (.invokevirtual 185, 3) := dx_182 (a := 0) (b := 185) (dl_at 0 3 lb_X12_send_0 rfl) (dl_at 0 4 lb_X12_send_0 rfl) (dl_at 0 5 lb_X12_send_0 rfl) rfl
theorem dX12_send_6 : decode cX12_send 6 = .ok (.ifCond .eq 24, 3) := dx_153 (a := 0) (b := 24) (dl_at 0 6 lb_X12_send_0 rfl) (dl_at 0 7 lb_X12_send_0 rfl) (dl_at 0 8 lb_X12_send_0 rfl) sg16_24
theorem dX12_send_9 : decode cX12_send 9 = .ok (.iload_n 3, 1) := dx_29 (dl_at 0 9 lb_X12_send_0 rfl)
theorem dX12_send_10 : decode cX12_send 10 = .ok (.iconst 0, 1) := dx_3 (dl_at 0 10 lb_X12_send_0 rfl)
theorem dX12_send_11 : decode cX12_send 11 = .ok (.bipush 99, 2) := dx_16 (dl_at 0 11 lb_X12_send_0 rfl) (dl_at 0 12 lb_X12_send_0 rfl) sg8_99
theorem dX12_send_13 : decode cX12_send 13 = .ok (.invokestatic 77, 3) := dx_184 (a := 0) (b := 77) (dl_at 0 13 lb_X12_send_0 rfl) (dl_at 0 14 lb_X12_send_0 rfl) (dl_at 0 15 lb_X12_send_0 rfl) rfl
theorem dX12_send_16 : decode cX12_send 16 = .ok (.ifCond .eq 14, 3) := dx_153 (a := 0) (b := 14) (dl_at 0 16 lb_X12_send_0 rfl) (dl_at 0 17 lb_X12_send_0 rfl) (dl_at 0 18 lb_X12_send_0 rfl) sg16_14
theorem dX12_send_19 : decode cX12_send 19 = .ok (.iload 4, 2) := dx_21 (dl_at 0 19 lb_X12_send_0 rfl) (dl_at 0 20 lb_X12_send_0 rfl)
theorem dX12_send_21 : decode cX12_send 21 = .ok (.iconst 0, 1) := dx_3 (dl_at 0 21 lb_X12_send_0 rfl)
theorem dX12_send_22 : decode cX12_send 22 = .ok (.bipush 9, 2) := dx_16 (dl_at 0 22 lb_X12_send_0 rfl) (dl_at 0 23 lb_X12_send_0 rfl) sg8_9
theorem dX12_send_24 : decode cX12_send 24 = .ok (.invokestatic 77, 3) := dx_184 (a := 0) (b := 77) (dl_at 0 24 lb_X12_send_0 rfl) (dl_at 0 25 lb_X12_send_0 rfl) (dl_at 0 26 lb_X12_send_0 rfl) rfl
theorem dX12_send_27 : decode cX12_send 27 = .ok (.ifCond .ne 5, 3) := dx_154 (a := 0) (b := 5) (dl_at 0 27 lb_X12_send_0 rfl) (dl_at 0 28 lb_X12_send_0 rfl) (dl_at 0 29 lb_X12_send_0 rfl) sg16_5
theorem dX12_send_32 : decode cX12_send 32 = .ok (.aload_n 0, 1) := dx_42 (dl_at 32 0 lb_X12_send_1 rfl)
theorem dX12_send_33 : decode cX12_send 33 = .ok (.getfield 148, 3) := dx_180 (a := 0) (b := 148) (dl_at 32 1 lb_X12_send_1 rfl) (dl_at 32 2 lb_X12_send_1 rfl) (dl_at 32 3 lb_X12_send_1 rfl) rfl
theorem dX12_send_36 : decode cX12_send 36 = .ok (.iconst 4, 1) := dx_7 (dl_at 32 4 lb_X12_send_1 rfl)
theorem dX12_send_37 : decode cX12_send 37 = .ok (.if_icmp .ne 6, 3) := dx_160 (a := 0) (b := 6) (dl_at 32 5 lb_X12_send_1 rfl) (dl_at 32 6 lb_X12_send_1 rfl) (dl_at 32 7 lb_X12_send_1 rfl) sg16_6
theorem dX12_send_43 : decode cX12_send 43 = .ok (.aload_n 0, 1) := dx_42 (dl_at 32 11 lb_X12_send_1 rfl)
theorem dX12_send_44 : decode cX12_send 44 = .ok (.getfield 148, 3) := dx_180 (a := 0) (b := 148) (dl_at 32 12 lb_X12_send_1 rfl) (dl_at 32 13 lb_X12_send_1 rfl) (dl_at 32 14 lb_X12_send_1 rfl) rfl
theorem dX12_send_47 : decode cX12_send 47 = .ok (.istore 5, 2) := dx_54 (dl_at 32 15 lb_X12_send_1 rfl) (dl_at 32 16 lb_X12_send_1 rfl)
theorem dX12_send_49 : decode cX12_send 49 = .ok (.aload_n 0, 1) := dx_42 (dl_at 32 17 lb_X12_send_1 rfl)
theorem dX12_send_50 : decode cX12_send 50 = .ok (.dup, 1) := dx_89 (dl_at 32 18 lb_X12_send_1 rfl)
theorem dX12_send_51 : decode cX12_send 51 = .ok (.getfield 148, 3) := dx_180 (a := 0) (b := 148) (dl_at 32 19 lb_X12_send_1 rfl) (dl_at 32 20 lb_X12_send_1 rfl) (dl_at 32 21 lb_X12_send_1 rfl) rfl
theorem dX12_send_54 : decode cX12_send 54 = .ok (.iconst 1, 1) := dx_4 (dl_at 32 22 lb_X12_send_1 rfl)
theorem dX12_send_55 : decode cX12_send 55 = .ok (.iadd, 1) := dx_96 (dl_at 32 23 lb_X12_send_1 rfl)
theorem dX12_send_56 : decode cX12_send 56 = .ok (.putfield 148, 3) := dx_181 (a := 0) (b := 148) (dl_at 32 24 lb_X12_send_1 rfl) (dl_at 32 25 lb_X12_send_1 rfl) (dl_at 32 26 lb_X12_send_1 rfl) rfl
theorem dX12_send_59 : decode cX12_send 59 = .ok (.aload_n 0, 1) := dx_42 (dl_at 32 27 lb_X12_send_1 rfl)
theorem dX12_send_60 : decode cX12_send 60 = .ok (.iload 5, 2) := dx_21 (dl_at 32 28 lb_X12_send_1 rfl) (dl_at 32 29 lb_X12_send_1 rfl)
theorem dX12_send_62 : decode cX12_send 62 = .ok (.iconst 0, 1) := dx_3 (dl_at 32 30 lb_X12_send_1 rfl)
theorem dX12_send_63 : decode cX12_send 63 = .ok (.iload_n 1, 1) := dx_27 (dl_at 32 31 lb_X12_send_1 rfl)
theorem dX12_send_64 : decode cX12_send 64 = .ok (.invokevirtual 188, 3) := dx_182 (a := 0) (b := 188) (dl_at 64 0 lb_X12_send_2 rfl) (dl_at 64 1 lb_X12_send_2 rfl) (dl_at 64 2 lb_X12_send_2 rfl) rfl
theorem dX12_send_67 : decode cX12_send 67 = .ok (.aload_n 0, 1) := dx_42 (dl_at 64 3 lb_X12_send_2 rfl)
theorem dX12_send_68 : decode cX12_send 68 = .ok (.iload 5, 2) := dx_21 (dl_at 64 4 lb_X12_send_2 rfl) (dl_at 64 5 lb_X12_send_2 rfl)
theorem dX12_send_70 : decode cX12_send 70 = .ok (.iconst 1, 1) := dx_4 (dl_at 64 6 lb_X12_send_2 rfl)
theorem dX12_send_71 : decode cX12_send 71 = .ok (.iload_n 2, 1) := dx_28 (dl_at 64 7 lb_X12_send_2 rfl)
theorem dX12_send_72 : decode cX12_send 72 = .ok (.invokevirtual 188, 3) := dx_182 (a := 0) (b := 188) (dl_at 64 8 lb_X12_send_2 rfl) (dl_at 64 9 lb_X12_send_2 rfl) (dl_at 64 10 lb_X12_send_2 rfl) rfl
theorem dX12_send_75 : decode cX12_send 75 = .ok (.aload_n 0, 1) := dx_42 (dl_at 64 11 lb_X12_send_2 rfl)
theorem dX12_send_76 : decode cX12_send 76 = .ok (.iload 5, 2) := dx_21 (dl_at 64 12 lb_X12_send_2 rfl) (dl_at 64 13 lb_X12_send_2 rfl)
theorem dX12_send_78 : decode cX12_send 78 = .ok (.iconst 2, 1) := dx_5 (dl_at 64 14 lb_X12_send_2 rfl)
theorem dX12_send_79 : decode cX12_send 79 = .ok (.iload_n 3, 1) := dx_29 (dl_at 64 15 lb_X12_send_2 rfl)
theorem dX12_send_80 : decode cX12_send 80 = .ok (.invokevirtual 188, 3) := dx_182 (a := 0) (b := 188) (dl_at 64 16 lb_X12_send_2 rfl) (dl_at 64 17 lb_X12_send_2 rfl) (dl_at 64 18 lb_X12_send_2 rfl) rfl
theorem dX12_send_83 : decode cX12_send 83 = .ok (.aload_n 0, 1) := dx_42 (dl_at 64 19 lb_X12_send_2 rfl)
theorem dX12_send_84 : decode cX12_send 84 = .ok (.iload 5, 2) := dx_21 (dl_at 64 20 lb_X12_send_2 rfl) (dl_at 64 21 lb_X12_send_2 rfl)
theorem dX12_send_86 : decode cX12_send 86 = .ok (.iconst 3, 1) := dx_6 (dl_at 64 22 lb_X12_send_2 rfl)
theorem dX12_send_87 : decode cX12_send 87 = .ok (.iload 4, 2) := dx_21 (dl_at 64 23 lb_X12_send_2 rfl) (dl_at 64 24 lb_X12_send_2 rfl)
theorem dX12_send_89 : decode cX12_send 89 = .ok (.invokevirtual 188, 3) := dx_182 (a := 0) (b := 188) (dl_at 64 25 lb_X12_send_2 rfl) (dl_at 64 26 lb_X12_send_2 rfl) (dl_at 64 27 lb_X12_send_2 rfl) rfl
theorem dX12_send_92 : decode cX12_send 92 = .ok (.aload_n 0, 1) := dx_42 (dl_at 64 28 lb_X12_send_2 rfl)
theorem dX12_send_93 : decode cX12_send 93 = .ok (.iload 5, 2) := dx_21 (dl_at 64 29 lb_X12_send_2 rfl) (dl_at 64 30 lb_X12_send_2 rfl)
theorem dX12_send_95 : decode cX12_send 95 = .ok (.iconst 4, 1) := dx_7 (dl_at 64 31 lb_X12_send_2 rfl)
theorem dX12_send_96 : decode cX12_send 96 = .ok (.aload_n 0, 1) := dx_42 (dl_at 96 0 lb_X12_send_3 rfl)
theorem dX12_send_97 : decode cX12_send 97 = .ok (.getfield 145, 3) := dx_180 (a := 0) (b := 145) (dl_at 96 1 lb_X12_send_3 rfl) (dl_at 96 2 lb_X12_send_3 rfl) (dl_at 96 3 lb_X12_send_3 rfl) rfl
theorem dX12_send_100 : decode cX12_send 100 = .ok (.invokevirtual 188, 3) := dx_182 (a := 0) (b := 188) (dl_at 96 4 lb_X12_send_3 rfl) (dl_at 96 5 lb_X12_send_3 rfl) (dl_at 96 6 lb_X12_send_3 rfl) rfl
theorem dX12_send_103 : decode cX12_send 103 = .ok (.aload_n 0, 1) := dx_42 (dl_at 96 7 lb_X12_send_3 rfl)
theorem dX12_send_104 : decode cX12_send 104 = .ok (.iload 5, 2) := dx_21 (dl_at 96 8 lb_X12_send_3 rfl) (dl_at 96 9 lb_X12_send_3 rfl)
theorem dX12_send_106 : decode cX12_send 106 = .ok (.iconst 5, 1) := dx_8 (dl_at 96 10 lb_X12_send_3 rfl)
theorem dX12_send_107 : decode cX12_send 107 = .ok (.iload_n 1, 1) := dx_27 (dl_at 96 11 lb_X12_send_3 rfl)
theorem dX12_send_108 : decode cX12_send 108 = .ok (.invokevirtual 188, 3) := dx_182 (a := 0) (b := 188) (dl_at 96 12 lb_X12_send_3 rfl) (dl_at 96 13 lb_X12_send_3 rfl) (dl_at 96 14 lb_X12_send_3 rfl) rfl
theorem dX12_send_111 : decode cX12_send 111 = .ok (.aload_n 0, 1) := dx_42 (dl_at 96 15 lb_X12_send_3 rfl)
theorem dX12_send_112 : decode cX12_send 112 = .ok (.iload 5, 2) := dx_21 (dl_at 96 16 lb_X12_send_3 rfl) (dl_at 96 17 lb_X12_send_3 rfl)
theorem dX12_send_114 : decode cX12_send 114 = .ok (.bipush 6, 2) := dx_16 (dl_at 96 18 lb_X12_send_3 rfl) (dl_at 96 19 lb_X12_send_3 rfl) sg8_6
theorem dX12_send_116 : decode cX12_send 116 = .ok (.iconst 0, 1) := dx_3 (dl_at 96 20 lb_X12_send_3 rfl)
theorem dX12_send_117 : decode cX12_send 117 = .ok (.invokevirtual 188, 3) := dx_182 (a := 0) (b := 188) (dl_at 96 21 lb_X12_send_3 rfl) (dl_at 96 22 lb_X12_send_3 rfl) (dl_at 96 23 lb_X12_send_3 rfl) rfl
theorem dX12_send_120 : decode cX12_send 120 = .ok (.aload_n 0, 1) := dx_42 (dl_at 96 24 lb_X12_send_3 rfl)
theorem dX12_send_121 : decode cX12_send 121 = .ok (.iload 5, 2) := dx_21 (dl_at 96 25 lb_X12_send_3 rfl) (dl_at 96 26 lb_X12_send_3 rfl)
theorem dX12_send_123 : decode cX12_send 123 = .ok (.bipush 7, 2) := dx_16 (dl_at 96 27 lb_X12_send_3 rfl) (dl_at 96 28 lb_X12_send_3 rfl) sg8_7
theorem dX12_send_125 : decode cX12_send 125 = .ok (.iconst 0, 1) := dx_3 (dl_at 96 29 lb_X12_send_3 rfl)
theorem dX12_send_126 : decode cX12_send 126 = .ok (.invokevirtual 188, 3) := dx_182 (a := 0) (b := 188) (dl_at 96 30 lb_X12_send_3 rfl) (dl_at 96 31 lb_X12_send_3 rfl) (dl_at 128 0 lb_X12_send_4 rfl) rfl
theorem dX12_send_129 : decode cX12_send 129 = .ok (.aload_n 0, 1) := dx_42 (dl_at 128 1 lb_X12_send_4 rfl)
theorem dX12_send_130 : decode cX12_send 130 = .ok (.iload 5, 2) := dx_21 (dl_at 128 2 lb_X12_send_4 rfl) (dl_at 128 3 lb_X12_send_4 rfl)
theorem dX12_send_132 : decode cX12_send 132 = .ok (.bipush 8, 2) := dx_16 (dl_at 128 4 lb_X12_send_4 rfl) (dl_at 128 5 lb_X12_send_4 rfl) sg8_8
theorem dX12_send_134 : decode cX12_send 134 = .ok (.bipush (-9), 2) := dx_16 (dl_at 128 6 lb_X12_send_4 rfl) (dl_at 128 7 lb_X12_send_4 rfl) sg8_247
theorem dX12_send_136 : decode cX12_send 136 = .ok (.invokevirtual 188, 3) := dx_182 (a := 0) (b := 188) (dl_at 128 8 lb_X12_send_4 rfl) (dl_at 128 9 lb_X12_send_4 rfl) (dl_at 128 10 lb_X12_send_4 rfl) rfl
theorem dX12_send_139 : decode cX12_send 139 = .ok (.aload_n 0, 1) := dx_42 (dl_at 128 11 lb_X12_send_4 rfl)
theorem dX12_send_140 : decode cX12_send 140 = .ok (.iload 5, 2) := dx_21 (dl_at 128 12 lb_X12_send_4 rfl) (dl_at 128 13 lb_X12_send_4 rfl)
theorem dX12_send_142 : decode cX12_send 142 = .ok (.bipush 9, 2) := dx_16 (dl_at 128 14 lb_X12_send_4 rfl) (dl_at 128 15 lb_X12_send_4 rfl) sg8_9
theorem dX12_send_144 : decode cX12_send 144 = .ok (.iconst 0, 1) := dx_3 (dl_at 128 16 lb_X12_send_4 rfl)
theorem dX12_send_145 : decode cX12_send 145 = .ok (.invokevirtual 188, 3) := dx_182 (a := 0) (b := 188) (dl_at 128 17 lb_X12_send_4 rfl) (dl_at 128 18 lb_X12_send_4 rfl) (dl_at 128 19 lb_X12_send_4 rfl) rfl
theorem dX12_send_148 : decode cX12_send 148 = .ok (.iload 5, 2) := dx_21 (dl_at 128 20 lb_X12_send_4 rfl) (dl_at 128 21 lb_X12_send_4 rfl)
theorem dX12_send_150 : decode cX12_send 150 = .ok (.ireturn, 1) := dx_172 (dl_at 128 22 lb_X12_send_4 rfl)
theorem dX12_send_40 : decode cX12_send 40 = .ok (.bipush (-2), 2) := dx_16 (dl_at 32 8 lb_X12_send_1 rfl) (dl_at 32 9 lb_X12_send_1 rfl) sg8_254
theorem dX12_send_42 : decode cX12_send 42 = .ok (.ireturn, 1) := dx_172 (dl_at 32 10 lb_X12_send_1 rfl)
theorem dX12_send_30 : decode cX12_send 30 = .ok (.iconst (-1), 1) := dx_2 (dl_at 0 30 lb_X12_send_0 rfl)
theorem dX12_send_31 : decode cX12_send 31 = .ok (.ireturn, 1) := dx_172 (dl_at 0 31 lb_X12_send_0 rfl)
theorem lb_X12_priceOf_0 : dl_ck (cX12_priceOf.data.toList.drop 0) [42, 42, 27, 8, 182, 0, 161, 42, 27, 16, 6, 182, 0, 161, 182, 0, 179, 172] = true := by decide +kernel
theorem dX12_priceOf_0 : decode cX12_priceOf 0 = .ok (.aload_n 0, 1) := dx_42 (dl_at 0 0 lb_X12_priceOf_0 rfl)
theorem dX12_priceOf_1 : decode cX12_priceOf 1 = .ok (.aload_n 0, 1) := dx_42 (dl_at 0 1 lb_X12_priceOf_0 rfl)
theorem dX12_priceOf_2 : decode cX12_priceOf 2 = .ok (.iload_n 1, 1) := dx_27 (dl_at 0 2 lb_X12_priceOf_0 rfl)
theorem dX12_priceOf_3 : decode cX12_priceOf 3 = .ok (.iconst 5, 1) := dx_8 (dl_at 0 3 lb_X12_priceOf_0 rfl)
theorem dX12_priceOf_4 : decode cX12_priceOf 4 = .ok (.invokevirtual 161, 3) := dx_182 (a := 0) (b := 161) (dl_at 0 4 lb_X12_priceOf_0 rfl) (dl_at 0 5 lb_X12_priceOf_0 rfl) (dl_at 0 6 lb_X12_priceOf_0 rfl) rfl
theorem dX12_priceOf_7 : decode cX12_priceOf 7 = .ok (.aload_n 0, 1) := dx_42 (dl_at 0 7 lb_X12_priceOf_0 rfl)
theorem dX12_priceOf_8 : decode cX12_priceOf 8 = .ok (.iload_n 1, 1) := dx_27 (dl_at 0 8 lb_X12_priceOf_0 rfl)
theorem dX12_priceOf_9 : decode cX12_priceOf 9 = .ok (.bipush 6, 2) := dx_16 (dl_at 0 9 lb_X12_priceOf_0 rfl) (dl_at 0 10 lb_X12_priceOf_0 rfl) sg8_6
theorem dX12_priceOf_11 : decode cX12_priceOf 11 = .ok (.invokevirtual 161, 3) := dx_182 (a := 0) (b := 161) (dl_at 0 11 lb_X12_priceOf_0 rfl) (dl_at 0 12 lb_X12_priceOf_0 rfl) (dl_at 0 13 lb_X12_priceOf_0 rfl) rfl
theorem dX12_priceOf_14 : decode cX12_priceOf 14 = .ok (.invokevirtual 179, 3) := dx_182 (a := 0) (b := 179) (dl_at 0 14 lb_X12_priceOf_0 rfl) (dl_at 0 15 lb_X12_priceOf_0 rfl) (dl_at 0 16 lb_X12_priceOf_0 rfl) rfl
theorem dX12_priceOf_17 : decode cX12_priceOf 17 = .ok (.ireturn, 1) := dx_172 (dl_at 0 17 lb_X12_priceOf_0 rfl)
theorem lb_X12_canSell_0 : dl_ck (cX12_canSell.data.toList.drop 0) [42, 27, 182, 0, 164, 154, 0, 17, 42, 27, 16, 8, 182, 0, 161, 42, 180, 0, 145, 160, 0, 5, 3, 172, 42, 42, 27, 8, 182, 0, 161, 182] = true := by decide +kernel
theorem lb_X12_canSell_1 : dl_ck (cX12_canSell.data.toList.drop 32) [0, 167, 61, 42, 27, 182, 0, 191, 62, 3, 54, 4, 3, 54, 5, 21, 5, 42, 180, 0, 136, 162, 0, 106, 21, 5, 42, 27, 4, 182, 0, 161] = true := by decide +kernel
theorem lb_X12_canSell_2 : dl_ck (cX12_canSell.data.toList.drop 64) [160, 0, 7, 4, 167, 0, 4, 3, 54, 6, 21, 6, 153, 0, 21, 42, 27, 3, 182, 0, 194, 29, 161, 0, 7, 4, 167, 0, 23, 3, 167, 0] = true := by decide +kernel
theorem lb_X12_canSell_3 : dl_ck (cX12_canSell.data.toList.drop 96) [19, 42, 180, 0, 28, 21, 5, 46, 6, 159, 0, 7, 4, 167, 0, 4, 3, 54, 7, 21, 4, 28, 21, 5, 184, 0, 157, 153, 0, 26, 21, 7] = true := by decide +kernel
theorem lb_X12_canSell_4 : dl_ck (cX12_canSell.data.toList.drop 128) [153, 0, 21, 42, 180, 0, 31, 21, 5, 46, 29, 161, 0, 10, 4, 21, 5, 120, 167, 0, 4, 3, 128, 54, 4, 132, 5, 1, 167, 255, 147, 21] = true := by decide +kernel
theorem lb_X12_canSell_5 : dl_ck (cX12_canSell.data.toList.drop 160) [4, 172] = true := by decide +kernel
theorem dX12_canSell_0 : decode cX12_canSell 0 = .ok (.aload_n 0, 1) := dx_42 (dl_at 0 0 lb_X12_canSell_0 rfl)
theorem dX12_canSell_1 : decode cX12_canSell 1 = .ok (.iload_n 1, 1) := dx_27 (dl_at 0 1 lb_X12_canSell_0 rfl)
theorem dX12_canSell_2 : decode cX12_canSell 2 = .ok (.invokevirtual 164, 3) := dx_182 (a := 0) (b := 164) (dl_at 0 2 lb_X12_canSell_0 rfl) (dl_at 0 3 lb_X12_canSell_0 rfl) (dl_at 0 4 lb_X12_canSell_0 rfl) rfl
theorem dX12_canSell_5 : decode cX12_canSell 5 = .ok (.ifCond .ne 17, 3) := dx_154 (a := 0) (b := 17) (dl_at 0 5 lb_X12_canSell_0 rfl) (dl_at 0 6 lb_X12_canSell_0 rfl) (dl_at 0 7 lb_X12_canSell_0 rfl) sg16_17
theorem dX12_canSell_22 : decode cX12_canSell 22 = .ok (.iconst 0, 1) := dx_3 (dl_at 0 22 lb_X12_canSell_0 rfl)
theorem dX12_canSell_23 : decode cX12_canSell 23 = .ok (.ireturn, 1) := dx_172 (dl_at 0 23 lb_X12_canSell_0 rfl)
theorem dX12_canSell_8 : decode cX12_canSell 8 = .ok (.aload_n 0, 1) := dx_42 (dl_at 0 8 lb_X12_canSell_0 rfl)
theorem dX12_canSell_9 : decode cX12_canSell 9 = .ok (.iload_n 1, 1) := dx_27 (dl_at 0 9 lb_X12_canSell_0 rfl)
theorem dX12_canSell_10 : decode cX12_canSell 10 = .ok (.bipush 8, 2) := dx_16 (dl_at 0 10 lb_X12_canSell_0 rfl) (dl_at 0 11 lb_X12_canSell_0 rfl) sg8_8
theorem dX12_canSell_12 : decode cX12_canSell 12 = .ok (.invokevirtual 161, 3) := dx_182 (a := 0) (b := 161) (dl_at 0 12 lb_X12_canSell_0 rfl) (dl_at 0 13 lb_X12_canSell_0 rfl) (dl_at 0 14 lb_X12_canSell_0 rfl) rfl
theorem dX12_canSell_15 : decode cX12_canSell 15 = .ok (.aload_n 0, 1) := dx_42 (dl_at 0 15 lb_X12_canSell_0 rfl)
theorem dX12_canSell_16 : decode cX12_canSell 16 = .ok (.getfield 145, 3) := dx_180 (a := 0) (b := 145) (dl_at 0 16 lb_X12_canSell_0 rfl) (dl_at 0 17 lb_X12_canSell_0 rfl) (dl_at 0 18 lb_X12_canSell_0 rfl) rfl
theorem dX12_canSell_19 : decode cX12_canSell 19 = .ok (.if_icmp .ne 5, 3) := dx_160 (a := 0) (b := 5) (dl_at 0 19 lb_X12_canSell_0 rfl) (dl_at 0 20 lb_X12_canSell_0 rfl) (dl_at 0 21 lb_X12_canSell_0 rfl) sg16_5
theorem dX12_canSell_24 : decode cX12_canSell 24 = .ok (.aload_n 0, 1) := dx_42 (dl_at 0 24 lb_X12_canSell_0 rfl)
theorem dX12_canSell_25 : decode cX12_canSell 25 = .ok (.aload_n 0, 1) := dx_42 (dl_at 0 25 lb_X12_canSell_0 rfl)
theorem dX12_canSell_26 : decode cX12_canSell 26 = .ok (.iload_n 1, 1) := dx_27 (dl_at 0 26 lb_X12_canSell_0 rfl)
theorem dX12_canSell_27 : decode cX12_canSell 27 = .ok (.iconst 5, 1) := dx_8 (dl_at 0 27 lb_X12_canSell_0 rfl)
theorem dX12_canSell_28 : decode cX12_canSell 28 = .ok (.invokevirtual 161, 3) := dx_182 (a := 0) (b := 161) (dl_at 0 28 lb_X12_canSell_0 rfl) (dl_at 0 29 lb_X12_canSell_0 rfl) (dl_at 0 30 lb_X12_canSell_0 rfl) rfl
theorem dX12_canSell_31 : decode cX12_canSell 31 = .ok (.invokevirtual 167, 3) := dx_182 (a := 0) (b := 167) (dl_at 0 31 lb_X12_canSell_0 rfl) (dl_at 32 0 lb_X12_canSell_1 rfl) (dl_at 32 1 lb_X12_canSell_1 rfl) rfl
theorem dX12_canSell_34 : decode cX12_canSell 34 = .ok (.istore_n 2, 1) := dx_61 (dl_at 32 2 lb_X12_canSell_1 rfl)
theorem dX12_canSell_35 : decode cX12_canSell 35 = .ok (.aload_n 0, 1) := dx_42 (dl_at 32 3 lb_X12_canSell_1 rfl)
theorem dX12_canSell_36 : decode cX12_canSell 36 = .ok (.iload_n 1, 1) := dx_27 (dl_at 32 4 lb_X12_canSell_1 rfl)
theorem dX12_canSell_37 : decode cX12_canSell 37 = .ok (.invokevirtual 191, 3) := dx_182 (a := 0) (b := 191) (dl_at 32 5 lb_X12_canSell_1 rfl) (dl_at 32 6 lb_X12_canSell_1 rfl) (dl_at 32 7 lb_X12_canSell_1 rfl) rfl
theorem dX12_canSell_40 : decode cX12_canSell 40 = .ok (.istore_n 3, 1) := dx_62 (dl_at 32 8 lb_X12_canSell_1 rfl)
theorem dX12_canSell_41 : decode cX12_canSell 41 = .ok (.iconst 0, 1) := dx_3 (dl_at 32 9 lb_X12_canSell_1 rfl)
theorem dX12_canSell_42 : decode cX12_canSell 42 = .ok (.istore 4, 2) := dx_54 (dl_at 32 10 lb_X12_canSell_1 rfl) (dl_at 32 11 lb_X12_canSell_1 rfl)
theorem dX12_canSell_44 : decode cX12_canSell 44 = .ok (.iconst 0, 1) := dx_3 (dl_at 32 12 lb_X12_canSell_1 rfl)
theorem dX12_canSell_45 : decode cX12_canSell 45 = .ok (.istore 5, 2) := dx_54 (dl_at 32 13 lb_X12_canSell_1 rfl) (dl_at 32 14 lb_X12_canSell_1 rfl)
theorem dX12_canSell_47 : decode cX12_canSell 47 = .ok (.iload 5, 2) := dx_21 (dl_at 32 15 lb_X12_canSell_1 rfl) (dl_at 32 16 lb_X12_canSell_1 rfl)
theorem dX12_canSell_49 : decode cX12_canSell 49 = .ok (.aload_n 0, 1) := dx_42 (dl_at 32 17 lb_X12_canSell_1 rfl)
theorem dX12_canSell_50 : decode cX12_canSell 50 = .ok (.getfield 136, 3) := dx_180 (a := 0) (b := 136) (dl_at 32 18 lb_X12_canSell_1 rfl) (dl_at 32 19 lb_X12_canSell_1 rfl) (dl_at 32 20 lb_X12_canSell_1 rfl) rfl
theorem dX12_canSell_53 : decode cX12_canSell 53 = .ok (.if_icmp .ge 106, 3) := dx_162 (a := 0) (b := 106) (dl_at 32 21 lb_X12_canSell_1 rfl) (dl_at 32 22 lb_X12_canSell_1 rfl) (dl_at 32 23 lb_X12_canSell_1 rfl) sg16_106
theorem dX12_canSell_159 : decode cX12_canSell 159 = .ok (.iload 4, 2) := dx_21 (dl_at 128 31 lb_X12_canSell_4 rfl) (dl_at 160 0 lb_X12_canSell_5 rfl)
theorem dX12_canSell_161 : decode cX12_canSell 161 = .ok (.ireturn, 1) := dx_172 (dl_at 160 1 lb_X12_canSell_5 rfl)
theorem dX12_canSell_56 : decode cX12_canSell 56 = .ok (.iload 5, 2) := dx_21 (dl_at 32 24 lb_X12_canSell_1 rfl) (dl_at 32 25 lb_X12_canSell_1 rfl)
theorem dX12_canSell_58 : decode cX12_canSell 58 = .ok (.aload_n 0, 1) := dx_42 (dl_at 32 26 lb_X12_canSell_1 rfl)
theorem dX12_canSell_59 : decode cX12_canSell 59 = .ok (.iload_n 1, 1) := dx_27 (dl_at 32 27 lb_X12_canSell_1 rfl)
theorem dX12_canSell_60 : decode cX12_canSell 60 = .ok (.iconst 1, 1) := dx_4 (dl_at 32 28 lb_X12_canSell_1 rfl)
theorem dX12_canSell_61 : decode cX12_canSell 61 = .ok (.invokevirtual 161, 3) := dx_182 (a := 0) (b := 161) (dl_at 32 29 lb_X12_canSell_1 rfl) (dl_at 32 30 lb_X12_canSell_1 rfl) (dl_at 32 31 lb_X12_canSell_1 rfl) rfl
theorem dX12_canSell_64 : decode cX12_canSell 64 = .ok (.if_icmp .ne 7, 3) := dx_160 (a := 0) (b := 7) (dl_at 64 0 lb_X12_canSell_2 rfl) (dl_at 64 1 lb_X12_canSell_2 rfl) (dl_at 64 2 lb_X12_canSell_2 rfl) sg16_7
theorem dX12_canSell_71 : decode cX12_canSell 71 = .ok (.iconst 0, 1) := dx_3 (dl_at 64 7 lb_X12_canSell_2 rfl)
theorem dX12_canSell_72 : decode cX12_canSell 72 = .ok (.istore 6, 2) := dx_54 (dl_at 64 8 lb_X12_canSell_2 rfl) (dl_at 64 9 lb_X12_canSell_2 rfl)
theorem dX12_canSell_74 : decode cX12_canSell 74 = .ok (.iload 6, 2) := dx_21 (dl_at 64 10 lb_X12_canSell_2 rfl) (dl_at 64 11 lb_X12_canSell_2 rfl)
theorem dX12_canSell_76 : decode cX12_canSell 76 = .ok (.ifCond .eq 21, 3) := dx_153 (a := 0) (b := 21) (dl_at 64 12 lb_X12_canSell_2 rfl) (dl_at 64 13 lb_X12_canSell_2 rfl) (dl_at 64 14 lb_X12_canSell_2 rfl) sg16_21
theorem dX12_canSell_97 : decode cX12_canSell 97 = .ok (.aload_n 0, 1) := dx_42 (dl_at 96 1 lb_X12_canSell_3 rfl)
theorem dX12_canSell_98 : decode cX12_canSell 98 = .ok (.getfield 28, 3) := dx_180 (a := 0) (b := 28) (dl_at 96 2 lb_X12_canSell_3 rfl) (dl_at 96 3 lb_X12_canSell_3 rfl) (dl_at 96 4 lb_X12_canSell_3 rfl) rfl
theorem dX12_canSell_101 : decode cX12_canSell 101 = .ok (.iload 5, 2) := dx_21 (dl_at 96 5 lb_X12_canSell_3 rfl) (dl_at 96 6 lb_X12_canSell_3 rfl)
theorem dX12_canSell_103 : decode cX12_canSell 103 = .ok (.iaload, 1) := dx_46 (dl_at 96 7 lb_X12_canSell_3 rfl)
theorem dX12_canSell_104 : decode cX12_canSell 104 = .ok (.iconst 3, 1) := dx_6 (dl_at 96 8 lb_X12_canSell_3 rfl)
theorem dX12_canSell_105 : decode cX12_canSell 105 = .ok (.if_icmp .eq 7, 3) := dx_159 (a := 0) (b := 7) (dl_at 96 9 lb_X12_canSell_3 rfl) (dl_at 96 10 lb_X12_canSell_3 rfl) (dl_at 96 11 lb_X12_canSell_3 rfl) sg16_7
theorem dX12_canSell_112 : decode cX12_canSell 112 = .ok (.iconst 0, 1) := dx_3 (dl_at 96 16 lb_X12_canSell_3 rfl)
theorem dX12_canSell_113 : decode cX12_canSell 113 = .ok (.istore 7, 2) := dx_54 (dl_at 96 17 lb_X12_canSell_3 rfl) (dl_at 96 18 lb_X12_canSell_3 rfl)
theorem dX12_canSell_115 : decode cX12_canSell 115 = .ok (.iload 4, 2) := dx_21 (dl_at 96 19 lb_X12_canSell_3 rfl) (dl_at 96 20 lb_X12_canSell_3 rfl)
theorem dX12_canSell_117 : decode cX12_canSell 117 = .ok (.iload_n 2, 1) := dx_28 (dl_at 96 21 lb_X12_canSell_3 rfl)
theorem dX12_canSell_118 : decode cX12_canSell 118 = .ok (.iload 5, 2) := dx_21 (dl_at 96 22 lb_X12_canSell_3 rfl) (dl_at 96 23 lb_X12_canSell_3 rfl)
theorem dX12_canSell_120 : decode cX12_canSell 120 = .ok (.invokestatic 157, 3) := dx_184 (a := 0) (b := 157) (dl_at 96 24 lb_X12_canSell_3 rfl) (dl_at 96 25 lb_X12_canSell_3 rfl) (dl_at 96 26 lb_X12_canSell_3 rfl) rfl
theorem dX12_canSell_123 : decode cX12_canSell 123 = .ok (.ifCond .eq 26, 3) := dx_153 (a := 0) (b := 26) (dl_at 96 27 lb_X12_canSell_3 rfl) (dl_at 96 28 lb_X12_canSell_3 rfl) (dl_at 96 29 lb_X12_canSell_3 rfl) sg16_26
theorem dX12_canSell_126 : decode cX12_canSell 126 = .ok (.iload 7, 2) := dx_21 (dl_at 96 30 lb_X12_canSell_3 rfl) (dl_at 96 31 lb_X12_canSell_3 rfl)
theorem dX12_canSell_128 : decode cX12_canSell 128 = .ok (.ifCond .eq 21, 3) := dx_153 (a := 0) (b := 21) (dl_at 128 0 lb_X12_canSell_4 rfl) (dl_at 128 1 lb_X12_canSell_4 rfl) (dl_at 128 2 lb_X12_canSell_4 rfl) sg16_21
theorem dX12_canSell_149 : decode cX12_canSell 149 = .ok (.iconst 0, 1) := dx_3 (dl_at 128 21 lb_X12_canSell_4 rfl)
theorem dX12_canSell_150 : decode cX12_canSell 150 = .ok (.ior, 1) := dx_128 (dl_at 128 22 lb_X12_canSell_4 rfl)
theorem dX12_canSell_151 : decode cX12_canSell 151 = .ok (.istore 4, 2) := dx_54 (dl_at 128 23 lb_X12_canSell_4 rfl) (dl_at 128 24 lb_X12_canSell_4 rfl)
theorem dX12_canSell_153 : decode cX12_canSell 153 = .ok (.iinc 5 1, 3) := dx_132 (dl_at 128 25 lb_X12_canSell_4 rfl) (dl_at 128 26 lb_X12_canSell_4 rfl) (dl_at 128 27 lb_X12_canSell_4 rfl) sg8_1
theorem dX12_canSell_156 : decode cX12_canSell 156 = .ok (.goto (-109), 3) := dx_167 (a := 255) (b := 147) (dl_at 128 28 lb_X12_canSell_4 rfl) (dl_at 128 29 lb_X12_canSell_4 rfl) (dl_at 128 30 lb_X12_canSell_4 rfl) sg16_65427
theorem dX12_canSell_108 : decode cX12_canSell 108 = .ok (.iconst 1, 1) := dx_4 (dl_at 96 12 lb_X12_canSell_3 rfl)
theorem dX12_canSell_109 : decode cX12_canSell 109 = .ok (.goto 4, 3) := dx_167 (a := 0) (b := 4) (dl_at 96 13 lb_X12_canSell_3 rfl) (dl_at 96 14 lb_X12_canSell_3 rfl) (dl_at 96 15 lb_X12_canSell_3 rfl) sg16_4
theorem dX12_canSell_131 : decode cX12_canSell 131 = .ok (.aload_n 0, 1) := dx_42 (dl_at 128 3 lb_X12_canSell_4 rfl)
theorem dX12_canSell_132 : decode cX12_canSell 132 = .ok (.getfield 31, 3) := dx_180 (a := 0) (b := 31) (dl_at 128 4 lb_X12_canSell_4 rfl) (dl_at 128 5 lb_X12_canSell_4 rfl) (dl_at 128 6 lb_X12_canSell_4 rfl) rfl
theorem dX12_canSell_135 : decode cX12_canSell 135 = .ok (.iload 5, 2) := dx_21 (dl_at 128 7 lb_X12_canSell_4 rfl) (dl_at 128 8 lb_X12_canSell_4 rfl)
theorem dX12_canSell_137 : decode cX12_canSell 137 = .ok (.iaload, 1) := dx_46 (dl_at 128 9 lb_X12_canSell_4 rfl)
theorem dX12_canSell_138 : decode cX12_canSell 138 = .ok (.iload_n 3, 1) := dx_29 (dl_at 128 10 lb_X12_canSell_4 rfl)
theorem dX12_canSell_139 : decode cX12_canSell 139 = .ok (.if_icmp .lt 10, 3) := dx_161 (a := 0) (b := 10) (dl_at 128 11 lb_X12_canSell_4 rfl) (dl_at 128 12 lb_X12_canSell_4 rfl) (dl_at 128 13 lb_X12_canSell_4 rfl) sg16_10
theorem dX12_canSell_142 : decode cX12_canSell 142 = .ok (.iconst 1, 1) := dx_4 (dl_at 128 14 lb_X12_canSell_4 rfl)
theorem dX12_canSell_143 : decode cX12_canSell 143 = .ok (.iload 5, 2) := dx_21 (dl_at 128 15 lb_X12_canSell_4 rfl) (dl_at 128 16 lb_X12_canSell_4 rfl)
theorem dX12_canSell_145 : decode cX12_canSell 145 = .ok (.ishl, 1) := dx_120 (dl_at 128 17 lb_X12_canSell_4 rfl)
theorem dX12_canSell_146 : decode cX12_canSell 146 = .ok (.goto 4, 3) := dx_167 (a := 0) (b := 4) (dl_at 128 18 lb_X12_canSell_4 rfl) (dl_at 128 19 lb_X12_canSell_4 rfl) (dl_at 128 20 lb_X12_canSell_4 rfl) sg16_4
theorem dX12_canSell_67 : decode cX12_canSell 67 = .ok (.iconst 1, 1) := dx_4 (dl_at 64 3 lb_X12_canSell_2 rfl)
theorem dX12_canSell_68 : decode cX12_canSell 68 = .ok (.goto 4, 3) := dx_167 (a := 0) (b := 4) (dl_at 64 4 lb_X12_canSell_2 rfl) (dl_at 64 5 lb_X12_canSell_2 rfl) (dl_at 64 6 lb_X12_canSell_2 rfl) sg16_4
theorem dX12_canSell_79 : decode cX12_canSell 79 = .ok (.aload_n 0, 1) := dx_42 (dl_at 64 15 lb_X12_canSell_2 rfl)
theorem dX12_canSell_80 : decode cX12_canSell 80 = .ok (.iload_n 1, 1) := dx_27 (dl_at 64 16 lb_X12_canSell_2 rfl)
theorem dX12_canSell_81 : decode cX12_canSell 81 = .ok (.iconst 0, 1) := dx_3 (dl_at 64 17 lb_X12_canSell_2 rfl)
theorem dX12_canSell_82 : decode cX12_canSell 82 = .ok (.invokevirtual 194, 3) := dx_182 (a := 0) (b := 194) (dl_at 64 18 lb_X12_canSell_2 rfl) (dl_at 64 19 lb_X12_canSell_2 rfl) (dl_at 64 20 lb_X12_canSell_2 rfl) rfl
theorem dX12_canSell_85 : decode cX12_canSell 85 = .ok (.iload_n 3, 1) := dx_29 (dl_at 64 21 lb_X12_canSell_2 rfl)
theorem dX12_canSell_86 : decode cX12_canSell 86 = .ok (.if_icmp .lt 7, 3) := dx_161 (a := 0) (b := 7) (dl_at 64 22 lb_X12_canSell_2 rfl) (dl_at 64 23 lb_X12_canSell_2 rfl) (dl_at 64 24 lb_X12_canSell_2 rfl) sg16_7
theorem dX12_canSell_93 : decode cX12_canSell 93 = .ok (.iconst 0, 1) := dx_3 (dl_at 64 29 lb_X12_canSell_2 rfl)
theorem dX12_canSell_94 : decode cX12_canSell 94 = .ok (.goto 19, 3) := dx_167 (a := 0) (b := 19) (dl_at 64 30 lb_X12_canSell_2 rfl) (dl_at 64 31 lb_X12_canSell_2 rfl) (dl_at 96 0 lb_X12_canSell_3 rfl) sg16_19
theorem dX12_canSell_89 : decode cX12_canSell 89 = .ok (.iconst 1, 1) := dx_4 (dl_at 64 25 lb_X12_canSell_2 rfl)
theorem dX12_canSell_90 : decode cX12_canSell 90 = .ok (.goto 23, 3) := dx_167 (a := 0) (b := 23) (dl_at 64 26 lb_X12_canSell_2 rfl) (dl_at 64 27 lb_X12_canSell_2 rfl) (dl_at 64 28 lb_X12_canSell_2 rfl) sg16_23
def F_qm_bearer (mu : Nat → Nat → Int32) (vx : Int32) (vw : Int32) : Int32 × (Nat → Nat → Int32) :=
  if F_sm_isOne mu (vx : Int32) = 1 then (
    if F_sm_in (vw : Int32) (0 : Int32) (3 : Int32) = 1 then (
      LETV (F_sm_bearerOf mu (vx : Int32) (vw : Int32) : Int32) fun r3 =>
      LETP (F_sm_ask mu (r3 : Int32) (1 : Int32)) fun r4 xi4 =>
      ((r4 : Int32), xi4)
    ) else (
      (((-1) : Int32), mu)
    )
  ) else (
    (((-1) : Int32), mu)
  )
def L_sm_friendsBeside_4_0 (mu : Nat → Nat → Int32) (vx : Int32) : Nat → (Int32) → (Int32) → Int32
  | 0, v2_4, v3_4 => 0
  | n + 1, v2_4, v3_4 =>
    LETV (mu 0 8 : Int32) fun y1 =>
    if v3_4 ≥ y1 then (
      (v2_4 : Int32)
    ) else (
      LETV (F_sm_besideOf mu (vx : Int32) : Int32) fun r3 =>
      if F_sm_has (r3 : Int32) (v3_4 : Int32) = 1 then (
        LETV (F_sm_isA mu (v3_4 : Int32) (2 : Int32) : Int32) fun r5 =>
        if r5 = (0 : Int32) then (
          LETV (v2_4 + 0 : Int32) fun t7 =>
          LETV ((v3_4 + 1) : Int32) fun w8 =>
          L_sm_friendsBeside_4_0 mu vx n (t7 : Int32) (w8 : Int32)
        ) else (
          LETV (v2_4 + 1 : Int32) fun t9 =>
          LETV ((v3_4 + 1) : Int32) fun w10 =>
          L_sm_friendsBeside_4_0 mu vx n (t9 : Int32) (w10 : Int32)
        )
      ) else (
        LETV (v2_4 + 0 : Int32) fun t11 =>
        LETV ((v3_4 + 1) : Int32) fun w12 =>
        L_sm_friendsBeside_4_0 mu vx n (t11 : Int32) (w12 : Int32)
      )
    )
def F_sm_friendsBeside (mu : Nat → Nat → Int32) (vx : Int32) : Int32 :=
  L_sm_friendsBeside_4_0 mu vx 10 (0 : Int32) (0 : Int32)
def L_qm_mark_42_0 (vd : Int32) (vx : Int32) : Nat → (Int32) → (Int32) → (Int32) → (Nat → Nat → Int32) → Int32 × (Nat → Nat → Int32)
  | 0, v3_42, v4_42, v5_42, nu42_ => (0, nu42_)
  | n + 1, v3_42, v4_42, v5_42, nu42_ =>
    LETV (nu42_ 0 15 : Int32) fun y5 =>
    if v5_42 ≥ y5 then (
      if (vd).toInt < 1 ∨ 4 < (vd).toInt then (
        ((v4_42 : Int32), nu42_)
      ) else (
        if (vd).toInt = 1 then (
          LETV (F_sm_asksOf nu42_ (vx : Int32) (0 : Int32) : Int32) fun r8 =>
          LETV (r8 - 1 : Int32) fun t9 =>
          ((t9 : Int32), nu42_)
        ) else (
          if (vd).toInt = 2 then (
            LETV (F_sm_friendsBeside nu42_ (vx : Int32) : Int32) fun r10 =>
            ((r10 : Int32), nu42_)
          ) else (
            if (vd).toInt = 3 then (
              ((v3_42 : Int32), nu42_)
            ) else (
              LETV (F_sm_asksOf nu42_ (vx : Int32) (10 : Int32) : Int32) fun r11 =>
              ((r11 : Int32), nu42_)
            )
          )
        )
      )
    ) else (
      LETV (F_sm_letterOf nu42_ (v5_42 : Int32) (1 : Int32) : Int32) fun r12 =>
      if r12 = vx then (
        LETV (F_sm_isRead nu42_ (v5_42 : Int32) : Int32) fun r26 =>
        if r26 = (0 : Int32) then (
          LETV (v3_42 + 1 : Int32) fun t40 =>
          LETV (F_sm_letterOf5 nu42_ (v5_42 : Int32) : Int32) fun r41 =>
          if r41 = vx then (
            LETV (F_sm_isRead nu42_ (v5_42 : Int32) : Int32) fun r45 =>
            if r45 = (0 : Int32) then (
              LETV (F_sm_letterOf nu42_ (v5_42 : Int32) (6 : Int32) : Int32) fun r49 =>
              LETV (v4_42 + r49 : Int32) fun t50 =>
              LETV ((v5_42 + 1) : Int32) fun w51 =>
              L_qm_mark_42_0 vd vx n (t40 : Int32) (t50 : Int32) (w51 : Int32) nu42_
            ) else (
              LETV (v4_42 + 0 : Int32) fun t47 =>
              LETV ((v5_42 + 1) : Int32) fun w48 =>
              L_qm_mark_42_0 vd vx n (t40 : Int32) (t47 : Int32) (w48 : Int32) nu42_
            )
          ) else (
            LETV (v4_42 + 0 : Int32) fun t43 =>
            LETV ((v5_42 + 1) : Int32) fun w44 =>
            L_qm_mark_42_0 vd vx n (t40 : Int32) (t43 : Int32) (w44 : Int32) nu42_
          )
        ) else (
          LETV (v3_42 + 0 : Int32) fun t28 =>
          LETV (F_sm_letterOf5 nu42_ (v5_42 : Int32) : Int32) fun r29 =>
          if r29 = vx then (
            LETV (F_sm_isRead nu42_ (v5_42 : Int32) : Int32) fun r33 =>
            if r33 = (0 : Int32) then (
              LETV (F_sm_letterOf nu42_ (v5_42 : Int32) (6 : Int32) : Int32) fun r37 =>
              LETV (v4_42 + r37 : Int32) fun t38 =>
              LETV ((v5_42 + 1) : Int32) fun w39 =>
              L_qm_mark_42_0 vd vx n (t28 : Int32) (t38 : Int32) (w39 : Int32) nu42_
            ) else (
              LETV (v4_42 + 0 : Int32) fun t35 =>
              LETV ((v5_42 + 1) : Int32) fun w36 =>
              L_qm_mark_42_0 vd vx n (t28 : Int32) (t35 : Int32) (w36 : Int32) nu42_
            )
          ) else (
            LETV (v4_42 + 0 : Int32) fun t31 =>
            LETV ((v5_42 + 1) : Int32) fun w32 =>
            L_qm_mark_42_0 vd vx n (t28 : Int32) (t31 : Int32) (w32 : Int32) nu42_
          )
        )
      ) else (
        LETV (v3_42 + 0 : Int32) fun t14 =>
        LETV (F_sm_letterOf5 nu42_ (v5_42 : Int32) : Int32) fun r15 =>
        if r15 = vx then (
          LETV (F_sm_isRead nu42_ (v5_42 : Int32) : Int32) fun r19 =>
          if r19 = (0 : Int32) then (
            LETV (F_sm_letterOf nu42_ (v5_42 : Int32) (6 : Int32) : Int32) fun r23 =>
            LETV (v4_42 + r23 : Int32) fun t24 =>
            LETV ((v5_42 + 1) : Int32) fun w25 =>
            L_qm_mark_42_0 vd vx n (t14 : Int32) (t24 : Int32) (w25 : Int32) nu42_
          ) else (
            LETV (v4_42 + 0 : Int32) fun t21 =>
            LETV ((v5_42 + 1) : Int32) fun w22 =>
            L_qm_mark_42_0 vd vx n (t14 : Int32) (t21 : Int32) (w22 : Int32) nu42_
          )
        ) else (
          LETV (v4_42 + 0 : Int32) fun t17 =>
          LETV ((v5_42 + 1) : Int32) fun w18 =>
          L_qm_mark_42_0 vd vx n (t14 : Int32) (t17 : Int32) (w18 : Int32) nu42_
        )
      )
    )
def F_qm_mark (mu : Nat → Nat → Int32) (vx : Int32) (vd : Int32) : Int32 × (Nat → Nat → Int32) :=
  if F_sm_isOne mu (vx : Int32) = 1 then (
    if F_sm_in (vd : Int32) (1 : Int32) (5 : Int32) = 1 then (
      LETV (F_sm_isA mu (vx : Int32) (vd : Int32) : Int32) fun r3 =>
      if r3 = (0 : Int32) then (
        LETP (F_sm_meet mu (3 : Int32)) fun r52 xi52 =>
        ((r52 : Int32), xi52)
      ) else (
        L_qm_mark_42_0 vd vx 7 (0 : Int32) (0 : Int32) (0 : Int32) mu
      )
    ) else (
      (((-1) : Int32), mu)
    )
  ) else (
    (((-1) : Int32), mu)
  )
def F_qm_purse (mu : Nat → Nat → Int32) (vx : Int32) (vv : Int32) : Int32 × (Nat → Nat → Int32) :=
  if F_sm_isOne mu (vx : Int32) = 1 then (
    if F_sm_in (vv : Int32) (0 : Int32) (999 : Int32) = 1 then (
      LETV (mu 8 vx.toNatClampNeg : Int32) fun y3 =>
      LETV (va_up mu 8 (upd (mu 8) vx.toNatClampNeg vv) : Nat → Nat → Int32) fun nu4 =>
      ((y3 : Int32), nu4)
    ) else (
      (((-1) : Int32), mu)
    )
  ) else (
    (((-1) : Int32), mu)
  )
def F_qm_snow (mu : Nat → Nat → Int32) (vi : Int32) (vs : Int32) : Int32 × (Nat → Nat → Int32) :=
  LETV (mu 0 11 : Int32) fun y1 =>
  LETV (y1 - 1 : Int32) fun t2 =>
  if F_sm_in (vi : Int32) (0 : Int32) (t2 : Int32) = 1 then (
    if F_sm_in (vs : Int32) (0 : Int32) (1 : Int32) = 1 then (
      LETV (mu 0 13 : Int32) fun y5 =>
      LETV (y5 >>> (vi &&& 31) : Int32) fun t6 =>
      LETV (t6 &&& 1 : Int32) fun t7 =>
      if vs = (1 : Int32) then (
        LETV (1 <<< (vi &&& 31) : Int32) fun t16 =>
        LETV (y5 ||| t16 : Int32) fun t17 =>
        LETV (va_up mu 0 (upd (mu 0) 13 t17) : Nat → Nat → Int32) fun nu18 =>
        ((t7 : Int32), nu18)
      ) else (
        LETV (1 <<< (vi &&& 31) : Int32) fun t9 =>
        LETV (t9 ^^^ (-1) : Int32) fun t10 =>
        LETV (y5 &&& t10 : Int32) fun t11 =>
        LETV (va_up mu 0 (upd (mu 0) 13 t11) : Nat → Nat → Int32) fun nu12 =>
        ((t7 : Int32), nu12)
      )
    ) else (
      (((-1) : Int32), mu)
    )
  ) else (
    (((-1) : Int32), mu)
  )
def F_qm_asks (mu : Nat → Nat → Int32) (vx : Int32) (vp : Int32) : Int32 × (Nat → Nat → Int32) :=
  if F_sm_isOne mu (vx : Int32) = 1 then (
    if F_sm_in (vp : Int32) (0 : Int32) (999 : Int32) = 1 then (
      LETV (F_sm_asksOf mu (vx : Int32) (vp : Int32) : Int32) fun r3 =>
      ((r3 : Int32), mu)
    ) else (
      (((-1) : Int32), mu)
    )
  ) else (
    (((-1) : Int32), mu)
  )
def F_qm_beside (mu : Nat → Nat → Int32) (vx : Int32) : Int32 × (Nat → Nat → Int32) :=
  if F_sm_isOne mu (vx : Int32) = 1 then (
    LETV (F_sm_besideOf mu (vx : Int32) : Int32) fun r2 =>
    ((r2 : Int32), mu)
  ) else (
    (((-1) : Int32), mu)
  )
def F_qm_send (mu : Nat → Nat → Int32) (vx : Int32) (vy : Int32) (vw : Int32) (vf : Int32) : Int32 × (Nat → Nat → Int32) :=
  if F_sm_areTwo mu (vx : Int32) (vy : Int32) = 1 then (
    if F_sm_in (vw : Int32) (0 : Int32) (99 : Int32) = 1 then (
      if F_sm_in (vf : Int32) (0 : Int32) (9 : Int32) = 1 then (
        LETV (mu 0 15 : Int32) fun y4 =>
        if y4 = (4 : Int32) then (
          (((-2) : Int32), mu)
        ) else (
          LETV (y4 + 1 : Int32) fun t6 =>
          LETV (va_up mu 0 (upd (mu 0) 15 t6) : Nat → Nat → Int32) fun nu7 =>
          LETV (F_sm_setLetter0 nu7 (y4 : Int32) (vx : Int32) : Nat → Nat → Int32) fun xi10 =>
          LETV (F_sm_setLetter1 xi10 (y4 : Int32) (vy : Int32) : Nat → Nat → Int32) fun xi12 =>
          LETV (F_sm_setLetter2 xi12 (y4 : Int32) (vw : Int32) : Nat → Nat → Int32) fun xi14 =>
          LETV (F_sm_setLetter3 xi14 (y4 : Int32) (vf : Int32) : Nat → Nat → Int32) fun xi16 =>
          LETV (xi16 0 14 : Int32) fun y18 =>
          LETV (F_sm_setLetter4 xi16 (y4 : Int32) (y18 : Int32) : Nat → Nat → Int32) fun xi19 =>
          LETV (F_sm_setLetter5 xi19 (y4 : Int32) (vx : Int32) : Nat → Nat → Int32) fun xi21 =>
          LETV (F_sm_setLetter6 xi21 (y4 : Int32) (0 : Int32) : Nat → Nat → Int32) fun xi23 =>
          LETV (F_sm_setLetter7 xi23 (y4 : Int32) (0 : Int32) : Nat → Nat → Int32) fun xi25 =>
          LETV (F_sm_setLetter8 xi25 (y4 : Int32) ((-9) : Int32) : Nat → Nat → Int32) fun xi27 =>
          LETV (F_sm_setLetter9 xi27 (y4 : Int32) (0 : Int32) : Nat → Nat → Int32) fun xi29 =>
          ((y4 : Int32), xi29)
        )
      ) else (
        (((-1) : Int32), mu)
      )
    ) else (
      (((-1) : Int32), mu)
    )
  ) else (
    (((-1) : Int32), mu)
  )
def F_sm_priceOf (mu : Nat → Nat → Int32) (vk : Int32) : Int32 :=
  LETV (F_sm_letterOf5 mu (vk : Int32) : Int32) fun r1 =>
  LETV (F_sm_letterOf mu (vk : Int32) (6 : Int32) : Int32) fun r2 =>
  LETV (F_sm_asksOf mu (r1 : Int32) (r2 : Int32) : Int32) fun r3 =>
  (r3 : Int32)
def L_sm_canSell_47_0 (mu : Nat → Nat → Int32) (r7 : Int32) (r8 : Int32) (vk : Int32) : Nat → (Int32) → (Int32) → Int32
  | 0, v4_47, v5_47 => 0
  | n + 1, v4_47, v5_47 =>
    LETV (mu 0 8 : Int32) fun y9 =>
    if v5_47 ≥ y9 then (
      (v4_47 : Int32)
    ) else (
      LETV (F_sm_letterOf mu (vk : Int32) (1 : Int32) : Int32) fun r11 =>
      if v5_47 = r11 then (
        LETV (F_sm_worthIn mu (vk : Int32) (0 : Int32) : Int32) fun r30 =>
        if r30 < r8 then (
          if F_sm_has (r7 : Int32) (v5_47 : Int32) = 1 then (
            LETV (v4_47 ||| 0 : Int32) fun t33 =>
            LETV ((v5_47 + 1) : Int32) fun w34 =>
            L_sm_canSell_47_0 mu r7 r8 vk n (t33 : Int32) (w34 : Int32)
          ) else (
            LETV (v4_47 ||| 0 : Int32) fun t35 =>
            LETV ((v5_47 + 1) : Int32) fun w36 =>
            L_sm_canSell_47_0 mu r7 r8 vk n (t35 : Int32) (w36 : Int32)
          )
        ) else (
          if F_sm_has (r7 : Int32) (v5_47 : Int32) = 1 then (
            LETV (mu 8 v5_47.toNatClampNeg : Int32) fun y38 =>
            if y38 < r8 then (
              LETV (v4_47 ||| 0 : Int32) fun t40 =>
              LETV ((v5_47 + 1) : Int32) fun w41 =>
              L_sm_canSell_47_0 mu r7 r8 vk n (t40 : Int32) (w41 : Int32)
            ) else (
              LETV (1 <<< (v5_47 &&& 31) : Int32) fun t42 =>
              LETV (v4_47 ||| t42 : Int32) fun t43 =>
              LETV ((v5_47 + 1) : Int32) fun w44 =>
              L_sm_canSell_47_0 mu r7 r8 vk n (t43 : Int32) (w44 : Int32)
            )
          ) else (
            LETV (v4_47 ||| 0 : Int32) fun t45 =>
            LETV ((v5_47 + 1) : Int32) fun w46 =>
            L_sm_canSell_47_0 mu r7 r8 vk n (t45 : Int32) (w46 : Int32)
          )
        )
      ) else (
        LETV (mu 7 v5_47.toNatClampNeg : Int32) fun y13 =>
        if y13 = (3 : Int32) then (
          if F_sm_has (r7 : Int32) (v5_47 : Int32) = 1 then (
            LETV (v4_47 ||| 0 : Int32) fun t16 =>
            LETV ((v5_47 + 1) : Int32) fun w17 =>
            L_sm_canSell_47_0 mu r7 r8 vk n (t16 : Int32) (w17 : Int32)
          ) else (
            LETV (v4_47 ||| 0 : Int32) fun t18 =>
            LETV ((v5_47 + 1) : Int32) fun w19 =>
            L_sm_canSell_47_0 mu r7 r8 vk n (t18 : Int32) (w19 : Int32)
          )
        ) else (
          if F_sm_has (r7 : Int32) (v5_47 : Int32) = 1 then (
            LETV (mu 8 v5_47.toNatClampNeg : Int32) fun y21 =>
            if y21 < r8 then (
              LETV (v4_47 ||| 0 : Int32) fun t23 =>
              LETV ((v5_47 + 1) : Int32) fun w24 =>
              L_sm_canSell_47_0 mu r7 r8 vk n (t23 : Int32) (w24 : Int32)
            ) else (
              LETV (1 <<< (v5_47 &&& 31) : Int32) fun t25 =>
              LETV (v4_47 ||| t25 : Int32) fun t26 =>
              LETV ((v5_47 + 1) : Int32) fun w27 =>
              L_sm_canSell_47_0 mu r7 r8 vk n (t26 : Int32) (w27 : Int32)
            )
          ) else (
            LETV (v4_47 ||| 0 : Int32) fun t28 =>
            LETV ((v5_47 + 1) : Int32) fun w29 =>
            L_sm_canSell_47_0 mu r7 r8 vk n (t28 : Int32) (w29 : Int32)
          )
        )
      )
    )
def F_sm_canSell (mu : Nat → Nat → Int32) (vk : Int32) : Int32 :=
  LETV (F_sm_isRead mu (vk : Int32) : Int32) fun r1 =>
  if r1 = (0 : Int32) then (
    LETV (F_sm_letterOf mu (vk : Int32) (8 : Int32) : Int32) fun r3 =>
    LETV (mu 0 14 : Int32) fun y4 =>
    if r3 = y4 then (
      (0 : Int32)
    ) else (
      LETV (F_sm_letterOf5 mu (vk : Int32) : Int32) fun r6 =>
      LETV (F_sm_besideOf mu (r6 : Int32) : Int32) fun r7 =>
      LETV (F_sm_priceOf mu (vk : Int32) : Int32) fun r8 =>
      L_sm_canSell_47_0 mu r7 r8 vk 10 (0 : Int32) (0 : Int32)
    )
  ) else (
    (0 : Int32)
  )
