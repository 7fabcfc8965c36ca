theorem mw_4_5 : (Cond.code yX5_walkOf cX5_walkOf 3 none : Cond) ∈ lw_good := lg_at 4 5 rfl rfl
theorem mw_4_2 : (Cond.methodLink RX11 244 yX5_walkOf : Cond) ∈ lw_good := lg_at 4 2 rfl rfl
theorem mw_4_3 : (Cond.instanceMethod yX5_walkOf : Cond) ∈ lw_good := lg_at 4 3 rfl rfl
theorem mw_4_4 : (Cond.selects RX5 yX5_walkOf yX5_walkOf : Cond) ∈ lw_good := lg_at 4 4 rfl rfl
theorem mw_2_50 : (Cond.fieldLink RX11 248 "DearLetters$Routes" "cheap" "LDearLetters$Best;" : Cond) ∈ lw_good := lg_at 2 50 rfl rfl
theorem mw_2_36 : (Cond.fieldLink RX11 252 "DearLetters$Best" "there" "Z" : Cond) ∈ lw_good := lg_at 2 36 rfl rfl
theorem mw_2_27 : (Cond.fieldLink RX11 255 "DearLetters$Best" "row" "[I" : Cond) ∈ lw_good := lg_at 2 27 rfl rfl
theorem mw_2_30 : (Cond.fieldLink RX11 258 "DearLetters$Best" "sales" "I" : Cond) ∈ lw_good := lg_at 2 30 rfl rfl
theorem mw_4_55 : (Cond.code yX6_beLike cX6_beLike 3 none : Cond) ∈ lw_good := lg_at 4 55 rfl rfl
theorem mw_4_52 : (Cond.methodLink RX11 261 yX6_beLike : Cond) ∈ lw_good := lg_at 4 52 rfl rfl
theorem mw_4_53 : (Cond.instanceMethod yX6_beLike : Cond) ∈ lw_good := lg_at 4 53 rfl rfl
theorem mw_4_54 : (Cond.selects RX6 yX6_beLike yX6_beLike : Cond) ∈ lw_good := lg_at 4 54 rfl rfl
theorem mw_2_33 : (Cond.fieldLink RX11 264 "DearLetters$Best" "price" "I" : Cond) ∈ lw_good := lg_at 2 33 rfl rfl
theorem mw_2_52 : (Cond.fieldLink RX11 267 "DearLetters$Routes" "soon" "LDearLetters$Best;" : Cond) ∈ lw_good := lg_at 2 52 rfl rfl
theorem mw_2_60 : (Cond.fieldLink RX11 270 "DearLetters$Routes" "all" "I" : Cond) ∈ lw_good := lg_at 2 60 rfl rfl
theorem mw_2_62 : (Cond.fieldLink RX11 273 "DearLetters$Routes" "coming" "I" : Cond) ∈ lw_good := lg_at 2 62 rfl rfl
theorem mw_2_64 : (Cond.fieldLink RX11 276 "DearLetters$Routes" "onEach" "I" : Cond) ∈ lw_good := lg_at 2 64 rfl rfl
theorem mw_4_76 : (Cond.code yX5_isLinked cX5_isLinked 5 (some .boolean) : Cond) ∈ lw_good := lg_at 4 76 rfl rfl
theorem mw_4_73 : (Cond.methodLink RX11 279 yX5_isLinked : Cond) ∈ lw_good := lg_at 4 73 rfl rfl
theorem mw_4_74 : (Cond.instanceMethod yX5_isLinked : Cond) ∈ lw_good := lg_at 4 74 rfl rfl
theorem mw_4_75 : (Cond.selects RX5 yX5_isLinked yX5_isLinked : Cond) ∈ lw_good := lg_at 4 75 rfl rfl
theorem mw_2_66 : (Cond.fieldLink RX11 283 "DearLetters$Routes" "leastNeed" "I" : Cond) ∈ lw_good := lg_at 2 66 rfl rfl
theorem mw_4_85 : (Cond.methodLink RX11 286 yX5_lookAt : Cond) ∈ lw_good := lg_at 4 85 rfl rfl
theorem mw_4_89 : (Cond.code yX5_walkWithLoan cX5_walkWithLoan 5 none : Cond) ∈ lw_good := lg_at 4 89 rfl rfl
theorem mw_4_86 : (Cond.methodLink RX11 292 yX5_walkWithLoan : Cond) ∈ lw_good := lg_at 4 86 rfl rfl
theorem mw_4_87 : (Cond.instanceMethod yX5_walkWithLoan : Cond) ∈ lw_good := lg_at 4 87 rfl rfl
theorem mw_4_88 : (Cond.selects RX5 yX5_walkWithLoan yX5_walkWithLoan : Cond) ∈ lw_good := lg_at 4 88 rfl rfl
theorem mw_1_56 : (Cond.fieldLink RX11 289 "DearLetters$Letter" "reader" "I" : Cond) ∈ lw_good := lg_at 1 56 rfl rfl
theorem mw_4_97 : (Cond.code yX11_leastBlock cX11_leastBlock 4 (some .int) : Cond) ∈ lw_good := lg_at 4 97 rfl rfl
theorem mw_4_94 : (Cond.methodLink RX11 296 yX11_leastBlock : Cond) ∈ lw_good := lg_at 4 94 rfl rfl
theorem mw_4_96 : (Cond.instanceMethod yX11_leastBlock : Cond) ∈ lw_good := lg_at 4 96 rfl rfl
theorem mw_0_17 : (Cond.selects RX11 yX11_leastBlock yX11_leastBlock : Cond) ∈ lw_good := lg_at 0 17 rfl rfl
theorem mw_4_142 : (Cond.code yX5_walkNew cX5_walkNew 4 none : Cond) ∈ lw_good := lg_at 4 142 rfl rfl
theorem mw_4_139 : (Cond.methodLink RX11 314 yX5_walkNew : Cond) ∈ lw_good := lg_at 4 139 rfl rfl
theorem mw_4_140 : (Cond.instanceMethod yX5_walkNew : Cond) ∈ lw_good := lg_at 4 140 rfl rfl
theorem mw_4_141 : (Cond.selects RX5 yX5_walkNew yX5_walkNew : Cond) ∈ lw_good := lg_at 4 141 rfl rfl
theorem mw_4_162 : (Cond.code yX11_refusedPrices cX11_refusedPrices 5 (some .int) : Cond) ∈ lw_good := lg_at 4 162 rfl rfl
theorem mw_4_159 : (Cond.methodLink RX11 320 yX11_refusedPrices : Cond) ∈ lw_good := lg_at 4 159 rfl rfl
theorem mw_4_161 : (Cond.instanceMethod yX11_refusedPrices : Cond) ∈ lw_good := lg_at 4 161 rfl rfl
theorem mw_0_20 : (Cond.selects RX11 yX11_refusedPrices yX11_refusedPrices : Cond) ∈ lw_good := lg_at 0 20 rfl rfl
theorem mw_2_165 : (Cond.fieldLink RX11 58 "DearLetters" "fits" "LDearLetters$Fits;" : Cond) ∈ lw_good := lg_at 2 165 rfl rfl
theorem mw_4_166 : (Cond.code yX1_search cX1_search 4 none : Cond) ∈ lw_good := lg_at 4 166 rfl rfl
theorem mw_4_163 : (Cond.methodLink RX11 324 yX1_search : Cond) ∈ lw_good := lg_at 4 163 rfl rfl
theorem mw_4_164 : (Cond.instanceMethod yX1_search : Cond) ∈ lw_good := lg_at 4 164 rfl rfl
theorem mw_4_165 : (Cond.selects RX1 yX1_search yX1_search : Cond) ∈ lw_good := lg_at 4 165 rfl rfl
theorem mw_2_110 : (Cond.fieldLink RX11 328 "DearLetters$Fits" "lasts" "I" : Cond) ∈ lw_good := lg_at 2 110 rfl rfl
theorem mw_2_108 : (Cond.fieldLink RX11 331 "DearLetters$Fits" "all" "I" : Cond) ∈ lw_good := lg_at 2 108 rfl rfl
theorem mw_2_112 : (Cond.fieldLink RX11 332 "DearLetters$Fits" "inEach" "I" : Cond) ∈ lw_good := lg_at 2 112 rfl rfl
theorem mw_2_106 : (Cond.fieldLink RX11 335 "DearLetters$Fits" "firstRow" "[I" : Cond) ∈ lw_good := lg_at 2 106 rfl rfl
theorem lb_X11_cheapest_0 : dl_ck (cX11_cheapest.data.toList.drop 0) [42, 27, 28, 184, 0, 69, 154, 0, 7, 4, 167, 0, 4, 3, 182, 0, 241, 62, 29, 153, 0, 5, 29, 172, 42, 180, 0, 51, 42, 180, 0, 30] = true := by decide +kernel
theorem lb_X11_cheapest_1 : dl_ck (cX11_cheapest.data.toList.drop 32) [42, 180, 0, 30, 180, 0, 166, 180, 0, 188, 27, 50, 182, 0, 244, 42, 180, 0, 51, 180, 0, 248, 180, 0, 252, 154, 0, 6, 16, 247, 172, 42] = true := by decide +kernel
theorem lb_X11_cheapest_2 : dl_ck (cX11_cheapest.data.toList.drop 64) [180, 0, 11, 28, 50, 42, 180, 0, 51, 180, 0, 248, 180, 0, 255, 42, 180, 0, 51, 180, 0, 248, 180, 1, 2, 4, 96, 182, 1, 5, 42, 180] = true := by decide +kernel
theorem lb_X11_cheapest_3 : dl_ck (cX11_cheapest.data.toList.drop 96) [0, 51, 180, 0, 248, 180, 1, 8, 172] = true := by decide +kernel
theorem dX11_cheapest_0 : decode cX11_cheapest 0 = .ok (.aload_n 0, 1) := dx_42 (dl_at 0 0 lb_X11_cheapest_0 rfl)
theorem dX11_cheapest_1 : decode cX11_cheapest 1 = .ok (.iload_n 1, 1) := dx_27 (dl_at 0 1 lb_X11_cheapest_0 rfl)
theorem dX11_cheapest_2 : decode cX11_cheapest 2 = .ok (.iload_n 2, 1) := dx_28 (dl_at 0 2 lb_X11_cheapest_0 rfl)
theorem dX11_cheapest_3 : decode cX11_cheapest 3 = .ok (.invokestatic 69, 3) := dx_184 (a := 0) (b := 69) (dl_at 0 3 lb_X11_cheapest_0 rfl) (dl_at 0 4 lb_X11_cheapest_0 rfl) (dl_at 0 5 lb_X11_cheapest_0 rfl) rfl
theorem dX11_cheapest_6 : decode cX11_cheapest 6 = .ok (.ifCond .ne 7, 3) := dx_154 (a := 0) (b := 7) (dl_at 0 6 lb_X11_cheapest_0 rfl) (dl_at 0 7 lb_X11_cheapest_0 rfl) (dl_at 0 8 lb_X11_cheapest_0 rfl) sg16_7
theorem dX11_cheapest_13 : decode cX11_cheapest 13 = .ok (.iconst 0, 1) := dx_3 (dl_at 0 13 lb_X11_cheapest_0 rfl)
theorem dX11_cheapest_14 : decode cX11_cheapest 14 = .ok (.invokevirtual 241, 3) := dx_182 (a := 0) (b := 241) (dl_at 0 14 lb_X11_cheapest_0 rfl) (dl_at 0 15 lb_X11_cheapest_0 rfl) (dl_at 0 16 lb_X11_cheapest_0 rfl) rfl
theorem dX11_cheapest_17 : decode cX11_cheapest 17 = .ok (.istore_n 3, 1) := dx_62 (dl_at 0 17 lb_X11_cheapest_0 rfl)
theorem dX11_cheapest_18 : decode cX11_cheapest 18 = .ok (.iload_n 3, 1) := dx_29 (dl_at 0 18 lb_X11_cheapest_0 rfl)
theorem dX11_cheapest_19 : decode cX11_cheapest 19 = .ok (.ifCond .eq 5, 3) := dx_153 (a := 0) (b := 5) (dl_at 0 19 lb_X11_cheapest_0 rfl) (dl_at 0 20 lb_X11_cheapest_0 rfl) (dl_at 0 21 lb_X11_cheapest_0 rfl) sg16_5
theorem dX11_cheapest_24 : decode cX11_cheapest 24 = .ok (.aload_n 0, 1) := dx_42 (dl_at 0 24 lb_X11_cheapest_0 rfl)
theorem dX11_cheapest_25 : decode cX11_cheapest 25 = .ok (.getfield 51, 3) := dx_180 (a := 0) (b := 51) (dl_at 0 25 lb_X11_cheapest_0 rfl) (dl_at 0 26 lb_X11_cheapest_0 rfl) (dl_at 0 27 lb_X11_cheapest_0 rfl) rfl
theorem dX11_cheapest_28 : decode cX11_cheapest 28 = .ok (.aload_n 0, 1) := dx_42 (dl_at 0 28 lb_X11_cheapest_0 rfl)
theorem dX11_cheapest_29 : decode cX11_cheapest 29 = .ok (.getfield 30, 3) := dx_180 (a := 0) (b := 30) (dl_at 0 29 lb_X11_cheapest_0 rfl) (dl_at 0 30 lb_X11_cheapest_0 rfl) (dl_at 0 31 lb_X11_cheapest_0 rfl) rfl
theorem dX11_cheapest_32 : decode cX11_cheapest 32 = .ok (.aload_n 0, 1) := dx_42 (dl_at 32 0 lb_X11_cheapest_1 rfl)
theorem dX11_cheapest_33 : decode cX11_cheapest 33 = .ok (.getfield 30, 3) := dx_180 (a := 0) (b := 30) (dl_at 32 1 lb_X11_cheapest_1 rfl) (dl_at 32 2 lb_X11_cheapest_1 rfl) (dl_at 32 3 lb_X11_cheapest_1 rfl) rfl
theorem dX11_cheapest_36 : decode cX11_cheapest 36 = .ok (.getfield 166, 3) := dx_180 (a := 0) (b := 166) (dl_at 32 4 lb_X11_cheapest_1 rfl) (dl_at 32 5 lb_X11_cheapest_1 rfl) (dl_at 32 6 lb_X11_cheapest_1 rfl) rfl
theorem dX11_cheapest_39 : decode cX11_cheapest 39 = .ok (.getfield 188, 3) := dx_180 (a := 0) (b := 188) (dl_at 32 7 lb_X11_cheapest_1 rfl) (dl_at 32 8 lb_X11_cheapest_1 rfl) (dl_at 32 9 lb_X11_cheapest_1 rfl) rfl
theorem dX11_cheapest_42 : decode cX11_cheapest 42 = .ok (.iload_n 1, 1) := dx_27 (dl_at 32 10 lb_X11_cheapest_1 rfl)
theorem dX11_cheapest_43 : decode cX11_cheapest 43 = .ok (.aaload, 1) := dx_50 (dl_at 32 11 lb_X11_cheapest_1 rfl)
theorem dX11_cheapest_44 : decode cX11_cheapest 44 = .ok (.invokevirtual 244, 3) := dx_182 (a := 0) (b := 244) (dl_at 32 12 lb_X11_cheapest_1 rfl) (dl_at 32 13 lb_X11_cheapest_1 rfl) (dl_at 32 14 lb_X11_cheapest_1 rfl) rfl
theorem dX11_cheapest_47 : decode cX11_cheapest 47 = .ok (.aload_n 0, 1) := dx_42 (dl_at 32 15 lb_X11_cheapest_1 rfl)
theorem dX11_cheapest_48 : decode cX11_cheapest 48 = .ok (.getfield 51, 3) := dx_180 (a := 0) (b := 51) (dl_at 32 16 lb_X11_cheapest_1 rfl) (dl_at 32 17 lb_X11_cheapest_1 rfl) (dl_at 32 18 lb_X11_cheapest_1 rfl) rfl
theorem dX11_cheapest_51 : decode cX11_cheapest 51 = .ok (.getfield 248, 3) := dx_180 (a := 0) (b := 248) (dl_at 32 19 lb_X11_cheapest_1 rfl) (dl_at 32 20 lb_X11_cheapest_1 rfl) (dl_at 32 21 lb_X11_cheapest_1 rfl) rfl
theorem dX11_cheapest_54 : decode cX11_cheapest 54 = .ok (.getfield 252, 3) := dx_180 (a := 0) (b := 252) (dl_at 32 22 lb_X11_cheapest_1 rfl) (dl_at 32 23 lb_X11_cheapest_1 rfl) (dl_at 32 24 lb_X11_cheapest_1 rfl) rfl
theorem dX11_cheapest_57 : decode cX11_cheapest 57 = .ok (.ifCond .ne 6, 3) := dx_154 (a := 0) (b := 6) (dl_at 32 25 lb_X11_cheapest_1 rfl) (dl_at 32 26 lb_X11_cheapest_1 rfl) (dl_at 32 27 lb_X11_cheapest_1 rfl) sg16_6
theorem dX11_cheapest_63 : decode cX11_cheapest 63 = .ok (.aload_n 0, 1) := dx_42 (dl_at 32 31 lb_X11_cheapest_1 rfl)
theorem dX11_cheapest_64 : decode cX11_cheapest 64 = .ok (.getfield 11, 3) := dx_180 (a := 0) (b := 11) (dl_at 64 0 lb_X11_cheapest_2 rfl) (dl_at 64 1 lb_X11_cheapest_2 rfl) (dl_at 64 2 lb_X11_cheapest_2 rfl) rfl
theorem dX11_cheapest_67 : decode cX11_cheapest 67 = .ok (.iload_n 2, 1) := dx_28 (dl_at 64 3 lb_X11_cheapest_2 rfl)
theorem dX11_cheapest_68 : decode cX11_cheapest 68 = .ok (.aaload, 1) := dx_50 (dl_at 64 4 lb_X11_cheapest_2 rfl)
theorem dX11_cheapest_69 : decode cX11_cheapest 69 = .ok (.aload_n 0, 1) := dx_42 (dl_at 64 5 lb_X11_cheapest_2 rfl)
theorem dX11_cheapest_70 : decode cX11_cheapest 70 = .ok (.getfield 51, 3) := dx_180 (a := 0) (b := 51) (dl_at 64 6 lb_X11_cheapest_2 rfl) (dl_at 64 7 lb_X11_cheapest_2 rfl) (dl_at 64 8 lb_X11_cheapest_2 rfl) rfl
theorem dX11_cheapest_73 : decode cX11_cheapest 73 = .ok (.getfield 248, 3) := dx_180 (a := 0) (b := 248) (dl_at 64 9 lb_X11_cheapest_2 rfl) (dl_at 64 10 lb_X11_cheapest_2 rfl) (dl_at 64 11 lb_X11_cheapest_2 rfl) rfl
theorem dX11_cheapest_76 : decode cX11_cheapest 76 = .ok (.getfield 255, 3) := dx_180 (a := 0) (b := 255) (dl_at 64 12 lb_X11_cheapest_2 rfl) (dl_at 64 13 lb_X11_cheapest_2 rfl) (dl_at 64 14 lb_X11_cheapest_2 rfl) rfl
theorem dX11_cheapest_79 : decode cX11_cheapest 79 = .ok (.aload_n 0, 1) := dx_42 (dl_at 64 15 lb_X11_cheapest_2 rfl)
theorem dX11_cheapest_80 : decode cX11_cheapest 80 = .ok (.getfield 51, 3) := dx_180 (a := 0) (b := 51) (dl_at 64 16 lb_X11_cheapest_2 rfl) (dl_at 64 17 lb_X11_cheapest_2 rfl) (dl_at 64 18 lb_X11_cheapest_2 rfl) rfl
theorem dX11_cheapest_83 : decode cX11_cheapest 83 = .ok (.getfield 248, 3) := dx_180 (a := 0) (b := 248) (dl_at 64 19 lb_X11_cheapest_2 rfl) (dl_at 64 20 lb_X11_cheapest_2 rfl) (dl_at 64 21 lb_X11_cheapest_2 rfl) rfl
theorem dX11_cheapest_86 : decode cX11_cheapest 86 = .ok (.getfield 258, 3) := dx_180 (a := 1) (b := 2) (dl_at 64 22 lb_X11_cheapest_2 rfl) (dl_at 64 23 lb_X11_cheapest_2 rfl) (dl_at 64 24 lb_X11_cheapest_2 rfl) rfl
theorem dX11_cheapest_89 : decode cX11_cheapest 89 = .ok (.iconst 1, 1) := dx_4 (dl_at 64 25 lb_X11_cheapest_2 rfl)
theorem dX11_cheapest_90 : decode cX11_cheapest 90 = .ok (.iadd, 1) := dx_96 (dl_at 64 26 lb_X11_cheapest_2 rfl)
theorem dX11_cheapest_91 : decode cX11_cheapest 91 = .ok (.invokevirtual 261, 3) := dx_182 (a := 1) (b := 5) (dl_at 64 27 lb_X11_cheapest_2 rfl) (dl_at 64 28 lb_X11_cheapest_2 rfl) (dl_at 64 29 lb_X11_cheapest_2 rfl) rfl
theorem dX11_cheapest_94 : decode cX11_cheapest 94 = .ok (.aload_n 0, 1) := dx_42 (dl_at 64 30 lb_X11_cheapest_2 rfl)
theorem dX11_cheapest_95 : decode cX11_cheapest 95 = .ok (.getfield 51, 3) := dx_180 (a := 0) (b := 51) (dl_at 64 31 lb_X11_cheapest_2 rfl) (dl_at 96 0 lb_X11_cheapest_3 rfl) (dl_at 96 1 lb_X11_cheapest_3 rfl) rfl
theorem dX11_cheapest_98 : decode cX11_cheapest 98 = .ok (.getfield 248, 3) := dx_180 (a := 0) (b := 248) (dl_at 96 2 lb_X11_cheapest_3 rfl) (dl_at 96 3 lb_X11_cheapest_3 rfl) (dl_at 96 4 lb_X11_cheapest_3 rfl) rfl
theorem dX11_cheapest_101 : decode cX11_cheapest 101 = .ok (.getfield 264, 3) := dx_180 (a := 1) (b := 8) (dl_at 96 5 lb_X11_cheapest_3 rfl) (dl_at 96 6 lb_X11_cheapest_3 rfl) (dl_at 96 7 lb_X11_cheapest_3 rfl) rfl
theorem dX11_cheapest_104 : decode cX11_cheapest 104 = .ok (.ireturn, 1) := dx_172 (dl_at 96 8 lb_X11_cheapest_3 rfl)
theorem dX11_cheapest_60 : decode cX11_cheapest 60 = .ok (.bipush (-9), 2) := dx_16 (dl_at 32 28 lb_X11_cheapest_1 rfl) (dl_at 32 29 lb_X11_cheapest_1 rfl) sg8_247
theorem dX11_cheapest_62 : decode cX11_cheapest 62 = .ok (.ireturn, 1) := dx_172 (dl_at 32 30 lb_X11_cheapest_1 rfl)
theorem dX11_cheapest_22 : decode cX11_cheapest 22 = .ok (.iload_n 3, 1) := dx_29 (dl_at 0 22 lb_X11_cheapest_0 rfl)
theorem dX11_cheapest_23 : decode cX11_cheapest 23 = .ok (.ireturn, 1) := dx_172 (dl_at 0 23 lb_X11_cheapest_0 rfl)
theorem dX11_cheapest_9 : decode cX11_cheapest 9 = .ok (.iconst 1, 1) := dx_4 (dl_at 0 9 lb_X11_cheapest_0 rfl)
theorem dX11_cheapest_10 : decode cX11_cheapest 10 = .ok (.goto 4, 3) := dx_167 (a := 0) (b := 4) (dl_at 0 10 lb_X11_cheapest_0 rfl) (dl_at 0 11 lb_X11_cheapest_0 rfl) (dl_at 0 12 lb_X11_cheapest_0 rfl) sg16_4
theorem lb_X11_soonest_0 : dl_ck (cX11_soonest.data.toList.drop 0) [42, 27, 28, 184, 0, 69, 154, 0, 7, 4, 167, 0, 4, 3, 182, 0, 241, 62, 29, 153, 0, 5, 29, 172, 42, 180, 0, 51, 42, 180, 0, 30] = true := by decide +kernel
theorem lb_X11_soonest_1 : dl_ck (cX11_soonest.data.toList.drop 32) [42, 180, 0, 30, 180, 0, 166, 180, 0, 188, 27, 50, 182, 0, 244, 42, 180, 0, 51, 180, 1, 11, 180, 0, 252, 154, 0, 6, 16, 247, 172, 42] = true := by decide +kernel
theorem lb_X11_soonest_2 : dl_ck (cX11_soonest.data.toList.drop 64) [180, 0, 11, 28, 50, 42, 180, 0, 51, 180, 1, 11, 180, 0, 255, 42, 180, 0, 51, 180, 1, 11, 180, 1, 2, 4, 96, 182, 1, 5, 42, 42] = true := by decide +kernel
theorem lb_X11_soonest_3 : dl_ck (cX11_soonest.data.toList.drop 96) [180, 0, 51, 180, 1, 11, 180, 1, 8, 181, 0, 88, 42, 180, 0, 51, 180, 1, 11, 180, 1, 2, 172] = true := by decide +kernel
theorem dX11_soonest_0 : decode cX11_soonest 0 = .ok (.aload_n 0, 1) := dx_42 (dl_at 0 0 lb_X11_soonest_0 rfl)
theorem dX11_soonest_1 : decode cX11_soonest 1 = .ok (.iload_n 1, 1) := dx_27 (dl_at 0 1 lb_X11_soonest_0 rfl)
theorem dX11_soonest_2 : decode cX11_soonest 2 = .ok (.iload_n 2, 1) := dx_28 (dl_at 0 2 lb_X11_soonest_0 rfl)
theorem dX11_soonest_3 : decode cX11_soonest 3 = .ok (.invokestatic 69, 3) := dx_184 (a := 0) (b := 69) (dl_at 0 3 lb_X11_soonest_0 rfl) (dl_at 0 4 lb_X11_soonest_0 rfl) (dl_at 0 5 lb_X11_soonest_0 rfl) rfl
theorem dX11_soonest_6 : decode cX11_soonest 6 = .ok (.ifCond .ne 7, 3) := dx_154 (a := 0) (b := 7) (dl_at 0 6 lb_X11_soonest_0 rfl) (dl_at 0 7 lb_X11_soonest_0 rfl) (dl_at 0 8 lb_X11_soonest_0 rfl) sg16_7
theorem dX11_soonest_13 : decode cX11_soonest 13 = .ok (.iconst 0, 1) := dx_3 (dl_at 0 13 lb_X11_soonest_0 rfl)
theorem dX11_soonest_14 : decode cX11_soonest 14 = .ok (.invokevirtual 241, 3) := dx_182 (a := 0) (b := 241) (dl_at 0 14 lb_X11_soonest_0 rfl) (dl_at 0 15 lb_X11_soonest_0 rfl) (dl_at 0 16 lb_X11_soonest_0 rfl) rfl
theorem dX11_soonest_17 : decode cX11_soonest 17 = .ok (.istore_n 3, 1) := dx_62 (dl_at 0 17 lb_X11_soonest_0 rfl)
theorem dX11_soonest_18 : decode cX11_soonest 18 = .ok (.iload_n 3, 1) := dx_29 (dl_at 0 18 lb_X11_soonest_0 rfl)
theorem dX11_soonest_19 : decode cX11_soonest 19 = .ok (.ifCond .eq 5, 3) := dx_153 (a := 0) (b := 5) (dl_at 0 19 lb_X11_soonest_0 rfl) (dl_at 0 20 lb_X11_soonest_0 rfl) (dl_at 0 21 lb_X11_soonest_0 rfl) sg16_5
theorem dX11_soonest_24 : decode cX11_soonest 24 = .ok (.aload_n 0, 1) := dx_42 (dl_at 0 24 lb_X11_soonest_0 rfl)
theorem dX11_soonest_25 : decode cX11_soonest 25 = .ok (.getfield 51, 3) := dx_180 (a := 0) (b := 51) (dl_at 0 25 lb_X11_soonest_0 rfl) (dl_at 0 26 lb_X11_soonest_0 rfl) (dl_at 0 27 lb_X11_soonest_0 rfl) rfl
theorem dX11_soonest_28 : decode cX11_soonest 28 = .ok (.aload_n 0, 1) := dx_42 (dl_at 0 28 lb_X11_soonest_0 rfl)
theorem dX11_soonest_29 : decode cX11_soonest 29 = .ok (.getfield 30, 3) := dx_180 (a := 0) (b := 30) (dl_at 0 29 lb_X11_soonest_0 rfl) (dl_at 0 30 lb_X11_soonest_0 rfl) (dl_at 0 31 lb_X11_soonest_0 rfl) rfl
theorem dX11_soonest_32 : decode cX11_soonest 32 = .ok (.aload_n 0, 1) := dx_42 (dl_at 32 0 lb_X11_soonest_1 rfl)
theorem dX11_soonest_33 : decode cX11_soonest 33 = .ok (.getfield 30, 3) := dx_180 (a := 0) (b := 30) (dl_at 32 1 lb_X11_soonest_1 rfl) (dl_at 32 2 lb_X11_soonest_1 rfl) (dl_at 32 3 lb_X11_soonest_1 rfl) rfl
theorem dX11_soonest_36 : decode cX11_soonest 36 = .ok (.getfield 166, 3) := dx_180 (a := 0) (b := 166) (dl_at 32 4 lb_X11_soonest_1 rfl) (dl_at 32 5 lb_X11_soonest_1 rfl) (dl_at 32 6 lb_X11_soonest_1 rfl) rfl
theorem dX11_soonest_39 : decode cX11_soonest 39 = .ok (.getfield 188, 3) := dx_180 (a := 0) (b := 188) (dl_at 32 7 lb_X11_soonest_1 rfl) (dl_at 32 8 lb_X11_soonest_1 rfl) (dl_at 32 9 lb_X11_soonest_1 rfl) rfl
theorem dX11_soonest_42 : decode cX11_soonest 42 = .ok (.iload_n 1, 1) := dx_27 (dl_at 32 10 lb_X11_soonest_1 rfl)
theorem dX11_soonest_43 : decode cX11_soonest 43 = .ok (.aaload, 1) := dx_50 (dl_at 32 11 lb_X11_soonest_1 rfl)
theorem dX11_soonest_44 : decode cX11_soonest 44 = .ok (.invokevirtual 244, 3) := dx_182 (a := 0) (b := 244) (dl_at 32 12 lb_X11_soonest_1 rfl) (dl_at 32 13 lb_X11_soonest_1 rfl) (dl_at 32 14 lb_X11_soonest_1 rfl) rfl
theorem dX11_soonest_47 : decode cX11_soonest 47 = .ok (.aload_n 0, 1) := dx_42 (dl_at 32 15 lb_X11_soonest_1 rfl)
theorem dX11_soonest_48 : decode cX11_soonest 48 = .ok (.getfield 51, 3) := dx_180 (a := 0) (b := 51) (dl_at 32 16 lb_X11_soonest_1 rfl) (dl_at 32 17 lb_X11_soonest_1 rfl) (dl_at 32 18 lb_X11_soonest_1 rfl) rfl
theorem dX11_soonest_51 : decode cX11_soonest 51 = .ok (.getfield 267, 3) := dx_180 (a := 1) (b := 11) (dl_at 32 19 lb_X11_soonest_1 rfl) (dl_at 32 20 lb_X11_soonest_1 rfl) (dl_at 32 21 lb_X11_soonest_1 rfl) rfl
theorem dX11_soonest_54 : decode cX11_soonest 54 = .ok (.getfield 252, 3) := dx_180 (a := 0) (b := 252) (dl_at 32 22 lb_X11_soonest_1 rfl) (dl_at 32 23 lb_X11_soonest_1 rfl) (dl_at 32 24 lb_X11_soonest_1 rfl) rfl
theorem dX11_soonest_57 : decode cX11_soonest 57 = .ok (.ifCond .ne 6, 3) := dx_154 (a := 0) (b := 6) (dl_at 32 25 lb_X11_soonest_1 rfl) (dl_at 32 26 lb_X11_soonest_1 rfl) (dl_at 32 27 lb_X11_soonest_1 rfl) sg16_6
theorem dX11_soonest_63 : decode cX11_soonest 63 = .ok (.aload_n 0, 1) := dx_42 (dl_at 32 31 lb_X11_soonest_1 rfl)
theorem dX11_soonest_64 : decode cX11_soonest 64 = .ok (.getfield 11, 3) := dx_180 (a := 0) (b := 11) (dl_at 64 0 lb_X11_soonest_2 rfl) (dl_at 64 1 lb_X11_soonest_2 rfl) (dl_at 64 2 lb_X11_soonest_2 rfl) rfl
theorem dX11_soonest_67 : decode cX11_soonest 67 = .ok (.iload_n 2, 1) := dx_28 (dl_at 64 3 lb_X11_soonest_2 rfl)
theorem dX11_soonest_68 : decode cX11_soonest 68 = .ok (.aaload, 1) := dx_50 (dl_at 64 4 lb_X11_soonest_2 rfl)
theorem dX11_soonest_69 : decode cX11_soonest 69 = .ok (.aload_n 0, 1) := dx_42 (dl_at 64 5 lb_X11_soonest_2 rfl)
theorem dX11_soonest_70 : decode cX11_soonest 70 = .ok (.getfield 51, 3) := dx_180 (a := 0) (b := 51) (dl_at 64 6 lb_X11_soonest_2 rfl) (dl_at 64 7 lb_X11_soonest_2 rfl) (dl_at 64 8 lb_X11_soonest_2 rfl) rfl
theorem dX11_soonest_73 : decode cX11_soonest 73 = .ok (.getfield 267, 3) := dx_180 (a := 1) (b := 11) (dl_at 64 9 lb_X11_soonest_2 rfl) (dl_at 64 10 lb_X11_soonest_2 rfl) (dl_at 64 11 lb_X11_soonest_2 rfl) rfl
theorem dX11_soonest_76 : decode cX11_soonest 76 = .ok (.getfield 255, 3) := dx_180 (a := 0) (b := 255) (dl_at 64 12 lb_X11_soonest_2 rfl) (dl_at 64 13 lb_X11_soonest_2 rfl) (dl_at 64 14 lb_X11_soonest_2 rfl) rfl
theorem dX11_soonest_79 : decode cX11_soonest 79 = .ok (.aload_n 0, 1) := dx_42 (dl_at 64 15 lb_X11_soonest_2 rfl)
theorem dX11_soonest_80 : decode cX11_soonest 80 = .ok (.getfield 51, 3) := dx_180 (a := 0) (b := 51) (dl_at 64 16 lb_X11_soonest_2 rfl) (dl_at 64 17 lb_X11_soonest_2 rfl) (dl_at 64 18 lb_X11_soonest_2 rfl) rfl
theorem dX11_soonest_83 : decode cX11_soonest 83 = .ok (.getfield 267, 3) := dx_180 (a := 1) (b := 11) (dl_at 64 19 lb_X11_soonest_2 rfl) (dl_at 64 20 lb_X11_soonest_2 rfl) (dl_at 64 21 lb_X11_soonest_2 rfl) rfl
theorem dX11_soonest_86 : decode cX11_soonest 86 = .ok (.getfield 258, 3) := dx_180 (a := 1) (b := 2) (dl_at 64 22 lb_X11_soonest_2 rfl) (dl_at 64 23 lb_X11_soonest_2 rfl) (dl_at 64 24 lb_X11_soonest_2 rfl) rfl
theorem dX11_soonest_89 : decode cX11_soonest 89 = .ok (.iconst 1, 1) := dx_4 (dl_at 64 25 lb_X11_soonest_2 rfl)
theorem dX11_soonest_90 : decode cX11_soonest 90 = .ok (.iadd, 1) := dx_96 (dl_at 64 26 lb_X11_soonest_2 rfl)
theorem dX11_soonest_91 : decode cX11_soonest 91 = .ok (.invokevirtual 261, 3) := dx_182 (a := 1) (b := 5) (dl_at 64 27 lb_X11_soonest_2 rfl) (dl_at 64 28 lb_X11_soonest_2 rfl) (dl_at 64 29 lb_X11_soonest_2 rfl) rfl
theorem dX11_soonest_94 : decode cX11_soonest 94 = .ok (.aload_n 0, 1) := dx_42 (dl_at 64 30 lb_X11_soonest_2 rfl)
theorem dX11_soonest_95 : decode cX11_soonest 95 = .ok (.aload_n 0, 1) := dx_42 (dl_at 64 31 lb_X11_soonest_2 rfl)
theorem dX11_soonest_96 : decode cX11_soonest 96 = .ok (.getfield 51, 3) := dx_180 (a := 0) (b := 51) (dl_at 96 0 lb_X11_soonest_3 rfl) (dl_at 96 1 lb_X11_soonest_3 rfl) (dl_at 96 2 lb_X11_soonest_3 rfl) rfl
theorem dX11_soonest_99 : decode cX11_soonest 99 = .ok (.getfield 267, 3) := dx_180 (a := 1) (b := 11) (dl_at 96 3 lb_X11_soonest_3 rfl) (dl_at 96 4 lb_X11_soonest_3 rfl) (dl_at 96 5 lb_X11_soonest_3 rfl) rfl
theorem dX11_soonest_102 : decode cX11_soonest 102 = .ok (.getfield 264, 3) := dx_180 (a := 1) (b := 8) (dl_at 96 6 lb_X11_soonest_3 rfl) (dl_at 96 7 lb_X11_soonest_3 rfl) (dl_at 96 8 lb_X11_soonest_3 rfl) rfl
theorem dX11_soonest_105 : decode cX11_soonest 105 = .ok (.putfield 88, 3) := dx_181 (a := 0) (b := 88) (dl_at 96 9 lb_X11_soonest_3 rfl) (dl_at 96 10 lb_X11_soonest_3 rfl) (dl_at 96 11 lb_X11_soonest_3 rfl) rfl
theorem dX11_soonest_108 : decode cX11_soonest 108 = .ok (.aload_n 0, 1) := dx_42 (dl_at 96 12 lb_X11_soonest_3 rfl)
theorem dX11_soonest_109 : decode cX11_soonest 109 = .ok (.getfield 51, 3) := dx_180 (a := 0) (b := 51) (dl_at 96 13 lb_X11_soonest_3 rfl) (dl_at 96 14 lb_X11_soonest_3 rfl) (dl_at 96 15 lb_X11_soonest_3 rfl) rfl
theorem dX11_soonest_112 : decode cX11_soonest 112 = .ok (.getfield 267, 3) := dx_180 (a := 1) (b := 11) (dl_at 96 16 lb_X11_soonest_3 rfl) (dl_at 96 17 lb_X11_soonest_3 rfl) (dl_at 96 18 lb_X11_soonest_3 rfl) rfl
theorem dX11_soonest_115 : decode cX11_soonest 115 = .ok (.getfield 258, 3) := dx_180 (a := 1) (b := 2) (dl_at 96 19 lb_X11_soonest_3 rfl) (dl_at 96 20 lb_X11_soonest_3 rfl) (dl_at 96 21 lb_X11_soonest_3 rfl) rfl
theorem dX11_soonest_118 : decode cX11_soonest 118 = .ok (.ireturn, 1) := dx_172 (dl_at 96 22 lb_X11_soonest_3 rfl)
theorem dX11_soonest_60 : decode cX11_soonest 60 = .ok (.bipush (-9), 2) := dx_16 (dl_at 32 28 lb_X11_soonest_1 rfl) (dl_at 32 29 lb_X11_soonest_1 rfl) sg8_247
theorem dX11_soonest_62 : decode cX11_soonest 62 = .ok (.ireturn, 1) := dx_172 (dl_at 32 30 lb_X11_soonest_1 rfl)
theorem dX11_soonest_22 : decode cX11_soonest 22 = .ok (.iload_n 3, 1) := dx_29 (dl_at 0 22 lb_X11_soonest_0 rfl)
theorem dX11_soonest_23 : decode cX11_soonest 23 = .ok (.ireturn, 1) := dx_172 (dl_at 0 23 lb_X11_soonest_0 rfl)
theorem dX11_soonest_9 : decode cX11_soonest 9 = .ok (.iconst 1, 1) := dx_4 (dl_at 0 9 lb_X11_soonest_0 rfl)
theorem dX11_soonest_10 : decode cX11_soonest 10 = .ok (.goto 4, 3) := dx_167 (a := 0) (b := 4) (dl_at 0 10 lb_X11_soonest_0 rfl) (dl_at 0 11 lb_X11_soonest_0 rfl) (dl_at 0 12 lb_X11_soonest_0 rfl) sg16_4
theorem lb_X11_comes_0 : dl_ck (cX11_comes.data.toList.drop 0) [42, 27, 3, 182, 0, 241, 61, 28, 153, 0, 5, 28, 172, 42, 180, 0, 51, 42, 180, 0, 30, 42, 180, 0, 30, 180, 0, 166, 180, 0, 188, 27] = true := by decide +kernel
theorem lb_X11_comes_1 : dl_ck (cX11_comes.data.toList.drop 32) [50, 182, 0, 244, 42, 42, 180, 0, 51, 180, 1, 14, 181, 0, 88, 42, 180, 0, 51, 180, 1, 17, 172] = true := by decide +kernel
theorem dX11_comes_0 : decode cX11_comes 0 = .ok (.aload_n 0, 1) := dx_42 (dl_at 0 0 lb_X11_comes_0 rfl)
theorem dX11_comes_1 : decode cX11_comes 1 = .ok (.iload_n 1, 1) := dx_27 (dl_at 0 1 lb_X11_comes_0 rfl)
theorem dX11_comes_2 : decode cX11_comes 2 = .ok (.iconst 0, 1) := dx_3 (dl_at 0 2 lb_X11_comes_0 rfl)
theorem dX11_comes_3 : decode cX11_comes 3 = .ok (.invokevirtual 241, 3) := dx_182 (a := 0) (b := 241) (dl_at 0 3 lb_X11_comes_0 rfl) (dl_at 0 4 lb_X11_comes_0 rfl) (dl_at 0 5 lb_X11_comes_0 rfl) rfl
theorem dX11_comes_6 : decode cX11_comes 6 = .ok (.istore_n 2, 1) := dx_61 (dl_at 0 6 lb_X11_comes_0 rfl)
theorem dX11_comes_7 : decode cX11_comes 7 = .ok (.iload_n 2, 1) := dx_28 (dl_at 0 7 lb_X11_comes_0 rfl)
theorem dX11_comes_8 : decode cX11_comes 8 = .ok (.ifCond .eq 5, 3) := dx_153 (a := 0) (b := 5) (dl_at 0 8 lb_X11_comes_0 rfl) (dl_at 0 9 lb_X11_comes_0 rfl) (dl_at 0 10 lb_X11_comes_0 rfl) sg16_5
theorem dX11_comes_13 : decode cX11_comes 13 = .ok (.aload_n 0, 1) := dx_42 (dl_at 0 13 lb_X11_comes_0 rfl)
theorem dX11_comes_14 : decode cX11_comes 14 = .ok (.getfield 51, 3) := dx_180 (a := 0) (b := 51) (dl_at 0 14 lb_X11_comes_0 rfl) (dl_at 0 15 lb_X11_comes_0 rfl) (dl_at 0 16 lb_X11_comes_0 rfl) rfl
theorem dX11_comes_17 : decode cX11_comes 17 = .ok (.aload_n 0, 1) := dx_42 (dl_at 0 17 lb_X11_comes_0 rfl)
theorem dX11_comes_18 : decode cX11_comes 18 = .ok (.getfield 30, 3) := dx_180 (a := 0) (b := 30) (dl_at 0 18 lb_X11_comes_0 rfl) (dl_at 0 19 lb_X11_comes_0 rfl) (dl_at 0 20 lb_X11_comes_0 rfl) rfl
theorem dX11_comes_21 : decode cX11_comes 21 = .ok (.aload_n 0, 1) := dx_42 (dl_at 0 21 lb_X11_comes_0 rfl)
theorem dX11_comes_22 : decode cX11_comes 22 = .ok (.getfield 30, 3) := dx_180 (a := 0) (b := 30) (dl_at 0 22 lb_X11_comes_0 rfl) (dl_at 0 23 lb_X11_comes_0 rfl) (dl_at 0 24 lb_X11_comes_0 rfl) rfl
theorem dX11_comes_25 : decode cX11_comes 25 = .ok (.getfield 166, 3) := dx_180 (a := 0) (b := 166) (dl_at 0 25 lb_X11_comes_0 rfl) (dl_at 0 26 lb_X11_comes_0 rfl) (dl_at 0 27 lb_X11_comes_0 rfl) rfl
theorem dX11_comes_28 : decode cX11_comes 28 = .ok (.getfield 188, 3) := dx_180 (a := 0) (b := 188) (dl_at 0 28 lb_X11_comes_0 rfl) (dl_at 0 29 lb_X11_comes_0 rfl) (dl_at 0 30 lb_X11_comes_0 rfl) rfl
theorem dX11_comes_31 : decode cX11_comes 31 = .ok (.iload_n 1, 1) := dx_27 (dl_at 0 31 lb_X11_comes_0 rfl)
theorem dX11_comes_32 : decode cX11_comes 32 = .ok (.aaload, 1) := dx_50 (dl_at 32 0 lb_X11_comes_1 rfl)
theorem dX11_comes_33 : decode cX11_comes 33 = .ok (.invokevirtual 244, 3) := dx_182 (a := 0) (b := 244) (dl_at 32 1 lb_X11_comes_1 rfl) (dl_at 32 2 lb_X11_comes_1 rfl) (dl_at 32 3 lb_X11_comes_1 rfl) rfl
theorem dX11_comes_36 : decode cX11_comes 36 = .ok (.aload_n 0, 1) := dx_42 (dl_at 32 4 lb_X11_comes_1 rfl)
theorem dX11_comes_37 : decode cX11_comes 37 = .ok (.aload_n 0, 1) := dx_42 (dl_at 32 5 lb_X11_comes_1 rfl)
theorem dX11_comes_38 : decode cX11_comes 38 = .ok (.getfield 51, 3) := dx_180 (a := 0) (b := 51) (dl_at 32 6 lb_X11_comes_1 rfl) (dl_at 32 7 lb_X11_comes_1 rfl) (dl_at 32 8 lb_X11_comes_1 rfl) rfl
theorem dX11_comes_41 : decode cX11_comes 41 = .ok (.getfield 270, 3) := dx_180 (a := 1) (b := 14) (dl_at 32 9 lb_X11_comes_1 rfl) (dl_at 32 10 lb_X11_comes_1 rfl) (dl_at 32 11 lb_X11_comes_1 rfl) rfl
theorem dX11_comes_44 : decode cX11_comes 44 = .ok (.putfield 88, 3) := dx_181 (a := 0) (b := 88) (dl_at 32 12 lb_X11_comes_1 rfl) (dl_at 32 13 lb_X11_comes_1 rfl) (dl_at 32 14 lb_X11_comes_1 rfl) rfl
theorem dX11_comes_47 : decode cX11_comes 47 = .ok (.aload_n 0, 1) := dx_42 (dl_at 32 15 lb_X11_comes_1 rfl)
theorem dX11_comes_48 : decode cX11_comes 48 = .ok (.getfield 51, 3) := dx_180 (a := 0) (b := 51) (dl_at 32 16 lb_X11_comes_1 rfl) (dl_at 32 17 lb_X11_comes_1 rfl) (dl_at 32 18 lb_X11_comes_1 rfl) rfl
theorem dX11_comes_51 : decode cX11_comes 51 = .ok (.getfield 273, 3) := dx_180 (a := 1) (b := 17) (dl_at 32 19 lb_X11_comes_1 rfl) (dl_at 32 20 lb_X11_comes_1 rfl) (dl_at 32 21 lb_X11_comes_1 rfl) rfl
theorem dX11_comes_54 : decode cX11_comes 54 = .ok (.ireturn, 1) := dx_172 (dl_at 32 22 lb_X11_comes_1 rfl)
theorem dX11_comes_11 : decode cX11_comes 11 = .ok (.iload_n 2, 1) := dx_28 (dl_at 0 11 lb_X11_comes_0 rfl)
theorem dX11_comes_12 : decode cX11_comes 12 = .ok (.ireturn, 1) := dx_172 (dl_at 0 12 lb_X11_comes_0 rfl)
theorem lb_X11_bars_0 : dl_ck (cX11_bars.data.toList.drop 0) [42, 27, 3, 182, 0, 241, 61, 28, 153, 0, 5, 28, 172, 42, 180, 0, 51, 42, 180, 0, 30, 42, 180, 0, 30, 180, 0, 166, 180, 0, 188, 27] = true := by decide +kernel
theorem lb_X11_bars_1 : dl_ck (cX11_bars.data.toList.drop 32) [50, 182, 0, 244, 42, 180, 0, 51, 180, 1, 17, 154, 0, 7, 3, 167, 0, 10, 42, 180, 0, 51, 180, 1, 20, 172] = true := by decide +kernel
theorem dX11_bars_0 : decode cX11_bars 0 = .ok (.aload_n 0, 1) := dx_42 (dl_at 0 0 lb_X11_bars_0 rfl)
theorem dX11_bars_1 : decode cX11_bars 1 = .ok (.iload_n 1, 1) := dx_27 (dl_at 0 1 lb_X11_bars_0 rfl)
theorem dX11_bars_2 : decode cX11_bars 2 = .ok (.iconst 0, 1) := dx_3 (dl_at 0 2 lb_X11_bars_0 rfl)
theorem dX11_bars_3 : decode cX11_bars 3 = .ok (.invokevirtual 241, 3) := dx_182 (a := 0) (b := 241) (dl_at 0 3 lb_X11_bars_0 rfl) (dl_at 0 4 lb_X11_bars_0 rfl) (dl_at 0 5 lb_X11_bars_0 rfl) rfl
theorem dX11_bars_6 : decode cX11_bars 6 = .ok (.istore_n 2, 1) := dx_61 (dl_at 0 6 lb_X11_bars_0 rfl)
theorem dX11_bars_7 : decode cX11_bars 7 = .ok (.iload_n 2, 1) := dx_28 (dl_at 0 7 lb_X11_bars_0 rfl)
theorem dX11_bars_8 : decode cX11_bars 8 = .ok (.ifCond .eq 5, 3) := dx_153 (a := 0) (b := 5) (dl_at 0 8 lb_X11_bars_0 rfl) (dl_at 0 9 lb_X11_bars_0 rfl) (dl_at 0 10 lb_X11_bars_0 rfl) sg16_5
theorem dX11_bars_13 : decode cX11_bars 13 = .ok (.aload_n 0, 1) := dx_42 (dl_at 0 13 lb_X11_bars_0 rfl)
theorem dX11_bars_14 : decode cX11_bars 14 = .ok (.getfield 51, 3) := dx_180 (a := 0) (b := 51) (dl_at 0 14 lb_X11_bars_0 rfl) (dl_at 0 15 lb_X11_bars_0 rfl) (dl_at 0 16 lb_X11_bars_0 rfl) rfl
theorem dX11_bars_17 : decode cX11_bars 17 = .ok (.aload_n 0, 1) := dx_42 (dl_at 0 17 lb_X11_bars_0 rfl)
theorem dX11_bars_18 : decode cX11_bars 18 = .ok (.getfield 30, 3) := dx_180 (a := 0) (b := 30) (dl_at 0 18 lb_X11_bars_0 rfl) (dl_at 0 19 lb_X11_bars_0 rfl) (dl_at 0 20 lb_X11_bars_0 rfl) rfl
theorem dX11_bars_21 : decode cX11_bars 21 = .ok (.aload_n 0, 1) := dx_42 (dl_at 0 21 lb_X11_bars_0 rfl)
theorem dX11_bars_22 : decode cX11_bars 22 = .ok (.getfield 30, 3) := dx_180 (a := 0) (b := 30) (dl_at 0 22 lb_X11_bars_0 rfl) (dl_at 0 23 lb_X11_bars_0 rfl) (dl_at 0 24 lb_X11_bars_0 rfl) rfl
theorem dX11_bars_25 : decode cX11_bars 25 = .ok (.getfield 166, 3) := dx_180 (a := 0) (b := 166) (dl_at 0 25 lb_X11_bars_0 rfl) (dl_at 0 26 lb_X11_bars_0 rfl) (dl_at 0 27 lb_X11_bars_0 rfl) rfl
theorem dX11_bars_28 : decode cX11_bars 28 = .ok (.getfield 188, 3) := dx_180 (a := 0) (b := 188) (dl_at 0 28 lb_X11_bars_0 rfl) (dl_at 0 29 lb_X11_bars_0 rfl) (dl_at 0 30 lb_X11_bars_0 rfl) rfl
theorem dX11_bars_31 : decode cX11_bars 31 = .ok (.iload_n 1, 1) := dx_27 (dl_at 0 31 lb_X11_bars_0 rfl)
theorem dX11_bars_32 : decode cX11_bars 32 = .ok (.aaload, 1) := dx_50 (dl_at 32 0 lb_X11_bars_1 rfl)
theorem dX11_bars_33 : decode cX11_bars 33 = .ok (.invokevirtual 244, 3) := dx_182 (a := 0) (b := 244) (dl_at 32 1 lb_X11_bars_1 rfl) (dl_at 32 2 lb_X11_bars_1 rfl) (dl_at 32 3 lb_X11_bars_1 rfl) rfl
theorem dX11_bars_36 : decode cX11_bars 36 = .ok (.aload_n 0, 1) := dx_42 (dl_at 32 4 lb_X11_bars_1 rfl)
theorem dX11_bars_37 : decode cX11_bars 37 = .ok (.getfield 51, 3) := dx_180 (a := 0) (b := 51) (dl_at 32 5 lb_X11_bars_1 rfl) (dl_at 32 6 lb_X11_bars_1 rfl) (dl_at 32 7 lb_X11_bars_1 rfl) rfl
theorem dX11_bars_40 : decode cX11_bars 40 = .ok (.getfield 273, 3) := dx_180 (a := 1) (b := 17) (dl_at 32 8 lb_X11_bars_1 rfl) (dl_at 32 9 lb_X11_bars_1 rfl) (dl_at 32 10 lb_X11_bars_1 rfl) rfl
theorem dX11_bars_43 : decode cX11_bars 43 = .ok (.ifCond .ne 7, 3) := dx_154 (a := 0) (b := 7) (dl_at 32 11 lb_X11_bars_1 rfl) (dl_at 32 12 lb_X11_bars_1 rfl) (dl_at 32 13 lb_X11_bars_1 rfl) sg16_7
theorem dX11_bars_50 : decode cX11_bars 50 = .ok (.aload_n 0, 1) := dx_42 (dl_at 32 18 lb_X11_bars_1 rfl)
theorem dX11_bars_51 : decode cX11_bars 51 = .ok (.getfield 51, 3) := dx_180 (a := 0) (b := 51) (dl_at 32 19 lb_X11_bars_1 rfl) (dl_at 32 20 lb_X11_bars_1 rfl) (dl_at 32 21 lb_X11_bars_1 rfl) rfl
theorem dX11_bars_54 : decode cX11_bars 54 = .ok (.getfield 276, 3) := dx_180 (a := 1) (b := 20) (dl_at 32 22 lb_X11_bars_1 rfl) (dl_at 32 23 lb_X11_bars_1 rfl) (dl_at 32 24 lb_X11_bars_1 rfl) rfl
theorem dX11_bars_57 : decode cX11_bars 57 = .ok (.ireturn, 1) := dx_172 (dl_at 32 25 lb_X11_bars_1 rfl)
theorem dX11_bars_46 : decode cX11_bars 46 = .ok (.iconst 0, 1) := dx_3 (dl_at 32 14 lb_X11_bars_1 rfl)
theorem dX11_bars_47 : decode cX11_bars 47 = .ok (.goto 10, 3) := dx_167 (a := 0) (b := 10) (dl_at 32 15 lb_X11_bars_1 rfl) (dl_at 32 16 lb_X11_bars_1 rfl) (dl_at 32 17 lb_X11_bars_1 rfl) sg16_10
theorem dX11_bars_11 : decode cX11_bars 11 = .ok (.iload_n 2, 1) := dx_28 (dl_at 0 11 lb_X11_bars_0 rfl)
theorem dX11_bars_12 : decode cX11_bars 12 = .ok (.ireturn, 1) := dx_172 (dl_at 0 12 lb_X11_bars_0 rfl)
theorem lb_X11_why_0 : dl_ck (cX11_why.data.toList.drop 0) [42, 27, 3, 182, 0, 241, 61, 28, 153, 0, 5, 28, 172, 42, 180, 0, 51, 42, 180, 0, 30, 42, 180, 0, 30, 180, 0, 166, 180, 0, 188, 27] = true := by decide +kernel
theorem lb_X11_why_1 : dl_ck (cX11_why.data.toList.drop 32) [50, 182, 0, 244, 42, 180, 0, 51, 180, 1, 17, 158, 0, 5, 3, 172, 42, 180, 0, 51, 180, 1, 14, 158, 0, 5, 6, 172, 42, 180, 0, 51] = true := by decide +kernel
theorem lb_X11_why_2 : dl_ck (cX11_why.data.toList.drop 64) [42, 180, 0, 30, 182, 1, 23, 153, 0, 7, 5, 167, 0, 4, 4, 172] = true := by decide +kernel
theorem dX11_why_0 : decode cX11_why 0 = .ok (.aload_n 0, 1) := dx_42 (dl_at 0 0 lb_X11_why_0 rfl)
theorem dX11_why_1 : decode cX11_why 1 = .ok (.iload_n 1, 1) := dx_27 (dl_at 0 1 lb_X11_why_0 rfl)
theorem dX11_why_2 : decode cX11_why 2 = .ok (.iconst 0, 1) := dx_3 (dl_at 0 2 lb_X11_why_0 rfl)
theorem dX11_why_3 : decode cX11_why 3 = .ok (.invokevirtual 241, 3) := dx_182 (a := 0) (b := 241) (dl_at 0 3 lb_X11_why_0 rfl) (dl_at 0 4 lb_X11_why_0 rfl) (dl_at 0 5 lb_X11_why_0 rfl) rfl
theorem dX11_why_6 : decode cX11_why 6 = .ok (.istore_n 2, 1) := dx_61 (dl_at 0 6 lb_X11_why_0 rfl)
theorem dX11_why_7 : decode cX11_why 7 = .ok (.iload_n 2, 1) := dx_28 (dl_at 0 7 lb_X11_why_0 rfl)
theorem dX11_why_8 : decode cX11_why 8 = .ok (.ifCond .eq 5, 3) := dx_153 (a := 0) (b := 5) (dl_at 0 8 lb_X11_why_0 rfl) (dl_at 0 9 lb_X11_why_0 rfl) (dl_at 0 10 lb_X11_why_0 rfl) sg16_5
theorem dX11_why_13 : decode cX11_why 13 = .ok (.aload_n 0, 1) := dx_42 (dl_at 0 13 lb_X11_why_0 rfl)
theorem dX11_why_14 : decode cX11_why 14 = .ok (.getfield 51, 3) := dx_180 (a := 0) (b := 51) (dl_at 0 14 lb_X11_why_0 rfl) (dl_at 0 15 lb_X11_why_0 rfl) (dl_at 0 16 lb_X11_why_0 rfl) rfl
theorem dX11_why_17 : decode cX11_why 17 = .ok (.aload_n 0, 1) := dx_42 (dl_at 0 17 lb_X11_why_0 rfl)
theorem dX11_why_18 : decode cX11_why 18 = .ok (.getfield 30, 3) := dx_180 (a := 0) (b := 30) (dl_at 0 18 lb_X11_why_0 rfl) (dl_at 0 19 lb_X11_why_0 rfl) (dl_at 0 20 lb_X11_why_0 rfl) rfl
theorem dX11_why_21 : decode cX11_why 21 = .ok (.aload_n 0, 1) := dx_42 (dl_at 0 21 lb_X11_why_0 rfl)
theorem dX11_why_22 : decode cX11_why 22 = .ok (.getfield 30, 3) := dx_180 (a := 0) (b := 30) (dl_at 0 22 lb_X11_why_0 rfl) (dl_at 0 23 lb_X11_why_0 rfl) (dl_at 0 24 lb_X11_why_0 rfl) rfl
theorem dX11_why_25 : decode cX11_why 25 = .ok (.getfield 166, 3) := dx_180 (a := 0) (b := 166) (dl_at 0 25 lb_X11_why_0 rfl) (dl_at 0 26 lb_X11_why_0 rfl) (dl_at 0 27 lb_X11_why_0 rfl) rfl
theorem dX11_why_28 : decode cX11_why 28 = .ok (.getfield 188, 3) := dx_180 (a := 0) (b := 188) (dl_at 0 28 lb_X11_why_0 rfl) (dl_at 0 29 lb_X11_why_0 rfl) (dl_at 0 30 lb_X11_why_0 rfl) rfl
theorem dX11_why_31 : decode cX11_why 31 = .ok (.iload_n 1, 1) := dx_27 (dl_at 0 31 lb_X11_why_0 rfl)
theorem dX11_why_32 : decode cX11_why 32 = .ok (.aaload, 1) := dx_50 (dl_at 32 0 lb_X11_why_1 rfl)
theorem dX11_why_33 : decode cX11_why 33 = .ok (.invokevirtual 244, 3) := dx_182 (a := 0) (b := 244) (dl_at 32 1 lb_X11_why_1 rfl) (dl_at 32 2 lb_X11_why_1 rfl) (dl_at 32 3 lb_X11_why_1 rfl) rfl
theorem dX11_why_36 : decode cX11_why 36 = .ok (.aload_n 0, 1) := dx_42 (dl_at 32 4 lb_X11_why_1 rfl)
theorem dX11_why_37 : decode cX11_why 37 = .ok (.getfield 51, 3) := dx_180 (a := 0) (b := 51) (dl_at 32 5 lb_X11_why_1 rfl) (dl_at 32 6 lb_X11_why_1 rfl) (dl_at 32 7 lb_X11_why_1 rfl) rfl
theorem dX11_why_40 : decode cX11_why 40 = .ok (.getfield 273, 3) := dx_180 (a := 1) (b := 17) (dl_at 32 8 lb_X11_why_1 rfl) (dl_at 32 9 lb_X11_why_1 rfl) (dl_at 32 10 lb_X11_why_1 rfl) rfl
theorem dX11_why_43 : decode cX11_why 43 = .ok (.ifCond .le 5, 3) := dx_158 (a := 0) (b := 5) (dl_at 32 11 lb_X11_why_1 rfl) (dl_at 32 12 lb_X11_why_1 rfl) (dl_at 32 13 lb_X11_why_1 rfl) sg16_5
theorem dX11_why_48 : decode cX11_why 48 = .ok (.aload_n 0, 1) := dx_42 (dl_at 32 16 lb_X11_why_1 rfl)
theorem dX11_why_49 : decode cX11_why 49 = .ok (.getfield 51, 3) := dx_180 (a := 0) (b := 51) (dl_at 32 17 lb_X11_why_1 rfl) (dl_at 32 18 lb_X11_why_1 rfl) (dl_at 32 19 lb_X11_why_1 rfl) rfl
theorem dX11_why_52 : decode cX11_why 52 = .ok (.getfield 270, 3) := dx_180 (a := 1) (b := 14) (dl_at 32 20 lb_X11_why_1 rfl) (dl_at 32 21 lb_X11_why_1 rfl) (dl_at 32 22 lb_X11_why_1 rfl) rfl
theorem dX11_why_55 : decode cX11_why 55 = .ok (.ifCond .le 5, 3) := dx_158 (a := 0) (b := 5) (dl_at 32 23 lb_X11_why_1 rfl) (dl_at 32 24 lb_X11_why_1 rfl) (dl_at 32 25 lb_X11_why_1 rfl) sg16_5
theorem dX11_why_60 : decode cX11_why 60 = .ok (.aload_n 0, 1) := dx_42 (dl_at 32 28 lb_X11_why_1 rfl)
theorem dX11_why_61 : decode cX11_why 61 = .ok (.getfield 51, 3) := dx_180 (a := 0) (b := 51) (dl_at 32 29 lb_X11_why_1 rfl) (dl_at 32 30 lb_X11_why_1 rfl) (dl_at 32 31 lb_X11_why_1 rfl) rfl
theorem dX11_why_64 : decode cX11_why 64 = .ok (.aload_n 0, 1) := dx_42 (dl_at 64 0 lb_X11_why_2 rfl)
theorem dX11_why_65 : decode cX11_why 65 = .ok (.getfield 30, 3) := dx_180 (a := 0) (b := 30) (dl_at 64 1 lb_X11_why_2 rfl) (dl_at 64 2 lb_X11_why_2 rfl) (dl_at 64 3 lb_X11_why_2 rfl) rfl
theorem dX11_why_68 : decode cX11_why 68 = .ok (.invokevirtual 279, 3) := dx_182 (a := 1) (b := 23) (dl_at 64 4 lb_X11_why_2 rfl) (dl_at 64 5 lb_X11_why_2 rfl) (dl_at 64 6 lb_X11_why_2 rfl) rfl
theorem dX11_why_71 : decode cX11_why 71 = .ok (.ifCond .eq 7, 3) := dx_153 (a := 0) (b := 7) (dl_at 64 7 lb_X11_why_2 rfl) (dl_at 64 8 lb_X11_why_2 rfl) (dl_at 64 9 lb_X11_why_2 rfl) sg16_7
theorem dX11_why_78 : decode cX11_why 78 = .ok (.iconst 1, 1) := dx_4 (dl_at 64 14 lb_X11_why_2 rfl)
theorem dX11_why_79 : decode cX11_why 79 = .ok (.ireturn, 1) := dx_172 (dl_at 64 15 lb_X11_why_2 rfl)
theorem dX11_why_74 : decode cX11_why 74 = .ok (.iconst 2, 1) := dx_5 (dl_at 64 10 lb_X11_why_2 rfl)
theorem dX11_why_75 : decode cX11_why 75 = .ok (.goto 4, 3) := dx_167 (a := 0) (b := 4) (dl_at 64 11 lb_X11_why_2 rfl) (dl_at 64 12 lb_X11_why_2 rfl) (dl_at 64 13 lb_X11_why_2 rfl) sg16_4
theorem dX11_why_58 : decode cX11_why 58 = .ok (.iconst 3, 1) := dx_6 (dl_at 32 26 lb_X11_why_1 rfl)
theorem dX11_why_59 : decode cX11_why 59 = .ok (.ireturn, 1) := dx_172 (dl_at 32 27 lb_X11_why_1 rfl)
theorem dX11_why_46 : decode cX11_why 46 = .ok (.iconst 0, 1) := dx_3 (dl_at 32 14 lb_X11_why_1 rfl)
theorem dX11_why_47 : decode cX11_why 47 = .ok (.ireturn, 1) := dx_172 (dl_at 32 15 lb_X11_why_1 rfl)
theorem dX11_why_11 : decode cX11_why 11 = .ok (.iload_n 2, 1) := dx_28 (dl_at 0 11 lb_X11_why_0 rfl)
theorem dX11_why_12 : decode cX11_why 12 = .ok (.ireturn, 1) := dx_172 (dl_at 0 12 lb_X11_why_0 rfl)
theorem lb_X11_needs_0 : dl_ck (cX11_needs.data.toList.drop 0) [42, 27, 3, 182, 0, 241, 61, 28, 153, 0, 5, 28, 172, 42, 180, 0, 51, 42, 180, 0, 30, 42, 180, 0, 30, 180, 0, 166, 180, 0, 188, 27] = true := by decide +kernel
theorem lb_X11_needs_1 : dl_ck (cX11_needs.data.toList.drop 32) [50, 182, 0, 244, 42, 180, 0, 51, 180, 1, 14, 153, 0, 16, 42, 180, 0, 51, 180, 1, 27, 17, 3, 231, 164, 0, 8, 16, 247, 167, 0, 10] = true := by decide +kernel
theorem lb_X11_needs_2 : dl_ck (cX11_needs.data.toList.drop 64) [42, 180, 0, 51, 180, 1, 27, 172] = true := by decide +kernel
theorem dX11_needs_0 : decode cX11_needs 0 = .ok (.aload_n 0, 1) := dx_42 (dl_at 0 0 lb_X11_needs_0 rfl)
theorem dX11_needs_1 : decode cX11_needs 1 = .ok (.iload_n 1, 1) := dx_27 (dl_at 0 1 lb_X11_needs_0 rfl)
theorem dX11_needs_2 : decode cX11_needs 2 = .ok (.iconst 0, 1) := dx_3 (dl_at 0 2 lb_X11_needs_0 rfl)
theorem dX11_needs_3 : decode cX11_needs 3 = .ok (.invokevirtual 241, 3) := dx_182 (a := 0) (b := 241) (dl_at 0 3 lb_X11_needs_0 rfl) (dl_at 0 4 lb_X11_needs_0 rfl) (dl_at 0 5 lb_X11_needs_0 rfl) rfl
theorem dX11_needs_6 : decode cX11_needs 6 = .ok (.istore_n 2, 1) := dx_61 (dl_at 0 6 lb_X11_needs_0 rfl)
theorem dX11_needs_7 : decode cX11_needs 7 = .ok (.iload_n 2, 1) := dx_28 (dl_at 0 7 lb_X11_needs_0 rfl)
theorem dX11_needs_8 : decode cX11_needs 8 = .ok (.ifCond .eq 5, 3) := dx_153 (a := 0) (b := 5) (dl_at 0 8 lb_X11_needs_0 rfl) (dl_at 0 9 lb_X11_needs_0 rfl) (dl_at 0 10 lb_X11_needs_0 rfl) sg16_5
theorem dX11_needs_13 : decode cX11_needs 13 = .ok (.aload_n 0, 1) := dx_42 (dl_at 0 13 lb_X11_needs_0 rfl)
theorem dX11_needs_14 : decode cX11_needs 14 = .ok (.getfield 51, 3) := dx_180 (a := 0) (b := 51) (dl_at 0 14 lb_X11_needs_0 rfl) (dl_at 0 15 lb_X11_needs_0 rfl) (dl_at 0 16 lb_X11_needs_0 rfl) rfl
theorem dX11_needs_17 : decode cX11_needs 17 = .ok (.aload_n 0, 1) := dx_42 (dl_at 0 17 lb_X11_needs_0 rfl)
theorem dX11_needs_18 : decode cX11_needs 18 = .ok (.getfield 30, 3) := dx_180 (a := 0) (b := 30) (dl_at 0 18 lb_X11_needs_0 rfl) (dl_at 0 19 lb_X11_needs_0 rfl) (dl_at 0 20 lb_X11_needs_0 rfl) rfl
theorem dX11_needs_21 : decode cX11_needs 21 = .ok (.aload_n 0, 1) := dx_42 (dl_at 0 21 lb_X11_needs_0 rfl)
theorem dX11_needs_22 : decode cX11_needs 22 = .ok (.getfield 30, 3) := dx_180 (a := 0) (b := 30) (dl_at 0 22 lb_X11_needs_0 rfl) (dl_at 0 23 lb_X11_needs_0 rfl) (dl_at 0 24 lb_X11_needs_0 rfl) rfl
theorem dX11_needs_25 : decode cX11_needs 25 = .ok (.getfield 166, 3) := dx_180 (a := 0) (b := 166) (dl_at 0 25 lb_X11_needs_0 rfl) (dl_at 0 26 lb_X11_needs_0 rfl) (dl_at 0 27 lb_X11_needs_0 rfl) rfl
theorem dX11_needs_28 : decode cX11_needs 28 = .ok (.getfield 188, 3) := dx_180 (a := 0) (b := 188) (dl_at 0 28 lb_X11_needs_0 rfl) (dl_at 0 29 lb_X11_needs_0 rfl) (dl_at 0 30 lb_X11_needs_0 rfl) rfl
theorem dX11_needs_31 : decode cX11_needs 31 = .ok (.iload_n 1, 1) := dx_27 (dl_at 0 31 lb_X11_needs_0 rfl)
theorem dX11_needs_32 : decode cX11_needs 32 = .ok (.aaload, 1) := dx_50 (dl_at 32 0 lb_X11_needs_1 rfl)
theorem dX11_needs_33 : decode cX11_needs 33 = .ok (.invokevirtual 244, 3) := dx_182 (a := 0) (b := 244) (dl_at 32 1 lb_X11_needs_1 rfl) (dl_at 32 2 lb_X11_needs_1 rfl) (dl_at 32 3 lb_X11_needs_1 rfl) rfl
theorem dX11_needs_36 : decode cX11_needs 36 = .ok (.aload_n 0, 1) := dx_42 (dl_at 32 4 lb_X11_needs_1 rfl)
theorem dX11_needs_37 : decode cX11_needs 37 = .ok (.getfield 51, 3) := dx_180 (a := 0) (b := 51) (dl_at 32 5 lb_X11_needs_1 rfl) (dl_at 32 6 lb_X11_needs_1 rfl) (dl_at 32 7 lb_X11_needs_1 rfl) rfl
theorem dX11_needs_40 : decode cX11_needs 40 = .ok (.getfield 270, 3) := dx_180 (a := 1) (b := 14) (dl_at 32 8 lb_X11_needs_1 rfl) (dl_at 32 9 lb_X11_needs_1 rfl) (dl_at 32 10 lb_X11_needs_1 rfl) rfl
theorem dX11_needs_43 : decode cX11_needs 43 = .ok (.ifCond .eq 16, 3) := dx_153 (a := 0) (b := 16) (dl_at 32 11 lb_X11_needs_1 rfl) (dl_at 32 12 lb_X11_needs_1 rfl) (dl_at 32 13 lb_X11_needs_1 rfl) sg16_16
theorem dX11_needs_59 : decode cX11_needs 59 = .ok (.bipush (-9), 2) := dx_16 (dl_at 32 27 lb_X11_needs_1 rfl) (dl_at 32 28 lb_X11_needs_1 rfl) sg8_247
theorem dX11_needs_61 : decode cX11_needs 61 = .ok (.goto 10, 3) := dx_167 (a := 0) (b := 10) (dl_at 32 29 lb_X11_needs_1 rfl) (dl_at 32 30 lb_X11_needs_1 rfl) (dl_at 32 31 lb_X11_needs_1 rfl) sg16_10
theorem dX11_needs_71 : decode cX11_needs 71 = .ok (.ireturn, 1) := dx_172 (dl_at 64 7 lb_X11_needs_2 rfl)
theorem dX11_needs_46 : decode cX11_needs 46 = .ok (.aload_n 0, 1) := dx_42 (dl_at 32 14 lb_X11_needs_1 rfl)
theorem dX11_needs_47 : decode cX11_needs 47 = .ok (.getfield 51, 3) := dx_180 (a := 0) (b := 51) (dl_at 32 15 lb_X11_needs_1 rfl) (dl_at 32 16 lb_X11_needs_1 rfl) (dl_at 32 17 lb_X11_needs_1 rfl) rfl
theorem dX11_needs_50 : decode cX11_needs 50 = .ok (.getfield 283, 3) := dx_180 (a := 1) (b := 27) (dl_at 32 18 lb_X11_needs_1 rfl) (dl_at 32 19 lb_X11_needs_1 rfl) (dl_at 32 20 lb_X11_needs_1 rfl) rfl
theorem dX11_needs_53 : decode cX11_needs 53 = .ok (.sipush 999, 3) := dx_17 (a := 3) (b := 231) (dl_at 32 21 lb_X11_needs_1 rfl) (dl_at 32 22 lb_X11_needs_1 rfl) (dl_at 32 23 lb_X11_needs_1 rfl) sg16_999
theorem dX11_needs_56 : decode cX11_needs 56 = .ok (.if_icmp .le 8, 3) := dx_164 (a := 0) (b := 8) (dl_at 32 24 lb_X11_needs_1 rfl) (dl_at 32 25 lb_X11_needs_1 rfl) (dl_at 32 26 lb_X11_needs_1 rfl) sg16_8
theorem dX11_needs_64 : decode cX11_needs 64 = .ok (.aload_n 0, 1) := dx_42 (dl_at 64 0 lb_X11_needs_2 rfl)
theorem dX11_needs_65 : decode cX11_needs 65 = .ok (.getfield 51, 3) := dx_180 (a := 0) (b := 51) (dl_at 64 1 lb_X11_needs_2 rfl) (dl_at 64 2 lb_X11_needs_2 rfl) (dl_at 64 3 lb_X11_needs_2 rfl) rfl
theorem dX11_needs_68 : decode cX11_needs 68 = .ok (.getfield 283, 3) := dx_180 (a := 1) (b := 27) (dl_at 64 4 lb_X11_needs_2 rfl) (dl_at 64 5 lb_X11_needs_2 rfl) (dl_at 64 6 lb_X11_needs_2 rfl) rfl
theorem dX11_needs_11 : decode cX11_needs 11 = .ok (.iload_n 2, 1) := dx_28 (dl_at 0 11 lb_X11_needs_0 rfl)
theorem dX11_needs_12 : decode cX11_needs 12 = .ok (.ireturn, 1) := dx_172 (dl_at 0 12 lb_X11_needs_0 rfl)
theorem lb_X11_lend_0 : dl_ck (cX11_lend.data.toList.drop 0) [42, 27, 3, 182, 0, 241, 61, 28, 153, 0, 5, 28, 172, 42, 180, 0, 30, 180, 0, 166, 180, 0, 188, 27, 50, 78, 42, 180, 0, 51, 42, 180] = true := by decide +kernel
theorem lb_X11_lend_1 : dl_ck (cX11_lend.data.toList.drop 32) [0, 30, 45, 182, 1, 30, 16, 247, 54, 4, 3, 54, 5, 3, 54, 6, 21, 6, 42, 180, 0, 30, 180, 0, 139, 162, 0, 110, 21, 6, 45, 180] = true := by decide +kernel
theorem lb_X11_lend_2 : dl_ck (cX11_lend.data.toList.drop 64) [0, 225, 159, 0, 95, 42, 180, 0, 30, 180, 0, 148, 21, 6, 46, 6, 160, 0, 15, 21, 6, 45, 180, 1, 33, 159, 0, 6, 167, 0, 69, 42] = true := by decide +kernel
theorem lb_X11_lend_3 : dl_ck (cX11_lend.data.toList.drop 96) [180, 0, 51, 42, 180, 0, 30, 21, 6, 16, 99, 182, 1, 36, 42, 180, 0, 51, 180, 0, 248, 180, 0, 252, 153, 0, 41, 21, 4, 16, 247, 159] = true := by decide +kernel
theorem lb_X11_lend_4 : dl_ck (cX11_lend.data.toList.drop 128) [0, 18, 42, 180, 0, 51, 180, 0, 248, 180, 1, 8, 21, 5, 162, 0, 19, 21, 6, 54, 4, 42, 180, 0, 51, 180, 0, 248, 180, 1, 8, 54] = true := by decide +kernel
theorem lb_X11_lend_5 : dl_ck (cX11_lend.data.toList.drop 160) [5, 132, 6, 1, 167, 255, 140, 21, 4, 16, 247, 159, 0, 9, 42, 21, 5, 181, 0, 88, 21, 4, 172] = true := by decide +kernel
theorem dX11_lend_0 : decode cX11_lend 0 = .ok (.aload_n 0, 1) := dx_42 (dl_at 0 0 lb_X11_lend_0 rfl)
theorem dX11_lend_1 : decode cX11_lend 1 = .ok (.iload_n 1, 1) := dx_27 (dl_at 0 1 lb_X11_lend_0 rfl)
theorem dX11_lend_2 : decode cX11_lend 2 = .ok (.iconst 0, 1) := dx_3 (dl_at 0 2 lb_X11_lend_0 rfl)
theorem dX11_lend_3 : decode cX11_lend 3 = .ok (.invokevirtual 241, 3) := dx_182 (a := 0) (b := 241) (dl_at 0 3 lb_X11_lend_0 rfl) (dl_at 0 4 lb_X11_lend_0 rfl) (dl_at 0 5 lb_X11_lend_0 rfl) rfl
theorem dX11_lend_6 : decode cX11_lend 6 = .ok (.istore_n 2, 1) := dx_61 (dl_at 0 6 lb_X11_lend_0 rfl)
theorem dX11_lend_7 : decode cX11_lend 7 = .ok (.iload_n 2, 1) := dx_28 (dl_at 0 7 lb_X11_lend_0 rfl)
theorem dX11_lend_8 : decode cX11_lend 8 = .ok (.ifCond .eq 5, 3) := dx_153 (a := 0) (b := 5) (dl_at 0 8 lb_X11_lend_0 rfl) (dl_at 0 9 lb_X11_lend_0 rfl) (dl_at 0 10 lb_X11_lend_0 rfl) sg16_5
theorem dX11_lend_13 : decode cX11_lend 13 = .ok (.aload_n 0, 1) := dx_42 (dl_at 0 13 lb_X11_lend_0 rfl)
theorem dX11_lend_14 : decode cX11_lend 14 = .ok (.getfield 30, 3) := dx_180 (a := 0) (b := 30) (dl_at 0 14 lb_X11_lend_0 rfl) (dl_at 0 15 lb_X11_lend_0 rfl) (dl_at 0 16 lb_X11_lend_0 rfl) rfl
theorem dX11_lend_17 : decode cX11_lend 17 = .ok (.getfield 166, 3) := dx_180 (a := 0) (b := 166) (dl_at 0 17 lb_X11_lend_0 rfl) (dl_at 0 18 lb_X11_lend_0 rfl) (dl_at 0 19 lb_X11_lend_0 rfl) rfl
theorem dX11_lend_20 : decode cX11_lend 20 = .ok (.getfield 188, 3) := dx_180 (a := 0) (b := 188) (dl_at 0 20 lb_X11_lend_0 rfl) (dl_at 0 21 lb_X11_lend_0 rfl) (dl_at 0 22 lb_X11_lend_0 rfl) rfl
theorem dX11_lend_23 : decode cX11_lend 23 = .ok (.iload_n 1, 1) := dx_27 (dl_at 0 23 lb_X11_lend_0 rfl)
theorem dX11_lend_24 : decode cX11_lend 24 = .ok (.aaload, 1) := dx_50 (dl_at 0 24 lb_X11_lend_0 rfl)
theorem dX11_lend_25 : decode cX11_lend 25 = .ok (.astore_n 3, 1) := dx_78 (dl_at 0 25 lb_X11_lend_0 rfl)
theorem dX11_lend_26 : decode cX11_lend 26 = .ok (.aload_n 0, 1) := dx_42 (dl_at 0 26 lb_X11_lend_0 rfl)
theorem dX11_lend_27 : decode cX11_lend 27 = .ok (.getfield 51, 3) := dx_180 (a := 0) (b := 51) (dl_at 0 27 lb_X11_lend_0 rfl) (dl_at 0 28 lb_X11_lend_0 rfl) (dl_at 0 29 lb_X11_lend_0 rfl) rfl
theorem dX11_lend_30 : decode cX11_lend 30 = .ok (.aload_n 0, 1) := dx_42 (dl_at 0 30 lb_X11_lend_0 rfl)
theorem dX11_lend_31 : decode cX11_lend 31 = .ok (.getfield 30, 3) := dx_180 (a := 0) (b := 30) (dl_at 0 31 lb_X11_lend_0 rfl) (dl_at 32 0 lb_X11_lend_1 rfl) (dl_at 32 1 lb_X11_lend_1 rfl) rfl
theorem dX11_lend_34 : decode cX11_lend 34 = .ok (.aload_n 3, 1) := dx_45 (dl_at 32 2 lb_X11_lend_1 rfl)
theorem dX11_lend_35 : decode cX11_lend 35 = .ok (.invokevirtual 286, 3) := dx_182 (a := 1) (b := 30) (dl_at 32 3 lb_X11_lend_1 rfl) (dl_at 32 4 lb_X11_lend_1 rfl) (dl_at 32 5 lb_X11_lend_1 rfl) rfl
theorem dX11_lend_38 : decode cX11_lend 38 = .ok (.bipush (-9), 2) := dx_16 (dl_at 32 6 lb_X11_lend_1 rfl) (dl_at 32 7 lb_X11_lend_1 rfl) sg8_247
theorem dX11_lend_40 : decode cX11_lend 40 = .ok (.istore 4, 2) := dx_54 (dl_at 32 8 lb_X11_lend_1 rfl) (dl_at 32 9 lb_X11_lend_1 rfl)
theorem dX11_lend_42 : decode cX11_lend 42 = .ok (.iconst 0, 1) := dx_3 (dl_at 32 10 lb_X11_lend_1 rfl)
theorem dX11_lend_43 : decode cX11_lend 43 = .ok (.istore 5, 2) := dx_54 (dl_at 32 11 lb_X11_lend_1 rfl) (dl_at 32 12 lb_X11_lend_1 rfl)
theorem dX11_lend_45 : decode cX11_lend 45 = .ok (.iconst 0, 1) := dx_3 (dl_at 32 13 lb_X11_lend_1 rfl)
theorem dX11_lend_46 : decode cX11_lend 46 = .ok (.istore 6, 2) := dx_54 (dl_at 32 14 lb_X11_lend_1 rfl) (dl_at 32 15 lb_X11_lend_1 rfl)
theorem dX11_lend_48 : decode cX11_lend 48 = .ok (.iload 6, 2) := dx_21 (dl_at 32 16 lb_X11_lend_1 rfl) (dl_at 32 17 lb_X11_lend_1 rfl)
theorem dX11_lend_50 : decode cX11_lend 50 = .ok (.aload_n 0, 1) := dx_42 (dl_at 32 18 lb_X11_lend_1 rfl)
theorem dX11_lend_51 : decode cX11_lend 51 = .ok (.getfield 30, 3) := dx_180 (a := 0) (b := 30) (dl_at 32 19 lb_X11_lend_1 rfl) (dl_at 32 20 lb_X11_lend_1 rfl) (dl_at 32 21 lb_X11_lend_1 rfl) rfl
theorem dX11_lend_54 : decode cX11_lend 54 = .ok (.getfield 139, 3) := dx_180 (a := 0) (b := 139) (dl_at 32 22 lb_X11_lend_1 rfl) (dl_at 32 23 lb_X11_lend_1 rfl) (dl_at 32 24 lb_X11_lend_1 rfl) rfl
theorem dX11_lend_57 : decode cX11_lend 57 = .ok (.if_icmp .ge 110, 3) := dx_162 (a := 0) (b := 110) (dl_at 32 25 lb_X11_lend_1 rfl) (dl_at 32 26 lb_X11_lend_1 rfl) (dl_at 32 27 lb_X11_lend_1 rfl) sg16_110
theorem dX11_lend_167 : decode cX11_lend 167 = .ok (.iload 4, 2) := dx_21 (dl_at 160 7 lb_X11_lend_5 rfl) (dl_at 160 8 lb_X11_lend_5 rfl)
theorem dX11_lend_169 : decode cX11_lend 169 = .ok (.bipush (-9), 2) := dx_16 (dl_at 160 9 lb_X11_lend_5 rfl) (dl_at 160 10 lb_X11_lend_5 rfl) sg8_247
theorem dX11_lend_171 : decode cX11_lend 171 = .ok (.if_icmp .eq 9, 3) := dx_159 (a := 0) (b := 9) (dl_at 160 11 lb_X11_lend_5 rfl) (dl_at 160 12 lb_X11_lend_5 rfl) (dl_at 160 13 lb_X11_lend_5 rfl) sg16_9
theorem dX11_lend_180 : decode cX11_lend 180 = .ok (.iload 4, 2) := dx_21 (dl_at 160 20 lb_X11_lend_5 rfl) (dl_at 160 21 lb_X11_lend_5 rfl)
theorem dX11_lend_182 : decode cX11_lend 182 = .ok (.ireturn, 1) := dx_172 (dl_at 160 22 lb_X11_lend_5 rfl)
theorem dX11_lend_174 : decode cX11_lend 174 = .ok (.aload_n 0, 1) := dx_42 (dl_at 160 14 lb_X11_lend_5 rfl)
theorem dX11_lend_175 : decode cX11_lend 175 = .ok (.iload 5, 2) := dx_21 (dl_at 160 15 lb_X11_lend_5 rfl) (dl_at 160 16 lb_X11_lend_5 rfl)
theorem dX11_lend_177 : decode cX11_lend 177 = .ok (.putfield 88, 3) := dx_181 (a := 0) (b := 88) (dl_at 160 17 lb_X11_lend_5 rfl) (dl_at 160 18 lb_X11_lend_5 rfl) (dl_at 160 19 lb_X11_lend_5 rfl) rfl
theorem dX11_lend_60 : decode cX11_lend 60 = .ok (.iload 6, 2) := dx_21 (dl_at 32 28 lb_X11_lend_1 rfl) (dl_at 32 29 lb_X11_lend_1 rfl)
theorem dX11_lend_62 : decode cX11_lend 62 = .ok (.aload_n 3, 1) := dx_45 (dl_at 32 30 lb_X11_lend_1 rfl)
theorem dX11_lend_63 : decode cX11_lend 63 = .ok (.getfield 225, 3) := dx_180 (a := 0) (b := 225) (dl_at 32 31 lb_X11_lend_1 rfl) (dl_at 64 0 lb_X11_lend_2 rfl) (dl_at 64 1 lb_X11_lend_2 rfl) rfl
theorem dX11_lend_66 : decode cX11_lend 66 = .ok (.if_icmp .eq 95, 3) := dx_159 (a := 0) (b := 95) (dl_at 64 2 lb_X11_lend_2 rfl) (dl_at 64 3 lb_X11_lend_2 rfl) (dl_at 64 4 lb_X11_lend_2 rfl) sg16_95
theorem dX11_lend_161 : decode cX11_lend 161 = .ok (.iinc 6 1, 3) := dx_132 (dl_at 160 1 lb_X11_lend_5 rfl) (dl_at 160 2 lb_X11_lend_5 rfl) (dl_at 160 3 lb_X11_lend_5 rfl) sg8_1
theorem dX11_lend_164 : decode cX11_lend 164 = .ok (.goto (-116), 3) := dx_167 (a := 255) (b := 140) (dl_at 160 4 lb_X11_lend_5 rfl) (dl_at 160 5 lb_X11_lend_5 rfl) (dl_at 160 6 lb_X11_lend_5 rfl) sg16_65420
theorem dX11_lend_69 : decode cX11_lend 69 = .ok (.aload_n 0, 1) := dx_42 (dl_at 64 5 lb_X11_lend_2 rfl)
theorem dX11_lend_70 : decode cX11_lend 70 = .ok (.getfield 30, 3) := dx_180 (a := 0) (b := 30) (dl_at 64 6 lb_X11_lend_2 rfl) (dl_at 64 7 lb_X11_lend_2 rfl) (dl_at 64 8 lb_X11_lend_2 rfl) rfl
theorem dX11_lend_73 : decode cX11_lend 73 = .ok (.getfield 148, 3) := dx_180 (a := 0) (b := 148) (dl_at 64 9 lb_X11_lend_2 rfl) (dl_at 64 10 lb_X11_lend_2 rfl) (dl_at 64 11 lb_X11_lend_2 rfl) rfl
theorem dX11_lend_76 : decode cX11_lend 76 = .ok (.iload 6, 2) := dx_21 (dl_at 64 12 lb_X11_lend_2 rfl) (dl_at 64 13 lb_X11_lend_2 rfl)
theorem dX11_lend_78 : decode cX11_lend 78 = .ok (.iaload, 1) := dx_46 (dl_at 64 14 lb_X11_lend_2 rfl)
theorem dX11_lend_79 : decode cX11_lend 79 = .ok (.iconst 3, 1) := dx_6 (dl_at 64 15 lb_X11_lend_2 rfl)
theorem dX11_lend_80 : decode cX11_lend 80 = .ok (.if_icmp .ne 15, 3) := dx_160 (a := 0) (b := 15) (dl_at 64 16 lb_X11_lend_2 rfl) (dl_at 64 17 lb_X11_lend_2 rfl) (dl_at 64 18 lb_X11_lend_2 rfl) sg16_15
theorem dX11_lend_95 : decode cX11_lend 95 = .ok (.aload_n 0, 1) := dx_42 (dl_at 64 31 lb_X11_lend_2 rfl)
theorem dX11_lend_96 : decode cX11_lend 96 = .ok (.getfield 51, 3) := dx_180 (a := 0) (b := 51) (dl_at 96 0 lb_X11_lend_3 rfl) (dl_at 96 1 lb_X11_lend_3 rfl) (dl_at 96 2 lb_X11_lend_3 rfl) rfl
theorem dX11_lend_99 : decode cX11_lend 99 = .ok (.aload_n 0, 1) := dx_42 (dl_at 96 3 lb_X11_lend_3 rfl)
theorem dX11_lend_100 : decode cX11_lend 100 = .ok (.getfield 30, 3) := dx_180 (a := 0) (b := 30) (dl_at 96 4 lb_X11_lend_3 rfl) (dl_at 96 5 lb_X11_lend_3 rfl) (dl_at 96 6 lb_X11_lend_3 rfl) rfl
theorem dX11_lend_103 : decode cX11_lend 103 = .ok (.iload 6, 2) := dx_21 (dl_at 96 7 lb_X11_lend_3 rfl) (dl_at 96 8 lb_X11_lend_3 rfl)
theorem dX11_lend_105 : decode cX11_lend 105 = .ok (.bipush 99, 2) := dx_16 (dl_at 96 9 lb_X11_lend_3 rfl) (dl_at 96 10 lb_X11_lend_3 rfl) sg8_99
theorem dX11_lend_107 : decode cX11_lend 107 = .ok (.invokevirtual 292, 3) := dx_182 (a := 1) (b := 36) (dl_at 96 11 lb_X11_lend_3 rfl) (dl_at 96 12 lb_X11_lend_3 rfl) (dl_at 96 13 lb_X11_lend_3 rfl) rfl
theorem dX11_lend_110 : decode cX11_lend 110 = .ok (.aload_n 0, 1) := dx_42 (dl_at 96 14 lb_X11_lend_3 rfl)
theorem dX11_lend_111 : decode cX11_lend 111 = .ok (.getfield 51, 3) := dx_180 (a := 0) (b := 51) (dl_at 96 15 lb_X11_lend_3 rfl) (dl_at 96 16 lb_X11_lend_3 rfl) (dl_at 96 17 lb_X11_lend_3 rfl) rfl
theorem dX11_lend_114 : decode cX11_lend 114 = .ok (.getfield 248, 3) := dx_180 (a := 0) (b := 248) (dl_at 96 18 lb_X11_lend_3 rfl) (dl_at 96 19 lb_X11_lend_3 rfl) (dl_at 96 20 lb_X11_lend_3 rfl) rfl
theorem dX11_lend_117 : decode cX11_lend 117 = .ok (.getfield 252, 3) := dx_180 (a := 0) (b := 252) (dl_at 96 21 lb_X11_lend_3 rfl) (dl_at 96 22 lb_X11_lend_3 rfl) (dl_at 96 23 lb_X11_lend_3 rfl) rfl
theorem dX11_lend_120 : decode cX11_lend 120 = .ok (.ifCond .eq 41, 3) := dx_153 (a := 0) (b := 41) (dl_at 96 24 lb_X11_lend_3 rfl) (dl_at 96 25 lb_X11_lend_3 rfl) (dl_at 96 26 lb_X11_lend_3 rfl) sg16_41
theorem dX11_lend_123 : decode cX11_lend 123 = .ok (.iload 4, 2) := dx_21 (dl_at 96 27 lb_X11_lend_3 rfl) (dl_at 96 28 lb_X11_lend_3 rfl)
theorem dX11_lend_125 : decode cX11_lend 125 = .ok (.bipush (-9), 2) := dx_16 (dl_at 96 29 lb_X11_lend_3 rfl) (dl_at 96 30 lb_X11_lend_3 rfl) sg8_247
theorem dX11_lend_127 : decode cX11_lend 127 = .ok (.if_icmp .eq 18, 3) := dx_159 (a := 0) (b := 18) (dl_at 96 31 lb_X11_lend_3 rfl) (dl_at 128 0 lb_X11_lend_4 rfl) (dl_at 128 1 lb_X11_lend_4 rfl) sg16_18
theorem dX11_lend_145 : decode cX11_lend 145 = .ok (.iload 6, 2) := dx_21 (dl_at 128 17 lb_X11_lend_4 rfl) (dl_at 128 18 lb_X11_lend_4 rfl)
theorem dX11_lend_147 : decode cX11_lend 147 = .ok (.istore 4, 2) := dx_54 (dl_at 128 19 lb_X11_lend_4 rfl) (dl_at 128 20 lb_X11_lend_4 rfl)
theorem dX11_lend_149 : decode cX11_lend 149 = .ok (.aload_n 0, 1) := dx_42 (dl_at 128 21 lb_X11_lend_4 rfl)
theorem dX11_lend_150 : decode cX11_lend 150 = .ok (.getfield 51, 3) := dx_180 (a := 0) (b := 51) (dl_at 128 22 lb_X11_lend_4 rfl) (dl_at 128 23 lb_X11_lend_4 rfl) (dl_at 128 24 lb_X11_lend_4 rfl) rfl
theorem dX11_lend_153 : decode cX11_lend 153 = .ok (.getfield 248, 3) := dx_180 (a := 0) (b := 248) (dl_at 128 25 lb_X11_lend_4 rfl) (dl_at 128 26 lb_X11_lend_4 rfl) (dl_at 128 27 lb_X11_lend_4 rfl) rfl
theorem dX11_lend_156 : decode cX11_lend 156 = .ok (.getfield 264, 3) := dx_180 (a := 1) (b := 8) (dl_at 128 28 lb_X11_lend_4 rfl) (dl_at 128 29 lb_X11_lend_4 rfl) (dl_at 128 30 lb_X11_lend_4 rfl) rfl
theorem dX11_lend_159 : decode cX11_lend 159 = .ok (.istore 5, 2) := dx_54 (dl_at 128 31 lb_X11_lend_4 rfl) (dl_at 160 0 lb_X11_lend_5 rfl)
theorem dX11_lend_130 : decode cX11_lend 130 = .ok (.aload_n 0, 1) := dx_42 (dl_at 128 2 lb_X11_lend_4 rfl)
theorem dX11_lend_131 : decode cX11_lend 131 = .ok (.getfield 51, 3) := dx_180 (a := 0) (b := 51) (dl_at 128 3 lb_X11_lend_4 rfl) (dl_at 128 4 lb_X11_lend_4 rfl) (dl_at 128 5 lb_X11_lend_4 rfl) rfl
theorem dX11_lend_134 : decode cX11_lend 134 = .ok (.getfield 248, 3) := dx_180 (a := 0) (b := 248) (dl_at 128 6 lb_X11_lend_4 rfl) (dl_at 128 7 lb_X11_lend_4 rfl) (dl_at 128 8 lb_X11_lend_4 rfl) rfl
theorem dX11_lend_137 : decode cX11_lend 137 = .ok (.getfield 264, 3) := dx_180 (a := 1) (b := 8) (dl_at 128 9 lb_X11_lend_4 rfl) (dl_at 128 10 lb_X11_lend_4 rfl) (dl_at 128 11 lb_X11_lend_4 rfl) rfl
theorem dX11_lend_140 : decode cX11_lend 140 = .ok (.iload 5, 2) := dx_21 (dl_at 128 12 lb_X11_lend_4 rfl) (dl_at 128 13 lb_X11_lend_4 rfl)
theorem dX11_lend_142 : decode cX11_lend 142 = .ok (.if_icmp .ge 19, 3) := dx_162 (a := 0) (b := 19) (dl_at 128 14 lb_X11_lend_4 rfl) (dl_at 128 15 lb_X11_lend_4 rfl) (dl_at 128 16 lb_X11_lend_4 rfl) sg16_19
theorem dX11_lend_83 : decode cX11_lend 83 = .ok (.iload 6, 2) := dx_21 (dl_at 64 19 lb_X11_lend_2 rfl) (dl_at 64 20 lb_X11_lend_2 rfl)
theorem dX11_lend_85 : decode cX11_lend 85 = .ok (.aload_n 3, 1) := dx_45 (dl_at 64 21 lb_X11_lend_2 rfl)
theorem dX11_lend_86 : decode cX11_lend 86 = .ok (.getfield 289, 3) := dx_180 (a := 1) (b := 33) (dl_at 64 22 lb_X11_lend_2 rfl) (dl_at 64 23 lb_X11_lend_2 rfl) (dl_at 64 24 lb_X11_lend_2 rfl) rfl
theorem dX11_lend_89 : decode cX11_lend 89 = .ok (.if_icmp .eq 6, 3) := dx_159 (a := 0) (b := 6) (dl_at 64 25 lb_X11_lend_2 rfl) (dl_at 64 26 lb_X11_lend_2 rfl) (dl_at 64 27 lb_X11_lend_2 rfl) sg16_6
theorem dX11_lend_92 : decode cX11_lend 92 = .ok (.goto 69, 3) := dx_167 (a := 0) (b := 69) (dl_at 64 28 lb_X11_lend_2 rfl) (dl_at 64 29 lb_X11_lend_2 rfl) (dl_at 64 30 lb_X11_lend_2 rfl) sg16_69
theorem dX11_lend_11 : decode cX11_lend 11 = .ok (.iload_n 2, 1) := dx_28 (dl_at 0 11 lb_X11_lend_0 rfl)
theorem dX11_lend_12 : decode cX11_lend 12 = .ok (.ireturn, 1) := dx_172 (dl_at 0 12 lb_X11_lend_0 rfl)
theorem lb_X11_block_0 : dl_ck (cX11_block.data.toList.drop 0) [42, 27, 3, 182, 0, 241, 61, 28, 153, 0, 5, 28, 172, 42, 180, 0, 51, 42, 180, 0, 30, 42, 180, 0, 30, 180, 0, 166, 180, 0, 188, 27] = true := by decide +kernel
theorem lb_X11_block_1 : dl_ck (cX11_block.data.toList.drop 32) [50, 182, 1, 30, 4, 42, 180, 0, 30, 180, 0, 173, 120, 4, 100, 42, 180, 0, 30, 180, 0, 166, 180, 0, 176, 2, 130, 126, 62, 3, 54, 4] = true := by decide +kernel
theorem lb_X11_block_2 : dl_ck (cX11_block.data.toList.drop 64) [21, 4, 42, 180, 0, 30, 180, 0, 173, 163, 0, 34, 42, 29, 21, 4, 182, 1, 40, 54, 5, 21, 5, 16, 247, 159, 0, 12, 42, 21, 5, 181] = true := by decide +kernel
theorem lb_X11_block_3 : dl_ck (cX11_block.data.toList.drop 96) [0, 88, 21, 4, 172, 132, 4, 1, 167, 255, 216, 3, 172] = true := by decide +kernel
theorem dX11_block_0 : decode cX11_block 0 = .ok (.aload_n 0, 1) := dx_42 (dl_at 0 0 lb_X11_block_0 rfl)
theorem dX11_block_1 : decode cX11_block 1 = .ok (.iload_n 1, 1) := dx_27 (dl_at 0 1 lb_X11_block_0 rfl)
theorem dX11_block_2 : decode cX11_block 2 = .ok (.iconst 0, 1) := dx_3 (dl_at 0 2 lb_X11_block_0 rfl)
theorem dX11_block_3 : decode cX11_block 3 = .ok (.invokevirtual 241, 3) := dx_182 (a := 0) (b := 241) (dl_at 0 3 lb_X11_block_0 rfl) (dl_at 0 4 lb_X11_block_0 rfl) (dl_at 0 5 lb_X11_block_0 rfl) rfl
theorem dX11_block_6 : decode cX11_block 6 = .ok (.istore_n 2, 1) := dx_61 (dl_at 0 6 lb_X11_block_0 rfl)
theorem dX11_block_7 : decode cX11_block 7 = .ok (.iload_n 2, 1) := dx_28 (dl_at 0 7 lb_X11_block_0 rfl)
theorem dX11_block_8 : decode cX11_block 8 = .ok (.ifCond .eq 5, 3) := dx_153 (a := 0) (b := 5) (dl_at 0 8 lb_X11_block_0 rfl) (dl_at 0 9 lb_X11_block_0 rfl) (dl_at 0 10 lb_X11_block_0 rfl) sg16_5
theorem dX11_block_13 : decode cX11_block 13 = .ok (.aload_n 0, 1) := dx_42 (dl_at 0 13 lb_X11_block_0 rfl)
theorem dX11_block_14 : decode cX11_block 14 = .ok (.getfield 51, 3) := dx_180 (a := 0) (b := 51) (dl_at 0 14 lb_X11_block_0 rfl) (dl_at 0 15 lb_X11_block_0 rfl) (dl_at 0 16 lb_X11_block_0 rfl) rfl
theorem dX11_block_17 : decode cX11_block 17 = .ok (.aload_n 0, 1) := dx_42 (dl_at 0 17 lb_X11_block_0 rfl)
theorem dX11_block_18 : decode cX11_block 18 = .ok (.getfield 30, 3) := dx_180 (a := 0) (b := 30) (dl_at 0 18 lb_X11_block_0 rfl) (dl_at 0 19 lb_X11_block_0 rfl) (dl_at 0 20 lb_X11_block_0 rfl) rfl
theorem dX11_block_21 : decode cX11_block 21 = .ok (.aload_n 0, 1) := dx_42 (dl_at 0 21 lb_X11_block_0 rfl)
theorem dX11_block_22 : decode cX11_block 22 = .ok (.getfield 30, 3) := dx_180 (a := 0) (b := 30) (dl_at 0 22 lb_X11_block_0 rfl) (dl_at 0 23 lb_X11_block_0 rfl) (dl_at 0 24 lb_X11_block_0 rfl) rfl
theorem dX11_block_25 : decode cX11_block 25 = .ok (.getfield 166, 3) := dx_180 (a := 0) (b := 166) (dl_at 0 25 lb_X11_block_0 rfl) (dl_at 0 26 lb_X11_block_0 rfl) (dl_at 0 27 lb_X11_block_0 rfl) rfl
theorem dX11_block_28 : decode cX11_block 28 = .ok (.getfield 188, 3) := dx_180 (a := 0) (b := 188) (dl_at 0 28 lb_X11_block_0 rfl) (dl_at 0 29 lb_X11_block_0 rfl) (dl_at 0 30 lb_X11_block_0 rfl) rfl
theorem dX11_block_31 : decode cX11_block 31 = .ok (.iload_n 1, 1) := dx_27 (dl_at 0 31 lb_X11_block_0 rfl)
theorem dX11_block_32 : decode cX11_block 32 = .ok (.aaload, 1) := dx_50 (dl_at 32 0 lb_X11_block_1 rfl)
theorem dX11_block_33 : decode cX11_block 33 = .ok (.invokevirtual 286, 3) := dx_182 (a := 1) (b := 30) (dl_at 32 1 lb_X11_block_1 rfl) (dl_at 32 2 lb_X11_block_1 rfl) (dl_at 32 3 lb_X11_block_1 rfl) rfl
theorem dX11_block_36 : decode cX11_block 36 = .ok (.iconst 1, 1) := dx_4 (dl_at 32 4 lb_X11_block_1 rfl)
theorem dX11_block_37 : decode cX11_block 37 = .ok (.aload_n 0, 1) := dx_42 (dl_at 32 5 lb_X11_block_1 rfl)
theorem dX11_block_38 : decode cX11_block 38 = .ok (.getfield 30, 3) := dx_180 (a := 0) (b := 30) (dl_at 32 6 lb_X11_block_1 rfl) (dl_at 32 7 lb_X11_block_1 rfl) (dl_at 32 8 lb_X11_block_1 rfl) rfl
theorem dX11_block_41 : decode cX11_block 41 = .ok (.getfield 173, 3) := dx_180 (a := 0) (b := 173) (dl_at 32 9 lb_X11_block_1 rfl) (dl_at 32 10 lb_X11_block_1 rfl) (dl_at 32 11 lb_X11_block_1 rfl) rfl
theorem dX11_block_44 : decode cX11_block 44 = .ok (.ishl, 1) := dx_120 (dl_at 32 12 lb_X11_block_1 rfl)
theorem dX11_block_45 : decode cX11_block 45 = .ok (.iconst 1, 1) := dx_4 (dl_at 32 13 lb_X11_block_1 rfl)
theorem dX11_block_46 : decode cX11_block 46 = .ok (.isub, 1) := dx_100 (dl_at 32 14 lb_X11_block_1 rfl)
theorem dX11_block_47 : decode cX11_block 47 = .ok (.aload_n 0, 1) := dx_42 (dl_at 32 15 lb_X11_block_1 rfl)
theorem dX11_block_48 : decode cX11_block 48 = .ok (.getfield 30, 3) := dx_180 (a := 0) (b := 30) (dl_at 32 16 lb_X11_block_1 rfl) (dl_at 32 17 lb_X11_block_1 rfl) (dl_at 32 18 lb_X11_block_1 rfl) rfl
theorem dX11_block_51 : decode cX11_block 51 = .ok (.getfield 166, 3) := dx_180 (a := 0) (b := 166) (dl_at 32 19 lb_X11_block_1 rfl) (dl_at 32 20 lb_X11_block_1 rfl) (dl_at 32 21 lb_X11_block_1 rfl) rfl
theorem dX11_block_54 : decode cX11_block 54 = .ok (.getfield 176, 3) := dx_180 (a := 0) (b := 176) (dl_at 32 22 lb_X11_block_1 rfl) (dl_at 32 23 lb_X11_block_1 rfl) (dl_at 32 24 lb_X11_block_1 rfl) rfl
theorem dX11_block_57 : decode cX11_block 57 = .ok (.iconst (-1), 1) := dx_2 (dl_at 32 25 lb_X11_block_1 rfl)
theorem dX11_block_58 : decode cX11_block 58 = .ok (.ixor, 1) := dx_130 (dl_at 32 26 lb_X11_block_1 rfl)
theorem dX11_block_59 : decode cX11_block 59 = .ok (.iand, 1) := dx_126 (dl_at 32 27 lb_X11_block_1 rfl)
theorem dX11_block_60 : decode cX11_block 60 = .ok (.istore_n 3, 1) := dx_62 (dl_at 32 28 lb_X11_block_1 rfl)
theorem dX11_block_61 : decode cX11_block 61 = .ok (.iconst 0, 1) := dx_3 (dl_at 32 29 lb_X11_block_1 rfl)
theorem dX11_block_62 : decode cX11_block 62 = .ok (.istore 4, 2) := dx_54 (dl_at 32 30 lb_X11_block_1 rfl) (dl_at 32 31 lb_X11_block_1 rfl)
theorem dX11_block_64 : decode cX11_block 64 = .ok (.iload 4, 2) := dx_21 (dl_at 64 0 lb_X11_block_2 rfl) (dl_at 64 1 lb_X11_block_2 rfl)
theorem dX11_block_66 : decode cX11_block 66 = .ok (.aload_n 0, 1) := dx_42 (dl_at 64 2 lb_X11_block_2 rfl)
theorem dX11_block_67 : decode cX11_block 67 = .ok (.getfield 30, 3) := dx_180 (a := 0) (b := 30) (dl_at 64 3 lb_X11_block_2 rfl) (dl_at 64 4 lb_X11_block_2 rfl) (dl_at 64 5 lb_X11_block_2 rfl) rfl
theorem dX11_block_70 : decode cX11_block 70 = .ok (.getfield 173, 3) := dx_180 (a := 0) (b := 173) (dl_at 64 6 lb_X11_block_2 rfl) (dl_at 64 7 lb_X11_block_2 rfl) (dl_at 64 8 lb_X11_block_2 rfl) rfl
theorem dX11_block_73 : decode cX11_block 73 = .ok (.if_icmp .gt 34, 3) := dx_163 (a := 0) (b := 34) (dl_at 64 9 lb_X11_block_2 rfl) (dl_at 64 10 lb_X11_block_2 rfl) (dl_at 64 11 lb_X11_block_2 rfl) sg16_34
theorem dX11_block_107 : decode cX11_block 107 = .ok (.iconst 0, 1) := dx_3 (dl_at 96 11 lb_X11_block_3 rfl)
theorem dX11_block_108 : decode cX11_block 108 = .ok (.ireturn, 1) := dx_172 (dl_at 96 12 lb_X11_block_3 rfl)
theorem dX11_block_76 : decode cX11_block 76 = .ok (.aload_n 0, 1) := dx_42 (dl_at 64 12 lb_X11_block_2 rfl)
theorem dX11_block_77 : decode cX11_block 77 = .ok (.iload_n 3, 1) := dx_29 (dl_at 64 13 lb_X11_block_2 rfl)
theorem dX11_block_78 : decode cX11_block 78 = .ok (.iload 4, 2) := dx_21 (dl_at 64 14 lb_X11_block_2 rfl) (dl_at 64 15 lb_X11_block_2 rfl)
theorem dX11_block_80 : decode cX11_block 80 = .ok (.invokevirtual 296, 3) := dx_182 (a := 1) (b := 40) (dl_at 64 16 lb_X11_block_2 rfl) (dl_at 64 17 lb_X11_block_2 rfl) (dl_at 64 18 lb_X11_block_2 rfl) rfl
theorem dX11_block_83 : decode cX11_block 83 = .ok (.istore 5, 2) := dx_54 (dl_at 64 19 lb_X11_block_2 rfl) (dl_at 64 20 lb_X11_block_2 rfl)
theorem dX11_block_85 : decode cX11_block 85 = .ok (.iload 5, 2) := dx_21 (dl_at 64 21 lb_X11_block_2 rfl) (dl_at 64 22 lb_X11_block_2 rfl)
theorem dX11_block_87 : decode cX11_block 87 = .ok (.bipush (-9), 2) := dx_16 (dl_at 64 23 lb_X11_block_2 rfl) (dl_at 64 24 lb_X11_block_2 rfl) sg8_247
theorem dX11_block_89 : decode cX11_block 89 = .ok (.if_icmp .eq 12, 3) := dx_159 (a := 0) (b := 12) (dl_at 64 25 lb_X11_block_2 rfl) (dl_at 64 26 lb_X11_block_2 rfl) (dl_at 64 27 lb_X11_block_2 rfl) sg16_12
theorem dX11_block_101 : decode cX11_block 101 = .ok (.iinc 4 1, 3) := dx_132 (dl_at 96 5 lb_X11_block_3 rfl) (dl_at 96 6 lb_X11_block_3 rfl) (dl_at 96 7 lb_X11_block_3 rfl) sg8_1
theorem dX11_block_104 : decode cX11_block 104 = .ok (.goto (-40), 3) := dx_167 (a := 255) (b := 216) (dl_at 96 8 lb_X11_block_3 rfl) (dl_at 96 9 lb_X11_block_3 rfl) (dl_at 96 10 lb_X11_block_3 rfl) sg16_65496
theorem dX11_block_92 : decode cX11_block 92 = .ok (.aload_n 0, 1) := dx_42 (dl_at 64 28 lb_X11_block_2 rfl)
theorem dX11_block_93 : decode cX11_block 93 = .ok (.iload 5, 2) := dx_21 (dl_at 64 29 lb_X11_block_2 rfl) (dl_at 64 30 lb_X11_block_2 rfl)
theorem dX11_block_95 : decode cX11_block 95 = .ok (.putfield 88, 3) := dx_181 (a := 0) (b := 88) (dl_at 64 31 lb_X11_block_2 rfl) (dl_at 96 0 lb_X11_block_3 rfl) (dl_at 96 1 lb_X11_block_3 rfl) rfl
theorem dX11_block_98 : decode cX11_block 98 = .ok (.iload 4, 2) := dx_21 (dl_at 96 2 lb_X11_block_3 rfl) (dl_at 96 3 lb_X11_block_3 rfl)
theorem dX11_block_100 : decode cX11_block 100 = .ok (.ireturn, 1) := dx_172 (dl_at 96 4 lb_X11_block_3 rfl)
theorem dX11_block_11 : decode cX11_block 11 = .ok (.iload_n 2, 1) := dx_28 (dl_at 0 11 lb_X11_block_0 rfl)
theorem dX11_block_12 : decode cX11_block 12 = .ok (.ireturn, 1) := dx_172 (dl_at 0 12 lb_X11_block_0 rfl)
theorem lb_X11_post_0 : dl_ck (cX11_post.data.toList.drop 0) [27, 155, 0, 9, 27, 16, 99, 164, 0, 5, 2, 172, 3, 61, 3, 62, 3, 54, 4, 21, 4, 42, 180, 0, 30, 180, 0, 139, 162, 0, 91, 3] = true := by decide +kernel
theorem lb_X11_post_1 : dl_ck (cX11_post.data.toList.drop 32) [54, 5, 21, 5, 42, 180, 0, 30, 180, 0, 139, 162, 0, 70, 21, 4, 21, 5, 160, 0, 6, 167, 0, 54, 42, 180, 0, 51, 42, 180, 0, 30] = true := by decide +kernel
theorem lb_X11_post_2 : dl_ck (cX11_post.data.toList.drop 64) [21, 4, 21, 5, 182, 1, 58, 42, 180, 0, 51, 180, 0, 248, 180, 0, 252, 154, 0, 9, 132, 3, 1, 167, 0, 20, 27, 42, 180, 0, 51, 180] = true := by decide +kernel
theorem lb_X11_post_3 : dl_ck (cX11_post.data.toList.drop 96) [0, 248, 180, 1, 8, 162, 0, 6, 132, 2, 1, 132, 5, 1, 167, 255, 180, 132, 4, 1, 167, 255, 159, 42, 29, 181, 0, 88, 28, 29, 96, 172] = true := by decide +kernel
theorem dX11_post_0 : decode cX11_post 0 = .ok (.iload_n 1, 1) := dx_27 (dl_at 0 0 lb_X11_post_0 rfl)
theorem dX11_post_1 : decode cX11_post 1 = .ok (.ifCond .lt 9, 3) := dx_155 (a := 0) (b := 9) (dl_at 0 1 lb_X11_post_0 rfl) (dl_at 0 2 lb_X11_post_0 rfl) (dl_at 0 3 lb_X11_post_0 rfl) sg16_9
theorem dX11_post_10 : decode cX11_post 10 = .ok (.iconst (-1), 1) := dx_2 (dl_at 0 10 lb_X11_post_0 rfl)
theorem dX11_post_11 : decode cX11_post 11 = .ok (.ireturn, 1) := dx_172 (dl_at 0 11 lb_X11_post_0 rfl)
theorem dX11_post_4 : decode cX11_post 4 = .ok (.iload_n 1, 1) := dx_27 (dl_at 0 4 lb_X11_post_0 rfl)
theorem dX11_post_5 : decode cX11_post 5 = .ok (.bipush 99, 2) := dx_16 (dl_at 0 5 lb_X11_post_0 rfl) (dl_at 0 6 lb_X11_post_0 rfl) sg8_99
theorem dX11_post_7 : decode cX11_post 7 = .ok (.if_icmp .le 5, 3) := dx_164 (a := 0) (b := 5) (dl_at 0 7 lb_X11_post_0 rfl) (dl_at 0 8 lb_X11_post_0 rfl) (dl_at 0 9 lb_X11_post_0 rfl) sg16_5
theorem dX11_post_12 : decode cX11_post 12 = .ok (.iconst 0, 1) := dx_3 (dl_at 0 12 lb_X11_post_0 rfl)
theorem dX11_post_13 : decode cX11_post 13 = .ok (.istore_n 2, 1) := dx_61 (dl_at 0 13 lb_X11_post_0 rfl)
theorem dX11_post_14 : decode cX11_post 14 = .ok (.iconst 0, 1) := dx_3 (dl_at 0 14 lb_X11_post_0 rfl)
theorem dX11_post_15 : decode cX11_post 15 = .ok (.istore_n 3, 1) := dx_62 (dl_at 0 15 lb_X11_post_0 rfl)
theorem dX11_post_16 : decode cX11_post 16 = .ok (.iconst 0, 1) := dx_3 (dl_at 0 16 lb_X11_post_0 rfl)
theorem dX11_post_17 : decode cX11_post 17 = .ok (.istore 4, 2) := dx_54 (dl_at 0 17 lb_X11_post_0 rfl) (dl_at 0 18 lb_X11_post_0 rfl)
theorem dX11_post_19 : decode cX11_post 19 = .ok (.iload 4, 2) := dx_21 (dl_at 0 19 lb_X11_post_0 rfl) (dl_at 0 20 lb_X11_post_0 rfl)
theorem dX11_post_21 : decode cX11_post 21 = .ok (.aload_n 0, 1) := dx_42 (dl_at 0 21 lb_X11_post_0 rfl)
theorem dX11_post_22 : decode cX11_post 22 = .ok (.getfield 30, 3) := dx_180 (a := 0) (b := 30) (dl_at 0 22 lb_X11_post_0 rfl) (dl_at 0 23 lb_X11_post_0 rfl) (dl_at 0 24 lb_X11_post_0 rfl) rfl
theorem dX11_post_25 : decode cX11_post 25 = .ok (.getfield 139, 3) := dx_180 (a := 0) (b := 139) (dl_at 0 25 lb_X11_post_0 rfl) (dl_at 0 26 lb_X11_post_0 rfl) (dl_at 0 27 lb_X11_post_0 rfl) rfl
theorem dX11_post_28 : decode cX11_post 28 = .ok (.if_icmp .ge 91, 3) := dx_162 (a := 0) (b := 91) (dl_at 0 28 lb_X11_post_0 rfl) (dl_at 0 29 lb_X11_post_0 rfl) (dl_at 0 30 lb_X11_post_0 rfl) sg16_91
theorem dX11_post_119 : decode cX11_post 119 = .ok (.aload_n 0, 1) := dx_42 (dl_at 96 23 lb_X11_post_3 rfl)
theorem dX11_post_120 : decode cX11_post 120 = .ok (.iload_n 3, 1) := dx_29 (dl_at 96 24 lb_X11_post_3 rfl)
theorem dX11_post_121 : decode cX11_post 121 = .ok (.putfield 88, 3) := dx_181 (a := 0) (b := 88) (dl_at 96 25 lb_X11_post_3 rfl) (dl_at 96 26 lb_X11_post_3 rfl) (dl_at 96 27 lb_X11_post_3 rfl) rfl
theorem dX11_post_124 : decode cX11_post 124 = .ok (.iload_n 2, 1) := dx_28 (dl_at 96 28 lb_X11_post_3 rfl)
theorem dX11_post_125 : decode cX11_post 125 = .ok (.iload_n 3, 1) := dx_29 (dl_at 96 29 lb_X11_post_3 rfl)
theorem dX11_post_126 : decode cX11_post 126 = .ok (.iadd, 1) := dx_96 (dl_at 96 30 lb_X11_post_3 rfl)
theorem dX11_post_127 : decode cX11_post 127 = .ok (.ireturn, 1) := dx_172 (dl_at 96 31 lb_X11_post_3 rfl)
theorem dX11_post_31 : decode cX11_post 31 = .ok (.iconst 0, 1) := dx_3 (dl_at 0 31 lb_X11_post_0 rfl)
theorem dX11_post_32 : decode cX11_post 32 = .ok (.istore 5, 2) := dx_54 (dl_at 32 0 lb_X11_post_1 rfl) (dl_at 32 1 lb_X11_post_1 rfl)
theorem dX11_post_34 : decode cX11_post 34 = .ok (.iload 5, 2) := dx_21 (dl_at 32 2 lb_X11_post_1 rfl) (dl_at 32 3 lb_X11_post_1 rfl)
theorem dX11_post_36 : decode cX11_post 36 = .ok (.aload_n 0, 1) := dx_42 (dl_at 32 4 lb_X11_post_1 rfl)
theorem dX11_post_37 : decode cX11_post 37 = .ok (.getfield 30, 3) := dx_180 (a := 0) (b := 30) (dl_at 32 5 lb_X11_post_1 rfl) (dl_at 32 6 lb_X11_post_1 rfl) (dl_at 32 7 lb_X11_post_1 rfl) rfl
theorem dX11_post_40 : decode cX11_post 40 = .ok (.getfield 139, 3) := dx_180 (a := 0) (b := 139) (dl_at 32 8 lb_X11_post_1 rfl) (dl_at 32 9 lb_X11_post_1 rfl) (dl_at 32 10 lb_X11_post_1 rfl) rfl
theorem dX11_post_43 : decode cX11_post 43 = .ok (.if_icmp .ge 70, 3) := dx_162 (a := 0) (b := 70) (dl_at 32 11 lb_X11_post_1 rfl) (dl_at 32 12 lb_X11_post_1 rfl) (dl_at 32 13 lb_X11_post_1 rfl) sg16_70
theorem dX11_post_113 : decode cX11_post 113 = .ok (.iinc 4 1, 3) := dx_132 (dl_at 96 17 lb_X11_post_3 rfl) (dl_at 96 18 lb_X11_post_3 rfl) (dl_at 96 19 lb_X11_post_3 rfl) sg8_1
theorem dX11_post_116 : decode cX11_post 116 = .ok (.goto (-97), 3) := dx_167 (a := 255) (b := 159) (dl_at 96 20 lb_X11_post_3 rfl) (dl_at 96 21 lb_X11_post_3 rfl) (dl_at 96 22 lb_X11_post_3 rfl) sg16_65439
theorem dX11_post_46 : decode cX11_post 46 = .ok (.iload 4, 2) := dx_21 (dl_at 32 14 lb_X11_post_1 rfl) (dl_at 32 15 lb_X11_post_1 rfl)
theorem dX11_post_48 : decode cX11_post 48 = .ok (.iload 5, 2) := dx_21 (dl_at 32 16 lb_X11_post_1 rfl) (dl_at 32 17 lb_X11_post_1 rfl)
theorem dX11_post_50 : decode cX11_post 50 = .ok (.if_icmp .ne 6, 3) := dx_160 (a := 0) (b := 6) (dl_at 32 18 lb_X11_post_1 rfl) (dl_at 32 19 lb_X11_post_1 rfl) (dl_at 32 20 lb_X11_post_1 rfl) sg16_6
theorem dX11_post_56 : decode cX11_post 56 = .ok (.aload_n 0, 1) := dx_42 (dl_at 32 24 lb_X11_post_1 rfl)
theorem dX11_post_57 : decode cX11_post 57 = .ok (.getfield 51, 3) := dx_180 (a := 0) (b := 51) (dl_at 32 25 lb_X11_post_1 rfl) (dl_at 32 26 lb_X11_post_1 rfl) (dl_at 32 27 lb_X11_post_1 rfl) rfl
theorem dX11_post_60 : decode cX11_post 60 = .ok (.aload_n 0, 1) := dx_42 (dl_at 32 28 lb_X11_post_1 rfl)
theorem dX11_post_61 : decode cX11_post 61 = .ok (.getfield 30, 3) := dx_180 (a := 0) (b := 30) (dl_at 32 29 lb_X11_post_1 rfl) (dl_at 32 30 lb_X11_post_1 rfl) (dl_at 32 31 lb_X11_post_1 rfl) rfl
theorem dX11_post_64 : decode cX11_post 64 = .ok (.iload 4, 2) := dx_21 (dl_at 64 0 lb_X11_post_2 rfl) (dl_at 64 1 lb_X11_post_2 rfl)
theorem dX11_post_66 : decode cX11_post 66 = .ok (.iload 5, 2) := dx_21 (dl_at 64 2 lb_X11_post_2 rfl) (dl_at 64 3 lb_X11_post_2 rfl)
theorem dX11_post_68 : decode cX11_post 68 = .ok (.invokevirtual 314, 3) := dx_182 (a := 1) (b := 58) (dl_at 64 4 lb_X11_post_2 rfl) (dl_at 64 5 lb_X11_post_2 rfl) (dl_at 64 6 lb_X11_post_2 rfl) rfl
theorem dX11_post_71 : decode cX11_post 71 = .ok (.aload_n 0, 1) := dx_42 (dl_at 64 7 lb_X11_post_2 rfl)
theorem dX11_post_72 : decode cX11_post 72 = .ok (.getfield 51, 3) := dx_180 (a := 0) (b := 51) (dl_at 64 8 lb_X11_post_2 rfl) (dl_at 64 9 lb_X11_post_2 rfl) (dl_at 64 10 lb_X11_post_2 rfl) rfl
theorem dX11_post_75 : decode cX11_post 75 = .ok (.getfield 248, 3) := dx_180 (a := 0) (b := 248) (dl_at 64 11 lb_X11_post_2 rfl) (dl_at 64 12 lb_X11_post_2 rfl) (dl_at 64 13 lb_X11_post_2 rfl) rfl
theorem dX11_post_78 : decode cX11_post 78 = .ok (.getfield 252, 3) := dx_180 (a := 0) (b := 252) (dl_at 64 14 lb_X11_post_2 rfl) (dl_at 64 15 lb_X11_post_2 rfl) (dl_at 64 16 lb_X11_post_2 rfl) rfl
theorem dX11_post_81 : decode cX11_post 81 = .ok (.ifCond .ne 9, 3) := dx_154 (a := 0) (b := 9) (dl_at 64 17 lb_X11_post_2 rfl) (dl_at 64 18 lb_X11_post_2 rfl) (dl_at 64 19 lb_X11_post_2 rfl) sg16_9
theorem dX11_post_90 : decode cX11_post 90 = .ok (.iload_n 1, 1) := dx_27 (dl_at 64 26 lb_X11_post_2 rfl)
theorem dX11_post_91 : decode cX11_post 91 = .ok (.aload_n 0, 1) := dx_42 (dl_at 64 27 lb_X11_post_2 rfl)
theorem dX11_post_92 : decode cX11_post 92 = .ok (.getfield 51, 3) := dx_180 (a := 0) (b := 51) (dl_at 64 28 lb_X11_post_2 rfl) (dl_at 64 29 lb_X11_post_2 rfl) (dl_at 64 30 lb_X11_post_2 rfl) rfl
theorem dX11_post_95 : decode cX11_post 95 = .ok (.getfield 248, 3) := dx_180 (a := 0) (b := 248) (dl_at 64 31 lb_X11_post_2 rfl) (dl_at 96 0 lb_X11_post_3 rfl) (dl_at 96 1 lb_X11_post_3 rfl) rfl
theorem dX11_post_98 : decode cX11_post 98 = .ok (.getfield 264, 3) := dx_180 (a := 1) (b := 8) (dl_at 96 2 lb_X11_post_3 rfl) (dl_at 96 3 lb_X11_post_3 rfl) (dl_at 96 4 lb_X11_post_3 rfl) rfl
theorem dX11_post_101 : decode cX11_post 101 = .ok (.if_icmp .ge 6, 3) := dx_162 (a := 0) (b := 6) (dl_at 96 5 lb_X11_post_3 rfl) (dl_at 96 6 lb_X11_post_3 rfl) (dl_at 96 7 lb_X11_post_3 rfl) sg16_6
theorem dX11_post_107 : decode cX11_post 107 = .ok (.iinc 5 1, 3) := dx_132 (dl_at 96 11 lb_X11_post_3 rfl) (dl_at 96 12 lb_X11_post_3 rfl) (dl_at 96 13 lb_X11_post_3 rfl) sg8_1
theorem dX11_post_110 : decode cX11_post 110 = .ok (.goto (-76), 3) := dx_167 (a := 255) (b := 180) (dl_at 96 14 lb_X11_post_3 rfl) (dl_at 96 15 lb_X11_post_3 rfl) (dl_at 96 16 lb_X11_post_3 rfl) sg16_65460
theorem dX11_post_104 : decode cX11_post 104 = .ok (.iinc 2 1, 3) := dx_132 (dl_at 96 8 lb_X11_post_3 rfl) (dl_at 96 9 lb_X11_post_3 rfl) (dl_at 96 10 lb_X11_post_3 rfl) sg8_1
theorem dX11_post_84 : decode cX11_post 84 = .ok (.iinc 3 1, 3) := dx_132 (dl_at 64 20 lb_X11_post_2 rfl) (dl_at 64 21 lb_X11_post_2 rfl) (dl_at 64 22 lb_X11_post_2 rfl) sg8_1
theorem dX11_post_87 : decode cX11_post 87 = .ok (.goto 20, 3) := dx_167 (a := 0) (b := 20) (dl_at 64 23 lb_X11_post_2 rfl) (dl_at 64 24 lb_X11_post_2 rfl) (dl_at 64 25 lb_X11_post_2 rfl) sg16_20
theorem dX11_post_53 : decode cX11_post 53 = .ok (.goto 54, 3) := dx_167 (a := 0) (b := 54) (dl_at 32 21 lb_X11_post_1 rfl) (dl_at 32 22 lb_X11_post_1 rfl) (dl_at 32 23 lb_X11_post_1 rfl) sg16_54
theorem lb_X11_fake_0 : dl_ck (cX11_fake.data.toList.drop 0) [42, 27, 28, 182, 0, 182, 153, 0, 13, 29, 155, 0, 9, 29, 16, 99, 164, 0, 5, 2, 172, 42, 180, 0, 51, 42, 180, 0, 30, 27, 28, 182] = true := by decide +kernel
theorem lb_X11_fake_1 : dl_ck (cX11_fake.data.toList.drop 32) [1, 58, 42, 180, 0, 51, 180, 0, 248, 180, 0, 252, 153, 0, 30, 42, 180, 0, 51, 180, 0, 248, 180, 1, 8, 29, 163, 0, 16, 42, 180, 0] = true := by decide +kernel
theorem lb_X11_fake_2 : dl_ck (cX11_fake.data.toList.drop 64) [51, 180, 0, 248, 180, 1, 8, 167, 0, 4, 3, 172] = true := by decide +kernel
theorem dX11_fake_0 : decode cX11_fake 0 = .ok (.aload_n 0, 1) := dx_42 (dl_at 0 0 lb_X11_fake_0 rfl)
theorem dX11_fake_1 : decode cX11_fake 1 = .ok (.iload_n 1, 1) := dx_27 (dl_at 0 1 lb_X11_fake_0 rfl)
theorem dX11_fake_2 : decode cX11_fake 2 = .ok (.iload_n 2, 1) := dx_28 (dl_at 0 2 lb_X11_fake_0 rfl)
theorem dX11_fake_3 : decode cX11_fake 3 = .ok (.invokevirtual 182, 3) := dx_182 (a := 0) (b := 182) (dl_at 0 3 lb_X11_fake_0 rfl) (dl_at 0 4 lb_X11_fake_0 rfl) (dl_at 0 5 lb_X11_fake_0 rfl) rfl
theorem dX11_fake_6 : decode cX11_fake 6 = .ok (.ifCond .eq 13, 3) := dx_153 (a := 0) (b := 13) (dl_at 0 6 lb_X11_fake_0 rfl) (dl_at 0 7 lb_X11_fake_0 rfl) (dl_at 0 8 lb_X11_fake_0 rfl) sg16_13
theorem dX11_fake_9 : decode cX11_fake 9 = .ok (.iload_n 3, 1) := dx_29 (dl_at 0 9 lb_X11_fake_0 rfl)
theorem dX11_fake_10 : decode cX11_fake 10 = .ok (.ifCond .lt 9, 3) := dx_155 (a := 0) (b := 9) (dl_at 0 10 lb_X11_fake_0 rfl) (dl_at 0 11 lb_X11_fake_0 rfl) (dl_at 0 12 lb_X11_fake_0 rfl) sg16_9
theorem dX11_fake_19 : decode cX11_fake 19 = .ok (.iconst (-1), 1) := dx_2 (dl_at 0 19 lb_X11_fake_0 rfl)
theorem dX11_fake_20 : decode cX11_fake 20 = .ok (.ireturn, 1) := dx_172 (dl_at 0 20 lb_X11_fake_0 rfl)
theorem dX11_fake_13 : decode cX11_fake 13 = .ok (.iload_n 3, 1) := dx_29 (dl_at 0 13 lb_X11_fake_0 rfl)
theorem dX11_fake_14 : decode cX11_fake 14 = .ok (.bipush 99, 2) := dx_16 (dl_at 0 14 lb_X11_fake_0 rfl) (dl_at 0 15 lb_X11_fake_0 rfl) sg8_99
theorem dX11_fake_16 : decode cX11_fake 16 = .ok (.if_icmp .le 5, 3) := dx_164 (a := 0) (b := 5) (dl_at 0 16 lb_X11_fake_0 rfl) (dl_at 0 17 lb_X11_fake_0 rfl) (dl_at 0 18 lb_X11_fake_0 rfl) sg16_5
theorem dX11_fake_21 : decode cX11_fake 21 = .ok (.aload_n 0, 1) := dx_42 (dl_at 0 21 lb_X11_fake_0 rfl)
theorem dX11_fake_22 : decode cX11_fake 22 = .ok (.getfield 51, 3) := dx_180 (a := 0) (b := 51) (dl_at 0 22 lb_X11_fake_0 rfl) (dl_at 0 23 lb_X11_fake_0 rfl) (dl_at 0 24 lb_X11_fake_0 rfl) rfl
theorem dX11_fake_25 : decode cX11_fake 25 = .ok (.aload_n 0, 1) := dx_42 (dl_at 0 25 lb_X11_fake_0 rfl)
theorem dX11_fake_26 : decode cX11_fake 26 = .ok (.getfield 30, 3) := dx_180 (a := 0) (b := 30) (dl_at 0 26 lb_X11_fake_0 rfl) (dl_at 0 27 lb_X11_fake_0 rfl) (dl_at 0 28 lb_X11_fake_0 rfl) rfl
theorem dX11_fake_29 : decode cX11_fake 29 = .ok (.iload_n 1, 1) := dx_27 (dl_at 0 29 lb_X11_fake_0 rfl)
theorem dX11_fake_30 : decode cX11_fake 30 = .ok (.iload_n 2, 1) := dx_28 (dl_at 0 30 lb_X11_fake_0 rfl)
theorem dX11_fake_31 : decode cX11_fake 31 = .ok (.invokevirtual 314, 3) := dx_182 (a := 1) (b := 58) (dl_at 0 31 lb_X11_fake_0 rfl) (dl_at 32 0 lb_X11_fake_1 rfl) (dl_at 32 1 lb_X11_fake_1 rfl) rfl
theorem dX11_fake_34 : decode cX11_fake 34 = .ok (.aload_n 0, 1) := dx_42 (dl_at 32 2 lb_X11_fake_1 rfl)
theorem dX11_fake_35 : decode cX11_fake 35 = .ok (.getfield 51, 3) := dx_180 (a := 0) (b := 51) (dl_at 32 3 lb_X11_fake_1 rfl) (dl_at 32 4 lb_X11_fake_1 rfl) (dl_at 32 5 lb_X11_fake_1 rfl) rfl
theorem dX11_fake_38 : decode cX11_fake 38 = .ok (.getfield 248, 3) := dx_180 (a := 0) (b := 248) (dl_at 32 6 lb_X11_fake_1 rfl) (dl_at 32 7 lb_X11_fake_1 rfl) (dl_at 32 8 lb_X11_fake_1 rfl) rfl
theorem dX11_fake_41 : decode cX11_fake 41 = .ok (.getfield 252, 3) := dx_180 (a := 0) (b := 252) (dl_at 32 9 lb_X11_fake_1 rfl) (dl_at 32 10 lb_X11_fake_1 rfl) (dl_at 32 11 lb_X11_fake_1 rfl) rfl
theorem dX11_fake_44 : decode cX11_fake 44 = .ok (.ifCond .eq 30, 3) := dx_153 (a := 0) (b := 30) (dl_at 32 12 lb_X11_fake_1 rfl) (dl_at 32 13 lb_X11_fake_1 rfl) (dl_at 32 14 lb_X11_fake_1 rfl) sg16_30
theorem dX11_fake_74 : decode cX11_fake 74 = .ok (.iconst 0, 1) := dx_3 (dl_at 64 10 lb_X11_fake_2 rfl)
theorem dX11_fake_75 : decode cX11_fake 75 = .ok (.ireturn, 1) := dx_172 (dl_at 64 11 lb_X11_fake_2 rfl)
theorem dX11_fake_47 : decode cX11_fake 47 = .ok (.aload_n 0, 1) := dx_42 (dl_at 32 15 lb_X11_fake_1 rfl)
theorem dX11_fake_48 : decode cX11_fake 48 = .ok (.getfield 51, 3) := dx_180 (a := 0) (b := 51) (dl_at 32 16 lb_X11_fake_1 rfl) (dl_at 32 17 lb_X11_fake_1 rfl) (dl_at 32 18 lb_X11_fake_1 rfl) rfl
theorem dX11_fake_51 : decode cX11_fake 51 = .ok (.getfield 248, 3) := dx_180 (a := 0) (b := 248) (dl_at 32 19 lb_X11_fake_1 rfl) (dl_at 32 20 lb_X11_fake_1 rfl) (dl_at 32 21 lb_X11_fake_1 rfl) rfl
theorem dX11_fake_54 : decode cX11_fake 54 = .ok (.getfield 264, 3) := dx_180 (a := 1) (b := 8) (dl_at 32 22 lb_X11_fake_1 rfl) (dl_at 32 23 lb_X11_fake_1 rfl) (dl_at 32 24 lb_X11_fake_1 rfl) rfl
theorem dX11_fake_57 : decode cX11_fake 57 = .ok (.iload_n 3, 1) := dx_29 (dl_at 32 25 lb_X11_fake_1 rfl)
theorem dX11_fake_58 : decode cX11_fake 58 = .ok (.if_icmp .gt 16, 3) := dx_163 (a := 0) (b := 16) (dl_at 32 26 lb_X11_fake_1 rfl) (dl_at 32 27 lb_X11_fake_1 rfl) (dl_at 32 28 lb_X11_fake_1 rfl) sg16_16
theorem dX11_fake_61 : decode cX11_fake 61 = .ok (.aload_n 0, 1) := dx_42 (dl_at 32 29 lb_X11_fake_1 rfl)
theorem dX11_fake_62 : decode cX11_fake 62 = .ok (.getfield 51, 3) := dx_180 (a := 0) (b := 51) (dl_at 32 30 lb_X11_fake_1 rfl) (dl_at 32 31 lb_X11_fake_1 rfl) (dl_at 64 0 lb_X11_fake_2 rfl) rfl
theorem dX11_fake_65 : decode cX11_fake 65 = .ok (.getfield 248, 3) := dx_180 (a := 0) (b := 248) (dl_at 64 1 lb_X11_fake_2 rfl) (dl_at 64 2 lb_X11_fake_2 rfl) (dl_at 64 3 lb_X11_fake_2 rfl) rfl
theorem dX11_fake_68 : decode cX11_fake 68 = .ok (.getfield 264, 3) := dx_180 (a := 1) (b := 8) (dl_at 64 4 lb_X11_fake_2 rfl) (dl_at 64 5 lb_X11_fake_2 rfl) (dl_at 64 6 lb_X11_fake_2 rfl) rfl
theorem dX11_fake_71 : decode cX11_fake 71 = .ok (.goto 4, 3) := dx_167 (a := 0) (b := 4) (dl_at 64 7 lb_X11_fake_2 rfl) (dl_at 64 8 lb_X11_fake_2 rfl) (dl_at 64 9 lb_X11_fake_2 rfl) sg16_4
theorem lb_X11_had_0 : dl_ck (cX11_had.data.toList.drop 0) [42, 27, 28, 3, 182, 1, 64, 62, 29, 153, 0, 5, 29, 172, 42, 180, 0, 58, 42, 180, 0, 30, 27, 42, 180, 0, 11, 28, 50, 182, 1, 68] = true := by decide +kernel
theorem lb_X11_had_1 : dl_ck (cX11_had.data.toList.drop 32) [42, 42, 180, 0, 58, 180, 1, 72, 181, 0, 88, 42, 180, 0, 58, 180, 1, 75, 172] = true := by decide +kernel
theorem dX11_had_0 : decode cX11_had 0 = .ok (.aload_n 0, 1) := dx_42 (dl_at 0 0 lb_X11_had_0 rfl)
theorem dX11_had_1 : decode cX11_had 1 = .ok (.iload_n 1, 1) := dx_27 (dl_at 0 1 lb_X11_had_0 rfl)
theorem dX11_had_2 : decode cX11_had 2 = .ok (.iload_n 2, 1) := dx_28 (dl_at 0 2 lb_X11_had_0 rfl)
theorem dX11_had_3 : decode cX11_had 3 = .ok (.iconst 0, 1) := dx_3 (dl_at 0 3 lb_X11_had_0 rfl)
theorem dX11_had_4 : decode cX11_had 4 = .ok (.invokevirtual 320, 3) := dx_182 (a := 1) (b := 64) (dl_at 0 4 lb_X11_had_0 rfl) (dl_at 0 5 lb_X11_had_0 rfl) (dl_at 0 6 lb_X11_had_0 rfl) rfl
theorem dX11_had_7 : decode cX11_had 7 = .ok (.istore_n 3, 1) := dx_62 (dl_at 0 7 lb_X11_had_0 rfl)
theorem dX11_had_8 : decode cX11_had 8 = .ok (.iload_n 3, 1) := dx_29 (dl_at 0 8 lb_X11_had_0 rfl)
theorem dX11_had_9 : decode cX11_had 9 = .ok (.ifCond .eq 5, 3) := dx_153 (a := 0) (b := 5) (dl_at 0 9 lb_X11_had_0 rfl) (dl_at 0 10 lb_X11_had_0 rfl) (dl_at 0 11 lb_X11_had_0 rfl) sg16_5
theorem dX11_had_14 : decode cX11_had 14 = .ok (.aload_n 0, 1) := dx_42 (dl_at 0 14 lb_X11_had_0 rfl)
theorem dX11_had_15 : decode cX11_had 15 = .ok (.getfield 58, 3) := dx_180 (a := 0) (b := 58) (dl_at 0 15 lb_X11_had_0 rfl) (dl_at 0 16 lb_X11_had_0 rfl) (dl_at 0 17 lb_X11_had_0 rfl) rfl
theorem dX11_had_18 : decode cX11_had 18 = .ok (.aload_n 0, 1) := dx_42 (dl_at 0 18 lb_X11_had_0 rfl)
theorem dX11_had_19 : decode cX11_had 19 = .ok (.getfield 30, 3) := dx_180 (a := 0) (b := 30) (dl_at 0 19 lb_X11_had_0 rfl) (dl_at 0 20 lb_X11_had_0 rfl) (dl_at 0 21 lb_X11_had_0 rfl) rfl
theorem dX11_had_22 : decode cX11_had 22 = .ok (.iload_n 1, 1) := dx_27 (dl_at 0 22 lb_X11_had_0 rfl)
theorem dX11_had_23 : decode cX11_had 23 = .ok (.aload_n 0, 1) := dx_42 (dl_at 0 23 lb_X11_had_0 rfl)
theorem dX11_had_24 : decode cX11_had 24 = .ok (.getfield 11, 3) := dx_180 (a := 0) (b := 11) (dl_at 0 24 lb_X11_had_0 rfl) (dl_at 0 25 lb_X11_had_0 rfl) (dl_at 0 26 lb_X11_had_0 rfl) rfl
theorem dX11_had_27 : decode cX11_had 27 = .ok (.iload_n 2, 1) := dx_28 (dl_at 0 27 lb_X11_had_0 rfl)
theorem dX11_had_28 : decode cX11_had 28 = .ok (.aaload, 1) := dx_50 (dl_at 0 28 lb_X11_had_0 rfl)
theorem dX11_had_29 : decode cX11_had 29 = .ok (.invokevirtual 324, 3) := dx_182 (a := 1) (b := 68) (dl_at 0 29 lb_X11_had_0 rfl) (dl_at 0 30 lb_X11_had_0 rfl) (dl_at 0 31 lb_X11_had_0 rfl) rfl
theorem dX11_had_32 : decode cX11_had 32 = .ok (.aload_n 0, 1) := dx_42 (dl_at 32 0 lb_X11_had_1 rfl)
theorem dX11_had_33 : decode cX11_had 33 = .ok (.aload_n 0, 1) := dx_42 (dl_at 32 1 lb_X11_had_1 rfl)
theorem dX11_had_34 : decode cX11_had 34 = .ok (.getfield 58, 3) := dx_180 (a := 0) (b := 58) (dl_at 32 2 lb_X11_had_1 rfl) (dl_at 32 3 lb_X11_had_1 rfl) (dl_at 32 4 lb_X11_had_1 rfl) rfl
theorem dX11_had_37 : decode cX11_had 37 = .ok (.getfield 328, 3) := dx_180 (a := 1) (b := 72) (dl_at 32 5 lb_X11_had_1 rfl) (dl_at 32 6 lb_X11_had_1 rfl) (dl_at 32 7 lb_X11_had_1 rfl) rfl
theorem dX11_had_40 : decode cX11_had 40 = .ok (.putfield 88, 3) := dx_181 (a := 0) (b := 88) (dl_at 32 8 lb_X11_had_1 rfl) (dl_at 32 9 lb_X11_had_1 rfl) (dl_at 32 10 lb_X11_had_1 rfl) rfl
theorem dX11_had_43 : decode cX11_had 43 = .ok (.aload_n 0, 1) := dx_42 (dl_at 32 11 lb_X11_had_1 rfl)
theorem dX11_had_44 : decode cX11_had 44 = .ok (.getfield 58, 3) := dx_180 (a := 0) (b := 58) (dl_at 32 12 lb_X11_had_1 rfl) (dl_at 32 13 lb_X11_had_1 rfl) (dl_at 32 14 lb_X11_had_1 rfl) rfl
theorem dX11_had_47 : decode cX11_had 47 = .ok (.getfield 331, 3) := dx_180 (a := 1) (b := 75) (dl_at 32 15 lb_X11_had_1 rfl) (dl_at 32 16 lb_X11_had_1 rfl) (dl_at 32 17 lb_X11_had_1 rfl) rfl
theorem dX11_had_50 : decode cX11_had 50 = .ok (.ireturn, 1) := dx_172 (dl_at 32 18 lb_X11_had_1 rfl)
theorem dX11_had_12 : decode cX11_had 12 = .ok (.iload_n 3, 1) := dx_29 (dl_at 0 12 lb_X11_had_0 rfl)
theorem dX11_had_13 : decode cX11_had 13 = .ok (.ireturn, 1) := dx_172 (dl_at 0 13 lb_X11_had_0 rfl)
theorem lb_X11_sure_0 : dl_ck (cX11_sure.data.toList.drop 0) [42, 27, 28, 3, 182, 1, 64, 62, 29, 153, 0, 5, 29, 172, 42, 180, 0, 58, 42, 180, 0, 30, 27, 42, 180, 0, 11, 28, 50, 182, 1, 68] = true := by decide +kernel
theorem lb_X11_sure_1 : dl_ck (cX11_sure.data.toList.drop 32) [42, 180, 0, 58, 180, 1, 75, 154, 0, 7, 3, 167, 0, 10, 42, 180, 0, 58, 180, 1, 76, 172] = true := by decide +kernel
theorem dX11_sure_0 : decode cX11_sure 0 = .ok (.aload_n 0, 1) := dx_42 (dl_at 0 0 lb_X11_sure_0 rfl)
theorem dX11_sure_1 : decode cX11_sure 1 = .ok (.iload_n 1, 1) := dx_27 (dl_at 0 1 lb_X11_sure_0 rfl)
theorem dX11_sure_2 : decode cX11_sure 2 = .ok (.iload_n 2, 1) := dx_28 (dl_at 0 2 lb_X11_sure_0 rfl)
theorem dX11_sure_3 : decode cX11_sure 3 = .ok (.iconst 0, 1) := dx_3 (dl_at 0 3 lb_X11_sure_0 rfl)
theorem dX11_sure_4 : decode cX11_sure 4 = .ok (.invokevirtual 320, 3) := dx_182 (a := 1) (b := 64) (dl_at 0 4 lb_X11_sure_0 rfl) (dl_at 0 5 lb_X11_sure_0 rfl) (dl_at 0 6 lb_X11_sure_0 rfl) rfl
theorem dX11_sure_7 : decode cX11_sure 7 = .ok (.istore_n 3, 1) := dx_62 (dl_at 0 7 lb_X11_sure_0 rfl)
theorem dX11_sure_8 : decode cX11_sure 8 = .ok (.iload_n 3, 1) := dx_29 (dl_at 0 8 lb_X11_sure_0 rfl)
theorem dX11_sure_9 : decode cX11_sure 9 = .ok (.ifCond .eq 5, 3) := dx_153 (a := 0) (b := 5) (dl_at 0 9 lb_X11_sure_0 rfl) (dl_at 0 10 lb_X11_sure_0 rfl) (dl_at 0 11 lb_X11_sure_0 rfl) sg16_5
theorem dX11_sure_14 : decode cX11_sure 14 = .ok (.aload_n 0, 1) := dx_42 (dl_at 0 14 lb_X11_sure_0 rfl)
theorem dX11_sure_15 : decode cX11_sure 15 = .ok (.getfield 58, 3) := dx_180 (a := 0) (b := 58) (dl_at 0 15 lb_X11_sure_0 rfl) (dl_at 0 16 lb_X11_sure_0 rfl) (dl_at 0 17 lb_X11_sure_0 rfl) rfl
theorem dX11_sure_18 : decode cX11_sure 18 = .ok (.aload_n 0, 1) := dx_42 (dl_at 0 18 lb_X11_sure_0 rfl)
theorem dX11_sure_19 : decode cX11_sure 19 = .ok (.getfield 30, 3) := dx_180 (a := 0) (b := 30) (dl_at 0 19 lb_X11_sure_0 rfl) (dl_at 0 20 lb_X11_sure_0 rfl) (dl_at 0 21 lb_X11_sure_0 rfl) rfl
theorem dX11_sure_22 : decode cX11_sure 22 = .ok (.iload_n 1, 1) := dx_27 (dl_at 0 22 lb_X11_sure_0 rfl)
theorem dX11_sure_23 : decode cX11_sure 23 = .ok (.aload_n 0, 1) := dx_42 (dl_at 0 23 lb_X11_sure_0 rfl)
theorem dX11_sure_24 : decode cX11_sure 24 = .ok (.getfield 11, 3) := dx_180 (a := 0) (b := 11) (dl_at 0 24 lb_X11_sure_0 rfl) (dl_at 0 25 lb_X11_sure_0 rfl) (dl_at 0 26 lb_X11_sure_0 rfl) rfl
theorem dX11_sure_27 : decode cX11_sure 27 = .ok (.iload_n 2, 1) := dx_28 (dl_at 0 27 lb_X11_sure_0 rfl)
theorem dX11_sure_28 : decode cX11_sure 28 = .ok (.aaload, 1) := dx_50 (dl_at 0 28 lb_X11_sure_0 rfl)
theorem dX11_sure_29 : decode cX11_sure 29 = .ok (.invokevirtual 324, 3) := dx_182 (a := 1) (b := 68) (dl_at 0 29 lb_X11_sure_0 rfl) (dl_at 0 30 lb_X11_sure_0 rfl) (dl_at 0 31 lb_X11_sure_0 rfl) rfl
theorem dX11_sure_32 : decode cX11_sure 32 = .ok (.aload_n 0, 1) := dx_42 (dl_at 32 0 lb_X11_sure_1 rfl)
theorem dX11_sure_33 : decode cX11_sure 33 = .ok (.getfield 58, 3) := dx_180 (a := 0) (b := 58) (dl_at 32 1 lb_X11_sure_1 rfl) (dl_at 32 2 lb_X11_sure_1 rfl) (dl_at 32 3 lb_X11_sure_1 rfl) rfl
theorem dX11_sure_36 : decode cX11_sure 36 = .ok (.getfield 331, 3) := dx_180 (a := 1) (b := 75) (dl_at 32 4 lb_X11_sure_1 rfl) (dl_at 32 5 lb_X11_sure_1 rfl) (dl_at 32 6 lb_X11_sure_1 rfl) rfl
theorem dX11_sure_39 : decode cX11_sure 39 = .ok (.ifCond .ne 7, 3) := dx_154 (a := 0) (b := 7) (dl_at 32 7 lb_X11_sure_1 rfl) (dl_at 32 8 lb_X11_sure_1 rfl) (dl_at 32 9 lb_X11_sure_1 rfl) sg16_7
theorem dX11_sure_46 : decode cX11_sure 46 = .ok (.aload_n 0, 1) := dx_42 (dl_at 32 14 lb_X11_sure_1 rfl)
theorem dX11_sure_47 : decode cX11_sure 47 = .ok (.getfield 58, 3) := dx_180 (a := 0) (b := 58) (dl_at 32 15 lb_X11_sure_1 rfl) (dl_at 32 16 lb_X11_sure_1 rfl) (dl_at 32 17 lb_X11_sure_1 rfl) rfl
theorem dX11_sure_50 : decode cX11_sure 50 = .ok (.getfield 332, 3) := dx_180 (a := 1) (b := 76) (dl_at 32 18 lb_X11_sure_1 rfl) (dl_at 32 19 lb_X11_sure_1 rfl) (dl_at 32 20 lb_X11_sure_1 rfl) rfl
theorem dX11_sure_53 : decode cX11_sure 53 = .ok (.ireturn, 1) := dx_172 (dl_at 32 21 lb_X11_sure_1 rfl)
theorem dX11_sure_42 : decode cX11_sure 42 = .ok (.iconst 0, 1) := dx_3 (dl_at 32 10 lb_X11_sure_1 rfl)
theorem dX11_sure_43 : decode cX11_sure 43 = .ok (.goto 10, 3) := dx_167 (a := 0) (b := 10) (dl_at 32 11 lb_X11_sure_1 rfl) (dl_at 32 12 lb_X11_sure_1 rfl) (dl_at 32 13 lb_X11_sure_1 rfl) sg16_10
theorem dX11_sure_12 : decode cX11_sure 12 = .ok (.iload_n 3, 1) := dx_29 (dl_at 0 12 lb_X11_sure_0 rfl)
theorem dX11_sure_13 : decode cX11_sure 13 = .ok (.ireturn, 1) := dx_172 (dl_at 0 13 lb_X11_sure_0 rfl)
theorem lb_X11_first_0 : dl_ck (cX11_first.data.toList.drop 0) [42, 27, 28, 29, 184, 0, 69, 154, 0, 7, 4, 167, 0, 4, 3, 182, 1, 64, 54, 4, 21, 4, 153, 0, 6, 21, 4, 172, 42, 180, 0, 58] = true := by decide +kernel
theorem lb_X11_first_1 : dl_ck (cX11_first.data.toList.drop 32) [42, 180, 0, 30, 27, 42, 180, 0, 11, 28, 50, 182, 1, 68, 42, 180, 0, 58, 180, 1, 75, 154, 0, 6, 16, 247, 172, 42, 180, 0, 11, 28] = true := by decide +kernel
theorem lb_X11_first_2 : dl_ck (cX11_first.data.toList.drop 64) [50, 180, 0, 95, 4, 96, 54, 5, 42, 180, 0, 11, 29, 50, 42, 180, 0, 58, 180, 1, 79, 21, 5, 182, 1, 5, 21, 5, 172] = true := by decide +kernel
theorem dX11_first_0 : decode cX11_first 0 = .ok (.aload_n 0, 1) := dx_42 (dl_at 0 0 lb_X11_first_0 rfl)
theorem dX11_first_1 : decode cX11_first 1 = .ok (.iload_n 1, 1) := dx_27 (dl_at 0 1 lb_X11_first_0 rfl)
theorem dX11_first_2 : decode cX11_first 2 = .ok (.iload_n 2, 1) := dx_28 (dl_at 0 2 lb_X11_first_0 rfl)
theorem dX11_first_3 : decode cX11_first 3 = .ok (.iload_n 3, 1) := dx_29 (dl_at 0 3 lb_X11_first_0 rfl)
theorem dX11_first_4 : decode cX11_first 4 = .ok (.invokestatic 69, 3) := dx_184 (a := 0) (b := 69) (dl_at 0 4 lb_X11_first_0 rfl) (dl_at 0 5 lb_X11_first_0 rfl) (dl_at 0 6 lb_X11_first_0 rfl) rfl
theorem dX11_first_7 : decode cX11_first 7 = .ok (.ifCond .ne 7, 3) := dx_154 (a := 0) (b := 7) (dl_at 0 7 lb_X11_first_0 rfl) (dl_at 0 8 lb_X11_first_0 rfl) (dl_at 0 9 lb_X11_first_0 rfl) sg16_7
theorem dX11_first_14 : decode cX11_first 14 = .ok (.iconst 0, 1) := dx_3 (dl_at 0 14 lb_X11_first_0 rfl)
theorem dX11_first_15 : decode cX11_first 15 = .ok (.invokevirtual 320, 3) := dx_182 (a := 1) (b := 64) (dl_at 0 15 lb_X11_first_0 rfl) (dl_at 0 16 lb_X11_first_0 rfl) (dl_at 0 17 lb_X11_first_0 rfl) rfl
theorem dX11_first_18 : decode cX11_first 18 = .ok (.istore 4, 2) := dx_54 (dl_at 0 18 lb_X11_first_0 rfl) (dl_at 0 19 lb_X11_first_0 rfl)
theorem dX11_first_20 : decode cX11_first 20 = .ok (.iload 4, 2) := dx_21 (dl_at 0 20 lb_X11_first_0 rfl) (dl_at 0 21 lb_X11_first_0 rfl)
theorem dX11_first_22 : decode cX11_first 22 = .ok (.ifCond .eq 6, 3) := dx_153 (a := 0) (b := 6) (dl_at 0 22 lb_X11_first_0 rfl) (dl_at 0 23 lb_X11_first_0 rfl) (dl_at 0 24 lb_X11_first_0 rfl) sg16_6
theorem dX11_first_28 : decode cX11_first 28 = .ok (.aload_n 0, 1) := dx_42 (dl_at 0 28 lb_X11_first_0 rfl)
theorem dX11_first_29 : decode cX11_first 29 = .ok (.getfield 58, 3) := dx_180 (a := 0) (b := 58) (dl_at 0 29 lb_X11_first_0 rfl) (dl_at 0 30 lb_X11_first_0 rfl) (dl_at 0 31 lb_X11_first_0 rfl) rfl
theorem dX11_first_32 : decode cX11_first 32 = .ok (.aload_n 0, 1) := dx_42 (dl_at 32 0 lb_X11_first_1 rfl)
theorem dX11_first_33 : decode cX11_first 33 = .ok (.getfield 30, 3) := dx_180 (a := 0) (b := 30) (dl_at 32 1 lb_X11_first_1 rfl) (dl_at 32 2 lb_X11_first_1 rfl) (dl_at 32 3 lb_X11_first_1 rfl) rfl
theorem dX11_first_36 : decode cX11_first 36 = .ok (.iload_n 1, 1) := dx_27 (dl_at 32 4 lb_X11_first_1 rfl)
theorem dX11_first_37 : decode cX11_first 37 = .ok (.aload_n 0, 1) := dx_42 (dl_at 32 5 lb_X11_first_1 rfl)
theorem dX11_first_38 : decode cX11_first 38 = .ok (.getfield 11, 3) := dx_180 (a := 0) (b := 11) (dl_at 32 6 lb_X11_first_1 rfl) (dl_at 32 7 lb_X11_first_1 rfl) (dl_at 32 8 lb_X11_first_1 rfl) rfl
theorem dX11_first_41 : decode cX11_first 41 = .ok (.iload_n 2, 1) := dx_28 (dl_at 32 9 lb_X11_first_1 rfl)
theorem dX11_first_42 : decode cX11_first 42 = .ok (.aaload, 1) := dx_50 (dl_at 32 10 lb_X11_first_1 rfl)
theorem dX11_first_43 : decode cX11_first 43 = .ok (.invokevirtual 324, 3) := dx_182 (a := 1) (b := 68) (dl_at 32 11 lb_X11_first_1 rfl) (dl_at 32 12 lb_X11_first_1 rfl) (dl_at 32 13 lb_X11_first_1 rfl) rfl
theorem dX11_first_46 : decode cX11_first 46 = .ok (.aload_n 0, 1) := dx_42 (dl_at 32 14 lb_X11_first_1 rfl)
theorem dX11_first_47 : decode cX11_first 47 = .ok (.getfield 58, 3) := dx_180 (a := 0) (b := 58) (dl_at 32 15 lb_X11_first_1 rfl) (dl_at 32 16 lb_X11_first_1 rfl) (dl_at 32 17 lb_X11_first_1 rfl) rfl
theorem dX11_first_50 : decode cX11_first 50 = .ok (.getfield 331, 3) := dx_180 (a := 1) (b := 75) (dl_at 32 18 lb_X11_first_1 rfl) (dl_at 32 19 lb_X11_first_1 rfl) (dl_at 32 20 lb_X11_first_1 rfl) rfl
theorem dX11_first_53 : decode cX11_first 53 = .ok (.ifCond .ne 6, 3) := dx_154 (a := 0) (b := 6) (dl_at 32 21 lb_X11_first_1 rfl) (dl_at 32 22 lb_X11_first_1 rfl) (dl_at 32 23 lb_X11_first_1 rfl) sg16_6
theorem dX11_first_59 : decode cX11_first 59 = .ok (.aload_n 0, 1) := dx_42 (dl_at 32 27 lb_X11_first_1 rfl)
theorem dX11_first_60 : decode cX11_first 60 = .ok (.getfield 11, 3) := dx_180 (a := 0) (b := 11) (dl_at 32 28 lb_X11_first_1 rfl) (dl_at 32 29 lb_X11_first_1 rfl) (dl_at 32 30 lb_X11_first_1 rfl) rfl
theorem dX11_first_63 : decode cX11_first 63 = .ok (.iload_n 2, 1) := dx_28 (dl_at 32 31 lb_X11_first_1 rfl)
theorem dX11_first_64 : decode cX11_first 64 = .ok (.aaload, 1) := dx_50 (dl_at 64 0 lb_X11_first_2 rfl)
theorem dX11_first_65 : decode cX11_first 65 = .ok (.getfield 95, 3) := dx_180 (a := 0) (b := 95) (dl_at 64 1 lb_X11_first_2 rfl) (dl_at 64 2 lb_X11_first_2 rfl) (dl_at 64 3 lb_X11_first_2 rfl) rfl
theorem dX11_first_68 : decode cX11_first 68 = .ok (.iconst 1, 1) := dx_4 (dl_at 64 4 lb_X11_first_2 rfl)
theorem dX11_first_69 : decode cX11_first 69 = .ok (.iadd, 1) := dx_96 (dl_at 64 5 lb_X11_first_2 rfl)
theorem dX11_first_70 : decode cX11_first 70 = .ok (.istore 5, 2) := dx_54 (dl_at 64 6 lb_X11_first_2 rfl) (dl_at 64 7 lb_X11_first_2 rfl)
theorem dX11_first_72 : decode cX11_first 72 = .ok (.aload_n 0, 1) := dx_42 (dl_at 64 8 lb_X11_first_2 rfl)
theorem dX11_first_73 : decode cX11_first 73 = .ok (.getfield 11, 3) := dx_180 (a := 0) (b := 11) (dl_at 64 9 lb_X11_first_2 rfl) (dl_at 64 10 lb_X11_first_2 rfl) (dl_at 64 11 lb_X11_first_2 rfl) rfl
theorem dX11_first_76 : decode cX11_first 76 = .ok (.iload_n 3, 1) := dx_29 (dl_at 64 12 lb_X11_first_2 rfl)
theorem dX11_first_77 : decode cX11_first 77 = .ok (.aaload, 1) := dx_50 (dl_at 64 13 lb_X11_first_2 rfl)
theorem dX11_first_78 : decode cX11_first 78 = .ok (.aload_n 0, 1) := dx_42 (dl_at 64 14 lb_X11_first_2 rfl)
theorem dX11_first_79 : decode cX11_first 79 = .ok (.getfield 58, 3) := dx_180 (a := 0) (b := 58) (dl_at 64 15 lb_X11_first_2 rfl) (dl_at 64 16 lb_X11_first_2 rfl) (dl_at 64 17 lb_X11_first_2 rfl) rfl
theorem dX11_first_82 : decode cX11_first 82 = .ok (.getfield 335, 3) := dx_180 (a := 1) (b := 79) (dl_at 64 18 lb_X11_first_2 rfl) (dl_at 64 19 lb_X11_first_2 rfl) (dl_at 64 20 lb_X11_first_2 rfl) rfl
theorem dX11_first_85 : decode cX11_first 85 = .ok (.iload 5, 2) := dx_21 (dl_at 64 21 lb_X11_first_2 rfl) (dl_at 64 22 lb_X11_first_2 rfl)
theorem dX11_first_87 : decode cX11_first 87 = .ok (.invokevirtual 261, 3) := dx_182 (a := 1) (b := 5) (dl_at 64 23 lb_X11_first_2 rfl) (dl_at 64 24 lb_X11_first_2 rfl) (dl_at 64 25 lb_X11_first_2 rfl) rfl
theorem dX11_first_90 : decode cX11_first 90 = .ok (.iload 5, 2) := dx_21 (dl_at 64 26 lb_X11_first_2 rfl) (dl_at 64 27 lb_X11_first_2 rfl)
theorem dX11_first_92 : decode cX11_first 92 = .ok (.ireturn, 1) := dx_172 (dl_at 64 28 lb_X11_first_2 rfl)
theorem dX11_first_56 : decode cX11_first 56 = .ok (.bipush (-9), 2) := dx_16 (dl_at 32 24 lb_X11_first_1 rfl) (dl_at 32 25 lb_X11_first_1 rfl) sg8_247
theorem dX11_first_58 : decode cX11_first 58 = .ok (.ireturn, 1) := dx_172 (dl_at 32 26 lb_X11_first_1 rfl)
theorem dX11_first_25 : decode cX11_first 25 = .ok (.iload 4, 2) := dx_21 (dl_at 0 25 lb_X11_first_0 rfl) (dl_at 0 26 lb_X11_first_0 rfl)
theorem dX11_first_27 : decode cX11_first 27 = .ok (.ireturn, 1) := dx_172 (dl_at 0 27 lb_X11_first_0 rfl)
theorem dX11_first_10 : decode cX11_first 10 = .ok (.iconst 1, 1) := dx_4 (dl_at 0 10 lb_X11_first_0 rfl)
theorem dX11_first_11 : decode cX11_first 11 = .ok (.goto 4, 3) := dx_167 (a := 0) (b := 4) (dl_at 0 11 lb_X11_first_0 rfl) (dl_at 0 12 lb_X11_first_0 rfl) (dl_at 0 13 lb_X11_first_0 rfl) sg16_4
def F_qx_cheapest (mu : Nat → Nat → Int32) (vk : Int32) (vr : Int32) : Int32 × (Nat → Nat → Int32) :=
  if F_sx_isRow (vr : Int32) = 1 then (
    LETP (F_sx_refusedRoute mu (vk : Int32) (0 : Int32)) fun r2 xi2 =>
    if r2 = 0 then (
      LETV (F_sx_walkOf mu (61 + vk.toNatClampNeg) : Nat → Nat → Int32) fun xi5 =>
      LETV (xi5 55 3 : Int32) fun y7 =>
      if y7 = (0 : Int32) then (
        (((-9) : Int32), xi5)
      ) else (
        LETV (xi5 55 1 : Int32) fun y10 =>
        LETV (y10 + 1 : Int32) fun t11 =>
        LETV (F_sx_Row_beLike57 xi5 (8 + vr.toNatClampNeg) (t11 : Int32) : Nat → Nat → Int32) fun xi12 =>
        LETV (xi12 55 2 : Int32) fun y14 =>
        ((y14 : Int32), xi12)
      )
    ) else (
      ((r2 : Int32), xi2)
    )
  ) else (
    LETP (F_sx_refusedRoute mu (vk : Int32) (1 : Int32)) fun r16 xi16 =>
    if r16 = 0 then (
      (0, mu)
    ) else (
      ((r16 : Int32), xi16)
    )
  )
def F_qx_soonest (mu : Nat → Nat → Int32) (vk : Int32) (vr : Int32) : Int32 × (Nat → Nat → Int32) :=
  if F_sx_isRow (vr : Int32) = 1 then (
    LETP (F_sx_refusedRoute mu (vk : Int32) (0 : Int32)) fun r2 xi2 =>
    if r2 = 0 then (
      LETV (F_sx_walkOf mu (61 + vk.toNatClampNeg) : Nat → Nat → Int32) fun xi5 =>
      LETV (xi5 56 3 : Int32) fun y7 =>
      if y7 = (0 : Int32) then (
        (((-9) : Int32), xi5)
      ) else (
        LETV (xi5 56 1 : Int32) fun y10 =>
        LETV (y10 + 1 : Int32) fun t11 =>
        LETV (F_sx_Row_beLike58 xi5 (8 + vr.toNatClampNeg) (t11 : Int32) : Nat → Nat → Int32) fun xi12 =>
        LETV (xi12 56 2 : Int32) fun y14 =>
        LETV (va_up xi12 0 (upd (xi12 0) 10 y14) : Nat → Nat → Int32) fun nu15 =>
        LETV (nu15 56 1 : Int32) fun y19 =>
        ((y19 : Int32), nu15)
      )
    ) else (
      ((r2 : Int32), xi2)
    )
  ) else (
    LETP (F_sx_refusedRoute mu (vk : Int32) (1 : Int32)) fun r21 xi21 =>
    if r21 = 0 then (
      (0, mu)
    ) else (
      ((r21 : Int32), xi21)
    )
  )
def F_qx_comes (mu : Nat → Nat → Int32) (vk : Int32) : Int32 × (Nat → Nat → Int32) :=
  LETP (F_sx_refusedRoute mu (vk : Int32) (0 : Int32)) fun r1 xi1 =>
  if r1 = 0 then (
    LETV (F_sx_walkOf mu (61 + vk.toNatClampNeg) : Nat → Nat → Int32) fun xi4 =>
    LETV (xi4 32 11 : Int32) fun y6 =>
    LETV (va_up xi4 0 (upd (xi4 0) 10 y6) : Nat → Nat → Int32) fun nu7 =>
    LETV (nu7 32 12 : Int32) fun y11 =>
    ((y11 : Int32), nu7)
  ) else (
    ((r1 : Int32), xi1)
  )
def F_qx_bars (mu : Nat → Nat → Int32) (vk : Int32) : Int32 × (Nat → Nat → Int32) :=
  LETP (F_sx_refusedRoute mu (vk : Int32) (0 : Int32)) fun r1 xi1 =>
  if r1 = 0 then (
    LETV (F_sx_walkOf mu (61 + vk.toNatClampNeg) : Nat → Nat → Int32) fun xi4 =>
    LETV (xi4 32 12 : Int32) fun y6 =>
    if y6 = (0 : Int32) then (
      ((0 : Int32), xi4)
    ) else (
      LETV (xi4 32 13 : Int32) fun y8 =>
      ((y8 : Int32), xi4)
    )
  ) else (
    ((r1 : Int32), xi1)
  )
def F_qx_why (mu : Nat → Nat → Int32) (vk : Int32) : Int32 × (Nat → Nat → Int32) :=
  LETP (F_sx_refusedRoute mu (vk : Int32) (0 : Int32)) fun r1 xi1 =>
  if r1 = 0 then (
    LETV (F_sx_walkOf mu (61 + vk.toNatClampNeg) : Nat → Nat → Int32) fun xi4 =>
    LETV (xi4 32 12 : Int32) fun y6 =>
    if y6 ≤ (0 : Int32) then (
      LETV (xi4 32 11 : Int32) fun y8 =>
      if y8 ≤ (0 : Int32) then (
        LETV (F_sx_isLinked xi4 : Int32) fun r10 =>
        if r10 = (0 : Int32) then (
          ((1 : Int32), xi4)
        ) else (
          ((2 : Int32), xi4)
        )
      ) else (
        ((3 : Int32), xi4)
      )
    ) else (
      ((0 : Int32), xi4)
    )
  ) else (
    ((r1 : Int32), xi1)
  )
def F_qx_needs (mu : Nat → Nat → Int32) (vk : Int32) : Int32 × (Nat → Nat → Int32) :=
  LETP (F_sx_refusedRoute mu (vk : Int32) (0 : Int32)) fun r1 xi1 =>
  if r1 = 0 then (
    LETV (F_sx_walkOf mu (61 + vk.toNatClampNeg) : Nat → Nat → Int32) fun xi4 =>
    LETV (xi4 32 11 : Int32) fun y6 =>
    if y6 = (0 : Int32) then (
      (((-9) : Int32), xi4)
    ) else (
      LETV (xi4 32 14 : Int32) fun y8 =>
      if y8 ≤ (999 : Int32) then (
        ((y8 : Int32), xi4)
      ) else (
        (((-9) : Int32), xi4)
      )
    )
  ) else (
    ((r1 : Int32), xi1)
  )
def L_qx_lend_48_0 (vk : Int32) : Nat → (Int32) → (Int32) → (Int32) → (Nat → Nat → Int32) → Int32 × (Nat → Nat → Int32)
  | 0, v4_48, v5_48, v6_48, nu48_ => (0, nu48_)
  | n + 1, v4_48, v5_48, v6_48, nu48_ =>
    LETV (nu48_ 4 6 : Int32) fun y6 =>
    if v6_48 ≥ y6 then (
      if v4_48 = ((-9) : Int32) then (
        ((v4_48 : Int32), nu48_)
      ) else (
        LETV (va_up nu48_ 0 (upd (nu48_ 0) 10 v5_48) : Nat → Nat → Int32) fun nu9 =>
        ((v4_48 : Int32), nu9)
      )
    ) else (
      LETV (nu48_ (61 + vk.toNatClampNeg) 5 : Int32) fun y13 =>
      if v6_48 = y13 then (
        LETV ((v6_48 + 1) : Int32) fun w15 =>
        L_qx_lend_48_0 vk n (v4_48 : Int32) (v5_48 : Int32) (w15 : Int32) nu48_
      ) else (
        LETV (nu48_ 34 v6_48.toNatClampNeg : Int32) fun y16 =>
        if y16 = (3 : Int32) then (
          LETV (nu48_ (61 + vk.toNatClampNeg) 1 : Int32) fun y30 =>
          if v6_48 = y30 then (
            LETV (F_sx_walkWithLoan nu48_ (v6_48 : Int32) (99 : Int32) : Nat → Nat → Int32) fun xi32 =>
            LETV (xi32 55 3 : Int32) fun y34 =>
            if y34 = (0 : Int32) then (
              LETV ((v6_48 + 1) : Int32) fun w36 =>
              L_qx_lend_48_0 vk n (v4_48 : Int32) (v5_48 : Int32) (w36 : Int32) xi32
            ) else (
              if v4_48 = ((-9) : Int32) then (
                LETV (xi32 55 2 : Int32) fun y38 =>
                LETV ((v6_48 + 1) : Int32) fun w39 =>
                L_qx_lend_48_0 vk n (v6_48 : Int32) (y38 : Int32) (w39 : Int32) xi32
              ) else (
                LETV (xi32 55 2 : Int32) fun y40 =>
                if y40 ≥ v5_48 then (
                  LETV ((v6_48 + 1) : Int32) fun w42 =>
                  L_qx_lend_48_0 vk n (v4_48 : Int32) (v5_48 : Int32) (w42 : Int32) xi32
                ) else (
                  LETV ((v6_48 + 1) : Int32) fun w43 =>
                  L_qx_lend_48_0 vk n (v6_48 : Int32) (y40 : Int32) (w43 : Int32) xi32
                )
              )
            )
          ) else (
            LETV ((v6_48 + 1) : Int32) fun w44 =>
            L_qx_lend_48_0 vk n (v4_48 : Int32) (v5_48 : Int32) (w44 : Int32) nu48_
          )
        ) else (
          LETV (F_sx_walkWithLoan nu48_ (v6_48 : Int32) (99 : Int32) : Nat → Nat → Int32) fun xi18 =>
          LETV (xi18 55 3 : Int32) fun y20 =>
          if y20 = (0 : Int32) then (
            LETV ((v6_48 + 1) : Int32) fun w22 =>
            L_qx_lend_48_0 vk n (v4_48 : Int32) (v5_48 : Int32) (w22 : Int32) xi18
          ) else (
            if v4_48 = ((-9) : Int32) then (
              LETV (xi18 55 2 : Int32) fun y24 =>
              LETV ((v6_48 + 1) : Int32) fun w25 =>
              L_qx_lend_48_0 vk n (v6_48 : Int32) (y24 : Int32) (w25 : Int32) xi18
            ) else (
              LETV (xi18 55 2 : Int32) fun y26 =>
              if y26 ≥ v5_48 then (
                LETV ((v6_48 + 1) : Int32) fun w28 =>
                L_qx_lend_48_0 vk n (v4_48 : Int32) (v5_48 : Int32) (w28 : Int32) xi18
              ) else (
                LETV ((v6_48 + 1) : Int32) fun w29 =>
                L_qx_lend_48_0 vk n (v6_48 : Int32) (y26 : Int32) (w29 : Int32) xi18
              )
            )
          )
        )
      )
    )
def F_qx_lend (mu : Nat → Nat → Int32) (vk : Int32) : Int32 × (Nat → Nat → Int32) :=
  LETP (F_sx_refusedRoute mu (vk : Int32) (0 : Int32)) fun r1 xi1 =>
  if r1 = 0 then (
    LETV (F_sx_lookAt mu (61 + vk.toNatClampNeg) : Nat → Nat → Int32) fun xi4 =>
    L_qx_lend_48_0 vk 10 ((-9) : Int32) (0 : Int32) (0 : Int32) xi4
  ) else (
    ((r1 : Int32), xi1)
  )
def L_qx_block_64_0 (t11 : Int32) : Nat → (Int32) → (Nat → Nat → Int32) → Int32 × (Nat → Nat → Int32)
  | 0, v4_64, nu64_ => (0, nu64_)
  | n + 1, v4_64, nu64_ =>
    LETV (nu64_ 4 7 : Int32) fun y12 =>
    if v4_64 > y12 then (
      ((0 : Int32), nu64_)
    ) else (
      LETP (F_sx_leastBlock nu64_ (t11 : Int32) (v4_64 : Int32)) fun r14 xi14 =>
      if r14 = ((-9) : Int32) then (
        LETV ((v4_64 + 1) : Int32) fun w17 =>
        L_qx_block_64_0 t11 n (w17 : Int32) xi14
      ) else (
        LETV (va_up xi14 0 (upd (xi14 0) 10 r14) : Nat → Nat → Int32) fun nu18 =>
        ((v4_64 : Int32), nu18)
      )
    )
def F_qx_block (mu : Nat → Nat → Int32) (vk : Int32) : Int32 × (Nat → Nat → Int32) :=
  LETP (F_sx_refusedRoute mu (vk : Int32) (0 : Int32)) fun r1 xi1 =>
  if r1 = 0 then (
    LETV (F_sx_lookAt mu (61 + vk.toNatClampNeg) : Nat → Nat → Int32) fun xi4 =>
    LETV (xi4 4 7 : Int32) fun y6 =>
    LETV (1 <<< (y6 &&& 31) : Int32) fun t7 =>
    LETV (t7 - 1 : Int32) fun t8 =>
    LETV (xi4 5 2 : Int32) fun y9 =>
    LETV (y9 ^^^ (-1) : Int32) fun t10 =>
    LETV (t8 &&& t10 : Int32) fun t11 =>
    L_qx_block_64_0 t11 16 (0 : Int32) xi4
  ) else (
    ((r1 : Int32), xi1)
  )
def L_qx_post_34_1 (v4_19 : Int32) (vv : Int32) (k_qx_post_19_0 : (Int32) → (Int32) → (Int32) → (Nat → Nat → Int32) → (Int32 × (Nat → Nat → Int32))) : Nat → (Int32) → (Int32) → (Int32) → (Nat → Nat → Int32) → Int32 × (Nat → Nat → Int32)
  | 0, v2_34, v3_34, v5_34, nu34_ => (0, nu34_)
  | n + 1, v2_34, v3_34, v5_34, nu34_ =>
    LETV (nu34_ 4 6 : Int32) fun y10 =>
    if v5_34 ≥ y10 then (
      LETV ((v4_19 + 1) : Int32) fun w12 =>
      k_qx_post_19_0 (v2_34 : Int32) (v3_34 : Int32) (w12 : Int32) nu34_
    ) else (
      if v4_19 = v5_34 then (
        LETV ((v5_34 + 1) : Int32) fun w25 =>
        L_qx_post_34_1 v4_19 vv k_qx_post_19_0 n (v2_34 : Int32) (v3_34 : Int32) (w25 : Int32) nu34_
      ) else (
        LETV (F_sx_walkNew nu34_ (v4_19 : Int32) (v5_34 : Int32) : Nat → Nat → Int32) fun xi14 =>
        LETV (xi14 55 3 : Int32) fun y16 =>
        if y16 = (0 : Int32) then (
          LETV ((v3_34 + 1) : Int32) fun w23 =>
          LETV ((v5_34 + 1) : Int32) fun w24 =>
          L_qx_post_34_1 v4_19 vv k_qx_post_19_0 n (v2_34 : Int32) (w23 : Int32) (w24 : Int32) xi14
        ) else (
          LETV (xi14 55 2 : Int32) fun y18 =>
          if vv ≥ y18 then (
            LETV ((v5_34 + 1) : Int32) fun w20 =>
            L_qx_post_34_1 v4_19 vv k_qx_post_19_0 n (v2_34 : Int32) (v3_34 : Int32) (w20 : Int32) xi14
          ) else (
            LETV ((v2_34 + 1) : Int32) fun w21 =>
            LETV ((v5_34 + 1) : Int32) fun w22 =>
            L_qx_post_34_1 v4_19 vv k_qx_post_19_0 n (w21 : Int32) (v3_34 : Int32) (w22 : Int32) xi14
          )
        )
      )
    )
def L_qx_post_19_0 (vv : Int32) : Nat → (Int32) → (Int32) → (Int32) → (Nat → Nat → Int32) → Int32 × (Nat → Nat → Int32)
  | 0, v2_19, v3_19, v4_19, nu19_ => (0, nu19_)
  | n + 1, v2_19, v3_19, v4_19, nu19_ =>
    LETV (nu19_ 4 6 : Int32) fun y3 =>
    if v4_19 ≥ y3 then (
      LETV (va_up nu19_ 0 (upd (nu19_ 0) 10 v3_19) : Nat → Nat → Int32) fun nu5 =>
      LETV (v2_19 + v3_19 : Int32) fun t9 =>
      ((t9 : Int32), nu5)
    ) else (
      L_qx_post_34_1 v4_19 vv (fun z_v2_19 z_v3_19 z_v4_19 z_nu19_ => L_qx_post_19_0 vv n z_v2_19 z_v3_19 z_v4_19 z_nu19_) 10 (v2_19 : Int32) (v3_19 : Int32) (0 : Int32) nu19_
    )
def F_qx_post (mu : Nat → Nat → Int32) (vv : Int32) : Int32 × (Nat → Nat → Int32) :=
  if vv < (0 : Int32) then (
    (((-1) : Int32), mu)
  ) else (
    if vv ≤ (99 : Int32) then (
      L_qx_post_19_0 vv 10 (0 : Int32) (0 : Int32) (0 : Int32) mu
    ) else (
      (((-1) : Int32), mu)
    )
  )
def F_qx_fake (mu : Nat → Nat → Int32) (vx : Int32) (vy : Int32) (vw : Int32) : Int32 × (Nat → Nat → Int32) :=
  if F_sx_isPair mu (vx : Int32) (vy : Int32) = 1 then (
    if vw < (0 : Int32) then (
      (((-1) : Int32), mu)
    ) else (
      if vw ≤ (99 : Int32) then (
        LETV (F_sx_walkNew mu (vx : Int32) (vy : Int32) : Nat → Nat → Int32) fun xi4 =>
        LETV (xi4 55 3 : Int32) fun y6 =>
        if y6 = (0 : Int32) then (
          ((0 : Int32), xi4)
        ) else (
          LETV (xi4 55 2 : Int32) fun y8 =>
          if y8 > vw then (
            ((0 : Int32), xi4)
          ) else (
            ((y8 : Int32), xi4)
          )
        )
      ) else (
        (((-1) : Int32), mu)
      )
    )
  ) else (
    (((-1) : Int32), mu)
  )
