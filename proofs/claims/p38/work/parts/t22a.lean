theorem mw_5_83 : (Cond.fieldLink RX12 279 "DearLettersModel" "hadMany" "I" : Cond) ∈ lw_good := lg_at 5 83 rfl rfl
theorem mw_5_84 : (Cond.fieldLink RX12 282 "DearLettersModel" "lastSet" "I" : Cond) ∈ lw_good := lg_at 5 84 rfl rfl
theorem mw_5_85 : (Cond.fieldLink RX12 285 "DearLettersModel" "hadSet" "I" : Cond) ∈ lw_good := lg_at 5 85 rfl rfl
theorem mw_7_24 : (Cond.code yX12_hadOn cX12_hadOn 10 none : Cond) ∈ lw_good := lg_at 7 24 rfl rfl
theorem mw_7_21 : (Cond.methodLink RX12 288 yX12_hadOn : Cond) ∈ lw_good := lg_at 7 21 rfl rfl
theorem mw_7_23 : (Cond.instanceMethod yX12_hadOn : Cond) ∈ lw_good := lg_at 7 23 rfl rfl
theorem mw_0_62 : (Cond.selects RX12 yX12_hadOn yX12_hadOn : Cond) ∈ lw_good := lg_at 0 62 rfl rfl
theorem mw_7_20 : (Cond.code yX12_askedHad cX12_askedHad 4 (some .int) : Cond) ∈ lw_good := lg_at 7 20 rfl rfl
theorem mw_7_17 : (Cond.methodLink RX12 291 yX12_askedHad : Cond) ∈ lw_good := lg_at 7 17 rfl rfl
theorem mw_7_19 : (Cond.instanceMethod yX12_askedHad : Cond) ∈ lw_good := lg_at 7 19 rfl rfl
theorem mw_0_61 : (Cond.selects RX12 yX12_askedHad yX12_askedHad : Cond) ∈ lw_good := lg_at 0 61 rfl rfl
theorem hM_0_42 (cs : Nat → ClassId) (ad : Nat → Nat) (g : Nat → Int32) (v : Int32) : EM cs ad 0 (upd g 42 v) = .inr (12, [.int (g 0), .ref (ad 1), .int (g 2), .ref (ad 2), .ref (ad 3), .ref (ad 4), .ref (ad 5), .ref (ad 6), .int (g 8), .ref (ad 7), .ref (ad 8), .int (g 11), .ref (ad 9), .int (g 13), .int (g 14), .int (g 15), .ref (ad 10), .int (g 17), .int (g 18), .int (g 19), .int (g 20), .ref (ad 11), .ref (ad 12), .ref (ad 13), .ref (ad 14), .ref (ad 15), .ref (ad 16), .ref (ad 17), .ref (ad 18), .int (g 29), .int (g 30), .int (g 31), .int (g 32), .int (g 33), .int (g 34), .int (g 35), .int (g 36), .int (g 37), .int (g 38), .int (g 39), .ref (ad 19), .ref (ad 20), .int v, .int (g 43), .int (g 44), .long (jn (g 45) (g 46))]) := by
  rfl
theorem tM_0_42 {mu : Nat → Nat → Int32} (ok : okR loM hiM mu) {nu : Nat → Nat → Int32} {v : Int32} (hn : va_up mu 0 (upd (mu 0) 42 v) = nu) : okR loM hiM nu := by
  subst hn
  exact okR_up ok 0 42 v (tI_lo v) (tI_hi v)
theorem hM_0_43 (cs : Nat → ClassId) (ad : Nat → Nat) (g : Nat → Int32) (v : Int32) : EM cs ad 0 (upd g 43 v) = .inr (12, [.int (g 0), .ref (ad 1), .int (g 2), .ref (ad 2), .ref (ad 3), .ref (ad 4), .ref (ad 5), .ref (ad 6), .int (g 8), .ref (ad 7), .ref (ad 8), .int (g 11), .ref (ad 9), .int (g 13), .int (g 14), .int (g 15), .ref (ad 10), .int (g 17), .int (g 18), .int (g 19), .int (g 20), .ref (ad 11), .ref (ad 12), .ref (ad 13), .ref (ad 14), .ref (ad 15), .ref (ad 16), .ref (ad 17), .ref (ad 18), .int (g 29), .int (g 30), .int (g 31), .int (g 32), .int (g 33), .int (g 34), .int (g 35), .int (g 36), .int (g 37), .int (g 38), .int (g 39), .ref (ad 19), .ref (ad 20), .int (g 42), .int v, .int (g 44), .long (jn (g 45) (g 46))]) := by
  rfl
theorem tM_0_43 {mu : Nat → Nat → Int32} (ok : okR loM hiM mu) {nu : Nat → Nat → Int32} {v : Int32} (hn : va_up mu 0 (upd (mu 0) 43 v) = nu) : okR loM hiM nu := by
  subst hn
  exact okR_up ok 0 43 v (tI_lo v) (tI_hi v)
theorem hM_0_44 (cs : Nat → ClassId) (ad : Nat → Nat) (g : Nat → Int32) (v : Int32) : EM cs ad 0 (upd g 44 v) = .inr (12, [.int (g 0), .ref (ad 1), .int (g 2), .ref (ad 2), .ref (ad 3), .ref (ad 4), .ref (ad 5), .ref (ad 6), .int (g 8), .ref (ad 7), .ref (ad 8), .int (g 11), .ref (ad 9), .int (g 13), .int (g 14), .int (g 15), .ref (ad 10), .int (g 17), .int (g 18), .int (g 19), .int (g 20), .ref (ad 11), .ref (ad 12), .ref (ad 13), .ref (ad 14), .ref (ad 15), .ref (ad 16), .ref (ad 17), .ref (ad 18), .int (g 29), .int (g 30), .int (g 31), .int (g 32), .int (g 33), .int (g 34), .int (g 35), .int (g 36), .int (g 37), .int (g 38), .int (g 39), .ref (ad 19), .ref (ad 20), .int (g 42), .int (g 43), .int v, .long (jn (g 45) (g 46))]) := by
  rfl
theorem tM_0_44 {mu : Nat → Nat → Int32} (ok : okR loM hiM mu) {nu : Nat → Nat → Int32} {v : Int32} (hn : va_up mu 0 (upd (mu 0) 44 v) = nu) : okR loM hiM nu := by
  subst hn
  exact okR_up ok 0 44 v (tI_lo v) (tI_hi v)
theorem lb_X12_hadOn_0 : dl_ck (cX12_hadOn.data.toList.drop 0) [28, 42, 180, 0, 13, 27, 46, 4, 96, 160, 0, 59, 42, 180, 1, 23, 154, 0, 12, 42, 42, 180, 0, 58, 28, 182, 0, 219, 42, 89, 180, 1] = true := by decide +kernel
theorem lb_X12_hadOn_1 : dl_ck (cX12_hadOn.data.toList.drop 32) [23, 4, 96, 181, 1, 23, 42, 89, 180, 1, 26, 4, 42, 180, 0, 55, 28, 4, 100, 46, 120, 128, 181, 1, 26, 42, 89, 180, 1, 29, 29, 126] = true := by decide +kernel
theorem lb_X12_hadOn_2 : dl_ck (cX12_hadOn.data.toList.drop 64) [181, 1, 29, 177, 42, 180, 0, 55, 28, 4, 100, 46, 54, 5, 42, 21, 5, 21, 4, 182, 0, 179, 54, 6, 21, 6, 42, 27, 28, 4, 100, 182] = true := by decide +kernel
theorem lb_X12_hadOn_3 : dl_ck (cX12_hadOn.data.toList.drop 96) [0, 99, 160, 0, 23, 28, 4, 159, 0, 14, 42, 180, 0, 28, 21, 5, 46, 6, 159, 0, 7, 4, 167, 0, 4, 3, 54, 7, 21, 7, 153, 0] = true := by decide +kernel
theorem lb_X12_hadOn_4 : dl_ck (cX12_hadOn.data.toList.drop 128) [16, 42, 21, 5, 182, 0, 167, 29, 2, 130, 126, 167, 0, 4, 3, 54, 8, 3, 54, 9, 21, 9, 42, 180, 0, 136, 162, 0, 43, 21, 8, 21] = true := by decide +kernel
theorem lb_X12_hadOn_5 : dl_ck (cX12_hadOn.data.toList.drop 160) [9, 184, 0, 157, 153, 0, 27, 42, 180, 0, 55, 28, 21, 9, 79, 42, 27, 28, 4, 96, 29, 4, 21, 9, 120, 128, 21, 6, 182, 1, 32, 132] = true := by decide +kernel
theorem lb_X12_hadOn_6 : dl_ck (cX12_hadOn.data.toList.drop 192) [9, 1, 167, 255, 210, 177] = true := by decide +kernel
theorem dX12_hadOn_0 : decode cX12_hadOn 0 = .ok (.iload_n 2, 1) := dx_28 (dl_at 0 0 lb_X12_hadOn_0 rfl)
theorem dX12_hadOn_1 : decode cX12_hadOn 1 = .ok (.aload_n 0, 1) := dx_42 (dl_at 0 1 lb_X12_hadOn_0 rfl)
theorem dX12_hadOn_2 : decode cX12_hadOn 2 = .ok (.getfield 13, 3) := dx_180 (a := 0) (b := 13) (dl_at 0 2 lb_X12_hadOn_0 rfl) (dl_at 0 3 lb_X12_hadOn_0 rfl) (dl_at 0 4 lb_X12_hadOn_0 rfl) rfl
theorem dX12_hadOn_5 : decode cX12_hadOn 5 = .ok (.iload_n 1, 1) := dx_27 (dl_at 0 5 lb_X12_hadOn_0 rfl)
theorem dX12_hadOn_6 : decode cX12_hadOn 6 = .ok (.iaload, 1) := dx_46 (dl_at 0 6 lb_X12_hadOn_0 rfl)
theorem dX12_hadOn_7 : decode cX12_hadOn 7 = .ok (.iconst 1, 1) := dx_4 (dl_at 0 7 lb_X12_hadOn_0 rfl)
theorem dX12_hadOn_8 : decode cX12_hadOn 8 = .ok (.iadd, 1) := dx_96 (dl_at 0 8 lb_X12_hadOn_0 rfl)
theorem dX12_hadOn_9 : decode cX12_hadOn 9 = .ok (.if_icmp .ne 59, 3) := dx_160 (a := 0) (b := 59) (dl_at 0 9 lb_X12_hadOn_0 rfl) (dl_at 0 10 lb_X12_hadOn_0 rfl) (dl_at 0 11 lb_X12_hadOn_0 rfl) sg16_59
theorem dX12_hadOn_12 : decode cX12_hadOn 12 = .ok (.aload_n 0, 1) := dx_42 (dl_at 0 12 lb_X12_hadOn_0 rfl)
theorem dX12_hadOn_13 : decode cX12_hadOn 13 = .ok (.getfield 279, 3) := dx_180 (a := 1) (b := 23) (dl_at 0 13 lb_X12_hadOn_0 rfl) (dl_at 0 14 lb_X12_hadOn_0 rfl) (dl_at 0 15 lb_X12_hadOn_0 rfl) rfl
theorem dX12_hadOn_16 : decode cX12_hadOn 16 = .ok (.ifCond .ne 12, 3) := dx_154 (a := 0) (b := 12) (dl_at 0 16 lb_X12_hadOn_0 rfl) (dl_at 0 17 lb_X12_hadOn_0 rfl) (dl_at 0 18 lb_X12_hadOn_0 rfl) sg16_12
theorem dX12_hadOn_28 : decode cX12_hadOn 28 = .ok (.aload_n 0, 1) := dx_42 (dl_at 0 28 lb_X12_hadOn_0 rfl)
theorem dX12_hadOn_29 : decode cX12_hadOn 29 = .ok (.dup, 1) := dx_89 (dl_at 0 29 lb_X12_hadOn_0 rfl)
theorem dX12_hadOn_30 : decode cX12_hadOn 30 = .ok (.getfield 279, 3) := dx_180 (a := 1) (b := 23) (dl_at 0 30 lb_X12_hadOn_0 rfl) (dl_at 0 31 lb_X12_hadOn_0 rfl) (dl_at 32 0 lb_X12_hadOn_1 rfl) rfl
theorem dX12_hadOn_33 : decode cX12_hadOn 33 = .ok (.iconst 1, 1) := dx_4 (dl_at 32 1 lb_X12_hadOn_1 rfl)
theorem dX12_hadOn_34 : decode cX12_hadOn 34 = .ok (.iadd, 1) := dx_96 (dl_at 32 2 lb_X12_hadOn_1 rfl)
theorem dX12_hadOn_35 : decode cX12_hadOn 35 = .ok (.putfield 279, 3) := dx_181 (a := 1) (b := 23) (dl_at 32 3 lb_X12_hadOn_1 rfl) (dl_at 32 4 lb_X12_hadOn_1 rfl) (dl_at 32 5 lb_X12_hadOn_1 rfl) rfl
theorem dX12_hadOn_38 : decode cX12_hadOn 38 = .ok (.aload_n 0, 1) := dx_42 (dl_at 32 6 lb_X12_hadOn_1 rfl)
theorem dX12_hadOn_39 : decode cX12_hadOn 39 = .ok (.dup, 1) := dx_89 (dl_at 32 7 lb_X12_hadOn_1 rfl)
theorem dX12_hadOn_40 : decode cX12_hadOn 40 = .ok (.getfield 282, 3) := dx_180 (a := 1) (b := 26) (dl_at 32 8 lb_X12_hadOn_1 rfl) (dl_at 32 9 lb_X12_hadOn_1 rfl) (dl_at 32 10 lb_X12_hadOn_1 rfl) rfl
theorem dX12_hadOn_43 : decode cX12_hadOn 43 = .ok (.iconst 1, 1) := dx_4 (dl_at 32 11 lb_X12_hadOn_1 rfl)
theorem dX12_hadOn_44 : decode cX12_hadOn 44 = .ok (.aload_n 0, 1) := dx_42 (dl_at 32 12 lb_X12_hadOn_1 rfl)
theorem dX12_hadOn_45 : decode cX12_hadOn 45 = .ok (.getfield 55, 3) := dx_180 (a := 0) (b := 55) (dl_at 32 13 lb_X12_hadOn_1 rfl) (dl_at 32 14 lb_X12_hadOn_1 rfl) (dl_at 32 15 lb_X12_hadOn_1 rfl) rfl
theorem dX12_hadOn_48 : decode cX12_hadOn 48 = .ok (.iload_n 2, 1) := dx_28 (dl_at 32 16 lb_X12_hadOn_1 rfl)
theorem dX12_hadOn_49 : decode cX12_hadOn 49 = .ok (.iconst 1, 1) := dx_4 (dl_at 32 17 lb_X12_hadOn_1 rfl)
theorem dX12_hadOn_50 : decode cX12_hadOn 50 = .ok (.isub, 1) := dx_100 (dl_at 32 18 lb_X12_hadOn_1 rfl)
theorem dX12_hadOn_51 : decode cX12_hadOn 51 = .ok (.iaload, 1) := dx_46 (dl_at 32 19 lb_X12_hadOn_1 rfl)
theorem dX12_hadOn_52 : decode cX12_hadOn 52 = .ok (.ishl, 1) := dx_120 (dl_at 32 20 lb_X12_hadOn_1 rfl)
theorem dX12_hadOn_53 : decode cX12_hadOn 53 = .ok (.ior, 1) := dx_128 (dl_at 32 21 lb_X12_hadOn_1 rfl)
theorem dX12_hadOn_54 : decode cX12_hadOn 54 = .ok (.putfield 282, 3) := dx_181 (a := 1) (b := 26) (dl_at 32 22 lb_X12_hadOn_1 rfl) (dl_at 32 23 lb_X12_hadOn_1 rfl) (dl_at 32 24 lb_X12_hadOn_1 rfl) rfl
theorem dX12_hadOn_57 : decode cX12_hadOn 57 = .ok (.aload_n 0, 1) := dx_42 (dl_at 32 25 lb_X12_hadOn_1 rfl)
theorem dX12_hadOn_58 : decode cX12_hadOn 58 = .ok (.dup, 1) := dx_89 (dl_at 32 26 lb_X12_hadOn_1 rfl)
theorem dX12_hadOn_59 : decode cX12_hadOn 59 = .ok (.getfield 285, 3) := dx_180 (a := 1) (b := 29) (dl_at 32 27 lb_X12_hadOn_1 rfl) (dl_at 32 28 lb_X12_hadOn_1 rfl) (dl_at 32 29 lb_X12_hadOn_1 rfl) rfl
theorem dX12_hadOn_62 : decode cX12_hadOn 62 = .ok (.iload_n 3, 1) := dx_29 (dl_at 32 30 lb_X12_hadOn_1 rfl)
theorem dX12_hadOn_63 : decode cX12_hadOn 63 = .ok (.iand, 1) := dx_126 (dl_at 32 31 lb_X12_hadOn_1 rfl)
theorem dX12_hadOn_64 : decode cX12_hadOn 64 = .ok (.putfield 285, 3) := dx_181 (a := 1) (b := 29) (dl_at 64 0 lb_X12_hadOn_2 rfl) (dl_at 64 1 lb_X12_hadOn_2 rfl) (dl_at 64 2 lb_X12_hadOn_2 rfl) rfl
theorem dX12_hadOn_67 : decode cX12_hadOn 67 = .ok (.return_, 1) := dx_177 (dl_at 64 3 lb_X12_hadOn_2 rfl)
theorem dX12_hadOn_19 : decode cX12_hadOn 19 = .ok (.aload_n 0, 1) := dx_42 (dl_at 0 19 lb_X12_hadOn_0 rfl)
theorem dX12_hadOn_20 : decode cX12_hadOn 20 = .ok (.aload_n 0, 1) := dx_42 (dl_at 0 20 lb_X12_hadOn_0 rfl)
theorem dX12_hadOn_21 : decode cX12_hadOn 21 = .ok (.getfield 58, 3) := dx_180 (a := 0) (b := 58) (dl_at 0 21 lb_X12_hadOn_0 rfl) (dl_at 0 22 lb_X12_hadOn_0 rfl) (dl_at 0 23 lb_X12_hadOn_0 rfl) rfl
theorem dX12_hadOn_24 : decode cX12_hadOn 24 = .ok (.iload_n 2, 1) := dx_28 (dl_at 0 24 lb_X12_hadOn_0 rfl)
theorem dX12_hadOn_25 : decode cX12_hadOn 25 = .ok (.invokevirtual 219, 3) := dx_182 (a := 0) (b := 219) (dl_at 0 25 lb_X12_hadOn_0 rfl) (dl_at 0 26 lb_X12_hadOn_0 rfl) (dl_at 0 27 lb_X12_hadOn_0 rfl) rfl
theorem dX12_hadOn_68 : decode cX12_hadOn 68 = .ok (.aload_n 0, 1) := dx_42 (dl_at 64 4 lb_X12_hadOn_2 rfl)
theorem dX12_hadOn_69 : decode cX12_hadOn 69 = .ok (.getfield 55, 3) := dx_180 (a := 0) (b := 55) (dl_at 64 5 lb_X12_hadOn_2 rfl) (dl_at 64 6 lb_X12_hadOn_2 rfl) (dl_at 64 7 lb_X12_hadOn_2 rfl) rfl
theorem dX12_hadOn_72 : decode cX12_hadOn 72 = .ok (.iload_n 2, 1) := dx_28 (dl_at 64 8 lb_X12_hadOn_2 rfl)
theorem dX12_hadOn_73 : decode cX12_hadOn 73 = .ok (.iconst 1, 1) := dx_4 (dl_at 64 9 lb_X12_hadOn_2 rfl)
theorem dX12_hadOn_74 : decode cX12_hadOn 74 = .ok (.isub, 1) := dx_100 (dl_at 64 10 lb_X12_hadOn_2 rfl)
theorem dX12_hadOn_75 : decode cX12_hadOn 75 = .ok (.iaload, 1) := dx_46 (dl_at 64 11 lb_X12_hadOn_2 rfl)
theorem dX12_hadOn_76 : decode cX12_hadOn 76 = .ok (.istore 5, 2) := dx_54 (dl_at 64 12 lb_X12_hadOn_2 rfl) (dl_at 64 13 lb_X12_hadOn_2 rfl)
theorem dX12_hadOn_78 : decode cX12_hadOn 78 = .ok (.aload_n 0, 1) := dx_42 (dl_at 64 14 lb_X12_hadOn_2 rfl)
theorem dX12_hadOn_79 : decode cX12_hadOn 79 = .ok (.iload 5, 2) := dx_21 (dl_at 64 15 lb_X12_hadOn_2 rfl) (dl_at 64 16 lb_X12_hadOn_2 rfl)
theorem dX12_hadOn_81 : decode cX12_hadOn 81 = .ok (.iload 4, 2) := dx_21 (dl_at 64 17 lb_X12_hadOn_2 rfl) (dl_at 64 18 lb_X12_hadOn_2 rfl)
theorem dX12_hadOn_83 : decode cX12_hadOn 83 = .ok (.invokevirtual 179, 3) := dx_182 (a := 0) (b := 179) (dl_at 64 19 lb_X12_hadOn_2 rfl) (dl_at 64 20 lb_X12_hadOn_2 rfl) (dl_at 64 21 lb_X12_hadOn_2 rfl) rfl
theorem dX12_hadOn_86 : decode cX12_hadOn 86 = .ok (.istore 6, 2) := dx_54 (dl_at 64 22 lb_X12_hadOn_2 rfl) (dl_at 64 23 lb_X12_hadOn_2 rfl)
theorem dX12_hadOn_88 : decode cX12_hadOn 88 = .ok (.iload 6, 2) := dx_21 (dl_at 64 24 lb_X12_hadOn_2 rfl) (dl_at 64 25 lb_X12_hadOn_2 rfl)
theorem dX12_hadOn_90 : decode cX12_hadOn 90 = .ok (.aload_n 0, 1) := dx_42 (dl_at 64 26 lb_X12_hadOn_2 rfl)
theorem dX12_hadOn_91 : decode cX12_hadOn 91 = .ok (.iload_n 1, 1) := dx_27 (dl_at 64 27 lb_X12_hadOn_2 rfl)
theorem dX12_hadOn_92 : decode cX12_hadOn 92 = .ok (.iload_n 2, 1) := dx_28 (dl_at 64 28 lb_X12_hadOn_2 rfl)
theorem dX12_hadOn_93 : decode cX12_hadOn 93 = .ok (.iconst 1, 1) := dx_4 (dl_at 64 29 lb_X12_hadOn_2 rfl)
theorem dX12_hadOn_94 : decode cX12_hadOn 94 = .ok (.isub, 1) := dx_100 (dl_at 64 30 lb_X12_hadOn_2 rfl)
theorem dX12_hadOn_95 : decode cX12_hadOn 95 = .ok (.invokevirtual 99, 3) := dx_182 (a := 0) (b := 99) (dl_at 64 31 lb_X12_hadOn_2 rfl) (dl_at 96 0 lb_X12_hadOn_3 rfl) (dl_at 96 1 lb_X12_hadOn_3 rfl) rfl
theorem dX12_hadOn_98 : decode cX12_hadOn 98 = .ok (.if_icmp .ne 23, 3) := dx_160 (a := 0) (b := 23) (dl_at 96 2 lb_X12_hadOn_3 rfl) (dl_at 96 3 lb_X12_hadOn_3 rfl) (dl_at 96 4 lb_X12_hadOn_3 rfl) sg16_23
theorem dX12_hadOn_121 : decode cX12_hadOn 121 = .ok (.iconst 0, 1) := dx_3 (dl_at 96 25 lb_X12_hadOn_3 rfl)
theorem dX12_hadOn_122 : decode cX12_hadOn 122 = .ok (.istore 7, 2) := dx_54 (dl_at 96 26 lb_X12_hadOn_3 rfl) (dl_at 96 27 lb_X12_hadOn_3 rfl)
theorem dX12_hadOn_124 : decode cX12_hadOn 124 = .ok (.iload 7, 2) := dx_21 (dl_at 96 28 lb_X12_hadOn_3 rfl) (dl_at 96 29 lb_X12_hadOn_3 rfl)
theorem dX12_hadOn_126 : decode cX12_hadOn 126 = .ok (.ifCond .eq 16, 3) := dx_153 (a := 0) (b := 16) (dl_at 96 30 lb_X12_hadOn_3 rfl) (dl_at 96 31 lb_X12_hadOn_3 rfl) (dl_at 128 0 lb_X12_hadOn_4 rfl) sg16_16
theorem dX12_hadOn_142 : decode cX12_hadOn 142 = .ok (.iconst 0, 1) := dx_3 (dl_at 128 14 lb_X12_hadOn_4 rfl)
theorem dX12_hadOn_143 : decode cX12_hadOn 143 = .ok (.istore 8, 2) := dx_54 (dl_at 128 15 lb_X12_hadOn_4 rfl) (dl_at 128 16 lb_X12_hadOn_4 rfl)
theorem dX12_hadOn_145 : decode cX12_hadOn 145 = .ok (.iconst 0, 1) := dx_3 (dl_at 128 17 lb_X12_hadOn_4 rfl)
theorem dX12_hadOn_146 : decode cX12_hadOn 146 = .ok (.istore 9, 2) := dx_54 (dl_at 128 18 lb_X12_hadOn_4 rfl) (dl_at 128 19 lb_X12_hadOn_4 rfl)
theorem dX12_hadOn_148 : decode cX12_hadOn 148 = .ok (.iload 9, 2) := dx_21 (dl_at 128 20 lb_X12_hadOn_4 rfl) (dl_at 128 21 lb_X12_hadOn_4 rfl)
theorem dX12_hadOn_150 : decode cX12_hadOn 150 = .ok (.aload_n 0, 1) := dx_42 (dl_at 128 22 lb_X12_hadOn_4 rfl)
theorem dX12_hadOn_151 : decode cX12_hadOn 151 = .ok (.getfield 136, 3) := dx_180 (a := 0) (b := 136) (dl_at 128 23 lb_X12_hadOn_4 rfl) (dl_at 128 24 lb_X12_hadOn_4 rfl) (dl_at 128 25 lb_X12_hadOn_4 rfl) rfl
theorem dX12_hadOn_154 : decode cX12_hadOn 154 = .ok (.if_icmp .ge 43, 3) := dx_162 (a := 0) (b := 43) (dl_at 128 26 lb_X12_hadOn_4 rfl) (dl_at 128 27 lb_X12_hadOn_4 rfl) (dl_at 128 28 lb_X12_hadOn_4 rfl) sg16_43
theorem dX12_hadOn_197 : decode cX12_hadOn 197 = .ok (.return_, 1) := dx_177 (dl_at 192 5 lb_X12_hadOn_6 rfl)
theorem dX12_hadOn_157 : decode cX12_hadOn 157 = .ok (.iload 8, 2) := dx_21 (dl_at 128 29 lb_X12_hadOn_4 rfl) (dl_at 128 30 lb_X12_hadOn_4 rfl)
theorem dX12_hadOn_159 : decode cX12_hadOn 159 = .ok (.iload 9, 2) := dx_21 (dl_at 128 31 lb_X12_hadOn_4 rfl) (dl_at 160 0 lb_X12_hadOn_5 rfl)
theorem dX12_hadOn_161 : decode cX12_hadOn 161 = .ok (.invokestatic 157, 3) := dx_184 (a := 0) (b := 157) (dl_at 160 1 lb_X12_hadOn_5 rfl) (dl_at 160 2 lb_X12_hadOn_5 rfl) (dl_at 160 3 lb_X12_hadOn_5 rfl) rfl
theorem dX12_hadOn_164 : decode cX12_hadOn 164 = .ok (.ifCond .eq 27, 3) := dx_153 (a := 0) (b := 27) (dl_at 160 4 lb_X12_hadOn_5 rfl) (dl_at 160 5 lb_X12_hadOn_5 rfl) (dl_at 160 6 lb_X12_hadOn_5 rfl) sg16_27
theorem dX12_hadOn_167 : decode cX12_hadOn 167 = .ok (.aload_n 0, 1) := dx_42 (dl_at 160 7 lb_X12_hadOn_5 rfl)
theorem dX12_hadOn_168 : decode cX12_hadOn 168 = .ok (.getfield 55, 3) := dx_180 (a := 0) (b := 55) (dl_at 160 8 lb_X12_hadOn_5 rfl) (dl_at 160 9 lb_X12_hadOn_5 rfl) (dl_at 160 10 lb_X12_hadOn_5 rfl) rfl
theorem dX12_hadOn_171 : decode cX12_hadOn 171 = .ok (.iload_n 2, 1) := dx_28 (dl_at 160 11 lb_X12_hadOn_5 rfl)
theorem dX12_hadOn_172 : decode cX12_hadOn 172 = .ok (.iload 9, 2) := dx_21 (dl_at 160 12 lb_X12_hadOn_5 rfl) (dl_at 160 13 lb_X12_hadOn_5 rfl)
theorem dX12_hadOn_174 : decode cX12_hadOn 174 = .ok (.iastore, 1) := dx_79 (dl_at 160 14 lb_X12_hadOn_5 rfl)
theorem dX12_hadOn_175 : decode cX12_hadOn 175 = .ok (.aload_n 0, 1) := dx_42 (dl_at 160 15 lb_X12_hadOn_5 rfl)
theorem dX12_hadOn_176 : decode cX12_hadOn 176 = .ok (.iload_n 1, 1) := dx_27 (dl_at 160 16 lb_X12_hadOn_5 rfl)
theorem dX12_hadOn_177 : decode cX12_hadOn 177 = .ok (.iload_n 2, 1) := dx_28 (dl_at 160 17 lb_X12_hadOn_5 rfl)
theorem dX12_hadOn_178 : decode cX12_hadOn 178 = .ok (.iconst 1, 1) := dx_4 (dl_at 160 18 lb_X12_hadOn_5 rfl)
theorem dX12_hadOn_179 : decode cX12_hadOn 179 = .ok (.iadd, 1) := dx_96 (dl_at 160 19 lb_X12_hadOn_5 rfl)
theorem dX12_hadOn_180 : decode cX12_hadOn 180 = .ok (.iload_n 3, 1) := dx_29 (dl_at 160 20 lb_X12_hadOn_5 rfl)
theorem dX12_hadOn_181 : decode cX12_hadOn 181 = .ok (.iconst 1, 1) := dx_4 (dl_at 160 21 lb_X12_hadOn_5 rfl)
theorem dX12_hadOn_182 : decode cX12_hadOn 182 = .ok (.iload 9, 2) := dx_21 (dl_at 160 22 lb_X12_hadOn_5 rfl) (dl_at 160 23 lb_X12_hadOn_5 rfl)
theorem dX12_hadOn_184 : decode cX12_hadOn 184 = .ok (.ishl, 1) := dx_120 (dl_at 160 24 lb_X12_hadOn_5 rfl)
theorem dX12_hadOn_185 : decode cX12_hadOn 185 = .ok (.ior, 1) := dx_128 (dl_at 160 25 lb_X12_hadOn_5 rfl)
theorem dX12_hadOn_186 : decode cX12_hadOn 186 = .ok (.iload 6, 2) := dx_21 (dl_at 160 26 lb_X12_hadOn_5 rfl) (dl_at 160 27 lb_X12_hadOn_5 rfl)
theorem dX12_hadOn_188 : decode cX12_hadOn 188 = .ok (.invokevirtual 288, 3) := dx_182 (a := 1) (b := 32) (dl_at 160 28 lb_X12_hadOn_5 rfl) (dl_at 160 29 lb_X12_hadOn_5 rfl) (dl_at 160 30 lb_X12_hadOn_5 rfl) rfl
theorem dX12_hadOn_191 : decode cX12_hadOn 191 = .ok (.iinc 9 1, 3) := dx_132 (dl_at 160 31 lb_X12_hadOn_5 rfl) (dl_at 192 0 lb_X12_hadOn_6 rfl) (dl_at 192 1 lb_X12_hadOn_6 rfl) sg8_1
theorem dX12_hadOn_194 : decode cX12_hadOn 194 = .ok (.goto (-46), 3) := dx_167 (a := 255) (b := 210) (dl_at 192 2 lb_X12_hadOn_6 rfl) (dl_at 192 3 lb_X12_hadOn_6 rfl) (dl_at 192 4 lb_X12_hadOn_6 rfl) sg16_65490
theorem dX12_hadOn_101 : decode cX12_hadOn 101 = .ok (.iload_n 2, 1) := dx_28 (dl_at 96 5 lb_X12_hadOn_3 rfl)
theorem dX12_hadOn_102 : decode cX12_hadOn 102 = .ok (.iconst 1, 1) := dx_4 (dl_at 96 6 lb_X12_hadOn_3 rfl)
theorem dX12_hadOn_103 : decode cX12_hadOn 103 = .ok (.if_icmp .eq 14, 3) := dx_159 (a := 0) (b := 14) (dl_at 96 7 lb_X12_hadOn_3 rfl) (dl_at 96 8 lb_X12_hadOn_3 rfl) (dl_at 96 9 lb_X12_hadOn_3 rfl) sg16_14
theorem dX12_hadOn_106 : decode cX12_hadOn 106 = .ok (.aload_n 0, 1) := dx_42 (dl_at 96 10 lb_X12_hadOn_3 rfl)
theorem dX12_hadOn_107 : decode cX12_hadOn 107 = .ok (.getfield 28, 3) := dx_180 (a := 0) (b := 28) (dl_at 96 11 lb_X12_hadOn_3 rfl) (dl_at 96 12 lb_X12_hadOn_3 rfl) (dl_at 96 13 lb_X12_hadOn_3 rfl) rfl
theorem dX12_hadOn_110 : decode cX12_hadOn 110 = .ok (.iload 5, 2) := dx_21 (dl_at 96 14 lb_X12_hadOn_3 rfl) (dl_at 96 15 lb_X12_hadOn_3 rfl)
theorem dX12_hadOn_112 : decode cX12_hadOn 112 = .ok (.iaload, 1) := dx_46 (dl_at 96 16 lb_X12_hadOn_3 rfl)
theorem dX12_hadOn_113 : decode cX12_hadOn 113 = .ok (.iconst 3, 1) := dx_6 (dl_at 96 17 lb_X12_hadOn_3 rfl)
theorem dX12_hadOn_114 : decode cX12_hadOn 114 = .ok (.if_icmp .eq 7, 3) := dx_159 (a := 0) (b := 7) (dl_at 96 18 lb_X12_hadOn_3 rfl) (dl_at 96 19 lb_X12_hadOn_3 rfl) (dl_at 96 20 lb_X12_hadOn_3 rfl) sg16_7
theorem dX12_hadOn_117 : decode cX12_hadOn 117 = .ok (.iconst 1, 1) := dx_4 (dl_at 96 21 lb_X12_hadOn_3 rfl)
theorem dX12_hadOn_118 : decode cX12_hadOn 118 = .ok (.goto 4, 3) := dx_167 (a := 0) (b := 4) (dl_at 96 22 lb_X12_hadOn_3 rfl) (dl_at 96 23 lb_X12_hadOn_3 rfl) (dl_at 96 24 lb_X12_hadOn_3 rfl) sg16_4
theorem dX12_hadOn_129 : decode cX12_hadOn 129 = .ok (.aload_n 0, 1) := dx_42 (dl_at 128 1 lb_X12_hadOn_4 rfl)
theorem dX12_hadOn_130 : decode cX12_hadOn 130 = .ok (.iload 5, 2) := dx_21 (dl_at 128 2 lb_X12_hadOn_4 rfl) (dl_at 128 3 lb_X12_hadOn_4 rfl)
theorem dX12_hadOn_132 : decode cX12_hadOn 132 = .ok (.invokevirtual 167, 3) := dx_182 (a := 0) (b := 167) (dl_at 128 4 lb_X12_hadOn_4 rfl) (dl_at 128 5 lb_X12_hadOn_4 rfl) (dl_at 128 6 lb_X12_hadOn_4 rfl) rfl
theorem dX12_hadOn_135 : decode cX12_hadOn 135 = .ok (.iload_n 3, 1) := dx_29 (dl_at 128 7 lb_X12_hadOn_4 rfl)
theorem dX12_hadOn_136 : decode cX12_hadOn 136 = .ok (.iconst (-1), 1) := dx_2 (dl_at 128 8 lb_X12_hadOn_4 rfl)
theorem dX12_hadOn_137 : decode cX12_hadOn 137 = .ok (.ixor, 1) := dx_130 (dl_at 128 9 lb_X12_hadOn_4 rfl)
theorem dX12_hadOn_138 : decode cX12_hadOn 138 = .ok (.iand, 1) := dx_126 (dl_at 128 10 lb_X12_hadOn_4 rfl)
theorem dX12_hadOn_139 : decode cX12_hadOn 139 = .ok (.goto 4, 3) := dx_167 (a := 0) (b := 4) (dl_at 128 11 lb_X12_hadOn_4 rfl) (dl_at 128 12 lb_X12_hadOn_4 rfl) (dl_at 128 13 lb_X12_hadOn_4 rfl) sg16_4
theorem lb_X12_askedHad_0 : dl_ck (cX12_askedHad.data.toList.drop 0) [42, 27, 182, 0, 154, 154, 0, 5, 2, 172, 42, 28, 182, 0, 96, 62, 29, 156, 0, 5, 29, 172, 42, 180, 0, 13, 28, 46, 16, 6, 164, 0] = true := by decide +kernel
theorem lb_X12_askedHad_1 : dl_ck (cX12_askedHad.data.toList.drop 32) [9, 42, 8, 182, 0, 85, 172, 42, 3, 181, 1, 23, 42, 3, 181, 1, 26, 42, 16, 127, 181, 1, 29, 42, 180, 0, 55, 3, 27, 79, 42, 28] = true := by decide +kernel
theorem lb_X12_askedHad_2 : dl_ck (cX12_askedHad.data.toList.drop 64) [4, 4, 27, 120, 3, 182, 1, 32, 3, 172] = true := by decide +kernel
theorem dX12_askedHad_0 : decode cX12_askedHad 0 = .ok (.aload_n 0, 1) := dx_42 (dl_at 0 0 lb_X12_askedHad_0 rfl)
theorem dX12_askedHad_1 : decode cX12_askedHad 1 = .ok (.iload_n 1, 1) := dx_27 (dl_at 0 1 lb_X12_askedHad_0 rfl)
theorem dX12_askedHad_2 : decode cX12_askedHad 2 = .ok (.invokevirtual 154, 3) := dx_182 (a := 0) (b := 154) (dl_at 0 2 lb_X12_askedHad_0 rfl) (dl_at 0 3 lb_X12_askedHad_0 rfl) (dl_at 0 4 lb_X12_askedHad_0 rfl) rfl
theorem dX12_askedHad_5 : decode cX12_askedHad 5 = .ok (.ifCond .ne 5, 3) := dx_154 (a := 0) (b := 5) (dl_at 0 5 lb_X12_askedHad_0 rfl) (dl_at 0 6 lb_X12_askedHad_0 rfl) (dl_at 0 7 lb_X12_askedHad_0 rfl) sg16_5
theorem dX12_askedHad_10 : decode cX12_askedHad 10 = .ok (.aload_n 0, 1) := dx_42 (dl_at 0 10 lb_X12_askedHad_0 rfl)
theorem dX12_askedHad_11 : decode cX12_askedHad 11 = .ok (.iload_n 2, 1) := dx_28 (dl_at 0 11 lb_X12_askedHad_0 rfl)
theorem dX12_askedHad_12 : decode cX12_askedHad 12 = .ok (.invokevirtual 96, 3) := dx_182 (a := 0) (b := 96) (dl_at 0 12 lb_X12_askedHad_0 rfl) (dl_at 0 13 lb_X12_askedHad_0 rfl) (dl_at 0 14 lb_X12_askedHad_0 rfl) rfl
theorem dX12_askedHad_15 : decode cX12_askedHad 15 = .ok (.istore_n 3, 1) := dx_62 (dl_at 0 15 lb_X12_askedHad_0 rfl)
theorem dX12_askedHad_16 : decode cX12_askedHad 16 = .ok (.iload_n 3, 1) := dx_29 (dl_at 0 16 lb_X12_askedHad_0 rfl)
theorem dX12_askedHad_17 : decode cX12_askedHad 17 = .ok (.ifCond .ge 5, 3) := dx_156 (a := 0) (b := 5) (dl_at 0 17 lb_X12_askedHad_0 rfl) (dl_at 0 18 lb_X12_askedHad_0 rfl) (dl_at 0 19 lb_X12_askedHad_0 rfl) sg16_5
theorem dX12_askedHad_22 : decode cX12_askedHad 22 = .ok (.aload_n 0, 1) := dx_42 (dl_at 0 22 lb_X12_askedHad_0 rfl)
theorem dX12_askedHad_23 : decode cX12_askedHad 23 = .ok (.getfield 13, 3) := dx_180 (a := 0) (b := 13) (dl_at 0 23 lb_X12_askedHad_0 rfl) (dl_at 0 24 lb_X12_askedHad_0 rfl) (dl_at 0 25 lb_X12_askedHad_0 rfl) rfl
theorem dX12_askedHad_26 : decode cX12_askedHad 26 = .ok (.iload_n 2, 1) := dx_28 (dl_at 0 26 lb_X12_askedHad_0 rfl)
theorem dX12_askedHad_27 : decode cX12_askedHad 27 = .ok (.iaload, 1) := dx_46 (dl_at 0 27 lb_X12_askedHad_0 rfl)
theorem dX12_askedHad_28 : decode cX12_askedHad 28 = .ok (.bipush 6, 2) := dx_16 (dl_at 0 28 lb_X12_askedHad_0 rfl) (dl_at 0 29 lb_X12_askedHad_0 rfl) sg8_6
theorem dX12_askedHad_30 : decode cX12_askedHad 30 = .ok (.if_icmp .le 9, 3) := dx_164 (a := 0) (b := 9) (dl_at 0 30 lb_X12_askedHad_0 rfl) (dl_at 0 31 lb_X12_askedHad_0 rfl) (dl_at 32 0 lb_X12_askedHad_1 rfl) sg16_9
theorem dX12_askedHad_39 : decode cX12_askedHad 39 = .ok (.aload_n 0, 1) := dx_42 (dl_at 32 7 lb_X12_askedHad_1 rfl)
theorem dX12_askedHad_40 : decode cX12_askedHad 40 = .ok (.iconst 0, 1) := dx_3 (dl_at 32 8 lb_X12_askedHad_1 rfl)
theorem dX12_askedHad_41 : decode cX12_askedHad 41 = .ok (.putfield 279, 3) := dx_181 (a := 1) (b := 23) (dl_at 32 9 lb_X12_askedHad_1 rfl) (dl_at 32 10 lb_X12_askedHad_1 rfl) (dl_at 32 11 lb_X12_askedHad_1 rfl) rfl
theorem dX12_askedHad_44 : decode cX12_askedHad 44 = .ok (.aload_n 0, 1) := dx_42 (dl_at 32 12 lb_X12_askedHad_1 rfl)
theorem dX12_askedHad_45 : decode cX12_askedHad 45 = .ok (.iconst 0, 1) := dx_3 (dl_at 32 13 lb_X12_askedHad_1 rfl)
theorem dX12_askedHad_46 : decode cX12_askedHad 46 = .ok (.putfield 282, 3) := dx_181 (a := 1) (b := 26) (dl_at 32 14 lb_X12_askedHad_1 rfl) (dl_at 32 15 lb_X12_askedHad_1 rfl) (dl_at 32 16 lb_X12_askedHad_1 rfl) rfl
theorem dX12_askedHad_49 : decode cX12_askedHad 49 = .ok (.aload_n 0, 1) := dx_42 (dl_at 32 17 lb_X12_askedHad_1 rfl)
theorem dX12_askedHad_50 : decode cX12_askedHad 50 = .ok (.bipush 127, 2) := dx_16 (dl_at 32 18 lb_X12_askedHad_1 rfl) (dl_at 32 19 lb_X12_askedHad_1 rfl) sg8_127
theorem dX12_askedHad_52 : decode cX12_askedHad 52 = .ok (.putfield 285, 3) := dx_181 (a := 1) (b := 29) (dl_at 32 20 lb_X12_askedHad_1 rfl) (dl_at 32 21 lb_X12_askedHad_1 rfl) (dl_at 32 22 lb_X12_askedHad_1 rfl) rfl
theorem dX12_askedHad_55 : decode cX12_askedHad 55 = .ok (.aload_n 0, 1) := dx_42 (dl_at 32 23 lb_X12_askedHad_1 rfl)
theorem dX12_askedHad_56 : decode cX12_askedHad 56 = .ok (.getfield 55, 3) := dx_180 (a := 0) (b := 55) (dl_at 32 24 lb_X12_askedHad_1 rfl) (dl_at 32 25 lb_X12_askedHad_1 rfl) (dl_at 32 26 lb_X12_askedHad_1 rfl) rfl
theorem dX12_askedHad_59 : decode cX12_askedHad 59 = .ok (.iconst 0, 1) := dx_3 (dl_at 32 27 lb_X12_askedHad_1 rfl)
theorem dX12_askedHad_60 : decode cX12_askedHad 60 = .ok (.iload_n 1, 1) := dx_27 (dl_at 32 28 lb_X12_askedHad_1 rfl)
theorem dX12_askedHad_61 : decode cX12_askedHad 61 = .ok (.iastore, 1) := dx_79 (dl_at 32 29 lb_X12_askedHad_1 rfl)
theorem dX12_askedHad_62 : decode cX12_askedHad 62 = .ok (.aload_n 0, 1) := dx_42 (dl_at 32 30 lb_X12_askedHad_1 rfl)
theorem dX12_askedHad_63 : decode cX12_askedHad 63 = .ok (.iload_n 2, 1) := dx_28 (dl_at 32 31 lb_X12_askedHad_1 rfl)
theorem dX12_askedHad_64 : decode cX12_askedHad 64 = .ok (.iconst 1, 1) := dx_4 (dl_at 64 0 lb_X12_askedHad_2 rfl)
theorem dX12_askedHad_65 : decode cX12_askedHad 65 = .ok (.iconst 1, 1) := dx_4 (dl_at 64 1 lb_X12_askedHad_2 rfl)
theorem dX12_askedHad_66 : decode cX12_askedHad 66 = .ok (.iload_n 1, 1) := dx_27 (dl_at 64 2 lb_X12_askedHad_2 rfl)
theorem dX12_askedHad_67 : decode cX12_askedHad 67 = .ok (.ishl, 1) := dx_120 (dl_at 64 3 lb_X12_askedHad_2 rfl)
theorem dX12_askedHad_68 : decode cX12_askedHad 68 = .ok (.iconst 0, 1) := dx_3 (dl_at 64 4 lb_X12_askedHad_2 rfl)
theorem dX12_askedHad_69 : decode cX12_askedHad 69 = .ok (.invokevirtual 288, 3) := dx_182 (a := 1) (b := 32) (dl_at 64 5 lb_X12_askedHad_2 rfl) (dl_at 64 6 lb_X12_askedHad_2 rfl) (dl_at 64 7 lb_X12_askedHad_2 rfl) rfl
theorem dX12_askedHad_72 : decode cX12_askedHad 72 = .ok (.iconst 0, 1) := dx_3 (dl_at 64 8 lb_X12_askedHad_2 rfl)
theorem dX12_askedHad_73 : decode cX12_askedHad 73 = .ok (.ireturn, 1) := dx_172 (dl_at 64 9 lb_X12_askedHad_2 rfl)
theorem dX12_askedHad_33 : decode cX12_askedHad 33 = .ok (.aload_n 0, 1) := dx_42 (dl_at 32 1 lb_X12_askedHad_1 rfl)
theorem dX12_askedHad_34 : decode cX12_askedHad 34 = .ok (.iconst 5, 1) := dx_8 (dl_at 32 2 lb_X12_askedHad_1 rfl)
theorem dX12_askedHad_35 : decode cX12_askedHad 35 = .ok (.invokevirtual 85, 3) := dx_182 (a := 0) (b := 85) (dl_at 32 3 lb_X12_askedHad_1 rfl) (dl_at 32 4 lb_X12_askedHad_1 rfl) (dl_at 32 5 lb_X12_askedHad_1 rfl) rfl
theorem dX12_askedHad_38 : decode cX12_askedHad 38 = .ok (.ireturn, 1) := dx_172 (dl_at 32 6 lb_X12_askedHad_1 rfl)
theorem dX12_askedHad_20 : decode cX12_askedHad 20 = .ok (.iload_n 3, 1) := dx_29 (dl_at 0 20 lb_X12_askedHad_0 rfl)
theorem dX12_askedHad_21 : decode cX12_askedHad 21 = .ok (.ireturn, 1) := dx_172 (dl_at 0 21 lb_X12_askedHad_0 rfl)
theorem dX12_askedHad_8 : decode cX12_askedHad 8 = .ok (.iconst (-1), 1) := dx_2 (dl_at 0 8 lb_X12_askedHad_0 rfl)
theorem dX12_askedHad_9 : decode cX12_askedHad 9 = .ok (.ireturn, 1) := dx_172 (dl_at 0 9 lb_X12_askedHad_0 rfl)
theorem lb_X12_had_0 : dl_ck (cX12_had.data.toList.drop 0) [42, 27, 28, 182, 1, 35, 62, 29, 156, 0, 7, 29, 167, 0, 15, 42, 42, 180, 1, 26, 42, 180, 1, 23, 182, 0, 103, 172] = true := by decide +kernel
theorem dX12_had_0 : decode cX12_had 0 = .ok (.aload_n 0, 1) := dx_42 (dl_at 0 0 lb_X12_had_0 rfl)
theorem dX12_had_1 : decode cX12_had 1 = .ok (.iload_n 1, 1) := dx_27 (dl_at 0 1 lb_X12_had_0 rfl)
theorem dX12_had_2 : decode cX12_had 2 = .ok (.iload_n 2, 1) := dx_28 (dl_at 0 2 lb_X12_had_0 rfl)
theorem dX12_had_3 : decode cX12_had 3 = .ok (.invokevirtual 291, 3) := dx_182 (a := 1) (b := 35) (dl_at 0 3 lb_X12_had_0 rfl) (dl_at 0 4 lb_X12_had_0 rfl) (dl_at 0 5 lb_X12_had_0 rfl) rfl
theorem dX12_had_6 : decode cX12_had 6 = .ok (.istore_n 3, 1) := dx_62 (dl_at 0 6 lb_X12_had_0 rfl)
theorem dX12_had_7 : decode cX12_had 7 = .ok (.iload_n 3, 1) := dx_29 (dl_at 0 7 lb_X12_had_0 rfl)
theorem dX12_had_8 : decode cX12_had 8 = .ok (.ifCond .ge 7, 3) := dx_156 (a := 0) (b := 7) (dl_at 0 8 lb_X12_had_0 rfl) (dl_at 0 9 lb_X12_had_0 rfl) (dl_at 0 10 lb_X12_had_0 rfl) sg16_7
theorem dX12_had_15 : decode cX12_had 15 = .ok (.aload_n 0, 1) := dx_42 (dl_at 0 15 lb_X12_had_0 rfl)
theorem dX12_had_16 : decode cX12_had 16 = .ok (.aload_n 0, 1) := dx_42 (dl_at 0 16 lb_X12_had_0 rfl)
theorem dX12_had_17 : decode cX12_had 17 = .ok (.getfield 282, 3) := dx_180 (a := 1) (b := 26) (dl_at 0 17 lb_X12_had_0 rfl) (dl_at 0 18 lb_X12_had_0 rfl) (dl_at 0 19 lb_X12_had_0 rfl) rfl
theorem dX12_had_20 : decode cX12_had 20 = .ok (.aload_n 0, 1) := dx_42 (dl_at 0 20 lb_X12_had_0 rfl)
theorem dX12_had_21 : decode cX12_had 21 = .ok (.getfield 279, 3) := dx_180 (a := 1) (b := 23) (dl_at 0 21 lb_X12_had_0 rfl) (dl_at 0 22 lb_X12_had_0 rfl) (dl_at 0 23 lb_X12_had_0 rfl) rfl
theorem dX12_had_24 : decode cX12_had 24 = .ok (.invokevirtual 103, 3) := dx_182 (a := 0) (b := 103) (dl_at 0 24 lb_X12_had_0 rfl) (dl_at 0 25 lb_X12_had_0 rfl) (dl_at 0 26 lb_X12_had_0 rfl) rfl
theorem dX12_had_27 : decode cX12_had 27 = .ok (.ireturn, 1) := dx_172 (dl_at 0 27 lb_X12_had_0 rfl)
theorem dX12_had_11 : decode cX12_had 11 = .ok (.iload_n 3, 1) := dx_29 (dl_at 0 11 lb_X12_had_0 rfl)
theorem dX12_had_12 : decode cX12_had 12 = .ok (.goto 15, 3) := dx_167 (a := 0) (b := 15) (dl_at 0 12 lb_X12_had_0 rfl) (dl_at 0 13 lb_X12_had_0 rfl) (dl_at 0 14 lb_X12_had_0 rfl) sg16_15
theorem lb_X12_sure_0 : dl_ck (cX12_sure.data.toList.drop 0) [42, 27, 28, 182, 1, 35, 62, 29, 156, 0, 7, 29, 167, 0, 18, 42, 180, 1, 23, 154, 0, 7, 3, 167, 0, 7, 42, 180, 1, 29, 172] = true := by decide +kernel
theorem dX12_sure_0 : decode cX12_sure 0 = .ok (.aload_n 0, 1) := dx_42 (dl_at 0 0 lb_X12_sure_0 rfl)
theorem dX12_sure_1 : decode cX12_sure 1 = .ok (.iload_n 1, 1) := dx_27 (dl_at 0 1 lb_X12_sure_0 rfl)
theorem dX12_sure_2 : decode cX12_sure 2 = .ok (.iload_n 2, 1) := dx_28 (dl_at 0 2 lb_X12_sure_0 rfl)
theorem dX12_sure_3 : decode cX12_sure 3 = .ok (.invokevirtual 291, 3) := dx_182 (a := 1) (b := 35) (dl_at 0 3 lb_X12_sure_0 rfl) (dl_at 0 4 lb_X12_sure_0 rfl) (dl_at 0 5 lb_X12_sure_0 rfl) rfl
theorem dX12_sure_6 : decode cX12_sure 6 = .ok (.istore_n 3, 1) := dx_62 (dl_at 0 6 lb_X12_sure_0 rfl)
theorem dX12_sure_7 : decode cX12_sure 7 = .ok (.iload_n 3, 1) := dx_29 (dl_at 0 7 lb_X12_sure_0 rfl)
theorem dX12_sure_8 : decode cX12_sure 8 = .ok (.ifCond .ge 7, 3) := dx_156 (a := 0) (b := 7) (dl_at 0 8 lb_X12_sure_0 rfl) (dl_at 0 9 lb_X12_sure_0 rfl) (dl_at 0 10 lb_X12_sure_0 rfl) sg16_7
theorem dX12_sure_15 : decode cX12_sure 15 = .ok (.aload_n 0, 1) := dx_42 (dl_at 0 15 lb_X12_sure_0 rfl)
theorem dX12_sure_16 : decode cX12_sure 16 = .ok (.getfield 279, 3) := dx_180 (a := 1) (b := 23) (dl_at 0 16 lb_X12_sure_0 rfl) (dl_at 0 17 lb_X12_sure_0 rfl) (dl_at 0 18 lb_X12_sure_0 rfl) rfl
theorem dX12_sure_19 : decode cX12_sure 19 = .ok (.ifCond .ne 7, 3) := dx_154 (a := 0) (b := 7) (dl_at 0 19 lb_X12_sure_0 rfl) (dl_at 0 20 lb_X12_sure_0 rfl) (dl_at 0 21 lb_X12_sure_0 rfl) sg16_7
theorem dX12_sure_26 : decode cX12_sure 26 = .ok (.aload_n 0, 1) := dx_42 (dl_at 0 26 lb_X12_sure_0 rfl)
theorem dX12_sure_27 : decode cX12_sure 27 = .ok (.getfield 285, 3) := dx_180 (a := 1) (b := 29) (dl_at 0 27 lb_X12_sure_0 rfl) (dl_at 0 28 lb_X12_sure_0 rfl) (dl_at 0 29 lb_X12_sure_0 rfl) rfl
theorem dX12_sure_30 : decode cX12_sure 30 = .ok (.ireturn, 1) := dx_172 (dl_at 0 30 lb_X12_sure_0 rfl)
theorem dX12_sure_22 : decode cX12_sure 22 = .ok (.iconst 0, 1) := dx_3 (dl_at 0 22 lb_X12_sure_0 rfl)
theorem dX12_sure_23 : decode cX12_sure 23 = .ok (.goto 7, 3) := dx_167 (a := 0) (b := 7) (dl_at 0 23 lb_X12_sure_0 rfl) (dl_at 0 24 lb_X12_sure_0 rfl) (dl_at 0 25 lb_X12_sure_0 rfl) sg16_7
theorem dX12_sure_11 : decode cX12_sure 11 = .ok (.iload_n 3, 1) := dx_29 (dl_at 0 11 lb_X12_sure_0 rfl)
theorem dX12_sure_12 : decode cX12_sure 12 = .ok (.goto 18, 3) := dx_167 (a := 0) (b := 18) (dl_at 0 12 lb_X12_sure_0 rfl) (dl_at 0 13 lb_X12_sure_0 rfl) (dl_at 0 14 lb_X12_sure_0 rfl) sg16_18
theorem lb_X12_first_0 : dl_ck (cX12_first.data.toList.drop 0) [29, 184, 0, 81, 154, 0, 7, 2, 167, 0, 9, 42, 27, 28, 182, 1, 35, 54, 4, 21, 4, 156, 0, 6, 21, 4, 172, 42, 180, 1, 23, 154] = true := by decide +kernel
theorem lb_X12_first_1 : dl_ck (cX12_first.data.toList.drop 32) [0, 6, 16, 247, 172, 42, 180, 0, 13, 28, 46, 4, 96, 54, 5, 42, 29, 42, 180, 0, 58, 21, 5, 182, 1, 13, 21, 5, 172] = true := by decide +kernel
theorem dX12_first_0 : decode cX12_first 0 = .ok (.iload_n 3, 1) := dx_29 (dl_at 0 0 lb_X12_first_0 rfl)
theorem dX12_first_1 : decode cX12_first 1 = .ok (.invokestatic 81, 3) := dx_184 (a := 0) (b := 81) (dl_at 0 1 lb_X12_first_0 rfl) (dl_at 0 2 lb_X12_first_0 rfl) (dl_at 0 3 lb_X12_first_0 rfl) rfl
theorem dX12_first_4 : decode cX12_first 4 = .ok (.ifCond .ne 7, 3) := dx_154 (a := 0) (b := 7) (dl_at 0 4 lb_X12_first_0 rfl) (dl_at 0 5 lb_X12_first_0 rfl) (dl_at 0 6 lb_X12_first_0 rfl) sg16_7
theorem dX12_first_11 : decode cX12_first 11 = .ok (.aload_n 0, 1) := dx_42 (dl_at 0 11 lb_X12_first_0 rfl)
theorem dX12_first_12 : decode cX12_first 12 = .ok (.iload_n 1, 1) := dx_27 (dl_at 0 12 lb_X12_first_0 rfl)
theorem dX12_first_13 : decode cX12_first 13 = .ok (.iload_n 2, 1) := dx_28 (dl_at 0 13 lb_X12_first_0 rfl)
theorem dX12_first_14 : decode cX12_first 14 = .ok (.invokevirtual 291, 3) := dx_182 (a := 1) (b := 35) (dl_at 0 14 lb_X12_first_0 rfl) (dl_at 0 15 lb_X12_first_0 rfl) (dl_at 0 16 lb_X12_first_0 rfl) rfl
theorem dX12_first_17 : decode cX12_first 17 = .ok (.istore 4, 2) := dx_54 (dl_at 0 17 lb_X12_first_0 rfl) (dl_at 0 18 lb_X12_first_0 rfl)
theorem dX12_first_19 : decode cX12_first 19 = .ok (.iload 4, 2) := dx_21 (dl_at 0 19 lb_X12_first_0 rfl) (dl_at 0 20 lb_X12_first_0 rfl)
theorem dX12_first_21 : decode cX12_first 21 = .ok (.ifCond .ge 6, 3) := dx_156 (a := 0) (b := 6) (dl_at 0 21 lb_X12_first_0 rfl) (dl_at 0 22 lb_X12_first_0 rfl) (dl_at 0 23 lb_X12_first_0 rfl) sg16_6
theorem dX12_first_27 : decode cX12_first 27 = .ok (.aload_n 0, 1) := dx_42 (dl_at 0 27 lb_X12_first_0 rfl)
theorem dX12_first_28 : decode cX12_first 28 = .ok (.getfield 279, 3) := dx_180 (a := 1) (b := 23) (dl_at 0 28 lb_X12_first_0 rfl) (dl_at 0 29 lb_X12_first_0 rfl) (dl_at 0 30 lb_X12_first_0 rfl) rfl
theorem dX12_first_31 : decode cX12_first 31 = .ok (.ifCond .ne 6, 3) := dx_154 (a := 0) (b := 6) (dl_at 0 31 lb_X12_first_0 rfl) (dl_at 32 0 lb_X12_first_1 rfl) (dl_at 32 1 lb_X12_first_1 rfl) sg16_6
theorem dX12_first_37 : decode cX12_first 37 = .ok (.aload_n 0, 1) := dx_42 (dl_at 32 5 lb_X12_first_1 rfl)
theorem dX12_first_38 : decode cX12_first 38 = .ok (.getfield 13, 3) := dx_180 (a := 0) (b := 13) (dl_at 32 6 lb_X12_first_1 rfl) (dl_at 32 7 lb_X12_first_1 rfl) (dl_at 32 8 lb_X12_first_1 rfl) rfl
theorem dX12_first_41 : decode cX12_first 41 = .ok (.iload_n 2, 1) := dx_28 (dl_at 32 9 lb_X12_first_1 rfl)
theorem dX12_first_42 : decode cX12_first 42 = .ok (.iaload, 1) := dx_46 (dl_at 32 10 lb_X12_first_1 rfl)
theorem dX12_first_43 : decode cX12_first 43 = .ok (.iconst 1, 1) := dx_4 (dl_at 32 11 lb_X12_first_1 rfl)
theorem dX12_first_44 : decode cX12_first 44 = .ok (.iadd, 1) := dx_96 (dl_at 32 12 lb_X12_first_1 rfl)
theorem dX12_first_45 : decode cX12_first 45 = .ok (.istore 5, 2) := dx_54 (dl_at 32 13 lb_X12_first_1 rfl) (dl_at 32 14 lb_X12_first_1 rfl)
theorem dX12_first_47 : decode cX12_first 47 = .ok (.aload_n 0, 1) := dx_42 (dl_at 32 15 lb_X12_first_1 rfl)
theorem dX12_first_48 : decode cX12_first 48 = .ok (.iload_n 3, 1) := dx_29 (dl_at 32 16 lb_X12_first_1 rfl)
theorem dX12_first_49 : decode cX12_first 49 = .ok (.aload_n 0, 1) := dx_42 (dl_at 32 17 lb_X12_first_1 rfl)
theorem dX12_first_50 : decode cX12_first 50 = .ok (.getfield 58, 3) := dx_180 (a := 0) (b := 58) (dl_at 32 18 lb_X12_first_1 rfl) (dl_at 32 19 lb_X12_first_1 rfl) (dl_at 32 20 lb_X12_first_1 rfl) rfl
theorem dX12_first_53 : decode cX12_first 53 = .ok (.iload 5, 2) := dx_21 (dl_at 32 21 lb_X12_first_1 rfl) (dl_at 32 22 lb_X12_first_1 rfl)
theorem dX12_first_55 : decode cX12_first 55 = .ok (.invokevirtual 269, 3) := dx_182 (a := 1) (b := 13) (dl_at 32 23 lb_X12_first_1 rfl) (dl_at 32 24 lb_X12_first_1 rfl) (dl_at 32 25 lb_X12_first_1 rfl) rfl
theorem dX12_first_58 : decode cX12_first 58 = .ok (.iload 5, 2) := dx_21 (dl_at 32 26 lb_X12_first_1 rfl) (dl_at 32 27 lb_X12_first_1 rfl)
theorem dX12_first_60 : decode cX12_first 60 = .ok (.ireturn, 1) := dx_172 (dl_at 32 28 lb_X12_first_1 rfl)
theorem dX12_first_34 : decode cX12_first 34 = .ok (.bipush (-9), 2) := dx_16 (dl_at 32 2 lb_X12_first_1 rfl) (dl_at 32 3 lb_X12_first_1 rfl) sg8_247
theorem dX12_first_36 : decode cX12_first 36 = .ok (.ireturn, 1) := dx_172 (dl_at 32 4 lb_X12_first_1 rfl)
theorem dX12_first_24 : decode cX12_first 24 = .ok (.iload 4, 2) := dx_21 (dl_at 0 24 lb_X12_first_0 rfl) (dl_at 0 25 lb_X12_first_0 rfl)
theorem dX12_first_26 : decode cX12_first 26 = .ok (.ireturn, 1) := dx_172 (dl_at 0 26 lb_X12_first_0 rfl)
theorem dX12_first_7 : decode cX12_first 7 = .ok (.iconst (-1), 1) := dx_2 (dl_at 0 7 lb_X12_first_0 rfl)
theorem dX12_first_8 : decode cX12_first 8 = .ok (.goto 9, 3) := dx_167 (a := 0) (b := 9) (dl_at 0 8 lb_X12_first_0 rfl) (dl_at 0 9 lb_X12_first_0 rfl) (dl_at 0 10 lb_X12_first_0 rfl) sg16_9
