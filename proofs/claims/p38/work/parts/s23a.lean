theorem mw_2_107 : (Cond.fieldLink RX1 18 "DearLetters$Fits" "all" "I" : Cond) ∈ lw_good := lg_at 2 107 rfl rfl
theorem mw_2_109 : (Cond.fieldLink RX1 22 "DearLetters$Fits" "lasts" "I" : Cond) ∈ lw_good := lg_at 2 109 rfl rfl
theorem mw_2_111 : (Cond.fieldLink RX1 25 "DearLetters$Fits" "inEach" "I" : Cond) ∈ lw_good := lg_at 2 111 rfl rfl
theorem mw_2_104 : (Cond.fieldLink RX1 9 "DearLetters$Fits" "walk" "[I" : Cond) ∈ lw_good := lg_at 2 104 rfl rfl
theorem mw_2_105 : (Cond.fieldLink RX1 15 "DearLetters$Fits" "firstRow" "[I" : Cond) ∈ lw_good := lg_at 2 105 rfl rfl
theorem mw_4_175 : (Cond.methodLink RX1 72 arraycopyName : Cond) ∈ lw_good := lg_at 4 175 rfl rfl
theorem mw_2_133 : (Cond.fieldLink RX1 32 "DearLetters$Row" "size" "I" : Cond) ∈ lw_good := lg_at 2 133 rfl rfl
theorem mw_1_144 : (Cond.fieldLink RX1 41 "DearLetters$Town" "kinds" "[I" : Cond) ∈ lw_good := lg_at 1 144 rfl rfl
theorem mw_2_131 : (Cond.fieldLink RX1 46 "DearLetters$Row" "places" "[I" : Cond) ∈ lw_good := lg_at 2 131 rfl rfl
theorem mw_1_155 : (Cond.fieldLink RX1 53 "DearLetters$Town" "now" "LDearLetters$Standing;" : Cond) ∈ lw_good := lg_at 1 155 rfl rfl
theorem mw_1_115 : (Cond.fieldLink RX1 57 "DearLetters$Standing" "snow" "I" : Cond) ∈ lw_good := lg_at 1 115 rfl rfl
theorem mw_4_177 : (Cond.methodLink RX1 62 yX10_near : Cond) ∈ lw_good := lg_at 4 177 rfl rfl
theorem mw_1_161 : (Cond.fieldLink RX1 65 "DearLetters$Town" "bearers" "I" : Cond) ∈ lw_good := lg_at 1 161 rfl rfl
theorem mw_4_174 : (Cond.code yX1_arrive cX1_arrive 4 none : Cond) ∈ lw_good := lg_at 4 174 rfl rfl
theorem mw_4_171 : (Cond.methodLink RX1 37 yX1_arrive : Cond) ∈ lw_good := lg_at 4 171 rfl rfl
theorem mw_4_173 : (Cond.instanceMethod yX1_arrive : Cond) ∈ lw_good := lg_at 4 173 rfl rfl
theorem mw_0_22 : (Cond.selects RX1 yX1_arrive yX1_arrive : Cond) ∈ lw_good := lg_at 0 22 rfl rfl
theorem mw_1_10 : (Cond.initialized RX1 : Cond) ∈ lw_good := lg_at 1 10 rfl rfl
theorem mw_4_170 : (Cond.code yX1_fitOn cX1_fitOn 10 none : Cond) ∈ lw_good := lg_at 4 170 rfl rfl
theorem mw_4_167 : (Cond.methodLink RX1 28 yX1_fitOn : Cond) ∈ lw_good := lg_at 4 167 rfl rfl
theorem mw_4_169 : (Cond.instanceMethod yX1_fitOn : Cond) ∈ lw_good := lg_at 4 169 rfl rfl
theorem mw_0_21 : (Cond.selects RX1 yX1_fitOn yX1_fitOn : Cond) ∈ lw_good := lg_at 0 21 rfl rfl
theorem hX_33_2 (cs : Nat → ClassId) (ad : Nat → Nat) (g : Nat → Int32) (v : Int32) : EX cs ad 33 (upd g 2 v) = .inr (1, [.ref (ad 59), .ref (ad 60), .int v, .int (g 3), .int (g 4)]) := by
  rfl
theorem tX_33_2 {mu : Nat → Nat → Int32} (ok : okR loX hiX mu) {nu : Nat → Nat → Int32} {v : Int32} (hn : va_up mu 33 (upd (mu 33) 2 v) = nu) : okR loX hiX nu := by
  subst hn
  exact okR_up ok 33 2 v (tI_lo v) (tI_hi v)
theorem hX_33_3 (cs : Nat → ClassId) (ad : Nat → Nat) (g : Nat → Int32) (v : Int32) : EX cs ad 33 (upd g 3 v) = .inr (1, [.ref (ad 59), .ref (ad 60), .int (g 2), .int v, .int (g 4)]) := by
  rfl
theorem tX_33_3 {mu : Nat → Nat → Int32} (ok : okR loX hiX mu) {nu : Nat → Nat → Int32} {v : Int32} (hn : va_up mu 33 (upd (mu 33) 3 v) = nu) : okR loX hiX nu := by
  subst hn
  exact okR_up ok 33 3 v (tI_lo v) (tI_hi v)
theorem hX_33_4 (cs : Nat → ClassId) (ad : Nat → Nat) (g : Nat → Int32) (v : Int32) : EX cs ad 33 (upd g 4 v) = .inr (1, [.ref (ad 59), .ref (ad 60), .int (g 2), .int (g 3), .int v]) := by
  rfl
theorem tX_33_4 {mu : Nat → Nat → Int32} (ok : okR loX hiX mu) {nu : Nat → Nat → Int32} {v : Int32} (hn : va_up mu 33 (upd (mu 33) 4 v) = nu) : okR loX hiX nu := by
  subst hn
  exact okR_up ok 33 4 v (tI_lo v) (tI_hi v)
theorem cX_59_60 {a b : Nat} : ∀ f, loX 60 f ≤ loX 59 (a + (f - b)) ∧ hiX 59 (a + (f - b)) ≤ hiX 60 f := fun f => by
  unfold loX hiX
  exact (show (-2147483648 : Int) ≤ 0 ∧ (6 : Int) ≤ 2147483647 by decide)
theorem rX_59_s {mu : Nat → Nat → Int32} (ok : okR loX hiX mu) (f : Nat) : 0 ≤ (mu 59 f).toInt ∧ (mu 59 f).toInt ≤ 6 := ok 59 f
theorem tX_59_s {mu : Nat → Nat → Int32} (ok : okR loX hiX mu) {nu : Nat → Nat → Int32} {v : Int32} (f : Nat) (hn : va_up mu 59 (upd (mu 59) f v) = nu) (hv : 0 ≤ v.toInt ∧ v.toInt ≤ 6) : okR loX hiX nu := by
  subst hn
  exact okR_up ok 59 f v hv.1 hv.2
theorem lb_X1_arrive_0 : dl_ck (cX1_arrive.data.toList.drop 0) [42, 180, 0, 18, 154, 0, 19, 42, 180, 0, 9, 3, 42, 180, 0, 15, 3, 28, 4, 96, 184, 0, 72, 42, 89, 180, 0, 18, 4, 96, 181, 0] = true := by decide +kernel
theorem lb_X1_arrive_1 : dl_ck (cX1_arrive.data.toList.drop 32) [18, 42, 89, 180, 0, 22, 4, 27, 120, 128, 181, 0, 22, 42, 89, 180, 0, 25, 29, 126, 181, 0, 25, 177] = true := by decide +kernel
theorem dX1_arrive_0 : decode cX1_arrive 0 = .ok (.aload_n 0, 1) := dx_42 (dl_at 0 0 lb_X1_arrive_0 rfl)
theorem dX1_arrive_1 : decode cX1_arrive 1 = .ok (.getfield 18, 3) := dx_180 (a := 0) (b := 18) (dl_at 0 1 lb_X1_arrive_0 rfl) (dl_at 0 2 lb_X1_arrive_0 rfl) (dl_at 0 3 lb_X1_arrive_0 rfl) rfl
theorem dX1_arrive_4 : decode cX1_arrive 4 = .ok (.ifCond .ne 19, 3) := dx_154 (a := 0) (b := 19) (dl_at 0 4 lb_X1_arrive_0 rfl) (dl_at 0 5 lb_X1_arrive_0 rfl) (dl_at 0 6 lb_X1_arrive_0 rfl) sg16_19
theorem dX1_arrive_23 : decode cX1_arrive 23 = .ok (.aload_n 0, 1) := dx_42 (dl_at 0 23 lb_X1_arrive_0 rfl)
theorem dX1_arrive_24 : decode cX1_arrive 24 = .ok (.dup, 1) := dx_89 (dl_at 0 24 lb_X1_arrive_0 rfl)
theorem dX1_arrive_25 : decode cX1_arrive 25 = .ok (.getfield 18, 3) := dx_180 (a := 0) (b := 18) (dl_at 0 25 lb_X1_arrive_0 rfl) (dl_at 0 26 lb_X1_arrive_0 rfl) (dl_at 0 27 lb_X1_arrive_0 rfl) rfl
theorem dX1_arrive_28 : decode cX1_arrive 28 = .ok (.iconst 1, 1) := dx_4 (dl_at 0 28 lb_X1_arrive_0 rfl)
theorem dX1_arrive_29 : decode cX1_arrive 29 = .ok (.iadd, 1) := dx_96 (dl_at 0 29 lb_X1_arrive_0 rfl)
theorem dX1_arrive_30 : decode cX1_arrive 30 = .ok (.putfield 18, 3) := dx_181 (a := 0) (b := 18) (dl_at 0 30 lb_X1_arrive_0 rfl) (dl_at 0 31 lb_X1_arrive_0 rfl) (dl_at 32 0 lb_X1_arrive_1 rfl) rfl
theorem dX1_arrive_33 : decode cX1_arrive 33 = .ok (.aload_n 0, 1) := dx_42 (dl_at 32 1 lb_X1_arrive_1 rfl)
theorem dX1_arrive_34 : decode cX1_arrive 34 = .ok (.dup, 1) := dx_89 (dl_at 32 2 lb_X1_arrive_1 rfl)
theorem dX1_arrive_35 : decode cX1_arrive 35 = .ok (.getfield 22, 3) := dx_180 (a := 0) (b := 22) (dl_at 32 3 lb_X1_arrive_1 rfl) (dl_at 32 4 lb_X1_arrive_1 rfl) (dl_at 32 5 lb_X1_arrive_1 rfl) rfl
theorem dX1_arrive_38 : decode cX1_arrive 38 = .ok (.iconst 1, 1) := dx_4 (dl_at 32 6 lb_X1_arrive_1 rfl)
theorem dX1_arrive_39 : decode cX1_arrive 39 = .ok (.iload_n 1, 1) := dx_27 (dl_at 32 7 lb_X1_arrive_1 rfl)
theorem dX1_arrive_40 : decode cX1_arrive 40 = .ok (.ishl, 1) := dx_120 (dl_at 32 8 lb_X1_arrive_1 rfl)
theorem dX1_arrive_41 : decode cX1_arrive 41 = .ok (.ior, 1) := dx_128 (dl_at 32 9 lb_X1_arrive_1 rfl)
theorem dX1_arrive_42 : decode cX1_arrive 42 = .ok (.putfield 22, 3) := dx_181 (a := 0) (b := 22) (dl_at 32 10 lb_X1_arrive_1 rfl) (dl_at 32 11 lb_X1_arrive_1 rfl) (dl_at 32 12 lb_X1_arrive_1 rfl) rfl
theorem dX1_arrive_45 : decode cX1_arrive 45 = .ok (.aload_n 0, 1) := dx_42 (dl_at 32 13 lb_X1_arrive_1 rfl)
theorem dX1_arrive_46 : decode cX1_arrive 46 = .ok (.dup, 1) := dx_89 (dl_at 32 14 lb_X1_arrive_1 rfl)
theorem dX1_arrive_47 : decode cX1_arrive 47 = .ok (.getfield 25, 3) := dx_180 (a := 0) (b := 25) (dl_at 32 15 lb_X1_arrive_1 rfl) (dl_at 32 16 lb_X1_arrive_1 rfl) (dl_at 32 17 lb_X1_arrive_1 rfl) rfl
theorem dX1_arrive_50 : decode cX1_arrive 50 = .ok (.iload_n 3, 1) := dx_29 (dl_at 32 18 lb_X1_arrive_1 rfl)
theorem dX1_arrive_51 : decode cX1_arrive 51 = .ok (.iand, 1) := dx_126 (dl_at 32 19 lb_X1_arrive_1 rfl)
theorem dX1_arrive_52 : decode cX1_arrive 52 = .ok (.putfield 25, 3) := dx_181 (a := 0) (b := 25) (dl_at 32 20 lb_X1_arrive_1 rfl) (dl_at 32 21 lb_X1_arrive_1 rfl) (dl_at 32 22 lb_X1_arrive_1 rfl) rfl
theorem dX1_arrive_55 : decode cX1_arrive 55 = .ok (.return_, 1) := dx_177 (dl_at 32 23 lb_X1_arrive_1 rfl)
theorem dX1_arrive_7 : decode cX1_arrive 7 = .ok (.aload_n 0, 1) := dx_42 (dl_at 0 7 lb_X1_arrive_0 rfl)
theorem dX1_arrive_8 : decode cX1_arrive 8 = .ok (.getfield 9, 3) := dx_180 (a := 0) (b := 9) (dl_at 0 8 lb_X1_arrive_0 rfl) (dl_at 0 9 lb_X1_arrive_0 rfl) (dl_at 0 10 lb_X1_arrive_0 rfl) rfl
theorem dX1_arrive_11 : decode cX1_arrive 11 = .ok (.iconst 0, 1) := dx_3 (dl_at 0 11 lb_X1_arrive_0 rfl)
theorem dX1_arrive_12 : decode cX1_arrive 12 = .ok (.aload_n 0, 1) := dx_42 (dl_at 0 12 lb_X1_arrive_0 rfl)
theorem dX1_arrive_13 : decode cX1_arrive 13 = .ok (.getfield 15, 3) := dx_180 (a := 0) (b := 15) (dl_at 0 13 lb_X1_arrive_0 rfl) (dl_at 0 14 lb_X1_arrive_0 rfl) (dl_at 0 15 lb_X1_arrive_0 rfl) rfl
theorem dX1_arrive_16 : decode cX1_arrive 16 = .ok (.iconst 0, 1) := dx_3 (dl_at 0 16 lb_X1_arrive_0 rfl)
theorem dX1_arrive_17 : decode cX1_arrive 17 = .ok (.iload_n 2, 1) := dx_28 (dl_at 0 17 lb_X1_arrive_0 rfl)
theorem dX1_arrive_18 : decode cX1_arrive 18 = .ok (.iconst 1, 1) := dx_4 (dl_at 0 18 lb_X1_arrive_0 rfl)
theorem dX1_arrive_19 : decode cX1_arrive 19 = .ok (.iadd, 1) := dx_96 (dl_at 0 19 lb_X1_arrive_0 rfl)
theorem dX1_arrive_20 : decode cX1_arrive 20 = .ok (.invokestatic 72, 3) := dx_184 (a := 0) (b := 72) (dl_at 0 20 lb_X1_arrive_0 rfl) (dl_at 0 21 lb_X1_arrive_0 rfl) (dl_at 0 22 lb_X1_arrive_0 rfl) rfl
theorem lb_X1_fitOn_0 : dl_ck (cX1_fitOn.data.toList.drop 0) [42, 180, 0, 9, 29, 46, 54, 6, 29, 44, 180, 0, 32, 161, 0, 13, 42, 21, 6, 29, 21, 4, 182, 0, 37, 177, 43, 180, 0, 41, 21, 6] = true := by decide +kernel
theorem lb_X1_fitOn_1 : dl_ck (cX1_fitOn.data.toList.drop 32) [46, 6, 159, 0, 24, 44, 180, 0, 46, 29, 46, 43, 180, 0, 41, 21, 6, 46, 21, 5, 184, 0, 49, 159, 0, 4, 177, 43, 21, 6, 43, 180] = true := by decide +kernel
theorem lb_X1_fitOn_2 : dl_ck (cX1_fitOn.data.toList.drop 64) [0, 53, 180, 0, 57, 182, 0, 62, 21, 4, 2, 130, 126, 54, 7, 29, 4, 96, 54, 8, 3, 54, 9, 21, 9, 43, 180, 0, 65, 162, 0, 56] = true := by decide +kernel
theorem lb_X1_fitOn_3 : dl_ck (cX1_fitOn.data.toList.drop 96) [21, 8, 16, 7, 162, 0, 49, 21, 7, 21, 9, 184, 0, 68, 153, 0, 33, 42, 180, 0, 9, 21, 8, 21, 9, 79, 42, 43, 44, 21, 8, 21] = true := by decide +kernel
theorem lb_X1_fitOn_4 : dl_ck (cX1_fitOn.data.toList.drop 128) [4, 4, 21, 9, 120, 128, 44, 180, 0, 46, 29, 46, 182, 0, 28, 132, 9, 1, 167, 255, 197, 177] = true := by decide +kernel
theorem dX1_fitOn_0 : decode cX1_fitOn 0 = .ok (.aload_n 0, 1) := dx_42 (dl_at 0 0 lb_X1_fitOn_0 rfl)
theorem dX1_fitOn_1 : decode cX1_fitOn 1 = .ok (.getfield 9, 3) := dx_180 (a := 0) (b := 9) (dl_at 0 1 lb_X1_fitOn_0 rfl) (dl_at 0 2 lb_X1_fitOn_0 rfl) (dl_at 0 3 lb_X1_fitOn_0 rfl) rfl
theorem dX1_fitOn_4 : decode cX1_fitOn 4 = .ok (.iload_n 3, 1) := dx_29 (dl_at 0 4 lb_X1_fitOn_0 rfl)
theorem dX1_fitOn_5 : decode cX1_fitOn 5 = .ok (.iaload, 1) := dx_46 (dl_at 0 5 lb_X1_fitOn_0 rfl)
theorem dX1_fitOn_6 : decode cX1_fitOn 6 = .ok (.istore 6, 2) := dx_54 (dl_at 0 6 lb_X1_fitOn_0 rfl) (dl_at 0 7 lb_X1_fitOn_0 rfl)
theorem dX1_fitOn_8 : decode cX1_fitOn 8 = .ok (.iload_n 3, 1) := dx_29 (dl_at 0 8 lb_X1_fitOn_0 rfl)
theorem dX1_fitOn_9 : decode cX1_fitOn 9 = .ok (.aload_n 2, 1) := dx_44 (dl_at 0 9 lb_X1_fitOn_0 rfl)
theorem dX1_fitOn_10 : decode cX1_fitOn 10 = .ok (.getfield 32, 3) := dx_180 (a := 0) (b := 32) (dl_at 0 10 lb_X1_fitOn_0 rfl) (dl_at 0 11 lb_X1_fitOn_0 rfl) (dl_at 0 12 lb_X1_fitOn_0 rfl) rfl
theorem dX1_fitOn_13 : decode cX1_fitOn 13 = .ok (.if_icmp .lt 13, 3) := dx_161 (a := 0) (b := 13) (dl_at 0 13 lb_X1_fitOn_0 rfl) (dl_at 0 14 lb_X1_fitOn_0 rfl) (dl_at 0 15 lb_X1_fitOn_0 rfl) sg16_13
theorem dX1_fitOn_26 : decode cX1_fitOn 26 = .ok (.aload_n 1, 1) := dx_43 (dl_at 0 26 lb_X1_fitOn_0 rfl)
theorem dX1_fitOn_27 : decode cX1_fitOn 27 = .ok (.getfield 41, 3) := dx_180 (a := 0) (b := 41) (dl_at 0 27 lb_X1_fitOn_0 rfl) (dl_at 0 28 lb_X1_fitOn_0 rfl) (dl_at 0 29 lb_X1_fitOn_0 rfl) rfl
theorem dX1_fitOn_30 : decode cX1_fitOn 30 = .ok (.iload 6, 2) := dx_21 (dl_at 0 30 lb_X1_fitOn_0 rfl) (dl_at 0 31 lb_X1_fitOn_0 rfl)
theorem dX1_fitOn_32 : decode cX1_fitOn 32 = .ok (.iaload, 1) := dx_46 (dl_at 32 0 lb_X1_fitOn_1 rfl)
theorem dX1_fitOn_33 : decode cX1_fitOn 33 = .ok (.iconst 3, 1) := dx_6 (dl_at 32 1 lb_X1_fitOn_1 rfl)
theorem dX1_fitOn_34 : decode cX1_fitOn 34 = .ok (.if_icmp .eq 24, 3) := dx_159 (a := 0) (b := 24) (dl_at 32 2 lb_X1_fitOn_1 rfl) (dl_at 32 3 lb_X1_fitOn_1 rfl) (dl_at 32 4 lb_X1_fitOn_1 rfl) sg16_24
theorem dX1_fitOn_58 : decode cX1_fitOn 58 = .ok (.return_, 1) := dx_177 (dl_at 32 26 lb_X1_fitOn_1 rfl)
theorem dX1_fitOn_37 : decode cX1_fitOn 37 = .ok (.aload_n 2, 1) := dx_44 (dl_at 32 5 lb_X1_fitOn_1 rfl)
theorem dX1_fitOn_38 : decode cX1_fitOn 38 = .ok (.getfield 46, 3) := dx_180 (a := 0) (b := 46) (dl_at 32 6 lb_X1_fitOn_1 rfl) (dl_at 32 7 lb_X1_fitOn_1 rfl) (dl_at 32 8 lb_X1_fitOn_1 rfl) rfl
theorem dX1_fitOn_41 : decode cX1_fitOn 41 = .ok (.iload_n 3, 1) := dx_29 (dl_at 32 9 lb_X1_fitOn_1 rfl)
theorem dX1_fitOn_42 : decode cX1_fitOn 42 = .ok (.iaload, 1) := dx_46 (dl_at 32 10 lb_X1_fitOn_1 rfl)
theorem dX1_fitOn_43 : decode cX1_fitOn 43 = .ok (.aload_n 1, 1) := dx_43 (dl_at 32 11 lb_X1_fitOn_1 rfl)
theorem dX1_fitOn_44 : decode cX1_fitOn 44 = .ok (.getfield 41, 3) := dx_180 (a := 0) (b := 41) (dl_at 32 12 lb_X1_fitOn_1 rfl) (dl_at 32 13 lb_X1_fitOn_1 rfl) (dl_at 32 14 lb_X1_fitOn_1 rfl) rfl
theorem dX1_fitOn_47 : decode cX1_fitOn 47 = .ok (.iload 6, 2) := dx_21 (dl_at 32 15 lb_X1_fitOn_1 rfl) (dl_at 32 16 lb_X1_fitOn_1 rfl)
theorem dX1_fitOn_49 : decode cX1_fitOn 49 = .ok (.iaload, 1) := dx_46 (dl_at 32 17 lb_X1_fitOn_1 rfl)
theorem dX1_fitOn_50 : decode cX1_fitOn 50 = .ok (.iload 5, 2) := dx_21 (dl_at 32 18 lb_X1_fitOn_1 rfl) (dl_at 32 19 lb_X1_fitOn_1 rfl)
theorem dX1_fitOn_52 : decode cX1_fitOn 52 = .ok (.invokestatic 49, 3) := dx_184 (a := 0) (b := 49) (dl_at 32 20 lb_X1_fitOn_1 rfl) (dl_at 32 21 lb_X1_fitOn_1 rfl) (dl_at 32 22 lb_X1_fitOn_1 rfl) rfl
theorem dX1_fitOn_55 : decode cX1_fitOn 55 = .ok (.if_icmp .eq 4, 3) := dx_159 (a := 0) (b := 4) (dl_at 32 23 lb_X1_fitOn_1 rfl) (dl_at 32 24 lb_X1_fitOn_1 rfl) (dl_at 32 25 lb_X1_fitOn_1 rfl) sg16_4
theorem dX1_fitOn_59 : decode cX1_fitOn 59 = .ok (.aload_n 1, 1) := dx_43 (dl_at 32 27 lb_X1_fitOn_1 rfl)
theorem dX1_fitOn_60 : decode cX1_fitOn 60 = .ok (.iload 6, 2) := dx_21 (dl_at 32 28 lb_X1_fitOn_1 rfl) (dl_at 32 29 lb_X1_fitOn_1 rfl)
theorem dX1_fitOn_62 : decode cX1_fitOn 62 = .ok (.aload_n 1, 1) := dx_43 (dl_at 32 30 lb_X1_fitOn_1 rfl)
theorem dX1_fitOn_63 : decode cX1_fitOn 63 = .ok (.getfield 53, 3) := dx_180 (a := 0) (b := 53) (dl_at 32 31 lb_X1_fitOn_1 rfl) (dl_at 64 0 lb_X1_fitOn_2 rfl) (dl_at 64 1 lb_X1_fitOn_2 rfl) rfl
theorem dX1_fitOn_66 : decode cX1_fitOn 66 = .ok (.getfield 57, 3) := dx_180 (a := 0) (b := 57) (dl_at 64 2 lb_X1_fitOn_2 rfl) (dl_at 64 3 lb_X1_fitOn_2 rfl) (dl_at 64 4 lb_X1_fitOn_2 rfl) rfl
theorem dX1_fitOn_69 : decode cX1_fitOn 69 = .ok (.invokevirtual 62, 3) := dx_182 (a := 0) (b := 62) (dl_at 64 5 lb_X1_fitOn_2 rfl) (dl_at 64 6 lb_X1_fitOn_2 rfl) (dl_at 64 7 lb_X1_fitOn_2 rfl) rfl
theorem dX1_fitOn_72 : decode cX1_fitOn 72 = .ok (.iload 4, 2) := dx_21 (dl_at 64 8 lb_X1_fitOn_2 rfl) (dl_at 64 9 lb_X1_fitOn_2 rfl)
theorem dX1_fitOn_74 : decode cX1_fitOn 74 = .ok (.iconst (-1), 1) := dx_2 (dl_at 64 10 lb_X1_fitOn_2 rfl)
theorem dX1_fitOn_75 : decode cX1_fitOn 75 = .ok (.ixor, 1) := dx_130 (dl_at 64 11 lb_X1_fitOn_2 rfl)
theorem dX1_fitOn_76 : decode cX1_fitOn 76 = .ok (.iand, 1) := dx_126 (dl_at 64 12 lb_X1_fitOn_2 rfl)
theorem dX1_fitOn_77 : decode cX1_fitOn 77 = .ok (.istore 7, 2) := dx_54 (dl_at 64 13 lb_X1_fitOn_2 rfl) (dl_at 64 14 lb_X1_fitOn_2 rfl)
theorem dX1_fitOn_79 : decode cX1_fitOn 79 = .ok (.iload_n 3, 1) := dx_29 (dl_at 64 15 lb_X1_fitOn_2 rfl)
theorem dX1_fitOn_80 : decode cX1_fitOn 80 = .ok (.iconst 1, 1) := dx_4 (dl_at 64 16 lb_X1_fitOn_2 rfl)
theorem dX1_fitOn_81 : decode cX1_fitOn 81 = .ok (.iadd, 1) := dx_96 (dl_at 64 17 lb_X1_fitOn_2 rfl)
theorem dX1_fitOn_82 : decode cX1_fitOn 82 = .ok (.istore 8, 2) := dx_54 (dl_at 64 18 lb_X1_fitOn_2 rfl) (dl_at 64 19 lb_X1_fitOn_2 rfl)
theorem dX1_fitOn_84 : decode cX1_fitOn 84 = .ok (.iconst 0, 1) := dx_3 (dl_at 64 20 lb_X1_fitOn_2 rfl)
theorem dX1_fitOn_85 : decode cX1_fitOn 85 = .ok (.istore 9, 2) := dx_54 (dl_at 64 21 lb_X1_fitOn_2 rfl) (dl_at 64 22 lb_X1_fitOn_2 rfl)
theorem dX1_fitOn_87 : decode cX1_fitOn 87 = .ok (.iload 9, 2) := dx_21 (dl_at 64 23 lb_X1_fitOn_2 rfl) (dl_at 64 24 lb_X1_fitOn_2 rfl)
theorem dX1_fitOn_89 : decode cX1_fitOn 89 = .ok (.aload_n 1, 1) := dx_43 (dl_at 64 25 lb_X1_fitOn_2 rfl)
theorem dX1_fitOn_90 : decode cX1_fitOn 90 = .ok (.getfield 65, 3) := dx_180 (a := 0) (b := 65) (dl_at 64 26 lb_X1_fitOn_2 rfl) (dl_at 64 27 lb_X1_fitOn_2 rfl) (dl_at 64 28 lb_X1_fitOn_2 rfl) rfl
theorem dX1_fitOn_93 : decode cX1_fitOn 93 = .ok (.if_icmp .ge 56, 3) := dx_162 (a := 0) (b := 56) (dl_at 64 29 lb_X1_fitOn_2 rfl) (dl_at 64 30 lb_X1_fitOn_2 rfl) (dl_at 64 31 lb_X1_fitOn_2 rfl) sg16_56
theorem dX1_fitOn_149 : decode cX1_fitOn 149 = .ok (.return_, 1) := dx_177 (dl_at 128 21 lb_X1_fitOn_4 rfl)
theorem dX1_fitOn_96 : decode cX1_fitOn 96 = .ok (.iload 8, 2) := dx_21 (dl_at 96 0 lb_X1_fitOn_3 rfl) (dl_at 96 1 lb_X1_fitOn_3 rfl)
theorem dX1_fitOn_98 : decode cX1_fitOn 98 = .ok (.bipush 7, 2) := dx_16 (dl_at 96 2 lb_X1_fitOn_3 rfl) (dl_at 96 3 lb_X1_fitOn_3 rfl) sg8_7
theorem dX1_fitOn_100 : decode cX1_fitOn 100 = .ok (.if_icmp .ge 49, 3) := dx_162 (a := 0) (b := 49) (dl_at 96 4 lb_X1_fitOn_3 rfl) (dl_at 96 5 lb_X1_fitOn_3 rfl) (dl_at 96 6 lb_X1_fitOn_3 rfl) sg16_49
theorem dX1_fitOn_16 : decode cX1_fitOn 16 = .ok (.aload_n 0, 1) := dx_42 (dl_at 0 16 lb_X1_fitOn_0 rfl)
theorem dX1_fitOn_17 : decode cX1_fitOn 17 = .ok (.iload 6, 2) := dx_21 (dl_at 0 17 lb_X1_fitOn_0 rfl) (dl_at 0 18 lb_X1_fitOn_0 rfl)
theorem dX1_fitOn_19 : decode cX1_fitOn 19 = .ok (.iload_n 3, 1) := dx_29 (dl_at 0 19 lb_X1_fitOn_0 rfl)
theorem dX1_fitOn_20 : decode cX1_fitOn 20 = .ok (.iload 4, 2) := dx_21 (dl_at 0 20 lb_X1_fitOn_0 rfl) (dl_at 0 21 lb_X1_fitOn_0 rfl)
theorem dX1_fitOn_22 : decode cX1_fitOn 22 = .ok (.invokevirtual 37, 3) := dx_182 (a := 0) (b := 37) (dl_at 0 22 lb_X1_fitOn_0 rfl) (dl_at 0 23 lb_X1_fitOn_0 rfl) (dl_at 0 24 lb_X1_fitOn_0 rfl) rfl
theorem dX1_fitOn_25 : decode cX1_fitOn 25 = .ok (.return_, 1) := dx_177 (dl_at 0 25 lb_X1_fitOn_0 rfl)
theorem dX1_fitOn_103 : decode cX1_fitOn 103 = .ok (.iload 7, 2) := dx_21 (dl_at 96 7 lb_X1_fitOn_3 rfl) (dl_at 96 8 lb_X1_fitOn_3 rfl)
theorem dX1_fitOn_105 : decode cX1_fitOn 105 = .ok (.iload 9, 2) := dx_21 (dl_at 96 9 lb_X1_fitOn_3 rfl) (dl_at 96 10 lb_X1_fitOn_3 rfl)
theorem dX1_fitOn_107 : decode cX1_fitOn 107 = .ok (.invokestatic 68, 3) := dx_184 (a := 0) (b := 68) (dl_at 96 11 lb_X1_fitOn_3 rfl) (dl_at 96 12 lb_X1_fitOn_3 rfl) (dl_at 96 13 lb_X1_fitOn_3 rfl) rfl
theorem dX1_fitOn_110 : decode cX1_fitOn 110 = .ok (.ifCond .eq 33, 3) := dx_153 (a := 0) (b := 33) (dl_at 96 14 lb_X1_fitOn_3 rfl) (dl_at 96 15 lb_X1_fitOn_3 rfl) (dl_at 96 16 lb_X1_fitOn_3 rfl) sg16_33
theorem dX1_fitOn_143 : decode cX1_fitOn 143 = .ok (.iinc 9 1, 3) := dx_132 (dl_at 128 15 lb_X1_fitOn_4 rfl) (dl_at 128 16 lb_X1_fitOn_4 rfl) (dl_at 128 17 lb_X1_fitOn_4 rfl) sg8_1
theorem dX1_fitOn_146 : decode cX1_fitOn 146 = .ok (.goto (-59), 3) := dx_167 (a := 255) (b := 197) (dl_at 128 18 lb_X1_fitOn_4 rfl) (dl_at 128 19 lb_X1_fitOn_4 rfl) (dl_at 128 20 lb_X1_fitOn_4 rfl) sg16_65477
theorem dX1_fitOn_113 : decode cX1_fitOn 113 = .ok (.aload_n 0, 1) := dx_42 (dl_at 96 17 lb_X1_fitOn_3 rfl)
theorem dX1_fitOn_114 : decode cX1_fitOn 114 = .ok (.getfield 9, 3) := dx_180 (a := 0) (b := 9) (dl_at 96 18 lb_X1_fitOn_3 rfl) (dl_at 96 19 lb_X1_fitOn_3 rfl) (dl_at 96 20 lb_X1_fitOn_3 rfl) rfl
theorem dX1_fitOn_117 : decode cX1_fitOn 117 = .ok (.iload 8, 2) := dx_21 (dl_at 96 21 lb_X1_fitOn_3 rfl) (dl_at 96 22 lb_X1_fitOn_3 rfl)
theorem dX1_fitOn_119 : decode cX1_fitOn 119 = .ok (.iload 9, 2) := dx_21 (dl_at 96 23 lb_X1_fitOn_3 rfl) (dl_at 96 24 lb_X1_fitOn_3 rfl)
theorem dX1_fitOn_121 : decode cX1_fitOn 121 = .ok (.iastore, 1) := dx_79 (dl_at 96 25 lb_X1_fitOn_3 rfl)
theorem dX1_fitOn_122 : decode cX1_fitOn 122 = .ok (.aload_n 0, 1) := dx_42 (dl_at 96 26 lb_X1_fitOn_3 rfl)
theorem dX1_fitOn_123 : decode cX1_fitOn 123 = .ok (.aload_n 1, 1) := dx_43 (dl_at 96 27 lb_X1_fitOn_3 rfl)
theorem dX1_fitOn_124 : decode cX1_fitOn 124 = .ok (.aload_n 2, 1) := dx_44 (dl_at 96 28 lb_X1_fitOn_3 rfl)
theorem dX1_fitOn_125 : decode cX1_fitOn 125 = .ok (.iload 8, 2) := dx_21 (dl_at 96 29 lb_X1_fitOn_3 rfl) (dl_at 96 30 lb_X1_fitOn_3 rfl)
theorem dX1_fitOn_127 : decode cX1_fitOn 127 = .ok (.iload 4, 2) := dx_21 (dl_at 96 31 lb_X1_fitOn_3 rfl) (dl_at 128 0 lb_X1_fitOn_4 rfl)
theorem dX1_fitOn_129 : decode cX1_fitOn 129 = .ok (.iconst 1, 1) := dx_4 (dl_at 128 1 lb_X1_fitOn_4 rfl)
theorem dX1_fitOn_130 : decode cX1_fitOn 130 = .ok (.iload 9, 2) := dx_21 (dl_at 128 2 lb_X1_fitOn_4 rfl) (dl_at 128 3 lb_X1_fitOn_4 rfl)
theorem dX1_fitOn_132 : decode cX1_fitOn 132 = .ok (.ishl, 1) := dx_120 (dl_at 128 4 lb_X1_fitOn_4 rfl)
theorem dX1_fitOn_133 : decode cX1_fitOn 133 = .ok (.ior, 1) := dx_128 (dl_at 128 5 lb_X1_fitOn_4 rfl)
theorem dX1_fitOn_134 : decode cX1_fitOn 134 = .ok (.aload_n 2, 1) := dx_44 (dl_at 128 6 lb_X1_fitOn_4 rfl)
theorem dX1_fitOn_135 : decode cX1_fitOn 135 = .ok (.getfield 46, 3) := dx_180 (a := 0) (b := 46) (dl_at 128 7 lb_X1_fitOn_4 rfl) (dl_at 128 8 lb_X1_fitOn_4 rfl) (dl_at 128 9 lb_X1_fitOn_4 rfl) rfl
theorem dX1_fitOn_138 : decode cX1_fitOn 138 = .ok (.iload_n 3, 1) := dx_29 (dl_at 128 10 lb_X1_fitOn_4 rfl)
theorem dX1_fitOn_139 : decode cX1_fitOn 139 = .ok (.iaload, 1) := dx_46 (dl_at 128 11 lb_X1_fitOn_4 rfl)
theorem dX1_fitOn_140 : decode cX1_fitOn 140 = .ok (.invokevirtual 28, 3) := dx_182 (a := 0) (b := 28) (dl_at 128 12 lb_X1_fitOn_4 rfl) (dl_at 128 13 lb_X1_fitOn_4 rfl) (dl_at 128 14 lb_X1_fitOn_4 rfl) rfl
theorem lb_X1_search_0 : dl_ck (cX1_search.data.toList.drop 0) [42, 3, 181, 0, 18, 42, 3, 181, 0, 22, 42, 2, 181, 0, 25, 42, 180, 0, 9, 3, 28, 79, 42, 43, 45, 3, 4, 28, 120, 3, 182, 0] = true := by decide +kernel
theorem lb_X1_search_1 : dl_ck (cX1_search.data.toList.drop 32) [28, 177] = true := by decide +kernel
theorem dX1_search_0 : decode cX1_search 0 = .ok (.aload_n 0, 1) := dx_42 (dl_at 0 0 lb_X1_search_0 rfl)
theorem dX1_search_1 : decode cX1_search 1 = .ok (.iconst 0, 1) := dx_3 (dl_at 0 1 lb_X1_search_0 rfl)
theorem dX1_search_2 : decode cX1_search 2 = .ok (.putfield 18, 3) := dx_181 (a := 0) (b := 18) (dl_at 0 2 lb_X1_search_0 rfl) (dl_at 0 3 lb_X1_search_0 rfl) (dl_at 0 4 lb_X1_search_0 rfl) rfl
theorem dX1_search_5 : decode cX1_search 5 = .ok (.aload_n 0, 1) := dx_42 (dl_at 0 5 lb_X1_search_0 rfl)
theorem dX1_search_6 : decode cX1_search 6 = .ok (.iconst 0, 1) := dx_3 (dl_at 0 6 lb_X1_search_0 rfl)
theorem dX1_search_7 : decode cX1_search 7 = .ok (.putfield 22, 3) := dx_181 (a := 0) (b := 22) (dl_at 0 7 lb_X1_search_0 rfl) (dl_at 0 8 lb_X1_search_0 rfl) (dl_at 0 9 lb_X1_search_0 rfl) rfl
theorem dX1_search_10 : decode cX1_search 10 = .ok (.aload_n 0, 1) := dx_42 (dl_at 0 10 lb_X1_search_0 rfl)
theorem dX1_search_11 : decode cX1_search 11 = .ok (.iconst (-1), 1) := dx_2 (dl_at 0 11 lb_X1_search_0 rfl)
theorem dX1_search_12 : decode cX1_search 12 = .ok (.putfield 25, 3) := dx_181 (a := 0) (b := 25) (dl_at 0 12 lb_X1_search_0 rfl) (dl_at 0 13 lb_X1_search_0 rfl) (dl_at 0 14 lb_X1_search_0 rfl) rfl
theorem dX1_search_15 : decode cX1_search 15 = .ok (.aload_n 0, 1) := dx_42 (dl_at 0 15 lb_X1_search_0 rfl)
theorem dX1_search_16 : decode cX1_search 16 = .ok (.getfield 9, 3) := dx_180 (a := 0) (b := 9) (dl_at 0 16 lb_X1_search_0 rfl) (dl_at 0 17 lb_X1_search_0 rfl) (dl_at 0 18 lb_X1_search_0 rfl) rfl
theorem dX1_search_19 : decode cX1_search 19 = .ok (.iconst 0, 1) := dx_3 (dl_at 0 19 lb_X1_search_0 rfl)
theorem dX1_search_20 : decode cX1_search 20 = .ok (.iload_n 2, 1) := dx_28 (dl_at 0 20 lb_X1_search_0 rfl)
theorem dX1_search_21 : decode cX1_search 21 = .ok (.iastore, 1) := dx_79 (dl_at 0 21 lb_X1_search_0 rfl)
theorem dX1_search_22 : decode cX1_search 22 = .ok (.aload_n 0, 1) := dx_42 (dl_at 0 22 lb_X1_search_0 rfl)
theorem dX1_search_23 : decode cX1_search 23 = .ok (.aload_n 1, 1) := dx_43 (dl_at 0 23 lb_X1_search_0 rfl)
theorem dX1_search_24 : decode cX1_search 24 = .ok (.aload_n 3, 1) := dx_45 (dl_at 0 24 lb_X1_search_0 rfl)
theorem dX1_search_25 : decode cX1_search 25 = .ok (.iconst 0, 1) := dx_3 (dl_at 0 25 lb_X1_search_0 rfl)
theorem dX1_search_26 : decode cX1_search 26 = .ok (.iconst 1, 1) := dx_4 (dl_at 0 26 lb_X1_search_0 rfl)
theorem dX1_search_27 : decode cX1_search 27 = .ok (.iload_n 2, 1) := dx_28 (dl_at 0 27 lb_X1_search_0 rfl)
theorem dX1_search_28 : decode cX1_search 28 = .ok (.ishl, 1) := dx_120 (dl_at 0 28 lb_X1_search_0 rfl)
theorem dX1_search_29 : decode cX1_search 29 = .ok (.iconst 0, 1) := dx_3 (dl_at 0 29 lb_X1_search_0 rfl)
theorem dX1_search_30 : decode cX1_search 30 = .ok (.invokevirtual 28, 3) := dx_182 (a := 0) (b := 28) (dl_at 0 30 lb_X1_search_0 rfl) (dl_at 0 31 lb_X1_search_0 rfl) (dl_at 32 0 lb_X1_search_1 rfl) rfl
theorem dX1_search_33 : decode cX1_search 33 = .ok (.return_, 1) := dx_177 (dl_at 32 1 lb_X1_search_1 rfl)
