theorem mw_1_160 : (Cond.fieldLink RX10 34 "DearLetters$Town" "bearers" "I" : Cond) ∈ lw_good := lg_at 1 160 rfl rfl
theorem mw_2_167 : (Cond.fieldLink RX11 366 "DearLetters" "latest" "I" : Cond) ∈ lw_good := lg_at 2 167 rfl rfl
theorem mw_2_166 : (Cond.fieldLink RX11 62 "DearLetters" "tally" "[I" : Cond) ∈ lw_good := lg_at 2 166 rfl rfl
theorem mw_1_165 : (Cond.fieldLink RX10 38 "DearLetters$Town" "paths" "I" : Cond) ∈ lw_good := lg_at 1 165 rfl rfl
theorem mw_3_87 : (Cond.code yX11_hasBit cX11_hasBit 2 (some .boolean) : Cond) ∈ lw_good := lg_at 3 87 rfl rfl
theorem mw_1_1 : (Cond.initialized RX11 : Cond) ∈ lw_good := lg_at 1 1 rfl rfl
theorem mw_3_86 : (Cond.static yX11_hasBit : Cond) ∈ lw_good := lg_at 3 86 rfl rfl
theorem mw_1_148 : (Cond.fieldLink RX10 15 "DearLetters$Town" "oneEnds" "[I" : Cond) ∈ lw_good := lg_at 1 148 rfl rfl
theorem mw_1_150 : (Cond.fieldLink RX10 18 "DearLetters$Town" "otherEnds" "[I" : Cond) ∈ lw_good := lg_at 1 150 rfl rfl
theorem mw_2_132 : (Cond.fieldLink RX6 15 "DearLetters$Row" "size" "I" : Cond) ∈ lw_good := lg_at 2 132 rfl rfl
theorem mw_2_148 : (Cond.fieldLink RX9 15 "DearLetters$Text" "size" "I" : Cond) ∈ lw_good := lg_at 2 148 rfl rfl
theorem mw_2_198 : (Cond.code yX11_isRow cX11_isRow 1 (some .boolean) : Cond) ∈ lw_good := lg_at 2 198 rfl rfl
theorem mw_2_196 : (Cond.methodLink RX11 69 yX11_isRow : Cond) ∈ lw_good := lg_at 2 196 rfl rfl
theorem mw_2_197 : (Cond.static yX11_isRow : Cond) ∈ lw_good := lg_at 2 197 rfl rfl
theorem mw_2_158 : (Cond.fieldLink RX11 11 "DearLetters" "rows" "[LDearLetters$Row;" : Cond) ∈ lw_good := lg_at 2 158 rfl rfl
theorem mw_2_225 : (Cond.code yX6_isMissing cX6_isMissing 1 (some .boolean) : Cond) ∈ lw_good := lg_at 2 225 rfl rfl
theorem mw_2_222 : (Cond.methodLink RX11 98 yX6_isMissing : Cond) ∈ lw_good := lg_at 2 222 rfl rfl
theorem mw_2_223 : (Cond.instanceMethod yX6_isMissing : Cond) ∈ lw_good := lg_at 2 223 rfl rfl
theorem mw_2_224 : (Cond.selects RX6 yX6_isMissing yX6_isMissing : Cond) ∈ lw_good := lg_at 2 224 rfl rfl
theorem mw_1_11 : (Cond.initialized RX6 : Cond) ∈ lw_good := lg_at 1 11 rfl rfl
theorem mw_2_202 : (Cond.code yX11_found cX11_found 2 (some .int) : Cond) ∈ lw_good := lg_at 2 202 rfl rfl
theorem mw_2_199 : (Cond.methodLink RX11 73 yX11_found : Cond) ∈ lw_good := lg_at 2 199 rfl rfl
theorem mw_2_201 : (Cond.instanceMethod yX11_found : Cond) ∈ lw_good := lg_at 2 201 rfl rfl
theorem mw_0_0 : (Cond.selects RX11 yX11_found yX11_found : Cond) ∈ lw_good := lg_at 0 0 rfl rfl
theorem mw_3_15 : (Cond.code yX11_isText cX11_isText 1 (some .boolean) : Cond) ∈ lw_good := lg_at 3 15 rfl rfl
theorem mw_3_13 : (Cond.methodLink RX11 112 yX11_isText : Cond) ∈ lw_good := lg_at 3 13 rfl rfl
theorem mw_3_14 : (Cond.static yX11_isText : Cond) ∈ lw_good := lg_at 3 14 rfl rfl
theorem mw_2_159 : (Cond.fieldLink RX11 17 "DearLetters" "texts" "[LDearLetters$Text;" : Cond) ∈ lw_good := lg_at 2 159 rfl rfl
theorem mw_3_34 : (Cond.code yX9_isMissing cX9_isMissing 1 (some .boolean) : Cond) ∈ lw_good := lg_at 3 34 rfl rfl
theorem mw_3_31 : (Cond.methodLink RX11 382 yX9_isMissing : Cond) ∈ lw_good := lg_at 3 31 rfl rfl
theorem mw_3_32 : (Cond.instanceMethod yX9_isMissing : Cond) ∈ lw_good := lg_at 3 32 rfl rfl
theorem mw_3_33 : (Cond.selects RX9 yX9_isMissing yX9_isMissing : Cond) ∈ lw_good := lg_at 3 33 rfl rfl
theorem mw_1_12 : (Cond.initialized RX9 : Cond) ∈ lw_good := lg_at 1 12 rfl rfl
theorem rX_4_6 {mu : Nat → Nat → Int32} (ok : okR loX hiX mu) : 0 ≤ (mu 4 6).toInt ∧ (mu 4 6).toInt ≤ 7 := ok 4 6
theorem hX_0_9 (cs : Nat → ClassId) (ad : Nat → Nat) (g : Nat → Int32) (v : Int32) : EX cs ad 0 (upd g 9 v) = .inr (11, [.ref (ad 1), .ref (ad 2), .ref (ad 3), .ref (ad 4), .ref (ad 31), .ref (ad 6), .ref (ad 32), .ref (ad 33), .ref (ad 7), .int v, .int (g 10)]) := by
  rfl
theorem tX_0_9 {mu : Nat → Nat → Int32} (ok : okR loX hiX mu) {nu : Nat → Nat → Int32} {v : Int32} (hn : va_up mu 0 (upd (mu 0) 9 v) = nu) : okR loX hiX nu := by
  subst hn
  exact okR_up ok 0 9 v (tI_lo v) (tI_hi v)
theorem tX_7_s {mu : Nat → Nat → Int32} (ok : okR loX hiX mu) {nu : Nat → Nat → Int32} {v : Int32} (f : Nat) (hn : va_up mu 7 (upd (mu 7) f v) = nu) : okR loX hiX nu := by
  subst hn
  exact okR_up ok 7 f v (tI_lo v) (tI_hi v)
theorem rX_4_7 {mu : Nat → Nat → Int32} (ok : okR loX hiX mu) : 0 ≤ (mu 4 7).toInt ∧ (mu 4 7).toInt ≤ 12 := ok 4 7
theorem rX_35_s {mu : Nat → Nat → Int32} (ok : okR loX hiX mu) (f : Nat) : 0 ≤ (mu 35 f).toInt ∧ (mu 35 f).toInt ≤ 6 := ok 35 f
theorem rX_36_s {mu : Nat → Nat → Int32} (ok : okR loX hiX mu) (f : Nat) : 0 ≤ (mu 36 f).toInt ∧ (mu 36 f).toInt ≤ 6 := ok 36 f
theorem rX_row_1 {mu : Nat → Nat → Int32} (ok : okR loX hiX mu) (k : Nat) (h1 : 8 ≤ k) (h2 : k < 14) : -1 ≤ (mu k 1).toInt ∧ (mu k 1).toInt ≤ 40 := by
  have h := ok k 1
  unfold loX hiX at h
  rw [clX_row k h1 h2] at h
  exact h
theorem rX_text_1 {mu : Nat → Nat → Int32} (ok : okR loX hiX mu) (k : Nat) (h1 : 14 ≤ k) (h2 : k < 18) : -1 ≤ (mu k 1).toInt ∧ (mu k 1).toInt ≤ 80 := by
  have h := ok k 1
  unfold loX hiX at h
  rw [clX_text k h1 h2] at h
  exact h
theorem lb_X11_hasBit_0 : dl_ck (cX11_hasBit.data.toList.drop 0) [26, 27, 122, 4, 126, 153, 0, 7, 4, 167, 0, 4, 3, 172] = true := by decide +kernel
theorem dX11_hasBit_0 : decode cX11_hasBit 0 = .ok (.iload_n 0, 1) := dx_26 (dl_at 0 0 lb_X11_hasBit_0 rfl)
theorem dX11_hasBit_1 : decode cX11_hasBit 1 = .ok (.iload_n 1, 1) := dx_27 (dl_at 0 1 lb_X11_hasBit_0 rfl)
theorem dX11_hasBit_2 : decode cX11_hasBit 2 = .ok (.ishr, 1) := dx_122 (dl_at 0 2 lb_X11_hasBit_0 rfl)
theorem dX11_hasBit_3 : decode cX11_hasBit 3 = .ok (.iconst 1, 1) := dx_4 (dl_at 0 3 lb_X11_hasBit_0 rfl)
theorem dX11_hasBit_4 : decode cX11_hasBit 4 = .ok (.iand, 1) := dx_126 (dl_at 0 4 lb_X11_hasBit_0 rfl)
theorem dX11_hasBit_5 : decode cX11_hasBit 5 = .ok (.ifCond .eq 7, 3) := dx_153 (a := 0) (b := 7) (dl_at 0 5 lb_X11_hasBit_0 rfl) (dl_at 0 6 lb_X11_hasBit_0 rfl) (dl_at 0 7 lb_X11_hasBit_0 rfl) sg16_7
theorem dX11_hasBit_12 : decode cX11_hasBit 12 = .ok (.iconst 0, 1) := dx_3 (dl_at 0 12 lb_X11_hasBit_0 rfl)
theorem dX11_hasBit_13 : decode cX11_hasBit 13 = .ok (.ireturn, 1) := dx_172 (dl_at 0 13 lb_X11_hasBit_0 rfl)
theorem dX11_hasBit_8 : decode cX11_hasBit 8 = .ok (.iconst 1, 1) := dx_4 (dl_at 0 8 lb_X11_hasBit_0 rfl)
theorem dX11_hasBit_9 : decode cX11_hasBit 9 = .ok (.goto 4, 3) := dx_167 (a := 0) (b := 4) (dl_at 0 9 lb_X11_hasBit_0 rfl) (dl_at 0 10 lb_X11_hasBit_0 rfl) (dl_at 0 11 lb_X11_hasBit_0 rfl) sg16_4
theorem lb_X11_priceAsked_0 : dl_ck (cX11_priceAsked.data.toList.drop 0) [26, 170, 0, 0, 0, 0, 0, 49, 0, 0, 0, 1, 0, 0, 0, 5, 0, 0, 0, 35, 0, 0, 0, 39, 0, 0, 0, 49, 0, 0, 0, 41] = true := by decide +kernel
theorem lb_X11_priceAsked_1 : dl_ck (cX11_priceAsked.data.toList.drop 32) [0, 0, 0, 47, 27, 6, 96, 172, 27, 172, 5, 27, 6, 96, 104, 172, 3, 172, 27, 4, 96, 172] = true := by decide +kernel
theorem dX11_priceAsked_0 : decode cX11_priceAsked 0 = .ok (.iload_n 0, 1) := dx_26 (dl_at 0 0 lb_X11_priceAsked_0 rfl)
theorem dX11_priceAsked_1 : decode cX11_priceAsked 1 = .ok (.tableswitch 49 1 5 #[35, 39, 49, 41, 47], 35) := by decide +kernel
theorem dX11_priceAsked_50 : decode cX11_priceAsked 50 = .ok (.iload_n 1, 1) := dx_27 (dl_at 32 18 lb_X11_priceAsked_1 rfl)
theorem dX11_priceAsked_51 : decode cX11_priceAsked 51 = .ok (.iconst 1, 1) := dx_4 (dl_at 32 19 lb_X11_priceAsked_1 rfl)
theorem dX11_priceAsked_52 : decode cX11_priceAsked 52 = .ok (.iadd, 1) := dx_96 (dl_at 32 20 lb_X11_priceAsked_1 rfl)
theorem dX11_priceAsked_53 : decode cX11_priceAsked 53 = .ok (.ireturn, 1) := dx_172 (dl_at 32 21 lb_X11_priceAsked_1 rfl)
theorem dX11_priceAsked_36 : decode cX11_priceAsked 36 = .ok (.iload_n 1, 1) := dx_27 (dl_at 32 4 lb_X11_priceAsked_1 rfl)
theorem dX11_priceAsked_37 : decode cX11_priceAsked 37 = .ok (.iconst 3, 1) := dx_6 (dl_at 32 5 lb_X11_priceAsked_1 rfl)
theorem dX11_priceAsked_38 : decode cX11_priceAsked 38 = .ok (.iadd, 1) := dx_96 (dl_at 32 6 lb_X11_priceAsked_1 rfl)
theorem dX11_priceAsked_39 : decode cX11_priceAsked 39 = .ok (.ireturn, 1) := dx_172 (dl_at 32 7 lb_X11_priceAsked_1 rfl)
theorem dX11_priceAsked_40 : decode cX11_priceAsked 40 = .ok (.iload_n 1, 1) := dx_27 (dl_at 32 8 lb_X11_priceAsked_1 rfl)
theorem dX11_priceAsked_41 : decode cX11_priceAsked 41 = .ok (.ireturn, 1) := dx_172 (dl_at 32 9 lb_X11_priceAsked_1 rfl)
theorem dX11_priceAsked_42 : decode cX11_priceAsked 42 = .ok (.iconst 2, 1) := dx_5 (dl_at 32 10 lb_X11_priceAsked_1 rfl)
theorem dX11_priceAsked_43 : decode cX11_priceAsked 43 = .ok (.iload_n 1, 1) := dx_27 (dl_at 32 11 lb_X11_priceAsked_1 rfl)
theorem dX11_priceAsked_44 : decode cX11_priceAsked 44 = .ok (.iconst 3, 1) := dx_6 (dl_at 32 12 lb_X11_priceAsked_1 rfl)
theorem dX11_priceAsked_45 : decode cX11_priceAsked 45 = .ok (.iadd, 1) := dx_96 (dl_at 32 13 lb_X11_priceAsked_1 rfl)
theorem dX11_priceAsked_46 : decode cX11_priceAsked 46 = .ok (.imul, 1) := dx_104 (dl_at 32 14 lb_X11_priceAsked_1 rfl)
theorem dX11_priceAsked_47 : decode cX11_priceAsked 47 = .ok (.ireturn, 1) := dx_172 (dl_at 32 15 lb_X11_priceAsked_1 rfl)
theorem dX11_priceAsked_48 : decode cX11_priceAsked 48 = .ok (.iconst 0, 1) := dx_3 (dl_at 32 16 lb_X11_priceAsked_1 rfl)
theorem dX11_priceAsked_49 : decode cX11_priceAsked 49 = .ok (.ireturn, 1) := dx_172 (dl_at 32 17 lb_X11_priceAsked_1 rfl)
theorem lb_X11_isOfKind_0 : dl_ck (cX11_isOfKind.data.toList.drop 0) [26, 27, 159, 0, 27, 27, 153, 0, 23, 26, 7, 160, 0, 8, 27, 4, 159, 0, 13, 26, 8, 160, 0, 12, 27, 5, 160, 0, 7, 4, 167, 0] = true := by decide +kernel
theorem lb_X11_isOfKind_1 : dl_ck (cX11_isOfKind.data.toList.drop 32) [4, 3, 172] = true := by decide +kernel
theorem dX11_isOfKind_0 : decode cX11_isOfKind 0 = .ok (.iload_n 0, 1) := dx_26 (dl_at 0 0 lb_X11_isOfKind_0 rfl)
theorem dX11_isOfKind_1 : decode cX11_isOfKind 1 = .ok (.iload_n 1, 1) := dx_27 (dl_at 0 1 lb_X11_isOfKind_0 rfl)
theorem dX11_isOfKind_2 : decode cX11_isOfKind 2 = .ok (.if_icmp .eq 27, 3) := dx_159 (a := 0) (b := 27) (dl_at 0 2 lb_X11_isOfKind_0 rfl) (dl_at 0 3 lb_X11_isOfKind_0 rfl) (dl_at 0 4 lb_X11_isOfKind_0 rfl) sg16_27
theorem dX11_isOfKind_29 : decode cX11_isOfKind 29 = .ok (.iconst 1, 1) := dx_4 (dl_at 0 29 lb_X11_isOfKind_0 rfl)
theorem dX11_isOfKind_30 : decode cX11_isOfKind 30 = .ok (.goto 4, 3) := dx_167 (a := 0) (b := 4) (dl_at 0 30 lb_X11_isOfKind_0 rfl) (dl_at 0 31 lb_X11_isOfKind_0 rfl) (dl_at 32 0 lb_X11_isOfKind_1 rfl) sg16_4
theorem dX11_isOfKind_34 : decode cX11_isOfKind 34 = .ok (.ireturn, 1) := dx_172 (dl_at 32 2 lb_X11_isOfKind_1 rfl)
theorem dX11_isOfKind_5 : decode cX11_isOfKind 5 = .ok (.iload_n 1, 1) := dx_27 (dl_at 0 5 lb_X11_isOfKind_0 rfl)
theorem dX11_isOfKind_6 : decode cX11_isOfKind 6 = .ok (.ifCond .eq 23, 3) := dx_153 (a := 0) (b := 23) (dl_at 0 6 lb_X11_isOfKind_0 rfl) (dl_at 0 7 lb_X11_isOfKind_0 rfl) (dl_at 0 8 lb_X11_isOfKind_0 rfl) sg16_23
theorem dX11_isOfKind_9 : decode cX11_isOfKind 9 = .ok (.iload_n 0, 1) := dx_26 (dl_at 0 9 lb_X11_isOfKind_0 rfl)
theorem dX11_isOfKind_10 : decode cX11_isOfKind 10 = .ok (.iconst 4, 1) := dx_7 (dl_at 0 10 lb_X11_isOfKind_0 rfl)
theorem dX11_isOfKind_11 : decode cX11_isOfKind 11 = .ok (.if_icmp .ne 8, 3) := dx_160 (a := 0) (b := 8) (dl_at 0 11 lb_X11_isOfKind_0 rfl) (dl_at 0 12 lb_X11_isOfKind_0 rfl) (dl_at 0 13 lb_X11_isOfKind_0 rfl) sg16_8
theorem dX11_isOfKind_19 : decode cX11_isOfKind 19 = .ok (.iload_n 0, 1) := dx_26 (dl_at 0 19 lb_X11_isOfKind_0 rfl)
theorem dX11_isOfKind_20 : decode cX11_isOfKind 20 = .ok (.iconst 5, 1) := dx_8 (dl_at 0 20 lb_X11_isOfKind_0 rfl)
theorem dX11_isOfKind_21 : decode cX11_isOfKind 21 = .ok (.if_icmp .ne 12, 3) := dx_160 (a := 0) (b := 12) (dl_at 0 21 lb_X11_isOfKind_0 rfl) (dl_at 0 22 lb_X11_isOfKind_0 rfl) (dl_at 0 23 lb_X11_isOfKind_0 rfl) sg16_12
theorem dX11_isOfKind_33 : decode cX11_isOfKind 33 = .ok (.iconst 0, 1) := dx_3 (dl_at 32 1 lb_X11_isOfKind_1 rfl)
theorem dX11_isOfKind_24 : decode cX11_isOfKind 24 = .ok (.iload_n 1, 1) := dx_27 (dl_at 0 24 lb_X11_isOfKind_0 rfl)
theorem dX11_isOfKind_25 : decode cX11_isOfKind 25 = .ok (.iconst 2, 1) := dx_5 (dl_at 0 25 lb_X11_isOfKind_0 rfl)
theorem dX11_isOfKind_26 : decode cX11_isOfKind 26 = .ok (.if_icmp .ne 7, 3) := dx_160 (a := 0) (b := 7) (dl_at 0 26 lb_X11_isOfKind_0 rfl) (dl_at 0 27 lb_X11_isOfKind_0 rfl) (dl_at 0 28 lb_X11_isOfKind_0 rfl) sg16_7
theorem dX11_isOfKind_14 : decode cX11_isOfKind 14 = .ok (.iload_n 1, 1) := dx_27 (dl_at 0 14 lb_X11_isOfKind_0 rfl)
theorem dX11_isOfKind_15 : decode cX11_isOfKind 15 = .ok (.iconst 1, 1) := dx_4 (dl_at 0 15 lb_X11_isOfKind_0 rfl)
theorem dX11_isOfKind_16 : decode cX11_isOfKind 16 = .ok (.if_icmp .eq 13, 3) := dx_159 (a := 0) (b := 13) (dl_at 0 16 lb_X11_isOfKind_0 rfl) (dl_at 0 17 lb_X11_isOfKind_0 rfl) (dl_at 0 18 lb_X11_isOfKind_0 rfl) sg16_13
theorem lb_X11_isRow_0 : dl_ck (cX11_isRow.data.toList.drop 0) [26, 155, 0, 13, 26, 16, 6, 162, 0, 7, 4, 167, 0, 4, 3, 172] = true := by decide +kernel
theorem dX11_isRow_0 : decode cX11_isRow 0 = .ok (.iload_n 0, 1) := dx_26 (dl_at 0 0 lb_X11_isRow_0 rfl)
theorem dX11_isRow_1 : decode cX11_isRow 1 = .ok (.ifCond .lt 13, 3) := dx_155 (a := 0) (b := 13) (dl_at 0 1 lb_X11_isRow_0 rfl) (dl_at 0 2 lb_X11_isRow_0 rfl) (dl_at 0 3 lb_X11_isRow_0 rfl) sg16_13
theorem dX11_isRow_14 : decode cX11_isRow 14 = .ok (.iconst 0, 1) := dx_3 (dl_at 0 14 lb_X11_isRow_0 rfl)
theorem dX11_isRow_15 : decode cX11_isRow 15 = .ok (.ireturn, 1) := dx_172 (dl_at 0 15 lb_X11_isRow_0 rfl)
theorem dX11_isRow_4 : decode cX11_isRow 4 = .ok (.iload_n 0, 1) := dx_26 (dl_at 0 4 lb_X11_isRow_0 rfl)
theorem dX11_isRow_5 : decode cX11_isRow 5 = .ok (.bipush 6, 2) := dx_16 (dl_at 0 5 lb_X11_isRow_0 rfl) (dl_at 0 6 lb_X11_isRow_0 rfl) sg8_6
theorem dX11_isRow_7 : decode cX11_isRow 7 = .ok (.if_icmp .ge 7, 3) := dx_162 (a := 0) (b := 7) (dl_at 0 7 lb_X11_isRow_0 rfl) (dl_at 0 8 lb_X11_isRow_0 rfl) (dl_at 0 9 lb_X11_isRow_0 rfl) sg16_7
theorem dX11_isRow_10 : decode cX11_isRow 10 = .ok (.iconst 1, 1) := dx_4 (dl_at 0 10 lb_X11_isRow_0 rfl)
theorem dX11_isRow_11 : decode cX11_isRow 11 = .ok (.goto 4, 3) := dx_167 (a := 0) (b := 4) (dl_at 0 11 lb_X11_isRow_0 rfl) (dl_at 0 12 lb_X11_isRow_0 rfl) (dl_at 0 13 lb_X11_isRow_0 rfl) sg16_4
theorem lb_X11_isText_0 : dl_ck (cX11_isText.data.toList.drop 0) [26, 155, 0, 12, 26, 7, 162, 0, 7, 4, 167, 0, 4, 3, 172] = true := by decide +kernel
theorem dX11_isText_0 : decode cX11_isText 0 = .ok (.iload_n 0, 1) := dx_26 (dl_at 0 0 lb_X11_isText_0 rfl)
theorem dX11_isText_1 : decode cX11_isText 1 = .ok (.ifCond .lt 12, 3) := dx_155 (a := 0) (b := 12) (dl_at 0 1 lb_X11_isText_0 rfl) (dl_at 0 2 lb_X11_isText_0 rfl) (dl_at 0 3 lb_X11_isText_0 rfl) sg16_12
theorem dX11_isText_13 : decode cX11_isText 13 = .ok (.iconst 0, 1) := dx_3 (dl_at 0 13 lb_X11_isText_0 rfl)
theorem dX11_isText_14 : decode cX11_isText 14 = .ok (.ireturn, 1) := dx_172 (dl_at 0 14 lb_X11_isText_0 rfl)
theorem dX11_isText_4 : decode cX11_isText 4 = .ok (.iload_n 0, 1) := dx_26 (dl_at 0 4 lb_X11_isText_0 rfl)
theorem dX11_isText_5 : decode cX11_isText 5 = .ok (.iconst 4, 1) := dx_7 (dl_at 0 5 lb_X11_isText_0 rfl)
theorem dX11_isText_6 : decode cX11_isText 6 = .ok (.if_icmp .ge 7, 3) := dx_162 (a := 0) (b := 7) (dl_at 0 6 lb_X11_isText_0 rfl) (dl_at 0 7 lb_X11_isText_0 rfl) (dl_at 0 8 lb_X11_isText_0 rfl) sg16_7
theorem dX11_isText_9 : decode cX11_isText 9 = .ok (.iconst 1, 1) := dx_4 (dl_at 0 9 lb_X11_isText_0 rfl)
theorem dX11_isText_10 : decode cX11_isText 10 = .ok (.goto 4, 3) := dx_167 (a := 0) (b := 4) (dl_at 0 10 lb_X11_isText_0 rfl) (dl_at 0 11 lb_X11_isText_0 rfl) (dl_at 0 12 lb_X11_isText_0 rfl) sg16_4
theorem lb_X11_isPlace_0 : dl_ck (cX11_isPlace.data.toList.drop 0) [26, 155, 0, 12, 26, 6, 162, 0, 7, 4, 167, 0, 4, 3, 172] = true := by decide +kernel
theorem dX11_isPlace_0 : decode cX11_isPlace 0 = .ok (.iload_n 0, 1) := dx_26 (dl_at 0 0 lb_X11_isPlace_0 rfl)
theorem dX11_isPlace_1 : decode cX11_isPlace 1 = .ok (.ifCond .lt 12, 3) := dx_155 (a := 0) (b := 12) (dl_at 0 1 lb_X11_isPlace_0 rfl) (dl_at 0 2 lb_X11_isPlace_0 rfl) (dl_at 0 3 lb_X11_isPlace_0 rfl) sg16_12
theorem dX11_isPlace_13 : decode cX11_isPlace 13 = .ok (.iconst 0, 1) := dx_3 (dl_at 0 13 lb_X11_isPlace_0 rfl)
theorem dX11_isPlace_14 : decode cX11_isPlace 14 = .ok (.ireturn, 1) := dx_172 (dl_at 0 14 lb_X11_isPlace_0 rfl)
theorem dX11_isPlace_4 : decode cX11_isPlace 4 = .ok (.iload_n 0, 1) := dx_26 (dl_at 0 4 lb_X11_isPlace_0 rfl)
theorem dX11_isPlace_5 : decode cX11_isPlace 5 = .ok (.iconst 3, 1) := dx_6 (dl_at 0 5 lb_X11_isPlace_0 rfl)
theorem dX11_isPlace_6 : decode cX11_isPlace 6 = .ok (.if_icmp .ge 7, 3) := dx_162 (a := 0) (b := 7) (dl_at 0 6 lb_X11_isPlace_0 rfl) (dl_at 0 7 lb_X11_isPlace_0 rfl) (dl_at 0 8 lb_X11_isPlace_0 rfl) sg16_7
theorem dX11_isPlace_9 : decode cX11_isPlace 9 = .ok (.iconst 1, 1) := dx_4 (dl_at 0 9 lb_X11_isPlace_0 rfl)
theorem dX11_isPlace_10 : decode cX11_isPlace 10 = .ok (.goto 4, 3) := dx_167 (a := 0) (b := 4) (dl_at 0 10 lb_X11_isPlace_0 rfl) (dl_at 0 11 lb_X11_isPlace_0 rfl) (dl_at 0 12 lb_X11_isPlace_0 rfl) sg16_4
theorem lb_X10_has_0 : dl_ck (cX10_has.data.toList.drop 0) [27, 155, 0, 15, 27, 42, 180, 0, 34, 162, 0, 7, 4, 167, 0, 4, 3, 172] = true := by decide +kernel
theorem dX10_has_0 : decode cX10_has 0 = .ok (.iload_n 1, 1) := dx_27 (dl_at 0 0 lb_X10_has_0 rfl)
theorem dX10_has_1 : decode cX10_has 1 = .ok (.ifCond .lt 15, 3) := dx_155 (a := 0) (b := 15) (dl_at 0 1 lb_X10_has_0 rfl) (dl_at 0 2 lb_X10_has_0 rfl) (dl_at 0 3 lb_X10_has_0 rfl) sg16_15
theorem dX10_has_16 : decode cX10_has 16 = .ok (.iconst 0, 1) := dx_3 (dl_at 0 16 lb_X10_has_0 rfl)
theorem dX10_has_17 : decode cX10_has 17 = .ok (.ireturn, 1) := dx_172 (dl_at 0 17 lb_X10_has_0 rfl)
theorem dX10_has_4 : decode cX10_has 4 = .ok (.iload_n 1, 1) := dx_27 (dl_at 0 4 lb_X10_has_0 rfl)
theorem dX10_has_5 : decode cX10_has 5 = .ok (.aload_n 0, 1) := dx_42 (dl_at 0 5 lb_X10_has_0 rfl)
theorem dX10_has_6 : decode cX10_has 6 = .ok (.getfield 34, 3) := dx_180 (a := 0) (b := 34) (dl_at 0 6 lb_X10_has_0 rfl) (dl_at 0 7 lb_X10_has_0 rfl) (dl_at 0 8 lb_X10_has_0 rfl) rfl
theorem dX10_has_9 : decode cX10_has 9 = .ok (.if_icmp .ge 7, 3) := dx_162 (a := 0) (b := 7) (dl_at 0 9 lb_X10_has_0 rfl) (dl_at 0 10 lb_X10_has_0 rfl) (dl_at 0 11 lb_X10_has_0 rfl) sg16_7
theorem dX10_has_12 : decode cX10_has 12 = .ok (.iconst 1, 1) := dx_4 (dl_at 0 12 lb_X10_has_0 rfl)
theorem dX10_has_13 : decode cX10_has 13 = .ok (.goto 4, 3) := dx_167 (a := 0) (b := 4) (dl_at 0 13 lb_X10_has_0 rfl) (dl_at 0 14 lb_X10_has_0 rfl) (dl_at 0 15 lb_X10_has_0 rfl) sg16_4
theorem lb_X11_found_0 : dl_ck (cX11_found.data.toList.drop 0) [42, 27, 181, 1, 110, 42, 180, 0, 62, 27, 92, 46, 4, 96, 79, 16, 253, 172] = true := by decide +kernel
theorem dX11_found_0 : decode cX11_found 0 = .ok (.aload_n 0, 1) := dx_42 (dl_at 0 0 lb_X11_found_0 rfl)
theorem dX11_found_1 : decode cX11_found 1 = .ok (.iload_n 1, 1) := dx_27 (dl_at 0 1 lb_X11_found_0 rfl)
theorem dX11_found_2 : decode cX11_found 2 = .ok (.putfield 366, 3) := dx_181 (a := 1) (b := 110) (dl_at 0 2 lb_X11_found_0 rfl) (dl_at 0 3 lb_X11_found_0 rfl) (dl_at 0 4 lb_X11_found_0 rfl) rfl
theorem dX11_found_5 : decode cX11_found 5 = .ok (.aload_n 0, 1) := dx_42 (dl_at 0 5 lb_X11_found_0 rfl)
theorem dX11_found_6 : decode cX11_found 6 = .ok (.getfield 62, 3) := dx_180 (a := 0) (b := 62) (dl_at 0 6 lb_X11_found_0 rfl) (dl_at 0 7 lb_X11_found_0 rfl) (dl_at 0 8 lb_X11_found_0 rfl) rfl
theorem dX11_found_9 : decode cX11_found 9 = .ok (.iload_n 1, 1) := dx_27 (dl_at 0 9 lb_X11_found_0 rfl)
theorem dX11_found_10 : decode cX11_found 10 = .ok (.dup2, 1) := dx_92 (dl_at 0 10 lb_X11_found_0 rfl)
theorem dX11_found_11 : decode cX11_found 11 = .ok (.iaload, 1) := dx_46 (dl_at 0 11 lb_X11_found_0 rfl)
theorem dX11_found_12 : decode cX11_found 12 = .ok (.iconst 1, 1) := dx_4 (dl_at 0 12 lb_X11_found_0 rfl)
theorem dX11_found_13 : decode cX11_found 13 = .ok (.iadd, 1) := dx_96 (dl_at 0 13 lb_X11_found_0 rfl)
theorem dX11_found_14 : decode cX11_found 14 = .ok (.iastore, 1) := dx_79 (dl_at 0 14 lb_X11_found_0 rfl)
theorem dX11_found_15 : decode cX11_found 15 = .ok (.bipush (-3), 2) := dx_16 (dl_at 0 15 lb_X11_found_0 rfl) (dl_at 0 16 lb_X11_found_0 rfl) sg8_253
theorem dX11_found_17 : decode cX11_found 17 = .ok (.ireturn, 1) := dx_172 (dl_at 0 17 lb_X11_found_0 rfl)
theorem lb_X10_near_0 : dl_ck (cX10_near.data.toList.drop 0) [3, 62, 3, 54, 4, 21, 4, 42, 180, 0, 38, 162, 0, 70, 28, 21, 4, 184, 0, 41, 153, 0, 6, 167, 0, 52, 42, 180, 0, 15, 21, 4] = true := by decide +kernel
theorem lb_X10_near_1 : dl_ck (cX10_near.data.toList.drop 32) [46, 27, 160, 0, 18, 29, 4, 42, 180, 0, 18, 21, 4, 46, 120, 128, 62, 167, 0, 26, 42, 180, 0, 18, 21, 4, 46, 27, 160, 0, 15, 29] = true := by decide +kernel
theorem lb_X10_near_2 : dl_ck (cX10_near.data.toList.drop 64) [4, 42, 180, 0, 15, 21, 4, 46, 120, 128, 62, 132, 4, 1, 167, 255, 183, 29, 172] = true := by decide +kernel
theorem dX10_near_0 : decode cX10_near 0 = .ok (.iconst 0, 1) := dx_3 (dl_at 0 0 lb_X10_near_0 rfl)
theorem dX10_near_1 : decode cX10_near 1 = .ok (.istore_n 3, 1) := dx_62 (dl_at 0 1 lb_X10_near_0 rfl)
theorem dX10_near_2 : decode cX10_near 2 = .ok (.iconst 0, 1) := dx_3 (dl_at 0 2 lb_X10_near_0 rfl)
theorem dX10_near_3 : decode cX10_near 3 = .ok (.istore 4, 2) := dx_54 (dl_at 0 3 lb_X10_near_0 rfl) (dl_at 0 4 lb_X10_near_0 rfl)
theorem dX10_near_5 : decode cX10_near 5 = .ok (.iload 4, 2) := dx_21 (dl_at 0 5 lb_X10_near_0 rfl) (dl_at 0 6 lb_X10_near_0 rfl)
theorem dX10_near_7 : decode cX10_near 7 = .ok (.aload_n 0, 1) := dx_42 (dl_at 0 7 lb_X10_near_0 rfl)
theorem dX10_near_8 : decode cX10_near 8 = .ok (.getfield 38, 3) := dx_180 (a := 0) (b := 38) (dl_at 0 8 lb_X10_near_0 rfl) (dl_at 0 9 lb_X10_near_0 rfl) (dl_at 0 10 lb_X10_near_0 rfl) rfl
theorem dX10_near_11 : decode cX10_near 11 = .ok (.if_icmp .ge 70, 3) := dx_162 (a := 0) (b := 70) (dl_at 0 11 lb_X10_near_0 rfl) (dl_at 0 12 lb_X10_near_0 rfl) (dl_at 0 13 lb_X10_near_0 rfl) sg16_70
theorem dX10_near_81 : decode cX10_near 81 = .ok (.iload_n 3, 1) := dx_29 (dl_at 64 17 lb_X10_near_2 rfl)
theorem dX10_near_82 : decode cX10_near 82 = .ok (.ireturn, 1) := dx_172 (dl_at 64 18 lb_X10_near_2 rfl)
theorem dX10_near_14 : decode cX10_near 14 = .ok (.iload_n 2, 1) := dx_28 (dl_at 0 14 lb_X10_near_0 rfl)
theorem dX10_near_15 : decode cX10_near 15 = .ok (.iload 4, 2) := dx_21 (dl_at 0 15 lb_X10_near_0 rfl) (dl_at 0 16 lb_X10_near_0 rfl)
theorem dX10_near_17 : decode cX10_near 17 = .ok (.invokestatic 41, 3) := dx_184 (a := 0) (b := 41) (dl_at 0 17 lb_X10_near_0 rfl) (dl_at 0 18 lb_X10_near_0 rfl) (dl_at 0 19 lb_X10_near_0 rfl) rfl
theorem dX10_near_20 : decode cX10_near 20 = .ok (.ifCond .eq 6, 3) := dx_153 (a := 0) (b := 6) (dl_at 0 20 lb_X10_near_0 rfl) (dl_at 0 21 lb_X10_near_0 rfl) (dl_at 0 22 lb_X10_near_0 rfl) sg16_6
theorem dX10_near_26 : decode cX10_near 26 = .ok (.aload_n 0, 1) := dx_42 (dl_at 0 26 lb_X10_near_0 rfl)
theorem dX10_near_27 : decode cX10_near 27 = .ok (.getfield 15, 3) := dx_180 (a := 0) (b := 15) (dl_at 0 27 lb_X10_near_0 rfl) (dl_at 0 28 lb_X10_near_0 rfl) (dl_at 0 29 lb_X10_near_0 rfl) rfl
theorem dX10_near_30 : decode cX10_near 30 = .ok (.iload 4, 2) := dx_21 (dl_at 0 30 lb_X10_near_0 rfl) (dl_at 0 31 lb_X10_near_0 rfl)
theorem dX10_near_32 : decode cX10_near 32 = .ok (.iaload, 1) := dx_46 (dl_at 32 0 lb_X10_near_1 rfl)
theorem dX10_near_33 : decode cX10_near 33 = .ok (.iload_n 1, 1) := dx_27 (dl_at 32 1 lb_X10_near_1 rfl)
theorem dX10_near_34 : decode cX10_near 34 = .ok (.if_icmp .ne 18, 3) := dx_160 (a := 0) (b := 18) (dl_at 32 2 lb_X10_near_1 rfl) (dl_at 32 3 lb_X10_near_1 rfl) (dl_at 32 4 lb_X10_near_1 rfl) sg16_18
theorem dX10_near_52 : decode cX10_near 52 = .ok (.aload_n 0, 1) := dx_42 (dl_at 32 20 lb_X10_near_1 rfl)
theorem dX10_near_53 : decode cX10_near 53 = .ok (.getfield 18, 3) := dx_180 (a := 0) (b := 18) (dl_at 32 21 lb_X10_near_1 rfl) (dl_at 32 22 lb_X10_near_1 rfl) (dl_at 32 23 lb_X10_near_1 rfl) rfl
theorem dX10_near_56 : decode cX10_near 56 = .ok (.iload 4, 2) := dx_21 (dl_at 32 24 lb_X10_near_1 rfl) (dl_at 32 25 lb_X10_near_1 rfl)
theorem dX10_near_58 : decode cX10_near 58 = .ok (.iaload, 1) := dx_46 (dl_at 32 26 lb_X10_near_1 rfl)
theorem dX10_near_59 : decode cX10_near 59 = .ok (.iload_n 1, 1) := dx_27 (dl_at 32 27 lb_X10_near_1 rfl)
theorem dX10_near_60 : decode cX10_near 60 = .ok (.if_icmp .ne 15, 3) := dx_160 (a := 0) (b := 15) (dl_at 32 28 lb_X10_near_1 rfl) (dl_at 32 29 lb_X10_near_1 rfl) (dl_at 32 30 lb_X10_near_1 rfl) sg16_15
theorem dX10_near_75 : decode cX10_near 75 = .ok (.iinc 4 1, 3) := dx_132 (dl_at 64 11 lb_X10_near_2 rfl) (dl_at 64 12 lb_X10_near_2 rfl) (dl_at 64 13 lb_X10_near_2 rfl) sg8_1
theorem dX10_near_78 : decode cX10_near 78 = .ok (.goto (-73), 3) := dx_167 (a := 255) (b := 183) (dl_at 64 14 lb_X10_near_2 rfl) (dl_at 64 15 lb_X10_near_2 rfl) (dl_at 64 16 lb_X10_near_2 rfl) sg16_65463
theorem dX10_near_63 : decode cX10_near 63 = .ok (.iload_n 3, 1) := dx_29 (dl_at 32 31 lb_X10_near_1 rfl)
theorem dX10_near_64 : decode cX10_near 64 = .ok (.iconst 1, 1) := dx_4 (dl_at 64 0 lb_X10_near_2 rfl)
theorem dX10_near_65 : decode cX10_near 65 = .ok (.aload_n 0, 1) := dx_42 (dl_at 64 1 lb_X10_near_2 rfl)
theorem dX10_near_66 : decode cX10_near 66 = .ok (.getfield 15, 3) := dx_180 (a := 0) (b := 15) (dl_at 64 2 lb_X10_near_2 rfl) (dl_at 64 3 lb_X10_near_2 rfl) (dl_at 64 4 lb_X10_near_2 rfl) rfl
theorem dX10_near_69 : decode cX10_near 69 = .ok (.iload 4, 2) := dx_21 (dl_at 64 5 lb_X10_near_2 rfl) (dl_at 64 6 lb_X10_near_2 rfl)
theorem dX10_near_71 : decode cX10_near 71 = .ok (.iaload, 1) := dx_46 (dl_at 64 7 lb_X10_near_2 rfl)
theorem dX10_near_72 : decode cX10_near 72 = .ok (.ishl, 1) := dx_120 (dl_at 64 8 lb_X10_near_2 rfl)
theorem dX10_near_73 : decode cX10_near 73 = .ok (.ior, 1) := dx_128 (dl_at 64 9 lb_X10_near_2 rfl)
theorem dX10_near_74 : decode cX10_near 74 = .ok (.istore_n 3, 1) := dx_62 (dl_at 64 10 lb_X10_near_2 rfl)
theorem dX10_near_37 : decode cX10_near 37 = .ok (.iload_n 3, 1) := dx_29 (dl_at 32 5 lb_X10_near_1 rfl)
theorem dX10_near_38 : decode cX10_near 38 = .ok (.iconst 1, 1) := dx_4 (dl_at 32 6 lb_X10_near_1 rfl)
theorem dX10_near_39 : decode cX10_near 39 = .ok (.aload_n 0, 1) := dx_42 (dl_at 32 7 lb_X10_near_1 rfl)
theorem dX10_near_40 : decode cX10_near 40 = .ok (.getfield 18, 3) := dx_180 (a := 0) (b := 18) (dl_at 32 8 lb_X10_near_1 rfl) (dl_at 32 9 lb_X10_near_1 rfl) (dl_at 32 10 lb_X10_near_1 rfl) rfl
theorem dX10_near_43 : decode cX10_near 43 = .ok (.iload 4, 2) := dx_21 (dl_at 32 11 lb_X10_near_1 rfl) (dl_at 32 12 lb_X10_near_1 rfl)
theorem dX10_near_45 : decode cX10_near 45 = .ok (.iaload, 1) := dx_46 (dl_at 32 13 lb_X10_near_1 rfl)
theorem dX10_near_46 : decode cX10_near 46 = .ok (.ishl, 1) := dx_120 (dl_at 32 14 lb_X10_near_1 rfl)
theorem dX10_near_47 : decode cX10_near 47 = .ok (.ior, 1) := dx_128 (dl_at 32 15 lb_X10_near_1 rfl)
theorem dX10_near_48 : decode cX10_near 48 = .ok (.istore_n 3, 1) := dx_62 (dl_at 32 16 lb_X10_near_1 rfl)
theorem dX10_near_49 : decode cX10_near 49 = .ok (.goto 26, 3) := dx_167 (a := 0) (b := 26) (dl_at 32 17 lb_X10_near_1 rfl) (dl_at 32 18 lb_X10_near_1 rfl) (dl_at 32 19 lb_X10_near_1 rfl) sg16_26
theorem dX10_near_23 : decode cX10_near 23 = .ok (.goto 52, 3) := dx_167 (a := 0) (b := 52) (dl_at 0 23 lb_X10_near_0 rfl) (dl_at 0 24 lb_X10_near_0 rfl) (dl_at 0 25 lb_X10_near_0 rfl) sg16_52
theorem lb_X6_isMissing_0 : dl_ck (cX6_isMissing.data.toList.drop 0) [42, 180, 0, 15, 156, 0, 7, 4, 167, 0, 4, 3, 172] = true := by decide +kernel
theorem dX6_isMissing_0 : decode cX6_isMissing 0 = .ok (.aload_n 0, 1) := dx_42 (dl_at 0 0 lb_X6_isMissing_0 rfl)
theorem dX6_isMissing_1 : decode cX6_isMissing 1 = .ok (.getfield 15, 3) := dx_180 (a := 0) (b := 15) (dl_at 0 1 lb_X6_isMissing_0 rfl) (dl_at 0 2 lb_X6_isMissing_0 rfl) (dl_at 0 3 lb_X6_isMissing_0 rfl) rfl
theorem dX6_isMissing_4 : decode cX6_isMissing 4 = .ok (.ifCond .ge 7, 3) := dx_156 (a := 0) (b := 7) (dl_at 0 4 lb_X6_isMissing_0 rfl) (dl_at 0 5 lb_X6_isMissing_0 rfl) (dl_at 0 6 lb_X6_isMissing_0 rfl) sg16_7
theorem dX6_isMissing_11 : decode cX6_isMissing 11 = .ok (.iconst 0, 1) := dx_3 (dl_at 0 11 lb_X6_isMissing_0 rfl)
theorem dX6_isMissing_12 : decode cX6_isMissing 12 = .ok (.ireturn, 1) := dx_172 (dl_at 0 12 lb_X6_isMissing_0 rfl)
theorem dX6_isMissing_7 : decode cX6_isMissing 7 = .ok (.iconst 1, 1) := dx_4 (dl_at 0 7 lb_X6_isMissing_0 rfl)
theorem dX6_isMissing_8 : decode cX6_isMissing 8 = .ok (.goto 4, 3) := dx_167 (a := 0) (b := 4) (dl_at 0 8 lb_X6_isMissing_0 rfl) (dl_at 0 9 lb_X6_isMissing_0 rfl) (dl_at 0 10 lb_X6_isMissing_0 rfl) sg16_4
theorem lb_X9_isMissing_0 : dl_ck (cX9_isMissing.data.toList.drop 0) [42, 180, 0, 15, 156, 0, 7, 4, 167, 0, 4, 3, 172] = true := by decide +kernel
theorem dX9_isMissing_0 : decode cX9_isMissing 0 = .ok (.aload_n 0, 1) := dx_42 (dl_at 0 0 lb_X9_isMissing_0 rfl)
theorem dX9_isMissing_1 : decode cX9_isMissing 1 = .ok (.getfield 15, 3) := dx_180 (a := 0) (b := 15) (dl_at 0 1 lb_X9_isMissing_0 rfl) (dl_at 0 2 lb_X9_isMissing_0 rfl) (dl_at 0 3 lb_X9_isMissing_0 rfl) rfl
theorem dX9_isMissing_4 : decode cX9_isMissing 4 = .ok (.ifCond .ge 7, 3) := dx_156 (a := 0) (b := 7) (dl_at 0 4 lb_X9_isMissing_0 rfl) (dl_at 0 5 lb_X9_isMissing_0 rfl) (dl_at 0 6 lb_X9_isMissing_0 rfl) sg16_7
theorem dX9_isMissing_11 : decode cX9_isMissing 11 = .ok (.iconst 0, 1) := dx_3 (dl_at 0 11 lb_X9_isMissing_0 rfl)
theorem dX9_isMissing_12 : decode cX9_isMissing 12 = .ok (.ireturn, 1) := dx_172 (dl_at 0 12 lb_X9_isMissing_0 rfl)
theorem dX9_isMissing_7 : decode cX9_isMissing 7 = .ok (.iconst 1, 1) := dx_4 (dl_at 0 7 lb_X9_isMissing_0 rfl)
theorem dX9_isMissing_8 : decode cX9_isMissing 8 = .ok (.goto 4, 3) := dx_167 (a := 0) (b := 4) (dl_at 0 8 lb_X9_isMissing_0 rfl) (dl_at 0 9 lb_X9_isMissing_0 rfl) (dl_at 0 10 lb_X9_isMissing_0 rfl) sg16_4
theorem lb_X11_refusedRow_0 : dl_ck (cX11_refusedRow.data.toList.drop 0) [27, 184, 0, 69, 154, 0, 5, 2, 172, 42, 180, 0, 11, 27, 50, 182, 0, 98, 153, 0, 11, 42, 4, 182, 0, 73, 167, 0, 4, 3, 172] = true := by decide +kernel
theorem dX11_refusedRow_0 : decode cX11_refusedRow 0 = .ok (.iload_n 1, 1) := dx_27 (dl_at 0 0 lb_X11_refusedRow_0 rfl)
theorem dX11_refusedRow_1 : decode cX11_refusedRow 1 = .ok (.invokestatic 69, 3) := dx_184 (a := 0) (b := 69) (dl_at 0 1 lb_X11_refusedRow_0 rfl) (dl_at 0 2 lb_X11_refusedRow_0 rfl) (dl_at 0 3 lb_X11_refusedRow_0 rfl) rfl
theorem dX11_refusedRow_4 : decode cX11_refusedRow 4 = .ok (.ifCond .ne 5, 3) := dx_154 (a := 0) (b := 5) (dl_at 0 4 lb_X11_refusedRow_0 rfl) (dl_at 0 5 lb_X11_refusedRow_0 rfl) (dl_at 0 6 lb_X11_refusedRow_0 rfl) sg16_5
theorem dX11_refusedRow_9 : decode cX11_refusedRow 9 = .ok (.aload_n 0, 1) := dx_42 (dl_at 0 9 lb_X11_refusedRow_0 rfl)
theorem dX11_refusedRow_10 : decode cX11_refusedRow 10 = .ok (.getfield 11, 3) := dx_180 (a := 0) (b := 11) (dl_at 0 10 lb_X11_refusedRow_0 rfl) (dl_at 0 11 lb_X11_refusedRow_0 rfl) (dl_at 0 12 lb_X11_refusedRow_0 rfl) rfl
theorem dX11_refusedRow_13 : decode cX11_refusedRow 13 = .ok (.iload_n 1, 1) := dx_27 (dl_at 0 13 lb_X11_refusedRow_0 rfl)
theorem dX11_refusedRow_14 : decode cX11_refusedRow 14 = .ok (.aaload, 1) := dx_50 (dl_at 0 14 lb_X11_refusedRow_0 rfl)
theorem dX11_refusedRow_15 : decode cX11_refusedRow 15 = .ok (.invokevirtual 98, 3) := dx_182 (a := 0) (b := 98) (dl_at 0 15 lb_X11_refusedRow_0 rfl) (dl_at 0 16 lb_X11_refusedRow_0 rfl) (dl_at 0 17 lb_X11_refusedRow_0 rfl) rfl
theorem dX11_refusedRow_18 : decode cX11_refusedRow 18 = .ok (.ifCond .eq 11, 3) := dx_153 (a := 0) (b := 11) (dl_at 0 18 lb_X11_refusedRow_0 rfl) (dl_at 0 19 lb_X11_refusedRow_0 rfl) (dl_at 0 20 lb_X11_refusedRow_0 rfl) sg16_11
theorem dX11_refusedRow_21 : decode cX11_refusedRow 21 = .ok (.aload_n 0, 1) := dx_42 (dl_at 0 21 lb_X11_refusedRow_0 rfl)
theorem dX11_refusedRow_22 : decode cX11_refusedRow 22 = .ok (.iconst 1, 1) := dx_4 (dl_at 0 22 lb_X11_refusedRow_0 rfl)
theorem dX11_refusedRow_23 : decode cX11_refusedRow 23 = .ok (.invokevirtual 73, 3) := dx_182 (a := 0) (b := 73) (dl_at 0 23 lb_X11_refusedRow_0 rfl) (dl_at 0 24 lb_X11_refusedRow_0 rfl) (dl_at 0 25 lb_X11_refusedRow_0 rfl) rfl
theorem dX11_refusedRow_26 : decode cX11_refusedRow 26 = .ok (.goto 4, 3) := dx_167 (a := 0) (b := 4) (dl_at 0 26 lb_X11_refusedRow_0 rfl) (dl_at 0 27 lb_X11_refusedRow_0 rfl) (dl_at 0 28 lb_X11_refusedRow_0 rfl) sg16_4
theorem dX11_refusedRow_30 : decode cX11_refusedRow 30 = .ok (.ireturn, 1) := dx_172 (dl_at 0 30 lb_X11_refusedRow_0 rfl)
theorem dX11_refusedRow_29 : decode cX11_refusedRow 29 = .ok (.iconst 0, 1) := dx_3 (dl_at 0 29 lb_X11_refusedRow_0 rfl)
theorem dX11_refusedRow_7 : decode cX11_refusedRow 7 = .ok (.iconst (-1), 1) := dx_2 (dl_at 0 7 lb_X11_refusedRow_0 rfl)
theorem dX11_refusedRow_8 : decode cX11_refusedRow 8 = .ok (.ireturn, 1) := dx_172 (dl_at 0 8 lb_X11_refusedRow_0 rfl)
theorem lb_X11_refusedText_0 : dl_ck (cX11_refusedText.data.toList.drop 0) [27, 184, 0, 112, 154, 0, 5, 2, 172, 42, 180, 0, 17, 27, 50, 182, 1, 126, 153, 0, 11, 42, 4, 182, 0, 73, 167, 0, 4, 3, 172] = true := by decide +kernel
theorem dX11_refusedText_0 : decode cX11_refusedText 0 = .ok (.iload_n 1, 1) := dx_27 (dl_at 0 0 lb_X11_refusedText_0 rfl)
theorem dX11_refusedText_1 : decode cX11_refusedText 1 = .ok (.invokestatic 112, 3) := dx_184 (a := 0) (b := 112) (dl_at 0 1 lb_X11_refusedText_0 rfl) (dl_at 0 2 lb_X11_refusedText_0 rfl) (dl_at 0 3 lb_X11_refusedText_0 rfl) rfl
theorem dX11_refusedText_4 : decode cX11_refusedText 4 = .ok (.ifCond .ne 5, 3) := dx_154 (a := 0) (b := 5) (dl_at 0 4 lb_X11_refusedText_0 rfl) (dl_at 0 5 lb_X11_refusedText_0 rfl) (dl_at 0 6 lb_X11_refusedText_0 rfl) sg16_5
theorem dX11_refusedText_9 : decode cX11_refusedText 9 = .ok (.aload_n 0, 1) := dx_42 (dl_at 0 9 lb_X11_refusedText_0 rfl)
theorem dX11_refusedText_10 : decode cX11_refusedText 10 = .ok (.getfield 17, 3) := dx_180 (a := 0) (b := 17) (dl_at 0 10 lb_X11_refusedText_0 rfl) (dl_at 0 11 lb_X11_refusedText_0 rfl) (dl_at 0 12 lb_X11_refusedText_0 rfl) rfl
theorem dX11_refusedText_13 : decode cX11_refusedText 13 = .ok (.iload_n 1, 1) := dx_27 (dl_at 0 13 lb_X11_refusedText_0 rfl)
theorem dX11_refusedText_14 : decode cX11_refusedText 14 = .ok (.aaload, 1) := dx_50 (dl_at 0 14 lb_X11_refusedText_0 rfl)
theorem dX11_refusedText_15 : decode cX11_refusedText 15 = .ok (.invokevirtual 382, 3) := dx_182 (a := 1) (b := 126) (dl_at 0 15 lb_X11_refusedText_0 rfl) (dl_at 0 16 lb_X11_refusedText_0 rfl) (dl_at 0 17 lb_X11_refusedText_0 rfl) rfl
theorem dX11_refusedText_18 : decode cX11_refusedText 18 = .ok (.ifCond .eq 11, 3) := dx_153 (a := 0) (b := 11) (dl_at 0 18 lb_X11_refusedText_0 rfl) (dl_at 0 19 lb_X11_refusedText_0 rfl) (dl_at 0 20 lb_X11_refusedText_0 rfl) sg16_11
theorem dX11_refusedText_21 : decode cX11_refusedText 21 = .ok (.aload_n 0, 1) := dx_42 (dl_at 0 21 lb_X11_refusedText_0 rfl)
theorem dX11_refusedText_22 : decode cX11_refusedText 22 = .ok (.iconst 1, 1) := dx_4 (dl_at 0 22 lb_X11_refusedText_0 rfl)
theorem dX11_refusedText_23 : decode cX11_refusedText 23 = .ok (.invokevirtual 73, 3) := dx_182 (a := 0) (b := 73) (dl_at 0 23 lb_X11_refusedText_0 rfl) (dl_at 0 24 lb_X11_refusedText_0 rfl) (dl_at 0 25 lb_X11_refusedText_0 rfl) rfl
theorem dX11_refusedText_26 : decode cX11_refusedText 26 = .ok (.goto 4, 3) := dx_167 (a := 0) (b := 4) (dl_at 0 26 lb_X11_refusedText_0 rfl) (dl_at 0 27 lb_X11_refusedText_0 rfl) (dl_at 0 28 lb_X11_refusedText_0 rfl) sg16_4
theorem dX11_refusedText_30 : decode cX11_refusedText 30 = .ok (.ireturn, 1) := dx_172 (dl_at 0 30 lb_X11_refusedText_0 rfl)
theorem dX11_refusedText_29 : decode cX11_refusedText 29 = .ok (.iconst 0, 1) := dx_3 (dl_at 0 29 lb_X11_refusedText_0 rfl)
theorem dX11_refusedText_7 : decode cX11_refusedText 7 = .ok (.iconst (-1), 1) := dx_2 (dl_at 0 7 lb_X11_refusedText_0 rfl)
theorem dX11_refusedText_8 : decode cX11_refusedText 8 = .ok (.ireturn, 1) := dx_172 (dl_at 0 8 lb_X11_refusedText_0 rfl)
def F_sx_hasBit (va : Int32) (vb : Int32) : Int32 :=
  LETV (va >>> (vb &&& 31) : Int32) fun t1 =>
  LETV (t1 &&& 1 : Int32) fun t2 =>
  if t2 = (0 : Int32) then (
    (0 : Int32)
  ) else (
    (1 : Int32)
  )
def F_sx_priceAsked (va : Int32) (vb : Int32) : Int32 :=
  if (va).toInt < 1 ∨ 5 < (va).toInt then (
    LETV (vb + 1 : Int32) fun t2 =>
    (t2 : Int32)
  ) else (
    if (va).toInt = 1 then (
      LETV (vb + 3 : Int32) fun t3 =>
      (t3 : Int32)
    ) else (
      if (va).toInt = 2 then (
        (vb : Int32)
      ) else (
        if (va).toInt = 3 then (
          LETV (vb + 1 : Int32) fun t4 =>
          (t4 : Int32)
        ) else (
          if (va).toInt = 4 then (
            LETV (vb + 3 : Int32) fun t5 =>
            LETV (2 * t5 : Int32) fun t6 =>
            (t6 : Int32)
          ) else (
            (0 : Int32)
          )
        )
      )
    )
  )
def F_sx_isOfKind (va : Int32) (vb : Int32) : Int32 :=
  if va = vb then (
    (1 : Int32)
  ) else (
    if vb = (0 : Int32) then (
      (1 : Int32)
    ) else (
      if va = (4 : Int32) then (
        if vb = (1 : Int32) then (
          (1 : Int32)
        ) else (
          (0 : Int32)
        )
      ) else (
        if va = (5 : Int32) then (
          if vb = (2 : Int32) then (
            (1 : Int32)
          ) else (
            (0 : Int32)
          )
        ) else (
          (0 : Int32)
        )
      )
    )
  )
def F_sx_isRow (va : Int32) : Int32 :=
  if va < (0 : Int32) then (
    (0 : Int32)
  ) else (
    if va ≥ (6 : Int32) then (
      (0 : Int32)
    ) else (
      (1 : Int32)
    )
  )
def F_sx_isText (va : Int32) : Int32 :=
  if va < (0 : Int32) then (
    (0 : Int32)
  ) else (
    if va ≥ (4 : Int32) then (
      (0 : Int32)
    ) else (
      (1 : Int32)
    )
  )
def F_sx_isPlace (va : Int32) : Int32 :=
  if va < (0 : Int32) then (
    (0 : Int32)
  ) else (
    if va ≥ (3 : Int32) then (
      (0 : Int32)
    ) else (
      (1 : Int32)
    )
  )
def F_sx_has (mu : Nat → Nat → Int32) (vx : Int32) : Int32 :=
  if vx < (0 : Int32) then (
    (0 : Int32)
  ) else (
    LETV (mu 4 6 : Int32) fun y2 =>
    if vx ≥ y2 then (
      (0 : Int32)
    ) else (
      (1 : Int32)
    )
  )
def F_sx_found (mu : Nat → Nat → Int32) (vw : Int32) : Int32 × (Nat → Nat → Int32) :=
  LETV (va_up mu 0 (upd (mu 0) 9 vw) : Nat → Nat → Int32) fun nu1 =>
  LETV (nu1 7 vw.toNatClampNeg : Int32) fun y4 =>
  LETV (y4 + 1 : Int32) fun t5 =>
  LETV (va_up nu1 7 (upd (nu1 7) vw.toNatClampNeg t5) : Nat → Nat → Int32) fun nu6 =>
  (((-3) : Int32), nu6)
def L_sx_near_5_0 (mu : Nat → Nat → Int32) (vs : Int32) (vx : Int32) : Nat → (Int32) → (Int32) → Int32
  | 0, v3_5, v4_5 => 0
  | n + 1, v3_5, v4_5 =>
    LETV (mu 4 7 : Int32) fun y1 =>
    if v4_5 ≥ y1 then (
      (v3_5 : Int32)
    ) else (
      LETV (F_sx_hasBit (vs : Int32) (v4_5 : Int32) : Int32) fun r3 =>
      if r3 = (0 : Int32) then (
        LETV (mu 35 v4_5.toNatClampNeg : Int32) fun y5 =>
        if y5 = vx then (
          LETV (mu 36 v4_5.toNatClampNeg : Int32) fun y13 =>
          LETV (1 <<< (y13 &&& 31) : Int32) fun t14 =>
          LETV (v3_5 ||| t14 : Int32) fun t15 =>
          LETV ((v4_5 + 1) : Int32) fun w16 =>
          L_sx_near_5_0 mu vs vx n (t15 : Int32) (w16 : Int32)
        ) else (
          LETV (mu 36 v4_5.toNatClampNeg : Int32) fun y7 =>
          if y7 = vx then (
            LETV (1 <<< (y5 &&& 31) : Int32) fun t10 =>
            LETV (v3_5 ||| t10 : Int32) fun t11 =>
            LETV ((v4_5 + 1) : Int32) fun w12 =>
            L_sx_near_5_0 mu vs vx n (t11 : Int32) (w12 : Int32)
          ) else (
            LETV ((v4_5 + 1) : Int32) fun w9 =>
            L_sx_near_5_0 mu vs vx n (v3_5 : Int32) (w9 : Int32)
          )
        )
      ) else (
        LETV ((v4_5 + 1) : Int32) fun w17 =>
        L_sx_near_5_0 mu vs vx n (v3_5 : Int32) (w17 : Int32)
      )
    )
def F_sx_near (mu : Nat → Nat → Int32) (vx : Int32) (vs : Int32) : Int32 :=
  L_sx_near_5_0 mu vs vx 15 (0 : Int32) (0 : Int32)
def F_sx_Row_isMissing (mu : Nat → Nat → Int32) (kk : Nat) : Int32 :=
  LETV (mu kk 1 : Int32) fun y1 =>
  if y1 ≥ (0 : Int32) then (
    (0 : Int32)
  ) else (
    (1 : Int32)
  )
def F_sx_Text_isMissing (mu : Nat → Nat → Int32) (kk : Nat) : Int32 :=
  LETV (mu kk 1 : Int32) fun y1 =>
  if y1 ≥ (0 : Int32) then (
    (0 : Int32)
  ) else (
    (1 : Int32)
  )
def F_sx_refusedRow (mu : Nat → Nat → Int32) (vr : Int32) : Int32 × (Nat → Nat → Int32) :=
  if F_sx_isRow (vr : Int32) = 1 then (
    if F_sx_Row_isMissing mu (8 + vr.toNatClampNeg) = 1 then (
      LETP (F_sx_found mu (1 : Int32)) fun r4 xi4 =>
      ((r4 : Int32), xi4)
    ) else (
      ((0 : Int32), mu)
    )
  ) else (
    (((-1) : Int32), mu)
  )
def F_sx_refusedText (mu : Nat → Nat → Int32) (vt : Int32) : Int32 × (Nat → Nat → Int32) :=
  if F_sx_isText (vt : Int32) = 1 then (
    if F_sx_Text_isMissing mu (14 + vt.toNatClampNeg) = 1 then (
      LETP (F_sx_found mu (1 : Int32)) fun r4 xi4 =>
      ((r4 : Int32), xi4)
    ) else (
      ((0 : Int32), mu)
    )
  ) else (
    (((-1) : Int32), mu)
  )
