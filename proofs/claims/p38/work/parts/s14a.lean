theorem mw_1_57 : (Cond.fieldLink RX3 18 "DearLetters$Letter" "worthAtFirst" "I" : Cond) ∈ lw_good := lg_at 1 57 rfl rfl
theorem mw_1_58 : (Cond.fieldLink RX3 21 "DearLetters$Letter" "fall" "I" : Cond) ∈ lw_good := lg_at 1 58 rfl rfl
theorem mw_1_60 : (Cond.fieldLink RX3 24 "DearLetters$Letter" "sentOn" "I" : Cond) ∈ lw_good := lg_at 1 60 rfl rfl
theorem mw_3_171 : (Cond.methodLink RX3 43 Lib.Math.max.name : Cond) ∈ lw_good := lg_at 3 171 rfl rfl
theorem mw_3_172 : (Cond.static Lib.Math.max.name : Cond) ∈ lw_good := lg_at 3 172 rfl rfl
theorem mw_3_173 : (Cond.code Lib.Math.max.name Lib.Math.max.code 2 (some .int) : Cond) ∈ lw_good := lg_at 3 173 rfl rfl
theorem mw_1_75 : (Cond.fieldLink RX3 36 "DearLetters$Letter" "timesSold" "I" : Cond) ∈ lw_good := lg_at 1 75 rfl rfl
theorem mw_1_51 : (Cond.fieldLink RX3 9 "DearLetters$Letter" "sender" "I" : Cond) ∈ lw_good := lg_at 1 51 rfl rfl
theorem mw_1_52 : (Cond.fieldLink RX3 15 "DearLetters$Letter" "reader" "I" : Cond) ∈ lw_good := lg_at 1 52 rfl rfl
theorem mw_3_170 : (Cond.code yX3_worthOn cX3_worthOn 2 (some .int) : Cond) ∈ lw_good := lg_at 3 170 rfl rfl
theorem mw_3_201 : (Cond.methodLink RX3 49 yX3_worthOn : Cond) ∈ lw_good := lg_at 3 201 rfl rfl
theorem mw_3_168 : (Cond.instanceMethod yX3_worthOn : Cond) ∈ lw_good := lg_at 3 168 rfl rfl
theorem mw_3_169 : (Cond.selects RX3 yX3_worthOn yX3_worthOn : Cond) ∈ lw_good := lg_at 3 169 rfl rfl
theorem mw_1_4 : (Cond.initialized RX3 : Cond) ∈ lw_good := lg_at 1 4 rfl rfl
theorem mw_1_77 : (Cond.fieldLink RX3 39 "DearLetters$Letter" "isRead" "Z" : Cond) ∈ lw_good := lg_at 1 77 rfl rfl
theorem mw_1_62 : (Cond.fieldLink RX3 27 "DearLetters$Letter" "holder" "I" : Cond) ∈ lw_good := lg_at 1 62 rfl rfl
theorem mw_1_67 : (Cond.fieldLink RX3 30 "DearLetters$Letter" "paid" "I" : Cond) ∈ lw_good := lg_at 1 67 rfl rfl
theorem mw_1_71 : (Cond.fieldLink RX3 33 "DearLetters$Letter" "soldOn" "I" : Cond) ∈ lw_good := lg_at 1 71 rfl rfl
theorem mw_5_23 : (Cond.constantLong RX3 53 31 : Cond) ∈ lw_good := lg_at 5 23 rfl rfl
theorem mw_3_200 : (Cond.code yX3_fact cX3_fact 3 (some .int) : Cond) ∈ lw_good := lg_at 3 200 rfl rfl
theorem mw_5_24 : (Cond.methodLink RX3 55 yX3_fact : Cond) ∈ lw_good := lg_at 5 24 rfl rfl
theorem mw_3_198 : (Cond.instanceMethod yX3_fact : Cond) ∈ lw_good := lg_at 3 198 rfl rfl
theorem mw_3_199 : (Cond.selects RX3 yX3_fact yX3_fact : Cond) ∈ lw_good := lg_at 3 199 rfl rfl
theorem mw_1_74 : (Cond.fieldLink RX10 92 "DearLetters$Letter" "soldOn" "I" : Cond) ∈ lw_good := lg_at 1 74 rfl rfl
theorem mw_1_123 : (Cond.fieldLink RX10 95 "DearLetters$Standing" "day" "I" : Cond) ∈ lw_good := lg_at 1 123 rfl rfl
theorem mw_3_165 : (Cond.code yX10_priceOf cX10_priceOf 2 (some .int) : Cond) ∈ lw_good := lg_at 3 165 rfl rfl
theorem mw_3_162 : (Cond.methodLink RX10 98 yX10_priceOf : Cond) ∈ lw_good := lg_at 3 162 rfl rfl
theorem mw_3_163 : (Cond.instanceMethod yX10_priceOf : Cond) ∈ lw_good := lg_at 3 163 rfl rfl
theorem mw_3_164 : (Cond.selects RX10 yX10_priceOf yX10_priceOf : Cond) ∈ lw_good := lg_at 3 164 rfl rfl
theorem mw_3_167 : (Cond.methodLink RX10 102 yX3_worthOn : Cond) ∈ lw_good := lg_at 3 167 rfl rfl
theorem mw_3_161 : (Cond.code yX10_buyersOf cX10_buyersOf 6 (some .int) : Cond) ∈ lw_good := lg_at 3 161 rfl rfl
theorem mw_4_130 : (Cond.methodLink RX10 105 yX10_buyersOf : Cond) ∈ lw_good := lg_at 4 130 rfl rfl
theorem mw_3_159 : (Cond.instanceMethod yX10_buyersOf : Cond) ∈ lw_good := lg_at 3 159 rfl rfl
theorem mw_3_160 : (Cond.selects RX10 yX10_buyersOf yX10_buyersOf : Cond) ∈ lw_good := lg_at 3 160 rfl rfl
theorem mw_3_97 : (Cond.code yX10_unreadWith cX10_unreadWith 4 (some .int) : Cond) ∈ lw_good := lg_at 3 97 rfl rfl
theorem mw_3_94 : (Cond.methodLink RX10 61 yX10_unreadWith : Cond) ∈ lw_good := lg_at 3 94 rfl rfl
theorem mw_3_96 : (Cond.instanceMethod yX10_unreadWith : Cond) ∈ lw_good := lg_at 3 96 rfl rfl
theorem mw_0_6 : (Cond.selects RX10 yX10_unreadWith yX10_unreadWith : Cond) ∈ lw_good := lg_at 0 6 rfl rfl
theorem mw_3_90 : (Cond.code yJ6_bitCount_0f7a4 cJ6_bitCount_0f7a4 1 (some .int) : Cond) ∈ lw_good := lg_at 3 90 rfl rfl
theorem mw_3_88 : (Cond.methodLink RX10 55 yJ6_bitCount_0f7a4 : Cond) ∈ lw_good := lg_at 3 88 rfl rfl
theorem mw_3_89 : (Cond.static yJ6_bitCount_0f7a4 : Cond) ∈ lw_good := lg_at 3 89 rfl rfl
theorem mw_1_16 : (Cond.initialized RJ6 : Cond) ∈ lw_good := lg_at 1 16 rfl rfl
theorem mw_5_22 : (Cond.code yX3_digestOn cX3_digestOn 7 (some .long) : Cond) ∈ lw_good := lg_at 5 22 rfl rfl
theorem mw_5_19 : (Cond.methodLink RX10 137 yX3_digestOn : Cond) ∈ lw_good := lg_at 5 19 rfl rfl
theorem mw_5_20 : (Cond.instanceMethod yX3_digestOn : Cond) ∈ lw_good := lg_at 5 20 rfl rfl
theorem mw_5_21 : (Cond.selects RX3 yX3_digestOn yX3_digestOn : Cond) ∈ lw_good := lg_at 5 21 rfl rfl
theorem mw_5_17 : (Cond.constantLong RX10 132 31 : Cond) ∈ lw_good := lg_at 5 17 rfl rfl
theorem mw_3_80 : (Cond.code yX10_bearerFact cX10_bearerFact 3 (some .int) : Cond) ∈ lw_good := lg_at 3 80 rfl rfl
theorem mw_5_18 : (Cond.methodLink RX10 134 yX10_bearerFact : Cond) ∈ lw_good := lg_at 5 18 rfl rfl
theorem mw_3_78 : (Cond.instanceMethod yX10_bearerFact : Cond) ∈ lw_good := lg_at 3 78 rfl rfl
theorem mw_3_79 : (Cond.selects RX10 yX10_bearerFact yX10_bearerFact : Cond) ∈ lw_good := lg_at 3 79 rfl rfl
theorem hX_letter_0 (cs : Nat → ClassId) (ad : Nat → Nat) (g : Nat → Int32) (v : Int32) (k : Nat) (h1 : 61 ≤ k) (h2 : k < 77) : EX cs ad k (upd g 0 v) = .inr (3, [.int v, .int (g 1), .int (g 2), .int (g 3), .int (g 4), .int (g 5), .int (g 6), .int (g 7), .int (g 8), .int (g 9)]) := by
  rw [EX_letter cs ad _ _ h1 h2]; rfl
theorem tX_letter_0 {mu : Nat → Nat → Int32} (ok : okR loX hiX mu) {nu : Nat → Nat → Int32} {v : Int32} (k : Nat) (h1 : 61 ≤ k) (h2 : k < 77) (hn : va_up mu k (upd (mu k) 0 v) = nu) : okR loX hiX nu := by
  subst hn
  exact okR_up ok k 0 v (by unfold loX; rw [clX_letter k h1 h2]; exact tI_lo v) (by unfold hiX; rw [clX_letter k h1 h2]; exact tI_hi v)
theorem hX_letter_1 (cs : Nat → ClassId) (ad : Nat → Nat) (g : Nat → Int32) (v : Int32) (k : Nat) (h1 : 61 ≤ k) (h2 : k < 77) : EX cs ad k (upd g 1 v) = .inr (3, [.int (g 0), .int v, .int (g 2), .int (g 3), .int (g 4), .int (g 5), .int (g 6), .int (g 7), .int (g 8), .int (g 9)]) := by
  rw [EX_letter cs ad _ _ h1 h2]; rfl
theorem tX_letter_1 {mu : Nat → Nat → Int32} (ok : okR loX hiX mu) {nu : Nat → Nat → Int32} {v : Int32} (k : Nat) (h1 : 61 ≤ k) (h2 : k < 77) (hn : va_up mu k (upd (mu k) 1 v) = nu) (hv : 0 ≤ v.toInt ∧ v.toInt ≤ 6) : okR loX hiX nu := by
  subst hn
  exact okR_up ok k 1 v (by unfold loX; rw [clX_letter k h1 h2]; exact hv.1) (by unfold hiX; rw [clX_letter k h1 h2]; exact hv.2)
theorem hX_letter_2 (cs : Nat → ClassId) (ad : Nat → Nat) (g : Nat → Int32) (v : Int32) (k : Nat) (h1 : 61 ≤ k) (h2 : k < 77) : EX cs ad k (upd g 2 v) = .inr (3, [.int (g 0), .int (g 1), .int v, .int (g 3), .int (g 4), .int (g 5), .int (g 6), .int (g 7), .int (g 8), .int (g 9)]) := by
  rw [EX_letter cs ad _ _ h1 h2]; rfl
theorem tX_letter_2 {mu : Nat → Nat → Int32} (ok : okR loX hiX mu) {nu : Nat → Nat → Int32} {v : Int32} (k : Nat) (h1 : 61 ≤ k) (h2 : k < 77) (hn : va_up mu k (upd (mu k) 2 v) = nu) : okR loX hiX nu := by
  subst hn
  exact okR_up ok k 2 v (by unfold loX; rw [clX_letter k h1 h2]; exact tI_lo v) (by unfold hiX; rw [clX_letter k h1 h2]; exact tI_hi v)
theorem hX_letter_3 (cs : Nat → ClassId) (ad : Nat → Nat) (g : Nat → Int32) (v : Int32) (k : Nat) (h1 : 61 ≤ k) (h2 : k < 77) : EX cs ad k (upd g 3 v) = .inr (3, [.int (g 0), .int (g 1), .int (g 2), .int v, .int (g 4), .int (g 5), .int (g 6), .int (g 7), .int (g 8), .int (g 9)]) := by
  rw [EX_letter cs ad _ _ h1 h2]; rfl
theorem tX_letter_3 {mu : Nat → Nat → Int32} (ok : okR loX hiX mu) {nu : Nat → Nat → Int32} {v : Int32} (k : Nat) (h1 : 61 ≤ k) (h2 : k < 77) (hn : va_up mu k (upd (mu k) 3 v) = nu) : okR loX hiX nu := by
  subst hn
  exact okR_up ok k 3 v (by unfold loX; rw [clX_letter k h1 h2]; exact tI_lo v) (by unfold hiX; rw [clX_letter k h1 h2]; exact tI_hi v)
theorem hX_letter_4 (cs : Nat → ClassId) (ad : Nat → Nat) (g : Nat → Int32) (v : Int32) (k : Nat) (h1 : 61 ≤ k) (h2 : k < 77) : EX cs ad k (upd g 4 v) = .inr (3, [.int (g 0), .int (g 1), .int (g 2), .int (g 3), .int v, .int (g 5), .int (g 6), .int (g 7), .int (g 8), .int (g 9)]) := by
  rw [EX_letter cs ad _ _ h1 h2]; rfl
theorem tX_letter_4 {mu : Nat → Nat → Int32} (ok : okR loX hiX mu) {nu : Nat → Nat → Int32} {v : Int32} (k : Nat) (h1 : 61 ≤ k) (h2 : k < 77) (hn : va_up mu k (upd (mu k) 4 v) = nu) : okR loX hiX nu := by
  subst hn
  exact okR_up ok k 4 v (by unfold loX; rw [clX_letter k h1 h2]; exact tI_lo v) (by unfold hiX; rw [clX_letter k h1 h2]; exact tI_hi v)
theorem hX_letter_5 (cs : Nat → ClassId) (ad : Nat → Nat) (g : Nat → Int32) (v : Int32) (k : Nat) (h1 : 61 ≤ k) (h2 : k < 77) : EX cs ad k (upd g 5 v) = .inr (3, [.int (g 0), .int (g 1), .int (g 2), .int (g 3), .int (g 4), .int v, .int (g 6), .int (g 7), .int (g 8), .int (g 9)]) := by
  rw [EX_letter cs ad _ _ h1 h2]; rfl
theorem tX_letter_5 {mu : Nat → Nat → Int32} (ok : okR loX hiX mu) {nu : Nat → Nat → Int32} {v : Int32} (k : Nat) (h1 : 61 ≤ k) (h2 : k < 77) (hn : va_up mu k (upd (mu k) 5 v) = nu) (hv : 0 ≤ v.toInt ∧ v.toInt ≤ 6) : okR loX hiX nu := by
  subst hn
  exact okR_up ok k 5 v (by unfold loX; rw [clX_letter k h1 h2]; exact hv.1) (by unfold hiX; rw [clX_letter k h1 h2]; exact hv.2)
theorem hX_letter_6 (cs : Nat → ClassId) (ad : Nat → Nat) (g : Nat → Int32) (v : Int32) (k : Nat) (h1 : 61 ≤ k) (h2 : k < 77) : EX cs ad k (upd g 6 v) = .inr (3, [.int (g 0), .int (g 1), .int (g 2), .int (g 3), .int (g 4), .int (g 5), .int v, .int (g 7), .int (g 8), .int (g 9)]) := by
  rw [EX_letter cs ad _ _ h1 h2]; rfl
theorem tX_letter_6 {mu : Nat → Nat → Int32} (ok : okR loX hiX mu) {nu : Nat → Nat → Int32} {v : Int32} (k : Nat) (h1 : 61 ≤ k) (h2 : k < 77) (hn : va_up mu k (upd (mu k) 6 v) = nu) : okR loX hiX nu := by
  subst hn
  exact okR_up ok k 6 v (by unfold loX; rw [clX_letter k h1 h2]; exact tI_lo v) (by unfold hiX; rw [clX_letter k h1 h2]; exact tI_hi v)
theorem hX_letter_7 (cs : Nat → ClassId) (ad : Nat → Nat) (g : Nat → Int32) (v : Int32) (k : Nat) (h1 : 61 ≤ k) (h2 : k < 77) : EX cs ad k (upd g 7 v) = .inr (3, [.int (g 0), .int (g 1), .int (g 2), .int (g 3), .int (g 4), .int (g 5), .int (g 6), .int v, .int (g 8), .int (g 9)]) := by
  rw [EX_letter cs ad _ _ h1 h2]; rfl
theorem tX_letter_7 {mu : Nat → Nat → Int32} (ok : okR loX hiX mu) {nu : Nat → Nat → Int32} {v : Int32} (k : Nat) (h1 : 61 ≤ k) (h2 : k < 77) (hn : va_up mu k (upd (mu k) 7 v) = nu) : okR loX hiX nu := by
  subst hn
  exact okR_up ok k 7 v (by unfold loX; rw [clX_letter k h1 h2]; exact tI_lo v) (by unfold hiX; rw [clX_letter k h1 h2]; exact tI_hi v)
theorem hX_letter_8 (cs : Nat → ClassId) (ad : Nat → Nat) (g : Nat → Int32) (v : Int32) (k : Nat) (h1 : 61 ≤ k) (h2 : k < 77) : EX cs ad k (upd g 8 v) = .inr (3, [.int (g 0), .int (g 1), .int (g 2), .int (g 3), .int (g 4), .int (g 5), .int (g 6), .int (g 7), .int v, .int (g 9)]) := by
  rw [EX_letter cs ad _ _ h1 h2]; rfl
theorem tX_letter_8 {mu : Nat → Nat → Int32} (ok : okR loX hiX mu) {nu : Nat → Nat → Int32} {v : Int32} (k : Nat) (h1 : 61 ≤ k) (h2 : k < 77) (hn : va_up mu k (upd (mu k) 8 v) = nu) : okR loX hiX nu := by
  subst hn
  exact okR_up ok k 8 v (by unfold loX; rw [clX_letter k h1 h2]; exact tI_lo v) (by unfold hiX; rw [clX_letter k h1 h2]; exact tI_hi v)
theorem hX_letter_9 (cs : Nat → ClassId) (ad : Nat → Nat) (g : Nat → Int32) (v : Int32) (k : Nat) (h1 : 61 ≤ k) (h2 : k < 77) : EX cs ad k (upd g 9 v) = .inr (3, [.int (g 0), .int (g 1), .int (g 2), .int (g 3), .int (g 4), .int (g 5), .int (g 6), .int (g 7), .int (g 8), .int v]) := by
  rw [EX_letter cs ad _ _ h1 h2]; rfl
theorem tX_letter_9 {mu : Nat → Nat → Int32} (ok : okR loX hiX mu) {nu : Nat → Nat → Int32} {v : Int32} (k : Nat) (h1 : 61 ≤ k) (h2 : k < 77) (hn : va_up mu k (upd (mu k) 9 v) = nu) (hv : 0 ≤ v.toInt ∧ v.toInt ≤ 1) : okR loX hiX nu := by
  subst hn
  exact okR_up ok k 9 v (by unfold loX; rw [clX_letter k h1 h2]; exact hv.1) (by unfold hiX; rw [clX_letter k h1 h2]; exact hv.2)
theorem lb_X3_worthOn_0 : dl_ck (cX3_worthOn.data.toList.drop 0) [3, 42, 180, 0, 18, 42, 180, 0, 21, 27, 42, 180, 0, 24, 100, 104, 100, 184, 0, 43, 172] = true := by decide +kernel
theorem dX3_worthOn_0 : decode cX3_worthOn 0 = .ok (.iconst 0, 1) := dx_3 (dl_at 0 0 lb_X3_worthOn_0 rfl)
theorem dX3_worthOn_1 : decode cX3_worthOn 1 = .ok (.aload_n 0, 1) := dx_42 (dl_at 0 1 lb_X3_worthOn_0 rfl)
theorem dX3_worthOn_2 : decode cX3_worthOn 2 = .ok (.getfield 18, 3) := dx_180 (a := 0) (b := 18) (dl_at 0 2 lb_X3_worthOn_0 rfl) (dl_at 0 3 lb_X3_worthOn_0 rfl) (dl_at 0 4 lb_X3_worthOn_0 rfl) rfl
theorem dX3_worthOn_5 : decode cX3_worthOn 5 = .ok (.aload_n 0, 1) := dx_42 (dl_at 0 5 lb_X3_worthOn_0 rfl)
theorem dX3_worthOn_6 : decode cX3_worthOn 6 = .ok (.getfield 21, 3) := dx_180 (a := 0) (b := 21) (dl_at 0 6 lb_X3_worthOn_0 rfl) (dl_at 0 7 lb_X3_worthOn_0 rfl) (dl_at 0 8 lb_X3_worthOn_0 rfl) rfl
theorem dX3_worthOn_9 : decode cX3_worthOn 9 = .ok (.iload_n 1, 1) := dx_27 (dl_at 0 9 lb_X3_worthOn_0 rfl)
theorem dX3_worthOn_10 : decode cX3_worthOn 10 = .ok (.aload_n 0, 1) := dx_42 (dl_at 0 10 lb_X3_worthOn_0 rfl)
theorem dX3_worthOn_11 : decode cX3_worthOn 11 = .ok (.getfield 24, 3) := dx_180 (a := 0) (b := 24) (dl_at 0 11 lb_X3_worthOn_0 rfl) (dl_at 0 12 lb_X3_worthOn_0 rfl) (dl_at 0 13 lb_X3_worthOn_0 rfl) rfl
theorem dX3_worthOn_14 : decode cX3_worthOn 14 = .ok (.isub, 1) := dx_100 (dl_at 0 14 lb_X3_worthOn_0 rfl)
theorem dX3_worthOn_15 : decode cX3_worthOn 15 = .ok (.imul, 1) := dx_104 (dl_at 0 15 lb_X3_worthOn_0 rfl)
theorem dX3_worthOn_16 : decode cX3_worthOn 16 = .ok (.isub, 1) := dx_100 (dl_at 0 16 lb_X3_worthOn_0 rfl)
theorem dX3_worthOn_17 : decode cX3_worthOn 17 = .ok (.invokestatic 43, 3) := dx_184 (a := 0) (b := 43) (dl_at 0 17 lb_X3_worthOn_0 rfl) (dl_at 0 18 lb_X3_worthOn_0 rfl) (dl_at 0 19 lb_X3_worthOn_0 rfl) rfl
theorem dX3_worthOn_20 : decode cX3_worthOn 20 = .ok (.ireturn, 1) := dx_172 (dl_at 0 20 lb_X3_worthOn_0 rfl)
theorem lb_X3_fact_0 : dl_ck (cX3_fact.data.toList.drop 0) [27, 170, 0, 0, 0, 0, 0, 60, 0, 0, 0, 0, 0, 0, 0, 3, 0, 0, 0, 31, 0, 0, 0, 36, 0, 0, 0, 41, 0, 0, 0, 47] = true := by decide +kernel
theorem lb_X3_fact_1 : dl_ck (cX3_fact.data.toList.drop 32) [42, 180, 0, 9, 172, 42, 180, 0, 15, 172, 42, 28, 182, 0, 49, 172, 42, 180, 0, 39, 153, 0, 7, 4, 167, 0, 4, 3, 172, 42, 180, 0] = true := by decide +kernel
theorem lb_X3_fact_2 : dl_ck (cX3_fact.data.toList.drop 64) [36, 172] = true := by decide +kernel
theorem dX3_fact_0 : decode cX3_fact 0 = .ok (.iload_n 1, 1) := dx_27 (dl_at 0 0 lb_X3_fact_0 rfl)
theorem dX3_fact_1 : decode cX3_fact 1 = .ok (.tableswitch 60 0 3 #[31, 36, 41, 47], 31) := by decide +kernel
theorem dX3_fact_61 : decode cX3_fact 61 = .ok (.aload_n 0, 1) := dx_42 (dl_at 32 29 lb_X3_fact_1 rfl)
theorem dX3_fact_62 : decode cX3_fact 62 = .ok (.getfield 36, 3) := dx_180 (a := 0) (b := 36) (dl_at 32 30 lb_X3_fact_1 rfl) (dl_at 32 31 lb_X3_fact_1 rfl) (dl_at 64 0 lb_X3_fact_2 rfl) rfl
theorem dX3_fact_65 : decode cX3_fact 65 = .ok (.ireturn, 1) := dx_172 (dl_at 64 1 lb_X3_fact_2 rfl)
theorem dX3_fact_32 : decode cX3_fact 32 = .ok (.aload_n 0, 1) := dx_42 (dl_at 32 0 lb_X3_fact_1 rfl)
theorem dX3_fact_33 : decode cX3_fact 33 = .ok (.getfield 9, 3) := dx_180 (a := 0) (b := 9) (dl_at 32 1 lb_X3_fact_1 rfl) (dl_at 32 2 lb_X3_fact_1 rfl) (dl_at 32 3 lb_X3_fact_1 rfl) rfl
theorem dX3_fact_36 : decode cX3_fact 36 = .ok (.ireturn, 1) := dx_172 (dl_at 32 4 lb_X3_fact_1 rfl)
theorem dX3_fact_37 : decode cX3_fact 37 = .ok (.aload_n 0, 1) := dx_42 (dl_at 32 5 lb_X3_fact_1 rfl)
theorem dX3_fact_38 : decode cX3_fact 38 = .ok (.getfield 15, 3) := dx_180 (a := 0) (b := 15) (dl_at 32 6 lb_X3_fact_1 rfl) (dl_at 32 7 lb_X3_fact_1 rfl) (dl_at 32 8 lb_X3_fact_1 rfl) rfl
theorem dX3_fact_41 : decode cX3_fact 41 = .ok (.ireturn, 1) := dx_172 (dl_at 32 9 lb_X3_fact_1 rfl)
theorem dX3_fact_42 : decode cX3_fact 42 = .ok (.aload_n 0, 1) := dx_42 (dl_at 32 10 lb_X3_fact_1 rfl)
theorem dX3_fact_43 : decode cX3_fact 43 = .ok (.iload_n 2, 1) := dx_28 (dl_at 32 11 lb_X3_fact_1 rfl)
theorem dX3_fact_44 : decode cX3_fact 44 = .ok (.invokevirtual 49, 3) := dx_182 (a := 0) (b := 49) (dl_at 32 12 lb_X3_fact_1 rfl) (dl_at 32 13 lb_X3_fact_1 rfl) (dl_at 32 14 lb_X3_fact_1 rfl) rfl
theorem dX3_fact_47 : decode cX3_fact 47 = .ok (.ireturn, 1) := dx_172 (dl_at 32 15 lb_X3_fact_1 rfl)
theorem dX3_fact_48 : decode cX3_fact 48 = .ok (.aload_n 0, 1) := dx_42 (dl_at 32 16 lb_X3_fact_1 rfl)
theorem dX3_fact_49 : decode cX3_fact 49 = .ok (.getfield 39, 3) := dx_180 (a := 0) (b := 39) (dl_at 32 17 lb_X3_fact_1 rfl) (dl_at 32 18 lb_X3_fact_1 rfl) (dl_at 32 19 lb_X3_fact_1 rfl) rfl
theorem dX3_fact_52 : decode cX3_fact 52 = .ok (.ifCond .eq 7, 3) := dx_153 (a := 0) (b := 7) (dl_at 32 20 lb_X3_fact_1 rfl) (dl_at 32 21 lb_X3_fact_1 rfl) (dl_at 32 22 lb_X3_fact_1 rfl) sg16_7
theorem dX3_fact_59 : decode cX3_fact 59 = .ok (.iconst 0, 1) := dx_3 (dl_at 32 27 lb_X3_fact_1 rfl)
theorem dX3_fact_60 : decode cX3_fact 60 = .ok (.ireturn, 1) := dx_172 (dl_at 32 28 lb_X3_fact_1 rfl)
theorem dX3_fact_55 : decode cX3_fact 55 = .ok (.iconst 1, 1) := dx_4 (dl_at 32 23 lb_X3_fact_1 rfl)
theorem dX3_fact_56 : decode cX3_fact 56 = .ok (.goto 4, 3) := dx_167 (a := 0) (b := 4) (dl_at 32 24 lb_X3_fact_1 rfl) (dl_at 32 25 lb_X3_fact_1 rfl) (dl_at 32 26 lb_X3_fact_1 rfl) sg16_4
theorem lb_X3_begin_0 : dl_ck (cX3_begin.data.toList.drop 0) [42, 27, 181, 0, 9, 42, 28, 181, 0, 15, 42, 29, 181, 0, 18, 42, 21, 4, 181, 0, 21, 42, 21, 5, 181, 0, 24, 42, 27, 181, 0, 27] = true := by decide +kernel
theorem lb_X3_begin_1 : dl_ck (cX3_begin.data.toList.drop 32) [42, 3, 181, 0, 30, 42, 16, 247, 181, 0, 33, 42, 3, 181, 0, 36, 42, 3, 181, 0, 39, 177] = true := by decide +kernel
theorem dX3_begin_0 : decode cX3_begin 0 = .ok (.aload_n 0, 1) := dx_42 (dl_at 0 0 lb_X3_begin_0 rfl)
theorem dX3_begin_1 : decode cX3_begin 1 = .ok (.iload_n 1, 1) := dx_27 (dl_at 0 1 lb_X3_begin_0 rfl)
theorem dX3_begin_2 : decode cX3_begin 2 = .ok (.putfield 9, 3) := dx_181 (a := 0) (b := 9) (dl_at 0 2 lb_X3_begin_0 rfl) (dl_at 0 3 lb_X3_begin_0 rfl) (dl_at 0 4 lb_X3_begin_0 rfl) rfl
theorem dX3_begin_5 : decode cX3_begin 5 = .ok (.aload_n 0, 1) := dx_42 (dl_at 0 5 lb_X3_begin_0 rfl)
theorem dX3_begin_6 : decode cX3_begin 6 = .ok (.iload_n 2, 1) := dx_28 (dl_at 0 6 lb_X3_begin_0 rfl)
theorem dX3_begin_7 : decode cX3_begin 7 = .ok (.putfield 15, 3) := dx_181 (a := 0) (b := 15) (dl_at 0 7 lb_X3_begin_0 rfl) (dl_at 0 8 lb_X3_begin_0 rfl) (dl_at 0 9 lb_X3_begin_0 rfl) rfl
theorem dX3_begin_10 : decode cX3_begin 10 = .ok (.aload_n 0, 1) := dx_42 (dl_at 0 10 lb_X3_begin_0 rfl)
theorem dX3_begin_11 : decode cX3_begin 11 = .ok (.iload_n 3, 1) := dx_29 (dl_at 0 11 lb_X3_begin_0 rfl)
theorem dX3_begin_12 : decode cX3_begin 12 = .ok (.putfield 18, 3) := dx_181 (a := 0) (b := 18) (dl_at 0 12 lb_X3_begin_0 rfl) (dl_at 0 13 lb_X3_begin_0 rfl) (dl_at 0 14 lb_X3_begin_0 rfl) rfl
theorem dX3_begin_15 : decode cX3_begin 15 = .ok (.aload_n 0, 1) := dx_42 (dl_at 0 15 lb_X3_begin_0 rfl)
theorem dX3_begin_16 : decode cX3_begin 16 = .ok (.iload 4, 2) := dx_21 (dl_at 0 16 lb_X3_begin_0 rfl) (dl_at 0 17 lb_X3_begin_0 rfl)
theorem dX3_begin_18 : decode cX3_begin 18 = .ok (.putfield 21, 3) := dx_181 (a := 0) (b := 21) (dl_at 0 18 lb_X3_begin_0 rfl) (dl_at 0 19 lb_X3_begin_0 rfl) (dl_at 0 20 lb_X3_begin_0 rfl) rfl
theorem dX3_begin_21 : decode cX3_begin 21 = .ok (.aload_n 0, 1) := dx_42 (dl_at 0 21 lb_X3_begin_0 rfl)
theorem dX3_begin_22 : decode cX3_begin 22 = .ok (.iload 5, 2) := dx_21 (dl_at 0 22 lb_X3_begin_0 rfl) (dl_at 0 23 lb_X3_begin_0 rfl)
theorem dX3_begin_24 : decode cX3_begin 24 = .ok (.putfield 24, 3) := dx_181 (a := 0) (b := 24) (dl_at 0 24 lb_X3_begin_0 rfl) (dl_at 0 25 lb_X3_begin_0 rfl) (dl_at 0 26 lb_X3_begin_0 rfl) rfl
theorem dX3_begin_27 : decode cX3_begin 27 = .ok (.aload_n 0, 1) := dx_42 (dl_at 0 27 lb_X3_begin_0 rfl)
theorem dX3_begin_28 : decode cX3_begin 28 = .ok (.iload_n 1, 1) := dx_27 (dl_at 0 28 lb_X3_begin_0 rfl)
theorem dX3_begin_29 : decode cX3_begin 29 = .ok (.putfield 27, 3) := dx_181 (a := 0) (b := 27) (dl_at 0 29 lb_X3_begin_0 rfl) (dl_at 0 30 lb_X3_begin_0 rfl) (dl_at 0 31 lb_X3_begin_0 rfl) rfl
theorem dX3_begin_32 : decode cX3_begin 32 = .ok (.aload_n 0, 1) := dx_42 (dl_at 32 0 lb_X3_begin_1 rfl)
theorem dX3_begin_33 : decode cX3_begin 33 = .ok (.iconst 0, 1) := dx_3 (dl_at 32 1 lb_X3_begin_1 rfl)
theorem dX3_begin_34 : decode cX3_begin 34 = .ok (.putfield 30, 3) := dx_181 (a := 0) (b := 30) (dl_at 32 2 lb_X3_begin_1 rfl) (dl_at 32 3 lb_X3_begin_1 rfl) (dl_at 32 4 lb_X3_begin_1 rfl) rfl
theorem dX3_begin_37 : decode cX3_begin 37 = .ok (.aload_n 0, 1) := dx_42 (dl_at 32 5 lb_X3_begin_1 rfl)
theorem dX3_begin_38 : decode cX3_begin 38 = .ok (.bipush (-9), 2) := dx_16 (dl_at 32 6 lb_X3_begin_1 rfl) (dl_at 32 7 lb_X3_begin_1 rfl) sg8_247
theorem dX3_begin_40 : decode cX3_begin 40 = .ok (.putfield 33, 3) := dx_181 (a := 0) (b := 33) (dl_at 32 8 lb_X3_begin_1 rfl) (dl_at 32 9 lb_X3_begin_1 rfl) (dl_at 32 10 lb_X3_begin_1 rfl) rfl
theorem dX3_begin_43 : decode cX3_begin 43 = .ok (.aload_n 0, 1) := dx_42 (dl_at 32 11 lb_X3_begin_1 rfl)
theorem dX3_begin_44 : decode cX3_begin 44 = .ok (.iconst 0, 1) := dx_3 (dl_at 32 12 lb_X3_begin_1 rfl)
theorem dX3_begin_45 : decode cX3_begin 45 = .ok (.putfield 36, 3) := dx_181 (a := 0) (b := 36) (dl_at 32 13 lb_X3_begin_1 rfl) (dl_at 32 14 lb_X3_begin_1 rfl) (dl_at 32 15 lb_X3_begin_1 rfl) rfl
theorem dX3_begin_48 : decode cX3_begin 48 = .ok (.aload_n 0, 1) := dx_42 (dl_at 32 16 lb_X3_begin_1 rfl)
theorem dX3_begin_49 : decode cX3_begin 49 = .ok (.iconst 0, 1) := dx_3 (dl_at 32 17 lb_X3_begin_1 rfl)
theorem dX3_begin_50 : decode cX3_begin 50 = .ok (.putfield 39, 3) := dx_181 (a := 0) (b := 39) (dl_at 32 18 lb_X3_begin_1 rfl) (dl_at 32 19 lb_X3_begin_1 rfl) (dl_at 32 20 lb_X3_begin_1 rfl) rfl
theorem dX3_begin_53 : decode cX3_begin 53 = .ok (.return_, 1) := dx_177 (dl_at 32 21 lb_X3_begin_1 rfl)
theorem lb_X3_beLike_0 : dl_ck (cX3_beLike.data.toList.drop 0) [42, 43, 180, 0, 9, 181, 0, 9, 42, 43, 180, 0, 15, 181, 0, 15, 42, 43, 180, 0, 18, 181, 0, 18, 42, 43, 180, 0, 21, 181, 0, 21] = true := by decide +kernel
theorem lb_X3_beLike_1 : dl_ck (cX3_beLike.data.toList.drop 32) [42, 43, 180, 0, 24, 181, 0, 24, 42, 43, 180, 0, 27, 181, 0, 27, 42, 43, 180, 0, 30, 181, 0, 30, 42, 43, 180, 0, 33, 181, 0, 33] = true := by decide +kernel
theorem lb_X3_beLike_2 : dl_ck (cX3_beLike.data.toList.drop 64) [42, 43, 180, 0, 36, 181, 0, 36, 42, 43, 180, 0, 39, 181, 0, 39, 177] = true := by decide +kernel
theorem dX3_beLike_0 : decode cX3_beLike 0 = .ok (.aload_n 0, 1) := dx_42 (dl_at 0 0 lb_X3_beLike_0 rfl)
theorem dX3_beLike_1 : decode cX3_beLike 1 = .ok (.aload_n 1, 1) := dx_43 (dl_at 0 1 lb_X3_beLike_0 rfl)
theorem dX3_beLike_2 : decode cX3_beLike 2 = .ok (.getfield 9, 3) := dx_180 (a := 0) (b := 9) (dl_at 0 2 lb_X3_beLike_0 rfl) (dl_at 0 3 lb_X3_beLike_0 rfl) (dl_at 0 4 lb_X3_beLike_0 rfl) rfl
theorem dX3_beLike_5 : decode cX3_beLike 5 = .ok (.putfield 9, 3) := dx_181 (a := 0) (b := 9) (dl_at 0 5 lb_X3_beLike_0 rfl) (dl_at 0 6 lb_X3_beLike_0 rfl) (dl_at 0 7 lb_X3_beLike_0 rfl) rfl
theorem dX3_beLike_8 : decode cX3_beLike 8 = .ok (.aload_n 0, 1) := dx_42 (dl_at 0 8 lb_X3_beLike_0 rfl)
theorem dX3_beLike_9 : decode cX3_beLike 9 = .ok (.aload_n 1, 1) := dx_43 (dl_at 0 9 lb_X3_beLike_0 rfl)
theorem dX3_beLike_10 : decode cX3_beLike 10 = .ok (.getfield 15, 3) := dx_180 (a := 0) (b := 15) (dl_at 0 10 lb_X3_beLike_0 rfl) (dl_at 0 11 lb_X3_beLike_0 rfl) (dl_at 0 12 lb_X3_beLike_0 rfl) rfl
theorem dX3_beLike_13 : decode cX3_beLike 13 = .ok (.putfield 15, 3) := dx_181 (a := 0) (b := 15) (dl_at 0 13 lb_X3_beLike_0 rfl) (dl_at 0 14 lb_X3_beLike_0 rfl) (dl_at 0 15 lb_X3_beLike_0 rfl) rfl
theorem dX3_beLike_16 : decode cX3_beLike 16 = .ok (.aload_n 0, 1) := dx_42 (dl_at 0 16 lb_X3_beLike_0 rfl)
theorem dX3_beLike_17 : decode cX3_beLike 17 = .ok (.aload_n 1, 1) := dx_43 (dl_at 0 17 lb_X3_beLike_0 rfl)
theorem dX3_beLike_18 : decode cX3_beLike 18 = .ok (.getfield 18, 3) := dx_180 (a := 0) (b := 18) (dl_at 0 18 lb_X3_beLike_0 rfl) (dl_at 0 19 lb_X3_beLike_0 rfl) (dl_at 0 20 lb_X3_beLike_0 rfl) rfl
theorem dX3_beLike_21 : decode cX3_beLike 21 = .ok (.putfield 18, 3) := dx_181 (a := 0) (b := 18) (dl_at 0 21 lb_X3_beLike_0 rfl) (dl_at 0 22 lb_X3_beLike_0 rfl) (dl_at 0 23 lb_X3_beLike_0 rfl) rfl
theorem dX3_beLike_24 : decode cX3_beLike 24 = .ok (.aload_n 0, 1) := dx_42 (dl_at 0 24 lb_X3_beLike_0 rfl)
theorem dX3_beLike_25 : decode cX3_beLike 25 = .ok (.aload_n 1, 1) := dx_43 (dl_at 0 25 lb_X3_beLike_0 rfl)
theorem dX3_beLike_26 : decode cX3_beLike 26 = .ok (.getfield 21, 3) := dx_180 (a := 0) (b := 21) (dl_at 0 26 lb_X3_beLike_0 rfl) (dl_at 0 27 lb_X3_beLike_0 rfl) (dl_at 0 28 lb_X3_beLike_0 rfl) rfl
theorem dX3_beLike_29 : decode cX3_beLike 29 = .ok (.putfield 21, 3) := dx_181 (a := 0) (b := 21) (dl_at 0 29 lb_X3_beLike_0 rfl) (dl_at 0 30 lb_X3_beLike_0 rfl) (dl_at 0 31 lb_X3_beLike_0 rfl) rfl
theorem dX3_beLike_32 : decode cX3_beLike 32 = .ok (.aload_n 0, 1) := dx_42 (dl_at 32 0 lb_X3_beLike_1 rfl)
theorem dX3_beLike_33 : decode cX3_beLike 33 = .ok (.aload_n 1, 1) := dx_43 (dl_at 32 1 lb_X3_beLike_1 rfl)
theorem dX3_beLike_34 : decode cX3_beLike 34 = .ok (.getfield 24, 3) := dx_180 (a := 0) (b := 24) (dl_at 32 2 lb_X3_beLike_1 rfl) (dl_at 32 3 lb_X3_beLike_1 rfl) (dl_at 32 4 lb_X3_beLike_1 rfl) rfl
theorem dX3_beLike_37 : decode cX3_beLike 37 = .ok (.putfield 24, 3) := dx_181 (a := 0) (b := 24) (dl_at 32 5 lb_X3_beLike_1 rfl) (dl_at 32 6 lb_X3_beLike_1 rfl) (dl_at 32 7 lb_X3_beLike_1 rfl) rfl
theorem dX3_beLike_40 : decode cX3_beLike 40 = .ok (.aload_n 0, 1) := dx_42 (dl_at 32 8 lb_X3_beLike_1 rfl)
theorem dX3_beLike_41 : decode cX3_beLike 41 = .ok (.aload_n 1, 1) := dx_43 (dl_at 32 9 lb_X3_beLike_1 rfl)
theorem dX3_beLike_42 : decode cX3_beLike 42 = .ok (.getfield 27, 3) := dx_180 (a := 0) (b := 27) (dl_at 32 10 lb_X3_beLike_1 rfl) (dl_at 32 11 lb_X3_beLike_1 rfl) (dl_at 32 12 lb_X3_beLike_1 rfl) rfl
theorem dX3_beLike_45 : decode cX3_beLike 45 = .ok (.putfield 27, 3) := dx_181 (a := 0) (b := 27) (dl_at 32 13 lb_X3_beLike_1 rfl) (dl_at 32 14 lb_X3_beLike_1 rfl) (dl_at 32 15 lb_X3_beLike_1 rfl) rfl
theorem dX3_beLike_48 : decode cX3_beLike 48 = .ok (.aload_n 0, 1) := dx_42 (dl_at 32 16 lb_X3_beLike_1 rfl)
theorem dX3_beLike_49 : decode cX3_beLike 49 = .ok (.aload_n 1, 1) := dx_43 (dl_at 32 17 lb_X3_beLike_1 rfl)
theorem dX3_beLike_50 : decode cX3_beLike 50 = .ok (.getfield 30, 3) := dx_180 (a := 0) (b := 30) (dl_at 32 18 lb_X3_beLike_1 rfl) (dl_at 32 19 lb_X3_beLike_1 rfl) (dl_at 32 20 lb_X3_beLike_1 rfl) rfl
theorem dX3_beLike_53 : decode cX3_beLike 53 = .ok (.putfield 30, 3) := dx_181 (a := 0) (b := 30) (dl_at 32 21 lb_X3_beLike_1 rfl) (dl_at 32 22 lb_X3_beLike_1 rfl) (dl_at 32 23 lb_X3_beLike_1 rfl) rfl
theorem dX3_beLike_56 : decode cX3_beLike 56 = .ok (.aload_n 0, 1) := dx_42 (dl_at 32 24 lb_X3_beLike_1 rfl)
theorem dX3_beLike_57 : decode cX3_beLike 57 = .ok (.aload_n 1, 1) := dx_43 (dl_at 32 25 lb_X3_beLike_1 rfl)
theorem dX3_beLike_58 : decode cX3_beLike 58 = .ok (.getfield 33, 3) := dx_180 (a := 0) (b := 33) (dl_at 32 26 lb_X3_beLike_1 rfl) (dl_at 32 27 lb_X3_beLike_1 rfl) (dl_at 32 28 lb_X3_beLike_1 rfl) rfl
theorem dX3_beLike_61 : decode cX3_beLike 61 = .ok (.putfield 33, 3) := dx_181 (a := 0) (b := 33) (dl_at 32 29 lb_X3_beLike_1 rfl) (dl_at 32 30 lb_X3_beLike_1 rfl) (dl_at 32 31 lb_X3_beLike_1 rfl) rfl
theorem dX3_beLike_64 : decode cX3_beLike 64 = .ok (.aload_n 0, 1) := dx_42 (dl_at 64 0 lb_X3_beLike_2 rfl)
theorem dX3_beLike_65 : decode cX3_beLike 65 = .ok (.aload_n 1, 1) := dx_43 (dl_at 64 1 lb_X3_beLike_2 rfl)
theorem dX3_beLike_66 : decode cX3_beLike 66 = .ok (.getfield 36, 3) := dx_180 (a := 0) (b := 36) (dl_at 64 2 lb_X3_beLike_2 rfl) (dl_at 64 3 lb_X3_beLike_2 rfl) (dl_at 64 4 lb_X3_beLike_2 rfl) rfl
theorem dX3_beLike_69 : decode cX3_beLike 69 = .ok (.putfield 36, 3) := dx_181 (a := 0) (b := 36) (dl_at 64 5 lb_X3_beLike_2 rfl) (dl_at 64 6 lb_X3_beLike_2 rfl) (dl_at 64 7 lb_X3_beLike_2 rfl) rfl
theorem dX3_beLike_72 : decode cX3_beLike 72 = .ok (.aload_n 0, 1) := dx_42 (dl_at 64 8 lb_X3_beLike_2 rfl)
theorem dX3_beLike_73 : decode cX3_beLike 73 = .ok (.aload_n 1, 1) := dx_43 (dl_at 64 9 lb_X3_beLike_2 rfl)
theorem dX3_beLike_74 : decode cX3_beLike 74 = .ok (.getfield 39, 3) := dx_180 (a := 0) (b := 39) (dl_at 64 10 lb_X3_beLike_2 rfl) (dl_at 64 11 lb_X3_beLike_2 rfl) (dl_at 64 12 lb_X3_beLike_2 rfl) rfl
theorem dX3_beLike_77 : decode cX3_beLike 77 = .ok (.putfield 39, 3) := dx_181 (a := 0) (b := 39) (dl_at 64 13 lb_X3_beLike_2 rfl) (dl_at 64 14 lb_X3_beLike_2 rfl) (dl_at 64 15 lb_X3_beLike_2 rfl) rfl
theorem dX3_beLike_80 : decode cX3_beLike 80 = .ok (.return_, 1) := dx_177 (dl_at 64 16 lb_X3_beLike_2 rfl)
theorem lb_X3_digestOn_0 : dl_ck (cX3_digestOn.data.toList.drop 0) [31, 55, 4, 3, 54, 6, 21, 6, 8, 162, 0, 26, 20, 0, 53, 22, 4, 105, 42, 21, 6, 29, 182, 0, 55, 133, 97, 55, 4, 132, 6, 1] = true := by decide +kernel
theorem lb_X3_digestOn_1 : dl_ck (cX3_digestOn.data.toList.drop 32) [167, 255, 230, 20, 0, 53, 22, 4, 105, 42, 180, 0, 27, 133, 97, 55, 4, 20, 0, 53, 22, 4, 105, 42, 180, 0, 30, 133, 97, 173] = true := by decide +kernel
theorem dX3_digestOn_0 : decode cX3_digestOn 0 = .ok (.lload_n 1, 1) := dx_31 (dl_at 0 0 lb_X3_digestOn_0 rfl)
theorem dX3_digestOn_1 : decode cX3_digestOn 1 = .ok (.lstore 4, 2) := dx_55 (dl_at 0 1 lb_X3_digestOn_0 rfl) (dl_at 0 2 lb_X3_digestOn_0 rfl)
theorem dX3_digestOn_3 : decode cX3_digestOn 3 = .ok (.iconst 0, 1) := dx_3 (dl_at 0 3 lb_X3_digestOn_0 rfl)
theorem dX3_digestOn_4 : decode cX3_digestOn 4 = .ok (.istore 6, 2) := dx_54 (dl_at 0 4 lb_X3_digestOn_0 rfl) (dl_at 0 5 lb_X3_digestOn_0 rfl)
theorem dX3_digestOn_6 : decode cX3_digestOn 6 = .ok (.iload 6, 2) := dx_21 (dl_at 0 6 lb_X3_digestOn_0 rfl) (dl_at 0 7 lb_X3_digestOn_0 rfl)
theorem dX3_digestOn_8 : decode cX3_digestOn 8 = .ok (.iconst 5, 1) := dx_8 (dl_at 0 8 lb_X3_digestOn_0 rfl)
theorem dX3_digestOn_9 : decode cX3_digestOn 9 = .ok (.if_icmp .ge 26, 3) := dx_162 (a := 0) (b := 26) (dl_at 0 9 lb_X3_digestOn_0 rfl) (dl_at 0 10 lb_X3_digestOn_0 rfl) (dl_at 0 11 lb_X3_digestOn_0 rfl) sg16_26
theorem dX3_digestOn_35 : decode cX3_digestOn 35 = .ok (.ldc2_w 53, 3) := dx_20 (a := 0) (b := 53) (dl_at 32 3 lb_X3_digestOn_1 rfl) (dl_at 32 4 lb_X3_digestOn_1 rfl) (dl_at 32 5 lb_X3_digestOn_1 rfl) rfl
theorem dX3_digestOn_38 : decode cX3_digestOn 38 = .ok (.lload 4, 2) := dx_22 (dl_at 32 6 lb_X3_digestOn_1 rfl) (dl_at 32 7 lb_X3_digestOn_1 rfl)
theorem dX3_digestOn_40 : decode cX3_digestOn 40 = .ok (.lmul, 1) := dx_105 (dl_at 32 8 lb_X3_digestOn_1 rfl)
theorem dX3_digestOn_41 : decode cX3_digestOn 41 = .ok (.aload_n 0, 1) := dx_42 (dl_at 32 9 lb_X3_digestOn_1 rfl)
theorem dX3_digestOn_42 : decode cX3_digestOn 42 = .ok (.getfield 27, 3) := dx_180 (a := 0) (b := 27) (dl_at 32 10 lb_X3_digestOn_1 rfl) (dl_at 32 11 lb_X3_digestOn_1 rfl) (dl_at 32 12 lb_X3_digestOn_1 rfl) rfl
theorem dX3_digestOn_45 : decode cX3_digestOn 45 = .ok (.i2l, 1) := dx_133 (dl_at 32 13 lb_X3_digestOn_1 rfl)
theorem dX3_digestOn_46 : decode cX3_digestOn 46 = .ok (.ladd, 1) := dx_97 (dl_at 32 14 lb_X3_digestOn_1 rfl)
theorem dX3_digestOn_47 : decode cX3_digestOn 47 = .ok (.lstore 4, 2) := dx_55 (dl_at 32 15 lb_X3_digestOn_1 rfl) (dl_at 32 16 lb_X3_digestOn_1 rfl)
theorem dX3_digestOn_49 : decode cX3_digestOn 49 = .ok (.ldc2_w 53, 3) := dx_20 (a := 0) (b := 53) (dl_at 32 17 lb_X3_digestOn_1 rfl) (dl_at 32 18 lb_X3_digestOn_1 rfl) (dl_at 32 19 lb_X3_digestOn_1 rfl) rfl
theorem dX3_digestOn_52 : decode cX3_digestOn 52 = .ok (.lload 4, 2) := dx_22 (dl_at 32 20 lb_X3_digestOn_1 rfl) (dl_at 32 21 lb_X3_digestOn_1 rfl)
theorem dX3_digestOn_54 : decode cX3_digestOn 54 = .ok (.lmul, 1) := dx_105 (dl_at 32 22 lb_X3_digestOn_1 rfl)
theorem dX3_digestOn_55 : decode cX3_digestOn 55 = .ok (.aload_n 0, 1) := dx_42 (dl_at 32 23 lb_X3_digestOn_1 rfl)
theorem dX3_digestOn_56 : decode cX3_digestOn 56 = .ok (.getfield 30, 3) := dx_180 (a := 0) (b := 30) (dl_at 32 24 lb_X3_digestOn_1 rfl) (dl_at 32 25 lb_X3_digestOn_1 rfl) (dl_at 32 26 lb_X3_digestOn_1 rfl) rfl
theorem dX3_digestOn_59 : decode cX3_digestOn 59 = .ok (.i2l, 1) := dx_133 (dl_at 32 27 lb_X3_digestOn_1 rfl)
theorem dX3_digestOn_60 : decode cX3_digestOn 60 = .ok (.ladd, 1) := dx_97 (dl_at 32 28 lb_X3_digestOn_1 rfl)
theorem dX3_digestOn_61 : decode cX3_digestOn 61 = .ok (.lreturn, 1) := dx_173 (dl_at 32 29 lb_X3_digestOn_1 rfl)
theorem dX3_digestOn_12 : decode cX3_digestOn 12 = .ok (.ldc2_w 53, 3) := dx_20 (a := 0) (b := 53) (dl_at 0 12 lb_X3_digestOn_0 rfl) (dl_at 0 13 lb_X3_digestOn_0 rfl) (dl_at 0 14 lb_X3_digestOn_0 rfl) rfl
theorem dX3_digestOn_15 : decode cX3_digestOn 15 = .ok (.lload 4, 2) := dx_22 (dl_at 0 15 lb_X3_digestOn_0 rfl) (dl_at 0 16 lb_X3_digestOn_0 rfl)
theorem dX3_digestOn_17 : decode cX3_digestOn 17 = .ok (.lmul, 1) := dx_105 (dl_at 0 17 lb_X3_digestOn_0 rfl)
theorem dX3_digestOn_18 : decode cX3_digestOn 18 = .ok (.aload_n 0, 1) := dx_42 (dl_at 0 18 lb_X3_digestOn_0 rfl)
theorem dX3_digestOn_19 : decode cX3_digestOn 19 = .ok (.iload 6, 2) := dx_21 (dl_at 0 19 lb_X3_digestOn_0 rfl) (dl_at 0 20 lb_X3_digestOn_0 rfl)
theorem dX3_digestOn_21 : decode cX3_digestOn 21 = .ok (.iload_n 3, 1) := dx_29 (dl_at 0 21 lb_X3_digestOn_0 rfl)
theorem dX3_digestOn_22 : decode cX3_digestOn 22 = .ok (.invokevirtual 55, 3) := dx_182 (a := 0) (b := 55) (dl_at 0 22 lb_X3_digestOn_0 rfl) (dl_at 0 23 lb_X3_digestOn_0 rfl) (dl_at 0 24 lb_X3_digestOn_0 rfl) rfl
theorem dX3_digestOn_25 : decode cX3_digestOn 25 = .ok (.i2l, 1) := dx_133 (dl_at 0 25 lb_X3_digestOn_0 rfl)
theorem dX3_digestOn_26 : decode cX3_digestOn 26 = .ok (.ladd, 1) := dx_97 (dl_at 0 26 lb_X3_digestOn_0 rfl)
theorem dX3_digestOn_27 : decode cX3_digestOn 27 = .ok (.lstore 4, 2) := dx_55 (dl_at 0 27 lb_X3_digestOn_0 rfl) (dl_at 0 28 lb_X3_digestOn_0 rfl)
theorem dX3_digestOn_29 : decode cX3_digestOn 29 = .ok (.iinc 6 1, 3) := dx_132 (dl_at 0 29 lb_X3_digestOn_0 rfl) (dl_at 0 30 lb_X3_digestOn_0 rfl) (dl_at 0 31 lb_X3_digestOn_0 rfl) sg8_1
theorem dX3_digestOn_32 : decode cX3_digestOn 32 = .ok (.goto (-26), 3) := dx_167 (a := 255) (b := 230) (dl_at 32 0 lb_X3_digestOn_1 rfl) (dl_at 32 1 lb_X3_digestOn_1 rfl) (dl_at 32 2 lb_X3_digestOn_1 rfl) sg16_65510
theorem lb_X10_priceOf_0 : dl_ck (cX10_priceOf.data.toList.drop 0) [42, 180, 0, 9, 43, 180, 0, 71, 46, 43, 180, 0, 83, 184, 0, 89, 172] = true := by decide +kernel
theorem dX10_priceOf_0 : decode cX10_priceOf 0 = .ok (.aload_n 0, 1) := dx_42 (dl_at 0 0 lb_X10_priceOf_0 rfl)
theorem dX10_priceOf_1 : decode cX10_priceOf 1 = .ok (.getfield 9, 3) := dx_180 (a := 0) (b := 9) (dl_at 0 1 lb_X10_priceOf_0 rfl) (dl_at 0 2 lb_X10_priceOf_0 rfl) (dl_at 0 3 lb_X10_priceOf_0 rfl) rfl
theorem dX10_priceOf_4 : decode cX10_priceOf 4 = .ok (.aload_n 1, 1) := dx_43 (dl_at 0 4 lb_X10_priceOf_0 rfl)
theorem dX10_priceOf_5 : decode cX10_priceOf 5 = .ok (.getfield 71, 3) := dx_180 (a := 0) (b := 71) (dl_at 0 5 lb_X10_priceOf_0 rfl) (dl_at 0 6 lb_X10_priceOf_0 rfl) (dl_at 0 7 lb_X10_priceOf_0 rfl) rfl
theorem dX10_priceOf_8 : decode cX10_priceOf 8 = .ok (.iaload, 1) := dx_46 (dl_at 0 8 lb_X10_priceOf_0 rfl)
theorem dX10_priceOf_9 : decode cX10_priceOf 9 = .ok (.aload_n 1, 1) := dx_43 (dl_at 0 9 lb_X10_priceOf_0 rfl)
theorem dX10_priceOf_10 : decode cX10_priceOf 10 = .ok (.getfield 83, 3) := dx_180 (a := 0) (b := 83) (dl_at 0 10 lb_X10_priceOf_0 rfl) (dl_at 0 11 lb_X10_priceOf_0 rfl) (dl_at 0 12 lb_X10_priceOf_0 rfl) rfl
theorem dX10_priceOf_13 : decode cX10_priceOf 13 = .ok (.invokestatic 89, 3) := dx_184 (a := 0) (b := 89) (dl_at 0 13 lb_X10_priceOf_0 rfl) (dl_at 0 14 lb_X10_priceOf_0 rfl) (dl_at 0 15 lb_X10_priceOf_0 rfl) rfl
theorem dX10_priceOf_16 : decode cX10_priceOf 16 = .ok (.ireturn, 1) := dx_172 (dl_at 0 16 lb_X10_priceOf_0 rfl)
theorem lb_X10_buyersOf_0 : dl_ck (cX10_buyersOf.data.toList.drop 0) [43, 180, 0, 76, 154, 0, 17, 43, 180, 0, 92, 42, 180, 0, 24, 180, 0, 95, 160, 0, 5, 3, 172, 42, 43, 182, 0, 98, 61, 42, 43, 180] = true := by decide +kernel
theorem lb_X10_buyersOf_1 : dl_ck (cX10_buyersOf.data.toList.drop 32) [0, 71, 42, 180, 0, 24, 180, 0, 48, 182, 0, 51, 62, 3, 54, 4, 21, 4, 42, 180, 0, 34, 162, 0, 87, 21, 4, 43, 180, 0, 80, 160] = true := by decide +kernel
theorem lb_X10_buyersOf_2 : dl_ck (cX10_buyersOf.data.toList.drop 64) [0, 26, 43, 42, 180, 0, 24, 180, 0, 95, 182, 0, 102, 28, 161, 0, 7, 4, 167, 0, 23, 3, 167, 0, 19, 42, 180, 0, 9, 21, 4, 46] = true := by decide +kernel
theorem lb_X10_buyersOf_3 : dl_ck (cX10_buyersOf.data.toList.drop 96) [6, 159, 0, 7, 4, 167, 0, 4, 3, 54, 5, 21, 5, 153, 0, 17, 42, 180, 0, 24, 180, 0, 45, 21, 4, 46, 28, 162, 0, 12, 29, 4] = true := by decide +kernel
theorem lb_X10_buyersOf_4 : dl_ck (cX10_buyersOf.data.toList.drop 128) [21, 4, 120, 2, 130, 126, 62, 132, 4, 1, 167, 255, 166, 29, 172] = true := by decide +kernel
theorem dX10_buyersOf_0 : decode cX10_buyersOf 0 = .ok (.aload_n 1, 1) := dx_43 (dl_at 0 0 lb_X10_buyersOf_0 rfl)
theorem dX10_buyersOf_1 : decode cX10_buyersOf 1 = .ok (.getfield 76, 3) := dx_180 (a := 0) (b := 76) (dl_at 0 1 lb_X10_buyersOf_0 rfl) (dl_at 0 2 lb_X10_buyersOf_0 rfl) (dl_at 0 3 lb_X10_buyersOf_0 rfl) rfl
theorem dX10_buyersOf_4 : decode cX10_buyersOf 4 = .ok (.ifCond .ne 17, 3) := dx_154 (a := 0) (b := 17) (dl_at 0 4 lb_X10_buyersOf_0 rfl) (dl_at 0 5 lb_X10_buyersOf_0 rfl) (dl_at 0 6 lb_X10_buyersOf_0 rfl) sg16_17
theorem dX10_buyersOf_21 : decode cX10_buyersOf 21 = .ok (.iconst 0, 1) := dx_3 (dl_at 0 21 lb_X10_buyersOf_0 rfl)
theorem dX10_buyersOf_22 : decode cX10_buyersOf 22 = .ok (.ireturn, 1) := dx_172 (dl_at 0 22 lb_X10_buyersOf_0 rfl)
theorem dX10_buyersOf_7 : decode cX10_buyersOf 7 = .ok (.aload_n 1, 1) := dx_43 (dl_at 0 7 lb_X10_buyersOf_0 rfl)
theorem dX10_buyersOf_8 : decode cX10_buyersOf 8 = .ok (.getfield 92, 3) := dx_180 (a := 0) (b := 92) (dl_at 0 8 lb_X10_buyersOf_0 rfl) (dl_at 0 9 lb_X10_buyersOf_0 rfl) (dl_at 0 10 lb_X10_buyersOf_0 rfl) rfl
theorem dX10_buyersOf_11 : decode cX10_buyersOf 11 = .ok (.aload_n 0, 1) := dx_42 (dl_at 0 11 lb_X10_buyersOf_0 rfl)
theorem dX10_buyersOf_12 : decode cX10_buyersOf 12 = .ok (.getfield 24, 3) := dx_180 (a := 0) (b := 24) (dl_at 0 12 lb_X10_buyersOf_0 rfl) (dl_at 0 13 lb_X10_buyersOf_0 rfl) (dl_at 0 14 lb_X10_buyersOf_0 rfl) rfl
theorem dX10_buyersOf_15 : decode cX10_buyersOf 15 = .ok (.getfield 95, 3) := dx_180 (a := 0) (b := 95) (dl_at 0 15 lb_X10_buyersOf_0 rfl) (dl_at 0 16 lb_X10_buyersOf_0 rfl) (dl_at 0 17 lb_X10_buyersOf_0 rfl) rfl
theorem dX10_buyersOf_18 : decode cX10_buyersOf 18 = .ok (.if_icmp .ne 5, 3) := dx_160 (a := 0) (b := 5) (dl_at 0 18 lb_X10_buyersOf_0 rfl) (dl_at 0 19 lb_X10_buyersOf_0 rfl) (dl_at 0 20 lb_X10_buyersOf_0 rfl) sg16_5
theorem dX10_buyersOf_23 : decode cX10_buyersOf 23 = .ok (.aload_n 0, 1) := dx_42 (dl_at 0 23 lb_X10_buyersOf_0 rfl)
theorem dX10_buyersOf_24 : decode cX10_buyersOf 24 = .ok (.aload_n 1, 1) := dx_43 (dl_at 0 24 lb_X10_buyersOf_0 rfl)
theorem dX10_buyersOf_25 : decode cX10_buyersOf 25 = .ok (.invokevirtual 98, 3) := dx_182 (a := 0) (b := 98) (dl_at 0 25 lb_X10_buyersOf_0 rfl) (dl_at 0 26 lb_X10_buyersOf_0 rfl) (dl_at 0 27 lb_X10_buyersOf_0 rfl) rfl
theorem dX10_buyersOf_28 : decode cX10_buyersOf 28 = .ok (.istore_n 2, 1) := dx_61 (dl_at 0 28 lb_X10_buyersOf_0 rfl)
theorem dX10_buyersOf_29 : decode cX10_buyersOf 29 = .ok (.aload_n 0, 1) := dx_42 (dl_at 0 29 lb_X10_buyersOf_0 rfl)
theorem dX10_buyersOf_30 : decode cX10_buyersOf 30 = .ok (.aload_n 1, 1) := dx_43 (dl_at 0 30 lb_X10_buyersOf_0 rfl)
theorem dX10_buyersOf_31 : decode cX10_buyersOf 31 = .ok (.getfield 71, 3) := dx_180 (a := 0) (b := 71) (dl_at 0 31 lb_X10_buyersOf_0 rfl) (dl_at 32 0 lb_X10_buyersOf_1 rfl) (dl_at 32 1 lb_X10_buyersOf_1 rfl) rfl
theorem dX10_buyersOf_34 : decode cX10_buyersOf 34 = .ok (.aload_n 0, 1) := dx_42 (dl_at 32 2 lb_X10_buyersOf_1 rfl)
theorem dX10_buyersOf_35 : decode cX10_buyersOf 35 = .ok (.getfield 24, 3) := dx_180 (a := 0) (b := 24) (dl_at 32 3 lb_X10_buyersOf_1 rfl) (dl_at 32 4 lb_X10_buyersOf_1 rfl) (dl_at 32 5 lb_X10_buyersOf_1 rfl) rfl
theorem dX10_buyersOf_38 : decode cX10_buyersOf 38 = .ok (.getfield 48, 3) := dx_180 (a := 0) (b := 48) (dl_at 32 6 lb_X10_buyersOf_1 rfl) (dl_at 32 7 lb_X10_buyersOf_1 rfl) (dl_at 32 8 lb_X10_buyersOf_1 rfl) rfl
theorem dX10_buyersOf_41 : decode cX10_buyersOf 41 = .ok (.invokevirtual 51, 3) := dx_182 (a := 0) (b := 51) (dl_at 32 9 lb_X10_buyersOf_1 rfl) (dl_at 32 10 lb_X10_buyersOf_1 rfl) (dl_at 32 11 lb_X10_buyersOf_1 rfl) rfl
theorem dX10_buyersOf_44 : decode cX10_buyersOf 44 = .ok (.istore_n 3, 1) := dx_62 (dl_at 32 12 lb_X10_buyersOf_1 rfl)
theorem dX10_buyersOf_45 : decode cX10_buyersOf 45 = .ok (.iconst 0, 1) := dx_3 (dl_at 32 13 lb_X10_buyersOf_1 rfl)
theorem dX10_buyersOf_46 : decode cX10_buyersOf 46 = .ok (.istore 4, 2) := dx_54 (dl_at 32 14 lb_X10_buyersOf_1 rfl) (dl_at 32 15 lb_X10_buyersOf_1 rfl)
theorem dX10_buyersOf_48 : decode cX10_buyersOf 48 = .ok (.iload 4, 2) := dx_21 (dl_at 32 16 lb_X10_buyersOf_1 rfl) (dl_at 32 17 lb_X10_buyersOf_1 rfl)
theorem dX10_buyersOf_50 : decode cX10_buyersOf 50 = .ok (.aload_n 0, 1) := dx_42 (dl_at 32 18 lb_X10_buyersOf_1 rfl)
theorem dX10_buyersOf_51 : decode cX10_buyersOf 51 = .ok (.getfield 34, 3) := dx_180 (a := 0) (b := 34) (dl_at 32 19 lb_X10_buyersOf_1 rfl) (dl_at 32 20 lb_X10_buyersOf_1 rfl) (dl_at 32 21 lb_X10_buyersOf_1 rfl) rfl
theorem dX10_buyersOf_54 : decode cX10_buyersOf 54 = .ok (.if_icmp .ge 87, 3) := dx_162 (a := 0) (b := 87) (dl_at 32 22 lb_X10_buyersOf_1 rfl) (dl_at 32 23 lb_X10_buyersOf_1 rfl) (dl_at 32 24 lb_X10_buyersOf_1 rfl) sg16_87
theorem dX10_buyersOf_141 : decode cX10_buyersOf 141 = .ok (.iload_n 3, 1) := dx_29 (dl_at 128 13 lb_X10_buyersOf_4 rfl)
theorem dX10_buyersOf_142 : decode cX10_buyersOf 142 = .ok (.ireturn, 1) := dx_172 (dl_at 128 14 lb_X10_buyersOf_4 rfl)
theorem dX10_buyersOf_57 : decode cX10_buyersOf 57 = .ok (.iload 4, 2) := dx_21 (dl_at 32 25 lb_X10_buyersOf_1 rfl) (dl_at 32 26 lb_X10_buyersOf_1 rfl)
theorem dX10_buyersOf_59 : decode cX10_buyersOf 59 = .ok (.aload_n 1, 1) := dx_43 (dl_at 32 27 lb_X10_buyersOf_1 rfl)
theorem dX10_buyersOf_60 : decode cX10_buyersOf 60 = .ok (.getfield 80, 3) := dx_180 (a := 0) (b := 80) (dl_at 32 28 lb_X10_buyersOf_1 rfl) (dl_at 32 29 lb_X10_buyersOf_1 rfl) (dl_at 32 30 lb_X10_buyersOf_1 rfl) rfl
theorem dX10_buyersOf_63 : decode cX10_buyersOf 63 = .ok (.if_icmp .ne 26, 3) := dx_160 (a := 0) (b := 26) (dl_at 32 31 lb_X10_buyersOf_1 rfl) (dl_at 64 0 lb_X10_buyersOf_2 rfl) (dl_at 64 1 lb_X10_buyersOf_2 rfl) sg16_26
theorem dX10_buyersOf_89 : decode cX10_buyersOf 89 = .ok (.aload_n 0, 1) := dx_42 (dl_at 64 25 lb_X10_buyersOf_2 rfl)
theorem dX10_buyersOf_90 : decode cX10_buyersOf 90 = .ok (.getfield 9, 3) := dx_180 (a := 0) (b := 9) (dl_at 64 26 lb_X10_buyersOf_2 rfl) (dl_at 64 27 lb_X10_buyersOf_2 rfl) (dl_at 64 28 lb_X10_buyersOf_2 rfl) rfl
theorem dX10_buyersOf_93 : decode cX10_buyersOf 93 = .ok (.iload 4, 2) := dx_21 (dl_at 64 29 lb_X10_buyersOf_2 rfl) (dl_at 64 30 lb_X10_buyersOf_2 rfl)
theorem dX10_buyersOf_95 : decode cX10_buyersOf 95 = .ok (.iaload, 1) := dx_46 (dl_at 64 31 lb_X10_buyersOf_2 rfl)
theorem dX10_buyersOf_96 : decode cX10_buyersOf 96 = .ok (.iconst 3, 1) := dx_6 (dl_at 96 0 lb_X10_buyersOf_3 rfl)
theorem dX10_buyersOf_97 : decode cX10_buyersOf 97 = .ok (.if_icmp .eq 7, 3) := dx_159 (a := 0) (b := 7) (dl_at 96 1 lb_X10_buyersOf_3 rfl) (dl_at 96 2 lb_X10_buyersOf_3 rfl) (dl_at 96 3 lb_X10_buyersOf_3 rfl) sg16_7
theorem dX10_buyersOf_104 : decode cX10_buyersOf 104 = .ok (.iconst 0, 1) := dx_3 (dl_at 96 8 lb_X10_buyersOf_3 rfl)
theorem dX10_buyersOf_105 : decode cX10_buyersOf 105 = .ok (.istore 5, 2) := dx_54 (dl_at 96 9 lb_X10_buyersOf_3 rfl) (dl_at 96 10 lb_X10_buyersOf_3 rfl)
theorem dX10_buyersOf_107 : decode cX10_buyersOf 107 = .ok (.iload 5, 2) := dx_21 (dl_at 96 11 lb_X10_buyersOf_3 rfl) (dl_at 96 12 lb_X10_buyersOf_3 rfl)
theorem dX10_buyersOf_109 : decode cX10_buyersOf 109 = .ok (.ifCond .eq 17, 3) := dx_153 (a := 0) (b := 17) (dl_at 96 13 lb_X10_buyersOf_3 rfl) (dl_at 96 14 lb_X10_buyersOf_3 rfl) (dl_at 96 15 lb_X10_buyersOf_3 rfl) sg16_17
theorem dX10_buyersOf_126 : decode cX10_buyersOf 126 = .ok (.iload_n 3, 1) := dx_29 (dl_at 96 30 lb_X10_buyersOf_3 rfl)
theorem dX10_buyersOf_127 : decode cX10_buyersOf 127 = .ok (.iconst 1, 1) := dx_4 (dl_at 96 31 lb_X10_buyersOf_3 rfl)
theorem dX10_buyersOf_128 : decode cX10_buyersOf 128 = .ok (.iload 4, 2) := dx_21 (dl_at 128 0 lb_X10_buyersOf_4 rfl) (dl_at 128 1 lb_X10_buyersOf_4 rfl)
theorem dX10_buyersOf_130 : decode cX10_buyersOf 130 = .ok (.ishl, 1) := dx_120 (dl_at 128 2 lb_X10_buyersOf_4 rfl)
theorem dX10_buyersOf_131 : decode cX10_buyersOf 131 = .ok (.iconst (-1), 1) := dx_2 (dl_at 128 3 lb_X10_buyersOf_4 rfl)
theorem dX10_buyersOf_132 : decode cX10_buyersOf 132 = .ok (.ixor, 1) := dx_130 (dl_at 128 4 lb_X10_buyersOf_4 rfl)
theorem dX10_buyersOf_133 : decode cX10_buyersOf 133 = .ok (.iand, 1) := dx_126 (dl_at 128 5 lb_X10_buyersOf_4 rfl)
theorem dX10_buyersOf_134 : decode cX10_buyersOf 134 = .ok (.istore_n 3, 1) := dx_62 (dl_at 128 6 lb_X10_buyersOf_4 rfl)
theorem dX10_buyersOf_135 : decode cX10_buyersOf 135 = .ok (.iinc 4 1, 3) := dx_132 (dl_at 128 7 lb_X10_buyersOf_4 rfl) (dl_at 128 8 lb_X10_buyersOf_4 rfl) (dl_at 128 9 lb_X10_buyersOf_4 rfl) sg8_1
theorem dX10_buyersOf_138 : decode cX10_buyersOf 138 = .ok (.goto (-90), 3) := dx_167 (a := 255) (b := 166) (dl_at 128 10 lb_X10_buyersOf_4 rfl) (dl_at 128 11 lb_X10_buyersOf_4 rfl) (dl_at 128 12 lb_X10_buyersOf_4 rfl) sg16_65446
theorem dX10_buyersOf_100 : decode cX10_buyersOf 100 = .ok (.iconst 1, 1) := dx_4 (dl_at 96 4 lb_X10_buyersOf_3 rfl)
theorem dX10_buyersOf_101 : decode cX10_buyersOf 101 = .ok (.goto 4, 3) := dx_167 (a := 0) (b := 4) (dl_at 96 5 lb_X10_buyersOf_3 rfl) (dl_at 96 6 lb_X10_buyersOf_3 rfl) (dl_at 96 7 lb_X10_buyersOf_3 rfl) sg16_4
theorem dX10_buyersOf_112 : decode cX10_buyersOf 112 = .ok (.aload_n 0, 1) := dx_42 (dl_at 96 16 lb_X10_buyersOf_3 rfl)
theorem dX10_buyersOf_113 : decode cX10_buyersOf 113 = .ok (.getfield 24, 3) := dx_180 (a := 0) (b := 24) (dl_at 96 17 lb_X10_buyersOf_3 rfl) (dl_at 96 18 lb_X10_buyersOf_3 rfl) (dl_at 96 19 lb_X10_buyersOf_3 rfl) rfl
theorem dX10_buyersOf_116 : decode cX10_buyersOf 116 = .ok (.getfield 45, 3) := dx_180 (a := 0) (b := 45) (dl_at 96 20 lb_X10_buyersOf_3 rfl) (dl_at 96 21 lb_X10_buyersOf_3 rfl) (dl_at 96 22 lb_X10_buyersOf_3 rfl) rfl
theorem dX10_buyersOf_119 : decode cX10_buyersOf 119 = .ok (.iload 4, 2) := dx_21 (dl_at 96 23 lb_X10_buyersOf_3 rfl) (dl_at 96 24 lb_X10_buyersOf_3 rfl)
theorem dX10_buyersOf_121 : decode cX10_buyersOf 121 = .ok (.iaload, 1) := dx_46 (dl_at 96 25 lb_X10_buyersOf_3 rfl)
theorem dX10_buyersOf_122 : decode cX10_buyersOf 122 = .ok (.iload_n 2, 1) := dx_28 (dl_at 96 26 lb_X10_buyersOf_3 rfl)
theorem dX10_buyersOf_123 : decode cX10_buyersOf 123 = .ok (.if_icmp .ge 12, 3) := dx_162 (a := 0) (b := 12) (dl_at 96 27 lb_X10_buyersOf_3 rfl) (dl_at 96 28 lb_X10_buyersOf_3 rfl) (dl_at 96 29 lb_X10_buyersOf_3 rfl) sg16_12
theorem dX10_buyersOf_66 : decode cX10_buyersOf 66 = .ok (.aload_n 1, 1) := dx_43 (dl_at 64 2 lb_X10_buyersOf_2 rfl)
theorem dX10_buyersOf_67 : decode cX10_buyersOf 67 = .ok (.aload_n 0, 1) := dx_42 (dl_at 64 3 lb_X10_buyersOf_2 rfl)
theorem dX10_buyersOf_68 : decode cX10_buyersOf 68 = .ok (.getfield 24, 3) := dx_180 (a := 0) (b := 24) (dl_at 64 4 lb_X10_buyersOf_2 rfl) (dl_at 64 5 lb_X10_buyersOf_2 rfl) (dl_at 64 6 lb_X10_buyersOf_2 rfl) rfl
theorem dX10_buyersOf_71 : decode cX10_buyersOf 71 = .ok (.getfield 95, 3) := dx_180 (a := 0) (b := 95) (dl_at 64 7 lb_X10_buyersOf_2 rfl) (dl_at 64 8 lb_X10_buyersOf_2 rfl) (dl_at 64 9 lb_X10_buyersOf_2 rfl) rfl
theorem dX10_buyersOf_74 : decode cX10_buyersOf 74 = .ok (.invokevirtual 102, 3) := dx_182 (a := 0) (b := 102) (dl_at 64 10 lb_X10_buyersOf_2 rfl) (dl_at 64 11 lb_X10_buyersOf_2 rfl) (dl_at 64 12 lb_X10_buyersOf_2 rfl) rfl
theorem dX10_buyersOf_77 : decode cX10_buyersOf 77 = .ok (.iload_n 2, 1) := dx_28 (dl_at 64 13 lb_X10_buyersOf_2 rfl)
theorem dX10_buyersOf_78 : decode cX10_buyersOf 78 = .ok (.if_icmp .lt 7, 3) := dx_161 (a := 0) (b := 7) (dl_at 64 14 lb_X10_buyersOf_2 rfl) (dl_at 64 15 lb_X10_buyersOf_2 rfl) (dl_at 64 16 lb_X10_buyersOf_2 rfl) sg16_7
theorem dX10_buyersOf_85 : decode cX10_buyersOf 85 = .ok (.iconst 0, 1) := dx_3 (dl_at 64 21 lb_X10_buyersOf_2 rfl)
theorem dX10_buyersOf_86 : decode cX10_buyersOf 86 = .ok (.goto 19, 3) := dx_167 (a := 0) (b := 19) (dl_at 64 22 lb_X10_buyersOf_2 rfl) (dl_at 64 23 lb_X10_buyersOf_2 rfl) (dl_at 64 24 lb_X10_buyersOf_2 rfl) sg16_19
theorem dX10_buyersOf_81 : decode cX10_buyersOf 81 = .ok (.iconst 1, 1) := dx_4 (dl_at 64 17 lb_X10_buyersOf_2 rfl)
theorem dX10_buyersOf_82 : decode cX10_buyersOf 82 = .ok (.goto 23, 3) := dx_167 (a := 0) (b := 23) (dl_at 64 18 lb_X10_buyersOf_2 rfl) (dl_at 64 19 lb_X10_buyersOf_2 rfl) (dl_at 64 20 lb_X10_buyersOf_2 rfl) sg16_23
theorem lb_X10_buyableBy_0 : dl_ck (cX10_buyableBy.data.toList.drop 0) [3, 61, 3, 62, 29, 42, 180, 0, 24, 180, 0, 64, 162, 0, 39, 28, 42, 42, 180, 0, 24, 180, 0, 67, 29, 50, 182, 0, 105, 27, 184, 0] = true := by decide +kernel
theorem lb_X10_buyableBy_1 : dl_ck (cX10_buyableBy.data.toList.drop 32) [41, 153, 0, 9, 4, 29, 120, 167, 0, 4, 3, 128, 61, 132, 3, 1, 167, 255, 212, 28, 172] = true := by decide +kernel
theorem dX10_buyableBy_0 : decode cX10_buyableBy 0 = .ok (.iconst 0, 1) := dx_3 (dl_at 0 0 lb_X10_buyableBy_0 rfl)
theorem dX10_buyableBy_1 : decode cX10_buyableBy 1 = .ok (.istore_n 2, 1) := dx_61 (dl_at 0 1 lb_X10_buyableBy_0 rfl)
theorem dX10_buyableBy_2 : decode cX10_buyableBy 2 = .ok (.iconst 0, 1) := dx_3 (dl_at 0 2 lb_X10_buyableBy_0 rfl)
theorem dX10_buyableBy_3 : decode cX10_buyableBy 3 = .ok (.istore_n 3, 1) := dx_62 (dl_at 0 3 lb_X10_buyableBy_0 rfl)
theorem dX10_buyableBy_4 : decode cX10_buyableBy 4 = .ok (.iload_n 3, 1) := dx_29 (dl_at 0 4 lb_X10_buyableBy_0 rfl)
theorem dX10_buyableBy_5 : decode cX10_buyableBy 5 = .ok (.aload_n 0, 1) := dx_42 (dl_at 0 5 lb_X10_buyableBy_0 rfl)
theorem dX10_buyableBy_6 : decode cX10_buyableBy 6 = .ok (.getfield 24, 3) := dx_180 (a := 0) (b := 24) (dl_at 0 6 lb_X10_buyableBy_0 rfl) (dl_at 0 7 lb_X10_buyableBy_0 rfl) (dl_at 0 8 lb_X10_buyableBy_0 rfl) rfl
theorem dX10_buyableBy_9 : decode cX10_buyableBy 9 = .ok (.getfield 64, 3) := dx_180 (a := 0) (b := 64) (dl_at 0 9 lb_X10_buyableBy_0 rfl) (dl_at 0 10 lb_X10_buyableBy_0 rfl) (dl_at 0 11 lb_X10_buyableBy_0 rfl) rfl
theorem dX10_buyableBy_12 : decode cX10_buyableBy 12 = .ok (.if_icmp .ge 39, 3) := dx_162 (a := 0) (b := 39) (dl_at 0 12 lb_X10_buyableBy_0 rfl) (dl_at 0 13 lb_X10_buyableBy_0 rfl) (dl_at 0 14 lb_X10_buyableBy_0 rfl) sg16_39
theorem dX10_buyableBy_51 : decode cX10_buyableBy 51 = .ok (.iload_n 2, 1) := dx_28 (dl_at 32 19 lb_X10_buyableBy_1 rfl)
theorem dX10_buyableBy_52 : decode cX10_buyableBy 52 = .ok (.ireturn, 1) := dx_172 (dl_at 32 20 lb_X10_buyableBy_1 rfl)
theorem dX10_buyableBy_15 : decode cX10_buyableBy 15 = .ok (.iload_n 2, 1) := dx_28 (dl_at 0 15 lb_X10_buyableBy_0 rfl)
theorem dX10_buyableBy_16 : decode cX10_buyableBy 16 = .ok (.aload_n 0, 1) := dx_42 (dl_at 0 16 lb_X10_buyableBy_0 rfl)
theorem dX10_buyableBy_17 : decode cX10_buyableBy 17 = .ok (.aload_n 0, 1) := dx_42 (dl_at 0 17 lb_X10_buyableBy_0 rfl)
theorem dX10_buyableBy_18 : decode cX10_buyableBy 18 = .ok (.getfield 24, 3) := dx_180 (a := 0) (b := 24) (dl_at 0 18 lb_X10_buyableBy_0 rfl) (dl_at 0 19 lb_X10_buyableBy_0 rfl) (dl_at 0 20 lb_X10_buyableBy_0 rfl) rfl
theorem dX10_buyableBy_21 : decode cX10_buyableBy 21 = .ok (.getfield 67, 3) := dx_180 (a := 0) (b := 67) (dl_at 0 21 lb_X10_buyableBy_0 rfl) (dl_at 0 22 lb_X10_buyableBy_0 rfl) (dl_at 0 23 lb_X10_buyableBy_0 rfl) rfl
theorem dX10_buyableBy_24 : decode cX10_buyableBy 24 = .ok (.iload_n 3, 1) := dx_29 (dl_at 0 24 lb_X10_buyableBy_0 rfl)
theorem dX10_buyableBy_25 : decode cX10_buyableBy 25 = .ok (.aaload, 1) := dx_50 (dl_at 0 25 lb_X10_buyableBy_0 rfl)
theorem dX10_buyableBy_26 : decode cX10_buyableBy 26 = .ok (.invokevirtual 105, 3) := dx_182 (a := 0) (b := 105) (dl_at 0 26 lb_X10_buyableBy_0 rfl) (dl_at 0 27 lb_X10_buyableBy_0 rfl) (dl_at 0 28 lb_X10_buyableBy_0 rfl) rfl
theorem dX10_buyableBy_29 : decode cX10_buyableBy 29 = .ok (.iload_n 1, 1) := dx_27 (dl_at 0 29 lb_X10_buyableBy_0 rfl)
theorem dX10_buyableBy_30 : decode cX10_buyableBy 30 = .ok (.invokestatic 41, 3) := dx_184 (a := 0) (b := 41) (dl_at 0 30 lb_X10_buyableBy_0 rfl) (dl_at 0 31 lb_X10_buyableBy_0 rfl) (dl_at 32 0 lb_X10_buyableBy_1 rfl) rfl
theorem dX10_buyableBy_33 : decode cX10_buyableBy 33 = .ok (.ifCond .eq 9, 3) := dx_153 (a := 0) (b := 9) (dl_at 32 1 lb_X10_buyableBy_1 rfl) (dl_at 32 2 lb_X10_buyableBy_1 rfl) (dl_at 32 3 lb_X10_buyableBy_1 rfl) sg16_9
theorem dX10_buyableBy_42 : decode cX10_buyableBy 42 = .ok (.iconst 0, 1) := dx_3 (dl_at 32 10 lb_X10_buyableBy_1 rfl)
theorem dX10_buyableBy_43 : decode cX10_buyableBy 43 = .ok (.ior, 1) := dx_128 (dl_at 32 11 lb_X10_buyableBy_1 rfl)
theorem dX10_buyableBy_44 : decode cX10_buyableBy 44 = .ok (.istore_n 2, 1) := dx_61 (dl_at 32 12 lb_X10_buyableBy_1 rfl)
theorem dX10_buyableBy_45 : decode cX10_buyableBy 45 = .ok (.iinc 3 1, 3) := dx_132 (dl_at 32 13 lb_X10_buyableBy_1 rfl) (dl_at 32 14 lb_X10_buyableBy_1 rfl) (dl_at 32 15 lb_X10_buyableBy_1 rfl) sg8_1
theorem dX10_buyableBy_48 : decode cX10_buyableBy 48 = .ok (.goto (-44), 3) := dx_167 (a := 255) (b := 212) (dl_at 32 16 lb_X10_buyableBy_1 rfl) (dl_at 32 17 lb_X10_buyableBy_1 rfl) (dl_at 32 18 lb_X10_buyableBy_1 rfl) sg16_65492
theorem dX10_buyableBy_36 : decode cX10_buyableBy 36 = .ok (.iconst 1, 1) := dx_4 (dl_at 32 4 lb_X10_buyableBy_1 rfl)
theorem dX10_buyableBy_37 : decode cX10_buyableBy 37 = .ok (.iload_n 3, 1) := dx_29 (dl_at 32 5 lb_X10_buyableBy_1 rfl)
theorem dX10_buyableBy_38 : decode cX10_buyableBy 38 = .ok (.ishl, 1) := dx_120 (dl_at 32 6 lb_X10_buyableBy_1 rfl)
theorem dX10_buyableBy_39 : decode cX10_buyableBy 39 = .ok (.goto 4, 3) := dx_167 (a := 0) (b := 4) (dl_at 32 7 lb_X10_buyableBy_1 rfl) (dl_at 32 8 lb_X10_buyableBy_1 rfl) (dl_at 32 9 lb_X10_buyableBy_1 rfl) sg16_4
theorem lb_X10_priceOfAll_0 : dl_ck (cX10_priceOfAll.data.toList.drop 0) [3, 61, 3, 62, 29, 42, 180, 0, 24, 180, 0, 64, 162, 0, 37, 28, 27, 29, 184, 0, 41, 153, 0, 19, 42, 42, 180, 0, 24, 180, 0, 67] = true := by decide +kernel
theorem lb_X10_priceOfAll_1 : dl_ck (cX10_priceOfAll.data.toList.drop 32) [29, 50, 182, 0, 98, 167, 0, 4, 3, 96, 61, 132, 3, 1, 167, 255, 214, 28, 172] = true := by decide +kernel
theorem dX10_priceOfAll_0 : decode cX10_priceOfAll 0 = .ok (.iconst 0, 1) := dx_3 (dl_at 0 0 lb_X10_priceOfAll_0 rfl)
theorem dX10_priceOfAll_1 : decode cX10_priceOfAll 1 = .ok (.istore_n 2, 1) := dx_61 (dl_at 0 1 lb_X10_priceOfAll_0 rfl)
theorem dX10_priceOfAll_2 : decode cX10_priceOfAll 2 = .ok (.iconst 0, 1) := dx_3 (dl_at 0 2 lb_X10_priceOfAll_0 rfl)
theorem dX10_priceOfAll_3 : decode cX10_priceOfAll 3 = .ok (.istore_n 3, 1) := dx_62 (dl_at 0 3 lb_X10_priceOfAll_0 rfl)
theorem dX10_priceOfAll_4 : decode cX10_priceOfAll 4 = .ok (.iload_n 3, 1) := dx_29 (dl_at 0 4 lb_X10_priceOfAll_0 rfl)
theorem dX10_priceOfAll_5 : decode cX10_priceOfAll 5 = .ok (.aload_n 0, 1) := dx_42 (dl_at 0 5 lb_X10_priceOfAll_0 rfl)
theorem dX10_priceOfAll_6 : decode cX10_priceOfAll 6 = .ok (.getfield 24, 3) := dx_180 (a := 0) (b := 24) (dl_at 0 6 lb_X10_priceOfAll_0 rfl) (dl_at 0 7 lb_X10_priceOfAll_0 rfl) (dl_at 0 8 lb_X10_priceOfAll_0 rfl) rfl
theorem dX10_priceOfAll_9 : decode cX10_priceOfAll 9 = .ok (.getfield 64, 3) := dx_180 (a := 0) (b := 64) (dl_at 0 9 lb_X10_priceOfAll_0 rfl) (dl_at 0 10 lb_X10_priceOfAll_0 rfl) (dl_at 0 11 lb_X10_priceOfAll_0 rfl) rfl
theorem dX10_priceOfAll_12 : decode cX10_priceOfAll 12 = .ok (.if_icmp .ge 37, 3) := dx_162 (a := 0) (b := 37) (dl_at 0 12 lb_X10_priceOfAll_0 rfl) (dl_at 0 13 lb_X10_priceOfAll_0 rfl) (dl_at 0 14 lb_X10_priceOfAll_0 rfl) sg16_37
theorem dX10_priceOfAll_49 : decode cX10_priceOfAll 49 = .ok (.iload_n 2, 1) := dx_28 (dl_at 32 17 lb_X10_priceOfAll_1 rfl)
theorem dX10_priceOfAll_50 : decode cX10_priceOfAll 50 = .ok (.ireturn, 1) := dx_172 (dl_at 32 18 lb_X10_priceOfAll_1 rfl)
theorem dX10_priceOfAll_15 : decode cX10_priceOfAll 15 = .ok (.iload_n 2, 1) := dx_28 (dl_at 0 15 lb_X10_priceOfAll_0 rfl)
theorem dX10_priceOfAll_16 : decode cX10_priceOfAll 16 = .ok (.iload_n 1, 1) := dx_27 (dl_at 0 16 lb_X10_priceOfAll_0 rfl)
theorem dX10_priceOfAll_17 : decode cX10_priceOfAll 17 = .ok (.iload_n 3, 1) := dx_29 (dl_at 0 17 lb_X10_priceOfAll_0 rfl)
theorem dX10_priceOfAll_18 : decode cX10_priceOfAll 18 = .ok (.invokestatic 41, 3) := dx_184 (a := 0) (b := 41) (dl_at 0 18 lb_X10_priceOfAll_0 rfl) (dl_at 0 19 lb_X10_priceOfAll_0 rfl) (dl_at 0 20 lb_X10_priceOfAll_0 rfl) rfl
theorem dX10_priceOfAll_21 : decode cX10_priceOfAll 21 = .ok (.ifCond .eq 19, 3) := dx_153 (a := 0) (b := 19) (dl_at 0 21 lb_X10_priceOfAll_0 rfl) (dl_at 0 22 lb_X10_priceOfAll_0 rfl) (dl_at 0 23 lb_X10_priceOfAll_0 rfl) sg16_19
theorem dX10_priceOfAll_40 : decode cX10_priceOfAll 40 = .ok (.iconst 0, 1) := dx_3 (dl_at 32 8 lb_X10_priceOfAll_1 rfl)
theorem dX10_priceOfAll_41 : decode cX10_priceOfAll 41 = .ok (.iadd, 1) := dx_96 (dl_at 32 9 lb_X10_priceOfAll_1 rfl)
theorem dX10_priceOfAll_42 : decode cX10_priceOfAll 42 = .ok (.istore_n 2, 1) := dx_61 (dl_at 32 10 lb_X10_priceOfAll_1 rfl)
theorem dX10_priceOfAll_43 : decode cX10_priceOfAll 43 = .ok (.iinc 3 1, 3) := dx_132 (dl_at 32 11 lb_X10_priceOfAll_1 rfl) (dl_at 32 12 lb_X10_priceOfAll_1 rfl) (dl_at 32 13 lb_X10_priceOfAll_1 rfl) sg8_1
theorem dX10_priceOfAll_46 : decode cX10_priceOfAll 46 = .ok (.goto (-42), 3) := dx_167 (a := 255) (b := 214) (dl_at 32 14 lb_X10_priceOfAll_1 rfl) (dl_at 32 15 lb_X10_priceOfAll_1 rfl) (dl_at 32 16 lb_X10_priceOfAll_1 rfl) sg16_65494
theorem dX10_priceOfAll_24 : decode cX10_priceOfAll 24 = .ok (.aload_n 0, 1) := dx_42 (dl_at 0 24 lb_X10_priceOfAll_0 rfl)
theorem dX10_priceOfAll_25 : decode cX10_priceOfAll 25 = .ok (.aload_n 0, 1) := dx_42 (dl_at 0 25 lb_X10_priceOfAll_0 rfl)
theorem dX10_priceOfAll_26 : decode cX10_priceOfAll 26 = .ok (.getfield 24, 3) := dx_180 (a := 0) (b := 24) (dl_at 0 26 lb_X10_priceOfAll_0 rfl) (dl_at 0 27 lb_X10_priceOfAll_0 rfl) (dl_at 0 28 lb_X10_priceOfAll_0 rfl) rfl
theorem dX10_priceOfAll_29 : decode cX10_priceOfAll 29 = .ok (.getfield 67, 3) := dx_180 (a := 0) (b := 67) (dl_at 0 29 lb_X10_priceOfAll_0 rfl) (dl_at 0 30 lb_X10_priceOfAll_0 rfl) (dl_at 0 31 lb_X10_priceOfAll_0 rfl) rfl
theorem dX10_priceOfAll_32 : decode cX10_priceOfAll 32 = .ok (.iload_n 3, 1) := dx_29 (dl_at 32 0 lb_X10_priceOfAll_1 rfl)
theorem dX10_priceOfAll_33 : decode cX10_priceOfAll 33 = .ok (.aaload, 1) := dx_50 (dl_at 32 1 lb_X10_priceOfAll_1 rfl)
theorem dX10_priceOfAll_34 : decode cX10_priceOfAll 34 = .ok (.invokevirtual 98, 3) := dx_182 (a := 0) (b := 98) (dl_at 32 2 lb_X10_priceOfAll_1 rfl) (dl_at 32 3 lb_X10_priceOfAll_1 rfl) (dl_at 32 4 lb_X10_priceOfAll_1 rfl) rfl
theorem dX10_priceOfAll_37 : decode cX10_priceOfAll 37 = .ok (.goto 4, 3) := dx_167 (a := 0) (b := 4) (dl_at 32 5 lb_X10_priceOfAll_1 rfl) (dl_at 32 6 lb_X10_priceOfAll_1 rfl) (dl_at 32 7 lb_X10_priceOfAll_1 rfl) sg16_4
theorem lb_X10_bearerFact_0 : dl_ck (cX10_bearerFact.data.toList.drop 0) [28, 170, 0, 0, 0, 0, 0, 60, 0, 0, 0, 0, 0, 0, 0, 2, 0, 0, 0, 27, 0, 0, 0, 34, 0, 0, 0, 44, 42, 180, 0, 9] = true := by decide +kernel
theorem lb_X10_bearerFact_1 : dl_ck (cX10_bearerFact.data.toList.drop 32) [27, 46, 172, 42, 180, 0, 24, 180, 0, 45, 27, 46, 172, 42, 27, 42, 180, 0, 24, 180, 0, 48, 182, 0, 51, 184, 0, 55, 172, 42, 27, 182] = true := by decide +kernel
theorem lb_X10_bearerFact_2 : dl_ck (cX10_bearerFact.data.toList.drop 64) [0, 61, 172] = true := by decide +kernel
theorem dX10_bearerFact_0 : decode cX10_bearerFact 0 = .ok (.iload_n 2, 1) := dx_28 (dl_at 0 0 lb_X10_bearerFact_0 rfl)
theorem dX10_bearerFact_1 : decode cX10_bearerFact 1 = .ok (.tableswitch 60 0 2 #[27, 34, 44], 27) := by decide +kernel
theorem dX10_bearerFact_61 : decode cX10_bearerFact 61 = .ok (.aload_n 0, 1) := dx_42 (dl_at 32 29 lb_X10_bearerFact_1 rfl)
theorem dX10_bearerFact_62 : decode cX10_bearerFact 62 = .ok (.iload_n 1, 1) := dx_27 (dl_at 32 30 lb_X10_bearerFact_1 rfl)
theorem dX10_bearerFact_63 : decode cX10_bearerFact 63 = .ok (.invokevirtual 61, 3) := dx_182 (a := 0) (b := 61) (dl_at 32 31 lb_X10_bearerFact_1 rfl) (dl_at 64 0 lb_X10_bearerFact_2 rfl) (dl_at 64 1 lb_X10_bearerFact_2 rfl) rfl
theorem dX10_bearerFact_66 : decode cX10_bearerFact 66 = .ok (.ireturn, 1) := dx_172 (dl_at 64 2 lb_X10_bearerFact_2 rfl)
theorem dX10_bearerFact_28 : decode cX10_bearerFact 28 = .ok (.aload_n 0, 1) := dx_42 (dl_at 0 28 lb_X10_bearerFact_0 rfl)
theorem dX10_bearerFact_29 : decode cX10_bearerFact 29 = .ok (.getfield 9, 3) := dx_180 (a := 0) (b := 9) (dl_at 0 29 lb_X10_bearerFact_0 rfl) (dl_at 0 30 lb_X10_bearerFact_0 rfl) (dl_at 0 31 lb_X10_bearerFact_0 rfl) rfl
theorem dX10_bearerFact_32 : decode cX10_bearerFact 32 = .ok (.iload_n 1, 1) := dx_27 (dl_at 32 0 lb_X10_bearerFact_1 rfl)
theorem dX10_bearerFact_33 : decode cX10_bearerFact 33 = .ok (.iaload, 1) := dx_46 (dl_at 32 1 lb_X10_bearerFact_1 rfl)
theorem dX10_bearerFact_34 : decode cX10_bearerFact 34 = .ok (.ireturn, 1) := dx_172 (dl_at 32 2 lb_X10_bearerFact_1 rfl)
theorem dX10_bearerFact_35 : decode cX10_bearerFact 35 = .ok (.aload_n 0, 1) := dx_42 (dl_at 32 3 lb_X10_bearerFact_1 rfl)
theorem dX10_bearerFact_36 : decode cX10_bearerFact 36 = .ok (.getfield 24, 3) := dx_180 (a := 0) (b := 24) (dl_at 32 4 lb_X10_bearerFact_1 rfl) (dl_at 32 5 lb_X10_bearerFact_1 rfl) (dl_at 32 6 lb_X10_bearerFact_1 rfl) rfl
theorem dX10_bearerFact_39 : decode cX10_bearerFact 39 = .ok (.getfield 45, 3) := dx_180 (a := 0) (b := 45) (dl_at 32 7 lb_X10_bearerFact_1 rfl) (dl_at 32 8 lb_X10_bearerFact_1 rfl) (dl_at 32 9 lb_X10_bearerFact_1 rfl) rfl
theorem dX10_bearerFact_42 : decode cX10_bearerFact 42 = .ok (.iload_n 1, 1) := dx_27 (dl_at 32 10 lb_X10_bearerFact_1 rfl)
theorem dX10_bearerFact_43 : decode cX10_bearerFact 43 = .ok (.iaload, 1) := dx_46 (dl_at 32 11 lb_X10_bearerFact_1 rfl)
theorem dX10_bearerFact_44 : decode cX10_bearerFact 44 = .ok (.ireturn, 1) := dx_172 (dl_at 32 12 lb_X10_bearerFact_1 rfl)
theorem dX10_bearerFact_45 : decode cX10_bearerFact 45 = .ok (.aload_n 0, 1) := dx_42 (dl_at 32 13 lb_X10_bearerFact_1 rfl)
theorem dX10_bearerFact_46 : decode cX10_bearerFact 46 = .ok (.iload_n 1, 1) := dx_27 (dl_at 32 14 lb_X10_bearerFact_1 rfl)
theorem dX10_bearerFact_47 : decode cX10_bearerFact 47 = .ok (.aload_n 0, 1) := dx_42 (dl_at 32 15 lb_X10_bearerFact_1 rfl)
theorem dX10_bearerFact_48 : decode cX10_bearerFact 48 = .ok (.getfield 24, 3) := dx_180 (a := 0) (b := 24) (dl_at 32 16 lb_X10_bearerFact_1 rfl) (dl_at 32 17 lb_X10_bearerFact_1 rfl) (dl_at 32 18 lb_X10_bearerFact_1 rfl) rfl
theorem dX10_bearerFact_51 : decode cX10_bearerFact 51 = .ok (.getfield 48, 3) := dx_180 (a := 0) (b := 48) (dl_at 32 19 lb_X10_bearerFact_1 rfl) (dl_at 32 20 lb_X10_bearerFact_1 rfl) (dl_at 32 21 lb_X10_bearerFact_1 rfl) rfl
theorem dX10_bearerFact_54 : decode cX10_bearerFact 54 = .ok (.invokevirtual 51, 3) := dx_182 (a := 0) (b := 51) (dl_at 32 22 lb_X10_bearerFact_1 rfl) (dl_at 32 23 lb_X10_bearerFact_1 rfl) (dl_at 32 24 lb_X10_bearerFact_1 rfl) rfl
theorem dX10_bearerFact_57 : decode cX10_bearerFact 57 = .ok (.invokestatic 55, 3) := dx_184 (a := 0) (b := 55) (dl_at 32 25 lb_X10_bearerFact_1 rfl) (dl_at 32 26 lb_X10_bearerFact_1 rfl) (dl_at 32 27 lb_X10_bearerFact_1 rfl) rfl
theorem dX10_bearerFact_60 : decode cX10_bearerFact 60 = .ok (.ireturn, 1) := dx_172 (dl_at 32 28 lb_X10_bearerFact_1 rfl)
theorem lb_X10_digestOn_0 : dl_ck (cX10_digestOn.data.toList.drop 0) [31, 66, 3, 54, 5, 21, 5, 42, 180, 0, 34, 162, 0, 40, 3, 54, 6, 21, 6, 7, 162, 0, 25, 20, 0, 132, 33, 105, 42, 21, 5, 21] = true := by decide +kernel
theorem lb_X10_digestOn_1 : dl_ck (cX10_digestOn.data.toList.drop 32) [6, 182, 0, 134, 133, 97, 66, 132, 6, 1, 167, 255, 231, 132, 5, 1, 167, 255, 213, 3, 54, 5, 21, 5, 42, 180, 0, 38, 162, 0, 59, 20] = true := by decide +kernel
theorem lb_X10_digestOn_2 : dl_ck (cX10_digestOn.data.toList.drop 64) [0, 132, 33, 105, 42, 180, 0, 15, 21, 5, 46, 133, 97, 66, 20, 0, 132, 33, 105, 42, 180, 0, 18, 21, 5, 46, 133, 97, 66, 20, 0, 132] = true := by decide +kernel
theorem lb_X10_digestOn_3 : dl_ck (cX10_digestOn.data.toList.drop 96) [33, 105, 42, 180, 0, 24, 180, 0, 48, 21, 5, 122, 4, 126, 133, 97, 66, 132, 5, 1, 167, 255, 194, 3, 54, 5, 21, 5, 42, 180, 0, 24] = true := by decide +kernel
theorem lb_X10_digestOn_4 : dl_ck (cX10_digestOn.data.toList.drop 128) [180, 0, 64, 162, 0, 31, 42, 180, 0, 24, 180, 0, 67, 21, 5, 50, 33, 42, 180, 0, 24, 180, 0, 95, 182, 0, 137, 66, 132, 5, 1, 167] = true := by decide +kernel
theorem lb_X10_digestOn_5 : dl_ck (cX10_digestOn.data.toList.drop 160) [255, 219, 33, 173] = true := by decide +kernel
theorem dX10_digestOn_0 : decode cX10_digestOn 0 = .ok (.lload_n 1, 1) := dx_31 (dl_at 0 0 lb_X10_digestOn_0 rfl)
theorem dX10_digestOn_1 : decode cX10_digestOn 1 = .ok (.lstore_n 3, 1) := dx_66 (dl_at 0 1 lb_X10_digestOn_0 rfl)
theorem dX10_digestOn_2 : decode cX10_digestOn 2 = .ok (.iconst 0, 1) := dx_3 (dl_at 0 2 lb_X10_digestOn_0 rfl)
theorem dX10_digestOn_3 : decode cX10_digestOn 3 = .ok (.istore 5, 2) := dx_54 (dl_at 0 3 lb_X10_digestOn_0 rfl) (dl_at 0 4 lb_X10_digestOn_0 rfl)
theorem dX10_digestOn_5 : decode cX10_digestOn 5 = .ok (.iload 5, 2) := dx_21 (dl_at 0 5 lb_X10_digestOn_0 rfl) (dl_at 0 6 lb_X10_digestOn_0 rfl)
theorem dX10_digestOn_7 : decode cX10_digestOn 7 = .ok (.aload_n 0, 1) := dx_42 (dl_at 0 7 lb_X10_digestOn_0 rfl)
theorem dX10_digestOn_8 : decode cX10_digestOn 8 = .ok (.getfield 34, 3) := dx_180 (a := 0) (b := 34) (dl_at 0 8 lb_X10_digestOn_0 rfl) (dl_at 0 9 lb_X10_digestOn_0 rfl) (dl_at 0 10 lb_X10_digestOn_0 rfl) rfl
theorem dX10_digestOn_11 : decode cX10_digestOn 11 = .ok (.if_icmp .ge 40, 3) := dx_162 (a := 0) (b := 40) (dl_at 0 11 lb_X10_digestOn_0 rfl) (dl_at 0 12 lb_X10_digestOn_0 rfl) (dl_at 0 13 lb_X10_digestOn_0 rfl) sg16_40
theorem dX10_digestOn_51 : decode cX10_digestOn 51 = .ok (.iconst 0, 1) := dx_3 (dl_at 32 19 lb_X10_digestOn_1 rfl)
theorem dX10_digestOn_52 : decode cX10_digestOn 52 = .ok (.istore 5, 2) := dx_54 (dl_at 32 20 lb_X10_digestOn_1 rfl) (dl_at 32 21 lb_X10_digestOn_1 rfl)
theorem dX10_digestOn_54 : decode cX10_digestOn 54 = .ok (.iload 5, 2) := dx_21 (dl_at 32 22 lb_X10_digestOn_1 rfl) (dl_at 32 23 lb_X10_digestOn_1 rfl)
theorem dX10_digestOn_56 : decode cX10_digestOn 56 = .ok (.aload_n 0, 1) := dx_42 (dl_at 32 24 lb_X10_digestOn_1 rfl)
theorem dX10_digestOn_57 : decode cX10_digestOn 57 = .ok (.getfield 38, 3) := dx_180 (a := 0) (b := 38) (dl_at 32 25 lb_X10_digestOn_1 rfl) (dl_at 32 26 lb_X10_digestOn_1 rfl) (dl_at 32 27 lb_X10_digestOn_1 rfl) rfl
theorem dX10_digestOn_60 : decode cX10_digestOn 60 = .ok (.if_icmp .ge 59, 3) := dx_162 (a := 0) (b := 59) (dl_at 32 28 lb_X10_digestOn_1 rfl) (dl_at 32 29 lb_X10_digestOn_1 rfl) (dl_at 32 30 lb_X10_digestOn_1 rfl) sg16_59
theorem dX10_digestOn_119 : decode cX10_digestOn 119 = .ok (.iconst 0, 1) := dx_3 (dl_at 96 23 lb_X10_digestOn_3 rfl)
theorem dX10_digestOn_120 : decode cX10_digestOn 120 = .ok (.istore 5, 2) := dx_54 (dl_at 96 24 lb_X10_digestOn_3 rfl) (dl_at 96 25 lb_X10_digestOn_3 rfl)
theorem dX10_digestOn_122 : decode cX10_digestOn 122 = .ok (.iload 5, 2) := dx_21 (dl_at 96 26 lb_X10_digestOn_3 rfl) (dl_at 96 27 lb_X10_digestOn_3 rfl)
theorem dX10_digestOn_124 : decode cX10_digestOn 124 = .ok (.aload_n 0, 1) := dx_42 (dl_at 96 28 lb_X10_digestOn_3 rfl)
theorem dX10_digestOn_125 : decode cX10_digestOn 125 = .ok (.getfield 24, 3) := dx_180 (a := 0) (b := 24) (dl_at 96 29 lb_X10_digestOn_3 rfl) (dl_at 96 30 lb_X10_digestOn_3 rfl) (dl_at 96 31 lb_X10_digestOn_3 rfl) rfl
theorem dX10_digestOn_128 : decode cX10_digestOn 128 = .ok (.getfield 64, 3) := dx_180 (a := 0) (b := 64) (dl_at 128 0 lb_X10_digestOn_4 rfl) (dl_at 128 1 lb_X10_digestOn_4 rfl) (dl_at 128 2 lb_X10_digestOn_4 rfl) rfl
theorem dX10_digestOn_131 : decode cX10_digestOn 131 = .ok (.if_icmp .ge 31, 3) := dx_162 (a := 0) (b := 31) (dl_at 128 3 lb_X10_digestOn_4 rfl) (dl_at 128 4 lb_X10_digestOn_4 rfl) (dl_at 128 5 lb_X10_digestOn_4 rfl) sg16_31
theorem dX10_digestOn_162 : decode cX10_digestOn 162 = .ok (.lload_n 3, 1) := dx_33 (dl_at 160 2 lb_X10_digestOn_5 rfl)
theorem dX10_digestOn_163 : decode cX10_digestOn 163 = .ok (.lreturn, 1) := dx_173 (dl_at 160 3 lb_X10_digestOn_5 rfl)
theorem dX10_digestOn_134 : decode cX10_digestOn 134 = .ok (.aload_n 0, 1) := dx_42 (dl_at 128 6 lb_X10_digestOn_4 rfl)
theorem dX10_digestOn_135 : decode cX10_digestOn 135 = .ok (.getfield 24, 3) := dx_180 (a := 0) (b := 24) (dl_at 128 7 lb_X10_digestOn_4 rfl) (dl_at 128 8 lb_X10_digestOn_4 rfl) (dl_at 128 9 lb_X10_digestOn_4 rfl) rfl
theorem dX10_digestOn_138 : decode cX10_digestOn 138 = .ok (.getfield 67, 3) := dx_180 (a := 0) (b := 67) (dl_at 128 10 lb_X10_digestOn_4 rfl) (dl_at 128 11 lb_X10_digestOn_4 rfl) (dl_at 128 12 lb_X10_digestOn_4 rfl) rfl
theorem dX10_digestOn_141 : decode cX10_digestOn 141 = .ok (.iload 5, 2) := dx_21 (dl_at 128 13 lb_X10_digestOn_4 rfl) (dl_at 128 14 lb_X10_digestOn_4 rfl)
theorem dX10_digestOn_143 : decode cX10_digestOn 143 = .ok (.aaload, 1) := dx_50 (dl_at 128 15 lb_X10_digestOn_4 rfl)
theorem dX10_digestOn_144 : decode cX10_digestOn 144 = .ok (.lload_n 3, 1) := dx_33 (dl_at 128 16 lb_X10_digestOn_4 rfl)
theorem dX10_digestOn_145 : decode cX10_digestOn 145 = .ok (.aload_n 0, 1) := dx_42 (dl_at 128 17 lb_X10_digestOn_4 rfl)
theorem dX10_digestOn_146 : decode cX10_digestOn 146 = .ok (.getfield 24, 3) := dx_180 (a := 0) (b := 24) (dl_at 128 18 lb_X10_digestOn_4 rfl) (dl_at 128 19 lb_X10_digestOn_4 rfl) (dl_at 128 20 lb_X10_digestOn_4 rfl) rfl
theorem dX10_digestOn_149 : decode cX10_digestOn 149 = .ok (.getfield 95, 3) := dx_180 (a := 0) (b := 95) (dl_at 128 21 lb_X10_digestOn_4 rfl) (dl_at 128 22 lb_X10_digestOn_4 rfl) (dl_at 128 23 lb_X10_digestOn_4 rfl) rfl
theorem dX10_digestOn_152 : decode cX10_digestOn 152 = .ok (.invokevirtual 137, 3) := dx_182 (a := 0) (b := 137) (dl_at 128 24 lb_X10_digestOn_4 rfl) (dl_at 128 25 lb_X10_digestOn_4 rfl) (dl_at 128 26 lb_X10_digestOn_4 rfl) rfl
theorem dX10_digestOn_155 : decode cX10_digestOn 155 = .ok (.lstore_n 3, 1) := dx_66 (dl_at 128 27 lb_X10_digestOn_4 rfl)
theorem dX10_digestOn_156 : decode cX10_digestOn 156 = .ok (.iinc 5 1, 3) := dx_132 (dl_at 128 28 lb_X10_digestOn_4 rfl) (dl_at 128 29 lb_X10_digestOn_4 rfl) (dl_at 128 30 lb_X10_digestOn_4 rfl) sg8_1
theorem dX10_digestOn_159 : decode cX10_digestOn 159 = .ok (.goto (-37), 3) := dx_167 (a := 255) (b := 219) (dl_at 128 31 lb_X10_digestOn_4 rfl) (dl_at 160 0 lb_X10_digestOn_5 rfl) (dl_at 160 1 lb_X10_digestOn_5 rfl) sg16_65499
theorem dX10_digestOn_63 : decode cX10_digestOn 63 = .ok (.ldc2_w 132, 3) := dx_20 (a := 0) (b := 132) (dl_at 32 31 lb_X10_digestOn_1 rfl) (dl_at 64 0 lb_X10_digestOn_2 rfl) (dl_at 64 1 lb_X10_digestOn_2 rfl) rfl
theorem dX10_digestOn_66 : decode cX10_digestOn 66 = .ok (.lload_n 3, 1) := dx_33 (dl_at 64 2 lb_X10_digestOn_2 rfl)
theorem dX10_digestOn_67 : decode cX10_digestOn 67 = .ok (.lmul, 1) := dx_105 (dl_at 64 3 lb_X10_digestOn_2 rfl)
theorem dX10_digestOn_68 : decode cX10_digestOn 68 = .ok (.aload_n 0, 1) := dx_42 (dl_at 64 4 lb_X10_digestOn_2 rfl)
theorem dX10_digestOn_69 : decode cX10_digestOn 69 = .ok (.getfield 15, 3) := dx_180 (a := 0) (b := 15) (dl_at 64 5 lb_X10_digestOn_2 rfl) (dl_at 64 6 lb_X10_digestOn_2 rfl) (dl_at 64 7 lb_X10_digestOn_2 rfl) rfl
theorem dX10_digestOn_72 : decode cX10_digestOn 72 = .ok (.iload 5, 2) := dx_21 (dl_at 64 8 lb_X10_digestOn_2 rfl) (dl_at 64 9 lb_X10_digestOn_2 rfl)
theorem dX10_digestOn_74 : decode cX10_digestOn 74 = .ok (.iaload, 1) := dx_46 (dl_at 64 10 lb_X10_digestOn_2 rfl)
theorem dX10_digestOn_75 : decode cX10_digestOn 75 = .ok (.i2l, 1) := dx_133 (dl_at 64 11 lb_X10_digestOn_2 rfl)
theorem dX10_digestOn_76 : decode cX10_digestOn 76 = .ok (.ladd, 1) := dx_97 (dl_at 64 12 lb_X10_digestOn_2 rfl)
theorem dX10_digestOn_77 : decode cX10_digestOn 77 = .ok (.lstore_n 3, 1) := dx_66 (dl_at 64 13 lb_X10_digestOn_2 rfl)
theorem dX10_digestOn_78 : decode cX10_digestOn 78 = .ok (.ldc2_w 132, 3) := dx_20 (a := 0) (b := 132) (dl_at 64 14 lb_X10_digestOn_2 rfl) (dl_at 64 15 lb_X10_digestOn_2 rfl) (dl_at 64 16 lb_X10_digestOn_2 rfl) rfl
theorem dX10_digestOn_81 : decode cX10_digestOn 81 = .ok (.lload_n 3, 1) := dx_33 (dl_at 64 17 lb_X10_digestOn_2 rfl)
theorem dX10_digestOn_82 : decode cX10_digestOn 82 = .ok (.lmul, 1) := dx_105 (dl_at 64 18 lb_X10_digestOn_2 rfl)
theorem dX10_digestOn_83 : decode cX10_digestOn 83 = .ok (.aload_n 0, 1) := dx_42 (dl_at 64 19 lb_X10_digestOn_2 rfl)
theorem dX10_digestOn_84 : decode cX10_digestOn 84 = .ok (.getfield 18, 3) := dx_180 (a := 0) (b := 18) (dl_at 64 20 lb_X10_digestOn_2 rfl) (dl_at 64 21 lb_X10_digestOn_2 rfl) (dl_at 64 22 lb_X10_digestOn_2 rfl) rfl
theorem dX10_digestOn_87 : decode cX10_digestOn 87 = .ok (.iload 5, 2) := dx_21 (dl_at 64 23 lb_X10_digestOn_2 rfl) (dl_at 64 24 lb_X10_digestOn_2 rfl)
theorem dX10_digestOn_89 : decode cX10_digestOn 89 = .ok (.iaload, 1) := dx_46 (dl_at 64 25 lb_X10_digestOn_2 rfl)
theorem dX10_digestOn_90 : decode cX10_digestOn 90 = .ok (.i2l, 1) := dx_133 (dl_at 64 26 lb_X10_digestOn_2 rfl)
theorem dX10_digestOn_91 : decode cX10_digestOn 91 = .ok (.ladd, 1) := dx_97 (dl_at 64 27 lb_X10_digestOn_2 rfl)
theorem dX10_digestOn_92 : decode cX10_digestOn 92 = .ok (.lstore_n 3, 1) := dx_66 (dl_at 64 28 lb_X10_digestOn_2 rfl)
theorem dX10_digestOn_93 : decode cX10_digestOn 93 = .ok (.ldc2_w 132, 3) := dx_20 (a := 0) (b := 132) (dl_at 64 29 lb_X10_digestOn_2 rfl) (dl_at 64 30 lb_X10_digestOn_2 rfl) (dl_at 64 31 lb_X10_digestOn_2 rfl) rfl
theorem dX10_digestOn_96 : decode cX10_digestOn 96 = .ok (.lload_n 3, 1) := dx_33 (dl_at 96 0 lb_X10_digestOn_3 rfl)
theorem dX10_digestOn_97 : decode cX10_digestOn 97 = .ok (.lmul, 1) := dx_105 (dl_at 96 1 lb_X10_digestOn_3 rfl)
theorem dX10_digestOn_98 : decode cX10_digestOn 98 = .ok (.aload_n 0, 1) := dx_42 (dl_at 96 2 lb_X10_digestOn_3 rfl)
theorem dX10_digestOn_99 : decode cX10_digestOn 99 = .ok (.getfield 24, 3) := dx_180 (a := 0) (b := 24) (dl_at 96 3 lb_X10_digestOn_3 rfl) (dl_at 96 4 lb_X10_digestOn_3 rfl) (dl_at 96 5 lb_X10_digestOn_3 rfl) rfl
theorem dX10_digestOn_102 : decode cX10_digestOn 102 = .ok (.getfield 48, 3) := dx_180 (a := 0) (b := 48) (dl_at 96 6 lb_X10_digestOn_3 rfl) (dl_at 96 7 lb_X10_digestOn_3 rfl) (dl_at 96 8 lb_X10_digestOn_3 rfl) rfl
theorem dX10_digestOn_105 : decode cX10_digestOn 105 = .ok (.iload 5, 2) := dx_21 (dl_at 96 9 lb_X10_digestOn_3 rfl) (dl_at 96 10 lb_X10_digestOn_3 rfl)
theorem dX10_digestOn_107 : decode cX10_digestOn 107 = .ok (.ishr, 1) := dx_122 (dl_at 96 11 lb_X10_digestOn_3 rfl)
theorem dX10_digestOn_108 : decode cX10_digestOn 108 = .ok (.iconst 1, 1) := dx_4 (dl_at 96 12 lb_X10_digestOn_3 rfl)
theorem dX10_digestOn_109 : decode cX10_digestOn 109 = .ok (.iand, 1) := dx_126 (dl_at 96 13 lb_X10_digestOn_3 rfl)
theorem dX10_digestOn_110 : decode cX10_digestOn 110 = .ok (.i2l, 1) := dx_133 (dl_at 96 14 lb_X10_digestOn_3 rfl)
theorem dX10_digestOn_111 : decode cX10_digestOn 111 = .ok (.ladd, 1) := dx_97 (dl_at 96 15 lb_X10_digestOn_3 rfl)
theorem dX10_digestOn_112 : decode cX10_digestOn 112 = .ok (.lstore_n 3, 1) := dx_66 (dl_at 96 16 lb_X10_digestOn_3 rfl)
theorem dX10_digestOn_113 : decode cX10_digestOn 113 = .ok (.iinc 5 1, 3) := dx_132 (dl_at 96 17 lb_X10_digestOn_3 rfl) (dl_at 96 18 lb_X10_digestOn_3 rfl) (dl_at 96 19 lb_X10_digestOn_3 rfl) sg8_1
theorem dX10_digestOn_116 : decode cX10_digestOn 116 = .ok (.goto (-62), 3) := dx_167 (a := 255) (b := 194) (dl_at 96 20 lb_X10_digestOn_3 rfl) (dl_at 96 21 lb_X10_digestOn_3 rfl) (dl_at 96 22 lb_X10_digestOn_3 rfl) sg16_65474
theorem dX10_digestOn_14 : decode cX10_digestOn 14 = .ok (.iconst 0, 1) := dx_3 (dl_at 0 14 lb_X10_digestOn_0 rfl)
theorem dX10_digestOn_15 : decode cX10_digestOn 15 = .ok (.istore 6, 2) := dx_54 (dl_at 0 15 lb_X10_digestOn_0 rfl) (dl_at 0 16 lb_X10_digestOn_0 rfl)
theorem dX10_digestOn_17 : decode cX10_digestOn 17 = .ok (.iload 6, 2) := dx_21 (dl_at 0 17 lb_X10_digestOn_0 rfl) (dl_at 0 18 lb_X10_digestOn_0 rfl)
theorem dX10_digestOn_19 : decode cX10_digestOn 19 = .ok (.iconst 4, 1) := dx_7 (dl_at 0 19 lb_X10_digestOn_0 rfl)
theorem dX10_digestOn_20 : decode cX10_digestOn 20 = .ok (.if_icmp .ge 25, 3) := dx_162 (a := 0) (b := 25) (dl_at 0 20 lb_X10_digestOn_0 rfl) (dl_at 0 21 lb_X10_digestOn_0 rfl) (dl_at 0 22 lb_X10_digestOn_0 rfl) sg16_25
theorem dX10_digestOn_45 : decode cX10_digestOn 45 = .ok (.iinc 5 1, 3) := dx_132 (dl_at 32 13 lb_X10_digestOn_1 rfl) (dl_at 32 14 lb_X10_digestOn_1 rfl) (dl_at 32 15 lb_X10_digestOn_1 rfl) sg8_1
theorem dX10_digestOn_48 : decode cX10_digestOn 48 = .ok (.goto (-43), 3) := dx_167 (a := 255) (b := 213) (dl_at 32 16 lb_X10_digestOn_1 rfl) (dl_at 32 17 lb_X10_digestOn_1 rfl) (dl_at 32 18 lb_X10_digestOn_1 rfl) sg16_65493
theorem dX10_digestOn_23 : decode cX10_digestOn 23 = .ok (.ldc2_w 132, 3) := dx_20 (a := 0) (b := 132) (dl_at 0 23 lb_X10_digestOn_0 rfl) (dl_at 0 24 lb_X10_digestOn_0 rfl) (dl_at 0 25 lb_X10_digestOn_0 rfl) rfl
theorem dX10_digestOn_26 : decode cX10_digestOn 26 = .ok (.lload_n 3, 1) := dx_33 (dl_at 0 26 lb_X10_digestOn_0 rfl)
theorem dX10_digestOn_27 : decode cX10_digestOn 27 = .ok (.lmul, 1) := dx_105 (dl_at 0 27 lb_X10_digestOn_0 rfl)
theorem dX10_digestOn_28 : decode cX10_digestOn 28 = .ok (.aload_n 0, 1) := dx_42 (dl_at 0 28 lb_X10_digestOn_0 rfl)
theorem dX10_digestOn_29 : decode cX10_digestOn 29 = .ok (.iload 5, 2) := dx_21 (dl_at 0 29 lb_X10_digestOn_0 rfl) (dl_at 0 30 lb_X10_digestOn_0 rfl)
theorem dX10_digestOn_31 : decode cX10_digestOn 31 = .ok (.iload 6, 2) := dx_21 (dl_at 0 31 lb_X10_digestOn_0 rfl) (dl_at 32 0 lb_X10_digestOn_1 rfl)
theorem dX10_digestOn_33 : decode cX10_digestOn 33 = .ok (.invokevirtual 134, 3) := dx_182 (a := 0) (b := 134) (dl_at 32 1 lb_X10_digestOn_1 rfl) (dl_at 32 2 lb_X10_digestOn_1 rfl) (dl_at 32 3 lb_X10_digestOn_1 rfl) rfl
theorem dX10_digestOn_36 : decode cX10_digestOn 36 = .ok (.i2l, 1) := dx_133 (dl_at 32 4 lb_X10_digestOn_1 rfl)
theorem dX10_digestOn_37 : decode cX10_digestOn 37 = .ok (.ladd, 1) := dx_97 (dl_at 32 5 lb_X10_digestOn_1 rfl)
theorem dX10_digestOn_38 : decode cX10_digestOn 38 = .ok (.lstore_n 3, 1) := dx_66 (dl_at 32 6 lb_X10_digestOn_1 rfl)
theorem dX10_digestOn_39 : decode cX10_digestOn 39 = .ok (.iinc 6 1, 3) := dx_132 (dl_at 32 7 lb_X10_digestOn_1 rfl) (dl_at 32 8 lb_X10_digestOn_1 rfl) (dl_at 32 9 lb_X10_digestOn_1 rfl) sg8_1
theorem dX10_digestOn_42 : decode cX10_digestOn 42 = .ok (.goto (-25), 3) := dx_167 (a := 255) (b := 231) (dl_at 32 10 lb_X10_digestOn_1 rfl) (dl_at 32 11 lb_X10_digestOn_1 rfl) (dl_at 32 12 lb_X10_digestOn_1 rfl) sg16_65511
def F_sx_worthOn (mu : Nat → Nat → Int32) (kk : Nat) (vd : Int32) : Int32 :=
  LETV (mu kk 2 : Int32) fun y1 =>
  LETV (mu kk 3 : Int32) fun y2 =>
  LETV (mu kk 4 : Int32) fun y3 =>
  LETV (vd - y3 : Int32) fun t4 =>
  LETV (y2 * t4 : Int32) fun t5 =>
  LETV (y1 - t5 : Int32) fun t6 =>
  LETV (if 0 < t6 then t6 else 0 : Int32) fun t7 =>
  (t7 : Int32)
def F_sx_fact (mu : Nat → Nat → Int32) (kk : Nat) (vw : Int32) (vd : Int32) : Int32 :=
  if (vw).toInt < 0 ∨ 3 < (vw).toInt then (
    LETV (mu kk 8 : Int32) fun y2 =>
    (y2 : Int32)
  ) else (
    if (vw).toInt = 0 then (
      LETV (mu kk 0 : Int32) fun y3 =>
      (y3 : Int32)
    ) else (
      if (vw).toInt = 1 then (
        LETV (mu kk 1 : Int32) fun y4 =>
        (y4 : Int32)
      ) else (
        if (vw).toInt = 2 then (
          LETV (F_sx_worthOn mu kk (vd : Int32) : Int32) fun r5 =>
          (r5 : Int32)
        ) else (
          LETV (mu kk 9 : Int32) fun y6 =>
          if y6 = (0 : Int32) then (
            (0 : Int32)
          ) else (
            (1 : Int32)
          )
        )
      )
    )
  )
def F_sx_begin (mu : Nat → Nat → Int32) (kk : Nat) (vx : Int32) (vy : Int32) (vw : Int32) (vl : Int32) (vd : Int32) : Nat → Nat → Int32 :=
  LETV (va_up mu kk (upd (mu kk) 0 vx) : Nat → Nat → Int32) fun nu1 =>
  LETV (va_up nu1 kk (upd (nu1 kk) 1 vy) : Nat → Nat → Int32) fun nu4 =>
  LETV (va_up nu4 kk (upd (nu4 kk) 2 vw) : Nat → Nat → Int32) fun nu8 =>
  LETV (va_up nu8 kk (upd (nu8 kk) 3 vl) : Nat → Nat → Int32) fun nu13 =>
  LETV (va_up nu13 kk (upd (nu13 kk) 4 vd) : Nat → Nat → Int32) fun nu19 =>
  LETV (va_up nu19 kk (upd (nu19 kk) 5 vx) : Nat → Nat → Int32) fun nu26 =>
  LETV (va_up nu26 kk (upd (nu26 kk) 6 0) : Nat → Nat → Int32) fun nu34 =>
  LETV (va_up nu34 kk (upd (nu34 kk) 7 (-9)) : Nat → Nat → Int32) fun nu43 =>
  LETV (va_up nu43 kk (upd (nu43 kk) 8 0) : Nat → Nat → Int32) fun nu53 =>
  LETV (va_up nu53 kk (upd (nu53 kk) 9 0) : Nat → Nat → Int32) fun nu64 =>
  nu64
def F_sx_Letter_beLike (mu : Nat → Nat → Int32) (kk : Nat) (kl : Nat) : Nat → Nat → Int32 :=
  LETV (mu kl 0 : Int32) fun y1 =>
  LETV (va_up mu kk (upd (mu kk) 0 y1) : Nat → Nat → Int32) fun nu2 =>
  LETV (nu2 kl 1 : Int32) fun y5 =>
  LETV (va_up nu2 kk (upd (nu2 kk) 1 y5) : Nat → Nat → Int32) fun nu6 =>
  LETV (nu6 kl 2 : Int32) fun y10 =>
  LETV (va_up nu6 kk (upd (nu6 kk) 2 y10) : Nat → Nat → Int32) fun nu11 =>
  LETV (nu11 kl 3 : Int32) fun y16 =>
  LETV (va_up nu11 kk (upd (nu11 kk) 3 y16) : Nat → Nat → Int32) fun nu17 =>
  LETV (nu17 kl 4 : Int32) fun y23 =>
  LETV (va_up nu17 kk (upd (nu17 kk) 4 y23) : Nat → Nat → Int32) fun nu24 =>
  LETV (nu24 kl 5 : Int32) fun y31 =>
  LETV (va_up nu24 kk (upd (nu24 kk) 5 y31) : Nat → Nat → Int32) fun nu32 =>
  LETV (nu32 kl 6 : Int32) fun y40 =>
  LETV (va_up nu32 kk (upd (nu32 kk) 6 y40) : Nat → Nat → Int32) fun nu41 =>
  LETV (nu41 kl 7 : Int32) fun y50 =>
  LETV (va_up nu41 kk (upd (nu41 kk) 7 y50) : Nat → Nat → Int32) fun nu51 =>
  LETV (nu51 kl 8 : Int32) fun y61 =>
  LETV (va_up nu51 kk (upd (nu51 kk) 8 y61) : Nat → Nat → Int32) fun nu62 =>
  LETV (nu62 kl 9 : Int32) fun y73 =>
  LETV (va_up nu62 kk (upd (nu62 kk) 9 y73) : Nat → Nat → Int32) fun nu74 =>
  nu74
def F_sx_priceOf (mu : Nat → Nat → Int32) (kl : Nat) : Int32 :=
  LETV (mu kl 5 : Int32) fun y1 =>
  LETV (mu 34 y1.toNatClampNeg : Int32) fun y2 =>
  LETV (mu kl 6 : Int32) fun y3 =>
  LETV (F_sx_priceAsked (y2 : Int32) (y3 : Int32) : Int32) fun r4 =>
  (r4 : Int32)
def L_sx_buyersOf_48_0 (kl : Nat) (mu : Nat → Nat → Int32) (r6 : Int32) (y4 : Int32) : Nat → (Int32) → (Int32) → Int32
  | 0, v3_48, v4_48 => 0
  | n + 1, v3_48, v4_48 =>
    LETV (mu 4 6 : Int32) fun y10 =>
    if v4_48 ≥ y10 then (
      (v3_48 : Int32)
    ) else (
      LETV (mu kl 1 : Int32) fun y12 =>
      if v4_48 = y12 then (
        LETV (F_sx_worthOn mu kl (y4 : Int32) : Int32) fun r27 =>
        if r27 < r6 then (
          LETV (1 <<< (v4_48 &&& 31) : Int32) fun t29 =>
          LETV (t29 ^^^ (-1) : Int32) fun t30 =>
          LETV (v3_48 &&& t30 : Int32) fun t31 =>
          LETV ((v4_48 + 1) : Int32) fun w32 =>
          L_sx_buyersOf_48_0 kl mu r6 y4 n (t31 : Int32) (w32 : Int32)
        ) else (
          LETV (mu 46 v4_48.toNatClampNeg : Int32) fun y33 =>
          if y33 ≥ r6 then (
            LETV ((v4_48 + 1) : Int32) fun w35 =>
            L_sx_buyersOf_48_0 kl mu r6 y4 n (v3_48 : Int32) (w35 : Int32)
          ) else (
            LETV (1 <<< (v4_48 &&& 31) : Int32) fun t36 =>
            LETV (t36 ^^^ (-1) : Int32) fun t37 =>
            LETV (v3_48 &&& t37 : Int32) fun t38 =>
            LETV ((v4_48 + 1) : Int32) fun w39 =>
            L_sx_buyersOf_48_0 kl mu r6 y4 n (t38 : Int32) (w39 : Int32)
          )
        )
      ) else (
        LETV (mu 34 v4_48.toNatClampNeg : Int32) fun y14 =>
        if y14 = (3 : Int32) then (
          LETV (1 <<< (v4_48 &&& 31) : Int32) fun t16 =>
          LETV (t16 ^^^ (-1) : Int32) fun t17 =>
          LETV (v3_48 &&& t17 : Int32) fun t18 =>
          LETV ((v4_48 + 1) : Int32) fun w19 =>
          L_sx_buyersOf_48_0 kl mu r6 y4 n (t18 : Int32) (w19 : Int32)
        ) else (
          LETV (mu 46 v4_48.toNatClampNeg : Int32) fun y20 =>
          if y20 ≥ r6 then (
            LETV ((v4_48 + 1) : Int32) fun w22 =>
            L_sx_buyersOf_48_0 kl mu r6 y4 n (v3_48 : Int32) (w22 : Int32)
          ) else (
            LETV (1 <<< (v4_48 &&& 31) : Int32) fun t23 =>
            LETV (t23 ^^^ (-1) : Int32) fun t24 =>
            LETV (v3_48 &&& t24 : Int32) fun t25 =>
            LETV ((v4_48 + 1) : Int32) fun w26 =>
            L_sx_buyersOf_48_0 kl mu r6 y4 n (t25 : Int32) (w26 : Int32)
          )
        )
      )
    )
def F_sx_buyersOf (mu : Nat → Nat → Int32) (kl : Nat) : Int32 :=
  LETV (mu kl 9 : Int32) fun y1 =>
  if y1 = (0 : Int32) then (
    LETV (mu kl 7 : Int32) fun y3 =>
    LETV (mu 5 3 : Int32) fun y4 =>
    if y3 = y4 then (
      (0 : Int32)
    ) else (
      LETV (F_sx_priceOf mu kl : Int32) fun r6 =>
      LETV (mu kl 5 : Int32) fun y7 =>
      LETV (mu 5 2 : Int32) fun y8 =>
      LETV (F_sx_near mu (y7 : Int32) (y8 : Int32) : Int32) fun r9 =>
      L_sx_buyersOf_48_0 kl mu r6 y4 10 (r9 : Int32) (0 : Int32)
    )
  ) else (
    (0 : Int32)
  )
def L_sx_buyableBy_4_0 (mu : Nat → Nat → Int32) (vx : Int32) : Nat → (Int32) → (Int32) → Int32
  | 0, v2_4, v3_4 => 0
  | n + 1, v2_4, v3_4 =>
    LETV (mu 5 4 : Int32) fun y1 =>
    if v3_4 ≥ y1 then (
      (v2_4 : Int32)
    ) else (
      LETV (F_sx_buyersOf mu (61 + v3_4.toNatClampNeg) : Int32) fun r4 =>
      LETV (F_sx_hasBit (r4 : Int32) (vx : Int32) : Int32) fun r5 =>
      if r5 = (0 : Int32) then (
        LETV (v2_4 ||| 0 : Int32) fun t7 =>
        LETV ((v3_4 + 1) : Int32) fun w8 =>
        L_sx_buyableBy_4_0 mu vx n (t7 : Int32) (w8 : Int32)
      ) else (
        LETV (1 <<< (v3_4 &&& 31) : Int32) fun t9 =>
        LETV (v2_4 ||| t9 : Int32) fun t10 =>
        LETV ((v3_4 + 1) : Int32) fun w11 =>
        L_sx_buyableBy_4_0 mu vx n (t10 : Int32) (w11 : Int32)
      )
    )
def F_sx_buyableBy (mu : Nat → Nat → Int32) (vx : Int32) : Int32 :=
  L_sx_buyableBy_4_0 mu vx 7 (0 : Int32) (0 : Int32)
def L_sx_priceOfAll_4_0 (mu : Nat → Nat → Int32) (vb : Int32) : Nat → (Int32) → (Int32) → Int32
  | 0, v2_4, v3_4 => 0
  | n + 1, v2_4, v3_4 =>
    LETV (mu 5 4 : Int32) fun y1 =>
    if v3_4 ≥ y1 then (
      (v2_4 : Int32)
    ) else (
      LETV (F_sx_hasBit (vb : Int32) (v3_4 : Int32) : Int32) fun r3 =>
      if r3 = (0 : Int32) then (
        LETV (v2_4 + 0 : Int32) fun t5 =>
        LETV ((v3_4 + 1) : Int32) fun w6 =>
        L_sx_priceOfAll_4_0 mu vb n (t5 : Int32) (w6 : Int32)
      ) else (
        LETV (F_sx_priceOf mu (61 + v3_4.toNatClampNeg) : Int32) fun r8 =>
        LETV (v2_4 + r8 : Int32) fun t9 =>
        LETV ((v3_4 + 1) : Int32) fun w10 =>
        L_sx_priceOfAll_4_0 mu vb n (t9 : Int32) (w10 : Int32)
      )
    )
def F_sx_priceOfAll (mu : Nat → Nat → Int32) (vb : Int32) : Int32 :=
  L_sx_priceOfAll_4_0 mu vb 7 (0 : Int32) (0 : Int32)
def F_sx_bearerFact (mu : Nat → Nat → Int32) (vx : Int32) (vw : Int32) : Int32 :=
  if (vw).toInt < 0 ∨ 2 < (vw).toInt then (
    LETV (F_sx_unreadWith mu (vx : Int32) : Int32) fun r2 =>
    (r2 : Int32)
  ) else (
    if (vw).toInt = 0 then (
      LETV (mu 34 vx.toNatClampNeg : Int32) fun y3 =>
      (y3 : Int32)
    ) else (
      if (vw).toInt = 1 then (
        LETV (mu 46 vx.toNatClampNeg : Int32) fun y4 =>
        (y4 : Int32)
      ) else (
        LETV (mu 5 2 : Int32) fun y5 =>
        LETV (F_sx_near mu (vx : Int32) (y5 : Int32) : Int32) fun r6 =>
        LETV (F_sx_bitCount (r6 : Int32) : Int32) fun r7 =>
        (r7 : Int32)
      )
    )
  )
