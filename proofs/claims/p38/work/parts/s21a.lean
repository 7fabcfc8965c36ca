theorem mw_2_26 : (Cond.fieldLink RX0 9 "DearLetters$Best" "row" "[I" : Cond) ∈ lw_good := lg_at 2 26 rfl rfl
theorem mw_4_44 : (Cond.methodLink RX0 15 arraycopyName : Cond) ∈ lw_good := lg_at 4 44 rfl rfl
theorem mw_2_28 : (Cond.fieldLink RX0 21 "DearLetters$Best" "sales" "I" : Cond) ∈ lw_good := lg_at 2 28 rfl rfl
theorem mw_2_31 : (Cond.fieldLink RX0 25 "DearLetters$Best" "price" "I" : Cond) ∈ lw_good := lg_at 2 31 rfl rfl
theorem mw_2_34 : (Cond.fieldLink RX0 28 "DearLetters$Best" "there" "Z" : Cond) ∈ lw_good := lg_at 2 34 rfl rfl
theorem mw_1_162 : (Cond.fieldLink RX5 96 "DearLetters$Town" "bearers" "I" : Cond) ∈ lw_good := lg_at 1 162 rfl rfl
theorem mw_2_46 : (Cond.fieldLink RX5 9 "DearLetters$Routes" "near" "[I" : Cond) ∈ lw_good := lg_at 2 46 rfl rfl
theorem mw_4_19 : (Cond.methodLink RX5 99 yX10_near : Cond) ∈ lw_good := lg_at 4 19 rfl rfl
theorem mw_2_53 : (Cond.fieldLink RX5 75 "DearLetters$Routes" "from" "I" : Cond) ∈ lw_good := lg_at 2 53 rfl rfl
theorem mw_2_54 : (Cond.fieldLink RX5 78 "DearLetters$Routes" "to" "I" : Cond) ∈ lw_good := lg_at 2 54 rfl rfl
theorem mw_2_55 : (Cond.fieldLink RX5 81 "DearLetters$Routes" "paid" "I" : Cond) ∈ lw_good := lg_at 2 55 rfl rfl
theorem mw_1_153 : (Cond.fieldLink RX5 47 "DearLetters$Town" "now" "LDearLetters$Standing;" : Cond) ∈ lw_good := lg_at 1 153 rfl rfl
theorem mw_1_104 : (Cond.fieldLink RX5 82 "DearLetters$Standing" "purses" "[I" : Cond) ∈ lw_good := lg_at 1 104 rfl rfl
theorem mw_2_47 : (Cond.fieldLink RX5 15 "DearLetters$Routes" "purses" "[I" : Cond) ∈ lw_good := lg_at 2 47 rfl rfl
theorem mw_4_14 : (Cond.methodLink RX5 83 arraycopyName : Cond) ∈ lw_good := lg_at 4 14 rfl rfl
theorem mw_1_114 : (Cond.fieldLink RX5 89 "DearLetters$Standing" "snow" "I" : Cond) ∈ lw_good := lg_at 1 114 rfl rfl
theorem mw_4_18 : (Cond.code yX5_linkUnder cX5_linkUnder 4 none : Cond) ∈ lw_good := lg_at 4 18 rfl rfl
theorem mw_4_15 : (Cond.methodLink RX5 92 yX5_linkUnder : Cond) ∈ lw_good := lg_at 4 15 rfl rfl
theorem mw_4_17 : (Cond.instanceMethod yX5_linkUnder : Cond) ∈ lw_good := lg_at 4 17 rfl rfl
theorem mw_0_11 : (Cond.selects RX5 yX5_linkUnder yX5_linkUnder : Cond) ∈ lw_good := lg_at 0 11 rfl rfl
theorem mw_1_8 : (Cond.initialized RX5 : Cond) ∈ lw_good := lg_at 1 8 rfl rfl
theorem mw_1_61 : (Cond.fieldLink RX5 31 "DearLetters$Letter" "holder" "I" : Cond) ∈ lw_good := lg_at 1 61 rfl rfl
theorem mw_1_53 : (Cond.fieldLink RX5 37 "DearLetters$Letter" "reader" "I" : Cond) ∈ lw_good := lg_at 1 53 rfl rfl
theorem mw_1_66 : (Cond.fieldLink RX5 40 "DearLetters$Letter" "paid" "I" : Cond) ∈ lw_good := lg_at 1 66 rfl rfl
theorem mw_4_13 : (Cond.code yX5_lookFrom cX5_lookFrom 5 none : Cond) ∈ lw_good := lg_at 4 13 rfl rfl
theorem mw_4_10 : (Cond.methodLink RX5 43 yX5_lookFrom : Cond) ∈ lw_good := lg_at 4 10 rfl rfl
theorem mw_4_12 : (Cond.instanceMethod yX5_lookFrom : Cond) ∈ lw_good := lg_at 4 12 rfl rfl
theorem mw_0_10 : (Cond.selects RX5 yX5_lookFrom yX5_lookFrom : Cond) ∈ lw_good := lg_at 0 10 rfl rfl
theorem mw_1_119 : (Cond.fieldLink RX5 53 "DearLetters$Standing" "day" "I" : Cond) ∈ lw_good := lg_at 1 119 rfl rfl
theorem mw_4_20 : (Cond.methodLink RX5 58 yX3_worthOn : Cond) ∈ lw_good := lg_at 4 20 rfl rfl
theorem mw_2_56 : (Cond.fieldLink RX5 62 "DearLetters$Routes" "worthToday" "I" : Cond) ∈ lw_good := lg_at 2 56 rfl rfl
theorem mw_1_59 : (Cond.fieldLink RX5 65 "DearLetters$Letter" "fall" "I" : Cond) ∈ lw_good := lg_at 1 59 rfl rfl
theorem mw_2_57 : (Cond.fieldLink RX5 68 "DearLetters$Routes" "fall" "I" : Cond) ∈ lw_good := lg_at 2 57 rfl rfl
theorem mw_1_72 : (Cond.fieldLink RX5 69 "DearLetters$Letter" "soldOn" "I" : Cond) ∈ lw_good := lg_at 1 72 rfl rfl
theorem mw_2_58 : (Cond.fieldLink RX5 72 "DearLetters$Routes" "delay" "I" : Cond) ∈ lw_good := lg_at 2 58 rfl rfl
theorem mw_1_146 : (Cond.fieldLink RX5 132 "DearLetters$Town" "kinds" "[I" : Cond) ∈ lw_good := lg_at 1 146 rfl rfl
theorem mw_2_59 : (Cond.fieldLink RX5 110 "DearLetters$Routes" "all" "I" : Cond) ∈ lw_good := lg_at 2 59 rfl rfl
theorem mw_2_49 : (Cond.fieldLink RX5 24 "DearLetters$Routes" "cheap" "LDearLetters$Best;" : Cond) ∈ lw_good := lg_at 2 49 rfl rfl
theorem mw_2_35 : (Cond.fieldLink RX5 125 "DearLetters$Best" "there" "Z" : Cond) ∈ lw_good := lg_at 2 35 rfl rfl
theorem mw_2_48 : (Cond.fieldLink RX5 18 "DearLetters$Routes" "walk" "[I" : Cond) ∈ lw_good := lg_at 2 48 rfl rfl
theorem mw_4_43 : (Cond.code yX0_take cX0_take 4 none : Cond) ∈ lw_good := lg_at 4 43 rfl rfl
theorem mw_4_40 : (Cond.methodLink RX5 156 yX0_take : Cond) ∈ lw_good := lg_at 4 40 rfl rfl
theorem mw_4_41 : (Cond.instanceMethod yX0_take : Cond) ∈ lw_good := lg_at 4 41 rfl rfl
theorem mw_4_42 : (Cond.selects RX0 yX0_take yX0_take : Cond) ∈ lw_good := lg_at 4 42 rfl rfl
theorem mw_1_9 : (Cond.initialized RX0 : Cond) ∈ lw_good := lg_at 1 9 rfl rfl
theorem mw_4_48 : (Cond.code yX5_needFor cX5_needFor 3 (some .int) : Cond) ∈ lw_good := lg_at 4 48 rfl rfl
theorem mw_4_45 : (Cond.methodLink RX5 160 yX5_needFor : Cond) ∈ lw_good := lg_at 4 45 rfl rfl
theorem mw_4_47 : (Cond.instanceMethod yX5_needFor : Cond) ∈ lw_good := lg_at 4 47 rfl rfl
theorem mw_0_16 : (Cond.selects RX5 yX5_needFor yX5_needFor : Cond) ∈ lw_good := lg_at 0 16 rfl rfl
theorem mw_2_65 : (Cond.fieldLink RX5 122 "DearLetters$Routes" "leastNeed" "I" : Cond) ∈ lw_good := lg_at 2 65 rfl rfl
theorem mw_4_49 : (Cond.methodLink RX5 163 Lib.Math.min.name : Cond) ∈ lw_good := lg_at 4 49 rfl rfl
theorem mw_4_50 : (Cond.static Lib.Math.min.name : Cond) ∈ lw_good := lg_at 4 50 rfl rfl
theorem mw_4_51 : (Cond.code Lib.Math.min.name Lib.Math.min.code 2 (some .int) : Cond) ∈ lw_good := lg_at 4 51 rfl rfl
theorem mw_2_61 : (Cond.fieldLink RX5 113 "DearLetters$Routes" "coming" "I" : Cond) ∈ lw_good := lg_at 2 61 rfl rfl
theorem mw_2_63 : (Cond.fieldLink RX5 116 "DearLetters$Routes" "onEach" "I" : Cond) ∈ lw_good := lg_at 2 63 rfl rfl
theorem mw_2_51 : (Cond.fieldLink RX5 28 "DearLetters$Routes" "soon" "LDearLetters$Best;" : Cond) ∈ lw_good := lg_at 2 51 rfl rfl
theorem mw_2_29 : (Cond.fieldLink RX5 153 "DearLetters$Best" "sales" "I" : Cond) ∈ lw_good := lg_at 2 29 rfl rfl
theorem mw_2_32 : (Cond.fieldLink RX5 150 "DearLetters$Best" "price" "I" : Cond) ∈ lw_good := lg_at 2 32 rfl rfl
theorem mw_4_34 : (Cond.code yX5_buys cX5_buys 6 (some .boolean) : Cond) ∈ lw_good := lg_at 4 34 rfl rfl
theorem mw_4_31 : (Cond.methodLink RX5 138 yX5_buys : Cond) ∈ lw_good := lg_at 4 31 rfl rfl
theorem mw_4_33 : (Cond.instanceMethod yX5_buys : Cond) ∈ lw_good := lg_at 4 33 rfl rfl
theorem mw_0_14 : (Cond.selects RX5 yX5_buys yX5_buys : Cond) ∈ lw_good := lg_at 0 14 rfl rfl
theorem mw_4_29 : (Cond.code yX5_walkOn cX5_walkOn 9 none : Cond) ∈ lw_good := lg_at 4 29 rfl rfl
theorem mw_4_26 : (Cond.methodLink RX5 129 yX5_walkOn : Cond) ∈ lw_good := lg_at 4 26 rfl rfl
theorem mw_4_28 : (Cond.instanceMethod yX5_walkOn : Cond) ∈ lw_good := lg_at 4 28 rfl rfl
theorem mw_0_13 : (Cond.selects RX5 yX5_walkOn yX5_walkOn : Cond) ∈ lw_good := lg_at 0 13 rfl rfl
theorem mw_4_39 : (Cond.code yX5_arrive cX5_arrive 5 none : Cond) ∈ lw_good := lg_at 4 39 rfl rfl
theorem mw_4_36 : (Cond.methodLink RX5 142 yX5_arrive : Cond) ∈ lw_good := lg_at 4 36 rfl rfl
theorem mw_4_38 : (Cond.instanceMethod yX5_arrive : Cond) ∈ lw_good := lg_at 4 38 rfl rfl
theorem mw_0_15 : (Cond.selects RX5 yX5_arrive yX5_arrive : Cond) ∈ lw_good := lg_at 0 15 rfl rfl
theorem cX_54_57 {a b : Nat} : ∀ f, loX 57 f ≤ loX 54 (a + (f - b)) ∧ hiX 54 (a + (f - b)) ≤ hiX 57 f := fun f => by
  unfold loX hiX
  exact (show (-2147483648 : Int) ≤ 0 ∧ (6 : Int) ≤ 2147483647 by decide)
theorem hX_55_1 (cs : Nat → ClassId) (ad : Nat → Nat) (g : Nat → Int32) (v : Int32) : EX cs ad 55 (upd g 1 v) = .inr (0, [.ref (ad 57), .int v, .int (g 2), .int (g 3)]) := by
  rfl
theorem tX_55_1 {mu : Nat → Nat → Int32} (ok : okR loX hiX mu) {nu : Nat → Nat → Int32} {v : Int32} (hn : va_up mu 55 (upd (mu 55) 1 v) = nu) (hv : 0 ≤ v.toInt ∧ v.toInt ≤ 6) : okR loX hiX nu := by
  subst hn
  exact okR_up ok 55 1 v hv.1 hv.2
theorem hX_55_2 (cs : Nat → ClassId) (ad : Nat → Nat) (g : Nat → Int32) (v : Int32) : EX cs ad 55 (upd g 2 v) = .inr (0, [.ref (ad 57), .int (g 1), .int v, .int (g 3)]) := by
  rfl
theorem tX_55_2 {mu : Nat → Nat → Int32} (ok : okR loX hiX mu) {nu : Nat → Nat → Int32} {v : Int32} (hn : va_up mu 55 (upd (mu 55) 2 v) = nu) : okR loX hiX nu := by
  subst hn
  exact okR_up ok 55 2 v (tI_lo v) (tI_hi v)
theorem hX_55_3 (cs : Nat → ClassId) (ad : Nat → Nat) (g : Nat → Int32) (v : Int32) : EX cs ad 55 (upd g 3 v) = .inr (0, [.ref (ad 57), .int (g 1), .int (g 2), .int v]) := by
  rfl
theorem tX_55_3 {mu : Nat → Nat → Int32} (ok : okR loX hiX mu) {nu : Nat → Nat → Int32} {v : Int32} (hn : va_up mu 55 (upd (mu 55) 3 v) = nu) (hv : 0 ≤ v.toInt ∧ v.toInt ≤ 1) : okR loX hiX nu := by
  subst hn
  exact okR_up ok 55 3 v hv.1 hv.2
theorem cX_54_58 {a b : Nat} : ∀ f, loX 58 f ≤ loX 54 (a + (f - b)) ∧ hiX 54 (a + (f - b)) ≤ hiX 58 f := fun f => by
  unfold loX hiX
  exact (show (-2147483648 : Int) ≤ 0 ∧ (6 : Int) ≤ 2147483647 by decide)
theorem hX_56_1 (cs : Nat → ClassId) (ad : Nat → Nat) (g : Nat → Int32) (v : Int32) : EX cs ad 56 (upd g 1 v) = .inr (0, [.ref (ad 58), .int v, .int (g 2), .int (g 3)]) := by
  rfl
theorem tX_56_1 {mu : Nat → Nat → Int32} (ok : okR loX hiX mu) {nu : Nat → Nat → Int32} {v : Int32} (hn : va_up mu 56 (upd (mu 56) 1 v) = nu) (hv : 0 ≤ v.toInt ∧ v.toInt ≤ 6) : okR loX hiX nu := by
  subst hn
  exact okR_up ok 56 1 v hv.1 hv.2
theorem hX_56_2 (cs : Nat → ClassId) (ad : Nat → Nat) (g : Nat → Int32) (v : Int32) : EX cs ad 56 (upd g 2 v) = .inr (0, [.ref (ad 58), .int (g 1), .int v, .int (g 3)]) := by
  rfl
theorem tX_56_2 {mu : Nat → Nat → Int32} (ok : okR loX hiX mu) {nu : Nat → Nat → Int32} {v : Int32} (hn : va_up mu 56 (upd (mu 56) 2 v) = nu) : okR loX hiX nu := by
  subst hn
  exact okR_up ok 56 2 v (tI_lo v) (tI_hi v)
theorem hX_56_3 (cs : Nat → ClassId) (ad : Nat → Nat) (g : Nat → Int32) (v : Int32) : EX cs ad 56 (upd g 3 v) = .inr (0, [.ref (ad 58), .int (g 1), .int (g 2), .int v]) := by
  rfl
theorem tX_56_3 {mu : Nat → Nat → Int32} (ok : okR loX hiX mu) {nu : Nat → Nat → Int32} {v : Int32} (hn : va_up mu 56 (upd (mu 56) 3 v) = nu) (hv : 0 ≤ v.toInt ∧ v.toInt ≤ 1) : okR loX hiX nu := by
  subst hn
  exact okR_up ok 56 3 v hv.1 hv.2
theorem tX_52_s {mu : Nat → Nat → Int32} (ok : okR loX hiX mu) {nu : Nat → Nat → Int32} {v : Int32} (f : Nat) (hn : va_up mu 52 (upd (mu 52) f v) = nu) : okR loX hiX nu := by
  subst hn
  exact okR_up ok 52 f v (tI_lo v) (tI_hi v)
theorem hX_32_5 (cs : Nat → ClassId) (ad : Nat → Nat) (g : Nat → Int32) (v : Int32) : EX cs ad 32 (upd g 5 v) = .inr (5, [.ref (ad 52), .ref (ad 53), .ref (ad 54), .ref (ad 55), .ref (ad 56), .int v, .int (g 6), .int (g 7), .int (g 8), .int (g 9), .int (g 10), .int (g 11), .int (g 12), .int (g 13), .int (g 14)]) := by
  rfl
theorem tX_32_5 {mu : Nat → Nat → Int32} (ok : okR loX hiX mu) {nu : Nat → Nat → Int32} {v : Int32} (hn : va_up mu 32 (upd (mu 32) 5 v) = nu) (hv : 0 ≤ v.toInt ∧ v.toInt ≤ 6) : okR loX hiX nu := by
  subst hn
  exact okR_up ok 32 5 v hv.1 hv.2
theorem hX_32_6 (cs : Nat → ClassId) (ad : Nat → Nat) (g : Nat → Int32) (v : Int32) : EX cs ad 32 (upd g 6 v) = .inr (5, [.ref (ad 52), .ref (ad 53), .ref (ad 54), .ref (ad 55), .ref (ad 56), .int (g 5), .int v, .int (g 7), .int (g 8), .int (g 9), .int (g 10), .int (g 11), .int (g 12), .int (g 13), .int (g 14)]) := by
  rfl
theorem tX_32_6 {mu : Nat → Nat → Int32} (ok : okR loX hiX mu) {nu : Nat → Nat → Int32} {v : Int32} (hn : va_up mu 32 (upd (mu 32) 6 v) = nu) (hv : 0 ≤ v.toInt ∧ v.toInt ≤ 6) : okR loX hiX nu := by
  subst hn
  exact okR_up ok 32 6 v hv.1 hv.2
theorem hX_32_7 (cs : Nat → ClassId) (ad : Nat → Nat) (g : Nat → Int32) (v : Int32) : EX cs ad 32 (upd g 7 v) = .inr (5, [.ref (ad 52), .ref (ad 53), .ref (ad 54), .ref (ad 55), .ref (ad 56), .int (g 5), .int (g 6), .int v, .int (g 8), .int (g 9), .int (g 10), .int (g 11), .int (g 12), .int (g 13), .int (g 14)]) := by
  rfl
theorem tX_32_7 {mu : Nat → Nat → Int32} (ok : okR loX hiX mu) {nu : Nat → Nat → Int32} {v : Int32} (hn : va_up mu 32 (upd (mu 32) 7 v) = nu) : okR loX hiX nu := by
  subst hn
  exact okR_up ok 32 7 v (tI_lo v) (tI_hi v)
theorem cX_46_53 {a b : Nat} : ∀ f, loX 53 f ≤ loX 46 (a + (f - b)) ∧ hiX 46 (a + (f - b)) ≤ hiX 53 f := fun f => by
  unfold loX hiX
  exact (show (-2147483648 : Int) ≤ -2147483648 ∧ (2147483647 : Int) ≤ 2147483647 by decide)
theorem hX_32_8 (cs : Nat → ClassId) (ad : Nat → Nat) (g : Nat → Int32) (v : Int32) : EX cs ad 32 (upd g 8 v) = .inr (5, [.ref (ad 52), .ref (ad 53), .ref (ad 54), .ref (ad 55), .ref (ad 56), .int (g 5), .int (g 6), .int (g 7), .int v, .int (g 9), .int (g 10), .int (g 11), .int (g 12), .int (g 13), .int (g 14)]) := by
  rfl
theorem tX_32_8 {mu : Nat → Nat → Int32} (ok : okR loX hiX mu) {nu : Nat → Nat → Int32} {v : Int32} (hn : va_up mu 32 (upd (mu 32) 8 v) = nu) : okR loX hiX nu := by
  subst hn
  exact okR_up ok 32 8 v (tI_lo v) (tI_hi v)
theorem hX_32_9 (cs : Nat → ClassId) (ad : Nat → Nat) (g : Nat → Int32) (v : Int32) : EX cs ad 32 (upd g 9 v) = .inr (5, [.ref (ad 52), .ref (ad 53), .ref (ad 54), .ref (ad 55), .ref (ad 56), .int (g 5), .int (g 6), .int (g 7), .int (g 8), .int v, .int (g 10), .int (g 11), .int (g 12), .int (g 13), .int (g 14)]) := by
  rfl
theorem tX_32_9 {mu : Nat → Nat → Int32} (ok : okR loX hiX mu) {nu : Nat → Nat → Int32} {v : Int32} (hn : va_up mu 32 (upd (mu 32) 9 v) = nu) : okR loX hiX nu := by
  subst hn
  exact okR_up ok 32 9 v (tI_lo v) (tI_hi v)
theorem hX_32_10 (cs : Nat → ClassId) (ad : Nat → Nat) (g : Nat → Int32) (v : Int32) : EX cs ad 32 (upd g 10 v) = .inr (5, [.ref (ad 52), .ref (ad 53), .ref (ad 54), .ref (ad 55), .ref (ad 56), .int (g 5), .int (g 6), .int (g 7), .int (g 8), .int (g 9), .int v, .int (g 11), .int (g 12), .int (g 13), .int (g 14)]) := by
  rfl
theorem tX_32_10 {mu : Nat → Nat → Int32} (ok : okR loX hiX mu) {nu : Nat → Nat → Int32} {v : Int32} (hn : va_up mu 32 (upd (mu 32) 10 v) = nu) : okR loX hiX nu := by
  subst hn
  exact okR_up ok 32 10 v (tI_lo v) (tI_hi v)
theorem rX_32_6 {mu : Nat → Nat → Int32} (ok : okR loX hiX mu) : 0 ≤ (mu 32 6).toInt ∧ (mu 32 6).toInt ≤ 6 := ok 32 6
theorem hX_32_11 (cs : Nat → ClassId) (ad : Nat → Nat) (g : Nat → Int32) (v : Int32) : EX cs ad 32 (upd g 11 v) = .inr (5, [.ref (ad 52), .ref (ad 53), .ref (ad 54), .ref (ad 55), .ref (ad 56), .int (g 5), .int (g 6), .int (g 7), .int (g 8), .int (g 9), .int (g 10), .int v, .int (g 12), .int (g 13), .int (g 14)]) := by
  rfl
theorem tX_32_11 {mu : Nat → Nat → Int32} (ok : okR loX hiX mu) {nu : Nat → Nat → Int32} {v : Int32} (hn : va_up mu 32 (upd (mu 32) 11 v) = nu) : okR loX hiX nu := by
  subst hn
  exact okR_up ok 32 11 v (tI_lo v) (tI_hi v)
theorem rX_55_3 {mu : Nat → Nat → Int32} (ok : okR loX hiX mu) : 0 ≤ (mu 55 3).toInt ∧ (mu 55 3).toInt ≤ 1 := ok 55 3
theorem hX_32_14 (cs : Nat → ClassId) (ad : Nat → Nat) (g : Nat → Int32) (v : Int32) : EX cs ad 32 (upd g 14 v) = .inr (5, [.ref (ad 52), .ref (ad 53), .ref (ad 54), .ref (ad 55), .ref (ad 56), .int (g 5), .int (g 6), .int (g 7), .int (g 8), .int (g 9), .int (g 10), .int (g 11), .int (g 12), .int (g 13), .int v]) := by
  rfl
theorem tX_32_14 {mu : Nat → Nat → Int32} (ok : okR loX hiX mu) {nu : Nat → Nat → Int32} {v : Int32} (hn : va_up mu 32 (upd (mu 32) 14 v) = nu) : okR loX hiX nu := by
  subst hn
  exact okR_up ok 32 14 v (tI_lo v) (tI_hi v)
theorem hX_32_12 (cs : Nat → ClassId) (ad : Nat → Nat) (g : Nat → Int32) (v : Int32) : EX cs ad 32 (upd g 12 v) = .inr (5, [.ref (ad 52), .ref (ad 53), .ref (ad 54), .ref (ad 55), .ref (ad 56), .int (g 5), .int (g 6), .int (g 7), .int (g 8), .int (g 9), .int (g 10), .int (g 11), .int v, .int (g 13), .int (g 14)]) := by
  rfl
theorem tX_32_12 {mu : Nat → Nat → Int32} (ok : okR loX hiX mu) {nu : Nat → Nat → Int32} {v : Int32} (hn : va_up mu 32 (upd (mu 32) 12 v) = nu) : okR loX hiX nu := by
  subst hn
  exact okR_up ok 32 12 v (tI_lo v) (tI_hi v)
theorem rX_32_5 {mu : Nat → Nat → Int32} (ok : okR loX hiX mu) : 0 ≤ (mu 32 5).toInt ∧ (mu 32 5).toInt ≤ 6 := ok 32 5
theorem hX_32_13 (cs : Nat → ClassId) (ad : Nat → Nat) (g : Nat → Int32) (v : Int32) : EX cs ad 32 (upd g 13 v) = .inr (5, [.ref (ad 52), .ref (ad 53), .ref (ad 54), .ref (ad 55), .ref (ad 56), .int (g 5), .int (g 6), .int (g 7), .int (g 8), .int (g 9), .int (g 10), .int (g 11), .int (g 12), .int v, .int (g 14)]) := by
  rfl
theorem tX_32_13 {mu : Nat → Nat → Int32} (ok : okR loX hiX mu) {nu : Nat → Nat → Int32} {v : Int32} (hn : va_up mu 32 (upd (mu 32) 13 v) = nu) : okR loX hiX nu := by
  subst hn
  exact okR_up ok 32 13 v (tI_lo v) (tI_hi v)
theorem rX_56_3 {mu : Nat → Nat → Int32} (ok : okR loX hiX mu) : 0 ≤ (mu 56 3).toInt ∧ (mu 56 3).toInt ≤ 1 := ok 56 3
theorem rX_56_1 {mu : Nat → Nat → Int32} (ok : okR loX hiX mu) : 0 ≤ (mu 56 1).toInt ∧ (mu 56 1).toInt ≤ 6 := ok 56 1
theorem rX_55_1 {mu : Nat → Nat → Int32} (ok : okR loX hiX mu) : 0 ≤ (mu 55 1).toInt ∧ (mu 55 1).toInt ≤ 6 := ok 55 1
theorem rX_54_s {mu : Nat → Nat → Int32} (ok : okR loX hiX mu) (f : Nat) : 0 ≤ (mu 54 f).toInt ∧ (mu 54 f).toInt ≤ 6 := ok 54 f
theorem tX_54_s {mu : Nat → Nat → Int32} (ok : okR loX hiX mu) {nu : Nat → Nat → Int32} {v : Int32} (f : Nat) (hn : va_up mu 54 (upd (mu 54) f v) = nu) (hv : 0 ≤ v.toInt ∧ v.toInt ≤ 6) : okR loX hiX nu := by
  subst hn
  exact okR_up ok 54 f v hv.1 hv.2
theorem lb_X0_take_0 : dl_ck (cX0_take.data.toList.drop 0) [43, 3, 42, 180, 0, 9, 3, 28, 4, 96, 184, 0, 15, 42, 28, 181, 0, 21, 42, 29, 181, 0, 25, 42, 4, 181, 0, 28, 177] = true := by decide +kernel
theorem dX0_take_0 : decode cX0_take 0 = .ok (.aload_n 1, 1) := dx_43 (dl_at 0 0 lb_X0_take_0 rfl)
theorem dX0_take_1 : decode cX0_take 1 = .ok (.iconst 0, 1) := dx_3 (dl_at 0 1 lb_X0_take_0 rfl)
theorem dX0_take_2 : decode cX0_take 2 = .ok (.aload_n 0, 1) := dx_42 (dl_at 0 2 lb_X0_take_0 rfl)
theorem dX0_take_3 : decode cX0_take 3 = .ok (.getfield 9, 3) := dx_180 (a := 0) (b := 9) (dl_at 0 3 lb_X0_take_0 rfl) (dl_at 0 4 lb_X0_take_0 rfl) (dl_at 0 5 lb_X0_take_0 rfl) rfl
theorem dX0_take_6 : decode cX0_take 6 = .ok (.iconst 0, 1) := dx_3 (dl_at 0 6 lb_X0_take_0 rfl)
theorem dX0_take_7 : decode cX0_take 7 = .ok (.iload_n 2, 1) := dx_28 (dl_at 0 7 lb_X0_take_0 rfl)
theorem dX0_take_8 : decode cX0_take 8 = .ok (.iconst 1, 1) := dx_4 (dl_at 0 8 lb_X0_take_0 rfl)
theorem dX0_take_9 : decode cX0_take 9 = .ok (.iadd, 1) := dx_96 (dl_at 0 9 lb_X0_take_0 rfl)
theorem dX0_take_10 : decode cX0_take 10 = .ok (.invokestatic 15, 3) := dx_184 (a := 0) (b := 15) (dl_at 0 10 lb_X0_take_0 rfl) (dl_at 0 11 lb_X0_take_0 rfl) (dl_at 0 12 lb_X0_take_0 rfl) rfl
theorem dX0_take_13 : decode cX0_take 13 = .ok (.aload_n 0, 1) := dx_42 (dl_at 0 13 lb_X0_take_0 rfl)
theorem dX0_take_14 : decode cX0_take 14 = .ok (.iload_n 2, 1) := dx_28 (dl_at 0 14 lb_X0_take_0 rfl)
theorem dX0_take_15 : decode cX0_take 15 = .ok (.putfield 21, 3) := dx_181 (a := 0) (b := 21) (dl_at 0 15 lb_X0_take_0 rfl) (dl_at 0 16 lb_X0_take_0 rfl) (dl_at 0 17 lb_X0_take_0 rfl) rfl
theorem dX0_take_18 : decode cX0_take 18 = .ok (.aload_n 0, 1) := dx_42 (dl_at 0 18 lb_X0_take_0 rfl)
theorem dX0_take_19 : decode cX0_take 19 = .ok (.iload_n 3, 1) := dx_29 (dl_at 0 19 lb_X0_take_0 rfl)
theorem dX0_take_20 : decode cX0_take 20 = .ok (.putfield 25, 3) := dx_181 (a := 0) (b := 25) (dl_at 0 20 lb_X0_take_0 rfl) (dl_at 0 21 lb_X0_take_0 rfl) (dl_at 0 22 lb_X0_take_0 rfl) rfl
theorem dX0_take_23 : decode cX0_take 23 = .ok (.aload_n 0, 1) := dx_42 (dl_at 0 23 lb_X0_take_0 rfl)
theorem dX0_take_24 : decode cX0_take 24 = .ok (.iconst 1, 1) := dx_4 (dl_at 0 24 lb_X0_take_0 rfl)
theorem dX0_take_25 : decode cX0_take 25 = .ok (.putfield 28, 3) := dx_181 (a := 0) (b := 28) (dl_at 0 25 lb_X0_take_0 rfl) (dl_at 0 26 lb_X0_take_0 rfl) (dl_at 0 27 lb_X0_take_0 rfl) rfl
theorem dX0_take_28 : decode cX0_take 28 = .ok (.return_, 1) := dx_177 (dl_at 0 28 lb_X0_take_0 rfl)
theorem lb_X5_linkUnder_0 : dl_ck (cX5_linkUnder.data.toList.drop 0) [3, 62, 29, 43, 180, 0, 96, 162, 0, 21, 42, 180, 0, 9, 29, 43, 29, 28, 182, 0, 99, 79, 132, 3, 1, 167, 255, 233, 177] = true := by decide +kernel
theorem dX5_linkUnder_0 : decode cX5_linkUnder 0 = .ok (.iconst 0, 1) := dx_3 (dl_at 0 0 lb_X5_linkUnder_0 rfl)
theorem dX5_linkUnder_1 : decode cX5_linkUnder 1 = .ok (.istore_n 3, 1) := dx_62 (dl_at 0 1 lb_X5_linkUnder_0 rfl)
theorem dX5_linkUnder_2 : decode cX5_linkUnder 2 = .ok (.iload_n 3, 1) := dx_29 (dl_at 0 2 lb_X5_linkUnder_0 rfl)
theorem dX5_linkUnder_3 : decode cX5_linkUnder 3 = .ok (.aload_n 1, 1) := dx_43 (dl_at 0 3 lb_X5_linkUnder_0 rfl)
theorem dX5_linkUnder_4 : decode cX5_linkUnder 4 = .ok (.getfield 96, 3) := dx_180 (a := 0) (b := 96) (dl_at 0 4 lb_X5_linkUnder_0 rfl) (dl_at 0 5 lb_X5_linkUnder_0 rfl) (dl_at 0 6 lb_X5_linkUnder_0 rfl) rfl
theorem dX5_linkUnder_7 : decode cX5_linkUnder 7 = .ok (.if_icmp .ge 21, 3) := dx_162 (a := 0) (b := 21) (dl_at 0 7 lb_X5_linkUnder_0 rfl) (dl_at 0 8 lb_X5_linkUnder_0 rfl) (dl_at 0 9 lb_X5_linkUnder_0 rfl) sg16_21
theorem dX5_linkUnder_28 : decode cX5_linkUnder 28 = .ok (.return_, 1) := dx_177 (dl_at 0 28 lb_X5_linkUnder_0 rfl)
theorem dX5_linkUnder_10 : decode cX5_linkUnder 10 = .ok (.aload_n 0, 1) := dx_42 (dl_at 0 10 lb_X5_linkUnder_0 rfl)
theorem dX5_linkUnder_11 : decode cX5_linkUnder 11 = .ok (.getfield 9, 3) := dx_180 (a := 0) (b := 9) (dl_at 0 11 lb_X5_linkUnder_0 rfl) (dl_at 0 12 lb_X5_linkUnder_0 rfl) (dl_at 0 13 lb_X5_linkUnder_0 rfl) rfl
theorem dX5_linkUnder_14 : decode cX5_linkUnder 14 = .ok (.iload_n 3, 1) := dx_29 (dl_at 0 14 lb_X5_linkUnder_0 rfl)
theorem dX5_linkUnder_15 : decode cX5_linkUnder 15 = .ok (.aload_n 1, 1) := dx_43 (dl_at 0 15 lb_X5_linkUnder_0 rfl)
theorem dX5_linkUnder_16 : decode cX5_linkUnder 16 = .ok (.iload_n 3, 1) := dx_29 (dl_at 0 16 lb_X5_linkUnder_0 rfl)
theorem dX5_linkUnder_17 : decode cX5_linkUnder 17 = .ok (.iload_n 2, 1) := dx_28 (dl_at 0 17 lb_X5_linkUnder_0 rfl)
theorem dX5_linkUnder_18 : decode cX5_linkUnder 18 = .ok (.invokevirtual 99, 3) := dx_182 (a := 0) (b := 99) (dl_at 0 18 lb_X5_linkUnder_0 rfl) (dl_at 0 19 lb_X5_linkUnder_0 rfl) (dl_at 0 20 lb_X5_linkUnder_0 rfl) rfl
theorem dX5_linkUnder_21 : decode cX5_linkUnder 21 = .ok (.iastore, 1) := dx_79 (dl_at 0 21 lb_X5_linkUnder_0 rfl)
theorem dX5_linkUnder_22 : decode cX5_linkUnder 22 = .ok (.iinc 3 1, 3) := dx_132 (dl_at 0 22 lb_X5_linkUnder_0 rfl) (dl_at 0 23 lb_X5_linkUnder_0 rfl) (dl_at 0 24 lb_X5_linkUnder_0 rfl) sg8_1
theorem dX5_linkUnder_25 : decode cX5_linkUnder 25 = .ok (.goto (-23), 3) := dx_167 (a := 255) (b := 233) (dl_at 0 25 lb_X5_linkUnder_0 rfl) (dl_at 0 26 lb_X5_linkUnder_0 rfl) (dl_at 0 27 lb_X5_linkUnder_0 rfl) sg16_65513
theorem lb_X5_lookFrom_0 : dl_ck (cX5_lookFrom.data.toList.drop 0) [42, 28, 181, 0, 75, 42, 29, 181, 0, 78, 42, 21, 4, 181, 0, 81, 43, 180, 0, 47, 180, 0, 82, 3, 42, 180, 0, 15, 3, 16, 7, 184] = true := by decide +kernel
theorem lb_X5_lookFrom_1 : dl_ck (cX5_lookFrom.data.toList.drop 32) [0, 83, 42, 43, 43, 180, 0, 47, 180, 0, 89, 182, 0, 92, 177] = true := by decide +kernel
theorem dX5_lookFrom_0 : decode cX5_lookFrom 0 = .ok (.aload_n 0, 1) := dx_42 (dl_at 0 0 lb_X5_lookFrom_0 rfl)
theorem dX5_lookFrom_1 : decode cX5_lookFrom 1 = .ok (.iload_n 2, 1) := dx_28 (dl_at 0 1 lb_X5_lookFrom_0 rfl)
theorem dX5_lookFrom_2 : decode cX5_lookFrom 2 = .ok (.putfield 75, 3) := dx_181 (a := 0) (b := 75) (dl_at 0 2 lb_X5_lookFrom_0 rfl) (dl_at 0 3 lb_X5_lookFrom_0 rfl) (dl_at 0 4 lb_X5_lookFrom_0 rfl) rfl
theorem dX5_lookFrom_5 : decode cX5_lookFrom 5 = .ok (.aload_n 0, 1) := dx_42 (dl_at 0 5 lb_X5_lookFrom_0 rfl)
theorem dX5_lookFrom_6 : decode cX5_lookFrom 6 = .ok (.iload_n 3, 1) := dx_29 (dl_at 0 6 lb_X5_lookFrom_0 rfl)
theorem dX5_lookFrom_7 : decode cX5_lookFrom 7 = .ok (.putfield 78, 3) := dx_181 (a := 0) (b := 78) (dl_at 0 7 lb_X5_lookFrom_0 rfl) (dl_at 0 8 lb_X5_lookFrom_0 rfl) (dl_at 0 9 lb_X5_lookFrom_0 rfl) rfl
theorem dX5_lookFrom_10 : decode cX5_lookFrom 10 = .ok (.aload_n 0, 1) := dx_42 (dl_at 0 10 lb_X5_lookFrom_0 rfl)
theorem dX5_lookFrom_11 : decode cX5_lookFrom 11 = .ok (.iload 4, 2) := dx_21 (dl_at 0 11 lb_X5_lookFrom_0 rfl) (dl_at 0 12 lb_X5_lookFrom_0 rfl)
theorem dX5_lookFrom_13 : decode cX5_lookFrom 13 = .ok (.putfield 81, 3) := dx_181 (a := 0) (b := 81) (dl_at 0 13 lb_X5_lookFrom_0 rfl) (dl_at 0 14 lb_X5_lookFrom_0 rfl) (dl_at 0 15 lb_X5_lookFrom_0 rfl) rfl
theorem dX5_lookFrom_16 : decode cX5_lookFrom 16 = .ok (.aload_n 1, 1) := dx_43 (dl_at 0 16 lb_X5_lookFrom_0 rfl)
theorem dX5_lookFrom_17 : decode cX5_lookFrom 17 = .ok (.getfield 47, 3) := dx_180 (a := 0) (b := 47) (dl_at 0 17 lb_X5_lookFrom_0 rfl) (dl_at 0 18 lb_X5_lookFrom_0 rfl) (dl_at 0 19 lb_X5_lookFrom_0 rfl) rfl
theorem dX5_lookFrom_20 : decode cX5_lookFrom 20 = .ok (.getfield 82, 3) := dx_180 (a := 0) (b := 82) (dl_at 0 20 lb_X5_lookFrom_0 rfl) (dl_at 0 21 lb_X5_lookFrom_0 rfl) (dl_at 0 22 lb_X5_lookFrom_0 rfl) rfl
theorem dX5_lookFrom_23 : decode cX5_lookFrom 23 = .ok (.iconst 0, 1) := dx_3 (dl_at 0 23 lb_X5_lookFrom_0 rfl)
theorem dX5_lookFrom_24 : decode cX5_lookFrom 24 = .ok (.aload_n 0, 1) := dx_42 (dl_at 0 24 lb_X5_lookFrom_0 rfl)
theorem dX5_lookFrom_25 : decode cX5_lookFrom 25 = .ok (.getfield 15, 3) := dx_180 (a := 0) (b := 15) (dl_at 0 25 lb_X5_lookFrom_0 rfl) (dl_at 0 26 lb_X5_lookFrom_0 rfl) (dl_at 0 27 lb_X5_lookFrom_0 rfl) rfl
theorem dX5_lookFrom_28 : decode cX5_lookFrom 28 = .ok (.iconst 0, 1) := dx_3 (dl_at 0 28 lb_X5_lookFrom_0 rfl)
theorem dX5_lookFrom_29 : decode cX5_lookFrom 29 = .ok (.bipush 7, 2) := dx_16 (dl_at 0 29 lb_X5_lookFrom_0 rfl) (dl_at 0 30 lb_X5_lookFrom_0 rfl) sg8_7
theorem dX5_lookFrom_31 : decode cX5_lookFrom 31 = .ok (.invokestatic 83, 3) := dx_184 (a := 0) (b := 83) (dl_at 0 31 lb_X5_lookFrom_0 rfl) (dl_at 32 0 lb_X5_lookFrom_1 rfl) (dl_at 32 1 lb_X5_lookFrom_1 rfl) rfl
theorem dX5_lookFrom_34 : decode cX5_lookFrom 34 = .ok (.aload_n 0, 1) := dx_42 (dl_at 32 2 lb_X5_lookFrom_1 rfl)
theorem dX5_lookFrom_35 : decode cX5_lookFrom 35 = .ok (.aload_n 1, 1) := dx_43 (dl_at 32 3 lb_X5_lookFrom_1 rfl)
theorem dX5_lookFrom_36 : decode cX5_lookFrom 36 = .ok (.aload_n 1, 1) := dx_43 (dl_at 32 4 lb_X5_lookFrom_1 rfl)
theorem dX5_lookFrom_37 : decode cX5_lookFrom 37 = .ok (.getfield 47, 3) := dx_180 (a := 0) (b := 47) (dl_at 32 5 lb_X5_lookFrom_1 rfl) (dl_at 32 6 lb_X5_lookFrom_1 rfl) (dl_at 32 7 lb_X5_lookFrom_1 rfl) rfl
theorem dX5_lookFrom_40 : decode cX5_lookFrom 40 = .ok (.getfield 89, 3) := dx_180 (a := 0) (b := 89) (dl_at 32 8 lb_X5_lookFrom_1 rfl) (dl_at 32 9 lb_X5_lookFrom_1 rfl) (dl_at 32 10 lb_X5_lookFrom_1 rfl) rfl
theorem dX5_lookFrom_43 : decode cX5_lookFrom 43 = .ok (.invokevirtual 92, 3) := dx_182 (a := 0) (b := 92) (dl_at 32 11 lb_X5_lookFrom_1 rfl) (dl_at 32 12 lb_X5_lookFrom_1 rfl) (dl_at 32 13 lb_X5_lookFrom_1 rfl) rfl
theorem dX5_lookFrom_46 : decode cX5_lookFrom 46 = .ok (.return_, 1) := dx_177 (dl_at 32 14 lb_X5_lookFrom_1 rfl)
theorem lb_X5_lookAt_0 : dl_ck (cX5_lookAt.data.toList.drop 0) [42, 43, 44, 180, 0, 31, 44, 180, 0, 37, 44, 180, 0, 40, 182, 0, 43, 42, 44, 43, 180, 0, 47, 180, 0, 53, 182, 0, 58, 181, 0, 62] = true := by decide +kernel
theorem lb_X5_lookAt_1 : dl_ck (cX5_lookAt.data.toList.drop 32) [42, 44, 180, 0, 65, 181, 0, 68, 42, 44, 180, 0, 69, 43, 180, 0, 47, 180, 0, 53, 160, 0, 7, 4, 167, 0, 4, 3, 181, 0, 72, 177] = true := by decide +kernel
theorem dX5_lookAt_0 : decode cX5_lookAt 0 = .ok (.aload_n 0, 1) := dx_42 (dl_at 0 0 lb_X5_lookAt_0 rfl)
theorem dX5_lookAt_1 : decode cX5_lookAt 1 = .ok (.aload_n 1, 1) := dx_43 (dl_at 0 1 lb_X5_lookAt_0 rfl)
theorem dX5_lookAt_2 : decode cX5_lookAt 2 = .ok (.aload_n 2, 1) := dx_44 (dl_at 0 2 lb_X5_lookAt_0 rfl)
theorem dX5_lookAt_3 : decode cX5_lookAt 3 = .ok (.getfield 31, 3) := dx_180 (a := 0) (b := 31) (dl_at 0 3 lb_X5_lookAt_0 rfl) (dl_at 0 4 lb_X5_lookAt_0 rfl) (dl_at 0 5 lb_X5_lookAt_0 rfl) rfl
theorem dX5_lookAt_6 : decode cX5_lookAt 6 = .ok (.aload_n 2, 1) := dx_44 (dl_at 0 6 lb_X5_lookAt_0 rfl)
theorem dX5_lookAt_7 : decode cX5_lookAt 7 = .ok (.getfield 37, 3) := dx_180 (a := 0) (b := 37) (dl_at 0 7 lb_X5_lookAt_0 rfl) (dl_at 0 8 lb_X5_lookAt_0 rfl) (dl_at 0 9 lb_X5_lookAt_0 rfl) rfl
theorem dX5_lookAt_10 : decode cX5_lookAt 10 = .ok (.aload_n 2, 1) := dx_44 (dl_at 0 10 lb_X5_lookAt_0 rfl)
theorem dX5_lookAt_11 : decode cX5_lookAt 11 = .ok (.getfield 40, 3) := dx_180 (a := 0) (b := 40) (dl_at 0 11 lb_X5_lookAt_0 rfl) (dl_at 0 12 lb_X5_lookAt_0 rfl) (dl_at 0 13 lb_X5_lookAt_0 rfl) rfl
theorem dX5_lookAt_14 : decode cX5_lookAt 14 = .ok (.invokevirtual 43, 3) := dx_182 (a := 0) (b := 43) (dl_at 0 14 lb_X5_lookAt_0 rfl) (dl_at 0 15 lb_X5_lookAt_0 rfl) (dl_at 0 16 lb_X5_lookAt_0 rfl) rfl
theorem dX5_lookAt_17 : decode cX5_lookAt 17 = .ok (.aload_n 0, 1) := dx_42 (dl_at 0 17 lb_X5_lookAt_0 rfl)
theorem dX5_lookAt_18 : decode cX5_lookAt 18 = .ok (.aload_n 2, 1) := dx_44 (dl_at 0 18 lb_X5_lookAt_0 rfl)
theorem dX5_lookAt_19 : decode cX5_lookAt 19 = .ok (.aload_n 1, 1) := dx_43 (dl_at 0 19 lb_X5_lookAt_0 rfl)
theorem dX5_lookAt_20 : decode cX5_lookAt 20 = .ok (.getfield 47, 3) := dx_180 (a := 0) (b := 47) (dl_at 0 20 lb_X5_lookAt_0 rfl) (dl_at 0 21 lb_X5_lookAt_0 rfl) (dl_at 0 22 lb_X5_lookAt_0 rfl) rfl
theorem dX5_lookAt_23 : decode cX5_lookAt 23 = .ok (.getfield 53, 3) := dx_180 (a := 0) (b := 53) (dl_at 0 23 lb_X5_lookAt_0 rfl) (dl_at 0 24 lb_X5_lookAt_0 rfl) (dl_at 0 25 lb_X5_lookAt_0 rfl) rfl
theorem dX5_lookAt_26 : decode cX5_lookAt 26 = .ok (.invokevirtual 58, 3) := dx_182 (a := 0) (b := 58) (dl_at 0 26 lb_X5_lookAt_0 rfl) (dl_at 0 27 lb_X5_lookAt_0 rfl) (dl_at 0 28 lb_X5_lookAt_0 rfl) rfl
theorem dX5_lookAt_29 : decode cX5_lookAt 29 = .ok (.putfield 62, 3) := dx_181 (a := 0) (b := 62) (dl_at 0 29 lb_X5_lookAt_0 rfl) (dl_at 0 30 lb_X5_lookAt_0 rfl) (dl_at 0 31 lb_X5_lookAt_0 rfl) rfl
theorem dX5_lookAt_32 : decode cX5_lookAt 32 = .ok (.aload_n 0, 1) := dx_42 (dl_at 32 0 lb_X5_lookAt_1 rfl)
theorem dX5_lookAt_33 : decode cX5_lookAt 33 = .ok (.aload_n 2, 1) := dx_44 (dl_at 32 1 lb_X5_lookAt_1 rfl)
theorem dX5_lookAt_34 : decode cX5_lookAt 34 = .ok (.getfield 65, 3) := dx_180 (a := 0) (b := 65) (dl_at 32 2 lb_X5_lookAt_1 rfl) (dl_at 32 3 lb_X5_lookAt_1 rfl) (dl_at 32 4 lb_X5_lookAt_1 rfl) rfl
theorem dX5_lookAt_37 : decode cX5_lookAt 37 = .ok (.putfield 68, 3) := dx_181 (a := 0) (b := 68) (dl_at 32 5 lb_X5_lookAt_1 rfl) (dl_at 32 6 lb_X5_lookAt_1 rfl) (dl_at 32 7 lb_X5_lookAt_1 rfl) rfl
theorem dX5_lookAt_40 : decode cX5_lookAt 40 = .ok (.aload_n 0, 1) := dx_42 (dl_at 32 8 lb_X5_lookAt_1 rfl)
theorem dX5_lookAt_41 : decode cX5_lookAt 41 = .ok (.aload_n 2, 1) := dx_44 (dl_at 32 9 lb_X5_lookAt_1 rfl)
theorem dX5_lookAt_42 : decode cX5_lookAt 42 = .ok (.getfield 69, 3) := dx_180 (a := 0) (b := 69) (dl_at 32 10 lb_X5_lookAt_1 rfl) (dl_at 32 11 lb_X5_lookAt_1 rfl) (dl_at 32 12 lb_X5_lookAt_1 rfl) rfl
theorem dX5_lookAt_45 : decode cX5_lookAt 45 = .ok (.aload_n 1, 1) := dx_43 (dl_at 32 13 lb_X5_lookAt_1 rfl)
theorem dX5_lookAt_46 : decode cX5_lookAt 46 = .ok (.getfield 47, 3) := dx_180 (a := 0) (b := 47) (dl_at 32 14 lb_X5_lookAt_1 rfl) (dl_at 32 15 lb_X5_lookAt_1 rfl) (dl_at 32 16 lb_X5_lookAt_1 rfl) rfl
theorem dX5_lookAt_49 : decode cX5_lookAt 49 = .ok (.getfield 53, 3) := dx_180 (a := 0) (b := 53) (dl_at 32 17 lb_X5_lookAt_1 rfl) (dl_at 32 18 lb_X5_lookAt_1 rfl) (dl_at 32 19 lb_X5_lookAt_1 rfl) rfl
theorem dX5_lookAt_52 : decode cX5_lookAt 52 = .ok (.if_icmp .ne 7, 3) := dx_160 (a := 0) (b := 7) (dl_at 32 20 lb_X5_lookAt_1 rfl) (dl_at 32 21 lb_X5_lookAt_1 rfl) (dl_at 32 22 lb_X5_lookAt_1 rfl) sg16_7
theorem dX5_lookAt_59 : decode cX5_lookAt 59 = .ok (.iconst 0, 1) := dx_3 (dl_at 32 27 lb_X5_lookAt_1 rfl)
theorem dX5_lookAt_60 : decode cX5_lookAt 60 = .ok (.putfield 72, 3) := dx_181 (a := 0) (b := 72) (dl_at 32 28 lb_X5_lookAt_1 rfl) (dl_at 32 29 lb_X5_lookAt_1 rfl) (dl_at 32 30 lb_X5_lookAt_1 rfl) rfl
theorem dX5_lookAt_63 : decode cX5_lookAt 63 = .ok (.return_, 1) := dx_177 (dl_at 32 31 lb_X5_lookAt_1 rfl)
theorem dX5_lookAt_55 : decode cX5_lookAt 55 = .ok (.iconst 1, 1) := dx_4 (dl_at 32 23 lb_X5_lookAt_1 rfl)
theorem dX5_lookAt_56 : decode cX5_lookAt 56 = .ok (.goto 4, 3) := dx_167 (a := 0) (b := 4) (dl_at 32 24 lb_X5_lookAt_1 rfl) (dl_at 32 25 lb_X5_lookAt_1 rfl) (dl_at 32 26 lb_X5_lookAt_1 rfl) sg16_4
theorem lb_X5_buys_0 : dl_ck (cX5_buys.data.toList.drop 0) [42, 180, 0, 9, 28, 46, 29, 184, 0, 146, 153, 0, 45, 21, 4, 29, 184, 0, 146, 154, 0, 36, 42, 180, 0, 15, 29, 46, 21, 5, 161, 0] = true := by decide +kernel
theorem lb_X5_buys_1 : dl_ck (cX5_buys.data.toList.drop 32) [25, 29, 42, 180, 0, 78, 159, 0, 13, 43, 180, 0, 132, 29, 46, 6, 159, 0, 7, 4, 167, 0, 4, 3, 172] = true := by decide +kernel
theorem dX5_buys_0 : decode cX5_buys 0 = .ok (.aload_n 0, 1) := dx_42 (dl_at 0 0 lb_X5_buys_0 rfl)
theorem dX5_buys_1 : decode cX5_buys 1 = .ok (.getfield 9, 3) := dx_180 (a := 0) (b := 9) (dl_at 0 1 lb_X5_buys_0 rfl) (dl_at 0 2 lb_X5_buys_0 rfl) (dl_at 0 3 lb_X5_buys_0 rfl) rfl
theorem dX5_buys_4 : decode cX5_buys 4 = .ok (.iload_n 2, 1) := dx_28 (dl_at 0 4 lb_X5_buys_0 rfl)
theorem dX5_buys_5 : decode cX5_buys 5 = .ok (.iaload, 1) := dx_46 (dl_at 0 5 lb_X5_buys_0 rfl)
theorem dX5_buys_6 : decode cX5_buys 6 = .ok (.iload_n 3, 1) := dx_29 (dl_at 0 6 lb_X5_buys_0 rfl)
theorem dX5_buys_7 : decode cX5_buys 7 = .ok (.invokestatic 146, 3) := dx_184 (a := 0) (b := 146) (dl_at 0 7 lb_X5_buys_0 rfl) (dl_at 0 8 lb_X5_buys_0 rfl) (dl_at 0 9 lb_X5_buys_0 rfl) rfl
theorem dX5_buys_10 : decode cX5_buys 10 = .ok (.ifCond .eq 45, 3) := dx_153 (a := 0) (b := 45) (dl_at 0 10 lb_X5_buys_0 rfl) (dl_at 0 11 lb_X5_buys_0 rfl) (dl_at 0 12 lb_X5_buys_0 rfl) sg16_45
theorem dX5_buys_55 : decode cX5_buys 55 = .ok (.iconst 0, 1) := dx_3 (dl_at 32 23 lb_X5_buys_1 rfl)
theorem dX5_buys_56 : decode cX5_buys 56 = .ok (.ireturn, 1) := dx_172 (dl_at 32 24 lb_X5_buys_1 rfl)
theorem dX5_buys_13 : decode cX5_buys 13 = .ok (.iload 4, 2) := dx_21 (dl_at 0 13 lb_X5_buys_0 rfl) (dl_at 0 14 lb_X5_buys_0 rfl)
theorem dX5_buys_15 : decode cX5_buys 15 = .ok (.iload_n 3, 1) := dx_29 (dl_at 0 15 lb_X5_buys_0 rfl)
theorem dX5_buys_16 : decode cX5_buys 16 = .ok (.invokestatic 146, 3) := dx_184 (a := 0) (b := 146) (dl_at 0 16 lb_X5_buys_0 rfl) (dl_at 0 17 lb_X5_buys_0 rfl) (dl_at 0 18 lb_X5_buys_0 rfl) rfl
theorem dX5_buys_19 : decode cX5_buys 19 = .ok (.ifCond .ne 36, 3) := dx_154 (a := 0) (b := 36) (dl_at 0 19 lb_X5_buys_0 rfl) (dl_at 0 20 lb_X5_buys_0 rfl) (dl_at 0 21 lb_X5_buys_0 rfl) sg16_36
theorem dX5_buys_22 : decode cX5_buys 22 = .ok (.aload_n 0, 1) := dx_42 (dl_at 0 22 lb_X5_buys_0 rfl)
theorem dX5_buys_23 : decode cX5_buys 23 = .ok (.getfield 15, 3) := dx_180 (a := 0) (b := 15) (dl_at 0 23 lb_X5_buys_0 rfl) (dl_at 0 24 lb_X5_buys_0 rfl) (dl_at 0 25 lb_X5_buys_0 rfl) rfl
theorem dX5_buys_26 : decode cX5_buys 26 = .ok (.iload_n 3, 1) := dx_29 (dl_at 0 26 lb_X5_buys_0 rfl)
theorem dX5_buys_27 : decode cX5_buys 27 = .ok (.iaload, 1) := dx_46 (dl_at 0 27 lb_X5_buys_0 rfl)
theorem dX5_buys_28 : decode cX5_buys 28 = .ok (.iload 5, 2) := dx_21 (dl_at 0 28 lb_X5_buys_0 rfl) (dl_at 0 29 lb_X5_buys_0 rfl)
theorem dX5_buys_30 : decode cX5_buys 30 = .ok (.if_icmp .lt 25, 3) := dx_161 (a := 0) (b := 25) (dl_at 0 30 lb_X5_buys_0 rfl) (dl_at 0 31 lb_X5_buys_0 rfl) (dl_at 32 0 lb_X5_buys_1 rfl) sg16_25
theorem dX5_buys_33 : decode cX5_buys 33 = .ok (.iload_n 3, 1) := dx_29 (dl_at 32 1 lb_X5_buys_1 rfl)
theorem dX5_buys_34 : decode cX5_buys 34 = .ok (.aload_n 0, 1) := dx_42 (dl_at 32 2 lb_X5_buys_1 rfl)
theorem dX5_buys_35 : decode cX5_buys 35 = .ok (.getfield 78, 3) := dx_180 (a := 0) (b := 78) (dl_at 32 3 lb_X5_buys_1 rfl) (dl_at 32 4 lb_X5_buys_1 rfl) (dl_at 32 5 lb_X5_buys_1 rfl) rfl
theorem dX5_buys_38 : decode cX5_buys 38 = .ok (.if_icmp .eq 13, 3) := dx_159 (a := 0) (b := 13) (dl_at 32 6 lb_X5_buys_1 rfl) (dl_at 32 7 lb_X5_buys_1 rfl) (dl_at 32 8 lb_X5_buys_1 rfl) sg16_13
theorem dX5_buys_51 : decode cX5_buys 51 = .ok (.iconst 1, 1) := dx_4 (dl_at 32 19 lb_X5_buys_1 rfl)
theorem dX5_buys_52 : decode cX5_buys 52 = .ok (.goto 4, 3) := dx_167 (a := 0) (b := 4) (dl_at 32 20 lb_X5_buys_1 rfl) (dl_at 32 21 lb_X5_buys_1 rfl) (dl_at 32 22 lb_X5_buys_1 rfl) sg16_4
theorem dX5_buys_41 : decode cX5_buys 41 = .ok (.aload_n 1, 1) := dx_43 (dl_at 32 9 lb_X5_buys_1 rfl)
theorem dX5_buys_42 : decode cX5_buys 42 = .ok (.getfield 132, 3) := dx_180 (a := 0) (b := 132) (dl_at 32 10 lb_X5_buys_1 rfl) (dl_at 32 11 lb_X5_buys_1 rfl) (dl_at 32 12 lb_X5_buys_1 rfl) rfl
theorem dX5_buys_45 : decode cX5_buys 45 = .ok (.iload_n 3, 1) := dx_29 (dl_at 32 13 lb_X5_buys_1 rfl)
theorem dX5_buys_46 : decode cX5_buys 46 = .ok (.iaload, 1) := dx_46 (dl_at 32 14 lb_X5_buys_1 rfl)
theorem dX5_buys_47 : decode cX5_buys 47 = .ok (.iconst 3, 1) := dx_6 (dl_at 32 15 lb_X5_buys_1 rfl)
theorem dX5_buys_48 : decode cX5_buys 48 = .ok (.if_icmp .eq 7, 3) := dx_159 (a := 0) (b := 7) (dl_at 32 16 lb_X5_buys_1 rfl) (dl_at 32 17 lb_X5_buys_1 rfl) (dl_at 32 18 lb_X5_buys_1 rfl) sg16_7
theorem lb_X5_needFor_0 : dl_ck (cX5_needFor.data.toList.drop 0) [28, 154, 0, 7, 3, 167, 0, 18, 28, 42, 180, 0, 68, 42, 180, 0, 72, 27, 96, 4, 100, 104, 96, 172] = true := by decide +kernel
theorem dX5_needFor_0 : decode cX5_needFor 0 = .ok (.iload_n 2, 1) := dx_28 (dl_at 0 0 lb_X5_needFor_0 rfl)
theorem dX5_needFor_1 : decode cX5_needFor 1 = .ok (.ifCond .ne 7, 3) := dx_154 (a := 0) (b := 7) (dl_at 0 1 lb_X5_needFor_0 rfl) (dl_at 0 2 lb_X5_needFor_0 rfl) (dl_at 0 3 lb_X5_needFor_0 rfl) sg16_7
theorem dX5_needFor_8 : decode cX5_needFor 8 = .ok (.iload_n 2, 1) := dx_28 (dl_at 0 8 lb_X5_needFor_0 rfl)
theorem dX5_needFor_9 : decode cX5_needFor 9 = .ok (.aload_n 0, 1) := dx_42 (dl_at 0 9 lb_X5_needFor_0 rfl)
theorem dX5_needFor_10 : decode cX5_needFor 10 = .ok (.getfield 68, 3) := dx_180 (a := 0) (b := 68) (dl_at 0 10 lb_X5_needFor_0 rfl) (dl_at 0 11 lb_X5_needFor_0 rfl) (dl_at 0 12 lb_X5_needFor_0 rfl) rfl
theorem dX5_needFor_13 : decode cX5_needFor 13 = .ok (.aload_n 0, 1) := dx_42 (dl_at 0 13 lb_X5_needFor_0 rfl)
theorem dX5_needFor_14 : decode cX5_needFor 14 = .ok (.getfield 72, 3) := dx_180 (a := 0) (b := 72) (dl_at 0 14 lb_X5_needFor_0 rfl) (dl_at 0 15 lb_X5_needFor_0 rfl) (dl_at 0 16 lb_X5_needFor_0 rfl) rfl
theorem dX5_needFor_17 : decode cX5_needFor 17 = .ok (.iload_n 1, 1) := dx_27 (dl_at 0 17 lb_X5_needFor_0 rfl)
theorem dX5_needFor_18 : decode cX5_needFor 18 = .ok (.iadd, 1) := dx_96 (dl_at 0 18 lb_X5_needFor_0 rfl)
theorem dX5_needFor_19 : decode cX5_needFor 19 = .ok (.iconst 1, 1) := dx_4 (dl_at 0 19 lb_X5_needFor_0 rfl)
theorem dX5_needFor_20 : decode cX5_needFor 20 = .ok (.isub, 1) := dx_100 (dl_at 0 20 lb_X5_needFor_0 rfl)
theorem dX5_needFor_21 : decode cX5_needFor 21 = .ok (.imul, 1) := dx_104 (dl_at 0 21 lb_X5_needFor_0 rfl)
theorem dX5_needFor_22 : decode cX5_needFor 22 = .ok (.iadd, 1) := dx_96 (dl_at 0 22 lb_X5_needFor_0 rfl)
theorem dX5_needFor_23 : decode cX5_needFor 23 = .ok (.ireturn, 1) := dx_172 (dl_at 0 23 lb_X5_needFor_0 rfl)
theorem dX5_needFor_4 : decode cX5_needFor 4 = .ok (.iconst 0, 1) := dx_3 (dl_at 0 4 lb_X5_needFor_0 rfl)
theorem dX5_needFor_5 : decode cX5_needFor 5 = .ok (.goto 18, 3) := dx_167 (a := 0) (b := 18) (dl_at 0 5 lb_X5_needFor_0 rfl) (dl_at 0 6 lb_X5_needFor_0 rfl) (dl_at 0 7 lb_X5_needFor_0 rfl) sg16_18
theorem lb_X5_arrive_0 : dl_ck (cX5_arrive.data.toList.drop 0) [42, 89, 180, 0, 110, 4, 96, 181, 0, 110, 42, 180, 0, 24, 180, 0, 125, 153, 0, 36, 29, 42, 180, 0, 24, 180, 0, 150, 161, 0, 25, 29] = true := by decide +kernel
theorem lb_X5_arrive_1 : dl_ck (cX5_arrive.data.toList.drop 32) [42, 180, 0, 24, 180, 0, 150, 160, 0, 27, 27, 42, 180, 0, 24, 180, 0, 153, 162, 0, 16, 42, 180, 0, 24, 42, 180, 0, 18, 27, 29, 182] = true := by decide +kernel
theorem lb_X5_arrive_2 : dl_ck (cX5_arrive.data.toList.drop 64) [0, 156, 42, 27, 29, 182, 0, 160, 54, 4, 42, 42, 180, 0, 122, 21, 4, 184, 0, 163, 181, 0, 122, 21, 4, 42, 180, 0, 62, 164, 0, 4] = true := by decide +kernel
theorem lb_X5_arrive_3 : dl_ck (cX5_arrive.data.toList.drop 96) [177, 42, 89, 180, 0, 113, 4, 96, 181, 0, 113, 42, 89, 180, 0, 116, 28, 4, 42, 180, 0, 75, 120, 2, 130, 126, 126, 181, 0, 116, 42, 180] = true := by decide +kernel
theorem lb_X5_arrive_4 : dl_ck (cX5_arrive.data.toList.drop 128) [0, 28, 180, 0, 125, 153, 0, 36, 27, 42, 180, 0, 28, 180, 0, 153, 161, 0, 25, 27, 42, 180, 0, 28, 180, 0, 153, 160, 0, 27, 29, 42] = true := by decide +kernel
theorem lb_X5_arrive_5 : dl_ck (cX5_arrive.data.toList.drop 160) [180, 0, 28, 180, 0, 150, 162, 0, 16, 42, 180, 0, 28, 42, 180, 0, 18, 27, 29, 182, 0, 156, 177] = true := by decide +kernel
theorem dX5_arrive_0 : decode cX5_arrive 0 = .ok (.aload_n 0, 1) := dx_42 (dl_at 0 0 lb_X5_arrive_0 rfl)
theorem dX5_arrive_1 : decode cX5_arrive 1 = .ok (.dup, 1) := dx_89 (dl_at 0 1 lb_X5_arrive_0 rfl)
theorem dX5_arrive_2 : decode cX5_arrive 2 = .ok (.getfield 110, 3) := dx_180 (a := 0) (b := 110) (dl_at 0 2 lb_X5_arrive_0 rfl) (dl_at 0 3 lb_X5_arrive_0 rfl) (dl_at 0 4 lb_X5_arrive_0 rfl) rfl
theorem dX5_arrive_5 : decode cX5_arrive 5 = .ok (.iconst 1, 1) := dx_4 (dl_at 0 5 lb_X5_arrive_0 rfl)
theorem dX5_arrive_6 : decode cX5_arrive 6 = .ok (.iadd, 1) := dx_96 (dl_at 0 6 lb_X5_arrive_0 rfl)
theorem dX5_arrive_7 : decode cX5_arrive 7 = .ok (.putfield 110, 3) := dx_181 (a := 0) (b := 110) (dl_at 0 7 lb_X5_arrive_0 rfl) (dl_at 0 8 lb_X5_arrive_0 rfl) (dl_at 0 9 lb_X5_arrive_0 rfl) rfl
theorem dX5_arrive_10 : decode cX5_arrive 10 = .ok (.aload_n 0, 1) := dx_42 (dl_at 0 10 lb_X5_arrive_0 rfl)
theorem dX5_arrive_11 : decode cX5_arrive 11 = .ok (.getfield 24, 3) := dx_180 (a := 0) (b := 24) (dl_at 0 11 lb_X5_arrive_0 rfl) (dl_at 0 12 lb_X5_arrive_0 rfl) (dl_at 0 13 lb_X5_arrive_0 rfl) rfl
theorem dX5_arrive_14 : decode cX5_arrive 14 = .ok (.getfield 125, 3) := dx_180 (a := 0) (b := 125) (dl_at 0 14 lb_X5_arrive_0 rfl) (dl_at 0 15 lb_X5_arrive_0 rfl) (dl_at 0 16 lb_X5_arrive_0 rfl) rfl
theorem dX5_arrive_17 : decode cX5_arrive 17 = .ok (.ifCond .eq 36, 3) := dx_153 (a := 0) (b := 36) (dl_at 0 17 lb_X5_arrive_0 rfl) (dl_at 0 18 lb_X5_arrive_0 rfl) (dl_at 0 19 lb_X5_arrive_0 rfl) sg16_36
theorem dX5_arrive_53 : decode cX5_arrive 53 = .ok (.aload_n 0, 1) := dx_42 (dl_at 32 21 lb_X5_arrive_1 rfl)
theorem dX5_arrive_54 : decode cX5_arrive 54 = .ok (.getfield 24, 3) := dx_180 (a := 0) (b := 24) (dl_at 32 22 lb_X5_arrive_1 rfl) (dl_at 32 23 lb_X5_arrive_1 rfl) (dl_at 32 24 lb_X5_arrive_1 rfl) rfl
theorem dX5_arrive_57 : decode cX5_arrive 57 = .ok (.aload_n 0, 1) := dx_42 (dl_at 32 25 lb_X5_arrive_1 rfl)
theorem dX5_arrive_58 : decode cX5_arrive 58 = .ok (.getfield 18, 3) := dx_180 (a := 0) (b := 18) (dl_at 32 26 lb_X5_arrive_1 rfl) (dl_at 32 27 lb_X5_arrive_1 rfl) (dl_at 32 28 lb_X5_arrive_1 rfl) rfl
theorem dX5_arrive_61 : decode cX5_arrive 61 = .ok (.iload_n 1, 1) := dx_27 (dl_at 32 29 lb_X5_arrive_1 rfl)
theorem dX5_arrive_62 : decode cX5_arrive 62 = .ok (.iload_n 3, 1) := dx_29 (dl_at 32 30 lb_X5_arrive_1 rfl)
theorem dX5_arrive_63 : decode cX5_arrive 63 = .ok (.invokevirtual 156, 3) := dx_182 (a := 0) (b := 156) (dl_at 32 31 lb_X5_arrive_1 rfl) (dl_at 64 0 lb_X5_arrive_2 rfl) (dl_at 64 1 lb_X5_arrive_2 rfl) rfl
theorem dX5_arrive_66 : decode cX5_arrive 66 = .ok (.aload_n 0, 1) := dx_42 (dl_at 64 2 lb_X5_arrive_2 rfl)
theorem dX5_arrive_67 : decode cX5_arrive 67 = .ok (.iload_n 1, 1) := dx_27 (dl_at 64 3 lb_X5_arrive_2 rfl)
theorem dX5_arrive_68 : decode cX5_arrive 68 = .ok (.iload_n 3, 1) := dx_29 (dl_at 64 4 lb_X5_arrive_2 rfl)
theorem dX5_arrive_69 : decode cX5_arrive 69 = .ok (.invokevirtual 160, 3) := dx_182 (a := 0) (b := 160) (dl_at 64 5 lb_X5_arrive_2 rfl) (dl_at 64 6 lb_X5_arrive_2 rfl) (dl_at 64 7 lb_X5_arrive_2 rfl) rfl
theorem dX5_arrive_72 : decode cX5_arrive 72 = .ok (.istore 4, 2) := dx_54 (dl_at 64 8 lb_X5_arrive_2 rfl) (dl_at 64 9 lb_X5_arrive_2 rfl)
theorem dX5_arrive_74 : decode cX5_arrive 74 = .ok (.aload_n 0, 1) := dx_42 (dl_at 64 10 lb_X5_arrive_2 rfl)
theorem dX5_arrive_75 : decode cX5_arrive 75 = .ok (.aload_n 0, 1) := dx_42 (dl_at 64 11 lb_X5_arrive_2 rfl)
theorem dX5_arrive_76 : decode cX5_arrive 76 = .ok (.getfield 122, 3) := dx_180 (a := 0) (b := 122) (dl_at 64 12 lb_X5_arrive_2 rfl) (dl_at 64 13 lb_X5_arrive_2 rfl) (dl_at 64 14 lb_X5_arrive_2 rfl) rfl
theorem dX5_arrive_79 : decode cX5_arrive 79 = .ok (.iload 4, 2) := dx_21 (dl_at 64 15 lb_X5_arrive_2 rfl) (dl_at 64 16 lb_X5_arrive_2 rfl)
theorem dX5_arrive_81 : decode cX5_arrive 81 = .ok (.invokestatic 163, 3) := dx_184 (a := 0) (b := 163) (dl_at 64 17 lb_X5_arrive_2 rfl) (dl_at 64 18 lb_X5_arrive_2 rfl) (dl_at 64 19 lb_X5_arrive_2 rfl) rfl
theorem dX5_arrive_84 : decode cX5_arrive 84 = .ok (.putfield 122, 3) := dx_181 (a := 0) (b := 122) (dl_at 64 20 lb_X5_arrive_2 rfl) (dl_at 64 21 lb_X5_arrive_2 rfl) (dl_at 64 22 lb_X5_arrive_2 rfl) rfl
theorem dX5_arrive_87 : decode cX5_arrive 87 = .ok (.iload 4, 2) := dx_21 (dl_at 64 23 lb_X5_arrive_2 rfl) (dl_at 64 24 lb_X5_arrive_2 rfl)
theorem dX5_arrive_89 : decode cX5_arrive 89 = .ok (.aload_n 0, 1) := dx_42 (dl_at 64 25 lb_X5_arrive_2 rfl)
theorem dX5_arrive_90 : decode cX5_arrive 90 = .ok (.getfield 62, 3) := dx_180 (a := 0) (b := 62) (dl_at 64 26 lb_X5_arrive_2 rfl) (dl_at 64 27 lb_X5_arrive_2 rfl) (dl_at 64 28 lb_X5_arrive_2 rfl) rfl
theorem dX5_arrive_93 : decode cX5_arrive 93 = .ok (.if_icmp .le 4, 3) := dx_164 (a := 0) (b := 4) (dl_at 64 29 lb_X5_arrive_2 rfl) (dl_at 64 30 lb_X5_arrive_2 rfl) (dl_at 64 31 lb_X5_arrive_2 rfl) sg16_4
theorem dX5_arrive_97 : decode cX5_arrive 97 = .ok (.aload_n 0, 1) := dx_42 (dl_at 96 1 lb_X5_arrive_3 rfl)
theorem dX5_arrive_98 : decode cX5_arrive 98 = .ok (.dup, 1) := dx_89 (dl_at 96 2 lb_X5_arrive_3 rfl)
theorem dX5_arrive_99 : decode cX5_arrive 99 = .ok (.getfield 113, 3) := dx_180 (a := 0) (b := 113) (dl_at 96 3 lb_X5_arrive_3 rfl) (dl_at 96 4 lb_X5_arrive_3 rfl) (dl_at 96 5 lb_X5_arrive_3 rfl) rfl
theorem dX5_arrive_102 : decode cX5_arrive 102 = .ok (.iconst 1, 1) := dx_4 (dl_at 96 6 lb_X5_arrive_3 rfl)
theorem dX5_arrive_103 : decode cX5_arrive 103 = .ok (.iadd, 1) := dx_96 (dl_at 96 7 lb_X5_arrive_3 rfl)
theorem dX5_arrive_104 : decode cX5_arrive 104 = .ok (.putfield 113, 3) := dx_181 (a := 0) (b := 113) (dl_at 96 8 lb_X5_arrive_3 rfl) (dl_at 96 9 lb_X5_arrive_3 rfl) (dl_at 96 10 lb_X5_arrive_3 rfl) rfl
theorem dX5_arrive_107 : decode cX5_arrive 107 = .ok (.aload_n 0, 1) := dx_42 (dl_at 96 11 lb_X5_arrive_3 rfl)
theorem dX5_arrive_108 : decode cX5_arrive 108 = .ok (.dup, 1) := dx_89 (dl_at 96 12 lb_X5_arrive_3 rfl)
theorem dX5_arrive_109 : decode cX5_arrive 109 = .ok (.getfield 116, 3) := dx_180 (a := 0) (b := 116) (dl_at 96 13 lb_X5_arrive_3 rfl) (dl_at 96 14 lb_X5_arrive_3 rfl) (dl_at 96 15 lb_X5_arrive_3 rfl) rfl
theorem dX5_arrive_112 : decode cX5_arrive 112 = .ok (.iload_n 2, 1) := dx_28 (dl_at 96 16 lb_X5_arrive_3 rfl)
theorem dX5_arrive_113 : decode cX5_arrive 113 = .ok (.iconst 1, 1) := dx_4 (dl_at 96 17 lb_X5_arrive_3 rfl)
theorem dX5_arrive_114 : decode cX5_arrive 114 = .ok (.aload_n 0, 1) := dx_42 (dl_at 96 18 lb_X5_arrive_3 rfl)
theorem dX5_arrive_115 : decode cX5_arrive 115 = .ok (.getfield 75, 3) := dx_180 (a := 0) (b := 75) (dl_at 96 19 lb_X5_arrive_3 rfl) (dl_at 96 20 lb_X5_arrive_3 rfl) (dl_at 96 21 lb_X5_arrive_3 rfl) rfl
theorem dX5_arrive_118 : decode cX5_arrive 118 = .ok (.ishl, 1) := dx_120 (dl_at 96 22 lb_X5_arrive_3 rfl)
theorem dX5_arrive_119 : decode cX5_arrive 119 = .ok (.iconst (-1), 1) := dx_2 (dl_at 96 23 lb_X5_arrive_3 rfl)
theorem dX5_arrive_120 : decode cX5_arrive 120 = .ok (.ixor, 1) := dx_130 (dl_at 96 24 lb_X5_arrive_3 rfl)
theorem dX5_arrive_121 : decode cX5_arrive 121 = .ok (.iand, 1) := dx_126 (dl_at 96 25 lb_X5_arrive_3 rfl)
theorem dX5_arrive_122 : decode cX5_arrive 122 = .ok (.iand, 1) := dx_126 (dl_at 96 26 lb_X5_arrive_3 rfl)
theorem dX5_arrive_123 : decode cX5_arrive 123 = .ok (.putfield 116, 3) := dx_181 (a := 0) (b := 116) (dl_at 96 27 lb_X5_arrive_3 rfl) (dl_at 96 28 lb_X5_arrive_3 rfl) (dl_at 96 29 lb_X5_arrive_3 rfl) rfl
theorem dX5_arrive_126 : decode cX5_arrive 126 = .ok (.aload_n 0, 1) := dx_42 (dl_at 96 30 lb_X5_arrive_3 rfl)
theorem dX5_arrive_127 : decode cX5_arrive 127 = .ok (.getfield 28, 3) := dx_180 (a := 0) (b := 28) (dl_at 96 31 lb_X5_arrive_3 rfl) (dl_at 128 0 lb_X5_arrive_4 rfl) (dl_at 128 1 lb_X5_arrive_4 rfl) rfl
theorem dX5_arrive_130 : decode cX5_arrive 130 = .ok (.getfield 125, 3) := dx_180 (a := 0) (b := 125) (dl_at 128 2 lb_X5_arrive_4 rfl) (dl_at 128 3 lb_X5_arrive_4 rfl) (dl_at 128 4 lb_X5_arrive_4 rfl) rfl
theorem dX5_arrive_133 : decode cX5_arrive 133 = .ok (.ifCond .eq 36, 3) := dx_153 (a := 0) (b := 36) (dl_at 128 5 lb_X5_arrive_4 rfl) (dl_at 128 6 lb_X5_arrive_4 rfl) (dl_at 128 7 lb_X5_arrive_4 rfl) sg16_36
theorem dX5_arrive_169 : decode cX5_arrive 169 = .ok (.aload_n 0, 1) := dx_42 (dl_at 160 9 lb_X5_arrive_5 rfl)
theorem dX5_arrive_170 : decode cX5_arrive 170 = .ok (.getfield 28, 3) := dx_180 (a := 0) (b := 28) (dl_at 160 10 lb_X5_arrive_5 rfl) (dl_at 160 11 lb_X5_arrive_5 rfl) (dl_at 160 12 lb_X5_arrive_5 rfl) rfl
theorem dX5_arrive_173 : decode cX5_arrive 173 = .ok (.aload_n 0, 1) := dx_42 (dl_at 160 13 lb_X5_arrive_5 rfl)
theorem dX5_arrive_174 : decode cX5_arrive 174 = .ok (.getfield 18, 3) := dx_180 (a := 0) (b := 18) (dl_at 160 14 lb_X5_arrive_5 rfl) (dl_at 160 15 lb_X5_arrive_5 rfl) (dl_at 160 16 lb_X5_arrive_5 rfl) rfl
theorem dX5_arrive_177 : decode cX5_arrive 177 = .ok (.iload_n 1, 1) := dx_27 (dl_at 160 17 lb_X5_arrive_5 rfl)
theorem dX5_arrive_178 : decode cX5_arrive 178 = .ok (.iload_n 3, 1) := dx_29 (dl_at 160 18 lb_X5_arrive_5 rfl)
theorem dX5_arrive_179 : decode cX5_arrive 179 = .ok (.invokevirtual 156, 3) := dx_182 (a := 0) (b := 156) (dl_at 160 19 lb_X5_arrive_5 rfl) (dl_at 160 20 lb_X5_arrive_5 rfl) (dl_at 160 21 lb_X5_arrive_5 rfl) rfl
theorem dX5_arrive_182 : decode cX5_arrive 182 = .ok (.return_, 1) := dx_177 (dl_at 160 22 lb_X5_arrive_5 rfl)
theorem dX5_arrive_136 : decode cX5_arrive 136 = .ok (.iload_n 1, 1) := dx_27 (dl_at 128 8 lb_X5_arrive_4 rfl)
theorem dX5_arrive_137 : decode cX5_arrive 137 = .ok (.aload_n 0, 1) := dx_42 (dl_at 128 9 lb_X5_arrive_4 rfl)
theorem dX5_arrive_138 : decode cX5_arrive 138 = .ok (.getfield 28, 3) := dx_180 (a := 0) (b := 28) (dl_at 128 10 lb_X5_arrive_4 rfl) (dl_at 128 11 lb_X5_arrive_4 rfl) (dl_at 128 12 lb_X5_arrive_4 rfl) rfl
theorem dX5_arrive_141 : decode cX5_arrive 141 = .ok (.getfield 153, 3) := dx_180 (a := 0) (b := 153) (dl_at 128 13 lb_X5_arrive_4 rfl) (dl_at 128 14 lb_X5_arrive_4 rfl) (dl_at 128 15 lb_X5_arrive_4 rfl) rfl
theorem dX5_arrive_144 : decode cX5_arrive 144 = .ok (.if_icmp .lt 25, 3) := dx_161 (a := 0) (b := 25) (dl_at 128 16 lb_X5_arrive_4 rfl) (dl_at 128 17 lb_X5_arrive_4 rfl) (dl_at 128 18 lb_X5_arrive_4 rfl) sg16_25
theorem dX5_arrive_147 : decode cX5_arrive 147 = .ok (.iload_n 1, 1) := dx_27 (dl_at 128 19 lb_X5_arrive_4 rfl)
theorem dX5_arrive_148 : decode cX5_arrive 148 = .ok (.aload_n 0, 1) := dx_42 (dl_at 128 20 lb_X5_arrive_4 rfl)
theorem dX5_arrive_149 : decode cX5_arrive 149 = .ok (.getfield 28, 3) := dx_180 (a := 0) (b := 28) (dl_at 128 21 lb_X5_arrive_4 rfl) (dl_at 128 22 lb_X5_arrive_4 rfl) (dl_at 128 23 lb_X5_arrive_4 rfl) rfl
theorem dX5_arrive_152 : decode cX5_arrive 152 = .ok (.getfield 153, 3) := dx_180 (a := 0) (b := 153) (dl_at 128 24 lb_X5_arrive_4 rfl) (dl_at 128 25 lb_X5_arrive_4 rfl) (dl_at 128 26 lb_X5_arrive_4 rfl) rfl
theorem dX5_arrive_155 : decode cX5_arrive 155 = .ok (.if_icmp .ne 27, 3) := dx_160 (a := 0) (b := 27) (dl_at 128 27 lb_X5_arrive_4 rfl) (dl_at 128 28 lb_X5_arrive_4 rfl) (dl_at 128 29 lb_X5_arrive_4 rfl) sg16_27
theorem dX5_arrive_158 : decode cX5_arrive 158 = .ok (.iload_n 3, 1) := dx_29 (dl_at 128 30 lb_X5_arrive_4 rfl)
theorem dX5_arrive_159 : decode cX5_arrive 159 = .ok (.aload_n 0, 1) := dx_42 (dl_at 128 31 lb_X5_arrive_4 rfl)
theorem dX5_arrive_160 : decode cX5_arrive 160 = .ok (.getfield 28, 3) := dx_180 (a := 0) (b := 28) (dl_at 160 0 lb_X5_arrive_5 rfl) (dl_at 160 1 lb_X5_arrive_5 rfl) (dl_at 160 2 lb_X5_arrive_5 rfl) rfl
theorem dX5_arrive_163 : decode cX5_arrive 163 = .ok (.getfield 150, 3) := dx_180 (a := 0) (b := 150) (dl_at 160 3 lb_X5_arrive_5 rfl) (dl_at 160 4 lb_X5_arrive_5 rfl) (dl_at 160 5 lb_X5_arrive_5 rfl) rfl
theorem dX5_arrive_166 : decode cX5_arrive 166 = .ok (.if_icmp .ge 16, 3) := dx_162 (a := 0) (b := 16) (dl_at 160 6 lb_X5_arrive_5 rfl) (dl_at 160 7 lb_X5_arrive_5 rfl) (dl_at 160 8 lb_X5_arrive_5 rfl) sg16_16
theorem dX5_arrive_96 : decode cX5_arrive 96 = .ok (.return_, 1) := dx_177 (dl_at 96 0 lb_X5_arrive_3 rfl)
theorem dX5_arrive_20 : decode cX5_arrive 20 = .ok (.iload_n 3, 1) := dx_29 (dl_at 0 20 lb_X5_arrive_0 rfl)
theorem dX5_arrive_21 : decode cX5_arrive 21 = .ok (.aload_n 0, 1) := dx_42 (dl_at 0 21 lb_X5_arrive_0 rfl)
theorem dX5_arrive_22 : decode cX5_arrive 22 = .ok (.getfield 24, 3) := dx_180 (a := 0) (b := 24) (dl_at 0 22 lb_X5_arrive_0 rfl) (dl_at 0 23 lb_X5_arrive_0 rfl) (dl_at 0 24 lb_X5_arrive_0 rfl) rfl
theorem dX5_arrive_25 : decode cX5_arrive 25 = .ok (.getfield 150, 3) := dx_180 (a := 0) (b := 150) (dl_at 0 25 lb_X5_arrive_0 rfl) (dl_at 0 26 lb_X5_arrive_0 rfl) (dl_at 0 27 lb_X5_arrive_0 rfl) rfl
theorem dX5_arrive_28 : decode cX5_arrive 28 = .ok (.if_icmp .lt 25, 3) := dx_161 (a := 0) (b := 25) (dl_at 0 28 lb_X5_arrive_0 rfl) (dl_at 0 29 lb_X5_arrive_0 rfl) (dl_at 0 30 lb_X5_arrive_0 rfl) sg16_25
theorem dX5_arrive_31 : decode cX5_arrive 31 = .ok (.iload_n 3, 1) := dx_29 (dl_at 0 31 lb_X5_arrive_0 rfl)
theorem dX5_arrive_32 : decode cX5_arrive 32 = .ok (.aload_n 0, 1) := dx_42 (dl_at 32 0 lb_X5_arrive_1 rfl)
theorem dX5_arrive_33 : decode cX5_arrive 33 = .ok (.getfield 24, 3) := dx_180 (a := 0) (b := 24) (dl_at 32 1 lb_X5_arrive_1 rfl) (dl_at 32 2 lb_X5_arrive_1 rfl) (dl_at 32 3 lb_X5_arrive_1 rfl) rfl
theorem dX5_arrive_36 : decode cX5_arrive 36 = .ok (.getfield 150, 3) := dx_180 (a := 0) (b := 150) (dl_at 32 4 lb_X5_arrive_1 rfl) (dl_at 32 5 lb_X5_arrive_1 rfl) (dl_at 32 6 lb_X5_arrive_1 rfl) rfl
theorem dX5_arrive_39 : decode cX5_arrive 39 = .ok (.if_icmp .ne 27, 3) := dx_160 (a := 0) (b := 27) (dl_at 32 7 lb_X5_arrive_1 rfl) (dl_at 32 8 lb_X5_arrive_1 rfl) (dl_at 32 9 lb_X5_arrive_1 rfl) sg16_27
theorem dX5_arrive_42 : decode cX5_arrive 42 = .ok (.iload_n 1, 1) := dx_27 (dl_at 32 10 lb_X5_arrive_1 rfl)
theorem dX5_arrive_43 : decode cX5_arrive 43 = .ok (.aload_n 0, 1) := dx_42 (dl_at 32 11 lb_X5_arrive_1 rfl)
theorem dX5_arrive_44 : decode cX5_arrive 44 = .ok (.getfield 24, 3) := dx_180 (a := 0) (b := 24) (dl_at 32 12 lb_X5_arrive_1 rfl) (dl_at 32 13 lb_X5_arrive_1 rfl) (dl_at 32 14 lb_X5_arrive_1 rfl) rfl
theorem dX5_arrive_47 : decode cX5_arrive 47 = .ok (.getfield 153, 3) := dx_180 (a := 0) (b := 153) (dl_at 32 15 lb_X5_arrive_1 rfl) (dl_at 32 16 lb_X5_arrive_1 rfl) (dl_at 32 17 lb_X5_arrive_1 rfl) rfl
theorem dX5_arrive_50 : decode cX5_arrive 50 = .ok (.if_icmp .ge 16, 3) := dx_162 (a := 0) (b := 16) (dl_at 32 18 lb_X5_arrive_1 rfl) (dl_at 32 19 lb_X5_arrive_1 rfl) (dl_at 32 20 lb_X5_arrive_1 rfl) sg16_16
theorem lb_X5_walkOn_0 : dl_ck (cX5_walkOn.data.toList.drop 0) [42, 180, 0, 18, 28, 46, 54, 5, 43, 180, 0, 132, 21, 5, 46, 21, 4, 184, 0, 135, 54, 6, 28, 4, 96, 54, 7, 3, 54, 8, 21, 8] = true := by decide +kernel
theorem lb_X5_walkOn_1 : dl_ck (cX5_walkOn.data.toList.drop 32) [43, 180, 0, 96, 162, 0, 79, 21, 7, 16, 7, 162, 0, 72, 42, 43, 21, 5, 21, 8, 29, 21, 6, 182, 0, 138, 154, 0, 6, 167, 0, 48] = true := by decide +kernel
theorem lb_X5_walkOn_2 : dl_ck (cX5_walkOn.data.toList.drop 64) [42, 180, 0, 18, 21, 7, 21, 8, 79, 21, 8, 42, 180, 0, 78, 160, 0, 15, 42, 21, 7, 29, 21, 6, 182, 0, 142, 167, 0, 18, 42, 43] = true := by decide +kernel
theorem lb_X5_walkOn_3 : dl_ck (cX5_walkOn.data.toList.drop 96) [21, 7, 29, 4, 21, 8, 120, 128, 21, 6, 182, 0, 129, 132, 8, 1, 167, 255, 174, 177] = true := by decide +kernel
theorem dX5_walkOn_0 : decode cX5_walkOn 0 = .ok (.aload_n 0, 1) := dx_42 (dl_at 0 0 lb_X5_walkOn_0 rfl)
theorem dX5_walkOn_1 : decode cX5_walkOn 1 = .ok (.getfield 18, 3) := dx_180 (a := 0) (b := 18) (dl_at 0 1 lb_X5_walkOn_0 rfl) (dl_at 0 2 lb_X5_walkOn_0 rfl) (dl_at 0 3 lb_X5_walkOn_0 rfl) rfl
theorem dX5_walkOn_4 : decode cX5_walkOn 4 = .ok (.iload_n 2, 1) := dx_28 (dl_at 0 4 lb_X5_walkOn_0 rfl)
theorem dX5_walkOn_5 : decode cX5_walkOn 5 = .ok (.iaload, 1) := dx_46 (dl_at 0 5 lb_X5_walkOn_0 rfl)
theorem dX5_walkOn_6 : decode cX5_walkOn 6 = .ok (.istore 5, 2) := dx_54 (dl_at 0 6 lb_X5_walkOn_0 rfl) (dl_at 0 7 lb_X5_walkOn_0 rfl)
theorem dX5_walkOn_8 : decode cX5_walkOn 8 = .ok (.aload_n 1, 1) := dx_43 (dl_at 0 8 lb_X5_walkOn_0 rfl)
theorem dX5_walkOn_9 : decode cX5_walkOn 9 = .ok (.getfield 132, 3) := dx_180 (a := 0) (b := 132) (dl_at 0 9 lb_X5_walkOn_0 rfl) (dl_at 0 10 lb_X5_walkOn_0 rfl) (dl_at 0 11 lb_X5_walkOn_0 rfl) rfl
theorem dX5_walkOn_12 : decode cX5_walkOn 12 = .ok (.iload 5, 2) := dx_21 (dl_at 0 12 lb_X5_walkOn_0 rfl) (dl_at 0 13 lb_X5_walkOn_0 rfl)
theorem dX5_walkOn_14 : decode cX5_walkOn 14 = .ok (.iaload, 1) := dx_46 (dl_at 0 14 lb_X5_walkOn_0 rfl)
theorem dX5_walkOn_15 : decode cX5_walkOn 15 = .ok (.iload 4, 2) := dx_21 (dl_at 0 15 lb_X5_walkOn_0 rfl) (dl_at 0 16 lb_X5_walkOn_0 rfl)
theorem dX5_walkOn_17 : decode cX5_walkOn 17 = .ok (.invokestatic 135, 3) := dx_184 (a := 0) (b := 135) (dl_at 0 17 lb_X5_walkOn_0 rfl) (dl_at 0 18 lb_X5_walkOn_0 rfl) (dl_at 0 19 lb_X5_walkOn_0 rfl) rfl
theorem dX5_walkOn_20 : decode cX5_walkOn 20 = .ok (.istore 6, 2) := dx_54 (dl_at 0 20 lb_X5_walkOn_0 rfl) (dl_at 0 21 lb_X5_walkOn_0 rfl)
theorem dX5_walkOn_22 : decode cX5_walkOn 22 = .ok (.iload_n 2, 1) := dx_28 (dl_at 0 22 lb_X5_walkOn_0 rfl)
theorem dX5_walkOn_23 : decode cX5_walkOn 23 = .ok (.iconst 1, 1) := dx_4 (dl_at 0 23 lb_X5_walkOn_0 rfl)
theorem dX5_walkOn_24 : decode cX5_walkOn 24 = .ok (.iadd, 1) := dx_96 (dl_at 0 24 lb_X5_walkOn_0 rfl)
theorem dX5_walkOn_25 : decode cX5_walkOn 25 = .ok (.istore 7, 2) := dx_54 (dl_at 0 25 lb_X5_walkOn_0 rfl) (dl_at 0 26 lb_X5_walkOn_0 rfl)
theorem dX5_walkOn_27 : decode cX5_walkOn 27 = .ok (.iconst 0, 1) := dx_3 (dl_at 0 27 lb_X5_walkOn_0 rfl)
theorem dX5_walkOn_28 : decode cX5_walkOn 28 = .ok (.istore 8, 2) := dx_54 (dl_at 0 28 lb_X5_walkOn_0 rfl) (dl_at 0 29 lb_X5_walkOn_0 rfl)
theorem dX5_walkOn_30 : decode cX5_walkOn 30 = .ok (.iload 8, 2) := dx_21 (dl_at 0 30 lb_X5_walkOn_0 rfl) (dl_at 0 31 lb_X5_walkOn_0 rfl)
theorem dX5_walkOn_32 : decode cX5_walkOn 32 = .ok (.aload_n 1, 1) := dx_43 (dl_at 32 0 lb_X5_walkOn_1 rfl)
theorem dX5_walkOn_33 : decode cX5_walkOn 33 = .ok (.getfield 96, 3) := dx_180 (a := 0) (b := 96) (dl_at 32 1 lb_X5_walkOn_1 rfl) (dl_at 32 2 lb_X5_walkOn_1 rfl) (dl_at 32 3 lb_X5_walkOn_1 rfl) rfl
theorem dX5_walkOn_36 : decode cX5_walkOn 36 = .ok (.if_icmp .ge 79, 3) := dx_162 (a := 0) (b := 79) (dl_at 32 4 lb_X5_walkOn_1 rfl) (dl_at 32 5 lb_X5_walkOn_1 rfl) (dl_at 32 6 lb_X5_walkOn_1 rfl) sg16_79
theorem dX5_walkOn_115 : decode cX5_walkOn 115 = .ok (.return_, 1) := dx_177 (dl_at 96 19 lb_X5_walkOn_3 rfl)
theorem dX5_walkOn_39 : decode cX5_walkOn 39 = .ok (.iload 7, 2) := dx_21 (dl_at 32 7 lb_X5_walkOn_1 rfl) (dl_at 32 8 lb_X5_walkOn_1 rfl)
theorem dX5_walkOn_41 : decode cX5_walkOn 41 = .ok (.bipush 7, 2) := dx_16 (dl_at 32 9 lb_X5_walkOn_1 rfl) (dl_at 32 10 lb_X5_walkOn_1 rfl) sg8_7
theorem dX5_walkOn_43 : decode cX5_walkOn 43 = .ok (.if_icmp .ge 72, 3) := dx_162 (a := 0) (b := 72) (dl_at 32 11 lb_X5_walkOn_1 rfl) (dl_at 32 12 lb_X5_walkOn_1 rfl) (dl_at 32 13 lb_X5_walkOn_1 rfl) sg16_72
theorem dX5_walkOn_46 : decode cX5_walkOn 46 = .ok (.aload_n 0, 1) := dx_42 (dl_at 32 14 lb_X5_walkOn_1 rfl)
theorem dX5_walkOn_47 : decode cX5_walkOn 47 = .ok (.aload_n 1, 1) := dx_43 (dl_at 32 15 lb_X5_walkOn_1 rfl)
theorem dX5_walkOn_48 : decode cX5_walkOn 48 = .ok (.iload 5, 2) := dx_21 (dl_at 32 16 lb_X5_walkOn_1 rfl) (dl_at 32 17 lb_X5_walkOn_1 rfl)
theorem dX5_walkOn_50 : decode cX5_walkOn 50 = .ok (.iload 8, 2) := dx_21 (dl_at 32 18 lb_X5_walkOn_1 rfl) (dl_at 32 19 lb_X5_walkOn_1 rfl)
theorem dX5_walkOn_52 : decode cX5_walkOn 52 = .ok (.iload_n 3, 1) := dx_29 (dl_at 32 20 lb_X5_walkOn_1 rfl)
theorem dX5_walkOn_53 : decode cX5_walkOn 53 = .ok (.iload 6, 2) := dx_21 (dl_at 32 21 lb_X5_walkOn_1 rfl) (dl_at 32 22 lb_X5_walkOn_1 rfl)
theorem dX5_walkOn_55 : decode cX5_walkOn 55 = .ok (.invokevirtual 138, 3) := dx_182 (a := 0) (b := 138) (dl_at 32 23 lb_X5_walkOn_1 rfl) (dl_at 32 24 lb_X5_walkOn_1 rfl) (dl_at 32 25 lb_X5_walkOn_1 rfl) rfl
theorem dX5_walkOn_58 : decode cX5_walkOn 58 = .ok (.ifCond .ne 6, 3) := dx_154 (a := 0) (b := 6) (dl_at 32 26 lb_X5_walkOn_1 rfl) (dl_at 32 27 lb_X5_walkOn_1 rfl) (dl_at 32 28 lb_X5_walkOn_1 rfl) sg16_6
theorem dX5_walkOn_64 : decode cX5_walkOn 64 = .ok (.aload_n 0, 1) := dx_42 (dl_at 64 0 lb_X5_walkOn_2 rfl)
theorem dX5_walkOn_65 : decode cX5_walkOn 65 = .ok (.getfield 18, 3) := dx_180 (a := 0) (b := 18) (dl_at 64 1 lb_X5_walkOn_2 rfl) (dl_at 64 2 lb_X5_walkOn_2 rfl) (dl_at 64 3 lb_X5_walkOn_2 rfl) rfl
theorem dX5_walkOn_68 : decode cX5_walkOn 68 = .ok (.iload 7, 2) := dx_21 (dl_at 64 4 lb_X5_walkOn_2 rfl) (dl_at 64 5 lb_X5_walkOn_2 rfl)
theorem dX5_walkOn_70 : decode cX5_walkOn 70 = .ok (.iload 8, 2) := dx_21 (dl_at 64 6 lb_X5_walkOn_2 rfl) (dl_at 64 7 lb_X5_walkOn_2 rfl)
theorem dX5_walkOn_72 : decode cX5_walkOn 72 = .ok (.iastore, 1) := dx_79 (dl_at 64 8 lb_X5_walkOn_2 rfl)
theorem dX5_walkOn_73 : decode cX5_walkOn 73 = .ok (.iload 8, 2) := dx_21 (dl_at 64 9 lb_X5_walkOn_2 rfl) (dl_at 64 10 lb_X5_walkOn_2 rfl)
theorem dX5_walkOn_75 : decode cX5_walkOn 75 = .ok (.aload_n 0, 1) := dx_42 (dl_at 64 11 lb_X5_walkOn_2 rfl)
theorem dX5_walkOn_76 : decode cX5_walkOn 76 = .ok (.getfield 78, 3) := dx_180 (a := 0) (b := 78) (dl_at 64 12 lb_X5_walkOn_2 rfl) (dl_at 64 13 lb_X5_walkOn_2 rfl) (dl_at 64 14 lb_X5_walkOn_2 rfl) rfl
theorem dX5_walkOn_79 : decode cX5_walkOn 79 = .ok (.if_icmp .ne 15, 3) := dx_160 (a := 0) (b := 15) (dl_at 64 15 lb_X5_walkOn_2 rfl) (dl_at 64 16 lb_X5_walkOn_2 rfl) (dl_at 64 17 lb_X5_walkOn_2 rfl) sg16_15
theorem dX5_walkOn_94 : decode cX5_walkOn 94 = .ok (.aload_n 0, 1) := dx_42 (dl_at 64 30 lb_X5_walkOn_2 rfl)
theorem dX5_walkOn_95 : decode cX5_walkOn 95 = .ok (.aload_n 1, 1) := dx_43 (dl_at 64 31 lb_X5_walkOn_2 rfl)
theorem dX5_walkOn_96 : decode cX5_walkOn 96 = .ok (.iload 7, 2) := dx_21 (dl_at 96 0 lb_X5_walkOn_3 rfl) (dl_at 96 1 lb_X5_walkOn_3 rfl)
theorem dX5_walkOn_98 : decode cX5_walkOn 98 = .ok (.iload_n 3, 1) := dx_29 (dl_at 96 2 lb_X5_walkOn_3 rfl)
theorem dX5_walkOn_99 : decode cX5_walkOn 99 = .ok (.iconst 1, 1) := dx_4 (dl_at 96 3 lb_X5_walkOn_3 rfl)
theorem dX5_walkOn_100 : decode cX5_walkOn 100 = .ok (.iload 8, 2) := dx_21 (dl_at 96 4 lb_X5_walkOn_3 rfl) (dl_at 96 5 lb_X5_walkOn_3 rfl)
theorem dX5_walkOn_102 : decode cX5_walkOn 102 = .ok (.ishl, 1) := dx_120 (dl_at 96 6 lb_X5_walkOn_3 rfl)
theorem dX5_walkOn_103 : decode cX5_walkOn 103 = .ok (.ior, 1) := dx_128 (dl_at 96 7 lb_X5_walkOn_3 rfl)
theorem dX5_walkOn_104 : decode cX5_walkOn 104 = .ok (.iload 6, 2) := dx_21 (dl_at 96 8 lb_X5_walkOn_3 rfl) (dl_at 96 9 lb_X5_walkOn_3 rfl)
theorem dX5_walkOn_106 : decode cX5_walkOn 106 = .ok (.invokevirtual 129, 3) := dx_182 (a := 0) (b := 129) (dl_at 96 10 lb_X5_walkOn_3 rfl) (dl_at 96 11 lb_X5_walkOn_3 rfl) (dl_at 96 12 lb_X5_walkOn_3 rfl) rfl
theorem dX5_walkOn_109 : decode cX5_walkOn 109 = .ok (.iinc 8 1, 3) := dx_132 (dl_at 96 13 lb_X5_walkOn_3 rfl) (dl_at 96 14 lb_X5_walkOn_3 rfl) (dl_at 96 15 lb_X5_walkOn_3 rfl) sg8_1
theorem dX5_walkOn_112 : decode cX5_walkOn 112 = .ok (.goto (-82), 3) := dx_167 (a := 255) (b := 174) (dl_at 96 16 lb_X5_walkOn_3 rfl) (dl_at 96 17 lb_X5_walkOn_3 rfl) (dl_at 96 18 lb_X5_walkOn_3 rfl) sg16_65454
theorem dX5_walkOn_82 : decode cX5_walkOn 82 = .ok (.aload_n 0, 1) := dx_42 (dl_at 64 18 lb_X5_walkOn_2 rfl)
theorem dX5_walkOn_83 : decode cX5_walkOn 83 = .ok (.iload 7, 2) := dx_21 (dl_at 64 19 lb_X5_walkOn_2 rfl) (dl_at 64 20 lb_X5_walkOn_2 rfl)
theorem dX5_walkOn_85 : decode cX5_walkOn 85 = .ok (.iload_n 3, 1) := dx_29 (dl_at 64 21 lb_X5_walkOn_2 rfl)
theorem dX5_walkOn_86 : decode cX5_walkOn 86 = .ok (.iload 6, 2) := dx_21 (dl_at 64 22 lb_X5_walkOn_2 rfl) (dl_at 64 23 lb_X5_walkOn_2 rfl)
theorem dX5_walkOn_88 : decode cX5_walkOn 88 = .ok (.invokevirtual 142, 3) := dx_182 (a := 0) (b := 142) (dl_at 64 24 lb_X5_walkOn_2 rfl) (dl_at 64 25 lb_X5_walkOn_2 rfl) (dl_at 64 26 lb_X5_walkOn_2 rfl) rfl
theorem dX5_walkOn_91 : decode cX5_walkOn 91 = .ok (.goto 18, 3) := dx_167 (a := 0) (b := 18) (dl_at 64 27 lb_X5_walkOn_2 rfl) (dl_at 64 28 lb_X5_walkOn_2 rfl) (dl_at 64 29 lb_X5_walkOn_2 rfl) sg16_18
theorem dX5_walkOn_61 : decode cX5_walkOn 61 = .ok (.goto 48, 3) := dx_167 (a := 0) (b := 48) (dl_at 32 29 lb_X5_walkOn_1 rfl) (dl_at 32 30 lb_X5_walkOn_1 rfl) (dl_at 32 31 lb_X5_walkOn_1 rfl) sg16_48
def F_sx_take55 (mu : Nat → Nat → Int32) (vn : Int32) (vp : Int32) : Nat → Nat → Int32 :=
  LETV (vn + 1 : Int32) fun t1 =>
  LETV (va_up mu 57 (va_cpy (mu 54) (mu 57) (0 : Int32).toNatClampNeg (0 : Int32).toNatClampNeg (t1 : Int32).toNatClampNeg) : Nat → Nat → Int32) fun nu2 =>
  LETV (va_up nu2 55 (upd (nu2 55) 1 vn) : Nat → Nat → Int32) fun nu4 =>
  LETV (va_up nu4 55 (upd (nu4 55) 2 vp) : Nat → Nat → Int32) fun nu7 =>
  LETV (va_up nu7 55 (upd (nu7 55) 3 1) : Nat → Nat → Int32) fun nu11 =>
  nu11
def F_sx_take56 (mu : Nat → Nat → Int32) (vn : Int32) (vp : Int32) : Nat → Nat → Int32 :=
  LETV (vn + 1 : Int32) fun t1 =>
  LETV (va_up mu 58 (va_cpy (mu 54) (mu 58) (0 : Int32).toNatClampNeg (0 : Int32).toNatClampNeg (t1 : Int32).toNatClampNeg) : Nat → Nat → Int32) fun nu2 =>
  LETV (va_up nu2 56 (upd (nu2 56) 1 vn) : Nat → Nat → Int32) fun nu4 =>
  LETV (va_up nu4 56 (upd (nu4 56) 2 vp) : Nat → Nat → Int32) fun nu7 =>
  LETV (va_up nu7 56 (upd (nu7 56) 3 1) : Nat → Nat → Int32) fun nu11 =>
  nu11
def L_sx_linkUnder_2_0 (vs : Int32) : Nat → (Int32) → (Nat → Nat → Int32) → Nat → Nat → Int32
  | 0, v3_2, nu2_ => nu2_
  | n + 1, v3_2, nu2_ =>
    LETV (nu2_ 4 6 : Int32) fun y1 =>
    if v3_2 ≥ y1 then (
      nu2_
    ) else (
      LETV (F_sx_near nu2_ (v3_2 : Int32) (vs : Int32) : Int32) fun r3 =>
      LETV (va_up nu2_ 52 (upd (nu2_ 52) v3_2.toNatClampNeg r3) : Nat → Nat → Int32) fun nu4 =>
      LETV ((v3_2 + 1) : Int32) fun w7 =>
      L_sx_linkUnder_2_0 vs n (w7 : Int32) nu4
    )
def F_sx_linkUnder (mu : Nat → Nat → Int32) (vs : Int32) : Nat → Nat → Int32 :=
  L_sx_linkUnder_2_0 vs 10 (0 : Int32) mu
def F_sx_lookFrom (mu : Nat → Nat → Int32) (vx : Int32) (vy : Int32) (vp : Int32) : Nat → Nat → Int32 :=
  LETV (va_up mu 32 (upd (mu 32) 5 vx) : Nat → Nat → Int32) fun nu1 =>
  LETV (va_up nu1 32 (upd (nu1 32) 6 vy) : Nat → Nat → Int32) fun nu4 =>
  LETV (va_up nu4 32 (upd (nu4 32) 7 vp) : Nat → Nat → Int32) fun nu8 =>
  LETV (va_up nu8 53 (va_cpy (nu8 46) (nu8 53) (0 : Int32).toNatClampNeg (0 : Int32).toNatClampNeg (7 : Int32).toNatClampNeg) : Nat → Nat → Int32) fun nu13 =>
  LETV (nu13 5 2 : Int32) fun y18 =>
  LETV (F_sx_linkUnder nu13 (y18 : Int32) : Nat → Nat → Int32) fun xi19 =>
  xi19
def F_sx_lookAt (mu : Nat → Nat → Int32) (kl : Nat) : Nat → Nat → Int32 :=
  LETV (mu kl 5 : Int32) fun y1 =>
  LETV (mu kl 1 : Int32) fun y2 =>
  LETV (mu kl 6 : Int32) fun y3 =>
  LETV (F_sx_lookFrom mu (y1 : Int32) (y2 : Int32) (y3 : Int32) : Nat → Nat → Int32) fun xi4 =>
  LETV (xi4 5 3 : Int32) fun y6 =>
  LETV (F_sx_worthOn xi4 kl (y6 : Int32) : Int32) fun r7 =>
  LETV (va_up xi4 32 (upd (xi4 32) 8 r7) : Nat → Nat → Int32) fun nu8 =>
  LETV (nu8 kl 3 : Int32) fun y12 =>
  LETV (va_up nu8 32 (upd (nu8 32) 9 y12) : Nat → Nat → Int32) fun nu13 =>
  LETV (nu13 kl 7 : Int32) fun y19 =>
  if y19 = y6 then (
    LETV (va_up nu13 32 (upd (nu13 32) 10 1) : Nat → Nat → Int32) fun nu29 =>
    nu29
  ) else (
    LETV (va_up nu13 32 (upd (nu13 32) 10 0) : Nat → Nat → Int32) fun nu21 =>
    nu21
  )
def F_sx_buys (mu : Nat → Nat → Int32) (vx : Int32) (vy : Int32) (vu : Int32) (vp : Int32) : Int32 :=
  LETV (mu 52 vx.toNatClampNeg : Int32) fun y1 =>
  LETV (F_sx_hasBit (y1 : Int32) (vy : Int32) : Int32) fun r2 =>
  if r2 = (0 : Int32) then (
    (0 : Int32)
  ) else (
    LETV (F_sx_hasBit (vu : Int32) (vy : Int32) : Int32) fun r4 =>
    if r4 = (0 : Int32) then (
      LETV (mu 53 vy.toNatClampNeg : Int32) fun y6 =>
      if y6 < vp then (
        (0 : Int32)
      ) else (
        LETV (mu 32 6 : Int32) fun y8 =>
        if vy = y8 then (
          (1 : Int32)
        ) else (
          LETV (mu 34 vy.toNatClampNeg : Int32) fun y10 =>
          if y10 = (3 : Int32) then (
            (0 : Int32)
          ) else (
            (1 : Int32)
          )
        )
      )
    ) else (
      (0 : Int32)
    )
  )
def F_sx_needFor (mu : Nat → Nat → Int32) (vs : Int32) (vp : Int32) : Int32 :=
  if vp = (0 : Int32) then (
    (0 : Int32)
  ) else (
    LETV (mu 32 9 : Int32) fun y2 =>
    LETV (mu 32 10 : Int32) fun y3 =>
    LETV (y3 + vs : Int32) fun t4 =>
    LETV (t4 - 1 : Int32) fun t5 =>
    LETV (y2 * t5 : Int32) fun t6 =>
    LETV (vp + t6 : Int32) fun t7 =>
    (t7 : Int32)
  )
def F_sx_R_arrive (mu : Nat → Nat → Int32) (vs : Int32) (vu : Int32) (vp : Int32) : Nat → Nat → Int32 :=
  LETV (mu 32 11 : Int32) fun y1 =>
  LETV (y1 + 1 : Int32) fun t2 =>
  LETV (va_up mu 32 (upd (mu 32) 11 t2) : Nat → Nat → Int32) fun nu3 =>
  LETV (nu3 55 3 : Int32) fun y6 =>
  if y6 = (0 : Int32) then (
    LETV (F_sx_take55 nu3 (vs : Int32) (vp : Int32) : Nat → Nat → Int32) fun xi8 =>
    LETV (F_sx_needFor xi8 (vs : Int32) (vp : Int32) : Int32) fun r10 =>
    LETV (xi8 32 14 : Int32) fun y11 =>
    LETV (if r10 < y11 then r10 else y11 : Int32) fun t12 =>
    LETV (va_up xi8 32 (upd (xi8 32) 14 t12) : Nat → Nat → Int32) fun nu13 =>
    LETV (nu13 32 8 : Int32) fun y16 =>
    if r10 ≤ y16 then (
      LETV (nu13 32 12 : Int32) fun y18 =>
      LETV (y18 + 1 : Int32) fun t19 =>
      LETV (va_up nu13 32 (upd (nu13 32) 12 t19) : Nat → Nat → Int32) fun nu20 =>
      LETV (nu20 32 13 : Int32) fun y25 =>
      LETV (nu20 32 5 : Int32) fun y26 =>
      LETV (1 <<< (y26 &&& 31) : Int32) fun t27 =>
      LETV (t27 ^^^ (-1) : Int32) fun t28 =>
      LETV (vu &&& t28 : Int32) fun t29 =>
      LETV (y25 &&& t29 : Int32) fun t30 =>
      LETV (va_up nu20 32 (upd (nu20 32) 13 t30) : Nat → Nat → Int32) fun nu31 =>
      LETV (nu31 56 3 : Int32) fun y38 =>
      if y38 = (0 : Int32) then (
        LETV (F_sx_take56 nu31 (vs : Int32) (vp : Int32) : Nat → Nat → Int32) fun xi40 =>
        xi40
      ) else (
        LETV (nu31 56 1 : Int32) fun y42 =>
        if vs < y42 then (
          LETV (F_sx_take56 nu31 (vs : Int32) (vp : Int32) : Nat → Nat → Int32) fun xi44 =>
          xi44
        ) else (
          if vs = y42 then (
            LETV (nu31 56 2 : Int32) fun y47 =>
            if vp ≥ y47 then (
              nu31
            ) else (
              LETV (F_sx_take56 nu31 (vs : Int32) (vp : Int32) : Nat → Nat → Int32) fun xi49 =>
              xi49
            )
          ) else (
            nu31
          )
        )
      )
    ) else (
      nu13
    )
  ) else (
    LETV (nu3 55 2 : Int32) fun y51 =>
    if vp < y51 then (
      LETV (F_sx_take55 nu3 (vs : Int32) (vp : Int32) : Nat → Nat → Int32) fun xi53 =>
      LETV (F_sx_needFor xi53 (vs : Int32) (vp : Int32) : Int32) fun r55 =>
      LETV (xi53 32 14 : Int32) fun y56 =>
      LETV (if r55 < y56 then r55 else y56 : Int32) fun t57 =>
      LETV (va_up xi53 32 (upd (xi53 32) 14 t57) : Nat → Nat → Int32) fun nu58 =>
      LETV (nu58 32 8 : Int32) fun y61 =>
      if r55 ≤ y61 then (
        LETV (nu58 32 12 : Int32) fun y63 =>
        LETV (y63 + 1 : Int32) fun t64 =>
        LETV (va_up nu58 32 (upd (nu58 32) 12 t64) : Nat → Nat → Int32) fun nu65 =>
        LETV (nu65 32 13 : Int32) fun y70 =>
        LETV (nu65 32 5 : Int32) fun y71 =>
        LETV (1 <<< (y71 &&& 31) : Int32) fun t72 =>
        LETV (t72 ^^^ (-1) : Int32) fun t73 =>
        LETV (vu &&& t73 : Int32) fun t74 =>
        LETV (y70 &&& t74 : Int32) fun t75 =>
        LETV (va_up nu65 32 (upd (nu65 32) 13 t75) : Nat → Nat → Int32) fun nu76 =>
        LETV (nu76 56 3 : Int32) fun y83 =>
        if y83 = (0 : Int32) then (
          LETV (F_sx_take56 nu76 (vs : Int32) (vp : Int32) : Nat → Nat → Int32) fun xi85 =>
          xi85
        ) else (
          LETV (nu76 56 1 : Int32) fun y87 =>
          if vs < y87 then (
            LETV (F_sx_take56 nu76 (vs : Int32) (vp : Int32) : Nat → Nat → Int32) fun xi89 =>
            xi89
          ) else (
            if vs = y87 then (
              LETV (nu76 56 2 : Int32) fun y92 =>
              if vp ≥ y92 then (
                nu76
              ) else (
                LETV (F_sx_take56 nu76 (vs : Int32) (vp : Int32) : Nat → Nat → Int32) fun xi94 =>
                xi94
              )
            ) else (
              nu76
            )
          )
        )
      ) else (
        nu58
      )
    ) else (
      if vp = y51 then (
        LETV (nu3 55 1 : Int32) fun y147 =>
        if vs ≥ y147 then (
          LETV (F_sx_needFor nu3 (vs : Int32) (vp : Int32) : Int32) fun r149 =>
          LETV (nu3 32 14 : Int32) fun y150 =>
          LETV (if r149 < y150 then r149 else y150 : Int32) fun t151 =>
          LETV (va_up nu3 32 (upd (nu3 32) 14 t151) : Nat → Nat → Int32) fun nu152 =>
          LETV (nu152 32 8 : Int32) fun y159 =>
          if r149 ≤ y159 then (
            LETV (nu152 32 12 : Int32) fun y161 =>
            LETV (y161 + 1 : Int32) fun t162 =>
            LETV (va_up nu152 32 (upd (nu152 32) 12 t162) : Nat → Nat → Int32) fun nu163 =>
            LETV (nu163 32 13 : Int32) fun y172 =>
            LETV (nu163 32 5 : Int32) fun y173 =>
            LETV (1 <<< (y173 &&& 31) : Int32) fun t174 =>
            LETV (t174 ^^^ (-1) : Int32) fun t175 =>
            LETV (vu &&& t175 : Int32) fun t176 =>
            LETV (y172 &&& t176 : Int32) fun t177 =>
            LETV (va_up nu163 32 (upd (nu163 32) 13 t177) : Nat → Nat → Int32) fun nu178 =>
            LETV (nu178 56 3 : Int32) fun y189 =>
            if y189 = (0 : Int32) then (
              LETV (F_sx_take56 nu178 (vs : Int32) (vp : Int32) : Nat → Nat → Int32) fun xi191 =>
              xi191
            ) else (
              LETV (nu178 56 1 : Int32) fun y193 =>
              if vs < y193 then (
                LETV (F_sx_take56 nu178 (vs : Int32) (vp : Int32) : Nat → Nat → Int32) fun xi195 =>
                xi195
              ) else (
                if vs = y193 then (
                  LETV (nu178 56 2 : Int32) fun y198 =>
                  if vp ≥ y198 then (
                    nu178
                  ) else (
                    LETV (F_sx_take56 nu178 (vs : Int32) (vp : Int32) : Nat → Nat → Int32) fun xi200 =>
                    xi200
                  )
                ) else (
                  nu178
                )
              )
            )
          ) else (
            nu152
          )
        ) else (
          LETV (F_sx_take55 nu3 (vs : Int32) (vp : Int32) : Nat → Nat → Int32) fun xi202 =>
          LETV (F_sx_needFor xi202 (vs : Int32) (vp : Int32) : Int32) fun r204 =>
          LETV (xi202 32 14 : Int32) fun y205 =>
          LETV (if r204 < y205 then r204 else y205 : Int32) fun t206 =>
          LETV (va_up xi202 32 (upd (xi202 32) 14 t206) : Nat → Nat → Int32) fun nu207 =>
          LETV (nu207 32 8 : Int32) fun y210 =>
          if r204 ≤ y210 then (
            LETV (nu207 32 12 : Int32) fun y212 =>
            LETV (y212 + 1 : Int32) fun t213 =>
            LETV (va_up nu207 32 (upd (nu207 32) 12 t213) : Nat → Nat → Int32) fun nu214 =>
            LETV (nu214 32 13 : Int32) fun y219 =>
            LETV (nu214 32 5 : Int32) fun y220 =>
            LETV (1 <<< (y220 &&& 31) : Int32) fun t221 =>
            LETV (t221 ^^^ (-1) : Int32) fun t222 =>
            LETV (vu &&& t222 : Int32) fun t223 =>
            LETV (y219 &&& t223 : Int32) fun t224 =>
            LETV (va_up nu214 32 (upd (nu214 32) 13 t224) : Nat → Nat → Int32) fun nu225 =>
            LETV (nu225 56 3 : Int32) fun y232 =>
            if y232 = (0 : Int32) then (
              LETV (F_sx_take56 nu225 (vs : Int32) (vp : Int32) : Nat → Nat → Int32) fun xi234 =>
              xi234
            ) else (
              LETV (nu225 56 1 : Int32) fun y236 =>
              if vs < y236 then (
                LETV (F_sx_take56 nu225 (vs : Int32) (vp : Int32) : Nat → Nat → Int32) fun xi238 =>
                xi238
              ) else (
                if vs = y236 then (
                  LETV (nu225 56 2 : Int32) fun y241 =>
                  if vp ≥ y241 then (
                    nu225
                  ) else (
                    LETV (F_sx_take56 nu225 (vs : Int32) (vp : Int32) : Nat → Nat → Int32) fun xi243 =>
                    xi243
                  )
                ) else (
                  nu225
                )
              )
            )
          ) else (
            nu207
          )
        )
      ) else (
        LETV (F_sx_needFor nu3 (vs : Int32) (vp : Int32) : Int32) fun r97 =>
        LETV (nu3 32 14 : Int32) fun y98 =>
        LETV (if r97 < y98 then r97 else y98 : Int32) fun t99 =>
        LETV (va_up nu3 32 (upd (nu3 32) 14 t99) : Nat → Nat → Int32) fun nu100 =>
        LETV (nu100 32 8 : Int32) fun y106 =>
        if r97 ≤ y106 then (
          LETV (nu100 32 12 : Int32) fun y108 =>
          LETV (y108 + 1 : Int32) fun t109 =>
          LETV (va_up nu100 32 (upd (nu100 32) 12 t109) : Nat → Nat → Int32) fun nu110 =>
          LETV (nu110 32 13 : Int32) fun y118 =>
          LETV (nu110 32 5 : Int32) fun y119 =>
          LETV (1 <<< (y119 &&& 31) : Int32) fun t120 =>
          LETV (t120 ^^^ (-1) : Int32) fun t121 =>
          LETV (vu &&& t121 : Int32) fun t122 =>
          LETV (y118 &&& t122 : Int32) fun t123 =>
          LETV (va_up nu110 32 (upd (nu110 32) 13 t123) : Nat → Nat → Int32) fun nu124 =>
          LETV (nu124 56 3 : Int32) fun y134 =>
          if y134 = (0 : Int32) then (
            LETV (F_sx_take56 nu124 (vs : Int32) (vp : Int32) : Nat → Nat → Int32) fun xi136 =>
            xi136
          ) else (
            LETV (nu124 56 1 : Int32) fun y138 =>
            if vs < y138 then (
              LETV (F_sx_take56 nu124 (vs : Int32) (vp : Int32) : Nat → Nat → Int32) fun xi140 =>
              xi140
            ) else (
              if vs = y138 then (
                LETV (nu124 56 2 : Int32) fun y143 =>
                if vp ≥ y143 then (
                  nu124
                ) else (
                  LETV (F_sx_take56 nu124 (vs : Int32) (vp : Int32) : Nat → Nat → Int32) fun xi145 =>
                  xi145
                )
              ) else (
                nu124
              )
            )
          )
        ) else (
          nu100
        )
      )
    )
  )
def L_sx_walkOn6_30_0 : Nat → (Int32) → (Nat → Nat → Int32) → Nat → Nat → Int32
  | 0, v8_30, nu30_ => nu30_
  | n + 1, v8_30, nu30_ =>
    LETV (nu30_ 4 6 : Int32) fun y4 =>
    if v8_30 ≥ y4 then (
      nu30_
    ) else (
      nu30_
    )
def F_sx_walkOn6 (mu : Nat → Nat → Int32) (vu : Int32) (vp : Int32) : Nat → Nat → Int32 :=
  LETV (mu 54 (6 : Int32).toNatClampNeg : Int32) fun y1 =>
  LETV (mu 34 y1.toNatClampNeg : Int32) fun y2 =>
  LETV (F_sx_priceAsked (y2 : Int32) (vp : Int32) : Int32) fun r3 =>
  L_sx_walkOn6_30_0 10 (0 : Int32) mu
def L_sx_walkOn5_30_0 (r3 : Int32) (vu : Int32) (y1 : Int32) : Nat → (Int32) → (Nat → Nat → Int32) → Nat → Nat → Int32
  | 0, v8_30, nu30_ => nu30_
  | n + 1, v8_30, nu30_ =>
    LETV (nu30_ 4 6 : Int32) fun y4 =>
    if v8_30 ≥ y4 then (
      nu30_
    ) else (
      LETV (F_sx_buys nu30_ (y1 : Int32) (v8_30 : Int32) (vu : Int32) (r3 : Int32) : Int32) fun r6 =>
      if r6 = (0 : Int32) then (
        LETV ((v8_30 + 1) : Int32) fun w21 =>
        L_sx_walkOn5_30_0 r3 vu y1 n (w21 : Int32) nu30_
      ) else (
        LETV (va_up nu30_ 54 (upd (nu30_ 54) (6 : Int32).toNatClampNeg v8_30) : Nat → Nat → Int32) fun nu8 =>
        LETV (nu8 32 6 : Int32) fun y11 =>
        if v8_30 = y11 then (
          LETV (F_sx_R_arrive nu8 (6 : Int32) (vu : Int32) (r3 : Int32) : Nat → Nat → Int32) fun xi18 =>
          LETV ((v8_30 + 1) : Int32) fun w20 =>
          L_sx_walkOn5_30_0 r3 vu y1 n (w20 : Int32) xi18
        ) else (
          LETV (1 <<< (v8_30 &&& 31) : Int32) fun t13 =>
          LETV (vu ||| t13 : Int32) fun t14 =>
          LETV (F_sx_walkOn6 nu8 (t14 : Int32) (r3 : Int32) : Nat → Nat → Int32) fun xi15 =>
          LETV ((v8_30 + 1) : Int32) fun w17 =>
          L_sx_walkOn5_30_0 r3 vu y1 n (w17 : Int32) xi15
        )
      )
    )
def F_sx_walkOn5 (mu : Nat → Nat → Int32) (vu : Int32) (vp : Int32) : Nat → Nat → Int32 :=
  LETV (mu 54 (5 : Int32).toNatClampNeg : Int32) fun y1 =>
  LETV (mu 34 y1.toNatClampNeg : Int32) fun y2 =>
  LETV (F_sx_priceAsked (y2 : Int32) (vp : Int32) : Int32) fun r3 =>
  L_sx_walkOn5_30_0 r3 vu y1 10 (0 : Int32) mu
def L_sx_walkOn4_30_0 (r3 : Int32) (vu : Int32) (y1 : Int32) : Nat → (Int32) → (Nat → Nat → Int32) → Nat → Nat → Int32
  | 0, v8_30, nu30_ => nu30_
  | n + 1, v8_30, nu30_ =>
    LETV (nu30_ 4 6 : Int32) fun y4 =>
    if v8_30 ≥ y4 then (
      nu30_
    ) else (
      LETV (F_sx_buys nu30_ (y1 : Int32) (v8_30 : Int32) (vu : Int32) (r3 : Int32) : Int32) fun r6 =>
      if r6 = (0 : Int32) then (
        LETV ((v8_30 + 1) : Int32) fun w21 =>
        L_sx_walkOn4_30_0 r3 vu y1 n (w21 : Int32) nu30_
      ) else (
        LETV (va_up nu30_ 54 (upd (nu30_ 54) (5 : Int32).toNatClampNeg v8_30) : Nat → Nat → Int32) fun nu8 =>
        LETV (nu8 32 6 : Int32) fun y11 =>
        if v8_30 = y11 then (
          LETV (F_sx_R_arrive nu8 (5 : Int32) (vu : Int32) (r3 : Int32) : Nat → Nat → Int32) fun xi18 =>
          LETV ((v8_30 + 1) : Int32) fun w20 =>
          L_sx_walkOn4_30_0 r3 vu y1 n (w20 : Int32) xi18
        ) else (
          LETV (1 <<< (v8_30 &&& 31) : Int32) fun t13 =>
          LETV (vu ||| t13 : Int32) fun t14 =>
          LETV (F_sx_walkOn5 nu8 (t14 : Int32) (r3 : Int32) : Nat → Nat → Int32) fun xi15 =>
          LETV ((v8_30 + 1) : Int32) fun w17 =>
          L_sx_walkOn4_30_0 r3 vu y1 n (w17 : Int32) xi15
        )
      )
    )
def F_sx_walkOn4 (mu : Nat → Nat → Int32) (vu : Int32) (vp : Int32) : Nat → Nat → Int32 :=
  LETV (mu 54 (4 : Int32).toNatClampNeg : Int32) fun y1 =>
  LETV (mu 34 y1.toNatClampNeg : Int32) fun y2 =>
  LETV (F_sx_priceAsked (y2 : Int32) (vp : Int32) : Int32) fun r3 =>
  L_sx_walkOn4_30_0 r3 vu y1 10 (0 : Int32) mu
def L_sx_walkOn3_30_0 (r3 : Int32) (vu : Int32) (y1 : Int32) : Nat → (Int32) → (Nat → Nat → Int32) → Nat → Nat → Int32
  | 0, v8_30, nu30_ => nu30_
  | n + 1, v8_30, nu30_ =>
    LETV (nu30_ 4 6 : Int32) fun y4 =>
    if v8_30 ≥ y4 then (
      nu30_
    ) else (
      LETV (F_sx_buys nu30_ (y1 : Int32) (v8_30 : Int32) (vu : Int32) (r3 : Int32) : Int32) fun r6 =>
      if r6 = (0 : Int32) then (
        LETV ((v8_30 + 1) : Int32) fun w21 =>
        L_sx_walkOn3_30_0 r3 vu y1 n (w21 : Int32) nu30_
      ) else (
        LETV (va_up nu30_ 54 (upd (nu30_ 54) (4 : Int32).toNatClampNeg v8_30) : Nat → Nat → Int32) fun nu8 =>
        LETV (nu8 32 6 : Int32) fun y11 =>
        if v8_30 = y11 then (
          LETV (F_sx_R_arrive nu8 (4 : Int32) (vu : Int32) (r3 : Int32) : Nat → Nat → Int32) fun xi18 =>
          LETV ((v8_30 + 1) : Int32) fun w20 =>
          L_sx_walkOn3_30_0 r3 vu y1 n (w20 : Int32) xi18
        ) else (
          LETV (1 <<< (v8_30 &&& 31) : Int32) fun t13 =>
          LETV (vu ||| t13 : Int32) fun t14 =>
          LETV (F_sx_walkOn4 nu8 (t14 : Int32) (r3 : Int32) : Nat → Nat → Int32) fun xi15 =>
          LETV ((v8_30 + 1) : Int32) fun w17 =>
          L_sx_walkOn3_30_0 r3 vu y1 n (w17 : Int32) xi15
        )
      )
    )
def F_sx_walkOn3 (mu : Nat → Nat → Int32) (vu : Int32) (vp : Int32) : Nat → Nat → Int32 :=
  LETV (mu 54 (3 : Int32).toNatClampNeg : Int32) fun y1 =>
  LETV (mu 34 y1.toNatClampNeg : Int32) fun y2 =>
  LETV (F_sx_priceAsked (y2 : Int32) (vp : Int32) : Int32) fun r3 =>
  L_sx_walkOn3_30_0 r3 vu y1 10 (0 : Int32) mu
def L_sx_walkOn2_30_0 (r3 : Int32) (vu : Int32) (y1 : Int32) : Nat → (Int32) → (Nat → Nat → Int32) → Nat → Nat → Int32
  | 0, v8_30, nu30_ => nu30_
  | n + 1, v8_30, nu30_ =>
    LETV (nu30_ 4 6 : Int32) fun y4 =>
    if v8_30 ≥ y4 then (
      nu30_
    ) else (
      LETV (F_sx_buys nu30_ (y1 : Int32) (v8_30 : Int32) (vu : Int32) (r3 : Int32) : Int32) fun r6 =>
      if r6 = (0 : Int32) then (
        LETV ((v8_30 + 1) : Int32) fun w21 =>
        L_sx_walkOn2_30_0 r3 vu y1 n (w21 : Int32) nu30_
      ) else (
        LETV (va_up nu30_ 54 (upd (nu30_ 54) (3 : Int32).toNatClampNeg v8_30) : Nat → Nat → Int32) fun nu8 =>
        LETV (nu8 32 6 : Int32) fun y11 =>
        if v8_30 = y11 then (
          LETV (F_sx_R_arrive nu8 (3 : Int32) (vu : Int32) (r3 : Int32) : Nat → Nat → Int32) fun xi18 =>
          LETV ((v8_30 + 1) : Int32) fun w20 =>
          L_sx_walkOn2_30_0 r3 vu y1 n (w20 : Int32) xi18
        ) else (
          LETV (1 <<< (v8_30 &&& 31) : Int32) fun t13 =>
          LETV (vu ||| t13 : Int32) fun t14 =>
          LETV (F_sx_walkOn3 nu8 (t14 : Int32) (r3 : Int32) : Nat → Nat → Int32) fun xi15 =>
          LETV ((v8_30 + 1) : Int32) fun w17 =>
          L_sx_walkOn2_30_0 r3 vu y1 n (w17 : Int32) xi15
        )
      )
    )
def F_sx_walkOn2 (mu : Nat → Nat → Int32) (vu : Int32) (vp : Int32) : Nat → Nat → Int32 :=
  LETV (mu 54 (2 : Int32).toNatClampNeg : Int32) fun y1 =>
  LETV (mu 34 y1.toNatClampNeg : Int32) fun y2 =>
  LETV (F_sx_priceAsked (y2 : Int32) (vp : Int32) : Int32) fun r3 =>
  L_sx_walkOn2_30_0 r3 vu y1 10 (0 : Int32) mu
def L_sx_walkOn1_30_0 (r3 : Int32) (vu : Int32) (y1 : Int32) : Nat → (Int32) → (Nat → Nat → Int32) → Nat → Nat → Int32
  | 0, v8_30, nu30_ => nu30_
  | n + 1, v8_30, nu30_ =>
    LETV (nu30_ 4 6 : Int32) fun y4 =>
    if v8_30 ≥ y4 then (
      nu30_
    ) else (
      LETV (F_sx_buys nu30_ (y1 : Int32) (v8_30 : Int32) (vu : Int32) (r3 : Int32) : Int32) fun r6 =>
      if r6 = (0 : Int32) then (
        LETV ((v8_30 + 1) : Int32) fun w21 =>
        L_sx_walkOn1_30_0 r3 vu y1 n (w21 : Int32) nu30_
      ) else (
        LETV (va_up nu30_ 54 (upd (nu30_ 54) (2 : Int32).toNatClampNeg v8_30) : Nat → Nat → Int32) fun nu8 =>
        LETV (nu8 32 6 : Int32) fun y11 =>
        if v8_30 = y11 then (
          LETV (F_sx_R_arrive nu8 (2 : Int32) (vu : Int32) (r3 : Int32) : Nat → Nat → Int32) fun xi18 =>
          LETV ((v8_30 + 1) : Int32) fun w20 =>
          L_sx_walkOn1_30_0 r3 vu y1 n (w20 : Int32) xi18
        ) else (
          LETV (1 <<< (v8_30 &&& 31) : Int32) fun t13 =>
          LETV (vu ||| t13 : Int32) fun t14 =>
          LETV (F_sx_walkOn2 nu8 (t14 : Int32) (r3 : Int32) : Nat → Nat → Int32) fun xi15 =>
          LETV ((v8_30 + 1) : Int32) fun w17 =>
          L_sx_walkOn1_30_0 r3 vu y1 n (w17 : Int32) xi15
        )
      )
    )
def F_sx_walkOn1 (mu : Nat → Nat → Int32) (vu : Int32) (vp : Int32) : Nat → Nat → Int32 :=
  LETV (mu 54 (1 : Int32).toNatClampNeg : Int32) fun y1 =>
  LETV (mu 34 y1.toNatClampNeg : Int32) fun y2 =>
  LETV (F_sx_priceAsked (y2 : Int32) (vp : Int32) : Int32) fun r3 =>
  L_sx_walkOn1_30_0 r3 vu y1 10 (0 : Int32) mu
def L_sx_walkOn0_30_0 (r3 : Int32) (vu : Int32) (y1 : Int32) : Nat → (Int32) → (Nat → Nat → Int32) → Nat → Nat → Int32
  | 0, v8_30, nu30_ => nu30_
  | n + 1, v8_30, nu30_ =>
    LETV (nu30_ 4 6 : Int32) fun y4 =>
    if v8_30 ≥ y4 then (
      nu30_
    ) else (
      LETV (F_sx_buys nu30_ (y1 : Int32) (v8_30 : Int32) (vu : Int32) (r3 : Int32) : Int32) fun r6 =>
      if r6 = (0 : Int32) then (
        LETV ((v8_30 + 1) : Int32) fun w21 =>
        L_sx_walkOn0_30_0 r3 vu y1 n (w21 : Int32) nu30_
      ) else (
        LETV (va_up nu30_ 54 (upd (nu30_ 54) (1 : Int32).toNatClampNeg v8_30) : Nat → Nat → Int32) fun nu8 =>
        LETV (nu8 32 6 : Int32) fun y11 =>
        if v8_30 = y11 then (
          LETV (F_sx_R_arrive nu8 (1 : Int32) (vu : Int32) (r3 : Int32) : Nat → Nat → Int32) fun xi18 =>
          LETV ((v8_30 + 1) : Int32) fun w20 =>
          L_sx_walkOn0_30_0 r3 vu y1 n (w20 : Int32) xi18
        ) else (
          LETV (1 <<< (v8_30 &&& 31) : Int32) fun t13 =>
          LETV (vu ||| t13 : Int32) fun t14 =>
          LETV (F_sx_walkOn1 nu8 (t14 : Int32) (r3 : Int32) : Nat → Nat → Int32) fun xi15 =>
          LETV ((v8_30 + 1) : Int32) fun w17 =>
          L_sx_walkOn0_30_0 r3 vu y1 n (w17 : Int32) xi15
        )
      )
    )
def F_sx_walkOn0 (mu : Nat → Nat → Int32) (vu : Int32) (vp : Int32) : Nat → Nat → Int32 :=
  LETV (mu 54 (0 : Int32).toNatClampNeg : Int32) fun y1 =>
  LETV (mu 34 y1.toNatClampNeg : Int32) fun y2 =>
  LETV (F_sx_priceAsked (y2 : Int32) (vp : Int32) : Int32) fun r3 =>
  L_sx_walkOn0_30_0 r3 vu y1 10 (0 : Int32) mu
