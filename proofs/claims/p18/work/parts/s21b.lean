theorem cX_54_57 {a b : Nat} : ∀ f, loX 57 f ≤ loX 54 (a + (f - b)) ∧ hiX 54 (a + (f - b)) ≤ hiX 57 f := fun f => by
  unfold loX hiX
  exact (show (-2147483648 : Int) ≤ 0 ∧ (6 : Int) ≤ 2147483647 by decide)
theorem hX_55_1 (cs : Nat → ClassId) (ad : Nat → Nat) (g : Nat → Int32) (v : Int32) : EX cs ad 55 (upd g 1 v) = .inr (0, [.ref (ad 57), .int v, .int (g 2), .int (g 3)]) := by
  rfl
theorem tX_55_1 {mu : Nat → Nat → Int32} (ok : okR loX hiX mu) {nu : Nat → Nat → Int32} {v : Int32} (hn : va_up mu 55 (upd (mu 55) 1 v) = nu) (hv : 0 ≤ v.toInt ∧ v.toInt ≤ 6) : okR loX hiX nu := by
  subst hn
  exact okR_up ok 55 1 v hv.1 hv.2
theorem hX_55_2 (cs : Nat → ClassId) (ad : Nat → Nat) (g : Nat → Int32) (v : Int32) : EX cs ad 55 (upd g 2 v) = .inr (0, [.ref (ad 57), .int (g 1), .int v, .int (g 3)]) := by
  rfl
theorem tX_55_2 {mu : Nat → Nat → Int32} (ok : okR loX hiX mu) {nu : Nat → Nat → Int32} {v : Int32} (hn : va_up mu 55 (upd (mu 55) 2 v) = nu) : okR loX hiX nu := by
  subst hn
  exact okR_up ok 55 2 v (tI_lo v) (tI_hi v)
theorem hX_55_3 (cs : Nat → ClassId) (ad : Nat → Nat) (g : Nat → Int32) (v : Int32) : EX cs ad 55 (upd g 3 v) = .inr (0, [.ref (ad 57), .int (g 1), .int (g 2), .int v]) := by
  rfl
theorem tX_55_3 {mu : Nat → Nat → Int32} (ok : okR loX hiX mu) {nu : Nat → Nat → Int32} {v : Int32} (hn : va_up mu 55 (upd (mu 55) 3 v) = nu) (hv : 0 ≤ v.toInt ∧ v.toInt ≤ 1) : okR loX hiX nu := by
  subst hn
  exact okR_up ok 55 3 v hv.1 hv.2
theorem cX_54_58 {a b : Nat} : ∀ f, loX 58 f ≤ loX 54 (a + (f - b)) ∧ hiX 54 (a + (f - b)) ≤ hiX 58 f := fun f => by
  unfold loX hiX
  exact (show (-2147483648 : Int) ≤ 0 ∧ (6 : Int) ≤ 2147483647 by decide)
theorem hX_56_1 (cs : Nat → ClassId) (ad : Nat → Nat) (g : Nat → Int32) (v : Int32) : EX cs ad 56 (upd g 1 v) = .inr (0, [.ref (ad 58), .int v, .int (g 2), .int (g 3)]) := by
  rfl
theorem tX_56_1 {mu : Nat → Nat → Int32} (ok : okR loX hiX mu) {nu : Nat → Nat → Int32} {v : Int32} (hn : va_up mu 56 (upd (mu 56) 1 v) = nu) (hv : 0 ≤ v.toInt ∧ v.toInt ≤ 6) : okR loX hiX nu := by
  subst hn
  exact okR_up ok 56 1 v hv.1 hv.2
theorem hX_56_2 (cs : Nat → ClassId) (ad : Nat → Nat) (g : Nat → Int32) (v : Int32) : EX cs ad 56 (upd g 2 v) = .inr (0, [.ref (ad 58), .int (g 1), .int v, .int (g 3)]) := by
  rfl
theorem tX_56_2 {mu : Nat → Nat → Int32} (ok : okR loX hiX mu) {nu : Nat → Nat → Int32} {v : Int32} (hn : va_up mu 56 (upd (mu 56) 2 v) = nu) : okR loX hiX nu := by
  subst hn
  exact okR_up ok 56 2 v (tI_lo v) (tI_hi v)
theorem hX_56_3 (cs : Nat → ClassId) (ad : Nat → Nat) (g : Nat → Int32) (v : Int32) : EX cs ad 56 (upd g 3 v) = .inr (0, [.ref (ad 58), .int (g 1), .int (g 2), .int v]) := by
  rfl
theorem tX_56_3 {mu : Nat → Nat → Int32} (ok : okR loX hiX mu) {nu : Nat → Nat → Int32} {v : Int32} (hn : va_up mu 56 (upd (mu 56) 3 v) = nu) (hv : 0 ≤ v.toInt ∧ v.toInt ≤ 1) : okR loX hiX nu := by
  subst hn
  exact okR_up ok 56 3 v hv.1 hv.2
theorem tX_52_s {mu : Nat → Nat → Int32} (ok : okR loX hiX mu) {nu : Nat → Nat → Int32} {v : Int32} (f : Nat) (hn : va_up mu 52 (upd (mu 52) f v) = nu) : okR loX hiX nu := by
  subst hn
  exact okR_up ok 52 f v (tI_lo v) (tI_hi v)
theorem hX_32_5 (cs : Nat → ClassId) (ad : Nat → Nat) (g : Nat → Int32) (v : Int32) : EX cs ad 32 (upd g 5 v) = .inr (5, [.ref (ad 52), .ref (ad 53), .ref (ad 54), .ref (ad 55), .ref (ad 56), .int v, .int (g 6), .int (g 7), .int (g 8), .int (g 9), .int (g 10), .int (g 11), .int (g 12), .int (g 13), .int (g 14)]) := by
  rfl
theorem tX_32_5 {mu : Nat → Nat → Int32} (ok : okR loX hiX mu) {nu : Nat → Nat → Int32} {v : Int32} (hn : va_up mu 32 (upd (mu 32) 5 v) = nu) (hv : 0 ≤ v.toInt ∧ v.toInt ≤ 6) : okR loX hiX nu := by
  subst hn
  exact okR_up ok 32 5 v hv.1 hv.2
theorem hX_32_6 (cs : Nat → ClassId) (ad : Nat → Nat) (g : Nat → Int32) (v : Int32) : EX cs ad 32 (upd g 6 v) = .inr (5, [.ref (ad 52), .ref (ad 53), .ref (ad 54), .ref (ad 55), .ref (ad 56), .int (g 5), .int v, .int (g 7), .int (g 8), .int (g 9), .int (g 10), .int (g 11), .int (g 12), .int (g 13), .int (g 14)]) := by
  rfl
theorem tX_32_6 {mu : Nat → Nat → Int32} (ok : okR loX hiX mu) {nu : Nat → Nat → Int32} {v : Int32} (hn : va_up mu 32 (upd (mu 32) 6 v) = nu) (hv : 0 ≤ v.toInt ∧ v.toInt ≤ 6) : okR loX hiX nu := by
  subst hn
  exact okR_up ok 32 6 v hv.1 hv.2
theorem hX_32_7 (cs : Nat → ClassId) (ad : Nat → Nat) (g : Nat → Int32) (v : Int32) : EX cs ad 32 (upd g 7 v) = .inr (5, [.ref (ad 52), .ref (ad 53), .ref (ad 54), .ref (ad 55), .ref (ad 56), .int (g 5), .int (g 6), .int v, .int (g 8), .int (g 9), .int (g 10), .int (g 11), .int (g 12), .int (g 13), .int (g 14)]) := by
  rfl
theorem tX_32_7 {mu : Nat → Nat → Int32} (ok : okR loX hiX mu) {nu : Nat → Nat → Int32} {v : Int32} (hn : va_up mu 32 (upd (mu 32) 7 v) = nu) : okR loX hiX nu := by
  subst hn
  exact okR_up ok 32 7 v (tI_lo v) (tI_hi v)
theorem cX_46_53 {a b : Nat} : ∀ f, loX 53 f ≤ loX 46 (a + (f - b)) ∧ hiX 46 (a + (f - b)) ≤ hiX 53 f := fun f => by
  unfold loX hiX
  exact (show (-2147483648 : Int) ≤ -2147483648 ∧ (2147483647 : Int) ≤ 2147483647 by decide)
theorem hX_32_8 (cs : Nat → ClassId) (ad : Nat → Nat) (g : Nat → Int32) (v : Int32) : EX cs ad 32 (upd g 8 v) = .inr (5, [.ref (ad 52), .ref (ad 53), .ref (ad 54), .ref (ad 55), .ref (ad 56), .int (g 5), .int (g 6), .int (g 7), .int v, .int (g 9), .int (g 10), .int (g 11), .int (g 12), .int (g 13), .int (g 14)]) := by
  rfl
theorem tX_32_8 {mu : Nat → Nat → Int32} (ok : okR loX hiX mu) {nu : Nat → Nat → Int32} {v : Int32} (hn : va_up mu 32 (upd (mu 32) 8 v) = nu) : okR loX hiX nu := by
  subst hn
  exact okR_up ok 32 8 v (tI_lo v) (tI_hi v)
theorem hX_32_9 (cs : Nat → ClassId) (ad : Nat → Nat) (g : Nat → Int32) (v : Int32) : EX cs ad 32 (upd g 9 v) = .inr (5, [.ref (ad 52), .ref (ad 53), .ref (ad 54), .ref (ad 55), .ref (ad 56), .int (g 5), .int (g 6), .int (g 7), .int (g 8), .int v, .int (g 10), .int (g 11), .int (g 12), .int (g 13), .int (g 14)]) := by
  rfl
theorem tX_32_9 {mu : Nat → Nat → Int32} (ok : okR loX hiX mu) {nu : Nat → Nat → Int32} {v : Int32} (hn : va_up mu 32 (upd (mu 32) 9 v) = nu) : okR loX hiX nu := by
  subst hn
  exact okR_up ok 32 9 v (tI_lo v) (tI_hi v)
theorem hX_32_10 (cs : Nat → ClassId) (ad : Nat → Nat) (g : Nat → Int32) (v : Int32) : EX cs ad 32 (upd g 10 v) = .inr (5, [.ref (ad 52), .ref (ad 53), .ref (ad 54), .ref (ad 55), .ref (ad 56), .int (g 5), .int (g 6), .int (g 7), .int (g 8), .int (g 9), .int v, .int (g 11), .int (g 12), .int (g 13), .int (g 14)]) := by
  rfl
theorem tX_32_10 {mu : Nat → Nat → Int32} (ok : okR loX hiX mu) {nu : Nat → Nat → Int32} {v : Int32} (hn : va_up mu 32 (upd (mu 32) 10 v) = nu) : okR loX hiX nu := by
  subst hn
  exact okR_up ok 32 10 v (tI_lo v) (tI_hi v)
theorem rX_32_6 {mu : Nat → Nat → Int32} (ok : okR loX hiX mu) : 0 ≤ (mu 32 6).toInt ∧ (mu 32 6).toInt ≤ 6 := ok 32 6
theorem hX_32_11 (cs : Nat → ClassId) (ad : Nat → Nat) (g : Nat → Int32) (v : Int32) : EX cs ad 32 (upd g 11 v) = .inr (5, [.ref (ad 52), .ref (ad 53), .ref (ad 54), .ref (ad 55), .ref (ad 56), .int (g 5), .int (g 6), .int (g 7), .int (g 8), .int (g 9), .int (g 10), .int v, .int (g 12), .int (g 13), .int (g 14)]) := by
  rfl
theorem tX_32_11 {mu : Nat → Nat → Int32} (ok : okR loX hiX mu) {nu : Nat → Nat → Int32} {v : Int32} (hn : va_up mu 32 (upd (mu 32) 11 v) = nu) : okR loX hiX nu := by
  subst hn
  exact okR_up ok 32 11 v (tI_lo v) (tI_hi v)
theorem rX_55_3 {mu : Nat → Nat → Int32} (ok : okR loX hiX mu) : 0 ≤ (mu 55 3).toInt ∧ (mu 55 3).toInt ≤ 1 := ok 55 3
theorem hX_32_14 (cs : Nat → ClassId) (ad : Nat → Nat) (g : Nat → Int32) (v : Int32) : EX cs ad 32 (upd g 14 v) = .inr (5, [.ref (ad 52), .ref (ad 53), .ref (ad 54), .ref (ad 55), .ref (ad 56), .int (g 5), .int (g 6), .int (g 7), .int (g 8), .int (g 9), .int (g 10), .int (g 11), .int (g 12), .int (g 13), .int v]) := by
  rfl
theorem tX_32_14 {mu : Nat → Nat → Int32} (ok : okR loX hiX mu) {nu : Nat → Nat → Int32} {v : Int32} (hn : va_up mu 32 (upd (mu 32) 14 v) = nu) : okR loX hiX nu := by
  subst hn
  exact okR_up ok 32 14 v (tI_lo v) (tI_hi v)
theorem hX_32_12 (cs : Nat → ClassId) (ad : Nat → Nat) (g : Nat → Int32) (v : Int32) : EX cs ad 32 (upd g 12 v) = .inr (5, [.ref (ad 52), .ref (ad 53), .ref (ad 54), .ref (ad 55), .ref (ad 56), .int (g 5), .int (g 6), .int (g 7), .int (g 8), .int (g 9), .int (g 10), .int (g 11), .int v, .int (g 13), .int (g 14)]) := by
  rfl
theorem tX_32_12 {mu : Nat → Nat → Int32} (ok : okR loX hiX mu) {nu : Nat → Nat → Int32} {v : Int32} (hn : va_up mu 32 (upd (mu 32) 12 v) = nu) : okR loX hiX nu := by
  subst hn
  exact okR_up ok 32 12 v (tI_lo v) (tI_hi v)
theorem rX_32_5 {mu : Nat → Nat → Int32} (ok : okR loX hiX mu) : 0 ≤ (mu 32 5).toInt ∧ (mu 32 5).toInt ≤ 6 := ok 32 5
theorem hX_32_13 (cs : Nat → ClassId) (ad : Nat → Nat) (g : Nat → Int32) (v : Int32) : EX cs ad 32 (upd g 13 v) = .inr (5, [.ref (ad 52), .ref (ad 53), .ref (ad 54), .ref (ad 55), .ref (ad 56), .int (g 5), .int (g 6), .int (g 7), .int (g 8), .int (g 9), .int (g 10), .int (g 11), .int (g 12), .int v, .int (g 14)]) := by
  rfl
theorem tX_32_13 {mu : Nat → Nat → Int32} (ok : okR loX hiX mu) {nu : Nat → Nat → Int32} {v : Int32} (hn : va_up mu 32 (upd (mu 32) 13 v) = nu) : okR loX hiX nu := by
  subst hn
  exact okR_up ok 32 13 v (tI_lo v) (tI_hi v)
theorem rX_56_3 {mu : Nat → Nat → Int32} (ok : okR loX hiX mu) : 0 ≤ (mu 56 3).toInt ∧ (mu 56 3).toInt ≤ 1 := ok 56 3
theorem rX_56_1 {mu : Nat → Nat → Int32} (ok : okR loX hiX mu) : 0 ≤ (mu 56 1).toInt ∧ (mu 56 1).toInt ≤ 6 := ok 56 1
theorem rX_55_1 {mu : Nat → Nat → Int32} (ok : okR loX hiX mu) : 0 ≤ (mu 55 1).toInt ∧ (mu 55 1).toInt ≤ 6 := ok 55 1
theorem rX_54_s {mu : Nat → Nat → Int32} (ok : okR loX hiX mu) (f : Nat) : 0 ≤ (mu 54 f).toInt ∧ (mu 54 f).toInt ≤ 6 := ok 54 f
theorem tX_54_s {mu : Nat → Nat → Int32} (ok : okR loX hiX mu) {nu : Nat → Nat → Int32} {v : Int32} (f : Nat) (hn : va_up mu 54 (upd (mu 54) f v) = nu) (hv : 0 ≤ v.toInt ∧ v.toInt ≤ 6) : okR loX hiX nu := by
  subst hn
  exact okR_up ok 54 f v hv.1 hv.2
