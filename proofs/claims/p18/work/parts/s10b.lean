theorem rX_4_6 {mu : Nat → Nat → Int32} (ok : okR loX hiX mu) : 0 ≤ (mu 4 6).toInt ∧ (mu 4 6).toInt ≤ 7 := ok 4 6
theorem hX_0_9 (cs : Nat → ClassId) (ad : Nat → Nat) (g : Nat → Int32) (v : Int32) : EX cs ad 0 (upd g 9 v) = .inr (11, [.ref (ad 1), .ref (ad 2), .ref (ad 3), .ref (ad 4), .ref (ad 31), .ref (ad 6), .ref (ad 32), .ref (ad 33), .ref (ad 7), .int v, .int (g 10)]) := by
  rfl
theorem tX_0_9 {mu : Nat → Nat → Int32} (ok : okR loX hiX mu) {nu : Nat → Nat → Int32} {v : Int32} (hn : va_up mu 0 (upd (mu 0) 9 v) = nu) : okR loX hiX nu := by
  subst hn
  exact okR_up ok 0 9 v (tI_lo v) (tI_hi v)
theorem tX_7_s {mu : Nat → Nat → Int32} (ok : okR loX hiX mu) {nu : Nat → Nat → Int32} {v : Int32} (f : Nat) (hn : va_up mu 7 (upd (mu 7) f v) = nu) : okR loX hiX nu := by
  subst hn
  exact okR_up ok 7 f v (tI_lo v) (tI_hi v)
theorem rX_4_7 {mu : Nat → Nat → Int32} (ok : okR loX hiX mu) : 0 ≤ (mu 4 7).toInt ∧ (mu 4 7).toInt ≤ 12 := ok 4 7
theorem rX_35_s {mu : Nat → Nat → Int32} (ok : okR loX hiX mu) (f : Nat) : 0 ≤ (mu 35 f).toInt ∧ (mu 35 f).toInt ≤ 6 := ok 35 f
theorem rX_36_s {mu : Nat → Nat → Int32} (ok : okR loX hiX mu) (f : Nat) : 0 ≤ (mu 36 f).toInt ∧ (mu 36 f).toInt ≤ 6 := ok 36 f
theorem rX_row_1 {mu : Nat → Nat → Int32} (ok : okR loX hiX mu) (k : Nat) (h1 : 8 ≤ k) (h2 : k < 14) : -1 ≤ (mu k 1).toInt ∧ (mu k 1).toInt ≤ 40 := by
  have h := ok k 1
  unfold loX hiX at h
  rw [clX_row k h1 h2] at h
  exact h
theorem rX_text_1 {mu : Nat → Nat → Int32} (ok : okR loX hiX mu) (k : Nat) (h1 : 14 ≤ k) (h2 : k < 18) : -1 ≤ (mu k 1).toInt ∧ (mu k 1).toInt ≤ 80 := by
  have h := ok k 1
  unfold loX hiX at h
  rw [clX_text k h1 h2] at h
  exact h
