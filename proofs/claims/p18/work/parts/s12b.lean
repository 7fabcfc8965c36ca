theorem hX_0_10 (cs : Nat → ClassId) (ad : Nat → Nat) (g : Nat → Int32) (v : Int32) : EX cs ad 0 (upd g 10 v) = .inr (11, [.ref (ad 1), .ref (ad 2), .ref (ad 3), .ref (ad 4), .ref (ad 31), .ref (ad 6), .ref (ad 32), .ref (ad 33), .ref (ad 7), .int (g 9), .int v]) := by
  rfl
theorem tX_0_10 {mu : Nat → Nat → Int32} (ok : okR loX hiX mu) {nu : Nat → Nat → Int32} {v : Int32} (hn : va_up mu 0 (upd (mu 0) 10 v) = nu) : okR loX hiX nu := by
  subst hn
  exact okR_up ok 0 10 v (tI_lo v) (tI_hi v)
theorem tX_places_s {mu : Nat → Nat → Int32} (ok : okR loX hiX mu) {nu : Nat → Nat → Int32} {v : Int32} (k : Nat) (h1 : 21 ≤ k) (h2 : k < 27) (f : Nat) (hn : va_up mu k (upd (mu k) f v) = nu) : okR loX hiX nu := by
  subst hn
  exact okR_up ok k f v (by unfold loX; rw [clX_places k h1 h2]; exact tI_lo v) (by unfold hiX; rw [clX_places k h1 h2]; exact tI_hi v)
theorem hX_row_1 (cs : Nat → ClassId) (ad : Nat → Nat) (g : Nat → Int32) (v : Int32) (k : Nat) (h1 : 8 ≤ k) (h2 : k < 14) : EX cs ad k (upd g 1 v) = .inr (6, [.ref (ad (k + 13)), .int v]) := by
  rw [EX_row cs ad _ _ h1 h2]; rfl
theorem tX_row_1 {mu : Nat → Nat → Int32} (ok : okR loX hiX mu) {nu : Nat → Nat → Int32} {v : Int32} (k : Nat) (h1 : 8 ≤ k) (h2 : k < 14) (hn : va_up mu k (upd (mu k) 1 v) = nu) (hv : -1 ≤ v.toInt ∧ v.toInt ≤ 40) : okR loX hiX nu := by
  subst hn
  exact okR_up ok k 1 v (by unfold loX; rw [clX_row k h1 h2]; exact hv.1) (by unfold hiX; rw [clX_row k h1 h2]; exact hv.2)
theorem rX_bytes_s {mu : Nat → Nat → Int32} (ok : okR loX hiX mu) (k : Nat) (h1 : 27 ≤ k) (h2 : k < 31) (f : Nat) : -128 ≤ (mu k f).toInt ∧ (mu k f).toInt ≤ 127 := by
  have h := ok k f
  unfold loX hiX at h
  rw [clX_bytes k h1 h2] at h
  exact h
theorem tX_bytes_s {mu : Nat → Nat → Int32} (ok : okR loX hiX mu) {nu : Nat → Nat → Int32} {v : Int32} (k : Nat) (h1 : 27 ≤ k) (h2 : k < 31) (f : Nat) (hn : va_up mu k (upd (mu k) f v) = nu) (hv : -128 ≤ v.toInt ∧ v.toInt ≤ 127) : okR loX hiX nu := by
  subst hn
  exact okR_up ok k f v (by unfold loX; rw [clX_bytes k h1 h2]; exact hv.1) (by unfold hiX; rw [clX_bytes k h1 h2]; exact hv.2)
theorem tX_46_s {mu : Nat → Nat → Int32} (ok : okR loX hiX mu) {nu : Nat → Nat → Int32} {v : Int32} (f : Nat) (hn : va_up mu 46 (upd (mu 46) f v) = nu) : okR loX hiX nu := by
  subst hn
  exact okR_up ok 46 f v (tI_lo v) (tI_hi v)
theorem hX_5_3 (cs : Nat → ClassId) (ad : Nat → Nat) (g : Nat → Int32) (v : Int32) : EX cs ad 5 (upd g 3 v) = .inr (8, [.ref (ad 46), .ref (ad 47), .int (g 2), .int v, .int (g 4), .int (g 5)]) := by
  rfl
theorem tX_5_3 {mu : Nat → Nat → Int32} (ok : okR loX hiX mu) {nu : Nat → Nat → Int32} {v : Int32} (hn : va_up mu 5 (upd (mu 5) 3 v) = nu) : okR loX hiX nu := by
  subst hn
  exact okR_up ok 5 3 v (tI_lo v) (tI_hi v)
theorem rX_letter_5 {mu : Nat → Nat → Int32} (ok : okR loX hiX mu) (k : Nat) (h1 : 61 ≤ k) (h2 : k < 77) : 0 ≤ (mu k 5).toInt ∧ (mu k 5).toInt ≤ 6 := by
  have h := ok k 5
  unfold loX hiX at h
  rw [clX_letter k h1 h2] at h
  exact h
theorem hX_5_2 (cs : Nat → ClassId) (ad : Nat → Nat) (g : Nat → Int32) (v : Int32) : EX cs ad 5 (upd g 2 v) = .inr (8, [.ref (ad 46), .ref (ad 47), .int v, .int (g 3), .int (g 4), .int (g 5)]) := by
  rfl
theorem tX_5_2 {mu : Nat → Nat → Int32} (ok : okR loX hiX mu) {nu : Nat → Nat → Int32} {v : Int32} (hn : va_up mu 5 (upd (mu 5) 2 v) = nu) : okR loX hiX nu := by
  subst hn
  exact okR_up ok 5 2 v (tI_lo v) (tI_hi v)
