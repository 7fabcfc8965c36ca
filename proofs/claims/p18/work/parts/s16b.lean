theorem rX_31_5 {mu : Nat → Nat → Int32} (ok : okR loX hiX mu) : 0 ≤ (mu 31 5).toInt ∧ (mu 31 5).toInt ≤ 12 := ok 31 5
theorem rX_31_4 {mu : Nat → Nat → Int32} (ok : okR loX hiX mu) : 0 ≤ (mu 31 4).toInt ∧ (mu 31 4).toInt ≤ 7 := ok 31 4
theorem tX_48_s {mu : Nat → Nat → Int32} (ok : okR loX hiX mu) {nu : Nat → Nat → Int32} {v : Int32} (f : Nat) (hn : va_up mu 48 (upd (mu 48) f v) = nu) : okR loX hiX nu := by
  subst hn
  exact okR_up ok 48 f v (tI_lo v) (tI_hi v)
theorem tX_49_s {mu : Nat → Nat → Int32} (ok : okR loX hiX mu) {nu : Nat → Nat → Int32} {v : Int32} (f : Nat) (hn : va_up mu 49 (upd (mu 49) f v) = nu) : okR loX hiX nu := by
  subst hn
  exact okR_up ok 49 f v (tI_lo v) (tI_hi v)
theorem hX_31_4 (cs : Nat → ClassId) (ad : Nat → Nat) (g : Nat → Int32) (v : Int32) : EX cs ad 31 (upd g 4 v) = .inr (4, [.ref (ad 48), .ref (ad 49), .ref (ad 50), .ref (ad 51), .int v, .int (g 5)]) := by
  rfl
theorem tX_31_4 {mu : Nat → Nat → Int32} (ok : okR loX hiX mu) {nu : Nat → Nat → Int32} {v : Int32} (hn : va_up mu 31 (upd (mu 31) 4 v) = nu) (hv : 0 ≤ v.toInt ∧ v.toInt ≤ 7) : okR loX hiX nu := by
  subst hn
  exact okR_up ok 31 4 v hv.1 hv.2
theorem tX_50_s {mu : Nat → Nat → Int32} (ok : okR loX hiX mu) {nu : Nat → Nat → Int32} {v : Int32} (f : Nat) (hn : va_up mu 50 (upd (mu 50) f v) = nu) (hv : 0 ≤ v.toInt ∧ v.toInt ≤ 6) : okR loX hiX nu := by
  subst hn
  exact okR_up ok 50 f v hv.1 hv.2
theorem tX_51_s {mu : Nat → Nat → Int32} (ok : okR loX hiX mu) {nu : Nat → Nat → Int32} {v : Int32} (f : Nat) (hn : va_up mu 51 (upd (mu 51) f v) = nu) (hv : 0 ≤ v.toInt ∧ v.toInt ≤ 6) : okR loX hiX nu := by
  subst hn
  exact okR_up ok 51 f v hv.1 hv.2
theorem hX_31_5 (cs : Nat → ClassId) (ad : Nat → Nat) (g : Nat → Int32) (v : Int32) : EX cs ad 31 (upd g 5 v) = .inr (4, [.ref (ad 48), .ref (ad 49), .ref (ad 50), .ref (ad 51), .int (g 4), .int v]) := by
  rfl
theorem tX_31_5 {mu : Nat → Nat → Int32} (ok : okR loX hiX mu) {nu : Nat → Nat → Int32} {v : Int32} (hn : va_up mu 31 (upd (mu 31) 5 v) = nu) (hv : 0 ≤ v.toInt ∧ v.toInt ≤ 12) : okR loX hiX nu := by
  subst hn
  exact okR_up ok 31 5 v hv.1 hv.2
