theorem hX_18_5 (cs : Nat → ClassId) (ad : Nat → Nat) (g : Nat → Int32) (v : Int32) : EX cs ad 18 (upd g 5 v) = .inr (8, [.ref (ad 40), .ref (ad 43), .int (g 2), .int (g 3), .int (g 4), .int v]) := by
  rfl
theorem tX_18_5 {mu : Nat → Nat → Int32} (ok : okR loX hiX mu) {nu : Nat → Nat → Int32} {v : Int32} (hn : va_up mu 18 (upd (mu 18) 5 v) = nu) (hv : 0 ≤ v.toInt ∧ v.toInt ≤ 1) : okR loX hiX nu := by
  subst hn
  exact okR_up ok 18 5 v hv.1 hv.2
theorem hX_19_5 (cs : Nat → ClassId) (ad : Nat → Nat) (g : Nat → Int32) (v : Int32) : EX cs ad 19 (upd g 5 v) = .inr (8, [.ref (ad 41), .ref (ad 44), .int (g 2), .int (g 3), .int (g 4), .int v]) := by
  rfl
theorem tX_19_5 {mu : Nat → Nat → Int32} (ok : okR loX hiX mu) {nu : Nat → Nat → Int32} {v : Int32} (hn : va_up mu 19 (upd (mu 19) 5 v) = nu) (hv : 0 ≤ v.toInt ∧ v.toInt ≤ 1) : okR loX hiX nu := by
  subst hn
  exact okR_up ok 19 5 v hv.1 hv.2
theorem hX_20_5 (cs : Nat → ClassId) (ad : Nat → Nat) (g : Nat → Int32) (v : Int32) : EX cs ad 20 (upd g 5 v) = .inr (8, [.ref (ad 42), .ref (ad 45), .int (g 2), .int (g 3), .int (g 4), .int v]) := by
  rfl
theorem tX_20_5 {mu : Nat → Nat → Int32} (ok : okR loX hiX mu) {nu : Nat → Nat → Int32} {v : Int32} (hn : va_up mu 20 (upd (mu 20) 5 v) = nu) (hv : 0 ≤ v.toInt ∧ v.toInt ≤ 1) : okR loX hiX nu := by
  subst hn
  exact okR_up ok 20 5 v hv.1 hv.2
theorem rX_18_5 {mu : Nat → Nat → Int32} (ok : okR loX hiX mu) : 0 ≤ (mu 18 5).toInt ∧ (mu 18 5).toInt ≤ 1 := ok 18 5
theorem rX_19_5 {mu : Nat → Nat → Int32} (ok : okR loX hiX mu) : 0 ≤ (mu 19 5).toInt ∧ (mu 19 5).toInt ≤ 1 := ok 19 5
theorem rX_20_5 {mu : Nat → Nat → Int32} (ok : okR loX hiX mu) : 0 ≤ (mu 20 5).toInt ∧ (mu 20 5).toInt ≤ 1 := ok 20 5
