theorem hM_0_39 (cs : Nat → ClassId) (ad : Nat → Nat) (g : Nat → Int32) (v : Int32) : EM cs ad 0 (upd g 39 v) = .inr (12, [.int (g 0), .ref (ad 1), .int (g 2), .ref (ad 2), .ref (ad 3), .ref (ad 4), .ref (ad 5), .ref (ad 6), .int (g 8), .ref (ad 7), .ref (ad 8), .int (g 11), .ref (ad 9), .int (g 13), .int (g 14), .int (g 15), .ref (ad 10), .int (g 17), .int (g 18), .int (g 19), .int (g 20), .ref (ad 11), .ref (ad 12), .ref (ad 13), .ref (ad 14), .ref (ad 15), .ref (ad 16), .ref (ad 17), .ref (ad 18), .int (g 29), .int (g 30), .int (g 31), .int (g 32), .int (g 33), .int (g 34), .int (g 35), .int (g 36), .int (g 37), .int (g 38), .int v, .ref (ad 19), .ref (ad 20), .int (g 42), .int (g 43), .int (g 44), .long (jn (g 45) (g 46))]) := by
  rfl
theorem tM_0_39 {mu : Nat → Nat → Int32} (ok : okR loM hiM mu) {nu : Nat → Nat → Int32} {v : Int32} (hn : va_up mu 0 (upd (mu 0) 39 v) = nu) (hv : -9 ≤ v.toInt ∧ v.toInt ≤ 3) : okR loM hiM nu := by
  subst hn
  exact okR_up ok 0 39 v hv.1 hv.2
theorem hM_0_29 (cs : Nat → ClassId) (ad : Nat → Nat) (g : Nat → Int32) (v : Int32) : EM cs ad 0 (upd g 29 v) = .inr (12, [.int (g 0), .ref (ad 1), .int (g 2), .ref (ad 2), .ref (ad 3), .ref (ad 4), .ref (ad 5), .ref (ad 6), .int (g 8), .ref (ad 7), .ref (ad 8), .int (g 11), .ref (ad 9), .int (g 13), .int (g 14), .int (g 15), .ref (ad 10), .int (g 17), .int (g 18), .int (g 19), .int (g 20), .ref (ad 11), .ref (ad 12), .ref (ad 13), .ref (ad 14), .ref (ad 15), .ref (ad 16), .ref (ad 17), .ref (ad 18), .int v, .int (g 30), .int (g 31), .int (g 32), .int (g 33), .int (g 34), .int (g 35), .int (g 36), .int (g 37), .int (g 38), .int (g 39), .ref (ad 19), .ref (ad 20), .int (g 42), .int (g 43), .int (g 44), .long (jn (g 45) (g 46))]) := by
  rfl
theorem tM_0_29 {mu : Nat → Nat → Int32} (ok : okR loM hiM mu) {nu : Nat → Nat → Int32} {v : Int32} (hn : va_up mu 0 (upd (mu 0) 29 v) = nu) : okR loM hiM nu := by
  subst hn
  exact okR_up ok 0 29 v (tI_lo v) (tI_hi v)
theorem hM_0_38 (cs : Nat → ClassId) (ad : Nat → Nat) (g : Nat → Int32) (v : Int32) : EM cs ad 0 (upd g 38 v) = .inr (12, [.int (g 0), .ref (ad 1), .int (g 2), .ref (ad 2), .ref (ad 3), .ref (ad 4), .ref (ad 5), .ref (ad 6), .int (g 8), .ref (ad 7), .ref (ad 8), .int (g 11), .ref (ad 9), .int (g 13), .int (g 14), .int (g 15), .ref (ad 10), .int (g 17), .int (g 18), .int (g 19), .int (g 20), .ref (ad 11), .ref (ad 12), .ref (ad 13), .ref (ad 14), .ref (ad 15), .ref (ad 16), .ref (ad 17), .ref (ad 18), .int (g 29), .int (g 30), .int (g 31), .int (g 32), .int (g 33), .int (g 34), .int (g 35), .int (g 36), .int (g 37), .int v, .int (g 39), .ref (ad 19), .ref (ad 20), .int (g 42), .int (g 43), .int (g 44), .long (jn (g 45) (g 46))]) := by
  rfl
theorem tM_0_38 {mu : Nat → Nat → Int32} (ok : okR loM hiM mu) {nu : Nat → Nat → Int32} {v : Int32} (hn : va_up mu 0 (upd (mu 0) 38 v) = nu) (hv : 0 ≤ v.toInt ∧ v.toInt ≤ 1) : okR loM hiM nu := by
  subst hn
  exact okR_up ok 0 38 v hv.1 hv.2
