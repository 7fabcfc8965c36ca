theorem hX_33_2 (cs : Nat → ClassId) (ad : Nat → Nat) (g : Nat → Int32) (v : Int32) : EX cs ad 33 (upd g 2 v) = .inr (1, [.ref (ad 59), .ref (ad 60), .int v, .int (g 3), .int (g 4)]) := by
  rfl
theorem tX_33_2 {mu : Nat → Nat → Int32} (ok : okR loX hiX mu) {nu : Nat → Nat → Int32} {v : Int32} (hn : va_up mu 33 (upd (mu 33) 2 v) = nu) : okR loX hiX nu := by
  subst hn
  exact okR_up ok 33 2 v (tI_lo v) (tI_hi v)
theorem hX_33_3 (cs : Nat → ClassId) (ad : Nat → Nat) (g : Nat → Int32) (v : Int32) : EX cs ad 33 (upd g 3 v) = .inr (1, [.ref (ad 59), .ref (ad 60), .int (g 2), .int v, .int (g 4)]) := by
  rfl
theorem tX_33_3 {mu : Nat → Nat → Int32} (ok : okR loX hiX mu) {nu : Nat → Nat → Int32} {v : Int32} (hn : va_up mu 33 (upd (mu 33) 3 v) = nu) : okR loX hiX nu := by
  subst hn
  exact okR_up ok 33 3 v (tI_lo v) (tI_hi v)
theorem hX_33_4 (cs : Nat → ClassId) (ad : Nat → Nat) (g : Nat → Int32) (v : Int32) : EX cs ad 33 (upd g 4 v) = .inr (1, [.ref (ad 59), .ref (ad 60), .int (g 2), .int (g 3), .int v]) := by
  rfl
theorem tX_33_4 {mu : Nat → Nat → Int32} (ok : okR loX hiX mu) {nu : Nat → Nat → Int32} {v : Int32} (hn : va_up mu 33 (upd (mu 33) 4 v) = nu) : okR loX hiX nu := by
  subst hn
  exact okR_up ok 33 4 v (tI_lo v) (tI_hi v)
theorem cX_59_60 {a b : Nat} : ∀ f, loX 60 f ≤ loX 59 (a + (f - b)) ∧ hiX 59 (a + (f - b)) ≤ hiX 60 f := fun f => by
  unfold loX hiX
  exact (show (-2147483648 : Int) ≤ 0 ∧ (6 : Int) ≤ 2147483647 by decide)
theorem rX_59_s {mu : Nat → Nat → Int32} (ok : okR loX hiX mu) (f : Nat) : 0 ≤ (mu 59 f).toInt ∧ (mu 59 f).toInt ≤ 6 := ok 59 f
theorem tX_59_s {mu : Nat → Nat → Int32} (ok : okR loX hiX mu) {nu : Nat → Nat → Int32} {v : Int32} (f : Nat) (hn : va_up mu 59 (upd (mu 59) f v) = nu) (hv : 0 ≤ v.toInt ∧ v.toInt ≤ 6) : okR loX hiX nu := by
  subst hn
  exact okR_up ok 59 f v hv.1 hv.2
