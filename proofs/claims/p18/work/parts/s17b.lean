theorem cX_48_34 {a b : Nat} : ∀ f, loX 34 f ≤ loX 48 (a + (f - b)) ∧ hiX 48 (a + (f - b)) ≤ hiX 34 f := fun f => by
  unfold loX hiX
  exact (show (-2147483648 : Int) ≤ -2147483648 ∧ (2147483647 : Int) ≤ 2147483647 by decide)
theorem cX_50_35 {a b : Nat} : ∀ f, loX 35 f ≤ loX 50 (a + (f - b)) ∧ hiX 50 (a + (f - b)) ≤ hiX 35 f := fun f => by
  unfold loX hiX
  exact (show (0 : Int) ≤ 0 ∧ (6 : Int) ≤ 6 by decide)
theorem cX_51_36 {a b : Nat} : ∀ f, loX 36 f ≤ loX 51 (a + (f - b)) ∧ hiX 51 (a + (f - b)) ≤ hiX 36 f := fun f => by
  unfold loX hiX
  exact (show (0 : Int) ≤ 0 ∧ (6 : Int) ≤ 6 by decide)
theorem cX_49_46 {a b : Nat} : ∀ f, loX 46 f ≤ loX 49 (a + (f - b)) ∧ hiX 49 (a + (f - b)) ≤ hiX 46 f := fun f => by
  unfold loX hiX
  exact (show (-2147483648 : Int) ≤ -2147483648 ∧ (2147483647 : Int) ≤ 2147483647 by decide)
theorem hX_4_6 (cs : Nat → ClassId) (ad : Nat → Nat) (g : Nat → Int32) (v : Int32) : EX cs ad 4 (upd g 6 v) = .inr (10, [.ref (ad 34), .ref (ad 35), .ref (ad 36), .ref (ad 5), .ref (ad 37), .ref (ad 38), .int v, .int (g 7)]) := by
  rfl
theorem tX_4_6 {mu : Nat → Nat → Int32} (ok : okR loX hiX mu) {nu : Nat → Nat → Int32} {v : Int32} (hn : va_up mu 4 (upd (mu 4) 6 v) = nu) (hv : 0 ≤ v.toInt ∧ v.toInt ≤ 7) : okR loX hiX nu := by
  subst hn
  exact okR_up ok 4 6 v hv.1 hv.2
theorem hX_4_7 (cs : Nat → ClassId) (ad : Nat → Nat) (g : Nat → Int32) (v : Int32) : EX cs ad 4 (upd g 7 v) = .inr (10, [.ref (ad 34), .ref (ad 35), .ref (ad 36), .ref (ad 5), .ref (ad 37), .ref (ad 38), .int (g 6), .int v]) := by
  rfl
theorem tX_4_7 {mu : Nat → Nat → Int32} (ok : okR loX hiX mu) {nu : Nat → Nat → Int32} {v : Int32} (hn : va_up mu 4 (upd (mu 4) 7 v) = nu) (hv : 0 ≤ v.toInt ∧ v.toInt ≤ 12) : okR loX hiX nu := by
  subst hn
  exact okR_up ok 4 7 v hv.1 hv.2
theorem hX_5_4 (cs : Nat → ClassId) (ad : Nat → Nat) (g : Nat → Int32) (v : Int32) : EX cs ad 5 (upd g 4 v) = .inr (8, [.ref (ad 46), .ref (ad 47), .int (g 2), .int (g 3), .int v, .int (g 5)]) := by
  rfl
theorem tX_5_4 {mu : Nat → Nat → Int32} (ok : okR loX hiX mu) {nu : Nat → Nat → Int32} {v : Int32} (hn : va_up mu 5 (upd (mu 5) 4 v) = nu) (hv : 0 ≤ v.toInt ∧ v.toInt ≤ 4) : okR loX hiX nu := by
  subst hn
  exact okR_up ok 5 4 v hv.1 hv.2
