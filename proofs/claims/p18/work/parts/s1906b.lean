theorem cX_40_46 {a b : Nat} : ∀ f, loX 46 f ≤ loX 40 (a + (f - b)) ∧ hiX 40 (a + (f - b)) ≤ hiX 46 f := fun f => by
  unfold loX hiX
  exact (show (-2147483648 : Int) ≤ -2147483648 ∧ (2147483647 : Int) ≤ 2147483647 by decide)
theorem rX_18_4 {mu : Nat → Nat → Int32} (ok : okR loX hiX mu) : 0 ≤ (mu 18 4).toInt ∧ (mu 18 4).toInt ≤ 4 := ok 18 4
theorem cX_41_46 {a b : Nat} : ∀ f, loX 46 f ≤ loX 41 (a + (f - b)) ∧ hiX 41 (a + (f - b)) ≤ hiX 46 f := fun f => by
  unfold loX hiX
  exact (show (-2147483648 : Int) ≤ -2147483648 ∧ (2147483647 : Int) ≤ 2147483647 by decide)
theorem rX_19_4 {mu : Nat → Nat → Int32} (ok : okR loX hiX mu) : 0 ≤ (mu 19 4).toInt ∧ (mu 19 4).toInt ≤ 4 := ok 19 4
theorem cX_42_46 {a b : Nat} : ∀ f, loX 46 f ≤ loX 42 (a + (f - b)) ∧ hiX 42 (a + (f - b)) ≤ hiX 46 f := fun f => by
  unfold loX hiX
  exact (show (-2147483648 : Int) ≤ -2147483648 ∧ (2147483647 : Int) ≤ 2147483647 by decide)
theorem rX_20_4 {mu : Nat → Nat → Int32} (ok : okR loX hiX mu) : 0 ≤ (mu 20 4).toInt ∧ (mu 20 4).toInt ≤ 4 := ok 20 4
theorem cX_46_40 {a b : Nat} : ∀ f, loX 40 f ≤ loX 46 (a + (f - b)) ∧ hiX 46 (a + (f - b)) ≤ hiX 40 f := fun f => by
  unfold loX hiX
  exact (show (-2147483648 : Int) ≤ -2147483648 ∧ (2147483647 : Int) ≤ 2147483647 by decide)
theorem hX_18_2 (cs : Nat → ClassId) (ad : Nat → Nat) (g : Nat → Int32) (v : Int32) : EX cs ad 18 (upd g 2 v) = .inr (8, [.ref (ad 40), .ref (ad 43), .int v, .int (g 3), .int (g 4), .int (g 5)]) := by
  rfl
theorem tX_18_2 {mu : Nat → Nat → Int32} (ok : okR loX hiX mu) {nu : Nat → Nat → Int32} {v : Int32} (hn : va_up mu 18 (upd (mu 18) 2 v) = nu) : okR loX hiX nu := by
  subst hn
  exact okR_up ok 18 2 v (tI_lo v) (tI_hi v)
theorem hX_18_3 (cs : Nat → ClassId) (ad : Nat → Nat) (g : Nat → Int32) (v : Int32) : EX cs ad 18 (upd g 3 v) = .inr (8, [.ref (ad 40), .ref (ad 43), .int (g 2), .int v, .int (g 4), .int (g 5)]) := by
  rfl
theorem tX_18_3 {mu : Nat → Nat → Int32} (ok : okR loX hiX mu) {nu : Nat → Nat → Int32} {v : Int32} (hn : va_up mu 18 (upd (mu 18) 3 v) = nu) : okR loX hiX nu := by
  subst hn
  exact okR_up ok 18 3 v (tI_lo v) (tI_hi v)
theorem hX_18_4 (cs : Nat → ClassId) (ad : Nat → Nat) (g : Nat → Int32) (v : Int32) : EX cs ad 18 (upd g 4 v) = .inr (8, [.ref (ad 40), .ref (ad 43), .int (g 2), .int (g 3), .int v, .int (g 5)]) := by
  rfl
theorem tX_18_4 {mu : Nat → Nat → Int32} (ok : okR loX hiX mu) {nu : Nat → Nat → Int32} {v : Int32} (hn : va_up mu 18 (upd (mu 18) 4 v) = nu) (hv : 0 ≤ v.toInt ∧ v.toInt ≤ 4) : okR loX hiX nu := by
  subst hn
  exact okR_up ok 18 4 v hv.1 hv.2
theorem cX_46_41 {a b : Nat} : ∀ f, loX 41 f ≤ loX 46 (a + (f - b)) ∧ hiX 46 (a + (f - b)) ≤ hiX 41 f := fun f => by
  unfold loX hiX
  exact (show (-2147483648 : Int) ≤ -2147483648 ∧ (2147483647 : Int) ≤ 2147483647 by decide)
theorem hX_19_2 (cs : Nat → ClassId) (ad : Nat → Nat) (g : Nat → Int32) (v : Int32) : EX cs ad 19 (upd g 2 v) = .inr (8, [.ref (ad 41), .ref (ad 44), .int v, .int (g 3), .int (g 4), .int (g 5)]) := by
  rfl
theorem tX_19_2 {mu : Nat → Nat → Int32} (ok : okR loX hiX mu) {nu : Nat → Nat → Int32} {v : Int32} (hn : va_up mu 19 (upd (mu 19) 2 v) = nu) : okR loX hiX nu := by
  subst hn
  exact okR_up ok 19 2 v (tI_lo v) (tI_hi v)
theorem hX_19_3 (cs : Nat → ClassId) (ad : Nat → Nat) (g : Nat → Int32) (v : Int32) : EX cs ad 19 (upd g 3 v) = .inr (8, [.ref (ad 41), .ref (ad 44), .int (g 2), .int v, .int (g 4), .int (g 5)]) := by
  rfl
theorem tX_19_3 {mu : Nat → Nat → Int32} (ok : okR loX hiX mu) {nu : Nat → Nat → Int32} {v : Int32} (hn : va_up mu 19 (upd (mu 19) 3 v) = nu) : okR loX hiX nu := by
  subst hn
  exact okR_up ok 19 3 v (tI_lo v) (tI_hi v)
theorem hX_19_4 (cs : Nat → ClassId) (ad : Nat → Nat) (g : Nat → Int32) (v : Int32) : EX cs ad 19 (upd g 4 v) = .inr (8, [.ref (ad 41), .ref (ad 44), .int (g 2), .int (g 3), .int v, .int (g 5)]) := by
  rfl
theorem tX_19_4 {mu : Nat → Nat → Int32} (ok : okR loX hiX mu) {nu : Nat → Nat → Int32} {v : Int32} (hn : va_up mu 19 (upd (mu 19) 4 v) = nu) (hv : 0 ≤ v.toInt ∧ v.toInt ≤ 4) : okR loX hiX nu := by
  subst hn
  exact okR_up ok 19 4 v hv.1 hv.2
theorem cX_46_42 {a b : Nat} : ∀ f, loX 42 f ≤ loX 46 (a + (f - b)) ∧ hiX 46 (a + (f - b)) ≤ hiX 42 f := fun f => by
  unfold loX hiX
  exact (show (-2147483648 : Int) ≤ -2147483648 ∧ (2147483647 : Int) ≤ 2147483647 by decide)
theorem hX_20_2 (cs : Nat → ClassId) (ad : Nat → Nat) (g : Nat → Int32) (v : Int32) : EX cs ad 20 (upd g 2 v) = .inr (8, [.ref (ad 42), .ref (ad 45), .int v, .int (g 3), .int (g 4), .int (g 5)]) := by
  rfl
theorem tX_20_2 {mu : Nat → Nat → Int32} (ok : okR loX hiX mu) {nu : Nat → Nat → Int32} {v : Int32} (hn : va_up mu 20 (upd (mu 20) 2 v) = nu) : okR loX hiX nu := by
  subst hn
  exact okR_up ok 20 2 v (tI_lo v) (tI_hi v)
theorem hX_20_3 (cs : Nat → ClassId) (ad : Nat → Nat) (g : Nat → Int32) (v : Int32) : EX cs ad 20 (upd g 3 v) = .inr (8, [.ref (ad 42), .ref (ad 45), .int (g 2), .int v, .int (g 4), .int (g 5)]) := by
  rfl
theorem tX_20_3 {mu : Nat → Nat → Int32} (ok : okR loX hiX mu) {nu : Nat → Nat → Int32} {v : Int32} (hn : va_up mu 20 (upd (mu 20) 3 v) = nu) : okR loX hiX nu := by
  subst hn
  exact okR_up ok 20 3 v (tI_lo v) (tI_hi v)
theorem hX_20_4 (cs : Nat → ClassId) (ad : Nat → Nat) (g : Nat → Int32) (v : Int32) : EX cs ad 20 (upd g 4 v) = .inr (8, [.ref (ad 42), .ref (ad 45), .int (g 2), .int (g 3), .int v, .int (g 5)]) := by
  rfl
theorem tX_20_4 {mu : Nat → Nat → Int32} (ok : okR loX hiX mu) {nu : Nat → Nat → Int32} {v : Int32} (hn : va_up mu 20 (upd (mu 20) 4 v) = nu) (hv : 0 ≤ v.toInt ∧ v.toInt ≤ 4) : okR loX hiX nu := by
  subst hn
  exact okR_up ok 20 4 v hv.1 hv.2
