theorem rX_sale_1 {mu : Nat → Nat → Int32} (ok : okR loX hiX mu) (k : Nat) (h1 : 77 ≤ k) (h2 : k < 117) : 0 ≤ (mu k 1).toInt ∧ (mu k 1).toInt ≤ 3 := by
  have h := ok k 1
  unfold loX hiX at h
  rw [clX_sale k h1 h2] at h
  exact h
theorem cX_spurses_46 (k : Nat) (h1 : 117 ≤ k) (h2 : k < 157) {a b : Nat} : ∀ f, loX 46 f ≤ loX k (a + (f - b)) ∧ hiX k (a + (f - b)) ≤ hiX 46 f := fun f => by
  unfold loX hiX; rw [clX_spurses k h1 h2]
  exact (show (-2147483648 : Int) ≤ -2147483648 ∧ (2147483647 : Int) ≤ 2147483647 by decide)
