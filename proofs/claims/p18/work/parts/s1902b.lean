theorem cX_37_38 {a b : Nat} : ∀ f, loX 38 f ≤ loX 37 (a + (f - b)) ∧ hiX 37 (a + (f - b)) ≤ hiX 38 f := fun f => by
  unfold loX hiX
  exact (show (-2147483648 : Int) ≤ -2147483648 ∧ (2147483647 : Int) ≤ 2147483647 by decide)
