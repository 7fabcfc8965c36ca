theorem tX_37_s {mu : Nat → Nat → Int32} (ok : okR loX hiX mu) {nu : Nat → Nat → Int32} {v : Int32} (f : Nat) (hn : va_up mu 37 (upd (mu 37) f v) = nu) : okR loX hiX nu := by
  subst hn
  exact okR_up ok 37 f v (tI_lo v) (tI_hi v)
theorem hX_text_1 (cs : Nat → ClassId) (ad : Nat → Nat) (g : Nat → Int32) (v : Int32) (k : Nat) (h1 : 14 ≤ k) (h2 : k < 18) : EX cs ad k (upd g 1 v) = .inr (9, [.ref (ad (k + 13)), .int v]) := by
  rw [EX_text cs ad _ _ h1 h2]; rfl
theorem tX_text_1 {mu : Nat → Nat → Int32} (ok : okR loX hiX mu) {nu : Nat → Nat → Int32} {v : Int32} (k : Nat) (h1 : 14 ≤ k) (h2 : k < 18) (hn : va_up mu k (upd (mu k) 1 v) = nu) (hv : -1 ≤ v.toInt ∧ v.toInt ≤ 80) : okR loX hiX nu := by
  subst hn
  exact okR_up ok k 1 v (by unfold loX; rw [clX_text k h1 h2]; exact hv.1) (by unfold hiX; rw [clX_text k h1 h2]; exact hv.2)
theorem cX_57_places (j : Nat) (h3 : 21 ≤ j) (h4 : j < 27) {a b : Nat} : ∀ f, loX j f ≤ loX 57 (a + (f - b)) ∧ hiX 57 (a + (f - b)) ≤ hiX j f := fun f => by
  unfold loX hiX; rw [clX_places j h3 h4]
  exact (show (-2147483648 : Int) ≤ -2147483648 ∧ (2147483647 : Int) ≤ 2147483647 by decide)
theorem cX_58_places (j : Nat) (h3 : 21 ≤ j) (h4 : j < 27) {a b : Nat} : ∀ f, loX j f ≤ loX 58 (a + (f - b)) ∧ hiX 58 (a + (f - b)) ≤ hiX j f := fun f => by
  unfold loX hiX; rw [clX_places j h3 h4]
  exact (show (-2147483648 : Int) ≤ -2147483648 ∧ (2147483647 : Int) ≤ 2147483647 by decide)
theorem cX_60_places (j : Nat) (h3 : 21 ≤ j) (h4 : j < 27) {a b : Nat} : ∀ f, loX j f ≤ loX 60 (a + (f - b)) ∧ hiX 60 (a + (f - b)) ≤ hiX j f := fun f => by
  unfold loX hiX; rw [clX_places j h3 h4]
  exact (show (-2147483648 : Int) ≤ -2147483648 ∧ (2147483647 : Int) ≤ 2147483647 by decide)
theorem cX_places_places (k : Nat) (h1 : 21 ≤ k) (h2 : k < 27) (j : Nat) (h3 : 21 ≤ j) (h4 : j < 27) {a b : Nat} : ∀ f, loX j f ≤ loX k (a + (f - b)) ∧ hiX k (a + (f - b)) ≤ hiX j f := fun f => by
  unfold loX hiX; rw [clX_places k h1 h2]; rw [clX_places j h3 h4]
  exact (show (-2147483648 : Int) ≤ -2147483648 ∧ (2147483647 : Int) ≤ 2147483647 by decide)
