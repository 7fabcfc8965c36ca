theorem cX_46_spurses (j : Nat) (h3 : 117 ≤ j) (h4 : j < 157) {a b : Nat} : ∀ f, loX j f ≤ loX 46 (a + (f - b)) ∧ hiX 46 (a + (f - b)) ≤ hiX j f := fun f => by
  unfold loX hiX; rw [clX_spurses j h3 h4]
  exact (show (-2147483648 : Int) ≤ -2147483648 ∧ (2147483647 : Int) ≤ 2147483647 by decide)
theorem hX_sale_1 (cs : Nat → ClassId) (ad : Nat → Nat) (g : Nat → Int32) (v : Int32) (k : Nat) (h1 : 77 ≤ k) (h2 : k < 117) : EX cs ad k (upd g 1 v) = .inr (7, [.ref (ad (k + 40)), .int v, .int (g 2), .int (g 3), .int (g 4), .int (g 5), .int (g 6)]) := by
  rw [EX_sale cs ad _ _ h1 h2]; rfl
theorem tX_sale_1 {mu : Nat → Nat → Int32} (ok : okR loX hiX mu) {nu : Nat → Nat → Int32} {v : Int32} (k : Nat) (h1 : 77 ≤ k) (h2 : k < 117) (hn : va_up mu k (upd (mu k) 1 v) = nu) (hv : 0 ≤ v.toInt ∧ v.toInt ≤ 3) : okR loX hiX nu := by
  subst hn
  exact okR_up ok k 1 v (by unfold loX; rw [clX_sale k h1 h2]; exact hv.1) (by unfold hiX; rw [clX_sale k h1 h2]; exact hv.2)
theorem hX_sale_2 (cs : Nat → ClassId) (ad : Nat → Nat) (g : Nat → Int32) (v : Int32) (k : Nat) (h1 : 77 ≤ k) (h2 : k < 117) : EX cs ad k (upd g 2 v) = .inr (7, [.ref (ad (k + 40)), .int (g 1), .int v, .int (g 3), .int (g 4), .int (g 5), .int (g 6)]) := by
  rw [EX_sale cs ad _ _ h1 h2]; rfl
theorem tX_sale_2 {mu : Nat → Nat → Int32} (ok : okR loX hiX mu) {nu : Nat → Nat → Int32} {v : Int32} (k : Nat) (h1 : 77 ≤ k) (h2 : k < 117) (hn : va_up mu k (upd (mu k) 2 v) = nu) (hv : 0 ≤ v.toInt ∧ v.toInt ≤ 6) : okR loX hiX nu := by
  subst hn
  exact okR_up ok k 2 v (by unfold loX; rw [clX_sale k h1 h2]; exact hv.1) (by unfold hiX; rw [clX_sale k h1 h2]; exact hv.2)
theorem hX_sale_3 (cs : Nat → ClassId) (ad : Nat → Nat) (g : Nat → Int32) (v : Int32) (k : Nat) (h1 : 77 ≤ k) (h2 : k < 117) : EX cs ad k (upd g 3 v) = .inr (7, [.ref (ad (k + 40)), .int (g 1), .int (g 2), .int v, .int (g 4), .int (g 5), .int (g 6)]) := by
  rw [EX_sale cs ad _ _ h1 h2]; rfl
theorem tX_sale_3 {mu : Nat → Nat → Int32} (ok : okR loX hiX mu) {nu : Nat → Nat → Int32} {v : Int32} (k : Nat) (h1 : 77 ≤ k) (h2 : k < 117) (hn : va_up mu k (upd (mu k) 3 v) = nu) : okR loX hiX nu := by
  subst hn
  exact okR_up ok k 3 v (by unfold loX; rw [clX_sale k h1 h2]; exact tI_lo v) (by unfold hiX; rw [clX_sale k h1 h2]; exact tI_hi v)
theorem hX_sale_4 (cs : Nat → ClassId) (ad : Nat → Nat) (g : Nat → Int32) (v : Int32) (k : Nat) (h1 : 77 ≤ k) (h2 : k < 117) : EX cs ad k (upd g 4 v) = .inr (7, [.ref (ad (k + 40)), .int (g 1), .int (g 2), .int (g 3), .int v, .int (g 5), .int (g 6)]) := by
  rw [EX_sale cs ad _ _ h1 h2]; rfl
theorem tX_sale_4 {mu : Nat → Nat → Int32} (ok : okR loX hiX mu) {nu : Nat → Nat → Int32} {v : Int32} (k : Nat) (h1 : 77 ≤ k) (h2 : k < 117) (hn : va_up mu k (upd (mu k) 4 v) = nu) : okR loX hiX nu := by
  subst hn
  exact okR_up ok k 4 v (by unfold loX; rw [clX_sale k h1 h2]; exact tI_lo v) (by unfold hiX; rw [clX_sale k h1 h2]; exact tI_hi v)
theorem hX_sale_5 (cs : Nat → ClassId) (ad : Nat → Nat) (g : Nat → Int32) (v : Int32) (k : Nat) (h1 : 77 ≤ k) (h2 : k < 117) : EX cs ad k (upd g 5 v) = .inr (7, [.ref (ad (k + 40)), .int (g 1), .int (g 2), .int (g 3), .int (g 4), .int v, .int (g 6)]) := by
  rw [EX_sale cs ad _ _ h1 h2]; rfl
theorem tX_sale_5 {mu : Nat → Nat → Int32} (ok : okR loX hiX mu) {nu : Nat → Nat → Int32} {v : Int32} (k : Nat) (h1 : 77 ≤ k) (h2 : k < 117) (hn : va_up mu k (upd (mu k) 5 v) = nu) : okR loX hiX nu := by
  subst hn
  exact okR_up ok k 5 v (by unfold loX; rw [clX_sale k h1 h2]; exact tI_lo v) (by unfold hiX; rw [clX_sale k h1 h2]; exact tI_hi v)
theorem hX_sale_6 (cs : Nat → ClassId) (ad : Nat → Nat) (g : Nat → Int32) (v : Int32) (k : Nat) (h1 : 77 ≤ k) (h2 : k < 117) : EX cs ad k (upd g 6 v) = .inr (7, [.ref (ad (k + 40)), .int (g 1), .int (g 2), .int (g 3), .int (g 4), .int (g 5), .int v]) := by
  rw [EX_sale cs ad _ _ h1 h2]; rfl
theorem tX_sale_6 {mu : Nat → Nat → Int32} (ok : okR loX hiX mu) {nu : Nat → Nat → Int32} {v : Int32} (k : Nat) (h1 : 77 ≤ k) (h2 : k < 117) (hn : va_up mu k (upd (mu k) 6 v) = nu) : okR loX hiX nu := by
  subst hn
  exact okR_up ok k 6 v (by unfold loX; rw [clX_sale k h1 h2]; exact tI_lo v) (by unfold hiX; rw [clX_sale k h1 h2]; exact tI_hi v)
