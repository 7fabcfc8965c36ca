theorem hX_6_1 (cs : Nat → ClassId) (ad : Nat → Nat) (g : Nat → Int32) (v : Int32) : EX cs ad 6 (upd g 1 v) = .inr (2, [.ref (ad 39), .int v]) := by
  rfl
theorem tX_6_1 {mu : Nat → Nat → Int32} (ok : okR loX hiX mu) {nu : Nat → Nat → Int32} {v : Int32} (hn : va_up mu 6 (upd (mu 6) 1 v) = nu) (hv : 0 ≤ v.toInt ∧ v.toInt ≤ 40) : okR loX hiX nu := by
  subst hn
  exact okR_up ok 6 1 v hv.1 hv.2
theorem hX_kept_5 (cs : Nat → ClassId) (ad : Nat → Nat) (g : Nat → Int32) (v : Int32) (k : Nat) (h1 : 18 ≤ k) (h2 : k < 21) : EX cs ad k (upd g 5 v) = .inr (8, [.ref (ad (k + 22)), .ref (ad (k + 25)), .int (g 2), .int (g 3), .int (g 4), .int v]) := by
  rw [EX_kept cs ad _ _ h1 h2]; rfl
theorem tX_kept_5 {mu : Nat → Nat → Int32} (ok : okR loX hiX mu) {nu : Nat → Nat → Int32} {v : Int32} (k : Nat) (h1 : 18 ≤ k) (h2 : k < 21) (hn : va_up mu k (upd (mu k) 5 v) = nu) (hv : 0 ≤ v.toInt ∧ v.toInt ≤ 1) : okR loX hiX nu := by
  subst hn
  exact okR_up ok k 5 v (by unfold loX; rw [clX_kept k h1 h2]; exact hv.1) (by unfold hiX; rw [clX_kept k h1 h2]; exact hv.2)
