theorem rX_letter_1 {mu : Nat → Nat → Int32} (ok : okR loX hiX mu) (k : Nat) (h1 : 61 ≤ k) (h2 : k < 77) : 0 ≤ (mu k 1).toInt ∧ (mu k 1).toInt ≤ 6 := by
  have h := ok k 1
  unfold loX hiX at h
  rw [clX_letter k h1 h2] at h
  exact h
theorem rX_kept_5 {mu : Nat → Nat → Int32} (ok : okR loX hiX mu) (k : Nat) (h1 : 18 ≤ k) (h2 : k < 21) : 0 ≤ (mu k 5).toInt ∧ (mu k 5).toInt ≤ 1 := by
  have h := ok k 5
  unfold loX hiX at h
  rw [clX_kept k h1 h2] at h
  exact h
theorem rX_6_1 {mu : Nat → Nat → Int32} (ok : okR loX hiX mu) : 0 ≤ (mu 6 1).toInt ∧ (mu 6 1).toInt ≤ 40 := ok 6 1
theorem rX_sale_2 {mu : Nat → Nat → Int32} (ok : okR loX hiX mu) (k : Nat) (h1 : 77 ≤ k) (h2 : k < 117) : 0 ≤ (mu k 2).toInt ∧ (mu k 2).toInt ≤ 6 := by
  have h := ok k 2
  unfold loX hiX at h
  rw [clX_sale k h1 h2] at h
  exact h
