theorem rX_5_4 {mu : Nat → Nat → Int32} (ok : okR loX hiX mu) : 0 ≤ (mu 5 4).toInt ∧ (mu 5 4).toInt ≤ 4 := ok 5 4
theorem rX_letter_9 {mu : Nat → Nat → Int32} (ok : okR loX hiX mu) (k : Nat) (h1 : 61 ≤ k) (h2 : k < 77) : 0 ≤ (mu k 9).toInt ∧ (mu k 9).toInt ≤ 1 := by
  have h := ok k 9
  unfold loX hiX at h
  rw [clX_letter k h1 h2] at h
  exact h
