theorem rM_0_38 {mu : Nat → Nat → Int32} (ok : okR loM hiM mu) : 0 ≤ (mu 0 38).toInt ∧ (mu 0 38).toInt ≤ 1 := ok 0 38
theorem tM_16_s {mu : Nat → Nat → Int32} (ok : okR loM hiM mu) {nu : Nat → Nat → Int32} {v : Int32} (f : Nat) (hn : va_up mu 16 (upd (mu 16) f v) = nu) (hv : 0 ≤ v.toInt ∧ v.toInt ≤ 6) : okR loM hiM nu := by
  subst hn
  exact okR_up ok 16 f v hv.1 hv.2
