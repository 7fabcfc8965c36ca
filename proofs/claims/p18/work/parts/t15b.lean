theorem rM_0_17 {mu : Nat → Nat → Int32} (ok : okR loM hiM mu) : 0 ≤ (mu 0 17).toInt ∧ (mu 0 17).toInt ≤ 40 := ok 0 17
theorem tM_14_s {mu : Nat → Nat → Int32} (ok : okR loM hiM mu) {nu : Nat → Nat → Int32} {v : Int32} (f : Nat) (hn : va_up mu 14 (upd (mu 14) f v) = nu) (hv : (f % 12 = 0 → 0 ≤ v.toInt ∧ v.toInt ≤ 3) ∧ (f % 12 = 1 → 0 ≤ v.toInt ∧ v.toInt ≤ 6)) : okR loM hiM nu := by
  subst hn
  exact okR_up ok 14 f v (by
    show (if f % 12 = 0 then 0 else if f % 12 = 1 then 0 else -2147483648) ≤ v.toInt
    have h8 := tI_lo v
    (repeat' split) <;> omega) (by
    show v.toInt ≤ (if f % 12 = 0 then 3 else if f % 12 = 1 then 6 else 2147483647)
    have h8 := tI_hi v
    (repeat' split) <;> omega)
