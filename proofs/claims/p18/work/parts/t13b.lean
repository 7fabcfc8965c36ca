theorem rM_0_11 {mu : Nat → Nat → Int32} (ok : okR loM hiM mu) : 0 ≤ (mu 0 11).toInt ∧ (mu 0 11).toInt ≤ 12 := ok 0 11
theorem rM_10_s {mu : Nat → Nat → Int32} (ok : okR loM hiM mu) (f : Nat) : (f % 10 = 5 → 0 ≤ (mu 10 f).toInt ∧ (mu 10 f).toInt ≤ 6) := by
  have h : (if f % 10 = 5 then 0 else -2147483648) ≤ (mu 10 f).toInt ∧ (mu 10 f).toInt ≤ (if f % 10 = 5 then 6 else 2147483647) := ok 10 f
  refine (fun c => ?_) <;> (simp (discharger := omega) only [if_pos, if_neg] at h; exact h)
theorem tM_10_s {mu : Nat → Nat → Int32} (ok : okR loM hiM mu) {nu : Nat → Nat → Int32} {v : Int32} (f : Nat) (hn : va_up mu 10 (upd (mu 10) f v) = nu) (hv : (f % 10 = 5 → 0 ≤ v.toInt ∧ v.toInt ≤ 6)) : okR loM hiM nu := by
  subst hn
  exact okR_up ok 10 f v (by
    show (if f % 10 = 5 then 0 else -2147483648) ≤ v.toInt
    have h8 := tI_lo v
    (repeat' split) <;> omega) (by
    show v.toInt ≤ (if f % 10 = 5 then 6 else 2147483647)
    have h8 := tI_hi v
    (repeat' split) <;> omega)
theorem rM_0_15 {mu : Nat → Nat → Int32} (ok : okR loM hiM mu) : 0 ≤ (mu 0 15).toInt ∧ (mu 0 15).toInt ≤ 4 := ok 0 15
