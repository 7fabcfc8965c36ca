theorem tM_19_s {mu : Nat → Nat → Int32} (ok : okR loM hiM mu) {nu : Nat → Nat → Int32} {v : Int32} (f : Nat) (hn : va_up mu 19 (upd (mu 19) f v) = nu) : okR loM hiM nu := by
  subst hn
  exact okR_up ok 19 f v (tI_lo v) (tI_hi v)
theorem tM_20_s {mu : Nat → Nat → Int32} (ok : okR loM hiM mu) {nu : Nat → Nat → Int32} {v : Int32} (f : Nat) (hn : va_up mu 20 (upd (mu 20) f v) = nu) : okR loM hiM nu := by
  subst hn
  exact okR_up ok 20 f v (tI_lo v) (tI_hi v)
