theorem tM_2_s {mu : Nat → Nat → Int32} (ok : okR loM hiM mu) {nu : Nat → Nat → Int32} {v : Int32} (f : Nat) (hn : va_up mu 2 (upd (mu 2) f v) = nu) (hv : -9 ≤ v.toInt ∧ v.toInt ≤ 40) : okR loM hiM nu := by
  subst hn
  exact okR_up ok 2 f v hv.1 hv.2
theorem tM_4_s {mu : Nat → Nat → Int32} (ok : okR loM hiM mu) {nu : Nat → Nat → Int32} {v : Int32} (f : Nat) (hn : va_up mu 4 (upd (mu 4) f v) = nu) : okR loM hiM nu := by
  subst hn
  exact okR_up ok 4 f v (tI_lo v) (tI_hi v)
theorem tM_5_s {mu : Nat → Nat → Int32} (ok : okR loM hiM mu) {nu : Nat → Nat → Int32} {v : Int32} (f : Nat) (hn : va_up mu 5 (upd (mu 5) f v) = nu) (hv : -9 ≤ v.toInt ∧ v.toInt ≤ 80) : okR loM hiM nu := by
  subst hn
  exact okR_up ok 5 f v hv.1 hv.2
theorem tM_6_s {mu : Nat → Nat → Int32} (ok : okR loM hiM mu) {nu : Nat → Nat → Int32} {v : Int32} (f : Nat) (hn : va_up mu 6 (upd (mu 6) f v) = nu) : okR loM hiM nu := by
  subst hn
  exact okR_up ok 6 f v (tI_lo v) (tI_hi v)
