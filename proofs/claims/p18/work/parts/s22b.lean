theorem tX_53_s {mu : Nat → Nat → Int32} (ok : okR loX hiX mu) {nu : Nat → Nat → Int32} {v : Int32} (f : Nat) (hn : va_up mu 53 (upd (mu 53) f v) = nu) : okR loX hiX nu := by
  subst hn
  exact okR_up ok 53 f v (tI_lo v) (tI_hi v)
