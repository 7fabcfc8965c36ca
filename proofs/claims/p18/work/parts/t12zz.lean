theorem okR_one {lo hi : Nat → Nat → Int} {mu nu : Nat → Nat → Int32} (h : okR lo hi mu) {k f k1 f1 : Nat} {v : Int32} (hv : v = mu k1 f1) (hb : lo k f ≤ lo k1 f1 ∧ hi k1 f1 ≤ hi k f) (hn : va_up mu k (upd (mu k) f v) = nu) : okR lo hi nu := by
  subst hn
  have h1 := h k1 f1
  rw [← hv] at h1
  exact okR_up h k f v (by omega) (by omega)
theorem kp_in : ∀ k, k < 3 → ∀ j, j < 40 → loM 15 (64 * k + 10 + j) ≤ loM 10 j ∧ hiM 10 j ≤ hiM 15 (64 * k + 10 + j) := by decide +kernel
theorem kp_out : ∀ k, k < 3 → ∀ j, j < 40 → loM 10 j ≤ loM 15 (64 * k + 10 + j) ∧ hiM 15 (64 * k + 10 + j) ≤ hiM 10 j := by decide +kernel
