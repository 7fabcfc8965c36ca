-- ===== groups of numbers that a method keeps: 1 TEXTS, 2 the TOWN, 3 purses and letters, 4 the sales, 5 what is kept, 6 snow, 7 day, 8 how many letters =====
def gpX (k f : Nat) : Nat :=
  if k < 4 then 0 else if k < 5 then 2 else if k < 6 then (if f = 2 then 6 else if f = 3 then 7 else if f = 4 then 8 else 3) else if k < 7 then 4 else if k < 14 then 0 else
  if k < 18 then 1 else if k < 21 then 5 else if k < 27 then 0 else if k < 31 then 1 else if k < 34 then 0 else
  if k < 37 then 2 else if k < 39 then 0 else if k < 40 then 4 else if k < 46 then 5 else if k < 48 then 3 else
  if k < 61 then 0 else if k < 77 then 3 else if k < 157 then 4 else 0
def gpM (k f : Nat) : Nat :=
  if k = 0 then (if f = 8 then 2 else if f = 11 then 2 else if f = 13 then 6 else if f = 14 then 7 else if f = 15 then 8 else if f = 17 then 4 else 0) else
  if k = 5 then 1 else if k = 6 then 1 else if k = 7 then 2 else if k = 9 then 2 else if k = 8 then 3 else if k = 10 then 3 else if k = 14 then 4 else if k = 15 then 5 else 0
theorem gpX_row {k f : Nat} (h1 : 8 ≤ k) (h2 : k < 14) : gpX k f = 0 := by
  unfold gpX
  simp (discharger := omega) only [if_pos, if_neg]
theorem gpX_text {k f : Nat} (h1 : 14 ≤ k) (h2 : k < 18) : gpX k f = 1 := by
  unfold gpX
  simp (discharger := omega) only [if_pos, if_neg]
theorem gpX_kept {k f : Nat} (h1 : 18 ≤ k) (h2 : k < 21) : gpX k f = 5 := by
  unfold gpX
  simp (discharger := omega) only [if_pos, if_neg]
theorem gpX_places {k f : Nat} (h1 : 21 ≤ k) (h2 : k < 27) : gpX k f = 0 := by
  unfold gpX
  simp (discharger := omega) only [if_pos, if_neg]
theorem gpX_bytes {k f : Nat} (h1 : 27 ≤ k) (h2 : k < 31) : gpX k f = 1 := by
  unfold gpX
  simp (discharger := omega) only [if_pos, if_neg]
theorem gpX_kpurses {k f : Nat} (h1 : 40 ≤ k) (h2 : k < 43) : gpX k f = 5 := by
  unfold gpX
  simp (discharger := omega) only [if_pos, if_neg]
theorem gpX_letter {k f : Nat} (h1 : 61 ≤ k) (h2 : k < 77) : gpX k f = 3 := by
  unfold gpX
  simp (discharger := omega) only [if_pos, if_neg]
theorem gpX_sale {k f : Nat} (h1 : 77 ≤ k) (h2 : k < 117) : gpX k f = 4 := by
  unfold gpX
  simp (discharger := omega) only [if_pos, if_neg]
theorem gpX_spurses {k f : Nat} (h1 : 117 ≤ k) (h2 : k < 157) : gpX k f = 4 := by
  unfold gpX
  simp (discharger := omega) only [if_pos, if_neg]
theorem kp_c {gp : Nat → Nat → Nat} {m k2 : Nat} {gg : Nat → Int32} {mu nu mu0 : Nat → Nat → Int32} (g : Nat) (hn : va_up mu k2 gg = nu) (hg : ∀ f, gp k2 f = g) (hm : Nat.testBit m g = false) (hk : ∀ k f : Nat, Nat.testBit m (gp k f) = true → mu k f = mu0 k f) : ∀ k f : Nat, Nat.testBit m (gp k f) = true → nu k f = mu0 k f := fun k f h => by
  by_cases e : k = k2
  · subst e
    rw [hg f, hm] at h
    cases h
  · rw [up_k hn e]
    exact hk k f h
theorem kp_f {gp : Nat → Nat → Nat} {m k2 f2 : Nat} {v : Int32} {mu nu mu0 : Nat → Nat → Int32} (hn : va_up mu k2 (upd (mu k2) f2 v) = nu) (hm : Nat.testBit m (gp k2 f2) = false) (hk : ∀ k f : Nat, Nat.testBit m (gp k f) = true → mu k f = mu0 k f) : ∀ k f : Nat, Nat.testBit m (gp k f) = true → nu k f = mu0 k f := fun k f h => by
  by_cases e : k = k2
  · subst e
    by_cases e2 : f = f2
    · subst e2
      rw [hm] at h
      cases h
    · rw [up_f hn e2]
      exact hk k f h
  · rw [up_k hn e]
    exact hk k f h
theorem kp_2 {gp : Nat → Nat → Nat} {m k2 f2 f3 : Nat} {v w : Int32} {mu nu mu0 : Nat → Nat → Int32} (hn : va_up mu k2 (upd (upd (mu k2) f2 v) f3 w) = nu) (hm : Nat.testBit m (gp k2 f2) = false) (hm3 : Nat.testBit m (gp k2 f3) = false) (hk : ∀ k f : Nat, Nat.testBit m (gp k f) = true → mu k f = mu0 k f) : ∀ k f : Nat, Nat.testBit m (gp k f) = true → nu k f = mu0 k f := fun k f h => by
  by_cases e : k = k2
  · subst e
    by_cases e2 : f = f2
    · subst e2
      rw [hm] at h
      cases h
    · by_cases e3 : f = f3
      · subst e3
        rw [hm3] at h
        cases h
      · have h9 : nu k f = mu k f := by
          rw [← hn]
          simp [va_up, upd, e2, e3]
        rw [h9]
        exact hk k f h
  · rw [up_k hn e]
    exact hk k f h
theorem kp_t {gp : Nat → Nat → Nat} {m m1 : Nat} {mu xi mu0 : Nat → Nat → Int32} (h1 : ∀ k f : Nat, Nat.testBit m1 (gp k f) = true → xi k f = mu k f) (hle : m &&& m1 = m) (hk : ∀ k f : Nat, Nat.testBit m (gp k f) = true → mu k f = mu0 k f) : ∀ k f : Nat, Nat.testBit m (gp k f) = true → xi k f = mu0 k f := fun k f h => by
  have h2 : Nat.testBit m1 (gp k f) = true := by
    have h3 := h
    rw [← hle, Nat.testBit_and, Bool.and_eq_true] at h3
    exact h3.2
  exact (h1 k f h2).trans (hk k f h)
