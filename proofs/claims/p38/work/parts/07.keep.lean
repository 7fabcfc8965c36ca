-- ===== groups of numbers that a method keeps: 1 TEXTS, 2 the TOWN, 3 purses and letters, 4 the sales, 5 what is kept, 6 snow, 7 day, 8 how many letters =====
def gpX (k f : Nat) : Nat :=
  if k < 4 then 0 else if k < 5 then 2 else if k < 6 then (if f = 2 then 6 else if f = 3 then 7 else if f = 4 then 8 else 3) else if k < 7 then 4 else if k < 14 then 0 else
  if k < 18 then 1 else if k < 21 then 5 else if k < 27 then 0 else if k < 31 then 1 else if k < 34 then 0 else
  if k < 37 then 2 else if k < 39 then 0 else if k < 40 then 4 else if k < 46 then 5 else if k < 48 then 3 else
  if k < 61 then 0 else if k < 77 then 3 else if k < 157 then 4 else 0
def gpM (k f : Nat) : Nat :=
  if k = 0 then (if f = 8 then 2 else if f = 11 then 2 else if f = 13 then 6 else if f = 14 then 7 else if f = 15 then 8 else if f = 17 then 4 else 0) else
  if k = 5 then 1 else if k = 6 then 1 else if k = 7 then 2 else if k = 9 then 2 else if k = 8 then 3 else if k = 10 then 3 else if k = 14 then 4 else if k = 15 then 5 else 0
theorem gpX_row {k f : Nat} (h1 : 8 ≤ k) (h2 : k < 14) : gpX k f = 0 := by
  unfold gpX
  simp (discharger := omega) only [if_pos, if_neg]
theorem gpX_text {k f : Nat} (h1 : 14 ≤ k) (h2 : k < 18) : gpX k f = 1 := by
  unfold gpX
  simp (discharger := omega) only [if_pos, if_neg]
theorem gpX_kept {k f : Nat} (h1 : 18 ≤ k) (h2 : k < 21) : gpX k f = 5 := by
  unfold gpX
  simp (discharger := omega) only [if_pos, if_neg]
theorem gpX_places {k f : Nat} (h1 : 21 ≤ k) (h2 : k < 27) : gpX k f = 0 := by
  unfold gpX
  simp (discharger := omega) only [if_pos, if_neg]
theorem gpX_bytes {k f : Nat} (h1 : 27 ≤ k) (h2 : k < 31) : gpX k f = 1 := by
  unfold gpX
  simp (discharger := omega) only [if_pos, if_neg]
theorem gpX_kpurses {k f : Nat} (h1 : 40 ≤ k) (h2 : k < 43) : gpX k f = 5 := by
  unfold gpX
  simp (discharger := omega) only [if_pos, if_neg]
theorem gpX_letter {k f : Nat} (h1 : 61 ≤ k) (h2 : k < 77) : gpX k f = 3 := by
  unfold gpX
  simp (discharger := omega) only [if_pos, if_neg]
theorem gpX_sale {k f : Nat} (h1 : 77 ≤ k) (h2 : k < 117) : gpX k f = 4 := by
  unfold gpX
  simp (discharger := omega) only [if_pos, if_neg]
theorem gpX_spurses {k f : Nat} (h1 : 117 ≤ k) (h2 : k < 157) : gpX k f = 4 := by
  unfold gpX
  simp (discharger := omega) only [if_pos, if_neg]
theorem kp_c {gp : Nat → Nat → Nat} {m k2 : Nat} {gg : Nat → Int32} {mu nu mu0 : Nat → Nat → Int32} (g : Nat) (hn : va_up mu k2 gg = nu) (hg : ∀ f, gp k2 f = g) (hm : Nat.testBit m g = false) (hk : ∀ k f : Nat, Nat.testBit m (gp k f) = true → mu k f = mu0 k f) : ∀ k f : Nat, Nat.testBit m (gp k f) = true → nu k f = mu0 k f := fun k f h => by
  by_cases e : k = k2
  · subst e
    rw [hg f, hm] at h
    cases h
  · rw [up_k hn e]
    exact hk k f h
theorem kp_f {gp : Nat → Nat → Nat} {m k2 f2 : Nat} {v : Int32} {mu nu mu0 : Nat → Nat → Int32} (hn : va_up mu k2 (upd (mu k2) f2 v) = nu) (hm : Nat.testBit m (gp k2 f2) = false) (hk : ∀ k f : Nat, Nat.testBit m (gp k f) = true → mu k f = mu0 k f) : ∀ k f : Nat, Nat.testBit m (gp k f) = true → nu k f = mu0 k f := fun k f h => by
  by_cases e : k = k2
  · subst e
    by_cases e2 : f = f2
    · subst e2
      rw [hm] at h
      cases h
    · rw [up_f hn e2]
      exact hk k f h
  · rw [up_k hn e]
    exact hk k f h
theorem kp_2 {gp : Nat → Nat → Nat} {m k2 f2 f3 : Nat} {v w : Int32} {mu nu mu0 : Nat → Nat → Int32} (hn : va_up mu k2 (upd (upd (mu k2) f2 v) f3 w) = nu) (hm : Nat.testBit m (gp k2 f2) = false) (hm3 : Nat.testBit m (gp k2 f3) = false) (hk : ∀ k f : Nat, Nat.testBit m (gp k f) = true → mu k f = mu0 k f) : ∀ k f : Nat, Nat.testBit m (gp k f) = true → nu k f = mu0 k f := fun k f h => by
  by_cases e : k = k2
  · subst e
    by_cases e2 : f = f2
    · subst e2
      rw [hm] at h
      cases h
    · by_cases e3 : f = f3
      · subst e3
        rw [hm3] at h
        cases h
      · have h9 : nu k f = mu k f := by
          rw [← hn]
          simp [va_up, upd, e2, e3]
        rw [h9]
        exact hk k f h
  · rw [up_k hn e]
    exact hk k f h
theorem kp_t {gp : Nat → Nat → Nat} {m m1 : Nat} {mu xi mu0 : Nat → Nat → Int32} (h1 : ∀ k f : Nat, Nat.testBit m1 (gp k f) = true → xi k f = mu k f) (hle : m &&& m1 = m) (hk : ∀ k f : Nat, Nat.testBit m (gp k f) = true → mu k f = mu0 k f) : ∀ k f : Nat, Nat.testBit m (gp k f) = true → xi k f = mu0 k f := fun k f h => by
  have h2 : Nat.testBit m1 (gp k f) = true := by
    have h3 := h
    rw [← hle, Nat.testBit_and, Bool.and_eq_true] at h3
    exact h3.2
  exact (h1 k f h2).trans (hk k f h)
theorem ite_le8 {c : Prop} [Decidable c] {a b : Nat} (h1 : a ≤ 8) (h2 : b ≤ 8) : (if c then a else b) ≤ 8 := by
  split
  · exact h1
  · exact h2
theorem gpX_le (k f : Nat) : gpX k f ≤ 8 := by
  unfold gpX
  repeat' (first | decide | refine ite_le8 ?_ ?_)
theorem gpM_le (k f : Nat) : gpM k f ≤ 8 := by
  unfold gpM
  repeat' (first | decide | refine ite_le8 ?_ ?_)
theorem kp_sub {gp : Nat → Nat → Nat} {m m1 : Nat} {mu mu0 : Nat → Nat → Int32} (hle : m &&& m1 = m) (hk : ∀ k f : Nat, Nat.testBit m1 (gp k f) = true → mu k f = mu0 k f) : ∀ k f : Nat, Nat.testBit m (gp k f) = true → mu k f = mu0 k f := fun k f h => by
  refine hk k f ?_
  rw [← hle, Nat.testBit_and, Bool.and_eq_true] at h
  exact h.2
theorem gpM_6 {k f : Nat} (c : gpM k f = 6) : k = 0 ∧ f = 13 := by
  unfold gpM at c
  by_cases e : k = 0
  · rw [if_pos e] at c
    by_cases e8 : f = 8
    · rw [if_pos e8] at c
      exact absurd c (by decide)
    rw [if_neg e8] at c
    by_cases e11 : f = 11
    · rw [if_pos e11] at c
      exact absurd c (by decide)
    rw [if_neg e11] at c
    by_cases e13 : f = 13
    · exact ⟨e, e13⟩
    rw [if_neg e13] at c
    by_cases e14 : f = 14
    · rw [if_pos e14] at c
      exact absurd c (by decide)
    rw [if_neg e14] at c
    by_cases e15 : f = 15
    · rw [if_pos e15] at c
      exact absurd c (by decide)
    rw [if_neg e15] at c
    by_cases e17 : f = 17
    · rw [if_pos e17] at c
      exact absurd c (by decide)
    rw [if_neg e17] at c
    exact absurd c (by decide)
  · rw [if_neg e] at c
    by_cases d5 : k = 5
    · rw [if_pos d5] at c
      exact absurd c (by decide)
    rw [if_neg d5] at c
    by_cases d6 : k = 6
    · rw [if_pos d6] at c
      exact absurd c (by decide)
    rw [if_neg d6] at c
    by_cases d7 : k = 7
    · rw [if_pos d7] at c
      exact absurd c (by decide)
    rw [if_neg d7] at c
    by_cases d9 : k = 9
    · rw [if_pos d9] at c
      exact absurd c (by decide)
    rw [if_neg d9] at c
    by_cases d8 : k = 8
    · rw [if_pos d8] at c
      exact absurd c (by decide)
    rw [if_neg d8] at c
    by_cases d10 : k = 10
    · rw [if_pos d10] at c
      exact absurd c (by decide)
    rw [if_neg d10] at c
    by_cases d14 : k = 14
    · rw [if_pos d14] at c
      exact absurd c (by decide)
    rw [if_neg d14] at c
    by_cases d15 : k = 15
    · rw [if_pos d15] at c
      exact absurd c (by decide)
    rw [if_neg d15] at c
    exact absurd c (by decide)
theorem kp_fix {mu nu mu0 : Nat → Nat → Int32} {v : Int32} (hn : va_up mu 0 (upd (mu 0) 13 v) = nu) (hv : v = mu0 0 13) (hk : ∀ k f : Nat, Nat.testBit 446 (gpM k f) = true → nu k f = mu0 k f) : ∀ k f : Nat, Nat.testBit 510 (gpM k f) = true → nu k f = mu0 k f := fun k f h => by
  by_cases c : gpM k f = 6
  · obtain ⟨e1, e2⟩ := gpM_6 c
    subst e1 e2
    rw [← up_v hn]
    exact hv
  · have key : ∀ g : Nat, g < 9 → Nat.testBit 510 g = true → g ≠ 6 → Nat.testBit 446 g = true := by decide
    exact hk k f (key _ (Nat.lt_succ_of_le (gpM_le k f)) h c)
theorem kp_back {gp : Nat → Nat → Nat} {m m1 k2 f2 : Nat} {a y : Int32} {nu nu1 xi nu2 mu0 : Nat → Nat → Int32} (ey : y = nu k2 f2) (hn1 : va_up nu k2 (upd (nu k2) f2 a) = nu1) (hc : ∀ k f : Nat, Nat.testBit m1 (gp k f) = true → xi k f = nu1 k f) (hle : m &&& m1 = m) (hn2 : va_up xi k2 (upd (xi k2) f2 y) = nu2) (hk : ∀ k f : Nat, Nat.testBit m (gp k f) = true → nu k f = mu0 k f) : ∀ k f : Nat, Nat.testBit m (gp k f) = true → nu2 k f = mu0 k f := fun k f h => by
  have h2 : Nat.testBit m1 (gp k f) = true := by
    have h3 := h
    rw [← hle, Nat.testBit_and, Bool.and_eq_true] at h3
    exact h3.2
  by_cases e : k = k2
  · subst e
    by_cases e2 : f = f2
    · subst e2
      rw [← up_v hn2, ey]
      exact hk k f h
    · rw [up_f hn2 e2, hc k f h2, up_f hn1 e2]
      exact hk k f h
  · rw [up_k hn2 e, hc k f h2, up_k hn1 e]
    exact hk k f h
