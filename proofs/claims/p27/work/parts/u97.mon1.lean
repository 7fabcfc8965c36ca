-- ===== money: how much there is in all =====
def tot (f : Nat → Int32) : Nat → Int
  | 0 => 0
  | n + 1 => tot f n + (f n).toInt
theorem tot_congr {f g : Nat → Int32} : ∀ n : Nat, (∀ x : Nat, x < n → f x = g x) → tot f n = tot g n := by
  intro n
  induction n with
  | zero => intro _; rfl
  | succ n ih =>
    intro h
    show tot f n + (f n).toInt = tot g n + (g n).toInt
    rw [ih (fun x hx => h x (by omega)), h n (by omega)]
theorem tot_pos {f : Nat → Int32} : ∀ n : Nat, (∀ x : Nat, x < n → 0 ≤ (f x).toInt) → 0 ≤ tot f n := by
  intro n
  induction n with
  | zero => intro _; exact Int.le_refl _
  | succ n ih =>
    intro h
    have a := ih (fun x hx => h x (by omega))
    have b := h n (by omega)
    show 0 ≤ tot f n + (f n).toInt
    omega
theorem tot_ge {f : Nat → Int32} : ∀ n : Nat, (∀ x : Nat, x < n → 0 ≤ (f x).toInt) → ∀ x : Nat, x < n → (f x).toInt ≤ tot f n := by
  intro n
  induction n with
  | zero => intro _ x hx; exact absurd hx (Nat.not_lt_zero _)
  | succ n ih =>
    intro h x hx
    have a := tot_pos n (fun x hx => h x (by omega))
    have b := h n (by omega)
    show (f x).toInt ≤ tot f n + (f n).toInt
    by_cases e : x = n
    · subst e
      omega
    · have c := ih (fun x hx => h x (by omega)) x (by omega)
      omega
theorem tot_upd {f : Nat → Int32} {x : Nat} {v : Int32} : ∀ n : Nat, x < n → tot (upd f x v) n = tot f n - (f x).toInt + v.toInt := by
  intro n
  induction n with
  | zero => intro hx; exact absurd hx (Nat.not_lt_zero _)
  | succ n ih =>
    intro hx
    show tot (upd f x v) n + (upd f x v n).toInt = tot f n + (f n).toInt - (f x).toInt + v.toInt
    by_cases e : x = n
    · subst e
      have a : tot (upd f x v) x = tot f x := tot_congr x (fun y hy => by simp [upd, show ¬ y = x by omega])
      have b : upd f x v x = v := by simp [upd]
      rw [a, b]
      omega
    · have b : upd f x v n = f n := by simp [upd, show ¬ n = x by omega]
      rw [ih (by omega), b]
      omega
def purM (T : Int) (B : Nat) (f : Nat → Int32) : Prop := (∀ x : Nat, x < B → 0 ≤ (f x).toInt) ∧ tot f B ≤ T
def letM (T : Int) (n : Nat) (lm : Nat → Int32) : Prop := ∀ k : Nat, k < n → (0 ≤ (lm (10 * k + 6)).toInt ∧ (lm (10 * k + 6)).toInt ≤ T) ∧ (0 ≤ (lm (10 * k + 2)).toInt ∧ (lm (10 * k + 2)).toInt ≤ 99) ∧ (0 ≤ (lm (10 * k + 3)).toInt ∧ (lm (10 * k + 3)).toInt ≤ 9) ∧ (0 ≤ (lm (10 * k + 4)).toInt ∧ (lm (10 * k + 4)).toInt ≤ 99)
def monS (T : Int) (n : Nat) (mum : Nat → Nat → Int32) : Prop := ∀ s : Nat, s < n → purM T (mum 0 8).toNatClampNeg (fun x => mum 14 (12 * s + 5 + x)) ∧ 0 ≤ (mum 14 (12 * s + 2)).toInt ∧ (mum 14 (12 * s + 2)).toInt ≤ T
def monK (T : Int) (mum : Nat → Nat → Int32) : Prop := ∀ j : Nat, j < 3 → mum 15 (64 * j) = -9 ∨ (purM T (mum 0 8).toNatClampNeg (fun x => mum 15 (64 * j + 3 + x)) ∧ letM T (mum 15 (64 * j + 2)).toNatClampNeg (fun i => mum 15 (64 * j + 10 + i)))
def mon (T : Int) (mum : Nat → Nat → Int32) : Prop := purM T (mum 0 8).toNatClampNeg (mum 8) ∧ letM T (mum 0 15).toNatClampNeg (mum 10) ∧ monS T (mum 0 17).toNatClampNeg mum ∧ monK T mum
theorem purM_le {T T' : Int} {B : Nat} {f : Nat → Int32} (h : purM T B f) (hT : T ≤ T') : purM T' B f := ⟨h.1, Int.le_trans h.2 hT⟩
theorem purM_of {T : Int} {B : Nat} {f g : Nat → Int32} (h : purM T B f) (he : ∀ x : Nat, x < B → g x = f x) : purM T B g := ⟨fun x hx => by rw [he x hx]; exact h.1 x hx, by rw [tot_congr B he]; exact h.2⟩
theorem purM_at {T : Int} {B x : Nat} {f : Nat → Int32} (h : purM T B f) (hx : x < B) : 0 ≤ (f x).toInt ∧ (f x).toInt ≤ T := ⟨h.1 x hx, Int.le_trans (tot_ge B h.1 x hx) h.2⟩
theorem letM_le {T T' : Int} {n : Nat} {lm : Nat → Int32} (h : letM T n lm) (hT : T ≤ T') : letM T' n lm := fun k hk => by
  obtain ⟨a, b⟩ := h k hk
  exact ⟨⟨a.1, Int.le_trans a.2 hT⟩, b⟩
theorem letM_of {T : Int} {n : Nat} {lm lm' : Nat → Int32} (h : letM T n lm) (he : ∀ k : Nat, k < n → ∀ f : Nat, f < 10 → lm' (10 * k + f) = lm (10 * k + f)) : letM T n lm' := fun k hk => by
  rw [he k hk 6 (by decide), he k hk 2 (by decide), he k hk 3 (by decide), he k hk 4 (by decide)]
  exact h k hk
theorem mon_le {T T' : Int} {mum : Nat → Nat → Int32} (h : mon T mum) (hT : T ≤ T') : mon T' mum := by
  obtain ⟨a, b, c, d⟩ := h
  refine ⟨purM_le a hT, letM_le b hT, fun s hs => ?_, fun j hj => ?_⟩
  · obtain ⟨c1, c2, c3⟩ := c s hs
    exact ⟨purM_le c1 hT, c2, Int.le_trans c3 hT⟩
  · rcases d j hj with e | ⟨e1, e2⟩
    · exact Or.inl e
    · exact Or.inr ⟨purM_le e1 hT, letM_le e2 hT⟩
theorem mon_of {T : Int} {mum xi : Nat → Nat → Int32} (h : mon T mum) (h8 : xi 0 8 = mum 0 8) (h15 : xi 0 15 = mum 0 15) (h17 : xi 0 17 = mum 0 17) (c8 : xi 8 = mum 8) (c10 : xi 10 = mum 10) (c14 : xi 14 = mum 14) (c15 : xi 15 = mum 15) : mon T xi := by
  unfold mon monS monK
  rw [h8, h15, h17, c8, c10, c14, c15]
  exact h
theorem mon_keep {m : Nat} {T : Int} {mum xi : Nat → Nat → Int32} (hm : Nat.testBit m 2 = true ∧ Nat.testBit m 3 = true ∧ Nat.testBit m 4 = true ∧ Nat.testBit m 5 = true ∧ Nat.testBit m 8 = true) (h2 : ∀ k f : Nat, Nat.testBit m (gpM k f) = true → xi k f = mum k f) (h : mon T mum) : mon T xi :=
  mon_of h (h2 0 8 hm.1) (h2 0 15 hm.2.2.2.2) (h2 0 17 hm.2.2.1) (funext fun f => h2 8 f hm.2.1) (funext fun f => h2 10 f hm.2.1) (funext fun f => h2 14 f hm.2.2.1) (funext fun f => h2 15 f hm.2.2.2.1)
theorem mon_0 {T : Int} (hT : 0 ≤ T) : mon T mu0M := by
  refine ⟨⟨fun x hx => absurd hx (Nat.not_lt_zero _), hT⟩, fun k hk => absurd hk (Nat.not_lt_zero _), fun s hs => absurd hs (Nat.not_lt_zero _), fun j hj => Or.inl ?_⟩
  have key : ∀ j : Nat, j < 3 → mu0M 15 (64 * j) = -9 := by decide +kernel
  exact key j hj
/-- what is asked: by the kind, out of what was paid -/
theorem asks_rng {k p : Int32} {T : Int} (hp : 0 ≤ p.toInt ∧ p.toInt ≤ T) (hT : T ≤ 1000000) : 0 ≤ (F_sx_priceAsked k p).toInt ∧ (F_sx_priceAsked k p).toInt ≤ 2 * T + 6 := by
  have z1 : (1 : Int32).toInt = 1 := rfl
  have z3 : (3 : Int32).toInt = 3 := rfl
  have a1 : (p + 1 : Int32).toInt = p.toInt + 1 := tI_add rfl z1 (by omega) (by omega)
  have a3 : (p + 3 : Int32).toInt = p.toInt + 3 := tI_add rfl z3 (by omega) (by omega)
  have a4 : (2 * (p + 3) : Int32).toInt = 2 * (p.toInt + 3) := tI_mul (rfl : (2 : Int32).toInt = 2) a3 (by omega) (by omega)
  have z0 : (0 : Int32).toInt = 0 := rfl
  simp only [F_sx_priceAsked, letv_eq]
  repeat' split
  all_goals omega
theorem cs_price {mum : Nat → Nat → Int32} {nb pr k : Int32} (hb : 0 ≤ (mum 0 8).toInt ∧ (mum 0 8).toInt ≤ 7) : ∀ (n : Nat) (w i : Int32), 0 ≤ i.toInt → i.toInt ≤ (mum 0 8).toInt → (∀ j : Nat, j < 32 → bt w j = true → ¬ mum 8 j < pr) → ∀ j : Nat, j < 32 → bt (L_sm_canSell_47_0 mum nb pr k n w i) j = true → ¬ mum 8 j < pr := by
  intro n
  induction n with
  | zero =>
    intro w i _ _ _ j hj h
    rw [L_sm_canSell_47_0, b_zero j hj] at h
    cases h
  | succ n ih =>
    intro w i h0 hle hw
    rw [L_sm_canSell_47_0]
    simp only [letv_eq, ior_0]
    by_cases c : i ≥ mum 0 8
    · rw [if_pos c]
      exact hw
    · have c2 : ¬ (mum 0 8).toInt ≤ i.toInt := fun h => c (vv_ge.mpr h)
      have ai : (i + 1 : Int32).toInt = i.toInt + 1 := vp1 (by omega)
      have add : ¬ mum 8 i.toNatClampNeg < pr → ∀ j : Nat, j < 32 → bt (w ||| ((1 : Int32) <<< (i &&& 31))) j = true → ¬ mum 8 j < pr := fun hno j hj hq => by
        rw [b_or, b_bit h0 (by omega) hj] at hq
        by_cases e : j = i.toNatClampNeg
        · rw [e]
          exact hno
        · simp [e] at hq
          exact hw j hj hq
      rw [if_neg c]
      repeat' split
      all_goals first
        | exact ih _ _ (by omega) (by omega) hw
        | (rename_i hno; exact ih _ _ (by omega) (by omega) (add hno))
theorem can_price {mum : Nat → Nat → Int32} {k x : Int32} (hb : 0 ≤ (mum 0 8).toInt ∧ (mum 0 8).toInt ≤ 7) (hx : 0 ≤ x.toInt ∧ x.toInt ≤ 31) (h : bt (F_sm_canSell mum k) x.toNatClampNeg = true) : (F_sm_priceOf mum k).toInt ≤ (mum 8 x.toNatClampNeg).toInt := by
  have cx := tC_of hx.1
  have key : ¬ mum 8 x.toNatClampNeg < F_sm_priceOf mum k := by
    simp only [F_sm_canSell, letv_eq] at h
    have z : ¬ bt 0 x.toNatClampNeg = true := by rw [b_zero _ (by omega)]; decide
    revert h
    repeat' split
    · intro h; exact absurd h z
    · intro h
      exact cs_price hb 10 0 0 (by decide) (by show (0 : Int) ≤ _; exact hb.1) (fun j hj hq => by rw [b_zero j hj] at hq; cases hq) _ (by omega) h
    · intro h; exact absurd h z
  have : ¬ (mum 8 x.toNatClampNeg).toInt < (F_sm_priceOf mum k).toInt := fun e => key (vv_lt.mpr e)
  omega

