-- ===== the TOWN of both sides alike: kinds, ways =====
def simK (mux mum : Nat → Nat → Int32) : Prop := mux 4 6 = mum 0 8 ∧ mux 4 7 = mum 0 11 ∧ (∀ x : Nat, x < (mum 0 8).toNatClampNeg → mux 34 x = mum 7 x) ∧ (∀ j : Nat, j < (mum 0 11).toNatClampNeg → mux 35 j = mum 9 (2 * j) ∧ mux 36 j = mum 9 (2 * j + 1))
theorem simK_of {mux mum xi1 xi2 : Nat → Nat → Int32} (h : simK mux mum) (h1 : ∀ k f : Nat, gpX k f = 2 → xi1 k f = mux k f) (h2 : ∀ k f : Nat, gpM k f = 2 → xi2 k f = mum k f) : simK xi1 xi2 := by
  obtain ⟨a, b, c, d⟩ := h
  unfold simK
  rw [h1 4 6 rfl, h1 4 7 rfl, h2 0 8 rfl, h2 0 11 rfl]
  refine ⟨a, b, fun x hx => ?_, fun j hj => ?_⟩
  · rw [h1 34 x rfl, h2 7 x rfl]
    exact c x hx
  · rw [h1 35 j rfl, h1 36 j rfl, h2 9 _ rfl, h2 9 _ rfl]
    exact d j hj
theorem simK_keep {m1 m2 : Nat} {mux mum xi1 xi2 : Nat → Nat → Int32} (hm1 : Nat.testBit m1 2 = true) (hm2 : Nat.testBit m2 2 = true) (h1 : ∀ k f : Nat, Nat.testBit m1 (gpX k f) = true → xi1 k f = mux k f) (h2 : ∀ k f : Nat, Nat.testBit m2 (gpM k f) = true → xi2 k f = mum k f) (h : simK mux mum) : simK xi1 xi2 :=
  simK_of h (fun k f e => h1 k f (by rw [e]; exact hm1)) (fun k f e => h2 k f (by rw [e]; exact hm2))
theorem simK_0 : simK mu0X mu0M := by
  refine ⟨rfl, rfl, fun x hx => ?_, fun j hj => ?_⟩
  · exact absurd hx (Nat.not_lt_zero _)
  · exact absurd hj (Nat.not_lt_zero _)
-- what reading a TEXT leaves as it was
theorem kx_path {nu : Nat → Nat → Int32} {kx : Nat} {i : Int32} (k : Nat) (h : k ≠ 31 ∧ k ≠ 50 ∧ k ≠ 51) : (F_sx_faultInPath nu kx i).2 k = nu k := by
  simp only [F_sx_faultInPath, letv_eq]
  repeat' split
  all_goals first
    | rfl
    | (funext f; simp [va_up, h.1, h.2.1, h.2.2])
theorem kx_bear {nu : Nat → Nat → Int32} {kx : Nat} {i : Int32} (k : Nat) (h : k ≠ 31 ∧ k ≠ 48 ∧ k ≠ 49) : (F_sx_faultInBearer nu kx i).2 k = nu k := by
  simp only [F_sx_faultInBearer, letv_eq]
  repeat' split
  all_goals first
    | rfl
    | (funext f; simp [va_up, h.1, h.2.1, h.2.2])
theorem kx_loop {kx k : Nat} (h : k ≠ 31 ∧ k ≠ 48 ∧ k ≠ 49 ∧ k ≠ 50 ∧ k ≠ 51) : ∀ (n : Nat) (i : Int32) (nu : Nat → Nat → Int32), (L_sx_faultIn_12_0 kx n i nu).2 k = nu k := by
  intro n
  induction n with
  | zero => intro i nu; rfl
  | succ n ih =>
    intro i nu
    rw [L_sx_faultIn_12_0]
    simp only [letv_eq, letp_eq]
    have hp := kx_path (nu := nu) (kx := kx) (i := i) k ⟨h.1, h.2.2.2.1, h.2.2.2.2⟩
    have hb := kx_bear (nu := nu) (kx := kx) (i := i) k ⟨h.1, h.2.1, h.2.2.1⟩
    repeat' split
    · rfl
    · exact ih _ _
    · rw [ih]; exact hp
    · exact hp
    · rw [ih]; exact hb
    · exact hb
theorem kx_parse {mu : Nat → Nat → Int32} {kx k : Nat} (h : k ≠ 31 ∧ k ≠ 48 ∧ k ≠ 49 ∧ k ≠ 50 ∧ k ≠ 51) : (F_sx_faultIn mu kx).2 k = mu k := by
  simp only [F_sx_faultIn, letv_eq]
  rw [kx_loop h]
  funext f
  simp [va_up, h.1]
theorem km_path {t : Int32} {p : Int32} {k f : Nat} (h : k ≠ 13 ∧ ¬ (k = 0 ∧ 18 ≤ f ∧ f ≤ 20)) : ∀ (n : Nat) (i : Int32) (nu : Nat → Nat → Int32), (L_sm_readsPath_30_0 p t n i nu).2 k f = nu k f := by
  have key : ∀ (nu : Nat → Nat → Int32) (j : Nat) (v : Int32), 18 ≤ j → j ≤ 20 → va_up nu 0 (upd (nu 0) j v) k f = nu k f := fun nu j v h1 h2 => by
    by_cases e : k = 0
    · subst e
      simp [va_up, upd, show ¬ f = j by omega]
    · simp [va_up, e]
  have key2 : ∀ (nu : Nat → Nat → Int32) (g : Nat → Int32), va_up nu 13 g k f = nu k f := fun nu g => by simp [va_up, h.1]
  intro n
  induction n with
  | zero => intro i nu; rfl
  | succ n ih =>
    intro i nu
    rw [L_sm_readsPath_30_0]
    simp only [letv_eq]
    repeat' split
    · exact key _ 20 _ (by decide) (by decide)
    · rfl
    · rw [ih, key _ 18 _ (by decide) (by decide), key2]
    · rw [ih, key _ 18 _ (by decide) (by decide), key2]
    · rfl
theorem km_bear {t : Int32} {p : Int32} {k f : Nat} (h : k ≠ 11 ∧ k ≠ 12 ∧ ¬ (k = 0 ∧ 18 ≤ f ∧ f ≤ 20)) : ∀ (n : Nat) (v i : Int32) (nu : Nat → Nat → Int32), (L_sm_readsBearer_48_0 p t n v i nu).2 k f = nu k f := by
  have key : ∀ (nu : Nat → Nat → Int32) (j : Nat) (v : Int32), 18 ≤ j → j ≤ 20 → va_up nu 0 (upd (nu 0) j v) k f = nu k f := fun nu j v h1 h2 => by
    by_cases e : k = 0
    · subst e
      simp [va_up, upd, show ¬ f = j by omega]
    · simp [va_up, e]
  have key2 : ∀ (nu : Nat → Nat → Int32) (g : Nat → Int32), va_up nu 11 g k f = nu k f := fun nu g => by simp [va_up, h.1]
  have key3 : ∀ (nu : Nat → Nat → Int32) (g : Nat → Int32), va_up nu 12 g k f = nu k f := fun nu g => by simp [va_up, h.2.1]
  intro n
  induction n with
  | zero => intro v i nu; rfl
  | succ n ih =>
    intro v i nu
    rw [L_sm_readsBearer_48_0]
    simp only [letv_eq]
    repeat' split
    · exact (key _ 19 _ (by decide) (by decide)).trans ((key3 _ _).trans (key2 _ _))
    · rw [ih, key _ 18 _ (by decide) (by decide)]
    · rfl
theorem km_loop {t : Int32} {k f : Nat} (h : k ≠ 11 ∧ k ≠ 12 ∧ k ≠ 13 ∧ ¬ (k = 0 ∧ 18 ≤ f ∧ f ≤ 20)) : ∀ (n : Nat) (nu : Nat → Nat → Int32), (L_sm_goesOn_15_0 t n nu).2 k f = nu k f := by
  have key : ∀ (nu : Nat → Nat → Int32) (j : Nat) (v : Int32), 18 ≤ j → j ≤ 20 → va_up nu 0 (upd (nu 0) j v) k f = nu k f := fun nu j v h1 h2 => by
    by_cases e : k = 0
    · subst e
      simp [va_up, upd, show ¬ f = j by omega]
    · simp [va_up, e]
  have hp : ∀ nu : Nat → Nat → Int32, (F_sm_readsPath nu t).2 k f = nu k f := fun nu => by
    simp only [F_sm_readsPath, letv_eq]
    split
    · rfl
    · rw [km_path ⟨h.2.2.1, h.2.2.2⟩, key _ 18 _ (by decide) (by decide)]
  have hb : ∀ nu : Nat → Nat → Int32, (F_sm_readsBearer nu t).2 k f = nu k f := fun nu => by
    simp only [F_sm_readsBearer, letv_eq]
    repeat' split
    · rfl
    · rfl
    · rfl
    · rw [km_bear ⟨h.1, h.2.1, h.2.2.2⟩, key _ 18 _ (by decide) (by decide)]
  intro n
  induction n with
  | zero => intro nu; rfl
  | succ n ih =>
    intro nu
    rw [L_sm_goesOn_15_0]
    simp only [letv_eq, letp_eq]
    repeat' split
    · rfl
    · rw [ih, key _ 18 _ (by decide) (by decide)]
    · exact hp nu
    · rw [ih, hp]
    · exact hb nu
    · rw [ih, hb]
theorem km_parse {t : Int32} {mu : Nat → Nat → Int32} {k f : Nat} (h : k ≠ 11 ∧ k ≠ 12 ∧ k ≠ 13 ∧ ¬ (k = 0 ∧ 18 ≤ f ∧ f ≤ 20)) : (F_sm_goesOn mu t).2 k f = mu k f := by
  simp only [F_sm_goesOn, letv_eq]
  rw [km_loop h]
  by_cases e : k = 0
  · subst e
    simp [va_up, upd, show ¬ f = 18 by omega, show ¬ f = 19 by omega, show ¬ f = 20 by omega]
  · simp [va_up, e]
-- the loops of town
theorem lx_town : ∀ (n : Nat) (i : Int32) (nu : Nat → Nat → Int32), 0 ≤ i.toInt → i.toInt ≤ 3 → (3 - i.toInt).toNat < n → (L_qx_town_54_0 n i nu).1 = nu 4 6 ∧ (∀ k : Nat, k < 18 ∨ 21 ≤ k → (L_qx_town_54_0 n i nu).2 k = nu k) ∧ (∀ k : Nat, i.toNatClampNeg ≤ k → k < 3 → (L_qx_town_54_0 n i nu).2 (18 + k) 5 = 0) := by
  intro n
  induction n with
  | zero => intro i nu _ _ h; exact absurd h (Nat.not_lt_zero _)
  | succ n ih =>
    intro i nu h0 h3 hn
    have z3 : (3 : Int32).toInt = 3 := rfl
    have hc := tC_of h0
    rw [L_qx_town_54_0]
    by_cases c : i ≥ (3 : Int32)
    · rw [if_pos c]
      have c2 := vv_ge.mp c
      exact ⟨rfl, fun _ _ => rfl, fun k h1 h2 => by omega⟩
    · have c2 : ¬ (3 : Int32).toInt ≤ i.toInt := fun h => c (vv_ge.mpr h)
      rw [if_neg c]
      simp only [letv_eq]
      have ai : (i + 1 : Int32).toInt = i.toInt + 1 := tI_add rfl (rfl : (1 : Int32).toInt = 1) (by omega) (by omega)
      have hc1 := tC_of (v := i + 1) (by omega)
      generalize hv : va_up nu (18 + i.toNatClampNeg) (upd (nu (18 + i.toNatClampNeg)) 5 0) = nu1
      obtain ⟨g1, g2, g3⟩ := ih (i + 1) nu1 (by omega) (by omega) (by omega)
      refine ⟨?_, fun k hk => ?_, fun k h1 h2 => ?_⟩
      · rw [g1]
        exact congrFun (up_k hv (by omega)) 6
      · rw [g2 k hk]
        exact up_k hv (by omega)
      · by_cases e : k = i.toNatClampNeg
        · subst e
          have stay : ∀ (n : Nat) (j : Int32) (mu : Nat → Nat → Int32) (q : Nat), 0 ≤ j.toInt → j.toInt ≤ 3 → q < 18 + j.toNatClampNeg → (L_qx_town_54_0 n j mu).2 q = mu q := by
            intro n
            induction n with
            | zero => intro j mu q _ _ _; rfl
            | succ n ih2 =>
              intro j mu q h0 h3 hq
              rw [L_qx_town_54_0]
              have hcj := tC_of h0
              by_cases c : j ≥ (3 : Int32)
              · rw [if_pos c]
                rfl
              · have c2 : ¬ (3 : Int32).toInt ≤ j.toInt := fun h => c (vv_ge.mpr h)
                have aj : (j + 1 : Int32).toInt = j.toInt + 1 := tI_add rfl (rfl : (1 : Int32).toInt = 1) (by omega) (by omega)
                have hcj1 := tC_of (v := j + 1) (by omega)
                rw [if_neg c]
                simp only [letv_eq]
                rw [ih2 (j + 1) _ q (by omega) (by omega) (by omega)]
                simp [va_up, show ¬ q = 18 + j.toNatClampNeg by omega]
          rw [stay n (i + 1) nu1 (18 + i.toNatClampNeg) (by omega) (by omega) (by omega)]
          exact (up_v hv).symm
        · exact g3 k (by omega) h2
theorem lm_kept : ∀ (n : Nat) (i : Int32) (nu : Nat → Nat → Int32), 0 ≤ i.toInt → i.toInt ≤ 3 → (3 - i.toInt).toNat < n → (L_qm_town_127_2 n i nu).1 = nu 0 8 ∧ (∀ k : Nat, k ≠ 15 → (L_qm_town_127_2 n i nu).2 k = nu k) ∧ (∀ k : Nat, k < 3 → (i.toNatClampNeg ≤ k ∨ nu 15 (64 * k) = -9) → (L_qm_town_127_2 n i nu).2 15 (64 * k) = -9) := by
  intro n
  induction n with
  | zero => intro i nu _ _ h; exact absurd h (Nat.not_lt_zero _)
  | succ n ih =>
    intro i nu h0 h3 hn
    have z3 : (3 : Int32).toInt = 3 := rfl
    have hc := tC_of h0
    rw [L_qm_town_127_2]
    by_cases c : i ≥ (3 : Int32)
    · rw [if_pos c]
      have c2 := vv_ge.mp c
      exact ⟨rfl, fun _ _ => rfl, fun k h1 h2 => h2.elim (fun h => by omega) id⟩
    · have c2 : ¬ (3 : Int32).toInt ≤ i.toInt := fun h => c (vv_ge.mpr h)
      rw [if_neg c]
      simp only [letv_eq]
      have ai : (i + 1 : Int32).toInt = i.toInt + 1 := tI_add rfl (rfl : (1 : Int32).toInt = 1) (by omega) (by omega)
      have hc1 := tC_of (v := i + 1) (by omega)
      have a64 : (64 * i : Int32).toInt = 64 * i.toInt := tI_mul (rfl : (64 : Int32).toInt = 64) rfl (by omega) (by omega)
      have c64 := tC_of (v := 64 * i) (by omega)
      have e64 : (64 * i : Int32).toNatClampNeg = 64 * i.toNatClampNeg := by omega
      rw [e64]
      generalize hv : va_up nu 15 (upd (nu 15) (64 * i.toNatClampNeg) (-9)) = nu1
      obtain ⟨g1, g2, g3⟩ := ih (i + 1) nu1 (by omega) (by omega) (by omega)
      refine ⟨?_, fun k hk => ?_, fun k h1 h2 => ?_⟩
      · rw [g1]
        exact congrFun (up_k hv (by decide)) 8
      · rw [g2 k hk]
        exact up_k hv hk
      · by_cases e : k = i.toNatClampNeg
        · subst e
          exact g3 _ h1 (Or.inr (up_v hv).symm)
        · refine g3 k h1 ?_
          rcases h2 with h2 | h2
          · exact Or.inl (by omega)
          · exact Or.inr (by rw [up_f hv (by omega)]; exact h2)
theorem lm_ends : ∀ (n : Nat) (i : Int32) (nu : Nat → Nat → Int32), 0 ≤ i.toInt → i.toInt ≤ 24 → (24 - i.toInt).toNat < n → (L_qm_town_81_1 n i nu).1 = nu 0 8 ∧ (∀ k : Nat, k ≠ 0 → k ≠ 9 → k ≠ 15 → (L_qm_town_81_1 n i nu).2 k = nu k) ∧ (∀ f : Nat, f < 24 → (i.toNatClampNeg ≤ f ∨ nu 9 f = nu 13 f) → (L_qm_town_81_1 n i nu).2 9 f = nu 13 f) ∧ (∀ k : Nat, k < 3 → (L_qm_town_81_1 n i nu).2 15 (64 * k) = -9) ∧ ((L_qm_town_81_1 n i nu).2 0 8 = nu 0 8 ∧ (L_qm_town_81_1 n i nu).2 0 11 = nu 0 11 ∧ (L_qm_town_81_1 n i nu).2 0 13 = 0 ∧ (L_qm_town_81_1 n i nu).2 0 14 = 0 ∧ (L_qm_town_81_1 n i nu).2 0 15 = 0 ∧ (L_qm_town_81_1 n i nu).2 0 17 = 0) := by
  intro n
  induction n with
  | zero => intro i nu _ _ h; exact absurd h (Nat.not_lt_zero _)
  | succ n ih =>
    intro i nu h0 h3 hn
    have z24 : (24 : Int32).toInt = 24 := rfl
    have hc := tC_of h0
    rw [L_qm_town_81_1]
    by_cases c : i ≥ (24 : Int32)
    · rw [if_pos c]
      have c2 := vv_ge.mp c
      simp only [letv_eq]
      generalize h1 : va_up nu 0 (upd (nu 0) 13 0) = m1
      generalize h2 : va_up m1 0 (upd (m1 0) 14 0) = m2
      generalize h3 : va_up m2 0 (upd (m2 0) 15 0) = m3
      generalize h4 : va_up m3 0 (upd (m3 0) 17 0) = m4
      obtain ⟨g1, g2, g3⟩ := lm_kept 6 0 m4 (by decide) (by decide) (by decide)
      have mk : ∀ k : Nat, k ≠ 0 → m4 k = nu k := fun k h => (up_k h4 h).trans ((up_k h3 h).trans ((up_k h2 h).trans (up_k h1 h)))
      have mf : ∀ f : Nat, f ≠ 13 → f ≠ 14 → f ≠ 15 → f ≠ 17 → m4 0 f = nu 0 f := fun f a b c d => (up_f h4 d).trans ((up_f h3 c).trans ((up_f h2 b).trans (up_f h1 a)))
      have e0 := g2 0 (by decide)
      refine ⟨?_, fun k a b d => ?_, fun f hf hor => ?_, fun k hk => ?_, ?_, ?_, ?_, ?_, ?_, ?_⟩
      · rw [g1]; exact mf 8 (by decide) (by decide) (by decide) (by decide)
      · rw [g2 k d]; exact mk k a
      · rw [g2 9 (by decide), mk 9 (by decide)]
        exact hor.elim (fun h => by omega) id
      · exact g3 k hk (Or.inl (Nat.zero_le _))
      · rw [e0]; exact mf 8 (by decide) (by decide) (by decide) (by decide)
      · rw [e0]; exact mf 11 (by decide) (by decide) (by decide) (by decide)
      · rw [e0]; exact (up_f h4 (by decide)).trans ((up_f h3 (by decide)).trans ((up_f h2 (by decide)).trans (up_v h1).symm))
      · rw [e0]; exact (up_f h4 (by decide)).trans ((up_f h3 (by decide)).trans (up_v h2).symm)
      · rw [e0]; exact (up_f h4 (by decide)).trans (up_v h3).symm
      · rw [e0]; exact (up_v h4).symm
    · have c2 : ¬ (24 : Int32).toInt ≤ i.toInt := fun h => c (vv_ge.mpr h)
      rw [if_neg c]
      simp only [letv_eq]
      have ai : (i + 1 : Int32).toInt = i.toInt + 1 := tI_add rfl (rfl : (1 : Int32).toInt = 1) (by omega) (by omega)
      have hc1 := tC_of (v := i + 1) (by omega)
      generalize hv : va_up nu 9 (upd (nu 9) i.toNatClampNeg (nu 13 i.toNatClampNeg)) = nu1
      obtain ⟨g1, g2, g3, g4, g5⟩ := ih (i + 1) nu1 (by omega) (by omega) (by omega)
      have k0 := up_k hv (j := 0) (by decide)
      have k13 := up_k hv (j := 13) (by decide)
      refine ⟨?_, fun k a b d => ?_, fun f hf hor => ?_, g4, ?_⟩
      · rw [g1, k0]
      · rw [g2 k a b d]; exact up_k hv b
      · rw [g3 f hf ?_, k13]
        rw [k13]
        by_cases e : f = i.toNatClampNeg
        · subst e
          exact Or.inr (up_v hv).symm
        · rcases hor with h | h
          · exact Or.inl (by omega)
          · exact Or.inr (by rw [up_f hv e]; exact h)
      · rw [k0] at g5
        exact g5
theorem lm_kinds : ∀ (n : Nat) (i : Int32) (nu : Nat → Nat → Int32), 0 ≤ i.toInt → i.toInt ≤ 7 → (7 - i.toInt).toNat < n → (L_qm_town_43_0 n i nu).1 = nu 0 8 ∧ (∀ f : Nat, f < 7 → (i.toNatClampNeg ≤ f ∨ (nu 7 f = nu 11 f ∧ nu 8 f = nu 12 f)) → (L_qm_town_43_0 n i nu).2 7 f = nu 11 f ∧ (L_qm_town_43_0 n i nu).2 8 f = nu 12 f) ∧ (∀ f : Nat, f < 24 → (L_qm_town_43_0 n i nu).2 9 f = nu 13 f) ∧ (∀ k : Nat, k < 3 → (L_qm_town_43_0 n i nu).2 15 (64 * k) = -9) ∧ ((L_qm_town_43_0 n i nu).2 0 8 = nu 0 8 ∧ (L_qm_town_43_0 n i nu).2 0 11 = nu 0 11 ∧ (L_qm_town_43_0 n i nu).2 0 13 = 0 ∧ (L_qm_town_43_0 n i nu).2 0 14 = 0 ∧ (L_qm_town_43_0 n i nu).2 0 15 = 0 ∧ (L_qm_town_43_0 n i nu).2 0 17 = 0) := by
  intro n
  induction n with
  | zero => intro i nu _ _ h; exact absurd h (Nat.not_lt_zero _)
  | succ n ih =>
    intro i nu h0 h3 hn
    have z7 : (7 : Int32).toInt = 7 := rfl
    have hc := tC_of h0
    rw [L_qm_town_43_0]
    by_cases c : i ≥ (7 : Int32)
    · rw [if_pos c]
      have c2 := vv_ge.mp c
      obtain ⟨g1, g2, g3, g4, g5⟩ := lm_ends 27 0 nu (by decide) (by decide) (by decide)
      refine ⟨g1, fun f hf hor => ?_, fun f hf => g3 f hf (Or.inl (Nat.zero_le _)), g4, g5⟩
      rw [g2 7 (by decide) (by decide) (by decide), g2 8 (by decide) (by decide) (by decide)]
      exact hor.elim (fun h => by omega) id
    · have c2 : ¬ (7 : Int32).toInt ≤ i.toInt := fun h => c (vv_ge.mpr h)
      rw [if_neg c]
      simp only [letv_eq]
      have ai : (i + 1 : Int32).toInt = i.toInt + 1 := tI_add rfl (rfl : (1 : Int32).toInt = 1) (by omega) (by omega)
      have hc1 := tC_of (v := i + 1) (by omega)
      generalize hv : va_up nu 7 (upd (nu 7) i.toNatClampNeg (nu 11 i.toNatClampNeg)) = nu1
      generalize hw : va_up nu1 8 (upd (nu1 8) i.toNatClampNeg (nu1 12 i.toNatClampNeg)) = nu2
      obtain ⟨g1, g2, g3, g4, g5⟩ := ih (i + 1) nu2 (by omega) (by omega) (by omega)
      have kk : ∀ k : Nat, k ≠ 7 → k ≠ 8 → nu2 k = nu k := fun k a b => (up_k hw b).trans (up_k hv a)
      rw [kk 0 (by decide) (by decide)] at g1 g5
      rw [kk 11 (by decide) (by decide), kk 12 (by decide) (by decide)] at g2
      rw [kk 13 (by decide) (by decide)] at g3
      refine ⟨g1, fun f hf hor => g2 f hf ?_, g3, g4, g5⟩
      by_cases e : f = i.toNatClampNeg
      · subst e
        refine Or.inr ⟨?_, ?_⟩
        · rw [congrFun (up_k hw (by decide)) _]; exact (up_v hv).symm
        · rw [← up_v hw, congrFun (up_k hv (by decide)) _]
      · rcases hor with h | ⟨h1, h2⟩
        · exact Or.inl (by omega)
        · refine Or.inr ⟨?_, ?_⟩
          · rw [congrFun (up_k hw (by decide)) _, up_f hv e]; exact h1
          · rw [up_f hw e, congrFun (up_k hv (by decide)) _]; exact h2
def endR (mum : Nat → Nat → Int32) : Prop := ∀ j : Nat, j < (mum 0 11).toNatClampNeg → (0 ≤ (mum 9 (2 * j)).toInt ∧ (mum 9 (2 * j)).toInt < (mum 0 8).toInt) ∧ (0 ≤ (mum 9 (2 * j + 1)).toInt ∧ (mum 9 (2 * j + 1)).toInt < (mum 0 8).toInt)
/-- what town makes, and what it leaves where it refuses -/
def newT (mux mum : Nat → Nat → Int32) : Prop := (∀ x : Nat, x < (mum 0 8).toNatClampNeg → mux 46 x = mum 8 x) ∧ (mux 5 2 = 0 ∧ mux 5 3 = 0 ∧ mux 5 4 = 0 ∧ mux 6 1 = 0) ∧ (mum 0 13 = 0 ∧ mum 0 14 = 0 ∧ mum 0 15 = 0 ∧ mum 0 17 = 0) ∧ (∀ k : Nat, k < 3 → mux (18 + k) 5 = 0 ∧ mum 15 (64 * k) = -9) ∧ (mum 0 8).toInt ≤ 7 ∧ (∀ x : Nat, x < (mum 0 8).toNatClampNeg → 0 ≤ (mum 8 x).toInt ∧ (mum 8 x).toInt ≤ 99)
theorem town_rel {t r1 r2 : Int32} {mux mum xi1 xi2 : Nat → Nat → Int32} (okx : okR loX hiX mux) (okm : okR loM hiM mum) (h : simT mux mum) (h1 : (r1, xi1) = F_qx_town mux t) (h2 : (r2, xi2) = F_qm_town mum t) : r1 = r2 ∧ ((simK xi1 xi2 ∧ endR xi2 ∧ newT xi1 xi2) ∨ ((∀ k f : Nat, gpX k f ≠ 0 → xi1 k f = mux k f) ∧ (∀ k f : Nat, gpM k f ≠ 0 → xi2 k f = mum k f))) := by
  have kX : ∀ k f : Nat, gpX k f ≠ 0 → (k ≠ 31 ∧ k ≠ 48 ∧ k ≠ 49 ∧ k ≠ 50 ∧ k ≠ 51) ∧ k ≠ 0 ∧ k ≠ 7 := by
    intro k f hg
    refine ⟨⟨?_, ?_, ?_, ?_, ?_⟩, ?_, ?_⟩ <;> (intro e; subst e; exact hg rfl)
  have kM : ∀ k f : Nat, gpM k f ≠ 0 → (k ≠ 11 ∧ k ≠ 12 ∧ k ≠ 13 ∧ ¬ (k = 0 ∧ 18 ≤ f ∧ f ≤ 20)) ∧ k ≠ 1 ∧ ¬ (k = 0 ∧ f = 0) := by
    intro k f hg
    refine ⟨⟨?_, ?_, ?_, ?_⟩, ?_, ?_⟩
    · intro e; subst e; exact hg rfl
    · intro e; subst e; exact hg rfl
    · intro e; subst e; exact hg rfl
    · rintro ⟨e, a, b⟩
      subst e
      have : f = 18 ∨ f = 19 ∨ f = 20 := by omega
      rcases this with e | e | e <;> (subst e; exact hg rfl)
    · intro e; subst e; exact hg rfl
    · rintro ⟨e, a⟩
      subst e a
      exact hg rfl
  unfold F_qx_town at h1
  unfold F_qm_town at h2
  rcases refT_of (t := t) h with ⟨ct, hp, q1, q2⟩ | ⟨q1, q2⟩ | ⟨q1, q2⟩
  · rw [q1] at h1
    rw [q2] at h2
    simp only [letp_eq] at h1 h2
    rw [if_pos trivial] at h1
    rw [if_pos trivial] at h2
    have pr := parse_rel ct (simT_prT okx okm h ct hp)
    have fx : ∀ k f : Nat, gpX k f ≠ 0 → (F_sx_faultIn mux (14 + t.toNatClampNeg)).2 k f = mux k f := fun k f hg => congrFun (kx_parse (kX k f hg).1) f
    have fm : ∀ k f : Nat, gpM k f ≠ 0 → (F_sm_goesOn mum t).2 k f = mum k f := fun k f hg => km_parse (kM k f hg).1
    by_cases q : (F_sx_faultIn mux (14 + t.toNatClampNeg)).1 = -9
    · have q2 : (F_sm_goesOn mum t).1 = -9 := pr.1.symm.trans q
      obtain ⟨d1, d2, d3, d4, d5, d6, d7⟩ := pr.2 q
      rw [if_pos q] at h1
      rw [if_pos q2] at h2
      generalize (F_sx_faultIn mux (14 + t.toNatClampNeg)).2 = x0 at h1 d1 d2 d3 d4 d5 d6 d7
      generalize (F_sm_goesOn mum t).2 = m0 at h2 d1 d2 d3 d4 d5 d6 d7
      simp only [F_sx_build, letv_eq] at h1
      simp only [letv_eq] at h2
      have z0 : (0 : Int32).toNatClampNeg = 0 := rfl
      generalize hm1 : va_up m0 0 (upd (m0 0) 8 (m0 0 19)) = m1 at h2
      have e20 : m1 0 20 = m0 0 20 := up_f hm1 (by decide)
      rw [e20] at h2
      generalize hm2 : va_up m1 0 (upd (m1 0) 11 (m0 0 20)) = m2 at h2
      obtain ⟨g1, g2, g3, g4, g5⟩ := lm_kinds 10 0 m2 (by decide) (by decide) (by decide)
      rw [← h2] at g1 g2 g3 g4 g5
      have g1 : r2 = m2 0 8 := g1
      have g2 : ∀ f : Nat, f < 7 → ((0 : Int32).toNatClampNeg ≤ f ∨ (m2 7 f = m2 11 f ∧ m2 8 f = m2 12 f)) → xi2 7 f = m2 11 f ∧ xi2 8 f = m2 12 f := g2
      have g3 : ∀ f : Nat, f < 24 → xi2 9 f = m2 13 f := g3
      have g4 : ∀ k : Nat, k < 3 → xi2 15 (64 * k) = -9 := g4
      have g5 : xi2 0 8 = m2 0 8 ∧ xi2 0 11 = m2 0 11 ∧ xi2 0 13 = 0 ∧ xi2 0 14 = 0 ∧ xi2 0 15 = 0 ∧ xi2 0 17 = 0 := g5
      have n8 : m2 0 8 = m0 0 19 := (up_f hm2 (by decide)).trans (up_v hm1).symm
      have n11 : m2 0 11 = m0 0 20 := (up_v hm2).symm
      have nk : ∀ k : Nat, k ≠ 0 → m2 k = m0 k := fun k hk => (up_k hm2 hk).trans (up_k hm1 hk)
      rw [d1, z0] at h1
      generalize hx1 : va_up x0 34 (va_cpy (x0 48) (x0 34) 0 0 (m0 0 19).toNatClampNeg) = x1 at h1
      have k31 : x1 31 5 = m0 0 20 := (congrFun (up_k hx1 (by decide)) 5).trans d2
      rw [k31] at h1
      generalize hx2 : va_up x1 35 (va_cpy (x1 50) (x1 35) 0 0 (m0 0 20).toNatClampNeg) = x2 at h1
      generalize hx3 : va_up x2 36 (va_cpy (x2 51) (x2 36) 0 0 (m0 0 20).toNatClampNeg) = x3 at h1
      generalize hx4 : va_up x3 46 (va_cpy (x3 49) (x3 46) 0 0 (m0 0 19).toNatClampNeg) = x4 at h1
      generalize hx5 : va_up x4 4 (upd (x4 4) 6 (m0 0 19)) = x5 at h1
      generalize hx6 : va_up x5 4 (upd (x5 4) 7 (m0 0 20)) = x6 at h1
      generalize hx7 : va_up x6 5 (upd (x6 5) 2 0) = x7 at h1
      generalize hx8 : va_up x7 5 (upd (x7 5) 3 0) = x8 at h1
      generalize hx9 : va_up x8 5 (upd (x8 5) 4 0) = x9 at h1
      generalize hx10 : va_up x9 6 (upd (x9 6) 1 0) = x10 at h1
      obtain ⟨l1, l2, l3⟩ := lx_town 6 0 x10 (by decide) (by decide) (by decide)
      rw [← h1] at l1 l2 l3
      have l1 : r1 = x10 4 6 := l1
      have l2 : ∀ k : Nat, k < 18 ∨ 21 ≤ k → xi1 k = x10 k := l2
      have l3 : ∀ k : Nat, (0 : Int32).toNatClampNeg ≤ k → k < 3 → xi1 (18 + k) 5 = 0 := l3
      have y46 : x10 4 6 = m0 0 19 := (congrFun (up_k hx10 (by decide)) 6).trans ((congrFun (up_k hx9 (by decide)) 6).trans ((congrFun (up_k hx8 (by decide)) 6).trans ((congrFun (up_k hx7 (by decide)) 6).trans ((up_f hx6 (by decide)).trans (up_v hx5).symm))))
      have y47 : x10 4 7 = m0 0 20 := (congrFun (up_k hx10 (by decide)) 7).trans ((congrFun (up_k hx9 (by decide)) 7).trans ((congrFun (up_k hx8 (by decide)) 7).trans ((congrFun (up_k hx7 (by decide)) 7).trans (up_v hx6).symm)))
      have yk : ∀ k : Nat, k ≠ 4 → k ≠ 5 → k ≠ 6 → x10 k = x4 k := fun k a b c => (up_k hx10 c).trans ((up_k hx9 b).trans ((up_k hx8 b).trans ((up_k hx7 b).trans ((up_k hx6 a).trans (up_k hx5 a)))))
      have cp : ∀ (f g : Nat → Int32) (n j : Nat), j < n → va_cpy f g 0 0 n j = f j := fun f g n j hj => by
        unfold va_cpy
        rw [if_pos ⟨Nat.zero_le _, by omega⟩, Nat.zero_add, Nat.sub_zero]
      have y34 : ∀ x : Nat, x < (m0 0 19).toNatClampNeg → x10 34 x = x0 48 x := fun x hx => by
        rw [yk 34 (by decide) (by decide) (by decide), up_k hx4 (by decide), up_k hx3 (by decide), up_k hx2 (by decide), ← hx1]
        show (if (34 : Nat) = 34 then va_cpy (x0 48) (x0 34) 0 0 (m0 0 19).toNatClampNeg else x0 34) x = _
        rw [if_pos rfl]
        exact cp _ _ _ _ hx
      have y35 : ∀ x : Nat, x < (m0 0 20).toNatClampNeg → x10 35 x = x0 50 x := fun x hx => by
        rw [yk 35 (by decide) (by decide) (by decide), up_k hx4 (by decide), up_k hx3 (by decide), ← hx2]
        show (if (35 : Nat) = 35 then va_cpy (x1 50) (x1 35) 0 0 (m0 0 20).toNatClampNeg else x1 35) x = _
        rw [if_pos rfl, cp _ _ _ _ hx, up_k hx1 (by decide)]
      have y36 : ∀ x : Nat, x < (m0 0 20).toNatClampNeg → x10 36 x = x0 51 x := fun x hx => by
        rw [yk 36 (by decide) (by decide) (by decide), up_k hx4 (by decide), ← hx3]
        show (if (36 : Nat) = 36 then va_cpy (x2 51) (x2 36) 0 0 (m0 0 20).toNatClampNeg else x2 36) x = _
        rw [if_pos rfl, cp _ _ _ _ hx, up_k hx2 (by decide), up_k hx1 (by decide)]
      have y46p : ∀ x : Nat, x < (m0 0 19).toNatClampNeg → x10 46 x = x0 49 x := fun x hx => by
        rw [yk 46 (by decide) (by decide) (by decide), ← hx4]
        show (if (46 : Nat) = 46 then va_cpy (x3 49) (x3 46) 0 0 (m0 0 19).toNatClampNeg else x3 46) x = _
        rw [if_pos rfl, cp _ _ _ _ hx, up_k hx3 (by decide), up_k hx2 (by decide), up_k hx1 (by decide)]
      have hb := tC_of d3.1
      have hpn := tC_of d4.1
      refine ⟨by rw [l1, g1, y46, n8], Or.inl ⟨⟨?_, ?_, fun x hx => ?_, fun j hj => ?_⟩, fun j hj => ?_, fun x hx => ?_, ⟨?_, ?_, ?_, ?_⟩, ⟨g5.2.2.1, g5.2.2.2.1, g5.2.2.2.2.1, g5.2.2.2.2.2⟩, fun k hk => ⟨l3 k (Nat.zero_le _) hk, g4 k hk⟩, ?_, fun x hx => ?_⟩⟩
      · rw [l2 4 (by decide), g5.1, y46, n8]
      · rw [l2 4 (by decide), g5.2.1, y47, n11]
      · rw [g5.1, n8] at hx
        rw [l2 34 (by decide), (g2 x (by omega) (Or.inl (Nat.zero_le _))).1, nk 11 (by decide), y34 x hx]
        exact (d5 x hx).1
      · rw [g5.2.1, n11] at hj
        rw [l2 35 (by decide), l2 36 (by decide), g3 _ (by omega), g3 _ (by omega), nk 13 (by decide), y35 j hj, y36 j hj]
        exact d6 j hj
      · rw [g5.2.1, n11] at hj
        rw [g5.1, n8, g3 _ (by omega), g3 _ (by omega), nk 13 (by decide)]
        exact d7 j hj
      · rw [g5.1, n8] at hx
        rw [l2 46 (by decide), (g2 x (by omega) (Or.inl (Nat.zero_le _))).2, nk 12 (by decide), y46p x hx]
        exact (d5 x hx).2.1
      · rw [l2 5 (by decide)]
        exact (congrFun (up_k hx10 (by decide)) 2).trans ((up_f hx9 (by decide)).trans ((up_f hx8 (by decide)).trans (up_v hx7).symm))
      · rw [l2 5 (by decide)]
        exact (congrFun (up_k hx10 (by decide)) 3).trans ((up_f hx9 (by decide)).trans (up_v hx8).symm)
      · rw [l2 5 (by decide)]
        exact (congrFun (up_k hx10 (by decide)) 4).trans (up_v hx9).symm
      · rw [l2 6 (by decide)]
        exact (up_v hx10).symm
      · rw [g5.1, n8]; exact d3.2
      · rw [g5.1, n8] at hx
        rw [(g2 x (by omega) (Or.inl (Nat.zero_le _))).2, nk 12 (by decide)]
        exact (d5 x hx).2.2
    · have q2 : ¬ (F_sm_goesOn mum t).1 = -9 := fun e => q (pr.1.trans e)
      rw [if_neg q] at h1
      rw [if_neg q2] at h2
      have e1 : r1 = -4 := congrArg Prod.fst h1
      have e2 : xi1 = _ := congrArg Prod.snd h1
      have e3 : r2 = -4 := congrArg Prod.fst h2
      have e4 : xi2 = _ := congrArg Prod.snd h2
      rw [e2, e4]
      exact ⟨e1.trans e3.symm, Or.inr ⟨fx, fm⟩⟩
  · rw [q1] at h1
    rw [q2] at h2
    simp only [letp_eq] at h1 h2
    rw [if_neg (show ¬ (-3 : Int32) = 0 by decide)] at h1 h2
    have e1 : r1 = -3 := congrArg Prod.fst h1
    have e2 : xi1 = (F_sx_found mux 1).2 := congrArg Prod.snd h1
    have e3 : r2 = -3 := congrArg Prod.fst h2
    have e4 : xi2 = (F_sm_meet mum 1).2 := congrArg Prod.snd h2
    refine ⟨e1.trans e3.symm, Or.inr ⟨fun k f hg => ?_, fun k f hg => ?_⟩⟩
    · rw [e2]
      have hk := kX k f hg
      exact fx_found.2 k f hk.2.1 hk.2.2
    · rw [e4]
      have hk := kM k f hg
      by_cases e : k = 0
      · subst e
        exact fm_meet.2.2 f (fun e2 => hk.2.2 ⟨rfl, e2⟩)
      · exact fm_meet.2.1 k f e hk.2.1
  · rw [q1] at h1
    rw [q2] at h2
    simp only [letp_eq] at h1 h2
    rw [if_neg (show ¬ (-1 : Int32) = 0 by decide)] at h1 h2
    have e1 : r1 = -1 := congrArg Prod.fst h1
    have e2 : xi1 = mux := congrArg Prod.snd h1
    have e3 : r2 = -1 := congrArg Prod.fst h2
    have e4 : xi2 = mum := congrArg Prod.snd h2
    rw [e2, e4]
    exact ⟨e1.trans e3.symm, Or.inr ⟨fun _ _ _ => rfl, fun _ _ _ => rfl⟩⟩
theorem fx_has {mu : Nat → Nat → Int32} {x : Int32} : F_sx_has mu x = 1 ↔ 0 ≤ x.toInt ∧ x.toInt < (mu 4 6).toInt := by
  have z0 : (0 : Int32).toInt = 0 := rfl
  simp only [F_sx_has, letv_eq]
  by_cases c1 : x < (0 : Int32)
  · rw [if_pos c1]
    have c2 := vv_lt.mp c1
    exact ⟨fun h => absurd h (by decide), fun h => by omega⟩
  · rw [if_neg c1]
    have c2 : ¬ x.toInt < (0 : Int32).toInt := fun h => c1 (vv_lt.mpr h)
    by_cases c3 : x ≥ mu 4 6
    · rw [if_pos c3]
      have c4 := vv_ge.mp c3
      exact ⟨fun h => absurd h (by decide), fun h => by omega⟩
    · rw [if_neg c3]
      have c4 : ¬ (mu 4 6).toInt ≤ x.toInt := fun h => c3 (vv_ge.mpr h)
      exact ⟨fun _ => ⟨by omega, by omega⟩, fun _ => rfl⟩
theorem fm_isOne {mu : Nat → Nat → Int32} {x : Int32} (hb : 0 ≤ (mu 0 8).toInt ∧ (mu 0 8).toInt ≤ 7) : F_sm_isOne mu x = 1 ↔ 0 ≤ x.toInt ∧ x.toInt < (mu 0 8).toInt := by
  have z0 : (0 : Int32).toInt = 0 := rfl
  have s3 : (mu 0 8 - 1 : Int32).toInt = (mu 0 8).toInt - 1 := tI_sub rfl (rfl : (1 : Int32).toInt = 1) (by omega) (by omega)
  simp only [F_sm_isOne, letv_eq]
  by_cases c : F_sm_in x 0 (mu 0 8 - 1) = 1
  · rw [if_pos c]
    have c2 := fm_in.mp c
    exact ⟨fun _ => ⟨by omega, by omega⟩, fun _ => rfl⟩
  · rw [if_neg c]
    exact ⟨fun h => absurd h (by decide), fun h => absurd (fm_in.mpr ⟨by omega, by omega⟩) c⟩
theorem asks_rel {x p r1 r2 : Int32} {mux mum xi1 xi2 : Nat → Nat → Int32} (okm : okR loM hiM mum) (h : simK mux mum) (h1 : (r1, xi1) = F_qx_asks mux x p) (h2 : (r2, xi2) = F_qm_asks mum x p) : r1 = r2 := by
  obtain ⟨a, b, c, d⟩ := h
  have hb : 0 ≤ (mum 0 8).toInt ∧ (mum 0 8).toInt ≤ 7 := okm 0 8
  have z0 : (0 : Int32).toInt = 0 := rfl
  have z9 : (999 : Int32).toInt = 999 := rfl
  simp only [F_qx_asks, letv_eq] at h1
  simp only [F_qm_asks, letv_eq] at h2
  by_cases cx : 0 ≤ x.toInt ∧ x.toInt < (mum 0 8).toInt
  · rw [if_pos (fx_has.mpr (by rw [a]; exact cx))] at h1
    rw [if_pos ((fm_isOne hb).mpr cx)] at h2
    have hx := tC_of cx.1
    have hbn := tC_of hb.1
    rw [c x.toNatClampNeg (by omega)] at h1
    by_cases cp : 0 ≤ p.toInt ∧ p.toInt ≤ 999
    · rw [if_neg (fun e => by have := vv_lt.mp e; omega), if_pos (vv_le.mpr (by omega))] at h1
      rw [if_pos (fm_in.mpr ⟨by omega, by omega⟩)] at h2
      have e1 : r1 = _ := congrArg Prod.fst h1
      have e2 : r2 = _ := congrArg Prod.fst h2
      rw [e1, e2]
      rfl
    · rw [if_neg (fun e => by have := fm_in.mp e; omega)] at h2
      have e2 : r2 = -1 := congrArg Prod.fst h2
      by_cases c1 : p < (0 : Int32)
      · rw [if_pos c1] at h1
        exact (congrArg Prod.fst h1).trans e2.symm
      · have c2 : ¬ p.toInt < (0 : Int32).toInt := fun e => c1 (vv_lt.mpr e)
        rw [if_neg c1, if_neg (fun e => by have := vv_le.mp e; omega)] at h1
        exact (congrArg Prod.fst h1).trans e2.symm
  · rw [if_neg (fun e => cx (by have := fx_has.mp e; rw [a] at this; exact this))] at h1
    rw [if_neg (fun e => cx ((fm_isOne hb).mp e))] at h2
    exact (congrArg Prod.fst h1).trans (congrArg Prod.fst h2).symm
theorem town_simK {mux mum xi1 xi2 : Nat → Nat → Int32} (h : (simK xi1 xi2 ∧ newT xi1 xi2) ∨ ((∀ k f : Nat, gpX k f ≠ 0 → xi1 k f = mux k f) ∧ (∀ k f : Nat, gpM k f ≠ 0 → xi2 k f = mum k f))) (h0 : simK mux mum) : simK xi1 xi2 := by
  rcases h with ⟨a, -⟩ | ⟨a, b⟩
  · exact a
  · exact simK_of h0 (fun k f e => a k f (by rw [e]; decide)) (fun k f e => b k f (by rw [e]; decide))

-- ===== answers that hang on the TOWN alone =====
theorem fm_ask {mu : Nat → Nat → Int32} {a b : Int32} : (F_sm_ask mu a b).1 = b := rfl
theorem bearer_rel {x w r1 r2 : Int32} {mux mum xi1 xi2 : Nat → Nat → Int32} (okm : okR loM hiM mum) (h : simK mux mum) (h1 : (r1, xi1) = F_qx_bearer mux x w) (h2 : (r2, xi2) = F_qm_bearer mum x w) : r1 = r2 := by
  obtain ⟨a, b, c, d⟩ := h
  have hb : 0 ≤ (mum 0 8).toInt ∧ (mum 0 8).toInt ≤ 7 := okm 0 8
  have z0 : (0 : Int32).toInt = 0 := rfl
  have z3 : (3 : Int32).toInt = 3 := rfl
  have z4 : (4 : Int32).toInt = 4 := rfl
  simp only [F_qx_bearer, letv_eq] at h1
  simp only [F_qm_bearer, letv_eq, letp_eq] at h2
  by_cases cx : 0 ≤ x.toInt ∧ x.toInt < (mum 0 8).toInt
  · rw [if_pos (fx_has.mpr (by rw [a]; exact cx))] at h1
    rw [if_pos ((fm_isOne hb).mpr cx)] at h2
    by_cases cp : 0 ≤ w.toInt ∧ w.toInt ≤ 3
    · rw [if_neg (fun e => by have := vv_lt.mp e; omega), if_pos (vv_lt.mpr (by omega))] at h1
      rw [if_pos (fm_in.mpr ⟨by omega, by omega⟩)] at h2
      exact (Prod.mk.inj h1).1.trans ((Prod.mk.inj h2).1.trans fm_ask).symm
    · rw [if_neg (fun e => by have := fm_in.mp e; omega)] at h2
      by_cases c1 : w < (0 : Int32)
      · rw [if_pos c1] at h1
        exact (Prod.mk.inj h1).1.trans (Prod.mk.inj h2).1.symm
      · have c2 : ¬ w.toInt < (0 : Int32).toInt := fun e => c1 (vv_lt.mpr e)
        rw [if_neg c1, if_neg (fun e => by have := vv_lt.mp e; omega)] at h1
        exact (Prod.mk.inj h1).1.trans (Prod.mk.inj h2).1.symm
  · rw [if_neg (fun e => cx (by have := fx_has.mp e; rw [a] at this; exact this))] at h1
    rw [if_neg (fun e => cx ((fm_isOne hb).mp e))] at h2
    exact (Prod.mk.inj h1).1.trans (Prod.mk.inj h2).1.symm
theorem lm_gain {x : Int32} : ∀ (n : Nat) (v i : Int32) (nu : Nat → Nat → Int32), 0 ≤ (nu 0 17).toInt → (nu 0 17).toInt ≤ 40 → 0 ≤ i.toInt → i.toInt ≤ 40 → (40 - i.toInt).toNat < n → (L_qm_gain_14_0 x n v i nu).1 = 1 := by
  intro n
  induction n with
  | zero => intro v i nu _ _ _ _ h; exact absurd h (Nat.not_lt_zero _)
  | succ n ih =>
    intro v i nu h1 h2 h3 h4 h5
    rw [L_qm_gain_14_0]
    simp only [letv_eq, letp_eq]
    by_cases c : i ≥ nu 0 17
    · rw [if_pos c]
      exact fm_ask
    · have c2 : ¬ (nu 0 17).toInt ≤ i.toInt := fun h => c (vv_ge.mpr h)
      have ai : (i + 1 : Int32).toInt = i.toInt + 1 := tI_add rfl (rfl : (1 : Int32).toInt = 1) (by omega) (by omega)
      rw [if_neg c]
      repeat' split
      all_goals exact ih _ _ _ h1 h2 (by omega) (by omega) (by omega)
theorem gain_rel {x r1 r2 : Int32} {mux mum xi1 xi2 : Nat → Nat → Int32} (okm : okR loM hiM mum) (h : simK mux mum) (h1 : (r1, xi1) = F_qx_gain mux x) (h2 : (r2, xi2) = F_qm_gain mum x) : r1 = r2 := by
  obtain ⟨a, b, c, d⟩ := h
  have hb : 0 ≤ (mum 0 8).toInt ∧ (mum 0 8).toInt ≤ 7 := okm 0 8
  have hs : 0 ≤ (mum 0 17).toInt ∧ (mum 0 17).toInt ≤ 40 := okm 0 17
  simp only [F_qx_gain, letv_eq] at h1
  simp only [F_qm_gain] at h2
  by_cases cx : 0 ≤ x.toInt ∧ x.toInt < (mum 0 8).toInt
  · rw [if_pos (fx_has.mpr (by rw [a]; exact cx))] at h1
    rw [if_pos ((fm_isOne hb).mpr cx)] at h2
    have e2 := lm_gain (x := x) 43 0 0 mum hs.1 hs.2 (by decide) (by decide) (by decide)
    rw [p_fst h2] at e2
    exact (Prod.mk.inj h1).1.trans e2.symm
  · rw [if_neg (fun e => cx (by have := fx_has.mp e; rw [a] at this; exact this))] at h1
    rw [if_neg (fun e => cx ((fm_isOne hb).mp e))] at h2
    exact (Prod.mk.inj h1).1.trans (Prod.mk.inj h2).1.symm

-- ===== a letter, a standing made like another =====
theorem fx_like {mu : Nat → Nat → Int32} {kk kl : Nat} (hne : kl ≠ kk) : ∀ k f : Nat, F_sx_Letter_beLike mu kk kl k f = if k = kk ∧ f < 10 then mu kl f else mu k f := by
  intro k f
  unfold F_sx_Letter_beLike
  simp only [letv_eq]
  generalize h0 : va_up mu kk (upd (mu kk) 0 (mu kl 0)) = n0
  have a0 : n0 kl = mu kl := up_k h0 hne
  have s1 : n0 kl 1 = mu kl 1 := congrFun a0 1
  rw [s1]
  generalize h1 : va_up n0 kk (upd (n0 kk) 1 (mu kl 1)) = n1
  have a1 : n1 kl = mu kl := (up_k h1 hne).trans a0
  have s2 : n1 kl 2 = mu kl 2 := congrFun a1 2
  rw [s2]
  generalize h2 : va_up n1 kk (upd (n1 kk) 2 (mu kl 2)) = n2
  have a2 : n2 kl = mu kl := (up_k h2 hne).trans a1
  have s3 : n2 kl 3 = mu kl 3 := congrFun a2 3
  rw [s3]
  generalize h3 : va_up n2 kk (upd (n2 kk) 3 (mu kl 3)) = n3
  have a3 : n3 kl = mu kl := (up_k h3 hne).trans a2
  have s4 : n3 kl 4 = mu kl 4 := congrFun a3 4
  rw [s4]
  generalize h4 : va_up n3 kk (upd (n3 kk) 4 (mu kl 4)) = n4
  have a4 : n4 kl = mu kl := (up_k h4 hne).trans a3
  have s5 : n4 kl 5 = mu kl 5 := congrFun a4 5
  rw [s5]
  generalize h5 : va_up n4 kk (upd (n4 kk) 5 (mu kl 5)) = n5
  have a5 : n5 kl = mu kl := (up_k h5 hne).trans a4
  have s6 : n5 kl 6 = mu kl 6 := congrFun a5 6
  rw [s6]
  generalize h6 : va_up n5 kk (upd (n5 kk) 6 (mu kl 6)) = n6
  have a6 : n6 kl = mu kl := (up_k h6 hne).trans a5
  have s7 : n6 kl 7 = mu kl 7 := congrFun a6 7
  rw [s7]
  generalize h7 : va_up n6 kk (upd (n6 kk) 7 (mu kl 7)) = n7
  have a7 : n7 kl = mu kl := (up_k h7 hne).trans a6
  have s8 : n7 kl 8 = mu kl 8 := congrFun a7 8
  rw [s8]
  generalize h8 : va_up n7 kk (upd (n7 kk) 8 (mu kl 8)) = n8
  have a8 : n8 kl = mu kl := (up_k h8 hne).trans a7
  have s9 : n8 kl 9 = mu kl 9 := congrFun a8 9
  rw [s9]
  generalize h9 : va_up n8 kk (upd (n8 kk) 9 (mu kl 9)) = n9
  have a9 : n9 kl = mu kl := (up_k h9 hne).trans a8
  by_cases e : k = kk
  · subst e
    by_cases c : f < 10
    · rw [if_pos ⟨rfl, c⟩]
      match f, c with
      | 0, _ => exact (up_f h9 (by decide)).trans ((up_f h8 (by decide)).trans ((up_f h7 (by decide)).trans ((up_f h6 (by decide)).trans ((up_f h5 (by decide)).trans ((up_f h4 (by decide)).trans ((up_f h3 (by decide)).trans ((up_f h2 (by decide)).trans ((up_f h1 (by decide)).trans ((up_v h0).symm)))))))))
      | 1, _ => exact (up_f h9 (by decide)).trans ((up_f h8 (by decide)).trans ((up_f h7 (by decide)).trans ((up_f h6 (by decide)).trans ((up_f h5 (by decide)).trans ((up_f h4 (by decide)).trans ((up_f h3 (by decide)).trans ((up_f h2 (by decide)).trans ((up_v h1).symm))))))))
      | 2, _ => exact (up_f h9 (by decide)).trans ((up_f h8 (by decide)).trans ((up_f h7 (by decide)).trans ((up_f h6 (by decide)).trans ((up_f h5 (by decide)).trans ((up_f h4 (by decide)).trans ((up_f h3 (by decide)).trans ((up_v h2).symm)))))))
      | 3, _ => exact (up_f h9 (by decide)).trans ((up_f h8 (by decide)).trans ((up_f h7 (by decide)).trans ((up_f h6 (by decide)).trans ((up_f h5 (by decide)).trans ((up_f h4 (by decide)).trans ((up_v h3).symm))))))
      | 4, _ => exact (up_f h9 (by decide)).trans ((up_f h8 (by decide)).trans ((up_f h7 (by decide)).trans ((up_f h6 (by decide)).trans ((up_f h5 (by decide)).trans ((up_v h4).symm)))))
      | 5, _ => exact (up_f h9 (by decide)).trans ((up_f h8 (by decide)).trans ((up_f h7 (by decide)).trans ((up_f h6 (by decide)).trans ((up_v h5).symm))))
      | 6, _ => exact (up_f h9 (by decide)).trans ((up_f h8 (by decide)).trans ((up_f h7 (by decide)).trans ((up_v h6).symm)))
      | 7, _ => exact (up_f h9 (by decide)).trans ((up_f h8 (by decide)).trans ((up_v h7).symm))
      | 8, _ => exact (up_f h9 (by decide)).trans ((up_v h8).symm)
      | 9, _ => exact (up_v h9).symm
      | f + 10, c => exact absurd c (by omega)
    · rw [if_neg (fun h => c h.2)]
      exact (up_f h9 (by omega)).trans ((up_f h8 (by omega)).trans ((up_f h7 (by omega)).trans ((up_f h6 (by omega)).trans ((up_f h5 (by omega)).trans ((up_f h4 (by omega)).trans ((up_f h3 (by omega)).trans ((up_f h2 (by omega)).trans ((up_f h1 (by omega)).trans (up_f h0 (by omega))))))))))
  · rw [if_neg (fun h => e h.1)]
    exact congrFun ((up_k h9 e).trans ((up_k h8 e).trans ((up_k h7 e).trans ((up_k h6 e).trans ((up_k h5 e).trans ((up_k h4 e).trans ((up_k h3 e).trans ((up_k h2 e).trans ((up_k h1 e).trans (up_k h0 e)))))))))) f
theorem ll_5_18 : ∀ (n : Nat) (i : Int32) (nu : Nat → Nat → Int32), 0 ≤ i.toInt → i.toInt ≤ 4 → (4 - i.toInt).toNat < n → ∀ k f : Nat, L_sx_Standing_beLike_5_18_17_0 n i nu k f = if 61 + i.toNatClampNeg ≤ k ∧ k < 65 ∧ f < 10 then nu (k - 61 + 65) f else if k = 5 ∧ 2 ≤ f ∧ f ≤ 4 then nu 18 f else nu k f := by
  intro n
  induction n with
  | zero => intro i nu _ _ h; exact absurd h (Nat.not_lt_zero _)
  | succ n ih =>
    intro i nu h0 h4 hn k f
    have z4 : (4 : Int32).toInt = 4 := rfl
    have hc := tC_of h0
    rw [L_sx_Standing_beLike_5_18_17_0]
    by_cases c : i ≥ (4 : Int32)
    · have c2 := vv_ge.mp c
      rw [if_pos c, if_neg (fun h => by omega)]
      simp only [letv_eq]
      generalize h1 : va_up nu 5 (upd (nu 5) 2 (nu 18 2)) = n1
      rw [show n1 18 3 = nu 18 3 from congrFun (up_k h1 (by decide)) 3]
      generalize h2 : va_up n1 5 (upd (n1 5) 3 (nu 18 3)) = n2
      rw [show n2 18 4 = nu 18 4 from congrFun ((up_k h2 (by decide)).trans (up_k h1 (by decide))) 4]
      generalize h3 : va_up n2 5 (upd (n2 5) 4 (nu 18 4)) = n3
      by_cases e : k = 5
      · subst e
        by_cases c5 : 2 ≤ f ∧ f ≤ 4
        · rw [if_pos ⟨rfl, c5⟩]
          have : f = 2 ∨ f = 3 ∨ f = 4 := by omega
          rcases this with rfl | rfl | rfl
          · exact (up_f h3 (by decide)).trans ((up_f h2 (by decide)).trans (up_v h1).symm)
          · exact (up_f h3 (by decide)).trans (up_v h2).symm
          · exact (up_v h3).symm
        · rw [if_neg (fun h => c5 h.2)]
          exact (up_f h3 (by omega)).trans ((up_f h2 (by omega)).trans (up_f h1 (by omega)))
      · rw [if_neg (fun h => e h.1)]
        exact congrFun ((up_k h3 e).trans ((up_k h2 e).trans (up_k h1 e))) f
    · have c2 : ¬ (4 : Int32).toInt ≤ i.toInt := fun h => c (vv_ge.mpr h)
      rw [if_neg c]
      simp only [letv_eq]
      have ai : (i + 1 : Int32).toInt = i.toInt + 1 := tI_add rfl (rfl : (1 : Int32).toInt = 1) (by omega) (by omega)
      have hc1 := tC_of (v := i + 1) (by omega)
      have lk := fx_like (mu := nu) (kk := 61 + i.toNatClampNeg) (kl := 65 + i.toNatClampNeg) (by omega)
      generalize F_sx_Letter_beLike nu (61 + i.toNatClampNeg) (65 + i.toNatClampNeg) = nu1 at lk ⊢
      rw [ih (i + 1) nu1 (by omega) (by omega) (by omega) k f]
      by_cases e : k = 61 + i.toNatClampNeg ∧ f < 10
      · obtain ⟨e, ef⟩ := e
        subst e
        rw [if_neg (fun h => by omega), if_neg (fun h => by omega), lk, if_pos ⟨rfl, ef⟩, if_pos ⟨by omega, by omega, ef⟩, show 61 + i.toNatClampNeg - 61 + 65 = 65 + i.toNatClampNeg by omega]
      · by_cases c5 : 61 + i.toNatClampNeg ≤ k ∧ k < 65 ∧ f < 10
        · rw [if_pos (by omega), if_pos c5, lk, if_neg (fun h => by omega)]
        · have lb : nu1 18 f = nu 18 f := by rw [lk, if_neg (fun h => by omega)]
          have lkk : nu1 k f = nu k f := by rw [lk, if_neg e]
          rw [if_neg (by omega), if_neg c5, lb, lkk]
theorem fx_like_5_18 {mu : Nat → Nat → Int32} : ∀ k f : Nat, F_sx_Standing_beLike_5_18 mu k f = if 61 ≤ k ∧ k < 65 ∧ f < 10 then mu (k - 61 + 65) f else if k = 5 ∧ 2 ≤ f ∧ f ≤ 4 then mu 18 f else if k = 46 ∧ f < 7 then mu 40 f else mu k f := by
  intro k f
  unfold F_sx_Standing_beLike_5_18
  simp only [letv_eq]
  have z0 : (0 : Int32).toNatClampNeg = 0 := rfl
  have z7 : (7 : Int32).toNatClampNeg = 7 := rfl
  have key := ll_5_18 7 0 (va_up mu 46 (va_cpy (mu 40) (mu 46) (0 : Int32).toNatClampNeg (0 : Int32).toNatClampNeg (7 : Int32).toNatClampNeg)) (by decide) (by decide) (by decide) k f
  rw [key, z0, z7]
  generalize h1 : va_up mu 46 (va_cpy (mu 40) (mu 46) 0 0 7) = n1
  have e1 : ∀ j : Nat, j ≠ 46 → n1 j = mu j := fun j hj => up_k h1 hj
  have e2 : ∀ g : Nat, n1 46 g = if g < 7 then mu 40 g else mu 46 g := fun g => by
    rw [← h1]
    by_cases cg : g < 7 <;> simp [va_up, va_cpy, cg]
  by_cases c1 : 61 ≤ k ∧ k < 65 ∧ f < 10
  · rw [if_pos (by omega), if_pos c1, e1 _ (by omega)]
  · rw [if_neg (by omega), if_neg c1]
    by_cases c2 : k = 5 ∧ 2 ≤ f ∧ f ≤ 4
    · rw [if_pos c2, if_pos c2, e1 _ (by decide)]
    · rw [if_neg c2, if_neg c2]
      by_cases c3 : k = 46
      · subst c3
        rw [e2]
        by_cases c4 : f < 7
        · rw [if_pos c4, if_pos ⟨rfl, c4⟩]
        · rw [if_neg c4, if_neg (fun h => c4 h.2)]
      · rw [e1 _ c3, if_neg (fun h => c3 h.1)]
theorem ll_5_19 : ∀ (n : Nat) (i : Int32) (nu : Nat → Nat → Int32), 0 ≤ i.toInt → i.toInt ≤ 4 → (4 - i.toInt).toNat < n → ∀ k f : Nat, L_sx_Standing_beLike_5_19_17_0 n i nu k f = if 61 + i.toNatClampNeg ≤ k ∧ k < 65 ∧ f < 10 then nu (k - 61 + 69) f else if k = 5 ∧ 2 ≤ f ∧ f ≤ 4 then nu 19 f else nu k f := by
  intro n
  induction n with
  | zero => intro i nu _ _ h; exact absurd h (Nat.not_lt_zero _)
  | succ n ih =>
    intro i nu h0 h4 hn k f
    have z4 : (4 : Int32).toInt = 4 := rfl
    have hc := tC_of h0
    rw [L_sx_Standing_beLike_5_19_17_0]
    by_cases c : i ≥ (4 : Int32)
    · have c2 := vv_ge.mp c
      rw [if_pos c, if_neg (fun h => by omega)]
      simp only [letv_eq]
      generalize h1 : va_up nu 5 (upd (nu 5) 2 (nu 19 2)) = n1
      rw [show n1 19 3 = nu 19 3 from congrFun (up_k h1 (by decide)) 3]
      generalize h2 : va_up n1 5 (upd (n1 5) 3 (nu 19 3)) = n2
      rw [show n2 19 4 = nu 19 4 from congrFun ((up_k h2 (by decide)).trans (up_k h1 (by decide))) 4]
      generalize h3 : va_up n2 5 (upd (n2 5) 4 (nu 19 4)) = n3
      by_cases e : k = 5
      · subst e
        by_cases c5 : 2 ≤ f ∧ f ≤ 4
        · rw [if_pos ⟨rfl, c5⟩]
          have : f = 2 ∨ f = 3 ∨ f = 4 := by omega
          rcases this with rfl | rfl | rfl
          · exact (up_f h3 (by decide)).trans ((up_f h2 (by decide)).trans (up_v h1).symm)
          · exact (up_f h3 (by decide)).trans (up_v h2).symm
          · exact (up_v h3).symm
        · rw [if_neg (fun h => c5 h.2)]
          exact (up_f h3 (by omega)).trans ((up_f h2 (by omega)).trans (up_f h1 (by omega)))
      · rw [if_neg (fun h => e h.1)]
        exact congrFun ((up_k h3 e).trans ((up_k h2 e).trans (up_k h1 e))) f
    · have c2 : ¬ (4 : Int32).toInt ≤ i.toInt := fun h => c (vv_ge.mpr h)
      rw [if_neg c]
      simp only [letv_eq]
      have ai : (i + 1 : Int32).toInt = i.toInt + 1 := tI_add rfl (rfl : (1 : Int32).toInt = 1) (by omega) (by omega)
      have hc1 := tC_of (v := i + 1) (by omega)
      have lk := fx_like (mu := nu) (kk := 61 + i.toNatClampNeg) (kl := 69 + i.toNatClampNeg) (by omega)
      generalize F_sx_Letter_beLike nu (61 + i.toNatClampNeg) (69 + i.toNatClampNeg) = nu1 at lk ⊢
      rw [ih (i + 1) nu1 (by omega) (by omega) (by omega) k f]
      by_cases e : k = 61 + i.toNatClampNeg ∧ f < 10
      · obtain ⟨e, ef⟩ := e
        subst e
        rw [if_neg (fun h => by omega), if_neg (fun h => by omega), lk, if_pos ⟨rfl, ef⟩, if_pos ⟨by omega, by omega, ef⟩, show 61 + i.toNatClampNeg - 61 + 69 = 69 + i.toNatClampNeg by omega]
      · by_cases c5 : 61 + i.toNatClampNeg ≤ k ∧ k < 65 ∧ f < 10
        · rw [if_pos (by omega), if_pos c5, lk, if_neg (fun h => by omega)]
        · have lb : nu1 19 f = nu 19 f := by rw [lk, if_neg (fun h => by omega)]
          have lkk : nu1 k f = nu k f := by rw [lk, if_neg e]
          rw [if_neg (by omega), if_neg c5, lb, lkk]
theorem fx_like_5_19 {mu : Nat → Nat → Int32} : ∀ k f : Nat, F_sx_Standing_beLike_5_19 mu k f = if 61 ≤ k ∧ k < 65 ∧ f < 10 then mu (k - 61 + 69) f else if k = 5 ∧ 2 ≤ f ∧ f ≤ 4 then mu 19 f else if k = 46 ∧ f < 7 then mu 41 f else mu k f := by
  intro k f
  unfold F_sx_Standing_beLike_5_19
  simp only [letv_eq]
  have z0 : (0 : Int32).toNatClampNeg = 0 := rfl
  have z7 : (7 : Int32).toNatClampNeg = 7 := rfl
  have key := ll_5_19 7 0 (va_up mu 46 (va_cpy (mu 41) (mu 46) (0 : Int32).toNatClampNeg (0 : Int32).toNatClampNeg (7 : Int32).toNatClampNeg)) (by decide) (by decide) (by decide) k f
  rw [key, z0, z7]
  generalize h1 : va_up mu 46 (va_cpy (mu 41) (mu 46) 0 0 7) = n1
  have e1 : ∀ j : Nat, j ≠ 46 → n1 j = mu j := fun j hj => up_k h1 hj
  have e2 : ∀ g : Nat, n1 46 g = if g < 7 then mu 41 g else mu 46 g := fun g => by
    rw [← h1]
    by_cases cg : g < 7 <;> simp [va_up, va_cpy, cg]
  by_cases c1 : 61 ≤ k ∧ k < 65 ∧ f < 10
  · rw [if_pos (by omega), if_pos c1, e1 _ (by omega)]
  · rw [if_neg (by omega), if_neg c1]
    by_cases c2 : k = 5 ∧ 2 ≤ f ∧ f ≤ 4
    · rw [if_pos c2, if_pos c2, e1 _ (by decide)]
    · rw [if_neg c2, if_neg c2]
      by_cases c3 : k = 46
      · subst c3
        rw [e2]
        by_cases c4 : f < 7
        · rw [if_pos c4, if_pos ⟨rfl, c4⟩]
        · rw [if_neg c4, if_neg (fun h => c4 h.2)]
      · rw [e1 _ c3, if_neg (fun h => c3 h.1)]
theorem ll_5_20 : ∀ (n : Nat) (i : Int32) (nu : Nat → Nat → Int32), 0 ≤ i.toInt → i.toInt ≤ 4 → (4 - i.toInt).toNat < n → ∀ k f : Nat, L_sx_Standing_beLike_5_20_17_0 n i nu k f = if 61 + i.toNatClampNeg ≤ k ∧ k < 65 ∧ f < 10 then nu (k - 61 + 73) f else if k = 5 ∧ 2 ≤ f ∧ f ≤ 4 then nu 20 f else nu k f := by
  intro n
  induction n with
  | zero => intro i nu _ _ h; exact absurd h (Nat.not_lt_zero _)
  | succ n ih =>
    intro i nu h0 h4 hn k f
    have z4 : (4 : Int32).toInt = 4 := rfl
    have hc := tC_of h0
    rw [L_sx_Standing_beLike_5_20_17_0]
    by_cases c : i ≥ (4 : Int32)
    · have c2 := vv_ge.mp c
      rw [if_pos c, if_neg (fun h => by omega)]
      simp only [letv_eq]
      generalize h1 : va_up nu 5 (upd (nu 5) 2 (nu 20 2)) = n1
      rw [show n1 20 3 = nu 20 3 from congrFun (up_k h1 (by decide)) 3]
      generalize h2 : va_up n1 5 (upd (n1 5) 3 (nu 20 3)) = n2
      rw [show n2 20 4 = nu 20 4 from congrFun ((up_k h2 (by decide)).trans (up_k h1 (by decide))) 4]
      generalize h3 : va_up n2 5 (upd (n2 5) 4 (nu 20 4)) = n3
      by_cases e : k = 5
      · subst e
        by_cases c5 : 2 ≤ f ∧ f ≤ 4
        · rw [if_pos ⟨rfl, c5⟩]
          have : f = 2 ∨ f = 3 ∨ f = 4 := by omega
          rcases this with rfl | rfl | rfl
          · exact (up_f h3 (by decide)).trans ((up_f h2 (by decide)).trans (up_v h1).symm)
          · exact (up_f h3 (by decide)).trans (up_v h2).symm
          · exact (up_v h3).symm
        · rw [if_neg (fun h => c5 h.2)]
          exact (up_f h3 (by omega)).trans ((up_f h2 (by omega)).trans (up_f h1 (by omega)))
      · rw [if_neg (fun h => e h.1)]
        exact congrFun ((up_k h3 e).trans ((up_k h2 e).trans (up_k h1 e))) f
    · have c2 : ¬ (4 : Int32).toInt ≤ i.toInt := fun h => c (vv_ge.mpr h)
      rw [if_neg c]
      simp only [letv_eq]
      have ai : (i + 1 : Int32).toInt = i.toInt + 1 := tI_add rfl (rfl : (1 : Int32).toInt = 1) (by omega) (by omega)
      have hc1 := tC_of (v := i + 1) (by omega)
      have lk := fx_like (mu := nu) (kk := 61 + i.toNatClampNeg) (kl := 73 + i.toNatClampNeg) (by omega)
      generalize F_sx_Letter_beLike nu (61 + i.toNatClampNeg) (73 + i.toNatClampNeg) = nu1 at lk ⊢
      rw [ih (i + 1) nu1 (by omega) (by omega) (by omega) k f]
      by_cases e : k = 61 + i.toNatClampNeg ∧ f < 10
      · obtain ⟨e, ef⟩ := e
        subst e
        rw [if_neg (fun h => by omega), if_neg (fun h => by omega), lk, if_pos ⟨rfl, ef⟩, if_pos ⟨by omega, by omega, ef⟩, show 61 + i.toNatClampNeg - 61 + 73 = 73 + i.toNatClampNeg by omega]
      · by_cases c5 : 61 + i.toNatClampNeg ≤ k ∧ k < 65 ∧ f < 10
        · rw [if_pos (by omega), if_pos c5, lk, if_neg (fun h => by omega)]
        · have lb : nu1 20 f = nu 20 f := by rw [lk, if_neg (fun h => by omega)]
          have lkk : nu1 k f = nu k f := by rw [lk, if_neg e]
          rw [if_neg (by omega), if_neg c5, lb, lkk]
theorem fx_like_5_20 {mu : Nat → Nat → Int32} : ∀ k f : Nat, F_sx_Standing_beLike_5_20 mu k f = if 61 ≤ k ∧ k < 65 ∧ f < 10 then mu (k - 61 + 73) f else if k = 5 ∧ 2 ≤ f ∧ f ≤ 4 then mu 20 f else if k = 46 ∧ f < 7 then mu 42 f else mu k f := by
  intro k f
  unfold F_sx_Standing_beLike_5_20
  simp only [letv_eq]
  have z0 : (0 : Int32).toNatClampNeg = 0 := rfl
  have z7 : (7 : Int32).toNatClampNeg = 7 := rfl
  have key := ll_5_20 7 0 (va_up mu 46 (va_cpy (mu 42) (mu 46) (0 : Int32).toNatClampNeg (0 : Int32).toNatClampNeg (7 : Int32).toNatClampNeg)) (by decide) (by decide) (by decide) k f
  rw [key, z0, z7]
  generalize h1 : va_up mu 46 (va_cpy (mu 42) (mu 46) 0 0 7) = n1
  have e1 : ∀ j : Nat, j ≠ 46 → n1 j = mu j := fun j hj => up_k h1 hj
  have e2 : ∀ g : Nat, n1 46 g = if g < 7 then mu 42 g else mu 46 g := fun g => by
    rw [← h1]
    by_cases cg : g < 7 <;> simp [va_up, va_cpy, cg]
  by_cases c1 : 61 ≤ k ∧ k < 65 ∧ f < 10
  · rw [if_pos (by omega), if_pos c1, e1 _ (by omega)]
  · rw [if_neg (by omega), if_neg c1]
    by_cases c2 : k = 5 ∧ 2 ≤ f ∧ f ≤ 4
    · rw [if_pos c2, if_pos c2, e1 _ (by decide)]
    · rw [if_neg c2, if_neg c2]
      by_cases c3 : k = 46
      · subst c3
        rw [e2]
        by_cases c4 : f < 7
        · rw [if_pos c4, if_pos ⟨rfl, c4⟩]
        · rw [if_neg c4, if_neg (fun h => c4 h.2)]
      · rw [e1 _ c3, if_neg (fun h => c3 h.1)]
theorem ll_18_5 : ∀ (n : Nat) (i : Int32) (nu : Nat → Nat → Int32), 0 ≤ i.toInt → i.toInt ≤ 4 → (4 - i.toInt).toNat < n → ∀ k f : Nat, L_sx_Standing_beLike_18_5_17_0 n i nu k f = if 65 + i.toNatClampNeg ≤ k ∧ k < 69 ∧ f < 10 then nu (k - 65 + 61) f else if k = 18 ∧ 2 ≤ f ∧ f ≤ 4 then nu 5 f else nu k f := by
  intro n
  induction n with
  | zero => intro i nu _ _ h; exact absurd h (Nat.not_lt_zero _)
  | succ n ih =>
    intro i nu h0 h4 hn k f
    have z4 : (4 : Int32).toInt = 4 := rfl
    have hc := tC_of h0
    rw [L_sx_Standing_beLike_18_5_17_0]
    by_cases c : i ≥ (4 : Int32)
    · have c2 := vv_ge.mp c
      rw [if_pos c, if_neg (fun h => by omega)]
      simp only [letv_eq]
      generalize h1 : va_up nu 18 (upd (nu 18) 2 (nu 5 2)) = n1
      rw [show n1 5 3 = nu 5 3 from congrFun (up_k h1 (by decide)) 3]
      generalize h2 : va_up n1 18 (upd (n1 18) 3 (nu 5 3)) = n2
      rw [show n2 5 4 = nu 5 4 from congrFun ((up_k h2 (by decide)).trans (up_k h1 (by decide))) 4]
      generalize h3 : va_up n2 18 (upd (n2 18) 4 (nu 5 4)) = n3
      by_cases e : k = 18
      · subst e
        by_cases c5 : 2 ≤ f ∧ f ≤ 4
        · rw [if_pos ⟨rfl, c5⟩]
          have : f = 2 ∨ f = 3 ∨ f = 4 := by omega
          rcases this with rfl | rfl | rfl
          · exact (up_f h3 (by decide)).trans ((up_f h2 (by decide)).trans (up_v h1).symm)
          · exact (up_f h3 (by decide)).trans (up_v h2).symm
          · exact (up_v h3).symm
        · rw [if_neg (fun h => c5 h.2)]
          exact (up_f h3 (by omega)).trans ((up_f h2 (by omega)).trans (up_f h1 (by omega)))
      · rw [if_neg (fun h => e h.1)]
        exact congrFun ((up_k h3 e).trans ((up_k h2 e).trans (up_k h1 e))) f
    · have c2 : ¬ (4 : Int32).toInt ≤ i.toInt := fun h => c (vv_ge.mpr h)
      rw [if_neg c]
      simp only [letv_eq]
      have ai : (i + 1 : Int32).toInt = i.toInt + 1 := tI_add rfl (rfl : (1 : Int32).toInt = 1) (by omega) (by omega)
      have hc1 := tC_of (v := i + 1) (by omega)
      have lk := fx_like (mu := nu) (kk := 65 + i.toNatClampNeg) (kl := 61 + i.toNatClampNeg) (by omega)
      generalize F_sx_Letter_beLike nu (65 + i.toNatClampNeg) (61 + i.toNatClampNeg) = nu1 at lk ⊢
      rw [ih (i + 1) nu1 (by omega) (by omega) (by omega) k f]
      by_cases e : k = 65 + i.toNatClampNeg ∧ f < 10
      · obtain ⟨e, ef⟩ := e
        subst e
        rw [if_neg (fun h => by omega), if_neg (fun h => by omega), lk, if_pos ⟨rfl, ef⟩, if_pos ⟨by omega, by omega, ef⟩, show 65 + i.toNatClampNeg - 65 + 61 = 61 + i.toNatClampNeg by omega]
      · by_cases c5 : 65 + i.toNatClampNeg ≤ k ∧ k < 69 ∧ f < 10
        · rw [if_pos (by omega), if_pos c5, lk, if_neg (fun h => by omega)]
        · have lb : nu1 5 f = nu 5 f := by rw [lk, if_neg (fun h => by omega)]
          have lkk : nu1 k f = nu k f := by rw [lk, if_neg e]
          rw [if_neg (by omega), if_neg c5, lb, lkk]
theorem fx_like_18_5 {mu : Nat → Nat → Int32} : ∀ k f : Nat, F_sx_Standing_beLike_18_5 mu k f = if 65 ≤ k ∧ k < 69 ∧ f < 10 then mu (k - 65 + 61) f else if k = 18 ∧ 2 ≤ f ∧ f ≤ 4 then mu 5 f else if k = 40 ∧ f < 7 then mu 46 f else mu k f := by
  intro k f
  unfold F_sx_Standing_beLike_18_5
  simp only [letv_eq]
  have z0 : (0 : Int32).toNatClampNeg = 0 := rfl
  have z7 : (7 : Int32).toNatClampNeg = 7 := rfl
  have key := ll_18_5 7 0 (va_up mu 40 (va_cpy (mu 46) (mu 40) (0 : Int32).toNatClampNeg (0 : Int32).toNatClampNeg (7 : Int32).toNatClampNeg)) (by decide) (by decide) (by decide) k f
  rw [key, z0, z7]
  generalize h1 : va_up mu 40 (va_cpy (mu 46) (mu 40) 0 0 7) = n1
  have e1 : ∀ j : Nat, j ≠ 40 → n1 j = mu j := fun j hj => up_k h1 hj
  have e2 : ∀ g : Nat, n1 40 g = if g < 7 then mu 46 g else mu 40 g := fun g => by
    rw [← h1]
    by_cases cg : g < 7 <;> simp [va_up, va_cpy, cg]
  by_cases c1 : 65 ≤ k ∧ k < 69 ∧ f < 10
  · rw [if_pos (by omega), if_pos c1, e1 _ (by omega)]
  · rw [if_neg (by omega), if_neg c1]
    by_cases c2 : k = 18 ∧ 2 ≤ f ∧ f ≤ 4
    · rw [if_pos c2, if_pos c2, e1 _ (by decide)]
    · rw [if_neg c2, if_neg c2]
      by_cases c3 : k = 40
      · subst c3
        rw [e2]
        by_cases c4 : f < 7
        · rw [if_pos c4, if_pos ⟨rfl, c4⟩]
        · rw [if_neg c4, if_neg (fun h => c4 h.2)]
      · rw [e1 _ c3, if_neg (fun h => c3 h.1)]
theorem ll_19_5 : ∀ (n : Nat) (i : Int32) (nu : Nat → Nat → Int32), 0 ≤ i.toInt → i.toInt ≤ 4 → (4 - i.toInt).toNat < n → ∀ k f : Nat, L_sx_Standing_beLike_19_5_17_0 n i nu k f = if 69 + i.toNatClampNeg ≤ k ∧ k < 73 ∧ f < 10 then nu (k - 69 + 61) f else if k = 19 ∧ 2 ≤ f ∧ f ≤ 4 then nu 5 f else nu k f := by
  intro n
  induction n with
  | zero => intro i nu _ _ h; exact absurd h (Nat.not_lt_zero _)
  | succ n ih =>
    intro i nu h0 h4 hn k f
    have z4 : (4 : Int32).toInt = 4 := rfl
    have hc := tC_of h0
    rw [L_sx_Standing_beLike_19_5_17_0]
    by_cases c : i ≥ (4 : Int32)
    · have c2 := vv_ge.mp c
      rw [if_pos c, if_neg (fun h => by omega)]
      simp only [letv_eq]
      generalize h1 : va_up nu 19 (upd (nu 19) 2 (nu 5 2)) = n1
      rw [show n1 5 3 = nu 5 3 from congrFun (up_k h1 (by decide)) 3]
      generalize h2 : va_up n1 19 (upd (n1 19) 3 (nu 5 3)) = n2
      rw [show n2 5 4 = nu 5 4 from congrFun ((up_k h2 (by decide)).trans (up_k h1 (by decide))) 4]
      generalize h3 : va_up n2 19 (upd (n2 19) 4 (nu 5 4)) = n3
      by_cases e : k = 19
      · subst e
        by_cases c5 : 2 ≤ f ∧ f ≤ 4
        · rw [if_pos ⟨rfl, c5⟩]
          have : f = 2 ∨ f = 3 ∨ f = 4 := by omega
          rcases this with rfl | rfl | rfl
          · exact (up_f h3 (by decide)).trans ((up_f h2 (by decide)).trans (up_v h1).symm)
          · exact (up_f h3 (by decide)).trans (up_v h2).symm
          · exact (up_v h3).symm
        · rw [if_neg (fun h => c5 h.2)]
          exact (up_f h3 (by omega)).trans ((up_f h2 (by omega)).trans (up_f h1 (by omega)))
      · rw [if_neg (fun h => e h.1)]
        exact congrFun ((up_k h3 e).trans ((up_k h2 e).trans (up_k h1 e))) f
    · have c2 : ¬ (4 : Int32).toInt ≤ i.toInt := fun h => c (vv_ge.mpr h)
      rw [if_neg c]
      simp only [letv_eq]
      have ai : (i + 1 : Int32).toInt = i.toInt + 1 := tI_add rfl (rfl : (1 : Int32).toInt = 1) (by omega) (by omega)
      have hc1 := tC_of (v := i + 1) (by omega)
      have lk := fx_like (mu := nu) (kk := 69 + i.toNatClampNeg) (kl := 61 + i.toNatClampNeg) (by omega)
      generalize F_sx_Letter_beLike nu (69 + i.toNatClampNeg) (61 + i.toNatClampNeg) = nu1 at lk ⊢
      rw [ih (i + 1) nu1 (by omega) (by omega) (by omega) k f]
      by_cases e : k = 69 + i.toNatClampNeg ∧ f < 10
      · obtain ⟨e, ef⟩ := e
        subst e
        rw [if_neg (fun h => by omega), if_neg (fun h => by omega), lk, if_pos ⟨rfl, ef⟩, if_pos ⟨by omega, by omega, ef⟩, show 69 + i.toNatClampNeg - 69 + 61 = 61 + i.toNatClampNeg by omega]
      · by_cases c5 : 69 + i.toNatClampNeg ≤ k ∧ k < 73 ∧ f < 10
        · rw [if_pos (by omega), if_pos c5, lk, if_neg (fun h => by omega)]
        · have lb : nu1 5 f = nu 5 f := by rw [lk, if_neg (fun h => by omega)]
          have lkk : nu1 k f = nu k f := by rw [lk, if_neg e]
          rw [if_neg (by omega), if_neg c5, lb, lkk]
theorem fx_like_19_5 {mu : Nat → Nat → Int32} : ∀ k f : Nat, F_sx_Standing_beLike_19_5 mu k f = if 69 ≤ k ∧ k < 73 ∧ f < 10 then mu (k - 69 + 61) f else if k = 19 ∧ 2 ≤ f ∧ f ≤ 4 then mu 5 f else if k = 41 ∧ f < 7 then mu 46 f else mu k f := by
  intro k f
  unfold F_sx_Standing_beLike_19_5
  simp only [letv_eq]
  have z0 : (0 : Int32).toNatClampNeg = 0 := rfl
  have z7 : (7 : Int32).toNatClampNeg = 7 := rfl
  have key := ll_19_5 7 0 (va_up mu 41 (va_cpy (mu 46) (mu 41) (0 : Int32).toNatClampNeg (0 : Int32).toNatClampNeg (7 : Int32).toNatClampNeg)) (by decide) (by decide) (by decide) k f
  rw [key, z0, z7]
  generalize h1 : va_up mu 41 (va_cpy (mu 46) (mu 41) 0 0 7) = n1
  have e1 : ∀ j : Nat, j ≠ 41 → n1 j = mu j := fun j hj => up_k h1 hj
  have e2 : ∀ g : Nat, n1 41 g = if g < 7 then mu 46 g else mu 41 g := fun g => by
    rw [← h1]
    by_cases cg : g < 7 <;> simp [va_up, va_cpy, cg]
  by_cases c1 : 69 ≤ k ∧ k < 73 ∧ f < 10
  · rw [if_pos (by omega), if_pos c1, e1 _ (by omega)]
  · rw [if_neg (by omega), if_neg c1]
    by_cases c2 : k = 19 ∧ 2 ≤ f ∧ f ≤ 4
    · rw [if_pos c2, if_pos c2, e1 _ (by decide)]
    · rw [if_neg c2, if_neg c2]
      by_cases c3 : k = 41
      · subst c3
        rw [e2]
        by_cases c4 : f < 7
        · rw [if_pos c4, if_pos ⟨rfl, c4⟩]
        · rw [if_neg c4, if_neg (fun h => c4 h.2)]
      · rw [e1 _ c3, if_neg (fun h => c3 h.1)]
theorem ll_20_5 : ∀ (n : Nat) (i : Int32) (nu : Nat → Nat → Int32), 0 ≤ i.toInt → i.toInt ≤ 4 → (4 - i.toInt).toNat < n → ∀ k f : Nat, L_sx_Standing_beLike_20_5_17_0 n i nu k f = if 73 + i.toNatClampNeg ≤ k ∧ k < 77 ∧ f < 10 then nu (k - 73 + 61) f else if k = 20 ∧ 2 ≤ f ∧ f ≤ 4 then nu 5 f else nu k f := by
  intro n
  induction n with
  | zero => intro i nu _ _ h; exact absurd h (Nat.not_lt_zero _)
  | succ n ih =>
    intro i nu h0 h4 hn k f
    have z4 : (4 : Int32).toInt = 4 := rfl
    have hc := tC_of h0
    rw [L_sx_Standing_beLike_20_5_17_0]
    by_cases c : i ≥ (4 : Int32)
    · have c2 := vv_ge.mp c
      rw [if_pos c, if_neg (fun h => by omega)]
      simp only [letv_eq]
      generalize h1 : va_up nu 20 (upd (nu 20) 2 (nu 5 2)) = n1
      rw [show n1 5 3 = nu 5 3 from congrFun (up_k h1 (by decide)) 3]
      generalize h2 : va_up n1 20 (upd (n1 20) 3 (nu 5 3)) = n2
      rw [show n2 5 4 = nu 5 4 from congrFun ((up_k h2 (by decide)).trans (up_k h1 (by decide))) 4]
      generalize h3 : va_up n2 20 (upd (n2 20) 4 (nu 5 4)) = n3
      by_cases e : k = 20
      · subst e
        by_cases c5 : 2 ≤ f ∧ f ≤ 4
        · rw [if_pos ⟨rfl, c5⟩]
          have : f = 2 ∨ f = 3 ∨ f = 4 := by omega
          rcases this with rfl | rfl | rfl
          · exact (up_f h3 (by decide)).trans ((up_f h2 (by decide)).trans (up_v h1).symm)
          · exact (up_f h3 (by decide)).trans (up_v h2).symm
          · exact (up_v h3).symm
        · rw [if_neg (fun h => c5 h.2)]
          exact (up_f h3 (by omega)).trans ((up_f h2 (by omega)).trans (up_f h1 (by omega)))
      · rw [if_neg (fun h => e h.1)]
        exact congrFun ((up_k h3 e).trans ((up_k h2 e).trans (up_k h1 e))) f
    · have c2 : ¬ (4 : Int32).toInt ≤ i.toInt := fun h => c (vv_ge.mpr h)
      rw [if_neg c]
      simp only [letv_eq]
      have ai : (i + 1 : Int32).toInt = i.toInt + 1 := tI_add rfl (rfl : (1 : Int32).toInt = 1) (by omega) (by omega)
      have hc1 := tC_of (v := i + 1) (by omega)
      have lk := fx_like (mu := nu) (kk := 73 + i.toNatClampNeg) (kl := 61 + i.toNatClampNeg) (by omega)
      generalize F_sx_Letter_beLike nu (73 + i.toNatClampNeg) (61 + i.toNatClampNeg) = nu1 at lk ⊢
      rw [ih (i + 1) nu1 (by omega) (by omega) (by omega) k f]
      by_cases e : k = 73 + i.toNatClampNeg ∧ f < 10
      · obtain ⟨e, ef⟩ := e
        subst e
        rw [if_neg (fun h => by omega), if_neg (fun h => by omega), lk, if_pos ⟨rfl, ef⟩, if_pos ⟨by omega, by omega, ef⟩, show 73 + i.toNatClampNeg - 73 + 61 = 61 + i.toNatClampNeg by omega]
      · by_cases c5 : 73 + i.toNatClampNeg ≤ k ∧ k < 77 ∧ f < 10
        · rw [if_pos (by omega), if_pos c5, lk, if_neg (fun h => by omega)]
        · have lb : nu1 5 f = nu 5 f := by rw [lk, if_neg (fun h => by omega)]
          have lkk : nu1 k f = nu k f := by rw [lk, if_neg e]
          rw [if_neg (by omega), if_neg c5, lb, lkk]
theorem fx_like_20_5 {mu : Nat → Nat → Int32} : ∀ k f : Nat, F_sx_Standing_beLike_20_5 mu k f = if 73 ≤ k ∧ k < 77 ∧ f < 10 then mu (k - 73 + 61) f else if k = 20 ∧ 2 ≤ f ∧ f ≤ 4 then mu 5 f else if k = 42 ∧ f < 7 then mu 46 f else mu k f := by
  intro k f
  unfold F_sx_Standing_beLike_20_5
  simp only [letv_eq]
  have z0 : (0 : Int32).toNatClampNeg = 0 := rfl
  have z7 : (7 : Int32).toNatClampNeg = 7 := rfl
  have key := ll_20_5 7 0 (va_up mu 42 (va_cpy (mu 46) (mu 42) (0 : Int32).toNatClampNeg (0 : Int32).toNatClampNeg (7 : Int32).toNatClampNeg)) (by decide) (by decide) (by decide) k f
  rw [key, z0, z7]
  generalize h1 : va_up mu 42 (va_cpy (mu 46) (mu 42) 0 0 7) = n1
  have e1 : ∀ j : Nat, j ≠ 42 → n1 j = mu j := fun j hj => up_k h1 hj
  have e2 : ∀ g : Nat, n1 42 g = if g < 7 then mu 46 g else mu 42 g := fun g => by
    rw [← h1]
    by_cases cg : g < 7 <;> simp [va_up, va_cpy, cg]
  by_cases c1 : 73 ≤ k ∧ k < 77 ∧ f < 10
  · rw [if_pos (by omega), if_pos c1, e1 _ (by omega)]
  · rw [if_neg (by omega), if_neg c1]
    by_cases c2 : k = 20 ∧ 2 ≤ f ∧ f ≤ 4
    · rw [if_pos c2, if_pos c2, e1 _ (by decide)]
    · rw [if_neg c2, if_neg c2]
      by_cases c3 : k = 42
      · subst c3
        rw [e2]
        by_cases c4 : f < 7
        · rw [if_pos c4, if_pos ⟨rfl, c4⟩]
        · rw [if_neg c4, if_neg (fun h => c4 h.2)]
      · rw [e1 _ c3, if_neg (fun h => c3 h.1)]

