-- ===== answers that hang on the TOWN alone =====
theorem fm_ask {mu : Nat → Nat → Int32} {a b : Int32} : (F_sm_ask mu a b).1 = b := rfl
theorem bearer_rel {x w r1 r2 : Int32} {mux mum xi1 xi2 : Nat → Nat → Int32} (okm : okR loM hiM mum) (h : simK mux mum) (h1 : (r1, xi1) = F_qx_bearer mux x w) (h2 : (r2, xi2) = F_qm_bearer mum x w) : r1 = r2 := by
  obtain ⟨a, b, c, d⟩ := h
  have hb : 0 ≤ (mum 0 8).toInt ∧ (mum 0 8).toInt ≤ 7 := okm 0 8
  have z0 : (0 : Int32).toInt = 0 := rfl
  have z3 : (3 : Int32).toInt = 3 := rfl
  have z4 : (4 : Int32).toInt = 4 := rfl
  simp only [F_qx_bearer, letv_eq] at h1
  simp only [F_qm_bearer, letv_eq, letp_eq] at h2
  by_cases cx : 0 ≤ x.toInt ∧ x.toInt < (mum 0 8).toInt
  · rw [if_pos (fx_has.mpr (by rw [a]; exact cx))] at h1
    rw [if_pos ((fm_isOne hb).mpr cx)] at h2
    by_cases cp : 0 ≤ w.toInt ∧ w.toInt ≤ 3
    · rw [if_neg (fun e => by have := vv_lt.mp e; omega), if_pos (vv_lt.mpr (by omega))] at h1
      rw [if_pos (fm_in.mpr ⟨by omega, by omega⟩)] at h2
      exact (Prod.mk.inj h1).1.trans ((Prod.mk.inj h2).1.trans fm_ask).symm
    · rw [if_neg (fun e => by have := fm_in.mp e; omega)] at h2
      by_cases c1 : w < (0 : Int32)
      · rw [if_pos c1] at h1
        exact (Prod.mk.inj h1).1.trans (Prod.mk.inj h2).1.symm
      · have c2 : ¬ w.toInt < (0 : Int32).toInt := fun e => c1 (vv_lt.mpr e)
        rw [if_neg c1, if_neg (fun e => by have := vv_lt.mp e; omega)] at h1
        exact (Prod.mk.inj h1).1.trans (Prod.mk.inj h2).1.symm
  · rw [if_neg (fun e => cx (by have := fx_has.mp e; rw [a] at this; exact this))] at h1
    rw [if_neg (fun e => cx ((fm_isOne hb).mp e))] at h2
    exact (Prod.mk.inj h1).1.trans (Prod.mk.inj h2).1.symm
theorem lm_gain {x : Int32} : ∀ (n : Nat) (v i : Int32) (nu : Nat → Nat → Int32), 0 ≤ (nu 0 17).toInt → (nu 0 17).toInt ≤ 40 → 0 ≤ i.toInt → i.toInt ≤ 40 → (40 - i.toInt).toNat < n → (L_qm_gain_14_0 x n v i nu).1 = 1 := by
  intro n
  induction n with
  | zero => intro v i nu _ _ _ _ h; exact absurd h (Nat.not_lt_zero _)
  | succ n ih =>
    intro v i nu h1 h2 h3 h4 h5
    rw [L_qm_gain_14_0]
    simp only [letv_eq, letp_eq]
    by_cases c : i ≥ nu 0 17
    · rw [if_pos c]
      exact fm_ask
    · have c2 : ¬ (nu 0 17).toInt ≤ i.toInt := fun h => c (vv_ge.mpr h)
      have ai : (i + 1 : Int32).toInt = i.toInt + 1 := tI_add rfl (rfl : (1 : Int32).toInt = 1) (by omega) (by omega)
      rw [if_neg c]
      repeat' split
      all_goals exact ih _ _ _ h1 h2 (by omega) (by omega) (by omega)
theorem gain_rel {x r1 r2 : Int32} {mux mum xi1 xi2 : Nat → Nat → Int32} (okm : okR loM hiM mum) (h : simK mux mum) (h1 : (r1, xi1) = F_qx_gain mux x) (h2 : (r2, xi2) = F_qm_gain mum x) : r1 = r2 := by
  obtain ⟨a, b, c, d⟩ := h
  have hb : 0 ≤ (mum 0 8).toInt ∧ (mum 0 8).toInt ≤ 7 := okm 0 8
  have hs : 0 ≤ (mum 0 17).toInt ∧ (mum 0 17).toInt ≤ 40 := okm 0 17
  simp only [F_qx_gain, letv_eq] at h1
  simp only [F_qm_gain] at h2
  by_cases cx : 0 ≤ x.toInt ∧ x.toInt < (mum 0 8).toInt
  · rw [if_pos (fx_has.mpr (by rw [a]; exact cx))] at h1
    rw [if_pos ((fm_isOne hb).mpr cx)] at h2
    have e2 := lm_gain (x := x) 43 0 0 mum hs.1 hs.2 (by decide) (by decide) (by decide)
    rw [p_fst h2] at e2
    exact (Prod.mk.inj h1).1.trans e2.symm
  · rw [if_neg (fun e => cx (by have := fx_has.mp e; rw [a] at this; exact this))] at h1
    rw [if_neg (fun e => cx ((fm_isOne hb).mp e))] at h2
    exact (Prod.mk.inj h1).1.trans (Prod.mk.inj h2).1.symm

