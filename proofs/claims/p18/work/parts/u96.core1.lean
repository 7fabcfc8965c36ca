-- ===== the core: who stands beside whom, what a letter is worth, what is asked, who can buy =====
theorem fx_hasBit {a b : Int32} (h1 : 0 ≤ b.toInt) (h2 : b.toInt ≤ 31) : F_sx_hasBit a b = if bt a b.toNatClampNeg then 1 else 0 := by
  have e : F_sx_hasBit a b = if rb a b = 0 then 0 else 1 := rfl
  rw [e, rb_bt h1 h2]
  cases bt a b.toNatClampNeg <;> decide
theorem fm_has {a b : Int32} (h1 : 0 ≤ b.toInt) (h2 : b.toInt ≤ 31) : F_sm_has a b = if bt a b.toNatClampNeg then 1 else 0 := by
  have e : F_sm_has a b = if rb a b = 1 then 1 else 0 := rfl
  rw [e, rb_bt h1 h2]
  cases bt a b.toNatClampNeg <;> decide
theorem hb_f {a b : Int32} (h1 : 0 ≤ b.toInt) (h2 : b.toInt ≤ 31) (hq : bt a b.toNatClampNeg = false) : F_sx_hasBit a b = 0 ∧ ¬ F_sm_has a b = 1 := by
  rw [fx_hasBit h1 h2, fm_has h1 h2, hq]
  decide
theorem hb_t {a b : Int32} (h1 : 0 ≤ b.toInt) (h2 : b.toInt ≤ 31) (hq : bt a b.toNatClampNeg = true) : ¬ F_sx_hasBit a b = 0 ∧ F_sm_has a b = 1 := by
  rw [fx_hasBit h1 h2, fm_has h1 h2, hq]
  decide
theorem ior_0 (v : Int32) : v ||| 0 = v := by simp
theorem ix_2 {i : Int32} (h0 : 0 ≤ i.toInt) (h1 : i.toInt ≤ 12) : (2 * i : Int32).toNatClampNeg = 2 * i.toNatClampNeg ∧ (2 * i + 1 : Int32).toNatClampNeg = 2 * i.toNatClampNeg + 1 := by
  have hc := tC_of h0
  have a0 : (2 * i : Int32).toInt = 2 * i.toInt := tI_mul (rfl : (2 : Int32).toInt = 2) rfl (by omega) (by omega)
  have a1 : (2 * i + 1 : Int32).toInt = 2 * i.toInt + 1 := tI_add a0 (rfl : (1 : Int32).toInt = 1) (by omega) (by omega)
  have b0 := tC_of (v := 2 * i) (by omega)
  have b1 := tC_of (v := 2 * i + 1) (by omega)
  exact ⟨by omega, by omega⟩
theorem near_loop {mux mum : Nat → Nat → Int32} {s x : Int32} (hK : simK mux mum) (hp : 0 ≤ (mum 0 11).toInt ∧ (mum 0 11).toInt ≤ 12) (hs : s = mum 0 13) : ∀ (n : Nat) (v i : Int32), 0 ≤ i.toInt → i.toInt ≤ 12 → (12 - i.toInt).toNat < n → L_sx_near_5_0 mux s x n v i = L_sm_besideOf_4_0 mum x n v i := by
  obtain ⟨k1, k2, k3, k4⟩ := hK
  intro n
  induction n with
  | zero => intro v i _ _ h; exact absurd h (Nat.not_lt_zero _)
  | succ n ih =>
    intro v i h0 h1 hn
    have hc := tC_of h0
    have hpn := tC_of hp.1
    rw [L_sx_near_5_0, L_sm_besideOf_4_0]
    simp only [letv_eq, ior_0]
    rw [k2]
    by_cases c : i ≥ mum 0 11
    · rw [if_pos c, if_pos c]
    · have c2 : ¬ (mum 0 11).toInt ≤ i.toInt := fun h => c (vv_ge.mpr h)
      have ai : (i + 1 : Int32).toInt = i.toInt + 1 := tI_add rfl (rfl : (1 : Int32).toInt = 1) (by omega) (by omega)
      have ihh : ∀ w, L_sx_near_5_0 mux s x n w (i + 1) = L_sm_besideOf_4_0 mum x n w (i + 1) := fun w => ih w (i + 1) (by omega) (by omega) (by omega)
      have q := k4 i.toNatClampNeg (by omega)
      rw [if_neg c, if_neg c, (ix_2 h0 h1).1, (ix_2 h0 h1).2, q.1, q.2, ← hs]
      cases hq : bt s i.toNatClampNeg
      · have hh := hb_f h0 (by omega) hq
        rw [if_pos hh.1, if_neg hh.2]
        by_cases c3 : mum 9 (2 * i.toNatClampNeg) = x
        · rw [if_pos c3, if_pos c3]
          exact ihh _
        · rw [if_neg c3, if_neg c3]
          by_cases c4 : mum 9 (2 * i.toNatClampNeg + 1) = x
          · rw [if_pos c4, if_pos c4]
            exact ihh _
          · rw [if_neg c4, if_neg c4]
            exact ihh _
      · have hh := hb_t h0 (by omega) hq
        rw [if_neg hh.1, if_pos hh.2]
        exact ihh _
theorem near_eq {mux mum : Nat → Nat → Int32} {s x : Int32} (hK : simK mux mum) (hp : 0 ≤ (mum 0 11).toInt ∧ (mum 0 11).toInt ≤ 12) (hs : s = mum 0 13) : F_sx_near mux x s = F_sm_besideOf mum x := near_loop hK hp hs 15 0 0 (by decide) (by decide) (by decide)
theorem beside_rel {x r1 r2 : Int32} {mux mum xi1 xi2 : Nat → Nat → Int32} (okm : okR loM hiM mum) (hK : simK mux mum) (hs : mux 5 2 = mum 0 13) (h1 : (r1, xi1) = F_qx_beside mux x) (h2 : (r2, xi2) = F_qm_beside mum x) : r1 = r2 := by
  have hb : 0 ≤ (mum 0 8).toInt ∧ (mum 0 8).toInt ≤ 7 := okm 0 8
  have hp : 0 ≤ (mum 0 11).toInt ∧ (mum 0 11).toInt ≤ 12 := okm 0 11
  simp only [F_qx_beside, letv_eq] at h1
  simp only [F_qm_beside, letv_eq] at h2
  by_cases cx : 0 ≤ x.toInt ∧ x.toInt < (mum 0 8).toInt
  · rw [if_pos (fx_has.mpr (by rw [hK.1]; exact cx)), near_eq hK hp hs] at h1
    rw [if_pos ((fm_isOne hb).mpr cx)] at h2
    exact (Prod.mk.inj h1).1.trans (Prod.mk.inj h2).1.symm
  · rw [if_neg (fun e => cx (by have := fx_has.mp e; rw [hK.1] at this; exact this))] at h1
    rw [if_neg (fun e => cx ((fm_isOne hb).mp e))] at h2
    exact (Prod.mk.inj h1).1.trans (Prod.mk.inj h2).1.symm
-- letters
def pfm (f : Nat) : Nat := if f = 7 then 8 else if f = 8 then 7 else f
def letR (B : Int) (n : Nat) (lx : Nat → Nat → Int32) (lm : Nat → Int32) : Prop := ∀ k : Nat, k < n → (∀ f : Nat, f < 10 → lx k f = lm (10 * k + pfm f)) ∧ (0 ≤ (lx k 1).toInt ∧ (lx k 1).toInt < B) ∧ (0 ≤ (lx k 5).toInt ∧ (lx k 5).toInt < B) ∧ (lx k 9 = 0 ∨ lx k 9 = 1)
theorem ix_10 {k w : Int32} (hk : 0 ≤ k.toInt ∧ k.toInt ≤ 3) (hw : 0 ≤ w.toInt ∧ w.toInt ≤ 9) : (10 * k + w : Int32).toNatClampNeg = 10 * k.toNatClampNeg + w.toNatClampNeg := by
  have a1 : (10 * k : Int32).toInt = 10 * k.toInt := tI_mul (rfl : (10 : Int32).toInt = 10) rfl (by omega) (by omega)
  have a2 : (10 * k + w : Int32).toInt = 10 * k.toInt + w.toInt := tI_add a1 rfl (by omega) (by omega)
  have c1 := tC_of (v := 10 * k + w) (by omega)
  have c2 := tC_of hk.1
  have c3 := tC_of hw.1
  omega
theorem fm_letterOf {mum : Nat → Nat → Int32} {k w : Int32} (hk : 0 ≤ k.toInt ∧ k.toInt ≤ 3) (hw : 0 ≤ w.toInt ∧ w.toInt ≤ 9) : F_sm_letterOf mum k w = mum 10 (10 * k.toNatClampNeg + w.toNatClampNeg) := by
  simp only [F_sm_letterOf, letv_eq]
  rw [ix_10 hk hw]
theorem fm_letterOf5 {mum : Nat → Nat → Int32} {k : Int32} (hk : 0 ≤ k.toInt ∧ k.toInt ≤ 3) : F_sm_letterOf5 mum k = mum 10 (10 * k.toNatClampNeg + 5) := by
  simp only [F_sm_letterOf5, letv_eq]
  rw [ix_10 hk (by decide)]
  rfl
/-- one letter's numbers on both sides -/
def oneR (B : Int) (lx : Nat → Int32) (lm : Nat → Int32) (K : Nat) : Prop := (∀ f : Nat, f < 10 → lx f = lm (10 * K + pfm f)) ∧ (0 ≤ (lx 1).toInt ∧ (lx 1).toInt < B) ∧ (0 ≤ (lx 5).toInt ∧ (lx 5).toInt < B) ∧ (lx 9 = 0 ∨ lx 9 = 1)
theorem price_eq {mux mum : Nat → Nat → Int32} {k : Int32} (hk : 0 ≤ k.toInt ∧ k.toInt ≤ 3) (hK : simK mux mum) (hb : 0 ≤ (mum 0 8).toInt ∧ (mum 0 8).toInt ≤ 7) (h : oneR (mum 0 8).toInt (mux (61 + k.toNatClampNeg)) (mum 10) k.toNatClampNeg) : F_sx_priceOf mux (61 + k.toNatClampNeg) = F_sm_priceOf mum k := by
  obtain ⟨f, f1, f5, f9⟩ := h
  have hbn := tC_of hb.1
  have h5 : mux (61 + k.toNatClampNeg) 5 = mum 10 (10 * k.toNatClampNeg + 5) := f 5 (by decide)
  have h6 : mux (61 + k.toNatClampNeg) 6 = mum 10 (10 * k.toNatClampNeg + 6) := f 6 (by decide)
  have hc5 := tC_of f5.1
  simp only [F_sx_priceOf, F_sm_priceOf, F_sm_asksOf, F_sx_priceAsked, letv_eq]
  rw [fm_letterOf5 hk, fm_letterOf hk (by decide), hK.2.2.1 _ (by omega), h5, h6]
  rfl
theorem worth_eq {mux mum : Nat → Nat → Int32} {k d : Int32} {B : Int} (hk : 0 ≤ k.toInt ∧ k.toInt ≤ 3) (hd : d = mum 0 14) (h : oneR B (mux (61 + k.toNatClampNeg)) (mum 10) k.toNatClampNeg) : F_sx_worthOn mux (61 + k.toNatClampNeg) d = F_sm_worthIn mum k 0 := by
  obtain ⟨f, f1, f5, f9⟩ := h
  have z0 : (0 : Int32).toInt = 0 := rfl
  have h2 : mux (61 + k.toNatClampNeg) 2 = mum 10 (10 * k.toNatClampNeg + 2) := f 2 (by decide)
  have h3 : mux (61 + k.toNatClampNeg) 3 = mum 10 (10 * k.toNatClampNeg + 3) := f 3 (by decide)
  have h4 : mux (61 + k.toNatClampNeg) 4 = mum 10 (10 * k.toNatClampNeg + 4) := f 4 (by decide)
  simp only [F_sx_worthOn, F_sm_worthIn, letv_eq]
  rw [fm_letterOf hk (by decide), fm_letterOf hk (by decide), fm_letterOf hk (by decide), h2, h3, h4, hd, Int32.add_zero]
  show (if 0 < mum 10 (10 * k.toNatClampNeg + 2) - mum 10 (10 * k.toNatClampNeg + 3) * (mum 0 14 - mum 10 (10 * k.toNatClampNeg + 4)) then mum 10 (10 * k.toNatClampNeg + 2) - mum 10 (10 * k.toNatClampNeg + 3) * (mum 0 14 - mum 10 (10 * k.toNatClampNeg + 4)) else 0) = (if mum 10 (10 * k.toNatClampNeg + 2) - mum 10 (10 * k.toNatClampNeg + 3) * (mum 0 14 - mum 10 (10 * k.toNatClampNeg + 4)) ≥ 0 then mum 10 (10 * k.toNatClampNeg + 2) - mum 10 (10 * k.toNatClampNeg + 3) * (mum 0 14 - mum 10 (10 * k.toNatClampNeg + 4)) else 0)
  generalize mum 10 (10 * k.toNatClampNeg + 2) - mum 10 (10 * k.toNatClampNeg + 3) * (mum 0 14 - mum 10 (10 * k.toNatClampNeg + 4)) = w
  by_cases c : (0 : Int32) < w
  · have c1 := vv_lt.mp c
    rw [if_pos c, if_pos (vv_ge.mpr (by omega))]
  · have c1 : ¬ (0 : Int32).toInt < w.toInt := fun e => c (vv_lt.mpr e)
    rw [if_neg c]
    by_cases c2 : w ≥ (0 : Int32)
    · have c3 := vv_ge.mp c2
      rw [if_pos c2]
      exact (Int32.toInt_inj.mp (by omega)).symm
    · rw [if_neg c2]
-- bits of a set
theorem b_zero : ∀ i, i < 32 → bt 0 i = false := by decide +kernel
theorem b_bit {x : Int32} (h0 : 0 ≤ x.toInt) (h1 : x.toInt ≤ 31) {i : Nat} (hi : i < 32) : bt ((1 : Int32) <<< (x &&& 31)) i = decide (i = x.toNatClampNeg) := by
  have hc := tC_of h0
  rw [nI_at h0]
  have e : (nI x.toNatClampNeg).toNatClampNeg = x.toNatClampNeg := by rw [← nI_at h0]
  rw [e]
  generalize x.toNatClampNeg = n at hc
  have hn : n < 32 := by omega
  rw [b_shl n hn 1 hi]
  by_cases c : n ≤ i
  · rw [b_1 (i - n) (by omega)]
    simp [c]
    omega
  · simp [c]
    omega
theorem near_rng {mum : Nat → Nat → Int32} {x : Int32} (hp : 0 ≤ (mum 0 11).toInt ∧ (mum 0 11).toInt ≤ 12) (he : ∀ j : Nat, j < (mum 0 11).toNatClampNeg → (0 ≤ (mum 9 (2 * j)).toInt ∧ (mum 9 (2 * j)).toInt < (mum 0 8).toInt) ∧ (0 ≤ (mum 9 (2 * j + 1)).toInt ∧ (mum 9 (2 * j + 1)).toInt < (mum 0 8).toInt)) (hb : 0 ≤ (mum 0 8).toInt ∧ (mum 0 8).toInt ≤ 7) : ∀ (n : Nat) (v i : Int32), 0 ≤ i.toInt → i.toInt ≤ 12 → (∀ j : Nat, j < 32 → bt v j = true → (j : Int) < (mum 0 8).toInt) → ∀ j : Nat, j < 32 → bt (L_sm_besideOf_4_0 mum x n v i) j = true → (j : Int) < (mum 0 8).toInt := by
  intro n
  induction n with
  | zero =>
    intro v i _ _ _ j hj h
    rw [L_sm_besideOf_4_0, b_zero j hj] at h
    cases h
  | succ n ih =>
    intro v i h0 h1 hv
    have hc := tC_of h0
    have hpn := tC_of hp.1
    have ai : i.toInt < 12 → (i + 1 : Int32).toInt = i.toInt + 1 := fun _ => tI_add rfl (rfl : (1 : Int32).toInt = 1) (by omega) (by omega)
    rw [L_sm_besideOf_4_0]
    simp only [letv_eq, ior_0]
    by_cases c : i ≥ mum 0 11
    · rw [if_pos c]
      exact hv
    · have c2 : ¬ (mum 0 11).toInt ≤ i.toInt := fun h => c (vv_ge.mpr h)
      have q := he i.toNatClampNeg (by omega)
      have ai := ai (by omega)
      have add : ∀ y : Int32, 0 ≤ y.toInt → y.toInt < (mum 0 8).toInt → ∀ j : Nat, j < 32 → bt (v ||| ((1 : Int32) <<< (y &&& 31))) j = true → (j : Int) < (mum 0 8).toInt := fun y y0 y1 j hj hb2 => by
        rw [b_or, b_bit y0 (by omega) hj] at hb2
        have hy := tC_of y0
        cases hq : bt v j
        · rw [hq] at hb2
          simp at hb2
          omega
        · exact hv j hj hq
      rw [if_neg c, (ix_2 h0 h1).1, (ix_2 h0 h1).2]
      repeat' split
      · exact ih _ _ (by omega) (by omega) hv
      · exact ih _ _ (by omega) (by omega) (add _ q.2.1 q.2.2)
      · exact ih _ _ (by omega) (by omega) (add _ q.1.1 q.1.2)
      · exact ih _ _ (by omega) (by omega) hv
/-- who may buy: by place, the same on both sides -/
theorem buy_loop {mux mum : Nat → Nat → Int32} {k pr d nb : Int32} (hk : 0 ≤ k.toInt ∧ k.toInt ≤ 3) (hK : simK mux mum) (hb : 0 ≤ (mum 0 8).toInt ∧ (mum 0 8).toInt ≤ 7) (hP : ∀ x : Nat, x < (mum 0 8).toNatClampNeg → mux 46 x = mum 8 x) (hd : d = mum 0 14) (h : oneR (mum 0 8).toInt (mux (61 + k.toNatClampNeg)) (mum 10) k.toNatClampNeg) (hnb : ∀ j : Nat, j < 32 → bt nb j = true → (j : Int) < (mum 0 8).toInt) : ∀ (n : Nat) (v w i : Int32), 0 ≤ i.toInt → i.toInt ≤ (mum 0 8).toInt → (7 - i.toInt).toNat < n → (∀ j : Nat, j < 32 → bt v j = if (j : Int) < i.toInt then bt w j else bt nb j) → (∀ j : Nat, j < 32 → bt w j = true → (j : Int) < i.toInt) → L_sx_buyersOf_48_0 (61 + k.toNatClampNeg) mux pr d n v i = L_sm_canSell_47_0 mum nb pr k n w i := by
  have we := worth_eq (d := d) hk hd h
  obtain ⟨f, f1, f5, f9⟩ := h
  have h1 : mux (61 + k.toNatClampNeg) 1 = mum 10 (10 * k.toNatClampNeg + 1) := f 1 (by decide)
  have hbn := tC_of hb.1
  intro n
  induction n with
  | zero => intro v w i _ _ h; exact absurd h (Nat.not_lt_zero _)
  | succ n ih =>
    intro v w i h0 hle hn hv hw
    have hc := tC_of h0
    rw [L_sx_buyersOf_48_0, L_sm_canSell_47_0]
    simp only [letv_eq, ior_0]
    rw [hK.1, we, fm_letterOf hk (by decide), h1, show (1 : Int32).toNatClampNeg = 1 from rfl]
    by_cases c : i ≥ mum 0 8
    · have c2 := vv_ge.mp c
      rw [if_pos c, if_pos c]
      apply b_ext
      intro j hj
      rw [hv j hj]
      by_cases cj : (j : Int) < i.toInt
      · rw [if_pos cj]
      · rw [if_neg cj]
        have n1 : bt nb j = false := by
          cases hq : bt nb j
          · rfl
          · have := hnb j hj hq
            omega
        have n2 : bt w j = false := by
          cases hq : bt w j
          · rfl
          · exact absurd (hw j hj hq) cj
        rw [n1, n2]
    · have c2 : ¬ (mum 0 8).toInt ≤ i.toInt := fun h => c (vv_ge.mpr h)
      have ai : (i + 1 : Int32).toInt = i.toInt + 1 := tI_add rfl (rfl : (1 : Int32).toInt = 1) (by omega) (by omega)
      have m1 := b_m1
      -- the place i is taken out, or not among them
      have out : L_sx_buyersOf_48_0 (61 + k.toNatClampNeg) mux pr d n (v &&& (((1 : Int32) <<< (i &&& 31)) ^^^ (-1))) (i + 1) = L_sm_canSell_47_0 mum nb pr k n w (i + 1) := by
        refine ih _ w (i + 1) (by omega) (by omega) (by omega) (fun j hj => ?_) (fun j hj hq => by have := hw j hj hq; omega)
        rw [b_and, b_xor, b_bit h0 (by omega) hj, m1 j hj, hv j hj]
        by_cases e : j = i.toNatClampNeg
        · have n2 : bt w j = false := by
            cases hq : bt w j
            · rfl
            · have := hw j hj hq
              omega
          rw [if_neg (by omega), if_pos (by omega), n2]
          simp [e]
        · by_cases cj : (j : Int) < i.toInt
          · rw [if_pos cj, if_pos (by omega)]
            simp [e]
          · rw [if_neg cj, if_neg (by omega)]
            simp [e]
      have absent : bt nb i.toNatClampNeg = false → L_sx_buyersOf_48_0 (61 + k.toNatClampNeg) mux pr d n v (i + 1) = L_sm_canSell_47_0 mum nb pr k n w (i + 1) := fun hno => by
        refine ih _ w (i + 1) (by omega) (by omega) (by omega) (fun j hj => ?_) (fun j hj hq => by have := hw j hj hq; omega)
        rw [hv j hj]
        by_cases e : j = i.toNatClampNeg
        · have n2 : bt w j = false := by
            cases hq : bt w j
            · rfl
            · have := hw j hj hq
              omega
          rw [if_neg (by omega), if_pos (by omega), n2, e, hno]
        · by_cases cj : (j : Int) < i.toInt
          · rw [if_pos cj, if_pos (by omega)]
          · rw [if_neg cj, if_neg (by omega)]
      have taken : bt nb i.toNatClampNeg = true → L_sx_buyersOf_48_0 (61 + k.toNatClampNeg) mux pr d n v (i + 1) = L_sm_canSell_47_0 mum nb pr k n (w ||| ((1 : Int32) <<< (i &&& 31))) (i + 1) := fun hyes => by
        refine ih _ _ (i + 1) (by omega) (by omega) (by omega) (fun j hj => ?_) (fun j hj hq => ?_)
        · rw [hv j hj, b_or, b_bit h0 (by omega) hj]
          by_cases e : j = i.toNatClampNeg
          · rw [if_neg (by omega), if_pos (by omega), e, hyes]
            simp
          · by_cases cj : (j : Int) < i.toInt
            · rw [if_pos cj, if_pos (by omega)]
              simp [e]
            · rw [if_neg cj, if_neg (by omega)]
        · rw [b_or, b_bit h0 (by omega) hj] at hq
          cases hq2 : bt w j
          · rw [hq2] at hq
            simp at hq
            omega
          · have := hw j hj hq2
            omega
      rw [if_neg c, if_neg c, hP i.toNatClampNeg (by omega), hK.2.2.1 i.toNatClampNeg (by omega)]
      have ge : ∀ a : Int32, (a ≥ pr) ↔ ¬ (a < pr) := fun a => ⟨fun h h2 => by have := vv_ge.mp h; have := vv_lt.mp h2; omega, fun h => vv_ge.mpr (by have : ¬ a.toInt < pr.toInt := fun e => h (vv_lt.mpr e); omega)⟩
      by_cases c3 : i = mum 10 (10 * k.toNatClampNeg + 1)
      · rw [if_pos c3, if_pos c3]
        by_cases c4 : F_sm_worthIn mum k 0 < pr
        · rw [if_pos c4, if_pos c4, out]
          split <;> rfl
        · rw [if_neg c4, if_neg c4]
          by_cases c5 : mum 8 i.toNatClampNeg < pr
          · rw [if_neg (fun e => (ge _).mp e c5), if_pos c5, out]
            split <;> rfl
          · rw [if_pos ((ge _).mpr c5), if_neg c5]
            cases hq : bt nb i.toNatClampNeg
            · rw [if_neg (hb_f h0 (by omega) hq).2]
              exact absent hq
            · rw [if_pos (hb_t h0 (by omega) hq).2]
              exact taken hq
      · rw [if_neg c3, if_neg c3]
        by_cases c4 : mum 7 i.toNatClampNeg = 3
        · rw [if_pos c4, if_pos c4, out]
          split <;> rfl
        · rw [if_neg c4, if_neg c4]
          by_cases c5 : mum 8 i.toNatClampNeg < pr
          · rw [if_neg (fun e => (ge _).mp e c5), if_pos c5, out]
            split <;> rfl
          · rw [if_pos ((ge _).mpr c5), if_neg c5]
            cases hq : bt nb i.toNatClampNeg
            · rw [if_neg (hb_f h0 (by omega) hq).2]
              exact absent hq
            · rw [if_pos (hb_t h0 (by omega) hq).2]
              exact taken hq

