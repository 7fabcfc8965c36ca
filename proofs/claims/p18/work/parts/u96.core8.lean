-- ===== luck =====
theorem and7 (v : Int32) : 0 ≤ (v &&& 127).toInt ∧ (v &&& 127).toInt ≤ 127 := by
  have h1 : (v &&& 127).toBitVec.toNat ≤ 127 := by
    rw [Int32.toBitVec_and, BitVec.toNat_and]
    exact Nat.and_le_right
  have h2 : (v &&& 127).toInt = ((v &&& 127).toBitVec.toNat : Int) := by
    show (v &&& 127).toBitVec.toInt = _
    rw [BitVec.toInt_eq_toNat_cond, if_pos (by omega)]
  omega
theorem b_127 : ∀ i, i < 32 → bt 127 i = decide (i < 7) := by decide +kernel
theorem set7 {v : Int32} (h : ∀ j : Nat, j < 32 → bt v j = true → j < 7) : 0 ≤ v.toInt ∧ v.toInt ≤ 127 := by
  have e : v &&& 127 = v := by
    apply b_ext
    intro i hi
    rw [b_and, b_127 i hi]
    cases hq : bt v i
    · rfl
    · have := h i hi hq
      simp [this]
  have := and7 v
  rw [e] at this
  exact this
theorem cs_bits {mum : Nat → Nat → Int32} {nb pr k : Int32} (hb : 0 ≤ (mum 0 8).toInt ∧ (mum 0 8).toInt ≤ 7) : ∀ (n : Nat) (w i : Int32), 0 ≤ i.toInt → i.toInt ≤ (mum 0 8).toInt → (∀ j : Nat, j < 32 → bt w j = true → (j : Int) < (mum 0 8).toInt) → ∀ j : Nat, j < 32 → bt (L_sm_canSell_47_0 mum nb pr k n w i) j = true → (j : Int) < (mum 0 8).toInt := by
  intro n
  induction n with
  | zero =>
    intro w i _ _ _ j hj h
    rw [L_sm_canSell_47_0, b_zero j hj] at h
    cases h
  | succ n ih =>
    intro w i h0 hle hw
    rw [L_sm_canSell_47_0]
    simp only [letv_eq, ior_0]
    by_cases c : i ≥ mum 0 8
    · rw [if_pos c]
      exact hw
    · have c2 : ¬ (mum 0 8).toInt ≤ i.toInt := fun h => c (vv_ge.mpr h)
      have ai : (i + 1 : Int32).toInt = i.toInt + 1 := tI_add rfl (rfl : (1 : Int32).toInt = 1) (by omega) (by omega)
      have hc := tC_of h0
      have add : ∀ j : Nat, j < 32 → bt (w ||| ((1 : Int32) <<< (i &&& 31))) j = true → (j : Int) < (mum 0 8).toInt := fun j hj hq => by
        rw [b_or, b_bit h0 (by omega) hj] at hq
        cases hq2 : bt w j
        · rw [hq2] at hq
          simp at hq
          omega
        · exact hw j hj hq2
      rw [if_neg c]
      repeat' split
      all_goals first
        | exact ih _ _ (by omega) (by omega) hw
        | exact ih _ _ (by omega) (by omega) add
theorem cs_set {mum : Nat → Nat → Int32} {k : Int32} (hb : 0 ≤ (mum 0 8).toInt ∧ (mum 0 8).toInt ≤ 7) : ∀ j : Nat, j < 32 → bt (F_sm_canSell mum k) j = true → (j : Int) < (mum 0 8).toInt := by
  intro j hj h
  simp only [F_sm_canSell, letv_eq] at h
  have z : bt 0 j = true → (j : Int) < (mum 0 8).toInt := fun h => by rw [b_zero j hj] at h; cases h
  revert h
  repeat' split
  · exact z
  · intro h
    exact cs_bits hb 10 0 0 (by decide) (by show (0 : Int) ≤ _; exact hb.1) (fun j hj hq => by rw [b_zero j hj] at hq; cases hq) j hj h
  · exact z
theorem cs_rng {mum : Nat → Nat → Int32} {k : Int32} (hb : 0 ≤ (mum 0 8).toInt ∧ (mum 0 8).toInt ≤ 7) : 0 ≤ (F_sm_canSell mum k).toInt ∧ (F_sm_canSell mum k).toInt ≤ 127 := set7 (fun j hj h => by have := cs_set hb j hj h; omega)
theorem count_all : ∀ a, a < 128 → F_sx_bitCount (nI a) = F_sm_sizeOf (nI a) ∧ F_sm_sizeOf (nI a) = nI (pp a) := by decide +kernel
theorem count_eq {v : Int32} (h : 0 ≤ v.toInt ∧ v.toInt ≤ 127) : F_sx_bitCount v = F_sm_sizeOf v ∧ (F_sm_sizeOf v).toInt = (pp v.toNatClampNeg : Int) ∧ pp v.toNatClampNeg ≤ 7 ∧ (v = 0 ↔ F_sx_bitCount v = 0) := by
  have hc := tC_of h.1
  have hl : v.toNatClampNeg < 128 := by omega
  have key := count_all _ hl
  rw [← nI_at h.1] at key
  have p7 := (h7_all _ hl).1
  have e : (F_sm_sizeOf v).toInt = (pp v.toNatClampNeg : Int) := by rw [key.2, nI_toInt (by omega)]
  refine ⟨key.1, e, p7, fun e0 => by rw [e0]; decide, fun e0 => ?_⟩
  rw [key.1] at e0
  rw [e0] at e
  have z : (0 : Int32).toInt = 0 := rfl
  have := pp_0 _ hl (by omega)
  exact Int32.toInt_inj.mp (by omega)
/-- the vth of those in the set: the class's bitAt, the reference's loop -/
theorem lot_loop {l27 : Int64} {mu : Nat → Nat → Int32} {a v5 v7 : Int32} {kont : Int64 → Int32 → Int32 → (Nat → Nat → Int32) → Int32 × (Nat → Nat → Int32)} {nu : Nat → Nat → Int32} (ha : 0 ≤ a.toInt ∧ a.toInt ≤ 127) : ∀ (n : Nat) (v i : Int32), 0 ≤ i.toInt → i.toInt ≤ 7 → (7 - i.toInt).toNat < n → 0 ≤ v.toInt → v.toInt < (ab a.toNatClampNeg i.toNatClampNeg : Int) → ∃ x : Int32, L_sx_bitAt_4_0 a n v i = x ∧ 0 ≤ x.toInt ∧ x.toInt ≤ 6 ∧ bt a x.toNatClampNeg = true ∧ L_qm_luck_128_2 l27 mu a v5 v7 kont n v i nu = kont l27 (v5 + F_sm_letterOf (F_sm_sellTo nu v7 x) v7 9) (v7 + 1) (F_sm_sellTo nu v7 x) := by
  intro n
  induction n with
  | zero => intro v i _ _ h; exact absurd h (Nat.not_lt_zero _)
  | succ n ih =>
    intro v i h0 h7 hn hv0 hv
    have z7 : (7 : Int32).toInt = 7 := rfl
    have z0 : (0 : Int32).toInt = 0 := rfl
    have z1 : (1 : Int32).toInt = 1 := rfl
    have hc := tC_of h0
    have hca := tC_of ha.1
    have i6 : i.toInt ≤ 6 := by
      rcases Int.lt_or_le i.toInt 7 with h | h
      · omega
      · exfalso
        rw [show i.toNatClampNeg = 7 by omega, ab_7 _ (by omega)] at hv
        omega
    have ai : (i + 1 : Int32).toInt = i.toInt + 1 := tI_add rfl z1 (by omega) (by omega)
    have hc1 := tC_of (v := i + 1) (by omega)
    have st := ab_step (v := a) (x := i) ha.1 ha.2 h0 i6
    rw [L_sx_bitAt_4_0, L_qm_luck_128_2]
    simp only [letv_eq]
    rw [if_neg (fun e => by have := vv_ge.mp e; omega)]
    cases hq : bt a i.toNatClampNeg
    · have hh := hb_f h0 (by omega) hq
      rw [if_pos hh.1, if_neg hh.2, if_neg hh.2]
      have e0 := st.2 (fun e => by rw [rb_1 h0 (by omega), hq] at e; cases e)
      have sz : v - 0 = v := by simp
      rw [sz]
      exact ih v (i + 1) (by omega) (by omega) (by omega) hv0 (by rw [show (i + 1).toNatClampNeg = i.toNatClampNeg + 1 by omega, ← e0]; exact hv)
    · have hh := hb_t h0 (by omega) hq
      rw [if_neg hh.1, if_pos hh.2]
      have e1 := st.1 ((rb_1 h0 (by omega)).mpr hq)
      by_cases cv : v = 0
      · rw [if_pos cv, if_pos (vv_le.mpr (by rw [cv]; exact Int.le_refl _))]
        exact ⟨i, rfl, h0, i6, hq, rfl⟩
      · have v1 : 1 ≤ v.toInt := by
          have : ¬ v.toInt = (0 : Int32).toInt := fun e => cv (Int32.toInt_inj.mp e)
          omega
        have le : ¬ v ≤ (0 : Int32) := fun e => by have := vv_le.mp e; omega
        have b2 : (v + (-1) : Int32).toInt = v.toInt - 1 := vm1 (by omega)
        rw [if_neg cv, if_neg le, if_pos hh.2, v_m1]
        generalize v + (-1) = w at b2
        exact ih w (i + 1) (by omega) (by omega) (by omega) (by omega) (by rw [show (i + 1).toNatClampNeg = i.toNatClampNeg + 1 by omega]; omega)
/-- numbers that go through the days of luck -/
def seedR (l : Int64) : Prop := 0 ≤ l.toInt ∧ l.toInt ≤ 2147483646
theorem luck_in {mu : Nat → Nat → Int32} {v6 : Int32} {kX kM : Int64 → Int32 → Int32 → (Nat → Nat → Int32) → Int32 × (Nat → Nat → Int32)} {D : Int} (hD : D ≤ 98) (hk : ∀ (l : Int64) (v : Int32) (mux mum : Nat → Nat → Int32), seedR l → bdM mum → core mux mum → (mum 0 14).toInt = D + 1 → (kX l v (v6 + 1) mux).1 = (kM l v (v6 + 1) mum).1 ∧ core (kX l v (v6 + 1) mux).2 (kM l v (v6 + 1) mum).2) : ∀ (n : Nat) (l : Int64) (v i : Int32) (mux mum : Nat → Nat → Int32), seedR l → bdM mum → core mux mum → (mum 0 14).toInt = D → 0 ≤ i.toInt → i.toInt ≤ (mum 0 15).toInt → ((mum 0 15).toInt - i.toInt).toNat < n → (L_qx_luck_78_1 v6 kX n l v i mux).1 = (L_qm_luck_65_1 mu v6 kM n l v i mum).1 ∧ core (L_qx_luck_78_1 v6 kX n l v i mux).2 (L_qm_luck_65_1 mu v6 kM n l v i mum).2 := by
  intro n
  induction n with
  | zero => intro l v i mux mum _ _ _ _ _ _ h; exact absurd h (Nat.not_lt_zero _)
  | succ n ih =>
    intro l v i mux mum hl bd hC hd h0 hle hn
    have hC0 := hC
    have bd0 := bd
    obtain ⟨hK, hE, ⟨s2, s3, s4, s6⟩, hday, hP, hL, hS, hA⟩ := hC
    obtain ⟨hb, hpa, hsent, hled⟩ := bd
    have z1 : (1 : Int32).toInt = 1 := rfl
    have z40 : (40 : Int32).toInt = 40 := rfl
    rw [L_qx_luck_78_1, L_qm_luck_65_1]
    simp only [letv_eq, letp_eq]
    rw [s4]
    by_cases c : i ≥ mum 0 15
    · rw [if_pos c, if_pos c, s3]
      have ad : (mum 0 14 + 1 : Int32).toInt = D + 1 := by
        have := tI_add (a := mum 0 14) (b := 1) rfl z1 (by omega) (by omega)
        omega
      generalize u2 : va_up mux 5 (upd (mux 5) 3 (mum 0 14 + 1)) = xi1
      generalize v2 : va_up mum 0 (upd (mum 0) 14 (mum 0 14 + 1)) = xi2
      have e14 : xi2 0 14 = mum 0 14 + 1 := (up_v v2).symm
      have ef : ∀ f : Nat, f ≠ 14 → xi2 0 f = mum 0 f := fun f hf => up_f v2 hf
      have nc : core xi1 xi2 := by
        refine core_nums bd0 hC0 (fun c hc => up_k u2 hc) (fun c hc => up_k v2 hc) (ef 8 (by decide)) (ef 11 (by decide)) (ef 15 (by decide)) (ef 17 (by decide)) ?_ ?_ (up_f u2 (by decide)) ?_
        · rw [up_f u2 (by decide), ef 13 (by decide)]; exact s2
        · rw [← up_v u2, e14]
        · rw [e14, ad]; omega
      have nb : bdM xi2 := by
        unfold bdM
        rw [ef 8 (by decide), ef 11 (by decide), ef 15 (by decide), ef 17 (by decide)]
        exact bd0
      exact hk _ _ _ _ hl nb nc (by rw [e14, ad])
    · have c2 : ¬ (mum 0 15).toInt ≤ i.toInt := fun h => c (vv_ge.mpr h)
      have ci := tC_of h0
      have ai : (i + 1 : Int32).toInt = i.toInt + 1 := tI_add rfl z1 (by omega) (by omega)
      have be := buyers_core bd0 hC0 ⟨h0, by omega⟩
      have rg := cs_rng (k := i) hb
      obtain ⟨q1, q2, q3, q4⟩ := count_eq rg
      rw [if_neg c, if_neg c, be]
      by_cases c0 : F_sm_canSell mum i = 0
      · rw [if_pos (q4.mp c0), if_pos c0]
        exact ih _ _ (i + 1) mux mum hl bd0 hC0 hd (by omega) (by omega) (by omega)
      · rw [if_neg (fun e => c0 (q4.mpr e)), if_neg c0]
        by_cases c40 : (mum 0 17).toInt < 40
        · have nf : ¬ F_sx_isFull mux = 1 := fun e => by have := fx_isFull.mp e; rw [s6] at this; omega
          have n40 : ¬ mum 0 17 = 40 := fun e => by rw [e] at c40; exact absurd c40 (by decide)
          rw [if_neg nf, if_neg n40]
          rw [Int64.mul_comm l 48271, q1]
          have l1 := lot_rng (n := l) (l1 := 48271 * l) (l2 := 48271 * l % 2147483647) hl rfl rfl
          rw [lrem_eq (48271 * l) 2147483647]
          generalize 48271 * l % 2147483647 = l2 at l1
          have pos : 1 ≤ pp (F_sm_canSell mum i).toNatClampNeg := by
            rcases Nat.eq_zero_or_pos (pp (F_sm_canSell mum i).toNatClampNeg) with e | e
            · exfalso
              have hcc := tC_of rg.1
              have := pp_0 _ (by omega) e
              exact c0 (Int32.toInt_inj.mp (by show _ = (0 : Int); omega))
            · exact e
          have cnt : ((F_sm_sizeOf (F_sm_canSell mum i)).toInt64).toInt = (pp (F_sm_canSell mum i).toNatClampNeg : Int) := by rw [Int32.toInt_toInt64, q2]
          have rem := lrem_rng (a := l2) (b := (F_sm_sizeOf (F_sm_canSell mum i)).toInt64) (c := (pp (F_sm_canSell mum i).toNatClampNeg : Int)) l1.1 cnt (by omega)
          rw [lrem_eq l2]
          have t31 := l2i_of (a := l2 % (F_sm_sizeOf (F_sm_canSell mum i)).toInt64) rfl rem.1 (by omega)
          obtain ⟨x, x1, x2, x3, x4, x5⟩ := lot_loop (l27 := l2) (mu := mu) (a := F_sm_canSell mum i) (v5 := v) (v7 := i) (kont := fun z_v3_65 z_v5_65 z_v7_65 z_nu65_ => L_qm_luck_65_1 mu v6 kM n z_v3_65 z_v5_65 z_v7_65 z_nu65_) (nu := mum) rg 10 (l2 % (F_sm_sizeOf (F_sm_canSell mum i)).toInt64).toInt32 0 (by decide) (by decide) (by decide) (by omega) (by rw [show (0 : Int32).toNatClampNeg = 0 from rfl, ab_0, t31]; exact rem.2)
          have x1' : F_sx_bitAt (F_sm_canSell mum i) (l2 % (F_sm_sizeOf (F_sm_canSell mum i)).toInt64).toInt32 = x := x1
          rw [x5, x1']
          have cx := tC_of x2
          have xb := cs_set (k := i) hb x.toNatClampNeg (by omega) x4
          obtain ⟨a1, a2, a3, a4, a5, a6⟩ := sale_rel (r := (F_sx_enterSale mux i x).1) (xi1 := (F_sx_enterSale mux i x).2) (xi2 := F_sm_sellTo mum i x) bd0 hC0 ⟨h0, by omega⟩ ⟨x2, by omega⟩ c40 rfl rfl
          rw [fm_letterOf ⟨h0, by omega⟩ (by decide), show (9 : Int32).toNatClampNeg = 9 from rfl, ← a3]
          have e17 : (mum 0 17 + 1 : Int32).toInt = (mum 0 17).toInt + 1 := tI_add rfl z1 (by omega) (by omega)
          have nb : bdM (F_sm_sellTo mum i x) := by
            unfold bdM
            rw [a4 8 (by decide), a4 11 (by decide), a4 15 (by decide), a5, e17]
            exact ⟨hb, hpa, hsent, by omega, by omega⟩
          have go : ∀ w : Int32, (L_qx_luck_78_1 v6 kX n l2 w (i + 1) (F_sx_enterSale mux i x).2).1 = (L_qm_luck_65_1 mu v6 kM n l2 w (i + 1) (F_sm_sellTo mum i x)).1 ∧ core (L_qx_luck_78_1 v6 kX n l2 w (i + 1) (F_sx_enterSale mux i x).2).2 (L_qm_luck_65_1 mu v6 kM n l2 w (i + 1) (F_sm_sellTo mum i x)).2 := fun w => ih l2 w (i + 1) _ _ l1 nb a2 (by rw [a4 14 (by decide)]; exact hd) (by omega) (by rw [a4 15 (by decide)]; omega) (by rw [a4 15 (by decide)]; omega)
          have h9 := (a2.2.2.2.2.2.1 i.toNatClampNeg (by rw [a4 15 (by decide)]; have := tC_of hsent.1; omega)).2.2.2
          have h9 : (F_sx_enterSale mux i x).2 (61 + i.toNatClampNeg) 9 = 0 ∨ (F_sx_enterSale mux i x).2 (61 + i.toNatClampNeg) 9 = 1 := h9
          rcases h9 with e | e
          · rw [e, if_pos rfl]
            exact go _
          · rw [e, if_neg (by decide)]
            exact go _
        · have e40 : mum 0 17 = 40 := Int32.toInt_inj.mp (by omega)
          rw [if_pos (fx_isFull.mpr (by rw [s6]; omega)), if_pos e40]
          exact ⟨rfl, hC0⟩
theorem luck_out {mu : Nat → Nat → Int32} {vn : Int32} (hvn : 1 ≤ vn.toInt ∧ vn.toInt ≤ 40) : ∀ (n : Nat) (l : Int64) (v i : Int32) (mux mum : Nat → Nat → Int32), seedR l → bdM mum → core mux mum → 0 ≤ i.toInt → i.toInt ≤ vn.toInt → (mum 0 14).toInt + (vn.toInt - i.toInt) ≤ 99 → (vn.toInt - i.toInt).toNat < n → (L_qx_luck_69_0 vn n l v i mux).1 = (L_qm_luck_56_0 mu vn n l v i mum).1 ∧ core (L_qx_luck_69_0 vn n l v i mux).2 (L_qm_luck_56_0 mu vn n l v i mum).2 := by
  intro n
  induction n with
  | zero => intro l v i mux mum _ _ _ _ _ _ h; exact absurd h (Nat.not_lt_zero _)
  | succ n ih =>
    intro l v i mux mum hl bd hC h0 hle hday hn
    have z0 : (0 : Int32).toInt = 0 := rfl
    rw [L_qx_luck_69_0, L_qm_luck_56_0]
    by_cases c : i ≥ vn
    · rw [if_pos c, if_pos c]
      exact ⟨rfl, hC⟩
    · have c2 : ¬ vn.toInt ≤ i.toInt := fun h => c (vv_ge.mpr h)
      have ai : (i + 1 : Int32).toInt = i.toInt + 1 := tI_add rfl (rfl : (1 : Int32).toInt = 1) (by omega) (by omega)
      rw [if_neg c, if_neg c]
      exact luck_in (D := (mum 0 14).toInt) (by omega) (fun l' v' mux' mum' hl' bd' hC' hd' => ih l' v' (i + 1) mux' mum' hl' bd' hC' (by omega) (by omega) (by omega) (by omega)) 7 l v 0 mux mum hl bd hC rfl (by decide) (by rw [z0]; exact bd.2.2.1.1) (by rw [z0]; have := bd.2.2.1.2; omega)
theorem lg_eq0 (x : Int64) : lg_cmp x x = 0 := by simp [lg_cmp]
theorem luck_rel {n s r1 r2 : Int32} {mux mum xi1 xi2 : Nat → Nat → Int32} (okm : okR loM hiM mum) (hC : core mux mum) (h1 : (r1, xi1) = F_qx_luck mux n s) (h2 : (r2, xi2) = F_qm_luck mum n s) : r1 = r2 ∧ core xi1 xi2 := by
  have hC0 := hC
  obtain ⟨hK, hE, ⟨s2, s3, s4, s6⟩, hday, hP, hL, hS, hA⟩ := hC
  have z0 : (0 : Int32).toInt = 0 := rfl
  have z1 : (1 : Int32).toInt = 1 := rfl
  have z40 : (40 : Int32).toInt = 40 := rfl
  have z99 : (99 : Int32).toInt = 99 := rfl
  have zM : (2147483646 : Int32).toInt = 2147483646 := rfl
  have none : (r1, xi1) = (-1, mux) → (r2, xi2) = (-1, mum) → r1 = r2 ∧ core xi1 xi2 := fun a b => by
    cases a
    cases b
    exact ⟨rfl, hC0⟩
  simp only [F_qx_luck, letv_eq] at h1
  simp only [F_qm_luck, letv_eq] at h2
  by_cases cn : 1 ≤ n.toInt ∧ n.toInt ≤ 40
  · rw [if_neg (fun e => by have := vv_lt.mp e; omega), if_neg (fun e => by have := vv_gt.mp e; omega)] at h1
    rw [if_pos (fm_in.mpr ⟨by omega, by omega⟩)] at h2
    by_cases cs : 1 ≤ s.toInt ∧ s.toInt ≤ 2147483646
    · have lc : lg_cmp s.toInt64 2147483647 < (0 : Int32) := by
        have e : s.toInt64 < 2147483647 := Int64.lt_iff_toInt_lt.mpr (by rw [Int32.toInt_toInt64]; show s.toInt < (2147483647 : Int); omega)
        have e2 : ¬ (2147483647 : Int64) < s.toInt64 := fun h => by
          have := Int64.lt_iff_toInt_lt.mp h
          rw [Int32.toInt_toInt64] at this
          have z : (2147483647 : Int64).toInt = 2147483647 := rfl
          omega
        have e3 : lg_cmp s.toInt64 2147483647 = -1 := by
          simp only [lg_cmp]
          rw [if_neg e2, if_neg (fun h => by rw [h] at e; exact absurd e (by decide))]
        rw [e3]
        decide
      rw [if_neg (fun e => by have := vv_lt.mp e; omega), if_pos lc, hK.1, s3] at h1
      rw [if_pos (fm_in.mpr ⟨by omega, by omega⟩)] at h2
      by_cases c8 : mum 0 8 = 0
      · rw [if_pos c8] at h1 h2
        cases h1
        cases h2
        exact ⟨rfl, hC0⟩
      · rw [if_neg c8] at h1 h2
        have ad : (mum 0 14 + n : Int32).toInt = (mum 0 14).toInt + n.toInt := tI_add rfl rfl (by omega) (by omega)
        by_cases c9 : mum 0 14 + n ≤ (99 : Int32)
        · have c10 := vv_le.mp c9
          rw [if_pos c9] at h1 h2
          have key := luck_out (mu := mum) cn 43 s.toInt64 0 0 mux mum (by unfold seedR; rw [Int32.toInt_toInt64]; omega) (bd_of okm) hC0 (by decide) (by rw [z0]; omega) (by rw [z0]; omega) (by rw [z0]; omega)
          rw [p_fst h1, p_fst h2, p_snd h1, p_snd h2] at key
          exact key
        · rw [if_neg c9] at h1 h2
          cases h1
          cases h2
          exact ⟨rfl, hC0⟩
    · rw [if_neg (fun e => by have := fm_in.mp e; omega)] at h2
      refine none ?_ h2
      rw [h1]
      by_cases c1 : s < (1 : Int32)
      · rw [if_pos c1]
      · have c2 : ¬ s.toInt < (1 : Int32).toInt := fun e => c1 (vv_lt.mpr e)
        have hm := tI_hi s
        have e7 : s.toInt = 2147483647 := by omega
        have lc : ¬ lg_cmp s.toInt64 2147483647 < (0 : Int32) := by
          have e : s.toInt64 = 2147483647 := Int64.toInt_inj.mp (by rw [Int32.toInt_toInt64, e7]; rfl)
          rw [e, lg_eq0]
          decide
        rw [if_neg c1, if_neg lc]
  · rw [if_neg (fun e => by have := fm_in.mp e; omega)] at h2
    refine none ?_ h2
    rw [h1]
    by_cases c1 : n < (1 : Int32)
    · rw [if_pos c1]
    · have c2 : ¬ n.toInt < (1 : Int32).toInt := fun e => c1 (vv_lt.mpr e)
      rw [if_neg c1, if_pos (vv_gt.mpr (by omega))]

