-- ===== luck: a property of the reference's table that a sale keeps =====
theorem luck_inQ {mu : Nat → Nat → Int32} {v6 : Int32} {kM : Int64 → Int32 → Int32 → (Nat → Nat → Int32) → Int32 × (Nat → Nat → Int32)} {D : Int} {Q : (Nat → Nat → Int32) → Prop} (hQs : ∀ (mux mum : Nat → Nat → Int32) (k x : Int32), bdM mum → core mux mum → Q mum → (0 ≤ k.toInt ∧ k.toInt < (mum 0 15).toInt) → (0 ≤ x.toInt ∧ x.toInt < (mum 0 8).toInt) → bt (F_sm_canSell mum k) x.toNatClampNeg = true → (mum 0 17).toInt < 40 → Q (F_sm_sellTo mum k x)) (hQd : ∀ (mum : Nat → Nat → Int32) (v : Int32), Q mum → Q (va_up mum 0 (upd (mum 0) 14 v))) (hD : D ≤ 98) (hk : ∀ (l : Int64) (v : Int32) (mux mum : Nat → Nat → Int32), seedR l → bdM mum → core mux mum → Q mum → (mum 0 14).toInt = D + 1 → Q (kM l v (v6 + 1) mum).2) : ∀ (n : Nat) (l : Int64) (v i : Int32) (mux mum : Nat → Nat → Int32), seedR l → bdM mum → core mux mum → Q mum → (mum 0 14).toInt = D → 0 ≤ i.toInt → i.toInt ≤ (mum 0 15).toInt → ((mum 0 15).toInt - i.toInt).toNat < n → Q (L_qm_luck_65_1 mu v6 kM n l v i mum).2 := by
  intro n
  induction n with
  | zero => intro l v i mux mum _ _ _ _ _ _ _ h; exact absurd h (Nat.not_lt_zero _)
  | succ n ih =>
    intro l v i mux mum hl bd hC hQ hd h0 hle hn
    have hC0 := hC
    have bd0 := bd
    obtain ⟨hK, hE, ⟨s2, s3, s4, s6⟩, hday, hP, hL, hS, hA⟩ := hC
    obtain ⟨hb, hpa, hsent, hled⟩ := bd
    have z1 : (1 : Int32).toInt = 1 := rfl
    have z40 : (40 : Int32).toInt = 40 := rfl
    rw [L_qm_luck_65_1]
    simp only [letv_eq, letp_eq]
    by_cases c : i ≥ mum 0 15
    · rw [if_pos c]
      have ad : (mum 0 14 + 1 : Int32).toInt = D + 1 := by
        have := tI_add (a := mum 0 14) (b := 1) rfl z1 (by omega) (by omega)
        omega
      generalize u2 : va_up mux 5 (upd (mux 5) 3 (mum 0 14 + 1)) = xi1
      generalize v2 : va_up mum 0 (upd (mum 0) 14 (mum 0 14 + 1)) = xi2
      have e14 : xi2 0 14 = mum 0 14 + 1 := (up_v v2).symm
      have ef : ∀ f : Nat, f ≠ 14 → xi2 0 f = mum 0 f := fun f hf => up_f v2 hf
      have nc : core xi1 xi2 := by
        refine core_nums bd0 hC0 (fun c hc => up_k u2 hc) (fun c hc => up_k v2 hc) (ef 8 (by decide)) (ef 11 (by decide)) (ef 15 (by decide)) (ef 17 (by decide)) ?_ ?_ (up_f u2 (by decide)) ?_
        · rw [up_f u2 (by decide), ef 13 (by decide)]; exact s2
        · rw [← up_v u2, e14]
        · rw [e14, ad]; omega
      have nb : bdM xi2 := by
        unfold bdM
        rw [ef 8 (by decide), ef 11 (by decide), ef 15 (by decide), ef 17 (by decide)]
        exact bd0
      exact hk _ _ _ _ hl nb nc (by rw [← v2]; exact hQd _ _ hQ) (by rw [e14, ad])
    · have c2 : ¬ (mum 0 15).toInt ≤ i.toInt := fun h => c (vv_ge.mpr h)
      have ci := tC_of h0
      have ai : (i + 1 : Int32).toInt = i.toInt + 1 := tI_add rfl z1 (by omega) (by omega)
      have be := buyers_core bd0 hC0 ⟨h0, by omega⟩
      have rg := cs_rng (k := i) hb
      obtain ⟨q1, q2, q3, q4⟩ := count_eq rg
      rw [if_neg c]
      by_cases c0 : F_sm_canSell mum i = 0
      · rw [if_pos c0]
        exact ih _ _ (i + 1) mux mum hl bd0 hC0 hQ hd (by omega) (by omega) (by omega)
      · rw [if_neg c0]
        by_cases c40 : (mum 0 17).toInt < 40
        · have n40 : ¬ mum 0 17 = 40 := fun e => by rw [e] at c40; exact absurd c40 (by decide)
          rw [if_neg n40]
          have l1 := lot_rng (n := l) (l1 := 48271 * l) (l2 := 48271 * l % 2147483647) hl rfl rfl
          rw [lrem_eq (48271 * l) 2147483647]
          generalize 48271 * l % 2147483647 = l2 at l1
          have pos : 1 ≤ pp (F_sm_canSell mum i).toNatClampNeg := by
            rcases Nat.eq_zero_or_pos (pp (F_sm_canSell mum i).toNatClampNeg) with e | e
            · exfalso
              have hcc := tC_of rg.1
              have := pp_0 _ (by omega) e
              exact c0 (Int32.toInt_inj.mp (by show _ = (0 : Int); omega))
            · exact e
          have cnt : ((F_sm_sizeOf (F_sm_canSell mum i)).toInt64).toInt = (pp (F_sm_canSell mum i).toNatClampNeg : Int) := by rw [Int32.toInt_toInt64, q2]
          have rem := lrem_rng (a := l2) (b := (F_sm_sizeOf (F_sm_canSell mum i)).toInt64) (c := (pp (F_sm_canSell mum i).toNatClampNeg : Int)) l1.1 cnt (by omega)
          rw [lrem_eq l2]
          have t31 := l2i_of (a := l2 % (F_sm_sizeOf (F_sm_canSell mum i)).toInt64) rfl rem.1 (by omega)
          obtain ⟨x, x1, x2, x3, x4, x5⟩ := lot_loop (l27 := l2) (mu := mu) (a := F_sm_canSell mum i) (v5 := v) (v7 := i) (kont := fun z_v3_65 z_v5_65 z_v7_65 z_nu65_ => L_qm_luck_65_1 mu v6 kM n z_v3_65 z_v5_65 z_v7_65 z_nu65_) (nu := mum) rg 10 (l2 % (F_sm_sizeOf (F_sm_canSell mum i)).toInt64).toInt32 0 (by decide) (by decide) (by decide) (by omega) (by rw [show (0 : Int32).toNatClampNeg = 0 from rfl, ab_0, t31]; exact rem.2)
          rw [x5]
          have cx := tC_of x2
          have xb := cs_set (k := i) hb x.toNatClampNeg (by omega) x4
          obtain ⟨a1, a2, a3, a4, a5, a6⟩ := sale_rel (r := (F_sx_enterSale mux i x).1) (xi1 := (F_sx_enterSale mux i x).2) (xi2 := F_sm_sellTo mum i x) bd0 hC0 ⟨h0, by omega⟩ ⟨x2, by omega⟩ c40 rfl rfl
          have e17 : (mum 0 17 + 1 : Int32).toInt = (mum 0 17).toInt + 1 := tI_add rfl z1 (by omega) (by omega)
          have nb : bdM (F_sm_sellTo mum i x) := by
            unfold bdM
            rw [a4 8 (by decide), a4 11 (by decide), a4 15 (by decide), a5, e17]
            exact ⟨hb, hpa, hsent, by omega, by omega⟩
          have sm := hQs mux mum i x bd0 hC0 hQ ⟨h0, by omega⟩ ⟨x2, by omega⟩ x4 c40
          exact ih l2 _ (i + 1) _ _ l1 nb a2 sm (by rw [a4 14 (by decide)]; exact hd) (by omega) (by rw [a4 15 (by decide)]; omega) (by rw [a4 15 (by decide)]; omega)
        · have e40 : mum 0 17 = 40 := Int32.toInt_inj.mp (by omega)
          rw [if_pos e40]
          exact hQ
theorem luck_outQ {mu : Nat → Nat → Int32} {vn : Int32} {Q : (Nat → Nat → Int32) → Prop} (hQs : ∀ (mux mum : Nat → Nat → Int32) (k x : Int32), bdM mum → core mux mum → Q mum → (0 ≤ k.toInt ∧ k.toInt < (mum 0 15).toInt) → (0 ≤ x.toInt ∧ x.toInt < (mum 0 8).toInt) → bt (F_sm_canSell mum k) x.toNatClampNeg = true → (mum 0 17).toInt < 40 → Q (F_sm_sellTo mum k x)) (hQd : ∀ (mum : Nat → Nat → Int32) (v : Int32), Q mum → Q (va_up mum 0 (upd (mum 0) 14 v))) (hvn : 1 ≤ vn.toInt ∧ vn.toInt ≤ 40) : ∀ (n : Nat) (l : Int64) (v i : Int32) (mux mum : Nat → Nat → Int32), seedR l → bdM mum → core mux mum → Q mum → 0 ≤ i.toInt → i.toInt ≤ vn.toInt → (mum 0 14).toInt + (vn.toInt - i.toInt) ≤ 99 → (vn.toInt - i.toInt).toNat < n → Q (L_qm_luck_56_0 mu vn n l v i mum).2 := by
  intro n
  induction n with
  | zero => intro l v i mux mum _ _ _ _ _ _ _ h; exact absurd h (Nat.not_lt_zero _)
  | succ n ih =>
    intro l v i mux mum hl bd hC hQ h0 hle hday hn
    have z0 : (0 : Int32).toInt = 0 := rfl
    rw [L_qm_luck_56_0]
    by_cases c : i ≥ vn
    · rw [if_pos c]
      exact hQ
    · have c2 : ¬ vn.toInt ≤ i.toInt := fun h => c (vv_ge.mpr h)
      have ai : (i + 1 : Int32).toInt = i.toInt + 1 := tI_add rfl (rfl : (1 : Int32).toInt = 1) (by omega) (by omega)
      rw [if_neg c]
      exact luck_inQ hQs hQd (D := (mum 0 14).toInt) (by omega) (fun l' v' mux' mum' hl' bd' hC' hQ' hd' => ih l' v' (i + 1) mux' mum' hl' bd' hC' hQ' (by omega) (by omega) (by omega) (by omega)) 7 l v 0 mux mum hl bd hC hQ rfl (by decide) (by rw [z0]; exact bd.2.2.1.1) (by rw [z0]; have := bd.2.2.1.2; omega)
theorem luck_mon {n s r2 : Int32} {mux mum xi2 : Nat → Nat → Int32} {T : Int} (hT : 0 ≤ T ∧ T ≤ 1000000) (okm : okR loM hiM mum) (hC : core mux mum) (hm : mon T mum) (h2 : (r2, xi2) = F_qm_luck mum n s) : mon T xi2 := by
  have hday := hC.2.2.2.1
  have z0 : (0 : Int32).toInt = 0 := rfl
  have z1 : (1 : Int32).toInt = 1 := rfl
  have z40 : (40 : Int32).toInt = 40 := rfl
  have z99 : (99 : Int32).toInt = 99 := rfl
  have zM : (2147483646 : Int32).toInt = 2147483646 := rfl
  simp only [F_qm_luck, letv_eq] at h2
  by_cases c1 : F_sm_in n 1 40 = 1
  · rw [if_pos c1] at h2
    have hn := fm_in.mp c1
    by_cases c2 : F_sm_in s 1 2147483646 = 1
    · rw [if_pos c2] at h2
      have hs := fm_in.mp c2
      by_cases c8 : mum 0 8 = 0
      · rw [if_pos c8] at h2
        rw [(Prod.mk.inj h2).2]
        exact hm
      · rw [if_neg c8] at h2
        have ad : (mum 0 14 + n : Int32).toInt = (mum 0 14).toInt + n.toInt := tI_add rfl rfl (by omega) (by omega)
        by_cases c9 : mum 0 14 + n ≤ (99 : Int32)
        · have c10 := vv_le.mp c9
          rw [if_pos c9] at h2
          have key := luck_outQ (mu := mum) (vn := n) (Q := mon T) (fun mux mum k x bd hC hQ hk hx hb h40 => sale_mon hT bd hC hQ hk hx hb h40) (fun mum v hQ => by
            generalize h9 : va_up mum 0 (upd (mum 0) 14 v) = nu
            exact mon_of hQ (up_f h9 (by decide)) (up_f h9 (by decide)) (up_f h9 (by decide)) (up_k h9 (by decide)) (up_k h9 (by decide)) (up_k h9 (by decide)) (up_k h9 (by decide))) ⟨by omega, by omega⟩ 43 s.toInt64 0 0 mux mum (by unfold seedR; rw [Int32.toInt_toInt64]; omega) (bd_of okm) hC hm (by decide) (by rw [z0]; omega) (by rw [z0]; omega) (by rw [z0]; omega)
          rw [p_snd h2] at key
          exact key
        · rw [if_neg c9] at h2
          rw [(Prod.mk.inj h2).2]
          exact hm
    · rw [if_neg c2] at h2
      rw [(Prod.mk.inj h2).2]
      exact hm
  · rw [if_neg c1] at h2
    rw [(Prod.mk.inj h2).2]
    exact hm

