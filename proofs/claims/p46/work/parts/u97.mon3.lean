-- ===== luck: a property of the reference's table that a sale keeps =====
theorem luck_inQ {mu : Nat → Nat → Int32} {v6 : Int32} {kM : Int64 → Int32 → Int32 → (Nat → Nat → Int32) → Int32 × (Nat → Nat → Int32)} {D : Int} {Q : (Nat → Nat → Int32) → Prop} (hQs : ∀ (mux mum : Nat → Nat → Int32) (k x : Int32), bdM mum → core mux mum → Q mum → (0 ≤ k.toInt ∧ k.toInt < (mum 0 15).toInt) → (0 ≤ x.toInt ∧ x.toInt < (mum 0 8).toInt) → bt (F_sm_canSell mum k) x.toNatClampNeg = true → (mum 0 17).toInt < 40 → Q (F_sm_sellTo mum k x)) (hQd : ∀ (mum : Nat → Nat → Int32) (v : Int32), Q mum → Q (va_up mum 0 (upd (mum 0) 14 v))) (hD : D ≤ 98) (hk : ∀ (l : Int64) (v : Int32) (mux mum : Nat → Nat → Int32), seedR l → bdM mum → core mux mum → Q mum → (mum 0 14).toInt = D + 1 → Q (kM l v (v6 + 1) mum).2) : ∀ (n : Nat) (l : Int64) (v i : Int32) (mux mum : Nat → Nat → Int32), seedR l → bdM mum → core mux mum → Q mum → (mum 0 14).toInt = D → 0 ≤ i.toInt → i.toInt ≤ (mum 0 15).toInt → ((mum 0 15).toInt - i.toInt).toNat < n → Q (L_qm_luck_65_1 mu v6 kM n l v i mum).2 := by
  intro n
  induction n with
  | zero => intro l v i mux mum _ _ _ _ _ _ _ h; exact absurd h (Nat.not_lt_zero _)
  | succ n ih =>
    intro l v i mux mum hl bd hC hQ hd h0 hle hn
    have hC0 := hC
    have bd0 := bd
    obtain ⟨hK, hE, ⟨s2, s3, s4, s6⟩, hday, hP, hL, hS, hA⟩ := hC
    obtain ⟨hb, hpa, hsent, hled⟩ := bd
    have z1 : (1 : Int32).toInt = 1 := rfl
    have z40 : (40 : Int32).toInt = 40 := rfl
    rw [L_qm_luck_65_1]
    simp only [letv_eq, letp_eq]
    by_cases c : i ≥ mum 0 15
    · rw [if_pos c]
      have ad : (mum 0 14 + 1 : Int32).toInt = D + 1 := by
        have := tI_add (a := mum 0 14) (b := 1) rfl z1 (by omega) (by omega)
        omega
      generalize u2 : va_up mux 5 (upd (mux 5) 3 (mum 0 14 + 1)) = xi1
      generalize v2 : va_up mum 0 (upd (mum 0) 14 (mum 0 14 + 1)) = xi2
      have e14 : xi2 0 14 = mum 0 14 + 1 := (up_v v2).symm
      have ef : ∀ f : Nat, f ≠ 14 → xi2 0 f = mum 0 f := fun f hf => up_f v2 hf
      have nc : core xi1 xi2 := by
        refine core_nums bd0 hC0 (fun c hc => up_k u2 hc) (fun c hc => up_k v2 hc) (ef 8 (by decide)) (ef 11 (by decide)) (ef 15 (by decide)) (ef 17 (by decide)) ?_ ?_ (up_f u2 (by decide)) ?_
        · rw [up_f u2 (by decide), ef 13 (by decide)]; exact s2
        · rw [← up_v u2, e14]
        · rw [e14, ad]; omega
      have nb : bdM xi2 := by
        unfold bdM
        rw [ef 8 (by decide), ef 11 (by decide), ef 15 (by decide), ef 17 (by decide)]
        exact bd0
      exact hk _ _ _ _ hl nb nc (by rw [← v2]; exact hQd _ _ hQ) (by rw [e14, ad])
    · have c2 : ¬ (mum 0 15).toInt ≤ i.toInt := fun h => c (vv_ge.mpr h)
      have ci := tC_of h0
      have ai : (i + 1 : Int32).toInt = i.toInt + 1 := tI_add rfl z1 (by omega) (by omega)
      have be := buyers_core bd0 hC0 ⟨h0, by omega⟩
      have rg := cs_rng (k := i) hb
      obtain ⟨q1, q2, q3, q4⟩ := count_eq rg
      rw [if_neg c]
      by_cases c0 : F_sm_canSell mum i = 0
      · rw [if_pos c0]
        exact ih _ _ (i + 1) mux mum hl bd0 hC0 hQ hd (by omega) (by omega) (by omega)
      · rw [if_neg c0]
        by_cases c40 : (mum 0 17).toInt < 40
        · have n40 : ¬ mum 0 17 = 40 := fun e => by rw [e] at c40; exact absurd c40 (by decide)
          rw [if_neg n40]
          have l1 := lot_rng (n := l) (l1 := 48271 * l) (l2 := 48271 * l % 2147483647) hl rfl rfl
          rw [lrem_eq (48271 * l) 2147483647]
          generalize 48271 * l % 2147483647 = l2 at l1
          have pos : 1 ≤ pp (F_sm_canSell mum i).toNatClampNeg := by
            rcases Nat.eq_zero_or_pos (pp (F_sm_canSell mum i).toNatClampNeg) with e | e
            · exfalso
              have hcc := tC_of rg.1
              have := pp_0 _ (by omega) e
              exact c0 (Int32.toInt_inj.mp (by show _ = (0 : Int); omega))
            · exact e
          have cnt : ((F_sm_sizeOf (F_sm_canSell mum i)).toInt64).toInt = (pp (F_sm_canSell mum i).toNatClampNeg : Int) := by rw [Int32.toInt_toInt64, q2]
          have rem := lrem_rng (a := l2) (b := (F_sm_sizeOf (F_sm_canSell mum i)).toInt64) (c := (pp (F_sm_canSell mum i).toNatClampNeg : Int)) l1.1 cnt (by omega)
          rw [lrem_eq l2]
          have t31 := l2i_of (a := l2 % (F_sm_sizeOf (F_sm_canSell mum i)).toInt64) rfl rem.1 (by omega)
          obtain ⟨x, x1, x2, x3, x4, x5⟩ := lot_loop (l27 := l2) (mu := mu) (a := F_sm_canSell mum i) (v5 := v) (v7 := i) (kont := fun z_v3_65 z_v5_65 z_v7_65 z_nu65_ => L_qm_luck_65_1 mu v6 kM n z_v3_65 z_v5_65 z_v7_65 z_nu65_) (nu := mum) rg 10 (l2 % (F_sm_sizeOf (F_sm_canSell mum i)).toInt64).toInt32 0 (by decide) (by decide) (by decide) (by omega) (by rw [show (0 : Int32).toNatClampNeg = 0 from rfl, ab_0, t31]; exact rem.2)
          rw [x5]
          have cx := tC_of x2
          have xb := cs_set (k := i) hb x.toNatClampNeg (by omega) x4
          obtain ⟨a1, a2, a3, a4, a5, a6⟩ := sale_rel (r := (F_sx_enterSale mux i x).1) (xi1 := (F_sx_enterSale mux i x).2) (xi2 := F_sm_sellTo mum i x) bd0 hC0 ⟨h0, by omega⟩ ⟨x2, by omega⟩ c40 rfl rfl
          have e17 : (mum 0 17 + 1 : Int32).toInt = (mum 0 17).toInt + 1 := tI_add rfl z1 (by omega) (by omega)
          have nb : bdM (F_sm_sellTo mum i x) := by
            unfold bdM
            rw [a4 8 (by decide), a4 11 (by decide), a4 15 (by decide), a5, e17]
            exact ⟨hb, hpa, hsent, by omega, by omega⟩
          have sm := hQs mux mum i x bd0 hC0 hQ ⟨h0, by omega⟩ ⟨x2, by omega⟩ x4 c40
          exact ih l2 _ (i + 1) _ _ l1 nb a2 sm (by rw [a4 14 (by decide)]; exact hd) (by omega) (by rw [a4 15 (by decide)]; omega) (by rw [a4 15 (by decide)]; omega)
        · have e40 : mum 0 17 = 40 := Int32.toInt_inj.mp (by omega)
          rw [if_pos e40]
          exact hQ
theorem luck_outQ {mu : Nat → Nat → Int32} {vn : Int32} {Q : (Nat → Nat → Int32) → Prop} (hQs : ∀ (mux mum : Nat → Nat → Int32) (k x : Int32), bdM mum → core mux mum → Q mum → (0 ≤ k.toInt ∧ k.toInt < (mum 0 15).toInt) → (0 ≤ x.toInt ∧ x.toInt < (mum 0 8).toInt) → bt (F_sm_canSell mum k) x.toNatClampNeg = true → (mum 0 17).toInt < 40 → Q (F_sm_sellTo mum k x)) (hQd : ∀ (mum : Nat → Nat → Int32) (v : Int32), Q mum → Q (va_up mum 0 (upd (mum 0) 14 v))) (hvn : 1 ≤ vn.toInt ∧ vn.toInt ≤ 40) : ∀ (n : Nat) (l : Int64) (v i : Int32) (mux mum : Nat → Nat → Int32), seedR l → bdM mum → core mux mum → Q mum → 0 ≤ i.toInt → i.toInt ≤ vn.toInt → (mum 0 14).toInt + (vn.toInt - i.toInt) ≤ 99 → (vn.toInt - i.toInt).toNat < n → Q (L_qm_luck_56_0 mu vn n l v i mum).2 := by
  intro n
  induction n with
  | zero => intro l v i mux mum _ _ _ _ _ _ _ h; exact absurd h (Nat.not_lt_zero _)
  | succ n ih =>
    intro l v i mux mum hl bd hC hQ h0 hle hday hn
    have z0 : (0 : Int32).toInt = 0 := rfl
    rw [L_qm_luck_56_0]
    by_cases c : i ≥ vn
    · rw [if_pos c]
      exact hQ
    · have c2 : ¬ vn.toInt ≤ i.toInt := fun h => c (vv_ge.mpr h)
      have ai : (i + 1 : Int32).toInt = i.toInt + 1 := tI_add rfl (rfl : (1 : Int32).toInt = 1) (by omega) (by omega)
      rw [if_neg c]
      exact luck_inQ hQs hQd (D := (mum 0 14).toInt) (by omega) (fun l' v' mux' mum' hl' bd' hC' hQ' hd' => ih l' v' (i + 1) mux' mum' hl' bd' hC' hQ' (by omega) (by omega) (by omega) (by omega)) 7 l v 0 mux mum hl bd hC hQ rfl (by decide) (by rw [z0]; exact bd.2.2.1.1) (by rw [z0]; have := bd.2.2.1.2; omega)
theorem luck_mon {n s r2 : Int32} {mux mum xi2 : Nat → Nat → Int32} {T : Int} (hT : 0 ≤ T ∧ T ≤ 1000000) (okm : okR loM hiM mum) (hC : core mux mum) (hm : mon T mum) (h2 : (r2, xi2) = F_qm_luck mum n s) : mon T xi2 := by
  have hday := hC.2.2.2.1
  have z0 : (0 : Int32).toInt = 0 := rfl
  have z1 : (1 : Int32).toInt = 1 := rfl
  have z40 : (40 : Int32).toInt = 40 := rfl
  have z99 : (99 : Int32).toInt = 99 := rfl
  have zM : (2147483646 : Int32).toInt = 2147483646 := rfl
  simp only [F_qm_luck, letv_eq] at h2
  by_cases c1 : F_sm_in n 1 40 = 1
  · rw [if_pos c1] at h2
    have hn := fm_in.mp c1
    by_cases c2 : F_sm_in s 1 2147483646 = 1
    · rw [if_pos c2] at h2
      have hs := fm_in.mp c2
      by_cases c8 : mum 0 8 = 0
      · rw [if_pos c8] at h2
        rw [(Prod.mk.inj h2).2]
        exact hm
      · rw [if_neg c8] at h2
        have ad : (mum 0 14 + n : Int32).toInt = (mum 0 14).toInt + n.toInt := tI_add rfl rfl (by omega) (by omega)
        by_cases c9 : mum 0 14 + n ≤ (99 : Int32)
        · have c10 := vv_le.mp c9
          rw [if_pos c9] at h2
          have key := luck_outQ (mu := mum) (vn := n) (Q := mon T) (fun mux mum k x bd hC hQ hk hx hb h40 => sale_mon hT bd hC hQ hk hx hb h40) (fun mum v hQ => by
            generalize h9 : va_up mum 0 (upd (mum 0) 14 v) = nu
            exact mon_of hQ (up_f h9 (by decide)) (up_f h9 (by decide)) (up_f h9 (by decide)) (up_k h9 (by decide)) (up_k h9 (by decide)) (up_k h9 (by decide)) (up_k h9 (by decide))) ⟨by omega, by omega⟩ 43 s.toInt64 0 0 mux mum (by unfold seedR; rw [Int32.toInt_toInt64]; omega) (bd_of okm) hC hm (by decide) (by rw [z0]; omega) (by rw [z0]; omega) (by rw [z0]; omega)
          rw [p_snd h2] at key
          exact key
        · rw [if_neg c9] at h2
          rw [(Prod.mk.inj h2).2]
          exact hm
    · rw [if_neg c2] at h2
      rw [(Prod.mk.inj h2).2]
      exact hm
  · rw [if_neg c1] at h2
    rw [(Prod.mk.inj h2).2]
    exact hm

-- ===== a new town: its money =====
theorem tot_le {f : Nat → Int32} {c : Int} : ∀ n : Nat, (∀ x : Nat, x < n → (f x).toInt ≤ c) → tot f n ≤ c * (n : Int) := by
  intro n
  induction n with
  | zero => intro _; show (0 : Int) ≤ c * ((0 : Nat) : Int); omega
  | succ n ih =>
    intro h
    have h1 := ih (fun x hx => h x (Nat.lt_succ_of_lt hx))
    have h2 := h n (Nat.lt_succ_self n)
    show tot f n + (f n).toInt ≤ c * ((n + 1 : Nat) : Int)
    have e : c * ((n + 1 : Nat) : Int) = c * (n : Int) + c := by
      rw [Int.natCast_add, Int.mul_add]
      simp
    omega
theorem town_mon {T : Int} {mux mum xi1 xi2 : Nat → Nat → Int32} (hT : 693 ≤ T) (h : (simK xi1 xi2 ∧ endR xi2 ∧ newT xi1 xi2) ∨ ((∀ k f : Nat, gpX k f ≠ 0 → xi1 k f = mux k f) ∧ (∀ k f : Nat, gpM k f ≠ 0 → xi2 k f = mum k f))) (hm : mon T mum) : mon T xi2 := by
  rcases h with ⟨-, -, -, -, ⟨-, -, y4, y6⟩, k, hb, hp⟩ | ⟨-, b⟩
  · refine ⟨⟨fun x hx => (hp x hx).1, ?_⟩, fun k hk => ?_, fun s hs => ?_, fun j hj => Or.inl (k j hj).2⟩
    · have h1 := tot_le (c := 99) (xi2 0 8).toNatClampNeg (fun x hx => (hp x hx).2)
      have h2 : (xi2 0 8).toNatClampNeg ≤ 7 := by
        by_cases c : 0 ≤ (xi2 0 8).toInt
        · have := tC_of c
          omega
        · have e : (xi2 0 8).toNatClampNeg = (xi2 0 8).toInt.toNat := rfl
          omega
      omega
    · rw [y4] at hk; exact absurd hk (Nat.not_lt_zero _)
    · rw [y6] at hs; exact absurd hs (Nat.not_lt_zero _)
  · exact mon_of hm (b 0 8 (by decide)) (b 0 15 (by decide)) (b 0 17 (by decide)) (funext fun f => b 8 f (by show (3 : Nat) ≠ 0; decide)) (funext fun f => b 10 f (by show (3 : Nat) ≠ 0; decide)) (funext fun f => b 14 f (by show (4 : Nat) ≠ 0; decide)) (funext fun f => b 15 f (by show (5 : Nat) ≠ 0; decide))

-- ===== upper, lower =====
theorem t64 {v : Int32} : (v.toInt64).toInt = v.toInt := Int32.toInt_toInt64 v
theorem all_loop {mux mum : Nat → Nat → Int32} {T : Int} (hT : T ≤ 1000000) (hK : simK mux mum) (hb : 0 ≤ (mum 0 8).toInt ∧ (mum 0 8).toInt ≤ 7) (hP : ∀ x : Nat, x < (mum 0 8).toNatClampNeg → mux 46 x = mum 8 x) (hm : purM T (mum 0 8).toNatClampNeg (mum 8)) : ∀ (n : Nat) (v i : Int32), 0 ≤ i.toInt → i.toInt ≤ (mum 0 8).toInt → v.toInt = tot (mum 8) i.toNatClampNeg → ((mum 0 8).toInt - i.toInt).toNat < n → L_sx_allPurses_4_0 mux n v.toInt64 i = (L_sm_allPurses_4_0 mum n v i).toInt64 ∧ (L_sm_allPurses_4_0 mum n v i).toInt = tot (mum 8) (mum 0 8).toNatClampNeg := by
  have cb := tC_of hb.1
  have part : ∀ j : Nat, j ≤ (mum 0 8).toNatClampNeg → 0 ≤ tot (mum 8) j ∧ tot (mum 8) j ≤ T := by
    intro j hj
    have a : ∀ d : Nat, j + d ≤ (mum 0 8).toNatClampNeg → tot (mum 8) j ≤ tot (mum 8) (j + d) := by
      intro d
      induction d with
      | zero => intro _; exact Int.le_refl _
      | succ d ih =>
        intro h
        have h1 := ih (by omega)
        have h2 := hm.1 (j + d) (by omega)
        show tot (mum 8) j ≤ tot (mum 8) (j + d) + (mum 8 (j + d)).toInt
        omega
    have h3 := a ((mum 0 8).toNatClampNeg - j) (by omega)
    rw [show j + ((mum 0 8).toNatClampNeg - j) = (mum 0 8).toNatClampNeg by omega] at h3
    exact ⟨tot_pos j (fun x hx => hm.1 x (by omega)), Int.le_trans h3 hm.2⟩
  intro n
  induction n with
  | zero => intro v i _ _ _ h; exact absurd h (Nat.not_lt_zero _)
  | succ n ih =>
    intro v i h0 hle hv hn
    have hc := tC_of h0
    rw [L_sx_allPurses_4_0, L_sm_allPurses_4_0]
    simp only [letv_eq]
    rw [hK.1]
    by_cases c : i ≥ mum 0 8
    · have c2 := vv_ge.mp c
      rw [if_pos c, if_pos c]
      exact ⟨rfl, by rw [hv]; congr 1; omega⟩
    · have c2 : ¬ (mum 0 8).toInt ≤ i.toInt := fun h => c (vv_ge.mpr h)
      have ai : (i + 1 : Int32).toInt = i.toInt + 1 := vp1 (by omega)
      have hc1 := tC_of (v := i + 1) (by omega)
      have b0 := part i.toNatClampNeg (by omega)
      have b1 := part (i.toNatClampNeg + 1) (by omega)
      have b1 : 0 ≤ tot (mum 8) i.toNatClampNeg + (mum 8 i.toNatClampNeg).toInt ∧ tot (mum 8) i.toNatClampNeg + (mum 8 i.toNatClampNeg).toInt ≤ T := b1
      have e1 : (v + mum 8 i.toNatClampNeg : Int32).toInt = v.toInt + (mum 8 i.toNatClampNeg).toInt := tI_add rfl rfl (by omega) (by omega)
      have e2 : v.toInt64 + (mum 8 i.toNatClampNeg).toInt64 = (v + mum 8 i.toNatClampNeg).toInt64 := by
        apply Int64.toInt_inj.mp
        rw [Int64.toInt_add, t64, t64, t64, e1]
        exact Int.bmod_eq_of_le (by omega) (by omega)
      rw [if_neg c, if_neg c, hP i.toNatClampNeg (by omega), e2]
      refine ih _ (i + 1) (by omega) (by omega) ?_ (by omega)
      rw [e1, hv, show (i + 1).toNatClampNeg = i.toNatClampNeg + 1 by omega]
      rfl
theorem rich_loop {mux mum : Nat → Nat → Int32} {T : Int} (hT : 0 ≤ T) (hK : simK mux mum) (hb : 0 ≤ (mum 0 8).toInt ∧ (mum 0 8).toInt ≤ 7) (hP : ∀ x : Nat, x < (mum 0 8).toNatClampNeg → mux 46 x = mum 8 x) (hm : purM T (mum 0 8).toNatClampNeg (mum 8)) : ∀ (n : Nat) (v i : Int32), 0 ≤ i.toInt → i.toInt ≤ (mum 0 8).toInt → (0 ≤ v.toInt ∧ v.toInt ≤ tot (mum 8) (mum 0 8).toNatClampNeg) → ((mum 0 8).toInt - i.toInt).toNat < n → L_sx_richestPurse_4_0 mux n v.toInt64 i = (L_sm_richest_4_0 mum n v i).toInt64 ∧ 0 ≤ (L_sm_richest_4_0 mum n v i).toInt ∧ (L_sm_richest_4_0 mum n v i).toInt ≤ tot (mum 8) (mum 0 8).toNatClampNeg := by
  have cb := tC_of hb.1
  intro n
  induction n with
  | zero => intro v i _ _ _ h; exact absurd h (Nat.not_lt_zero _)
  | succ n ih =>
    intro v i h0 hle hv hn
    have hc := tC_of h0
    rw [L_sx_richestPurse_4_0, L_sm_richest_4_0]
    simp only [letv_eq]
    rw [hK.1]
    by_cases c : i ≥ mum 0 8
    · rw [if_pos c, if_pos c]
      exact ⟨rfl, hv⟩
    · have c2 : ¬ (mum 0 8).toInt ≤ i.toInt := fun h => c (vv_ge.mpr h)
      have ai : (i + 1 : Int32).toInt = i.toInt + 1 := vp1 (by omega)
      have pg := tot_ge (f := mum 8) (mum 0 8).toNatClampNeg hm.1 i.toNatClampNeg (by omega)
      have pp0 := hm.1 i.toNatClampNeg (by omega)
      rw [if_neg c, if_neg c, hP i.toNatClampNeg (by omega)]
      by_cases q : mum 8 i.toNatClampNeg ≤ v
      · have q2 := vv_le.mp q
        rw [if_pos q]
        have e : (if (mum 8 i.toNatClampNeg).toInt64 < v.toInt64 then v.toInt64 else (mum 8 i.toNatClampNeg).toInt64) = v.toInt64 := by
          by_cases d : (mum 8 i.toNatClampNeg).toInt64 < v.toInt64
          · rw [if_pos d]
          · have d2 : ¬ (mum 8 i.toNatClampNeg).toInt < v.toInt := fun h => d (Int64.lt_iff_toInt_lt.mpr (by rw [t64, t64]; exact h))
            rw [if_neg d, Int32.toInt_inj.mp (show (mum 8 i.toNatClampNeg).toInt = v.toInt by omega)]
        rw [e]
        exact ih v (i + 1) (by omega) (by omega) hv (by omega)
      · have q2 : ¬ (mum 8 i.toNatClampNeg).toInt ≤ v.toInt := fun h => q (vv_le.mpr h)
        rw [if_neg q]
        have d : ¬ (mum 8 i.toNatClampNeg).toInt64 < v.toInt64 := fun h => by
          have := Int64.lt_iff_toInt_lt.mp h
          rw [t64, t64] at this
          omega
        rw [if_neg d]
        exact ih _ (i + 1) (by omega) (by omega) ⟨pp0, pg⟩ (by omega)
theorem gcd_loop : ∀ (k n m : Nat) (a b i : Int32), 0 ≤ a.toInt → 0 ≤ b.toInt → b.toInt < ((2 ^ k : Nat) : Int) → 0 ≤ i.toInt → i.toInt + 2 * (k : Int) + 1 ≤ 127 → 2 * k + 1 < n → b.toInt.toNat + 1 < m → L_sx_commonDivisor_9_0 n a.toInt64 b.toInt64 i = (L_sm_divisor_4_0 m a b).toInt64 ∧ 0 ≤ (L_sm_divisor_4_0 m a b).toInt ∧ (¬ (a.toInt = 0 ∧ b.toInt = 0) → 1 ≤ (L_sm_divisor_4_0 m a b).toInt) := by
  have z128 : (128 : Int32).toInt = 128 := rfl
  have z0 : (0 : Int32).toInt = 0 := rfl
  -- one turn
  have turn : ∀ (n m : Nat) (a b i : Int32), 0 ≤ a.toInt → 1 ≤ b.toInt → 0 ≤ i.toInt → i.toInt ≤ 126 → L_sx_commonDivisor_9_0 (n + 1) a.toInt64 b.toInt64 i = L_sx_commonDivisor_9_0 n b.toInt64 (a % b).toInt64 (i + 1) ∧ L_sm_divisor_4_0 (m + 1) a b = L_sm_divisor_4_0 m b (a % b) ∧ (a % b).toInt = a.toInt % b.toInt := by
    intro n m a b i ha hb hi hi2
    have em : (a % b).toInt = a.toInt % b.toInt := by
      rw [Int32.toInt_mod]
      exact Int.tmod_eq_emod_of_nonneg ha
    have nb : ¬ b = 0 := fun e => by rw [e] at hb; exact absurd hb (by decide)
    have lc : ¬ lg_cmp b.toInt64 0 = 0 := fun e => by
      have e2 : b.toInt64 > 0 := Int64.lt_iff_toInt_lt.mpr (by rw [t64]; show (0 : Int) < _; omega)
      simp only [lg_cmp] at e
      rw [if_pos e2] at e
      exact absurd e (by decide)
    have e64 : a.toInt64 % b.toInt64 = (a % b).toInt64 := by
      apply Int64.toInt_inj.mp
      rw [Int64.toInt_mod, t64, t64, t64, Int32.toInt_mod]
    refine ⟨?_, ?_, em⟩
    · rw [L_sx_commonDivisor_9_0, if_neg (fun e => by have := vv_ge.mp e; omega)]
      simp only [letv_eq]
      rw [if_neg lc, lrem_eq, e64]
    · rw [L_sm_divisor_4_0, if_neg nb]
      simp only [letv_eq]
      rw [irem_eq]
  have stop : ∀ (n m : Nat) (a i : Int32), L_sx_commonDivisor_9_0 (n + 1) a.toInt64 (0 : Int32).toInt64 i = a.toInt64 ∧ L_sm_divisor_4_0 (m + 1) a 0 = a := by
    intro n m a i
    refine ⟨?_, ?_⟩
    · rw [L_sx_commonDivisor_9_0]
      by_cases c : i ≥ (128 : Int32)
      · rw [if_pos c]
      · rw [if_neg c]
        simp only [letv_eq]
        have e : lg_cmp (0 : Int32).toInt64 0 = 0 := by decide
        rw [e, if_pos rfl]
    · rw [L_sm_divisor_4_0, if_pos rfl]
  intro k
  induction k with
  | zero =>
    intro n m a b i ha hb hk hi hi2 hn hm
    have e : b = 0 := Int32.toInt_inj.mp (by have : ((2 ^ 0 : Nat) : Int) = 1 := rfl; omega)
    subst e
    obtain ⟨n, rfl⟩ : ∃ q, n = q + 1 := ⟨n - 1, by omega⟩
    obtain ⟨m, rfl⟩ : ∃ q, m = q + 1 := ⟨m - 1, by omega⟩
    obtain ⟨s1, s2⟩ := stop n m a i
    rw [s1, s2]
    exact ⟨rfl, ha, fun h => by omega⟩
  | succ k ih =>
    intro n m a b i ha hb hk hi hi2 hn hm
    obtain ⟨n, rfl⟩ : ∃ q, n = q + 1 := ⟨n - 1, by omega⟩
    obtain ⟨m, rfl⟩ : ∃ q, m = q + 1 := ⟨m - 1, by omega⟩
    by_cases b0 : b.toInt = 0
    · have e : b = 0 := Int32.toInt_inj.mp (by omega)
      subst e
      obtain ⟨s1, s2⟩ := stop n m a i
      rw [s1, s2]
      exact ⟨rfl, ha, fun h => by omega⟩
    · obtain ⟨t1, t2, t3⟩ := turn n m a b i ha (by omega) hi (by omega)
      rw [t1, t2]
      have r0 := Int.emod_nonneg a.toInt (show b.toInt ≠ 0 by omega)
      have r1 := Int.emod_lt_of_pos a.toInt (show 0 < b.toInt by omega)
      have ai : (i + 1 : Int32).toInt = i.toInt + 1 := vp1 (by omega)
      generalize a % b = r at t3
      obtain ⟨n, rfl⟩ : ∃ q, n = q + 1 := ⟨n - 1, by omega⟩
      obtain ⟨m, rfl⟩ : ∃ q, m = q + 1 := ⟨m - 1, by omega⟩
      by_cases r00 : r.toInt = 0
      · have e : r = 0 := Int32.toInt_inj.mp (by omega)
        subst e
        obtain ⟨s1, s2⟩ := stop n m b (i + 1)
        rw [s1, s2]
        exact ⟨rfl, hb, fun _ => by omega⟩
      · obtain ⟨u1, u2, u3⟩ := turn n m b r (i + 1) hb (by omega) (by omega) (by omega)
        rw [u1, u2]
        have q0 := Int.emod_nonneg b.toInt (show r.toInt ≠ 0 by omega)
        have q1 := Int.emod_lt_of_pos b.toInt (show 0 < r.toInt by omega)
        have q2 : 2 * (b.toInt % r.toInt) < b.toInt := by
          have d := Int.emod_add_mul_ediv b.toInt r.toInt
          have e1 : 1 ≤ b.toInt / r.toInt := by
            have := Int.le_ediv_of_mul_le (show 0 < r.toInt by omega) (show 1 * r.toInt ≤ b.toInt by omega)
            exact this
          have e2 : r.toInt * 1 ≤ r.toInt * (b.toInt / r.toInt) := Int.mul_le_mul_of_nonneg_left e1 (by omega)
          omega
        have aii : (i + 1 + 1 : Int32).toInt = i.toInt + 2 := by
          have := vp1 (v := i + 1) (by omega)
          omega
        generalize b % r = q at u3
        have pw : ((2 ^ (k + 1) : Nat) : Int) = 2 * ((2 ^ k : Nat) : Int) := by
          rw [Nat.pow_succ]
          omega
        generalize i + 1 + 1 = i2 at aii
        obtain ⟨g1, g2, g3⟩ := ih n m r q i2 (by omega) (by omega) (by omega) (by omega) (by omega) (by omega) (by omega)
        exact ⟨g1, g2, fun _ => g3 (by omega)⟩
theorem share {mux mum : Nat → Nat → Int32} {T : Int} (hT : 0 ≤ T ∧ T ≤ 1000000) (okm : okR loM hiM mum) (hC : core mux mum) (hm : mon T mum) : F_sx_allPurses mux = (F_sm_allPurses mum).toInt64 ∧ F_sx_richestPurse mux = (F_sm_richest mum).toInt64 ∧ F_sx_commonDivisor (F_sm_richest mum).toInt64 (F_sm_allPurses mum).toInt64 = (F_sm_divisor (F_sm_richest mum) (F_sm_allPurses mum)).toInt64 ∧ (0 ≤ (F_sm_richest mum).toInt ∧ (F_sm_richest mum).toInt ≤ (F_sm_allPurses mum).toInt) ∧ (0 ≤ (F_sm_divisor (F_sm_richest mum) (F_sm_allPurses mum)).toInt) ∧ (¬ (F_sm_allPurses mum).toInt = 0 → 1 ≤ (F_sm_divisor (F_sm_richest mum) (F_sm_allPurses mum)).toInt) := by
  have hb : 0 ≤ (mum 0 8).toInt ∧ (mum 0 8).toInt ≤ 7 := okm 0 8
  have z0 : (0 : Int32).toInt = 0 := rfl
  obtain ⟨hK, -, -, -, hP, -⟩ := hC
  have hp := hm.1
  have a := all_loop hT.2 hK hb hP hp 10 0 0 (by decide) (by rw [z0]; exact hb.1) rfl (by rw [z0]; omega)
  have r := rich_loop hT.1 hK hb hP hp 10 0 0 (by decide) (by rw [z0]; exact hb.1) ⟨by decide, by rw [z0]; exact tot_pos _ hp.1⟩ (by rw [z0]; omega)
  have a1 : F_sx_allPurses mux = (F_sm_allPurses mum).toInt64 := a.1
  have a2 : (F_sm_allPurses mum).toInt = tot (mum 8) (mum 0 8).toNatClampNeg := a.2
  have r1 : F_sx_richestPurse mux = (F_sm_richest mum).toInt64 := r.1
  have r2 : 0 ≤ (F_sm_richest mum).toInt ∧ (F_sm_richest mum).toInt ≤ tot (mum 8) (mum 0 8).toNatClampNeg := r.2
  have tT := hp.2
  have p20 : ((2 ^ 20 : Nat) : Int) = 1048576 := by decide
  have g := gcd_loop 20 131 2147483650 (F_sm_richest mum) (F_sm_allPurses mum) 0 r2.1 (by omega) (by rw [p20]; omega) (by decide) (by rw [z0]; omega) (by decide) (by omega)
  exact ⟨a1, r1, g.1, ⟨r2.1, by omega⟩, g.2.1, fun h => g.2.2 (fun e => h e.2)⟩
theorem upper_rel {r1 r2 : Int64} {mux mum xi1 xi2 : Nat → Nat → Int32} {T : Int} (hT : 0 ≤ T ∧ T ≤ 1000000) (okm : okR loM hiM mum) (hC : core mux mum) (hm : mon T mum) (h1 : (r1, xi1) = F_qx_upper mux) (h2 : (r2, xi2) = F_qm_upper mum) : r1 = r2 := by
  obtain ⟨a, b, c, d, e0, e⟩ := share hT okm hC hm
  simp only [F_qx_upper, letv_eq] at h1
  simp only [F_qm_upper, letv_eq] at h2
  rw [a, b, c] at h1
  generalize F_sm_divisor (F_sm_richest mum) (F_sm_allPurses mum) = g at h1 h2 c e0 e
  generalize F_sm_richest mum = R at h1 h2 c d
  generalize F_sm_allPurses mum = S at h1 h2 c d e
  by_cases q : S = 0
  · have hR : R = 0 := Int32.toInt_inj.mp (by rw [q] at d; have z : (0 : Int32).toInt = 0 := rfl; omega)
    have hg : g.toInt64 = 0 := by
      rw [← c, hR, q]
      decide
    have lc : lg_cmp g.toInt64 0 = 0 := by rw [hg]; decide
    rw [if_pos lc] at h1
    rw [if_pos q] at h2
    exact (Prod.mk.inj h1).1.trans (Prod.mk.inj h2).1.symm
  · have qz : ¬ S.toInt = 0 := fun h => q (Int32.toInt_inj.mp h)
    have g1 := e qz
    have lc : ¬ lg_cmp g.toInt64 0 = 0 := fun h => by
      have e2 : g.toInt64 > 0 := Int64.lt_iff_toInt_lt.mpr (by rw [t64]; show (0 : Int) < _; omega)
      simp only [lg_cmp] at h
      rw [if_pos e2] at h
      exact absurd h (by decide)
    rw [if_neg lc] at h1
    rw [if_neg q] at h2
    rw [(Prod.mk.inj h1).1, (Prod.mk.inj h2).1]
    apply Int64.toInt_inj.mp
    rw [Int64.toInt_div, t64, t64, t64, Int32.toInt_div]
    have dr : 0 ≤ R.toInt.tdiv g.toInt ∧ R.toInt.tdiv g.toInt ≤ R.toInt := by
      rw [Int.tdiv_eq_ediv_of_nonneg d.1]
      exact ⟨Int.ediv_nonneg d.1 e0, Int.ediv_le_self _ d.1⟩
    have hR := tI_hi R
    rw [Int.bmod_eq_of_le (by omega) (by omega), Int.bmod_eq_of_le (by omega) (by omega)]
theorem lower_rel {r1 r2 : Int64} {mux mum xi1 xi2 : Nat → Nat → Int32} {T : Int} (hT : 0 ≤ T ∧ T ≤ 1000000) (okm : okR loM hiM mum) (hC : core mux mum) (hm : mon T mum) (h1 : (r1, xi1) = F_qx_lower mux) (h2 : (r2, xi2) = F_qm_lower mum) : r1 = r2 := by
  obtain ⟨a, b, c, d, e0, e⟩ := share hT okm hC hm
  simp only [F_qx_lower, letv_eq] at h1
  simp only [F_qm_lower, letv_eq] at h2
  rw [a, b, c] at h1
  generalize F_sm_divisor (F_sm_richest mum) (F_sm_allPurses mum) = g at h1 h2 c e0 e
  generalize F_sm_richest mum = R at h1 h2 c d
  generalize F_sm_allPurses mum = S at h1 h2 c d e
  by_cases q : S = 0
  · have hR : R = 0 := Int32.toInt_inj.mp (by rw [q] at d; have z : (0 : Int32).toInt = 0 := rfl; omega)
    have hg : g.toInt64 = 0 := by
      rw [← c, hR, q]
      decide
    have lc : lg_cmp g.toInt64 0 = 0 := by rw [hg]; decide
    rw [if_pos lc] at h1
    rw [if_pos q] at h2
    exact (Prod.mk.inj h1).1.trans (Prod.mk.inj h2).1.symm
  · have qz : ¬ S.toInt = 0 := fun h => q (Int32.toInt_inj.mp h)
    have g1 := e qz
    have lc : ¬ lg_cmp g.toInt64 0 = 0 := fun h => by
      have e2 : g.toInt64 > 0 := Int64.lt_iff_toInt_lt.mpr (by rw [t64]; show (0 : Int) < _; omega)
      simp only [lg_cmp] at h
      rw [if_pos e2] at h
      exact absurd h (by decide)
    rw [if_neg lc] at h1
    rw [if_neg q] at h2
    rw [(Prod.mk.inj h1).1, (Prod.mk.inj h2).1]
    apply Int64.toInt_inj.mp
    rw [Int64.toInt_div, t64, t64, t64, Int32.toInt_div]
    have sn : 0 ≤ S.toInt := by omega
    have dr : 0 ≤ S.toInt.tdiv g.toInt ∧ S.toInt.tdiv g.toInt ≤ S.toInt := by
      rw [Int.tdiv_eq_ediv_of_nonneg sn]
      exact ⟨Int.ediv_nonneg sn e0, Int.ediv_le_self _ sn⟩
    have hS := tI_hi S
    rw [Int.bmod_eq_of_le (by omega) (by omega), Int.bmod_eq_of_le (by omega) (by omega)]

theorem wL_in {y2 : MethodName} {c2 : ByteArray} {n2 : Nat} {r2 : Option FieldType} (h : Cond.code y2 c2 n2 r2 ∈ lw_good) : GoodIn lw_tbl (wU y2 c2 n2 r2) := fun w hw => by
  have hg : ∀ w, w ∈ lw_good → w ∈ lw_tbl ∧ ((w.onTables && w.keeps) = true ∨ ∃ ty, w = .arrayClass ty) := fun w h => ⟨(List.mem_filter.mp h).1, good_of_word (List.mem_filter.mp h).2⟩
  rcases List.mem_cons.mp hw with e | hw
  · rw [e]; exact hg _ h
  · exact hg w hw
theorem wL_V {y2 : MethodName} {c2 : ByteArray} {n2 i : Nat} {r2 : Option FieldType} {own C : String} (h : Cond.code y2 c2 n2 r2 ∈ lw_good) (h1 : Cond.methodLink own i y2 ∈ lw_good) (h2 : Cond.instanceMethod y2 ∈ lw_good) (h3 : Cond.selects C y2 y2 ∈ lw_good) (h4 : Cond.initialized C ∈ lw_good) : GoodIn lw_tbl (wsV own i C y2 (wU y2 c2 n2 r2)) := fun w hw => by
  have hg : ∀ w, w ∈ lw_good → w ∈ lw_tbl ∧ ((w.onTables && w.keeps) = true ∨ ∃ ty, w = .arrayClass ty) := fun w h => ⟨(List.mem_filter.mp h).1, good_of_word (List.mem_filter.mp h).2⟩
  rcases List.mem_append.mp hw with hw | hw
  · simp only [List.mem_cons, List.not_mem_nil, or_false] at hw
    rcases hw with e | e | e | e <;> rw [e]
    · exact hg _ h1
    · exact hg _ h2
    · exact hg _ h3
    · exact hg _ h4
  · exact wL_in h w hw
theorem kp_rest {A0 : Nat → Prop} {D : va_G} {cl : List vw_C} {w1 w2 : va_W} {H H1 : Heap} (hD : va_D A0 (w1 ++ w2)) (hP : va_P D cl w2 H) (hk : ∀ q : Nat, q < H.size → ¬ va_A w1 H.size q → H1[q]? = H[q]?) : va_P D cl w2 H1 := by
  refine hP.kept (fun k x hx => hk x.1 (hP k x hx).lt (fun h => ?_))
  rcases h with ⟨i, e, hi⟩ | h
  · have hlt : i < w1.length := (List.getElem?_eq_some_iff.mp hi).1
    have h1 : (w1 ++ w2)[i]? = some (x.1, e) := by rw [List.getElem?_append_left hlt]; exact hi
    have h2 : (w1 ++ w2)[w1.length + k]? = some x := by rw [List.getElem?_append_right (Nat.le_add_right _ _), Nat.add_sub_cancel_left]; exact hx
    have := hD.1 _ _ _ _ h1 h2 rfl
    omega
  · exact absurd (hP k x hx).lt (Nat.not_lt.mpr h)
theorem dl_left {A0 : Nat → Prop} {w1 w2 : va_W} (hD : va_D A0 (w1 ++ w2)) : va_D A0 w1 := by
  have ap : ∀ {i : Nat} {q : Nat × va_E}, w1[i]? = some q → (w1 ++ w2)[i]? = some q := fun {i q} h => by
    rw [List.getElem?_append_left (List.getElem?_eq_some_iff.mp h).1]; exact h
  exact ⟨fun i j p q h1 h2 e => hD.1 i j p q (ap h1) (ap h2) e, fun k q h => hD.2 k q (ap h)⟩
theorem dl_right {A0 : Nat → Prop} {w1 w2 : va_W} (hD : va_D A0 (w1 ++ w2)) : va_D A0 w2 := by
  have ap : ∀ {i : Nat} {q : Nat × va_E}, w2[i]? = some q → (w1 ++ w2)[w1.length + i]? = some q := fun {i q} h => by
    rw [List.getElem?_append_right (Nat.le_add_right _ _), Nat.add_sub_cancel_left]; exact h
  exact ⟨fun i j p q h1 h2 e => by have := hD.1 _ _ p q (ap h1) (ap h2) e; omega, fun k q h => hD.2 _ q (ap h)⟩
theorem lg_same {x y : Int64} (h : x = y) : lg_cmp x y = 0 := by
  subst h
  simp [lg_cmp]
theorem wR_fst {N : Nat} {ad : Nat → Nat} {E : Nat → (Nat → Int32) → va_E} {mu : Nat → Nat → Int32} : (wR N ad E mu).map Prod.fst = (List.range N).map ad := by
  unfold wR
  rw [List.map_map]
  rfl
theorem wR_DD {A : Nat → Prop} {N1 N2 : Nat} {ad1 ad2 : Nat → Nat} {E1 E2 : Nat → (Nat → Int32) → va_E} {mu1 mu2 : Nat → Nat → Int32} (nu1 nu2 : Nat → Nat → Int32) (h : va_D A (wR N1 ad1 E1 mu1 ++ wR N2 ad2 E2 mu2)) : va_D A (wR N1 ad1 E1 nu1 ++ wR N2 ad2 E2 nu2) := by
  obtain ⟨h1, h2⟩ := vaD_iff.mp h
  have key : ∀ (m1 m2 : Nat → Nat → Int32), (wR N1 ad1 E1 m1 ++ wR N2 ad2 E2 m2).map Prod.fst = (List.range N1).map ad1 ++ (List.range N2).map ad2 := fun m1 m2 => by rw [List.map_append, wR_fst, wR_fst]
  refine vaD_iff.mpr ⟨?_, fun q hq => ?_⟩
  · rw [key]
    rw [key] at h1
    exact h1
  · have h3 : q.1 ∈ (wR N1 ad1 E1 nu1 ++ wR N2 ad2 E2 nu2).map Prod.fst := List.mem_map.mpr ⟨q, hq, rfl⟩
    rw [key nu1 nu2, ← key mu1 mu2] at h3
    obtain ⟨x, hx, e⟩ := List.mem_map.mp h3
    rw [← e]
    exact h2 x hx
theorem ok0X : okR loX hiX mu0X := by
  have h0 : ∀ c f : Nat, loXc c f ≤ 0 ∧ 0 ≤ hiXc c f := by
    intro c f
    unfold loXc hiXc
    constructor <;> (repeat' split) <;> omega
  intro k f
  by_cases c1 : k < 8
  · have e : mu0X k = fun _ => 0 := by unfold mu0X; rw [if_pos c1]
    rw [e]
    exact h0 _ _
  · by_cases c2 : k < 18
    · have e : mu0X k = fun f => if f = 1 then -1 else 0 := by unfold mu0X; rw [if_neg c1, if_pos c2]
      rw [e]
      by_cases cf : f = 1
      · subst cf
        have key : ∀ k, k < 18 → ¬ k < 8 → loX k 1 ≤ -1 ∧ -1 ≤ hiX k 1 := by decide +kernel
        exact key k c2 c1
      · show loX k f ≤ ((if f = 1 then (-1 : Int32) else 0)).toInt ∧ ((if f = 1 then (-1 : Int32) else 0)).toInt ≤ hiX k f
        rw [if_neg cf]
        exact h0 _ _
    · have e : mu0X k = fun _ => 0 := by unfold mu0X; rw [if_neg c1, if_neg c2]
      rw [e]
      exact h0 _ _
theorem ok0M : okR loM hiM mu0M := by
  have h0 : ∀ c f : Nat, loMc c f ≤ 0 ∧ 0 ≤ hiMc c f := by
    intro c f
    unfold loMc hiMc
    constructor <;> (repeat' split) <;> omega
  intro k f
  unfold mu0M
  split
  · have key : ∀ f, loM 2 f ≤ -9 ∧ -9 ≤ hiM 2 f := fun f => by
      show (-9 : Int) ≤ -9 ∧ (-9 : Int) ≤ 40
      decide
    exact key f
  · have key : ∀ f, loM 5 f ≤ -9 ∧ -9 ≤ hiM 5 f := fun f => by
      show (-9 : Int) ≤ -9 ∧ (-9 : Int) ≤ 80
      decide
    exact key f
  · by_cases c : f = 0 ∨ f = 64 ∨ f = 128
    · show loM 15 f ≤ (if f = 0 ∨ f = 64 ∨ f = 128 then (-9 : Int32) else 0).toInt ∧ (if f = 0 ∨ f = 64 ∨ f = 128 then (-9 : Int32) else 0).toInt ≤ hiM 15 f
      rw [if_pos c]
      rcases c with rfl | rfl | rfl <;> decide
    · show loM 15 f ≤ (if f = 0 ∨ f = 64 ∨ f = 128 then (-9 : Int32) else 0).toInt ∧ (if f = 0 ∨ f = 64 ∨ f = 128 then (-9 : Int32) else 0).toInt ≤ hiM 15 f
      rw [if_neg c]
      exact h0 _ _
  · exact h0 _ _

/-! THE CLAIM OUT OF ONE WALK OF THE LAW'S BODY. Your part is whole_start (and what it stands on); all else here is the same for every law, but numbers. -/
def R_law : String := "DearLettersLaw"
def lw_P (b : Addr) (xs : List Int32) (args : Array Value) (s : State) : Prop := args = #[.ref b] ∧ s.IntsAt b xs ∧ xs.length ≤ 384 ∧ (Jvm.Cond.and given_1 narrow_1).before args s = true
def lw_Q (_ : Array Value) (s : State) (o : Outcome) (t : State) : Prop := o = .returned (some (.int 1)) ∧ Framed s o t [] 600000 7302250
def lw_Z (below : List Frame) (a : Array Value) (s : State) : State → Prop := fun t => ∃ o, t.status = .running ∧ Ended t below o ∧ lw_Q a s o t
/-- the law's own end, with 1 on the stack, nothing written that was there before, its room as the claim has it -/
theorem lw_ret {p : Program} {l : Launch} {e : Env} {s : State} {m : MethodId} {below : List Frame} {meth : Method} {c : Code} {b : Nat} (hx : p.tables.exec = Jvm.exec) (hb : c.code = code) (hr : meth.sig.returnType = ret) (hlocks : meth.locks = false) {pc : Nat} {H : Heap} {ls : Array Slot} (hdg : decode code pc = .ok (.ireturn, 1)) : W p l e room_1 s m #[Value.ref b] below meth c H [] 600000 7302250 (lw_Z below #[Value.ref b] s) (F0 m pc ls [.int 1]) := by
  intro T hT X
  obtain ⟨fs, hret, hrun, hended, hW, hframe⟩ := X.leave (v := some (.int 1)) (hlocks := hlocks) (fun h => by rw [hr] at h; cases h)
  have hmeth' : T.vm.method? m = some meth := X.method'
  refine ⟨T.setFrames fs, ?_, .returned (some (.int 1)), hrun, hended, rfl, ⟨_, rfl⟩, hW, hframe⟩
  jvm_step X.here [X.here.top, hx, hb, hdg, hmeth', hr, ret, narrow_b1]
  (try refine ⟨rfl, ?_⟩); (try refine ⟨rfl, ?_⟩)
  first | (intro acts; rw [hret _ acts rfl rfl rfl]) | rw [hret _ _ rfl rfl rfl]
  exact Steps.refl _
/-- what holds at the law's entry: the machine, the code, the tables' words (any of lw_tbl by 'hts w (by decide +kernel)'), the script of L ints xs at the cell b, what the Statement gives of the start (any of its parts by flat_of_before) -/
def lw_At (p : Program) (s : State) (m : MethodId) (meth : Method) (c : Code) (b L : Nat) (xs : Nat → Int32) : Prop :=
  p.tables.exec = Jvm.exec ∧ c.code = code ∧ meth.sig.returnType = ret ∧ c.maxLocals = 4 ∧ s.vm.findClass R_law = some m.cls ∧ (∀ w ∈ lw_tbl, w.before #[Value.ref b] s = true) ∧ va_X b L xs s s.heap ∧ b < s.heap.size ∧ meth.locks = false ∧ (Jvm.Cond.and given_1 narrow_1).before #[Value.ref b] s = true
/-- what stays over the whole law -/
def lw_F (p : Program) (s : State) (m : MethodId) (meth : Method) (c : Code) (b L : Nat) (xs : Nat → Int32) (dC : Nat → ClassId) (dI : Nat → Nat → Nat) (cs : Nat → ClassId) (tt : Nat) : Prop :=
  lw_At p s m meth c b L xs ∧ va_K (dC, dI) vwCl (tyW cs) s ∧ va_K (dC, dI) vwCl (tyM cs) s ∧ kz s ∧ ks (fun q : Nat => s.heap.size ≤ q) tt s.heap s
/-- both worlds, and where the law stands -/
def lw_J (s : State) (b : Nat) (dC : Nat → ClassId) (dI : Nat → Nat → Nat) (cs : Nat → ClassId) (adx adm : Nat → Nat) (i : Int32) (cc : Int) (mux mum : Nat → Nat → Int32) (H : Heap) (locs : List Loc) (ls : Array Slot) : Prop :=
  okR loX hiX mux ∧ okR loM hiM mum ∧ (simT mux mum ∧ core mux mum ∧ mon cc mum) ∧ va_P (dC, dI) vwCl (wR 157 adx (EX cs adx) mux) H ∧ va_P (dC, dI) vwCl (wR 21 adm (EM cs adm) mum) H ∧ va_D (fun q : Nat => s.heap.size ≤ q) ((wR 157 adx (EX cs adx) mux) ++ (wR 21 adm (EM cs adm) mum)) ∧ va_S (fun q : Nat => s.heap.size ≤ q) s.heap H locs ∧ lv_has ls 4 [(3, .int i), (2, .ref (adm 0)), (1, .ref (adx 0)), (0, .ref b)]

theorem lb_0 : dl_ck (cL_law.data.toList.drop 0) [187, 0, 7, 89, 183, 0, 9, 76, 187, 0, 10, 89, 183, 0, 12, 77, 3, 62, 29, 42, 190, 16, 6, 100, 163, 6, 88, 42, 29, 46, 16, 63] = true := by decide +kernel
theorem lb_1 : dl_ck (cL_law.data.toList.drop 32) [126, 170, 0, 0, 0, 0, 6, 73, 0, 0, 0, 0, 0, 0, 0, 48, 0, 0, 0, 211, 0, 0, 0, 244, 0, 0, 1, 31, 0, 0, 1, 64] = true := by decide +kernel
theorem lb_2 : dl_ck (cL_law.data.toList.drop 64) [0, 0, 1, 87, 0, 0, 1, 150, 0, 0, 1, 173, 0, 0, 1, 206, 0, 0, 1, 249, 0, 0, 2, 16, 0, 0, 2, 39, 0, 0, 2, 72] = true := by decide +kernel
theorem lb_3 : dl_ck (cL_law.data.toList.drop 96) [0, 0, 2, 105, 0, 0, 2, 138, 0, 0, 2, 171, 0, 0, 2, 204, 0, 0, 2, 227, 0, 0, 3, 24, 0, 0, 3, 57, 0, 0, 3, 80] = true := by decide +kernel
theorem lb_4 : dl_ck (cL_law.data.toList.drop 128) [0, 0, 3, 103, 0, 0, 3, 136, 0, 0, 3, 159, 0, 0, 3, 182, 0, 0, 3, 205, 0, 0, 3, 228, 0, 0, 4, 5, 0, 0, 4, 38] = true := by decide +kernel
theorem lb_5 : dl_ck (cL_law.data.toList.drop 160) [0, 0, 4, 61, 0, 0, 4, 84, 0, 0, 4, 107, 0, 0, 4, 130, 0, 0, 4, 153, 0, 0, 4, 176, 0, 0, 4, 219, 0, 0, 4, 242] = true := by decide +kernel
theorem lb_6 : dl_ck (cL_law.data.toList.drop 192) [0, 0, 5, 9, 0, 0, 5, 52, 0, 0, 5, 75, 0, 0, 5, 108, 0, 0, 5, 141, 0, 0, 5, 184, 0, 0, 5, 217, 0, 0, 5, 230] = true := by decide +kernel
theorem lb_7 : dl_ck (cL_law.data.toList.drop 224) [0, 0, 5, 243, 0, 0, 6, 1, 0, 0, 6, 24, 0, 0, 6, 37, 0, 0, 6, 60, 43, 42, 29, 4, 96, 46, 42, 29, 5, 96, 46, 182] = true := by decide +kernel
theorem lb_8 : dl_ck (cL_law.data.toList.drop 256) [0, 13, 87, 44, 42, 29, 4, 96, 46, 42, 29, 5, 96, 46, 182, 0, 17, 87, 167, 5, 88, 43, 42, 29, 4, 96, 46, 42, 29, 5, 96, 46] = true := by decide +kernel
theorem lb_9 : dl_ck (cL_law.data.toList.drop 288) [42, 29, 6, 96, 46, 182, 0, 18, 87, 44, 42, 29, 4, 96, 46, 42, 29, 5, 96, 46, 42, 29, 6, 96, 46, 182, 0, 22, 87, 167, 5, 45] = true := by decide +kernel
theorem lb_10 : dl_ck (cL_law.data.toList.drop 320) [43, 42, 29, 4, 96, 46, 42, 29, 5, 96, 46, 182, 0, 23, 87, 44, 42, 29, 4, 96, 46, 42, 29, 5, 96, 46, 182, 0, 26, 87, 167, 5] = true := by decide +kernel
theorem lb_11 : dl_ck (cL_law.data.toList.drop 352) [12, 43, 42, 29, 4, 96, 46, 182, 0, 27, 87, 44, 42, 29, 4, 96, 46, 182, 0, 31, 87, 167, 4, 245, 43, 42, 29, 4, 96, 46, 42, 29] = true := by decide +kernel
theorem lb_12 : dl_ck (cL_law.data.toList.drop 384) [5, 96, 46, 42, 29, 6, 96, 46, 42, 29, 7, 96, 46, 42, 29, 8, 96, 46, 182, 0, 32, 87, 44, 42, 29, 4, 96, 46, 42, 29, 5, 96] = true := by decide +kernel
theorem lb_13 : dl_ck (cL_law.data.toList.drop 416) [46, 42, 29, 6, 96, 46, 42, 29, 7, 96, 46, 42, 29, 8, 96, 46, 182, 0, 36, 87, 167, 4, 182, 43, 42, 29, 4, 96, 46, 182, 0, 37] = true := by decide +kernel
theorem lb_14 : dl_ck (cL_law.data.toList.drop 448) [87, 44, 42, 29, 4, 96, 46, 182, 0, 40, 87, 167, 4, 159, 43, 42, 29, 4, 96, 46, 42, 29, 5, 96, 46, 182, 0, 41, 87, 44, 42, 29] = true := by decide +kernel
theorem lb_15 : dl_ck (cL_law.data.toList.drop 480) [4, 96, 46, 42, 29, 5, 96, 46, 182, 0, 44, 87, 167, 4, 126, 43, 42, 29, 4, 96, 46, 42, 29, 5, 96, 46, 42, 29, 6, 96, 46, 182] = true := by decide +kernel
theorem lb_16 : dl_ck (cL_law.data.toList.drop 512) [0, 45, 87, 44, 42, 29, 4, 96, 46, 42, 29, 5, 96, 46, 42, 29, 6, 96, 46, 182, 0, 48, 87, 167, 4, 83, 43, 42, 29, 4, 96, 46] = true := by decide +kernel
theorem lb_17 : dl_ck (cL_law.data.toList.drop 544) [182, 0, 49, 87, 44, 42, 29, 4, 96, 46, 182, 0, 52, 87, 167, 4, 60, 43, 42, 29, 4, 96, 46, 182, 0, 53, 87, 44, 42, 29, 4, 96] = true := by decide +kernel
theorem lb_18 : dl_ck (cL_law.data.toList.drop 576) [46, 182, 0, 56, 87, 167, 4, 37, 43, 42, 29, 4, 96, 46, 42, 29, 5, 96, 46, 182, 0, 57, 87, 44, 42, 29, 4, 96, 46, 42, 29, 5] = true := by decide +kernel
theorem lb_19 : dl_ck (cL_law.data.toList.drop 608) [96, 46, 182, 0, 60, 87, 167, 4, 4, 43, 42, 29, 4, 96, 46, 42, 29, 5, 96, 46, 182, 0, 61, 87, 44, 42, 29, 4, 96, 46, 42, 29] = true := by decide +kernel
theorem lb_20 : dl_ck (cL_law.data.toList.drop 640) [5, 96, 46, 182, 0, 64, 87, 167, 3, 227, 43, 42, 29, 4, 96, 46, 42, 29, 5, 96, 46, 182, 0, 65, 87, 44, 42, 29, 4, 96, 46, 42] = true := by decide +kernel
theorem lb_21 : dl_ck (cL_law.data.toList.drop 672) [29, 5, 96, 46, 182, 0, 68, 87, 167, 3, 194, 43, 42, 29, 4, 96, 46, 42, 29, 5, 96, 46, 182, 0, 69, 87, 44, 42, 29, 4, 96, 46] = true := by decide +kernel
theorem lb_22 : dl_ck (cL_law.data.toList.drop 704) [42, 29, 5, 96, 46, 182, 0, 72, 87, 167, 3, 161, 43, 42, 29, 4, 96, 46, 42, 29, 5, 96, 46, 182, 0, 73, 87, 44, 42, 29, 4, 96] = true := by decide +kernel
theorem lb_23 : dl_ck (cL_law.data.toList.drop 736) [46, 42, 29, 5, 96, 46, 182, 0, 76, 87, 167, 3, 128, 43, 42, 29, 4, 96, 46, 182, 0, 77, 87, 44, 42, 29, 4, 96, 46, 182, 0, 80] = true := by decide +kernel
theorem lb_24 : dl_ck (cL_law.data.toList.drop 768) [87, 167, 3, 105, 43, 42, 29, 4, 96, 46, 42, 29, 5, 96, 46, 42, 29, 6, 96, 46, 42, 29, 7, 96, 46, 182, 0, 81, 87, 44, 42, 29] = true := by decide +kernel
theorem lb_25 : dl_ck (cL_law.data.toList.drop 800) [4, 96, 46, 42, 29, 5, 96, 46, 42, 29, 6, 96, 46, 42, 29, 7, 96, 46, 182, 0, 85, 87, 167, 3, 52, 43, 42, 29, 4, 96, 46, 42] = true := by decide +kernel
theorem lb_26 : dl_ck (cL_law.data.toList.drop 832) [29, 5, 96, 46, 182, 0, 86, 87, 44, 42, 29, 4, 96, 46, 42, 29, 5, 96, 46, 182, 0, 89, 87, 167, 3, 19, 43, 42, 29, 4, 96, 46] = true := by decide +kernel
theorem lb_27 : dl_ck (cL_law.data.toList.drop 864) [182, 0, 90, 87, 44, 42, 29, 4, 96, 46, 182, 0, 93, 87, 167, 2, 252, 43, 42, 29, 4, 96, 46, 182, 0, 94, 87, 44, 42, 29, 4, 96] = true := by decide +kernel
theorem lb_28 : dl_ck (cL_law.data.toList.drop 896) [46, 182, 0, 97, 87, 167, 2, 229, 43, 42, 29, 4, 96, 46, 42, 29, 5, 96, 46, 182, 0, 98, 87, 44, 42, 29, 4, 96, 46, 42, 29, 5] = true := by decide +kernel
theorem lb_29 : dl_ck (cL_law.data.toList.drop 928) [96, 46, 182, 0, 101, 87, 167, 2, 196, 43, 42, 29, 4, 96, 46, 182, 0, 102, 87, 44, 42, 29, 4, 96, 46, 182, 0, 105, 87, 167, 2, 173] = true := by decide +kernel
theorem lb_30 : dl_ck (cL_law.data.toList.drop 960) [43, 42, 29, 4, 96, 46, 182, 0, 106, 87, 44, 42, 29, 4, 96, 46, 182, 0, 109, 87, 167, 2, 150, 43, 42, 29, 4, 96, 46, 182, 0, 110] = true := by decide +kernel
theorem lb_31 : dl_ck (cL_law.data.toList.drop 992) [87, 44, 42, 29, 4, 96, 46, 182, 0, 113, 87, 167, 2, 127, 43, 42, 29, 4, 96, 46, 182, 0, 114, 87, 44, 42, 29, 4, 96, 46, 182, 0] = true := by decide +kernel
theorem lb_32 : dl_ck (cL_law.data.toList.drop 1024) [117, 87, 167, 2, 104, 43, 42, 29, 4, 96, 46, 42, 29, 5, 96, 46, 182, 0, 118, 87, 44, 42, 29, 4, 96, 46, 42, 29, 5, 96, 46, 182] = true := by decide +kernel
theorem lb_33 : dl_ck (cL_law.data.toList.drop 1056) [0, 121, 87, 167, 2, 71, 43, 42, 29, 4, 96, 46, 42, 29, 5, 96, 46, 182, 0, 122, 87, 44, 42, 29, 4, 96, 46, 42, 29, 5, 96, 46] = true := by decide +kernel
theorem lb_34 : dl_ck (cL_law.data.toList.drop 1088) [182, 0, 125, 87, 167, 2, 38, 43, 42, 29, 4, 96, 46, 182, 0, 126, 87, 44, 42, 29, 4, 96, 46, 182, 0, 129, 87, 167, 2, 15, 43, 42] = true := by decide +kernel
theorem lb_35 : dl_ck (cL_law.data.toList.drop 1120) [29, 4, 96, 46, 182, 0, 130, 87, 44, 42, 29, 4, 96, 46, 182, 0, 133, 87, 167, 1, 248, 43, 42, 29, 4, 96, 46, 182, 0, 134, 87, 44] = true := by decide +kernel
theorem lb_36 : dl_ck (cL_law.data.toList.drop 1152) [42, 29, 4, 96, 46, 182, 0, 137, 87, 167, 1, 225, 43, 42, 29, 4, 96, 46, 182, 0, 138, 87, 44, 42, 29, 4, 96, 46, 182, 0, 141, 87] = true := by decide +kernel
theorem lb_37 : dl_ck (cL_law.data.toList.drop 1184) [167, 1, 202, 43, 42, 29, 4, 96, 46, 182, 0, 142, 87, 44, 42, 29, 4, 96, 46, 182, 0, 145, 87, 167, 1, 179, 43, 42, 29, 4, 96, 46] = true := by decide +kernel
theorem lb_38 : dl_ck (cL_law.data.toList.drop 1216) [182, 0, 146, 87, 44, 42, 29, 4, 96, 46, 182, 0, 149, 87, 167, 1, 156, 43, 42, 29, 4, 96, 46, 42, 29, 5, 96, 46, 42, 29, 6, 96] = true := by decide +kernel
theorem lb_39 : dl_ck (cL_law.data.toList.drop 1248) [46, 182, 0, 150, 87, 44, 42, 29, 4, 96, 46, 42, 29, 5, 96, 46, 42, 29, 6, 96, 46, 182, 0, 153, 87, 167, 1, 113, 43, 42, 29, 4] = true := by decide +kernel
theorem lb_40 : dl_ck (cL_law.data.toList.drop 1280) [96, 46, 182, 0, 154, 87, 44, 42, 29, 4, 96, 46, 182, 0, 157, 87, 167, 1, 90, 43, 42, 29, 4, 96, 46, 182, 0, 158, 87, 44, 42, 29] = true := by decide +kernel
theorem lb_41 : dl_ck (cL_law.data.toList.drop 1312) [4, 96, 46, 182, 0, 161, 87, 167, 1, 67, 43, 42, 29, 4, 96, 46, 42, 29, 5, 96, 46, 42, 29, 6, 96, 46, 182, 0, 162, 87, 44, 42] = true := by decide +kernel
theorem lb_42 : dl_ck (cL_law.data.toList.drop 1344) [29, 4, 96, 46, 42, 29, 5, 96, 46, 42, 29, 6, 96, 46, 182, 0, 165, 87, 167, 1, 24, 43, 42, 29, 4, 96, 46, 182, 0, 166, 87, 44] = true := by decide +kernel
theorem lb_43 : dl_ck (cL_law.data.toList.drop 1376) [42, 29, 4, 96, 46, 182, 0, 169, 87, 167, 1, 1, 43, 42, 29, 4, 96, 46, 42, 29, 5, 96, 46, 182, 0, 170, 87, 44, 42, 29, 4, 96] = true := by decide +kernel
theorem lb_44 : dl_ck (cL_law.data.toList.drop 1408) [46, 42, 29, 5, 96, 46, 182, 0, 173, 87, 167, 0, 224, 43, 42, 29, 4, 96, 46, 42, 29, 5, 96, 46, 182, 0, 174, 87, 44, 42, 29, 4] = true := by decide +kernel
theorem lb_45 : dl_ck (cL_law.data.toList.drop 1440) [96, 46, 42, 29, 5, 96, 46, 182, 0, 177, 87, 167, 0, 191, 43, 42, 29, 4, 96, 46, 42, 29, 5, 96, 46, 42, 29, 6, 96, 46, 182, 0] = true := by decide +kernel
theorem lb_46 : dl_ck (cL_law.data.toList.drop 1472) [178, 87, 44, 42, 29, 4, 96, 46, 42, 29, 5, 96, 46, 42, 29, 6, 96, 46, 182, 0, 181, 87, 167, 0, 148, 43, 42, 29, 4, 96, 46, 42] = true := by decide +kernel
theorem lb_47 : dl_ck (cL_law.data.toList.drop 1504) [29, 5, 96, 46, 182, 0, 182, 87, 44, 42, 29, 4, 96, 46, 42, 29, 5, 96, 46, 182, 0, 185, 87, 167, 0, 115, 43, 182, 0, 186, 87, 44] = true := by decide +kernel
theorem lb_48 : dl_ck (cL_law.data.toList.drop 1536) [182, 0, 190, 87, 167, 0, 102, 43, 182, 0, 191, 88, 44, 182, 0, 195, 88, 167, 0, 89, 43, 182, 0, 196, 44, 182, 0, 199, 148, 153, 0, 77] = true := by decide +kernel
theorem lb_49 : dl_ck (cL_law.data.toList.drop 1568) [3, 172, 43, 42, 29, 4, 96, 46, 182, 0, 200, 87, 44, 42, 29, 4, 96, 46, 182, 0, 203, 87, 167, 0, 52, 43, 182, 0, 204, 87, 44, 182] = true := by decide +kernel
theorem lb_50 : dl_ck (cL_law.data.toList.drop 1600) [0, 207, 87, 167, 0, 39, 43, 42, 29, 4, 96, 46, 182, 0, 208, 87, 44, 42, 29, 4, 96, 46, 182, 0, 211, 87, 167, 0, 16, 43, 182, 0] = true := by decide +kernel
theorem lb_51 : dl_ck (cL_law.data.toList.drop 1632) [212, 88, 44, 182, 0, 215, 88, 167, 0, 3, 132, 3, 6, 167, 249, 165, 4, 172] = true := by decide +kernel
theorem mw_2_195 : (Cond.code yX11_row cX11_row 3 (some .int) : Cond) ∈ lw_good := lg_at 2 195 rfl rfl
theorem mw_2_192 : (Cond.methodLink RL 13 yX11_row : Cond) ∈ lw_good := lg_at 2 192 rfl rfl
theorem mw_2_193 : (Cond.instanceMethod yX11_row : Cond) ∈ lw_good := lg_at 2 193 rfl rfl
theorem mw_2_194 : (Cond.selects RX11 yX11_row yX11_row : Cond) ∈ lw_good := lg_at 2 194 rfl rfl
theorem mw_5_180 : (Cond.methodLink RL 17 yX12_row : Cond) ∈ lw_good := lg_at 5 180 rfl rfl
theorem mw_2_213 : (Cond.code yX11_lay cX11_lay 5 (some .int) : Cond) ∈ lw_good := lg_at 2 213 rfl rfl
theorem mw_2_210 : (Cond.methodLink RL 18 yX11_lay : Cond) ∈ lw_good := lg_at 2 210 rfl rfl
theorem mw_2_211 : (Cond.instanceMethod yX11_lay : Cond) ∈ lw_good := lg_at 2 211 rfl rfl
theorem mw_2_212 : (Cond.selects RX11 yX11_lay yX11_lay : Cond) ∈ lw_good := lg_at 2 212 rfl rfl
theorem mw_5_217 : (Cond.code yX12_lay cX12_lay 5 (some .int) : Cond) ∈ lw_good := lg_at 5 217 rfl rfl
theorem mw_5_214 : (Cond.methodLink RL 22 yX12_lay : Cond) ∈ lw_good := lg_at 5 214 rfl rfl
theorem mw_5_215 : (Cond.instanceMethod yX12_lay : Cond) ∈ lw_good := lg_at 5 215 rfl rfl
theorem mw_5_216 : (Cond.selects RX12 yX12_lay yX12_lay : Cond) ∈ lw_good := lg_at 5 216 rfl rfl
theorem mw_2_229 : (Cond.code yX11_at cX11_at 4 (some .int) : Cond) ∈ lw_good := lg_at 2 229 rfl rfl
theorem mw_2_226 : (Cond.methodLink RL 23 yX11_at : Cond) ∈ lw_good := lg_at 2 226 rfl rfl
theorem mw_2_227 : (Cond.instanceMethod yX11_at : Cond) ∈ lw_good := lg_at 2 227 rfl rfl
theorem mw_2_228 : (Cond.selects RX11 yX11_at yX11_at : Cond) ∈ lw_good := lg_at 2 228 rfl rfl
theorem mw_5_198 : (Cond.methodLink RL 26 yX12_at : Cond) ∈ lw_good := lg_at 5 198 rfl rfl
theorem mw_2_233 : (Cond.code yX11_tear cX11_tear 3 (some .int) : Cond) ∈ lw_good := lg_at 2 233 rfl rfl
theorem mw_2_230 : (Cond.methodLink RL 27 yX11_tear : Cond) ∈ lw_good := lg_at 2 230 rfl rfl
theorem mw_2_231 : (Cond.instanceMethod yX11_tear : Cond) ∈ lw_good := lg_at 2 231 rfl rfl
theorem mw_2_232 : (Cond.selects RX11 yX11_tear yX11_tear : Cond) ∈ lw_good := lg_at 2 232 rfl rfl
theorem mw_5_222 : (Cond.code yX12_tear cX12_tear 3 (some .int) : Cond) ∈ lw_good := lg_at 5 222 rfl rfl
theorem mw_5_219 : (Cond.methodLink RL 31 yX12_tear : Cond) ∈ lw_good := lg_at 5 219 rfl rfl
theorem mw_5_220 : (Cond.instanceMethod yX12_tear : Cond) ∈ lw_good := lg_at 5 220 rfl rfl
theorem mw_5_221 : (Cond.selects RX12 yX12_tear yX12_tear : Cond) ∈ lw_good := lg_at 5 221 rfl rfl
theorem mw_2_237 : (Cond.code yX11_copy cX11_copy 6 (some .int) : Cond) ∈ lw_good := lg_at 2 237 rfl rfl
theorem mw_2_234 : (Cond.methodLink RL 32 yX11_copy : Cond) ∈ lw_good := lg_at 2 234 rfl rfl
theorem mw_2_235 : (Cond.instanceMethod yX11_copy : Cond) ∈ lw_good := lg_at 2 235 rfl rfl
theorem mw_2_236 : (Cond.selects RX11 yX11_copy yX11_copy : Cond) ∈ lw_good := lg_at 2 236 rfl rfl
theorem mw_5_226 : (Cond.code yX12_copy cX12_copy 7 (some .int) : Cond) ∈ lw_good := lg_at 5 226 rfl rfl
theorem mw_5_223 : (Cond.methodLink RL 36 yX12_copy : Cond) ∈ lw_good := lg_at 5 223 rfl rfl
theorem mw_5_224 : (Cond.instanceMethod yX12_copy : Cond) ∈ lw_good := lg_at 5 224 rfl rfl
theorem mw_5_225 : (Cond.selects RX12 yX12_copy yX12_copy : Cond) ∈ lw_good := lg_at 5 225 rfl rfl
theorem mw_3_8 : (Cond.code yX11_mean cX11_mean 7 (some .int) : Cond) ∈ lw_good := lg_at 3 8 rfl rfl
theorem mw_3_5 : (Cond.methodLink RL 37 yX11_mean : Cond) ∈ lw_good := lg_at 3 5 rfl rfl
theorem mw_3_6 : (Cond.instanceMethod yX11_mean : Cond) ∈ lw_good := lg_at 3 6 rfl rfl
theorem mw_3_7 : (Cond.selects RX11 yX11_mean yX11_mean : Cond) ∈ lw_good := lg_at 3 7 rfl rfl
theorem mw_5_230 : (Cond.code yX12_mean cX12_mean 6 (some .int) : Cond) ∈ lw_good := lg_at 5 230 rfl rfl
theorem mw_5_227 : (Cond.methodLink RL 40 yX12_mean : Cond) ∈ lw_good := lg_at 5 227 rfl rfl
theorem mw_5_228 : (Cond.instanceMethod yX12_mean : Cond) ∈ lw_good := lg_at 5 228 rfl rfl
theorem mw_5_229 : (Cond.selects RX12 yX12_mean yX12_mean : Cond) ∈ lw_good := lg_at 5 229 rfl rfl
theorem mw_3_12 : (Cond.code yX11_text cX11_text 3 (some .int) : Cond) ∈ lw_good := lg_at 3 12 rfl rfl
theorem mw_3_9 : (Cond.methodLink RL 41 yX11_text : Cond) ∈ lw_good := lg_at 3 9 rfl rfl
theorem mw_3_10 : (Cond.instanceMethod yX11_text : Cond) ∈ lw_good := lg_at 3 10 rfl rfl
theorem mw_3_11 : (Cond.selects RX11 yX11_text yX11_text : Cond) ∈ lw_good := lg_at 3 11 rfl rfl
theorem mw_5_234 : (Cond.code yX12_text cX12_text 4 (some .int) : Cond) ∈ lw_good := lg_at 5 234 rfl rfl
theorem mw_5_231 : (Cond.methodLink RL 44 yX12_text : Cond) ∈ lw_good := lg_at 5 231 rfl rfl
theorem mw_5_232 : (Cond.instanceMethod yX12_text : Cond) ∈ lw_good := lg_at 5 232 rfl rfl
theorem mw_5_233 : (Cond.selects RX12 yX12_text yX12_text : Cond) ∈ lw_good := lg_at 5 233 rfl rfl
theorem mw_3_26 : (Cond.code yX11_put cX11_put 6 (some .int) : Cond) ∈ lw_good := lg_at 3 26 rfl rfl
theorem mw_3_23 : (Cond.methodLink RL 45 yX11_put : Cond) ∈ lw_good := lg_at 3 23 rfl rfl
theorem mw_3_24 : (Cond.instanceMethod yX11_put : Cond) ∈ lw_good := lg_at 3 24 rfl rfl
theorem mw_3_25 : (Cond.selects RX11 yX11_put yX11_put : Cond) ∈ lw_good := lg_at 3 25 rfl rfl
theorem mw_6_1 : (Cond.code yX12_put cX12_put 6 (some .int) : Cond) ∈ lw_good := lg_at 6 1 rfl rfl
theorem mw_5_238 : (Cond.methodLink RL 48 yX12_put : Cond) ∈ lw_good := lg_at 5 238 rfl rfl
theorem mw_5_239 : (Cond.instanceMethod yX12_put : Cond) ∈ lw_good := lg_at 5 239 rfl rfl
theorem mw_6_0 : (Cond.selects RX12 yX12_put yX12_put : Cond) ∈ lw_good := lg_at 6 0 rfl rfl
theorem mw_3_38 : (Cond.code yX11_fault cX11_fault 3 (some .int) : Cond) ∈ lw_good := lg_at 3 38 rfl rfl
theorem mw_3_35 : (Cond.methodLink RL 49 yX11_fault : Cond) ∈ lw_good := lg_at 3 35 rfl rfl
theorem mw_3_36 : (Cond.instanceMethod yX11_fault : Cond) ∈ lw_good := lg_at 3 36 rfl rfl
theorem mw_3_37 : (Cond.selects RX11 yX11_fault yX11_fault : Cond) ∈ lw_good := lg_at 3 37 rfl rfl
theorem mw_6_9 : (Cond.code yX12_fault cX12_fault 3 (some .int) : Cond) ∈ lw_good := lg_at 6 9 rfl rfl
theorem mw_6_6 : (Cond.methodLink RL 52 yX12_fault : Cond) ∈ lw_good := lg_at 6 6 rfl rfl
theorem mw_6_7 : (Cond.instanceMethod yX12_fault : Cond) ∈ lw_good := lg_at 6 7 rfl rfl
theorem mw_6_8 : (Cond.selects RX12 yX12_fault yX12_fault : Cond) ∈ lw_good := lg_at 6 8 rfl rfl
theorem mw_3_63 : (Cond.code yX11_town cX11_town 4 (some .int) : Cond) ∈ lw_good := lg_at 3 63 rfl rfl
theorem mw_3_60 : (Cond.methodLink RL 53 yX11_town : Cond) ∈ lw_good := lg_at 3 60 rfl rfl
theorem mw_3_61 : (Cond.instanceMethod yX11_town : Cond) ∈ lw_good := lg_at 3 61 rfl rfl
theorem mw_3_62 : (Cond.selects RX11 yX11_town yX11_town : Cond) ∈ lw_good := lg_at 3 62 rfl rfl
theorem mw_6_32 : (Cond.code yX12_town cX12_town 4 (some .int) : Cond) ∈ lw_good := lg_at 6 32 rfl rfl
theorem mw_6_29 : (Cond.methodLink RL 56 yX12_town : Cond) ∈ lw_good := lg_at 6 29 rfl rfl
theorem mw_6_30 : (Cond.instanceMethod yX12_town : Cond) ∈ lw_good := lg_at 6 30 rfl rfl
theorem mw_6_31 : (Cond.selects RX12 yX12_town yX12_town : Cond) ∈ lw_good := lg_at 6 31 rfl rfl
theorem mw_3_72 : (Cond.code yX11_bearer cX11_bearer 3 (some .int) : Cond) ∈ lw_good := lg_at 3 72 rfl rfl
theorem mw_3_69 : (Cond.methodLink RL 57 yX11_bearer : Cond) ∈ lw_good := lg_at 3 69 rfl rfl
theorem mw_3_70 : (Cond.instanceMethod yX11_bearer : Cond) ∈ lw_good := lg_at 3 70 rfl rfl
theorem mw_3_71 : (Cond.selects RX11 yX11_bearer yX11_bearer : Cond) ∈ lw_good := lg_at 3 71 rfl rfl
theorem mw_6_36 : (Cond.code yX12_bearer cX12_bearer 3 (some .int) : Cond) ∈ lw_good := lg_at 6 36 rfl rfl
theorem mw_6_33 : (Cond.methodLink RL 60 yX12_bearer : Cond) ∈ lw_good := lg_at 6 33 rfl rfl
theorem mw_6_34 : (Cond.instanceMethod yX12_bearer : Cond) ∈ lw_good := lg_at 6 34 rfl rfl
theorem mw_6_35 : (Cond.selects RX12 yX12_bearer yX12_bearer : Cond) ∈ lw_good := lg_at 6 35 rfl rfl
theorem mw_3_101 : (Cond.code yX11_mark cX11_mark 3 (some .int) : Cond) ∈ lw_good := lg_at 3 101 rfl rfl
theorem mw_3_98 : (Cond.methodLink RL 61 yX11_mark : Cond) ∈ lw_good := lg_at 3 98 rfl rfl
theorem mw_3_99 : (Cond.instanceMethod yX11_mark : Cond) ∈ lw_good := lg_at 3 99 rfl rfl
theorem mw_3_100 : (Cond.selects RX11 yX11_mark yX11_mark : Cond) ∈ lw_good := lg_at 3 100 rfl rfl
theorem mw_6_66 : (Cond.code yX12_mark cX12_mark 6 (some .int) : Cond) ∈ lw_good := lg_at 6 66 rfl rfl
theorem mw_6_63 : (Cond.methodLink RL 64 yX12_mark : Cond) ∈ lw_good := lg_at 6 63 rfl rfl
theorem mw_6_64 : (Cond.instanceMethod yX12_mark : Cond) ∈ lw_good := lg_at 6 64 rfl rfl
theorem mw_6_65 : (Cond.selects RX12 yX12_mark yX12_mark : Cond) ∈ lw_good := lg_at 6 65 rfl rfl
theorem mw_3_124 : (Cond.code yX11_purse cX11_purse 4 (some .int) : Cond) ∈ lw_good := lg_at 3 124 rfl rfl
theorem mw_3_121 : (Cond.methodLink RL 65 yX11_purse : Cond) ∈ lw_good := lg_at 3 121 rfl rfl
theorem mw_3_122 : (Cond.instanceMethod yX11_purse : Cond) ∈ lw_good := lg_at 3 122 rfl rfl
theorem mw_3_123 : (Cond.selects RX11 yX11_purse yX11_purse : Cond) ∈ lw_good := lg_at 3 123 rfl rfl
theorem mw_6_82 : (Cond.code yX12_purse cX12_purse 4 (some .int) : Cond) ∈ lw_good := lg_at 6 82 rfl rfl
theorem mw_6_79 : (Cond.methodLink RL 68 yX12_purse : Cond) ∈ lw_good := lg_at 6 79 rfl rfl
theorem mw_6_80 : (Cond.instanceMethod yX12_purse : Cond) ∈ lw_good := lg_at 6 80 rfl rfl
theorem mw_6_81 : (Cond.selects RX12 yX12_purse yX12_purse : Cond) ∈ lw_good := lg_at 6 81 rfl rfl
theorem dL_law_244 : decode cL_law 244 = .ok (.aload_n 1, 1) := dc_aload1 (dl_at 224 20 lb_7 rfl)
theorem dL_law_245 : decode cL_law 245 = .ok (.aload_n 0, 1) := dc_aload0 (dl_at 224 21 lb_7 rfl)
theorem dL_law_246 : decode cL_law 246 = .ok (.iload_n 3, 1) := dc_iload3 (dl_at 224 22 lb_7 rfl)
theorem dL_law_247 : decode cL_law 247 = .ok (.iconst 1, 1) := dc_iconst1 (dl_at 224 23 lb_7 rfl)
theorem dL_law_248 : decode cL_law 248 = .ok (.iadd, 1) := dc_iadd (dl_at 224 24 lb_7 rfl)
theorem dL_law_249 : decode cL_law 249 = .ok (.iaload, 1) := dc_iaload (dl_at 224 25 lb_7 rfl)
theorem dL_law_250 : decode cL_law 250 = .ok (.aload_n 0, 1) := dc_aload0 (dl_at 224 26 lb_7 rfl)
theorem dL_law_251 : decode cL_law 251 = .ok (.iload_n 3, 1) := dc_iload3 (dl_at 224 27 lb_7 rfl)
theorem dL_law_252 : decode cL_law 252 = .ok (.iconst 2, 1) := dc_iconst2 (dl_at 224 28 lb_7 rfl)
theorem dL_law_253 : decode cL_law 253 = .ok (.iadd, 1) := dc_iadd (dl_at 224 29 lb_7 rfl)
theorem dL_law_254 : decode cL_law 254 = .ok (.iaload, 1) := dc_iaload (dl_at 224 30 lb_7 rfl)
theorem dL_law_255 : decode cL_law 255 = .ok (.invokevirtual 13, 3) := dc_virt (a := 0) (b := 13) (dl_at 224 31 lb_7 rfl) (dl_at 256 0 lb_8 rfl) (dl_at 256 1 lb_8 rfl)
theorem dL_law_258 : decode cL_law 258 = .ok (.pop, 1) := dc_pop (dl_at 256 2 lb_8 rfl)
theorem dL_law_259 : decode cL_law 259 = .ok (.aload_n 2, 1) := dc_aload2 (dl_at 256 3 lb_8 rfl)
theorem dL_law_260 : decode cL_law 260 = .ok (.aload_n 0, 1) := dc_aload0 (dl_at 256 4 lb_8 rfl)
theorem dL_law_261 : decode cL_law 261 = .ok (.iload_n 3, 1) := dc_iload3 (dl_at 256 5 lb_8 rfl)
theorem dL_law_262 : decode cL_law 262 = .ok (.iconst 1, 1) := dc_iconst1 (dl_at 256 6 lb_8 rfl)
theorem dL_law_263 : decode cL_law 263 = .ok (.iadd, 1) := dc_iadd (dl_at 256 7 lb_8 rfl)
theorem dL_law_264 : decode cL_law 264 = .ok (.iaload, 1) := dc_iaload (dl_at 256 8 lb_8 rfl)
theorem dL_law_265 : decode cL_law 265 = .ok (.aload_n 0, 1) := dc_aload0 (dl_at 256 9 lb_8 rfl)
theorem dL_law_266 : decode cL_law 266 = .ok (.iload_n 3, 1) := dc_iload3 (dl_at 256 10 lb_8 rfl)
theorem dL_law_267 : decode cL_law 267 = .ok (.iconst 2, 1) := dc_iconst2 (dl_at 256 11 lb_8 rfl)
theorem dL_law_268 : decode cL_law 268 = .ok (.iadd, 1) := dc_iadd (dl_at 256 12 lb_8 rfl)
theorem dL_law_269 : decode cL_law 269 = .ok (.iaload, 1) := dc_iaload (dl_at 256 13 lb_8 rfl)
theorem dL_law_270 : decode cL_law 270 = .ok (.invokevirtual 17, 3) := dc_virt (a := 0) (b := 17) (dl_at 256 14 lb_8 rfl) (dl_at 256 15 lb_8 rfl) (dl_at 256 16 lb_8 rfl)
theorem dL_law_273 : decode cL_law 273 = .ok (.pop, 1) := dc_pop (dl_at 256 17 lb_8 rfl)
theorem dL_law_274 : decode cL_law 274 = .ok (.goto 1368, 3) := dc_goto (a := 5) (b := 88) (dl_at 256 18 lb_8 rfl) (dl_at 256 19 lb_8 rfl) (dl_at 256 20 lb_8 rfl) (by decide +kernel)
theorem dL_law_277 : decode cL_law 277 = .ok (.aload_n 1, 1) := dc_aload1 (dl_at 256 21 lb_8 rfl)
theorem dL_law_278 : decode cL_law 278 = .ok (.aload_n 0, 1) := dc_aload0 (dl_at 256 22 lb_8 rfl)
theorem dL_law_279 : decode cL_law 279 = .ok (.iload_n 3, 1) := dc_iload3 (dl_at 256 23 lb_8 rfl)
theorem dL_law_280 : decode cL_law 280 = .ok (.iconst 1, 1) := dc_iconst1 (dl_at 256 24 lb_8 rfl)
theorem dL_law_281 : decode cL_law 281 = .ok (.iadd, 1) := dc_iadd (dl_at 256 25 lb_8 rfl)
theorem dL_law_282 : decode cL_law 282 = .ok (.iaload, 1) := dc_iaload (dl_at 256 26 lb_8 rfl)
theorem dL_law_283 : decode cL_law 283 = .ok (.aload_n 0, 1) := dc_aload0 (dl_at 256 27 lb_8 rfl)
theorem dL_law_284 : decode cL_law 284 = .ok (.iload_n 3, 1) := dc_iload3 (dl_at 256 28 lb_8 rfl)
theorem dL_law_285 : decode cL_law 285 = .ok (.iconst 2, 1) := dc_iconst2 (dl_at 256 29 lb_8 rfl)
theorem dL_law_286 : decode cL_law 286 = .ok (.iadd, 1) := dc_iadd (dl_at 256 30 lb_8 rfl)
theorem dL_law_287 : decode cL_law 287 = .ok (.iaload, 1) := dc_iaload (dl_at 256 31 lb_8 rfl)
theorem dL_law_288 : decode cL_law 288 = .ok (.aload_n 0, 1) := dc_aload0 (dl_at 288 0 lb_9 rfl)
theorem dL_law_289 : decode cL_law 289 = .ok (.iload_n 3, 1) := dc_iload3 (dl_at 288 1 lb_9 rfl)
theorem dL_law_290 : decode cL_law 290 = .ok (.iconst 3, 1) := dc_iconst3 (dl_at 288 2 lb_9 rfl)
theorem dL_law_291 : decode cL_law 291 = .ok (.iadd, 1) := dc_iadd (dl_at 288 3 lb_9 rfl)
theorem dL_law_292 : decode cL_law 292 = .ok (.iaload, 1) := dc_iaload (dl_at 288 4 lb_9 rfl)
theorem dL_law_293 : decode cL_law 293 = .ok (.invokevirtual 18, 3) := dc_virt (a := 0) (b := 18) (dl_at 288 5 lb_9 rfl) (dl_at 288 6 lb_9 rfl) (dl_at 288 7 lb_9 rfl)
theorem dL_law_296 : decode cL_law 296 = .ok (.pop, 1) := dc_pop (dl_at 288 8 lb_9 rfl)
theorem dL_law_297 : decode cL_law 297 = .ok (.aload_n 2, 1) := dc_aload2 (dl_at 288 9 lb_9 rfl)
theorem dL_law_298 : decode cL_law 298 = .ok (.aload_n 0, 1) := dc_aload0 (dl_at 288 10 lb_9 rfl)
theorem dL_law_299 : decode cL_law 299 = .ok (.iload_n 3, 1) := dc_iload3 (dl_at 288 11 lb_9 rfl)
theorem dL_law_300 : decode cL_law 300 = .ok (.iconst 1, 1) := dc_iconst1 (dl_at 288 12 lb_9 rfl)
theorem dL_law_301 : decode cL_law 301 = .ok (.iadd, 1) := dc_iadd (dl_at 288 13 lb_9 rfl)
theorem dL_law_302 : decode cL_law 302 = .ok (.iaload, 1) := dc_iaload (dl_at 288 14 lb_9 rfl)
theorem dL_law_303 : decode cL_law 303 = .ok (.aload_n 0, 1) := dc_aload0 (dl_at 288 15 lb_9 rfl)
theorem dL_law_304 : decode cL_law 304 = .ok (.iload_n 3, 1) := dc_iload3 (dl_at 288 16 lb_9 rfl)
theorem dL_law_305 : decode cL_law 305 = .ok (.iconst 2, 1) := dc_iconst2 (dl_at 288 17 lb_9 rfl)
theorem dL_law_306 : decode cL_law 306 = .ok (.iadd, 1) := dc_iadd (dl_at 288 18 lb_9 rfl)
theorem dL_law_307 : decode cL_law 307 = .ok (.iaload, 1) := dc_iaload (dl_at 288 19 lb_9 rfl)
theorem dL_law_308 : decode cL_law 308 = .ok (.aload_n 0, 1) := dc_aload0 (dl_at 288 20 lb_9 rfl)
theorem dL_law_309 : decode cL_law 309 = .ok (.iload_n 3, 1) := dc_iload3 (dl_at 288 21 lb_9 rfl)
theorem dL_law_310 : decode cL_law 310 = .ok (.iconst 3, 1) := dc_iconst3 (dl_at 288 22 lb_9 rfl)
theorem dL_law_311 : decode cL_law 311 = .ok (.iadd, 1) := dc_iadd (dl_at 288 23 lb_9 rfl)
theorem dL_law_312 : decode cL_law 312 = .ok (.iaload, 1) := dc_iaload (dl_at 288 24 lb_9 rfl)
theorem dL_law_313 : decode cL_law 313 = .ok (.invokevirtual 22, 3) := dc_virt (a := 0) (b := 22) (dl_at 288 25 lb_9 rfl) (dl_at 288 26 lb_9 rfl) (dl_at 288 27 lb_9 rfl)
theorem dL_law_316 : decode cL_law 316 = .ok (.pop, 1) := dc_pop (dl_at 288 28 lb_9 rfl)
theorem dL_law_317 : decode cL_law 317 = .ok (.goto 1325, 3) := dc_goto (a := 5) (b := 45) (dl_at 288 29 lb_9 rfl) (dl_at 288 30 lb_9 rfl) (dl_at 288 31 lb_9 rfl) (by decide +kernel)
theorem dL_law_320 : decode cL_law 320 = .ok (.aload_n 1, 1) := dc_aload1 (dl_at 320 0 lb_10 rfl)
theorem dL_law_321 : decode cL_law 321 = .ok (.aload_n 0, 1) := dc_aload0 (dl_at 320 1 lb_10 rfl)
theorem dL_law_322 : decode cL_law 322 = .ok (.iload_n 3, 1) := dc_iload3 (dl_at 320 2 lb_10 rfl)
theorem dL_law_323 : decode cL_law 323 = .ok (.iconst 1, 1) := dc_iconst1 (dl_at 320 3 lb_10 rfl)
theorem dL_law_324 : decode cL_law 324 = .ok (.iadd, 1) := dc_iadd (dl_at 320 4 lb_10 rfl)
theorem dL_law_325 : decode cL_law 325 = .ok (.iaload, 1) := dc_iaload (dl_at 320 5 lb_10 rfl)
theorem dL_law_326 : decode cL_law 326 = .ok (.aload_n 0, 1) := dc_aload0 (dl_at 320 6 lb_10 rfl)
theorem dL_law_327 : decode cL_law 327 = .ok (.iload_n 3, 1) := dc_iload3 (dl_at 320 7 lb_10 rfl)
theorem dL_law_328 : decode cL_law 328 = .ok (.iconst 2, 1) := dc_iconst2 (dl_at 320 8 lb_10 rfl)
theorem dL_law_329 : decode cL_law 329 = .ok (.iadd, 1) := dc_iadd (dl_at 320 9 lb_10 rfl)
theorem dL_law_330 : decode cL_law 330 = .ok (.iaload, 1) := dc_iaload (dl_at 320 10 lb_10 rfl)
theorem dL_law_331 : decode cL_law 331 = .ok (.invokevirtual 23, 3) := dc_virt (a := 0) (b := 23) (dl_at 320 11 lb_10 rfl) (dl_at 320 12 lb_10 rfl) (dl_at 320 13 lb_10 rfl)
theorem dL_law_334 : decode cL_law 334 = .ok (.pop, 1) := dc_pop (dl_at 320 14 lb_10 rfl)
theorem dL_law_335 : decode cL_law 335 = .ok (.aload_n 2, 1) := dc_aload2 (dl_at 320 15 lb_10 rfl)
theorem dL_law_336 : decode cL_law 336 = .ok (.aload_n 0, 1) := dc_aload0 (dl_at 320 16 lb_10 rfl)
theorem dL_law_337 : decode cL_law 337 = .ok (.iload_n 3, 1) := dc_iload3 (dl_at 320 17 lb_10 rfl)
theorem dL_law_338 : decode cL_law 338 = .ok (.iconst 1, 1) := dc_iconst1 (dl_at 320 18 lb_10 rfl)
theorem dL_law_339 : decode cL_law 339 = .ok (.iadd, 1) := dc_iadd (dl_at 320 19 lb_10 rfl)
theorem dL_law_340 : decode cL_law 340 = .ok (.iaload, 1) := dc_iaload (dl_at 320 20 lb_10 rfl)
theorem dL_law_341 : decode cL_law 341 = .ok (.aload_n 0, 1) := dc_aload0 (dl_at 320 21 lb_10 rfl)
theorem dL_law_342 : decode cL_law 342 = .ok (.iload_n 3, 1) := dc_iload3 (dl_at 320 22 lb_10 rfl)
theorem dL_law_343 : decode cL_law 343 = .ok (.iconst 2, 1) := dc_iconst2 (dl_at 320 23 lb_10 rfl)
theorem dL_law_344 : decode cL_law 344 = .ok (.iadd, 1) := dc_iadd (dl_at 320 24 lb_10 rfl)
theorem dL_law_345 : decode cL_law 345 = .ok (.iaload, 1) := dc_iaload (dl_at 320 25 lb_10 rfl)
theorem dL_law_346 : decode cL_law 346 = .ok (.invokevirtual 26, 3) := dc_virt (a := 0) (b := 26) (dl_at 320 26 lb_10 rfl) (dl_at 320 27 lb_10 rfl) (dl_at 320 28 lb_10 rfl)
theorem dL_law_349 : decode cL_law 349 = .ok (.pop, 1) := dc_pop (dl_at 320 29 lb_10 rfl)
theorem dL_law_350 : decode cL_law 350 = .ok (.goto 1292, 3) := dc_goto (a := 5) (b := 12) (dl_at 320 30 lb_10 rfl) (dl_at 320 31 lb_10 rfl) (dl_at 352 0 lb_11 rfl) (by decide +kernel)
theorem dL_law_353 : decode cL_law 353 = .ok (.aload_n 1, 1) := dc_aload1 (dl_at 352 1 lb_11 rfl)
theorem dL_law_354 : decode cL_law 354 = .ok (.aload_n 0, 1) := dc_aload0 (dl_at 352 2 lb_11 rfl)
theorem dL_law_355 : decode cL_law 355 = .ok (.iload_n 3, 1) := dc_iload3 (dl_at 352 3 lb_11 rfl)
theorem dL_law_356 : decode cL_law 356 = .ok (.iconst 1, 1) := dc_iconst1 (dl_at 352 4 lb_11 rfl)
theorem dL_law_357 : decode cL_law 357 = .ok (.iadd, 1) := dc_iadd (dl_at 352 5 lb_11 rfl)
theorem dL_law_358 : decode cL_law 358 = .ok (.iaload, 1) := dc_iaload (dl_at 352 6 lb_11 rfl)
theorem dL_law_359 : decode cL_law 359 = .ok (.invokevirtual 27, 3) := dc_virt (a := 0) (b := 27) (dl_at 352 7 lb_11 rfl) (dl_at 352 8 lb_11 rfl) (dl_at 352 9 lb_11 rfl)
theorem dL_law_362 : decode cL_law 362 = .ok (.pop, 1) := dc_pop (dl_at 352 10 lb_11 rfl)
theorem dL_law_363 : decode cL_law 363 = .ok (.aload_n 2, 1) := dc_aload2 (dl_at 352 11 lb_11 rfl)
theorem dL_law_364 : decode cL_law 364 = .ok (.aload_n 0, 1) := dc_aload0 (dl_at 352 12 lb_11 rfl)
theorem dL_law_365 : decode cL_law 365 = .ok (.iload_n 3, 1) := dc_iload3 (dl_at 352 13 lb_11 rfl)
theorem dL_law_366 : decode cL_law 366 = .ok (.iconst 1, 1) := dc_iconst1 (dl_at 352 14 lb_11 rfl)
theorem dL_law_367 : decode cL_law 367 = .ok (.iadd, 1) := dc_iadd (dl_at 352 15 lb_11 rfl)
theorem dL_law_368 : decode cL_law 368 = .ok (.iaload, 1) := dc_iaload (dl_at 352 16 lb_11 rfl)
theorem dL_law_369 : decode cL_law 369 = .ok (.invokevirtual 31, 3) := dc_virt (a := 0) (b := 31) (dl_at 352 17 lb_11 rfl) (dl_at 352 18 lb_11 rfl) (dl_at 352 19 lb_11 rfl)
theorem dL_law_372 : decode cL_law 372 = .ok (.pop, 1) := dc_pop (dl_at 352 20 lb_11 rfl)
theorem dL_law_373 : decode cL_law 373 = .ok (.goto 1269, 3) := dc_goto (a := 4) (b := 245) (dl_at 352 21 lb_11 rfl) (dl_at 352 22 lb_11 rfl) (dl_at 352 23 lb_11 rfl) (by decide +kernel)
theorem dL_law_376 : decode cL_law 376 = .ok (.aload_n 1, 1) := dc_aload1 (dl_at 352 24 lb_11 rfl)
theorem dL_law_377 : decode cL_law 377 = .ok (.aload_n 0, 1) := dc_aload0 (dl_at 352 25 lb_11 rfl)
theorem dL_law_378 : decode cL_law 378 = .ok (.iload_n 3, 1) := dc_iload3 (dl_at 352 26 lb_11 rfl)
theorem dL_law_379 : decode cL_law 379 = .ok (.iconst 1, 1) := dc_iconst1 (dl_at 352 27 lb_11 rfl)
theorem dL_law_380 : decode cL_law 380 = .ok (.iadd, 1) := dc_iadd (dl_at 352 28 lb_11 rfl)
theorem dL_law_381 : decode cL_law 381 = .ok (.iaload, 1) := dc_iaload (dl_at 352 29 lb_11 rfl)
theorem dL_law_382 : decode cL_law 382 = .ok (.aload_n 0, 1) := dc_aload0 (dl_at 352 30 lb_11 rfl)
theorem dL_law_383 : decode cL_law 383 = .ok (.iload_n 3, 1) := dc_iload3 (dl_at 352 31 lb_11 rfl)
theorem dL_law_384 : decode cL_law 384 = .ok (.iconst 2, 1) := dc_iconst2 (dl_at 384 0 lb_12 rfl)
theorem dL_law_385 : decode cL_law 385 = .ok (.iadd, 1) := dc_iadd (dl_at 384 1 lb_12 rfl)
theorem dL_law_386 : decode cL_law 386 = .ok (.iaload, 1) := dc_iaload (dl_at 384 2 lb_12 rfl)
theorem dL_law_387 : decode cL_law 387 = .ok (.aload_n 0, 1) := dc_aload0 (dl_at 384 3 lb_12 rfl)
theorem dL_law_388 : decode cL_law 388 = .ok (.iload_n 3, 1) := dc_iload3 (dl_at 384 4 lb_12 rfl)
theorem dL_law_389 : decode cL_law 389 = .ok (.iconst 3, 1) := dc_iconst3 (dl_at 384 5 lb_12 rfl)
theorem dL_law_390 : decode cL_law 390 = .ok (.iadd, 1) := dc_iadd (dl_at 384 6 lb_12 rfl)
theorem dL_law_391 : decode cL_law 391 = .ok (.iaload, 1) := dc_iaload (dl_at 384 7 lb_12 rfl)
theorem dL_law_392 : decode cL_law 392 = .ok (.aload_n 0, 1) := dc_aload0 (dl_at 384 8 lb_12 rfl)
theorem dL_law_393 : decode cL_law 393 = .ok (.iload_n 3, 1) := dc_iload3 (dl_at 384 9 lb_12 rfl)
theorem dL_law_394 : decode cL_law 394 = .ok (.iconst 4, 1) := dc_iconst4 (dl_at 384 10 lb_12 rfl)
theorem dL_law_395 : decode cL_law 395 = .ok (.iadd, 1) := dc_iadd (dl_at 384 11 lb_12 rfl)
theorem dL_law_396 : decode cL_law 396 = .ok (.iaload, 1) := dc_iaload (dl_at 384 12 lb_12 rfl)
theorem dL_law_397 : decode cL_law 397 = .ok (.aload_n 0, 1) := dc_aload0 (dl_at 384 13 lb_12 rfl)
theorem dL_law_398 : decode cL_law 398 = .ok (.iload_n 3, 1) := dc_iload3 (dl_at 384 14 lb_12 rfl)
theorem dL_law_399 : decode cL_law 399 = .ok (.iconst 5, 1) := dc_iconst5 (dl_at 384 15 lb_12 rfl)
theorem dL_law_400 : decode cL_law 400 = .ok (.iadd, 1) := dc_iadd (dl_at 384 16 lb_12 rfl)
theorem dL_law_401 : decode cL_law 401 = .ok (.iaload, 1) := dc_iaload (dl_at 384 17 lb_12 rfl)
theorem dL_law_402 : decode cL_law 402 = .ok (.invokevirtual 32, 3) := dc_virt (a := 0) (b := 32) (dl_at 384 18 lb_12 rfl) (dl_at 384 19 lb_12 rfl) (dl_at 384 20 lb_12 rfl)
theorem dL_law_405 : decode cL_law 405 = .ok (.pop, 1) := dc_pop (dl_at 384 21 lb_12 rfl)
theorem dL_law_406 : decode cL_law 406 = .ok (.aload_n 2, 1) := dc_aload2 (dl_at 384 22 lb_12 rfl)
theorem dL_law_407 : decode cL_law 407 = .ok (.aload_n 0, 1) := dc_aload0 (dl_at 384 23 lb_12 rfl)
theorem dL_law_408 : decode cL_law 408 = .ok (.iload_n 3, 1) := dc_iload3 (dl_at 384 24 lb_12 rfl)
theorem dL_law_409 : decode cL_law 409 = .ok (.iconst 1, 1) := dc_iconst1 (dl_at 384 25 lb_12 rfl)
theorem dL_law_410 : decode cL_law 410 = .ok (.iadd, 1) := dc_iadd (dl_at 384 26 lb_12 rfl)
theorem dL_law_411 : decode cL_law 411 = .ok (.iaload, 1) := dc_iaload (dl_at 384 27 lb_12 rfl)
theorem dL_law_412 : decode cL_law 412 = .ok (.aload_n 0, 1) := dc_aload0 (dl_at 384 28 lb_12 rfl)
theorem dL_law_413 : decode cL_law 413 = .ok (.iload_n 3, 1) := dc_iload3 (dl_at 384 29 lb_12 rfl)
theorem dL_law_414 : decode cL_law 414 = .ok (.iconst 2, 1) := dc_iconst2 (dl_at 384 30 lb_12 rfl)
theorem dL_law_415 : decode cL_law 415 = .ok (.iadd, 1) := dc_iadd (dl_at 384 31 lb_12 rfl)
theorem dL_law_416 : decode cL_law 416 = .ok (.iaload, 1) := dc_iaload (dl_at 416 0 lb_13 rfl)
theorem dL_law_417 : decode cL_law 417 = .ok (.aload_n 0, 1) := dc_aload0 (dl_at 416 1 lb_13 rfl)
theorem dL_law_418 : decode cL_law 418 = .ok (.iload_n 3, 1) := dc_iload3 (dl_at 416 2 lb_13 rfl)
theorem dL_law_419 : decode cL_law 419 = .ok (.iconst 3, 1) := dc_iconst3 (dl_at 416 3 lb_13 rfl)
theorem dL_law_420 : decode cL_law 420 = .ok (.iadd, 1) := dc_iadd (dl_at 416 4 lb_13 rfl)
theorem dL_law_421 : decode cL_law 421 = .ok (.iaload, 1) := dc_iaload (dl_at 416 5 lb_13 rfl)
theorem dL_law_422 : decode cL_law 422 = .ok (.aload_n 0, 1) := dc_aload0 (dl_at 416 6 lb_13 rfl)
theorem dL_law_423 : decode cL_law 423 = .ok (.iload_n 3, 1) := dc_iload3 (dl_at 416 7 lb_13 rfl)
theorem dL_law_424 : decode cL_law 424 = .ok (.iconst 4, 1) := dc_iconst4 (dl_at 416 8 lb_13 rfl)
theorem dL_law_425 : decode cL_law 425 = .ok (.iadd, 1) := dc_iadd (dl_at 416 9 lb_13 rfl)
theorem dL_law_426 : decode cL_law 426 = .ok (.iaload, 1) := dc_iaload (dl_at 416 10 lb_13 rfl)
theorem dL_law_427 : decode cL_law 427 = .ok (.aload_n 0, 1) := dc_aload0 (dl_at 416 11 lb_13 rfl)
theorem dL_law_428 : decode cL_law 428 = .ok (.iload_n 3, 1) := dc_iload3 (dl_at 416 12 lb_13 rfl)
theorem dL_law_429 : decode cL_law 429 = .ok (.iconst 5, 1) := dc_iconst5 (dl_at 416 13 lb_13 rfl)
theorem dL_law_430 : decode cL_law 430 = .ok (.iadd, 1) := dc_iadd (dl_at 416 14 lb_13 rfl)
theorem dL_law_431 : decode cL_law 431 = .ok (.iaload, 1) := dc_iaload (dl_at 416 15 lb_13 rfl)
theorem dL_law_432 : decode cL_law 432 = .ok (.invokevirtual 36, 3) := dc_virt (a := 0) (b := 36) (dl_at 416 16 lb_13 rfl) (dl_at 416 17 lb_13 rfl) (dl_at 416 18 lb_13 rfl)
theorem dL_law_435 : decode cL_law 435 = .ok (.pop, 1) := dc_pop (dl_at 416 19 lb_13 rfl)
theorem dL_law_436 : decode cL_law 436 = .ok (.goto 1206, 3) := dc_goto (a := 4) (b := 182) (dl_at 416 20 lb_13 rfl) (dl_at 416 21 lb_13 rfl) (dl_at 416 22 lb_13 rfl) (by decide +kernel)
theorem dL_law_439 : decode cL_law 439 = .ok (.aload_n 1, 1) := dc_aload1 (dl_at 416 23 lb_13 rfl)
theorem dL_law_440 : decode cL_law 440 = .ok (.aload_n 0, 1) := dc_aload0 (dl_at 416 24 lb_13 rfl)
theorem dL_law_441 : decode cL_law 441 = .ok (.iload_n 3, 1) := dc_iload3 (dl_at 416 25 lb_13 rfl)
theorem dL_law_442 : decode cL_law 442 = .ok (.iconst 1, 1) := dc_iconst1 (dl_at 416 26 lb_13 rfl)
theorem dL_law_443 : decode cL_law 443 = .ok (.iadd, 1) := dc_iadd (dl_at 416 27 lb_13 rfl)
theorem dL_law_444 : decode cL_law 444 = .ok (.iaload, 1) := dc_iaload (dl_at 416 28 lb_13 rfl)
theorem dL_law_445 : decode cL_law 445 = .ok (.invokevirtual 37, 3) := dc_virt (a := 0) (b := 37) (dl_at 416 29 lb_13 rfl) (dl_at 416 30 lb_13 rfl) (dl_at 416 31 lb_13 rfl)
theorem dL_law_448 : decode cL_law 448 = .ok (.pop, 1) := dc_pop (dl_at 448 0 lb_14 rfl)
theorem dL_law_449 : decode cL_law 449 = .ok (.aload_n 2, 1) := dc_aload2 (dl_at 448 1 lb_14 rfl)
theorem dL_law_450 : decode cL_law 450 = .ok (.aload_n 0, 1) := dc_aload0 (dl_at 448 2 lb_14 rfl)
theorem dL_law_451 : decode cL_law 451 = .ok (.iload_n 3, 1) := dc_iload3 (dl_at 448 3 lb_14 rfl)
theorem dL_law_452 : decode cL_law 452 = .ok (.iconst 1, 1) := dc_iconst1 (dl_at 448 4 lb_14 rfl)
theorem dL_law_453 : decode cL_law 453 = .ok (.iadd, 1) := dc_iadd (dl_at 448 5 lb_14 rfl)
theorem dL_law_454 : decode cL_law 454 = .ok (.iaload, 1) := dc_iaload (dl_at 448 6 lb_14 rfl)
theorem dL_law_455 : decode cL_law 455 = .ok (.invokevirtual 40, 3) := dc_virt (a := 0) (b := 40) (dl_at 448 7 lb_14 rfl) (dl_at 448 8 lb_14 rfl) (dl_at 448 9 lb_14 rfl)
theorem dL_law_458 : decode cL_law 458 = .ok (.pop, 1) := dc_pop (dl_at 448 10 lb_14 rfl)
theorem dL_law_459 : decode cL_law 459 = .ok (.goto 1183, 3) := dc_goto (a := 4) (b := 159) (dl_at 448 11 lb_14 rfl) (dl_at 448 12 lb_14 rfl) (dl_at 448 13 lb_14 rfl) (by decide +kernel)
theorem dL_law_462 : decode cL_law 462 = .ok (.aload_n 1, 1) := dc_aload1 (dl_at 448 14 lb_14 rfl)
theorem dL_law_463 : decode cL_law 463 = .ok (.aload_n 0, 1) := dc_aload0 (dl_at 448 15 lb_14 rfl)
theorem dL_law_464 : decode cL_law 464 = .ok (.iload_n 3, 1) := dc_iload3 (dl_at 448 16 lb_14 rfl)
theorem dL_law_465 : decode cL_law 465 = .ok (.iconst 1, 1) := dc_iconst1 (dl_at 448 17 lb_14 rfl)
theorem dL_law_466 : decode cL_law 466 = .ok (.iadd, 1) := dc_iadd (dl_at 448 18 lb_14 rfl)
theorem dL_law_467 : decode cL_law 467 = .ok (.iaload, 1) := dc_iaload (dl_at 448 19 lb_14 rfl)
theorem dL_law_468 : decode cL_law 468 = .ok (.aload_n 0, 1) := dc_aload0 (dl_at 448 20 lb_14 rfl)
theorem dL_law_469 : decode cL_law 469 = .ok (.iload_n 3, 1) := dc_iload3 (dl_at 448 21 lb_14 rfl)
theorem dL_law_470 : decode cL_law 470 = .ok (.iconst 2, 1) := dc_iconst2 (dl_at 448 22 lb_14 rfl)
theorem dL_law_471 : decode cL_law 471 = .ok (.iadd, 1) := dc_iadd (dl_at 448 23 lb_14 rfl)
theorem dL_law_472 : decode cL_law 472 = .ok (.iaload, 1) := dc_iaload (dl_at 448 24 lb_14 rfl)
theorem dL_law_473 : decode cL_law 473 = .ok (.invokevirtual 41, 3) := dc_virt (a := 0) (b := 41) (dl_at 448 25 lb_14 rfl) (dl_at 448 26 lb_14 rfl) (dl_at 448 27 lb_14 rfl)
theorem dL_law_476 : decode cL_law 476 = .ok (.pop, 1) := dc_pop (dl_at 448 28 lb_14 rfl)
theorem dL_law_477 : decode cL_law 477 = .ok (.aload_n 2, 1) := dc_aload2 (dl_at 448 29 lb_14 rfl)
theorem dL_law_478 : decode cL_law 478 = .ok (.aload_n 0, 1) := dc_aload0 (dl_at 448 30 lb_14 rfl)
theorem dL_law_479 : decode cL_law 479 = .ok (.iload_n 3, 1) := dc_iload3 (dl_at 448 31 lb_14 rfl)
theorem dL_law_480 : decode cL_law 480 = .ok (.iconst 1, 1) := dc_iconst1 (dl_at 480 0 lb_15 rfl)
theorem dL_law_481 : decode cL_law 481 = .ok (.iadd, 1) := dc_iadd (dl_at 480 1 lb_15 rfl)
theorem dL_law_482 : decode cL_law 482 = .ok (.iaload, 1) := dc_iaload (dl_at 480 2 lb_15 rfl)
theorem dL_law_483 : decode cL_law 483 = .ok (.aload_n 0, 1) := dc_aload0 (dl_at 480 3 lb_15 rfl)
theorem dL_law_484 : decode cL_law 484 = .ok (.iload_n 3, 1) := dc_iload3 (dl_at 480 4 lb_15 rfl)
theorem dL_law_485 : decode cL_law 485 = .ok (.iconst 2, 1) := dc_iconst2 (dl_at 480 5 lb_15 rfl)
theorem dL_law_486 : decode cL_law 486 = .ok (.iadd, 1) := dc_iadd (dl_at 480 6 lb_15 rfl)
theorem dL_law_487 : decode cL_law 487 = .ok (.iaload, 1) := dc_iaload (dl_at 480 7 lb_15 rfl)
theorem dL_law_488 : decode cL_law 488 = .ok (.invokevirtual 44, 3) := dc_virt (a := 0) (b := 44) (dl_at 480 8 lb_15 rfl) (dl_at 480 9 lb_15 rfl) (dl_at 480 10 lb_15 rfl)
theorem dL_law_491 : decode cL_law 491 = .ok (.pop, 1) := dc_pop (dl_at 480 11 lb_15 rfl)
theorem dL_law_492 : decode cL_law 492 = .ok (.goto 1150, 3) := dc_goto (a := 4) (b := 126) (dl_at 480 12 lb_15 rfl) (dl_at 480 13 lb_15 rfl) (dl_at 480 14 lb_15 rfl) (by decide +kernel)
theorem dL_law_495 : decode cL_law 495 = .ok (.aload_n 1, 1) := dc_aload1 (dl_at 480 15 lb_15 rfl)
theorem dL_law_496 : decode cL_law 496 = .ok (.aload_n 0, 1) := dc_aload0 (dl_at 480 16 lb_15 rfl)
theorem dL_law_497 : decode cL_law 497 = .ok (.iload_n 3, 1) := dc_iload3 (dl_at 480 17 lb_15 rfl)
theorem dL_law_498 : decode cL_law 498 = .ok (.iconst 1, 1) := dc_iconst1 (dl_at 480 18 lb_15 rfl)
theorem dL_law_499 : decode cL_law 499 = .ok (.iadd, 1) := dc_iadd (dl_at 480 19 lb_15 rfl)
theorem dL_law_500 : decode cL_law 500 = .ok (.iaload, 1) := dc_iaload (dl_at 480 20 lb_15 rfl)
theorem dL_law_501 : decode cL_law 501 = .ok (.aload_n 0, 1) := dc_aload0 (dl_at 480 21 lb_15 rfl)
theorem dL_law_502 : decode cL_law 502 = .ok (.iload_n 3, 1) := dc_iload3 (dl_at 480 22 lb_15 rfl)
theorem dL_law_503 : decode cL_law 503 = .ok (.iconst 2, 1) := dc_iconst2 (dl_at 480 23 lb_15 rfl)
theorem dL_law_504 : decode cL_law 504 = .ok (.iadd, 1) := dc_iadd (dl_at 480 24 lb_15 rfl)
theorem dL_law_505 : decode cL_law 505 = .ok (.iaload, 1) := dc_iaload (dl_at 480 25 lb_15 rfl)
theorem dL_law_506 : decode cL_law 506 = .ok (.aload_n 0, 1) := dc_aload0 (dl_at 480 26 lb_15 rfl)
theorem dL_law_507 : decode cL_law 507 = .ok (.iload_n 3, 1) := dc_iload3 (dl_at 480 27 lb_15 rfl)
theorem dL_law_508 : decode cL_law 508 = .ok (.iconst 3, 1) := dc_iconst3 (dl_at 480 28 lb_15 rfl)
theorem dL_law_509 : decode cL_law 509 = .ok (.iadd, 1) := dc_iadd (dl_at 480 29 lb_15 rfl)
theorem dL_law_510 : decode cL_law 510 = .ok (.iaload, 1) := dc_iaload (dl_at 480 30 lb_15 rfl)
theorem dL_law_511 : decode cL_law 511 = .ok (.invokevirtual 45, 3) := dc_virt (a := 0) (b := 45) (dl_at 480 31 lb_15 rfl) (dl_at 512 0 lb_16 rfl) (dl_at 512 1 lb_16 rfl)
theorem dL_law_514 : decode cL_law 514 = .ok (.pop, 1) := dc_pop (dl_at 512 2 lb_16 rfl)
theorem dL_law_515 : decode cL_law 515 = .ok (.aload_n 2, 1) := dc_aload2 (dl_at 512 3 lb_16 rfl)
theorem dL_law_516 : decode cL_law 516 = .ok (.aload_n 0, 1) := dc_aload0 (dl_at 512 4 lb_16 rfl)
theorem dL_law_517 : decode cL_law 517 = .ok (.iload_n 3, 1) := dc_iload3 (dl_at 512 5 lb_16 rfl)
theorem dL_law_518 : decode cL_law 518 = .ok (.iconst 1, 1) := dc_iconst1 (dl_at 512 6 lb_16 rfl)
theorem dL_law_519 : decode cL_law 519 = .ok (.iadd, 1) := dc_iadd (dl_at 512 7 lb_16 rfl)
theorem dL_law_520 : decode cL_law 520 = .ok (.iaload, 1) := dc_iaload (dl_at 512 8 lb_16 rfl)
theorem dL_law_521 : decode cL_law 521 = .ok (.aload_n 0, 1) := dc_aload0 (dl_at 512 9 lb_16 rfl)
theorem dL_law_522 : decode cL_law 522 = .ok (.iload_n 3, 1) := dc_iload3 (dl_at 512 10 lb_16 rfl)
theorem dL_law_523 : decode cL_law 523 = .ok (.iconst 2, 1) := dc_iconst2 (dl_at 512 11 lb_16 rfl)
theorem dL_law_524 : decode cL_law 524 = .ok (.iadd, 1) := dc_iadd (dl_at 512 12 lb_16 rfl)
theorem dL_law_525 : decode cL_law 525 = .ok (.iaload, 1) := dc_iaload (dl_at 512 13 lb_16 rfl)
theorem dL_law_526 : decode cL_law 526 = .ok (.aload_n 0, 1) := dc_aload0 (dl_at 512 14 lb_16 rfl)
theorem dL_law_527 : decode cL_law 527 = .ok (.iload_n 3, 1) := dc_iload3 (dl_at 512 15 lb_16 rfl)
theorem dL_law_528 : decode cL_law 528 = .ok (.iconst 3, 1) := dc_iconst3 (dl_at 512 16 lb_16 rfl)
theorem dL_law_529 : decode cL_law 529 = .ok (.iadd, 1) := dc_iadd (dl_at 512 17 lb_16 rfl)
theorem dL_law_530 : decode cL_law 530 = .ok (.iaload, 1) := dc_iaload (dl_at 512 18 lb_16 rfl)
theorem dL_law_531 : decode cL_law 531 = .ok (.invokevirtual 48, 3) := dc_virt (a := 0) (b := 48) (dl_at 512 19 lb_16 rfl) (dl_at 512 20 lb_16 rfl) (dl_at 512 21 lb_16 rfl)
theorem dL_law_534 : decode cL_law 534 = .ok (.pop, 1) := dc_pop (dl_at 512 22 lb_16 rfl)
theorem dL_law_535 : decode cL_law 535 = .ok (.goto 1107, 3) := dc_goto (a := 4) (b := 83) (dl_at 512 23 lb_16 rfl) (dl_at 512 24 lb_16 rfl) (dl_at 512 25 lb_16 rfl) (by decide +kernel)
theorem dL_law_538 : decode cL_law 538 = .ok (.aload_n 1, 1) := dc_aload1 (dl_at 512 26 lb_16 rfl)
theorem dL_law_539 : decode cL_law 539 = .ok (.aload_n 0, 1) := dc_aload0 (dl_at 512 27 lb_16 rfl)
theorem dL_law_540 : decode cL_law 540 = .ok (.iload_n 3, 1) := dc_iload3 (dl_at 512 28 lb_16 rfl)
theorem dL_law_541 : decode cL_law 541 = .ok (.iconst 1, 1) := dc_iconst1 (dl_at 512 29 lb_16 rfl)
theorem dL_law_542 : decode cL_law 542 = .ok (.iadd, 1) := dc_iadd (dl_at 512 30 lb_16 rfl)
theorem dL_law_543 : decode cL_law 543 = .ok (.iaload, 1) := dc_iaload (dl_at 512 31 lb_16 rfl)
theorem dL_law_544 : decode cL_law 544 = .ok (.invokevirtual 49, 3) := dc_virt (a := 0) (b := 49) (dl_at 544 0 lb_17 rfl) (dl_at 544 1 lb_17 rfl) (dl_at 544 2 lb_17 rfl)
theorem dL_law_547 : decode cL_law 547 = .ok (.pop, 1) := dc_pop (dl_at 544 3 lb_17 rfl)
theorem dL_law_548 : decode cL_law 548 = .ok (.aload_n 2, 1) := dc_aload2 (dl_at 544 4 lb_17 rfl)
theorem dL_law_549 : decode cL_law 549 = .ok (.aload_n 0, 1) := dc_aload0 (dl_at 544 5 lb_17 rfl)
theorem dL_law_550 : decode cL_law 550 = .ok (.iload_n 3, 1) := dc_iload3 (dl_at 544 6 lb_17 rfl)
theorem dL_law_551 : decode cL_law 551 = .ok (.iconst 1, 1) := dc_iconst1 (dl_at 544 7 lb_17 rfl)
theorem dL_law_552 : decode cL_law 552 = .ok (.iadd, 1) := dc_iadd (dl_at 544 8 lb_17 rfl)
theorem dL_law_553 : decode cL_law 553 = .ok (.iaload, 1) := dc_iaload (dl_at 544 9 lb_17 rfl)
theorem dL_law_554 : decode cL_law 554 = .ok (.invokevirtual 52, 3) := dc_virt (a := 0) (b := 52) (dl_at 544 10 lb_17 rfl) (dl_at 544 11 lb_17 rfl) (dl_at 544 12 lb_17 rfl)
theorem dL_law_557 : decode cL_law 557 = .ok (.pop, 1) := dc_pop (dl_at 544 13 lb_17 rfl)
theorem dL_law_558 : decode cL_law 558 = .ok (.goto 1084, 3) := dc_goto (a := 4) (b := 60) (dl_at 544 14 lb_17 rfl) (dl_at 544 15 lb_17 rfl) (dl_at 544 16 lb_17 rfl) (by decide +kernel)
theorem dL_law_561 : decode cL_law 561 = .ok (.aload_n 1, 1) := dc_aload1 (dl_at 544 17 lb_17 rfl)
theorem dL_law_562 : decode cL_law 562 = .ok (.aload_n 0, 1) := dc_aload0 (dl_at 544 18 lb_17 rfl)
theorem dL_law_563 : decode cL_law 563 = .ok (.iload_n 3, 1) := dc_iload3 (dl_at 544 19 lb_17 rfl)
theorem dL_law_564 : decode cL_law 564 = .ok (.iconst 1, 1) := dc_iconst1 (dl_at 544 20 lb_17 rfl)
theorem dL_law_565 : decode cL_law 565 = .ok (.iadd, 1) := dc_iadd (dl_at 544 21 lb_17 rfl)
theorem dL_law_566 : decode cL_law 566 = .ok (.iaload, 1) := dc_iaload (dl_at 544 22 lb_17 rfl)
theorem dL_law_567 : decode cL_law 567 = .ok (.invokevirtual 53, 3) := dc_virt (a := 0) (b := 53) (dl_at 544 23 lb_17 rfl) (dl_at 544 24 lb_17 rfl) (dl_at 544 25 lb_17 rfl)
theorem dL_law_570 : decode cL_law 570 = .ok (.pop, 1) := dc_pop (dl_at 544 26 lb_17 rfl)
theorem dL_law_571 : decode cL_law 571 = .ok (.aload_n 2, 1) := dc_aload2 (dl_at 544 27 lb_17 rfl)
theorem dL_law_572 : decode cL_law 572 = .ok (.aload_n 0, 1) := dc_aload0 (dl_at 544 28 lb_17 rfl)
theorem dL_law_573 : decode cL_law 573 = .ok (.iload_n 3, 1) := dc_iload3 (dl_at 544 29 lb_17 rfl)
theorem dL_law_574 : decode cL_law 574 = .ok (.iconst 1, 1) := dc_iconst1 (dl_at 544 30 lb_17 rfl)
theorem dL_law_575 : decode cL_law 575 = .ok (.iadd, 1) := dc_iadd (dl_at 544 31 lb_17 rfl)
theorem dL_law_576 : decode cL_law 576 = .ok (.iaload, 1) := dc_iaload (dl_at 576 0 lb_18 rfl)
theorem dL_law_577 : decode cL_law 577 = .ok (.invokevirtual 56, 3) := dc_virt (a := 0) (b := 56) (dl_at 576 1 lb_18 rfl) (dl_at 576 2 lb_18 rfl) (dl_at 576 3 lb_18 rfl)
theorem dL_law_580 : decode cL_law 580 = .ok (.pop, 1) := dc_pop (dl_at 576 4 lb_18 rfl)
theorem dL_law_581 : decode cL_law 581 = .ok (.goto 1061, 3) := dc_goto (a := 4) (b := 37) (dl_at 576 5 lb_18 rfl) (dl_at 576 6 lb_18 rfl) (dl_at 576 7 lb_18 rfl) (by decide +kernel)
theorem dL_law_584 : decode cL_law 584 = .ok (.aload_n 1, 1) := dc_aload1 (dl_at 576 8 lb_18 rfl)
theorem dL_law_585 : decode cL_law 585 = .ok (.aload_n 0, 1) := dc_aload0 (dl_at 576 9 lb_18 rfl)
theorem dL_law_586 : decode cL_law 586 = .ok (.iload_n 3, 1) := dc_iload3 (dl_at 576 10 lb_18 rfl)
theorem dL_law_587 : decode cL_law 587 = .ok (.iconst 1, 1) := dc_iconst1 (dl_at 576 11 lb_18 rfl)
theorem dL_law_588 : decode cL_law 588 = .ok (.iadd, 1) := dc_iadd (dl_at 576 12 lb_18 rfl)
theorem dL_law_589 : decode cL_law 589 = .ok (.iaload, 1) := dc_iaload (dl_at 576 13 lb_18 rfl)
theorem dL_law_590 : decode cL_law 590 = .ok (.aload_n 0, 1) := dc_aload0 (dl_at 576 14 lb_18 rfl)
theorem dL_law_591 : decode cL_law 591 = .ok (.iload_n 3, 1) := dc_iload3 (dl_at 576 15 lb_18 rfl)
theorem dL_law_592 : decode cL_law 592 = .ok (.iconst 2, 1) := dc_iconst2 (dl_at 576 16 lb_18 rfl)
theorem dL_law_593 : decode cL_law 593 = .ok (.iadd, 1) := dc_iadd (dl_at 576 17 lb_18 rfl)
theorem dL_law_594 : decode cL_law 594 = .ok (.iaload, 1) := dc_iaload (dl_at 576 18 lb_18 rfl)
theorem dL_law_595 : decode cL_law 595 = .ok (.invokevirtual 57, 3) := dc_virt (a := 0) (b := 57) (dl_at 576 19 lb_18 rfl) (dl_at 576 20 lb_18 rfl) (dl_at 576 21 lb_18 rfl)
theorem dL_law_598 : decode cL_law 598 = .ok (.pop, 1) := dc_pop (dl_at 576 22 lb_18 rfl)
theorem dL_law_599 : decode cL_law 599 = .ok (.aload_n 2, 1) := dc_aload2 (dl_at 576 23 lb_18 rfl)
theorem dL_law_600 : decode cL_law 600 = .ok (.aload_n 0, 1) := dc_aload0 (dl_at 576 24 lb_18 rfl)
theorem dL_law_601 : decode cL_law 601 = .ok (.iload_n 3, 1) := dc_iload3 (dl_at 576 25 lb_18 rfl)
theorem dL_law_602 : decode cL_law 602 = .ok (.iconst 1, 1) := dc_iconst1 (dl_at 576 26 lb_18 rfl)
theorem dL_law_603 : decode cL_law 603 = .ok (.iadd, 1) := dc_iadd (dl_at 576 27 lb_18 rfl)
theorem dL_law_604 : decode cL_law 604 = .ok (.iaload, 1) := dc_iaload (dl_at 576 28 lb_18 rfl)
theorem dL_law_605 : decode cL_law 605 = .ok (.aload_n 0, 1) := dc_aload0 (dl_at 576 29 lb_18 rfl)
theorem dL_law_606 : decode cL_law 606 = .ok (.iload_n 3, 1) := dc_iload3 (dl_at 576 30 lb_18 rfl)
theorem dL_law_607 : decode cL_law 607 = .ok (.iconst 2, 1) := dc_iconst2 (dl_at 576 31 lb_18 rfl)
theorem dL_law_608 : decode cL_law 608 = .ok (.iadd, 1) := dc_iadd (dl_at 608 0 lb_19 rfl)
theorem dL_law_609 : decode cL_law 609 = .ok (.iaload, 1) := dc_iaload (dl_at 608 1 lb_19 rfl)
theorem dL_law_610 : decode cL_law 610 = .ok (.invokevirtual 60, 3) := dc_virt (a := 0) (b := 60) (dl_at 608 2 lb_19 rfl) (dl_at 608 3 lb_19 rfl) (dl_at 608 4 lb_19 rfl)
theorem dL_law_613 : decode cL_law 613 = .ok (.pop, 1) := dc_pop (dl_at 608 5 lb_19 rfl)
theorem dL_law_614 : decode cL_law 614 = .ok (.goto 1028, 3) := dc_goto (a := 4) (b := 4) (dl_at 608 6 lb_19 rfl) (dl_at 608 7 lb_19 rfl) (dl_at 608 8 lb_19 rfl) (by decide +kernel)
theorem dL_law_617 : decode cL_law 617 = .ok (.aload_n 1, 1) := dc_aload1 (dl_at 608 9 lb_19 rfl)
theorem dL_law_618 : decode cL_law 618 = .ok (.aload_n 0, 1) := dc_aload0 (dl_at 608 10 lb_19 rfl)
theorem dL_law_619 : decode cL_law 619 = .ok (.iload_n 3, 1) := dc_iload3 (dl_at 608 11 lb_19 rfl)
theorem dL_law_620 : decode cL_law 620 = .ok (.iconst 1, 1) := dc_iconst1 (dl_at 608 12 lb_19 rfl)
theorem dL_law_621 : decode cL_law 621 = .ok (.iadd, 1) := dc_iadd (dl_at 608 13 lb_19 rfl)
theorem dL_law_622 : decode cL_law 622 = .ok (.iaload, 1) := dc_iaload (dl_at 608 14 lb_19 rfl)
theorem dL_law_623 : decode cL_law 623 = .ok (.aload_n 0, 1) := dc_aload0 (dl_at 608 15 lb_19 rfl)
theorem dL_law_624 : decode cL_law 624 = .ok (.iload_n 3, 1) := dc_iload3 (dl_at 608 16 lb_19 rfl)
theorem dL_law_625 : decode cL_law 625 = .ok (.iconst 2, 1) := dc_iconst2 (dl_at 608 17 lb_19 rfl)
theorem dL_law_626 : decode cL_law 626 = .ok (.iadd, 1) := dc_iadd (dl_at 608 18 lb_19 rfl)
theorem dL_law_627 : decode cL_law 627 = .ok (.iaload, 1) := dc_iaload (dl_at 608 19 lb_19 rfl)
theorem dL_law_628 : decode cL_law 628 = .ok (.invokevirtual 61, 3) := dc_virt (a := 0) (b := 61) (dl_at 608 20 lb_19 rfl) (dl_at 608 21 lb_19 rfl) (dl_at 608 22 lb_19 rfl)
theorem dL_law_631 : decode cL_law 631 = .ok (.pop, 1) := dc_pop (dl_at 608 23 lb_19 rfl)
theorem dL_law_632 : decode cL_law 632 = .ok (.aload_n 2, 1) := dc_aload2 (dl_at 608 24 lb_19 rfl)
theorem dL_law_633 : decode cL_law 633 = .ok (.aload_n 0, 1) := dc_aload0 (dl_at 608 25 lb_19 rfl)
theorem dL_law_634 : decode cL_law 634 = .ok (.iload_n 3, 1) := dc_iload3 (dl_at 608 26 lb_19 rfl)
theorem dL_law_635 : decode cL_law 635 = .ok (.iconst 1, 1) := dc_iconst1 (dl_at 608 27 lb_19 rfl)
theorem dL_law_636 : decode cL_law 636 = .ok (.iadd, 1) := dc_iadd (dl_at 608 28 lb_19 rfl)
theorem dL_law_637 : decode cL_law 637 = .ok (.iaload, 1) := dc_iaload (dl_at 608 29 lb_19 rfl)
theorem dL_law_638 : decode cL_law 638 = .ok (.aload_n 0, 1) := dc_aload0 (dl_at 608 30 lb_19 rfl)
theorem dL_law_639 : decode cL_law 639 = .ok (.iload_n 3, 1) := dc_iload3 (dl_at 608 31 lb_19 rfl)
theorem dL_law_640 : decode cL_law 640 = .ok (.iconst 2, 1) := dc_iconst2 (dl_at 640 0 lb_20 rfl)
theorem dL_law_641 : decode cL_law 641 = .ok (.iadd, 1) := dc_iadd (dl_at 640 1 lb_20 rfl)
theorem dL_law_642 : decode cL_law 642 = .ok (.iaload, 1) := dc_iaload (dl_at 640 2 lb_20 rfl)
theorem dL_law_643 : decode cL_law 643 = .ok (.invokevirtual 64, 3) := dc_virt (a := 0) (b := 64) (dl_at 640 3 lb_20 rfl) (dl_at 640 4 lb_20 rfl) (dl_at 640 5 lb_20 rfl)
theorem dL_law_646 : decode cL_law 646 = .ok (.pop, 1) := dc_pop (dl_at 640 6 lb_20 rfl)
theorem dL_law_647 : decode cL_law 647 = .ok (.goto 995, 3) := dc_goto (a := 3) (b := 227) (dl_at 640 7 lb_20 rfl) (dl_at 640 8 lb_20 rfl) (dl_at 640 9 lb_20 rfl) (by decide +kernel)
theorem dL_law_650 : decode cL_law 650 = .ok (.aload_n 1, 1) := dc_aload1 (dl_at 640 10 lb_20 rfl)
theorem dL_law_651 : decode cL_law 651 = .ok (.aload_n 0, 1) := dc_aload0 (dl_at 640 11 lb_20 rfl)
theorem dL_law_652 : decode cL_law 652 = .ok (.iload_n 3, 1) := dc_iload3 (dl_at 640 12 lb_20 rfl)
theorem dL_law_653 : decode cL_law 653 = .ok (.iconst 1, 1) := dc_iconst1 (dl_at 640 13 lb_20 rfl)
theorem dL_law_654 : decode cL_law 654 = .ok (.iadd, 1) := dc_iadd (dl_at 640 14 lb_20 rfl)
theorem dL_law_655 : decode cL_law 655 = .ok (.iaload, 1) := dc_iaload (dl_at 640 15 lb_20 rfl)
theorem dL_law_656 : decode cL_law 656 = .ok (.aload_n 0, 1) := dc_aload0 (dl_at 640 16 lb_20 rfl)
theorem dL_law_657 : decode cL_law 657 = .ok (.iload_n 3, 1) := dc_iload3 (dl_at 640 17 lb_20 rfl)
theorem dL_law_658 : decode cL_law 658 = .ok (.iconst 2, 1) := dc_iconst2 (dl_at 640 18 lb_20 rfl)
theorem dL_law_659 : decode cL_law 659 = .ok (.iadd, 1) := dc_iadd (dl_at 640 19 lb_20 rfl)
theorem dL_law_660 : decode cL_law 660 = .ok (.iaload, 1) := dc_iaload (dl_at 640 20 lb_20 rfl)
theorem dL_law_661 : decode cL_law 661 = .ok (.invokevirtual 65, 3) := dc_virt (a := 0) (b := 65) (dl_at 640 21 lb_20 rfl) (dl_at 640 22 lb_20 rfl) (dl_at 640 23 lb_20 rfl)
theorem dL_law_664 : decode cL_law 664 = .ok (.pop, 1) := dc_pop (dl_at 640 24 lb_20 rfl)
theorem dL_law_665 : decode cL_law 665 = .ok (.aload_n 2, 1) := dc_aload2 (dl_at 640 25 lb_20 rfl)
theorem dL_law_666 : decode cL_law 666 = .ok (.aload_n 0, 1) := dc_aload0 (dl_at 640 26 lb_20 rfl)
theorem dL_law_667 : decode cL_law 667 = .ok (.iload_n 3, 1) := dc_iload3 (dl_at 640 27 lb_20 rfl)
theorem dL_law_668 : decode cL_law 668 = .ok (.iconst 1, 1) := dc_iconst1 (dl_at 640 28 lb_20 rfl)
theorem dL_law_669 : decode cL_law 669 = .ok (.iadd, 1) := dc_iadd (dl_at 640 29 lb_20 rfl)
theorem dL_law_670 : decode cL_law 670 = .ok (.iaload, 1) := dc_iaload (dl_at 640 30 lb_20 rfl)
theorem dL_law_671 : decode cL_law 671 = .ok (.aload_n 0, 1) := dc_aload0 (dl_at 640 31 lb_20 rfl)
theorem dL_law_672 : decode cL_law 672 = .ok (.iload_n 3, 1) := dc_iload3 (dl_at 672 0 lb_21 rfl)
theorem dL_law_673 : decode cL_law 673 = .ok (.iconst 2, 1) := dc_iconst2 (dl_at 672 1 lb_21 rfl)
theorem dL_law_674 : decode cL_law 674 = .ok (.iadd, 1) := dc_iadd (dl_at 672 2 lb_21 rfl)
theorem dL_law_675 : decode cL_law 675 = .ok (.iaload, 1) := dc_iaload (dl_at 672 3 lb_21 rfl)
theorem dL_law_676 : decode cL_law 676 = .ok (.invokevirtual 68, 3) := dc_virt (a := 0) (b := 68) (dl_at 672 4 lb_21 rfl) (dl_at 672 5 lb_21 rfl) (dl_at 672 6 lb_21 rfl)
theorem dL_law_679 : decode cL_law 679 = .ok (.pop, 1) := dc_pop (dl_at 672 7 lb_21 rfl)
theorem dL_law_680 : decode cL_law 680 = .ok (.goto 962, 3) := dc_goto (a := 3) (b := 194) (dl_at 672 8 lb_21 rfl) (dl_at 672 9 lb_21 rfl) (dl_at 672 10 lb_21 rfl) (by decide +kernel)
