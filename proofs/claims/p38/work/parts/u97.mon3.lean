-- ===== luck: a property of the reference's table that a sale keeps =====
theorem luck_inQ {mu : Nat → Nat → Int32} {v6 : Int32} {kM : Int64 → Int32 → Int32 → (Nat → Nat → Int32) → Int32 × (Nat → Nat → Int32)} {D : Int} {Q : (Nat → Nat → Int32) → Prop} (hQs : ∀ (mux mum : Nat → Nat → Int32) (k x : Int32), bdM mum → core mux mum → Q mum → (0 ≤ k.toInt ∧ k.toInt < (mum 0 15).toInt) → (0 ≤ x.toInt ∧ x.toInt < (mum 0 8).toInt) → bt (F_sm_canSell mum k) x.toNatClampNeg = true → (mum 0 17).toInt < 40 → Q (F_sm_sellTo mum k x)) (hQd : ∀ (mum : Nat → Nat → Int32) (v : Int32), Q mum → Q (va_up mum 0 (upd (mum 0) 14 v))) (hD : D ≤ 98) (hk : ∀ (l : Int64) (v : Int32) (mux mum : Nat → Nat → Int32), seedR l → bdM mum → core mux mum → Q mum → (mum 0 14).toInt = D + 1 → Q (kM l v (v6 + 1) mum).2) : ∀ (n : Nat) (l : Int64) (v i : Int32) (mux mum : Nat → Nat → Int32), seedR l → bdM mum → core mux mum → Q mum → (mum 0 14).toInt = D → 0 ≤ i.toInt → i.toInt ≤ (mum 0 15).toInt → ((mum 0 15).toInt - i.toInt).toNat < n → Q (L_qm_luck_65_1 mu v6 kM n l v i mum).2 := by
  intro n
  induction n with
  | zero => intro l v i mux mum _ _ _ _ _ _ _ h; exact absurd h (Nat.not_lt_zero _)
  | succ n ih =>
    intro l v i mux mum hl bd hC hQ hd h0 hle hn
    have hC0 := hC
    have bd0 := bd
    obtain ⟨hK, hE, ⟨s2, s3, s4, s6⟩, hday, hP, hL, hS, hA⟩ := hC
    obtain ⟨hb, hpa, hsent, hled⟩ := bd
    have z1 : (1 : Int32).toInt = 1 := rfl
    have z40 : (40 : Int32).toInt = 40 := rfl
    rw [L_qm_luck_65_1]
    simp only [letv_eq, letp_eq]
    by_cases c : i ≥ mum 0 15
    · rw [if_pos c]
      have ad : (mum 0 14 + 1 : Int32).toInt = D + 1 := by
        have := tI_add (a := mum 0 14) (b := 1) rfl z1 (by omega) (by omega)
        omega
      generalize u2 : va_up mux 5 (upd (mux 5) 3 (mum 0 14 + 1)) = xi1
      generalize v2 : va_up mum 0 (upd (mum 0) 14 (mum 0 14 + 1)) = xi2
      have e14 : xi2 0 14 = mum 0 14 + 1 := (up_v v2).symm
      have ef : ∀ f : Nat, f ≠ 14 → xi2 0 f = mum 0 f := fun f hf => up_f v2 hf
      have nc : core xi1 xi2 := by
        refine core_nums bd0 hC0 (fun c hc => up_k u2 hc) (fun c hc => up_k v2 hc) (ef 8 (by decide)) (ef 11 (by decide)) (ef 15 (by decide)) (ef 17 (by decide)) ?_ ?_ (up_f u2 (by decide)) ?_
        · rw [up_f u2 (by decide), ef 13 (by decide)]; exact s2
        · rw [← up_v u2, e14]
        · rw [e14, ad]; omega
      have nb : bdM xi2 := by
        unfold bdM
        rw [ef 8 (by decide), ef 11 (by decide), ef 15 (by decide), ef 17 (by decide)]
        exact bd0
      exact hk _ _ _ _ hl nb nc (by rw [← v2]; exact hQd _ _ hQ) (by rw [e14, ad])
    · have c2 : ¬ (mum 0 15).toInt ≤ i.toInt := fun h => c (vv_ge.mpr h)
      have ci := tC_of h0
      have ai : (i + 1 : Int32).toInt = i.toInt + 1 := tI_add rfl z1 (by omega) (by omega)
      have be := buyers_core bd0 hC0 ⟨h0, by omega⟩
      have rg := cs_rng (k := i) hb
      obtain ⟨q1, q2, q3, q4⟩ := count_eq rg
      rw [if_neg c]
      by_cases c0 : F_sm_canSell mum i = 0
      · rw [if_pos c0]
        exact ih _ _ (i + 1) mux mum hl bd0 hC0 hQ hd (by omega) (by omega) (by omega)
      · rw [if_neg c0]
        by_cases c40 : (mum 0 17).toInt < 40
        · have n40 : ¬ mum 0 17 = 40 := fun e => by rw [e] at c40; exact absurd c40 (by decide)
          rw [if_neg n40]
          have l1 := lot_rng (n := l) (l1 := 48271 * l) (l2 := 48271 * l % 2147483647) hl rfl rfl
          rw [lrem_eq (48271 * l) 2147483647]
          generalize 48271 * l % 2147483647 = l2 at l1
          have pos : 1 ≤ pp (F_sm_canSell mum i).toNatClampNeg := by
            rcases Nat.eq_zero_or_pos (pp (F_sm_canSell mum i).toNatClampNeg) with e | e
            · exfalso
              have hcc := tC_of rg.1
              have := pp_0 _ (by omega) e
              exact c0 (Int32.toInt_inj.mp (by show _ = (0 : Int); omega))
            · exact e
          have cnt : ((F_sm_sizeOf (F_sm_canSell mum i)).toInt64).toInt = (pp (F_sm_canSell mum i).toNatClampNeg : Int) := by rw [Int32.toInt_toInt64, q2]
          have rem := lrem_rng (a := l2) (b := (F_sm_sizeOf (F_sm_canSell mum i)).toInt64) (c := (pp (F_sm_canSell mum i).toNatClampNeg : Int)) l1.1 cnt (by omega)
          rw [lrem_eq l2]
          have t31 := l2i_of (a := l2 % (F_sm_sizeOf (F_sm_canSell mum i)).toInt64) rfl rem.1 (by omega)
          obtain ⟨x, x1, x2, x3, x4, x5⟩ := lot_loop (l27 := l2) (mu := mu) (a := F_sm_canSell mum i) (v5 := v) (v7 := i) (kont := fun z_v3_65 z_v5_65 z_v7_65 z_nu65_ => L_qm_luck_65_1 mu v6 kM n z_v3_65 z_v5_65 z_v7_65 z_nu65_) (nu := mum) rg 10 (l2 % (F_sm_sizeOf (F_sm_canSell mum i)).toInt64).toInt32 0 (by decide) (by decide) (by decide) (by omega) (by rw [show (0 : Int32).toNatClampNeg = 0 from rfl, ab_0, t31]; exact rem.2)
          rw [x5]
          have cx := tC_of x2
          have xb := cs_set (k := i) hb x.toNatClampNeg (by omega) x4
          obtain ⟨a1, a2, a3, a4, a5, a6⟩ := sale_rel (r := (F_sx_enterSale mux i x).1) (xi1 := (F_sx_enterSale mux i x).2) (xi2 := F_sm_sellTo mum i x) bd0 hC0 ⟨h0, by omega⟩ ⟨x2, by omega⟩ c40 rfl rfl
          have e17 : (mum 0 17 + 1 : Int32).toInt = (mum 0 17).toInt + 1 := tI_add rfl z1 (by omega) (by omega)
          have nb : bdM (F_sm_sellTo mum i x) := by
            unfold bdM
            rw [a4 8 (by decide), a4 11 (by decide), a4 15 (by decide), a5, e17]
            exact ⟨hb, hpa, hsent, by omega, by omega⟩
          have sm := hQs mux mum i x bd0 hC0 hQ ⟨h0, by omega⟩ ⟨x2, by omega⟩ x4 c40
          exact ih l2 _ (i + 1) _ _ l1 nb a2 sm (by rw [a4 14 (by decide)]; exact hd) (by omega) (by rw [a4 15 (by decide)]; omega) (by rw [a4 15 (by decide)]; omega)
        · have e40 : mum 0 17 = 40 := Int32.toInt_inj.mp (by omega)
          rw [if_pos e40]
          exact hQ
theorem luck_outQ {mu : Nat → Nat → Int32} {vn : Int32} {Q : (Nat → Nat → Int32) → Prop} (hQs : ∀ (mux mum : Nat → Nat → Int32) (k x : Int32), bdM mum → core mux mum → Q mum → (0 ≤ k.toInt ∧ k.toInt < (mum 0 15).toInt) → (0 ≤ x.toInt ∧ x.toInt < (mum 0 8).toInt) → bt (F_sm_canSell mum k) x.toNatClampNeg = true → (mum 0 17).toInt < 40 → Q (F_sm_sellTo mum k x)) (hQd : ∀ (mum : Nat → Nat → Int32) (v : Int32), Q mum → Q (va_up mum 0 (upd (mum 0) 14 v))) (hvn : 1 ≤ vn.toInt ∧ vn.toInt ≤ 40) : ∀ (n : Nat) (l : Int64) (v i : Int32) (mux mum : Nat → Nat → Int32), seedR l → bdM mum → core mux mum → Q mum → 0 ≤ i.toInt → i.toInt ≤ vn.toInt → (mum 0 14).toInt + (vn.toInt - i.toInt) ≤ 99 → (vn.toInt - i.toInt).toNat < n → Q (L_qm_luck_56_0 mu vn n l v i mum).2 := by
  intro n
  induction n with
  | zero => intro l v i mux mum _ _ _ _ _ _ _ h; exact absurd h (Nat.not_lt_zero _)
  | succ n ih =>
    intro l v i mux mum hl bd hC hQ h0 hle hday hn
    have z0 : (0 : Int32).toInt = 0 := rfl
    rw [L_qm_luck_56_0]
    by_cases c : i ≥ vn
    · rw [if_pos c]
      exact hQ
    · have c2 : ¬ vn.toInt ≤ i.toInt := fun h => c (vv_ge.mpr h)
      have ai : (i + 1 : Int32).toInt = i.toInt + 1 := tI_add rfl (rfl : (1 : Int32).toInt = 1) (by omega) (by omega)
      rw [if_neg c]
      exact luck_inQ hQs hQd (D := (mum 0 14).toInt) (by omega) (fun l' v' mux' mum' hl' bd' hC' hQ' hd' => ih l' v' (i + 1) mux' mum' hl' bd' hC' hQ' (by omega) (by omega) (by omega) (by omega)) 7 l v 0 mux mum hl bd hC hQ rfl (by decide) (by rw [z0]; exact bd.2.2.1.1) (by rw [z0]; have := bd.2.2.1.2; omega)
theorem luck_mon {n s r2 : Int32} {mux mum xi2 : Nat → Nat → Int32} {T : Int} (hT : 0 ≤ T ∧ T ≤ 1000000) (okm : okR loM hiM mum) (hC : core mux mum) (hm : mon T mum) (h2 : (r2, xi2) = F_qm_luck mum n s) : mon T xi2 := by
  have hday := hC.2.2.2.1
  have z0 : (0 : Int32).toInt = 0 := rfl
  have z1 : (1 : Int32).toInt = 1 := rfl
  have z40 : (40 : Int32).toInt = 40 := rfl
  have z99 : (99 : Int32).toInt = 99 := rfl
  have zM : (2147483646 : Int32).toInt = 2147483646 := rfl
  simp only [F_qm_luck, letv_eq] at h2
  by_cases c1 : F_sm_in n 1 40 = 1
  · rw [if_pos c1] at h2
    have hn := fm_in.mp c1
    by_cases c2 : F_sm_in s 1 2147483646 = 1
    · rw [if_pos c2] at h2
      have hs := fm_in.mp c2
      by_cases c8 : mum 0 8 = 0
      · rw [if_pos c8] at h2
        rw [(Prod.mk.inj h2).2]
        exact hm
      · rw [if_neg c8] at h2
        have ad : (mum 0 14 + n : Int32).toInt = (mum 0 14).toInt + n.toInt := tI_add rfl rfl (by omega) (by omega)
        by_cases c9 : mum 0 14 + n ≤ (99 : Int32)
        · have c10 := vv_le.mp c9
          rw [if_pos c9] at h2
          have key := luck_outQ (mu := mum) (vn := n) (Q := mon T) (fun mux mum k x bd hC hQ hk hx hb h40 => sale_mon hT bd hC hQ hk hx hb h40) (fun mum v hQ => by
            generalize h9 : va_up mum 0 (upd (mum 0) 14 v) = nu
            exact mon_of hQ (up_f h9 (by decide)) (up_f h9 (by decide)) (up_f h9 (by decide)) (up_k h9 (by decide)) (up_k h9 (by decide)) (up_k h9 (by decide)) (up_k h9 (by decide))) ⟨by omega, by omega⟩ 43 s.toInt64 0 0 mux mum (by unfold seedR; rw [Int32.toInt_toInt64]; omega) (bd_of okm) hC hm (by decide) (by rw [z0]; omega) (by rw [z0]; omega) (by rw [z0]; omega)
          rw [p_snd h2] at key
          exact key
        · rw [if_neg c9] at h2
          rw [(Prod.mk.inj h2).2]
          exact hm
    · rw [if_neg c2] at h2
      rw [(Prod.mk.inj h2).2]
      exact hm
  · rw [if_neg c1] at h2
    rw [(Prod.mk.inj h2).2]
    exact hm

-- ===== a new town: its money =====
theorem tot_le {f : Nat → Int32} {c : Int} : ∀ n : Nat, (∀ x : Nat, x < n → (f x).toInt ≤ c) → tot f n ≤ c * (n : Int) := by
  intro n
  induction n with
  | zero => intro _; show (0 : Int) ≤ c * ((0 : Nat) : Int); omega
  | succ n ih =>
    intro h
    have h1 := ih (fun x hx => h x (Nat.lt_succ_of_lt hx))
    have h2 := h n (Nat.lt_succ_self n)
    show tot f n + (f n).toInt ≤ c * ((n + 1 : Nat) : Int)
    have e : c * ((n + 1 : Nat) : Int) = c * (n : Int) + c := by
      rw [Int.natCast_add, Int.mul_add]
      simp
    omega
theorem town_mon {T : Int} {mux mum xi1 xi2 : Nat → Nat → Int32} (hT : 693 ≤ T) (h : (simK xi1 xi2 ∧ endR xi2 ∧ newT xi1 xi2) ∨ ((∀ k f : Nat, gpX k f ≠ 0 → xi1 k f = mux k f) ∧ (∀ k f : Nat, gpM k f ≠ 0 → xi2 k f = mum k f))) (hm : mon T mum) : mon T xi2 := by
  rcases h with ⟨-, -, -, -, ⟨-, -, y4, y6⟩, k, hb, hp⟩ | ⟨-, b⟩
  · refine ⟨⟨fun x hx => (hp x hx).1, ?_⟩, fun k hk => ?_, fun s hs => ?_, fun j hj => Or.inl (k j hj).2⟩
    · have h1 := tot_le (c := 99) (xi2 0 8).toNatClampNeg (fun x hx => (hp x hx).2)
      have h2 : (xi2 0 8).toNatClampNeg ≤ 7 := by
        by_cases c : 0 ≤ (xi2 0 8).toInt
        · have := tC_of c
          omega
        · have e : (xi2 0 8).toNatClampNeg = (xi2 0 8).toInt.toNat := rfl
          omega
      omega
    · rw [y4] at hk; exact absurd hk (Nat.not_lt_zero _)
    · rw [y6] at hs; exact absurd hs (Nat.not_lt_zero _)
  · exact mon_of hm (b 0 8 (by decide)) (b 0 15 (by decide)) (b 0 17 (by decide)) (funext fun f => b 8 f (by show (3 : Nat) ≠ 0; decide)) (funext fun f => b 10 f (by show (3 : Nat) ≠ 0; decide)) (funext fun f => b 14 f (by show (4 : Nat) ≠ 0; decide)) (funext fun f => b 15 f (by show (5 : Nat) ≠ 0; decide))

-- ===== routes: what a walk leaves as it was =====
def fixX (a b : Nat → Nat → Int32) : Prop := (∀ k : Nat, k ≠ 32 → k ≠ 54 → k ≠ 55 → k ≠ 56 → k ≠ 57 → k ≠ 58 → b k = a k) ∧ (∀ f : Nat, f ≤ 10 → b 32 f = a 32 f)
def fixM (a b : Nat → Nat → Int32) : Prop := (∀ k : Nat, k ≠ 0 → k ≠ 16 → k ≠ 17 → k ≠ 18 → b k = a k) ∧ (∀ f : Nat, f < 30 ∨ 38 ≤ f → b 0 f = a 0 f) ∧ b 16 0 = a 16 0
theorem fixX_rf {a : Nat → Nat → Int32} : fixX a a := ⟨fun _ _ _ _ _ _ _ => rfl, fun _ _ => rfl⟩
theorem fixX_tr {a b c : Nat → Nat → Int32} (h1 : fixX a b) (h2 : fixX b c) : fixX a c := ⟨fun k a1 a2 a3 a4 a5 a6 => (h2.1 k a1 a2 a3 a4 a5 a6).trans (h1.1 k a1 a2 a3 a4 a5 a6), fun f hf => (h2.2 f hf).trans (h1.2 f hf)⟩
theorem fixM_rf {a : Nat → Nat → Int32} : fixM a a := ⟨fun _ _ _ _ _ => rfl, fun _ _ => rfl, rfl⟩
theorem fixM_tr {a b c : Nat → Nat → Int32} (h1 : fixM a b) (h2 : fixM b c) : fixM a c := ⟨fun k a1 a2 a3 a4 => (h2.1 k a1 a2 a3 a4).trans (h1.1 k a1 a2 a3 a4), fun f hf => (h2.2.1 f hf).trans (h1.2.1 f hf), h2.2.2.trans h1.2.2⟩
theorem up_ne {mu : Nat → Nat → Int32} {k j : Nat} {g : Nat → Int32} (h : j ≠ k) : va_up mu k g j = mu j := by simp [va_up, h]
theorem up_eq {mu : Nat → Nat → Int32} {k : Nat} {g : Nat → Int32} : va_up mu k g k = g := by simp [va_up]
theorem ud_ne {f : Nat → Int32} {x y : Nat} {v : Int32} (h : y ≠ x) : upd f x v y = f y := by simp [upd, h]
theorem ud_eq {f : Nat → Int32} {x : Nat} {v : Int32} : upd f x v x = v := by simp [upd]
/-- a number written: the other numbers -/
theorem uw_k {mu nu : Nat → Nat → Int32} {k : Nat} {g : Nat → Int32} (h : va_up mu k g = nu) : ∀ j : Nat, j ≠ k → nu j = mu j := fun j hj => by rw [← h]; exact up_ne hj
theorem uw_f {mu nu : Nat → Nat → Int32} {k f : Nat} {v : Int32} (h : va_up mu k (upd (mu k) f v) = nu) : ∀ j : Nat, j ≠ f → nu k j = mu k j := fun j hj => by rw [← h, up_eq]; exact ud_ne hj
theorem uw_v {mu nu : Nat → Nat → Int32} {k f : Nat} {v : Int32} (h : va_up mu k (upd (mu k) f v) = nu) : nu k f = v := by rw [← h, up_eq]; exact ud_eq
theorem take55 {mu z : Nat → Nat → Int32} {s p : Int32} (h : z = F_sx_take55 mu s p) : (∀ k : Nat, k ≠ 55 → k ≠ 57 → z k = mu k) ∧ z 55 1 = s ∧ z 55 2 = p ∧ z 55 3 = 1 := by
  unfold F_sx_take55 at h
  obtain ⟨t1, e1, h⟩ := letv_out h
  obtain ⟨n2, e2, h⟩ := letv_out h
  obtain ⟨n4, e4, h⟩ := letv_out h
  obtain ⟨n7, e7, h⟩ := letv_out h
  obtain ⟨n11, e11, h⟩ := letv_out h
  subst h
  refine ⟨fun k h1 h2 => ?_, ?_, ?_, uw_v e11⟩
  · rw [uw_k e11 k h1, uw_k e7 k h1, uw_k e4 k h1, uw_k e2 k h2]
  · rw [uw_f e11 1 (by decide), uw_f e7 1 (by decide), uw_v e4]
  · rw [uw_f e11 2 (by decide), uw_v e7]
theorem take56 {mu z : Nat → Nat → Int32} {s p : Int32} (h : z = F_sx_take56 mu s p) : (∀ k : Nat, k ≠ 56 → k ≠ 58 → z k = mu k) ∧ z 56 1 = s ∧ z 56 2 = p ∧ z 56 3 = 1 := by
  unfold F_sx_take56 at h
  obtain ⟨t1, e1, h⟩ := letv_out h
  obtain ⟨n2, e2, h⟩ := letv_out h
  obtain ⟨n4, e4, h⟩ := letv_out h
  obtain ⟨n7, e7, h⟩ := letv_out h
  obtain ⟨n11, e11, h⟩ := letv_out h
  subst h
  refine ⟨fun k h1 h2 => ?_, ?_, ?_, uw_v e11⟩
  · rw [uw_k e11 k h1, uw_k e7 k h1, uw_k e4 k h1, uw_k e2 k h2]
  · rw [uw_f e11 1 (by decide), uw_f e7 1 (by decide), uw_v e4]
  · rw [uw_f e11 2 (by decide), uw_v e7]
theorem copy17 {vn : Int32} : ∀ (n : Nat) (i : Int32) (nu : Nat → Nat → Int32) (k : Nat), k ≠ 17 → L_sm_copyRoute17_2_0 vn n i nu k = nu k := by
  intro n
  induction n with
  | zero => intro i nu k hk; rfl
  | succ n ih =>
    intro i nu k hk
    unfold L_sm_copyRoute17_2_0
    by_cases c : i ≥ vn
    · rw [if_pos c]
    · rw [if_neg c]
      simp only [letv_eq]
      rw [ih _ _ k hk]
      exact up_ne hk
theorem copy18 {vn : Int32} : ∀ (n : Nat) (i : Int32) (nu : Nat → Nat → Int32) (k : Nat), k ≠ 18 → L_sm_copyRoute18_2_0 vn n i nu k = nu k := by
  intro n
  induction n with
  | zero => intro i nu k hk; rfl
  | succ n ih =>
    intro i nu k hk
    unfold L_sm_copyRoute18_2_0
    by_cases c : i ≥ vn
    · rw [if_pos c]
    · rw [if_neg c]
      simp only [letv_eq]
      rw [ih _ _ k hk]
      exact up_ne hk
-- the class's arrival in three steps
def ax3 (nu : Nat → Nat → Int32) (vs vu vp : Int32) : Nat → Nat → Int32 :=
  LETV (nu 32 12 : Int32) fun y18 =>
  LETV (y18 + 1 : Int32) fun t19 =>
  LETV (va_up nu 32 (upd (nu 32) 12 t19) : Nat → Nat → Int32) fun nu20 =>
  LETV (nu20 32 13 : Int32) fun y25 =>
  LETV (nu20 32 5 : Int32) fun y26 =>
  LETV (1 <<< (y26 &&& 31) : Int32) fun t27 =>
  LETV (t27 ^^^ (-1) : Int32) fun t28 =>
  LETV (vu &&& t28 : Int32) fun t29 =>
  LETV (y25 &&& t29 : Int32) fun t30 =>
  LETV (va_up nu20 32 (upd (nu20 32) 13 t30) : Nat → Nat → Int32) fun nu31 =>
  LETV (nu31 56 3 : Int32) fun y38 =>
  if y38 = (0 : Int32) then (
    LETV (F_sx_take56 nu31 (vs : Int32) (vp : Int32) : Nat → Nat → Int32) fun xi40 =>
    xi40
  ) else (
    LETV (nu31 56 1 : Int32) fun y42 =>
    if vs < y42 then (
      LETV (F_sx_take56 nu31 (vs : Int32) (vp : Int32) : Nat → Nat → Int32) fun xi44 =>
      xi44
    ) else (
      if vs = y42 then (
        LETV (nu31 56 2 : Int32) fun y47 =>
        if vp ≥ y47 then (
          nu31
        ) else (
          LETV (F_sx_take56 nu31 (vs : Int32) (vp : Int32) : Nat → Nat → Int32) fun xi49 =>
          xi49
        )
      ) else (
        nu31
      )
    )
  )
def ax2 (xi8 : Nat → Nat → Int32) (vs vu vp : Int32) : Nat → Nat → Int32 :=
  LETV (F_sx_needFor xi8 (vs : Int32) (vp : Int32) : Int32) fun r10 =>
  LETV (xi8 32 14 : Int32) fun y11 =>
  LETV (if r10 < y11 then r10 else y11 : Int32) fun t12 =>
  LETV (va_up xi8 32 (upd (xi8 32) 14 t12) : Nat → Nat → Int32) fun nu13 =>
  LETV (nu13 32 8 : Int32) fun y16 =>
  if r10 ≤ y16 then (
    ax3 nu13 vs vu vp
  ) else (
    nu13
  )
def ax1 (mu : Nat → Nat → Int32) (vs vu vp : Int32) : Nat → Nat → Int32 :=
  LETV (mu 32 11 : Int32) fun y1 =>
  LETV (y1 + 1 : Int32) fun t2 =>
  LETV (va_up mu 32 (upd (mu 32) 11 t2) : Nat → Nat → Int32) fun nu3 =>
  LETV (nu3 55 3 : Int32) fun y6 =>
  if y6 = (0 : Int32) then (
    LETV (F_sx_take55 nu3 (vs : Int32) (vp : Int32) : Nat → Nat → Int32) fun xi8 =>
    ax2 xi8 vs vu vp
  ) else (
    LETV (nu3 55 2 : Int32) fun y51 =>
    if vp < y51 then (
      LETV (F_sx_take55 nu3 (vs : Int32) (vp : Int32) : Nat → Nat → Int32) fun xi53 =>
      ax2 xi53 vs vu vp
    ) else (
      if vp = y51 then (
        LETV (nu3 55 1 : Int32) fun y147 =>
        if vs ≥ y147 then (
          ax2 nu3 vs vu vp
        ) else (
          LETV (F_sx_take55 nu3 (vs : Int32) (vp : Int32) : Nat → Nat → Int32) fun xi202 =>
          ax2 xi202 vs vu vp
        )
      ) else (
        ax2 nu3 vs vu vp
      )
    )
  )
theorem ax_eq (mu : Nat → Nat → Int32) (vs vu vp : Int32) : F_sx_R_arrive mu vs vu vp = ax1 mu vs vu vp := rfl
theorem ax1_out {nu z : Nat → Nat → Int32} {s u p : Int32} (h : z = F_sx_R_arrive nu s u p) : ∃ nC : Nat → Nat → Int32, z = ax2 nC s u p ∧ (∀ k : Nat, k ≠ 32 → k ≠ 55 → k ≠ 57 → nC k = nu k) ∧ (∀ f : Nat, f ≠ 11 → nC 32 f = nu 32 f) ∧ nC 32 11 = nu 32 11 + 1 ∧ (((nu 55 3 = 0 ∨ p < nu 55 2 ∨ (p = nu 55 2 ∧ ¬ s ≥ nu 55 1)) ∧ nC 55 3 = 1 ∧ nC 55 1 = s ∧ nC 55 2 = p) ∨ (¬ (nu 55 3 = 0 ∨ p < nu 55 2 ∨ (p = nu 55 2 ∧ ¬ s ≥ nu 55 1)) ∧ nC 55 = nu 55)) := by
  rw [ax_eq] at h
  unfold ax1 at h
  obtain ⟨y1, e1, h⟩ := letv_out h
  obtain ⟨t2, e2, h⟩ := letv_out h
  obtain ⟨n3, e3, h⟩ := letv_out h
  obtain ⟨y6, e6, h⟩ := letv_out h
  have a55 : n3 55 = nu 55 := uw_k e3 55 (by decide)
  rw [a55] at e6
  have v11 : n3 32 11 = nu 32 11 + 1 := by rw [uw_v e3, ← e2, ← e1]
  have tk : ∀ xi : Nat → Nat → Int32, xi = F_sx_take55 n3 s p → (∀ k : Nat, k ≠ 32 → k ≠ 55 → k ≠ 57 → xi k = nu k) ∧ (∀ f : Nat, f ≠ 11 → xi 32 f = nu 32 f) ∧ xi 32 11 = nu 32 11 + 1 ∧ xi 55 3 = 1 ∧ xi 55 1 = s ∧ xi 55 2 = p := fun xi hx => by
    obtain ⟨a, b, c, d⟩ := take55 hx
    refine ⟨fun k h1 h2 h3 => ?_, fun f hf => ?_, ?_, d, b, c⟩
    · rw [a k h2 h3]; exact uw_k e3 k h1
    · rw [a 32 (by decide) (by decide)]; exact uw_f e3 f hf
    · rw [a 32 (by decide) (by decide)]; exact v11
  have no : (∀ k : Nat, k ≠ 32 → k ≠ 55 → k ≠ 57 → n3 k = nu k) ∧ (∀ f : Nat, f ≠ 11 → n3 32 f = nu 32 f) := ⟨fun k h1 _ _ => uw_k e3 k h1, fun f hf => uw_f e3 f hf⟩
  by_cases c1 : y6 = (0 : Int32)
  · rw [if_pos c1] at h
    obtain ⟨x, ex, h⟩ := letv_out h
    obtain ⟨a, b, c, d, e, f⟩ := tk x ex.symm
    exact ⟨x, h, a, b, c, Or.inl ⟨Or.inl (e6.trans c1), d, e, f⟩⟩
  · rw [if_neg c1] at h
    have q1 : ¬ nu 55 3 = 0 := fun e => c1 (e6.symm.trans e)
    obtain ⟨y51, e51, h⟩ := letv_out h
    rw [a55] at e51
    by_cases c2 : p < y51
    · rw [if_pos c2] at h
      obtain ⟨x, ex, h⟩ := letv_out h
      obtain ⟨a, b, c, d, e, f⟩ := tk x ex.symm
      exact ⟨x, h, a, b, c, Or.inl ⟨Or.inr (Or.inl (by rw [e51]; exact c2)), d, e, f⟩⟩
    · rw [if_neg c2] at h
      by_cases c3 : p = y51
      · rw [if_pos c3] at h
        obtain ⟨y1, e1, h⟩ := letv_out h
        rw [a55] at e1
        by_cases c4 : s ≥ y1
        · rw [if_pos c4] at h
          refine ⟨n3, h, no.1, no.2, v11, Or.inr ⟨?_, a55⟩⟩
          rintro (e | e | ⟨e, f⟩)
          · exact q1 e
          · rw [e51] at e; exact c2 e
          · rw [e1] at f; exact f c4
        · rw [if_neg c4] at h
          obtain ⟨x, ex, h⟩ := letv_out h
          obtain ⟨a, b, c, d, e, f⟩ := tk x ex.symm
          exact ⟨x, h, a, b, c, Or.inl ⟨Or.inr (Or.inr ⟨by rw [e51]; exact c3, by rw [e1]; exact c4⟩), d, e, f⟩⟩
      · rw [if_neg c3] at h
        refine ⟨n3, h, no.1, no.2, v11, Or.inr ⟨?_, a55⟩⟩
        rintro (e | e | ⟨e, f⟩)
        · exact q1 e
        · rw [e51] at e; exact c2 e
        · rw [e51] at e; exact c3 e
theorem ax2_out {nu z : Nat → Nat → Int32} {s u p : Int32} (h : z = ax2 nu s u p) : ∃ nN : Nat → Nat → Int32, (∀ k : Nat, k ≠ 32 → nN k = nu k) ∧ (∀ f : Nat, f ≠ 14 → nN 32 f = nu 32 f) ∧ nN 32 14 = (if F_sx_needFor nu s p < nu 32 14 then F_sx_needFor nu s p else nu 32 14) ∧ ((F_sx_needFor nu s p ≤ nu 32 8 ∧ z = ax3 nN s u p) ∨ (¬ F_sx_needFor nu s p ≤ nu 32 8 ∧ z = nN)) := by
  unfold ax2 at h
  obtain ⟨r10, e10, h⟩ := letv_out h
  obtain ⟨y11, e11, h⟩ := letv_out h
  obtain ⟨t12, e12, h⟩ := letv_out h
  obtain ⟨n13, e13, h⟩ := letv_out h
  obtain ⟨y16, e16, h⟩ := letv_out h
  rw [uw_f e13 8 (by decide)] at e16
  refine ⟨n13, uw_k e13, uw_f e13, ?_, ?_⟩
  · rw [uw_v e13, ← e12, e10, e11]
  · rw [e10, e16]
    by_cases c : r10 ≤ y16
    · rw [if_pos c] at h
      exact Or.inl ⟨c, h⟩
    · rw [if_neg c] at h
      exact Or.inr ⟨c, h⟩
theorem ax3_out {nu z : Nat → Nat → Int32} {s u p : Int32} (h : z = ax3 nu s u p) : (∀ k : Nat, k ≠ 32 → k ≠ 56 → k ≠ 58 → z k = nu k) ∧ (∀ f : Nat, f ≠ 12 → f ≠ 13 → z 32 f = nu 32 f) ∧ z 32 12 = nu 32 12 + 1 ∧ z 32 13 = nu 32 13 &&& (u &&& (((1 : Int32) <<< (nu 32 5 &&& 31)) ^^^ (-1))) ∧ (((nu 56 3 = 0 ∨ s < nu 56 1 ∨ (s = nu 56 1 ∧ ¬ p ≥ nu 56 2)) ∧ z 56 3 = 1 ∧ z 56 1 = s ∧ z 56 2 = p) ∨ (¬ (nu 56 3 = 0 ∨ s < nu 56 1 ∨ (s = nu 56 1 ∧ ¬ p ≥ nu 56 2)) ∧ z 56 = nu 56)) := by
  unfold ax3 at h
  obtain ⟨y18, e18, h⟩ := letv_out h
  obtain ⟨t19, e19, h⟩ := letv_out h
  obtain ⟨n20, e20, h⟩ := letv_out h
  obtain ⟨y25, e25, h⟩ := letv_out h
  obtain ⟨y26, e26, h⟩ := letv_out h
  obtain ⟨t27, e27, h⟩ := letv_out h
  obtain ⟨t28, e28, h⟩ := letv_out h
  obtain ⟨t29, e29, h⟩ := letv_out h
  obtain ⟨t30, e30, h⟩ := letv_out h
  obtain ⟨n31, e31, h⟩ := letv_out h
  obtain ⟨y38, e38, h⟩ := letv_out h
  have a56 : n31 56 = nu 56 := (uw_k e31 56 (by decide)).trans (uw_k e20 56 (by decide))
  rw [a56] at e38
  have v12 : n31 32 12 = nu 32 12 + 1 := by rw [uw_f e31 12 (by decide), uw_v e20, ← e19, ← e18]
  have v13 : n31 32 13 = nu 32 13 &&& (u &&& (((1 : Int32) <<< (nu 32 5 &&& 31)) ^^^ (-1))) := by
    rw [uw_v e31, ← e30, ← e29, ← e28, ← e27, ← e26, ← e25, uw_f e20 13 (by decide), uw_f e20 5 (by decide)]
  have nk : ∀ k : Nat, k ≠ 32 → n31 k = nu k := fun k hk => (uw_k e31 k hk).trans (uw_k e20 k hk)
  have nf : ∀ f : Nat, f ≠ 12 → f ≠ 13 → n31 32 f = nu 32 f := fun f h1 h2 => (uw_f e31 f h2).trans (uw_f e20 f h1)
  have tk : ∀ xi : Nat → Nat → Int32, xi = F_sx_take56 n31 s p → (∀ k : Nat, k ≠ 32 → k ≠ 56 → k ≠ 58 → xi k = nu k) ∧ (∀ f : Nat, f ≠ 12 → f ≠ 13 → xi 32 f = nu 32 f) ∧ xi 32 12 = nu 32 12 + 1 ∧ xi 32 13 = nu 32 13 &&& (u &&& (((1 : Int32) <<< (nu 32 5 &&& 31)) ^^^ (-1))) ∧ xi 56 3 = 1 ∧ xi 56 1 = s ∧ xi 56 2 = p := fun xi hx => by
    obtain ⟨a, b, c, d⟩ := take56 hx
    refine ⟨fun k h1 h2 h3 => ?_, fun f h1 h2 => ?_, ?_, ?_, d, b, c⟩
    · rw [a k h2 h3]; exact nk k h1
    · rw [a 32 (by decide) (by decide)]; exact nf f h1 h2
    · rw [a 32 (by decide) (by decide)]; exact v12
    · rw [a 32 (by decide) (by decide)]; exact v13
  have no : (∀ k : Nat, k ≠ 32 → k ≠ 56 → k ≠ 58 → n31 k = nu k) := fun k h1 _ _ => nk k h1
  by_cases c1 : y38 = (0 : Int32)
  · rw [if_pos c1] at h
    obtain ⟨x, ex, h⟩ := letv_out h
    subst h
    obtain ⟨a, b, c, d, e, f, g⟩ := tk z ex.symm
    exact ⟨a, b, c, d, Or.inl ⟨Or.inl (e38.trans c1), e, f, g⟩⟩
  · rw [if_neg c1] at h
    have q1 : ¬ nu 56 3 = 0 := fun e => c1 (e38.symm.trans e)
    obtain ⟨y42, e42, h⟩ := letv_out h
    rw [a56] at e42
    by_cases c2 : s < y42
    · rw [if_pos c2] at h
      obtain ⟨x, ex, h⟩ := letv_out h
      subst h
      obtain ⟨a, b, c, d, e, f, g⟩ := tk z ex.symm
      exact ⟨a, b, c, d, Or.inl ⟨Or.inr (Or.inl (by rw [e42]; exact c2)), e, f, g⟩⟩
    · rw [if_neg c2] at h
      by_cases c3 : s = y42
      · rw [if_pos c3] at h
        obtain ⟨y47, e47, h⟩ := letv_out h
        rw [a56] at e47
        by_cases c4 : p ≥ y47
        · rw [if_pos c4] at h
          subst h
          refine ⟨no, nf, v12, v13, Or.inr ⟨?_, a56⟩⟩
          rintro (e | e | ⟨e, f⟩)
          · exact q1 e
          · rw [e42] at e; exact c2 e
          · rw [e47] at f; exact f c4
        · rw [if_neg c4] at h
          obtain ⟨x, ex, h⟩ := letv_out h
          subst h
          obtain ⟨a, b, c, d, e, f, g⟩ := tk z ex.symm
          exact ⟨a, b, c, d, Or.inl ⟨Or.inr (Or.inr ⟨by rw [e42]; exact c3, by rw [e47]; exact c4⟩), e, f, g⟩⟩
      · rw [if_neg c3] at h
        subst h
        refine ⟨no, nf, v12, v13, Or.inr ⟨?_, a56⟩⟩
        rintro (e | e | ⟨e, f⟩)
        · exact q1 e
        · rw [e42] at e; exact c2 e
        · rw [e42] at e; exact c3 e

-- ===== the reference's arrival in steps =====
def bm_137 (vn vs vp j4_91_63 : Int32) (nj137_115 : Nat → Nat → Int32) : Nat → Nat → Int32 :=
  LETV (nj137_115 0 39 : Int32) fun y22 =>
  LETV (nj137_115 0 33 : Int32) fun y23 =>
  LETV (nj137_115 0 35 : Int32) fun y24 =>
  LETV (F_sm_worthIn nj137_115 (y22 : Int32) (j4_91_63 : Int32) : Int32) fun r25 =>
  if r25 < vp then (
    nj137_115
  ) else (
    LETV (y23 + 1 : Int32) fun t30 =>
    LETV (va_up nj137_115 0 (upd (nj137_115 0) 33 t30) : Nat → Nat → Int32) fun nu31 =>
    LETV (nu31 0 36 : Int32) fun y36 =>
    LETV (y36 &&& vs : Int32) fun t37 =>
    LETV (va_up nu31 0 (upd (nu31 0) 36 t37) : Nat → Nat → Int32) fun nu38 =>
    if vn < y24 then (
      LETV (va_up nu38 0 (upd (nu38 0) 34 vp) : Nat → Nat → Int32) fun nu45 =>
      LETV (va_up nu45 0 (upd (nu45 0) 35 vn) : Nat → Nat → Int32) fun nu52 =>
      LETV (F_sm_copyRoute18 nu52 (vn : Int32) : Nat → Nat → Int32) fun xi59 =>
      xi59
    ) else (
      if vn = y24 then (
        LETV (nu38 0 34 : Int32) fun y73 =>
        if vp ≥ y73 then (
          nu38
        ) else (
          LETV (va_up nu38 0 (upd (nu38 0) 34 vp) : Nat → Nat → Int32) fun nu78 =>
          LETV (va_up nu78 0 (upd (nu78 0) 35 vn) : Nat → Nat → Int32) fun nu85 =>
          LETV (F_sm_copyRoute18 nu85 (vn : Int32) : Nat → Nat → Int32) fun xi92 =>
          xi92
        )
      ) else (
        nu38
      )
    )
  )
def bm_115 (vn vs vp j4_91_63 j5_115_91 : Int32) (nj115_91 : Nat → Nat → Int32) : Nat → Nat → Int32 :=
  LETV (nj115_91 0 39 : Int32) fun y19 =>
  LETV (nj115_91 0 33 : Int32) fun y20 =>
  LETV (nj115_91 0 35 : Int32) fun y21 =>
  LETV (bm_137 vn vs vp j4_91_63) fun jk137_115 =>
  LETV (nj115_91 0 37 : Int32) fun y102 =>
  if j5_115_91 ≥ y102 then (
    LETV (va_up nj115_91 0 (upd (nj115_91 0) 37 y102) : Nat → Nat → Int32) fun nu104 =>
    jk137_115 (nu104 : Nat → Nat → Int32)
  ) else (
    LETV (va_up nj115_91 0 (upd (nj115_91 0) 37 j5_115_91) : Nat → Nat → Int32) fun nu114 =>
    jk137_115 (nu114 : Nat → Nat → Int32)
  )
def bm_91 (vn vs vp j4_91_63 : Int32) (nj91_63 : Nat → Nat → Int32) : Nat → Nat → Int32 :=
  LETV (nj91_63 0 39 : Int32) fun y16 =>
  LETV (nj91_63 0 33 : Int32) fun y17 =>
  LETV (nj91_63 0 35 : Int32) fun y18 =>
  LETV (bm_115 vn vs vp j4_91_63) fun jk115_91 =>
  if vp = (0 : Int32) then (
    jk115_91 (0 : Int32) (nj91_63 : Nat → Nat → Int32)
  ) else (
    LETV (F_sm_letterOf nj91_63 (y16 : Int32) (3 : Int32) : Int32) fun r125 =>
    LETV (r125 * j4_91_63 : Int32) fun t126 =>
    LETV (vp + t126 : Int32) fun t127 =>
    jk115_91 (t127 : Int32) (nj91_63 : Nat → Nat → Int32)
  )
def bm_53 (vn vs vp : Int32) (nj53_10 : Nat → Nat → Int32) : Nat → Nat → Int32 :=
  LETV (nj53_10 0 39 : Int32) fun y12 =>
  LETV (nj53_10 0 33 : Int32) fun y13 =>
  LETV (nj53_10 0 35 : Int32) fun y14 =>
  if y12 = ((-9) : Int32) then (
    nj53_10
  ) else (
    LETV (bm_91 vn vs vp) fun jk91_63 =>
    LETV (vn - 2 : Int32) fun t136 =>
    LETV (F_sm_letterOf nj53_10 (y12 : Int32) (8 : Int32) : Int32) fun r137 =>
    LETV (nj53_10 0 14 : Int32) fun y138 =>
    if r137 = y138 then (
      LETV (t136 + 1 : Int32) fun t145 =>
      jk91_63 (t145 : Int32) (nj53_10 : Nat → Nat → Int32)
    ) else (
      LETV (t136 + 0 : Int32) fun t140 =>
      jk91_63 (t140 : Int32) (nj53_10 : Nat → Nat → Int32)
    )
  )
def bm_0 (mu : Nat → Nat → Int32) (vn vs vp : Int32) : Nat → Nat → Int32 :=
  LETV (mu 0 39 : Int32) fun y1 =>
  LETV (mu 0 33 : Int32) fun y2 =>
  LETV (mu 0 35 : Int32) fun y3 =>
  LETV (mu 0 30 : Int32) fun y4 =>
  LETV (y4 + 1 : Int32) fun t5 =>
  LETV (va_up mu 0 (upd (mu 0) 30 t5) : Nat → Nat → Int32) fun nu6 =>
  LETV (bm_53 vn vs vp) fun jk53_10 =>
  LETV (nu6 0 31 : Int32) fun y153 =>
  if vp < y153 then (
    LETV (va_up nu6 0 (upd (nu6 0) 31 vp) : Nat → Nat → Int32) fun nu155 =>
    LETV (va_up nu155 0 (upd (nu155 0) 32 vn) : Nat → Nat → Int32) fun nu162 =>
    LETV (F_sm_copyRoute17 nu162 (vn : Int32) : Nat → Nat → Int32) fun xi170 =>
    jk53_10 (xi170 : Nat → Nat → Int32)
  ) else (
    if vp = y153 then (
      LETV (nu6 0 32 : Int32) fun y185 =>
      if vn ≥ y185 then (
        jk53_10 (nu6 : Nat → Nat → Int32)
      ) else (
        LETV (va_up nu6 0 (upd (nu6 0) 31 vp) : Nat → Nat → Int32) fun nu190 =>
        LETV (va_up nu190 0 (upd (nu190 0) 32 vn) : Nat → Nat → Int32) fun nu198 =>
        LETV (F_sm_copyRoute17 nu198 (vn : Int32) : Nat → Nat → Int32) fun xi206 =>
        jk53_10 (xi206 : Nat → Nat → Int32)
      )
    ) else (
      jk53_10 (nu6 : Nat → Nat → Int32)
    )
  )
theorem bm_eq (mu : Nat → Nat → Int32) (vn vs vp : Int32) : F_sm_meetRoute mu vn vs vp = bm_0 mu vn vs vp := rfl
theorem bm137_out {nu z : Nat → Nat → Int32} {n q p L : Int32} (h : z = bm_137 n q p L nu) : (F_sm_worthIn nu (nu 0 39) L < p ∧ z = nu) ∨ (¬ F_sm_worthIn nu (nu 0 39) L < p ∧ (∀ k : Nat, k ≠ 0 → k ≠ 18 → z k = nu k) ∧ (∀ f : Nat, f ≠ 33 → f ≠ 34 → f ≠ 35 → f ≠ 36 → z 0 f = nu 0 f) ∧ z 0 33 = nu 0 33 + 1 ∧ z 0 36 = nu 0 36 &&& q ∧ (((n < nu 0 35 ∨ (n = nu 0 35 ∧ ¬ p ≥ nu 0 34)) ∧ z 0 34 = p ∧ z 0 35 = n) ∨ (¬ (n < nu 0 35 ∨ (n = nu 0 35 ∧ ¬ p ≥ nu 0 34)) ∧ z 0 34 = nu 0 34 ∧ z 0 35 = nu 0 35))) := by
  unfold bm_137 at h
  obtain ⟨y22, e22, h⟩ := letv_out h
  obtain ⟨y23, e23, h⟩ := letv_out h
  obtain ⟨y24, e24, h⟩ := letv_out h
  obtain ⟨r25, e25, h⟩ := letv_out h
  rw [← e22] at e25
  rw [e25]
  by_cases c0 : r25 < p
  · rw [if_pos c0] at h
    exact Or.inl ⟨c0, h⟩
  · rw [if_neg c0] at h
    refine Or.inr ⟨c0, ?_⟩
    obtain ⟨t30, e30, h⟩ := letv_out h
    obtain ⟨n31, e31, h⟩ := letv_out h
    obtain ⟨y36, e36, h⟩ := letv_out h
    obtain ⟨t37, e37, h⟩ := letv_out h
    obtain ⟨n38, e38, h⟩ := letv_out h
    have v33 : n38 0 33 = nu 0 33 + 1 := by rw [uw_f e38 33 (by decide), uw_v e31, ← e30, ← e23]
    have v36 : n38 0 36 = nu 0 36 &&& q := by rw [uw_v e38, ← e37, ← e36, uw_f e31 36 (by decide)]
    have nk : ∀ k : Nat, k ≠ 0 → n38 k = nu k := fun k hk => (uw_k e38 k hk).trans (uw_k e31 k hk)
    have nf : ∀ f : Nat, f ≠ 33 → f ≠ 36 → n38 0 f = nu 0 f := fun f h1 h2 => (uw_f e38 f h2).trans (uw_f e31 f h1)
    have tk : ∀ n45 n52 xi : Nat → Nat → Int32, va_up n38 0 (upd (n38 0) 34 p) = n45 → va_up n45 0 (upd (n45 0) 35 n) = n52 → F_sm_copyRoute18 n52 n = xi → (∀ k : Nat, k ≠ 0 → k ≠ 18 → xi k = nu k) ∧ (∀ f : Nat, f ≠ 33 → f ≠ 34 → f ≠ 35 → f ≠ 36 → xi 0 f = nu 0 f) ∧ xi 0 33 = nu 0 33 + 1 ∧ xi 0 36 = nu 0 36 &&& q ∧ xi 0 34 = p ∧ xi 0 35 = n := fun n45 n52 xi e45 e52 ex => by
      have cp : ∀ k : Nat, k ≠ 18 → xi k = n52 k := fun k hk => by rw [← ex]; exact copy18 10 0 n52 k hk
      have c0 := cp 0 (by decide)
      refine ⟨fun k h1 h2 => ?_, fun f h1 h2 h3 h4 => ?_, ?_, ?_, ?_, ?_⟩
      · rw [cp k h2, uw_k e52 k h1, uw_k e45 k h1]; exact nk k h1
      · rw [c0, uw_f e52 f h3, uw_f e45 f h2]; exact nf f h1 h4
      · rw [c0, uw_f e52 33 (by decide), uw_f e45 33 (by decide)]; exact v33
      · rw [c0, uw_f e52 36 (by decide), uw_f e45 36 (by decide)]; exact v36
      · rw [c0, uw_f e52 34 (by decide)]; exact uw_v e45
      · rw [c0]; exact uw_v e52
    have no : (∀ k : Nat, k ≠ 0 → k ≠ 18 → n38 k = nu k) ∧ (∀ f : Nat, f ≠ 33 → f ≠ 34 → f ≠ 35 → f ≠ 36 → n38 0 f = nu 0 f) := ⟨fun k h1 _ => nk k h1, fun f h1 _ _ h4 => nf f h1 h4⟩
    have v34 : n38 0 34 = nu 0 34 := nf 34 (by decide) (by decide)
    have v35 : n38 0 35 = nu 0 35 := nf 35 (by decide) (by decide)
    by_cases c1 : n < y24
    · rw [if_pos c1] at h
      obtain ⟨n45, e45, h⟩ := letv_out h
      obtain ⟨n52, e52, h⟩ := letv_out h
      obtain ⟨x, ex, h⟩ := letv_out h
      rw [h]
      obtain ⟨a, b, c, d, e, f⟩ := tk n45 n52 x e45 e52 ex
      exact ⟨a, b, c, d, Or.inl ⟨Or.inl (by rw [e24]; exact c1), e, f⟩⟩
    · rw [if_neg c1] at h
      by_cases c2 : n = y24
      · rw [if_pos c2] at h
        obtain ⟨y73, e73, h⟩ := letv_out h
        rw [v34] at e73
        by_cases c3 : p ≥ y73
        · rw [if_pos c3] at h
          rw [h]
          refine ⟨no.1, no.2, v33, v36, Or.inr ⟨?_, v34, v35⟩⟩
          rintro (e | ⟨e, f⟩)
          · rw [e24] at e; exact c1 e
          · rw [e73] at f; exact f c3
        · rw [if_neg c3] at h
          obtain ⟨n45, e45, h⟩ := letv_out h
          obtain ⟨n52, e52, h⟩ := letv_out h
          obtain ⟨x, ex, h⟩ := letv_out h
          rw [h]
          obtain ⟨a, b, c, d, e, f⟩ := tk n45 n52 x e45 e52 ex
          exact ⟨a, b, c, d, Or.inl ⟨Or.inr ⟨by rw [e24]; exact c2, by rw [e73]; exact c3⟩, e, f⟩⟩
      · rw [if_neg c2] at h
        rw [h]
        refine ⟨no.1, no.2, v33, v36, Or.inr ⟨?_, v34, v35⟩⟩
        rintro (e | ⟨e, f⟩)
        · rw [e24] at e; exact c1 e
        · rw [e24] at e; exact c2 e
theorem bm115_out {nu z : Nat → Nat → Int32} {n q p L w : Int32} (h : z = bm_115 n q p L w nu) : ∃ nN : Nat → Nat → Int32, (∀ k : Nat, k ≠ 0 → nN k = nu k) ∧ (∀ f : Nat, f ≠ 37 → nN 0 f = nu 0 f) ∧ nN 0 37 = (if w ≥ nu 0 37 then nu 0 37 else w) ∧ z = bm_137 n q p L nN := by
  unfold bm_115 at h
  obtain ⟨y19, e19, h⟩ := letv_out h
  obtain ⟨y20, e20, h⟩ := letv_out h
  obtain ⟨y21, e21, h⟩ := letv_out h
  obtain ⟨jk, ej, h⟩ := letv_out h
  obtain ⟨y102, e102, h⟩ := letv_out h
  rw [← ej] at h
  rw [e102]
  by_cases c : w ≥ y102
  · rw [if_pos c] at h
    obtain ⟨n4, e4, h⟩ := letv_out h
    refine ⟨n4, uw_k e4, uw_f e4, ?_, h⟩
    rw [if_pos c]
    exact uw_v e4
  · rw [if_neg c] at h
    obtain ⟨n4, e4, h⟩ := letv_out h
    refine ⟨n4, uw_k e4, uw_f e4, ?_, h⟩
    rw [if_neg c]
    exact uw_v e4
def needM (nu : Nat → Nat → Int32) (p L : Int32) : Int32 := if p = 0 then 0 else p + F_sm_letterOf nu (nu 0 39) 3 * L
theorem bm91_out {nu z : Nat → Nat → Int32} {n q p L : Int32} (h : z = bm_91 n q p L nu) : z = bm_115 n q p L (needM nu p L) nu := by
  unfold bm_91 at h
  obtain ⟨y16, e16, h⟩ := letv_out h
  obtain ⟨y17, e17, h⟩ := letv_out h
  obtain ⟨y18, e18, h⟩ := letv_out h
  obtain ⟨jk, ej, h⟩ := letv_out h
  rw [← ej] at h
  unfold needM
  by_cases c : p = (0 : Int32)
  · rw [if_pos c] at h
    rw [if_pos c]
    exact h
  · rw [if_neg c] at h
    rw [if_neg c]
    obtain ⟨r1, e1, h⟩ := letv_out h
    obtain ⟨t2, e2, h⟩ := letv_out h
    obtain ⟨t3, e3, h⟩ := letv_out h
    rw [h, ← e3, ← e2, ← e1, ← e16]
def lastM (nu : Nat → Nat → Int32) (n : Int32) : Int32 := if F_sm_letterOf nu (nu 0 39) 8 = nu 0 14 then n - 2 + 1 else n - 2 + 0
theorem bm53_out {nu z : Nat → Nat → Int32} {n q p : Int32} (h : z = bm_53 n q p nu) : (nu 0 39 = -9 ∧ z = nu) ∨ (¬ nu 0 39 = -9 ∧ z = bm_91 n q p (lastM nu n) nu) := by
  unfold bm_53 at h
  obtain ⟨y12, e12, h⟩ := letv_out h
  obtain ⟨y13, e13, h⟩ := letv_out h
  obtain ⟨y14, e14, h⟩ := letv_out h
  rw [e12]
  by_cases c : y12 = ((-9) : Int32)
  · rw [if_pos c] at h
    exact Or.inl ⟨c, h⟩
  · rw [if_neg c] at h
    refine Or.inr ⟨c, ?_⟩
    obtain ⟨jk, ej, h⟩ := letv_out h
    rw [← ej] at h
    obtain ⟨t1, e1, h⟩ := letv_out h
    obtain ⟨r2, e2, h⟩ := letv_out h
    obtain ⟨y3, e3, h⟩ := letv_out h
    unfold lastM
    rw [e12, e2, e3, e1]
    by_cases c2 : r2 = y3
    · rw [if_pos c2] at h
      rw [if_pos c2]
      obtain ⟨t4, e4, h⟩ := letv_out h
      rw [h, ← e4]
    · rw [if_neg c2] at h
      rw [if_neg c2]
      obtain ⟨t4, e4, h⟩ := letv_out h
      rw [h, ← e4]
theorem bm0_out {nu z : Nat → Nat → Int32} {n q p : Int32} (h : z = F_sm_meetRoute nu n q p) : ∃ nC : Nat → Nat → Int32, z = bm_53 n q p nC ∧ (∀ k : Nat, k ≠ 0 → k ≠ 17 → nC k = nu k) ∧ (∀ f : Nat, f ≠ 30 → f ≠ 31 → f ≠ 32 → nC 0 f = nu 0 f) ∧ nC 0 30 = nu 0 30 + 1 ∧ (((p < nu 0 31 ∨ (p = nu 0 31 ∧ ¬ n ≥ nu 0 32)) ∧ nC 0 31 = p ∧ nC 0 32 = n) ∨ (¬ (p < nu 0 31 ∨ (p = nu 0 31 ∧ ¬ n ≥ nu 0 32)) ∧ nC 0 31 = nu 0 31 ∧ nC 0 32 = nu 0 32)) := by
  rw [bm_eq] at h
  unfold bm_0 at h
  obtain ⟨y1, e1, h⟩ := letv_out h
  obtain ⟨y2, e2, h⟩ := letv_out h
  obtain ⟨y3, e3, h⟩ := letv_out h
  obtain ⟨y4, e4, h⟩ := letv_out h
  obtain ⟨t5, e5, h⟩ := letv_out h
  obtain ⟨n6, e6, h⟩ := letv_out h
  obtain ⟨jk, ej, h⟩ := letv_out h
  rw [← ej] at h
  obtain ⟨y153, e153, h⟩ := letv_out h
  have v31 : n6 0 31 = nu 0 31 := uw_f e6 31 (by decide)
  have v32 : n6 0 32 = nu 0 32 := uw_f e6 32 (by decide)
  have v30 : n6 0 30 = nu 0 30 + 1 := by rw [uw_v e6, ← e5, ← e4]
  rw [v31] at e153
  have tk : ∀ n45 n52 xi : Nat → Nat → Int32, va_up n6 0 (upd (n6 0) 31 p) = n45 → va_up n45 0 (upd (n45 0) 32 n) = n52 → F_sm_copyRoute17 n52 n = xi → (∀ k : Nat, k ≠ 0 → k ≠ 17 → xi k = nu k) ∧ (∀ f : Nat, f ≠ 30 → f ≠ 31 → f ≠ 32 → xi 0 f = nu 0 f) ∧ xi 0 30 = nu 0 30 + 1 ∧ xi 0 31 = p ∧ xi 0 32 = n := fun n45 n52 xi e45 e52 ex => by
    have cp : ∀ k : Nat, k ≠ 17 → xi k = n52 k := fun k hk => by rw [← ex]; exact copy17 10 0 n52 k hk
    have c0 := cp 0 (by decide)
    refine ⟨fun k h1 h2 => ?_, fun f h1 h2 h3 => ?_, ?_, ?_, ?_⟩
    · rw [cp k h2, uw_k e52 k h1, uw_k e45 k h1]; exact uw_k e6 k h1
    · rw [c0, uw_f e52 f h3, uw_f e45 f h2]; exact uw_f e6 f h1
    · rw [c0, uw_f e52 30 (by decide), uw_f e45 30 (by decide)]; exact v30
    · rw [c0, uw_f e52 31 (by decide)]; exact uw_v e45
    · rw [c0]; exact uw_v e52
  have no : (∀ k : Nat, k ≠ 0 → k ≠ 17 → n6 k = nu k) ∧ (∀ f : Nat, f ≠ 30 → f ≠ 31 → f ≠ 32 → n6 0 f = nu 0 f) := ⟨fun k h1 _ => uw_k e6 k h1, fun f h1 _ _ => uw_f e6 f h1⟩
  by_cases c1 : p < y153
  · rw [if_pos c1] at h
    obtain ⟨n45, e45, h⟩ := letv_out h
    obtain ⟨n52, e52, h⟩ := letv_out h
    obtain ⟨x, ex, h⟩ := letv_out h
    obtain ⟨a, b, c, d, e⟩ := tk n45 n52 x e45 e52 ex
    exact ⟨x, h, a, b, c, Or.inl ⟨Or.inl (by rw [e153]; exact c1), d, e⟩⟩
  · rw [if_neg c1] at h
    by_cases c2 : p = y153
    · rw [if_pos c2] at h
      obtain ⟨y185, e185, h⟩ := letv_out h
      rw [v32] at e185
      by_cases c3 : n ≥ y185
      · rw [if_pos c3] at h
        refine ⟨n6, h, no.1, no.2, v30, Or.inr ⟨?_, v31, v32⟩⟩
        rintro (e | ⟨e, f⟩)
        · rw [e153] at e; exact c1 e
        · rw [e185] at f; exact f c3
      · rw [if_neg c3] at h
        obtain ⟨n45, e45, h⟩ := letv_out h
        obtain ⟨n52, e52, h⟩ := letv_out h
        obtain ⟨x, ex, h⟩ := letv_out h
        obtain ⟨a, b, c, d, e⟩ := tk n45 n52 x e45 e52 ex
        exact ⟨x, h, a, b, c, Or.inl ⟨Or.inr ⟨by rw [e153]; exact c2, by rw [e185]; exact c3⟩, d, e⟩⟩
    · rw [if_neg c2] at h
      refine ⟨n6, h, no.1, no.2, v30, Or.inr ⟨?_, v31, v32⟩⟩
      rintro (e | ⟨e, f⟩)
      · rw [e153] at e; exact c1 e
      · rw [e153] at e; exact c2 e


-- ===== routes: what is alike on both sides, and that an arrival keeps it =====
def rC (c : Int) (nux num : Nat → Nat → Int32) : Prop := nux 32 11 = num 0 30 ∧ (0 ≤ (num 0 30).toInt ∧ (num 0 30).toInt ≤ c) ∧ ((nux 55 3 = 0 ∧ num 0 30 = 0 ∧ num 0 31 = 1048576) ∨ (¬ nux 55 3 = 0 ∧ ¬ num 0 30 = 0 ∧ nux 55 2 = num 0 31 ∧ (nux 55 1).toInt + 1 = (num 0 32).toInt ∧ (0 ≤ (num 0 31).toInt ∧ (num 0 31).toInt < 1048576)))
def rS (c : Int) (nux num : Nat → Nat → Int32) : Prop := ((num 0 30 = 0 ∧ nux 32 14 = 2147483647 ∧ num 0 37 = 1048576) ∨ (¬ num 0 30 = 0 ∧ nux 32 14 = num 0 37 ∧ (0 ≤ (num 0 37).toInt ∧ (num 0 37).toInt < 1048576))) ∧ nux 32 12 = num 0 33 ∧ (0 ≤ (num 0 33).toInt ∧ (num 0 33).toInt ≤ c) ∧ ((num 0 33 = 0 ∧ nux 56 3 = 0 ∧ num 0 35 = 1048576 ∧ nux 32 13 = -1 ∧ num 0 36 = 127) ∨ (¬ num 0 33 = 0 ∧ ¬ nux 56 3 = 0 ∧ (nux 56 1).toInt + 1 = (num 0 35).toInt ∧ nux 56 2 = num 0 34 ∧ nux 32 13 = num 0 36))
def rel (c : Int) (nux num : Nat → Nat → Int32) : Prop := rC c nux num ∧ (¬ num 0 39 = -9 → rS c nux num)
def letP (nux num : Nat → Nat → Int32) : Prop := ∃ W0 : Int, W0 ≤ 3000 ∧ ((0 ≤ W0 ∧ (nux 32 8).toInt = W0) ∨ (W0 < 0 ∧ (nux 32 8).toInt = 0)) ∧ (0 ≤ (nux 32 9).toInt ∧ (nux 32 9).toInt ≤ 9) ∧ F_sm_letterOf num (num 0 39) 3 = nux 32 9 ∧ nux 32 10 = (if F_sm_letterOf num (num 0 39) 8 = num 0 14 then 1 else 0) ∧ ∀ L : Int32, 0 ≤ L.toInt → L.toInt ≤ 7 → ((0 ≤ W0 - (nux 32 9).toInt * L.toInt ∧ (F_sm_worthIn num (num 0 39) L).toInt = W0 - (nux 32 9).toInt * L.toInt) ∨ (W0 - (nux 32 9).toInt * L.toInt < 0 ∧ (F_sm_worthIn num (num 0 39) L).toInt = 0))
def stR (T : Int) (nux num : Nat → Nat → Int32) : Prop := nux 4 6 = num 0 8 ∧ (0 ≤ (num 0 8).toInt ∧ (num 0 8).toInt ≤ 7) ∧ (∀ x : Nat, x < (num 0 8).toNatClampNeg → nux 34 x = num 7 x ∧ nux 52 x = F_sm_besideOf num (nI x) ∧ nux 53 x = num 8 x ∧ 0 ≤ (num 8 x).toInt ∧ (num 8 x).toInt ≤ T) ∧ nux 32 6 = num 0 29 ∧ ¬ num 0 38 = 0 ∧ nux 32 5 = num 16 0 ∧ (0 ≤ (num 16 0).toInt ∧ (num 16 0).toInt < (num 0 8).toInt) ∧ (num 0 39 = -9 ∨ (¬ num 0 39 = -9 ∧ letP nux num))
theorem rC_le {c d : Int} {nux num : Nat → Nat → Int32} (h : rC c nux num) (hd : c ≤ d) : rC d nux num := ⟨h.1, ⟨h.2.1.1, Int.le_trans h.2.1.2 hd⟩, h.2.2⟩
theorem rS_le {c d : Int} {nux num : Nat → Nat → Int32} (h : rS c nux num) (hd : c ≤ d) : rS d nux num := ⟨h.1, h.2.1, ⟨h.2.2.1.1, Int.le_trans h.2.2.1.2 hd⟩, h.2.2.2⟩
theorem rel_le {c d : Int} {nux num : Nat → Nat → Int32} (h : rel c nux num) (hd : c ≤ d) : rel d nux num := ⟨rC_le h.1 hd, fun e => rS_le (h.2 e) hd⟩
theorem inc_of {v : Int32} {c : Int} (h0 : 0 ≤ v.toInt) (h1 : v.toInt ≤ c) (hc : c ≤ 1000000) : (v + 1).toInt = v.toInt + 1 ∧ ¬ v + 1 = 0 := by
  have e : (v + 1).toInt = v.toInt + 1 := vp1 (by omega)
  refine ⟨e, fun h => ?_⟩
  rw [h] at e
  have z : (0 : Int32).toInt = 0 := rfl
  omega
theorem rC_arr {c : Int} {nux num nC mC : Nat → Nat → Int32} {s n p : Int32} (hc : c ≤ 1000000) (h : rC c nux num) (hs : 1 ≤ s.toInt ∧ s.toInt ≤ 6) (hn : n.toInt = s.toInt + 1) (hp : 0 ≤ p.toInt ∧ p.toInt ≤ 1000000)
    (a1 : nC 32 11 = nux 32 11 + 1) (a2 : ((nux 55 3 = 0 ∨ p < nux 55 2 ∨ (p = nux 55 2 ∧ ¬ s ≥ nux 55 1)) ∧ nC 55 3 = 1 ∧ nC 55 1 = s ∧ nC 55 2 = p) ∨ (¬ (nux 55 3 = 0 ∨ p < nux 55 2 ∨ (p = nux 55 2 ∧ ¬ s ≥ nux 55 1)) ∧ nC 55 = nux 55))
    (b1 : mC 0 30 = num 0 30 + 1) (b2 : ((p < num 0 31 ∨ (p = num 0 31 ∧ ¬ n ≥ num 0 32)) ∧ mC 0 31 = p ∧ mC 0 32 = n) ∨ (¬ (p < num 0 31 ∨ (p = num 0 31 ∧ ¬ n ≥ num 0 32)) ∧ mC 0 31 = num 0 31 ∧ mC 0 32 = num 0 32)) : rC (c + 1) nC mC := by
  obtain ⟨h1, h2, h3⟩ := h
  obtain ⟨i1, i2⟩ := inc_of h2.1 h2.2 hc
  have taken : nC 55 3 = 1 → nC 55 1 = s → nC 55 2 = p → mC 0 31 = p → mC 0 32 = n → rC (c + 1) nC mC := fun q1 q2 q3 q4 q5 => by
    refine ⟨by rw [a1, b1, h1], by rw [b1, i1]; omega, Or.inr ⟨by rw [q1]; decide, by rw [b1]; exact i2, by rw [q3, q4], by rw [q2, q5, hn], by rw [q4]; omega⟩⟩
  rcases h3 with ⟨c1, c2, c3⟩ | ⟨c1, c2, c3, c4, c5⟩
  · have m : (1048576 : Int32).toInt = 1048576 := rfl
    have tm : p < num 0 31 := by rw [c3]; exact vv_lt.mpr (by omega)
    rcases a2 with ⟨_, q1, q2, q3⟩ | ⟨w, _⟩
    · rcases b2 with ⟨_, q4, q5⟩ | ⟨w, _⟩
      · exact taken q1 q2 q3 q4 q5
      · exact absurd (Or.inl tm) w
    · exact absurd (Or.inl c1) w
  · have key : (nux 55 3 = 0 ∨ p < nux 55 2 ∨ (p = nux 55 2 ∧ ¬ s ≥ nux 55 1)) ↔ (p < num 0 31 ∨ (p = num 0 31 ∧ ¬ n ≥ num 0 32)) := by
      rw [c3]
      constructor
      · rintro (e | e | ⟨e, f⟩)
        · exact absurd e c1
        · exact Or.inl e
        · exact Or.inr ⟨e, fun g => f (vv_ge.mpr (by have := vv_ge.mp g; omega))⟩
      · rintro (e | ⟨e, f⟩)
        · exact Or.inr (Or.inl e)
        · exact Or.inr (Or.inr ⟨e, fun g => f (vv_ge.mpr (by have := vv_ge.mp g; omega))⟩)
    rcases a2 with ⟨w, q1, q2, q3⟩ | ⟨w, q1⟩
    · rcases b2 with ⟨_, q4, q5⟩ | ⟨w2, _⟩
      · exact taken q1 q2 q3 q4 q5
      · exact absurd (key.mp w) w2
    · rcases b2 with ⟨w2, _⟩ | ⟨_, q4, q5⟩
      · exact absurd (key.mpr w2) w
      · exact ⟨by rw [a1, b1, h1], by rw [b1, i1]; omega, Or.inr ⟨by rw [q1]; exact c1, by rw [b1]; exact i2, by rw [q1, q4]; exact c3, by rw [q1, q5]; exact c4, by rw [q4]; exact c5⟩⟩
theorem and_m1 (v : Int32) : (-1 : Int32) &&& v = v := b_ext (fun i hi => by rw [b_and, b_m1 i hi, Bool.true_and])
theorem and_127 {v : Int32} (h : ∀ j : Nat, j < 32 → bt v j = true → j < 7) : (127 : Int32) &&& v = v := b_ext (fun i hi => by
  rw [b_and, b_127 i hi]
  cases e : bt v i with
  | false => simp
  | true =>
    have := h i hi e
    simp [this])
theorem needX_eq {nux : Nat → Nat → Int32} {s p : Int32} : F_sx_needFor nux s p = if p = 0 then 0 else p + nux 32 9 * (nux 32 10 + s - 1) := by
  simp only [F_sx_needFor, letv_eq]
theorem last_eq {nux num : Nat → Nat → Int32} {s n : Int32} (hs : 1 ≤ s.toInt ∧ s.toInt ≤ 6) (hn : n.toInt = s.toInt + 1) (hd : nux 32 10 = (if F_sm_letterOf num (num 0 39) 8 = num 0 14 then 1 else 0)) : nux 32 10 + s - 1 = lastM num n ∧ 0 ≤ (lastM num n).toInt ∧ (lastM num n).toInt ≤ 6 := by
  have o : (1 : Int32).toInt = 1 := rfl
  have z : (0 : Int32).toInt = 0 := rfl
  have t : (2 : Int32).toInt = 2 := rfl
  have e2 : (n - 2).toInt = n.toInt - 2 := tI_sub rfl t (by omega) (by omega)
  unfold lastM
  rw [hd]
  by_cases c : F_sm_letterOf num (num 0 39) 8 = num 0 14
  · rw [if_pos c, if_pos c]
    have e1 : ((1 : Int32) + s).toInt = 1 + s.toInt := tI_add o rfl (by omega) (by omega)
    have e3 : ((1 : Int32) + s - 1).toInt = 1 + s.toInt - 1 := tI_sub e1 o (by omega) (by omega)
    have e4 : (n - 2 + 1).toInt = n.toInt - 2 + 1 := tI_add e2 o (by omega) (by omega)
    exact ⟨Int32.toInt_inj.mp (by omega), by omega, by omega⟩
  · rw [if_neg c, if_neg c]
    have e1 : ((0 : Int32) + s).toInt = 0 + s.toInt := tI_add z rfl (by omega) (by omega)
    have e3 : ((0 : Int32) + s - 1).toInt = 0 + s.toInt - 1 := tI_sub e1 o (by omega) (by omega)
    have e4 : (n - 2 + 0).toInt = n.toInt - 2 + 0 := tI_add e2 z (by omega) (by omega)
    exact ⟨Int32.toInt_inj.mp (by omega), by omega, by omega⟩
/-- what is needed, on both sides; and that it comes -/
theorem need_eq {nux num : Nat → Nat → Int32} {s n p : Int32} (hL : letP nux num) (hs : 1 ≤ s.toInt ∧ s.toInt ≤ 6) (hn : n.toInt = s.toInt + 1) (hp : 0 ≤ p.toInt ∧ p.toInt ≤ 1000000) : F_sx_needFor nux s p = needM num p (lastM num n) ∧ (0 ≤ (needM num p (lastM num n)).toInt ∧ (needM num p (lastM num n)).toInt < 1048576) ∧ (F_sx_needFor nux s p ≤ nux 32 8 ↔ ¬ F_sm_worthIn num (num 0 39) (lastM num n) < p) := by
  obtain ⟨W0, hW, h8, h9, l3, l10, hw⟩ := hL
  obtain ⟨e1, e2, e3⟩ := last_eq hs hn l10
  have z : (0 : Int32).toInt = 0 := rfl
  have hwL := hw (lastM num n) e2 (by omega)
  have m0 : 0 ≤ (nux 32 9).toInt * (lastM num n).toInt := Int.mul_nonneg h9.1 e2
  have m1 : (nux 32 9).toInt * (lastM num n).toInt ≤ 9 * 6 := Int.mul_le_mul h9.2 e3 e2 (by decide)
  have em : (nux 32 9 * lastM num n).toInt = (nux 32 9).toInt * (lastM num n).toInt := tI_mul rfl rfl (by omega) (by omega)
  have q : F_sx_needFor nux s p = needM num p (lastM num n) := by
    rw [needX_eq, e1]
    unfold needM
    rw [l3]
  refine ⟨q, ?_, ?_⟩
  · unfold needM
    by_cases c : p = 0
    · rw [if_pos c]
      decide
    · rw [if_neg c, l3]
      have ea : (p + nux 32 9 * lastM num n).toInt = p.toInt + (nux 32 9).toInt * (lastM num n).toInt := tI_add rfl em (by omega) (by omega)
      rw [ea]
      omega
  · rw [q]
    unfold needM
    by_cases c : p = 0
    · rw [if_pos c, c]
      constructor
      · intro _ g
        have := vv_lt.mp g
        omega
      · intro _
        exact vv_le.mpr (by omega)
    · have cz : ¬ p.toInt = 0 := fun e => c (Int32.toInt_inj.mp (by rw [e]; rfl))
      rw [if_neg c, l3]
      have ea : (p + nux 32 9 * lastM num n).toInt = p.toInt + (nux 32 9).toInt * (lastM num n).toInt := tI_add rfl em (by omega) (by omega)
      constructor
      · intro g1 g2
        have := vv_le.mp g1
        have := vv_lt.mp g2
        omega
      · intro g1
        have g2 : ¬ (F_sm_worthIn num (num 0 39) (lastM num n)).toInt < p.toInt := fun e => g1 (vv_lt.mpr e)
        exact vv_le.mpr (by omega)
theorem lof_congr {a b : Nat → Nat → Int32} {k w : Int32} (h : b 10 = a 10) : F_sm_letterOf b k w = F_sm_letterOf a k w := by
  simp only [F_sm_letterOf, letv_eq]
  rw [h]
theorem win_congr {a b : Nat → Nat → Int32} {k L : Int32} (h : b 10 = a 10) (h14 : b 0 14 = a 0 14) : F_sm_worthIn b k L = F_sm_worthIn a k L := by
  simp only [F_sm_worthIn, letv_eq]
  rw [lof_congr h, lof_congr h, lof_congr h, h14]
theorem bes_congr {a b : Nat → Nat → Int32} {x : Int32} (h9 : b 9 = a 9) (h11 : b 0 11 = a 0 11) (h13 : b 0 13 = a 0 13) : ∀ (n : Nat) (v i : Int32), L_sm_besideOf_4_0 b x n v i = L_sm_besideOf_4_0 a x n v i := by
  intro n
  induction n with
  | zero => intro v i; rfl
  | succ n ih =>
    intro v i
    unfold L_sm_besideOf_4_0
    simp only [letv_eq, ih]
    rw [h9, h11, h13]
theorem letP_of {nux num xi1 xi2 : Nat → Nat → Int32} (h : letP nux num) (h1 : fixX nux xi1) (h2 : fixM num xi2) : letP xi1 xi2 := by
  obtain ⟨W0, hW, h8, h9, l3, l10, hw⟩ := h
  have m10 : xi2 10 = num 10 := h2.1 10 (by decide) (by decide) (by decide) (by decide)
  have m39 : xi2 0 39 = num 0 39 := h2.2.1 39 (by omega)
  have m14 : xi2 0 14 = num 0 14 := h2.2.1 14 (by omega)
  refine ⟨W0, hW, ?_, ?_, ?_, ?_, fun L hL1 hL2 => ?_⟩
  · rw [h1.2 8 (by decide)]; exact h8
  · rw [h1.2 9 (by decide)]; exact h9
  · rw [m39, lof_congr m10, h1.2 9 (by decide)]; exact l3
  · rw [m39, lof_congr m10, m14, h1.2 10 (by decide)]; exact l10
  · rw [m39, win_congr m10 m14, h1.2 9 (by decide)]; exact hw L hL1 hL2
theorem stR_of {T : Int} {nux num xi1 xi2 : Nat → Nat → Int32} (h : stR T nux num) (h1 : fixX nux xi1) (h2 : fixM num xi2) : stR T xi1 xi2 := by
  obtain ⟨a, b, d, e, f, g, i, j⟩ := h
  have m8 : xi2 0 8 = num 0 8 := h2.2.1 8 (by omega)
  have m39 : xi2 0 39 = num 0 39 := h2.2.1 39 (by omega)
  have c : ∀ k : Nat, k ≠ 32 → k ≠ 54 → k ≠ 55 → k ≠ 56 → k ≠ 57 → k ≠ 58 → xi1 k = nux k := h1.1
  have m : ∀ k : Nat, k ≠ 0 → k ≠ 16 → k ≠ 17 → k ≠ 18 → xi2 k = num k := h2.1
  refine ⟨?_, ?_, fun x hx => ?_, ?_, ?_, ?_, ?_, ?_⟩
  · rw [c 4 (by decide) (by decide) (by decide) (by decide) (by decide) (by decide), m8]; exact a
  · rw [m8]; exact b
  · rw [m8] at hx
    obtain ⟨q1, q2, q3, q4⟩ := d x hx
    rw [c 34 (by decide) (by decide) (by decide) (by decide) (by decide) (by decide), c 52 (by decide) (by decide) (by decide) (by decide) (by decide) (by decide), c 53 (by decide) (by decide) (by decide) (by decide) (by decide) (by decide), m 7 (by decide) (by decide) (by decide) (by decide), m 8 (by decide) (by decide) (by decide) (by decide)]
    refine ⟨q1, ?_, q3, q4⟩
    rw [q2]
    exact (bes_congr (m 9 (by decide) (by decide) (by decide) (by decide)) (h2.2.1 11 (by omega)) (h2.2.1 13 (by omega)) 15 0 0).symm
  · rw [h1.2 6 (by decide), h2.2.1 29 (by omega)]; exact e
  · rw [h2.2.1 38 (by omega)]; exact f
  · rw [h1.2 5 (by decide), h2.2.2]; exact g
  · rw [h2.2.2, m8]; exact i
  · rw [m39]
    rcases j with j | ⟨j, k⟩
    · exact Or.inl j
    · exact Or.inr ⟨j, letP_of k h1 h2⟩
theorem rC_of {c : Int} {nux num xi1 xi2 : Nat → Nat → Int32} (h : rC c nux num) (h1 : xi1 32 11 = nux 32 11) (h2 : xi1 55 = nux 55) (h3 : xi2 0 30 = num 0 30) (h4 : xi2 0 31 = num 0 31) (h5 : xi2 0 32 = num 0 32) : rC c xi1 xi2 := by
  unfold rC
  rw [h1, h2, h3, h4, h5]
  exact h
theorem arr {T c : Int} {nux num xi1 xi2 : Nat → Nat → Int32} {s n u q p : Int32} (hT : T ≤ 1000000) (hc : c ≤ 1000000) (hS : stR T nux num) (hR : rel c nux num) (hs : 1 ≤ s.toInt ∧ s.toInt ≤ 6) (hn : n.toInt = s.toInt + 1) (hp : 0 ≤ p.toInt ∧ p.toInt ≤ T) (hu : ∀ j : Nat, j < 32 → bt u j = true → j < 7) (hq : q = u &&& (((1 : Int32) <<< (num 16 0 &&& 31)) ^^^ (-1))) (h1 : xi1 = F_sx_R_arrive nux s u p) (h2 : xi2 = F_sm_meetRoute num n q p) : fixX nux xi1 ∧ fixM num xi2 ∧ rel (c + 1) xi1 xi2 := by
  obtain ⟨nC, hz, a1, a2, a3, a4⟩ := ax1_out h1
  obtain ⟨mC, hzm, b1, b2, b3, b4⟩ := bm0_out h2
  have rc : rC (c + 1) nC mC := rC_arr hc hR.1 hs hn ⟨hp.1, by omega⟩ a3 a4 b3 b4
  have fX : fixX nux nC := ⟨fun k k1 _ k3 _ k5 _ => a1 k k1 k3 k5, fun f hf => a2 f (by omega)⟩
  have fM : fixM num mC := ⟨fun k k1 _ k3 _ => b1 k k1 k3, fun f hf => b2 f (by omega) (by omega) (by omega), by rw [b1 16 (by decide) (by decide)]⟩
  have hS2 := stR_of hS fX fM
  obtain ⟨nN, d1, d2, d3, d4⟩ := ax2_out hz
  have fN : fixX nC nN := ⟨fun k k1 _ _ _ _ _ => d1 k k1, fun f hf => d2 f (by omega)⟩
  have endX : fixX nN xi1 ∧ xi1 55 = nN 55 ∧ xi1 32 11 = nN 32 11 ∧ xi1 32 14 = nN 32 14 := by
    rcases d4 with ⟨_, e⟩ | ⟨_, e⟩
    · obtain ⟨g1, g2, g3, g4, g5⟩ := ax3_out e
      exact ⟨⟨fun k k1 _ _ k4 _ k6 => g1 k k1 k4 k6, fun f hf => g2 f (by omega) (by omega)⟩, g1 55 (by decide) (by decide) (by decide), g2 11 (by decide) (by decide), g2 14 (by decide) (by decide)⟩
    · rw [e]
      exact ⟨fixX_rf, rfl, rfl, rfl⟩
  have x11 : xi1 32 11 = nC 32 11 := endX.2.2.1.trans (d2 11 (by decide))
  have x55 : xi1 55 = nC 55 := endX.2.1.trans (d1 55 (by decide))
  rcases bm53_out hzm with ⟨w, e⟩ | ⟨w, e⟩
  · refine ⟨fixX_tr (fixX_tr fX fN) endX.1, by rw [e]; exact fM, ?_, fun h => absurd (by rw [e]; exact w) h⟩
    rw [e]
    exact rC_of rc x11 x55 rfl rfl rfl
  · obtain ⟨mN, f1, f2, f3, f4⟩ := bm115_out (bm91_out e)
    have gM : fixM mC mN := ⟨fun k k1 _ _ _ => f1 k k1, fun f hf => f2 f (by omega), by rw [f1 16 (by decide)]⟩
    have m39 : mC 0 39 = num 0 39 := b2 39 (by decide) (by decide) (by decide)
    have hw : ¬ num 0 39 = -9 := by rw [← m39]; exact w
    have hP : letP nC mC := by
      rcases hS2.2.2.2.2.2.2.2 with j | ⟨_, k⟩
      · exact absurd j w
      · exact k
    obtain ⟨n1, n2, n3⟩ := need_eq (s := s) (n := n) (p := p) hP hs hn ⟨hp.1, by omega⟩
    obtain ⟨s1, s2, s3, s4⟩ := hR.2 hw
    have wN : F_sm_worthIn mN (mN 0 39) (lastM mC n) = F_sm_worthIn mC (mC 0 39) (lastM mC n) := by
      rw [f2 39 (by decide)]
      exact win_congr (f1 10 (by decide)) (f2 14 (by decide))
    have v14 : nN 32 14 = mN 0 37 ∧ 0 ≤ (mN 0 37).toInt ∧ (mN 0 37).toInt < 1048576 := by
      have x14 : nC 32 14 = nux 32 14 := a2 14 (by decide)
      have x37 : mC 0 37 = num 0 37 := b2 37 (by decide) (by decide) (by decide)
      rw [d3, f3, n1, x14, x37]
      rcases s1 with ⟨_, q2, q3⟩ | ⟨_, q2, q3⟩
      · rw [q2, q3]
        have m1 : (2147483647 : Int32).toInt = 2147483647 := rfl
        have m2 : (1048576 : Int32).toInt = 1048576 := rfl
        rw [if_pos (vv_lt.mpr (by omega)), if_neg (fun g => by have := vv_ge.mp g; omega)]
        exact ⟨rfl, n2⟩
      · rw [q2]
        by_cases g : needM mC p (lastM mC n) < num 0 37
        · have g1 := vv_lt.mp g
          rw [if_pos g, if_neg (fun g => by have := vv_ge.mp g; omega)]
          exact ⟨rfl, n2⟩
        · have g1 : ¬ (needM mC p (lastM mC n)).toInt < (num 0 37).toInt := fun e => g (vv_lt.mpr e)
          rw [if_neg g, if_pos (vv_ge.mpr (by omega))]
          exact ⟨rfl, q3⟩
    have x12 : nN 32 12 = num 0 33 := by rw [d2 12 (by decide), a2 12 (by decide)]; exact s2
    have x13 : nN 32 13 = nux 32 13 := by rw [d2 13 (by decide), a2 13 (by decide)]
    have x5 : nN 32 5 = num 16 0 := by rw [d2 5 (by decide), a2 5 (by decide)]; exact hS.2.2.2.2.2.1
    have x56 : nN 56 = nux 56 := (d1 56 (by decide)).trans (a1 56 (by decide) (by decide) (by decide))
    have y30 : mN 0 30 = num 0 30 + 1 := by rw [f2 30 (by decide), b3]
    have y33 : mN 0 33 = num 0 33 := by rw [f2 33 (by decide), b2 33 (by decide) (by decide) (by decide)]
    have y34 : mN 0 34 = num 0 34 := by rw [f2 34 (by decide), b2 34 (by decide) (by decide) (by decide)]
    have y35 : mN 0 35 = num 0 35 := by rw [f2 35 (by decide), b2 35 (by decide) (by decide) (by decide)]
    have y36 : mN 0 36 = num 0 36 := by rw [f2 36 (by decide), b2 36 (by decide) (by decide) (by decide)]
    have nz : ¬ num 0 30 + 1 = 0 := (inc_of hR.1.2.1.1 hR.1.2.1.2 hc).2
    rcases d4 with ⟨g, e4⟩ | ⟨g, e4⟩
    · rcases bm137_out f4 with ⟨g2, _⟩ | ⟨g2, k1, k2, k3, k4, k5⟩
      · rw [wN] at g2
        exact absurd g2 (n3.mp g)
      · obtain ⟨j1, j2, j3, j4, j5⟩ := ax3_out e4
        have FM : fixM mN xi2 := ⟨fun k c1 _ _ c4 => k1 k c1 c4, fun f hf => k2 f (by omega) (by omega) (by omega) (by omega), by rw [k1 16 (by decide) (by decide)]⟩
        obtain ⟨i1, i2⟩ := inc_of s3.1 s3.2 hc
        rw [x5, ← hq, x13] at j4
        rw [y36] at k4
        rw [x56] at j5
        rw [y34, y35] at k5
        have hqb : ∀ j : Nat, j < 32 → bt q j = true → j < 7 := fun j hj e => by
          rw [hq, b_and] at e
          exact hu j hj (Bool.and_eq_true _ _ ▸ e).1
        have soon : ¬ xi1 56 3 = 0 ∧ (xi1 56 1).toInt + 1 = (xi2 0 35).toInt ∧ xi1 56 2 = xi2 0 34 ∧ xi1 32 13 = xi2 0 36 := by
          rcases s4 with ⟨t1, t2, t3, t4, t5⟩ | ⟨t1, t2, t3, t4, t5⟩
          · have m2 : (1048576 : Int32).toInt = 1048576 := rfl
            rcases j5 with ⟨_, q1, q2, q3⟩ | ⟨w5, _⟩
            · rcases k5 with ⟨_, q4, q5⟩ | ⟨w6, _⟩
              · refine ⟨by rw [q1]; decide, by rw [q2, q5, hn], by rw [q3, q4], ?_⟩
                rw [j4, k4, t4, t5, and_m1, and_127 hqb]
              · refine absurd (Or.inl ?_) w6
                rw [t3]
                exact vv_lt.mpr (by omega)
            · exact absurd (Or.inl t2) w5
          · have key : (nux 56 3 = 0 ∨ s < nux 56 1 ∨ (s = nux 56 1 ∧ ¬ p ≥ nux 56 2)) ↔ (n < num 0 35 ∨ (n = num 0 35 ∧ ¬ p ≥ num 0 34)) := by
              rw [t4]
              constructor
              · rintro (e | e | ⟨e, f⟩)
                · exact absurd e t2
                · exact Or.inl (vv_lt.mpr (by have := vv_lt.mp e; omega))
                · exact Or.inr ⟨Int32.toInt_inj.mp (by rw [← t3, ← e, hn]), f⟩
              · rintro (e | ⟨e, f⟩)
                · exact Or.inr (Or.inl (vv_lt.mpr (by have := vv_lt.mp e; omega)))
                · exact Or.inr (Or.inr ⟨Int32.toInt_inj.mp (by rw [e] at hn; omega), f⟩)
            have v13 : xi1 32 13 = xi2 0 36 := by rw [j4, k4, t5]
            rcases j5 with ⟨w5, q1, q2, q3⟩ | ⟨w5, q1⟩
            · rcases k5 with ⟨_, q4, q5⟩ | ⟨w6, _⟩
              · exact ⟨by rw [q1]; decide, by rw [q2, q5, hn], by rw [q3, q4], v13⟩
              · exact absurd (key.mp w5) w6
            · rcases k5 with ⟨w6, _⟩ | ⟨_, q4, q5⟩
              · exact absurd (key.mpr w6) w5
              · exact ⟨by rw [q1]; exact t2, by rw [q1, q5]; exact t3, by rw [q1, q4]; exact t4, v13⟩
        refine ⟨fixX_tr (fixX_tr fX fN) endX.1, fixM_tr (fixM_tr fM gM) FM, rC_of rc x11 x55 ?_ ?_ ?_, fun _ => ?_⟩
        · rw [k2 30 (by decide) (by decide) (by decide) (by decide), f2 30 (by decide)]
        · rw [k2 31 (by decide) (by decide) (by decide) (by decide), f2 31 (by decide)]
        · rw [k2 32 (by decide) (by decide) (by decide) (by decide), f2 32 (by decide)]
        · refine ⟨Or.inr ⟨?_, ?_, ?_⟩, ?_, ?_, Or.inr ⟨?_, soon⟩⟩
          · rw [k2 30 (by decide) (by decide) (by decide) (by decide), y30]; exact nz
          · rw [endX.2.2.2, k2 37 (by decide) (by decide) (by decide) (by decide)]; exact v14.1
          · rw [k2 37 (by decide) (by decide) (by decide) (by decide)]; exact v14.2
          · rw [j3, k3, x12, y33]
          · rw [k3, y33, i1]; omega
          · rw [k3, y33]; exact i2
    · rcases bm137_out f4 with ⟨g2, e5⟩ | ⟨g2, _⟩
      · refine ⟨fixX_tr (fixX_tr fX fN) endX.1, by rw [e5]; exact fixM_tr fM gM, ?_, fun _ => ?_⟩
        · refine rC_of rc x11 x55 ?_ ?_ ?_
          · rw [e5, f2 30 (by decide)]
          · rw [e5, f2 31 (by decide)]
          · rw [e5, f2 32 (by decide)]
        · rw [e4, e5]
          refine ⟨Or.inr ⟨?_, v14.1, v14.2⟩, ?_, ?_, ?_⟩
          · rw [y30]; exact nz
          · rw [x12, y33]
          · rw [y33]; omega
          · rw [y33, y34, y35, y36, x56, x13]
            exact s4
      · rw [wN] at g2
        exact absurd (n3.mpr g2) g

