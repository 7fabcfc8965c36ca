-- ===== who holds an unread letter isn't its reader =====
def unL (n : Nat) (lm : Nat → Int32) : Prop := ∀ k : Nat, k < n → lm (10 * k + 9) = 1 ∨ ¬ lm (10 * k + 5) = lm (10 * k + 1)
def unS (n : Nat) (mum : Nat → Nat → Int32) : Prop := ∀ s : Nat, s < n → ¬ mum 14 (12 * s + 1) = mum 10 (10 * (mum 14 (12 * s)).toNatClampNeg + 1)
def unK (mum : Nat → Nat → Int32) : Prop := ∀ j : Nat, j < 3 → mum 15 (64 * j) = -9 ∨ unL (mum 15 (64 * j + 2)).toNatClampNeg (fun i => mum 15 (64 * j + 10 + i))
def unN (c : Int32) (mum : Nat → Nat → Int32) : Prop := unL (mum 0 15).toNatClampNeg (mum 10) ∧ unS c.toNatClampNeg mum ∧ unK mum
def unr (mum : Nat → Nat → Int32) : Prop := unN (mum 0 17) mum
theorem unL_of {n : Nat} {lm lm' : Nat → Int32} (h : unL n lm) (he : ∀ k : Nat, k < n → ∀ f : Nat, f < 10 → lm' (10 * k + f) = lm (10 * k + f)) : unL n lm' := fun k hk => by
  rw [he k hk 9 (by decide), he k hk 5 (by decide), he k hk 1 (by decide)]
  exact h k hk
theorem unr_of {mum xi : Nat → Nat → Int32} (h : unr mum) (h15 : xi 0 15 = mum 0 15) (h17 : xi 0 17 = mum 0 17) (c10 : xi 10 = mum 10) (c14 : xi 14 = mum 14) (c15 : xi 15 = mum 15) : unr xi := by
  unfold unr unN unS unK
  rw [h15, h17, c10, c14, c15]
  exact h
theorem unr_keep {m : Nat} {mum xi : Nat → Nat → Int32} (hm : Nat.testBit m 3 = true ∧ Nat.testBit m 4 = true ∧ Nat.testBit m 5 = true ∧ Nat.testBit m 8 = true) (h2 : ∀ k f : Nat, Nat.testBit m (gpM k f) = true → xi k f = mum k f) (h : unr mum) : unr xi :=
  unr_of h (h2 0 15 hm.2.2.2) (h2 0 17 hm.2.1) (funext fun f => h2 10 f hm.1) (funext fun f => h2 14 f hm.2.1) (funext fun f => h2 15 f hm.2.2.1)
theorem unr_0 : unr mu0M := by
  refine ⟨fun k hk => absurd hk (Nat.not_lt_zero _), fun s hs => absurd hs (Nat.not_lt_zero _), fun j hj => Or.inl ?_⟩
  have key : ∀ j : Nat, j < 3 → mu0M 15 (64 * j) = -9 := by decide +kernel
  exact key j hj
theorem town_unr {mux mum xi1 xi2 : Nat → Nat → Int32} (h : (simK xi1 xi2 ∧ endR xi2 ∧ newT xi1 xi2) ∨ ((∀ k f : Nat, gpX k f ≠ 0 → xi1 k f = mux k f) ∧ (∀ k f : Nat, gpM k f ≠ 0 → xi2 k f = mum k f))) (hm : unr mum) : unr xi2 := by
  rcases h with ⟨-, -, -, -, ⟨-, -, y4, y6⟩, k, -, -⟩ | ⟨-, b⟩
  · refine ⟨fun k hk => ?_, fun s hs => ?_, fun j hj => Or.inl (k j hj).2⟩
    · rw [y4] at hk; exact absurd hk (Nat.not_lt_zero _)
    · rw [y6] at hs; exact absurd hs (Nat.not_lt_zero _)
  · exact unr_of hm (b 0 15 (by decide)) (b 0 17 (by decide)) (funext fun f => b 10 f (by show (3 : Nat) ≠ 0; decide)) (funext fun f => b 14 f (by show (4 : Nat) ≠ 0; decide)) (funext fun f => b 15 f (by show (5 : Nat) ≠ 0; decide))
theorem sale_unr {mux mum : Nat → Nat → Int32} {k x : Int32} (bd : bdM mum) (hC : core mux mum) (hm : unr mum) (hk : 0 ≤ k.toInt ∧ k.toInt < (mum 0 15).toInt) (hx : 0 ≤ x.toInt ∧ x.toInt < (mum 0 8).toInt) (hbit : bt (F_sm_canSell mum k) x.toNatClampNeg = true) (hn : (mum 0 17).toInt < 40) : unr (F_sm_sellTo mum k x) := by
  obtain ⟨hb, hpa, hsent, hled⟩ := bd
  obtain ⟨ml, ms, mk⟩ := hm
  have ck := tC_of hk.1
  have cx := tC_of hx.1
  have cs := tC_of hsent.1
  have cl := tC_of hled.1
  have hk3 : 0 ≤ k.toInt ∧ k.toInt ≤ 3 := ⟨hk.1, by omega⟩
  have i9 : F_sm_letterOf mum k 9 = mum 10 (10 * k.toNatClampNeg + 9) := fm_letterOf hk3 (by decide)
  have hr : ¬ mum 10 (10 * k.toNatClampNeg + 9) = 1 := fun e => by
    have z : F_sm_canSell mum k = 0 := by
      have r1 : F_sm_isRead mum k = 1 := by
        simp only [F_sm_isRead, letv_eq]
        rw [i9, e, if_pos rfl]
      unfold F_sm_canSell
      rw [letv_eq, r1, if_neg (by decide)]
    rw [z, b_zero _ (by omega)] at hbit
    cases hbit
  have hne : ¬ mum 10 (10 * k.toNatClampNeg + 5) = mum 10 (10 * k.toNatClampNeg + 1) := (ml k.toNatClampNeg (by omega)).resolve_left hr
  obtain ⟨m1, m2, m3, m4, ⟨m51, m52, m53, m54, m55⟩, m6, m7, m8, m9, m10, m11, m12, m13⟩ := es_m (xi := F_sm_sellTo mum k x) hk3 ⟨hled.1, hn⟩ rfl
  generalize F_sm_sellTo mum k x = xi at m1 m2 m3 m4 m51 m52 m53 m54 m55 m6 m7 m8 m9 m10 m11 m12 m13 ⊢
  have e17 : (mum 0 17 + 1 : Int32).toInt = (mum 0 17).toInt + 1 := vp1 (by omega)
  have c17 := tC_of (v := mum 0 17 + 1) (by omega)
  refine ⟨?_, ?_, ?_⟩
  · rw [m2 15 (by decide)]
    intro q hq
    by_cases e : q = k.toNatClampNeg
    · subst e
      rw [m13, m9, m8 _ (Or.inl (by omega))]
      by_cases ex : x = mum 10 (10 * k.toNatClampNeg + 1)
      · exact Or.inl (by rw [if_pos ex])
      · exact Or.inr ex
    · rw [m8 _ (by omega), m8 _ (by omega), m8 _ (by omega)]
      exact ml q hq
  · unfold unS
    rw [m3]
    intro s hs
    by_cases e : s = (mum 0 17).toNatClampNeg
    · subst e
      rw [m51, m52, m8 _ (Or.inl (by omega))]
      exact hne
    · obtain ⟨⟨_, a2, a3⟩, -⟩ := hC.2.2.2.2.2.2.1 s (by omega)
      have ca := tC_of a2
      rw [m4 _ (Or.inl (by omega)), m4 _ (Or.inl (by omega)), m8 _ (by omega)]
      exact ms s (by omega)
  · unfold unK
    rw [m1 15 (by decide) (by decide) (by decide) (by decide)]
    exact mk
theorem purse_unr {x v r2 : Int32} {mum xi2 : Nat → Nat → Int32} (hm : unr mum) (h2 : (r2, xi2) = F_qm_purse mum x v) : unr xi2 := by
  simp only [F_qm_purse, letv_eq] at h2
  by_cases cx : F_sm_isOne mum x = 1
  · rw [if_pos cx] at h2
    by_cases cv : F_sm_in v 0 999 = 1
    · rw [if_pos cv] at h2
      have v2 := (Prod.mk.inj h2).2.symm
      exact unr_of hm (congrFun (up_k v2 (by decide)) 15) (congrFun (up_k v2 (by decide)) 17) (up_k v2 (by decide)) (up_k v2 (by decide)) (up_k v2 (by decide))
    · rw [if_neg cv] at h2
      rw [(Prod.mk.inj h2).2]
      exact hm
  · rw [if_neg cx] at h2
    rw [(Prod.mk.inj h2).2]
    exact hm
theorem meet_unr {a : Int32} {mum : Nat → Nat → Int32} (hm : unr mum) : unr (F_sm_meet mum a).2 := by
  have q := fm_meet (mu := mum) (w := a)
  exact unr_of hm (q.2.2 15 (by decide)) (q.2.2 17 (by decide)) (funext fun f => q.2.1 10 f (by decide) (by decide)) (funext fun f => q.2.1 14 f (by decide) (by decide)) (funext fun f => q.2.1 15 f (by decide) (by decide))
theorem send_unr {x y w l r2 : Int32} {mux mum xi2 : Nat → Nat → Int32} (okm : okR loM hiM mum) (hC : core mux mum) (hm : unr mum) (h2 : (r2, xi2) = F_qm_send mum x y w l) : unr xi2 := by
  have hsent : 0 ≤ (mum 0 15).toInt ∧ (mum 0 15).toInt ≤ 4 := okm 0 15
  have cs := tC_of hsent.1
  have z0 : (0 : Int32).toInt = 0 := rfl
  have z9 : (9 : Int32).toInt = 9 := rfl
  have z99 : (99 : Int32).toInt = 99 := rfl
  have h2' := h2
  unfold F_qm_send at h2
  by_cases c1 : F_sm_areTwo mum x y = 1
  · rw [if_pos c1] at h2
    by_cases c2 : F_sm_in w 0 99 = 1
    · rw [if_pos c2] at h2
      by_cases c3 : F_sm_in l 0 9 = 1
      · rw [if_pos c3] at h2
        have hw := fm_in.mp c2
        have hl := fm_in.mp c3
        by_cases c4 : (mum 0 15).toInt ≤ 3
        · obtain ⟨m1, m2, m3, m4, m5, q0, q1, q2, q3, q4, q5, q6, q7, q8, q9⟩ := sd_m c1 c2 c3 ⟨hsent.1, c4⟩ h2'
          obtain ⟨ml, ms, mk⟩ := hm
          have ad : (mum 0 15 + 1 : Int32).toInt = (mum 0 15).toInt + 1 := vp1 (by omega)
          have adn := tC_of (v := mum 0 15 + 1) (by omega)
          have nxy : ¬ x = y := fun e => by
            have t := c1
            unfold F_sm_areTwo at t
            by_cases g1 : F_sm_isOne mum x = 1
            · rw [if_pos g1] at t
              by_cases g2 : F_sm_isOne mum y = 1
              · rw [if_pos g2, if_pos e] at t
                exact absurd t (by decide)
              · rw [if_neg g2] at t
                exact absurd t (by decide)
            · rw [if_neg g1] at t
              exact absurd t (by decide)
          refine ⟨?_, ?_, ?_⟩
          · rw [m4]
            intro q hq
            by_cases e : q = (mum 0 15).toNatClampNeg
            · subst e
              rw [q9, q5, q1]
              exact Or.inr nxy
            · rw [m5 _ (by omega), m5 _ (by omega), m5 _ (by omega)]
              exact ml q (by omega)
          · unfold unS
            rw [m3 17 (by decide), m2 14 (by decide) (by decide)]
            intro s hs
            obtain ⟨⟨_, a2, a3⟩, -⟩ := hC.2.2.2.2.2.2.1 s hs
            have ca := tC_of a2
            rw [m5 _ (by omega)]
            exact ms s hs
          · unfold unK
            rw [m2 15 (by decide) (by decide)]; exact mk
        · have e4 : mum 0 15 = 4 := Int32.toInt_inj.mp (by show _ = (4 : Int); omega)
          simp only [letv_eq] at h2
          rw [if_pos e4] at h2
          rw [(Prod.mk.inj h2).2]
          exact hm
      · rw [if_neg c3] at h2
        rw [(Prod.mk.inj h2).2]
        exact hm
    · rw [if_neg c2] at h2
      rw [(Prod.mk.inj h2).2]
      exact hm
  · rw [if_neg c1] at h2
    rw [(Prod.mk.inj h2).2]
    exact hm
theorem sell_unr {k x r2 : Int32} {mux mum xi2 : Nat → Nat → Int32} (okm : okR loM hiM mum) (hC : core mux mum) (hm : unr mum) (h2 : (r2, xi2) = F_qm_sell mum k x) : unr xi2 := by
  have bd := bd_of okm
  have hb := bd.1
  have hled := bd.2.2.2
  unfold F_qm_sell at h2
  by_cases c0 : k < (0 : Int32)
  · rw [if_pos c0] at h2
    rw [(Prod.mk.inj h2).2]
    exact hm
  · rw [if_neg c0] at h2
    by_cases c1 : F_sm_isOne mum x = 1
    · rw [if_pos c1] at h2
      have hx := (fm_isOne hb).mp c1
      have cx := tC_of hx.1
      rcases fm_askL (mum := mum) (k := k) with ⟨hk, q2⟩ | ⟨hk, hk2, q2⟩ | ⟨hk, q2⟩
      · rw [q2] at h2
        simp only [letp_eq, letv_eq] at h2
        rw [if_pos trivial] at h2
        by_cases c2 : F_sm_has (F_sm_canSell mum k) x = 1
        · rw [if_pos c2] at h2
          have hbit : bt (F_sm_canSell mum k) x.toNatClampNeg = true := by
            cases hq : bt (F_sm_canSell mum k) x.toNatClampNeg
            · exact absurd c2 (hb_f hx.1 (by omega) hq).2
            · rfl
          by_cases c40 : mum 0 17 = 40
          · rw [if_pos c40] at h2
            rw [(Prod.mk.inj h2).2]
            exact hm
          · rw [if_neg c40] at h2
            have l40 : (mum 0 17).toInt < 40 := by
              have : ¬ (mum 0 17).toInt = (40 : Int32).toInt := fun e => c40 (Int32.toInt_inj.mp e)
              have z : (40 : Int32).toInt = 40 := rfl
              omega
            have sm := sale_unr bd hC hm hk hx hbit l40
            split at h2
            · rw [(Prod.mk.inj h2).2]
              exact sm
            · rw [(Prod.mk.inj h2).2]
              exact sm
        · rw [if_neg c2] at h2
          rw [(Prod.mk.inj h2).2]
          exact hm
      · rw [q2] at h2
        simp only [letp_eq] at h2
        rw [if_neg n3] at h2
        rw [(Prod.mk.inj h2).2]
        exact meet_unr hm
      · rw [q2] at h2
        simp only [letp_eq] at h2
        rw [if_neg n1] at h2
        rw [(Prod.mk.inj h2).2]
        exact hm
    · rw [if_neg c1] at h2
      rw [(Prod.mk.inj h2).2]
      exact hm
theorem keep_unr {v r2 : Int32} {mum xi2 : Nat → Nat → Int32} (okm : okR loM hiM mum) (hm : unr mum) (h2 : (r2, xi2) = F_qm_keep mum v) : unr xi2 := by
  have hb : 0 ≤ (mum 0 8).toInt ∧ (mum 0 8).toInt ≤ 7 := okm 0 8
  have cb := tC_of hb.1
  have hsent : 0 ≤ (mum 0 15).toInt ∧ (mum 0 15).toInt ≤ 4 := okm 0 15
  have cs := tC_of hsent.1
  have z0 : (0 : Int32).toInt = 0 := rfl
  have z2 : (2 : Int32).toInt = 2 := rfl
  by_cases cv : 0 ≤ v.toInt ∧ v.toInt ≤ 2
  · by_cases c0 : mum 0 8 = 0
    · unfold F_qm_keep at h2
      rw [if_pos (fm_in.mpr ⟨by omega, by omega⟩)] at h2
      simp only [letv_eq] at h2
      rw [if_pos c0] at h2
      rw [(Prod.mk.inj h2).2]
      exact hm
    · obtain ⟨g1, hmm⟩ := fm_keep cv c0
      rw [p_snd h2] at hmm
      have cvn := tC_of cv.1
      obtain ⟨ml, ms, mk⟩ := hm
      generalize v.toNatClampNeg = J at hmm cvn
      have hJ : J < 3 := by omega
      have fm : ∀ c : Nat, c ≠ 15 → xi2 c = mum c := fun c h => funext fun f => by
        rw [hmm c f, if_neg (fun e => h e.1), if_neg (fun e => h e.1), if_neg (fun e => h e.1), if_neg (fun e => h e.1), if_neg (fun e => h e.1)]
      refine ⟨?_, ?_, ?_⟩
      · rw [fm 0 (by decide), fm 10 (by decide)]; exact ml
      · unfold unS
        rw [fm 0 (by decide), fm 14 (by decide), fm 10 (by decide)]; exact ms
      · intro j hj
        by_cases e : j = J
        · subst e
          have a2 : xi2 15 (64 * j + 2) = mum 0 15 := by rw [hmm, if_neg (fun h => by omega), if_neg (fun h => by omega), if_neg (fun h => by omega), if_neg (fun h => by omega), if_pos ⟨rfl, rfl⟩]
          rw [a2]
          refine Or.inr (unL_of ml (fun q hq f hf => ?_))
          · show xi2 15 (64 * j + 10 + (10 * q + f)) = mum 10 (10 * q + f)
            rw [hmm, if_pos ⟨rfl, by omega, by omega⟩, show 64 * j + 10 + (10 * q + f) - (64 * j + 10) = 10 * q + f by omega]
        · have o15 : ∀ f : Nat, 64 * j ≤ f → f < 64 * j + 50 → xi2 15 f = mum 15 f := fun f h1 h2 => by
            rw [hmm, if_neg (fun h => by omega), if_neg (fun h => by omega), if_neg (fun h => by omega), if_neg (fun h => by omega), if_neg (fun h => by omega)]
          have k4 : mum 15 (64 * j) = -9 ∨ True := Or.inr trivial
          rw [o15 (64 * j) (by omega) (by omega), o15 (64 * j + 2) (by omega) (by omega)]
          have b4 : (mum 15 (64 * j + 2)).toNatClampNeg ≤ 4 := by
            have key : ∀ j : Nat, j < 3 → loM 15 (64 * j + 2) = 0 ∧ hiM 15 (64 * j + 2) = 4 := by decide +kernel
            have ok := okm 15 (64 * j + 2)
            rw [(key j hj).1, (key j hj).2] at ok
            have := tC_of ok.1
            omega
          rcases mk j hj with a | b
          · exact Or.inl a
          · exact Or.inr (unL_of b (fun q hq f hf => o15 _ (by omega) (by omega)))
  · unfold F_qm_keep at h2
    rw [if_neg (fun e => by have := fm_in.mp e; omega)] at h2
    rw [(Prod.mk.inj h2).2]
    exact hm
theorem on_unr {v r2 : Int32} {mum xi2 : Nat → Nat → Int32} (okm : okR loM hiM mum) (hm : unr mum) (h2 : (r2, xi2) = F_qm_on mum v) : unr xi2 := by
  have hb : 0 ≤ (mum 0 8).toInt ∧ (mum 0 8).toInt ≤ 7 := okm 0 8
  have cb := tC_of hb.1
  have z0 : (0 : Int32).toInt = 0 := rfl
  have z2 : (2 : Int32).toInt = 2 := rfl
  by_cases cv : 0 ≤ v.toInt ∧ v.toInt ≤ 2
  · have cvn := tC_of cv.1
    by_cases c9 : mum 15 (64 * v.toNatClampNeg) = -9
    · have m64 : (64 * v : Int32).toInt = 64 * v.toInt := tI_mul (rfl : (64 : Int32).toInt = 64) rfl (by omega) (by omega)
      have c64 := tC_of (v := 64 * v) (by omega)
      have n64 : (64 * v : Int32).toNatClampNeg = 64 * v.toNatClampNeg := by omega
      unfold F_qm_on at h2
      rw [if_pos (fm_in.mpr ⟨by omega, by omega⟩)] at h2
      simp only [letv_eq, letp_eq] at h2
      rw [n64, if_pos c9] at h2
      rw [(Prod.mk.inj h2).2]
      exact meet_unr hm
    · obtain ⟨g1, hmm⟩ := fm_on cv c9
      rw [p_snd h2] at hmm
      obtain ⟨ml, ms, mk⟩ := hm
      have hJ : v.toNatClampNeg < 3 := by omega
      have kb : unL (mum 15 (64 * v.toNatClampNeg + 2)).toNatClampNeg (fun i => mum 15 (64 * v.toNatClampNeg + 10 + i)) := by
        rcases mk _ hJ with a | a
        · exact absurd a c9
        · exact a
      have b4 : (mum 15 (64 * v.toNatClampNeg + 2)).toNatClampNeg ≤ 4 := by
        have key : ∀ j : Nat, j < 3 → loM 15 (64 * j + 2) = 0 ∧ hiM 15 (64 * j + 2) = 4 := by decide +kernel
        have ok := okm 15 (64 * v.toNatClampNeg + 2)
        rw [(key _ hJ).1, (key _ hJ).2] at ok
        have := tC_of ok.1
        omega
      generalize v.toNatClampNeg = J at hmm kb b4
      have m8 : xi2 0 8 = mum 0 8 := by rw [hmm]; simp
      have m15 : xi2 0 15 = mum 15 (64 * J + 2) := by rw [hmm]; simp
      have m17 : xi2 0 17 = 0 := by rw [hmm]; simp
      have c15 : xi2 15 = mum 15 := funext fun f => by rw [hmm]; simp
      refine ⟨?_, ?_, ?_⟩
      · rw [m15]
        refine unL_of kb (fun q hq f hf => ?_)
        rw [hmm, if_pos ⟨rfl, by omega⟩]
      · unfold unS
        rw [m17]
        intro s hs
        exact absurd hs (Nat.not_lt_zero _)
      · unfold unK
        rw [c15]
        exact mk
  · unfold F_qm_on at h2
    rw [if_neg (fun e => by have := fm_in.mp e; omega)] at h2
    rw [(Prod.mk.inj h2).2]
    exact hm
theorem undo_unr_loop {t vn : Int32} (hvn : 0 ≤ vn.toInt) : ∀ (n : Nat) (v : Int32) (mux mum : Nat → Nat → Int32), (0 ≤ (mum 0 8).toInt ∧ (mum 0 8).toInt ≤ 7) → (0 ≤ (mum 0 15).toInt ∧ (mum 0 15).toInt ≤ 4) → coreN (v + 1) mux mum → unN (v + 1) mum → -1 ≤ v.toInt → v.toInt < 40 → vn.toInt ≤ v.toInt + 1 → (v.toInt + 1 - vn.toInt).toNat < n → unr (L_qm_undo_28_0 t vn n v mum).2 := by
  intro n
  induction n with
  | zero => intro v mux mum _ _ _ _ _ _ _ h; exact absurd h (Nat.not_lt_zero _)
  | succ n ih =>
    intro v mux mum okb oks hC hM hv hv40 hle hn
    have av : (v + 1 : Int32).toInt = v.toInt + 1 := vp1 (by omega)
    have cv1 := tC_of (v := v + 1) (by omega)
    by_cases c : v.toInt < vn.toInt
    · rw [L_qm_undo_28_0, if_pos (vv_lt.mpr c)]
      simp only [letv_eq]
      generalize hv2 : va_up mum 0 (upd (mum 0) 17 vn) = nu
      have evn : v + 1 = vn := Int32.toInt_inj.mp (by omega)
      rw [evn] at hM
      obtain ⟨ml, ms, mk⟩ := hM
      have n17 : nu 0 17 = vn := (up_v hv2).symm
      have nf : ∀ f : Nat, f ≠ 17 → nu 0 f = mum 0 f := fun f hf => up_f hv2 hf
      have nc : ∀ c : Nat, c ≠ 0 → nu c = mum c := fun c hc => up_k hv2 hc
      refine ⟨?_, ?_, ?_⟩
      · rw [nf 15 (by decide), nc 10 (by decide)]; exact ml
      · unfold unS
        rw [n17, nc 14 (by decide), nc 10 (by decide)]; exact ms
      · unfold unK
        rw [nc 15 (by decide)]; exact mk
    · have hv0 : 0 ≤ v.toInt := by omega
      have cv := tC_of hv0
      obtain ⟨⟨a1, a2, a3⟩, -⟩ := hC.2.2.2.2.2.2.1 v.toNatClampNeg (by omega)
      have ck := tC_of a2
      have ek : mum 14 (12 * v.toNatClampNeg) = nI (mum 14 (12 * v.toNatClampNeg)).toNatClampNeg := nI_at a2
      have k4 : (mum 14 (12 * v.toNatClampNeg)).toNatClampNeg < 4 := by omega
      obtain ⟨xi2, g1, m1, m2, m3, m5, m6, m7, m8, m9⟩ := um_m (t3 := t) (vn := vn) (v := v) (n := n) (S := v.toNatClampNeg) (K := (mum 14 (12 * v.toNatClampNeg)).toNatClampNeg) (mu := mum) (by omega) (by omega) c ek k4
      have st := undo_step (S := v.toNatClampNeg) (xi1 := F_sx_undoLast mux) okb oks hC (by omega) (by omega) ek k4 rfl m1 m2 m3 m5 m6 m7 m8 m9
      obtain ⟨ml, ms, mk⟩ := hM
      have sv := ms v.toNatClampNeg (by omega)
      have slt : ∀ s : Nat, s < (v + 1).toNatClampNeg → 0 ≤ (mum 14 (12 * s)).toInt := fun s hs => (hC.2.2.2.2.2.2.1 s hs).1.2.1
      generalize (mum 14 (12 * v.toNatClampNeg)).toNatClampNeg = K at m3 m5 m6 m7 m8 m9 k4 sv
      have m0 : xi2 0 = mum 0 := m1 0 (by decide) (by decide)
      have em : v + 1 - 1 = v + (-1) + 1 := v_pm hv hv40
      have b2 : (v + (-1) : Int32).toInt = v.toInt - 1 := vm1 (by omega)
      rw [em] at st
      rw [g1]
      generalize v + (-1) = w at st b2 ⊢
      clear em
      have aw : (w + 1 : Int32).toInt = w.toInt + 1 := vp1 (by omega)
      have cw := tC_of (v := w + 1) (by omega)
      have mN : unN (w + 1) xi2 := by
        refine ⟨?_, ?_, ?_⟩
        · rw [m0]
          intro q hq
          by_cases e : q = K
          · subst e
            refine Or.inr ?_
            rw [m5, m3 (10 * q + 1) (Or.inl (by omega))]
            exact sv
          · rw [m3 _ (by omega), m3 _ (by omega), m3 _ (by omega)]
            exact ml q hq
        · unfold unS
          rw [m1 14 (by decide) (by decide)]
          intro s hs
          have c0 := tC_of (slt s (by omega))
          rw [m3 _ (by omega)]
          exact ms s (by omega)
        · unfold unK
          rw [m1 15 (by decide) (by decide)]
          exact mk
      exact ih w _ xi2 (by rw [m0]; exact okb) (by rw [m0]; exact oks) st mN (by omega) (by omega) (by omega) (by omega)
theorem undo_unr {n r2 : Int32} {mux mum xi2 : Nat → Nat → Int32} (okm : okR loM hiM mum) (hC : core mux mum) (hm : unr mum) (h2 : (r2, xi2) = F_qm_undo mum n) : unr xi2 := by
  have hled : 0 ≤ (mum 0 17).toInt ∧ (mum 0 17).toInt ≤ 40 := okm 0 17
  have z0 : (0 : Int32).toInt = 0 := rfl
  have z1 : (1 : Int32).toInt = 1 := rfl
  simp only [F_qm_undo, letv_eq] at h2
  by_cases cn : F_sm_in n 0 (mum 0 17) = 1
  · rw [if_pos cn] at h2
    have hn := fm_in.mp cn
    have a2 : (mum 0 17 - 1 : Int32).toInt = (mum 0 17).toInt - 1 := tI_sub rfl z1 (by omega) (by omega)
    have a3 : (mum 0 17 - 1 + 1 : Int32).toInt = (mum 0 17).toInt := by
      have := vp1 (v := mum 0 17 - 1) (by omega)
      omega
    have e3 : mum 0 17 - 1 + 1 = mum 0 17 := Int32.toInt_inj.mp a3
    have key := undo_unr_loop (t := mum 0 17 - n) (vn := n) (by omega) 43 (mum 0 17 - 1) mux mum (okm 0 8) (okm 0 15) (by rw [e3]; exact hC) (by rw [e3]; exact hm) (by omega) (by omega) (by omega) (by omega)
    rw [p_snd h2] at key
    exact key
  · rw [if_neg cn] at h2
    rw [(Prod.mk.inj h2).2]
    exact hm
theorem luck_unr {n s r2 : Int32} {mux mum xi2 : Nat → Nat → Int32} (okm : okR loM hiM mum) (hC : core mux mum) (hm : unr mum) (h2 : (r2, xi2) = F_qm_luck mum n s) : unr xi2 := by
  have hday := hC.2.2.2.1
  have z0 : (0 : Int32).toInt = 0 := rfl
  have z1 : (1 : Int32).toInt = 1 := rfl
  have z40 : (40 : Int32).toInt = 40 := rfl
  have z99 : (99 : Int32).toInt = 99 := rfl
  have zM : (2147483646 : Int32).toInt = 2147483646 := rfl
  simp only [F_qm_luck, letv_eq] at h2
  by_cases c1 : F_sm_in n 1 40 = 1
  · rw [if_pos c1] at h2
    have hn := fm_in.mp c1
    by_cases c2 : F_sm_in s 1 2147483646 = 1
    · rw [if_pos c2] at h2
      have hs := fm_in.mp c2
      by_cases c8 : mum 0 8 = 0
      · rw [if_pos c8] at h2
        rw [(Prod.mk.inj h2).2]
        exact hm
      · rw [if_neg c8] at h2
        have ad : (mum 0 14 + n : Int32).toInt = (mum 0 14).toInt + n.toInt := tI_add rfl rfl (by omega) (by omega)
        by_cases c9 : mum 0 14 + n ≤ (99 : Int32)
        · have c10 := vv_le.mp c9
          rw [if_pos c9] at h2
          have key := luck_outQ (mu := mum) (vn := n) (Q := unr) (fun mux mum k x bd hC hQ hk hx hb h40 => sale_unr bd hC hQ hk hx hb h40) (fun mum v hQ => by
            generalize h9 : va_up mum 0 (upd (mum 0) 14 v) = nu
            exact unr_of hQ (up_f h9 (by decide)) (up_f h9 (by decide)) (up_k h9 (by decide)) (up_k h9 (by decide)) (up_k h9 (by decide))) ⟨by omega, by omega⟩ 43 s.toInt64 0 0 mux mum (by unfold seedR; rw [Int32.toInt_toInt64]; omega) (bd_of okm) hC hm (by decide) (by rw [z0]; omega) (by rw [z0]; omega) (by rw [z0]; omega)
          rw [p_snd h2] at key
          exact key
        · rw [if_neg c9] at h2
          rw [(Prod.mk.inj h2).2]
          exact hm
    · rw [if_neg c2] at h2
      rw [(Prod.mk.inj h2).2]
      exact hm
  · rw [if_neg c1] at h2
    rw [(Prod.mk.inj h2).2]
    exact hm

-- ===== why: walks without purses, sets reached =====
def adj (m0 : Nat → Nat → Int32) (x y : Nat) : Prop := bt (F_sm_besideOf m0 (nI x)) y = true
def wkF (m0 : Nat → Nat → Int32) : List Nat → Nat → Prop
  | [], _ => True
  | v :: r, x => adj m0 x v ∧ wkF m0 r v
def enF (m0 : Nat → Nat → Int32) (g : Nat) : List Nat → Prop
  | [] => False
  | [v] => v = g
  | v :: w :: r => ¬ m0 7 v = 3 ∧ enF m0 g (w :: r)
theorem enF_mem {m0 : Nat → Nat → Int32} {g : Nat} : ∀ l : List Nat, enF m0 g l → g ∈ l
  | [], h => h.elim
  | [v], h => by
    have e : v = g := h
    rw [e]
    exact List.mem_cons_self
  | v :: w :: r, h => List.mem_cons_of_mem _ (enF_mem (w :: r) h.2)
theorem enF_app {m0 : Nat → Nat → Int32} {v y : Nat} (hp : ¬ m0 7 v = 3) : ∀ l : List Nat, enF m0 v l → enF m0 y (l ++ [y])
  | [], h => h.elim
  | [a], h => by
    have e : a = v := h
    show ¬ m0 7 a = 3 ∧ enF m0 y [y]
    rw [e]
    exact ⟨hp, rfl⟩
  | a :: w :: r, h => by
    show ¬ m0 7 a = 3 ∧ enF m0 y ((w :: r) ++ [y])
    exact ⟨h.1, enF_app hp (w :: r) h.2⟩
theorem wkF_app {m0 : Nat → Nat → Int32} {v y : Nat} (ha : adj m0 v y) : ∀ (l : List Nat) (x : Nat), wkF m0 l x → enF m0 v l → wkF m0 (l ++ [y]) x
  | [], _, _, h => h.elim
  | [a], x, w, h => by
    have e : a = v := h
    show adj m0 x a ∧ adj m0 a y ∧ True
    exact ⟨w.1, by rw [e]; exact ha, trivial⟩
  | a :: b :: r, x, w, h => by
    show adj m0 x a ∧ wkF m0 ((b :: r) ++ [y]) a
    exact ⟨w.1, wkF_app ha (b :: r) a w.2 h.2⟩
/-- a row from x to the goal: unlike ones, none used, no READERS inside -/
def okP (m0 : Nat → Nat → Int32) (u : Int32) (x : Nat) (l : List Nat) : Prop := wkF m0 l x ∧ l.Nodup ∧ (∀ v : Nat, v ∈ l → (v : Int) < (m0 0 8).toInt ∧ bt u v = false) ∧ enF m0 (m0 0 29).toNatClampNeg l
theorem okP_one {m0 : Nat → Nat → Int32} {u : Int32} {x v : Nat} {r : List Nat} (h : okP m0 u x (v :: r)) : adj m0 x v ∧ (v : Int) < (m0 0 8).toInt ∧ bt u v = false ∧ ((r = [] ∧ v = (m0 0 29).toNatClampNeg) ∨ (¬ r = [] ∧ ¬ v = (m0 0 29).toNatClampNeg ∧ ¬ m0 7 v = 3)) := by
  obtain ⟨h1, h2, h3, h4⟩ := h
  have hv := h3 v List.mem_cons_self
  refine ⟨h1.1, hv.1, hv.2, ?_⟩
  match r, h2, h4 with
  | [], _, h4 => exact Or.inl ⟨rfl, h4⟩
  | w :: r', h2, h4 =>
    refine Or.inr ⟨by simp, fun e => ?_, h4.1⟩
    have hm := enF_mem (w :: r') h4.2
    rw [← e] at hm
    exact (List.nodup_cons.mp h2).1 hm
theorem okP_tail {m0 : Nat → Nat → Int32} {u : Int32} {x v : Nat} {r : List Nat} {y : Int32} (hy : 0 ≤ y.toInt ∧ y.toInt ≤ 6) (hv : v = y.toNatClampNeg) (h : okP m0 u x (v :: r)) (hr : ¬ r = []) : okP m0 (u ||| ((1 : Int32) <<< (y &&& 31))) v r := by
  obtain ⟨h1, h2, h3, h4⟩ := h
  refine ⟨h1.2, (List.nodup_cons.mp h2).2, fun w hw => ⟨(h3 w (List.mem_cons_of_mem _ hw)).1, ?_⟩, ?_⟩
  · have hne : ¬ w = v := fun e => (List.nodup_cons.mp h2).1 (by rw [← e]; exact hw)
    have hb := (h3 w (List.mem_cons_of_mem _ hw)).2
    by_cases c : w < 32
    · rw [b_or, hb, b_bit hy.1 (by omega) c, ← hv, decide_eq_false hne]
      rfl
    · unfold bt
      exact BitVec.getLsbD_of_ge _ _ (by omega)
  · match r, hr, h4 with
    | [], hr, _ => exact absurd rfl hr
    | w :: r', _, h4 => exact h4.2
theorem meet30 {num xi : Nat → Nat → Int32} {n q p : Int32} (h : xi = F_sm_meetRoute num n q p) : fixM num xi ∧ xi 0 30 = num 0 30 + 1 := by
  obtain ⟨mC, hzm, b1, b2, b3, b4⟩ := bm0_out h
  have fM : fixM num mC := ⟨fun k k1 _ k3 _ => b1 k k1 k3, fun f hf => b2 f (by omega) (by omega) (by omega), by rw [b1 16 (by decide) (by decide)]⟩
  rcases bm53_out hzm with ⟨w, e⟩ | ⟨w, e⟩
  · rw [e]
    exact ⟨fM, b3⟩
  · obtain ⟨mN, f1, f2, f3, f4⟩ := bm115_out (bm91_out e)
    have gM : fixM mC mN := ⟨fun k k1 _ _ _ => f1 k k1, fun f hf => f2 f (by omega), by rw [f1 16 (by decide)]⟩
    have y30 : mN 0 30 = num 0 30 + 1 := by rw [f2 30 (by decide), b3]
    rcases bm137_out f4 with ⟨_, e5⟩ | ⟨_, k1, k2, k3, k4, k5⟩
    · exact ⟨by rw [e5]; exact fixM_tr fM gM, by rw [e5, y30]⟩
    · have FM : fixM mN xi := ⟨fun k c1 _ _ c4 => k1 k c1 c4, fun f hf => k2 f (by omega) (by omega) (by omega) (by omega), by rw [k1 16 (by decide) (by decide)]⟩
      exact ⟨fixM_tr (fixM_tr fM gM) FM, by rw [k2 30 (by decide) (by decide) (by decide) (by decide), y30]⟩
def wyR (c : Int) (num xi : Nat → Nat → Int32) : Prop := fixM num xi ∧ (num 0 30).toInt ≤ (xi 0 30).toInt ∧ (xi 0 30).toInt ≤ c
def famS (m0 : Nat → Nat → Int32) (fr : Nat) (S : Nat → Nat → Prop) : Prop := ∀ r v y : Nat, r ≤ 6 → (v : Int) < (m0 0 8).toInt → y < 32 → S r v → (v = fr ∨ ¬ m0 7 v = 3) → adj m0 v y → S (r + 1) y

