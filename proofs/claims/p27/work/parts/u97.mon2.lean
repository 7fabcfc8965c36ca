-- ===== money stays, over each call =====
theorem purM_two {T : Int} {B x h : Nat} {A : Nat → Int32} {p : Int32} (hA : purM T B A) (hT : T ≤ 1000000) (hx : x < B) (hh : h < B) (hp : 0 ≤ p.toInt) (hle : p.toInt ≤ (A x).toInt) : purM T B (upd (upd A x (A x - p)) h (upd A x (A x - p) h + p)) := by
  have ax := purM_at hA hx
  have e1 : (A x - p : Int32).toInt = (A x).toInt - p.toInt := tI_sub rfl rfl (by omega) (by omega)
  have t1 := tot_upd (f := A) (x := x) (v := A x - p) B hx
  have g1 : purM (T - p.toInt) B (upd A x (A x - p)) := by
    refine ⟨fun y hy => ?_, by rw [t1, e1]; have := hA.2; omega⟩
    by_cases c : y = x
    · subst c
      have : upd A y (A y - p) y = A y - p := by simp [upd]
      rw [this, e1]
      omega
    · have : upd A x (A x - p) y = A y := by simp [upd, c]
      rw [this]
      exact hA.1 y hy
  have gh := purM_at g1 hh
  have e2 : (upd A x (A x - p) h + p : Int32).toInt = (upd A x (A x - p) h).toInt + p.toInt := tI_add rfl rfl (by omega) (by omega)
  have t2 := tot_upd (f := upd A x (A x - p)) (x := h) (v := upd A x (A x - p) h + p) B hh
  refine ⟨fun y hy => ?_, by rw [t2, e2]; have := g1.2; omega⟩
  by_cases c : y = h
  · subst c
    have : upd (upd A x (A x - p)) y (upd A x (A x - p) y + p) y = upd A x (A x - p) y + p := by simp [upd]
    rw [this, e2]
    omega
  · have : upd (upd A x (A x - p)) h (upd A x (A x - p) h + p) y = upd A x (A x - p) y := by simp [upd, c]
    rw [this]
    exact g1.1 y hy
theorem price_rng {mum : Nat → Nat → Int32} {k : Int32} {T : Int} (hk : 0 ≤ k.toInt ∧ k.toInt ≤ 3) (hT : T ≤ 1000000) (hp : 0 ≤ (mum 10 (10 * k.toNatClampNeg + 6)).toInt ∧ (mum 10 (10 * k.toNatClampNeg + 6)).toInt ≤ T) : 0 ≤ (F_sm_priceOf mum k).toInt ∧ (F_sm_priceOf mum k).toInt ≤ 2 * T + 6 := by
  have e : F_sm_priceOf mum k = F_sx_priceAsked (mum 7 (F_sm_letterOf5 mum k).toNatClampNeg) (F_sm_letterOf mum k 6) := rfl
  rw [e, fm_letterOf hk (by decide)]
  exact asks_rng hp hT
theorem sale_mon {mux mum : Nat → Nat → Int32} {k x : Int32} {T : Int} (hT : 0 ≤ T ∧ T ≤ 1000000) (bd : bdM mum) (hC : core mux mum) (hm : mon T mum) (hk : 0 ≤ k.toInt ∧ k.toInt < (mum 0 15).toInt) (hx : 0 ≤ x.toInt ∧ x.toInt < (mum 0 8).toInt) (hbit : bt (F_sm_canSell mum k) x.toNatClampNeg = true) (hn : (mum 0 17).toInt < 40) : mon T (F_sm_sellTo mum k x) := by
  obtain ⟨hb, hpa, hsent, hled⟩ := bd
  obtain ⟨mp, ml, ms, mk⟩ := hm
  have ck := tC_of hk.1
  have cx := tC_of hx.1
  have cb := tC_of hb.1
  have cs := tC_of hsent.1
  have cl := tC_of hled.1
  have hk3 : 0 ≤ k.toInt ∧ k.toInt ≤ 3 := ⟨hk.1, by omega⟩
  obtain ⟨lf, l1, l5, l9⟩ : oneR (mum 0 8).toInt (mux (61 + k.toNatClampNeg)) (mum 10) k.toNatClampNeg := hC.2.2.2.2.2.1 k.toNatClampNeg (by omega)
  have g5 : mux (61 + k.toNatClampNeg) 5 = mum 10 (10 * k.toNatClampNeg + 5) := lf 5 (by decide)
  rw [g5] at l5
  have c5 := tC_of l5.1
  obtain ⟨pk, wk, fk, sk⟩ := ml k.toNatClampNeg (by omega)
  have pr := price_rng hk3 hT.2 pk
  have ple := can_price hb ⟨hx.1, by omega⟩ hbit
  have px := purM_at mp (x := x.toNatClampNeg) (by omega)
  obtain ⟨m1, m2, m3, m4, ⟨m51, m52, m53, m54, m55⟩, m6, m7, m8, m9, m10, m11, m12, m13⟩ := es_m (xi := F_sm_sellTo mum k x) hk3 ⟨hled.1, hn⟩ rfl
  generalize F_sm_sellTo mum k x = xi at m1 m2 m3 m4 m51 m52 m53 m54 m55 m6 m7 m8 m9 m10 m11 m12 m13 ⊢
  have e17 : (mum 0 17 + 1 : Int32).toInt = (mum 0 17).toInt + 1 := vp1 (by omega)
  have c17 := tC_of (v := mum 0 17 + 1) (by omega)
  refine ⟨?_, ?_, ?_, ?_⟩
  · rw [m2 8 (by decide), m7]
    exact purM_two mp hT.2 (by omega) (by omega) pr.1 ple
  · rw [m2 15 (by decide)]
    intro q hq
    by_cases e : q = k.toNatClampNeg
    · subst e
      rw [m10, m8 _ (Or.inl (by omega)), m8 _ (Or.inl (by omega)), m8 _ (Or.inl (by omega))]
      exact ⟨⟨pr.1, by omega⟩, wk, fk, sk⟩
    · rw [m8 _ (by omega), m8 _ (by omega), m8 _ (by omega), m8 _ (by omega)]
      exact ml q hq
  · unfold monS
    rw [m3, m2 8 (by decide)]
    intro s hs
    by_cases e : s = (mum 0 17).toNatClampNeg
    · subst e
      rw [m53]
      exact ⟨purM_of mp (fun z hz => m6 z (by omega)), pk⟩
    · rw [m4 _ (Or.inl (by omega))]
      obtain ⟨a, b⟩ := ms s (by omega)
      exact ⟨purM_of a (fun z hz => m4 _ (Or.inl (by omega))), b⟩
  · unfold monK
    rw [m2 8 (by decide), m1 15 (by decide) (by decide) (by decide) (by decide)]
    exact mk
theorem purse_mon {x v r2 : Int32} {mum xi2 : Nat → Nat → Int32} {T : Int} (okm : okR loM hiM mum) (hm : mon T mum) (h2 : (r2, xi2) = F_qm_purse mum x v) : mon (T + 999) xi2 := by
  have hb : 0 ≤ (mum 0 8).toInt ∧ (mum 0 8).toInt ≤ 7 := okm 0 8
  have cb := tC_of hb.1
  have z0 : (0 : Int32).toInt = 0 := rfl
  have z9 : (999 : Int32).toInt = 999 := rfl
  have up := mon_le hm (show T ≤ T + 999 by omega)
  simp only [F_qm_purse, letv_eq] at h2
  by_cases cx : F_sm_isOne mum x = 1
  · rw [if_pos cx] at h2
    have hx := (fm_isOne hb).mp cx
    have cx2 := tC_of hx.1
    by_cases cv : F_sm_in v 0 999 = 1
    · have hv := fm_in.mp cv
      rw [if_pos cv] at h2
      have v2 := (Prod.mk.inj h2).2.symm
      have fm : ∀ c : Nat, c ≠ 8 → xi2 c = mum c := fun c hc => up_k v2 hc
      obtain ⟨mp, ml, ms, mk⟩ := hm
      obtain ⟨_, ul, us, uk⟩ := up
      have po := purM_at mp (x := x.toNatClampNeg) (by omega)
      refine ⟨?_, ?_, ?_, ?_⟩
      · rw [fm 0 (by decide), up_c v2]
        refine ⟨fun y hy => ?_, ?_⟩
        · by_cases c : y = x.toNatClampNeg
          · subst c
            simp only [upd, if_true]
            omega
          · simp only [upd, if_neg c]
            exact mp.1 y hy
        · rw [tot_upd _ (by omega)]
          have := mp.2
          omega
      · rw [fm 0 (by decide), fm 10 (by decide)]; exact ul
      · unfold monS
        rw [fm 0 (by decide), fm 14 (by decide)]; exact us
      · unfold monK
        rw [fm 0 (by decide), fm 15 (by decide)]; exact uk
    · rw [if_neg cv] at h2
      rw [(Prod.mk.inj h2).2]
      exact up
  · rw [if_neg cx] at h2
    rw [(Prod.mk.inj h2).2]
    exact up
theorem send_mon {x y w l r2 : Int32} {mum xi2 : Nat → Nat → Int32} {T : Int} (okm : okR loM hiM mum) (hT : 0 ≤ T) (hday : 0 ≤ (mum 0 14).toInt ∧ (mum 0 14).toInt ≤ 99) (hm : mon T mum) (h2 : (r2, xi2) = F_qm_send mum x y w l) : mon T xi2 := by
  have hsent : 0 ≤ (mum 0 15).toInt ∧ (mum 0 15).toInt ≤ 4 := okm 0 15
  have cs := tC_of hsent.1
  have z0 : (0 : Int32).toInt = 0 := rfl
  have z9 : (9 : Int32).toInt = 9 := rfl
  have z99 : (99 : Int32).toInt = 99 := rfl
  have h2' := h2
  unfold F_qm_send at h2
  by_cases c1 : F_sm_areTwo mum x y = 1
  · rw [if_pos c1] at h2
    by_cases c2 : F_sm_in w 0 99 = 1
    · rw [if_pos c2] at h2
      by_cases c3 : F_sm_in l 0 9 = 1
      · rw [if_pos c3] at h2
        have hw := fm_in.mp c2
        have hl := fm_in.mp c3
        by_cases c4 : (mum 0 15).toInt ≤ 3
        · obtain ⟨m1, m2, m3, m4, m5, q0, q1, q2, q3, q4, q5, q6, q7, q8, q9⟩ := sd_m c1 c2 c3 ⟨hsent.1, c4⟩ h2'
          obtain ⟨mp, ml, ms, mk⟩ := hm
          have ad : (mum 0 15 + 1 : Int32).toInt = (mum 0 15).toInt + 1 := vp1 (by omega)
          have adn := tC_of (v := mum 0 15 + 1) (by omega)
          refine ⟨?_, ?_, ?_, ?_⟩
          · rw [m3 8 (by decide), m2 8 (by decide) (by decide)]; exact mp
          · rw [m4]
            intro q hq
            by_cases e : q = (mum 0 15).toNatClampNeg
            · subst e
              rw [q6, q2, q3, q4, z0]
              exact ⟨⟨Int.le_refl _, hT⟩, ⟨by omega, by omega⟩, ⟨by omega, by omega⟩, hday⟩
            · rw [m5 _ (by omega), m5 _ (by omega), m5 _ (by omega), m5 _ (by omega)]
              exact ml q (by omega)
          · unfold monS
            rw [m3 8 (by decide), m3 17 (by decide), m2 14 (by decide) (by decide)]; exact ms
          · unfold monK
            rw [m3 8 (by decide), m2 15 (by decide) (by decide)]; exact mk
        · have e4 : mum 0 15 = 4 := Int32.toInt_inj.mp (by show _ = (4 : Int); omega)
          simp only [letv_eq] at h2
          rw [if_pos e4] at h2
          rw [(Prod.mk.inj h2).2]
          exact hm
      · rw [if_neg c3] at h2
        rw [(Prod.mk.inj h2).2]
        exact hm
    · rw [if_neg c2] at h2
      rw [(Prod.mk.inj h2).2]
      exact hm
  · rw [if_neg c1] at h2
    rw [(Prod.mk.inj h2).2]
    exact hm
theorem meet_mon {a : Int32} {mum : Nat → Nat → Int32} {T : Int} (hm : mon T mum) : mon T (F_sm_meet mum a).2 :=
  mon_of hm (fm_meet.2.2 8 (by decide)) (fm_meet.2.2 15 (by decide)) (fm_meet.2.2 17 (by decide)) (funext fun f => fm_meet.2.1 8 f (by decide) (by decide)) (funext fun f => fm_meet.2.1 10 f (by decide) (by decide)) (funext fun f => fm_meet.2.1 14 f (by decide) (by decide)) (funext fun f => fm_meet.2.1 15 f (by decide) (by decide))
theorem sell_mon {k x r2 : Int32} {mux mum xi2 : Nat → Nat → Int32} {T : Int} (hT : 0 ≤ T ∧ T ≤ 1000000) (okm : okR loM hiM mum) (hC : core mux mum) (hm : mon T mum) (h2 : (r2, xi2) = F_qm_sell mum k x) : mon T xi2 := by
  have bd := bd_of okm
  have hb := bd.1
  have hled := bd.2.2.2
  unfold F_qm_sell at h2
  by_cases c0 : k < (0 : Int32)
  · rw [if_pos c0] at h2
    rw [(Prod.mk.inj h2).2]
    exact hm
  · rw [if_neg c0] at h2
    by_cases c1 : F_sm_isOne mum x = 1
    · rw [if_pos c1] at h2
      have hx := (fm_isOne hb).mp c1
      have cx := tC_of hx.1
      rcases fm_askL (mum := mum) (k := k) with ⟨hk, q2⟩ | ⟨hk, hk2, q2⟩ | ⟨hk, q2⟩
      · rw [q2] at h2
        simp only [letp_eq, letv_eq] at h2
        rw [if_pos trivial] at h2
        by_cases c2 : F_sm_has (F_sm_canSell mum k) x = 1
        · rw [if_pos c2] at h2
          have hbit : bt (F_sm_canSell mum k) x.toNatClampNeg = true := by
            cases hq : bt (F_sm_canSell mum k) x.toNatClampNeg
            · exact absurd c2 (hb_f hx.1 (by omega) hq).2
            · rfl
          by_cases c40 : mum 0 17 = 40
          · rw [if_pos c40] at h2
            rw [(Prod.mk.inj h2).2]
            exact hm
          · rw [if_neg c40] at h2
            have l40 : (mum 0 17).toInt < 40 := by
              have : ¬ (mum 0 17).toInt = (40 : Int32).toInt := fun e => c40 (Int32.toInt_inj.mp e)
              have z : (40 : Int32).toInt = 40 := rfl
              omega
            have sm := sale_mon hT bd hC hm hk hx hbit l40
            split at h2
            · rw [(Prod.mk.inj h2).2]
              exact sm
            · rw [(Prod.mk.inj h2).2]
              exact sm
        · rw [if_neg c2] at h2
          rw [(Prod.mk.inj h2).2]
          exact hm
      · rw [q2] at h2
        simp only [letp_eq] at h2
        rw [if_neg n3] at h2
        rw [(Prod.mk.inj h2).2]
        exact meet_mon hm
      · rw [q2] at h2
        simp only [letp_eq] at h2
        rw [if_neg n1] at h2
        rw [(Prod.mk.inj h2).2]
        exact hm
    · rw [if_neg c1] at h2
      rw [(Prod.mk.inj h2).2]
      exact hm
theorem keep_mon {v r2 : Int32} {mum xi2 : Nat → Nat → Int32} {T : Int} (okm : okR loM hiM mum) (hm : mon T mum) (h2 : (r2, xi2) = F_qm_keep mum v) : mon T xi2 := by
  have hb : 0 ≤ (mum 0 8).toInt ∧ (mum 0 8).toInt ≤ 7 := okm 0 8
  have cb := tC_of hb.1
  have hsent : 0 ≤ (mum 0 15).toInt ∧ (mum 0 15).toInt ≤ 4 := okm 0 15
  have cs := tC_of hsent.1
  have z0 : (0 : Int32).toInt = 0 := rfl
  have z2 : (2 : Int32).toInt = 2 := rfl
  by_cases cv : 0 ≤ v.toInt ∧ v.toInt ≤ 2
  · by_cases c0 : mum 0 8 = 0
    · unfold F_qm_keep at h2
      rw [if_pos (fm_in.mpr ⟨by omega, by omega⟩)] at h2
      simp only [letv_eq] at h2
      rw [if_pos c0] at h2
      rw [(Prod.mk.inj h2).2]
      exact hm
    · obtain ⟨g1, hmm⟩ := fm_keep cv c0
      rw [p_snd h2] at hmm
      have cvn := tC_of cv.1
      obtain ⟨mp, ml, ms, mk⟩ := hm
      generalize v.toNatClampNeg = J at hmm cvn
      have hJ : J < 3 := by omega
      have fm : ∀ c : Nat, c ≠ 15 → xi2 c = mum c := fun c h => funext fun f => by
        rw [hmm c f, if_neg (fun e => h e.1), if_neg (fun e => h e.1), if_neg (fun e => h e.1), if_neg (fun e => h e.1), if_neg (fun e => h e.1)]
      refine ⟨?_, ?_, ?_, ?_⟩
      · rw [fm 0 (by decide), fm 8 (by decide)]; exact mp
      · rw [fm 0 (by decide), fm 10 (by decide)]; exact ml
      · unfold monS
        rw [fm 0 (by decide), fm 14 (by decide)]; exact ms
      · intro j hj
        rw [fm 0 (by decide)]
        by_cases e : j = J
        · subst e
          have a2 : xi2 15 (64 * j + 2) = mum 0 15 := by rw [hmm, if_neg (fun h => by omega), if_neg (fun h => by omega), if_neg (fun h => by omega), if_neg (fun h => by omega), if_pos ⟨rfl, rfl⟩]
          rw [a2]
          refine Or.inr ⟨purM_of mp (fun x hx => ?_), letM_of ml (fun q hq f hf => ?_)⟩
          · show xi2 15 (64 * j + 3 + x) = mum 8 x
            rw [hmm, if_neg (fun h => by omega), if_pos ⟨rfl, by omega, by omega⟩, show 64 * j + 3 + x - (64 * j + 3) = x by omega]
          · show xi2 15 (64 * j + 10 + (10 * q + f)) = mum 10 (10 * q + f)
            rw [hmm, if_pos ⟨rfl, by omega, by omega⟩, show 64 * j + 10 + (10 * q + f) - (64 * j + 10) = 10 * q + f by omega]
        · have o15 : ∀ f : Nat, 64 * j ≤ f → f < 64 * j + 50 → xi2 15 f = mum 15 f := fun f h1 h2 => by
            rw [hmm, if_neg (fun h => by omega), if_neg (fun h => by omega), if_neg (fun h => by omega), if_neg (fun h => by omega), if_neg (fun h => by omega)]
          have k4 : mum 15 (64 * j) = -9 ∨ True := Or.inr trivial
          rw [o15 (64 * j) (by omega) (by omega), o15 (64 * j + 2) (by omega) (by omega)]
          have b4 : (mum 15 (64 * j + 2)).toNatClampNeg ≤ 4 := by
            have key : ∀ j : Nat, j < 3 → loM 15 (64 * j + 2) = 0 ∧ hiM 15 (64 * j + 2) = 4 := by decide +kernel
            have ok := okm 15 (64 * j + 2)
            rw [(key j hj).1, (key j hj).2] at ok
            have := tC_of ok.1
            omega
          rcases mk j hj with a | ⟨a, b⟩
          · exact Or.inl a
          · refine Or.inr ⟨purM_of a (fun x hx => o15 _ (by omega) (by omega)), letM_of b (fun q hq f hf => o15 _ (by omega) (by omega))⟩
  · unfold F_qm_keep at h2
    rw [if_neg (fun e => by have := fm_in.mp e; omega)] at h2
    rw [(Prod.mk.inj h2).2]
    exact hm
theorem on_mon {v r2 : Int32} {mum xi2 : Nat → Nat → Int32} {T : Int} (okm : okR loM hiM mum) (hm : mon T mum) (h2 : (r2, xi2) = F_qm_on mum v) : mon T xi2 := by
  have hb : 0 ≤ (mum 0 8).toInt ∧ (mum 0 8).toInt ≤ 7 := okm 0 8
  have cb := tC_of hb.1
  have z0 : (0 : Int32).toInt = 0 := rfl
  have z2 : (2 : Int32).toInt = 2 := rfl
  by_cases cv : 0 ≤ v.toInt ∧ v.toInt ≤ 2
  · have cvn := tC_of cv.1
    by_cases c9 : mum 15 (64 * v.toNatClampNeg) = -9
    · have m64 : (64 * v : Int32).toInt = 64 * v.toInt := tI_mul (rfl : (64 : Int32).toInt = 64) rfl (by omega) (by omega)
      have c64 := tC_of (v := 64 * v) (by omega)
      have n64 : (64 * v : Int32).toNatClampNeg = 64 * v.toNatClampNeg := by omega
      unfold F_qm_on at h2
      rw [if_pos (fm_in.mpr ⟨by omega, by omega⟩)] at h2
      simp only [letv_eq, letp_eq] at h2
      rw [n64, if_pos c9] at h2
      rw [(Prod.mk.inj h2).2]
      exact meet_mon hm
    · obtain ⟨g1, hmm⟩ := fm_on cv c9
      rw [p_snd h2] at hmm
      obtain ⟨mp, ml, ms, mk⟩ := hm
      have hJ : v.toNatClampNeg < 3 := by omega
      obtain ⟨ka, kb⟩ : purM T (mum 0 8).toNatClampNeg (fun x => mum 15 (64 * v.toNatClampNeg + 3 + x)) ∧ letM T (mum 15 (64 * v.toNatClampNeg + 2)).toNatClampNeg (fun i => mum 15 (64 * v.toNatClampNeg + 10 + i)) := by
        rcases mk _ hJ with a | a
        · exact absurd a c9
        · exact a
      have b4 : (mum 15 (64 * v.toNatClampNeg + 2)).toNatClampNeg ≤ 4 := by
        have key : ∀ j : Nat, j < 3 → loM 15 (64 * j + 2) = 0 ∧ hiM 15 (64 * j + 2) = 4 := by decide +kernel
        have ok := okm 15 (64 * v.toNatClampNeg + 2)
        rw [(key _ hJ).1, (key _ hJ).2] at ok
        have := tC_of ok.1
        omega
      generalize v.toNatClampNeg = J at hmm ka kb b4
      have m8 : xi2 0 8 = mum 0 8 := by rw [hmm]; simp
      have m15 : xi2 0 15 = mum 15 (64 * J + 2) := by rw [hmm]; simp
      have m17 : xi2 0 17 = 0 := by rw [hmm]; simp
      have c15 : xi2 15 = mum 15 := funext fun f => by rw [hmm]; simp
      refine ⟨?_, ?_, ?_, ?_⟩
      · rw [m8]
        refine purM_of ka (fun x hx => ?_)
        rw [hmm, if_neg (fun h => by omega), if_neg (fun h => by omega), if_pos ⟨rfl, by omega⟩]
      · rw [m15]
        refine letM_of kb (fun q hq f hf => ?_)
        rw [hmm, if_pos ⟨rfl, by omega⟩]
      · unfold monS
        rw [m17]
        intro s hs
        exact absurd hs (Nat.not_lt_zero _)
      · unfold monK
        rw [m8, c15]
        exact mk
  · unfold F_qm_on at h2
    rw [if_neg (fun e => by have := fm_in.mp e; omega)] at h2
    rw [(Prod.mk.inj h2).2]
    exact hm
def monN (T : Int) (c : Int32) (mum : Nat → Nat → Int32) : Prop := purM T (mum 0 8).toNatClampNeg (mum 8) ∧ letM T (mum 0 15).toNatClampNeg (mum 10) ∧ monS T c.toNatClampNeg mum ∧ monK T mum
theorem undo_mon_loop {t vn : Int32} {T : Int} (hvn : 0 ≤ vn.toInt) : ∀ (n : Nat) (v : Int32) (mux mum : Nat → Nat → Int32), (0 ≤ (mum 0 8).toInt ∧ (mum 0 8).toInt ≤ 7) → (0 ≤ (mum 0 15).toInt ∧ (mum 0 15).toInt ≤ 4) → coreN (v + 1) mux mum → monN T (v + 1) mum → -1 ≤ v.toInt → v.toInt < 40 → vn.toInt ≤ v.toInt + 1 → (v.toInt + 1 - vn.toInt).toNat < n → mon T (L_qm_undo_28_0 t vn n v mum).2 := by
  intro n
  induction n with
  | zero => intro v mux mum _ _ _ _ _ _ _ h; exact absurd h (Nat.not_lt_zero _)
  | succ n ih =>
    intro v mux mum okb oks hC hM hv hv40 hle hn
    have av : (v + 1 : Int32).toInt = v.toInt + 1 := vp1 (by omega)
    have cv1 := tC_of (v := v + 1) (by omega)
    by_cases c : v.toInt < vn.toInt
    · rw [L_qm_undo_28_0, if_pos (vv_lt.mpr c)]
      simp only [letv_eq]
      generalize hv2 : va_up mum 0 (upd (mum 0) 17 vn) = nu
      have evn : v + 1 = vn := Int32.toInt_inj.mp (by omega)
      rw [evn] at hM
      obtain ⟨mp, ml, ms, mk⟩ := hM
      have n17 : nu 0 17 = vn := (up_v hv2).symm
      have nf : ∀ f : Nat, f ≠ 17 → nu 0 f = mum 0 f := fun f hf => up_f hv2 hf
      have nc : ∀ c : Nat, c ≠ 0 → nu c = mum c := fun c hc => up_k hv2 hc
      refine ⟨?_, ?_, ?_, ?_⟩
      · rw [nf 8 (by decide), nc 8 (by decide)]; exact mp
      · rw [nf 15 (by decide), nc 10 (by decide)]; exact ml
      · unfold monS
        rw [n17, nf 8 (by decide), nc 14 (by decide)]; exact ms
      · unfold monK
        rw [nf 8 (by decide), nc 15 (by decide)]; exact mk
    · have hv0 : 0 ≤ v.toInt := by omega
      have cv := tC_of hv0
      obtain ⟨⟨a1, a2, a3⟩, -⟩ := hC.2.2.2.2.2.2.1 v.toNatClampNeg (by omega)
      have ck := tC_of a2
      have ek : mum 14 (12 * v.toNatClampNeg) = nI (mum 14 (12 * v.toNatClampNeg)).toNatClampNeg := nI_at a2
      have k4 : (mum 14 (12 * v.toNatClampNeg)).toNatClampNeg < 4 := by omega
      obtain ⟨xi2, g1, m1, m2, m3, m5, m6, m7, m8, m9⟩ := um_m (t3 := t) (vn := vn) (v := v) (n := n) (S := v.toNatClampNeg) (K := (mum 14 (12 * v.toNatClampNeg)).toNatClampNeg) (mu := mum) (by omega) (by omega) c ek k4
      have st := undo_step (S := v.toNatClampNeg) (xi1 := F_sx_undoLast mux) okb oks hC (by omega) (by omega) ek k4 rfl m1 m2 m3 m5 m6 m7 m8 m9
      generalize (mum 14 (12 * v.toNatClampNeg)).toNatClampNeg = K at m3 m5 m6 m7 m8 m9 k4
      have m0 : xi2 0 = mum 0 := m1 0 (by decide) (by decide)
      obtain ⟨mp, ml, ms, mk⟩ := hM
      have cb := tC_of okb.1
      obtain ⟨sp, sa, sb⟩ := ms v.toNatClampNeg (by omega)
      have em : v + 1 - 1 = v + (-1) + 1 := v_pm hv hv40
      have b2 : (v + (-1) : Int32).toInt = v.toInt - 1 := vm1 (by omega)
      rw [em] at st
      rw [g1]
      generalize v + (-1) = w at st b2 ⊢
      clear em
      have aw : (w + 1 : Int32).toInt = w.toInt + 1 := vp1 (by omega)
      have cw := tC_of (v := w + 1) (by omega)
      have mN : monN T (w + 1) xi2 := by
        refine ⟨?_, ?_, ?_, ?_⟩
        · rw [m0]
          exact purM_of sp (fun z hz => m2 z (by omega))
        · rw [m0]
          intro q hq
          by_cases e : q = K
          · subst e
            rw [m6, m3 _ (Or.inl (by omega)), m3 _ (Or.inl (by omega)), m3 _ (Or.inl (by omega))]
            obtain ⟨-, r⟩ := ml q hq
            exact ⟨⟨sa, sb⟩, r⟩
          · rw [m3 _ (by omega), m3 _ (by omega), m3 _ (by omega), m3 _ (by omega)]
            exact ml q hq
        · unfold monS
          rw [m0, m1 14 (by decide) (by decide)]
          intro s hs
          exact ms s (by omega)
        · unfold monK
          rw [m0, m1 15 (by decide) (by decide)]
          exact mk
      exact ih w _ xi2 (by rw [m0]; exact okb) (by rw [m0]; exact oks) st mN (by omega) (by omega) (by omega) (by omega)
theorem undo_mon {n r2 : Int32} {mux mum xi2 : Nat → Nat → Int32} {T : Int} (okm : okR loM hiM mum) (hC : core mux mum) (hm : mon T mum) (h2 : (r2, xi2) = F_qm_undo mum n) : mon T xi2 := by
  have hled : 0 ≤ (mum 0 17).toInt ∧ (mum 0 17).toInt ≤ 40 := okm 0 17
  have z0 : (0 : Int32).toInt = 0 := rfl
  have z1 : (1 : Int32).toInt = 1 := rfl
  simp only [F_qm_undo, letv_eq] at h2
  by_cases cn : F_sm_in n 0 (mum 0 17) = 1
  · rw [if_pos cn] at h2
    have hn := fm_in.mp cn
    have a2 : (mum 0 17 - 1 : Int32).toInt = (mum 0 17).toInt - 1 := tI_sub rfl z1 (by omega) (by omega)
    have a3 : (mum 0 17 - 1 + 1 : Int32).toInt = (mum 0 17).toInt := by
      have := vp1 (v := mum 0 17 - 1) (by omega)
      omega
    have e3 : mum 0 17 - 1 + 1 = mum 0 17 := Int32.toInt_inj.mp a3
    have key := undo_mon_loop (t := mum 0 17 - n) (vn := n) (T := T) (by omega) 43 (mum 0 17 - 1) mux mum (okm 0 8) (okm 0 15) (by rw [e3]; exact hC) (by rw [e3]; exact hm) (by omega) (by omega) (by omega) (by omega)
    rw [p_snd h2] at key
    exact key
  · rw [if_neg cn] at h2
    rw [(Prod.mk.inj h2).2]
    exact hm

