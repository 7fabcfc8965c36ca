-- ===== keep and on =====
theorem letR_of2 {B : Int} {n : Nat} {lx lx' : Nat → Nat → Int32} {lm lm' : Nat → Int32} (h : letR B n lx lm) (h1 : ∀ k : Nat, k < n → ∀ f : Nat, f < 10 → lx' k f = lx k f) (h2 : ∀ k : Nat, k < n → ∀ f : Nat, f < 10 → lm' (10 * k + f) = lm (10 * k + f)) : letR B n lx' lm' := by
  intro k hk
  obtain ⟨a, b, c, d⟩ := h k hk
  have pl : ∀ f : Nat, f < 10 → pfm f < 10 := by decide
  rw [h1 k hk 1 (by decide), h1 k hk 5 (by decide), h1 k hk 9 (by decide)]
  exact ⟨fun f hf => by rw [h1 k hk f hf, a f hf, h2 k hk _ (pl f hf)], b, c, d⟩
theorem keep_core {J : Nat} {mux mum xi1 xi2 : Nat → Nat → Int32} (okm : okR loM hiM mum) (hJ : J < 3) (hC : core mux mum) (hx : ∀ c f : Nat, xi1 c f = if c = 18 + J ∧ f = 5 then 1 else if 65 + 4 * J ≤ c ∧ c < 69 + 4 * J ∧ f < 10 then mux (c - (65 + 4 * J) + 61) f else if c = 18 + J ∧ 2 ≤ f ∧ f ≤ 4 then mux 5 f else if c = 40 + J ∧ f < 7 then mux 46 f else mux c f) (hm : ∀ k f : Nat, xi2 k f = if k = 15 ∧ 64 * J + 10 ≤ f ∧ f < 64 * J + 50 then mum 10 (f - (64 * J + 10)) else if k = 15 ∧ 64 * J + 3 ≤ f ∧ f < 64 * J + 10 then mum 8 (f - (64 * J + 3)) else if k = 15 ∧ f = 64 * J then mum 0 14 else if k = 15 ∧ f = 64 * J + 1 then mum 0 13 else if k = 15 ∧ f = 64 * J + 2 then mum 0 15 else mum k f) : core xi1 xi2 := by
  obtain ⟨hK, hE, ⟨s2, s3, s4, s6⟩, hday, hP, hL, hS, hA⟩ := hC
  have hb : 0 ≤ (mum 0 8).toInt ∧ (mum 0 8).toInt ≤ 7 := okm 0 8
  have hsent : 0 ≤ (mum 0 15).toInt ∧ (mum 0 15).toInt ≤ 4 := okm 0 15
  have hled : 0 ≤ (mum 0 17).toInt ∧ (mum 0 17).toInt ≤ 40 := okm 0 17
  have cs := tC_of hsent.1
  have cl := tC_of hled.1
  have cb := tC_of hb.1
  have fx : ∀ c : Nat, c ≠ 18 + J → c ≠ 40 + J → ¬ (65 + 4 * J ≤ c ∧ c < 69 + 4 * J) → xi1 c = mux c := fun c h1 h2 h3 => funext fun f => by
    rw [hx c f, if_neg (fun h => h1 h.1), if_neg (fun h => h3 ⟨h.1, h.2.1⟩), if_neg (fun h => h1 h.1), if_neg (fun h => h2 h.1)]
  have fm : ∀ c : Nat, c ≠ 15 → xi2 c = mum c := fun c h => funext fun f => by
    rw [hm c f, if_neg (fun e => h e.1), if_neg (fun e => h e.1), if_neg (fun e => h e.1), if_neg (fun e => h e.1), if_neg (fun e => h e.1)]
  have x5 : xi1 5 = mux 5 := fx 5 (by omega) (by omega) (by omega)
  have m0 : xi2 0 = mum 0 := fm 0 (by decide)
  refine ⟨?_, ?_, ⟨?_, ?_, ?_, ?_⟩, ?_, ?_, ?_, ?_, ?_⟩
  · unfold simK
    rw [fx 4 (by omega) (by omega) (by omega), fx 34 (by omega) (by omega) (by omega), fx 35 (by omega) (by omega) (by omega), fx 36 (by omega) (by omega) (by omega), m0, fm 7 (by decide), fm 9 (by decide)]
    exact hK
  · unfold endR
    rw [m0, fm 9 (by decide)]
    exact hE
  · rw [x5, m0]; exact s2
  · rw [x5, m0]; exact s3
  · rw [x5, m0]; exact s4
  · rw [fx 6 (by omega) (by omega) (by omega), m0]; exact s6
  · rw [m0]; exact hday
  · rw [m0, fx 46 (by omega) (by omega) (by omega), fm 8 (by decide)]; exact hP
  · rw [m0, fm 10 (by decide)]
    exact letR_of hL (fun q hq => fx _ (by omega) (by omega) (by omega)) (fun _ _ _ _ => rfl)
  · unfold salR salN
    rw [m0, fm 14 (by decide)]
    intro s hs
    rw [fx (77 + s) (by omega) (by omega) (by omega), fx (117 + s) (by omega) (by omega) (by omega)]
    exact hS s hs
  · intro j hj
    rw [m0]
    by_cases e : j = J
    · subst e
      have a0 : xi2 15 (64 * j) = mum 0 14 := by rw [hm, if_neg (fun h => by omega), if_neg (fun h => by omega), if_pos ⟨rfl, rfl⟩]
      have a1 : xi2 15 (64 * j + 1) = mum 0 13 := by rw [hm, if_neg (fun h => by omega), if_neg (fun h => by omega), if_neg (fun h => by omega), if_pos ⟨rfl, rfl⟩]
      have a2 : xi2 15 (64 * j + 2) = mum 0 15 := by rw [hm, if_neg (fun h => by omega), if_neg (fun h => by omega), if_neg (fun h => by omega), if_neg (fun h => by omega), if_pos ⟨rfl, rfl⟩]
      have b5 : xi1 (18 + j) 5 = 1 := by rw [hx, if_pos ⟨rfl, rfl⟩]
      have b2 : ∀ f : Nat, 2 ≤ f → f ≤ 4 → xi1 (18 + j) f = mux 5 f := fun f h1 h2 => by rw [hx, if_neg (fun h => by omega), if_neg (fun h => by omega), if_pos ⟨rfl, h1, h2⟩]
      rw [a0, a1, a2]
      refine Or.inr ⟨by rw [b5]; decide, hday, (b2 3 (by decide) (by decide)).trans s3, (b2 2 (by decide) (by decide)).trans s2, (b2 4 (by decide) (by decide)).trans s4, hsent, fun x hx2 => ?_, ?_⟩
      · rw [hx, if_neg (fun h => by omega), if_neg (fun h => by omega), if_neg (fun h => by omega), if_pos ⟨rfl, by omega⟩, hm, if_neg (fun h => by omega), if_pos ⟨rfl, by omega, by omega⟩, show 64 * j + 3 + x - (64 * j + 3) = x by omega]
        exact hP x hx2
      · refine letR_of2 hL (fun q hq f hf => ?_) (fun q hq f hf => ?_)
        · show xi1 (65 + 4 * j + q) f = mux (61 + q) f
          rw [hx, if_neg (fun h => by omega), if_pos ⟨by omega, by omega, hf⟩, show 65 + 4 * j + q - (65 + 4 * j) + 61 = 61 + q by omega]
        · show xi2 15 (64 * j + 10 + (10 * q + f)) = mum 10 (10 * q + f)
          rw [hm, if_pos ⟨rfl, by omega, by omega⟩, show 64 * j + 10 + (10 * q + f) - (64 * j + 10) = 10 * q + f by omega]
    · have o15 : ∀ f : Nat, 64 * j ≤ f → f < 64 * j + 50 → xi2 15 f = mum 15 f := fun f h1 h2 => by
        rw [hm, if_neg (fun h => by omega), if_neg (fun h => by omega), if_neg (fun h => by omega), if_neg (fun h => by omega), if_neg (fun h => by omega)]
      rw [fx (18 + j) (by omega) (by omega) (by omega), fx (40 + j) (by omega) (by omega) (by omega), o15 (64 * j) (by omega) (by omega), o15 (64 * j + 1) (by omega) (by omega), o15 (64 * j + 2) (by omega) (by omega)]
      rcases hA j hj with a | ⟨a, b, c, d, e2, e3, p, l⟩
      · exact Or.inl a
      · have := tC_of e3.1
        refine Or.inr ⟨a, b, c, d, e2, e3, fun x hx2 => ?_, letR_of2 l (fun q hq f hf => ?_) (fun q hq f hf => ?_)⟩
        · rw [o15 _ (by omega) (by omega)]
          exact p x hx2
        · show xi1 (65 + 4 * j + q) f = mux (65 + 4 * j + q) f
          rw [fx (65 + 4 * j + q) (by omega) (by omega) (by omega)]
        · exact o15 _ (by omega) (by omega)
theorem on_core {J : Nat} {mux mum xi1 xi2 : Nat → Nat → Int32} (okm : okR loM hiM mum) (hJ : J < 3) (hC : core mux mum) (hy : ¬ mux (18 + J) 5 = 0) (hx : ∀ c f : Nat, xi1 c f = if c = 6 ∧ f = 1 then 0 else if 61 ≤ c ∧ c < 65 ∧ f < 10 then mux (c - 61 + (65 + 4 * J)) f else if c = 5 ∧ 2 ≤ f ∧ f ≤ 4 then mux (18 + J) f else if c = 46 ∧ f < 7 then mux (40 + J) f else mux c f) (hm : ∀ k f : Nat, xi2 k f = if k = 10 ∧ f < 40 then mum 15 (64 * J + 10 + f) else if k = 0 ∧ f = 17 then 0 else if k = 8 ∧ f < 7 then mum 15 (64 * J + 3 + f) else if k = 0 ∧ f = 14 then mum 15 (64 * J) else if k = 0 ∧ f = 13 then mum 15 (64 * J + 1) else if k = 0 ∧ f = 15 then mum 15 (64 * J + 2) else mum k f) : core xi1 xi2 := by
  obtain ⟨hK, hE, ⟨s2, s3, s4, s6⟩, hday, hP, hL, hS, hA⟩ := hC
  have hb : 0 ≤ (mum 0 8).toInt ∧ (mum 0 8).toInt ≤ 7 := okm 0 8
  have cb := tC_of hb.1
  obtain ⟨b, c, d, e2, e3, p, l⟩ : (0 ≤ (mum 15 (64 * J)).toInt ∧ (mum 15 (64 * J)).toInt ≤ 99) ∧ mux (18 + J) 3 = mum 15 (64 * J) ∧ mux (18 + J) 2 = mum 15 (64 * J + 1) ∧ mux (18 + J) 4 = mum 15 (64 * J + 2) ∧ (0 ≤ (mum 15 (64 * J + 2)).toInt ∧ (mum 15 (64 * J + 2)).toInt ≤ 4) ∧ (∀ x : Nat, x < (mum 0 8).toNatClampNeg → mux (40 + J) x = mum 15 (64 * J + 3 + x)) ∧ letR (mum 0 8).toInt (mum 15 (64 * J + 2)).toNatClampNeg (fun k => mux (65 + 4 * J + k)) (fun i => mum 15 (64 * J + 10 + i)) := by
    rcases hA J hJ with a | ⟨a, r⟩
    · exact absurd a.1 hy
    · exact r
  have ce := tC_of e3.1
  have fx : ∀ c : Nat, c ≠ 6 → c ≠ 5 → c ≠ 46 → ¬ (61 ≤ c ∧ c < 65) → xi1 c = mux c := fun c h1 h2 h3 h4 => funext fun f => by
    rw [hx c f, if_neg (fun h => h1 h.1), if_neg (fun h => h4 ⟨h.1, h.2.1⟩), if_neg (fun h => h2 h.1), if_neg (fun h => h3 h.1)]
  have fm : ∀ c : Nat, c ≠ 0 → c ≠ 8 → c ≠ 10 → xi2 c = mum c := fun c h1 h2 h3 => funext fun f => by
    rw [hm c f, if_neg (fun h => h3 h.1), if_neg (fun h => h1 h.1), if_neg (fun h => h2 h.1), if_neg (fun h => h1 h.1), if_neg (fun h => h1 h.1), if_neg (fun h => h1 h.1)]
  have m8 : xi2 0 8 = mum 0 8 := by rw [hm]; simp
  have m11 : xi2 0 11 = mum 0 11 := by rw [hm]; simp
  have m13 : xi2 0 13 = mum 15 (64 * J + 1) := by rw [hm]; simp
  have m14 : xi2 0 14 = mum 15 (64 * J) := by rw [hm]; simp
  have m15 : xi2 0 15 = mum 15 (64 * J + 2) := by rw [hm]; simp
  have m17 : xi2 0 17 = 0 := by rw [hm]; simp
  have y5 : ∀ f : Nat, 2 ≤ f → f ≤ 4 → xi1 5 f = mux (18 + J) f := fun f h1 h2 => by rw [hx, if_neg (fun h => by omega), if_neg (fun h => by omega), if_pos ⟨rfl, h1, h2⟩]
  refine ⟨?_, ?_, ⟨?_, ?_, ?_, ?_⟩, ?_, ?_, ?_, ?_, ?_⟩
  · unfold simK
    rw [fx 4 (by decide) (by decide) (by decide) (by decide), fx 34 (by decide) (by decide) (by decide) (by decide), fx 35 (by decide) (by decide) (by decide) (by decide), fx 36 (by decide) (by decide) (by decide) (by decide), m8, m11, fm 7 (by decide) (by decide) (by decide), fm 9 (by decide) (by decide) (by decide)]
    exact hK
  · unfold endR
    rw [m8, m11, fm 9 (by decide) (by decide) (by decide)]
    exact hE
  · rw [y5 2 (by decide) (by decide), m13]; exact d
  · rw [y5 3 (by decide) (by decide), m14]; exact c
  · rw [y5 4 (by decide) (by decide), m15]; exact e2
  · rw [hx, if_pos ⟨rfl, rfl⟩, m17]
  · rw [m14]; exact b
  · rw [m8]
    intro x hx2
    rw [hx, if_neg (fun h => by omega), if_neg (fun h => by omega), if_neg (fun h => by omega), if_pos ⟨rfl, by omega⟩, hm, if_neg (fun h => by omega), if_neg (fun h => by omega), if_pos ⟨rfl, by omega⟩]
    exact p x hx2
  · rw [m8, m15]
    refine letR_of2 l (fun q hq f hf => ?_) (fun q hq f hf => ?_)
    · show xi1 (61 + q) f = mux (65 + 4 * J + q) f
      rw [hx, if_neg (fun h => by omega), if_pos ⟨by omega, by omega, hf⟩, show 61 + q - 61 + (65 + 4 * J) = 65 + 4 * J + q by omega]
    · show xi2 10 (10 * q + f) = mum 15 (64 * J + 10 + (10 * q + f))
      rw [hm, if_pos ⟨rfl, by omega⟩]
  · unfold salR salN
    rw [m17]
    intro s hs
    exact absurd hs (Nat.not_lt_zero _)
  · exact kepR_of hA (fun c hc => fx c (by omega) (by omega) (by omega) (by omega)) (fm 15 (by decide) (by decide) (by decide)) m8
theorem fx_isPlace {v : Int32} : F_sx_isPlace v = 1 ↔ 0 ≤ v.toInt ∧ v.toInt ≤ 2 := by
  have h0 : (0 : Int32).toInt = 0 := rfl
  have h3 : (3 : Int32).toInt = 3 := rfl
  unfold F_sx_isPlace
  by_cases c1 : v < (0 : Int32)
  · rw [if_pos c1]
    have c2 := vv_lt.mp c1
    exact ⟨fun h => absurd h (by decide), fun h => by omega⟩
  · rw [if_neg c1]
    have c2 : ¬ v.toInt < (0 : Int32).toInt := fun h => c1 (vv_lt.mpr h)
    by_cases c3 : v ≥ (3 : Int32)
    · rw [if_pos c3]
      have c4 := vv_ge.mp c3
      exact ⟨fun h => absurd h (by decide), fun h => by omega⟩
    · rw [if_neg c3]
      have c4 : ¬ (3 : Int32).toInt ≤ v.toInt := fun h => c3 (vv_ge.mpr h)
      exact ⟨fun _ => ⟨by omega, by omega⟩, fun _ => rfl⟩
theorem keep_rel {v r1 r2 : Int32} {mux mum xi1 xi2 : Nat → Nat → Int32} (okm : okR loM hiM mum) (hC : core mux mum) (h1 : (r1, xi1) = F_qx_keep mux v) (h2 : (r2, xi2) = F_qm_keep mum v) : r1 = r2 ∧ core xi1 xi2 := by
  have hC0 := hC
  obtain ⟨hK, hE, ⟨s2, s3, s4, s6⟩, hday, hP, hL, hS, hA⟩ := hC
  have z0 : (0 : Int32).toInt = 0 := rfl
  have z1 : (1 : Int32).toInt = 1 := rfl
  have z2 : (2 : Int32).toInt = 2 := rfl
  unfold F_qx_keep at h1
  by_cases cv : 0 ≤ v.toInt ∧ v.toInt ≤ 2
  · rw [if_pos (fx_isPlace.mpr cv)] at h1
    simp only [letv_eq] at h1
    rw [hK.1] at h1
    by_cases cb : mum 0 8 = 0
    · unfold F_qm_keep at h2
      rw [if_pos (fm_in.mpr ⟨by omega, by omega⟩)] at h2
      simp only [letv_eq] at h2
      rw [if_pos cb] at h1 h2
      cases h1
      cases h2
      exact ⟨rfl, hC0⟩
    · obtain ⟨g1, g2⟩ := fm_keep cv cb
      rw [p_fst h2] at g1
      rw [p_snd h2] at g2
      rw [if_neg cb] at h1
      by_cases c0 : v = 0
      · rw [if_pos c0] at h1
        have jv : v.toNatClampNeg = 0 := by rw [c0]; rfl
        rw [jv] at g2
        have lk := fx_like_18_5 (mu := mux)
        generalize F_sx_Standing_beLike_18_5 mux = nl at h1 lk
        obtain ⟨u1, u2⟩ := Prod.mk.inj h1
        have u2 := u2.symm
        have k5 : xi1 5 3 = mux 5 3 := by
          rw [congrFun (up_k u2 (by decide)) 3, lk, if_neg (by decide), if_neg (by decide), if_neg (by decide)]
        rw [u2] at u1
        refine ⟨?_, keep_core (J := 0) okm (by decide) hC0 (fun c f => ?_) g2⟩
        · rw [u1, k5, g1]; exact s3
        · by_cases e : c = 18 ∧ f = 5
          · rw [if_pos e]
            obtain ⟨e, ef⟩ := e
            subst e ef
            exact (up_v u2).symm
          · rw [if_neg e]
            have st : xi1 c f = nl c f := by
              by_cases ec : c = 18
              · subst ec
                exact up_f u2 (fun h => e ⟨rfl, h⟩)
              · exact congrFun (up_k u2 ec) f
            rw [st]
            exact lk c f
      by_cases c1 : v = 1
      · rw [if_neg c0, if_pos c1] at h1
        have jv : v.toNatClampNeg = 1 := by rw [c1]; rfl
        rw [jv] at g2
        have lk := fx_like_19_5 (mu := mux)
        generalize F_sx_Standing_beLike_19_5 mux = nl at h1 lk
        obtain ⟨u1, u2⟩ := Prod.mk.inj h1
        have u2 := u2.symm
        have k5 : xi1 5 3 = mux 5 3 := by
          rw [congrFun (up_k u2 (by decide)) 3, lk, if_neg (by decide), if_neg (by decide), if_neg (by decide)]
        rw [u2] at u1
        refine ⟨?_, keep_core (J := 1) okm (by decide) hC0 (fun c f => ?_) g2⟩
        · rw [u1, k5, g1]; exact s3
        · by_cases e : c = 19 ∧ f = 5
          · rw [if_pos e]
            obtain ⟨e, ef⟩ := e
            subst e ef
            exact (up_v u2).symm
          · rw [if_neg e]
            have st : xi1 c f = nl c f := by
              by_cases ec : c = 19
              · subst ec
                exact up_f u2 (fun h => e ⟨rfl, h⟩)
              · exact congrFun (up_k u2 ec) f
            rw [st]
            exact lk c f
      have c2 : v = 2 := Int32.toInt_inj.mp (by
        have a0 : ¬ v.toInt = (0 : Int32).toInt := fun e => c0 (Int32.toInt_inj.mp e)
        have a1 : ¬ v.toInt = (1 : Int32).toInt := fun e => c1 (Int32.toInt_inj.mp e)
        omega)
      rw [if_neg c0, if_neg c1] at h1
      have jv : v.toNatClampNeg = 2 := by rw [c2]; rfl
      rw [jv] at g2
      have lk := fx_like_20_5 (mu := mux)
      generalize F_sx_Standing_beLike_20_5 mux = nl at h1 lk
      obtain ⟨u1, u2⟩ := Prod.mk.inj h1
      have u2 := u2.symm
      have k5 : xi1 5 3 = mux 5 3 := by
        rw [congrFun (up_k u2 (by decide)) 3, lk, if_neg (by decide), if_neg (by decide), if_neg (by decide)]
      rw [u2] at u1
      refine ⟨?_, keep_core (J := 2) okm (by decide) hC0 (fun c f => ?_) g2⟩
      · rw [u1, k5, g1]; exact s3
      · by_cases e : c = 20 ∧ f = 5
        · rw [if_pos e]
          obtain ⟨e, ef⟩ := e
          subst e ef
          exact (up_v u2).symm
        · rw [if_neg e]
          have st : xi1 c f = nl c f := by
            by_cases ec : c = 20
            · subst ec
              exact up_f u2 (fun h => e ⟨rfl, h⟩)
            · exact congrFun (up_k u2 ec) f
          rw [st]
          exact lk c f
  · unfold F_qm_keep at h2
    rw [if_neg (fun e => cv (fx_isPlace.mp e))] at h1
    rw [if_neg (fun e => by have := fm_in.mp e; omega)] at h2
    cases h1
    cases h2
    exact ⟨rfl, hC0⟩
theorem on_rel {v r1 r2 : Int32} {mux mum xi1 xi2 : Nat → Nat → Int32} (okm : okR loM hiM mum) (hC : core mux mum) (h1 : (r1, xi1) = F_qx_on mux v) (h2 : (r2, xi2) = F_qm_on mum v) : r1 = r2 ∧ core xi1 xi2 := by
  have hC0 := hC
  obtain ⟨hK, hE, ⟨s2, s3, s4, s6⟩, hday, hP, hL, hS, hA⟩ := hC
  have z0 : (0 : Int32).toInt = 0 := rfl
  have z1 : (1 : Int32).toInt = 1 := rfl
  have z2 : (2 : Int32).toInt = 2 := rfl
  have no : ∀ J : Nat, v.toNatClampNeg = J → J < 3 → 0 ≤ v.toInt ∧ v.toInt ≤ 2 → mux (18 + J) 5 = 0 → (r1, xi1) = ((F_sx_found mux 1).1, (F_sx_found mux 1).2) → r1 = r2 ∧ core xi1 xi2 := fun J jv hJ cv e0 hh => by
    have e9 : mum 15 (64 * J) = -9 := by
      rcases hA J hJ with a | a
      · exact a.2
      · exact absurd e0 a.1
    have m64 : (64 * v : Int32).toInt = 64 * v.toInt := tI_mul (rfl : (64 : Int32).toInt = 64) rfl (by omega) (by omega)
    have c64 := tC_of (v := 64 * v) (by omega)
    have cc := tC_of cv.1
    have n64 : (64 * v : Int32).toNatClampNeg = 64 * J := by omega
    unfold F_qm_on at h2
    rw [if_pos (fm_in.mpr ⟨by omega, by omega⟩)] at h2
    simp only [letv_eq, letp_eq] at h2
    rw [n64, if_pos e9] at h2
    obtain ⟨u1, u2⟩ := Prod.mk.inj hh
    obtain ⟨v1, v2⟩ := Prod.mk.inj h2
    rw [u1, u2, v1, v2]
    exact ⟨fx_found.1.trans fm_meet.1.symm, found_core okm hC0⟩
  unfold F_qx_on at h1
  by_cases cv : 0 ≤ v.toInt ∧ v.toInt ≤ 2
  · rw [if_pos (fx_isPlace.mpr cv)] at h1
    simp only [letv_eq, letp_eq] at h1
    by_cases c0 : v = 0
    · rw [if_pos c0] at h1
      have jv : v.toNatClampNeg = 0 := by rw [c0]; rfl
      by_cases e0 : mux 18 5 = 0
      · rw [if_pos e0] at h1
        exact no 0 jv (by decide) cv e0 h1
      · rw [if_neg e0] at h1
        have nk : ¬ mum 15 (64 * v.toNatClampNeg) = -9 := by
          rw [jv]
          intro e9
          rcases hA 0 (by decide) with a | ⟨a, b, -⟩
          · exact e0 a.1
          · rw [e9] at b
            exact absurd b.1 (by decide)
        obtain ⟨g1, g2⟩ := fm_on cv nk
        rw [p_fst h2] at g1
        rw [p_snd h2] at g2
        rw [jv] at g1 g2
        have lk := fx_like_5_18 (mu := mux)
        generalize F_sx_Standing_beLike_5_18 mux = nl at h1 lk
        obtain ⟨u1, u2⟩ := Prod.mk.inj h1
        have u2 := u2.symm
        have k5 : xi1 5 3 = mux 18 3 := by
          rw [congrFun (up_k u2 (by decide)) 3, lk, if_neg (by decide), if_pos (by decide)]
        rw [u2] at u1
        have d3 : mux 18 3 = mum 15 (64 * 0) := by
          rcases hA 0 (by decide) with a | ⟨a, b, c, -⟩
          · exact absurd a.1 e0
          · exact c
        refine ⟨?_, on_core (J := 0) okm (by decide) hC0 e0 (fun c f => ?_) g2⟩
        · rw [u1, k5, g1]; exact d3
        · by_cases e : c = 6 ∧ f = 1
          · rw [if_pos e]
            obtain ⟨e, ef⟩ := e
            subst e ef
            exact (up_v u2).symm
          · rw [if_neg e]
            have st : xi1 c f = nl c f := by
              by_cases ec : c = 6
              · subst ec
                exact up_f u2 (fun h => e ⟨rfl, h⟩)
              · exact congrFun (up_k u2 ec) f
            rw [st]
            exact lk c f
    by_cases c1 : v = 1
    · rw [if_neg c0, if_pos c1] at h1
      have jv : v.toNatClampNeg = 1 := by rw [c1]; rfl
      by_cases e0 : mux 19 5 = 0
      · rw [if_pos e0] at h1
        exact no 1 jv (by decide) cv e0 h1
      · rw [if_neg e0] at h1
        have nk : ¬ mum 15 (64 * v.toNatClampNeg) = -9 := by
          rw [jv]
          intro e9
          rcases hA 1 (by decide) with a | ⟨a, b, -⟩
          · exact e0 a.1
          · rw [e9] at b
            exact absurd b.1 (by decide)
        obtain ⟨g1, g2⟩ := fm_on cv nk
        rw [p_fst h2] at g1
        rw [p_snd h2] at g2
        rw [jv] at g1 g2
        have lk := fx_like_5_19 (mu := mux)
        generalize F_sx_Standing_beLike_5_19 mux = nl at h1 lk
        obtain ⟨u1, u2⟩ := Prod.mk.inj h1
        have u2 := u2.symm
        have k5 : xi1 5 3 = mux 19 3 := by
          rw [congrFun (up_k u2 (by decide)) 3, lk, if_neg (by decide), if_pos (by decide)]
        rw [u2] at u1
        have d3 : mux 19 3 = mum 15 (64 * 1) := by
          rcases hA 1 (by decide) with a | ⟨a, b, c, -⟩
          · exact absurd a.1 e0
          · exact c
        refine ⟨?_, on_core (J := 1) okm (by decide) hC0 e0 (fun c f => ?_) g2⟩
        · rw [u1, k5, g1]; exact d3
        · by_cases e : c = 6 ∧ f = 1
          · rw [if_pos e]
            obtain ⟨e, ef⟩ := e
            subst e ef
            exact (up_v u2).symm
          · rw [if_neg e]
            have st : xi1 c f = nl c f := by
              by_cases ec : c = 6
              · subst ec
                exact up_f u2 (fun h => e ⟨rfl, h⟩)
              · exact congrFun (up_k u2 ec) f
            rw [st]
            exact lk c f
    have c2 : v = 2 := Int32.toInt_inj.mp (by
      have a0 : ¬ v.toInt = (0 : Int32).toInt := fun e => c0 (Int32.toInt_inj.mp e)
      have a1 : ¬ v.toInt = (1 : Int32).toInt := fun e => c1 (Int32.toInt_inj.mp e)
      omega)
    rw [if_neg c0, if_neg c1] at h1
    have jv : v.toNatClampNeg = 2 := by rw [c2]; rfl
    by_cases e0 : mux 20 5 = 0
    · rw [if_pos e0] at h1
      exact no 2 jv (by decide) cv e0 h1
    · rw [if_neg e0] at h1
      have nk : ¬ mum 15 (64 * v.toNatClampNeg) = -9 := by
        rw [jv]
        intro e9
        rcases hA 2 (by decide) with a | ⟨a, b, -⟩
        · exact e0 a.1
        · rw [e9] at b
          exact absurd b.1 (by decide)
      obtain ⟨g1, g2⟩ := fm_on cv nk
      rw [p_fst h2] at g1
      rw [p_snd h2] at g2
      rw [jv] at g1 g2
      have lk := fx_like_5_20 (mu := mux)
      generalize F_sx_Standing_beLike_5_20 mux = nl at h1 lk
      obtain ⟨u1, u2⟩ := Prod.mk.inj h1
      have u2 := u2.symm
      have k5 : xi1 5 3 = mux 20 3 := by
        rw [congrFun (up_k u2 (by decide)) 3, lk, if_neg (by decide), if_pos (by decide)]
      rw [u2] at u1
      have d3 : mux 20 3 = mum 15 (64 * 2) := by
        rcases hA 2 (by decide) with a | ⟨a, b, c, -⟩
        · exact absurd a.1 e0
        · exact c
      refine ⟨?_, on_core (J := 2) okm (by decide) hC0 e0 (fun c f => ?_) g2⟩
      · rw [u1, k5, g1]; exact d3
      · by_cases e : c = 6 ∧ f = 1
        · rw [if_pos e]
          obtain ⟨e, ef⟩ := e
          subst e ef
          exact (up_v u2).symm
        · rw [if_neg e]
          have st : xi1 c f = nl c f := by
            by_cases ec : c = 6
            · subst ec
              exact up_f u2 (fun h => e ⟨rfl, h⟩)
            · exact congrFun (up_k u2 ec) f
          rw [st]
          exact lk c f
  · unfold F_qm_on at h2
    rw [if_neg (fun e => cv (fx_isPlace.mp e))] at h1
    rw [if_neg (fun e => by have := fm_in.mp e; omega)] at h2
    cases h1
    cases h2
    exact ⟨rfl, hC0⟩

