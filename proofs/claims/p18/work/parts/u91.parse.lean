-- ===== reading a TEXT: both sides alike =====
def prT (t : Nat) (nux num : Nat → Nat → Int32) : Prop := nux (14 + t) 1 = num 5 t ∧ (∀ j : Nat, j < 80 → nux (27 + t) j = num 6 (80 * t + j)) ∧ 0 ≤ (num 5 t).toInt ∧ (num 5 t).toInt ≤ 80 ∧ (∀ j : Nat, -128 ≤ (nux (27 + t) j).toInt ∧ (nux (27 + t) j).toInt ≤ 127)
def prC (nux num : Nat → Nat → Int32) : Prop := nux 31 4 = num 0 19 ∧ nux 31 5 = num 0 20 ∧ (0 ≤ (num 0 19).toInt ∧ (num 0 19).toInt ≤ 7) ∧ (0 ≤ (num 0 20).toInt ∧ (num 0 20).toInt ≤ 12) ∧ (∀ x : Nat, x < (num 0 19).toNatClampNeg → nux 48 x = num 11 x ∧ nux 49 x = num 12 x ∧ 0 ≤ (num 12 x).toInt ∧ (num 12 x).toInt ≤ 99) ∧ (∀ j : Nat, j < (num 0 20).toNatClampNeg → nux 50 j = num 13 (2 * j) ∧ nux 51 j = num 13 (2 * j + 1)) ∧ (∀ j : Nat, j < (num 0 20).toNatClampNeg → (0 ≤ (num 13 (2 * j)).toInt ∧ (num 13 (2 * j)).toInt < (num 0 19).toInt) ∧ (0 ≤ (num 13 (2 * j + 1)).toInt ∧ (num 13 (2 * j + 1)).toInt < (num 0 19).toInt))
theorem prT_of {t : Nat} {nux num xi xi' : Nat → Nat → Int32} (h : prT t nux num) (h1 : xi (14 + t) = nux (14 + t)) (h2 : xi (27 + t) = nux (27 + t)) (h3 : xi' 5 = num 5) (h4 : xi' 6 = num 6) : prT t xi xi' := by
  unfold prT
  rw [h1, h2, h3, h4]
  exact h
def btx (nux : Nat → Nat → Int32) (t : Nat) (j : Int32) : Int32 := if j.toInt < (nux (14 + t) 1).toInt then nux (27 + t) j.toNatClampNeg else -9
def dg (b : Int32) : Int32 := if b.toInt < 48 then -9 else if b.toInt ≤ 57 then b - 48 else -9
theorem btx_rng {t : Nat} {nux num : Nat → Nat → Int32} (h : prT t nux num) (j : Int32) : -128 ≤ (btx nux t j).toInt ∧ (btx nux t j).toInt ≤ 127 := by
  unfold btx
  split
  · exact h.2.2.2.2 _
  · decide
theorem dg_of {b : Int32} (h : -128 ≤ b.toInt ∧ b.toInt ≤ 127) : (dg b = -9 ∧ (b.toInt < 48 ∨ 57 < b.toInt)) ∨ (dg b = b - 48 ∧ 48 ≤ b.toInt ∧ b.toInt ≤ 57 ∧ (dg b).toInt = b.toInt - 48) := by
  have a : (b - 48 : Int32).toInt = b.toInt - 48 := tI_sub rfl (rfl : (48 : Int32).toInt = 48) (by omega) (by omega)
  unfold dg
  by_cases c1 : b.toInt < 48
  · rw [if_pos c1]
    exact Or.inl ⟨rfl, Or.inl c1⟩
  · rw [if_neg c1]
    by_cases c2 : b.toInt ≤ 57
    · rw [if_pos c2]
      exact Or.inr ⟨rfl, by omega, c2, a⟩
    · rw [if_neg c2]
      exact Or.inl ⟨rfl, Or.inr (by omega)⟩
theorem here_eq {t : Int32} {nux num : Nat → Nat → Int32} {j : Int32} (ht : 0 ≤ t.toInt ∧ t.toInt ≤ 3) (h : prT t.toNatClampNeg nux num) (hj : num 0 18 = j) (h0 : 0 ≤ j.toInt) : F_sm_here num t = btx nux t.toNatClampNeg j := by
  obtain ⟨p1, p2, p3, p4, p5⟩ := h
  simp only [F_sm_here, letv_eq]
  rw [hj]
  unfold btx
  rw [p1]
  by_cases c : j.toInt < (num 5 t.toNatClampNeg).toInt
  · have hc := tC_of h0
    rw [if_pos c, if_neg (fun e => by have := vv_ge.mp e; omega), ix_80 ht ⟨h0, by omega⟩, p2 _ (by omega)]
  · rw [if_neg c, if_pos (vv_ge.mpr (by omega))]
theorem fig_eq {t : Nat} {nux : Nat → Nat → Int32} {j : Int32} (h0 : 0 ≤ j.toInt) : F_sx_figureAt nux (14 + t) j = dg (btx nux t j) := by
  have z0 : (0 : Int32).toInt = 0 := rfl
  have z48 : (48 : Int32).toInt = 48 := rfl
  have z57 : (57 : Int32).toInt = 57 := rfl
  have e27 : 14 + t + 13 = 27 + t := by omega
  simp only [F_sx_figureAt, letv_eq]
  rw [if_neg (fun e => by have := vv_lt.mp e; omega), e27]
  unfold btx
  by_cases c : j.toInt < (nux (14 + t) 1).toInt
  · rw [if_pos c, if_neg (fun e => by have := vv_ge.mp e; omega)]
    unfold dg
    by_cases c1 : (nux (27 + t) j.toNatClampNeg).toInt < 48
    · rw [if_pos c1, if_pos (vv_lt.mpr (by omega))]
    · rw [if_neg c1, if_neg (fun e => by have := vv_lt.mp e; omega)]
      by_cases c2 : (nux (27 + t) j.toNatClampNeg).toInt ≤ 57
      · rw [if_pos c2, if_pos (vv_le.mpr (by omega))]
      · rw [if_neg c2, if_neg (fun e => by have := vv_le.mp e; omega)]
  · rw [if_neg c, if_pos (vv_ge.mpr (by omega))]
    decide
theorem kind_eq {v : Int32} : F_sx_kindSigned v = F_sm_kindOf v := by
  have e : F_sx_kindSigned v = if (98 : Int32) = v then 0 else if (109 : Int32) = v then 1 else if (102 : Int32) = v then 2 else if (114 : Int32) = v then 3 else if (117 : Int32) = v then 4 else if (115 : Int32) = v then 5 else -9 := rfl
  rw [e]
  unfold F_sm_kindOf
  simp only [eq_comm (b := v)]
theorem iadd_2 {i : Int32} : i + 1 + 1 = i + 2 := by rw [Int32.add_assoc]; rfl
theorem iadd_3 {i : Int32} : i + 2 + 1 = i + 3 := by rw [Int32.add_assoc]; rfl
theorem i_ne9 {r : Int32} (h : 0 ≤ r.toInt) : ¬ r = -9 := fun e => by
  rw [e] at h
  exact absurd h (by decide)
theorem path_rel {t i : Int32} {nux num xi xi' : Nat → Nat → Int32} {r r' : Int32} (ht : 0 ≤ t.toInt ∧ t.toInt ≤ 3) (hT : prT t.toNatClampNeg nux num) (hC : prC nux num) (hi : num 0 18 = i) (h0 : 0 ≤ i.toInt) (hlt : i.toInt < (num 5 t.toNatClampNeg).toInt) (h1 : (r, xi) = F_sx_faultInPath nux (14 + t.toNatClampNeg) i) (h2 : (r', xi') = F_sm_readsPath num t) : (r = -9 ∧ r' = 1 ∧ prT t.toNatClampNeg xi xi' ∧ prC xi xi' ∧ xi' 0 18 = i + 3 ∧ i.toInt + 3 ≤ (xi' 5 t.toNatClampNeg).toInt) ∨ (¬ r = -9 ∧ r' = 0 ∧ xi' 0 18 = r) := by
  have hT0 := hT
  obtain ⟨c1, c2, c3, c4, c5, c6, c7⟩ := hC
  obtain ⟨p1, p2, p3, p4, p5⟩ := hT
  have htn := tC_of ht.1
  have z12 : (12 : Int32).toInt = 12 := rfl
  have z0 : (0 : Int32).toInt = 0 := rfl
  have z1 : (1 : Int32).toInt = 1 := rfl
  have hp := tC_of c4.1
  have i1 : (i + 1 : Int32).toInt = i.toInt + 1 := tI_add rfl z1 (by omega) (by omega)
  have i2 : (i + 2 : Int32).toInt = i.toInt + 2 := tI_add rfl (rfl : (2 : Int32).toInt = 2) (by omega) (by omega)
  have r1 := btx_rng hT0 (i + 1)
  have r2 := btx_rng hT0 (i + 2)
  have s1 : (btx nux t.toNatClampNeg (i + 1) - 48 : Int32).toInt = (btx nux t.toNatClampNeg (i + 1)).toInt - 48 := tI_sub rfl (rfl : (48 : Int32).toInt = 48) (by omega) (by omega)
  have s2 : (btx nux t.toNatClampNeg (i + 2) - 48 : Int32).toInt = (btx nux t.toNatClampNeg (i + 2)).toInt - 48 := tI_sub rfl (rfl : (48 : Int32).toInt = 48) (by omega) (by omega)
  have s3 : (num 0 19 - 1 : Int32).toInt = (num 0 19).toInt - 1 := tI_sub rfl z1 (by omega) (by omega)
  simp only [F_sx_faultInPath, letv_eq] at h1
  rw [c1, c2, fig_eq (by omega), fig_eq (by omega)] at h1
  simp only [F_sm_readsPath, letv_eq] at h2
  rw [hi] at h2
  by_cases q12 : (num 0 20).toInt < 12
  · rw [if_pos (vv_lt.mpr (by omega))] at h1
    rw [if_neg (fun e => by rw [e] at q12; exact absurd q12 (by decide))] at h2
    generalize hn6 : va_up num 0 (upd (num 0) 18 (i + 1)) = nu6 at h2
    have a18 : nu6 0 18 = i + 1 := (up_v hn6).symm
    have a19 : nu6 0 19 = num 0 19 := up_f hn6 (by decide)
    have a20 : nu6 0 20 = num 0 20 := up_f hn6 (by decide)
    have hT6 : prT t.toNatClampNeg nux nu6 := prT_of hT0 rfl rfl (up_k hn6 (by decide)) (up_k hn6 (by decide))
    have hb1 := here_eq ht hT6 a18 (by omega)
    rw [L_sm_readsPath_30_0] at h2
    simp only [letv_eq] at h2
    rw [if_neg (show ¬ (0 : Int32) ≥ 2 by decide), hb1, a18, a19] at h2
    by_cases d1 : 48 ≤ (btx nux t.toNatClampNeg (i + 1)).toInt ∧ (btx nux t.toNatClampNeg (i + 1)).toInt - 48 < (num 0 19).toInt
    · have g1 : dg (btx nux t.toNatClampNeg (i + 1)) = btx nux t.toNatClampNeg (i + 1) - 48 := by
        rcases dg_of r1 with ⟨-, h⟩ | ⟨h, -⟩
        · omega
        · exact h
      rw [g1] at h1
      rw [if_neg (i_ne9 (by omega)), if_pos (vv_lt.mpr (by omega))] at h1
      rw [if_pos (fm_in.mpr ⟨by omega, by omega⟩), if_neg (show ¬ (0 : Int32) = 1 by decide)] at h2
      have e0 : (2 * num 0 20 + 0 : Int32) = 2 * num 0 20 := by simp
      have m2 : (2 * num 0 20 : Int32).toInt = 2 * (num 0 20).toInt := tI_mul (rfl : (2 : Int32).toInt = 2) rfl (by omega) (by omega)
      have m2n := tC_of (v := 2 * num 0 20) (by omega)
      have m3 : (2 * num 0 20 + 1 : Int32).toInt = 2 * (num 0 20).toInt + 1 := tI_add m2 z1 (by omega) (by omega)
      have m3n := tC_of (v := 2 * num 0 20 + 1) (by omega)
      have f2 : (2 * num 0 20 : Int32).toNatClampNeg = 2 * (num 0 20).toNatClampNeg := by omega
      have f3 : (2 * num 0 20 + 1 : Int32).toNatClampNeg = 2 * (num 0 20).toNatClampNeg + 1 := by omega
      rw [e0, f2, iadd_2, show (0 + 1 : Int32) = 1 from rfl] at h2
      generalize hn31 : va_up nu6 13 (upd (nu6 13) (2 * (num 0 20).toNatClampNeg) (btx nux t.toNatClampNeg (i + 1) - 48)) = nu31 at h2
      generalize hn38 : va_up nu31 0 (upd (nu31 0) 18 (i + 2)) = nu38 at h2
      have b18 : nu38 0 18 = i + 2 := (up_v hn38).symm
      have b19 : nu38 0 19 = num 0 19 := (up_f hn38 (by decide)).trans ((congrFun (up_k hn31 (by decide)) 19).trans a19)
      have b20 : nu38 0 20 = num 0 20 := (up_f hn38 (by decide)).trans ((congrFun (up_k hn31 (by decide)) 20).trans a20)
      have b13 : nu38 13 (2 * (num 0 20).toNatClampNeg) = btx nux t.toNatClampNeg (i + 1) - 48 := (congrFun (up_k hn38 (by decide)) _).trans (up_v hn31).symm
      have hT38 : prT t.toNatClampNeg nux nu38 := prT_of hT6 rfl rfl ((up_k hn38 (by decide)).trans (up_k hn31 (by decide))) ((up_k hn38 (by decide)).trans (up_k hn31 (by decide)))
      have hb2 := here_eq ht hT38 b18 (by omega)
      rw [L_sm_readsPath_30_0] at h2
      simp only [letv_eq] at h2
      rw [if_neg (show ¬ (1 : Int32) ≥ 2 by decide), hb2, b18, b19, f2, b13] at h2
      by_cases d2 : 48 ≤ (btx nux t.toNatClampNeg (i + 2)).toInt ∧ (btx nux t.toNatClampNeg (i + 2)).toInt - 48 < (num 0 19).toInt
      · have g2 : dg (btx nux t.toNatClampNeg (i + 2)) = btx nux t.toNatClampNeg (i + 2) - 48 := by
          rcases dg_of r2 with ⟨-, h⟩ | ⟨h, -⟩
          · omega
          · exact h
        rw [g2] at h1
        rw [if_neg (i_ne9 (by omega)), if_neg (fun e => by have := vv_ge.mp e; omega)] at h1
        rw [if_pos (fm_in.mpr ⟨by omega, by omega⟩), if_pos trivial] at h2
        by_cases d3 : btx nux t.toNatClampNeg (i + 2) - 48 = btx nux t.toNatClampNeg (i + 1) - 48
        · rw [if_pos d3] at h1 h2
          cases h1
          cases h2
          exact Or.inr ⟨i_ne9 (by omega), rfl, b18⟩
        · rw [if_neg d3] at h1 h2
          rw [f3, iadd_3, show (1 + 1 : Int32) = 2 from rfl] at h2
          generalize hn50 : va_up nu38 13 (upd (nu38 13) (2 * (num 0 20).toNatClampNeg + 1) (btx nux t.toNatClampNeg (i + 2) - 48)) = nu50 at h2
          generalize hn57 : va_up nu50 0 (upd (nu50 0) 18 (i + 3)) = nu57 at h2
          have k18 : nu57 0 18 = i + 3 := (up_v hn57).symm
          have k19 : nu57 0 19 = num 0 19 := (up_f hn57 (by decide)).trans ((congrFun (up_k hn50 (by decide)) 19).trans b19)
          have k20 : nu57 0 20 = num 0 20 := (up_f hn57 (by decide)).trans ((congrFun (up_k hn50 (by decide)) 20).trans b20)
          rw [L_sm_readsPath_30_0] at h2
          simp only [letv_eq] at h2
          rw [if_pos (show (2 : Int32) ≥ 2 by decide), k20] at h2
          have e1 : r' = 1 := congrArg Prod.fst h2
          have e2 : xi' = va_up nu57 0 (upd (nu57 0) 20 (num 0 20 + 1)) := congrArg Prod.snd h2
          have e2 := e2.symm
          have e3 : r = -9 := congrArg Prod.fst h1
          have e4 : xi = _ := congrArg Prod.snd h1
          dsimp only at e4
          generalize hx16 : va_up nux 50 (upd (nux 50) (num 0 20).toNatClampNeg (btx nux t.toNatClampNeg (i + 1) - 48)) = x16 at e4
          generalize hx20 : va_up x16 51 (upd (x16 51) (num 0 20).toNatClampNeg (btx nux t.toNatClampNeg (i + 2) - 48)) = x20 at e4
          have e4 := e4.symm
          have ap : (num 0 20 + 1 : Int32).toInt = (num 0 20).toInt + 1 := tI_add rfl z1 (by omega) (by omega)
          have apn := tC_of (v := num 0 20 + 1) (by omega)
          have w20 : xi' 0 20 = num 0 20 + 1 := (up_v e2).symm
          have w19 : xi' 0 19 = num 0 19 := (up_f e2 (by decide)).trans k19
          have w18 : xi' 0 18 = i + 3 := (up_f e2 (by decide)).trans k18
          have wk : ∀ k : Nat, k ≠ 0 → k ≠ 13 → xi' k = num k := fun k h h' => (up_k e2 h).trans ((up_k hn57 h).trans ((up_k hn50 h').trans ((up_k hn38 h).trans ((up_k hn31 h').trans (up_k hn6 h)))))
          have w13 : ∀ f : Nat, f ≠ 2 * (num 0 20).toNatClampNeg → f ≠ 2 * (num 0 20).toNatClampNeg + 1 → xi' 13 f = num 13 f := fun f h h' => (congrFun (up_k e2 (by decide)) f).trans ((congrFun (up_k hn57 (by decide)) f).trans ((up_f hn50 h').trans ((congrFun (up_k hn38 (by decide)) f).trans ((up_f hn31 h).trans (congrFun (up_k hn6 (by decide)) f)))))
          have w13a : xi' 13 (2 * (num 0 20).toNatClampNeg) = btx nux t.toNatClampNeg (i + 1) - 48 := (congrFun (up_k e2 (by decide)) _).trans ((congrFun (up_k hn57 (by decide)) _).trans ((up_f hn50 (by omega)).trans b13))
          have w13b : xi' 13 (2 * (num 0 20).toNatClampNeg + 1) = btx nux t.toNatClampNeg (i + 2) - 48 := (congrFun (up_k e2 (by decide)) _).trans ((congrFun (up_k hn57 (by decide)) _).trans (up_v hn50).symm)
          have v31 : xi 31 4 = nux 31 4 := (up_f e4 (by decide)).trans ((congrFun (up_k hx20 (by decide)) 4).trans (congrFun (up_k hx16 (by decide)) 4))
          have v31b : xi 31 5 = num 0 20 + 1 := (up_v e4).symm
          have vk : ∀ k : Nat, k ≠ 31 → k ≠ 50 → k ≠ 51 → xi k = nux k := fun k h h' h'' => (up_k e4 h).trans ((up_k hx20 h'').trans (up_k hx16 h'))
          have v50 : ∀ f : Nat, f ≠ (num 0 20).toNatClampNeg → xi 50 f = nux 50 f := fun f h => (congrFun (up_k e4 (by decide)) f).trans ((congrFun (up_k hx20 (by decide)) f).trans (up_f hx16 h))
          have v51 : ∀ f : Nat, f ≠ (num 0 20).toNatClampNeg → xi 51 f = nux 51 f := fun f h => (congrFun (up_k e4 (by decide)) f).trans ((up_f hx20 h).trans (congrFun (up_k hx16 (by decide)) f))
          have v50a : xi 50 (num 0 20).toNatClampNeg = btx nux t.toNatClampNeg (i + 1) - 48 := (congrFun (up_k e4 (by decide)) _).trans ((congrFun (up_k hx20 (by decide)) _).trans (up_v hx16).symm)
          have v51a : xi 51 (num 0 20).toNatClampNeg = btx nux t.toNatClampNeg (i + 2) - 48 := (congrFun (up_k e4 (by decide)) _).trans (up_v hx20).symm
          refine Or.inl ⟨e3, e1, prT_of hT0 (vk _ (by omega) (by omega) (by omega)) (vk _ (by omega) (by omega) (by omega)) (wk 5 (by decide) (by decide)) (wk 6 (by decide) (by decide)), ⟨?_, ?_, ?_, ?_, ?_, ?_, ?_⟩, w18, ?_⟩
          · rw [v31, w19]; exact c1
          · rw [v31b, w20]
          · rw [w19]; exact c3
          · rw [w20]; omega
          · intro x hx
            rw [w19] at hx
            rw [vk 48 (by decide) (by decide) (by decide), vk 49 (by decide) (by decide) (by decide), wk 11 (by decide) (by decide), wk 12 (by decide) (by decide)]
            exact c5 x hx
          · intro j hj
            rw [w20] at hj
            by_cases ej : j = (num 0 20).toNatClampNeg
            · subst ej
              exact ⟨v50a.trans w13a.symm, v51a.trans w13b.symm⟩
            · rw [v50 j ej, v51 j ej, w13 _ (by omega) (by omega), w13 _ (by omega) (by omega)]
              exact c6 j (by omega)
          · intro j hj
            rw [w20] at hj
            rw [w19]
            by_cases ej : j = (num 0 20).toNatClampNeg
            · subst ej
              rw [w13a, w13b, s1, s2]
              omega
            · rw [w13 _ (by omega) (by omega), w13 _ (by omega) (by omega)]
              exact c7 j (by omega)
          · rw [wk 5 (by decide) (by decide)]
            have d5 := d2.1
            unfold btx at d5
            by_cases d6 : (i + 2 : Int32).toInt < (nux (14 + t.toNatClampNeg) 1).toInt
            · rw [p1] at d6
              omega
            · rw [if_neg d6] at d5
              exact absurd d5 (by decide)
      · rw [if_neg (fun e => by have := fm_in.mp e; omega)] at h2
        cases h2
        have h1 : (r, xi) = (i + 2, nux) := by
          rw [h1]
          rcases dg_of r2 with ⟨g, -⟩ | ⟨g, g3, g4, g5⟩
          · rw [if_pos g]
          · rw [if_neg (i_ne9 (by omega)), if_pos (vv_ge.mpr (by omega))]
        cases h1
        exact Or.inr ⟨i_ne9 (by omega), rfl, b18⟩
    · rw [if_neg (fun e => by have := fm_in.mp e; omega)] at h2
      cases h2
      have h1 : (r, xi) = (i + 1, nux) := by
        rw [h1]
        rcases dg_of r1 with ⟨g, -⟩ | ⟨g, g3, g4, g5⟩
        · rw [if_pos g]
        · rw [if_neg (i_ne9 (by omega)), if_neg (fun e => by have := vv_lt.mp e; omega)]
      cases h1
      exact Or.inr ⟨i_ne9 (by omega), rfl, a18⟩
  · have e12 : num 0 20 = 12 := Int32.toInt_inj.mp (by omega)
    rw [if_neg (fun e => by have := vv_lt.mp e; omega)] at h1
    rw [if_pos e12] at h2
    cases h1
    cases h2
    exact Or.inr ⟨i_ne9 (by omega), rfl, hi⟩
theorem bear_rel {t i : Int32} {nux num xi xi' : Nat → Nat → Int32} {r r' : Int32} (ht : 0 ≤ t.toInt ∧ t.toInt ≤ 3) (hT : prT t.toNatClampNeg nux num) (hC : prC nux num) (hi : num 0 18 = i) (h0 : 0 ≤ i.toInt) (hlt : i.toInt < (num 5 t.toNatClampNeg).toInt) (h1 : (r, xi) = F_sx_faultInBearer nux (14 + t.toNatClampNeg) i) (h2 : (r', xi') = F_sm_readsBearer num t) : (r = -9 ∧ r' = 1 ∧ prT t.toNatClampNeg xi xi' ∧ prC xi xi' ∧ xi' 0 18 = i + 3 ∧ i.toInt + 3 ≤ (xi' 5 t.toNatClampNeg).toInt) ∨ (¬ r = -9 ∧ r' = 0 ∧ xi' 0 18 = r) := by
  have hT0 := hT
  obtain ⟨c1, c2, c3, c4, c5, c6, c7⟩ := hC
  obtain ⟨p1, p2, p3, p4, p5⟩ := hT
  have htn := tC_of ht.1
  have z7 : (7 : Int32).toInt = 7 := rfl
  have z0 : (0 : Int32).toInt = 0 := rfl
  have z1 : (1 : Int32).toInt = 1 := rfl
  have z48 : (48 : Int32).toInt = 48 := rfl
  have z57 : (57 : Int32).toInt = 57 := rfl
  have hb := tC_of c3.1
  have i1 : (i + 1 : Int32).toInt = i.toInt + 1 := tI_add rfl z1 (by omega) (by omega)
  have i2 : (i + 2 : Int32).toInt = i.toInt + 2 := tI_add rfl (rfl : (2 : Int32).toInt = 2) (by omega) (by omega)
  have r1 := btx_rng hT0 (i + 1)
  have r2 := btx_rng hT0 (i + 2)
  have s1 : (btx nux t.toNatClampNeg (i + 1) - 48 : Int32).toInt = (btx nux t.toNatClampNeg (i + 1)).toInt - 48 := tI_sub rfl z48 (by omega) (by omega)
  have s2 : (btx nux t.toNatClampNeg (i + 2) - 48 : Int32).toInt = (btx nux t.toNatClampNeg (i + 2)).toInt - 48 := tI_sub rfl z48 (by omega) (by omega)
  have e27 : 14 + t.toNatClampNeg + 13 = 27 + t.toNatClampNeg := by omega
  have hb0 : F_sm_here num t = nux (27 + t.toNatClampNeg) i.toNatClampNeg := by
    rw [here_eq ht hT0 hi h0]
    unfold btx
    rw [p1, if_pos hlt]
  simp only [F_sx_faultInBearer, letv_eq] at h1
  rw [c1, c2, fig_eq (by omega), fig_eq (by omega), e27, kind_eq] at h1
  simp only [F_sm_readsBearer, letv_eq] at h2
  rw [hi, hb0] at h2
  by_cases q1 : F_sm_kindOf (nux (27 + t.toNatClampNeg) i.toNatClampNeg) = -9
  · rw [if_pos q1] at h1 h2
    cases h1
    cases h2
    exact Or.inr ⟨i_ne9 (by omega), rfl, hi⟩
  rw [if_neg q1] at h1 h2
  generalize F_sm_kindOf (nux (27 + t.toNatClampNeg) i.toNatClampNeg) = kd at h1 h2
  by_cases q2 : num 0 20 > (0 : Int32)
  · rw [if_pos q2] at h1 h2
    cases h1
    cases h2
    exact Or.inr ⟨i_ne9 (by omega), rfl, hi⟩
  rw [if_neg q2] at h1 h2
  by_cases q7 : (num 0 19).toInt < 7
  · rw [if_pos (vv_lt.mpr (by omega))] at h1
    rw [if_neg (fun e => by rw [e] at q7; exact absurd q7 (by decide))] at h2
    generalize hn6 : va_up num 0 (upd (num 0) 18 (i + 1)) = nu6 at h2
    have a18 : nu6 0 18 = i + 1 := (up_v hn6).symm
    have a19 : nu6 0 19 = num 0 19 := up_f hn6 (by decide)
    have a20 : nu6 0 20 = num 0 20 := up_f hn6 (by decide)
    have hT6 : prT t.toNatClampNeg nux nu6 := prT_of hT0 rfl rfl (up_k hn6 (by decide)) (up_k hn6 (by decide))
    have hb1 := here_eq ht hT6 a18 (by omega)
    rw [L_sm_readsBearer_48_0] at h2
    simp only [letv_eq] at h2
    rw [if_neg (show ¬ (0 : Int32) ≥ 2 by decide), hb1, a18] at h2
    by_cases d1 : 48 ≤ (btx nux t.toNatClampNeg (i + 1)).toInt ∧ (btx nux t.toNatClampNeg (i + 1)).toInt ≤ 57
    · have g1 : dg (btx nux t.toNatClampNeg (i + 1)) = btx nux t.toNatClampNeg (i + 1) - 48 := by
        rcases dg_of r1 with ⟨-, h⟩ | ⟨h, -⟩
        · omega
        · exact h
      rw [g1] at h1
      rw [if_neg (i_ne9 (by omega))] at h1
      rw [if_pos (fm_in.mpr ⟨by omega, by omega⟩)] at h2
      have e0 : (10 * 0 + btx nux t.toNatClampNeg (i + 1) - 48 : Int32) = btx nux t.toNatClampNeg (i + 1) - 48 := by
        rw [show (10 * 0 : Int32) = 0 from rfl, Int32.zero_add]
      rw [e0, iadd_2, show (0 + 1 : Int32) = 1 from rfl] at h2
      generalize hn45 : va_up nu6 0 (upd (nu6 0) 18 (i + 2)) = nu45 at h2
      have b18 : nu45 0 18 = i + 2 := (up_v hn45).symm
      have b19 : nu45 0 19 = num 0 19 := (up_f hn45 (by decide)).trans a19
      have b20 : nu45 0 20 = num 0 20 := (up_f hn45 (by decide)).trans a20
      have hT45 : prT t.toNatClampNeg nux nu45 := prT_of hT6 rfl rfl (up_k hn45 (by decide)) (up_k hn45 (by decide))
      have hb2 := here_eq ht hT45 b18 (by omega)
      rw [L_sm_readsBearer_48_0] at h2
      simp only [letv_eq] at h2
      rw [if_neg (show ¬ (1 : Int32) ≥ 2 by decide), hb2, b18] at h2
      by_cases d2 : 48 ≤ (btx nux t.toNatClampNeg (i + 2)).toInt ∧ (btx nux t.toNatClampNeg (i + 2)).toInt ≤ 57
      · have g2 : dg (btx nux t.toNatClampNeg (i + 2)) = btx nux t.toNatClampNeg (i + 2) - 48 := by
          rcases dg_of r2 with ⟨-, h⟩ | ⟨h, -⟩
          · omega
          · exact h
        rw [g2] at h1
        rw [if_neg (i_ne9 (by omega))] at h1
        rw [if_pos (fm_in.mpr ⟨by omega, by omega⟩)] at h2
        have m1 : (10 * (btx nux t.toNatClampNeg (i + 1) - 48) : Int32).toInt = 10 * ((btx nux t.toNatClampNeg (i + 1)).toInt - 48) := tI_mul (rfl : (10 : Int32).toInt = 10) s1 (by omega) (by omega)
        have m2 : (10 * (btx nux t.toNatClampNeg (i + 1) - 48) + (btx nux t.toNatClampNeg (i + 2) - 48) : Int32).toInt = 10 * ((btx nux t.toNatClampNeg (i + 1)).toInt - 48) + ((btx nux t.toNatClampNeg (i + 2)).toInt - 48) := tI_add m1 s2 (by omega) (by omega)
        have m3 : (10 * (btx nux t.toNatClampNeg (i + 1) - 48) + btx nux t.toNatClampNeg (i + 2) : Int32).toInt = 10 * ((btx nux t.toNatClampNeg (i + 1)).toInt - 48) + (btx nux t.toNatClampNeg (i + 2)).toInt := tI_add m1 rfl (by omega) (by omega)
        have m4 : (10 * (btx nux t.toNatClampNeg (i + 1) - 48) + btx nux t.toNatClampNeg (i + 2) - 48 : Int32).toInt = 10 * ((btx nux t.toNatClampNeg (i + 1)).toInt - 48) + (btx nux t.toNatClampNeg (i + 2)).toInt - 48 := tI_sub m3 z48 (by omega) (by omega)
        have em : (10 * (btx nux t.toNatClampNeg (i + 1) - 48) + btx nux t.toNatClampNeg (i + 2) - 48 : Int32) = 10 * (btx nux t.toNatClampNeg (i + 1) - 48) + (btx nux t.toNatClampNeg (i + 2) - 48) := Int32.toInt_inj.mp (by omega)
        rw [em, iadd_3, show (1 + 1 : Int32) = 2 from rfl] at h2
        have mB : 0 ≤ (10 * (btx nux t.toNatClampNeg (i + 1) - 48) + (btx nux t.toNatClampNeg (i + 2) - 48) : Int32).toInt ∧ (10 * (btx nux t.toNatClampNeg (i + 1) - 48) + (btx nux t.toNatClampNeg (i + 2) - 48) : Int32).toInt ≤ 99 := by omega
        generalize 10 * (btx nux t.toNatClampNeg (i + 1) - 48) + (btx nux t.toNatClampNeg (i + 2) - 48) = money at h1 h2 mB
        generalize hn57 : va_up nu45 0 (upd (nu45 0) 18 (i + 3)) = nu57 at h2
        have k18 : nu57 0 18 = i + 3 := (up_v hn57).symm
        have k19 : nu57 0 19 = num 0 19 := (up_f hn57 (by decide)).trans b19
        have k20 : nu57 0 20 = num 0 20 := (up_f hn57 (by decide)).trans b20
        rw [L_sm_readsBearer_48_0] at h2
        simp only [letv_eq] at h2
        rw [if_pos (show (2 : Int32) ≥ 2 by decide), k19] at h2
        have e1 : r' = 1 := congrArg Prod.fst h2
        have e2 : xi' = _ := congrArg Prod.snd h2
        dsimp only at e2
        generalize hn21 : va_up nu57 11 (upd (nu57 11) (num 0 19).toNatClampNeg kd) = nu21 at e2
        generalize hn26 : va_up nu21 12 (upd (nu21 12) (num 0 19).toNatClampNeg money) = nu26 at e2
        have e2 := e2.symm
        have e3 : r = -9 := congrArg Prod.fst h1
        have e4 : xi = _ := congrArg Prod.snd h1
        dsimp only at e4
        generalize hx16 : va_up nux 48 (upd (nux 48) (num 0 19).toNatClampNeg kd) = x16 at e4
        generalize hx20 : va_up x16 49 (upd (x16 49) (num 0 19).toNatClampNeg money) = x20 at e4
        have e4 := e4.symm
        have ap : (num 0 19 + 1 : Int32).toInt = (num 0 19).toInt + 1 := tI_add rfl z1 (by omega) (by omega)
        have apn := tC_of (v := num 0 19 + 1) (by omega)
        have w19 : xi' 0 19 = num 0 19 + 1 := (up_v e2).symm
        have w20 : xi' 0 20 = num 0 20 := (up_f e2 (by decide)).trans ((congrFun (up_k hn26 (by decide)) 20).trans ((congrFun (up_k hn21 (by decide)) 20).trans k20))
        have w18 : xi' 0 18 = i + 3 := (up_f e2 (by decide)).trans ((congrFun (up_k hn26 (by decide)) 18).trans ((congrFun (up_k hn21 (by decide)) 18).trans k18))
        have wk : ∀ k : Nat, k ≠ 0 → k ≠ 11 → k ≠ 12 → xi' k = num k := fun k h h' h'' => (up_k e2 h).trans ((up_k hn26 h'').trans ((up_k hn21 h').trans ((up_k hn57 h).trans ((up_k hn45 h).trans (up_k hn6 h)))))
        have w11 : ∀ f : Nat, f ≠ (num 0 19).toNatClampNeg → xi' 11 f = num 11 f := fun f h => (congrFun (up_k e2 (by decide)) f).trans ((congrFun (up_k hn26 (by decide)) f).trans ((up_f hn21 h).trans ((congrFun (up_k hn57 (by decide)) f).trans ((congrFun (up_k hn45 (by decide)) f).trans (congrFun (up_k hn6 (by decide)) f)))))
        have w12 : ∀ f : Nat, f ≠ (num 0 19).toNatClampNeg → xi' 12 f = num 12 f := fun f h => (congrFun (up_k e2 (by decide)) f).trans ((up_f hn26 h).trans ((congrFun (up_k hn21 (by decide)) f).trans ((congrFun (up_k hn57 (by decide)) f).trans ((congrFun (up_k hn45 (by decide)) f).trans (congrFun (up_k hn6 (by decide)) f)))))
        have w11a : xi' 11 (num 0 19).toNatClampNeg = kd := (congrFun (up_k e2 (by decide)) _).trans ((congrFun (up_k hn26 (by decide)) _).trans (up_v hn21).symm)
        have w12a : xi' 12 (num 0 19).toNatClampNeg = money := (congrFun (up_k e2 (by decide)) _).trans (up_v hn26).symm
        have v31 : xi 31 5 = nux 31 5 := (up_f e4 (by decide)).trans ((congrFun (up_k hx20 (by decide)) 5).trans (congrFun (up_k hx16 (by decide)) 5))
        have v31b : xi 31 4 = num 0 19 + 1 := (up_v e4).symm
        have vk : ∀ k : Nat, k ≠ 31 → k ≠ 48 → k ≠ 49 → xi k = nux k := fun k h h' h'' => (up_k e4 h).trans ((up_k hx20 h'').trans (up_k hx16 h'))
        have v48 : ∀ f : Nat, f ≠ (num 0 19).toNatClampNeg → xi 48 f = nux 48 f := fun f h => (congrFun (up_k e4 (by decide)) f).trans ((congrFun (up_k hx20 (by decide)) f).trans (up_f hx16 h))
        have v49 : ∀ f : Nat, f ≠ (num 0 19).toNatClampNeg → xi 49 f = nux 49 f := fun f h => (congrFun (up_k e4 (by decide)) f).trans ((up_f hx20 h).trans (congrFun (up_k hx16 (by decide)) f))
        have v48a : xi 48 (num 0 19).toNatClampNeg = kd := (congrFun (up_k e4 (by decide)) _).trans ((congrFun (up_k hx20 (by decide)) _).trans (up_v hx16).symm)
        have v49a : xi 49 (num 0 19).toNatClampNeg = money := (congrFun (up_k e4 (by decide)) _).trans (up_v hx20).symm
        refine Or.inl ⟨e3, e1, prT_of hT0 (vk _ (by omega) (by omega) (by omega)) (vk _ (by omega) (by omega) (by omega)) (wk 5 (by decide) (by decide) (by decide)) (wk 6 (by decide) (by decide) (by decide)), ⟨?_, ?_, ?_, ?_, ?_, ?_, ?_⟩, w18, ?_⟩
        · rw [v31b, w19]
        · rw [v31, w20]; exact c2
        · rw [w19]; omega
        · rw [w20]; exact c4
        · intro x hx
          rw [w19] at hx
          by_cases ex : x = (num 0 19).toNatClampNeg
          · subst ex
            exact ⟨v48a.trans w11a.symm, v49a.trans w12a.symm, by rw [w12a]; exact mB⟩
          · rw [v48 x ex, v49 x ex, w11 x ex, w12 x ex]
            exact c5 x (by omega)
        · intro j hj
          rw [w20] at hj
          rw [vk 50 (by decide) (by decide) (by decide), vk 51 (by decide) (by decide) (by decide), wk 13 (by decide) (by decide) (by decide)]
          exact c6 j hj
        · intro j hj
          rw [w20] at hj
          have hp0 := tC_of c4.1
          have hp1 : ¬ (0 : Int32).toInt < (num 0 20).toInt := fun e => q2 (vv_gt.mpr e)
          omega
        · rw [wk 5 (by decide) (by decide) (by decide)]
          have d5 := d2.1
          unfold btx at d5
          by_cases d6 : (i + 2 : Int32).toInt < (nux (14 + t.toNatClampNeg) 1).toInt
          · rw [p1] at d6
            omega
          · rw [if_neg d6] at d5
            exact absurd d5 (by decide)
      · rw [if_neg (fun e => by have := fm_in.mp e; omega)] at h2
        cases h2
        have h1 : (r, xi) = (i + 2, nux) := by
          rw [h1]
          rcases dg_of r2 with ⟨g, -⟩ | ⟨g, g3, g4, g5⟩
          · rw [if_pos g]
          · omega
        cases h1
        exact Or.inr ⟨i_ne9 (by omega), rfl, b18⟩
    · rw [if_neg (fun e => by have := fm_in.mp e; omega)] at h2
      cases h2
      have h1 : (r, xi) = (i + 1, nux) := by
        rw [h1]
        rcases dg_of r1 with ⟨g, -⟩ | ⟨g, g3, g4, g5⟩
        · rw [if_pos g]
        · omega
      cases h1
      exact Or.inr ⟨i_ne9 (by omega), rfl, a18⟩
  · have e7 : num 0 19 = 7 := Int32.toInt_inj.mp (by omega)
    rw [if_neg (fun e => by have := vv_lt.mp e; omega)] at h1
    rw [if_pos e7] at h2
    cases h1
    cases h2
    exact Or.inr ⟨i_ne9 (by omega), rfl, hi⟩
theorem parse_loop {t : Int32} (ht : 0 ≤ t.toInt ∧ t.toInt ≤ 3) : ∀ (n m : Nat) (i : Int32) (nux num : Nat → Nat → Int32), prT t.toNatClampNeg nux num → prC nux num → num 0 18 = i → 0 ≤ i.toInt → i.toInt ≤ (num 5 t.toNatClampNeg).toInt → (80 - i.toInt).toNat < n → (80 - i.toInt).toNat < m → (L_sx_faultIn_12_0 (14 + t.toNatClampNeg) n i nux).1 = (L_sm_goesOn_15_0 t m num).1 ∧ ((L_sx_faultIn_12_0 (14 + t.toNatClampNeg) n i nux).1 = -9 → prC (L_sx_faultIn_12_0 (14 + t.toNatClampNeg) n i nux).2 (L_sm_goesOn_15_0 t m num).2) := by
  intro n
  induction n with
  | zero => intro m i nux num _ _ _ _ _ h; exact absurd h (Nat.not_lt_zero _)
  | succ n ih =>
    intro m i nux num hT hC hi h0 hle hn hm
    match m, hm with
    | 0, hm => exact absurd hm (Nat.not_lt_zero _)
    | m + 1, hm =>
      have hT0 := hT
      obtain ⟨p1, p2, p3, p4, p5⟩ := hT0
      have z1 : (1 : Int32).toInt = 1 := rfl
      have htn := tC_of ht.1
      have e27 : 14 + t.toNatClampNeg + 13 = 27 + t.toNatClampNeg := by omega
      rw [L_sx_faultIn_12_0, L_sm_goesOn_15_0]
      simp only [letv_eq, letp_eq]
      rw [hi, p1, e27]
      by_cases c : i.toInt < (num 5 t.toNatClampNeg).toInt
      · have hb0 : F_sm_here num t = nux (27 + t.toNatClampNeg) i.toNatClampNeg := by
          rw [here_eq ht hT hi h0]
          unfold btx
          rw [p1, if_pos c]
        have ng : ¬ i ≥ num 5 t.toNatClampNeg := fun e => by have := vv_ge.mp e; omega
        have i1 : (i + 1 : Int32).toInt = i.toInt + 1 := tI_add rfl z1 (by omega) (by omega)
        rw [if_neg ng, if_neg ng, hb0]
        by_cases q1 : nux (27 + t.toNatClampNeg) i.toNatClampNeg = 32
        · rw [if_pos q1, if_pos q1]
          generalize hn6 : va_up num 0 (upd (num 0) 18 (i + 1)) = nu6
          have a18 : nu6 0 18 = i + 1 := (up_v hn6).symm
          have a19 : nu6 0 19 = num 0 19 := up_f hn6 (by decide)
          have a20 : nu6 0 20 = num 0 20 := up_f hn6 (by decide)
          have ak : ∀ k : Nat, k ≠ 0 → nu6 k = num k := fun k h => up_k hn6 h
          have hT6 : prT t.toNatClampNeg nux nu6 := prT_of hT rfl rfl (ak 5 (by decide)) (ak 6 (by decide))
          have hC6 : prC nux nu6 := by
            unfold prC
            rw [a19, a20, ak 11 (by decide), ak 12 (by decide), ak 13 (by decide)]
            exact hC
          exact ih m (i + 1) nux nu6 hT6 hC6 a18 (by omega) (by rw [ak 5 (by decide)]; omega) (by omega) (by omega)
        · rw [if_neg q1, if_neg q1]
          have i2 : (i + 2 : Int32).toInt = i.toInt + 2 := tI_add rfl (rfl : (2 : Int32).toInt = 2) (by omega) (by omega)
          have i3 : (i + 3 : Int32).toInt = i.toInt + 3 := tI_add rfl (rfl : (3 : Int32).toInt = 3) (by omega) (by omega)
          by_cases q2 : nux (27 + t.toNatClampNeg) i.toNatClampNeg = 119
          · rw [if_pos q2, if_pos q2]
            rcases path_rel ht hT hC hi h0 c (r := (F_sx_faultInPath nux (14 + t.toNatClampNeg) i).1) (xi := (F_sx_faultInPath nux (14 + t.toNatClampNeg) i).2) (r' := (F_sm_readsPath num t).1) (xi' := (F_sm_readsPath num t).2) rfl rfl with ⟨g1, g2, g3, g4, g5, g6⟩ | ⟨g1, g2, g3⟩
            · rw [if_pos g1, if_neg (show ¬ (F_sm_readsPath num t).1 = 0 by rw [g2]; decide), iadd_3]
              exact ih m (i + 3) _ _ g3 g4 g5 (by omega) (by omega) (by omega) (by omega)
            · rw [if_neg g1, if_pos g2]
              exact ⟨g3.symm, fun e => absurd e g1⟩
          · rw [if_neg q2, if_neg q2]
            rcases bear_rel ht hT hC hi h0 c (r := (F_sx_faultInBearer nux (14 + t.toNatClampNeg) i).1) (xi := (F_sx_faultInBearer nux (14 + t.toNatClampNeg) i).2) (r' := (F_sm_readsBearer num t).1) (xi' := (F_sm_readsBearer num t).2) rfl rfl with ⟨g1, g2, g3, g4, g5, g6⟩ | ⟨g1, g2, g3⟩
            · rw [if_pos g1, if_neg (show ¬ (F_sm_readsBearer num t).1 = 0 by rw [g2]; decide), iadd_3]
              exact ih m (i + 3) _ _ g3 g4 g5 (by omega) (by omega) (by omega) (by omega)
            · rw [if_neg g1, if_pos g2]
              exact ⟨g3.symm, fun e => absurd e g1⟩
      · have yg : i ≥ num 5 t.toNatClampNeg := vv_ge.mpr (by omega)
        rw [if_pos yg, if_pos yg]
        exact ⟨rfl, fun _ => hC⟩
theorem parse_rel {t : Int32} {nux num : Nat → Nat → Int32} (ht : 0 ≤ t.toInt ∧ t.toInt ≤ 3) (hT : prT t.toNatClampNeg nux num) : (F_sx_faultIn nux (14 + t.toNatClampNeg)).1 = (F_sm_goesOn num t).1 ∧ ((F_sx_faultIn nux (14 + t.toNatClampNeg)).1 = -9 → prC (F_sx_faultIn nux (14 + t.toNatClampNeg)).2 (F_sm_goesOn num t).2) := by
  have htn := tC_of ht.1
  have z0 : (0 : Int32).toInt = 0 := rfl
  simp only [F_sx_faultIn, F_sm_goesOn, letv_eq]
  generalize hx1 : va_up nux 31 (upd (nux 31) 4 0) = x1
  generalize hx2 : va_up x1 31 (upd (x1 31) 5 0) = x2
  generalize hm1 : va_up num 0 (upd (num 0) 18 0) = m1
  generalize hm2 : va_up m1 0 (upd (m1 0) 19 0) = m2
  generalize hm3 : va_up m2 0 (upd (m2 0) 20 0) = m3
  have xk : ∀ k : Nat, k ≠ 31 → x2 k = nux k := fun k h => (up_k hx2 h).trans (up_k hx1 h)
  have mk : ∀ k : Nat, k ≠ 0 → m3 k = num k := fun k h => (up_k hm3 h).trans ((up_k hm2 h).trans (up_k hm1 h))
  have a4 : x2 31 4 = 0 := (up_f hx2 (by decide)).trans (up_v hx1).symm
  have a5 : x2 31 5 = 0 := (up_v hx2).symm
  have b18 : m3 0 18 = 0 := (up_f hm3 (by decide)).trans ((up_f hm2 (by decide)).trans (up_v hm1).symm)
  have b19 : m3 0 19 = 0 := (up_f hm3 (by decide)).trans (up_v hm2).symm
  have b20 : m3 0 20 = 0 := (up_v hm3).symm
  have hT3 : prT t.toNatClampNeg x2 m3 := prT_of hT (xk _ (by omega)) (xk _ (by omega)) (mk 5 (by decide)) (mk 6 (by decide))
  have hC3 : prC x2 m3 := by
    unfold prC
    rw [a4, a5, b19, b20]
    refine ⟨rfl, rfl, by decide, by decide, fun x hx => ?_, fun j hj => ?_, fun j hj => ?_⟩
    · exact absurd hx (Nat.not_lt_zero _)
    · exact absurd hj (Nat.not_lt_zero _)
    · exact absurd hj (Nat.not_lt_zero _)
  exact parse_loop ht 85 102 0 x2 m3 hT3 hC3 b18 (by decide) hT3.2.2.1 (by decide) (by decide)
theorem simT_prT {t : Int32} {mux mum : Nat → Nat → Int32} (okx : okR loX hiX mux) (okm : okR loM hiM mum) (h : simT mux mum) (ht : 0 ≤ t.toInt ∧ t.toInt ≤ 3) (hp : 0 ≤ (mum 5 t.toNatClampNeg).toInt) : prT t.toNatClampNeg mux mum := by
  have htn := tC_of ht.1
  rcases h t.toNatClampNeg (by omega) with ⟨a, b⟩ | ⟨a, b, c⟩
  · omega
  · refine ⟨b, c, hp, ?_, fun j => ?_⟩
    · have bd := (okm 5 t.toNatClampNeg).2
      exact bd
    · exact rX_bytes_s okx (27 + t.toNatClampNeg) (by omega) (by omega) j
theorem fault_rel {t r1 r2 : Int32} {mux mum xi1 xi2 : Nat → Nat → Int32} (okx : okR loX hiX mux) (okm : okR loM hiM mum) (h : simT mux mum) (h1 : (r1, xi1) = F_qx_fault mux t) (h2 : (r2, xi2) = F_qm_fault mum t) : r1 = r2 := by
  unfold F_qx_fault at h1
  unfold F_qm_fault at h2
  rcases refT_of (t := t) h with ⟨ct, lb, q1, q2⟩ | ⟨q1, q2⟩ | ⟨q1, q2⟩
  · rw [q1] at h1
    rw [q2] at h2
    simp only [letp_eq] at h1 h2
    rw [if_pos trivial] at h1
    rw [if_pos trivial] at h2
    have e1 : r1 = (F_sx_faultIn mux (14 + t.toNatClampNeg)).1 := congrArg Prod.fst h1
    have e2 : r2 = (F_sm_goesOn mum t).1 := congrArg Prod.fst h2
    rw [e1, e2]
    exact (parse_rel ct (simT_prT okx okm h ct lb)).1
  · rw [q1] at h1
    rw [q2] at h2
    simp only [letp_eq] at h1 h2
    rw [if_neg (show ¬ (-3 : Int32) = 0 by decide)] at h1 h2
    exact (congrArg Prod.fst h1).trans (congrArg Prod.fst h2).symm
  · rw [q1] at h1
    rw [q2] at h2
    simp only [letp_eq] at h1 h2
    rw [if_neg (show ¬ (-1 : Int32) = 0 by decide)] at h1 h2
    exact (congrArg Prod.fst h1).trans (congrArg Prod.fst h2).symm

