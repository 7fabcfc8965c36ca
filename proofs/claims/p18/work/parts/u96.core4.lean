-- ===== what keeps the core =====
theorem core_of {mux mum xi1 xi2 : Nat → Nat → Int32} (okm : okR loM hiM mum) (h : core mux mum) (h1 : ∀ k f : Nat, 2 ≤ gpX k f → xi1 k f = mux k f) (h2 : ∀ k f : Nat, 2 ≤ gpM k f → xi2 k f = mum k f) : core xi1 xi2 := by
  obtain ⟨hK, hE, ⟨s2, s3, s4, s6⟩, hday, hP, hL, hS, hA⟩ := h
  have hsent : 0 ≤ (mum 0 15).toInt ∧ (mum 0 15).toInt ≤ 4 := okm 0 15
  have hled : 0 ≤ (mum 0 17).toInt ∧ (mum 0 17).toInt ≤ 40 := okm 0 17
  have cs := tC_of hsent.1
  have cl := tC_of hled.1
  have m8 : xi2 0 8 = mum 0 8 := h2 0 8 (by decide)
  have m11 : xi2 0 11 = mum 0 11 := h2 0 11 (by decide)
  have m13 : xi2 0 13 = mum 0 13 := h2 0 13 (by decide)
  have m14 : xi2 0 14 = mum 0 14 := h2 0 14 (by decide)
  have m15 : xi2 0 15 = mum 0 15 := h2 0 15 (by decide)
  have m17 : xi2 0 17 = mum 0 17 := h2 0 17 (by decide)
  have c9 : xi2 9 = mum 9 := funext fun f => h2 9 f (show 2 ≤ (2 : Nat) by decide)
  have c8 : xi2 8 = mum 8 := funext fun f => h2 8 f (show 2 ≤ (3 : Nat) by decide)
  have c10 : xi2 10 = mum 10 := funext fun f => h2 10 f (show 2 ≤ (3 : Nat) by decide)
  have c14 : xi2 14 = mum 14 := funext fun f => h2 14 f (show 2 ≤ (4 : Nat) by decide)
  have c15 : xi2 15 = mum 15 := funext fun f => h2 15 f (show 2 ≤ (5 : Nat) by decide)
  have x46 : xi1 46 = mux 46 := funext fun f => h1 46 f (show 2 ≤ (3 : Nat) by decide)
  refine ⟨simK_of hK (fun k f e => h1 k f (by rw [e]; decide)) (fun k f e => h2 k f (by rw [e]; decide)), ?_, ⟨?_, ?_, ?_, ?_⟩, ?_, ?_, ?_, ?_, ?_⟩
  · unfold endR
    rw [m11, m8, c9]
    exact hE
  · rw [h1 5 2 (by decide), m13]; exact s2
  · rw [h1 5 3 (by decide), m14]; exact s3
  · rw [h1 5 4 (by decide), m15]; exact s4
  · rw [h1 6 1 (by decide), m17]; exact s6
  · rw [m14]; exact hday
  · rw [x46, c8, m8]; exact hP
  · rw [m8, m15, c10]
    exact letR_of hL (fun k hk => funext fun f => h1 _ f (by rw [gpX_letter (by omega) (by omega)]; decide)) (fun k hk f hf => rfl)
  · unfold salR salN
    rw [m17, m8, m15, c14]
    intro s hs
    have e1 : xi1 (77 + s) = mux (77 + s) := funext fun f => h1 _ f (by rw [gpX_sale (by omega) (by omega)]; decide)
    have e2 : xi1 (117 + s) = mux (117 + s) := funext fun f => h1 _ f (by rw [gpX_spurses (by omega) (by omega)]; decide)
    rw [e1, e2]
    exact hS s hs
  · refine kepR_of hA (fun c hc => funext fun f => h1 c f ?_) c15 m8
    rcases hc with h | h | h
    · rw [gpX_kept h.1 h.2]; decide
    · rw [gpX_kpurses h.1 h.2]; decide
    · rw [gpX_letter (by omega) h.2]; decide
theorem core_keep {m1 m2 : Nat} {mux mum xi1 xi2 : Nat → Nat → Int32} (okm : okR loM hiM mum) (hm1 : ∀ g : Nat, g < 9 → 2 ≤ g → Nat.testBit m1 g = true) (hm2 : ∀ g : Nat, g < 9 → 2 ≤ g → Nat.testBit m2 g = true) (h1 : ∀ k f : Nat, Nat.testBit m1 (gpX k f) = true → xi1 k f = mux k f) (h2 : ∀ k f : Nat, Nat.testBit m2 (gpM k f) = true → xi2 k f = mum k f) (h : core mux mum) : core xi1 xi2 :=
  core_of okm h (fun k f e => h1 k f (hm1 _ (Nat.lt_succ_of_le (gpX_le k f)) e)) (fun k f e => h2 k f (hm2 _ (Nat.lt_succ_of_le (gpM_le k f)) e))
theorem core_0 : core mu0X mu0M := by
  refine ⟨simK_0, fun j hj => absurd hj (Nat.not_lt_zero _), ⟨rfl, rfl, rfl, rfl⟩, by decide, fun x hx => absurd hx (Nat.not_lt_zero _), fun k hk => absurd hk (Nat.not_lt_zero _), fun s hs => absurd hs (Nat.not_lt_zero _), fun j hj => ?_⟩
  have key : ∀ j : Nat, j < 3 → mu0X (18 + j) 5 = 0 ∧ mu0M 15 (64 * j) = -9 := by decide +kernel
  exact Or.inl (key j hj)
theorem town_core {mux mum xi1 xi2 : Nat → Nat → Int32} (okm : okR loM hiM mum) (h : (simK xi1 xi2 ∧ endR xi2 ∧ newT xi1 xi2) ∨ ((∀ k f : Nat, gpX k f ≠ 0 → xi1 k f = mux k f) ∧ (∀ k f : Nat, gpM k f ≠ 0 → xi2 k f = mum k f))) (h0 : core mux mum) : core xi1 xi2 := by
  rcases h with ⟨a, e, p, ⟨x2, x3, x4, x6⟩, ⟨y2, y3, y4, y6⟩, k, -, -⟩ | ⟨a, b⟩
  · refine ⟨a, e, ⟨x2.trans y2.symm, x3.trans y3.symm, x4.trans y4.symm, x6.trans y6.symm⟩, ?_, p, fun k hk => ?_, fun s hs => ?_, fun j hj => Or.inl (k j hj)⟩
    · rw [y3]; decide
    · rw [y4] at hk; exact absurd hk (Nat.not_lt_zero _)
    · rw [y6] at hs; exact absurd hs (Nat.not_lt_zero _)
  · exact core_of okm h0 (fun k f e => a k f (by omega)) (fun k f e => b k f (by omega))
theorem bg_x {mu : Nat → Nat → Int32} {kk : Nat} {vx vy vw vl vd : Int32} {xi : Nat → Nat → Int32} (h : xi = F_sx_begin mu kk vx vy vw vl vd) : (∀ c : Nat, c ≠ kk → xi c = mu c) ∧ xi kk 0 = vx ∧ xi kk 1 = vy ∧ xi kk 2 = vw ∧ xi kk 3 = vl ∧ xi kk 4 = vd ∧ xi kk 5 = vx ∧ xi kk 6 = 0 ∧ xi kk 7 = -9 ∧ xi kk 8 = 0 ∧ xi kk 9 = 0 := by
  unfold F_sx_begin at h
  obtain ⟨nu1, e_nu1, h⟩ := letv_out h
  obtain ⟨nu4, e_nu4, h⟩ := letv_out h
  obtain ⟨nu8, e_nu8, h⟩ := letv_out h
  obtain ⟨nu13, e_nu13, h⟩ := letv_out h
  obtain ⟨nu19, e_nu19, h⟩ := letv_out h
  obtain ⟨nu26, e_nu26, h⟩ := letv_out h
  obtain ⟨nu34, e_nu34, h⟩ := letv_out h
  obtain ⟨nu43, e_nu43, h⟩ := letv_out h
  obtain ⟨nu53, e_nu53, h⟩ := letv_out h
  obtain ⟨nu64, e_nu64, h⟩ := letv_out h
  subst h
  refine ⟨fun c hc => (up_k e_nu64 hc).trans ((up_k e_nu53 hc).trans ((up_k e_nu43 hc).trans ((up_k e_nu34 hc).trans ((up_k e_nu26 hc).trans ((up_k e_nu19 hc).trans ((up_k e_nu13 hc).trans ((up_k e_nu8 hc).trans ((up_k e_nu4 hc).trans (up_k e_nu1 hc))))))))), (up_f e_nu64 (by omega)).trans ((up_f e_nu53 (by omega)).trans ((up_f e_nu43 (by omega)).trans ((up_f e_nu34 (by omega)).trans ((up_f e_nu26 (by omega)).trans ((up_f e_nu19 (by omega)).trans ((up_f e_nu13 (by omega)).trans ((up_f e_nu8 (by omega)).trans ((up_f e_nu4 (by omega)).trans ((up_v e_nu1).symm))))))))), (up_f e_nu64 (by omega)).trans ((up_f e_nu53 (by omega)).trans ((up_f e_nu43 (by omega)).trans ((up_f e_nu34 (by omega)).trans ((up_f e_nu26 (by omega)).trans ((up_f e_nu19 (by omega)).trans ((up_f e_nu13 (by omega)).trans ((up_f e_nu8 (by omega)).trans ((up_v e_nu4).symm)))))))), (up_f e_nu64 (by omega)).trans ((up_f e_nu53 (by omega)).trans ((up_f e_nu43 (by omega)).trans ((up_f e_nu34 (by omega)).trans ((up_f e_nu26 (by omega)).trans ((up_f e_nu19 (by omega)).trans ((up_f e_nu13 (by omega)).trans ((up_v e_nu8).symm))))))), (up_f e_nu64 (by omega)).trans ((up_f e_nu53 (by omega)).trans ((up_f e_nu43 (by omega)).trans ((up_f e_nu34 (by omega)).trans ((up_f e_nu26 (by omega)).trans ((up_f e_nu19 (by omega)).trans ((up_v e_nu13).symm)))))), (up_f e_nu64 (by omega)).trans ((up_f e_nu53 (by omega)).trans ((up_f e_nu43 (by omega)).trans ((up_f e_nu34 (by omega)).trans ((up_f e_nu26 (by omega)).trans ((up_v e_nu19).symm))))), (up_f e_nu64 (by omega)).trans ((up_f e_nu53 (by omega)).trans ((up_f e_nu43 (by omega)).trans ((up_f e_nu34 (by omega)).trans ((up_v e_nu26).symm)))), (up_f e_nu64 (by omega)).trans ((up_f e_nu53 (by omega)).trans ((up_f e_nu43 (by omega)).trans ((up_v e_nu34).symm))), (up_f e_nu64 (by omega)).trans ((up_f e_nu53 (by omega)).trans ((up_v e_nu43).symm)), (up_f e_nu64 (by omega)).trans ((up_v e_nu53).symm), (up_v e_nu64).symm⟩
theorem sd_m {mu : Nat → Nat → Int32} {vx vy vw vf r : Int32} {xi : Nat → Nat → Int32} (ht : F_sm_areTwo mu vx vy = 1) (hw : F_sm_in vw 0 99 = 1) (hf : F_sm_in vf 0 9 = 1) (h4 : 0 ≤ (mu 0 15).toInt ∧ (mu 0 15).toInt ≤ 3) (h : (r, xi) = F_qm_send mu vx vy vw vf) : r = mu 0 15 ∧ (∀ c : Nat, c ≠ 0 → c ≠ 10 → xi c = mu c) ∧ (∀ f : Nat, f ≠ 15 → xi 0 f = mu 0 f) ∧ xi 0 15 = mu 0 15 + 1 ∧ (∀ f : Nat, f < 10 * (mu 0 15).toNatClampNeg ∨ 10 * (mu 0 15).toNatClampNeg + 10 ≤ f → xi 10 f = mu 10 f) ∧ xi 10 (10 * (mu 0 15).toNatClampNeg + 0) = vx ∧ xi 10 (10 * (mu 0 15).toNatClampNeg + 1) = vy ∧ xi 10 (10 * (mu 0 15).toNatClampNeg + 2) = vw ∧ xi 10 (10 * (mu 0 15).toNatClampNeg + 3) = vf ∧ xi 10 (10 * (mu 0 15).toNatClampNeg + 4) = mu 0 14 ∧ xi 10 (10 * (mu 0 15).toNatClampNeg + 5) = vx ∧ xi 10 (10 * (mu 0 15).toNatClampNeg + 6) = 0 ∧ xi 10 (10 * (mu 0 15).toNatClampNeg + 7) = 0 ∧ xi 10 (10 * (mu 0 15).toNatClampNeg + 8) = -9 ∧ xi 10 (10 * (mu 0 15).toNatClampNeg + 9) = 0 := by
  have hc := tC_of h4.1
  have hk : 0 ≤ (mu 0 15).toInt ∧ (mu 0 15).toInt ≤ 3 := h4
  unfold F_qm_send at h
  rw [if_pos ht, if_pos hw, if_pos hf] at h
  obtain ⟨y4, e_y4, h⟩ := letv_out h
  subst e_y4
  rw [if_neg (fun e => by rw [e] at h4; exact absurd h4.2 (by decide))] at h
  obtain ⟨t6, e_t6, h⟩ := letv_out h
  obtain ⟨nu7, e_nu7, h⟩ := letv_out h
  obtain ⟨xi10, e_xi10, h⟩ := letv_out h
  obtain ⟨xi12, e_xi12, h⟩ := letv_out h
  obtain ⟨xi14, e_xi14, h⟩ := letv_out h
  obtain ⟨xi16, e_xi16, h⟩ := letv_out h
  obtain ⟨y18, e_y18, h⟩ := letv_out h
  obtain ⟨xi19, e_xi19, h⟩ := letv_out h
  obtain ⟨xi21, e_xi21, h⟩ := letv_out h
  obtain ⟨xi23, e_xi23, h⟩ := letv_out h
  obtain ⟨xi25, e_xi25, h⟩ := letv_out h
  obtain ⟨xi27, e_xi27, h⟩ := letv_out h
  obtain ⟨xi29, e_xi29, h⟩ := letv_out h
  rw [fm_set0 hk] at e_xi10
  rw [fm_set1 hk] at e_xi12
  rw [fm_set2 hk] at e_xi14
  rw [fm_set3 hk] at e_xi16
  rw [fm_set4 hk] at e_xi19
  rw [fm_set5 hk] at e_xi21
  rw [fm_set6 hk] at e_xi23
  rw [fm_set7 hk] at e_xi25
  rw [fm_set8 hk] at e_xi27
  rw [fm_set9 hk] at e_xi29
  obtain ⟨hr, hx⟩ := Prod.mk.inj h
  subst hr hx
  have x0 : xi 0 = nu7 0 := (up_k e_xi29 (by decide)).trans ((up_k e_xi27 (by decide)).trans ((up_k e_xi25 (by decide)).trans ((up_k e_xi23 (by decide)).trans ((up_k e_xi21 (by decide)).trans ((up_k e_xi19 (by decide)).trans ((up_k e_xi16 (by decide)).trans ((up_k e_xi14 (by decide)).trans ((up_k e_xi12 (by decide)).trans (up_k e_xi10 (by decide))))))))))
  have qd : y18 = mu 0 14 := e_y18.symm.trans ((congrFun ((up_k e_xi16 (by decide)).trans ((up_k e_xi14 (by decide)).trans ((up_k e_xi12 (by decide)).trans (up_k e_xi10 (by decide))))) 14).trans (up_f e_nu7 (by decide)))
  refine ⟨rfl, fun c h1 h2 => (up_k e_xi29 h2).trans ((up_k e_xi27 h2).trans ((up_k e_xi25 h2).trans ((up_k e_xi23 h2).trans ((up_k e_xi21 h2).trans ((up_k e_xi19 h2).trans ((up_k e_xi16 h2).trans ((up_k e_xi14 h2).trans ((up_k e_xi12 h2).trans ((up_k e_xi10 h2).trans (up_k e_nu7 h1)))))))))), fun f hf => ?_, ?_, fun f hf => (up_f e_xi29 (by omega)).trans ((up_f e_xi27 (by omega)).trans ((up_f e_xi25 (by omega)).trans ((up_f e_xi23 (by omega)).trans ((up_f e_xi21 (by omega)).trans ((up_f e_xi19 (by omega)).trans ((up_f e_xi16 (by omega)).trans ((up_f e_xi14 (by omega)).trans ((up_f e_xi12 (by omega)).trans ((up_f e_xi10 (by omega)).trans (congrFun (up_k e_nu7 (by decide)) f)))))))))), (up_f e_xi29 (by omega)).trans ((up_f e_xi27 (by omega)).trans ((up_f e_xi25 (by omega)).trans ((up_f e_xi23 (by omega)).trans ((up_f e_xi21 (by omega)).trans ((up_f e_xi19 (by omega)).trans ((up_f e_xi16 (by omega)).trans ((up_f e_xi14 (by omega)).trans ((up_f e_xi12 (by omega)).trans ((up_v e_xi10).symm))))))))), (up_f e_xi29 (by omega)).trans ((up_f e_xi27 (by omega)).trans ((up_f e_xi25 (by omega)).trans ((up_f e_xi23 (by omega)).trans ((up_f e_xi21 (by omega)).trans ((up_f e_xi19 (by omega)).trans ((up_f e_xi16 (by omega)).trans ((up_f e_xi14 (by omega)).trans ((up_v e_xi12).symm)))))))), (up_f e_xi29 (by omega)).trans ((up_f e_xi27 (by omega)).trans ((up_f e_xi25 (by omega)).trans ((up_f e_xi23 (by omega)).trans ((up_f e_xi21 (by omega)).trans ((up_f e_xi19 (by omega)).trans ((up_f e_xi16 (by omega)).trans ((up_v e_xi14).symm))))))), (up_f e_xi29 (by omega)).trans ((up_f e_xi27 (by omega)).trans ((up_f e_xi25 (by omega)).trans ((up_f e_xi23 (by omega)).trans ((up_f e_xi21 (by omega)).trans ((up_f e_xi19 (by omega)).trans ((up_v e_xi16).symm)))))), ((up_f e_xi29 (by omega)).trans ((up_f e_xi27 (by omega)).trans ((up_f e_xi25 (by omega)).trans ((up_f e_xi23 (by omega)).trans ((up_f e_xi21 (by omega)).trans ((up_v e_xi19).symm)))))).trans qd, (up_f e_xi29 (by omega)).trans ((up_f e_xi27 (by omega)).trans ((up_f e_xi25 (by omega)).trans ((up_f e_xi23 (by omega)).trans ((up_v e_xi21).symm)))), (up_f e_xi29 (by omega)).trans ((up_f e_xi27 (by omega)).trans ((up_f e_xi25 (by omega)).trans ((up_v e_xi23).symm))), (up_f e_xi29 (by omega)).trans ((up_f e_xi27 (by omega)).trans ((up_v e_xi25).symm)), (up_f e_xi29 (by omega)).trans ((up_v e_xi27).symm), (up_v e_xi29).symm⟩
  · rw [x0]
    exact up_f e_nu7 hf
  · rw [x0, ← up_v e_nu7, ← e_t6]
-- ===== answers, and the core behind them =====
theorem fx_refL {mux : Nat → Nat → Int32} {k : Int32} : ((0 ≤ k.toInt ∧ k.toInt < (mux 5 4).toInt) ∧ F_sx_refusedLetter mux k 0 = (0, mux)) ∨ (0 ≤ k.toInt ∧ (mux 5 4).toInt ≤ k.toInt ∧ F_sx_refusedLetter mux k 0 = (-3, (F_sx_found mux 2).2)) ∨ (k.toInt < 0 ∧ F_sx_refusedLetter mux k 0 = (-1, mux)) := by
  have z0 : (0 : Int32).toInt = 0 := rfl
  unfold F_sx_refusedLetter
  by_cases c : k < (0 : Int32)
  · have c2 := vv_lt.mp c
    rw [if_pos c]
    exact Or.inr (Or.inr ⟨by omega, rfl⟩)
  · have c2 : ¬ k.toInt < (0 : Int32).toInt := fun e => c (vv_lt.mpr e)
    rw [if_neg c, if_pos rfl]
    simp only [letv_eq, letp_eq]
    by_cases c3 : k < mux 5 4
    · have c4 := vv_lt.mp c3
      rw [if_pos c3]
      exact Or.inl ⟨⟨by omega, c4⟩, rfl⟩
    · have c4 : ¬ k.toInt < (mux 5 4).toInt := fun e => c3 (vv_lt.mpr e)
      rw [if_neg c3]
      exact Or.inr (Or.inl ⟨by omega, by omega, rfl⟩)
theorem fx_refL1 {mux : Nat → Nat → Int32} {k : Int32} : F_sx_refusedLetter mux k 1 = (-1, mux) := by
  unfold F_sx_refusedLetter
  by_cases c : k < (0 : Int32)
  · rw [if_pos c]
  · rw [if_neg c, if_neg (by decide)]
theorem fm_askL {mum : Nat → Nat → Int32} {k : Int32} : ((0 ≤ k.toInt ∧ k.toInt < (mum 0 15).toInt) ∧ F_sm_askedLetter mum k = (0, mum)) ∨ (0 ≤ k.toInt ∧ (mum 0 15).toInt ≤ k.toInt ∧ F_sm_askedLetter mum k = (-3, (F_sm_meet mum 2).2)) ∨ (k.toInt < 0 ∧ F_sm_askedLetter mum k = (-1, mum)) := by
  have z0 : (0 : Int32).toInt = 0 := rfl
  unfold F_sm_askedLetter
  by_cases c : k ≥ (0 : Int32)
  · have c2 := vv_ge.mp c
    rw [if_pos c]
    simp only [letv_eq, letp_eq]
    by_cases c3 : k < mum 0 15
    · have c4 := vv_lt.mp c3
      rw [if_pos c3]
      exact Or.inl ⟨⟨by omega, c4⟩, rfl⟩
    · have c4 : ¬ k.toInt < (mum 0 15).toInt := fun e => c3 (vv_lt.mpr e)
      rw [if_neg c3]
      exact Or.inr (Or.inl ⟨by omega, by omega, rfl⟩)
  · have c2 : ¬ (0 : Int32).toInt ≤ k.toInt := fun e => c (vv_ge.mpr e)
    rw [if_neg c]
    exact Or.inr (Or.inr ⟨by omega, rfl⟩)
/-- both ask for the letter alike -/
theorem askL {mux mum : Nat → Nat → Int32} {k : Int32} (h : mux 5 4 = mum 0 15) : ((0 ≤ k.toInt ∧ k.toInt < (mum 0 15).toInt) ∧ F_sx_refusedLetter mux k 0 = (0, mux) ∧ F_sm_askedLetter mum k = (0, mum)) ∨ (0 ≤ k.toInt ∧ F_sx_refusedLetter mux k 0 = (-3, (F_sx_found mux 2).2) ∧ F_sm_askedLetter mum k = (-3, (F_sm_meet mum 2).2)) ∨ (k.toInt < 0 ∧ F_sx_refusedLetter mux k 0 = (-1, mux) ∧ F_sm_askedLetter mum k = (-1, mum)) := by
  have a := fx_refL (mux := mux) (k := k)
  have b := fm_askL (mum := mum) (k := k)
  rw [h] at a
  rcases a with ⟨a1, a2⟩ | ⟨a1, a3, a2⟩ | ⟨a1, a2⟩
  · rcases b with ⟨b1, b2⟩ | ⟨b1, b3, b2⟩ | ⟨b1, b2⟩
    · exact Or.inl ⟨a1, a2, b2⟩
    · omega
    · omega
  · rcases b with ⟨b1, b2⟩ | ⟨b1, b3, b2⟩ | ⟨b1, b2⟩
    · omega
    · exact Or.inr (Or.inl ⟨a1, a2, b2⟩)
    · omega
  · rcases b with ⟨b1, b2⟩ | ⟨b1, b3, b2⟩ | ⟨b1, b2⟩
    · omega
    · omega
    · exact Or.inr (Or.inr ⟨a1, a2, b2⟩)
theorem n3 : ¬ (-3 : Int32) = 0 := by decide
theorem n1 : ¬ (-1 : Int32) = 0 := by decide
theorem where_rel {k r1 r2 : Int32} {mux mum xi1 xi2 : Nat → Nat → Int32} (okm : okR loM hiM mum) (hC : core mux mum) (h1 : (r1, xi1) = F_qx_where mux k) (h2 : (r2, xi2) = F_qm_where mum k) : r1 = r2 := by
  obtain ⟨hK, hE, ⟨s2, s3, s4, s6⟩, hday, hP, hL, hS, hA⟩ := hC
  have hsent : 0 ≤ (mum 0 15).toInt ∧ (mum 0 15).toInt ≤ 4 := okm 0 15
  have cs := tC_of hsent.1
  unfold F_qx_where at h1
  unfold F_qm_where at h2
  rcases askL (k := k) s4 with ⟨hk, q1, q2⟩ | ⟨hk, q1, q2⟩ | ⟨hk, q1, q2⟩
  · rw [q1] at h1
    rw [q2] at h2
    simp only [letp_eq, letv_eq] at h1 h2
    rw [if_pos trivial] at h1 h2
    have ck := tC_of hk.1
    obtain ⟨lf, -⟩ := hL k.toNatClampNeg (by omega)
    have g5 : mux (61 + k.toNatClampNeg) 5 = mum 10 (10 * k.toNatClampNeg + 5) := lf 5 (by decide)
    have e1 := (Prod.mk.inj h1).1
    have e2 := (Prod.mk.inj h2).1
    rw [fm_ask, fm_letterOf5 ⟨hk.1, by omega⟩, ← g5] at e2
    rw [e1, e2]
    simp [va_up]
  · rw [q1] at h1
    rw [q2] at h2
    simp only [letp_eq] at h1 h2
    rw [if_neg n3] at h1 h2
    exact (Prod.mk.inj h1).1.trans (Prod.mk.inj h2).1.symm
  · rw [q1] at h1
    rw [q2] at h2
    simp only [letp_eq] at h1 h2
    rw [if_neg n1] at h1 h2
    exact (Prod.mk.inj h1).1.trans (Prod.mk.inj h2).1.symm
theorem letter_rel {k w r1 r2 : Int32} {mux mum xi1 xi2 : Nat → Nat → Int32} (s4 : mux 5 4 = mum 0 15) (h1 : (r1, xi1) = F_qx_letter mux k w) (h2 : (r2, xi2) = F_qm_letter mum k w) : r1 = r2 := by
  have z0 : (0 : Int32).toInt = 0 := rfl
  have z4 : (4 : Int32).toInt = 4 := rfl
  have z5 : (5 : Int32).toInt = 5 := rfl
  unfold F_qx_letter at h1
  unfold F_qm_letter at h2
  rw [fx_refL1] at h1
  by_cases cw : 0 ≤ w.toInt ∧ w.toInt ≤ 4
  · rw [if_neg (fun e => by have := vv_lt.mp e; omega), if_pos (vv_lt.mpr (by omega))] at h1
    rw [if_pos (fm_in.mpr ⟨by omega, by omega⟩)] at h2
    rcases askL (k := k) s4 with ⟨hk, q1, q2⟩ | ⟨hk, q1, q2⟩ | ⟨hk, q1, q2⟩
    · rw [q1] at h1
      rw [q2] at h2
      simp only [letp_eq, letv_eq] at h1 h2
      rw [if_pos trivial] at h1 h2
      have e2 := (Prod.mk.inj h2).1
      rw [fm_ask] at e2
      exact (Prod.mk.inj h1).1.trans e2.symm
    · rw [q1] at h1
      rw [q2] at h2
      simp only [letp_eq] at h1 h2
      rw [if_neg n3] at h1 h2
      exact (Prod.mk.inj h1).1.trans (Prod.mk.inj h2).1.symm
    · rw [q1] at h1
      rw [q2] at h2
      simp only [letp_eq] at h1 h2
      rw [if_neg n1] at h1 h2
      exact (Prod.mk.inj h1).1.trans (Prod.mk.inj h2).1.symm
  · rw [if_neg (fun e => by have := fm_in.mp e; omega)] at h2
    simp only [letp_eq] at h1
    rw [if_neg n1] at h1
    by_cases c1 : w < (0 : Int32)
    · rw [if_pos c1] at h1
      exact (Prod.mk.inj h1).1.trans (Prod.mk.inj h2).1.symm
    · have c2 : ¬ w.toInt < (0 : Int32).toInt := fun e => c1 (vv_lt.mpr e)
      rw [if_neg c1, if_neg (fun e => by have := vv_lt.mp e; omega)] at h1
      exact (Prod.mk.inj h1).1.trans (Prod.mk.inj h2).1.symm
theorem buyers_core {mux mum : Nat → Nat → Int32} {k : Int32} (bd : bdM mum) (hC : core mux mum) (hk : 0 ≤ k.toInt ∧ k.toInt < (mum 0 15).toInt) : F_sx_buyersOf mux (61 + k.toNatClampNeg) = F_sm_canSell mum k := by
  obtain ⟨hK, hE, ⟨s2, s3, s4, s6⟩, hday, hP, hL, hS, hA⟩ := hC
  obtain ⟨hb, hpa, hsent, hled⟩ := bd
  have cs := tC_of hsent.1
  have ck := tC_of hk.1
  exact buyers_eq ⟨hk.1, by omega⟩ hK hb hpa hE hP s2 s3 (hL k.toNatClampNeg (by omega))
theorem can_rel {k r1 r2 : Int32} {mux mum xi1 xi2 : Nat → Nat → Int32} (okm : okR loM hiM mum) (hC : core mux mum) (h1 : (r1, xi1) = F_qx_can mux k) (h2 : (r2, xi2) = F_qm_can mum k) : r1 = r2 := by
  have s4 := hC.2.2.1.2.2.1
  unfold F_qx_can at h1
  unfold F_qm_can at h2
  rcases askL (k := k) s4 with ⟨hk, q1, q2⟩ | ⟨hk, q1, q2⟩ | ⟨hk, q1, q2⟩
  · rw [q1] at h1
    rw [q2] at h2
    simp only [letp_eq, letv_eq] at h1 h2
    rw [if_pos trivial] at h1 h2
    rw [buyers_core (bd_of okm) hC hk] at h1
    exact (Prod.mk.inj h1).1.trans (Prod.mk.inj h2).1.symm
  · rw [q1] at h1
    rw [q2] at h2
    simp only [letp_eq] at h1 h2
    rw [if_neg n3] at h1 h2
    exact (Prod.mk.inj h1).1.trans (Prod.mk.inj h2).1.symm
  · rw [q1] at h1
    rw [q2] at h2
    simp only [letp_eq] at h1 h2
    rw [if_neg n1] at h1 h2
    exact (Prod.mk.inj h1).1.trans (Prod.mk.inj h2).1.symm
theorem found_core {mux mum : Nat → Nat → Int32} {a b : Int32} (okm : okR loM hiM mum) (h : core mux mum) : core (F_sx_found mux a).2 (F_sm_meet mum b).2 := by
  refine core_of okm h (fun k f e => fx_found.2 k f (fun e2 => by subst e2; exact absurd e (by show ¬ 2 ≤ 0; decide)) (fun e2 => by subst e2; exact absurd e (by show ¬ 2 ≤ 0; decide))) (fun k f e => ?_)
  by_cases c : k = 0
  · subst c
    exact fm_meet.2.2 f (fun e2 => by subst e2; exact absurd e (by decide))
  · exact fm_meet.2.1 k f c (fun e2 => by subst e2; exact absurd e (by show ¬ 2 ≤ 0; decide))
theorem fx_isFull {mux : Nat → Nat → Int32} : F_sx_isFull mux = 1 ↔ 40 ≤ (mux 6 1).toInt := by
  have z : (40 : Int32).toInt = 40 := rfl
  simp only [F_sx_isFull, letv_eq]
  split
  · rename_i c
    have c2 := vv_lt.mp c
    exact ⟨fun e => absurd e (by decide), fun e => by omega⟩
  · rename_i c
    have c2 : ¬ (mux 6 1).toInt < (40 : Int32).toInt := fun e => c (vv_lt.mpr e)
    exact ⟨fun _ => by omega, fun _ => rfl⟩
theorem sell_rel {k x r1 r2 : Int32} {mux mum xi1 xi2 : Nat → Nat → Int32} (okm : okR loM hiM mum) (hC : core mux mum) (h1 : (r1, xi1) = F_qx_sell mux k x) (h2 : (r2, xi2) = F_qm_sell mum k x) : r1 = r2 ∧ core xi1 xi2 := by
  have hC0 := hC
  obtain ⟨hK, hE, ⟨s2, s3, s4, s6⟩, hday, hP, hL, hS, hA⟩ := hC
  have hb : 0 ≤ (mum 0 8).toInt ∧ (mum 0 8).toInt ≤ 7 := okm 0 8
  have hsent : 0 ≤ (mum 0 15).toInt ∧ (mum 0 15).toInt ≤ 4 := okm 0 15
  have hled : 0 ≤ (mum 0 17).toInt ∧ (mum 0 17).toInt ≤ 40 := okm 0 17
  have cs := tC_of hsent.1
  have z0 : (0 : Int32).toInt = 0 := rfl
  have z40 : (40 : Int32).toInt = 40 := rfl
  unfold F_qx_sell at h1
  unfold F_qm_sell at h2
  rw [fx_refL1] at h1
  by_cases cx : 0 ≤ x.toInt ∧ x.toInt < (mum 0 8).toInt
  · rw [if_pos (fx_has.mpr (by rw [hK.1]; exact cx))] at h1
    rw [if_pos ((fm_isOne hb).mpr cx)] at h2
    rcases askL (k := k) s4 with ⟨hk, q1, q2⟩ | ⟨hk, q1, q2⟩ | ⟨hk, q1, q2⟩
    · rw [q1, buyers_core (bd_of okm) hC0 hk] at h1
      rw [if_neg (fun e => by have := vv_lt.mp e; omega), q2] at h2
      simp only [letp_eq, letv_eq] at h1 h2
      rw [if_pos trivial] at h1 h2
      cases hq : bt (F_sm_canSell mum k) x.toNatClampNeg
      · have hh := hb_f cx.1 (by omega) hq
        rw [if_pos hh.1] at h1
        rw [if_neg hh.2] at h2
        cases h1
        cases h2
        exact ⟨rfl, hC0⟩
      · have hh := hb_t cx.1 (by omega) hq
        rw [if_neg hh.1] at h1
        rw [if_pos hh.2] at h2
        by_cases c40 : (mum 0 17).toInt < 40
        · rw [if_neg (fun e => by have := fx_isFull.mp e; rw [s6] at this; omega)] at h1
          rw [if_neg (fun e => by rw [e] at c40; exact absurd c40 (by decide))] at h2
          obtain ⟨a1, a2, a3, a4, a5, a6⟩ := sale_rel (r := (F_sx_enterSale mux k x).1) (xi1 := (F_sx_enterSale mux k x).2) (xi2 := F_sm_sellTo mum k x) (bd_of okm) hC0 hk cx c40 rfl rfl
          have ck := tC_of hk.1
          have rd : F_sm_isRead (F_sm_sellTo mum k x) k = (F_sx_enterSale mux k x).2 (61 + k.toNatClampNeg) 9 := by
            simp only [F_sm_isRead, letv_eq]
            rw [fm_letterOf ⟨hk.1, by omega⟩ (by decide), show (9 : Int32).toNatClampNeg = 9 from rfl, ← a3]
            have h9 := (a2.2.2.2.2.2.1 k.toNatClampNeg (by rw [a4 15 (by decide)]; omega)).2.2.2
            rcases h9 with e | e <;> (rw [show (F_sx_enterSale mux k x).2 (61 + k.toNatClampNeg) 9 = _ from e]; decide)
          rw [rd, ← a1] at h2
          by_cases c9 : (F_sx_enterSale mux k x).2 (61 + k.toNatClampNeg) 9 = 0
          · rw [if_pos c9] at h1 h2
            obtain ⟨u1, u2⟩ := Prod.mk.inj h1
            obtain ⟨v1, v2⟩ := Prod.mk.inj h2
            rw [u2, v2, u1, v1, Int32.add_zero]
            exact ⟨rfl, a2⟩
          · rw [if_neg c9] at h1 h2
            obtain ⟨u1, u2⟩ := Prod.mk.inj h1
            obtain ⟨v1, v2⟩ := Prod.mk.inj h2
            rw [u2, v2, u1, v1]
            exact ⟨rfl, a2⟩
        · have e40 : mum 0 17 = 40 := Int32.toInt_inj.mp (by omega)
          rw [if_pos (fx_isFull.mpr (by rw [s6]; omega))] at h1
          rw [if_pos e40] at h2
          cases h1
          cases h2
          exact ⟨rfl, hC0⟩
    · rw [q1] at h1
      rw [if_neg (fun e => by have := vv_lt.mp e; omega), q2] at h2
      simp only [letp_eq] at h1 h2
      rw [if_neg n3] at h1 h2
      obtain ⟨u1, u2⟩ := Prod.mk.inj h1
      obtain ⟨v1, v2⟩ := Prod.mk.inj h2
      rw [u2, v2, u1, v1]
      exact ⟨rfl, found_core okm hC0⟩
    · rw [q1] at h1
      rw [if_pos (vv_lt.mpr (by omega))] at h2
      simp only [letp_eq] at h1
      rw [if_neg n1] at h1
      cases h1
      cases h2
      exact ⟨rfl, hC0⟩
  · rw [if_neg (fun e => cx (by have := fx_has.mp e; rw [hK.1] at this; exact this))] at h1
    rw [if_neg (fun e => cx ((fm_isOne hb).mp e))] at h2
    simp only [letp_eq] at h1
    rw [if_neg n1] at h1
    have h2 : (r2, xi2) = (-1, mum) := by
      rw [h2]
      split <;> rfl
    cases h1
    cases h2
    exact ⟨rfl, hC0⟩
theorem purse_rel {x v r1 r2 : Int32} {mux mum xi1 xi2 : Nat → Nat → Int32} (okm : okR loM hiM mum) (hC : core mux mum) (h1 : (r1, xi1) = F_qx_purse mux x v) (h2 : (r2, xi2) = F_qm_purse mum x v) : r1 = r2 ∧ core xi1 xi2 := by
  have hC0 := hC
  obtain ⟨hK, hE, ⟨s2, s3, s4, s6⟩, hday, hP, hL, hS, hA⟩ := hC
  have hb : 0 ≤ (mum 0 8).toInt ∧ (mum 0 8).toInt ≤ 7 := okm 0 8
  have hsent : 0 ≤ (mum 0 15).toInt ∧ (mum 0 15).toInt ≤ 4 := okm 0 15
  have hled : 0 ≤ (mum 0 17).toInt ∧ (mum 0 17).toInt ≤ 40 := okm 0 17
  have cs := tC_of hsent.1
  have cl := tC_of hled.1
  have cb := tC_of hb.1
  have z0 : (0 : Int32).toInt = 0 := rfl
  have z9 : (999 : Int32).toInt = 999 := rfl
  simp only [F_qx_purse, letv_eq] at h1
  simp only [F_qm_purse, letv_eq] at h2
  by_cases cx : 0 ≤ x.toInt ∧ x.toInt < (mum 0 8).toInt
  · rw [if_pos (fx_has.mpr (by rw [hK.1]; exact cx))] at h1
    rw [if_pos ((fm_isOne hb).mpr cx)] at h2
    have hx := tC_of cx.1
    by_cases cv : 0 ≤ v.toInt ∧ v.toInt ≤ 999
    · rw [if_neg (fun e => by have := vv_lt.mp e; omega), if_pos (vv_le.mpr (by omega))] at h1
      rw [if_pos (fm_in.mpr ⟨by omega, by omega⟩)] at h2
      obtain ⟨u1, u2⟩ := Prod.mk.inj h1
      obtain ⟨v1, v2⟩ := Prod.mk.inj h2
      refine ⟨by rw [u1, v1]; exact hP _ (by omega), ?_⟩
      have u2 := u2.symm
      have v2 := v2.symm
      have fx : ∀ c : Nat, c ≠ 46 → xi1 c = mux c := fun c hc => up_k u2 hc
      have fm : ∀ c : Nat, c ≠ 8 → xi2 c = mum c := fun c hc => up_k v2 hc
      refine ⟨?_, ?_, ⟨?_, ?_, ?_, ?_⟩, ?_, ?_, ?_, ?_, ?_⟩
      · unfold simK
        rw [fx 4 (by decide), fx 34 (by decide), fx 35 (by decide), fx 36 (by decide), fm 0 (by decide), fm 7 (by decide), fm 9 (by decide)]
        exact hK
      · unfold endR
        rw [fm 0 (by decide), fm 9 (by decide)]
        exact hE
      · rw [fx 5 (by decide), fm 0 (by decide)]; exact s2
      · rw [fx 5 (by decide), fm 0 (by decide)]; exact s3
      · rw [fx 5 (by decide), fm 0 (by decide)]; exact s4
      · rw [fx 6 (by decide), fm 0 (by decide)]; exact s6
      · rw [fm 0 (by decide)]; exact hday
      · rw [fm 0 (by decide), up_c u2, up_c v2]
        intro z hz
        simp only [upd]
        rw [hP z hz]
      · rw [fm 0 (by decide), fm 10 (by decide)]
        exact letR_of hL (fun q hq => fx _ (by omega)) (fun _ _ _ _ => rfl)
      · unfold salR salN
        rw [fm 0 (by decide), fm 14 (by decide)]
        intro s hs
        rw [fx (77 + s) (by omega), fx (117 + s) (by omega)]
        exact hS s hs
      · exact kepR_of hA (fun c hc => fx c (by omega)) (fm 15 (by decide)) (by rw [fm 0 (by decide)])
    · rw [if_neg (fun e => by have := fm_in.mp e; omega)] at h2
      by_cases c1 : v < (0 : Int32)
      · rw [if_pos c1] at h1
        cases h1
        cases h2
        exact ⟨rfl, hC0⟩
      · have c2 : ¬ v.toInt < (0 : Int32).toInt := fun e => c1 (vv_lt.mpr e)
        rw [if_neg c1, if_neg (fun e => by have := vv_le.mp e; omega)] at h1
        cases h1
        cases h2
        exact ⟨rfl, hC0⟩
  · rw [if_neg (fun e => cx (by have := fx_has.mp e; rw [hK.1] at this; exact this))] at h1
    rw [if_neg (fun e => cx ((fm_isOne hb).mp e))] at h2
    cases h1
    cases h2
    exact ⟨rfl, hC0⟩

