-- ===== what keeps the core =====
theorem core_of {mux mum xi1 xi2 : Nat → Nat → Int32} (okm : okR loM hiM mum) (h : core mux mum) (h1 : ∀ k f : Nat, 2 ≤ gpX k f → xi1 k f = mux k f) (h2 : ∀ k f : Nat, 2 ≤ gpM k f → xi2 k f = mum k f) : core xi1 xi2 := by
  obtain ⟨hK, hE, ⟨s2, s3, s4, s6⟩, hday, hP, hL, hS, hA⟩ := h
  have hsent : 0 ≤ (mum 0 15).toInt ∧ (mum 0 15).toInt ≤ 4 := okm 0 15
  have hled : 0 ≤ (mum 0 17).toInt ∧ (mum 0 17).toInt ≤ 40 := okm 0 17
  have cs := tC_of hsent.1
  have cl := tC_of hled.1
  have m8 : xi2 0 8 = mum 0 8 := h2 0 8 (by decide)
  have m11 : xi2 0 11 = mum 0 11 := h2 0 11 (by decide)
  have m13 : xi2 0 13 = mum 0 13 := h2 0 13 (by decide)
  have m14 : xi2 0 14 = mum 0 14 := h2 0 14 (by decide)
  have m15 : xi2 0 15 = mum 0 15 := h2 0 15 (by decide)
  have m17 : xi2 0 17 = mum 0 17 := h2 0 17 (by decide)
  have c9 : xi2 9 = mum 9 := funext fun f => h2 9 f (show 2 ≤ (2 : Nat) by decide)
  have c8 : xi2 8 = mum 8 := funext fun f => h2 8 f (show 2 ≤ (3 : Nat) by decide)
  have c10 : xi2 10 = mum 10 := funext fun f => h2 10 f (show 2 ≤ (3 : Nat) by decide)
  have c14 : xi2 14 = mum 14 := funext fun f => h2 14 f (show 2 ≤ (4 : Nat) by decide)
  have c15 : xi2 15 = mum 15 := funext fun f => h2 15 f (show 2 ≤ (5 : Nat) by decide)
  have x46 : xi1 46 = mux 46 := funext fun f => h1 46 f (show 2 ≤ (3 : Nat) by decide)
  refine ⟨simK_of hK (fun k f e => h1 k f (by rw [e]; decide)) (fun k f e => h2 k f (by rw [e]; decide)), ?_, ⟨?_, ?_, ?_, ?_⟩, ?_, ?_, ?_, ?_, ?_⟩
  · unfold endR
    rw [m11, m8, c9]
    exact hE
  · rw [h1 5 2 (by decide), m13]; exact s2
  · rw [h1 5 3 (by decide), m14]; exact s3
  · rw [h1 5 4 (by decide), m15]; exact s4
  · rw [h1 6 1 (by decide), m17]; exact s6
  · rw [m14]; exact hday
  · rw [x46, c8, m8]; exact hP
  · rw [m8, m15, c10]
    exact letR_of hL (fun k hk => funext fun f => h1 _ f (by rw [gpX_letter (by omega) (by omega)]; decide)) (fun k hk f hf => rfl)
  · unfold salR salN
    rw [m17, m8, m15, c14]
    intro s hs
    have e1 : xi1 (77 + s) = mux (77 + s) := funext fun f => h1 _ f (by rw [gpX_sale (by omega) (by omega)]; decide)
    have e2 : xi1 (117 + s) = mux (117 + s) := funext fun f => h1 _ f (by rw [gpX_spurses (by omega) (by omega)]; decide)
    rw [e1, e2]
    exact hS s hs
  · refine kepR_of hA (fun c hc => funext fun f => h1 c f ?_) c15 m8
    rcases hc with h | h | h
    · rw [gpX_kept h.1 h.2]; decide
    · rw [gpX_kpurses h.1 h.2]; decide
    · rw [gpX_letter (by omega) h.2]; decide
theorem core_keep {m1 m2 : Nat} {mux mum xi1 xi2 : Nat → Nat → Int32} (okm : okR loM hiM mum) (hm1 : ∀ g : Nat, g < 9 → 2 ≤ g → Nat.testBit m1 g = true) (hm2 : ∀ g : Nat, g < 9 → 2 ≤ g → Nat.testBit m2 g = true) (h1 : ∀ k f : Nat, Nat.testBit m1 (gpX k f) = true → xi1 k f = mux k f) (h2 : ∀ k f : Nat, Nat.testBit m2 (gpM k f) = true → xi2 k f = mum k f) (h : core mux mum) : core xi1 xi2 :=
  core_of okm h (fun k f e => h1 k f (hm1 _ (Nat.lt_succ_of_le (gpX_le k f)) e)) (fun k f e => h2 k f (hm2 _ (Nat.lt_succ_of_le (gpM_le k f)) e))
theorem core_0 : core mu0X mu0M := by
  refine ⟨simK_0, fun j hj => absurd hj (Nat.not_lt_zero _), ⟨rfl, rfl, rfl, rfl⟩, by decide, fun x hx => absurd hx (Nat.not_lt_zero _), fun k hk => absurd hk (Nat.not_lt_zero _), fun s hs => absurd hs (Nat.not_lt_zero _), fun j hj => ?_⟩
  have key : ∀ j : Nat, j < 3 → mu0X (18 + j) 5 = 0 ∧ mu0M 15 (64 * j) = -9 := by decide +kernel
  exact Or.inl (key j hj)
theorem town_core {mux mum xi1 xi2 : Nat → Nat → Int32} (okm : okR loM hiM mum) (h : (simK xi1 xi2 ∧ endR xi2 ∧ newT xi1 xi2) ∨ ((∀ k f : Nat, gpX k f ≠ 0 → xi1 k f = mux k f) ∧ (∀ k f : Nat, gpM k f ≠ 0 → xi2 k f = mum k f))) (h0 : core mux mum) : core xi1 xi2 := by
  rcases h with ⟨a, e, p, ⟨x2, x3, x4, x6⟩, ⟨y2, y3, y4, y6⟩, k, -, -⟩ | ⟨a, b⟩
  · refine ⟨a, e, ⟨x2.trans y2.symm, x3.trans y3.symm, x4.trans y4.symm, x6.trans y6.symm⟩, ?_, p, fun k hk => ?_, fun s hs => ?_, fun j hj => Or.inl (k j hj)⟩
    · rw [y3]; decide
    · rw [y4] at hk; exact absurd hk (Nat.not_lt_zero _)
    · rw [y6] at hs; exact absurd hs (Nat.not_lt_zero _)
  · exact core_of okm h0 (fun k f e => a k f (by omega)) (fun k f e => b k f (by omega))
theorem bg_x {mu : Nat → Nat → Int32} {kk : Nat} {vx vy vw vl vd : Int32} {xi : Nat → Nat → Int32} (h : xi = F_sx_begin mu kk vx vy vw vl vd) : (∀ c : Nat, c ≠ kk → xi c = mu c) ∧ xi kk 0 = vx ∧ xi kk 1 = vy ∧ xi kk 2 = vw ∧ xi kk 3 = vl ∧ xi kk 4 = vd ∧ xi kk 5 = vx ∧ xi kk 6 = 0 ∧ xi kk 7 = -9 ∧ xi kk 8 = 0 ∧ xi kk 9 = 0 := by
  unfold F_sx_begin at h
  obtain ⟨nu1, e_nu1, h⟩ := letv_out h
  obtain ⟨nu4, e_nu4, h⟩ := letv_out h
  obtain ⟨nu8, e_nu8, h⟩ := letv_out h
  obtain ⟨nu13, e_nu13, h⟩ := letv_out h
  obtain ⟨nu19, e_nu19, h⟩ := letv_out h
  obtain ⟨nu26, e_nu26, h⟩ := letv_out h
  obtain ⟨nu34, e_nu34, h⟩ := letv_out h
  obtain ⟨nu43, e_nu43, h⟩ := letv_out h
  obtain ⟨nu53, e_nu53, h⟩ := letv_out h
  obtain ⟨nu64, e_nu64, h⟩ := letv_out h
  subst h
  refine ⟨fun c hc => (up_k e_nu64 hc).trans ((up_k e_nu53 hc).trans ((up_k e_nu43 hc).trans ((up_k e_nu34 hc).trans ((up_k e_nu26 hc).trans ((up_k e_nu19 hc).trans ((up_k e_nu13 hc).trans ((up_k e_nu8 hc).trans ((up_k e_nu4 hc).trans (up_k e_nu1 hc))))))))), (up_f e_nu64 (by omega)).trans ((up_f e_nu53 (by omega)).trans ((up_f e_nu43 (by omega)).trans ((up_f e_nu34 (by omega)).trans ((up_f e_nu26 (by omega)).trans ((up_f e_nu19 (by omega)).trans ((up_f e_nu13 (by omega)).trans ((up_f e_nu8 (by omega)).trans ((up_f e_nu4 (by omega)).trans ((up_v e_nu1).symm))))))))), (up_f e_nu64 (by omega)).trans ((up_f e_nu53 (by omega)).trans ((up_f e_nu43 (by omega)).trans ((up_f e_nu34 (by omega)).trans ((up_f e_nu26 (by omega)).trans ((up_f e_nu19 (by omega)).trans ((up_f e_nu13 (by omega)).trans ((up_f e_nu8 (by omega)).trans ((up_v e_nu4).symm)))))))), (up_f e_nu64 (by omega)).trans ((up_f e_nu53 (by omega)).trans ((up_f e_nu43 (by omega)).trans ((up_f e_nu34 (by omega)).trans ((up_f e_nu26 (by omega)).trans ((up_f e_nu19 (by omega)).trans ((up_f e_nu13 (by omega)).trans ((up_v e_nu8).symm))))))), (up_f e_nu64 (by omega)).trans ((up_f e_nu53 (by omega)).trans ((up_f e_nu43 (by omega)).trans ((up_f e_nu34 (by omega)).trans ((up_f e_nu26 (by omega)).trans ((up_f e_nu19 (by omega)).trans ((up_v e_nu13).symm)))))), (up_f e_nu64 (by omega)).trans ((up_f e_nu53 (by omega)).trans ((up_f e_nu43 (by omega)).trans ((up_f e_nu34 (by omega)).trans ((up_f e_nu26 (by omega)).trans ((up_v e_nu19).symm))))), (up_f e_nu64 (by omega)).trans ((up_f e_nu53 (by omega)).trans ((up_f e_nu43 (by omega)).trans ((up_f e_nu34 (by omega)).trans ((up_v e_nu26).symm)))), (up_f e_nu64 (by omega)).trans ((up_f e_nu53 (by omega)).trans ((up_f e_nu43 (by omega)).trans ((up_v e_nu34).symm))), (up_f e_nu64 (by omega)).trans ((up_f e_nu53 (by omega)).trans ((up_v e_nu43).symm)), (up_f e_nu64 (by omega)).trans ((up_v e_nu53).symm), (up_v e_nu64).symm⟩
theorem sd_m {mu : Nat → Nat → Int32} {vx vy vw vf r : Int32} {xi : Nat → Nat → Int32} (ht : F_sm_areTwo mu vx vy = 1) (hw : F_sm_in vw 0 99 = 1) (hf : F_sm_in vf 0 9 = 1) (h4 : 0 ≤ (mu 0 15).toInt ∧ (mu 0 15).toInt ≤ 3) (h : (r, xi) = F_qm_send mu vx vy vw vf) : r = mu 0 15 ∧ (∀ c : Nat, c ≠ 0 → c ≠ 10 → xi c = mu c) ∧ (∀ f : Nat, f ≠ 15 → xi 0 f = mu 0 f) ∧ xi 0 15 = mu 0 15 + 1 ∧ (∀ f : Nat, f < 10 * (mu 0 15).toNatClampNeg ∨ 10 * (mu 0 15).toNatClampNeg + 10 ≤ f → xi 10 f = mu 10 f) ∧ xi 10 (10 * (mu 0 15).toNatClampNeg + 0) = vx ∧ xi 10 (10 * (mu 0 15).toNatClampNeg + 1) = vy ∧ xi 10 (10 * (mu 0 15).toNatClampNeg + 2) = vw ∧ xi 10 (10 * (mu 0 15).toNatClampNeg + 3) = vf ∧ xi 10 (10 * (mu 0 15).toNatClampNeg + 4) = mu 0 14 ∧ xi 10 (10 * (mu 0 15).toNatClampNeg + 5) = vx ∧ xi 10 (10 * (mu 0 15).toNatClampNeg + 6) = 0 ∧ xi 10 (10 * (mu 0 15).toNatClampNeg + 7) = 0 ∧ xi 10 (10 * (mu 0 15).toNatClampNeg + 8) = -9 ∧ xi 10 (10 * (mu 0 15).toNatClampNeg + 9) = 0 := by
  have hc := tC_of h4.1
  have hk : 0 ≤ (mu 0 15).toInt ∧ (mu 0 15).toInt ≤ 3 := h4
  unfold F_qm_send at h
  rw [if_pos ht, if_pos hw, if_pos hf] at h
  obtain ⟨y4, e_y4, h⟩ := letv_out h
  subst e_y4
  rw [if_neg (fun e => by rw [e] at h4; exact absurd h4.2 (by decide))] at h
  obtain ⟨t6, e_t6, h⟩ := letv_out h
  obtain ⟨nu7, e_nu7, h⟩ := letv_out h
  obtain ⟨xi10, e_xi10, h⟩ := letv_out h
  obtain ⟨xi12, e_xi12, h⟩ := letv_out h
  obtain ⟨xi14, e_xi14, h⟩ := letv_out h
  obtain ⟨xi16, e_xi16, h⟩ := letv_out h
  obtain ⟨y18, e_y18, h⟩ := letv_out h
  obtain ⟨xi19, e_xi19, h⟩ := letv_out h
  obtain ⟨xi21, e_xi21, h⟩ := letv_out h
  obtain ⟨xi23, e_xi23, h⟩ := letv_out h
  obtain ⟨xi25, e_xi25, h⟩ := letv_out h
  obtain ⟨xi27, e_xi27, h⟩ := letv_out h
  obtain ⟨xi29, e_xi29, h⟩ := letv_out h
  rw [fm_set0 hk] at e_xi10
  rw [fm_set1 hk] at e_xi12
  rw [fm_set2 hk] at e_xi14
  rw [fm_set3 hk] at e_xi16
  rw [fm_set4 hk] at e_xi19
  rw [fm_set5 hk] at e_xi21
  rw [fm_set6 hk] at e_xi23
  rw [fm_set7 hk] at e_xi25
  rw [fm_set8 hk] at e_xi27
  rw [fm_set9 hk] at e_xi29
  obtain ⟨hr, hx⟩ := Prod.mk.inj h
  subst hr hx
  have x0 : xi 0 = nu7 0 := (up_k e_xi29 (by decide)).trans ((up_k e_xi27 (by decide)).trans ((up_k e_xi25 (by decide)).trans ((up_k e_xi23 (by decide)).trans ((up_k e_xi21 (by decide)).trans ((up_k e_xi19 (by decide)).trans ((up_k e_xi16 (by decide)).trans ((up_k e_xi14 (by decide)).trans ((up_k e_xi12 (by decide)).trans (up_k e_xi10 (by decide))))))))))
  have qd : y18 = mu 0 14 := e_y18.symm.trans ((congrFun ((up_k e_xi16 (by decide)).trans ((up_k e_xi14 (by decide)).trans ((up_k e_xi12 (by decide)).trans (up_k e_xi10 (by decide))))) 14).trans (up_f e_nu7 (by decide)))
  refine ⟨rfl, fun c h1 h2 => (up_k e_xi29 h2).trans ((up_k e_xi27 h2).trans ((up_k e_xi25 h2).trans ((up_k e_xi23 h2).trans ((up_k e_xi21 h2).trans ((up_k e_xi19 h2).trans ((up_k e_xi16 h2).trans ((up_k e_xi14 h2).trans ((up_k e_xi12 h2).trans ((up_k e_xi10 h2).trans (up_k e_nu7 h1)))))))))), fun f hf => ?_, ?_, fun f hf => (up_f e_xi29 (by omega)).trans ((up_f e_xi27 (by omega)).trans ((up_f e_xi25 (by omega)).trans ((up_f e_xi23 (by omega)).trans ((up_f e_xi21 (by omega)).trans ((up_f e_xi19 (by omega)).trans ((up_f e_xi16 (by omega)).trans ((up_f e_xi14 (by omega)).trans ((up_f e_xi12 (by omega)).trans ((up_f e_xi10 (by omega)).trans (congrFun (up_k e_nu7 (by decide)) f)))))))))), (up_f e_xi29 (by omega)).trans ((up_f e_xi27 (by omega)).trans ((up_f e_xi25 (by omega)).trans ((up_f e_xi23 (by omega)).trans ((up_f e_xi21 (by omega)).trans ((up_f e_xi19 (by omega)).trans ((up_f e_xi16 (by omega)).trans ((up_f e_xi14 (by omega)).trans ((up_f e_xi12 (by omega)).trans ((up_v e_xi10).symm))))))))), (up_f e_xi29 (by omega)).trans ((up_f e_xi27 (by omega)).trans ((up_f e_xi25 (by omega)).trans ((up_f e_xi23 (by omega)).trans ((up_f e_xi21 (by omega)).trans ((up_f e_xi19 (by omega)).trans ((up_f e_xi16 (by omega)).trans ((up_f e_xi14 (by omega)).trans ((up_v e_xi12).symm)))))))), (up_f e_xi29 (by omega)).trans ((up_f e_xi27 (by omega)).trans ((up_f e_xi25 (by omega)).trans ((up_f e_xi23 (by omega)).trans ((up_f e_xi21 (by omega)).trans ((up_f e_xi19 (by omega)).trans ((up_f e_xi16 (by omega)).trans ((up_v e_xi14).symm))))))), (up_f e_xi29 (by omega)).trans ((up_f e_xi27 (by omega)).trans ((up_f e_xi25 (by omega)).trans ((up_f e_xi23 (by omega)).trans ((up_f e_xi21 (by omega)).trans ((up_f e_xi19 (by omega)).trans ((up_v e_xi16).symm)))))), ((up_f e_xi29 (by omega)).trans ((up_f e_xi27 (by omega)).trans ((up_f e_xi25 (by omega)).trans ((up_f e_xi23 (by omega)).trans ((up_f e_xi21 (by omega)).trans ((up_v e_xi19).symm)))))).trans qd, (up_f e_xi29 (by omega)).trans ((up_f e_xi27 (by omega)).trans ((up_f e_xi25 (by omega)).trans ((up_f e_xi23 (by omega)).trans ((up_v e_xi21).symm)))), (up_f e_xi29 (by omega)).trans ((up_f e_xi27 (by omega)).trans ((up_f e_xi25 (by omega)).trans ((up_v e_xi23).symm))), (up_f e_xi29 (by omega)).trans ((up_f e_xi27 (by omega)).trans ((up_v e_xi25).symm)), (up_f e_xi29 (by omega)).trans ((up_v e_xi27).symm), (up_v e_xi29).symm⟩
  · rw [x0]
    exact up_f e_nu7 hf
  · rw [x0, ← up_v e_nu7, ← e_t6]
-- ===== answers, and the core behind them =====
theorem fx_refL {mux : Nat → Nat → Int32} {k : Int32} : ((0 ≤ k.toInt ∧ k.toInt < (mux 5 4).toInt) ∧ F_sx_refusedLetter mux k 0 = (0, mux)) ∨ (0 ≤ k.toInt ∧ (mux 5 4).toInt ≤ k.toInt ∧ F_sx_refusedLetter mux k 0 = (-3, (F_sx_found mux 2).2)) ∨ (k.toInt < 0 ∧ F_sx_refusedLetter mux k 0 = (-1, mux)) := by
  have z0 : (0 : Int32).toInt = 0 := rfl
  unfold F_sx_refusedLetter
  by_cases c : k < (0 : Int32)
  · have c2 := vv_lt.mp c
    rw [if_pos c]
    exact Or.inr (Or.inr ⟨by omega, rfl⟩)
  · have c2 : ¬ k.toInt < (0 : Int32).toInt := fun e => c (vv_lt.mpr e)
    rw [if_neg c, if_pos rfl]
    simp only [letv_eq, letp_eq]
    by_cases c3 : k < mux 5 4
    · have c4 := vv_lt.mp c3
      rw [if_pos c3]
      exact Or.inl ⟨⟨by omega, c4⟩, rfl⟩
    · have c4 : ¬ k.toInt < (mux 5 4).toInt := fun e => c3 (vv_lt.mpr e)
      rw [if_neg c3]
      exact Or.inr (Or.inl ⟨by omega, by omega, rfl⟩)
theorem fx_refL1 {mux : Nat → Nat → Int32} {k : Int32} : F_sx_refusedLetter mux k 1 = (-1, mux) := by
  unfold F_sx_refusedLetter
  by_cases c : k < (0 : Int32)
  · rw [if_pos c]
  · rw [if_neg c, if_neg (by decide)]
theorem fm_askL {mum : Nat → Nat → Int32} {k : Int32} : ((0 ≤ k.toInt ∧ k.toInt < (mum 0 15).toInt) ∧ F_sm_askedLetter mum k = (0, mum)) ∨ (0 ≤ k.toInt ∧ (mum 0 15).toInt ≤ k.toInt ∧ F_sm_askedLetter mum k = (-3, (F_sm_meet mum 2).2)) ∨ (k.toInt < 0 ∧ F_sm_askedLetter mum k = (-1, mum)) := by
  have z0 : (0 : Int32).toInt = 0 := rfl
  unfold F_sm_askedLetter
  by_cases c : k ≥ (0 : Int32)
  · have c2 := vv_ge.mp c
    rw [if_pos c]
    simp only [letv_eq, letp_eq]
    by_cases c3 : k < mum 0 15
    · have c4 := vv_lt.mp c3
      rw [if_pos c3]
      exact Or.inl ⟨⟨by omega, c4⟩, rfl⟩
    · have c4 : ¬ k.toInt < (mum 0 15).toInt := fun e => c3 (vv_lt.mpr e)
      rw [if_neg c3]
      exact Or.inr (Or.inl ⟨by omega, by omega, rfl⟩)
  · have c2 : ¬ (0 : Int32).toInt ≤ k.toInt := fun e => c (vv_ge.mpr e)
    rw [if_neg c]
    exact Or.inr (Or.inr ⟨by omega, rfl⟩)
/-- both ask for the letter alike -/
theorem askL {mux mum : Nat → Nat → Int32} {k : Int32} (h : mux 5 4 = mum 0 15) : ((0 ≤ k.toInt ∧ k.toInt < (mum 0 15).toInt) ∧ F_sx_refusedLetter mux k 0 = (0, mux) ∧ F_sm_askedLetter mum k = (0, mum)) ∨ (0 ≤ k.toInt ∧ F_sx_refusedLetter mux k 0 = (-3, (F_sx_found mux 2).2) ∧ F_sm_askedLetter mum k = (-3, (F_sm_meet mum 2).2)) ∨ (k.toInt < 0 ∧ F_sx_refusedLetter mux k 0 = (-1, mux) ∧ F_sm_askedLetter mum k = (-1, mum)) := by
  have a := fx_refL (mux := mux) (k := k)
  have b := fm_askL (mum := mum) (k := k)
  rw [h] at a
  rcases a with ⟨a1, a2⟩ | ⟨a1, a3, a2⟩ | ⟨a1, a2⟩
  · rcases b with ⟨b1, b2⟩ | ⟨b1, b3, b2⟩ | ⟨b1, b2⟩
    · exact Or.inl ⟨a1, a2, b2⟩
    · omega
    · omega
  · rcases b with ⟨b1, b2⟩ | ⟨b1, b3, b2⟩ | ⟨b1, b2⟩
    · omega
    · exact Or.inr (Or.inl ⟨a1, a2, b2⟩)
    · omega
  · rcases b with ⟨b1, b2⟩ | ⟨b1, b3, b2⟩ | ⟨b1, b2⟩
    · omega
    · omega
    · exact Or.inr (Or.inr ⟨a1, a2, b2⟩)
theorem n3 : ¬ (-3 : Int32) = 0 := by decide
theorem n1 : ¬ (-1 : Int32) = 0 := by decide
theorem where_rel {k r1 r2 : Int32} {mux mum xi1 xi2 : Nat → Nat → Int32} (okm : okR loM hiM mum) (hC : core mux mum) (h1 : (r1, xi1) = F_qx_where mux k) (h2 : (r2, xi2) = F_qm_where mum k) : r1 = r2 := by
  obtain ⟨hK, hE, ⟨s2, s3, s4, s6⟩, hday, hP, hL, hS, hA⟩ := hC
  have hsent : 0 ≤ (mum 0 15).toInt ∧ (mum 0 15).toInt ≤ 4 := okm 0 15
  have cs := tC_of hsent.1
  unfold F_qx_where at h1
  unfold F_qm_where at h2
  rcases askL (k := k) s4 with ⟨hk, q1, q2⟩ | ⟨hk, q1, q2⟩ | ⟨hk, q1, q2⟩
  · rw [q1] at h1
    rw [q2] at h2
    simp only [letp_eq, letv_eq] at h1 h2
    rw [if_pos trivial] at h1 h2
    have ck := tC_of hk.1
    obtain ⟨lf, -⟩ := hL k.toNatClampNeg (by omega)
    have g5 : mux (61 + k.toNatClampNeg) 5 = mum 10 (10 * k.toNatClampNeg + 5) := lf 5 (by decide)
    have e1 := (Prod.mk.inj h1).1
    have e2 := (Prod.mk.inj h2).1
    rw [fm_ask, fm_letterOf5 ⟨hk.1, by omega⟩, ← g5] at e2
    rw [e1, e2]
    simp [va_up]
  · rw [q1] at h1
    rw [q2] at h2
    simp only [letp_eq] at h1 h2
    rw [if_neg n3] at h1 h2
    exact (Prod.mk.inj h1).1.trans (Prod.mk.inj h2).1.symm
  · rw [q1] at h1
    rw [q2] at h2
    simp only [letp_eq] at h1 h2
    rw [if_neg n1] at h1 h2
    exact (Prod.mk.inj h1).1.trans (Prod.mk.inj h2).1.symm
theorem letter_rel {k w r1 r2 : Int32} {mux mum xi1 xi2 : Nat → Nat → Int32} (s4 : mux 5 4 = mum 0 15) (h1 : (r1, xi1) = F_qx_letter mux k w) (h2 : (r2, xi2) = F_qm_letter mum k w) : r1 = r2 := by
  have z0 : (0 : Int32).toInt = 0 := rfl
  have z4 : (4 : Int32).toInt = 4 := rfl
  have z5 : (5 : Int32).toInt = 5 := rfl
  unfold F_qx_letter at h1
  unfold F_qm_letter at h2
  rw [fx_refL1] at h1
  by_cases cw : 0 ≤ w.toInt ∧ w.toInt ≤ 4
  · rw [if_neg (fun e => by have := vv_lt.mp e; omega), if_pos (vv_lt.mpr (by omega))] at h1
    rw [if_pos (fm_in.mpr ⟨by omega, by omega⟩)] at h2
    rcases askL (k := k) s4 with ⟨hk, q1, q2⟩ | ⟨hk, q1, q2⟩ | ⟨hk, q1, q2⟩
    · rw [q1] at h1
      rw [q2] at h2
      simp only [letp_eq, letv_eq] at h1 h2
      rw [if_pos trivial] at h1 h2
      have e2 := (Prod.mk.inj h2).1
      rw [fm_ask] at e2
      exact (Prod.mk.inj h1).1.trans e2.symm
    · rw [q1] at h1
      rw [q2] at h2
      simp only [letp_eq] at h1 h2
      rw [if_neg n3] at h1 h2
      exact (Prod.mk.inj h1).1.trans (Prod.mk.inj h2).1.symm
    · rw [q1] at h1
      rw [q2] at h2
      simp only [letp_eq] at h1 h2
      rw [if_neg n1] at h1 h2
      exact (Prod.mk.inj h1).1.trans (Prod.mk.inj h2).1.symm
  · rw [if_neg (fun e => by have := fm_in.mp e; omega)] at h2
    simp only [letp_eq] at h1
    rw [if_neg n1] at h1
    by_cases c1 : w < (0 : Int32)
    · rw [if_pos c1] at h1
      exact (Prod.mk.inj h1).1.trans (Prod.mk.inj h2).1.symm
    · have c2 : ¬ w.toInt < (0 : Int32).toInt := fun e => c1 (vv_lt.mpr e)
      rw [if_neg c1, if_neg (fun e => by have := vv_lt.mp e; omega)] at h1
      exact (Prod.mk.inj h1).1.trans (Prod.mk.inj h2).1.symm
theorem buyers_core {mux mum : Nat → Nat → Int32} {k : Int32} (bd : bdM mum) (hC : core mux mum) (hk : 0 ≤ k.toInt ∧ k.toInt < (mum 0 15).toInt) : F_sx_buyersOf mux (61 + k.toNatClampNeg) = F_sm_canSell mum k := by
  obtain ⟨hK, hE, ⟨s2, s3, s4, s6⟩, hday, hP, hL, hS, hA⟩ := hC
  obtain ⟨hb, hpa, hsent, hled⟩ := bd
  have cs := tC_of hsent.1
  have ck := tC_of hk.1
  exact buyers_eq ⟨hk.1, by omega⟩ hK hb hpa hE hP s2 s3 (hL k.toNatClampNeg (by omega))
theorem can_rel {k r1 r2 : Int32} {mux mum xi1 xi2 : Nat → Nat → Int32} (okm : okR loM hiM mum) (hC : core mux mum) (h1 : (r1, xi1) = F_qx_can mux k) (h2 : (r2, xi2) = F_qm_can mum k) : r1 = r2 := by
  have s4 := hC.2.2.1.2.2.1
  unfold F_qx_can at h1
  unfold F_qm_can at h2
  rcases askL (k := k) s4 with ⟨hk, q1, q2⟩ | ⟨hk, q1, q2⟩ | ⟨hk, q1, q2⟩
  · rw [q1] at h1
    rw [q2] at h2
    simp only [letp_eq, letv_eq] at h1 h2
    rw [if_pos trivial] at h1 h2
    rw [buyers_core (bd_of okm) hC hk] at h1
    exact (Prod.mk.inj h1).1.trans (Prod.mk.inj h2).1.symm
  · rw [q1] at h1
    rw [q2] at h2
    simp only [letp_eq] at h1 h2
    rw [if_neg n3] at h1 h2
    exact (Prod.mk.inj h1).1.trans (Prod.mk.inj h2).1.symm
  · rw [q1] at h1
    rw [q2] at h2
    simp only [letp_eq] at h1 h2
    rw [if_neg n1] at h1 h2
    exact (Prod.mk.inj h1).1.trans (Prod.mk.inj h2).1.symm
theorem found_core {mux mum : Nat → Nat → Int32} {a b : Int32} (okm : okR loM hiM mum) (h : core mux mum) : core (F_sx_found mux a).2 (F_sm_meet mum b).2 := by
  refine core_of okm h (fun k f e => fx_found.2 k f (fun e2 => by subst e2; exact absurd e (by show ¬ 2 ≤ 0; decide)) (fun e2 => by subst e2; exact absurd e (by show ¬ 2 ≤ 0; decide))) (fun k f e => ?_)
  by_cases c : k = 0
  · subst c
    exact fm_meet.2.2 f (fun e2 => by subst e2; exact absurd e (by decide))
  · exact fm_meet.2.1 k f c (fun e2 => by subst e2; exact absurd e (by show ¬ 2 ≤ 0; decide))
theorem fx_isFull {mux : Nat → Nat → Int32} : F_sx_isFull mux = 1 ↔ 40 ≤ (mux 6 1).toInt := by
  have z : (40 : Int32).toInt = 40 := rfl
  simp only [F_sx_isFull, letv_eq]
  split
  · rename_i c
    have c2 := vv_lt.mp c
    exact ⟨fun e => absurd e (by decide), fun e => by omega⟩
  · rename_i c
    have c2 : ¬ (mux 6 1).toInt < (40 : Int32).toInt := fun e => c (vv_lt.mpr e)
    exact ⟨fun _ => by omega, fun _ => rfl⟩
theorem sell_rel {k x r1 r2 : Int32} {mux mum xi1 xi2 : Nat → Nat → Int32} (okm : okR loM hiM mum) (hC : core mux mum) (h1 : (r1, xi1) = F_qx_sell mux k x) (h2 : (r2, xi2) = F_qm_sell mum k x) : r1 = r2 ∧ core xi1 xi2 := by
  have hC0 := hC
  obtain ⟨hK, hE, ⟨s2, s3, s4, s6⟩, hday, hP, hL, hS, hA⟩ := hC
  have hb : 0 ≤ (mum 0 8).toInt ∧ (mum 0 8).toInt ≤ 7 := okm 0 8
  have hsent : 0 ≤ (mum 0 15).toInt ∧ (mum 0 15).toInt ≤ 4 := okm 0 15
  have hled : 0 ≤ (mum 0 17).toInt ∧ (mum 0 17).toInt ≤ 40 := okm 0 17
  have cs := tC_of hsent.1
  have z0 : (0 : Int32).toInt = 0 := rfl
  have z40 : (40 : Int32).toInt = 40 := rfl
  unfold F_qx_sell at h1
  unfold F_qm_sell at h2
  rw [fx_refL1] at h1
  by_cases cx : 0 ≤ x.toInt ∧ x.toInt < (mum 0 8).toInt
  · rw [if_pos (fx_has.mpr (by rw [hK.1]; exact cx))] at h1
    rw [if_pos ((fm_isOne hb).mpr cx)] at h2
    rcases askL (k := k) s4 with ⟨hk, q1, q2⟩ | ⟨hk, q1, q2⟩ | ⟨hk, q1, q2⟩
    · rw [q1, buyers_core (bd_of okm) hC0 hk] at h1
      rw [if_neg (fun e => by have := vv_lt.mp e; omega), q2] at h2
      simp only [letp_eq, letv_eq] at h1 h2
      rw [if_pos trivial] at h1 h2
      cases hq : bt (F_sm_canSell mum k) x.toNatClampNeg
      · have hh := hb_f cx.1 (by omega) hq
        rw [if_pos hh.1] at h1
        rw [if_neg hh.2] at h2
        cases h1
        cases h2
        exact ⟨rfl, hC0⟩
      · have hh := hb_t cx.1 (by omega) hq
        rw [if_neg hh.1] at h1
        rw [if_pos hh.2] at h2
        by_cases c40 : (mum 0 17).toInt < 40
        · rw [if_neg (fun e => by have := fx_isFull.mp e; rw [s6] at this; omega)] at h1
          rw [if_neg (fun e => by rw [e] at c40; exact absurd c40 (by decide))] at h2
          obtain ⟨a1, a2, a3, a4, a5, a6⟩ := sale_rel (r := (F_sx_enterSale mux k x).1) (xi1 := (F_sx_enterSale mux k x).2) (xi2 := F_sm_sellTo mum k x) (bd_of okm) hC0 hk cx c40 rfl rfl
          have ck := tC_of hk.1
          have rd : F_sm_isRead (F_sm_sellTo mum k x) k = (F_sx_enterSale mux k x).2 (61 + k.toNatClampNeg) 9 := by
            simp only [F_sm_isRead, letv_eq]
            rw [fm_letterOf ⟨hk.1, by omega⟩ (by decide), show (9 : Int32).toNatClampNeg = 9 from rfl, ← a3]
            have h9 := (a2.2.2.2.2.2.1 k.toNatClampNeg (by rw [a4 15 (by decide)]; omega)).2.2.2
            rcases h9 with e | e <;> (rw [show (F_sx_enterSale mux k x).2 (61 + k.toNatClampNeg) 9 = _ from e]; decide)
          rw [rd, ← a1] at h2
          by_cases c9 : (F_sx_enterSale mux k x).2 (61 + k.toNatClampNeg) 9 = 0
          · rw [if_pos c9] at h1 h2
            obtain ⟨u1, u2⟩ := Prod.mk.inj h1
            obtain ⟨v1, v2⟩ := Prod.mk.inj h2
            rw [u2, v2, u1, v1, Int32.add_zero]
            exact ⟨rfl, a2⟩
          · rw [if_neg c9] at h1 h2
            obtain ⟨u1, u2⟩ := Prod.mk.inj h1
            obtain ⟨v1, v2⟩ := Prod.mk.inj h2
            rw [u2, v2, u1, v1]
            exact ⟨rfl, a2⟩
        · have e40 : mum 0 17 = 40 := Int32.toInt_inj.mp (by omega)
          rw [if_pos (fx_isFull.mpr (by rw [s6]; omega))] at h1
          rw [if_pos e40] at h2
          cases h1
          cases h2
          exact ⟨rfl, hC0⟩
    · rw [q1] at h1
      rw [if_neg (fun e => by have := vv_lt.mp e; omega), q2] at h2
      simp only [letp_eq] at h1 h2
      rw [if_neg n3] at h1 h2
      obtain ⟨u1, u2⟩ := Prod.mk.inj h1
      obtain ⟨v1, v2⟩ := Prod.mk.inj h2
      rw [u2, v2, u1, v1]
      exact ⟨rfl, found_core okm hC0⟩
    · rw [q1] at h1
      rw [if_pos (vv_lt.mpr (by omega))] at h2
      simp only [letp_eq] at h1
      rw [if_neg n1] at h1
      cases h1
      cases h2
      exact ⟨rfl, hC0⟩
  · rw [if_neg (fun e => cx (by have := fx_has.mp e; rw [hK.1] at this; exact this))] at h1
    rw [if_neg (fun e => cx ((fm_isOne hb).mp e))] at h2
    simp only [letp_eq] at h1
    rw [if_neg n1] at h1
    have h2 : (r2, xi2) = (-1, mum) := by
      rw [h2]
      split <;> rfl
    cases h1
    cases h2
    exact ⟨rfl, hC0⟩
theorem purse_rel {x v r1 r2 : Int32} {mux mum xi1 xi2 : Nat → Nat → Int32} (okm : okR loM hiM mum) (hC : core mux mum) (h1 : (r1, xi1) = F_qx_purse mux x v) (h2 : (r2, xi2) = F_qm_purse mum x v) : r1 = r2 ∧ core xi1 xi2 := by
  have hC0 := hC
  obtain ⟨hK, hE, ⟨s2, s3, s4, s6⟩, hday, hP, hL, hS, hA⟩ := hC
  have hb : 0 ≤ (mum 0 8).toInt ∧ (mum 0 8).toInt ≤ 7 := okm 0 8
  have hsent : 0 ≤ (mum 0 15).toInt ∧ (mum 0 15).toInt ≤ 4 := okm 0 15
  have hled : 0 ≤ (mum 0 17).toInt ∧ (mum 0 17).toInt ≤ 40 := okm 0 17
  have cs := tC_of hsent.1
  have cl := tC_of hled.1
  have cb := tC_of hb.1
  have z0 : (0 : Int32).toInt = 0 := rfl
  have z9 : (999 : Int32).toInt = 999 := rfl
  simp only [F_qx_purse, letv_eq] at h1
  simp only [F_qm_purse, letv_eq] at h2
  by_cases cx : 0 ≤ x.toInt ∧ x.toInt < (mum 0 8).toInt
  · rw [if_pos (fx_has.mpr (by rw [hK.1]; exact cx))] at h1
    rw [if_pos ((fm_isOne hb).mpr cx)] at h2
    have hx := tC_of cx.1
    by_cases cv : 0 ≤ v.toInt ∧ v.toInt ≤ 999
    · rw [if_neg (fun e => by have := vv_lt.mp e; omega), if_pos (vv_le.mpr (by omega))] at h1
      rw [if_pos (fm_in.mpr ⟨by omega, by omega⟩)] at h2
      obtain ⟨u1, u2⟩ := Prod.mk.inj h1
      obtain ⟨v1, v2⟩ := Prod.mk.inj h2
      refine ⟨by rw [u1, v1]; exact hP _ (by omega), ?_⟩
      have u2 := u2.symm
      have v2 := v2.symm
      have fx : ∀ c : Nat, c ≠ 46 → xi1 c = mux c := fun c hc => up_k u2 hc
      have fm : ∀ c : Nat, c ≠ 8 → xi2 c = mum c := fun c hc => up_k v2 hc
      refine ⟨?_, ?_, ⟨?_, ?_, ?_, ?_⟩, ?_, ?_, ?_, ?_, ?_⟩
      · unfold simK
        rw [fx 4 (by decide), fx 34 (by decide), fx 35 (by decide), fx 36 (by decide), fm 0 (by decide), fm 7 (by decide), fm 9 (by decide)]
        exact hK
      · unfold endR
        rw [fm 0 (by decide), fm 9 (by decide)]
        exact hE
      · rw [fx 5 (by decide), fm 0 (by decide)]; exact s2
      · rw [fx 5 (by decide), fm 0 (by decide)]; exact s3
      · rw [fx 5 (by decide), fm 0 (by decide)]; exact s4
      · rw [fx 6 (by decide), fm 0 (by decide)]; exact s6
      · rw [fm 0 (by decide)]; exact hday
      · rw [fm 0 (by decide), up_c u2, up_c v2]
        intro z hz
        simp only [upd]
        rw [hP z hz]
      · rw [fm 0 (by decide), fm 10 (by decide)]
        exact letR_of hL (fun q hq => fx _ (by omega)) (fun _ _ _ _ => rfl)
      · unfold salR salN
        rw [fm 0 (by decide), fm 14 (by decide)]
        intro s hs
        rw [fx (77 + s) (by omega), fx (117 + s) (by omega)]
        exact hS s hs
      · exact kepR_of hA (fun c hc => fx c (by omega)) (fm 15 (by decide)) (by rw [fm 0 (by decide)])
    · rw [if_neg (fun e => by have := fm_in.mp e; omega)] at h2
      by_cases c1 : v < (0 : Int32)
      · rw [if_pos c1] at h1
        cases h1
        cases h2
        exact ⟨rfl, hC0⟩
      · have c2 : ¬ v.toInt < (0 : Int32).toInt := fun e => c1 (vv_lt.mpr e)
        rw [if_neg c1, if_neg (fun e => by have := vv_le.mp e; omega)] at h1
        cases h1
        cases h2
        exact ⟨rfl, hC0⟩
  · rw [if_neg (fun e => cx (by have := fx_has.mp e; rw [hK.1] at this; exact this))] at h1
    rw [if_neg (fun e => cx ((fm_isOne hb).mp e))] at h2
    cases h1
    cases h2
    exact ⟨rfl, hC0⟩

-- ===== days, snow, send, keep, on =====
/-- numbers of cell 5 (the class) and cell 0 (the reference) alone are written -/
theorem core_nums {mux mum xi1 xi2 : Nat → Nat → Int32} (bd : bdM mum) (hC : core mux mum) (fx : ∀ c : Nat, c ≠ 5 → xi1 c = mux c) (fm : ∀ c : Nat, c ≠ 0 → xi2 c = mum c) (f8 : xi2 0 8 = mum 0 8) (f11 : xi2 0 11 = mum 0 11) (f15 : xi2 0 15 = mum 0 15) (f17 : xi2 0 17 = mum 0 17) (h2 : xi1 5 2 = xi2 0 13) (h3 : xi1 5 3 = xi2 0 14) (h4 : xi1 5 4 = mux 5 4) (hd : 0 ≤ (xi2 0 14).toInt ∧ (xi2 0 14).toInt ≤ 99) : core xi1 xi2 := by
  obtain ⟨hK, hE, ⟨s2, s3, s4, s6⟩, hday, hP, hL, hS, hA⟩ := hC
  obtain ⟨hb, hpa, hsent, hled⟩ := bd
  have cs := tC_of hsent.1
  have cl := tC_of hled.1
  refine ⟨?_, ?_, ⟨h2, h3, ?_, ?_⟩, hd, ?_, ?_, ?_, ?_⟩
  · unfold simK
    rw [fx 4 (by decide), fx 34 (by decide), fx 35 (by decide), fx 36 (by decide), f8, f11, fm 7 (by decide), fm 9 (by decide)]
    exact hK
  · unfold endR
    rw [f8, f11, fm 9 (by decide)]
    exact hE
  · rw [h4, f15]; exact s4
  · rw [fx 6 (by decide), f17]; exact s6
  · rw [f8, fx 46 (by decide), fm 8 (by decide)]; exact hP
  · rw [f8, f15, fm 10 (by decide)]
    exact letR_of hL (fun q hq => fx _ (by omega)) (fun _ _ _ _ => rfl)
  · unfold salR salN
    rw [f8, f15, f17, fm 14 (by decide)]
    intro s hs
    rw [fx (77 + s) (by omega), fx (117 + s) (by omega)]
    exact hS s hs
  · exact kepR_of hA (fun c hc => fx c (by omega)) (fm 15 (by decide)) f8
theorem days_rel {n r1 r2 : Int32} {mux mum xi1 xi2 : Nat → Nat → Int32} (okm : okR loM hiM mum) (hC : core mux mum) (h1 : (r1, xi1) = F_qx_days mux n) (h2 : (r2, xi2) = F_qm_days mum n) : r1 = r2 ∧ core xi1 xi2 := by
  have hC0 := hC
  obtain ⟨hK, hE, ⟨s2, s3, s4, s6⟩, hday, hP, hL, hS, hA⟩ := hC
  have z0 : (0 : Int32).toInt = 0 := rfl
  have z20 : (20 : Int32).toInt = 20 := rfl
  have z99 : (99 : Int32).toInt = 99 := rfl
  simp only [F_qx_days, letv_eq] at h1
  simp only [F_qm_days, letv_eq] at h2
  rw [s3] at h1
  by_cases cn : 0 ≤ n.toInt ∧ n.toInt ≤ 20
  · rw [if_neg (fun e => by have := vv_lt.mp e; omega), if_pos (vv_le.mpr (by omega))] at h1
    rw [if_pos (fm_in.mpr ⟨by omega, by omega⟩)] at h2
    have ad : (mum 0 14 + n : Int32).toInt = (mum 0 14).toInt + n.toInt := tI_add rfl rfl (by omega) (by omega)
    by_cases c : mum 0 14 + n ≤ (99 : Int32)
    · have c2 := vv_le.mp c
      rw [if_pos c] at h1 h2
      obtain ⟨u1, u2⟩ := Prod.mk.inj h1
      obtain ⟨v1, v2⟩ := Prod.mk.inj h2
      have u2 := u2.symm
      have v2 := v2.symm
      refine ⟨u1.trans v1.symm, core_nums (bd_of okm) hC0 (fun c hc => up_k u2 hc) (fun c hc => up_k v2 hc) (up_f v2 (by decide)) (up_f v2 (by decide)) (up_f v2 (by decide)) (up_f v2 (by decide)) ?_ ?_ (up_f u2 (by decide)) ?_⟩
      · rw [up_f u2 (by decide), up_f v2 (by decide)]; exact s2
      · rw [← up_v u2, ← up_v v2]
      · rw [← up_v v2]; omega
    · rw [if_neg c] at h1 h2
      cases h1
      cases h2
      exact ⟨rfl, hC0⟩
  · rw [if_neg (fun e => by have := fm_in.mp e; omega)] at h2
    cases h2
    by_cases c1 : n < (0 : Int32)
    · rw [if_pos c1] at h1
      cases h1
      exact ⟨rfl, hC0⟩
    · have c2 : ¬ n.toInt < (0 : Int32).toInt := fun e => c1 (vv_lt.mpr e)
      rw [if_neg c1, if_neg (fun e => by have := vv_le.mp e; omega)] at h1
      cases h1
      exact ⟨rfl, hC0⟩
theorem snow_or {y i : Int32} (h0 : 0 ≤ i.toInt) (h1 : i.toInt ≤ 31) : (y &&& (((1 : Int32) <<< (i &&& 31)) ^^^ (-1))) ||| ((1 : Int32) <<< (i &&& 31)) = y ||| ((1 : Int32) <<< (i &&& 31)) := by
  apply b_ext
  intro j hj
  rw [b_or, b_or, b_and, b_xor, b_m1 j hj]
  cases bt y j <;> cases bt ((1 : Int32) <<< (i &&& 31)) j <;> rfl
theorem shl_0 : ∀ n, n < 32 → ((0 : Int32) <<< (nI n &&& 31)) = 0 := by decide +kernel
theorem snow_rel {i v r1 r2 : Int32} {mux mum xi1 xi2 : Nat → Nat → Int32} (okm : okR loM hiM mum) (hC : core mux mum) (h1 : (r1, xi1) = F_qx_snow mux i v) (h2 : (r2, xi2) = F_qm_snow mum i v) : r1 = r2 ∧ core xi1 xi2 := by
  have hC0 := hC
  obtain ⟨hK, hE, ⟨s2, s3, s4, s6⟩, hday, hP, hL, hS, hA⟩ := hC
  have hp : 0 ≤ (mum 0 11).toInt ∧ (mum 0 11).toInt ≤ 12 := okm 0 11
  have z0 : (0 : Int32).toInt = 0 := rfl
  have z1 : (1 : Int32).toInt = 1 := rfl
  have s1 : (mum 0 11 - 1 : Int32).toInt = (mum 0 11).toInt - 1 := tI_sub rfl z1 (by omega) (by omega)
  simp only [F_qx_snow, letv_eq] at h1
  simp only [F_qm_snow, letv_eq] at h2
  rw [hK.2.1, s2] at h1
  by_cases ci : 0 ≤ i.toInt ∧ i.toInt < (mum 0 11).toInt
  · rw [if_neg (fun e => by have := vv_lt.mp e; omega), if_neg (fun e => by have := vv_ge.mp e; omega)] at h1
    rw [if_pos (fm_in.mpr ⟨by omega, by omega⟩)] at h2
    by_cases cv : 0 ≤ v.toInt ∧ v.toInt ≤ 1
    · rw [if_neg (fun e => by have := vv_lt.mp e; omega), if_pos (vv_le.mpr (by omega))] at h1
      rw [if_pos (fm_in.mpr ⟨by omega, by omega⟩)] at h2
      have key : ∀ w : Int32, xi1 = va_up mux 5 (upd (mux 5) 2 w) → xi2 = va_up mum 0 (upd (mum 0) 13 w) → core xi1 xi2 := fun w u2 v2 => by
        have u2 := u2.symm
        have v2 := v2.symm
        refine core_nums (bd_of okm) hC0 (fun c hc => up_k u2 hc) (fun c hc => up_k v2 hc) (up_f v2 (by decide)) (up_f v2 (by decide)) (up_f v2 (by decide)) (up_f v2 (by decide)) ?_ ?_ (up_f u2 (by decide)) ?_
        · rw [← up_v u2, ← up_v v2]
        · rw [up_f u2 (by decide), up_f v2 (by decide)]; exact s3
        · rw [up_f v2 (by decide)]; exact hday
      by_cases c1 : v = 1
      · rw [if_pos c1] at h2
        rw [c1, snow_or ci.1 (by omega)] at h1
        obtain ⟨u1, u2⟩ := Prod.mk.inj h1
        obtain ⟨v1, v2⟩ := Prod.mk.inj h2
        exact ⟨u1.trans v1.symm, key _ u2 v2⟩
      · have v0 : v = 0 := Int32.toInt_inj.mp (by
          have : ¬ v.toInt = (1 : Int32).toInt := fun e => c1 (Int32.toInt_inj.mp e)
          omega)
        have hc := tC_of ci.1
        have e0 : ((0 : Int32) <<< (i &&& 31)) = 0 := by
          rw [nI_at ci.1]
          exact shl_0 _ (by omega)
        rw [if_neg c1] at h2
        rw [v0, e0, ior_0] at h1
        obtain ⟨u1, u2⟩ := Prod.mk.inj h1
        obtain ⟨v1, v2⟩ := Prod.mk.inj h2
        exact ⟨u1.trans v1.symm, key _ u2 v2⟩
    · rw [if_neg (fun e => by have := fm_in.mp e; omega)] at h2
      cases h2
      by_cases c1 : v < (0 : Int32)
      · rw [if_pos c1] at h1
        cases h1
        exact ⟨rfl, hC0⟩
      · have c2 : ¬ v.toInt < (0 : Int32).toInt := fun e => c1 (vv_lt.mpr e)
        rw [if_neg c1, if_neg (fun e => by have := vv_le.mp e; omega)] at h1
        cases h1
        exact ⟨rfl, hC0⟩
  · rw [if_neg (fun e => by have := fm_in.mp e; omega)] at h2
    cases h2
    by_cases c1 : i < (0 : Int32)
    · rw [if_pos c1] at h1
      cases h1
      exact ⟨rfl, hC0⟩
    · have c2 : ¬ i.toInt < (0 : Int32).toInt := fun e => c1 (vv_lt.mpr e)
      rw [if_neg c1, if_pos (vv_ge.mpr (by omega))] at h1
      cases h1
      exact ⟨rfl, hC0⟩
theorem pair_eq {mux mum : Nat → Nat → Int32} {x y : Int32} (hK : simK mux mum) (hb : 0 ≤ (mum 0 8).toInt ∧ (mum 0 8).toInt ≤ 7) : (F_sx_isPair mux x y = 1 ∧ F_sm_areTwo mum x y = 1 ∧ (0 ≤ x.toInt ∧ x.toInt < (mum 0 8).toInt) ∧ (0 ≤ y.toInt ∧ y.toInt < (mum 0 8).toInt)) ∨ (¬ F_sx_isPair mux x y = 1 ∧ ¬ F_sm_areTwo mum x y = 1) := by
  have ax : F_sx_has mux x = 1 ↔ F_sm_isOne mum x = 1 := by rw [fx_has, fm_isOne hb, hK.1]
  have ay : F_sx_has mux y = 1 ↔ F_sm_isOne mum y = 1 := by rw [fx_has, fm_isOne hb, hK.1]
  unfold F_sx_isPair F_sm_areTwo
  by_cases c1 : F_sm_isOne mum x = 1
  · rw [if_pos (ax.mpr c1), if_pos c1]
    by_cases c2 : F_sm_isOne mum y = 1
    · rw [if_pos (ay.mpr c2), if_pos c2]
      by_cases c3 : x = y
      · rw [if_pos c3]
        exact Or.inr ⟨by decide, by decide⟩
      · rw [if_neg c3]
        exact Or.inl ⟨rfl, rfl, (fm_isOne hb).mp c1, (fm_isOne hb).mp c2⟩
    · rw [if_neg (fun e => c2 (ay.mp e)), if_neg c2]
      exact Or.inr ⟨by decide, by decide⟩
  · rw [if_neg (fun e => c1 (ax.mp e)), if_neg c1]
    exact Or.inr ⟨by decide, by decide⟩
theorem send_rel {x y w l r1 r2 : Int32} {mux mum xi1 xi2 : Nat → Nat → Int32} (okm : okR loM hiM mum) (hC : core mux mum) (h1 : (r1, xi1) = F_qx_send mux x y w l) (h2 : (r2, xi2) = F_qm_send mum x y w l) : r1 = r2 ∧ core xi1 xi2 := by
  have hC0 := hC
  obtain ⟨hK, hE, ⟨s2, s3, s4, s6⟩, hday, hP, hL, hS, hA⟩ := hC
  have hb : 0 ≤ (mum 0 8).toInt ∧ (mum 0 8).toInt ≤ 7 := okm 0 8
  have hsent : 0 ≤ (mum 0 15).toInt ∧ (mum 0 15).toInt ≤ 4 := okm 0 15
  have hled : 0 ≤ (mum 0 17).toInt ∧ (mum 0 17).toInt ≤ 40 := okm 0 17
  have cs := tC_of hsent.1
  have cl := tC_of hled.1
  have z0 : (0 : Int32).toInt = 0 := rfl
  have z1 : (1 : Int32).toInt = 1 := rfl
  have z9 : (9 : Int32).toInt = 9 := rfl
  have z99 : (99 : Int32).toInt = 99 := rfl
  have z4 : (4 : Int32).toInt = 4 := rfl
  have h2' := h2
  unfold F_qx_send at h1
  unfold F_qm_send at h2
  have none : (r1, xi1) = (-1, mux) → (r2, xi2) = (-1, mum) → r1 = r2 ∧ core xi1 xi2 := fun a b => by
    cases a
    cases b
    exact ⟨rfl, hC0⟩
  rcases pair_eq (x := x) (y := y) hK hb with ⟨p1, p2, px, py⟩ | ⟨p1, p2⟩
  · rw [if_pos p1] at h1
    rw [if_pos p2] at h2
    by_cases cw : 0 ≤ w.toInt ∧ w.toInt ≤ 99
    · have iw : F_sm_in w 0 99 = 1 := fm_in.mpr ⟨by omega, by omega⟩
      rw [if_neg (fun e => by have := vv_lt.mp e; omega), if_neg (fun e => by have := vv_gt.mp e; omega)] at h1
      rw [if_pos iw] at h2
      by_cases cf : 0 ≤ l.toInt ∧ l.toInt ≤ 9
      · have il : F_sm_in l 0 9 = 1 := fm_in.mpr ⟨by omega, by omega⟩
        rw [if_neg (fun e => by have := vv_lt.mp e; omega), if_pos (vv_le.mpr (by omega))] at h1
        rw [if_pos il] at h2
        simp only [letv_eq] at h1
        rw [s4] at h1
        by_cases c4 : (mum 0 15).toInt < 4
        · rw [if_pos (vv_lt.mpr (by omega)), s3] at h1
          obtain ⟨m1, m2, m3, m4, m5, q0, q1, q2, q3, q4, q5, q6, q7, q8, q9⟩ := sd_m p2 iw il ⟨hsent.1, by omega⟩ h2'
          obtain ⟨u1, u2⟩ := Prod.mk.inj h1
          have u2 := u2.symm
          obtain ⟨b0, c0, c1, c2, c3, c4', c5, c6, c7, c8, c9⟩ := bg_x (mu := mux) (kk := 61 + (mum 0 15).toNatClampNeg) (vx := x) (vy := y) (vw := w) (vl := l) (vd := mum 0 14) rfl
          generalize F_sx_begin mux (61 + (mum 0 15).toNatClampNeg) x y w l (mum 0 14) = nb at u2 b0 c0 c1 c2 c3 c4' c5 c6 c7 c8 c9
          have fx : ∀ c : Nat, c ≠ 5 → c ≠ 61 + (mum 0 15).toNatClampNeg → xi1 c = mux c := fun c h h' => (up_k u2 h).trans (b0 c h')
          have n5 : nb 5 = mux 5 := b0 5 (by omega)
          have ad : (mum 0 15 + 1 : Int32).toInt = (mum 0 15).toInt + 1 := tI_add rfl z1 (by omega) (by omega)
          have adn := tC_of (v := mum 0 15 + 1) (by omega)
          have xl : xi1 (61 + (mum 0 15).toNatClampNeg) = nb (61 + (mum 0 15).toNatClampNeg) := up_k u2 (by omega)
          refine ⟨u1.trans m1.symm, ?_, ?_, ⟨?_, ?_, ?_, ?_⟩, ?_, ?_, ?_, ?_, ?_⟩
          · unfold simK
            rw [fx 4 (by decide) (by omega), fx 34 (by decide) (by omega), fx 35 (by decide) (by omega), fx 36 (by decide) (by omega), m3 8 (by decide), m3 11 (by decide), m2 7 (by decide) (by decide), m2 9 (by decide) (by decide)]
            exact hK
          · unfold endR
            rw [m3 8 (by decide), m3 11 (by decide), m2 9 (by decide) (by decide)]
            exact hE
          · rw [up_f u2 (by decide), n5, m3 13 (by decide)]; exact s2
          · rw [up_f u2 (by decide), n5, m3 14 (by decide)]; exact s3
          · rw [← up_v u2, m4]
          · rw [fx 6 (by decide) (by omega), m3 17 (by decide)]; exact s6
          · rw [m3 14 (by decide)]; exact hday
          · rw [m3 8 (by decide), fx 46 (by decide) (by omega), m2 8 (by decide) (by decide)]; exact hP
          · rw [m3 8 (by decide), m4]
            intro q hq
            by_cases e : q = (mum 0 15).toNatClampNeg
            · subst e
              show (∀ f : Nat, f < 10 → xi1 (61 + (mum 0 15).toNatClampNeg) f = xi2 10 (10 * (mum 0 15).toNatClampNeg + pfm f)) ∧ (0 ≤ (xi1 (61 + (mum 0 15).toNatClampNeg) 1).toInt ∧ (xi1 (61 + (mum 0 15).toNatClampNeg) 1).toInt < (mum 0 8).toInt) ∧ (0 ≤ (xi1 (61 + (mum 0 15).toNatClampNeg) 5).toInt ∧ (xi1 (61 + (mum 0 15).toNatClampNeg) 5).toInt < (mum 0 8).toInt) ∧ (xi1 (61 + (mum 0 15).toNatClampNeg) 9 = 0 ∨ xi1 (61 + (mum 0 15).toNatClampNeg) 9 = 1)
              rw [xl]
              refine ⟨fun f hf => ?_, by rw [c1]; exact py, by rw [c5]; exact px, Or.inl c9⟩
              match f, hf with
              | 0, _ => exact c0.trans q0.symm
              | 1, _ => exact c1.trans q1.symm
              | 2, _ => exact c2.trans q2.symm
              | 3, _ => exact c3.trans q3.symm
              | 4, _ => exact c4'.trans q4.symm
              | 5, _ => exact c5.trans q5.symm
              | 6, _ => exact c6.trans q6.symm
              | 7, _ => exact c7.trans q8.symm
              | 8, _ => exact c8.trans q7.symm
              | 9, _ => exact c9.trans q9.symm
              | f + 10, hf => exact absurd hf (by omega)
            · obtain ⟨qf, r1', r5, r9⟩ : oneR (mum 0 8).toInt (mux (61 + q)) (mum 10) q := hL q (by omega)
              have pl : ∀ f : Nat, f < 10 → pfm f < 10 := by decide
              show (∀ f : Nat, f < 10 → xi1 (61 + q) f = xi2 10 (10 * q + pfm f)) ∧ (0 ≤ (xi1 (61 + q) 1).toInt ∧ (xi1 (61 + q) 1).toInt < (mum 0 8).toInt) ∧ (0 ≤ (xi1 (61 + q) 5).toInt ∧ (xi1 (61 + q) 5).toInt < (mum 0 8).toInt) ∧ (xi1 (61 + q) 9 = 0 ∨ xi1 (61 + q) 9 = 1)
              rw [fx (61 + q) (by omega) (by omega)]
              refine ⟨fun f hf => ?_, r1', r5, r9⟩
              have := pl f hf
              rw [m5 _ (by omega)]
              exact qf f hf
          · unfold salR salN
            rw [m3 8 (by decide), m3 17 (by decide), m4, m2 14 (by decide) (by decide)]
            intro s hs
            rw [fx (77 + s) (by omega) (by omega), fx (117 + s) (by omega) (by omega)]
            obtain ⟨⟨a1, a2, a3⟩, b, c, d, e, f⟩ := hS s hs
            exact ⟨⟨a1, a2, by omega⟩, b, c, d, e, f⟩
          · exact kepR_of hA (fun c hc => fx c (by omega) (by omega)) (m2 15 (by decide) (by decide)) (m3 8 (by decide))
        · have e4 : mum 0 15 = 4 := Int32.toInt_inj.mp (by omega)
          rw [if_neg (fun e => by have := vv_lt.mp e; omega)] at h1
          simp only [letv_eq] at h2
          rw [if_pos e4] at h2
          cases h1
          cases h2
          exact ⟨rfl, hC0⟩
      · rw [if_neg (fun e => by have := fm_in.mp e; omega)] at h2
        refine none ?_ h2
        rw [h1]
        by_cases c1 : l < (0 : Int32)
        · rw [if_pos c1]
        · have c2 : ¬ l.toInt < (0 : Int32).toInt := fun e => c1 (vv_lt.mpr e)
          rw [if_neg c1, if_neg (fun e => by have := vv_le.mp e; omega)]
    · rw [if_neg (fun e => by have := fm_in.mp e; omega)] at h2
      refine none ?_ h2
      rw [h1]
      by_cases c1 : w < (0 : Int32)
      · rw [if_pos c1]
      · have c2 : ¬ w.toInt < (0 : Int32).toInt := fun e => c1 (vv_lt.mpr e)
        rw [if_neg c1, if_pos (vv_gt.mpr (by omega))]
  · rw [if_neg p1] at h1
    rw [if_neg p2] at h2
    exact none h1 h2

-- ===== keep and on =====
theorem letR_of2 {B : Int} {n : Nat} {lx lx' : Nat → Nat → Int32} {lm lm' : Nat → Int32} (h : letR B n lx lm) (h1 : ∀ k : Nat, k < n → ∀ f : Nat, f < 10 → lx' k f = lx k f) (h2 : ∀ k : Nat, k < n → ∀ f : Nat, f < 10 → lm' (10 * k + f) = lm (10 * k + f)) : letR B n lx' lm' := by
  intro k hk
  obtain ⟨a, b, c, d⟩ := h k hk
  have pl : ∀ f : Nat, f < 10 → pfm f < 10 := by decide
  rw [h1 k hk 1 (by decide), h1 k hk 5 (by decide), h1 k hk 9 (by decide)]
  exact ⟨fun f hf => by rw [h1 k hk f hf, a f hf, h2 k hk _ (pl f hf)], b, c, d⟩
theorem keep_core {J : Nat} {mux mum xi1 xi2 : Nat → Nat → Int32} (okm : okR loM hiM mum) (hJ : J < 3) (hC : core mux mum) (hx : ∀ c f : Nat, xi1 c f = if c = 18 + J ∧ f = 5 then 1 else if 65 + 4 * J ≤ c ∧ c < 69 + 4 * J ∧ f < 10 then mux (c - (65 + 4 * J) + 61) f else if c = 18 + J ∧ 2 ≤ f ∧ f ≤ 4 then mux 5 f else if c = 40 + J ∧ f < 7 then mux 46 f else mux c f) (hm : ∀ k f : Nat, xi2 k f = if k = 15 ∧ 64 * J + 10 ≤ f ∧ f < 64 * J + 50 then mum 10 (f - (64 * J + 10)) else if k = 15 ∧ 64 * J + 3 ≤ f ∧ f < 64 * J + 10 then mum 8 (f - (64 * J + 3)) else if k = 15 ∧ f = 64 * J then mum 0 14 else if k = 15 ∧ f = 64 * J + 1 then mum 0 13 else if k = 15 ∧ f = 64 * J + 2 then mum 0 15 else mum k f) : core xi1 xi2 := by
  obtain ⟨hK, hE, ⟨s2, s3, s4, s6⟩, hday, hP, hL, hS, hA⟩ := hC
  have hb : 0 ≤ (mum 0 8).toInt ∧ (mum 0 8).toInt ≤ 7 := okm 0 8
  have hsent : 0 ≤ (mum 0 15).toInt ∧ (mum 0 15).toInt ≤ 4 := okm 0 15
  have hled : 0 ≤ (mum 0 17).toInt ∧ (mum 0 17).toInt ≤ 40 := okm 0 17
  have cs := tC_of hsent.1
  have cl := tC_of hled.1
  have cb := tC_of hb.1
  have fx : ∀ c : Nat, c ≠ 18 + J → c ≠ 40 + J → ¬ (65 + 4 * J ≤ c ∧ c < 69 + 4 * J) → xi1 c = mux c := fun c h1 h2 h3 => funext fun f => by
    rw [hx c f, if_neg (fun h => h1 h.1), if_neg (fun h => h3 ⟨h.1, h.2.1⟩), if_neg (fun h => h1 h.1), if_neg (fun h => h2 h.1)]
  have fm : ∀ c : Nat, c ≠ 15 → xi2 c = mum c := fun c h => funext fun f => by
    rw [hm c f, if_neg (fun e => h e.1), if_neg (fun e => h e.1), if_neg (fun e => h e.1), if_neg (fun e => h e.1), if_neg (fun e => h e.1)]
  have x5 : xi1 5 = mux 5 := fx 5 (by omega) (by omega) (by omega)
  have m0 : xi2 0 = mum 0 := fm 0 (by decide)
  refine ⟨?_, ?_, ⟨?_, ?_, ?_, ?_⟩, ?_, ?_, ?_, ?_, ?_⟩
  · unfold simK
    rw [fx 4 (by omega) (by omega) (by omega), fx 34 (by omega) (by omega) (by omega), fx 35 (by omega) (by omega) (by omega), fx 36 (by omega) (by omega) (by omega), m0, fm 7 (by decide), fm 9 (by decide)]
    exact hK
  · unfold endR
    rw [m0, fm 9 (by decide)]
    exact hE
  · rw [x5, m0]; exact s2
  · rw [x5, m0]; exact s3
  · rw [x5, m0]; exact s4
  · rw [fx 6 (by omega) (by omega) (by omega), m0]; exact s6
  · rw [m0]; exact hday
  · rw [m0, fx 46 (by omega) (by omega) (by omega), fm 8 (by decide)]; exact hP
  · rw [m0, fm 10 (by decide)]
    exact letR_of hL (fun q hq => fx _ (by omega) (by omega) (by omega)) (fun _ _ _ _ => rfl)
  · unfold salR salN
    rw [m0, fm 14 (by decide)]
    intro s hs
    rw [fx (77 + s) (by omega) (by omega) (by omega), fx (117 + s) (by omega) (by omega) (by omega)]
    exact hS s hs
  · intro j hj
    rw [m0]
    by_cases e : j = J
    · subst e
      have a0 : xi2 15 (64 * j) = mum 0 14 := by rw [hm, if_neg (fun h => by omega), if_neg (fun h => by omega), if_pos ⟨rfl, rfl⟩]
      have a1 : xi2 15 (64 * j + 1) = mum 0 13 := by rw [hm, if_neg (fun h => by omega), if_neg (fun h => by omega), if_neg (fun h => by omega), if_pos ⟨rfl, rfl⟩]
      have a2 : xi2 15 (64 * j + 2) = mum 0 15 := by rw [hm, if_neg (fun h => by omega), if_neg (fun h => by omega), if_neg (fun h => by omega), if_neg (fun h => by omega), if_pos ⟨rfl, rfl⟩]
      have b5 : xi1 (18 + j) 5 = 1 := by rw [hx, if_pos ⟨rfl, rfl⟩]
      have b2 : ∀ f : Nat, 2 ≤ f → f ≤ 4 → xi1 (18 + j) f = mux 5 f := fun f h1 h2 => by rw [hx, if_neg (fun h => by omega), if_neg (fun h => by omega), if_pos ⟨rfl, h1, h2⟩]
      rw [a0, a1, a2]
      refine Or.inr ⟨by rw [b5]; decide, hday, (b2 3 (by decide) (by decide)).trans s3, (b2 2 (by decide) (by decide)).trans s2, (b2 4 (by decide) (by decide)).trans s4, hsent, fun x hx2 => ?_, ?_⟩
      · rw [hx, if_neg (fun h => by omega), if_neg (fun h => by omega), if_neg (fun h => by omega), if_pos ⟨rfl, by omega⟩, hm, if_neg (fun h => by omega), if_pos ⟨rfl, by omega, by omega⟩, show 64 * j + 3 + x - (64 * j + 3) = x by omega]
        exact hP x hx2
      · refine letR_of2 hL (fun q hq f hf => ?_) (fun q hq f hf => ?_)
        · show xi1 (65 + 4 * j + q) f = mux (61 + q) f
          rw [hx, if_neg (fun h => by omega), if_pos ⟨by omega, by omega, hf⟩, show 65 + 4 * j + q - (65 + 4 * j) + 61 = 61 + q by omega]
        · show xi2 15 (64 * j + 10 + (10 * q + f)) = mum 10 (10 * q + f)
          rw [hm, if_pos ⟨rfl, by omega, by omega⟩, show 64 * j + 10 + (10 * q + f) - (64 * j + 10) = 10 * q + f by omega]
    · have o15 : ∀ f : Nat, 64 * j ≤ f → f < 64 * j + 50 → xi2 15 f = mum 15 f := fun f h1 h2 => by
        rw [hm, if_neg (fun h => by omega), if_neg (fun h => by omega), if_neg (fun h => by omega), if_neg (fun h => by omega), if_neg (fun h => by omega)]
      rw [fx (18 + j) (by omega) (by omega) (by omega), fx (40 + j) (by omega) (by omega) (by omega), o15 (64 * j) (by omega) (by omega), o15 (64 * j + 1) (by omega) (by omega), o15 (64 * j + 2) (by omega) (by omega)]
      rcases hA j hj with a | ⟨a, b, c, d, e2, e3, p, l⟩
      · exact Or.inl a
      · have := tC_of e3.1
        refine Or.inr ⟨a, b, c, d, e2, e3, fun x hx2 => ?_, letR_of2 l (fun q hq f hf => ?_) (fun q hq f hf => ?_)⟩
        · rw [o15 _ (by omega) (by omega)]
          exact p x hx2
        · show xi1 (65 + 4 * j + q) f = mux (65 + 4 * j + q) f
          rw [fx (65 + 4 * j + q) (by omega) (by omega) (by omega)]
        · exact o15 _ (by omega) (by omega)
theorem on_core {J : Nat} {mux mum xi1 xi2 : Nat → Nat → Int32} (okm : okR loM hiM mum) (hJ : J < 3) (hC : core mux mum) (hy : ¬ mux (18 + J) 5 = 0) (hx : ∀ c f : Nat, xi1 c f = if c = 6 ∧ f = 1 then 0 else if 61 ≤ c ∧ c < 65 ∧ f < 10 then mux (c - 61 + (65 + 4 * J)) f else if c = 5 ∧ 2 ≤ f ∧ f ≤ 4 then mux (18 + J) f else if c = 46 ∧ f < 7 then mux (40 + J) f else mux c f) (hm : ∀ k f : Nat, xi2 k f = if k = 10 ∧ f < 40 then mum 15 (64 * J + 10 + f) else if k = 0 ∧ f = 17 then 0 else if k = 8 ∧ f < 7 then mum 15 (64 * J + 3 + f) else if k = 0 ∧ f = 14 then mum 15 (64 * J) else if k = 0 ∧ f = 13 then mum 15 (64 * J + 1) else if k = 0 ∧ f = 15 then mum 15 (64 * J + 2) else mum k f) : core xi1 xi2 := by
  obtain ⟨hK, hE, ⟨s2, s3, s4, s6⟩, hday, hP, hL, hS, hA⟩ := hC
  have hb : 0 ≤ (mum 0 8).toInt ∧ (mum 0 8).toInt ≤ 7 := okm 0 8
  have cb := tC_of hb.1
  obtain ⟨b, c, d, e2, e3, p, l⟩ : (0 ≤ (mum 15 (64 * J)).toInt ∧ (mum 15 (64 * J)).toInt ≤ 99) ∧ mux (18 + J) 3 = mum 15 (64 * J) ∧ mux (18 + J) 2 = mum 15 (64 * J + 1) ∧ mux (18 + J) 4 = mum 15 (64 * J + 2) ∧ (0 ≤ (mum 15 (64 * J + 2)).toInt ∧ (mum 15 (64 * J + 2)).toInt ≤ 4) ∧ (∀ x : Nat, x < (mum 0 8).toNatClampNeg → mux (40 + J) x = mum 15 (64 * J + 3 + x)) ∧ letR (mum 0 8).toInt (mum 15 (64 * J + 2)).toNatClampNeg (fun k => mux (65 + 4 * J + k)) (fun i => mum 15 (64 * J + 10 + i)) := by
    rcases hA J hJ with a | ⟨a, r⟩
    · exact absurd a.1 hy
    · exact r
  have ce := tC_of e3.1
  have fx : ∀ c : Nat, c ≠ 6 → c ≠ 5 → c ≠ 46 → ¬ (61 ≤ c ∧ c < 65) → xi1 c = mux c := fun c h1 h2 h3 h4 => funext fun f => by
    rw [hx c f, if_neg (fun h => h1 h.1), if_neg (fun h => h4 ⟨h.1, h.2.1⟩), if_neg (fun h => h2 h.1), if_neg (fun h => h3 h.1)]
  have fm : ∀ c : Nat, c ≠ 0 → c ≠ 8 → c ≠ 10 → xi2 c = mum c := fun c h1 h2 h3 => funext fun f => by
    rw [hm c f, if_neg (fun h => h3 h.1), if_neg (fun h => h1 h.1), if_neg (fun h => h2 h.1), if_neg (fun h => h1 h.1), if_neg (fun h => h1 h.1), if_neg (fun h => h1 h.1)]
  have m8 : xi2 0 8 = mum 0 8 := by rw [hm]; simp
  have m11 : xi2 0 11 = mum 0 11 := by rw [hm]; simp
  have m13 : xi2 0 13 = mum 15 (64 * J + 1) := by rw [hm]; simp
  have m14 : xi2 0 14 = mum 15 (64 * J) := by rw [hm]; simp
  have m15 : xi2 0 15 = mum 15 (64 * J + 2) := by rw [hm]; simp
  have m17 : xi2 0 17 = 0 := by rw [hm]; simp
  have y5 : ∀ f : Nat, 2 ≤ f → f ≤ 4 → xi1 5 f = mux (18 + J) f := fun f h1 h2 => by rw [hx, if_neg (fun h => by omega), if_neg (fun h => by omega), if_pos ⟨rfl, h1, h2⟩]
  refine ⟨?_, ?_, ⟨?_, ?_, ?_, ?_⟩, ?_, ?_, ?_, ?_, ?_⟩
  · unfold simK
    rw [fx 4 (by decide) (by decide) (by decide) (by decide), fx 34 (by decide) (by decide) (by decide) (by decide), fx 35 (by decide) (by decide) (by decide) (by decide), fx 36 (by decide) (by decide) (by decide) (by decide), m8, m11, fm 7 (by decide) (by decide) (by decide), fm 9 (by decide) (by decide) (by decide)]
    exact hK
  · unfold endR
    rw [m8, m11, fm 9 (by decide) (by decide) (by decide)]
    exact hE
  · rw [y5 2 (by decide) (by decide), m13]; exact d
  · rw [y5 3 (by decide) (by decide), m14]; exact c
  · rw [y5 4 (by decide) (by decide), m15]; exact e2
  · rw [hx, if_pos ⟨rfl, rfl⟩, m17]
  · rw [m14]; exact b
  · rw [m8]
    intro x hx2
    rw [hx, if_neg (fun h => by omega), if_neg (fun h => by omega), if_neg (fun h => by omega), if_pos ⟨rfl, by omega⟩, hm, if_neg (fun h => by omega), if_neg (fun h => by omega), if_pos ⟨rfl, by omega⟩]
    exact p x hx2
  · rw [m8, m15]
    refine letR_of2 l (fun q hq f hf => ?_) (fun q hq f hf => ?_)
    · show xi1 (61 + q) f = mux (65 + 4 * J + q) f
      rw [hx, if_neg (fun h => by omega), if_pos ⟨by omega, by omega, hf⟩, show 61 + q - 61 + (65 + 4 * J) = 65 + 4 * J + q by omega]
    · show xi2 10 (10 * q + f) = mum 15 (64 * J + 10 + (10 * q + f))
      rw [hm, if_pos ⟨rfl, by omega⟩]
  · unfold salR salN
    rw [m17]
    intro s hs
    exact absurd hs (Nat.not_lt_zero _)
  · exact kepR_of hA (fun c hc => fx c (by omega) (by omega) (by omega) (by omega)) (fm 15 (by decide) (by decide) (by decide)) m8
theorem fx_isPlace {v : Int32} : F_sx_isPlace v = 1 ↔ 0 ≤ v.toInt ∧ v.toInt ≤ 2 := by
  have h0 : (0 : Int32).toInt = 0 := rfl
  have h3 : (3 : Int32).toInt = 3 := rfl
  unfold F_sx_isPlace
  by_cases c1 : v < (0 : Int32)
  · rw [if_pos c1]
    have c2 := vv_lt.mp c1
    exact ⟨fun h => absurd h (by decide), fun h => by omega⟩
  · rw [if_neg c1]
    have c2 : ¬ v.toInt < (0 : Int32).toInt := fun h => c1 (vv_lt.mpr h)
    by_cases c3 : v ≥ (3 : Int32)
    · rw [if_pos c3]
      have c4 := vv_ge.mp c3
      exact ⟨fun h => absurd h (by decide), fun h => by omega⟩
    · rw [if_neg c3]
      have c4 : ¬ (3 : Int32).toInt ≤ v.toInt := fun h => c3 (vv_ge.mpr h)
      exact ⟨fun _ => ⟨by omega, by omega⟩, fun _ => rfl⟩
theorem keep_rel {v r1 r2 : Int32} {mux mum xi1 xi2 : Nat → Nat → Int32} (okm : okR loM hiM mum) (hC : core mux mum) (h1 : (r1, xi1) = F_qx_keep mux v) (h2 : (r2, xi2) = F_qm_keep mum v) : r1 = r2 ∧ core xi1 xi2 := by
  have hC0 := hC
  obtain ⟨hK, hE, ⟨s2, s3, s4, s6⟩, hday, hP, hL, hS, hA⟩ := hC
  have z0 : (0 : Int32).toInt = 0 := rfl
  have z1 : (1 : Int32).toInt = 1 := rfl
  have z2 : (2 : Int32).toInt = 2 := rfl
  unfold F_qx_keep at h1
  by_cases cv : 0 ≤ v.toInt ∧ v.toInt ≤ 2
  · rw [if_pos (fx_isPlace.mpr cv)] at h1
    simp only [letv_eq] at h1
    rw [hK.1] at h1
    by_cases cb : mum 0 8 = 0
    · unfold F_qm_keep at h2
      rw [if_pos (fm_in.mpr ⟨by omega, by omega⟩)] at h2
      simp only [letv_eq] at h2
      rw [if_pos cb] at h1 h2
      cases h1
      cases h2
      exact ⟨rfl, hC0⟩
    · obtain ⟨g1, g2⟩ := fm_keep cv cb
      rw [p_fst h2] at g1
      rw [p_snd h2] at g2
      rw [if_neg cb] at h1
      by_cases c0 : v = 0
      · rw [if_pos c0] at h1
        have jv : v.toNatClampNeg = 0 := by rw [c0]; rfl
        rw [jv] at g2
        have lk := fx_like_18_5 (mu := mux)
        generalize F_sx_Standing_beLike_18_5 mux = nl at h1 lk
        obtain ⟨u1, u2⟩ := Prod.mk.inj h1
        have u2 := u2.symm
        have k5 : xi1 5 3 = mux 5 3 := by
          rw [congrFun (up_k u2 (by decide)) 3, lk, if_neg (by decide), if_neg (by decide), if_neg (by decide)]
        rw [u2] at u1
        refine ⟨?_, keep_core (J := 0) okm (by decide) hC0 (fun c f => ?_) g2⟩
        · rw [u1, k5, g1]; exact s3
        · by_cases e : c = 18 ∧ f = 5
          · rw [if_pos e]
            obtain ⟨e, ef⟩ := e
            subst e ef
            exact (up_v u2).symm
          · rw [if_neg e]
            have st : xi1 c f = nl c f := by
              by_cases ec : c = 18
              · subst ec
                exact up_f u2 (fun h => e ⟨rfl, h⟩)
              · exact congrFun (up_k u2 ec) f
            rw [st]
            exact lk c f
      by_cases c1 : v = 1
      · rw [if_neg c0, if_pos c1] at h1
        have jv : v.toNatClampNeg = 1 := by rw [c1]; rfl
        rw [jv] at g2
        have lk := fx_like_19_5 (mu := mux)
        generalize F_sx_Standing_beLike_19_5 mux = nl at h1 lk
        obtain ⟨u1, u2⟩ := Prod.mk.inj h1
        have u2 := u2.symm
        have k5 : xi1 5 3 = mux 5 3 := by
          rw [congrFun (up_k u2 (by decide)) 3, lk, if_neg (by decide), if_neg (by decide), if_neg (by decide)]
        rw [u2] at u1
        refine ⟨?_, keep_core (J := 1) okm (by decide) hC0 (fun c f => ?_) g2⟩
        · rw [u1, k5, g1]; exact s3
        · by_cases e : c = 19 ∧ f = 5
          · rw [if_pos e]
            obtain ⟨e, ef⟩ := e
            subst e ef
            exact (up_v u2).symm
          · rw [if_neg e]
            have st : xi1 c f = nl c f := by
              by_cases ec : c = 19
              · subst ec
                exact up_f u2 (fun h => e ⟨rfl, h⟩)
              · exact congrFun (up_k u2 ec) f
            rw [st]
            exact lk c f
      have c2 : v = 2 := Int32.toInt_inj.mp (by
        have a0 : ¬ v.toInt = (0 : Int32).toInt := fun e => c0 (Int32.toInt_inj.mp e)
        have a1 : ¬ v.toInt = (1 : Int32).toInt := fun e => c1 (Int32.toInt_inj.mp e)
        omega)
      rw [if_neg c0, if_neg c1] at h1
      have jv : v.toNatClampNeg = 2 := by rw [c2]; rfl
      rw [jv] at g2
      have lk := fx_like_20_5 (mu := mux)
      generalize F_sx_Standing_beLike_20_5 mux = nl at h1 lk
      obtain ⟨u1, u2⟩ := Prod.mk.inj h1
      have u2 := u2.symm
      have k5 : xi1 5 3 = mux 5 3 := by
        rw [congrFun (up_k u2 (by decide)) 3, lk, if_neg (by decide), if_neg (by decide), if_neg (by decide)]
      rw [u2] at u1
      refine ⟨?_, keep_core (J := 2) okm (by decide) hC0 (fun c f => ?_) g2⟩
      · rw [u1, k5, g1]; exact s3
      · by_cases e : c = 20 ∧ f = 5
        · rw [if_pos e]
          obtain ⟨e, ef⟩ := e
          subst e ef
          exact (up_v u2).symm
        · rw [if_neg e]
          have st : xi1 c f = nl c f := by
            by_cases ec : c = 20
            · subst ec
              exact up_f u2 (fun h => e ⟨rfl, h⟩)
            · exact congrFun (up_k u2 ec) f
          rw [st]
          exact lk c f
  · unfold F_qm_keep at h2
    rw [if_neg (fun e => cv (fx_isPlace.mp e))] at h1
    rw [if_neg (fun e => by have := fm_in.mp e; omega)] at h2
    cases h1
    cases h2
    exact ⟨rfl, hC0⟩
theorem on_rel {v r1 r2 : Int32} {mux mum xi1 xi2 : Nat → Nat → Int32} (okm : okR loM hiM mum) (hC : core mux mum) (h1 : (r1, xi1) = F_qx_on mux v) (h2 : (r2, xi2) = F_qm_on mum v) : r1 = r2 ∧ core xi1 xi2 := by
  have hC0 := hC
  obtain ⟨hK, hE, ⟨s2, s3, s4, s6⟩, hday, hP, hL, hS, hA⟩ := hC
  have z0 : (0 : Int32).toInt = 0 := rfl
  have z1 : (1 : Int32).toInt = 1 := rfl
  have z2 : (2 : Int32).toInt = 2 := rfl
  have no : ∀ J : Nat, v.toNatClampNeg = J → J < 3 → 0 ≤ v.toInt ∧ v.toInt ≤ 2 → mux (18 + J) 5 = 0 → (r1, xi1) = ((F_sx_found mux 1).1, (F_sx_found mux 1).2) → r1 = r2 ∧ core xi1 xi2 := fun J jv hJ cv e0 hh => by
    have e9 : mum 15 (64 * J) = -9 := by
      rcases hA J hJ with a | a
      · exact a.2
      · exact absurd e0 a.1
    have m64 : (64 * v : Int32).toInt = 64 * v.toInt := tI_mul (rfl : (64 : Int32).toInt = 64) rfl (by omega) (by omega)
    have c64 := tC_of (v := 64 * v) (by omega)
    have cc := tC_of cv.1
    have n64 : (64 * v : Int32).toNatClampNeg = 64 * J := by omega
    unfold F_qm_on at h2
    rw [if_pos (fm_in.mpr ⟨by omega, by omega⟩)] at h2
    simp only [letv_eq, letp_eq] at h2
    rw [n64, if_pos e9] at h2
    obtain ⟨u1, u2⟩ := Prod.mk.inj hh
    obtain ⟨v1, v2⟩ := Prod.mk.inj h2
    rw [u1, u2, v1, v2]
    exact ⟨fx_found.1.trans fm_meet.1.symm, found_core okm hC0⟩
  unfold F_qx_on at h1
  by_cases cv : 0 ≤ v.toInt ∧ v.toInt ≤ 2
  · rw [if_pos (fx_isPlace.mpr cv)] at h1
    simp only [letv_eq, letp_eq] at h1
    by_cases c0 : v = 0
    · rw [if_pos c0] at h1
      have jv : v.toNatClampNeg = 0 := by rw [c0]; rfl
      by_cases e0 : mux 18 5 = 0
      · rw [if_pos e0] at h1
        exact no 0 jv (by decide) cv e0 h1
      · rw [if_neg e0] at h1
        have nk : ¬ mum 15 (64 * v.toNatClampNeg) = -9 := by
          rw [jv]
          intro e9
          rcases hA 0 (by decide) with a | ⟨a, b, -⟩
          · exact e0 a.1
          · rw [e9] at b
            exact absurd b.1 (by decide)
        obtain ⟨g1, g2⟩ := fm_on cv nk
        rw [p_fst h2] at g1
        rw [p_snd h2] at g2
        rw [jv] at g1 g2
        have lk := fx_like_5_18 (mu := mux)
        generalize F_sx_Standing_beLike_5_18 mux = nl at h1 lk
        obtain ⟨u1, u2⟩ := Prod.mk.inj h1
        have u2 := u2.symm
        have k5 : xi1 5 3 = mux 18 3 := by
          rw [congrFun (up_k u2 (by decide)) 3, lk, if_neg (by decide), if_pos (by decide)]
        rw [u2] at u1
        have d3 : mux 18 3 = mum 15 (64 * 0) := by
          rcases hA 0 (by decide) with a | ⟨a, b, c, -⟩
          · exact absurd a.1 e0
          · exact c
        refine ⟨?_, on_core (J := 0) okm (by decide) hC0 e0 (fun c f => ?_) g2⟩
        · rw [u1, k5, g1]; exact d3
        · by_cases e : c = 6 ∧ f = 1
          · rw [if_pos e]
            obtain ⟨e, ef⟩ := e
            subst e ef
            exact (up_v u2).symm
          · rw [if_neg e]
            have st : xi1 c f = nl c f := by
              by_cases ec : c = 6
              · subst ec
                exact up_f u2 (fun h => e ⟨rfl, h⟩)
              · exact congrFun (up_k u2 ec) f
            rw [st]
            exact lk c f
    by_cases c1 : v = 1
    · rw [if_neg c0, if_pos c1] at h1
      have jv : v.toNatClampNeg = 1 := by rw [c1]; rfl
      by_cases e0 : mux 19 5 = 0
      · rw [if_pos e0] at h1
        exact no 1 jv (by decide) cv e0 h1
      · rw [if_neg e0] at h1
        have nk : ¬ mum 15 (64 * v.toNatClampNeg) = -9 := by
          rw [jv]
          intro e9
          rcases hA 1 (by decide) with a | ⟨a, b, -⟩
          · exact e0 a.1
          · rw [e9] at b
            exact absurd b.1 (by decide)
        obtain ⟨g1, g2⟩ := fm_on cv nk
        rw [p_fst h2] at g1
        rw [p_snd h2] at g2
        rw [jv] at g1 g2
        have lk := fx_like_5_19 (mu := mux)
        generalize F_sx_Standing_beLike_5_19 mux = nl at h1 lk
        obtain ⟨u1, u2⟩ := Prod.mk.inj h1
        have u2 := u2.symm
        have k5 : xi1 5 3 = mux 19 3 := by
          rw [congrFun (up_k u2 (by decide)) 3, lk, if_neg (by decide), if_pos (by decide)]
        rw [u2] at u1
        have d3 : mux 19 3 = mum 15 (64 * 1) := by
          rcases hA 1 (by decide) with a | ⟨a, b, c, -⟩
          · exact absurd a.1 e0
          · exact c
        refine ⟨?_, on_core (J := 1) okm (by decide) hC0 e0 (fun c f => ?_) g2⟩
        · rw [u1, k5, g1]; exact d3
        · by_cases e : c = 6 ∧ f = 1
          · rw [if_pos e]
            obtain ⟨e, ef⟩ := e
            subst e ef
            exact (up_v u2).symm
          · rw [if_neg e]
            have st : xi1 c f = nl c f := by
              by_cases ec : c = 6
              · subst ec
                exact up_f u2 (fun h => e ⟨rfl, h⟩)
              · exact congrFun (up_k u2 ec) f
            rw [st]
            exact lk c f
    have c2 : v = 2 := Int32.toInt_inj.mp (by
      have a0 : ¬ v.toInt = (0 : Int32).toInt := fun e => c0 (Int32.toInt_inj.mp e)
      have a1 : ¬ v.toInt = (1 : Int32).toInt := fun e => c1 (Int32.toInt_inj.mp e)
      omega)
    rw [if_neg c0, if_neg c1] at h1
    have jv : v.toNatClampNeg = 2 := by rw [c2]; rfl
    by_cases e0 : mux 20 5 = 0
    · rw [if_pos e0] at h1
      exact no 2 jv (by decide) cv e0 h1
    · rw [if_neg e0] at h1
      have nk : ¬ mum 15 (64 * v.toNatClampNeg) = -9 := by
        rw [jv]
        intro e9
        rcases hA 2 (by decide) with a | ⟨a, b, -⟩
        · exact e0 a.1
        · rw [e9] at b
          exact absurd b.1 (by decide)
      obtain ⟨g1, g2⟩ := fm_on cv nk
      rw [p_fst h2] at g1
      rw [p_snd h2] at g2
      rw [jv] at g1 g2
      have lk := fx_like_5_20 (mu := mux)
      generalize F_sx_Standing_beLike_5_20 mux = nl at h1 lk
      obtain ⟨u1, u2⟩ := Prod.mk.inj h1
      have u2 := u2.symm
      have k5 : xi1 5 3 = mux 20 3 := by
        rw [congrFun (up_k u2 (by decide)) 3, lk, if_neg (by decide), if_pos (by decide)]
      rw [u2] at u1
      have d3 : mux 20 3 = mum 15 (64 * 2) := by
        rcases hA 2 (by decide) with a | ⟨a, b, c, -⟩
        · exact absurd a.1 e0
        · exact c
      refine ⟨?_, on_core (J := 2) okm (by decide) hC0 e0 (fun c f => ?_) g2⟩
      · rw [u1, k5, g1]; exact d3
      · by_cases e : c = 6 ∧ f = 1
        · rw [if_pos e]
          obtain ⟨e, ef⟩ := e
          subst e ef
          exact (up_v u2).symm
        · rw [if_neg e]
          have st : xi1 c f = nl c f := by
            by_cases ec : c = 6
            · subst ec
              exact up_f u2 (fun h => e ⟨rfl, h⟩)
            · exact congrFun (up_k u2 ec) f
          rw [st]
          exact lk c f
  · unfold F_qm_on at h2
    rw [if_neg (fun e => cv (fx_isPlace.mp e))] at h1
    rw [if_neg (fun e => by have := fm_in.mp e; omega)] at h2
    cases h1
    cases h2
    exact ⟨rfl, hC0⟩

