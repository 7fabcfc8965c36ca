-- not by rfl alone: else the kernel would unfold a loop before the let
theorem letv_eq {α β : Type} (e : α) (K : α → β) : LETV e K = K e := of_eq_true (eq_self (K e))
theorem letp_eq {α γ β : Type} (p : α × γ) (K : α → γ → β) : LETP p K = K p.1 p.2 := of_eq_true (eq_self (K p.1 p.2))
-- ===== the TEXTS of both sides alike =====
def simT (mux mum : Nat → Nat → Int32) : Prop := ∀ t : Nat, t < 4 → ((mux (14 + t) 1).toInt < 0 ∧ (mum 5 t).toInt < 0) ∨ (0 ≤ (mux (14 + t) 1).toInt ∧ mux (14 + t) 1 = mum 5 t ∧ ∀ i : Nat, i < 80 → mux (27 + t) i = mum 6 (80 * t + i))
theorem simT_of {mux mum xi1 xi2 : Nat → Nat → Int32} (h : simT mux mum) (h1 : ∀ k f : Nat, gpX k f = 1 → xi1 k f = mux k f) (h2 : ∀ k f : Nat, gpM k f = 1 → xi2 k f = mum k f) : simT xi1 xi2 := by
  intro t ht
  have e1 : xi1 (14 + t) 1 = mux (14 + t) 1 := h1 _ _ (gpX_text (by omega) (by omega))
  have e2 : xi2 5 t = mum 5 t := h2 _ _ rfl
  rw [e1, e2]
  rcases h t ht with ⟨a, b⟩ | ⟨a, b, c⟩
  · exact Or.inl ⟨a, b⟩
  · refine Or.inr ⟨a, b, fun i hi => ?_⟩
    rw [h1 _ _ (gpX_bytes (by omega) (by omega)), h2 6 _ rfl]
    exact c i hi
theorem simT_keep {m1 m2 : Nat} {mux mum xi1 xi2 : Nat → Nat → Int32} (hm1 : Nat.testBit m1 1 = true) (hm2 : Nat.testBit m2 1 = true) (h1 : ∀ k f : Nat, Nat.testBit m1 (gpX k f) = true → xi1 k f = mux k f) (h2 : ∀ k f : Nat, Nat.testBit m2 (gpM k f) = true → xi2 k f = mum k f) (h : simT mux mum) : simT xi1 xi2 :=
  simT_of h (fun k f e => h1 k f (by rw [e]; exact hm1)) (fun k f e => h2 k f (by rw [e]; exact hm2))
theorem simT_0 : simT mu0X mu0M := by
  intro t ht
  have key : ∀ t : Nat, t < 4 → (mu0X (14 + t) 1).toInt < 0 ∧ (mu0M 5 t).toInt < 0 := by decide +kernel
  exact Or.inl (key t ht)
theorem vv_lt {a b : Int32} : a < b ↔ a.toInt < b.toInt := Int32.lt_iff_toInt_lt
theorem vv_ge {a b : Int32} : a ≥ b ↔ b.toInt ≤ a.toInt := Int32.le_iff_toInt_le
theorem vv_le {a b : Int32} : a ≤ b ↔ a.toInt ≤ b.toInt := Int32.le_iff_toInt_le
theorem vv_gt {a b : Int32} : a > b ↔ b.toInt < a.toInt := Int32.lt_iff_toInt_lt
theorem fx_isText {v : Int32} : F_sx_isText v = 1 ↔ 0 ≤ v.toInt ∧ v.toInt ≤ 3 := by
  have h0 : (0 : Int32).toInt = 0 := rfl
  have h4 : (4 : Int32).toInt = 4 := rfl
  unfold F_sx_isText
  by_cases c1 : v < (0 : Int32)
  · rw [if_pos c1]
    have c2 := vv_lt.mp c1
    exact ⟨fun h => absurd h (by decide), fun h => by omega⟩
  · rw [if_neg c1]
    have c2 : ¬ v.toInt < (0 : Int32).toInt := fun h => c1 (vv_lt.mpr h)
    by_cases c3 : v ≥ (4 : Int32)
    · rw [if_pos c3]
      have c4 := vv_ge.mp c3
      exact ⟨fun h => absurd h (by decide), fun h => by omega⟩
    · rw [if_neg c3]
      have c4 : ¬ (4 : Int32).toInt ≤ v.toInt := fun h => c3 (vv_ge.mpr h)
      exact ⟨fun _ => ⟨by omega, by omega⟩, fun _ => rfl⟩
theorem fm_in {a b c : Int32} : F_sm_in a b c = 1 ↔ b.toInt ≤ a.toInt ∧ a.toInt ≤ c.toInt := by
  unfold F_sm_in
  by_cases c1 : a < b
  · rw [if_pos c1]
    have c2 := vv_lt.mp c1
    exact ⟨fun h => absurd h (by decide), fun h => by omega⟩
  · rw [if_neg c1]
    have c2 : ¬ a.toInt < b.toInt := fun h => c1 (vv_lt.mpr h)
    by_cases c3 : a > c
    · rw [if_pos c3]
      have c4 := vv_gt.mp c3
      exact ⟨fun h => absurd h (by decide), fun h => by omega⟩
    · rw [if_neg c3]
      have c4 : ¬ c.toInt < a.toInt := fun h => c3 (vv_gt.mpr h)
      exact ⟨fun _ => ⟨by omega, by omega⟩, fun _ => rfl⟩
theorem fm_isText {v : Int32} : F_sm_isText v = 1 ↔ 0 ≤ v.toInt ∧ v.toInt ≤ 3 := by
  have h := fm_in (a := v) (b := 0) (c := 3)
  have h0 : (0 : Int32).toInt = 0 := rfl
  have h3 : (3 : Int32).toInt = 3 := rfl
  rw [h0, h3] at h
  unfold F_sm_isText
  by_cases c1 : F_sm_in v 0 3 = 1
  · rw [if_pos c1]
    exact ⟨fun _ => h.mp c1, fun _ => rfl⟩
  · rw [if_neg c1]
    exact ⟨fun e => absurd e (by decide), fun e => absurd (h.mpr e) c1⟩
theorem fx_found {mu : Nat → Nat → Int32} {w : Int32} : (F_sx_found mu w).1 = -3 ∧ ∀ k f : Nat, k ≠ 0 → k ≠ 7 → (F_sx_found mu w).2 k f = mu k f := by
  refine ⟨rfl, fun k f h0 h7 => ?_⟩
  simp [F_sx_found, letv_eq, va_up, h0, h7]
theorem fm_meet {mu : Nat → Nat → Int32} {w : Int32} : (F_sm_meet mu w).1 = -3 ∧ (∀ k f : Nat, k ≠ 0 → k ≠ 1 → (F_sm_meet mu w).2 k f = mu k f) ∧ ∀ f : Nat, f ≠ 0 → (F_sm_meet mu w).2 0 f = mu 0 f := by
  refine ⟨rfl, fun k f h0 h7 => ?_, fun f h0 => ?_⟩
  · simp [F_sm_meet, letv_eq, va_up, h0, h7]
  · simp [F_sm_meet, letv_eq, va_up, upd, h0]
theorem fx_foundT {mu : Nat → Nat → Int32} {w : Int32} : ∀ k f : Nat, gpX k f = 1 → (F_sx_found mu w).2 k f = mu k f := fun k f h => fx_found.2 k f (fun e => by subst e; cases h) (fun e => by subst e; cases h)
theorem fm_meetT {mu : Nat → Nat → Int32} {w : Int32} : ∀ k f : Nat, gpM k f = 1 → (F_sm_meet mu w).2 k f = mu k f := fun k f h => fm_meet.2.1 k f (fun e => by
  subst e
  unfold gpM at h
  rw [if_pos rfl] at h
  revert h
  repeat' split
  all_goals decide) (fun e => by subst e; cases h)
theorem lp_fillB {ka : Nat} {v : Int32} : ∀ (n : Nat) (i : Int32) (nu : Nat → Nat → Int32), 0 ≤ i.toInt → i.toInt ≤ 80 → (80 - i.toInt).toNat < n → ∀ k f : Nat, L_sj_fillB_5_0 ka v n i nu k f = if k = ka ∧ i.toNatClampNeg ≤ f ∧ f < 80 then vp_nar .byte v else nu k f := by
  intro n
  induction n with
  | zero => intro i nu h1 h2 h3; exact absurd h3 (Nat.not_lt_zero _)
  | succ n ih =>
    intro i nu h1 h2 h3 k f
    have h80 : (80 : Int32).toInt = 80 := rfl
    have hc := tC_of h1
    unfold L_sj_fillB_5_0
    by_cases c1 : i ≥ (80 : Int32)
    · rw [if_pos c1]
      have c2 := vv_ge.mp c1
      rw [if_neg (by omega)]
    · rw [if_neg c1]
      have c2 : ¬ (80 : Int32).toInt ≤ i.toInt := fun h => c1 (vv_ge.mpr h)
      have ai : (i + 1 : Int32).toInt = i.toInt + 1 := tI_add rfl (rfl : (1 : Int32).toInt = 1) (by omega) (by omega)
      have hc1 := tC_of (v := i + 1) (by omega)
      simp only [letv_eq]
      rw [ih (i + 1) _ (by omega) (by omega) (by omega) k f]
      by_cases e1 : k = ka
      · subst e1
        by_cases e2 : f = i.toNatClampNeg
        · subst e2
          rw [if_neg (by omega), if_pos (by omega)]
          simp [va_up, upd]
        · have e3 : va_up nu k (upd (nu k) i.toNatClampNeg (vp_nar .byte v)) k f = nu k f := by simp [va_up, upd, e2]
          rw [e3]
          by_cases c5 : i.toNatClampNeg ≤ f ∧ f < 80
          · rw [if_pos (by omega), if_pos (by omega)]
          · rw [if_neg (by omega), if_neg (by omega)]
      · rw [if_neg (fun h => e1 h.1), if_neg (fun h => e1 h.1)]
        simp [va_up, e1]
theorem ix_80 {t i : Int32} (ht : 0 ≤ t.toInt ∧ t.toInt ≤ 3) (hi : 0 ≤ i.toInt ∧ i.toInt < 80) : (80 * t + i : Int32).toNatClampNeg = 80 * t.toNatClampNeg + i.toNatClampNeg := by
  have a1 : (80 * t : Int32).toInt = 80 * t.toInt := tI_mul (rfl : (80 : Int32).toInt = 80) rfl (by omega) (by omega)
  have a2 : (80 * t + i : Int32).toInt = 80 * t.toInt + i.toInt := tI_add a1 rfl (by omega) (by omega)
  have c1 := tC_of (v := 80 * t + i) (by omega)
  have c2 := tC_of ht.1
  have c3 := tC_of hi.1
  omega
theorem lp_mtext {vn t : Int32} (ht : 0 ≤ t.toInt ∧ t.toInt ≤ 3) : ∀ (n : Nat) (i : Int32) (nu : Nat → Nat → Int32), 0 ≤ i.toInt → i.toInt ≤ 80 → (80 - i.toInt).toNat < n → (L_qm_text_34_0 vn t n i nu).1 = vn ∧ ∀ k f : Nat, (L_qm_text_34_0 vn t n i nu).2 k f = if k = 6 ∧ 80 * t.toNatClampNeg + i.toNatClampNeg ≤ f ∧ f < 80 * t.toNatClampNeg + 80 then 32 else nu k f := by
  intro n
  induction n with
  | zero => intro i nu h1 h2 h3; exact absurd h3 (Nat.not_lt_zero _)
  | succ n ih =>
    intro i nu h1 h2 h3
    have h80 : (80 : Int32).toInt = 80 := rfl
    have hc := tC_of h1
    unfold L_qm_text_34_0
    by_cases c1 : i ≥ (80 : Int32)
    · rw [if_pos c1]
      have c2 := vv_ge.mp c1
      refine ⟨rfl, fun k f => ?_⟩
      rw [if_neg (by omega)]
    · rw [if_neg c1]
      have c2 : ¬ (80 : Int32).toInt ≤ i.toInt := fun h => c1 (vv_ge.mpr h)
      have ai : (i + 1 : Int32).toInt = i.toInt + 1 := tI_add rfl (rfl : (1 : Int32).toInt = 1) (by omega) (by omega)
      have hc1 := tC_of (v := i + 1) (by omega)
      simp only [letv_eq]
      obtain ⟨g1, g2⟩ := ih (i + 1) (va_up nu 6 (upd (nu 6) (80 * t + i : Int32).toNatClampNeg 32)) (by omega) (by omega) (by omega)
      refine ⟨g1, fun k f => ?_⟩
      rw [g2 k f, ix_80 ht ⟨by omega, by omega⟩]
      by_cases e1 : k = 6
      · subst e1
        by_cases e2 : f = 80 * t.toNatClampNeg + i.toNatClampNeg
        · subst e2
          rw [if_neg (by omega), if_pos (by omega)]
          simp [va_up, upd]
        · have e3 : va_up nu 6 (upd (nu 6) (80 * t.toNatClampNeg + i.toNatClampNeg) 32) 6 f = nu 6 f := by simp [va_up, upd, e2]
          rw [e3]
          by_cases c5 : 80 * t.toNatClampNeg + i.toNatClampNeg ≤ f ∧ f < 80 * t.toNatClampNeg + 80
          · rw [if_pos (by omega), if_pos (by omega)]
          · rw [if_neg (by omega), if_neg (by omega)]
      · rw [if_neg (fun h => e1 h.1), if_neg (fun h => e1 h.1)]
        simp [va_up, e1]
theorem fx_blanks {mu : Nat → Nat → Int32} {t : Nat} {n : Int32} : ∀ k f : Nat, F_sx_beBlanks mu (14 + t) n k f = if k = 14 + t ∧ f = 1 then n else if k = 27 + t ∧ f < 80 then 32 else mu k f := by
  intro k f
  have h32 : vp_nar .byte (32 : Int32) = 32 := by rw [vp_nar_byte]; rfl
  have key := lp_fillB (ka := 14 + t + 13) (v := 32) 83 (0 : Int32) mu (by decide) (by decide) (by decide)
  have z0 : (0 : Int32).toNatClampNeg = 0 := rfl
  simp only [F_sx_beBlanks, F_sj_fillB, letv_eq]
  by_cases e1 : k = 14 + t
  · subst e1
    by_cases e2 : f = 1
    · subst e2
      simp [va_up, upd]
    · rw [if_neg (fun h => e2 h.2), if_neg (fun h => by omega)]
      have e3 := key (14 + t) f
      rw [if_neg (fun h => by omega)] at e3
      simp [va_up, upd, e2, e3]
  · rw [if_neg (fun h => e1 h.1)]
    have e3 := key k f
    rw [h32, z0] at e3
    have e4 : va_up (L_sj_fillB_5_0 (14 + t + 13) 32 83 0 mu) (14 + t) (upd (L_sj_fillB_5_0 (14 + t + 13) 32 83 0 mu (14 + t)) 1 n) k f = L_sj_fillB_5_0 (14 + t + 13) 32 83 0 mu k f := by simp [va_up, e1]
    rw [e4, e3]
    by_cases c5 : k = 27 + t ∧ f < 80
    · rw [if_pos c5, if_pos (by omega)]
    · rw [if_neg c5, if_neg (by omega)]
theorem refT_of {mux mum : Nat → Nat → Int32} {t : Int32} (h : simT mux mum) : ((0 ≤ t.toInt ∧ t.toInt ≤ 3) ∧ 0 ≤ (mum 5 t.toNatClampNeg).toInt ∧ F_sx_refusedText mux t = (0, mux) ∧ F_sm_askedText mum t = (0, mum)) ∨ (F_sx_refusedText mux t = (-3, (F_sx_found mux 1).2) ∧ F_sm_askedText mum t = (-3, (F_sm_meet mum 1).2)) ∨ (F_sx_refusedText mux t = (-1, mux) ∧ F_sm_askedText mum t = (-1, mum)) := by
  have z0 : (0 : Int32).toInt = 0 := rfl
  unfold F_sx_refusedText F_sm_askedText
  by_cases ct : 0 ≤ t.toInt ∧ t.toInt ≤ 3
  · rw [if_pos (fx_isText.mpr ct), if_pos (fm_isText.mpr ct)]
    have ht := tC_of ct.1
    simp only [letv_eq, letp_eq]
    rcases h t.toNatClampNeg (by omega) with ⟨a, b⟩ | ⟨a, b, c⟩
    · have m1 : F_sx_Text_isMissing mux (14 + t.toNatClampNeg) = 1 := by
        simp only [F_sx_Text_isMissing, letv_eq]
        rw [if_neg (fun e => by have := vv_ge.mp e; omega)]
      have m2 : ¬ mum 5 t.toNatClampNeg ≥ (0 : Int32) := fun e => by have := vv_ge.mp e; omega
      rw [if_pos m1, if_neg m2]
      exact Or.inr (Or.inl ⟨rfl, rfl⟩)
    · have m1 : ¬ F_sx_Text_isMissing mux (14 + t.toNatClampNeg) = 1 := by
        simp only [F_sx_Text_isMissing, letv_eq]
        rw [if_pos (vv_ge.mpr (by omega))]
        decide
      have lb : 0 ≤ (mum 5 t.toNatClampNeg).toInt := by rw [← b]; exact a
      have m2 : mum 5 t.toNatClampNeg ≥ (0 : Int32) := vv_ge.mpr (by omega)
      rw [if_neg m1, if_pos m2]
      exact Or.inl ⟨ct, lb, rfl, rfl⟩
  · rw [if_neg (fun e => ct (fx_isText.mp e)), if_neg (fun e => ct (fm_isText.mp e))]
    exact Or.inr (Or.inr ⟨rfl, rfl⟩)
theorem p_fst {α β : Type} {a : α} {b : β} {p : α × β} (h : (a, b) = p) : p.1 = a := by rw [← h]
theorem p_snd {α β : Type} {a : α} {b : β} {p : α × β} (h : (a, b) = p) : p.2 = b := by rw [← h]
theorem simT_text {mux mum xi1 xi2 : Nat → Nat → Int32} {t n r1 r2 : Int32} (h : simT mux mum) (h1 : (r1, xi1) = F_qx_text mux t n) (h2 : (r2, xi2) = F_qm_text mum t n) : r1 = r2 ∧ simT xi1 xi2 := by
  have h80 : (80 : Int32).toInt = 80 := rfl
  have h0 : (0 : Int32).toInt = 0 := rfl
  unfold F_qx_text at h1
  unfold F_qm_text at h2
  by_cases ct : 0 ≤ t.toInt ∧ t.toInt ≤ 3
  · have htn := tC_of ct.1
    rw [if_pos (fx_isText.mpr ct)] at h1
    rw [if_pos (fm_isText.mpr ct)] at h2
    by_cases c1 : n ≤ (80 : Int32)
    · rw [if_pos c1] at h1 h2
      have c2 := vv_le.mp c1
      by_cases c3 : n ≥ (0 : Int32)
      · rw [if_pos c3] at h1 h2
        have c4 := vv_ge.mp c3
        simp only [letv_eq] at h1 h2
        obtain ⟨g1, g2⟩ := lp_mtext (vn := n) ct 83 (0 : Int32) (va_up mum 5 (upd (mum 5) t.toNatClampNeg n)) (by decide) (by decide) (by decide)
        rw [p_fst h2] at g1
        rw [p_snd h2] at g2
        have z0 : (0 : Int32).toNatClampNeg = 0 := rfl
        rw [z0] at g2
        have e1 : r1 = n := (Prod.mk.inj h1).1
        have e2 : xi1 = F_sx_beBlanks mux (14 + t.toNatClampNeg) n := (Prod.mk.inj h1).2
        refine ⟨e1.trans g1.symm, fun s hs => ?_⟩
        have ex := fx_blanks (mu := mux) (t := t.toNatClampNeg) (n := n)
        rw [← e2] at ex
        by_cases es : s = t.toNatClampNeg
        · subst es
          have a1 : xi1 (14 + t.toNatClampNeg) 1 = n := by rw [ex, if_pos ⟨rfl, rfl⟩]
          have a2 : xi2 5 t.toNatClampNeg = n := by
            rw [g2, if_neg (fun e => by omega)]
            simp [va_up, upd]
          refine Or.inr ⟨by rw [a1]; omega, by rw [a1, a2], fun i hi => ?_⟩
          rw [ex, if_neg (fun e => by omega), if_pos ⟨rfl, hi⟩, g2, if_pos ⟨rfl, by omega, by omega⟩]
        · have a1 : xi1 (14 + s) 1 = mux (14 + s) 1 := by rw [ex, if_neg (fun e => by omega), if_neg (fun e => by omega)]
          have a2 : xi2 5 s = mum 5 s := by
            rw [g2, if_neg (fun e => by omega)]
            simp [va_up, upd, es]
          rw [a1, a2]
          rcases h s hs with ⟨a, b⟩ | ⟨a, b, c⟩
          · exact Or.inl ⟨a, b⟩
          · refine Or.inr ⟨a, b, fun i hi => ?_⟩
            have a3 : xi1 (27 + s) i = mux (27 + s) i := by rw [ex, if_neg (fun e => by omega), if_neg (fun e => by omega)]
            have a4 : xi2 6 (80 * s + i) = mum 6 (80 * s + i) := by
              rw [g2, if_neg (fun e => by omega)]
              simp [va_up]
            rw [a3, a4]
            exact c i hi
      · rw [if_neg c3] at h1 h2
        simp only [letp_eq] at h1 h2
        have e1 : r1 = (F_sx_found mux 5).1 := (Prod.mk.inj h1).1
        have e2 : xi1 = (F_sx_found mux 5).2 := (Prod.mk.inj h1).2
        have e3 : r2 = (F_sm_meet mum 5).1 := (Prod.mk.inj h2).1
        have e4 : xi2 = (F_sm_meet mum 5).2 := (Prod.mk.inj h2).2
        rw [e1, e2, e3, e4]
        exact ⟨fx_found.1.trans fm_meet.1.symm, simT_of h fx_foundT fm_meetT⟩
    · rw [if_neg c1] at h1 h2
      cases h1
      cases h2
      exact ⟨rfl, h⟩
  · rw [if_neg (fun e => ct (fx_isText.mp e))] at h1
    rw [if_neg (fun e => ct (fm_isText.mp e))] at h2
    cases h1
    cases h2
    exact ⟨rfl, h⟩
theorem simT_put {mux mum xi1 xi2 : Nat → Nat → Int32} {t i v r1 r2 : Int32} (okm : okR loM hiM mum) (h : simT mux mum) (h1 : (r1, xi1) = F_qx_put mux t i v) (h2 : (r2, xi2) = F_qm_put mum t i v) : r1 = r2 ∧ simT xi1 xi2 := by
  have h0 : (0 : Int32).toInt = 0 := rfl
  have n3 : ¬ (-3 : Int32) = 0 := by decide
  have n1 : ¬ (-1 : Int32) = 0 := by decide
  unfold F_qx_put at h1
  unfold F_qm_put at h2
  rcases refT_of (t := t) h with ⟨ct, lb, q1, q2⟩ | ⟨q1, q2⟩ | ⟨q1, q2⟩
  · rw [q1] at h1
    rw [q2] at h2
    have ht := tC_of ct.1
    have hlt : t.toNatClampNeg < 4 := by omega
    rcases h t.toNatClampNeg hlt with ⟨a, b⟩ | ⟨a, b, c⟩
    · omega
    · simp only [letv_eq, letp_eq] at h1 h2
      rw [if_pos trivial] at h1
      rw [if_pos trivial] at h2
      have bd := (okm 5 t.toNatClampNeg).2
      have bd : (mum 5 t.toNatClampNeg).toInt ≤ 80 := bd
      have as : (mum 5 t.toNatClampNeg - 1 : Int32).toInt = (mum 5 t.toNatClampNeg).toInt - 1 := tI_sub rfl (rfl : (1 : Int32).toInt = 1) (by omega) (by omega)
      by_cases ci : 0 ≤ i.toInt ∧ i.toInt < (mum 5 t.toNatClampNeg).toInt
      · have w1 : ¬ i < (0 : Int32) := fun e => by have := vv_lt.mp e; omega
        have w2 : i < mux (14 + t.toNatClampNeg) 1 := vv_lt.mpr (by rw [b]; exact ci.2)
        have w3 : F_sm_in i 0 (mum 5 t.toNatClampNeg - 1) = 1 := fm_in.mpr ⟨by omega, by omega⟩
        rw [if_neg w1, if_pos w2] at h1
        rw [if_pos w3] at h2
        have hi := tC_of ci.1
        have ix := ix_80 (t := t) (i := i) ct ⟨by omega, by omega⟩
        rw [ix] at h2
        have nb : vp_nar .byte v.toInt8.toInt32 = v.toInt8.toInt32 := by rw [vp_nar_byte]; simp
        rw [nb] at h1
        have e1 : r1 = mux (14 + t.toNatClampNeg + 13) i.toNatClampNeg + 1000 := (Prod.mk.inj h1).1
        have e2 : xi1 = va_up mux (14 + t.toNatClampNeg + 13) (upd (mux (14 + t.toNatClampNeg + 13)) i.toNatClampNeg v.toInt8.toInt32) := (Prod.mk.inj h1).2
        have e3 : r2 = mum 6 (80 * t.toNatClampNeg + i.toNatClampNeg) + 1000 := (Prod.mk.inj h2).1
        have e4 : xi2 = va_up mum 6 (upd (mum 6) (80 * t.toNatClampNeg + i.toNatClampNeg) v.toInt8.toInt32) := (Prod.mk.inj h2).2
        have e27 : 14 + t.toNatClampNeg + 13 = 27 + t.toNatClampNeg := by omega
        rw [e27] at e1 e2
        refine ⟨by rw [e1, e3, c i.toNatClampNeg (by omega)], fun s hs => ?_⟩
        have a1 : xi1 (14 + s) 1 = mux (14 + s) 1 := by
          rw [e2]
          simp [va_up, show ¬ 14 + s = 27 + t.toNatClampNeg by omega]
        have a2 : xi2 5 s = mum 5 s := by
          rw [e4]
          simp [va_up]
        rw [a1, a2]
        rcases h s hs with ⟨a, b⟩ | ⟨a, b, c⟩
        · exact Or.inl ⟨a, b⟩
        · refine Or.inr ⟨a, b, fun j hj => ?_⟩
          by_cases es : s = t.toNatClampNeg ∧ j = i.toNatClampNeg
          · obtain ⟨rfl, rfl⟩ := es
            rw [e2, e4]
            simp [va_up, upd]
          · have a3 : xi1 (27 + s) j = mux (27 + s) j := by
              rw [e2]
              by_cases es1 : s = t.toNatClampNeg
              · subst es1
                simp [va_up, upd, show ¬ j = i.toNatClampNeg from fun e => es ⟨rfl, e⟩]
              · simp [va_up, es1]
            have a4 : xi2 6 (80 * s + j) = mum 6 (80 * s + j) := by
              rw [e4]
              simp [va_up, upd, show ¬ 80 * s + j = 80 * t.toNatClampNeg + i.toNatClampNeg by omega]
            rw [a3, a4]
            exact c j hj
      · have w3 : ¬ F_sm_in i 0 (mum 5 t.toNatClampNeg - 1) = 1 := fun e => by have := fm_in.mp e; omega
        rw [if_neg w3] at h2
        have e3 : r2 = (F_sm_meet mum 2).1 := (Prod.mk.inj h2).1
        have e4 : xi2 = (F_sm_meet mum 2).2 := (Prod.mk.inj h2).2
        have e12 : (r1, xi1) = ((F_sx_found mux 2).1, (F_sx_found mux 2).2) := by
          rw [h1]
          by_cases w1 : i < (0 : Int32)
          · rw [if_pos w1]
          · have w4 : ¬ i.toInt < (0 : Int32).toInt := fun e => w1 (vv_lt.mpr e)
            rw [if_neg w1, if_neg (fun e => by have := vv_lt.mp e; rw [b] at this; omega)]
        have e1 : r1 = (F_sx_found mux 2).1 := (Prod.mk.inj e12).1
        have e2 : xi1 = (F_sx_found mux 2).2 := (Prod.mk.inj e12).2
        rw [e1, e2, e3, e4]
        exact ⟨fx_found.1.trans fm_meet.1.symm, simT_of h fx_foundT fm_meetT⟩
  · rw [q1] at h1
    rw [q2] at h2
    simp only [letp_eq] at h1 h2
    rw [if_neg n3] at h1 h2
    have e1 : r1 = -3 := (Prod.mk.inj h1).1
    have e2 : xi1 = (F_sx_found mux 1).2 := (Prod.mk.inj h1).2
    have e3 : r2 = -3 := (Prod.mk.inj h2).1
    have e4 : xi2 = (F_sm_meet mum 1).2 := (Prod.mk.inj h2).2
    rw [e1, e2, e3, e4]
    exact ⟨rfl, simT_of h fx_foundT fm_meetT⟩
  · rw [q1] at h1
    rw [q2] at h2
    simp only [letp_eq] at h1 h2
    rw [if_neg n1] at h1 h2
    cases h1
    cases h2
    exact ⟨rfl, h⟩

