-- not by rfl alone: else the kernel would unfold a loop before the let
theorem letv_eq {α β : Type} (e : α) (K : α → β) : LETV e K = K e := of_eq_true (eq_self (K e))
theorem letp_eq {α γ β : Type} (p : α × γ) (K : α → γ → β) : LETP p K = K p.1 p.2 := of_eq_true (eq_self (K p.1 p.2))
-- ===== the TEXTS of both sides alike =====
def simT (mux mum : Nat → Nat → Int32) : Prop := ∀ t : Nat, t < 4 → ((mux (14 + t) 1).toInt < 0 ∧ (mum 5 t).toInt < 0) ∨ (0 ≤ (mux (14 + t) 1).toInt ∧ mux (14 + t) 1 = mum 5 t ∧ ∀ i : Nat, i < 80 → mux (27 + t) i = mum 6 (80 * t + i))
theorem simT_of {mux mum xi1 xi2 : Nat → Nat → Int32} (h : simT mux mum) (h1 : ∀ k f : Nat, gpX k f = 1 → xi1 k f = mux k f) (h2 : ∀ k f : Nat, gpM k f = 1 → xi2 k f = mum k f) : simT xi1 xi2 := by
  intro t ht
  have e1 : xi1 (14 + t) 1 = mux (14 + t) 1 := h1 _ _ (gpX_text (by omega) (by omega))
  have e2 : xi2 5 t = mum 5 t := h2 _ _ rfl
  rw [e1, e2]
  rcases h t ht with ⟨a, b⟩ | ⟨a, b, c⟩
  · exact Or.inl ⟨a, b⟩
  · refine Or.inr ⟨a, b, fun i hi => ?_⟩
    rw [h1 _ _ (gpX_bytes (by omega) (by omega)), h2 6 _ rfl]
    exact c i hi
theorem simT_keep {m1 m2 : Nat} {mux mum xi1 xi2 : Nat → Nat → Int32} (hm1 : Nat.testBit m1 1 = true) (hm2 : Nat.testBit m2 1 = true) (h1 : ∀ k f : Nat, Nat.testBit m1 (gpX k f) = true → xi1 k f = mux k f) (h2 : ∀ k f : Nat, Nat.testBit m2 (gpM k f) = true → xi2 k f = mum k f) (h : simT mux mum) : simT xi1 xi2 :=
  simT_of h (fun k f e => h1 k f (by rw [e]; exact hm1)) (fun k f e => h2 k f (by rw [e]; exact hm2))
theorem simT_0 : simT mu0X mu0M := by
  intro t ht
  have key : ∀ t : Nat, t < 4 → (mu0X (14 + t) 1).toInt < 0 ∧ (mu0M 5 t).toInt < 0 := by decide +kernel
  exact Or.inl (key t ht)
theorem vv_lt {a b : Int32} : a < b ↔ a.toInt < b.toInt := Int32.lt_iff_toInt_lt
theorem vv_ge {a b : Int32} : a ≥ b ↔ b.toInt ≤ a.toInt := Int32.le_iff_toInt_le
theorem vv_le {a b : Int32} : a ≤ b ↔ a.toInt ≤ b.toInt := Int32.le_iff_toInt_le
theorem vv_gt {a b : Int32} : a > b ↔ b.toInt < a.toInt := Int32.lt_iff_toInt_lt
theorem fx_isText {v : Int32} : F_sx_isText v = 1 ↔ 0 ≤ v.toInt ∧ v.toInt ≤ 3 := by
  have h0 : (0 : Int32).toInt = 0 := rfl
  have h4 : (4 : Int32).toInt = 4 := rfl
  unfold F_sx_isText
  by_cases c1 : v < (0 : Int32)
  · rw [if_pos c1]
    have c2 := vv_lt.mp c1
    exact ⟨fun h => absurd h (by decide), fun h => by omega⟩
  · rw [if_neg c1]
    have c2 : ¬ v.toInt < (0 : Int32).toInt := fun h => c1 (vv_lt.mpr h)
    by_cases c3 : v ≥ (4 : Int32)
    · rw [if_pos c3]
      have c4 := vv_ge.mp c3
      exact ⟨fun h => absurd h (by decide), fun h => by omega⟩
    · rw [if_neg c3]
      have c4 : ¬ (4 : Int32).toInt ≤ v.toInt := fun h => c3 (vv_ge.mpr h)
      exact ⟨fun _ => ⟨by omega, by omega⟩, fun _ => rfl⟩
theorem fm_in {a b c : Int32} : F_sm_in a b c = 1 ↔ b.toInt ≤ a.toInt ∧ a.toInt ≤ c.toInt := by
  unfold F_sm_in
  by_cases c1 : a < b
  · rw [if_pos c1]
    have c2 := vv_lt.mp c1
    exact ⟨fun h => absurd h (by decide), fun h => by omega⟩
  · rw [if_neg c1]
    have c2 : ¬ a.toInt < b.toInt := fun h => c1 (vv_lt.mpr h)
    by_cases c3 : a > c
    · rw [if_pos c3]
      have c4 := vv_gt.mp c3
      exact ⟨fun h => absurd h (by decide), fun h => by omega⟩
    · rw [if_neg c3]
      have c4 : ¬ c.toInt < a.toInt := fun h => c3 (vv_gt.mpr h)
      exact ⟨fun _ => ⟨by omega, by omega⟩, fun _ => rfl⟩
theorem fm_isText {v : Int32} : F_sm_isText v = 1 ↔ 0 ≤ v.toInt ∧ v.toInt ≤ 3 := by
  have h := fm_in (a := v) (b := 0) (c := 3)
  have h0 : (0 : Int32).toInt = 0 := rfl
  have h3 : (3 : Int32).toInt = 3 := rfl
  rw [h0, h3] at h
  unfold F_sm_isText
  by_cases c1 : F_sm_in v 0 3 = 1
  · rw [if_pos c1]
    exact ⟨fun _ => h.mp c1, fun _ => rfl⟩
  · rw [if_neg c1]
    exact ⟨fun e => absurd e (by decide), fun e => absurd (h.mpr e) c1⟩
theorem fx_found {mu : Nat → Nat → Int32} {w : Int32} : (F_sx_found mu w).1 = -3 ∧ ∀ k f : Nat, k ≠ 0 → k ≠ 7 → (F_sx_found mu w).2 k f = mu k f := by
  refine ⟨rfl, fun k f h0 h7 => ?_⟩
  simp [F_sx_found, letv_eq, va_up, h0, h7]
theorem fm_meet {mu : Nat → Nat → Int32} {w : Int32} : (F_sm_meet mu w).1 = -3 ∧ (∀ k f : Nat, k ≠ 0 → k ≠ 1 → (F_sm_meet mu w).2 k f = mu k f) ∧ ∀ f : Nat, f ≠ 0 → (F_sm_meet mu w).2 0 f = mu 0 f := by
  refine ⟨rfl, fun k f h0 h7 => ?_, fun f h0 => ?_⟩
  · simp [F_sm_meet, letv_eq, va_up, h0, h7]
  · simp [F_sm_meet, letv_eq, va_up, upd, h0]
theorem fx_foundT {mu : Nat → Nat → Int32} {w : Int32} : ∀ k f : Nat, gpX k f = 1 → (F_sx_found mu w).2 k f = mu k f := fun k f h => fx_found.2 k f (fun e => by subst e; cases h) (fun e => by subst e; cases h)
theorem fm_meetT {mu : Nat → Nat → Int32} {w : Int32} : ∀ k f : Nat, gpM k f = 1 → (F_sm_meet mu w).2 k f = mu k f := fun k f h => fm_meet.2.1 k f (fun e => by
  subst e
  unfold gpM at h
  rw [if_pos rfl] at h
  revert h
  repeat' split
  all_goals decide) (fun e => by subst e; cases h)
theorem lp_fillB {ka : Nat} {v : Int32} : ∀ (n : Nat) (i : Int32) (nu : Nat → Nat → Int32), 0 ≤ i.toInt → i.toInt ≤ 80 → (80 - i.toInt).toNat < n → ∀ k f : Nat, L_sj_fillB_5_0 ka v n i nu k f = if k = ka ∧ i.toNatClampNeg ≤ f ∧ f < 80 then vp_nar .byte v else nu k f := by
  intro n
  induction n with
  | zero => intro i nu h1 h2 h3; exact absurd h3 (Nat.not_lt_zero _)
  | succ n ih =>
    intro i nu h1 h2 h3 k f
    have h80 : (80 : Int32).toInt = 80 := rfl
    have hc := tC_of h1
    unfold L_sj_fillB_5_0
    by_cases c1 : i ≥ (80 : Int32)
    · rw [if_pos c1]
      have c2 := vv_ge.mp c1
      rw [if_neg (by omega)]
    · rw [if_neg c1]
      have c2 : ¬ (80 : Int32).toInt ≤ i.toInt := fun h => c1 (vv_ge.mpr h)
      have ai : (i + 1 : Int32).toInt = i.toInt + 1 := tI_add rfl (rfl : (1 : Int32).toInt = 1) (by omega) (by omega)
      have hc1 := tC_of (v := i + 1) (by omega)
      simp only [letv_eq]
      rw [ih (i + 1) _ (by omega) (by omega) (by omega) k f]
      by_cases e1 : k = ka
      · subst e1
        by_cases e2 : f = i.toNatClampNeg
        · subst e2
          rw [if_neg (by omega), if_pos (by omega)]
          simp [va_up, upd]
        · have e3 : va_up nu k (upd (nu k) i.toNatClampNeg (vp_nar .byte v)) k f = nu k f := by simp [va_up, upd, e2]
          rw [e3]
          by_cases c5 : i.toNatClampNeg ≤ f ∧ f < 80
          · rw [if_pos (by omega), if_pos (by omega)]
          · rw [if_neg (by omega), if_neg (by omega)]
      · rw [if_neg (fun h => e1 h.1), if_neg (fun h => e1 h.1)]
        simp [va_up, e1]
theorem ix_80 {t i : Int32} (ht : 0 ≤ t.toInt ∧ t.toInt ≤ 3) (hi : 0 ≤ i.toInt ∧ i.toInt < 80) : (80 * t + i : Int32).toNatClampNeg = 80 * t.toNatClampNeg + i.toNatClampNeg := by
  have a1 : (80 * t : Int32).toInt = 80 * t.toInt := tI_mul (rfl : (80 : Int32).toInt = 80) rfl (by omega) (by omega)
  have a2 : (80 * t + i : Int32).toInt = 80 * t.toInt + i.toInt := tI_add a1 rfl (by omega) (by omega)
  have c1 := tC_of (v := 80 * t + i) (by omega)
  have c2 := tC_of ht.1
  have c3 := tC_of hi.1
  omega
theorem lp_mtext {vn t : Int32} (ht : 0 ≤ t.toInt ∧ t.toInt ≤ 3) : ∀ (n : Nat) (i : Int32) (nu : Nat → Nat → Int32), 0 ≤ i.toInt → i.toInt ≤ 80 → (80 - i.toInt).toNat < n → (L_qm_text_34_0 vn t n i nu).1 = vn ∧ ∀ k f : Nat, (L_qm_text_34_0 vn t n i nu).2 k f = if k = 6 ∧ 80 * t.toNatClampNeg + i.toNatClampNeg ≤ f ∧ f < 80 * t.toNatClampNeg + 80 then 32 else nu k f := by
  intro n
  induction n with
  | zero => intro i nu h1 h2 h3; exact absurd h3 (Nat.not_lt_zero _)
  | succ n ih =>
    intro i nu h1 h2 h3
    have h80 : (80 : Int32).toInt = 80 := rfl
    have hc := tC_of h1
    unfold L_qm_text_34_0
    by_cases c1 : i ≥ (80 : Int32)
    · rw [if_pos c1]
      have c2 := vv_ge.mp c1
      refine ⟨rfl, fun k f => ?_⟩
      rw [if_neg (by omega)]
    · rw [if_neg c1]
      have c2 : ¬ (80 : Int32).toInt ≤ i.toInt := fun h => c1 (vv_ge.mpr h)
      have ai : (i + 1 : Int32).toInt = i.toInt + 1 := tI_add rfl (rfl : (1 : Int32).toInt = 1) (by omega) (by omega)
      have hc1 := tC_of (v := i + 1) (by omega)
      simp only [letv_eq]
      obtain ⟨g1, g2⟩ := ih (i + 1) (va_up nu 6 (upd (nu 6) (80 * t + i : Int32).toNatClampNeg 32)) (by omega) (by omega) (by omega)
      refine ⟨g1, fun k f => ?_⟩
      rw [g2 k f, ix_80 ht ⟨by omega, by omega⟩]
      by_cases e1 : k = 6
      · subst e1
        by_cases e2 : f = 80 * t.toNatClampNeg + i.toNatClampNeg
        · subst e2
          rw [if_neg (by omega), if_pos (by omega)]
          simp [va_up, upd]
        · have e3 : va_up nu 6 (upd (nu 6) (80 * t.toNatClampNeg + i.toNatClampNeg) 32) 6 f = nu 6 f := by simp [va_up, upd, e2]
          rw [e3]
          by_cases c5 : 80 * t.toNatClampNeg + i.toNatClampNeg ≤ f ∧ f < 80 * t.toNatClampNeg + 80
          · rw [if_pos (by omega), if_pos (by omega)]
          · rw [if_neg (by omega), if_neg (by omega)]
      · rw [if_neg (fun h => e1 h.1), if_neg (fun h => e1 h.1)]
        simp [va_up, e1]
theorem fx_blanks {mu : Nat → Nat → Int32} {t : Nat} {n : Int32} : ∀ k f : Nat, F_sx_beBlanks mu (14 + t) n k f = if k = 14 + t ∧ f = 1 then n else if k = 27 + t ∧ f < 80 then 32 else mu k f := by
  intro k f
  have h32 : vp_nar .byte (32 : Int32) = 32 := by rw [vp_nar_byte]; rfl
  have key := lp_fillB (ka := 14 + t + 13) (v := 32) 83 (0 : Int32) mu (by decide) (by decide) (by decide)
  have z0 : (0 : Int32).toNatClampNeg = 0 := rfl
  simp only [F_sx_beBlanks, F_sj_fillB, letv_eq]
  by_cases e1 : k = 14 + t
  · subst e1
    by_cases e2 : f = 1
    · subst e2
      simp [va_up, upd]
    · rw [if_neg (fun h => e2 h.2), if_neg (fun h => by omega)]
      have e3 := key (14 + t) f
      rw [if_neg (fun h => by omega)] at e3
      simp [va_up, upd, e2, e3]
  · rw [if_neg (fun h => e1 h.1)]
    have e3 := key k f
    rw [h32, z0] at e3
    have e4 : va_up (L_sj_fillB_5_0 (14 + t + 13) 32 83 0 mu) (14 + t) (upd (L_sj_fillB_5_0 (14 + t + 13) 32 83 0 mu (14 + t)) 1 n) k f = L_sj_fillB_5_0 (14 + t + 13) 32 83 0 mu k f := by simp [va_up, e1]
    rw [e4, e3]
    by_cases c5 : k = 27 + t ∧ f < 80
    · rw [if_pos c5, if_pos (by omega)]
    · rw [if_neg c5, if_neg (by omega)]
theorem refT_of {mux mum : Nat → Nat → Int32} {t : Int32} (h : simT mux mum) : ((0 ≤ t.toInt ∧ t.toInt ≤ 3) ∧ 0 ≤ (mum 5 t.toNatClampNeg).toInt ∧ F_sx_refusedText mux t = (0, mux) ∧ F_sm_askedText mum t = (0, mum)) ∨ (F_sx_refusedText mux t = (-3, (F_sx_found mux 1).2) ∧ F_sm_askedText mum t = (-3, (F_sm_meet mum 1).2)) ∨ (F_sx_refusedText mux t = (-1, mux) ∧ F_sm_askedText mum t = (-1, mum)) := by
  have z0 : (0 : Int32).toInt = 0 := rfl
  unfold F_sx_refusedText F_sm_askedText
  by_cases ct : 0 ≤ t.toInt ∧ t.toInt ≤ 3
  · rw [if_pos (fx_isText.mpr ct), if_pos (fm_isText.mpr ct)]
    have ht := tC_of ct.1
    simp only [letv_eq, letp_eq]
    rcases h t.toNatClampNeg (by omega) with ⟨a, b⟩ | ⟨a, b, c⟩
    · have m1 : F_sx_Text_isMissing mux (14 + t.toNatClampNeg) = 1 := by
        simp only [F_sx_Text_isMissing, letv_eq]
        rw [if_neg (fun e => by have := vv_ge.mp e; omega)]
      have m2 : ¬ mum 5 t.toNatClampNeg ≥ (0 : Int32) := fun e => by have := vv_ge.mp e; omega
      rw [if_pos m1, if_neg m2]
      exact Or.inr (Or.inl ⟨rfl, rfl⟩)
    · have m1 : ¬ F_sx_Text_isMissing mux (14 + t.toNatClampNeg) = 1 := by
        simp only [F_sx_Text_isMissing, letv_eq]
        rw [if_pos (vv_ge.mpr (by omega))]
        decide
      have lb : 0 ≤ (mum 5 t.toNatClampNeg).toInt := by rw [← b]; exact a
      have m2 : mum 5 t.toNatClampNeg ≥ (0 : Int32) := vv_ge.mpr (by omega)
      rw [if_neg m1, if_pos m2]
      exact Or.inl ⟨ct, lb, rfl, rfl⟩
  · rw [if_neg (fun e => ct (fx_isText.mp e)), if_neg (fun e => ct (fm_isText.mp e))]
    exact Or.inr (Or.inr ⟨rfl, rfl⟩)
theorem p_fst {α β : Type} {a : α} {b : β} {p : α × β} (h : (a, b) = p) : p.1 = a := by rw [← h]
theorem p_snd {α β : Type} {a : α} {b : β} {p : α × β} (h : (a, b) = p) : p.2 = b := by rw [← h]
theorem simT_text {mux mum xi1 xi2 : Nat → Nat → Int32} {t n r1 r2 : Int32} (h : simT mux mum) (h1 : (r1, xi1) = F_qx_text mux t n) (h2 : (r2, xi2) = F_qm_text mum t n) : r1 = r2 ∧ simT xi1 xi2 := by
  have h80 : (80 : Int32).toInt = 80 := rfl
  have h0 : (0 : Int32).toInt = 0 := rfl
  unfold F_qx_text at h1
  unfold F_qm_text at h2
  by_cases ct : 0 ≤ t.toInt ∧ t.toInt ≤ 3
  · have htn := tC_of ct.1
    rw [if_pos (fx_isText.mpr ct)] at h1
    rw [if_pos (fm_isText.mpr ct)] at h2
    by_cases c1 : n ≤ (80 : Int32)
    · rw [if_pos c1] at h1 h2
      have c2 := vv_le.mp c1
      by_cases c3 : n ≥ (0 : Int32)
      · rw [if_pos c3] at h1 h2
        have c4 := vv_ge.mp c3
        simp only [letv_eq] at h1 h2
        obtain ⟨g1, g2⟩ := lp_mtext (vn := n) ct 83 (0 : Int32) (va_up mum 5 (upd (mum 5) t.toNatClampNeg n)) (by decide) (by decide) (by decide)
        rw [p_fst h2] at g1
        rw [p_snd h2] at g2
        have z0 : (0 : Int32).toNatClampNeg = 0 := rfl
        rw [z0] at g2
        have e1 : r1 = n := (Prod.mk.inj h1).1
        have e2 : xi1 = F_sx_beBlanks mux (14 + t.toNatClampNeg) n := (Prod.mk.inj h1).2
        refine ⟨e1.trans g1.symm, fun s hs => ?_⟩
        have ex := fx_blanks (mu := mux) (t := t.toNatClampNeg) (n := n)
        rw [← e2] at ex
        by_cases es : s = t.toNatClampNeg
        · subst es
          have a1 : xi1 (14 + t.toNatClampNeg) 1 = n := by rw [ex, if_pos ⟨rfl, rfl⟩]
          have a2 : xi2 5 t.toNatClampNeg = n := by
            rw [g2, if_neg (fun e => by omega)]
            simp [va_up, upd]
          refine Or.inr ⟨by rw [a1]; omega, by rw [a1, a2], fun i hi => ?_⟩
          rw [ex, if_neg (fun e => by omega), if_pos ⟨rfl, hi⟩, g2, if_pos ⟨rfl, by omega, by omega⟩]
        · have a1 : xi1 (14 + s) 1 = mux (14 + s) 1 := by rw [ex, if_neg (fun e => by omega), if_neg (fun e => by omega)]
          have a2 : xi2 5 s = mum 5 s := by
            rw [g2, if_neg (fun e => by omega)]
            simp [va_up, upd, es]
          rw [a1, a2]
          rcases h s hs with ⟨a, b⟩ | ⟨a, b, c⟩
          · exact Or.inl ⟨a, b⟩
          · refine Or.inr ⟨a, b, fun i hi => ?_⟩
            have a3 : xi1 (27 + s) i = mux (27 + s) i := by rw [ex, if_neg (fun e => by omega), if_neg (fun e => by omega)]
            have a4 : xi2 6 (80 * s + i) = mum 6 (80 * s + i) := by
              rw [g2, if_neg (fun e => by omega)]
              simp [va_up]
            rw [a3, a4]
            exact c i hi
      · rw [if_neg c3] at h1 h2
        simp only [letp_eq] at h1 h2
        have e1 : r1 = (F_sx_found mux 5).1 := (Prod.mk.inj h1).1
        have e2 : xi1 = (F_sx_found mux 5).2 := (Prod.mk.inj h1).2
        have e3 : r2 = (F_sm_meet mum 5).1 := (Prod.mk.inj h2).1
        have e4 : xi2 = (F_sm_meet mum 5).2 := (Prod.mk.inj h2).2
        rw [e1, e2, e3, e4]
        exact ⟨fx_found.1.trans fm_meet.1.symm, simT_of h fx_foundT fm_meetT⟩
    · rw [if_neg c1] at h1 h2
      cases h1
      cases h2
      exact ⟨rfl, h⟩
  · rw [if_neg (fun e => ct (fx_isText.mp e))] at h1
    rw [if_neg (fun e => ct (fm_isText.mp e))] at h2
    cases h1
    cases h2
    exact ⟨rfl, h⟩
theorem simT_put {mux mum xi1 xi2 : Nat → Nat → Int32} {t i v r1 r2 : Int32} (okm : okR loM hiM mum) (h : simT mux mum) (h1 : (r1, xi1) = F_qx_put mux t i v) (h2 : (r2, xi2) = F_qm_put mum t i v) : r1 = r2 ∧ simT xi1 xi2 := by
  have h0 : (0 : Int32).toInt = 0 := rfl
  have n3 : ¬ (-3 : Int32) = 0 := by decide
  have n1 : ¬ (-1 : Int32) = 0 := by decide
  unfold F_qx_put at h1
  unfold F_qm_put at h2
  rcases refT_of (t := t) h with ⟨ct, lb, q1, q2⟩ | ⟨q1, q2⟩ | ⟨q1, q2⟩
  · rw [q1] at h1
    rw [q2] at h2
    have ht := tC_of ct.1
    have hlt : t.toNatClampNeg < 4 := by omega
    rcases h t.toNatClampNeg hlt with ⟨a, b⟩ | ⟨a, b, c⟩
    · omega
    · simp only [letv_eq, letp_eq] at h1 h2
      rw [if_pos trivial] at h1
      rw [if_pos trivial] at h2
      have bd := (okm 5 t.toNatClampNeg).2
      have bd : (mum 5 t.toNatClampNeg).toInt ≤ 80 := bd
      have as : (mum 5 t.toNatClampNeg - 1 : Int32).toInt = (mum 5 t.toNatClampNeg).toInt - 1 := tI_sub rfl (rfl : (1 : Int32).toInt = 1) (by omega) (by omega)
      by_cases ci : 0 ≤ i.toInt ∧ i.toInt < (mum 5 t.toNatClampNeg).toInt
      · have w1 : ¬ i < (0 : Int32) := fun e => by have := vv_lt.mp e; omega
        have w2 : i < mux (14 + t.toNatClampNeg) 1 := vv_lt.mpr (by rw [b]; exact ci.2)
        have w3 : F_sm_in i 0 (mum 5 t.toNatClampNeg - 1) = 1 := fm_in.mpr ⟨by omega, by omega⟩
        rw [if_neg w1, if_pos w2] at h1
        rw [if_pos w3] at h2
        have hi := tC_of ci.1
        have ix := ix_80 (t := t) (i := i) ct ⟨by omega, by omega⟩
        rw [ix] at h2
        have nb : vp_nar .byte v.toInt8.toInt32 = v.toInt8.toInt32 := by rw [vp_nar_byte]; simp
        rw [nb] at h1
        have e1 : r1 = mux (14 + t.toNatClampNeg + 13) i.toNatClampNeg + 1000 := (Prod.mk.inj h1).1
        have e2 : xi1 = va_up mux (14 + t.toNatClampNeg + 13) (upd (mux (14 + t.toNatClampNeg + 13)) i.toNatClampNeg v.toInt8.toInt32) := (Prod.mk.inj h1).2
        have e3 : r2 = mum 6 (80 * t.toNatClampNeg + i.toNatClampNeg) + 1000 := (Prod.mk.inj h2).1
        have e4 : xi2 = va_up mum 6 (upd (mum 6) (80 * t.toNatClampNeg + i.toNatClampNeg) v.toInt8.toInt32) := (Prod.mk.inj h2).2
        have e27 : 14 + t.toNatClampNeg + 13 = 27 + t.toNatClampNeg := by omega
        rw [e27] at e1 e2
        refine ⟨by rw [e1, e3, c i.toNatClampNeg (by omega)], fun s hs => ?_⟩
        have a1 : xi1 (14 + s) 1 = mux (14 + s) 1 := by
          rw [e2]
          simp [va_up, show ¬ 14 + s = 27 + t.toNatClampNeg by omega]
        have a2 : xi2 5 s = mum 5 s := by
          rw [e4]
          simp [va_up]
        rw [a1, a2]
        rcases h s hs with ⟨a, b⟩ | ⟨a, b, c⟩
        · exact Or.inl ⟨a, b⟩
        · refine Or.inr ⟨a, b, fun j hj => ?_⟩
          by_cases es : s = t.toNatClampNeg ∧ j = i.toNatClampNeg
          · obtain ⟨rfl, rfl⟩ := es
            rw [e2, e4]
            simp [va_up, upd]
          · have a3 : xi1 (27 + s) j = mux (27 + s) j := by
              rw [e2]
              by_cases es1 : s = t.toNatClampNeg
              · subst es1
                simp [va_up, upd, show ¬ j = i.toNatClampNeg from fun e => es ⟨rfl, e⟩]
              · simp [va_up, es1]
            have a4 : xi2 6 (80 * s + j) = mum 6 (80 * s + j) := by
              rw [e4]
              simp [va_up, upd, show ¬ 80 * s + j = 80 * t.toNatClampNeg + i.toNatClampNeg by omega]
            rw [a3, a4]
            exact c j hj
      · have w3 : ¬ F_sm_in i 0 (mum 5 t.toNatClampNeg - 1) = 1 := fun e => by have := fm_in.mp e; omega
        rw [if_neg w3] at h2
        have e3 : r2 = (F_sm_meet mum 2).1 := (Prod.mk.inj h2).1
        have e4 : xi2 = (F_sm_meet mum 2).2 := (Prod.mk.inj h2).2
        have e12 : (r1, xi1) = ((F_sx_found mux 2).1, (F_sx_found mux 2).2) := by
          rw [h1]
          by_cases w1 : i < (0 : Int32)
          · rw [if_pos w1]
          · have w4 : ¬ i.toInt < (0 : Int32).toInt := fun e => w1 (vv_lt.mpr e)
            rw [if_neg w1, if_neg (fun e => by have := vv_lt.mp e; rw [b] at this; omega)]
        have e1 : r1 = (F_sx_found mux 2).1 := (Prod.mk.inj e12).1
        have e2 : xi1 = (F_sx_found mux 2).2 := (Prod.mk.inj e12).2
        rw [e1, e2, e3, e4]
        exact ⟨fx_found.1.trans fm_meet.1.symm, simT_of h fx_foundT fm_meetT⟩
  · rw [q1] at h1
    rw [q2] at h2
    simp only [letp_eq] at h1 h2
    rw [if_neg n3] at h1 h2
    have e1 : r1 = -3 := (Prod.mk.inj h1).1
    have e2 : xi1 = (F_sx_found mux 1).2 := (Prod.mk.inj h1).2
    have e3 : r2 = -3 := (Prod.mk.inj h2).1
    have e4 : xi2 = (F_sm_meet mum 1).2 := (Prod.mk.inj h2).2
    rw [e1, e2, e3, e4]
    exact ⟨rfl, simT_of h fx_foundT fm_meetT⟩
  · rw [q1] at h1
    rw [q2] at h2
    simp only [letp_eq] at h1 h2
    rw [if_neg n1] at h1 h2
    cases h1
    cases h2
    exact ⟨rfl, h⟩

-- ===== reading a TEXT: both sides alike =====
def prT (t : Nat) (nux num : Nat → Nat → Int32) : Prop := nux (14 + t) 1 = num 5 t ∧ (∀ j : Nat, j < 80 → nux (27 + t) j = num 6 (80 * t + j)) ∧ 0 ≤ (num 5 t).toInt ∧ (num 5 t).toInt ≤ 80 ∧ (∀ j : Nat, -128 ≤ (nux (27 + t) j).toInt ∧ (nux (27 + t) j).toInt ≤ 127)
def prC (nux num : Nat → Nat → Int32) : Prop := nux 31 4 = num 0 19 ∧ nux 31 5 = num 0 20 ∧ (0 ≤ (num 0 19).toInt ∧ (num 0 19).toInt ≤ 7) ∧ (0 ≤ (num 0 20).toInt ∧ (num 0 20).toInt ≤ 12) ∧ (∀ x : Nat, x < (num 0 19).toNatClampNeg → nux 48 x = num 11 x ∧ nux 49 x = num 12 x ∧ 0 ≤ (num 12 x).toInt ∧ (num 12 x).toInt ≤ 99) ∧ (∀ j : Nat, j < (num 0 20).toNatClampNeg → nux 50 j = num 13 (2 * j) ∧ nux 51 j = num 13 (2 * j + 1)) ∧ (∀ j : Nat, j < (num 0 20).toNatClampNeg → (0 ≤ (num 13 (2 * j)).toInt ∧ (num 13 (2 * j)).toInt < (num 0 19).toInt) ∧ (0 ≤ (num 13 (2 * j + 1)).toInt ∧ (num 13 (2 * j + 1)).toInt < (num 0 19).toInt))
theorem prT_of {t : Nat} {nux num xi xi' : Nat → Nat → Int32} (h : prT t nux num) (h1 : xi (14 + t) = nux (14 + t)) (h2 : xi (27 + t) = nux (27 + t)) (h3 : xi' 5 = num 5) (h4 : xi' 6 = num 6) : prT t xi xi' := by
  unfold prT
  rw [h1, h2, h3, h4]
  exact h
def btx (nux : Nat → Nat → Int32) (t : Nat) (j : Int32) : Int32 := if j.toInt < (nux (14 + t) 1).toInt then nux (27 + t) j.toNatClampNeg else -9
def dg (b : Int32) : Int32 := if b.toInt < 48 then -9 else if b.toInt ≤ 57 then b - 48 else -9
theorem btx_rng {t : Nat} {nux num : Nat → Nat → Int32} (h : prT t nux num) (j : Int32) : -128 ≤ (btx nux t j).toInt ∧ (btx nux t j).toInt ≤ 127 := by
  unfold btx
  split
  · exact h.2.2.2.2 _
  · decide
theorem dg_of {b : Int32} (h : -128 ≤ b.toInt ∧ b.toInt ≤ 127) : (dg b = -9 ∧ (b.toInt < 48 ∨ 57 < b.toInt)) ∨ (dg b = b - 48 ∧ 48 ≤ b.toInt ∧ b.toInt ≤ 57 ∧ (dg b).toInt = b.toInt - 48) := by
  have a : (b - 48 : Int32).toInt = b.toInt - 48 := tI_sub rfl (rfl : (48 : Int32).toInt = 48) (by omega) (by omega)
  unfold dg
  by_cases c1 : b.toInt < 48
  · rw [if_pos c1]
    exact Or.inl ⟨rfl, Or.inl c1⟩
  · rw [if_neg c1]
    by_cases c2 : b.toInt ≤ 57
    · rw [if_pos c2]
      exact Or.inr ⟨rfl, by omega, c2, a⟩
    · rw [if_neg c2]
      exact Or.inl ⟨rfl, Or.inr (by omega)⟩
theorem here_eq {t : Int32} {nux num : Nat → Nat → Int32} {j : Int32} (ht : 0 ≤ t.toInt ∧ t.toInt ≤ 3) (h : prT t.toNatClampNeg nux num) (hj : num 0 18 = j) (h0 : 0 ≤ j.toInt) : F_sm_here num t = btx nux t.toNatClampNeg j := by
  obtain ⟨p1, p2, p3, p4, p5⟩ := h
  simp only [F_sm_here, letv_eq]
  rw [hj]
  unfold btx
  rw [p1]
  by_cases c : j.toInt < (num 5 t.toNatClampNeg).toInt
  · have hc := tC_of h0
    rw [if_pos c, if_neg (fun e => by have := vv_ge.mp e; omega), ix_80 ht ⟨h0, by omega⟩, p2 _ (by omega)]
  · rw [if_neg c, if_pos (vv_ge.mpr (by omega))]
theorem fig_eq {t : Nat} {nux : Nat → Nat → Int32} {j : Int32} (h0 : 0 ≤ j.toInt) : F_sx_figureAt nux (14 + t) j = dg (btx nux t j) := by
  have z0 : (0 : Int32).toInt = 0 := rfl
  have z48 : (48 : Int32).toInt = 48 := rfl
  have z57 : (57 : Int32).toInt = 57 := rfl
  have e27 : 14 + t + 13 = 27 + t := by omega
  simp only [F_sx_figureAt, letv_eq]
  rw [if_neg (fun e => by have := vv_lt.mp e; omega), e27]
  unfold btx
  by_cases c : j.toInt < (nux (14 + t) 1).toInt
  · rw [if_pos c, if_neg (fun e => by have := vv_ge.mp e; omega)]
    unfold dg
    by_cases c1 : (nux (27 + t) j.toNatClampNeg).toInt < 48
    · rw [if_pos c1, if_pos (vv_lt.mpr (by omega))]
    · rw [if_neg c1, if_neg (fun e => by have := vv_lt.mp e; omega)]
      by_cases c2 : (nux (27 + t) j.toNatClampNeg).toInt ≤ 57
      · rw [if_pos c2, if_pos (vv_le.mpr (by omega))]
      · rw [if_neg c2, if_neg (fun e => by have := vv_le.mp e; omega)]
  · rw [if_neg c, if_pos (vv_ge.mpr (by omega))]
    decide
theorem kind_eq {v : Int32} : F_sx_kindSigned v = F_sm_kindOf v := by
  have e : F_sx_kindSigned v = if (98 : Int32) = v then 0 else if (109 : Int32) = v then 1 else if (102 : Int32) = v then 2 else if (114 : Int32) = v then 3 else if (117 : Int32) = v then 4 else if (115 : Int32) = v then 5 else -9 := rfl
  rw [e]
  unfold F_sm_kindOf
  simp only [eq_comm (b := v)]
theorem iadd_2 {i : Int32} : i + 1 + 1 = i + 2 := by rw [Int32.add_assoc]; rfl
theorem iadd_3 {i : Int32} : i + 2 + 1 = i + 3 := by rw [Int32.add_assoc]; rfl
theorem i_ne9 {r : Int32} (h : 0 ≤ r.toInt) : ¬ r = -9 := fun e => by
  rw [e] at h
  exact absurd h (by decide)
theorem path_rel {t i : Int32} {nux num xi xi' : Nat → Nat → Int32} {r r' : Int32} (ht : 0 ≤ t.toInt ∧ t.toInt ≤ 3) (hT : prT t.toNatClampNeg nux num) (hC : prC nux num) (hi : num 0 18 = i) (h0 : 0 ≤ i.toInt) (hlt : i.toInt < (num 5 t.toNatClampNeg).toInt) (h1 : (r, xi) = F_sx_faultInPath nux (14 + t.toNatClampNeg) i) (h2 : (r', xi') = F_sm_readsPath num t) : (r = -9 ∧ r' = 1 ∧ prT t.toNatClampNeg xi xi' ∧ prC xi xi' ∧ xi' 0 18 = i + 3 ∧ i.toInt + 3 ≤ (xi' 5 t.toNatClampNeg).toInt) ∨ (¬ r = -9 ∧ r' = 0 ∧ xi' 0 18 = r) := by
  have hT0 := hT
  obtain ⟨c1, c2, c3, c4, c5, c6, c7⟩ := hC
  obtain ⟨p1, p2, p3, p4, p5⟩ := hT
  have htn := tC_of ht.1
  have z12 : (12 : Int32).toInt = 12 := rfl
  have z0 : (0 : Int32).toInt = 0 := rfl
  have z1 : (1 : Int32).toInt = 1 := rfl
  have hp := tC_of c4.1
  have i1 : (i + 1 : Int32).toInt = i.toInt + 1 := tI_add rfl z1 (by omega) (by omega)
  have i2 : (i + 2 : Int32).toInt = i.toInt + 2 := tI_add rfl (rfl : (2 : Int32).toInt = 2) (by omega) (by omega)
  have r1 := btx_rng hT0 (i + 1)
  have r2 := btx_rng hT0 (i + 2)
  have s1 : (btx nux t.toNatClampNeg (i + 1) - 48 : Int32).toInt = (btx nux t.toNatClampNeg (i + 1)).toInt - 48 := tI_sub rfl (rfl : (48 : Int32).toInt = 48) (by omega) (by omega)
  have s2 : (btx nux t.toNatClampNeg (i + 2) - 48 : Int32).toInt = (btx nux t.toNatClampNeg (i + 2)).toInt - 48 := tI_sub rfl (rfl : (48 : Int32).toInt = 48) (by omega) (by omega)
  have s3 : (num 0 19 - 1 : Int32).toInt = (num 0 19).toInt - 1 := tI_sub rfl z1 (by omega) (by omega)
  simp only [F_sx_faultInPath, letv_eq] at h1
  rw [c1, c2, fig_eq (by omega), fig_eq (by omega)] at h1
  simp only [F_sm_readsPath, letv_eq] at h2
  rw [hi] at h2
  by_cases q12 : (num 0 20).toInt < 12
  · rw [if_pos (vv_lt.mpr (by omega))] at h1
    rw [if_neg (fun e => by rw [e] at q12; exact absurd q12 (by decide))] at h2
    generalize hn6 : va_up num 0 (upd (num 0) 18 (i + 1)) = nu6 at h2
    have a18 : nu6 0 18 = i + 1 := (up_v hn6).symm
    have a19 : nu6 0 19 = num 0 19 := up_f hn6 (by decide)
    have a20 : nu6 0 20 = num 0 20 := up_f hn6 (by decide)
    have hT6 : prT t.toNatClampNeg nux nu6 := prT_of hT0 rfl rfl (up_k hn6 (by decide)) (up_k hn6 (by decide))
    have hb1 := here_eq ht hT6 a18 (by omega)
    rw [L_sm_readsPath_30_0] at h2
    simp only [letv_eq] at h2
    rw [if_neg (show ¬ (0 : Int32) ≥ 2 by decide), hb1, a18, a19] at h2
    by_cases d1 : 48 ≤ (btx nux t.toNatClampNeg (i + 1)).toInt ∧ (btx nux t.toNatClampNeg (i + 1)).toInt - 48 < (num 0 19).toInt
    · have g1 : dg (btx nux t.toNatClampNeg (i + 1)) = btx nux t.toNatClampNeg (i + 1) - 48 := by
        rcases dg_of r1 with ⟨-, h⟩ | ⟨h, -⟩
        · omega
        · exact h
      rw [g1] at h1
      rw [if_neg (i_ne9 (by omega)), if_pos (vv_lt.mpr (by omega))] at h1
      rw [if_pos (fm_in.mpr ⟨by omega, by omega⟩), if_neg (show ¬ (0 : Int32) = 1 by decide)] at h2
      have e0 : (2 * num 0 20 + 0 : Int32) = 2 * num 0 20 := by simp
      have m2 : (2 * num 0 20 : Int32).toInt = 2 * (num 0 20).toInt := tI_mul (rfl : (2 : Int32).toInt = 2) rfl (by omega) (by omega)
      have m2n := tC_of (v := 2 * num 0 20) (by omega)
      have m3 : (2 * num 0 20 + 1 : Int32).toInt = 2 * (num 0 20).toInt + 1 := tI_add m2 z1 (by omega) (by omega)
      have m3n := tC_of (v := 2 * num 0 20 + 1) (by omega)
      have f2 : (2 * num 0 20 : Int32).toNatClampNeg = 2 * (num 0 20).toNatClampNeg := by omega
      have f3 : (2 * num 0 20 + 1 : Int32).toNatClampNeg = 2 * (num 0 20).toNatClampNeg + 1 := by omega
      rw [e0, f2, iadd_2, show (0 + 1 : Int32) = 1 from rfl] at h2
      generalize hn31 : va_up nu6 13 (upd (nu6 13) (2 * (num 0 20).toNatClampNeg) (btx nux t.toNatClampNeg (i + 1) - 48)) = nu31 at h2
      generalize hn38 : va_up nu31 0 (upd (nu31 0) 18 (i + 2)) = nu38 at h2
      have b18 : nu38 0 18 = i + 2 := (up_v hn38).symm
      have b19 : nu38 0 19 = num 0 19 := (up_f hn38 (by decide)).trans ((congrFun (up_k hn31 (by decide)) 19).trans a19)
      have b20 : nu38 0 20 = num 0 20 := (up_f hn38 (by decide)).trans ((congrFun (up_k hn31 (by decide)) 20).trans a20)
      have b13 : nu38 13 (2 * (num 0 20).toNatClampNeg) = btx nux t.toNatClampNeg (i + 1) - 48 := (congrFun (up_k hn38 (by decide)) _).trans (up_v hn31).symm
      have hT38 : prT t.toNatClampNeg nux nu38 := prT_of hT6 rfl rfl ((up_k hn38 (by decide)).trans (up_k hn31 (by decide))) ((up_k hn38 (by decide)).trans (up_k hn31 (by decide)))
      have hb2 := here_eq ht hT38 b18 (by omega)
      rw [L_sm_readsPath_30_0] at h2
      simp only [letv_eq] at h2
      rw [if_neg (show ¬ (1 : Int32) ≥ 2 by decide), hb2, b18, b19, f2, b13] at h2
      by_cases d2 : 48 ≤ (btx nux t.toNatClampNeg (i + 2)).toInt ∧ (btx nux t.toNatClampNeg (i + 2)).toInt - 48 < (num 0 19).toInt
      · have g2 : dg (btx nux t.toNatClampNeg (i + 2)) = btx nux t.toNatClampNeg (i + 2) - 48 := by
          rcases dg_of r2 with ⟨-, h⟩ | ⟨h, -⟩
          · omega
          · exact h
        rw [g2] at h1
        rw [if_neg (i_ne9 (by omega)), if_neg (fun e => by have := vv_ge.mp e; omega)] at h1
        rw [if_pos (fm_in.mpr ⟨by omega, by omega⟩), if_pos trivial] at h2
        by_cases d3 : btx nux t.toNatClampNeg (i + 2) - 48 = btx nux t.toNatClampNeg (i + 1) - 48
        · rw [if_pos d3] at h1 h2
          cases h1
          cases h2
          exact Or.inr ⟨i_ne9 (by omega), rfl, b18⟩
        · rw [if_neg d3] at h1 h2
          rw [f3, iadd_3, show (1 + 1 : Int32) = 2 from rfl] at h2
          generalize hn50 : va_up nu38 13 (upd (nu38 13) (2 * (num 0 20).toNatClampNeg + 1) (btx nux t.toNatClampNeg (i + 2) - 48)) = nu50 at h2
          generalize hn57 : va_up nu50 0 (upd (nu50 0) 18 (i + 3)) = nu57 at h2
          have k18 : nu57 0 18 = i + 3 := (up_v hn57).symm
          have k19 : nu57 0 19 = num 0 19 := (up_f hn57 (by decide)).trans ((congrFun (up_k hn50 (by decide)) 19).trans b19)
          have k20 : nu57 0 20 = num 0 20 := (up_f hn57 (by decide)).trans ((congrFun (up_k hn50 (by decide)) 20).trans b20)
          rw [L_sm_readsPath_30_0] at h2
          simp only [letv_eq] at h2
          rw [if_pos (show (2 : Int32) ≥ 2 by decide), k20] at h2
          have e1 : r' = 1 := congrArg Prod.fst h2
          have e2 : xi' = va_up nu57 0 (upd (nu57 0) 20 (num 0 20 + 1)) := congrArg Prod.snd h2
          have e2 := e2.symm
          have e3 : r = -9 := congrArg Prod.fst h1
          have e4 : xi = _ := congrArg Prod.snd h1
          dsimp only at e4
          generalize hx16 : va_up nux 50 (upd (nux 50) (num 0 20).toNatClampNeg (btx nux t.toNatClampNeg (i + 1) - 48)) = x16 at e4
          generalize hx20 : va_up x16 51 (upd (x16 51) (num 0 20).toNatClampNeg (btx nux t.toNatClampNeg (i + 2) - 48)) = x20 at e4
          have e4 := e4.symm
          have ap : (num 0 20 + 1 : Int32).toInt = (num 0 20).toInt + 1 := tI_add rfl z1 (by omega) (by omega)
          have apn := tC_of (v := num 0 20 + 1) (by omega)
          have w20 : xi' 0 20 = num 0 20 + 1 := (up_v e2).symm
          have w19 : xi' 0 19 = num 0 19 := (up_f e2 (by decide)).trans k19
          have w18 : xi' 0 18 = i + 3 := (up_f e2 (by decide)).trans k18
          have wk : ∀ k : Nat, k ≠ 0 → k ≠ 13 → xi' k = num k := fun k h h' => (up_k e2 h).trans ((up_k hn57 h).trans ((up_k hn50 h').trans ((up_k hn38 h).trans ((up_k hn31 h').trans (up_k hn6 h)))))
          have w13 : ∀ f : Nat, f ≠ 2 * (num 0 20).toNatClampNeg → f ≠ 2 * (num 0 20).toNatClampNeg + 1 → xi' 13 f = num 13 f := fun f h h' => (congrFun (up_k e2 (by decide)) f).trans ((congrFun (up_k hn57 (by decide)) f).trans ((up_f hn50 h').trans ((congrFun (up_k hn38 (by decide)) f).trans ((up_f hn31 h).trans (congrFun (up_k hn6 (by decide)) f)))))
          have w13a : xi' 13 (2 * (num 0 20).toNatClampNeg) = btx nux t.toNatClampNeg (i + 1) - 48 := (congrFun (up_k e2 (by decide)) _).trans ((congrFun (up_k hn57 (by decide)) _).trans ((up_f hn50 (by omega)).trans b13))
          have w13b : xi' 13 (2 * (num 0 20).toNatClampNeg + 1) = btx nux t.toNatClampNeg (i + 2) - 48 := (congrFun (up_k e2 (by decide)) _).trans ((congrFun (up_k hn57 (by decide)) _).trans (up_v hn50).symm)
          have v31 : xi 31 4 = nux 31 4 := (up_f e4 (by decide)).trans ((congrFun (up_k hx20 (by decide)) 4).trans (congrFun (up_k hx16 (by decide)) 4))
          have v31b : xi 31 5 = num 0 20 + 1 := (up_v e4).symm
          have vk : ∀ k : Nat, k ≠ 31 → k ≠ 50 → k ≠ 51 → xi k = nux k := fun k h h' h'' => (up_k e4 h).trans ((up_k hx20 h'').trans (up_k hx16 h'))
          have v50 : ∀ f : Nat, f ≠ (num 0 20).toNatClampNeg → xi 50 f = nux 50 f := fun f h => (congrFun (up_k e4 (by decide)) f).trans ((congrFun (up_k hx20 (by decide)) f).trans (up_f hx16 h))
          have v51 : ∀ f : Nat, f ≠ (num 0 20).toNatClampNeg → xi 51 f = nux 51 f := fun f h => (congrFun (up_k e4 (by decide)) f).trans ((up_f hx20 h).trans (congrFun (up_k hx16 (by decide)) f))
          have v50a : xi 50 (num 0 20).toNatClampNeg = btx nux t.toNatClampNeg (i + 1) - 48 := (congrFun (up_k e4 (by decide)) _).trans ((congrFun (up_k hx20 (by decide)) _).trans (up_v hx16).symm)
          have v51a : xi 51 (num 0 20).toNatClampNeg = btx nux t.toNatClampNeg (i + 2) - 48 := (congrFun (up_k e4 (by decide)) _).trans (up_v hx20).symm
          refine Or.inl ⟨e3, e1, prT_of hT0 (vk _ (by omega) (by omega) (by omega)) (vk _ (by omega) (by omega) (by omega)) (wk 5 (by decide) (by decide)) (wk 6 (by decide) (by decide)), ⟨?_, ?_, ?_, ?_, ?_, ?_, ?_⟩, w18, ?_⟩
          · rw [v31, w19]; exact c1
          · rw [v31b, w20]
          · rw [w19]; exact c3
          · rw [w20]; omega
          · intro x hx
            rw [w19] at hx
            rw [vk 48 (by decide) (by decide) (by decide), vk 49 (by decide) (by decide) (by decide), wk 11 (by decide) (by decide), wk 12 (by decide) (by decide)]
            exact c5 x hx
          · intro j hj
            rw [w20] at hj
            by_cases ej : j = (num 0 20).toNatClampNeg
            · subst ej
              exact ⟨v50a.trans w13a.symm, v51a.trans w13b.symm⟩
            · rw [v50 j ej, v51 j ej, w13 _ (by omega) (by omega), w13 _ (by omega) (by omega)]
              exact c6 j (by omega)
          · intro j hj
            rw [w20] at hj
            rw [w19]
            by_cases ej : j = (num 0 20).toNatClampNeg
            · subst ej
              rw [w13a, w13b, s1, s2]
              omega
            · rw [w13 _ (by omega) (by omega), w13 _ (by omega) (by omega)]
              exact c7 j (by omega)
          · rw [wk 5 (by decide) (by decide)]
            have d5 := d2.1
            unfold btx at d5
            by_cases d6 : (i + 2 : Int32).toInt < (nux (14 + t.toNatClampNeg) 1).toInt
            · rw [p1] at d6
              omega
            · rw [if_neg d6] at d5
              exact absurd d5 (by decide)
      · rw [if_neg (fun e => by have := fm_in.mp e; omega)] at h2
        cases h2
        have h1 : (r, xi) = (i + 2, nux) := by
          rw [h1]
          rcases dg_of r2 with ⟨g, -⟩ | ⟨g, g3, g4, g5⟩
          · rw [if_pos g]
          · rw [if_neg (i_ne9 (by omega)), if_pos (vv_ge.mpr (by omega))]
        cases h1
        exact Or.inr ⟨i_ne9 (by omega), rfl, b18⟩
    · rw [if_neg (fun e => by have := fm_in.mp e; omega)] at h2
      cases h2
      have h1 : (r, xi) = (i + 1, nux) := by
        rw [h1]
        rcases dg_of r1 with ⟨g, -⟩ | ⟨g, g3, g4, g5⟩
        · rw [if_pos g]
        · rw [if_neg (i_ne9 (by omega)), if_neg (fun e => by have := vv_lt.mp e; omega)]
      cases h1
      exact Or.inr ⟨i_ne9 (by omega), rfl, a18⟩
  · have e12 : num 0 20 = 12 := Int32.toInt_inj.mp (by omega)
    rw [if_neg (fun e => by have := vv_lt.mp e; omega)] at h1
    rw [if_pos e12] at h2
    cases h1
    cases h2
    exact Or.inr ⟨i_ne9 (by omega), rfl, hi⟩
theorem bear_rel {t i : Int32} {nux num xi xi' : Nat → Nat → Int32} {r r' : Int32} (ht : 0 ≤ t.toInt ∧ t.toInt ≤ 3) (hT : prT t.toNatClampNeg nux num) (hC : prC nux num) (hi : num 0 18 = i) (h0 : 0 ≤ i.toInt) (hlt : i.toInt < (num 5 t.toNatClampNeg).toInt) (h1 : (r, xi) = F_sx_faultInBearer nux (14 + t.toNatClampNeg) i) (h2 : (r', xi') = F_sm_readsBearer num t) : (r = -9 ∧ r' = 1 ∧ prT t.toNatClampNeg xi xi' ∧ prC xi xi' ∧ xi' 0 18 = i + 3 ∧ i.toInt + 3 ≤ (xi' 5 t.toNatClampNeg).toInt) ∨ (¬ r = -9 ∧ r' = 0 ∧ xi' 0 18 = r) := by
  have hT0 := hT
  obtain ⟨c1, c2, c3, c4, c5, c6, c7⟩ := hC
  obtain ⟨p1, p2, p3, p4, p5⟩ := hT
  have htn := tC_of ht.1
  have z7 : (7 : Int32).toInt = 7 := rfl
  have z0 : (0 : Int32).toInt = 0 := rfl
  have z1 : (1 : Int32).toInt = 1 := rfl
  have z48 : (48 : Int32).toInt = 48 := rfl
  have z57 : (57 : Int32).toInt = 57 := rfl
  have hb := tC_of c3.1
  have i1 : (i + 1 : Int32).toInt = i.toInt + 1 := tI_add rfl z1 (by omega) (by omega)
  have i2 : (i + 2 : Int32).toInt = i.toInt + 2 := tI_add rfl (rfl : (2 : Int32).toInt = 2) (by omega) (by omega)
  have r1 := btx_rng hT0 (i + 1)
  have r2 := btx_rng hT0 (i + 2)
  have s1 : (btx nux t.toNatClampNeg (i + 1) - 48 : Int32).toInt = (btx nux t.toNatClampNeg (i + 1)).toInt - 48 := tI_sub rfl z48 (by omega) (by omega)
  have s2 : (btx nux t.toNatClampNeg (i + 2) - 48 : Int32).toInt = (btx nux t.toNatClampNeg (i + 2)).toInt - 48 := tI_sub rfl z48 (by omega) (by omega)
  have e27 : 14 + t.toNatClampNeg + 13 = 27 + t.toNatClampNeg := by omega
  have hb0 : F_sm_here num t = nux (27 + t.toNatClampNeg) i.toNatClampNeg := by
    rw [here_eq ht hT0 hi h0]
    unfold btx
    rw [p1, if_pos hlt]
  simp only [F_sx_faultInBearer, letv_eq] at h1
  rw [c1, c2, fig_eq (by omega), fig_eq (by omega), e27, kind_eq] at h1
  simp only [F_sm_readsBearer, letv_eq] at h2
  rw [hi, hb0] at h2
  by_cases q1 : F_sm_kindOf (nux (27 + t.toNatClampNeg) i.toNatClampNeg) = -9
  · rw [if_pos q1] at h1 h2
    cases h1
    cases h2
    exact Or.inr ⟨i_ne9 (by omega), rfl, hi⟩
  rw [if_neg q1] at h1 h2
  generalize F_sm_kindOf (nux (27 + t.toNatClampNeg) i.toNatClampNeg) = kd at h1 h2
  by_cases q2 : num 0 20 > (0 : Int32)
  · rw [if_pos q2] at h1 h2
    cases h1
    cases h2
    exact Or.inr ⟨i_ne9 (by omega), rfl, hi⟩
  rw [if_neg q2] at h1 h2
  by_cases q7 : (num 0 19).toInt < 7
  · rw [if_pos (vv_lt.mpr (by omega))] at h1
    rw [if_neg (fun e => by rw [e] at q7; exact absurd q7 (by decide))] at h2
    generalize hn6 : va_up num 0 (upd (num 0) 18 (i + 1)) = nu6 at h2
    have a18 : nu6 0 18 = i + 1 := (up_v hn6).symm
    have a19 : nu6 0 19 = num 0 19 := up_f hn6 (by decide)
    have a20 : nu6 0 20 = num 0 20 := up_f hn6 (by decide)
    have hT6 : prT t.toNatClampNeg nux nu6 := prT_of hT0 rfl rfl (up_k hn6 (by decide)) (up_k hn6 (by decide))
    have hb1 := here_eq ht hT6 a18 (by omega)
    rw [L_sm_readsBearer_48_0] at h2
    simp only [letv_eq] at h2
    rw [if_neg (show ¬ (0 : Int32) ≥ 2 by decide), hb1, a18] at h2
    by_cases d1 : 48 ≤ (btx nux t.toNatClampNeg (i + 1)).toInt ∧ (btx nux t.toNatClampNeg (i + 1)).toInt ≤ 57
    · have g1 : dg (btx nux t.toNatClampNeg (i + 1)) = btx nux t.toNatClampNeg (i + 1) - 48 := by
        rcases dg_of r1 with ⟨-, h⟩ | ⟨h, -⟩
        · omega
        · exact h
      rw [g1] at h1
      rw [if_neg (i_ne9 (by omega))] at h1
      rw [if_pos (fm_in.mpr ⟨by omega, by omega⟩)] at h2
      have e0 : (10 * 0 + btx nux t.toNatClampNeg (i + 1) - 48 : Int32) = btx nux t.toNatClampNeg (i + 1) - 48 := by
        rw [show (10 * 0 : Int32) = 0 from rfl, Int32.zero_add]
      rw [e0, iadd_2, show (0 + 1 : Int32) = 1 from rfl] at h2
      generalize hn45 : va_up nu6 0 (upd (nu6 0) 18 (i + 2)) = nu45 at h2
      have b18 : nu45 0 18 = i + 2 := (up_v hn45).symm
      have b19 : nu45 0 19 = num 0 19 := (up_f hn45 (by decide)).trans a19
      have b20 : nu45 0 20 = num 0 20 := (up_f hn45 (by decide)).trans a20
      have hT45 : prT t.toNatClampNeg nux nu45 := prT_of hT6 rfl rfl (up_k hn45 (by decide)) (up_k hn45 (by decide))
      have hb2 := here_eq ht hT45 b18 (by omega)
      rw [L_sm_readsBearer_48_0] at h2
      simp only [letv_eq] at h2
      rw [if_neg (show ¬ (1 : Int32) ≥ 2 by decide), hb2, b18] at h2
      by_cases d2 : 48 ≤ (btx nux t.toNatClampNeg (i + 2)).toInt ∧ (btx nux t.toNatClampNeg (i + 2)).toInt ≤ 57
      · have g2 : dg (btx nux t.toNatClampNeg (i + 2)) = btx nux t.toNatClampNeg (i + 2) - 48 := by
          rcases dg_of r2 with ⟨-, h⟩ | ⟨h, -⟩
          · omega
          · exact h
        rw [g2] at h1
        rw [if_neg (i_ne9 (by omega))] at h1
        rw [if_pos (fm_in.mpr ⟨by omega, by omega⟩)] at h2
        have m1 : (10 * (btx nux t.toNatClampNeg (i + 1) - 48) : Int32).toInt = 10 * ((btx nux t.toNatClampNeg (i + 1)).toInt - 48) := tI_mul (rfl : (10 : Int32).toInt = 10) s1 (by omega) (by omega)
        have m2 : (10 * (btx nux t.toNatClampNeg (i + 1) - 48) + (btx nux t.toNatClampNeg (i + 2) - 48) : Int32).toInt = 10 * ((btx nux t.toNatClampNeg (i + 1)).toInt - 48) + ((btx nux t.toNatClampNeg (i + 2)).toInt - 48) := tI_add m1 s2 (by omega) (by omega)
        have m3 : (10 * (btx nux t.toNatClampNeg (i + 1) - 48) + btx nux t.toNatClampNeg (i + 2) : Int32).toInt = 10 * ((btx nux t.toNatClampNeg (i + 1)).toInt - 48) + (btx nux t.toNatClampNeg (i + 2)).toInt := tI_add m1 rfl (by omega) (by omega)
        have m4 : (10 * (btx nux t.toNatClampNeg (i + 1) - 48) + btx nux t.toNatClampNeg (i + 2) - 48 : Int32).toInt = 10 * ((btx nux t.toNatClampNeg (i + 1)).toInt - 48) + (btx nux t.toNatClampNeg (i + 2)).toInt - 48 := tI_sub m3 z48 (by omega) (by omega)
        have em : (10 * (btx nux t.toNatClampNeg (i + 1) - 48) + btx nux t.toNatClampNeg (i + 2) - 48 : Int32) = 10 * (btx nux t.toNatClampNeg (i + 1) - 48) + (btx nux t.toNatClampNeg (i + 2) - 48) := Int32.toInt_inj.mp (by omega)
        rw [em, iadd_3, show (1 + 1 : Int32) = 2 from rfl] at h2
        have mB : 0 ≤ (10 * (btx nux t.toNatClampNeg (i + 1) - 48) + (btx nux t.toNatClampNeg (i + 2) - 48) : Int32).toInt ∧ (10 * (btx nux t.toNatClampNeg (i + 1) - 48) + (btx nux t.toNatClampNeg (i + 2) - 48) : Int32).toInt ≤ 99 := by omega
        generalize 10 * (btx nux t.toNatClampNeg (i + 1) - 48) + (btx nux t.toNatClampNeg (i + 2) - 48) = money at h1 h2 mB
        generalize hn57 : va_up nu45 0 (upd (nu45 0) 18 (i + 3)) = nu57 at h2
        have k18 : nu57 0 18 = i + 3 := (up_v hn57).symm
        have k19 : nu57 0 19 = num 0 19 := (up_f hn57 (by decide)).trans b19
        have k20 : nu57 0 20 = num 0 20 := (up_f hn57 (by decide)).trans b20
        rw [L_sm_readsBearer_48_0] at h2
        simp only [letv_eq] at h2
        rw [if_pos (show (2 : Int32) ≥ 2 by decide), k19] at h2
        have e1 : r' = 1 := congrArg Prod.fst h2
        have e2 : xi' = _ := congrArg Prod.snd h2
        dsimp only at e2
        generalize hn21 : va_up nu57 11 (upd (nu57 11) (num 0 19).toNatClampNeg kd) = nu21 at e2
        generalize hn26 : va_up nu21 12 (upd (nu21 12) (num 0 19).toNatClampNeg money) = nu26 at e2
        have e2 := e2.symm
        have e3 : r = -9 := congrArg Prod.fst h1
        have e4 : xi = _ := congrArg Prod.snd h1
        dsimp only at e4
        generalize hx16 : va_up nux 48 (upd (nux 48) (num 0 19).toNatClampNeg kd) = x16 at e4
        generalize hx20 : va_up x16 49 (upd (x16 49) (num 0 19).toNatClampNeg money) = x20 at e4
        have e4 := e4.symm
        have ap : (num 0 19 + 1 : Int32).toInt = (num 0 19).toInt + 1 := tI_add rfl z1 (by omega) (by omega)
        have apn := tC_of (v := num 0 19 + 1) (by omega)
        have w19 : xi' 0 19 = num 0 19 + 1 := (up_v e2).symm
        have w20 : xi' 0 20 = num 0 20 := (up_f e2 (by decide)).trans ((congrFun (up_k hn26 (by decide)) 20).trans ((congrFun (up_k hn21 (by decide)) 20).trans k20))
        have w18 : xi' 0 18 = i + 3 := (up_f e2 (by decide)).trans ((congrFun (up_k hn26 (by decide)) 18).trans ((congrFun (up_k hn21 (by decide)) 18).trans k18))
        have wk : ∀ k : Nat, k ≠ 0 → k ≠ 11 → k ≠ 12 → xi' k = num k := fun k h h' h'' => (up_k e2 h).trans ((up_k hn26 h'').trans ((up_k hn21 h').trans ((up_k hn57 h).trans ((up_k hn45 h).trans (up_k hn6 h)))))
        have w11 : ∀ f : Nat, f ≠ (num 0 19).toNatClampNeg → xi' 11 f = num 11 f := fun f h => (congrFun (up_k e2 (by decide)) f).trans ((congrFun (up_k hn26 (by decide)) f).trans ((up_f hn21 h).trans ((congrFun (up_k hn57 (by decide)) f).trans ((congrFun (up_k hn45 (by decide)) f).trans (congrFun (up_k hn6 (by decide)) f)))))
        have w12 : ∀ f : Nat, f ≠ (num 0 19).toNatClampNeg → xi' 12 f = num 12 f := fun f h => (congrFun (up_k e2 (by decide)) f).trans ((up_f hn26 h).trans ((congrFun (up_k hn21 (by decide)) f).trans ((congrFun (up_k hn57 (by decide)) f).trans ((congrFun (up_k hn45 (by decide)) f).trans (congrFun (up_k hn6 (by decide)) f)))))
        have w11a : xi' 11 (num 0 19).toNatClampNeg = kd := (congrFun (up_k e2 (by decide)) _).trans ((congrFun (up_k hn26 (by decide)) _).trans (up_v hn21).symm)
        have w12a : xi' 12 (num 0 19).toNatClampNeg = money := (congrFun (up_k e2 (by decide)) _).trans (up_v hn26).symm
        have v31 : xi 31 5 = nux 31 5 := (up_f e4 (by decide)).trans ((congrFun (up_k hx20 (by decide)) 5).trans (congrFun (up_k hx16 (by decide)) 5))
        have v31b : xi 31 4 = num 0 19 + 1 := (up_v e4).symm
        have vk : ∀ k : Nat, k ≠ 31 → k ≠ 48 → k ≠ 49 → xi k = nux k := fun k h h' h'' => (up_k e4 h).trans ((up_k hx20 h'').trans (up_k hx16 h'))
        have v48 : ∀ f : Nat, f ≠ (num 0 19).toNatClampNeg → xi 48 f = nux 48 f := fun f h => (congrFun (up_k e4 (by decide)) f).trans ((congrFun (up_k hx20 (by decide)) f).trans (up_f hx16 h))
        have v49 : ∀ f : Nat, f ≠ (num 0 19).toNatClampNeg → xi 49 f = nux 49 f := fun f h => (congrFun (up_k e4 (by decide)) f).trans ((up_f hx20 h).trans (congrFun (up_k hx16 (by decide)) f))
        have v48a : xi 48 (num 0 19).toNatClampNeg = kd := (congrFun (up_k e4 (by decide)) _).trans ((congrFun (up_k hx20 (by decide)) _).trans (up_v hx16).symm)
        have v49a : xi 49 (num 0 19).toNatClampNeg = money := (congrFun (up_k e4 (by decide)) _).trans (up_v hx20).symm
        refine Or.inl ⟨e3, e1, prT_of hT0 (vk _ (by omega) (by omega) (by omega)) (vk _ (by omega) (by omega) (by omega)) (wk 5 (by decide) (by decide) (by decide)) (wk 6 (by decide) (by decide) (by decide)), ⟨?_, ?_, ?_, ?_, ?_, ?_, ?_⟩, w18, ?_⟩
        · rw [v31b, w19]
        · rw [v31, w20]; exact c2
        · rw [w19]; omega
        · rw [w20]; exact c4
        · intro x hx
          rw [w19] at hx
          by_cases ex : x = (num 0 19).toNatClampNeg
          · subst ex
            exact ⟨v48a.trans w11a.symm, v49a.trans w12a.symm, by rw [w12a]; exact mB⟩
          · rw [v48 x ex, v49 x ex, w11 x ex, w12 x ex]
            exact c5 x (by omega)
        · intro j hj
          rw [w20] at hj
          rw [vk 50 (by decide) (by decide) (by decide), vk 51 (by decide) (by decide) (by decide), wk 13 (by decide) (by decide) (by decide)]
          exact c6 j hj
        · intro j hj
          rw [w20] at hj
          have hp0 := tC_of c4.1
          have hp1 : ¬ (0 : Int32).toInt < (num 0 20).toInt := fun e => q2 (vv_gt.mpr e)
          omega
        · rw [wk 5 (by decide) (by decide) (by decide)]
          have d5 := d2.1
          unfold btx at d5
          by_cases d6 : (i + 2 : Int32).toInt < (nux (14 + t.toNatClampNeg) 1).toInt
          · rw [p1] at d6
            omega
          · rw [if_neg d6] at d5
            exact absurd d5 (by decide)
      · rw [if_neg (fun e => by have := fm_in.mp e; omega)] at h2
        cases h2
        have h1 : (r, xi) = (i + 2, nux) := by
          rw [h1]
          rcases dg_of r2 with ⟨g, -⟩ | ⟨g, g3, g4, g5⟩
          · rw [if_pos g]
          · omega
        cases h1
        exact Or.inr ⟨i_ne9 (by omega), rfl, b18⟩
    · rw [if_neg (fun e => by have := fm_in.mp e; omega)] at h2
      cases h2
      have h1 : (r, xi) = (i + 1, nux) := by
        rw [h1]
        rcases dg_of r1 with ⟨g, -⟩ | ⟨g, g3, g4, g5⟩
        · rw [if_pos g]
        · omega
      cases h1
      exact Or.inr ⟨i_ne9 (by omega), rfl, a18⟩
  · have e7 : num 0 19 = 7 := Int32.toInt_inj.mp (by omega)
    rw [if_neg (fun e => by have := vv_lt.mp e; omega)] at h1
    rw [if_pos e7] at h2
    cases h1
    cases h2
    exact Or.inr ⟨i_ne9 (by omega), rfl, hi⟩
theorem parse_loop {t : Int32} (ht : 0 ≤ t.toInt ∧ t.toInt ≤ 3) : ∀ (n m : Nat) (i : Int32) (nux num : Nat → Nat → Int32), prT t.toNatClampNeg nux num → prC nux num → num 0 18 = i → 0 ≤ i.toInt → i.toInt ≤ (num 5 t.toNatClampNeg).toInt → (80 - i.toInt).toNat < n → (80 - i.toInt).toNat < m → (L_sx_faultIn_12_0 (14 + t.toNatClampNeg) n i nux).1 = (L_sm_goesOn_15_0 t m num).1 ∧ ((L_sx_faultIn_12_0 (14 + t.toNatClampNeg) n i nux).1 = -9 → prC (L_sx_faultIn_12_0 (14 + t.toNatClampNeg) n i nux).2 (L_sm_goesOn_15_0 t m num).2) := by
  intro n
  induction n with
  | zero => intro m i nux num _ _ _ _ _ h; exact absurd h (Nat.not_lt_zero _)
  | succ n ih =>
    intro m i nux num hT hC hi h0 hle hn hm
    match m, hm with
    | 0, hm => exact absurd hm (Nat.not_lt_zero _)
    | m + 1, hm =>
      have hT0 := hT
      obtain ⟨p1, p2, p3, p4, p5⟩ := hT0
      have z1 : (1 : Int32).toInt = 1 := rfl
      have htn := tC_of ht.1
      have e27 : 14 + t.toNatClampNeg + 13 = 27 + t.toNatClampNeg := by omega
      rw [L_sx_faultIn_12_0, L_sm_goesOn_15_0]
      simp only [letv_eq, letp_eq]
      rw [hi, p1, e27]
      by_cases c : i.toInt < (num 5 t.toNatClampNeg).toInt
      · have hb0 : F_sm_here num t = nux (27 + t.toNatClampNeg) i.toNatClampNeg := by
          rw [here_eq ht hT hi h0]
          unfold btx
          rw [p1, if_pos c]
        have ng : ¬ i ≥ num 5 t.toNatClampNeg := fun e => by have := vv_ge.mp e; omega
        have i1 : (i + 1 : Int32).toInt = i.toInt + 1 := tI_add rfl z1 (by omega) (by omega)
        rw [if_neg ng, if_neg ng, hb0]
        by_cases q1 : nux (27 + t.toNatClampNeg) i.toNatClampNeg = 32
        · rw [if_pos q1, if_pos q1]
          generalize hn6 : va_up num 0 (upd (num 0) 18 (i + 1)) = nu6
          have a18 : nu6 0 18 = i + 1 := (up_v hn6).symm
          have a19 : nu6 0 19 = num 0 19 := up_f hn6 (by decide)
          have a20 : nu6 0 20 = num 0 20 := up_f hn6 (by decide)
          have ak : ∀ k : Nat, k ≠ 0 → nu6 k = num k := fun k h => up_k hn6 h
          have hT6 : prT t.toNatClampNeg nux nu6 := prT_of hT rfl rfl (ak 5 (by decide)) (ak 6 (by decide))
          have hC6 : prC nux nu6 := by
            unfold prC
            rw [a19, a20, ak 11 (by decide), ak 12 (by decide), ak 13 (by decide)]
            exact hC
          exact ih m (i + 1) nux nu6 hT6 hC6 a18 (by omega) (by rw [ak 5 (by decide)]; omega) (by omega) (by omega)
        · rw [if_neg q1, if_neg q1]
          have i2 : (i + 2 : Int32).toInt = i.toInt + 2 := tI_add rfl (rfl : (2 : Int32).toInt = 2) (by omega) (by omega)
          have i3 : (i + 3 : Int32).toInt = i.toInt + 3 := tI_add rfl (rfl : (3 : Int32).toInt = 3) (by omega) (by omega)
          by_cases q2 : nux (27 + t.toNatClampNeg) i.toNatClampNeg = 119
          · rw [if_pos q2, if_pos q2]
            rcases path_rel ht hT hC hi h0 c (r := (F_sx_faultInPath nux (14 + t.toNatClampNeg) i).1) (xi := (F_sx_faultInPath nux (14 + t.toNatClampNeg) i).2) (r' := (F_sm_readsPath num t).1) (xi' := (F_sm_readsPath num t).2) rfl rfl with ⟨g1, g2, g3, g4, g5, g6⟩ | ⟨g1, g2, g3⟩
            · rw [if_pos g1, if_neg (show ¬ (F_sm_readsPath num t).1 = 0 by rw [g2]; decide), iadd_3]
              exact ih m (i + 3) _ _ g3 g4 g5 (by omega) (by omega) (by omega) (by omega)
            · rw [if_neg g1, if_pos g2]
              exact ⟨g3.symm, fun e => absurd e g1⟩
          · rw [if_neg q2, if_neg q2]
            rcases bear_rel ht hT hC hi h0 c (r := (F_sx_faultInBearer nux (14 + t.toNatClampNeg) i).1) (xi := (F_sx_faultInBearer nux (14 + t.toNatClampNeg) i).2) (r' := (F_sm_readsBearer num t).1) (xi' := (F_sm_readsBearer num t).2) rfl rfl with ⟨g1, g2, g3, g4, g5, g6⟩ | ⟨g1, g2, g3⟩
            · rw [if_pos g1, if_neg (show ¬ (F_sm_readsBearer num t).1 = 0 by rw [g2]; decide), iadd_3]
              exact ih m (i + 3) _ _ g3 g4 g5 (by omega) (by omega) (by omega) (by omega)
            · rw [if_neg g1, if_pos g2]
              exact ⟨g3.symm, fun e => absurd e g1⟩
      · have yg : i ≥ num 5 t.toNatClampNeg := vv_ge.mpr (by omega)
        rw [if_pos yg, if_pos yg]
        exact ⟨rfl, fun _ => hC⟩
theorem parse_rel {t : Int32} {nux num : Nat → Nat → Int32} (ht : 0 ≤ t.toInt ∧ t.toInt ≤ 3) (hT : prT t.toNatClampNeg nux num) : (F_sx_faultIn nux (14 + t.toNatClampNeg)).1 = (F_sm_goesOn num t).1 ∧ ((F_sx_faultIn nux (14 + t.toNatClampNeg)).1 = -9 → prC (F_sx_faultIn nux (14 + t.toNatClampNeg)).2 (F_sm_goesOn num t).2) := by
  have htn := tC_of ht.1
  have z0 : (0 : Int32).toInt = 0 := rfl
  simp only [F_sx_faultIn, F_sm_goesOn, letv_eq]
  generalize hx1 : va_up nux 31 (upd (nux 31) 4 0) = x1
  generalize hx2 : va_up x1 31 (upd (x1 31) 5 0) = x2
  generalize hm1 : va_up num 0 (upd (num 0) 18 0) = m1
  generalize hm2 : va_up m1 0 (upd (m1 0) 19 0) = m2
  generalize hm3 : va_up m2 0 (upd (m2 0) 20 0) = m3
  have xk : ∀ k : Nat, k ≠ 31 → x2 k = nux k := fun k h => (up_k hx2 h).trans (up_k hx1 h)
  have mk : ∀ k : Nat, k ≠ 0 → m3 k = num k := fun k h => (up_k hm3 h).trans ((up_k hm2 h).trans (up_k hm1 h))
  have a4 : x2 31 4 = 0 := (up_f hx2 (by decide)).trans (up_v hx1).symm
  have a5 : x2 31 5 = 0 := (up_v hx2).symm
  have b18 : m3 0 18 = 0 := (up_f hm3 (by decide)).trans ((up_f hm2 (by decide)).trans (up_v hm1).symm)
  have b19 : m3 0 19 = 0 := (up_f hm3 (by decide)).trans (up_v hm2).symm
  have b20 : m3 0 20 = 0 := (up_v hm3).symm
  have hT3 : prT t.toNatClampNeg x2 m3 := prT_of hT (xk _ (by omega)) (xk _ (by omega)) (mk 5 (by decide)) (mk 6 (by decide))
  have hC3 : prC x2 m3 := by
    unfold prC
    rw [a4, a5, b19, b20]
    refine ⟨rfl, rfl, by decide, by decide, fun x hx => ?_, fun j hj => ?_, fun j hj => ?_⟩
    · exact absurd hx (Nat.not_lt_zero _)
    · exact absurd hj (Nat.not_lt_zero _)
    · exact absurd hj (Nat.not_lt_zero _)
  exact parse_loop ht 85 102 0 x2 m3 hT3 hC3 b18 (by decide) hT3.2.2.1 (by decide) (by decide)
theorem simT_prT {t : Int32} {mux mum : Nat → Nat → Int32} (okx : okR loX hiX mux) (okm : okR loM hiM mum) (h : simT mux mum) (ht : 0 ≤ t.toInt ∧ t.toInt ≤ 3) (hp : 0 ≤ (mum 5 t.toNatClampNeg).toInt) : prT t.toNatClampNeg mux mum := by
  have htn := tC_of ht.1
  rcases h t.toNatClampNeg (by omega) with ⟨a, b⟩ | ⟨a, b, c⟩
  · omega
  · refine ⟨b, c, hp, ?_, fun j => ?_⟩
    · have bd := (okm 5 t.toNatClampNeg).2
      exact bd
    · exact rX_bytes_s okx (27 + t.toNatClampNeg) (by omega) (by omega) j
theorem fault_rel {t r1 r2 : Int32} {mux mum xi1 xi2 : Nat → Nat → Int32} (okx : okR loX hiX mux) (okm : okR loM hiM mum) (h : simT mux mum) (h1 : (r1, xi1) = F_qx_fault mux t) (h2 : (r2, xi2) = F_qm_fault mum t) : r1 = r2 := by
  unfold F_qx_fault at h1
  unfold F_qm_fault at h2
  rcases refT_of (t := t) h with ⟨ct, lb, q1, q2⟩ | ⟨q1, q2⟩ | ⟨q1, q2⟩
  · rw [q1] at h1
    rw [q2] at h2
    simp only [letp_eq] at h1 h2
    rw [if_pos trivial] at h1
    rw [if_pos trivial] at h2
    have e1 : r1 = (F_sx_faultIn mux (14 + t.toNatClampNeg)).1 := congrArg Prod.fst h1
    have e2 : r2 = (F_sm_goesOn mum t).1 := congrArg Prod.fst h2
    rw [e1, e2]
    exact (parse_rel ct (simT_prT okx okm h ct lb)).1
  · rw [q1] at h1
    rw [q2] at h2
    simp only [letp_eq] at h1 h2
    rw [if_neg (show ¬ (-3 : Int32) = 0 by decide)] at h1 h2
    exact (congrArg Prod.fst h1).trans (congrArg Prod.fst h2).symm
  · rw [q1] at h1
    rw [q2] at h2
    simp only [letp_eq] at h1 h2
    rw [if_neg (show ¬ (-1 : Int32) = 0 by decide)] at h1 h2
    exact (congrArg Prod.fst h1).trans (congrArg Prod.fst h2).symm

