-- ===== mark =====
theorem kind_of {y d : Int32} (hd : ¬ d = 0) : F_sx_isOfKind y d = (if y = d then 1 else if d = 1 then (if y = 4 then 1 else 0) else if d = 2 then (if y = 5 then 1 else 0) else 0) := by
  unfold F_sx_isOfKind
  by_cases c : y = d
  · rw [if_pos c, if_pos c]
  · rw [if_neg c, if_neg c, if_neg hd]
    by_cases c4 : y = 4
    · subst c4
      rw [if_pos rfl]
      by_cases d1 : d = 1
      · rw [if_pos d1, if_pos d1, if_pos rfl]
      · rw [if_neg d1, if_neg d1]
        by_cases d2 : d = 2
        · rw [if_pos d2, if_neg (by decide)]
        · rw [if_neg d2]
    · rw [if_neg c4]
      by_cases c5 : y = 5
      · subst c5
        rw [if_pos rfl]
        by_cases d2 : d = 2
        · have d1 : ¬ d = 1 := by rw [d2]; decide
          rw [if_pos d2, if_neg d1, if_pos d2, if_pos rfl]
        · rw [if_neg d2]
          by_cases d1 : d = 1
          · rw [if_pos d1, if_neg (by decide)]
          · rw [if_neg d1, if_neg d2]
      · rw [if_neg c5]
        by_cases d1 : d = 1
        · rw [if_pos d1, if_neg c4]
        · rw [if_neg d1]
          by_cases d2 : d = 2
          · rw [if_pos d2, if_neg c5]
          · rw [if_neg d2]
theorem isA_eq {mum : Nat → Nat → Int32} {x d : Int32} (hd : ¬ d = 0) : F_sm_isA mum x d = F_sx_isOfKind (mum 7 x.toNatClampNeg) d := by
  rw [kind_of hd]
  rfl
theorem friends_loop {mux mum : Nat → Nat → Int32} {x : Int32} (hK : simK mux mum) (hb : 0 ≤ (mum 0 8).toInt ∧ (mum 0 8).toInt ≤ 7) : ∀ (n : Nat) (v i : Int32), 0 ≤ i.toInt → i.toInt ≤ 7 → (7 - i.toInt).toNat < n → L_sx_friendsNear_18_0 mux (F_sm_besideOf mum x) n v i = L_sm_friendsBeside_4_0 mum x n v i := by
  intro n
  induction n with
  | zero => intro v i _ _ h; exact absurd h (Nat.not_lt_zero _)
  | succ n ih =>
    intro v i h0 h1 hn
    have hc := tC_of h0
    have hbn := tC_of hb.1
    rw [L_sx_friendsNear_18_0, L_sm_friendsBeside_4_0]
    simp only [letv_eq]
    rw [hK.1]
    by_cases c : i ≥ mum 0 8
    · rw [if_pos c, if_pos c]
    · have c2 : ¬ (mum 0 8).toInt ≤ i.toInt := fun h => c (vv_ge.mpr h)
      have ai : (i + 1 : Int32).toInt = i.toInt + 1 := tI_add rfl (rfl : (1 : Int32).toInt = 1) (by omega) (by omega)
      have ihh : ∀ w, L_sx_friendsNear_18_0 mux (F_sm_besideOf mum x) n w (i + 1) = L_sm_friendsBeside_4_0 mum x n w (i + 1) := fun w => ih w (i + 1) (by omega) (by omega) (by omega)
      rw [if_neg c, if_neg c, isA_eq (show ¬ (2 : Int32) = 0 by decide), hK.2.2.1 i.toNatClampNeg (by omega)]
      cases hq : bt (F_sm_besideOf mum x) i.toNatClampNeg
      · have hh := hb_f h0 (by omega) hq
        rw [if_pos hh.1, if_neg hh.2]
        exact ihh _
      · have hh := hb_t h0 (by omega) hq
        rw [if_neg hh.1, if_pos hh.2]
        by_cases c3 : F_sx_isOfKind (mum 7 i.toNatClampNeg) 2 = 0
        · rw [if_pos c3, if_pos c3]
          exact ihh _
        · rw [if_neg c3, if_neg c3]
          exact ihh _
/-- what mark answers at its end, by the kind that is asked for -/
def mkE (mum : Nat → Nat → Int32) (x d A B : Int32) : Int32 := if d.toInt < 1 ∨ 4 < d.toInt then B else if d.toInt = 1 then F_sm_asksOf mum x 0 - 1 else if d.toInt = 2 then F_sm_friendsBeside mum x else if d.toInt = 3 then A else F_sm_asksOf mum x 10
theorem iadd_0 (v : Int32) : v + 0 = v := Int32.add_zero v
theorem mark_loop {mux mum : Nat → Nat → Int32} {x d : Int32} (hs : 0 ≤ (mum 0 15).toInt ∧ (mum 0 15).toInt ≤ 4) (s4 : mux 5 4 = mum 0 15) (hL : letR (mum 0 8).toInt (mum 0 15).toNatClampNeg (fun k => mux (61 + k)) (mum 10)) : ∀ (n : Nat) (a b i : Int32), 0 ≤ i.toInt → i.toInt ≤ 4 → (4 - i.toInt).toNat < n → (L_qm_mark_42_0 d x n a b i mum).1 = mkE mum x d (L_sx_unreadTo_4_0 mux x n a i) (L_sx_paidForUnread_4_0 mux x n b i) := by
  intro n
  induction n with
  | zero => intro a b i _ _ h; exact absurd h (Nat.not_lt_zero _)
  | succ n ih =>
    intro a b i h0 h4 hn
    have hc := tC_of h0
    have hsn := tC_of hs.1
    rw [L_qm_mark_42_0, L_sx_unreadTo_4_0, L_sx_paidForUnread_4_0]
    simp only [letv_eq, iadd_0]
    rw [s4]
    by_cases c : i ≥ mum 0 15
    · rw [if_pos c, if_pos c, if_pos c]
      unfold mkE
      repeat' split
      all_goals rfl
    · have c2 : ¬ (mum 0 15).toInt ≤ i.toInt := fun h => c (vv_ge.mpr h)
      have ai : (i + 1 : Int32).toInt = i.toInt + 1 := tI_add rfl (rfl : (1 : Int32).toInt = 1) (by omega) (by omega)
      have hk : 0 ≤ i.toInt ∧ i.toInt ≤ 3 := ⟨h0, by omega⟩
      obtain ⟨lf, l1, l5, l9⟩ : oneR (mum 0 8).toInt (mux (61 + i.toNatClampNeg)) (mum 10) i.toNatClampNeg := hL i.toNatClampNeg (by omega)
      have g1 : mux (61 + i.toNatClampNeg) 1 = mum 10 (10 * i.toNatClampNeg + 1) := lf 1 (by decide)
      have g5 : mux (61 + i.toNatClampNeg) 5 = mum 10 (10 * i.toNatClampNeg + 5) := lf 5 (by decide)
      have g6 : mux (61 + i.toNatClampNeg) 6 = mum 10 (10 * i.toNatClampNeg + 6) := lf 6 (by decide)
      have g9 : mux (61 + i.toNatClampNeg) 9 = mum 10 (10 * i.toNatClampNeg + 9) := lf 9 (by decide)
      have e9 : F_sm_isRead mum i = mux (61 + i.toNatClampNeg) 9 := by
        simp only [F_sm_isRead, letv_eq]
        rw [fm_letterOf hk (by decide), show (9 : Int32).toNatClampNeg = 9 from rfl, ← g9]
        rcases l9 with e | e <;> rw [e] <;> decide
      have e1 : F_sm_letterOf mum i 1 = mux (61 + i.toNatClampNeg) 1 := by rw [fm_letterOf hk (by decide), g1]; rfl
      have e6 : F_sm_letterOf mum i 6 = mux (61 + i.toNatClampNeg) 6 := by rw [fm_letterOf hk (by decide), g6]; rfl
      have e5 : F_sm_letterOf5 mum i = mux (61 + i.toNatClampNeg) 5 := by rw [fm_letterOf5 hk, g5]
      have ihh : ∀ a b, (L_qm_mark_42_0 d x n a b (i + 1) mum).1 = mkE mum x d (L_sx_unreadTo_4_0 mux x n a (i + 1)) (L_sx_paidForUnread_4_0 mux x n b (i + 1)) := fun a b => ih a b (i + 1) (by omega) (by omega) (by omega)
      rw [if_neg c, if_neg c, if_neg c, e1, e5, e6, e9]
      by_cases q1 : mux (61 + i.toNatClampNeg) 1 = x
      · rw [if_pos q1, if_pos q1]
        by_cases q9 : mux (61 + i.toNatClampNeg) 9 = 0
        · simp only [if_pos q9]
          by_cases q5 : mux (61 + i.toNatClampNeg) 5 = x
          · simp only [if_pos q5]
            exact ihh _ _
          · simp only [if_neg q5]
            exact ihh _ _
        · simp only [if_neg q9]
          by_cases q5 : mux (61 + i.toNatClampNeg) 5 = x
          · simp only [if_pos q5]
            exact ihh _ _
          · simp only [if_neg q5]
            exact ihh _ _
      · rw [if_neg q1, if_neg q1]
        by_cases q9 : mux (61 + i.toNatClampNeg) 9 = 0
        · simp only [if_pos q9]
          by_cases q5 : mux (61 + i.toNatClampNeg) 5 = x
          · simp only [if_pos q5]
            exact ihh _ _
          · simp only [if_neg q5]
            exact ihh _ _
        · simp only [if_neg q9]
          by_cases q5 : mux (61 + i.toNatClampNeg) 5 = x
          · simp only [if_pos q5]
            exact ihh _ _
          · simp only [if_neg q5]
            exact ihh _ _
theorem mark_rel {x d r1 r2 : Int32} {mux mum xi1 xi2 : Nat → Nat → Int32} (okm : okR loM hiM mum) (hC : core mux mum) (h1 : (r1, xi1) = F_qx_mark mux x d) (h2 : (r2, xi2) = F_qm_mark mum x d) : r1 = r2 := by
  obtain ⟨hK, hE, ⟨s2, s3, s4, s6⟩, hday, hP, hL, hS, hA⟩ := hC
  have hb : 0 ≤ (mum 0 8).toInt ∧ (mum 0 8).toInt ≤ 7 := okm 0 8
  have hp : 0 ≤ (mum 0 11).toInt ∧ (mum 0 11).toInt ≤ 12 := okm 0 11
  have hsent : 0 ≤ (mum 0 15).toInt ∧ (mum 0 15).toInt ≤ 4 := okm 0 15
  have cb := tC_of hb.1
  have z0 : (0 : Int32).toInt = 0 := rfl
  have z1 : (1 : Int32).toInt = 1 := rfl
  have z5 : (5 : Int32).toInt = 5 := rfl
  unfold F_qx_mark at h1
  unfold F_qm_mark at h2
  by_cases cx : 0 ≤ x.toInt ∧ x.toInt < (mum 0 8).toInt
  · have hx := tC_of cx.1
    rw [if_pos (fx_has.mpr (by rw [hK.1]; exact cx))] at h1
    rw [if_pos ((fm_isOne hb).mpr cx)] at h2
    by_cases cd : 1 ≤ d.toInt ∧ d.toInt ≤ 5
    · have d0 : ¬ d = 0 := fun e => by rw [e] at cd; exact absurd cd.1 (by decide)
      rw [if_neg (fun e => by have := vv_le.mp e; omega), if_pos (vv_le.mpr (by omega))] at h1
      rw [if_pos (fm_in.mpr ⟨by omega, by omega⟩)] at h2
      simp only [letv_eq, letp_eq] at h1 h2
      rw [hK.2.2.1 x.toNatClampNeg (by omega)] at h1
      rw [isA_eq d0] at h2
      by_cases c0 : F_sx_isOfKind (mum 7 x.toNatClampNeg) d = 0
      · rw [if_pos c0] at h1 h2
        exact ((Prod.mk.inj h1).1.trans fx_found.1).trans ((Prod.mk.inj h2).1.trans fm_meet.1).symm
      · rw [if_neg c0] at h1 h2
        have e2 := mark_loop (mux := mux) (mum := mum) (x := x) (d := d) hsent s4 hL 7 0 0 0 (by decide) (by decide) (by decide)
        rw [p_fst h2] at e2
        rw [e2]
        have f0 : F_sm_asksOf mum x 0 = F_sx_priceAsked (mum 7 x.toNatClampNeg) 0 := rfl
        have f10 : F_sm_asksOf mum x 10 = F_sx_priceAsked (mum 7 x.toNatClampNeg) 10 := rfl
        have p00 : F_sx_priceAsked 0 0 = 1 := by decide
        have fr : F_sx_friendsNear mux x = F_sm_friendsBeside mum x := by
          simp only [F_sx_friendsNear, letv_eq]
          rw [near_eq hK hp s2]
          exact friends_loop hK hb 10 0 0 (by decide) (by decide) (by decide)
        unfold mkE
        rw [f0, f10]
        rw [p00, fr] at h1
        by_cases c1 : d.toInt < 1 ∨ 4 < d.toInt
        · rw [if_pos c1] at h1
          rw [if_pos c1]
          exact (Prod.mk.inj h1).1
        · rw [if_neg c1] at h1
          rw [if_neg c1]
          by_cases c2 : d.toInt = 1
          · rw [if_pos c2] at h1
            rw [if_pos c2]
            exact (Prod.mk.inj h1).1
          · rw [if_neg c2] at h1
            rw [if_neg c2]
            by_cases c3 : d.toInt = 2
            · rw [if_pos c3] at h1
              rw [if_pos c3]
              exact (Prod.mk.inj h1).1
            · rw [if_neg c3] at h1
              rw [if_neg c3]
              by_cases c4 : d.toInt = 3
              · rw [if_pos c4] at h1
                rw [if_pos c4]
                exact (Prod.mk.inj h1).1
              · rw [if_neg c4] at h1
                rw [if_neg c4]
                exact (Prod.mk.inj h1).1
    · rw [if_neg (fun e => by have := fm_in.mp e; omega)] at h2
      by_cases c1 : d ≤ (0 : Int32)
      · rw [if_pos c1] at h1
        exact (Prod.mk.inj h1).1.trans (Prod.mk.inj h2).1.symm
      · have c2 : ¬ d.toInt ≤ (0 : Int32).toInt := fun e => c1 (vv_le.mpr e)
        rw [if_neg c1, if_neg (fun e => by have := vv_le.mp e; omega)] at h1
        exact (Prod.mk.inj h1).1.trans (Prod.mk.inj h2).1.symm
  · rw [if_neg (fun e => cx (by have := fx_has.mp e; rw [hK.1] at this; exact this))] at h1
    rw [if_neg (fun e => cx ((fm_isOne hb).mp e))] at h2
    exact (Prod.mk.inj h1).1.trans (Prod.mk.inj h2).1.symm

