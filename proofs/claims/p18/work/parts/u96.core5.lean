-- ===== days, snow, send, keep, on =====
/-- numbers of cell 5 (the class) and cell 0 (the reference) alone are written -/
theorem core_nums {mux mum xi1 xi2 : Nat → Nat → Int32} (bd : bdM mum) (hC : core mux mum) (fx : ∀ c : Nat, c ≠ 5 → xi1 c = mux c) (fm : ∀ c : Nat, c ≠ 0 → xi2 c = mum c) (f8 : xi2 0 8 = mum 0 8) (f11 : xi2 0 11 = mum 0 11) (f15 : xi2 0 15 = mum 0 15) (f17 : xi2 0 17 = mum 0 17) (h2 : xi1 5 2 = xi2 0 13) (h3 : xi1 5 3 = xi2 0 14) (h4 : xi1 5 4 = mux 5 4) (hd : 0 ≤ (xi2 0 14).toInt ∧ (xi2 0 14).toInt ≤ 99) : core xi1 xi2 := by
  obtain ⟨hK, hE, ⟨s2, s3, s4, s6⟩, hday, hP, hL, hS, hA⟩ := hC
  obtain ⟨hb, hpa, hsent, hled⟩ := bd
  have cs := tC_of hsent.1
  have cl := tC_of hled.1
  refine ⟨?_, ?_, ⟨h2, h3, ?_, ?_⟩, hd, ?_, ?_, ?_, ?_⟩
  · unfold simK
    rw [fx 4 (by decide), fx 34 (by decide), fx 35 (by decide), fx 36 (by decide), f8, f11, fm 7 (by decide), fm 9 (by decide)]
    exact hK
  · unfold endR
    rw [f8, f11, fm 9 (by decide)]
    exact hE
  · rw [h4, f15]; exact s4
  · rw [fx 6 (by decide), f17]; exact s6
  · rw [f8, fx 46 (by decide), fm 8 (by decide)]; exact hP
  · rw [f8, f15, fm 10 (by decide)]
    exact letR_of hL (fun q hq => fx _ (by omega)) (fun _ _ _ _ => rfl)
  · unfold salR salN
    rw [f8, f15, f17, fm 14 (by decide)]
    intro s hs
    rw [fx (77 + s) (by omega), fx (117 + s) (by omega)]
    exact hS s hs
  · exact kepR_of hA (fun c hc => fx c (by omega)) (fm 15 (by decide)) f8
theorem days_rel {n r1 r2 : Int32} {mux mum xi1 xi2 : Nat → Nat → Int32} (okm : okR loM hiM mum) (hC : core mux mum) (h1 : (r1, xi1) = F_qx_days mux n) (h2 : (r2, xi2) = F_qm_days mum n) : r1 = r2 ∧ core xi1 xi2 := by
  have hC0 := hC
  obtain ⟨hK, hE, ⟨s2, s3, s4, s6⟩, hday, hP, hL, hS, hA⟩ := hC
  have z0 : (0 : Int32).toInt = 0 := rfl
  have z20 : (20 : Int32).toInt = 20 := rfl
  have z99 : (99 : Int32).toInt = 99 := rfl
  simp only [F_qx_days, letv_eq] at h1
  simp only [F_qm_days, letv_eq] at h2
  rw [s3] at h1
  by_cases cn : 0 ≤ n.toInt ∧ n.toInt ≤ 20
  · rw [if_neg (fun e => by have := vv_lt.mp e; omega), if_pos (vv_le.mpr (by omega))] at h1
    rw [if_pos (fm_in.mpr ⟨by omega, by omega⟩)] at h2
    have ad : (mum 0 14 + n : Int32).toInt = (mum 0 14).toInt + n.toInt := tI_add rfl rfl (by omega) (by omega)
    by_cases c : mum 0 14 + n ≤ (99 : Int32)
    · have c2 := vv_le.mp c
      rw [if_pos c] at h1 h2
      obtain ⟨u1, u2⟩ := Prod.mk.inj h1
      obtain ⟨v1, v2⟩ := Prod.mk.inj h2
      have u2 := u2.symm
      have v2 := v2.symm
      refine ⟨u1.trans v1.symm, core_nums (bd_of okm) hC0 (fun c hc => up_k u2 hc) (fun c hc => up_k v2 hc) (up_f v2 (by decide)) (up_f v2 (by decide)) (up_f v2 (by decide)) (up_f v2 (by decide)) ?_ ?_ (up_f u2 (by decide)) ?_⟩
      · rw [up_f u2 (by decide), up_f v2 (by decide)]; exact s2
      · rw [← up_v u2, ← up_v v2]
      · rw [← up_v v2]; omega
    · rw [if_neg c] at h1 h2
      cases h1
      cases h2
      exact ⟨rfl, hC0⟩
  · rw [if_neg (fun e => by have := fm_in.mp e; omega)] at h2
    cases h2
    by_cases c1 : n < (0 : Int32)
    · rw [if_pos c1] at h1
      cases h1
      exact ⟨rfl, hC0⟩
    · have c2 : ¬ n.toInt < (0 : Int32).toInt := fun e => c1 (vv_lt.mpr e)
      rw [if_neg c1, if_neg (fun e => by have := vv_le.mp e; omega)] at h1
      cases h1
      exact ⟨rfl, hC0⟩
theorem snow_or {y i : Int32} (h0 : 0 ≤ i.toInt) (h1 : i.toInt ≤ 31) : (y &&& (((1 : Int32) <<< (i &&& 31)) ^^^ (-1))) ||| ((1 : Int32) <<< (i &&& 31)) = y ||| ((1 : Int32) <<< (i &&& 31)) := by
  apply b_ext
  intro j hj
  rw [b_or, b_or, b_and, b_xor, b_m1 j hj]
  cases bt y j <;> cases bt ((1 : Int32) <<< (i &&& 31)) j <;> rfl
theorem shl_0 : ∀ n, n < 32 → ((0 : Int32) <<< (nI n &&& 31)) = 0 := by decide +kernel
theorem snow_rel {i v r1 r2 : Int32} {mux mum xi1 xi2 : Nat → Nat → Int32} (okm : okR loM hiM mum) (hC : core mux mum) (h1 : (r1, xi1) = F_qx_snow mux i v) (h2 : (r2, xi2) = F_qm_snow mum i v) : r1 = r2 ∧ core xi1 xi2 := by
  have hC0 := hC
  obtain ⟨hK, hE, ⟨s2, s3, s4, s6⟩, hday, hP, hL, hS, hA⟩ := hC
  have hp : 0 ≤ (mum 0 11).toInt ∧ (mum 0 11).toInt ≤ 12 := okm 0 11
  have z0 : (0 : Int32).toInt = 0 := rfl
  have z1 : (1 : Int32).toInt = 1 := rfl
  have s1 : (mum 0 11 - 1 : Int32).toInt = (mum 0 11).toInt - 1 := tI_sub rfl z1 (by omega) (by omega)
  simp only [F_qx_snow, letv_eq] at h1
  simp only [F_qm_snow, letv_eq] at h2
  rw [hK.2.1, s2] at h1
  by_cases ci : 0 ≤ i.toInt ∧ i.toInt < (mum 0 11).toInt
  · rw [if_neg (fun e => by have := vv_lt.mp e; omega), if_neg (fun e => by have := vv_ge.mp e; omega)] at h1
    rw [if_pos (fm_in.mpr ⟨by omega, by omega⟩)] at h2
    by_cases cv : 0 ≤ v.toInt ∧ v.toInt ≤ 1
    · rw [if_neg (fun e => by have := vv_lt.mp e; omega), if_pos (vv_le.mpr (by omega))] at h1
      rw [if_pos (fm_in.mpr ⟨by omega, by omega⟩)] at h2
      have key : ∀ w : Int32, xi1 = va_up mux 5 (upd (mux 5) 2 w) → xi2 = va_up mum 0 (upd (mum 0) 13 w) → core xi1 xi2 := fun w u2 v2 => by
        have u2 := u2.symm
        have v2 := v2.symm
        refine core_nums (bd_of okm) hC0 (fun c hc => up_k u2 hc) (fun c hc => up_k v2 hc) (up_f v2 (by decide)) (up_f v2 (by decide)) (up_f v2 (by decide)) (up_f v2 (by decide)) ?_ ?_ (up_f u2 (by decide)) ?_
        · rw [← up_v u2, ← up_v v2]
        · rw [up_f u2 (by decide), up_f v2 (by decide)]; exact s3
        · rw [up_f v2 (by decide)]; exact hday
      by_cases c1 : v = 1
      · rw [if_pos c1] at h2
        rw [c1, snow_or ci.1 (by omega)] at h1
        obtain ⟨u1, u2⟩ := Prod.mk.inj h1
        obtain ⟨v1, v2⟩ := Prod.mk.inj h2
        exact ⟨u1.trans v1.symm, key _ u2 v2⟩
      · have v0 : v = 0 := Int32.toInt_inj.mp (by
          have : ¬ v.toInt = (1 : Int32).toInt := fun e => c1 (Int32.toInt_inj.mp e)
          omega)
        have hc := tC_of ci.1
        have e0 : ((0 : Int32) <<< (i &&& 31)) = 0 := by
          rw [nI_at ci.1]
          exact shl_0 _ (by omega)
        rw [if_neg c1] at h2
        rw [v0, e0, ior_0] at h1
        obtain ⟨u1, u2⟩ := Prod.mk.inj h1
        obtain ⟨v1, v2⟩ := Prod.mk.inj h2
        exact ⟨u1.trans v1.symm, key _ u2 v2⟩
    · rw [if_neg (fun e => by have := fm_in.mp e; omega)] at h2
      cases h2
      by_cases c1 : v < (0 : Int32)
      · rw [if_pos c1] at h1
        cases h1
        exact ⟨rfl, hC0⟩
      · have c2 : ¬ v.toInt < (0 : Int32).toInt := fun e => c1 (vv_lt.mpr e)
        rw [if_neg c1, if_neg (fun e => by have := vv_le.mp e; omega)] at h1
        cases h1
        exact ⟨rfl, hC0⟩
  · rw [if_neg (fun e => by have := fm_in.mp e; omega)] at h2
    cases h2
    by_cases c1 : i < (0 : Int32)
    · rw [if_pos c1] at h1
      cases h1
      exact ⟨rfl, hC0⟩
    · have c2 : ¬ i.toInt < (0 : Int32).toInt := fun e => c1 (vv_lt.mpr e)
      rw [if_neg c1, if_pos (vv_ge.mpr (by omega))] at h1
      cases h1
      exact ⟨rfl, hC0⟩
theorem pair_eq {mux mum : Nat → Nat → Int32} {x y : Int32} (hK : simK mux mum) (hb : 0 ≤ (mum 0 8).toInt ∧ (mum 0 8).toInt ≤ 7) : (F_sx_isPair mux x y = 1 ∧ F_sm_areTwo mum x y = 1 ∧ (0 ≤ x.toInt ∧ x.toInt < (mum 0 8).toInt) ∧ (0 ≤ y.toInt ∧ y.toInt < (mum 0 8).toInt)) ∨ (¬ F_sx_isPair mux x y = 1 ∧ ¬ F_sm_areTwo mum x y = 1) := by
  have ax : F_sx_has mux x = 1 ↔ F_sm_isOne mum x = 1 := by rw [fx_has, fm_isOne hb, hK.1]
  have ay : F_sx_has mux y = 1 ↔ F_sm_isOne mum y = 1 := by rw [fx_has, fm_isOne hb, hK.1]
  unfold F_sx_isPair F_sm_areTwo
  by_cases c1 : F_sm_isOne mum x = 1
  · rw [if_pos (ax.mpr c1), if_pos c1]
    by_cases c2 : F_sm_isOne mum y = 1
    · rw [if_pos (ay.mpr c2), if_pos c2]
      by_cases c3 : x = y
      · rw [if_pos c3]
        exact Or.inr ⟨by decide, by decide⟩
      · rw [if_neg c3]
        exact Or.inl ⟨rfl, rfl, (fm_isOne hb).mp c1, (fm_isOne hb).mp c2⟩
    · rw [if_neg (fun e => c2 (ay.mp e)), if_neg c2]
      exact Or.inr ⟨by decide, by decide⟩
  · rw [if_neg (fun e => c1 (ax.mp e)), if_neg c1]
    exact Or.inr ⟨by decide, by decide⟩
theorem send_rel {x y w l r1 r2 : Int32} {mux mum xi1 xi2 : Nat → Nat → Int32} (okm : okR loM hiM mum) (hC : core mux mum) (h1 : (r1, xi1) = F_qx_send mux x y w l) (h2 : (r2, xi2) = F_qm_send mum x y w l) : r1 = r2 ∧ core xi1 xi2 := by
  have hC0 := hC
  obtain ⟨hK, hE, ⟨s2, s3, s4, s6⟩, hday, hP, hL, hS, hA⟩ := hC
  have hb : 0 ≤ (mum 0 8).toInt ∧ (mum 0 8).toInt ≤ 7 := okm 0 8
  have hsent : 0 ≤ (mum 0 15).toInt ∧ (mum 0 15).toInt ≤ 4 := okm 0 15
  have hled : 0 ≤ (mum 0 17).toInt ∧ (mum 0 17).toInt ≤ 40 := okm 0 17
  have cs := tC_of hsent.1
  have cl := tC_of hled.1
  have z0 : (0 : Int32).toInt = 0 := rfl
  have z1 : (1 : Int32).toInt = 1 := rfl
  have z9 : (9 : Int32).toInt = 9 := rfl
  have z99 : (99 : Int32).toInt = 99 := rfl
  have z4 : (4 : Int32).toInt = 4 := rfl
  have h2' := h2
  unfold F_qx_send at h1
  unfold F_qm_send at h2
  have none : (r1, xi1) = (-1, mux) → (r2, xi2) = (-1, mum) → r1 = r2 ∧ core xi1 xi2 := fun a b => by
    cases a
    cases b
    exact ⟨rfl, hC0⟩
  rcases pair_eq (x := x) (y := y) hK hb with ⟨p1, p2, px, py⟩ | ⟨p1, p2⟩
  · rw [if_pos p1] at h1
    rw [if_pos p2] at h2
    by_cases cw : 0 ≤ w.toInt ∧ w.toInt ≤ 99
    · have iw : F_sm_in w 0 99 = 1 := fm_in.mpr ⟨by omega, by omega⟩
      rw [if_neg (fun e => by have := vv_lt.mp e; omega), if_neg (fun e => by have := vv_gt.mp e; omega)] at h1
      rw [if_pos iw] at h2
      by_cases cf : 0 ≤ l.toInt ∧ l.toInt ≤ 9
      · have il : F_sm_in l 0 9 = 1 := fm_in.mpr ⟨by omega, by omega⟩
        rw [if_neg (fun e => by have := vv_lt.mp e; omega), if_pos (vv_le.mpr (by omega))] at h1
        rw [if_pos il] at h2
        simp only [letv_eq] at h1
        rw [s4] at h1
        by_cases c4 : (mum 0 15).toInt < 4
        · rw [if_pos (vv_lt.mpr (by omega)), s3] at h1
          obtain ⟨m1, m2, m3, m4, m5, q0, q1, q2, q3, q4, q5, q6, q7, q8, q9⟩ := sd_m p2 iw il ⟨hsent.1, by omega⟩ h2'
          obtain ⟨u1, u2⟩ := Prod.mk.inj h1
          have u2 := u2.symm
          obtain ⟨b0, c0, c1, c2, c3, c4', c5, c6, c7, c8, c9⟩ := bg_x (mu := mux) (kk := 61 + (mum 0 15).toNatClampNeg) (vx := x) (vy := y) (vw := w) (vl := l) (vd := mum 0 14) rfl
          generalize F_sx_begin mux (61 + (mum 0 15).toNatClampNeg) x y w l (mum 0 14) = nb at u2 b0 c0 c1 c2 c3 c4' c5 c6 c7 c8 c9
          have fx : ∀ c : Nat, c ≠ 5 → c ≠ 61 + (mum 0 15).toNatClampNeg → xi1 c = mux c := fun c h h' => (up_k u2 h).trans (b0 c h')
          have n5 : nb 5 = mux 5 := b0 5 (by omega)
          have ad : (mum 0 15 + 1 : Int32).toInt = (mum 0 15).toInt + 1 := tI_add rfl z1 (by omega) (by omega)
          have adn := tC_of (v := mum 0 15 + 1) (by omega)
          have xl : xi1 (61 + (mum 0 15).toNatClampNeg) = nb (61 + (mum 0 15).toNatClampNeg) := up_k u2 (by omega)
          refine ⟨u1.trans m1.symm, ?_, ?_, ⟨?_, ?_, ?_, ?_⟩, ?_, ?_, ?_, ?_, ?_⟩
          · unfold simK
            rw [fx 4 (by decide) (by omega), fx 34 (by decide) (by omega), fx 35 (by decide) (by omega), fx 36 (by decide) (by omega), m3 8 (by decide), m3 11 (by decide), m2 7 (by decide) (by decide), m2 9 (by decide) (by decide)]
            exact hK
          · unfold endR
            rw [m3 8 (by decide), m3 11 (by decide), m2 9 (by decide) (by decide)]
            exact hE
          · rw [up_f u2 (by decide), n5, m3 13 (by decide)]; exact s2
          · rw [up_f u2 (by decide), n5, m3 14 (by decide)]; exact s3
          · rw [← up_v u2, m4]
          · rw [fx 6 (by decide) (by omega), m3 17 (by decide)]; exact s6
          · rw [m3 14 (by decide)]; exact hday
          · rw [m3 8 (by decide), fx 46 (by decide) (by omega), m2 8 (by decide) (by decide)]; exact hP
          · rw [m3 8 (by decide), m4]
            intro q hq
            by_cases e : q = (mum 0 15).toNatClampNeg
            · subst e
              show (∀ f : Nat, f < 10 → xi1 (61 + (mum 0 15).toNatClampNeg) f = xi2 10 (10 * (mum 0 15).toNatClampNeg + pfm f)) ∧ (0 ≤ (xi1 (61 + (mum 0 15).toNatClampNeg) 1).toInt ∧ (xi1 (61 + (mum 0 15).toNatClampNeg) 1).toInt < (mum 0 8).toInt) ∧ (0 ≤ (xi1 (61 + (mum 0 15).toNatClampNeg) 5).toInt ∧ (xi1 (61 + (mum 0 15).toNatClampNeg) 5).toInt < (mum 0 8).toInt) ∧ (xi1 (61 + (mum 0 15).toNatClampNeg) 9 = 0 ∨ xi1 (61 + (mum 0 15).toNatClampNeg) 9 = 1)
              rw [xl]
              refine ⟨fun f hf => ?_, by rw [c1]; exact py, by rw [c5]; exact px, Or.inl c9⟩
              match f, hf with
              | 0, _ => exact c0.trans q0.symm
              | 1, _ => exact c1.trans q1.symm
              | 2, _ => exact c2.trans q2.symm
              | 3, _ => exact c3.trans q3.symm
              | 4, _ => exact c4'.trans q4.symm
              | 5, _ => exact c5.trans q5.symm
              | 6, _ => exact c6.trans q6.symm
              | 7, _ => exact c7.trans q8.symm
              | 8, _ => exact c8.trans q7.symm
              | 9, _ => exact c9.trans q9.symm
              | f + 10, hf => exact absurd hf (by omega)
            · obtain ⟨qf, r1', r5, r9⟩ : oneR (mum 0 8).toInt (mux (61 + q)) (mum 10) q := hL q (by omega)
              have pl : ∀ f : Nat, f < 10 → pfm f < 10 := by decide
              show (∀ f : Nat, f < 10 → xi1 (61 + q) f = xi2 10 (10 * q + pfm f)) ∧ (0 ≤ (xi1 (61 + q) 1).toInt ∧ (xi1 (61 + q) 1).toInt < (mum 0 8).toInt) ∧ (0 ≤ (xi1 (61 + q) 5).toInt ∧ (xi1 (61 + q) 5).toInt < (mum 0 8).toInt) ∧ (xi1 (61 + q) 9 = 0 ∨ xi1 (61 + q) 9 = 1)
              rw [fx (61 + q) (by omega) (by omega)]
              refine ⟨fun f hf => ?_, r1', r5, r9⟩
              have := pl f hf
              rw [m5 _ (by omega)]
              exact qf f hf
          · unfold salR salN
            rw [m3 8 (by decide), m3 17 (by decide), m4, m2 14 (by decide) (by decide)]
            intro s hs
            rw [fx (77 + s) (by omega) (by omega), fx (117 + s) (by omega) (by omega)]
            obtain ⟨⟨a1, a2, a3⟩, b, c, d, e, f⟩ := hS s hs
            exact ⟨⟨a1, a2, by omega⟩, b, c, d, e, f⟩
          · exact kepR_of hA (fun c hc => fx c (by omega) (by omega)) (m2 15 (by decide) (by decide)) (m3 8 (by decide))
        · have e4 : mum 0 15 = 4 := Int32.toInt_inj.mp (by omega)
          rw [if_neg (fun e => by have := vv_lt.mp e; omega)] at h1
          simp only [letv_eq] at h2
          rw [if_pos e4] at h2
          cases h1
          cases h2
          exact ⟨rfl, hC0⟩
      · rw [if_neg (fun e => by have := fm_in.mp e; omega)] at h2
        refine none ?_ h2
        rw [h1]
        by_cases c1 : l < (0 : Int32)
        · rw [if_pos c1]
        · have c2 : ¬ l.toInt < (0 : Int32).toInt := fun e => c1 (vv_lt.mpr e)
          rw [if_neg c1, if_neg (fun e => by have := vv_le.mp e; omega)]
    · rw [if_neg (fun e => by have := fm_in.mp e; omega)] at h2
      refine none ?_ h2
      rw [h1]
      by_cases c1 : w < (0 : Int32)
      · rw [if_pos c1]
      · have c2 : ¬ w.toInt < (0 : Int32).toInt := fun e => c1 (vv_lt.mpr e)
        rw [if_neg c1, if_pos (vv_gt.mpr (by omega))]
  · rw [if_neg p1] at h1
    rw [if_neg p2] at h2
    exact none h1 h2

