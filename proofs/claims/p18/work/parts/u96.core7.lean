-- ===== undo =====
def coreN (c : Int32) (mux mum : Nat → Nat → Int32) : Prop := simK mux mum ∧ endR mum ∧ (mux 5 2 = mum 0 13 ∧ mux 5 3 = mum 0 14 ∧ mux 5 4 = mum 0 15 ∧ mux 6 1 = c) ∧ (0 ≤ (mum 0 14).toInt ∧ (mum 0 14).toInt ≤ 99) ∧ (∀ x : Nat, x < (mum 0 8).toNatClampNeg → mux 46 x = mum 8 x) ∧ letR (mum 0 8).toInt (mum 0 15).toNatClampNeg (fun k => mux (61 + k)) (mum 10) ∧ salN c.toNatClampNeg mux mum ∧ kepR mux mum
theorem ul_x {mu : Nat → Nat → Int32} {xi : Nat → Nat → Int32} {S K : Nat} (hc : 1 ≤ (mu 6 1).toInt ∧ (mu 6 1).toInt ≤ 40) (hS : (mu 6 1).toInt = (S : Int) + 1) (hK : (mu (77 + S) 1).toNatClampNeg = K) (hK4 : K < 4) (h : xi = F_sx_undoLast mu) : (∀ c : Nat, c ≠ 6 → c ≠ 46 → c ≠ 61 + K → xi c = mu c) ∧ xi 6 1 = mu 6 1 - 1 ∧ (∀ x : Nat, x < 7 → xi 46 x = mu (117 + S) x) ∧ (∀ f : Nat, f < 5 → xi (61 + K) f = mu (61 + K) f) ∧ xi (61 + K) 5 = mu (77 + S) 2 ∧ xi (61 + K) 6 = mu (77 + S) 5 ∧ xi (61 + K) 7 = mu (77 + S) 6 ∧ xi (61 + K) 8 = mu (61 + K) 8 - 1 ∧ xi (61 + K) 9 = 0 := by
  have z0 : (0 : Int32).toInt = 0 := rfl
  unfold F_sx_undoLast at h
  obtain ⟨y1, e_y1, h⟩ := letv_out h
  rw [if_pos (vv_gt.mpr (by rw [← e_y1]; omega))] at h
  obtain ⟨t3, e_t3, h⟩ := letv_out h
  obtain ⟨nu4, e_nu4, h⟩ := letv_out h
  obtain ⟨y8, e_y8, h⟩ := letv_out h
  obtain ⟨y10, e_y10, h⟩ := letv_out h
  obtain ⟨nu11, e_nu11, h⟩ := letv_out h
  obtain ⟨y17, e_y17, h⟩ := letv_out h
  obtain ⟨nu18, e_nu18, h⟩ := letv_out h
  obtain ⟨y26, e_y26, h⟩ := letv_out h
  obtain ⟨nu27, e_nu27, h⟩ := letv_out h
  obtain ⟨y37, e_y37, h⟩ := letv_out h
  obtain ⟨t38, e_t38, h⟩ := letv_out h
  obtain ⟨nu39, e_nu39, h⟩ := letv_out h
  obtain ⟨nu50, e_nu50, h⟩ := letv_out h
  obtain ⟨nu63, e_nu63, h⟩ := letv_out h
  have a3 : t3.toInt = (S : Int) := by
    have : (y1 - 1 : Int32).toInt = y1.toInt - 1 := tI_sub rfl (rfl : (1 : Int32).toInt = 1) (by rw [← e_y1]; omega) (by rw [← e_y1]; omega)
    rw [← e_t3, this, ← e_y1]
    omega
  have b3 := tC_of (v := t3) (by omega)
  have n3 : t3.toNatClampNeg = S := by omega
  have hS40 : S < 40 := by omega
  have qK : y8.toNatClampNeg = K := by
    rw [← e_y8, n3, show nu4 (77 + S) 1 = mu (77 + S) 1 from congrFun (up_k e_nu4 (by omega)) 1]
    exact hK
  rw [n3] at e_y8 e_y10 e_y17 e_y26 e_nu63
  rw [qK] at e_nu11 e_nu18 e_nu27 e_y37 e_nu39 e_nu50
  have q_y10 : y10 = mu (77 + S) 2 := e_y10.symm.trans (congrFun (up_k e_nu4 (by omega)) 2)
  have q_y17 : y17 = mu (77 + S) 5 := e_y17.symm.trans ((congrFun (up_k e_nu11 (by omega)) 5).trans (congrFun (up_k e_nu4 (by omega)) 5))
  have q_y26 : y26 = mu (77 + S) 6 := e_y26.symm.trans ((congrFun (up_k e_nu18 (by omega)) 6).trans ((congrFun (up_k e_nu11 (by omega)) 6).trans (congrFun (up_k e_nu4 (by omega)) 6)))
  have q_y37 : y37 = mu (61 + K) 8 := e_y37.symm.trans ((up_f e_nu27 (by omega)).trans ((up_f e_nu18 (by omega)).trans ((up_f e_nu11 (by omega)).trans (congrFun (up_k e_nu4 (by omega)) 8))))
  subst h
  refine ⟨fun c h1 h2 h3 => (up_k e_nu63 h2).trans ((up_k e_nu50 h3).trans ((up_k e_nu39 h3).trans ((up_k e_nu27 h3).trans ((up_k e_nu18 h3).trans ((up_k e_nu11 h3).trans (up_k e_nu4 h1)))))), ?_, fun x hx => ?_, fun f hf => ?_, ?_, ?_, ?_, ?_, ?_⟩
  · exact ((congrFun (up_k e_nu63 (by omega)) 1).trans ((congrFun (up_k e_nu50 (by omega)) 1).trans ((congrFun (up_k e_nu39 (by omega)) 1).trans ((congrFun (up_k e_nu27 (by omega)) 1).trans ((congrFun (up_k e_nu18 (by omega)) 1).trans ((congrFun (up_k e_nu11 (by omega)) 1).trans ((up_v e_nu4).symm))))))).trans (by rw [← e_t3, ← e_y1])
  · rw [up_c e_nu63]
    show (if (0 : Nat) ≤ x ∧ x < 0 + 7 then nu50 (77 + S + 40) (0 + (x - 0)) else _) = _
    rw [if_pos ⟨Nat.zero_le _, by omega⟩, Nat.zero_add, Nat.sub_zero, show 117 + S = 77 + S + 40 by omega]
    exact (congrFun (up_k e_nu50 (by omega)) x).trans ((congrFun (up_k e_nu39 (by omega)) x).trans ((congrFun (up_k e_nu27 (by omega)) x).trans ((congrFun (up_k e_nu18 (by omega)) x).trans ((congrFun (up_k e_nu11 (by omega)) x).trans (congrFun (up_k e_nu4 (by omega)) x)))))
  · exact (congrFun (up_k e_nu63 (by omega)) f).trans ((up_f e_nu50 (by omega)).trans ((up_f e_nu39 (by omega)).trans ((up_f e_nu27 (by omega)).trans ((up_f e_nu18 (by omega)).trans ((up_f e_nu11 (by omega)).trans (congrFun (up_k e_nu4 (by omega)) f))))))
  · exact ((congrFun (up_k e_nu63 (by omega)) 5).trans ((up_f e_nu50 (by omega)).trans ((up_f e_nu39 (by omega)).trans ((up_f e_nu27 (by omega)).trans ((up_f e_nu18 (by omega)).trans ((up_v e_nu11).symm)))))).trans q_y10
  · exact ((congrFun (up_k e_nu63 (by omega)) 6).trans ((up_f e_nu50 (by omega)).trans ((up_f e_nu39 (by omega)).trans ((up_f e_nu27 (by omega)).trans ((up_v e_nu18).symm))))).trans q_y17
  · exact ((congrFun (up_k e_nu63 (by omega)) 7).trans ((up_f e_nu50 (by omega)).trans ((up_f e_nu39 (by omega)).trans ((up_v e_nu27).symm)))).trans q_y26
  · exact ((congrFun (up_k e_nu63 (by omega)) 8).trans ((up_f e_nu50 (by omega)).trans ((up_v e_nu39).symm))).trans (by rw [← e_t38, q_y37])
  · exact (congrFun (up_k e_nu63 (by omega)) 9).trans ((up_v e_nu50).symm)
theorem lm_undo7 {t8 v3 : Int32} {T : Nat} {kont : Int32 → (Nat → Nat → Int32) → Int32 × (Nat → Nat → Int32)} (ht : t8.toInt = (T : Int)) (hT : T ≤ 468) : ∀ (n : Nat) (i : Int32) (nu : Nat → Nat → Int32), 0 ≤ i.toInt → i.toInt ≤ 7 → (7 - i.toInt).toNat < n → ∃ nu1 : Nat → Nat → Int32, L_qm_undo_128_1 t8 v3 kont n i nu = kont (v3 + (-1)) nu1 ∧ ∀ k f : Nat, nu1 k f = if k = 8 ∧ i.toNatClampNeg ≤ f ∧ f < 7 then nu 14 (T + 5 + f) else nu k f := by
  intro n
  induction n with
  | zero => intro i nu _ _ h; exact absurd h (Nat.not_lt_zero _)
  | succ n ih =>
    intro i nu h0 h4 hn
    have z7 : (7 : Int32).toInt = 7 := rfl
    have hc := tC_of h0
    by_cases c : i ≥ (7 : Int32)
    · have c2 := vv_ge.mp c
      refine ⟨nu, ?_, fun k f => ?_⟩
      · rw [L_qm_undo_128_1, if_pos c]
        rfl
      · rw [if_neg (fun h => by omega)]
    · have c2 : ¬ (7 : Int32).toInt ≤ i.toInt := fun h => c (vv_ge.mpr h)
      have ai : (i + 1 : Int32).toInt = i.toInt + 1 := tI_add rfl (rfl : (1 : Int32).toInt = 1) (by omega) (by omega)
      have hc1 := tC_of (v := i + 1) (by omega)
      have a1 : (t8 + 5 : Int32).toInt = (T : Int) + 5 := tI_add ht (rfl : (5 : Int32).toInt = 5) (by omega) (by omega)
      have a2 : (t8 + 5 + i : Int32).toInt = (T : Int) + 5 + i.toInt := tI_add a1 rfl (by omega) (by omega)
      have a3 := tC_of (v := t8 + 5 + i) (by omega)
      have a4 : (t8 + 5 + i : Int32).toNatClampNeg = T + 5 + i.toNatClampNeg := by omega
      rw [L_qm_undo_128_1, if_neg c]
      simp only [letv_eq]
      rw [a4]
      generalize hv : va_up nu 8 (upd (nu 8) i.toNatClampNeg (nu 14 (T + 5 + i.toNatClampNeg))) = nu2
      obtain ⟨nu1, g1, g2⟩ := ih (i + 1) nu2 (by omega) (by omega) (by omega)
      refine ⟨nu1, g1, fun k f => ?_⟩
      have k14 : nu2 14 = nu 14 := up_k hv (by decide)
      rw [g2 k f, k14]
      by_cases e : k = 8 ∧ f = i.toNatClampNeg
      · obtain ⟨e, ef⟩ := e
        subst e ef
        rw [if_neg (fun h => by omega), if_pos ⟨rfl, by omega, by omega⟩, ← up_v hv]
      · have st2 : nu2 k f = nu k f := by
          by_cases ek : k = 8
          · subst ek
            exact up_f hv (fun h => e ⟨rfl, h⟩)
          · exact congrFun (up_k hv ek) f
        rw [st2]
        by_cases c5 : k = 8 ∧ i.toNatClampNeg ≤ f ∧ f < 7
        · rw [if_pos (by omega), if_pos c5]
        · rw [if_neg (by omega), if_neg c5]
theorem um_m {t3 vn v : Int32} {n S K : Nat} {mu : Nat → Nat → Int32} (hv : v.toInt = (S : Int)) (hS : S < 40) (hvn : ¬ v.toInt < vn.toInt) (hK : mu 14 (12 * S) = nI K) (hK4 : K < 4) : ∃ xi : Nat → Nat → Int32, L_qm_undo_28_0 t3 vn (n + 1) v mu = L_qm_undo_28_0 t3 vn n (v + (-1)) xi ∧ (∀ c : Nat, c ≠ 8 → c ≠ 10 → xi c = mu c) ∧ (∀ x : Nat, x < 7 → xi 8 x = mu 14 (12 * S + 5 + x)) ∧ (∀ f : Nat, f < 10 * K + 5 ∨ 10 * K + 10 ≤ f → xi 10 f = mu 10 f) ∧ xi 10 (10 * K + 5) = mu 14 (12 * S + 1) ∧ xi 10 (10 * K + 6) = mu 14 (12 * S + 2) ∧ xi 10 (10 * K + 7) = mu 10 (10 * K + 7) - 1 ∧ xi 10 (10 * K + 8) = mu 14 (12 * S + 3) ∧ xi 10 (10 * K + 9) = 0 := by
  obtain ⟨z, hz⟩ : ∃ z, z = L_qm_undo_28_0 t3 vn (n + 1) v mu := ⟨_, rfl⟩
  rw [← hz]
  have h := hz
  rw [L_qm_undo_28_0, if_neg (fun e => hvn (vv_lt.mp e))] at h
  obtain ⟨t9, e_t9, h⟩ := letv_out h
  obtain ⟨y11, e_y11, h⟩ := letv_out h
  obtain ⟨t12, e_t12, h⟩ := letv_out h
  obtain ⟨y14, e_y14, h⟩ := letv_out h
  obtain ⟨xi15, e_xi15, h⟩ := letv_out h
  obtain ⟨t17, e_t17, h⟩ := letv_out h
  obtain ⟨y19, e_y19, h⟩ := letv_out h
  obtain ⟨xi20, e_xi20, h⟩ := letv_out h
  obtain ⟨t22, e_t22, h⟩ := letv_out h
  obtain ⟨y24, e_y24, h⟩ := letv_out h
  obtain ⟨xi25, e_xi25, h⟩ := letv_out h
  obtain ⟨r27, e_r27, h⟩ := letv_out h
  obtain ⟨t28, e_t28, h⟩ := letv_out h
  obtain ⟨xi29, e_xi29, h⟩ := letv_out h
  obtain ⟨xi31, e_xi31, h⟩ := letv_out h
  have a8 : t9.toInt = 12 * (S : Int) := by
    rw [← e_t9, ← hv]
    exact tI_mul (rfl : (12 : Int32).toInt = 12) rfl (by omega) (by omega)
  have b8 := tC_of (v := t9) (by omega)
  have n8 : t9.toNatClampNeg = 12 * S := by omega
  have a_t12 : t12.toInt = 12 * (S : Int) + 1 := by
    rw [← e_t12]
    exact tI_add a8 (rfl : (1 : Int32).toInt = 1) (by omega) (by omega)
  have b_t12 := tC_of (v := t12) (by omega)
  have n_t12 : t12.toNatClampNeg = 12 * S + 1 := by omega
  have a_t17 : t17.toInt = 12 * (S : Int) + 2 := by
    rw [← e_t17]
    exact tI_add a8 (rfl : (2 : Int32).toInt = 2) (by omega) (by omega)
  have b_t17 := tC_of (v := t17) (by omega)
  have n_t17 : t17.toNatClampNeg = 12 * S + 2 := by omega
  have a_t22 : t22.toInt = 12 * (S : Int) + 3 := by
    rw [← e_t22]
    exact tI_add a8 (rfl : (3 : Int32).toInt = 3) (by omega) (by omega)
  have b_t22 := tC_of (v := t22) (by omega)
  have n_t22 : t22.toNatClampNeg = 12 * S + 3 := by omega
  rw [n8, hK] at e_y11
  have kK : (nI K).toInt = (K : Int) := nI_toInt (by omega)
  have kC := tC_of (v := nI K) (by omega)
  have kN : (nI K).toNatClampNeg = K := by omega
  have hk : 0 ≤ y11.toInt ∧ y11.toInt ≤ 3 := by rw [← e_y11]; omega
  have kn : y11.toNatClampNeg = K := by rw [← e_y11]; exact kN
  rw [n_t12] at e_y14
  rw [n_t17] at e_y19
  rw [n_t22] at e_y24
  rw [fm_set5 hk, kn] at e_xi15
  rw [fm_set6 hk, kn] at e_xi20
  rw [fm_set8 hk, kn] at e_xi25
  rw [fm_set7 hk, kn] at e_xi29
  rw [fm_set9 hk, kn] at e_xi31
  rw [fm_letterOf hk (by decide), kn, show (7 : Int32).toNatClampNeg = 7 from rfl] at e_r27
  have qP : y19 = mu 14 (12 * S + 2) := e_y19.symm.trans (congrFun (up_k e_xi15 (by decide)) _)
  have qO : y24 = mu 14 (12 * S + 3) := e_y24.symm.trans ((congrFun (up_k e_xi20 (by decide)) _).trans (congrFun (up_k e_xi15 (by decide)) _))
  have q7 : r27 = mu 10 (10 * K + 7) := e_r27.symm.trans ((up_f e_xi25 (by omega)).trans ((up_f e_xi20 (by omega)).trans (up_f e_xi15 (by omega))))
  obtain ⟨nv, g1, g2⟩ := lm_undo7 (t8 := t9) (v3 := v) (T := 12 * S) (kont := fun z_v3_28 z_nu28_ => L_qm_undo_28_0 t3 vn n z_v3_28 z_nu28_) (by omega) (by omega) 10 0 xi31 (by decide) (by decide) (by decide)
  rw [show (0 : Int32).toNatClampNeg = 0 from rfl] at g2
  have kc : ∀ c : Nat, c ≠ 10 → xi31 c = mu c := fun c hc => (up_k e_xi31 hc).trans ((up_k e_xi29 hc).trans ((up_k e_xi25 hc).trans ((up_k e_xi20 hc).trans (up_k e_xi15 hc))))
  have c10 : nv 10 = xi31 10 := funext fun f => by rw [g2 10 f, if_neg (fun h => by omega)]
  refine ⟨nv, h.trans g1, fun c h1 h2 => funext fun f => ?_, fun x hx => ?_, fun f hf => ?_, ?_, ?_, ?_, ?_, ?_⟩
  · rw [g2 c f, if_neg (fun h => h1 h.1), kc c h2]
  · rw [g2 8 x, if_pos ⟨rfl, Nat.zero_le _, hx⟩, kc 14 (by decide)]
  · rw [c10]
    exact (up_f e_xi31 (by omega)).trans ((up_f e_xi29 (by omega)).trans ((up_f e_xi25 (by omega)).trans ((up_f e_xi20 (by omega)).trans (up_f e_xi15 (by omega)))))
  · rw [c10]
    exact ((up_f e_xi31 (by omega)).trans ((up_f e_xi29 (by omega)).trans ((up_f e_xi25 (by omega)).trans ((up_f e_xi20 (by omega)).trans (up_v e_xi15).symm)))).trans e_y14.symm
  · rw [c10]
    exact ((up_f e_xi31 (by omega)).trans ((up_f e_xi29 (by omega)).trans ((up_f e_xi25 (by omega)).trans (up_v e_xi20).symm))).trans qP
  · rw [c10]
    exact ((up_f e_xi31 (by omega)).trans (up_v e_xi29).symm).trans (by rw [← e_t28, q7])
  · rw [c10]
    exact ((up_f e_xi31 (by omega)).trans ((up_f e_xi29 (by omega)).trans (up_v e_xi25).symm)).trans qO
  · rw [c10]
    exact (up_v e_xi31).symm
theorem vm1 {v : Int32} (h : -2147483647 ≤ v.toInt) : (v + (-1) : Int32).toInt = v.toInt - 1 := by
  have z : (-1 : Int32).toInt = -1 := rfl
  have h2 := tI_hi v
  have h3 := tI_add (a := v) (b := -1) (x := v.toInt) (y := -1) rfl z (by omega) (by omega)
  omega
theorem vp1 {v : Int32} (h : v.toInt < 2147483647) : (v + 1 : Int32).toInt = v.toInt + 1 := by
  have z : (1 : Int32).toInt = 1 := rfl
  have h2 := tI_lo v
  exact tI_add (a := v) (b := 1) (x := v.toInt) (y := 1) rfl z (by omega) (by omega)
theorem v_pm {v : Int32} (h : -1 ≤ v.toInt) (h2 : v.toInt < 40) : v + 1 - 1 = v + (-1) + 1 := by
  simp [Int32.sub_eq_add_neg, Int32.add_assoc]
theorem v_m1 (v : Int32) : v - 1 = v + (-1) := by simp [Int32.sub_eq_add_neg]
theorem undo_step {c : Int32} {S K : Nat} {mux mum xi1 xi2 : Nat → Nat → Int32} (okb : 0 ≤ (mum 0 8).toInt ∧ (mum 0 8).toInt ≤ 7) (oks : 0 ≤ (mum 0 15).toInt ∧ (mum 0 15).toInt ≤ 4) (hC : coreN c mux mum) (hc : c.toInt = (S : Int) + 1) (hS : S < 40) (hK : mum 14 (12 * S) = nI K) (hK4 : K < 4) (hx : xi1 = F_sx_undoLast mux) (m1 : ∀ c : Nat, c ≠ 8 → c ≠ 10 → xi2 c = mum c) (m2 : ∀ x : Nat, x < 7 → xi2 8 x = mum 14 (12 * S + 5 + x)) (m3 : ∀ f : Nat, f < 10 * K + 5 ∨ 10 * K + 10 ≤ f → xi2 10 f = mum 10 f) (m5 : xi2 10 (10 * K + 5) = mum 14 (12 * S + 1)) (m6 : xi2 10 (10 * K + 6) = mum 14 (12 * S + 2)) (m7 : xi2 10 (10 * K + 7) = mum 10 (10 * K + 7) - 1) (m8 : xi2 10 (10 * K + 8) = mum 14 (12 * S + 3)) (m9 : xi2 10 (10 * K + 9) = 0) : coreN (c - 1) xi1 xi2 := by
  obtain ⟨hKK, hE, ⟨s2, s3, s4, s6⟩, hday, hP, hL, hS', hA⟩ := hC
  have cc := tC_of (v := c) (by omega)
  have cb := tC_of okb.1
  have cs := tC_of oks.1
  obtain ⟨⟨a1, a2, a3⟩, ⟨b1, b2, b3⟩, d5, d6, d4, dp⟩ := hS' S (by omega)
  have kK : (nI K).toInt = (K : Int) := nI_toInt (by omega)
  have kC := tC_of (v := nI K) (by omega)
  have ks : K < (mum 0 15).toNatClampNeg := by rw [hK] at a3; omega
  obtain ⟨x1, x2, x3, x4, x5, x6, x7, x8, x9⟩ := ul_x (mu := mux) (S := S) (K := K) (by rw [s6]; omega) (by rw [s6]; omega) (by rw [a1, hK]; omega) hK4 hx
  have fx : ∀ c : Nat, c < 6 ∨ (6 < c ∧ c < 46) ∨ (46 < c ∧ c < 61) ∨ 65 ≤ c → xi1 c = mux c := fun c hc => x1 c (by omega) (by omega) (by omega)
  have m0 : xi2 0 = mum 0 := m1 0 (by decide) (by decide)
  have ec : (c - 1 : Int32).toInt = (S : Int) := by
    have : (c - 1 : Int32).toInt = c.toInt - 1 := tI_sub rfl (rfl : (1 : Int32).toInt = 1) (by omega) (by omega)
    omega
  have ccn := tC_of (v := c - 1) (by omega)
  refine ⟨?_, ?_, ⟨?_, ?_, ?_, ?_⟩, ?_, ?_, ?_, ?_, ?_⟩
  · unfold simK
    rw [fx 4 (by omega), fx 34 (by omega), fx 35 (by omega), fx 36 (by omega), m0, m1 7 (by decide) (by decide), m1 9 (by decide) (by decide)]
    exact hKK
  · unfold endR
    rw [m0, m1 9 (by decide) (by decide)]
    exact hE
  · rw [fx 5 (by omega), m0]; exact s2
  · rw [fx 5 (by omega), m0]; exact s3
  · rw [fx 5 (by omega), m0]; exact s4
  · rw [x2, s6]
  · rw [m0]; exact hday
  · rw [m0]
    intro z hz
    rw [x3 z (by omega), m2 z (by omega)]
    exact dp z hz
  · rw [m0]
    intro q hq
    by_cases e : q = K
    · subst e
      obtain ⟨lf, l1, l5, l9⟩ : oneR (mum 0 8).toInt (mux (61 + q)) (mum 10) q := hL q ks
      show (∀ f : Nat, f < 10 → xi1 (61 + q) f = xi2 10 (10 * q + pfm f)) ∧ (0 ≤ (xi1 (61 + q) 1).toInt ∧ (xi1 (61 + q) 1).toInt < (mum 0 8).toInt) ∧ (0 ≤ (xi1 (61 + q) 5).toInt ∧ (xi1 (61 + q) 5).toInt < (mum 0 8).toInt) ∧ (xi1 (61 + q) 9 = 0 ∨ xi1 (61 + q) 9 = 1)
      refine ⟨fun f hf => ?_, ?_, ?_, Or.inl x9⟩
      · by_cases f5 : f < 5
        · have pf : pfm f = f := by
            unfold pfm
            rw [if_neg (by omega), if_neg (by omega)]
          have := lf f hf
          rw [pf] at this
          rw [x4 f f5, pf, m3 _ (Or.inl (by omega))]
          exact this
        · have : f = 5 ∨ f = 6 ∨ f = 7 ∨ f = 8 ∨ f = 9 := by omega
          have g8 : mux (61 + q) 8 = mum 10 (10 * q + 7) := lf 8 (by decide)
          rcases this with rfl | rfl | rfl | rfl | rfl
          · exact (x5.trans b1).trans m5.symm
          · exact (x6.trans d5).trans m6.symm
          · exact (x7.trans d6).trans m8.symm
          · exact (x8.trans (by rw [g8])).trans m7.symm
          · exact x9.trans m9.symm
      · rw [x4 1 (by decide)]; exact l1
      · rw [x5, b1]; exact ⟨b2, b3⟩
    · obtain ⟨qf, q1, q5, q9⟩ : oneR (mum 0 8).toInt (mux (61 + q)) (mum 10) q := hL q hq
      have pl : ∀ f : Nat, f < 10 → pfm f < 10 := by decide
      show (∀ f : Nat, f < 10 → xi1 (61 + q) f = xi2 10 (10 * q + pfm f)) ∧ (0 ≤ (xi1 (61 + q) 1).toInt ∧ (xi1 (61 + q) 1).toInt < (mum 0 8).toInt) ∧ (0 ≤ (xi1 (61 + q) 5).toInt ∧ (xi1 (61 + q) 5).toInt < (mum 0 8).toInt) ∧ (xi1 (61 + q) 9 = 0 ∨ xi1 (61 + q) 9 = 1)
      rw [x1 (61 + q) (by omega) (by omega) (by omega)]
      refine ⟨fun f hf => ?_, q1, q5, q9⟩
      have := pl f hf
      rw [m3 _ (by omega)]
      exact qf f hf
  · unfold salN
    rw [m0, m1 14 (by decide) (by decide)]
    intro s hs
    rw [fx (77 + s) (by omega), fx (117 + s) (by omega)]
    exact hS' s (by omega)
  · exact kepR_of hA (fun c hc => fx c (by omega)) (m1 15 (by decide) (by decide)) (by rw [m0])
theorem undo_loop {t vn : Int32} (hvn : 0 ≤ vn.toInt) (ht : 0 ≤ t.toInt ∧ t.toInt ≤ 40) : ∀ (n : Nat) (i v : Int32) (mux mum : Nat → Nat → Int32), (0 ≤ (mum 0 8).toInt ∧ (mum 0 8).toInt ≤ 7) → (0 ≤ (mum 0 15).toInt ∧ (mum 0 15).toInt ≤ 4) → coreN (v + 1) mux mum → -1 ≤ v.toInt → v.toInt < 40 → 0 ≤ i.toInt → v.toInt - vn.toInt + 1 = t.toInt - i.toInt → i.toInt ≤ t.toInt → (t.toInt - i.toInt).toNat < n → (L_qx_undo_29_0 t n i mux).1 = (L_qm_undo_28_0 t vn n v mum).1 ∧ core (L_qx_undo_29_0 t n i mux).2 (L_qm_undo_28_0 t vn n v mum).2 := by
  intro n
  induction n with
  | zero => intro i v mux mum _ _ _ _ _ _ _ _ h; exact absurd h (Nat.not_lt_zero _)
  | succ n ih =>
    intro i v mux mum okb oks hC hv hv40 hi hrel hle hn
    have z1 : (1 : Int32).toInt = 1 := rfl
    have av : (v + 1 : Int32).toInt = v.toInt + 1 := tI_add rfl z1 (by omega) (by omega)
    by_cases c : i.toInt = t.toInt
    · rw [L_qx_undo_29_0, L_qm_undo_28_0, if_pos (vv_ge.mpr (by omega)), if_pos (vv_lt.mpr (by omega))]
      simp only [letv_eq]
      refine ⟨trivial, ?_⟩
      generalize hv2 : va_up mum 0 (upd (mum 0) 17 vn) = nu
      have evn : v + 1 = vn := Int32.toInt_inj.mp (by omega)
      rw [evn] at hC
      obtain ⟨hK, hE, ⟨s2, s3, s4, s6⟩, hday, hP, hL, hS, hA⟩ := hC
      have n17 : nu 0 17 = vn := (up_v hv2).symm
      have nf : ∀ f : Nat, f ≠ 17 → nu 0 f = mum 0 f := fun f hf => up_f hv2 hf
      have nc : ∀ c : Nat, c ≠ 0 → nu c = mum c := fun c hc => up_k hv2 hc
      refine ⟨?_, ?_, ⟨?_, ?_, ?_, ?_⟩, ?_, ?_, ?_, ?_, ?_⟩
      · unfold simK
        rw [nf 8 (by decide), nf 11 (by decide), nc 7 (by decide), nc 9 (by decide)]
        exact hK
      · unfold endR
        rw [nf 8 (by decide), nf 11 (by decide), nc 9 (by decide)]
        exact hE
      · rw [nf 13 (by decide)]; exact s2
      · rw [nf 14 (by decide)]; exact s3
      · rw [nf 15 (by decide)]; exact s4
      · rw [n17]; exact s6
      · rw [nf 14 (by decide)]; exact hday
      · rw [nf 8 (by decide), nc 8 (by decide)]; exact hP
      · rw [nf 8 (by decide), nf 15 (by decide), nc 10 (by decide)]; exact hL
      · unfold salR salN
        rw [n17, nf 8 (by decide), nf 15 (by decide), nc 14 (by decide)]
        exact hS
      · exact kepR_of hA (fun _ _ => rfl) (nc 15 (by decide)) (nf 8 (by decide))
    · have hv0 : 0 ≤ v.toInt := by omega
      have cv := tC_of hv0
      have cv1 := tC_of (v := v + 1) (by omega)
      have sl := hC.2.2.2.2.2.2.1 v.toNatClampNeg (by omega)
      obtain ⟨⟨a1, a2, a3⟩, -⟩ := sl
      have ck := tC_of a2
      have ek : mum 14 (12 * v.toNatClampNeg) = nI (mum 14 (12 * v.toNatClampNeg)).toNatClampNeg := nI_at a2
      obtain ⟨xi2, g1, m1, m2, m3, m5, m6, m7, m8, m9⟩ := um_m (t3 := t) (vn := vn) (v := v) (n := n) (S := v.toNatClampNeg) (K := (mum 14 (12 * v.toNatClampNeg)).toNatClampNeg) (mu := mum) (by omega) (by omega) (by omega) ek (by omega)
      have st := undo_step (S := v.toNatClampNeg) (xi1 := F_sx_undoLast mux) okb oks hC (by omega) (by omega) ek (by omega) rfl m1 m2 m3 m5 m6 m7 m8 m9
      have em : v + 1 - 1 = v + (-1) + 1 := v_pm hv hv40
      have b2 : (v + (-1) : Int32).toInt = v.toInt - 1 := vm1 (by omega)
      rw [em] at st
      generalize v + (-1) = w at st g1 b2
      clear em
      have ai : (i + 1 : Int32).toInt = i.toInt + 1 := tI_add rfl z1 (by omega) (by omega)
      rw [g1, L_qx_undo_29_0, if_neg (fun e => by have := vv_ge.mp e; omega)]
      simp only [letv_eq]
      have m0 : xi2 0 = mum 0 := m1 0 (by decide) (by decide)
      exact ih (i + 1) w _ xi2 (by rw [m0]; exact okb) (by rw [m0]; exact oks) st (by omega) (by omega) (by omega) (by omega) (by omega) (by omega)
theorem undo_rel {n r1 r2 : Int32} {mux mum xi1 xi2 : Nat → Nat → Int32} (okm : okR loM hiM mum) (hC : core mux mum) (h1 : (r1, xi1) = F_qx_undo mux n) (h2 : (r2, xi2) = F_qm_undo mum n) : r1 = r2 ∧ core xi1 xi2 := by
  have hC0 := hC
  obtain ⟨hK, hE, ⟨s2, s3, s4, s6⟩, hday, hP, hL, hS, hA⟩ := hC
  have hled : 0 ≤ (mum 0 17).toInt ∧ (mum 0 17).toInt ≤ 40 := okm 0 17
  have z0 : (0 : Int32).toInt = 0 := rfl
  have z1 : (1 : Int32).toInt = 1 := rfl
  simp only [F_qx_undo, letv_eq] at h1
  simp only [F_qm_undo, letv_eq] at h2
  rw [s6] at h1
  by_cases cn : 0 ≤ n.toInt ∧ n.toInt ≤ (mum 0 17).toInt
  · rw [if_neg (fun e => by have := vv_lt.mp e; omega), if_pos (vv_le.mpr (by omega))] at h1
    rw [if_pos (fm_in.mpr ⟨by omega, by omega⟩)] at h2
    have a1 : (mum 0 17 - n : Int32).toInt = (mum 0 17).toInt - n.toInt := tI_sub rfl rfl (by omega) (by omega)
    have a2 : (mum 0 17 - 1 : Int32).toInt = (mum 0 17).toInt - 1 := tI_sub rfl z1 (by omega) (by omega)
    have a3 : (mum 0 17 - 1 + 1 : Int32).toInt = (mum 0 17).toInt := by
      have := tI_add (a := mum 0 17 - 1) (b := 1) a2 z1 (by omega) (by omega)
      omega
    have e3 : mum 0 17 - 1 + 1 = mum 0 17 := Int32.toInt_inj.mp a3
    have key := undo_loop (t := mum 0 17 - n) (vn := n) cn.1 ⟨by omega, by omega⟩ 43 0 (mum 0 17 - 1) mux mum (okm 0 8) (okm 0 15) (by rw [e3]; exact hC0) (by omega) (by omega) (by decide) (by rw [z0]; omega) (by rw [z0]; omega) (by rw [z0]; omega)
    rw [p_fst h1, p_fst h2, p_snd h1, p_snd h2] at key
    exact key
  · rw [if_neg (fun e => by have := fm_in.mp e; omega)] at h2
    cases h2
    by_cases c1 : n < (0 : Int32)
    · rw [if_pos c1] at h1
      cases h1
      exact ⟨rfl, hC0⟩
    · have c2 : ¬ n.toInt < (0 : Int32).toInt := fun e => c1 (vv_lt.mpr e)
      rw [if_neg c1, if_neg (fun e => by have := vv_le.mp e; omega)] at h1
      cases h1
      exact ⟨rfl, hC0⟩

