-- ===== undo =====
def coreN (c : Int32) (mux mum : Nat → Nat → Int32) : Prop := simK mux mum ∧ endR mum ∧ (mux 5 2 = mum 0 13 ∧ mux 5 3 = mum 0 14 ∧ mux 5 4 = mum 0 15 ∧ mux 6 1 = c) ∧ (0 ≤ (mum 0 14).toInt ∧ (mum 0 14).toInt ≤ 99) ∧ (∀ x : Nat, x < (mum 0 8).toNatClampNeg → mux 46 x = mum 8 x) ∧ letR (mum 0 8).toInt (mum 0 15).toNatClampNeg (fun k => mux (61 + k)) (mum 10) ∧ salN c.toNatClampNeg mux mum ∧ kepR mux mum
theorem ul_x {mu : Nat → Nat → Int32} {xi : Nat → Nat → Int32} {S K : Nat} (hc : 1 ≤ (mu 6 1).toInt ∧ (mu 6 1).toInt ≤ 40) (hS : (mu 6 1).toInt = (S : Int) + 1) (hK : (mu (77 + S) 1).toNatClampNeg = K) (hK4 : K < 4) (h : xi = F_sx_undoLast mu) : (∀ c : Nat, c ≠ 6 → c ≠ 46 → c ≠ 61 + K → xi c = mu c) ∧ xi 6 1 = mu 6 1 - 1 ∧ (∀ x : Nat, x < 7 → xi 46 x = mu (117 + S) x) ∧ (∀ f : Nat, f < 5 → xi (61 + K) f = mu (61 + K) f) ∧ xi (61 + K) 5 = mu (77 + S) 2 ∧ xi (61 + K) 6 = mu (77 + S) 5 ∧ xi (61 + K) 7 = mu (77 + S) 6 ∧ xi (61 + K) 8 = mu (61 + K) 8 - 1 ∧ xi (61 + K) 9 = 0 := by
  have z0 : (0 : Int32).toInt = 0 := rfl
  unfold F_sx_undoLast at h
  obtain ⟨y1, e_y1, h⟩ := letv_out h
  rw [if_pos (vv_gt.mpr (by rw [← e_y1]; omega))] at h
  obtain ⟨t3, e_t3, h⟩ := letv_out h
  obtain ⟨nu4, e_nu4, h⟩ := letv_out h
  obtain ⟨y8, e_y8, h⟩ := letv_out h
  obtain ⟨y10, e_y10, h⟩ := letv_out h
  obtain ⟨nu11, e_nu11, h⟩ := letv_out h
  obtain ⟨y17, e_y17, h⟩ := letv_out h
  obtain ⟨nu18, e_nu18, h⟩ := letv_out h
  obtain ⟨y26, e_y26, h⟩ := letv_out h
  obtain ⟨nu27, e_nu27, h⟩ := letv_out h
  obtain ⟨y37, e_y37, h⟩ := letv_out h
  obtain ⟨t38, e_t38, h⟩ := letv_out h
  obtain ⟨nu39, e_nu39, h⟩ := letv_out h
  obtain ⟨nu50, e_nu50, h⟩ := letv_out h
  obtain ⟨nu63, e_nu63, h⟩ := letv_out h
  have a3 : t3.toInt = (S : Int) := by
    have : (y1 - 1 : Int32).toInt = y1.toInt - 1 := tI_sub rfl (rfl : (1 : Int32).toInt = 1) (by rw [← e_y1]; omega) (by rw [← e_y1]; omega)
    rw [← e_t3, this, ← e_y1]
    omega
  have b3 := tC_of (v := t3) (by omega)
  have n3 : t3.toNatClampNeg = S := by omega
  have hS40 : S < 40 := by omega
  have qK : y8.toNatClampNeg = K := by
    rw [← e_y8, n3, show nu4 (77 + S) 1 = mu (77 + S) 1 from congrFun (up_k e_nu4 (by omega)) 1]
    exact hK
  rw [n3] at e_y8 e_y10 e_y17 e_y26 e_nu63
  rw [qK] at e_nu11 e_nu18 e_nu27 e_y37 e_nu39 e_nu50
  have q_y10 : y10 = mu (77 + S) 2 := e_y10.symm.trans (congrFun (up_k e_nu4 (by omega)) 2)
  have q_y17 : y17 = mu (77 + S) 5 := e_y17.symm.trans ((congrFun (up_k e_nu11 (by omega)) 5).trans (congrFun (up_k e_nu4 (by omega)) 5))
  have q_y26 : y26 = mu (77 + S) 6 := e_y26.symm.trans ((congrFun (up_k e_nu18 (by omega)) 6).trans ((congrFun (up_k e_nu11 (by omega)) 6).trans (congrFun (up_k e_nu4 (by omega)) 6)))
  have q_y37 : y37 = mu (61 + K) 8 := e_y37.symm.trans ((up_f e_nu27 (by omega)).trans ((up_f e_nu18 (by omega)).trans ((up_f e_nu11 (by omega)).trans (congrFun (up_k e_nu4 (by omega)) 8))))
  subst h
  refine ⟨fun c h1 h2 h3 => (up_k e_nu63 h2).trans ((up_k e_nu50 h3).trans ((up_k e_nu39 h3).trans ((up_k e_nu27 h3).trans ((up_k e_nu18 h3).trans ((up_k e_nu11 h3).trans (up_k e_nu4 h1)))))), ?_, fun x hx => ?_, fun f hf => ?_, ?_, ?_, ?_, ?_, ?_⟩
  · exact ((congrFun (up_k e_nu63 (by omega)) 1).trans ((congrFun (up_k e_nu50 (by omega)) 1).trans ((congrFun (up_k e_nu39 (by omega)) 1).trans ((congrFun (up_k e_nu27 (by omega)) 1).trans ((congrFun (up_k e_nu18 (by omega)) 1).trans ((congrFun (up_k e_nu11 (by omega)) 1).trans ((up_v e_nu4).symm))))))).trans (by rw [← e_t3, ← e_y1])
  · rw [up_c e_nu63]
    show (if (0 : Nat) ≤ x ∧ x < 0 + 7 then nu50 (77 + S + 40) (0 + (x - 0)) else _) = _
    rw [if_pos ⟨Nat.zero_le _, by omega⟩, Nat.zero_add, Nat.sub_zero, show 117 + S = 77 + S + 40 by omega]
    exact (congrFun (up_k e_nu50 (by omega)) x).trans ((congrFun (up_k e_nu39 (by omega)) x).trans ((congrFun (up_k e_nu27 (by omega)) x).trans ((congrFun (up_k e_nu18 (by omega)) x).trans ((congrFun (up_k e_nu11 (by omega)) x).trans (congrFun (up_k e_nu4 (by omega)) x)))))
  · exact (congrFun (up_k e_nu63 (by omega)) f).trans ((up_f e_nu50 (by omega)).trans ((up_f e_nu39 (by omega)).trans ((up_f e_nu27 (by omega)).trans ((up_f e_nu18 (by omega)).trans ((up_f e_nu11 (by omega)).trans (congrFun (up_k e_nu4 (by omega)) f))))))
  · exact ((congrFun (up_k e_nu63 (by omega)) 5).trans ((up_f e_nu50 (by omega)).trans ((up_f e_nu39 (by omega)).trans ((up_f e_nu27 (by omega)).trans ((up_f e_nu18 (by omega)).trans ((up_v e_nu11).symm)))))).trans q_y10
  · exact ((congrFun (up_k e_nu63 (by omega)) 6).trans ((up_f e_nu50 (by omega)).trans ((up_f e_nu39 (by omega)).trans ((up_f e_nu27 (by omega)).trans ((up_v e_nu18).symm))))).trans q_y17
  · exact ((congrFun (up_k e_nu63 (by omega)) 7).trans ((up_f e_nu50 (by omega)).trans ((up_f e_nu39 (by omega)).trans ((up_v e_nu27).symm)))).trans q_y26
  · exact ((congrFun (up_k e_nu63 (by omega)) 8).trans ((up_f e_nu50 (by omega)).trans ((up_v e_nu39).symm))).trans (by rw [← e_t38, q_y37])
  · exact (congrFun (up_k e_nu63 (by omega)) 9).trans ((up_v e_nu50).symm)
theorem lm_undo7 {t8 v3 : Int32} {T : Nat} {kont : Int32 → (Nat → Nat → Int32) → Int32 × (Nat → Nat → Int32)} (ht : t8.toInt = (T : Int)) (hT : T ≤ 468) : ∀ (n : Nat) (i : Int32) (nu : Nat → Nat → Int32), 0 ≤ i.toInt → i.toInt ≤ 7 → (7 - i.toInt).toNat < n → ∃ nu1 : Nat → Nat → Int32, L_qm_undo_128_1 t8 v3 kont n i nu = kont (v3 + (-1)) nu1 ∧ ∀ k f : Nat, nu1 k f = if k = 8 ∧ i.toNatClampNeg ≤ f ∧ f < 7 then nu 14 (T + 5 + f) else nu k f := by
  intro n
  induction n with
  | zero => intro i nu _ _ h; exact absurd h (Nat.not_lt_zero _)
  | succ n ih =>
    intro i nu h0 h4 hn
    have z7 : (7 : Int32).toInt = 7 := rfl
    have hc := tC_of h0
    by_cases c : i ≥ (7 : Int32)
    · have c2 := vv_ge.mp c
      refine ⟨nu, ?_, fun k f => ?_⟩
      · rw [L_qm_undo_128_1, if_pos c]
        rfl
      · rw [if_neg (fun h => by omega)]
    · have c2 : ¬ (7 : Int32).toInt ≤ i.toInt := fun h => c (vv_ge.mpr h)
      have ai : (i + 1 : Int32).toInt = i.toInt + 1 := tI_add rfl (rfl : (1 : Int32).toInt = 1) (by omega) (by omega)
      have hc1 := tC_of (v := i + 1) (by omega)
      have a1 : (t8 + 5 : Int32).toInt = (T : Int) + 5 := tI_add ht (rfl : (5 : Int32).toInt = 5) (by omega) (by omega)
      have a2 : (t8 + 5 + i : Int32).toInt = (T : Int) + 5 + i.toInt := tI_add a1 rfl (by omega) (by omega)
      have a3 := tC_of (v := t8 + 5 + i) (by omega)
      have a4 : (t8 + 5 + i : Int32).toNatClampNeg = T + 5 + i.toNatClampNeg := by omega
      rw [L_qm_undo_128_1, if_neg c]
      simp only [letv_eq]
      rw [a4]
      generalize hv : va_up nu 8 (upd (nu 8) i.toNatClampNeg (nu 14 (T + 5 + i.toNatClampNeg))) = nu2
      obtain ⟨nu1, g1, g2⟩ := ih (i + 1) nu2 (by omega) (by omega) (by omega)
      refine ⟨nu1, g1, fun k f => ?_⟩
      have k14 : nu2 14 = nu 14 := up_k hv (by decide)
      rw [g2 k f, k14]
      by_cases e : k = 8 ∧ f = i.toNatClampNeg
      · obtain ⟨e, ef⟩ := e
        subst e ef
        rw [if_neg (fun h => by omega), if_pos ⟨rfl, by omega, by omega⟩, ← up_v hv]
      · have st2 : nu2 k f = nu k f := by
          by_cases ek : k = 8
          · subst ek
            exact up_f hv (fun h => e ⟨rfl, h⟩)
          · exact congrFun (up_k hv ek) f
        rw [st2]
        by_cases c5 : k = 8 ∧ i.toNatClampNeg ≤ f ∧ f < 7
        · rw [if_pos (by omega), if_pos c5]
        · rw [if_neg (by omega), if_neg c5]
theorem um_m {t3 vn v : Int32} {n S K : Nat} {mu : Nat → Nat → Int32} (hv : v.toInt = (S : Int)) (hS : S < 40) (hvn : ¬ v.toInt < vn.toInt) (hK : mu 14 (12 * S) = nI K) (hK4 : K < 4) : ∃ xi : Nat → Nat → Int32, L_qm_undo_28_0 t3 vn (n + 1) v mu = L_qm_undo_28_0 t3 vn n (v + (-1)) xi ∧ (∀ c : Nat, c ≠ 8 → c ≠ 10 → xi c = mu c) ∧ (∀ x : Nat, x < 7 → xi 8 x = mu 14 (12 * S + 5 + x)) ∧ (∀ f : Nat, f < 10 * K + 5 ∨ 10 * K + 10 ≤ f → xi 10 f = mu 10 f) ∧ xi 10 (10 * K + 5) = mu 14 (12 * S + 1) ∧ xi 10 (10 * K + 6) = mu 14 (12 * S + 2) ∧ xi 10 (10 * K + 7) = mu 10 (10 * K + 7) - 1 ∧ xi 10 (10 * K + 8) = mu 14 (12 * S + 3) ∧ xi 10 (10 * K + 9) = 0 := by
  obtain ⟨z, hz⟩ : ∃ z, z = L_qm_undo_28_0 t3 vn (n + 1) v mu := ⟨_, rfl⟩
  rw [← hz]
  have h := hz
  rw [L_qm_undo_28_0, if_neg (fun e => hvn (vv_lt.mp e))] at h
  obtain ⟨t9, e_t9, h⟩ := letv_out h
  obtain ⟨y11, e_y11, h⟩ := letv_out h
  obtain ⟨t12, e_t12, h⟩ := letv_out h
  obtain ⟨y14, e_y14, h⟩ := letv_out h
  obtain ⟨xi15, e_xi15, h⟩ := letv_out h
  obtain ⟨t17, e_t17, h⟩ := letv_out h
  obtain ⟨y19, e_y19, h⟩ := letv_out h
  obtain ⟨xi20, e_xi20, h⟩ := letv_out h
  obtain ⟨t22, e_t22, h⟩ := letv_out h
  obtain ⟨y24, e_y24, h⟩ := letv_out h
  obtain ⟨xi25, e_xi25, h⟩ := letv_out h
  obtain ⟨r27, e_r27, h⟩ := letv_out h
  obtain ⟨t28, e_t28, h⟩ := letv_out h
  obtain ⟨xi29, e_xi29, h⟩ := letv_out h
  obtain ⟨xi31, e_xi31, h⟩ := letv_out h
  have a8 : t9.toInt = 12 * (S : Int) := by
    rw [← e_t9, ← hv]
    exact tI_mul (rfl : (12 : Int32).toInt = 12) rfl (by omega) (by omega)
  have b8 := tC_of (v := t9) (by omega)
  have n8 : t9.toNatClampNeg = 12 * S := by omega
  have a_t12 : t12.toInt = 12 * (S : Int) + 1 := by
    rw [← e_t12]
    exact tI_add a8 (rfl : (1 : Int32).toInt = 1) (by omega) (by omega)
  have b_t12 := tC_of (v := t12) (by omega)
  have n_t12 : t12.toNatClampNeg = 12 * S + 1 := by omega
  have a_t17 : t17.toInt = 12 * (S : Int) + 2 := by
    rw [← e_t17]
    exact tI_add a8 (rfl : (2 : Int32).toInt = 2) (by omega) (by omega)
  have b_t17 := tC_of (v := t17) (by omega)
  have n_t17 : t17.toNatClampNeg = 12 * S + 2 := by omega
  have a_t22 : t22.toInt = 12 * (S : Int) + 3 := by
    rw [← e_t22]
    exact tI_add a8 (rfl : (3 : Int32).toInt = 3) (by omega) (by omega)
  have b_t22 := tC_of (v := t22) (by omega)
  have n_t22 : t22.toNatClampNeg = 12 * S + 3 := by omega
  rw [n8, hK] at e_y11
  have kK : (nI K).toInt = (K : Int) := nI_toInt (by omega)
  have kC := tC_of (v := nI K) (by omega)
  have kN : (nI K).toNatClampNeg = K := by omega
  have hk : 0 ≤ y11.toInt ∧ y11.toInt ≤ 3 := by rw [← e_y11]; omega
  have kn : y11.toNatClampNeg = K := by rw [← e_y11]; exact kN
  rw [n_t12] at e_y14
  rw [n_t17] at e_y19
  rw [n_t22] at e_y24
  rw [fm_set5 hk, kn] at e_xi15
  rw [fm_set6 hk, kn] at e_xi20
  rw [fm_set8 hk, kn] at e_xi25
  rw [fm_set7 hk, kn] at e_xi29
  rw [fm_set9 hk, kn] at e_xi31
  rw [fm_letterOf hk (by decide), kn, show (7 : Int32).toNatClampNeg = 7 from rfl] at e_r27
  have qP : y19 = mu 14 (12 * S + 2) := e_y19.symm.trans (congrFun (up_k e_xi15 (by decide)) _)
  have qO : y24 = mu 14 (12 * S + 3) := e_y24.symm.trans ((congrFun (up_k e_xi20 (by decide)) _).trans (congrFun (up_k e_xi15 (by decide)) _))
  have q7 : r27 = mu 10 (10 * K + 7) := e_r27.symm.trans ((up_f e_xi25 (by omega)).trans ((up_f e_xi20 (by omega)).trans (up_f e_xi15 (by omega))))
  obtain ⟨nv, g1, g2⟩ := lm_undo7 (t8 := t9) (v3 := v) (T := 12 * S) (kont := fun z_v3_28 z_nu28_ => L_qm_undo_28_0 t3 vn n z_v3_28 z_nu28_) (by omega) (by omega) 10 0 xi31 (by decide) (by decide) (by decide)
  rw [show (0 : Int32).toNatClampNeg = 0 from rfl] at g2
  have kc : ∀ c : Nat, c ≠ 10 → xi31 c = mu c := fun c hc => (up_k e_xi31 hc).trans ((up_k e_xi29 hc).trans ((up_k e_xi25 hc).trans ((up_k e_xi20 hc).trans (up_k e_xi15 hc))))
  have c10 : nv 10 = xi31 10 := funext fun f => by rw [g2 10 f, if_neg (fun h => by omega)]
  refine ⟨nv, h.trans g1, fun c h1 h2 => funext fun f => ?_, fun x hx => ?_, fun f hf => ?_, ?_, ?_, ?_, ?_, ?_⟩
  · rw [g2 c f, if_neg (fun h => h1 h.1), kc c h2]
  · rw [g2 8 x, if_pos ⟨rfl, Nat.zero_le _, hx⟩, kc 14 (by decide)]
  · rw [c10]
    exact (up_f e_xi31 (by omega)).trans ((up_f e_xi29 (by omega)).trans ((up_f e_xi25 (by omega)).trans ((up_f e_xi20 (by omega)).trans (up_f e_xi15 (by omega)))))
  · rw [c10]
    exact ((up_f e_xi31 (by omega)).trans ((up_f e_xi29 (by omega)).trans ((up_f e_xi25 (by omega)).trans ((up_f e_xi20 (by omega)).trans (up_v e_xi15).symm)))).trans e_y14.symm
  · rw [c10]
    exact ((up_f e_xi31 (by omega)).trans ((up_f e_xi29 (by omega)).trans ((up_f e_xi25 (by omega)).trans (up_v e_xi20).symm))).trans qP
  · rw [c10]
    exact ((up_f e_xi31 (by omega)).trans (up_v e_xi29).symm).trans (by rw [← e_t28, q7])
  · rw [c10]
    exact ((up_f e_xi31 (by omega)).trans ((up_f e_xi29 (by omega)).trans (up_v e_xi25).symm)).trans qO
  · rw [c10]
    exact (up_v e_xi31).symm
theorem vm1 {v : Int32} (h : -2147483647 ≤ v.toInt) : (v + (-1) : Int32).toInt = v.toInt - 1 := by
  have z : (-1 : Int32).toInt = -1 := rfl
  have h2 := tI_hi v
  have h3 := tI_add (a := v) (b := -1) (x := v.toInt) (y := -1) rfl z (by omega) (by omega)
  omega
theorem vp1 {v : Int32} (h : v.toInt < 2147483647) : (v + 1 : Int32).toInt = v.toInt + 1 := by
  have z : (1 : Int32).toInt = 1 := rfl
  have h2 := tI_lo v
  exact tI_add (a := v) (b := 1) (x := v.toInt) (y := 1) rfl z (by omega) (by omega)
theorem v_pm {v : Int32} (h : -1 ≤ v.toInt) (h2 : v.toInt < 40) : v + 1 - 1 = v + (-1) + 1 := by
  simp [Int32.sub_eq_add_neg, Int32.add_assoc]
theorem v_m1 (v : Int32) : v - 1 = v + (-1) := by simp [Int32.sub_eq_add_neg]
theorem undo_step {c : Int32} {S K : Nat} {mux mum xi1 xi2 : Nat → Nat → Int32} (okb : 0 ≤ (mum 0 8).toInt ∧ (mum 0 8).toInt ≤ 7) (oks : 0 ≤ (mum 0 15).toInt ∧ (mum 0 15).toInt ≤ 4) (hC : coreN c mux mum) (hc : c.toInt = (S : Int) + 1) (hS : S < 40) (hK : mum 14 (12 * S) = nI K) (hK4 : K < 4) (hx : xi1 = F_sx_undoLast mux) (m1 : ∀ c : Nat, c ≠ 8 → c ≠ 10 → xi2 c = mum c) (m2 : ∀ x : Nat, x < 7 → xi2 8 x = mum 14 (12 * S + 5 + x)) (m3 : ∀ f : Nat, f < 10 * K + 5 ∨ 10 * K + 10 ≤ f → xi2 10 f = mum 10 f) (m5 : xi2 10 (10 * K + 5) = mum 14 (12 * S + 1)) (m6 : xi2 10 (10 * K + 6) = mum 14 (12 * S + 2)) (m7 : xi2 10 (10 * K + 7) = mum 10 (10 * K + 7) - 1) (m8 : xi2 10 (10 * K + 8) = mum 14 (12 * S + 3)) (m9 : xi2 10 (10 * K + 9) = 0) : coreN (c - 1) xi1 xi2 := by
  obtain ⟨hKK, hE, ⟨s2, s3, s4, s6⟩, hday, hP, hL, hS', hA⟩ := hC
  have cc := tC_of (v := c) (by omega)
  have cb := tC_of okb.1
  have cs := tC_of oks.1
  obtain ⟨⟨a1, a2, a3⟩, ⟨b1, b2, b3⟩, d5, d6, d4, dp⟩ := hS' S (by omega)
  have kK : (nI K).toInt = (K : Int) := nI_toInt (by omega)
  have kC := tC_of (v := nI K) (by omega)
  have ks : K < (mum 0 15).toNatClampNeg := by rw [hK] at a3; omega
  obtain ⟨x1, x2, x3, x4, x5, x6, x7, x8, x9⟩ := ul_x (mu := mux) (S := S) (K := K) (by rw [s6]; omega) (by rw [s6]; omega) (by rw [a1, hK]; omega) hK4 hx
  have fx : ∀ c : Nat, c < 6 ∨ (6 < c ∧ c < 46) ∨ (46 < c ∧ c < 61) ∨ 65 ≤ c → xi1 c = mux c := fun c hc => x1 c (by omega) (by omega) (by omega)
  have m0 : xi2 0 = mum 0 := m1 0 (by decide) (by decide)
  have ec : (c - 1 : Int32).toInt = (S : Int) := by
    have : (c - 1 : Int32).toInt = c.toInt - 1 := tI_sub rfl (rfl : (1 : Int32).toInt = 1) (by omega) (by omega)
    omega
  have ccn := tC_of (v := c - 1) (by omega)
  refine ⟨?_, ?_, ⟨?_, ?_, ?_, ?_⟩, ?_, ?_, ?_, ?_, ?_⟩
  · unfold simK
    rw [fx 4 (by omega), fx 34 (by omega), fx 35 (by omega), fx 36 (by omega), m0, m1 7 (by decide) (by decide), m1 9 (by decide) (by decide)]
    exact hKK
  · unfold endR
    rw [m0, m1 9 (by decide) (by decide)]
    exact hE
  · rw [fx 5 (by omega), m0]; exact s2
  · rw [fx 5 (by omega), m0]; exact s3
  · rw [fx 5 (by omega), m0]; exact s4
  · rw [x2, s6]
  · rw [m0]; exact hday
  · rw [m0]
    intro z hz
    rw [x3 z (by omega), m2 z (by omega)]
    exact dp z hz
  · rw [m0]
    intro q hq
    by_cases e : q = K
    · subst e
      obtain ⟨lf, l1, l5, l9⟩ : oneR (mum 0 8).toInt (mux (61 + q)) (mum 10) q := hL q ks
      show (∀ f : Nat, f < 10 → xi1 (61 + q) f = xi2 10 (10 * q + pfm f)) ∧ (0 ≤ (xi1 (61 + q) 1).toInt ∧ (xi1 (61 + q) 1).toInt < (mum 0 8).toInt) ∧ (0 ≤ (xi1 (61 + q) 5).toInt ∧ (xi1 (61 + q) 5).toInt < (mum 0 8).toInt) ∧ (xi1 (61 + q) 9 = 0 ∨ xi1 (61 + q) 9 = 1)
      refine ⟨fun f hf => ?_, ?_, ?_, Or.inl x9⟩
      · by_cases f5 : f < 5
        · have pf : pfm f = f := by
            unfold pfm
            rw [if_neg (by omega), if_neg (by omega)]
          have := lf f hf
          rw [pf] at this
          rw [x4 f f5, pf, m3 _ (Or.inl (by omega))]
          exact this
        · have : f = 5 ∨ f = 6 ∨ f = 7 ∨ f = 8 ∨ f = 9 := by omega
          have g8 : mux (61 + q) 8 = mum 10 (10 * q + 7) := lf 8 (by decide)
          rcases this with rfl | rfl | rfl | rfl | rfl
          · exact (x5.trans b1).trans m5.symm
          · exact (x6.trans d5).trans m6.symm
          · exact (x7.trans d6).trans m8.symm
          · exact (x8.trans (by rw [g8])).trans m7.symm
          · exact x9.trans m9.symm
      · rw [x4 1 (by decide)]; exact l1
      · rw [x5, b1]; exact ⟨b2, b3⟩
    · obtain ⟨qf, q1, q5, q9⟩ : oneR (mum 0 8).toInt (mux (61 + q)) (mum 10) q := hL q hq
      have pl : ∀ f : Nat, f < 10 → pfm f < 10 := by decide
      show (∀ f : Nat, f < 10 → xi1 (61 + q) f = xi2 10 (10 * q + pfm f)) ∧ (0 ≤ (xi1 (61 + q) 1).toInt ∧ (xi1 (61 + q) 1).toInt < (mum 0 8).toInt) ∧ (0 ≤ (xi1 (61 + q) 5).toInt ∧ (xi1 (61 + q) 5).toInt < (mum 0 8).toInt) ∧ (xi1 (61 + q) 9 = 0 ∨ xi1 (61 + q) 9 = 1)
      rw [x1 (61 + q) (by omega) (by omega) (by omega)]
      refine ⟨fun f hf => ?_, q1, q5, q9⟩
      have := pl f hf
      rw [m3 _ (by omega)]
      exact qf f hf
  · unfold salN
    rw [m0, m1 14 (by decide) (by decide)]
    intro s hs
    rw [fx (77 + s) (by omega), fx (117 + s) (by omega)]
    exact hS' s (by omega)
  · exact kepR_of hA (fun c hc => fx c (by omega)) (m1 15 (by decide) (by decide)) (by rw [m0])
theorem undo_loop {t vn : Int32} (hvn : 0 ≤ vn.toInt) (ht : 0 ≤ t.toInt ∧ t.toInt ≤ 40) : ∀ (n : Nat) (i v : Int32) (mux mum : Nat → Nat → Int32), (0 ≤ (mum 0 8).toInt ∧ (mum 0 8).toInt ≤ 7) → (0 ≤ (mum 0 15).toInt ∧ (mum 0 15).toInt ≤ 4) → coreN (v + 1) mux mum → -1 ≤ v.toInt → v.toInt < 40 → 0 ≤ i.toInt → v.toInt - vn.toInt + 1 = t.toInt - i.toInt → i.toInt ≤ t.toInt → (t.toInt - i.toInt).toNat < n → (L_qx_undo_29_0 t n i mux).1 = (L_qm_undo_28_0 t vn n v mum).1 ∧ core (L_qx_undo_29_0 t n i mux).2 (L_qm_undo_28_0 t vn n v mum).2 := by
  intro n
  induction n with
  | zero => intro i v mux mum _ _ _ _ _ _ _ _ h; exact absurd h (Nat.not_lt_zero _)
  | succ n ih =>
    intro i v mux mum okb oks hC hv hv40 hi hrel hle hn
    have z1 : (1 : Int32).toInt = 1 := rfl
    have av : (v + 1 : Int32).toInt = v.toInt + 1 := tI_add rfl z1 (by omega) (by omega)
    by_cases c : i.toInt = t.toInt
    · rw [L_qx_undo_29_0, L_qm_undo_28_0, if_pos (vv_ge.mpr (by omega)), if_pos (vv_lt.mpr (by omega))]
      simp only [letv_eq]
      refine ⟨trivial, ?_⟩
      generalize hv2 : va_up mum 0 (upd (mum 0) 17 vn) = nu
      have evn : v + 1 = vn := Int32.toInt_inj.mp (by omega)
      rw [evn] at hC
      obtain ⟨hK, hE, ⟨s2, s3, s4, s6⟩, hday, hP, hL, hS, hA⟩ := hC
      have n17 : nu 0 17 = vn := (up_v hv2).symm
      have nf : ∀ f : Nat, f ≠ 17 → nu 0 f = mum 0 f := fun f hf => up_f hv2 hf
      have nc : ∀ c : Nat, c ≠ 0 → nu c = mum c := fun c hc => up_k hv2 hc
      refine ⟨?_, ?_, ⟨?_, ?_, ?_, ?_⟩, ?_, ?_, ?_, ?_, ?_⟩
      · unfold simK
        rw [nf 8 (by decide), nf 11 (by decide), nc 7 (by decide), nc 9 (by decide)]
        exact hK
      · unfold endR
        rw [nf 8 (by decide), nf 11 (by decide), nc 9 (by decide)]
        exact hE
      · rw [nf 13 (by decide)]; exact s2
      · rw [nf 14 (by decide)]; exact s3
      · rw [nf 15 (by decide)]; exact s4
      · rw [n17]; exact s6
      · rw [nf 14 (by decide)]; exact hday
      · rw [nf 8 (by decide), nc 8 (by decide)]; exact hP
      · rw [nf 8 (by decide), nf 15 (by decide), nc 10 (by decide)]; exact hL
      · unfold salR salN
        rw [n17, nf 8 (by decide), nf 15 (by decide), nc 14 (by decide)]
        exact hS
      · exact kepR_of hA (fun _ _ => rfl) (nc 15 (by decide)) (nf 8 (by decide))
    · have hv0 : 0 ≤ v.toInt := by omega
      have cv := tC_of hv0
      have cv1 := tC_of (v := v + 1) (by omega)
      have sl := hC.2.2.2.2.2.2.1 v.toNatClampNeg (by omega)
      obtain ⟨⟨a1, a2, a3⟩, -⟩ := sl
      have ck := tC_of a2
      have ek : mum 14 (12 * v.toNatClampNeg) = nI (mum 14 (12 * v.toNatClampNeg)).toNatClampNeg := nI_at a2
      obtain ⟨xi2, g1, m1, m2, m3, m5, m6, m7, m8, m9⟩ := um_m (t3 := t) (vn := vn) (v := v) (n := n) (S := v.toNatClampNeg) (K := (mum 14 (12 * v.toNatClampNeg)).toNatClampNeg) (mu := mum) (by omega) (by omega) (by omega) ek (by omega)
      have st := undo_step (S := v.toNatClampNeg) (xi1 := F_sx_undoLast mux) okb oks hC (by omega) (by omega) ek (by omega) rfl m1 m2 m3 m5 m6 m7 m8 m9
      have em : v + 1 - 1 = v + (-1) + 1 := v_pm hv hv40
      have b2 : (v + (-1) : Int32).toInt = v.toInt - 1 := vm1 (by omega)
      rw [em] at st
      generalize v + (-1) = w at st g1 b2
      clear em
      have ai : (i + 1 : Int32).toInt = i.toInt + 1 := tI_add rfl z1 (by omega) (by omega)
      rw [g1, L_qx_undo_29_0, if_neg (fun e => by have := vv_ge.mp e; omega)]
      simp only [letv_eq]
      have m0 : xi2 0 = mum 0 := m1 0 (by decide) (by decide)
      exact ih (i + 1) w _ xi2 (by rw [m0]; exact okb) (by rw [m0]; exact oks) st (by omega) (by omega) (by omega) (by omega) (by omega) (by omega)
theorem undo_rel {n r1 r2 : Int32} {mux mum xi1 xi2 : Nat → Nat → Int32} (okm : okR loM hiM mum) (hC : core mux mum) (h1 : (r1, xi1) = F_qx_undo mux n) (h2 : (r2, xi2) = F_qm_undo mum n) : r1 = r2 ∧ core xi1 xi2 := by
  have hC0 := hC
  obtain ⟨hK, hE, ⟨s2, s3, s4, s6⟩, hday, hP, hL, hS, hA⟩ := hC
  have hled : 0 ≤ (mum 0 17).toInt ∧ (mum 0 17).toInt ≤ 40 := okm 0 17
  have z0 : (0 : Int32).toInt = 0 := rfl
  have z1 : (1 : Int32).toInt = 1 := rfl
  simp only [F_qx_undo, letv_eq] at h1
  simp only [F_qm_undo, letv_eq] at h2
  rw [s6] at h1
  by_cases cn : 0 ≤ n.toInt ∧ n.toInt ≤ (mum 0 17).toInt
  · rw [if_neg (fun e => by have := vv_lt.mp e; omega), if_pos (vv_le.mpr (by omega))] at h1
    rw [if_pos (fm_in.mpr ⟨by omega, by omega⟩)] at h2
    have a1 : (mum 0 17 - n : Int32).toInt = (mum 0 17).toInt - n.toInt := tI_sub rfl rfl (by omega) (by omega)
    have a2 : (mum 0 17 - 1 : Int32).toInt = (mum 0 17).toInt - 1 := tI_sub rfl z1 (by omega) (by omega)
    have a3 : (mum 0 17 - 1 + 1 : Int32).toInt = (mum 0 17).toInt := by
      have := tI_add (a := mum 0 17 - 1) (b := 1) a2 z1 (by omega) (by omega)
      omega
    have e3 : mum 0 17 - 1 + 1 = mum 0 17 := Int32.toInt_inj.mp a3
    have key := undo_loop (t := mum 0 17 - n) (vn := n) cn.1 ⟨by omega, by omega⟩ 43 0 (mum 0 17 - 1) mux mum (okm 0 8) (okm 0 15) (by rw [e3]; exact hC0) (by omega) (by omega) (by decide) (by rw [z0]; omega) (by rw [z0]; omega) (by rw [z0]; omega)
    rw [p_fst h1, p_fst h2, p_snd h1, p_snd h2] at key
    exact key
  · rw [if_neg (fun e => by have := fm_in.mp e; omega)] at h2
    cases h2
    by_cases c1 : n < (0 : Int32)
    · rw [if_pos c1] at h1
      cases h1
      exact ⟨rfl, hC0⟩
    · have c2 : ¬ n.toInt < (0 : Int32).toInt := fun e => c1 (vv_lt.mpr e)
      rw [if_neg c1, if_neg (fun e => by have := vv_le.mp e; omega)] at h1
      cases h1
      exact ⟨rfl, hC0⟩

-- ===== luck =====
theorem and7 (v : Int32) : 0 ≤ (v &&& 127).toInt ∧ (v &&& 127).toInt ≤ 127 := by
  have h1 : (v &&& 127).toBitVec.toNat ≤ 127 := by
    rw [Int32.toBitVec_and, BitVec.toNat_and]
    exact Nat.and_le_right
  have h2 : (v &&& 127).toInt = ((v &&& 127).toBitVec.toNat : Int) := by
    show (v &&& 127).toBitVec.toInt = _
    rw [BitVec.toInt_eq_toNat_cond, if_pos (by omega)]
  omega
theorem b_127 : ∀ i, i < 32 → bt 127 i = decide (i < 7) := by decide +kernel
theorem set7 {v : Int32} (h : ∀ j : Nat, j < 32 → bt v j = true → j < 7) : 0 ≤ v.toInt ∧ v.toInt ≤ 127 := by
  have e : v &&& 127 = v := by
    apply b_ext
    intro i hi
    rw [b_and, b_127 i hi]
    cases hq : bt v i
    · rfl
    · have := h i hi hq
      simp [this]
  have := and7 v
  rw [e] at this
  exact this
theorem cs_bits {mum : Nat → Nat → Int32} {nb pr k : Int32} (hb : 0 ≤ (mum 0 8).toInt ∧ (mum 0 8).toInt ≤ 7) : ∀ (n : Nat) (w i : Int32), 0 ≤ i.toInt → i.toInt ≤ (mum 0 8).toInt → (∀ j : Nat, j < 32 → bt w j = true → (j : Int) < (mum 0 8).toInt) → ∀ j : Nat, j < 32 → bt (L_sm_canSell_47_0 mum nb pr k n w i) j = true → (j : Int) < (mum 0 8).toInt := by
  intro n
  induction n with
  | zero =>
    intro w i _ _ _ j hj h
    rw [L_sm_canSell_47_0, b_zero j hj] at h
    cases h
  | succ n ih =>
    intro w i h0 hle hw
    rw [L_sm_canSell_47_0]
    simp only [letv_eq, ior_0]
    by_cases c : i ≥ mum 0 8
    · rw [if_pos c]
      exact hw
    · have c2 : ¬ (mum 0 8).toInt ≤ i.toInt := fun h => c (vv_ge.mpr h)
      have ai : (i + 1 : Int32).toInt = i.toInt + 1 := tI_add rfl (rfl : (1 : Int32).toInt = 1) (by omega) (by omega)
      have hc := tC_of h0
      have add : ∀ j : Nat, j < 32 → bt (w ||| ((1 : Int32) <<< (i &&& 31))) j = true → (j : Int) < (mum 0 8).toInt := fun j hj hq => by
        rw [b_or, b_bit h0 (by omega) hj] at hq
        cases hq2 : bt w j
        · rw [hq2] at hq
          simp at hq
          omega
        · exact hw j hj hq2
      rw [if_neg c]
      repeat' split
      all_goals first
        | exact ih _ _ (by omega) (by omega) hw
        | exact ih _ _ (by omega) (by omega) add
theorem cs_set {mum : Nat → Nat → Int32} {k : Int32} (hb : 0 ≤ (mum 0 8).toInt ∧ (mum 0 8).toInt ≤ 7) : ∀ j : Nat, j < 32 → bt (F_sm_canSell mum k) j = true → (j : Int) < (mum 0 8).toInt := by
  intro j hj h
  simp only [F_sm_canSell, letv_eq] at h
  have z : bt 0 j = true → (j : Int) < (mum 0 8).toInt := fun h => by rw [b_zero j hj] at h; cases h
  revert h
  repeat' split
  · exact z
  · intro h
    exact cs_bits hb 10 0 0 (by decide) (by show (0 : Int) ≤ _; exact hb.1) (fun j hj hq => by rw [b_zero j hj] at hq; cases hq) j hj h
  · exact z
theorem cs_rng {mum : Nat → Nat → Int32} {k : Int32} (hb : 0 ≤ (mum 0 8).toInt ∧ (mum 0 8).toInt ≤ 7) : 0 ≤ (F_sm_canSell mum k).toInt ∧ (F_sm_canSell mum k).toInt ≤ 127 := set7 (fun j hj h => by have := cs_set hb j hj h; omega)
theorem count_all : ∀ a, a < 128 → F_sx_bitCount (nI a) = F_sm_sizeOf (nI a) ∧ F_sm_sizeOf (nI a) = nI (pp a) := by decide +kernel
theorem count_eq {v : Int32} (h : 0 ≤ v.toInt ∧ v.toInt ≤ 127) : F_sx_bitCount v = F_sm_sizeOf v ∧ (F_sm_sizeOf v).toInt = (pp v.toNatClampNeg : Int) ∧ pp v.toNatClampNeg ≤ 7 ∧ (v = 0 ↔ F_sx_bitCount v = 0) := by
  have hc := tC_of h.1
  have hl : v.toNatClampNeg < 128 := by omega
  have key := count_all _ hl
  rw [← nI_at h.1] at key
  have p7 := (h7_all _ hl).1
  have e : (F_sm_sizeOf v).toInt = (pp v.toNatClampNeg : Int) := by rw [key.2, nI_toInt (by omega)]
  refine ⟨key.1, e, p7, fun e0 => by rw [e0]; decide, fun e0 => ?_⟩
  rw [key.1] at e0
  rw [e0] at e
  have z : (0 : Int32).toInt = 0 := rfl
  have := pp_0 _ hl (by omega)
  exact Int32.toInt_inj.mp (by omega)
/-- the vth of those in the set: the class's bitAt, the reference's loop -/
theorem lot_loop {l27 : Int64} {mu : Nat → Nat → Int32} {a v5 v7 : Int32} {kont : Int64 → Int32 → Int32 → (Nat → Nat → Int32) → Int32 × (Nat → Nat → Int32)} {nu : Nat → Nat → Int32} (ha : 0 ≤ a.toInt ∧ a.toInt ≤ 127) : ∀ (n : Nat) (v i : Int32), 0 ≤ i.toInt → i.toInt ≤ 7 → (7 - i.toInt).toNat < n → 0 ≤ v.toInt → v.toInt < (ab a.toNatClampNeg i.toNatClampNeg : Int) → ∃ x : Int32, L_sx_bitAt_4_0 a n v i = x ∧ 0 ≤ x.toInt ∧ x.toInt ≤ 6 ∧ bt a x.toNatClampNeg = true ∧ L_qm_luck_128_2 l27 mu a v5 v7 kont n v i nu = kont l27 (v5 + F_sm_letterOf (F_sm_sellTo nu v7 x) v7 9) (v7 + 1) (F_sm_sellTo nu v7 x) := by
  intro n
  induction n with
  | zero => intro v i _ _ h; exact absurd h (Nat.not_lt_zero _)
  | succ n ih =>
    intro v i h0 h7 hn hv0 hv
    have z7 : (7 : Int32).toInt = 7 := rfl
    have z0 : (0 : Int32).toInt = 0 := rfl
    have z1 : (1 : Int32).toInt = 1 := rfl
    have hc := tC_of h0
    have hca := tC_of ha.1
    have i6 : i.toInt ≤ 6 := by
      rcases Int.lt_or_le i.toInt 7 with h | h
      · omega
      · exfalso
        rw [show i.toNatClampNeg = 7 by omega, ab_7 _ (by omega)] at hv
        omega
    have ai : (i + 1 : Int32).toInt = i.toInt + 1 := tI_add rfl z1 (by omega) (by omega)
    have hc1 := tC_of (v := i + 1) (by omega)
    have st := ab_step (v := a) (x := i) ha.1 ha.2 h0 i6
    rw [L_sx_bitAt_4_0, L_qm_luck_128_2]
    simp only [letv_eq]
    rw [if_neg (fun e => by have := vv_ge.mp e; omega)]
    cases hq : bt a i.toNatClampNeg
    · have hh := hb_f h0 (by omega) hq
      rw [if_pos hh.1, if_neg hh.2, if_neg hh.2]
      have e0 := st.2 (fun e => by rw [rb_1 h0 (by omega), hq] at e; cases e)
      have sz : v - 0 = v := by simp
      rw [sz]
      exact ih v (i + 1) (by omega) (by omega) (by omega) hv0 (by rw [show (i + 1).toNatClampNeg = i.toNatClampNeg + 1 by omega, ← e0]; exact hv)
    · have hh := hb_t h0 (by omega) hq
      rw [if_neg hh.1, if_pos hh.2]
      have e1 := st.1 ((rb_1 h0 (by omega)).mpr hq)
      by_cases cv : v = 0
      · rw [if_pos cv, if_pos (vv_le.mpr (by rw [cv]; exact Int.le_refl _))]
        exact ⟨i, rfl, h0, i6, hq, rfl⟩
      · have v1 : 1 ≤ v.toInt := by
          have : ¬ v.toInt = (0 : Int32).toInt := fun e => cv (Int32.toInt_inj.mp e)
          omega
        have le : ¬ v ≤ (0 : Int32) := fun e => by have := vv_le.mp e; omega
        have b2 : (v + (-1) : Int32).toInt = v.toInt - 1 := vm1 (by omega)
        rw [if_neg cv, if_neg le, if_pos hh.2, v_m1]
        generalize v + (-1) = w at b2
        exact ih w (i + 1) (by omega) (by omega) (by omega) (by omega) (by rw [show (i + 1).toNatClampNeg = i.toNatClampNeg + 1 by omega]; omega)
/-- numbers that go through the days of luck -/
def seedR (l : Int64) : Prop := 0 ≤ l.toInt ∧ l.toInt ≤ 2147483646
theorem luck_in {mu : Nat → Nat → Int32} {v6 : Int32} {kX kM : Int64 → Int32 → Int32 → (Nat → Nat → Int32) → Int32 × (Nat → Nat → Int32)} {D : Int} (hD : D ≤ 98) (hk : ∀ (l : Int64) (v : Int32) (mux mum : Nat → Nat → Int32), seedR l → bdM mum → core mux mum → (mum 0 14).toInt = D + 1 → (kX l v (v6 + 1) mux).1 = (kM l v (v6 + 1) mum).1 ∧ core (kX l v (v6 + 1) mux).2 (kM l v (v6 + 1) mum).2) : ∀ (n : Nat) (l : Int64) (v i : Int32) (mux mum : Nat → Nat → Int32), seedR l → bdM mum → core mux mum → (mum 0 14).toInt = D → 0 ≤ i.toInt → i.toInt ≤ (mum 0 15).toInt → ((mum 0 15).toInt - i.toInt).toNat < n → (L_qx_luck_78_1 v6 kX n l v i mux).1 = (L_qm_luck_65_1 mu v6 kM n l v i mum).1 ∧ core (L_qx_luck_78_1 v6 kX n l v i mux).2 (L_qm_luck_65_1 mu v6 kM n l v i mum).2 := by
  intro n
  induction n with
  | zero => intro l v i mux mum _ _ _ _ _ _ h; exact absurd h (Nat.not_lt_zero _)
  | succ n ih =>
    intro l v i mux mum hl bd hC hd h0 hle hn
    have hC0 := hC
    have bd0 := bd
    obtain ⟨hK, hE, ⟨s2, s3, s4, s6⟩, hday, hP, hL, hS, hA⟩ := hC
    obtain ⟨hb, hpa, hsent, hled⟩ := bd
    have z1 : (1 : Int32).toInt = 1 := rfl
    have z40 : (40 : Int32).toInt = 40 := rfl
    rw [L_qx_luck_78_1, L_qm_luck_65_1]
    simp only [letv_eq, letp_eq]
    rw [s4]
    by_cases c : i ≥ mum 0 15
    · rw [if_pos c, if_pos c, s3]
      have ad : (mum 0 14 + 1 : Int32).toInt = D + 1 := by
        have := tI_add (a := mum 0 14) (b := 1) rfl z1 (by omega) (by omega)
        omega
      generalize u2 : va_up mux 5 (upd (mux 5) 3 (mum 0 14 + 1)) = xi1
      generalize v2 : va_up mum 0 (upd (mum 0) 14 (mum 0 14 + 1)) = xi2
      have e14 : xi2 0 14 = mum 0 14 + 1 := (up_v v2).symm
      have ef : ∀ f : Nat, f ≠ 14 → xi2 0 f = mum 0 f := fun f hf => up_f v2 hf
      have nc : core xi1 xi2 := by
        refine core_nums bd0 hC0 (fun c hc => up_k u2 hc) (fun c hc => up_k v2 hc) (ef 8 (by decide)) (ef 11 (by decide)) (ef 15 (by decide)) (ef 17 (by decide)) ?_ ?_ (up_f u2 (by decide)) ?_
        · rw [up_f u2 (by decide), ef 13 (by decide)]; exact s2
        · rw [← up_v u2, e14]
        · rw [e14, ad]; omega
      have nb : bdM xi2 := by
        unfold bdM
        rw [ef 8 (by decide), ef 11 (by decide), ef 15 (by decide), ef 17 (by decide)]
        exact bd0
      exact hk _ _ _ _ hl nb nc (by rw [e14, ad])
    · have c2 : ¬ (mum 0 15).toInt ≤ i.toInt := fun h => c (vv_ge.mpr h)
      have ci := tC_of h0
      have ai : (i + 1 : Int32).toInt = i.toInt + 1 := tI_add rfl z1 (by omega) (by omega)
      have be := buyers_core bd0 hC0 ⟨h0, by omega⟩
      have rg := cs_rng (k := i) hb
      obtain ⟨q1, q2, q3, q4⟩ := count_eq rg
      rw [if_neg c, if_neg c, be]
      by_cases c0 : F_sm_canSell mum i = 0
      · rw [if_pos (q4.mp c0), if_pos c0]
        exact ih _ _ (i + 1) mux mum hl bd0 hC0 hd (by omega) (by omega) (by omega)
      · rw [if_neg (fun e => c0 (q4.mpr e)), if_neg c0]
        by_cases c40 : (mum 0 17).toInt < 40
        · have nf : ¬ F_sx_isFull mux = 1 := fun e => by have := fx_isFull.mp e; rw [s6] at this; omega
          have n40 : ¬ mum 0 17 = 40 := fun e => by rw [e] at c40; exact absurd c40 (by decide)
          rw [if_neg nf, if_neg n40]
          rw [Int64.mul_comm l 48271, q1]
          have l1 := lot_rng (n := l) (l1 := 48271 * l) (l2 := 48271 * l % 2147483647) hl rfl rfl
          rw [lrem_eq (48271 * l) 2147483647]
          generalize 48271 * l % 2147483647 = l2 at l1
          have pos : 1 ≤ pp (F_sm_canSell mum i).toNatClampNeg := by
            rcases Nat.eq_zero_or_pos (pp (F_sm_canSell mum i).toNatClampNeg) with e | e
            · exfalso
              have hcc := tC_of rg.1
              have := pp_0 _ (by omega) e
              exact c0 (Int32.toInt_inj.mp (by show _ = (0 : Int); omega))
            · exact e
          have cnt : ((F_sm_sizeOf (F_sm_canSell mum i)).toInt64).toInt = (pp (F_sm_canSell mum i).toNatClampNeg : Int) := by rw [Int32.toInt_toInt64, q2]
          have rem := lrem_rng (a := l2) (b := (F_sm_sizeOf (F_sm_canSell mum i)).toInt64) (c := (pp (F_sm_canSell mum i).toNatClampNeg : Int)) l1.1 cnt (by omega)
          rw [lrem_eq l2]
          have t31 := l2i_of (a := l2 % (F_sm_sizeOf (F_sm_canSell mum i)).toInt64) rfl rem.1 (by omega)
          obtain ⟨x, x1, x2, x3, x4, x5⟩ := lot_loop (l27 := l2) (mu := mu) (a := F_sm_canSell mum i) (v5 := v) (v7 := i) (kont := fun z_v3_65 z_v5_65 z_v7_65 z_nu65_ => L_qm_luck_65_1 mu v6 kM n z_v3_65 z_v5_65 z_v7_65 z_nu65_) (nu := mum) rg 10 (l2 % (F_sm_sizeOf (F_sm_canSell mum i)).toInt64).toInt32 0 (by decide) (by decide) (by decide) (by omega) (by rw [show (0 : Int32).toNatClampNeg = 0 from rfl, ab_0, t31]; exact rem.2)
          have x1' : F_sx_bitAt (F_sm_canSell mum i) (l2 % (F_sm_sizeOf (F_sm_canSell mum i)).toInt64).toInt32 = x := x1
          rw [x5, x1']
          have cx := tC_of x2
          have xb := cs_set (k := i) hb x.toNatClampNeg (by omega) x4
          obtain ⟨a1, a2, a3, a4, a5, a6⟩ := sale_rel (r := (F_sx_enterSale mux i x).1) (xi1 := (F_sx_enterSale mux i x).2) (xi2 := F_sm_sellTo mum i x) bd0 hC0 ⟨h0, by omega⟩ ⟨x2, by omega⟩ c40 rfl rfl
          rw [fm_letterOf ⟨h0, by omega⟩ (by decide), show (9 : Int32).toNatClampNeg = 9 from rfl, ← a3]
          have e17 : (mum 0 17 + 1 : Int32).toInt = (mum 0 17).toInt + 1 := tI_add rfl z1 (by omega) (by omega)
          have nb : bdM (F_sm_sellTo mum i x) := by
            unfold bdM
            rw [a4 8 (by decide), a4 11 (by decide), a4 15 (by decide), a5, e17]
            exact ⟨hb, hpa, hsent, by omega, by omega⟩
          have go : ∀ w : Int32, (L_qx_luck_78_1 v6 kX n l2 w (i + 1) (F_sx_enterSale mux i x).2).1 = (L_qm_luck_65_1 mu v6 kM n l2 w (i + 1) (F_sm_sellTo mum i x)).1 ∧ core (L_qx_luck_78_1 v6 kX n l2 w (i + 1) (F_sx_enterSale mux i x).2).2 (L_qm_luck_65_1 mu v6 kM n l2 w (i + 1) (F_sm_sellTo mum i x)).2 := fun w => ih l2 w (i + 1) _ _ l1 nb a2 (by rw [a4 14 (by decide)]; exact hd) (by omega) (by rw [a4 15 (by decide)]; omega) (by rw [a4 15 (by decide)]; omega)
          have h9 := (a2.2.2.2.2.2.1 i.toNatClampNeg (by rw [a4 15 (by decide)]; have := tC_of hsent.1; omega)).2.2.2
          have h9 : (F_sx_enterSale mux i x).2 (61 + i.toNatClampNeg) 9 = 0 ∨ (F_sx_enterSale mux i x).2 (61 + i.toNatClampNeg) 9 = 1 := h9
          rcases h9 with e | e
          · rw [e, if_pos rfl]
            exact go _
          · rw [e, if_neg (by decide)]
            exact go _
        · have e40 : mum 0 17 = 40 := Int32.toInt_inj.mp (by omega)
          rw [if_pos (fx_isFull.mpr (by rw [s6]; omega)), if_pos e40]
          exact ⟨rfl, hC0⟩
theorem luck_out {mu : Nat → Nat → Int32} {vn : Int32} (hvn : 1 ≤ vn.toInt ∧ vn.toInt ≤ 40) : ∀ (n : Nat) (l : Int64) (v i : Int32) (mux mum : Nat → Nat → Int32), seedR l → bdM mum → core mux mum → 0 ≤ i.toInt → i.toInt ≤ vn.toInt → (mum 0 14).toInt + (vn.toInt - i.toInt) ≤ 99 → (vn.toInt - i.toInt).toNat < n → (L_qx_luck_69_0 vn n l v i mux).1 = (L_qm_luck_56_0 mu vn n l v i mum).1 ∧ core (L_qx_luck_69_0 vn n l v i mux).2 (L_qm_luck_56_0 mu vn n l v i mum).2 := by
  intro n
  induction n with
  | zero => intro l v i mux mum _ _ _ _ _ _ h; exact absurd h (Nat.not_lt_zero _)
  | succ n ih =>
    intro l v i mux mum hl bd hC h0 hle hday hn
    have z0 : (0 : Int32).toInt = 0 := rfl
    rw [L_qx_luck_69_0, L_qm_luck_56_0]
    by_cases c : i ≥ vn
    · rw [if_pos c, if_pos c]
      exact ⟨rfl, hC⟩
    · have c2 : ¬ vn.toInt ≤ i.toInt := fun h => c (vv_ge.mpr h)
      have ai : (i + 1 : Int32).toInt = i.toInt + 1 := tI_add rfl (rfl : (1 : Int32).toInt = 1) (by omega) (by omega)
      rw [if_neg c, if_neg c]
      exact luck_in (D := (mum 0 14).toInt) (by omega) (fun l' v' mux' mum' hl' bd' hC' hd' => ih l' v' (i + 1) mux' mum' hl' bd' hC' (by omega) (by omega) (by omega) (by omega)) 7 l v 0 mux mum hl bd hC rfl (by decide) (by rw [z0]; exact bd.2.2.1.1) (by rw [z0]; have := bd.2.2.1.2; omega)
theorem lg_eq0 (x : Int64) : lg_cmp x x = 0 := by simp [lg_cmp]
theorem luck_rel {n s r1 r2 : Int32} {mux mum xi1 xi2 : Nat → Nat → Int32} (okm : okR loM hiM mum) (hC : core mux mum) (h1 : (r1, xi1) = F_qx_luck mux n s) (h2 : (r2, xi2) = F_qm_luck mum n s) : r1 = r2 ∧ core xi1 xi2 := by
  have hC0 := hC
  obtain ⟨hK, hE, ⟨s2, s3, s4, s6⟩, hday, hP, hL, hS, hA⟩ := hC
  have z0 : (0 : Int32).toInt = 0 := rfl
  have z1 : (1 : Int32).toInt = 1 := rfl
  have z40 : (40 : Int32).toInt = 40 := rfl
  have z99 : (99 : Int32).toInt = 99 := rfl
  have zM : (2147483646 : Int32).toInt = 2147483646 := rfl
  have none : (r1, xi1) = (-1, mux) → (r2, xi2) = (-1, mum) → r1 = r2 ∧ core xi1 xi2 := fun a b => by
    cases a
    cases b
    exact ⟨rfl, hC0⟩
  simp only [F_qx_luck, letv_eq] at h1
  simp only [F_qm_luck, letv_eq] at h2
  by_cases cn : 1 ≤ n.toInt ∧ n.toInt ≤ 40
  · rw [if_neg (fun e => by have := vv_lt.mp e; omega), if_neg (fun e => by have := vv_gt.mp e; omega)] at h1
    rw [if_pos (fm_in.mpr ⟨by omega, by omega⟩)] at h2
    by_cases cs : 1 ≤ s.toInt ∧ s.toInt ≤ 2147483646
    · have lc : lg_cmp s.toInt64 2147483647 < (0 : Int32) := by
        have e : s.toInt64 < 2147483647 := Int64.lt_iff_toInt_lt.mpr (by rw [Int32.toInt_toInt64]; show s.toInt < (2147483647 : Int); omega)
        have e2 : ¬ (2147483647 : Int64) < s.toInt64 := fun h => by
          have := Int64.lt_iff_toInt_lt.mp h
          rw [Int32.toInt_toInt64] at this
          have z : (2147483647 : Int64).toInt = 2147483647 := rfl
          omega
        have e3 : lg_cmp s.toInt64 2147483647 = -1 := by
          simp only [lg_cmp]
          rw [if_neg e2, if_neg (fun h => by rw [h] at e; exact absurd e (by decide))]
        rw [e3]
        decide
      rw [if_neg (fun e => by have := vv_lt.mp e; omega), if_pos lc, hK.1, s3] at h1
      rw [if_pos (fm_in.mpr ⟨by omega, by omega⟩)] at h2
      by_cases c8 : mum 0 8 = 0
      · rw [if_pos c8] at h1 h2
        cases h1
        cases h2
        exact ⟨rfl, hC0⟩
      · rw [if_neg c8] at h1 h2
        have ad : (mum 0 14 + n : Int32).toInt = (mum 0 14).toInt + n.toInt := tI_add rfl rfl (by omega) (by omega)
        by_cases c9 : mum 0 14 + n ≤ (99 : Int32)
        · have c10 := vv_le.mp c9
          rw [if_pos c9] at h1 h2
          have key := luck_out (mu := mum) cn 43 s.toInt64 0 0 mux mum (by unfold seedR; rw [Int32.toInt_toInt64]; omega) (bd_of okm) hC0 (by decide) (by rw [z0]; omega) (by rw [z0]; omega) (by rw [z0]; omega)
          rw [p_fst h1, p_fst h2, p_snd h1, p_snd h2] at key
          exact key
        · rw [if_neg c9] at h1 h2
          cases h1
          cases h2
          exact ⟨rfl, hC0⟩
    · rw [if_neg (fun e => by have := fm_in.mp e; omega)] at h2
      refine none ?_ h2
      rw [h1]
      by_cases c1 : s < (1 : Int32)
      · rw [if_pos c1]
      · have c2 : ¬ s.toInt < (1 : Int32).toInt := fun e => c1 (vv_lt.mpr e)
        have hm := tI_hi s
        have e7 : s.toInt = 2147483647 := by omega
        have lc : ¬ lg_cmp s.toInt64 2147483647 < (0 : Int32) := by
          have e : s.toInt64 = 2147483647 := Int64.toInt_inj.mp (by rw [Int32.toInt_toInt64, e7]; rfl)
          rw [e, lg_eq0]
          decide
        rw [if_neg c1, if_neg lc]
  · rw [if_neg (fun e => by have := fm_in.mp e; omega)] at h2
    refine none ?_ h2
    rw [h1]
    by_cases c1 : n < (1 : Int32)
    · rw [if_pos c1]
    · have c2 : ¬ n.toInt < (1 : Int32).toInt := fun e => c1 (vv_lt.mpr e)
      rw [if_neg c1, if_pos (vv_gt.mpr (by omega))]

-- ===== worth =====
theorem wo_k {mu : Nat → Nat → Int32} {k j : Nat} {g : Nat → Int32} (h : j ≠ k) : va_up mu k g j = mu j := by simp [va_up, h]
theorem wo_e {mu : Nat → Nat → Int32} {k : Nat} {g : Nat → Int32} : va_up mu k g k = g := by simp [va_up]
theorem wo_n {f : Nat → Int32} {x y : Nat} {v : Int32} (h : y ≠ x) : upd f x v y = f y := by simp [upd, h]
theorem wo_v {f : Nat → Int32} {x : Nat} {v : Int32} : upd f x v x = v := by simp [upd]
theorem wo_worth {mux mum : Nat → Nat → Int32} {k d : Int32} {B : Int} (hk : 0 ≤ k.toInt ∧ k.toInt ≤ 3) (h : oneR B (mux (61 + k.toNatClampNeg)) (mum 10) k.toNatClampNeg) : F_sx_worthOn mux (61 + k.toNatClampNeg) (mum 0 14 + d) = F_sm_worthIn mum k d ∧ 0 ≤ (F_sm_worthIn mum k d).toInt := by
  obtain ⟨f, f1, f5, f9⟩ := h
  have z0 : (0 : Int32).toInt = 0 := rfl
  have h2 : mux (61 + k.toNatClampNeg) 2 = mum 10 (10 * k.toNatClampNeg + 2) := f 2 (by decide)
  have h3 : mux (61 + k.toNatClampNeg) 3 = mum 10 (10 * k.toNatClampNeg + 3) := f 3 (by decide)
  have h4 : mux (61 + k.toNatClampNeg) 4 = mum 10 (10 * k.toNatClampNeg + 4) := f 4 (by decide)
  have i2 : F_sm_letterOf mum k 2 = mum 10 (10 * k.toNatClampNeg + 2) := fm_letterOf hk (by decide)
  have i3 : F_sm_letterOf mum k 3 = mum 10 (10 * k.toNatClampNeg + 3) := fm_letterOf hk (by decide)
  have i4 : F_sm_letterOf mum k 4 = mum 10 (10 * k.toNatClampNeg + 4) := fm_letterOf hk (by decide)
  simp only [F_sx_worthOn, F_sm_worthIn, letv_eq]
  rw [i2, i3, i4, h2, h3, h4]
  generalize mum 10 (10 * k.toNatClampNeg + 2) - mum 10 (10 * k.toNatClampNeg + 3) * (mum 0 14 + d - mum 10 (10 * k.toNatClampNeg + 4)) = t
  by_cases c : (0 : Int32) < t
  · have c1 := vv_lt.mp c
    rw [if_pos c, if_pos (vv_ge.mpr (by omega))]
    exact ⟨rfl, by omega⟩
  · have c1 : ¬ (0 : Int32).toInt < t.toInt := fun e => c (vv_lt.mpr e)
    by_cases c2 : t ≥ (0 : Int32)
    · have c3 := vv_ge.mp c2
      rw [if_neg c, if_pos c2]
      exact ⟨Int32.toInt_inj.mp (by omega), by omega⟩
    · rw [if_neg c, if_neg c2]
      exact ⟨rfl, by decide⟩
theorem wb_loop {kl : Nat} {nux num : Nat → Nat → Int32} {r vg vy : Int32} (h46 : nux 4 6 = num 0 8) (hb : 0 ≤ (num 0 8).toInt ∧ (num 0 8).toInt ≤ 7) (hk : ∀ x : Nat, x < (num 0 8).toNatClampNeg → nux 34 x = num 7 x) (hg : nux kl 1 = vg) (hn : ∀ x : Nat, x < (num 0 8).toNatClampNeg → nux 38 x = num 20 x ∧ 0 ≤ (num 20 x).toInt) (hr : r = F_sm_besideOf num vy) : ∀ (n : Nat) (v w i : Int32), 0 ≤ i.toInt → i.toInt ≤ (num 0 8).toInt → (7 - i.toInt).toNat < n → 0 ≤ v.toInt → ((1 ≤ v.toInt ∧ w.toInt = v.toInt - 1) ∨ (v.toInt = 0 ∧ w.toInt = 0)) → L_sx_worthBeside_19_0 kl nux r n v i = L_sm_bestOf_5_0 num vg vy n w i ∧ 0 ≤ (L_sm_bestOf_5_0 num vg vy n w i).toInt := by
  intro n
  have z0 : (0 : Int32).toInt = 0 := rfl
  have hcB := tC_of hb.1
  induction n with
  | zero => intro v w i _ _ hm _ _; exact absurd hm (Nat.not_lt_zero _)
  | succ n ih =>
    intro v w i h0 hi hm hv hw
    have i1 : (i + 1 : Int32).toInt = i.toInt + 1 := tI_add rfl rfl (by omega) (by omega)
    rw [L_sx_worthBeside_19_0, L_sm_bestOf_5_0]
    simp only [letv_eq]
    rw [h46]
    by_cases c : i ≥ num 0 8
    · rw [if_pos c, if_pos c]
      have t5 : (v - 1 : Int32).toInt = v.toInt - 1 := tI_sub rfl rfl (by show -2147483648 ≤ v.toInt - 1; omega) (by have := v.toInt_lt; show v.toInt - 1 < 2147483648; omega)
      by_cases cz : (0 : Int32) < v - 1
      · have := vv_lt.mp cz
        rw [if_pos cz]
        exact ⟨Int32.toInt_inj.mp (by omega), by omega⟩
      · have : ¬ (0 : Int32).toInt < (v - 1 : Int32).toInt := fun e => cz (vv_lt.mpr e)
        rw [if_neg cz]
        exact ⟨Int32.toInt_inj.mp (by rw [z0]; omega), by omega⟩
    · have c' : i.toInt < (num 0 8).toInt := by
        have : ¬ (num 0 8).toInt ≤ i.toInt := fun e => c (vv_ge.mpr e)
        omega
      have hci := tC_of h0
      have step : ∀ y : Int32, 0 ≤ y.toInt → L_sx_worthBeside_19_0 kl nux r n (if v < y then y else v) (i + 1) = (if y - 1 ≤ w then L_sm_bestOf_5_0 num vg vy n w (i + 1) else L_sm_bestOf_5_0 num vg vy n (y - 1) (i + 1)) ∧ 0 ≤ (if y - 1 ≤ w then L_sm_bestOf_5_0 num vg vy n w (i + 1) else L_sm_bestOf_5_0 num vg vy n (y - 1) (i + 1)).toInt := fun y hy => by
        have t5 : (y - 1 : Int32).toInt = y.toInt - 1 := tI_sub rfl rfl (by show -2147483648 ≤ y.toInt - 1; omega) (by have := y.toInt_lt; show y.toInt - 1 < 2147483648; omega)
        by_cases cv : v < y
        · have := vv_lt.mp cv
          rw [if_pos cv]
          by_cases cw : y - 1 ≤ w
          · have := vv_le.mp cw
            rw [if_pos cw]
            exact ih y w (i + 1) (by omega) (by omega) (by omega) (by omega) (by omega)
          · rw [if_neg cw]
            exact ih y (y - 1) (i + 1) (by omega) (by omega) (by omega) (by omega) (by omega)
        · have : ¬ v.toInt < y.toInt := fun e => cv (vv_lt.mpr e)
          rw [if_neg cv, if_pos (vv_le.mpr (by omega))]
          exact ih v w (i + 1) (by omega) (by omega) (by omega) hv hw
      have skip := ih v w (i + 1) (by omega) (by omega) (by omega) hv hw
      have hni := hn i.toNatClampNeg (by omega)
      rw [if_neg c, if_neg c, ← hr]
      by_cases cb : bt r i.toNatClampNeg = true
      · obtain ⟨a1, a2⟩ := hb_t h0 (by omega) cb
        rw [if_neg a1, if_pos a2, hg, hk i.toNatClampNeg (by omega), hni.1]
        by_cases cg : i = vg
        · rw [if_pos cg]
          by_cases c3 : num 7 i.toNatClampNeg = 3
          · rw [if_pos c3, if_pos cg]
            exact step _ hni.2
          · rw [if_neg c3]
            exact step _ hni.2
        · rw [if_neg cg]
          by_cases c3 : num 7 i.toNatClampNeg = 3
          · rw [if_pos c3, if_pos c3, if_neg cg]
            exact skip
          · rw [if_neg c3, if_neg c3]
            exact step _ hni.2
      · obtain ⟨a1, a2⟩ := hb_f h0 (by omega) (Bool.not_eq_true _ ▸ cb)
        rw [if_pos a1, if_neg a2]
        exact skip
/-- what the worths' loops leave as it was -/
def woF (mux mum nux num : Nat → Nat → Int32) : Prop := (∀ c : Nat, c ≠ 37 → c ≠ 38 → nux c = mux c) ∧ (∀ c : Nat, c ≠ 19 → c ≠ 20 → num c = mum c)
theorem woF_simK {mux mum nux num : Nat → Nat → Int32} (h : woF mux mum nux num) (hK : simK mux mum) : simK nux num := by
  unfold simK
  rw [h.1 4 (by decide) (by decide), h.1 34 (by decide) (by decide), h.1 35 (by decide) (by decide), h.1 36 (by decide) (by decide), h.2 0 (by decide) (by decide), h.2 7 (by decide) (by decide), h.2 9 (by decide) (by decide)]
  exact hK
theorem wb_eq {mux mum nux num : Nat → Nat → Int32} {kl : Nat} {y vg : Int32} (bd : bdM mum) (hC : core mux mum) (hF : woF mux mum nux num) (hg : nux kl 1 = vg) (hn : ∀ x : Nat, x < (mum 0 8).toNatClampNeg → nux 38 x = num 20 x ∧ 0 ≤ (num 20 x).toInt) : F_sx_worthBeside nux kl y = F_sm_bestOf num y vg ∧ 0 ≤ (F_sm_bestOf num y vg).toInt := by
  have hK := woF_simK hF hC.1
  have e0 : num 0 = mum 0 := hF.2 0 (by decide) (by decide)
  have hs : nux 5 2 = num 0 13 := by rw [hF.1 5 (by decide) (by decide), e0]; exact hC.2.2.1.1
  have hb : 0 ≤ (num 0 8).toInt ∧ (num 0 8).toInt ≤ 7 := by rw [e0]; exact bd.1
  have hp : 0 ≤ (num 0 11).toInt ∧ (num 0 11).toInt ≤ 12 := by rw [e0]; exact bd.2.1
  unfold F_sx_worthBeside F_sm_bestOf
  simp only [letv_eq]
  rw [near_eq hK hp hs]
  exact wb_loop hK.1 hb hK.2.2.1 hg (by rw [e0]; exact hn) rfl 10 0 0 0 (by decide) (by show (0 : Int) ≤ _; exact hb.1) (by decide) (by decide) (Or.inr ⟨rfl, rfl⟩)
theorem wt_in {mux mum : Nat → Nat → Int32} {k a : Int32} {kX kM : Int32 → (Nat → Nat → Int32) → Int32 × (Nat → Nat → Int32)} (bd : bdM mum) (hC : core mux mum) (hk : 0 ≤ k.toInt ∧ k.toInt < (mum 0 15).toInt) (ha : 0 ≤ a.toInt ∧ a.toInt ≤ 19)
    (hK : ∀ (a' : Int32) (nux num : Nat → Nat → Int32), a' = a + (-1) → woF mux mum nux num → (∀ y : Nat, y < (mum 0 8).toNatClampNeg → nux 37 y = num 19 y ∧ 0 ≤ (num 19 y).toInt) → (kX a' nux).1 = (kM a' num).1) : ∀ (n : Nat) (i : Int32) (nux num : Nat → Nat → Int32), woF mux mum nux num → (∀ y : Nat, y < (mum 0 8).toNatClampNeg → nux 38 y = num 20 y ∧ 0 ≤ (num 20 y).toInt) → (∀ y : Nat, y < i.toNatClampNeg → nux 37 y = num 19 y ∧ 0 ≤ (num 19 y).toInt) → 0 ≤ i.toInt → i.toInt ≤ (mum 0 8).toInt → (7 - i.toInt).toNat < n → (L_sx_worthTo_59_1 (61 + k.toNatClampNeg) a kX n i nux).1 = (L_qm_worth_101_2 (F_sm_letterOf mum k 1) a k kM n i num).1 := by
  intro n
  have hcB := tC_of bd.1.1
  have hck := tC_of hk.1
  have hc15 := tC_of bd.2.2.1.1
  have hk3 : 0 ≤ k.toInt ∧ k.toInt ≤ 3 := ⟨hk.1, by have := bd.2.2.1.2; omega⟩
  have hone := hC.2.2.2.2.2.1 k.toNatClampNeg (by omega)
  have i1' : F_sm_letterOf mum k 1 = mum 10 (10 * k.toNatClampNeg + 1) := fm_letterOf hk3 (by decide)
  have p1 : mux (61 + k.toNatClampNeg) 1 = mum 10 (10 * k.toNatClampNeg + 1) := hone.1 1 (by decide)
  have hB7 := bd.1.2
  have a20 : ¬ a = 20 := fun e => by rw [e] at ha; exact absurd ha.2 (by decide)
  induction n with
  | zero => intro i nux num _ _ _ _ _ hm; exact absurd hm (Nat.not_lt_zero _)
  | succ n ih =>
    intro i nux num hF hn hd h0 hi hm
    have i1 : (i + 1 : Int32).toInt = i.toInt + 1 := tI_add rfl rfl (by have := bd.1.2; omega) (by have := bd.1.2; omega)
    have hci := tC_of h0
    have hci1 := tC_of (v := i + 1) (by omega)
    have e0 : num 0 = mum 0 := hF.2 0 (by decide) (by decide)
    have ekl : nux (61 + k.toNatClampNeg) = mux (61 + k.toNatClampNeg) := hF.1 _ (by omega) (by omega)
    have h46 : nux 4 6 = num 0 8 := (woF_simK hF hC.1).1
    have hg : nux (61 + k.toNatClampNeg) 1 = F_sm_letterOf mum k 1 := by rw [ekl, i1']; exact p1
    have put : ∀ v : Int32, 0 ≤ v.toInt → i.toInt < (mum 0 8).toInt → (L_sx_worthTo_59_1 (61 + k.toNatClampNeg) a kX n (i + 1) (va_up nux 37 (upd (nux 37) i.toNatClampNeg v))).1 = (L_qm_worth_101_2 (F_sm_letterOf mum k 1) a k kM n (i + 1) (va_up num 19 (upd (num 19) i.toNatClampNeg v))).1 := fun v hv hlt => by
      refine ih (i + 1) _ _ ⟨fun c c1 c2 => ?_, fun c c1 c2 => ?_⟩ (fun y hy => ?_) (fun y hy => ?_) (by omega) (by omega) (by omega)
      · rw [wo_k c1]; exact hF.1 c c1 c2
      · rw [wo_k c1]; exact hF.2 c c1 c2
      · rw [wo_k (by decide), wo_k (by decide)]; exact hn y hy
      · rw [wo_e, wo_e]
        by_cases cy : y = i.toNatClampNeg
        · subst cy
          rw [wo_v, wo_v]
          exact ⟨rfl, hv⟩
        · rw [wo_n cy, wo_n cy]
          exact hd y (by omega)
    rw [L_sx_worthTo_59_1, L_qm_worth_101_2]
    simp only [letv_eq]
    rw [h46, e0]
    by_cases c : i ≥ mum 0 8
    · have := vv_ge.mp c
      rw [if_pos c, if_pos c]
      exact hK _ nux num rfl hF (fun y hy => hd y (by omega))
    · have c' : i.toInt < (mum 0 8).toInt := by
        have : ¬ (mum 0 8).toInt ≤ i.toInt := fun e => c (vv_ge.mpr e)
        omega
      rw [if_neg c, if_neg c, hg]
      by_cases cg : i = F_sm_letterOf mum k 1
      · have h53 : nux 5 3 = num 0 14 := by rw [hF.1 5 (by decide) (by decide), e0]; exact hC.2.2.1.2.1
        have ww := wo_worth (mux := nux) (mum := num) (d := a) (B := (mum 0 8).toInt) hk3 (by rw [ekl, hF.2 10 (by decide) (by decide)]; exact hone)
        rw [if_pos cg, if_pos cg, h53, ww.1]
        exact put _ ww.2 c'
      · have wb := wb_eq (y := i) bd hC hF hg hn
        rw [if_neg cg, if_neg cg, if_neg a20, wb.1]
        exact put _ wb.2 c'
theorem w20_loop {mum : Nat → Nat → Int32} {k : Int32} {kM : Int32 → (Nat → Nat → Int32) → Int32 × (Nat → Nat → Int32)} (hb : 0 ≤ (mum 0 8).toInt ∧ (mum 0 8).toInt ≤ 7) {g : Int32} (hg : 0 ≤ g.toInt) : ∀ (n : Nat) (i : Int32) (num : Nat → Nat → Int32), (∀ c : Nat, c ≠ 19 → c ≠ 20 → num c = mum c) → (∀ y : Nat, y < i.toNatClampNeg → num 19 y = if y = g.toNatClampNeg then F_sm_worthIn mum k 20 else 0) → 0 ≤ i.toInt → i.toInt ≤ (mum 0 8).toInt → (7 - i.toInt).toNat < n → ∃ num' : Nat → Nat → Int32, (∀ c : Nat, c ≠ 19 → c ≠ 20 → num' c = mum c) ∧ (∀ y : Nat, y < (mum 0 8).toNatClampNeg → num' 19 y = if y = g.toNatClampNeg then F_sm_worthIn mum k 20 else 0) ∧ L_qm_worth_101_2 g 20 k kM n i num = kM (20 + (-1)) num' := by
  intro n
  have hcB := tC_of hb.1
  have hcg := tC_of hg
  induction n with
  | zero => intro i num _ _ _ _ hm; exact absurd hm (Nat.not_lt_zero _)
  | succ n ih =>
    intro i num hF hd h0 hi hm
    have i1 : (i + 1 : Int32).toInt = i.toInt + 1 := tI_add rfl rfl (by omega) (by omega)
    have hci := tC_of h0
    have hci1 := tC_of (v := i + 1) (by omega)
    have e0 : num 0 = mum 0 := hF 0 (by decide) (by decide)
    have ew : F_sm_worthIn num k 20 = F_sm_worthIn mum k 20 := by
      simp only [F_sm_worthIn, F_sm_letterOf, letv_eq]
      rw [e0, hF 10 (by decide) (by decide)]
    have put : ∀ v : Int32, v = (if i.toNatClampNeg = g.toNatClampNeg then F_sm_worthIn mum k 20 else 0) → i.toInt < (mum 0 8).toInt → ∃ num' : Nat → Nat → Int32, (∀ c : Nat, c ≠ 19 → c ≠ 20 → num' c = mum c) ∧ (∀ y : Nat, y < (mum 0 8).toNatClampNeg → num' 19 y = if y = g.toNatClampNeg then F_sm_worthIn mum k 20 else 0) ∧ L_qm_worth_101_2 g 20 k kM n (i + 1) (va_up num 19 (upd (num 19) i.toNatClampNeg v)) = kM (20 + (-1)) num' := fun v hv hlt => by
      refine ih (i + 1) _ (fun c c1 c2 => ?_) (fun y hy => ?_) (by omega) (by omega) (by omega)
      · rw [wo_k c1]; exact hF c c1 c2
      · rw [wo_e]
        by_cases cy : y = i.toNatClampNeg
        · subst cy
          rw [wo_v]
          exact hv
        · rw [wo_n cy]
          exact hd y (by omega)
    rw [L_qm_worth_101_2]
    simp only [letv_eq]
    rw [e0]
    by_cases c : i ≥ mum 0 8
    · have := vv_ge.mp c
      rw [if_pos c]
      exact ⟨num, hF, fun y hy => hd y (by omega), rfl⟩
    · have c' : i.toInt < (mum 0 8).toInt := by
        have : ¬ (mum 0 8).toInt ≤ i.toInt := fun e => c (vv_ge.mpr e)
        omega
      rw [if_neg c]
      by_cases cg : i = g
      · rw [if_pos cg, ew]
        exact put _ (by rw [cg, if_pos rfl]) c'
      · have ng : ¬ i.toNatClampNeg = g.toNatClampNeg := fun e => cg (Int32.toInt_inj.mp (by omega))
        rw [if_neg cg, if_pos trivial]
        exact put 0 (by rw [if_neg ng]) c'
theorem wcp_loop {mum : Nat → Nat → Int32} {k g a : Int32} {kM : Int32 → (Nat → Nat → Int32) → Int32 × (Nat → Nat → Int32)} (hb : 0 ≤ (mum 0 8).toInt ∧ (mum 0 8).toInt ≤ 7) {w : Nat → Int32} : ∀ (n : Nat) (i : Int32) (num : Nat → Nat → Int32), (∀ c : Nat, c ≠ 19 → c ≠ 20 → num c = mum c) → num 19 = w → (∀ y : Nat, y < i.toNatClampNeg → num 20 y = w y) → 0 ≤ i.toInt → i.toInt ≤ (mum 0 8).toInt → (7 - i.toInt).toNat < n → ∃ num' : Nat → Nat → Int32, (∀ c : Nat, c ≠ 19 → c ≠ 20 → num' c = mum c) ∧ num' 19 = w ∧ (∀ y : Nat, y < (mum 0 8).toNatClampNeg → num' 20 y = w y) ∧ L_qm_worth_69_1 g a k kM n i num = L_qm_worth_101_2 g a k kM 10 0 num' := by
  intro n
  have hcB := tC_of hb.1
  induction n with
  | zero => intro i num _ _ _ _ _ hm; exact absurd hm (Nat.not_lt_zero _)
  | succ n ih =>
    intro i num hF hw hd h0 hi hm
    have i1 : (i + 1 : Int32).toInt = i.toInt + 1 := tI_add rfl rfl (by omega) (by omega)
    have hci := tC_of h0
    have hci1 := tC_of (v := i + 1) (by omega)
    have e0 : num 0 = mum 0 := hF 0 (by decide) (by decide)
    rw [L_qm_worth_69_1]
    simp only [letv_eq]
    rw [e0]
    by_cases c : i ≥ mum 0 8
    · have := vv_ge.mp c
      rw [if_pos c]
      exact ⟨num, hF, hw, fun y hy => hd y (by omega), rfl⟩
    · have c' : i.toInt < (mum 0 8).toInt := by
        have : ¬ (mum 0 8).toInt ≤ i.toInt := fun e => c (vv_ge.mpr e)
        omega
      rw [if_neg c]
      refine ih (i + 1) _ (fun c c1 c2 => ?_) ?_ (fun y hy => ?_) (by omega) (by omega) (by omega)
      · rw [wo_k c2]; exact hF c c1 c2
      · rw [wo_k (by decide)]; exact hw
      · rw [wo_e]
        by_cases cy : y = i.toNatClampNeg
        · subst cy
          rw [wo_v, hw]
        · rw [wo_n cy]
          exact hd y (by omega)
theorem wt_main {mux mum : Nat → Nat → Int32} {k d x : Int32} (bd : bdM mum) (hC : core mux mum) (hk : 0 ≤ k.toInt ∧ k.toInt < (mum 0 15).toInt) (hd0 : 0 ≤ d.toInt) (hx : 0 ≤ x.toInt ∧ x.toInt < (mum 0 8).toInt) : ∀ (n m : Nat) (a : Int32) (nux num : Nat → Nat → Int32), woF mux mum nux num → (∀ y : Nat, y < (mum 0 8).toNatClampNeg → nux 37 y = num 19 y ∧ 0 ≤ (num 19 y).toInt) → -1 ≤ a.toInt → a.toInt ≤ 19 → (a.toInt + 1).toNat < n → (a.toInt + 1).toNat < m → (L_sx_worthTo_35_0 (61 + k.toNatClampNeg) d x n a nux).1 = (L_qm_worth_60_0 (F_sm_letterOf mum k 1) d k x m a num).1 := by
  intro n
  have hcB := tC_of bd.1.1
  have hcx := tC_of hx.1
  induction n with
  | zero => intro m a nux num _ _ _ _ hn _; exact absurd hn (Nat.not_lt_zero _)
  | succ n ih =>
    intro m a nux num hF h37 a0 a1 hn hm
    match m, hm with
    | 0, hm => exact absurd hm (Nat.not_lt_zero _)
    | m + 1, hm =>
      rw [L_sx_worthTo_35_0, L_qm_worth_60_0]
      simp only [letv_eq]
      by_cases c : a < d
      · rw [if_pos c, if_pos c]
        exact (h37 x.toNatClampNeg (by omega)).1
      · have c' : ¬ a.toInt < d.toInt := fun e => c (vv_lt.mpr e)
        rw [if_neg c, if_neg c]
        have a0' : 0 ≤ a.toInt := by omega
        have am : ∀ a' : Int32, a' = a + (-1) → a'.toInt = a.toInt + (-1) := fun a' e => by
          rw [e]
          exact tI_add rfl (rfl : (-1 : Int32).toInt = -1) (by omega) (by omega)
        obtain ⟨num', g1, g2, g3, g4⟩ := wcp_loop (mum := mum) (k := k) (g := F_sm_letterOf mum k 1) (a := a) (kM := fun z_v6_60 z_nu60_ => L_qm_worth_60_0 (F_sm_letterOf mum k 1) d k x m z_v6_60 z_nu60_) (w := num 19) bd.1 10 0 num hF.2 rfl (fun y hy => absurd hy (Nat.not_lt_zero _)) (by decide) (by show (0 : Int) ≤ _; exact bd.1.1) (by decide)
        rw [g4]
        have cp : ∀ j : Nat, j < 7 → va_cpy (nux 37) (nux 38) (0 : Int32).toNatClampNeg (0 : Int32).toNatClampNeg (7 : Int32).toNatClampNeg j = nux 37 j := fun j hj => by
          show va_cpy (nux 37) (nux 38) 0 0 7 j = _
          unfold va_cpy
          rw [if_pos ⟨Nat.zero_le _, by omega⟩, Nat.zero_add, Nat.sub_zero]
        have next : ∀ (a' : Int32) (nux num : Nat → Nat → Int32), a' = a + (-1) → woF mux mum nux num → (∀ y : Nat, y < (mum 0 8).toNatClampNeg → nux 37 y = num 19 y ∧ 0 ≤ (num 19 y).toInt) → (L_sx_worthTo_35_0 (61 + k.toNatClampNeg) d x n a' nux).1 = (L_qm_worth_60_0 (F_sm_letterOf mum k 1) d k x m a' num).1 := fun a' nux num ea e1 e2 => by
          have q := am a' ea
          clear ea am
          exact ih m a' nux num e1 e2 (by omega) (by omega) (by omega) (by omega)
        refine wt_in bd hC hk ⟨a0', a1⟩ next 10 0 _ num' ⟨fun c c1 c2 => ?_, g1⟩ (fun y hy => ?_) (fun y hy => absurd hy (Nat.not_lt_zero _)) (by decide) (by show (0 : Int) ≤ _; exact bd.1.1) (by decide)
        · rw [wo_k c2]; exact hF.1 c c1 c2
        · rw [wo_e, cp y (by have := bd.1.2; omega), g3 y hy]
          exact h37 y hy
theorem fill37 {v : Int32} : ∀ (n : Nat) (i : Int32) (nu : Nat → Nat → Int32), 0 ≤ i.toInt → i.toInt ≤ 7 → (7 - i.toInt).toNat < n → (∀ j : Nat, j < i.toNatClampNeg → nu 37 j = v) → (∀ c : Nat, c ≠ 37 → L_sj_fillI_37_5_0 v n i nu c = nu c) ∧ ∀ j : Nat, j < 7 → L_sj_fillI_37_5_0 v n i nu 37 j = v := by
  intro n
  have z7 : (7 : Int32).toInt = 7 := rfl
  induction n with
  | zero => intro i nu _ _ hm _; exact absurd hm (Nat.not_lt_zero _)
  | succ n ih =>
    intro i nu h0 hi hm hd
    have hci := tC_of h0
    rw [L_sj_fillI_37_5_0]
    simp only [letv_eq]
    by_cases c : i ≥ (7 : Int32)
    · have := vv_ge.mp c
      rw [if_pos c]
      exact ⟨fun _ _ => rfl, fun j hj => hd j (by omega)⟩
    · have c' : ¬ (7 : Int32).toInt ≤ i.toInt := fun e => c (vv_ge.mpr e)
      have i1 : (i + 1 : Int32).toInt = i.toInt + 1 := tI_add rfl rfl (by omega) (by omega)
      have hci1 := tC_of (v := i + 1) (by omega)
      rw [if_neg c]
      obtain ⟨q1, q2⟩ := ih (i + 1) (va_up nu 37 (upd (nu 37) i.toNatClampNeg v)) (by omega) (by omega) (by omega) (fun j hj => by
        rw [wo_e]
        by_cases cj : j = i.toNatClampNeg
        · subst cj
          exact wo_v
        · rw [wo_n cj]
          exact hd j (by omega))
      exact ⟨fun c hc => (q1 c hc).trans (wo_k hc), q2⟩
theorem worth_rel {k x d r1 r2 : Int32} {mux mum xi1 xi2 : Nat → Nat → Int32} (okm : okR loM hiM mum) (hC : core mux mum) (h1 : (r1, xi1) = F_qx_worth mux k x d) (h2 : (r2, xi2) = F_qm_worth mum k x d) : r1 = r2 := by
  have bd := bd_of okm
  have z0 : (0 : Int32).toInt = 0 := rfl
  have z20 : (20 : Int32).toInt = 20 := rfl
  have n1 : ¬ (-1 : Int32) = 0 := by decide
  have n3 : ¬ (-3 : Int32) = 0 := by decide
  have rf : F_sx_refusedRoute mux k 1 = (-1, mux) := by
    unfold F_sx_refusedRoute
    rw [fx_refL1, letp_eq, if_neg n1]
  unfold F_qx_worth at h1
  unfold F_qm_worth at h2
  by_cases px : 0 ≤ x.toInt ∧ x.toInt < (mum 0 8).toInt
  · rw [if_pos (fx_has.mpr (by rw [hC.1.1]; exact px))] at h1
    rw [if_pos ((fm_isOne bd.1).mpr px)] at h2
    by_cases cd : 0 ≤ d.toInt ∧ d.toInt ≤ 20
    · rw [if_neg (fun e => by have := vv_lt.mp e; omega), if_pos (vv_le.mpr (by omega))] at h1
      rw [if_pos (fm_in.mpr (by omega))] at h2
      rcases askL (k := k) hC.2.2.1.2.2.1 with ⟨hk, a1, a2⟩ | ⟨hk, a1, a2⟩ | ⟨hk, a1, a2⟩
      · unfold F_sx_refusedRoute at h1
        rw [a1] at h1
        rw [a2] at h2
        simp only [letp_eq, letv_eq] at h1 h2
        rw [if_pos trivial] at h1 h2
        have hck := tC_of hk.1
        have hc15 := tC_of bd.2.2.1.1
        have hk3 : 0 ≤ k.toInt ∧ k.toInt ≤ 3 := ⟨hk.1, by have := bd.2.2.1.2; omega⟩
        have hone := hC.2.2.2.2.2.1 k.toNatClampNeg (by omega)
        obtain ⟨l0, l1, l5, l9⟩ := id hone
        have p9 : mux (61 + k.toNatClampNeg) 9 = mum 10 (10 * k.toNatClampNeg + 9) := l0 9 (by decide)
        have i9 : F_sm_letterOf mum k 9 = mum 10 (10 * k.toNatClampNeg + 9) := fm_letterOf hk3 (by decide)
        have i1 : F_sm_letterOf mum k 1 = mum 10 (10 * k.toNatClampNeg + 1) := fm_letterOf hk3 (by decide)
        have p1' : mux (61 + k.toNatClampNeg) 1 = mum 10 (10 * k.toNatClampNeg + 1) := l0 1 (by decide)
        have p1 : mux (61 + k.toNatClampNeg) 1 = F_sm_letterOf mum k 1 := p1'.trans i1.symm
        simp only [F_sm_isRead, letv_eq] at h2
        rw [i9, ← p9] at h2
        rcases l9 with g | g
        · have g : mux (61 + k.toNatClampNeg) 9 = 0 := g
          rw [g, if_pos rfl, if_pos rfl] at h1
          rw [g, show (if (0 : Int32) = 1 then (1 : Int32) else 0) = 0 from if_neg (by decide), if_pos rfl] at h2
          simp only [F_sx_worthTo, letp_eq, letv_eq] at h1
          obtain ⟨f1, f2⟩ := fill37 (v := 0) 10 0 mux (by decide) (by decide) (by decide) (fun j hj => absurd hj (Nat.not_lt_zero _))
          have f0 : F_sj_fillI_37 mux 0 = L_sj_fillI_37_5_0 0 10 0 mux := rfl
          rw [f0] at h1
          generalize L_sj_fillI_37_5_0 0 10 0 mux = m1 at h1 f1 f2
          have ekl : m1 (61 + k.toNatClampNeg) = mux (61 + k.toNatClampNeg) := f1 _ (by omega)
          have h53 : m1 5 3 = mum 0 14 := by rw [f1 5 (by decide)]; exact hC.2.2.1.2.1
          have ww := wo_worth (mux := m1) (mum := mum) (d := 20) (B := (mum 0 8).toInt) hk3 (by rw [ekl]; exact hone)
          rw [h53, ww.1, ekl, p1] at h1
          have lg : 0 ≤ (F_sm_letterOf mum k 1).toInt ∧ (F_sm_letterOf mum k 1).toInt < (mum 0 8).toInt := by rw [← p1]; exact l1
          have hcg := tC_of lg.1
          rw [L_qm_worth_60_0] at h2
          rw [if_neg (fun e => by have := vv_lt.mp e; omega)] at h2
          obtain ⟨num', g1, g2, g3, g4⟩ := wcp_loop (mum := mum) (k := k) (g := F_sm_letterOf mum k 1) (a := 20) (kM := fun z_v6_60 z_nu60_ => L_qm_worth_60_0 (F_sm_letterOf mum k 1) d k x 23 z_v6_60 z_nu60_) (w := mum 19) bd.1 10 0 mum (fun _ _ _ => rfl) rfl (fun y hy => absurd hy (Nat.not_lt_zero _)) (by decide) (by show (0 : Int) ≤ _; exact bd.1.1) (by decide)
          rw [g4] at h2
          obtain ⟨num2, e1, e2, e3⟩ := w20_loop (mum := mum) (k := k) (g := F_sm_letterOf mum k 1) (kM := fun z_v6_60 z_nu60_ => L_qm_worth_60_0 (F_sm_letterOf mum k 1) d k x 23 z_v6_60 z_nu60_) bd.1 lg.1 10 0 num' g1 (fun y hy => absurd hy (Nat.not_lt_zero _)) (by decide) (by show (0 : Int) ≤ _; exact bd.1.1) (by decide)
          rw [e3] at h2
          have m19 : (20 + (-1) : Int32) = 19 := by decide
          rw [m19] at h2
          have q := wt_main (d := d) (x := x) bd hC hk cd.1 px 23 23 19 (va_up m1 37 (upd (m1 37) (F_sm_letterOf mum k 1).toNatClampNeg (F_sm_worthIn mum k 20))) num2 ⟨fun c c1 c2 => by rw [wo_k c1]; exact f1 c c1, e1⟩ (fun y hy => by
            rw [wo_e, e2 y hy]
            by_cases cy : y = (F_sm_letterOf mum k 1).toNatClampNeg
            · rw [cy, wo_v, if_pos rfl]
              exact ⟨rfl, ww.2⟩
            · rw [wo_n cy, if_neg cy, f2 y (by have := bd.1.2; have := tC_of bd.1.1; omega)]
              exact ⟨rfl, by decide⟩) (by decide) (by decide) (by decide) (by decide)
          have r1e : r1 = _ := congrArg Prod.fst h1
          have r2e : r2 = _ := congrArg Prod.fst h2
          rw [r1e, r2e]
          exact q
        · have g : mux (61 + k.toNatClampNeg) 9 = 1 := g
          have n4 : ¬ (-4 : Int32) = 0 := by decide
          rw [g, show (if (1 : Int32) = 0 then ((0 : Int32), mux) else (-4, mux)) = (-4, mux) from if_neg (by decide)] at h1
          dsimp only at h1
          rw [if_neg n4] at h1
          rw [g, show (if (1 : Int32) = 1 then (1 : Int32) else 0) = 1 from if_pos rfl, if_neg (by decide)] at h2
          exact (congrArg Prod.fst h1).trans (congrArg Prod.fst h2).symm
      · unfold F_sx_refusedRoute at h1
        rw [a1] at h1
        rw [a2] at h2
        simp only [letp_eq, letv_eq] at h1 h2
        rw [if_neg n3, if_neg n3] at h1
        rw [if_neg n3] at h2
        exact (congrArg Prod.fst h1).trans (congrArg Prod.fst h2).symm
      · unfold F_sx_refusedRoute at h1
        rw [a1] at h1
        rw [a2] at h2
        simp only [letp_eq, letv_eq] at h1 h2
        rw [if_neg n1, if_neg n1] at h1
        rw [if_neg n1] at h2
        exact (congrArg Prod.fst h1).trans (congrArg Prod.fst h2).symm
    · have h1' : r1 = -1 := by
        by_cases c : d < (0 : Int32)
        · rw [if_pos c, rf, letp_eq, if_neg n1] at h1
          exact congrArg Prod.fst h1
        · rw [if_neg c, if_neg (fun e => by have := vv_le.mp e; have : ¬ d.toInt < (0 : Int32).toInt := fun e => c (vv_lt.mpr e); omega), rf, letp_eq, if_neg n1] at h1
          exact congrArg Prod.fst h1
      rw [if_neg (fun e => by have := fm_in.mp e; omega)] at h2
      exact h1'.trans (congrArg Prod.fst h2).symm
  · rw [if_neg (fun e => px (by have := fx_has.mp e; rw [hC.1.1] at this; exact this)), rf, letp_eq, if_neg n1] at h1
    rw [if_neg (fun e => px ((fm_isOne bd.1).mp e))] at h2
    exact (congrArg Prod.fst h1).trans (congrArg Prod.fst h2).symm

theorem wL_in {y2 : MethodName} {c2 : ByteArray} {n2 : Nat} {r2 : Option FieldType} (h : Cond.code y2 c2 n2 r2 ∈ lw_good) : GoodIn lw_tbl (wU y2 c2 n2 r2) := fun w hw => by
  have hg : ∀ w, w ∈ lw_good → w ∈ lw_tbl ∧ ((w.onTables && w.keeps) = true ∨ ∃ ty, w = .arrayClass ty) := fun w h => ⟨(List.mem_filter.mp h).1, good_of_word (List.mem_filter.mp h).2⟩
  rcases List.mem_cons.mp hw with e | hw
  · rw [e]; exact hg _ h
  · exact hg w hw
theorem wL_V {y2 : MethodName} {c2 : ByteArray} {n2 i : Nat} {r2 : Option FieldType} {own C : String} (h : Cond.code y2 c2 n2 r2 ∈ lw_good) (h1 : Cond.methodLink own i y2 ∈ lw_good) (h2 : Cond.instanceMethod y2 ∈ lw_good) (h3 : Cond.selects C y2 y2 ∈ lw_good) (h4 : Cond.initialized C ∈ lw_good) : GoodIn lw_tbl (wsV own i C y2 (wU y2 c2 n2 r2)) := fun w hw => by
  have hg : ∀ w, w ∈ lw_good → w ∈ lw_tbl ∧ ((w.onTables && w.keeps) = true ∨ ∃ ty, w = .arrayClass ty) := fun w h => ⟨(List.mem_filter.mp h).1, good_of_word (List.mem_filter.mp h).2⟩
  rcases List.mem_append.mp hw with hw | hw
  · simp only [List.mem_cons, List.not_mem_nil, or_false] at hw
    rcases hw with e | e | e | e <;> rw [e]
    · exact hg _ h1
    · exact hg _ h2
    · exact hg _ h3
    · exact hg _ h4
  · exact wL_in h w hw
theorem kp_rest {A0 : Nat → Prop} {D : va_G} {cl : List vw_C} {w1 w2 : va_W} {H H1 : Heap} (hD : va_D A0 (w1 ++ w2)) (hP : va_P D cl w2 H) (hk : ∀ q : Nat, q < H.size → ¬ va_A w1 H.size q → H1[q]? = H[q]?) : va_P D cl w2 H1 := by
  refine hP.kept (fun k x hx => hk x.1 (hP k x hx).lt (fun h => ?_))
  rcases h with ⟨i, e, hi⟩ | h
  · have hlt : i < w1.length := (List.getElem?_eq_some_iff.mp hi).1
    have h1 : (w1 ++ w2)[i]? = some (x.1, e) := by rw [List.getElem?_append_left hlt]; exact hi
    have h2 : (w1 ++ w2)[w1.length + k]? = some x := by rw [List.getElem?_append_right (Nat.le_add_right _ _), Nat.add_sub_cancel_left]; exact hx
    have := hD.1 _ _ _ _ h1 h2 rfl
    omega
  · exact absurd (hP k x hx).lt (Nat.not_lt.mpr h)
theorem dl_left {A0 : Nat → Prop} {w1 w2 : va_W} (hD : va_D A0 (w1 ++ w2)) : va_D A0 w1 := by
  have ap : ∀ {i : Nat} {q : Nat × va_E}, w1[i]? = some q → (w1 ++ w2)[i]? = some q := fun {i q} h => by
    rw [List.getElem?_append_left (List.getElem?_eq_some_iff.mp h).1]; exact h
  exact ⟨fun i j p q h1 h2 e => hD.1 i j p q (ap h1) (ap h2) e, fun k q h => hD.2 k q (ap h)⟩
theorem dl_right {A0 : Nat → Prop} {w1 w2 : va_W} (hD : va_D A0 (w1 ++ w2)) : va_D A0 w2 := by
  have ap : ∀ {i : Nat} {q : Nat × va_E}, w2[i]? = some q → (w1 ++ w2)[w1.length + i]? = some q := fun {i q} h => by
    rw [List.getElem?_append_right (Nat.le_add_right _ _), Nat.add_sub_cancel_left]; exact h
  exact ⟨fun i j p q h1 h2 e => by have := hD.1 _ _ p q (ap h1) (ap h2) e; omega, fun k q h => hD.2 _ q (ap h)⟩
theorem lg_same {x y : Int64} (h : x = y) : lg_cmp x y = 0 := by
  subst h
  simp [lg_cmp]
theorem wR_fst {N : Nat} {ad : Nat → Nat} {E : Nat → (Nat → Int32) → va_E} {mu : Nat → Nat → Int32} : (wR N ad E mu).map Prod.fst = (List.range N).map ad := by
  unfold wR
  rw [List.map_map]
  rfl
theorem wR_DD {A : Nat → Prop} {N1 N2 : Nat} {ad1 ad2 : Nat → Nat} {E1 E2 : Nat → (Nat → Int32) → va_E} {mu1 mu2 : Nat → Nat → Int32} (nu1 nu2 : Nat → Nat → Int32) (h : va_D A (wR N1 ad1 E1 mu1 ++ wR N2 ad2 E2 mu2)) : va_D A (wR N1 ad1 E1 nu1 ++ wR N2 ad2 E2 nu2) := by
  obtain ⟨h1, h2⟩ := vaD_iff.mp h
  have key : ∀ (m1 m2 : Nat → Nat → Int32), (wR N1 ad1 E1 m1 ++ wR N2 ad2 E2 m2).map Prod.fst = (List.range N1).map ad1 ++ (List.range N2).map ad2 := fun m1 m2 => by rw [List.map_append, wR_fst, wR_fst]
  refine vaD_iff.mpr ⟨?_, fun q hq => ?_⟩
  · rw [key]
    rw [key] at h1
    exact h1
  · have h3 : q.1 ∈ (wR N1 ad1 E1 nu1 ++ wR N2 ad2 E2 nu2).map Prod.fst := List.mem_map.mpr ⟨q, hq, rfl⟩
    rw [key nu1 nu2, ← key mu1 mu2] at h3
    obtain ⟨x, hx, e⟩ := List.mem_map.mp h3
    rw [← e]
    exact h2 x hx
theorem ok0X : okR loX hiX mu0X := by
  have h0 : ∀ c f : Nat, loXc c f ≤ 0 ∧ 0 ≤ hiXc c f := by
    intro c f
    unfold loXc hiXc
    constructor <;> (repeat' split) <;> omega
  intro k f
  by_cases c1 : k < 8
  · have e : mu0X k = fun _ => 0 := by unfold mu0X; rw [if_pos c1]
    rw [e]
    exact h0 _ _
  · by_cases c2 : k < 18
    · have e : mu0X k = fun f => if f = 1 then -1 else 0 := by unfold mu0X; rw [if_neg c1, if_pos c2]
      rw [e]
      by_cases cf : f = 1
      · subst cf
        have key : ∀ k, k < 18 → ¬ k < 8 → loX k 1 ≤ -1 ∧ -1 ≤ hiX k 1 := by decide +kernel
        exact key k c2 c1
      · show loX k f ≤ ((if f = 1 then (-1 : Int32) else 0)).toInt ∧ ((if f = 1 then (-1 : Int32) else 0)).toInt ≤ hiX k f
        rw [if_neg cf]
        exact h0 _ _
    · have e : mu0X k = fun _ => 0 := by unfold mu0X; rw [if_neg c1, if_neg c2]
      rw [e]
      exact h0 _ _
theorem ok0M : okR loM hiM mu0M := by
  have h0 : ∀ c f : Nat, loMc c f ≤ 0 ∧ 0 ≤ hiMc c f := by
    intro c f
    unfold loMc hiMc
    constructor <;> (repeat' split) <;> omega
  intro k f
  unfold mu0M
  split
  · have key : ∀ f, loM 2 f ≤ -9 ∧ -9 ≤ hiM 2 f := fun f => by
      show (-9 : Int) ≤ -9 ∧ (-9 : Int) ≤ 40
      decide
    exact key f
  · have key : ∀ f, loM 5 f ≤ -9 ∧ -9 ≤ hiM 5 f := fun f => by
      show (-9 : Int) ≤ -9 ∧ (-9 : Int) ≤ 80
      decide
    exact key f
  · by_cases c : f = 0 ∨ f = 64 ∨ f = 128
    · show loM 15 f ≤ (if f = 0 ∨ f = 64 ∨ f = 128 then (-9 : Int32) else 0).toInt ∧ (if f = 0 ∨ f = 64 ∨ f = 128 then (-9 : Int32) else 0).toInt ≤ hiM 15 f
      rw [if_pos c]
      rcases c with rfl | rfl | rfl <;> decide
    · show loM 15 f ≤ (if f = 0 ∨ f = 64 ∨ f = 128 then (-9 : Int32) else 0).toInt ∧ (if f = 0 ∨ f = 64 ∨ f = 128 then (-9 : Int32) else 0).toInt ≤ hiM 15 f
      rw [if_neg c]
      exact h0 _ _
  · exact h0 _ _

/-! THE CLAIM OUT OF ONE WALK OF THE LAW'S BODY. Your part is whole_start (and what it stands on); all else here is the same for every law, but numbers. -/
def R_law : String := "DearLettersLaw"
def lw_P (b : Addr) (xs : List Int32) (args : Array Value) (s : State) : Prop := args = #[.ref b] ∧ s.IntsAt b xs ∧ xs.length ≤ 384 ∧ (Jvm.Cond.and given_1 narrow_1).before args s = true
def lw_Q (_ : Array Value) (s : State) (o : Outcome) (t : State) : Prop := o = .returned (some (.int 1)) ∧ Framed s o t [] 600000 7302250
def lw_Z (below : List Frame) (a : Array Value) (s : State) : State → Prop := fun t => ∃ o, t.status = .running ∧ Ended t below o ∧ lw_Q a s o t
/-- the law's own end, with 1 on the stack, nothing written that was there before, its room as the claim has it -/
theorem lw_ret {p : Program} {l : Launch} {e : Env} {s : State} {m : MethodId} {below : List Frame} {meth : Method} {c : Code} {b : Nat} (hx : p.tables.exec = Jvm.exec) (hb : c.code = code) (hr : meth.sig.returnType = ret) (hlocks : meth.locks = false) {pc : Nat} {H : Heap} {ls : Array Slot} (hdg : decode code pc = .ok (.ireturn, 1)) : W p l e room_1 s m #[Value.ref b] below meth c H [] 600000 7302250 (lw_Z below #[Value.ref b] s) (F0 m pc ls [.int 1]) := by
  intro T hT X
  obtain ⟨fs, hret, hrun, hended, hW, hframe⟩ := X.leave (v := some (.int 1)) (hlocks := hlocks) (fun h => by rw [hr] at h; cases h)
  have hmeth' : T.vm.method? m = some meth := X.method'
  refine ⟨T.setFrames fs, ?_, .returned (some (.int 1)), hrun, hended, rfl, ⟨_, rfl⟩, hW, hframe⟩
  jvm_step X.here [X.here.top, hx, hb, hdg, hmeth', hr, ret, narrow_b1]
  (try refine ⟨rfl, ?_⟩); (try refine ⟨rfl, ?_⟩)
  first | (intro acts; rw [hret _ acts rfl rfl rfl]) | rw [hret _ _ rfl rfl rfl]
  exact Steps.refl _
/-- what holds at the law's entry: the machine, the code, the tables' words (any of lw_tbl by 'hts w (by decide +kernel)'), the script of L ints xs at the cell b, what the Statement gives of the start (any of its parts by flat_of_before) -/
def lw_At (p : Program) (s : State) (m : MethodId) (meth : Method) (c : Code) (b L : Nat) (xs : Nat → Int32) : Prop :=
  p.tables.exec = Jvm.exec ∧ c.code = code ∧ meth.sig.returnType = ret ∧ c.maxLocals = 4 ∧ s.vm.findClass R_law = some m.cls ∧ (∀ w ∈ lw_tbl, w.before #[Value.ref b] s = true) ∧ va_X b L xs s s.heap ∧ b < s.heap.size ∧ meth.locks = false ∧ (Jvm.Cond.and given_1 narrow_1).before #[Value.ref b] s = true
/-- what stays over the whole law -/
def lw_F (p : Program) (s : State) (m : MethodId) (meth : Method) (c : Code) (b L : Nat) (xs : Nat → Int32) (dC : Nat → ClassId) (dI : Nat → Nat → Nat) (cs : Nat → ClassId) (tt : Nat) : Prop :=
  lw_At p s m meth c b L xs ∧ va_K (dC, dI) vwCl (tyW cs) s ∧ va_K (dC, dI) vwCl (tyM cs) s ∧ kz s ∧ ks (fun q : Nat => s.heap.size ≤ q) tt s.heap s
/-- both worlds, and where the law stands -/
def lw_J (s : State) (b : Nat) (dC : Nat → ClassId) (dI : Nat → Nat → Nat) (cs : Nat → ClassId) (adx adm : Nat → Nat) (i : Int32) (mux mum : Nat → Nat → Int32) (H : Heap) (locs : List Loc) (ls : Array Slot) : Prop :=
  okR loX hiX mux ∧ okR loM hiM mum ∧ (simT mux mum ∧ core mux mum) ∧ va_P (dC, dI) vwCl (wR 157 adx (EX cs adx) mux) H ∧ va_P (dC, dI) vwCl (wR 21 adm (EM cs adm) mum) H ∧ va_D (fun q : Nat => s.heap.size ≤ q) ((wR 157 adx (EX cs adx) mux) ++ (wR 21 adm (EM cs adm) mum)) ∧ va_S (fun q : Nat => s.heap.size ≤ q) s.heap H locs ∧ lv_has ls 4 [(3, .int i), (2, .ref (adm 0)), (1, .ref (adx 0)), (0, .ref b)]

