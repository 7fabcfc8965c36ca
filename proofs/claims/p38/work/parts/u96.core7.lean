-- ===== undo =====
def coreN (c : Int32) (mux mum : Nat → Nat → Int32) : Prop := simK mux mum ∧ endR mum ∧ (mux 5 2 = mum 0 13 ∧ mux 5 3 = mum 0 14 ∧ mux 5 4 = mum 0 15 ∧ mux 6 1 = c) ∧ (0 ≤ (mum 0 14).toInt ∧ (mum 0 14).toInt ≤ 99) ∧ (∀ x : Nat, x < (mum 0 8).toNatClampNeg → mux 46 x = mum 8 x) ∧ letR (mum 0 8).toInt (mum 0 15).toNatClampNeg (fun k => mux (61 + k)) (mum 10) ∧ salN c.toNatClampNeg mux mum ∧ kepR mux mum
theorem ul_x {mu : Nat → Nat → Int32} {xi : Nat → Nat → Int32} {S K : Nat} (hc : 1 ≤ (mu 6 1).toInt ∧ (mu 6 1).toInt ≤ 40) (hS : (mu 6 1).toInt = (S : Int) + 1) (hK : (mu (77 + S) 1).toNatClampNeg = K) (hK4 : K < 4) (h : xi = F_sx_undoLast mu) : (∀ c : Nat, c ≠ 6 → c ≠ 46 → c ≠ 61 + K → xi c = mu c) ∧ xi 6 1 = mu 6 1 - 1 ∧ (∀ x : Nat, x < 7 → xi 46 x = mu (117 + S) x) ∧ (∀ f : Nat, f < 5 → xi (61 + K) f = mu (61 + K) f) ∧ xi (61 + K) 5 = mu (77 + S) 2 ∧ xi (61 + K) 6 = mu (77 + S) 5 ∧ xi (61 + K) 7 = mu (77 + S) 6 ∧ xi (61 + K) 8 = mu (61 + K) 8 - 1 ∧ xi (61 + K) 9 = 0 := by
  have z0 : (0 : Int32).toInt = 0 := rfl
  unfold F_sx_undoLast at h
  obtain ⟨y1, e_y1, h⟩ := letv_out h
  rw [if_pos (vv_gt.mpr (by rw [← e_y1]; omega))] at h
  obtain ⟨t3, e_t3, h⟩ := letv_out h
  obtain ⟨nu4, e_nu4, h⟩ := letv_out h
  obtain ⟨y8, e_y8, h⟩ := letv_out h
  obtain ⟨y10, e_y10, h⟩ := letv_out h
  obtain ⟨nu11, e_nu11, h⟩ := letv_out h
  obtain ⟨y17, e_y17, h⟩ := letv_out h
  obtain ⟨nu18, e_nu18, h⟩ := letv_out h
  obtain ⟨y26, e_y26, h⟩ := letv_out h
  obtain ⟨nu27, e_nu27, h⟩ := letv_out h
  obtain ⟨y37, e_y37, h⟩ := letv_out h
  obtain ⟨t38, e_t38, h⟩ := letv_out h
  obtain ⟨nu39, e_nu39, h⟩ := letv_out h
  obtain ⟨nu50, e_nu50, h⟩ := letv_out h
  obtain ⟨nu63, e_nu63, h⟩ := letv_out h
  have a3 : t3.toInt = (S : Int) := by
    have : (y1 - 1 : Int32).toInt = y1.toInt - 1 := tI_sub rfl (rfl : (1 : Int32).toInt = 1) (by rw [← e_y1]; omega) (by rw [← e_y1]; omega)
    rw [← e_t3, this, ← e_y1]
    omega
  have b3 := tC_of (v := t3) (by omega)
  have n3 : t3.toNatClampNeg = S := by omega
  have hS40 : S < 40 := by omega
  have qK : y8.toNatClampNeg = K := by
    rw [← e_y8, n3, show nu4 (77 + S) 1 = mu (77 + S) 1 from congrFun (up_k e_nu4 (by omega)) 1]
    exact hK
  rw [n3] at e_y8 e_y10 e_y17 e_y26 e_nu63
  rw [qK] at e_nu11 e_nu18 e_nu27 e_y37 e_nu39 e_nu50
  have q_y10 : y10 = mu (77 + S) 2 := e_y10.symm.trans (congrFun (up_k e_nu4 (by omega)) 2)
  have q_y17 : y17 = mu (77 + S) 5 := e_y17.symm.trans ((congrFun (up_k e_nu11 (by omega)) 5).trans (congrFun (up_k e_nu4 (by omega)) 5))
  have q_y26 : y26 = mu (77 + S) 6 := e_y26.symm.trans ((congrFun (up_k e_nu18 (by omega)) 6).trans ((congrFun (up_k e_nu11 (by omega)) 6).trans (congrFun (up_k e_nu4 (by omega)) 6)))
  have q_y37 : y37 = mu (61 + K) 8 := e_y37.symm.trans ((up_f e_nu27 (by omega)).trans ((up_f e_nu18 (by omega)).trans ((up_f e_nu11 (by omega)).trans (congrFun (up_k e_nu4 (by omega)) 8))))
  subst h
  refine ⟨fun c h1 h2 h3 => (up_k e_nu63 h2).trans ((up_k e_nu50 h3).trans ((up_k e_nu39 h3).trans ((up_k e_nu27 h3).trans ((up_k e_nu18 h3).trans ((up_k e_nu11 h3).trans (up_k e_nu4 h1)))))), ?_, fun x hx => ?_, fun f hf => ?_, ?_, ?_, ?_, ?_, ?_⟩
  · exact ((congrFun (up_k e_nu63 (by omega)) 1).trans ((congrFun (up_k e_nu50 (by omega)) 1).trans ((congrFun (up_k e_nu39 (by omega)) 1).trans ((congrFun (up_k e_nu27 (by omega)) 1).trans ((congrFun (up_k e_nu18 (by omega)) 1).trans ((congrFun (up_k e_nu11 (by omega)) 1).trans ((up_v e_nu4).symm))))))).trans (by rw [← e_t3, ← e_y1])
  · rw [up_c e_nu63]
    show (if (0 : Nat) ≤ x ∧ x < 0 + 7 then nu50 (77 + S + 40) (0 + (x - 0)) else _) = _
    rw [if_pos ⟨Nat.zero_le _, by omega⟩, Nat.zero_add, Nat.sub_zero, show 117 + S = 77 + S + 40 by omega]
    exact (congrFun (up_k e_nu50 (by omega)) x).trans ((congrFun (up_k e_nu39 (by omega)) x).trans ((congrFun (up_k e_nu27 (by omega)) x).trans ((congrFun (up_k e_nu18 (by omega)) x).trans ((congrFun (up_k e_nu11 (by omega)) x).trans (congrFun (up_k e_nu4 (by omega)) x)))))
  · exact (congrFun (up_k e_nu63 (by omega)) f).trans ((up_f e_nu50 (by omega)).trans ((up_f e_nu39 (by omega)).trans ((up_f e_nu27 (by omega)).trans ((up_f e_nu18 (by omega)).trans ((up_f e_nu11 (by omega)).trans (congrFun (up_k e_nu4 (by omega)) f))))))
  · exact ((congrFun (up_k e_nu63 (by omega)) 5).trans ((up_f e_nu50 (by omega)).trans ((up_f e_nu39 (by omega)).trans ((up_f e_nu27 (by omega)).trans ((up_f e_nu18 (by omega)).trans ((up_v e_nu11).symm)))))).trans q_y10
  · exact ((congrFun (up_k e_nu63 (by omega)) 6).trans ((up_f e_nu50 (by omega)).trans ((up_f e_nu39 (by omega)).trans ((up_f e_nu27 (by omega)).trans ((up_v e_nu18).symm))))).trans q_y17
  · exact ((congrFun (up_k e_nu63 (by omega)) 7).trans ((up_f e_nu50 (by omega)).trans ((up_f e_nu39 (by omega)).trans ((up_v e_nu27).symm)))).trans q_y26
  · exact ((congrFun (up_k e_nu63 (by omega)) 8).trans ((up_f e_nu50 (by omega)).trans ((up_v e_nu39).symm))).trans (by rw [← e_t38, q_y37])
  · exact (congrFun (up_k e_nu63 (by omega)) 9).trans ((up_v e_nu50).symm)
theorem lm_undo7 {t8 v3 : Int32} {T : Nat} {kont : Int32 → (Nat → Nat → Int32) → Int32 × (Nat → Nat → Int32)} (ht : t8.toInt = (T : Int)) (hT : T ≤ 468) : ∀ (n : Nat) (i : Int32) (nu : Nat → Nat → Int32), 0 ≤ i.toInt → i.toInt ≤ 7 → (7 - i.toInt).toNat < n → ∃ nu1 : Nat → Nat → Int32, L_qm_undo_128_1 t8 v3 kont n i nu = kont (v3 + (-1)) nu1 ∧ ∀ k f : Nat, nu1 k f = if k = 8 ∧ i.toNatClampNeg ≤ f ∧ f < 7 then nu 14 (T + 5 + f) else nu k f := by
  intro n
  induction n with
  | zero => intro i nu _ _ h; exact absurd h (Nat.not_lt_zero _)
  | succ n ih =>
    intro i nu h0 h4 hn
    have z7 : (7 : Int32).toInt = 7 := rfl
    have hc := tC_of h0
    by_cases c : i ≥ (7 : Int32)
    · have c2 := vv_ge.mp c
      refine ⟨nu, ?_, fun k f => ?_⟩
      · rw [L_qm_undo_128_1, if_pos c]
        rfl
      · rw [if_neg (fun h => by omega)]
    · have c2 : ¬ (7 : Int32).toInt ≤ i.toInt := fun h => c (vv_ge.mpr h)
      have ai : (i + 1 : Int32).toInt = i.toInt + 1 := tI_add rfl (rfl : (1 : Int32).toInt = 1) (by omega) (by omega)
      have hc1 := tC_of (v := i + 1) (by omega)
      have a1 : (t8 + 5 : Int32).toInt = (T : Int) + 5 := tI_add ht (rfl : (5 : Int32).toInt = 5) (by omega) (by omega)
      have a2 : (t8 + 5 + i : Int32).toInt = (T : Int) + 5 + i.toInt := tI_add a1 rfl (by omega) (by omega)
      have a3 := tC_of (v := t8 + 5 + i) (by omega)
      have a4 : (t8 + 5 + i : Int32).toNatClampNeg = T + 5 + i.toNatClampNeg := by omega
      rw [L_qm_undo_128_1, if_neg c]
      simp only [letv_eq]
      rw [a4]
      generalize hv : va_up nu 8 (upd (nu 8) i.toNatClampNeg (nu 14 (T + 5 + i.toNatClampNeg))) = nu2
      obtain ⟨nu1, g1, g2⟩ := ih (i + 1) nu2 (by omega) (by omega) (by omega)
      refine ⟨nu1, g1, fun k f => ?_⟩
      have k14 : nu2 14 = nu 14 := up_k hv (by decide)
      rw [g2 k f, k14]
      by_cases e : k = 8 ∧ f = i.toNatClampNeg
      · obtain ⟨e, ef⟩ := e
        subst e ef
        rw [if_neg (fun h => by omega), if_pos ⟨rfl, by omega, by omega⟩, ← up_v hv]
      · have st2 : nu2 k f = nu k f := by
          by_cases ek : k = 8
          · subst ek
            exact up_f hv (fun h => e ⟨rfl, h⟩)
          · exact congrFun (up_k hv ek) f
        rw [st2]
        by_cases c5 : k = 8 ∧ i.toNatClampNeg ≤ f ∧ f < 7
        · rw [if_pos (by omega), if_pos c5]
        · rw [if_neg (by omega), if_neg c5]
theorem um_m {t3 vn v : Int32} {n S K : Nat} {mu : Nat → Nat → Int32} (hv : v.toInt = (S : Int)) (hS : S < 40) (hvn : ¬ v.toInt < vn.toInt) (hK : mu 14 (12 * S) = nI K) (hK4 : K < 4) : ∃ xi : Nat → Nat → Int32, L_qm_undo_28_0 t3 vn (n + 1) v mu = L_qm_undo_28_0 t3 vn n (v + (-1)) xi ∧ (∀ c : Nat, c ≠ 8 → c ≠ 10 → xi c = mu c) ∧ (∀ x : Nat, x < 7 → xi 8 x = mu 14 (12 * S + 5 + x)) ∧ (∀ f : Nat, f < 10 * K + 5 ∨ 10 * K + 10 ≤ f → xi 10 f = mu 10 f) ∧ xi 10 (10 * K + 5) = mu 14 (12 * S + 1) ∧ xi 10 (10 * K + 6) = mu 14 (12 * S + 2) ∧ xi 10 (10 * K + 7) = mu 10 (10 * K + 7) - 1 ∧ xi 10 (10 * K + 8) = mu 14 (12 * S + 3) ∧ xi 10 (10 * K + 9) = 0 := by
  obtain ⟨z, hz⟩ : ∃ z, z = L_qm_undo_28_0 t3 vn (n + 1) v mu := ⟨_, rfl⟩
  rw [← hz]
  have h := hz
  rw [L_qm_undo_28_0, if_neg (fun e => hvn (vv_lt.mp e))] at h
  obtain ⟨t9, e_t9, h⟩ := letv_out h
  obtain ⟨y11, e_y11, h⟩ := letv_out h
  obtain ⟨t12, e_t12, h⟩ := letv_out h
  obtain ⟨y14, e_y14, h⟩ := letv_out h
  obtain ⟨xi15, e_xi15, h⟩ := letv_out h
  obtain ⟨t17, e_t17, h⟩ := letv_out h
  obtain ⟨y19, e_y19, h⟩ := letv_out h
  obtain ⟨xi20, e_xi20, h⟩ := letv_out h
  obtain ⟨t22, e_t22, h⟩ := letv_out h
  obtain ⟨y24, e_y24, h⟩ := letv_out h
  obtain ⟨xi25, e_xi25, h⟩ := letv_out h
  obtain ⟨r27, e_r27, h⟩ := letv_out h
  obtain ⟨t28, e_t28, h⟩ := letv_out h
  obtain ⟨xi29, e_xi29, h⟩ := letv_out h
  obtain ⟨xi31, e_xi31, h⟩ := letv_out h
  have a8 : t9.toInt = 12 * (S : Int) := by
    rw [← e_t9, ← hv]
    exact tI_mul (rfl : (12 : Int32).toInt = 12) rfl (by omega) (by omega)
  have b8 := tC_of (v := t9) (by omega)
  have n8 : t9.toNatClampNeg = 12 * S := by omega
  have a_t12 : t12.toInt = 12 * (S : Int) + 1 := by
    rw [← e_t12]
    exact tI_add a8 (rfl : (1 : Int32).toInt = 1) (by omega) (by omega)
  have b_t12 := tC_of (v := t12) (by omega)
  have n_t12 : t12.toNatClampNeg = 12 * S + 1 := by omega
  have a_t17 : t17.toInt = 12 * (S : Int) + 2 := by
    rw [← e_t17]
    exact tI_add a8 (rfl : (2 : Int32).toInt = 2) (by omega) (by omega)
  have b_t17 := tC_of (v := t17) (by omega)
  have n_t17 : t17.toNatClampNeg = 12 * S + 2 := by omega
  have a_t22 : t22.toInt = 12 * (S : Int) + 3 := by
    rw [← e_t22]
    exact tI_add a8 (rfl : (3 : Int32).toInt = 3) (by omega) (by omega)
  have b_t22 := tC_of (v := t22) (by omega)
  have n_t22 : t22.toNatClampNeg = 12 * S + 3 := by omega
  rw [n8, hK] at e_y11
  have kK : (nI K).toInt = (K : Int) := nI_toInt (by omega)
  have kC := tC_of (v := nI K) (by omega)
  have kN : (nI K).toNatClampNeg = K := by omega
  have hk : 0 ≤ y11.toInt ∧ y11.toInt ≤ 3 := by rw [← e_y11]; omega
  have kn : y11.toNatClampNeg = K := by rw [← e_y11]; exact kN
  rw [n_t12] at e_y14
  rw [n_t17] at e_y19
  rw [n_t22] at e_y24
  rw [fm_set5 hk, kn] at e_xi15
  rw [fm_set6 hk, kn] at e_xi20
  rw [fm_set8 hk, kn] at e_xi25
  rw [fm_set7 hk, kn] at e_xi29
  rw [fm_set9 hk, kn] at e_xi31
  rw [fm_letterOf hk (by decide), kn, show (7 : Int32).toNatClampNeg = 7 from rfl] at e_r27
  have qP : y19 = mu 14 (12 * S + 2) := e_y19.symm.trans (congrFun (up_k e_xi15 (by decide)) _)
  have qO : y24 = mu 14 (12 * S + 3) := e_y24.symm.trans ((congrFun (up_k e_xi20 (by decide)) _).trans (congrFun (up_k e_xi15 (by decide)) _))
  have q7 : r27 = mu 10 (10 * K + 7) := e_r27.symm.trans ((up_f e_xi25 (by omega)).trans ((up_f e_xi20 (by omega)).trans (up_f e_xi15 (by omega))))
  obtain ⟨nv, g1, g2⟩ := lm_undo7 (t8 := t9) (v3 := v) (T := 12 * S) (kont := fun z_v3_28 z_nu28_ => L_qm_undo_28_0 t3 vn n z_v3_28 z_nu28_) (by omega) (by omega) 10 0 xi31 (by decide) (by decide) (by decide)
  rw [show (0 : Int32).toNatClampNeg = 0 from rfl] at g2
  have kc : ∀ c : Nat, c ≠ 10 → xi31 c = mu c := fun c hc => (up_k e_xi31 hc).trans ((up_k e_xi29 hc).trans ((up_k e_xi25 hc).trans ((up_k e_xi20 hc).trans (up_k e_xi15 hc))))
  have c10 : nv 10 = xi31 10 := funext fun f => by rw [g2 10 f, if_neg (fun h => by omega)]
  refine ⟨nv, h.trans g1, fun c h1 h2 => funext fun f => ?_, fun x hx => ?_, fun f hf => ?_, ?_, ?_, ?_, ?_, ?_⟩
  · rw [g2 c f, if_neg (fun h => h1 h.1), kc c h2]
  · rw [g2 8 x, if_pos ⟨rfl, Nat.zero_le _, hx⟩, kc 14 (by decide)]
  · rw [c10]
    exact (up_f e_xi31 (by omega)).trans ((up_f e_xi29 (by omega)).trans ((up_f e_xi25 (by omega)).trans ((up_f e_xi20 (by omega)).trans (up_f e_xi15 (by omega)))))
  · rw [c10]
    exact ((up_f e_xi31 (by omega)).trans ((up_f e_xi29 (by omega)).trans ((up_f e_xi25 (by omega)).trans ((up_f e_xi20 (by omega)).trans (up_v e_xi15).symm)))).trans e_y14.symm
  · rw [c10]
    exact ((up_f e_xi31 (by omega)).trans ((up_f e_xi29 (by omega)).trans ((up_f e_xi25 (by omega)).trans (up_v e_xi20).symm))).trans qP
  · rw [c10]
    exact ((up_f e_xi31 (by omega)).trans (up_v e_xi29).symm).trans (by rw [← e_t28, q7])
  · rw [c10]
    exact ((up_f e_xi31 (by omega)).trans ((up_f e_xi29 (by omega)).trans (up_v e_xi25).symm)).trans qO
  · rw [c10]
    exact (up_v e_xi31).symm
theorem vm1 {v : Int32} (h : -2147483647 ≤ v.toInt) : (v + (-1) : Int32).toInt = v.toInt - 1 := by
  have z : (-1 : Int32).toInt = -1 := rfl
  have h2 := tI_hi v
  have h3 := tI_add (a := v) (b := -1) (x := v.toInt) (y := -1) rfl z (by omega) (by omega)
  omega
theorem vp1 {v : Int32} (h : v.toInt < 2147483647) : (v + 1 : Int32).toInt = v.toInt + 1 := by
  have z : (1 : Int32).toInt = 1 := rfl
  have h2 := tI_lo v
  exact tI_add (a := v) (b := 1) (x := v.toInt) (y := 1) rfl z (by omega) (by omega)
theorem v_pm {v : Int32} (h : -1 ≤ v.toInt) (h2 : v.toInt < 40) : v + 1 - 1 = v + (-1) + 1 := by
  simp [Int32.sub_eq_add_neg, Int32.add_assoc]
theorem v_m1 (v : Int32) : v - 1 = v + (-1) := by simp [Int32.sub_eq_add_neg]
theorem undo_step {c : Int32} {S K : Nat} {mux mum xi1 xi2 : Nat → Nat → Int32} (okb : 0 ≤ (mum 0 8).toInt ∧ (mum 0 8).toInt ≤ 7) (oks : 0 ≤ (mum 0 15).toInt ∧ (mum 0 15).toInt ≤ 4) (hC : coreN c mux mum) (hc : c.toInt = (S : Int) + 1) (hS : S < 40) (hK : mum 14 (12 * S) = nI K) (hK4 : K < 4) (hx : xi1 = F_sx_undoLast mux) (m1 : ∀ c : Nat, c ≠ 8 → c ≠ 10 → xi2 c = mum c) (m2 : ∀ x : Nat, x < 7 → xi2 8 x = mum 14 (12 * S + 5 + x)) (m3 : ∀ f : Nat, f < 10 * K + 5 ∨ 10 * K + 10 ≤ f → xi2 10 f = mum 10 f) (m5 : xi2 10 (10 * K + 5) = mum 14 (12 * S + 1)) (m6 : xi2 10 (10 * K + 6) = mum 14 (12 * S + 2)) (m7 : xi2 10 (10 * K + 7) = mum 10 (10 * K + 7) - 1) (m8 : xi2 10 (10 * K + 8) = mum 14 (12 * S + 3)) (m9 : xi2 10 (10 * K + 9) = 0) : coreN (c - 1) xi1 xi2 := by
  obtain ⟨hKK, hE, ⟨s2, s3, s4, s6⟩, hday, hP, hL, hS', hA⟩ := hC
  have cc := tC_of (v := c) (by omega)
  have cb := tC_of okb.1
  have cs := tC_of oks.1
  obtain ⟨⟨a1, a2, a3⟩, ⟨b1, b2, b3⟩, d5, d6, d4, dp⟩ := hS' S (by omega)
  have kK : (nI K).toInt = (K : Int) := nI_toInt (by omega)
  have kC := tC_of (v := nI K) (by omega)
  have ks : K < (mum 0 15).toNatClampNeg := by rw [hK] at a3; omega
  obtain ⟨x1, x2, x3, x4, x5, x6, x7, x8, x9⟩ := ul_x (mu := mux) (S := S) (K := K) (by rw [s6]; omega) (by rw [s6]; omega) (by rw [a1, hK]; omega) hK4 hx
  have fx : ∀ c : Nat, c < 6 ∨ (6 < c ∧ c < 46) ∨ (46 < c ∧ c < 61) ∨ 65 ≤ c → xi1 c = mux c := fun c hc => x1 c (by omega) (by omega) (by omega)
  have m0 : xi2 0 = mum 0 := m1 0 (by decide) (by decide)
  have ec : (c - 1 : Int32).toInt = (S : Int) := by
    have : (c - 1 : Int32).toInt = c.toInt - 1 := tI_sub rfl (rfl : (1 : Int32).toInt = 1) (by omega) (by omega)
    omega
  have ccn := tC_of (v := c - 1) (by omega)
  refine ⟨?_, ?_, ⟨?_, ?_, ?_, ?_⟩, ?_, ?_, ?_, ?_, ?_⟩
  · unfold simK
    rw [fx 4 (by omega), fx 34 (by omega), fx 35 (by omega), fx 36 (by omega), m0, m1 7 (by decide) (by decide), m1 9 (by decide) (by decide)]
    exact hKK
  · unfold endR
    rw [m0, m1 9 (by decide) (by decide)]
    exact hE
  · rw [fx 5 (by omega), m0]; exact s2
  · rw [fx 5 (by omega), m0]; exact s3
  · rw [fx 5 (by omega), m0]; exact s4
  · rw [x2, s6]
  · rw [m0]; exact hday
  · rw [m0]
    intro z hz
    rw [x3 z (by omega), m2 z (by omega)]
    exact dp z hz
  · rw [m0]
    intro q hq
    by_cases e : q = K
    · subst e
      obtain ⟨lf, l1, l5, l9⟩ : oneR (mum 0 8).toInt (mux (61 + q)) (mum 10) q := hL q ks
      show (∀ f : Nat, f < 10 → xi1 (61 + q) f = xi2 10 (10 * q + pfm f)) ∧ (0 ≤ (xi1 (61 + q) 1).toInt ∧ (xi1 (61 + q) 1).toInt < (mum 0 8).toInt) ∧ (0 ≤ (xi1 (61 + q) 5).toInt ∧ (xi1 (61 + q) 5).toInt < (mum 0 8).toInt) ∧ (xi1 (61 + q) 9 = 0 ∨ xi1 (61 + q) 9 = 1)
      refine ⟨fun f hf => ?_, ?_, ?_, Or.inl x9⟩
      · by_cases f5 : f < 5
        · have pf : pfm f = f := by
            unfold pfm
            rw [if_neg (by omega), if_neg (by omega)]
          have := lf f hf
          rw [pf] at this
          rw [x4 f f5, pf, m3 _ (Or.inl (by omega))]
          exact this
        · have : f = 5 ∨ f = 6 ∨ f = 7 ∨ f = 8 ∨ f = 9 := by omega
          have g8 : mux (61 + q) 8 = mum 10 (10 * q + 7) := lf 8 (by decide)
          rcases this with rfl | rfl | rfl | rfl | rfl
          · exact (x5.trans b1).trans m5.symm
          · exact (x6.trans d5).trans m6.symm
          · exact (x7.trans d6).trans m8.symm
          · exact (x8.trans (by rw [g8])).trans m7.symm
          · exact x9.trans m9.symm
      · rw [x4 1 (by decide)]; exact l1
      · rw [x5, b1]; exact ⟨b2, b3⟩
    · obtain ⟨qf, q1, q5, q9⟩ : oneR (mum 0 8).toInt (mux (61 + q)) (mum 10) q := hL q hq
      have pl : ∀ f : Nat, f < 10 → pfm f < 10 := by decide
      show (∀ f : Nat, f < 10 → xi1 (61 + q) f = xi2 10 (10 * q + pfm f)) ∧ (0 ≤ (xi1 (61 + q) 1).toInt ∧ (xi1 (61 + q) 1).toInt < (mum 0 8).toInt) ∧ (0 ≤ (xi1 (61 + q) 5).toInt ∧ (xi1 (61 + q) 5).toInt < (mum 0 8).toInt) ∧ (xi1 (61 + q) 9 = 0 ∨ xi1 (61 + q) 9 = 1)
      rw [x1 (61 + q) (by omega) (by omega) (by omega)]
      refine ⟨fun f hf => ?_, q1, q5, q9⟩
      have := pl f hf
      rw [m3 _ (by omega)]
      exact qf f hf
  · unfold salN
    rw [m0, m1 14 (by decide) (by decide)]
    intro s hs
    rw [fx (77 + s) (by omega), fx (117 + s) (by omega)]
    exact hS' s (by omega)
  · exact kepR_of hA (fun c hc => fx c (by omega)) (m1 15 (by decide) (by decide)) (by rw [m0])
theorem undo_loop {t vn : Int32} (hvn : 0 ≤ vn.toInt) (ht : 0 ≤ t.toInt ∧ t.toInt ≤ 40) : ∀ (n : Nat) (i v : Int32) (mux mum : Nat → Nat → Int32), (0 ≤ (mum 0 8).toInt ∧ (mum 0 8).toInt ≤ 7) → (0 ≤ (mum 0 15).toInt ∧ (mum 0 15).toInt ≤ 4) → coreN (v + 1) mux mum → -1 ≤ v.toInt → v.toInt < 40 → 0 ≤ i.toInt → v.toInt - vn.toInt + 1 = t.toInt - i.toInt → i.toInt ≤ t.toInt → (t.toInt - i.toInt).toNat < n → (L_qx_undo_29_0 t n i mux).1 = (L_qm_undo_28_0 t vn n v mum).1 ∧ core (L_qx_undo_29_0 t n i mux).2 (L_qm_undo_28_0 t vn n v mum).2 := by
  intro n
  induction n with
  | zero => intro i v mux mum _ _ _ _ _ _ _ _ h; exact absurd h (Nat.not_lt_zero _)
  | succ n ih =>
    intro i v mux mum okb oks hC hv hv40 hi hrel hle hn
    have z1 : (1 : Int32).toInt = 1 := rfl
    have av : (v + 1 : Int32).toInt = v.toInt + 1 := tI_add rfl z1 (by omega) (by omega)
    by_cases c : i.toInt = t.toInt
    · rw [L_qx_undo_29_0, L_qm_undo_28_0, if_pos (vv_ge.mpr (by omega)), if_pos (vv_lt.mpr (by omega))]
      simp only [letv_eq]
      refine ⟨trivial, ?_⟩
      generalize hv2 : va_up mum 0 (upd (mum 0) 17 vn) = nu
      have evn : v + 1 = vn := Int32.toInt_inj.mp (by omega)
      rw [evn] at hC
      obtain ⟨hK, hE, ⟨s2, s3, s4, s6⟩, hday, hP, hL, hS, hA⟩ := hC
      have n17 : nu 0 17 = vn := (up_v hv2).symm
      have nf : ∀ f : Nat, f ≠ 17 → nu 0 f = mum 0 f := fun f hf => up_f hv2 hf
      have nc : ∀ c : Nat, c ≠ 0 → nu c = mum c := fun c hc => up_k hv2 hc
      refine ⟨?_, ?_, ⟨?_, ?_, ?_, ?_⟩, ?_, ?_, ?_, ?_, ?_⟩
      · unfold simK
        rw [nf 8 (by decide), nf 11 (by decide), nc 7 (by decide), nc 9 (by decide)]
        exact hK
      · unfold endR
        rw [nf 8 (by decide), nf 11 (by decide), nc 9 (by decide)]
        exact hE
      · rw [nf 13 (by decide)]; exact s2
      · rw [nf 14 (by decide)]; exact s3
      · rw [nf 15 (by decide)]; exact s4
      · rw [n17]; exact s6
      · rw [nf 14 (by decide)]; exact hday
      · rw [nf 8 (by decide), nc 8 (by decide)]; exact hP
      · rw [nf 8 (by decide), nf 15 (by decide), nc 10 (by decide)]; exact hL
      · unfold salR salN
        rw [n17, nf 8 (by decide), nf 15 (by decide), nc 14 (by decide)]
        exact hS
      · exact kepR_of hA (fun _ _ => rfl) (nc 15 (by decide)) (nf 8 (by decide))
    · have hv0 : 0 ≤ v.toInt := by omega
      have cv := tC_of hv0
      have cv1 := tC_of (v := v + 1) (by omega)
      have sl := hC.2.2.2.2.2.2.1 v.toNatClampNeg (by omega)
      obtain ⟨⟨a1, a2, a3⟩, -⟩ := sl
      have ck := tC_of a2
      have ek : mum 14 (12 * v.toNatClampNeg) = nI (mum 14 (12 * v.toNatClampNeg)).toNatClampNeg := nI_at a2
      obtain ⟨xi2, g1, m1, m2, m3, m5, m6, m7, m8, m9⟩ := um_m (t3 := t) (vn := vn) (v := v) (n := n) (S := v.toNatClampNeg) (K := (mum 14 (12 * v.toNatClampNeg)).toNatClampNeg) (mu := mum) (by omega) (by omega) (by omega) ek (by omega)
      have st := undo_step (S := v.toNatClampNeg) (xi1 := F_sx_undoLast mux) okb oks hC (by omega) (by omega) ek (by omega) rfl m1 m2 m3 m5 m6 m7 m8 m9
      have em : v + 1 - 1 = v + (-1) + 1 := v_pm hv hv40
      have b2 : (v + (-1) : Int32).toInt = v.toInt - 1 := vm1 (by omega)
      rw [em] at st
      generalize v + (-1) = w at st g1 b2
      clear em
      have ai : (i + 1 : Int32).toInt = i.toInt + 1 := tI_add rfl z1 (by omega) (by omega)
      rw [g1, L_qx_undo_29_0, if_neg (fun e => by have := vv_ge.mp e; omega)]
      simp only [letv_eq]
      have m0 : xi2 0 = mum 0 := m1 0 (by decide) (by decide)
      exact ih (i + 1) w _ xi2 (by rw [m0]; exact okb) (by rw [m0]; exact oks) st (by omega) (by omega) (by omega) (by omega) (by omega) (by omega)
theorem undo_rel {n r1 r2 : Int32} {mux mum xi1 xi2 : Nat → Nat → Int32} (okm : okR loM hiM mum) (hC : core mux mum) (h1 : (r1, xi1) = F_qx_undo mux n) (h2 : (r2, xi2) = F_qm_undo mum n) : r1 = r2 ∧ core xi1 xi2 := by
  have hC0 := hC
  obtain ⟨hK, hE, ⟨s2, s3, s4, s6⟩, hday, hP, hL, hS, hA⟩ := hC
  have hled : 0 ≤ (mum 0 17).toInt ∧ (mum 0 17).toInt ≤ 40 := okm 0 17
  have z0 : (0 : Int32).toInt = 0 := rfl
  have z1 : (1 : Int32).toInt = 1 := rfl
  simp only [F_qx_undo, letv_eq] at h1
  simp only [F_qm_undo, letv_eq] at h2
  rw [s6] at h1
  by_cases cn : 0 ≤ n.toInt ∧ n.toInt ≤ (mum 0 17).toInt
  · rw [if_neg (fun e => by have := vv_lt.mp e; omega), if_pos (vv_le.mpr (by omega))] at h1
    rw [if_pos (fm_in.mpr ⟨by omega, by omega⟩)] at h2
    have a1 : (mum 0 17 - n : Int32).toInt = (mum 0 17).toInt - n.toInt := tI_sub rfl rfl (by omega) (by omega)
    have a2 : (mum 0 17 - 1 : Int32).toInt = (mum 0 17).toInt - 1 := tI_sub rfl z1 (by omega) (by omega)
    have a3 : (mum 0 17 - 1 + 1 : Int32).toInt = (mum 0 17).toInt := by
      have := tI_add (a := mum 0 17 - 1) (b := 1) a2 z1 (by omega) (by omega)
      omega
    have e3 : mum 0 17 - 1 + 1 = mum 0 17 := Int32.toInt_inj.mp a3
    have key := undo_loop (t := mum 0 17 - n) (vn := n) cn.1 ⟨by omega, by omega⟩ 43 0 (mum 0 17 - 1) mux mum (okm 0 8) (okm 0 15) (by rw [e3]; exact hC0) (by omega) (by omega) (by decide) (by rw [z0]; omega) (by rw [z0]; omega) (by rw [z0]; omega)
    rw [p_fst h1, p_fst h2, p_snd h1, p_snd h2] at key
    exact key
  · rw [if_neg (fun e => by have := fm_in.mp e; omega)] at h2
    cases h2
    by_cases c1 : n < (0 : Int32)
    · rw [if_pos c1] at h1
      cases h1
      exact ⟨rfl, hC0⟩
    · have c2 : ¬ n.toInt < (0 : Int32).toInt := fun e => c1 (vv_lt.mpr e)
      rw [if_neg c1, if_neg (fun e => by have := vv_le.mp e; omega)] at h1
      cases h1
      exact ⟨rfl, hC0⟩

-- ===== luck =====
theorem and7 (v : Int32) : 0 ≤ (v &&& 127).toInt ∧ (v &&& 127).toInt ≤ 127 := by
  have h1 : (v &&& 127).toBitVec.toNat ≤ 127 := by
    rw [Int32.toBitVec_and, BitVec.toNat_and]
    exact Nat.and_le_right
  have h2 : (v &&& 127).toInt = ((v &&& 127).toBitVec.toNat : Int) := by
    show (v &&& 127).toBitVec.toInt = _
    rw [BitVec.toInt_eq_toNat_cond, if_pos (by omega)]
  omega
theorem b_127 : ∀ i, i < 32 → bt 127 i = decide (i < 7) := by decide +kernel
theorem set7 {v : Int32} (h : ∀ j : Nat, j < 32 → bt v j = true → j < 7) : 0 ≤ v.toInt ∧ v.toInt ≤ 127 := by
  have e : v &&& 127 = v := by
    apply b_ext
    intro i hi
    rw [b_and, b_127 i hi]
    cases hq : bt v i
    · rfl
    · have := h i hi hq
      simp [this]
  have := and7 v
  rw [e] at this
  exact this
theorem cs_bits {mum : Nat → Nat → Int32} {nb pr k : Int32} (hb : 0 ≤ (mum 0 8).toInt ∧ (mum 0 8).toInt ≤ 7) : ∀ (n : Nat) (w i : Int32), 0 ≤ i.toInt → i.toInt ≤ (mum 0 8).toInt → (∀ j : Nat, j < 32 → bt w j = true → (j : Int) < (mum 0 8).toInt) → ∀ j : Nat, j < 32 → bt (L_sm_canSell_47_0 mum nb pr k n w i) j = true → (j : Int) < (mum 0 8).toInt := by
  intro n
  induction n with
  | zero =>
    intro w i _ _ _ j hj h
    rw [L_sm_canSell_47_0, b_zero j hj] at h
    cases h
  | succ n ih =>
    intro w i h0 hle hw
    rw [L_sm_canSell_47_0]
    simp only [letv_eq, ior_0]
    by_cases c : i ≥ mum 0 8
    · rw [if_pos c]
      exact hw
    · have c2 : ¬ (mum 0 8).toInt ≤ i.toInt := fun h => c (vv_ge.mpr h)
      have ai : (i + 1 : Int32).toInt = i.toInt + 1 := tI_add rfl (rfl : (1 : Int32).toInt = 1) (by omega) (by omega)
      have hc := tC_of h0
      have add : ∀ j : Nat, j < 32 → bt (w ||| ((1 : Int32) <<< (i &&& 31))) j = true → (j : Int) < (mum 0 8).toInt := fun j hj hq => by
        rw [b_or, b_bit h0 (by omega) hj] at hq
        cases hq2 : bt w j
        · rw [hq2] at hq
          simp at hq
          omega
        · exact hw j hj hq2
      rw [if_neg c]
      repeat' split
      all_goals first
        | exact ih _ _ (by omega) (by omega) hw
        | exact ih _ _ (by omega) (by omega) add
theorem cs_set {mum : Nat → Nat → Int32} {k : Int32} (hb : 0 ≤ (mum 0 8).toInt ∧ (mum 0 8).toInt ≤ 7) : ∀ j : Nat, j < 32 → bt (F_sm_canSell mum k) j = true → (j : Int) < (mum 0 8).toInt := by
  intro j hj h
  simp only [F_sm_canSell, letv_eq] at h
  have z : bt 0 j = true → (j : Int) < (mum 0 8).toInt := fun h => by rw [b_zero j hj] at h; cases h
  revert h
  repeat' split
  · exact z
  · intro h
    exact cs_bits hb 10 0 0 (by decide) (by show (0 : Int) ≤ _; exact hb.1) (fun j hj hq => by rw [b_zero j hj] at hq; cases hq) j hj h
  · exact z
theorem cs_rng {mum : Nat → Nat → Int32} {k : Int32} (hb : 0 ≤ (mum 0 8).toInt ∧ (mum 0 8).toInt ≤ 7) : 0 ≤ (F_sm_canSell mum k).toInt ∧ (F_sm_canSell mum k).toInt ≤ 127 := set7 (fun j hj h => by have := cs_set hb j hj h; omega)
theorem count_all : ∀ a, a < 128 → F_sx_bitCount (nI a) = F_sm_sizeOf (nI a) ∧ F_sm_sizeOf (nI a) = nI (pp a) := by decide +kernel
theorem count_eq {v : Int32} (h : 0 ≤ v.toInt ∧ v.toInt ≤ 127) : F_sx_bitCount v = F_sm_sizeOf v ∧ (F_sm_sizeOf v).toInt = (pp v.toNatClampNeg : Int) ∧ pp v.toNatClampNeg ≤ 7 ∧ (v = 0 ↔ F_sx_bitCount v = 0) := by
  have hc := tC_of h.1
  have hl : v.toNatClampNeg < 128 := by omega
  have key := count_all _ hl
  rw [← nI_at h.1] at key
  have p7 := (h7_all _ hl).1
  have e : (F_sm_sizeOf v).toInt = (pp v.toNatClampNeg : Int) := by rw [key.2, nI_toInt (by omega)]
  refine ⟨key.1, e, p7, fun e0 => by rw [e0]; decide, fun e0 => ?_⟩
  rw [key.1] at e0
  rw [e0] at e
  have z : (0 : Int32).toInt = 0 := rfl
  have := pp_0 _ hl (by omega)
  exact Int32.toInt_inj.mp (by omega)
/-- the vth of those in the set: the class's bitAt, the reference's loop -/
theorem lot_loop {l27 : Int64} {mu : Nat → Nat → Int32} {a v5 v7 : Int32} {kont : Int64 → Int32 → Int32 → (Nat → Nat → Int32) → Int32 × (Nat → Nat → Int32)} {nu : Nat → Nat → Int32} (ha : 0 ≤ a.toInt ∧ a.toInt ≤ 127) : ∀ (n : Nat) (v i : Int32), 0 ≤ i.toInt → i.toInt ≤ 7 → (7 - i.toInt).toNat < n → 0 ≤ v.toInt → v.toInt < (ab a.toNatClampNeg i.toNatClampNeg : Int) → ∃ x : Int32, L_sx_bitAt_4_0 a n v i = x ∧ 0 ≤ x.toInt ∧ x.toInt ≤ 6 ∧ bt a x.toNatClampNeg = true ∧ L_qm_luck_128_2 l27 mu a v5 v7 kont n v i nu = kont l27 (v5 + F_sm_letterOf (F_sm_sellTo nu v7 x) v7 9) (v7 + 1) (F_sm_sellTo nu v7 x) := by
  intro n
  induction n with
  | zero => intro v i _ _ h; exact absurd h (Nat.not_lt_zero _)
  | succ n ih =>
    intro v i h0 h7 hn hv0 hv
    have z7 : (7 : Int32).toInt = 7 := rfl
    have z0 : (0 : Int32).toInt = 0 := rfl
    have z1 : (1 : Int32).toInt = 1 := rfl
    have hc := tC_of h0
    have hca := tC_of ha.1
    have i6 : i.toInt ≤ 6 := by
      rcases Int.lt_or_le i.toInt 7 with h | h
      · omega
      · exfalso
        rw [show i.toNatClampNeg = 7 by omega, ab_7 _ (by omega)] at hv
        omega
    have ai : (i + 1 : Int32).toInt = i.toInt + 1 := tI_add rfl z1 (by omega) (by omega)
    have hc1 := tC_of (v := i + 1) (by omega)
    have st := ab_step (v := a) (x := i) ha.1 ha.2 h0 i6
    rw [L_sx_bitAt_4_0, L_qm_luck_128_2]
    simp only [letv_eq]
    rw [if_neg (fun e => by have := vv_ge.mp e; omega)]
    cases hq : bt a i.toNatClampNeg
    · have hh := hb_f h0 (by omega) hq
      rw [if_pos hh.1, if_neg hh.2, if_neg hh.2]
      have e0 := st.2 (fun e => by rw [rb_1 h0 (by omega), hq] at e; cases e)
      have sz : v - 0 = v := by simp
      rw [sz]
      exact ih v (i + 1) (by omega) (by omega) (by omega) hv0 (by rw [show (i + 1).toNatClampNeg = i.toNatClampNeg + 1 by omega, ← e0]; exact hv)
    · have hh := hb_t h0 (by omega) hq
      rw [if_neg hh.1, if_pos hh.2]
      have e1 := st.1 ((rb_1 h0 (by omega)).mpr hq)
      by_cases cv : v = 0
      · rw [if_pos cv, if_pos (vv_le.mpr (by rw [cv]; exact Int.le_refl _))]
        exact ⟨i, rfl, h0, i6, hq, rfl⟩
      · have v1 : 1 ≤ v.toInt := by
          have : ¬ v.toInt = (0 : Int32).toInt := fun e => cv (Int32.toInt_inj.mp e)
          omega
        have le : ¬ v ≤ (0 : Int32) := fun e => by have := vv_le.mp e; omega
        have b2 : (v + (-1) : Int32).toInt = v.toInt - 1 := vm1 (by omega)
        rw [if_neg cv, if_neg le, if_pos hh.2, v_m1]
        generalize v + (-1) = w at b2
        exact ih w (i + 1) (by omega) (by omega) (by omega) (by omega) (by rw [show (i + 1).toNatClampNeg = i.toNatClampNeg + 1 by omega]; omega)
/-- numbers that go through the days of luck -/
def seedR (l : Int64) : Prop := 0 ≤ l.toInt ∧ l.toInt ≤ 2147483646
theorem luck_in {mu : Nat → Nat → Int32} {v6 : Int32} {kX kM : Int64 → Int32 → Int32 → (Nat → Nat → Int32) → Int32 × (Nat → Nat → Int32)} {D : Int} (hD : D ≤ 98) (hk : ∀ (l : Int64) (v : Int32) (mux mum : Nat → Nat → Int32), seedR l → bdM mum → core mux mum → (mum 0 14).toInt = D + 1 → (kX l v (v6 + 1) mux).1 = (kM l v (v6 + 1) mum).1 ∧ core (kX l v (v6 + 1) mux).2 (kM l v (v6 + 1) mum).2) : ∀ (n : Nat) (l : Int64) (v i : Int32) (mux mum : Nat → Nat → Int32), seedR l → bdM mum → core mux mum → (mum 0 14).toInt = D → 0 ≤ i.toInt → i.toInt ≤ (mum 0 15).toInt → ((mum 0 15).toInt - i.toInt).toNat < n → (L_qx_luck_78_1 v6 kX n l v i mux).1 = (L_qm_luck_65_1 mu v6 kM n l v i mum).1 ∧ core (L_qx_luck_78_1 v6 kX n l v i mux).2 (L_qm_luck_65_1 mu v6 kM n l v i mum).2 := by
  intro n
  induction n with
  | zero => intro l v i mux mum _ _ _ _ _ _ h; exact absurd h (Nat.not_lt_zero _)
  | succ n ih =>
    intro l v i mux mum hl bd hC hd h0 hle hn
    have hC0 := hC
    have bd0 := bd
    obtain ⟨hK, hE, ⟨s2, s3, s4, s6⟩, hday, hP, hL, hS, hA⟩ := hC
    obtain ⟨hb, hpa, hsent, hled⟩ := bd
    have z1 : (1 : Int32).toInt = 1 := rfl
    have z40 : (40 : Int32).toInt = 40 := rfl
    rw [L_qx_luck_78_1, L_qm_luck_65_1]
    simp only [letv_eq, letp_eq]
    rw [s4]
    by_cases c : i ≥ mum 0 15
    · rw [if_pos c, if_pos c, s3]
      have ad : (mum 0 14 + 1 : Int32).toInt = D + 1 := by
        have := tI_add (a := mum 0 14) (b := 1) rfl z1 (by omega) (by omega)
        omega
      generalize u2 : va_up mux 5 (upd (mux 5) 3 (mum 0 14 + 1)) = xi1
      generalize v2 : va_up mum 0 (upd (mum 0) 14 (mum 0 14 + 1)) = xi2
      have e14 : xi2 0 14 = mum 0 14 + 1 := (up_v v2).symm
      have ef : ∀ f : Nat, f ≠ 14 → xi2 0 f = mum 0 f := fun f hf => up_f v2 hf
      have nc : core xi1 xi2 := by
        refine core_nums bd0 hC0 (fun c hc => up_k u2 hc) (fun c hc => up_k v2 hc) (ef 8 (by decide)) (ef 11 (by decide)) (ef 15 (by decide)) (ef 17 (by decide)) ?_ ?_ (up_f u2 (by decide)) ?_
        · rw [up_f u2 (by decide), ef 13 (by decide)]; exact s2
        · rw [← up_v u2, e14]
        · rw [e14, ad]; omega
      have nb : bdM xi2 := by
        unfold bdM
        rw [ef 8 (by decide), ef 11 (by decide), ef 15 (by decide), ef 17 (by decide)]
        exact bd0
      exact hk _ _ _ _ hl nb nc (by rw [e14, ad])
    · have c2 : ¬ (mum 0 15).toInt ≤ i.toInt := fun h => c (vv_ge.mpr h)
      have ci := tC_of h0
      have ai : (i + 1 : Int32).toInt = i.toInt + 1 := tI_add rfl z1 (by omega) (by omega)
      have be := buyers_core bd0 hC0 ⟨h0, by omega⟩
      have rg := cs_rng (k := i) hb
      obtain ⟨q1, q2, q3, q4⟩ := count_eq rg
      rw [if_neg c, if_neg c, be]
      by_cases c0 : F_sm_canSell mum i = 0
      · rw [if_pos (q4.mp c0), if_pos c0]
        exact ih _ _ (i + 1) mux mum hl bd0 hC0 hd (by omega) (by omega) (by omega)
      · rw [if_neg (fun e => c0 (q4.mpr e)), if_neg c0]
        by_cases c40 : (mum 0 17).toInt < 40
        · have nf : ¬ F_sx_isFull mux = 1 := fun e => by have := fx_isFull.mp e; rw [s6] at this; omega
          have n40 : ¬ mum 0 17 = 40 := fun e => by rw [e] at c40; exact absurd c40 (by decide)
          rw [if_neg nf, if_neg n40]
          rw [Int64.mul_comm l 48271, q1]
          have l1 := lot_rng (n := l) (l1 := 48271 * l) (l2 := 48271 * l % 2147483647) hl rfl rfl
          rw [lrem_eq (48271 * l) 2147483647]
          generalize 48271 * l % 2147483647 = l2 at l1
          have pos : 1 ≤ pp (F_sm_canSell mum i).toNatClampNeg := by
            rcases Nat.eq_zero_or_pos (pp (F_sm_canSell mum i).toNatClampNeg) with e | e
            · exfalso
              have hcc := tC_of rg.1
              have := pp_0 _ (by omega) e
              exact c0 (Int32.toInt_inj.mp (by show _ = (0 : Int); omega))
            · exact e
          have cnt : ((F_sm_sizeOf (F_sm_canSell mum i)).toInt64).toInt = (pp (F_sm_canSell mum i).toNatClampNeg : Int) := by rw [Int32.toInt_toInt64, q2]
          have rem := lrem_rng (a := l2) (b := (F_sm_sizeOf (F_sm_canSell mum i)).toInt64) (c := (pp (F_sm_canSell mum i).toNatClampNeg : Int)) l1.1 cnt (by omega)
          rw [lrem_eq l2]
          have t31 := l2i_of (a := l2 % (F_sm_sizeOf (F_sm_canSell mum i)).toInt64) rfl rem.1 (by omega)
          obtain ⟨x, x1, x2, x3, x4, x5⟩ := lot_loop (l27 := l2) (mu := mu) (a := F_sm_canSell mum i) (v5 := v) (v7 := i) (kont := fun z_v3_65 z_v5_65 z_v7_65 z_nu65_ => L_qm_luck_65_1 mu v6 kM n z_v3_65 z_v5_65 z_v7_65 z_nu65_) (nu := mum) rg 10 (l2 % (F_sm_sizeOf (F_sm_canSell mum i)).toInt64).toInt32 0 (by decide) (by decide) (by decide) (by omega) (by rw [show (0 : Int32).toNatClampNeg = 0 from rfl, ab_0, t31]; exact rem.2)
          have x1' : F_sx_bitAt (F_sm_canSell mum i) (l2 % (F_sm_sizeOf (F_sm_canSell mum i)).toInt64).toInt32 = x := x1
          rw [x5, x1']
          have cx := tC_of x2
          have xb := cs_set (k := i) hb x.toNatClampNeg (by omega) x4
          obtain ⟨a1, a2, a3, a4, a5, a6⟩ := sale_rel (r := (F_sx_enterSale mux i x).1) (xi1 := (F_sx_enterSale mux i x).2) (xi2 := F_sm_sellTo mum i x) bd0 hC0 ⟨h0, by omega⟩ ⟨x2, by omega⟩ c40 rfl rfl
          rw [fm_letterOf ⟨h0, by omega⟩ (by decide), show (9 : Int32).toNatClampNeg = 9 from rfl, ← a3]
          have e17 : (mum 0 17 + 1 : Int32).toInt = (mum 0 17).toInt + 1 := tI_add rfl z1 (by omega) (by omega)
          have nb : bdM (F_sm_sellTo mum i x) := by
            unfold bdM
            rw [a4 8 (by decide), a4 11 (by decide), a4 15 (by decide), a5, e17]
            exact ⟨hb, hpa, hsent, by omega, by omega⟩
          have go : ∀ w : Int32, (L_qx_luck_78_1 v6 kX n l2 w (i + 1) (F_sx_enterSale mux i x).2).1 = (L_qm_luck_65_1 mu v6 kM n l2 w (i + 1) (F_sm_sellTo mum i x)).1 ∧ core (L_qx_luck_78_1 v6 kX n l2 w (i + 1) (F_sx_enterSale mux i x).2).2 (L_qm_luck_65_1 mu v6 kM n l2 w (i + 1) (F_sm_sellTo mum i x)).2 := fun w => ih l2 w (i + 1) _ _ l1 nb a2 (by rw [a4 14 (by decide)]; exact hd) (by omega) (by rw [a4 15 (by decide)]; omega) (by rw [a4 15 (by decide)]; omega)
          have h9 := (a2.2.2.2.2.2.1 i.toNatClampNeg (by rw [a4 15 (by decide)]; have := tC_of hsent.1; omega)).2.2.2
          have h9 : (F_sx_enterSale mux i x).2 (61 + i.toNatClampNeg) 9 = 0 ∨ (F_sx_enterSale mux i x).2 (61 + i.toNatClampNeg) 9 = 1 := h9
          rcases h9 with e | e
          · rw [e, if_pos rfl]
            exact go _
          · rw [e, if_neg (by decide)]
            exact go _
        · have e40 : mum 0 17 = 40 := Int32.toInt_inj.mp (by omega)
          rw [if_pos (fx_isFull.mpr (by rw [s6]; omega)), if_pos e40]
          exact ⟨rfl, hC0⟩
theorem luck_out {mu : Nat → Nat → Int32} {vn : Int32} (hvn : 1 ≤ vn.toInt ∧ vn.toInt ≤ 40) : ∀ (n : Nat) (l : Int64) (v i : Int32) (mux mum : Nat → Nat → Int32), seedR l → bdM mum → core mux mum → 0 ≤ i.toInt → i.toInt ≤ vn.toInt → (mum 0 14).toInt + (vn.toInt - i.toInt) ≤ 99 → (vn.toInt - i.toInt).toNat < n → (L_qx_luck_69_0 vn n l v i mux).1 = (L_qm_luck_56_0 mu vn n l v i mum).1 ∧ core (L_qx_luck_69_0 vn n l v i mux).2 (L_qm_luck_56_0 mu vn n l v i mum).2 := by
  intro n
  induction n with
  | zero => intro l v i mux mum _ _ _ _ _ _ h; exact absurd h (Nat.not_lt_zero _)
  | succ n ih =>
    intro l v i mux mum hl bd hC h0 hle hday hn
    have z0 : (0 : Int32).toInt = 0 := rfl
    rw [L_qx_luck_69_0, L_qm_luck_56_0]
    by_cases c : i ≥ vn
    · rw [if_pos c, if_pos c]
      exact ⟨rfl, hC⟩
    · have c2 : ¬ vn.toInt ≤ i.toInt := fun h => c (vv_ge.mpr h)
      have ai : (i + 1 : Int32).toInt = i.toInt + 1 := tI_add rfl (rfl : (1 : Int32).toInt = 1) (by omega) (by omega)
      rw [if_neg c, if_neg c]
      exact luck_in (D := (mum 0 14).toInt) (by omega) (fun l' v' mux' mum' hl' bd' hC' hd' => ih l' v' (i + 1) mux' mum' hl' bd' hC' (by omega) (by omega) (by omega) (by omega)) 7 l v 0 mux mum hl bd hC rfl (by decide) (by rw [z0]; exact bd.2.2.1.1) (by rw [z0]; have := bd.2.2.1.2; omega)
theorem lg_eq0 (x : Int64) : lg_cmp x x = 0 := by simp [lg_cmp]
theorem luck_rel {n s r1 r2 : Int32} {mux mum xi1 xi2 : Nat → Nat → Int32} (okm : okR loM hiM mum) (hC : core mux mum) (h1 : (r1, xi1) = F_qx_luck mux n s) (h2 : (r2, xi2) = F_qm_luck mum n s) : r1 = r2 ∧ core xi1 xi2 := by
  have hC0 := hC
  obtain ⟨hK, hE, ⟨s2, s3, s4, s6⟩, hday, hP, hL, hS, hA⟩ := hC
  have z0 : (0 : Int32).toInt = 0 := rfl
  have z1 : (1 : Int32).toInt = 1 := rfl
  have z40 : (40 : Int32).toInt = 40 := rfl
  have z99 : (99 : Int32).toInt = 99 := rfl
  have zM : (2147483646 : Int32).toInt = 2147483646 := rfl
  have none : (r1, xi1) = (-1, mux) → (r2, xi2) = (-1, mum) → r1 = r2 ∧ core xi1 xi2 := fun a b => by
    cases a
    cases b
    exact ⟨rfl, hC0⟩
  simp only [F_qx_luck, letv_eq] at h1
  simp only [F_qm_luck, letv_eq] at h2
  by_cases cn : 1 ≤ n.toInt ∧ n.toInt ≤ 40
  · rw [if_neg (fun e => by have := vv_lt.mp e; omega), if_neg (fun e => by have := vv_gt.mp e; omega)] at h1
    rw [if_pos (fm_in.mpr ⟨by omega, by omega⟩)] at h2
    by_cases cs : 1 ≤ s.toInt ∧ s.toInt ≤ 2147483646
    · have lc : lg_cmp s.toInt64 2147483647 < (0 : Int32) := by
        have e : s.toInt64 < 2147483647 := Int64.lt_iff_toInt_lt.mpr (by rw [Int32.toInt_toInt64]; show s.toInt < (2147483647 : Int); omega)
        have e2 : ¬ (2147483647 : Int64) < s.toInt64 := fun h => by
          have := Int64.lt_iff_toInt_lt.mp h
          rw [Int32.toInt_toInt64] at this
          have z : (2147483647 : Int64).toInt = 2147483647 := rfl
          omega
        have e3 : lg_cmp s.toInt64 2147483647 = -1 := by
          simp only [lg_cmp]
          rw [if_neg e2, if_neg (fun h => by rw [h] at e; exact absurd e (by decide))]
        rw [e3]
        decide
      rw [if_neg (fun e => by have := vv_lt.mp e; omega), if_pos lc, hK.1, s3] at h1
      rw [if_pos (fm_in.mpr ⟨by omega, by omega⟩)] at h2
      by_cases c8 : mum 0 8 = 0
      · rw [if_pos c8] at h1 h2
        cases h1
        cases h2
        exact ⟨rfl, hC0⟩
      · rw [if_neg c8] at h1 h2
        have ad : (mum 0 14 + n : Int32).toInt = (mum 0 14).toInt + n.toInt := tI_add rfl rfl (by omega) (by omega)
        by_cases c9 : mum 0 14 + n ≤ (99 : Int32)
        · have c10 := vv_le.mp c9
          rw [if_pos c9] at h1 h2
          have key := luck_out (mu := mum) cn 43 s.toInt64 0 0 mux mum (by unfold seedR; rw [Int32.toInt_toInt64]; omega) (bd_of okm) hC0 (by decide) (by rw [z0]; omega) (by rw [z0]; omega) (by rw [z0]; omega)
          rw [p_fst h1, p_fst h2, p_snd h1, p_snd h2] at key
          exact key
        · rw [if_neg c9] at h1 h2
          cases h1
          cases h2
          exact ⟨rfl, hC0⟩
    · rw [if_neg (fun e => by have := fm_in.mp e; omega)] at h2
      refine none ?_ h2
      rw [h1]
      by_cases c1 : s < (1 : Int32)
      · rw [if_pos c1]
      · have c2 : ¬ s.toInt < (1 : Int32).toInt := fun e => c1 (vv_lt.mpr e)
        have hm := tI_hi s
        have e7 : s.toInt = 2147483647 := by omega
        have lc : ¬ lg_cmp s.toInt64 2147483647 < (0 : Int32) := by
          have e : s.toInt64 = 2147483647 := Int64.toInt_inj.mp (by rw [Int32.toInt_toInt64, e7]; rfl)
          rw [e, lg_eq0]
          decide
        rw [if_neg c1, if_neg lc]
  · rw [if_neg (fun e => by have := fm_in.mp e; omega)] at h2
    refine none ?_ h2
    rw [h1]
    by_cases c1 : n < (1 : Int32)
    · rw [if_pos c1]
    · have c2 : ¬ n.toInt < (1 : Int32).toInt := fun e => c1 (vv_lt.mpr e)
      rw [if_neg c1, if_pos (vv_gt.mpr (by omega))]

-- ===== money: how much there is in all =====
def tot (f : Nat → Int32) : Nat → Int
  | 0 => 0
  | n + 1 => tot f n + (f n).toInt
theorem tot_congr {f g : Nat → Int32} : ∀ n : Nat, (∀ x : Nat, x < n → f x = g x) → tot f n = tot g n := by
  intro n
  induction n with
  | zero => intro _; rfl
  | succ n ih =>
    intro h
    show tot f n + (f n).toInt = tot g n + (g n).toInt
    rw [ih (fun x hx => h x (by omega)), h n (by omega)]
theorem tot_pos {f : Nat → Int32} : ∀ n : Nat, (∀ x : Nat, x < n → 0 ≤ (f x).toInt) → 0 ≤ tot f n := by
  intro n
  induction n with
  | zero => intro _; exact Int.le_refl _
  | succ n ih =>
    intro h
    have a := ih (fun x hx => h x (by omega))
    have b := h n (by omega)
    show 0 ≤ tot f n + (f n).toInt
    omega
theorem tot_ge {f : Nat → Int32} : ∀ n : Nat, (∀ x : Nat, x < n → 0 ≤ (f x).toInt) → ∀ x : Nat, x < n → (f x).toInt ≤ tot f n := by
  intro n
  induction n with
  | zero => intro _ x hx; exact absurd hx (Nat.not_lt_zero _)
  | succ n ih =>
    intro h x hx
    have a := tot_pos n (fun x hx => h x (by omega))
    have b := h n (by omega)
    show (f x).toInt ≤ tot f n + (f n).toInt
    by_cases e : x = n
    · subst e
      omega
    · have c := ih (fun x hx => h x (by omega)) x (by omega)
      omega
theorem tot_upd {f : Nat → Int32} {x : Nat} {v : Int32} : ∀ n : Nat, x < n → tot (upd f x v) n = tot f n - (f x).toInt + v.toInt := by
  intro n
  induction n with
  | zero => intro hx; exact absurd hx (Nat.not_lt_zero _)
  | succ n ih =>
    intro hx
    show tot (upd f x v) n + (upd f x v n).toInt = tot f n + (f n).toInt - (f x).toInt + v.toInt
    by_cases e : x = n
    · subst e
      have a : tot (upd f x v) x = tot f x := tot_congr x (fun y hy => by simp [upd, show ¬ y = x by omega])
      have b : upd f x v x = v := by simp [upd]
      rw [a, b]
      omega
    · have b : upd f x v n = f n := by simp [upd, show ¬ n = x by omega]
      rw [ih (by omega), b]
      omega
def purM (T : Int) (B : Nat) (f : Nat → Int32) : Prop := (∀ x : Nat, x < B → 0 ≤ (f x).toInt) ∧ tot f B ≤ T
def letM (T : Int) (n : Nat) (lm : Nat → Int32) : Prop := ∀ k : Nat, k < n → (0 ≤ (lm (10 * k + 6)).toInt ∧ (lm (10 * k + 6)).toInt ≤ T) ∧ (0 ≤ (lm (10 * k + 2)).toInt ∧ (lm (10 * k + 2)).toInt ≤ 99) ∧ (0 ≤ (lm (10 * k + 3)).toInt ∧ (lm (10 * k + 3)).toInt ≤ 9) ∧ (0 ≤ (lm (10 * k + 4)).toInt ∧ (lm (10 * k + 4)).toInt ≤ 99)
def monS (T : Int) (n : Nat) (mum : Nat → Nat → Int32) : Prop := ∀ s : Nat, s < n → purM T (mum 0 8).toNatClampNeg (fun x => mum 14 (12 * s + 5 + x)) ∧ 0 ≤ (mum 14 (12 * s + 2)).toInt ∧ (mum 14 (12 * s + 2)).toInt ≤ T
def monK (T : Int) (mum : Nat → Nat → Int32) : Prop := ∀ j : Nat, j < 3 → mum 15 (64 * j) = -9 ∨ (purM T (mum 0 8).toNatClampNeg (fun x => mum 15 (64 * j + 3 + x)) ∧ letM T (mum 15 (64 * j + 2)).toNatClampNeg (fun i => mum 15 (64 * j + 10 + i)))
def mon (T : Int) (mum : Nat → Nat → Int32) : Prop := purM T (mum 0 8).toNatClampNeg (mum 8) ∧ letM T (mum 0 15).toNatClampNeg (mum 10) ∧ monS T (mum 0 17).toNatClampNeg mum ∧ monK T mum
theorem purM_le {T T' : Int} {B : Nat} {f : Nat → Int32} (h : purM T B f) (hT : T ≤ T') : purM T' B f := ⟨h.1, Int.le_trans h.2 hT⟩
theorem purM_of {T : Int} {B : Nat} {f g : Nat → Int32} (h : purM T B f) (he : ∀ x : Nat, x < B → g x = f x) : purM T B g := ⟨fun x hx => by rw [he x hx]; exact h.1 x hx, by rw [tot_congr B he]; exact h.2⟩
theorem purM_at {T : Int} {B x : Nat} {f : Nat → Int32} (h : purM T B f) (hx : x < B) : 0 ≤ (f x).toInt ∧ (f x).toInt ≤ T := ⟨h.1 x hx, Int.le_trans (tot_ge B h.1 x hx) h.2⟩
theorem letM_le {T T' : Int} {n : Nat} {lm : Nat → Int32} (h : letM T n lm) (hT : T ≤ T') : letM T' n lm := fun k hk => by
  obtain ⟨a, b⟩ := h k hk
  exact ⟨⟨a.1, Int.le_trans a.2 hT⟩, b⟩
theorem letM_of {T : Int} {n : Nat} {lm lm' : Nat → Int32} (h : letM T n lm) (he : ∀ k : Nat, k < n → ∀ f : Nat, f < 10 → lm' (10 * k + f) = lm (10 * k + f)) : letM T n lm' := fun k hk => by
  rw [he k hk 6 (by decide), he k hk 2 (by decide), he k hk 3 (by decide), he k hk 4 (by decide)]
  exact h k hk
theorem mon_le {T T' : Int} {mum : Nat → Nat → Int32} (h : mon T mum) (hT : T ≤ T') : mon T' mum := by
  obtain ⟨a, b, c, d⟩ := h
  refine ⟨purM_le a hT, letM_le b hT, fun s hs => ?_, fun j hj => ?_⟩
  · obtain ⟨c1, c2, c3⟩ := c s hs
    exact ⟨purM_le c1 hT, c2, Int.le_trans c3 hT⟩
  · rcases d j hj with e | ⟨e1, e2⟩
    · exact Or.inl e
    · exact Or.inr ⟨purM_le e1 hT, letM_le e2 hT⟩
theorem mon_of {T : Int} {mum xi : Nat → Nat → Int32} (h : mon T mum) (h8 : xi 0 8 = mum 0 8) (h15 : xi 0 15 = mum 0 15) (h17 : xi 0 17 = mum 0 17) (c8 : xi 8 = mum 8) (c10 : xi 10 = mum 10) (c14 : xi 14 = mum 14) (c15 : xi 15 = mum 15) : mon T xi := by
  unfold mon monS monK
  rw [h8, h15, h17, c8, c10, c14, c15]
  exact h
theorem mon_keep {m : Nat} {T : Int} {mum xi : Nat → Nat → Int32} (hm : Nat.testBit m 2 = true ∧ Nat.testBit m 3 = true ∧ Nat.testBit m 4 = true ∧ Nat.testBit m 5 = true ∧ Nat.testBit m 8 = true) (h2 : ∀ k f : Nat, Nat.testBit m (gpM k f) = true → xi k f = mum k f) (h : mon T mum) : mon T xi :=
  mon_of h (h2 0 8 hm.1) (h2 0 15 hm.2.2.2.2) (h2 0 17 hm.2.2.1) (funext fun f => h2 8 f hm.2.1) (funext fun f => h2 10 f hm.2.1) (funext fun f => h2 14 f hm.2.2.1) (funext fun f => h2 15 f hm.2.2.2.1)
theorem mon_0 {T : Int} (hT : 0 ≤ T) : mon T mu0M := by
  refine ⟨⟨fun x hx => absurd hx (Nat.not_lt_zero _), hT⟩, fun k hk => absurd hk (Nat.not_lt_zero _), fun s hs => absurd hs (Nat.not_lt_zero _), fun j hj => Or.inl ?_⟩
  have key : ∀ j : Nat, j < 3 → mu0M 15 (64 * j) = -9 := by decide +kernel
  exact key j hj
/-- what is asked: by the kind, out of what was paid -/
theorem asks_rng {k p : Int32} {T : Int} (hp : 0 ≤ p.toInt ∧ p.toInt ≤ T) (hT : T ≤ 1000000) : 0 ≤ (F_sx_priceAsked k p).toInt ∧ (F_sx_priceAsked k p).toInt ≤ 2 * T + 6 := by
  have z1 : (1 : Int32).toInt = 1 := rfl
  have z3 : (3 : Int32).toInt = 3 := rfl
  have a1 : (p + 1 : Int32).toInt = p.toInt + 1 := tI_add rfl z1 (by omega) (by omega)
  have a3 : (p + 3 : Int32).toInt = p.toInt + 3 := tI_add rfl z3 (by omega) (by omega)
  have a4 : (2 * (p + 3) : Int32).toInt = 2 * (p.toInt + 3) := tI_mul (rfl : (2 : Int32).toInt = 2) a3 (by omega) (by omega)
  have z0 : (0 : Int32).toInt = 0 := rfl
  simp only [F_sx_priceAsked, letv_eq]
  repeat' split
  all_goals omega
theorem cs_price {mum : Nat → Nat → Int32} {nb pr k : Int32} (hb : 0 ≤ (mum 0 8).toInt ∧ (mum 0 8).toInt ≤ 7) : ∀ (n : Nat) (w i : Int32), 0 ≤ i.toInt → i.toInt ≤ (mum 0 8).toInt → (∀ j : Nat, j < 32 → bt w j = true → ¬ mum 8 j < pr) → ∀ j : Nat, j < 32 → bt (L_sm_canSell_47_0 mum nb pr k n w i) j = true → ¬ mum 8 j < pr := by
  intro n
  induction n with
  | zero =>
    intro w i _ _ _ j hj h
    rw [L_sm_canSell_47_0, b_zero j hj] at h
    cases h
  | succ n ih =>
    intro w i h0 hle hw
    rw [L_sm_canSell_47_0]
    simp only [letv_eq, ior_0]
    by_cases c : i ≥ mum 0 8
    · rw [if_pos c]
      exact hw
    · have c2 : ¬ (mum 0 8).toInt ≤ i.toInt := fun h => c (vv_ge.mpr h)
      have ai : (i + 1 : Int32).toInt = i.toInt + 1 := vp1 (by omega)
      have add : ¬ mum 8 i.toNatClampNeg < pr → ∀ j : Nat, j < 32 → bt (w ||| ((1 : Int32) <<< (i &&& 31))) j = true → ¬ mum 8 j < pr := fun hno j hj hq => by
        rw [b_or, b_bit h0 (by omega) hj] at hq
        by_cases e : j = i.toNatClampNeg
        · rw [e]
          exact hno
        · simp [e] at hq
          exact hw j hj hq
      rw [if_neg c]
      repeat' split
      all_goals first
        | exact ih _ _ (by omega) (by omega) hw
        | (rename_i hno; exact ih _ _ (by omega) (by omega) (add hno))
theorem can_price {mum : Nat → Nat → Int32} {k x : Int32} (hb : 0 ≤ (mum 0 8).toInt ∧ (mum 0 8).toInt ≤ 7) (hx : 0 ≤ x.toInt ∧ x.toInt ≤ 31) (h : bt (F_sm_canSell mum k) x.toNatClampNeg = true) : (F_sm_priceOf mum k).toInt ≤ (mum 8 x.toNatClampNeg).toInt := by
  have cx := tC_of hx.1
  have key : ¬ mum 8 x.toNatClampNeg < F_sm_priceOf mum k := by
    simp only [F_sm_canSell, letv_eq] at h
    have z : ¬ bt 0 x.toNatClampNeg = true := by rw [b_zero _ (by omega)]; decide
    revert h
    repeat' split
    · intro h; exact absurd h z
    · intro h
      exact cs_price hb 10 0 0 (by decide) (by show (0 : Int) ≤ _; exact hb.1) (fun j hj hq => by rw [b_zero j hj] at hq; cases hq) _ (by omega) h
    · intro h; exact absurd h z
  have : ¬ (mum 8 x.toNatClampNeg).toInt < (F_sm_priceOf mum k).toInt := fun e => key (vv_lt.mpr e)
  omega

-- ===== money stays, over each call =====
theorem purM_two {T : Int} {B x h : Nat} {A : Nat → Int32} {p : Int32} (hA : purM T B A) (hT : T ≤ 1000000) (hx : x < B) (hh : h < B) (hp : 0 ≤ p.toInt) (hle : p.toInt ≤ (A x).toInt) : purM T B (upd (upd A x (A x - p)) h (upd A x (A x - p) h + p)) := by
  have ax := purM_at hA hx
  have e1 : (A x - p : Int32).toInt = (A x).toInt - p.toInt := tI_sub rfl rfl (by omega) (by omega)
  have t1 := tot_upd (f := A) (x := x) (v := A x - p) B hx
  have g1 : purM (T - p.toInt) B (upd A x (A x - p)) := by
    refine ⟨fun y hy => ?_, by rw [t1, e1]; have := hA.2; omega⟩
    by_cases c : y = x
    · subst c
      have : upd A y (A y - p) y = A y - p := by simp [upd]
      rw [this, e1]
      omega
    · have : upd A x (A x - p) y = A y := by simp [upd, c]
      rw [this]
      exact hA.1 y hy
  have gh := purM_at g1 hh
  have e2 : (upd A x (A x - p) h + p : Int32).toInt = (upd A x (A x - p) h).toInt + p.toInt := tI_add rfl rfl (by omega) (by omega)
  have t2 := tot_upd (f := upd A x (A x - p)) (x := h) (v := upd A x (A x - p) h + p) B hh
  refine ⟨fun y hy => ?_, by rw [t2, e2]; have := g1.2; omega⟩
  by_cases c : y = h
  · subst c
    have : upd (upd A x (A x - p)) y (upd A x (A x - p) y + p) y = upd A x (A x - p) y + p := by simp [upd]
    rw [this, e2]
    omega
  · have : upd (upd A x (A x - p)) h (upd A x (A x - p) h + p) y = upd A x (A x - p) y := by simp [upd, c]
    rw [this]
    exact g1.1 y hy
theorem price_rng {mum : Nat → Nat → Int32} {k : Int32} {T : Int} (hk : 0 ≤ k.toInt ∧ k.toInt ≤ 3) (hT : T ≤ 1000000) (hp : 0 ≤ (mum 10 (10 * k.toNatClampNeg + 6)).toInt ∧ (mum 10 (10 * k.toNatClampNeg + 6)).toInt ≤ T) : 0 ≤ (F_sm_priceOf mum k).toInt ∧ (F_sm_priceOf mum k).toInt ≤ 2 * T + 6 := by
  have e : F_sm_priceOf mum k = F_sx_priceAsked (mum 7 (F_sm_letterOf5 mum k).toNatClampNeg) (F_sm_letterOf mum k 6) := rfl
  rw [e, fm_letterOf hk (by decide)]
  exact asks_rng hp hT
theorem sale_mon {mux mum : Nat → Nat → Int32} {k x : Int32} {T : Int} (hT : 0 ≤ T ∧ T ≤ 1000000) (bd : bdM mum) (hC : core mux mum) (hm : mon T mum) (hk : 0 ≤ k.toInt ∧ k.toInt < (mum 0 15).toInt) (hx : 0 ≤ x.toInt ∧ x.toInt < (mum 0 8).toInt) (hbit : bt (F_sm_canSell mum k) x.toNatClampNeg = true) (hn : (mum 0 17).toInt < 40) : mon T (F_sm_sellTo mum k x) := by
  obtain ⟨hb, hpa, hsent, hled⟩ := bd
  obtain ⟨mp, ml, ms, mk⟩ := hm
  have ck := tC_of hk.1
  have cx := tC_of hx.1
  have cb := tC_of hb.1
  have cs := tC_of hsent.1
  have cl := tC_of hled.1
  have hk3 : 0 ≤ k.toInt ∧ k.toInt ≤ 3 := ⟨hk.1, by omega⟩
  obtain ⟨lf, l1, l5, l9⟩ : oneR (mum 0 8).toInt (mux (61 + k.toNatClampNeg)) (mum 10) k.toNatClampNeg := hC.2.2.2.2.2.1 k.toNatClampNeg (by omega)
  have g5 : mux (61 + k.toNatClampNeg) 5 = mum 10 (10 * k.toNatClampNeg + 5) := lf 5 (by decide)
  rw [g5] at l5
  have c5 := tC_of l5.1
  obtain ⟨pk, wk, fk, sk⟩ := ml k.toNatClampNeg (by omega)
  have pr := price_rng hk3 hT.2 pk
  have ple := can_price hb ⟨hx.1, by omega⟩ hbit
  have px := purM_at mp (x := x.toNatClampNeg) (by omega)
  obtain ⟨m1, m2, m3, m4, ⟨m51, m52, m53, m54, m55⟩, m6, m7, m8, m9, m10, m11, m12, m13⟩ := es_m (xi := F_sm_sellTo mum k x) hk3 ⟨hled.1, hn⟩ rfl
  generalize F_sm_sellTo mum k x = xi at m1 m2 m3 m4 m51 m52 m53 m54 m55 m6 m7 m8 m9 m10 m11 m12 m13 ⊢
  have e17 : (mum 0 17 + 1 : Int32).toInt = (mum 0 17).toInt + 1 := vp1 (by omega)
  have c17 := tC_of (v := mum 0 17 + 1) (by omega)
  refine ⟨?_, ?_, ?_, ?_⟩
  · rw [m2 8 (by decide), m7]
    exact purM_two mp hT.2 (by omega) (by omega) pr.1 ple
  · rw [m2 15 (by decide)]
    intro q hq
    by_cases e : q = k.toNatClampNeg
    · subst e
      rw [m10, m8 _ (Or.inl (by omega)), m8 _ (Or.inl (by omega)), m8 _ (Or.inl (by omega))]
      exact ⟨⟨pr.1, by omega⟩, wk, fk, sk⟩
    · rw [m8 _ (by omega), m8 _ (by omega), m8 _ (by omega), m8 _ (by omega)]
      exact ml q hq
  · unfold monS
    rw [m3, m2 8 (by decide)]
    intro s hs
    by_cases e : s = (mum 0 17).toNatClampNeg
    · subst e
      rw [m53]
      exact ⟨purM_of mp (fun z hz => m6 z (by omega)), pk⟩
    · rw [m4 _ (Or.inl (by omega))]
      obtain ⟨a, b⟩ := ms s (by omega)
      exact ⟨purM_of a (fun z hz => m4 _ (Or.inl (by omega))), b⟩
  · unfold monK
    rw [m2 8 (by decide), m1 15 (by decide) (by decide) (by decide) (by decide)]
    exact mk
theorem purse_mon {x v r2 : Int32} {mum xi2 : Nat → Nat → Int32} {T : Int} (okm : okR loM hiM mum) (hm : mon T mum) (h2 : (r2, xi2) = F_qm_purse mum x v) : mon (T + 999) xi2 := by
  have hb : 0 ≤ (mum 0 8).toInt ∧ (mum 0 8).toInt ≤ 7 := okm 0 8
  have cb := tC_of hb.1
  have z0 : (0 : Int32).toInt = 0 := rfl
  have z9 : (999 : Int32).toInt = 999 := rfl
  have up := mon_le hm (show T ≤ T + 999 by omega)
  simp only [F_qm_purse, letv_eq] at h2
  by_cases cx : F_sm_isOne mum x = 1
  · rw [if_pos cx] at h2
    have hx := (fm_isOne hb).mp cx
    have cx2 := tC_of hx.1
    by_cases cv : F_sm_in v 0 999 = 1
    · have hv := fm_in.mp cv
      rw [if_pos cv] at h2
      have v2 := (Prod.mk.inj h2).2.symm
      have fm : ∀ c : Nat, c ≠ 8 → xi2 c = mum c := fun c hc => up_k v2 hc
      obtain ⟨mp, ml, ms, mk⟩ := hm
      obtain ⟨_, ul, us, uk⟩ := up
      have po := purM_at mp (x := x.toNatClampNeg) (by omega)
      refine ⟨?_, ?_, ?_, ?_⟩
      · rw [fm 0 (by decide), up_c v2]
        refine ⟨fun y hy => ?_, ?_⟩
        · by_cases c : y = x.toNatClampNeg
          · subst c
            simp only [upd, if_true]
            omega
          · simp only [upd, if_neg c]
            exact mp.1 y hy
        · rw [tot_upd _ (by omega)]
          have := mp.2
          omega
      · rw [fm 0 (by decide), fm 10 (by decide)]; exact ul
      · unfold monS
        rw [fm 0 (by decide), fm 14 (by decide)]; exact us
      · unfold monK
        rw [fm 0 (by decide), fm 15 (by decide)]; exact uk
    · rw [if_neg cv] at h2
      rw [(Prod.mk.inj h2).2]
      exact up
  · rw [if_neg cx] at h2
    rw [(Prod.mk.inj h2).2]
    exact up
theorem send_mon {x y w l r2 : Int32} {mum xi2 : Nat → Nat → Int32} {T : Int} (okm : okR loM hiM mum) (hT : 0 ≤ T) (hday : 0 ≤ (mum 0 14).toInt ∧ (mum 0 14).toInt ≤ 99) (hm : mon T mum) (h2 : (r2, xi2) = F_qm_send mum x y w l) : mon T xi2 := by
  have hsent : 0 ≤ (mum 0 15).toInt ∧ (mum 0 15).toInt ≤ 4 := okm 0 15
  have cs := tC_of hsent.1
  have z0 : (0 : Int32).toInt = 0 := rfl
  have z9 : (9 : Int32).toInt = 9 := rfl
  have z99 : (99 : Int32).toInt = 99 := rfl
  have h2' := h2
  unfold F_qm_send at h2
  by_cases c1 : F_sm_areTwo mum x y = 1
  · rw [if_pos c1] at h2
    by_cases c2 : F_sm_in w 0 99 = 1
    · rw [if_pos c2] at h2
      by_cases c3 : F_sm_in l 0 9 = 1
      · rw [if_pos c3] at h2
        have hw := fm_in.mp c2
        have hl := fm_in.mp c3
        by_cases c4 : (mum 0 15).toInt ≤ 3
        · obtain ⟨m1, m2, m3, m4, m5, q0, q1, q2, q3, q4, q5, q6, q7, q8, q9⟩ := sd_m c1 c2 c3 ⟨hsent.1, c4⟩ h2'
          obtain ⟨mp, ml, ms, mk⟩ := hm
          have ad : (mum 0 15 + 1 : Int32).toInt = (mum 0 15).toInt + 1 := vp1 (by omega)
          have adn := tC_of (v := mum 0 15 + 1) (by omega)
          refine ⟨?_, ?_, ?_, ?_⟩
          · rw [m3 8 (by decide), m2 8 (by decide) (by decide)]; exact mp
          · rw [m4]
            intro q hq
            by_cases e : q = (mum 0 15).toNatClampNeg
            · subst e
              rw [q6, q2, q3, q4, z0]
              exact ⟨⟨Int.le_refl _, hT⟩, ⟨by omega, by omega⟩, ⟨by omega, by omega⟩, hday⟩
            · rw [m5 _ (by omega), m5 _ (by omega), m5 _ (by omega), m5 _ (by omega)]
              exact ml q (by omega)
          · unfold monS
            rw [m3 8 (by decide), m3 17 (by decide), m2 14 (by decide) (by decide)]; exact ms
          · unfold monK
            rw [m3 8 (by decide), m2 15 (by decide) (by decide)]; exact mk
        · have e4 : mum 0 15 = 4 := Int32.toInt_inj.mp (by show _ = (4 : Int); omega)
          simp only [letv_eq] at h2
          rw [if_pos e4] at h2
          rw [(Prod.mk.inj h2).2]
          exact hm
      · rw [if_neg c3] at h2
        rw [(Prod.mk.inj h2).2]
        exact hm
    · rw [if_neg c2] at h2
      rw [(Prod.mk.inj h2).2]
      exact hm
  · rw [if_neg c1] at h2
    rw [(Prod.mk.inj h2).2]
    exact hm
theorem meet_mon {a : Int32} {mum : Nat → Nat → Int32} {T : Int} (hm : mon T mum) : mon T (F_sm_meet mum a).2 :=
  mon_of hm (fm_meet.2.2 8 (by decide)) (fm_meet.2.2 15 (by decide)) (fm_meet.2.2 17 (by decide)) (funext fun f => fm_meet.2.1 8 f (by decide) (by decide)) (funext fun f => fm_meet.2.1 10 f (by decide) (by decide)) (funext fun f => fm_meet.2.1 14 f (by decide) (by decide)) (funext fun f => fm_meet.2.1 15 f (by decide) (by decide))
theorem sell_mon {k x r2 : Int32} {mux mum xi2 : Nat → Nat → Int32} {T : Int} (hT : 0 ≤ T ∧ T ≤ 1000000) (okm : okR loM hiM mum) (hC : core mux mum) (hm : mon T mum) (h2 : (r2, xi2) = F_qm_sell mum k x) : mon T xi2 := by
  have bd := bd_of okm
  have hb := bd.1
  have hled := bd.2.2.2
  unfold F_qm_sell at h2
  by_cases c0 : k < (0 : Int32)
  · rw [if_pos c0] at h2
    rw [(Prod.mk.inj h2).2]
    exact hm
  · rw [if_neg c0] at h2
    by_cases c1 : F_sm_isOne mum x = 1
    · rw [if_pos c1] at h2
      have hx := (fm_isOne hb).mp c1
      have cx := tC_of hx.1
      rcases fm_askL (mum := mum) (k := k) with ⟨hk, q2⟩ | ⟨hk, hk2, q2⟩ | ⟨hk, q2⟩
      · rw [q2] at h2
        simp only [letp_eq, letv_eq] at h2
        rw [if_pos trivial] at h2
        by_cases c2 : F_sm_has (F_sm_canSell mum k) x = 1
        · rw [if_pos c2] at h2
          have hbit : bt (F_sm_canSell mum k) x.toNatClampNeg = true := by
            cases hq : bt (F_sm_canSell mum k) x.toNatClampNeg
            · exact absurd c2 (hb_f hx.1 (by omega) hq).2
            · rfl
          by_cases c40 : mum 0 17 = 40
          · rw [if_pos c40] at h2
            rw [(Prod.mk.inj h2).2]
            exact hm
          · rw [if_neg c40] at h2
            have l40 : (mum 0 17).toInt < 40 := by
              have : ¬ (mum 0 17).toInt = (40 : Int32).toInt := fun e => c40 (Int32.toInt_inj.mp e)
              have z : (40 : Int32).toInt = 40 := rfl
              omega
            have sm := sale_mon hT bd hC hm hk hx hbit l40
            split at h2
            · rw [(Prod.mk.inj h2).2]
              exact sm
            · rw [(Prod.mk.inj h2).2]
              exact sm
        · rw [if_neg c2] at h2
          rw [(Prod.mk.inj h2).2]
          exact hm
      · rw [q2] at h2
        simp only [letp_eq] at h2
        rw [if_neg n3] at h2
        rw [(Prod.mk.inj h2).2]
        exact meet_mon hm
      · rw [q2] at h2
        simp only [letp_eq] at h2
        rw [if_neg n1] at h2
        rw [(Prod.mk.inj h2).2]
        exact hm
    · rw [if_neg c1] at h2
      rw [(Prod.mk.inj h2).2]
      exact hm
theorem keep_mon {v r2 : Int32} {mum xi2 : Nat → Nat → Int32} {T : Int} (okm : okR loM hiM mum) (hm : mon T mum) (h2 : (r2, xi2) = F_qm_keep mum v) : mon T xi2 := by
  have hb : 0 ≤ (mum 0 8).toInt ∧ (mum 0 8).toInt ≤ 7 := okm 0 8
  have cb := tC_of hb.1
  have hsent : 0 ≤ (mum 0 15).toInt ∧ (mum 0 15).toInt ≤ 4 := okm 0 15
  have cs := tC_of hsent.1
  have z0 : (0 : Int32).toInt = 0 := rfl
  have z2 : (2 : Int32).toInt = 2 := rfl
  by_cases cv : 0 ≤ v.toInt ∧ v.toInt ≤ 2
  · by_cases c0 : mum 0 8 = 0
    · unfold F_qm_keep at h2
      rw [if_pos (fm_in.mpr ⟨by omega, by omega⟩)] at h2
      simp only [letv_eq] at h2
      rw [if_pos c0] at h2
      rw [(Prod.mk.inj h2).2]
      exact hm
    · obtain ⟨g1, hmm⟩ := fm_keep cv c0
      rw [p_snd h2] at hmm
      have cvn := tC_of cv.1
      obtain ⟨mp, ml, ms, mk⟩ := hm
      generalize v.toNatClampNeg = J at hmm cvn
      have hJ : J < 3 := by omega
      have fm : ∀ c : Nat, c ≠ 15 → xi2 c = mum c := fun c h => funext fun f => by
        rw [hmm c f, if_neg (fun e => h e.1), if_neg (fun e => h e.1), if_neg (fun e => h e.1), if_neg (fun e => h e.1), if_neg (fun e => h e.1)]
      refine ⟨?_, ?_, ?_, ?_⟩
      · rw [fm 0 (by decide), fm 8 (by decide)]; exact mp
      · rw [fm 0 (by decide), fm 10 (by decide)]; exact ml
      · unfold monS
        rw [fm 0 (by decide), fm 14 (by decide)]; exact ms
      · intro j hj
        rw [fm 0 (by decide)]
        by_cases e : j = J
        · subst e
          have a2 : xi2 15 (64 * j + 2) = mum 0 15 := by rw [hmm, if_neg (fun h => by omega), if_neg (fun h => by omega), if_neg (fun h => by omega), if_neg (fun h => by omega), if_pos ⟨rfl, rfl⟩]
          rw [a2]
          refine Or.inr ⟨purM_of mp (fun x hx => ?_), letM_of ml (fun q hq f hf => ?_)⟩
          · show xi2 15 (64 * j + 3 + x) = mum 8 x
            rw [hmm, if_neg (fun h => by omega), if_pos ⟨rfl, by omega, by omega⟩, show 64 * j + 3 + x - (64 * j + 3) = x by omega]
          · show xi2 15 (64 * j + 10 + (10 * q + f)) = mum 10 (10 * q + f)
            rw [hmm, if_pos ⟨rfl, by omega, by omega⟩, show 64 * j + 10 + (10 * q + f) - (64 * j + 10) = 10 * q + f by omega]
        · have o15 : ∀ f : Nat, 64 * j ≤ f → f < 64 * j + 50 → xi2 15 f = mum 15 f := fun f h1 h2 => by
            rw [hmm, if_neg (fun h => by omega), if_neg (fun h => by omega), if_neg (fun h => by omega), if_neg (fun h => by omega), if_neg (fun h => by omega)]
          have k4 : mum 15 (64 * j) = -9 ∨ True := Or.inr trivial
          rw [o15 (64 * j) (by omega) (by omega), o15 (64 * j + 2) (by omega) (by omega)]
          have b4 : (mum 15 (64 * j + 2)).toNatClampNeg ≤ 4 := by
            have key : ∀ j : Nat, j < 3 → loM 15 (64 * j + 2) = 0 ∧ hiM 15 (64 * j + 2) = 4 := by decide +kernel
            have ok := okm 15 (64 * j + 2)
            rw [(key j hj).1, (key j hj).2] at ok
            have := tC_of ok.1
            omega
          rcases mk j hj with a | ⟨a, b⟩
          · exact Or.inl a
          · refine Or.inr ⟨purM_of a (fun x hx => o15 _ (by omega) (by omega)), letM_of b (fun q hq f hf => o15 _ (by omega) (by omega))⟩
  · unfold F_qm_keep at h2
    rw [if_neg (fun e => by have := fm_in.mp e; omega)] at h2
    rw [(Prod.mk.inj h2).2]
    exact hm
theorem on_mon {v r2 : Int32} {mum xi2 : Nat → Nat → Int32} {T : Int} (okm : okR loM hiM mum) (hm : mon T mum) (h2 : (r2, xi2) = F_qm_on mum v) : mon T xi2 := by
  have hb : 0 ≤ (mum 0 8).toInt ∧ (mum 0 8).toInt ≤ 7 := okm 0 8
  have cb := tC_of hb.1
  have z0 : (0 : Int32).toInt = 0 := rfl
  have z2 : (2 : Int32).toInt = 2 := rfl
  by_cases cv : 0 ≤ v.toInt ∧ v.toInt ≤ 2
  · have cvn := tC_of cv.1
    by_cases c9 : mum 15 (64 * v.toNatClampNeg) = -9
    · have m64 : (64 * v : Int32).toInt = 64 * v.toInt := tI_mul (rfl : (64 : Int32).toInt = 64) rfl (by omega) (by omega)
      have c64 := tC_of (v := 64 * v) (by omega)
      have n64 : (64 * v : Int32).toNatClampNeg = 64 * v.toNatClampNeg := by omega
      unfold F_qm_on at h2
      rw [if_pos (fm_in.mpr ⟨by omega, by omega⟩)] at h2
      simp only [letv_eq, letp_eq] at h2
      rw [n64, if_pos c9] at h2
      rw [(Prod.mk.inj h2).2]
      exact meet_mon hm
    · obtain ⟨g1, hmm⟩ := fm_on cv c9
      rw [p_snd h2] at hmm
      obtain ⟨mp, ml, ms, mk⟩ := hm
      have hJ : v.toNatClampNeg < 3 := by omega
      obtain ⟨ka, kb⟩ : purM T (mum 0 8).toNatClampNeg (fun x => mum 15 (64 * v.toNatClampNeg + 3 + x)) ∧ letM T (mum 15 (64 * v.toNatClampNeg + 2)).toNatClampNeg (fun i => mum 15 (64 * v.toNatClampNeg + 10 + i)) := by
        rcases mk _ hJ with a | a
        · exact absurd a c9
        · exact a
      have b4 : (mum 15 (64 * v.toNatClampNeg + 2)).toNatClampNeg ≤ 4 := by
        have key : ∀ j : Nat, j < 3 → loM 15 (64 * j + 2) = 0 ∧ hiM 15 (64 * j + 2) = 4 := by decide +kernel
        have ok := okm 15 (64 * v.toNatClampNeg + 2)
        rw [(key _ hJ).1, (key _ hJ).2] at ok
        have := tC_of ok.1
        omega
      generalize v.toNatClampNeg = J at hmm ka kb b4
      have m8 : xi2 0 8 = mum 0 8 := by rw [hmm]; simp
      have m15 : xi2 0 15 = mum 15 (64 * J + 2) := by rw [hmm]; simp
      have m17 : xi2 0 17 = 0 := by rw [hmm]; simp
      have c15 : xi2 15 = mum 15 := funext fun f => by rw [hmm]; simp
      refine ⟨?_, ?_, ?_, ?_⟩
      · rw [m8]
        refine purM_of ka (fun x hx => ?_)
        rw [hmm, if_neg (fun h => by omega), if_neg (fun h => by omega), if_pos ⟨rfl, by omega⟩]
      · rw [m15]
        refine letM_of kb (fun q hq f hf => ?_)
        rw [hmm, if_pos ⟨rfl, by omega⟩]
      · unfold monS
        rw [m17]
        intro s hs
        exact absurd hs (Nat.not_lt_zero _)
      · unfold monK
        rw [m8, c15]
        exact mk
  · unfold F_qm_on at h2
    rw [if_neg (fun e => by have := fm_in.mp e; omega)] at h2
    rw [(Prod.mk.inj h2).2]
    exact hm
def monN (T : Int) (c : Int32) (mum : Nat → Nat → Int32) : Prop := purM T (mum 0 8).toNatClampNeg (mum 8) ∧ letM T (mum 0 15).toNatClampNeg (mum 10) ∧ monS T c.toNatClampNeg mum ∧ monK T mum
theorem undo_mon_loop {t vn : Int32} {T : Int} (hvn : 0 ≤ vn.toInt) : ∀ (n : Nat) (v : Int32) (mux mum : Nat → Nat → Int32), (0 ≤ (mum 0 8).toInt ∧ (mum 0 8).toInt ≤ 7) → (0 ≤ (mum 0 15).toInt ∧ (mum 0 15).toInt ≤ 4) → coreN (v + 1) mux mum → monN T (v + 1) mum → -1 ≤ v.toInt → v.toInt < 40 → vn.toInt ≤ v.toInt + 1 → (v.toInt + 1 - vn.toInt).toNat < n → mon T (L_qm_undo_28_0 t vn n v mum).2 := by
  intro n
  induction n with
  | zero => intro v mux mum _ _ _ _ _ _ _ h; exact absurd h (Nat.not_lt_zero _)
  | succ n ih =>
    intro v mux mum okb oks hC hM hv hv40 hle hn
    have av : (v + 1 : Int32).toInt = v.toInt + 1 := vp1 (by omega)
    have cv1 := tC_of (v := v + 1) (by omega)
    by_cases c : v.toInt < vn.toInt
    · rw [L_qm_undo_28_0, if_pos (vv_lt.mpr c)]
      simp only [letv_eq]
      generalize hv2 : va_up mum 0 (upd (mum 0) 17 vn) = nu
      have evn : v + 1 = vn := Int32.toInt_inj.mp (by omega)
      rw [evn] at hM
      obtain ⟨mp, ml, ms, mk⟩ := hM
      have n17 : nu 0 17 = vn := (up_v hv2).symm
      have nf : ∀ f : Nat, f ≠ 17 → nu 0 f = mum 0 f := fun f hf => up_f hv2 hf
      have nc : ∀ c : Nat, c ≠ 0 → nu c = mum c := fun c hc => up_k hv2 hc
      refine ⟨?_, ?_, ?_, ?_⟩
      · rw [nf 8 (by decide), nc 8 (by decide)]; exact mp
      · rw [nf 15 (by decide), nc 10 (by decide)]; exact ml
      · unfold monS
        rw [n17, nf 8 (by decide), nc 14 (by decide)]; exact ms
      · unfold monK
        rw [nf 8 (by decide), nc 15 (by decide)]; exact mk
    · have hv0 : 0 ≤ v.toInt := by omega
      have cv := tC_of hv0
      obtain ⟨⟨a1, a2, a3⟩, -⟩ := hC.2.2.2.2.2.2.1 v.toNatClampNeg (by omega)
      have ck := tC_of a2
      have ek : mum 14 (12 * v.toNatClampNeg) = nI (mum 14 (12 * v.toNatClampNeg)).toNatClampNeg := nI_at a2
      have k4 : (mum 14 (12 * v.toNatClampNeg)).toNatClampNeg < 4 := by omega
      obtain ⟨xi2, g1, m1, m2, m3, m5, m6, m7, m8, m9⟩ := um_m (t3 := t) (vn := vn) (v := v) (n := n) (S := v.toNatClampNeg) (K := (mum 14 (12 * v.toNatClampNeg)).toNatClampNeg) (mu := mum) (by omega) (by omega) c ek k4
      have st := undo_step (S := v.toNatClampNeg) (xi1 := F_sx_undoLast mux) okb oks hC (by omega) (by omega) ek k4 rfl m1 m2 m3 m5 m6 m7 m8 m9
      generalize (mum 14 (12 * v.toNatClampNeg)).toNatClampNeg = K at m3 m5 m6 m7 m8 m9 k4
      have m0 : xi2 0 = mum 0 := m1 0 (by decide) (by decide)
      obtain ⟨mp, ml, ms, mk⟩ := hM
      have cb := tC_of okb.1
      obtain ⟨sp, sa, sb⟩ := ms v.toNatClampNeg (by omega)
      have em : v + 1 - 1 = v + (-1) + 1 := v_pm hv hv40
      have b2 : (v + (-1) : Int32).toInt = v.toInt - 1 := vm1 (by omega)
      rw [em] at st
      rw [g1]
      generalize v + (-1) = w at st b2 ⊢
      clear em
      have aw : (w + 1 : Int32).toInt = w.toInt + 1 := vp1 (by omega)
      have cw := tC_of (v := w + 1) (by omega)
      have mN : monN T (w + 1) xi2 := by
        refine ⟨?_, ?_, ?_, ?_⟩
        · rw [m0]
          exact purM_of sp (fun z hz => m2 z (by omega))
        · rw [m0]
          intro q hq
          by_cases e : q = K
          · subst e
            rw [m6, m3 _ (Or.inl (by omega)), m3 _ (Or.inl (by omega)), m3 _ (Or.inl (by omega))]
            obtain ⟨-, r⟩ := ml q hq
            exact ⟨⟨sa, sb⟩, r⟩
          · rw [m3 _ (by omega), m3 _ (by omega), m3 _ (by omega), m3 _ (by omega)]
            exact ml q hq
        · unfold monS
          rw [m0, m1 14 (by decide) (by decide)]
          intro s hs
          exact ms s (by omega)
        · unfold monK
          rw [m0, m1 15 (by decide) (by decide)]
          exact mk
      exact ih w _ xi2 (by rw [m0]; exact okb) (by rw [m0]; exact oks) st mN (by omega) (by omega) (by omega) (by omega)
theorem undo_mon {n r2 : Int32} {mux mum xi2 : Nat → Nat → Int32} {T : Int} (okm : okR loM hiM mum) (hC : core mux mum) (hm : mon T mum) (h2 : (r2, xi2) = F_qm_undo mum n) : mon T xi2 := by
  have hled : 0 ≤ (mum 0 17).toInt ∧ (mum 0 17).toInt ≤ 40 := okm 0 17
  have z0 : (0 : Int32).toInt = 0 := rfl
  have z1 : (1 : Int32).toInt = 1 := rfl
  simp only [F_qm_undo, letv_eq] at h2
  by_cases cn : F_sm_in n 0 (mum 0 17) = 1
  · rw [if_pos cn] at h2
    have hn := fm_in.mp cn
    have a2 : (mum 0 17 - 1 : Int32).toInt = (mum 0 17).toInt - 1 := tI_sub rfl z1 (by omega) (by omega)
    have a3 : (mum 0 17 - 1 + 1 : Int32).toInt = (mum 0 17).toInt := by
      have := vp1 (v := mum 0 17 - 1) (by omega)
      omega
    have e3 : mum 0 17 - 1 + 1 = mum 0 17 := Int32.toInt_inj.mp a3
    have key := undo_mon_loop (t := mum 0 17 - n) (vn := n) (T := T) (by omega) 43 (mum 0 17 - 1) mux mum (okm 0 8) (okm 0 15) (by rw [e3]; exact hC) (by rw [e3]; exact hm) (by omega) (by omega) (by omega) (by omega)
    rw [p_snd h2] at key
    exact key
  · rw [if_neg cn] at h2
    rw [(Prod.mk.inj h2).2]
    exact hm

