-- ===== routes: cheapest, soonest, fake =====
theorem setRow_k {mu : Nat → Nat → Int32} {r i v : Int32} {k : Nat} (hk : k ≠ 3) : F_sm_setRow mu r i v k = mu k := by
  simp only [F_sm_setRow, letv_eq]
  exact up_ne hk
theorem rowL_k {vn vr : Int32} : ∀ (n : Nat) (i : Int32) (nu : Nat → Nat → Int32) (k : Nat), k ≠ 3 → (L_qm_row_34_0 vn vr n i nu).2 k = nu k := by
  intro n
  induction n with
  | zero => intro i nu k hk; rfl
  | succ n ih =>
    intro i nu k hk
    unfold L_qm_row_34_0
    by_cases c : i ≥ (40 : Int32)
    · rw [if_pos c]
    · rw [if_neg c]
      simp only [letv_eq]
      rw [ih _ _ k hk]
      exact setRow_k hk
theorem row_0 {mu : Nat → Nat → Int32} {vr vn : Int32} {f : Nat} (hf : f ≠ 0) : (F_qm_row mu vr vn).2 0 f = mu 0 f := by
  unfold F_qm_row
  by_cases c1 : F_sm_isRow vr = 1
  · rw [if_pos c1]
    by_cases c2 : vn ≤ (40 : Int32)
    · rw [if_pos c2]
      by_cases c3 : vn ≥ (0 : Int32)
      · rw [if_pos c3, letv_eq]
        rw [rowL_k 43 0 _ 0 (by decide)]
        rw [up_ne (show (0 : Nat) ≠ 2 by decide)]
      · rw [if_neg c3, letp_eq]
        exact fm_meet.2.2 f hf
    · rw [if_neg c2]
  · rw [if_neg c1]
theorem lay17_k {vn vr : Int32} : ∀ (n : Nat) (i : Int32) (nu : Nat → Nat → Int32) (k : Nat), k ≠ 3 → L_sm_layRoute17_10_0 vn vr n i nu k = nu k := by
  intro n
  induction n with
  | zero => intro i nu k hk; rfl
  | succ n ih =>
    intro i nu k hk
    unfold L_sm_layRoute17_10_0
    by_cases c : i ≥ vn
    · rw [if_pos c]
    · rw [if_neg c]
      simp only [letv_eq]
      rw [ih _ _ k hk]
      exact setRow_k hk
theorem lay18_k {vn vr : Int32} : ∀ (n : Nat) (i : Int32) (nu : Nat → Nat → Int32) (k : Nat), k ≠ 3 → L_sm_layRoute18_10_0 vn vr n i nu k = nu k := by
  intro n
  induction n with
  | zero => intro i nu k hk; rfl
  | succ n ih =>
    intro i nu k hk
    unfold L_sm_layRoute18_10_0
    by_cases c : i ≥ vn
    · rw [if_pos c]
    · rw [if_neg c]
      simp only [letv_eq]
      rw [ih _ _ k hk]
      exact setRow_k hk
theorem lay17_0 {mu : Nat → Nat → Int32} {vr vn : Int32} {f : Nat} (hf : f ≠ 0) : F_sm_layRoute17 mu vr vn 0 f = mu 0 f := by
  unfold F_sm_layRoute17
  rw [letp_eq, lay17_k 10 0 _ 0 (by decide)]
  exact row_0 hf
theorem lay18_0 {mu : Nat → Nat → Int32} {vr vn : Int32} {f : Nat} (hf : f ≠ 0) : F_sm_layRoute18 mu vr vn 0 f = mu 0 f := by
  unfold F_sm_layRoute18
  rw [letp_eq, lay18_k 10 0 _ 0 (by decide)]
  exact row_0 hf
theorem like57_k {mu : Nat → Nat → Int32} {r n : Int32} {c : Nat} (hr : r.toNatClampNeg < 6) (hc : 30 ≤ c) : F_sx_Row_beLike57 mu (8 + r.toNatClampNeg) n c = mu c := by
  unfold F_sx_Row_beLike57
  rw [letv_eq, letv_eq, up_ne (show c ≠ 8 + r.toNatClampNeg by omega), up_ne (show c ≠ 8 + r.toNatClampNeg + 13 by omega)]
theorem like58_k {mu : Nat → Nat → Int32} {r n : Int32} {c : Nat} (hr : r.toNatClampNeg < 6) (hc : 30 ≤ c) : F_sx_Row_beLike58 mu (8 + r.toNatClampNeg) n c = mu c := by
  unfold F_sx_Row_beLike58
  rw [letv_eq, letv_eq, up_ne (show c ≠ 8 + r.toNatClampNeg by omega), up_ne (show c ≠ 8 + r.toNatClampNeg + 13 by omega)]
theorem isRow_eq {r : Int32} : (F_sx_isRow r = 1 ∧ F_sm_isRow r = 1 ∧ 0 ≤ r.toInt ∧ r.toInt < 6) ∨ (¬ F_sx_isRow r = 1 ∧ ¬ F_sm_isRow r = 1) := by
  have n01 : ¬ (0 : Int32) = 1 := by decide
  have z : (0 : Int32).toInt = 0 := rfl
  have s : (6 : Int32).toInt = 6 := rfl
  have v : (5 : Int32).toInt = 5 := rfl
  unfold F_sx_isRow F_sm_isRow
  by_cases c : 0 ≤ r.toInt ∧ r.toInt < 6
  · refine Or.inl ⟨?_, ?_, c⟩
    · rw [if_neg (fun e => by have := vv_lt.mp e; omega), if_neg (fun e => by have := vv_ge.mp e; omega)]
    · rw [if_pos (fm_in.mpr (by omega))]
  · refine Or.inr ⟨?_, ?_⟩
    · by_cases c1 : r < (0 : Int32)
      · rw [if_pos c1]; exact n01
      · have c1' : ¬ r.toInt < (0 : Int32).toInt := fun e => c1 (vv_lt.mpr e)
        rw [if_neg c1, if_pos (vv_ge.mpr (by omega))]; exact n01
    · rw [if_neg (fun e => by have := fm_in.mp e; omega)]; exact n01
theorem refR1 {mux : Nat → Nat → Int32} {k : Int32} : F_sx_refusedRoute mux k 1 = (-1, mux) := by
  unfold F_sx_refusedRoute
  rw [fx_refL1, letp_eq, if_neg n1]
theorem cheapest_rel {T : Int} {k r r1 r2 : Int32} {mux mum xi1 xi2 : Nat → Nat → Int32} (hT : 0 ≤ T ∧ T ≤ 1000000) (okm : okR loM hiM mum) (hC : core mux mum) (hm : mon T mum) (h1 : (r1, xi1) = F_qx_cheapest mux k r) (h2 : (r2, xi2) = F_qm_cheapest mum k r) : r1 = r2 := by
  unfold F_qx_cheapest at h1
  unfold F_qm_cheapest at h2
  rcases isRow_eq (r := r) with ⟨w1, w2, w3⟩ | ⟨w1, w2⟩
  · have hcr := tC_of w3.1
    rw [if_pos w1] at h1
    rw [if_pos w2] at h2
    obtain ⟨a, x, ea, h1⟩ := letp_out h1
    obtain ⟨b, y, eb, h2⟩ := letp_out h2
    rcases asked_rel (k := k) hT okm hC hm with ⟨q, x1, x2, g, g1, g2⟩ | ⟨x2, g1, g2, c, s⟩
    · rw [g1] at ea
      rw [g2] at eb
      have qa : a = q := (Prod.mk.inj ea).1.symm
      have qb : b = q := (Prod.mk.inj eb).1.symm
      rw [qa, if_neg g] at h1
      rw [qb, if_neg g] at h2
      exact (Prod.mk.inj h1).1.trans (Prod.mk.inj h2).1.symm
    · rw [g1] at ea
      rw [g2] at eb
      have qa : a = 0 := (Prod.mk.inj ea).1.symm
      have qb : b = 0 := (Prod.mk.inj eb).1.symm
      have qy : y = x2 := (Prod.mk.inj eb).2.symm
      rw [if_pos qa] at h1
      rw [if_pos qb, qy] at h2
      simp only [letv_eq] at h1 h2
      rcases c.2.2 with ⟨t1, t2, t3⟩ | ⟨t1, t2, t3, t4⟩
      · rw [if_pos t1] at h1
        rw [if_pos t2] at h2
        exact (Prod.mk.inj h1).1.trans (Prod.mk.inj h2).1.symm
      · rw [if_neg t1, like57_k (c := 55) (by omega) (by decide)] at h1
        rw [if_neg t2, lay17_0 (f := 31) (by decide)] at h2
        rw [(Prod.mk.inj h1).1, (Prod.mk.inj h2).1]
        exact t3
  · rw [if_neg w1, refR1, letp_eq, if_neg n1] at h1
    rw [if_neg w2] at h2
    exact (Prod.mk.inj h1).1.trans (Prod.mk.inj h2).1.symm
theorem soonest_rel {T : Int} {k r r1 r2 : Int32} {mux mum xi1 xi2 : Nat → Nat → Int32} (hT : 0 ≤ T ∧ T ≤ 1000000) (okm : okR loM hiM mum) (hC : core mux mum) (hm : mon T mum) (h1 : (r1, xi1) = F_qx_soonest mux k r) (h2 : (r2, xi2) = F_qm_soonest mum k r) : r1 = r2 := by
  unfold F_qx_soonest at h1
  unfold F_qm_soonest at h2
  rw [letv_eq, letv_eq, letv_eq] at h2
  rcases isRow_eq (r := r) with ⟨w1, w2, w3⟩ | ⟨w1, w2⟩
  · have hcr := tC_of w3.1
    rw [if_pos w1] at h1
    rw [if_pos w2] at h2
    obtain ⟨a, x, ea, h1⟩ := letp_out h1
    obtain ⟨b, y, eb, h2⟩ := letp_out h2
    rcases asked_rel (k := k) hT okm hC hm with ⟨q, x1, x2, g, g1, g2⟩ | ⟨x2, g1, g2, c, s⟩
    · rw [g1] at ea
      rw [g2] at eb
      have qa : a = q := (Prod.mk.inj ea).1.symm
      have qb : b = q := (Prod.mk.inj eb).1.symm
      rw [qa, if_neg g] at h1
      rw [qb, if_neg g] at h2
      exact (Prod.mk.inj h1).1.trans (Prod.mk.inj h2).1.symm
    · rw [g1] at ea
      rw [g2] at eb
      have qa : a = 0 := (Prod.mk.inj ea).1.symm
      have qb : b = 0 := (Prod.mk.inj eb).1.symm
      have qy : y = x2 := (Prod.mk.inj eb).2.symm
      rw [if_pos qa] at h1
      rw [if_pos qb, qy] at h2
      simp only [letv_eq, letp_eq] at h1 h2
      rcases s.2.2.2 with ⟨t1, t2, t3, t4, t5⟩ | ⟨t1, t2, t3, t4, t5⟩
      · rw [if_pos t2] at h1
        rw [if_pos t1] at h2
        exact (Prod.mk.inj h1).1.trans (Prod.mk.inj h2).1.symm
      · rw [if_neg t2, up_ne (show (56 : Nat) ≠ 0 by decide), like58_k (c := 56) (by omega) (by decide)] at h1
        rw [if_neg t1, lay18_0 (f := 35) (by decide), fm_ask] at h2
        rw [(Prod.mk.inj h1).1, (Prod.mk.inj h2).1]
        have o : (1 : Int32).toInt = 1 := rfl
        have lo := tI_lo (F_sx_walkOf mux (61 + k.toNatClampNeg) 56 1)
        have hi := tI_hi (F_sx_walkOf mux (61 + k.toNatClampNeg) 56 1)
        have e := tI_sub (a := x2 0 35) (b := 1) rfl o (by omega) (by omega)
        exact Int32.toInt_inj.mp (by omega)
  · rw [if_neg w1, refR1, letp_eq, if_neg n1] at h1
    rw [if_neg w2] at h2
    exact (Prod.mk.inj h1).1.trans (Prod.mk.inj h2).1.symm

