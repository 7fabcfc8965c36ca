-- ===== keep and on: the reference's side =====
theorem lm_keep92 {t4 : Int32} {K : Nat} (ht : t4.toInt = 64 * (K : Int)) (hK : K < 3) : ∀ (n : Nat) (i : Int32) (nu : Nat → Nat → Int32), 0 ≤ i.toInt → i.toInt ≤ 40 → (40 - i.toInt).toNat < n → (L_qm_keep_92_1 t4 n i nu).1 = nu 0 14 ∧ ∀ k f : Nat, (L_qm_keep_92_1 t4 n i nu).2 k f = if k = 15 ∧ 64 * K + 10 + i.toNatClampNeg ≤ f ∧ f < 64 * K + 50 then nu 10 (f - (64 * K + 10)) else nu k f := by
  intro n
  induction n with
  | zero => intro i nu _ _ h; exact absurd h (Nat.not_lt_zero _)
  | succ n ih =>
    intro i nu h0 h4 hn
    have z40 : (40 : Int32).toInt = 40 := rfl
    have hc := tC_of h0
    rw [L_qm_keep_92_1]
    by_cases c : i ≥ (40 : Int32)
    · have c2 := vv_ge.mp c
      rw [if_pos c]
      simp only [letv_eq]
      refine ⟨trivial, fun k f => ?_⟩
      rw [if_neg (fun h => by omega)]
    · have c2 : ¬ (40 : Int32).toInt ≤ i.toInt := fun h => c (vv_ge.mpr h)
      rw [if_neg c]
      simp only [letv_eq]
      have ai : (i + 1 : Int32).toInt = i.toInt + 1 := tI_add rfl (rfl : (1 : Int32).toInt = 1) (by omega) (by omega)
      have hc1 := tC_of (v := i + 1) (by omega)
      have a1 : (t4 + 10 : Int32).toInt = 64 * (K : Int) + 10 := tI_add ht (rfl : (10 : Int32).toInt = 10) (by omega) (by omega)
      have a2 : (t4 + 10 + i : Int32).toInt = 64 * (K : Int) + 10 + i.toInt := tI_add a1 rfl (by omega) (by omega)
      have a3 := tC_of (v := t4 + 10 + i) (by omega)
      have a4 : (t4 + 10 + i : Int32).toNatClampNeg = 64 * K + 10 + i.toNatClampNeg := by omega
      rw [a4]
      generalize hv : va_up nu 15 (upd (nu 15) (64 * K + 10 + i.toNatClampNeg) (nu 10 i.toNatClampNeg)) = nu1
      obtain ⟨g1, g2⟩ := ih (i + 1) nu1 (by omega) (by omega) (by omega)
      have k10 : nu1 10 = nu 10 := up_k hv (by decide)
      refine ⟨g1.trans (congrFun (up_k hv (by decide)) 14), fun k f => ?_⟩
      rw [g2 k f, k10]
      by_cases e : k = 15 ∧ f = 64 * K + 10 + i.toNatClampNeg
      · obtain ⟨e, ef⟩ := e
        subst e ef
        rw [if_neg (fun h => by omega), if_pos ⟨rfl, by omega, by omega⟩, ← up_v hv, show 64 * K + 10 + i.toNatClampNeg - (64 * K + 10) = i.toNatClampNeg by omega]
      · have st : nu1 k f = nu k f := by
          by_cases ek : k = 15
          · subst ek
            exact up_f hv (fun h => e ⟨rfl, h⟩)
          · exact congrFun (up_k hv ek) f
        rw [st]
        by_cases c5 : k = 15 ∧ 64 * K + 10 + i.toNatClampNeg ≤ f ∧ f < 64 * K + 50
        · rw [if_pos (by omega), if_pos c5]
        · rw [if_neg (by omega), if_neg c5]
theorem lm_keep62 {t4 : Int32} {K : Nat} (ht : t4.toInt = 64 * (K : Int)) (hK : K < 3) : ∀ (n : Nat) (i : Int32) (nu : Nat → Nat → Int32), 0 ≤ i.toInt → i.toInt ≤ 7 → (7 - i.toInt).toNat < n → (L_qm_keep_62_0 t4 n i nu).1 = nu 0 14 ∧ ∀ k f : Nat, (L_qm_keep_62_0 t4 n i nu).2 k f = if k = 15 ∧ 64 * K + 10 ≤ f ∧ f < 64 * K + 50 then nu 10 (f - (64 * K + 10)) else if k = 15 ∧ 64 * K + 3 + i.toNatClampNeg ≤ f ∧ f < 64 * K + 10 then nu 8 (f - (64 * K + 3)) else nu k f := by
  intro n
  induction n with
  | zero => intro i nu _ _ h; exact absurd h (Nat.not_lt_zero _)
  | succ n ih =>
    intro i nu h0 h4 hn
    have z7 : (7 : Int32).toInt = 7 := rfl
    have z0 : (0 : Int32).toNatClampNeg = 0 := rfl
    have hc := tC_of h0
    rw [L_qm_keep_62_0]
    by_cases c : i ≥ (7 : Int32)
    · have c2 := vv_ge.mp c
      rw [if_pos c]
      obtain ⟨g1, g2⟩ := lm_keep92 ht hK 43 0 nu (by decide) (by decide) (by decide)
      refine ⟨g1, fun k f => ?_⟩
      rw [g2 k f, z0, Nat.add_zero]
      by_cases c5 : k = 15 ∧ 64 * K + 10 ≤ f ∧ f < 64 * K + 50
      · rw [if_pos c5, if_pos c5]
      · rw [if_neg c5, if_neg c5, if_neg (fun h => by omega)]
    · have c2 : ¬ (7 : Int32).toInt ≤ i.toInt := fun h => c (vv_ge.mpr h)
      rw [if_neg c]
      simp only [letv_eq]
      have ai : (i + 1 : Int32).toInt = i.toInt + 1 := tI_add rfl (rfl : (1 : Int32).toInt = 1) (by omega) (by omega)
      have hc1 := tC_of (v := i + 1) (by omega)
      have a1 : (t4 + 3 : Int32).toInt = 64 * (K : Int) + 3 := tI_add ht (rfl : (3 : Int32).toInt = 3) (by omega) (by omega)
      have a2 : (t4 + 3 + i : Int32).toInt = 64 * (K : Int) + 3 + i.toInt := tI_add a1 rfl (by omega) (by omega)
      have a3 := tC_of (v := t4 + 3 + i) (by omega)
      have a4 : (t4 + 3 + i : Int32).toNatClampNeg = 64 * K + 3 + i.toNatClampNeg := by omega
      rw [a4]
      generalize hv : va_up nu 15 (upd (nu 15) (64 * K + 3 + i.toNatClampNeg) (nu 8 i.toNatClampNeg)) = nu1
      obtain ⟨g1, g2⟩ := ih (i + 1) nu1 (by omega) (by omega) (by omega)
      have k10 : nu1 10 = nu 10 := up_k hv (by decide)
      have k8 : nu1 8 = nu 8 := up_k hv (by decide)
      refine ⟨g1.trans (congrFun (up_k hv (by decide)) 14), fun k f => ?_⟩
      rw [g2 k f, k10, k8]
      by_cases c6 : k = 15 ∧ 64 * K + 10 ≤ f ∧ f < 64 * K + 50
      · rw [if_pos c6, if_pos c6]
      · rw [if_neg c6, if_neg c6]
        by_cases e : k = 15 ∧ f = 64 * K + 3 + i.toNatClampNeg
        · obtain ⟨e, ef⟩ := e
          subst e ef
          rw [if_neg (fun h => by omega), if_pos ⟨rfl, by omega, by omega⟩, ← up_v hv, show 64 * K + 3 + i.toNatClampNeg - (64 * K + 3) = i.toNatClampNeg by omega]
        · have st : nu1 k f = nu k f := by
            by_cases ek : k = 15
            · subst ek
              exact up_f hv (fun h => e ⟨rfl, h⟩)
            · exact congrFun (up_k hv ek) f
          rw [st]
          by_cases c5 : k = 15 ∧ 64 * K + 3 + i.toNatClampNeg ≤ f ∧ f < 64 * K + 10
          · rw [if_pos (by omega), if_pos c5]
          · rw [if_neg (by omega), if_neg c5]
theorem lm_on99 {t4 : Int32} {K : Nat} (ht : t4.toInt = 64 * (K : Int)) (hK : K < 3) : ∀ (n : Nat) (i : Int32) (nu : Nat → Nat → Int32), 0 ≤ i.toInt → i.toInt ≤ 40 → (40 - i.toInt).toNat < n → (L_qm_on_99_1 t4 n i nu).1 = nu 0 14 ∧ ∀ k f : Nat, (L_qm_on_99_1 t4 n i nu).2 k f = if k = 10 ∧ i.toNatClampNeg ≤ f ∧ f < 40 then nu 15 (64 * K + 10 + f) else if k = 0 ∧ f = 17 then 0 else nu k f := by
  intro n
  induction n with
  | zero => intro i nu _ _ h; exact absurd h (Nat.not_lt_zero _)
  | succ n ih =>
    intro i nu h0 h4 hn
    have z40 : (40 : Int32).toInt = 40 := rfl
    have hc := tC_of h0
    rw [L_qm_on_99_1]
    by_cases c : i ≥ (40 : Int32)
    · have c2 := vv_ge.mp c
      rw [if_pos c]
      simp only [letv_eq]
      generalize hv : va_up nu 0 (upd (nu 0) 17 0) = nu1
      refine ⟨up_f hv (by decide), fun k f => ?_⟩
      rw [if_neg (fun h => by omega)]
      by_cases e : k = 0 ∧ f = 17
      · rw [if_pos e]
        obtain ⟨e, ef⟩ := e
        subst e ef
        exact (up_v hv).symm
      · rw [if_neg e]
        by_cases ek : k = 0
        · subst ek
          exact up_f hv (fun h => e ⟨rfl, h⟩)
        · exact congrFun (up_k hv ek) f
    · have c2 : ¬ (40 : Int32).toInt ≤ i.toInt := fun h => c (vv_ge.mpr h)
      rw [if_neg c]
      simp only [letv_eq]
      have ai : (i + 1 : Int32).toInt = i.toInt + 1 := tI_add rfl (rfl : (1 : Int32).toInt = 1) (by omega) (by omega)
      have hc1 := tC_of (v := i + 1) (by omega)
      have a1 : (t4 + 10 : Int32).toInt = 64 * (K : Int) + 10 := tI_add ht (rfl : (10 : Int32).toInt = 10) (by omega) (by omega)
      have a2 : (t4 + 10 + i : Int32).toInt = 64 * (K : Int) + 10 + i.toInt := tI_add a1 rfl (by omega) (by omega)
      have a3 := tC_of (v := t4 + 10 + i) (by omega)
      have a4 : (t4 + 10 + i : Int32).toNatClampNeg = 64 * K + 10 + i.toNatClampNeg := by omega
      rw [a4]
      generalize hv : va_up nu 10 (upd (nu 10) i.toNatClampNeg (nu 15 (64 * K + 10 + i.toNatClampNeg))) = nu1
      obtain ⟨g1, g2⟩ := ih (i + 1) nu1 (by omega) (by omega) (by omega)
      have k15 : nu1 15 = nu 15 := up_k hv (by decide)
      refine ⟨g1.trans (congrFun (up_k hv (by decide)) 14), fun k f => ?_⟩
      rw [g2 k f, k15]
      by_cases e : k = 10 ∧ f = i.toNatClampNeg
      · obtain ⟨e, ef⟩ := e
        subst e ef
        rw [if_neg (fun h => by omega), if_neg (fun h => by omega), if_pos ⟨rfl, by omega, by omega⟩, ← up_v hv]
      · have st : nu1 k f = nu k f := by
          by_cases ek : k = 10
          · subst ek
            exact up_f hv (fun h => e ⟨rfl, h⟩)
          · exact congrFun (up_k hv ek) f
        rw [st]
        by_cases c5 : k = 10 ∧ i.toNatClampNeg ≤ f ∧ f < 40
        · rw [if_pos (by omega), if_pos c5]
        · rw [if_neg (by omega), if_neg c5]
theorem lm_on69 {t4 : Int32} {K : Nat} (ht : t4.toInt = 64 * (K : Int)) (hK : K < 3) : ∀ (n : Nat) (i : Int32) (nu : Nat → Nat → Int32), 0 ≤ i.toInt → i.toInt ≤ 7 → (7 - i.toInt).toNat < n → (L_qm_on_69_0 t4 n i nu).1 = nu 0 14 ∧ ∀ k f : Nat, (L_qm_on_69_0 t4 n i nu).2 k f = if k = 10 ∧ f < 40 then nu 15 (64 * K + 10 + f) else if k = 0 ∧ f = 17 then 0 else if k = 8 ∧ i.toNatClampNeg ≤ f ∧ f < 7 then nu 15 (64 * K + 3 + f) else nu k f := by
  intro n
  induction n with
  | zero => intro i nu _ _ h; exact absurd h (Nat.not_lt_zero _)
  | succ n ih =>
    intro i nu h0 h4 hn
    have z7 : (7 : Int32).toInt = 7 := rfl
    have z0 : (0 : Int32).toNatClampNeg = 0 := rfl
    have hc := tC_of h0
    rw [L_qm_on_69_0]
    by_cases c : i ≥ (7 : Int32)
    · have c2 := vv_ge.mp c
      rw [if_pos c]
      obtain ⟨g1, g2⟩ := lm_on99 ht hK 43 0 nu (by decide) (by decide) (by decide)
      refine ⟨g1, fun k f => ?_⟩
      rw [g2 k f, z0]
      by_cases c5 : k = 10 ∧ f < 40
      · rw [if_pos ⟨c5.1, Nat.zero_le _, c5.2⟩, if_pos c5]
      · rw [if_neg (fun h => c5 ⟨h.1, h.2.2⟩), if_neg c5]
        by_cases c6 : k = 0 ∧ f = 17
        · rw [if_pos c6, if_pos c6]
        · rw [if_neg c6, if_neg c6, if_neg (fun h => by omega)]
    · have c2 : ¬ (7 : Int32).toInt ≤ i.toInt := fun h => c (vv_ge.mpr h)
      rw [if_neg c]
      simp only [letv_eq]
      have ai : (i + 1 : Int32).toInt = i.toInt + 1 := tI_add rfl (rfl : (1 : Int32).toInt = 1) (by omega) (by omega)
      have hc1 := tC_of (v := i + 1) (by omega)
      have a1 : (t4 + 3 : Int32).toInt = 64 * (K : Int) + 3 := tI_add ht (rfl : (3 : Int32).toInt = 3) (by omega) (by omega)
      have a2 : (t4 + 3 + i : Int32).toInt = 64 * (K : Int) + 3 + i.toInt := tI_add a1 rfl (by omega) (by omega)
      have a3 := tC_of (v := t4 + 3 + i) (by omega)
      have a4 : (t4 + 3 + i : Int32).toNatClampNeg = 64 * K + 3 + i.toNatClampNeg := by omega
      rw [a4]
      generalize hv : va_up nu 8 (upd (nu 8) i.toNatClampNeg (nu 15 (64 * K + 3 + i.toNatClampNeg))) = nu1
      obtain ⟨g1, g2⟩ := ih (i + 1) nu1 (by omega) (by omega) (by omega)
      have k15 : nu1 15 = nu 15 := up_k hv (by decide)
      refine ⟨g1.trans (congrFun (up_k hv (by decide)) 14), fun k f => ?_⟩
      rw [g2 k f, k15]
      by_cases c6 : k = 10 ∧ f < 40
      · rw [if_pos c6, if_pos c6]
      · rw [if_neg c6, if_neg c6]
        by_cases c7 : k = 0 ∧ f = 17
        · rw [if_pos c7, if_pos c7]
        · rw [if_neg c7, if_neg c7]
          by_cases e : k = 8 ∧ f = i.toNatClampNeg
          · obtain ⟨e, ef⟩ := e
            subst e ef
            rw [if_neg (fun h => by omega), if_pos ⟨rfl, by omega, by omega⟩, ← up_v hv]
          · have st : nu1 k f = nu k f := by
              by_cases ek : k = 8
              · subst ek
                exact up_f hv (fun h => e ⟨rfl, h⟩)
              · exact congrFun (up_k hv ek) f
            rw [st]
            by_cases c5 : k = 8 ∧ i.toNatClampNeg ≤ f ∧ f < 7
            · rw [if_pos (by omega), if_pos c5]
            · rw [if_neg (by omega), if_neg c5]
/-- keep: what the reference answers, and what it leaves -/
theorem fm_keep {mum : Nat → Nat → Int32} {v : Int32} (hv : 0 ≤ v.toInt ∧ v.toInt ≤ 2) (hb : ¬ mum 0 8 = 0) : (F_qm_keep mum v).1 = mum 0 14 ∧ ∀ k f : Nat, (F_qm_keep mum v).2 k f = if k = 15 ∧ 64 * v.toNatClampNeg + 10 ≤ f ∧ f < 64 * v.toNatClampNeg + 50 then mum 10 (f - (64 * v.toNatClampNeg + 10)) else if k = 15 ∧ 64 * v.toNatClampNeg + 3 ≤ f ∧ f < 64 * v.toNatClampNeg + 10 then mum 8 (f - (64 * v.toNatClampNeg + 3)) else if k = 15 ∧ f = 64 * v.toNatClampNeg then mum 0 14 else if k = 15 ∧ f = 64 * v.toNatClampNeg + 1 then mum 0 13 else if k = 15 ∧ f = 64 * v.toNatClampNeg + 2 then mum 0 15 else mum k f := by
  have z0 : (0 : Int32).toInt = 0 := rfl
  have z00 : (0 : Int32).toNatClampNeg = 0 := rfl
  have z2 : (2 : Int32).toInt = 2 := rfl
  have hc := tC_of hv.1
  have a0 : (64 * v : Int32).toInt = 64 * (v.toNatClampNeg : Int) := by rw [hc]; exact tI_mul (rfl : (64 : Int32).toInt = 64) rfl (by omega) (by omega)
  have a1 : (64 * v + 1 : Int32).toInt = 64 * (v.toNatClampNeg : Int) + 1 := tI_add a0 (rfl : (1 : Int32).toInt = 1) (by omega) (by omega)
  have a2 : (64 * v + 2 : Int32).toInt = 64 * (v.toNatClampNeg : Int) + 2 := tI_add a0 (rfl : (2 : Int32).toInt = 2) (by omega) (by omega)
  have b0 := tC_of (v := 64 * v) (by omega)
  have b1 := tC_of (v := 64 * v + 1) (by omega)
  have b2 := tC_of (v := 64 * v + 2) (by omega)
  have c0 : (64 * v : Int32).toNatClampNeg = 64 * v.toNatClampNeg := by omega
  have c1 : (64 * v + 1 : Int32).toNatClampNeg = 64 * v.toNatClampNeg + 1 := by omega
  have c2 : (64 * v + 2 : Int32).toNatClampNeg = 64 * v.toNatClampNeg + 2 := by omega
  unfold F_qm_keep
  rw [if_pos (fm_in.mpr ⟨by omega, by omega⟩)]
  simp only [letv_eq]
  rw [if_neg hb, c0, c1, c2]
  generalize h1 : va_up mum 15 (upd (mum 15) (64 * v.toNatClampNeg) (mum 0 14)) = n1
  rw [show n1 0 13 = mum 0 13 from congrFun (up_k h1 (by decide)) 13]
  generalize h2 : va_up n1 15 (upd (n1 15) (64 * v.toNatClampNeg + 1) (mum 0 13)) = n2
  rw [show n2 0 15 = mum 0 15 from congrFun ((up_k h2 (by decide)).trans (up_k h1 (by decide))) 15]
  generalize h3 : va_up n2 15 (upd (n2 15) (64 * v.toNatClampNeg + 2) (mum 0 15)) = n3
  have nk : ∀ k : Nat, k ≠ 15 → n3 k = mum k := fun k h => (up_k h3 h).trans ((up_k h2 h).trans (up_k h1 h))
  obtain ⟨g1, g2⟩ := lm_keep62 (t4 := 64 * v) (K := v.toNatClampNeg) a0 (by omega) 10 0 n3 (by decide) (by decide) (by decide)
  refine ⟨g1.trans (congrFun (nk 0 (by decide)) 14), fun k f => ?_⟩
  rw [g2 k f, nk 10 (by decide), nk 8 (by decide), z00, Nat.add_zero]
  by_cases d1 : k = 15 ∧ 64 * v.toNatClampNeg + 10 ≤ f ∧ f < 64 * v.toNatClampNeg + 50
  · rw [if_pos d1, if_pos d1]
  · rw [if_neg d1, if_neg d1]
    by_cases d2 : k = 15 ∧ 64 * v.toNatClampNeg + 3 ≤ f ∧ f < 64 * v.toNatClampNeg + 10
    · rw [if_pos d2, if_pos d2]
    · rw [if_neg d2, if_neg d2]
      by_cases e : k = 15
      · subst e
        by_cases e0 : f = 64 * v.toNatClampNeg
        · rw [if_pos ⟨rfl, e0⟩]
          subst e0
          exact (up_f h3 (by omega)).trans ((up_f h2 (by omega)).trans (up_v h1).symm)
        · rw [if_neg (fun h => e0 h.2)]
          by_cases e1 : f = 64 * v.toNatClampNeg + 1
          · rw [if_pos ⟨rfl, e1⟩]
            subst e1
            exact (up_f h3 (by omega)).trans (up_v h2).symm
          · rw [if_neg (fun h => e1 h.2)]
            by_cases e2 : f = 64 * v.toNatClampNeg + 2
            · rw [if_pos ⟨rfl, e2⟩]
              subst e2
              exact (up_v h3).symm
            · rw [if_neg (fun h => e2 h.2)]
              exact (up_f h3 e2).trans ((up_f h2 e1).trans (up_f h1 e0))
      · rw [if_neg (fun h => e h.1), if_neg (fun h => e h.1), if_neg (fun h => e h.1)]
        exact congrFun (nk k e) f
/-- on: what the reference answers, and what it leaves -/
theorem fm_on {mum : Nat → Nat → Int32} {v : Int32} (hv : 0 ≤ v.toInt ∧ v.toInt ≤ 2) (hb : ¬ mum 15 (64 * v.toNatClampNeg) = -9) : (F_qm_on mum v).1 = mum 15 (64 * v.toNatClampNeg) ∧ ∀ k f : Nat, (F_qm_on mum v).2 k f = if k = 10 ∧ f < 40 then mum 15 (64 * v.toNatClampNeg + 10 + f) else if k = 0 ∧ f = 17 then 0 else if k = 8 ∧ f < 7 then mum 15 (64 * v.toNatClampNeg + 3 + f) else if k = 0 ∧ f = 14 then mum 15 (64 * v.toNatClampNeg) else if k = 0 ∧ f = 13 then mum 15 (64 * v.toNatClampNeg + 1) else if k = 0 ∧ f = 15 then mum 15 (64 * v.toNatClampNeg + 2) else mum k f := by
  have z0 : (0 : Int32).toInt = 0 := rfl
  have z00 : (0 : Int32).toNatClampNeg = 0 := rfl
  have z2 : (2 : Int32).toInt = 2 := rfl
  have hc := tC_of hv.1
  have a0 : (64 * v : Int32).toInt = 64 * (v.toNatClampNeg : Int) := by rw [hc]; exact tI_mul (rfl : (64 : Int32).toInt = 64) rfl (by omega) (by omega)
  have a1 : (64 * v + 1 : Int32).toInt = 64 * (v.toNatClampNeg : Int) + 1 := tI_add a0 (rfl : (1 : Int32).toInt = 1) (by omega) (by omega)
  have a2 : (64 * v + 2 : Int32).toInt = 64 * (v.toNatClampNeg : Int) + 2 := tI_add a0 (rfl : (2 : Int32).toInt = 2) (by omega) (by omega)
  have b0 := tC_of (v := 64 * v) (by omega)
  have b1 := tC_of (v := 64 * v + 1) (by omega)
  have b2 := tC_of (v := 64 * v + 2) (by omega)
  have c0 : (64 * v : Int32).toNatClampNeg = 64 * v.toNatClampNeg := by omega
  have c1 : (64 * v + 1 : Int32).toNatClampNeg = 64 * v.toNatClampNeg + 1 := by omega
  have c2 : (64 * v + 2 : Int32).toNatClampNeg = 64 * v.toNatClampNeg + 2 := by omega
  unfold F_qm_on
  rw [if_pos (fm_in.mpr ⟨by omega, by omega⟩)]
  simp only [letv_eq]
  rw [c0, if_neg hb, c1, c2]
  generalize h1 : va_up mum 0 (upd (mum 0) 14 (mum 15 (64 * v.toNatClampNeg))) = n1
  rw [show n1 15 (64 * v.toNatClampNeg + 1) = mum 15 (64 * v.toNatClampNeg + 1) from congrFun (up_k h1 (by decide)) _]
  generalize h2 : va_up n1 0 (upd (n1 0) 13 (mum 15 (64 * v.toNatClampNeg + 1))) = n2
  rw [show n2 15 (64 * v.toNatClampNeg + 2) = mum 15 (64 * v.toNatClampNeg + 2) from congrFun ((up_k h2 (by decide)).trans (up_k h1 (by decide))) _]
  generalize h3 : va_up n2 0 (upd (n2 0) 15 (mum 15 (64 * v.toNatClampNeg + 2))) = n3
  have nk : ∀ k : Nat, k ≠ 0 → n3 k = mum k := fun k h => (up_k h3 h).trans ((up_k h2 h).trans (up_k h1 h))
  have n14 : n3 0 14 = mum 15 (64 * v.toNatClampNeg) := (up_f h3 (by decide)).trans ((up_f h2 (by decide)).trans (up_v h1).symm)
  obtain ⟨g1, g2⟩ := lm_on69 (t4 := 64 * v) (K := v.toNatClampNeg) a0 (by omega) 10 0 n3 (by decide) (by decide) (by decide)
  refine ⟨g1.trans n14, fun k f => ?_⟩
  rw [g2 k f, nk 15 (by decide), z00]
  by_cases d1 : k = 10 ∧ f < 40
  · rw [if_pos d1, if_pos d1]
  · rw [if_neg d1, if_neg d1]
    by_cases d2 : k = 0 ∧ f = 17
    · rw [if_pos d2, if_pos d2]
    · rw [if_neg d2, if_neg d2]
      by_cases d3 : k = 8 ∧ f < 7
      · rw [if_pos ⟨d3.1, Nat.zero_le _, d3.2⟩, if_pos d3]
      · rw [if_neg (fun h => d3 ⟨h.1, h.2.2⟩), if_neg d3]
        by_cases e : k = 0
        · subst e
          by_cases e0 : f = 14
          · rw [if_pos ⟨rfl, e0⟩]
            subst e0
            exact n14
          · rw [if_neg (fun h => e0 h.2)]
            by_cases e1 : f = 13
            · rw [if_pos ⟨rfl, e1⟩]
              subst e1
              exact (up_f h3 (by decide)).trans (up_v h2).symm
            · rw [if_neg (fun h => e1 h.2)]
              by_cases e2 : f = 15
              · rw [if_pos ⟨rfl, e2⟩]
                subst e2
                exact (up_v h3).symm
              · rw [if_neg (fun h => e2 h.2)]
                exact (up_f h3 e2).trans ((up_f h2 e1).trans (up_f h1 e0))
        · rw [if_neg (fun h => e h.1), if_neg (fun h => e h.1), if_neg (fun h => e h.1)]
          exact congrFun (nk k e) f

