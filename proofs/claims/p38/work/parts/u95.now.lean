-- ===== keep and on: the reference's side =====
theorem lm_keep92 {t4 : Int32} {K : Nat} (ht : t4.toInt = 64 * (K : Int)) (hK : K < 3) : ∀ (n : Nat) (i : Int32) (nu : Nat → Nat → Int32), 0 ≤ i.toInt → i.toInt ≤ 40 → (40 - i.toInt).toNat < n → (L_qm_keep_92_1 t4 n i nu).1 = nu 0 14 ∧ ∀ k f : Nat, (L_qm_keep_92_1 t4 n i nu).2 k f = if k = 15 ∧ 64 * K + 10 + i.toNatClampNeg ≤ f ∧ f < 64 * K + 50 then nu 10 (f - (64 * K + 10)) else nu k f := by
  intro n
  induction n with
  | zero => intro i nu _ _ h; exact absurd h (Nat.not_lt_zero _)
  | succ n ih =>
    intro i nu h0 h4 hn
    have z40 : (40 : Int32).toInt = 40 := rfl
    have hc := tC_of h0
    rw [L_qm_keep_92_1]
    by_cases c : i ≥ (40 : Int32)
    · have c2 := vv_ge.mp c
      rw [if_pos c]
      simp only [letv_eq]
      refine ⟨trivial, fun k f => ?_⟩
      rw [if_neg (fun h => by omega)]
    · have c2 : ¬ (40 : Int32).toInt ≤ i.toInt := fun h => c (vv_ge.mpr h)
      rw [if_neg c]
      simp only [letv_eq]
      have ai : (i + 1 : Int32).toInt = i.toInt + 1 := tI_add rfl (rfl : (1 : Int32).toInt = 1) (by omega) (by omega)
      have hc1 := tC_of (v := i + 1) (by omega)
      have a1 : (t4 + 10 : Int32).toInt = 64 * (K : Int) + 10 := tI_add ht (rfl : (10 : Int32).toInt = 10) (by omega) (by omega)
      have a2 : (t4 + 10 + i : Int32).toInt = 64 * (K : Int) + 10 + i.toInt := tI_add a1 rfl (by omega) (by omega)
      have a3 := tC_of (v := t4 + 10 + i) (by omega)
      have a4 : (t4 + 10 + i : Int32).toNatClampNeg = 64 * K + 10 + i.toNatClampNeg := by omega
      rw [a4]
      generalize hv : va_up nu 15 (upd (nu 15) (64 * K + 10 + i.toNatClampNeg) (nu 10 i.toNatClampNeg)) = nu1
      obtain ⟨g1, g2⟩ := ih (i + 1) nu1 (by omega) (by omega) (by omega)
      have k10 : nu1 10 = nu 10 := up_k hv (by decide)
      refine ⟨g1.trans (congrFun (up_k hv (by decide)) 14), fun k f => ?_⟩
      rw [g2 k f, k10]
      by_cases e : k = 15 ∧ f = 64 * K + 10 + i.toNatClampNeg
      · obtain ⟨e, ef⟩ := e
        subst e ef
        rw [if_neg (fun h => by omega), if_pos ⟨rfl, by omega, by omega⟩, ← up_v hv, show 64 * K + 10 + i.toNatClampNeg - (64 * K + 10) = i.toNatClampNeg by omega]
      · have st : nu1 k f = nu k f := by
          by_cases ek : k = 15
          · subst ek
            exact up_f hv (fun h => e ⟨rfl, h⟩)
          · exact congrFun (up_k hv ek) f
        rw [st]
        by_cases c5 : k = 15 ∧ 64 * K + 10 + i.toNatClampNeg ≤ f ∧ f < 64 * K + 50
        · rw [if_pos (by omega), if_pos c5]
        · rw [if_neg (by omega), if_neg c5]
theorem lm_keep62 {t4 : Int32} {K : Nat} (ht : t4.toInt = 64 * (K : Int)) (hK : K < 3) : ∀ (n : Nat) (i : Int32) (nu : Nat → Nat → Int32), 0 ≤ i.toInt → i.toInt ≤ 7 → (7 - i.toInt).toNat < n → (L_qm_keep_62_0 t4 n i nu).1 = nu 0 14 ∧ ∀ k f : Nat, (L_qm_keep_62_0 t4 n i nu).2 k f = if k = 15 ∧ 64 * K + 10 ≤ f ∧ f < 64 * K + 50 then nu 10 (f - (64 * K + 10)) else if k = 15 ∧ 64 * K + 3 + i.toNatClampNeg ≤ f ∧ f < 64 * K + 10 then nu 8 (f - (64 * K + 3)) else nu k f := by
  intro n
  induction n with
  | zero => intro i nu _ _ h; exact absurd h (Nat.not_lt_zero _)
  | succ n ih =>
    intro i nu h0 h4 hn
    have z7 : (7 : Int32).toInt = 7 := rfl
    have z0 : (0 : Int32).toNatClampNeg = 0 := rfl
    have hc := tC_of h0
    rw [L_qm_keep_62_0]
    by_cases c : i ≥ (7 : Int32)
    · have c2 := vv_ge.mp c
      rw [if_pos c]
      obtain ⟨g1, g2⟩ := lm_keep92 ht hK 43 0 nu (by decide) (by decide) (by decide)
      refine ⟨g1, fun k f => ?_⟩
      rw [g2 k f, z0, Nat.add_zero]
      by_cases c5 : k = 15 ∧ 64 * K + 10 ≤ f ∧ f < 64 * K + 50
      · rw [if_pos c5, if_pos c5]
      · rw [if_neg c5, if_neg c5, if_neg (fun h => by omega)]
    · have c2 : ¬ (7 : Int32).toInt ≤ i.toInt := fun h => c (vv_ge.mpr h)
      rw [if_neg c]
      simp only [letv_eq]
      have ai : (i + 1 : Int32).toInt = i.toInt + 1 := tI_add rfl (rfl : (1 : Int32).toInt = 1) (by omega) (by omega)
      have hc1 := tC_of (v := i + 1) (by omega)
      have a1 : (t4 + 3 : Int32).toInt = 64 * (K : Int) + 3 := tI_add ht (rfl : (3 : Int32).toInt = 3) (by omega) (by omega)
      have a2 : (t4 + 3 + i : Int32).toInt = 64 * (K : Int) + 3 + i.toInt := tI_add a1 rfl (by omega) (by omega)
      have a3 := tC_of (v := t4 + 3 + i) (by omega)
      have a4 : (t4 + 3 + i : Int32).toNatClampNeg = 64 * K + 3 + i.toNatClampNeg := by omega
      rw [a4]
      generalize hv : va_up nu 15 (upd (nu 15) (64 * K + 3 + i.toNatClampNeg) (nu 8 i.toNatClampNeg)) = nu1
      obtain ⟨g1, g2⟩ := ih (i + 1) nu1 (by omega) (by omega) (by omega)
      have k10 : nu1 10 = nu 10 := up_k hv (by decide)
      have k8 : nu1 8 = nu 8 := up_k hv (by decide)
      refine ⟨g1.trans (congrFun (up_k hv (by decide)) 14), fun k f => ?_⟩
      rw [g2 k f, k10, k8]
      by_cases c6 : k = 15 ∧ 64 * K + 10 ≤ f ∧ f < 64 * K + 50
      · rw [if_pos c6, if_pos c6]
      · rw [if_neg c6, if_neg c6]
        by_cases e : k = 15 ∧ f = 64 * K + 3 + i.toNatClampNeg
        · obtain ⟨e, ef⟩ := e
          subst e ef
          rw [if_neg (fun h => by omega), if_pos ⟨rfl, by omega, by omega⟩, ← up_v hv, show 64 * K + 3 + i.toNatClampNeg - (64 * K + 3) = i.toNatClampNeg by omega]
        · have st : nu1 k f = nu k f := by
            by_cases ek : k = 15
            · subst ek
              exact up_f hv (fun h => e ⟨rfl, h⟩)
            · exact congrFun (up_k hv ek) f
          rw [st]
          by_cases c5 : k = 15 ∧ 64 * K + 3 + i.toNatClampNeg ≤ f ∧ f < 64 * K + 10
          · rw [if_pos (by omega), if_pos c5]
          · rw [if_neg (by omega), if_neg c5]
theorem lm_on99 {t4 : Int32} {K : Nat} (ht : t4.toInt = 64 * (K : Int)) (hK : K < 3) : ∀ (n : Nat) (i : Int32) (nu : Nat → Nat → Int32), 0 ≤ i.toInt → i.toInt ≤ 40 → (40 - i.toInt).toNat < n → (L_qm_on_99_1 t4 n i nu).1 = nu 0 14 ∧ ∀ k f : Nat, (L_qm_on_99_1 t4 n i nu).2 k f = if k = 10 ∧ i.toNatClampNeg ≤ f ∧ f < 40 then nu 15 (64 * K + 10 + f) else if k = 0 ∧ f = 17 then 0 else nu k f := by
  intro n
  induction n with
  | zero => intro i nu _ _ h; exact absurd h (Nat.not_lt_zero _)
  | succ n ih =>
    intro i nu h0 h4 hn
    have z40 : (40 : Int32).toInt = 40 := rfl
    have hc := tC_of h0
    rw [L_qm_on_99_1]
    by_cases c : i ≥ (40 : Int32)
    · have c2 := vv_ge.mp c
      rw [if_pos c]
      simp only [letv_eq]
      generalize hv : va_up nu 0 (upd (nu 0) 17 0) = nu1
      refine ⟨up_f hv (by decide), fun k f => ?_⟩
      rw [if_neg (fun h => by omega)]
      by_cases e : k = 0 ∧ f = 17
      · rw [if_pos e]
        obtain ⟨e, ef⟩ := e
        subst e ef
        exact (up_v hv).symm
      · rw [if_neg e]
        by_cases ek : k = 0
        · subst ek
          exact up_f hv (fun h => e ⟨rfl, h⟩)
        · exact congrFun (up_k hv ek) f
    · have c2 : ¬ (40 : Int32).toInt ≤ i.toInt := fun h => c (vv_ge.mpr h)
      rw [if_neg c]
      simp only [letv_eq]
      have ai : (i + 1 : Int32).toInt = i.toInt + 1 := tI_add rfl (rfl : (1 : Int32).toInt = 1) (by omega) (by omega)
      have hc1 := tC_of (v := i + 1) (by omega)
      have a1 : (t4 + 10 : Int32).toInt = 64 * (K : Int) + 10 := tI_add ht (rfl : (10 : Int32).toInt = 10) (by omega) (by omega)
      have a2 : (t4 + 10 + i : Int32).toInt = 64 * (K : Int) + 10 + i.toInt := tI_add a1 rfl (by omega) (by omega)
      have a3 := tC_of (v := t4 + 10 + i) (by omega)
      have a4 : (t4 + 10 + i : Int32).toNatClampNeg = 64 * K + 10 + i.toNatClampNeg := by omega
      rw [a4]
      generalize hv : va_up nu 10 (upd (nu 10) i.toNatClampNeg (nu 15 (64 * K + 10 + i.toNatClampNeg))) = nu1
      obtain ⟨g1, g2⟩ := ih (i + 1) nu1 (by omega) (by omega) (by omega)
      have k15 : nu1 15 = nu 15 := up_k hv (by decide)
      refine ⟨g1.trans (congrFun (up_k hv (by decide)) 14), fun k f => ?_⟩
      rw [g2 k f, k15]
      by_cases e : k = 10 ∧ f = i.toNatClampNeg
      · obtain ⟨e, ef⟩ := e
        subst e ef
        rw [if_neg (fun h => by omega), if_neg (fun h => by omega), if_pos ⟨rfl, by omega, by omega⟩, ← up_v hv]
      · have st : nu1 k f = nu k f := by
          by_cases ek : k = 10
          · subst ek
            exact up_f hv (fun h => e ⟨rfl, h⟩)
          · exact congrFun (up_k hv ek) f
        rw [st]
        by_cases c5 : k = 10 ∧ i.toNatClampNeg ≤ f ∧ f < 40
        · rw [if_pos (by omega), if_pos c5]
        · rw [if_neg (by omega), if_neg c5]
theorem lm_on69 {t4 : Int32} {K : Nat} (ht : t4.toInt = 64 * (K : Int)) (hK : K < 3) : ∀ (n : Nat) (i : Int32) (nu : Nat → Nat → Int32), 0 ≤ i.toInt → i.toInt ≤ 7 → (7 - i.toInt).toNat < n → (L_qm_on_69_0 t4 n i nu).1 = nu 0 14 ∧ ∀ k f : Nat, (L_qm_on_69_0 t4 n i nu).2 k f = if k = 10 ∧ f < 40 then nu 15 (64 * K + 10 + f) else if k = 0 ∧ f = 17 then 0 else if k = 8 ∧ i.toNatClampNeg ≤ f ∧ f < 7 then nu 15 (64 * K + 3 + f) else nu k f := by
  intro n
  induction n with
  | zero => intro i nu _ _ h; exact absurd h (Nat.not_lt_zero _)
  | succ n ih =>
    intro i nu h0 h4 hn
    have z7 : (7 : Int32).toInt = 7 := rfl
    have z0 : (0 : Int32).toNatClampNeg = 0 := rfl
    have hc := tC_of h0
    rw [L_qm_on_69_0]
    by_cases c : i ≥ (7 : Int32)
    · have c2 := vv_ge.mp c
      rw [if_pos c]
      obtain ⟨g1, g2⟩ := lm_on99 ht hK 43 0 nu (by decide) (by decide) (by decide)
      refine ⟨g1, fun k f => ?_⟩
      rw [g2 k f, z0]
      by_cases c5 : k = 10 ∧ f < 40
      · rw [if_pos ⟨c5.1, Nat.zero_le _, c5.2⟩, if_pos c5]
      · rw [if_neg (fun h => c5 ⟨h.1, h.2.2⟩), if_neg c5]
        by_cases c6 : k = 0 ∧ f = 17
        · rw [if_pos c6, if_pos c6]
        · rw [if_neg c6, if_neg c6, if_neg (fun h => by omega)]
    · have c2 : ¬ (7 : Int32).toInt ≤ i.toInt := fun h => c (vv_ge.mpr h)
      rw [if_neg c]
      simp only [letv_eq]
      have ai : (i + 1 : Int32).toInt = i.toInt + 1 := tI_add rfl (rfl : (1 : Int32).toInt = 1) (by omega) (by omega)
      have hc1 := tC_of (v := i + 1) (by omega)
      have a1 : (t4 + 3 : Int32).toInt = 64 * (K : Int) + 3 := tI_add ht (rfl : (3 : Int32).toInt = 3) (by omega) (by omega)
      have a2 : (t4 + 3 + i : Int32).toInt = 64 * (K : Int) + 3 + i.toInt := tI_add a1 rfl (by omega) (by omega)
      have a3 := tC_of (v := t4 + 3 + i) (by omega)
      have a4 : (t4 + 3 + i : Int32).toNatClampNeg = 64 * K + 3 + i.toNatClampNeg := by omega
      rw [a4]
      generalize hv : va_up nu 8 (upd (nu 8) i.toNatClampNeg (nu 15 (64 * K + 3 + i.toNatClampNeg))) = nu1
      obtain ⟨g1, g2⟩ := ih (i + 1) nu1 (by omega) (by omega) (by omega)
      have k15 : nu1 15 = nu 15 := up_k hv (by decide)
      refine ⟨g1.trans (congrFun (up_k hv (by decide)) 14), fun k f => ?_⟩
      rw [g2 k f, k15]
      by_cases c6 : k = 10 ∧ f < 40
      · rw [if_pos c6, if_pos c6]
      · rw [if_neg c6, if_neg c6]
        by_cases c7 : k = 0 ∧ f = 17
        · rw [if_pos c7, if_pos c7]
        · rw [if_neg c7, if_neg c7]
          by_cases e : k = 8 ∧ f = i.toNatClampNeg
          · obtain ⟨e, ef⟩ := e
            subst e ef
            rw [if_neg (fun h => by omega), if_pos ⟨rfl, by omega, by omega⟩, ← up_v hv]
          · have st : nu1 k f = nu k f := by
              by_cases ek : k = 8
              · subst ek
                exact up_f hv (fun h => e ⟨rfl, h⟩)
              · exact congrFun (up_k hv ek) f
            rw [st]
            by_cases c5 : k = 8 ∧ i.toNatClampNeg ≤ f ∧ f < 7
            · rw [if_pos (by omega), if_pos c5]
            · rw [if_neg (by omega), if_neg c5]
/-- keep: what the reference answers, and what it leaves -/
theorem fm_keep {mum : Nat → Nat → Int32} {v : Int32} (hv : 0 ≤ v.toInt ∧ v.toInt ≤ 2) (hb : ¬ mum 0 8 = 0) : (F_qm_keep mum v).1 = mum 0 14 ∧ ∀ k f : Nat, (F_qm_keep mum v).2 k f = if k = 15 ∧ 64 * v.toNatClampNeg + 10 ≤ f ∧ f < 64 * v.toNatClampNeg + 50 then mum 10 (f - (64 * v.toNatClampNeg + 10)) else if k = 15 ∧ 64 * v.toNatClampNeg + 3 ≤ f ∧ f < 64 * v.toNatClampNeg + 10 then mum 8 (f - (64 * v.toNatClampNeg + 3)) else if k = 15 ∧ f = 64 * v.toNatClampNeg then mum 0 14 else if k = 15 ∧ f = 64 * v.toNatClampNeg + 1 then mum 0 13 else if k = 15 ∧ f = 64 * v.toNatClampNeg + 2 then mum 0 15 else mum k f := by
  have z0 : (0 : Int32).toInt = 0 := rfl
  have z00 : (0 : Int32).toNatClampNeg = 0 := rfl
  have z2 : (2 : Int32).toInt = 2 := rfl
  have hc := tC_of hv.1
  have a0 : (64 * v : Int32).toInt = 64 * (v.toNatClampNeg : Int) := by rw [hc]; exact tI_mul (rfl : (64 : Int32).toInt = 64) rfl (by omega) (by omega)
  have a1 : (64 * v + 1 : Int32).toInt = 64 * (v.toNatClampNeg : Int) + 1 := tI_add a0 (rfl : (1 : Int32).toInt = 1) (by omega) (by omega)
  have a2 : (64 * v + 2 : Int32).toInt = 64 * (v.toNatClampNeg : Int) + 2 := tI_add a0 (rfl : (2 : Int32).toInt = 2) (by omega) (by omega)
  have b0 := tC_of (v := 64 * v) (by omega)
  have b1 := tC_of (v := 64 * v + 1) (by omega)
  have b2 := tC_of (v := 64 * v + 2) (by omega)
  have c0 : (64 * v : Int32).toNatClampNeg = 64 * v.toNatClampNeg := by omega
  have c1 : (64 * v + 1 : Int32).toNatClampNeg = 64 * v.toNatClampNeg + 1 := by omega
  have c2 : (64 * v + 2 : Int32).toNatClampNeg = 64 * v.toNatClampNeg + 2 := by omega
  unfold F_qm_keep
  rw [if_pos (fm_in.mpr ⟨by omega, by omega⟩)]
  simp only [letv_eq]
  rw [if_neg hb, c0, c1, c2]
  generalize h1 : va_up mum 15 (upd (mum 15) (64 * v.toNatClampNeg) (mum 0 14)) = n1
  rw [show n1 0 13 = mum 0 13 from congrFun (up_k h1 (by decide)) 13]
  generalize h2 : va_up n1 15 (upd (n1 15) (64 * v.toNatClampNeg + 1) (mum 0 13)) = n2
  rw [show n2 0 15 = mum 0 15 from congrFun ((up_k h2 (by decide)).trans (up_k h1 (by decide))) 15]
  generalize h3 : va_up n2 15 (upd (n2 15) (64 * v.toNatClampNeg + 2) (mum 0 15)) = n3
  have nk : ∀ k : Nat, k ≠ 15 → n3 k = mum k := fun k h => (up_k h3 h).trans ((up_k h2 h).trans (up_k h1 h))
  obtain ⟨g1, g2⟩ := lm_keep62 (t4 := 64 * v) (K := v.toNatClampNeg) a0 (by omega) 10 0 n3 (by decide) (by decide) (by decide)
  refine ⟨g1.trans (congrFun (nk 0 (by decide)) 14), fun k f => ?_⟩
  rw [g2 k f, nk 10 (by decide), nk 8 (by decide), z00, Nat.add_zero]
  by_cases d1 : k = 15 ∧ 64 * v.toNatClampNeg + 10 ≤ f ∧ f < 64 * v.toNatClampNeg + 50
  · rw [if_pos d1, if_pos d1]
  · rw [if_neg d1, if_neg d1]
    by_cases d2 : k = 15 ∧ 64 * v.toNatClampNeg + 3 ≤ f ∧ f < 64 * v.toNatClampNeg + 10
    · rw [if_pos d2, if_pos d2]
    · rw [if_neg d2, if_neg d2]
      by_cases e : k = 15
      · subst e
        by_cases e0 : f = 64 * v.toNatClampNeg
        · rw [if_pos ⟨rfl, e0⟩]
          subst e0
          exact (up_f h3 (by omega)).trans ((up_f h2 (by omega)).trans (up_v h1).symm)
        · rw [if_neg (fun h => e0 h.2)]
          by_cases e1 : f = 64 * v.toNatClampNeg + 1
          · rw [if_pos ⟨rfl, e1⟩]
            subst e1
            exact (up_f h3 (by omega)).trans (up_v h2).symm
          · rw [if_neg (fun h => e1 h.2)]
            by_cases e2 : f = 64 * v.toNatClampNeg + 2
            · rw [if_pos ⟨rfl, e2⟩]
              subst e2
              exact (up_v h3).symm
            · rw [if_neg (fun h => e2 h.2)]
              exact (up_f h3 e2).trans ((up_f h2 e1).trans (up_f h1 e0))
      · rw [if_neg (fun h => e h.1), if_neg (fun h => e h.1), if_neg (fun h => e h.1)]
        exact congrFun (nk k e) f
/-- on: what the reference answers, and what it leaves -/
theorem fm_on {mum : Nat → Nat → Int32} {v : Int32} (hv : 0 ≤ v.toInt ∧ v.toInt ≤ 2) (hb : ¬ mum 15 (64 * v.toNatClampNeg) = -9) : (F_qm_on mum v).1 = mum 15 (64 * v.toNatClampNeg) ∧ ∀ k f : Nat, (F_qm_on mum v).2 k f = if k = 10 ∧ f < 40 then mum 15 (64 * v.toNatClampNeg + 10 + f) else if k = 0 ∧ f = 17 then 0 else if k = 8 ∧ f < 7 then mum 15 (64 * v.toNatClampNeg + 3 + f) else if k = 0 ∧ f = 14 then mum 15 (64 * v.toNatClampNeg) else if k = 0 ∧ f = 13 then mum 15 (64 * v.toNatClampNeg + 1) else if k = 0 ∧ f = 15 then mum 15 (64 * v.toNatClampNeg + 2) else mum k f := by
  have z0 : (0 : Int32).toInt = 0 := rfl
  have z00 : (0 : Int32).toNatClampNeg = 0 := rfl
  have z2 : (2 : Int32).toInt = 2 := rfl
  have hc := tC_of hv.1
  have a0 : (64 * v : Int32).toInt = 64 * (v.toNatClampNeg : Int) := by rw [hc]; exact tI_mul (rfl : (64 : Int32).toInt = 64) rfl (by omega) (by omega)
  have a1 : (64 * v + 1 : Int32).toInt = 64 * (v.toNatClampNeg : Int) + 1 := tI_add a0 (rfl : (1 : Int32).toInt = 1) (by omega) (by omega)
  have a2 : (64 * v + 2 : Int32).toInt = 64 * (v.toNatClampNeg : Int) + 2 := tI_add a0 (rfl : (2 : Int32).toInt = 2) (by omega) (by omega)
  have b0 := tC_of (v := 64 * v) (by omega)
  have b1 := tC_of (v := 64 * v + 1) (by omega)
  have b2 := tC_of (v := 64 * v + 2) (by omega)
  have c0 : (64 * v : Int32).toNatClampNeg = 64 * v.toNatClampNeg := by omega
  have c1 : (64 * v + 1 : Int32).toNatClampNeg = 64 * v.toNatClampNeg + 1 := by omega
  have c2 : (64 * v + 2 : Int32).toNatClampNeg = 64 * v.toNatClampNeg + 2 := by omega
  unfold F_qm_on
  rw [if_pos (fm_in.mpr ⟨by omega, by omega⟩)]
  simp only [letv_eq]
  rw [c0, if_neg hb, c1, c2]
  generalize h1 : va_up mum 0 (upd (mum 0) 14 (mum 15 (64 * v.toNatClampNeg))) = n1
  rw [show n1 15 (64 * v.toNatClampNeg + 1) = mum 15 (64 * v.toNatClampNeg + 1) from congrFun (up_k h1 (by decide)) _]
  generalize h2 : va_up n1 0 (upd (n1 0) 13 (mum 15 (64 * v.toNatClampNeg + 1))) = n2
  rw [show n2 15 (64 * v.toNatClampNeg + 2) = mum 15 (64 * v.toNatClampNeg + 2) from congrFun ((up_k h2 (by decide)).trans (up_k h1 (by decide))) _]
  generalize h3 : va_up n2 0 (upd (n2 0) 15 (mum 15 (64 * v.toNatClampNeg + 2))) = n3
  have nk : ∀ k : Nat, k ≠ 0 → n3 k = mum k := fun k h => (up_k h3 h).trans ((up_k h2 h).trans (up_k h1 h))
  have n14 : n3 0 14 = mum 15 (64 * v.toNatClampNeg) := (up_f h3 (by decide)).trans ((up_f h2 (by decide)).trans (up_v h1).symm)
  obtain ⟨g1, g2⟩ := lm_on69 (t4 := 64 * v) (K := v.toNatClampNeg) a0 (by omega) 10 0 n3 (by decide) (by decide) (by decide)
  refine ⟨g1.trans n14, fun k f => ?_⟩
  rw [g2 k f, nk 15 (by decide), z00]
  by_cases d1 : k = 10 ∧ f < 40
  · rw [if_pos d1, if_pos d1]
  · rw [if_neg d1, if_neg d1]
    by_cases d2 : k = 0 ∧ f = 17
    · rw [if_pos d2, if_pos d2]
    · rw [if_neg d2, if_neg d2]
      by_cases d3 : k = 8 ∧ f < 7
      · rw [if_pos ⟨d3.1, Nat.zero_le _, d3.2⟩, if_pos d3]
      · rw [if_neg (fun h => d3 ⟨h.1, h.2.2⟩), if_neg d3]
        by_cases e : k = 0
        · subst e
          by_cases e0 : f = 14
          · rw [if_pos ⟨rfl, e0⟩]
            subst e0
            exact n14
          · rw [if_neg (fun h => e0 h.2)]
            by_cases e1 : f = 13
            · rw [if_pos ⟨rfl, e1⟩]
              subst e1
              exact (up_f h3 (by decide)).trans (up_v h2).symm
            · rw [if_neg (fun h => e1 h.2)]
              by_cases e2 : f = 15
              · rw [if_pos ⟨rfl, e2⟩]
                subst e2
                exact (up_v h3).symm
              · rw [if_neg (fun h => e2 h.2)]
                exact (up_f h3 e2).trans ((up_f h2 e1).trans (up_f h1 e0))
        · rw [if_neg (fun h => e h.1), if_neg (fun h => e h.1), if_neg (fun h => e h.1)]
          exact congrFun (nk k e) f

-- ===== the core: who stands beside whom, what a letter is worth, what is asked, who can buy =====
theorem fx_hasBit {a b : Int32} (h1 : 0 ≤ b.toInt) (h2 : b.toInt ≤ 31) : F_sx_hasBit a b = if bt a b.toNatClampNeg then 1 else 0 := by
  have e : F_sx_hasBit a b = if rb a b = 0 then 0 else 1 := rfl
  rw [e, rb_bt h1 h2]
  cases bt a b.toNatClampNeg <;> decide
theorem fm_has {a b : Int32} (h1 : 0 ≤ b.toInt) (h2 : b.toInt ≤ 31) : F_sm_has a b = if bt a b.toNatClampNeg then 1 else 0 := by
  have e : F_sm_has a b = if rb a b = 1 then 1 else 0 := rfl
  rw [e, rb_bt h1 h2]
  cases bt a b.toNatClampNeg <;> decide
theorem hb_f {a b : Int32} (h1 : 0 ≤ b.toInt) (h2 : b.toInt ≤ 31) (hq : bt a b.toNatClampNeg = false) : F_sx_hasBit a b = 0 ∧ ¬ F_sm_has a b = 1 := by
  rw [fx_hasBit h1 h2, fm_has h1 h2, hq]
  decide
theorem hb_t {a b : Int32} (h1 : 0 ≤ b.toInt) (h2 : b.toInt ≤ 31) (hq : bt a b.toNatClampNeg = true) : ¬ F_sx_hasBit a b = 0 ∧ F_sm_has a b = 1 := by
  rw [fx_hasBit h1 h2, fm_has h1 h2, hq]
  decide
theorem ior_0 (v : Int32) : v ||| 0 = v := by simp
theorem ix_2 {i : Int32} (h0 : 0 ≤ i.toInt) (h1 : i.toInt ≤ 12) : (2 * i : Int32).toNatClampNeg = 2 * i.toNatClampNeg ∧ (2 * i + 1 : Int32).toNatClampNeg = 2 * i.toNatClampNeg + 1 := by
  have hc := tC_of h0
  have a0 : (2 * i : Int32).toInt = 2 * i.toInt := tI_mul (rfl : (2 : Int32).toInt = 2) rfl (by omega) (by omega)
  have a1 : (2 * i + 1 : Int32).toInt = 2 * i.toInt + 1 := tI_add a0 (rfl : (1 : Int32).toInt = 1) (by omega) (by omega)
  have b0 := tC_of (v := 2 * i) (by omega)
  have b1 := tC_of (v := 2 * i + 1) (by omega)
  exact ⟨by omega, by omega⟩
theorem near_loop {mux mum : Nat → Nat → Int32} {s x : Int32} (hK : simK mux mum) (hp : 0 ≤ (mum 0 11).toInt ∧ (mum 0 11).toInt ≤ 12) (hs : s = mum 0 13) : ∀ (n : Nat) (v i : Int32), 0 ≤ i.toInt → i.toInt ≤ 12 → (12 - i.toInt).toNat < n → L_sx_near_5_0 mux s x n v i = L_sm_besideOf_4_0 mum x n v i := by
  obtain ⟨k1, k2, k3, k4⟩ := hK
  intro n
  induction n with
  | zero => intro v i _ _ h; exact absurd h (Nat.not_lt_zero _)
  | succ n ih =>
    intro v i h0 h1 hn
    have hc := tC_of h0
    have hpn := tC_of hp.1
    rw [L_sx_near_5_0, L_sm_besideOf_4_0]
    simp only [letv_eq, ior_0]
    rw [k2]
    by_cases c : i ≥ mum 0 11
    · rw [if_pos c, if_pos c]
    · have c2 : ¬ (mum 0 11).toInt ≤ i.toInt := fun h => c (vv_ge.mpr h)
      have ai : (i + 1 : Int32).toInt = i.toInt + 1 := tI_add rfl (rfl : (1 : Int32).toInt = 1) (by omega) (by omega)
      have ihh : ∀ w, L_sx_near_5_0 mux s x n w (i + 1) = L_sm_besideOf_4_0 mum x n w (i + 1) := fun w => ih w (i + 1) (by omega) (by omega) (by omega)
      have q := k4 i.toNatClampNeg (by omega)
      rw [if_neg c, if_neg c, (ix_2 h0 h1).1, (ix_2 h0 h1).2, q.1, q.2, ← hs]
      cases hq : bt s i.toNatClampNeg
      · have hh := hb_f h0 (by omega) hq
        rw [if_pos hh.1, if_neg hh.2]
        by_cases c3 : mum 9 (2 * i.toNatClampNeg) = x
        · rw [if_pos c3, if_pos c3]
          exact ihh _
        · rw [if_neg c3, if_neg c3]
          by_cases c4 : mum 9 (2 * i.toNatClampNeg + 1) = x
          · rw [if_pos c4, if_pos c4]
            exact ihh _
          · rw [if_neg c4, if_neg c4]
            exact ihh _
      · have hh := hb_t h0 (by omega) hq
        rw [if_neg hh.1, if_pos hh.2]
        exact ihh _
theorem near_eq {mux mum : Nat → Nat → Int32} {s x : Int32} (hK : simK mux mum) (hp : 0 ≤ (mum 0 11).toInt ∧ (mum 0 11).toInt ≤ 12) (hs : s = mum 0 13) : F_sx_near mux x s = F_sm_besideOf mum x := near_loop hK hp hs 15 0 0 (by decide) (by decide) (by decide)
theorem beside_rel {x r1 r2 : Int32} {mux mum xi1 xi2 : Nat → Nat → Int32} (okm : okR loM hiM mum) (hK : simK mux mum) (hs : mux 5 2 = mum 0 13) (h1 : (r1, xi1) = F_qx_beside mux x) (h2 : (r2, xi2) = F_qm_beside mum x) : r1 = r2 := by
  have hb : 0 ≤ (mum 0 8).toInt ∧ (mum 0 8).toInt ≤ 7 := okm 0 8
  have hp : 0 ≤ (mum 0 11).toInt ∧ (mum 0 11).toInt ≤ 12 := okm 0 11
  simp only [F_qx_beside, letv_eq] at h1
  simp only [F_qm_beside, letv_eq] at h2
  by_cases cx : 0 ≤ x.toInt ∧ x.toInt < (mum 0 8).toInt
  · rw [if_pos (fx_has.mpr (by rw [hK.1]; exact cx)), near_eq hK hp hs] at h1
    rw [if_pos ((fm_isOne hb).mpr cx)] at h2
    exact (Prod.mk.inj h1).1.trans (Prod.mk.inj h2).1.symm
  · rw [if_neg (fun e => cx (by have := fx_has.mp e; rw [hK.1] at this; exact this))] at h1
    rw [if_neg (fun e => cx ((fm_isOne hb).mp e))] at h2
    exact (Prod.mk.inj h1).1.trans (Prod.mk.inj h2).1.symm
-- letters
def pfm (f : Nat) : Nat := if f = 7 then 8 else if f = 8 then 7 else f
def letR (B : Int) (n : Nat) (lx : Nat → Nat → Int32) (lm : Nat → Int32) : Prop := ∀ k : Nat, k < n → (∀ f : Nat, f < 10 → lx k f = lm (10 * k + pfm f)) ∧ (0 ≤ (lx k 1).toInt ∧ (lx k 1).toInt < B) ∧ (0 ≤ (lx k 5).toInt ∧ (lx k 5).toInt < B) ∧ (lx k 9 = 0 ∨ lx k 9 = 1)
theorem ix_10 {k w : Int32} (hk : 0 ≤ k.toInt ∧ k.toInt ≤ 3) (hw : 0 ≤ w.toInt ∧ w.toInt ≤ 9) : (10 * k + w : Int32).toNatClampNeg = 10 * k.toNatClampNeg + w.toNatClampNeg := by
  have a1 : (10 * k : Int32).toInt = 10 * k.toInt := tI_mul (rfl : (10 : Int32).toInt = 10) rfl (by omega) (by omega)
  have a2 : (10 * k + w : Int32).toInt = 10 * k.toInt + w.toInt := tI_add a1 rfl (by omega) (by omega)
  have c1 := tC_of (v := 10 * k + w) (by omega)
  have c2 := tC_of hk.1
  have c3 := tC_of hw.1
  omega
theorem fm_letterOf {mum : Nat → Nat → Int32} {k w : Int32} (hk : 0 ≤ k.toInt ∧ k.toInt ≤ 3) (hw : 0 ≤ w.toInt ∧ w.toInt ≤ 9) : F_sm_letterOf mum k w = mum 10 (10 * k.toNatClampNeg + w.toNatClampNeg) := by
  simp only [F_sm_letterOf, letv_eq]
  rw [ix_10 hk hw]
theorem fm_letterOf5 {mum : Nat → Nat → Int32} {k : Int32} (hk : 0 ≤ k.toInt ∧ k.toInt ≤ 3) : F_sm_letterOf5 mum k = mum 10 (10 * k.toNatClampNeg + 5) := by
  simp only [F_sm_letterOf5, letv_eq]
  rw [ix_10 hk (by decide)]
  rfl
/-- one letter's numbers on both sides -/
def oneR (B : Int) (lx : Nat → Int32) (lm : Nat → Int32) (K : Nat) : Prop := (∀ f : Nat, f < 10 → lx f = lm (10 * K + pfm f)) ∧ (0 ≤ (lx 1).toInt ∧ (lx 1).toInt < B) ∧ (0 ≤ (lx 5).toInt ∧ (lx 5).toInt < B) ∧ (lx 9 = 0 ∨ lx 9 = 1)
theorem price_eq {mux mum : Nat → Nat → Int32} {k : Int32} (hk : 0 ≤ k.toInt ∧ k.toInt ≤ 3) (hK : simK mux mum) (hb : 0 ≤ (mum 0 8).toInt ∧ (mum 0 8).toInt ≤ 7) (h : oneR (mum 0 8).toInt (mux (61 + k.toNatClampNeg)) (mum 10) k.toNatClampNeg) : F_sx_priceOf mux (61 + k.toNatClampNeg) = F_sm_priceOf mum k := by
  obtain ⟨f, f1, f5, f9⟩ := h
  have hbn := tC_of hb.1
  have h5 : mux (61 + k.toNatClampNeg) 5 = mum 10 (10 * k.toNatClampNeg + 5) := f 5 (by decide)
  have h6 : mux (61 + k.toNatClampNeg) 6 = mum 10 (10 * k.toNatClampNeg + 6) := f 6 (by decide)
  have hc5 := tC_of f5.1
  simp only [F_sx_priceOf, F_sm_priceOf, F_sm_asksOf, F_sx_priceAsked, letv_eq]
  rw [fm_letterOf5 hk, fm_letterOf hk (by decide), hK.2.2.1 _ (by omega), h5, h6]
  rfl
theorem worth_eq {mux mum : Nat → Nat → Int32} {k d : Int32} {B : Int} (hk : 0 ≤ k.toInt ∧ k.toInt ≤ 3) (hd : d = mum 0 14) (h : oneR B (mux (61 + k.toNatClampNeg)) (mum 10) k.toNatClampNeg) : F_sx_worthOn mux (61 + k.toNatClampNeg) d = F_sm_worthIn mum k 0 := by
  obtain ⟨f, f1, f5, f9⟩ := h
  have z0 : (0 : Int32).toInt = 0 := rfl
  have h2 : mux (61 + k.toNatClampNeg) 2 = mum 10 (10 * k.toNatClampNeg + 2) := f 2 (by decide)
  have h3 : mux (61 + k.toNatClampNeg) 3 = mum 10 (10 * k.toNatClampNeg + 3) := f 3 (by decide)
  have h4 : mux (61 + k.toNatClampNeg) 4 = mum 10 (10 * k.toNatClampNeg + 4) := f 4 (by decide)
  simp only [F_sx_worthOn, F_sm_worthIn, letv_eq]
  rw [fm_letterOf hk (by decide), fm_letterOf hk (by decide), fm_letterOf hk (by decide), h2, h3, h4, hd, Int32.add_zero]
  show (if 0 < mum 10 (10 * k.toNatClampNeg + 2) - mum 10 (10 * k.toNatClampNeg + 3) * (mum 0 14 - mum 10 (10 * k.toNatClampNeg + 4)) then mum 10 (10 * k.toNatClampNeg + 2) - mum 10 (10 * k.toNatClampNeg + 3) * (mum 0 14 - mum 10 (10 * k.toNatClampNeg + 4)) else 0) = (if mum 10 (10 * k.toNatClampNeg + 2) - mum 10 (10 * k.toNatClampNeg + 3) * (mum 0 14 - mum 10 (10 * k.toNatClampNeg + 4)) ≥ 0 then mum 10 (10 * k.toNatClampNeg + 2) - mum 10 (10 * k.toNatClampNeg + 3) * (mum 0 14 - mum 10 (10 * k.toNatClampNeg + 4)) else 0)
  generalize mum 10 (10 * k.toNatClampNeg + 2) - mum 10 (10 * k.toNatClampNeg + 3) * (mum 0 14 - mum 10 (10 * k.toNatClampNeg + 4)) = w
  by_cases c : (0 : Int32) < w
  · have c1 := vv_lt.mp c
    rw [if_pos c, if_pos (vv_ge.mpr (by omega))]
  · have c1 : ¬ (0 : Int32).toInt < w.toInt := fun e => c (vv_lt.mpr e)
    rw [if_neg c]
    by_cases c2 : w ≥ (0 : Int32)
    · have c3 := vv_ge.mp c2
      rw [if_pos c2]
      exact (Int32.toInt_inj.mp (by omega)).symm
    · rw [if_neg c2]
-- bits of a set
theorem b_zero : ∀ i, i < 32 → bt 0 i = false := by decide +kernel
theorem b_bit {x : Int32} (h0 : 0 ≤ x.toInt) (h1 : x.toInt ≤ 31) {i : Nat} (hi : i < 32) : bt ((1 : Int32) <<< (x &&& 31)) i = decide (i = x.toNatClampNeg) := by
  have hc := tC_of h0
  rw [nI_at h0]
  have e : (nI x.toNatClampNeg).toNatClampNeg = x.toNatClampNeg := by rw [← nI_at h0]
  rw [e]
  generalize x.toNatClampNeg = n at hc
  have hn : n < 32 := by omega
  rw [b_shl n hn 1 hi]
  by_cases c : n ≤ i
  · rw [b_1 (i - n) (by omega)]
    simp [c]
    omega
  · simp [c]
    omega
theorem near_rng {mum : Nat → Nat → Int32} {x : Int32} (hp : 0 ≤ (mum 0 11).toInt ∧ (mum 0 11).toInt ≤ 12) (he : ∀ j : Nat, j < (mum 0 11).toNatClampNeg → (0 ≤ (mum 9 (2 * j)).toInt ∧ (mum 9 (2 * j)).toInt < (mum 0 8).toInt) ∧ (0 ≤ (mum 9 (2 * j + 1)).toInt ∧ (mum 9 (2 * j + 1)).toInt < (mum 0 8).toInt)) (hb : 0 ≤ (mum 0 8).toInt ∧ (mum 0 8).toInt ≤ 7) : ∀ (n : Nat) (v i : Int32), 0 ≤ i.toInt → i.toInt ≤ 12 → (∀ j : Nat, j < 32 → bt v j = true → (j : Int) < (mum 0 8).toInt) → ∀ j : Nat, j < 32 → bt (L_sm_besideOf_4_0 mum x n v i) j = true → (j : Int) < (mum 0 8).toInt := by
  intro n
  induction n with
  | zero =>
    intro v i _ _ _ j hj h
    rw [L_sm_besideOf_4_0, b_zero j hj] at h
    cases h
  | succ n ih =>
    intro v i h0 h1 hv
    have hc := tC_of h0
    have hpn := tC_of hp.1
    have ai : i.toInt < 12 → (i + 1 : Int32).toInt = i.toInt + 1 := fun _ => tI_add rfl (rfl : (1 : Int32).toInt = 1) (by omega) (by omega)
    rw [L_sm_besideOf_4_0]
    simp only [letv_eq, ior_0]
    by_cases c : i ≥ mum 0 11
    · rw [if_pos c]
      exact hv
    · have c2 : ¬ (mum 0 11).toInt ≤ i.toInt := fun h => c (vv_ge.mpr h)
      have q := he i.toNatClampNeg (by omega)
      have ai := ai (by omega)
      have add : ∀ y : Int32, 0 ≤ y.toInt → y.toInt < (mum 0 8).toInt → ∀ j : Nat, j < 32 → bt (v ||| ((1 : Int32) <<< (y &&& 31))) j = true → (j : Int) < (mum 0 8).toInt := fun y y0 y1 j hj hb2 => by
        rw [b_or, b_bit y0 (by omega) hj] at hb2
        have hy := tC_of y0
        cases hq : bt v j
        · rw [hq] at hb2
          simp at hb2
          omega
        · exact hv j hj hq
      rw [if_neg c, (ix_2 h0 h1).1, (ix_2 h0 h1).2]
      repeat' split
      · exact ih _ _ (by omega) (by omega) hv
      · exact ih _ _ (by omega) (by omega) (add _ q.2.1 q.2.2)
      · exact ih _ _ (by omega) (by omega) (add _ q.1.1 q.1.2)
      · exact ih _ _ (by omega) (by omega) hv
/-- who may buy: by place, the same on both sides -/
theorem buy_loop {mux mum : Nat → Nat → Int32} {k pr d nb : Int32} (hk : 0 ≤ k.toInt ∧ k.toInt ≤ 3) (hK : simK mux mum) (hb : 0 ≤ (mum 0 8).toInt ∧ (mum 0 8).toInt ≤ 7) (hP : ∀ x : Nat, x < (mum 0 8).toNatClampNeg → mux 46 x = mum 8 x) (hd : d = mum 0 14) (h : oneR (mum 0 8).toInt (mux (61 + k.toNatClampNeg)) (mum 10) k.toNatClampNeg) (hnb : ∀ j : Nat, j < 32 → bt nb j = true → (j : Int) < (mum 0 8).toInt) : ∀ (n : Nat) (v w i : Int32), 0 ≤ i.toInt → i.toInt ≤ (mum 0 8).toInt → (7 - i.toInt).toNat < n → (∀ j : Nat, j < 32 → bt v j = if (j : Int) < i.toInt then bt w j else bt nb j) → (∀ j : Nat, j < 32 → bt w j = true → (j : Int) < i.toInt) → L_sx_buyersOf_48_0 (61 + k.toNatClampNeg) mux pr d n v i = L_sm_canSell_47_0 mum nb pr k n w i := by
  have we := worth_eq (d := d) hk hd h
  obtain ⟨f, f1, f5, f9⟩ := h
  have h1 : mux (61 + k.toNatClampNeg) 1 = mum 10 (10 * k.toNatClampNeg + 1) := f 1 (by decide)
  have hbn := tC_of hb.1
  intro n
  induction n with
  | zero => intro v w i _ _ h; exact absurd h (Nat.not_lt_zero _)
  | succ n ih =>
    intro v w i h0 hle hn hv hw
    have hc := tC_of h0
    rw [L_sx_buyersOf_48_0, L_sm_canSell_47_0]
    simp only [letv_eq, ior_0]
    rw [hK.1, we, fm_letterOf hk (by decide), h1, show (1 : Int32).toNatClampNeg = 1 from rfl]
    by_cases c : i ≥ mum 0 8
    · have c2 := vv_ge.mp c
      rw [if_pos c, if_pos c]
      apply b_ext
      intro j hj
      rw [hv j hj]
      by_cases cj : (j : Int) < i.toInt
      · rw [if_pos cj]
      · rw [if_neg cj]
        have n1 : bt nb j = false := by
          cases hq : bt nb j
          · rfl
          · have := hnb j hj hq
            omega
        have n2 : bt w j = false := by
          cases hq : bt w j
          · rfl
          · exact absurd (hw j hj hq) cj
        rw [n1, n2]
    · have c2 : ¬ (mum 0 8).toInt ≤ i.toInt := fun h => c (vv_ge.mpr h)
      have ai : (i + 1 : Int32).toInt = i.toInt + 1 := tI_add rfl (rfl : (1 : Int32).toInt = 1) (by omega) (by omega)
      have m1 := b_m1
      -- the place i is taken out, or not among them
      have out : L_sx_buyersOf_48_0 (61 + k.toNatClampNeg) mux pr d n (v &&& (((1 : Int32) <<< (i &&& 31)) ^^^ (-1))) (i + 1) = L_sm_canSell_47_0 mum nb pr k n w (i + 1) := by
        refine ih _ w (i + 1) (by omega) (by omega) (by omega) (fun j hj => ?_) (fun j hj hq => by have := hw j hj hq; omega)
        rw [b_and, b_xor, b_bit h0 (by omega) hj, m1 j hj, hv j hj]
        by_cases e : j = i.toNatClampNeg
        · have n2 : bt w j = false := by
            cases hq : bt w j
            · rfl
            · have := hw j hj hq
              omega
          rw [if_neg (by omega), if_pos (by omega), n2]
          simp [e]
        · by_cases cj : (j : Int) < i.toInt
          · rw [if_pos cj, if_pos (by omega)]
            simp [e]
          · rw [if_neg cj, if_neg (by omega)]
            simp [e]
      have absent : bt nb i.toNatClampNeg = false → L_sx_buyersOf_48_0 (61 + k.toNatClampNeg) mux pr d n v (i + 1) = L_sm_canSell_47_0 mum nb pr k n w (i + 1) := fun hno => by
        refine ih _ w (i + 1) (by omega) (by omega) (by omega) (fun j hj => ?_) (fun j hj hq => by have := hw j hj hq; omega)
        rw [hv j hj]
        by_cases e : j = i.toNatClampNeg
        · have n2 : bt w j = false := by
            cases hq : bt w j
            · rfl
            · have := hw j hj hq
              omega
          rw [if_neg (by omega), if_pos (by omega), n2, e, hno]
        · by_cases cj : (j : Int) < i.toInt
          · rw [if_pos cj, if_pos (by omega)]
          · rw [if_neg cj, if_neg (by omega)]
      have taken : bt nb i.toNatClampNeg = true → L_sx_buyersOf_48_0 (61 + k.toNatClampNeg) mux pr d n v (i + 1) = L_sm_canSell_47_0 mum nb pr k n (w ||| ((1 : Int32) <<< (i &&& 31))) (i + 1) := fun hyes => by
        refine ih _ _ (i + 1) (by omega) (by omega) (by omega) (fun j hj => ?_) (fun j hj hq => ?_)
        · rw [hv j hj, b_or, b_bit h0 (by omega) hj]
          by_cases e : j = i.toNatClampNeg
          · rw [if_neg (by omega), if_pos (by omega), e, hyes]
            simp
          · by_cases cj : (j : Int) < i.toInt
            · rw [if_pos cj, if_pos (by omega)]
              simp [e]
            · rw [if_neg cj, if_neg (by omega)]
        · rw [b_or, b_bit h0 (by omega) hj] at hq
          cases hq2 : bt w j
          · rw [hq2] at hq
            simp at hq
            omega
          · have := hw j hj hq2
            omega
      rw [if_neg c, if_neg c, hP i.toNatClampNeg (by omega), hK.2.2.1 i.toNatClampNeg (by omega)]
      have ge : ∀ a : Int32, (a ≥ pr) ↔ ¬ (a < pr) := fun a => ⟨fun h h2 => by have := vv_ge.mp h; have := vv_lt.mp h2; omega, fun h => vv_ge.mpr (by have : ¬ a.toInt < pr.toInt := fun e => h (vv_lt.mpr e); omega)⟩
      by_cases c3 : i = mum 10 (10 * k.toNatClampNeg + 1)
      · rw [if_pos c3, if_pos c3]
        by_cases c4 : F_sm_worthIn mum k 0 < pr
        · rw [if_pos c4, if_pos c4, out]
          split <;> rfl
        · rw [if_neg c4, if_neg c4]
          by_cases c5 : mum 8 i.toNatClampNeg < pr
          · rw [if_neg (fun e => (ge _).mp e c5), if_pos c5, out]
            split <;> rfl
          · rw [if_pos ((ge _).mpr c5), if_neg c5]
            cases hq : bt nb i.toNatClampNeg
            · rw [if_neg (hb_f h0 (by omega) hq).2]
              exact absent hq
            · rw [if_pos (hb_t h0 (by omega) hq).2]
              exact taken hq
      · rw [if_neg c3, if_neg c3]
        by_cases c4 : mum 7 i.toNatClampNeg = 3
        · rw [if_pos c4, if_pos c4, out]
          split <;> rfl
        · rw [if_neg c4, if_neg c4]
          by_cases c5 : mum 8 i.toNatClampNeg < pr
          · rw [if_neg (fun e => (ge _).mp e c5), if_pos c5, out]
            split <;> rfl
          · rw [if_pos ((ge _).mpr c5), if_neg c5]
            cases hq : bt nb i.toNatClampNeg
            · rw [if_neg (hb_f h0 (by omega) hq).2]
              exact absent hq
            · rw [if_pos (hb_t h0 (by omega) hq).2]
              exact taken hq

-- ===== a sale entered =====
theorem letv_out {α β : Type} {e : α} {K : α → β} {z : β} (h : z = LETV e K) : ∃ t : α, e = t ∧ z = K t := ⟨e, rfl, h⟩
theorem letp_out {α γ β : Type} {p : α × γ} {K : α → γ → β} {z : β} (h : z = LETP p K) : ∃ (a : α) (b : γ), p = (a, b) ∧ z = K a b := ⟨p.1, p.2, rfl, h⟩
theorem up_c {mu nu : Nat → Nat → Int32} {k : Nat} {g : Nat → Int32} (h : va_up mu k g = nu) : nu k = g := by
  rw [← h]
  simp [va_up]
theorem es_x {mu : Nat → Nat → Int32} {vk vx r : Int32} {xi : Nat → Nat → Int32} (hk : vk.toNatClampNeg < 4) (hn : (mu 6 1).toNatClampNeg < 40) (h : (r, xi) = F_sx_enterSale mu vk vx) : r = F_sx_priceOf mu (61 + vk.toNatClampNeg) ∧ (∀ c : Nat, c ≠ 117 + (mu 6 1).toNatClampNeg → c ≠ 77 + (mu 6 1).toNatClampNeg → c ≠ 6 → c ≠ 46 → c ≠ 61 + vk.toNatClampNeg → xi c = mu c) ∧ (∀ x : Nat, x < 7 → xi (117 + (mu 6 1).toNatClampNeg) x = mu 46 x) ∧ (xi (77 + (mu 6 1).toNatClampNeg) 1 = vk ∧ xi (77 + (mu 6 1).toNatClampNeg) 2 = mu (61 + vk.toNatClampNeg) 5 ∧ xi (77 + (mu 6 1).toNatClampNeg) 3 = vx ∧ xi (77 + (mu 6 1).toNatClampNeg) 4 = r ∧ xi (77 + (mu 6 1).toNatClampNeg) 5 = mu (61 + vk.toNatClampNeg) 6 ∧ xi (77 + (mu 6 1).toNatClampNeg) 6 = mu (61 + vk.toNatClampNeg) 7) ∧ xi 6 1 = mu 6 1 + 1 ∧ xi 46 = upd (upd (mu 46) vx.toNatClampNeg (mu 46 vx.toNatClampNeg - r)) (mu (61 + vk.toNatClampNeg) 5).toNatClampNeg (upd (mu 46) vx.toNatClampNeg (mu 46 vx.toNatClampNeg - r) (mu (61 + vk.toNatClampNeg) 5).toNatClampNeg + r) ∧ (∀ f : Nat, f < 5 → xi (61 + vk.toNatClampNeg) f = mu (61 + vk.toNatClampNeg) f) ∧ xi (61 + vk.toNatClampNeg) 5 = vx ∧ xi (61 + vk.toNatClampNeg) 6 = r ∧ xi (61 + vk.toNatClampNeg) 7 = mu 5 3 ∧ xi (61 + vk.toNatClampNeg) 8 = mu (61 + vk.toNatClampNeg) 8 + 1 ∧ xi (61 + vk.toNatClampNeg) 9 = (if vx = mu (61 + vk.toNatClampNeg) 1 then 1 else 0) := by
  unfold F_sx_enterSale at h
  obtain ⟨r2, e_r2, h⟩ := letv_out h
  obtain ⟨y3, e_y3, h⟩ := letv_out h
  obtain ⟨nu6, e_nu6, h⟩ := letv_out h
  obtain ⟨nu9, e_nu9, h⟩ := letv_out h
  obtain ⟨y13, e_y13, h⟩ := letv_out h
  obtain ⟨nu14, e_nu14, h⟩ := letv_out h
  obtain ⟨nu20, e_nu20, h⟩ := letv_out h
  obtain ⟨nu27, e_nu27, h⟩ := letv_out h
  obtain ⟨y35, e_y35, h⟩ := letv_out h
  obtain ⟨nu36, e_nu36, h⟩ := letv_out h
  obtain ⟨y46, e_y46, h⟩ := letv_out h
  obtain ⟨nu47, e_nu47, h⟩ := letv_out h
  obtain ⟨t59, e_t59, h⟩ := letv_out h
  obtain ⟨nu60, e_nu60, h⟩ := letv_out h
  obtain ⟨y72, e_y72, h⟩ := letv_out h
  obtain ⟨t73, e_t73, h⟩ := letv_out h
  obtain ⟨nu74, e_nu74, h⟩ := letv_out h
  obtain ⟨y86, e_y86, h⟩ := letv_out h
  obtain ⟨t87, e_t87, h⟩ := letv_out h
  obtain ⟨nu88, e_nu88, h⟩ := letv_out h
  obtain ⟨nu100, e_nu100, h⟩ := letv_out h
  obtain ⟨nu112, e_nu112, h⟩ := letv_out h
  obtain ⟨y124, e_y124, h⟩ := letv_out h
  obtain ⟨nu125, e_nu125, h⟩ := letv_out h
  obtain ⟨y138, e_y138, h⟩ := letv_out h
  obtain ⟨t139, e_t139, h⟩ := letv_out h
  obtain ⟨nu140, e_nu140, h⟩ := letv_out h
  obtain ⟨y154, e_y154, h⟩ := letv_out h
  have hy3 : y3.toNatClampNeg < 40 := by rw [← e_y3]; exact hn
  have q_y13 : y13 = mu (61 + vk.toNatClampNeg) 5 := e_y13.symm.trans ((congrFun (up_k e_nu9 (by omega)) 5).trans (congrFun (up_k e_nu6 (by omega)) 5))
  have q_y35 : y35 = mu (61 + vk.toNatClampNeg) 6 := e_y35.symm.trans ((congrFun (up_k e_nu27 (by omega)) 6).trans ((congrFun (up_k e_nu20 (by omega)) 6).trans ((congrFun (up_k e_nu14 (by omega)) 6).trans ((congrFun (up_k e_nu9 (by omega)) 6).trans (congrFun (up_k e_nu6 (by omega)) 6)))))
  have q_y46 : y46 = mu (61 + vk.toNatClampNeg) 7 := e_y46.symm.trans ((congrFun (up_k e_nu36 (by omega)) 7).trans ((congrFun (up_k e_nu27 (by omega)) 7).trans ((congrFun (up_k e_nu20 (by omega)) 7).trans ((congrFun (up_k e_nu14 (by omega)) 7).trans ((congrFun (up_k e_nu9 (by omega)) 7).trans (congrFun (up_k e_nu6 (by omega)) 7))))))
  have q_y138 : y138 = mu (61 + vk.toNatClampNeg) 8 := e_y138.symm.trans ((up_f e_nu125 (by omega)).trans ((up_f e_nu112 (by omega)).trans ((up_f e_nu100 (by omega)).trans ((congrFun (up_k e_nu88 (by omega)) 8).trans ((congrFun (up_k e_nu74 (by omega)) 8).trans ((congrFun (up_k e_nu60 (by omega)) 8).trans ((congrFun (up_k e_nu47 (by omega)) 8).trans ((congrFun (up_k e_nu36 (by omega)) 8).trans ((congrFun (up_k e_nu27 (by omega)) 8).trans ((congrFun (up_k e_nu20 (by omega)) 8).trans ((congrFun (up_k e_nu14 (by omega)) 8).trans ((congrFun (up_k e_nu9 (by omega)) 8).trans (congrFun (up_k e_nu6 (by omega)) 8)))))))))))))
  have q_y124 : y124 = mu 5 3 := e_y124.symm.trans ((congrFun (up_k e_nu112 (by omega)) 3).trans ((congrFun (up_k e_nu100 (by omega)) 3).trans ((congrFun (up_k e_nu88 (by omega)) 3).trans ((congrFun (up_k e_nu74 (by omega)) 3).trans ((congrFun (up_k e_nu60 (by omega)) 3).trans ((congrFun (up_k e_nu47 (by omega)) 3).trans ((congrFun (up_k e_nu36 (by omega)) 3).trans ((congrFun (up_k e_nu27 (by omega)) 3).trans ((congrFun (up_k e_nu20 (by omega)) 3).trans ((congrFun (up_k e_nu14 (by omega)) 3).trans ((congrFun (up_k e_nu9 (by omega)) 3).trans (congrFun (up_k e_nu6 (by omega)) 3))))))))))))
  have q_y154 : y154 = mu (61 + vk.toNatClampNeg) 1 := e_y154.symm.trans ((up_f e_nu140 (by omega)).trans ((up_f e_nu125 (by omega)).trans ((up_f e_nu112 (by omega)).trans ((up_f e_nu100 (by omega)).trans ((congrFun (up_k e_nu88 (by omega)) 1).trans ((congrFun (up_k e_nu74 (by omega)) 1).trans ((congrFun (up_k e_nu60 (by omega)) 1).trans ((congrFun (up_k e_nu47 (by omega)) 1).trans ((congrFun (up_k e_nu36 (by omega)) 1).trans ((congrFun (up_k e_nu27 (by omega)) 1).trans ((congrFun (up_k e_nu20 (by omega)) 1).trans ((congrFun (up_k e_nu14 (by omega)) 1).trans ((congrFun (up_k e_nu9 (by omega)) 1).trans (congrFun (up_k e_nu6 (by omega)) 1))))))))))))))
  have q_y72 : y72 = mu 46 vx.toNatClampNeg := e_y72.symm.trans (congrFun ((up_k e_nu60 (by omega)).trans ((up_k e_nu47 (by omega)).trans ((up_k e_nu36 (by omega)).trans ((up_k e_nu27 (by omega)).trans ((up_k e_nu20 (by omega)).trans ((up_k e_nu14 (by omega)).trans ((up_k e_nu9 (by omega)).trans (up_k e_nu6 (by omega))))))))) _)
  have q_y86 : y86 = upd (mu 46) vx.toNatClampNeg t73 y13.toNatClampNeg := e_y86.symm.trans (congrFun ((up_c e_nu74).trans (by rw [(up_k e_nu60 (by omega)).trans ((up_k e_nu47 (by omega)).trans ((up_k e_nu36 (by omega)).trans ((up_k e_nu27 (by omega)).trans ((up_k e_nu20 (by omega)).trans ((up_k e_nu14 (by omega)).trans ((up_k e_nu9 (by omega)).trans (up_k e_nu6 (by omega))))))))])) _)
  have q_t73 := e_t73.symm
  have q_t87 := e_t87.symm
  have q_t59 := e_t59.symm
  have q_t139 := e_t139.symm
  by_cases c : vx = y154
  · rw [if_pos c] at h
    obtain ⟨nu172, e_nu172, h⟩ := letv_out h
    obtain ⟨hr, hxi⟩ := Prod.mk.inj h
    subst hr hxi
    rw [e_y3]
    refine ⟨e_r2.symm, fun c h1 h2 h3 h4 h5 => ?_, fun x hx => ?_, ⟨?_, ?_, ?_, ?_, ?_, ?_⟩, ?_, ?_, fun f hf => ?_, ?_, ?_, ?_, ?_, ?_⟩
    · rw [show 117 + y3.toNatClampNeg = 77 + y3.toNatClampNeg + 40 by omega] at h1
      exact (up_k e_nu172 h5).trans ((up_k e_nu140 h5).trans ((up_k e_nu125 h5).trans ((up_k e_nu112 h5).trans ((up_k e_nu100 h5).trans ((up_k e_nu88 h4).trans ((up_k e_nu74 h4).trans ((up_k e_nu60 h3).trans ((up_k e_nu47 h2).trans ((up_k e_nu36 h2).trans ((up_k e_nu27 h2).trans ((up_k e_nu20 h2).trans ((up_k e_nu14 h2).trans ((up_k e_nu9 h2).trans (up_k e_nu6 h1))))))))))))))
    · rw [show 117 + y3.toNatClampNeg = 77 + y3.toNatClampNeg + 40 by omega, show xi (77 + y3.toNatClampNeg + 40) = _ from (up_k e_nu172 (by omega)).trans ((up_k e_nu140 (by omega)).trans ((up_k e_nu125 (by omega)).trans ((up_k e_nu112 (by omega)).trans ((up_k e_nu100 (by omega)).trans ((up_k e_nu88 (by omega)).trans ((up_k e_nu74 (by omega)).trans ((up_k e_nu60 (by omega)).trans ((up_k e_nu47 (by omega)).trans ((up_k e_nu36 (by omega)).trans ((up_k e_nu27 (by omega)).trans ((up_k e_nu20 (by omega)).trans ((up_k e_nu14 (by omega)).trans (up_k e_nu9 (by omega)))))))))))))), up_c e_nu6]
      show (if (0 : Nat) ≤ x ∧ x < 0 + 7 then mu 46 (0 + (x - 0)) else _) = _
      rw [if_pos ⟨Nat.zero_le _, by omega⟩, Nat.zero_add, Nat.sub_zero]
    · exact (congrFun (up_k e_nu172 (by omega)) 1).trans ((congrFun (up_k e_nu140 (by omega)) 1).trans ((congrFun (up_k e_nu125 (by omega)) 1).trans ((congrFun (up_k e_nu112 (by omega)) 1).trans ((congrFun (up_k e_nu100 (by omega)) 1).trans ((congrFun (up_k e_nu88 (by omega)) 1).trans ((congrFun (up_k e_nu74 (by omega)) 1).trans ((congrFun (up_k e_nu60 (by omega)) 1).trans ((up_f e_nu47 (by omega)).trans ((up_f e_nu36 (by omega)).trans ((up_f e_nu27 (by omega)).trans ((up_f e_nu20 (by omega)).trans ((up_f e_nu14 (by omega)).trans ((up_v e_nu9).symm)))))))))))))
    · exact ((congrFun (up_k e_nu172 (by omega)) 2).trans ((congrFun (up_k e_nu140 (by omega)) 2).trans ((congrFun (up_k e_nu125 (by omega)) 2).trans ((congrFun (up_k e_nu112 (by omega)) 2).trans ((congrFun (up_k e_nu100 (by omega)) 2).trans ((congrFun (up_k e_nu88 (by omega)) 2).trans ((congrFun (up_k e_nu74 (by omega)) 2).trans ((congrFun (up_k e_nu60 (by omega)) 2).trans ((up_f e_nu47 (by omega)).trans ((up_f e_nu36 (by omega)).trans ((up_f e_nu27 (by omega)).trans ((up_f e_nu20 (by omega)).trans ((up_v e_nu14).symm))))))))))))).trans q_y13
    · exact (congrFun (up_k e_nu172 (by omega)) 3).trans ((congrFun (up_k e_nu140 (by omega)) 3).trans ((congrFun (up_k e_nu125 (by omega)) 3).trans ((congrFun (up_k e_nu112 (by omega)) 3).trans ((congrFun (up_k e_nu100 (by omega)) 3).trans ((congrFun (up_k e_nu88 (by omega)) 3).trans ((congrFun (up_k e_nu74 (by omega)) 3).trans ((congrFun (up_k e_nu60 (by omega)) 3).trans ((up_f e_nu47 (by omega)).trans ((up_f e_nu36 (by omega)).trans ((up_f e_nu27 (by omega)).trans ((up_v e_nu20).symm)))))))))))
    · exact (congrFun (up_k e_nu172 (by omega)) 4).trans ((congrFun (up_k e_nu140 (by omega)) 4).trans ((congrFun (up_k e_nu125 (by omega)) 4).trans ((congrFun (up_k e_nu112 (by omega)) 4).trans ((congrFun (up_k e_nu100 (by omega)) 4).trans ((congrFun (up_k e_nu88 (by omega)) 4).trans ((congrFun (up_k e_nu74 (by omega)) 4).trans ((congrFun (up_k e_nu60 (by omega)) 4).trans ((up_f e_nu47 (by omega)).trans ((up_f e_nu36 (by omega)).trans ((up_v e_nu27).symm))))))))))
    · exact ((congrFun (up_k e_nu172 (by omega)) 5).trans ((congrFun (up_k e_nu140 (by omega)) 5).trans ((congrFun (up_k e_nu125 (by omega)) 5).trans ((congrFun (up_k e_nu112 (by omega)) 5).trans ((congrFun (up_k e_nu100 (by omega)) 5).trans ((congrFun (up_k e_nu88 (by omega)) 5).trans ((congrFun (up_k e_nu74 (by omega)) 5).trans ((congrFun (up_k e_nu60 (by omega)) 5).trans ((up_f e_nu47 (by omega)).trans ((up_v e_nu36).symm)))))))))).trans q_y35
    · exact ((congrFun (up_k e_nu172 (by omega)) 6).trans ((congrFun (up_k e_nu140 (by omega)) 6).trans ((congrFun (up_k e_nu125 (by omega)) 6).trans ((congrFun (up_k e_nu112 (by omega)) 6).trans ((congrFun (up_k e_nu100 (by omega)) 6).trans ((congrFun (up_k e_nu88 (by omega)) 6).trans ((congrFun (up_k e_nu74 (by omega)) 6).trans ((congrFun (up_k e_nu60 (by omega)) 6).trans ((up_v e_nu47).symm))))))))).trans q_y46
    · exact ((congrFun (up_k e_nu172 (by omega)) 1).trans ((congrFun (up_k e_nu140 (by omega)) 1).trans ((congrFun (up_k e_nu125 (by omega)) 1).trans ((congrFun (up_k e_nu112 (by omega)) 1).trans ((congrFun (up_k e_nu100 (by omega)) 1).trans ((congrFun (up_k e_nu88 (by omega)) 1).trans ((congrFun (up_k e_nu74 (by omega)) 1).trans ((up_v e_nu60).symm)))))))).trans q_t59
    · have hp : xi 46 = upd (upd (mu 46) vx.toNatClampNeg t73) y13.toNatClampNeg t87 := (up_k e_nu172 (by omega)).trans ((up_k e_nu140 (by omega)).trans ((up_k e_nu125 (by omega)).trans ((up_k e_nu112 (by omega)).trans ((up_k e_nu100 (by omega)).trans ((up_c e_nu88).trans (by rw [(up_c e_nu74).trans (by rw [(up_k e_nu60 (by omega)).trans ((up_k e_nu47 (by omega)).trans ((up_k e_nu36 (by omega)).trans ((up_k e_nu27 (by omega)).trans ((up_k e_nu20 (by omega)).trans ((up_k e_nu14 (by omega)).trans ((up_k e_nu9 (by omega)).trans (up_k e_nu6 (by omega))))))))])]))))))
      rw [hp, q_t87, q_y86, q_t73, q_y72, q_y13]
    · exact (up_f e_nu172 (by omega)).trans ((up_f e_nu140 (by omega)).trans ((up_f e_nu125 (by omega)).trans ((up_f e_nu112 (by omega)).trans ((up_f e_nu100 (by omega)).trans ((congrFun (up_k e_nu88 (by omega)) f).trans ((congrFun (up_k e_nu74 (by omega)) f).trans ((congrFun (up_k e_nu60 (by omega)) f).trans ((congrFun (up_k e_nu47 (by omega)) f).trans ((congrFun (up_k e_nu36 (by omega)) f).trans ((congrFun (up_k e_nu27 (by omega)) f).trans ((congrFun (up_k e_nu20 (by omega)) f).trans ((congrFun (up_k e_nu14 (by omega)) f).trans ((congrFun (up_k e_nu9 (by omega)) f).trans (congrFun (up_k e_nu6 (by omega)) f))))))))))))))
    · exact (up_f e_nu172 (by omega)).trans ((up_f e_nu140 (by omega)).trans ((up_f e_nu125 (by omega)).trans ((up_f e_nu112 (by omega)).trans ((up_v e_nu100).symm))))
    · exact (up_f e_nu172 (by omega)).trans ((up_f e_nu140 (by omega)).trans ((up_f e_nu125 (by omega)).trans ((up_v e_nu112).symm)))
    · exact ((up_f e_nu172 (by omega)).trans ((up_f e_nu140 (by omega)).trans ((up_v e_nu125).symm))).trans q_y124
    · exact ((up_f e_nu172 (by omega)).trans ((up_v e_nu140).symm)).trans (by rw [q_t139, q_y138])
    · rw [if_pos (by rw [← q_y154]; exact c)]
      exact (up_v e_nu172).symm
  · rw [if_neg c] at h
    obtain ⟨nu156, e_nu156, h⟩ := letv_out h
    obtain ⟨hr, hxi⟩ := Prod.mk.inj h
    subst hr hxi
    rw [e_y3]
    refine ⟨e_r2.symm, fun c h1 h2 h3 h4 h5 => ?_, fun x hx => ?_, ⟨?_, ?_, ?_, ?_, ?_, ?_⟩, ?_, ?_, fun f hf => ?_, ?_, ?_, ?_, ?_, ?_⟩
    · rw [show 117 + y3.toNatClampNeg = 77 + y3.toNatClampNeg + 40 by omega] at h1
      exact (up_k e_nu156 h5).trans ((up_k e_nu140 h5).trans ((up_k e_nu125 h5).trans ((up_k e_nu112 h5).trans ((up_k e_nu100 h5).trans ((up_k e_nu88 h4).trans ((up_k e_nu74 h4).trans ((up_k e_nu60 h3).trans ((up_k e_nu47 h2).trans ((up_k e_nu36 h2).trans ((up_k e_nu27 h2).trans ((up_k e_nu20 h2).trans ((up_k e_nu14 h2).trans ((up_k e_nu9 h2).trans (up_k e_nu6 h1))))))))))))))
    · rw [show 117 + y3.toNatClampNeg = 77 + y3.toNatClampNeg + 40 by omega, show xi (77 + y3.toNatClampNeg + 40) = _ from (up_k e_nu156 (by omega)).trans ((up_k e_nu140 (by omega)).trans ((up_k e_nu125 (by omega)).trans ((up_k e_nu112 (by omega)).trans ((up_k e_nu100 (by omega)).trans ((up_k e_nu88 (by omega)).trans ((up_k e_nu74 (by omega)).trans ((up_k e_nu60 (by omega)).trans ((up_k e_nu47 (by omega)).trans ((up_k e_nu36 (by omega)).trans ((up_k e_nu27 (by omega)).trans ((up_k e_nu20 (by omega)).trans ((up_k e_nu14 (by omega)).trans (up_k e_nu9 (by omega)))))))))))))), up_c e_nu6]
      show (if (0 : Nat) ≤ x ∧ x < 0 + 7 then mu 46 (0 + (x - 0)) else _) = _
      rw [if_pos ⟨Nat.zero_le _, by omega⟩, Nat.zero_add, Nat.sub_zero]
    · exact (congrFun (up_k e_nu156 (by omega)) 1).trans ((congrFun (up_k e_nu140 (by omega)) 1).trans ((congrFun (up_k e_nu125 (by omega)) 1).trans ((congrFun (up_k e_nu112 (by omega)) 1).trans ((congrFun (up_k e_nu100 (by omega)) 1).trans ((congrFun (up_k e_nu88 (by omega)) 1).trans ((congrFun (up_k e_nu74 (by omega)) 1).trans ((congrFun (up_k e_nu60 (by omega)) 1).trans ((up_f e_nu47 (by omega)).trans ((up_f e_nu36 (by omega)).trans ((up_f e_nu27 (by omega)).trans ((up_f e_nu20 (by omega)).trans ((up_f e_nu14 (by omega)).trans ((up_v e_nu9).symm)))))))))))))
    · exact ((congrFun (up_k e_nu156 (by omega)) 2).trans ((congrFun (up_k e_nu140 (by omega)) 2).trans ((congrFun (up_k e_nu125 (by omega)) 2).trans ((congrFun (up_k e_nu112 (by omega)) 2).trans ((congrFun (up_k e_nu100 (by omega)) 2).trans ((congrFun (up_k e_nu88 (by omega)) 2).trans ((congrFun (up_k e_nu74 (by omega)) 2).trans ((congrFun (up_k e_nu60 (by omega)) 2).trans ((up_f e_nu47 (by omega)).trans ((up_f e_nu36 (by omega)).trans ((up_f e_nu27 (by omega)).trans ((up_f e_nu20 (by omega)).trans ((up_v e_nu14).symm))))))))))))).trans q_y13
    · exact (congrFun (up_k e_nu156 (by omega)) 3).trans ((congrFun (up_k e_nu140 (by omega)) 3).trans ((congrFun (up_k e_nu125 (by omega)) 3).trans ((congrFun (up_k e_nu112 (by omega)) 3).trans ((congrFun (up_k e_nu100 (by omega)) 3).trans ((congrFun (up_k e_nu88 (by omega)) 3).trans ((congrFun (up_k e_nu74 (by omega)) 3).trans ((congrFun (up_k e_nu60 (by omega)) 3).trans ((up_f e_nu47 (by omega)).trans ((up_f e_nu36 (by omega)).trans ((up_f e_nu27 (by omega)).trans ((up_v e_nu20).symm)))))))))))
    · exact (congrFun (up_k e_nu156 (by omega)) 4).trans ((congrFun (up_k e_nu140 (by omega)) 4).trans ((congrFun (up_k e_nu125 (by omega)) 4).trans ((congrFun (up_k e_nu112 (by omega)) 4).trans ((congrFun (up_k e_nu100 (by omega)) 4).trans ((congrFun (up_k e_nu88 (by omega)) 4).trans ((congrFun (up_k e_nu74 (by omega)) 4).trans ((congrFun (up_k e_nu60 (by omega)) 4).trans ((up_f e_nu47 (by omega)).trans ((up_f e_nu36 (by omega)).trans ((up_v e_nu27).symm))))))))))
    · exact ((congrFun (up_k e_nu156 (by omega)) 5).trans ((congrFun (up_k e_nu140 (by omega)) 5).trans ((congrFun (up_k e_nu125 (by omega)) 5).trans ((congrFun (up_k e_nu112 (by omega)) 5).trans ((congrFun (up_k e_nu100 (by omega)) 5).trans ((congrFun (up_k e_nu88 (by omega)) 5).trans ((congrFun (up_k e_nu74 (by omega)) 5).trans ((congrFun (up_k e_nu60 (by omega)) 5).trans ((up_f e_nu47 (by omega)).trans ((up_v e_nu36).symm)))))))))).trans q_y35
    · exact ((congrFun (up_k e_nu156 (by omega)) 6).trans ((congrFun (up_k e_nu140 (by omega)) 6).trans ((congrFun (up_k e_nu125 (by omega)) 6).trans ((congrFun (up_k e_nu112 (by omega)) 6).trans ((congrFun (up_k e_nu100 (by omega)) 6).trans ((congrFun (up_k e_nu88 (by omega)) 6).trans ((congrFun (up_k e_nu74 (by omega)) 6).trans ((congrFun (up_k e_nu60 (by omega)) 6).trans ((up_v e_nu47).symm))))))))).trans q_y46
    · exact ((congrFun (up_k e_nu156 (by omega)) 1).trans ((congrFun (up_k e_nu140 (by omega)) 1).trans ((congrFun (up_k e_nu125 (by omega)) 1).trans ((congrFun (up_k e_nu112 (by omega)) 1).trans ((congrFun (up_k e_nu100 (by omega)) 1).trans ((congrFun (up_k e_nu88 (by omega)) 1).trans ((congrFun (up_k e_nu74 (by omega)) 1).trans ((up_v e_nu60).symm)))))))).trans q_t59
    · have hp : xi 46 = upd (upd (mu 46) vx.toNatClampNeg t73) y13.toNatClampNeg t87 := (up_k e_nu156 (by omega)).trans ((up_k e_nu140 (by omega)).trans ((up_k e_nu125 (by omega)).trans ((up_k e_nu112 (by omega)).trans ((up_k e_nu100 (by omega)).trans ((up_c e_nu88).trans (by rw [(up_c e_nu74).trans (by rw [(up_k e_nu60 (by omega)).trans ((up_k e_nu47 (by omega)).trans ((up_k e_nu36 (by omega)).trans ((up_k e_nu27 (by omega)).trans ((up_k e_nu20 (by omega)).trans ((up_k e_nu14 (by omega)).trans ((up_k e_nu9 (by omega)).trans (up_k e_nu6 (by omega))))))))])]))))))
      rw [hp, q_t87, q_y86, q_t73, q_y72, q_y13]
    · exact (up_f e_nu156 (by omega)).trans ((up_f e_nu140 (by omega)).trans ((up_f e_nu125 (by omega)).trans ((up_f e_nu112 (by omega)).trans ((up_f e_nu100 (by omega)).trans ((congrFun (up_k e_nu88 (by omega)) f).trans ((congrFun (up_k e_nu74 (by omega)) f).trans ((congrFun (up_k e_nu60 (by omega)) f).trans ((congrFun (up_k e_nu47 (by omega)) f).trans ((congrFun (up_k e_nu36 (by omega)) f).trans ((congrFun (up_k e_nu27 (by omega)) f).trans ((congrFun (up_k e_nu20 (by omega)) f).trans ((congrFun (up_k e_nu14 (by omega)) f).trans ((congrFun (up_k e_nu9 (by omega)) f).trans (congrFun (up_k e_nu6 (by omega)) f))))))))))))))
    · exact (up_f e_nu156 (by omega)).trans ((up_f e_nu140 (by omega)).trans ((up_f e_nu125 (by omega)).trans ((up_f e_nu112 (by omega)).trans ((up_v e_nu100).symm))))
    · exact (up_f e_nu156 (by omega)).trans ((up_f e_nu140 (by omega)).trans ((up_f e_nu125 (by omega)).trans ((up_v e_nu112).symm)))
    · exact ((up_f e_nu156 (by omega)).trans ((up_f e_nu140 (by omega)).trans ((up_v e_nu125).symm))).trans q_y124
    · exact ((up_f e_nu156 (by omega)).trans ((up_v e_nu140).symm)).trans (by rw [q_t139, q_y138])
    · rw [if_neg (fun e => c (e.trans q_y154.symm))]
      exact (up_v e_nu156).symm
theorem fm_set0 {mu : Nat → Nat → Int32} {k v : Int32} (hk : 0 ≤ k.toInt ∧ k.toInt ≤ 3) : F_sm_setLetter0 mu k v = va_up mu 10 (upd (mu 10) (10 * k.toNatClampNeg + 0) v) := by
  simp only [F_sm_setLetter0, letv_eq]
  rw [ix_10 hk (by decide)]
  rfl
theorem fm_set1 {mu : Nat → Nat → Int32} {k v : Int32} (hk : 0 ≤ k.toInt ∧ k.toInt ≤ 3) : F_sm_setLetter1 mu k v = va_up mu 10 (upd (mu 10) (10 * k.toNatClampNeg + 1) v) := by
  simp only [F_sm_setLetter1, letv_eq]
  rw [ix_10 hk (by decide)]
  rfl
theorem fm_set2 {mu : Nat → Nat → Int32} {k v : Int32} (hk : 0 ≤ k.toInt ∧ k.toInt ≤ 3) : F_sm_setLetter2 mu k v = va_up mu 10 (upd (mu 10) (10 * k.toNatClampNeg + 2) v) := by
  simp only [F_sm_setLetter2, letv_eq]
  rw [ix_10 hk (by decide)]
  rfl
theorem fm_set3 {mu : Nat → Nat → Int32} {k v : Int32} (hk : 0 ≤ k.toInt ∧ k.toInt ≤ 3) : F_sm_setLetter3 mu k v = va_up mu 10 (upd (mu 10) (10 * k.toNatClampNeg + 3) v) := by
  simp only [F_sm_setLetter3, letv_eq]
  rw [ix_10 hk (by decide)]
  rfl
theorem fm_set4 {mu : Nat → Nat → Int32} {k v : Int32} (hk : 0 ≤ k.toInt ∧ k.toInt ≤ 3) : F_sm_setLetter4 mu k v = va_up mu 10 (upd (mu 10) (10 * k.toNatClampNeg + 4) v) := by
  simp only [F_sm_setLetter4, letv_eq]
  rw [ix_10 hk (by decide)]
  rfl
theorem fm_set5 {mu : Nat → Nat → Int32} {k v : Int32} (hk : 0 ≤ k.toInt ∧ k.toInt ≤ 3) : F_sm_setLetter5 mu k v = va_up mu 10 (upd (mu 10) (10 * k.toNatClampNeg + 5) v) := by
  simp only [F_sm_setLetter5, letv_eq]
  rw [ix_10 hk (by decide)]
  rfl
theorem fm_set6 {mu : Nat → Nat → Int32} {k v : Int32} (hk : 0 ≤ k.toInt ∧ k.toInt ≤ 3) : F_sm_setLetter6 mu k v = va_up mu 10 (upd (mu 10) (10 * k.toNatClampNeg + 6) v) := by
  simp only [F_sm_setLetter6, letv_eq]
  rw [ix_10 hk (by decide)]
  rfl
theorem fm_set7 {mu : Nat → Nat → Int32} {k v : Int32} (hk : 0 ≤ k.toInt ∧ k.toInt ≤ 3) : F_sm_setLetter7 mu k v = va_up mu 10 (upd (mu 10) (10 * k.toNatClampNeg + 7) v) := by
  simp only [F_sm_setLetter7, letv_eq]
  rw [ix_10 hk (by decide)]
  rfl
theorem fm_set8 {mu : Nat → Nat → Int32} {k v : Int32} (hk : 0 ≤ k.toInt ∧ k.toInt ≤ 3) : F_sm_setLetter8 mu k v = va_up mu 10 (upd (mu 10) (10 * k.toNatClampNeg + 8) v) := by
  simp only [F_sm_setLetter8, letv_eq]
  rw [ix_10 hk (by decide)]
  rfl
theorem fm_set9 {mu : Nat → Nat → Int32} {k v : Int32} (hk : 0 ≤ k.toInt ∧ k.toInt ≤ 3) : F_sm_setLetter9 mu k v = va_up mu 10 (upd (mu 10) (10 * k.toNatClampNeg + 9) v) := by
  simp only [F_sm_setLetter9, letv_eq]
  rw [ix_10 hk (by decide)]
  rfl
theorem lm_sell {r3 r4 t2 vk vx y1 : Int32} {T : Nat} (ht : t2.toInt = (T : Int)) (hT : T ≤ 468) : ∀ (n : Nat) (i : Int32) (nu : Nat → Nat → Int32), 0 ≤ i.toInt → i.toInt ≤ 7 → (7 - i.toInt).toNat < n → ∃ (m : Nat) (nu1 : Nat → Nat → Int32), L_sm_sellTo_83_0 r3 r4 t2 vk vx y1 n i nu = L_sm_sellTo_83_0 r3 r4 t2 vk vx y1 (m + 1) 7 nu1 ∧ ∀ k f : Nat, nu1 k f = if k = 14 ∧ T + 5 + i.toNatClampNeg ≤ f ∧ f < T + 12 then nu 8 (f - (T + 5)) else nu k f := by
  intro n
  induction n with
  | zero => intro i nu _ _ h; exact absurd h (Nat.not_lt_zero _)
  | succ n ih =>
    intro i nu h0 h4 hn
    have z7 : (7 : Int32).toInt = 7 := rfl
    have hc := tC_of h0
    by_cases c : i.toInt = 7
    · have ei : i = 7 := Int32.toInt_inj.mp (by omega)
      refine ⟨n, nu, by rw [ei], fun k f => ?_⟩
      rw [if_neg (fun h => by omega)]
    · have ai : (i + 1 : Int32).toInt = i.toInt + 1 := tI_add rfl (rfl : (1 : Int32).toInt = 1) (by omega) (by omega)
      have hc1 := tC_of (v := i + 1) (by omega)
      have a1 : (t2 + 5 : Int32).toInt = (T : Int) + 5 := tI_add ht (rfl : (5 : Int32).toInt = 5) (by omega) (by omega)
      have a2 : (t2 + 5 + i : Int32).toInt = (T : Int) + 5 + i.toInt := tI_add a1 rfl (by omega) (by omega)
      have a3 := tC_of (v := t2 + 5 + i) (by omega)
      have a4 : (t2 + 5 + i : Int32).toNatClampNeg = T + 5 + i.toNatClampNeg := by omega
      have st : L_sm_sellTo_83_0 r3 r4 t2 vk vx y1 (n + 1) i nu = L_sm_sellTo_83_0 r3 r4 t2 vk vx y1 n (i + 1) (va_up nu 14 (upd (nu 14) (T + 5 + i.toNatClampNeg) (nu 8 i.toNatClampNeg))) := by
        rw [L_sm_sellTo_83_0]
        rw [if_neg (fun e => by have := vv_ge.mp e; omega)]
        simp only [letv_eq]
        rw [a4]
      rw [st]
      generalize hv : va_up nu 14 (upd (nu 14) (T + 5 + i.toNatClampNeg) (nu 8 i.toNatClampNeg)) = nu2
      obtain ⟨m, nu1, g1, g2⟩ := ih (i + 1) nu2 (by omega) (by omega) (by omega)
      refine ⟨m, nu1, g1, fun k f => ?_⟩
      have k8 : nu2 8 = nu 8 := up_k hv (by decide)
      rw [g2 k f, k8]
      by_cases e : k = 14 ∧ f = T + 5 + i.toNatClampNeg
      · obtain ⟨e, ef⟩ := e
        subst e ef
        rw [if_neg (fun h => by omega), if_pos ⟨rfl, by omega, by omega⟩, ← up_v hv, show T + 5 + i.toNatClampNeg - (T + 5) = i.toNatClampNeg by omega]
      · have st2 : nu2 k f = nu k f := by
          by_cases ek : k = 14
          · subst ek
            exact up_f hv (fun h => e ⟨rfl, h⟩)
          · exact congrFun (up_k hv ek) f
        rw [st2]
        by_cases c5 : k = 14 ∧ T + 5 + i.toNatClampNeg ≤ f ∧ f < T + 12
        · rw [if_pos (by omega), if_pos c5]
        · rw [if_neg (by omega), if_neg c5]
theorem es_m {mu : Nat → Nat → Int32} {vk vx : Int32} {xi : Nat → Nat → Int32} (hk : 0 ≤ vk.toInt ∧ vk.toInt ≤ 3) (hn : 0 ≤ (mu 0 17).toInt ∧ (mu 0 17).toInt < 40) (h : xi = F_sm_sellTo mu vk vx) : (∀ c : Nat, c ≠ 14 → c ≠ 0 → c ≠ 8 → c ≠ 10 → xi c = mu c) ∧ (∀ f : Nat, f ≠ 17 → xi 0 f = mu 0 f) ∧ xi 0 17 = mu 0 17 + 1 ∧ (∀ f : Nat, f < 12 * (mu 0 17).toNatClampNeg ∨ 12 * (mu 0 17).toNatClampNeg + 12 ≤ f → xi 14 f = mu 14 f) ∧ (xi 14 (12 * (mu 0 17).toNatClampNeg) = vk ∧ xi 14 (12 * (mu 0 17).toNatClampNeg + 1) = mu 10 (10 * vk.toNatClampNeg + 5) ∧ xi 14 (12 * (mu 0 17).toNatClampNeg + 2) = mu 10 (10 * vk.toNatClampNeg + 6) ∧ xi 14 (12 * (mu 0 17).toNatClampNeg + 3) = mu 10 (10 * vk.toNatClampNeg + 8) ∧ xi 14 (12 * (mu 0 17).toNatClampNeg + 4) = F_sm_priceOf mu vk) ∧ (∀ x : Nat, x < 7 → xi 14 (12 * (mu 0 17).toNatClampNeg + 5 + x) = mu 8 x) ∧ xi 8 = upd (upd (mu 8) vx.toNatClampNeg (mu 8 vx.toNatClampNeg - F_sm_priceOf mu vk)) (mu 10 (10 * vk.toNatClampNeg + 5)).toNatClampNeg (upd (mu 8) vx.toNatClampNeg (mu 8 vx.toNatClampNeg - F_sm_priceOf mu vk) (mu 10 (10 * vk.toNatClampNeg + 5)).toNatClampNeg + F_sm_priceOf mu vk) ∧ (∀ f : Nat, f < 10 * vk.toNatClampNeg + 5 ∨ 10 * vk.toNatClampNeg + 10 ≤ f → xi 10 f = mu 10 f) ∧ xi 10 (10 * vk.toNatClampNeg + 5) = vx ∧ xi 10 (10 * vk.toNatClampNeg + 6) = F_sm_priceOf mu vk ∧ xi 10 (10 * vk.toNatClampNeg + 7) = mu 10 (10 * vk.toNatClampNeg + 7) + 1 ∧ xi 10 (10 * vk.toNatClampNeg + 8) = mu 0 14 ∧ xi 10 (10 * vk.toNatClampNeg + 9) = (if vx = mu 10 (10 * vk.toNatClampNeg + 1) then 1 else 0) := by
  have hc := tC_of hk.1
  have hcn := tC_of hn.1
  unfold F_sm_sellTo at h
  obtain ⟨y1, e_y1, h⟩ := letv_out h
  obtain ⟨t2, e_t2, h⟩ := letv_out h
  obtain ⟨r3, e_r3, h⟩ := letv_out h
  obtain ⟨r4, e_r4, h⟩ := letv_out h
  obtain ⟨nu6, e_nu6, h⟩ := letv_out h
  obtain ⟨t9, e_t9, h⟩ := letv_out h
  obtain ⟨nu11, e_nu11, h⟩ := letv_out h
  obtain ⟨t14, e_t14, h⟩ := letv_out h
  obtain ⟨r15, e_r15, h⟩ := letv_out h
  obtain ⟨nu17, e_nu17, h⟩ := letv_out h
  obtain ⟨t20, e_t20, h⟩ := letv_out h
  obtain ⟨r21, e_r21, h⟩ := letv_out h
  obtain ⟨nu23, e_nu23, h⟩ := letv_out h
  obtain ⟨t26, e_t26, h⟩ := letv_out h
  obtain ⟨nu28, e_nu28, h⟩ := letv_out h
  have a2 : t2.toInt = 12 * (mu 0 17).toInt := by
    rw [← e_t2, ← e_y1]
    exact tI_mul (rfl : (12 : Int32).toInt = 12) rfl (by omega) (by omega)
  have b2 := tC_of (v := t2) (by omega)
  have n2 : t2.toNatClampNeg = 12 * (mu 0 17).toNatClampNeg := by omega
  have a_t9 : t9.toInt = 12 * (mu 0 17).toInt + 1 := by
    rw [← e_t9]
    exact tI_add a2 (rfl : (1 : Int32).toInt = 1) (by omega) (by omega)
  have b_t9 := tC_of (v := t9) (by omega)
  have n_t9 : t9.toNatClampNeg = 12 * (mu 0 17).toNatClampNeg + 1 := by omega
  have a_t14 : t14.toInt = 12 * (mu 0 17).toInt + 2 := by
    rw [← e_t14]
    exact tI_add a2 (rfl : (2 : Int32).toInt = 2) (by omega) (by omega)
  have b_t14 := tC_of (v := t14) (by omega)
  have n_t14 : t14.toNatClampNeg = 12 * (mu 0 17).toNatClampNeg + 2 := by omega
  have a_t20 : t20.toInt = 12 * (mu 0 17).toInt + 3 := by
    rw [← e_t20]
    exact tI_add a2 (rfl : (3 : Int32).toInt = 3) (by omega) (by omega)
  have b_t20 := tC_of (v := t20) (by omega)
  have n_t20 : t20.toNatClampNeg = 12 * (mu 0 17).toNatClampNeg + 3 := by omega
  have a_t26 : t26.toInt = 12 * (mu 0 17).toInt + 4 := by
    rw [← e_t26]
    exact tI_add a2 (rfl : (4 : Int32).toInt = 4) (by omega) (by omega)
  have b_t26 := tC_of (v := t26) (by omega)
  have n_t26 : t26.toNatClampNeg = 12 * (mu 0 17).toNatClampNeg + 4 := by omega
  rw [fm_letterOf5 hk] at e_r3
  rw [fm_letterOf hk (by decide)] at e_r15
  rw [fm_letterOf hk (by decide)] at e_r21
  rw [n2] at e_nu6
  rw [n_t9] at e_nu11
  rw [n_t14] at e_nu17
  rw [n_t20] at e_nu23
  rw [n_t26] at e_nu28
  have q_r15 : r15 = mu 10 (10 * vk.toNatClampNeg + 6) := e_r15.symm.trans ((congrFun (up_k e_nu11 (by decide)) _).trans (congrFun (up_k e_nu6 (by decide)) _))
  have q_r21 : r21 = mu 10 (10 * vk.toNatClampNeg + 8) := e_r21.symm.trans ((congrFun (up_k e_nu17 (by decide)) _).trans ((congrFun (up_k e_nu11 (by decide)) _).trans (congrFun (up_k e_nu6 (by decide)) _)))
  obtain ⟨m, nv, g1, g2⟩ := lm_sell (r3 := r3) (r4 := r4) (t2 := t2) (vk := vk) (vx := vx) (y1 := y1) (T := 12 * (mu 0 17).toNatClampNeg) (by omega) (by omega) 10 0 nu28 (by decide) (by decide) (by decide)
  rw [g1, L_sm_sellTo_83_0, if_pos (by decide)] at h
  rw [show (0 : Int32).toNatClampNeg = 0 from rfl, Nat.add_zero] at g2
  obtain ⟨t32, e_t32, h⟩ := letv_out h
  obtain ⟨nu33, e_nu33, h⟩ := letv_out h
  obtain ⟨y36, e_y36, h⟩ := letv_out h
  obtain ⟨t37, e_t37, h⟩ := letv_out h
  obtain ⟨nu38, e_nu38, h⟩ := letv_out h
  obtain ⟨y41, e_y41, h⟩ := letv_out h
  obtain ⟨t42, e_t42, h⟩ := letv_out h
  obtain ⟨nu43, e_nu43, h⟩ := letv_out h
  obtain ⟨xi46, e_xi46, h⟩ := letv_out h
  obtain ⟨xi48, e_xi48, h⟩ := letv_out h
  obtain ⟨r50, e_r50, h⟩ := letv_out h
  obtain ⟨t51, e_t51, h⟩ := letv_out h
  obtain ⟨xi52, e_xi52, h⟩ := letv_out h
  obtain ⟨y54, e_y54, h⟩ := letv_out h
  obtain ⟨xi55, e_xi55, h⟩ := letv_out h
  obtain ⟨r57, e_r57, h⟩ := letv_out h
  rw [fm_set5 hk] at e_xi46
  rw [fm_set6 hk] at e_xi48
  rw [fm_set7 hk] at e_xi52
  rw [fm_set8 hk] at e_xi55
  rw [fm_letterOf hk (by decide)] at e_r50
  rw [fm_letterOf hk (by decide)] at e_r57
  have v8 : nv 8 = mu 8 := funext fun f => by
    rw [g2 8 f, if_neg (fun h => by omega)]
    exact (congrFun (up_k e_nu28 (by decide)) f).trans ((congrFun (up_k e_nu23 (by decide)) f).trans ((congrFun (up_k e_nu17 (by decide)) f).trans ((congrFun (up_k e_nu11 (by decide)) f).trans (congrFun (up_k e_nu6 (by decide)) f))))
  have v10 : nv 10 = mu 10 := funext fun f => by
    rw [g2 10 f, if_neg (fun h => by omega)]
    exact (congrFun (up_k e_nu28 (by decide)) f).trans ((congrFun (up_k e_nu23 (by decide)) f).trans ((congrFun (up_k e_nu17 (by decide)) f).trans ((congrFun (up_k e_nu11 (by decide)) f).trans (congrFun (up_k e_nu6 (by decide)) f))))
  have v0 : nv 0 = mu 0 := funext fun f => by
    rw [g2 0 f, if_neg (fun h => by omega)]
    exact (congrFun (up_k e_nu28 (by decide)) f).trans ((congrFun (up_k e_nu23 (by decide)) f).trans ((congrFun (up_k e_nu17 (by decide)) f).trans ((congrFun (up_k e_nu11 (by decide)) f).trans (congrFun (up_k e_nu6 (by decide)) f))))
  have vc : ∀ c : Nat, c ≠ 14 → nv c = mu c := fun c hc14 => funext fun f => by
    rw [g2 c f, if_neg (fun h => hc14 h.1)]
    exact (congrFun (up_k e_nu28 hc14) f).trans ((congrFun (up_k e_nu23 hc14) f).trans ((congrFun (up_k e_nu17 hc14) f).trans ((congrFun (up_k e_nu11 hc14) f).trans (congrFun (up_k e_nu6 hc14) f))))
  have hA : nu33 8 = mu 8 := (up_k e_nu33 (by decide)).trans v8
  have hB : nu38 8 = upd (mu 8) vx.toNatClampNeg t37 := (up_c e_nu38).trans (by rw [hA])
  have hC : nu43 8 = upd (upd (mu 8) vx.toNatClampNeg t37) r3.toNatClampNeg t42 := (up_c e_nu43).trans (by rw [hB])
  have qA : y36 = mu 8 vx.toNatClampNeg := e_y36.symm.trans (congrFun hA _)
  have qB : y41 = upd (mu 8) vx.toNatClampNeg t37 r3.toNatClampNeg := e_y41.symm.trans (congrFun hB _)
  have w10 : nu43 10 = mu 10 := (up_k e_nu43 (by decide)).trans ((up_k e_nu38 (by decide)).trans ((up_k e_nu33 (by decide)).trans v10))
  have q7 : r50 = mu 10 (10 * vk.toNatClampNeg + 7) := e_r50.symm.trans ((up_f e_xi48 (show 10 * vk.toNatClampNeg + 7 ≠ 10 * vk.toNatClampNeg + 6 by omega)).trans ((up_f e_xi46 (show 10 * vk.toNatClampNeg + 7 ≠ 10 * vk.toNatClampNeg + 5 by omega)).trans (congrFun w10 _)))
  have qD : y54 = mu 0 14 := e_y54.symm.trans ((congrFun (up_k e_xi52 (by decide)) 14).trans ((congrFun (up_k e_xi48 (by decide)) 14).trans ((congrFun (up_k e_xi46 (by decide)) 14).trans ((congrFun (up_k e_nu43 (by decide)) 14).trans ((congrFun (up_k e_nu38 (by decide)) 14).trans ((up_f e_nu33 (by decide)).trans (congrFun v0 14)))))))
  have q1 : r57 = mu 10 (10 * vk.toNatClampNeg + 1) := e_r57.symm.trans ((up_f e_xi55 (show 10 * vk.toNatClampNeg + 1 ≠ 10 * vk.toNatClampNeg + 8 by omega)).trans ((up_f e_xi52 (show 10 * vk.toNatClampNeg + 1 ≠ 10 * vk.toNatClampNeg + 7 by omega)).trans ((up_f e_xi48 (show 10 * vk.toNatClampNeg + 1 ≠ 10 * vk.toNatClampNeg + 6 by omega)).trans ((up_f e_xi46 (show 10 * vk.toNatClampNeg + 1 ≠ 10 * vk.toNatClampNeg + 5 by omega)).trans (congrFun w10 _)))))
  obtain ⟨x9, e_x9, hx⟩ : ∃ x9 : Nat → Nat → Int32, va_up xi55 10 (upd (xi55 10) (10 * vk.toNatClampNeg + 9) (if vx = mu 10 (10 * vk.toNatClampNeg + 1) then 1 else 0)) = x9 ∧ xi = x9 := by
    refine ⟨_, rfl, ?_⟩
    rw [h]
    simp only [letv_eq]
    rw [q1]
    by_cases c : vx = mu 10 (10 * vk.toNatClampNeg + 1)
    · rw [if_pos c, if_pos c, fm_set9 hk]
    · rw [if_neg c, if_neg c, fm_set9 hk]
  subst hx
  have x14 : xi 14 = nv 14 := (up_k e_x9 (by decide)).trans ((up_k e_xi55 (by decide)).trans ((up_k e_xi52 (by decide)).trans ((up_k e_xi48 (by decide)).trans ((up_k e_xi46 (by decide)).trans ((up_k e_nu43 (by decide)).trans ((up_k e_nu38 (by decide)).trans (up_k e_nu33 (by decide))))))))
  have x0 : xi 0 = nu33 0 := (up_k e_x9 (by decide)).trans ((up_k e_xi55 (by decide)).trans ((up_k e_xi52 (by decide)).trans ((up_k e_xi48 (by decide)).trans ((up_k e_xi46 (by decide)).trans ((up_k e_nu43 (by decide)).trans (up_k e_nu38 (by decide)))))))
  have x8_ : xi 8 = nu43 8 := (up_k e_x9 (by decide)).trans ((up_k e_xi55 (by decide)).trans ((up_k e_xi52 (by decide)).trans ((up_k e_xi48 (by decide)).trans (up_k e_xi46 (by decide)))))
  have n14 : ∀ f : Nat, (∀ i : Nat, i < 5 → f ≠ 12 * (mu 0 17).toNatClampNeg + i) → nu28 14 f = mu 14 f := fun f hf => (up_f e_nu28 (hf 4 (by decide))).trans ((up_f e_nu23 (hf 3 (by decide))).trans ((up_f e_nu17 (hf 2 (by decide))).trans ((up_f e_nu11 (hf 1 (by decide))).trans (up_f e_nu6 (hf 0 (by decide))))))
  refine ⟨fun c h1 h2 h3 h4 => ?_, fun f hf => ?_, ?_, fun f hf => ?_, ⟨?_, ?_, ?_, ?_, ?_⟩, fun x hx => ?_, ?_, fun f hf => ?_, ?_, ?_, ?_, ?_, ?_⟩
  · exact (up_k e_x9 h4).trans ((up_k e_xi55 h4).trans ((up_k e_xi52 h4).trans ((up_k e_xi48 h4).trans ((up_k e_xi46 h4).trans ((up_k e_nu43 h3).trans ((up_k e_nu38 h3).trans ((up_k e_nu33 h2).trans (vc c h1))))))))
  · rw [x0]
    exact (up_f e_nu33 hf).trans (congrFun v0 f)
  · rw [x0, ← up_v e_nu33, ← e_t32, ← e_y1]
  · rw [x14, g2 14 f, if_neg (fun h => by omega)]
    exact n14 f (fun i hi => by omega)
  · rw [x14, g2, if_neg (fun h => by omega)]
    exact (up_f e_nu28 (by omega)).trans ((up_f e_nu23 (by omega)).trans ((up_f e_nu17 (by omega)).trans ((up_f e_nu11 (by omega)).trans (up_v e_nu6).symm)))
  · rw [x14, g2, if_neg (fun h => by omega)]
    exact ((up_f e_nu28 (by omega)).trans ((up_f e_nu23 (by omega)).trans ((up_f e_nu17 (by omega)).trans (up_v e_nu11).symm))).trans e_r3.symm
  · rw [x14, g2, if_neg (fun h => by omega)]
    exact ((up_f e_nu28 (by omega)).trans ((up_f e_nu23 (by omega)).trans (up_v e_nu17).symm)).trans q_r15
  · rw [x14, g2, if_neg (fun h => by omega)]
    exact ((up_f e_nu28 (by omega)).trans (up_v e_nu23).symm).trans q_r21
  · rw [x14, g2, if_neg (fun h => by omega)]
    exact ((up_v e_nu28).symm).trans e_r4.symm
  · rw [x14, g2, if_pos ⟨rfl, by omega, by omega⟩, show 12 * (mu 0 17).toNatClampNeg + 5 + x - (12 * (mu 0 17).toNatClampNeg + 5) = x by omega]
    exact (congrFun (up_k e_nu28 (by decide)) x).trans ((congrFun (up_k e_nu23 (by decide)) x).trans ((congrFun (up_k e_nu17 (by decide)) x).trans ((congrFun (up_k e_nu11 (by decide)) x).trans (congrFun (up_k e_nu6 (by decide)) x))))
  · rw [x8_, hC, ← e_t42, qB, ← e_t37, qA, ← e_r4, ← e_r3]
  · exact (up_f e_x9 (by omega)).trans ((up_f e_xi55 (by omega)).trans ((up_f e_xi52 (by omega)).trans ((up_f e_xi48 (by omega)).trans ((up_f e_xi46 (by omega)).trans (congrFun w10 f)))))
  · exact (up_f e_x9 (by omega)).trans ((up_f e_xi55 (by omega)).trans ((up_f e_xi52 (by omega)).trans ((up_f e_xi48 (by omega)).trans (up_v e_xi46).symm)))
  · exact ((up_f e_x9 (by omega)).trans ((up_f e_xi55 (by omega)).trans ((up_f e_xi52 (by omega)).trans (up_v e_xi48).symm))).trans e_r4.symm
  · exact ((up_f e_x9 (by omega)).trans ((up_f e_xi55 (by omega)).trans (up_v e_xi52).symm)).trans (by rw [← e_t51, q7])
  · exact ((up_f e_x9 (by omega)).trans (up_v e_xi55).symm).trans qD
  · exact (up_v e_x9).symm

-- ===== the core of both tables =====
theorem buyers_eq {mux mum : Nat → Nat → Int32} {k : Int32} (hk : 0 ≤ k.toInt ∧ k.toInt ≤ 3) (hK : simK mux mum) (hb : 0 ≤ (mum 0 8).toInt ∧ (mum 0 8).toInt ≤ 7) (hp : 0 ≤ (mum 0 11).toInt ∧ (mum 0 11).toInt ≤ 12) (he : ∀ j : Nat, j < (mum 0 11).toNatClampNeg → (0 ≤ (mum 9 (2 * j)).toInt ∧ (mum 9 (2 * j)).toInt < (mum 0 8).toInt) ∧ (0 ≤ (mum 9 (2 * j + 1)).toInt ∧ (mum 9 (2 * j + 1)).toInt < (mum 0 8).toInt)) (hP : ∀ x : Nat, x < (mum 0 8).toNatClampNeg → mux 46 x = mum 8 x) (hs : mux 5 2 = mum 0 13) (hd : mux 5 3 = mum 0 14) (h : oneR (mum 0 8).toInt (mux (61 + k.toNatClampNeg)) (mum 10) k.toNatClampNeg) : F_sx_buyersOf mux (61 + k.toNatClampNeg) = F_sm_canSell mum k := by
  have h0 := h
  obtain ⟨f, f1, f5, f9⟩ := h
  have h9 : mux (61 + k.toNatClampNeg) 9 = mum 10 (10 * k.toNatClampNeg + 9) := f 9 (by decide)
  have h7 : mux (61 + k.toNatClampNeg) 7 = mum 10 (10 * k.toNatClampNeg + 8) := f 7 (by decide)
  have h5 : mux (61 + k.toNatClampNeg) 5 = mum 10 (10 * k.toNatClampNeg + 5) := f 5 (by decide)
  have e9 : F_sm_isRead mum k = mux (61 + k.toNatClampNeg) 9 := by
    simp only [F_sm_isRead, letv_eq]
    rw [fm_letterOf hk (by decide), show (9 : Int32).toNatClampNeg = 9 from rfl, ← h9]
    rcases f9 with e | e <;> rw [e] <;> decide
  simp only [F_sx_buyersOf, F_sm_canSell, letv_eq]
  rw [e9]
  by_cases c : mux (61 + k.toNatClampNeg) 9 = 0
  · rw [if_pos c, if_pos c, fm_letterOf hk (by decide), show (8 : Int32).toNatClampNeg = 8 from rfl, ← h7, hd]
    by_cases c2 : mux (61 + k.toNatClampNeg) 7 = mum 0 14
    · rw [if_pos c2, if_pos c2]
    · rw [if_neg c2, if_neg c2, price_eq hk hK hb h0, fm_letterOf5 hk, ← h5, near_eq hK hp hs]
      refine buy_loop hk hK hb hP rfl h0 ?_ 10 _ 0 0 (by decide) (by show (0 : Int) ≤ _; exact hb.1) (by decide) (fun j hj => ?_) (fun j hj hq => ?_)
      · intro j hj hq
        exact near_rng hp he hb 15 0 0 (by decide) (by decide) (fun j hj hq => by rw [b_zero j hj] at hq; cases hq) j hj hq
      · rw [if_neg (by show ¬ (j : Int) < 0; omega)]
      · rw [b_zero j hj] at hq
        cases hq
  · rw [if_neg c, if_neg c]
def salN (n : Nat) (mux mum : Nat → Nat → Int32) : Prop := ∀ s : Nat, s < n → (mux (77 + s) 1 = mum 14 (12 * s) ∧ 0 ≤ (mum 14 (12 * s)).toInt ∧ (mum 14 (12 * s)).toInt < (mum 0 15).toInt) ∧ (mux (77 + s) 2 = mum 14 (12 * s + 1) ∧ 0 ≤ (mum 14 (12 * s + 1)).toInt ∧ (mum 14 (12 * s + 1)).toInt < (mum 0 8).toInt) ∧ mux (77 + s) 5 = mum 14 (12 * s + 2) ∧ mux (77 + s) 6 = mum 14 (12 * s + 3) ∧ mux (77 + s) 4 = mum 14 (12 * s + 4) ∧ ∀ x : Nat, x < (mum 0 8).toNatClampNeg → mux (117 + s) x = mum 14 (12 * s + 5 + x)
def salR (mux mum : Nat → Nat → Int32) : Prop := salN (mum 0 17).toNatClampNeg mux mum
def kepR (mux mum : Nat → Nat → Int32) : Prop := ∀ j : Nat, j < 3 → (mux (18 + j) 5 = 0 ∧ mum 15 (64 * j) = -9) ∨ (¬ mux (18 + j) 5 = 0 ∧ (0 ≤ (mum 15 (64 * j)).toInt ∧ (mum 15 (64 * j)).toInt ≤ 99) ∧ mux (18 + j) 3 = mum 15 (64 * j) ∧ mux (18 + j) 2 = mum 15 (64 * j + 1) ∧ mux (18 + j) 4 = mum 15 (64 * j + 2) ∧ (0 ≤ (mum 15 (64 * j + 2)).toInt ∧ (mum 15 (64 * j + 2)).toInt ≤ 4) ∧ (∀ x : Nat, x < (mum 0 8).toNatClampNeg → mux (40 + j) x = mum 15 (64 * j + 3 + x)) ∧ letR (mum 0 8).toInt (mum 15 (64 * j + 2)).toNatClampNeg (fun k => mux (65 + 4 * j + k)) (fun i => mum 15 (64 * j + 10 + i)))
def core (mux mum : Nat → Nat → Int32) : Prop := simK mux mum ∧ endR mum ∧ (mux 5 2 = mum 0 13 ∧ mux 5 3 = mum 0 14 ∧ mux 5 4 = mum 0 15 ∧ mux 6 1 = mum 0 17) ∧ (0 ≤ (mum 0 14).toInt ∧ (mum 0 14).toInt ≤ 99) ∧ (∀ x : Nat, x < (mum 0 8).toNatClampNeg → mux 46 x = mum 8 x) ∧ letR (mum 0 8).toInt (mum 0 15).toNatClampNeg (fun k => mux (61 + k)) (mum 10) ∧ salR mux mum ∧ kepR mux mum
def bdM (mum : Nat → Nat → Int32) : Prop := (0 ≤ (mum 0 8).toInt ∧ (mum 0 8).toInt ≤ 7) ∧ (0 ≤ (mum 0 11).toInt ∧ (mum 0 11).toInt ≤ 12) ∧ (0 ≤ (mum 0 15).toInt ∧ (mum 0 15).toInt ≤ 4) ∧ (0 ≤ (mum 0 17).toInt ∧ (mum 0 17).toInt ≤ 40)
theorem bd_of {mum : Nat → Nat → Int32} (okm : okR loM hiM mum) : bdM mum := ⟨okm 0 8, okm 0 11, okm 0 15, okm 0 17⟩
theorem letR_of {B : Int} {n : Nat} {lx lx' : Nat → Nat → Int32} {lm lm' : Nat → Int32} (h : letR B n lx lm) (h1 : ∀ k : Nat, k < n → lx' k = lx k) (h2 : ∀ k : Nat, k < n → ∀ f : Nat, f < 10 → lm' (10 * k + f) = lm (10 * k + f)) : letR B n lx' lm' := by
  intro k hk
  obtain ⟨a, b, c, d⟩ := h k hk
  have pl : ∀ f : Nat, f < 10 → pfm f < 10 := by decide
  rw [h1 k hk]
  exact ⟨fun f hf => by rw [a f hf, h2 k hk _ (pl f hf)], b, c, d⟩
theorem kepR_of {mux mum xi1 xi2 : Nat → Nat → Int32} (h : kepR mux mum) (h1 : ∀ c : Nat, (18 ≤ c ∧ c < 21) ∨ (40 ≤ c ∧ c < 43) ∨ (65 ≤ c ∧ c < 77) → xi1 c = mux c) (h2 : xi2 15 = mum 15) (h3 : xi2 0 8 = mum 0 8) : kepR xi1 xi2 := by
  intro j hj
  rw [h2, h3, h1 (18 + j) (by omega), h1 (40 + j) (by omega)]
  rcases h j hj with a | ⟨a, b, c, d, e, e2, p, l⟩
  · exact Or.inl a
  · refine Or.inr ⟨a, b, c, d, e, e2, p, letR_of l (fun k hk => h1 _ ?_) (fun k hk f hf => rfl)⟩
    have := tC_of e2.1
    omega
theorem purse_two {A A' : Nat → Int32} {n x h : Nat} {p : Int32} (hA : ∀ z : Nat, z < n → A z = A' z) (hx : x < n) (hh : h < n) : ∀ z : Nat, z < n → upd (upd A x (A x - p)) h (upd A x (A x - p) h + p) z = upd (upd A' x (A' x - p)) h (upd A' x (A' x - p) h + p) z := by
  intro z hz
  simp only [upd]
  rw [hA x hx, hA h hh, hA z hz]
theorem sale_rel {mux mum xi1 xi2 : Nat → Nat → Int32} {k x r : Int32} (bd : bdM mum) (hC : core mux mum) (hk : 0 ≤ k.toInt ∧ k.toInt < (mum 0 15).toInt) (hx : 0 ≤ x.toInt ∧ x.toInt < (mum 0 8).toInt) (hn : (mum 0 17).toInt < 40) (h1 : (r, xi1) = F_sx_enterSale mux k x) (h2 : xi2 = F_sm_sellTo mum k x) : r = F_sm_priceOf mum k ∧ core xi1 xi2 ∧ xi1 (61 + k.toNatClampNeg) 9 = xi2 10 (10 * k.toNatClampNeg + 9) ∧ (∀ f : Nat, f ≠ 17 → xi2 0 f = mum 0 f) ∧ (xi2 0 17 = mum 0 17 + 1) ∧ xi1 5 = mux 5 := by
  obtain ⟨hK, hE, ⟨s2, s3, s4, s6⟩, hday, hP, hL, hS, hA⟩ := hC
  obtain ⟨hb, hpa, hsent, hled⟩ := bd
  have ck := tC_of hk.1
  have cx := tC_of hx.1
  have cb := tC_of hb.1
  have cs := tC_of hsent.1
  have cl := tC_of hled.1
  have hk3 : 0 ≤ k.toInt ∧ k.toInt ≤ 3 := ⟨hk.1, by omega⟩
  obtain ⟨lf, l1, l5, l9⟩ : oneR (mum 0 8).toInt (mux (61 + k.toNatClampNeg)) (mum 10) k.toNatClampNeg := hL k.toNatClampNeg (by omega)
  have pe := price_eq hk3 hK hb ⟨lf, l1, l5, l9⟩
  obtain ⟨x1, x2, x3, ⟨x41, x42, x43, x44, x45, x46⟩, x5, x6, x7, x8, x9, x10, x11, x12⟩ := es_x (by omega) (by rw [s6]; omega) h1
  obtain ⟨m1, m2, m3, m4, ⟨m51, m52, m53, m54, m55⟩, m6, m7, m8, m9, m10, m11, m12, m13⟩ := es_m hk3 ⟨hled.1, hn⟩ h2
  rw [s6] at x2 x3 x41 x42 x43 x44 x45 x46 x5
  rw [pe] at x1
  rw [← x1] at m7 m10 m55
  have g5 : mux (61 + k.toNatClampNeg) 5 = mum 10 (10 * k.toNatClampNeg + 5) := lf 5 (by decide)
  have g6 : mux (61 + k.toNatClampNeg) 6 = mum 10 (10 * k.toNatClampNeg + 6) := lf 6 (by decide)
  have g7 : mux (61 + k.toNatClampNeg) 7 = mum 10 (10 * k.toNatClampNeg + 8) := lf 7 (by decide)
  have g8 : mux (61 + k.toNatClampNeg) 8 = mum 10 (10 * k.toNatClampNeg + 7) := lf 8 (by decide)
  have g1 : mux (61 + k.toNatClampNeg) 1 = mum 10 (10 * k.toNatClampNeg + 1) := lf 1 (by decide)
  have c5 := tC_of l5.1
  have fx : ∀ c : Nat, c < 6 ∨ (6 < c ∧ c < 46) ∨ (46 < c ∧ c < 61) ∨ (65 ≤ c ∧ c < 77) → xi1 c = mux c := fun c hc => x2 c (by omega) (by omega) (by omega) (by omega) (by omega)
  have e17 : (mum 0 17 + 1 : Int32).toInt = (mum 0 17).toInt + 1 := tI_add rfl (rfl : (1 : Int32).toInt = 1) (by omega) (by omega)
  have c17 := tC_of (v := mum 0 17 + 1) (by omega)
  have e9 : xi1 (61 + k.toNatClampNeg) 9 = xi2 10 (10 * k.toNatClampNeg + 9) := by rw [x12, m13, g1]
  refine ⟨x1, ⟨?_, ?_, ⟨?_, ?_, ?_, ?_⟩, ?_, ?_, ?_, ?_, ?_⟩, e9, m2, m3, fx 5 (by omega)⟩
  · unfold simK
    rw [fx 4 (by omega), fx 34 (by omega), fx 35 (by omega), fx 36 (by omega), m2 8 (by decide), m2 11 (by decide), m1 7 (by decide) (by decide) (by decide) (by decide), m1 9 (by decide) (by decide) (by decide) (by decide)]
    exact hK
  · unfold endR
    rw [m2 8 (by decide), m2 11 (by decide), m1 9 (by decide) (by decide) (by decide) (by decide)]
    exact hE
  · rw [fx 5 (by omega), m2 13 (by decide)]; exact s2
  · rw [fx 5 (by omega), m2 14 (by decide)]; exact s3
  · rw [fx 5 (by omega), m2 15 (by decide)]; exact s4
  · rw [x5, m3]
  · rw [m2 14 (by decide)]; exact hday
  · rw [m2 8 (by decide), x6, m7, g5]
    exact purse_two hP (by omega) (by rw [← g5]; omega)
  · rw [m2 8 (by decide), m2 15 (by decide)]
    intro q hq
    by_cases e : q = k.toNatClampNeg
    · subst e
      show (∀ f : Nat, f < 10 → xi1 (61 + k.toNatClampNeg) f = xi2 10 (10 * k.toNatClampNeg + pfm f)) ∧ (0 ≤ (xi1 (61 + k.toNatClampNeg) 1).toInt ∧ (xi1 (61 + k.toNatClampNeg) 1).toInt < (mum 0 8).toInt) ∧ (0 ≤ (xi1 (61 + k.toNatClampNeg) 5).toInt ∧ (xi1 (61 + k.toNatClampNeg) 5).toInt < (mum 0 8).toInt) ∧ (xi1 (61 + k.toNatClampNeg) 9 = 0 ∨ xi1 (61 + k.toNatClampNeg) 9 = 1)
      refine ⟨fun f hf => ?_, ?_, ?_, ?_⟩
      · by_cases f5 : f < 5
        · have pf : pfm f = f := by
            unfold pfm
            rw [if_neg (by omega), if_neg (by omega)]
          rw [x7 f f5, pf, m8 _ (Or.inl (by omega)), lf f hf, pf]
        · have : f = 5 ∨ f = 6 ∨ f = 7 ∨ f = 8 ∨ f = 9 := by omega
          rcases this with rfl | rfl | rfl | rfl | rfl
          · exact x8.trans m9.symm
          · exact x9.trans m10.symm
          · exact (x10.trans s3).trans m12.symm
          · exact (x11.trans (by rw [g8])).trans m11.symm
          · exact e9
      · rw [x7 1 (by decide)]; exact l1
      · rw [x8]; exact hx
      · rw [x12]
        split
        · exact Or.inr rfl
        · exact Or.inl rfl
    · obtain ⟨qf, q1, q5, q9⟩ : oneR (mum 0 8).toInt (mux (61 + q)) (mum 10) q := hL q hq
      have eq1 : xi1 (61 + q) = mux (61 + q) := x2 _ (by omega) (by omega) (by omega) (by omega) (by omega)
      have pl : ∀ f : Nat, f < 10 → pfm f < 10 := by decide
      show (∀ f : Nat, f < 10 → xi1 (61 + q) f = xi2 10 (10 * q + pfm f)) ∧ (0 ≤ (xi1 (61 + q) 1).toInt ∧ (xi1 (61 + q) 1).toInt < (mum 0 8).toInt) ∧ (0 ≤ (xi1 (61 + q) 5).toInt ∧ (xi1 (61 + q) 5).toInt < (mum 0 8).toInt) ∧ (xi1 (61 + q) 9 = 0 ∨ xi1 (61 + q) 9 = 1)
      rw [eq1]
      refine ⟨fun f hf => ?_, q1, q5, q9⟩
      have := pl f hf
      rw [m8 _ (by omega)]
      exact qf f hf
  · unfold salR salN
    rw [m3, m2 8 (by decide), m2 15 (by decide)]
    intro s hs
    by_cases e : s = (mum 0 17).toNatClampNeg
    · subst e
      rw [x41, x42, x44, x45, x46, m51, m52, m53, m54, m55, g5, g6, g7]
      refine ⟨⟨rfl, hk.1, hk.2⟩, ⟨rfl, by rw [← g5]; exact l5.1, by rw [← g5]; exact l5.2⟩, rfl, rfl, rfl, fun z hz => ?_⟩
      rw [x3 z (by omega), m6 z (by omega)]
      exact hP z hz
    · obtain ⟨a, b, c, d, f, g⟩ := hS s (by omega)
      have eq1 : xi1 (77 + s) = mux (77 + s) := x2 _ (by omega) (by omega) (by omega) (by omega) (by omega)
      have eq2 : xi1 (117 + s) = mux (117 + s) := x2 _ (by omega) (by omega) (by omega) (by omega) (by omega)
      rw [eq1, eq2, m4 _ (Or.inl (by omega)), m4 _ (Or.inl (by omega)), m4 _ (Or.inl (by omega)), m4 _ (Or.inl (by omega)), m4 _ (Or.inl (by omega))]
      refine ⟨a, b, c, d, f, fun z hz => ?_⟩
      rw [m4 _ (Or.inl (by omega))]
      exact g z hz
  · exact kepR_of hA (fun c hc => fx c (by omega)) (m1 15 (by decide) (by decide) (by decide) (by decide)) (m2 8 (by decide))

