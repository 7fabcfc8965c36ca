-- ===== a letter, a standing made like another =====
theorem fx_like {mu : Nat → Nat → Int32} {kk kl : Nat} (hne : kl ≠ kk) : ∀ k f : Nat, F_sx_Letter_beLike mu kk kl k f = if k = kk ∧ f < 10 then mu kl f else mu k f := by
  intro k f
  unfold F_sx_Letter_beLike
  simp only [letv_eq]
  generalize h0 : va_up mu kk (upd (mu kk) 0 (mu kl 0)) = n0
  have a0 : n0 kl = mu kl := up_k h0 hne
  have s1 : n0 kl 1 = mu kl 1 := congrFun a0 1
  rw [s1]
  generalize h1 : va_up n0 kk (upd (n0 kk) 1 (mu kl 1)) = n1
  have a1 : n1 kl = mu kl := (up_k h1 hne).trans a0
  have s2 : n1 kl 2 = mu kl 2 := congrFun a1 2
  rw [s2]
  generalize h2 : va_up n1 kk (upd (n1 kk) 2 (mu kl 2)) = n2
  have a2 : n2 kl = mu kl := (up_k h2 hne).trans a1
  have s3 : n2 kl 3 = mu kl 3 := congrFun a2 3
  rw [s3]
  generalize h3 : va_up n2 kk (upd (n2 kk) 3 (mu kl 3)) = n3
  have a3 : n3 kl = mu kl := (up_k h3 hne).trans a2
  have s4 : n3 kl 4 = mu kl 4 := congrFun a3 4
  rw [s4]
  generalize h4 : va_up n3 kk (upd (n3 kk) 4 (mu kl 4)) = n4
  have a4 : n4 kl = mu kl := (up_k h4 hne).trans a3
  have s5 : n4 kl 5 = mu kl 5 := congrFun a4 5
  rw [s5]
  generalize h5 : va_up n4 kk (upd (n4 kk) 5 (mu kl 5)) = n5
  have a5 : n5 kl = mu kl := (up_k h5 hne).trans a4
  have s6 : n5 kl 6 = mu kl 6 := congrFun a5 6
  rw [s6]
  generalize h6 : va_up n5 kk (upd (n5 kk) 6 (mu kl 6)) = n6
  have a6 : n6 kl = mu kl := (up_k h6 hne).trans a5
  have s7 : n6 kl 7 = mu kl 7 := congrFun a6 7
  rw [s7]
  generalize h7 : va_up n6 kk (upd (n6 kk) 7 (mu kl 7)) = n7
  have a7 : n7 kl = mu kl := (up_k h7 hne).trans a6
  have s8 : n7 kl 8 = mu kl 8 := congrFun a7 8
  rw [s8]
  generalize h8 : va_up n7 kk (upd (n7 kk) 8 (mu kl 8)) = n8
  have a8 : n8 kl = mu kl := (up_k h8 hne).trans a7
  have s9 : n8 kl 9 = mu kl 9 := congrFun a8 9
  rw [s9]
  generalize h9 : va_up n8 kk (upd (n8 kk) 9 (mu kl 9)) = n9
  have a9 : n9 kl = mu kl := (up_k h9 hne).trans a8
  by_cases e : k = kk
  · subst e
    by_cases c : f < 10
    · rw [if_pos ⟨rfl, c⟩]
      match f, c with
      | 0, _ => exact (up_f h9 (by decide)).trans ((up_f h8 (by decide)).trans ((up_f h7 (by decide)).trans ((up_f h6 (by decide)).trans ((up_f h5 (by decide)).trans ((up_f h4 (by decide)).trans ((up_f h3 (by decide)).trans ((up_f h2 (by decide)).trans ((up_f h1 (by decide)).trans ((up_v h0).symm)))))))))
      | 1, _ => exact (up_f h9 (by decide)).trans ((up_f h8 (by decide)).trans ((up_f h7 (by decide)).trans ((up_f h6 (by decide)).trans ((up_f h5 (by decide)).trans ((up_f h4 (by decide)).trans ((up_f h3 (by decide)).trans ((up_f h2 (by decide)).trans ((up_v h1).symm))))))))
      | 2, _ => exact (up_f h9 (by decide)).trans ((up_f h8 (by decide)).trans ((up_f h7 (by decide)).trans ((up_f h6 (by decide)).trans ((up_f h5 (by decide)).trans ((up_f h4 (by decide)).trans ((up_f h3 (by decide)).trans ((up_v h2).symm)))))))
      | 3, _ => exact (up_f h9 (by decide)).trans ((up_f h8 (by decide)).trans ((up_f h7 (by decide)).trans ((up_f h6 (by decide)).trans ((up_f h5 (by decide)).trans ((up_f h4 (by decide)).trans ((up_v h3).symm))))))
      | 4, _ => exact (up_f h9 (by decide)).trans ((up_f h8 (by decide)).trans ((up_f h7 (by decide)).trans ((up_f h6 (by decide)).trans ((up_f h5 (by decide)).trans ((up_v h4).symm)))))
      | 5, _ => exact (up_f h9 (by decide)).trans ((up_f h8 (by decide)).trans ((up_f h7 (by decide)).trans ((up_f h6 (by decide)).trans ((up_v h5).symm))))
      | 6, _ => exact (up_f h9 (by decide)).trans ((up_f h8 (by decide)).trans ((up_f h7 (by decide)).trans ((up_v h6).symm)))
      | 7, _ => exact (up_f h9 (by decide)).trans ((up_f h8 (by decide)).trans ((up_v h7).symm))
      | 8, _ => exact (up_f h9 (by decide)).trans ((up_v h8).symm)
      | 9, _ => exact (up_v h9).symm
      | f + 10, c => exact absurd c (by omega)
    · rw [if_neg (fun h => c h.2)]
      exact (up_f h9 (by omega)).trans ((up_f h8 (by omega)).trans ((up_f h7 (by omega)).trans ((up_f h6 (by omega)).trans ((up_f h5 (by omega)).trans ((up_f h4 (by omega)).trans ((up_f h3 (by omega)).trans ((up_f h2 (by omega)).trans ((up_f h1 (by omega)).trans (up_f h0 (by omega))))))))))
  · rw [if_neg (fun h => e h.1)]
    exact congrFun ((up_k h9 e).trans ((up_k h8 e).trans ((up_k h7 e).trans ((up_k h6 e).trans ((up_k h5 e).trans ((up_k h4 e).trans ((up_k h3 e).trans ((up_k h2 e).trans ((up_k h1 e).trans (up_k h0 e)))))))))) f
theorem ll_5_18 : ∀ (n : Nat) (i : Int32) (nu : Nat → Nat → Int32), 0 ≤ i.toInt → i.toInt ≤ 4 → (4 - i.toInt).toNat < n → ∀ k f : Nat, L_sx_Standing_beLike_5_18_17_0 n i nu k f = if 61 + i.toNatClampNeg ≤ k ∧ k < 65 ∧ f < 10 then nu (k - 61 + 65) f else if k = 5 ∧ 2 ≤ f ∧ f ≤ 4 then nu 18 f else nu k f := by
  intro n
  induction n with
  | zero => intro i nu _ _ h; exact absurd h (Nat.not_lt_zero _)
  | succ n ih =>
    intro i nu h0 h4 hn k f
    have z4 : (4 : Int32).toInt = 4 := rfl
    have hc := tC_of h0
    rw [L_sx_Standing_beLike_5_18_17_0]
    by_cases c : i ≥ (4 : Int32)
    · have c2 := vv_ge.mp c
      rw [if_pos c, if_neg (fun h => by omega)]
      simp only [letv_eq]
      generalize h1 : va_up nu 5 (upd (nu 5) 2 (nu 18 2)) = n1
      rw [show n1 18 3 = nu 18 3 from congrFun (up_k h1 (by decide)) 3]
      generalize h2 : va_up n1 5 (upd (n1 5) 3 (nu 18 3)) = n2
      rw [show n2 18 4 = nu 18 4 from congrFun ((up_k h2 (by decide)).trans (up_k h1 (by decide))) 4]
      generalize h3 : va_up n2 5 (upd (n2 5) 4 (nu 18 4)) = n3
      by_cases e : k = 5
      · subst e
        by_cases c5 : 2 ≤ f ∧ f ≤ 4
        · rw [if_pos ⟨rfl, c5⟩]
          have : f = 2 ∨ f = 3 ∨ f = 4 := by omega
          rcases this with rfl | rfl | rfl
          · exact (up_f h3 (by decide)).trans ((up_f h2 (by decide)).trans (up_v h1).symm)
          · exact (up_f h3 (by decide)).trans (up_v h2).symm
          · exact (up_v h3).symm
        · rw [if_neg (fun h => c5 h.2)]
          exact (up_f h3 (by omega)).trans ((up_f h2 (by omega)).trans (up_f h1 (by omega)))
      · rw [if_neg (fun h => e h.1)]
        exact congrFun ((up_k h3 e).trans ((up_k h2 e).trans (up_k h1 e))) f
    · have c2 : ¬ (4 : Int32).toInt ≤ i.toInt := fun h => c (vv_ge.mpr h)
      rw [if_neg c]
      simp only [letv_eq]
      have ai : (i + 1 : Int32).toInt = i.toInt + 1 := tI_add rfl (rfl : (1 : Int32).toInt = 1) (by omega) (by omega)
      have hc1 := tC_of (v := i + 1) (by omega)
      have lk := fx_like (mu := nu) (kk := 61 + i.toNatClampNeg) (kl := 65 + i.toNatClampNeg) (by omega)
      generalize F_sx_Letter_beLike nu (61 + i.toNatClampNeg) (65 + i.toNatClampNeg) = nu1 at lk ⊢
      rw [ih (i + 1) nu1 (by omega) (by omega) (by omega) k f]
      by_cases e : k = 61 + i.toNatClampNeg ∧ f < 10
      · obtain ⟨e, ef⟩ := e
        subst e
        rw [if_neg (fun h => by omega), if_neg (fun h => by omega), lk, if_pos ⟨rfl, ef⟩, if_pos ⟨by omega, by omega, ef⟩, show 61 + i.toNatClampNeg - 61 + 65 = 65 + i.toNatClampNeg by omega]
      · by_cases c5 : 61 + i.toNatClampNeg ≤ k ∧ k < 65 ∧ f < 10
        · rw [if_pos (by omega), if_pos c5, lk, if_neg (fun h => by omega)]
        · have lb : nu1 18 f = nu 18 f := by rw [lk, if_neg (fun h => by omega)]
          have lkk : nu1 k f = nu k f := by rw [lk, if_neg e]
          rw [if_neg (by omega), if_neg c5, lb, lkk]
theorem fx_like_5_18 {mu : Nat → Nat → Int32} : ∀ k f : Nat, F_sx_Standing_beLike_5_18 mu k f = if 61 ≤ k ∧ k < 65 ∧ f < 10 then mu (k - 61 + 65) f else if k = 5 ∧ 2 ≤ f ∧ f ≤ 4 then mu 18 f else if k = 46 ∧ f < 7 then mu 40 f else mu k f := by
  intro k f
  unfold F_sx_Standing_beLike_5_18
  simp only [letv_eq]
  have z0 : (0 : Int32).toNatClampNeg = 0 := rfl
  have z7 : (7 : Int32).toNatClampNeg = 7 := rfl
  have key := ll_5_18 7 0 (va_up mu 46 (va_cpy (mu 40) (mu 46) (0 : Int32).toNatClampNeg (0 : Int32).toNatClampNeg (7 : Int32).toNatClampNeg)) (by decide) (by decide) (by decide) k f
  rw [key, z0, z7]
  generalize h1 : va_up mu 46 (va_cpy (mu 40) (mu 46) 0 0 7) = n1
  have e1 : ∀ j : Nat, j ≠ 46 → n1 j = mu j := fun j hj => up_k h1 hj
  have e2 : ∀ g : Nat, n1 46 g = if g < 7 then mu 40 g else mu 46 g := fun g => by
    rw [← h1]
    by_cases cg : g < 7 <;> simp [va_up, va_cpy, cg]
  by_cases c1 : 61 ≤ k ∧ k < 65 ∧ f < 10
  · rw [if_pos (by omega), if_pos c1, e1 _ (by omega)]
  · rw [if_neg (by omega), if_neg c1]
    by_cases c2 : k = 5 ∧ 2 ≤ f ∧ f ≤ 4
    · rw [if_pos c2, if_pos c2, e1 _ (by decide)]
    · rw [if_neg c2, if_neg c2]
      by_cases c3 : k = 46
      · subst c3
        rw [e2]
        by_cases c4 : f < 7
        · rw [if_pos c4, if_pos ⟨rfl, c4⟩]
        · rw [if_neg c4, if_neg (fun h => c4 h.2)]
      · rw [e1 _ c3, if_neg (fun h => c3 h.1)]
theorem ll_5_19 : ∀ (n : Nat) (i : Int32) (nu : Nat → Nat → Int32), 0 ≤ i.toInt → i.toInt ≤ 4 → (4 - i.toInt).toNat < n → ∀ k f : Nat, L_sx_Standing_beLike_5_19_17_0 n i nu k f = if 61 + i.toNatClampNeg ≤ k ∧ k < 65 ∧ f < 10 then nu (k - 61 + 69) f else if k = 5 ∧ 2 ≤ f ∧ f ≤ 4 then nu 19 f else nu k f := by
  intro n
  induction n with
  | zero => intro i nu _ _ h; exact absurd h (Nat.not_lt_zero _)
  | succ n ih =>
    intro i nu h0 h4 hn k f
    have z4 : (4 : Int32).toInt = 4 := rfl
    have hc := tC_of h0
    rw [L_sx_Standing_beLike_5_19_17_0]
    by_cases c : i ≥ (4 : Int32)
    · have c2 := vv_ge.mp c
      rw [if_pos c, if_neg (fun h => by omega)]
      simp only [letv_eq]
      generalize h1 : va_up nu 5 (upd (nu 5) 2 (nu 19 2)) = n1
      rw [show n1 19 3 = nu 19 3 from congrFun (up_k h1 (by decide)) 3]
      generalize h2 : va_up n1 5 (upd (n1 5) 3 (nu 19 3)) = n2
      rw [show n2 19 4 = nu 19 4 from congrFun ((up_k h2 (by decide)).trans (up_k h1 (by decide))) 4]
      generalize h3 : va_up n2 5 (upd (n2 5) 4 (nu 19 4)) = n3
      by_cases e : k = 5
      · subst e
        by_cases c5 : 2 ≤ f ∧ f ≤ 4
        · rw [if_pos ⟨rfl, c5⟩]
          have : f = 2 ∨ f = 3 ∨ f = 4 := by omega
          rcases this with rfl | rfl | rfl
          · exact (up_f h3 (by decide)).trans ((up_f h2 (by decide)).trans (up_v h1).symm)
          · exact (up_f h3 (by decide)).trans (up_v h2).symm
          · exact (up_v h3).symm
        · rw [if_neg (fun h => c5 h.2)]
          exact (up_f h3 (by omega)).trans ((up_f h2 (by omega)).trans (up_f h1 (by omega)))
      · rw [if_neg (fun h => e h.1)]
        exact congrFun ((up_k h3 e).trans ((up_k h2 e).trans (up_k h1 e))) f
    · have c2 : ¬ (4 : Int32).toInt ≤ i.toInt := fun h => c (vv_ge.mpr h)
      rw [if_neg c]
      simp only [letv_eq]
      have ai : (i + 1 : Int32).toInt = i.toInt + 1 := tI_add rfl (rfl : (1 : Int32).toInt = 1) (by omega) (by omega)
      have hc1 := tC_of (v := i + 1) (by omega)
      have lk := fx_like (mu := nu) (kk := 61 + i.toNatClampNeg) (kl := 69 + i.toNatClampNeg) (by omega)
      generalize F_sx_Letter_beLike nu (61 + i.toNatClampNeg) (69 + i.toNatClampNeg) = nu1 at lk ⊢
      rw [ih (i + 1) nu1 (by omega) (by omega) (by omega) k f]
      by_cases e : k = 61 + i.toNatClampNeg ∧ f < 10
      · obtain ⟨e, ef⟩ := e
        subst e
        rw [if_neg (fun h => by omega), if_neg (fun h => by omega), lk, if_pos ⟨rfl, ef⟩, if_pos ⟨by omega, by omega, ef⟩, show 61 + i.toNatClampNeg - 61 + 69 = 69 + i.toNatClampNeg by omega]
      · by_cases c5 : 61 + i.toNatClampNeg ≤ k ∧ k < 65 ∧ f < 10
        · rw [if_pos (by omega), if_pos c5, lk, if_neg (fun h => by omega)]
        · have lb : nu1 19 f = nu 19 f := by rw [lk, if_neg (fun h => by omega)]
          have lkk : nu1 k f = nu k f := by rw [lk, if_neg e]
          rw [if_neg (by omega), if_neg c5, lb, lkk]
theorem fx_like_5_19 {mu : Nat → Nat → Int32} : ∀ k f : Nat, F_sx_Standing_beLike_5_19 mu k f = if 61 ≤ k ∧ k < 65 ∧ f < 10 then mu (k - 61 + 69) f else if k = 5 ∧ 2 ≤ f ∧ f ≤ 4 then mu 19 f else if k = 46 ∧ f < 7 then mu 41 f else mu k f := by
  intro k f
  unfold F_sx_Standing_beLike_5_19
  simp only [letv_eq]
  have z0 : (0 : Int32).toNatClampNeg = 0 := rfl
  have z7 : (7 : Int32).toNatClampNeg = 7 := rfl
  have key := ll_5_19 7 0 (va_up mu 46 (va_cpy (mu 41) (mu 46) (0 : Int32).toNatClampNeg (0 : Int32).toNatClampNeg (7 : Int32).toNatClampNeg)) (by decide) (by decide) (by decide) k f
  rw [key, z0, z7]
  generalize h1 : va_up mu 46 (va_cpy (mu 41) (mu 46) 0 0 7) = n1
  have e1 : ∀ j : Nat, j ≠ 46 → n1 j = mu j := fun j hj => up_k h1 hj
  have e2 : ∀ g : Nat, n1 46 g = if g < 7 then mu 41 g else mu 46 g := fun g => by
    rw [← h1]
    by_cases cg : g < 7 <;> simp [va_up, va_cpy, cg]
  by_cases c1 : 61 ≤ k ∧ k < 65 ∧ f < 10
  · rw [if_pos (by omega), if_pos c1, e1 _ (by omega)]
  · rw [if_neg (by omega), if_neg c1]
    by_cases c2 : k = 5 ∧ 2 ≤ f ∧ f ≤ 4
    · rw [if_pos c2, if_pos c2, e1 _ (by decide)]
    · rw [if_neg c2, if_neg c2]
      by_cases c3 : k = 46
      · subst c3
        rw [e2]
        by_cases c4 : f < 7
        · rw [if_pos c4, if_pos ⟨rfl, c4⟩]
        · rw [if_neg c4, if_neg (fun h => c4 h.2)]
      · rw [e1 _ c3, if_neg (fun h => c3 h.1)]
theorem ll_5_20 : ∀ (n : Nat) (i : Int32) (nu : Nat → Nat → Int32), 0 ≤ i.toInt → i.toInt ≤ 4 → (4 - i.toInt).toNat < n → ∀ k f : Nat, L_sx_Standing_beLike_5_20_17_0 n i nu k f = if 61 + i.toNatClampNeg ≤ k ∧ k < 65 ∧ f < 10 then nu (k - 61 + 73) f else if k = 5 ∧ 2 ≤ f ∧ f ≤ 4 then nu 20 f else nu k f := by
  intro n
  induction n with
  | zero => intro i nu _ _ h; exact absurd h (Nat.not_lt_zero _)
  | succ n ih =>
    intro i nu h0 h4 hn k f
    have z4 : (4 : Int32).toInt = 4 := rfl
    have hc := tC_of h0
    rw [L_sx_Standing_beLike_5_20_17_0]
    by_cases c : i ≥ (4 : Int32)
    · have c2 := vv_ge.mp c
      rw [if_pos c, if_neg (fun h => by omega)]
      simp only [letv_eq]
      generalize h1 : va_up nu 5 (upd (nu 5) 2 (nu 20 2)) = n1
      rw [show n1 20 3 = nu 20 3 from congrFun (up_k h1 (by decide)) 3]
      generalize h2 : va_up n1 5 (upd (n1 5) 3 (nu 20 3)) = n2
      rw [show n2 20 4 = nu 20 4 from congrFun ((up_k h2 (by decide)).trans (up_k h1 (by decide))) 4]
      generalize h3 : va_up n2 5 (upd (n2 5) 4 (nu 20 4)) = n3
      by_cases e : k = 5
      · subst e
        by_cases c5 : 2 ≤ f ∧ f ≤ 4
        · rw [if_pos ⟨rfl, c5⟩]
          have : f = 2 ∨ f = 3 ∨ f = 4 := by omega
          rcases this with rfl | rfl | rfl
          · exact (up_f h3 (by decide)).trans ((up_f h2 (by decide)).trans (up_v h1).symm)
          · exact (up_f h3 (by decide)).trans (up_v h2).symm
          · exact (up_v h3).symm
        · rw [if_neg (fun h => c5 h.2)]
          exact (up_f h3 (by omega)).trans ((up_f h2 (by omega)).trans (up_f h1 (by omega)))
      · rw [if_neg (fun h => e h.1)]
        exact congrFun ((up_k h3 e).trans ((up_k h2 e).trans (up_k h1 e))) f
    · have c2 : ¬ (4 : Int32).toInt ≤ i.toInt := fun h => c (vv_ge.mpr h)
      rw [if_neg c]
      simp only [letv_eq]
      have ai : (i + 1 : Int32).toInt = i.toInt + 1 := tI_add rfl (rfl : (1 : Int32).toInt = 1) (by omega) (by omega)
      have hc1 := tC_of (v := i + 1) (by omega)
      have lk := fx_like (mu := nu) (kk := 61 + i.toNatClampNeg) (kl := 73 + i.toNatClampNeg) (by omega)
      generalize F_sx_Letter_beLike nu (61 + i.toNatClampNeg) (73 + i.toNatClampNeg) = nu1 at lk ⊢
      rw [ih (i + 1) nu1 (by omega) (by omega) (by omega) k f]
      by_cases e : k = 61 + i.toNatClampNeg ∧ f < 10
      · obtain ⟨e, ef⟩ := e
        subst e
        rw [if_neg (fun h => by omega), if_neg (fun h => by omega), lk, if_pos ⟨rfl, ef⟩, if_pos ⟨by omega, by omega, ef⟩, show 61 + i.toNatClampNeg - 61 + 73 = 73 + i.toNatClampNeg by omega]
      · by_cases c5 : 61 + i.toNatClampNeg ≤ k ∧ k < 65 ∧ f < 10
        · rw [if_pos (by omega), if_pos c5, lk, if_neg (fun h => by omega)]
        · have lb : nu1 20 f = nu 20 f := by rw [lk, if_neg (fun h => by omega)]
          have lkk : nu1 k f = nu k f := by rw [lk, if_neg e]
          rw [if_neg (by omega), if_neg c5, lb, lkk]
theorem fx_like_5_20 {mu : Nat → Nat → Int32} : ∀ k f : Nat, F_sx_Standing_beLike_5_20 mu k f = if 61 ≤ k ∧ k < 65 ∧ f < 10 then mu (k - 61 + 73) f else if k = 5 ∧ 2 ≤ f ∧ f ≤ 4 then mu 20 f else if k = 46 ∧ f < 7 then mu 42 f else mu k f := by
  intro k f
  unfold F_sx_Standing_beLike_5_20
  simp only [letv_eq]
  have z0 : (0 : Int32).toNatClampNeg = 0 := rfl
  have z7 : (7 : Int32).toNatClampNeg = 7 := rfl
  have key := ll_5_20 7 0 (va_up mu 46 (va_cpy (mu 42) (mu 46) (0 : Int32).toNatClampNeg (0 : Int32).toNatClampNeg (7 : Int32).toNatClampNeg)) (by decide) (by decide) (by decide) k f
  rw [key, z0, z7]
  generalize h1 : va_up mu 46 (va_cpy (mu 42) (mu 46) 0 0 7) = n1
  have e1 : ∀ j : Nat, j ≠ 46 → n1 j = mu j := fun j hj => up_k h1 hj
  have e2 : ∀ g : Nat, n1 46 g = if g < 7 then mu 42 g else mu 46 g := fun g => by
    rw [← h1]
    by_cases cg : g < 7 <;> simp [va_up, va_cpy, cg]
  by_cases c1 : 61 ≤ k ∧ k < 65 ∧ f < 10
  · rw [if_pos (by omega), if_pos c1, e1 _ (by omega)]
  · rw [if_neg (by omega), if_neg c1]
    by_cases c2 : k = 5 ∧ 2 ≤ f ∧ f ≤ 4
    · rw [if_pos c2, if_pos c2, e1 _ (by decide)]
    · rw [if_neg c2, if_neg c2]
      by_cases c3 : k = 46
      · subst c3
        rw [e2]
        by_cases c4 : f < 7
        · rw [if_pos c4, if_pos ⟨rfl, c4⟩]
        · rw [if_neg c4, if_neg (fun h => c4 h.2)]
      · rw [e1 _ c3, if_neg (fun h => c3 h.1)]
theorem ll_18_5 : ∀ (n : Nat) (i : Int32) (nu : Nat → Nat → Int32), 0 ≤ i.toInt → i.toInt ≤ 4 → (4 - i.toInt).toNat < n → ∀ k f : Nat, L_sx_Standing_beLike_18_5_17_0 n i nu k f = if 65 + i.toNatClampNeg ≤ k ∧ k < 69 ∧ f < 10 then nu (k - 65 + 61) f else if k = 18 ∧ 2 ≤ f ∧ f ≤ 4 then nu 5 f else nu k f := by
  intro n
  induction n with
  | zero => intro i nu _ _ h; exact absurd h (Nat.not_lt_zero _)
  | succ n ih =>
    intro i nu h0 h4 hn k f
    have z4 : (4 : Int32).toInt = 4 := rfl
    have hc := tC_of h0
    rw [L_sx_Standing_beLike_18_5_17_0]
    by_cases c : i ≥ (4 : Int32)
    · have c2 := vv_ge.mp c
      rw [if_pos c, if_neg (fun h => by omega)]
      simp only [letv_eq]
      generalize h1 : va_up nu 18 (upd (nu 18) 2 (nu 5 2)) = n1
      rw [show n1 5 3 = nu 5 3 from congrFun (up_k h1 (by decide)) 3]
      generalize h2 : va_up n1 18 (upd (n1 18) 3 (nu 5 3)) = n2
      rw [show n2 5 4 = nu 5 4 from congrFun ((up_k h2 (by decide)).trans (up_k h1 (by decide))) 4]
      generalize h3 : va_up n2 18 (upd (n2 18) 4 (nu 5 4)) = n3
      by_cases e : k = 18
      · subst e
        by_cases c5 : 2 ≤ f ∧ f ≤ 4
        · rw [if_pos ⟨rfl, c5⟩]
          have : f = 2 ∨ f = 3 ∨ f = 4 := by omega
          rcases this with rfl | rfl | rfl
          · exact (up_f h3 (by decide)).trans ((up_f h2 (by decide)).trans (up_v h1).symm)
          · exact (up_f h3 (by decide)).trans (up_v h2).symm
          · exact (up_v h3).symm
        · rw [if_neg (fun h => c5 h.2)]
          exact (up_f h3 (by omega)).trans ((up_f h2 (by omega)).trans (up_f h1 (by omega)))
      · rw [if_neg (fun h => e h.1)]
        exact congrFun ((up_k h3 e).trans ((up_k h2 e).trans (up_k h1 e))) f
    · have c2 : ¬ (4 : Int32).toInt ≤ i.toInt := fun h => c (vv_ge.mpr h)
      rw [if_neg c]
      simp only [letv_eq]
      have ai : (i + 1 : Int32).toInt = i.toInt + 1 := tI_add rfl (rfl : (1 : Int32).toInt = 1) (by omega) (by omega)
      have hc1 := tC_of (v := i + 1) (by omega)
      have lk := fx_like (mu := nu) (kk := 65 + i.toNatClampNeg) (kl := 61 + i.toNatClampNeg) (by omega)
      generalize F_sx_Letter_beLike nu (65 + i.toNatClampNeg) (61 + i.toNatClampNeg) = nu1 at lk ⊢
      rw [ih (i + 1) nu1 (by omega) (by omega) (by omega) k f]
      by_cases e : k = 65 + i.toNatClampNeg ∧ f < 10
      · obtain ⟨e, ef⟩ := e
        subst e
        rw [if_neg (fun h => by omega), if_neg (fun h => by omega), lk, if_pos ⟨rfl, ef⟩, if_pos ⟨by omega, by omega, ef⟩, show 65 + i.toNatClampNeg - 65 + 61 = 61 + i.toNatClampNeg by omega]
      · by_cases c5 : 65 + i.toNatClampNeg ≤ k ∧ k < 69 ∧ f < 10
        · rw [if_pos (by omega), if_pos c5, lk, if_neg (fun h => by omega)]
        · have lb : nu1 5 f = nu 5 f := by rw [lk, if_neg (fun h => by omega)]
          have lkk : nu1 k f = nu k f := by rw [lk, if_neg e]
          rw [if_neg (by omega), if_neg c5, lb, lkk]
theorem fx_like_18_5 {mu : Nat → Nat → Int32} : ∀ k f : Nat, F_sx_Standing_beLike_18_5 mu k f = if 65 ≤ k ∧ k < 69 ∧ f < 10 then mu (k - 65 + 61) f else if k = 18 ∧ 2 ≤ f ∧ f ≤ 4 then mu 5 f else if k = 40 ∧ f < 7 then mu 46 f else mu k f := by
  intro k f
  unfold F_sx_Standing_beLike_18_5
  simp only [letv_eq]
  have z0 : (0 : Int32).toNatClampNeg = 0 := rfl
  have z7 : (7 : Int32).toNatClampNeg = 7 := rfl
  have key := ll_18_5 7 0 (va_up mu 40 (va_cpy (mu 46) (mu 40) (0 : Int32).toNatClampNeg (0 : Int32).toNatClampNeg (7 : Int32).toNatClampNeg)) (by decide) (by decide) (by decide) k f
  rw [key, z0, z7]
  generalize h1 : va_up mu 40 (va_cpy (mu 46) (mu 40) 0 0 7) = n1
  have e1 : ∀ j : Nat, j ≠ 40 → n1 j = mu j := fun j hj => up_k h1 hj
  have e2 : ∀ g : Nat, n1 40 g = if g < 7 then mu 46 g else mu 40 g := fun g => by
    rw [← h1]
    by_cases cg : g < 7 <;> simp [va_up, va_cpy, cg]
  by_cases c1 : 65 ≤ k ∧ k < 69 ∧ f < 10
  · rw [if_pos (by omega), if_pos c1, e1 _ (by omega)]
  · rw [if_neg (by omega), if_neg c1]
    by_cases c2 : k = 18 ∧ 2 ≤ f ∧ f ≤ 4
    · rw [if_pos c2, if_pos c2, e1 _ (by decide)]
    · rw [if_neg c2, if_neg c2]
      by_cases c3 : k = 40
      · subst c3
        rw [e2]
        by_cases c4 : f < 7
        · rw [if_pos c4, if_pos ⟨rfl, c4⟩]
        · rw [if_neg c4, if_neg (fun h => c4 h.2)]
      · rw [e1 _ c3, if_neg (fun h => c3 h.1)]
theorem ll_19_5 : ∀ (n : Nat) (i : Int32) (nu : Nat → Nat → Int32), 0 ≤ i.toInt → i.toInt ≤ 4 → (4 - i.toInt).toNat < n → ∀ k f : Nat, L_sx_Standing_beLike_19_5_17_0 n i nu k f = if 69 + i.toNatClampNeg ≤ k ∧ k < 73 ∧ f < 10 then nu (k - 69 + 61) f else if k = 19 ∧ 2 ≤ f ∧ f ≤ 4 then nu 5 f else nu k f := by
  intro n
  induction n with
  | zero => intro i nu _ _ h; exact absurd h (Nat.not_lt_zero _)
  | succ n ih =>
    intro i nu h0 h4 hn k f
    have z4 : (4 : Int32).toInt = 4 := rfl
    have hc := tC_of h0
    rw [L_sx_Standing_beLike_19_5_17_0]
    by_cases c : i ≥ (4 : Int32)
    · have c2 := vv_ge.mp c
      rw [if_pos c, if_neg (fun h => by omega)]
      simp only [letv_eq]
      generalize h1 : va_up nu 19 (upd (nu 19) 2 (nu 5 2)) = n1
      rw [show n1 5 3 = nu 5 3 from congrFun (up_k h1 (by decide)) 3]
      generalize h2 : va_up n1 19 (upd (n1 19) 3 (nu 5 3)) = n2
      rw [show n2 5 4 = nu 5 4 from congrFun ((up_k h2 (by decide)).trans (up_k h1 (by decide))) 4]
      generalize h3 : va_up n2 19 (upd (n2 19) 4 (nu 5 4)) = n3
      by_cases e : k = 19
      · subst e
        by_cases c5 : 2 ≤ f ∧ f ≤ 4
        · rw [if_pos ⟨rfl, c5⟩]
          have : f = 2 ∨ f = 3 ∨ f = 4 := by omega
          rcases this with rfl | rfl | rfl
          · exact (up_f h3 (by decide)).trans ((up_f h2 (by decide)).trans (up_v h1).symm)
          · exact (up_f h3 (by decide)).trans (up_v h2).symm
          · exact (up_v h3).symm
        · rw [if_neg (fun h => c5 h.2)]
          exact (up_f h3 (by omega)).trans ((up_f h2 (by omega)).trans (up_f h1 (by omega)))
      · rw [if_neg (fun h => e h.1)]
        exact congrFun ((up_k h3 e).trans ((up_k h2 e).trans (up_k h1 e))) f
    · have c2 : ¬ (4 : Int32).toInt ≤ i.toInt := fun h => c (vv_ge.mpr h)
      rw [if_neg c]
      simp only [letv_eq]
      have ai : (i + 1 : Int32).toInt = i.toInt + 1 := tI_add rfl (rfl : (1 : Int32).toInt = 1) (by omega) (by omega)
      have hc1 := tC_of (v := i + 1) (by omega)
      have lk := fx_like (mu := nu) (kk := 69 + i.toNatClampNeg) (kl := 61 + i.toNatClampNeg) (by omega)
      generalize F_sx_Letter_beLike nu (69 + i.toNatClampNeg) (61 + i.toNatClampNeg) = nu1 at lk ⊢
      rw [ih (i + 1) nu1 (by omega) (by omega) (by omega) k f]
      by_cases e : k = 69 + i.toNatClampNeg ∧ f < 10
      · obtain ⟨e, ef⟩ := e
        subst e
        rw [if_neg (fun h => by omega), if_neg (fun h => by omega), lk, if_pos ⟨rfl, ef⟩, if_pos ⟨by omega, by omega, ef⟩, show 69 + i.toNatClampNeg - 69 + 61 = 61 + i.toNatClampNeg by omega]
      · by_cases c5 : 69 + i.toNatClampNeg ≤ k ∧ k < 73 ∧ f < 10
        · rw [if_pos (by omega), if_pos c5, lk, if_neg (fun h => by omega)]
        · have lb : nu1 5 f = nu 5 f := by rw [lk, if_neg (fun h => by omega)]
          have lkk : nu1 k f = nu k f := by rw [lk, if_neg e]
          rw [if_neg (by omega), if_neg c5, lb, lkk]
theorem fx_like_19_5 {mu : Nat → Nat → Int32} : ∀ k f : Nat, F_sx_Standing_beLike_19_5 mu k f = if 69 ≤ k ∧ k < 73 ∧ f < 10 then mu (k - 69 + 61) f else if k = 19 ∧ 2 ≤ f ∧ f ≤ 4 then mu 5 f else if k = 41 ∧ f < 7 then mu 46 f else mu k f := by
  intro k f
  unfold F_sx_Standing_beLike_19_5
  simp only [letv_eq]
  have z0 : (0 : Int32).toNatClampNeg = 0 := rfl
  have z7 : (7 : Int32).toNatClampNeg = 7 := rfl
  have key := ll_19_5 7 0 (va_up mu 41 (va_cpy (mu 46) (mu 41) (0 : Int32).toNatClampNeg (0 : Int32).toNatClampNeg (7 : Int32).toNatClampNeg)) (by decide) (by decide) (by decide) k f
  rw [key, z0, z7]
  generalize h1 : va_up mu 41 (va_cpy (mu 46) (mu 41) 0 0 7) = n1
  have e1 : ∀ j : Nat, j ≠ 41 → n1 j = mu j := fun j hj => up_k h1 hj
  have e2 : ∀ g : Nat, n1 41 g = if g < 7 then mu 46 g else mu 41 g := fun g => by
    rw [← h1]
    by_cases cg : g < 7 <;> simp [va_up, va_cpy, cg]
  by_cases c1 : 69 ≤ k ∧ k < 73 ∧ f < 10
  · rw [if_pos (by omega), if_pos c1, e1 _ (by omega)]
  · rw [if_neg (by omega), if_neg c1]
    by_cases c2 : k = 19 ∧ 2 ≤ f ∧ f ≤ 4
    · rw [if_pos c2, if_pos c2, e1 _ (by decide)]
    · rw [if_neg c2, if_neg c2]
      by_cases c3 : k = 41
      · subst c3
        rw [e2]
        by_cases c4 : f < 7
        · rw [if_pos c4, if_pos ⟨rfl, c4⟩]
        · rw [if_neg c4, if_neg (fun h => c4 h.2)]
      · rw [e1 _ c3, if_neg (fun h => c3 h.1)]
theorem ll_20_5 : ∀ (n : Nat) (i : Int32) (nu : Nat → Nat → Int32), 0 ≤ i.toInt → i.toInt ≤ 4 → (4 - i.toInt).toNat < n → ∀ k f : Nat, L_sx_Standing_beLike_20_5_17_0 n i nu k f = if 73 + i.toNatClampNeg ≤ k ∧ k < 77 ∧ f < 10 then nu (k - 73 + 61) f else if k = 20 ∧ 2 ≤ f ∧ f ≤ 4 then nu 5 f else nu k f := by
  intro n
  induction n with
  | zero => intro i nu _ _ h; exact absurd h (Nat.not_lt_zero _)
  | succ n ih =>
    intro i nu h0 h4 hn k f
    have z4 : (4 : Int32).toInt = 4 := rfl
    have hc := tC_of h0
    rw [L_sx_Standing_beLike_20_5_17_0]
    by_cases c : i ≥ (4 : Int32)
    · have c2 := vv_ge.mp c
      rw [if_pos c, if_neg (fun h => by omega)]
      simp only [letv_eq]
      generalize h1 : va_up nu 20 (upd (nu 20) 2 (nu 5 2)) = n1
      rw [show n1 5 3 = nu 5 3 from congrFun (up_k h1 (by decide)) 3]
      generalize h2 : va_up n1 20 (upd (n1 20) 3 (nu 5 3)) = n2
      rw [show n2 5 4 = nu 5 4 from congrFun ((up_k h2 (by decide)).trans (up_k h1 (by decide))) 4]
      generalize h3 : va_up n2 20 (upd (n2 20) 4 (nu 5 4)) = n3
      by_cases e : k = 20
      · subst e
        by_cases c5 : 2 ≤ f ∧ f ≤ 4
        · rw [if_pos ⟨rfl, c5⟩]
          have : f = 2 ∨ f = 3 ∨ f = 4 := by omega
          rcases this with rfl | rfl | rfl
          · exact (up_f h3 (by decide)).trans ((up_f h2 (by decide)).trans (up_v h1).symm)
          · exact (up_f h3 (by decide)).trans (up_v h2).symm
          · exact (up_v h3).symm
        · rw [if_neg (fun h => c5 h.2)]
          exact (up_f h3 (by omega)).trans ((up_f h2 (by omega)).trans (up_f h1 (by omega)))
      · rw [if_neg (fun h => e h.1)]
        exact congrFun ((up_k h3 e).trans ((up_k h2 e).trans (up_k h1 e))) f
    · have c2 : ¬ (4 : Int32).toInt ≤ i.toInt := fun h => c (vv_ge.mpr h)
      rw [if_neg c]
      simp only [letv_eq]
      have ai : (i + 1 : Int32).toInt = i.toInt + 1 := tI_add rfl (rfl : (1 : Int32).toInt = 1) (by omega) (by omega)
      have hc1 := tC_of (v := i + 1) (by omega)
      have lk := fx_like (mu := nu) (kk := 73 + i.toNatClampNeg) (kl := 61 + i.toNatClampNeg) (by omega)
      generalize F_sx_Letter_beLike nu (73 + i.toNatClampNeg) (61 + i.toNatClampNeg) = nu1 at lk ⊢
      rw [ih (i + 1) nu1 (by omega) (by omega) (by omega) k f]
      by_cases e : k = 73 + i.toNatClampNeg ∧ f < 10
      · obtain ⟨e, ef⟩ := e
        subst e
        rw [if_neg (fun h => by omega), if_neg (fun h => by omega), lk, if_pos ⟨rfl, ef⟩, if_pos ⟨by omega, by omega, ef⟩, show 73 + i.toNatClampNeg - 73 + 61 = 61 + i.toNatClampNeg by omega]
      · by_cases c5 : 73 + i.toNatClampNeg ≤ k ∧ k < 77 ∧ f < 10
        · rw [if_pos (by omega), if_pos c5, lk, if_neg (fun h => by omega)]
        · have lb : nu1 5 f = nu 5 f := by rw [lk, if_neg (fun h => by omega)]
          have lkk : nu1 k f = nu k f := by rw [lk, if_neg e]
          rw [if_neg (by omega), if_neg c5, lb, lkk]
theorem fx_like_20_5 {mu : Nat → Nat → Int32} : ∀ k f : Nat, F_sx_Standing_beLike_20_5 mu k f = if 73 ≤ k ∧ k < 77 ∧ f < 10 then mu (k - 73 + 61) f else if k = 20 ∧ 2 ≤ f ∧ f ≤ 4 then mu 5 f else if k = 42 ∧ f < 7 then mu 46 f else mu k f := by
  intro k f
  unfold F_sx_Standing_beLike_20_5
  simp only [letv_eq]
  have z0 : (0 : Int32).toNatClampNeg = 0 := rfl
  have z7 : (7 : Int32).toNatClampNeg = 7 := rfl
  have key := ll_20_5 7 0 (va_up mu 42 (va_cpy (mu 46) (mu 42) (0 : Int32).toNatClampNeg (0 : Int32).toNatClampNeg (7 : Int32).toNatClampNeg)) (by decide) (by decide) (by decide) k f
  rw [key, z0, z7]
  generalize h1 : va_up mu 42 (va_cpy (mu 46) (mu 42) 0 0 7) = n1
  have e1 : ∀ j : Nat, j ≠ 42 → n1 j = mu j := fun j hj => up_k h1 hj
  have e2 : ∀ g : Nat, n1 42 g = if g < 7 then mu 46 g else mu 42 g := fun g => by
    rw [← h1]
    by_cases cg : g < 7 <;> simp [va_up, va_cpy, cg]
  by_cases c1 : 73 ≤ k ∧ k < 77 ∧ f < 10
  · rw [if_pos (by omega), if_pos c1, e1 _ (by omega)]
  · rw [if_neg (by omega), if_neg c1]
    by_cases c2 : k = 20 ∧ 2 ≤ f ∧ f ≤ 4
    · rw [if_pos c2, if_pos c2, e1 _ (by decide)]
    · rw [if_neg c2, if_neg c2]
      by_cases c3 : k = 42
      · subst c3
        rw [e2]
        by_cases c4 : f < 7
        · rw [if_pos c4, if_pos ⟨rfl, c4⟩]
        · rw [if_neg c4, if_neg (fun h => c4 h.2)]
      · rw [e1 _ c3, if_neg (fun h => c3 h.1)]

