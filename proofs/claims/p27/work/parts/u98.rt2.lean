-- ===== routes: what is alike on both sides, and that an arrival keeps it =====
def rC (c : Int) (nux num : Nat → Nat → Int32) : Prop := nux 32 11 = num 0 30 ∧ (0 ≤ (num 0 30).toInt ∧ (num 0 30).toInt ≤ c) ∧ ((nux 55 3 = 0 ∧ num 0 30 = 0 ∧ num 0 31 = 1048576) ∨ (¬ nux 55 3 = 0 ∧ ¬ num 0 30 = 0 ∧ nux 55 2 = num 0 31 ∧ (nux 55 1).toInt + 1 = (num 0 32).toInt ∧ (0 ≤ (num 0 31).toInt ∧ (num 0 31).toInt < 1048576)))
def rS (c : Int) (nux num : Nat → Nat → Int32) : Prop := ((num 0 30 = 0 ∧ nux 32 14 = 2147483647 ∧ num 0 37 = 1048576) ∨ (¬ num 0 30 = 0 ∧ nux 32 14 = num 0 37 ∧ (0 ≤ (num 0 37).toInt ∧ (num 0 37).toInt < 1048576))) ∧ nux 32 12 = num 0 33 ∧ (0 ≤ (num 0 33).toInt ∧ (num 0 33).toInt ≤ c) ∧ ((num 0 33 = 0 ∧ nux 56 3 = 0 ∧ num 0 35 = 1048576 ∧ nux 32 13 = -1 ∧ num 0 36 = 127) ∨ (¬ num 0 33 = 0 ∧ ¬ nux 56 3 = 0 ∧ (nux 56 1).toInt + 1 = (num 0 35).toInt ∧ nux 56 2 = num 0 34 ∧ nux 32 13 = num 0 36))
def rel (c : Int) (nux num : Nat → Nat → Int32) : Prop := rC c nux num ∧ (¬ num 0 39 = -9 → rS c nux num)
def letP (nux num : Nat → Nat → Int32) : Prop := ∃ W0 : Int, W0 ≤ 3000 ∧ ((0 ≤ W0 ∧ (nux 32 8).toInt = W0) ∨ (W0 < 0 ∧ (nux 32 8).toInt = 0)) ∧ (0 ≤ (nux 32 9).toInt ∧ (nux 32 9).toInt ≤ 9) ∧ F_sm_letterOf num (num 0 39) 3 = nux 32 9 ∧ nux 32 10 = (if F_sm_letterOf num (num 0 39) 8 = num 0 14 then 1 else 0) ∧ ∀ L : Int32, 0 ≤ L.toInt → L.toInt ≤ 7 → ((0 ≤ W0 - (nux 32 9).toInt * L.toInt ∧ (F_sm_worthIn num (num 0 39) L).toInt = W0 - (nux 32 9).toInt * L.toInt) ∨ (W0 - (nux 32 9).toInt * L.toInt < 0 ∧ (F_sm_worthIn num (num 0 39) L).toInt = 0))
def stR (T : Int) (nux num : Nat → Nat → Int32) : Prop := nux 4 6 = num 0 8 ∧ (0 ≤ (num 0 8).toInt ∧ (num 0 8).toInt ≤ 7) ∧ (∀ x : Nat, x < (num 0 8).toNatClampNeg → nux 34 x = num 7 x ∧ nux 52 x = F_sm_besideOf num (nI x) ∧ nux 53 x = num 8 x ∧ 0 ≤ (num 8 x).toInt ∧ (num 8 x).toInt ≤ T) ∧ nux 32 6 = num 0 29 ∧ ¬ num 0 38 = 0 ∧ nux 32 5 = num 16 0 ∧ (0 ≤ (num 16 0).toInt ∧ (num 16 0).toInt < (num 0 8).toInt) ∧ (num 0 39 = -9 ∨ (¬ num 0 39 = -9 ∧ letP nux num))
theorem rC_le {c d : Int} {nux num : Nat → Nat → Int32} (h : rC c nux num) (hd : c ≤ d) : rC d nux num := ⟨h.1, ⟨h.2.1.1, Int.le_trans h.2.1.2 hd⟩, h.2.2⟩
theorem rS_le {c d : Int} {nux num : Nat → Nat → Int32} (h : rS c nux num) (hd : c ≤ d) : rS d nux num := ⟨h.1, h.2.1, ⟨h.2.2.1.1, Int.le_trans h.2.2.1.2 hd⟩, h.2.2.2⟩
theorem rel_le {c d : Int} {nux num : Nat → Nat → Int32} (h : rel c nux num) (hd : c ≤ d) : rel d nux num := ⟨rC_le h.1 hd, fun e => rS_le (h.2 e) hd⟩
theorem inc_of {v : Int32} {c : Int} (h0 : 0 ≤ v.toInt) (h1 : v.toInt ≤ c) (hc : c ≤ 1000000) : (v + 1).toInt = v.toInt + 1 ∧ ¬ v + 1 = 0 := by
  have e : (v + 1).toInt = v.toInt + 1 := vp1 (by omega)
  refine ⟨e, fun h => ?_⟩
  rw [h] at e
  have z : (0 : Int32).toInt = 0 := rfl
  omega
theorem rC_arr {c : Int} {nux num nC mC : Nat → Nat → Int32} {s n p : Int32} (hc : c ≤ 1000000) (h : rC c nux num) (hs : 1 ≤ s.toInt ∧ s.toInt ≤ 6) (hn : n.toInt = s.toInt + 1) (hp : 0 ≤ p.toInt ∧ p.toInt ≤ 1000000)
    (a1 : nC 32 11 = nux 32 11 + 1) (a2 : ((nux 55 3 = 0 ∨ p < nux 55 2 ∨ (p = nux 55 2 ∧ ¬ s ≥ nux 55 1)) ∧ nC 55 3 = 1 ∧ nC 55 1 = s ∧ nC 55 2 = p) ∨ (¬ (nux 55 3 = 0 ∨ p < nux 55 2 ∨ (p = nux 55 2 ∧ ¬ s ≥ nux 55 1)) ∧ nC 55 = nux 55))
    (b1 : mC 0 30 = num 0 30 + 1) (b2 : ((p < num 0 31 ∨ (p = num 0 31 ∧ ¬ n ≥ num 0 32)) ∧ mC 0 31 = p ∧ mC 0 32 = n) ∨ (¬ (p < num 0 31 ∨ (p = num 0 31 ∧ ¬ n ≥ num 0 32)) ∧ mC 0 31 = num 0 31 ∧ mC 0 32 = num 0 32)) : rC (c + 1) nC mC := by
  obtain ⟨h1, h2, h3⟩ := h
  obtain ⟨i1, i2⟩ := inc_of h2.1 h2.2 hc
  have taken : nC 55 3 = 1 → nC 55 1 = s → nC 55 2 = p → mC 0 31 = p → mC 0 32 = n → rC (c + 1) nC mC := fun q1 q2 q3 q4 q5 => by
    refine ⟨by rw [a1, b1, h1], by rw [b1, i1]; omega, Or.inr ⟨by rw [q1]; decide, by rw [b1]; exact i2, by rw [q3, q4], by rw [q2, q5, hn], by rw [q4]; omega⟩⟩
  rcases h3 with ⟨c1, c2, c3⟩ | ⟨c1, c2, c3, c4, c5⟩
  · have m : (1048576 : Int32).toInt = 1048576 := rfl
    have tm : p < num 0 31 := by rw [c3]; exact vv_lt.mpr (by omega)
    rcases a2 with ⟨_, q1, q2, q3⟩ | ⟨w, _⟩
    · rcases b2 with ⟨_, q4, q5⟩ | ⟨w, _⟩
      · exact taken q1 q2 q3 q4 q5
      · exact absurd (Or.inl tm) w
    · exact absurd (Or.inl c1) w
  · have key : (nux 55 3 = 0 ∨ p < nux 55 2 ∨ (p = nux 55 2 ∧ ¬ s ≥ nux 55 1)) ↔ (p < num 0 31 ∨ (p = num 0 31 ∧ ¬ n ≥ num 0 32)) := by
      rw [c3]
      constructor
      · rintro (e | e | ⟨e, f⟩)
        · exact absurd e c1
        · exact Or.inl e
        · exact Or.inr ⟨e, fun g => f (vv_ge.mpr (by have := vv_ge.mp g; omega))⟩
      · rintro (e | ⟨e, f⟩)
        · exact Or.inr (Or.inl e)
        · exact Or.inr (Or.inr ⟨e, fun g => f (vv_ge.mpr (by have := vv_ge.mp g; omega))⟩)
    rcases a2 with ⟨w, q1, q2, q3⟩ | ⟨w, q1⟩
    · rcases b2 with ⟨_, q4, q5⟩ | ⟨w2, _⟩
      · exact taken q1 q2 q3 q4 q5
      · exact absurd (key.mp w) w2
    · rcases b2 with ⟨w2, _⟩ | ⟨_, q4, q5⟩
      · exact absurd (key.mpr w2) w
      · exact ⟨by rw [a1, b1, h1], by rw [b1, i1]; omega, Or.inr ⟨by rw [q1]; exact c1, by rw [b1]; exact i2, by rw [q1, q4]; exact c3, by rw [q1, q5]; exact c4, by rw [q4]; exact c5⟩⟩
theorem and_m1 (v : Int32) : (-1 : Int32) &&& v = v := b_ext (fun i hi => by rw [b_and, b_m1 i hi, Bool.true_and])
theorem and_127 {v : Int32} (h : ∀ j : Nat, j < 32 → bt v j = true → j < 7) : (127 : Int32) &&& v = v := b_ext (fun i hi => by
  rw [b_and, b_127 i hi]
  cases e : bt v i with
  | false => simp
  | true =>
    have := h i hi e
    simp [this])
theorem needX_eq {nux : Nat → Nat → Int32} {s p : Int32} : F_sx_needFor nux s p = if p = 0 then 0 else p + nux 32 9 * (nux 32 10 + s - 1) := by
  simp only [F_sx_needFor, letv_eq]
theorem last_eq {nux num : Nat → Nat → Int32} {s n : Int32} (hs : 1 ≤ s.toInt ∧ s.toInt ≤ 6) (hn : n.toInt = s.toInt + 1) (hd : nux 32 10 = (if F_sm_letterOf num (num 0 39) 8 = num 0 14 then 1 else 0)) : nux 32 10 + s - 1 = lastM num n ∧ 0 ≤ (lastM num n).toInt ∧ (lastM num n).toInt ≤ 6 := by
  have o : (1 : Int32).toInt = 1 := rfl
  have z : (0 : Int32).toInt = 0 := rfl
  have t : (2 : Int32).toInt = 2 := rfl
  have e2 : (n - 2).toInt = n.toInt - 2 := tI_sub rfl t (by omega) (by omega)
  unfold lastM
  rw [hd]
  by_cases c : F_sm_letterOf num (num 0 39) 8 = num 0 14
  · rw [if_pos c, if_pos c]
    have e1 : ((1 : Int32) + s).toInt = 1 + s.toInt := tI_add o rfl (by omega) (by omega)
    have e3 : ((1 : Int32) + s - 1).toInt = 1 + s.toInt - 1 := tI_sub e1 o (by omega) (by omega)
    have e4 : (n - 2 + 1).toInt = n.toInt - 2 + 1 := tI_add e2 o (by omega) (by omega)
    exact ⟨Int32.toInt_inj.mp (by omega), by omega, by omega⟩
  · rw [if_neg c, if_neg c]
    have e1 : ((0 : Int32) + s).toInt = 0 + s.toInt := tI_add z rfl (by omega) (by omega)
    have e3 : ((0 : Int32) + s - 1).toInt = 0 + s.toInt - 1 := tI_sub e1 o (by omega) (by omega)
    have e4 : (n - 2 + 0).toInt = n.toInt - 2 + 0 := tI_add e2 z (by omega) (by omega)
    exact ⟨Int32.toInt_inj.mp (by omega), by omega, by omega⟩
/-- what is needed, on both sides; and that it comes -/
theorem need_eq {nux num : Nat → Nat → Int32} {s n p : Int32} (hL : letP nux num) (hs : 1 ≤ s.toInt ∧ s.toInt ≤ 6) (hn : n.toInt = s.toInt + 1) (hp : 0 ≤ p.toInt ∧ p.toInt ≤ 1000000) : F_sx_needFor nux s p = needM num p (lastM num n) ∧ (0 ≤ (needM num p (lastM num n)).toInt ∧ (needM num p (lastM num n)).toInt < 1048576) ∧ (F_sx_needFor nux s p ≤ nux 32 8 ↔ ¬ F_sm_worthIn num (num 0 39) (lastM num n) < p) := by
  obtain ⟨W0, hW, h8, h9, l3, l10, hw⟩ := hL
  obtain ⟨e1, e2, e3⟩ := last_eq hs hn l10
  have z : (0 : Int32).toInt = 0 := rfl
  have hwL := hw (lastM num n) e2 (by omega)
  have m0 : 0 ≤ (nux 32 9).toInt * (lastM num n).toInt := Int.mul_nonneg h9.1 e2
  have m1 : (nux 32 9).toInt * (lastM num n).toInt ≤ 9 * 6 := Int.mul_le_mul h9.2 e3 e2 (by decide)
  have em : (nux 32 9 * lastM num n).toInt = (nux 32 9).toInt * (lastM num n).toInt := tI_mul rfl rfl (by omega) (by omega)
  have q : F_sx_needFor nux s p = needM num p (lastM num n) := by
    rw [needX_eq, e1]
    unfold needM
    rw [l3]
  refine ⟨q, ?_, ?_⟩
  · unfold needM
    by_cases c : p = 0
    · rw [if_pos c]
      decide
    · rw [if_neg c, l3]
      have ea : (p + nux 32 9 * lastM num n).toInt = p.toInt + (nux 32 9).toInt * (lastM num n).toInt := tI_add rfl em (by omega) (by omega)
      rw [ea]
      omega
  · rw [q]
    unfold needM
    by_cases c : p = 0
    · rw [if_pos c, c]
      constructor
      · intro _ g
        have := vv_lt.mp g
        omega
      · intro _
        exact vv_le.mpr (by omega)
    · have cz : ¬ p.toInt = 0 := fun e => c (Int32.toInt_inj.mp (by rw [e]; rfl))
      rw [if_neg c, l3]
      have ea : (p + nux 32 9 * lastM num n).toInt = p.toInt + (nux 32 9).toInt * (lastM num n).toInt := tI_add rfl em (by omega) (by omega)
      constructor
      · intro g1 g2
        have := vv_le.mp g1
        have := vv_lt.mp g2
        omega
      · intro g1
        have g2 : ¬ (F_sm_worthIn num (num 0 39) (lastM num n)).toInt < p.toInt := fun e => g1 (vv_lt.mpr e)
        exact vv_le.mpr (by omega)
theorem lof_congr {a b : Nat → Nat → Int32} {k w : Int32} (h : b 10 = a 10) : F_sm_letterOf b k w = F_sm_letterOf a k w := by
  simp only [F_sm_letterOf, letv_eq]
  rw [h]
theorem win_congr {a b : Nat → Nat → Int32} {k L : Int32} (h : b 10 = a 10) (h14 : b 0 14 = a 0 14) : F_sm_worthIn b k L = F_sm_worthIn a k L := by
  simp only [F_sm_worthIn, letv_eq]
  rw [lof_congr h, lof_congr h, lof_congr h, h14]
theorem bes_congr {a b : Nat → Nat → Int32} {x : Int32} (h9 : b 9 = a 9) (h11 : b 0 11 = a 0 11) (h13 : b 0 13 = a 0 13) : ∀ (n : Nat) (v i : Int32), L_sm_besideOf_4_0 b x n v i = L_sm_besideOf_4_0 a x n v i := by
  intro n
  induction n with
  | zero => intro v i; rfl
  | succ n ih =>
    intro v i
    unfold L_sm_besideOf_4_0
    simp only [letv_eq, ih]
    rw [h9, h11, h13]
theorem letP_of {nux num xi1 xi2 : Nat → Nat → Int32} (h : letP nux num) (h1 : fixX nux xi1) (h2 : fixM num xi2) : letP xi1 xi2 := by
  obtain ⟨W0, hW, h8, h9, l3, l10, hw⟩ := h
  have m10 : xi2 10 = num 10 := h2.1 10 (by decide) (by decide) (by decide) (by decide)
  have m39 : xi2 0 39 = num 0 39 := h2.2.1 39 (by omega)
  have m14 : xi2 0 14 = num 0 14 := h2.2.1 14 (by omega)
  refine ⟨W0, hW, ?_, ?_, ?_, ?_, fun L hL1 hL2 => ?_⟩
  · rw [h1.2 8 (by decide)]; exact h8
  · rw [h1.2 9 (by decide)]; exact h9
  · rw [m39, lof_congr m10, h1.2 9 (by decide)]; exact l3
  · rw [m39, lof_congr m10, m14, h1.2 10 (by decide)]; exact l10
  · rw [m39, win_congr m10 m14, h1.2 9 (by decide)]; exact hw L hL1 hL2
theorem stR_of {T : Int} {nux num xi1 xi2 : Nat → Nat → Int32} (h : stR T nux num) (h1 : fixX nux xi1) (h2 : fixM num xi2) : stR T xi1 xi2 := by
  obtain ⟨a, b, d, e, f, g, i, j⟩ := h
  have m8 : xi2 0 8 = num 0 8 := h2.2.1 8 (by omega)
  have m39 : xi2 0 39 = num 0 39 := h2.2.1 39 (by omega)
  have c : ∀ k : Nat, k ≠ 32 → k ≠ 54 → k ≠ 55 → k ≠ 56 → k ≠ 57 → k ≠ 58 → xi1 k = nux k := h1.1
  have m : ∀ k : Nat, k ≠ 0 → k ≠ 16 → k ≠ 17 → k ≠ 18 → xi2 k = num k := h2.1
  refine ⟨?_, ?_, fun x hx => ?_, ?_, ?_, ?_, ?_, ?_⟩
  · rw [c 4 (by decide) (by decide) (by decide) (by decide) (by decide) (by decide), m8]; exact a
  · rw [m8]; exact b
  · rw [m8] at hx
    obtain ⟨q1, q2, q3, q4⟩ := d x hx
    rw [c 34 (by decide) (by decide) (by decide) (by decide) (by decide) (by decide), c 52 (by decide) (by decide) (by decide) (by decide) (by decide) (by decide), c 53 (by decide) (by decide) (by decide) (by decide) (by decide) (by decide), m 7 (by decide) (by decide) (by decide) (by decide), m 8 (by decide) (by decide) (by decide) (by decide)]
    refine ⟨q1, ?_, q3, q4⟩
    rw [q2]
    exact (bes_congr (m 9 (by decide) (by decide) (by decide) (by decide)) (h2.2.1 11 (by omega)) (h2.2.1 13 (by omega)) 15 0 0).symm
  · rw [h1.2 6 (by decide), h2.2.1 29 (by omega)]; exact e
  · rw [h2.2.1 38 (by omega)]; exact f
  · rw [h1.2 5 (by decide), h2.2.2]; exact g
  · rw [h2.2.2, m8]; exact i
  · rw [m39]
    rcases j with j | ⟨j, k⟩
    · exact Or.inl j
    · exact Or.inr ⟨j, letP_of k h1 h2⟩
theorem rC_of {c : Int} {nux num xi1 xi2 : Nat → Nat → Int32} (h : rC c nux num) (h1 : xi1 32 11 = nux 32 11) (h2 : xi1 55 = nux 55) (h3 : xi2 0 30 = num 0 30) (h4 : xi2 0 31 = num 0 31) (h5 : xi2 0 32 = num 0 32) : rC c xi1 xi2 := by
  unfold rC
  rw [h1, h2, h3, h4, h5]
  exact h
theorem arr {T c : Int} {nux num xi1 xi2 : Nat → Nat → Int32} {s n u q p : Int32} (hT : T ≤ 1000000) (hc : c ≤ 1000000) (hS : stR T nux num) (hR : rel c nux num) (hs : 1 ≤ s.toInt ∧ s.toInt ≤ 6) (hn : n.toInt = s.toInt + 1) (hp : 0 ≤ p.toInt ∧ p.toInt ≤ T) (hu : ∀ j : Nat, j < 32 → bt u j = true → j < 7) (hq : q = u &&& (((1 : Int32) <<< (num 16 0 &&& 31)) ^^^ (-1))) (h1 : xi1 = F_sx_R_arrive nux s u p) (h2 : xi2 = F_sm_meetRoute num n q p) : fixX nux xi1 ∧ fixM num xi2 ∧ rel (c + 1) xi1 xi2 := by
  obtain ⟨nC, hz, a1, a2, a3, a4⟩ := ax1_out h1
  obtain ⟨mC, hzm, b1, b2, b3, b4⟩ := bm0_out h2
  have rc : rC (c + 1) nC mC := rC_arr hc hR.1 hs hn ⟨hp.1, by omega⟩ a3 a4 b3 b4
  have fX : fixX nux nC := ⟨fun k k1 _ k3 _ k5 _ => a1 k k1 k3 k5, fun f hf => a2 f (by omega)⟩
  have fM : fixM num mC := ⟨fun k k1 _ k3 _ => b1 k k1 k3, fun f hf => b2 f (by omega) (by omega) (by omega), by rw [b1 16 (by decide) (by decide)]⟩
  have hS2 := stR_of hS fX fM
  obtain ⟨nN, d1, d2, d3, d4⟩ := ax2_out hz
  have fN : fixX nC nN := ⟨fun k k1 _ _ _ _ _ => d1 k k1, fun f hf => d2 f (by omega)⟩
  have endX : fixX nN xi1 ∧ xi1 55 = nN 55 ∧ xi1 32 11 = nN 32 11 ∧ xi1 32 14 = nN 32 14 := by
    rcases d4 with ⟨_, e⟩ | ⟨_, e⟩
    · obtain ⟨g1, g2, g3, g4, g5⟩ := ax3_out e
      exact ⟨⟨fun k k1 _ _ k4 _ k6 => g1 k k1 k4 k6, fun f hf => g2 f (by omega) (by omega)⟩, g1 55 (by decide) (by decide) (by decide), g2 11 (by decide) (by decide), g2 14 (by decide) (by decide)⟩
    · rw [e]
      exact ⟨fixX_rf, rfl, rfl, rfl⟩
  have x11 : xi1 32 11 = nC 32 11 := endX.2.2.1.trans (d2 11 (by decide))
  have x55 : xi1 55 = nC 55 := endX.2.1.trans (d1 55 (by decide))
  rcases bm53_out hzm with ⟨w, e⟩ | ⟨w, e⟩
  · refine ⟨fixX_tr (fixX_tr fX fN) endX.1, by rw [e]; exact fM, ?_, fun h => absurd (by rw [e]; exact w) h⟩
    rw [e]
    exact rC_of rc x11 x55 rfl rfl rfl
  · obtain ⟨mN, f1, f2, f3, f4⟩ := bm115_out (bm91_out e)
    have gM : fixM mC mN := ⟨fun k k1 _ _ _ => f1 k k1, fun f hf => f2 f (by omega), by rw [f1 16 (by decide)]⟩
    have m39 : mC 0 39 = num 0 39 := b2 39 (by decide) (by decide) (by decide)
    have hw : ¬ num 0 39 = -9 := by rw [← m39]; exact w
    have hP : letP nC mC := by
      rcases hS2.2.2.2.2.2.2.2 with j | ⟨_, k⟩
      · exact absurd j w
      · exact k
    obtain ⟨n1, n2, n3⟩ := need_eq (s := s) (n := n) (p := p) hP hs hn ⟨hp.1, by omega⟩
    obtain ⟨s1, s2, s3, s4⟩ := hR.2 hw
    have wN : F_sm_worthIn mN (mN 0 39) (lastM mC n) = F_sm_worthIn mC (mC 0 39) (lastM mC n) := by
      rw [f2 39 (by decide)]
      exact win_congr (f1 10 (by decide)) (f2 14 (by decide))
    have v14 : nN 32 14 = mN 0 37 ∧ 0 ≤ (mN 0 37).toInt ∧ (mN 0 37).toInt < 1048576 := by
      have x14 : nC 32 14 = nux 32 14 := a2 14 (by decide)
      have x37 : mC 0 37 = num 0 37 := b2 37 (by decide) (by decide) (by decide)
      rw [d3, f3, n1, x14, x37]
      rcases s1 with ⟨_, q2, q3⟩ | ⟨_, q2, q3⟩
      · rw [q2, q3]
        have m1 : (2147483647 : Int32).toInt = 2147483647 := rfl
        have m2 : (1048576 : Int32).toInt = 1048576 := rfl
        rw [if_pos (vv_lt.mpr (by omega)), if_neg (fun g => by have := vv_ge.mp g; omega)]
        exact ⟨rfl, n2⟩
      · rw [q2]
        by_cases g : needM mC p (lastM mC n) < num 0 37
        · have g1 := vv_lt.mp g
          rw [if_pos g, if_neg (fun g => by have := vv_ge.mp g; omega)]
          exact ⟨rfl, n2⟩
        · have g1 : ¬ (needM mC p (lastM mC n)).toInt < (num 0 37).toInt := fun e => g (vv_lt.mpr e)
          rw [if_neg g, if_pos (vv_ge.mpr (by omega))]
          exact ⟨rfl, q3⟩
    have x12 : nN 32 12 = num 0 33 := by rw [d2 12 (by decide), a2 12 (by decide)]; exact s2
    have x13 : nN 32 13 = nux 32 13 := by rw [d2 13 (by decide), a2 13 (by decide)]
    have x5 : nN 32 5 = num 16 0 := by rw [d2 5 (by decide), a2 5 (by decide)]; exact hS.2.2.2.2.2.1
    have x56 : nN 56 = nux 56 := (d1 56 (by decide)).trans (a1 56 (by decide) (by decide) (by decide))
    have y30 : mN 0 30 = num 0 30 + 1 := by rw [f2 30 (by decide), b3]
    have y33 : mN 0 33 = num 0 33 := by rw [f2 33 (by decide), b2 33 (by decide) (by decide) (by decide)]
    have y34 : mN 0 34 = num 0 34 := by rw [f2 34 (by decide), b2 34 (by decide) (by decide) (by decide)]
    have y35 : mN 0 35 = num 0 35 := by rw [f2 35 (by decide), b2 35 (by decide) (by decide) (by decide)]
    have y36 : mN 0 36 = num 0 36 := by rw [f2 36 (by decide), b2 36 (by decide) (by decide) (by decide)]
    have nz : ¬ num 0 30 + 1 = 0 := (inc_of hR.1.2.1.1 hR.1.2.1.2 hc).2
    rcases d4 with ⟨g, e4⟩ | ⟨g, e4⟩
    · rcases bm137_out f4 with ⟨g2, _⟩ | ⟨g2, k1, k2, k3, k4, k5⟩
      · rw [wN] at g2
        exact absurd g2 (n3.mp g)
      · obtain ⟨j1, j2, j3, j4, j5⟩ := ax3_out e4
        have FM : fixM mN xi2 := ⟨fun k c1 _ _ c4 => k1 k c1 c4, fun f hf => k2 f (by omega) (by omega) (by omega) (by omega), by rw [k1 16 (by decide) (by decide)]⟩
        obtain ⟨i1, i2⟩ := inc_of s3.1 s3.2 hc
        rw [x5, ← hq, x13] at j4
        rw [y36] at k4
        rw [x56] at j5
        rw [y34, y35] at k5
        have hqb : ∀ j : Nat, j < 32 → bt q j = true → j < 7 := fun j hj e => by
          rw [hq, b_and] at e
          exact hu j hj (Bool.and_eq_true _ _ ▸ e).1
        have soon : ¬ xi1 56 3 = 0 ∧ (xi1 56 1).toInt + 1 = (xi2 0 35).toInt ∧ xi1 56 2 = xi2 0 34 ∧ xi1 32 13 = xi2 0 36 := by
          rcases s4 with ⟨t1, t2, t3, t4, t5⟩ | ⟨t1, t2, t3, t4, t5⟩
          · have m2 : (1048576 : Int32).toInt = 1048576 := rfl
            rcases j5 with ⟨_, q1, q2, q3⟩ | ⟨w5, _⟩
            · rcases k5 with ⟨_, q4, q5⟩ | ⟨w6, _⟩
              · refine ⟨by rw [q1]; decide, by rw [q2, q5, hn], by rw [q3, q4], ?_⟩
                rw [j4, k4, t4, t5, and_m1, and_127 hqb]
              · refine absurd (Or.inl ?_) w6
                rw [t3]
                exact vv_lt.mpr (by omega)
            · exact absurd (Or.inl t2) w5
          · have key : (nux 56 3 = 0 ∨ s < nux 56 1 ∨ (s = nux 56 1 ∧ ¬ p ≥ nux 56 2)) ↔ (n < num 0 35 ∨ (n = num 0 35 ∧ ¬ p ≥ num 0 34)) := by
              rw [t4]
              constructor
              · rintro (e | e | ⟨e, f⟩)
                · exact absurd e t2
                · exact Or.inl (vv_lt.mpr (by have := vv_lt.mp e; omega))
                · exact Or.inr ⟨Int32.toInt_inj.mp (by rw [← t3, ← e, hn]), f⟩
              · rintro (e | ⟨e, f⟩)
                · exact Or.inr (Or.inl (vv_lt.mpr (by have := vv_lt.mp e; omega)))
                · exact Or.inr (Or.inr ⟨Int32.toInt_inj.mp (by rw [e] at hn; omega), f⟩)
            have v13 : xi1 32 13 = xi2 0 36 := by rw [j4, k4, t5]
            rcases j5 with ⟨w5, q1, q2, q3⟩ | ⟨w5, q1⟩
            · rcases k5 with ⟨_, q4, q5⟩ | ⟨w6, _⟩
              · exact ⟨by rw [q1]; decide, by rw [q2, q5, hn], by rw [q3, q4], v13⟩
              · exact absurd (key.mp w5) w6
            · rcases k5 with ⟨w6, _⟩ | ⟨_, q4, q5⟩
              · exact absurd (key.mpr w6) w5
              · exact ⟨by rw [q1]; exact t2, by rw [q1, q5]; exact t3, by rw [q1, q4]; exact t4, v13⟩
        refine ⟨fixX_tr (fixX_tr fX fN) endX.1, fixM_tr (fixM_tr fM gM) FM, rC_of rc x11 x55 ?_ ?_ ?_, fun _ => ?_⟩
        · rw [k2 30 (by decide) (by decide) (by decide) (by decide), f2 30 (by decide)]
        · rw [k2 31 (by decide) (by decide) (by decide) (by decide), f2 31 (by decide)]
        · rw [k2 32 (by decide) (by decide) (by decide) (by decide), f2 32 (by decide)]
        · refine ⟨Or.inr ⟨?_, ?_, ?_⟩, ?_, ?_, Or.inr ⟨?_, soon⟩⟩
          · rw [k2 30 (by decide) (by decide) (by decide) (by decide), y30]; exact nz
          · rw [endX.2.2.2, k2 37 (by decide) (by decide) (by decide) (by decide)]; exact v14.1
          · rw [k2 37 (by decide) (by decide) (by decide) (by decide)]; exact v14.2
          · rw [j3, k3, x12, y33]
          · rw [k3, y33, i1]; omega
          · rw [k3, y33]; exact i2
    · rcases bm137_out f4 with ⟨g2, e5⟩ | ⟨g2, _⟩
      · refine ⟨fixX_tr (fixX_tr fX fN) endX.1, by rw [e5]; exact fixM_tr fM gM, ?_, fun _ => ?_⟩
        · refine rC_of rc x11 x55 ?_ ?_ ?_
          · rw [e5, f2 30 (by decide)]
          · rw [e5, f2 31 (by decide)]
          · rw [e5, f2 32 (by decide)]
        · rw [e4, e5]
          refine ⟨Or.inr ⟨?_, v14.1, v14.2⟩, ?_, ?_, ?_⟩
          · rw [y30]; exact nz
          · rw [x12, y33]
          · rw [y33]; omega
          · rw [y33, y34, y35, y36, x56, x13]
            exact s4
      · rw [wN] at g2
        exact absurd (n3.mpr g2) g

