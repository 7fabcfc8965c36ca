-- ===== block =====
theorem bt_nI {a j : Nat} (hj : j < 32) : bt (nI a) j = a.testBit j := by
  show (BitVec.ofNat 32 a).getLsbD j = _
  rw [BitVec.getLsbD_ofNat]
  simp [hj]
theorem bk_shl : ∀ p, p < 13 → ((1 : Int32) <<< (nI p &&& 31)).toInt = ((2 ^ p : Nat) : Int) := by decide +kernel
theorem bk_low : ∀ p, p < 13 → ∀ j, j < 32 → bt (((1 : Int32) <<< (nI p &&& 31)) - 1) j = decide (j < p) := by decide +kernel
theorem bk_cnt : ∀ a, a < 16 → ∀ b, b < 256 → F_sx_bitCount (nI (256 * a + b)) = F_sm_sizeOf (nI (256 * a + b)) ∧ 0 ≤ (F_sm_sizeOf (nI (256 * a + b))).toInt ∧ (F_sm_sizeOf (nI (256 * a + b))).toInt ≤ ((Nat.log2 (256 * a + b) + 1 : Nat) : Int) ∧ (F_sm_sizeOf (nI (256 * a + b)) = 0 → 256 * a + b = 0) := by decide +kernel
theorem bk_pow {p : Nat} (hp : p < 13) : 1 ≤ 2 ^ p ∧ 2 ^ p ≤ 4096 := ⟨Nat.one_le_two_pow, Nat.le_trans (Nat.pow_le_pow_right (by decide) (show p ≤ 12 by omega)) (by decide)⟩
theorem bk_of {s : Int32} {p Q : Nat} (hp : p < 13) (hQ : Q = 2 ^ p) (h0 : 0 ≤ s.toInt) (h1 : s.toInt < (Q : Int)) : F_sx_bitCount s = F_sm_sizeOf s ∧ 0 ≤ (F_sm_sizeOf s).toInt ∧ (F_sm_sizeOf s).toInt ≤ (p : Int) ∧ (F_sm_sizeOf s = 0 → s = 0) := by
  have e := nI_at h0
  have hc := tC_of h0
  have h12 := bk_pow hp
  rw [← hQ] at h12
  obtain ⟨a, ea⟩ : ∃ a, a = s.toNatClampNeg := ⟨_, rfl⟩
  rw [← ea] at e hc
  have la : a < Q := by omega
  have k := bk_cnt (a / 256) (by omega) (a % 256) (by omega)
  rw [Nat.div_add_mod a 256, ← e] at k
  refine ⟨k.1, k.2.1, ?_, fun h => ?_⟩
  · by_cases z : a = 0
    · have z0 : (F_sm_sizeOf (nI 0)).toInt = 0 := by decide +kernel
      rw [e, z, z0]
      omega
    · have l := (Nat.log2_lt z).mpr (by rw [← hQ]; exact la : a < 2 ^ p)
      have := k.2.2.1
      omega
  · rw [e, k.2.2.2 h]
    rfl
theorem bk_lt {s : Int32} {p Q : Nat} (hQ : Q = 2 ^ p) (h0 : 0 ≤ s.toInt) (h1 : s.toInt < (Q : Int)) : ∀ j : Nat, j < 32 → bt s j = true → j < p := fun j hj h => by
  have hc := tC_of h0
  rw [nI_at h0, bt_nI hj] at h
  by_cases c : j < p
  · exact c
  · have l : s.toNatClampNeg < 2 ^ j := Nat.lt_of_lt_of_le (show s.toNatClampNeg < 2 ^ p by rw [← hQ]; omega) (Nat.pow_le_pow_right (by decide) (by omega))
    rw [Nat.testBit_lt_two_pow l] at h
    cases h
theorem bk_gt {v : Int32} {p Q : Nat} (hp : p < 13) (hQ : Q = 2 ^ p) (h : ∀ j : Nat, j < 32 → bt v j = true → j < p) : 0 ≤ v.toInt ∧ v.toInt < (Q : Int) := by
  have h12 := bk_pow hp
  have e : v.toBitVec.toNat < 2 ^ p := Nat.lt_pow_two_of_testBit _ (fun i hi => by
    by_cases c : i < 32
    · have q : bt v i = v.toBitVec.toNat.testBit i := rfl
      rw [← q]
      cases hb : bt v i
      · rfl
      · have := h i c hb
        omega
    · exact Nat.testBit_lt_two_pow (Nat.lt_of_lt_of_le v.toBitVec.isLt (Nat.pow_le_pow_right (by decide) (by omega))))
  have ei : v.toInt = (v.toBitVec.toNat : Int) := by
    show v.toBitVec.toInt = _
    exact BitVec.toInt_eq_toNat_of_lt (by omega)
  rw [← hQ] at e
  omega
theorem bk_more {s b : Int32} : s &&& (b ^^^ (-1)) = 0 ↔ ∀ j : Nat, j < 32 → bt s j = true → bt b j = true := by
  constructor
  · intro h j hj hs
    have := congrArg (fun v => bt v j) h
    simp only [b_and, b_xor, b_m1 j hj, b_zero j hj, hs] at this
    cases hb : bt b j
    · rw [hb] at this
      cases this
    · rfl
  · intro h
    apply b_ext
    intro j hj
    rw [b_and, b_xor, b_m1 j hj, b_zero j hj]
    cases hs : bt s j
    · rfl
    · rw [h j hj hs]
      rfl
theorem bk_open {s was o : Int32} {p : Nat} (hp : p < 13) (ho : o = (((1 : Int32) <<< (nI p &&& 31)) - 1) &&& (was ^^^ (-1))) (hs : ∀ j : Nat, j < 32 → bt s j = true → j < p) : s &&& (o ^^^ (-1)) = 0 ↔ s &&& was = 0 := by
  have ob : ∀ j : Nat, j < 32 → bt o j = (decide (j < p) && (bt was j ^^ true)) := fun j hj => by rw [ho, b_and, b_xor, b_m1 j hj, bk_low p hp j hj]
  rw [bk_more]
  constructor
  · intro h
    apply b_ext
    intro j hj
    rw [b_and, b_zero j hj]
    cases hb : bt s j
    · rfl
    · have k := h j hj hb
      rw [ob j hj, Bool.and_eq_true] at k
      cases hw : bt was j
      · rfl
      · rw [hw] at k
        exact absurd k.2 (by decide)
  · intro h j hj hb
    have k := congrArg (fun v => bt v j) h
    simp only [b_and, b_zero j hj, hb, Bool.true_and] at k
    rw [ob j hj, k, decide_eq_true (hs j hj hb)]
    rfl
/-- a letter looked at, whatever snow -/
def lkB (T : Int) (k : Int32) (nux num : Nat → Nat → Int32) : Prop := simK nux num ∧ (0 ≤ (num 0 8).toInt ∧ (num 0 8).toInt ≤ 7) ∧ (0 ≤ (num 0 11).toInt ∧ (num 0 11).toInt ≤ 12) ∧ (∀ x : Nat, x < (num 0 8).toNatClampNeg → nux 53 x = num 8 x ∧ 0 ≤ (num 8 x).toInt ∧ (num 8 x).toInt ≤ T) ∧ (nux 32 6 = F_sm_letterOf num k 1 ∧ nux 32 5 = F_sm_letterOf5 num k ∧ nux 32 7 = F_sm_letterOf num k 6) ∧ ¬ num 0 38 = 0 ∧ (0 ≤ (F_sm_letterOf5 num k).toInt ∧ (F_sm_letterOf5 num k).toInt < (num 0 8).toInt) ∧ (0 ≤ (F_sm_letterOf num k 6).toInt ∧ (F_sm_letterOf num k 6).toInt ≤ T) ∧ (¬ k = -9 ∧ letV k nux num)
theorem lkB_gen {T : Int} {k : Int32} {nux num xi1 xi2 : Nat → Nat → Int32} (h : lkB T k nux num) (hx : ∀ c : Nat, c ≠ 52 → xi1 c = nux c) (hm : ∀ c : Nat, c ≠ 0 → c ≠ 16 → c ≠ 17 → c ≠ 18 → xi2 c = num c) (h0 : ∀ f : Nat, f ≠ 13 → f < 29 ∨ f = 38 → xi2 0 f = num 0 f) : lkB T k xi1 xi2 := by
  obtain ⟨q1, q2, q2', q3, ⟨q6, q5, q7⟩, qc, qf, qp, qn, W0, hW, h8, h9, l3, l10, hw⟩ := h
  have f8 : xi2 0 8 = num 0 8 := h0 8 (by decide) (by omega)
  have f11 : xi2 0 11 = num 0 11 := h0 11 (by decide) (by omega)
  have f14 : xi2 0 14 = num 0 14 := h0 14 (by decide) (by omega)
  have c10 : xi2 10 = num 10 := hm 10 (by decide) (by decide) (by decide) (by decide)
  have c32 : xi1 32 = nux 32 := hx 32 (by decide)
  refine ⟨?_, ?_, ?_, fun x hxx => ?_, ⟨?_, ?_, ?_⟩, ?_, ?_, ?_, qn, W0, hW, ?_, ?_, ?_, ?_, fun L hL1 hL2 => ?_⟩
  · unfold simK
    rw [hx 4 (by decide), hx 34 (by decide), hx 35 (by decide), hx 36 (by decide), f8, f11, hm 7 (by decide) (by decide) (by decide) (by decide), hm 9 (by decide) (by decide) (by decide) (by decide)]
    exact q1
  · rw [f8]; exact q2
  · rw [f11]; exact q2'
  · rw [f8] at hxx
    rw [hx 53 (by decide), hm 8 (by decide) (by decide) (by decide) (by decide)]
    exact q3 x hxx
  · rw [c32, lof_congr c10]; exact q6
  · rw [c32, lof5_congr c10]; exact q5
  · rw [c32, lof_congr c10]; exact q7
  · rw [h0 38 (by decide) (by omega)]; exact qc
  · rw [lof5_congr c10, f8]; exact qf
  · rw [lof_congr c10]; exact qp
  · rw [c32]; exact h8
  · rw [c32]; exact h9
  · rw [lof_congr c10, c32]; exact l3
  · rw [lof_congr c10, f14, c32]; exact l10
  · rw [win_congr c10 f14, c32]; exact hw L hL1 hL2
/-- the reference's walks from a start, and whether the class says that one comes -/
theorem startM {T : Int} {nux num xi2 : Nat → Nat → Int32} {vk vf vg vp : Int32} (hT : T ≤ 1000000) (hB : nux 4 6 = num 0 8) (hb : 0 ≤ (num 0 8).toInt ∧ (num 0 8).toInt ≤ 7) (hx : ∀ x : Nat, x < (num 0 8).toNatClampNeg → nux 34 x = num 7 x ∧ nux 52 x = F_sm_besideOf num (nI x) ∧ nux 53 x = num 8 x ∧ 0 ≤ (num 8 x).toInt ∧ (num 8 x).toInt ≤ T) (hg : nux 32 6 = vg) (hpc : ¬ num 0 38 = 0) (hf : nux 32 5 = vf) (hfr : 0 ≤ vf.toInt ∧ vf.toInt < (num 0 8).toInt) (hpr : 0 ≤ vp.toInt ∧ vp.toInt ≤ T) (hl : ¬ vk = -9 ∧ letV vk nux num) (h2 : xi2 = F_sm_setRoutes num vk vf vg vp) : ((F_sx_comesFrom0 nux vf ((1 : Int32) <<< (vf &&& 31)) vp = 0 ∧ xi2 0 33 = 0) ∨ (F_sx_comesFrom0 nux vf ((1 : Int32) <<< (vf &&& 31)) vp = 1 ∧ ¬ xi2 0 33 = 0)) ∧ ((∀ k : Nat, k ≠ 0 → k ≠ 16 → k ≠ 17 → k ≠ 18 → xi2 k = num k) ∧ (∀ f : Nat, f < 29 ∨ f = 38 → xi2 0 f = num 0 f)) := by
  unfold F_sm_setRoutes at h2
  obtain ⟨_, _, h2⟩ := letv_out h2
  obtain ⟨_, _, h2⟩ := letv_out h2
  obtain ⟨_, _, h2⟩ := letv_out h2
  obtain ⟨m4, d4, h2⟩ := letv_out h2
  obtain ⟨m9, d9, h2⟩ := letv_out h2
  obtain ⟨m15, d15, h2⟩ := letv_out h2
  obtain ⟨m22, d22, h2⟩ := letv_out h2
  obtain ⟨m30, d30, h2⟩ := letv_out h2
  obtain ⟨m39, d39, h2⟩ := letv_out h2
  obtain ⟨m48, d48, h2⟩ := letv_out h2
  obtain ⟨m58, d58, h2⟩ := letv_out h2
  obtain ⟨m68, d68, h2⟩ := letv_out h2
  obtain ⟨m79, d79, h2⟩ := letv_out h2
  obtain ⟨m91, d91, h2⟩ := letv_out h2
  obtain ⟨t103, d103, h2⟩ := letv_out h2
  obtain ⟨x107, d107, h2⟩ := letv_out h2
  obtain ⟨_, _, h2⟩ := letv_out h2
  obtain ⟨_, _, h2⟩ := letv_out h2
  obtain ⟨_, _, h2⟩ := letv_out h2
  have m0 : m91 0 = m79 0 := uw_k d91 0 (by decide)
  have km : ∀ k : Nat, k ≠ 0 → k ≠ 16 → m91 k = num k := fun k a b => by
    rw [uw_k d91 k b, uw_k d79 k a, uw_k d68 k a, uw_k d58 k a, uw_k d48 k a, uw_k d39 k a, uw_k d30 k a, uw_k d22 k a, uw_k d15 k a, uw_k d9 k a, uw_k d4 k a]
  have fm : ∀ f : Nat, f < 29 ∨ f = 38 → m91 0 f = num 0 f := fun f hf => by
    rw [m0, uw_f d79 f (by omega), uw_f d68 f (by omega), uw_f d58 f (by omega), uw_f d48 f (by omega), uw_f d39 f (by omega), uw_f d30 f (by omega), uw_f d22 f (by omega), uw_f d15 f (by omega), uw_f d9 f (by omega), uw_f d4 f (by omega)]
  have w39 : m91 0 39 = vk := by rw [m0, uw_f d79 39 (by decide), uw_f d68 39 (by decide), uw_f d58 39 (by decide), uw_f d48 39 (by decide), uw_f d39 39 (by decide), uw_f d30 39 (by decide), uw_f d22 39 (by decide), uw_f d15 39 (by decide), uw_f d9 39 (by decide), uw_v d4]
  have w29 : m91 0 29 = vg := by rw [m0, uw_f d79 29 (by decide), uw_f d68 29 (by decide), uw_f d58 29 (by decide), uw_f d48 29 (by decide), uw_f d39 29 (by decide), uw_f d30 29 (by decide), uw_f d22 29 (by decide), uw_f d15 29 (by decide), uw_v d9]
  have w33 : m91 0 33 = 0 := by rw [m0, uw_f d79 33 (by decide), uw_f d68 33 (by decide), uw_f d58 33 (by decide), uw_f d48 33 (by decide), uw_v d39]
  have w160 : m91 16 0 = vf := uw_v d91
  have f8 : m91 0 8 = num 0 8 := fm 8 (by omega)
  have c10 : m91 10 = num 10 := km 10 (by decide) (by decide)
  have f14 : m91 0 14 = num 0 14 := fm 14 (by omega)
  have hS : stR T nux m91 := by
    refine ⟨?_, ?_, fun x hxx => ?_, ?_, ?_, ?_, ?_, ?_⟩
    · rw [f8]; exact hB
    · rw [f8]; exact hb
    · rw [f8] at hxx
      obtain ⟨q1, q2, q3, q4⟩ := hx x hxx
      rw [km 7 (by decide) (by decide), km 8 (by decide) (by decide)]
      refine ⟨q1, ?_, q3, q4⟩
      rw [q2]
      exact (bes_congr (km 9 (by decide) (by decide)) (fm 11 (by omega)) (fm 13 (by omega)) 15 0 0).symm
    · rw [w29]; exact hg
    · rw [fm 38 (by omega)]; exact hpc
    · rw [w160]; exact hf
    · rw [w160, f8]; exact hfr
    · rw [w39]
      obtain ⟨e, W0, hW, h8, h9, l3, l10, hw⟩ := hl
      refine Or.inr ⟨e, W0, hW, h8, h9, ?_, ?_, fun L hL1 hL2 => ?_⟩
      · rw [w39, lof_congr c10]; exact l3
      · rw [w39, lof_congr c10, f14]; exact l10
      · rw [w39, win_congr c10 f14]; exact hw L hL1 hL2
  have z0 : (0 : Int32).toInt = 0 := rfl
  have hbit : ∀ j : Nat, j < 32 → bt t103 j = true → j < 7 := fun j hj e => by
    rw [← d103, b_bit hfr.1 (by omega) hj] at e
    have := of_decide_eq_true e
    have := tC_of hfr.1
    omega
  have z := ck0 (c := 0) (nux := nux) (num := m91) (x := vf) (u := t103) (p := vp) hT (by decide) hS (by rw [w39]; exact hl.1) (by rw [w33, z0]; omega) w160.symm (by rw [f8]; exact hfr) hpr hbit
  rw [d107, ← d103, ← h2] at z
  obtain ⟨z1, z2, z3⟩ := z
  refine ⟨?_, fun k a b c d => (z1.1 k a b c d).trans (km k a b), fun f hf => (z1.2.1 f (by omega)).trans (fm f hf)⟩
  rw [w33] at z3
  rcases z3 with ⟨a, b⟩ | ⟨a, b⟩
  · exact Or.inl ⟨a, b⟩
  · exact Or.inr ⟨a, fun e => by rw [e] at b; exact absurd b (Int.lt_irrefl _)⟩
theorem under_rel {T : Int} {k s : Int32} {nux num z : Nat → Nat → Int32} (hT : T ≤ 1000000) (h : lkB T k nux num) (hs : nux 5 2 ||| s = num 0 13) (h2 : z = F_sm_routesOf num k) : (((F_sx_comesUnder nux s).1 = 0 ∧ z 0 33 = 0) ∨ ((F_sx_comesUnder nux s).1 = 1 ∧ ¬ z 0 33 = 0)) ∧ (∀ c : Nat, c ≠ 52 → (F_sx_comesUnder nux s).2 c = nux c) ∧ ((∀ c : Nat, c ≠ 0 → c ≠ 16 → c ≠ 17 → c ≠ 18 → z c = num c) ∧ (∀ f : Nat, f < 29 ∨ f = 38 → z 0 f = num 0 f)) := by
  obtain ⟨q1, q2, q2', q3, ⟨q6, q5, q7⟩, qc, qf, qp, qn, ql⟩ := h
  have hcB := tC_of q2.1
  obtain ⟨a1, a2, a3⟩ := link_loop q2 q2' hs 10 0 nux q1 (by decide) (by decide) (by decide)
  simp only [F_sx_comesUnder, F_sx_linkUnder, letv_eq]
  generalize L_sx_linkUnder_2_0 (nux 5 2 ||| s) 10 0 nux = xi at a1 a2 a3
  unfold F_sm_routesOf at h2
  obtain ⟨_, _, h2⟩ := letv_out h2
  obtain ⟨_, _, h2⟩ := letv_out h2
  obtain ⟨_, _, h2⟩ := letv_out h2
  obtain ⟨r4, e4, h2⟩ := letv_out h2
  obtain ⟨r5, e5, h2⟩ := letv_out h2
  obtain ⟨r6, e6, h2⟩ := letv_out h2
  obtain ⟨x7, e7, h2⟩ := letv_out h2
  obtain ⟨_, _, h2⟩ := letv_out h2
  obtain ⟨_, _, h2⟩ := letv_out h2
  obtain ⟨_, _, h2⟩ := letv_out h2
  have c32 : xi 32 = nux 32 := a1 32 (by decide)
  have hlet : letV k xi num := by
    unfold letV
    rw [c32]
    exact ql
  obtain ⟨s1, s2⟩ := startM (nux := xi) (num := num) (vk := k) (vf := r4) (vg := r5) (vp := r6) hT (by rw [a1 4 (by decide)]; exact q1.1) q2 (fun x hx => ⟨by rw [a1 34 (by decide)]; exact q1.2.2.1 x hx, a3 x (by show (0 : Int) ≤ _; omega) (by omega), by rw [a1 53 (by decide)]; exact (q3 x hx).1, (q3 x hx).2⟩) (by rw [c32]; exact q6.trans e5) qc (by rw [c32]; exact q5.trans e4) (by rw [← e4]; exact qf) (by rw [← e6]; exact qp) ⟨qn, hlet⟩ e7.symm
  rw [h2, c32, q5, q7, e4, e6]
  exact ⟨s1, a1, s2⟩
def blR (n0 : Nat → Nat → Int32) (was s : Int32) : Prop := s &&& was = 0 ∧ (F_sx_comesUnder n0 s).1 = 0
def cX (n0 nux : Nat → Nat → Int32) : Prop := ∀ c : Nat, c ≠ 52 → nux c = n0 c
def cM (x2 num : Nat → Nat → Int32) : Prop := (∀ c : Nat, c ≠ 0 → c ≠ 16 → c ≠ 17 → c ≠ 18 → num c = x2 c) ∧ (∀ f : Nat, f ≠ 13 → f < 29 ∨ f = 38 → num 0 f = x2 0 f)
theorem cM_up {x2 num n25 : Nat → Nat → Int32} {v : Int32} (h : cM x2 num) (e : va_up num 0 (upd (num 0) 13 v) = n25) : cM x2 n25 ∧ n25 0 13 = v := ⟨⟨fun c a b d f => (uw_k e c a).trans (h.1 c a b d f), fun f a b => (uw_f e f a).trans (h.2 f a b)⟩, uw_v e⟩
theorem under_m {T : Int} {k s : Int32} {n0 x2 num n25 z : Nat → Nat → Int32} (hT : T ≤ 1000000) (h : lkB T k n0 x2) (hm : cM x2 num) (e : va_up num 0 (upd (num 0) 13 (n0 5 2 ||| s)) = n25) (e2 : F_sm_routesOf n25 k = z) : (((F_sx_comesUnder n0 s).1 = 0 ∧ z 0 33 = 0) ∨ ((F_sx_comesUnder n0 s).1 = 1 ∧ ¬ z 0 33 = 0)) ∧ cM x2 z := by
  obtain ⟨u1, u2⟩ := cM_up hm e
  obtain ⟨v1, v2, v3⟩ := under_rel (s := s) hT (lkB_gen h (xi1 := n0) (xi2 := n25) (fun _ _ => rfl) u1.1 u1.2) u2.symm e2.symm
  exact ⟨v1, fun c a b d f => (v3.1 c a b d f).trans (u1.1 c a b d f), fun f a b => (v3.2 f b).trans (u1.2 f a b)⟩
theorem under_x {T : Int} {k s : Int32} {n0 x2 nux : Nat → Nat → Int32} (hT : T ≤ 1000000) (h : lkB T k n0 x2) (hx : cX n0 nux) : (F_sx_comesUnder nux s).1 = (F_sx_comesUnder n0 s).1 ∧ cX n0 (F_sx_comesUnder nux s).2 := by
  obtain ⟨n25, e⟩ : ∃ z, va_up x2 0 (upd (x2 0) 13 (n0 5 2 ||| s)) = z := ⟨_, rfl⟩
  obtain ⟨u1, u2⟩ := cM_up (x2 := x2) ⟨fun _ _ _ _ _ => rfl, fun _ _ _ => rfl⟩ e
  obtain ⟨v1, _, _⟩ := under_rel (s := s) hT (lkB_gen h (xi1 := n0) (xi2 := n25) (fun _ _ => rfl) u1.1 u1.2) u2.symm rfl
  obtain ⟨w1, w2, _⟩ := under_rel (s := s) hT (lkB_gen h (xi1 := nux) (xi2 := n25) hx u1.1 u1.2) (by rw [hx 5 (by decide)]; exact u2.symm) rfl
  refine ⟨?_, fun c hc => (w2 c hc).trans (hx c hc)⟩
  rcases v1 with ⟨a, b⟩ | ⟨a, b⟩
  · rcases w1 with ⟨c, d⟩ | ⟨c, d⟩
    · rw [a, c]
    · exact absurd b d
  · rcases w1 with ⟨c, d⟩ | ⟨c, d⟩
    · exact absurd d b
    · rw [a, c]
theorem lb_loop {T : Int} {k f o was lim : Int32} {n0 x2 : Nat → Nat → Int32} {Q : Nat} (hT : T ≤ 1000000) (h : lkB T k n0 x2) (hlim : (1 : Int32) <<< (n0 4 7 &&& 31) = lim) (hQ : lim.toInt = (Q : Int)) (hQ2 : Q ≤ 4096) (ho : ∀ s : Int32, 0 ≤ s.toInt → s.toInt < (Q : Int) → (s &&& (o ^^^ (-1)) = 0 ↔ s &&& was = 0)) : ∀ (n : Nat) (s : Int32) (nux : Nat → Nat → Int32), cX n0 nux → 0 ≤ s.toInt → s.toInt ≤ (Q : Int) → ((Q : Int) - s.toInt).toNat < n → cX n0 (L_sx_leastBlock_2_0 f o n s nux).2 ∧ (((L_sx_leastBlock_2_0 f o n s nux).1 = -9 ∧ ∀ t : Int32, s.toInt ≤ t.toInt → t.toInt < (Q : Int) → blR n0 was t → ¬ F_sx_bitCount t = f) ∨ (0 ≤ (L_sx_leastBlock_2_0 f o n s nux).1.toInt ∧ (L_sx_leastBlock_2_0 f o n s nux).1.toInt < (Q : Int) ∧ blR n0 was (L_sx_leastBlock_2_0 f o n s nux).1 ∧ F_sx_bitCount (L_sx_leastBlock_2_0 f o n s nux).1 = f)) := by
  intro n
  induction n with
  | zero => intro s nux _ _ _ hm; exact absurd hm (Nat.not_lt_zero _)
  | succ n ih =>
    intro s nux hx h0 hs hm
    rw [L_sx_leastBlock_2_0]
    simp only [letv_eq, letp_eq]
    rw [hx 4 (by decide), hlim]
    by_cases c : s ≥ lim
    · have := vv_ge.mp c
      rw [if_pos c]
      exact ⟨hx, Or.inl ⟨rfl, fun t t1 t2 _ => by omega⟩⟩
    · have c' : s.toInt < (Q : Int) := by
        have : ¬ lim.toInt ≤ s.toInt := fun e => c (vv_ge.mpr e)
        omega
      have i1 : (s + 1 : Int32).toInt = s.toInt + 1 := tI_add rfl rfl (by omega) (by omega)
      rw [if_neg c]
      have skip : ∀ nx : Nat → Nat → Int32, cX n0 nx → (blR n0 was s → ¬ F_sx_bitCount s = f) → cX n0 (L_sx_leastBlock_2_0 f o n (s + 1) nx).2 ∧ (((L_sx_leastBlock_2_0 f o n (s + 1) nx).1 = -9 ∧ ∀ t : Int32, s.toInt ≤ t.toInt → t.toInt < (Q : Int) → blR n0 was t → ¬ F_sx_bitCount t = f) ∨ (0 ≤ (L_sx_leastBlock_2_0 f o n (s + 1) nx).1.toInt ∧ (L_sx_leastBlock_2_0 f o n (s + 1) nx).1.toInt < (Q : Int) ∧ blR n0 was (L_sx_leastBlock_2_0 f o n (s + 1) nx).1 ∧ F_sx_bitCount (L_sx_leastBlock_2_0 f o n (s + 1) nx).1 = f)) := fun nx hnx hno => by
        obtain ⟨g1, g2⟩ := ih (s + 1) nx hnx (by omega) (by omega) (by omega)
        refine ⟨g1, ?_⟩
        rcases g2 with ⟨a, b⟩ | g2
        · refine Or.inl ⟨a, fun t t1 t2 t3 => ?_⟩
          by_cases ct : t = s
          · rw [ct]
            rw [ct] at t3
            exact hno t3
          · have : ¬ t.toInt = s.toInt := fun e => ct (Int32.toInt_inj.mp e)
            exact b t (by omega) t2 t3
        · exact Or.inr g2
      by_cases c1 : s &&& (o ^^^ (-1)) = 0
      · rw [if_pos c1]
        by_cases c2 : F_sx_bitCount s = f
        · rw [if_pos c2]
          obtain ⟨u1, u2⟩ := under_x (s := s) hT h hx
          rw [u1]
          by_cases c3 : (F_sx_comesUnder n0 s).1 = 0
          · rw [if_pos c3]
            exact ⟨u2, Or.inr ⟨h0, c', ⟨(ho s h0 c').mp c1, c3⟩, c2⟩⟩
          · rw [if_neg c3]
            exact skip _ u2 (fun b => absurd b.2 c3)
        · rw [if_neg c2]
          exact skip _ hx (fun _ => c2)
      · rw [if_neg c1]
        exact skip _ hx (fun b => absurd ((ho s h0 c').mpr b.1) c1)
theorem bx_loop {T : Int} {k o was lim : Int32} {n0 x2 : Nat → Nat → Int32} {Q p : Nat} (hT : T ≤ 1000000) (h : lkB T k n0 x2) (hlim : (1 : Int32) <<< (n0 4 7 &&& 31) = lim) (hQ : lim.toInt = (Q : Int)) (hp : p < 13) (hp2 : (n0 4 7).toInt = (p : Int)) (hQp : Q = 2 ^ p) (ho : ∀ s : Int32, 0 ≤ s.toInt → s.toInt < (Q : Int) → (s &&& (o ^^^ (-1)) = 0 ↔ s &&& was = 0)) {t0 : Int32} (ht : 0 ≤ t0.toInt ∧ t0.toInt < (Q : Int)) (htb : blR n0 was t0) : ∀ (n : Nat) (f : Int32) (nux : Nat → Nat → Int32), cX n0 nux → 0 ≤ f.toInt → f.toInt ≤ (p : Int) + 1 → ((p : Int) + 1 - f.toInt).toNat < n → (∀ t : Int32, 0 ≤ t.toInt → t.toInt < (Q : Int) → blR n0 was t → f.toInt ≤ (F_sx_bitCount t).toInt) → ∃ b : Int32, (0 ≤ b.toInt ∧ b.toInt < (Q : Int)) ∧ blR n0 was b ∧ (L_qx_block_64_0 o n f nux).1 = F_sx_bitCount b ∧ ∀ t : Int32, 0 ≤ t.toInt → t.toInt < (Q : Int) → blR n0 was t → (F_sx_bitCount b).toInt ≤ (F_sx_bitCount t).toInt := by
  intro n
  have h12 := bk_pow hp
  rw [← hQp] at h12
  induction n with
  | zero => intro f nux _ _ _ hm _; exact absurd hm (Nat.not_lt_zero _)
  | succ n ih =>
    intro f nux hx h0 hf hm hall
    rw [L_qx_block_64_0]
    simp only [letv_eq, letp_eq]
    rw [hx 4 (by decide)]
    by_cases c : f > n0 4 7
    · have c1 := vv_gt.mp c
      have k1 := hall t0 ht.1 ht.2 htb
      have k2 := bk_of hp hQp ht.1 ht.2
      rw [k2.1] at k1
      have := k2.2.2.1
      omega
    · have c' : ¬ (n0 4 7).toInt < f.toInt := fun e => c (vv_gt.mpr e)
      have i1 : (f + 1 : Int32).toInt = f.toInt + 1 := tI_add rfl rfl (by omega) (by omega)
      rw [if_neg c]
      unfold F_sx_leastBlock
      obtain ⟨g1, g2⟩ := lb_loop (f := f) (o := o) (was := was) hT h hlim hQ h12.2 ho 4099 0 nux hx (by decide) (by show (0 : Int) ≤ _; omega) (by show ((Q : Int) - 0).toNat < 4099; omega)
      generalize L_sx_leastBlock_2_0 f o 4099 0 nux = zz at g1 g2
      rcases g2 with ⟨a, b⟩ | ⟨a1, a2, a3, a4⟩
      · rw [if_pos a]
        refine ih (f + 1) zz.2 g1 (by omega) (by omega) (by omega) (fun t t1 t2 t3 => ?_)
        have k1 := hall t t1 t2 t3
        have k2 : ¬ (F_sx_bitCount t).toInt = f.toInt := fun e => b t (by show (0 : Int) ≤ _; exact t1) t2 t3 (Int32.toInt_inj.mp e)
        omega
      · rw [if_neg (i_ne9 a1)]
        refine ⟨zz.1, ⟨a1, a2⟩, a3, a4.symm, fun t t1 t2 t3 => ?_⟩
        rw [a4]
        exact hall t t1 t2 t3
theorem bm_loop {T : Int} {k was lim : Int32} {n0 x2 : Nat → Nat → Int32} {Q p : Nat} (hT : T ≤ 1000000) (h : lkB T k n0 x2) (hw : n0 5 2 = was) (hlim : (1 : Int32) <<< (x2 0 11 &&& 31) = lim) (hQ : lim.toInt = (Q : Int)) (hp : p < 13) (hQp : Q = 2 ^ p) {t0 : Int32} (ht : 1 ≤ t0.toInt ∧ t0.toInt < (Q : Int)) (htb : blR n0 was t0) : ∀ (n : Nat) (b s : Int32) (num : Nat → Nat → Int32), cM x2 num → 1 ≤ s.toInt → s.toInt ≤ (Q : Int) → ((Q : Int) - s.toInt).toNat < n → ((b = -9 ∧ ∀ t : Int32, 1 ≤ t.toInt → t.toInt < s.toInt → ¬ blR n0 was t) ∨ ((1 ≤ b.toInt ∧ b.toInt < s.toInt) ∧ blR n0 was b ∧ ∀ t : Int32, 1 ≤ t.toInt → t.toInt < s.toInt → blR n0 was t → (F_sm_sizeOf b).toInt ≤ (F_sm_sizeOf t).toInt)) → ∃ b' : Int32, (1 ≤ b'.toInt ∧ b'.toInt < (Q : Int)) ∧ blR n0 was b' ∧ (L_qm_block_38_0 k was n b s num).1 = F_sm_sizeOf b' ∧ ∀ t : Int32, 1 ≤ t.toInt → t.toInt < (Q : Int) → blR n0 was t → (F_sm_sizeOf b').toInt ≤ (F_sm_sizeOf t).toInt := by
  intro n
  have h12 := bk_pow hp
  rw [← hQp] at h12
  induction n with
  | zero => intro b s num _ _ _ hm _; exact absurd hm (Nat.not_lt_zero _)
  | succ n ih =>
    intro b s num hx h0 hs hm hb
    rw [L_qm_block_38_0]
    simp only [letv_eq, letp_eq]
    rw [hx.2 11 (by decide) (by omega), hlim]
    by_cases c : s ≥ lim
    · have c1 := vv_ge.mp c
      have es : s.toInt = (Q : Int) := by omega
      rw [if_pos c]
      rw [es] at hb
      rcases hb with ⟨_, b2⟩ | ⟨b1, b2, b3⟩
      · exact absurd htb (b2 t0 ht.1 ht.2)
      · refine ⟨b, b1, b2, ?_, b3⟩
        simp only [F_sm_ask, letv_eq]
    · have c' : s.toInt < (Q : Int) := by
        have : ¬ lim.toInt ≤ s.toInt := fun e => c (vv_ge.mpr e)
        omega
      have i1 : (s + 1 : Int32).toInt = s.toInt + 1 := tI_add rfl rfl (by omega) (by omega)
      rw [if_neg c]
      have skip : ∀ nm : Nat → Nat → Int32, cM x2 nm → (blR n0 was s → ¬ b = -9 ∧ (F_sm_sizeOf b).toInt ≤ (F_sm_sizeOf s).toInt) → ∃ b' : Int32, (1 ≤ b'.toInt ∧ b'.toInt < (Q : Int)) ∧ blR n0 was b' ∧ (L_qm_block_38_0 k was n b (s + 1) nm).1 = F_sm_sizeOf b' ∧ ∀ t : Int32, 1 ≤ t.toInt → t.toInt < (Q : Int) → blR n0 was t → (F_sm_sizeOf b').toInt ≤ (F_sm_sizeOf t).toInt := fun nm hnm hno => by
        refine ih b (s + 1) nm hnm (by omega) (by omega) (by omega) ?_
        rcases hb with ⟨b1, b2⟩ | ⟨b1, b2, b3⟩
        · refine Or.inl ⟨b1, fun t t1 t2 t3 => ?_⟩
          by_cases ct : t = s
          · rw [ct] at t3
            exact (hno t3).1 b1
          · have : ¬ t.toInt = s.toInt := fun e => ct (Int32.toInt_inj.mp e)
            exact b2 t t1 (by omega) t3
        · refine Or.inr ⟨⟨b1.1, by omega⟩, b2, fun t t1 t2 t3 => ?_⟩
          by_cases ct : t = s
          · rw [ct] at t3
            rw [ct]
            exact (hno t3).2
          · have : ¬ t.toInt = s.toInt := fun e => ct (Int32.toInt_inj.mp e)
            exact b3 t t1 (by omega) t3
      have take : ∀ nm : Nat → Nat → Int32, cM x2 nm → blR n0 was s → (b = -9 ∨ (F_sm_sizeOf s).toInt < (F_sm_sizeOf b).toInt) → ∃ b' : Int32, (1 ≤ b'.toInt ∧ b'.toInt < (Q : Int)) ∧ blR n0 was b' ∧ (L_qm_block_38_0 k was n s (s + 1) nm).1 = F_sm_sizeOf b' ∧ ∀ t : Int32, 1 ≤ t.toInt → t.toInt < (Q : Int) → blR n0 was t → (F_sm_sizeOf b').toInt ≤ (F_sm_sizeOf t).toInt := fun nm hnm hbl hlt => by
        refine ih s (s + 1) nm hnm (by omega) (by omega) (by omega) (Or.inr ⟨⟨h0, by omega⟩, hbl, fun t t1 t2 t3 => ?_⟩)
        by_cases ct : t = s
        · rw [ct]; omega
        · have ne : ¬ t.toInt = s.toInt := fun e => ct (Int32.toInt_inj.mp e)
          rcases hb with ⟨b1, b2⟩ | ⟨b1, b2, b3⟩
          · exact absurd t3 (b2 t t1 (by omega))
          · have k1 := b3 t t1 (by omega) t3
            rcases hlt with e | e
            · exact absurd e (i_ne9 (by omega))
            · omega
      by_cases c1 : s &&& was = 0
      · rw [if_pos c1]
        obtain ⟨u1, u2⟩ := under_m (s := s) (num := num) hT h hx rfl rfl
        rw [hw] at u1 u2
        generalize F_sm_routesOf (va_up num 0 (upd (num 0) 13 (was ||| s))) k = zz at u1 u2
        have fin : (b = -9 ∨ (F_sm_sizeOf s).toInt < (F_sm_sizeOf b).toInt) → ∃ b' : Int32, (1 ≤ b'.toInt ∧ b'.toInt < (Q : Int)) ∧ blR n0 was b' ∧ (if zz 0 33 = (0 : Int32) then L_qm_block_38_0 k was n s (s + 1) zz else L_qm_block_38_0 k was n b (s + 1) zz).1 = F_sm_sizeOf b' ∧ ∀ t : Int32, 1 ≤ t.toInt → t.toInt < (Q : Int) → blR n0 was t → (F_sm_sizeOf b').toInt ≤ (F_sm_sizeOf t).toInt := fun hlt => by
          rcases u1 with ⟨a, e⟩ | ⟨a, e⟩
          · rw [if_pos e]
            exact take zz u2 ⟨c1, a⟩ hlt
          · rw [if_neg e]
            exact skip zz u2 (fun q => by have := q.2; rw [a] at this; exact absurd this (by decide))
        by_cases c9 : b = -9
        · rw [if_pos c9]
          exact fin (Or.inl c9)
        · rw [if_neg c9]
          by_cases c4 : F_sm_sizeOf s ≥ F_sm_sizeOf b
          · rw [if_pos c4]
            exact skip num hx (fun _ => ⟨c9, vv_ge.mp c4⟩)
          · rw [if_neg c4]
            exact fin (Or.inr (by have : ¬ (F_sm_sizeOf b).toInt ≤ (F_sm_sizeOf s).toInt := fun e => c4 (vv_ge.mpr e); omega))
      · rw [if_neg c1]
        exact skip num hx (fun q => absurd q.1 c1)
theorem near_none {nux : Nat → Nat → Int32} {s x : Int32} (hP : 0 ≤ (nux 4 7).toInt ∧ (nux 4 7).toInt ≤ 12) (hs : ∀ j : Nat, (j : Int) < (nux 4 7).toInt → bt s j = true) : ∀ (n : Nat) (v i : Int32), 0 ≤ i.toInt → i.toInt ≤ (nux 4 7).toInt → ((nux 4 7).toInt - i.toInt).toNat < n → L_sx_near_5_0 nux s x n v i = v := by
  intro n
  induction n with
  | zero => intro v i _ _ hm; exact absurd hm (Nat.not_lt_zero _)
  | succ n ih =>
    intro v i h0 hi hm
    have hci := tC_of h0
    rw [L_sx_near_5_0]
    simp only [letv_eq]
    by_cases c : i ≥ nux 4 7
    · rw [if_pos c]
    · have c' : i.toInt < (nux 4 7).toInt := by
        have : ¬ (nux 4 7).toInt ≤ i.toInt := fun e => c (vv_ge.mpr e)
        omega
      have i1 : (i + 1 : Int32).toInt = i.toInt + 1 := tI_add rfl rfl (by omega) (by omega)
      rw [if_neg c, if_neg (hb_t h0 (by omega) (hs i.toNatClampNeg (by omega))).1]
      exact ih v (i + 1) (by omega) (by omega) (by omega)
theorem cf_none {nux : Nat → Nat → Int32} {pr u x : Int32} (hx : nux 52 x.toNatClampNeg = 0) (hb : (nux 4 6).toInt ≤ 7) : ∀ (n : Nat) (i : Int32), 0 ≤ i.toInt → L_sx_comesFrom0_21_0 nux pr u x n i = 0 := by
  intro n
  induction n with
  | zero => intro i _; rfl
  | succ n ih =>
    intro i h0
    rw [L_sx_comesFrom0_21_0]
    simp only [letv_eq]
    by_cases c : i ≥ nux 4 6
    · rw [if_pos c]
    · have c' : i.toInt < (nux 4 6).toInt := by
        have : ¬ (nux 4 6).toInt ≤ i.toInt := fun e => c (vv_ge.mpr e)
        omega
      have i1 : (i + 1 : Int32).toInt = i.toInt + 1 := tI_add rfl rfl (by omega) (by omega)
      have hci := tC_of h0
      have hq := (buys_eq (nux := nux) (x := x) (u := u) (p := pr) (y := i) ⟨h0, by omega⟩).2
      have e0 : F_sx_buys nux x i u pr = 0 := by
        by_cases e : F_sx_buys nux x i u pr = 0
        · exact e
        · have k := (hq.mp e).1
          rw [hx, b_zero _ (by omega)] at k
          cases k
      rw [if_neg c, if_pos e0]
      exact ih (i + 1) (by omega)
theorem open_none {T : Int} {k s : Int32} {n0 x2 : Nat → Nat → Int32} (h : lkB T k n0 x2) (hs : ∀ j : Nat, (j : Int) < (n0 4 7).toInt → bt (n0 5 2 ||| s) j = true) : (F_sx_comesUnder n0 s).1 = 0 := by
  obtain ⟨n25, e⟩ : ∃ z, va_up x2 0 (upd (x2 0) 13 (n0 5 2 ||| s)) = z := ⟨_, rfl⟩
  obtain ⟨u1, u2⟩ := cM_up (x2 := x2) ⟨fun _ _ _ _ _ => rfl, fun _ _ _ => rfl⟩ e
  obtain ⟨q1, q2, q2', q3, ⟨q6, q5, q7⟩, qc, qf, qp, qn, ql⟩ := lkB_gen h (xi1 := n0) (xi2 := n25) (fun _ _ => rfl) u1.1 u1.2
  have hcB := tC_of q2.1
  have hcf := tC_of qf.1
  have e47 : (n0 4 7).toInt = (n25 0 11).toInt := congrArg Int32.toInt q1.2.1
  obtain ⟨a1, a2, a3⟩ := link_loop q2 q2' u2.symm 10 0 n0 q1 (by decide) (by decide) (by decide)
  simp only [F_sx_comesUnder, F_sx_linkUnder, letv_eq]
  generalize L_sx_linkUnder_2_0 (n0 5 2 ||| s) 10 0 n0 = xi at a1 a2 a3
  have c32 : xi 32 = n0 32 := a1 32 (by decide)
  rw [c32, q5]
  have e52 : xi 52 (F_sm_letterOf5 n25 k).toNatClampNeg = 0 := by
    rw [a3 _ (by show (0 : Int) ≤ _; omega) (by omega), ← nI_at qf.1, ← near_eq q1 q2' u2.symm]
    exact near_none (by rw [e47]; exact q2') hs 15 0 0 (by decide) (by show (0 : Int) ≤ _; omega) (by show ((n0 4 7).toInt - 0).toNat < 15; omega)
  simp only [F_sx_comesFrom0, letv_eq]
  exact cf_none e52 (by rw [a1 4 (by decide), q1.1]; exact q2.2) 10 0 (by decide)
theorem block_rel {T : Int} {k r1 r2 : Int32} {mux mum xi1 xi2 : Nat → Nat → Int32} (hT : 0 ≤ T ∧ T ≤ 1000000) (okm : okR loM hiM mum) (hC : core mux mum) (hm : mon T mum) (h1 : (r1, xi1) = F_qx_block mux k) (h2 : (r2, xi2) = F_qm_block mum k) : r1 = r2 := by
  unfold F_qx_block at h1
  unfold F_qm_block at h2
  rcases asked2 (k := k) hT okm hC hm with ⟨r, x1, x2, hr, a1, a2⟩ | ⟨x2, a1, a2, t1, t2, t3, t4, hk0, hk1, lk, fr, rc, rs⟩
  · rw [a1] at h1
    rw [a2] at h2
    simp only [letp_eq] at h1 h2
    rw [if_neg hr] at h1 h2
    exact (congrArg Prod.fst h1).trans (congrArg Prod.fst h2).symm
  · rw [a1] at h1
    rw [a2] at h2
    simp only [letp_eq, letv_eq] at h1 h2
    rw [if_pos trivial] at h1 h2
    have ew : F_sx_walkOf mux (61 + k.toNatClampNeg) = F_sx_walkAll (F_sx_lookAt mux (61 + k.toNatClampNeg)) := by simp only [F_sx_walkOf, letv_eq]
    rw [ew] at rs
    generalize F_sx_lookAt mux (61 + k.toNatClampNeg) = n0 at h1 lk fr rs
    clear rc ew
    have hB : lkB T k n0 x2 := by
      obtain ⟨q1, q2, q3, q4, qc, qf, qp, qn, _⟩ := lk
      refine ⟨?_, q2, t2.2.1, fun x hx => (q3 x hx).2.2, q4, qc, qf, qp, qn⟩
      unfold simK
      rw [fr 4 (by decide) (by decide) (by decide), fr 34 (by decide) (by decide) (by decide), fr 35 (by decide) (by decide) (by decide), fr 36 (by decide) (by decide) (by decide)]
      exact t1.1
    have ws : n0 5 2 = x2 0 13 := by rw [fr 5 (by decide) (by decide) (by decide)]; exact t1.2.2.1.1
    have e47 : n0 4 7 = x2 0 11 := hB.1.2.1
    have hP := t2.2.1
    have hcP := tC_of hP.1
    obtain ⟨p, ep⟩ : ∃ p, p = (x2 0 11).toNatClampNeg := ⟨_, rfl⟩
    rw [← ep] at hcP
    have hp : p < 13 := by omega
    have eP : x2 0 11 = nI p := by rw [ep]; exact nI_at hP.1
    obtain ⟨Q, eQ⟩ : ∃ Q, Q = 2 ^ p := ⟨_, rfl⟩
    have h12 := bk_pow hp
    rw [← eQ] at h12
    obtain ⟨lim, el⟩ : ∃ z, (1 : Int32) <<< (x2 0 11 &&& 31) = z := ⟨_, rfl⟩
    have hQ : lim.toInt = (Q : Int) := by rw [← el, eP, bk_shl p hp, eQ]
    rw [e47, ws] at h1
    obtain ⟨o, eo⟩ : ∃ z, ((1 : Int32) <<< (x2 0 11 &&& 31)) - 1 &&& (x2 0 13 ^^^ (-1)) = z := ⟨_, rfl⟩
    rw [eo] at h1
    have eo2 : o = (((1 : Int32) <<< (nI p &&& 31)) - 1) &&& (x2 0 13 ^^^ (-1)) := by rw [← eo, eP]
    have ho : ∀ s : Int32, 0 ≤ s.toInt → s.toInt < (Q : Int) → (s &&& (o ^^^ (-1)) = 0 ↔ s &&& x2 0 13 = 0) := fun s s0 s1 => bk_open hp eo2 (bk_lt eQ s0 s1)
    have key0 : ((F_sx_comesUnder n0 0).1 = 0 ∧ x2 0 33 = 0) ∨ ((F_sx_comesUnder n0 0).1 = 1 ∧ ¬ x2 0 33 = 0) := by
      have es : va_up x2 0 (upd (x2 0) 13 (n0 5 2 ||| 0)) = x2 := by
        rw [ws, Int32.or_zero]
        funext c f
        by_cases cc : c = 0
        · subst cc
          rw [up_eq]
          by_cases cf : f = 13
          · subst cf
            exact ud_eq
          · exact ud_ne cf
        · rw [up_ne cc]
      obtain ⟨v1, _⟩ := under_m (s := 0) (num := x2) hT.2 hB ⟨fun _ _ _ _ _ => rfl, fun _ _ _ => rfl⟩ es rfl
      obtain ⟨_, _, _, s4⟩ := lkd_rel hT.2 lk rfl rfl
      have e33 : F_sm_routesOf x2 k 0 33 = x2 0 33 := s4.2.1.symm.trans rs.2.1
      rw [e33] at v1
      exact v1
    have z0 : (0 : Int32).toInt = 0 := rfl
    have z1 : (1 : Int32).toInt = 1 := rfl
    have cx0 : cX n0 n0 := fun _ _ => rfl
    have pos : ∀ t : Int32, 0 ≤ t.toInt → t.toInt < (Q : Int) → blR n0 (x2 0 13) t → (0 : Int32).toInt ≤ (F_sx_bitCount t).toInt := fun t q0 q1 _ => by
      have k2 := bk_of hp eQ q0 q1
      rw [k2.1, z0]
      exact k2.2.1
    have r1e : r1 = (L_qx_block_64_0 o 16 0 n0).1 := congrArg Prod.fst h1
    rcases key0 with ⟨u1, u2⟩ | ⟨u1, u2⟩
    · rw [if_pos u2] at h2
      have b0 : blR n0 (x2 0 13) 0 := ⟨by apply b_ext; intro i hi; rw [b_and, b_zero i hi, Bool.false_and], u1⟩
      obtain ⟨b, hb, _, e, hmin⟩ := bx_loop hT.2 hB (by rw [e47]; exact el) hQ hp (by rw [e47]; exact hcP.symm) eQ ho (t0 := 0) (by rw [z0]; omega) b0 16 0 n0 cx0 (by decide) (by rw [z0]; omega) (by rw [z0]; omega) pos
      have k1 := hmin 0 (by decide) (by rw [z0]; omega) b0
      have c0 : (F_sx_bitCount 0).toInt = 0 := by decide +kernel
      have k2 := bk_of hp eQ hb.1 hb.2
      rw [k2.1] at e k1
      rw [r1e, e]
      have r2e : r2 = 0 := by
        have := congrArg Prod.fst h2
        simp only [F_sm_ask, letv_eq] at this
        exact this
      rw [r2e]
      exact Int32.toInt_inj.mp (by rw [z0]; have := k2.2.1; omega)
    · rw [if_neg u2] at h2
      have ob : ∀ j : Nat, j < 32 → bt o j = (decide (j < p) && (bt (x2 0 13) j ^^ true)) := fun j hj => by rw [eo2, b_and, b_xor, b_m1 j hj, bk_low p hp j hj]
      have ol : ∀ j : Nat, j < 32 → bt o j = true → j < p := fun j hj q => by
        rw [ob j hj, Bool.and_eq_true] at q
        exact of_decide_eq_true q.1
      have og := bk_gt hp eQ ol
      have ow : blR n0 (x2 0 13) o := by
        refine ⟨(ho o og.1 og.2).mp (bk_more.mpr (fun _ _ q => q)), open_none hB (fun j hj => ?_)⟩
        have j32 : j < p := by rw [e47] at hj; omega
        rw [b_or, ws, ob j (by omega), decide_eq_true j32]
        cases bt (x2 0 13) j <;> rfl
      have n0' : ∀ t : Int32, blR n0 (x2 0 13) t → ¬ t.toInt = 0 := fun t q e => by
        have : t = 0 := Int32.toInt_inj.mp (e.trans z0.symm)
        rw [this] at q
        have := q.2
        rw [u1] at this
        exact absurd this (by decide)
      have o1 : 1 ≤ o.toInt := by have := n0' o ow; omega
      obtain ⟨b, hb, hbb, e, hmin⟩ := bx_loop hT.2 hB (by rw [e47]; exact el) hQ hp (by rw [e47]; exact hcP.symm) eQ ho (t0 := o) og ow 16 0 n0 cx0 (by decide) (by rw [z0]; omega) (by rw [z0]; omega) pos
      obtain ⟨b', hb', hbb', e', hmin'⟩ := bm_loop hT.2 hB ws el hQ hp eQ (t0 := o) ⟨o1, og.2⟩ ow 4099 (-9) 1 x2 ⟨fun _ _ _ _ _ => rfl, fun _ _ _ => rfl⟩ (by decide) (by rw [z1]; omega) (by rw [z1]; omega) (Or.inl ⟨rfl, fun t q1 q2 => by rw [z1] at q2; omega⟩)
      have r2e : r2 = (L_qm_block_38_0 k (x2 0 13) 4099 (-9) 1 x2).1 := congrArg Prod.fst h2
      rw [r1e, r2e, e, e']
      have k2 := bk_of hp eQ hb.1 hb.2
      have k3 := bk_of hp eQ (by omega : 0 ≤ b'.toInt) hb'.2
      have m1 := hmin b' (by omega) hb'.2 hbb'
      have m2 := hmin' b (by have := n0' b hbb; omega) hb.2 hbb
      rw [k2.1, k3.1] at m1
      rw [k2.1]
      exact Int32.toInt_inj.mp (by omega)

theorem wL_in {y2 : MethodName} {c2 : ByteArray} {n2 : Nat} {r2 : Option FieldType} (h : Cond.code y2 c2 n2 r2 ∈ lw_good) : GoodIn lw_tbl (wU y2 c2 n2 r2) := fun w hw => by
  have hg : ∀ w, w ∈ lw_good → w ∈ lw_tbl ∧ ((w.onTables && w.keeps) = true ∨ ∃ ty, w = .arrayClass ty) := fun w h => ⟨(List.mem_filter.mp h).1, good_of_word (List.mem_filter.mp h).2⟩
  rcases List.mem_cons.mp hw with e | hw
  · rw [e]; exact hg _ h
  · exact hg w hw
theorem wL_V {y2 : MethodName} {c2 : ByteArray} {n2 i : Nat} {r2 : Option FieldType} {own C : String} (h : Cond.code y2 c2 n2 r2 ∈ lw_good) (h1 : Cond.methodLink own i y2 ∈ lw_good) (h2 : Cond.instanceMethod y2 ∈ lw_good) (h3 : Cond.selects C y2 y2 ∈ lw_good) (h4 : Cond.initialized C ∈ lw_good) : GoodIn lw_tbl (wsV own i C y2 (wU y2 c2 n2 r2)) := fun w hw => by
  have hg : ∀ w, w ∈ lw_good → w ∈ lw_tbl ∧ ((w.onTables && w.keeps) = true ∨ ∃ ty, w = .arrayClass ty) := fun w h => ⟨(List.mem_filter.mp h).1, good_of_word (List.mem_filter.mp h).2⟩
  rcases List.mem_append.mp hw with hw | hw
  · simp only [List.mem_cons, List.not_mem_nil, or_false] at hw
    rcases hw with e | e | e | e <;> rw [e]
    · exact hg _ h1
    · exact hg _ h2
    · exact hg _ h3
    · exact hg _ h4
  · exact wL_in h w hw
theorem kp_rest {A0 : Nat → Prop} {D : va_G} {cl : List vw_C} {w1 w2 : va_W} {H H1 : Heap} (hD : va_D A0 (w1 ++ w2)) (hP : va_P D cl w2 H) (hk : ∀ q : Nat, q < H.size → ¬ va_A w1 H.size q → H1[q]? = H[q]?) : va_P D cl w2 H1 := by
  refine hP.kept (fun k x hx => hk x.1 (hP k x hx).lt (fun h => ?_))
  rcases h with ⟨i, e, hi⟩ | h
  · have hlt : i < w1.length := (List.getElem?_eq_some_iff.mp hi).1
    have h1 : (w1 ++ w2)[i]? = some (x.1, e) := by rw [List.getElem?_append_left hlt]; exact hi
    have h2 : (w1 ++ w2)[w1.length + k]? = some x := by rw [List.getElem?_append_right (Nat.le_add_right _ _), Nat.add_sub_cancel_left]; exact hx
    have := hD.1 _ _ _ _ h1 h2 rfl
    omega
  · exact absurd (hP k x hx).lt (Nat.not_lt.mpr h)
theorem dl_left {A0 : Nat → Prop} {w1 w2 : va_W} (hD : va_D A0 (w1 ++ w2)) : va_D A0 w1 := by
  have ap : ∀ {i : Nat} {q : Nat × va_E}, w1[i]? = some q → (w1 ++ w2)[i]? = some q := fun {i q} h => by
    rw [List.getElem?_append_left (List.getElem?_eq_some_iff.mp h).1]; exact h
  exact ⟨fun i j p q h1 h2 e => hD.1 i j p q (ap h1) (ap h2) e, fun k q h => hD.2 k q (ap h)⟩
theorem dl_right {A0 : Nat → Prop} {w1 w2 : va_W} (hD : va_D A0 (w1 ++ w2)) : va_D A0 w2 := by
  have ap : ∀ {i : Nat} {q : Nat × va_E}, w2[i]? = some q → (w1 ++ w2)[w1.length + i]? = some q := fun {i q} h => by
    rw [List.getElem?_append_right (Nat.le_add_right _ _), Nat.add_sub_cancel_left]; exact h
  exact ⟨fun i j p q h1 h2 e => by have := hD.1 _ _ p q (ap h1) (ap h2) e; omega, fun k q h => hD.2 _ q (ap h)⟩
theorem lg_same {x y : Int64} (h : x = y) : lg_cmp x y = 0 := by
  subst h
  simp [lg_cmp]
theorem wR_fst {N : Nat} {ad : Nat → Nat} {E : Nat → (Nat → Int32) → va_E} {mu : Nat → Nat → Int32} : (wR N ad E mu).map Prod.fst = (List.range N).map ad := by
  unfold wR
  rw [List.map_map]
  rfl
theorem wR_DD {A : Nat → Prop} {N1 N2 : Nat} {ad1 ad2 : Nat → Nat} {E1 E2 : Nat → (Nat → Int32) → va_E} {mu1 mu2 : Nat → Nat → Int32} (nu1 nu2 : Nat → Nat → Int32) (h : va_D A (wR N1 ad1 E1 mu1 ++ wR N2 ad2 E2 mu2)) : va_D A (wR N1 ad1 E1 nu1 ++ wR N2 ad2 E2 nu2) := by
  obtain ⟨h1, h2⟩ := vaD_iff.mp h
  have key : ∀ (m1 m2 : Nat → Nat → Int32), (wR N1 ad1 E1 m1 ++ wR N2 ad2 E2 m2).map Prod.fst = (List.range N1).map ad1 ++ (List.range N2).map ad2 := fun m1 m2 => by rw [List.map_append, wR_fst, wR_fst]
  refine vaD_iff.mpr ⟨?_, fun q hq => ?_⟩
  · rw [key]
    rw [key] at h1
    exact h1
  · have h3 : q.1 ∈ (wR N1 ad1 E1 nu1 ++ wR N2 ad2 E2 nu2).map Prod.fst := List.mem_map.mpr ⟨q, hq, rfl⟩
    rw [key nu1 nu2, ← key mu1 mu2] at h3
    obtain ⟨x, hx, e⟩ := List.mem_map.mp h3
    rw [← e]
    exact h2 x hx
theorem ok0X : okR loX hiX mu0X := by
  have h0 : ∀ c f : Nat, loXc c f ≤ 0 ∧ 0 ≤ hiXc c f := by
    intro c f
    unfold loXc hiXc
    constructor <;> (repeat' split) <;> omega
  intro k f
  by_cases c1 : k < 8
  · have e : mu0X k = fun _ => 0 := by unfold mu0X; rw [if_pos c1]
    rw [e]
    exact h0 _ _
  · by_cases c2 : k < 18
    · have e : mu0X k = fun f => if f = 1 then -1 else 0 := by unfold mu0X; rw [if_neg c1, if_pos c2]
      rw [e]
      by_cases cf : f = 1
      · subst cf
        have key : ∀ k, k < 18 → ¬ k < 8 → loX k 1 ≤ -1 ∧ -1 ≤ hiX k 1 := by decide +kernel
        exact key k c2 c1
      · show loX k f ≤ ((if f = 1 then (-1 : Int32) else 0)).toInt ∧ ((if f = 1 then (-1 : Int32) else 0)).toInt ≤ hiX k f
        rw [if_neg cf]
        exact h0 _ _
    · have e : mu0X k = fun _ => 0 := by unfold mu0X; rw [if_neg c1, if_neg c2]
      rw [e]
      exact h0 _ _
theorem ok0M : okR loM hiM mu0M := by
  have h0 : ∀ c f : Nat, loMc c f ≤ 0 ∧ 0 ≤ hiMc c f := by
    intro c f
    unfold loMc hiMc
    constructor <;> (repeat' split) <;> omega
  intro k f
  unfold mu0M
  split
  · have key : ∀ f, loM 2 f ≤ -9 ∧ -9 ≤ hiM 2 f := fun f => by
      show (-9 : Int) ≤ -9 ∧ (-9 : Int) ≤ 40
      decide
    exact key f
  · have key : ∀ f, loM 5 f ≤ -9 ∧ -9 ≤ hiM 5 f := fun f => by
      show (-9 : Int) ≤ -9 ∧ (-9 : Int) ≤ 80
      decide
    exact key f
  · by_cases c : f = 0 ∨ f = 64 ∨ f = 128
    · show loM 15 f ≤ (if f = 0 ∨ f = 64 ∨ f = 128 then (-9 : Int32) else 0).toInt ∧ (if f = 0 ∨ f = 64 ∨ f = 128 then (-9 : Int32) else 0).toInt ≤ hiM 15 f
      rw [if_pos c]
      rcases c with rfl | rfl | rfl <;> decide
    · show loM 15 f ≤ (if f = 0 ∨ f = 64 ∨ f = 128 then (-9 : Int32) else 0).toInt ∧ (if f = 0 ∨ f = 64 ∨ f = 128 then (-9 : Int32) else 0).toInt ≤ hiM 15 f
      rw [if_neg c]
      exact h0 _ _
  · exact h0 _ _

/-! THE CLAIM OUT OF ONE WALK OF THE LAW'S BODY. Your part is whole_start (and what it stands on); all else here is the same for every law, but numbers. -/
def R_law : String := "DearLettersLaw"
def lw_P (b : Addr) (xs : List Int32) (args : Array Value) (s : State) : Prop := args = #[.ref b] ∧ s.IntsAt b xs ∧ xs.length ≤ 384 ∧ (Jvm.Cond.and given_1 narrow_1).before args s = true
def lw_Q (_ : Array Value) (s : State) (o : Outcome) (t : State) : Prop := o = .returned (some (.int 1)) ∧ Framed s o t [] 600000 7302250
def lw_Z (below : List Frame) (a : Array Value) (s : State) : State → Prop := fun t => ∃ o, t.status = .running ∧ Ended t below o ∧ lw_Q a s o t
/-- the law's own end, with 1 on the stack, nothing written that was there before, its room as the claim has it -/
theorem lw_ret {p : Program} {l : Launch} {e : Env} {s : State} {m : MethodId} {below : List Frame} {meth : Method} {c : Code} {b : Nat} (hx : p.tables.exec = Jvm.exec) (hb : c.code = code) (hr : meth.sig.returnType = ret) (hlocks : meth.locks = false) {pc : Nat} {H : Heap} {ls : Array Slot} (hdg : decode code pc = .ok (.ireturn, 1)) : W p l e room_1 s m #[Value.ref b] below meth c H [] 600000 7302250 (lw_Z below #[Value.ref b] s) (F0 m pc ls [.int 1]) := by
  intro T hT X
  obtain ⟨fs, hret, hrun, hended, hW, hframe⟩ := X.leave (v := some (.int 1)) (hlocks := hlocks) (fun h => by rw [hr] at h; cases h)
  have hmeth' : T.vm.method? m = some meth := X.method'
  refine ⟨T.setFrames fs, ?_, .returned (some (.int 1)), hrun, hended, rfl, ⟨_, rfl⟩, hW, hframe⟩
  jvm_step X.here [X.here.top, hx, hb, hdg, hmeth', hr, ret, narrow_b1]
  (try refine ⟨rfl, ?_⟩); (try refine ⟨rfl, ?_⟩)
  first | (intro acts; rw [hret _ acts rfl rfl rfl]) | rw [hret _ _ rfl rfl rfl]
  exact Steps.refl _
/-- what holds at the law's entry: the machine, the code, the tables' words (any of lw_tbl by 'hts w (by decide +kernel)'), the script of L ints xs at the cell b, what the Statement gives of the start (any of its parts by flat_of_before) -/
def lw_At (p : Program) (s : State) (m : MethodId) (meth : Method) (c : Code) (b L : Nat) (xs : Nat → Int32) : Prop :=
  p.tables.exec = Jvm.exec ∧ c.code = code ∧ meth.sig.returnType = ret ∧ c.maxLocals = 4 ∧ s.vm.findClass R_law = some m.cls ∧ (∀ w ∈ lw_tbl, w.before #[Value.ref b] s = true) ∧ va_X b L xs s s.heap ∧ b < s.heap.size ∧ meth.locks = false ∧ (Jvm.Cond.and given_1 narrow_1).before #[Value.ref b] s = true
/-- what stays over the whole law -/
def lw_F (p : Program) (s : State) (m : MethodId) (meth : Method) (c : Code) (b L : Nat) (xs : Nat → Int32) (dC : Nat → ClassId) (dI : Nat → Nat → Nat) (cs : Nat → ClassId) (tt : Nat) : Prop :=
  lw_At p s m meth c b L xs ∧ va_K (dC, dI) vwCl (tyW cs) s ∧ va_K (dC, dI) vwCl (tyM cs) s ∧ kz s ∧ ks (fun q : Nat => s.heap.size ≤ q) tt s.heap s
/-- both worlds, and where the law stands -/
def lw_J (s : State) (b : Nat) (dC : Nat → ClassId) (dI : Nat → Nat → Nat) (cs : Nat → ClassId) (adx adm : Nat → Nat) (i : Int32) (cc : Int) (mux mum : Nat → Nat → Int32) (H : Heap) (locs : List Loc) (ls : Array Slot) : Prop :=
  okR loX hiX mux ∧ okR loM hiM mum ∧ (simT mux mum ∧ core mux mum ∧ mon cc mum) ∧ va_P (dC, dI) vwCl (wR 157 adx (EX cs adx) mux) H ∧ va_P (dC, dI) vwCl (wR 21 adm (EM cs adm) mum) H ∧ va_D (fun q : Nat => s.heap.size ≤ q) ((wR 157 adx (EX cs adx) mux) ++ (wR 21 adm (EM cs adm) mum)) ∧ va_S (fun q : Nat => s.heap.size ≤ q) s.heap H locs ∧ lv_has ls 4 [(3, .int i), (2, .ref (adm 0)), (1, .ref (adx 0)), (0, .ref b)]

theorem lb_0 : dl_ck (cL_law.data.toList.drop 0) [187, 0, 7, 89, 183, 0, 9, 76, 187, 0, 10, 89, 183, 0, 12, 77, 3, 62, 29, 42, 190, 16, 6, 100, 163, 6, 87, 42, 29, 46, 16, 63] = true := by decide +kernel
theorem lb_1 : dl_ck (cL_law.data.toList.drop 32) [126, 170, 0, 0, 0, 0, 6, 72, 0, 0, 0, 0, 0, 0, 0, 48, 0, 0, 0, 211, 0, 0, 0, 244, 0, 0, 1, 31, 0, 0, 1, 64] = true := by decide +kernel
theorem lb_2 : dl_ck (cL_law.data.toList.drop 64) [0, 0, 1, 87, 0, 0, 1, 150, 0, 0, 1, 173, 0, 0, 1, 206, 0, 0, 1, 249, 0, 0, 2, 16, 0, 0, 2, 39, 0, 0, 2, 72] = true := by decide +kernel
theorem lb_3 : dl_ck (cL_law.data.toList.drop 96) [0, 0, 2, 105, 0, 0, 2, 138, 0, 0, 2, 171, 0, 0, 2, 204, 0, 0, 2, 227, 0, 0, 3, 24, 0, 0, 3, 57, 0, 0, 3, 80] = true := by decide +kernel
theorem lb_4 : dl_ck (cL_law.data.toList.drop 128) [0, 0, 3, 103, 0, 0, 3, 136, 0, 0, 3, 159, 0, 0, 3, 182, 0, 0, 3, 205, 0, 0, 3, 228, 0, 0, 4, 5, 0, 0, 4, 38] = true := by decide +kernel
theorem lb_5 : dl_ck (cL_law.data.toList.drop 160) [0, 0, 4, 61, 0, 0, 4, 84, 0, 0, 4, 107, 0, 0, 4, 130, 0, 0, 4, 153, 0, 0, 4, 176, 0, 0, 4, 219, 0, 0, 4, 242] = true := by decide +kernel
theorem lb_6 : dl_ck (cL_law.data.toList.drop 192) [0, 0, 5, 9, 0, 0, 5, 52, 0, 0, 5, 75, 0, 0, 5, 108, 0, 0, 5, 141, 0, 0, 5, 184, 0, 0, 5, 217, 0, 0, 5, 230] = true := by decide +kernel
theorem lb_7 : dl_ck (cL_law.data.toList.drop 224) [0, 0, 5, 243, 0, 0, 6, 0, 0, 0, 6, 23, 0, 0, 6, 36, 0, 0, 6, 59, 43, 42, 29, 4, 96, 46, 42, 29, 5, 96, 46, 182] = true := by decide +kernel
theorem lb_8 : dl_ck (cL_law.data.toList.drop 256) [0, 13, 87, 44, 42, 29, 4, 96, 46, 42, 29, 5, 96, 46, 182, 0, 17, 87, 167, 5, 87, 43, 42, 29, 4, 96, 46, 42, 29, 5, 96, 46] = true := by decide +kernel
theorem lb_9 : dl_ck (cL_law.data.toList.drop 288) [42, 29, 6, 96, 46, 182, 0, 18, 87, 44, 42, 29, 4, 96, 46, 42, 29, 5, 96, 46, 42, 29, 6, 96, 46, 182, 0, 22, 87, 167, 5, 44] = true := by decide +kernel
theorem lb_10 : dl_ck (cL_law.data.toList.drop 320) [43, 42, 29, 4, 96, 46, 42, 29, 5, 96, 46, 182, 0, 23, 87, 44, 42, 29, 4, 96, 46, 42, 29, 5, 96, 46, 182, 0, 26, 87, 167, 5] = true := by decide +kernel
theorem lb_11 : dl_ck (cL_law.data.toList.drop 352) [11, 43, 42, 29, 4, 96, 46, 182, 0, 27, 87, 44, 42, 29, 4, 96, 46, 182, 0, 31, 87, 167, 4, 244, 43, 42, 29, 4, 96, 46, 42, 29] = true := by decide +kernel
theorem lb_12 : dl_ck (cL_law.data.toList.drop 384) [5, 96, 46, 42, 29, 6, 96, 46, 42, 29, 7, 96, 46, 42, 29, 8, 96, 46, 182, 0, 32, 87, 44, 42, 29, 4, 96, 46, 42, 29, 5, 96] = true := by decide +kernel
theorem lb_13 : dl_ck (cL_law.data.toList.drop 416) [46, 42, 29, 6, 96, 46, 42, 29, 7, 96, 46, 42, 29, 8, 96, 46, 182, 0, 36, 87, 167, 4, 181, 43, 42, 29, 4, 96, 46, 182, 0, 37] = true := by decide +kernel
theorem lb_14 : dl_ck (cL_law.data.toList.drop 448) [87, 44, 42, 29, 4, 96, 46, 182, 0, 40, 87, 167, 4, 158, 43, 42, 29, 4, 96, 46, 42, 29, 5, 96, 46, 182, 0, 41, 87, 44, 42, 29] = true := by decide +kernel
theorem lb_15 : dl_ck (cL_law.data.toList.drop 480) [4, 96, 46, 42, 29, 5, 96, 46, 182, 0, 44, 87, 167, 4, 125, 43, 42, 29, 4, 96, 46, 42, 29, 5, 96, 46, 42, 29, 6, 96, 46, 182] = true := by decide +kernel
theorem lb_16 : dl_ck (cL_law.data.toList.drop 512) [0, 45, 87, 44, 42, 29, 4, 96, 46, 42, 29, 5, 96, 46, 42, 29, 6, 96, 46, 182, 0, 48, 87, 167, 4, 82, 43, 42, 29, 4, 96, 46] = true := by decide +kernel
theorem lb_17 : dl_ck (cL_law.data.toList.drop 544) [182, 0, 49, 87, 44, 42, 29, 4, 96, 46, 182, 0, 52, 87, 167, 4, 59, 43, 42, 29, 4, 96, 46, 182, 0, 53, 87, 44, 42, 29, 4, 96] = true := by decide +kernel
theorem lb_18 : dl_ck (cL_law.data.toList.drop 576) [46, 182, 0, 56, 87, 167, 4, 36, 43, 42, 29, 4, 96, 46, 42, 29, 5, 96, 46, 182, 0, 57, 87, 44, 42, 29, 4, 96, 46, 42, 29, 5] = true := by decide +kernel
theorem lb_19 : dl_ck (cL_law.data.toList.drop 608) [96, 46, 182, 0, 60, 87, 167, 4, 3, 43, 42, 29, 4, 96, 46, 42, 29, 5, 96, 46, 182, 0, 61, 87, 44, 42, 29, 4, 96, 46, 42, 29] = true := by decide +kernel
theorem lb_20 : dl_ck (cL_law.data.toList.drop 640) [5, 96, 46, 182, 0, 64, 87, 167, 3, 226, 43, 42, 29, 4, 96, 46, 42, 29, 5, 96, 46, 182, 0, 65, 87, 44, 42, 29, 4, 96, 46, 42] = true := by decide +kernel
theorem lb_21 : dl_ck (cL_law.data.toList.drop 672) [29, 5, 96, 46, 182, 0, 68, 87, 167, 3, 193, 43, 42, 29, 4, 96, 46, 42, 29, 5, 96, 46, 182, 0, 69, 87, 44, 42, 29, 4, 96, 46] = true := by decide +kernel
theorem lb_22 : dl_ck (cL_law.data.toList.drop 704) [42, 29, 5, 96, 46, 182, 0, 72, 87, 167, 3, 160, 43, 42, 29, 4, 96, 46, 42, 29, 5, 96, 46, 182, 0, 73, 87, 44, 42, 29, 4, 96] = true := by decide +kernel
theorem lb_23 : dl_ck (cL_law.data.toList.drop 736) [46, 42, 29, 5, 96, 46, 182, 0, 76, 87, 167, 3, 127, 43, 42, 29, 4, 96, 46, 182, 0, 77, 87, 44, 42, 29, 4, 96, 46, 182, 0, 80] = true := by decide +kernel
theorem lb_24 : dl_ck (cL_law.data.toList.drop 768) [87, 167, 3, 104, 43, 42, 29, 4, 96, 46, 42, 29, 5, 96, 46, 42, 29, 6, 96, 46, 42, 29, 7, 96, 46, 182, 0, 81, 87, 44, 42, 29] = true := by decide +kernel
theorem lb_25 : dl_ck (cL_law.data.toList.drop 800) [4, 96, 46, 42, 29, 5, 96, 46, 42, 29, 6, 96, 46, 42, 29, 7, 96, 46, 182, 0, 85, 87, 167, 3, 51, 43, 42, 29, 4, 96, 46, 42] = true := by decide +kernel
theorem lb_26 : dl_ck (cL_law.data.toList.drop 832) [29, 5, 96, 46, 182, 0, 86, 87, 44, 42, 29, 4, 96, 46, 42, 29, 5, 96, 46, 182, 0, 89, 87, 167, 3, 18, 43, 42, 29, 4, 96, 46] = true := by decide +kernel
theorem lb_27 : dl_ck (cL_law.data.toList.drop 864) [182, 0, 90, 87, 44, 42, 29, 4, 96, 46, 182, 0, 93, 87, 167, 2, 251, 43, 42, 29, 4, 96, 46, 182, 0, 94, 87, 44, 42, 29, 4, 96] = true := by decide +kernel
theorem lb_28 : dl_ck (cL_law.data.toList.drop 896) [46, 182, 0, 97, 87, 167, 2, 228, 43, 42, 29, 4, 96, 46, 42, 29, 5, 96, 46, 182, 0, 98, 87, 44, 42, 29, 4, 96, 46, 42, 29, 5] = true := by decide +kernel
theorem lb_29 : dl_ck (cL_law.data.toList.drop 928) [96, 46, 182, 0, 101, 87, 167, 2, 195, 43, 42, 29, 4, 96, 46, 182, 0, 102, 87, 44, 42, 29, 4, 96, 46, 182, 0, 105, 87, 167, 2, 172] = true := by decide +kernel
theorem lb_30 : dl_ck (cL_law.data.toList.drop 960) [43, 42, 29, 4, 96, 46, 182, 0, 106, 87, 44, 42, 29, 4, 96, 46, 182, 0, 109, 87, 167, 2, 149, 43, 42, 29, 4, 96, 46, 182, 0, 110] = true := by decide +kernel
theorem lb_31 : dl_ck (cL_law.data.toList.drop 992) [87, 44, 42, 29, 4, 96, 46, 182, 0, 113, 87, 167, 2, 126, 43, 42, 29, 4, 96, 46, 182, 0, 114, 87, 44, 42, 29, 4, 96, 46, 182, 0] = true := by decide +kernel
theorem lb_32 : dl_ck (cL_law.data.toList.drop 1024) [117, 87, 167, 2, 103, 43, 42, 29, 4, 96, 46, 42, 29, 5, 96, 46, 182, 0, 118, 87, 44, 42, 29, 4, 96, 46, 42, 29, 5, 96, 46, 182] = true := by decide +kernel
theorem lb_33 : dl_ck (cL_law.data.toList.drop 1056) [0, 121, 87, 167, 2, 70, 43, 42, 29, 4, 96, 46, 42, 29, 5, 96, 46, 182, 0, 122, 87, 44, 42, 29, 4, 96, 46, 42, 29, 5, 96, 46] = true := by decide +kernel
theorem lb_34 : dl_ck (cL_law.data.toList.drop 1088) [182, 0, 125, 87, 167, 2, 37, 43, 42, 29, 4, 96, 46, 182, 0, 126, 87, 44, 42, 29, 4, 96, 46, 182, 0, 129, 87, 167, 2, 14, 43, 42] = true := by decide +kernel
theorem lb_35 : dl_ck (cL_law.data.toList.drop 1120) [29, 4, 96, 46, 182, 0, 130, 87, 44, 42, 29, 4, 96, 46, 182, 0, 133, 87, 167, 1, 247, 43, 42, 29, 4, 96, 46, 182, 0, 134, 87, 44] = true := by decide +kernel
theorem lb_36 : dl_ck (cL_law.data.toList.drop 1152) [42, 29, 4, 96, 46, 182, 0, 137, 87, 167, 1, 224, 43, 42, 29, 4, 96, 46, 182, 0, 138, 87, 44, 42, 29, 4, 96, 46, 182, 0, 141, 87] = true := by decide +kernel
theorem lb_37 : dl_ck (cL_law.data.toList.drop 1184) [167, 1, 201, 43, 42, 29, 4, 96, 46, 182, 0, 142, 87, 44, 42, 29, 4, 96, 46, 182, 0, 145, 87, 167, 1, 178, 43, 42, 29, 4, 96, 46] = true := by decide +kernel
theorem lb_38 : dl_ck (cL_law.data.toList.drop 1216) [182, 0, 146, 44, 42, 29, 4, 96, 46, 182, 0, 149, 159, 1, 157, 3, 172, 43, 42, 29, 4, 96, 46, 42, 29, 5, 96, 46, 42, 29, 6, 96] = true := by decide +kernel
theorem lb_39 : dl_ck (cL_law.data.toList.drop 1248) [46, 182, 0, 150, 87, 44, 42, 29, 4, 96, 46, 42, 29, 5, 96, 46, 42, 29, 6, 96, 46, 182, 0, 153, 87, 167, 1, 112, 43, 42, 29, 4] = true := by decide +kernel
theorem lb_40 : dl_ck (cL_law.data.toList.drop 1280) [96, 46, 182, 0, 154, 87, 44, 42, 29, 4, 96, 46, 182, 0, 157, 87, 167, 1, 89, 43, 42, 29, 4, 96, 46, 182, 0, 158, 87, 44, 42, 29] = true := by decide +kernel
theorem lb_41 : dl_ck (cL_law.data.toList.drop 1312) [4, 96, 46, 182, 0, 161, 87, 167, 1, 66, 43, 42, 29, 4, 96, 46, 42, 29, 5, 96, 46, 42, 29, 6, 96, 46, 182, 0, 162, 87, 44, 42] = true := by decide +kernel
theorem lb_42 : dl_ck (cL_law.data.toList.drop 1344) [29, 4, 96, 46, 42, 29, 5, 96, 46, 42, 29, 6, 96, 46, 182, 0, 165, 87, 167, 1, 23, 43, 42, 29, 4, 96, 46, 182, 0, 166, 87, 44] = true := by decide +kernel
theorem lb_43 : dl_ck (cL_law.data.toList.drop 1376) [42, 29, 4, 96, 46, 182, 0, 169, 87, 167, 1, 0, 43, 42, 29, 4, 96, 46, 42, 29, 5, 96, 46, 182, 0, 170, 87, 44, 42, 29, 4, 96] = true := by decide +kernel
theorem lb_44 : dl_ck (cL_law.data.toList.drop 1408) [46, 42, 29, 5, 96, 46, 182, 0, 173, 87, 167, 0, 223, 43, 42, 29, 4, 96, 46, 42, 29, 5, 96, 46, 182, 0, 174, 87, 44, 42, 29, 4] = true := by decide +kernel
theorem lb_45 : dl_ck (cL_law.data.toList.drop 1440) [96, 46, 42, 29, 5, 96, 46, 182, 0, 177, 87, 167, 0, 190, 43, 42, 29, 4, 96, 46, 42, 29, 5, 96, 46, 42, 29, 6, 96, 46, 182, 0] = true := by decide +kernel
theorem lb_46 : dl_ck (cL_law.data.toList.drop 1472) [178, 87, 44, 42, 29, 4, 96, 46, 42, 29, 5, 96, 46, 42, 29, 6, 96, 46, 182, 0, 181, 87, 167, 0, 147, 43, 42, 29, 4, 96, 46, 42] = true := by decide +kernel
theorem lb_47 : dl_ck (cL_law.data.toList.drop 1504) [29, 5, 96, 46, 182, 0, 182, 87, 44, 42, 29, 4, 96, 46, 42, 29, 5, 96, 46, 182, 0, 185, 87, 167, 0, 114, 43, 182, 0, 186, 87, 44] = true := by decide +kernel
theorem lb_48 : dl_ck (cL_law.data.toList.drop 1536) [182, 0, 190, 87, 167, 0, 101, 43, 182, 0, 191, 88, 44, 182, 0, 195, 88, 167, 0, 88, 43, 182, 0, 196, 88, 44, 182, 0, 199, 88, 167, 0] = true := by decide +kernel
theorem lb_49 : dl_ck (cL_law.data.toList.drop 1568) [75, 43, 42, 29, 4, 96, 46, 182, 0, 200, 87, 44, 42, 29, 4, 96, 46, 182, 0, 203, 87, 167, 0, 52, 43, 182, 0, 204, 87, 44, 182, 0] = true := by decide +kernel
theorem lb_50 : dl_ck (cL_law.data.toList.drop 1600) [207, 87, 167, 0, 39, 43, 42, 29, 4, 96, 46, 182, 0, 208, 87, 44, 42, 29, 4, 96, 46, 182, 0, 211, 87, 167, 0, 16, 43, 182, 0, 212] = true := by decide +kernel
theorem lb_51 : dl_ck (cL_law.data.toList.drop 1632) [88, 44, 182, 0, 215, 88, 167, 0, 3, 132, 3, 6, 167, 249, 166, 4, 172] = true := by decide +kernel
theorem mw_2_195 : (Cond.code yX11_row cX11_row 3 (some .int) : Cond) ∈ lw_good := lg_at 2 195 rfl rfl
theorem mw_2_192 : (Cond.methodLink RL 13 yX11_row : Cond) ∈ lw_good := lg_at 2 192 rfl rfl
theorem mw_2_193 : (Cond.instanceMethod yX11_row : Cond) ∈ lw_good := lg_at 2 193 rfl rfl
theorem mw_2_194 : (Cond.selects RX11 yX11_row yX11_row : Cond) ∈ lw_good := lg_at 2 194 rfl rfl
theorem mw_5_180 : (Cond.methodLink RL 17 yX12_row : Cond) ∈ lw_good := lg_at 5 180 rfl rfl
theorem mw_2_213 : (Cond.code yX11_lay cX11_lay 5 (some .int) : Cond) ∈ lw_good := lg_at 2 213 rfl rfl
theorem mw_2_210 : (Cond.methodLink RL 18 yX11_lay : Cond) ∈ lw_good := lg_at 2 210 rfl rfl
theorem mw_2_211 : (Cond.instanceMethod yX11_lay : Cond) ∈ lw_good := lg_at 2 211 rfl rfl
theorem mw_2_212 : (Cond.selects RX11 yX11_lay yX11_lay : Cond) ∈ lw_good := lg_at 2 212 rfl rfl
theorem mw_5_217 : (Cond.code yX12_lay cX12_lay 5 (some .int) : Cond) ∈ lw_good := lg_at 5 217 rfl rfl
theorem mw_5_214 : (Cond.methodLink RL 22 yX12_lay : Cond) ∈ lw_good := lg_at 5 214 rfl rfl
theorem mw_5_215 : (Cond.instanceMethod yX12_lay : Cond) ∈ lw_good := lg_at 5 215 rfl rfl
theorem mw_5_216 : (Cond.selects RX12 yX12_lay yX12_lay : Cond) ∈ lw_good := lg_at 5 216 rfl rfl
theorem mw_2_229 : (Cond.code yX11_at cX11_at 4 (some .int) : Cond) ∈ lw_good := lg_at 2 229 rfl rfl
theorem mw_2_226 : (Cond.methodLink RL 23 yX11_at : Cond) ∈ lw_good := lg_at 2 226 rfl rfl
theorem mw_2_227 : (Cond.instanceMethod yX11_at : Cond) ∈ lw_good := lg_at 2 227 rfl rfl
theorem mw_2_228 : (Cond.selects RX11 yX11_at yX11_at : Cond) ∈ lw_good := lg_at 2 228 rfl rfl
theorem mw_5_198 : (Cond.methodLink RL 26 yX12_at : Cond) ∈ lw_good := lg_at 5 198 rfl rfl
theorem mw_2_233 : (Cond.code yX11_tear cX11_tear 3 (some .int) : Cond) ∈ lw_good := lg_at 2 233 rfl rfl
theorem mw_2_230 : (Cond.methodLink RL 27 yX11_tear : Cond) ∈ lw_good := lg_at 2 230 rfl rfl
theorem mw_2_231 : (Cond.instanceMethod yX11_tear : Cond) ∈ lw_good := lg_at 2 231 rfl rfl
theorem mw_2_232 : (Cond.selects RX11 yX11_tear yX11_tear : Cond) ∈ lw_good := lg_at 2 232 rfl rfl
theorem mw_5_222 : (Cond.code yX12_tear cX12_tear 3 (some .int) : Cond) ∈ lw_good := lg_at 5 222 rfl rfl
theorem mw_5_219 : (Cond.methodLink RL 31 yX12_tear : Cond) ∈ lw_good := lg_at 5 219 rfl rfl
theorem mw_5_220 : (Cond.instanceMethod yX12_tear : Cond) ∈ lw_good := lg_at 5 220 rfl rfl
theorem mw_5_221 : (Cond.selects RX12 yX12_tear yX12_tear : Cond) ∈ lw_good := lg_at 5 221 rfl rfl
theorem mw_2_237 : (Cond.code yX11_copy cX11_copy 6 (some .int) : Cond) ∈ lw_good := lg_at 2 237 rfl rfl
theorem mw_2_234 : (Cond.methodLink RL 32 yX11_copy : Cond) ∈ lw_good := lg_at 2 234 rfl rfl
theorem mw_2_235 : (Cond.instanceMethod yX11_copy : Cond) ∈ lw_good := lg_at 2 235 rfl rfl
theorem mw_2_236 : (Cond.selects RX11 yX11_copy yX11_copy : Cond) ∈ lw_good := lg_at 2 236 rfl rfl
theorem mw_5_226 : (Cond.code yX12_copy cX12_copy 7 (some .int) : Cond) ∈ lw_good := lg_at 5 226 rfl rfl
theorem mw_5_223 : (Cond.methodLink RL 36 yX12_copy : Cond) ∈ lw_good := lg_at 5 223 rfl rfl
theorem mw_5_224 : (Cond.instanceMethod yX12_copy : Cond) ∈ lw_good := lg_at 5 224 rfl rfl
theorem mw_5_225 : (Cond.selects RX12 yX12_copy yX12_copy : Cond) ∈ lw_good := lg_at 5 225 rfl rfl
theorem mw_3_8 : (Cond.code yX11_mean cX11_mean 7 (some .int) : Cond) ∈ lw_good := lg_at 3 8 rfl rfl
theorem mw_3_5 : (Cond.methodLink RL 37 yX11_mean : Cond) ∈ lw_good := lg_at 3 5 rfl rfl
theorem mw_3_6 : (Cond.instanceMethod yX11_mean : Cond) ∈ lw_good := lg_at 3 6 rfl rfl
theorem mw_3_7 : (Cond.selects RX11 yX11_mean yX11_mean : Cond) ∈ lw_good := lg_at 3 7 rfl rfl
theorem mw_5_230 : (Cond.code yX12_mean cX12_mean 6 (some .int) : Cond) ∈ lw_good := lg_at 5 230 rfl rfl
theorem mw_5_227 : (Cond.methodLink RL 40 yX12_mean : Cond) ∈ lw_good := lg_at 5 227 rfl rfl
theorem mw_5_228 : (Cond.instanceMethod yX12_mean : Cond) ∈ lw_good := lg_at 5 228 rfl rfl
theorem mw_5_229 : (Cond.selects RX12 yX12_mean yX12_mean : Cond) ∈ lw_good := lg_at 5 229 rfl rfl
theorem mw_3_12 : (Cond.code yX11_text cX11_text 3 (some .int) : Cond) ∈ lw_good := lg_at 3 12 rfl rfl
theorem mw_3_9 : (Cond.methodLink RL 41 yX11_text : Cond) ∈ lw_good := lg_at 3 9 rfl rfl
theorem mw_3_10 : (Cond.instanceMethod yX11_text : Cond) ∈ lw_good := lg_at 3 10 rfl rfl
theorem mw_3_11 : (Cond.selects RX11 yX11_text yX11_text : Cond) ∈ lw_good := lg_at 3 11 rfl rfl
theorem mw_5_234 : (Cond.code yX12_text cX12_text 4 (some .int) : Cond) ∈ lw_good := lg_at 5 234 rfl rfl
theorem mw_5_231 : (Cond.methodLink RL 44 yX12_text : Cond) ∈ lw_good := lg_at 5 231 rfl rfl
theorem mw_5_232 : (Cond.instanceMethod yX12_text : Cond) ∈ lw_good := lg_at 5 232 rfl rfl
theorem mw_5_233 : (Cond.selects RX12 yX12_text yX12_text : Cond) ∈ lw_good := lg_at 5 233 rfl rfl
theorem mw_3_26 : (Cond.code yX11_put cX11_put 6 (some .int) : Cond) ∈ lw_good := lg_at 3 26 rfl rfl
theorem mw_3_23 : (Cond.methodLink RL 45 yX11_put : Cond) ∈ lw_good := lg_at 3 23 rfl rfl
theorem mw_3_24 : (Cond.instanceMethod yX11_put : Cond) ∈ lw_good := lg_at 3 24 rfl rfl
theorem mw_3_25 : (Cond.selects RX11 yX11_put yX11_put : Cond) ∈ lw_good := lg_at 3 25 rfl rfl
theorem mw_6_1 : (Cond.code yX12_put cX12_put 6 (some .int) : Cond) ∈ lw_good := lg_at 6 1 rfl rfl
theorem mw_5_238 : (Cond.methodLink RL 48 yX12_put : Cond) ∈ lw_good := lg_at 5 238 rfl rfl
theorem mw_5_239 : (Cond.instanceMethod yX12_put : Cond) ∈ lw_good := lg_at 5 239 rfl rfl
theorem mw_6_0 : (Cond.selects RX12 yX12_put yX12_put : Cond) ∈ lw_good := lg_at 6 0 rfl rfl
theorem mw_3_38 : (Cond.code yX11_fault cX11_fault 3 (some .int) : Cond) ∈ lw_good := lg_at 3 38 rfl rfl
theorem mw_3_35 : (Cond.methodLink RL 49 yX11_fault : Cond) ∈ lw_good := lg_at 3 35 rfl rfl
theorem mw_3_36 : (Cond.instanceMethod yX11_fault : Cond) ∈ lw_good := lg_at 3 36 rfl rfl
theorem mw_3_37 : (Cond.selects RX11 yX11_fault yX11_fault : Cond) ∈ lw_good := lg_at 3 37 rfl rfl
theorem mw_6_9 : (Cond.code yX12_fault cX12_fault 3 (some .int) : Cond) ∈ lw_good := lg_at 6 9 rfl rfl
theorem mw_6_6 : (Cond.methodLink RL 52 yX12_fault : Cond) ∈ lw_good := lg_at 6 6 rfl rfl
theorem mw_6_7 : (Cond.instanceMethod yX12_fault : Cond) ∈ lw_good := lg_at 6 7 rfl rfl
theorem mw_6_8 : (Cond.selects RX12 yX12_fault yX12_fault : Cond) ∈ lw_good := lg_at 6 8 rfl rfl
theorem mw_3_63 : (Cond.code yX11_town cX11_town 4 (some .int) : Cond) ∈ lw_good := lg_at 3 63 rfl rfl
theorem mw_3_60 : (Cond.methodLink RL 53 yX11_town : Cond) ∈ lw_good := lg_at 3 60 rfl rfl
theorem mw_3_61 : (Cond.instanceMethod yX11_town : Cond) ∈ lw_good := lg_at 3 61 rfl rfl
theorem mw_3_62 : (Cond.selects RX11 yX11_town yX11_town : Cond) ∈ lw_good := lg_at 3 62 rfl rfl
theorem mw_6_32 : (Cond.code yX12_town cX12_town 4 (some .int) : Cond) ∈ lw_good := lg_at 6 32 rfl rfl
theorem mw_6_29 : (Cond.methodLink RL 56 yX12_town : Cond) ∈ lw_good := lg_at 6 29 rfl rfl
theorem mw_6_30 : (Cond.instanceMethod yX12_town : Cond) ∈ lw_good := lg_at 6 30 rfl rfl
theorem mw_6_31 : (Cond.selects RX12 yX12_town yX12_town : Cond) ∈ lw_good := lg_at 6 31 rfl rfl
theorem mw_3_72 : (Cond.code yX11_bearer cX11_bearer 3 (some .int) : Cond) ∈ lw_good := lg_at 3 72 rfl rfl
theorem mw_3_69 : (Cond.methodLink RL 57 yX11_bearer : Cond) ∈ lw_good := lg_at 3 69 rfl rfl
theorem mw_3_70 : (Cond.instanceMethod yX11_bearer : Cond) ∈ lw_good := lg_at 3 70 rfl rfl
theorem mw_3_71 : (Cond.selects RX11 yX11_bearer yX11_bearer : Cond) ∈ lw_good := lg_at 3 71 rfl rfl
theorem mw_6_36 : (Cond.code yX12_bearer cX12_bearer 3 (some .int) : Cond) ∈ lw_good := lg_at 6 36 rfl rfl
theorem mw_6_33 : (Cond.methodLink RL 60 yX12_bearer : Cond) ∈ lw_good := lg_at 6 33 rfl rfl
theorem mw_6_34 : (Cond.instanceMethod yX12_bearer : Cond) ∈ lw_good := lg_at 6 34 rfl rfl
theorem mw_6_35 : (Cond.selects RX12 yX12_bearer yX12_bearer : Cond) ∈ lw_good := lg_at 6 35 rfl rfl
theorem mw_3_101 : (Cond.code yX11_mark cX11_mark 3 (some .int) : Cond) ∈ lw_good := lg_at 3 101 rfl rfl
theorem mw_3_98 : (Cond.methodLink RL 61 yX11_mark : Cond) ∈ lw_good := lg_at 3 98 rfl rfl
theorem mw_3_99 : (Cond.instanceMethod yX11_mark : Cond) ∈ lw_good := lg_at 3 99 rfl rfl
theorem mw_3_100 : (Cond.selects RX11 yX11_mark yX11_mark : Cond) ∈ lw_good := lg_at 3 100 rfl rfl
theorem mw_6_66 : (Cond.code yX12_mark cX12_mark 6 (some .int) : Cond) ∈ lw_good := lg_at 6 66 rfl rfl
theorem mw_6_63 : (Cond.methodLink RL 64 yX12_mark : Cond) ∈ lw_good := lg_at 6 63 rfl rfl
theorem mw_6_64 : (Cond.instanceMethod yX12_mark : Cond) ∈ lw_good := lg_at 6 64 rfl rfl
theorem mw_6_65 : (Cond.selects RX12 yX12_mark yX12_mark : Cond) ∈ lw_good := lg_at 6 65 rfl rfl
theorem mw_3_124 : (Cond.code yX11_purse cX11_purse 4 (some .int) : Cond) ∈ lw_good := lg_at 3 124 rfl rfl
theorem mw_3_121 : (Cond.methodLink RL 65 yX11_purse : Cond) ∈ lw_good := lg_at 3 121 rfl rfl
theorem mw_3_122 : (Cond.instanceMethod yX11_purse : Cond) ∈ lw_good := lg_at 3 122 rfl rfl
theorem mw_3_123 : (Cond.selects RX11 yX11_purse yX11_purse : Cond) ∈ lw_good := lg_at 3 123 rfl rfl
theorem mw_6_82 : (Cond.code yX12_purse cX12_purse 4 (some .int) : Cond) ∈ lw_good := lg_at 6 82 rfl rfl
theorem mw_6_79 : (Cond.methodLink RL 68 yX12_purse : Cond) ∈ lw_good := lg_at 6 79 rfl rfl
theorem mw_6_80 : (Cond.instanceMethod yX12_purse : Cond) ∈ lw_good := lg_at 6 80 rfl rfl
theorem mw_6_81 : (Cond.selects RX12 yX12_purse yX12_purse : Cond) ∈ lw_good := lg_at 6 81 rfl rfl
theorem dL_law_244 : decode cL_law 244 = .ok (.aload_n 1, 1) := dc_aload1 (dl_at 224 20 lb_7 rfl)
theorem dL_law_245 : decode cL_law 245 = .ok (.aload_n 0, 1) := dc_aload0 (dl_at 224 21 lb_7 rfl)
theorem dL_law_246 : decode cL_law 246 = .ok (.iload_n 3, 1) := dc_iload3 (dl_at 224 22 lb_7 rfl)
theorem dL_law_247 : decode cL_law 247 = .ok (.iconst 1, 1) := dc_iconst1 (dl_at 224 23 lb_7 rfl)
theorem dL_law_248 : decode cL_law 248 = .ok (.iadd, 1) := dc_iadd (dl_at 224 24 lb_7 rfl)
theorem dL_law_249 : decode cL_law 249 = .ok (.iaload, 1) := dc_iaload (dl_at 224 25 lb_7 rfl)
theorem dL_law_250 : decode cL_law 250 = .ok (.aload_n 0, 1) := dc_aload0 (dl_at 224 26 lb_7 rfl)
theorem dL_law_251 : decode cL_law 251 = .ok (.iload_n 3, 1) := dc_iload3 (dl_at 224 27 lb_7 rfl)
theorem dL_law_252 : decode cL_law 252 = .ok (.iconst 2, 1) := dc_iconst2 (dl_at 224 28 lb_7 rfl)
theorem dL_law_253 : decode cL_law 253 = .ok (.iadd, 1) := dc_iadd (dl_at 224 29 lb_7 rfl)
theorem dL_law_254 : decode cL_law 254 = .ok (.iaload, 1) := dc_iaload (dl_at 224 30 lb_7 rfl)
theorem dL_law_255 : decode cL_law 255 = .ok (.invokevirtual 13, 3) := dc_virt (a := 0) (b := 13) (dl_at 224 31 lb_7 rfl) (dl_at 256 0 lb_8 rfl) (dl_at 256 1 lb_8 rfl)
theorem dL_law_258 : decode cL_law 258 = .ok (.pop, 1) := dc_pop (dl_at 256 2 lb_8 rfl)
theorem dL_law_259 : decode cL_law 259 = .ok (.aload_n 2, 1) := dc_aload2 (dl_at 256 3 lb_8 rfl)
theorem dL_law_260 : decode cL_law 260 = .ok (.aload_n 0, 1) := dc_aload0 (dl_at 256 4 lb_8 rfl)
theorem dL_law_261 : decode cL_law 261 = .ok (.iload_n 3, 1) := dc_iload3 (dl_at 256 5 lb_8 rfl)
theorem dL_law_262 : decode cL_law 262 = .ok (.iconst 1, 1) := dc_iconst1 (dl_at 256 6 lb_8 rfl)
theorem dL_law_263 : decode cL_law 263 = .ok (.iadd, 1) := dc_iadd (dl_at 256 7 lb_8 rfl)
theorem dL_law_264 : decode cL_law 264 = .ok (.iaload, 1) := dc_iaload (dl_at 256 8 lb_8 rfl)
theorem dL_law_265 : decode cL_law 265 = .ok (.aload_n 0, 1) := dc_aload0 (dl_at 256 9 lb_8 rfl)
theorem dL_law_266 : decode cL_law 266 = .ok (.iload_n 3, 1) := dc_iload3 (dl_at 256 10 lb_8 rfl)
theorem dL_law_267 : decode cL_law 267 = .ok (.iconst 2, 1) := dc_iconst2 (dl_at 256 11 lb_8 rfl)
theorem dL_law_268 : decode cL_law 268 = .ok (.iadd, 1) := dc_iadd (dl_at 256 12 lb_8 rfl)
theorem dL_law_269 : decode cL_law 269 = .ok (.iaload, 1) := dc_iaload (dl_at 256 13 lb_8 rfl)
theorem dL_law_270 : decode cL_law 270 = .ok (.invokevirtual 17, 3) := dc_virt (a := 0) (b := 17) (dl_at 256 14 lb_8 rfl) (dl_at 256 15 lb_8 rfl) (dl_at 256 16 lb_8 rfl)
theorem dL_law_273 : decode cL_law 273 = .ok (.pop, 1) := dc_pop (dl_at 256 17 lb_8 rfl)
theorem dL_law_274 : decode cL_law 274 = .ok (.goto 1367, 3) := dc_goto (a := 5) (b := 87) (dl_at 256 18 lb_8 rfl) (dl_at 256 19 lb_8 rfl) (dl_at 256 20 lb_8 rfl) (by decide +kernel)
theorem dL_law_277 : decode cL_law 277 = .ok (.aload_n 1, 1) := dc_aload1 (dl_at 256 21 lb_8 rfl)
theorem dL_law_278 : decode cL_law 278 = .ok (.aload_n 0, 1) := dc_aload0 (dl_at 256 22 lb_8 rfl)
theorem dL_law_279 : decode cL_law 279 = .ok (.iload_n 3, 1) := dc_iload3 (dl_at 256 23 lb_8 rfl)
theorem dL_law_280 : decode cL_law 280 = .ok (.iconst 1, 1) := dc_iconst1 (dl_at 256 24 lb_8 rfl)
theorem dL_law_281 : decode cL_law 281 = .ok (.iadd, 1) := dc_iadd (dl_at 256 25 lb_8 rfl)
theorem dL_law_282 : decode cL_law 282 = .ok (.iaload, 1) := dc_iaload (dl_at 256 26 lb_8 rfl)
theorem dL_law_283 : decode cL_law 283 = .ok (.aload_n 0, 1) := dc_aload0 (dl_at 256 27 lb_8 rfl)
theorem dL_law_284 : decode cL_law 284 = .ok (.iload_n 3, 1) := dc_iload3 (dl_at 256 28 lb_8 rfl)
theorem dL_law_285 : decode cL_law 285 = .ok (.iconst 2, 1) := dc_iconst2 (dl_at 256 29 lb_8 rfl)
theorem dL_law_286 : decode cL_law 286 = .ok (.iadd, 1) := dc_iadd (dl_at 256 30 lb_8 rfl)
theorem dL_law_287 : decode cL_law 287 = .ok (.iaload, 1) := dc_iaload (dl_at 256 31 lb_8 rfl)
theorem dL_law_288 : decode cL_law 288 = .ok (.aload_n 0, 1) := dc_aload0 (dl_at 288 0 lb_9 rfl)
theorem dL_law_289 : decode cL_law 289 = .ok (.iload_n 3, 1) := dc_iload3 (dl_at 288 1 lb_9 rfl)
theorem dL_law_290 : decode cL_law 290 = .ok (.iconst 3, 1) := dc_iconst3 (dl_at 288 2 lb_9 rfl)
theorem dL_law_291 : decode cL_law 291 = .ok (.iadd, 1) := dc_iadd (dl_at 288 3 lb_9 rfl)
theorem dL_law_292 : decode cL_law 292 = .ok (.iaload, 1) := dc_iaload (dl_at 288 4 lb_9 rfl)
theorem dL_law_293 : decode cL_law 293 = .ok (.invokevirtual 18, 3) := dc_virt (a := 0) (b := 18) (dl_at 288 5 lb_9 rfl) (dl_at 288 6 lb_9 rfl) (dl_at 288 7 lb_9 rfl)
theorem dL_law_296 : decode cL_law 296 = .ok (.pop, 1) := dc_pop (dl_at 288 8 lb_9 rfl)
theorem dL_law_297 : decode cL_law 297 = .ok (.aload_n 2, 1) := dc_aload2 (dl_at 288 9 lb_9 rfl)
theorem dL_law_298 : decode cL_law 298 = .ok (.aload_n 0, 1) := dc_aload0 (dl_at 288 10 lb_9 rfl)
theorem dL_law_299 : decode cL_law 299 = .ok (.iload_n 3, 1) := dc_iload3 (dl_at 288 11 lb_9 rfl)
theorem dL_law_300 : decode cL_law 300 = .ok (.iconst 1, 1) := dc_iconst1 (dl_at 288 12 lb_9 rfl)
theorem dL_law_301 : decode cL_law 301 = .ok (.iadd, 1) := dc_iadd (dl_at 288 13 lb_9 rfl)
theorem dL_law_302 : decode cL_law 302 = .ok (.iaload, 1) := dc_iaload (dl_at 288 14 lb_9 rfl)
theorem dL_law_303 : decode cL_law 303 = .ok (.aload_n 0, 1) := dc_aload0 (dl_at 288 15 lb_9 rfl)
theorem dL_law_304 : decode cL_law 304 = .ok (.iload_n 3, 1) := dc_iload3 (dl_at 288 16 lb_9 rfl)
theorem dL_law_305 : decode cL_law 305 = .ok (.iconst 2, 1) := dc_iconst2 (dl_at 288 17 lb_9 rfl)
theorem dL_law_306 : decode cL_law 306 = .ok (.iadd, 1) := dc_iadd (dl_at 288 18 lb_9 rfl)
theorem dL_law_307 : decode cL_law 307 = .ok (.iaload, 1) := dc_iaload (dl_at 288 19 lb_9 rfl)
theorem dL_law_308 : decode cL_law 308 = .ok (.aload_n 0, 1) := dc_aload0 (dl_at 288 20 lb_9 rfl)
theorem dL_law_309 : decode cL_law 309 = .ok (.iload_n 3, 1) := dc_iload3 (dl_at 288 21 lb_9 rfl)
theorem dL_law_310 : decode cL_law 310 = .ok (.iconst 3, 1) := dc_iconst3 (dl_at 288 22 lb_9 rfl)
theorem dL_law_311 : decode cL_law 311 = .ok (.iadd, 1) := dc_iadd (dl_at 288 23 lb_9 rfl)
theorem dL_law_312 : decode cL_law 312 = .ok (.iaload, 1) := dc_iaload (dl_at 288 24 lb_9 rfl)
theorem dL_law_313 : decode cL_law 313 = .ok (.invokevirtual 22, 3) := dc_virt (a := 0) (b := 22) (dl_at 288 25 lb_9 rfl) (dl_at 288 26 lb_9 rfl) (dl_at 288 27 lb_9 rfl)
theorem dL_law_316 : decode cL_law 316 = .ok (.pop, 1) := dc_pop (dl_at 288 28 lb_9 rfl)
theorem dL_law_317 : decode cL_law 317 = .ok (.goto 1324, 3) := dc_goto (a := 5) (b := 44) (dl_at 288 29 lb_9 rfl) (dl_at 288 30 lb_9 rfl) (dl_at 288 31 lb_9 rfl) (by decide +kernel)
theorem dL_law_320 : decode cL_law 320 = .ok (.aload_n 1, 1) := dc_aload1 (dl_at 320 0 lb_10 rfl)
theorem dL_law_321 : decode cL_law 321 = .ok (.aload_n 0, 1) := dc_aload0 (dl_at 320 1 lb_10 rfl)
theorem dL_law_322 : decode cL_law 322 = .ok (.iload_n 3, 1) := dc_iload3 (dl_at 320 2 lb_10 rfl)
theorem dL_law_323 : decode cL_law 323 = .ok (.iconst 1, 1) := dc_iconst1 (dl_at 320 3 lb_10 rfl)
theorem dL_law_324 : decode cL_law 324 = .ok (.iadd, 1) := dc_iadd (dl_at 320 4 lb_10 rfl)
theorem dL_law_325 : decode cL_law 325 = .ok (.iaload, 1) := dc_iaload (dl_at 320 5 lb_10 rfl)
theorem dL_law_326 : decode cL_law 326 = .ok (.aload_n 0, 1) := dc_aload0 (dl_at 320 6 lb_10 rfl)
theorem dL_law_327 : decode cL_law 327 = .ok (.iload_n 3, 1) := dc_iload3 (dl_at 320 7 lb_10 rfl)
theorem dL_law_328 : decode cL_law 328 = .ok (.iconst 2, 1) := dc_iconst2 (dl_at 320 8 lb_10 rfl)
theorem dL_law_329 : decode cL_law 329 = .ok (.iadd, 1) := dc_iadd (dl_at 320 9 lb_10 rfl)
theorem dL_law_330 : decode cL_law 330 = .ok (.iaload, 1) := dc_iaload (dl_at 320 10 lb_10 rfl)
theorem dL_law_331 : decode cL_law 331 = .ok (.invokevirtual 23, 3) := dc_virt (a := 0) (b := 23) (dl_at 320 11 lb_10 rfl) (dl_at 320 12 lb_10 rfl) (dl_at 320 13 lb_10 rfl)
theorem dL_law_334 : decode cL_law 334 = .ok (.pop, 1) := dc_pop (dl_at 320 14 lb_10 rfl)
theorem dL_law_335 : decode cL_law 335 = .ok (.aload_n 2, 1) := dc_aload2 (dl_at 320 15 lb_10 rfl)
theorem dL_law_336 : decode cL_law 336 = .ok (.aload_n 0, 1) := dc_aload0 (dl_at 320 16 lb_10 rfl)
theorem dL_law_337 : decode cL_law 337 = .ok (.iload_n 3, 1) := dc_iload3 (dl_at 320 17 lb_10 rfl)
theorem dL_law_338 : decode cL_law 338 = .ok (.iconst 1, 1) := dc_iconst1 (dl_at 320 18 lb_10 rfl)
theorem dL_law_339 : decode cL_law 339 = .ok (.iadd, 1) := dc_iadd (dl_at 320 19 lb_10 rfl)
theorem dL_law_340 : decode cL_law 340 = .ok (.iaload, 1) := dc_iaload (dl_at 320 20 lb_10 rfl)
theorem dL_law_341 : decode cL_law 341 = .ok (.aload_n 0, 1) := dc_aload0 (dl_at 320 21 lb_10 rfl)
theorem dL_law_342 : decode cL_law 342 = .ok (.iload_n 3, 1) := dc_iload3 (dl_at 320 22 lb_10 rfl)
theorem dL_law_343 : decode cL_law 343 = .ok (.iconst 2, 1) := dc_iconst2 (dl_at 320 23 lb_10 rfl)
theorem dL_law_344 : decode cL_law 344 = .ok (.iadd, 1) := dc_iadd (dl_at 320 24 lb_10 rfl)
theorem dL_law_345 : decode cL_law 345 = .ok (.iaload, 1) := dc_iaload (dl_at 320 25 lb_10 rfl)
theorem dL_law_346 : decode cL_law 346 = .ok (.invokevirtual 26, 3) := dc_virt (a := 0) (b := 26) (dl_at 320 26 lb_10 rfl) (dl_at 320 27 lb_10 rfl) (dl_at 320 28 lb_10 rfl)
theorem dL_law_349 : decode cL_law 349 = .ok (.pop, 1) := dc_pop (dl_at 320 29 lb_10 rfl)
theorem dL_law_350 : decode cL_law 350 = .ok (.goto 1291, 3) := dc_goto (a := 5) (b := 11) (dl_at 320 30 lb_10 rfl) (dl_at 320 31 lb_10 rfl) (dl_at 352 0 lb_11 rfl) (by decide +kernel)
theorem dL_law_353 : decode cL_law 353 = .ok (.aload_n 1, 1) := dc_aload1 (dl_at 352 1 lb_11 rfl)
theorem dL_law_354 : decode cL_law 354 = .ok (.aload_n 0, 1) := dc_aload0 (dl_at 352 2 lb_11 rfl)
theorem dL_law_355 : decode cL_law 355 = .ok (.iload_n 3, 1) := dc_iload3 (dl_at 352 3 lb_11 rfl)
theorem dL_law_356 : decode cL_law 356 = .ok (.iconst 1, 1) := dc_iconst1 (dl_at 352 4 lb_11 rfl)
theorem dL_law_357 : decode cL_law 357 = .ok (.iadd, 1) := dc_iadd (dl_at 352 5 lb_11 rfl)
theorem dL_law_358 : decode cL_law 358 = .ok (.iaload, 1) := dc_iaload (dl_at 352 6 lb_11 rfl)
theorem dL_law_359 : decode cL_law 359 = .ok (.invokevirtual 27, 3) := dc_virt (a := 0) (b := 27) (dl_at 352 7 lb_11 rfl) (dl_at 352 8 lb_11 rfl) (dl_at 352 9 lb_11 rfl)
theorem dL_law_362 : decode cL_law 362 = .ok (.pop, 1) := dc_pop (dl_at 352 10 lb_11 rfl)
theorem dL_law_363 : decode cL_law 363 = .ok (.aload_n 2, 1) := dc_aload2 (dl_at 352 11 lb_11 rfl)
theorem dL_law_364 : decode cL_law 364 = .ok (.aload_n 0, 1) := dc_aload0 (dl_at 352 12 lb_11 rfl)
theorem dL_law_365 : decode cL_law 365 = .ok (.iload_n 3, 1) := dc_iload3 (dl_at 352 13 lb_11 rfl)
theorem dL_law_366 : decode cL_law 366 = .ok (.iconst 1, 1) := dc_iconst1 (dl_at 352 14 lb_11 rfl)
theorem dL_law_367 : decode cL_law 367 = .ok (.iadd, 1) := dc_iadd (dl_at 352 15 lb_11 rfl)
theorem dL_law_368 : decode cL_law 368 = .ok (.iaload, 1) := dc_iaload (dl_at 352 16 lb_11 rfl)
theorem dL_law_369 : decode cL_law 369 = .ok (.invokevirtual 31, 3) := dc_virt (a := 0) (b := 31) (dl_at 352 17 lb_11 rfl) (dl_at 352 18 lb_11 rfl) (dl_at 352 19 lb_11 rfl)
theorem dL_law_372 : decode cL_law 372 = .ok (.pop, 1) := dc_pop (dl_at 352 20 lb_11 rfl)
theorem dL_law_373 : decode cL_law 373 = .ok (.goto 1268, 3) := dc_goto (a := 4) (b := 244) (dl_at 352 21 lb_11 rfl) (dl_at 352 22 lb_11 rfl) (dl_at 352 23 lb_11 rfl) (by decide +kernel)
theorem dL_law_376 : decode cL_law 376 = .ok (.aload_n 1, 1) := dc_aload1 (dl_at 352 24 lb_11 rfl)
theorem dL_law_377 : decode cL_law 377 = .ok (.aload_n 0, 1) := dc_aload0 (dl_at 352 25 lb_11 rfl)
theorem dL_law_378 : decode cL_law 378 = .ok (.iload_n 3, 1) := dc_iload3 (dl_at 352 26 lb_11 rfl)
theorem dL_law_379 : decode cL_law 379 = .ok (.iconst 1, 1) := dc_iconst1 (dl_at 352 27 lb_11 rfl)
theorem dL_law_380 : decode cL_law 380 = .ok (.iadd, 1) := dc_iadd (dl_at 352 28 lb_11 rfl)
theorem dL_law_381 : decode cL_law 381 = .ok (.iaload, 1) := dc_iaload (dl_at 352 29 lb_11 rfl)
theorem dL_law_382 : decode cL_law 382 = .ok (.aload_n 0, 1) := dc_aload0 (dl_at 352 30 lb_11 rfl)
theorem dL_law_383 : decode cL_law 383 = .ok (.iload_n 3, 1) := dc_iload3 (dl_at 352 31 lb_11 rfl)
theorem dL_law_384 : decode cL_law 384 = .ok (.iconst 2, 1) := dc_iconst2 (dl_at 384 0 lb_12 rfl)
theorem dL_law_385 : decode cL_law 385 = .ok (.iadd, 1) := dc_iadd (dl_at 384 1 lb_12 rfl)
theorem dL_law_386 : decode cL_law 386 = .ok (.iaload, 1) := dc_iaload (dl_at 384 2 lb_12 rfl)
theorem dL_law_387 : decode cL_law 387 = .ok (.aload_n 0, 1) := dc_aload0 (dl_at 384 3 lb_12 rfl)
theorem dL_law_388 : decode cL_law 388 = .ok (.iload_n 3, 1) := dc_iload3 (dl_at 384 4 lb_12 rfl)
theorem dL_law_389 : decode cL_law 389 = .ok (.iconst 3, 1) := dc_iconst3 (dl_at 384 5 lb_12 rfl)
theorem dL_law_390 : decode cL_law 390 = .ok (.iadd, 1) := dc_iadd (dl_at 384 6 lb_12 rfl)
theorem dL_law_391 : decode cL_law 391 = .ok (.iaload, 1) := dc_iaload (dl_at 384 7 lb_12 rfl)
theorem dL_law_392 : decode cL_law 392 = .ok (.aload_n 0, 1) := dc_aload0 (dl_at 384 8 lb_12 rfl)
theorem dL_law_393 : decode cL_law 393 = .ok (.iload_n 3, 1) := dc_iload3 (dl_at 384 9 lb_12 rfl)
theorem dL_law_394 : decode cL_law 394 = .ok (.iconst 4, 1) := dc_iconst4 (dl_at 384 10 lb_12 rfl)
theorem dL_law_395 : decode cL_law 395 = .ok (.iadd, 1) := dc_iadd (dl_at 384 11 lb_12 rfl)
theorem dL_law_396 : decode cL_law 396 = .ok (.iaload, 1) := dc_iaload (dl_at 384 12 lb_12 rfl)
theorem dL_law_397 : decode cL_law 397 = .ok (.aload_n 0, 1) := dc_aload0 (dl_at 384 13 lb_12 rfl)
theorem dL_law_398 : decode cL_law 398 = .ok (.iload_n 3, 1) := dc_iload3 (dl_at 384 14 lb_12 rfl)
theorem dL_law_399 : decode cL_law 399 = .ok (.iconst 5, 1) := dc_iconst5 (dl_at 384 15 lb_12 rfl)
theorem dL_law_400 : decode cL_law 400 = .ok (.iadd, 1) := dc_iadd (dl_at 384 16 lb_12 rfl)
theorem dL_law_401 : decode cL_law 401 = .ok (.iaload, 1) := dc_iaload (dl_at 384 17 lb_12 rfl)
theorem dL_law_402 : decode cL_law 402 = .ok (.invokevirtual 32, 3) := dc_virt (a := 0) (b := 32) (dl_at 384 18 lb_12 rfl) (dl_at 384 19 lb_12 rfl) (dl_at 384 20 lb_12 rfl)
theorem dL_law_405 : decode cL_law 405 = .ok (.pop, 1) := dc_pop (dl_at 384 21 lb_12 rfl)
theorem dL_law_406 : decode cL_law 406 = .ok (.aload_n 2, 1) := dc_aload2 (dl_at 384 22 lb_12 rfl)
theorem dL_law_407 : decode cL_law 407 = .ok (.aload_n 0, 1) := dc_aload0 (dl_at 384 23 lb_12 rfl)
theorem dL_law_408 : decode cL_law 408 = .ok (.iload_n 3, 1) := dc_iload3 (dl_at 384 24 lb_12 rfl)
theorem dL_law_409 : decode cL_law 409 = .ok (.iconst 1, 1) := dc_iconst1 (dl_at 384 25 lb_12 rfl)
theorem dL_law_410 : decode cL_law 410 = .ok (.iadd, 1) := dc_iadd (dl_at 384 26 lb_12 rfl)
theorem dL_law_411 : decode cL_law 411 = .ok (.iaload, 1) := dc_iaload (dl_at 384 27 lb_12 rfl)
theorem dL_law_412 : decode cL_law 412 = .ok (.aload_n 0, 1) := dc_aload0 (dl_at 384 28 lb_12 rfl)
theorem dL_law_413 : decode cL_law 413 = .ok (.iload_n 3, 1) := dc_iload3 (dl_at 384 29 lb_12 rfl)
theorem dL_law_414 : decode cL_law 414 = .ok (.iconst 2, 1) := dc_iconst2 (dl_at 384 30 lb_12 rfl)
theorem dL_law_415 : decode cL_law 415 = .ok (.iadd, 1) := dc_iadd (dl_at 384 31 lb_12 rfl)
theorem dL_law_416 : decode cL_law 416 = .ok (.iaload, 1) := dc_iaload (dl_at 416 0 lb_13 rfl)
theorem dL_law_417 : decode cL_law 417 = .ok (.aload_n 0, 1) := dc_aload0 (dl_at 416 1 lb_13 rfl)
theorem dL_law_418 : decode cL_law 418 = .ok (.iload_n 3, 1) := dc_iload3 (dl_at 416 2 lb_13 rfl)
theorem dL_law_419 : decode cL_law 419 = .ok (.iconst 3, 1) := dc_iconst3 (dl_at 416 3 lb_13 rfl)
theorem dL_law_420 : decode cL_law 420 = .ok (.iadd, 1) := dc_iadd (dl_at 416 4 lb_13 rfl)
theorem dL_law_421 : decode cL_law 421 = .ok (.iaload, 1) := dc_iaload (dl_at 416 5 lb_13 rfl)
theorem dL_law_422 : decode cL_law 422 = .ok (.aload_n 0, 1) := dc_aload0 (dl_at 416 6 lb_13 rfl)
theorem dL_law_423 : decode cL_law 423 = .ok (.iload_n 3, 1) := dc_iload3 (dl_at 416 7 lb_13 rfl)
theorem dL_law_424 : decode cL_law 424 = .ok (.iconst 4, 1) := dc_iconst4 (dl_at 416 8 lb_13 rfl)
theorem dL_law_425 : decode cL_law 425 = .ok (.iadd, 1) := dc_iadd (dl_at 416 9 lb_13 rfl)
theorem dL_law_426 : decode cL_law 426 = .ok (.iaload, 1) := dc_iaload (dl_at 416 10 lb_13 rfl)
theorem dL_law_427 : decode cL_law 427 = .ok (.aload_n 0, 1) := dc_aload0 (dl_at 416 11 lb_13 rfl)
theorem dL_law_428 : decode cL_law 428 = .ok (.iload_n 3, 1) := dc_iload3 (dl_at 416 12 lb_13 rfl)
theorem dL_law_429 : decode cL_law 429 = .ok (.iconst 5, 1) := dc_iconst5 (dl_at 416 13 lb_13 rfl)
theorem dL_law_430 : decode cL_law 430 = .ok (.iadd, 1) := dc_iadd (dl_at 416 14 lb_13 rfl)
theorem dL_law_431 : decode cL_law 431 = .ok (.iaload, 1) := dc_iaload (dl_at 416 15 lb_13 rfl)
theorem dL_law_432 : decode cL_law 432 = .ok (.invokevirtual 36, 3) := dc_virt (a := 0) (b := 36) (dl_at 416 16 lb_13 rfl) (dl_at 416 17 lb_13 rfl) (dl_at 416 18 lb_13 rfl)
theorem dL_law_435 : decode cL_law 435 = .ok (.pop, 1) := dc_pop (dl_at 416 19 lb_13 rfl)
theorem dL_law_436 : decode cL_law 436 = .ok (.goto 1205, 3) := dc_goto (a := 4) (b := 181) (dl_at 416 20 lb_13 rfl) (dl_at 416 21 lb_13 rfl) (dl_at 416 22 lb_13 rfl) (by decide +kernel)
theorem dL_law_439 : decode cL_law 439 = .ok (.aload_n 1, 1) := dc_aload1 (dl_at 416 23 lb_13 rfl)
theorem dL_law_440 : decode cL_law 440 = .ok (.aload_n 0, 1) := dc_aload0 (dl_at 416 24 lb_13 rfl)
theorem dL_law_441 : decode cL_law 441 = .ok (.iload_n 3, 1) := dc_iload3 (dl_at 416 25 lb_13 rfl)
theorem dL_law_442 : decode cL_law 442 = .ok (.iconst 1, 1) := dc_iconst1 (dl_at 416 26 lb_13 rfl)
theorem dL_law_443 : decode cL_law 443 = .ok (.iadd, 1) := dc_iadd (dl_at 416 27 lb_13 rfl)
theorem dL_law_444 : decode cL_law 444 = .ok (.iaload, 1) := dc_iaload (dl_at 416 28 lb_13 rfl)
theorem dL_law_445 : decode cL_law 445 = .ok (.invokevirtual 37, 3) := dc_virt (a := 0) (b := 37) (dl_at 416 29 lb_13 rfl) (dl_at 416 30 lb_13 rfl) (dl_at 416 31 lb_13 rfl)
theorem dL_law_448 : decode cL_law 448 = .ok (.pop, 1) := dc_pop (dl_at 448 0 lb_14 rfl)
theorem dL_law_449 : decode cL_law 449 = .ok (.aload_n 2, 1) := dc_aload2 (dl_at 448 1 lb_14 rfl)
theorem dL_law_450 : decode cL_law 450 = .ok (.aload_n 0, 1) := dc_aload0 (dl_at 448 2 lb_14 rfl)
theorem dL_law_451 : decode cL_law 451 = .ok (.iload_n 3, 1) := dc_iload3 (dl_at 448 3 lb_14 rfl)
theorem dL_law_452 : decode cL_law 452 = .ok (.iconst 1, 1) := dc_iconst1 (dl_at 448 4 lb_14 rfl)
theorem dL_law_453 : decode cL_law 453 = .ok (.iadd, 1) := dc_iadd (dl_at 448 5 lb_14 rfl)
theorem dL_law_454 : decode cL_law 454 = .ok (.iaload, 1) := dc_iaload (dl_at 448 6 lb_14 rfl)
theorem dL_law_455 : decode cL_law 455 = .ok (.invokevirtual 40, 3) := dc_virt (a := 0) (b := 40) (dl_at 448 7 lb_14 rfl) (dl_at 448 8 lb_14 rfl) (dl_at 448 9 lb_14 rfl)
theorem dL_law_458 : decode cL_law 458 = .ok (.pop, 1) := dc_pop (dl_at 448 10 lb_14 rfl)
theorem dL_law_459 : decode cL_law 459 = .ok (.goto 1182, 3) := dc_goto (a := 4) (b := 158) (dl_at 448 11 lb_14 rfl) (dl_at 448 12 lb_14 rfl) (dl_at 448 13 lb_14 rfl) (by decide +kernel)
theorem dL_law_462 : decode cL_law 462 = .ok (.aload_n 1, 1) := dc_aload1 (dl_at 448 14 lb_14 rfl)
theorem dL_law_463 : decode cL_law 463 = .ok (.aload_n 0, 1) := dc_aload0 (dl_at 448 15 lb_14 rfl)
theorem dL_law_464 : decode cL_law 464 = .ok (.iload_n 3, 1) := dc_iload3 (dl_at 448 16 lb_14 rfl)
theorem dL_law_465 : decode cL_law 465 = .ok (.iconst 1, 1) := dc_iconst1 (dl_at 448 17 lb_14 rfl)
theorem dL_law_466 : decode cL_law 466 = .ok (.iadd, 1) := dc_iadd (dl_at 448 18 lb_14 rfl)
theorem dL_law_467 : decode cL_law 467 = .ok (.iaload, 1) := dc_iaload (dl_at 448 19 lb_14 rfl)
theorem dL_law_468 : decode cL_law 468 = .ok (.aload_n 0, 1) := dc_aload0 (dl_at 448 20 lb_14 rfl)
theorem dL_law_469 : decode cL_law 469 = .ok (.iload_n 3, 1) := dc_iload3 (dl_at 448 21 lb_14 rfl)
theorem dL_law_470 : decode cL_law 470 = .ok (.iconst 2, 1) := dc_iconst2 (dl_at 448 22 lb_14 rfl)
theorem dL_law_471 : decode cL_law 471 = .ok (.iadd, 1) := dc_iadd (dl_at 448 23 lb_14 rfl)
theorem dL_law_472 : decode cL_law 472 = .ok (.iaload, 1) := dc_iaload (dl_at 448 24 lb_14 rfl)
theorem dL_law_473 : decode cL_law 473 = .ok (.invokevirtual 41, 3) := dc_virt (a := 0) (b := 41) (dl_at 448 25 lb_14 rfl) (dl_at 448 26 lb_14 rfl) (dl_at 448 27 lb_14 rfl)
theorem dL_law_476 : decode cL_law 476 = .ok (.pop, 1) := dc_pop (dl_at 448 28 lb_14 rfl)
theorem dL_law_477 : decode cL_law 477 = .ok (.aload_n 2, 1) := dc_aload2 (dl_at 448 29 lb_14 rfl)
theorem dL_law_478 : decode cL_law 478 = .ok (.aload_n 0, 1) := dc_aload0 (dl_at 448 30 lb_14 rfl)
theorem dL_law_479 : decode cL_law 479 = .ok (.iload_n 3, 1) := dc_iload3 (dl_at 448 31 lb_14 rfl)
theorem dL_law_480 : decode cL_law 480 = .ok (.iconst 1, 1) := dc_iconst1 (dl_at 480 0 lb_15 rfl)
theorem dL_law_481 : decode cL_law 481 = .ok (.iadd, 1) := dc_iadd (dl_at 480 1 lb_15 rfl)
theorem dL_law_482 : decode cL_law 482 = .ok (.iaload, 1) := dc_iaload (dl_at 480 2 lb_15 rfl)
theorem dL_law_483 : decode cL_law 483 = .ok (.aload_n 0, 1) := dc_aload0 (dl_at 480 3 lb_15 rfl)
theorem dL_law_484 : decode cL_law 484 = .ok (.iload_n 3, 1) := dc_iload3 (dl_at 480 4 lb_15 rfl)
theorem dL_law_485 : decode cL_law 485 = .ok (.iconst 2, 1) := dc_iconst2 (dl_at 480 5 lb_15 rfl)
theorem dL_law_486 : decode cL_law 486 = .ok (.iadd, 1) := dc_iadd (dl_at 480 6 lb_15 rfl)
theorem dL_law_487 : decode cL_law 487 = .ok (.iaload, 1) := dc_iaload (dl_at 480 7 lb_15 rfl)
theorem dL_law_488 : decode cL_law 488 = .ok (.invokevirtual 44, 3) := dc_virt (a := 0) (b := 44) (dl_at 480 8 lb_15 rfl) (dl_at 480 9 lb_15 rfl) (dl_at 480 10 lb_15 rfl)
theorem dL_law_491 : decode cL_law 491 = .ok (.pop, 1) := dc_pop (dl_at 480 11 lb_15 rfl)
theorem dL_law_492 : decode cL_law 492 = .ok (.goto 1149, 3) := dc_goto (a := 4) (b := 125) (dl_at 480 12 lb_15 rfl) (dl_at 480 13 lb_15 rfl) (dl_at 480 14 lb_15 rfl) (by decide +kernel)
theorem dL_law_495 : decode cL_law 495 = .ok (.aload_n 1, 1) := dc_aload1 (dl_at 480 15 lb_15 rfl)
theorem dL_law_496 : decode cL_law 496 = .ok (.aload_n 0, 1) := dc_aload0 (dl_at 480 16 lb_15 rfl)
theorem dL_law_497 : decode cL_law 497 = .ok (.iload_n 3, 1) := dc_iload3 (dl_at 480 17 lb_15 rfl)
theorem dL_law_498 : decode cL_law 498 = .ok (.iconst 1, 1) := dc_iconst1 (dl_at 480 18 lb_15 rfl)
theorem dL_law_499 : decode cL_law 499 = .ok (.iadd, 1) := dc_iadd (dl_at 480 19 lb_15 rfl)
theorem dL_law_500 : decode cL_law 500 = .ok (.iaload, 1) := dc_iaload (dl_at 480 20 lb_15 rfl)
theorem dL_law_501 : decode cL_law 501 = .ok (.aload_n 0, 1) := dc_aload0 (dl_at 480 21 lb_15 rfl)
theorem dL_law_502 : decode cL_law 502 = .ok (.iload_n 3, 1) := dc_iload3 (dl_at 480 22 lb_15 rfl)
theorem dL_law_503 : decode cL_law 503 = .ok (.iconst 2, 1) := dc_iconst2 (dl_at 480 23 lb_15 rfl)
theorem dL_law_504 : decode cL_law 504 = .ok (.iadd, 1) := dc_iadd (dl_at 480 24 lb_15 rfl)
theorem dL_law_505 : decode cL_law 505 = .ok (.iaload, 1) := dc_iaload (dl_at 480 25 lb_15 rfl)
theorem dL_law_506 : decode cL_law 506 = .ok (.aload_n 0, 1) := dc_aload0 (dl_at 480 26 lb_15 rfl)
theorem dL_law_507 : decode cL_law 507 = .ok (.iload_n 3, 1) := dc_iload3 (dl_at 480 27 lb_15 rfl)
theorem dL_law_508 : decode cL_law 508 = .ok (.iconst 3, 1) := dc_iconst3 (dl_at 480 28 lb_15 rfl)
theorem dL_law_509 : decode cL_law 509 = .ok (.iadd, 1) := dc_iadd (dl_at 480 29 lb_15 rfl)
theorem dL_law_510 : decode cL_law 510 = .ok (.iaload, 1) := dc_iaload (dl_at 480 30 lb_15 rfl)
theorem dL_law_511 : decode cL_law 511 = .ok (.invokevirtual 45, 3) := dc_virt (a := 0) (b := 45) (dl_at 480 31 lb_15 rfl) (dl_at 512 0 lb_16 rfl) (dl_at 512 1 lb_16 rfl)
theorem dL_law_514 : decode cL_law 514 = .ok (.pop, 1) := dc_pop (dl_at 512 2 lb_16 rfl)
theorem dL_law_515 : decode cL_law 515 = .ok (.aload_n 2, 1) := dc_aload2 (dl_at 512 3 lb_16 rfl)
theorem dL_law_516 : decode cL_law 516 = .ok (.aload_n 0, 1) := dc_aload0 (dl_at 512 4 lb_16 rfl)
theorem dL_law_517 : decode cL_law 517 = .ok (.iload_n 3, 1) := dc_iload3 (dl_at 512 5 lb_16 rfl)
theorem dL_law_518 : decode cL_law 518 = .ok (.iconst 1, 1) := dc_iconst1 (dl_at 512 6 lb_16 rfl)
theorem dL_law_519 : decode cL_law 519 = .ok (.iadd, 1) := dc_iadd (dl_at 512 7 lb_16 rfl)
theorem dL_law_520 : decode cL_law 520 = .ok (.iaload, 1) := dc_iaload (dl_at 512 8 lb_16 rfl)
theorem dL_law_521 : decode cL_law 521 = .ok (.aload_n 0, 1) := dc_aload0 (dl_at 512 9 lb_16 rfl)
theorem dL_law_522 : decode cL_law 522 = .ok (.iload_n 3, 1) := dc_iload3 (dl_at 512 10 lb_16 rfl)
theorem dL_law_523 : decode cL_law 523 = .ok (.iconst 2, 1) := dc_iconst2 (dl_at 512 11 lb_16 rfl)
theorem dL_law_524 : decode cL_law 524 = .ok (.iadd, 1) := dc_iadd (dl_at 512 12 lb_16 rfl)
theorem dL_law_525 : decode cL_law 525 = .ok (.iaload, 1) := dc_iaload (dl_at 512 13 lb_16 rfl)
theorem dL_law_526 : decode cL_law 526 = .ok (.aload_n 0, 1) := dc_aload0 (dl_at 512 14 lb_16 rfl)
theorem dL_law_527 : decode cL_law 527 = .ok (.iload_n 3, 1) := dc_iload3 (dl_at 512 15 lb_16 rfl)
theorem dL_law_528 : decode cL_law 528 = .ok (.iconst 3, 1) := dc_iconst3 (dl_at 512 16 lb_16 rfl)
theorem dL_law_529 : decode cL_law 529 = .ok (.iadd, 1) := dc_iadd (dl_at 512 17 lb_16 rfl)
theorem dL_law_530 : decode cL_law 530 = .ok (.iaload, 1) := dc_iaload (dl_at 512 18 lb_16 rfl)
theorem dL_law_531 : decode cL_law 531 = .ok (.invokevirtual 48, 3) := dc_virt (a := 0) (b := 48) (dl_at 512 19 lb_16 rfl) (dl_at 512 20 lb_16 rfl) (dl_at 512 21 lb_16 rfl)
theorem dL_law_534 : decode cL_law 534 = .ok (.pop, 1) := dc_pop (dl_at 512 22 lb_16 rfl)
theorem dL_law_535 : decode cL_law 535 = .ok (.goto 1106, 3) := dc_goto (a := 4) (b := 82) (dl_at 512 23 lb_16 rfl) (dl_at 512 24 lb_16 rfl) (dl_at 512 25 lb_16 rfl) (by decide +kernel)
theorem dL_law_538 : decode cL_law 538 = .ok (.aload_n 1, 1) := dc_aload1 (dl_at 512 26 lb_16 rfl)
theorem dL_law_539 : decode cL_law 539 = .ok (.aload_n 0, 1) := dc_aload0 (dl_at 512 27 lb_16 rfl)
theorem dL_law_540 : decode cL_law 540 = .ok (.iload_n 3, 1) := dc_iload3 (dl_at 512 28 lb_16 rfl)
theorem dL_law_541 : decode cL_law 541 = .ok (.iconst 1, 1) := dc_iconst1 (dl_at 512 29 lb_16 rfl)
theorem dL_law_542 : decode cL_law 542 = .ok (.iadd, 1) := dc_iadd (dl_at 512 30 lb_16 rfl)
theorem dL_law_543 : decode cL_law 543 = .ok (.iaload, 1) := dc_iaload (dl_at 512 31 lb_16 rfl)
theorem dL_law_544 : decode cL_law 544 = .ok (.invokevirtual 49, 3) := dc_virt (a := 0) (b := 49) (dl_at 544 0 lb_17 rfl) (dl_at 544 1 lb_17 rfl) (dl_at 544 2 lb_17 rfl)
theorem dL_law_547 : decode cL_law 547 = .ok (.pop, 1) := dc_pop (dl_at 544 3 lb_17 rfl)
theorem dL_law_548 : decode cL_law 548 = .ok (.aload_n 2, 1) := dc_aload2 (dl_at 544 4 lb_17 rfl)
theorem dL_law_549 : decode cL_law 549 = .ok (.aload_n 0, 1) := dc_aload0 (dl_at 544 5 lb_17 rfl)
theorem dL_law_550 : decode cL_law 550 = .ok (.iload_n 3, 1) := dc_iload3 (dl_at 544 6 lb_17 rfl)
theorem dL_law_551 : decode cL_law 551 = .ok (.iconst 1, 1) := dc_iconst1 (dl_at 544 7 lb_17 rfl)
theorem dL_law_552 : decode cL_law 552 = .ok (.iadd, 1) := dc_iadd (dl_at 544 8 lb_17 rfl)
theorem dL_law_553 : decode cL_law 553 = .ok (.iaload, 1) := dc_iaload (dl_at 544 9 lb_17 rfl)
theorem dL_law_554 : decode cL_law 554 = .ok (.invokevirtual 52, 3) := dc_virt (a := 0) (b := 52) (dl_at 544 10 lb_17 rfl) (dl_at 544 11 lb_17 rfl) (dl_at 544 12 lb_17 rfl)
theorem dL_law_557 : decode cL_law 557 = .ok (.pop, 1) := dc_pop (dl_at 544 13 lb_17 rfl)
theorem dL_law_558 : decode cL_law 558 = .ok (.goto 1083, 3) := dc_goto (a := 4) (b := 59) (dl_at 544 14 lb_17 rfl) (dl_at 544 15 lb_17 rfl) (dl_at 544 16 lb_17 rfl) (by decide +kernel)
theorem dL_law_561 : decode cL_law 561 = .ok (.aload_n 1, 1) := dc_aload1 (dl_at 544 17 lb_17 rfl)
theorem dL_law_562 : decode cL_law 562 = .ok (.aload_n 0, 1) := dc_aload0 (dl_at 544 18 lb_17 rfl)
theorem dL_law_563 : decode cL_law 563 = .ok (.iload_n 3, 1) := dc_iload3 (dl_at 544 19 lb_17 rfl)
theorem dL_law_564 : decode cL_law 564 = .ok (.iconst 1, 1) := dc_iconst1 (dl_at 544 20 lb_17 rfl)
theorem dL_law_565 : decode cL_law 565 = .ok (.iadd, 1) := dc_iadd (dl_at 544 21 lb_17 rfl)
theorem dL_law_566 : decode cL_law 566 = .ok (.iaload, 1) := dc_iaload (dl_at 544 22 lb_17 rfl)
theorem dL_law_567 : decode cL_law 567 = .ok (.invokevirtual 53, 3) := dc_virt (a := 0) (b := 53) (dl_at 544 23 lb_17 rfl) (dl_at 544 24 lb_17 rfl) (dl_at 544 25 lb_17 rfl)
theorem dL_law_570 : decode cL_law 570 = .ok (.pop, 1) := dc_pop (dl_at 544 26 lb_17 rfl)
theorem dL_law_571 : decode cL_law 571 = .ok (.aload_n 2, 1) := dc_aload2 (dl_at 544 27 lb_17 rfl)
theorem dL_law_572 : decode cL_law 572 = .ok (.aload_n 0, 1) := dc_aload0 (dl_at 544 28 lb_17 rfl)
theorem dL_law_573 : decode cL_law 573 = .ok (.iload_n 3, 1) := dc_iload3 (dl_at 544 29 lb_17 rfl)
theorem dL_law_574 : decode cL_law 574 = .ok (.iconst 1, 1) := dc_iconst1 (dl_at 544 30 lb_17 rfl)
theorem dL_law_575 : decode cL_law 575 = .ok (.iadd, 1) := dc_iadd (dl_at 544 31 lb_17 rfl)
theorem dL_law_576 : decode cL_law 576 = .ok (.iaload, 1) := dc_iaload (dl_at 576 0 lb_18 rfl)
theorem dL_law_577 : decode cL_law 577 = .ok (.invokevirtual 56, 3) := dc_virt (a := 0) (b := 56) (dl_at 576 1 lb_18 rfl) (dl_at 576 2 lb_18 rfl) (dl_at 576 3 lb_18 rfl)
theorem dL_law_580 : decode cL_law 580 = .ok (.pop, 1) := dc_pop (dl_at 576 4 lb_18 rfl)
theorem dL_law_581 : decode cL_law 581 = .ok (.goto 1060, 3) := dc_goto (a := 4) (b := 36) (dl_at 576 5 lb_18 rfl) (dl_at 576 6 lb_18 rfl) (dl_at 576 7 lb_18 rfl) (by decide +kernel)
theorem dL_law_584 : decode cL_law 584 = .ok (.aload_n 1, 1) := dc_aload1 (dl_at 576 8 lb_18 rfl)
theorem dL_law_585 : decode cL_law 585 = .ok (.aload_n 0, 1) := dc_aload0 (dl_at 576 9 lb_18 rfl)
theorem dL_law_586 : decode cL_law 586 = .ok (.iload_n 3, 1) := dc_iload3 (dl_at 576 10 lb_18 rfl)
theorem dL_law_587 : decode cL_law 587 = .ok (.iconst 1, 1) := dc_iconst1 (dl_at 576 11 lb_18 rfl)
theorem dL_law_588 : decode cL_law 588 = .ok (.iadd, 1) := dc_iadd (dl_at 576 12 lb_18 rfl)
theorem dL_law_589 : decode cL_law 589 = .ok (.iaload, 1) := dc_iaload (dl_at 576 13 lb_18 rfl)
theorem dL_law_590 : decode cL_law 590 = .ok (.aload_n 0, 1) := dc_aload0 (dl_at 576 14 lb_18 rfl)
theorem dL_law_591 : decode cL_law 591 = .ok (.iload_n 3, 1) := dc_iload3 (dl_at 576 15 lb_18 rfl)
theorem dL_law_592 : decode cL_law 592 = .ok (.iconst 2, 1) := dc_iconst2 (dl_at 576 16 lb_18 rfl)
theorem dL_law_593 : decode cL_law 593 = .ok (.iadd, 1) := dc_iadd (dl_at 576 17 lb_18 rfl)
theorem dL_law_594 : decode cL_law 594 = .ok (.iaload, 1) := dc_iaload (dl_at 576 18 lb_18 rfl)
theorem dL_law_595 : decode cL_law 595 = .ok (.invokevirtual 57, 3) := dc_virt (a := 0) (b := 57) (dl_at 576 19 lb_18 rfl) (dl_at 576 20 lb_18 rfl) (dl_at 576 21 lb_18 rfl)
theorem dL_law_598 : decode cL_law 598 = .ok (.pop, 1) := dc_pop (dl_at 576 22 lb_18 rfl)
theorem dL_law_599 : decode cL_law 599 = .ok (.aload_n 2, 1) := dc_aload2 (dl_at 576 23 lb_18 rfl)
theorem dL_law_600 : decode cL_law 600 = .ok (.aload_n 0, 1) := dc_aload0 (dl_at 576 24 lb_18 rfl)
theorem dL_law_601 : decode cL_law 601 = .ok (.iload_n 3, 1) := dc_iload3 (dl_at 576 25 lb_18 rfl)
theorem dL_law_602 : decode cL_law 602 = .ok (.iconst 1, 1) := dc_iconst1 (dl_at 576 26 lb_18 rfl)
theorem dL_law_603 : decode cL_law 603 = .ok (.iadd, 1) := dc_iadd (dl_at 576 27 lb_18 rfl)
theorem dL_law_604 : decode cL_law 604 = .ok (.iaload, 1) := dc_iaload (dl_at 576 28 lb_18 rfl)
theorem dL_law_605 : decode cL_law 605 = .ok (.aload_n 0, 1) := dc_aload0 (dl_at 576 29 lb_18 rfl)
theorem dL_law_606 : decode cL_law 606 = .ok (.iload_n 3, 1) := dc_iload3 (dl_at 576 30 lb_18 rfl)
theorem dL_law_607 : decode cL_law 607 = .ok (.iconst 2, 1) := dc_iconst2 (dl_at 576 31 lb_18 rfl)
theorem dL_law_608 : decode cL_law 608 = .ok (.iadd, 1) := dc_iadd (dl_at 608 0 lb_19 rfl)
theorem dL_law_609 : decode cL_law 609 = .ok (.iaload, 1) := dc_iaload (dl_at 608 1 lb_19 rfl)
theorem dL_law_610 : decode cL_law 610 = .ok (.invokevirtual 60, 3) := dc_virt (a := 0) (b := 60) (dl_at 608 2 lb_19 rfl) (dl_at 608 3 lb_19 rfl) (dl_at 608 4 lb_19 rfl)
theorem dL_law_613 : decode cL_law 613 = .ok (.pop, 1) := dc_pop (dl_at 608 5 lb_19 rfl)
theorem dL_law_614 : decode cL_law 614 = .ok (.goto 1027, 3) := dc_goto (a := 4) (b := 3) (dl_at 608 6 lb_19 rfl) (dl_at 608 7 lb_19 rfl) (dl_at 608 8 lb_19 rfl) (by decide +kernel)
theorem dL_law_617 : decode cL_law 617 = .ok (.aload_n 1, 1) := dc_aload1 (dl_at 608 9 lb_19 rfl)
theorem dL_law_618 : decode cL_law 618 = .ok (.aload_n 0, 1) := dc_aload0 (dl_at 608 10 lb_19 rfl)
theorem dL_law_619 : decode cL_law 619 = .ok (.iload_n 3, 1) := dc_iload3 (dl_at 608 11 lb_19 rfl)
theorem dL_law_620 : decode cL_law 620 = .ok (.iconst 1, 1) := dc_iconst1 (dl_at 608 12 lb_19 rfl)
theorem dL_law_621 : decode cL_law 621 = .ok (.iadd, 1) := dc_iadd (dl_at 608 13 lb_19 rfl)
theorem dL_law_622 : decode cL_law 622 = .ok (.iaload, 1) := dc_iaload (dl_at 608 14 lb_19 rfl)
theorem dL_law_623 : decode cL_law 623 = .ok (.aload_n 0, 1) := dc_aload0 (dl_at 608 15 lb_19 rfl)
theorem dL_law_624 : decode cL_law 624 = .ok (.iload_n 3, 1) := dc_iload3 (dl_at 608 16 lb_19 rfl)
theorem dL_law_625 : decode cL_law 625 = .ok (.iconst 2, 1) := dc_iconst2 (dl_at 608 17 lb_19 rfl)
theorem dL_law_626 : decode cL_law 626 = .ok (.iadd, 1) := dc_iadd (dl_at 608 18 lb_19 rfl)
theorem dL_law_627 : decode cL_law 627 = .ok (.iaload, 1) := dc_iaload (dl_at 608 19 lb_19 rfl)
theorem dL_law_628 : decode cL_law 628 = .ok (.invokevirtual 61, 3) := dc_virt (a := 0) (b := 61) (dl_at 608 20 lb_19 rfl) (dl_at 608 21 lb_19 rfl) (dl_at 608 22 lb_19 rfl)
theorem dL_law_631 : decode cL_law 631 = .ok (.pop, 1) := dc_pop (dl_at 608 23 lb_19 rfl)
theorem dL_law_632 : decode cL_law 632 = .ok (.aload_n 2, 1) := dc_aload2 (dl_at 608 24 lb_19 rfl)
theorem dL_law_633 : decode cL_law 633 = .ok (.aload_n 0, 1) := dc_aload0 (dl_at 608 25 lb_19 rfl)
theorem dL_law_634 : decode cL_law 634 = .ok (.iload_n 3, 1) := dc_iload3 (dl_at 608 26 lb_19 rfl)
theorem dL_law_635 : decode cL_law 635 = .ok (.iconst 1, 1) := dc_iconst1 (dl_at 608 27 lb_19 rfl)
theorem dL_law_636 : decode cL_law 636 = .ok (.iadd, 1) := dc_iadd (dl_at 608 28 lb_19 rfl)
theorem dL_law_637 : decode cL_law 637 = .ok (.iaload, 1) := dc_iaload (dl_at 608 29 lb_19 rfl)
theorem dL_law_638 : decode cL_law 638 = .ok (.aload_n 0, 1) := dc_aload0 (dl_at 608 30 lb_19 rfl)
theorem dL_law_639 : decode cL_law 639 = .ok (.iload_n 3, 1) := dc_iload3 (dl_at 608 31 lb_19 rfl)
theorem dL_law_640 : decode cL_law 640 = .ok (.iconst 2, 1) := dc_iconst2 (dl_at 640 0 lb_20 rfl)
theorem dL_law_641 : decode cL_law 641 = .ok (.iadd, 1) := dc_iadd (dl_at 640 1 lb_20 rfl)
theorem dL_law_642 : decode cL_law 642 = .ok (.iaload, 1) := dc_iaload (dl_at 640 2 lb_20 rfl)
theorem dL_law_643 : decode cL_law 643 = .ok (.invokevirtual 64, 3) := dc_virt (a := 0) (b := 64) (dl_at 640 3 lb_20 rfl) (dl_at 640 4 lb_20 rfl) (dl_at 640 5 lb_20 rfl)
theorem dL_law_646 : decode cL_law 646 = .ok (.pop, 1) := dc_pop (dl_at 640 6 lb_20 rfl)
theorem dL_law_647 : decode cL_law 647 = .ok (.goto 994, 3) := dc_goto (a := 3) (b := 226) (dl_at 640 7 lb_20 rfl) (dl_at 640 8 lb_20 rfl) (dl_at 640 9 lb_20 rfl) (by decide +kernel)
theorem dL_law_650 : decode cL_law 650 = .ok (.aload_n 1, 1) := dc_aload1 (dl_at 640 10 lb_20 rfl)
theorem dL_law_651 : decode cL_law 651 = .ok (.aload_n 0, 1) := dc_aload0 (dl_at 640 11 lb_20 rfl)
theorem dL_law_652 : decode cL_law 652 = .ok (.iload_n 3, 1) := dc_iload3 (dl_at 640 12 lb_20 rfl)
theorem dL_law_653 : decode cL_law 653 = .ok (.iconst 1, 1) := dc_iconst1 (dl_at 640 13 lb_20 rfl)
theorem dL_law_654 : decode cL_law 654 = .ok (.iadd, 1) := dc_iadd (dl_at 640 14 lb_20 rfl)
theorem dL_law_655 : decode cL_law 655 = .ok (.iaload, 1) := dc_iaload (dl_at 640 15 lb_20 rfl)
theorem dL_law_656 : decode cL_law 656 = .ok (.aload_n 0, 1) := dc_aload0 (dl_at 640 16 lb_20 rfl)
theorem dL_law_657 : decode cL_law 657 = .ok (.iload_n 3, 1) := dc_iload3 (dl_at 640 17 lb_20 rfl)
theorem dL_law_658 : decode cL_law 658 = .ok (.iconst 2, 1) := dc_iconst2 (dl_at 640 18 lb_20 rfl)
theorem dL_law_659 : decode cL_law 659 = .ok (.iadd, 1) := dc_iadd (dl_at 640 19 lb_20 rfl)
theorem dL_law_660 : decode cL_law 660 = .ok (.iaload, 1) := dc_iaload (dl_at 640 20 lb_20 rfl)
theorem dL_law_661 : decode cL_law 661 = .ok (.invokevirtual 65, 3) := dc_virt (a := 0) (b := 65) (dl_at 640 21 lb_20 rfl) (dl_at 640 22 lb_20 rfl) (dl_at 640 23 lb_20 rfl)
theorem dL_law_664 : decode cL_law 664 = .ok (.pop, 1) := dc_pop (dl_at 640 24 lb_20 rfl)
theorem dL_law_665 : decode cL_law 665 = .ok (.aload_n 2, 1) := dc_aload2 (dl_at 640 25 lb_20 rfl)
theorem dL_law_666 : decode cL_law 666 = .ok (.aload_n 0, 1) := dc_aload0 (dl_at 640 26 lb_20 rfl)
theorem dL_law_667 : decode cL_law 667 = .ok (.iload_n 3, 1) := dc_iload3 (dl_at 640 27 lb_20 rfl)
theorem dL_law_668 : decode cL_law 668 = .ok (.iconst 1, 1) := dc_iconst1 (dl_at 640 28 lb_20 rfl)
theorem dL_law_669 : decode cL_law 669 = .ok (.iadd, 1) := dc_iadd (dl_at 640 29 lb_20 rfl)
theorem dL_law_670 : decode cL_law 670 = .ok (.iaload, 1) := dc_iaload (dl_at 640 30 lb_20 rfl)
theorem dL_law_671 : decode cL_law 671 = .ok (.aload_n 0, 1) := dc_aload0 (dl_at 640 31 lb_20 rfl)
theorem dL_law_672 : decode cL_law 672 = .ok (.iload_n 3, 1) := dc_iload3 (dl_at 672 0 lb_21 rfl)
theorem dL_law_673 : decode cL_law 673 = .ok (.iconst 2, 1) := dc_iconst2 (dl_at 672 1 lb_21 rfl)
theorem dL_law_674 : decode cL_law 674 = .ok (.iadd, 1) := dc_iadd (dl_at 672 2 lb_21 rfl)
theorem dL_law_675 : decode cL_law 675 = .ok (.iaload, 1) := dc_iaload (dl_at 672 3 lb_21 rfl)
theorem dL_law_676 : decode cL_law 676 = .ok (.invokevirtual 68, 3) := dc_virt (a := 0) (b := 68) (dl_at 672 4 lb_21 rfl) (dl_at 672 5 lb_21 rfl) (dl_at 672 6 lb_21 rfl)
theorem dL_law_679 : decode cL_law 679 = .ok (.pop, 1) := dc_pop (dl_at 672 7 lb_21 rfl)
theorem dL_law_680 : decode cL_law 680 = .ok (.goto 961, 3) := dc_goto (a := 3) (b := 193) (dl_at 672 8 lb_21 rfl) (dl_at 672 9 lb_21 rfl) (dl_at 672 10 lb_21 rfl) (by decide +kernel)
