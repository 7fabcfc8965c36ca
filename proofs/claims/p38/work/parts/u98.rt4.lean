-- ===== routes: a walk from its start; letters; the methods =====
theorem link_loop {s : Int32} {mum : Nat → Nat → Int32} (hb : 0 ≤ (mum 0 8).toInt ∧ (mum 0 8).toInt ≤ 7) (hp : 0 ≤ (mum 0 11).toInt ∧ (mum 0 11).toInt ≤ 12) (hs : s = mum 0 13) : ∀ (n : Nat) (i : Int32) (nu : Nat → Nat → Int32), simK nu mum → 0 ≤ i.toInt → i.toInt ≤ 7 → (7 - i.toInt).toNat < n → (∀ k : Nat, k ≠ 52 → L_sx_linkUnder_2_0 s n i nu k = nu k) ∧ (∀ j : Nat, (j : Int) < i.toInt → L_sx_linkUnder_2_0 s n i nu 52 j = nu 52 j) ∧ ∀ j : Nat, i.toInt ≤ (j : Int) → (j : Int) < (mum 0 8).toInt → L_sx_linkUnder_2_0 s n i nu 52 j = F_sm_besideOf mum (nI j) := by
  intro n
  induction n with
  | zero => intro i nu _ _ _ hn; exact absurd hn (Nat.not_lt_zero _)
  | succ n ih =>
    intro i nu hK h0 h7 hn
    obtain ⟨z, ez⟩ : ∃ z, z = L_sx_linkUnder_2_0 s (n + 1) i nu := ⟨_, rfl⟩
    rw [← ez]
    unfold L_sx_linkUnder_2_0 at ez
    obtain ⟨y1, e1, ez⟩ := letv_out ez
    rw [← e1, hK.1] at ez
    by_cases c : i ≥ mum 0 8
    · rw [if_pos c] at ez
      have := vv_ge.mp c
      rw [ez]
      exact ⟨fun _ _ => rfl, fun _ _ => rfl, fun j h1 h2 => by omega⟩
    · rw [if_neg c] at ez
      have c' : ¬ (mum 0 8).toInt ≤ i.toInt := fun e => c (vv_ge.mpr e)
      obtain ⟨r3, e3, ez⟩ := letv_out ez
      obtain ⟨n4, e4, ez⟩ := letv_out ez
      obtain ⟨w, ew, ez⟩ := letv_out ez
      have i1 : (i + 1).toInt = i.toInt + 1 := vp1 (by omega)
      have hci := tC_of h0
      rw [← ew] at ez
      rw [near_eq hK hp hs] at e3
      have k4 : ∀ k : Nat, k ≠ 52 → n4 k = nu k := uw_k e4
      have hK4 : simK n4 mum := by
        unfold simK
        rw [k4 4 (by decide), k4 34 (by decide), k4 35 (by decide), k4 36 (by decide)]
        exact hK
      obtain ⟨a1, a2, a3⟩ := ih (i + 1) n4 hK4 (by omega) (by omega) (by omega)
      rw [ez]
      refine ⟨fun k hk => (a1 k hk).trans (k4 k hk), fun j hj => ?_, fun j h1 h2 => ?_⟩
      · rw [a2 j (by omega)]
        exact uw_f e4 j (by omega)
      · by_cases e : (j : Int) = i.toInt
        · rw [a2 j (by omega)]
          have ej : j = i.toNatClampNeg := by omega
          rw [ej, uw_v e4, ← e3, ← nI_at h0]
        · exact a3 j (by omega) h2
theorem lookF {mux mum xi : Nat → Nat → Int32} {x y p : Int32} (bd : bdM mum) (hC : core mux mum) (h : xi = F_sx_lookFrom mux x y p) : (∀ k : Nat, k ≠ 32 → k ≠ 52 → k ≠ 53 → xi k = mux k) ∧ (∀ f : Nat, f ≠ 5 → f ≠ 6 → f ≠ 7 → xi 32 f = mux 32 f) ∧ (xi 32 5 = x ∧ xi 32 6 = y ∧ xi 32 7 = p) ∧ (∀ j : Nat, j < 7 → xi 53 j = mux 46 j) ∧ ∀ j : Nat, (j : Int) < (mum 0 8).toInt → xi 52 j = F_sm_besideOf mum (nI j) := by
  unfold F_sx_lookFrom at h
  obtain ⟨n1, e1, h⟩ := letv_out h
  obtain ⟨n4, e4, h⟩ := letv_out h
  obtain ⟨n8, e8, h⟩ := letv_out h
  obtain ⟨n13, e13, h⟩ := letv_out h
  obtain ⟨y18, e18, h⟩ := letv_out h
  obtain ⟨x19, e19, h⟩ := letv_out h
  have k13 : ∀ k : Nat, k ≠ 32 → k ≠ 53 → n13 k = mux k := fun k h1 h2 => by rw [uw_k e13 k h2, uw_k e8 k h1, uw_k e4 k h1, uw_k e1 k h1]
  have v32 : n13 32 = n8 32 := uw_k e13 32 (by decide)
  have hK := hC.1
  have hs : y18 = mum 0 13 := by rw [← e18, k13 5 (by decide) (by decide)]; exact hC.2.2.1.1
  have hK13 : simK n13 mum := by
    unfold simK
    rw [k13 4 (by decide) (by decide), k13 34 (by decide) (by decide), k13 35 (by decide) (by decide), k13 36 (by decide) (by decide)]
    exact hK
  obtain ⟨a1, a2, a3⟩ := link_loop bd.1 bd.2.1 hs 10 0 n13 hK13 (by decide) (by decide) (by decide)
  have ex : xi = L_sx_linkUnder_2_0 y18 10 0 n13 := by rw [h, ← e19]; rfl
  rw [ex]
  have v53 : ∀ j : Nat, j < 7 → n13 53 j = mux 46 j := fun j hj => by
    have z0 : (0 : Int32).toNatClampNeg = 0 := rfl
    have z7 : (7 : Int32).toNatClampNeg = 7 := rfl
    rw [← e13, up_eq, z0, z7]
    have e46 : n8 46 = mux 46 := by rw [uw_k e8 46 (by decide), uw_k e4 46 (by decide), uw_k e1 46 (by decide)]
    rw [e46]
    simp [va_cpy, hj]
  refine ⟨fun k h1 h2 h3 => (a1 k h2).trans (k13 k h1 h3), fun f h1 h2 h3 => ?_, ⟨?_, ?_, ?_⟩, fun j hj => ?_, fun j hj => a3 j (by show (0 : Int) ≤ _; omega) hj⟩
  · rw [a1 32 (by decide), v32, uw_f e8 f h3, uw_f e4 f h2, uw_f e1 f h1]
  · rw [a1 32 (by decide), v32, uw_f e8 5 (by decide), uw_f e4 5 (by decide), uw_v e1]
  · rw [a1 32 (by decide), v32, uw_f e8 6 (by decide), uw_v e4]
  · rw [a1 32 (by decide), v32, uw_v e8]
  · rw [a1 53 (by decide)]
    exact v53 j hj
def letV (vk : Int32) (nux num : Nat → Nat → Int32) : Prop := ∃ W0 : Int, W0 ≤ 3000 ∧ ((0 ≤ W0 ∧ (nux 32 8).toInt = W0) ∨ (W0 < 0 ∧ (nux 32 8).toInt = 0)) ∧ (0 ≤ (nux 32 9).toInt ∧ (nux 32 9).toInt ≤ 9) ∧ F_sm_letterOf num vk 3 = nux 32 9 ∧ nux 32 10 = (if F_sm_letterOf num vk 8 = num 0 14 then 1 else 0) ∧ ∀ L : Int32, 0 ≤ L.toInt → L.toInt ≤ 7 → ((0 ≤ W0 - (nux 32 9).toInt * L.toInt ∧ (F_sm_worthIn num vk L).toInt = W0 - (nux 32 9).toInt * L.toInt) ∨ (W0 - (nux 32 9).toInt * L.toInt < 0 ∧ (F_sm_worthIn num vk L).toInt = 0))
/-- all walks from a start -/
theorem start {T : Int} {nux num xi1 xi2 : Nat → Nat → Int32} {vk vf vg vp : Int32} (hT : T ≤ 1000000) (hB : nux 4 6 = num 0 8) (hb : 0 ≤ (num 0 8).toInt ∧ (num 0 8).toInt ≤ 7) (hx : ∀ x : Nat, x < (num 0 8).toNatClampNeg → nux 34 x = num 7 x ∧ nux 52 x = F_sm_besideOf num (nI x) ∧ nux 53 x = num 8 x ∧ 0 ≤ (num 8 x).toInt ∧ (num 8 x).toInt ≤ T) (hg : nux 32 6 = vg) (hpc : ¬ num 0 38 = 0) (hf : nux 32 5 = vf) (hfr : 0 ≤ vf.toInt ∧ vf.toInt < (num 0 8).toInt) (hpd : nux 32 7 = vp) (hpr : 0 ≤ vp.toInt ∧ vp.toInt ≤ T) (hl : vk = -9 ∨ (¬ vk = -9 ∧ letV vk nux num)) (h1 : xi1 = F_sx_walkAll nux) (h2 : xi2 = F_sm_setRoutes num vk vf vg vp) : fixX nux xi1 ∧ ((∀ k : Nat, k ≠ 0 → k ≠ 16 → k ≠ 17 → k ≠ 18 → xi2 k = num k) ∧ (∀ f : Nat, f < 29 ∨ f = 38 → xi2 0 f = num 0 f)) ∧ xi2 0 39 = vk ∧ rel 137256 xi1 xi2 := by
  unfold F_sx_walkAll at h1
  obtain ⟨n1, e1, h1⟩ := letv_out h1
  obtain ⟨n4, e4, h1⟩ := letv_out h1
  obtain ⟨n8, e8, h1⟩ := letv_out h1
  obtain ⟨n13, e13, h1⟩ := letv_out h1
  obtain ⟨n19, e19, h1⟩ := letv_out h1
  obtain ⟨n26, e26, h1⟩ := letv_out h1
  obtain ⟨y34, e34, h1⟩ := letv_out h1
  obtain ⟨n35, e35, h1⟩ := letv_out h1
  obtain ⟨t44, e44, h1⟩ := letv_out h1
  obtain ⟨y45, e45, h1⟩ := letv_out h1
  obtain ⟨x46, e46, h1⟩ := letv_out h1
  unfold F_sm_setRoutes at h2
  obtain ⟨_, _, h2⟩ := letv_out h2
  obtain ⟨_, _, h2⟩ := letv_out h2
  obtain ⟨_, _, h2⟩ := letv_out h2
  obtain ⟨m4, d4, h2⟩ := letv_out h2
  obtain ⟨m9, d9, h2⟩ := letv_out h2
  obtain ⟨m15, d15, h2⟩ := letv_out h2
  obtain ⟨m22, d22, h2⟩ := letv_out h2
  obtain ⟨m30, d30, h2⟩ := letv_out h2
  obtain ⟨m39, d39, h2⟩ := letv_out h2
  obtain ⟨m48, d48, h2⟩ := letv_out h2
  obtain ⟨m58, d58, h2⟩ := letv_out h2
  obtain ⟨m68, d68, h2⟩ := letv_out h2
  obtain ⟨m79, d79, h2⟩ := letv_out h2
  obtain ⟨m91, d91, h2⟩ := letv_out h2
  obtain ⟨t103, d103, h2⟩ := letv_out h2
  obtain ⟨x107, d107, h2⟩ := letv_out h2
  obtain ⟨_, _, h2⟩ := letv_out h2
  obtain ⟨_, _, h2⟩ := letv_out h2
  obtain ⟨_, _, h2⟩ := letv_out h2
  have kx : ∀ k : Nat, k ≠ 32 → k ≠ 54 → k ≠ 55 → k ≠ 56 → n35 k = nux k := fun k a b c d => by
    rw [uw_k e35 k b, uw_k e26 k d, uw_k e19 k c, uw_k e13 k a, uw_k e8 k a, uw_k e4 k a, uw_k e1 k a]
  have c32 : n35 32 = n13 32 := by rw [uw_k e35 32 (by decide), uw_k e26 32 (by decide), uw_k e19 32 (by decide)]
  have fx : ∀ f : Nat, f ≤ 10 → n35 32 f = nux 32 f := fun f hf => by
    rw [c32, uw_f e13 f (by omega), uw_f e8 f (by omega), uw_f e4 f (by omega), uw_f e1 f (by omega)]
  have x11 : n35 32 11 = 0 := by rw [c32, uw_f e13 11 (by decide), uw_f e8 11 (by decide), uw_f e4 11 (by decide), uw_v e1]
  have x12 : n35 32 12 = 0 := by rw [c32, uw_f e13 12 (by decide), uw_f e8 12 (by decide), uw_v e4]
  have x13 : n35 32 13 = -1 := by rw [c32, uw_f e13 13 (by decide), uw_v e8]
  have x14 : n35 32 14 = 2147483647 := by rw [c32, uw_v e13]
  have x553 : n35 55 3 = 0 := by rw [uw_k e35 55 (by decide), uw_k e26 55 (by decide), uw_v e19]
  have x563 : n35 56 3 = 0 := by rw [uw_k e35 56 (by decide), uw_v e26]
  have y5 : y34 = vf := by
    rw [← e34, uw_k e26 32 (by decide), uw_k e19 32 (by decide), uw_f e13 5 (by decide), uw_f e8 5 (by decide), uw_f e4 5 (by decide), uw_f e1 5 (by decide)]
    exact hf
  have x540 : n35 54 0 = vf := by
    have q : n35 54 0 = y34 := uw_v e35
    rw [q, y5]
  have m0 : m91 0 = m79 0 := uw_k d91 0 (by decide)
  have km : ∀ k : Nat, k ≠ 0 → k ≠ 16 → m91 k = num k := fun k a b => by
    rw [uw_k d91 k b, uw_k d79 k a, uw_k d68 k a, uw_k d58 k a, uw_k d48 k a, uw_k d39 k a, uw_k d30 k a, uw_k d22 k a, uw_k d15 k a, uw_k d9 k a, uw_k d4 k a]
  have fm : ∀ f : Nat, f < 29 ∨ f = 38 → m91 0 f = num 0 f := fun f hf => by
    rw [m0, uw_f d79 f (by omega), uw_f d68 f (by omega), uw_f d58 f (by omega), uw_f d48 f (by omega), uw_f d39 f (by omega), uw_f d30 f (by omega), uw_f d22 f (by omega), uw_f d15 f (by omega), uw_f d9 f (by omega), uw_f d4 f (by omega)]
  have w39 : m91 0 39 = vk := by rw [m0, uw_f d79 39 (by decide), uw_f d68 39 (by decide), uw_f d58 39 (by decide), uw_f d48 39 (by decide), uw_f d39 39 (by decide), uw_f d30 39 (by decide), uw_f d22 39 (by decide), uw_f d15 39 (by decide), uw_f d9 39 (by decide), uw_v d4]
  have w29 : m91 0 29 = vg := by rw [m0, uw_f d79 29 (by decide), uw_f d68 29 (by decide), uw_f d58 29 (by decide), uw_f d48 29 (by decide), uw_f d39 29 (by decide), uw_f d30 29 (by decide), uw_f d22 29 (by decide), uw_f d15 29 (by decide), uw_v d9]
  have w30 : m91 0 30 = 0 := by rw [m0, uw_f d79 30 (by decide), uw_f d68 30 (by decide), uw_f d58 30 (by decide), uw_f d48 30 (by decide), uw_f d39 30 (by decide), uw_f d30 30 (by decide), uw_f d22 30 (by decide), uw_v d15]
  have w31 : m91 0 31 = 1048576 := by rw [m0, uw_f d79 31 (by decide), uw_f d68 31 (by decide), uw_f d58 31 (by decide), uw_f d48 31 (by decide), uw_f d39 31 (by decide), uw_f d30 31 (by decide), uw_v d22]
  have w33 : m91 0 33 = 0 := by rw [m0, uw_f d79 33 (by decide), uw_f d68 33 (by decide), uw_f d58 33 (by decide), uw_f d48 33 (by decide), uw_v d39]
  have w35 : m91 0 35 = 1048576 := by rw [m0, uw_f d79 35 (by decide), uw_f d68 35 (by decide), uw_v d58]
  have w36 : m91 0 36 = 127 := by rw [m0, uw_f d79 36 (by decide), uw_v d68]
  have w37 : m91 0 37 = 1048576 := by rw [m0, uw_v d79]
  have w160 : m91 16 0 = vf := uw_v d91
  have f8 : m91 0 8 = num 0 8 := fm 8 (by omega)
  have c10 : m91 10 = num 10 := km 10 (by decide) (by decide)
  have f14 : m91 0 14 = num 0 14 := fm 14 (by omega)
  have hS : stR T n35 m91 := by
    refine ⟨?_, ?_, fun x hxx => ?_, ?_, ?_, ?_, ?_, ?_⟩
    · rw [kx 4 (by decide) (by decide) (by decide) (by decide), f8]; exact hB
    · rw [f8]; exact hb
    · rw [f8] at hxx
      obtain ⟨q1, q2, q3, q4⟩ := hx x hxx
      rw [kx 34 (by decide) (by decide) (by decide) (by decide), kx 52 (by decide) (by decide) (by decide) (by decide), kx 53 (by decide) (by decide) (by decide) (by decide), km 7 (by decide) (by decide), km 8 (by decide) (by decide)]
      refine ⟨q1, ?_, q3, q4⟩
      rw [q2]
      exact (bes_congr (km 9 (by decide) (by decide)) (fm 11 (by omega)) (fm 13 (by omega)) 15 0 0).symm
    · rw [fx 6 (by decide), w29]; exact hg
    · rw [fm 38 (by omega)]; exact hpc
    · rw [fx 5 (by decide), w160]; exact hf
    · rw [w160, f8]; exact hfr
    · rw [w39]
      rcases hl with e | ⟨e, W0, hW, h8, h9, l3, l10, hw⟩
      · exact Or.inl e
      · refine Or.inr ⟨e, W0, hW, ?_, ?_, ?_, ?_, fun L hL1 hL2 => ?_⟩
        · rw [fx 8 (by decide)]; exact h8
        · rw [fx 9 (by decide)]; exact h9
        · rw [w39, lof_congr c10, fx 9 (by decide)]; exact l3
        · rw [w39, lof_congr c10, f14, fx 10 (by decide)]; exact l10
        · rw [w39, win_congr c10 f14, fx 9 (by decide)]; exact hw L hL1 hL2
  have z0 : (0 : Int32).toInt = 0 := rfl
  have hR : rel 0 n35 m91 := by
    refine ⟨⟨by rw [x11, w30], by rw [w30, z0]; omega, Or.inl ⟨x553, w30, w31⟩⟩, fun _ => ⟨Or.inl ⟨w30, x14, w37⟩, by rw [x12, w33], by rw [w33, z0]; omega, Or.inl ⟨w33, x563, w35, x13, w36⟩⟩⟩
  have tt : t103 = t44 := by rw [← d103, ← e44, y5]
  have yp : y45 = vp := by rw [← e45, fx 7 (by decide)]; exact hpd
  have hbit : ∀ j : Nat, j < 32 → bt t44 j = true → j < 7 := fun j hj e => by
    rw [← e44, y5, b_bit hfr.1 (by omega) hj] at e
    have := of_decide_eq_true e
    have := tC_of hfr.1
    omega
  obtain ⟨z1, z2, z3⟩ := wk0 (u := t44) (p := vp) hT (by decide) hS hR (by rw [x540, w160]) (by rw [w160, f8]; exact hfr) hpr hbit
  rw [yp] at e46
  rw [tt] at d107
  rw [e46] at z1 z3
  rw [d107] at z2 z3
  rw [h1, h2]
  refine ⟨⟨fun k a b c d e f => (z1.1 k a b c d e f).trans (kx k a b c d), fun f hf => (z1.2 f hf).trans (fx f hf)⟩, ⟨fun k a b c d => (z2.1 k a b c d).trans (km k a b), fun f hf => (z2.2.1 f (by omega)).trans (fm f hf)⟩, (z2.2.1 39 (by omega)).trans w39, rel_le z3 (by decide)⟩

-- ===== routes: of a letter, and the answers =====
theorem mul_rng {F X : Int} (h0 : 0 ≤ F) (h9 : F ≤ 9) (h1 : -300 ≤ X) (h2 : X ≤ 300) : -2700 ≤ F * X ∧ F * X ≤ 2700 := by
  have a : F * X ≤ F * 300 := Int.mul_le_mul_of_nonneg_left h2 h0
  have b : F * (-300) ≤ F * X := Int.mul_le_mul_of_nonneg_left h1 h0
  omega
theorem worthI {num : Nat → Nat → Int32} {k L : Int32} (hk : 0 ≤ k.toInt ∧ k.toInt ≤ 3) (hd : 0 ≤ (num 0 14).toInt ∧ (num 0 14).toInt ≤ 99) (w2 : 0 ≤ (num 10 (10 * k.toNatClampNeg + 2)).toInt ∧ (num 10 (10 * k.toNatClampNeg + 2)).toInt ≤ 99) (w3 : 0 ≤ (num 10 (10 * k.toNatClampNeg + 3)).toInt ∧ (num 10 (10 * k.toNatClampNeg + 3)).toInt ≤ 9) (w4 : 0 ≤ (num 10 (10 * k.toNatClampNeg + 4)).toInt ∧ (num 10 (10 * k.toNatClampNeg + 4)).toInt ≤ 99) (hL : 0 ≤ L.toInt ∧ L.toInt ≤ 7) {W0 : Int} (hW : W0 = (num 10 (10 * k.toNatClampNeg + 2)).toInt - (num 10 (10 * k.toNatClampNeg + 3)).toInt * ((num 0 14).toInt - (num 10 (10 * k.toNatClampNeg + 4)).toInt)) : (0 ≤ W0 - (num 10 (10 * k.toNatClampNeg + 3)).toInt * L.toInt ∧ (F_sm_worthIn num k L).toInt = W0 - (num 10 (10 * k.toNatClampNeg + 3)).toInt * L.toInt) ∨ (W0 - (num 10 (10 * k.toNatClampNeg + 3)).toInt * L.toInt < 0 ∧ (F_sm_worthIn num k L).toInt = 0) := by
  have i2 : F_sm_letterOf num k 2 = num 10 (10 * k.toNatClampNeg + 2) := fm_letterOf hk (by decide)
  have i3 : F_sm_letterOf num k 3 = num 10 (10 * k.toNatClampNeg + 3) := fm_letterOf hk (by decide)
  have i4 : F_sm_letterOf num k 4 = num 10 (10 * k.toNatClampNeg + 4) := fm_letterOf hk (by decide)
  simp only [F_sm_worthIn, letv_eq]
  rw [i2, i3, i4]
  generalize num 10 (10 * k.toNatClampNeg + 2) = w at *
  generalize num 10 (10 * k.toNatClampNeg + 3) = f at *
  generalize num 10 (10 * k.toNatClampNeg + 4) = s at *
  generalize num 0 14 = d at *
  have a : (d + L).toInt = d.toInt + L.toInt := tI_add rfl rfl (by omega) (by omega)
  have b : (d + L - s).toInt = d.toInt + L.toInt - s.toInt := tI_sub a rfl (by omega) (by omega)
  have r := mul_rng w3.1 w3.2 (X := d.toInt + L.toInt - s.toInt) (by omega) (by omega)
  have c : (f * (d + L - s)).toInt = f.toInt * (d.toInt + L.toInt - s.toInt) := tI_mul rfl b (by omega) (by omega)
  have e : (w - f * (d + L - s)).toInt = w.toInt - f.toInt * (d.toInt + L.toInt - s.toInt) := tI_sub rfl c (by omega) (by omega)
  have g : f.toInt * (d.toInt + L.toInt - s.toInt) = f.toInt * (d.toInt - s.toInt) + f.toInt * L.toInt := by
    rw [← Int.mul_add]
    congr 1
    omega
  have z : (0 : Int32).toInt = 0 := rfl
  generalize w - f * (d + L - s) = v at *
  by_cases q : v ≥ (0 : Int32)
  · have := vv_ge.mp q
    rw [if_pos q]
    left
    omega
  · have q' : ¬ (0 : Int32).toInt ≤ v.toInt := fun e => q (vv_ge.mpr e)
    rw [if_neg q]
    right
    omega
theorem pc_core {mux mum num : Nat → Nat → Int32} {v : Int32} (okm : okR loM hiM mum) (h : core mux mum) (e : va_up mum 0 (upd (mum 0) 38 v) = num) : core mux num := by
  refine core_of okm h (fun _ _ _ => rfl) (fun k f hg => ?_)
  by_cases c : k = 0
  · subst c
    by_cases c2 : f = 38
    · subst c2
      exact absurd hg (by decide)
    · exact uw_f e f c2
  · rw [uw_k e k c]
/-- what a walk of a letter finds, on both sides -/
theorem of_rel {T : Int} {mux num xi1 xi2 : Nat → Nat → Int32} {k : Int32} (hT : 0 ≤ T ∧ T ≤ 1000000) (bd : bdM num) (hC : core mux num) (hm : mon T num) (hk : 0 ≤ k.toInt ∧ k.toInt < (num 0 15).toInt) (hpc : ¬ num 0 38 = 0) (h1 : xi1 = F_sx_walkOf mux (61 + k.toNatClampNeg)) (h2 : xi2 = F_sm_routesOf num k) : rC 137256 xi1 xi2 ∧ rS 137256 xi1 xi2 := by
  have hcB := tC_of bd.1.1
  have hck := tC_of hk.1
  have hc15 := tC_of bd.2.2.1.1
  obtain ⟨l0, l1, l5, l9⟩ := hC.2.2.2.2.2.1 k.toNatClampNeg (by omega)
  obtain ⟨m6, m2, m3, m4⟩ := hm.2.1 k.toNatClampNeg (by omega)
  have day := hC.2.2.2.1
  have hk3 : 0 ≤ k.toInt ∧ k.toInt ≤ 3 := ⟨hk.1, by have := bd.2.2.1.2; omega⟩
  unfold F_sx_walkOf at h1
  obtain ⟨a1, ea1, h1⟩ := letv_out h1
  obtain ⟨a3, ea3, h1⟩ := letv_out h1
  have ea1 := ea1.symm
  unfold F_sx_lookAt at ea1
  obtain ⟨y1, f1, ea1⟩ := letv_out ea1
  obtain ⟨y2, f2, ea1⟩ := letv_out ea1
  obtain ⟨y3, f3, ea1⟩ := letv_out ea1
  obtain ⟨x4, f4, ea1⟩ := letv_out ea1
  obtain ⟨y6, f6, ea1⟩ := letv_out ea1
  obtain ⟨r7, f7, ea1⟩ := letv_out ea1
  obtain ⟨n8, f8, ea1⟩ := letv_out ea1
  obtain ⟨y12, f12, ea1⟩ := letv_out ea1
  obtain ⟨n13, f13, ea1⟩ := letv_out ea1
  obtain ⟨y19, f19, ea1⟩ := letv_out ea1
  obtain ⟨g1, g2, ⟨g5, g6, g7⟩, g53, g52⟩ := lookF bd hC f4.symm
  have kl : ∀ z : Nat, z < 4 → 61 + z ≠ 32 ∧ 61 + z ≠ 52 ∧ 61 + z ≠ 53 := fun z hz => by omega
  have hkl := kl k.toNatClampNeg (by omega)
  have cl4 : x4 (61 + k.toNatClampNeg) = mux (61 + k.toNatClampNeg) := g1 _ hkl.1 hkl.2.1 hkl.2.2
  have cl8 : n8 (61 + k.toNatClampNeg) = mux (61 + k.toNatClampNeg) := (uw_k f8 _ hkl.1).trans cl4
  have cl13 : n13 (61 + k.toNatClampNeg) = mux (61 + k.toNatClampNeg) := (uw_k f13 _ hkl.1).trans cl8
  have p1 : mux (61 + k.toNatClampNeg) 1 = num 10 (10 * k.toNatClampNeg + 1) := l0 1 (by decide)
  have p3 : mux (61 + k.toNatClampNeg) 3 = num 10 (10 * k.toNatClampNeg + 3) := l0 3 (by decide)
  have p5 : mux (61 + k.toNatClampNeg) 5 = num 10 (10 * k.toNatClampNeg + 5) := l0 5 (by decide)
  have p6 : mux (61 + k.toNatClampNeg) 6 = num 10 (10 * k.toNatClampNeg + 6) := l0 6 (by decide)
  have p7 : mux (61 + k.toNatClampNeg) 7 = num 10 (10 * k.toNatClampNeg + 8) := l0 7 (by decide)
  have i1 : F_sm_letterOf num k 1 = num 10 (10 * k.toNatClampNeg + 1) := fm_letterOf hk3 (by decide)
  have i3 : F_sm_letterOf num k 3 = num 10 (10 * k.toNatClampNeg + 3) := fm_letterOf hk3 (by decide)
  have i6 : F_sm_letterOf num k 6 = num 10 (10 * k.toNatClampNeg + 6) := fm_letterOf hk3 (by decide)
  have i8 : F_sm_letterOf num k 8 = num 10 (10 * k.toNatClampNeg + 8) := fm_letterOf hk3 (by decide)
  have d6 : y6 = num 0 14 := by rw [← f6, g1 5 (by decide) (by decide) (by decide)]; exact hC.2.2.1.2.1
  have hone : oneR (num 0 8).toInt (x4 (61 + k.toNatClampNeg)) (num 10) k.toNatClampNeg := by
    rw [cl4]
    exact ⟨l0, l1, l5, l9⟩
  have w8 : r7 = F_sm_worthIn num k 0 := by rw [← f7]; exact worth_eq hk3 d6 hone
  have hend : ∃ dl : Int32, va_up n13 32 (upd (n13 32) 10 dl) = a1 ∧ dl = (if F_sm_letterOf num k 8 = num 0 14 then 1 else 0) := by
    rw [cl13, p7, ← i8] at f19
    rw [f19, ← d6]
    by_cases c : y19 = y6
    · rw [if_pos c] at ea1
      obtain ⟨n29, e29, ea1⟩ := letv_out ea1
      exact ⟨1, by rw [ea1]; exact e29, by rw [if_pos c]⟩
    · rw [if_neg c] at ea1
      obtain ⟨n29, e29, ea1⟩ := letv_out ea1
      exact ⟨0, by rw [ea1]; exact e29, by rw [if_neg c]⟩
  obtain ⟨dl, edl, vdl⟩ := hend
  have ka : ∀ c : Nat, c ≠ 32 → c ≠ 52 → c ≠ 53 → a1 c = mux c := fun c q1 q2 q3 => by rw [uw_k edl c q1, uw_k f13 c q1, uw_k f8 c q1]; exact g1 c q1 q2 q3
  have ks : ∀ c : Nat, c ≠ 32 → a1 c = x4 c := fun c q1 => by rw [uw_k edl c q1, uw_k f13 c q1, uw_k f8 c q1]
  have v10 : a1 32 10 = (if F_sm_letterOf num k 8 = num 0 14 then 1 else 0) := by rw [uw_v edl]; exact vdl
  have v9 : a1 32 9 = num 10 (10 * k.toNatClampNeg + 3) := by rw [uw_f edl 9 (by decide), uw_v f13, ← f12, cl8]; exact p3
  have v8 : a1 32 8 = F_sm_worthIn num k 0 := by rw [uw_f edl 8 (by decide), uw_f f13 8 (by decide), uw_v f8]; exact w8
  have v7 : a1 32 7 = num 10 (10 * k.toNatClampNeg + 6) := by rw [uw_f edl 7 (by decide), uw_f f13 7 (by decide), uw_f f8 7 (by decide), g7, ← f3]; exact p6
  have v6 : a1 32 6 = num 10 (10 * k.toNatClampNeg + 1) := by rw [uw_f edl 6 (by decide), uw_f f13 6 (by decide), uw_f f8 6 (by decide), g6, ← f2]; exact p1
  have v5 : a1 32 5 = num 10 (10 * k.toNatClampNeg + 5) := by rw [uw_f edl 5 (by decide), uw_f f13 5 (by decide), uw_f f8 5 (by decide), g5, ← f1]; exact p5
  have fiv : F_sm_letterOf5 num k = num 10 (10 * k.toNatClampNeg + 5) := fm_letterOf5 hk3
  unfold F_sm_routesOf at h2
  obtain ⟨_, _, h2⟩ := letv_out h2
  obtain ⟨_, _, h2⟩ := letv_out h2
  obtain ⟨_, _, h2⟩ := letv_out h2
  obtain ⟨r4, e4, h2⟩ := letv_out h2
  obtain ⟨r5, e5, h2⟩ := letv_out h2
  obtain ⟨r6, e6, h2⟩ := letv_out h2
  obtain ⟨x7, e7, h2⟩ := letv_out h2
  obtain ⟨_, _, h2⟩ := letv_out h2
  obtain ⟨_, _, h2⟩ := letv_out h2
  obtain ⟨_, _, h2⟩ := letv_out h2
  rw [fiv] at e4
  rw [i1] at e5
  rw [i6] at e6
  have z0 : (0 : Int32).toInt = 0 := rfl
  have hne : ¬ k = -9 := i_ne9 hk.1
  obtain ⟨W0, hW⟩ : ∃ W : Int, W = (num 10 (10 * k.toNatClampNeg + 2)).toInt - (num 10 (10 * k.toNatClampNeg + 3)).toInt * ((num 0 14).toInt - (num 10 (10 * k.toNatClampNeg + 4)).toInt) := ⟨_, rfl⟩
  have wr : ∀ L : Int32, 0 ≤ L.toInt → L.toInt ≤ 7 → (0 ≤ W0 - (num 10 (10 * k.toNatClampNeg + 3)).toInt * L.toInt ∧ (F_sm_worthIn num k L).toInt = W0 - (num 10 (10 * k.toNatClampNeg + 3)).toInt * L.toInt) ∨ (W0 - (num 10 (10 * k.toNatClampNeg + 3)).toInt * L.toInt < 0 ∧ (F_sm_worthIn num k L).toInt = 0) := fun L q1 q2 => worthI hk3 day m2 m3 m4 ⟨q1, q2⟩ hW
  have hlet : letV k a1 num := by
    refine ⟨W0, ?_, ?_, ?_, ?_, v10, fun L hL1 hL2 => ?_⟩
    · have := mul_rng m3.1 m3.2 (X := (num 0 14).toInt - (num 10 (10 * k.toNatClampNeg + 4)).toInt) (by omega) (by omega)
      omega
    · rw [v8]
      have q := wr 0 (by decide) (by decide)
      rw [z0, Int.mul_zero, Int.sub_zero] at q
      exact q
    · rw [v9]; exact m3
    · rw [v9]; exact i3
    · rw [v9]; exact wr L hL1 hL2
  have hx5 : 0 ≤ (num 10 (10 * k.toNatClampNeg + 5)).toInt ∧ (num 10 (10 * k.toNatClampNeg + 5)).toInt < (num 0 8).toInt := by rw [← p5]; exact l5
  obtain ⟨s1, s2, s3, s4⟩ := start (vk := k) (vf := r4) (vg := r5) (vp := r6) hT.2 (by rw [ka 4 (by decide) (by decide) (by decide)]; exact hC.1.1) bd.1 (fun x hx => ⟨by rw [ka 34 (by decide) (by decide) (by decide)]; exact hC.1.2.2.1 x hx, by rw [ks 52 (by decide)]; exact g52 x (by omega), by rw [ks 53 (by decide), g53 x (by have := bd.1.2; omega)]; exact hC.2.2.2.2.1 x hx, (purM_at hm.1 hx).1, (purM_at hm.1 hx).2⟩) (by rw [v6]; exact e5) hpc (by rw [v5]; exact e4) (by rw [← e4]; exact hx5) (by rw [v7]; exact e6) (by rw [← e6]; exact m6) (Or.inr ⟨hne, hlet⟩) ea3.symm e7.symm
  rw [h1, h2]
  exact ⟨s4.1, s4.2 (by rw [s3]; exact hne)⟩
/-- asked for the routes of a letter: both refuse alike, or both walk -/
theorem asked_rel {T : Int} {mux mum : Nat → Nat → Int32} {k : Int32} (hT : 0 ≤ T ∧ T ≤ 1000000) (okm : okR loM hiM mum) (hC : core mux mum) (hm : mon T mum) : (∃ r : Int32, ∃ x1 x2 : Nat → Nat → Int32, ¬ r = 0 ∧ F_sx_refusedRoute mux k 0 = (r, x1) ∧ F_sm_askedRoutes mum k = (r, x2)) ∨ (∃ xi2 : Nat → Nat → Int32, F_sx_refusedRoute mux k 0 = (0, mux) ∧ F_sm_askedRoutes mum k = (0, xi2) ∧ rC 137256 (F_sx_walkOf mux (61 + k.toNatClampNeg)) xi2 ∧ rS 137256 (F_sx_walkOf mux (61 + k.toNatClampNeg)) xi2) := by
  have bd := bd_of okm
  have hc15 := tC_of bd.2.2.1.1
  obtain ⟨zx, ex⟩ : ∃ z, z = F_sx_refusedRoute mux k 0 := ⟨_, rfl⟩
  obtain ⟨zm, em⟩ : ∃ z, z = F_sm_askedRoutes mum k := ⟨_, rfl⟩
  rw [← ex, ← em]
  unfold F_sx_refusedRoute at ex
  unfold F_sm_askedRoutes at em
  obtain ⟨_, _, em⟩ := letv_out em
  obtain ⟨_, _, em⟩ := letv_out em
  obtain ⟨_, _, em⟩ := letv_out em
  obtain ⟨r1, x1, e1, ex⟩ := letp_out ex
  obtain ⟨r4, x4, e4, em⟩ := letp_out em
  rcases askL (k := k) hC.2.2.1.2.2.1 with ⟨hk, a1, a2⟩ | ⟨hk, a1, a2⟩ | ⟨hk, a1, a2⟩
  · rw [a1] at e1
    rw [a2] at e4
    have q1 : r1 = 0 := (Prod.mk.inj e1).1.symm
    have q4 : r4 = 0 := (Prod.mk.inj e4).1.symm
    rw [if_pos q1] at ex
    rw [if_pos q4] at em
    have hck := tC_of hk.1
    have hk3 : 0 ≤ k.toInt ∧ k.toInt ≤ 3 := ⟨hk.1, by have := bd.2.2.1.2; omega⟩
    obtain ⟨l0, l1, l5, l9⟩ := hC.2.2.2.2.2.1 k.toNatClampNeg (by omega)
    have p9 : mux (61 + k.toNatClampNeg) 9 = mum 10 (10 * k.toNatClampNeg + 9) := l0 9 (by decide)
    have i9 : F_sm_letterOf mum k 9 = mum 10 (10 * k.toNatClampNeg + 9) := fm_letterOf hk3 (by decide)
    obtain ⟨y4, f4, ex⟩ := letv_out ex
    obtain ⟨r6, f6, em⟩ := letv_out em
    have hr6 : r6 = if mum 10 (10 * k.toNatClampNeg + 9) = 1 then 1 else 0 := by
      rw [← f6]
      simp only [F_sm_isRead, letv_eq]
      rw [i9]
    rw [p9] at f4
    rcases l9 with g | g
    · have y0 : y4 = 0 := by rw [← f4, ← p9]; exact g
      have r0 : r6 = 0 := by
        rw [hr6, f4, y0]
        decide
      rw [if_pos y0] at ex
      rw [if_pos r0] at em
      obtain ⟨n8, e8, em⟩ := letv_out em
      obtain ⟨x14, e14, em⟩ := letv_out em
      obtain ⟨_, _, em⟩ := letv_out em
      obtain ⟨_, _, em⟩ := letv_out em
      obtain ⟨_, _, em⟩ := letv_out em
      have kn : ∀ c : Nat, c ≠ 0 → n8 c = mum c := uw_k e8
      have kf : ∀ f : Nat, f ≠ 38 → n8 0 f = mum 0 f := uw_f e8
      have bd8 : bdM n8 := by
        unfold bdM
        rw [kf 8 (by decide), kf 11 (by decide), kf 15 (by decide), kf 17 (by decide)]
        exact bd
      have hm8 : mon T n8 := mon_of hm (kf 8 (by decide)) (kf 15 (by decide)) (kf 17 (by decide)) (kn 8 (by decide)) (kn 10 (by decide)) (kn 14 (by decide)) (kn 15 (by decide))
      have hpc : ¬ n8 0 38 = 0 := by rw [uw_v e8]; decide
      obtain ⟨s1, s2⟩ := of_rel hT bd8 (pc_core okm hC e8) hm8 (by rw [kf 15 (by decide)]; exact hk) hpc rfl e14.symm
      exact Or.inr ⟨x14, ex, em, s1, s2⟩
    · have y0 : y4 = 1 := by rw [← f4, ← p9]; exact g
      have n10 : ¬ (1 : Int32) = 0 := by decide
      rw [y0, if_neg n10] at ex
      have r1' : r6 = 1 := by
        rw [hr6, f4, y0]
        decide
      rw [r1', if_neg n10] at em
      exact Or.inl ⟨-4, mux, mum, by decide, ex, em⟩
  · rw [a1] at e1
    rw [a2] at e4
    have q1 : r1 = -3 := (Prod.mk.inj e1).1.symm
    have q4 : r4 = -3 := (Prod.mk.inj e4).1.symm
    rw [q1, if_neg n3] at ex
    rw [q4, if_neg n3] at em
    exact Or.inl ⟨-3, _, _, n3, ex, em⟩
  · rw [a1] at e1
    rw [a2] at e4
    have q1 : r1 = -1 := (Prod.mk.inj e1).1.symm
    have q4 : r4 = -1 := (Prod.mk.inj e4).1.symm
    rw [q1, if_neg n1] at ex
    rw [q4, if_neg n1] at em
    exact Or.inl ⟨-1, _, _, n1, ex, em⟩
theorem comes_rel {T : Int} {k r1 r2 : Int32} {mux mum xi1 xi2 : Nat → Nat → Int32} (hT : 0 ≤ T ∧ T ≤ 1000000) (okm : okR loM hiM mum) (hC : core mux mum) (hm : mon T mum) (h1 : (r1, xi1) = F_qx_comes mux k) (h2 : (r2, xi2) = F_qm_comes mum k) : r1 = r2 := by
  unfold F_qx_comes at h1
  unfold F_qm_comes at h2
  obtain ⟨a, x, ea, h1⟩ := letp_out h1
  obtain ⟨b, y, eb, h2⟩ := letp_out h2
  rcases asked_rel (k := k) hT okm hC hm with ⟨r, x1, x2, g, g1, g2⟩ | ⟨x2, g1, g2, c, s⟩
  · rw [g1] at ea
    rw [g2] at eb
    have qa : a = r := (Prod.mk.inj ea).1.symm
    have qb : b = r := (Prod.mk.inj eb).1.symm
    rw [qa, if_neg g] at h1
    rw [qb, if_neg g] at h2
    exact (Prod.mk.inj h1).1.trans (Prod.mk.inj h2).1.symm
  · rw [g1] at ea
    rw [g2] at eb
    have qa : a = 0 := (Prod.mk.inj ea).1.symm
    have qb : b = 0 := (Prod.mk.inj eb).1.symm
    have qy : y = x2 := (Prod.mk.inj eb).2.symm
    rw [if_pos qa] at h1
    rw [if_pos qb, qy] at h2
    simp only [letv_eq, letp_eq] at h1 h2
    have e1 := (Prod.mk.inj h1).1
    have e2 := (Prod.mk.inj h2).1
    rw [fm_ask] at e2
    rw [up_ne (show (32 : Nat) ≠ 0 by decide)] at e1
    rw [e1, e2]
    exact s.2.1
theorem bars_rel {T : Int} {k r1 r2 : Int32} {mux mum xi1 xi2 : Nat → Nat → Int32} (hT : 0 ≤ T ∧ T ≤ 1000000) (okm : okR loM hiM mum) (hC : core mux mum) (hm : mon T mum) (h1 : (r1, xi1) = F_qx_bars mux k) (h2 : (r2, xi2) = F_qm_bars mum k) : r1 = r2 := by
  unfold F_qx_bars at h1
  unfold F_qm_bars at h2
  obtain ⟨a, x, ea, h1⟩ := letp_out h1
  obtain ⟨b, y, eb, h2⟩ := letp_out h2
  rcases asked_rel (k := k) hT okm hC hm with ⟨r, x1, x2, g, g1, g2⟩ | ⟨x2, g1, g2, c, s⟩
  · rw [g1] at ea
    rw [g2] at eb
    have qa : a = r := (Prod.mk.inj ea).1.symm
    have qb : b = r := (Prod.mk.inj eb).1.symm
    rw [qa, if_neg g] at h1
    rw [qb, if_neg g] at h2
    exact (Prod.mk.inj h1).1.trans (Prod.mk.inj h2).1.symm
  · rw [g1] at ea
    rw [g2] at eb
    have qa : a = 0 := (Prod.mk.inj ea).1.symm
    have qb : b = 0 := (Prod.mk.inj eb).1.symm
    have qy : y = x2 := (Prod.mk.inj eb).2.symm
    rw [if_pos qa] at h1
    rw [if_pos qb, qy] at h2
    simp only [letv_eq] at h1 h2
    rw [s.2.1] at h1
    rcases s.2.2.2 with ⟨t1, t2, t3, t4, t5⟩ | ⟨t1, t2, t3, t4, t5⟩
    · rw [if_pos t1] at h1 h2
      exact (Prod.mk.inj h1).1.trans (Prod.mk.inj h2).1.symm
    · rw [if_neg t1] at h1 h2
      rw [(Prod.mk.inj h1).1, (Prod.mk.inj h2).1]
      exact t5
theorem needs_rel {T : Int} {k r1 r2 : Int32} {mux mum xi1 xi2 : Nat → Nat → Int32} (hT : 0 ≤ T ∧ T ≤ 1000000) (okm : okR loM hiM mum) (hC : core mux mum) (hm : mon T mum) (h1 : (r1, xi1) = F_qx_needs mux k) (h2 : (r2, xi2) = F_qm_needs mum k) : r1 = r2 := by
  unfold F_qx_needs at h1
  unfold F_qm_needs at h2
  obtain ⟨a, x, ea, h1⟩ := letp_out h1
  obtain ⟨b, y, eb, h2⟩ := letp_out h2
  rcases asked_rel (k := k) hT okm hC hm with ⟨r, x1, x2, g, g1, g2⟩ | ⟨x2, g1, g2, c, s⟩
  · rw [g1] at ea
    rw [g2] at eb
    have qa : a = r := (Prod.mk.inj ea).1.symm
    have qb : b = r := (Prod.mk.inj eb).1.symm
    rw [qa, if_neg g] at h1
    rw [qb, if_neg g] at h2
    exact (Prod.mk.inj h1).1.trans (Prod.mk.inj h2).1.symm
  · rw [g1] at ea
    rw [g2] at eb
    have qa : a = 0 := (Prod.mk.inj ea).1.symm
    have qb : b = 0 := (Prod.mk.inj eb).1.symm
    have qy : y = x2 := (Prod.mk.inj eb).2.symm
    rw [if_pos qa] at h1
    rw [if_pos qb, qy] at h2
    simp only [letv_eq] at h1 h2
    rw [c.1] at h1
    rcases s.1 with ⟨t1, t2, t3⟩ | ⟨t1, t2, t3⟩
    · rw [if_pos t1] at h1
      rw [t3, if_neg (by decide)] at h2
      exact (Prod.mk.inj h1).1.trans (Prod.mk.inj h2).1.symm
    · rw [if_neg t1, t2] at h1
      by_cases q : x2 0 37 ≤ 999
      · rw [if_pos q] at h1 h2
        exact (Prod.mk.inj h1).1.trans (Prod.mk.inj h2).1.symm
      · rw [if_neg q] at h1 h2
        exact (Prod.mk.inj h1).1.trans (Prod.mk.inj h2).1.symm

-- ===== routes: of one that is not yet sent; fake, post =====
theorem core_ofB {mux mum xi1 xi2 : Nat → Nat → Int32} (bd : bdM mum) (h : core mux mum) (h1 : ∀ k f : Nat, 2 ≤ gpX k f → xi1 k f = mux k f) (h2 : ∀ k f : Nat, 2 ≤ gpM k f → xi2 k f = mum k f) : core xi1 xi2 := by
  obtain ⟨hK, hE, ⟨s2, s3, s4, s6⟩, hday, hP, hL, hS, hA⟩ := h
  have hsent : 0 ≤ (mum 0 15).toInt ∧ (mum 0 15).toInt ≤ 4 := bd.2.2.1
  have hled : 0 ≤ (mum 0 17).toInt ∧ (mum 0 17).toInt ≤ 40 := bd.2.2.2
  have cs := tC_of hsent.1
  have cl := tC_of hled.1
  have m8 : xi2 0 8 = mum 0 8 := h2 0 8 (by decide)
  have m11 : xi2 0 11 = mum 0 11 := h2 0 11 (by decide)
  have m13 : xi2 0 13 = mum 0 13 := h2 0 13 (by decide)
  have m14 : xi2 0 14 = mum 0 14 := h2 0 14 (by decide)
  have m15 : xi2 0 15 = mum 0 15 := h2 0 15 (by decide)
  have m17 : xi2 0 17 = mum 0 17 := h2 0 17 (by decide)
  have c9 : xi2 9 = mum 9 := funext fun f => h2 9 f (show 2 ≤ (2 : Nat) by decide)
  have c8 : xi2 8 = mum 8 := funext fun f => h2 8 f (show 2 ≤ (3 : Nat) by decide)
  have c10 : xi2 10 = mum 10 := funext fun f => h2 10 f (show 2 ≤ (3 : Nat) by decide)
  have c14 : xi2 14 = mum 14 := funext fun f => h2 14 f (show 2 ≤ (4 : Nat) by decide)
  have c15 : xi2 15 = mum 15 := funext fun f => h2 15 f (show 2 ≤ (5 : Nat) by decide)
  have x46 : xi1 46 = mux 46 := funext fun f => h1 46 f (show 2 ≤ (3 : Nat) by decide)
  refine ⟨simK_of hK (fun k f e => h1 k f (by rw [e]; decide)) (fun k f e => h2 k f (by rw [e]; decide)), ?_, ⟨?_, ?_, ?_, ?_⟩, ?_, ?_, ?_, ?_, ?_⟩
  · unfold endR
    rw [m11, m8, c9]
    exact hE
  · rw [h1 5 2 (by decide), m13]; exact s2
  · rw [h1 5 3 (by decide), m14]; exact s3
  · rw [h1 5 4 (by decide), m15]; exact s4
  · rw [h1 6 1 (by decide), m17]; exact s6
  · rw [m14]; exact hday
  · rw [x46, c8, m8]; exact hP
  · rw [m8, m15, c10]
    exact letR_of hL (fun k hk => funext fun f => h1 _ f (by rw [gpX_letter (by omega) (by omega)]; decide)) (fun k hk f hf => rfl)
  · unfold salR salN
    rw [m17, m8, m15, c14]
    intro s hs
    have e1 : xi1 (77 + s) = mux (77 + s) := funext fun f => h1 _ f (by rw [gpX_sale (by omega) (by omega)]; decide)
    have e2 : xi1 (117 + s) = mux (117 + s) := funext fun f => h1 _ f (by rw [gpX_spurses (by omega) (by omega)]; decide)
    rw [e1, e2]
    exact hS s hs
  · refine kepR_of hA (fun c hc => funext fun f => h1 c f ?_) c15 m8
    rcases hc with h | h | h
    · rw [gpX_kept h.1 h.2]; decide
    · rw [gpX_kpurses h.1 h.2]; decide
    · rw [gpX_letter (by omega) h.2]; decide
theorem st_keep {T : Int} {mux num xi1 xi2 : Nat → Nat → Int32} (bd : bdM num) (hC : core mux num) (hm : mon T num) (hpc : ¬ num 0 38 = 0) (hx : ∀ c : Nat, c ≠ 32 → c < 52 ∨ 58 < c → xi1 c = mux c) (hk : (∀ k : Nat, k ≠ 0 → k ≠ 16 → k ≠ 17 → k ≠ 18 → xi2 k = num k) ∧ (∀ f : Nat, f < 29 ∨ f = 38 → xi2 0 f = num 0 f)) : core xi1 xi2 ∧ bdM xi2 ∧ mon T xi2 ∧ ¬ xi2 0 38 = 0 := by
  refine ⟨core_ofB bd hC (fun k f e => ?_) (fun k f e => ?_), ?_, ?_, ?_⟩
  · by_cases c : k ≠ 32 ∧ (k < 52 ∨ 58 < k)
    · rw [hx k c.1 c.2]
    · have q : k = 32 ∨ k = 52 ∨ k = 53 ∨ k = 54 ∨ k = 55 ∨ k = 56 ∨ k = 57 ∨ k = 58 := by omega
      have g : gpX k f = 0 := by rcases q with q | q | q | q | q | q | q | q <;> (subst q; rfl)
      rw [g] at e
      exact absurd e (by decide)
  · by_cases c0 : k = 0
    · subst c0
      by_cases cf : f < 29
      · exact hk.2 f (Or.inl cf)
      · have g : gpM 0 f = 0 := by
          unfold gpM
          rw [if_pos rfl, if_neg (by omega), if_neg (by omega), if_neg (by omega), if_neg (by omega), if_neg (by omega), if_neg (by omega)]
        rw [g] at e
        exact absurd e (by decide)
    · by_cases c : k ≠ 16 ∧ k ≠ 17 ∧ k ≠ 18
      · rw [hk.1 k c0 c.1 c.2.1 c.2.2]
      · have q : k = 16 ∨ k = 17 ∨ k = 18 := by omega
        have g : gpM k f = 0 := by rcases q with q | q | q <;> (subst q; rfl)
        rw [g] at e
        exact absurd e (by decide)
  · unfold bdM
    rw [hk.2 8 (by omega), hk.2 11 (by omega), hk.2 15 (by omega), hk.2 17 (by omega)]
    exact bd
  · exact mon_of hm (hk.2 8 (by omega)) (hk.2 15 (by omega)) (hk.2 17 (by omega)) (hk.1 8 (by decide) (by decide) (by decide) (by decide)) (hk.1 10 (by decide) (by decide) (by decide) (by decide)) (hk.1 14 (by decide) (by decide) (by decide) (by decide)) (hk.1 15 (by decide) (by decide) (by decide) (by decide))
  · rw [hk.2 38 (Or.inr rfl)]
    exact hpc
/-- walks of one that is not yet sent -/
theorem new_rel {T : Int} {mux num xi1 xi2 : Nat → Nat → Int32} {x y : Int32} (hT : 0 ≤ T ∧ T ≤ 1000000) (bd : bdM num) (hC : core mux num) (hm : mon T num) (hx : 0 ≤ x.toInt ∧ x.toInt < (num 0 8).toInt) (hpc : ¬ num 0 38 = 0) (h1 : xi1 = F_sx_walkNew mux x y) (h2 : xi2 = F_sm_setRoutes num (-9) x y 0) : rC 137256 xi1 xi2 ∧ core xi1 xi2 ∧ bdM xi2 ∧ mon T xi2 ∧ ¬ xi2 0 38 = 0 ∧ xi2 0 8 = num 0 8 := by
  have hcB := tC_of bd.1.1
  unfold F_sx_walkNew at h1
  obtain ⟨x4, f4, h1⟩ := letv_out h1
  obtain ⟨n3, f3, h1⟩ := letv_out h1
  obtain ⟨n6, f6, h1⟩ := letv_out h1
  obtain ⟨a1, f10, h1⟩ := letv_out h1
  obtain ⟨a3, ea3, h1⟩ := letv_out h1
  obtain ⟨g1, g2, ⟨g5, g6, g7⟩, g53, g52⟩ := lookF bd hC f4.symm
  have ka : ∀ c : Nat, c ≠ 32 → c ≠ 52 → c ≠ 53 → a1 c = mux c := fun c q1 q2 q3 => by rw [uw_k f10 c q1, uw_k f6 c q1, uw_k f3 c q1]; exact g1 c q1 q2 q3
  have ks : ∀ c : Nat, c ≠ 32 → a1 c = x4 c := fun c q1 => by rw [uw_k f10 c q1, uw_k f6 c q1, uw_k f3 c q1]
  have v7 : a1 32 7 = 0 := by rw [uw_f f10 7 (by decide), uw_f f6 7 (by decide), uw_f f3 7 (by decide)]; exact g7
  have v6 : a1 32 6 = y := by rw [uw_f f10 6 (by decide), uw_f f6 6 (by decide), uw_f f3 6 (by decide)]; exact g6
  have v5 : a1 32 5 = x := by rw [uw_f f10 5 (by decide), uw_f f6 5 (by decide), uw_f f3 5 (by decide)]; exact g5
  have z0 : (0 : Int32).toInt = 0 := rfl
  obtain ⟨s1, s2, s3, s4⟩ := start (vk := -9) (vf := x) (vg := y) (vp := 0) hT.2 (by rw [ka 4 (by decide) (by decide) (by decide)]; exact hC.1.1) bd.1 (fun x hx => ⟨by rw [ka 34 (by decide) (by decide) (by decide)]; exact hC.1.2.2.1 x hx, by rw [ks 52 (by decide)]; exact g52 x (by omega), by rw [ks 53 (by decide), g53 x (by have := bd.1.2; omega)]; exact hC.2.2.2.2.1 x hx, (purM_at hm.1 hx).1, (purM_at hm.1 hx).2⟩) v6 hpc v5 hx v7 (by rw [z0]; omega) (Or.inl rfl) ea3.symm h2
  obtain ⟨k1, k2, k3, k4⟩ := st_keep bd hC hm hpc (xi1 := a3) (xi2 := xi2) (fun c c1 c2 => (s1.1 c c1 (by omega) (by omega) (by omega) (by omega) (by omega)).trans (ka c c1 (by omega) (by omega))) s2
  rw [h1]
  exact ⟨s4.1, k1, k2, k3, k4, s2.2 8 (by omega)⟩
theorem fake_rel {T : Int} {x y w r1 r2 : Int32} {mux mum xi1 xi2 : Nat → Nat → Int32} (hT : 0 ≤ T ∧ T ≤ 1000000) (okm : okR loM hiM mum) (hC : core mux mum) (hm : mon T mum) (h1 : (r1, xi1) = F_qx_fake mux x y w) (h2 : (r2, xi2) = F_qm_fake mum x y w) : r1 = r2 := by
  have bd := bd_of okm
  have z0 : (0 : Int32).toInt = 0 := rfl
  have z99 : (99 : Int32).toInt = 99 := rfl
  have zM : (1048576 : Int32).toInt = 1048576 := rfl
  unfold F_qx_fake at h1
  unfold F_qm_fake at h2
  rcases pair_eq (x := x) (y := y) hC.1 bd.1 with ⟨p1, p2, px, py⟩ | ⟨p1, p2⟩
  · rw [if_pos p1] at h1
    rw [if_pos p2] at h2
    by_cases cw : 0 ≤ w.toInt ∧ w.toInt ≤ 99
    · rw [if_neg (fun e => by have := vv_lt.mp e; omega), if_pos (vv_le.mpr (by omega))] at h1
      rw [if_pos (fm_in.mpr (by omega))] at h2
      obtain ⟨x4, e4, h1⟩ := letv_out h1
      obtain ⟨y6, e6, h1⟩ := letv_out h1
      obtain ⟨n3, d3, h2⟩ := letv_out h2
      obtain ⟨x6, d6, h2⟩ := letv_out h2
      obtain ⟨y8, d8, h2⟩ := letv_out h2
      have kn : ∀ c : Nat, c ≠ 0 → n3 c = mum c := uw_k d3
      have kf : ∀ f : Nat, f ≠ 38 → n3 0 f = mum 0 f := uw_f d3
      have bd3 : bdM n3 := by
        unfold bdM
        rw [kf 8 (by decide), kf 11 (by decide), kf 15 (by decide), kf 17 (by decide)]
        exact bd
      have hm3 : mon T n3 := mon_of hm (kf 8 (by decide)) (kf 15 (by decide)) (kf 17 (by decide)) (kn 8 (by decide)) (kn 10 (by decide)) (kn 14 (by decide)) (kn 15 (by decide))
      have hpc : ¬ n3 0 38 = 0 := by rw [uw_v d3]; decide
      obtain ⟨⟨q1, q2, q3⟩, -⟩ := new_rel hT bd3 (pc_core okm hC d3) hm3 (by rw [kf 8 (by decide)]; exact px) hpc e4.symm d6.symm
      rcases q3 with ⟨a1, a2, a3⟩ | ⟨a1, a2, a3, a4, a5⟩
      · rw [if_pos (e6.symm.trans a1)] at h1
        rw [if_pos (vv_gt.mpr (by rw [← d8, a3, zM]; omega))] at h2
        exact (congrArg Prod.fst h1).trans (congrArg Prod.fst h2).symm
      · rw [if_neg (fun e => a1 (e6.trans e))] at h1
        obtain ⟨z8, e8, h1⟩ := letv_out h1
        have ez : z8 = y8 := by rw [← e8, ← d8]; exact a3
        rw [ez] at h1
        by_cases c : y8 > w
        · rw [if_pos c] at h1 h2
          exact (congrArg Prod.fst h1).trans (congrArg Prod.fst h2).symm
        · rw [if_neg c] at h1 h2
          exact (congrArg Prod.fst h1).trans (congrArg Prod.fst h2).symm
    · have h1' : r1 = -1 := by
        by_cases c : w < (0 : Int32)
        · rw [if_pos c] at h1
          exact congrArg Prod.fst h1
        · rw [if_neg c, if_neg (fun e => by have := vv_le.mp e; have : ¬ w.toInt < (0 : Int32).toInt := fun e => c (vv_lt.mpr e); omega)] at h1
          exact congrArg Prod.fst h1
      rw [if_neg (fun e => by have := fm_in.mp e; omega)] at h2
      exact h1'.trans (congrArg Prod.fst h2).symm
  · rw [if_neg p1] at h1
    rw [if_neg p2] at h2
    exact (congrArg Prod.fst h1).trans (congrArg Prod.fst h2).symm
theorem post_in {T : Int} {v x B : Int32} {kX kM : Int32 → Int32 → Int32 → (Nat → Nat → Int32) → Int32 × (Nat → Nat → Int32)} (hT : 0 ≤ T ∧ T ≤ 1000000) (hv : 0 ≤ v.toInt ∧ v.toInt ≤ 99) (hx : 0 ≤ x.toInt ∧ x.toInt < B.toInt) (hB7 : B.toInt ≤ 7)
    (hk : ∀ (a b a' : Int32) (nux num : Nat → Nat → Int32), a' = a + b → core nux num → bdM num → mon T num → ¬ num 0 38 = 0 → num 0 8 = B → (kX a b (x + 1) nux).1 = (kM a' b (x + 1) num).1) : ∀ (n : Nat) (a b a' i : Int32) (nux num : Nat → Nat → Int32), core nux num → bdM num → mon T num → ¬ num 0 38 = 0 → num 0 8 = B → 0 ≤ i.toInt → i.toInt ≤ B.toInt → (7 - i.toInt).toNat < n → a' = a + b → (L_qx_post_34_1 x v kX n a b i nux).1 = (L_qm_post_36_1 x v kM n a' b i num).1 := by
  intro n
  have zM : (1048576 : Int32).toInt = 1048576 := rfl
  induction n with
  | zero => intro a b a' i nux num _ _ _ _ _ _ _ hn _; exact absurd hn (Nat.not_lt_zero _)
  | succ n ih =>
    intro a b a' i nux num hC bd hm hpc hB h0 hi hn ha
    have i1 : (i + 1 : Int32).toInt = i.toInt + 1 := tI_add rfl rfl (by omega) (by omega)
    have hb6 : nux 4 6 = num 0 8 := hC.1.1
    rw [L_qx_post_34_1, L_qm_post_36_1]
    simp only [letv_eq]
    rw [hb6, hB]
    by_cases c : i ≥ B
    · rw [if_pos c, if_pos c]
      exact hk a b a' nux num ha hC bd hm hpc hB
    · rw [if_neg c, if_neg c]
      have c' : i.toInt < B.toInt := by
        have : ¬ B.toInt ≤ i.toInt := fun e => c (vv_ge.mpr e)
        omega
      by_cases cx : x = i
      · rw [if_pos cx, if_pos cx]
        exact ih a b a' (i + 1) nux num hC bd hm hpc hB (by omega) (by omega) (by omega) ha
      · rw [if_neg cx, if_neg cx]
        obtain ⟨⟨q1, q2, q3⟩, k1, k2, k3, k4, k5⟩ := new_rel (x := x) (y := i) hT bd hC hm (by rw [hB]; exact hx) hpc rfl rfl
        generalize F_sx_walkNew nux x i = xi1 at *
        generalize F_sm_setRoutes num (-9) x i 0 = xi2 at *
        have hB2 : xi2 0 8 = B := k5.trans hB
        rcases q3 with ⟨a1, a2, a3⟩ | ⟨a1, a2, a3, a4, a5⟩
        · rw [if_pos a1, if_pos a2, if_neg (fun e => by have := vv_ge.mp e; rw [a3, zM] at this; omega)]
          exact ih a (b + 1) (a' + 1) (i + 1) xi1 xi2 k1 k2 k3 k4 hB2 (by omega) (by omega) (by omega) (by rw [ha, Int32.add_assoc])
        · rw [if_neg a1, if_neg a2, a3]
          by_cases cv : v ≥ xi2 0 31
          · rw [if_pos cv, if_pos cv, Int32.add_zero, Int32.add_zero]
            exact ih a b a' (i + 1) xi1 xi2 k1 k2 k3 k4 hB2 (by omega) (by omega) (by omega) ha
          · rw [if_neg cv, if_neg cv, Int32.add_zero]
            exact ih (a + 1) b (a' + 1) (i + 1) xi1 xi2 k1 k2 k3 k4 hB2 (by omega) (by omega) (by omega) (by rw [ha, Int32.add_assoc, Int32.add_comm b 1, ← Int32.add_assoc])
theorem post_out {T : Int} {v B : Int32} (hT : 0 ≤ T ∧ T ≤ 1000000) (hv : 0 ≤ v.toInt ∧ v.toInt ≤ 99) (hB7 : B.toInt ≤ 7) : ∀ (n : Nat) (a b a' i : Int32) (nux num : Nat → Nat → Int32), a' = a + b → core nux num → bdM num → mon T num → ¬ num 0 38 = 0 → num 0 8 = B → 0 ≤ i.toInt → i.toInt ≤ B.toInt → (7 - i.toInt).toNat < n → (L_qx_post_19_0 v n a b i nux).1 = (L_qm_post_24_0 v n a' b i num).1 := by
  intro n
  induction n with
  | zero => intro a b a' i nux num _ _ _ _ _ _ _ _ hn; exact absurd hn (Nat.not_lt_zero _)
  | succ n ih =>
    intro a b a' i nux num ha hC bd hm hpc hB h0 hi hn
    have i1 : (i + 1 : Int32).toInt = i.toInt + 1 := tI_add rfl rfl (by omega) (by omega)
    have hb6 : nux 4 6 = num 0 8 := hC.1.1
    rw [L_qx_post_19_0, L_qm_post_24_0]
    simp only [letv_eq]
    rw [hb6, hB]
    by_cases c : i ≥ B
    · rw [if_pos c, if_pos c]
      simp only [F_sm_ask, letv_eq, letp_eq]
      exact ha.symm
    · rw [if_neg c, if_neg c]
      have c' : i.toInt < B.toInt := by
        have : ¬ B.toInt ≤ i.toInt := fun e => c (vv_ge.mpr e)
        omega
      exact post_in hT hv ⟨h0, c'⟩ hB7 (fun a b a' nux num e1 e2 e3 e4 e5 e6 => ih a b a' (i + 1) nux num e1 e2 e3 e4 e5 e6 (by omega) (by omega) (by omega)) 10 a b a' 0 nux num hC bd hm hpc hB (by decide) (show (0 : Int) ≤ _ by omega) (by decide) ha
theorem post_rel {T : Int} {v r1 r2 : Int32} {mux mum xi1 xi2 : Nat → Nat → Int32} (hT : 0 ≤ T ∧ T ≤ 1000000) (okm : okR loM hiM mum) (hC : core mux mum) (hm : mon T mum) (h1 : (r1, xi1) = F_qx_post mux v) (h2 : (r2, xi2) = F_qm_post mum v) : r1 = r2 := by
  have bd := bd_of okm
  have z0 : (0 : Int32).toInt = 0 := rfl
  have z99 : (99 : Int32).toInt = 99 := rfl
  unfold F_qx_post at h1
  unfold F_qm_post at h2
  by_cases cw : 0 ≤ v.toInt ∧ v.toInt ≤ 99
  · rw [if_neg (fun e => by have := vv_lt.mp e; omega), if_pos (vv_le.mpr (by omega))] at h1
    rw [if_pos (fm_in.mpr (by omega))] at h2
    obtain ⟨n3, d3, h2⟩ := letv_out h2
    have kn : ∀ c : Nat, c ≠ 0 → n3 c = mum c := uw_k d3
    have kf : ∀ f : Nat, f ≠ 38 → n3 0 f = mum 0 f := uw_f d3
    have bd3 : bdM n3 := by
      unfold bdM
      rw [kf 8 (by decide), kf 11 (by decide), kf 15 (by decide), kf 17 (by decide)]
      exact bd
    have hm3 : mon T n3 := mon_of hm (kf 8 (by decide)) (kf 15 (by decide)) (kf 17 (by decide)) (kn 8 (by decide)) (kn 10 (by decide)) (kn 14 (by decide)) (kn 15 (by decide))
    have hpc : ¬ n3 0 38 = 0 := by rw [uw_v d3]; decide
    have q := post_out hT cw bd3.1.2 10 0 0 0 0 mux n3 (by decide) (pc_core okm hC d3) bd3 hm3 hpc rfl (by decide) (by rw [z0]; exact bd3.1.1) (by decide)
    rw [← h1, ← h2] at q
    exact q
  · have h1' : r1 = -1 := by
      by_cases c : v < (0 : Int32)
      · rw [if_pos c] at h1
        exact congrArg Prod.fst h1
      · rw [if_neg c, if_neg (fun e => by have := vv_le.mp e; have : ¬ v.toInt < (0 : Int32).toInt := fun e => c (vv_lt.mpr e); omega)] at h1
        exact congrArg Prod.fst h1
    rw [if_neg (fun e => by have := fm_in.mp e; omega)] at h2
    exact h1'.trans (congrArg Prod.fst h2).symm

theorem wL_in {y2 : MethodName} {c2 : ByteArray} {n2 : Nat} {r2 : Option FieldType} (h : Cond.code y2 c2 n2 r2 ∈ lw_good) : GoodIn lw_tbl (wU y2 c2 n2 r2) := fun w hw => by
  have hg : ∀ w, w ∈ lw_good → w ∈ lw_tbl ∧ ((w.onTables && w.keeps) = true ∨ ∃ ty, w = .arrayClass ty) := fun w h => ⟨(List.mem_filter.mp h).1, good_of_word (List.mem_filter.mp h).2⟩
  rcases List.mem_cons.mp hw with e | hw
  · rw [e]; exact hg _ h
  · exact hg w hw
theorem wL_V {y2 : MethodName} {c2 : ByteArray} {n2 i : Nat} {r2 : Option FieldType} {own C : String} (h : Cond.code y2 c2 n2 r2 ∈ lw_good) (h1 : Cond.methodLink own i y2 ∈ lw_good) (h2 : Cond.instanceMethod y2 ∈ lw_good) (h3 : Cond.selects C y2 y2 ∈ lw_good) (h4 : Cond.initialized C ∈ lw_good) : GoodIn lw_tbl (wsV own i C y2 (wU y2 c2 n2 r2)) := fun w hw => by
  have hg : ∀ w, w ∈ lw_good → w ∈ lw_tbl ∧ ((w.onTables && w.keeps) = true ∨ ∃ ty, w = .arrayClass ty) := fun w h => ⟨(List.mem_filter.mp h).1, good_of_word (List.mem_filter.mp h).2⟩
  rcases List.mem_append.mp hw with hw | hw
  · simp only [List.mem_cons, List.not_mem_nil, or_false] at hw
    rcases hw with e | e | e | e <;> rw [e]
    · exact hg _ h1
    · exact hg _ h2
    · exact hg _ h3
    · exact hg _ h4
  · exact wL_in h w hw
theorem kp_rest {A0 : Nat → Prop} {D : va_G} {cl : List vw_C} {w1 w2 : va_W} {H H1 : Heap} (hD : va_D A0 (w1 ++ w2)) (hP : va_P D cl w2 H) (hk : ∀ q : Nat, q < H.size → ¬ va_A w1 H.size q → H1[q]? = H[q]?) : va_P D cl w2 H1 := by
  refine hP.kept (fun k x hx => hk x.1 (hP k x hx).lt (fun h => ?_))
  rcases h with ⟨i, e, hi⟩ | h
  · have hlt : i < w1.length := (List.getElem?_eq_some_iff.mp hi).1
    have h1 : (w1 ++ w2)[i]? = some (x.1, e) := by rw [List.getElem?_append_left hlt]; exact hi
    have h2 : (w1 ++ w2)[w1.length + k]? = some x := by rw [List.getElem?_append_right (Nat.le_add_right _ _), Nat.add_sub_cancel_left]; exact hx
    have := hD.1 _ _ _ _ h1 h2 rfl
    omega
  · exact absurd (hP k x hx).lt (Nat.not_lt.mpr h)
theorem dl_left {A0 : Nat → Prop} {w1 w2 : va_W} (hD : va_D A0 (w1 ++ w2)) : va_D A0 w1 := by
  have ap : ∀ {i : Nat} {q : Nat × va_E}, w1[i]? = some q → (w1 ++ w2)[i]? = some q := fun {i q} h => by
    rw [List.getElem?_append_left (List.getElem?_eq_some_iff.mp h).1]; exact h
  exact ⟨fun i j p q h1 h2 e => hD.1 i j p q (ap h1) (ap h2) e, fun k q h => hD.2 k q (ap h)⟩
theorem dl_right {A0 : Nat → Prop} {w1 w2 : va_W} (hD : va_D A0 (w1 ++ w2)) : va_D A0 w2 := by
  have ap : ∀ {i : Nat} {q : Nat × va_E}, w2[i]? = some q → (w1 ++ w2)[w1.length + i]? = some q := fun {i q} h => by
    rw [List.getElem?_append_right (Nat.le_add_right _ _), Nat.add_sub_cancel_left]; exact h
  exact ⟨fun i j p q h1 h2 e => by have := hD.1 _ _ p q (ap h1) (ap h2) e; omega, fun k q h => hD.2 _ q (ap h)⟩
theorem lg_same {x y : Int64} (h : x = y) : lg_cmp x y = 0 := by
  subst h
  simp [lg_cmp]
theorem wR_fst {N : Nat} {ad : Nat → Nat} {E : Nat → (Nat → Int32) → va_E} {mu : Nat → Nat → Int32} : (wR N ad E mu).map Prod.fst = (List.range N).map ad := by
  unfold wR
  rw [List.map_map]
  rfl
theorem wR_DD {A : Nat → Prop} {N1 N2 : Nat} {ad1 ad2 : Nat → Nat} {E1 E2 : Nat → (Nat → Int32) → va_E} {mu1 mu2 : Nat → Nat → Int32} (nu1 nu2 : Nat → Nat → Int32) (h : va_D A (wR N1 ad1 E1 mu1 ++ wR N2 ad2 E2 mu2)) : va_D A (wR N1 ad1 E1 nu1 ++ wR N2 ad2 E2 nu2) := by
  obtain ⟨h1, h2⟩ := vaD_iff.mp h
  have key : ∀ (m1 m2 : Nat → Nat → Int32), (wR N1 ad1 E1 m1 ++ wR N2 ad2 E2 m2).map Prod.fst = (List.range N1).map ad1 ++ (List.range N2).map ad2 := fun m1 m2 => by rw [List.map_append, wR_fst, wR_fst]
  refine vaD_iff.mpr ⟨?_, fun q hq => ?_⟩
  · rw [key]
    rw [key] at h1
    exact h1
  · have h3 : q.1 ∈ (wR N1 ad1 E1 nu1 ++ wR N2 ad2 E2 nu2).map Prod.fst := List.mem_map.mpr ⟨q, hq, rfl⟩
    rw [key nu1 nu2, ← key mu1 mu2] at h3
    obtain ⟨x, hx, e⟩ := List.mem_map.mp h3
    rw [← e]
    exact h2 x hx
theorem ok0X : okR loX hiX mu0X := by
  have h0 : ∀ c f : Nat, loXc c f ≤ 0 ∧ 0 ≤ hiXc c f := by
    intro c f
    unfold loXc hiXc
    constructor <;> (repeat' split) <;> omega
  intro k f
  by_cases c1 : k < 8
  · have e : mu0X k = fun _ => 0 := by unfold mu0X; rw [if_pos c1]
    rw [e]
    exact h0 _ _
  · by_cases c2 : k < 18
    · have e : mu0X k = fun f => if f = 1 then -1 else 0 := by unfold mu0X; rw [if_neg c1, if_pos c2]
      rw [e]
      by_cases cf : f = 1
      · subst cf
        have key : ∀ k, k < 18 → ¬ k < 8 → loX k 1 ≤ -1 ∧ -1 ≤ hiX k 1 := by decide +kernel
        exact key k c2 c1
      · show loX k f ≤ ((if f = 1 then (-1 : Int32) else 0)).toInt ∧ ((if f = 1 then (-1 : Int32) else 0)).toInt ≤ hiX k f
        rw [if_neg cf]
        exact h0 _ _
    · have e : mu0X k = fun _ => 0 := by unfold mu0X; rw [if_neg c1, if_neg c2]
      rw [e]
      exact h0 _ _
theorem ok0M : okR loM hiM mu0M := by
  have h0 : ∀ c f : Nat, loMc c f ≤ 0 ∧ 0 ≤ hiMc c f := by
    intro c f
    unfold loMc hiMc
    constructor <;> (repeat' split) <;> omega
  intro k f
  unfold mu0M
  split
  · have key : ∀ f, loM 2 f ≤ -9 ∧ -9 ≤ hiM 2 f := fun f => by
      show (-9 : Int) ≤ -9 ∧ (-9 : Int) ≤ 40
      decide
    exact key f
  · have key : ∀ f, loM 5 f ≤ -9 ∧ -9 ≤ hiM 5 f := fun f => by
      show (-9 : Int) ≤ -9 ∧ (-9 : Int) ≤ 80
      decide
    exact key f
  · by_cases c : f = 0 ∨ f = 64 ∨ f = 128
    · show loM 15 f ≤ (if f = 0 ∨ f = 64 ∨ f = 128 then (-9 : Int32) else 0).toInt ∧ (if f = 0 ∨ f = 64 ∨ f = 128 then (-9 : Int32) else 0).toInt ≤ hiM 15 f
      rw [if_pos c]
      rcases c with rfl | rfl | rfl <;> decide
    · show loM 15 f ≤ (if f = 0 ∨ f = 64 ∨ f = 128 then (-9 : Int32) else 0).toInt ∧ (if f = 0 ∨ f = 64 ∨ f = 128 then (-9 : Int32) else 0).toInt ≤ hiM 15 f
      rw [if_neg c]
      exact h0 _ _
  · exact h0 _ _

/-! THE CLAIM OUT OF ONE WALK OF THE LAW'S BODY. Your part is whole_start (and what it stands on); all else here is the same for every law, but numbers. -/
def R_law : String := "DearLettersLaw"
def lw_P (b : Addr) (xs : List Int32) (args : Array Value) (s : State) : Prop := args = #[.ref b] ∧ s.IntsAt b xs ∧ xs.length ≤ 384 ∧ (Jvm.Cond.and given_1 narrow_1).before args s = true
def lw_Q (_ : Array Value) (s : State) (o : Outcome) (t : State) : Prop := o = .returned (some (.int 1)) ∧ Framed s o t [] 600000 7302250
def lw_Z (below : List Frame) (a : Array Value) (s : State) : State → Prop := fun t => ∃ o, t.status = .running ∧ Ended t below o ∧ lw_Q a s o t
/-- the law's own end, with 1 on the stack, nothing written that was there before, its room as the claim has it -/
theorem lw_ret {p : Program} {l : Launch} {e : Env} {s : State} {m : MethodId} {below : List Frame} {meth : Method} {c : Code} {b : Nat} (hx : p.tables.exec = Jvm.exec) (hb : c.code = code) (hr : meth.sig.returnType = ret) (hlocks : meth.locks = false) {pc : Nat} {H : Heap} {ls : Array Slot} (hdg : decode code pc = .ok (.ireturn, 1)) : W p l e room_1 s m #[Value.ref b] below meth c H [] 600000 7302250 (lw_Z below #[Value.ref b] s) (F0 m pc ls [.int 1]) := by
  intro T hT X
  obtain ⟨fs, hret, hrun, hended, hW, hframe⟩ := X.leave (v := some (.int 1)) (hlocks := hlocks) (fun h => by rw [hr] at h; cases h)
  have hmeth' : T.vm.method? m = some meth := X.method'
  refine ⟨T.setFrames fs, ?_, .returned (some (.int 1)), hrun, hended, rfl, ⟨_, rfl⟩, hW, hframe⟩
  jvm_step X.here [X.here.top, hx, hb, hdg, hmeth', hr, ret, narrow_b1]
  (try refine ⟨rfl, ?_⟩); (try refine ⟨rfl, ?_⟩)
  first | (intro acts; rw [hret _ acts rfl rfl rfl]) | rw [hret _ _ rfl rfl rfl]
  exact Steps.refl _
/-- what holds at the law's entry: the machine, the code, the tables' words (any of lw_tbl by 'hts w (by decide +kernel)'), the script of L ints xs at the cell b, what the Statement gives of the start (any of its parts by flat_of_before) -/
def lw_At (p : Program) (s : State) (m : MethodId) (meth : Method) (c : Code) (b L : Nat) (xs : Nat → Int32) : Prop :=
  p.tables.exec = Jvm.exec ∧ c.code = code ∧ meth.sig.returnType = ret ∧ c.maxLocals = 4 ∧ s.vm.findClass R_law = some m.cls ∧ (∀ w ∈ lw_tbl, w.before #[Value.ref b] s = true) ∧ va_X b L xs s s.heap ∧ b < s.heap.size ∧ meth.locks = false ∧ (Jvm.Cond.and given_1 narrow_1).before #[Value.ref b] s = true
/-- what stays over the whole law -/
def lw_F (p : Program) (s : State) (m : MethodId) (meth : Method) (c : Code) (b L : Nat) (xs : Nat → Int32) (dC : Nat → ClassId) (dI : Nat → Nat → Nat) (cs : Nat → ClassId) (tt : Nat) : Prop :=
  lw_At p s m meth c b L xs ∧ va_K (dC, dI) vwCl (tyW cs) s ∧ va_K (dC, dI) vwCl (tyM cs) s ∧ kz s ∧ ks (fun q : Nat => s.heap.size ≤ q) tt s.heap s
/-- both worlds, and where the law stands -/
def lw_J (s : State) (b : Nat) (dC : Nat → ClassId) (dI : Nat → Nat → Nat) (cs : Nat → ClassId) (adx adm : Nat → Nat) (i : Int32) (cc : Int) (mux mum : Nat → Nat → Int32) (H : Heap) (locs : List Loc) (ls : Array Slot) : Prop :=
  okR loX hiX mux ∧ okR loM hiM mum ∧ (simT mux mum ∧ core mux mum ∧ mon cc mum) ∧ va_P (dC, dI) vwCl (wR 157 adx (EX cs adx) mux) H ∧ va_P (dC, dI) vwCl (wR 21 adm (EM cs adm) mum) H ∧ va_D (fun q : Nat => s.heap.size ≤ q) ((wR 157 adx (EX cs adx) mux) ++ (wR 21 adm (EM cs adm) mum)) ∧ va_S (fun q : Nat => s.heap.size ≤ q) s.heap H locs ∧ lv_has ls 4 [(3, .int i), (2, .ref (adm 0)), (1, .ref (adx 0)), (0, .ref b)]

theorem lb_0 : dl_ck (cL_law.data.toList.drop 0) [187, 0, 7, 89, 183, 0, 9, 76, 187, 0, 10, 89, 183, 0, 12, 77, 3, 62, 29, 42, 190, 16, 6, 100, 163, 6, 87, 42, 29, 46, 16, 63] = true := by decide +kernel
theorem lb_1 : dl_ck (cL_law.data.toList.drop 32) [126, 170, 0, 0, 0, 0, 6, 72, 0, 0, 0, 0, 0, 0, 0, 48, 0, 0, 0, 211, 0, 0, 0, 244, 0, 0, 1, 31, 0, 0, 1, 64] = true := by decide +kernel
theorem lb_2 : dl_ck (cL_law.data.toList.drop 64) [0, 0, 1, 87, 0, 0, 1, 150, 0, 0, 1, 173, 0, 0, 1, 206, 0, 0, 1, 249, 0, 0, 2, 16, 0, 0, 2, 39, 0, 0, 2, 72] = true := by decide +kernel
theorem lb_3 : dl_ck (cL_law.data.toList.drop 96) [0, 0, 2, 105, 0, 0, 2, 138, 0, 0, 2, 171, 0, 0, 2, 204, 0, 0, 2, 227, 0, 0, 3, 24, 0, 0, 3, 57, 0, 0, 3, 80] = true := by decide +kernel
theorem lb_4 : dl_ck (cL_law.data.toList.drop 128) [0, 0, 3, 103, 0, 0, 3, 136, 0, 0, 3, 159, 0, 0, 3, 182, 0, 0, 3, 205, 0, 0, 3, 228, 0, 0, 4, 5, 0, 0, 4, 38] = true := by decide +kernel
theorem lb_5 : dl_ck (cL_law.data.toList.drop 160) [0, 0, 4, 61, 0, 0, 4, 84, 0, 0, 4, 107, 0, 0, 4, 130, 0, 0, 4, 153, 0, 0, 4, 176, 0, 0, 4, 219, 0, 0, 4, 242] = true := by decide +kernel
theorem lb_6 : dl_ck (cL_law.data.toList.drop 192) [0, 0, 5, 9, 0, 0, 5, 52, 0, 0, 5, 75, 0, 0, 5, 108, 0, 0, 5, 141, 0, 0, 5, 184, 0, 0, 5, 217, 0, 0, 5, 230] = true := by decide +kernel
theorem lb_7 : dl_ck (cL_law.data.toList.drop 224) [0, 0, 5, 243, 0, 0, 6, 0, 0, 0, 6, 23, 0, 0, 6, 36, 0, 0, 6, 59, 43, 42, 29, 4, 96, 46, 42, 29, 5, 96, 46, 182] = true := by decide +kernel
theorem lb_8 : dl_ck (cL_law.data.toList.drop 256) [0, 13, 87, 44, 42, 29, 4, 96, 46, 42, 29, 5, 96, 46, 182, 0, 17, 87, 167, 5, 87, 43, 42, 29, 4, 96, 46, 42, 29, 5, 96, 46] = true := by decide +kernel
theorem lb_9 : dl_ck (cL_law.data.toList.drop 288) [42, 29, 6, 96, 46, 182, 0, 18, 87, 44, 42, 29, 4, 96, 46, 42, 29, 5, 96, 46, 42, 29, 6, 96, 46, 182, 0, 22, 87, 167, 5, 44] = true := by decide +kernel
theorem lb_10 : dl_ck (cL_law.data.toList.drop 320) [43, 42, 29, 4, 96, 46, 42, 29, 5, 96, 46, 182, 0, 23, 87, 44, 42, 29, 4, 96, 46, 42, 29, 5, 96, 46, 182, 0, 26, 87, 167, 5] = true := by decide +kernel
theorem lb_11 : dl_ck (cL_law.data.toList.drop 352) [11, 43, 42, 29, 4, 96, 46, 182, 0, 27, 87, 44, 42, 29, 4, 96, 46, 182, 0, 31, 87, 167, 4, 244, 43, 42, 29, 4, 96, 46, 42, 29] = true := by decide +kernel
theorem lb_12 : dl_ck (cL_law.data.toList.drop 384) [5, 96, 46, 42, 29, 6, 96, 46, 42, 29, 7, 96, 46, 42, 29, 8, 96, 46, 182, 0, 32, 87, 44, 42, 29, 4, 96, 46, 42, 29, 5, 96] = true := by decide +kernel
theorem lb_13 : dl_ck (cL_law.data.toList.drop 416) [46, 42, 29, 6, 96, 46, 42, 29, 7, 96, 46, 42, 29, 8, 96, 46, 182, 0, 36, 87, 167, 4, 181, 43, 42, 29, 4, 96, 46, 182, 0, 37] = true := by decide +kernel
theorem lb_14 : dl_ck (cL_law.data.toList.drop 448) [87, 44, 42, 29, 4, 96, 46, 182, 0, 40, 87, 167, 4, 158, 43, 42, 29, 4, 96, 46, 42, 29, 5, 96, 46, 182, 0, 41, 87, 44, 42, 29] = true := by decide +kernel
theorem lb_15 : dl_ck (cL_law.data.toList.drop 480) [4, 96, 46, 42, 29, 5, 96, 46, 182, 0, 44, 87, 167, 4, 125, 43, 42, 29, 4, 96, 46, 42, 29, 5, 96, 46, 42, 29, 6, 96, 46, 182] = true := by decide +kernel
theorem lb_16 : dl_ck (cL_law.data.toList.drop 512) [0, 45, 87, 44, 42, 29, 4, 96, 46, 42, 29, 5, 96, 46, 42, 29, 6, 96, 46, 182, 0, 48, 87, 167, 4, 82, 43, 42, 29, 4, 96, 46] = true := by decide +kernel
theorem lb_17 : dl_ck (cL_law.data.toList.drop 544) [182, 0, 49, 87, 44, 42, 29, 4, 96, 46, 182, 0, 52, 87, 167, 4, 59, 43, 42, 29, 4, 96, 46, 182, 0, 53, 87, 44, 42, 29, 4, 96] = true := by decide +kernel
theorem lb_18 : dl_ck (cL_law.data.toList.drop 576) [46, 182, 0, 56, 87, 167, 4, 36, 43, 42, 29, 4, 96, 46, 42, 29, 5, 96, 46, 182, 0, 57, 87, 44, 42, 29, 4, 96, 46, 42, 29, 5] = true := by decide +kernel
theorem lb_19 : dl_ck (cL_law.data.toList.drop 608) [96, 46, 182, 0, 60, 87, 167, 4, 3, 43, 42, 29, 4, 96, 46, 42, 29, 5, 96, 46, 182, 0, 61, 87, 44, 42, 29, 4, 96, 46, 42, 29] = true := by decide +kernel
theorem lb_20 : dl_ck (cL_law.data.toList.drop 640) [5, 96, 46, 182, 0, 64, 87, 167, 3, 226, 43, 42, 29, 4, 96, 46, 42, 29, 5, 96, 46, 182, 0, 65, 87, 44, 42, 29, 4, 96, 46, 42] = true := by decide +kernel
theorem lb_21 : dl_ck (cL_law.data.toList.drop 672) [29, 5, 96, 46, 182, 0, 68, 87, 167, 3, 193, 43, 42, 29, 4, 96, 46, 42, 29, 5, 96, 46, 182, 0, 69, 87, 44, 42, 29, 4, 96, 46] = true := by decide +kernel
theorem lb_22 : dl_ck (cL_law.data.toList.drop 704) [42, 29, 5, 96, 46, 182, 0, 72, 87, 167, 3, 160, 43, 42, 29, 4, 96, 46, 42, 29, 5, 96, 46, 182, 0, 73, 87, 44, 42, 29, 4, 96] = true := by decide +kernel
theorem lb_23 : dl_ck (cL_law.data.toList.drop 736) [46, 42, 29, 5, 96, 46, 182, 0, 76, 87, 167, 3, 127, 43, 42, 29, 4, 96, 46, 182, 0, 77, 87, 44, 42, 29, 4, 96, 46, 182, 0, 80] = true := by decide +kernel
theorem lb_24 : dl_ck (cL_law.data.toList.drop 768) [87, 167, 3, 104, 43, 42, 29, 4, 96, 46, 42, 29, 5, 96, 46, 42, 29, 6, 96, 46, 42, 29, 7, 96, 46, 182, 0, 81, 87, 44, 42, 29] = true := by decide +kernel
theorem lb_25 : dl_ck (cL_law.data.toList.drop 800) [4, 96, 46, 42, 29, 5, 96, 46, 42, 29, 6, 96, 46, 42, 29, 7, 96, 46, 182, 0, 85, 87, 167, 3, 51, 43, 42, 29, 4, 96, 46, 42] = true := by decide +kernel
theorem lb_26 : dl_ck (cL_law.data.toList.drop 832) [29, 5, 96, 46, 182, 0, 86, 87, 44, 42, 29, 4, 96, 46, 42, 29, 5, 96, 46, 182, 0, 89, 87, 167, 3, 18, 43, 42, 29, 4, 96, 46] = true := by decide +kernel
theorem lb_27 : dl_ck (cL_law.data.toList.drop 864) [182, 0, 90, 87, 44, 42, 29, 4, 96, 46, 182, 0, 93, 87, 167, 2, 251, 43, 42, 29, 4, 96, 46, 182, 0, 94, 87, 44, 42, 29, 4, 96] = true := by decide +kernel
theorem lb_28 : dl_ck (cL_law.data.toList.drop 896) [46, 182, 0, 97, 87, 167, 2, 228, 43, 42, 29, 4, 96, 46, 42, 29, 5, 96, 46, 182, 0, 98, 87, 44, 42, 29, 4, 96, 46, 42, 29, 5] = true := by decide +kernel
theorem lb_29 : dl_ck (cL_law.data.toList.drop 928) [96, 46, 182, 0, 101, 87, 167, 2, 195, 43, 42, 29, 4, 96, 46, 182, 0, 102, 87, 44, 42, 29, 4, 96, 46, 182, 0, 105, 87, 167, 2, 172] = true := by decide +kernel
theorem lb_30 : dl_ck (cL_law.data.toList.drop 960) [43, 42, 29, 4, 96, 46, 182, 0, 106, 87, 44, 42, 29, 4, 96, 46, 182, 0, 109, 87, 167, 2, 149, 43, 42, 29, 4, 96, 46, 182, 0, 110] = true := by decide +kernel
theorem lb_31 : dl_ck (cL_law.data.toList.drop 992) [87, 44, 42, 29, 4, 96, 46, 182, 0, 113, 87, 167, 2, 126, 43, 42, 29, 4, 96, 46, 182, 0, 114, 87, 44, 42, 29, 4, 96, 46, 182, 0] = true := by decide +kernel
theorem lb_32 : dl_ck (cL_law.data.toList.drop 1024) [117, 87, 167, 2, 103, 43, 42, 29, 4, 96, 46, 42, 29, 5, 96, 46, 182, 0, 118, 87, 44, 42, 29, 4, 96, 46, 42, 29, 5, 96, 46, 182] = true := by decide +kernel
theorem lb_33 : dl_ck (cL_law.data.toList.drop 1056) [0, 121, 87, 167, 2, 70, 43, 42, 29, 4, 96, 46, 42, 29, 5, 96, 46, 182, 0, 122, 87, 44, 42, 29, 4, 96, 46, 42, 29, 5, 96, 46] = true := by decide +kernel
theorem lb_34 : dl_ck (cL_law.data.toList.drop 1088) [182, 0, 125, 87, 167, 2, 37, 43, 42, 29, 4, 96, 46, 182, 0, 126, 87, 44, 42, 29, 4, 96, 46, 182, 0, 129, 87, 167, 2, 14, 43, 42] = true := by decide +kernel
theorem lb_35 : dl_ck (cL_law.data.toList.drop 1120) [29, 4, 96, 46, 182, 0, 130, 87, 44, 42, 29, 4, 96, 46, 182, 0, 133, 87, 167, 1, 247, 43, 42, 29, 4, 96, 46, 182, 0, 134, 87, 44] = true := by decide +kernel
theorem lb_36 : dl_ck (cL_law.data.toList.drop 1152) [42, 29, 4, 96, 46, 182, 0, 137, 87, 167, 1, 224, 43, 42, 29, 4, 96, 46, 182, 0, 138, 87, 44, 42, 29, 4, 96, 46, 182, 0, 141, 87] = true := by decide +kernel
theorem lb_37 : dl_ck (cL_law.data.toList.drop 1184) [167, 1, 201, 43, 42, 29, 4, 96, 46, 182, 0, 142, 87, 44, 42, 29, 4, 96, 46, 182, 0, 145, 87, 167, 1, 178, 43, 42, 29, 4, 96, 46] = true := by decide +kernel
theorem lb_38 : dl_ck (cL_law.data.toList.drop 1216) [182, 0, 146, 87, 44, 42, 29, 4, 96, 46, 182, 0, 149, 87, 167, 1, 155, 43, 42, 29, 4, 96, 46, 42, 29, 5, 96, 46, 42, 29, 6, 96] = true := by decide +kernel
theorem lb_39 : dl_ck (cL_law.data.toList.drop 1248) [46, 182, 0, 150, 87, 44, 42, 29, 4, 96, 46, 42, 29, 5, 96, 46, 42, 29, 6, 96, 46, 182, 0, 153, 87, 167, 1, 112, 43, 42, 29, 4] = true := by decide +kernel
theorem lb_40 : dl_ck (cL_law.data.toList.drop 1280) [96, 46, 182, 0, 154, 87, 44, 42, 29, 4, 96, 46, 182, 0, 157, 87, 167, 1, 89, 43, 42, 29, 4, 96, 46, 182, 0, 158, 87, 44, 42, 29] = true := by decide +kernel
theorem lb_41 : dl_ck (cL_law.data.toList.drop 1312) [4, 96, 46, 182, 0, 161, 87, 167, 1, 66, 43, 42, 29, 4, 96, 46, 42, 29, 5, 96, 46, 42, 29, 6, 96, 46, 182, 0, 162, 44, 42, 29] = true := by decide +kernel
theorem lb_42 : dl_ck (cL_law.data.toList.drop 1344) [4, 96, 46, 42, 29, 5, 96, 46, 42, 29, 6, 96, 46, 182, 0, 165, 159, 1, 25, 3, 172, 43, 42, 29, 4, 96, 46, 182, 0, 166, 87, 44] = true := by decide +kernel
theorem lb_43 : dl_ck (cL_law.data.toList.drop 1376) [42, 29, 4, 96, 46, 182, 0, 169, 87, 167, 1, 0, 43, 42, 29, 4, 96, 46, 42, 29, 5, 96, 46, 182, 0, 170, 87, 44, 42, 29, 4, 96] = true := by decide +kernel
theorem lb_44 : dl_ck (cL_law.data.toList.drop 1408) [46, 42, 29, 5, 96, 46, 182, 0, 173, 87, 167, 0, 223, 43, 42, 29, 4, 96, 46, 42, 29, 5, 96, 46, 182, 0, 174, 87, 44, 42, 29, 4] = true := by decide +kernel
theorem lb_45 : dl_ck (cL_law.data.toList.drop 1440) [96, 46, 42, 29, 5, 96, 46, 182, 0, 177, 87, 167, 0, 190, 43, 42, 29, 4, 96, 46, 42, 29, 5, 96, 46, 42, 29, 6, 96, 46, 182, 0] = true := by decide +kernel
theorem lb_46 : dl_ck (cL_law.data.toList.drop 1472) [178, 87, 44, 42, 29, 4, 96, 46, 42, 29, 5, 96, 46, 42, 29, 6, 96, 46, 182, 0, 181, 87, 167, 0, 147, 43, 42, 29, 4, 96, 46, 42] = true := by decide +kernel
theorem lb_47 : dl_ck (cL_law.data.toList.drop 1504) [29, 5, 96, 46, 182, 0, 182, 87, 44, 42, 29, 4, 96, 46, 42, 29, 5, 96, 46, 182, 0, 185, 87, 167, 0, 114, 43, 182, 0, 186, 87, 44] = true := by decide +kernel
theorem lb_48 : dl_ck (cL_law.data.toList.drop 1536) [182, 0, 190, 87, 167, 0, 101, 43, 182, 0, 191, 88, 44, 182, 0, 195, 88, 167, 0, 88, 43, 182, 0, 196, 88, 44, 182, 0, 199, 88, 167, 0] = true := by decide +kernel
theorem lb_49 : dl_ck (cL_law.data.toList.drop 1568) [75, 43, 42, 29, 4, 96, 46, 182, 0, 200, 87, 44, 42, 29, 4, 96, 46, 182, 0, 203, 87, 167, 0, 52, 43, 182, 0, 204, 87, 44, 182, 0] = true := by decide +kernel
theorem lb_50 : dl_ck (cL_law.data.toList.drop 1600) [207, 87, 167, 0, 39, 43, 42, 29, 4, 96, 46, 182, 0, 208, 87, 44, 42, 29, 4, 96, 46, 182, 0, 211, 87, 167, 0, 16, 43, 182, 0, 212] = true := by decide +kernel
theorem lb_51 : dl_ck (cL_law.data.toList.drop 1632) [88, 44, 182, 0, 215, 88, 167, 0, 3, 132, 3, 6, 167, 249, 166, 4, 172] = true := by decide +kernel
theorem mw_2_195 : (Cond.code yX11_row cX11_row 3 (some .int) : Cond) ∈ lw_good := lg_at 2 195 rfl rfl
theorem mw_2_192 : (Cond.methodLink RL 13 yX11_row : Cond) ∈ lw_good := lg_at 2 192 rfl rfl
theorem mw_2_193 : (Cond.instanceMethod yX11_row : Cond) ∈ lw_good := lg_at 2 193 rfl rfl
theorem mw_2_194 : (Cond.selects RX11 yX11_row yX11_row : Cond) ∈ lw_good := lg_at 2 194 rfl rfl
theorem mw_5_180 : (Cond.methodLink RL 17 yX12_row : Cond) ∈ lw_good := lg_at 5 180 rfl rfl
theorem mw_2_213 : (Cond.code yX11_lay cX11_lay 5 (some .int) : Cond) ∈ lw_good := lg_at 2 213 rfl rfl
theorem mw_2_210 : (Cond.methodLink RL 18 yX11_lay : Cond) ∈ lw_good := lg_at 2 210 rfl rfl
theorem mw_2_211 : (Cond.instanceMethod yX11_lay : Cond) ∈ lw_good := lg_at 2 211 rfl rfl
theorem mw_2_212 : (Cond.selects RX11 yX11_lay yX11_lay : Cond) ∈ lw_good := lg_at 2 212 rfl rfl
theorem mw_5_217 : (Cond.code yX12_lay cX12_lay 5 (some .int) : Cond) ∈ lw_good := lg_at 5 217 rfl rfl
theorem mw_5_214 : (Cond.methodLink RL 22 yX12_lay : Cond) ∈ lw_good := lg_at 5 214 rfl rfl
theorem mw_5_215 : (Cond.instanceMethod yX12_lay : Cond) ∈ lw_good := lg_at 5 215 rfl rfl
theorem mw_5_216 : (Cond.selects RX12 yX12_lay yX12_lay : Cond) ∈ lw_good := lg_at 5 216 rfl rfl
theorem mw_2_229 : (Cond.code yX11_at cX11_at 4 (some .int) : Cond) ∈ lw_good := lg_at 2 229 rfl rfl
theorem mw_2_226 : (Cond.methodLink RL 23 yX11_at : Cond) ∈ lw_good := lg_at 2 226 rfl rfl
theorem mw_2_227 : (Cond.instanceMethod yX11_at : Cond) ∈ lw_good := lg_at 2 227 rfl rfl
theorem mw_2_228 : (Cond.selects RX11 yX11_at yX11_at : Cond) ∈ lw_good := lg_at 2 228 rfl rfl
theorem mw_5_198 : (Cond.methodLink RL 26 yX12_at : Cond) ∈ lw_good := lg_at 5 198 rfl rfl
theorem mw_2_233 : (Cond.code yX11_tear cX11_tear 3 (some .int) : Cond) ∈ lw_good := lg_at 2 233 rfl rfl
theorem mw_2_230 : (Cond.methodLink RL 27 yX11_tear : Cond) ∈ lw_good := lg_at 2 230 rfl rfl
theorem mw_2_231 : (Cond.instanceMethod yX11_tear : Cond) ∈ lw_good := lg_at 2 231 rfl rfl
theorem mw_2_232 : (Cond.selects RX11 yX11_tear yX11_tear : Cond) ∈ lw_good := lg_at 2 232 rfl rfl
theorem mw_5_222 : (Cond.code yX12_tear cX12_tear 3 (some .int) : Cond) ∈ lw_good := lg_at 5 222 rfl rfl
theorem mw_5_219 : (Cond.methodLink RL 31 yX12_tear : Cond) ∈ lw_good := lg_at 5 219 rfl rfl
theorem mw_5_220 : (Cond.instanceMethod yX12_tear : Cond) ∈ lw_good := lg_at 5 220 rfl rfl
theorem mw_5_221 : (Cond.selects RX12 yX12_tear yX12_tear : Cond) ∈ lw_good := lg_at 5 221 rfl rfl
theorem mw_2_237 : (Cond.code yX11_copy cX11_copy 6 (some .int) : Cond) ∈ lw_good := lg_at 2 237 rfl rfl
theorem mw_2_234 : (Cond.methodLink RL 32 yX11_copy : Cond) ∈ lw_good := lg_at 2 234 rfl rfl
theorem mw_2_235 : (Cond.instanceMethod yX11_copy : Cond) ∈ lw_good := lg_at 2 235 rfl rfl
theorem mw_2_236 : (Cond.selects RX11 yX11_copy yX11_copy : Cond) ∈ lw_good := lg_at 2 236 rfl rfl
theorem mw_5_226 : (Cond.code yX12_copy cX12_copy 7 (some .int) : Cond) ∈ lw_good := lg_at 5 226 rfl rfl
theorem mw_5_223 : (Cond.methodLink RL 36 yX12_copy : Cond) ∈ lw_good := lg_at 5 223 rfl rfl
theorem mw_5_224 : (Cond.instanceMethod yX12_copy : Cond) ∈ lw_good := lg_at 5 224 rfl rfl
theorem mw_5_225 : (Cond.selects RX12 yX12_copy yX12_copy : Cond) ∈ lw_good := lg_at 5 225 rfl rfl
theorem mw_3_8 : (Cond.code yX11_mean cX11_mean 7 (some .int) : Cond) ∈ lw_good := lg_at 3 8 rfl rfl
theorem mw_3_5 : (Cond.methodLink RL 37 yX11_mean : Cond) ∈ lw_good := lg_at 3 5 rfl rfl
theorem mw_3_6 : (Cond.instanceMethod yX11_mean : Cond) ∈ lw_good := lg_at 3 6 rfl rfl
theorem mw_3_7 : (Cond.selects RX11 yX11_mean yX11_mean : Cond) ∈ lw_good := lg_at 3 7 rfl rfl
theorem mw_5_230 : (Cond.code yX12_mean cX12_mean 6 (some .int) : Cond) ∈ lw_good := lg_at 5 230 rfl rfl
theorem mw_5_227 : (Cond.methodLink RL 40 yX12_mean : Cond) ∈ lw_good := lg_at 5 227 rfl rfl
theorem mw_5_228 : (Cond.instanceMethod yX12_mean : Cond) ∈ lw_good := lg_at 5 228 rfl rfl
theorem mw_5_229 : (Cond.selects RX12 yX12_mean yX12_mean : Cond) ∈ lw_good := lg_at 5 229 rfl rfl
theorem mw_3_12 : (Cond.code yX11_text cX11_text 3 (some .int) : Cond) ∈ lw_good := lg_at 3 12 rfl rfl
theorem mw_3_9 : (Cond.methodLink RL 41 yX11_text : Cond) ∈ lw_good := lg_at 3 9 rfl rfl
theorem mw_3_10 : (Cond.instanceMethod yX11_text : Cond) ∈ lw_good := lg_at 3 10 rfl rfl
theorem mw_3_11 : (Cond.selects RX11 yX11_text yX11_text : Cond) ∈ lw_good := lg_at 3 11 rfl rfl
theorem mw_5_234 : (Cond.code yX12_text cX12_text 4 (some .int) : Cond) ∈ lw_good := lg_at 5 234 rfl rfl
theorem mw_5_231 : (Cond.methodLink RL 44 yX12_text : Cond) ∈ lw_good := lg_at 5 231 rfl rfl
theorem mw_5_232 : (Cond.instanceMethod yX12_text : Cond) ∈ lw_good := lg_at 5 232 rfl rfl
theorem mw_5_233 : (Cond.selects RX12 yX12_text yX12_text : Cond) ∈ lw_good := lg_at 5 233 rfl rfl
theorem mw_3_26 : (Cond.code yX11_put cX11_put 6 (some .int) : Cond) ∈ lw_good := lg_at 3 26 rfl rfl
theorem mw_3_23 : (Cond.methodLink RL 45 yX11_put : Cond) ∈ lw_good := lg_at 3 23 rfl rfl
theorem mw_3_24 : (Cond.instanceMethod yX11_put : Cond) ∈ lw_good := lg_at 3 24 rfl rfl
theorem mw_3_25 : (Cond.selects RX11 yX11_put yX11_put : Cond) ∈ lw_good := lg_at 3 25 rfl rfl
theorem mw_6_1 : (Cond.code yX12_put cX12_put 6 (some .int) : Cond) ∈ lw_good := lg_at 6 1 rfl rfl
theorem mw_5_238 : (Cond.methodLink RL 48 yX12_put : Cond) ∈ lw_good := lg_at 5 238 rfl rfl
theorem mw_5_239 : (Cond.instanceMethod yX12_put : Cond) ∈ lw_good := lg_at 5 239 rfl rfl
theorem mw_6_0 : (Cond.selects RX12 yX12_put yX12_put : Cond) ∈ lw_good := lg_at 6 0 rfl rfl
theorem mw_3_38 : (Cond.code yX11_fault cX11_fault 3 (some .int) : Cond) ∈ lw_good := lg_at 3 38 rfl rfl
theorem mw_3_35 : (Cond.methodLink RL 49 yX11_fault : Cond) ∈ lw_good := lg_at 3 35 rfl rfl
theorem mw_3_36 : (Cond.instanceMethod yX11_fault : Cond) ∈ lw_good := lg_at 3 36 rfl rfl
theorem mw_3_37 : (Cond.selects RX11 yX11_fault yX11_fault : Cond) ∈ lw_good := lg_at 3 37 rfl rfl
theorem mw_6_9 : (Cond.code yX12_fault cX12_fault 3 (some .int) : Cond) ∈ lw_good := lg_at 6 9 rfl rfl
theorem mw_6_6 : (Cond.methodLink RL 52 yX12_fault : Cond) ∈ lw_good := lg_at 6 6 rfl rfl
theorem mw_6_7 : (Cond.instanceMethod yX12_fault : Cond) ∈ lw_good := lg_at 6 7 rfl rfl
theorem mw_6_8 : (Cond.selects RX12 yX12_fault yX12_fault : Cond) ∈ lw_good := lg_at 6 8 rfl rfl
theorem mw_3_63 : (Cond.code yX11_town cX11_town 4 (some .int) : Cond) ∈ lw_good := lg_at 3 63 rfl rfl
theorem mw_3_60 : (Cond.methodLink RL 53 yX11_town : Cond) ∈ lw_good := lg_at 3 60 rfl rfl
theorem mw_3_61 : (Cond.instanceMethod yX11_town : Cond) ∈ lw_good := lg_at 3 61 rfl rfl
theorem mw_3_62 : (Cond.selects RX11 yX11_town yX11_town : Cond) ∈ lw_good := lg_at 3 62 rfl rfl
theorem mw_6_32 : (Cond.code yX12_town cX12_town 4 (some .int) : Cond) ∈ lw_good := lg_at 6 32 rfl rfl
theorem mw_6_29 : (Cond.methodLink RL 56 yX12_town : Cond) ∈ lw_good := lg_at 6 29 rfl rfl
theorem mw_6_30 : (Cond.instanceMethod yX12_town : Cond) ∈ lw_good := lg_at 6 30 rfl rfl
theorem mw_6_31 : (Cond.selects RX12 yX12_town yX12_town : Cond) ∈ lw_good := lg_at 6 31 rfl rfl
theorem mw_3_72 : (Cond.code yX11_bearer cX11_bearer 3 (some .int) : Cond) ∈ lw_good := lg_at 3 72 rfl rfl
theorem mw_3_69 : (Cond.methodLink RL 57 yX11_bearer : Cond) ∈ lw_good := lg_at 3 69 rfl rfl
theorem mw_3_70 : (Cond.instanceMethod yX11_bearer : Cond) ∈ lw_good := lg_at 3 70 rfl rfl
theorem mw_3_71 : (Cond.selects RX11 yX11_bearer yX11_bearer : Cond) ∈ lw_good := lg_at 3 71 rfl rfl
theorem mw_6_36 : (Cond.code yX12_bearer cX12_bearer 3 (some .int) : Cond) ∈ lw_good := lg_at 6 36 rfl rfl
theorem mw_6_33 : (Cond.methodLink RL 60 yX12_bearer : Cond) ∈ lw_good := lg_at 6 33 rfl rfl
theorem mw_6_34 : (Cond.instanceMethod yX12_bearer : Cond) ∈ lw_good := lg_at 6 34 rfl rfl
theorem mw_6_35 : (Cond.selects RX12 yX12_bearer yX12_bearer : Cond) ∈ lw_good := lg_at 6 35 rfl rfl
theorem mw_3_101 : (Cond.code yX11_mark cX11_mark 3 (some .int) : Cond) ∈ lw_good := lg_at 3 101 rfl rfl
theorem mw_3_98 : (Cond.methodLink RL 61 yX11_mark : Cond) ∈ lw_good := lg_at 3 98 rfl rfl
theorem mw_3_99 : (Cond.instanceMethod yX11_mark : Cond) ∈ lw_good := lg_at 3 99 rfl rfl
theorem mw_3_100 : (Cond.selects RX11 yX11_mark yX11_mark : Cond) ∈ lw_good := lg_at 3 100 rfl rfl
theorem mw_6_66 : (Cond.code yX12_mark cX12_mark 6 (some .int) : Cond) ∈ lw_good := lg_at 6 66 rfl rfl
theorem mw_6_63 : (Cond.methodLink RL 64 yX12_mark : Cond) ∈ lw_good := lg_at 6 63 rfl rfl
theorem mw_6_64 : (Cond.instanceMethod yX12_mark : Cond) ∈ lw_good := lg_at 6 64 rfl rfl
theorem mw_6_65 : (Cond.selects RX12 yX12_mark yX12_mark : Cond) ∈ lw_good := lg_at 6 65 rfl rfl
theorem mw_3_124 : (Cond.code yX11_purse cX11_purse 4 (some .int) : Cond) ∈ lw_good := lg_at 3 124 rfl rfl
theorem mw_3_121 : (Cond.methodLink RL 65 yX11_purse : Cond) ∈ lw_good := lg_at 3 121 rfl rfl
theorem mw_3_122 : (Cond.instanceMethod yX11_purse : Cond) ∈ lw_good := lg_at 3 122 rfl rfl
theorem mw_3_123 : (Cond.selects RX11 yX11_purse yX11_purse : Cond) ∈ lw_good := lg_at 3 123 rfl rfl
theorem mw_6_82 : (Cond.code yX12_purse cX12_purse 4 (some .int) : Cond) ∈ lw_good := lg_at 6 82 rfl rfl
theorem mw_6_79 : (Cond.methodLink RL 68 yX12_purse : Cond) ∈ lw_good := lg_at 6 79 rfl rfl
theorem mw_6_80 : (Cond.instanceMethod yX12_purse : Cond) ∈ lw_good := lg_at 6 80 rfl rfl
theorem mw_6_81 : (Cond.selects RX12 yX12_purse yX12_purse : Cond) ∈ lw_good := lg_at 6 81 rfl rfl
