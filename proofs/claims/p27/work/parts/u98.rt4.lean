-- ===== routes: a walk from its start; letters; the methods =====
theorem link_loop {s : Int32} {mum : Nat → Nat → Int32} (hb : 0 ≤ (mum 0 8).toInt ∧ (mum 0 8).toInt ≤ 7) (hp : 0 ≤ (mum 0 11).toInt ∧ (mum 0 11).toInt ≤ 12) (hs : s = mum 0 13) : ∀ (n : Nat) (i : Int32) (nu : Nat → Nat → Int32), simK nu mum → 0 ≤ i.toInt → i.toInt ≤ 7 → (7 - i.toInt).toNat < n → (∀ k : Nat, k ≠ 52 → L_sx_linkUnder_2_0 s n i nu k = nu k) ∧ (∀ j : Nat, (j : Int) < i.toInt → L_sx_linkUnder_2_0 s n i nu 52 j = nu 52 j) ∧ ∀ j : Nat, i.toInt ≤ (j : Int) → (j : Int) < (mum 0 8).toInt → L_sx_linkUnder_2_0 s n i nu 52 j = F_sm_besideOf mum (nI j) := by
  intro n
  induction n with
  | zero => intro i nu _ _ _ hn; exact absurd hn (Nat.not_lt_zero _)
  | succ n ih =>
    intro i nu hK h0 h7 hn
    obtain ⟨z, ez⟩ : ∃ z, z = L_sx_linkUnder_2_0 s (n + 1) i nu := ⟨_, rfl⟩
    rw [← ez]
    unfold L_sx_linkUnder_2_0 at ez
    obtain ⟨y1, e1, ez⟩ := letv_out ez
    rw [← e1, hK.1] at ez
    by_cases c : i ≥ mum 0 8
    · rw [if_pos c] at ez
      have := vv_ge.mp c
      rw [ez]
      exact ⟨fun _ _ => rfl, fun _ _ => rfl, fun j h1 h2 => by omega⟩
    · rw [if_neg c] at ez
      have c' : ¬ (mum 0 8).toInt ≤ i.toInt := fun e => c (vv_ge.mpr e)
      obtain ⟨r3, e3, ez⟩ := letv_out ez
      obtain ⟨n4, e4, ez⟩ := letv_out ez
      obtain ⟨w, ew, ez⟩ := letv_out ez
      have i1 : (i + 1).toInt = i.toInt + 1 := vp1 (by omega)
      have hci := tC_of h0
      rw [← ew] at ez
      rw [near_eq hK hp hs] at e3
      have k4 : ∀ k : Nat, k ≠ 52 → n4 k = nu k := uw_k e4
      have hK4 : simK n4 mum := by
        unfold simK
        rw [k4 4 (by decide), k4 34 (by decide), k4 35 (by decide), k4 36 (by decide)]
        exact hK
      obtain ⟨a1, a2, a3⟩ := ih (i + 1) n4 hK4 (by omega) (by omega) (by omega)
      rw [ez]
      refine ⟨fun k hk => (a1 k hk).trans (k4 k hk), fun j hj => ?_, fun j h1 h2 => ?_⟩
      · rw [a2 j (by omega)]
        exact uw_f e4 j (by omega)
      · by_cases e : (j : Int) = i.toInt
        · rw [a2 j (by omega)]
          have ej : j = i.toNatClampNeg := by omega
          rw [ej, uw_v e4, ← e3, ← nI_at h0]
        · exact a3 j (by omega) h2
theorem lookF {mux mum xi : Nat → Nat → Int32} {x y p : Int32} (bd : bdM mum) (hC : core mux mum) (h : xi = F_sx_lookFrom mux x y p) : (∀ k : Nat, k ≠ 32 → k ≠ 52 → k ≠ 53 → xi k = mux k) ∧ (∀ f : Nat, f ≠ 5 → f ≠ 6 → f ≠ 7 → xi 32 f = mux 32 f) ∧ (xi 32 5 = x ∧ xi 32 6 = y ∧ xi 32 7 = p) ∧ (∀ j : Nat, j < 7 → xi 53 j = mux 46 j) ∧ ∀ j : Nat, (j : Int) < (mum 0 8).toInt → xi 52 j = F_sm_besideOf mum (nI j) := by
  unfold F_sx_lookFrom at h
  obtain ⟨n1, e1, h⟩ := letv_out h
  obtain ⟨n4, e4, h⟩ := letv_out h
  obtain ⟨n8, e8, h⟩ := letv_out h
  obtain ⟨n13, e13, h⟩ := letv_out h
  obtain ⟨y18, e18, h⟩ := letv_out h
  obtain ⟨x19, e19, h⟩ := letv_out h
  have k13 : ∀ k : Nat, k ≠ 32 → k ≠ 53 → n13 k = mux k := fun k h1 h2 => by rw [uw_k e13 k h2, uw_k e8 k h1, uw_k e4 k h1, uw_k e1 k h1]
  have v32 : n13 32 = n8 32 := uw_k e13 32 (by decide)
  have hK := hC.1
  have hs : y18 = mum 0 13 := by rw [← e18, k13 5 (by decide) (by decide)]; exact hC.2.2.1.1
  have hK13 : simK n13 mum := by
    unfold simK
    rw [k13 4 (by decide) (by decide), k13 34 (by decide) (by decide), k13 35 (by decide) (by decide), k13 36 (by decide) (by decide)]
    exact hK
  obtain ⟨a1, a2, a3⟩ := link_loop bd.1 bd.2.1 hs 10 0 n13 hK13 (by decide) (by decide) (by decide)
  have ex : xi = L_sx_linkUnder_2_0 y18 10 0 n13 := by rw [h, ← e19]; rfl
  rw [ex]
  have v53 : ∀ j : Nat, j < 7 → n13 53 j = mux 46 j := fun j hj => by
    have z0 : (0 : Int32).toNatClampNeg = 0 := rfl
    have z7 : (7 : Int32).toNatClampNeg = 7 := rfl
    rw [← e13, up_eq, z0, z7]
    have e46 : n8 46 = mux 46 := by rw [uw_k e8 46 (by decide), uw_k e4 46 (by decide), uw_k e1 46 (by decide)]
    rw [e46]
    simp [va_cpy, hj]
  refine ⟨fun k h1 h2 h3 => (a1 k h2).trans (k13 k h1 h3), fun f h1 h2 h3 => ?_, ⟨?_, ?_, ?_⟩, fun j hj => ?_, fun j hj => a3 j (by show (0 : Int) ≤ _; omega) hj⟩
  · rw [a1 32 (by decide), v32, uw_f e8 f h3, uw_f e4 f h2, uw_f e1 f h1]
  · rw [a1 32 (by decide), v32, uw_f e8 5 (by decide), uw_f e4 5 (by decide), uw_v e1]
  · rw [a1 32 (by decide), v32, uw_f e8 6 (by decide), uw_v e4]
  · rw [a1 32 (by decide), v32, uw_v e8]
  · rw [a1 53 (by decide)]
    exact v53 j hj
def letV (vk : Int32) (nux num : Nat → Nat → Int32) : Prop := ∃ W0 : Int, W0 ≤ 3000 ∧ ((0 ≤ W0 ∧ (nux 32 8).toInt = W0) ∨ (W0 < 0 ∧ (nux 32 8).toInt = 0)) ∧ (0 ≤ (nux 32 9).toInt ∧ (nux 32 9).toInt ≤ 9) ∧ F_sm_letterOf num vk 3 = nux 32 9 ∧ nux 32 10 = (if F_sm_letterOf num vk 8 = num 0 14 then 1 else 0) ∧ ∀ L : Int32, 0 ≤ L.toInt → L.toInt ≤ 7 → ((0 ≤ W0 - (nux 32 9).toInt * L.toInt ∧ (F_sm_worthIn num vk L).toInt = W0 - (nux 32 9).toInt * L.toInt) ∨ (W0 - (nux 32 9).toInt * L.toInt < 0 ∧ (F_sm_worthIn num vk L).toInt = 0))
/-- all walks from a start -/
theorem start {T : Int} {nux num xi1 xi2 : Nat → Nat → Int32} {vk vf vg vp : Int32} (hT : T ≤ 1000000) (hB : nux 4 6 = num 0 8) (hb : 0 ≤ (num 0 8).toInt ∧ (num 0 8).toInt ≤ 7) (hx : ∀ x : Nat, x < (num 0 8).toNatClampNeg → nux 34 x = num 7 x ∧ nux 52 x = F_sm_besideOf num (nI x) ∧ nux 53 x = num 8 x ∧ 0 ≤ (num 8 x).toInt ∧ (num 8 x).toInt ≤ T) (hg : nux 32 6 = vg) (hpc : ¬ num 0 38 = 0) (hf : nux 32 5 = vf) (hfr : 0 ≤ vf.toInt ∧ vf.toInt < (num 0 8).toInt) (hpd : nux 32 7 = vp) (hpr : 0 ≤ vp.toInt ∧ vp.toInt ≤ T) (hl : vk = -9 ∨ (¬ vk = -9 ∧ letV vk nux num)) (h1 : xi1 = F_sx_walkAll nux) (h2 : xi2 = F_sm_setRoutes num vk vf vg vp) : fixX nux xi1 ∧ ((∀ k : Nat, k ≠ 0 → k ≠ 16 → k ≠ 17 → k ≠ 18 → xi2 k = num k) ∧ (∀ f : Nat, f < 29 ∨ f = 38 → xi2 0 f = num 0 f)) ∧ xi2 0 39 = vk ∧ rel 137256 xi1 xi2 := by
  unfold F_sx_walkAll at h1
  obtain ⟨n1, e1, h1⟩ := letv_out h1
  obtain ⟨n4, e4, h1⟩ := letv_out h1
  obtain ⟨n8, e8, h1⟩ := letv_out h1
  obtain ⟨n13, e13, h1⟩ := letv_out h1
  obtain ⟨n19, e19, h1⟩ := letv_out h1
  obtain ⟨n26, e26, h1⟩ := letv_out h1
  obtain ⟨y34, e34, h1⟩ := letv_out h1
  obtain ⟨n35, e35, h1⟩ := letv_out h1
  obtain ⟨t44, e44, h1⟩ := letv_out h1
  obtain ⟨y45, e45, h1⟩ := letv_out h1
  obtain ⟨x46, e46, h1⟩ := letv_out h1
  unfold F_sm_setRoutes at h2
  obtain ⟨_, _, h2⟩ := letv_out h2
  obtain ⟨_, _, h2⟩ := letv_out h2
  obtain ⟨_, _, h2⟩ := letv_out h2
  obtain ⟨m4, d4, h2⟩ := letv_out h2
  obtain ⟨m9, d9, h2⟩ := letv_out h2
  obtain ⟨m15, d15, h2⟩ := letv_out h2
  obtain ⟨m22, d22, h2⟩ := letv_out h2
  obtain ⟨m30, d30, h2⟩ := letv_out h2
  obtain ⟨m39, d39, h2⟩ := letv_out h2
  obtain ⟨m48, d48, h2⟩ := letv_out h2
  obtain ⟨m58, d58, h2⟩ := letv_out h2
  obtain ⟨m68, d68, h2⟩ := letv_out h2
  obtain ⟨m79, d79, h2⟩ := letv_out h2
  obtain ⟨m91, d91, h2⟩ := letv_out h2
  obtain ⟨t103, d103, h2⟩ := letv_out h2
  obtain ⟨x107, d107, h2⟩ := letv_out h2
  obtain ⟨_, _, h2⟩ := letv_out h2
  obtain ⟨_, _, h2⟩ := letv_out h2
  obtain ⟨_, _, h2⟩ := letv_out h2
  have kx : ∀ k : Nat, k ≠ 32 → k ≠ 54 → k ≠ 55 → k ≠ 56 → n35 k = nux k := fun k a b c d => by
    rw [uw_k e35 k b, uw_k e26 k d, uw_k e19 k c, uw_k e13 k a, uw_k e8 k a, uw_k e4 k a, uw_k e1 k a]
  have c32 : n35 32 = n13 32 := by rw [uw_k e35 32 (by decide), uw_k e26 32 (by decide), uw_k e19 32 (by decide)]
  have fx : ∀ f : Nat, f ≤ 10 → n35 32 f = nux 32 f := fun f hf => by
    rw [c32, uw_f e13 f (by omega), uw_f e8 f (by omega), uw_f e4 f (by omega), uw_f e1 f (by omega)]
  have x11 : n35 32 11 = 0 := by rw [c32, uw_f e13 11 (by decide), uw_f e8 11 (by decide), uw_f e4 11 (by decide), uw_v e1]
  have x12 : n35 32 12 = 0 := by rw [c32, uw_f e13 12 (by decide), uw_f e8 12 (by decide), uw_v e4]
  have x13 : n35 32 13 = -1 := by rw [c32, uw_f e13 13 (by decide), uw_v e8]
  have x14 : n35 32 14 = 2147483647 := by rw [c32, uw_v e13]
  have x553 : n35 55 3 = 0 := by rw [uw_k e35 55 (by decide), uw_k e26 55 (by decide), uw_v e19]
  have x563 : n35 56 3 = 0 := by rw [uw_k e35 56 (by decide), uw_v e26]
  have y5 : y34 = vf := by
    rw [← e34, uw_k e26 32 (by decide), uw_k e19 32 (by decide), uw_f e13 5 (by decide), uw_f e8 5 (by decide), uw_f e4 5 (by decide), uw_f e1 5 (by decide)]
    exact hf
  have x540 : n35 54 0 = vf := by
    have q : n35 54 0 = y34 := uw_v e35
    rw [q, y5]
  have m0 : m91 0 = m79 0 := uw_k d91 0 (by decide)
  have km : ∀ k : Nat, k ≠ 0 → k ≠ 16 → m91 k = num k := fun k a b => by
    rw [uw_k d91 k b, uw_k d79 k a, uw_k d68 k a, uw_k d58 k a, uw_k d48 k a, uw_k d39 k a, uw_k d30 k a, uw_k d22 k a, uw_k d15 k a, uw_k d9 k a, uw_k d4 k a]
  have fm : ∀ f : Nat, f < 29 ∨ f = 38 → m91 0 f = num 0 f := fun f hf => by
    rw [m0, uw_f d79 f (by omega), uw_f d68 f (by omega), uw_f d58 f (by omega), uw_f d48 f (by omega), uw_f d39 f (by omega), uw_f d30 f (by omega), uw_f d22 f (by omega), uw_f d15 f (by omega), uw_f d9 f (by omega), uw_f d4 f (by omega)]
  have w39 : m91 0 39 = vk := by rw [m0, uw_f d79 39 (by decide), uw_f d68 39 (by decide), uw_f d58 39 (by decide), uw_f d48 39 (by decide), uw_f d39 39 (by decide), uw_f d30 39 (by decide), uw_f d22 39 (by decide), uw_f d15 39 (by decide), uw_f d9 39 (by decide), uw_v d4]
  have w29 : m91 0 29 = vg := by rw [m0, uw_f d79 29 (by decide), uw_f d68 29 (by decide), uw_f d58 29 (by decide), uw_f d48 29 (by decide), uw_f d39 29 (by decide), uw_f d30 29 (by decide), uw_f d22 29 (by decide), uw_f d15 29 (by decide), uw_v d9]
  have w30 : m91 0 30 = 0 := by rw [m0, uw_f d79 30 (by decide), uw_f d68 30 (by decide), uw_f d58 30 (by decide), uw_f d48 30 (by decide), uw_f d39 30 (by decide), uw_f d30 30 (by decide), uw_f d22 30 (by decide), uw_v d15]
  have w31 : m91 0 31 = 1048576 := by rw [m0, uw_f d79 31 (by decide), uw_f d68 31 (by decide), uw_f d58 31 (by decide), uw_f d48 31 (by decide), uw_f d39 31 (by decide), uw_f d30 31 (by decide), uw_v d22]
  have w33 : m91 0 33 = 0 := by rw [m0, uw_f d79 33 (by decide), uw_f d68 33 (by decide), uw_f d58 33 (by decide), uw_f d48 33 (by decide), uw_v d39]
  have w35 : m91 0 35 = 1048576 := by rw [m0, uw_f d79 35 (by decide), uw_f d68 35 (by decide), uw_v d58]
  have w36 : m91 0 36 = 127 := by rw [m0, uw_f d79 36 (by decide), uw_v d68]
  have w37 : m91 0 37 = 1048576 := by rw [m0, uw_v d79]
  have w160 : m91 16 0 = vf := uw_v d91
  have f8 : m91 0 8 = num 0 8 := fm 8 (by omega)
  have c10 : m91 10 = num 10 := km 10 (by decide) (by decide)
  have f14 : m91 0 14 = num 0 14 := fm 14 (by omega)
  have hS : stR T n35 m91 := by
    refine ⟨?_, ?_, fun x hxx => ?_, ?_, ?_, ?_, ?_, ?_⟩
    · rw [kx 4 (by decide) (by decide) (by decide) (by decide), f8]; exact hB
    · rw [f8]; exact hb
    · rw [f8] at hxx
      obtain ⟨q1, q2, q3, q4⟩ := hx x hxx
      rw [kx 34 (by decide) (by decide) (by decide) (by decide), kx 52 (by decide) (by decide) (by decide) (by decide), kx 53 (by decide) (by decide) (by decide) (by decide), km 7 (by decide) (by decide), km 8 (by decide) (by decide)]
      refine ⟨q1, ?_, q3, q4⟩
      rw [q2]
      exact (bes_congr (km 9 (by decide) (by decide)) (fm 11 (by omega)) (fm 13 (by omega)) 15 0 0).symm
    · rw [fx 6 (by decide), w29]; exact hg
    · rw [fm 38 (by omega)]; exact hpc
    · rw [fx 5 (by decide), w160]; exact hf
    · rw [w160, f8]; exact hfr
    · rw [w39]
      rcases hl with e | ⟨e, W0, hW, h8, h9, l3, l10, hw⟩
      · exact Or.inl e
      · refine Or.inr ⟨e, W0, hW, ?_, ?_, ?_, ?_, fun L hL1 hL2 => ?_⟩
        · rw [fx 8 (by decide)]; exact h8
        · rw [fx 9 (by decide)]; exact h9
        · rw [w39, lof_congr c10, fx 9 (by decide)]; exact l3
        · rw [w39, lof_congr c10, f14, fx 10 (by decide)]; exact l10
        · rw [w39, win_congr c10 f14, fx 9 (by decide)]; exact hw L hL1 hL2
  have z0 : (0 : Int32).toInt = 0 := rfl
  have hR : rel 0 n35 m91 := by
    refine ⟨⟨by rw [x11, w30], by rw [w30, z0]; omega, Or.inl ⟨x553, w30, w31⟩⟩, fun _ => ⟨Or.inl ⟨w30, x14, w37⟩, by rw [x12, w33], by rw [w33, z0]; omega, Or.inl ⟨w33, x563, w35, x13, w36⟩⟩⟩
  have tt : t103 = t44 := by rw [← d103, ← e44, y5]
  have yp : y45 = vp := by rw [← e45, fx 7 (by decide)]; exact hpd
  have hbit : ∀ j : Nat, j < 32 → bt t44 j = true → j < 7 := fun j hj e => by
    rw [← e44, y5, b_bit hfr.1 (by omega) hj] at e
    have := of_decide_eq_true e
    have := tC_of hfr.1
    omega
  obtain ⟨z1, z2, z3⟩ := wk0 (u := t44) (p := vp) hT (by decide) hS hR (by rw [x540, w160]) (by rw [w160, f8]; exact hfr) hpr hbit
  rw [yp] at e46
  rw [tt] at d107
  rw [e46] at z1 z3
  rw [d107] at z2 z3
  rw [h1, h2]
  refine ⟨⟨fun k a b c d e f => (z1.1 k a b c d e f).trans (kx k a b c d), fun f hf => (z1.2 f hf).trans (fx f hf)⟩, ⟨fun k a b c d => (z2.1 k a b c d).trans (km k a b), fun f hf => (z2.2.1 f (by omega)).trans (fm f hf)⟩, (z2.2.1 39 (by omega)).trans w39, rel_le z3 (by decide)⟩

