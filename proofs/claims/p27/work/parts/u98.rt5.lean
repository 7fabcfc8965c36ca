-- ===== routes: of a letter, and the answers =====
theorem mul_rng {F X : Int} (h0 : 0 ≤ F) (h9 : F ≤ 9) (h1 : -300 ≤ X) (h2 : X ≤ 300) : -2700 ≤ F * X ∧ F * X ≤ 2700 := by
  have a : F * X ≤ F * 300 := Int.mul_le_mul_of_nonneg_left h2 h0
  have b : F * (-300) ≤ F * X := Int.mul_le_mul_of_nonneg_left h1 h0
  omega
theorem worthI {num : Nat → Nat → Int32} {k L : Int32} (hk : 0 ≤ k.toInt ∧ k.toInt ≤ 3) (hd : 0 ≤ (num 0 14).toInt ∧ (num 0 14).toInt ≤ 99) (w2 : 0 ≤ (num 10 (10 * k.toNatClampNeg + 2)).toInt ∧ (num 10 (10 * k.toNatClampNeg + 2)).toInt ≤ 99) (w3 : 0 ≤ (num 10 (10 * k.toNatClampNeg + 3)).toInt ∧ (num 10 (10 * k.toNatClampNeg + 3)).toInt ≤ 9) (w4 : 0 ≤ (num 10 (10 * k.toNatClampNeg + 4)).toInt ∧ (num 10 (10 * k.toNatClampNeg + 4)).toInt ≤ 99) (hL : 0 ≤ L.toInt ∧ L.toInt ≤ 7) {W0 : Int} (hW : W0 = (num 10 (10 * k.toNatClampNeg + 2)).toInt - (num 10 (10 * k.toNatClampNeg + 3)).toInt * ((num 0 14).toInt - (num 10 (10 * k.toNatClampNeg + 4)).toInt)) : (0 ≤ W0 - (num 10 (10 * k.toNatClampNeg + 3)).toInt * L.toInt ∧ (F_sm_worthIn num k L).toInt = W0 - (num 10 (10 * k.toNatClampNeg + 3)).toInt * L.toInt) ∨ (W0 - (num 10 (10 * k.toNatClampNeg + 3)).toInt * L.toInt < 0 ∧ (F_sm_worthIn num k L).toInt = 0) := by
  have i2 : F_sm_letterOf num k 2 = num 10 (10 * k.toNatClampNeg + 2) := fm_letterOf hk (by decide)
  have i3 : F_sm_letterOf num k 3 = num 10 (10 * k.toNatClampNeg + 3) := fm_letterOf hk (by decide)
  have i4 : F_sm_letterOf num k 4 = num 10 (10 * k.toNatClampNeg + 4) := fm_letterOf hk (by decide)
  simp only [F_sm_worthIn, letv_eq]
  rw [i2, i3, i4]
  generalize num 10 (10 * k.toNatClampNeg + 2) = w at *
  generalize num 10 (10 * k.toNatClampNeg + 3) = f at *
  generalize num 10 (10 * k.toNatClampNeg + 4) = s at *
  generalize num 0 14 = d at *
  have a : (d + L).toInt = d.toInt + L.toInt := tI_add rfl rfl (by omega) (by omega)
  have b : (d + L - s).toInt = d.toInt + L.toInt - s.toInt := tI_sub a rfl (by omega) (by omega)
  have r := mul_rng w3.1 w3.2 (X := d.toInt + L.toInt - s.toInt) (by omega) (by omega)
  have c : (f * (d + L - s)).toInt = f.toInt * (d.toInt + L.toInt - s.toInt) := tI_mul rfl b (by omega) (by omega)
  have e : (w - f * (d + L - s)).toInt = w.toInt - f.toInt * (d.toInt + L.toInt - s.toInt) := tI_sub rfl c (by omega) (by omega)
  have g : f.toInt * (d.toInt + L.toInt - s.toInt) = f.toInt * (d.toInt - s.toInt) + f.toInt * L.toInt := by
    rw [← Int.mul_add]
    congr 1
    omega
  have z : (0 : Int32).toInt = 0 := rfl
  generalize w - f * (d + L - s) = v at *
  by_cases q : v ≥ (0 : Int32)
  · have := vv_ge.mp q
    rw [if_pos q]
    left
    omega
  · have q' : ¬ (0 : Int32).toInt ≤ v.toInt := fun e => q (vv_ge.mpr e)
    rw [if_neg q]
    right
    omega
theorem pc_core {mux mum num : Nat → Nat → Int32} {v : Int32} (okm : okR loM hiM mum) (h : core mux mum) (e : va_up mum 0 (upd (mum 0) 38 v) = num) : core mux num := by
  refine core_of okm h (fun _ _ _ => rfl) (fun k f hg => ?_)
  by_cases c : k = 0
  · subst c
    by_cases c2 : f = 38
    · subst c2
      exact absurd hg (by decide)
    · exact uw_f e f c2
  · rw [uw_k e k c]
/-- what a walk of a letter finds, on both sides -/
theorem of_rel {T : Int} {mux num xi1 xi2 : Nat → Nat → Int32} {k : Int32} (hT : 0 ≤ T ∧ T ≤ 1000000) (bd : bdM num) (hC : core mux num) (hm : mon T num) (hk : 0 ≤ k.toInt ∧ k.toInt < (num 0 15).toInt) (hpc : ¬ num 0 38 = 0) (h1 : xi1 = F_sx_walkOf mux (61 + k.toNatClampNeg)) (h2 : xi2 = F_sm_routesOf num k) : rC 137256 xi1 xi2 ∧ rS 137256 xi1 xi2 := by
  have hcB := tC_of bd.1.1
  have hck := tC_of hk.1
  have hc15 := tC_of bd.2.2.1.1
  obtain ⟨l0, l1, l5, l9⟩ := hC.2.2.2.2.2.1 k.toNatClampNeg (by omega)
  obtain ⟨m6, m2, m3, m4⟩ := hm.2.1 k.toNatClampNeg (by omega)
  have day := hC.2.2.2.1
  have hk3 : 0 ≤ k.toInt ∧ k.toInt ≤ 3 := ⟨hk.1, by have := bd.2.2.1.2; omega⟩
  unfold F_sx_walkOf at h1
  obtain ⟨a1, ea1, h1⟩ := letv_out h1
  obtain ⟨a3, ea3, h1⟩ := letv_out h1
  have ea1 := ea1.symm
  unfold F_sx_lookAt at ea1
  obtain ⟨y1, f1, ea1⟩ := letv_out ea1
  obtain ⟨y2, f2, ea1⟩ := letv_out ea1
  obtain ⟨y3, f3, ea1⟩ := letv_out ea1
  obtain ⟨x4, f4, ea1⟩ := letv_out ea1
  obtain ⟨y6, f6, ea1⟩ := letv_out ea1
  obtain ⟨r7, f7, ea1⟩ := letv_out ea1
  obtain ⟨n8, f8, ea1⟩ := letv_out ea1
  obtain ⟨y12, f12, ea1⟩ := letv_out ea1
  obtain ⟨n13, f13, ea1⟩ := letv_out ea1
  obtain ⟨y19, f19, ea1⟩ := letv_out ea1
  obtain ⟨g1, g2, ⟨g5, g6, g7⟩, g53, g52⟩ := lookF bd hC f4.symm
  have kl : ∀ z : Nat, z < 4 → 61 + z ≠ 32 ∧ 61 + z ≠ 52 ∧ 61 + z ≠ 53 := fun z hz => by omega
  have hkl := kl k.toNatClampNeg (by omega)
  have cl4 : x4 (61 + k.toNatClampNeg) = mux (61 + k.toNatClampNeg) := g1 _ hkl.1 hkl.2.1 hkl.2.2
  have cl8 : n8 (61 + k.toNatClampNeg) = mux (61 + k.toNatClampNeg) := (uw_k f8 _ hkl.1).trans cl4
  have cl13 : n13 (61 + k.toNatClampNeg) = mux (61 + k.toNatClampNeg) := (uw_k f13 _ hkl.1).trans cl8
  have p1 : mux (61 + k.toNatClampNeg) 1 = num 10 (10 * k.toNatClampNeg + 1) := l0 1 (by decide)
  have p3 : mux (61 + k.toNatClampNeg) 3 = num 10 (10 * k.toNatClampNeg + 3) := l0 3 (by decide)
  have p5 : mux (61 + k.toNatClampNeg) 5 = num 10 (10 * k.toNatClampNeg + 5) := l0 5 (by decide)
  have p6 : mux (61 + k.toNatClampNeg) 6 = num 10 (10 * k.toNatClampNeg + 6) := l0 6 (by decide)
  have p7 : mux (61 + k.toNatClampNeg) 7 = num 10 (10 * k.toNatClampNeg + 8) := l0 7 (by decide)
  have i1 : F_sm_letterOf num k 1 = num 10 (10 * k.toNatClampNeg + 1) := fm_letterOf hk3 (by decide)
  have i3 : F_sm_letterOf num k 3 = num 10 (10 * k.toNatClampNeg + 3) := fm_letterOf hk3 (by decide)
  have i6 : F_sm_letterOf num k 6 = num 10 (10 * k.toNatClampNeg + 6) := fm_letterOf hk3 (by decide)
  have i8 : F_sm_letterOf num k 8 = num 10 (10 * k.toNatClampNeg + 8) := fm_letterOf hk3 (by decide)
  have d6 : y6 = num 0 14 := by rw [← f6, g1 5 (by decide) (by decide) (by decide)]; exact hC.2.2.1.2.1
  have hone : oneR (num 0 8).toInt (x4 (61 + k.toNatClampNeg)) (num 10) k.toNatClampNeg := by
    rw [cl4]
    exact ⟨l0, l1, l5, l9⟩
  have w8 : r7 = F_sm_worthIn num k 0 := by rw [← f7]; exact worth_eq hk3 d6 hone
  have hend : ∃ dl : Int32, va_up n13 32 (upd (n13 32) 10 dl) = a1 ∧ dl = (if F_sm_letterOf num k 8 = num 0 14 then 1 else 0) := by
    rw [cl13, p7, ← i8] at f19
    rw [f19, ← d6]
    by_cases c : y19 = y6
    · rw [if_pos c] at ea1
      obtain ⟨n29, e29, ea1⟩ := letv_out ea1
      exact ⟨1, by rw [ea1]; exact e29, by rw [if_pos c]⟩
    · rw [if_neg c] at ea1
      obtain ⟨n29, e29, ea1⟩ := letv_out ea1
      exact ⟨0, by rw [ea1]; exact e29, by rw [if_neg c]⟩
  obtain ⟨dl, edl, vdl⟩ := hend
  have ka : ∀ c : Nat, c ≠ 32 → c ≠ 52 → c ≠ 53 → a1 c = mux c := fun c q1 q2 q3 => by rw [uw_k edl c q1, uw_k f13 c q1, uw_k f8 c q1]; exact g1 c q1 q2 q3
  have ks : ∀ c : Nat, c ≠ 32 → a1 c = x4 c := fun c q1 => by rw [uw_k edl c q1, uw_k f13 c q1, uw_k f8 c q1]
  have v10 : a1 32 10 = (if F_sm_letterOf num k 8 = num 0 14 then 1 else 0) := by rw [uw_v edl]; exact vdl
  have v9 : a1 32 9 = num 10 (10 * k.toNatClampNeg + 3) := by rw [uw_f edl 9 (by decide), uw_v f13, ← f12, cl8]; exact p3
  have v8 : a1 32 8 = F_sm_worthIn num k 0 := by rw [uw_f edl 8 (by decide), uw_f f13 8 (by decide), uw_v f8]; exact w8
  have v7 : a1 32 7 = num 10 (10 * k.toNatClampNeg + 6) := by rw [uw_f edl 7 (by decide), uw_f f13 7 (by decide), uw_f f8 7 (by decide), g7, ← f3]; exact p6
  have v6 : a1 32 6 = num 10 (10 * k.toNatClampNeg + 1) := by rw [uw_f edl 6 (by decide), uw_f f13 6 (by decide), uw_f f8 6 (by decide), g6, ← f2]; exact p1
  have v5 : a1 32 5 = num 10 (10 * k.toNatClampNeg + 5) := by rw [uw_f edl 5 (by decide), uw_f f13 5 (by decide), uw_f f8 5 (by decide), g5, ← f1]; exact p5
  have fiv : F_sm_letterOf5 num k = num 10 (10 * k.toNatClampNeg + 5) := fm_letterOf5 hk3
  unfold F_sm_routesOf at h2
  obtain ⟨_, _, h2⟩ := letv_out h2
  obtain ⟨_, _, h2⟩ := letv_out h2
  obtain ⟨_, _, h2⟩ := letv_out h2
  obtain ⟨r4, e4, h2⟩ := letv_out h2
  obtain ⟨r5, e5, h2⟩ := letv_out h2
  obtain ⟨r6, e6, h2⟩ := letv_out h2
  obtain ⟨x7, e7, h2⟩ := letv_out h2
  obtain ⟨_, _, h2⟩ := letv_out h2
  obtain ⟨_, _, h2⟩ := letv_out h2
  obtain ⟨_, _, h2⟩ := letv_out h2
  rw [fiv] at e4
  rw [i1] at e5
  rw [i6] at e6
  have z0 : (0 : Int32).toInt = 0 := rfl
  have hne : ¬ k = -9 := i_ne9 hk.1
  obtain ⟨W0, hW⟩ : ∃ W : Int, W = (num 10 (10 * k.toNatClampNeg + 2)).toInt - (num 10 (10 * k.toNatClampNeg + 3)).toInt * ((num 0 14).toInt - (num 10 (10 * k.toNatClampNeg + 4)).toInt) := ⟨_, rfl⟩
  have wr : ∀ L : Int32, 0 ≤ L.toInt → L.toInt ≤ 7 → (0 ≤ W0 - (num 10 (10 * k.toNatClampNeg + 3)).toInt * L.toInt ∧ (F_sm_worthIn num k L).toInt = W0 - (num 10 (10 * k.toNatClampNeg + 3)).toInt * L.toInt) ∨ (W0 - (num 10 (10 * k.toNatClampNeg + 3)).toInt * L.toInt < 0 ∧ (F_sm_worthIn num k L).toInt = 0) := fun L q1 q2 => worthI hk3 day m2 m3 m4 ⟨q1, q2⟩ hW
  have hlet : letV k a1 num := by
    refine ⟨W0, ?_, ?_, ?_, ?_, v10, fun L hL1 hL2 => ?_⟩
    · have := mul_rng m3.1 m3.2 (X := (num 0 14).toInt - (num 10 (10 * k.toNatClampNeg + 4)).toInt) (by omega) (by omega)
      omega
    · rw [v8]
      have q := wr 0 (by decide) (by decide)
      rw [z0, Int.mul_zero, Int.sub_zero] at q
      exact q
    · rw [v9]; exact m3
    · rw [v9]; exact i3
    · rw [v9]; exact wr L hL1 hL2
  have hx5 : 0 ≤ (num 10 (10 * k.toNatClampNeg + 5)).toInt ∧ (num 10 (10 * k.toNatClampNeg + 5)).toInt < (num 0 8).toInt := by rw [← p5]; exact l5
  obtain ⟨s1, s2, s3, s4⟩ := start (vk := k) (vf := r4) (vg := r5) (vp := r6) hT.2 (by rw [ka 4 (by decide) (by decide) (by decide)]; exact hC.1.1) bd.1 (fun x hx => ⟨by rw [ka 34 (by decide) (by decide) (by decide)]; exact hC.1.2.2.1 x hx, by rw [ks 52 (by decide)]; exact g52 x (by omega), by rw [ks 53 (by decide), g53 x (by have := bd.1.2; omega)]; exact hC.2.2.2.2.1 x hx, (purM_at hm.1 hx).1, (purM_at hm.1 hx).2⟩) (by rw [v6]; exact e5) hpc (by rw [v5]; exact e4) (by rw [← e4]; exact hx5) (by rw [v7]; exact e6) (by rw [← e6]; exact m6) (Or.inr ⟨hne, hlet⟩) ea3.symm e7.symm
  rw [h1, h2]
  exact ⟨s4.1, s4.2 (by rw [s3]; exact hne)⟩
/-- asked for the routes of a letter: both refuse alike, or both walk -/
theorem asked_rel {T : Int} {mux mum : Nat → Nat → Int32} {k : Int32} (hT : 0 ≤ T ∧ T ≤ 1000000) (okm : okR loM hiM mum) (hC : core mux mum) (hm : mon T mum) : (∃ r : Int32, ∃ x1 x2 : Nat → Nat → Int32, ¬ r = 0 ∧ F_sx_refusedRoute mux k 0 = (r, x1) ∧ F_sm_askedRoutes mum k = (r, x2)) ∨ (∃ xi2 : Nat → Nat → Int32, F_sx_refusedRoute mux k 0 = (0, mux) ∧ F_sm_askedRoutes mum k = (0, xi2) ∧ rC 137256 (F_sx_walkOf mux (61 + k.toNatClampNeg)) xi2 ∧ rS 137256 (F_sx_walkOf mux (61 + k.toNatClampNeg)) xi2) := by
  have bd := bd_of okm
  have hc15 := tC_of bd.2.2.1.1
  obtain ⟨zx, ex⟩ : ∃ z, z = F_sx_refusedRoute mux k 0 := ⟨_, rfl⟩
  obtain ⟨zm, em⟩ : ∃ z, z = F_sm_askedRoutes mum k := ⟨_, rfl⟩
  rw [← ex, ← em]
  unfold F_sx_refusedRoute at ex
  unfold F_sm_askedRoutes at em
  obtain ⟨_, _, em⟩ := letv_out em
  obtain ⟨_, _, em⟩ := letv_out em
  obtain ⟨_, _, em⟩ := letv_out em
  obtain ⟨r1, x1, e1, ex⟩ := letp_out ex
  obtain ⟨r4, x4, e4, em⟩ := letp_out em
  rcases askL (k := k) hC.2.2.1.2.2.1 with ⟨hk, a1, a2⟩ | ⟨hk, a1, a2⟩ | ⟨hk, a1, a2⟩
  · rw [a1] at e1
    rw [a2] at e4
    have q1 : r1 = 0 := (Prod.mk.inj e1).1.symm
    have q4 : r4 = 0 := (Prod.mk.inj e4).1.symm
    rw [if_pos q1] at ex
    rw [if_pos q4] at em
    have hck := tC_of hk.1
    have hk3 : 0 ≤ k.toInt ∧ k.toInt ≤ 3 := ⟨hk.1, by have := bd.2.2.1.2; omega⟩
    obtain ⟨l0, l1, l5, l9⟩ := hC.2.2.2.2.2.1 k.toNatClampNeg (by omega)
    have p9 : mux (61 + k.toNatClampNeg) 9 = mum 10 (10 * k.toNatClampNeg + 9) := l0 9 (by decide)
    have i9 : F_sm_letterOf mum k 9 = mum 10 (10 * k.toNatClampNeg + 9) := fm_letterOf hk3 (by decide)
    obtain ⟨y4, f4, ex⟩ := letv_out ex
    obtain ⟨r6, f6, em⟩ := letv_out em
    have hr6 : r6 = if mum 10 (10 * k.toNatClampNeg + 9) = 1 then 1 else 0 := by
      rw [← f6]
      simp only [F_sm_isRead, letv_eq]
      rw [i9]
    rw [p9] at f4
    rcases l9 with g | g
    · have y0 : y4 = 0 := by rw [← f4, ← p9]; exact g
      have r0 : r6 = 0 := by
        rw [hr6, f4, y0]
        decide
      rw [if_pos y0] at ex
      rw [if_pos r0] at em
      obtain ⟨n8, e8, em⟩ := letv_out em
      obtain ⟨x14, e14, em⟩ := letv_out em
      obtain ⟨_, _, em⟩ := letv_out em
      obtain ⟨_, _, em⟩ := letv_out em
      obtain ⟨_, _, em⟩ := letv_out em
      have kn : ∀ c : Nat, c ≠ 0 → n8 c = mum c := uw_k e8
      have kf : ∀ f : Nat, f ≠ 38 → n8 0 f = mum 0 f := uw_f e8
      have bd8 : bdM n8 := by
        unfold bdM
        rw [kf 8 (by decide), kf 11 (by decide), kf 15 (by decide), kf 17 (by decide)]
        exact bd
      have hm8 : mon T n8 := mon_of hm (kf 8 (by decide)) (kf 15 (by decide)) (kf 17 (by decide)) (kn 8 (by decide)) (kn 10 (by decide)) (kn 14 (by decide)) (kn 15 (by decide))
      have hpc : ¬ n8 0 38 = 0 := by rw [uw_v e8]; decide
      obtain ⟨s1, s2⟩ := of_rel hT bd8 (pc_core okm hC e8) hm8 (by rw [kf 15 (by decide)]; exact hk) hpc rfl e14.symm
      exact Or.inr ⟨x14, ex, em, s1, s2⟩
    · have y0 : y4 = 1 := by rw [← f4, ← p9]; exact g
      have n10 : ¬ (1 : Int32) = 0 := by decide
      rw [y0, if_neg n10] at ex
      have r1' : r6 = 1 := by
        rw [hr6, f4, y0]
        decide
      rw [r1', if_neg n10] at em
      exact Or.inl ⟨-4, mux, mum, by decide, ex, em⟩
  · rw [a1] at e1
    rw [a2] at e4
    have q1 : r1 = -3 := (Prod.mk.inj e1).1.symm
    have q4 : r4 = -3 := (Prod.mk.inj e4).1.symm
    rw [q1, if_neg n3] at ex
    rw [q4, if_neg n3] at em
    exact Or.inl ⟨-3, _, _, n3, ex, em⟩
  · rw [a1] at e1
    rw [a2] at e4
    have q1 : r1 = -1 := (Prod.mk.inj e1).1.symm
    have q4 : r4 = -1 := (Prod.mk.inj e4).1.symm
    rw [q1, if_neg n1] at ex
    rw [q4, if_neg n1] at em
    exact Or.inl ⟨-1, _, _, n1, ex, em⟩
theorem comes_rel {T : Int} {k r1 r2 : Int32} {mux mum xi1 xi2 : Nat → Nat → Int32} (hT : 0 ≤ T ∧ T ≤ 1000000) (okm : okR loM hiM mum) (hC : core mux mum) (hm : mon T mum) (h1 : (r1, xi1) = F_qx_comes mux k) (h2 : (r2, xi2) = F_qm_comes mum k) : r1 = r2 := by
  unfold F_qx_comes at h1
  unfold F_qm_comes at h2
  obtain ⟨a, x, ea, h1⟩ := letp_out h1
  obtain ⟨b, y, eb, h2⟩ := letp_out h2
  rcases asked_rel (k := k) hT okm hC hm with ⟨r, x1, x2, g, g1, g2⟩ | ⟨x2, g1, g2, c, s⟩
  · rw [g1] at ea
    rw [g2] at eb
    have qa : a = r := (Prod.mk.inj ea).1.symm
    have qb : b = r := (Prod.mk.inj eb).1.symm
    rw [qa, if_neg g] at h1
    rw [qb, if_neg g] at h2
    exact (Prod.mk.inj h1).1.trans (Prod.mk.inj h2).1.symm
  · rw [g1] at ea
    rw [g2] at eb
    have qa : a = 0 := (Prod.mk.inj ea).1.symm
    have qb : b = 0 := (Prod.mk.inj eb).1.symm
    have qy : y = x2 := (Prod.mk.inj eb).2.symm
    rw [if_pos qa] at h1
    rw [if_pos qb, qy] at h2
    simp only [letv_eq, letp_eq] at h1 h2
    have e1 := (Prod.mk.inj h1).1
    have e2 := (Prod.mk.inj h2).1
    rw [fm_ask] at e2
    rw [up_ne (show (32 : Nat) ≠ 0 by decide)] at e1
    rw [e1, e2]
    exact s.2.1
theorem bars_rel {T : Int} {k r1 r2 : Int32} {mux mum xi1 xi2 : Nat → Nat → Int32} (hT : 0 ≤ T ∧ T ≤ 1000000) (okm : okR loM hiM mum) (hC : core mux mum) (hm : mon T mum) (h1 : (r1, xi1) = F_qx_bars mux k) (h2 : (r2, xi2) = F_qm_bars mum k) : r1 = r2 := by
  unfold F_qx_bars at h1
  unfold F_qm_bars at h2
  obtain ⟨a, x, ea, h1⟩ := letp_out h1
  obtain ⟨b, y, eb, h2⟩ := letp_out h2
  rcases asked_rel (k := k) hT okm hC hm with ⟨r, x1, x2, g, g1, g2⟩ | ⟨x2, g1, g2, c, s⟩
  · rw [g1] at ea
    rw [g2] at eb
    have qa : a = r := (Prod.mk.inj ea).1.symm
    have qb : b = r := (Prod.mk.inj eb).1.symm
    rw [qa, if_neg g] at h1
    rw [qb, if_neg g] at h2
    exact (Prod.mk.inj h1).1.trans (Prod.mk.inj h2).1.symm
  · rw [g1] at ea
    rw [g2] at eb
    have qa : a = 0 := (Prod.mk.inj ea).1.symm
    have qb : b = 0 := (Prod.mk.inj eb).1.symm
    have qy : y = x2 := (Prod.mk.inj eb).2.symm
    rw [if_pos qa] at h1
    rw [if_pos qb, qy] at h2
    simp only [letv_eq] at h1 h2
    rw [s.2.1] at h1
    rcases s.2.2.2 with ⟨t1, t2, t3, t4, t5⟩ | ⟨t1, t2, t3, t4, t5⟩
    · rw [if_pos t1] at h1 h2
      exact (Prod.mk.inj h1).1.trans (Prod.mk.inj h2).1.symm
    · rw [if_neg t1] at h1 h2
      rw [(Prod.mk.inj h1).1, (Prod.mk.inj h2).1]
      exact t5
theorem needs_rel {T : Int} {k r1 r2 : Int32} {mux mum xi1 xi2 : Nat → Nat → Int32} (hT : 0 ≤ T ∧ T ≤ 1000000) (okm : okR loM hiM mum) (hC : core mux mum) (hm : mon T mum) (h1 : (r1, xi1) = F_qx_needs mux k) (h2 : (r2, xi2) = F_qm_needs mum k) : r1 = r2 := by
  unfold F_qx_needs at h1
  unfold F_qm_needs at h2
  obtain ⟨a, x, ea, h1⟩ := letp_out h1
  obtain ⟨b, y, eb, h2⟩ := letp_out h2
  rcases asked_rel (k := k) hT okm hC hm with ⟨r, x1, x2, g, g1, g2⟩ | ⟨x2, g1, g2, c, s⟩
  · rw [g1] at ea
    rw [g2] at eb
    have qa : a = r := (Prod.mk.inj ea).1.symm
    have qb : b = r := (Prod.mk.inj eb).1.symm
    rw [qa, if_neg g] at h1
    rw [qb, if_neg g] at h2
    exact (Prod.mk.inj h1).1.trans (Prod.mk.inj h2).1.symm
  · rw [g1] at ea
    rw [g2] at eb
    have qa : a = 0 := (Prod.mk.inj ea).1.symm
    have qb : b = 0 := (Prod.mk.inj eb).1.symm
    have qy : y = x2 := (Prod.mk.inj eb).2.symm
    rw [if_pos qa] at h1
    rw [if_pos qb, qy] at h2
    simp only [letv_eq] at h1 h2
    rw [c.1] at h1
    rcases s.1 with ⟨t1, t2, t3⟩ | ⟨t1, t2, t3⟩
    · rw [if_pos t1] at h1
      rw [t3, if_neg (by decide)] at h2
      exact (Prod.mk.inj h1).1.trans (Prod.mk.inj h2).1.symm
    · rw [if_neg t1, t2] at h1
      by_cases q : x2 0 37 ≤ 999
      · rw [if_pos q] at h1 h2
        exact (Prod.mk.inj h1).1.trans (Prod.mk.inj h2).1.symm
      · rw [if_neg q] at h1 h2
        exact (Prod.mk.inj h1).1.trans (Prod.mk.inj h2).1.symm

