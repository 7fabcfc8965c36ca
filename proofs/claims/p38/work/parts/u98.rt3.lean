-- ===== routes: the walks, depth by depth =====
theorem ask_eq {nux num : Nat → Nat → Int32} {x p : Int32} (h : nux 34 x.toNatClampNeg = num 7 x.toNatClampNeg) : F_sx_priceAsked (nux 34 x.toNatClampNeg) p = F_sm_asksOf num x p := by
  simp only [F_sx_priceAsked, F_sm_asksOf, letv_eq]
  rw [h]
theorem ask_rng {k p : Int32} (hp : 0 ≤ p.toInt ∧ p.toInt ≤ 1000000) : 0 ≤ (F_sx_priceAsked k p).toInt := by
  have o : (1 : Int32).toInt = 1 := rfl
  have t : (2 : Int32).toInt = 2 := rfl
  have r : (3 : Int32).toInt = 3 := rfl
  have z : (0 : Int32).toInt = 0 := rfl
  have e1 : (p + 1).toInt = p.toInt + 1 := tI_add rfl o (by omega) (by omega)
  have e3 : (p + 3).toInt = p.toInt + 3 := tI_add rfl r (by omega) (by omega)
  have e6 : (2 * (p + 3)).toInt = 2 * (p.toInt + 3) := tI_mul t e3 (by omega) (by omega)
  simp only [F_sx_priceAsked, letv_eq]
  repeat' split
  all_goals omega
theorem buys_eq {nux : Nat → Nat → Int32} {x y u p : Int32} (hy : 0 ≤ y.toInt ∧ y.toInt ≤ 6) : (F_sx_buys nux x y u p = 0 ∨ F_sx_buys nux x y u p = 1) ∧ (¬ F_sx_buys nux x y u p = 0 ↔ bt (nux 52 x.toNatClampNeg) y.toNatClampNeg = true ∧ bt u y.toNatClampNeg = false ∧ p.toInt ≤ (nux 53 y.toNatClampNeg).toInt ∧ (y = nux 32 6 ∨ ¬ nux 34 y.toNatClampNeg = 3)) := by
  simp only [F_sx_buys, letv_eq]
  rw [fx_hasBit hy.1 (by omega), fx_hasBit hy.1 (by omega)]
  have n10 : ¬ (1 : Int32) = 0 := by decide
  cases c1 : bt (nux 52 x.toNatClampNeg) y.toNatClampNeg with
  | false => simp
  | true =>
    simp only [if_true, if_neg n10]
    cases c2 : bt u y.toNatClampNeg with
    | true => simp
    | false =>
      simp only [Bool.false_eq_true, if_false, if_true]
      by_cases c3 : nux 53 y.toNatClampNeg < p
      · rw [if_pos c3]
        have := vv_lt.mp c3
        refine ⟨Or.inl rfl, fun h => absurd rfl h, fun h => ?_⟩
        have := h.2.2.1
        omega
      · rw [if_neg c3]
        have c3' : ¬ (nux 53 y.toNatClampNeg).toInt < p.toInt := fun e => c3 (vv_lt.mpr e)
        by_cases c4 : y = nux 32 6
        · rw [if_pos c4]
          exact ⟨Or.inr rfl, fun _ => ⟨trivial, trivial, by omega, Or.inl c4⟩, fun _ => n10⟩
        · rw [if_neg c4]
          by_cases c5 : nux 34 y.toNatClampNeg = 3
          · rw [if_pos c5]
            refine ⟨Or.inl rfl, fun h => absurd rfl h, fun h => ?_⟩
            rcases h.2.2.2 with e | e
            · exact absurd e c4
            · exact absurd c5 e
          · rw [if_neg c5]
            exact ⟨Or.inr rfl, fun _ => ⟨trivial, trivial, by omega, Or.inr c5⟩, fun _ => n10⟩
theorem bits_or {u y : Int32} (hu : ∀ j : Nat, j < 32 → bt u j = true → j < 7) (hy : 0 ≤ y.toInt ∧ y.toInt ≤ 6) : ∀ j : Nat, j < 32 → bt (u ||| ((1 : Int32) <<< (y &&& 31))) j = true → j < 7 := fun j hj e => by
  have hc := tC_of hy.1
  rw [b_or, b_bit hy.1 (by omega) hj] at e
  rcases Bool.or_eq_true _ _ ▸ e with e | e
  · exact hu j hj e
  · have := of_decide_eq_true e
    omega
theorem near_and {b u y : Int32} (hy : 0 ≤ y.toInt ∧ y.toInt ≤ 6) : F_sm_has (b &&& (u ^^^ (-1))) y = 1 ↔ bt b y.toNatClampNeg = true ∧ bt u y.toNatClampNeg = false := by
  have hc := tC_of hy.1
  rw [fm_has hy.1 (by omega), b_and, b_xor, b_m1 _ (by omega)]
  cases bt b y.toNatClampNeg <;> cases bt u y.toNatClampNeg <;> simp
theorem wk6x {nux : Nat → Nat → Int32} {u p : Int32} : F_sx_walkOn6 nux u p = nux := by
  simp only [F_sx_walkOn6, letv_eq]
  show L_sx_walkOn6_30_0 (9 + 1) 0 nux = nux
  unfold L_sx_walkOn6_30_0
  simp only [letv_eq]
  split <;> rfl
theorem rk7_loop {mu : Nat → Nat → Int32} {t : Int32} : ∀ (n : Nat) (i : Int32), L_sm_routeOn7_34_0 mu t n i mu = mu := by
  intro n
  induction n with
  | zero => intro i; rfl
  | succ n ih =>
    intro i
    unfold L_sm_routeOn7_34_0
    simp only [letv_eq, ih]
    repeat' split
    all_goals rfl
theorem rk7m {num : Nat → Nat → Int32} {h p : Int32} : F_sm_routeOn7 num h p = num := by
  simp only [F_sm_routeOn7, letv_eq]
  exact rk7_loop 10 0
theorem wk6 {T c : Int} {nux num : Nat → Nat → Int32} {u p : Int32} (_ : T ≤ 1000000) (_ : c + 0 ≤ 900000) (_ : stR T nux num) (hR : rel c nux num) (_ : nux 54 6 = num 16 6) (_ : 0 ≤ (num 16 6).toInt ∧ (num 16 6).toInt < (num 0 8).toInt) (_ : 0 ≤ p.toInt ∧ p.toInt ≤ T) (_ : ∀ j : Nat, j < 32 → bt u j = true → j < 7) : fixX nux (F_sx_walkOn6 nux u p) ∧ fixM num (F_sm_routeOn7 num u p) ∧ rel (c + 0) (F_sx_walkOn6 nux u p) (F_sm_routeOn7 num u p) := by
  rw [wk6x, rk7m]
  exact ⟨fixX_rf, fixM_rf, rel_le hR (by omega)⟩
theorem wl5 {T : Int} {u pr x t : Int32} (hT : T ≤ 1000000) (hpr : 0 ≤ pr.toInt) (hu : ∀ j : Nat, j < 32 → bt u j = true → j < 7) (hx : 0 ≤ x.toInt) : ∀ (n : Nat) (i : Int32) (c : Int) (nux num : Nat → Nat → Int32), c + (7 - i.toInt) * 1 ≤ 900000 → stR T nux num → rel c nux num → x.toInt < (num 0 8).toInt → t = F_sm_besideOf num x &&& (u ^^^ (-1)) → 0 ≤ i.toInt → i.toInt ≤ 7 → (7 - i.toInt).toNat < n → fixX nux (L_sx_walkOn5_30_0 pr u x n i nux) ∧ fixM num (L_sm_routeOn6_34_0 pr t u n i num) ∧ rel (c + (7 - i.toInt) * 1) (L_sx_walkOn5_30_0 pr u x n i nux) (L_sm_routeOn6_34_0 pr t u n i num) := by
  intro n
  induction n with
  | zero => intro i c nux num _ _ _ _ _ _ _ hn; exact absurd hn (Nat.not_lt_zero _)
  | succ n ih =>
    intro i c nux num hc hS hR hxB ht h0 h7 hn
    obtain ⟨sB, sb, sx, sg, spc, sf, sfr, sl⟩ := id hS
    obtain ⟨zx, ex⟩ : ∃ z, z = L_sx_walkOn5_30_0 pr u x (n + 1) i nux := ⟨_, rfl⟩
    obtain ⟨zm, em⟩ : ∃ z, z = L_sm_routeOn6_34_0 pr t u (n + 1) i num := ⟨_, rfl⟩
    rw [← ex, ← em]
    unfold L_sx_walkOn5_30_0 at ex
    unfold L_sm_routeOn6_34_0 at em
    obtain ⟨y4, e4, ex⟩ := letv_out ex
    obtain ⟨y9, e9, em⟩ := letv_out em
    obtain ⟨y10, e10, em⟩ := letv_out em
    obtain ⟨y11, e11, em⟩ := letv_out em
    obtain ⟨y12, e12, em⟩ := letv_out em
    rw [← e4, sB] at ex
    rw [← e12] at em
    by_cases c1 : i ≥ num 0 8
    · rw [if_pos c1] at ex em
      rw [ex, em]
      exact ⟨fixX_rf, fixM_rf, rel_le hR (by omega)⟩
    · rw [if_neg c1] at ex em
      have c1' : ¬ (num 0 8).toInt ≤ i.toInt := fun e => c1 (vv_ge.mpr e)
      have i1 : (i + 1).toInt = i.toInt + 1 := vp1 (by omega)
      have hi6 : 0 ≤ i.toInt ∧ i.toInt ≤ 6 := ⟨h0, by omega⟩
      have hci := tC_of h0
      have hcx := tC_of hx
      have hcB := tC_of sb.1
      obtain ⟨q1, q2, q3, q4, q5⟩ := sx i.toNatClampNeg (by omega)
      have hb := (buys_eq (nux := nux) (x := x) (u := u) (p := pr) hi6).2
      have hx52 : nux 52 x.toNatClampNeg = F_sm_besideOf num x := by
        rw [(sx x.toNatClampNeg (by omega)).2.1, ← nI_at hx]
      have hhas := near_and (b := F_sm_besideOf num x) (u := u) hi6
      rw [← ht] at hhas
      rw [hx52, q3, q1, sg] at hb
      have same : fixX nux (L_sx_walkOn5_30_0 pr u x n (i + 1) nux) ∧ fixM num (L_sm_routeOn6_34_0 pr t u n (i + 1) num) ∧ rel (c + (7 - i.toInt) * 1) (L_sx_walkOn5_30_0 pr u x n (i + 1) nux) (L_sm_routeOn6_34_0 pr t u n (i + 1) num) := by
        obtain ⟨z1, z2, z3⟩ := ih (i + 1) c nux num (by omega) hS hR hxB ht (by omega) (by omega) (by omega)
        exact ⟨z1, z2, rel_le z3 (by omega)⟩
      have step : ∀ xi1 xi2 : Nat → Nat → Int32, fixX nux xi1 → fixM num xi2 → rel (c + 1) xi1 xi2 → fixX nux (L_sx_walkOn5_30_0 pr u x n (i + 1) xi1) ∧ fixM num (L_sm_routeOn6_34_0 pr t u n (i + 1) xi2) ∧ rel (c + (7 - i.toInt) * 1) (L_sx_walkOn5_30_0 pr u x n (i + 1) xi1) (L_sm_routeOn6_34_0 pr t u n (i + 1) xi2) := fun xi1 xi2 g1 g2 g3 => by
        have m8 : xi2 0 8 = num 0 8 := g2.2.1 8 (by omega)
        have mb : F_sm_besideOf xi2 x = F_sm_besideOf num x := bes_congr (g2.1 9 (by decide) (by decide) (by decide) (by decide)) (g2.2.1 11 (by omega)) (g2.2.1 13 (by omega)) 15 0 0
        obtain ⟨z1, z2, z3⟩ := ih (i + 1) (c + 1) xi1 xi2 (by omega) (stR_of hS g1 g2) g3 (by rw [m8]; exact hxB) (by rw [mb]; exact ht) (by omega) (by omega) (by omega)
        exact ⟨fixX_tr g1 z1, fixM_tr g2 z2, rel_le z3 (by omega)⟩
      obtain ⟨r6, e6, ex⟩ := letv_out ex
      by_cases cb : r6 = (0 : Int32)
      · rw [if_pos cb] at ex
        obtain ⟨w, ew, ex⟩ := letv_out ex
        rw [← ew] at ex
        rw [ex]
        by_cases ch : F_sm_has t i = 1
        · rw [if_pos ch] at em
          obtain ⟨y18, e18, em⟩ := letv_out em
          rw [← e18, if_neg spc] at em
          obtain ⟨y65, e65, em⟩ := letv_out em
          rw [← e65] at em
          by_cases cp : num 8 i.toNatClampNeg < pr
          · rw [if_pos cp] at em
            obtain ⟨w, ew, em⟩ := letv_out em
            rw [em, ← ew]
            exact same
          · rw [if_neg cp] at em
            have cp' : ¬ (num 8 i.toNatClampNeg).toInt < pr.toInt := fun e => cp (vv_lt.mpr e)
            obtain ⟨n71, e71, em⟩ := letv_out em
            have f71 : fixM num n71 := ⟨fun k _ k2 _ _ => uw_k e71 k k2, fun f _ => by rw [uw_k e71 0 (by decide)], uw_f e71 0 (by decide)⟩
            have a0 : n71 0 = num 0 := uw_k e71 0 (by decide)
            have a7 : n71 7 = num 7 := uw_k e71 7 (by decide)
            obtain ⟨y79, e79, em⟩ := letv_out em
            rw [← e79, a0] at em
            by_cases cg : i = num 0 29
            · exact absurd (e6.trans cb) (hb.mpr ⟨(hhas.mp ch).1, (hhas.mp ch).2, by omega, Or.inl cg⟩)
            · rw [if_neg cg] at em
              obtain ⟨y81, e81, em⟩ := letv_out em
              rw [← e81, a7] at em
              by_cases ck : num 7 i.toNatClampNeg = 3
              · rw [if_pos ck] at em
                obtain ⟨w, ew, em⟩ := letv_out em
                rw [em, ← ew]
                refine step nux n71 fixX_rf f71 ?_
                unfold rel rC rS
                rw [a0]
                exact rel_le hR (by omega)
              · exact absurd (e6.trans cb) (hb.mpr ⟨(hhas.mp ch).1, (hhas.mp ch).2, by omega, Or.inr ck⟩)
        · rw [if_neg ch] at em
          obtain ⟨w, ew, em⟩ := letv_out em
          rw [em, ← ew]
          exact same
      · rw [if_neg cb] at ex
        obtain ⟨b1, b2, b3, b4⟩ := hb.mp (fun e => cb (e6.symm.trans e))
        rw [if_pos (hhas.mpr ⟨b1, b2⟩)] at em
        obtain ⟨y18, e18, em⟩ := letv_out em
        rw [← e18, if_neg spc] at em
        obtain ⟨y65, e65, em⟩ := letv_out em
        rw [← e65, if_neg (fun e => by have := vv_lt.mp e; omega)] at em
        obtain ⟨n8, e8, ex⟩ := letv_out ex
        obtain ⟨n71, e71, em⟩ := letv_out em
        have f8 : fixX nux n8 := ⟨fun k _ k2 _ _ _ _ => uw_k e8 k k2, fun f _ => by rw [uw_k e8 32 (by decide)]⟩
        have f71 : fixM num n71 := ⟨fun k _ k2 _ _ => uw_k e71 k k2, fun f _ => by rw [uw_k e71 0 (by decide)], uw_f e71 0 (by decide)⟩
        have a0 : n71 0 = num 0 := uw_k e71 0 (by decide)
        have a7 : n71 7 = num 7 := uw_k e71 7 (by decide)
        have a16 : n71 16 0 = num 16 0 := uw_f e71 0 (by decide)
        have hS2 := stR_of hS f8 f71
        have hR2 : rel c n8 n71 := by
          unfold rel rC rS
          rw [a0, uw_k e8 32 (by decide), uw_k e8 55 (by decide), uw_k e8 56 (by decide)]
          exact hR
        obtain ⟨y11, e11, ex⟩ := letv_out ex
        rw [← e11, uw_k e8 32 (by decide), sg] at ex
        obtain ⟨y79, e79, em⟩ := letv_out em
        rw [← e79, a0] at em
        by_cases cg : i = num 0 29
        · rw [if_pos cg] at ex em
          obtain ⟨x18, e18, ex⟩ := letv_out ex
          obtain ⟨w, ew, ex⟩ := letv_out ex
          obtain ⟨y101, e101, em⟩ := letv_out em
          obtain ⟨t102, e102, em⟩ := letv_out em
          obtain ⟨t103, e103, em⟩ := letv_out em
          obtain ⟨t104, e104, em⟩ := letv_out em
          obtain ⟨x108, e108, em⟩ := letv_out em
          obtain ⟨_, _, em⟩ := letv_out em
          obtain ⟨_, _, em⟩ := letv_out em
          obtain ⟨_, _, em⟩ := letv_out em
          obtain ⟨w2, ew2, em⟩ := letv_out em
          rw [ex, ← ew, em, ← ew2]
          obtain ⟨z1, z2, z3⟩ := arr hT (by omega) hS2 hR2 (s := 6) (n := 7) (u := u) (q := t104) (p := pr) (by decide) (by decide) ⟨hpr, by omega⟩ hu (by have q := e101; rw [show (0 : Int32).toNatClampNeg = 0 from rfl] at q; rw [← e104, ← e103, ← e102, ← q]) e18.symm e108.symm
          exact step x18 x108 (fixX_tr f8 z1) (fixM_tr f71 z2) (rel_le z3 (by omega))
        · rw [if_neg cg] at ex em
          have ck : ¬ num 7 i.toNatClampNeg = 3 := b4.resolve_left cg
          obtain ⟨y81, e81, em⟩ := letv_out em
          rw [← e81, a7, if_neg ck] at em
          obtain ⟨t13, e13, ex⟩ := letv_out ex
          obtain ⟨t14, e14, ex⟩ := letv_out ex
          obtain ⟨x15, e15, ex⟩ := letv_out ex
          obtain ⟨w, ew, ex⟩ := letv_out ex
          obtain ⟨t87, e87, em⟩ := letv_out em
          obtain ⟨t88, e88, em⟩ := letv_out em
          obtain ⟨x92, e92, em⟩ := letv_out em
          obtain ⟨_, _, em⟩ := letv_out em
          obtain ⟨_, _, em⟩ := letv_out em
          obtain ⟨_, _, em⟩ := letv_out em
          obtain ⟨w2, ew2, em⟩ := letv_out em
          rw [ex, ← ew, em, ← ew2]
          have v8 : n8 54 6 = i := uw_v e8
          have v71 : n71 16 6 = i := uw_v e71
          have tt : t88 = t14 := by rw [← e88, ← e14, ← e87, ← e13]
          rw [tt] at e92
          obtain ⟨z1, z2, z3⟩ := wk6 (u := t14) (p := pr) hT (by omega) hS2 hR2 (by rw [v8, v71]) (by rw [v71, a0]; omega) ⟨hpr, by omega⟩ (by rw [← e14, ← e13]; exact bits_or hu hi6)
          rw [e15, e92] at z3
          rw [e15] at z1
          rw [e92] at z2
          exact step x15 x92 (fixX_tr f8 z1) (fixM_tr f71 z2) (rel_le z3 (by omega))
theorem wk5 {T c : Int} {nux num : Nat → Nat → Int32} {u p : Int32} (hT : T ≤ 1000000) (hc : c + 7 ≤ 900000) (hS : stR T nux num) (hR : rel c nux num) (hy : nux 54 5 = num 16 5) (hr : 0 ≤ (num 16 5).toInt ∧ (num 16 5).toInt < (num 0 8).toInt) (hp : 0 ≤ p.toInt ∧ p.toInt ≤ T) (hu : ∀ j : Nat, j < 32 → bt u j = true → j < 7) : fixX nux (F_sx_walkOn5 nux u p) ∧ fixM num (F_sm_routeOn6 num u p) ∧ rel (c + 7) (F_sx_walkOn5 nux u p) (F_sm_routeOn6 num u p) := by
  have hcx := tC_of hr.1
  have hcB := tC_of hS.2.1.1
  have k1 := (hS.2.2.1 (num 16 5).toNatClampNeg (by omega)).1
  have hpr : 0 ≤ (F_sm_asksOf num (num 16 5) p).toInt := by
    rw [← ask_eq k1]
    exact ask_rng ⟨hp.1, by omega⟩
  have z : (0 : Int32).toInt = 0 := rfl
  have hl := wl5 hT hpr hu hr.1 10 0 c nux num (by rw [z]; omega) hS hR hr.2 rfl (by decide) (by decide) (by decide)
  have ex : F_sx_walkOn5 nux u p = L_sx_walkOn5_30_0 (F_sm_asksOf num (num 16 5) p) u (num 16 5) 10 0 nux := by
    rw [← ask_eq k1, ← hy]
    unfold F_sx_walkOn5
    rw [letv_eq, letv_eq, letv_eq]
    rfl
  have em : F_sm_routeOn6 num u p = L_sm_routeOn6_34_0 (F_sm_asksOf num (num 16 5) p) (F_sm_besideOf num (num 16 5) &&& (u ^^^ (-1))) u 10 0 num := by
    unfold F_sm_routeOn6
    rw [letv_eq, letv_eq, letv_eq, letv_eq, letv_eq, letv_eq, letv_eq, letv_eq]
    rfl
  rw [ex, em]
  refine ⟨hl.1, hl.2.1, rel_le hl.2.2 (by rw [z]; omega)⟩
theorem wl4 {T : Int} {u pr x t : Int32} (hT : T ≤ 1000000) (hpr : 0 ≤ pr.toInt) (hu : ∀ j : Nat, j < 32 → bt u j = true → j < 7) (hx : 0 ≤ x.toInt) : ∀ (n : Nat) (i : Int32) (c : Int) (nux num : Nat → Nat → Int32), c + (7 - i.toInt) * 8 ≤ 900000 → stR T nux num → rel c nux num → x.toInt < (num 0 8).toInt → t = F_sm_besideOf num x &&& (u ^^^ (-1)) → 0 ≤ i.toInt → i.toInt ≤ 7 → (7 - i.toInt).toNat < n → fixX nux (L_sx_walkOn4_30_0 pr u x n i nux) ∧ fixM num (L_sm_routeOn5_34_0 pr t u n i num) ∧ rel (c + (7 - i.toInt) * 8) (L_sx_walkOn4_30_0 pr u x n i nux) (L_sm_routeOn5_34_0 pr t u n i num) := by
  intro n
  induction n with
  | zero => intro i c nux num _ _ _ _ _ _ _ hn; exact absurd hn (Nat.not_lt_zero _)
  | succ n ih =>
    intro i c nux num hc hS hR hxB ht h0 h7 hn
    obtain ⟨sB, sb, sx, sg, spc, sf, sfr, sl⟩ := id hS
    obtain ⟨zx, ex⟩ : ∃ z, z = L_sx_walkOn4_30_0 pr u x (n + 1) i nux := ⟨_, rfl⟩
    obtain ⟨zm, em⟩ : ∃ z, z = L_sm_routeOn5_34_0 pr t u (n + 1) i num := ⟨_, rfl⟩
    rw [← ex, ← em]
    unfold L_sx_walkOn4_30_0 at ex
    unfold L_sm_routeOn5_34_0 at em
    obtain ⟨y4, e4, ex⟩ := letv_out ex
    obtain ⟨y9, e9, em⟩ := letv_out em
    obtain ⟨y10, e10, em⟩ := letv_out em
    obtain ⟨y11, e11, em⟩ := letv_out em
    obtain ⟨y12, e12, em⟩ := letv_out em
    rw [← e4, sB] at ex
    rw [← e12] at em
    by_cases c1 : i ≥ num 0 8
    · rw [if_pos c1] at ex em
      rw [ex, em]
      exact ⟨fixX_rf, fixM_rf, rel_le hR (by omega)⟩
    · rw [if_neg c1] at ex em
      have c1' : ¬ (num 0 8).toInt ≤ i.toInt := fun e => c1 (vv_ge.mpr e)
      have i1 : (i + 1).toInt = i.toInt + 1 := vp1 (by omega)
      have hi6 : 0 ≤ i.toInt ∧ i.toInt ≤ 6 := ⟨h0, by omega⟩
      have hci := tC_of h0
      have hcx := tC_of hx
      have hcB := tC_of sb.1
      obtain ⟨q1, q2, q3, q4, q5⟩ := sx i.toNatClampNeg (by omega)
      have hb := (buys_eq (nux := nux) (x := x) (u := u) (p := pr) hi6).2
      have hx52 : nux 52 x.toNatClampNeg = F_sm_besideOf num x := by
        rw [(sx x.toNatClampNeg (by omega)).2.1, ← nI_at hx]
      have hhas := near_and (b := F_sm_besideOf num x) (u := u) hi6
      rw [← ht] at hhas
      rw [hx52, q3, q1, sg] at hb
      have same : fixX nux (L_sx_walkOn4_30_0 pr u x n (i + 1) nux) ∧ fixM num (L_sm_routeOn5_34_0 pr t u n (i + 1) num) ∧ rel (c + (7 - i.toInt) * 8) (L_sx_walkOn4_30_0 pr u x n (i + 1) nux) (L_sm_routeOn5_34_0 pr t u n (i + 1) num) := by
        obtain ⟨z1, z2, z3⟩ := ih (i + 1) c nux num (by omega) hS hR hxB ht (by omega) (by omega) (by omega)
        exact ⟨z1, z2, rel_le z3 (by omega)⟩
      have step : ∀ xi1 xi2 : Nat → Nat → Int32, fixX nux xi1 → fixM num xi2 → rel (c + 8) xi1 xi2 → fixX nux (L_sx_walkOn4_30_0 pr u x n (i + 1) xi1) ∧ fixM num (L_sm_routeOn5_34_0 pr t u n (i + 1) xi2) ∧ rel (c + (7 - i.toInt) * 8) (L_sx_walkOn4_30_0 pr u x n (i + 1) xi1) (L_sm_routeOn5_34_0 pr t u n (i + 1) xi2) := fun xi1 xi2 g1 g2 g3 => by
        have m8 : xi2 0 8 = num 0 8 := g2.2.1 8 (by omega)
        have mb : F_sm_besideOf xi2 x = F_sm_besideOf num x := bes_congr (g2.1 9 (by decide) (by decide) (by decide) (by decide)) (g2.2.1 11 (by omega)) (g2.2.1 13 (by omega)) 15 0 0
        obtain ⟨z1, z2, z3⟩ := ih (i + 1) (c + 8) xi1 xi2 (by omega) (stR_of hS g1 g2) g3 (by rw [m8]; exact hxB) (by rw [mb]; exact ht) (by omega) (by omega) (by omega)
        exact ⟨fixX_tr g1 z1, fixM_tr g2 z2, rel_le z3 (by omega)⟩
      obtain ⟨r6, e6, ex⟩ := letv_out ex
      by_cases cb : r6 = (0 : Int32)
      · rw [if_pos cb] at ex
        obtain ⟨w, ew, ex⟩ := letv_out ex
        rw [← ew] at ex
        rw [ex]
        by_cases ch : F_sm_has t i = 1
        · rw [if_pos ch] at em
          obtain ⟨y18, e18, em⟩ := letv_out em
          rw [← e18, if_neg spc] at em
          obtain ⟨y65, e65, em⟩ := letv_out em
          rw [← e65] at em
          by_cases cp : num 8 i.toNatClampNeg < pr
          · rw [if_pos cp] at em
            obtain ⟨w, ew, em⟩ := letv_out em
            rw [em, ← ew]
            exact same
          · rw [if_neg cp] at em
            have cp' : ¬ (num 8 i.toNatClampNeg).toInt < pr.toInt := fun e => cp (vv_lt.mpr e)
            obtain ⟨n71, e71, em⟩ := letv_out em
            have f71 : fixM num n71 := ⟨fun k _ k2 _ _ => uw_k e71 k k2, fun f _ => by rw [uw_k e71 0 (by decide)], uw_f e71 0 (by decide)⟩
            have a0 : n71 0 = num 0 := uw_k e71 0 (by decide)
            have a7 : n71 7 = num 7 := uw_k e71 7 (by decide)
            obtain ⟨y79, e79, em⟩ := letv_out em
            rw [← e79, a0] at em
            by_cases cg : i = num 0 29
            · exact absurd (e6.trans cb) (hb.mpr ⟨(hhas.mp ch).1, (hhas.mp ch).2, by omega, Or.inl cg⟩)
            · rw [if_neg cg] at em
              obtain ⟨y81, e81, em⟩ := letv_out em
              rw [← e81, a7] at em
              by_cases ck : num 7 i.toNatClampNeg = 3
              · rw [if_pos ck] at em
                obtain ⟨w, ew, em⟩ := letv_out em
                rw [em, ← ew]
                refine step nux n71 fixX_rf f71 ?_
                unfold rel rC rS
                rw [a0]
                exact rel_le hR (by omega)
              · exact absurd (e6.trans cb) (hb.mpr ⟨(hhas.mp ch).1, (hhas.mp ch).2, by omega, Or.inr ck⟩)
        · rw [if_neg ch] at em
          obtain ⟨w, ew, em⟩ := letv_out em
          rw [em, ← ew]
          exact same
      · rw [if_neg cb] at ex
        obtain ⟨b1, b2, b3, b4⟩ := hb.mp (fun e => cb (e6.symm.trans e))
        rw [if_pos (hhas.mpr ⟨b1, b2⟩)] at em
        obtain ⟨y18, e18, em⟩ := letv_out em
        rw [← e18, if_neg spc] at em
        obtain ⟨y65, e65, em⟩ := letv_out em
        rw [← e65, if_neg (fun e => by have := vv_lt.mp e; omega)] at em
        obtain ⟨n8, e8, ex⟩ := letv_out ex
        obtain ⟨n71, e71, em⟩ := letv_out em
        have f8 : fixX nux n8 := ⟨fun k _ k2 _ _ _ _ => uw_k e8 k k2, fun f _ => by rw [uw_k e8 32 (by decide)]⟩
        have f71 : fixM num n71 := ⟨fun k _ k2 _ _ => uw_k e71 k k2, fun f _ => by rw [uw_k e71 0 (by decide)], uw_f e71 0 (by decide)⟩
        have a0 : n71 0 = num 0 := uw_k e71 0 (by decide)
        have a7 : n71 7 = num 7 := uw_k e71 7 (by decide)
        have a16 : n71 16 0 = num 16 0 := uw_f e71 0 (by decide)
        have hS2 := stR_of hS f8 f71
        have hR2 : rel c n8 n71 := by
          unfold rel rC rS
          rw [a0, uw_k e8 32 (by decide), uw_k e8 55 (by decide), uw_k e8 56 (by decide)]
          exact hR
        obtain ⟨y11, e11, ex⟩ := letv_out ex
        rw [← e11, uw_k e8 32 (by decide), sg] at ex
        obtain ⟨y79, e79, em⟩ := letv_out em
        rw [← e79, a0] at em
        by_cases cg : i = num 0 29
        · rw [if_pos cg] at ex em
          obtain ⟨x18, e18, ex⟩ := letv_out ex
          obtain ⟨w, ew, ex⟩ := letv_out ex
          obtain ⟨y101, e101, em⟩ := letv_out em
          obtain ⟨t102, e102, em⟩ := letv_out em
          obtain ⟨t103, e103, em⟩ := letv_out em
          obtain ⟨t104, e104, em⟩ := letv_out em
          obtain ⟨x108, e108, em⟩ := letv_out em
          obtain ⟨_, _, em⟩ := letv_out em
          obtain ⟨_, _, em⟩ := letv_out em
          obtain ⟨_, _, em⟩ := letv_out em
          obtain ⟨w2, ew2, em⟩ := letv_out em
          rw [ex, ← ew, em, ← ew2]
          obtain ⟨z1, z2, z3⟩ := arr hT (by omega) hS2 hR2 (s := 5) (n := 6) (u := u) (q := t104) (p := pr) (by decide) (by decide) ⟨hpr, by omega⟩ hu (by have q := e101; rw [show (0 : Int32).toNatClampNeg = 0 from rfl] at q; rw [← e104, ← e103, ← e102, ← q]) e18.symm e108.symm
          exact step x18 x108 (fixX_tr f8 z1) (fixM_tr f71 z2) (rel_le z3 (by omega))
        · rw [if_neg cg] at ex em
          have ck : ¬ num 7 i.toNatClampNeg = 3 := b4.resolve_left cg
          obtain ⟨y81, e81, em⟩ := letv_out em
          rw [← e81, a7, if_neg ck] at em
          obtain ⟨t13, e13, ex⟩ := letv_out ex
          obtain ⟨t14, e14, ex⟩ := letv_out ex
          obtain ⟨x15, e15, ex⟩ := letv_out ex
          obtain ⟨w, ew, ex⟩ := letv_out ex
          obtain ⟨t87, e87, em⟩ := letv_out em
          obtain ⟨t88, e88, em⟩ := letv_out em
          obtain ⟨x92, e92, em⟩ := letv_out em
          obtain ⟨_, _, em⟩ := letv_out em
          obtain ⟨_, _, em⟩ := letv_out em
          obtain ⟨_, _, em⟩ := letv_out em
          obtain ⟨w2, ew2, em⟩ := letv_out em
          rw [ex, ← ew, em, ← ew2]
          have v8 : n8 54 5 = i := uw_v e8
          have v71 : n71 16 5 = i := uw_v e71
          have tt : t88 = t14 := by rw [← e88, ← e14, ← e87, ← e13]
          rw [tt] at e92
          obtain ⟨z1, z2, z3⟩ := wk5 (u := t14) (p := pr) hT (by omega) hS2 hR2 (by rw [v8, v71]) (by rw [v71, a0]; omega) ⟨hpr, by omega⟩ (by rw [← e14, ← e13]; exact bits_or hu hi6)
          rw [e15, e92] at z3
          rw [e15] at z1
          rw [e92] at z2
          exact step x15 x92 (fixX_tr f8 z1) (fixM_tr f71 z2) (rel_le z3 (by omega))
theorem wk4 {T c : Int} {nux num : Nat → Nat → Int32} {u p : Int32} (hT : T ≤ 1000000) (hc : c + 56 ≤ 900000) (hS : stR T nux num) (hR : rel c nux num) (hy : nux 54 4 = num 16 4) (hr : 0 ≤ (num 16 4).toInt ∧ (num 16 4).toInt < (num 0 8).toInt) (hp : 0 ≤ p.toInt ∧ p.toInt ≤ T) (hu : ∀ j : Nat, j < 32 → bt u j = true → j < 7) : fixX nux (F_sx_walkOn4 nux u p) ∧ fixM num (F_sm_routeOn5 num u p) ∧ rel (c + 56) (F_sx_walkOn4 nux u p) (F_sm_routeOn5 num u p) := by
  have hcx := tC_of hr.1
  have hcB := tC_of hS.2.1.1
  have k1 := (hS.2.2.1 (num 16 4).toNatClampNeg (by omega)).1
  have hpr : 0 ≤ (F_sm_asksOf num (num 16 4) p).toInt := by
    rw [← ask_eq k1]
    exact ask_rng ⟨hp.1, by omega⟩
  have z : (0 : Int32).toInt = 0 := rfl
  have hl := wl4 hT hpr hu hr.1 10 0 c nux num (by rw [z]; omega) hS hR hr.2 rfl (by decide) (by decide) (by decide)
  have ex : F_sx_walkOn4 nux u p = L_sx_walkOn4_30_0 (F_sm_asksOf num (num 16 4) p) u (num 16 4) 10 0 nux := by
    rw [← ask_eq k1, ← hy]
    unfold F_sx_walkOn4
    rw [letv_eq, letv_eq, letv_eq]
    rfl
  have em : F_sm_routeOn5 num u p = L_sm_routeOn5_34_0 (F_sm_asksOf num (num 16 4) p) (F_sm_besideOf num (num 16 4) &&& (u ^^^ (-1))) u 10 0 num := by
    unfold F_sm_routeOn5
    rw [letv_eq, letv_eq, letv_eq, letv_eq, letv_eq, letv_eq, letv_eq, letv_eq]
    rfl
  rw [ex, em]
  refine ⟨hl.1, hl.2.1, rel_le hl.2.2 (by rw [z]; omega)⟩
theorem wl3 {T : Int} {u pr x t : Int32} (hT : T ≤ 1000000) (hpr : 0 ≤ pr.toInt) (hu : ∀ j : Nat, j < 32 → bt u j = true → j < 7) (hx : 0 ≤ x.toInt) : ∀ (n : Nat) (i : Int32) (c : Int) (nux num : Nat → Nat → Int32), c + (7 - i.toInt) * 57 ≤ 900000 → stR T nux num → rel c nux num → x.toInt < (num 0 8).toInt → t = F_sm_besideOf num x &&& (u ^^^ (-1)) → 0 ≤ i.toInt → i.toInt ≤ 7 → (7 - i.toInt).toNat < n → fixX nux (L_sx_walkOn3_30_0 pr u x n i nux) ∧ fixM num (L_sm_routeOn4_34_0 pr t u n i num) ∧ rel (c + (7 - i.toInt) * 57) (L_sx_walkOn3_30_0 pr u x n i nux) (L_sm_routeOn4_34_0 pr t u n i num) := by
  intro n
  induction n with
  | zero => intro i c nux num _ _ _ _ _ _ _ hn; exact absurd hn (Nat.not_lt_zero _)
  | succ n ih =>
    intro i c nux num hc hS hR hxB ht h0 h7 hn
    obtain ⟨sB, sb, sx, sg, spc, sf, sfr, sl⟩ := id hS
    obtain ⟨zx, ex⟩ : ∃ z, z = L_sx_walkOn3_30_0 pr u x (n + 1) i nux := ⟨_, rfl⟩
    obtain ⟨zm, em⟩ : ∃ z, z = L_sm_routeOn4_34_0 pr t u (n + 1) i num := ⟨_, rfl⟩
    rw [← ex, ← em]
    unfold L_sx_walkOn3_30_0 at ex
    unfold L_sm_routeOn4_34_0 at em
    obtain ⟨y4, e4, ex⟩ := letv_out ex
    obtain ⟨y9, e9, em⟩ := letv_out em
    obtain ⟨y10, e10, em⟩ := letv_out em
    obtain ⟨y11, e11, em⟩ := letv_out em
    obtain ⟨y12, e12, em⟩ := letv_out em
    rw [← e4, sB] at ex
    rw [← e12] at em
    by_cases c1 : i ≥ num 0 8
    · rw [if_pos c1] at ex em
      rw [ex, em]
      exact ⟨fixX_rf, fixM_rf, rel_le hR (by omega)⟩
    · rw [if_neg c1] at ex em
      have c1' : ¬ (num 0 8).toInt ≤ i.toInt := fun e => c1 (vv_ge.mpr e)
      have i1 : (i + 1).toInt = i.toInt + 1 := vp1 (by omega)
      have hi6 : 0 ≤ i.toInt ∧ i.toInt ≤ 6 := ⟨h0, by omega⟩
      have hci := tC_of h0
      have hcx := tC_of hx
      have hcB := tC_of sb.1
      obtain ⟨q1, q2, q3, q4, q5⟩ := sx i.toNatClampNeg (by omega)
      have hb := (buys_eq (nux := nux) (x := x) (u := u) (p := pr) hi6).2
      have hx52 : nux 52 x.toNatClampNeg = F_sm_besideOf num x := by
        rw [(sx x.toNatClampNeg (by omega)).2.1, ← nI_at hx]
      have hhas := near_and (b := F_sm_besideOf num x) (u := u) hi6
      rw [← ht] at hhas
      rw [hx52, q3, q1, sg] at hb
      have same : fixX nux (L_sx_walkOn3_30_0 pr u x n (i + 1) nux) ∧ fixM num (L_sm_routeOn4_34_0 pr t u n (i + 1) num) ∧ rel (c + (7 - i.toInt) * 57) (L_sx_walkOn3_30_0 pr u x n (i + 1) nux) (L_sm_routeOn4_34_0 pr t u n (i + 1) num) := by
        obtain ⟨z1, z2, z3⟩ := ih (i + 1) c nux num (by omega) hS hR hxB ht (by omega) (by omega) (by omega)
        exact ⟨z1, z2, rel_le z3 (by omega)⟩
      have step : ∀ xi1 xi2 : Nat → Nat → Int32, fixX nux xi1 → fixM num xi2 → rel (c + 57) xi1 xi2 → fixX nux (L_sx_walkOn3_30_0 pr u x n (i + 1) xi1) ∧ fixM num (L_sm_routeOn4_34_0 pr t u n (i + 1) xi2) ∧ rel (c + (7 - i.toInt) * 57) (L_sx_walkOn3_30_0 pr u x n (i + 1) xi1) (L_sm_routeOn4_34_0 pr t u n (i + 1) xi2) := fun xi1 xi2 g1 g2 g3 => by
        have m8 : xi2 0 8 = num 0 8 := g2.2.1 8 (by omega)
        have mb : F_sm_besideOf xi2 x = F_sm_besideOf num x := bes_congr (g2.1 9 (by decide) (by decide) (by decide) (by decide)) (g2.2.1 11 (by omega)) (g2.2.1 13 (by omega)) 15 0 0
        obtain ⟨z1, z2, z3⟩ := ih (i + 1) (c + 57) xi1 xi2 (by omega) (stR_of hS g1 g2) g3 (by rw [m8]; exact hxB) (by rw [mb]; exact ht) (by omega) (by omega) (by omega)
        exact ⟨fixX_tr g1 z1, fixM_tr g2 z2, rel_le z3 (by omega)⟩
      obtain ⟨r6, e6, ex⟩ := letv_out ex
      by_cases cb : r6 = (0 : Int32)
      · rw [if_pos cb] at ex
        obtain ⟨w, ew, ex⟩ := letv_out ex
        rw [← ew] at ex
        rw [ex]
        by_cases ch : F_sm_has t i = 1
        · rw [if_pos ch] at em
          obtain ⟨y18, e18, em⟩ := letv_out em
          rw [← e18, if_neg spc] at em
          obtain ⟨y65, e65, em⟩ := letv_out em
          rw [← e65] at em
          by_cases cp : num 8 i.toNatClampNeg < pr
          · rw [if_pos cp] at em
            obtain ⟨w, ew, em⟩ := letv_out em
            rw [em, ← ew]
            exact same
          · rw [if_neg cp] at em
            have cp' : ¬ (num 8 i.toNatClampNeg).toInt < pr.toInt := fun e => cp (vv_lt.mpr e)
            obtain ⟨n71, e71, em⟩ := letv_out em
            have f71 : fixM num n71 := ⟨fun k _ k2 _ _ => uw_k e71 k k2, fun f _ => by rw [uw_k e71 0 (by decide)], uw_f e71 0 (by decide)⟩
            have a0 : n71 0 = num 0 := uw_k e71 0 (by decide)
            have a7 : n71 7 = num 7 := uw_k e71 7 (by decide)
            obtain ⟨y79, e79, em⟩ := letv_out em
            rw [← e79, a0] at em
            by_cases cg : i = num 0 29
            · exact absurd (e6.trans cb) (hb.mpr ⟨(hhas.mp ch).1, (hhas.mp ch).2, by omega, Or.inl cg⟩)
            · rw [if_neg cg] at em
              obtain ⟨y81, e81, em⟩ := letv_out em
              rw [← e81, a7] at em
              by_cases ck : num 7 i.toNatClampNeg = 3
              · rw [if_pos ck] at em
                obtain ⟨w, ew, em⟩ := letv_out em
                rw [em, ← ew]
                refine step nux n71 fixX_rf f71 ?_
                unfold rel rC rS
                rw [a0]
                exact rel_le hR (by omega)
              · exact absurd (e6.trans cb) (hb.mpr ⟨(hhas.mp ch).1, (hhas.mp ch).2, by omega, Or.inr ck⟩)
        · rw [if_neg ch] at em
          obtain ⟨w, ew, em⟩ := letv_out em
          rw [em, ← ew]
          exact same
      · rw [if_neg cb] at ex
        obtain ⟨b1, b2, b3, b4⟩ := hb.mp (fun e => cb (e6.symm.trans e))
        rw [if_pos (hhas.mpr ⟨b1, b2⟩)] at em
        obtain ⟨y18, e18, em⟩ := letv_out em
        rw [← e18, if_neg spc] at em
        obtain ⟨y65, e65, em⟩ := letv_out em
        rw [← e65, if_neg (fun e => by have := vv_lt.mp e; omega)] at em
        obtain ⟨n8, e8, ex⟩ := letv_out ex
        obtain ⟨n71, e71, em⟩ := letv_out em
        have f8 : fixX nux n8 := ⟨fun k _ k2 _ _ _ _ => uw_k e8 k k2, fun f _ => by rw [uw_k e8 32 (by decide)]⟩
        have f71 : fixM num n71 := ⟨fun k _ k2 _ _ => uw_k e71 k k2, fun f _ => by rw [uw_k e71 0 (by decide)], uw_f e71 0 (by decide)⟩
        have a0 : n71 0 = num 0 := uw_k e71 0 (by decide)
        have a7 : n71 7 = num 7 := uw_k e71 7 (by decide)
        have a16 : n71 16 0 = num 16 0 := uw_f e71 0 (by decide)
        have hS2 := stR_of hS f8 f71
        have hR2 : rel c n8 n71 := by
          unfold rel rC rS
          rw [a0, uw_k e8 32 (by decide), uw_k e8 55 (by decide), uw_k e8 56 (by decide)]
          exact hR
        obtain ⟨y11, e11, ex⟩ := letv_out ex
        rw [← e11, uw_k e8 32 (by decide), sg] at ex
        obtain ⟨y79, e79, em⟩ := letv_out em
        rw [← e79, a0] at em
        by_cases cg : i = num 0 29
        · rw [if_pos cg] at ex em
          obtain ⟨x18, e18, ex⟩ := letv_out ex
          obtain ⟨w, ew, ex⟩ := letv_out ex
          obtain ⟨y101, e101, em⟩ := letv_out em
          obtain ⟨t102, e102, em⟩ := letv_out em
          obtain ⟨t103, e103, em⟩ := letv_out em
          obtain ⟨t104, e104, em⟩ := letv_out em
          obtain ⟨x108, e108, em⟩ := letv_out em
          obtain ⟨_, _, em⟩ := letv_out em
          obtain ⟨_, _, em⟩ := letv_out em
          obtain ⟨_, _, em⟩ := letv_out em
          obtain ⟨w2, ew2, em⟩ := letv_out em
          rw [ex, ← ew, em, ← ew2]
          obtain ⟨z1, z2, z3⟩ := arr hT (by omega) hS2 hR2 (s := 4) (n := 5) (u := u) (q := t104) (p := pr) (by decide) (by decide) ⟨hpr, by omega⟩ hu (by have q := e101; rw [show (0 : Int32).toNatClampNeg = 0 from rfl] at q; rw [← e104, ← e103, ← e102, ← q]) e18.symm e108.symm
          exact step x18 x108 (fixX_tr f8 z1) (fixM_tr f71 z2) (rel_le z3 (by omega))
        · rw [if_neg cg] at ex em
          have ck : ¬ num 7 i.toNatClampNeg = 3 := b4.resolve_left cg
          obtain ⟨y81, e81, em⟩ := letv_out em
          rw [← e81, a7, if_neg ck] at em
          obtain ⟨t13, e13, ex⟩ := letv_out ex
          obtain ⟨t14, e14, ex⟩ := letv_out ex
          obtain ⟨x15, e15, ex⟩ := letv_out ex
          obtain ⟨w, ew, ex⟩ := letv_out ex
          obtain ⟨t87, e87, em⟩ := letv_out em
          obtain ⟨t88, e88, em⟩ := letv_out em
          obtain ⟨x92, e92, em⟩ := letv_out em
          obtain ⟨_, _, em⟩ := letv_out em
          obtain ⟨_, _, em⟩ := letv_out em
          obtain ⟨_, _, em⟩ := letv_out em
          obtain ⟨w2, ew2, em⟩ := letv_out em
          rw [ex, ← ew, em, ← ew2]
          have v8 : n8 54 4 = i := uw_v e8
          have v71 : n71 16 4 = i := uw_v e71
          have tt : t88 = t14 := by rw [← e88, ← e14, ← e87, ← e13]
          rw [tt] at e92
          obtain ⟨z1, z2, z3⟩ := wk4 (u := t14) (p := pr) hT (by omega) hS2 hR2 (by rw [v8, v71]) (by rw [v71, a0]; omega) ⟨hpr, by omega⟩ (by rw [← e14, ← e13]; exact bits_or hu hi6)
          rw [e15, e92] at z3
          rw [e15] at z1
          rw [e92] at z2
          exact step x15 x92 (fixX_tr f8 z1) (fixM_tr f71 z2) (rel_le z3 (by omega))
theorem wk3 {T c : Int} {nux num : Nat → Nat → Int32} {u p : Int32} (hT : T ≤ 1000000) (hc : c + 399 ≤ 900000) (hS : stR T nux num) (hR : rel c nux num) (hy : nux 54 3 = num 16 3) (hr : 0 ≤ (num 16 3).toInt ∧ (num 16 3).toInt < (num 0 8).toInt) (hp : 0 ≤ p.toInt ∧ p.toInt ≤ T) (hu : ∀ j : Nat, j < 32 → bt u j = true → j < 7) : fixX nux (F_sx_walkOn3 nux u p) ∧ fixM num (F_sm_routeOn4 num u p) ∧ rel (c + 399) (F_sx_walkOn3 nux u p) (F_sm_routeOn4 num u p) := by
  have hcx := tC_of hr.1
  have hcB := tC_of hS.2.1.1
  have k1 := (hS.2.2.1 (num 16 3).toNatClampNeg (by omega)).1
  have hpr : 0 ≤ (F_sm_asksOf num (num 16 3) p).toInt := by
    rw [← ask_eq k1]
    exact ask_rng ⟨hp.1, by omega⟩
  have z : (0 : Int32).toInt = 0 := rfl
  have hl := wl3 hT hpr hu hr.1 10 0 c nux num (by rw [z]; omega) hS hR hr.2 rfl (by decide) (by decide) (by decide)
  have ex : F_sx_walkOn3 nux u p = L_sx_walkOn3_30_0 (F_sm_asksOf num (num 16 3) p) u (num 16 3) 10 0 nux := by
    rw [← ask_eq k1, ← hy]
    unfold F_sx_walkOn3
    rw [letv_eq, letv_eq, letv_eq]
    rfl
  have em : F_sm_routeOn4 num u p = L_sm_routeOn4_34_0 (F_sm_asksOf num (num 16 3) p) (F_sm_besideOf num (num 16 3) &&& (u ^^^ (-1))) u 10 0 num := by
    unfold F_sm_routeOn4
    rw [letv_eq, letv_eq, letv_eq, letv_eq, letv_eq, letv_eq, letv_eq, letv_eq]
    rfl
  rw [ex, em]
  refine ⟨hl.1, hl.2.1, rel_le hl.2.2 (by rw [z]; omega)⟩
theorem wl2 {T : Int} {u pr x t : Int32} (hT : T ≤ 1000000) (hpr : 0 ≤ pr.toInt) (hu : ∀ j : Nat, j < 32 → bt u j = true → j < 7) (hx : 0 ≤ x.toInt) : ∀ (n : Nat) (i : Int32) (c : Int) (nux num : Nat → Nat → Int32), c + (7 - i.toInt) * 400 ≤ 900000 → stR T nux num → rel c nux num → x.toInt < (num 0 8).toInt → t = F_sm_besideOf num x &&& (u ^^^ (-1)) → 0 ≤ i.toInt → i.toInt ≤ 7 → (7 - i.toInt).toNat < n → fixX nux (L_sx_walkOn2_30_0 pr u x n i nux) ∧ fixM num (L_sm_routeOn3_34_0 pr t u n i num) ∧ rel (c + (7 - i.toInt) * 400) (L_sx_walkOn2_30_0 pr u x n i nux) (L_sm_routeOn3_34_0 pr t u n i num) := by
  intro n
  induction n with
  | zero => intro i c nux num _ _ _ _ _ _ _ hn; exact absurd hn (Nat.not_lt_zero _)
  | succ n ih =>
    intro i c nux num hc hS hR hxB ht h0 h7 hn
    obtain ⟨sB, sb, sx, sg, spc, sf, sfr, sl⟩ := id hS
    obtain ⟨zx, ex⟩ : ∃ z, z = L_sx_walkOn2_30_0 pr u x (n + 1) i nux := ⟨_, rfl⟩
    obtain ⟨zm, em⟩ : ∃ z, z = L_sm_routeOn3_34_0 pr t u (n + 1) i num := ⟨_, rfl⟩
    rw [← ex, ← em]
    unfold L_sx_walkOn2_30_0 at ex
    unfold L_sm_routeOn3_34_0 at em
    obtain ⟨y4, e4, ex⟩ := letv_out ex
    obtain ⟨y9, e9, em⟩ := letv_out em
    obtain ⟨y10, e10, em⟩ := letv_out em
    obtain ⟨y11, e11, em⟩ := letv_out em
    obtain ⟨y12, e12, em⟩ := letv_out em
    rw [← e4, sB] at ex
    rw [← e12] at em
    by_cases c1 : i ≥ num 0 8
    · rw [if_pos c1] at ex em
      rw [ex, em]
      exact ⟨fixX_rf, fixM_rf, rel_le hR (by omega)⟩
    · rw [if_neg c1] at ex em
      have c1' : ¬ (num 0 8).toInt ≤ i.toInt := fun e => c1 (vv_ge.mpr e)
      have i1 : (i + 1).toInt = i.toInt + 1 := vp1 (by omega)
      have hi6 : 0 ≤ i.toInt ∧ i.toInt ≤ 6 := ⟨h0, by omega⟩
      have hci := tC_of h0
      have hcx := tC_of hx
      have hcB := tC_of sb.1
      obtain ⟨q1, q2, q3, q4, q5⟩ := sx i.toNatClampNeg (by omega)
      have hb := (buys_eq (nux := nux) (x := x) (u := u) (p := pr) hi6).2
      have hx52 : nux 52 x.toNatClampNeg = F_sm_besideOf num x := by
        rw [(sx x.toNatClampNeg (by omega)).2.1, ← nI_at hx]
      have hhas := near_and (b := F_sm_besideOf num x) (u := u) hi6
      rw [← ht] at hhas
      rw [hx52, q3, q1, sg] at hb
      have same : fixX nux (L_sx_walkOn2_30_0 pr u x n (i + 1) nux) ∧ fixM num (L_sm_routeOn3_34_0 pr t u n (i + 1) num) ∧ rel (c + (7 - i.toInt) * 400) (L_sx_walkOn2_30_0 pr u x n (i + 1) nux) (L_sm_routeOn3_34_0 pr t u n (i + 1) num) := by
        obtain ⟨z1, z2, z3⟩ := ih (i + 1) c nux num (by omega) hS hR hxB ht (by omega) (by omega) (by omega)
        exact ⟨z1, z2, rel_le z3 (by omega)⟩
      have step : ∀ xi1 xi2 : Nat → Nat → Int32, fixX nux xi1 → fixM num xi2 → rel (c + 400) xi1 xi2 → fixX nux (L_sx_walkOn2_30_0 pr u x n (i + 1) xi1) ∧ fixM num (L_sm_routeOn3_34_0 pr t u n (i + 1) xi2) ∧ rel (c + (7 - i.toInt) * 400) (L_sx_walkOn2_30_0 pr u x n (i + 1) xi1) (L_sm_routeOn3_34_0 pr t u n (i + 1) xi2) := fun xi1 xi2 g1 g2 g3 => by
        have m8 : xi2 0 8 = num 0 8 := g2.2.1 8 (by omega)
        have mb : F_sm_besideOf xi2 x = F_sm_besideOf num x := bes_congr (g2.1 9 (by decide) (by decide) (by decide) (by decide)) (g2.2.1 11 (by omega)) (g2.2.1 13 (by omega)) 15 0 0
        obtain ⟨z1, z2, z3⟩ := ih (i + 1) (c + 400) xi1 xi2 (by omega) (stR_of hS g1 g2) g3 (by rw [m8]; exact hxB) (by rw [mb]; exact ht) (by omega) (by omega) (by omega)
        exact ⟨fixX_tr g1 z1, fixM_tr g2 z2, rel_le z3 (by omega)⟩
      obtain ⟨r6, e6, ex⟩ := letv_out ex
      by_cases cb : r6 = (0 : Int32)
      · rw [if_pos cb] at ex
        obtain ⟨w, ew, ex⟩ := letv_out ex
        rw [← ew] at ex
        rw [ex]
        by_cases ch : F_sm_has t i = 1
        · rw [if_pos ch] at em
          obtain ⟨y18, e18, em⟩ := letv_out em
          rw [← e18, if_neg spc] at em
          obtain ⟨y65, e65, em⟩ := letv_out em
          rw [← e65] at em
          by_cases cp : num 8 i.toNatClampNeg < pr
          · rw [if_pos cp] at em
            obtain ⟨w, ew, em⟩ := letv_out em
            rw [em, ← ew]
            exact same
          · rw [if_neg cp] at em
            have cp' : ¬ (num 8 i.toNatClampNeg).toInt < pr.toInt := fun e => cp (vv_lt.mpr e)
            obtain ⟨n71, e71, em⟩ := letv_out em
            have f71 : fixM num n71 := ⟨fun k _ k2 _ _ => uw_k e71 k k2, fun f _ => by rw [uw_k e71 0 (by decide)], uw_f e71 0 (by decide)⟩
            have a0 : n71 0 = num 0 := uw_k e71 0 (by decide)
            have a7 : n71 7 = num 7 := uw_k e71 7 (by decide)
            obtain ⟨y79, e79, em⟩ := letv_out em
            rw [← e79, a0] at em
            by_cases cg : i = num 0 29
            · exact absurd (e6.trans cb) (hb.mpr ⟨(hhas.mp ch).1, (hhas.mp ch).2, by omega, Or.inl cg⟩)
            · rw [if_neg cg] at em
              obtain ⟨y81, e81, em⟩ := letv_out em
              rw [← e81, a7] at em
              by_cases ck : num 7 i.toNatClampNeg = 3
              · rw [if_pos ck] at em
                obtain ⟨w, ew, em⟩ := letv_out em
                rw [em, ← ew]
                refine step nux n71 fixX_rf f71 ?_
                unfold rel rC rS
                rw [a0]
                exact rel_le hR (by omega)
              · exact absurd (e6.trans cb) (hb.mpr ⟨(hhas.mp ch).1, (hhas.mp ch).2, by omega, Or.inr ck⟩)
        · rw [if_neg ch] at em
          obtain ⟨w, ew, em⟩ := letv_out em
          rw [em, ← ew]
          exact same
      · rw [if_neg cb] at ex
        obtain ⟨b1, b2, b3, b4⟩ := hb.mp (fun e => cb (e6.symm.trans e))
        rw [if_pos (hhas.mpr ⟨b1, b2⟩)] at em
        obtain ⟨y18, e18, em⟩ := letv_out em
        rw [← e18, if_neg spc] at em
        obtain ⟨y65, e65, em⟩ := letv_out em
        rw [← e65, if_neg (fun e => by have := vv_lt.mp e; omega)] at em
        obtain ⟨n8, e8, ex⟩ := letv_out ex
        obtain ⟨n71, e71, em⟩ := letv_out em
        have f8 : fixX nux n8 := ⟨fun k _ k2 _ _ _ _ => uw_k e8 k k2, fun f _ => by rw [uw_k e8 32 (by decide)]⟩
        have f71 : fixM num n71 := ⟨fun k _ k2 _ _ => uw_k e71 k k2, fun f _ => by rw [uw_k e71 0 (by decide)], uw_f e71 0 (by decide)⟩
        have a0 : n71 0 = num 0 := uw_k e71 0 (by decide)
        have a7 : n71 7 = num 7 := uw_k e71 7 (by decide)
        have a16 : n71 16 0 = num 16 0 := uw_f e71 0 (by decide)
        have hS2 := stR_of hS f8 f71
        have hR2 : rel c n8 n71 := by
          unfold rel rC rS
          rw [a0, uw_k e8 32 (by decide), uw_k e8 55 (by decide), uw_k e8 56 (by decide)]
          exact hR
        obtain ⟨y11, e11, ex⟩ := letv_out ex
        rw [← e11, uw_k e8 32 (by decide), sg] at ex
        obtain ⟨y79, e79, em⟩ := letv_out em
        rw [← e79, a0] at em
        by_cases cg : i = num 0 29
        · rw [if_pos cg] at ex em
          obtain ⟨x18, e18, ex⟩ := letv_out ex
          obtain ⟨w, ew, ex⟩ := letv_out ex
          obtain ⟨y101, e101, em⟩ := letv_out em
          obtain ⟨t102, e102, em⟩ := letv_out em
          obtain ⟨t103, e103, em⟩ := letv_out em
          obtain ⟨t104, e104, em⟩ := letv_out em
          obtain ⟨x108, e108, em⟩ := letv_out em
          obtain ⟨_, _, em⟩ := letv_out em
          obtain ⟨_, _, em⟩ := letv_out em
          obtain ⟨_, _, em⟩ := letv_out em
          obtain ⟨w2, ew2, em⟩ := letv_out em
          rw [ex, ← ew, em, ← ew2]
          obtain ⟨z1, z2, z3⟩ := arr hT (by omega) hS2 hR2 (s := 3) (n := 4) (u := u) (q := t104) (p := pr) (by decide) (by decide) ⟨hpr, by omega⟩ hu (by have q := e101; rw [show (0 : Int32).toNatClampNeg = 0 from rfl] at q; rw [← e104, ← e103, ← e102, ← q]) e18.symm e108.symm
          exact step x18 x108 (fixX_tr f8 z1) (fixM_tr f71 z2) (rel_le z3 (by omega))
        · rw [if_neg cg] at ex em
          have ck : ¬ num 7 i.toNatClampNeg = 3 := b4.resolve_left cg
          obtain ⟨y81, e81, em⟩ := letv_out em
          rw [← e81, a7, if_neg ck] at em
          obtain ⟨t13, e13, ex⟩ := letv_out ex
          obtain ⟨t14, e14, ex⟩ := letv_out ex
          obtain ⟨x15, e15, ex⟩ := letv_out ex
          obtain ⟨w, ew, ex⟩ := letv_out ex
          obtain ⟨t87, e87, em⟩ := letv_out em
          obtain ⟨t88, e88, em⟩ := letv_out em
          obtain ⟨x92, e92, em⟩ := letv_out em
          obtain ⟨_, _, em⟩ := letv_out em
          obtain ⟨_, _, em⟩ := letv_out em
          obtain ⟨_, _, em⟩ := letv_out em
          obtain ⟨w2, ew2, em⟩ := letv_out em
          rw [ex, ← ew, em, ← ew2]
          have v8 : n8 54 3 = i := uw_v e8
          have v71 : n71 16 3 = i := uw_v e71
          have tt : t88 = t14 := by rw [← e88, ← e14, ← e87, ← e13]
          rw [tt] at e92
          obtain ⟨z1, z2, z3⟩ := wk3 (u := t14) (p := pr) hT (by omega) hS2 hR2 (by rw [v8, v71]) (by rw [v71, a0]; omega) ⟨hpr, by omega⟩ (by rw [← e14, ← e13]; exact bits_or hu hi6)
          rw [e15, e92] at z3
          rw [e15] at z1
          rw [e92] at z2
          exact step x15 x92 (fixX_tr f8 z1) (fixM_tr f71 z2) (rel_le z3 (by omega))
theorem wk2 {T c : Int} {nux num : Nat → Nat → Int32} {u p : Int32} (hT : T ≤ 1000000) (hc : c + 2800 ≤ 900000) (hS : stR T nux num) (hR : rel c nux num) (hy : nux 54 2 = num 16 2) (hr : 0 ≤ (num 16 2).toInt ∧ (num 16 2).toInt < (num 0 8).toInt) (hp : 0 ≤ p.toInt ∧ p.toInt ≤ T) (hu : ∀ j : Nat, j < 32 → bt u j = true → j < 7) : fixX nux (F_sx_walkOn2 nux u p) ∧ fixM num (F_sm_routeOn3 num u p) ∧ rel (c + 2800) (F_sx_walkOn2 nux u p) (F_sm_routeOn3 num u p) := by
  have hcx := tC_of hr.1
  have hcB := tC_of hS.2.1.1
  have k1 := (hS.2.2.1 (num 16 2).toNatClampNeg (by omega)).1
  have hpr : 0 ≤ (F_sm_asksOf num (num 16 2) p).toInt := by
    rw [← ask_eq k1]
    exact ask_rng ⟨hp.1, by omega⟩
  have z : (0 : Int32).toInt = 0 := rfl
  have hl := wl2 hT hpr hu hr.1 10 0 c nux num (by rw [z]; omega) hS hR hr.2 rfl (by decide) (by decide) (by decide)
  have ex : F_sx_walkOn2 nux u p = L_sx_walkOn2_30_0 (F_sm_asksOf num (num 16 2) p) u (num 16 2) 10 0 nux := by
    rw [← ask_eq k1, ← hy]
    unfold F_sx_walkOn2
    rw [letv_eq, letv_eq, letv_eq]
    rfl
  have em : F_sm_routeOn3 num u p = L_sm_routeOn3_34_0 (F_sm_asksOf num (num 16 2) p) (F_sm_besideOf num (num 16 2) &&& (u ^^^ (-1))) u 10 0 num := by
    unfold F_sm_routeOn3
    rw [letv_eq, letv_eq, letv_eq, letv_eq, letv_eq, letv_eq, letv_eq, letv_eq]
    rfl
  rw [ex, em]
  refine ⟨hl.1, hl.2.1, rel_le hl.2.2 (by rw [z]; omega)⟩
theorem wl1 {T : Int} {u pr x t : Int32} (hT : T ≤ 1000000) (hpr : 0 ≤ pr.toInt) (hu : ∀ j : Nat, j < 32 → bt u j = true → j < 7) (hx : 0 ≤ x.toInt) : ∀ (n : Nat) (i : Int32) (c : Int) (nux num : Nat → Nat → Int32), c + (7 - i.toInt) * 2801 ≤ 900000 → stR T nux num → rel c nux num → x.toInt < (num 0 8).toInt → t = F_sm_besideOf num x &&& (u ^^^ (-1)) → 0 ≤ i.toInt → i.toInt ≤ 7 → (7 - i.toInt).toNat < n → fixX nux (L_sx_walkOn1_30_0 pr u x n i nux) ∧ fixM num (L_sm_routeOn2_34_0 pr t u n i num) ∧ rel (c + (7 - i.toInt) * 2801) (L_sx_walkOn1_30_0 pr u x n i nux) (L_sm_routeOn2_34_0 pr t u n i num) := by
  intro n
  induction n with
  | zero => intro i c nux num _ _ _ _ _ _ _ hn; exact absurd hn (Nat.not_lt_zero _)
  | succ n ih =>
    intro i c nux num hc hS hR hxB ht h0 h7 hn
    obtain ⟨sB, sb, sx, sg, spc, sf, sfr, sl⟩ := id hS
    obtain ⟨zx, ex⟩ : ∃ z, z = L_sx_walkOn1_30_0 pr u x (n + 1) i nux := ⟨_, rfl⟩
    obtain ⟨zm, em⟩ : ∃ z, z = L_sm_routeOn2_34_0 pr t u (n + 1) i num := ⟨_, rfl⟩
    rw [← ex, ← em]
    unfold L_sx_walkOn1_30_0 at ex
    unfold L_sm_routeOn2_34_0 at em
    obtain ⟨y4, e4, ex⟩ := letv_out ex
    obtain ⟨y9, e9, em⟩ := letv_out em
    obtain ⟨y10, e10, em⟩ := letv_out em
    obtain ⟨y11, e11, em⟩ := letv_out em
    obtain ⟨y12, e12, em⟩ := letv_out em
    rw [← e4, sB] at ex
    rw [← e12] at em
    by_cases c1 : i ≥ num 0 8
    · rw [if_pos c1] at ex em
      rw [ex, em]
      exact ⟨fixX_rf, fixM_rf, rel_le hR (by omega)⟩
    · rw [if_neg c1] at ex em
      have c1' : ¬ (num 0 8).toInt ≤ i.toInt := fun e => c1 (vv_ge.mpr e)
      have i1 : (i + 1).toInt = i.toInt + 1 := vp1 (by omega)
      have hi6 : 0 ≤ i.toInt ∧ i.toInt ≤ 6 := ⟨h0, by omega⟩
      have hci := tC_of h0
      have hcx := tC_of hx
      have hcB := tC_of sb.1
      obtain ⟨q1, q2, q3, q4, q5⟩ := sx i.toNatClampNeg (by omega)
      have hb := (buys_eq (nux := nux) (x := x) (u := u) (p := pr) hi6).2
      have hx52 : nux 52 x.toNatClampNeg = F_sm_besideOf num x := by
        rw [(sx x.toNatClampNeg (by omega)).2.1, ← nI_at hx]
      have hhas := near_and (b := F_sm_besideOf num x) (u := u) hi6
      rw [← ht] at hhas
      rw [hx52, q3, q1, sg] at hb
      have same : fixX nux (L_sx_walkOn1_30_0 pr u x n (i + 1) nux) ∧ fixM num (L_sm_routeOn2_34_0 pr t u n (i + 1) num) ∧ rel (c + (7 - i.toInt) * 2801) (L_sx_walkOn1_30_0 pr u x n (i + 1) nux) (L_sm_routeOn2_34_0 pr t u n (i + 1) num) := by
        obtain ⟨z1, z2, z3⟩ := ih (i + 1) c nux num (by omega) hS hR hxB ht (by omega) (by omega) (by omega)
        exact ⟨z1, z2, rel_le z3 (by omega)⟩
      have step : ∀ xi1 xi2 : Nat → Nat → Int32, fixX nux xi1 → fixM num xi2 → rel (c + 2801) xi1 xi2 → fixX nux (L_sx_walkOn1_30_0 pr u x n (i + 1) xi1) ∧ fixM num (L_sm_routeOn2_34_0 pr t u n (i + 1) xi2) ∧ rel (c + (7 - i.toInt) * 2801) (L_sx_walkOn1_30_0 pr u x n (i + 1) xi1) (L_sm_routeOn2_34_0 pr t u n (i + 1) xi2) := fun xi1 xi2 g1 g2 g3 => by
        have m8 : xi2 0 8 = num 0 8 := g2.2.1 8 (by omega)
        have mb : F_sm_besideOf xi2 x = F_sm_besideOf num x := bes_congr (g2.1 9 (by decide) (by decide) (by decide) (by decide)) (g2.2.1 11 (by omega)) (g2.2.1 13 (by omega)) 15 0 0
        obtain ⟨z1, z2, z3⟩ := ih (i + 1) (c + 2801) xi1 xi2 (by omega) (stR_of hS g1 g2) g3 (by rw [m8]; exact hxB) (by rw [mb]; exact ht) (by omega) (by omega) (by omega)
        exact ⟨fixX_tr g1 z1, fixM_tr g2 z2, rel_le z3 (by omega)⟩
      obtain ⟨r6, e6, ex⟩ := letv_out ex
      by_cases cb : r6 = (0 : Int32)
      · rw [if_pos cb] at ex
        obtain ⟨w, ew, ex⟩ := letv_out ex
        rw [← ew] at ex
        rw [ex]
        by_cases ch : F_sm_has t i = 1
        · rw [if_pos ch] at em
          obtain ⟨y18, e18, em⟩ := letv_out em
          rw [← e18, if_neg spc] at em
          obtain ⟨y65, e65, em⟩ := letv_out em
          rw [← e65] at em
          by_cases cp : num 8 i.toNatClampNeg < pr
          · rw [if_pos cp] at em
            obtain ⟨w, ew, em⟩ := letv_out em
            rw [em, ← ew]
            exact same
          · rw [if_neg cp] at em
            have cp' : ¬ (num 8 i.toNatClampNeg).toInt < pr.toInt := fun e => cp (vv_lt.mpr e)
            obtain ⟨n71, e71, em⟩ := letv_out em
            have f71 : fixM num n71 := ⟨fun k _ k2 _ _ => uw_k e71 k k2, fun f _ => by rw [uw_k e71 0 (by decide)], uw_f e71 0 (by decide)⟩
            have a0 : n71 0 = num 0 := uw_k e71 0 (by decide)
            have a7 : n71 7 = num 7 := uw_k e71 7 (by decide)
            obtain ⟨y79, e79, em⟩ := letv_out em
            rw [← e79, a0] at em
            by_cases cg : i = num 0 29
            · exact absurd (e6.trans cb) (hb.mpr ⟨(hhas.mp ch).1, (hhas.mp ch).2, by omega, Or.inl cg⟩)
            · rw [if_neg cg] at em
              obtain ⟨y81, e81, em⟩ := letv_out em
              rw [← e81, a7] at em
              by_cases ck : num 7 i.toNatClampNeg = 3
              · rw [if_pos ck] at em
                obtain ⟨w, ew, em⟩ := letv_out em
                rw [em, ← ew]
                refine step nux n71 fixX_rf f71 ?_
                unfold rel rC rS
                rw [a0]
                exact rel_le hR (by omega)
              · exact absurd (e6.trans cb) (hb.mpr ⟨(hhas.mp ch).1, (hhas.mp ch).2, by omega, Or.inr ck⟩)
        · rw [if_neg ch] at em
          obtain ⟨w, ew, em⟩ := letv_out em
          rw [em, ← ew]
          exact same
      · rw [if_neg cb] at ex
        obtain ⟨b1, b2, b3, b4⟩ := hb.mp (fun e => cb (e6.symm.trans e))
        rw [if_pos (hhas.mpr ⟨b1, b2⟩)] at em
        obtain ⟨y18, e18, em⟩ := letv_out em
        rw [← e18, if_neg spc] at em
        obtain ⟨y65, e65, em⟩ := letv_out em
        rw [← e65, if_neg (fun e => by have := vv_lt.mp e; omega)] at em
        obtain ⟨n8, e8, ex⟩ := letv_out ex
        obtain ⟨n71, e71, em⟩ := letv_out em
        have f8 : fixX nux n8 := ⟨fun k _ k2 _ _ _ _ => uw_k e8 k k2, fun f _ => by rw [uw_k e8 32 (by decide)]⟩
        have f71 : fixM num n71 := ⟨fun k _ k2 _ _ => uw_k e71 k k2, fun f _ => by rw [uw_k e71 0 (by decide)], uw_f e71 0 (by decide)⟩
        have a0 : n71 0 = num 0 := uw_k e71 0 (by decide)
        have a7 : n71 7 = num 7 := uw_k e71 7 (by decide)
        have a16 : n71 16 0 = num 16 0 := uw_f e71 0 (by decide)
        have hS2 := stR_of hS f8 f71
        have hR2 : rel c n8 n71 := by
          unfold rel rC rS
          rw [a0, uw_k e8 32 (by decide), uw_k e8 55 (by decide), uw_k e8 56 (by decide)]
          exact hR
        obtain ⟨y11, e11, ex⟩ := letv_out ex
        rw [← e11, uw_k e8 32 (by decide), sg] at ex
        obtain ⟨y79, e79, em⟩ := letv_out em
        rw [← e79, a0] at em
        by_cases cg : i = num 0 29
        · rw [if_pos cg] at ex em
          obtain ⟨x18, e18, ex⟩ := letv_out ex
          obtain ⟨w, ew, ex⟩ := letv_out ex
          obtain ⟨y101, e101, em⟩ := letv_out em
          obtain ⟨t102, e102, em⟩ := letv_out em
          obtain ⟨t103, e103, em⟩ := letv_out em
          obtain ⟨t104, e104, em⟩ := letv_out em
          obtain ⟨x108, e108, em⟩ := letv_out em
          obtain ⟨_, _, em⟩ := letv_out em
          obtain ⟨_, _, em⟩ := letv_out em
          obtain ⟨_, _, em⟩ := letv_out em
          obtain ⟨w2, ew2, em⟩ := letv_out em
          rw [ex, ← ew, em, ← ew2]
          obtain ⟨z1, z2, z3⟩ := arr hT (by omega) hS2 hR2 (s := 2) (n := 3) (u := u) (q := t104) (p := pr) (by decide) (by decide) ⟨hpr, by omega⟩ hu (by have q := e101; rw [show (0 : Int32).toNatClampNeg = 0 from rfl] at q; rw [← e104, ← e103, ← e102, ← q]) e18.symm e108.symm
          exact step x18 x108 (fixX_tr f8 z1) (fixM_tr f71 z2) (rel_le z3 (by omega))
        · rw [if_neg cg] at ex em
          have ck : ¬ num 7 i.toNatClampNeg = 3 := b4.resolve_left cg
          obtain ⟨y81, e81, em⟩ := letv_out em
          rw [← e81, a7, if_neg ck] at em
          obtain ⟨t13, e13, ex⟩ := letv_out ex
          obtain ⟨t14, e14, ex⟩ := letv_out ex
          obtain ⟨x15, e15, ex⟩ := letv_out ex
          obtain ⟨w, ew, ex⟩ := letv_out ex
          obtain ⟨t87, e87, em⟩ := letv_out em
          obtain ⟨t88, e88, em⟩ := letv_out em
          obtain ⟨x92, e92, em⟩ := letv_out em
          obtain ⟨_, _, em⟩ := letv_out em
          obtain ⟨_, _, em⟩ := letv_out em
          obtain ⟨_, _, em⟩ := letv_out em
          obtain ⟨w2, ew2, em⟩ := letv_out em
          rw [ex, ← ew, em, ← ew2]
          have v8 : n8 54 2 = i := uw_v e8
          have v71 : n71 16 2 = i := uw_v e71
          have tt : t88 = t14 := by rw [← e88, ← e14, ← e87, ← e13]
          rw [tt] at e92
          obtain ⟨z1, z2, z3⟩ := wk2 (u := t14) (p := pr) hT (by omega) hS2 hR2 (by rw [v8, v71]) (by rw [v71, a0]; omega) ⟨hpr, by omega⟩ (by rw [← e14, ← e13]; exact bits_or hu hi6)
          rw [e15, e92] at z3
          rw [e15] at z1
          rw [e92] at z2
          exact step x15 x92 (fixX_tr f8 z1) (fixM_tr f71 z2) (rel_le z3 (by omega))
theorem wk1 {T c : Int} {nux num : Nat → Nat → Int32} {u p : Int32} (hT : T ≤ 1000000) (hc : c + 19607 ≤ 900000) (hS : stR T nux num) (hR : rel c nux num) (hy : nux 54 1 = num 16 1) (hr : 0 ≤ (num 16 1).toInt ∧ (num 16 1).toInt < (num 0 8).toInt) (hp : 0 ≤ p.toInt ∧ p.toInt ≤ T) (hu : ∀ j : Nat, j < 32 → bt u j = true → j < 7) : fixX nux (F_sx_walkOn1 nux u p) ∧ fixM num (F_sm_routeOn2 num u p) ∧ rel (c + 19607) (F_sx_walkOn1 nux u p) (F_sm_routeOn2 num u p) := by
  have hcx := tC_of hr.1
  have hcB := tC_of hS.2.1.1
  have k1 := (hS.2.2.1 (num 16 1).toNatClampNeg (by omega)).1
  have hpr : 0 ≤ (F_sm_asksOf num (num 16 1) p).toInt := by
    rw [← ask_eq k1]
    exact ask_rng ⟨hp.1, by omega⟩
  have z : (0 : Int32).toInt = 0 := rfl
  have hl := wl1 hT hpr hu hr.1 10 0 c nux num (by rw [z]; omega) hS hR hr.2 rfl (by decide) (by decide) (by decide)
  have ex : F_sx_walkOn1 nux u p = L_sx_walkOn1_30_0 (F_sm_asksOf num (num 16 1) p) u (num 16 1) 10 0 nux := by
    rw [← ask_eq k1, ← hy]
    unfold F_sx_walkOn1
    rw [letv_eq, letv_eq, letv_eq]
    rfl
  have em : F_sm_routeOn2 num u p = L_sm_routeOn2_34_0 (F_sm_asksOf num (num 16 1) p) (F_sm_besideOf num (num 16 1) &&& (u ^^^ (-1))) u 10 0 num := by
    unfold F_sm_routeOn2
    rw [letv_eq, letv_eq, letv_eq, letv_eq, letv_eq, letv_eq, letv_eq, letv_eq]
    rfl
  rw [ex, em]
  refine ⟨hl.1, hl.2.1, rel_le hl.2.2 (by rw [z]; omega)⟩
theorem wl0 {T : Int} {u pr x t : Int32} (hT : T ≤ 1000000) (hpr : 0 ≤ pr.toInt) (hu : ∀ j : Nat, j < 32 → bt u j = true → j < 7) (hx : 0 ≤ x.toInt) : ∀ (n : Nat) (i : Int32) (c : Int) (nux num : Nat → Nat → Int32), c + (7 - i.toInt) * 19608 ≤ 900000 → stR T nux num → rel c nux num → x.toInt < (num 0 8).toInt → t = F_sm_besideOf num x &&& (u ^^^ (-1)) → 0 ≤ i.toInt → i.toInt ≤ 7 → (7 - i.toInt).toNat < n → fixX nux (L_sx_walkOn0_30_0 pr u x n i nux) ∧ fixM num (L_sm_routeOn1_34_0 pr t u n i num) ∧ rel (c + (7 - i.toInt) * 19608) (L_sx_walkOn0_30_0 pr u x n i nux) (L_sm_routeOn1_34_0 pr t u n i num) := by
  intro n
  induction n with
  | zero => intro i c nux num _ _ _ _ _ _ _ hn; exact absurd hn (Nat.not_lt_zero _)
  | succ n ih =>
    intro i c nux num hc hS hR hxB ht h0 h7 hn
    obtain ⟨sB, sb, sx, sg, spc, sf, sfr, sl⟩ := id hS
    obtain ⟨zx, ex⟩ : ∃ z, z = L_sx_walkOn0_30_0 pr u x (n + 1) i nux := ⟨_, rfl⟩
    obtain ⟨zm, em⟩ : ∃ z, z = L_sm_routeOn1_34_0 pr t u (n + 1) i num := ⟨_, rfl⟩
    rw [← ex, ← em]
    unfold L_sx_walkOn0_30_0 at ex
    unfold L_sm_routeOn1_34_0 at em
    obtain ⟨y4, e4, ex⟩ := letv_out ex
    obtain ⟨y9, e9, em⟩ := letv_out em
    obtain ⟨y10, e10, em⟩ := letv_out em
    obtain ⟨y11, e11, em⟩ := letv_out em
    obtain ⟨y12, e12, em⟩ := letv_out em
    rw [← e4, sB] at ex
    rw [← e12] at em
    by_cases c1 : i ≥ num 0 8
    · rw [if_pos c1] at ex em
      rw [ex, em]
      exact ⟨fixX_rf, fixM_rf, rel_le hR (by omega)⟩
    · rw [if_neg c1] at ex em
      have c1' : ¬ (num 0 8).toInt ≤ i.toInt := fun e => c1 (vv_ge.mpr e)
      have i1 : (i + 1).toInt = i.toInt + 1 := vp1 (by omega)
      have hi6 : 0 ≤ i.toInt ∧ i.toInt ≤ 6 := ⟨h0, by omega⟩
      have hci := tC_of h0
      have hcx := tC_of hx
      have hcB := tC_of sb.1
      obtain ⟨q1, q2, q3, q4, q5⟩ := sx i.toNatClampNeg (by omega)
      have hb := (buys_eq (nux := nux) (x := x) (u := u) (p := pr) hi6).2
      have hx52 : nux 52 x.toNatClampNeg = F_sm_besideOf num x := by
        rw [(sx x.toNatClampNeg (by omega)).2.1, ← nI_at hx]
      have hhas := near_and (b := F_sm_besideOf num x) (u := u) hi6
      rw [← ht] at hhas
      rw [hx52, q3, q1, sg] at hb
      have same : fixX nux (L_sx_walkOn0_30_0 pr u x n (i + 1) nux) ∧ fixM num (L_sm_routeOn1_34_0 pr t u n (i + 1) num) ∧ rel (c + (7 - i.toInt) * 19608) (L_sx_walkOn0_30_0 pr u x n (i + 1) nux) (L_sm_routeOn1_34_0 pr t u n (i + 1) num) := by
        obtain ⟨z1, z2, z3⟩ := ih (i + 1) c nux num (by omega) hS hR hxB ht (by omega) (by omega) (by omega)
        exact ⟨z1, z2, rel_le z3 (by omega)⟩
      have step : ∀ xi1 xi2 : Nat → Nat → Int32, fixX nux xi1 → fixM num xi2 → rel (c + 19608) xi1 xi2 → fixX nux (L_sx_walkOn0_30_0 pr u x n (i + 1) xi1) ∧ fixM num (L_sm_routeOn1_34_0 pr t u n (i + 1) xi2) ∧ rel (c + (7 - i.toInt) * 19608) (L_sx_walkOn0_30_0 pr u x n (i + 1) xi1) (L_sm_routeOn1_34_0 pr t u n (i + 1) xi2) := fun xi1 xi2 g1 g2 g3 => by
        have m8 : xi2 0 8 = num 0 8 := g2.2.1 8 (by omega)
        have mb : F_sm_besideOf xi2 x = F_sm_besideOf num x := bes_congr (g2.1 9 (by decide) (by decide) (by decide) (by decide)) (g2.2.1 11 (by omega)) (g2.2.1 13 (by omega)) 15 0 0
        obtain ⟨z1, z2, z3⟩ := ih (i + 1) (c + 19608) xi1 xi2 (by omega) (stR_of hS g1 g2) g3 (by rw [m8]; exact hxB) (by rw [mb]; exact ht) (by omega) (by omega) (by omega)
        exact ⟨fixX_tr g1 z1, fixM_tr g2 z2, rel_le z3 (by omega)⟩
      obtain ⟨r6, e6, ex⟩ := letv_out ex
      by_cases cb : r6 = (0 : Int32)
      · rw [if_pos cb] at ex
        obtain ⟨w, ew, ex⟩ := letv_out ex
        rw [← ew] at ex
        rw [ex]
        by_cases ch : F_sm_has t i = 1
        · rw [if_pos ch] at em
          obtain ⟨y18, e18, em⟩ := letv_out em
          rw [← e18, if_neg spc] at em
          obtain ⟨y65, e65, em⟩ := letv_out em
          rw [← e65] at em
          by_cases cp : num 8 i.toNatClampNeg < pr
          · rw [if_pos cp] at em
            obtain ⟨w, ew, em⟩ := letv_out em
            rw [em, ← ew]
            exact same
          · rw [if_neg cp] at em
            have cp' : ¬ (num 8 i.toNatClampNeg).toInt < pr.toInt := fun e => cp (vv_lt.mpr e)
            obtain ⟨n71, e71, em⟩ := letv_out em
            have f71 : fixM num n71 := ⟨fun k _ k2 _ _ => uw_k e71 k k2, fun f _ => by rw [uw_k e71 0 (by decide)], uw_f e71 0 (by decide)⟩
            have a0 : n71 0 = num 0 := uw_k e71 0 (by decide)
            have a7 : n71 7 = num 7 := uw_k e71 7 (by decide)
            obtain ⟨y79, e79, em⟩ := letv_out em
            rw [← e79, a0] at em
            by_cases cg : i = num 0 29
            · exact absurd (e6.trans cb) (hb.mpr ⟨(hhas.mp ch).1, (hhas.mp ch).2, by omega, Or.inl cg⟩)
            · rw [if_neg cg] at em
              obtain ⟨y81, e81, em⟩ := letv_out em
              rw [← e81, a7] at em
              by_cases ck : num 7 i.toNatClampNeg = 3
              · rw [if_pos ck] at em
                obtain ⟨w, ew, em⟩ := letv_out em
                rw [em, ← ew]
                refine step nux n71 fixX_rf f71 ?_
                unfold rel rC rS
                rw [a0]
                exact rel_le hR (by omega)
              · exact absurd (e6.trans cb) (hb.mpr ⟨(hhas.mp ch).1, (hhas.mp ch).2, by omega, Or.inr ck⟩)
        · rw [if_neg ch] at em
          obtain ⟨w, ew, em⟩ := letv_out em
          rw [em, ← ew]
          exact same
      · rw [if_neg cb] at ex
        obtain ⟨b1, b2, b3, b4⟩ := hb.mp (fun e => cb (e6.symm.trans e))
        rw [if_pos (hhas.mpr ⟨b1, b2⟩)] at em
        obtain ⟨y18, e18, em⟩ := letv_out em
        rw [← e18, if_neg spc] at em
        obtain ⟨y65, e65, em⟩ := letv_out em
        rw [← e65, if_neg (fun e => by have := vv_lt.mp e; omega)] at em
        obtain ⟨n8, e8, ex⟩ := letv_out ex
        obtain ⟨n71, e71, em⟩ := letv_out em
        have f8 : fixX nux n8 := ⟨fun k _ k2 _ _ _ _ => uw_k e8 k k2, fun f _ => by rw [uw_k e8 32 (by decide)]⟩
        have f71 : fixM num n71 := ⟨fun k _ k2 _ _ => uw_k e71 k k2, fun f _ => by rw [uw_k e71 0 (by decide)], uw_f e71 0 (by decide)⟩
        have a0 : n71 0 = num 0 := uw_k e71 0 (by decide)
        have a7 : n71 7 = num 7 := uw_k e71 7 (by decide)
        have a16 : n71 16 0 = num 16 0 := uw_f e71 0 (by decide)
        have hS2 := stR_of hS f8 f71
        have hR2 : rel c n8 n71 := by
          unfold rel rC rS
          rw [a0, uw_k e8 32 (by decide), uw_k e8 55 (by decide), uw_k e8 56 (by decide)]
          exact hR
        obtain ⟨y11, e11, ex⟩ := letv_out ex
        rw [← e11, uw_k e8 32 (by decide), sg] at ex
        obtain ⟨y79, e79, em⟩ := letv_out em
        rw [← e79, a0] at em
        by_cases cg : i = num 0 29
        · rw [if_pos cg] at ex em
          obtain ⟨x18, e18, ex⟩ := letv_out ex
          obtain ⟨w, ew, ex⟩ := letv_out ex
          obtain ⟨y101, e101, em⟩ := letv_out em
          obtain ⟨t102, e102, em⟩ := letv_out em
          obtain ⟨t103, e103, em⟩ := letv_out em
          obtain ⟨t104, e104, em⟩ := letv_out em
          obtain ⟨x108, e108, em⟩ := letv_out em
          obtain ⟨_, _, em⟩ := letv_out em
          obtain ⟨_, _, em⟩ := letv_out em
          obtain ⟨_, _, em⟩ := letv_out em
          obtain ⟨w2, ew2, em⟩ := letv_out em
          rw [ex, ← ew, em, ← ew2]
          obtain ⟨z1, z2, z3⟩ := arr hT (by omega) hS2 hR2 (s := 1) (n := 2) (u := u) (q := t104) (p := pr) (by decide) (by decide) ⟨hpr, by omega⟩ hu (by have q := e101; rw [show (0 : Int32).toNatClampNeg = 0 from rfl] at q; rw [← e104, ← e103, ← e102, ← q]) e18.symm e108.symm
          exact step x18 x108 (fixX_tr f8 z1) (fixM_tr f71 z2) (rel_le z3 (by omega))
        · rw [if_neg cg] at ex em
          have ck : ¬ num 7 i.toNatClampNeg = 3 := b4.resolve_left cg
          obtain ⟨y81, e81, em⟩ := letv_out em
          rw [← e81, a7, if_neg ck] at em
          obtain ⟨t13, e13, ex⟩ := letv_out ex
          obtain ⟨t14, e14, ex⟩ := letv_out ex
          obtain ⟨x15, e15, ex⟩ := letv_out ex
          obtain ⟨w, ew, ex⟩ := letv_out ex
          obtain ⟨t87, e87, em⟩ := letv_out em
          obtain ⟨t88, e88, em⟩ := letv_out em
          obtain ⟨x92, e92, em⟩ := letv_out em
          obtain ⟨_, _, em⟩ := letv_out em
          obtain ⟨_, _, em⟩ := letv_out em
          obtain ⟨_, _, em⟩ := letv_out em
          obtain ⟨w2, ew2, em⟩ := letv_out em
          rw [ex, ← ew, em, ← ew2]
          have v8 : n8 54 1 = i := uw_v e8
          have v71 : n71 16 1 = i := uw_v e71
          have tt : t88 = t14 := by rw [← e88, ← e14, ← e87, ← e13]
          rw [tt] at e92
          obtain ⟨z1, z2, z3⟩ := wk1 (u := t14) (p := pr) hT (by omega) hS2 hR2 (by rw [v8, v71]) (by rw [v71, a0]; omega) ⟨hpr, by omega⟩ (by rw [← e14, ← e13]; exact bits_or hu hi6)
          rw [e15, e92] at z3
          rw [e15] at z1
          rw [e92] at z2
          exact step x15 x92 (fixX_tr f8 z1) (fixM_tr f71 z2) (rel_le z3 (by omega))
theorem wk0 {T c : Int} {nux num : Nat → Nat → Int32} {u p : Int32} (hT : T ≤ 1000000) (hc : c + 137256 ≤ 900000) (hS : stR T nux num) (hR : rel c nux num) (hy : nux 54 0 = num 16 0) (hr : 0 ≤ (num 16 0).toInt ∧ (num 16 0).toInt < (num 0 8).toInt) (hp : 0 ≤ p.toInt ∧ p.toInt ≤ T) (hu : ∀ j : Nat, j < 32 → bt u j = true → j < 7) : fixX nux (F_sx_walkOn0 nux u p) ∧ fixM num (F_sm_routeOn1 num u p) ∧ rel (c + 137256) (F_sx_walkOn0 nux u p) (F_sm_routeOn1 num u p) := by
  have hcx := tC_of hr.1
  have hcB := tC_of hS.2.1.1
  have k1 := (hS.2.2.1 (num 16 0).toNatClampNeg (by omega)).1
  have hpr : 0 ≤ (F_sm_asksOf num (num 16 0) p).toInt := by
    rw [← ask_eq k1]
    exact ask_rng ⟨hp.1, by omega⟩
  have z : (0 : Int32).toInt = 0 := rfl
  have hl := wl0 hT hpr hu hr.1 10 0 c nux num (by rw [z]; omega) hS hR hr.2 rfl (by decide) (by decide) (by decide)
  have ex : F_sx_walkOn0 nux u p = L_sx_walkOn0_30_0 (F_sm_asksOf num (num 16 0) p) u (num 16 0) 10 0 nux := by
    rw [← ask_eq k1, ← hy]
    unfold F_sx_walkOn0
    rw [letv_eq, letv_eq, letv_eq]
    rfl
  have em : F_sm_routeOn1 num u p = L_sm_routeOn1_34_0 (F_sm_asksOf num (num 16 0) p) (F_sm_besideOf num (num 16 0) &&& (u ^^^ (-1))) u 10 0 num := by
    unfold F_sm_routeOn1
    rw [letv_eq, letv_eq, letv_eq, letv_eq, letv_eq, letv_eq, letv_eq, letv_eq]
    rfl
  rw [ex, em]
  refine ⟨hl.1, hl.2.1, rel_le hl.2.2 (by rw [z]; omega)⟩

