-- ===== routes: whether one comes =====
theorem arrM {T : Int} {nux num xi2 : Nat → Nat → Int32} {s n q p : Int32} (hT : T ≤ 1000000) (hS : stR T nux num) (h39 : ¬ num 0 39 = -9) (hs : 1 ≤ s.toInt ∧ s.toInt ≤ 6) (hn : n.toInt = s.toInt + 1) (hp : 0 ≤ p.toInt ∧ p.toInt ≤ T) (h2 : xi2 = F_sm_meetRoute num n q p) : fixM num xi2 ∧ ((F_sx_needFor nux s p ≤ nux 32 8 ∧ xi2 0 33 = num 0 33 + 1) ∨ (¬ F_sx_needFor nux s p ≤ nux 32 8 ∧ xi2 0 33 = num 0 33)) := by
  obtain ⟨mC, hzm, b1, b2, b3, b4⟩ := bm0_out h2
  have fM : fixM num mC := ⟨fun k k1 _ k3 _ => b1 k k1 k3, fun f hf => b2 f (by omega) (by omega) (by omega), by rw [b1 16 (by decide) (by decide)]⟩
  have hS2 := stR_of hS fixX_rf fM
  have m39 : mC 0 39 = num 0 39 := b2 39 (by decide) (by decide) (by decide)
  rcases bm53_out hzm with ⟨w, e⟩ | ⟨w, e⟩
  · exact absurd (m39.symm.trans w) h39
  · obtain ⟨mN, f1, f2, f3, f4⟩ := bm115_out (bm91_out e)
    have gM : fixM mC mN := ⟨fun k k1 _ _ _ => f1 k k1, fun f hf => f2 f (by omega), by rw [f1 16 (by decide)]⟩
    have hP : letP nux mC := by
      rcases hS2.2.2.2.2.2.2.2 with j | ⟨_, k⟩
      · exact absurd j w
      · exact k
    obtain ⟨n1, n2, n3⟩ := need_eq (s := s) (n := n) (p := p) hP hs hn ⟨hp.1, by omega⟩
    have wN : F_sm_worthIn mN (mN 0 39) (lastM mC n) = F_sm_worthIn mC (mC 0 39) (lastM mC n) := by
      rw [f2 39 (by decide)]
      exact win_congr (f1 10 (by decide)) (f2 14 (by decide))
    have y33 : mN 0 33 = num 0 33 := by rw [f2 33 (by decide), b2 33 (by decide) (by decide) (by decide)]
    rcases bm137_out f4 with ⟨g2, e5⟩ | ⟨g2, k1, k2, k3, k4, k5⟩
    · rw [wN] at g2
      exact ⟨by rw [e5]; exact fixM_tr fM gM, Or.inr ⟨fun g => (n3.mp g) g2, by rw [e5, y33]⟩⟩
    · rw [wN] at g2
      have FM : fixM mN xi2 := ⟨fun k c1 _ _ c4 => k1 k c1 c4, fun f hf => k2 f (by omega) (by omega) (by omega) (by omega), by rw [k1 16 (by decide) (by decide)]⟩
      exact ⟨fixM_tr (fixM_tr fM gM) FM, Or.inl ⟨n3.mpr g2, by rw [k3, y33]⟩⟩
theorem ck6x {nux : Nat → Nat → Int32} {x u p : Int32} : F_sx_comesFrom6 nux x u p = 0 := by
  simp only [F_sx_comesFrom6, letv_eq]
  show L_sx_comesFrom6_21_0 nux (9 + 1) 0 = 0
  unfold L_sx_comesFrom6_21_0
  simp only [letv_eq]
  split <;> rfl
def ckR (c : Int) (num xi : Nat → Nat → Int32) (z : Int32) : Prop := fixM num xi ∧ (xi 0 33).toInt ≤ c ∧ ((z = 0 ∧ xi 0 33 = num 0 33) ∨ (z = 1 ∧ (num 0 33).toInt < (xi 0 33).toInt))
theorem ckR_le {c d : Int} {num xi : Nat → Nat → Int32} {z : Int32} (h : ckR c num xi z) (hd : c ≤ d) : ckR d num xi z := ⟨h.1, Int.le_trans h.2.1 hd, h.2.2⟩
theorem ck6 {T c : Int} {nux num : Nat → Nat → Int32} {x u p : Int32} (_ : T ≤ 1000000) (_ : c + 0 ≤ 900000) (_ : stR T nux num) (_ : ¬ num 0 39 = -9) (h33 : 0 ≤ (num 0 33).toInt ∧ (num 0 33).toInt ≤ c) (_ : x = num 16 6) (_ : 0 ≤ x.toInt ∧ x.toInt < (num 0 8).toInt) (_ : 0 ≤ p.toInt ∧ p.toInt ≤ T) (_ : ∀ j : Nat, j < 32 → bt u j = true → j < 7) : ckR (c + 0) num (F_sm_routeOn7 num u p) (F_sx_comesFrom6 nux x u p) := by
  rw [ck6x, rk7m]
  exact ⟨fixM_rf, by omega, Or.inl ⟨rfl, rfl⟩⟩
theorem cl5 {T : Int} {u pr x t : Int32} {nux : Nat → Nat → Int32} (hT : T ≤ 1000000) (hpr : 0 ≤ pr.toInt) (hu : ∀ j : Nat, j < 32 → bt u j = true → j < 7) (hx : 0 ≤ x.toInt) : ∀ (n : Nat) (i : Int32) (c : Int) (num : Nat → Nat → Int32), c + (7 - i.toInt) * 1 ≤ 900000 → stR T nux num → ¬ num 0 39 = -9 → (0 ≤ (num 0 33).toInt ∧ (num 0 33).toInt ≤ c) → x.toInt < (num 0 8).toInt → t = F_sm_besideOf num x &&& (u ^^^ (-1)) → 0 ≤ i.toInt → i.toInt ≤ 7 → (7 - i.toInt).toNat < n → ckR (c + (7 - i.toInt) * 1) num (L_sm_routeOn6_34_0 pr t u n i num) (L_sx_comesFrom5_21_0 nux pr u x n i) := by
  intro n
  induction n with
  | zero => intro i c num _ _ _ _ _ _ _ _ hn; exact absurd hn (Nat.not_lt_zero _)
  | succ n ih =>
    intro i c num hc hS h39 h33 hxB ht h0 h7 hn
    obtain ⟨sB, sb, sx, sg, spc, sf, sfr, sl⟩ := id hS
    obtain ⟨zx, ex⟩ : ∃ z, z = L_sx_comesFrom5_21_0 nux pr u x (n + 1) i := ⟨_, rfl⟩
    obtain ⟨zm, em⟩ : ∃ z, z = L_sm_routeOn6_34_0 pr t u (n + 1) i num := ⟨_, rfl⟩
    rw [← ex, ← em]
    unfold L_sx_comesFrom5_21_0 at ex
    unfold L_sm_routeOn6_34_0 at em
    obtain ⟨y4, e4, ex⟩ := letv_out ex
    obtain ⟨y9, e9, em⟩ := letv_out em
    obtain ⟨y10, e10, em⟩ := letv_out em
    obtain ⟨y11, e11, em⟩ := letv_out em
    obtain ⟨y12, e12, em⟩ := letv_out em
    rw [← e4, sB] at ex
    rw [← e12] at em
    by_cases c1 : i ≥ num 0 8
    · rw [if_pos c1] at ex em
      rw [ex, em]
      exact ⟨fixM_rf, by omega, Or.inl ⟨rfl, rfl⟩⟩
    · rw [if_neg c1] at ex em
      have c1' : ¬ (num 0 8).toInt ≤ i.toInt := fun e => c1 (vv_ge.mpr e)
      have i1 : (i + 1).toInt = i.toInt + 1 := vp1 (by omega)
      have hi6 : 0 ≤ i.toInt ∧ i.toInt ≤ 6 := ⟨h0, by omega⟩
      have hci := tC_of h0
      have hcx := tC_of hx
      have hcB := tC_of sb.1
      obtain ⟨q1, q2, q3, q4, q5⟩ := sx i.toNatClampNeg (by omega)
      have hb := (buys_eq (nux := nux) (x := x) (u := u) (p := pr) hi6).2
      have hx52 : nux 52 x.toNatClampNeg = F_sm_besideOf num x := by
        rw [(sx x.toNatClampNeg (by omega)).2.1, ← nI_at hx]
      have hhas := near_and (b := F_sm_besideOf num x) (u := u) hi6
      rw [← ht] at hhas
      rw [hx52, q3, q1, sg] at hb
      have step : ∀ xi2 : Nat → Nat → Int32, fixM num xi2 → (0 ≤ (xi2 0 33).toInt ∧ (xi2 0 33).toInt ≤ c + 1) → ckR (c + (7 - i.toInt) * 1) xi2 (L_sm_routeOn6_34_0 pr t u n (i + 1) xi2) (L_sx_comesFrom5_21_0 nux pr u x n (i + 1)) ∧ fixM num (L_sm_routeOn6_34_0 pr t u n (i + 1) xi2) := fun xi2 g2 g3 => by
        have m8 : xi2 0 8 = num 0 8 := g2.2.1 8 (by omega)
        have mb : F_sm_besideOf xi2 x = F_sm_besideOf num x := bes_congr (g2.1 9 (by decide) (by decide) (by decide) (by decide)) (g2.2.1 11 (by omega)) (g2.2.1 13 (by omega)) 15 0 0
        have z := ih (i + 1) (c + 1) xi2 (by omega) (stR_of hS fixX_rf g2) (by rw [g2.2.1 39 (by omega)]; exact h39) g3 (by rw [m8]; exact hxB) (by rw [mb]; exact ht) (by omega) (by omega) (by omega)
        exact ⟨ckR_le z (by omega), fixM_tr g2 z.1⟩
      have same : ∀ xi2 : Nat → Nat → Int32, fixM num xi2 → xi2 0 33 = num 0 33 → ckR (c + (7 - i.toInt) * 1) num (L_sm_routeOn6_34_0 pr t u n (i + 1) xi2) (L_sx_comesFrom5_21_0 nux pr u x n (i + 1)) := fun xi2 g2 g3 => by
        obtain ⟨⟨_, z2, z3⟩, z4⟩ := step xi2 g2 (by rw [g3]; omega)
        rw [g3] at z3
        exact ⟨z4, z2, z3⟩
      have more : ∀ xi2 : Nat → Nat → Int32, fixM num xi2 → (num 0 33).toInt < (xi2 0 33).toInt → (xi2 0 33).toInt ≤ c + 1 → ckR (c + (7 - i.toInt) * 1) num (L_sm_routeOn6_34_0 pr t u n (i + 1) xi2) 1 := fun xi2 g2 g3 g4 => by
        obtain ⟨⟨_, z2, z3⟩, z4⟩ := step xi2 g2 ⟨by omega, g4⟩
        refine ⟨z4, z2, Or.inr ⟨rfl, ?_⟩⟩
        rcases z3 with ⟨_, e⟩ | ⟨_, e⟩
        · rw [e]; exact g3
        · omega
      obtain ⟨r6, e6, ex⟩ := letv_out ex
      by_cases cb : r6 = (0 : Int32)
      · rw [if_pos cb] at ex
        obtain ⟨w, ew, ex⟩ := letv_out ex
        rw [← ew] at ex
        rw [ex]
        by_cases ch : F_sm_has t i = 1
        · rw [if_pos ch] at em
          obtain ⟨y18, e18, em⟩ := letv_out em
          rw [← e18, if_neg spc] at em
          obtain ⟨y65, e65, em⟩ := letv_out em
          rw [← e65] at em
          by_cases cp : num 8 i.toNatClampNeg < pr
          · rw [if_pos cp] at em
            obtain ⟨w, ew, em⟩ := letv_out em
            rw [em, ← ew]
            exact same num fixM_rf rfl
          · rw [if_neg cp] at em
            have cp' : ¬ (num 8 i.toNatClampNeg).toInt < pr.toInt := fun e => cp (vv_lt.mpr e)
            obtain ⟨n71, e71, em⟩ := letv_out em
            have f71 : fixM num n71 := ⟨fun k _ k2 _ _ => uw_k e71 k k2, fun f _ => by rw [uw_k e71 0 (by decide)], uw_f e71 0 (by decide)⟩
            have a0 : n71 0 = num 0 := uw_k e71 0 (by decide)
            have a7 : n71 7 = num 7 := uw_k e71 7 (by decide)
            obtain ⟨y79, e79, em⟩ := letv_out em
            rw [← e79, a0] at em
            by_cases cg : i = num 0 29
            · exact absurd (e6.trans cb) (hb.mpr ⟨(hhas.mp ch).1, (hhas.mp ch).2, by omega, Or.inl cg⟩)
            · rw [if_neg cg] at em
              obtain ⟨y81, e81, em⟩ := letv_out em
              rw [← e81, a7] at em
              by_cases ck : num 7 i.toNatClampNeg = 3
              · rw [if_pos ck] at em
                obtain ⟨w, ew, em⟩ := letv_out em
                rw [em, ← ew]
                exact same n71 f71 (by rw [a0])
              · exact absurd (e6.trans cb) (hb.mpr ⟨(hhas.mp ch).1, (hhas.mp ch).2, by omega, Or.inr ck⟩)
        · rw [if_neg ch] at em
          obtain ⟨w, ew, em⟩ := letv_out em
          rw [em, ← ew]
          exact same num fixM_rf rfl
      · rw [if_neg cb] at ex
        obtain ⟨b1, b2, b3, b4⟩ := hb.mp (fun e => cb (e6.symm.trans e))
        rw [if_pos (hhas.mpr ⟨b1, b2⟩)] at em
        obtain ⟨y18, e18, em⟩ := letv_out em
        rw [← e18, if_neg spc] at em
        obtain ⟨y65, e65, em⟩ := letv_out em
        rw [← e65, if_neg (fun e => by have := vv_lt.mp e; omega)] at em
        obtain ⟨n71, e71, em⟩ := letv_out em
        have f71 : fixM num n71 := ⟨fun k _ k2 _ _ => uw_k e71 k k2, fun f _ => by rw [uw_k e71 0 (by decide)], uw_f e71 0 (by decide)⟩
        have a0 : n71 0 = num 0 := uw_k e71 0 (by decide)
        have a7 : n71 7 = num 7 := uw_k e71 7 (by decide)
        have hS2 := stR_of hS fixX_rf f71
        have h39' : ¬ n71 0 39 = -9 := by rw [a0]; exact h39
        obtain ⟨y11, e11, ex⟩ := letv_out ex
        rw [← e11, sg] at ex
        obtain ⟨y79, e79, em⟩ := letv_out em
        rw [← e79, a0] at em
        by_cases cg : i = num 0 29
        · rw [if_pos cg] at ex em
          obtain ⟨r14, e14, ex⟩ := letv_out ex
          obtain ⟨y15, e15, ex⟩ := letv_out ex
          obtain ⟨y101, e101, em⟩ := letv_out em
          obtain ⟨t102, e102, em⟩ := letv_out em
          obtain ⟨t103, e103, em⟩ := letv_out em
          obtain ⟨t104, e104, em⟩ := letv_out em
          obtain ⟨x108, e108, em⟩ := letv_out em
          obtain ⟨_, _, em⟩ := letv_out em
          obtain ⟨_, _, em⟩ := letv_out em
          obtain ⟨_, _, em⟩ := letv_out em
          obtain ⟨w2, ew2, em⟩ := letv_out em
          rw [em, ← ew2]
          obtain ⟨z1, z2⟩ := arrM hT hS2 h39' (s := 6) (n := 7) (q := t104) (p := pr) (by decide) (by decide) ⟨hpr, by omega⟩ e108.symm
          have z33 : n71 0 33 = num 0 33 := by rw [a0]
          rw [e14, e15, z33] at z2
          rcases z2 with ⟨g, e⟩ | ⟨g, e⟩
          · rw [if_neg (fun h => by have := vv_gt.mp h; have := vv_le.mp g; omega)] at ex
            rw [ex]
            have ii := (inc_of h33.1 h33.2 (by omega)).1
            exact more x108 (fixM_tr f71 z1) (by rw [e, ii]; omega) (by rw [e, ii]; omega)
          · rw [if_pos (vv_gt.mpr (by have : ¬ r14.toInt ≤ y15.toInt := fun h => g (vv_le.mpr h); omega))] at ex
            obtain ⟨w, ew, ex⟩ := letv_out ex
            rw [ex, ← ew]
            exact same x108 (fixM_tr f71 z1) e
        · rw [if_neg cg] at ex em
          have ck : ¬ num 7 i.toNatClampNeg = 3 := b4.resolve_left cg
          obtain ⟨y81, e81, em⟩ := letv_out em
          rw [← e81, a7, if_neg ck] at em
          obtain ⟨t9, e9', ex⟩ := letv_out ex
          obtain ⟨t10, e10', ex⟩ := letv_out ex
          obtain ⟨r11, e11', ex⟩ := letv_out ex
          obtain ⟨t87, e87, em⟩ := letv_out em
          obtain ⟨t88, e88, em⟩ := letv_out em
          obtain ⟨x92, e92, em⟩ := letv_out em
          obtain ⟨_, _, em⟩ := letv_out em
          obtain ⟨_, _, em⟩ := letv_out em
          obtain ⟨_, _, em⟩ := letv_out em
          obtain ⟨w2, ew2, em⟩ := letv_out em
          rw [em, ← ew2]
          have v71 : n71 16 6 = i := uw_v e71
          have tt : t88 = t10 := by rw [← e88, ← e10', ← e87, ← e9']
          rw [tt] at e92
          have z := ck6 (c := c) (x := i) (u := t10) (p := pr) hT (by omega) hS2 h39' (by rw [a0]; exact h33) v71.symm (by rw [a0]; omega) ⟨hpr, by omega⟩ (by rw [← e10', ← e9']; exact bits_or hu hi6)
          rw [e11', e92] at z
          obtain ⟨z1, z2, z3⟩ := z
          have z33 : n71 0 33 = num 0 33 := by rw [a0]
          rw [z33] at z3
          rcases z3 with ⟨g, e⟩ | ⟨g, e⟩
          · rw [if_pos g] at ex
            obtain ⟨w, ew, ex⟩ := letv_out ex
            rw [ex, ← ew]
            exact same x92 (fixM_tr f71 z1) e
          · rw [if_neg (fun h => by rw [h] at g; exact absurd g (by decide))] at ex
            rw [ex]
            exact more x92 (fixM_tr f71 z1) e (by omega)
theorem ck5 {T c : Int} {nux num : Nat → Nat → Int32} {x u p : Int32} (hT : T ≤ 1000000) (hc : c + 7 ≤ 900000) (hS : stR T nux num) (h39 : ¬ num 0 39 = -9) (h33 : 0 ≤ (num 0 33).toInt ∧ (num 0 33).toInt ≤ c) (hy : x = num 16 5) (hr : 0 ≤ x.toInt ∧ x.toInt < (num 0 8).toInt) (hp : 0 ≤ p.toInt ∧ p.toInt ≤ T) (hu : ∀ j : Nat, j < 32 → bt u j = true → j < 7) : ckR (c + 7) num (F_sm_routeOn6 num u p) (F_sx_comesFrom5 nux x u p) := by
  have hcx := tC_of hr.1
  have hcB := tC_of hS.2.1.1
  have k1 := (hS.2.2.1 x.toNatClampNeg (by omega)).1
  have hpr : 0 ≤ (F_sm_asksOf num x p).toInt := by
    rw [← ask_eq k1]
    exact ask_rng ⟨hp.1, by omega⟩
  have z : (0 : Int32).toInt = 0 := rfl
  have hl := cl5 (nux := nux) hT hpr hu hr.1 10 0 c num (by rw [z]; omega) hS h39 h33 hr.2 rfl (by decide) (by decide) (by decide)
  have ex : F_sx_comesFrom5 nux x u p = L_sx_comesFrom5_21_0 nux (F_sm_asksOf num x p) u x 10 0 := by
    rw [← ask_eq k1]
    unfold F_sx_comesFrom5
    rw [letv_eq, letv_eq]
  have em : F_sm_routeOn6 num u p = L_sm_routeOn6_34_0 (F_sm_asksOf num x p) (F_sm_besideOf num x &&& (u ^^^ (-1))) u 10 0 num := by
    rw [hy]
    unfold F_sm_routeOn6
    rw [letv_eq, letv_eq, letv_eq, letv_eq, letv_eq, letv_eq, letv_eq, letv_eq]
    rfl
  rw [ex, em]
  exact ckR_le hl (by rw [z]; omega)
theorem cl4 {T : Int} {u pr x t : Int32} {nux : Nat → Nat → Int32} (hT : T ≤ 1000000) (hpr : 0 ≤ pr.toInt) (hu : ∀ j : Nat, j < 32 → bt u j = true → j < 7) (hx : 0 ≤ x.toInt) : ∀ (n : Nat) (i : Int32) (c : Int) (num : Nat → Nat → Int32), c + (7 - i.toInt) * 8 ≤ 900000 → stR T nux num → ¬ num 0 39 = -9 → (0 ≤ (num 0 33).toInt ∧ (num 0 33).toInt ≤ c) → x.toInt < (num 0 8).toInt → t = F_sm_besideOf num x &&& (u ^^^ (-1)) → 0 ≤ i.toInt → i.toInt ≤ 7 → (7 - i.toInt).toNat < n → ckR (c + (7 - i.toInt) * 8) num (L_sm_routeOn5_34_0 pr t u n i num) (L_sx_comesFrom4_21_0 nux pr u x n i) := by
  intro n
  induction n with
  | zero => intro i c num _ _ _ _ _ _ _ _ hn; exact absurd hn (Nat.not_lt_zero _)
  | succ n ih =>
    intro i c num hc hS h39 h33 hxB ht h0 h7 hn
    obtain ⟨sB, sb, sx, sg, spc, sf, sfr, sl⟩ := id hS
    obtain ⟨zx, ex⟩ : ∃ z, z = L_sx_comesFrom4_21_0 nux pr u x (n + 1) i := ⟨_, rfl⟩
    obtain ⟨zm, em⟩ : ∃ z, z = L_sm_routeOn5_34_0 pr t u (n + 1) i num := ⟨_, rfl⟩
    rw [← ex, ← em]
    unfold L_sx_comesFrom4_21_0 at ex
    unfold L_sm_routeOn5_34_0 at em
    obtain ⟨y4, e4, ex⟩ := letv_out ex
    obtain ⟨y9, e9, em⟩ := letv_out em
    obtain ⟨y10, e10, em⟩ := letv_out em
    obtain ⟨y11, e11, em⟩ := letv_out em
    obtain ⟨y12, e12, em⟩ := letv_out em
    rw [← e4, sB] at ex
    rw [← e12] at em
    by_cases c1 : i ≥ num 0 8
    · rw [if_pos c1] at ex em
      rw [ex, em]
      exact ⟨fixM_rf, by omega, Or.inl ⟨rfl, rfl⟩⟩
    · rw [if_neg c1] at ex em
      have c1' : ¬ (num 0 8).toInt ≤ i.toInt := fun e => c1 (vv_ge.mpr e)
      have i1 : (i + 1).toInt = i.toInt + 1 := vp1 (by omega)
      have hi6 : 0 ≤ i.toInt ∧ i.toInt ≤ 6 := ⟨h0, by omega⟩
      have hci := tC_of h0
      have hcx := tC_of hx
      have hcB := tC_of sb.1
      obtain ⟨q1, q2, q3, q4, q5⟩ := sx i.toNatClampNeg (by omega)
      have hb := (buys_eq (nux := nux) (x := x) (u := u) (p := pr) hi6).2
      have hx52 : nux 52 x.toNatClampNeg = F_sm_besideOf num x := by
        rw [(sx x.toNatClampNeg (by omega)).2.1, ← nI_at hx]
      have hhas := near_and (b := F_sm_besideOf num x) (u := u) hi6
      rw [← ht] at hhas
      rw [hx52, q3, q1, sg] at hb
      have step : ∀ xi2 : Nat → Nat → Int32, fixM num xi2 → (0 ≤ (xi2 0 33).toInt ∧ (xi2 0 33).toInt ≤ c + 8) → ckR (c + (7 - i.toInt) * 8) xi2 (L_sm_routeOn5_34_0 pr t u n (i + 1) xi2) (L_sx_comesFrom4_21_0 nux pr u x n (i + 1)) ∧ fixM num (L_sm_routeOn5_34_0 pr t u n (i + 1) xi2) := fun xi2 g2 g3 => by
        have m8 : xi2 0 8 = num 0 8 := g2.2.1 8 (by omega)
        have mb : F_sm_besideOf xi2 x = F_sm_besideOf num x := bes_congr (g2.1 9 (by decide) (by decide) (by decide) (by decide)) (g2.2.1 11 (by omega)) (g2.2.1 13 (by omega)) 15 0 0
        have z := ih (i + 1) (c + 8) xi2 (by omega) (stR_of hS fixX_rf g2) (by rw [g2.2.1 39 (by omega)]; exact h39) g3 (by rw [m8]; exact hxB) (by rw [mb]; exact ht) (by omega) (by omega) (by omega)
        exact ⟨ckR_le z (by omega), fixM_tr g2 z.1⟩
      have same : ∀ xi2 : Nat → Nat → Int32, fixM num xi2 → xi2 0 33 = num 0 33 → ckR (c + (7 - i.toInt) * 8) num (L_sm_routeOn5_34_0 pr t u n (i + 1) xi2) (L_sx_comesFrom4_21_0 nux pr u x n (i + 1)) := fun xi2 g2 g3 => by
        obtain ⟨⟨_, z2, z3⟩, z4⟩ := step xi2 g2 (by rw [g3]; omega)
        rw [g3] at z3
        exact ⟨z4, z2, z3⟩
      have more : ∀ xi2 : Nat → Nat → Int32, fixM num xi2 → (num 0 33).toInt < (xi2 0 33).toInt → (xi2 0 33).toInt ≤ c + 8 → ckR (c + (7 - i.toInt) * 8) num (L_sm_routeOn5_34_0 pr t u n (i + 1) xi2) 1 := fun xi2 g2 g3 g4 => by
        obtain ⟨⟨_, z2, z3⟩, z4⟩ := step xi2 g2 ⟨by omega, g4⟩
        refine ⟨z4, z2, Or.inr ⟨rfl, ?_⟩⟩
        rcases z3 with ⟨_, e⟩ | ⟨_, e⟩
        · rw [e]; exact g3
        · omega
      obtain ⟨r6, e6, ex⟩ := letv_out ex
      by_cases cb : r6 = (0 : Int32)
      · rw [if_pos cb] at ex
        obtain ⟨w, ew, ex⟩ := letv_out ex
        rw [← ew] at ex
        rw [ex]
        by_cases ch : F_sm_has t i = 1
        · rw [if_pos ch] at em
          obtain ⟨y18, e18, em⟩ := letv_out em
          rw [← e18, if_neg spc] at em
          obtain ⟨y65, e65, em⟩ := letv_out em
          rw [← e65] at em
          by_cases cp : num 8 i.toNatClampNeg < pr
          · rw [if_pos cp] at em
            obtain ⟨w, ew, em⟩ := letv_out em
            rw [em, ← ew]
            exact same num fixM_rf rfl
          · rw [if_neg cp] at em
            have cp' : ¬ (num 8 i.toNatClampNeg).toInt < pr.toInt := fun e => cp (vv_lt.mpr e)
            obtain ⟨n71, e71, em⟩ := letv_out em
            have f71 : fixM num n71 := ⟨fun k _ k2 _ _ => uw_k e71 k k2, fun f _ => by rw [uw_k e71 0 (by decide)], uw_f e71 0 (by decide)⟩
            have a0 : n71 0 = num 0 := uw_k e71 0 (by decide)
            have a7 : n71 7 = num 7 := uw_k e71 7 (by decide)
            obtain ⟨y79, e79, em⟩ := letv_out em
            rw [← e79, a0] at em
            by_cases cg : i = num 0 29
            · exact absurd (e6.trans cb) (hb.mpr ⟨(hhas.mp ch).1, (hhas.mp ch).2, by omega, Or.inl cg⟩)
            · rw [if_neg cg] at em
              obtain ⟨y81, e81, em⟩ := letv_out em
              rw [← e81, a7] at em
              by_cases ck : num 7 i.toNatClampNeg = 3
              · rw [if_pos ck] at em
                obtain ⟨w, ew, em⟩ := letv_out em
                rw [em, ← ew]
                exact same n71 f71 (by rw [a0])
              · exact absurd (e6.trans cb) (hb.mpr ⟨(hhas.mp ch).1, (hhas.mp ch).2, by omega, Or.inr ck⟩)
        · rw [if_neg ch] at em
          obtain ⟨w, ew, em⟩ := letv_out em
          rw [em, ← ew]
          exact same num fixM_rf rfl
      · rw [if_neg cb] at ex
        obtain ⟨b1, b2, b3, b4⟩ := hb.mp (fun e => cb (e6.symm.trans e))
        rw [if_pos (hhas.mpr ⟨b1, b2⟩)] at em
        obtain ⟨y18, e18, em⟩ := letv_out em
        rw [← e18, if_neg spc] at em
        obtain ⟨y65, e65, em⟩ := letv_out em
        rw [← e65, if_neg (fun e => by have := vv_lt.mp e; omega)] at em
        obtain ⟨n71, e71, em⟩ := letv_out em
        have f71 : fixM num n71 := ⟨fun k _ k2 _ _ => uw_k e71 k k2, fun f _ => by rw [uw_k e71 0 (by decide)], uw_f e71 0 (by decide)⟩
        have a0 : n71 0 = num 0 := uw_k e71 0 (by decide)
        have a7 : n71 7 = num 7 := uw_k e71 7 (by decide)
        have hS2 := stR_of hS fixX_rf f71
        have h39' : ¬ n71 0 39 = -9 := by rw [a0]; exact h39
        obtain ⟨y11, e11, ex⟩ := letv_out ex
        rw [← e11, sg] at ex
        obtain ⟨y79, e79, em⟩ := letv_out em
        rw [← e79, a0] at em
        by_cases cg : i = num 0 29
        · rw [if_pos cg] at ex em
          obtain ⟨r14, e14, ex⟩ := letv_out ex
          obtain ⟨y15, e15, ex⟩ := letv_out ex
          obtain ⟨y101, e101, em⟩ := letv_out em
          obtain ⟨t102, e102, em⟩ := letv_out em
          obtain ⟨t103, e103, em⟩ := letv_out em
          obtain ⟨t104, e104, em⟩ := letv_out em
          obtain ⟨x108, e108, em⟩ := letv_out em
          obtain ⟨_, _, em⟩ := letv_out em
          obtain ⟨_, _, em⟩ := letv_out em
          obtain ⟨_, _, em⟩ := letv_out em
          obtain ⟨w2, ew2, em⟩ := letv_out em
          rw [em, ← ew2]
          obtain ⟨z1, z2⟩ := arrM hT hS2 h39' (s := 5) (n := 6) (q := t104) (p := pr) (by decide) (by decide) ⟨hpr, by omega⟩ e108.symm
          have z33 : n71 0 33 = num 0 33 := by rw [a0]
          rw [e14, e15, z33] at z2
          rcases z2 with ⟨g, e⟩ | ⟨g, e⟩
          · rw [if_neg (fun h => by have := vv_gt.mp h; have := vv_le.mp g; omega)] at ex
            rw [ex]
            have ii := (inc_of h33.1 h33.2 (by omega)).1
            exact more x108 (fixM_tr f71 z1) (by rw [e, ii]; omega) (by rw [e, ii]; omega)
          · rw [if_pos (vv_gt.mpr (by have : ¬ r14.toInt ≤ y15.toInt := fun h => g (vv_le.mpr h); omega))] at ex
            obtain ⟨w, ew, ex⟩ := letv_out ex
            rw [ex, ← ew]
            exact same x108 (fixM_tr f71 z1) e
        · rw [if_neg cg] at ex em
          have ck : ¬ num 7 i.toNatClampNeg = 3 := b4.resolve_left cg
          obtain ⟨y81, e81, em⟩ := letv_out em
          rw [← e81, a7, if_neg ck] at em
          obtain ⟨t9, e9', ex⟩ := letv_out ex
          obtain ⟨t10, e10', ex⟩ := letv_out ex
          obtain ⟨r11, e11', ex⟩ := letv_out ex
          obtain ⟨t87, e87, em⟩ := letv_out em
          obtain ⟨t88, e88, em⟩ := letv_out em
          obtain ⟨x92, e92, em⟩ := letv_out em
          obtain ⟨_, _, em⟩ := letv_out em
          obtain ⟨_, _, em⟩ := letv_out em
          obtain ⟨_, _, em⟩ := letv_out em
          obtain ⟨w2, ew2, em⟩ := letv_out em
          rw [em, ← ew2]
          have v71 : n71 16 5 = i := uw_v e71
          have tt : t88 = t10 := by rw [← e88, ← e10', ← e87, ← e9']
          rw [tt] at e92
          have z := ck5 (c := c) (x := i) (u := t10) (p := pr) hT (by omega) hS2 h39' (by rw [a0]; exact h33) v71.symm (by rw [a0]; omega) ⟨hpr, by omega⟩ (by rw [← e10', ← e9']; exact bits_or hu hi6)
          rw [e11', e92] at z
          obtain ⟨z1, z2, z3⟩ := z
          have z33 : n71 0 33 = num 0 33 := by rw [a0]
          rw [z33] at z3
          rcases z3 with ⟨g, e⟩ | ⟨g, e⟩
          · rw [if_pos g] at ex
            obtain ⟨w, ew, ex⟩ := letv_out ex
            rw [ex, ← ew]
            exact same x92 (fixM_tr f71 z1) e
          · rw [if_neg (fun h => by rw [h] at g; exact absurd g (by decide))] at ex
            rw [ex]
            exact more x92 (fixM_tr f71 z1) e (by omega)
theorem ck4 {T c : Int} {nux num : Nat → Nat → Int32} {x u p : Int32} (hT : T ≤ 1000000) (hc : c + 56 ≤ 900000) (hS : stR T nux num) (h39 : ¬ num 0 39 = -9) (h33 : 0 ≤ (num 0 33).toInt ∧ (num 0 33).toInt ≤ c) (hy : x = num 16 4) (hr : 0 ≤ x.toInt ∧ x.toInt < (num 0 8).toInt) (hp : 0 ≤ p.toInt ∧ p.toInt ≤ T) (hu : ∀ j : Nat, j < 32 → bt u j = true → j < 7) : ckR (c + 56) num (F_sm_routeOn5 num u p) (F_sx_comesFrom4 nux x u p) := by
  have hcx := tC_of hr.1
  have hcB := tC_of hS.2.1.1
  have k1 := (hS.2.2.1 x.toNatClampNeg (by omega)).1
  have hpr : 0 ≤ (F_sm_asksOf num x p).toInt := by
    rw [← ask_eq k1]
    exact ask_rng ⟨hp.1, by omega⟩
  have z : (0 : Int32).toInt = 0 := rfl
  have hl := cl4 (nux := nux) hT hpr hu hr.1 10 0 c num (by rw [z]; omega) hS h39 h33 hr.2 rfl (by decide) (by decide) (by decide)
  have ex : F_sx_comesFrom4 nux x u p = L_sx_comesFrom4_21_0 nux (F_sm_asksOf num x p) u x 10 0 := by
    rw [← ask_eq k1]
    unfold F_sx_comesFrom4
    rw [letv_eq, letv_eq]
  have em : F_sm_routeOn5 num u p = L_sm_routeOn5_34_0 (F_sm_asksOf num x p) (F_sm_besideOf num x &&& (u ^^^ (-1))) u 10 0 num := by
    rw [hy]
    unfold F_sm_routeOn5
    rw [letv_eq, letv_eq, letv_eq, letv_eq, letv_eq, letv_eq, letv_eq, letv_eq]
    rfl
  rw [ex, em]
  exact ckR_le hl (by rw [z]; omega)
theorem cl3 {T : Int} {u pr x t : Int32} {nux : Nat → Nat → Int32} (hT : T ≤ 1000000) (hpr : 0 ≤ pr.toInt) (hu : ∀ j : Nat, j < 32 → bt u j = true → j < 7) (hx : 0 ≤ x.toInt) : ∀ (n : Nat) (i : Int32) (c : Int) (num : Nat → Nat → Int32), c + (7 - i.toInt) * 57 ≤ 900000 → stR T nux num → ¬ num 0 39 = -9 → (0 ≤ (num 0 33).toInt ∧ (num 0 33).toInt ≤ c) → x.toInt < (num 0 8).toInt → t = F_sm_besideOf num x &&& (u ^^^ (-1)) → 0 ≤ i.toInt → i.toInt ≤ 7 → (7 - i.toInt).toNat < n → ckR (c + (7 - i.toInt) * 57) num (L_sm_routeOn4_34_0 pr t u n i num) (L_sx_comesFrom3_21_0 nux pr u x n i) := by
  intro n
  induction n with
  | zero => intro i c num _ _ _ _ _ _ _ _ hn; exact absurd hn (Nat.not_lt_zero _)
  | succ n ih =>
    intro i c num hc hS h39 h33 hxB ht h0 h7 hn
    obtain ⟨sB, sb, sx, sg, spc, sf, sfr, sl⟩ := id hS
    obtain ⟨zx, ex⟩ : ∃ z, z = L_sx_comesFrom3_21_0 nux pr u x (n + 1) i := ⟨_, rfl⟩
    obtain ⟨zm, em⟩ : ∃ z, z = L_sm_routeOn4_34_0 pr t u (n + 1) i num := ⟨_, rfl⟩
    rw [← ex, ← em]
    unfold L_sx_comesFrom3_21_0 at ex
    unfold L_sm_routeOn4_34_0 at em
    obtain ⟨y4, e4, ex⟩ := letv_out ex
    obtain ⟨y9, e9, em⟩ := letv_out em
    obtain ⟨y10, e10, em⟩ := letv_out em
    obtain ⟨y11, e11, em⟩ := letv_out em
    obtain ⟨y12, e12, em⟩ := letv_out em
    rw [← e4, sB] at ex
    rw [← e12] at em
    by_cases c1 : i ≥ num 0 8
    · rw [if_pos c1] at ex em
      rw [ex, em]
      exact ⟨fixM_rf, by omega, Or.inl ⟨rfl, rfl⟩⟩
    · rw [if_neg c1] at ex em
      have c1' : ¬ (num 0 8).toInt ≤ i.toInt := fun e => c1 (vv_ge.mpr e)
      have i1 : (i + 1).toInt = i.toInt + 1 := vp1 (by omega)
      have hi6 : 0 ≤ i.toInt ∧ i.toInt ≤ 6 := ⟨h0, by omega⟩
      have hci := tC_of h0
      have hcx := tC_of hx
      have hcB := tC_of sb.1
      obtain ⟨q1, q2, q3, q4, q5⟩ := sx i.toNatClampNeg (by omega)
      have hb := (buys_eq (nux := nux) (x := x) (u := u) (p := pr) hi6).2
      have hx52 : nux 52 x.toNatClampNeg = F_sm_besideOf num x := by
        rw [(sx x.toNatClampNeg (by omega)).2.1, ← nI_at hx]
      have hhas := near_and (b := F_sm_besideOf num x) (u := u) hi6
      rw [← ht] at hhas
      rw [hx52, q3, q1, sg] at hb
      have step : ∀ xi2 : Nat → Nat → Int32, fixM num xi2 → (0 ≤ (xi2 0 33).toInt ∧ (xi2 0 33).toInt ≤ c + 57) → ckR (c + (7 - i.toInt) * 57) xi2 (L_sm_routeOn4_34_0 pr t u n (i + 1) xi2) (L_sx_comesFrom3_21_0 nux pr u x n (i + 1)) ∧ fixM num (L_sm_routeOn4_34_0 pr t u n (i + 1) xi2) := fun xi2 g2 g3 => by
        have m8 : xi2 0 8 = num 0 8 := g2.2.1 8 (by omega)
        have mb : F_sm_besideOf xi2 x = F_sm_besideOf num x := bes_congr (g2.1 9 (by decide) (by decide) (by decide) (by decide)) (g2.2.1 11 (by omega)) (g2.2.1 13 (by omega)) 15 0 0
        have z := ih (i + 1) (c + 57) xi2 (by omega) (stR_of hS fixX_rf g2) (by rw [g2.2.1 39 (by omega)]; exact h39) g3 (by rw [m8]; exact hxB) (by rw [mb]; exact ht) (by omega) (by omega) (by omega)
        exact ⟨ckR_le z (by omega), fixM_tr g2 z.1⟩
      have same : ∀ xi2 : Nat → Nat → Int32, fixM num xi2 → xi2 0 33 = num 0 33 → ckR (c + (7 - i.toInt) * 57) num (L_sm_routeOn4_34_0 pr t u n (i + 1) xi2) (L_sx_comesFrom3_21_0 nux pr u x n (i + 1)) := fun xi2 g2 g3 => by
        obtain ⟨⟨_, z2, z3⟩, z4⟩ := step xi2 g2 (by rw [g3]; omega)
        rw [g3] at z3
        exact ⟨z4, z2, z3⟩
      have more : ∀ xi2 : Nat → Nat → Int32, fixM num xi2 → (num 0 33).toInt < (xi2 0 33).toInt → (xi2 0 33).toInt ≤ c + 57 → ckR (c + (7 - i.toInt) * 57) num (L_sm_routeOn4_34_0 pr t u n (i + 1) xi2) 1 := fun xi2 g2 g3 g4 => by
        obtain ⟨⟨_, z2, z3⟩, z4⟩ := step xi2 g2 ⟨by omega, g4⟩
        refine ⟨z4, z2, Or.inr ⟨rfl, ?_⟩⟩
        rcases z3 with ⟨_, e⟩ | ⟨_, e⟩
        · rw [e]; exact g3
        · omega
      obtain ⟨r6, e6, ex⟩ := letv_out ex
      by_cases cb : r6 = (0 : Int32)
      · rw [if_pos cb] at ex
        obtain ⟨w, ew, ex⟩ := letv_out ex
        rw [← ew] at ex
        rw [ex]
        by_cases ch : F_sm_has t i = 1
        · rw [if_pos ch] at em
          obtain ⟨y18, e18, em⟩ := letv_out em
          rw [← e18, if_neg spc] at em
          obtain ⟨y65, e65, em⟩ := letv_out em
          rw [← e65] at em
          by_cases cp : num 8 i.toNatClampNeg < pr
          · rw [if_pos cp] at em
            obtain ⟨w, ew, em⟩ := letv_out em
            rw [em, ← ew]
            exact same num fixM_rf rfl
          · rw [if_neg cp] at em
            have cp' : ¬ (num 8 i.toNatClampNeg).toInt < pr.toInt := fun e => cp (vv_lt.mpr e)
            obtain ⟨n71, e71, em⟩ := letv_out em
            have f71 : fixM num n71 := ⟨fun k _ k2 _ _ => uw_k e71 k k2, fun f _ => by rw [uw_k e71 0 (by decide)], uw_f e71 0 (by decide)⟩
            have a0 : n71 0 = num 0 := uw_k e71 0 (by decide)
            have a7 : n71 7 = num 7 := uw_k e71 7 (by decide)
            obtain ⟨y79, e79, em⟩ := letv_out em
            rw [← e79, a0] at em
            by_cases cg : i = num 0 29
            · exact absurd (e6.trans cb) (hb.mpr ⟨(hhas.mp ch).1, (hhas.mp ch).2, by omega, Or.inl cg⟩)
            · rw [if_neg cg] at em
              obtain ⟨y81, e81, em⟩ := letv_out em
              rw [← e81, a7] at em
              by_cases ck : num 7 i.toNatClampNeg = 3
              · rw [if_pos ck] at em
                obtain ⟨w, ew, em⟩ := letv_out em
                rw [em, ← ew]
                exact same n71 f71 (by rw [a0])
              · exact absurd (e6.trans cb) (hb.mpr ⟨(hhas.mp ch).1, (hhas.mp ch).2, by omega, Or.inr ck⟩)
        · rw [if_neg ch] at em
          obtain ⟨w, ew, em⟩ := letv_out em
          rw [em, ← ew]
          exact same num fixM_rf rfl
      · rw [if_neg cb] at ex
        obtain ⟨b1, b2, b3, b4⟩ := hb.mp (fun e => cb (e6.symm.trans e))
        rw [if_pos (hhas.mpr ⟨b1, b2⟩)] at em
        obtain ⟨y18, e18, em⟩ := letv_out em
        rw [← e18, if_neg spc] at em
        obtain ⟨y65, e65, em⟩ := letv_out em
        rw [← e65, if_neg (fun e => by have := vv_lt.mp e; omega)] at em
        obtain ⟨n71, e71, em⟩ := letv_out em
        have f71 : fixM num n71 := ⟨fun k _ k2 _ _ => uw_k e71 k k2, fun f _ => by rw [uw_k e71 0 (by decide)], uw_f e71 0 (by decide)⟩
        have a0 : n71 0 = num 0 := uw_k e71 0 (by decide)
        have a7 : n71 7 = num 7 := uw_k e71 7 (by decide)
        have hS2 := stR_of hS fixX_rf f71
        have h39' : ¬ n71 0 39 = -9 := by rw [a0]; exact h39
        obtain ⟨y11, e11, ex⟩ := letv_out ex
        rw [← e11, sg] at ex
        obtain ⟨y79, e79, em⟩ := letv_out em
        rw [← e79, a0] at em
        by_cases cg : i = num 0 29
        · rw [if_pos cg] at ex em
          obtain ⟨r14, e14, ex⟩ := letv_out ex
          obtain ⟨y15, e15, ex⟩ := letv_out ex
          obtain ⟨y101, e101, em⟩ := letv_out em
          obtain ⟨t102, e102, em⟩ := letv_out em
          obtain ⟨t103, e103, em⟩ := letv_out em
          obtain ⟨t104, e104, em⟩ := letv_out em
          obtain ⟨x108, e108, em⟩ := letv_out em
          obtain ⟨_, _, em⟩ := letv_out em
          obtain ⟨_, _, em⟩ := letv_out em
          obtain ⟨_, _, em⟩ := letv_out em
          obtain ⟨w2, ew2, em⟩ := letv_out em
          rw [em, ← ew2]
          obtain ⟨z1, z2⟩ := arrM hT hS2 h39' (s := 4) (n := 5) (q := t104) (p := pr) (by decide) (by decide) ⟨hpr, by omega⟩ e108.symm
          have z33 : n71 0 33 = num 0 33 := by rw [a0]
          rw [e14, e15, z33] at z2
          rcases z2 with ⟨g, e⟩ | ⟨g, e⟩
          · rw [if_neg (fun h => by have := vv_gt.mp h; have := vv_le.mp g; omega)] at ex
            rw [ex]
            have ii := (inc_of h33.1 h33.2 (by omega)).1
            exact more x108 (fixM_tr f71 z1) (by rw [e, ii]; omega) (by rw [e, ii]; omega)
          · rw [if_pos (vv_gt.mpr (by have : ¬ r14.toInt ≤ y15.toInt := fun h => g (vv_le.mpr h); omega))] at ex
            obtain ⟨w, ew, ex⟩ := letv_out ex
            rw [ex, ← ew]
            exact same x108 (fixM_tr f71 z1) e
        · rw [if_neg cg] at ex em
          have ck : ¬ num 7 i.toNatClampNeg = 3 := b4.resolve_left cg
          obtain ⟨y81, e81, em⟩ := letv_out em
          rw [← e81, a7, if_neg ck] at em
          obtain ⟨t9, e9', ex⟩ := letv_out ex
          obtain ⟨t10, e10', ex⟩ := letv_out ex
          obtain ⟨r11, e11', ex⟩ := letv_out ex
          obtain ⟨t87, e87, em⟩ := letv_out em
          obtain ⟨t88, e88, em⟩ := letv_out em
          obtain ⟨x92, e92, em⟩ := letv_out em
          obtain ⟨_, _, em⟩ := letv_out em
          obtain ⟨_, _, em⟩ := letv_out em
          obtain ⟨_, _, em⟩ := letv_out em
          obtain ⟨w2, ew2, em⟩ := letv_out em
          rw [em, ← ew2]
          have v71 : n71 16 4 = i := uw_v e71
          have tt : t88 = t10 := by rw [← e88, ← e10', ← e87, ← e9']
          rw [tt] at e92
          have z := ck4 (c := c) (x := i) (u := t10) (p := pr) hT (by omega) hS2 h39' (by rw [a0]; exact h33) v71.symm (by rw [a0]; omega) ⟨hpr, by omega⟩ (by rw [← e10', ← e9']; exact bits_or hu hi6)
          rw [e11', e92] at z
          obtain ⟨z1, z2, z3⟩ := z
          have z33 : n71 0 33 = num 0 33 := by rw [a0]
          rw [z33] at z3
          rcases z3 with ⟨g, e⟩ | ⟨g, e⟩
          · rw [if_pos g] at ex
            obtain ⟨w, ew, ex⟩ := letv_out ex
            rw [ex, ← ew]
            exact same x92 (fixM_tr f71 z1) e
          · rw [if_neg (fun h => by rw [h] at g; exact absurd g (by decide))] at ex
            rw [ex]
            exact more x92 (fixM_tr f71 z1) e (by omega)
theorem ck3 {T c : Int} {nux num : Nat → Nat → Int32} {x u p : Int32} (hT : T ≤ 1000000) (hc : c + 399 ≤ 900000) (hS : stR T nux num) (h39 : ¬ num 0 39 = -9) (h33 : 0 ≤ (num 0 33).toInt ∧ (num 0 33).toInt ≤ c) (hy : x = num 16 3) (hr : 0 ≤ x.toInt ∧ x.toInt < (num 0 8).toInt) (hp : 0 ≤ p.toInt ∧ p.toInt ≤ T) (hu : ∀ j : Nat, j < 32 → bt u j = true → j < 7) : ckR (c + 399) num (F_sm_routeOn4 num u p) (F_sx_comesFrom3 nux x u p) := by
  have hcx := tC_of hr.1
  have hcB := tC_of hS.2.1.1
  have k1 := (hS.2.2.1 x.toNatClampNeg (by omega)).1
  have hpr : 0 ≤ (F_sm_asksOf num x p).toInt := by
    rw [← ask_eq k1]
    exact ask_rng ⟨hp.1, by omega⟩
  have z : (0 : Int32).toInt = 0 := rfl
  have hl := cl3 (nux := nux) hT hpr hu hr.1 10 0 c num (by rw [z]; omega) hS h39 h33 hr.2 rfl (by decide) (by decide) (by decide)
  have ex : F_sx_comesFrom3 nux x u p = L_sx_comesFrom3_21_0 nux (F_sm_asksOf num x p) u x 10 0 := by
    rw [← ask_eq k1]
    unfold F_sx_comesFrom3
    rw [letv_eq, letv_eq]
  have em : F_sm_routeOn4 num u p = L_sm_routeOn4_34_0 (F_sm_asksOf num x p) (F_sm_besideOf num x &&& (u ^^^ (-1))) u 10 0 num := by
    rw [hy]
    unfold F_sm_routeOn4
    rw [letv_eq, letv_eq, letv_eq, letv_eq, letv_eq, letv_eq, letv_eq, letv_eq]
    rfl
  rw [ex, em]
  exact ckR_le hl (by rw [z]; omega)
theorem cl2 {T : Int} {u pr x t : Int32} {nux : Nat → Nat → Int32} (hT : T ≤ 1000000) (hpr : 0 ≤ pr.toInt) (hu : ∀ j : Nat, j < 32 → bt u j = true → j < 7) (hx : 0 ≤ x.toInt) : ∀ (n : Nat) (i : Int32) (c : Int) (num : Nat → Nat → Int32), c + (7 - i.toInt) * 400 ≤ 900000 → stR T nux num → ¬ num 0 39 = -9 → (0 ≤ (num 0 33).toInt ∧ (num 0 33).toInt ≤ c) → x.toInt < (num 0 8).toInt → t = F_sm_besideOf num x &&& (u ^^^ (-1)) → 0 ≤ i.toInt → i.toInt ≤ 7 → (7 - i.toInt).toNat < n → ckR (c + (7 - i.toInt) * 400) num (L_sm_routeOn3_34_0 pr t u n i num) (L_sx_comesFrom2_21_0 nux pr u x n i) := by
  intro n
  induction n with
  | zero => intro i c num _ _ _ _ _ _ _ _ hn; exact absurd hn (Nat.not_lt_zero _)
  | succ n ih =>
    intro i c num hc hS h39 h33 hxB ht h0 h7 hn
    obtain ⟨sB, sb, sx, sg, spc, sf, sfr, sl⟩ := id hS
    obtain ⟨zx, ex⟩ : ∃ z, z = L_sx_comesFrom2_21_0 nux pr u x (n + 1) i := ⟨_, rfl⟩
    obtain ⟨zm, em⟩ : ∃ z, z = L_sm_routeOn3_34_0 pr t u (n + 1) i num := ⟨_, rfl⟩
    rw [← ex, ← em]
    unfold L_sx_comesFrom2_21_0 at ex
    unfold L_sm_routeOn3_34_0 at em
    obtain ⟨y4, e4, ex⟩ := letv_out ex
    obtain ⟨y9, e9, em⟩ := letv_out em
    obtain ⟨y10, e10, em⟩ := letv_out em
    obtain ⟨y11, e11, em⟩ := letv_out em
    obtain ⟨y12, e12, em⟩ := letv_out em
    rw [← e4, sB] at ex
    rw [← e12] at em
    by_cases c1 : i ≥ num 0 8
    · rw [if_pos c1] at ex em
      rw [ex, em]
      exact ⟨fixM_rf, by omega, Or.inl ⟨rfl, rfl⟩⟩
    · rw [if_neg c1] at ex em
      have c1' : ¬ (num 0 8).toInt ≤ i.toInt := fun e => c1 (vv_ge.mpr e)
      have i1 : (i + 1).toInt = i.toInt + 1 := vp1 (by omega)
      have hi6 : 0 ≤ i.toInt ∧ i.toInt ≤ 6 := ⟨h0, by omega⟩
      have hci := tC_of h0
      have hcx := tC_of hx
      have hcB := tC_of sb.1
      obtain ⟨q1, q2, q3, q4, q5⟩ := sx i.toNatClampNeg (by omega)
      have hb := (buys_eq (nux := nux) (x := x) (u := u) (p := pr) hi6).2
      have hx52 : nux 52 x.toNatClampNeg = F_sm_besideOf num x := by
        rw [(sx x.toNatClampNeg (by omega)).2.1, ← nI_at hx]
      have hhas := near_and (b := F_sm_besideOf num x) (u := u) hi6
      rw [← ht] at hhas
      rw [hx52, q3, q1, sg] at hb
      have step : ∀ xi2 : Nat → Nat → Int32, fixM num xi2 → (0 ≤ (xi2 0 33).toInt ∧ (xi2 0 33).toInt ≤ c + 400) → ckR (c + (7 - i.toInt) * 400) xi2 (L_sm_routeOn3_34_0 pr t u n (i + 1) xi2) (L_sx_comesFrom2_21_0 nux pr u x n (i + 1)) ∧ fixM num (L_sm_routeOn3_34_0 pr t u n (i + 1) xi2) := fun xi2 g2 g3 => by
        have m8 : xi2 0 8 = num 0 8 := g2.2.1 8 (by omega)
        have mb : F_sm_besideOf xi2 x = F_sm_besideOf num x := bes_congr (g2.1 9 (by decide) (by decide) (by decide) (by decide)) (g2.2.1 11 (by omega)) (g2.2.1 13 (by omega)) 15 0 0
        have z := ih (i + 1) (c + 400) xi2 (by omega) (stR_of hS fixX_rf g2) (by rw [g2.2.1 39 (by omega)]; exact h39) g3 (by rw [m8]; exact hxB) (by rw [mb]; exact ht) (by omega) (by omega) (by omega)
        exact ⟨ckR_le z (by omega), fixM_tr g2 z.1⟩
      have same : ∀ xi2 : Nat → Nat → Int32, fixM num xi2 → xi2 0 33 = num 0 33 → ckR (c + (7 - i.toInt) * 400) num (L_sm_routeOn3_34_0 pr t u n (i + 1) xi2) (L_sx_comesFrom2_21_0 nux pr u x n (i + 1)) := fun xi2 g2 g3 => by
        obtain ⟨⟨_, z2, z3⟩, z4⟩ := step xi2 g2 (by rw [g3]; omega)
        rw [g3] at z3
        exact ⟨z4, z2, z3⟩
      have more : ∀ xi2 : Nat → Nat → Int32, fixM num xi2 → (num 0 33).toInt < (xi2 0 33).toInt → (xi2 0 33).toInt ≤ c + 400 → ckR (c + (7 - i.toInt) * 400) num (L_sm_routeOn3_34_0 pr t u n (i + 1) xi2) 1 := fun xi2 g2 g3 g4 => by
        obtain ⟨⟨_, z2, z3⟩, z4⟩ := step xi2 g2 ⟨by omega, g4⟩
        refine ⟨z4, z2, Or.inr ⟨rfl, ?_⟩⟩
        rcases z3 with ⟨_, e⟩ | ⟨_, e⟩
        · rw [e]; exact g3
        · omega
      obtain ⟨r6, e6, ex⟩ := letv_out ex
      by_cases cb : r6 = (0 : Int32)
      · rw [if_pos cb] at ex
        obtain ⟨w, ew, ex⟩ := letv_out ex
        rw [← ew] at ex
        rw [ex]
        by_cases ch : F_sm_has t i = 1
        · rw [if_pos ch] at em
          obtain ⟨y18, e18, em⟩ := letv_out em
          rw [← e18, if_neg spc] at em
          obtain ⟨y65, e65, em⟩ := letv_out em
          rw [← e65] at em
          by_cases cp : num 8 i.toNatClampNeg < pr
          · rw [if_pos cp] at em
            obtain ⟨w, ew, em⟩ := letv_out em
            rw [em, ← ew]
            exact same num fixM_rf rfl
          · rw [if_neg cp] at em
            have cp' : ¬ (num 8 i.toNatClampNeg).toInt < pr.toInt := fun e => cp (vv_lt.mpr e)
            obtain ⟨n71, e71, em⟩ := letv_out em
            have f71 : fixM num n71 := ⟨fun k _ k2 _ _ => uw_k e71 k k2, fun f _ => by rw [uw_k e71 0 (by decide)], uw_f e71 0 (by decide)⟩
            have a0 : n71 0 = num 0 := uw_k e71 0 (by decide)
            have a7 : n71 7 = num 7 := uw_k e71 7 (by decide)
            obtain ⟨y79, e79, em⟩ := letv_out em
            rw [← e79, a0] at em
            by_cases cg : i = num 0 29
            · exact absurd (e6.trans cb) (hb.mpr ⟨(hhas.mp ch).1, (hhas.mp ch).2, by omega, Or.inl cg⟩)
            · rw [if_neg cg] at em
              obtain ⟨y81, e81, em⟩ := letv_out em
              rw [← e81, a7] at em
              by_cases ck : num 7 i.toNatClampNeg = 3
              · rw [if_pos ck] at em
                obtain ⟨w, ew, em⟩ := letv_out em
                rw [em, ← ew]
                exact same n71 f71 (by rw [a0])
              · exact absurd (e6.trans cb) (hb.mpr ⟨(hhas.mp ch).1, (hhas.mp ch).2, by omega, Or.inr ck⟩)
        · rw [if_neg ch] at em
          obtain ⟨w, ew, em⟩ := letv_out em
          rw [em, ← ew]
          exact same num fixM_rf rfl
      · rw [if_neg cb] at ex
        obtain ⟨b1, b2, b3, b4⟩ := hb.mp (fun e => cb (e6.symm.trans e))
        rw [if_pos (hhas.mpr ⟨b1, b2⟩)] at em
        obtain ⟨y18, e18, em⟩ := letv_out em
        rw [← e18, if_neg spc] at em
        obtain ⟨y65, e65, em⟩ := letv_out em
        rw [← e65, if_neg (fun e => by have := vv_lt.mp e; omega)] at em
        obtain ⟨n71, e71, em⟩ := letv_out em
        have f71 : fixM num n71 := ⟨fun k _ k2 _ _ => uw_k e71 k k2, fun f _ => by rw [uw_k e71 0 (by decide)], uw_f e71 0 (by decide)⟩
        have a0 : n71 0 = num 0 := uw_k e71 0 (by decide)
        have a7 : n71 7 = num 7 := uw_k e71 7 (by decide)
        have hS2 := stR_of hS fixX_rf f71
        have h39' : ¬ n71 0 39 = -9 := by rw [a0]; exact h39
        obtain ⟨y11, e11, ex⟩ := letv_out ex
        rw [← e11, sg] at ex
        obtain ⟨y79, e79, em⟩ := letv_out em
        rw [← e79, a0] at em
        by_cases cg : i = num 0 29
        · rw [if_pos cg] at ex em
          obtain ⟨r14, e14, ex⟩ := letv_out ex
          obtain ⟨y15, e15, ex⟩ := letv_out ex
          obtain ⟨y101, e101, em⟩ := letv_out em
          obtain ⟨t102, e102, em⟩ := letv_out em
          obtain ⟨t103, e103, em⟩ := letv_out em
          obtain ⟨t104, e104, em⟩ := letv_out em
          obtain ⟨x108, e108, em⟩ := letv_out em
          obtain ⟨_, _, em⟩ := letv_out em
          obtain ⟨_, _, em⟩ := letv_out em
          obtain ⟨_, _, em⟩ := letv_out em
          obtain ⟨w2, ew2, em⟩ := letv_out em
          rw [em, ← ew2]
          obtain ⟨z1, z2⟩ := arrM hT hS2 h39' (s := 3) (n := 4) (q := t104) (p := pr) (by decide) (by decide) ⟨hpr, by omega⟩ e108.symm
          have z33 : n71 0 33 = num 0 33 := by rw [a0]
          rw [e14, e15, z33] at z2
          rcases z2 with ⟨g, e⟩ | ⟨g, e⟩
          · rw [if_neg (fun h => by have := vv_gt.mp h; have := vv_le.mp g; omega)] at ex
            rw [ex]
            have ii := (inc_of h33.1 h33.2 (by omega)).1
            exact more x108 (fixM_tr f71 z1) (by rw [e, ii]; omega) (by rw [e, ii]; omega)
          · rw [if_pos (vv_gt.mpr (by have : ¬ r14.toInt ≤ y15.toInt := fun h => g (vv_le.mpr h); omega))] at ex
            obtain ⟨w, ew, ex⟩ := letv_out ex
            rw [ex, ← ew]
            exact same x108 (fixM_tr f71 z1) e
        · rw [if_neg cg] at ex em
          have ck : ¬ num 7 i.toNatClampNeg = 3 := b4.resolve_left cg
          obtain ⟨y81, e81, em⟩ := letv_out em
          rw [← e81, a7, if_neg ck] at em
          obtain ⟨t9, e9', ex⟩ := letv_out ex
          obtain ⟨t10, e10', ex⟩ := letv_out ex
          obtain ⟨r11, e11', ex⟩ := letv_out ex
          obtain ⟨t87, e87, em⟩ := letv_out em
          obtain ⟨t88, e88, em⟩ := letv_out em
          obtain ⟨x92, e92, em⟩ := letv_out em
          obtain ⟨_, _, em⟩ := letv_out em
          obtain ⟨_, _, em⟩ := letv_out em
          obtain ⟨_, _, em⟩ := letv_out em
          obtain ⟨w2, ew2, em⟩ := letv_out em
          rw [em, ← ew2]
          have v71 : n71 16 3 = i := uw_v e71
          have tt : t88 = t10 := by rw [← e88, ← e10', ← e87, ← e9']
          rw [tt] at e92
          have z := ck3 (c := c) (x := i) (u := t10) (p := pr) hT (by omega) hS2 h39' (by rw [a0]; exact h33) v71.symm (by rw [a0]; omega) ⟨hpr, by omega⟩ (by rw [← e10', ← e9']; exact bits_or hu hi6)
          rw [e11', e92] at z
          obtain ⟨z1, z2, z3⟩ := z
          have z33 : n71 0 33 = num 0 33 := by rw [a0]
          rw [z33] at z3
          rcases z3 with ⟨g, e⟩ | ⟨g, e⟩
          · rw [if_pos g] at ex
            obtain ⟨w, ew, ex⟩ := letv_out ex
            rw [ex, ← ew]
            exact same x92 (fixM_tr f71 z1) e
          · rw [if_neg (fun h => by rw [h] at g; exact absurd g (by decide))] at ex
            rw [ex]
            exact more x92 (fixM_tr f71 z1) e (by omega)
theorem ck2 {T c : Int} {nux num : Nat → Nat → Int32} {x u p : Int32} (hT : T ≤ 1000000) (hc : c + 2800 ≤ 900000) (hS : stR T nux num) (h39 : ¬ num 0 39 = -9) (h33 : 0 ≤ (num 0 33).toInt ∧ (num 0 33).toInt ≤ c) (hy : x = num 16 2) (hr : 0 ≤ x.toInt ∧ x.toInt < (num 0 8).toInt) (hp : 0 ≤ p.toInt ∧ p.toInt ≤ T) (hu : ∀ j : Nat, j < 32 → bt u j = true → j < 7) : ckR (c + 2800) num (F_sm_routeOn3 num u p) (F_sx_comesFrom2 nux x u p) := by
  have hcx := tC_of hr.1
  have hcB := tC_of hS.2.1.1
  have k1 := (hS.2.2.1 x.toNatClampNeg (by omega)).1
  have hpr : 0 ≤ (F_sm_asksOf num x p).toInt := by
    rw [← ask_eq k1]
    exact ask_rng ⟨hp.1, by omega⟩
  have z : (0 : Int32).toInt = 0 := rfl
  have hl := cl2 (nux := nux) hT hpr hu hr.1 10 0 c num (by rw [z]; omega) hS h39 h33 hr.2 rfl (by decide) (by decide) (by decide)
  have ex : F_sx_comesFrom2 nux x u p = L_sx_comesFrom2_21_0 nux (F_sm_asksOf num x p) u x 10 0 := by
    rw [← ask_eq k1]
    unfold F_sx_comesFrom2
    rw [letv_eq, letv_eq]
  have em : F_sm_routeOn3 num u p = L_sm_routeOn3_34_0 (F_sm_asksOf num x p) (F_sm_besideOf num x &&& (u ^^^ (-1))) u 10 0 num := by
    rw [hy]
    unfold F_sm_routeOn3
    rw [letv_eq, letv_eq, letv_eq, letv_eq, letv_eq, letv_eq, letv_eq, letv_eq]
    rfl
  rw [ex, em]
  exact ckR_le hl (by rw [z]; omega)
theorem cl1 {T : Int} {u pr x t : Int32} {nux : Nat → Nat → Int32} (hT : T ≤ 1000000) (hpr : 0 ≤ pr.toInt) (hu : ∀ j : Nat, j < 32 → bt u j = true → j < 7) (hx : 0 ≤ x.toInt) : ∀ (n : Nat) (i : Int32) (c : Int) (num : Nat → Nat → Int32), c + (7 - i.toInt) * 2801 ≤ 900000 → stR T nux num → ¬ num 0 39 = -9 → (0 ≤ (num 0 33).toInt ∧ (num 0 33).toInt ≤ c) → x.toInt < (num 0 8).toInt → t = F_sm_besideOf num x &&& (u ^^^ (-1)) → 0 ≤ i.toInt → i.toInt ≤ 7 → (7 - i.toInt).toNat < n → ckR (c + (7 - i.toInt) * 2801) num (L_sm_routeOn2_34_0 pr t u n i num) (L_sx_comesFrom1_21_0 nux pr u x n i) := by
  intro n
  induction n with
  | zero => intro i c num _ _ _ _ _ _ _ _ hn; exact absurd hn (Nat.not_lt_zero _)
  | succ n ih =>
    intro i c num hc hS h39 h33 hxB ht h0 h7 hn
    obtain ⟨sB, sb, sx, sg, spc, sf, sfr, sl⟩ := id hS
    obtain ⟨zx, ex⟩ : ∃ z, z = L_sx_comesFrom1_21_0 nux pr u x (n + 1) i := ⟨_, rfl⟩
    obtain ⟨zm, em⟩ : ∃ z, z = L_sm_routeOn2_34_0 pr t u (n + 1) i num := ⟨_, rfl⟩
    rw [← ex, ← em]
    unfold L_sx_comesFrom1_21_0 at ex
    unfold L_sm_routeOn2_34_0 at em
    obtain ⟨y4, e4, ex⟩ := letv_out ex
    obtain ⟨y9, e9, em⟩ := letv_out em
    obtain ⟨y10, e10, em⟩ := letv_out em
    obtain ⟨y11, e11, em⟩ := letv_out em
    obtain ⟨y12, e12, em⟩ := letv_out em
    rw [← e4, sB] at ex
    rw [← e12] at em
    by_cases c1 : i ≥ num 0 8
    · rw [if_pos c1] at ex em
      rw [ex, em]
      exact ⟨fixM_rf, by omega, Or.inl ⟨rfl, rfl⟩⟩
    · rw [if_neg c1] at ex em
      have c1' : ¬ (num 0 8).toInt ≤ i.toInt := fun e => c1 (vv_ge.mpr e)
      have i1 : (i + 1).toInt = i.toInt + 1 := vp1 (by omega)
      have hi6 : 0 ≤ i.toInt ∧ i.toInt ≤ 6 := ⟨h0, by omega⟩
      have hci := tC_of h0
      have hcx := tC_of hx
      have hcB := tC_of sb.1
      obtain ⟨q1, q2, q3, q4, q5⟩ := sx i.toNatClampNeg (by omega)
      have hb := (buys_eq (nux := nux) (x := x) (u := u) (p := pr) hi6).2
      have hx52 : nux 52 x.toNatClampNeg = F_sm_besideOf num x := by
        rw [(sx x.toNatClampNeg (by omega)).2.1, ← nI_at hx]
      have hhas := near_and (b := F_sm_besideOf num x) (u := u) hi6
      rw [← ht] at hhas
      rw [hx52, q3, q1, sg] at hb
      have step : ∀ xi2 : Nat → Nat → Int32, fixM num xi2 → (0 ≤ (xi2 0 33).toInt ∧ (xi2 0 33).toInt ≤ c + 2801) → ckR (c + (7 - i.toInt) * 2801) xi2 (L_sm_routeOn2_34_0 pr t u n (i + 1) xi2) (L_sx_comesFrom1_21_0 nux pr u x n (i + 1)) ∧ fixM num (L_sm_routeOn2_34_0 pr t u n (i + 1) xi2) := fun xi2 g2 g3 => by
        have m8 : xi2 0 8 = num 0 8 := g2.2.1 8 (by omega)
        have mb : F_sm_besideOf xi2 x = F_sm_besideOf num x := bes_congr (g2.1 9 (by decide) (by decide) (by decide) (by decide)) (g2.2.1 11 (by omega)) (g2.2.1 13 (by omega)) 15 0 0
        have z := ih (i + 1) (c + 2801) xi2 (by omega) (stR_of hS fixX_rf g2) (by rw [g2.2.1 39 (by omega)]; exact h39) g3 (by rw [m8]; exact hxB) (by rw [mb]; exact ht) (by omega) (by omega) (by omega)
        exact ⟨ckR_le z (by omega), fixM_tr g2 z.1⟩
      have same : ∀ xi2 : Nat → Nat → Int32, fixM num xi2 → xi2 0 33 = num 0 33 → ckR (c + (7 - i.toInt) * 2801) num (L_sm_routeOn2_34_0 pr t u n (i + 1) xi2) (L_sx_comesFrom1_21_0 nux pr u x n (i + 1)) := fun xi2 g2 g3 => by
        obtain ⟨⟨_, z2, z3⟩, z4⟩ := step xi2 g2 (by rw [g3]; omega)
        rw [g3] at z3
        exact ⟨z4, z2, z3⟩
      have more : ∀ xi2 : Nat → Nat → Int32, fixM num xi2 → (num 0 33).toInt < (xi2 0 33).toInt → (xi2 0 33).toInt ≤ c + 2801 → ckR (c + (7 - i.toInt) * 2801) num (L_sm_routeOn2_34_0 pr t u n (i + 1) xi2) 1 := fun xi2 g2 g3 g4 => by
        obtain ⟨⟨_, z2, z3⟩, z4⟩ := step xi2 g2 ⟨by omega, g4⟩
        refine ⟨z4, z2, Or.inr ⟨rfl, ?_⟩⟩
        rcases z3 with ⟨_, e⟩ | ⟨_, e⟩
        · rw [e]; exact g3
        · omega
      obtain ⟨r6, e6, ex⟩ := letv_out ex
      by_cases cb : r6 = (0 : Int32)
      · rw [if_pos cb] at ex
        obtain ⟨w, ew, ex⟩ := letv_out ex
        rw [← ew] at ex
        rw [ex]
        by_cases ch : F_sm_has t i = 1
        · rw [if_pos ch] at em
          obtain ⟨y18, e18, em⟩ := letv_out em
          rw [← e18, if_neg spc] at em
          obtain ⟨y65, e65, em⟩ := letv_out em
          rw [← e65] at em
          by_cases cp : num 8 i.toNatClampNeg < pr
          · rw [if_pos cp] at em
            obtain ⟨w, ew, em⟩ := letv_out em
            rw [em, ← ew]
            exact same num fixM_rf rfl
          · rw [if_neg cp] at em
            have cp' : ¬ (num 8 i.toNatClampNeg).toInt < pr.toInt := fun e => cp (vv_lt.mpr e)
            obtain ⟨n71, e71, em⟩ := letv_out em
            have f71 : fixM num n71 := ⟨fun k _ k2 _ _ => uw_k e71 k k2, fun f _ => by rw [uw_k e71 0 (by decide)], uw_f e71 0 (by decide)⟩
            have a0 : n71 0 = num 0 := uw_k e71 0 (by decide)
            have a7 : n71 7 = num 7 := uw_k e71 7 (by decide)
            obtain ⟨y79, e79, em⟩ := letv_out em
            rw [← e79, a0] at em
            by_cases cg : i = num 0 29
            · exact absurd (e6.trans cb) (hb.mpr ⟨(hhas.mp ch).1, (hhas.mp ch).2, by omega, Or.inl cg⟩)
            · rw [if_neg cg] at em
              obtain ⟨y81, e81, em⟩ := letv_out em
              rw [← e81, a7] at em
              by_cases ck : num 7 i.toNatClampNeg = 3
              · rw [if_pos ck] at em
                obtain ⟨w, ew, em⟩ := letv_out em
                rw [em, ← ew]
                exact same n71 f71 (by rw [a0])
              · exact absurd (e6.trans cb) (hb.mpr ⟨(hhas.mp ch).1, (hhas.mp ch).2, by omega, Or.inr ck⟩)
        · rw [if_neg ch] at em
          obtain ⟨w, ew, em⟩ := letv_out em
          rw [em, ← ew]
          exact same num fixM_rf rfl
      · rw [if_neg cb] at ex
        obtain ⟨b1, b2, b3, b4⟩ := hb.mp (fun e => cb (e6.symm.trans e))
        rw [if_pos (hhas.mpr ⟨b1, b2⟩)] at em
        obtain ⟨y18, e18, em⟩ := letv_out em
        rw [← e18, if_neg spc] at em
        obtain ⟨y65, e65, em⟩ := letv_out em
        rw [← e65, if_neg (fun e => by have := vv_lt.mp e; omega)] at em
        obtain ⟨n71, e71, em⟩ := letv_out em
        have f71 : fixM num n71 := ⟨fun k _ k2 _ _ => uw_k e71 k k2, fun f _ => by rw [uw_k e71 0 (by decide)], uw_f e71 0 (by decide)⟩
        have a0 : n71 0 = num 0 := uw_k e71 0 (by decide)
        have a7 : n71 7 = num 7 := uw_k e71 7 (by decide)
        have hS2 := stR_of hS fixX_rf f71
        have h39' : ¬ n71 0 39 = -9 := by rw [a0]; exact h39
        obtain ⟨y11, e11, ex⟩ := letv_out ex
        rw [← e11, sg] at ex
        obtain ⟨y79, e79, em⟩ := letv_out em
        rw [← e79, a0] at em
        by_cases cg : i = num 0 29
        · rw [if_pos cg] at ex em
          obtain ⟨r14, e14, ex⟩ := letv_out ex
          obtain ⟨y15, e15, ex⟩ := letv_out ex
          obtain ⟨y101, e101, em⟩ := letv_out em
          obtain ⟨t102, e102, em⟩ := letv_out em
          obtain ⟨t103, e103, em⟩ := letv_out em
          obtain ⟨t104, e104, em⟩ := letv_out em
          obtain ⟨x108, e108, em⟩ := letv_out em
          obtain ⟨_, _, em⟩ := letv_out em
          obtain ⟨_, _, em⟩ := letv_out em
          obtain ⟨_, _, em⟩ := letv_out em
          obtain ⟨w2, ew2, em⟩ := letv_out em
          rw [em, ← ew2]
          obtain ⟨z1, z2⟩ := arrM hT hS2 h39' (s := 2) (n := 3) (q := t104) (p := pr) (by decide) (by decide) ⟨hpr, by omega⟩ e108.symm
          have z33 : n71 0 33 = num 0 33 := by rw [a0]
          rw [e14, e15, z33] at z2
          rcases z2 with ⟨g, e⟩ | ⟨g, e⟩
          · rw [if_neg (fun h => by have := vv_gt.mp h; have := vv_le.mp g; omega)] at ex
            rw [ex]
            have ii := (inc_of h33.1 h33.2 (by omega)).1
            exact more x108 (fixM_tr f71 z1) (by rw [e, ii]; omega) (by rw [e, ii]; omega)
          · rw [if_pos (vv_gt.mpr (by have : ¬ r14.toInt ≤ y15.toInt := fun h => g (vv_le.mpr h); omega))] at ex
            obtain ⟨w, ew, ex⟩ := letv_out ex
            rw [ex, ← ew]
            exact same x108 (fixM_tr f71 z1) e
        · rw [if_neg cg] at ex em
          have ck : ¬ num 7 i.toNatClampNeg = 3 := b4.resolve_left cg
          obtain ⟨y81, e81, em⟩ := letv_out em
          rw [← e81, a7, if_neg ck] at em
          obtain ⟨t9, e9', ex⟩ := letv_out ex
          obtain ⟨t10, e10', ex⟩ := letv_out ex
          obtain ⟨r11, e11', ex⟩ := letv_out ex
          obtain ⟨t87, e87, em⟩ := letv_out em
          obtain ⟨t88, e88, em⟩ := letv_out em
          obtain ⟨x92, e92, em⟩ := letv_out em
          obtain ⟨_, _, em⟩ := letv_out em
          obtain ⟨_, _, em⟩ := letv_out em
          obtain ⟨_, _, em⟩ := letv_out em
          obtain ⟨w2, ew2, em⟩ := letv_out em
          rw [em, ← ew2]
          have v71 : n71 16 2 = i := uw_v e71
          have tt : t88 = t10 := by rw [← e88, ← e10', ← e87, ← e9']
          rw [tt] at e92
          have z := ck2 (c := c) (x := i) (u := t10) (p := pr) hT (by omega) hS2 h39' (by rw [a0]; exact h33) v71.symm (by rw [a0]; omega) ⟨hpr, by omega⟩ (by rw [← e10', ← e9']; exact bits_or hu hi6)
          rw [e11', e92] at z
          obtain ⟨z1, z2, z3⟩ := z
          have z33 : n71 0 33 = num 0 33 := by rw [a0]
          rw [z33] at z3
          rcases z3 with ⟨g, e⟩ | ⟨g, e⟩
          · rw [if_pos g] at ex
            obtain ⟨w, ew, ex⟩ := letv_out ex
            rw [ex, ← ew]
            exact same x92 (fixM_tr f71 z1) e
          · rw [if_neg (fun h => by rw [h] at g; exact absurd g (by decide))] at ex
            rw [ex]
            exact more x92 (fixM_tr f71 z1) e (by omega)
theorem ck1 {T c : Int} {nux num : Nat → Nat → Int32} {x u p : Int32} (hT : T ≤ 1000000) (hc : c + 19607 ≤ 900000) (hS : stR T nux num) (h39 : ¬ num 0 39 = -9) (h33 : 0 ≤ (num 0 33).toInt ∧ (num 0 33).toInt ≤ c) (hy : x = num 16 1) (hr : 0 ≤ x.toInt ∧ x.toInt < (num 0 8).toInt) (hp : 0 ≤ p.toInt ∧ p.toInt ≤ T) (hu : ∀ j : Nat, j < 32 → bt u j = true → j < 7) : ckR (c + 19607) num (F_sm_routeOn2 num u p) (F_sx_comesFrom1 nux x u p) := by
  have hcx := tC_of hr.1
  have hcB := tC_of hS.2.1.1
  have k1 := (hS.2.2.1 x.toNatClampNeg (by omega)).1
  have hpr : 0 ≤ (F_sm_asksOf num x p).toInt := by
    rw [← ask_eq k1]
    exact ask_rng ⟨hp.1, by omega⟩
  have z : (0 : Int32).toInt = 0 := rfl
  have hl := cl1 (nux := nux) hT hpr hu hr.1 10 0 c num (by rw [z]; omega) hS h39 h33 hr.2 rfl (by decide) (by decide) (by decide)
  have ex : F_sx_comesFrom1 nux x u p = L_sx_comesFrom1_21_0 nux (F_sm_asksOf num x p) u x 10 0 := by
    rw [← ask_eq k1]
    unfold F_sx_comesFrom1
    rw [letv_eq, letv_eq]
  have em : F_sm_routeOn2 num u p = L_sm_routeOn2_34_0 (F_sm_asksOf num x p) (F_sm_besideOf num x &&& (u ^^^ (-1))) u 10 0 num := by
    rw [hy]
    unfold F_sm_routeOn2
    rw [letv_eq, letv_eq, letv_eq, letv_eq, letv_eq, letv_eq, letv_eq, letv_eq]
    rfl
  rw [ex, em]
  exact ckR_le hl (by rw [z]; omega)
theorem cl0 {T : Int} {u pr x t : Int32} {nux : Nat → Nat → Int32} (hT : T ≤ 1000000) (hpr : 0 ≤ pr.toInt) (hu : ∀ j : Nat, j < 32 → bt u j = true → j < 7) (hx : 0 ≤ x.toInt) : ∀ (n : Nat) (i : Int32) (c : Int) (num : Nat → Nat → Int32), c + (7 - i.toInt) * 19608 ≤ 900000 → stR T nux num → ¬ num 0 39 = -9 → (0 ≤ (num 0 33).toInt ∧ (num 0 33).toInt ≤ c) → x.toInt < (num 0 8).toInt → t = F_sm_besideOf num x &&& (u ^^^ (-1)) → 0 ≤ i.toInt → i.toInt ≤ 7 → (7 - i.toInt).toNat < n → ckR (c + (7 - i.toInt) * 19608) num (L_sm_routeOn1_34_0 pr t u n i num) (L_sx_comesFrom0_21_0 nux pr u x n i) := by
  intro n
  induction n with
  | zero => intro i c num _ _ _ _ _ _ _ _ hn; exact absurd hn (Nat.not_lt_zero _)
  | succ n ih =>
    intro i c num hc hS h39 h33 hxB ht h0 h7 hn
    obtain ⟨sB, sb, sx, sg, spc, sf, sfr, sl⟩ := id hS
    obtain ⟨zx, ex⟩ : ∃ z, z = L_sx_comesFrom0_21_0 nux pr u x (n + 1) i := ⟨_, rfl⟩
    obtain ⟨zm, em⟩ : ∃ z, z = L_sm_routeOn1_34_0 pr t u (n + 1) i num := ⟨_, rfl⟩
    rw [← ex, ← em]
    unfold L_sx_comesFrom0_21_0 at ex
    unfold L_sm_routeOn1_34_0 at em
    obtain ⟨y4, e4, ex⟩ := letv_out ex
    obtain ⟨y9, e9, em⟩ := letv_out em
    obtain ⟨y10, e10, em⟩ := letv_out em
    obtain ⟨y11, e11, em⟩ := letv_out em
    obtain ⟨y12, e12, em⟩ := letv_out em
    rw [← e4, sB] at ex
    rw [← e12] at em
    by_cases c1 : i ≥ num 0 8
    · rw [if_pos c1] at ex em
      rw [ex, em]
      exact ⟨fixM_rf, by omega, Or.inl ⟨rfl, rfl⟩⟩
    · rw [if_neg c1] at ex em
      have c1' : ¬ (num 0 8).toInt ≤ i.toInt := fun e => c1 (vv_ge.mpr e)
      have i1 : (i + 1).toInt = i.toInt + 1 := vp1 (by omega)
      have hi6 : 0 ≤ i.toInt ∧ i.toInt ≤ 6 := ⟨h0, by omega⟩
      have hci := tC_of h0
      have hcx := tC_of hx
      have hcB := tC_of sb.1
      obtain ⟨q1, q2, q3, q4, q5⟩ := sx i.toNatClampNeg (by omega)
      have hb := (buys_eq (nux := nux) (x := x) (u := u) (p := pr) hi6).2
      have hx52 : nux 52 x.toNatClampNeg = F_sm_besideOf num x := by
        rw [(sx x.toNatClampNeg (by omega)).2.1, ← nI_at hx]
      have hhas := near_and (b := F_sm_besideOf num x) (u := u) hi6
      rw [← ht] at hhas
      rw [hx52, q3, q1, sg] at hb
      have step : ∀ xi2 : Nat → Nat → Int32, fixM num xi2 → (0 ≤ (xi2 0 33).toInt ∧ (xi2 0 33).toInt ≤ c + 19608) → ckR (c + (7 - i.toInt) * 19608) xi2 (L_sm_routeOn1_34_0 pr t u n (i + 1) xi2) (L_sx_comesFrom0_21_0 nux pr u x n (i + 1)) ∧ fixM num (L_sm_routeOn1_34_0 pr t u n (i + 1) xi2) := fun xi2 g2 g3 => by
        have m8 : xi2 0 8 = num 0 8 := g2.2.1 8 (by omega)
        have mb : F_sm_besideOf xi2 x = F_sm_besideOf num x := bes_congr (g2.1 9 (by decide) (by decide) (by decide) (by decide)) (g2.2.1 11 (by omega)) (g2.2.1 13 (by omega)) 15 0 0
        have z := ih (i + 1) (c + 19608) xi2 (by omega) (stR_of hS fixX_rf g2) (by rw [g2.2.1 39 (by omega)]; exact h39) g3 (by rw [m8]; exact hxB) (by rw [mb]; exact ht) (by omega) (by omega) (by omega)
        exact ⟨ckR_le z (by omega), fixM_tr g2 z.1⟩
      have same : ∀ xi2 : Nat → Nat → Int32, fixM num xi2 → xi2 0 33 = num 0 33 → ckR (c + (7 - i.toInt) * 19608) num (L_sm_routeOn1_34_0 pr t u n (i + 1) xi2) (L_sx_comesFrom0_21_0 nux pr u x n (i + 1)) := fun xi2 g2 g3 => by
        obtain ⟨⟨_, z2, z3⟩, z4⟩ := step xi2 g2 (by rw [g3]; omega)
        rw [g3] at z3
        exact ⟨z4, z2, z3⟩
      have more : ∀ xi2 : Nat → Nat → Int32, fixM num xi2 → (num 0 33).toInt < (xi2 0 33).toInt → (xi2 0 33).toInt ≤ c + 19608 → ckR (c + (7 - i.toInt) * 19608) num (L_sm_routeOn1_34_0 pr t u n (i + 1) xi2) 1 := fun xi2 g2 g3 g4 => by
        obtain ⟨⟨_, z2, z3⟩, z4⟩ := step xi2 g2 ⟨by omega, g4⟩
        refine ⟨z4, z2, Or.inr ⟨rfl, ?_⟩⟩
        rcases z3 with ⟨_, e⟩ | ⟨_, e⟩
        · rw [e]; exact g3
        · omega
      obtain ⟨r6, e6, ex⟩ := letv_out ex
      by_cases cb : r6 = (0 : Int32)
      · rw [if_pos cb] at ex
        obtain ⟨w, ew, ex⟩ := letv_out ex
        rw [← ew] at ex
        rw [ex]
        by_cases ch : F_sm_has t i = 1
        · rw [if_pos ch] at em
          obtain ⟨y18, e18, em⟩ := letv_out em
          rw [← e18, if_neg spc] at em
          obtain ⟨y65, e65, em⟩ := letv_out em
          rw [← e65] at em
          by_cases cp : num 8 i.toNatClampNeg < pr
          · rw [if_pos cp] at em
            obtain ⟨w, ew, em⟩ := letv_out em
            rw [em, ← ew]
            exact same num fixM_rf rfl
          · rw [if_neg cp] at em
            have cp' : ¬ (num 8 i.toNatClampNeg).toInt < pr.toInt := fun e => cp (vv_lt.mpr e)
            obtain ⟨n71, e71, em⟩ := letv_out em
            have f71 : fixM num n71 := ⟨fun k _ k2 _ _ => uw_k e71 k k2, fun f _ => by rw [uw_k e71 0 (by decide)], uw_f e71 0 (by decide)⟩
            have a0 : n71 0 = num 0 := uw_k e71 0 (by decide)
            have a7 : n71 7 = num 7 := uw_k e71 7 (by decide)
            obtain ⟨y79, e79, em⟩ := letv_out em
            rw [← e79, a0] at em
            by_cases cg : i = num 0 29
            · exact absurd (e6.trans cb) (hb.mpr ⟨(hhas.mp ch).1, (hhas.mp ch).2, by omega, Or.inl cg⟩)
            · rw [if_neg cg] at em
              obtain ⟨y81, e81, em⟩ := letv_out em
              rw [← e81, a7] at em
              by_cases ck : num 7 i.toNatClampNeg = 3
              · rw [if_pos ck] at em
                obtain ⟨w, ew, em⟩ := letv_out em
                rw [em, ← ew]
                exact same n71 f71 (by rw [a0])
              · exact absurd (e6.trans cb) (hb.mpr ⟨(hhas.mp ch).1, (hhas.mp ch).2, by omega, Or.inr ck⟩)
        · rw [if_neg ch] at em
          obtain ⟨w, ew, em⟩ := letv_out em
          rw [em, ← ew]
          exact same num fixM_rf rfl
      · rw [if_neg cb] at ex
        obtain ⟨b1, b2, b3, b4⟩ := hb.mp (fun e => cb (e6.symm.trans e))
        rw [if_pos (hhas.mpr ⟨b1, b2⟩)] at em
        obtain ⟨y18, e18, em⟩ := letv_out em
        rw [← e18, if_neg spc] at em
        obtain ⟨y65, e65, em⟩ := letv_out em
        rw [← e65, if_neg (fun e => by have := vv_lt.mp e; omega)] at em
        obtain ⟨n71, e71, em⟩ := letv_out em
        have f71 : fixM num n71 := ⟨fun k _ k2 _ _ => uw_k e71 k k2, fun f _ => by rw [uw_k e71 0 (by decide)], uw_f e71 0 (by decide)⟩
        have a0 : n71 0 = num 0 := uw_k e71 0 (by decide)
        have a7 : n71 7 = num 7 := uw_k e71 7 (by decide)
        have hS2 := stR_of hS fixX_rf f71
        have h39' : ¬ n71 0 39 = -9 := by rw [a0]; exact h39
        obtain ⟨y11, e11, ex⟩ := letv_out ex
        rw [← e11, sg] at ex
        obtain ⟨y79, e79, em⟩ := letv_out em
        rw [← e79, a0] at em
        by_cases cg : i = num 0 29
        · rw [if_pos cg] at ex em
          obtain ⟨r14, e14, ex⟩ := letv_out ex
          obtain ⟨y15, e15, ex⟩ := letv_out ex
          obtain ⟨y101, e101, em⟩ := letv_out em
          obtain ⟨t102, e102, em⟩ := letv_out em
          obtain ⟨t103, e103, em⟩ := letv_out em
          obtain ⟨t104, e104, em⟩ := letv_out em
          obtain ⟨x108, e108, em⟩ := letv_out em
          obtain ⟨_, _, em⟩ := letv_out em
          obtain ⟨_, _, em⟩ := letv_out em
          obtain ⟨_, _, em⟩ := letv_out em
          obtain ⟨w2, ew2, em⟩ := letv_out em
          rw [em, ← ew2]
          obtain ⟨z1, z2⟩ := arrM hT hS2 h39' (s := 1) (n := 2) (q := t104) (p := pr) (by decide) (by decide) ⟨hpr, by omega⟩ e108.symm
          have z33 : n71 0 33 = num 0 33 := by rw [a0]
          rw [e14, e15, z33] at z2
          rcases z2 with ⟨g, e⟩ | ⟨g, e⟩
          · rw [if_neg (fun h => by have := vv_gt.mp h; have := vv_le.mp g; omega)] at ex
            rw [ex]
            have ii := (inc_of h33.1 h33.2 (by omega)).1
            exact more x108 (fixM_tr f71 z1) (by rw [e, ii]; omega) (by rw [e, ii]; omega)
          · rw [if_pos (vv_gt.mpr (by have : ¬ r14.toInt ≤ y15.toInt := fun h => g (vv_le.mpr h); omega))] at ex
            obtain ⟨w, ew, ex⟩ := letv_out ex
            rw [ex, ← ew]
            exact same x108 (fixM_tr f71 z1) e
        · rw [if_neg cg] at ex em
          have ck : ¬ num 7 i.toNatClampNeg = 3 := b4.resolve_left cg
          obtain ⟨y81, e81, em⟩ := letv_out em
          rw [← e81, a7, if_neg ck] at em
          obtain ⟨t9, e9', ex⟩ := letv_out ex
          obtain ⟨t10, e10', ex⟩ := letv_out ex
          obtain ⟨r11, e11', ex⟩ := letv_out ex
          obtain ⟨t87, e87, em⟩ := letv_out em
          obtain ⟨t88, e88, em⟩ := letv_out em
          obtain ⟨x92, e92, em⟩ := letv_out em
          obtain ⟨_, _, em⟩ := letv_out em
          obtain ⟨_, _, em⟩ := letv_out em
          obtain ⟨_, _, em⟩ := letv_out em
          obtain ⟨w2, ew2, em⟩ := letv_out em
          rw [em, ← ew2]
          have v71 : n71 16 1 = i := uw_v e71
          have tt : t88 = t10 := by rw [← e88, ← e10', ← e87, ← e9']
          rw [tt] at e92
          have z := ck1 (c := c) (x := i) (u := t10) (p := pr) hT (by omega) hS2 h39' (by rw [a0]; exact h33) v71.symm (by rw [a0]; omega) ⟨hpr, by omega⟩ (by rw [← e10', ← e9']; exact bits_or hu hi6)
          rw [e11', e92] at z
          obtain ⟨z1, z2, z3⟩ := z
          have z33 : n71 0 33 = num 0 33 := by rw [a0]
          rw [z33] at z3
          rcases z3 with ⟨g, e⟩ | ⟨g, e⟩
          · rw [if_pos g] at ex
            obtain ⟨w, ew, ex⟩ := letv_out ex
            rw [ex, ← ew]
            exact same x92 (fixM_tr f71 z1) e
          · rw [if_neg (fun h => by rw [h] at g; exact absurd g (by decide))] at ex
            rw [ex]
            exact more x92 (fixM_tr f71 z1) e (by omega)
theorem ck0 {T c : Int} {nux num : Nat → Nat → Int32} {x u p : Int32} (hT : T ≤ 1000000) (hc : c + 137256 ≤ 900000) (hS : stR T nux num) (h39 : ¬ num 0 39 = -9) (h33 : 0 ≤ (num 0 33).toInt ∧ (num 0 33).toInt ≤ c) (hy : x = num 16 0) (hr : 0 ≤ x.toInt ∧ x.toInt < (num 0 8).toInt) (hp : 0 ≤ p.toInt ∧ p.toInt ≤ T) (hu : ∀ j : Nat, j < 32 → bt u j = true → j < 7) : ckR (c + 137256) num (F_sm_routeOn1 num u p) (F_sx_comesFrom0 nux x u p) := by
  have hcx := tC_of hr.1
  have hcB := tC_of hS.2.1.1
  have k1 := (hS.2.2.1 x.toNatClampNeg (by omega)).1
  have hpr : 0 ≤ (F_sm_asksOf num x p).toInt := by
    rw [← ask_eq k1]
    exact ask_rng ⟨hp.1, by omega⟩
  have z : (0 : Int32).toInt = 0 := rfl
  have hl := cl0 (nux := nux) hT hpr hu hr.1 10 0 c num (by rw [z]; omega) hS h39 h33 hr.2 rfl (by decide) (by decide) (by decide)
  have ex : F_sx_comesFrom0 nux x u p = L_sx_comesFrom0_21_0 nux (F_sm_asksOf num x p) u x 10 0 := by
    rw [← ask_eq k1]
    unfold F_sx_comesFrom0
    rw [letv_eq, letv_eq]
  have em : F_sm_routeOn1 num u p = L_sm_routeOn1_34_0 (F_sm_asksOf num x p) (F_sm_besideOf num x &&& (u ^^^ (-1))) u 10 0 num := by
    rw [hy]
    unfold F_sm_routeOn1
    rw [letv_eq, letv_eq, letv_eq, letv_eq, letv_eq, letv_eq, letv_eq, letv_eq]
    rfl
  rw [ex, em]
  exact ckR_le hl (by rw [z]; omega)

