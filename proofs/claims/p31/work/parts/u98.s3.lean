-- ===== why: the walks without purses =====
theorem rk6 {c : Int} {m0 num : Nat → Nat → Int32} {S : Nat → Nat → Prop} {fr : Nat} {u p : Int32} (hS : famS m0 fr S) (h38 : m0 0 38 = 0) (hb : 0 ≤ (m0 0 8).toInt ∧ (m0 0 8).toInt ≤ 7) (hg : 0 ≤ (m0 0 29).toInt) (hF : fixM m0 num) (hc : c + 0 ≤ 900000) (h30 : 0 ≤ (num 0 30).toInt ∧ (num 0 30).toInt ≤ c) (hx : 0 ≤ (num 16 6).toInt ∧ (num 16 6).toInt < (m0 0 8).toInt) : wyR (c + 0) num (F_sm_routeOn7 num u p) ∧ ((num 0 30).toInt < (F_sm_routeOn7 num u p 0 30).toInt → S 6 (num 16 6).toNatClampNeg → ((num 16 6).toNatClampNeg = fr ∨ ¬ m0 7 (num 16 6).toNatClampNeg = 3) → ∃ r : Nat, r ≤ 7 ∧ S r (m0 0 29).toNatClampNeg) ∧ (∀ l : List Nat, okP m0 u (num 16 6).toNatClampNeg l → ¬ l = [] → l.length ≤ 0 → (num 0 30).toInt < (F_sm_routeOn7 num u p 0 30).toInt) := by
  rw [rk7m]
  exact ⟨⟨fixM_rf, Int.le_refl _, by omega⟩, fun h => absurd h (Int.lt_irrefl _), fun l _ hne hl => absurd (List.length_eq_zero_iff.mp (Nat.le_zero.mp hl)) hne⟩
theorem rl5 {m0 : Nat → Nat → Int32} {S : Nat → Nat → Prop} {fr : Nat} {u pr x t : Int32} (hS : famS m0 fr S) (h38 : m0 0 38 = 0) (hb : 0 ≤ (m0 0 8).toInt ∧ (m0 0 8).toInt ≤ 7) (hg : 0 ≤ (m0 0 29).toInt) (hx : 0 ≤ x.toInt ∧ x.toInt < (m0 0 8).toInt) (ht : t = F_sm_besideOf m0 x &&& (u ^^^ (-1))) : ∀ (n : Nat) (i : Int32) (c : Int) (num : Nat → Nat → Int32), c + (7 - i.toInt) * 1 ≤ 900000 → fixM m0 num → (0 ≤ (num 0 30).toInt ∧ (num 0 30).toInt ≤ c) → 0 ≤ i.toInt → i.toInt ≤ 7 → (7 - i.toInt).toNat < n → wyR (c + (7 - i.toInt) * 1) num (L_sm_routeOn6_34_0 pr t u n i num) ∧ ((num 0 30).toInt < (L_sm_routeOn6_34_0 pr t u n i num 0 30).toInt → S 5 x.toNatClampNeg → (x.toNatClampNeg = fr ∨ ¬ m0 7 x.toNatClampNeg = 3) → ∃ r : Nat, r ≤ 7 ∧ S r (m0 0 29).toNatClampNeg) ∧ (∀ (v : Nat) (r : List Nat), i.toInt ≤ (v : Int) → okP m0 u x.toNatClampNeg (v :: r) → r.length ≤ 0 → (num 0 30).toInt < (L_sm_routeOn6_34_0 pr t u n i num 0 30).toInt) := by
  intro n
  induction n with
  | zero => intro i c num _ _ _ _ _ hn; exact absurd hn (Nat.not_lt_zero _)
  | succ n ih =>
    intro i c num hc hF h30 h0 h7 hn
    obtain ⟨zm, em⟩ : ∃ z, z = L_sm_routeOn6_34_0 pr t u (n + 1) i num := ⟨_, rfl⟩
    rw [← em]
    unfold L_sm_routeOn6_34_0 at em
    obtain ⟨y9, e9, em⟩ := letv_out em
    obtain ⟨y10, e10, em⟩ := letv_out em
    obtain ⟨y11, e11, em⟩ := letv_out em
    obtain ⟨y12, e12, em⟩ := letv_out em
    have m8 : num 0 8 = m0 0 8 := hF.2.1 8 (by omega)
    have m38 : num 0 38 = 0 := (hF.2.1 38 (by omega)).trans h38
    have m29 : num 0 29 = m0 0 29 := hF.2.1 29 (by omega)
    have m7 : num 7 = m0 7 := hF.1 7 (by decide) (by decide) (by decide) (by decide)
    rw [← e12, m8] at em
    by_cases c1 : i ≥ m0 0 8
    · have c1' := vv_ge.mp c1
      rw [if_pos c1] at em
      rw [em]
      refine ⟨⟨fixM_rf, Int.le_refl _, by omega⟩, fun h => absurd h (Int.lt_irrefl _), fun v r hv hp _ => ?_⟩
      have := (okP_one hp).2.1
      omega
    · rw [if_neg c1] at em
      have c1' : ¬ (m0 0 8).toInt ≤ i.toInt := fun e => c1 (vv_ge.mpr e)
      have i1 : (i + 1).toInt = i.toInt + 1 := vp1 (by omega)
      have hi6 : 0 ≤ i.toInt ∧ i.toInt ≤ 6 := ⟨h0, by omega⟩
      have hci := tC_of h0
      have hcx := tC_of hx.1
      have hhas := near_and (b := F_sm_besideOf m0 x) (u := u) hi6
      rw [← ht] at hhas
      have hadj : adj m0 x.toNatClampNeg i.toNatClampNeg ↔ bt (F_sm_besideOf m0 x) i.toNatClampNeg = true := by
        unfold adj
        rw [← nI_at hx.1]
      have step : ∀ xi2 : Nat → Nat → Int32, fixM num xi2 → (num 0 30).toInt ≤ (xi2 0 30).toInt → (xi2 0 30).toInt ≤ c + 1 → (S 5 x.toNatClampNeg → (x.toNatClampNeg = fr ∨ ¬ m0 7 x.toNatClampNeg = 3) → (num 0 30).toInt < (xi2 0 30).toInt → ∃ r : Nat, r ≤ 7 ∧ S r (m0 0 29).toNatClampNeg) → (∀ r : List Nat, okP m0 u x.toNatClampNeg (i.toNatClampNeg :: r) → r.length ≤ 0 → (num 0 30).toInt < (xi2 0 30).toInt) → wyR (c + (7 - i.toInt) * 1) num (L_sm_routeOn6_34_0 pr t u n (i + 1) xi2) ∧ ((num 0 30).toInt < (L_sm_routeOn6_34_0 pr t u n (i + 1) xi2 0 30).toInt → S 5 x.toNatClampNeg → (x.toNatClampNeg = fr ∨ ¬ m0 7 x.toNatClampNeg = 3) → ∃ r : Nat, r ≤ 7 ∧ S r (m0 0 29).toNatClampNeg) ∧ (∀ (v : Nat) (r : List Nat), i.toInt ≤ (v : Int) → okP m0 u x.toNatClampNeg (v :: r) → r.length ≤ 0 → (num 0 30).toInt < (L_sm_routeOn6_34_0 pr t u n (i + 1) xi2 0 30).toInt) := fun xi2 g1 g2 g3 g4 g5 => by
        obtain ⟨⟨z1, z2, z3⟩, z4, z5⟩ := ih (i + 1) (c + 1) xi2 (by omega) (fixM_tr hF g1) ⟨by omega, g3⟩ (by omega) (by omega) (by omega)
        refine ⟨⟨fixM_tr g1 z1, by omega, by omega⟩, fun hi hs hp => ?_, fun v r hv hp hl => ?_⟩
        · by_cases ci : (num 0 30).toInt < (xi2 0 30).toInt
          · exact g4 hs hp ci
          · exact z4 (by omega) hs hp
        · by_cases cv : v = i.toNatClampNeg
          · rw [cv] at hp
            have := g5 r hp hl
            omega
          · have := z5 v r (by omega) hp hl
            omega
      by_cases ch : F_sm_has t i = 1
      · rw [if_pos ch] at em
        obtain ⟨y18, e18, em⟩ := letv_out em
        rw [← e18, m38, if_pos rfl] at em
        obtain ⟨n20, e20, em⟩ := letv_out em
        have f20 : fixM num n20 := ⟨fun k _ k2 _ _ => uw_k e20 k k2, fun f _ => by rw [uw_k e20 0 (by decide)], uw_f e20 0 (by decide)⟩
        have a0 : n20 0 = num 0 := uw_k e20 0 (by decide)
        have a7 : n20 7 = num 7 := uw_k e20 7 (by decide)
        have z30 : n20 0 30 = num 0 30 := by rw [a0]
        obtain ⟨y27, e27, em⟩ := letv_out em
        rw [← e27, a0, m29] at em
        have hS1 : S 5 x.toNatClampNeg → (x.toNatClampNeg = fr ∨ ¬ m0 7 x.toNatClampNeg = 3) → S 6 i.toNatClampNeg := fun hs hp => hS 5 x.toNatClampNeg i.toNatClampNeg (by decide) (by omega) (by omega) hs hp (hadj.mpr (hhas.mp ch).1)
        by_cases cg : i = m0 0 29
        · rw [if_pos cg] at em
          obtain ⟨y49, e49, em⟩ := letv_out em
          obtain ⟨t50, e50, em⟩ := letv_out em
          obtain ⟨t51, e51, em⟩ := letv_out em
          obtain ⟨t52, e52, em⟩ := letv_out em
          obtain ⟨x56, e56, em⟩ := letv_out em
          obtain ⟨_, _, em⟩ := letv_out em
          obtain ⟨_, _, em⟩ := letv_out em
          obtain ⟨_, _, em⟩ := letv_out em
          obtain ⟨w2, ew2, em⟩ := letv_out em
          rw [em, ← ew2]
          obtain ⟨z1, z2⟩ := meet30 e56.symm
          rw [z30] at z2
          have ii := (inc_of h30.1 h30.2 (by omega)).1
          refine step x56 (fixM_tr f20 z1) (by rw [z2, ii]; omega) (by rw [z2, ii]; omega) (fun hs hp _ => ⟨6, by decide, ?_⟩) (fun _ _ _ => by rw [z2, ii]; omega)
          have k := hS1 hs hp
          rw [cg] at k
          exact k
        · rw [if_neg cg] at em
          obtain ⟨y29, e29, em⟩ := letv_out em
          rw [← e29, a7, m7] at em
          have hcg := tC_of hg
          have gv : ¬ i.toNatClampNeg = (m0 0 29).toNatClampNeg := fun e => cg (Int32.toInt_inj.mp (by omega))
          by_cases ck : m0 7 i.toNatClampNeg = 3
          · rw [if_pos ck] at em
            obtain ⟨w2, ew2, em⟩ := letv_out em
            rw [em, ← ew2]
            refine step n20 f20 (by rw [z30]; omega) (by rw [z30]; omega) (fun _ _ h => absurd h (by rw [z30]; exact Int.lt_irrefl _)) (fun r hp _ => ?_)
            rcases (okP_one hp).2.2.2 with ⟨_, e⟩ | ⟨_, _, e⟩
            · exact absurd e gv
            · exact absurd ck e
          · rw [if_neg ck] at em
            obtain ⟨t35, e35, em⟩ := letv_out em
            obtain ⟨t36, e36, em⟩ := letv_out em
            obtain ⟨x40, e40, em⟩ := letv_out em
            obtain ⟨_, _, em⟩ := letv_out em
            obtain ⟨_, _, em⟩ := letv_out em
            obtain ⟨_, _, em⟩ := letv_out em
            obtain ⟨w2, ew2, em⟩ := letv_out em
            rw [em, ← ew2]
            have v20 : n20 16 6 = i := uw_v e20
            have z := rk6 (c := c) (num := n20) (u := t36) (p := pr) hS h38 hb hg (fixM_tr hF f20) (by omega) (by rw [z30]; exact h30) (by rw [v20]; omega)
            rw [e40, v20] at z
            obtain ⟨⟨z1, z2, z3⟩, z4, z5⟩ := z
            rw [z30] at z2 z4 z5
            refine step x40 (fixM_tr f20 z1) z2 (by omega) (fun hs hp hi => z4 hi (hS1 hs hp) (Or.inr ck)) (fun r hp hl => ?_)
            rcases (okP_one hp).2.2.2 with ⟨_, e⟩ | ⟨hr, _, _⟩
            · exact absurd e gv
            · exact z5 r (by rw [← e36, ← e35]; exact okP_tail hi6 rfl hp hr) hr hl
      · rw [if_neg ch] at em
        obtain ⟨w2, ew2, em⟩ := letv_out em
        rw [em, ← ew2]
        refine step num fixM_rf (Int.le_refl _) (by omega) (fun _ _ h => absurd h (Int.lt_irrefl _)) (fun r hp _ => ?_)
        have k := okP_one hp
        exact absurd (hhas.mpr ⟨hadj.mp k.1, k.2.2.1⟩) ch
theorem rk5 {c : Int} {m0 num : Nat → Nat → Int32} {S : Nat → Nat → Prop} {fr : Nat} {u p : Int32} (hS : famS m0 fr S) (h38 : m0 0 38 = 0) (hb : 0 ≤ (m0 0 8).toInt ∧ (m0 0 8).toInt ≤ 7) (hg : 0 ≤ (m0 0 29).toInt) (hF : fixM m0 num) (hc : c + 7 ≤ 900000) (h30 : 0 ≤ (num 0 30).toInt ∧ (num 0 30).toInt ≤ c) (hx : 0 ≤ (num 16 5).toInt ∧ (num 16 5).toInt < (m0 0 8).toInt) : wyR (c + 7) num (F_sm_routeOn6 num u p) ∧ ((num 0 30).toInt < (F_sm_routeOn6 num u p 0 30).toInt → S 5 (num 16 5).toNatClampNeg → ((num 16 5).toNatClampNeg = fr ∨ ¬ m0 7 (num 16 5).toNatClampNeg = 3) → ∃ r : Nat, r ≤ 7 ∧ S r (m0 0 29).toNatClampNeg) ∧ (∀ l : List Nat, okP m0 u (num 16 5).toNatClampNeg l → ¬ l = [] → l.length ≤ 1 → (num 0 30).toInt < (F_sm_routeOn6 num u p 0 30).toInt) := by
  have z : (0 : Int32).toInt = 0 := rfl
  have mb : F_sm_besideOf num (num 16 5) = F_sm_besideOf m0 (num 16 5) := bes_congr (hF.1 9 (by decide) (by decide) (by decide) (by decide)) (hF.2.1 11 (by omega)) (hF.2.1 13 (by omega)) 15 0 0
  obtain ⟨q1, q2, q3⟩ := rl5 (pr := F_sm_asksOf num (num 16 5) p) (t := F_sm_besideOf num (num 16 5) &&& (u ^^^ (-1))) (u := u) hS h38 hb hg hx (by rw [mb]) 10 0 c num (by rw [z]; omega) hF h30 (by decide) (by decide) (by decide)
  have em : F_sm_routeOn6 num u p = L_sm_routeOn6_34_0 (F_sm_asksOf num (num 16 5) p) (F_sm_besideOf num (num 16 5) &&& (u ^^^ (-1))) u 10 0 num := by
    unfold F_sm_routeOn6
    rw [letv_eq, letv_eq, letv_eq, letv_eq, letv_eq, letv_eq, letv_eq, letv_eq]
    rfl
  rw [em]
  refine ⟨⟨q1.1, q1.2.1, by have := q1.2.2; rw [z] at this; omega⟩, q2, fun l hp hne hl => ?_⟩
  match l, hp, hne, hl with
  | [], _, hne, _ => exact absurd rfl hne
  | v :: r, hp, _, hl =>
    have hl' : r.length + 1 ≤ 1 := hl
    exact q3 v r (by rw [z]; omega) hp (by omega)
theorem rl4 {m0 : Nat → Nat → Int32} {S : Nat → Nat → Prop} {fr : Nat} {u pr x t : Int32} (hS : famS m0 fr S) (h38 : m0 0 38 = 0) (hb : 0 ≤ (m0 0 8).toInt ∧ (m0 0 8).toInt ≤ 7) (hg : 0 ≤ (m0 0 29).toInt) (hx : 0 ≤ x.toInt ∧ x.toInt < (m0 0 8).toInt) (ht : t = F_sm_besideOf m0 x &&& (u ^^^ (-1))) : ∀ (n : Nat) (i : Int32) (c : Int) (num : Nat → Nat → Int32), c + (7 - i.toInt) * 8 ≤ 900000 → fixM m0 num → (0 ≤ (num 0 30).toInt ∧ (num 0 30).toInt ≤ c) → 0 ≤ i.toInt → i.toInt ≤ 7 → (7 - i.toInt).toNat < n → wyR (c + (7 - i.toInt) * 8) num (L_sm_routeOn5_34_0 pr t u n i num) ∧ ((num 0 30).toInt < (L_sm_routeOn5_34_0 pr t u n i num 0 30).toInt → S 4 x.toNatClampNeg → (x.toNatClampNeg = fr ∨ ¬ m0 7 x.toNatClampNeg = 3) → ∃ r : Nat, r ≤ 7 ∧ S r (m0 0 29).toNatClampNeg) ∧ (∀ (v : Nat) (r : List Nat), i.toInt ≤ (v : Int) → okP m0 u x.toNatClampNeg (v :: r) → r.length ≤ 1 → (num 0 30).toInt < (L_sm_routeOn5_34_0 pr t u n i num 0 30).toInt) := by
  intro n
  induction n with
  | zero => intro i c num _ _ _ _ _ hn; exact absurd hn (Nat.not_lt_zero _)
  | succ n ih =>
    intro i c num hc hF h30 h0 h7 hn
    obtain ⟨zm, em⟩ : ∃ z, z = L_sm_routeOn5_34_0 pr t u (n + 1) i num := ⟨_, rfl⟩
    rw [← em]
    unfold L_sm_routeOn5_34_0 at em
    obtain ⟨y9, e9, em⟩ := letv_out em
    obtain ⟨y10, e10, em⟩ := letv_out em
    obtain ⟨y11, e11, em⟩ := letv_out em
    obtain ⟨y12, e12, em⟩ := letv_out em
    have m8 : num 0 8 = m0 0 8 := hF.2.1 8 (by omega)
    have m38 : num 0 38 = 0 := (hF.2.1 38 (by omega)).trans h38
    have m29 : num 0 29 = m0 0 29 := hF.2.1 29 (by omega)
    have m7 : num 7 = m0 7 := hF.1 7 (by decide) (by decide) (by decide) (by decide)
    rw [← e12, m8] at em
    by_cases c1 : i ≥ m0 0 8
    · have c1' := vv_ge.mp c1
      rw [if_pos c1] at em
      rw [em]
      refine ⟨⟨fixM_rf, Int.le_refl _, by omega⟩, fun h => absurd h (Int.lt_irrefl _), fun v r hv hp _ => ?_⟩
      have := (okP_one hp).2.1
      omega
    · rw [if_neg c1] at em
      have c1' : ¬ (m0 0 8).toInt ≤ i.toInt := fun e => c1 (vv_ge.mpr e)
      have i1 : (i + 1).toInt = i.toInt + 1 := vp1 (by omega)
      have hi6 : 0 ≤ i.toInt ∧ i.toInt ≤ 6 := ⟨h0, by omega⟩
      have hci := tC_of h0
      have hcx := tC_of hx.1
      have hhas := near_and (b := F_sm_besideOf m0 x) (u := u) hi6
      rw [← ht] at hhas
      have hadj : adj m0 x.toNatClampNeg i.toNatClampNeg ↔ bt (F_sm_besideOf m0 x) i.toNatClampNeg = true := by
        unfold adj
        rw [← nI_at hx.1]
      have step : ∀ xi2 : Nat → Nat → Int32, fixM num xi2 → (num 0 30).toInt ≤ (xi2 0 30).toInt → (xi2 0 30).toInt ≤ c + 8 → (S 4 x.toNatClampNeg → (x.toNatClampNeg = fr ∨ ¬ m0 7 x.toNatClampNeg = 3) → (num 0 30).toInt < (xi2 0 30).toInt → ∃ r : Nat, r ≤ 7 ∧ S r (m0 0 29).toNatClampNeg) → (∀ r : List Nat, okP m0 u x.toNatClampNeg (i.toNatClampNeg :: r) → r.length ≤ 1 → (num 0 30).toInt < (xi2 0 30).toInt) → wyR (c + (7 - i.toInt) * 8) num (L_sm_routeOn5_34_0 pr t u n (i + 1) xi2) ∧ ((num 0 30).toInt < (L_sm_routeOn5_34_0 pr t u n (i + 1) xi2 0 30).toInt → S 4 x.toNatClampNeg → (x.toNatClampNeg = fr ∨ ¬ m0 7 x.toNatClampNeg = 3) → ∃ r : Nat, r ≤ 7 ∧ S r (m0 0 29).toNatClampNeg) ∧ (∀ (v : Nat) (r : List Nat), i.toInt ≤ (v : Int) → okP m0 u x.toNatClampNeg (v :: r) → r.length ≤ 1 → (num 0 30).toInt < (L_sm_routeOn5_34_0 pr t u n (i + 1) xi2 0 30).toInt) := fun xi2 g1 g2 g3 g4 g5 => by
        obtain ⟨⟨z1, z2, z3⟩, z4, z5⟩ := ih (i + 1) (c + 8) xi2 (by omega) (fixM_tr hF g1) ⟨by omega, g3⟩ (by omega) (by omega) (by omega)
        refine ⟨⟨fixM_tr g1 z1, by omega, by omega⟩, fun hi hs hp => ?_, fun v r hv hp hl => ?_⟩
        · by_cases ci : (num 0 30).toInt < (xi2 0 30).toInt
          · exact g4 hs hp ci
          · exact z4 (by omega) hs hp
        · by_cases cv : v = i.toNatClampNeg
          · rw [cv] at hp
            have := g5 r hp hl
            omega
          · have := z5 v r (by omega) hp hl
            omega
      by_cases ch : F_sm_has t i = 1
      · rw [if_pos ch] at em
        obtain ⟨y18, e18, em⟩ := letv_out em
        rw [← e18, m38, if_pos rfl] at em
        obtain ⟨n20, e20, em⟩ := letv_out em
        have f20 : fixM num n20 := ⟨fun k _ k2 _ _ => uw_k e20 k k2, fun f _ => by rw [uw_k e20 0 (by decide)], uw_f e20 0 (by decide)⟩
        have a0 : n20 0 = num 0 := uw_k e20 0 (by decide)
        have a7 : n20 7 = num 7 := uw_k e20 7 (by decide)
        have z30 : n20 0 30 = num 0 30 := by rw [a0]
        obtain ⟨y27, e27, em⟩ := letv_out em
        rw [← e27, a0, m29] at em
        have hS1 : S 4 x.toNatClampNeg → (x.toNatClampNeg = fr ∨ ¬ m0 7 x.toNatClampNeg = 3) → S 5 i.toNatClampNeg := fun hs hp => hS 4 x.toNatClampNeg i.toNatClampNeg (by decide) (by omega) (by omega) hs hp (hadj.mpr (hhas.mp ch).1)
        by_cases cg : i = m0 0 29
        · rw [if_pos cg] at em
          obtain ⟨y49, e49, em⟩ := letv_out em
          obtain ⟨t50, e50, em⟩ := letv_out em
          obtain ⟨t51, e51, em⟩ := letv_out em
          obtain ⟨t52, e52, em⟩ := letv_out em
          obtain ⟨x56, e56, em⟩ := letv_out em
          obtain ⟨_, _, em⟩ := letv_out em
          obtain ⟨_, _, em⟩ := letv_out em
          obtain ⟨_, _, em⟩ := letv_out em
          obtain ⟨w2, ew2, em⟩ := letv_out em
          rw [em, ← ew2]
          obtain ⟨z1, z2⟩ := meet30 e56.symm
          rw [z30] at z2
          have ii := (inc_of h30.1 h30.2 (by omega)).1
          refine step x56 (fixM_tr f20 z1) (by rw [z2, ii]; omega) (by rw [z2, ii]; omega) (fun hs hp _ => ⟨5, by decide, ?_⟩) (fun _ _ _ => by rw [z2, ii]; omega)
          have k := hS1 hs hp
          rw [cg] at k
          exact k
        · rw [if_neg cg] at em
          obtain ⟨y29, e29, em⟩ := letv_out em
          rw [← e29, a7, m7] at em
          have hcg := tC_of hg
          have gv : ¬ i.toNatClampNeg = (m0 0 29).toNatClampNeg := fun e => cg (Int32.toInt_inj.mp (by omega))
          by_cases ck : m0 7 i.toNatClampNeg = 3
          · rw [if_pos ck] at em
            obtain ⟨w2, ew2, em⟩ := letv_out em
            rw [em, ← ew2]
            refine step n20 f20 (by rw [z30]; omega) (by rw [z30]; omega) (fun _ _ h => absurd h (by rw [z30]; exact Int.lt_irrefl _)) (fun r hp _ => ?_)
            rcases (okP_one hp).2.2.2 with ⟨_, e⟩ | ⟨_, _, e⟩
            · exact absurd e gv
            · exact absurd ck e
          · rw [if_neg ck] at em
            obtain ⟨t35, e35, em⟩ := letv_out em
            obtain ⟨t36, e36, em⟩ := letv_out em
            obtain ⟨x40, e40, em⟩ := letv_out em
            obtain ⟨_, _, em⟩ := letv_out em
            obtain ⟨_, _, em⟩ := letv_out em
            obtain ⟨_, _, em⟩ := letv_out em
            obtain ⟨w2, ew2, em⟩ := letv_out em
            rw [em, ← ew2]
            have v20 : n20 16 5 = i := uw_v e20
            have z := rk5 (c := c) (num := n20) (u := t36) (p := pr) hS h38 hb hg (fixM_tr hF f20) (by omega) (by rw [z30]; exact h30) (by rw [v20]; omega)
            rw [e40, v20] at z
            obtain ⟨⟨z1, z2, z3⟩, z4, z5⟩ := z
            rw [z30] at z2 z4 z5
            refine step x40 (fixM_tr f20 z1) z2 (by omega) (fun hs hp hi => z4 hi (hS1 hs hp) (Or.inr ck)) (fun r hp hl => ?_)
            rcases (okP_one hp).2.2.2 with ⟨_, e⟩ | ⟨hr, _, _⟩
            · exact absurd e gv
            · exact z5 r (by rw [← e36, ← e35]; exact okP_tail hi6 rfl hp hr) hr hl
      · rw [if_neg ch] at em
        obtain ⟨w2, ew2, em⟩ := letv_out em
        rw [em, ← ew2]
        refine step num fixM_rf (Int.le_refl _) (by omega) (fun _ _ h => absurd h (Int.lt_irrefl _)) (fun r hp _ => ?_)
        have k := okP_one hp
        exact absurd (hhas.mpr ⟨hadj.mp k.1, k.2.2.1⟩) ch
theorem rk4 {c : Int} {m0 num : Nat → Nat → Int32} {S : Nat → Nat → Prop} {fr : Nat} {u p : Int32} (hS : famS m0 fr S) (h38 : m0 0 38 = 0) (hb : 0 ≤ (m0 0 8).toInt ∧ (m0 0 8).toInt ≤ 7) (hg : 0 ≤ (m0 0 29).toInt) (hF : fixM m0 num) (hc : c + 56 ≤ 900000) (h30 : 0 ≤ (num 0 30).toInt ∧ (num 0 30).toInt ≤ c) (hx : 0 ≤ (num 16 4).toInt ∧ (num 16 4).toInt < (m0 0 8).toInt) : wyR (c + 56) num (F_sm_routeOn5 num u p) ∧ ((num 0 30).toInt < (F_sm_routeOn5 num u p 0 30).toInt → S 4 (num 16 4).toNatClampNeg → ((num 16 4).toNatClampNeg = fr ∨ ¬ m0 7 (num 16 4).toNatClampNeg = 3) → ∃ r : Nat, r ≤ 7 ∧ S r (m0 0 29).toNatClampNeg) ∧ (∀ l : List Nat, okP m0 u (num 16 4).toNatClampNeg l → ¬ l = [] → l.length ≤ 2 → (num 0 30).toInt < (F_sm_routeOn5 num u p 0 30).toInt) := by
  have z : (0 : Int32).toInt = 0 := rfl
  have mb : F_sm_besideOf num (num 16 4) = F_sm_besideOf m0 (num 16 4) := bes_congr (hF.1 9 (by decide) (by decide) (by decide) (by decide)) (hF.2.1 11 (by omega)) (hF.2.1 13 (by omega)) 15 0 0
  obtain ⟨q1, q2, q3⟩ := rl4 (pr := F_sm_asksOf num (num 16 4) p) (t := F_sm_besideOf num (num 16 4) &&& (u ^^^ (-1))) (u := u) hS h38 hb hg hx (by rw [mb]) 10 0 c num (by rw [z]; omega) hF h30 (by decide) (by decide) (by decide)
  have em : F_sm_routeOn5 num u p = L_sm_routeOn5_34_0 (F_sm_asksOf num (num 16 4) p) (F_sm_besideOf num (num 16 4) &&& (u ^^^ (-1))) u 10 0 num := by
    unfold F_sm_routeOn5
    rw [letv_eq, letv_eq, letv_eq, letv_eq, letv_eq, letv_eq, letv_eq, letv_eq]
    rfl
  rw [em]
  refine ⟨⟨q1.1, q1.2.1, by have := q1.2.2; rw [z] at this; omega⟩, q2, fun l hp hne hl => ?_⟩
  match l, hp, hne, hl with
  | [], _, hne, _ => exact absurd rfl hne
  | v :: r, hp, _, hl =>
    have hl' : r.length + 1 ≤ 2 := hl
    exact q3 v r (by rw [z]; omega) hp (by omega)
theorem rl3 {m0 : Nat → Nat → Int32} {S : Nat → Nat → Prop} {fr : Nat} {u pr x t : Int32} (hS : famS m0 fr S) (h38 : m0 0 38 = 0) (hb : 0 ≤ (m0 0 8).toInt ∧ (m0 0 8).toInt ≤ 7) (hg : 0 ≤ (m0 0 29).toInt) (hx : 0 ≤ x.toInt ∧ x.toInt < (m0 0 8).toInt) (ht : t = F_sm_besideOf m0 x &&& (u ^^^ (-1))) : ∀ (n : Nat) (i : Int32) (c : Int) (num : Nat → Nat → Int32), c + (7 - i.toInt) * 57 ≤ 900000 → fixM m0 num → (0 ≤ (num 0 30).toInt ∧ (num 0 30).toInt ≤ c) → 0 ≤ i.toInt → i.toInt ≤ 7 → (7 - i.toInt).toNat < n → wyR (c + (7 - i.toInt) * 57) num (L_sm_routeOn4_34_0 pr t u n i num) ∧ ((num 0 30).toInt < (L_sm_routeOn4_34_0 pr t u n i num 0 30).toInt → S 3 x.toNatClampNeg → (x.toNatClampNeg = fr ∨ ¬ m0 7 x.toNatClampNeg = 3) → ∃ r : Nat, r ≤ 7 ∧ S r (m0 0 29).toNatClampNeg) ∧ (∀ (v : Nat) (r : List Nat), i.toInt ≤ (v : Int) → okP m0 u x.toNatClampNeg (v :: r) → r.length ≤ 2 → (num 0 30).toInt < (L_sm_routeOn4_34_0 pr t u n i num 0 30).toInt) := by
  intro n
  induction n with
  | zero => intro i c num _ _ _ _ _ hn; exact absurd hn (Nat.not_lt_zero _)
  | succ n ih =>
    intro i c num hc hF h30 h0 h7 hn
    obtain ⟨zm, em⟩ : ∃ z, z = L_sm_routeOn4_34_0 pr t u (n + 1) i num := ⟨_, rfl⟩
    rw [← em]
    unfold L_sm_routeOn4_34_0 at em
    obtain ⟨y9, e9, em⟩ := letv_out em
    obtain ⟨y10, e10, em⟩ := letv_out em
    obtain ⟨y11, e11, em⟩ := letv_out em
    obtain ⟨y12, e12, em⟩ := letv_out em
    have m8 : num 0 8 = m0 0 8 := hF.2.1 8 (by omega)
    have m38 : num 0 38 = 0 := (hF.2.1 38 (by omega)).trans h38
    have m29 : num 0 29 = m0 0 29 := hF.2.1 29 (by omega)
    have m7 : num 7 = m0 7 := hF.1 7 (by decide) (by decide) (by decide) (by decide)
    rw [← e12, m8] at em
    by_cases c1 : i ≥ m0 0 8
    · have c1' := vv_ge.mp c1
      rw [if_pos c1] at em
      rw [em]
      refine ⟨⟨fixM_rf, Int.le_refl _, by omega⟩, fun h => absurd h (Int.lt_irrefl _), fun v r hv hp _ => ?_⟩
      have := (okP_one hp).2.1
      omega
    · rw [if_neg c1] at em
      have c1' : ¬ (m0 0 8).toInt ≤ i.toInt := fun e => c1 (vv_ge.mpr e)
      have i1 : (i + 1).toInt = i.toInt + 1 := vp1 (by omega)
      have hi6 : 0 ≤ i.toInt ∧ i.toInt ≤ 6 := ⟨h0, by omega⟩
      have hci := tC_of h0
      have hcx := tC_of hx.1
      have hhas := near_and (b := F_sm_besideOf m0 x) (u := u) hi6
      rw [← ht] at hhas
      have hadj : adj m0 x.toNatClampNeg i.toNatClampNeg ↔ bt (F_sm_besideOf m0 x) i.toNatClampNeg = true := by
        unfold adj
        rw [← nI_at hx.1]
      have step : ∀ xi2 : Nat → Nat → Int32, fixM num xi2 → (num 0 30).toInt ≤ (xi2 0 30).toInt → (xi2 0 30).toInt ≤ c + 57 → (S 3 x.toNatClampNeg → (x.toNatClampNeg = fr ∨ ¬ m0 7 x.toNatClampNeg = 3) → (num 0 30).toInt < (xi2 0 30).toInt → ∃ r : Nat, r ≤ 7 ∧ S r (m0 0 29).toNatClampNeg) → (∀ r : List Nat, okP m0 u x.toNatClampNeg (i.toNatClampNeg :: r) → r.length ≤ 2 → (num 0 30).toInt < (xi2 0 30).toInt) → wyR (c + (7 - i.toInt) * 57) num (L_sm_routeOn4_34_0 pr t u n (i + 1) xi2) ∧ ((num 0 30).toInt < (L_sm_routeOn4_34_0 pr t u n (i + 1) xi2 0 30).toInt → S 3 x.toNatClampNeg → (x.toNatClampNeg = fr ∨ ¬ m0 7 x.toNatClampNeg = 3) → ∃ r : Nat, r ≤ 7 ∧ S r (m0 0 29).toNatClampNeg) ∧ (∀ (v : Nat) (r : List Nat), i.toInt ≤ (v : Int) → okP m0 u x.toNatClampNeg (v :: r) → r.length ≤ 2 → (num 0 30).toInt < (L_sm_routeOn4_34_0 pr t u n (i + 1) xi2 0 30).toInt) := fun xi2 g1 g2 g3 g4 g5 => by
        obtain ⟨⟨z1, z2, z3⟩, z4, z5⟩ := ih (i + 1) (c + 57) xi2 (by omega) (fixM_tr hF g1) ⟨by omega, g3⟩ (by omega) (by omega) (by omega)
        refine ⟨⟨fixM_tr g1 z1, by omega, by omega⟩, fun hi hs hp => ?_, fun v r hv hp hl => ?_⟩
        · by_cases ci : (num 0 30).toInt < (xi2 0 30).toInt
          · exact g4 hs hp ci
          · exact z4 (by omega) hs hp
        · by_cases cv : v = i.toNatClampNeg
          · rw [cv] at hp
            have := g5 r hp hl
            omega
          · have := z5 v r (by omega) hp hl
            omega
      by_cases ch : F_sm_has t i = 1
      · rw [if_pos ch] at em
        obtain ⟨y18, e18, em⟩ := letv_out em
        rw [← e18, m38, if_pos rfl] at em
        obtain ⟨n20, e20, em⟩ := letv_out em
        have f20 : fixM num n20 := ⟨fun k _ k2 _ _ => uw_k e20 k k2, fun f _ => by rw [uw_k e20 0 (by decide)], uw_f e20 0 (by decide)⟩
        have a0 : n20 0 = num 0 := uw_k e20 0 (by decide)
        have a7 : n20 7 = num 7 := uw_k e20 7 (by decide)
        have z30 : n20 0 30 = num 0 30 := by rw [a0]
        obtain ⟨y27, e27, em⟩ := letv_out em
        rw [← e27, a0, m29] at em
        have hS1 : S 3 x.toNatClampNeg → (x.toNatClampNeg = fr ∨ ¬ m0 7 x.toNatClampNeg = 3) → S 4 i.toNatClampNeg := fun hs hp => hS 3 x.toNatClampNeg i.toNatClampNeg (by decide) (by omega) (by omega) hs hp (hadj.mpr (hhas.mp ch).1)
        by_cases cg : i = m0 0 29
        · rw [if_pos cg] at em
          obtain ⟨y49, e49, em⟩ := letv_out em
          obtain ⟨t50, e50, em⟩ := letv_out em
          obtain ⟨t51, e51, em⟩ := letv_out em
          obtain ⟨t52, e52, em⟩ := letv_out em
          obtain ⟨x56, e56, em⟩ := letv_out em
          obtain ⟨_, _, em⟩ := letv_out em
          obtain ⟨_, _, em⟩ := letv_out em
          obtain ⟨_, _, em⟩ := letv_out em
          obtain ⟨w2, ew2, em⟩ := letv_out em
          rw [em, ← ew2]
          obtain ⟨z1, z2⟩ := meet30 e56.symm
          rw [z30] at z2
          have ii := (inc_of h30.1 h30.2 (by omega)).1
          refine step x56 (fixM_tr f20 z1) (by rw [z2, ii]; omega) (by rw [z2, ii]; omega) (fun hs hp _ => ⟨4, by decide, ?_⟩) (fun _ _ _ => by rw [z2, ii]; omega)
          have k := hS1 hs hp
          rw [cg] at k
          exact k
        · rw [if_neg cg] at em
          obtain ⟨y29, e29, em⟩ := letv_out em
          rw [← e29, a7, m7] at em
          have hcg := tC_of hg
          have gv : ¬ i.toNatClampNeg = (m0 0 29).toNatClampNeg := fun e => cg (Int32.toInt_inj.mp (by omega))
          by_cases ck : m0 7 i.toNatClampNeg = 3
          · rw [if_pos ck] at em
            obtain ⟨w2, ew2, em⟩ := letv_out em
            rw [em, ← ew2]
            refine step n20 f20 (by rw [z30]; omega) (by rw [z30]; omega) (fun _ _ h => absurd h (by rw [z30]; exact Int.lt_irrefl _)) (fun r hp _ => ?_)
            rcases (okP_one hp).2.2.2 with ⟨_, e⟩ | ⟨_, _, e⟩
            · exact absurd e gv
            · exact absurd ck e
          · rw [if_neg ck] at em
            obtain ⟨t35, e35, em⟩ := letv_out em
            obtain ⟨t36, e36, em⟩ := letv_out em
            obtain ⟨x40, e40, em⟩ := letv_out em
            obtain ⟨_, _, em⟩ := letv_out em
            obtain ⟨_, _, em⟩ := letv_out em
            obtain ⟨_, _, em⟩ := letv_out em
            obtain ⟨w2, ew2, em⟩ := letv_out em
            rw [em, ← ew2]
            have v20 : n20 16 4 = i := uw_v e20
            have z := rk4 (c := c) (num := n20) (u := t36) (p := pr) hS h38 hb hg (fixM_tr hF f20) (by omega) (by rw [z30]; exact h30) (by rw [v20]; omega)
            rw [e40, v20] at z
            obtain ⟨⟨z1, z2, z3⟩, z4, z5⟩ := z
            rw [z30] at z2 z4 z5
            refine step x40 (fixM_tr f20 z1) z2 (by omega) (fun hs hp hi => z4 hi (hS1 hs hp) (Or.inr ck)) (fun r hp hl => ?_)
            rcases (okP_one hp).2.2.2 with ⟨_, e⟩ | ⟨hr, _, _⟩
            · exact absurd e gv
            · exact z5 r (by rw [← e36, ← e35]; exact okP_tail hi6 rfl hp hr) hr hl
      · rw [if_neg ch] at em
        obtain ⟨w2, ew2, em⟩ := letv_out em
        rw [em, ← ew2]
        refine step num fixM_rf (Int.le_refl _) (by omega) (fun _ _ h => absurd h (Int.lt_irrefl _)) (fun r hp _ => ?_)
        have k := okP_one hp
        exact absurd (hhas.mpr ⟨hadj.mp k.1, k.2.2.1⟩) ch
theorem rk3 {c : Int} {m0 num : Nat → Nat → Int32} {S : Nat → Nat → Prop} {fr : Nat} {u p : Int32} (hS : famS m0 fr S) (h38 : m0 0 38 = 0) (hb : 0 ≤ (m0 0 8).toInt ∧ (m0 0 8).toInt ≤ 7) (hg : 0 ≤ (m0 0 29).toInt) (hF : fixM m0 num) (hc : c + 399 ≤ 900000) (h30 : 0 ≤ (num 0 30).toInt ∧ (num 0 30).toInt ≤ c) (hx : 0 ≤ (num 16 3).toInt ∧ (num 16 3).toInt < (m0 0 8).toInt) : wyR (c + 399) num (F_sm_routeOn4 num u p) ∧ ((num 0 30).toInt < (F_sm_routeOn4 num u p 0 30).toInt → S 3 (num 16 3).toNatClampNeg → ((num 16 3).toNatClampNeg = fr ∨ ¬ m0 7 (num 16 3).toNatClampNeg = 3) → ∃ r : Nat, r ≤ 7 ∧ S r (m0 0 29).toNatClampNeg) ∧ (∀ l : List Nat, okP m0 u (num 16 3).toNatClampNeg l → ¬ l = [] → l.length ≤ 3 → (num 0 30).toInt < (F_sm_routeOn4 num u p 0 30).toInt) := by
  have z : (0 : Int32).toInt = 0 := rfl
  have mb : F_sm_besideOf num (num 16 3) = F_sm_besideOf m0 (num 16 3) := bes_congr (hF.1 9 (by decide) (by decide) (by decide) (by decide)) (hF.2.1 11 (by omega)) (hF.2.1 13 (by omega)) 15 0 0
  obtain ⟨q1, q2, q3⟩ := rl3 (pr := F_sm_asksOf num (num 16 3) p) (t := F_sm_besideOf num (num 16 3) &&& (u ^^^ (-1))) (u := u) hS h38 hb hg hx (by rw [mb]) 10 0 c num (by rw [z]; omega) hF h30 (by decide) (by decide) (by decide)
  have em : F_sm_routeOn4 num u p = L_sm_routeOn4_34_0 (F_sm_asksOf num (num 16 3) p) (F_sm_besideOf num (num 16 3) &&& (u ^^^ (-1))) u 10 0 num := by
    unfold F_sm_routeOn4
    rw [letv_eq, letv_eq, letv_eq, letv_eq, letv_eq, letv_eq, letv_eq, letv_eq]
    rfl
  rw [em]
  refine ⟨⟨q1.1, q1.2.1, by have := q1.2.2; rw [z] at this; omega⟩, q2, fun l hp hne hl => ?_⟩
  match l, hp, hne, hl with
  | [], _, hne, _ => exact absurd rfl hne
  | v :: r, hp, _, hl =>
    have hl' : r.length + 1 ≤ 3 := hl
    exact q3 v r (by rw [z]; omega) hp (by omega)
theorem rl2 {m0 : Nat → Nat → Int32} {S : Nat → Nat → Prop} {fr : Nat} {u pr x t : Int32} (hS : famS m0 fr S) (h38 : m0 0 38 = 0) (hb : 0 ≤ (m0 0 8).toInt ∧ (m0 0 8).toInt ≤ 7) (hg : 0 ≤ (m0 0 29).toInt) (hx : 0 ≤ x.toInt ∧ x.toInt < (m0 0 8).toInt) (ht : t = F_sm_besideOf m0 x &&& (u ^^^ (-1))) : ∀ (n : Nat) (i : Int32) (c : Int) (num : Nat → Nat → Int32), c + (7 - i.toInt) * 400 ≤ 900000 → fixM m0 num → (0 ≤ (num 0 30).toInt ∧ (num 0 30).toInt ≤ c) → 0 ≤ i.toInt → i.toInt ≤ 7 → (7 - i.toInt).toNat < n → wyR (c + (7 - i.toInt) * 400) num (L_sm_routeOn3_34_0 pr t u n i num) ∧ ((num 0 30).toInt < (L_sm_routeOn3_34_0 pr t u n i num 0 30).toInt → S 2 x.toNatClampNeg → (x.toNatClampNeg = fr ∨ ¬ m0 7 x.toNatClampNeg = 3) → ∃ r : Nat, r ≤ 7 ∧ S r (m0 0 29).toNatClampNeg) ∧ (∀ (v : Nat) (r : List Nat), i.toInt ≤ (v : Int) → okP m0 u x.toNatClampNeg (v :: r) → r.length ≤ 3 → (num 0 30).toInt < (L_sm_routeOn3_34_0 pr t u n i num 0 30).toInt) := by
  intro n
  induction n with
  | zero => intro i c num _ _ _ _ _ hn; exact absurd hn (Nat.not_lt_zero _)
  | succ n ih =>
    intro i c num hc hF h30 h0 h7 hn
    obtain ⟨zm, em⟩ : ∃ z, z = L_sm_routeOn3_34_0 pr t u (n + 1) i num := ⟨_, rfl⟩
    rw [← em]
    unfold L_sm_routeOn3_34_0 at em
    obtain ⟨y9, e9, em⟩ := letv_out em
    obtain ⟨y10, e10, em⟩ := letv_out em
    obtain ⟨y11, e11, em⟩ := letv_out em
    obtain ⟨y12, e12, em⟩ := letv_out em
    have m8 : num 0 8 = m0 0 8 := hF.2.1 8 (by omega)
    have m38 : num 0 38 = 0 := (hF.2.1 38 (by omega)).trans h38
    have m29 : num 0 29 = m0 0 29 := hF.2.1 29 (by omega)
    have m7 : num 7 = m0 7 := hF.1 7 (by decide) (by decide) (by decide) (by decide)
    rw [← e12, m8] at em
    by_cases c1 : i ≥ m0 0 8
    · have c1' := vv_ge.mp c1
      rw [if_pos c1] at em
      rw [em]
      refine ⟨⟨fixM_rf, Int.le_refl _, by omega⟩, fun h => absurd h (Int.lt_irrefl _), fun v r hv hp _ => ?_⟩
      have := (okP_one hp).2.1
      omega
    · rw [if_neg c1] at em
      have c1' : ¬ (m0 0 8).toInt ≤ i.toInt := fun e => c1 (vv_ge.mpr e)
      have i1 : (i + 1).toInt = i.toInt + 1 := vp1 (by omega)
      have hi6 : 0 ≤ i.toInt ∧ i.toInt ≤ 6 := ⟨h0, by omega⟩
      have hci := tC_of h0
      have hcx := tC_of hx.1
      have hhas := near_and (b := F_sm_besideOf m0 x) (u := u) hi6
      rw [← ht] at hhas
      have hadj : adj m0 x.toNatClampNeg i.toNatClampNeg ↔ bt (F_sm_besideOf m0 x) i.toNatClampNeg = true := by
        unfold adj
        rw [← nI_at hx.1]
      have step : ∀ xi2 : Nat → Nat → Int32, fixM num xi2 → (num 0 30).toInt ≤ (xi2 0 30).toInt → (xi2 0 30).toInt ≤ c + 400 → (S 2 x.toNatClampNeg → (x.toNatClampNeg = fr ∨ ¬ m0 7 x.toNatClampNeg = 3) → (num 0 30).toInt < (xi2 0 30).toInt → ∃ r : Nat, r ≤ 7 ∧ S r (m0 0 29).toNatClampNeg) → (∀ r : List Nat, okP m0 u x.toNatClampNeg (i.toNatClampNeg :: r) → r.length ≤ 3 → (num 0 30).toInt < (xi2 0 30).toInt) → wyR (c + (7 - i.toInt) * 400) num (L_sm_routeOn3_34_0 pr t u n (i + 1) xi2) ∧ ((num 0 30).toInt < (L_sm_routeOn3_34_0 pr t u n (i + 1) xi2 0 30).toInt → S 2 x.toNatClampNeg → (x.toNatClampNeg = fr ∨ ¬ m0 7 x.toNatClampNeg = 3) → ∃ r : Nat, r ≤ 7 ∧ S r (m0 0 29).toNatClampNeg) ∧ (∀ (v : Nat) (r : List Nat), i.toInt ≤ (v : Int) → okP m0 u x.toNatClampNeg (v :: r) → r.length ≤ 3 → (num 0 30).toInt < (L_sm_routeOn3_34_0 pr t u n (i + 1) xi2 0 30).toInt) := fun xi2 g1 g2 g3 g4 g5 => by
        obtain ⟨⟨z1, z2, z3⟩, z4, z5⟩ := ih (i + 1) (c + 400) xi2 (by omega) (fixM_tr hF g1) ⟨by omega, g3⟩ (by omega) (by omega) (by omega)
        refine ⟨⟨fixM_tr g1 z1, by omega, by omega⟩, fun hi hs hp => ?_, fun v r hv hp hl => ?_⟩
        · by_cases ci : (num 0 30).toInt < (xi2 0 30).toInt
          · exact g4 hs hp ci
          · exact z4 (by omega) hs hp
        · by_cases cv : v = i.toNatClampNeg
          · rw [cv] at hp
            have := g5 r hp hl
            omega
          · have := z5 v r (by omega) hp hl
            omega
      by_cases ch : F_sm_has t i = 1
      · rw [if_pos ch] at em
        obtain ⟨y18, e18, em⟩ := letv_out em
        rw [← e18, m38, if_pos rfl] at em
        obtain ⟨n20, e20, em⟩ := letv_out em
        have f20 : fixM num n20 := ⟨fun k _ k2 _ _ => uw_k e20 k k2, fun f _ => by rw [uw_k e20 0 (by decide)], uw_f e20 0 (by decide)⟩
        have a0 : n20 0 = num 0 := uw_k e20 0 (by decide)
        have a7 : n20 7 = num 7 := uw_k e20 7 (by decide)
        have z30 : n20 0 30 = num 0 30 := by rw [a0]
        obtain ⟨y27, e27, em⟩ := letv_out em
        rw [← e27, a0, m29] at em
        have hS1 : S 2 x.toNatClampNeg → (x.toNatClampNeg = fr ∨ ¬ m0 7 x.toNatClampNeg = 3) → S 3 i.toNatClampNeg := fun hs hp => hS 2 x.toNatClampNeg i.toNatClampNeg (by decide) (by omega) (by omega) hs hp (hadj.mpr (hhas.mp ch).1)
        by_cases cg : i = m0 0 29
        · rw [if_pos cg] at em
          obtain ⟨y49, e49, em⟩ := letv_out em
          obtain ⟨t50, e50, em⟩ := letv_out em
          obtain ⟨t51, e51, em⟩ := letv_out em
          obtain ⟨t52, e52, em⟩ := letv_out em
          obtain ⟨x56, e56, em⟩ := letv_out em
          obtain ⟨_, _, em⟩ := letv_out em
          obtain ⟨_, _, em⟩ := letv_out em
          obtain ⟨_, _, em⟩ := letv_out em
          obtain ⟨w2, ew2, em⟩ := letv_out em
          rw [em, ← ew2]
          obtain ⟨z1, z2⟩ := meet30 e56.symm
          rw [z30] at z2
          have ii := (inc_of h30.1 h30.2 (by omega)).1
          refine step x56 (fixM_tr f20 z1) (by rw [z2, ii]; omega) (by rw [z2, ii]; omega) (fun hs hp _ => ⟨3, by decide, ?_⟩) (fun _ _ _ => by rw [z2, ii]; omega)
          have k := hS1 hs hp
          rw [cg] at k
          exact k
        · rw [if_neg cg] at em
          obtain ⟨y29, e29, em⟩ := letv_out em
          rw [← e29, a7, m7] at em
          have hcg := tC_of hg
          have gv : ¬ i.toNatClampNeg = (m0 0 29).toNatClampNeg := fun e => cg (Int32.toInt_inj.mp (by omega))
          by_cases ck : m0 7 i.toNatClampNeg = 3
          · rw [if_pos ck] at em
            obtain ⟨w2, ew2, em⟩ := letv_out em
            rw [em, ← ew2]
            refine step n20 f20 (by rw [z30]; omega) (by rw [z30]; omega) (fun _ _ h => absurd h (by rw [z30]; exact Int.lt_irrefl _)) (fun r hp _ => ?_)
            rcases (okP_one hp).2.2.2 with ⟨_, e⟩ | ⟨_, _, e⟩
            · exact absurd e gv
            · exact absurd ck e
          · rw [if_neg ck] at em
            obtain ⟨t35, e35, em⟩ := letv_out em
            obtain ⟨t36, e36, em⟩ := letv_out em
            obtain ⟨x40, e40, em⟩ := letv_out em
            obtain ⟨_, _, em⟩ := letv_out em
            obtain ⟨_, _, em⟩ := letv_out em
            obtain ⟨_, _, em⟩ := letv_out em
            obtain ⟨w2, ew2, em⟩ := letv_out em
            rw [em, ← ew2]
            have v20 : n20 16 3 = i := uw_v e20
            have z := rk3 (c := c) (num := n20) (u := t36) (p := pr) hS h38 hb hg (fixM_tr hF f20) (by omega) (by rw [z30]; exact h30) (by rw [v20]; omega)
            rw [e40, v20] at z
            obtain ⟨⟨z1, z2, z3⟩, z4, z5⟩ := z
            rw [z30] at z2 z4 z5
            refine step x40 (fixM_tr f20 z1) z2 (by omega) (fun hs hp hi => z4 hi (hS1 hs hp) (Or.inr ck)) (fun r hp hl => ?_)
            rcases (okP_one hp).2.2.2 with ⟨_, e⟩ | ⟨hr, _, _⟩
            · exact absurd e gv
            · exact z5 r (by rw [← e36, ← e35]; exact okP_tail hi6 rfl hp hr) hr hl
      · rw [if_neg ch] at em
        obtain ⟨w2, ew2, em⟩ := letv_out em
        rw [em, ← ew2]
        refine step num fixM_rf (Int.le_refl _) (by omega) (fun _ _ h => absurd h (Int.lt_irrefl _)) (fun r hp _ => ?_)
        have k := okP_one hp
        exact absurd (hhas.mpr ⟨hadj.mp k.1, k.2.2.1⟩) ch
theorem rk2 {c : Int} {m0 num : Nat → Nat → Int32} {S : Nat → Nat → Prop} {fr : Nat} {u p : Int32} (hS : famS m0 fr S) (h38 : m0 0 38 = 0) (hb : 0 ≤ (m0 0 8).toInt ∧ (m0 0 8).toInt ≤ 7) (hg : 0 ≤ (m0 0 29).toInt) (hF : fixM m0 num) (hc : c + 2800 ≤ 900000) (h30 : 0 ≤ (num 0 30).toInt ∧ (num 0 30).toInt ≤ c) (hx : 0 ≤ (num 16 2).toInt ∧ (num 16 2).toInt < (m0 0 8).toInt) : wyR (c + 2800) num (F_sm_routeOn3 num u p) ∧ ((num 0 30).toInt < (F_sm_routeOn3 num u p 0 30).toInt → S 2 (num 16 2).toNatClampNeg → ((num 16 2).toNatClampNeg = fr ∨ ¬ m0 7 (num 16 2).toNatClampNeg = 3) → ∃ r : Nat, r ≤ 7 ∧ S r (m0 0 29).toNatClampNeg) ∧ (∀ l : List Nat, okP m0 u (num 16 2).toNatClampNeg l → ¬ l = [] → l.length ≤ 4 → (num 0 30).toInt < (F_sm_routeOn3 num u p 0 30).toInt) := by
  have z : (0 : Int32).toInt = 0 := rfl
  have mb : F_sm_besideOf num (num 16 2) = F_sm_besideOf m0 (num 16 2) := bes_congr (hF.1 9 (by decide) (by decide) (by decide) (by decide)) (hF.2.1 11 (by omega)) (hF.2.1 13 (by omega)) 15 0 0
  obtain ⟨q1, q2, q3⟩ := rl2 (pr := F_sm_asksOf num (num 16 2) p) (t := F_sm_besideOf num (num 16 2) &&& (u ^^^ (-1))) (u := u) hS h38 hb hg hx (by rw [mb]) 10 0 c num (by rw [z]; omega) hF h30 (by decide) (by decide) (by decide)
  have em : F_sm_routeOn3 num u p = L_sm_routeOn3_34_0 (F_sm_asksOf num (num 16 2) p) (F_sm_besideOf num (num 16 2) &&& (u ^^^ (-1))) u 10 0 num := by
    unfold F_sm_routeOn3
    rw [letv_eq, letv_eq, letv_eq, letv_eq, letv_eq, letv_eq, letv_eq, letv_eq]
    rfl
  rw [em]
  refine ⟨⟨q1.1, q1.2.1, by have := q1.2.2; rw [z] at this; omega⟩, q2, fun l hp hne hl => ?_⟩
  match l, hp, hne, hl with
  | [], _, hne, _ => exact absurd rfl hne
  | v :: r, hp, _, hl =>
    have hl' : r.length + 1 ≤ 4 := hl
    exact q3 v r (by rw [z]; omega) hp (by omega)
theorem rl1 {m0 : Nat → Nat → Int32} {S : Nat → Nat → Prop} {fr : Nat} {u pr x t : Int32} (hS : famS m0 fr S) (h38 : m0 0 38 = 0) (hb : 0 ≤ (m0 0 8).toInt ∧ (m0 0 8).toInt ≤ 7) (hg : 0 ≤ (m0 0 29).toInt) (hx : 0 ≤ x.toInt ∧ x.toInt < (m0 0 8).toInt) (ht : t = F_sm_besideOf m0 x &&& (u ^^^ (-1))) : ∀ (n : Nat) (i : Int32) (c : Int) (num : Nat → Nat → Int32), c + (7 - i.toInt) * 2801 ≤ 900000 → fixM m0 num → (0 ≤ (num 0 30).toInt ∧ (num 0 30).toInt ≤ c) → 0 ≤ i.toInt → i.toInt ≤ 7 → (7 - i.toInt).toNat < n → wyR (c + (7 - i.toInt) * 2801) num (L_sm_routeOn2_34_0 pr t u n i num) ∧ ((num 0 30).toInt < (L_sm_routeOn2_34_0 pr t u n i num 0 30).toInt → S 1 x.toNatClampNeg → (x.toNatClampNeg = fr ∨ ¬ m0 7 x.toNatClampNeg = 3) → ∃ r : Nat, r ≤ 7 ∧ S r (m0 0 29).toNatClampNeg) ∧ (∀ (v : Nat) (r : List Nat), i.toInt ≤ (v : Int) → okP m0 u x.toNatClampNeg (v :: r) → r.length ≤ 4 → (num 0 30).toInt < (L_sm_routeOn2_34_0 pr t u n i num 0 30).toInt) := by
  intro n
  induction n with
  | zero => intro i c num _ _ _ _ _ hn; exact absurd hn (Nat.not_lt_zero _)
  | succ n ih =>
    intro i c num hc hF h30 h0 h7 hn
    obtain ⟨zm, em⟩ : ∃ z, z = L_sm_routeOn2_34_0 pr t u (n + 1) i num := ⟨_, rfl⟩
    rw [← em]
    unfold L_sm_routeOn2_34_0 at em
    obtain ⟨y9, e9, em⟩ := letv_out em
    obtain ⟨y10, e10, em⟩ := letv_out em
    obtain ⟨y11, e11, em⟩ := letv_out em
    obtain ⟨y12, e12, em⟩ := letv_out em
    have m8 : num 0 8 = m0 0 8 := hF.2.1 8 (by omega)
    have m38 : num 0 38 = 0 := (hF.2.1 38 (by omega)).trans h38
    have m29 : num 0 29 = m0 0 29 := hF.2.1 29 (by omega)
    have m7 : num 7 = m0 7 := hF.1 7 (by decide) (by decide) (by decide) (by decide)
    rw [← e12, m8] at em
    by_cases c1 : i ≥ m0 0 8
    · have c1' := vv_ge.mp c1
      rw [if_pos c1] at em
      rw [em]
      refine ⟨⟨fixM_rf, Int.le_refl _, by omega⟩, fun h => absurd h (Int.lt_irrefl _), fun v r hv hp _ => ?_⟩
      have := (okP_one hp).2.1
      omega
    · rw [if_neg c1] at em
      have c1' : ¬ (m0 0 8).toInt ≤ i.toInt := fun e => c1 (vv_ge.mpr e)
      have i1 : (i + 1).toInt = i.toInt + 1 := vp1 (by omega)
      have hi6 : 0 ≤ i.toInt ∧ i.toInt ≤ 6 := ⟨h0, by omega⟩
      have hci := tC_of h0
      have hcx := tC_of hx.1
      have hhas := near_and (b := F_sm_besideOf m0 x) (u := u) hi6
      rw [← ht] at hhas
      have hadj : adj m0 x.toNatClampNeg i.toNatClampNeg ↔ bt (F_sm_besideOf m0 x) i.toNatClampNeg = true := by
        unfold adj
        rw [← nI_at hx.1]
      have step : ∀ xi2 : Nat → Nat → Int32, fixM num xi2 → (num 0 30).toInt ≤ (xi2 0 30).toInt → (xi2 0 30).toInt ≤ c + 2801 → (S 1 x.toNatClampNeg → (x.toNatClampNeg = fr ∨ ¬ m0 7 x.toNatClampNeg = 3) → (num 0 30).toInt < (xi2 0 30).toInt → ∃ r : Nat, r ≤ 7 ∧ S r (m0 0 29).toNatClampNeg) → (∀ r : List Nat, okP m0 u x.toNatClampNeg (i.toNatClampNeg :: r) → r.length ≤ 4 → (num 0 30).toInt < (xi2 0 30).toInt) → wyR (c + (7 - i.toInt) * 2801) num (L_sm_routeOn2_34_0 pr t u n (i + 1) xi2) ∧ ((num 0 30).toInt < (L_sm_routeOn2_34_0 pr t u n (i + 1) xi2 0 30).toInt → S 1 x.toNatClampNeg → (x.toNatClampNeg = fr ∨ ¬ m0 7 x.toNatClampNeg = 3) → ∃ r : Nat, r ≤ 7 ∧ S r (m0 0 29).toNatClampNeg) ∧ (∀ (v : Nat) (r : List Nat), i.toInt ≤ (v : Int) → okP m0 u x.toNatClampNeg (v :: r) → r.length ≤ 4 → (num 0 30).toInt < (L_sm_routeOn2_34_0 pr t u n (i + 1) xi2 0 30).toInt) := fun xi2 g1 g2 g3 g4 g5 => by
        obtain ⟨⟨z1, z2, z3⟩, z4, z5⟩ := ih (i + 1) (c + 2801) xi2 (by omega) (fixM_tr hF g1) ⟨by omega, g3⟩ (by omega) (by omega) (by omega)
        refine ⟨⟨fixM_tr g1 z1, by omega, by omega⟩, fun hi hs hp => ?_, fun v r hv hp hl => ?_⟩
        · by_cases ci : (num 0 30).toInt < (xi2 0 30).toInt
          · exact g4 hs hp ci
          · exact z4 (by omega) hs hp
        · by_cases cv : v = i.toNatClampNeg
          · rw [cv] at hp
            have := g5 r hp hl
            omega
          · have := z5 v r (by omega) hp hl
            omega
      by_cases ch : F_sm_has t i = 1
      · rw [if_pos ch] at em
        obtain ⟨y18, e18, em⟩ := letv_out em
        rw [← e18, m38, if_pos rfl] at em
        obtain ⟨n20, e20, em⟩ := letv_out em
        have f20 : fixM num n20 := ⟨fun k _ k2 _ _ => uw_k e20 k k2, fun f _ => by rw [uw_k e20 0 (by decide)], uw_f e20 0 (by decide)⟩
        have a0 : n20 0 = num 0 := uw_k e20 0 (by decide)
        have a7 : n20 7 = num 7 := uw_k e20 7 (by decide)
        have z30 : n20 0 30 = num 0 30 := by rw [a0]
        obtain ⟨y27, e27, em⟩ := letv_out em
        rw [← e27, a0, m29] at em
        have hS1 : S 1 x.toNatClampNeg → (x.toNatClampNeg = fr ∨ ¬ m0 7 x.toNatClampNeg = 3) → S 2 i.toNatClampNeg := fun hs hp => hS 1 x.toNatClampNeg i.toNatClampNeg (by decide) (by omega) (by omega) hs hp (hadj.mpr (hhas.mp ch).1)
        by_cases cg : i = m0 0 29
        · rw [if_pos cg] at em
          obtain ⟨y49, e49, em⟩ := letv_out em
          obtain ⟨t50, e50, em⟩ := letv_out em
          obtain ⟨t51, e51, em⟩ := letv_out em
          obtain ⟨t52, e52, em⟩ := letv_out em
          obtain ⟨x56, e56, em⟩ := letv_out em
          obtain ⟨_, _, em⟩ := letv_out em
          obtain ⟨_, _, em⟩ := letv_out em
          obtain ⟨_, _, em⟩ := letv_out em
          obtain ⟨w2, ew2, em⟩ := letv_out em
          rw [em, ← ew2]
          obtain ⟨z1, z2⟩ := meet30 e56.symm
          rw [z30] at z2
          have ii := (inc_of h30.1 h30.2 (by omega)).1
          refine step x56 (fixM_tr f20 z1) (by rw [z2, ii]; omega) (by rw [z2, ii]; omega) (fun hs hp _ => ⟨2, by decide, ?_⟩) (fun _ _ _ => by rw [z2, ii]; omega)
          have k := hS1 hs hp
          rw [cg] at k
          exact k
        · rw [if_neg cg] at em
          obtain ⟨y29, e29, em⟩ := letv_out em
          rw [← e29, a7, m7] at em
          have hcg := tC_of hg
          have gv : ¬ i.toNatClampNeg = (m0 0 29).toNatClampNeg := fun e => cg (Int32.toInt_inj.mp (by omega))
          by_cases ck : m0 7 i.toNatClampNeg = 3
          · rw [if_pos ck] at em
            obtain ⟨w2, ew2, em⟩ := letv_out em
            rw [em, ← ew2]
            refine step n20 f20 (by rw [z30]; omega) (by rw [z30]; omega) (fun _ _ h => absurd h (by rw [z30]; exact Int.lt_irrefl _)) (fun r hp _ => ?_)
            rcases (okP_one hp).2.2.2 with ⟨_, e⟩ | ⟨_, _, e⟩
            · exact absurd e gv
            · exact absurd ck e
          · rw [if_neg ck] at em
            obtain ⟨t35, e35, em⟩ := letv_out em
            obtain ⟨t36, e36, em⟩ := letv_out em
            obtain ⟨x40, e40, em⟩ := letv_out em
            obtain ⟨_, _, em⟩ := letv_out em
            obtain ⟨_, _, em⟩ := letv_out em
            obtain ⟨_, _, em⟩ := letv_out em
            obtain ⟨w2, ew2, em⟩ := letv_out em
            rw [em, ← ew2]
            have v20 : n20 16 2 = i := uw_v e20
            have z := rk2 (c := c) (num := n20) (u := t36) (p := pr) hS h38 hb hg (fixM_tr hF f20) (by omega) (by rw [z30]; exact h30) (by rw [v20]; omega)
            rw [e40, v20] at z
            obtain ⟨⟨z1, z2, z3⟩, z4, z5⟩ := z
            rw [z30] at z2 z4 z5
            refine step x40 (fixM_tr f20 z1) z2 (by omega) (fun hs hp hi => z4 hi (hS1 hs hp) (Or.inr ck)) (fun r hp hl => ?_)
            rcases (okP_one hp).2.2.2 with ⟨_, e⟩ | ⟨hr, _, _⟩
            · exact absurd e gv
            · exact z5 r (by rw [← e36, ← e35]; exact okP_tail hi6 rfl hp hr) hr hl
      · rw [if_neg ch] at em
        obtain ⟨w2, ew2, em⟩ := letv_out em
        rw [em, ← ew2]
        refine step num fixM_rf (Int.le_refl _) (by omega) (fun _ _ h => absurd h (Int.lt_irrefl _)) (fun r hp _ => ?_)
        have k := okP_one hp
        exact absurd (hhas.mpr ⟨hadj.mp k.1, k.2.2.1⟩) ch
theorem rk1 {c : Int} {m0 num : Nat → Nat → Int32} {S : Nat → Nat → Prop} {fr : Nat} {u p : Int32} (hS : famS m0 fr S) (h38 : m0 0 38 = 0) (hb : 0 ≤ (m0 0 8).toInt ∧ (m0 0 8).toInt ≤ 7) (hg : 0 ≤ (m0 0 29).toInt) (hF : fixM m0 num) (hc : c + 19607 ≤ 900000) (h30 : 0 ≤ (num 0 30).toInt ∧ (num 0 30).toInt ≤ c) (hx : 0 ≤ (num 16 1).toInt ∧ (num 16 1).toInt < (m0 0 8).toInt) : wyR (c + 19607) num (F_sm_routeOn2 num u p) ∧ ((num 0 30).toInt < (F_sm_routeOn2 num u p 0 30).toInt → S 1 (num 16 1).toNatClampNeg → ((num 16 1).toNatClampNeg = fr ∨ ¬ m0 7 (num 16 1).toNatClampNeg = 3) → ∃ r : Nat, r ≤ 7 ∧ S r (m0 0 29).toNatClampNeg) ∧ (∀ l : List Nat, okP m0 u (num 16 1).toNatClampNeg l → ¬ l = [] → l.length ≤ 5 → (num 0 30).toInt < (F_sm_routeOn2 num u p 0 30).toInt) := by
  have z : (0 : Int32).toInt = 0 := rfl
  have mb : F_sm_besideOf num (num 16 1) = F_sm_besideOf m0 (num 16 1) := bes_congr (hF.1 9 (by decide) (by decide) (by decide) (by decide)) (hF.2.1 11 (by omega)) (hF.2.1 13 (by omega)) 15 0 0
  obtain ⟨q1, q2, q3⟩ := rl1 (pr := F_sm_asksOf num (num 16 1) p) (t := F_sm_besideOf num (num 16 1) &&& (u ^^^ (-1))) (u := u) hS h38 hb hg hx (by rw [mb]) 10 0 c num (by rw [z]; omega) hF h30 (by decide) (by decide) (by decide)
  have em : F_sm_routeOn2 num u p = L_sm_routeOn2_34_0 (F_sm_asksOf num (num 16 1) p) (F_sm_besideOf num (num 16 1) &&& (u ^^^ (-1))) u 10 0 num := by
    unfold F_sm_routeOn2
    rw [letv_eq, letv_eq, letv_eq, letv_eq, letv_eq, letv_eq, letv_eq, letv_eq]
    rfl
  rw [em]
  refine ⟨⟨q1.1, q1.2.1, by have := q1.2.2; rw [z] at this; omega⟩, q2, fun l hp hne hl => ?_⟩
  match l, hp, hne, hl with
  | [], _, hne, _ => exact absurd rfl hne
  | v :: r, hp, _, hl =>
    have hl' : r.length + 1 ≤ 5 := hl
    exact q3 v r (by rw [z]; omega) hp (by omega)
theorem rl0 {m0 : Nat → Nat → Int32} {S : Nat → Nat → Prop} {fr : Nat} {u pr x t : Int32} (hS : famS m0 fr S) (h38 : m0 0 38 = 0) (hb : 0 ≤ (m0 0 8).toInt ∧ (m0 0 8).toInt ≤ 7) (hg : 0 ≤ (m0 0 29).toInt) (hx : 0 ≤ x.toInt ∧ x.toInt < (m0 0 8).toInt) (ht : t = F_sm_besideOf m0 x &&& (u ^^^ (-1))) : ∀ (n : Nat) (i : Int32) (c : Int) (num : Nat → Nat → Int32), c + (7 - i.toInt) * 19608 ≤ 900000 → fixM m0 num → (0 ≤ (num 0 30).toInt ∧ (num 0 30).toInt ≤ c) → 0 ≤ i.toInt → i.toInt ≤ 7 → (7 - i.toInt).toNat < n → wyR (c + (7 - i.toInt) * 19608) num (L_sm_routeOn1_34_0 pr t u n i num) ∧ ((num 0 30).toInt < (L_sm_routeOn1_34_0 pr t u n i num 0 30).toInt → S 0 x.toNatClampNeg → (x.toNatClampNeg = fr ∨ ¬ m0 7 x.toNatClampNeg = 3) → ∃ r : Nat, r ≤ 7 ∧ S r (m0 0 29).toNatClampNeg) ∧ (∀ (v : Nat) (r : List Nat), i.toInt ≤ (v : Int) → okP m0 u x.toNatClampNeg (v :: r) → r.length ≤ 5 → (num 0 30).toInt < (L_sm_routeOn1_34_0 pr t u n i num 0 30).toInt) := by
  intro n
  induction n with
  | zero => intro i c num _ _ _ _ _ hn; exact absurd hn (Nat.not_lt_zero _)
  | succ n ih =>
    intro i c num hc hF h30 h0 h7 hn
    obtain ⟨zm, em⟩ : ∃ z, z = L_sm_routeOn1_34_0 pr t u (n + 1) i num := ⟨_, rfl⟩
    rw [← em]
    unfold L_sm_routeOn1_34_0 at em
    obtain ⟨y9, e9, em⟩ := letv_out em
    obtain ⟨y10, e10, em⟩ := letv_out em
    obtain ⟨y11, e11, em⟩ := letv_out em
    obtain ⟨y12, e12, em⟩ := letv_out em
    have m8 : num 0 8 = m0 0 8 := hF.2.1 8 (by omega)
    have m38 : num 0 38 = 0 := (hF.2.1 38 (by omega)).trans h38
    have m29 : num 0 29 = m0 0 29 := hF.2.1 29 (by omega)
    have m7 : num 7 = m0 7 := hF.1 7 (by decide) (by decide) (by decide) (by decide)
    rw [← e12, m8] at em
    by_cases c1 : i ≥ m0 0 8
    · have c1' := vv_ge.mp c1
      rw [if_pos c1] at em
      rw [em]
      refine ⟨⟨fixM_rf, Int.le_refl _, by omega⟩, fun h => absurd h (Int.lt_irrefl _), fun v r hv hp _ => ?_⟩
      have := (okP_one hp).2.1
      omega
    · rw [if_neg c1] at em
      have c1' : ¬ (m0 0 8).toInt ≤ i.toInt := fun e => c1 (vv_ge.mpr e)
      have i1 : (i + 1).toInt = i.toInt + 1 := vp1 (by omega)
      have hi6 : 0 ≤ i.toInt ∧ i.toInt ≤ 6 := ⟨h0, by omega⟩
      have hci := tC_of h0
      have hcx := tC_of hx.1
      have hhas := near_and (b := F_sm_besideOf m0 x) (u := u) hi6
      rw [← ht] at hhas
      have hadj : adj m0 x.toNatClampNeg i.toNatClampNeg ↔ bt (F_sm_besideOf m0 x) i.toNatClampNeg = true := by
        unfold adj
        rw [← nI_at hx.1]
      have step : ∀ xi2 : Nat → Nat → Int32, fixM num xi2 → (num 0 30).toInt ≤ (xi2 0 30).toInt → (xi2 0 30).toInt ≤ c + 19608 → (S 0 x.toNatClampNeg → (x.toNatClampNeg = fr ∨ ¬ m0 7 x.toNatClampNeg = 3) → (num 0 30).toInt < (xi2 0 30).toInt → ∃ r : Nat, r ≤ 7 ∧ S r (m0 0 29).toNatClampNeg) → (∀ r : List Nat, okP m0 u x.toNatClampNeg (i.toNatClampNeg :: r) → r.length ≤ 5 → (num 0 30).toInt < (xi2 0 30).toInt) → wyR (c + (7 - i.toInt) * 19608) num (L_sm_routeOn1_34_0 pr t u n (i + 1) xi2) ∧ ((num 0 30).toInt < (L_sm_routeOn1_34_0 pr t u n (i + 1) xi2 0 30).toInt → S 0 x.toNatClampNeg → (x.toNatClampNeg = fr ∨ ¬ m0 7 x.toNatClampNeg = 3) → ∃ r : Nat, r ≤ 7 ∧ S r (m0 0 29).toNatClampNeg) ∧ (∀ (v : Nat) (r : List Nat), i.toInt ≤ (v : Int) → okP m0 u x.toNatClampNeg (v :: r) → r.length ≤ 5 → (num 0 30).toInt < (L_sm_routeOn1_34_0 pr t u n (i + 1) xi2 0 30).toInt) := fun xi2 g1 g2 g3 g4 g5 => by
        obtain ⟨⟨z1, z2, z3⟩, z4, z5⟩ := ih (i + 1) (c + 19608) xi2 (by omega) (fixM_tr hF g1) ⟨by omega, g3⟩ (by omega) (by omega) (by omega)
        refine ⟨⟨fixM_tr g1 z1, by omega, by omega⟩, fun hi hs hp => ?_, fun v r hv hp hl => ?_⟩
        · by_cases ci : (num 0 30).toInt < (xi2 0 30).toInt
          · exact g4 hs hp ci
          · exact z4 (by omega) hs hp
        · by_cases cv : v = i.toNatClampNeg
          · rw [cv] at hp
            have := g5 r hp hl
            omega
          · have := z5 v r (by omega) hp hl
            omega
      by_cases ch : F_sm_has t i = 1
      · rw [if_pos ch] at em
        obtain ⟨y18, e18, em⟩ := letv_out em
        rw [← e18, m38, if_pos rfl] at em
        obtain ⟨n20, e20, em⟩ := letv_out em
        have f20 : fixM num n20 := ⟨fun k _ k2 _ _ => uw_k e20 k k2, fun f _ => by rw [uw_k e20 0 (by decide)], uw_f e20 0 (by decide)⟩
        have a0 : n20 0 = num 0 := uw_k e20 0 (by decide)
        have a7 : n20 7 = num 7 := uw_k e20 7 (by decide)
        have z30 : n20 0 30 = num 0 30 := by rw [a0]
        obtain ⟨y27, e27, em⟩ := letv_out em
        rw [← e27, a0, m29] at em
        have hS1 : S 0 x.toNatClampNeg → (x.toNatClampNeg = fr ∨ ¬ m0 7 x.toNatClampNeg = 3) → S 1 i.toNatClampNeg := fun hs hp => hS 0 x.toNatClampNeg i.toNatClampNeg (by decide) (by omega) (by omega) hs hp (hadj.mpr (hhas.mp ch).1)
        by_cases cg : i = m0 0 29
        · rw [if_pos cg] at em
          obtain ⟨y49, e49, em⟩ := letv_out em
          obtain ⟨t50, e50, em⟩ := letv_out em
          obtain ⟨t51, e51, em⟩ := letv_out em
          obtain ⟨t52, e52, em⟩ := letv_out em
          obtain ⟨x56, e56, em⟩ := letv_out em
          obtain ⟨_, _, em⟩ := letv_out em
          obtain ⟨_, _, em⟩ := letv_out em
          obtain ⟨_, _, em⟩ := letv_out em
          obtain ⟨w2, ew2, em⟩ := letv_out em
          rw [em, ← ew2]
          obtain ⟨z1, z2⟩ := meet30 e56.symm
          rw [z30] at z2
          have ii := (inc_of h30.1 h30.2 (by omega)).1
          refine step x56 (fixM_tr f20 z1) (by rw [z2, ii]; omega) (by rw [z2, ii]; omega) (fun hs hp _ => ⟨1, by decide, ?_⟩) (fun _ _ _ => by rw [z2, ii]; omega)
          have k := hS1 hs hp
          rw [cg] at k
          exact k
        · rw [if_neg cg] at em
          obtain ⟨y29, e29, em⟩ := letv_out em
          rw [← e29, a7, m7] at em
          have hcg := tC_of hg
          have gv : ¬ i.toNatClampNeg = (m0 0 29).toNatClampNeg := fun e => cg (Int32.toInt_inj.mp (by omega))
          by_cases ck : m0 7 i.toNatClampNeg = 3
          · rw [if_pos ck] at em
            obtain ⟨w2, ew2, em⟩ := letv_out em
            rw [em, ← ew2]
            refine step n20 f20 (by rw [z30]; omega) (by rw [z30]; omega) (fun _ _ h => absurd h (by rw [z30]; exact Int.lt_irrefl _)) (fun r hp _ => ?_)
            rcases (okP_one hp).2.2.2 with ⟨_, e⟩ | ⟨_, _, e⟩
            · exact absurd e gv
            · exact absurd ck e
          · rw [if_neg ck] at em
            obtain ⟨t35, e35, em⟩ := letv_out em
            obtain ⟨t36, e36, em⟩ := letv_out em
            obtain ⟨x40, e40, em⟩ := letv_out em
            obtain ⟨_, _, em⟩ := letv_out em
            obtain ⟨_, _, em⟩ := letv_out em
            obtain ⟨_, _, em⟩ := letv_out em
            obtain ⟨w2, ew2, em⟩ := letv_out em
            rw [em, ← ew2]
            have v20 : n20 16 1 = i := uw_v e20
            have z := rk1 (c := c) (num := n20) (u := t36) (p := pr) hS h38 hb hg (fixM_tr hF f20) (by omega) (by rw [z30]; exact h30) (by rw [v20]; omega)
            rw [e40, v20] at z
            obtain ⟨⟨z1, z2, z3⟩, z4, z5⟩ := z
            rw [z30] at z2 z4 z5
            refine step x40 (fixM_tr f20 z1) z2 (by omega) (fun hs hp hi => z4 hi (hS1 hs hp) (Or.inr ck)) (fun r hp hl => ?_)
            rcases (okP_one hp).2.2.2 with ⟨_, e⟩ | ⟨hr, _, _⟩
            · exact absurd e gv
            · exact z5 r (by rw [← e36, ← e35]; exact okP_tail hi6 rfl hp hr) hr hl
      · rw [if_neg ch] at em
        obtain ⟨w2, ew2, em⟩ := letv_out em
        rw [em, ← ew2]
        refine step num fixM_rf (Int.le_refl _) (by omega) (fun _ _ h => absurd h (Int.lt_irrefl _)) (fun r hp _ => ?_)
        have k := okP_one hp
        exact absurd (hhas.mpr ⟨hadj.mp k.1, k.2.2.1⟩) ch
theorem rk0 {c : Int} {m0 num : Nat → Nat → Int32} {S : Nat → Nat → Prop} {fr : Nat} {u p : Int32} (hS : famS m0 fr S) (h38 : m0 0 38 = 0) (hb : 0 ≤ (m0 0 8).toInt ∧ (m0 0 8).toInt ≤ 7) (hg : 0 ≤ (m0 0 29).toInt) (hF : fixM m0 num) (hc : c + 137256 ≤ 900000) (h30 : 0 ≤ (num 0 30).toInt ∧ (num 0 30).toInt ≤ c) (hx : 0 ≤ (num 16 0).toInt ∧ (num 16 0).toInt < (m0 0 8).toInt) : wyR (c + 137256) num (F_sm_routeOn1 num u p) ∧ ((num 0 30).toInt < (F_sm_routeOn1 num u p 0 30).toInt → S 0 (num 16 0).toNatClampNeg → ((num 16 0).toNatClampNeg = fr ∨ ¬ m0 7 (num 16 0).toNatClampNeg = 3) → ∃ r : Nat, r ≤ 7 ∧ S r (m0 0 29).toNatClampNeg) ∧ (∀ l : List Nat, okP m0 u (num 16 0).toNatClampNeg l → ¬ l = [] → l.length ≤ 6 → (num 0 30).toInt < (F_sm_routeOn1 num u p 0 30).toInt) := by
  have z : (0 : Int32).toInt = 0 := rfl
  have mb : F_sm_besideOf num (num 16 0) = F_sm_besideOf m0 (num 16 0) := bes_congr (hF.1 9 (by decide) (by decide) (by decide) (by decide)) (hF.2.1 11 (by omega)) (hF.2.1 13 (by omega)) 15 0 0
  obtain ⟨q1, q2, q3⟩ := rl0 (pr := F_sm_asksOf num (num 16 0) p) (t := F_sm_besideOf num (num 16 0) &&& (u ^^^ (-1))) (u := u) hS h38 hb hg hx (by rw [mb]) 10 0 c num (by rw [z]; omega) hF h30 (by decide) (by decide) (by decide)
  have em : F_sm_routeOn1 num u p = L_sm_routeOn1_34_0 (F_sm_asksOf num (num 16 0) p) (F_sm_besideOf num (num 16 0) &&& (u ^^^ (-1))) u 10 0 num := by
    unfold F_sm_routeOn1
    rw [letv_eq, letv_eq, letv_eq, letv_eq, letv_eq, letv_eq, letv_eq, letv_eq]
    rfl
  rw [em]
  refine ⟨⟨q1.1, q1.2.1, by have := q1.2.2; rw [z] at this; omega⟩, q2, fun l hp hne hl => ?_⟩
  match l, hp, hne, hl with
  | [], _, hne, _ => exact absurd rfl hne
  | v :: r, hp, _, hl =>
    have hl' : r.length + 1 ≤ 6 := hl
    exact q3 v r (by rw [z]; omega) hp (by omega)

-- ===== why: the set reached =====
theorem li_in {nux : Nat → Nat → Int32} {fr r : Int32} {K : Int32 → Int32 → Int32} (hb : 0 ≤ (nux 4 6).toInt ∧ (nux 4 6).toInt ≤ 7) {Inv : Int32 → Prop} (hInv : ∀ (S v : Int32), Inv S → 0 ≤ v.toInt → v.toInt < (nux 4 6).toInt → bt S v.toNatClampNeg = true → (v = fr ∨ ¬ nux 34 v.toNatClampNeg = 3) → Inv (S ||| nux 52 v.toNatClampNeg)) : ∀ (n : Nat) (S i : Int32), Inv S → 0 ≤ i.toInt → i.toInt ≤ (nux 4 6).toInt → (7 - i.toInt).toNat < n → ∃ S' : Int32, Inv S' ∧ (∀ j : Nat, bt S j = true → bt S' j = true) ∧ (∀ v : Int32, i.toInt ≤ v.toInt → v.toInt < (nux 4 6).toInt → bt S v.toNatClampNeg = true → (v = fr ∨ ¬ nux 34 v.toNatClampNeg = 3) → ∀ j : Nat, bt (nux 52 v.toNatClampNeg) j = true → bt S' j = true) ∧ L_sx_isLinked_18_1 nux r fr K n S i = K S' (r + 1) := by
  intro n
  induction n with
  | zero => intro S i _ _ _ hm; exact absurd hm (Nat.not_lt_zero _)
  | succ n ih =>
    intro S i hI h0 hi hm
    have hci := tC_of h0
    rw [L_sx_isLinked_18_1]
    simp only [letv_eq]
    by_cases c : i ≥ nux 4 6
    · have := vv_ge.mp c
      rw [if_pos c]
      exact ⟨S, hI, fun _ h => h, fun v v1 v2 => by omega, rfl⟩
    · have c' : i.toInt < (nux 4 6).toInt := by
        have : ¬ (nux 4 6).toInt ≤ i.toInt := fun e => c (vv_ge.mpr e)
        omega
      have i1 : (i + 1 : Int32).toInt = i.toInt + 1 := tI_add rfl rfl (by omega) (by omega)
      rw [if_neg c]
      have skip : (bt S i.toNatClampNeg = true → ¬ (i = fr ∨ ¬ nux 34 i.toNatClampNeg = 3)) → ∃ S' : Int32, Inv S' ∧ (∀ j : Nat, bt S j = true → bt S' j = true) ∧ (∀ v : Int32, i.toInt ≤ v.toInt → v.toInt < (nux 4 6).toInt → bt S v.toNatClampNeg = true → (v = fr ∨ ¬ nux 34 v.toNatClampNeg = 3) → ∀ j : Nat, bt (nux 52 v.toNatClampNeg) j = true → bt S' j = true) ∧ L_sx_isLinked_18_1 nux r fr K n S (i + 1) = K S' (r + 1) := fun hno => by
        obtain ⟨S', k1, k2, k3, k4⟩ := ih S (i + 1) hI (by omega) (by omega) (by omega)
        refine ⟨S', k1, k2, fun v v1 v2 v3 v4 j hj => ?_, k4⟩
        by_cases e : v = i
        · rw [e] at v3 v4
          exact absurd v4 (hno v3)
        · have : ¬ v.toInt = i.toInt := fun q => e (Int32.toInt_inj.mp q)
          exact k3 v (by omega) v2 v3 v4 j hj
      have take : bt S i.toNatClampNeg = true → (i = fr ∨ ¬ nux 34 i.toNatClampNeg = 3) → ∃ S' : Int32, Inv S' ∧ (∀ j : Nat, bt S j = true → bt S' j = true) ∧ (∀ v : Int32, i.toInt ≤ v.toInt → v.toInt < (nux 4 6).toInt → bt S v.toNatClampNeg = true → (v = fr ∨ ¬ nux 34 v.toNatClampNeg = 3) → ∀ j : Nat, bt (nux 52 v.toNatClampNeg) j = true → bt S' j = true) ∧ L_sx_isLinked_18_1 nux r fr K n (S ||| nux 52 i.toNatClampNeg) (i + 1) = K S' (r + 1) := fun hs hp => by
        obtain ⟨S', k1, k2, k3, k4⟩ := ih (S ||| nux 52 i.toNatClampNeg) (i + 1) (hInv S i hI h0 c' hs hp) (by omega) (by omega) (by omega)
        refine ⟨S', k1, fun j hj => k2 j (by rw [b_or, hj, Bool.true_or]), fun v v1 v2 v3 v4 j hj => ?_, k4⟩
        by_cases e : v = i
        · rw [e] at hj
          exact k2 j (by rw [b_or, hj, Bool.or_true])
        · have : ¬ v.toInt = i.toInt := fun q => e (Int32.toInt_inj.mp q)
          exact k3 v (by omega) v2 (by rw [b_or, v3, Bool.true_or]) v4 j hj
      by_cases hq : bt S i.toNatClampNeg = true
      · rw [if_neg (hb_t h0 (by omega) hq).1]
        by_cases c2 : i = fr
        · rw [if_pos c2]
          exact take hq (Or.inl c2)
        · rw [if_neg c2]
          by_cases c3 : nux 34 i.toNatClampNeg = 3
          · rw [if_pos c3]
            exact skip (fun _ q => q.elim c2 (fun k => k c3))
          · rw [if_neg c3]
            exact take hq (Or.inr c3)
      · rw [if_pos (hb_f h0 (by omega) (Bool.not_eq_true _ ▸ hq)).1]
        exact skip (fun q => absurd q hq)
theorem li_out {nux : Nat → Nat → Int32} {fr : Int32} (hb : 0 ≤ (nux 4 6).toInt ∧ (nux 4 6).toInt ≤ 7) {Inv : Int32 → Prop} (hInv : ∀ (S v : Int32), Inv S → 0 ≤ v.toInt → v.toInt < (nux 4 6).toInt → bt S v.toNatClampNeg = true → (v = fr ∨ ¬ nux 34 v.toNatClampNeg = 3) → Inv (S ||| nux 52 v.toNatClampNeg)) : ∀ (n : Nat) (S r : Int32), Inv S → 0 ≤ r.toInt → r.toInt ≤ 7 → (7 - r.toInt).toNat < n → ∃ R : Nat → Int32, R r.toNatClampNeg = S ∧ Inv (R 7) ∧ (∀ q : Nat, r.toNatClampNeg ≤ q → q < 7 → (∀ j : Nat, bt (R q) j = true → bt (R (q + 1)) j = true) ∧ ∀ v : Int32, 0 ≤ v.toInt → v.toInt < (nux 4 6).toInt → bt (R q) v.toNatClampNeg = true → (v = fr ∨ ¬ nux 34 v.toNatClampNeg = 3) → ∀ j : Nat, bt (nux 52 v.toNatClampNeg) j = true → bt (R (q + 1)) j = true) ∧ L_sx_isLinked_9_0 nux fr n S r = F_sx_hasBit (R 7) (nux 32 6) := by
  intro n
  have z7 : (7 : Int32).toInt = 7 := rfl
  induction n with
  | zero => intro S r _ _ _ hm; exact absurd hm (Nat.not_lt_zero _)
  | succ n ih =>
    intro S r hI h0 h7 hm
    have hcr := tC_of h0
    rw [L_sx_isLinked_9_0]
    simp only [letv_eq]
    by_cases c : r ≥ (7 : Int32)
    · have c1 := vv_ge.mp c
      rw [if_pos c]
      exact ⟨fun _ => S, rfl, hI, fun q q1 q2 => by omega, rfl⟩
    · have c1 : ¬ (7 : Int32).toInt ≤ r.toInt := fun e => c (vv_ge.mpr e)
      have i1 : (r + 1 : Int32).toInt = r.toInt + 1 := tI_add rfl rfl (by omega) (by omega)
      have hcr1 := tC_of (v := r + 1) (by omega)
      rw [if_neg c]
      obtain ⟨S', k1, k2, k3, k4⟩ := li_in (r := r) (K := fun z_v2_9 z_v3_9 => L_sx_isLinked_9_0 nux fr n z_v2_9 z_v3_9) hb hInv 10 S 0 hI (by decide) (by show (0 : Int) ≤ _; exact hb.1) (by decide)
      rw [k4]
      obtain ⟨R, g1, g2, g3, g4⟩ := ih S' (r + 1) k1 (by omega) (by omega) (by omega)
      have en : (r + 1 : Int32).toNatClampNeg = r.toNatClampNeg + 1 := by omega
      rw [en] at g1 g3
      refine ⟨fun q => if q = r.toNatClampNeg then S else R q, if_pos rfl, ?_, fun q q1 q2 => ?_, ?_⟩
      · show Inv (if 7 = r.toNatClampNeg then S else R 7)
        rw [if_neg (by omega)]
        exact g2
      · show (∀ j : Nat, bt (if q = r.toNatClampNeg then S else R q) j = true → bt (if q + 1 = r.toNatClampNeg then S else R (q + 1)) j = true) ∧ ∀ v : Int32, 0 ≤ v.toInt → v.toInt < (nux 4 6).toInt → bt (if q = r.toNatClampNeg then S else R q) v.toNatClampNeg = true → (v = fr ∨ ¬ nux 34 v.toNatClampNeg = 3) → ∀ j : Nat, bt (nux 52 v.toNatClampNeg) j = true → bt (if q + 1 = r.toNatClampNeg then S else R (q + 1)) j = true
        rw [if_neg (show ¬ q + 1 = r.toNatClampNeg by omega)]
        by_cases e : q = r.toNatClampNeg
        · rw [if_pos e, e, g1]
          exact ⟨k2, fun v v1 v2 v3 v4 j hj => k3 v (by show (0 : Int) ≤ _; exact v1) v2 v3 v4 j hj⟩
        · rw [if_neg e]
          exact g3 q (by omega) q2
      · show L_sx_isLinked_9_0 nux fr n S' (r + 1) = F_sx_hasBit (if 7 = r.toNatClampNeg then S else R 7) (nux 32 6)
        rw [if_neg (by omega)]
        exact g4
/-- each one reached is the first, or has a row inside the set -/
def lnI (m0 : Nat → Nat → Int32) (fr : Nat) (S : Int32) : Prop := bt S fr = true ∧ ∀ v : Nat, bt S v = true → (v : Int) < (m0 0 8).toInt ∧ (v = fr ∨ ∃ l : List Nat, wkF m0 l fr ∧ (fr :: l).Nodup ∧ enF m0 v l ∧ ∀ w : Nat, w ∈ l → bt S w = true)
theorem lnI_on {m0 : Nat → Nat → Int32} {fr v : Nat} {S N : Int32} (h : lnI m0 fr S) (hv : bt S v = true) (hp : v = fr ∨ ¬ m0 7 v = 3) (hN : ∀ j : Nat, bt N j = true ↔ adj m0 v j) (hr : ∀ j : Nat, bt N j = true → (j : Int) < (m0 0 8).toInt) : lnI m0 fr (S ||| N) := by
  refine ⟨by rw [b_or, h.1, Bool.true_or], fun y hy => ?_⟩
  by_cases c : bt S y = true
  · obtain ⟨k1, k2⟩ := h.2 y c
    refine ⟨k1, k2.imp (fun e => e) ?_⟩
    rintro ⟨l, a1, a2, a3, a4⟩
    exact ⟨l, a1, a2, a3, fun w hw => by rw [b_or, a4 w hw, Bool.true_or]⟩
  · have cf : bt S y = false := Eq.mp (Bool.not_eq_true _) c
    rw [b_or, cf, Bool.false_or] at hy
    have ha := (hN y).mp hy
    have hyf : ¬ y = fr := fun e => c (by rw [e]; exact h.1)
    refine ⟨hr y hy, Or.inr ?_⟩
    by_cases cv : v = fr
    · refine ⟨[y], ⟨by rw [← cv]; exact ha, trivial⟩, ?_, rfl, fun w hw => ?_⟩
      · refine List.nodup_cons.mpr ⟨fun q => ?_, List.nodup_cons.mpr ⟨List.not_mem_nil, List.nodup_nil⟩⟩
        exact hyf (List.mem_singleton.mp q).symm
      · rw [List.mem_singleton.mp hw, b_or, hy, Bool.or_true]
    · have hpv : ¬ m0 7 v = 3 := hp.resolve_left cv
      obtain ⟨l, a1, a2, a3, a4⟩ := ((h.2 v hv).2).resolve_left cv
      refine ⟨l ++ [y], wkF_app ha l fr a1 a3, ?_, enF_app hpv l a3, fun w hw => ?_⟩
      · show ((fr :: l) ++ [y]).Nodup
        refine List.nodup_append.mpr ⟨a2, List.nodup_cons.mpr ⟨List.not_mem_nil, List.nodup_nil⟩, fun a ha b hb e => ?_⟩
        have eb := List.mem_singleton.mp hb
        rw [eb] at e
        rcases List.mem_cons.mp ha with q | q
        · exact hyf (e.symm.trans q)
        · exact c (by rw [← e]; exact a4 a q)
      · rcases List.mem_append.mp hw with q | q
        · rw [b_or, a4 w q, Bool.true_or]
        · rw [List.mem_singleton.mp q, b_or, hy, Bool.or_true]

