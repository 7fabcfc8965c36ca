-- ===== the reference's arrival in steps =====
def bm_137 (vn vs vp j4_91_63 : Int32) (nj137_115 : Nat → Nat → Int32) : Nat → Nat → Int32 :=
  LETV (nj137_115 0 39 : Int32) fun y22 =>
  LETV (nj137_115 0 33 : Int32) fun y23 =>
  LETV (nj137_115 0 35 : Int32) fun y24 =>
  LETV (F_sm_worthIn nj137_115 (y22 : Int32) (j4_91_63 : Int32) : Int32) fun r25 =>
  if r25 < vp then (
    nj137_115
  ) else (
    LETV (y23 + 1 : Int32) fun t30 =>
    LETV (va_up nj137_115 0 (upd (nj137_115 0) 33 t30) : Nat → Nat → Int32) fun nu31 =>
    LETV (nu31 0 36 : Int32) fun y36 =>
    LETV (y36 &&& vs : Int32) fun t37 =>
    LETV (va_up nu31 0 (upd (nu31 0) 36 t37) : Nat → Nat → Int32) fun nu38 =>
    if vn < y24 then (
      LETV (va_up nu38 0 (upd (nu38 0) 34 vp) : Nat → Nat → Int32) fun nu45 =>
      LETV (va_up nu45 0 (upd (nu45 0) 35 vn) : Nat → Nat → Int32) fun nu52 =>
      LETV (F_sm_copyRoute18 nu52 (vn : Int32) : Nat → Nat → Int32) fun xi59 =>
      xi59
    ) else (
      if vn = y24 then (
        LETV (nu38 0 34 : Int32) fun y73 =>
        if vp ≥ y73 then (
          nu38
        ) else (
          LETV (va_up nu38 0 (upd (nu38 0) 34 vp) : Nat → Nat → Int32) fun nu78 =>
          LETV (va_up nu78 0 (upd (nu78 0) 35 vn) : Nat → Nat → Int32) fun nu85 =>
          LETV (F_sm_copyRoute18 nu85 (vn : Int32) : Nat → Nat → Int32) fun xi92 =>
          xi92
        )
      ) else (
        nu38
      )
    )
  )
def bm_115 (vn vs vp j4_91_63 j5_115_91 : Int32) (nj115_91 : Nat → Nat → Int32) : Nat → Nat → Int32 :=
  LETV (nj115_91 0 39 : Int32) fun y19 =>
  LETV (nj115_91 0 33 : Int32) fun y20 =>
  LETV (nj115_91 0 35 : Int32) fun y21 =>
  LETV (bm_137 vn vs vp j4_91_63) fun jk137_115 =>
  LETV (nj115_91 0 37 : Int32) fun y102 =>
  if j5_115_91 ≥ y102 then (
    LETV (va_up nj115_91 0 (upd (nj115_91 0) 37 y102) : Nat → Nat → Int32) fun nu104 =>
    jk137_115 (nu104 : Nat → Nat → Int32)
  ) else (
    LETV (va_up nj115_91 0 (upd (nj115_91 0) 37 j5_115_91) : Nat → Nat → Int32) fun nu114 =>
    jk137_115 (nu114 : Nat → Nat → Int32)
  )
def bm_91 (vn vs vp j4_91_63 : Int32) (nj91_63 : Nat → Nat → Int32) : Nat → Nat → Int32 :=
  LETV (nj91_63 0 39 : Int32) fun y16 =>
  LETV (nj91_63 0 33 : Int32) fun y17 =>
  LETV (nj91_63 0 35 : Int32) fun y18 =>
  LETV (bm_115 vn vs vp j4_91_63) fun jk115_91 =>
  if vp = (0 : Int32) then (
    jk115_91 (0 : Int32) (nj91_63 : Nat → Nat → Int32)
  ) else (
    LETV (F_sm_letterOf nj91_63 (y16 : Int32) (3 : Int32) : Int32) fun r125 =>
    LETV (r125 * j4_91_63 : Int32) fun t126 =>
    LETV (vp + t126 : Int32) fun t127 =>
    jk115_91 (t127 : Int32) (nj91_63 : Nat → Nat → Int32)
  )
def bm_53 (vn vs vp : Int32) (nj53_10 : Nat → Nat → Int32) : Nat → Nat → Int32 :=
  LETV (nj53_10 0 39 : Int32) fun y12 =>
  LETV (nj53_10 0 33 : Int32) fun y13 =>
  LETV (nj53_10 0 35 : Int32) fun y14 =>
  if y12 = ((-9) : Int32) then (
    nj53_10
  ) else (
    LETV (bm_91 vn vs vp) fun jk91_63 =>
    LETV (vn - 2 : Int32) fun t136 =>
    LETV (F_sm_letterOf nj53_10 (y12 : Int32) (8 : Int32) : Int32) fun r137 =>
    LETV (nj53_10 0 14 : Int32) fun y138 =>
    if r137 = y138 then (
      LETV (t136 + 1 : Int32) fun t145 =>
      jk91_63 (t145 : Int32) (nj53_10 : Nat → Nat → Int32)
    ) else (
      LETV (t136 + 0 : Int32) fun t140 =>
      jk91_63 (t140 : Int32) (nj53_10 : Nat → Nat → Int32)
    )
  )
def bm_0 (mu : Nat → Nat → Int32) (vn vs vp : Int32) : Nat → Nat → Int32 :=
  LETV (mu 0 39 : Int32) fun y1 =>
  LETV (mu 0 33 : Int32) fun y2 =>
  LETV (mu 0 35 : Int32) fun y3 =>
  LETV (mu 0 30 : Int32) fun y4 =>
  LETV (y4 + 1 : Int32) fun t5 =>
  LETV (va_up mu 0 (upd (mu 0) 30 t5) : Nat → Nat → Int32) fun nu6 =>
  LETV (bm_53 vn vs vp) fun jk53_10 =>
  LETV (nu6 0 31 : Int32) fun y153 =>
  if vp < y153 then (
    LETV (va_up nu6 0 (upd (nu6 0) 31 vp) : Nat → Nat → Int32) fun nu155 =>
    LETV (va_up nu155 0 (upd (nu155 0) 32 vn) : Nat → Nat → Int32) fun nu162 =>
    LETV (F_sm_copyRoute17 nu162 (vn : Int32) : Nat → Nat → Int32) fun xi170 =>
    jk53_10 (xi170 : Nat → Nat → Int32)
  ) else (
    if vp = y153 then (
      LETV (nu6 0 32 : Int32) fun y185 =>
      if vn ≥ y185 then (
        jk53_10 (nu6 : Nat → Nat → Int32)
      ) else (
        LETV (va_up nu6 0 (upd (nu6 0) 31 vp) : Nat → Nat → Int32) fun nu190 =>
        LETV (va_up nu190 0 (upd (nu190 0) 32 vn) : Nat → Nat → Int32) fun nu198 =>
        LETV (F_sm_copyRoute17 nu198 (vn : Int32) : Nat → Nat → Int32) fun xi206 =>
        jk53_10 (xi206 : Nat → Nat → Int32)
      )
    ) else (
      jk53_10 (nu6 : Nat → Nat → Int32)
    )
  )
theorem bm_eq (mu : Nat → Nat → Int32) (vn vs vp : Int32) : F_sm_meetRoute mu vn vs vp = bm_0 mu vn vs vp := rfl
theorem bm137_out {nu z : Nat → Nat → Int32} {n q p L : Int32} (h : z = bm_137 n q p L nu) : (F_sm_worthIn nu (nu 0 39) L < p ∧ z = nu) ∨ (¬ F_sm_worthIn nu (nu 0 39) L < p ∧ (∀ k : Nat, k ≠ 0 → k ≠ 18 → z k = nu k) ∧ (∀ f : Nat, f ≠ 33 → f ≠ 34 → f ≠ 35 → f ≠ 36 → z 0 f = nu 0 f) ∧ z 0 33 = nu 0 33 + 1 ∧ z 0 36 = nu 0 36 &&& q ∧ (((n < nu 0 35 ∨ (n = nu 0 35 ∧ ¬ p ≥ nu 0 34)) ∧ z 0 34 = p ∧ z 0 35 = n) ∨ (¬ (n < nu 0 35 ∨ (n = nu 0 35 ∧ ¬ p ≥ nu 0 34)) ∧ z 0 34 = nu 0 34 ∧ z 0 35 = nu 0 35))) := by
  unfold bm_137 at h
  obtain ⟨y22, e22, h⟩ := letv_out h
  obtain ⟨y23, e23, h⟩ := letv_out h
  obtain ⟨y24, e24, h⟩ := letv_out h
  obtain ⟨r25, e25, h⟩ := letv_out h
  rw [← e22] at e25
  rw [e25]
  by_cases c0 : r25 < p
  · rw [if_pos c0] at h
    exact Or.inl ⟨c0, h⟩
  · rw [if_neg c0] at h
    refine Or.inr ⟨c0, ?_⟩
    obtain ⟨t30, e30, h⟩ := letv_out h
    obtain ⟨n31, e31, h⟩ := letv_out h
    obtain ⟨y36, e36, h⟩ := letv_out h
    obtain ⟨t37, e37, h⟩ := letv_out h
    obtain ⟨n38, e38, h⟩ := letv_out h
    have v33 : n38 0 33 = nu 0 33 + 1 := by rw [uw_f e38 33 (by decide), uw_v e31, ← e30, ← e23]
    have v36 : n38 0 36 = nu 0 36 &&& q := by rw [uw_v e38, ← e37, ← e36, uw_f e31 36 (by decide)]
    have nk : ∀ k : Nat, k ≠ 0 → n38 k = nu k := fun k hk => (uw_k e38 k hk).trans (uw_k e31 k hk)
    have nf : ∀ f : Nat, f ≠ 33 → f ≠ 36 → n38 0 f = nu 0 f := fun f h1 h2 => (uw_f e38 f h2).trans (uw_f e31 f h1)
    have tk : ∀ n45 n52 xi : Nat → Nat → Int32, va_up n38 0 (upd (n38 0) 34 p) = n45 → va_up n45 0 (upd (n45 0) 35 n) = n52 → F_sm_copyRoute18 n52 n = xi → (∀ k : Nat, k ≠ 0 → k ≠ 18 → xi k = nu k) ∧ (∀ f : Nat, f ≠ 33 → f ≠ 34 → f ≠ 35 → f ≠ 36 → xi 0 f = nu 0 f) ∧ xi 0 33 = nu 0 33 + 1 ∧ xi 0 36 = nu 0 36 &&& q ∧ xi 0 34 = p ∧ xi 0 35 = n := fun n45 n52 xi e45 e52 ex => by
      have cp : ∀ k : Nat, k ≠ 18 → xi k = n52 k := fun k hk => by rw [← ex]; exact copy18 10 0 n52 k hk
      have c0 := cp 0 (by decide)
      refine ⟨fun k h1 h2 => ?_, fun f h1 h2 h3 h4 => ?_, ?_, ?_, ?_, ?_⟩
      · rw [cp k h2, uw_k e52 k h1, uw_k e45 k h1]; exact nk k h1
      · rw [c0, uw_f e52 f h3, uw_f e45 f h2]; exact nf f h1 h4
      · rw [c0, uw_f e52 33 (by decide), uw_f e45 33 (by decide)]; exact v33
      · rw [c0, uw_f e52 36 (by decide), uw_f e45 36 (by decide)]; exact v36
      · rw [c0, uw_f e52 34 (by decide)]; exact uw_v e45
      · rw [c0]; exact uw_v e52
    have no : (∀ k : Nat, k ≠ 0 → k ≠ 18 → n38 k = nu k) ∧ (∀ f : Nat, f ≠ 33 → f ≠ 34 → f ≠ 35 → f ≠ 36 → n38 0 f = nu 0 f) := ⟨fun k h1 _ => nk k h1, fun f h1 _ _ h4 => nf f h1 h4⟩
    have v34 : n38 0 34 = nu 0 34 := nf 34 (by decide) (by decide)
    have v35 : n38 0 35 = nu 0 35 := nf 35 (by decide) (by decide)
    by_cases c1 : n < y24
    · rw [if_pos c1] at h
      obtain ⟨n45, e45, h⟩ := letv_out h
      obtain ⟨n52, e52, h⟩ := letv_out h
      obtain ⟨x, ex, h⟩ := letv_out h
      rw [h]
      obtain ⟨a, b, c, d, e, f⟩ := tk n45 n52 x e45 e52 ex
      exact ⟨a, b, c, d, Or.inl ⟨Or.inl (by rw [e24]; exact c1), e, f⟩⟩
    · rw [if_neg c1] at h
      by_cases c2 : n = y24
      · rw [if_pos c2] at h
        obtain ⟨y73, e73, h⟩ := letv_out h
        rw [v34] at e73
        by_cases c3 : p ≥ y73
        · rw [if_pos c3] at h
          rw [h]
          refine ⟨no.1, no.2, v33, v36, Or.inr ⟨?_, v34, v35⟩⟩
          rintro (e | ⟨e, f⟩)
          · rw [e24] at e; exact c1 e
          · rw [e73] at f; exact f c3
        · rw [if_neg c3] at h
          obtain ⟨n45, e45, h⟩ := letv_out h
          obtain ⟨n52, e52, h⟩ := letv_out h
          obtain ⟨x, ex, h⟩ := letv_out h
          rw [h]
          obtain ⟨a, b, c, d, e, f⟩ := tk n45 n52 x e45 e52 ex
          exact ⟨a, b, c, d, Or.inl ⟨Or.inr ⟨by rw [e24]; exact c2, by rw [e73]; exact c3⟩, e, f⟩⟩
      · rw [if_neg c2] at h
        rw [h]
        refine ⟨no.1, no.2, v33, v36, Or.inr ⟨?_, v34, v35⟩⟩
        rintro (e | ⟨e, f⟩)
        · rw [e24] at e; exact c1 e
        · rw [e24] at e; exact c2 e
theorem bm115_out {nu z : Nat → Nat → Int32} {n q p L w : Int32} (h : z = bm_115 n q p L w nu) : ∃ nN : Nat → Nat → Int32, (∀ k : Nat, k ≠ 0 → nN k = nu k) ∧ (∀ f : Nat, f ≠ 37 → nN 0 f = nu 0 f) ∧ nN 0 37 = (if w ≥ nu 0 37 then nu 0 37 else w) ∧ z = bm_137 n q p L nN := by
  unfold bm_115 at h
  obtain ⟨y19, e19, h⟩ := letv_out h
  obtain ⟨y20, e20, h⟩ := letv_out h
  obtain ⟨y21, e21, h⟩ := letv_out h
  obtain ⟨jk, ej, h⟩ := letv_out h
  obtain ⟨y102, e102, h⟩ := letv_out h
  rw [← ej] at h
  rw [e102]
  by_cases c : w ≥ y102
  · rw [if_pos c] at h
    obtain ⟨n4, e4, h⟩ := letv_out h
    refine ⟨n4, uw_k e4, uw_f e4, ?_, h⟩
    rw [if_pos c]
    exact uw_v e4
  · rw [if_neg c] at h
    obtain ⟨n4, e4, h⟩ := letv_out h
    refine ⟨n4, uw_k e4, uw_f e4, ?_, h⟩
    rw [if_neg c]
    exact uw_v e4
def needM (nu : Nat → Nat → Int32) (p L : Int32) : Int32 := if p = 0 then 0 else p + F_sm_letterOf nu (nu 0 39) 3 * L
theorem bm91_out {nu z : Nat → Nat → Int32} {n q p L : Int32} (h : z = bm_91 n q p L nu) : z = bm_115 n q p L (needM nu p L) nu := by
  unfold bm_91 at h
  obtain ⟨y16, e16, h⟩ := letv_out h
  obtain ⟨y17, e17, h⟩ := letv_out h
  obtain ⟨y18, e18, h⟩ := letv_out h
  obtain ⟨jk, ej, h⟩ := letv_out h
  rw [← ej] at h
  unfold needM
  by_cases c : p = (0 : Int32)
  · rw [if_pos c] at h
    rw [if_pos c]
    exact h
  · rw [if_neg c] at h
    rw [if_neg c]
    obtain ⟨r1, e1, h⟩ := letv_out h
    obtain ⟨t2, e2, h⟩ := letv_out h
    obtain ⟨t3, e3, h⟩ := letv_out h
    rw [h, ← e3, ← e2, ← e1, ← e16]
def lastM (nu : Nat → Nat → Int32) (n : Int32) : Int32 := if F_sm_letterOf nu (nu 0 39) 8 = nu 0 14 then n - 2 + 1 else n - 2 + 0
theorem bm53_out {nu z : Nat → Nat → Int32} {n q p : Int32} (h : z = bm_53 n q p nu) : (nu 0 39 = -9 ∧ z = nu) ∨ (¬ nu 0 39 = -9 ∧ z = bm_91 n q p (lastM nu n) nu) := by
  unfold bm_53 at h
  obtain ⟨y12, e12, h⟩ := letv_out h
  obtain ⟨y13, e13, h⟩ := letv_out h
  obtain ⟨y14, e14, h⟩ := letv_out h
  rw [e12]
  by_cases c : y12 = ((-9) : Int32)
  · rw [if_pos c] at h
    exact Or.inl ⟨c, h⟩
  · rw [if_neg c] at h
    refine Or.inr ⟨c, ?_⟩
    obtain ⟨jk, ej, h⟩ := letv_out h
    rw [← ej] at h
    obtain ⟨t1, e1, h⟩ := letv_out h
    obtain ⟨r2, e2, h⟩ := letv_out h
    obtain ⟨y3, e3, h⟩ := letv_out h
    unfold lastM
    rw [e12, e2, e3, e1]
    by_cases c2 : r2 = y3
    · rw [if_pos c2] at h
      rw [if_pos c2]
      obtain ⟨t4, e4, h⟩ := letv_out h
      rw [h, ← e4]
    · rw [if_neg c2] at h
      rw [if_neg c2]
      obtain ⟨t4, e4, h⟩ := letv_out h
      rw [h, ← e4]
theorem bm0_out {nu z : Nat → Nat → Int32} {n q p : Int32} (h : z = F_sm_meetRoute nu n q p) : ∃ nC : Nat → Nat → Int32, z = bm_53 n q p nC ∧ (∀ k : Nat, k ≠ 0 → k ≠ 17 → nC k = nu k) ∧ (∀ f : Nat, f ≠ 30 → f ≠ 31 → f ≠ 32 → nC 0 f = nu 0 f) ∧ nC 0 30 = nu 0 30 + 1 ∧ (((p < nu 0 31 ∨ (p = nu 0 31 ∧ ¬ n ≥ nu 0 32)) ∧ nC 0 31 = p ∧ nC 0 32 = n) ∨ (¬ (p < nu 0 31 ∨ (p = nu 0 31 ∧ ¬ n ≥ nu 0 32)) ∧ nC 0 31 = nu 0 31 ∧ nC 0 32 = nu 0 32)) := by
  rw [bm_eq] at h
  unfold bm_0 at h
  obtain ⟨y1, e1, h⟩ := letv_out h
  obtain ⟨y2, e2, h⟩ := letv_out h
  obtain ⟨y3, e3, h⟩ := letv_out h
  obtain ⟨y4, e4, h⟩ := letv_out h
  obtain ⟨t5, e5, h⟩ := letv_out h
  obtain ⟨n6, e6, h⟩ := letv_out h
  obtain ⟨jk, ej, h⟩ := letv_out h
  rw [← ej] at h
  obtain ⟨y153, e153, h⟩ := letv_out h
  have v31 : n6 0 31 = nu 0 31 := uw_f e6 31 (by decide)
  have v32 : n6 0 32 = nu 0 32 := uw_f e6 32 (by decide)
  have v30 : n6 0 30 = nu 0 30 + 1 := by rw [uw_v e6, ← e5, ← e4]
  rw [v31] at e153
  have tk : ∀ n45 n52 xi : Nat → Nat → Int32, va_up n6 0 (upd (n6 0) 31 p) = n45 → va_up n45 0 (upd (n45 0) 32 n) = n52 → F_sm_copyRoute17 n52 n = xi → (∀ k : Nat, k ≠ 0 → k ≠ 17 → xi k = nu k) ∧ (∀ f : Nat, f ≠ 30 → f ≠ 31 → f ≠ 32 → xi 0 f = nu 0 f) ∧ xi 0 30 = nu 0 30 + 1 ∧ xi 0 31 = p ∧ xi 0 32 = n := fun n45 n52 xi e45 e52 ex => by
    have cp : ∀ k : Nat, k ≠ 17 → xi k = n52 k := fun k hk => by rw [← ex]; exact copy17 10 0 n52 k hk
    have c0 := cp 0 (by decide)
    refine ⟨fun k h1 h2 => ?_, fun f h1 h2 h3 => ?_, ?_, ?_, ?_⟩
    · rw [cp k h2, uw_k e52 k h1, uw_k e45 k h1]; exact uw_k e6 k h1
    · rw [c0, uw_f e52 f h3, uw_f e45 f h2]; exact uw_f e6 f h1
    · rw [c0, uw_f e52 30 (by decide), uw_f e45 30 (by decide)]; exact v30
    · rw [c0, uw_f e52 31 (by decide)]; exact uw_v e45
    · rw [c0]; exact uw_v e52
  have no : (∀ k : Nat, k ≠ 0 → k ≠ 17 → n6 k = nu k) ∧ (∀ f : Nat, f ≠ 30 → f ≠ 31 → f ≠ 32 → n6 0 f = nu 0 f) := ⟨fun k h1 _ => uw_k e6 k h1, fun f h1 _ _ => uw_f e6 f h1⟩
  by_cases c1 : p < y153
  · rw [if_pos c1] at h
    obtain ⟨n45, e45, h⟩ := letv_out h
    obtain ⟨n52, e52, h⟩ := letv_out h
    obtain ⟨x, ex, h⟩ := letv_out h
    obtain ⟨a, b, c, d, e⟩ := tk n45 n52 x e45 e52 ex
    exact ⟨x, h, a, b, c, Or.inl ⟨Or.inl (by rw [e153]; exact c1), d, e⟩⟩
  · rw [if_neg c1] at h
    by_cases c2 : p = y153
    · rw [if_pos c2] at h
      obtain ⟨y185, e185, h⟩ := letv_out h
      rw [v32] at e185
      by_cases c3 : n ≥ y185
      · rw [if_pos c3] at h
        refine ⟨n6, h, no.1, no.2, v30, Or.inr ⟨?_, v31, v32⟩⟩
        rintro (e | ⟨e, f⟩)
        · rw [e153] at e; exact c1 e
        · rw [e185] at f; exact f c3
      · rw [if_neg c3] at h
        obtain ⟨n45, e45, h⟩ := letv_out h
        obtain ⟨n52, e52, h⟩ := letv_out h
        obtain ⟨x, ex, h⟩ := letv_out h
        obtain ⟨a, b, c, d, e⟩ := tk n45 n52 x e45 e52 ex
        exact ⟨x, h, a, b, c, Or.inl ⟨Or.inr ⟨by rw [e153]; exact c2, by rw [e185]; exact c3⟩, d, e⟩⟩
    · rw [if_neg c2] at h
      refine ⟨n6, h, no.1, no.2, v30, Or.inr ⟨?_, v31, v32⟩⟩
      rintro (e | ⟨e, f⟩)
      · rw [e153] at e; exact c1 e
      · rw [e153] at e; exact c2 e


