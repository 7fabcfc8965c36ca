-- ===== routes: what a walk leaves as it was =====
def fixX (a b : Nat → Nat → Int32) : Prop := (∀ k : Nat, k ≠ 32 → k ≠ 54 → k ≠ 55 → k ≠ 56 → k ≠ 57 → k ≠ 58 → b k = a k) ∧ (∀ f : Nat, f ≤ 10 → b 32 f = a 32 f)
def fixM (a b : Nat → Nat → Int32) : Prop := (∀ k : Nat, k ≠ 0 → k ≠ 16 → k ≠ 17 → k ≠ 18 → b k = a k) ∧ (∀ f : Nat, f < 30 ∨ 38 ≤ f → b 0 f = a 0 f) ∧ b 16 0 = a 16 0
theorem fixX_rf {a : Nat → Nat → Int32} : fixX a a := ⟨fun _ _ _ _ _ _ _ => rfl, fun _ _ => rfl⟩
theorem fixX_tr {a b c : Nat → Nat → Int32} (h1 : fixX a b) (h2 : fixX b c) : fixX a c := ⟨fun k a1 a2 a3 a4 a5 a6 => (h2.1 k a1 a2 a3 a4 a5 a6).trans (h1.1 k a1 a2 a3 a4 a5 a6), fun f hf => (h2.2 f hf).trans (h1.2 f hf)⟩
theorem fixM_rf {a : Nat → Nat → Int32} : fixM a a := ⟨fun _ _ _ _ _ => rfl, fun _ _ => rfl, rfl⟩
theorem fixM_tr {a b c : Nat → Nat → Int32} (h1 : fixM a b) (h2 : fixM b c) : fixM a c := ⟨fun k a1 a2 a3 a4 => (h2.1 k a1 a2 a3 a4).trans (h1.1 k a1 a2 a3 a4), fun f hf => (h2.2.1 f hf).trans (h1.2.1 f hf), h2.2.2.trans h1.2.2⟩
theorem up_ne {mu : Nat → Nat → Int32} {k j : Nat} {g : Nat → Int32} (h : j ≠ k) : va_up mu k g j = mu j := by simp [va_up, h]
theorem up_eq {mu : Nat → Nat → Int32} {k : Nat} {g : Nat → Int32} : va_up mu k g k = g := by simp [va_up]
theorem ud_ne {f : Nat → Int32} {x y : Nat} {v : Int32} (h : y ≠ x) : upd f x v y = f y := by simp [upd, h]
theorem ud_eq {f : Nat → Int32} {x : Nat} {v : Int32} : upd f x v x = v := by simp [upd]
/-- a number written: the other numbers -/
theorem uw_k {mu nu : Nat → Nat → Int32} {k : Nat} {g : Nat → Int32} (h : va_up mu k g = nu) : ∀ j : Nat, j ≠ k → nu j = mu j := fun j hj => by rw [← h]; exact up_ne hj
theorem uw_f {mu nu : Nat → Nat → Int32} {k f : Nat} {v : Int32} (h : va_up mu k (upd (mu k) f v) = nu) : ∀ j : Nat, j ≠ f → nu k j = mu k j := fun j hj => by rw [← h, up_eq]; exact ud_ne hj
theorem uw_v {mu nu : Nat → Nat → Int32} {k f : Nat} {v : Int32} (h : va_up mu k (upd (mu k) f v) = nu) : nu k f = v := by rw [← h, up_eq]; exact ud_eq
theorem take55 {mu z : Nat → Nat → Int32} {s p : Int32} (h : z = F_sx_take55 mu s p) : (∀ k : Nat, k ≠ 55 → k ≠ 57 → z k = mu k) ∧ z 55 1 = s ∧ z 55 2 = p ∧ z 55 3 = 1 := by
  unfold F_sx_take55 at h
  obtain ⟨t1, e1, h⟩ := letv_out h
  obtain ⟨n2, e2, h⟩ := letv_out h
  obtain ⟨n4, e4, h⟩ := letv_out h
  obtain ⟨n7, e7, h⟩ := letv_out h
  obtain ⟨n11, e11, h⟩ := letv_out h
  subst h
  refine ⟨fun k h1 h2 => ?_, ?_, ?_, uw_v e11⟩
  · rw [uw_k e11 k h1, uw_k e7 k h1, uw_k e4 k h1, uw_k e2 k h2]
  · rw [uw_f e11 1 (by decide), uw_f e7 1 (by decide), uw_v e4]
  · rw [uw_f e11 2 (by decide), uw_v e7]
theorem take56 {mu z : Nat → Nat → Int32} {s p : Int32} (h : z = F_sx_take56 mu s p) : (∀ k : Nat, k ≠ 56 → k ≠ 58 → z k = mu k) ∧ z 56 1 = s ∧ z 56 2 = p ∧ z 56 3 = 1 := by
  unfold F_sx_take56 at h
  obtain ⟨t1, e1, h⟩ := letv_out h
  obtain ⟨n2, e2, h⟩ := letv_out h
  obtain ⟨n4, e4, h⟩ := letv_out h
  obtain ⟨n7, e7, h⟩ := letv_out h
  obtain ⟨n11, e11, h⟩ := letv_out h
  subst h
  refine ⟨fun k h1 h2 => ?_, ?_, ?_, uw_v e11⟩
  · rw [uw_k e11 k h1, uw_k e7 k h1, uw_k e4 k h1, uw_k e2 k h2]
  · rw [uw_f e11 1 (by decide), uw_f e7 1 (by decide), uw_v e4]
  · rw [uw_f e11 2 (by decide), uw_v e7]
theorem copy17 {vn : Int32} : ∀ (n : Nat) (i : Int32) (nu : Nat → Nat → Int32) (k : Nat), k ≠ 17 → L_sm_copyRoute17_2_0 vn n i nu k = nu k := by
  intro n
  induction n with
  | zero => intro i nu k hk; rfl
  | succ n ih =>
    intro i nu k hk
    unfold L_sm_copyRoute17_2_0
    by_cases c : i ≥ vn
    · rw [if_pos c]
    · rw [if_neg c]
      simp only [letv_eq]
      rw [ih _ _ k hk]
      exact up_ne hk
theorem copy18 {vn : Int32} : ∀ (n : Nat) (i : Int32) (nu : Nat → Nat → Int32) (k : Nat), k ≠ 18 → L_sm_copyRoute18_2_0 vn n i nu k = nu k := by
  intro n
  induction n with
  | zero => intro i nu k hk; rfl
  | succ n ih =>
    intro i nu k hk
    unfold L_sm_copyRoute18_2_0
    by_cases c : i ≥ vn
    · rw [if_pos c]
    · rw [if_neg c]
      simp only [letv_eq]
      rw [ih _ _ k hk]
      exact up_ne hk
-- the class's arrival in three steps
def ax3 (nu : Nat → Nat → Int32) (vs vu vp : Int32) : Nat → Nat → Int32 :=
  LETV (nu 32 12 : Int32) fun y18 =>
  LETV (y18 + 1 : Int32) fun t19 =>
  LETV (va_up nu 32 (upd (nu 32) 12 t19) : Nat → Nat → Int32) fun nu20 =>
  LETV (nu20 32 13 : Int32) fun y25 =>
  LETV (nu20 32 5 : Int32) fun y26 =>
  LETV (1 <<< (y26 &&& 31) : Int32) fun t27 =>
  LETV (t27 ^^^ (-1) : Int32) fun t28 =>
  LETV (vu &&& t28 : Int32) fun t29 =>
  LETV (y25 &&& t29 : Int32) fun t30 =>
  LETV (va_up nu20 32 (upd (nu20 32) 13 t30) : Nat → Nat → Int32) fun nu31 =>
  LETV (nu31 56 3 : Int32) fun y38 =>
  if y38 = (0 : Int32) then (
    LETV (F_sx_take56 nu31 (vs : Int32) (vp : Int32) : Nat → Nat → Int32) fun xi40 =>
    xi40
  ) else (
    LETV (nu31 56 1 : Int32) fun y42 =>
    if vs < y42 then (
      LETV (F_sx_take56 nu31 (vs : Int32) (vp : Int32) : Nat → Nat → Int32) fun xi44 =>
      xi44
    ) else (
      if vs = y42 then (
        LETV (nu31 56 2 : Int32) fun y47 =>
        if vp ≥ y47 then (
          nu31
        ) else (
          LETV (F_sx_take56 nu31 (vs : Int32) (vp : Int32) : Nat → Nat → Int32) fun xi49 =>
          xi49
        )
      ) else (
        nu31
      )
    )
  )
def ax2 (xi8 : Nat → Nat → Int32) (vs vu vp : Int32) : Nat → Nat → Int32 :=
  LETV (F_sx_needFor xi8 (vs : Int32) (vp : Int32) : Int32) fun r10 =>
  LETV (xi8 32 14 : Int32) fun y11 =>
  LETV (if r10 < y11 then r10 else y11 : Int32) fun t12 =>
  LETV (va_up xi8 32 (upd (xi8 32) 14 t12) : Nat → Nat → Int32) fun nu13 =>
  LETV (nu13 32 8 : Int32) fun y16 =>
  if r10 ≤ y16 then (
    ax3 nu13 vs vu vp
  ) else (
    nu13
  )
def ax1 (mu : Nat → Nat → Int32) (vs vu vp : Int32) : Nat → Nat → Int32 :=
  LETV (mu 32 11 : Int32) fun y1 =>
  LETV (y1 + 1 : Int32) fun t2 =>
  LETV (va_up mu 32 (upd (mu 32) 11 t2) : Nat → Nat → Int32) fun nu3 =>
  LETV (nu3 55 3 : Int32) fun y6 =>
  if y6 = (0 : Int32) then (
    LETV (F_sx_take55 nu3 (vs : Int32) (vp : Int32) : Nat → Nat → Int32) fun xi8 =>
    ax2 xi8 vs vu vp
  ) else (
    LETV (nu3 55 2 : Int32) fun y51 =>
    if vp < y51 then (
      LETV (F_sx_take55 nu3 (vs : Int32) (vp : Int32) : Nat → Nat → Int32) fun xi53 =>
      ax2 xi53 vs vu vp
    ) else (
      if vp = y51 then (
        LETV (nu3 55 1 : Int32) fun y147 =>
        if vs ≥ y147 then (
          ax2 nu3 vs vu vp
        ) else (
          LETV (F_sx_take55 nu3 (vs : Int32) (vp : Int32) : Nat → Nat → Int32) fun xi202 =>
          ax2 xi202 vs vu vp
        )
      ) else (
        ax2 nu3 vs vu vp
      )
    )
  )
theorem ax_eq (mu : Nat → Nat → Int32) (vs vu vp : Int32) : F_sx_R_arrive mu vs vu vp = ax1 mu vs vu vp := rfl
theorem ax1_out {nu z : Nat → Nat → Int32} {s u p : Int32} (h : z = F_sx_R_arrive nu s u p) : ∃ nC : Nat → Nat → Int32, z = ax2 nC s u p ∧ (∀ k : Nat, k ≠ 32 → k ≠ 55 → k ≠ 57 → nC k = nu k) ∧ (∀ f : Nat, f ≠ 11 → nC 32 f = nu 32 f) ∧ nC 32 11 = nu 32 11 + 1 ∧ (((nu 55 3 = 0 ∨ p < nu 55 2 ∨ (p = nu 55 2 ∧ ¬ s ≥ nu 55 1)) ∧ nC 55 3 = 1 ∧ nC 55 1 = s ∧ nC 55 2 = p) ∨ (¬ (nu 55 3 = 0 ∨ p < nu 55 2 ∨ (p = nu 55 2 ∧ ¬ s ≥ nu 55 1)) ∧ nC 55 = nu 55)) := by
  rw [ax_eq] at h
  unfold ax1 at h
  obtain ⟨y1, e1, h⟩ := letv_out h
  obtain ⟨t2, e2, h⟩ := letv_out h
  obtain ⟨n3, e3, h⟩ := letv_out h
  obtain ⟨y6, e6, h⟩ := letv_out h
  have a55 : n3 55 = nu 55 := uw_k e3 55 (by decide)
  rw [a55] at e6
  have v11 : n3 32 11 = nu 32 11 + 1 := by rw [uw_v e3, ← e2, ← e1]
  have tk : ∀ xi : Nat → Nat → Int32, xi = F_sx_take55 n3 s p → (∀ k : Nat, k ≠ 32 → k ≠ 55 → k ≠ 57 → xi k = nu k) ∧ (∀ f : Nat, f ≠ 11 → xi 32 f = nu 32 f) ∧ xi 32 11 = nu 32 11 + 1 ∧ xi 55 3 = 1 ∧ xi 55 1 = s ∧ xi 55 2 = p := fun xi hx => by
    obtain ⟨a, b, c, d⟩ := take55 hx
    refine ⟨fun k h1 h2 h3 => ?_, fun f hf => ?_, ?_, d, b, c⟩
    · rw [a k h2 h3]; exact uw_k e3 k h1
    · rw [a 32 (by decide) (by decide)]; exact uw_f e3 f hf
    · rw [a 32 (by decide) (by decide)]; exact v11
  have no : (∀ k : Nat, k ≠ 32 → k ≠ 55 → k ≠ 57 → n3 k = nu k) ∧ (∀ f : Nat, f ≠ 11 → n3 32 f = nu 32 f) := ⟨fun k h1 _ _ => uw_k e3 k h1, fun f hf => uw_f e3 f hf⟩
  by_cases c1 : y6 = (0 : Int32)
  · rw [if_pos c1] at h
    obtain ⟨x, ex, h⟩ := letv_out h
    obtain ⟨a, b, c, d, e, f⟩ := tk x ex.symm
    exact ⟨x, h, a, b, c, Or.inl ⟨Or.inl (e6.trans c1), d, e, f⟩⟩
  · rw [if_neg c1] at h
    have q1 : ¬ nu 55 3 = 0 := fun e => c1 (e6.symm.trans e)
    obtain ⟨y51, e51, h⟩ := letv_out h
    rw [a55] at e51
    by_cases c2 : p < y51
    · rw [if_pos c2] at h
      obtain ⟨x, ex, h⟩ := letv_out h
      obtain ⟨a, b, c, d, e, f⟩ := tk x ex.symm
      exact ⟨x, h, a, b, c, Or.inl ⟨Or.inr (Or.inl (by rw [e51]; exact c2)), d, e, f⟩⟩
    · rw [if_neg c2] at h
      by_cases c3 : p = y51
      · rw [if_pos c3] at h
        obtain ⟨y1, e1, h⟩ := letv_out h
        rw [a55] at e1
        by_cases c4 : s ≥ y1
        · rw [if_pos c4] at h
          refine ⟨n3, h, no.1, no.2, v11, Or.inr ⟨?_, a55⟩⟩
          rintro (e | e | ⟨e, f⟩)
          · exact q1 e
          · rw [e51] at e; exact c2 e
          · rw [e1] at f; exact f c4
        · rw [if_neg c4] at h
          obtain ⟨x, ex, h⟩ := letv_out h
          obtain ⟨a, b, c, d, e, f⟩ := tk x ex.symm
          exact ⟨x, h, a, b, c, Or.inl ⟨Or.inr (Or.inr ⟨by rw [e51]; exact c3, by rw [e1]; exact c4⟩), d, e, f⟩⟩
      · rw [if_neg c3] at h
        refine ⟨n3, h, no.1, no.2, v11, Or.inr ⟨?_, a55⟩⟩
        rintro (e | e | ⟨e, f⟩)
        · exact q1 e
        · rw [e51] at e; exact c2 e
        · rw [e51] at e; exact c3 e
theorem ax2_out {nu z : Nat → Nat → Int32} {s u p : Int32} (h : z = ax2 nu s u p) : ∃ nN : Nat → Nat → Int32, (∀ k : Nat, k ≠ 32 → nN k = nu k) ∧ (∀ f : Nat, f ≠ 14 → nN 32 f = nu 32 f) ∧ nN 32 14 = (if F_sx_needFor nu s p < nu 32 14 then F_sx_needFor nu s p else nu 32 14) ∧ ((F_sx_needFor nu s p ≤ nu 32 8 ∧ z = ax3 nN s u p) ∨ (¬ F_sx_needFor nu s p ≤ nu 32 8 ∧ z = nN)) := by
  unfold ax2 at h
  obtain ⟨r10, e10, h⟩ := letv_out h
  obtain ⟨y11, e11, h⟩ := letv_out h
  obtain ⟨t12, e12, h⟩ := letv_out h
  obtain ⟨n13, e13, h⟩ := letv_out h
  obtain ⟨y16, e16, h⟩ := letv_out h
  rw [uw_f e13 8 (by decide)] at e16
  refine ⟨n13, uw_k e13, uw_f e13, ?_, ?_⟩
  · rw [uw_v e13, ← e12, e10, e11]
  · rw [e10, e16]
    by_cases c : r10 ≤ y16
    · rw [if_pos c] at h
      exact Or.inl ⟨c, h⟩
    · rw [if_neg c] at h
      exact Or.inr ⟨c, h⟩
theorem ax3_out {nu z : Nat → Nat → Int32} {s u p : Int32} (h : z = ax3 nu s u p) : (∀ k : Nat, k ≠ 32 → k ≠ 56 → k ≠ 58 → z k = nu k) ∧ (∀ f : Nat, f ≠ 12 → f ≠ 13 → z 32 f = nu 32 f) ∧ z 32 12 = nu 32 12 + 1 ∧ z 32 13 = nu 32 13 &&& (u &&& (((1 : Int32) <<< (nu 32 5 &&& 31)) ^^^ (-1))) ∧ (((nu 56 3 = 0 ∨ s < nu 56 1 ∨ (s = nu 56 1 ∧ ¬ p ≥ nu 56 2)) ∧ z 56 3 = 1 ∧ z 56 1 = s ∧ z 56 2 = p) ∨ (¬ (nu 56 3 = 0 ∨ s < nu 56 1 ∨ (s = nu 56 1 ∧ ¬ p ≥ nu 56 2)) ∧ z 56 = nu 56)) := by
  unfold ax3 at h
  obtain ⟨y18, e18, h⟩ := letv_out h
  obtain ⟨t19, e19, h⟩ := letv_out h
  obtain ⟨n20, e20, h⟩ := letv_out h
  obtain ⟨y25, e25, h⟩ := letv_out h
  obtain ⟨y26, e26, h⟩ := letv_out h
  obtain ⟨t27, e27, h⟩ := letv_out h
  obtain ⟨t28, e28, h⟩ := letv_out h
  obtain ⟨t29, e29, h⟩ := letv_out h
  obtain ⟨t30, e30, h⟩ := letv_out h
  obtain ⟨n31, e31, h⟩ := letv_out h
  obtain ⟨y38, e38, h⟩ := letv_out h
  have a56 : n31 56 = nu 56 := (uw_k e31 56 (by decide)).trans (uw_k e20 56 (by decide))
  rw [a56] at e38
  have v12 : n31 32 12 = nu 32 12 + 1 := by rw [uw_f e31 12 (by decide), uw_v e20, ← e19, ← e18]
  have v13 : n31 32 13 = nu 32 13 &&& (u &&& (((1 : Int32) <<< (nu 32 5 &&& 31)) ^^^ (-1))) := by
    rw [uw_v e31, ← e30, ← e29, ← e28, ← e27, ← e26, ← e25, uw_f e20 13 (by decide), uw_f e20 5 (by decide)]
  have nk : ∀ k : Nat, k ≠ 32 → n31 k = nu k := fun k hk => (uw_k e31 k hk).trans (uw_k e20 k hk)
  have nf : ∀ f : Nat, f ≠ 12 → f ≠ 13 → n31 32 f = nu 32 f := fun f h1 h2 => (uw_f e31 f h2).trans (uw_f e20 f h1)
  have tk : ∀ xi : Nat → Nat → Int32, xi = F_sx_take56 n31 s p → (∀ k : Nat, k ≠ 32 → k ≠ 56 → k ≠ 58 → xi k = nu k) ∧ (∀ f : Nat, f ≠ 12 → f ≠ 13 → xi 32 f = nu 32 f) ∧ xi 32 12 = nu 32 12 + 1 ∧ xi 32 13 = nu 32 13 &&& (u &&& (((1 : Int32) <<< (nu 32 5 &&& 31)) ^^^ (-1))) ∧ xi 56 3 = 1 ∧ xi 56 1 = s ∧ xi 56 2 = p := fun xi hx => by
    obtain ⟨a, b, c, d⟩ := take56 hx
    refine ⟨fun k h1 h2 h3 => ?_, fun f h1 h2 => ?_, ?_, ?_, d, b, c⟩
    · rw [a k h2 h3]; exact nk k h1
    · rw [a 32 (by decide) (by decide)]; exact nf f h1 h2
    · rw [a 32 (by decide) (by decide)]; exact v12
    · rw [a 32 (by decide) (by decide)]; exact v13
  have no : (∀ k : Nat, k ≠ 32 → k ≠ 56 → k ≠ 58 → n31 k = nu k) := fun k h1 _ _ => nk k h1
  by_cases c1 : y38 = (0 : Int32)
  · rw [if_pos c1] at h
    obtain ⟨x, ex, h⟩ := letv_out h
    subst h
    obtain ⟨a, b, c, d, e, f, g⟩ := tk z ex.symm
    exact ⟨a, b, c, d, Or.inl ⟨Or.inl (e38.trans c1), e, f, g⟩⟩
  · rw [if_neg c1] at h
    have q1 : ¬ nu 56 3 = 0 := fun e => c1 (e38.symm.trans e)
    obtain ⟨y42, e42, h⟩ := letv_out h
    rw [a56] at e42
    by_cases c2 : s < y42
    · rw [if_pos c2] at h
      obtain ⟨x, ex, h⟩ := letv_out h
      subst h
      obtain ⟨a, b, c, d, e, f, g⟩ := tk z ex.symm
      exact ⟨a, b, c, d, Or.inl ⟨Or.inr (Or.inl (by rw [e42]; exact c2)), e, f, g⟩⟩
    · rw [if_neg c2] at h
      by_cases c3 : s = y42
      · rw [if_pos c3] at h
        obtain ⟨y47, e47, h⟩ := letv_out h
        rw [a56] at e47
        by_cases c4 : p ≥ y47
        · rw [if_pos c4] at h
          subst h
          refine ⟨no, nf, v12, v13, Or.inr ⟨?_, a56⟩⟩
          rintro (e | e | ⟨e, f⟩)
          · exact q1 e
          · rw [e42] at e; exact c2 e
          · rw [e47] at f; exact f c4
        · rw [if_neg c4] at h
          obtain ⟨x, ex, h⟩ := letv_out h
          subst h
          obtain ⟨a, b, c, d, e, f, g⟩ := tk z ex.symm
          exact ⟨a, b, c, d, Or.inl ⟨Or.inr (Or.inr ⟨by rw [e42]; exact c3, by rw [e47]; exact c4⟩), e, f, g⟩⟩
      · rw [if_neg c3] at h
        subst h
        refine ⟨no, nf, v12, v13, Or.inr ⟨?_, a56⟩⟩
        rintro (e | e | ⟨e, f⟩)
        · exact q1 e
        · rw [e42] at e; exact c2 e
        · rw [e42] at e; exact c3 e

