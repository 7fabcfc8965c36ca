-- ===== plain rows =====
theorem il_lt {a b : Int32} (h : a < b) : a.toInt < b.toInt := Int32.lt_iff_toInt_lt.mp h
theorem il_le {a b : Int32} (h : a ≤ b) : a.toInt ≤ b.toInt := Int32.le_iff_toInt_le.mp h
theorem il_nlt {a b : Int32} (h : ¬ a < b) : b.toInt ≤ a.toInt := Int.not_lt.mp fun q => h (Int32.lt_iff_toInt_lt.mpr q)
theorem il_nle {a b : Int32} (h : ¬ a ≤ b) : b.toInt < a.toInt := Int.not_le.mp fun q => h (Int32.le_iff_toInt_le.mpr q)
theorem il_eq {a b : Int32} (h : a = b) : a.toInt = b.toInt := congrArg Int32.toInt h
theorem il_ne {a b : Int32} (h : ¬ a = b) : ¬ a.toInt = b.toInt := fun q => h (Int32.toInt_inj.mp q)
theorem ic_of {P : Prop} [Decidable P] {r a b : Int32} (h : r = if P then a else b) : (P ∧ r = a) ∨ (¬ P ∧ r = b) := by
  by_cases q : P
  · exact Or.inl ⟨q, by rw [h, if_pos q]⟩
  · exact Or.inr ⟨q, by rw [h, if_neg q]⟩
theorem vi_of {x : Int32} {n : Nat} (h1 : 0 ≤ x.toInt) (h2 : x.toInt < n) : vp_in x n := vp_in_iff.mpr ⟨h1, h2⟩
theorem vi_lt {x : Int32} {n : Nat} (h : vp_in x n) : x.toNatClampNeg < n := Nat.not_le.mp fun q => h (Or.inr q)
section PQ
variable {p : Program} {l : Launch} {e : Env} {R : Room} {s : State} {m : MethodId} {args : Array Value} {below : List Frame} {meth : Method} {c : Code} {H : Heap} {locs : List Loc} {cells slots : Nat} {Q : State → Prop}
variable {pc : Nat} {ls : Array Slot} {rest st0 : List Value} {a : Array Value} {A0 : Nat → Prop} {H0 : Heap} {mc ms : Nat}
theorem lq_i {x : Int32} (y : Int32) (h : x = y) (k : W p l e R s m args below meth c H locs cells slots Q (F0 m pc ls (.int y :: rest))) : W p l e R s m args below meth c H locs cells slots Q (F0 m pc ls (.int x :: rest)) := by
  subst h; exact k
theorem lq_l {x : Int64} (y : Int64) (h : x = y) (k : W p l e R s m args below meth c H locs cells slots Q (F0 m pc ls (.long y :: rest))) : W p l e R s m args below meth c H locs cells slots Q (F0 m pc ls (.long x :: rest)) := by
  subst h; exact k
theorem lq_v {x : Value} (y : Value) (h : x = y) (k : W p l e R s m args below meth c H locs cells slots Q (F0 m pc ls (y :: rest))) : W p l e R s m args below meth c H locs cells slots Q (F0 m pc ls (x :: rest)) := by
  subst h; exact k
/-- behind a call that only reads: the heap is the same -/
theorem cr_i {post : Int32 → Unit → Prop} (hr : va_Run p l e R s m args below meth c H locs cells slots 0 0 (F0 m pc ls st0) rest (va_Qi post (fun _ t => t.heap = H) (fun _ => False) a) (fun _ => False)) (hS : va_S A0 H0 H locs)
    (kk : ∀ (r : Int32), post r () → ∀ (locs1 : List Loc), va_S A0 H0 H locs1 → W p l e R s m args below meth c H locs1 cells slots Q (F0 m (pc + 3) ls (.int r :: rest))) : W p l e R s m args below meth c H locs cells slots Q (F0 m pc ls st0) := by
  refine va_calli hr hS (fun q _ h => h.elim) (fun q h => h.elim) (fun r u t H1 locs1 ht hvm hw hB hz hk hS1 => ?_)
  have e1 : H1 = H := ht.symm.trans hB
  subst e1
  exact kk r hw locs1 hS1
theorem cr_l {post : Int64 → Unit → Prop} (hr : va_Run p l e R s m args below meth c H locs cells slots 0 0 (F0 m pc ls st0) rest (va_Ql post (fun _ t => t.heap = H) (fun _ => False) a) (fun _ => False)) (hS : va_S A0 H0 H locs)
    (kk : ∀ (r : Int64), post r () → ∀ (locs1 : List Loc), va_S A0 H0 H locs1 → W p l e R s m args below meth c H locs1 cells slots Q (F0 m (pc + 3) ls (.long r :: rest))) : W p l e R s m args below meth c H locs cells slots Q (F0 m pc ls st0) := by
  refine va_calll hr hS (fun q _ h => h.elim) (fun q h => h.elim) (fun r u t H1 locs1 ht hvm hw hB hz hk hS1 => ?_)
  have e1 : H1 = H := ht.symm.trans hB
  subst e1
  exact kk r hw locs1 hS1
end PQ
/-- the start of a contract here: the heap as it is, and the classes known -/
def pb_P (D : va_G) (cl : List vw_C) (tys : List (ClassId × FieldType)) (H : Heap) (U : State) : Prop := U.heap = H ∧ va_K D cl tys U
theorem pb_c {D : va_G} {cl : List vw_C} {tys : List (ClassId × FieldType)} {H : Heap} {av : List Value} : FrameBlind (va_Pc av (pb_P D cl tys H)) := fun a U g mk q => by
  obtain ⟨q0, q1, qK⟩ := q
  exact ⟨q0, q1, va_K.moved (u := U) (U := U.calling g mk a) (Vm.Alike.refl U.vm) qK⟩
theorem pb_m {D : va_G} {cl : List vw_C} {tys : List (ClassId × FieldType)} {H : Heap} {av : List Value} {s : State} (hK : va_K D cl tys s) : ∀ U : State, U.heap = H → s.WarmedH U.vm → va_Pc av (pb_P D cl tys H) av.toArray U := fun _ hU hW => ⟨rfl, hU, va_K.moved hW.alike hK⟩
theorem lx_cmp1 {x : Int32} (h : x.toInt < 2147483647) : lg_cmp x.toInt64 2147483647 = -1 := by
  have e1 : x.toInt64.toInt = x.toInt := Int32.toInt_toInt64 x
  have e2 : (2147483647 : Int64).toInt = 2147483647 := by decide
  have h1 : ¬ (2147483647 : Int64) < x.toInt64 := fun q => by have := Int64.lt_iff_toInt_lt.mp q; omega
  have h2 : ¬ x.toInt64 = 2147483647 := fun q => by have := congrArg Int64.toInt q; omega
  simp [lg_cmp, h1, h2]
theorem lx_cmp0 {x : Int32} (h : ¬ x.toInt < 2147483647) : lg_cmp x.toInt64 2147483647 = 0 := by
  have e1 : x.toInt64.toInt = x.toInt := Int32.toInt_toInt64 x
  have e2 : (2147483647 : Int64).toInt = 2147483647 := by decide
  have e3 : x.toInt < 2147483648 := by have := Int32.toInt_lt x; omega
  have e4 : x.toInt64 = 2147483647 := Int64.toInt_inj.mp (by omega)
  rw [e4]
  decide
theorem lx_three {x : Int32} (h1 : 0 ≤ x.toInt) (h2 : x.toInt < 3) : x = 0 ∨ x = 1 ∨ x = 2 := by
  rcases (show x.toInt = 0 ∨ x.toInt = 1 ∨ x.toInt = 2 by omega) with h | h | h
  · exact Or.inl (Int32.toInt_inj.mp (h.trans (by decide)))
  · exact Or.inr (Or.inl (Int32.toInt_inj.mp (h.trans (by decide))))
  · exact Or.inr (Or.inr (Int32.toInt_inj.mp (h.trans (by decide))))
theorem va_rest {A0 : Nat → Prop} {D : va_G} {cl : List vw_C} {ws wc wr : va_W} {H H1 : Heap} (hP : va_P D cl ws H) (hD : va_D A0 ws) (isC isR : List Nat) (hC : isC.map (fun i => ws[i]?) = wc.map some) (hR : isR.map (fun i => ws[i]?) = wr.map some) (hn : va_nd isR = true) (hdis : ∀ i ∈ isR, i ∉ isC)
    (hk : ∀ q : Nat, q < H.size → ¬ va_A wc H.size q → H1[q]? = H[q]?) (hF : ∀ q, va_A wc H.size q → A0 q) : va_P D cl wr H1 ∧ va_D A0 wr := by
  have h := va_join (w1 := []) hP hD isC isR hC hR hn hdis hk hF (fun k q h => by simp at h) ⟨fun i j p q h => by simp at h, fun k q h => by simp at h⟩
  rw [List.append_nil] at h
  exact h
theorem p2_c {x y : Nat × va_E} {k : Nat} {q : Nat × va_E} (h : [x, y][k]? = some q) : (k = 0 ∧ q = x) ∨ (k = 1 ∧ q = y) := by
  match k, h with
  | 0, h => exact Or.inl ⟨rfl, (Option.some.inj h).symm⟩
  | 1, h => exact Or.inr ⟨rfl, (Option.some.inj h).symm⟩
  | k + 2, h => simp at h
theorem p2_P {D : va_G} {cl : List vw_C} {ws : va_W} {H : Heap} {x y : Nat × va_E} {k1 k2 : Nat} (hP : va_P D cl ws H) (h1 : ws[k1]? = some x) (h2 : ws[k2]? = some y) : va_P D cl [x, y] H := fun k q hk => by
  rcases p2_c hk with ⟨-, rfl⟩ | ⟨-, rfl⟩
  · exact hP _ _ h1
  · exact hP _ _ h2
theorem p2_D {A : Nat → Prop} {ws : va_W} {x y : Nat × va_E} {k1 k2 : Nat} (hD : va_D A ws) (h1 : ws[k1]? = some x) (h2 : ws[k2]? = some y) (hne : k1 ≠ k2) : va_D A [x, y] := by
  refine ⟨fun i j p q hi hj e => ?_, fun k q hk => ?_⟩
  · rcases p2_c hi with ⟨hi, hp⟩ | ⟨hi, hp⟩ <;> rcases p2_c hj with ⟨hj, hq⟩ | ⟨hj, hq⟩
    · rw [hi, hj]
    · rw [hp, hq] at e
      exact absurd (hD.1 _ _ _ _ h1 h2 e) hne
    · rw [hp, hq] at e
      exact absurd (hD.1 _ _ _ _ h1 h2 e.symm) hne
    · rw [hi, hj]
  · rcases p2_c hk with ⟨-, hp⟩ | ⟨-, hp⟩
    · rw [hp]; exact hD.2 _ _ h1
    · rw [hp]; exact hD.2 _ _ h2
theorem p2_A {ws : va_W} {x y : Nat × va_E} {k1 k2 n : Nat} (h1 : ws[k1]? = some x) (h2 : ws[k2]? = some y) : ∀ q : Nat, va_A [x, y] n q → va_A ws n q := fun q h => by
  rcases h with ⟨k, e, h⟩ | h
  · rcases p2_c h with ⟨-, hp⟩ | ⟨-, hp⟩
    · exact Or.inl ⟨k1, e, by rw [h1, hp]⟩
    · exact Or.inl ⟨k2, e, by rw [h2, hp]⟩
  · exact Or.inr h
theorem k1_K {D : va_G} {cl : List vw_C} {tys : List (ClassId × FieldType)} {U : State} {x : ClassId × FieldType} {k : Nat} (hK : va_K D cl tys U) (h : tys[k]? = some x) : va_K D cl [x] U := ⟨hK.1, fun i q hi => by
  match i, hi with
  | 0, hi => cases hi; exact hK.2 k _ h
  | i + 1, hi => simp at hi⟩
theorem arrV_same {cA : ClassId} {n : Nat} {f g : Nat → Value} (h : ∀ j, j < n → f j = g j) : arrV cA n f = arrV cA n g := by
  unfold arrV
  congr 2
  funext j
  exact h j.val j.isLt
theorem va_reI {D : va_G} {cl : List vw_C} {A : Nat → Prop} {ws : va_W} {H : Heap} {a n : Nat} {cA : ClassId} {f : Nat → Int32} (k : Nat) (g : Nat → Int32) (hP : va_P D cl ws H) (hD : va_D A ws) (he : ws[k]? = some (a, .inl (cA, n, .inl f))) (h : ∀ j, j < n → f j = g j) : va_P D cl (ws.set k (a, .inl (cA, n, .inl g))) H ∧ va_D A (ws.set k (a, .inl (cA, n, .inl g))) := by
  refine ⟨hP.set hD he ?_ (fun _ _ => rfl), hD.set he⟩
  have h1 : H[a]? = some (vp_cell cA (n, .inl f)) := hP k _ he
  show H[a]? = some (vp_cell cA (n, .inl g))
  rw [h1, vp_cell_i, vp_cell_i, arrV_same (fun j hj => by rw [h j hj])]
theorem va_reQ {D : va_G} {cl : List vw_C} {A : Nat → Prop} {ws : va_W} {H : Heap} {a n : Nat} {cA : ClassId} {f : Nat → Option Nat} (k : Nat) (g : Nat → Option Nat) (hP : va_P D cl ws H) (hD : va_D A ws) (he : ws[k]? = some (a, .inl (cA, n, .inr (.inr (.inr (.inr f)))))) (h : ∀ j, j < n → f j = g j) : va_P D cl (ws.set k (a, .inl (cA, n, .inr (.inr (.inr (.inr g)))))) H ∧ va_D A (ws.set k (a, .inl (cA, n, .inr (.inr (.inr (.inr g)))))) := by
  refine ⟨hP.set hD he ?_ (fun _ _ => rfl), hD.set he⟩
  have h1 : H[a]? = some (vp_cell cA (n, .inr (.inr (.inr (.inr f))))) := hP k _ he
  show H[a]? = some (vp_cell cA (n, .inr (.inr (.inr (.inr g)))))
  rw [h1, vp_cell_q, vp_cell_q, arrV_same (fun j hj => by rw [h j hj])]
theorem lx_ixR {x y : Int32} (hx : vp_in x 6) (hy : vp_in y 40) : vp_in (40 * x + y) 240 := by
  obtain ⟨j, hj, rfl⟩ := vp_in_of hx (by decide)
  obtain ⟨k, hk, rfl⟩ := vp_in_of hy (by decide)
  rw [show (40 : Int32) = nI 40 from rfl, pk_mul, nI_add]
  exact vp_in_nI (by omega) (by decide)
theorem lx_ixT {x y : Int32} (hx : vp_in x 4) (hy : vp_in y 80) : vp_in (80 * x + y) 320 := by
  obtain ⟨j, hj, rfl⟩ := vp_in_of hx (by decide)
  obtain ⟨k, hk, rfl⟩ := vp_in_of hy (by decide)
  rw [show (80 : Int32) = nI 80 from rfl, pk_mul, nI_add]
  exact vp_in_nI (by omega) (by decide)
-- ===== worlds that a table of numbers gives: cell k holds the numbers mu k =====
def wR (N : Nat) (ad : Nat → Nat) (E : Nat → (Nat → Int32) → va_E) (mu : Nat → Nat → Int32) : va_W := (List.range N).map (fun k => (ad k, E k (mu k)))
theorem wR_get {N : Nat} {ad : Nat → Nat} {E : Nat → (Nat → Int32) → va_E} {mu : Nat → Nat → Int32} (k : Nat) (hk : k < N) : (wR N ad E mu)[k]? = some (ad k, E k (mu k)) := by
  unfold wR
  rw [List.getElem?_map, List.getElem?_range hk]
  rfl
theorem wR_len {N : Nat} {ad : Nat → Nat} {E : Nat → (Nat → Int32) → va_E} {mu : Nat → Nat → Int32} : (wR N ad E mu).length = N := by
  unfold wR
  rw [List.length_map, List.length_range]
theorem wR_some {N : Nat} {ad : Nat → Nat} {E : Nat → (Nat → Int32) → va_E} {mu : Nat → Nat → Int32} {k : Nat} {q : Nat × va_E} (h : (wR N ad E mu)[k]? = some q) : k < N ∧ q = (ad k, E k (mu k)) := by
  have hk : k < N := by
    have := (List.getElem?_eq_some_iff.mp h).1
    rw [wR_len] at this
    exact this
  rw [wR_get k hk] at h
  exact ⟨hk, (Option.some.inj h).symm⟩
theorem wR_set {N : Nat} {ad : Nat → Nat} {E : Nat → (Nat → Int32) → va_E} {mu : Nat → Nat → Int32} (k : Nat) (g : Nat → Int32) : (wR N ad E mu).set k (ad k, E k g) = wR N ad E (va_up mu k g) := by
  apply List.ext_getElem?
  intro j
  rw [List.getElem?_set]
  by_cases h : k = j
  · subst h
    rw [if_pos rfl, wR_len]
    by_cases hk : k < N
    · rw [if_pos hk, wR_get k hk]
      simp [va_up]
    · rw [if_neg hk]
      exact (List.getElem?_eq_none (by rw [wR_len]; omega)).symm
  · rw [if_neg h]
    by_cases hj : j < N
    · rw [wR_get j hj, wR_get j hj]
      have : va_up mu k g j = mu j := by simp [va_up, Ne.symm h]
      rw [this]
    · rw [List.getElem?_eq_none (by rw [wR_len]; omega), List.getElem?_eq_none (by rw [wR_len]; omega)]
theorem wR_P {D : va_G} {cl : List vw_C} {N : Nat} {ad : Nat → Nat} {E : Nat → (Nat → Int32) → va_E} {mu : Nat → Nat → Int32} {H : Heap} {k : Nat} {e1 : va_E} (g : Nat → Int32) (hP : va_P D cl ((wR N ad E mu).set k (ad k, e1)) H) (he : E k g = e1) : va_P D cl (wR N ad E (va_up mu k g)) H := by
  subst he
  rw [wR_set] at hP
  exact hP
theorem wR_D {A : Nat → Prop} {N : Nat} {ad : Nat → Nat} {E : Nat → (Nat → Int32) → va_E} {mu : Nat → Nat → Int32} (nu : Nat → Nat → Int32) (h : va_D A (wR N ad E mu)) : va_D A (wR N ad E nu) := by
  refine ⟨fun i j p q hi hj e => ?_, fun k q hk => ?_⟩
  · obtain ⟨h1, rfl⟩ := wR_some hi
    obtain ⟨h2, rfl⟩ := wR_some hj
    exact h.1 i j _ _ (wR_get i h1) (wR_get j h2) e
  · obtain ⟨h1, rfl⟩ := wR_some hk
    have h9 := h.2 k (ad k, E k (mu k)) (wR_get k h1)
    exact h9
theorem wR_A {N n : Nat} {ad : Nat → Nat} {E : Nat → (Nat → Int32) → va_E} {mu : Nat → Nat → Int32} (nu : Nat → Nat → Int32) {q : Nat} (h : va_A (wR N ad E mu) n q) : va_A (wR N ad E nu) n q := by
  rcases h with ⟨k, e, h⟩ | h
  · obtain ⟨h1, h2⟩ := wR_some h
    cases h2
    exact Or.inl ⟨k, _, wR_get k h1⟩
  · exact Or.inr h
/-- the numbers lie between two bounds, place by place -/
def okR (lo hi : Nat → Nat → Int) (mu : Nat → Nat → Int32) : Prop := ∀ k f : Nat, lo k f ≤ (mu k f).toInt ∧ (mu k f).toInt ≤ hi k f
theorem okR_up {lo hi : Nat → Nat → Int} {mu : Nat → Nat → Int32} (h : okR lo hi mu) (k f : Nat) (v : Int32) (h1 : lo k f ≤ v.toInt) (h2 : v.toInt ≤ hi k f) : okR lo hi (va_up mu k (upd (mu k) f v)) := fun k' f' => by
  unfold va_up upd
  by_cases e : k' = k
  · subst e
    rw [if_pos rfl]
    by_cases e2 : f' = f
    · subst e2
      simp only [if_true]
      exact ⟨h1, h2⟩
    · simp only [if_neg e2]
      exact h k' f'
  · rw [if_neg e]
    exact h k' f'
/-- what a call leaves as it was -/
def frR (ws : Nat → Prop) (mu nu : Nat → Nat → Int32) : Prop := ∀ k : Nat, ¬ ws k → nu k = mu k
theorem frR_rf {ws : Nat → Prop} {mu : Nat → Nat → Int32} : frR ws mu mu := fun _ _ => rfl
theorem frR_up {ws : Nat → Prop} {mu nu : Nat → Nat → Int32} (h : frR ws mu nu) (k : Nat) (g : Nat → Int32) (hk : ws k) : frR ws mu (va_up nu k g) := fun j hj => by
  unfold va_up
  by_cases e : j = k
  · subst e
    exact absurd hk hj
  · rw [if_neg e]
    exact h j hj
theorem frR_tr {ws w2 : Nat → Prop} {mu nu xi : Nat → Nat → Int32} (h : frR ws mu nu) (h2 : frR w2 nu xi) (hw : ∀ k, w2 k → ws k) : frR ws mu xi := fun j hj => (h2 j (fun q => hj (hw j q))).trans (h j hj)

theorem tI_add {a b : Int32} {x y : Int} (ha : a.toInt = x) (hb : b.toInt = y) (h1 : -2147483648 ≤ x + y) (h2 : x + y < 2147483648) : (a + b).toInt = x + y := by
  rw [Int32.toInt_add, ha, hb]
  exact Int.bmod_eq_of_le (by omega) (by omega)
theorem tI_sub {a b : Int32} {x y : Int} (ha : a.toInt = x) (hb : b.toInt = y) (h1 : -2147483648 ≤ x - y) (h2 : x - y < 2147483648) : (a - b).toInt = x - y := by
  rw [Int32.toInt_sub, ha, hb]
  exact Int.bmod_eq_of_le (by omega) (by omega)
theorem tI_mul {a b : Int32} {x y : Int} (ha : a.toInt = x) (hb : b.toInt = y) (h1 : -2147483648 ≤ x * y) (h2 : x * y < 2147483648) : (a * b).toInt = x * y := by
  rw [Int32.toInt_mul, ha, hb]
  exact Int.bmod_eq_of_le (by omega) (by omega)
theorem tI_lo (a : Int32) : -2147483648 ≤ a.toInt := Int32.le_toInt a
theorem tI_hi (a : Int32) : a.toInt ≤ 2147483647 := by have := Int32.toInt_lt a; omega
theorem nb_of {v : Int32} (h : 0 ≤ v.toInt ∧ v.toInt ≤ 1) : v = 0 ∨ v = 1 := by
  rcases (show v.toInt = 0 ∨ v.toInt = 1 by omega) with h | h
  · exact Or.inl (Int32.toInt_inj.mp (h.trans (by decide)))
  · exact Or.inr (Int32.toInt_inj.mp (h.trans (by decide)))
theorem nlt_of {v : Int32} (h : 0 ≤ v.toInt) : ¬ v < 0 := fun q => by
  have h1 := Int32.lt_iff_toInt_lt.mp q
  have h2 : (0 : Int32).toInt = 0 := rfl
  omega
theorem l_ne {v : Int32} (h : ¬ v.toInt = 0) : ¬ v.toInt64 = 0 := fun q => h (by
  have := congrArg Int64.toInt q
  rw [Int32.toInt_toInt64] at this
  exact this)
theorem tb_rng (v : Int32) : -128 ≤ v.toInt8.toInt32.toInt ∧ v.toInt8.toInt32.toInt ≤ 127 := by
  rw [Int8.toInt_toInt32]
  exact ⟨Int8.le_toInt _, by have := Int8.toInt_lt v.toInt8; omega⟩
theorem okR_arr {lo hi : Nat → Nat → Int} {mu : Nat → Nat → Int32} (h : okR lo hi mu) (k : Nat) (g : Nat → Int32) (hg : ∀ f, lo k f ≤ (g f).toInt ∧ (g f).toInt ≤ hi k f) : okR lo hi (va_up mu k g) := fun k1 f1 => by
  unfold va_up
  by_cases e : k1 = k
  · subst e
    rw [if_pos rfl]
    exact hg f1
  · rw [if_neg e]
    exact h k1 f1
theorem tC_of {v : Int32} (h : 0 ≤ v.toInt) : (v.toNatClampNeg : Int) = v.toInt := by
  have : v.toNatClampNeg = v.toInt.toNat := rfl
  rw [this]
  omega

theorem wr_gen {C : Prop} {D : va_G} {cl : List vw_C} {N : Nat} {ad : Nat → Nat} {E : Nat → (Nat → Int32) → va_E} {mu : Nat → Nat → Int32} {H : Heap} {k : Nat} {e1 : va_E} (g : Nat → Int32) (hP : va_P D cl ((wR N ad E mu).set k (ad k, e1)) H) (he : E k g = e1) (K : ∀ nu : Nat → Nat → Int32, va_up mu k g = nu → va_P D cl (wR N ad E nu) H → C) : C := K _ rfl (wR_P g hP he)
theorem loc_gen {C : Prop} {P : Int32 → Prop} (x : Int32) (h : P x) (K : ∀ w : Int32, x = w → P w → C) : C := K x rfl h
theorem okR_2 {lo hi : Nat → Nat → Int} {mu nu : Nat → Nat → Int32} (h : okR lo hi mu) {k f g : Nat} {a b : Int32} (h1 : lo k f ≤ a.toInt) (h2 : a.toInt ≤ hi k f) (h3 : lo k g ≤ b.toInt) (h4 : b.toInt ≤ hi k g) (hn : va_up mu k (upd (upd (mu k) f a) g b) = nu) : okR lo hi nu := by
  subst hn
  have e := okR_up (okR_up h k f a h1 h2) k g b h3 h4
  have q : va_up (va_up mu k (upd (mu k) f a)) k (upd ((va_up mu k (upd (mu k) f a)) k) g b) = va_up mu k (upd (upd (mu k) f a) g b) := by
    funext j
    unfold va_up
    by_cases c : j = k
    · subst c; simp
    · simp [c]
  rw [q] at e
  exact e

theorem i12 {p : Int32} (h : 0 ≤ p.toInt ∧ p.toInt ≤ 12) : p = 0 ∨ p = 1 ∨ p = 2 ∨ p = 3 ∨ p = 4 ∨ p = 5 ∨ p = 6 ∨ p = 7 ∨ p = 8 ∨ p = 9 ∨ p = 10 ∨ p = 11 ∨ p = 12 := by
  obtain ⟨h1, h2⟩ := h
  have key : ∀ c : Int32, p.toInt = c.toInt → p = c := fun c h => Int32.toInt_inj.mp h
  rcases (show p.toInt = 0 ∨ p.toInt = 1 ∨ p.toInt = 2 ∨ p.toInt = 3 ∨ p.toInt = 4 ∨ p.toInt = 5 ∨ p.toInt = 6 ∨ p.toInt = 7 ∨ p.toInt = 8 ∨ p.toInt = 9 ∨ p.toInt = 10 ∨ p.toInt = 11 ∨ p.toInt = 12 by omega) with h | h | h | h | h | h | h | h | h | h | h | h | h
  · exact Or.inl (key 0 h)
  · exact Or.inr (Or.inl (key 1 h))
  · exact Or.inr (Or.inr (Or.inl (key 2 h)))
  · exact Or.inr (Or.inr (Or.inr (Or.inl (key 3 h))))
  · exact Or.inr (Or.inr (Or.inr (Or.inr (Or.inl (key 4 h)))))
  · exact Or.inr (Or.inr (Or.inr (Or.inr (Or.inr (Or.inl (key 5 h))))))
  · exact Or.inr (Or.inr (Or.inr (Or.inr (Or.inr (Or.inr (Or.inl (key 6 h)))))))
  · exact Or.inr (Or.inr (Or.inr (Or.inr (Or.inr (Or.inr (Or.inr (Or.inl (key 7 h))))))))
  · exact Or.inr (Or.inr (Or.inr (Or.inr (Or.inr (Or.inr (Or.inr (Or.inr (Or.inl (key 8 h)))))))))
  · exact Or.inr (Or.inr (Or.inr (Or.inr (Or.inr (Or.inr (Or.inr (Or.inr (Or.inr (Or.inl (key 9 h))))))))))
  · exact Or.inr (Or.inr (Or.inr (Or.inr (Or.inr (Or.inr (Or.inr (Or.inr (Or.inr (Or.inr (Or.inl (key 10 h)))))))))))
  · exact Or.inr (Or.inr (Or.inr (Or.inr (Or.inr (Or.inr (Or.inr (Or.inr (Or.inr (Or.inr (Or.inr (Or.inl (key 11 h))))))))))))
  · exact Or.inr (Or.inr (Or.inr (Or.inr (Or.inr (Or.inr (Or.inr (Or.inr (Or.inr (Or.inr (Or.inr (Or.inr (key 12 h))))))))))))
theorem shl12 {p : Int32} (h : 0 ≤ p.toInt ∧ p.toInt ≤ 12) : 1 ≤ ((1 : Int32) <<< (p &&& 31)).toInt ∧ ((1 : Int32) <<< (p &&& 31)).toInt ≤ 4096 := by
  rcases i12 h with h | h | h | h | h | h | h | h | h | h | h | h | h <;> subst h <;> decide

theorem up_k {mu nu : Nat → Nat → Int32} {k : Nat} {g : Nat → Int32} (h : va_up mu k g = nu) {j : Nat} (hj : j ≠ k) : nu j = mu j := by
  subst h
  simp [va_up, hj]
theorem up_f {mu nu : Nat → Nat → Int32} {k f : Nat} {v : Int32} (h : va_up mu k (upd (mu k) f v) = nu) {j : Nat} (hj : j ≠ f) : nu k j = mu k j := by
  subst h
  simp [va_up, upd, hj]
theorem up_v {mu nu : Nat → Nat → Int32} {k f : Nat} {v : Int32} (h : va_up mu k (upd (mu k) f v) = nu) : v = nu k f := by
  subst h
  simp [va_up, upd]
theorem ne_lo {a j k : Nat} (h : j < a) (h1 : a ≤ k) : j ≠ k := by omega
theorem ne_hi {b j k : Nat} (h : b ≤ j) (h2 : k < b) : j ≠ k := by omega
theorem ne_ff {b a j k : Nat} (h2 : j < b) (h : b ≤ a) (h1 : a ≤ k) : j ≠ k := by omega
theorem ne_gg {b a j k : Nat} (h1 : a ≤ j) (h : b ≤ a) (h2 : k < b) : j ≠ k := by omega
theorem ix_of {i : Int32} {b n : Nat} (h : 0 ≤ i.toInt ∧ i.toInt < n) : b ≤ b + i.toNatClampNeg ∧ b + i.toNatClampNeg < b + n := by
  have := tC_of h.1
  omega
theorem add_in {a b k : Nat} (c : Nat) (h1 : a ≤ k) (h2 : k < b) : a + c ≤ k + c ∧ k + c < b + c := by omega
theorem okR_cp {lo hi : Nat → Nat → Int} {mu nu : Nat → Nat → Int32} (h : okR lo hi mu) {k j a b n : Nat} (hn : va_up mu k (va_cpy (mu j) (mu k) a b n) = nu) (hb : ∀ f, lo k f ≤ lo j (a + (f - b)) ∧ hi j (a + (f - b)) ≤ hi k f) : okR lo hi nu := by
  subst hn
  refine okR_arr h k _ (fun f => ?_)
  unfold va_cpy
  split
  · have h1 := h j (a + (f - b)); have h2 := hb f; omega
  · exact h k f
theorem fr_all {A0 : Nat → Prop} {ws : va_W} {H0 H : Heap} {locs : List Loc} (hD : va_D A0 ws) (hS : va_S A0 H0 H locs) (hA : ∀ q, H0.size ≤ q → A0 q) : ∀ q, va_A ws H.size q → A0 q := by
  intro q h
  rcases h with ⟨k, e, h⟩ | h
  · exact hD.2 k _ h
  · exact hA q (Nat.le_trans hS.1 h)
theorem va1 {v : Int32} (h : v.toInt < 2147483647) : (v + 1 : Int32).toInt = v.toInt + 1 := by
  have h0 := Int32.le_toInt v
  have z : (1 : Int32).toInt = 1 := rfl
  exact tI_add rfl z (by omega) (by omega)
theorem ms_lt {a b : Int} {n : Nat} (hm : a.toNat < n + 1) (h : b < a) (h0 : 0 < a) : b.toNat < n := by omega
abbrev PDw (D : va_G) (cl : List vw_C) (A : Nat → Prop) (H : Heap) (ws : va_W) : Prop := va_P D cl ws H ∧ va_D A ws
theorem ms_up {c v w : Int} {n : Nat} (hm : (c + 1 - v).toNat < n + 1) (aw : w = v + 1) (h : v ≤ c) : (c + 1 - w).toNat < n := by omega
theorem rg_up {lo c v w : Int} (aw : w = v + 1) (h : lo ≤ v ∧ v ≤ c) (hc : v < c) : lo ≤ w ∧ w ≤ c := by omega
