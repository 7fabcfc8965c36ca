theorem va_rest {A0 : Nat → Prop} {D : va_G} {cl : List vw_C} {ws wc wr : va_W} {H H1 : Heap} (hP : va_P D cl ws H) (hD : va_D A0 ws) (isC isR : List Nat) (hC : isC.map (fun i => ws[i]?) = wc.map some) (hR : isR.map (fun i => ws[i]?) = wr.map some) (hn : va_nd isR = true) (hdis : ∀ i ∈ isR, i ∉ isC)
    (hk : ∀ q : Nat, q < H.size → ¬ va_A wc H.size q → H1[q]? = H[q]?) (hF : ∀ q, va_A wc H.size q → A0 q) : va_P D cl wr H1 ∧ va_D A0 wr := by
  have h := va_join (w1 := []) hP hD isC isR hC hR hn hdis hk hF (fun k q h => by simp at h) ⟨fun i j p q h => by simp at h, fun k q h => by simp at h⟩
  rw [List.append_nil] at h
  exact h
theorem p2_c {x y : Nat × va_E} {k : Nat} {q : Nat × va_E} (h : [x, y][k]? = some q) : (k = 0 ∧ q = x) ∨ (k = 1 ∧ q = y) := by
  match k, h with
  | 0, h => exact Or.inl ⟨rfl, (Option.some.inj h).symm⟩
  | 1, h => exact Or.inr ⟨rfl, (Option.some.inj h).symm⟩
  | k + 2, h => simp at h
theorem p2_P {D : va_G} {cl : List vw_C} {ws : va_W} {H : Heap} {x y : Nat × va_E} {k1 k2 : Nat} (hP : va_P D cl ws H) (h1 : ws[k1]? = some x) (h2 : ws[k2]? = some y) : va_P D cl [x, y] H := fun k q hk => by
  rcases p2_c hk with ⟨-, rfl⟩ | ⟨-, rfl⟩
  · exact hP _ _ h1
  · exact hP _ _ h2
theorem p2_D {A : Nat → Prop} {ws : va_W} {x y : Nat × va_E} {k1 k2 : Nat} (hD : va_D A ws) (h1 : ws[k1]? = some x) (h2 : ws[k2]? = some y) (hne : k1 ≠ k2) : va_D A [x, y] := by
  refine ⟨fun i j p q hi hj e => ?_, fun k q hk => ?_⟩
  · rcases p2_c hi with ⟨hi, hp⟩ | ⟨hi, hp⟩ <;> rcases p2_c hj with ⟨hj, hq⟩ | ⟨hj, hq⟩
    · rw [hi, hj]
    · rw [hp, hq] at e
      exact absurd (hD.1 _ _ _ _ h1 h2 e) hne
    · rw [hp, hq] at e
      exact absurd (hD.1 _ _ _ _ h1 h2 e.symm) hne
    · rw [hi, hj]
  · rcases p2_c hk with ⟨-, hp⟩ | ⟨-, hp⟩
    · rw [hp]; exact hD.2 _ _ h1
    · rw [hp]; exact hD.2 _ _ h2
theorem p2_A {ws : va_W} {x y : Nat × va_E} {k1 k2 n : Nat} (h1 : ws[k1]? = some x) (h2 : ws[k2]? = some y) : ∀ q : Nat, va_A [x, y] n q → va_A ws n q := fun q h => by
  rcases h with ⟨k, e, h⟩ | h
  · rcases p2_c h with ⟨-, hp⟩ | ⟨-, hp⟩
    · exact Or.inl ⟨k1, e, by rw [h1, hp]⟩
    · exact Or.inl ⟨k2, e, by rw [h2, hp]⟩
  · exact Or.inr h
theorem k1_K {D : va_G} {cl : List vw_C} {tys : List (ClassId × FieldType)} {U : State} {x : ClassId × FieldType} {k : Nat} (hK : va_K D cl tys U) (h : tys[k]? = some x) : va_K D cl [x] U := ⟨hK.1, fun i q hi => by
  match i, hi with
  | 0, hi => cases hi; exact hK.2 k _ h
  | i + 1, hi => simp at hi⟩
theorem arrV_same {cA : ClassId} {n : Nat} {f g : Nat → Value} (h : ∀ j, j < n → f j = g j) : arrV cA n f = arrV cA n g := by
  unfold arrV
  congr 2
  funext j
  exact h j.val j.isLt
theorem va_reI {D : va_G} {cl : List vw_C} {A : Nat → Prop} {ws : va_W} {H : Heap} {a n : Nat} {cA : ClassId} {f : Nat → Int32} (k : Nat) (g : Nat → Int32) (hP : va_P D cl ws H) (hD : va_D A ws) (he : ws[k]? = some (a, .inl (cA, n, .inl f))) (h : ∀ j, j < n → f j = g j) : va_P D cl (ws.set k (a, .inl (cA, n, .inl g))) H ∧ va_D A (ws.set k (a, .inl (cA, n, .inl g))) := by
  refine ⟨hP.set hD he ?_ (fun _ _ => rfl), hD.set he⟩
  have h1 : H[a]? = some (vp_cell cA (n, .inl f)) := hP k _ he
  show H[a]? = some (vp_cell cA (n, .inl g))
  rw [h1, vp_cell_i, vp_cell_i, arrV_same (fun j hj => by rw [h j hj])]
theorem va_reQ {D : va_G} {cl : List vw_C} {A : Nat → Prop} {ws : va_W} {H : Heap} {a n : Nat} {cA : ClassId} {f : Nat → Option Nat} (k : Nat) (g : Nat → Option Nat) (hP : va_P D cl ws H) (hD : va_D A ws) (he : ws[k]? = some (a, .inl (cA, n, .inr (.inr (.inr (.inr f)))))) (h : ∀ j, j < n → f j = g j) : va_P D cl (ws.set k (a, .inl (cA, n, .inr (.inr (.inr (.inr g)))))) H ∧ va_D A (ws.set k (a, .inl (cA, n, .inr (.inr (.inr (.inr g)))))) := by
  refine ⟨hP.set hD he ?_ (fun _ _ => rfl), hD.set he⟩
  have h1 : H[a]? = some (vp_cell cA (n, .inr (.inr (.inr (.inr f))))) := hP k _ he
  show H[a]? = some (vp_cell cA (n, .inr (.inr (.inr (.inr g)))))
  rw [h1, vp_cell_q, vp_cell_q, arrV_same (fun j hj => by rw [h j hj])]
theorem lx_ixR {x y : Int32} (hx : vp_in x 6) (hy : vp_in y 40) : vp_in (40 * x + y) 240 := by
  obtain ⟨j, hj, rfl⟩ := vp_in_of hx (by decide)
  obtain ⟨k, hk, rfl⟩ := vp_in_of hy (by decide)
  rw [show (40 : Int32) = nI 40 from rfl, pk_mul, nI_add]
  exact vp_in_nI (by omega) (by decide)
theorem lx_ixT {x y : Int32} (hx : vp_in x 4) (hy : vp_in y 80) : vp_in (80 * x + y) 320 := by
  obtain ⟨j, hj, rfl⟩ := vp_in_of hx (by decide)
  obtain ⟨k, hk, rfl⟩ := vp_in_of hy (by decide)
  rw [show (80 : Int32) = nI 80 from rfl, pk_mul, nI_add]
  exact vp_in_nI (by omega) (by decide)
