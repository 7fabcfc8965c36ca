-- ===== worlds as sets of cells: what is new may stand ahead, what is done may be put behind =====
theorem vaP_iff {D : va_G} {cl : List vw_C} {ws : va_W} {H : Heap} : va_P D cl ws H ↔ ∀ q ∈ ws, va_at D cl q H := by
  constructor
  · intro h q hq
    obtain ⟨i, hi⟩ := List.getElem?_of_mem hq
    exact h i q hi
  · intro h k q hq
    exact h q (List.mem_of_getElem? hq)
theorem vaD_iff {A : Nat → Prop} {ws : va_W} : va_D A ws ↔ (ws.map Prod.fst).Nodup ∧ ∀ q ∈ ws, A q.1 := by
  have e : (∀ (i j : Nat) (p q : Nat × va_E), ws[i]? = some p → ws[j]? = some q → p.1 = q.1 → i = j) ↔ (ws.map Prod.fst).Nodup := by
    unfold List.Nodup
    rw [List.pairwise_iff_getElem]
    constructor
    · intro h i j hi hj hij e
      rw [List.length_map] at hi hj
      rw [List.getElem_map, List.getElem_map] at e
      have := h i j _ _ (List.getElem?_eq_getElem hi) (List.getElem?_eq_getElem hj) e
      omega
    · intro h i j p q hp hq e
      obtain ⟨hi, rfl⟩ := List.getElem?_eq_some_iff.mp hp
      obtain ⟨hj, rfl⟩ := List.getElem?_eq_some_iff.mp hq
      rcases Nat.lt_trichotomy i j with c | c | c
      · exact absurd (by rw [List.getElem_map, List.getElem_map]; exact e) (h i j (by rw [List.length_map]; exact hi) (by rw [List.length_map]; exact hj) c)
      · exact c
      · exact absurd (by rw [List.getElem_map, List.getElem_map]; exact e.symm) (h j i (by rw [List.length_map]; exact hj) (by rw [List.length_map]; exact hi) c)
  have e2 : (∀ (k : Nat) (q : Nat × va_E), ws[k]? = some q → A q.1) ↔ ∀ q ∈ ws, A q.1 := by
    constructor
    · intro h q hq
      obtain ⟨i, hi⟩ := List.getElem?_of_mem hq
      exact h i q hi
    · intro h k q hq
      exact h q (List.mem_of_getElem? hq)
  unfold va_D
  rw [e, e2]
theorem pm_P {D : va_G} {cl : List vw_C} {l1 l2 : va_W} {H : Heap} (hp : l1.Perm l2) (h : va_P D cl l1 H) : va_P D cl l2 H := vaP_iff.mpr fun q hq => vaP_iff.mp h q (hp.mem_iff.mpr hq)
theorem pm_D {A : Nat → Prop} {l1 l2 : va_W} (hp : l1.Perm l2) (h : va_D A l1) : va_D A l2 := by
  obtain ⟨h1, h2⟩ := vaD_iff.mp h
  exact vaD_iff.mpr ⟨(hp.map Prod.fst).nodup_iff.mp h1, fun q hq => h2 q (hp.mem_iff.mpr hq)⟩
theorem pm_last (l : va_W) (x : Nat × va_E) : (l ++ [x]).Perm (x :: l) := List.perm_append_comm
theorem pm_mid (a b c : va_W) : (a ++ (b ++ c)).Perm (b ++ (a ++ c)) := by
  rw [← List.append_assoc, ← List.append_assoc]
  exact List.Perm.append_right c List.perm_append_comm
theorem pm_tl (a t r w : va_W) : ((a ++ t) ++ (r ++ w)).Perm ((a ++ r) ++ (t ++ w)) := by
  rw [List.append_assoc, List.append_assoc]
  exact List.Perm.append_left a (pm_mid t r w)
theorem pm_tl2 (a t r w : va_W) : ((a ++ t) ++ (r ++ w)).Perm ((a ++ r) ++ (w ++ t)) := by
  rw [List.append_assoc, List.append_assoc, ← List.append_assoc r w t]
  exact List.Perm.append_left a List.perm_append_comm
theorem subF_mem {E E1 : va_W} {is : List Nat} (hE : is.map (fun i => E[i]?) = E1.map some) : ∀ q ∈ E1, q ∈ E := fun q hq => by
  have h1 : some q ∈ E1.map some := List.mem_map.mpr ⟨q, hq, rfl⟩
  rw [← hE] at h1
  obtain ⟨i, -, hi⟩ := List.mem_map.mp h1
  exact List.mem_of_getElem? hi
theorem subF_P {D : va_G} {cl : List vw_C} {E E1 t : va_W} {H : Heap} (is : List Nat) (hE : is.map (fun i => E[i]?) = E1.map some) (hP : va_P D cl (E ++ t) H) : va_P D cl (E1 ++ t) H := vaP_iff.mpr fun q hq => by
  rcases List.mem_append.mp hq with h | h
  · exact vaP_iff.mp hP q (List.mem_append_left _ (subF_mem hE q h))
  · exact vaP_iff.mp hP q (List.mem_append_right _ h)
theorem subF_D {A : Nat → Prop} {E E1 t : va_W} (is : List Nat) (hE : is.map (fun i => E[i]?) = E1.map some) (hn : va_nd is = true) (hD : va_D A (E ++ t)) : va_D A (E1 ++ t) := by
  obtain ⟨h1, h2⟩ := vaD_iff.mp hD
  have hDE : va_D A E := vaD_iff.mpr ⟨by rw [List.map_append] at h1; exact (List.nodup_append.mp h1).1, fun q hq => h2 q (List.mem_append_left _ hq)⟩
  have hD1 : va_D A E1 := hDE.sub (ws' := E1) is hn hE
  rw [List.map_append, List.nodup_append] at h1
  refine vaD_iff.mpr ⟨?_, fun q hq => ?_⟩
  · rw [List.map_append, List.nodup_append]
    refine ⟨(vaD_iff.mp hD1).1, h1.2.1, fun a ha b hb => ?_⟩
    obtain ⟨x, hx, rfl⟩ := List.mem_map.mp ha
    exact h1.2.2 x.1 (List.mem_map.mpr ⟨x, subF_mem hE x hx, rfl⟩) b hb
  · rcases List.mem_append.mp hq with h | h
    · exact h2 q (List.mem_append_left _ (subF_mem hE q h))
    · exact h2 q (List.mem_append_right _ h)
theorem wR_split {n m : Nat} {ad : Nat → Nat} {E : Nat → (Nat → Int32) → va_E} {mu : Nat → Nat → Int32} : wR (n + m) ad E mu = wR n ad E mu ++ wR m (fun k => ad (n + k)) (fun k => E (n + k)) (fun k => mu (n + k)) := by
  unfold wR
  rw [List.range_add, List.map_append, List.map_map]
  rfl
/-- behind a call on the cells wc that stand ahead -/
theorem jn_front {A0 : Nat → Prop} {D : va_G} {cl : List vw_C} {wc wr w1 : va_W} {H H1 : Heap} (hP : va_P D cl (wc ++ wr) H) (hD : va_D A0 (wc ++ wr)) (hk : ∀ q : Nat, q < H.size → ¬ va_A wc H.size q → H1[q]? = H[q]?) (hF : ∀ q, va_A wc H.size q → A0 q) (hP1 : va_P D cl w1 H1) (hD1 : va_D (va_A wc H.size) w1) : va_P D cl (w1 ++ wr) H1 ∧ va_D A0 (w1 ++ wr) := by
  have p0 := vaP_iff.mp hP
  have p1 := vaP_iff.mp hP1
  obtain ⟨d1, d2⟩ := vaD_iff.mp hD
  obtain ⟨e1, e2⟩ := vaD_iff.mp hD1
  rw [List.map_append, List.nodup_append] at d1
  have apart : ∀ q ∈ wr, q.1 < H.size ∧ ¬ va_A wc H.size q.1 := fun q hq => by
    have hl := (p0 q (List.mem_append_right _ hq)).lt
    refine ⟨hl, fun h => ?_⟩
    rcases h with ⟨k, e, h⟩ | h
    · exact d1.2.2 q.1 (List.mem_map.mpr ⟨(q.1, e), List.mem_of_getElem? h, rfl⟩) q.1 (List.mem_map.mpr ⟨q, hq, rfl⟩) rfl
    · omega
  refine ⟨vaP_iff.mpr fun q hq => ?_, vaD_iff.mpr ⟨?_, fun q hq => ?_⟩⟩
  · rcases List.mem_append.mp hq with h | h
    · exact p1 q h
    · exact (p0 q (List.mem_append_right _ h)).kept (hk q.1 (apart q h).1 (apart q h).2)
  · rw [List.map_append, List.nodup_append]
    refine ⟨e1, d1.2.1, fun a ha b hb e => ?_⟩
    obtain ⟨x, hx, rfl⟩ := List.mem_map.mp ha
    obtain ⟨y, hy, rfl⟩ := List.mem_map.mp hb
    have h9 := e2 x hx
    rw [e] at h9
    exact (apart y hy).2 h9
  · rcases List.mem_append.mp hq with h | h
    · exact hF q.1 (e2 q h)
    · exact d2 q (List.mem_append_right _ h)
theorem cA_eq {D : va_G} {cl : List vw_C} {tys : List (ClassId × FieldType)} {U : State} {c c1 : ClassId} {ty : FieldType} (i j : Nat) (h : va_K D cl tys U) (hi : tys[i]? = some (c, ty)) (hj : tys[j]? = some (c1, ty)) : c1 = c := by
  have h1 := (h.2 i _ hi).2
  have h2 := (h.2 j _ hj).2
  cases ty with
  | object C =>
    obtain ⟨_, _, _, _, _, h1⟩ := h1
    obtain ⟨_, _, _, _, _, h2⟩ := h2
    exact (Option.some.inj (h1.symm.trans h2)).symm
  | _ => exact (Option.some.inj (Eq.trans (Eq.symm h1) h2)).symm
theorem ka_int {args : Array Value} {s : State} (h : (Cond.arrayClass .int).before args s = true) : ∃ c : ClassId, ArrOfT s c .int ∧ va_RA s c .int := by
  obtain ⟨c, k, comp, h1, h2, h3⟩ := Cond.arrayClass_spec h
  exact ⟨c, fun n z => ⟨fun k h => (by cases h), k, h2, comp, h3⟩, h1⟩
theorem ka_byte {args : Array Value} {s : State} (h : (Cond.arrayClass .byte).before args s = true) : ∃ c : ClassId, ArrOfT s c .byte ∧ va_RA s c .byte := by
  obtain ⟨c, k, comp, h1, h2, h3⟩ := Cond.arrayClass_spec h
  exact ⟨c, fun n z => ⟨fun k h => (by cases h), k, h2, comp, h3⟩, h1⟩
theorem ka_obj {C : String} {s : State} (h : va_AO C s) : ∃ c : ClassId, ArrOfT s c (.object C) ∧ va_RA s c (.object C) := by
  obtain ⟨comp, c, k, f1, f2, f3, f4, f5⟩ := Cond.arrayOver_spec h
  exact ⟨c, fun N z => ⟨(fun k h => by cases h), k, f3, comp, f4⟩, ⟨k, comp, f3, f4, f1, f5⟩⟩
theorem va_reQ1 {D : va_G} {cl : List vw_C} {A : Nat → Prop} {ws : va_W} {H : Heap} {a n : Nat} {cA : ClassId} {f : Nat → Option Nat} (g : Nat → Option Nat) (hP : va_P D cl ((a, .inl (cA, n, .inr (.inr (.inr (.inr f))))) :: ws) H) (hD : va_D A ((a, .inl (cA, n, .inr (.inr (.inr (.inr f))))) :: ws)) (h : ∀ j, j < n → f j = g j) : va_P D cl ((a, .inl (cA, n, .inr (.inr (.inr (.inr g))))) :: ws) H ∧ va_D A ((a, .inl (cA, n, .inr (.inr (.inr (.inr g))))) :: ws) := va_reQ 0 g hP hD rfl h
def lk (l : List Nat) (k : Nat) : Nat := l.getD k 0
def mu0X (k : Nat) : Nat → Int32 := if k < 8 then (fun _ => 0) else if k < 18 then (fun f => if f = 1 then -1 else 0) else (fun _ => 0)
def mu0M (k : Nat) : Nat → Int32 := match k with
  | 2 => fun _ => -9
  | 5 => fun _ => -9
  | 15 => fun j => if j = 0 ∨ j = 64 ∨ j = 128 then -9 else 0
  | _ => fun _ => 0
def adX (L : List Nat) (adL : Nat → Nat) (k : Nat) : Nat := if k < 77 then L.getD k 0 else adL (k - 76)
def kq (U : State) : Prop := va_Nw (.methodLinkNest RX11 29 yX10_init "DearLetters") U ∧ va_Nw (.methodLinkNest RX11 36 yX4_init "DearLetters") U ∧ va_Nw (.methodLinkNest RX11 50 yX5_init "DearLetters") U ∧ va_Nw (.methodLinkNest RX11 57 yX1_init "DearLetters") U ∧ va_Nw (.methodLinkNest RX11 66 yX6_init "DearLetters") U ∧ va_Nw (.methodLinkNest RX11 67 yX9_init "DearLetters") U ∧ va_Nw (.methodLinkNest RX2 17 yX7_init "DearLetters") U ∧ va_Nw (.methodLinkNest RX5 23 yX0_init "DearLetters") U ∧ va_Nw (.methodLinkNest RX8 21 yX3_init "DearLetters") U ∧ va_AO RX6 U ∧ va_AO RX9 U ∧ va_AO RX8 U ∧ va_AO RX3 U ∧ va_AO RX7 U
theorem kq.moved {s U : State} (hW : s.WarmedH U.vm) (h : kq s) : kq U := by
  obtain ⟨h0, h1, h2, h3, h4, h5, h6, h7, h8, h9, h10, h11, h12, h13⟩ := h
  exact ⟨va_Nw.warmM hW h0, va_Nw.warmM hW h1, va_Nw.warmM hW h2, va_Nw.warmM hW h3, va_Nw.warmM hW h4, va_Nw.warmM hW h5, va_Nw.warmM hW h6, va_Nw.warmM hW h7, va_Nw.warmM hW h8, va_AO.moved hW.alike h9, va_AO.moved hW.alike h10, va_AO.moved hW.alike h11, va_AO.moved hW.alike h12, va_AO.moved hW.alike h13⟩
theorem kq.called {U : State} {g : JFrame} {mk : MethodId} {a : Array Value} (h : kq U) : kq (U.calling g mk a) := by
  obtain ⟨h0, h1, h2, h3, h4, h5, h6, h7, h8, h9, h10, h11, h12, h13⟩ := h
  exact ⟨va_Nw.same rfl (u := U) (U := U.calling g mk a) rfl h0, va_Nw.same rfl (u := U) (U := U.calling g mk a) rfl h1, va_Nw.same rfl (u := U) (U := U.calling g mk a) rfl h2, va_Nw.same rfl (u := U) (U := U.calling g mk a) rfl h3, va_Nw.same rfl (u := U) (U := U.calling g mk a) rfl h4, va_Nw.same rfl (u := U) (U := U.calling g mk a) rfl h5, va_Nw.same rfl (u := U) (U := U.calling g mk a) rfl h6, va_Nw.same rfl (u := U) (U := U.calling g mk a) rfl h7, va_Nw.same rfl (u := U) (U := U.calling g mk a) rfl h8, va_AO.moved (u := U) (U := U.calling g mk a) (Vm.Alike.refl U.vm) h9, va_AO.moved (u := U) (U := U.calling g mk a) (Vm.Alike.refl U.vm) h10, va_AO.moved (u := U) (U := U.calling g mk a) (Vm.Alike.refl U.vm) h11, va_AO.moved (u := U) (U := U.calling g mk a) (Vm.Alike.refl U.vm) h12, va_AO.moved (u := U) (U := U.calling g mk a) (Vm.Alike.refl U.vm) h13⟩
def kb_P (D : va_G) (cl : List vw_C) (tys : List (ClassId × FieldType)) (H : Heap) (U : State) : Prop := U.heap = H ∧ va_K D cl tys U ∧ kq U
theorem kb_c {D : va_G} {cl : List vw_C} {tys : List (ClassId × FieldType)} {H : Heap} {av : List Value} : FrameBlind (va_Pc av (kb_P D cl tys H)) := fun a U g mk q => by
  obtain ⟨q0, q1, qK, qq⟩ := q
  exact ⟨q0, q1, va_K.moved (u := U) (U := U.calling g mk a) (Vm.Alike.refl U.vm) qK, qq.called⟩
theorem kb_m {D : va_G} {cl : List vw_C} {tys : List (ClassId × FieldType)} {H : Heap} {av : List Value} {s : State} (hK : va_K D cl tys s) (hq : kq s) : ∀ U : State, U.heap = H → s.WarmedH U.vm → va_Pc av (kb_P D cl tys H) av.toArray U := fun _ hU hW => ⟨rfl, hU, va_K.moved hW.alike hK, kq.moved hW hq⟩

def EL (cs : Nat → ClassId) (ad : Nat → Nat) (k : Nat) (g : Nat → Int32) : va_E := if k < 40 then .inr (7, [.ref (ad (41 + k)), .int (g 1), .int (g 2), .int (g 3), .int (g 4), .int (g 5), .int (g 6)]) else .inl (cs 0, 7, .inl g)
def saC (b : Nat → Nat) (a : Nat → Nat) (j : Nat) : Nat × va_E := (a j, .inr (7, [.ref (b j), .int 0, .int 0, .int 0, .int 0, .int 0, .int 0]))
def saP (cs : Nat → ClassId) (b : Nat → Nat) (j : Nat) : Nat × va_E := (b j, .inl (cs 0, 7, .inl (fun _ => 0)))
/-- the sales that are made: the last one ahead -/
def wsL (cs : Nat → ClassId) (a b : Nat → Nat) : Nat → va_W
  | 0 => []
  | i + 1 => [saP cs b i, saC b a i] ++ wsL cs a b i
theorem wsL_congr {cs : Nat → ClassId} {a b a1 b1 : Nat → Nat} : ∀ {i : Nat}, (∀ j, j < i → a j = a1 j ∧ b j = b1 j) → wsL cs a b i = wsL cs a1 b1 i
  | 0, _ => rfl
  | i + 1, h => by
    have h1 := h i (Nat.lt_succ_self i)
    have h2 := wsL_congr (i := i) (cs := cs) (fun j hj => h j (Nat.lt_succ_of_lt hj))
    show [saP cs b i, saC b a i] ++ wsL cs a b i = [saP cs b1 i, saC b1 a1 i] ++ wsL cs a1 b1 i
    unfold saP saC
    rw [h1.1, h1.2, h2]
theorem wsL_perm (cs : Nat → ClassId) (a b : Nat → Nat) : ∀ i : Nat, (wsL cs a b i).Perm ((List.range i).map (saC b a) ++ (List.range i).map (saP cs b))
  | 0 => List.Perm.refl _
  | i + 1 => by
    have ih := wsL_perm cs a b i
    show ([saP cs b i, saC b a i] ++ wsL cs a b i).Perm _
    rw [List.range_succ, List.map_append, List.map_append]
    have e1 : ((List.range i).map (saC b a) ++ [saC b a i] ++ ((List.range i).map (saP cs b) ++ [saP cs b i])).Perm ([saC b a i] ++ ((List.range i).map (saC b a) ++ ((List.range i).map (saP cs b) ++ [saP cs b i]))) := by
      rw [List.append_assoc]
      exact pm_mid _ _ _
    have e2 : ((List.range i).map (saC b a) ++ ((List.range i).map (saP cs b) ++ [saP cs b i])).Perm (saP cs b i :: ((List.range i).map (saC b a) ++ (List.range i).map (saP cs b))) := by
      rw [← List.append_assoc]
      exact pm_last _ _
    refine List.Perm.trans ?_ e1.symm
    refine List.Perm.trans ?_ (List.Perm.cons _ e2.symm)
    exact (List.Perm.swap _ _ _).trans (List.Perm.cons _ (List.Perm.cons _ ih))
def adL (q : Nat) (a b : Nat → Nat) (k : Nat) : Nat := if k = 0 then q else if k < 41 then a (k - 1) else b (k - 41)
theorem adL_a {q : Nat} {a b : Nat → Nat} {j : Nat} (h : j < 40) : adL q a b (1 + j) = a j := by
  unfold adL
  rw [if_neg (by omega), if_pos (by omega), show 1 + j - 1 = j by omega]
theorem adL_b {q : Nat} {a b : Nat → Nat} {j : Nat} : adL q a b (41 + j) = b j := by
  unfold adL
  rw [if_neg (by omega), if_neg (by omega), show 41 + j - 41 = j by omega]
theorem wsL_wR (cs : Nat → ClassId) (q : Nat) (a b : Nat → Nat) : wR 80 (fun k => adL q a b (1 + k)) (EL cs (adL q a b)) (fun _ _ => 0) = (List.range 40).map (saC b a) ++ (List.range 40).map (saP cs b) := by
  unfold wR
  rw [show (80 : Nat) = 40 + 40 from rfl, List.range_add, List.map_append, List.map_map]
  have e1 : (List.range 40).map (fun k => (adL q a b (1 + k), EL cs (adL q a b) k (fun _ => 0))) = (List.range 40).map (saC b a) := by
    refine List.map_congr_left (fun k hk => ?_)
    have hk := List.mem_range.mp hk
    unfold saC EL
    rw [if_pos hk, adL_a hk, adL_b]
  have e2 : (List.range 40).map ((fun k => (adL q a b (1 + k), EL cs (adL q a b) k (fun _ => 0))) ∘ (fun x => 40 + x)) = (List.range 40).map (saP cs b) := by
    refine List.map_congr_left (fun k hk => ?_)
    have hk := List.mem_range.mp hk
    show (adL q a b (1 + (40 + k)), EL cs (adL q a b) (40 + k) (fun _ => 0)) = _
    unfold saP EL
    rw [if_neg (by omega), show 1 + (40 + k) = 41 + k by omega, adL_b]
  rw [← e1, ← e2]
def fF (a : Nat → Nat) (i : Nat) : Nat → Option Nat := fun j => if j < i then some (a j) else none
theorem fF_up {a : Nat → Nat} {i q : Nat} : va_up (fF a i) i (some q) = fF (fun j => if j = i then q else a j) (i + 1) := by
  funext j
  unfold va_up fF
  by_cases h : j = i
  · subst h; simp
  · by_cases h2 : j < i
    · rw [if_neg h, if_pos h2, if_pos (by omega)]
      exact congrArg some (if_neg h).symm
    · rw [if_neg h, if_neg h2, if_neg (by omega)]

