-- ===== worlds as sets of cells: what is new may stand ahead, what is done may be put behind =====
theorem vaP_iff {D : va_G} {cl : List vw_C} {ws : va_W} {H : Heap} : va_P D cl ws H ↔ ∀ q ∈ ws, va_at D cl q H := by
  constructor
  · intro h q hq
    obtain ⟨i, hi⟩ := List.getElem?_of_mem hq
    exact h i q hi
  · intro h k q hq
    exact h q (List.mem_of_getElem? hq)
theorem vaD_iff {A : Nat → Prop} {ws : va_W} : va_D A ws ↔ (ws.map Prod.fst).Nodup ∧ ∀ q ∈ ws, A q.1 := by
  have e : (∀ (i j : Nat) (p q : Nat × va_E), ws[i]? = some p → ws[j]? = some q → p.1 = q.1 → i = j) ↔ (ws.map Prod.fst).Nodup := by
    unfold List.Nodup
    rw [List.pairwise_iff_getElem]
    constructor
    · intro h i j hi hj hij e
      rw [List.length_map] at hi hj
      rw [List.getElem_map, List.getElem_map] at e
      have := h i j _ _ (List.getElem?_eq_getElem hi) (List.getElem?_eq_getElem hj) e
      omega
    · intro h i j p q hp hq e
      obtain ⟨hi, rfl⟩ := List.getElem?_eq_some_iff.mp hp
      obtain ⟨hj, rfl⟩ := List.getElem?_eq_some_iff.mp hq
      rcases Nat.lt_trichotomy i j with c | c | c
      · exact absurd (by rw [List.getElem_map, List.getElem_map]; exact e) (h i j (by rw [List.length_map]; exact hi) (by rw [List.length_map]; exact hj) c)
      · exact c
      · exact absurd (by rw [List.getElem_map, List.getElem_map]; exact e.symm) (h j i (by rw [List.length_map]; exact hj) (by rw [List.length_map]; exact hi) c)
  have e2 : (∀ (k : Nat) (q : Nat × va_E), ws[k]? = some q → A q.1) ↔ ∀ q ∈ ws, A q.1 := by
    constructor
    · intro h q hq
      obtain ⟨i, hi⟩ := List.getElem?_of_mem hq
      exact h i q hi
    · intro h k q hq
      exact h q (List.mem_of_getElem? hq)
  unfold va_D
  rw [e, e2]
theorem pm_P {D : va_G} {cl : List vw_C} {l1 l2 : va_W} {H : Heap} (hp : l1.Perm l2) (h : va_P D cl l1 H) : va_P D cl l2 H := vaP_iff.mpr fun q hq => vaP_iff.mp h q (hp.mem_iff.mpr hq)
theorem pm_D {A : Nat → Prop} {l1 l2 : va_W} (hp : l1.Perm l2) (h : va_D A l1) : va_D A l2 := by
  obtain ⟨h1, h2⟩ := vaD_iff.mp h
  exact vaD_iff.mpr ⟨(hp.map Prod.fst).nodup_iff.mp h1, fun q hq => h2 q (hp.mem_iff.mpr hq)⟩
theorem pm_last (l : va_W) (x : Nat × va_E) : (l ++ [x]).Perm (x :: l) := List.perm_append_comm
theorem pm_mid (a b c : va_W) : (a ++ (b ++ c)).Perm (b ++ (a ++ c)) := by
  rw [← List.append_assoc, ← List.append_assoc]
  exact List.Perm.append_right c List.perm_append_comm
theorem pm_tl (a t r w : va_W) : ((a ++ t) ++ (r ++ w)).Perm ((a ++ r) ++ (t ++ w)) := by
  rw [List.append_assoc, List.append_assoc]
  exact List.Perm.append_left a (pm_mid t r w)
theorem pm_tl2 (a t r w : va_W) : ((a ++ t) ++ (r ++ w)).Perm ((a ++ r) ++ (w ++ t)) := by
  rw [List.append_assoc, List.append_assoc, ← List.append_assoc r w t]
  exact List.Perm.append_left a List.perm_append_comm
theorem subF_mem {E E1 : va_W} {is : List Nat} (hE : is.map (fun i => E[i]?) = E1.map some) : ∀ q ∈ E1, q ∈ E := fun q hq => by
  have h1 : some q ∈ E1.map some := List.mem_map.mpr ⟨q, hq, rfl⟩
  rw [← hE] at h1
  obtain ⟨i, -, hi⟩ := List.mem_map.mp h1
  exact List.mem_of_getElem? hi
theorem subF_P {D : va_G} {cl : List vw_C} {E E1 t : va_W} {H : Heap} (is : List Nat) (hE : is.map (fun i => E[i]?) = E1.map some) (hP : va_P D cl (E ++ t) H) : va_P D cl (E1 ++ t) H := vaP_iff.mpr fun q hq => by
  rcases List.mem_append.mp hq with h | h
  · exact vaP_iff.mp hP q (List.mem_append_left _ (subF_mem hE q h))
  · exact vaP_iff.mp hP q (List.mem_append_right _ h)
theorem subF_D {A : Nat → Prop} {E E1 t : va_W} (is : List Nat) (hE : is.map (fun i => E[i]?) = E1.map some) (hn : va_nd is = true) (hD : va_D A (E ++ t)) : va_D A (E1 ++ t) := by
  obtain ⟨h1, h2⟩ := vaD_iff.mp hD
  have hDE : va_D A E := vaD_iff.mpr ⟨by rw [List.map_append] at h1; exact (List.nodup_append.mp h1).1, fun q hq => h2 q (List.mem_append_left _ hq)⟩
  have hD1 : va_D A E1 := hDE.sub (ws' := E1) is hn hE
  rw [List.map_append, List.nodup_append] at h1
  refine vaD_iff.mpr ⟨?_, fun q hq => ?_⟩
  · rw [List.map_append, List.nodup_append]
    refine ⟨(vaD_iff.mp hD1).1, h1.2.1, fun a ha b hb => ?_⟩
    obtain ⟨x, hx, rfl⟩ := List.mem_map.mp ha
    exact h1.2.2 x.1 (List.mem_map.mpr ⟨x, subF_mem hE x hx, rfl⟩) b hb
  · rcases List.mem_append.mp hq with h | h
    · exact h2 q (List.mem_append_left _ (subF_mem hE q h))
    · exact h2 q (List.mem_append_right _ h)
theorem wR_split {n m : Nat} {ad : Nat → Nat} {E : Nat → (Nat → Int32) → va_E} {mu : Nat → Nat → Int32} : wR (n + m) ad E mu = wR n ad E mu ++ wR m (fun k => ad (n + k)) (fun k => E (n + k)) (fun k => mu (n + k)) := by
  unfold wR
  rw [List.range_add, List.map_append, List.map_map]
  rfl
/-- behind a call on the cells wc that stand ahead -/
theorem jn_front {A0 : Nat → Prop} {D : va_G} {cl : List vw_C} {wc wr w1 : va_W} {H H1 : Heap} (hP : va_P D cl (wc ++ wr) H) (hD : va_D A0 (wc ++ wr)) (hk : ∀ q : Nat, q < H.size → ¬ va_A wc H.size q → H1[q]? = H[q]?) (hF : ∀ q, va_A wc H.size q → A0 q) (hP1 : va_P D cl w1 H1) (hD1 : va_D (va_A wc H.size) w1) : va_P D cl (w1 ++ wr) H1 ∧ va_D A0 (w1 ++ wr) := by
  have p0 := vaP_iff.mp hP
  have p1 := vaP_iff.mp hP1
  obtain ⟨d1, d2⟩ := vaD_iff.mp hD
  obtain ⟨e1, e2⟩ := vaD_iff.mp hD1
  rw [List.map_append, List.nodup_append] at d1
  have apart : ∀ q ∈ wr, q.1 < H.size ∧ ¬ va_A wc H.size q.1 := fun q hq => by
    have hl := (p0 q (List.mem_append_right _ hq)).lt
    refine ⟨hl, fun h => ?_⟩
    rcases h with ⟨k, e, h⟩ | h
    · exact d1.2.2 q.1 (List.mem_map.mpr ⟨(q.1, e), List.mem_of_getElem? h, rfl⟩) q.1 (List.mem_map.mpr ⟨q, hq, rfl⟩) rfl
    · omega
  refine ⟨vaP_iff.mpr fun q hq => ?_, vaD_iff.mpr ⟨?_, fun q hq => ?_⟩⟩
  · rcases List.mem_append.mp hq with h | h
    · exact p1 q h
    · exact (p0 q (List.mem_append_right _ h)).kept (hk q.1 (apart q h).1 (apart q h).2)
  · rw [List.map_append, List.nodup_append]
    refine ⟨e1, d1.2.1, fun a ha b hb e => ?_⟩
    obtain ⟨x, hx, rfl⟩ := List.mem_map.mp ha
    obtain ⟨y, hy, rfl⟩ := List.mem_map.mp hb
    have h9 := e2 x hx
    rw [e] at h9
    exact (apart y hy).2 h9
  · rcases List.mem_append.mp hq with h | h
    · exact hF q.1 (e2 q h)
    · exact d2 q (List.mem_append_right _ h)
theorem cA_eq {D : va_G} {cl : List vw_C} {tys : List (ClassId × FieldType)} {U : State} {c c1 : ClassId} {ty : FieldType} (i j : Nat) (h : va_K D cl tys U) (hi : tys[i]? = some (c, ty)) (hj : tys[j]? = some (c1, ty)) : c1 = c := by
  have h1 := (h.2 i _ hi).2
  have h2 := (h.2 j _ hj).2
  cases ty with
  | object C =>
    obtain ⟨_, _, _, _, _, h1⟩ := h1
    obtain ⟨_, _, _, _, _, h2⟩ := h2
    exact (Option.some.inj (h1.symm.trans h2)).symm
  | _ => exact (Option.some.inj (Eq.trans (Eq.symm h1) h2)).symm
theorem ka_int {args : Array Value} {s : State} (h : (Cond.arrayClass .int).before args s = true) : ∃ c : ClassId, ArrOfT s c .int ∧ va_RA s c .int := by
  obtain ⟨c, k, comp, h1, h2, h3⟩ := Cond.arrayClass_spec h
  exact ⟨c, fun n z => ⟨fun k h => (by cases h), k, h2, comp, h3⟩, h1⟩
theorem ka_byte {args : Array Value} {s : State} (h : (Cond.arrayClass .byte).before args s = true) : ∃ c : ClassId, ArrOfT s c .byte ∧ va_RA s c .byte := by
  obtain ⟨c, k, comp, h1, h2, h3⟩ := Cond.arrayClass_spec h
  exact ⟨c, fun n z => ⟨fun k h => (by cases h), k, h2, comp, h3⟩, h1⟩
theorem ka_obj {C : String} {s : State} (h : va_AO C s) : ∃ c : ClassId, ArrOfT s c (.object C) ∧ va_RA s c (.object C) := by
  obtain ⟨comp, c, k, f1, f2, f3, f4, f5⟩ := Cond.arrayOver_spec h
  exact ⟨c, fun N z => ⟨(fun k h => by cases h), k, f3, comp, f4⟩, ⟨k, comp, f3, f4, f1, f5⟩⟩
theorem va_reQ1 {D : va_G} {cl : List vw_C} {A : Nat → Prop} {ws : va_W} {H : Heap} {a n : Nat} {cA : ClassId} {f : Nat → Option Nat} (g : Nat → Option Nat) (hP : va_P D cl ((a, .inl (cA, n, .inr (.inr (.inr (.inr f))))) :: ws) H) (hD : va_D A ((a, .inl (cA, n, .inr (.inr (.inr (.inr f))))) :: ws)) (h : ∀ j, j < n → f j = g j) : va_P D cl ((a, .inl (cA, n, .inr (.inr (.inr (.inr g))))) :: ws) H ∧ va_D A ((a, .inl (cA, n, .inr (.inr (.inr (.inr g))))) :: ws) := va_reQ 0 g hP hD rfl h
def lk (l : List Nat) (k : Nat) : Nat := l.getD k 0
def mu0X (k : Nat) : Nat → Int32 := if k < 8 then (fun _ => 0) else if k < 18 then (fun f => if f = 1 then -1 else 0) else (fun _ => 0)
def mu0M (k : Nat) : Nat → Int32 := match k with
  | 2 => fun _ => -9
  | 5 => fun _ => -9
  | 15 => fun j => if j = 0 ∨ j = 64 ∨ j = 128 then -9 else 0
  | _ => fun _ => 0
def adX (L : List Nat) (adL : Nat → Nat) (k : Nat) : Nat := if k < 77 then L.getD k 0 else adL (k - 76)
def kq (U : State) : Prop := va_Nw (.methodLinkNest RX11 29 yX10_init "DearLetters") U ∧ va_Nw (.methodLinkNest RX11 36 yX4_init "DearLetters") U ∧ va_Nw (.methodLinkNest RX11 50 yX5_init "DearLetters") U ∧ va_Nw (.methodLinkNest RX11 57 yX1_init "DearLetters") U ∧ va_Nw (.methodLinkNest RX11 66 yX6_init "DearLetters") U ∧ va_Nw (.methodLinkNest RX11 67 yX9_init "DearLetters") U ∧ va_Nw (.methodLinkNest RX2 17 yX7_init "DearLetters") U ∧ va_Nw (.methodLinkNest RX5 23 yX0_init "DearLetters") U ∧ va_Nw (.methodLinkNest RX8 21 yX3_init "DearLetters") U ∧ va_AO RX6 U ∧ va_AO RX9 U ∧ va_AO RX8 U ∧ va_AO RX3 U ∧ va_AO RX7 U
theorem kq.moved {s U : State} (hW : s.WarmedH U.vm) (h : kq s) : kq U := by
  obtain ⟨h0, h1, h2, h3, h4, h5, h6, h7, h8, h9, h10, h11, h12, h13⟩ := h
  exact ⟨va_Nw.warmM hW h0, va_Nw.warmM hW h1, va_Nw.warmM hW h2, va_Nw.warmM hW h3, va_Nw.warmM hW h4, va_Nw.warmM hW h5, va_Nw.warmM hW h6, va_Nw.warmM hW h7, va_Nw.warmM hW h8, va_AO.moved hW.alike h9, va_AO.moved hW.alike h10, va_AO.moved hW.alike h11, va_AO.moved hW.alike h12, va_AO.moved hW.alike h13⟩
theorem kq.called {U : State} {g : JFrame} {mk : MethodId} {a : Array Value} (h : kq U) : kq (U.calling g mk a) := by
  obtain ⟨h0, h1, h2, h3, h4, h5, h6, h7, h8, h9, h10, h11, h12, h13⟩ := h
  exact ⟨va_Nw.same rfl (u := U) (U := U.calling g mk a) rfl h0, va_Nw.same rfl (u := U) (U := U.calling g mk a) rfl h1, va_Nw.same rfl (u := U) (U := U.calling g mk a) rfl h2, va_Nw.same rfl (u := U) (U := U.calling g mk a) rfl h3, va_Nw.same rfl (u := U) (U := U.calling g mk a) rfl h4, va_Nw.same rfl (u := U) (U := U.calling g mk a) rfl h5, va_Nw.same rfl (u := U) (U := U.calling g mk a) rfl h6, va_Nw.same rfl (u := U) (U := U.calling g mk a) rfl h7, va_Nw.same rfl (u := U) (U := U.calling g mk a) rfl h8, va_AO.moved (u := U) (U := U.calling g mk a) (Vm.Alike.refl U.vm) h9, va_AO.moved (u := U) (U := U.calling g mk a) (Vm.Alike.refl U.vm) h10, va_AO.moved (u := U) (U := U.calling g mk a) (Vm.Alike.refl U.vm) h11, va_AO.moved (u := U) (U := U.calling g mk a) (Vm.Alike.refl U.vm) h12, va_AO.moved (u := U) (U := U.calling g mk a) (Vm.Alike.refl U.vm) h13⟩
def kb_P (D : va_G) (cl : List vw_C) (tys : List (ClassId × FieldType)) (H : Heap) (U : State) : Prop := U.heap = H ∧ va_K D cl tys U ∧ kq U
theorem kb_c {D : va_G} {cl : List vw_C} {tys : List (ClassId × FieldType)} {H : Heap} {av : List Value} : FrameBlind (va_Pc av (kb_P D cl tys H)) := fun a U g mk q => by
  obtain ⟨q0, q1, qK, qq⟩ := q
  exact ⟨q0, q1, va_K.moved (u := U) (U := U.calling g mk a) (Vm.Alike.refl U.vm) qK, qq.called⟩
theorem kb_m {D : va_G} {cl : List vw_C} {tys : List (ClassId × FieldType)} {H : Heap} {av : List Value} {s : State} (hK : va_K D cl tys s) (hq : kq s) : ∀ U : State, U.heap = H → s.WarmedH U.vm → va_Pc av (kb_P D cl tys H) av.toArray U := fun _ hU hW => ⟨rfl, hU, va_K.moved hW.alike hK, kq.moved hW hq⟩

def EL (cs : Nat → ClassId) (ad : Nat → Nat) (k : Nat) (g : Nat → Int32) : va_E := if k < 40 then .inr (7, [.ref (ad (41 + k)), .int (g 1), .int (g 2), .int (g 3), .int (g 4), .int (g 5), .int (g 6)]) else .inl (cs 0, 7, .inl g)
def saC (b : Nat → Nat) (a : Nat → Nat) (j : Nat) : Nat × va_E := (a j, .inr (7, [.ref (b j), .int 0, .int 0, .int 0, .int 0, .int 0, .int 0]))
def saP (cs : Nat → ClassId) (b : Nat → Nat) (j : Nat) : Nat × va_E := (b j, .inl (cs 0, 7, .inl (fun _ => 0)))
/-- the sales that are made: the last one ahead -/
def wsL (cs : Nat → ClassId) (a b : Nat → Nat) : Nat → va_W
  | 0 => []
  | i + 1 => [saP cs b i, saC b a i] ++ wsL cs a b i
theorem wsL_congr {cs : Nat → ClassId} {a b a1 b1 : Nat → Nat} : ∀ {i : Nat}, (∀ j, j < i → a j = a1 j ∧ b j = b1 j) → wsL cs a b i = wsL cs a1 b1 i
  | 0, _ => rfl
  | i + 1, h => by
    have h1 := h i (Nat.lt_succ_self i)
    have h2 := wsL_congr (i := i) (cs := cs) (fun j hj => h j (Nat.lt_succ_of_lt hj))
    show [saP cs b i, saC b a i] ++ wsL cs a b i = [saP cs b1 i, saC b1 a1 i] ++ wsL cs a1 b1 i
    unfold saP saC
    rw [h1.1, h1.2, h2]
theorem wsL_perm (cs : Nat → ClassId) (a b : Nat → Nat) : ∀ i : Nat, (wsL cs a b i).Perm ((List.range i).map (saC b a) ++ (List.range i).map (saP cs b))
  | 0 => List.Perm.refl _
  | i + 1 => by
    have ih := wsL_perm cs a b i
    show ([saP cs b i, saC b a i] ++ wsL cs a b i).Perm _
    rw [List.range_succ, List.map_append, List.map_append]
    have e1 : ((List.range i).map (saC b a) ++ [saC b a i] ++ ((List.range i).map (saP cs b) ++ [saP cs b i])).Perm ([saC b a i] ++ ((List.range i).map (saC b a) ++ ((List.range i).map (saP cs b) ++ [saP cs b i]))) := by
      rw [List.append_assoc]
      exact pm_mid _ _ _
    have e2 : ((List.range i).map (saC b a) ++ ((List.range i).map (saP cs b) ++ [saP cs b i])).Perm (saP cs b i :: ((List.range i).map (saC b a) ++ (List.range i).map (saP cs b))) := by
      rw [← List.append_assoc]
      exact pm_last _ _
    refine List.Perm.trans ?_ e1.symm
    refine List.Perm.trans ?_ (List.Perm.cons _ e2.symm)
    exact (List.Perm.swap _ _ _).trans (List.Perm.cons _ (List.Perm.cons _ ih))
def adL (q : Nat) (a b : Nat → Nat) (k : Nat) : Nat := if k = 0 then q else if k < 41 then a (k - 1) else b (k - 41)
theorem adL_a {q : Nat} {a b : Nat → Nat} {j : Nat} (h : j < 40) : adL q a b (1 + j) = a j := by
  unfold adL
  rw [if_neg (by omega), if_pos (by omega), show 1 + j - 1 = j by omega]
theorem adL_b {q : Nat} {a b : Nat → Nat} {j : Nat} : adL q a b (41 + j) = b j := by
  unfold adL
  rw [if_neg (by omega), if_neg (by omega), show 41 + j - 41 = j by omega]
theorem wsL_wR (cs : Nat → ClassId) (q : Nat) (a b : Nat → Nat) : wR 80 (fun k => adL q a b (1 + k)) (EL cs (adL q a b)) (fun _ _ => 0) = (List.range 40).map (saC b a) ++ (List.range 40).map (saP cs b) := by
  unfold wR
  rw [show (80 : Nat) = 40 + 40 from rfl, List.range_add, List.map_append, List.map_map]
  have e1 : (List.range 40).map (fun k => (adL q a b (1 + k), EL cs (adL q a b) k (fun _ => 0))) = (List.range 40).map (saC b a) := by
    refine List.map_congr_left (fun k hk => ?_)
    have hk := List.mem_range.mp hk
    unfold saC EL
    rw [if_pos hk, adL_a hk, adL_b]
  have e2 : (List.range 40).map ((fun k => (adL q a b (1 + k), EL cs (adL q a b) k (fun _ => 0))) ∘ (fun x => 40 + x)) = (List.range 40).map (saP cs b) := by
    refine List.map_congr_left (fun k hk => ?_)
    have hk := List.mem_range.mp hk
    show (adL q a b (1 + (40 + k)), EL cs (adL q a b) (40 + k) (fun _ => 0)) = _
    unfold saP EL
    rw [if_neg (by omega), show 1 + (40 + k) = 41 + k by omega, adL_b]
  rw [← e1, ← e2]
def fF (a : Nat → Nat) (i : Nat) : Nat → Option Nat := fun j => if j < i then some (a j) else none
theorem fF_up {a : Nat → Nat} {i q : Nat} : va_up (fF a i) i (some q) = fF (fun j => if j = i then q else a j) (i + 1) := by
  funext j
  unfold va_up fF
  by_cases h : j = i
  · subst h; simp
  · by_cases h2 : j < i
    · rw [if_neg h, if_pos h2, if_pos (by omega)]
      exact congrArg some (if_neg h).symm
    · rw [if_neg h, if_neg h2, if_neg (by omega)]

theorem mw_1_50 : (Cond.methodLink RX3 3 objectInit : Cond) ∈ lw_good := lg_at 1 50 rfl rfl
theorem mw_1_24 : (Cond.instanceMethod objectInit : Cond) ∈ lw_good := lg_at 1 24 rfl rfl
theorem mw_1_25 : (Cond.code objectInit ⟨#[0xb1]⟩ 1 none : Cond) ∈ lw_good := lg_at 1 25 rfl rfl
theorem mw_1_222 : (Cond.methodLink RX7 3 objectInit : Cond) ∈ lw_good := lg_at 1 222 rfl rfl
theorem mw_1_102 : (Cond.arrayClass .int : Cond) ∈ lw_good := lg_at 1 102 rfl rfl
theorem mw_1_223 : (Cond.fieldLink RX7 9 "DearLetters$Sale" "pursesAhead" "[I" : Cond) ∈ lw_good := lg_at 1 223 rfl rfl
theorem mw_2_25 : (Cond.methodLink RX0 3 objectInit : Cond) ∈ lw_good := lg_at 2 25 rfl rfl
theorem mw_2_103 : (Cond.methodLink RX1 3 objectInit : Cond) ∈ lw_good := lg_at 2 103 rfl rfl
theorem mw_1_190 : (Cond.methodLink RX4 3 objectInit : Cond) ∈ lw_good := lg_at 1 190 rfl rfl
theorem mw_2_19 : (Cond.methodLink RX5 3 objectInit : Cond) ∈ lw_good := lg_at 2 19 rfl rfl
theorem mw_2_20 : (Cond.classLink RX5 21 RX0 : Cond) ∈ lw_good := lg_at 2 20 rfl rfl
theorem mw_2_21 : (Cond.instantiable RX0 4 : Cond) ∈ lw_good := lg_at 2 21 rfl rfl
theorem mw_2_24 : (Cond.code yX0_init cX0_init 1 none : Cond) ∈ lw_good := lg_at 2 24 rfl rfl
theorem mw_2_23 : (Cond.instanceMethod yX0_init : Cond) ∈ lw_good := lg_at 2 23 rfl rfl
theorem mw_2_128 : (Cond.methodLink RX6 3 objectInit : Cond) ∈ lw_good := lg_at 2 128 rfl rfl
theorem mw_2_144 : (Cond.methodLink RX9 3 objectInit : Cond) ∈ lw_good := lg_at 2 144 rfl rfl
theorem mw_2_156 : (Cond.arrayClass .byte : Cond) ∈ lw_good := lg_at 2 156 rfl rfl
theorem mw_1_43 : (Cond.methodLink RX8 3 objectInit : Cond) ∈ lw_good := lg_at 1 43 rfl rfl
theorem mw_1_44 : (Cond.classLink RX8 15 RX3 : Cond) ∈ lw_good := lg_at 1 44 rfl rfl
theorem mw_1_46 : (Cond.instantiable RX3 10 : Cond) ∈ lw_good := lg_at 1 46 rfl rfl
theorem mw_1_49 : (Cond.code yX3_init cX3_init 1 none : Cond) ∈ lw_good := lg_at 1 49 rfl rfl
theorem mw_1_48 : (Cond.instanceMethod yX3_init : Cond) ∈ lw_good := lg_at 1 48 rfl rfl
theorem mw_1_37 : (Cond.methodLink RX10 3 objectInit : Cond) ∈ lw_good := lg_at 1 37 rfl rfl
theorem mw_1_38 : (Cond.classLink RX10 21 RX8 : Cond) ∈ lw_good := lg_at 1 38 rfl rfl
theorem mw_1_39 : (Cond.instantiable RX8 6 : Cond) ∈ lw_good := lg_at 1 39 rfl rfl
theorem mw_1_42 : (Cond.code yX8_init cX8_init 2 none : Cond) ∈ lw_good := lg_at 1 42 rfl rfl
theorem mw_1_40 : (Cond.methodLink RX10 23 yX8_init : Cond) ∈ lw_good := lg_at 1 40 rfl rfl
theorem mw_1_41 : (Cond.instanceMethod yX8_init : Cond) ∈ lw_good := lg_at 1 41 rfl rfl
theorem lb_X3_init_0 : dl_ck (cX3_init.data.toList.drop 0) [42, 183, 0, 3, 177] = true := by decide +kernel
theorem dX3_init_0 : decode cX3_init 0 = .ok (.aload_n 0, 1) := dx_42 (dl_at 0 0 lb_X3_init_0 rfl)
theorem dX3_init_1 : decode cX3_init 1 = .ok (.invokespecial 3, 3) := dx_183 (a := 0) (b := 3) (dl_at 0 1 lb_X3_init_0 rfl) (dl_at 0 2 lb_X3_init_0 rfl) (dl_at 0 3 lb_X3_init_0 rfl) rfl
theorem dX3_init_4 : decode cX3_init 4 = .ok (.return_, 1) := dx_177 (dl_at 0 4 lb_X3_init_0 rfl)
theorem lb_X7_init_0 : dl_ck (cX7_init.data.toList.drop 0) [42, 183, 0, 3, 42, 16, 7, 188, 10, 181, 0, 9, 177] = true := by decide +kernel
theorem dX7_init_0 : decode cX7_init 0 = .ok (.aload_n 0, 1) := dx_42 (dl_at 0 0 lb_X7_init_0 rfl)
theorem dX7_init_1 : decode cX7_init 1 = .ok (.invokespecial 3, 3) := dx_183 (a := 0) (b := 3) (dl_at 0 1 lb_X7_init_0 rfl) (dl_at 0 2 lb_X7_init_0 rfl) (dl_at 0 3 lb_X7_init_0 rfl) rfl
theorem dX7_init_4 : decode cX7_init 4 = .ok (.aload_n 0, 1) := dx_42 (dl_at 0 4 lb_X7_init_0 rfl)
theorem dX7_init_5 : decode cX7_init 5 = .ok (.bipush 7, 2) := dx_16 (dl_at 0 5 lb_X7_init_0 rfl) (dl_at 0 6 lb_X7_init_0 rfl) sg8_7
theorem dX7_init_7 : decode cX7_init 7 = .ok (.newarray .int, 2) := by decide +kernel
theorem dX7_init_9 : decode cX7_init 9 = .ok (.putfield 9, 3) := dx_181 (a := 0) (b := 9) (dl_at 0 9 lb_X7_init_0 rfl) (dl_at 0 10 lb_X7_init_0 rfl) (dl_at 0 11 lb_X7_init_0 rfl) rfl
theorem dX7_init_12 : decode cX7_init 12 = .ok (.return_, 1) := dx_177 (dl_at 0 12 lb_X7_init_0 rfl)
theorem lb_X0_init_0 : dl_ck (cX0_init.data.toList.drop 0) [42, 183, 0, 3, 42, 16, 7, 188, 10, 181, 0, 9, 177] = true := by decide +kernel
theorem dX0_init_0 : decode cX0_init 0 = .ok (.aload_n 0, 1) := dx_42 (dl_at 0 0 lb_X0_init_0 rfl)
theorem dX0_init_1 : decode cX0_init 1 = .ok (.invokespecial 3, 3) := dx_183 (a := 0) (b := 3) (dl_at 0 1 lb_X0_init_0 rfl) (dl_at 0 2 lb_X0_init_0 rfl) (dl_at 0 3 lb_X0_init_0 rfl) rfl
theorem dX0_init_4 : decode cX0_init 4 = .ok (.aload_n 0, 1) := dx_42 (dl_at 0 4 lb_X0_init_0 rfl)
theorem dX0_init_5 : decode cX0_init 5 = .ok (.bipush 7, 2) := dx_16 (dl_at 0 5 lb_X0_init_0 rfl) (dl_at 0 6 lb_X0_init_0 rfl) sg8_7
theorem dX0_init_7 : decode cX0_init 7 = .ok (.newarray .int, 2) := by decide +kernel
theorem dX0_init_9 : decode cX0_init 9 = .ok (.putfield 9, 3) := dx_181 (a := 0) (b := 9) (dl_at 0 9 lb_X0_init_0 rfl) (dl_at 0 10 lb_X0_init_0 rfl) (dl_at 0 11 lb_X0_init_0 rfl) rfl
theorem dX0_init_12 : decode cX0_init 12 = .ok (.return_, 1) := dx_177 (dl_at 0 12 lb_X0_init_0 rfl)
theorem lb_X1_init_0 : dl_ck (cX1_init.data.toList.drop 0) [42, 183, 0, 3, 42, 16, 7, 188, 10, 181, 0, 9, 42, 16, 7, 188, 10, 181, 0, 15, 177] = true := by decide +kernel
theorem dX1_init_0 : decode cX1_init 0 = .ok (.aload_n 0, 1) := dx_42 (dl_at 0 0 lb_X1_init_0 rfl)
theorem dX1_init_1 : decode cX1_init 1 = .ok (.invokespecial 3, 3) := dx_183 (a := 0) (b := 3) (dl_at 0 1 lb_X1_init_0 rfl) (dl_at 0 2 lb_X1_init_0 rfl) (dl_at 0 3 lb_X1_init_0 rfl) rfl
theorem dX1_init_4 : decode cX1_init 4 = .ok (.aload_n 0, 1) := dx_42 (dl_at 0 4 lb_X1_init_0 rfl)
theorem dX1_init_5 : decode cX1_init 5 = .ok (.bipush 7, 2) := dx_16 (dl_at 0 5 lb_X1_init_0 rfl) (dl_at 0 6 lb_X1_init_0 rfl) sg8_7
theorem dX1_init_7 : decode cX1_init 7 = .ok (.newarray .int, 2) := by decide +kernel
theorem dX1_init_9 : decode cX1_init 9 = .ok (.putfield 9, 3) := dx_181 (a := 0) (b := 9) (dl_at 0 9 lb_X1_init_0 rfl) (dl_at 0 10 lb_X1_init_0 rfl) (dl_at 0 11 lb_X1_init_0 rfl) rfl
theorem dX1_init_12 : decode cX1_init 12 = .ok (.aload_n 0, 1) := dx_42 (dl_at 0 12 lb_X1_init_0 rfl)
theorem dX1_init_13 : decode cX1_init 13 = .ok (.bipush 7, 2) := dx_16 (dl_at 0 13 lb_X1_init_0 rfl) (dl_at 0 14 lb_X1_init_0 rfl) sg8_7
theorem dX1_init_15 : decode cX1_init 15 = .ok (.newarray .int, 2) := by decide +kernel
theorem dX1_init_17 : decode cX1_init 17 = .ok (.putfield 15, 3) := dx_181 (a := 0) (b := 15) (dl_at 0 17 lb_X1_init_0 rfl) (dl_at 0 18 lb_X1_init_0 rfl) (dl_at 0 19 lb_X1_init_0 rfl) rfl
theorem dX1_init_20 : decode cX1_init 20 = .ok (.return_, 1) := dx_177 (dl_at 0 20 lb_X1_init_0 rfl)
theorem lb_X4_init_0 : dl_ck (cX4_init.data.toList.drop 0) [42, 183, 0, 3, 42, 16, 7, 188, 10, 181, 0, 9, 42, 16, 7, 188, 10, 181, 0, 15, 42, 16, 12, 188, 10, 181, 0, 18, 42, 16, 12, 188] = true := by decide +kernel
theorem lb_X4_init_1 : dl_ck (cX4_init.data.toList.drop 32) [10, 181, 0, 21, 177] = true := by decide +kernel
theorem dX4_init_0 : decode cX4_init 0 = .ok (.aload_n 0, 1) := dx_42 (dl_at 0 0 lb_X4_init_0 rfl)
theorem dX4_init_1 : decode cX4_init 1 = .ok (.invokespecial 3, 3) := dx_183 (a := 0) (b := 3) (dl_at 0 1 lb_X4_init_0 rfl) (dl_at 0 2 lb_X4_init_0 rfl) (dl_at 0 3 lb_X4_init_0 rfl) rfl
theorem dX4_init_4 : decode cX4_init 4 = .ok (.aload_n 0, 1) := dx_42 (dl_at 0 4 lb_X4_init_0 rfl)
theorem dX4_init_5 : decode cX4_init 5 = .ok (.bipush 7, 2) := dx_16 (dl_at 0 5 lb_X4_init_0 rfl) (dl_at 0 6 lb_X4_init_0 rfl) sg8_7
theorem dX4_init_7 : decode cX4_init 7 = .ok (.newarray .int, 2) := by decide +kernel
theorem dX4_init_9 : decode cX4_init 9 = .ok (.putfield 9, 3) := dx_181 (a := 0) (b := 9) (dl_at 0 9 lb_X4_init_0 rfl) (dl_at 0 10 lb_X4_init_0 rfl) (dl_at 0 11 lb_X4_init_0 rfl) rfl
theorem dX4_init_12 : decode cX4_init 12 = .ok (.aload_n 0, 1) := dx_42 (dl_at 0 12 lb_X4_init_0 rfl)
theorem dX4_init_13 : decode cX4_init 13 = .ok (.bipush 7, 2) := dx_16 (dl_at 0 13 lb_X4_init_0 rfl) (dl_at 0 14 lb_X4_init_0 rfl) sg8_7
theorem dX4_init_15 : decode cX4_init 15 = .ok (.newarray .int, 2) := by decide +kernel
theorem dX4_init_17 : decode cX4_init 17 = .ok (.putfield 15, 3) := dx_181 (a := 0) (b := 15) (dl_at 0 17 lb_X4_init_0 rfl) (dl_at 0 18 lb_X4_init_0 rfl) (dl_at 0 19 lb_X4_init_0 rfl) rfl
theorem dX4_init_20 : decode cX4_init 20 = .ok (.aload_n 0, 1) := dx_42 (dl_at 0 20 lb_X4_init_0 rfl)
theorem dX4_init_21 : decode cX4_init 21 = .ok (.bipush 12, 2) := dx_16 (dl_at 0 21 lb_X4_init_0 rfl) (dl_at 0 22 lb_X4_init_0 rfl) sg8_12
theorem dX4_init_23 : decode cX4_init 23 = .ok (.newarray .int, 2) := by decide +kernel
theorem dX4_init_25 : decode cX4_init 25 = .ok (.putfield 18, 3) := dx_181 (a := 0) (b := 18) (dl_at 0 25 lb_X4_init_0 rfl) (dl_at 0 26 lb_X4_init_0 rfl) (dl_at 0 27 lb_X4_init_0 rfl) rfl
theorem dX4_init_28 : decode cX4_init 28 = .ok (.aload_n 0, 1) := dx_42 (dl_at 0 28 lb_X4_init_0 rfl)
theorem dX4_init_29 : decode cX4_init 29 = .ok (.bipush 12, 2) := dx_16 (dl_at 0 29 lb_X4_init_0 rfl) (dl_at 0 30 lb_X4_init_0 rfl) sg8_12
theorem dX4_init_31 : decode cX4_init 31 = .ok (.newarray .int, 2) := by decide +kernel
theorem dX4_init_33 : decode cX4_init 33 = .ok (.putfield 21, 3) := dx_181 (a := 0) (b := 21) (dl_at 32 1 lb_X4_init_1 rfl) (dl_at 32 2 lb_X4_init_1 rfl) (dl_at 32 3 lb_X4_init_1 rfl) rfl
theorem dX4_init_36 : decode cX4_init 36 = .ok (.return_, 1) := dx_177 (dl_at 32 4 lb_X4_init_1 rfl)
theorem lb_X5_init_0 : dl_ck (cX5_init.data.toList.drop 0) [42, 183, 0, 3, 42, 16, 7, 188, 10, 181, 0, 9, 42, 16, 7, 188, 10, 181, 0, 15, 42, 16, 7, 188, 10, 181, 0, 18, 42, 187, 0, 21] = true := by decide +kernel
theorem lb_X5_init_1 : dl_ck (cX5_init.data.toList.drop 32) [89, 183, 0, 23, 181, 0, 24, 42, 187, 0, 21, 89, 183, 0, 23, 181, 0, 28, 177] = true := by decide +kernel
theorem dX5_init_0 : decode cX5_init 0 = .ok (.aload_n 0, 1) := dx_42 (dl_at 0 0 lb_X5_init_0 rfl)
theorem dX5_init_1 : decode cX5_init 1 = .ok (.invokespecial 3, 3) := dx_183 (a := 0) (b := 3) (dl_at 0 1 lb_X5_init_0 rfl) (dl_at 0 2 lb_X5_init_0 rfl) (dl_at 0 3 lb_X5_init_0 rfl) rfl
theorem dX5_init_4 : decode cX5_init 4 = .ok (.aload_n 0, 1) := dx_42 (dl_at 0 4 lb_X5_init_0 rfl)
theorem dX5_init_5 : decode cX5_init 5 = .ok (.bipush 7, 2) := dx_16 (dl_at 0 5 lb_X5_init_0 rfl) (dl_at 0 6 lb_X5_init_0 rfl) sg8_7
theorem dX5_init_7 : decode cX5_init 7 = .ok (.newarray .int, 2) := by decide +kernel
theorem dX5_init_9 : decode cX5_init 9 = .ok (.putfield 9, 3) := dx_181 (a := 0) (b := 9) (dl_at 0 9 lb_X5_init_0 rfl) (dl_at 0 10 lb_X5_init_0 rfl) (dl_at 0 11 lb_X5_init_0 rfl) rfl
theorem dX5_init_12 : decode cX5_init 12 = .ok (.aload_n 0, 1) := dx_42 (dl_at 0 12 lb_X5_init_0 rfl)
theorem dX5_init_13 : decode cX5_init 13 = .ok (.bipush 7, 2) := dx_16 (dl_at 0 13 lb_X5_init_0 rfl) (dl_at 0 14 lb_X5_init_0 rfl) sg8_7
theorem dX5_init_15 : decode cX5_init 15 = .ok (.newarray .int, 2) := by decide +kernel
theorem dX5_init_17 : decode cX5_init 17 = .ok (.putfield 15, 3) := dx_181 (a := 0) (b := 15) (dl_at 0 17 lb_X5_init_0 rfl) (dl_at 0 18 lb_X5_init_0 rfl) (dl_at 0 19 lb_X5_init_0 rfl) rfl
theorem dX5_init_20 : decode cX5_init 20 = .ok (.aload_n 0, 1) := dx_42 (dl_at 0 20 lb_X5_init_0 rfl)
theorem dX5_init_21 : decode cX5_init 21 = .ok (.bipush 7, 2) := dx_16 (dl_at 0 21 lb_X5_init_0 rfl) (dl_at 0 22 lb_X5_init_0 rfl) sg8_7
theorem dX5_init_23 : decode cX5_init 23 = .ok (.newarray .int, 2) := by decide +kernel
theorem dX5_init_25 : decode cX5_init 25 = .ok (.putfield 18, 3) := dx_181 (a := 0) (b := 18) (dl_at 0 25 lb_X5_init_0 rfl) (dl_at 0 26 lb_X5_init_0 rfl) (dl_at 0 27 lb_X5_init_0 rfl) rfl
theorem dX5_init_28 : decode cX5_init 28 = .ok (.aload_n 0, 1) := dx_42 (dl_at 0 28 lb_X5_init_0 rfl)
theorem dX5_init_29 : decode cX5_init 29 = .ok (.new 21, 3) := dx_187 (a := 0) (b := 21) (dl_at 0 29 lb_X5_init_0 rfl) (dl_at 0 30 lb_X5_init_0 rfl) (dl_at 0 31 lb_X5_init_0 rfl) rfl
theorem dX5_init_32 : decode cX5_init 32 = .ok (.dup, 1) := dx_89 (dl_at 32 0 lb_X5_init_1 rfl)
theorem dX5_init_33 : decode cX5_init 33 = .ok (.invokespecial 23, 3) := dx_183 (a := 0) (b := 23) (dl_at 32 1 lb_X5_init_1 rfl) (dl_at 32 2 lb_X5_init_1 rfl) (dl_at 32 3 lb_X5_init_1 rfl) rfl
theorem dX5_init_36 : decode cX5_init 36 = .ok (.putfield 24, 3) := dx_181 (a := 0) (b := 24) (dl_at 32 4 lb_X5_init_1 rfl) (dl_at 32 5 lb_X5_init_1 rfl) (dl_at 32 6 lb_X5_init_1 rfl) rfl
theorem dX5_init_39 : decode cX5_init 39 = .ok (.aload_n 0, 1) := dx_42 (dl_at 32 7 lb_X5_init_1 rfl)
theorem dX5_init_40 : decode cX5_init 40 = .ok (.new 21, 3) := dx_187 (a := 0) (b := 21) (dl_at 32 8 lb_X5_init_1 rfl) (dl_at 32 9 lb_X5_init_1 rfl) (dl_at 32 10 lb_X5_init_1 rfl) rfl
theorem dX5_init_43 : decode cX5_init 43 = .ok (.dup, 1) := dx_89 (dl_at 32 11 lb_X5_init_1 rfl)
theorem dX5_init_44 : decode cX5_init 44 = .ok (.invokespecial 23, 3) := dx_183 (a := 0) (b := 23) (dl_at 32 12 lb_X5_init_1 rfl) (dl_at 32 13 lb_X5_init_1 rfl) (dl_at 32 14 lb_X5_init_1 rfl) rfl
theorem dX5_init_47 : decode cX5_init 47 = .ok (.putfield 28, 3) := dx_181 (a := 0) (b := 28) (dl_at 32 15 lb_X5_init_1 rfl) (dl_at 32 16 lb_X5_init_1 rfl) (dl_at 32 17 lb_X5_init_1 rfl) rfl
theorem dX5_init_50 : decode cX5_init 50 = .ok (.return_, 1) := dx_177 (dl_at 32 18 lb_X5_init_1 rfl)
theorem lb_X6_init_0 : dl_ck (cX6_init.data.toList.drop 0) [42, 183, 0, 3, 42, 16, 40, 188, 10, 181, 0, 9, 42, 2, 181, 0, 15, 177] = true := by decide +kernel
theorem dX6_init_0 : decode cX6_init 0 = .ok (.aload_n 0, 1) := dx_42 (dl_at 0 0 lb_X6_init_0 rfl)
theorem dX6_init_1 : decode cX6_init 1 = .ok (.invokespecial 3, 3) := dx_183 (a := 0) (b := 3) (dl_at 0 1 lb_X6_init_0 rfl) (dl_at 0 2 lb_X6_init_0 rfl) (dl_at 0 3 lb_X6_init_0 rfl) rfl
theorem dX6_init_4 : decode cX6_init 4 = .ok (.aload_n 0, 1) := dx_42 (dl_at 0 4 lb_X6_init_0 rfl)
theorem dX6_init_5 : decode cX6_init 5 = .ok (.bipush 40, 2) := dx_16 (dl_at 0 5 lb_X6_init_0 rfl) (dl_at 0 6 lb_X6_init_0 rfl) sg8_40
theorem dX6_init_7 : decode cX6_init 7 = .ok (.newarray .int, 2) := by decide +kernel
theorem dX6_init_9 : decode cX6_init 9 = .ok (.putfield 9, 3) := dx_181 (a := 0) (b := 9) (dl_at 0 9 lb_X6_init_0 rfl) (dl_at 0 10 lb_X6_init_0 rfl) (dl_at 0 11 lb_X6_init_0 rfl) rfl
theorem dX6_init_12 : decode cX6_init 12 = .ok (.aload_n 0, 1) := dx_42 (dl_at 0 12 lb_X6_init_0 rfl)
theorem dX6_init_13 : decode cX6_init 13 = .ok (.iconst (-1), 1) := dx_2 (dl_at 0 13 lb_X6_init_0 rfl)
theorem dX6_init_14 : decode cX6_init 14 = .ok (.putfield 15, 3) := dx_181 (a := 0) (b := 15) (dl_at 0 14 lb_X6_init_0 rfl) (dl_at 0 15 lb_X6_init_0 rfl) (dl_at 0 16 lb_X6_init_0 rfl) rfl
theorem dX6_init_17 : decode cX6_init 17 = .ok (.return_, 1) := dx_177 (dl_at 0 17 lb_X6_init_0 rfl)
theorem lb_X9_init_0 : dl_ck (cX9_init.data.toList.drop 0) [42, 183, 0, 3, 42, 16, 80, 188, 8, 181, 0, 9, 42, 2, 181, 0, 15, 177] = true := by decide +kernel
theorem dX9_init_0 : decode cX9_init 0 = .ok (.aload_n 0, 1) := dx_42 (dl_at 0 0 lb_X9_init_0 rfl)
theorem dX9_init_1 : decode cX9_init 1 = .ok (.invokespecial 3, 3) := dx_183 (a := 0) (b := 3) (dl_at 0 1 lb_X9_init_0 rfl) (dl_at 0 2 lb_X9_init_0 rfl) (dl_at 0 3 lb_X9_init_0 rfl) rfl
theorem dX9_init_4 : decode cX9_init 4 = .ok (.aload_n 0, 1) := dx_42 (dl_at 0 4 lb_X9_init_0 rfl)
theorem dX9_init_5 : decode cX9_init 5 = .ok (.bipush 80, 2) := dx_16 (dl_at 0 5 lb_X9_init_0 rfl) (dl_at 0 6 lb_X9_init_0 rfl) sg8_80
theorem dX9_init_7 : decode cX9_init 7 = .ok (.newarray .byte, 2) := by decide +kernel
theorem dX9_init_9 : decode cX9_init 9 = .ok (.putfield 9, 3) := dx_181 (a := 0) (b := 9) (dl_at 0 9 lb_X9_init_0 rfl) (dl_at 0 10 lb_X9_init_0 rfl) (dl_at 0 11 lb_X9_init_0 rfl) rfl
theorem dX9_init_12 : decode cX9_init 12 = .ok (.aload_n 0, 1) := dx_42 (dl_at 0 12 lb_X9_init_0 rfl)
theorem dX9_init_13 : decode cX9_init 13 = .ok (.iconst (-1), 1) := dx_2 (dl_at 0 13 lb_X9_init_0 rfl)
theorem dX9_init_14 : decode cX9_init 14 = .ok (.putfield 15, 3) := dx_181 (a := 0) (b := 15) (dl_at 0 14 lb_X9_init_0 rfl) (dl_at 0 15 lb_X9_init_0 rfl) (dl_at 0 16 lb_X9_init_0 rfl) rfl
theorem dX9_init_17 : decode cX9_init 17 = .ok (.return_, 1) := dx_177 (dl_at 0 17 lb_X9_init_0 rfl)
theorem lb_X8_init_0 : dl_ck (cX8_init.data.toList.drop 0) [42, 183, 0, 3, 42, 16, 7, 188, 10, 181, 0, 9, 42, 7, 189, 0, 15, 181, 0, 17, 3, 60, 27, 7, 162, 0, 22, 42, 180, 0, 17, 27] = true := by decide +kernel
theorem lb_X8_init_1 : dl_ck (cX8_init.data.toList.drop 32) [187, 0, 15, 89, 183, 0, 21, 83, 132, 1, 1, 167, 255, 235, 177] = true := by decide +kernel
theorem dX8_init_0 : decode cX8_init 0 = .ok (.aload_n 0, 1) := dx_42 (dl_at 0 0 lb_X8_init_0 rfl)
theorem dX8_init_1 : decode cX8_init 1 = .ok (.invokespecial 3, 3) := dx_183 (a := 0) (b := 3) (dl_at 0 1 lb_X8_init_0 rfl) (dl_at 0 2 lb_X8_init_0 rfl) (dl_at 0 3 lb_X8_init_0 rfl) rfl
theorem dX8_init_4 : decode cX8_init 4 = .ok (.aload_n 0, 1) := dx_42 (dl_at 0 4 lb_X8_init_0 rfl)
theorem dX8_init_5 : decode cX8_init 5 = .ok (.bipush 7, 2) := dx_16 (dl_at 0 5 lb_X8_init_0 rfl) (dl_at 0 6 lb_X8_init_0 rfl) sg8_7
theorem dX8_init_7 : decode cX8_init 7 = .ok (.newarray .int, 2) := by decide +kernel
theorem dX8_init_9 : decode cX8_init 9 = .ok (.putfield 9, 3) := dx_181 (a := 0) (b := 9) (dl_at 0 9 lb_X8_init_0 rfl) (dl_at 0 10 lb_X8_init_0 rfl) (dl_at 0 11 lb_X8_init_0 rfl) rfl
theorem dX8_init_12 : decode cX8_init 12 = .ok (.aload_n 0, 1) := dx_42 (dl_at 0 12 lb_X8_init_0 rfl)
theorem dX8_init_13 : decode cX8_init 13 = .ok (.iconst 4, 1) := dx_7 (dl_at 0 13 lb_X8_init_0 rfl)
theorem dX8_init_14 : decode cX8_init 14 = .ok (.anewarray 15, 3) := dx_189 (a := 0) (b := 15) (dl_at 0 14 lb_X8_init_0 rfl) (dl_at 0 15 lb_X8_init_0 rfl) (dl_at 0 16 lb_X8_init_0 rfl) rfl
theorem dX8_init_17 : decode cX8_init 17 = .ok (.putfield 17, 3) := dx_181 (a := 0) (b := 17) (dl_at 0 17 lb_X8_init_0 rfl) (dl_at 0 18 lb_X8_init_0 rfl) (dl_at 0 19 lb_X8_init_0 rfl) rfl
theorem dX8_init_20 : decode cX8_init 20 = .ok (.iconst 0, 1) := dx_3 (dl_at 0 20 lb_X8_init_0 rfl)
theorem dX8_init_21 : decode cX8_init 21 = .ok (.istore_n 1, 1) := dx_60 (dl_at 0 21 lb_X8_init_0 rfl)
theorem dX8_init_22 : decode cX8_init 22 = .ok (.iload_n 1, 1) := dx_27 (dl_at 0 22 lb_X8_init_0 rfl)
theorem dX8_init_23 : decode cX8_init 23 = .ok (.iconst 4, 1) := dx_7 (dl_at 0 23 lb_X8_init_0 rfl)
theorem dX8_init_24 : decode cX8_init 24 = .ok (.if_icmp .ge 22, 3) := dx_162 (a := 0) (b := 22) (dl_at 0 24 lb_X8_init_0 rfl) (dl_at 0 25 lb_X8_init_0 rfl) (dl_at 0 26 lb_X8_init_0 rfl) sg16_22
theorem dX8_init_27 : decode cX8_init 27 = .ok (.aload_n 0, 1) := dx_42 (dl_at 0 27 lb_X8_init_0 rfl)
theorem dX8_init_28 : decode cX8_init 28 = .ok (.getfield 17, 3) := dx_180 (a := 0) (b := 17) (dl_at 0 28 lb_X8_init_0 rfl) (dl_at 0 29 lb_X8_init_0 rfl) (dl_at 0 30 lb_X8_init_0 rfl) rfl
theorem dX8_init_31 : decode cX8_init 31 = .ok (.iload_n 1, 1) := dx_27 (dl_at 0 31 lb_X8_init_0 rfl)
theorem dX8_init_32 : decode cX8_init 32 = .ok (.new 15, 3) := dx_187 (a := 0) (b := 15) (dl_at 32 0 lb_X8_init_1 rfl) (dl_at 32 1 lb_X8_init_1 rfl) (dl_at 32 2 lb_X8_init_1 rfl) rfl
theorem dX8_init_35 : decode cX8_init 35 = .ok (.dup, 1) := dx_89 (dl_at 32 3 lb_X8_init_1 rfl)
theorem dX8_init_36 : decode cX8_init 36 = .ok (.invokespecial 21, 3) := dx_183 (a := 0) (b := 21) (dl_at 32 4 lb_X8_init_1 rfl) (dl_at 32 5 lb_X8_init_1 rfl) (dl_at 32 6 lb_X8_init_1 rfl) rfl
theorem dX8_init_39 : decode cX8_init 39 = .ok (.aastore, 1) := dx_83 (dl_at 32 7 lb_X8_init_1 rfl)
theorem dX8_init_40 : decode cX8_init 40 = .ok (.iinc 1 1, 3) := dx_132 (dl_at 32 8 lb_X8_init_1 rfl) (dl_at 32 9 lb_X8_init_1 rfl) (dl_at 32 10 lb_X8_init_1 rfl) sg8_1
theorem dX8_init_43 : decode cX8_init 43 = .ok (.goto (-21), 3) := dx_167 (a := 255) (b := 235) (dl_at 32 11 lb_X8_init_1 rfl) (dl_at 32 12 lb_X8_init_1 rfl) (dl_at 32 13 lb_X8_init_1 rfl) sg16_65515
theorem dX8_init_46 : decode cX8_init 46 = .ok (.return_, 1) := dx_177 (dl_at 32 14 lb_X8_init_1 rfl)
theorem lb_X10_init_0 : dl_ck (cX10_init.data.toList.drop 0) [42, 183, 0, 3, 42, 16, 7, 188, 10, 181, 0, 9, 42, 16, 12, 188, 10, 181, 0, 15, 42, 16, 12, 188, 10, 181, 0, 18, 42, 187, 0, 21] = true := by decide +kernel
theorem lb_X10_init_1 : dl_ck (cX10_init.data.toList.drop 32) [89, 183, 0, 23, 181, 0, 24, 42, 16, 7, 188, 10, 181, 0, 28, 42, 16, 7, 188, 10, 181, 0, 31, 177] = true := by decide +kernel
theorem dX10_init_0 : decode cX10_init 0 = .ok (.aload_n 0, 1) := dx_42 (dl_at 0 0 lb_X10_init_0 rfl)
theorem dX10_init_1 : decode cX10_init 1 = .ok (.invokespecial 3, 3) := dx_183 (a := 0) (b := 3) (dl_at 0 1 lb_X10_init_0 rfl) (dl_at 0 2 lb_X10_init_0 rfl) (dl_at 0 3 lb_X10_init_0 rfl) rfl
theorem dX10_init_4 : decode cX10_init 4 = .ok (.aload_n 0, 1) := dx_42 (dl_at 0 4 lb_X10_init_0 rfl)
theorem dX10_init_5 : decode cX10_init 5 = .ok (.bipush 7, 2) := dx_16 (dl_at 0 5 lb_X10_init_0 rfl) (dl_at 0 6 lb_X10_init_0 rfl) sg8_7
theorem dX10_init_7 : decode cX10_init 7 = .ok (.newarray .int, 2) := by decide +kernel
theorem dX10_init_9 : decode cX10_init 9 = .ok (.putfield 9, 3) := dx_181 (a := 0) (b := 9) (dl_at 0 9 lb_X10_init_0 rfl) (dl_at 0 10 lb_X10_init_0 rfl) (dl_at 0 11 lb_X10_init_0 rfl) rfl
theorem dX10_init_12 : decode cX10_init 12 = .ok (.aload_n 0, 1) := dx_42 (dl_at 0 12 lb_X10_init_0 rfl)
theorem dX10_init_13 : decode cX10_init 13 = .ok (.bipush 12, 2) := dx_16 (dl_at 0 13 lb_X10_init_0 rfl) (dl_at 0 14 lb_X10_init_0 rfl) sg8_12
theorem dX10_init_15 : decode cX10_init 15 = .ok (.newarray .int, 2) := by decide +kernel
theorem dX10_init_17 : decode cX10_init 17 = .ok (.putfield 15, 3) := dx_181 (a := 0) (b := 15) (dl_at 0 17 lb_X10_init_0 rfl) (dl_at 0 18 lb_X10_init_0 rfl) (dl_at 0 19 lb_X10_init_0 rfl) rfl
theorem dX10_init_20 : decode cX10_init 20 = .ok (.aload_n 0, 1) := dx_42 (dl_at 0 20 lb_X10_init_0 rfl)
theorem dX10_init_21 : decode cX10_init 21 = .ok (.bipush 12, 2) := dx_16 (dl_at 0 21 lb_X10_init_0 rfl) (dl_at 0 22 lb_X10_init_0 rfl) sg8_12
theorem dX10_init_23 : decode cX10_init 23 = .ok (.newarray .int, 2) := by decide +kernel
theorem dX10_init_25 : decode cX10_init 25 = .ok (.putfield 18, 3) := dx_181 (a := 0) (b := 18) (dl_at 0 25 lb_X10_init_0 rfl) (dl_at 0 26 lb_X10_init_0 rfl) (dl_at 0 27 lb_X10_init_0 rfl) rfl
theorem dX10_init_28 : decode cX10_init 28 = .ok (.aload_n 0, 1) := dx_42 (dl_at 0 28 lb_X10_init_0 rfl)
theorem dX10_init_29 : decode cX10_init 29 = .ok (.new 21, 3) := dx_187 (a := 0) (b := 21) (dl_at 0 29 lb_X10_init_0 rfl) (dl_at 0 30 lb_X10_init_0 rfl) (dl_at 0 31 lb_X10_init_0 rfl) rfl
theorem dX10_init_32 : decode cX10_init 32 = .ok (.dup, 1) := dx_89 (dl_at 32 0 lb_X10_init_1 rfl)
theorem dX10_init_33 : decode cX10_init 33 = .ok (.invokespecial 23, 3) := dx_183 (a := 0) (b := 23) (dl_at 32 1 lb_X10_init_1 rfl) (dl_at 32 2 lb_X10_init_1 rfl) (dl_at 32 3 lb_X10_init_1 rfl) rfl
theorem dX10_init_36 : decode cX10_init 36 = .ok (.putfield 24, 3) := dx_181 (a := 0) (b := 24) (dl_at 32 4 lb_X10_init_1 rfl) (dl_at 32 5 lb_X10_init_1 rfl) (dl_at 32 6 lb_X10_init_1 rfl) rfl
theorem dX10_init_39 : decode cX10_init 39 = .ok (.aload_n 0, 1) := dx_42 (dl_at 32 7 lb_X10_init_1 rfl)
theorem dX10_init_40 : decode cX10_init 40 = .ok (.bipush 7, 2) := dx_16 (dl_at 32 8 lb_X10_init_1 rfl) (dl_at 32 9 lb_X10_init_1 rfl) sg8_7
theorem dX10_init_42 : decode cX10_init 42 = .ok (.newarray .int, 2) := by decide +kernel
theorem dX10_init_44 : decode cX10_init 44 = .ok (.putfield 28, 3) := dx_181 (a := 0) (b := 28) (dl_at 32 12 lb_X10_init_1 rfl) (dl_at 32 13 lb_X10_init_1 rfl) (dl_at 32 14 lb_X10_init_1 rfl) rfl
theorem dX10_init_47 : decode cX10_init 47 = .ok (.aload_n 0, 1) := dx_42 (dl_at 32 15 lb_X10_init_1 rfl)
theorem dX10_init_48 : decode cX10_init 48 = .ok (.bipush 7, 2) := dx_16 (dl_at 32 16 lb_X10_init_1 rfl) (dl_at 32 17 lb_X10_init_1 rfl) sg8_7
theorem dX10_init_50 : decode cX10_init 50 = .ok (.newarray .int, 2) := by decide +kernel
theorem dX10_init_52 : decode cX10_init 52 = .ok (.putfield 31, 3) := dx_181 (a := 0) (b := 31) (dl_at 32 20 lb_X10_init_1 rfl) (dl_at 32 21 lb_X10_init_1 rfl) (dl_at 32 22 lb_X10_init_1 rfl) rfl
theorem dX10_init_55 : decode cX10_init 55 = .ok (.return_, 1) := dx_177 (dl_at 32 23 lb_X10_init_1 rfl)
set_option maxHeartbeats 4000000 in
set_option maxRecDepth 100000 in
/-- a Letter -/
theorem ci_Letter (l : Launch) (dC : Nat → ClassId) (dI : Nat → Nat → Nat) (cs : Nat → ClassId) (H : Heap) (h0 : Nat) (hP : va_P (dC, dI) vwCl [(h0, .inr (3, [.int 0, .int 0, .int 0, .int 0, .int 0, .int 0, .int 0, .int 0, .int 0, .int 0]))] H) (hD0 : va_D (fun _ => True) [(h0, .inr (3, [.int 0, .int 0, .int 0, .int 0, .int 0, .int 0, .int 0, .int 0, .int 0, .int 0]))]) : Met l yX3_init (wU yX3_init cX3_init 1 none) ({ frames := 1, cells := 0, slots := 0, locals := 14 }) (va_Pc [.ref h0] (kb_P (dC, dI) vwCl (tyW cs) H)) (va_Qv (fun (_ : Unit) => True) (fun _ t => va_P (dC, dI) vwCl [(h0, .inr (3, [.int 0, .int 0, .int 0, .int 0, .int 0, .int 0, .int 0, .int 0, .int 0, .int 0]))] t.heap ∧ va_D (va_A [(h0, .inr (3, [.int 0, .int 0, .int 0, .int 0, .int 0, .int 0, .int 0, .int 0, .int 0, .int 0]))] H.size) [(h0, .inr (3, [.int 0, .int 0, .int 0, .int 0, .int 0, .int 0, .int 0, .int 0, .int 0, .int 0]))]) (va_A [(h0, .inr (3, [.int 0, .int 0, .int 0, .int 0, .int 0, .int 0, .int 0, .int 0, .int 0, .int 0]))] H.size)) 0 0 (va_A [(h0, .inr (3, [.int 0, .int 0, .int 0, .int 0, .int 0, .int 0, .int 0, .int 0, .int 0, .int 0]))] H.size) := by
  refine Met.ofW (cc := cX3_init) (maxL := 1) (ret := none) (by decide) rfl ?_
  intro p e s m args below meth c s₁ B hml hv
  obtain ⟨rfl, hh, hK, hq⟩ := hv
  have hx := B.exec
  have hb := B.bytes
  have hr := B.returns
  have hts := atoms_spec (ws := (wU yX3_init cX3_init 1 none)) B.pre
  have hown : s.vm.findClass RX3 = some m.cls := findClass_of_methodNamed B.named
  have hlocks := B.notSynchronized
  have hin : meth.name = "<init>" := (name_of_methodNamed B.named B.method).1
  subst hh
  have hD := hD0.self (sz := s.heap.size)
  have hA : ∀ q : Nat, s.heap.size ≤ q → (va_A [(h0, .inr (3, [.int 0, .int 0, .int 0, .int 0, .int 0, .int 0, .int 0, .int 0, .int 0, .int 0]))] s.heap.size) q := fun q h => Or.inr h
  have hS : va_S (va_A [(h0, .inr (3, [.int 0, .int 0, .int 0, .int 0, .int 0, .int 0, .int 0, .int 0, .int 0, .int 0]))] s.heap.size) s.heap s.heap [] := va_S.rf
  have hl := lv_entry ([.ref h0]) (n := 1) (Nat.le_of_ble_eq_true rfl)
  rw [lg_entry_eq]
  generalize (lg_sl ([.ref h0]) ++ List.replicate (1 - (lg_sl ([.ref h0])).length) Slot.unset).toArray = ls at hl ⊢
  have hl : lv_has ls 1 [(0, .ref h0)] := hl
  refine lv_aload_n hx hb dX3_init_0 rfl (lv_at hl 0 rfl) ?_
  refine W.objInit hx hb hown (hts _ (List.mem_cons_of_mem _ mw_1_50)) (hts _ (List.mem_cons_of_mem _ mw_1_24)) (hts _ (List.mem_cons_of_mem _ mw_1_25)) rfl (by rw [hml]; exact hl.1) rfl dX3_init_1 (Nat.le_of_ble_eq_true rfl) (Nat.le_of_ble_eq_true rfl) ?_
  refine W.eq (g2 := F0 m 4 ls []) rfl ?_
  exact W.vret hx hb hr (fun t ht hW => ⟨⟨(), rfl, trivial, by first | (subst ht; exact hP) | (rw [ht]; exact hP), hD⟩, hS.F ht⟩) hS.2.2 dX3_init_4
set_option maxHeartbeats 4000000 in
set_option maxRecDepth 100000 in
/-- a Sale -/
theorem ci_Sale (l : Launch) (dC : Nat → ClassId) (dI : Nat → Nat → Nat) (cs : Nat → ClassId) (H : Heap) (h0 : Nat) (hP : va_P (dC, dI) vwCl [(h0, .inr (7, [.null, .int 0, .int 0, .int 0, .int 0, .int 0, .int 0]))] H) (hD0 : va_D (fun _ => True) [(h0, .inr (7, [.null, .int 0, .int 0, .int 0, .int 0, .int 0, .int 0]))]) : Met l yX7_init (wU yX7_init cX7_init 1 none) ({ frames := 1, cells := 1, slots := 7, locals := 14 }) (va_Pc [.ref h0] (kb_P (dC, dI) vwCl (tyW cs) H)) (va_Qv (fun (_ : Unit) => True) (fun _ t => ∃ q1 : Nat, va_P (dC, dI) vwCl [(q1, .inl (cs 0, 7, .inl (fun _ => 0))), (h0, .inr (7, [.ref q1, .int 0, .int 0, .int 0, .int 0, .int 0, .int 0]))] t.heap ∧ va_D (va_A [(h0, .inr (7, [.null, .int 0, .int 0, .int 0, .int 0, .int 0, .int 0]))] H.size) [(q1, .inl (cs 0, 7, .inl (fun _ => 0))), (h0, .inr (7, [.ref q1, .int 0, .int 0, .int 0, .int 0, .int 0, .int 0]))]) (va_A [(h0, .inr (7, [.null, .int 0, .int 0, .int 0, .int 0, .int 0, .int 0]))] H.size)) 1 7 (va_A [(h0, .inr (7, [.null, .int 0, .int 0, .int 0, .int 0, .int 0, .int 0]))] H.size) := by
  refine Met.ofW (cc := cX7_init) (maxL := 1) (ret := none) (by decide) rfl ?_
  intro p e s m args below meth c s₁ B hml hv
  obtain ⟨rfl, hh, hK, hq⟩ := hv
  have hx := B.exec
  have hb := B.bytes
  have hr := B.returns
  have hts := atoms_spec (ws := (wU yX7_init cX7_init 1 none)) B.pre
  have hown : s.vm.findClass RX7 = some m.cls := findClass_of_methodNamed B.named
  have hlocks := B.notSynchronized
  have hin : meth.name = "<init>" := (name_of_methodNamed B.named B.method).1
  subst hh
  have hD := hD0.self (sz := s.heap.size)
  have hA : ∀ q : Nat, s.heap.size ≤ q → (va_A [(h0, .inr (7, [.null, .int 0, .int 0, .int 0, .int 0, .int 0, .int 0]))] s.heap.size) q := fun q h => Or.inr h
  have hS : va_S (va_A [(h0, .inr (7, [.null, .int 0, .int 0, .int 0, .int 0, .int 0, .int 0]))] s.heap.size) s.heap s.heap [] := va_S.rf
  have hl := lv_entry ([.ref h0]) (n := 1) (Nat.le_of_ble_eq_true rfl)
  rw [lg_entry_eq]
  generalize (lg_sl ([.ref h0]) ++ List.replicate (1 - (lg_sl ([.ref h0])).length) Slot.unset).toArray = ls at hl ⊢
  have hl : lv_has ls 1 [(0, .ref h0)] := hl
  refine lv_aload_n hx hb dX7_init_0 rfl (lv_at hl 0 rfl) ?_
  refine W.objInit hx hb hown (hts _ (List.mem_cons_of_mem _ mw_1_222)) (hts _ (List.mem_cons_of_mem _ mw_1_24)) (hts _ (List.mem_cons_of_mem _ mw_1_25)) rfl (by rw [hml]; exact hl.1) rfl dX7_init_1 (Nat.le_of_ble_eq_true rfl) (Nat.le_of_ble_eq_true rfl) ?_
  refine W.eq (g2 := F0 m 4 ls []) rfl ?_
  refine lv_aload_n hx hb dX7_init_4 rfl (lv_at hl 0 rfl) ?_
  refine lv_bipush (v := 7) hx hb dX7_init_5 (by decide) ?_
  refine va_newa (atype := .int) (a0 := (7, .inl (fun _ => 0))) hx hb (hts _ (List.mem_cons_of_mem _ mw_1_102)) rfl hK hP hD hS hA (fun cA => rfl) (by decide) rfl (by decide) (Nat.le_of_ble_eq_true rfl) (Nat.le_of_ble_eq_true rfl) dX7_init_7 (fun q1 c1 H hK1 hP hD hS => ?_)
  obtain rfl : c1 = cs 0 := cA_eq 0 7 hK1 rfl rfl
  have hP : va_P (dC, dI) vwCl [(q1, .inl (cs 0, 7, .inl (fun _ => 0))), (h0, .inr (7, [.null, .int 0, .int 0, .int 0, .int 0, .int 0, .int 0]))] H := pm_P (pm_last [(h0, .inr (7, [.null, .int 0, .int 0, .int 0, .int 0, .int 0, .int 0]))] (q1, .inl (cs 0, 7, .inl (fun _ => 0)))) hP
  have hD : va_D (va_A [(h0, .inr (7, [.null, .int 0, .int 0, .int 0, .int 0, .int 0, .int 0]))] s.heap.size) [(q1, .inl (cs 0, 7, .inl (fun _ => 0))), (h0, .inr (7, [.null, .int 0, .int 0, .int 0, .int 0, .int 0, .int 0]))] := pm_D (pm_last [(h0, .inr (7, [.null, .int 0, .int 0, .int 0, .int 0, .int 0, .int 0]))] (q1, .inl (cs 0, 7, .inl (fun _ => 0)))) hD
  refine W.widen (k := 1) (n := 7) (Nat.le_of_ble_eq_true rfl) (Nat.le_of_ble_eq_true rfl) ?_
  refine va_putF (D := (dC, dI)) (ci := 7) (v := .ref q1) (ty := (.array .int)) (C := RX7) (T := TX7) (N := 7) hx hb hts inG7 tyX7 tyX7_ok nmX7 hown hK hP hD hS 1 rfl rfl 0 (by decide) (hts _ (List.mem_cons_of_mem _ mw_1_223)) (fun _ h9 => h9) rfl hin rfl (by decide +kernel) (by first | rfl | decide) (by first | rfl | decide) (Nat.le_of_ble_eq_true rfl) dX7_init_9 (fun H locs hP hD hS => ?_)
  have hP : va_P (dC, dI) vwCl [(q1, .inl (cs 0, 7, .inl (fun _ => 0))), (h0, .inr (7, [.ref q1, .int 0, .int 0, .int 0, .int 0, .int 0, .int 0]))] H := hP
  have hD : va_D (va_A [(h0, .inr (7, [.null, .int 0, .int 0, .int 0, .int 0, .int 0, .int 0]))] s.heap.size) [(q1, .inl (cs 0, 7, .inl (fun _ => 0))), (h0, .inr (7, [.ref q1, .int 0, .int 0, .int 0, .int 0, .int 0, .int 0]))] := hD
  exact W.vret hx hb hr (fun t ht hW => ⟨⟨(), rfl, trivial, q1, by first | (subst ht; exact hP) | (rw [ht]; exact hP), hD⟩, hS.F ht⟩) hS.2.2 dX7_init_12
set_option maxHeartbeats 4000000 in
set_option maxRecDepth 100000 in
/-- a Best -/
theorem ci_Best (l : Launch) (dC : Nat → ClassId) (dI : Nat → Nat → Nat) (cs : Nat → ClassId) (H : Heap) (h0 : Nat) (hP : va_P (dC, dI) vwCl [(h0, .inr (0, [.null, .int 0, .int 0, .int 0]))] H) (hD0 : va_D (fun _ => True) [(h0, .inr (0, [.null, .int 0, .int 0, .int 0]))]) : Met l yX0_init (wU yX0_init cX0_init 1 none) ({ frames := 1, cells := 1, slots := 7, locals := 14 }) (va_Pc [.ref h0] (kb_P (dC, dI) vwCl (tyW cs) H)) (va_Qv (fun (_ : Unit) => True) (fun _ t => ∃ q1 : Nat, va_P (dC, dI) vwCl [(q1, .inl (cs 0, 7, .inl (fun _ => 0))), (h0, .inr (0, [.ref q1, .int 0, .int 0, .int 0]))] t.heap ∧ va_D (va_A [(h0, .inr (0, [.null, .int 0, .int 0, .int 0]))] H.size) [(q1, .inl (cs 0, 7, .inl (fun _ => 0))), (h0, .inr (0, [.ref q1, .int 0, .int 0, .int 0]))]) (va_A [(h0, .inr (0, [.null, .int 0, .int 0, .int 0]))] H.size)) 1 7 (va_A [(h0, .inr (0, [.null, .int 0, .int 0, .int 0]))] H.size) := by
  refine Met.ofW (cc := cX0_init) (maxL := 1) (ret := none) (by decide) rfl ?_
  intro p e s m args below meth c s₁ B hml hv
  obtain ⟨rfl, hh, hK, hq⟩ := hv
  have hx := B.exec
  have hb := B.bytes
  have hr := B.returns
  have hts := atoms_spec (ws := (wU yX0_init cX0_init 1 none)) B.pre
  have hown : s.vm.findClass RX0 = some m.cls := findClass_of_methodNamed B.named
  have hlocks := B.notSynchronized
  have hin : meth.name = "<init>" := (name_of_methodNamed B.named B.method).1
  subst hh
  have hD := hD0.self (sz := s.heap.size)
  have hA : ∀ q : Nat, s.heap.size ≤ q → (va_A [(h0, .inr (0, [.null, .int 0, .int 0, .int 0]))] s.heap.size) q := fun q h => Or.inr h
  have hS : va_S (va_A [(h0, .inr (0, [.null, .int 0, .int 0, .int 0]))] s.heap.size) s.heap s.heap [] := va_S.rf
  have hl := lv_entry ([.ref h0]) (n := 1) (Nat.le_of_ble_eq_true rfl)
  rw [lg_entry_eq]
  generalize (lg_sl ([.ref h0]) ++ List.replicate (1 - (lg_sl ([.ref h0])).length) Slot.unset).toArray = ls at hl ⊢
  have hl : lv_has ls 1 [(0, .ref h0)] := hl
  refine lv_aload_n hx hb dX0_init_0 rfl (lv_at hl 0 rfl) ?_
  refine W.objInit hx hb hown (hts _ (List.mem_cons_of_mem _ mw_2_25)) (hts _ (List.mem_cons_of_mem _ mw_1_24)) (hts _ (List.mem_cons_of_mem _ mw_1_25)) rfl (by rw [hml]; exact hl.1) rfl dX0_init_1 (Nat.le_of_ble_eq_true rfl) (Nat.le_of_ble_eq_true rfl) ?_
  refine W.eq (g2 := F0 m 4 ls []) rfl ?_
  refine lv_aload_n hx hb dX0_init_4 rfl (lv_at hl 0 rfl) ?_
  refine lv_bipush (v := 7) hx hb dX0_init_5 (by decide) ?_
  refine va_newa (atype := .int) (a0 := (7, .inl (fun _ => 0))) hx hb (hts _ (List.mem_cons_of_mem _ mw_1_102)) rfl hK hP hD hS hA (fun cA => rfl) (by decide) rfl (by decide) (Nat.le_of_ble_eq_true rfl) (Nat.le_of_ble_eq_true rfl) dX0_init_7 (fun q1 c1 H hK1 hP hD hS => ?_)
  obtain rfl : c1 = cs 0 := cA_eq 0 7 hK1 rfl rfl
  have hP : va_P (dC, dI) vwCl [(q1, .inl (cs 0, 7, .inl (fun _ => 0))), (h0, .inr (0, [.null, .int 0, .int 0, .int 0]))] H := pm_P (pm_last [(h0, .inr (0, [.null, .int 0, .int 0, .int 0]))] (q1, .inl (cs 0, 7, .inl (fun _ => 0)))) hP
  have hD : va_D (va_A [(h0, .inr (0, [.null, .int 0, .int 0, .int 0]))] s.heap.size) [(q1, .inl (cs 0, 7, .inl (fun _ => 0))), (h0, .inr (0, [.null, .int 0, .int 0, .int 0]))] := pm_D (pm_last [(h0, .inr (0, [.null, .int 0, .int 0, .int 0]))] (q1, .inl (cs 0, 7, .inl (fun _ => 0)))) hD
  refine W.widen (k := 1) (n := 7) (Nat.le_of_ble_eq_true rfl) (Nat.le_of_ble_eq_true rfl) ?_
  refine va_putF (D := (dC, dI)) (ci := 0) (v := .ref q1) (ty := (.array .int)) (C := RX0) (T := TX0) (N := 4) hx hb hts inG0 tyX0 tyX0_ok nmX0 hown hK hP hD hS 1 rfl rfl 0 (by decide) (hts _ (List.mem_cons_of_mem _ mw_2_26)) (fun _ h9 => h9) rfl hin rfl (by decide +kernel) (by first | rfl | decide) (by first | rfl | decide) (Nat.le_of_ble_eq_true rfl) dX0_init_9 (fun H locs hP hD hS => ?_)
  have hP : va_P (dC, dI) vwCl [(q1, .inl (cs 0, 7, .inl (fun _ => 0))), (h0, .inr (0, [.ref q1, .int 0, .int 0, .int 0]))] H := hP
  have hD : va_D (va_A [(h0, .inr (0, [.null, .int 0, .int 0, .int 0]))] s.heap.size) [(q1, .inl (cs 0, 7, .inl (fun _ => 0))), (h0, .inr (0, [.ref q1, .int 0, .int 0, .int 0]))] := hD
  exact W.vret hx hb hr (fun t ht hW => ⟨⟨(), rfl, trivial, q1, by first | (subst ht; exact hP) | (rw [ht]; exact hP), hD⟩, hS.F ht⟩) hS.2.2 dX0_init_12
set_option maxHeartbeats 4000000 in
set_option maxRecDepth 100000 in
/-- Fits -/
theorem ci_Fits (l : Launch) (dC : Nat → ClassId) (dI : Nat → Nat → Nat) (cs : Nat → ClassId) (H : Heap) (h0 : Nat) (hP : va_P (dC, dI) vwCl [(h0, .inr (1, [.null, .null, .int 0, .int 0, .int 0]))] H) (hD0 : va_D (fun _ => True) [(h0, .inr (1, [.null, .null, .int 0, .int 0, .int 0]))]) : Met l yX1_init (wU yX1_init cX1_init 1 none) ({ frames := 1, cells := 2, slots := 14, locals := 14 }) (va_Pc [.ref h0] (kb_P (dC, dI) vwCl (tyW cs) H)) (va_Qv (fun (_ : Unit) => True) (fun _ t => ∃ q1 : Nat, ∃ q2 : Nat, va_P (dC, dI) vwCl [(q2, .inl (cs 0, 7, .inl (fun _ => 0))), (q1, .inl (cs 0, 7, .inl (fun _ => 0))), (h0, .inr (1, [.ref q1, .ref q2, .int 0, .int 0, .int 0]))] t.heap ∧ va_D (va_A [(h0, .inr (1, [.null, .null, .int 0, .int 0, .int 0]))] H.size) [(q2, .inl (cs 0, 7, .inl (fun _ => 0))), (q1, .inl (cs 0, 7, .inl (fun _ => 0))), (h0, .inr (1, [.ref q1, .ref q2, .int 0, .int 0, .int 0]))]) (va_A [(h0, .inr (1, [.null, .null, .int 0, .int 0, .int 0]))] H.size)) 2 14 (va_A [(h0, .inr (1, [.null, .null, .int 0, .int 0, .int 0]))] H.size) := by
  refine Met.ofW (cc := cX1_init) (maxL := 1) (ret := none) (by decide) rfl ?_
  intro p e s m args below meth c s₁ B hml hv
  obtain ⟨rfl, hh, hK, hq⟩ := hv
  have hx := B.exec
  have hb := B.bytes
  have hr := B.returns
  have hts := atoms_spec (ws := (wU yX1_init cX1_init 1 none)) B.pre
  have hown : s.vm.findClass RX1 = some m.cls := findClass_of_methodNamed B.named
  have hlocks := B.notSynchronized
  have hin : meth.name = "<init>" := (name_of_methodNamed B.named B.method).1
  subst hh
  have hD := hD0.self (sz := s.heap.size)
  have hA : ∀ q : Nat, s.heap.size ≤ q → (va_A [(h0, .inr (1, [.null, .null, .int 0, .int 0, .int 0]))] s.heap.size) q := fun q h => Or.inr h
  have hS : va_S (va_A [(h0, .inr (1, [.null, .null, .int 0, .int 0, .int 0]))] s.heap.size) s.heap s.heap [] := va_S.rf
  have hl := lv_entry ([.ref h0]) (n := 1) (Nat.le_of_ble_eq_true rfl)
  rw [lg_entry_eq]
  generalize (lg_sl ([.ref h0]) ++ List.replicate (1 - (lg_sl ([.ref h0])).length) Slot.unset).toArray = ls at hl ⊢
  have hl : lv_has ls 1 [(0, .ref h0)] := hl
  refine lv_aload_n hx hb dX1_init_0 rfl (lv_at hl 0 rfl) ?_
  refine W.objInit hx hb hown (hts _ (List.mem_cons_of_mem _ mw_2_103)) (hts _ (List.mem_cons_of_mem _ mw_1_24)) (hts _ (List.mem_cons_of_mem _ mw_1_25)) rfl (by rw [hml]; exact hl.1) rfl dX1_init_1 (Nat.le_of_ble_eq_true rfl) (Nat.le_of_ble_eq_true rfl) ?_
  refine W.eq (g2 := F0 m 4 ls []) rfl ?_
  refine lv_aload_n hx hb dX1_init_4 rfl (lv_at hl 0 rfl) ?_
  refine lv_bipush (v := 7) hx hb dX1_init_5 (by decide) ?_
  refine va_newa (atype := .int) (a0 := (7, .inl (fun _ => 0))) hx hb (hts _ (List.mem_cons_of_mem _ mw_1_102)) rfl hK hP hD hS hA (fun cA => rfl) (by decide) rfl (by decide) (Nat.le_of_ble_eq_true rfl) (Nat.le_of_ble_eq_true rfl) dX1_init_7 (fun q1 c1 H hK1 hP hD hS => ?_)
  obtain rfl : c1 = cs 0 := cA_eq 0 7 hK1 rfl rfl
  have hP : va_P (dC, dI) vwCl [(q1, .inl (cs 0, 7, .inl (fun _ => 0))), (h0, .inr (1, [.null, .null, .int 0, .int 0, .int 0]))] H := pm_P (pm_last [(h0, .inr (1, [.null, .null, .int 0, .int 0, .int 0]))] (q1, .inl (cs 0, 7, .inl (fun _ => 0)))) hP
  have hD : va_D (va_A [(h0, .inr (1, [.null, .null, .int 0, .int 0, .int 0]))] s.heap.size) [(q1, .inl (cs 0, 7, .inl (fun _ => 0))), (h0, .inr (1, [.null, .null, .int 0, .int 0, .int 0]))] := pm_D (pm_last [(h0, .inr (1, [.null, .null, .int 0, .int 0, .int 0]))] (q1, .inl (cs 0, 7, .inl (fun _ => 0)))) hD
  refine W.widen (k := 1) (n := 7) (Nat.le_of_ble_eq_true rfl) (Nat.le_of_ble_eq_true rfl) ?_
  refine va_putF (D := (dC, dI)) (ci := 1) (v := .ref q1) (ty := (.array .int)) (C := RX1) (T := TX1) (N := 5) hx hb hts inG1 tyX1 tyX1_ok nmX1 hown hK hP hD hS 1 rfl rfl 0 (by decide) (hts _ (List.mem_cons_of_mem _ mw_2_104)) (fun _ h9 => h9) rfl hin rfl (by decide +kernel) (by first | rfl | decide) (by first | rfl | decide) (Nat.le_of_ble_eq_true rfl) dX1_init_9 (fun H locs hP hD hS => ?_)
  have hP : va_P (dC, dI) vwCl [(q1, .inl (cs 0, 7, .inl (fun _ => 0))), (h0, .inr (1, [.ref q1, .null, .int 0, .int 0, .int 0]))] H := hP
  have hD : va_D (va_A [(h0, .inr (1, [.null, .null, .int 0, .int 0, .int 0]))] s.heap.size) [(q1, .inl (cs 0, 7, .inl (fun _ => 0))), (h0, .inr (1, [.ref q1, .null, .int 0, .int 0, .int 0]))] := hD
  refine lv_aload_n hx hb dX1_init_12 rfl (lv_at hl 0 rfl) ?_
  refine lv_bipush (v := 7) hx hb dX1_init_13 (by decide) ?_
  refine va_newa (atype := .int) (a0 := (7, .inl (fun _ => 0))) hx hb (hts _ (List.mem_cons_of_mem _ mw_1_102)) rfl hK hP hD hS hA (fun cA => rfl) (by decide) rfl (by decide) (Nat.le_of_ble_eq_true rfl) (Nat.le_of_ble_eq_true rfl) dX1_init_15 (fun q2 c2 H hK1 hP hD hS => ?_)
  obtain rfl : c2 = cs 0 := cA_eq 0 7 hK1 rfl rfl
  have hP : va_P (dC, dI) vwCl [(q2, .inl (cs 0, 7, .inl (fun _ => 0))), (q1, .inl (cs 0, 7, .inl (fun _ => 0))), (h0, .inr (1, [.ref q1, .null, .int 0, .int 0, .int 0]))] H := pm_P (pm_last [(q1, .inl (cs 0, 7, .inl (fun _ => 0))), (h0, .inr (1, [.ref q1, .null, .int 0, .int 0, .int 0]))] (q2, .inl (cs 0, 7, .inl (fun _ => 0)))) hP
  have hD : va_D (va_A [(h0, .inr (1, [.null, .null, .int 0, .int 0, .int 0]))] s.heap.size) [(q2, .inl (cs 0, 7, .inl (fun _ => 0))), (q1, .inl (cs 0, 7, .inl (fun _ => 0))), (h0, .inr (1, [.ref q1, .null, .int 0, .int 0, .int 0]))] := pm_D (pm_last [(q1, .inl (cs 0, 7, .inl (fun _ => 0))), (h0, .inr (1, [.ref q1, .null, .int 0, .int 0, .int 0]))] (q2, .inl (cs 0, 7, .inl (fun _ => 0)))) hD
  refine W.widen (k := 2) (n := 14) (Nat.le_of_ble_eq_true rfl) (Nat.le_of_ble_eq_true rfl) ?_
  refine va_putF (D := (dC, dI)) (ci := 1) (v := .ref q2) (ty := (.array .int)) (C := RX1) (T := TX1) (N := 5) hx hb hts inG1 tyX1 tyX1_ok nmX1 hown hK hP hD hS 2 rfl rfl 1 (by decide) (hts _ (List.mem_cons_of_mem _ mw_2_105)) (fun _ h9 => h9) rfl hin rfl (by decide +kernel) (by first | rfl | decide) (by first | rfl | decide) (Nat.le_of_ble_eq_true rfl) dX1_init_17 (fun H locs hP hD hS => ?_)
  have hP : va_P (dC, dI) vwCl [(q2, .inl (cs 0, 7, .inl (fun _ => 0))), (q1, .inl (cs 0, 7, .inl (fun _ => 0))), (h0, .inr (1, [.ref q1, .ref q2, .int 0, .int 0, .int 0]))] H := hP
  have hD : va_D (va_A [(h0, .inr (1, [.null, .null, .int 0, .int 0, .int 0]))] s.heap.size) [(q2, .inl (cs 0, 7, .inl (fun _ => 0))), (q1, .inl (cs 0, 7, .inl (fun _ => 0))), (h0, .inr (1, [.ref q1, .ref q2, .int 0, .int 0, .int 0]))] := hD
  exact W.vret hx hb hr (fun t ht hW => ⟨⟨(), rfl, trivial, q1, q2, by first | (subst ht; exact hP) | (rw [ht]; exact hP), hD⟩, hS.F ht⟩) hS.2.2 dX1_init_20
abbrev A0_ci_Reading (h0 n : Nat) : Nat → Prop := va_A [(h0, .inr (4, [.null, .null, .null, .null, .int 0, .int 0]))] n
set_option maxHeartbeats 4000000 in
set_option maxRecDepth 100000 in
/-- Reading -/
theorem ci_Reading (l : Launch) (dC : Nat → ClassId) (dI : Nat → Nat → Nat) (cs : Nat → ClassId) (H : Heap) (h0 : Nat) (hP : va_P (dC, dI) vwCl [(h0, .inr (4, [.null, .null, .null, .null, .int 0, .int 0]))] H) (hD0 : va_D (fun _ => True) [(h0, .inr (4, [.null, .null, .null, .null, .int 0, .int 0]))]) : Met l yX4_init (wU yX4_init cX4_init 1 none) ({ frames := 1, cells := 4, slots := 38, locals := 14 }) (va_Pc [.ref h0] (kb_P (dC, dI) vwCl (tyW cs) H)) (va_Qv (fun (_ : Unit) => True) (fun _ t => ∃ q1 : Nat, ∃ q2 : Nat, ∃ q3 : Nat, ∃ q4 : Nat, va_P (dC, dI) vwCl [(q4, .inl (cs 0, 12, .inl (fun _ => 0))), (q3, .inl (cs 0, 12, .inl (fun _ => 0))), (q2, .inl (cs 0, 7, .inl (fun _ => 0))), (q1, .inl (cs 0, 7, .inl (fun _ => 0))), (h0, .inr (4, [.ref q1, .ref q2, .ref q3, .ref q4, .int 0, .int 0]))] t.heap ∧ va_D (va_A [(h0, .inr (4, [.null, .null, .null, .null, .int 0, .int 0]))] H.size) [(q4, .inl (cs 0, 12, .inl (fun _ => 0))), (q3, .inl (cs 0, 12, .inl (fun _ => 0))), (q2, .inl (cs 0, 7, .inl (fun _ => 0))), (q1, .inl (cs 0, 7, .inl (fun _ => 0))), (h0, .inr (4, [.ref q1, .ref q2, .ref q3, .ref q4, .int 0, .int 0]))]) (va_A [(h0, .inr (4, [.null, .null, .null, .null, .int 0, .int 0]))] H.size)) 4 38 (va_A [(h0, .inr (4, [.null, .null, .null, .null, .int 0, .int 0]))] H.size) := by
  refine Met.ofW (cc := cX4_init) (maxL := 1) (ret := none) (by decide) rfl ?_
  intro p e s m args below meth c s₁ B hml hv
  obtain ⟨rfl, hh, hK, hq⟩ := hv
  have hx := B.exec
  have hb := B.bytes
  have hr := B.returns
  have hts := atoms_spec (ws := (wU yX4_init cX4_init 1 none)) B.pre
  have hown : s.vm.findClass RX4 = some m.cls := findClass_of_methodNamed B.named
  have hlocks := B.notSynchronized
  have hin : meth.name = "<init>" := (name_of_methodNamed B.named B.method).1
  subst hh
  have hD := hD0.self (sz := s.heap.size)
  have hA : ∀ q : Nat, s.heap.size ≤ q → (A0_ci_Reading h0 s.heap.size) q := fun q h => Or.inr h
  have hS : va_S (A0_ci_Reading h0 s.heap.size) s.heap s.heap [] := va_S.rf
  have hl := lv_entry ([.ref h0]) (n := 1) (Nat.le_of_ble_eq_true rfl)
  rw [lg_entry_eq]
  generalize (lg_sl ([.ref h0]) ++ List.replicate (1 - (lg_sl ([.ref h0])).length) Slot.unset).toArray = ls at hl ⊢
  have hl : lv_has ls 1 [(0, .ref h0)] := hl
  refine lv_aload_n hx hb dX4_init_0 rfl (lv_at hl 0 rfl) ?_
  refine W.objInit hx hb hown (hts _ (List.mem_cons_of_mem _ mw_1_190)) (hts _ (List.mem_cons_of_mem _ mw_1_24)) (hts _ (List.mem_cons_of_mem _ mw_1_25)) rfl (by rw [hml]; exact hl.1) rfl dX4_init_1 (Nat.le_of_ble_eq_true rfl) (Nat.le_of_ble_eq_true rfl) ?_
  refine W.eq (g2 := F0 m 4 ls []) rfl ?_
  refine lv_aload_n hx hb dX4_init_4 rfl (lv_at hl 0 rfl) ?_
  refine lv_bipush (v := 7) hx hb dX4_init_5 (by decide) ?_
  refine va_newa (atype := .int) (a0 := (7, .inl (fun _ => 0))) hx hb (hts _ (List.mem_cons_of_mem _ mw_1_102)) rfl hK hP hD hS hA (fun cA => rfl) (by decide) rfl (by decide) (Nat.le_of_ble_eq_true rfl) (Nat.le_of_ble_eq_true rfl) dX4_init_7 (fun q1 c1 H hK1 hP hD hS => ?_)
  obtain rfl : c1 = cs 0 := cA_eq 0 7 hK1 rfl rfl
  have hPD : PDw (dC, dI) vwCl (A0_ci_Reading h0 s.heap.size) H [(q1, .inl (cs 0, 7, .inl (fun _ => 0))), (h0, .inr (4, [.null, .null, .null, .null, .int 0, .int 0]))] := ⟨pm_P (pm_last [(h0, .inr (4, [.null, .null, .null, .null, .int 0, .int 0]))] (q1, .inl (cs 0, 7, .inl (fun _ => 0)))) hP, pm_D (pm_last [(h0, .inr (4, [.null, .null, .null, .null, .int 0, .int 0]))] (q1, .inl (cs 0, 7, .inl (fun _ => 0)))) hD⟩
  have hP := hPD.1
  have hD := hPD.2
  refine W.widen (k := 1) (n := 7) (Nat.le_of_ble_eq_true rfl) (Nat.le_of_ble_eq_true rfl) ?_
  refine va_putF (D := (dC, dI)) (ci := 4) (v := .ref q1) (ty := (.array .int)) (C := RX4) (T := TX4) (N := 6) hx hb hts inG4 tyX4 tyX4_ok nmX4 hown hK hP hD hS 1 rfl rfl 0 (by decide) (hts _ (List.mem_cons_of_mem _ mw_1_191)) (fun _ h9 => h9) rfl hin rfl (by decide +kernel) (by first | rfl | decide) (by first | rfl | decide) (Nat.le_of_ble_eq_true rfl) dX4_init_9 (fun H locs hP hD hS => ?_)
  have hPD : PDw (dC, dI) vwCl (A0_ci_Reading h0 s.heap.size) H [(q1, .inl (cs 0, 7, .inl (fun _ => 0))), (h0, .inr (4, [.ref q1, .null, .null, .null, .int 0, .int 0]))] := ⟨hP, hD⟩
  have hP := hPD.1
  have hD := hPD.2
  refine lv_aload_n hx hb dX4_init_12 rfl (lv_at hl 0 rfl) ?_
  refine lv_bipush (v := 7) hx hb dX4_init_13 (by decide) ?_
  refine va_newa (atype := .int) (a0 := (7, .inl (fun _ => 0))) hx hb (hts _ (List.mem_cons_of_mem _ mw_1_102)) rfl hK hP hD hS hA (fun cA => rfl) (by decide) rfl (by decide) (Nat.le_of_ble_eq_true rfl) (Nat.le_of_ble_eq_true rfl) dX4_init_15 (fun q2 c2 H hK1 hP hD hS => ?_)
  obtain rfl : c2 = cs 0 := cA_eq 0 7 hK1 rfl rfl
  have hPD : PDw (dC, dI) vwCl (A0_ci_Reading h0 s.heap.size) H [(q2, .inl (cs 0, 7, .inl (fun _ => 0))), (q1, .inl (cs 0, 7, .inl (fun _ => 0))), (h0, .inr (4, [.ref q1, .null, .null, .null, .int 0, .int 0]))] := ⟨pm_P (pm_last [(q1, .inl (cs 0, 7, .inl (fun _ => 0))), (h0, .inr (4, [.ref q1, .null, .null, .null, .int 0, .int 0]))] (q2, .inl (cs 0, 7, .inl (fun _ => 0)))) hP, pm_D (pm_last [(q1, .inl (cs 0, 7, .inl (fun _ => 0))), (h0, .inr (4, [.ref q1, .null, .null, .null, .int 0, .int 0]))] (q2, .inl (cs 0, 7, .inl (fun _ => 0)))) hD⟩
  have hP := hPD.1
  have hD := hPD.2
  refine W.widen (k := 2) (n := 14) (Nat.le_of_ble_eq_true rfl) (Nat.le_of_ble_eq_true rfl) ?_
  refine va_putF (D := (dC, dI)) (ci := 4) (v := .ref q2) (ty := (.array .int)) (C := RX4) (T := TX4) (N := 6) hx hb hts inG4 tyX4 tyX4_ok nmX4 hown hK hP hD hS 2 rfl rfl 1 (by decide) (hts _ (List.mem_cons_of_mem _ mw_1_192)) (fun _ h9 => h9) rfl hin rfl (by decide +kernel) (by first | rfl | decide) (by first | rfl | decide) (Nat.le_of_ble_eq_true rfl) dX4_init_17 (fun H locs hP hD hS => ?_)
  have hPD : PDw (dC, dI) vwCl (A0_ci_Reading h0 s.heap.size) H [(q2, .inl (cs 0, 7, .inl (fun _ => 0))), (q1, .inl (cs 0, 7, .inl (fun _ => 0))), (h0, .inr (4, [.ref q1, .ref q2, .null, .null, .int 0, .int 0]))] := ⟨hP, hD⟩
  have hP := hPD.1
  have hD := hPD.2
  refine lv_aload_n hx hb dX4_init_20 rfl (lv_at hl 0 rfl) ?_
  refine lv_bipush (v := 12) hx hb dX4_init_21 (by decide) ?_
  refine va_newa (atype := .int) (a0 := (12, .inl (fun _ => 0))) hx hb (hts _ (List.mem_cons_of_mem _ mw_1_102)) rfl hK hP hD hS hA (fun cA => rfl) (by decide) rfl (by decide) (Nat.le_of_ble_eq_true rfl) (Nat.le_of_ble_eq_true rfl) dX4_init_23 (fun q3 c3 H hK1 hP hD hS => ?_)
  obtain rfl : c3 = cs 0 := cA_eq 0 7 hK1 rfl rfl
  have hPD : PDw (dC, dI) vwCl (A0_ci_Reading h0 s.heap.size) H [(q3, .inl (cs 0, 12, .inl (fun _ => 0))), (q2, .inl (cs 0, 7, .inl (fun _ => 0))), (q1, .inl (cs 0, 7, .inl (fun _ => 0))), (h0, .inr (4, [.ref q1, .ref q2, .null, .null, .int 0, .int 0]))] := ⟨pm_P (pm_last [(q2, .inl (cs 0, 7, .inl (fun _ => 0))), (q1, .inl (cs 0, 7, .inl (fun _ => 0))), (h0, .inr (4, [.ref q1, .ref q2, .null, .null, .int 0, .int 0]))] (q3, .inl (cs 0, 12, .inl (fun _ => 0)))) hP, pm_D (pm_last [(q2, .inl (cs 0, 7, .inl (fun _ => 0))), (q1, .inl (cs 0, 7, .inl (fun _ => 0))), (h0, .inr (4, [.ref q1, .ref q2, .null, .null, .int 0, .int 0]))] (q3, .inl (cs 0, 12, .inl (fun _ => 0)))) hD⟩
  have hP := hPD.1
  have hD := hPD.2
  refine W.widen (k := 3) (n := 26) (Nat.le_of_ble_eq_true rfl) (Nat.le_of_ble_eq_true rfl) ?_
  refine va_putF (D := (dC, dI)) (ci := 4) (v := .ref q3) (ty := (.array .int)) (C := RX4) (T := TX4) (N := 6) hx hb hts inG4 tyX4 tyX4_ok nmX4 hown hK hP hD hS 3 rfl rfl 2 (by decide) (hts _ (List.mem_cons_of_mem _ mw_1_193)) (fun _ h9 => h9) rfl hin rfl (by decide +kernel) (by first | rfl | decide) (by first | rfl | decide) (Nat.le_of_ble_eq_true rfl) dX4_init_25 (fun H locs hP hD hS => ?_)
  have hPD : PDw (dC, dI) vwCl (A0_ci_Reading h0 s.heap.size) H [(q3, .inl (cs 0, 12, .inl (fun _ => 0))), (q2, .inl (cs 0, 7, .inl (fun _ => 0))), (q1, .inl (cs 0, 7, .inl (fun _ => 0))), (h0, .inr (4, [.ref q1, .ref q2, .ref q3, .null, .int 0, .int 0]))] := ⟨hP, hD⟩
  have hP := hPD.1
  have hD := hPD.2
  refine lv_aload_n hx hb dX4_init_28 rfl (lv_at hl 0 rfl) ?_
  refine lv_bipush (v := 12) hx hb dX4_init_29 (by decide) ?_
  refine va_newa (atype := .int) (a0 := (12, .inl (fun _ => 0))) hx hb (hts _ (List.mem_cons_of_mem _ mw_1_102)) rfl hK hP hD hS hA (fun cA => rfl) (by decide) rfl (by decide) (Nat.le_of_ble_eq_true rfl) (Nat.le_of_ble_eq_true rfl) dX4_init_31 (fun q4 c4 H hK1 hP hD hS => ?_)
  obtain rfl : c4 = cs 0 := cA_eq 0 7 hK1 rfl rfl
  have hPD : PDw (dC, dI) vwCl (A0_ci_Reading h0 s.heap.size) H [(q4, .inl (cs 0, 12, .inl (fun _ => 0))), (q3, .inl (cs 0, 12, .inl (fun _ => 0))), (q2, .inl (cs 0, 7, .inl (fun _ => 0))), (q1, .inl (cs 0, 7, .inl (fun _ => 0))), (h0, .inr (4, [.ref q1, .ref q2, .ref q3, .null, .int 0, .int 0]))] := ⟨pm_P (pm_last [(q3, .inl (cs 0, 12, .inl (fun _ => 0))), (q2, .inl (cs 0, 7, .inl (fun _ => 0))), (q1, .inl (cs 0, 7, .inl (fun _ => 0))), (h0, .inr (4, [.ref q1, .ref q2, .ref q3, .null, .int 0, .int 0]))] (q4, .inl (cs 0, 12, .inl (fun _ => 0)))) hP, pm_D (pm_last [(q3, .inl (cs 0, 12, .inl (fun _ => 0))), (q2, .inl (cs 0, 7, .inl (fun _ => 0))), (q1, .inl (cs 0, 7, .inl (fun _ => 0))), (h0, .inr (4, [.ref q1, .ref q2, .ref q3, .null, .int 0, .int 0]))] (q4, .inl (cs 0, 12, .inl (fun _ => 0)))) hD⟩
  have hP := hPD.1
  have hD := hPD.2
  refine W.widen (k := 4) (n := 38) (Nat.le_of_ble_eq_true rfl) (Nat.le_of_ble_eq_true rfl) ?_
  refine va_putF (D := (dC, dI)) (ci := 4) (v := .ref q4) (ty := (.array .int)) (C := RX4) (T := TX4) (N := 6) hx hb hts inG4 tyX4 tyX4_ok nmX4 hown hK hP hD hS 4 rfl rfl 3 (by decide) (hts _ (List.mem_cons_of_mem _ mw_1_194)) (fun _ h9 => h9) rfl hin rfl (by decide +kernel) (by first | rfl | decide) (by first | rfl | decide) (Nat.le_of_ble_eq_true rfl) dX4_init_33 (fun H locs hP hD hS => ?_)
  have hPD : PDw (dC, dI) vwCl (A0_ci_Reading h0 s.heap.size) H [(q4, .inl (cs 0, 12, .inl (fun _ => 0))), (q3, .inl (cs 0, 12, .inl (fun _ => 0))), (q2, .inl (cs 0, 7, .inl (fun _ => 0))), (q1, .inl (cs 0, 7, .inl (fun _ => 0))), (h0, .inr (4, [.ref q1, .ref q2, .ref q3, .ref q4, .int 0, .int 0]))] := ⟨hP, hD⟩
  have hP := hPD.1
  have hD := hPD.2
  exact W.vret hx hb hr (fun t ht hW => ⟨⟨(), rfl, trivial, q1, q2, q3, q4, by first | (subst ht; exact hP) | (rw [ht]; exact hP), hD⟩, hS.F ht⟩) hS.2.2 dX4_init_36
abbrev A0_ci_Routes (h0 n : Nat) : Nat → Prop := va_A [(h0, .inr (5, [.null, .null, .null, .null, .null, .int 0, .int 0, .int 0, .int 0, .int 0, .int 0, .int 0, .int 0, .int 0, .int 0]))] n
set_option maxHeartbeats 4000000 in
set_option maxRecDepth 100000 in
/-- Routes -/
theorem ci_Routes (l : Launch) (dC : Nat → ClassId) (dI : Nat → Nat → Nat) (cs : Nat → ClassId) (H : Heap) (h0 : Nat) (hP : va_P (dC, dI) vwCl [(h0, .inr (5, [.null, .null, .null, .null, .null, .int 0, .int 0, .int 0, .int 0, .int 0, .int 0, .int 0, .int 0, .int 0, .int 0]))] H) (hD0 : va_D (fun _ => True) [(h0, .inr (5, [.null, .null, .null, .null, .null, .int 0, .int 0, .int 0, .int 0, .int 0, .int 0, .int 0, .int 0, .int 0, .int 0]))]) : Met l yX5_init (wU yX5_init cX5_init 1 none) ({ frames := 2, cells := 7, slots := 43, locals := 34 }) (va_Pc [.ref h0] (kb_P (dC, dI) vwCl (tyW cs) H)) (va_Qv (fun (_ : Unit) => True) (fun _ t => ∃ q1 : Nat, ∃ q2 : Nat, ∃ q3 : Nat, ∃ q4 : Nat, ∃ q5 : Nat, ∃ q6 : Nat, ∃ q7 : Nat, va_P (dC, dI) vwCl [(q7, .inl (cs 0, 7, .inl (fun _ => 0))), (q6, .inr (0, [.ref q7, .int 0, .int 0, .int 0])), (q5, .inl (cs 0, 7, .inl (fun _ => 0))), (q4, .inr (0, [.ref q5, .int 0, .int 0, .int 0])), (q3, .inl (cs 0, 7, .inl (fun _ => 0))), (q2, .inl (cs 0, 7, .inl (fun _ => 0))), (q1, .inl (cs 0, 7, .inl (fun _ => 0))), (h0, .inr (5, [.ref q1, .ref q2, .ref q3, .ref q4, .ref q6, .int 0, .int 0, .int 0, .int 0, .int 0, .int 0, .int 0, .int 0, .int 0, .int 0]))] t.heap ∧ va_D (va_A [(h0, .inr (5, [.null, .null, .null, .null, .null, .int 0, .int 0, .int 0, .int 0, .int 0, .int 0, .int 0, .int 0, .int 0, .int 0]))] H.size) [(q7, .inl (cs 0, 7, .inl (fun _ => 0))), (q6, .inr (0, [.ref q7, .int 0, .int 0, .int 0])), (q5, .inl (cs 0, 7, .inl (fun _ => 0))), (q4, .inr (0, [.ref q5, .int 0, .int 0, .int 0])), (q3, .inl (cs 0, 7, .inl (fun _ => 0))), (q2, .inl (cs 0, 7, .inl (fun _ => 0))), (q1, .inl (cs 0, 7, .inl (fun _ => 0))), (h0, .inr (5, [.ref q1, .ref q2, .ref q3, .ref q4, .ref q6, .int 0, .int 0, .int 0, .int 0, .int 0, .int 0, .int 0, .int 0, .int 0, .int 0]))]) (va_A [(h0, .inr (5, [.null, .null, .null, .null, .null, .int 0, .int 0, .int 0, .int 0, .int 0, .int 0, .int 0, .int 0, .int 0, .int 0]))] H.size)) 7 43 (va_A [(h0, .inr (5, [.null, .null, .null, .null, .null, .int 0, .int 0, .int 0, .int 0, .int 0, .int 0, .int 0, .int 0, .int 0, .int 0]))] H.size) := by
  refine Met.ofW (cc := cX5_init) (maxL := 1) (ret := none) (by decide) rfl ?_
  intro p e s m args below meth c s₁ B hml hv
  obtain ⟨rfl, hh, hK, hq⟩ := hv
  have hx := B.exec
  have hb := B.bytes
  have hr := B.returns
  have hts := atoms_spec (ws := (wU yX5_init cX5_init 1 none)) B.pre
  have hown : s.vm.findClass RX5 = some m.cls := findClass_of_methodNamed B.named
  have hlocks := B.notSynchronized
  have hin : meth.name = "<init>" := (name_of_methodNamed B.named B.method).1
  subst hh
  have hD := hD0.self (sz := s.heap.size)
  have hA : ∀ q : Nat, s.heap.size ≤ q → (A0_ci_Routes h0 s.heap.size) q := fun q h => Or.inr h
  have hS : va_S (A0_ci_Routes h0 s.heap.size) s.heap s.heap [] := va_S.rf
  have hl := lv_entry ([.ref h0]) (n := 1) (Nat.le_of_ble_eq_true rfl)
  rw [lg_entry_eq]
  generalize (lg_sl ([.ref h0]) ++ List.replicate (1 - (lg_sl ([.ref h0])).length) Slot.unset).toArray = ls at hl ⊢
  have hl : lv_has ls 1 [(0, .ref h0)] := hl
  refine lv_aload_n hx hb dX5_init_0 rfl (lv_at hl 0 rfl) ?_
  refine W.objInit hx hb hown (hts _ (List.mem_cons_of_mem _ mw_2_19)) (hts _ (List.mem_cons_of_mem _ mw_1_24)) (hts _ (List.mem_cons_of_mem _ mw_1_25)) rfl (by rw [hml]; exact hl.1) rfl dX5_init_1 (Nat.le_of_ble_eq_true rfl) (Nat.le_of_ble_eq_true rfl) ?_
  refine W.eq (g2 := F0 m 4 ls []) rfl ?_
  refine lv_aload_n hx hb dX5_init_4 rfl (lv_at hl 0 rfl) ?_
  refine lv_bipush (v := 7) hx hb dX5_init_5 (by decide) ?_
  refine va_newa (atype := .int) (a0 := (7, .inl (fun _ => 0))) hx hb (hts _ (List.mem_cons_of_mem _ mw_1_102)) rfl hK hP hD hS hA (fun cA => rfl) (by decide) rfl (by decide) (Nat.le_of_ble_eq_true rfl) (Nat.le_of_ble_eq_true rfl) dX5_init_7 (fun q1 c1 H hK1 hP hD hS => ?_)
  obtain rfl : c1 = cs 0 := cA_eq 0 7 hK1 rfl rfl
  have hPD : PDw (dC, dI) vwCl (A0_ci_Routes h0 s.heap.size) H [(q1, .inl (cs 0, 7, .inl (fun _ => 0))), (h0, .inr (5, [.null, .null, .null, .null, .null, .int 0, .int 0, .int 0, .int 0, .int 0, .int 0, .int 0, .int 0, .int 0, .int 0]))] := ⟨pm_P (pm_last [(h0, .inr (5, [.null, .null, .null, .null, .null, .int 0, .int 0, .int 0, .int 0, .int 0, .int 0, .int 0, .int 0, .int 0, .int 0]))] (q1, .inl (cs 0, 7, .inl (fun _ => 0)))) hP, pm_D (pm_last [(h0, .inr (5, [.null, .null, .null, .null, .null, .int 0, .int 0, .int 0, .int 0, .int 0, .int 0, .int 0, .int 0, .int 0, .int 0]))] (q1, .inl (cs 0, 7, .inl (fun _ => 0)))) hD⟩
  have hP := hPD.1
  have hD := hPD.2
  refine W.widen (k := 1) (n := 7) (Nat.le_of_ble_eq_true rfl) (Nat.le_of_ble_eq_true rfl) ?_
  refine va_putF (D := (dC, dI)) (ci := 5) (v := .ref q1) (ty := (.array .int)) (C := RX5) (T := TX5) (N := 15) hx hb hts inG5 tyX5 tyX5_ok nmX5 hown hK hP hD hS 1 rfl rfl 0 (by decide) (hts _ (List.mem_cons_of_mem _ mw_2_46)) (fun _ h9 => h9) rfl hin rfl (by decide +kernel) (by first | rfl | decide) (by first | rfl | decide) (Nat.le_of_ble_eq_true rfl) dX5_init_9 (fun H locs hP hD hS => ?_)
  have hPD : PDw (dC, dI) vwCl (A0_ci_Routes h0 s.heap.size) H [(q1, .inl (cs 0, 7, .inl (fun _ => 0))), (h0, .inr (5, [.ref q1, .null, .null, .null, .null, .int 0, .int 0, .int 0, .int 0, .int 0, .int 0, .int 0, .int 0, .int 0, .int 0]))] := ⟨hP, hD⟩
  have hP := hPD.1
  have hD := hPD.2
  refine lv_aload_n hx hb dX5_init_12 rfl (lv_at hl 0 rfl) ?_
  refine lv_bipush (v := 7) hx hb dX5_init_13 (by decide) ?_
  refine va_newa (atype := .int) (a0 := (7, .inl (fun _ => 0))) hx hb (hts _ (List.mem_cons_of_mem _ mw_1_102)) rfl hK hP hD hS hA (fun cA => rfl) (by decide) rfl (by decide) (Nat.le_of_ble_eq_true rfl) (Nat.le_of_ble_eq_true rfl) dX5_init_15 (fun q2 c2 H hK1 hP hD hS => ?_)
  obtain rfl : c2 = cs 0 := cA_eq 0 7 hK1 rfl rfl
  have hPD : PDw (dC, dI) vwCl (A0_ci_Routes h0 s.heap.size) H [(q2, .inl (cs 0, 7, .inl (fun _ => 0))), (q1, .inl (cs 0, 7, .inl (fun _ => 0))), (h0, .inr (5, [.ref q1, .null, .null, .null, .null, .int 0, .int 0, .int 0, .int 0, .int 0, .int 0, .int 0, .int 0, .int 0, .int 0]))] := ⟨pm_P (pm_last [(q1, .inl (cs 0, 7, .inl (fun _ => 0))), (h0, .inr (5, [.ref q1, .null, .null, .null, .null, .int 0, .int 0, .int 0, .int 0, .int 0, .int 0, .int 0, .int 0, .int 0, .int 0]))] (q2, .inl (cs 0, 7, .inl (fun _ => 0)))) hP, pm_D (pm_last [(q1, .inl (cs 0, 7, .inl (fun _ => 0))), (h0, .inr (5, [.ref q1, .null, .null, .null, .null, .int 0, .int 0, .int 0, .int 0, .int 0, .int 0, .int 0, .int 0, .int 0, .int 0]))] (q2, .inl (cs 0, 7, .inl (fun _ => 0)))) hD⟩
  have hP := hPD.1
  have hD := hPD.2
  refine W.widen (k := 2) (n := 14) (Nat.le_of_ble_eq_true rfl) (Nat.le_of_ble_eq_true rfl) ?_
  refine va_putF (D := (dC, dI)) (ci := 5) (v := .ref q2) (ty := (.array .int)) (C := RX5) (T := TX5) (N := 15) hx hb hts inG5 tyX5 tyX5_ok nmX5 hown hK hP hD hS 2 rfl rfl 1 (by decide) (hts _ (List.mem_cons_of_mem _ mw_2_47)) (fun _ h9 => h9) rfl hin rfl (by decide +kernel) (by first | rfl | decide) (by first | rfl | decide) (Nat.le_of_ble_eq_true rfl) dX5_init_17 (fun H locs hP hD hS => ?_)
  have hPD : PDw (dC, dI) vwCl (A0_ci_Routes h0 s.heap.size) H [(q2, .inl (cs 0, 7, .inl (fun _ => 0))), (q1, .inl (cs 0, 7, .inl (fun _ => 0))), (h0, .inr (5, [.ref q1, .ref q2, .null, .null, .null, .int 0, .int 0, .int 0, .int 0, .int 0, .int 0, .int 0, .int 0, .int 0, .int 0]))] := ⟨hP, hD⟩
  have hP := hPD.1
  have hD := hPD.2
  refine lv_aload_n hx hb dX5_init_20 rfl (lv_at hl 0 rfl) ?_
  refine lv_bipush (v := 7) hx hb dX5_init_21 (by decide) ?_
  refine va_newa (atype := .int) (a0 := (7, .inl (fun _ => 0))) hx hb (hts _ (List.mem_cons_of_mem _ mw_1_102)) rfl hK hP hD hS hA (fun cA => rfl) (by decide) rfl (by decide) (Nat.le_of_ble_eq_true rfl) (Nat.le_of_ble_eq_true rfl) dX5_init_23 (fun q3 c3 H hK1 hP hD hS => ?_)
  obtain rfl : c3 = cs 0 := cA_eq 0 7 hK1 rfl rfl
  have hPD : PDw (dC, dI) vwCl (A0_ci_Routes h0 s.heap.size) H [(q3, .inl (cs 0, 7, .inl (fun _ => 0))), (q2, .inl (cs 0, 7, .inl (fun _ => 0))), (q1, .inl (cs 0, 7, .inl (fun _ => 0))), (h0, .inr (5, [.ref q1, .ref q2, .null, .null, .null, .int 0, .int 0, .int 0, .int 0, .int 0, .int 0, .int 0, .int 0, .int 0, .int 0]))] := ⟨pm_P (pm_last [(q2, .inl (cs 0, 7, .inl (fun _ => 0))), (q1, .inl (cs 0, 7, .inl (fun _ => 0))), (h0, .inr (5, [.ref q1, .ref q2, .null, .null, .null, .int 0, .int 0, .int 0, .int 0, .int 0, .int 0, .int 0, .int 0, .int 0, .int 0]))] (q3, .inl (cs 0, 7, .inl (fun _ => 0)))) hP, pm_D (pm_last [(q2, .inl (cs 0, 7, .inl (fun _ => 0))), (q1, .inl (cs 0, 7, .inl (fun _ => 0))), (h0, .inr (5, [.ref q1, .ref q2, .null, .null, .null, .int 0, .int 0, .int 0, .int 0, .int 0, .int 0, .int 0, .int 0, .int 0, .int 0]))] (q3, .inl (cs 0, 7, .inl (fun _ => 0)))) hD⟩
  have hP := hPD.1
  have hD := hPD.2
  refine W.widen (k := 3) (n := 21) (Nat.le_of_ble_eq_true rfl) (Nat.le_of_ble_eq_true rfl) ?_
  refine va_putF (D := (dC, dI)) (ci := 5) (v := .ref q3) (ty := (.array .int)) (C := RX5) (T := TX5) (N := 15) hx hb hts inG5 tyX5 tyX5_ok nmX5 hown hK hP hD hS 3 rfl rfl 2 (by decide) (hts _ (List.mem_cons_of_mem _ mw_2_48)) (fun _ h9 => h9) rfl hin rfl (by decide +kernel) (by first | rfl | decide) (by first | rfl | decide) (Nat.le_of_ble_eq_true rfl) dX5_init_25 (fun H locs hP hD hS => ?_)
  have hPD : PDw (dC, dI) vwCl (A0_ci_Routes h0 s.heap.size) H [(q3, .inl (cs 0, 7, .inl (fun _ => 0))), (q2, .inl (cs 0, 7, .inl (fun _ => 0))), (q1, .inl (cs 0, 7, .inl (fun _ => 0))), (h0, .inr (5, [.ref q1, .ref q2, .ref q3, .null, .null, .int 0, .int 0, .int 0, .int 0, .int 0, .int 0, .int 0, .int 0, .int 0, .int 0]))] := ⟨hP, hD⟩
  have hP := hPD.1
  have hD := hPD.2
  refine lv_aload_n hx hb dX5_init_28 rfl (lv_at hl 0 rfl) ?_
  refine va_new (ci := 0) (fs := [.null, .int 0, .int 0, .int 0]) (C := RX0) (T := TX0) (N := 4) hx hb hts inG0 tyX0 tyX0_ok hown (hts _ (List.mem_cons_of_mem _ mw_2_20)) (hts _ (List.mem_cons_of_mem _ mw_2_21)) (hts _ (List.mem_cons_of_mem _ mw_1_9)) hK hP hD hS hA rfl (fun j hj => match j, hj with | 0, _ => rfl | 1, _ => rfl | 2, _ => rfl | 3, _ => rfl | _ + 4, hj => absurd hj (by omega)) (Nat.le_of_ble_eq_true rfl) (Nat.le_of_ble_eq_true rfl) dX5_init_29 (fun q4 H hP hD hS => ?_)
  have hPD : PDw (dC, dI) vwCl (A0_ci_Routes h0 s.heap.size) H [(q4, .inr (0, [.null, .int 0, .int 0, .int 0])), (q3, .inl (cs 0, 7, .inl (fun _ => 0))), (q2, .inl (cs 0, 7, .inl (fun _ => 0))), (q1, .inl (cs 0, 7, .inl (fun _ => 0))), (h0, .inr (5, [.ref q1, .ref q2, .ref q3, .null, .null, .int 0, .int 0, .int 0, .int 0, .int 0, .int 0, .int 0, .int 0, .int 0, .int 0]))] := ⟨pm_P (pm_last [(q3, .inl (cs 0, 7, .inl (fun _ => 0))), (q2, .inl (cs 0, 7, .inl (fun _ => 0))), (q1, .inl (cs 0, 7, .inl (fun _ => 0))), (h0, .inr (5, [.ref q1, .ref q2, .ref q3, .null, .null, .int 0, .int 0, .int 0, .int 0, .int 0, .int 0, .int 0, .int 0, .int 0, .int 0]))] (q4, .inr (0, [.null, .int 0, .int 0, .int 0]))) hP, pm_D (pm_last [(q3, .inl (cs 0, 7, .inl (fun _ => 0))), (q2, .inl (cs 0, 7, .inl (fun _ => 0))), (q1, .inl (cs 0, 7, .inl (fun _ => 0))), (h0, .inr (5, [.ref q1, .ref q2, .ref q3, .null, .null, .int 0, .int 0, .int 0, .int 0, .int 0, .int 0, .int 0, .int 0, .int 0, .int 0]))] (q4, .inr (0, [.null, .int 0, .int 0, .int 0]))) hD⟩
  have hP := hPD.1
  have hD := hPD.2
  refine W.widen (k := 4) (n := 25) (Nat.le_of_ble_eq_true rfl) (Nat.le_of_ble_eq_true rfl) ?_
  refine lv_dup hx hb dX5_init_32 rfl ?_
  have hFc := va_free (wc := [(q4, .inr (0, [.null, .int 0, .int 0, .int 0]))]) hD hS hA [0] rfl
  refine va_callv (va_runIN (As := []) (rest := [.ref q4, .ref h0]) ⟨hx, hb, hml, hown, hts⟩ (ci_Best l dC dI cs H q4 (hP.sub (ws' := [(q4, .inr (0, [.null, .int 0, .int 0, .int 0]))]) [0] rfl) ((hD.sub (ws' := [(q4, .inr (0, [.null, .int 0, .int 0, .int 0]))]) [0] (by decide) rfl).weaken (fun _ _ _ _ => trivial))) ⟨va_cnB 0 hts (wU_in mw_2_24) rfl rfl rfl (hq.2.2.2.2.2.2.2.1) (hts _ (List.mem_cons_of_mem _ mw_1_9)) (by decide +kernel) ⟨Nat.le_of_ble_eq_true rfl, Nat.le_of_ble_eq_true rfl⟩, rfl, (hts _ (List.mem_cons_of_mem _ mw_2_23))⟩ ⟨kb_c, kb_m hK hq⟩ rfl rfl hl.1 rfl (lv_room (Nat.le_of_ble_eq_true rfl)) dX5_init_33 ⟨Nat.le_of_ble_eq_true rfl, Nat.le_of_ble_eq_true rfl⟩) hS (fun q _ h => hFc q h) hFc (fun u t H_1 locs ht hvm hw hB hz1 hk1 hS => ?_)
  obtain ⟨q5, hP1, hD1⟩ := hB
  rw [ht] at hP1
  obtain ⟨hP, hD⟩ := jn_front (wc := [(q4, .inr (0, [.null, .int 0, .int 0, .int 0]))]) (wr := [(q3, .inl (cs 0, 7, .inl (fun _ => 0))), (q2, .inl (cs 0, 7, .inl (fun _ => 0))), (q1, .inl (cs 0, 7, .inl (fun _ => 0))), (h0, .inr (5, [.ref q1, .ref q2, .ref q3, .null, .null, .int 0, .int 0, .int 0, .int 0, .int 0, .int 0, .int 0, .int 0, .int 0, .int 0]))]) (w1 := [(q5, .inl (cs 0, 7, .inl (fun _ => 0))), (q4, .inr (0, [.ref q5, .int 0, .int 0, .int 0]))]) hP hD hk1 hFc hP1 hD1
  have hP : va_P (dC, dI) vwCl [(q5, .inl (cs 0, 7, .inl (fun _ => 0))), (q4, .inr (0, [.ref q5, .int 0, .int 0, .int 0])), (q3, .inl (cs 0, 7, .inl (fun _ => 0))), (q2, .inl (cs 0, 7, .inl (fun _ => 0))), (q1, .inl (cs 0, 7, .inl (fun _ => 0))), (h0, .inr (5, [.ref q1, .ref q2, .ref q3, .null, .null, .int 0, .int 0, .int 0, .int 0, .int 0, .int 0, .int 0, .int 0, .int 0, .int 0]))] H_1 := hP
  have hD : va_D (A0_ci_Routes h0 s.heap.size) [(q5, .inl (cs 0, 7, .inl (fun _ => 0))), (q4, .inr (0, [.ref q5, .int 0, .int 0, .int 0])), (q3, .inl (cs 0, 7, .inl (fun _ => 0))), (q2, .inl (cs 0, 7, .inl (fun _ => 0))), (q1, .inl (cs 0, 7, .inl (fun _ => 0))), (h0, .inr (5, [.ref q1, .ref q2, .ref q3, .null, .null, .int 0, .int 0, .int 0, .int 0, .int 0, .int 0, .int 0, .int 0, .int 0, .int 0]))] := hD
  refine W.widen (k := 5) (n := 32) (Nat.le_of_ble_eq_true rfl) (Nat.le_of_ble_eq_true rfl) ?_
  refine va_putF (D := (dC, dI)) (ci := 5) (v := .ref q4) (ty := (.object "DearLetters$Best")) (C := RX5) (T := TX5) (N := 15) hx hb hts inG5 tyX5 tyX5_ok nmX5 hown hK hP hD hS 5 rfl rfl 3 (by decide) (hts _ (List.mem_cons_of_mem _ mw_2_49)) (fun _ h9 => h9) rfl hin rfl (by decide +kernel) (by first | rfl | decide) (by first | rfl | decide) (Nat.le_of_ble_eq_true rfl) dX5_init_36 (fun H locs hP hD hS => ?_)
  have hPD : PDw (dC, dI) vwCl (A0_ci_Routes h0 s.heap.size) H [(q5, .inl (cs 0, 7, .inl (fun _ => 0))), (q4, .inr (0, [.ref q5, .int 0, .int 0, .int 0])), (q3, .inl (cs 0, 7, .inl (fun _ => 0))), (q2, .inl (cs 0, 7, .inl (fun _ => 0))), (q1, .inl (cs 0, 7, .inl (fun _ => 0))), (h0, .inr (5, [.ref q1, .ref q2, .ref q3, .ref q4, .null, .int 0, .int 0, .int 0, .int 0, .int 0, .int 0, .int 0, .int 0, .int 0, .int 0]))] := ⟨hP, hD⟩
  have hP := hPD.1
  have hD := hPD.2
  refine lv_aload_n hx hb dX5_init_39 rfl (lv_at hl 0 rfl) ?_
  refine va_new (ci := 0) (fs := [.null, .int 0, .int 0, .int 0]) (C := RX0) (T := TX0) (N := 4) hx hb hts inG0 tyX0 tyX0_ok hown (hts _ (List.mem_cons_of_mem _ mw_2_20)) (hts _ (List.mem_cons_of_mem _ mw_2_21)) (hts _ (List.mem_cons_of_mem _ mw_1_9)) hK hP hD hS hA rfl (fun j hj => match j, hj with | 0, _ => rfl | 1, _ => rfl | 2, _ => rfl | 3, _ => rfl | _ + 4, hj => absurd hj (by omega)) (Nat.le_of_ble_eq_true rfl) (Nat.le_of_ble_eq_true rfl) dX5_init_40 (fun q6 H hP hD hS => ?_)
  have hPD : PDw (dC, dI) vwCl (A0_ci_Routes h0 s.heap.size) H [(q6, .inr (0, [.null, .int 0, .int 0, .int 0])), (q5, .inl (cs 0, 7, .inl (fun _ => 0))), (q4, .inr (0, [.ref q5, .int 0, .int 0, .int 0])), (q3, .inl (cs 0, 7, .inl (fun _ => 0))), (q2, .inl (cs 0, 7, .inl (fun _ => 0))), (q1, .inl (cs 0, 7, .inl (fun _ => 0))), (h0, .inr (5, [.ref q1, .ref q2, .ref q3, .ref q4, .null, .int 0, .int 0, .int 0, .int 0, .int 0, .int 0, .int 0, .int 0, .int 0, .int 0]))] := ⟨pm_P (pm_last [(q5, .inl (cs 0, 7, .inl (fun _ => 0))), (q4, .inr (0, [.ref q5, .int 0, .int 0, .int 0])), (q3, .inl (cs 0, 7, .inl (fun _ => 0))), (q2, .inl (cs 0, 7, .inl (fun _ => 0))), (q1, .inl (cs 0, 7, .inl (fun _ => 0))), (h0, .inr (5, [.ref q1, .ref q2, .ref q3, .ref q4, .null, .int 0, .int 0, .int 0, .int 0, .int 0, .int 0, .int 0, .int 0, .int 0, .int 0]))] (q6, .inr (0, [.null, .int 0, .int 0, .int 0]))) hP, pm_D (pm_last [(q5, .inl (cs 0, 7, .inl (fun _ => 0))), (q4, .inr (0, [.ref q5, .int 0, .int 0, .int 0])), (q3, .inl (cs 0, 7, .inl (fun _ => 0))), (q2, .inl (cs 0, 7, .inl (fun _ => 0))), (q1, .inl (cs 0, 7, .inl (fun _ => 0))), (h0, .inr (5, [.ref q1, .ref q2, .ref q3, .ref q4, .null, .int 0, .int 0, .int 0, .int 0, .int 0, .int 0, .int 0, .int 0, .int 0, .int 0]))] (q6, .inr (0, [.null, .int 0, .int 0, .int 0]))) hD⟩
  have hP := hPD.1
  have hD := hPD.2
  refine W.widen (k := 6) (n := 36) (Nat.le_of_ble_eq_true rfl) (Nat.le_of_ble_eq_true rfl) ?_
  refine lv_dup hx hb dX5_init_43 rfl ?_
  have hFc := va_free (wc := [(q6, .inr (0, [.null, .int 0, .int 0, .int 0]))]) hD hS hA [0] rfl
  refine va_callv (va_runIN (As := []) (rest := [.ref q6, .ref h0]) ⟨hx, hb, hml, hown, hts⟩ (ci_Best l dC dI cs H q6 (hP.sub (ws' := [(q6, .inr (0, [.null, .int 0, .int 0, .int 0]))]) [0] rfl) ((hD.sub (ws' := [(q6, .inr (0, [.null, .int 0, .int 0, .int 0]))]) [0] (by decide) rfl).weaken (fun _ _ _ _ => trivial))) ⟨va_cnB 0 hts (wU_in mw_2_24) rfl rfl rfl (hq.2.2.2.2.2.2.2.1) (hts _ (List.mem_cons_of_mem _ mw_1_9)) (by decide +kernel) ⟨Nat.le_of_ble_eq_true rfl, Nat.le_of_ble_eq_true rfl⟩, rfl, (hts _ (List.mem_cons_of_mem _ mw_2_23))⟩ ⟨kb_c, kb_m hK hq⟩ rfl rfl hl.1 rfl (lv_room (Nat.le_of_ble_eq_true rfl)) dX5_init_44 ⟨Nat.le_of_ble_eq_true rfl, Nat.le_of_ble_eq_true rfl⟩) hS (fun q _ h => hFc q h) hFc (fun u t H_2 locs ht hvm hw hB hz1 hk1 hS => ?_)
  obtain ⟨q7, hP1, hD1⟩ := hB
  rw [ht] at hP1
  obtain ⟨hP, hD⟩ := jn_front (wc := [(q6, .inr (0, [.null, .int 0, .int 0, .int 0]))]) (wr := [(q5, .inl (cs 0, 7, .inl (fun _ => 0))), (q4, .inr (0, [.ref q5, .int 0, .int 0, .int 0])), (q3, .inl (cs 0, 7, .inl (fun _ => 0))), (q2, .inl (cs 0, 7, .inl (fun _ => 0))), (q1, .inl (cs 0, 7, .inl (fun _ => 0))), (h0, .inr (5, [.ref q1, .ref q2, .ref q3, .ref q4, .null, .int 0, .int 0, .int 0, .int 0, .int 0, .int 0, .int 0, .int 0, .int 0, .int 0]))]) (w1 := [(q7, .inl (cs 0, 7, .inl (fun _ => 0))), (q6, .inr (0, [.ref q7, .int 0, .int 0, .int 0]))]) hP hD hk1 hFc hP1 hD1
  have hP : va_P (dC, dI) vwCl [(q7, .inl (cs 0, 7, .inl (fun _ => 0))), (q6, .inr (0, [.ref q7, .int 0, .int 0, .int 0])), (q5, .inl (cs 0, 7, .inl (fun _ => 0))), (q4, .inr (0, [.ref q5, .int 0, .int 0, .int 0])), (q3, .inl (cs 0, 7, .inl (fun _ => 0))), (q2, .inl (cs 0, 7, .inl (fun _ => 0))), (q1, .inl (cs 0, 7, .inl (fun _ => 0))), (h0, .inr (5, [.ref q1, .ref q2, .ref q3, .ref q4, .null, .int 0, .int 0, .int 0, .int 0, .int 0, .int 0, .int 0, .int 0, .int 0, .int 0]))] H_2 := hP
  have hD : va_D (A0_ci_Routes h0 s.heap.size) [(q7, .inl (cs 0, 7, .inl (fun _ => 0))), (q6, .inr (0, [.ref q7, .int 0, .int 0, .int 0])), (q5, .inl (cs 0, 7, .inl (fun _ => 0))), (q4, .inr (0, [.ref q5, .int 0, .int 0, .int 0])), (q3, .inl (cs 0, 7, .inl (fun _ => 0))), (q2, .inl (cs 0, 7, .inl (fun _ => 0))), (q1, .inl (cs 0, 7, .inl (fun _ => 0))), (h0, .inr (5, [.ref q1, .ref q2, .ref q3, .ref q4, .null, .int 0, .int 0, .int 0, .int 0, .int 0, .int 0, .int 0, .int 0, .int 0, .int 0]))] := hD
  refine W.widen (k := 7) (n := 43) (Nat.le_of_ble_eq_true rfl) (Nat.le_of_ble_eq_true rfl) ?_
  refine va_putF (D := (dC, dI)) (ci := 5) (v := .ref q6) (ty := (.object "DearLetters$Best")) (C := RX5) (T := TX5) (N := 15) hx hb hts inG5 tyX5 tyX5_ok nmX5 hown hK hP hD hS 7 rfl rfl 4 (by decide) (hts _ (List.mem_cons_of_mem _ mw_2_51)) (fun _ h9 => h9) rfl hin rfl (by decide +kernel) (by first | rfl | decide) (by first | rfl | decide) (Nat.le_of_ble_eq_true rfl) dX5_init_47 (fun H locs hP hD hS => ?_)
  have hPD : PDw (dC, dI) vwCl (A0_ci_Routes h0 s.heap.size) H [(q7, .inl (cs 0, 7, .inl (fun _ => 0))), (q6, .inr (0, [.ref q7, .int 0, .int 0, .int 0])), (q5, .inl (cs 0, 7, .inl (fun _ => 0))), (q4, .inr (0, [.ref q5, .int 0, .int 0, .int 0])), (q3, .inl (cs 0, 7, .inl (fun _ => 0))), (q2, .inl (cs 0, 7, .inl (fun _ => 0))), (q1, .inl (cs 0, 7, .inl (fun _ => 0))), (h0, .inr (5, [.ref q1, .ref q2, .ref q3, .ref q4, .ref q6, .int 0, .int 0, .int 0, .int 0, .int 0, .int 0, .int 0, .int 0, .int 0, .int 0]))] := ⟨hP, hD⟩
  have hP := hPD.1
  have hD := hPD.2
  exact W.vret hx hb hr (fun t ht hW => ⟨⟨(), rfl, trivial, q1, q2, q3, q4, q5, q6, q7, by first | (subst ht; exact hP) | (rw [ht]; exact hP), hD⟩, hS.F ht⟩) hS.2.2 dX5_init_50
set_option maxHeartbeats 4000000 in
set_option maxRecDepth 100000 in
/-- a Row -/
theorem ci_Row (l : Launch) (dC : Nat → ClassId) (dI : Nat → Nat → Nat) (cs : Nat → ClassId) (H : Heap) (h0 : Nat) (hP : va_P (dC, dI) vwCl [(h0, .inr (6, [.null, .int 0]))] H) (hD0 : va_D (fun _ => True) [(h0, .inr (6, [.null, .int 0]))]) : Met l yX6_init (wU yX6_init cX6_init 1 none) ({ frames := 1, cells := 1, slots := 40, locals := 14 }) (va_Pc [.ref h0] (kb_P (dC, dI) vwCl (tyW cs) H)) (va_Qv (fun (_ : Unit) => True) (fun _ t => ∃ q1 : Nat, va_P (dC, dI) vwCl [(q1, .inl (cs 0, 40, .inl (fun _ => 0))), (h0, .inr (6, [.ref q1, .int (-1)]))] t.heap ∧ va_D (va_A [(h0, .inr (6, [.null, .int 0]))] H.size) [(q1, .inl (cs 0, 40, .inl (fun _ => 0))), (h0, .inr (6, [.ref q1, .int (-1)]))]) (va_A [(h0, .inr (6, [.null, .int 0]))] H.size)) 1 40 (va_A [(h0, .inr (6, [.null, .int 0]))] H.size) := by
  refine Met.ofW (cc := cX6_init) (maxL := 1) (ret := none) (by decide) rfl ?_
  intro p e s m args below meth c s₁ B hml hv
  obtain ⟨rfl, hh, hK, hq⟩ := hv
  have hx := B.exec
  have hb := B.bytes
  have hr := B.returns
  have hts := atoms_spec (ws := (wU yX6_init cX6_init 1 none)) B.pre
  have hown : s.vm.findClass RX6 = some m.cls := findClass_of_methodNamed B.named
  have hlocks := B.notSynchronized
  have hin : meth.name = "<init>" := (name_of_methodNamed B.named B.method).1
  subst hh
  have hD := hD0.self (sz := s.heap.size)
  have hA : ∀ q : Nat, s.heap.size ≤ q → (va_A [(h0, .inr (6, [.null, .int 0]))] s.heap.size) q := fun q h => Or.inr h
  have hS : va_S (va_A [(h0, .inr (6, [.null, .int 0]))] s.heap.size) s.heap s.heap [] := va_S.rf
  have hl := lv_entry ([.ref h0]) (n := 1) (Nat.le_of_ble_eq_true rfl)
  rw [lg_entry_eq]
  generalize (lg_sl ([.ref h0]) ++ List.replicate (1 - (lg_sl ([.ref h0])).length) Slot.unset).toArray = ls at hl ⊢
  have hl : lv_has ls 1 [(0, .ref h0)] := hl
  refine lv_aload_n hx hb dX6_init_0 rfl (lv_at hl 0 rfl) ?_
  refine W.objInit hx hb hown (hts _ (List.mem_cons_of_mem _ mw_2_128)) (hts _ (List.mem_cons_of_mem _ mw_1_24)) (hts _ (List.mem_cons_of_mem _ mw_1_25)) rfl (by rw [hml]; exact hl.1) rfl dX6_init_1 (Nat.le_of_ble_eq_true rfl) (Nat.le_of_ble_eq_true rfl) ?_
  refine W.eq (g2 := F0 m 4 ls []) rfl ?_
  refine lv_aload_n hx hb dX6_init_4 rfl (lv_at hl 0 rfl) ?_
  refine lv_bipush (v := 40) hx hb dX6_init_5 (by decide) ?_
  refine va_newa (atype := .int) (a0 := (40, .inl (fun _ => 0))) hx hb (hts _ (List.mem_cons_of_mem _ mw_1_102)) rfl hK hP hD hS hA (fun cA => rfl) (by decide) rfl (by decide) (Nat.le_of_ble_eq_true rfl) (Nat.le_of_ble_eq_true rfl) dX6_init_7 (fun q1 c1 H hK1 hP hD hS => ?_)
  obtain rfl : c1 = cs 0 := cA_eq 0 7 hK1 rfl rfl
  have hP : va_P (dC, dI) vwCl [(q1, .inl (cs 0, 40, .inl (fun _ => 0))), (h0, .inr (6, [.null, .int 0]))] H := pm_P (pm_last [(h0, .inr (6, [.null, .int 0]))] (q1, .inl (cs 0, 40, .inl (fun _ => 0)))) hP
  have hD : va_D (va_A [(h0, .inr (6, [.null, .int 0]))] s.heap.size) [(q1, .inl (cs 0, 40, .inl (fun _ => 0))), (h0, .inr (6, [.null, .int 0]))] := pm_D (pm_last [(h0, .inr (6, [.null, .int 0]))] (q1, .inl (cs 0, 40, .inl (fun _ => 0)))) hD
  refine W.widen (k := 1) (n := 40) (Nat.le_of_ble_eq_true rfl) (Nat.le_of_ble_eq_true rfl) ?_
  refine va_putF (D := (dC, dI)) (ci := 6) (v := .ref q1) (ty := (.array .int)) (C := RX6) (T := TX6) (N := 2) hx hb hts inG6 tyX6 tyX6_ok nmX6 hown hK hP hD hS 1 rfl rfl 0 (by decide) (hts _ (List.mem_cons_of_mem _ mw_2_129)) (fun _ h9 => h9) rfl hin rfl (by decide +kernel) (by first | rfl | decide) (by first | rfl | decide) (Nat.le_of_ble_eq_true rfl) dX6_init_9 (fun H locs hP hD hS => ?_)
  have hP : va_P (dC, dI) vwCl [(q1, .inl (cs 0, 40, .inl (fun _ => 0))), (h0, .inr (6, [.ref q1, .int 0]))] H := hP
  have hD : va_D (va_A [(h0, .inr (6, [.null, .int 0]))] s.heap.size) [(q1, .inl (cs 0, 40, .inl (fun _ => 0))), (h0, .inr (6, [.ref q1, .int 0]))] := hD
  refine lv_aload_n hx hb dX6_init_12 rfl (lv_at hl 0 rfl) ?_
  refine lv_iconst (v := (-1)) hx hb dX6_init_13 (by decide) ?_
  refine va_put (D := (dC, dI)) (ci := 6) (v := .int (-1)) (ty := .int) (C := RX6) (T := TX6) (N := 2) hx hb hts inG6 tyX6 tyX6_ok nmX6 hown hK hP hD hS 1 rfl rfl 1 (by decide) (hts _ (List.mem_cons_of_mem _ mw_2_132)) (fun _ h9 => h9) rfl (by decide +kernel) (by first | rfl | decide) (by first | rfl | decide) (Nat.le_of_ble_eq_true rfl) dX6_init_14 (fun H locs hP hD hS => ?_)
  have hP : va_P (dC, dI) vwCl [(q1, .inl (cs 0, 40, .inl (fun _ => 0))), (h0, .inr (6, [.ref q1, .int (-1)]))] H := hP
  have hD : va_D (va_A [(h0, .inr (6, [.null, .int 0]))] s.heap.size) [(q1, .inl (cs 0, 40, .inl (fun _ => 0))), (h0, .inr (6, [.ref q1, .int (-1)]))] := hD
  exact W.vret hx hb hr (fun t ht hW => ⟨⟨(), rfl, trivial, q1, by first | (subst ht; exact hP) | (rw [ht]; exact hP), hD⟩, hS.F ht⟩) hS.2.2 dX6_init_17
set_option maxHeartbeats 4000000 in
set_option maxRecDepth 100000 in
/-- a Text -/
theorem ci_Text (l : Launch) (dC : Nat → ClassId) (dI : Nat → Nat → Nat) (cs : Nat → ClassId) (H : Heap) (h0 : Nat) (hP : va_P (dC, dI) vwCl [(h0, .inr (9, [.null, .int 0]))] H) (hD0 : va_D (fun _ => True) [(h0, .inr (9, [.null, .int 0]))]) : Met l yX9_init (wU yX9_init cX9_init 1 none) ({ frames := 1, cells := 1, slots := 80, locals := 14 }) (va_Pc [.ref h0] (kb_P (dC, dI) vwCl (tyW cs) H)) (va_Qv (fun (_ : Unit) => True) (fun _ t => ∃ q1 : Nat, va_P (dC, dI) vwCl [(q1, .inl (cs 1, 80, .inl (fun _ => 0))), (h0, .inr (9, [.ref q1, .int (-1)]))] t.heap ∧ va_D (va_A [(h0, .inr (9, [.null, .int 0]))] H.size) [(q1, .inl (cs 1, 80, .inl (fun _ => 0))), (h0, .inr (9, [.ref q1, .int (-1)]))]) (va_A [(h0, .inr (9, [.null, .int 0]))] H.size)) 1 80 (va_A [(h0, .inr (9, [.null, .int 0]))] H.size) := by
  refine Met.ofW (cc := cX9_init) (maxL := 1) (ret := none) (by decide) rfl ?_
  intro p e s m args below meth c s₁ B hml hv
  obtain ⟨rfl, hh, hK, hq⟩ := hv
  have hx := B.exec
  have hb := B.bytes
  have hr := B.returns
  have hts := atoms_spec (ws := (wU yX9_init cX9_init 1 none)) B.pre
  have hown : s.vm.findClass RX9 = some m.cls := findClass_of_methodNamed B.named
  have hlocks := B.notSynchronized
  have hin : meth.name = "<init>" := (name_of_methodNamed B.named B.method).1
  subst hh
  have hD := hD0.self (sz := s.heap.size)
  have hA : ∀ q : Nat, s.heap.size ≤ q → (va_A [(h0, .inr (9, [.null, .int 0]))] s.heap.size) q := fun q h => Or.inr h
  have hS : va_S (va_A [(h0, .inr (9, [.null, .int 0]))] s.heap.size) s.heap s.heap [] := va_S.rf
  have hl := lv_entry ([.ref h0]) (n := 1) (Nat.le_of_ble_eq_true rfl)
  rw [lg_entry_eq]
  generalize (lg_sl ([.ref h0]) ++ List.replicate (1 - (lg_sl ([.ref h0])).length) Slot.unset).toArray = ls at hl ⊢
  have hl : lv_has ls 1 [(0, .ref h0)] := hl
  refine lv_aload_n hx hb dX9_init_0 rfl (lv_at hl 0 rfl) ?_
  refine W.objInit hx hb hown (hts _ (List.mem_cons_of_mem _ mw_2_144)) (hts _ (List.mem_cons_of_mem _ mw_1_24)) (hts _ (List.mem_cons_of_mem _ mw_1_25)) rfl (by rw [hml]; exact hl.1) rfl dX9_init_1 (Nat.le_of_ble_eq_true rfl) (Nat.le_of_ble_eq_true rfl) ?_
  refine W.eq (g2 := F0 m 4 ls []) rfl ?_
  refine lv_aload_n hx hb dX9_init_4 rfl (lv_at hl 0 rfl) ?_
  refine lv_bipush (v := 80) hx hb dX9_init_5 (by decide) ?_
  refine va_newa (atype := .byte) (a0 := (80, .inl (fun _ => 0))) hx hb (hts _ (List.mem_cons_of_mem _ mw_2_156)) rfl hK hP hD hS hA (fun cA => rfl) (by decide) rfl (by decide) (Nat.le_of_ble_eq_true rfl) (Nat.le_of_ble_eq_true rfl) dX9_init_7 (fun q1 c1 H hK1 hP hD hS => ?_)
  obtain rfl : c1 = cs 1 := cA_eq 1 7 hK1 rfl rfl
  have hP : va_P (dC, dI) vwCl [(q1, .inl (cs 1, 80, .inl (fun _ => 0))), (h0, .inr (9, [.null, .int 0]))] H := pm_P (pm_last [(h0, .inr (9, [.null, .int 0]))] (q1, .inl (cs 1, 80, .inl (fun _ => 0)))) hP
  have hD : va_D (va_A [(h0, .inr (9, [.null, .int 0]))] s.heap.size) [(q1, .inl (cs 1, 80, .inl (fun _ => 0))), (h0, .inr (9, [.null, .int 0]))] := pm_D (pm_last [(h0, .inr (9, [.null, .int 0]))] (q1, .inl (cs 1, 80, .inl (fun _ => 0)))) hD
  refine W.widen (k := 1) (n := 80) (Nat.le_of_ble_eq_true rfl) (Nat.le_of_ble_eq_true rfl) ?_
  refine va_putF (D := (dC, dI)) (ci := 9) (v := .ref q1) (ty := (.array .byte)) (C := RX9) (T := TX9) (N := 2) hx hb hts inG9 tyX9 tyX9_ok nmX9 hown hK hP hD hS 1 rfl rfl 0 (by decide) (hts _ (List.mem_cons_of_mem _ mw_2_145)) (fun _ h9 => h9) rfl hin rfl (by decide +kernel) (by first | rfl | decide) (by first | rfl | decide) (Nat.le_of_ble_eq_true rfl) dX9_init_9 (fun H locs hP hD hS => ?_)
  have hP : va_P (dC, dI) vwCl [(q1, .inl (cs 1, 80, .inl (fun _ => 0))), (h0, .inr (9, [.ref q1, .int 0]))] H := hP
  have hD : va_D (va_A [(h0, .inr (9, [.null, .int 0]))] s.heap.size) [(q1, .inl (cs 1, 80, .inl (fun _ => 0))), (h0, .inr (9, [.ref q1, .int 0]))] := hD
  refine lv_aload_n hx hb dX9_init_12 rfl (lv_at hl 0 rfl) ?_
  refine lv_iconst (v := (-1)) hx hb dX9_init_13 (by decide) ?_
  refine va_put (D := (dC, dI)) (ci := 9) (v := .int (-1)) (ty := .int) (C := RX9) (T := TX9) (N := 2) hx hb hts inG9 tyX9 tyX9_ok nmX9 hown hK hP hD hS 1 rfl rfl 1 (by decide) (hts _ (List.mem_cons_of_mem _ mw_2_148)) (fun _ h9 => h9) rfl (by decide +kernel) (by first | rfl | decide) (by first | rfl | decide) (Nat.le_of_ble_eq_true rfl) dX9_init_14 (fun H locs hP hD hS => ?_)
  have hP : va_P (dC, dI) vwCl [(q1, .inl (cs 1, 80, .inl (fun _ => 0))), (h0, .inr (9, [.ref q1, .int (-1)]))] H := hP
  have hD : va_D (va_A [(h0, .inr (9, [.null, .int 0]))] s.heap.size) [(q1, .inl (cs 1, 80, .inl (fun _ => 0))), (h0, .inr (9, [.ref q1, .int (-1)]))] := hD
  exact W.vret hx hb hr (fun t ht hW => ⟨⟨(), rfl, trivial, q1, by first | (subst ht; exact hP) | (rw [ht]; exact hP), hD⟩, hS.F ht⟩) hS.2.2 dX9_init_17
abbrev A0_ci_Standing (h0 n : Nat) : Nat → Prop := va_A [(h0, .inr (8, [.null, .null, .int 0, .int 0, .int 0, .int 0]))] n
set_option maxHeartbeats 4000000 in
set_option maxRecDepth 100000 in
/-- a Standing -/
theorem ci_Standing (l : Launch) (dC : Nat → ClassId) (dI : Nat → Nat → Nat) (cs : Nat → ClassId) (H : Heap) (h0 : Nat) (hP : va_P (dC, dI) vwCl [(h0, .inr (8, [.null, .null, .int 0, .int 0, .int 0, .int 0]))] H) (hD0 : va_D (fun _ => True) [(h0, .inr (8, [.null, .null, .int 0, .int 0, .int 0, .int 0]))]) : Met l yX8_init (wU yX8_init cX8_init 2 none) ({ frames := 2, cells := 6, slots := 51, locals := 34 }) (va_Pc [.ref h0] (kb_P (dC, dI) vwCl (tyW cs) H)) (va_Qv (fun (_ : Unit) => True) (fun _ t => ∃ q1 : Nat, ∃ q2 : Nat, ∃ q3 : Nat, ∃ q4 : Nat, ∃ q5 : Nat, ∃ q6 : Nat, va_P (dC, dI) vwCl [(q6, .inr (3, [.int 0, .int 0, .int 0, .int 0, .int 0, .int 0, .int 0, .int 0, .int 0, .int 0])), (q5, .inr (3, [.int 0, .int 0, .int 0, .int 0, .int 0, .int 0, .int 0, .int 0, .int 0, .int 0])), (q4, .inr (3, [.int 0, .int 0, .int 0, .int 0, .int 0, .int 0, .int 0, .int 0, .int 0, .int 0])), (q3, .inr (3, [.int 0, .int 0, .int 0, .int 0, .int 0, .int 0, .int 0, .int 0, .int 0, .int 0])), (q2, .inl (cs 5, 4, .inr (.inr (.inr (.inr (va_up (va_up (va_up (va_up (fun _ => none) 0 (some q3)) 1 (some q4)) 2 (some q5)) 3 (some q6))))))), (q1, .inl (cs 0, 7, .inl (fun _ => 0))), (h0, .inr (8, [.ref q1, .ref q2, .int 0, .int 0, .int 0, .int 0]))] t.heap ∧ va_D (va_A [(h0, .inr (8, [.null, .null, .int 0, .int 0, .int 0, .int 0]))] H.size) [(q6, .inr (3, [.int 0, .int 0, .int 0, .int 0, .int 0, .int 0, .int 0, .int 0, .int 0, .int 0])), (q5, .inr (3, [.int 0, .int 0, .int 0, .int 0, .int 0, .int 0, .int 0, .int 0, .int 0, .int 0])), (q4, .inr (3, [.int 0, .int 0, .int 0, .int 0, .int 0, .int 0, .int 0, .int 0, .int 0, .int 0])), (q3, .inr (3, [.int 0, .int 0, .int 0, .int 0, .int 0, .int 0, .int 0, .int 0, .int 0, .int 0])), (q2, .inl (cs 5, 4, .inr (.inr (.inr (.inr (va_up (va_up (va_up (va_up (fun _ => none) 0 (some q3)) 1 (some q4)) 2 (some q5)) 3 (some q6))))))), (q1, .inl (cs 0, 7, .inl (fun _ => 0))), (h0, .inr (8, [.ref q1, .ref q2, .int 0, .int 0, .int 0, .int 0]))]) (va_A [(h0, .inr (8, [.null, .null, .int 0, .int 0, .int 0, .int 0]))] H.size)) 6 51 (va_A [(h0, .inr (8, [.null, .null, .int 0, .int 0, .int 0, .int 0]))] H.size) := by
  refine Met.ofW (cc := cX8_init) (maxL := 2) (ret := none) (by decide) rfl ?_
  intro p e s m args below meth c s₁ B hml hv
  obtain ⟨rfl, hh, hK, hq⟩ := hv
  have hx := B.exec
  have hb := B.bytes
  have hr := B.returns
  have hts := atoms_spec (ws := (wU yX8_init cX8_init 2 none)) B.pre
  have hown : s.vm.findClass RX8 = some m.cls := findClass_of_methodNamed B.named
  have hlocks := B.notSynchronized
  have hin : meth.name = "<init>" := (name_of_methodNamed B.named B.method).1
  subst hh
  have hD := hD0.self (sz := s.heap.size)
  have hA : ∀ q : Nat, s.heap.size ≤ q → (A0_ci_Standing h0 s.heap.size) q := fun q h => Or.inr h
  have hS : va_S (A0_ci_Standing h0 s.heap.size) s.heap s.heap [] := va_S.rf
  have hl := lv_entry ([.ref h0]) (n := 2) (Nat.le_of_ble_eq_true rfl)
  rw [lg_entry_eq]
  generalize (lg_sl ([.ref h0]) ++ List.replicate (2 - (lg_sl ([.ref h0])).length) Slot.unset).toArray = ls at hl ⊢
  have hl : lv_has ls 2 [(0, .ref h0)] := hl
  refine lv_aload_n hx hb dX8_init_0 rfl (lv_at hl 0 rfl) ?_
  refine W.objInit hx hb hown (hts _ (List.mem_cons_of_mem _ mw_1_43)) (hts _ (List.mem_cons_of_mem _ mw_1_24)) (hts _ (List.mem_cons_of_mem _ mw_1_25)) rfl (by rw [hml]; exact hl.1) rfl dX8_init_1 (Nat.le_of_ble_eq_true rfl) (Nat.le_of_ble_eq_true rfl) ?_
  refine W.eq (g2 := F0 m 4 ls []) rfl ?_
  refine lv_aload_n hx hb dX8_init_4 rfl (lv_at hl 0 rfl) ?_
  refine lv_bipush (v := 7) hx hb dX8_init_5 (by decide) ?_
  refine va_newa (atype := .int) (a0 := (7, .inl (fun _ => 0))) hx hb (hts _ (List.mem_cons_of_mem _ mw_1_102)) rfl hK hP hD hS hA (fun cA => rfl) (by decide) rfl (by decide) (Nat.le_of_ble_eq_true rfl) (Nat.le_of_ble_eq_true rfl) dX8_init_7 (fun q1 c1 H hK1 hP hD hS => ?_)
  obtain rfl : c1 = cs 0 := cA_eq 0 7 hK1 rfl rfl
  have hPD : PDw (dC, dI) vwCl (A0_ci_Standing h0 s.heap.size) H [(q1, .inl (cs 0, 7, .inl (fun _ => 0))), (h0, .inr (8, [.null, .null, .int 0, .int 0, .int 0, .int 0]))] := ⟨pm_P (pm_last [(h0, .inr (8, [.null, .null, .int 0, .int 0, .int 0, .int 0]))] (q1, .inl (cs 0, 7, .inl (fun _ => 0)))) hP, pm_D (pm_last [(h0, .inr (8, [.null, .null, .int 0, .int 0, .int 0, .int 0]))] (q1, .inl (cs 0, 7, .inl (fun _ => 0)))) hD⟩
  have hP := hPD.1
  have hD := hPD.2
  refine W.widen (k := 1) (n := 7) (Nat.le_of_ble_eq_true rfl) (Nat.le_of_ble_eq_true rfl) ?_
  refine va_putF (D := (dC, dI)) (ci := 8) (v := .ref q1) (ty := (.array .int)) (C := RX8) (T := TX8) (N := 6) hx hb hts inG8 tyX8 tyX8_ok nmX8 hown hK hP hD hS 1 rfl rfl 0 (by decide) (hts _ (List.mem_cons_of_mem _ mw_1_103)) (fun _ h9 => h9) rfl hin rfl (by decide +kernel) (by first | rfl | decide) (by first | rfl | decide) (Nat.le_of_ble_eq_true rfl) dX8_init_9 (fun H locs hP hD hS => ?_)
  have hPD : PDw (dC, dI) vwCl (A0_ci_Standing h0 s.heap.size) H [(q1, .inl (cs 0, 7, .inl (fun _ => 0))), (h0, .inr (8, [.ref q1, .null, .int 0, .int 0, .int 0, .int 0]))] := ⟨hP, hD⟩
  have hP := hPD.1
  have hD := hPD.2
  refine lv_aload_n hx hb dX8_init_12 rfl (lv_at hl 0 rfl) ?_
  refine lv_iconst (v := 4) hx hb dX8_init_13 (by decide) ?_
  refine va_newq (C := RX3) hx hb hown (hts _ (List.mem_cons_of_mem _ mw_1_44)) (hq.2.2.2.2.2.2.2.2.2.2.2.2.1) hK hP hD hS hA (by decide) rfl (by decide) (Nat.le_of_ble_eq_true rfl) (Nat.le_of_ble_eq_true rfl) dX8_init_14 (fun q2 c2 H hK1 hP hD hS => ?_)
  obtain rfl : c2 = cs 5 := cA_eq 5 7 hK1 rfl rfl
  have hPD : PDw (dC, dI) vwCl (A0_ci_Standing h0 s.heap.size) H [(q2, .inl (cs 5, 4, .inr (.inr (.inr (.inr (fun _ => none)))))), (q1, .inl (cs 0, 7, .inl (fun _ => 0))), (h0, .inr (8, [.ref q1, .null, .int 0, .int 0, .int 0, .int 0]))] := ⟨pm_P (pm_last [(q1, .inl (cs 0, 7, .inl (fun _ => 0))), (h0, .inr (8, [.ref q1, .null, .int 0, .int 0, .int 0, .int 0]))] (q2, .inl (cs 5, 4, .inr (.inr (.inr (.inr (fun _ => none))))))) hP, pm_D (pm_last [(q1, .inl (cs 0, 7, .inl (fun _ => 0))), (h0, .inr (8, [.ref q1, .null, .int 0, .int 0, .int 0, .int 0]))] (q2, .inl (cs 5, 4, .inr (.inr (.inr (.inr (fun _ => none))))))) hD⟩
  have hP := hPD.1
  have hD := hPD.2
  refine W.widen (k := 2) (n := 11) (Nat.le_of_ble_eq_true rfl) (Nat.le_of_ble_eq_true rfl) ?_
  refine va_putF (D := (dC, dI)) (ci := 8) (v := .ref q2) (ty := (.array (.object "DearLetters$Letter"))) (C := RX8) (T := TX8) (N := 6) hx hb hts inG8 tyX8 tyX8_ok nmX8 hown hK hP hD hS 2 rfl rfl 1 (by decide) (hts _ (List.mem_cons_of_mem _ mw_1_109)) (fun _ h9 => h9) rfl hin rfl (by decide +kernel) (by first | rfl | decide) (by first | rfl | decide) (Nat.le_of_ble_eq_true rfl) dX8_init_17 (fun H locs hP hD hS => ?_)
  have hPD : PDw (dC, dI) vwCl (A0_ci_Standing h0 s.heap.size) H [(q2, .inl (cs 5, 4, .inr (.inr (.inr (.inr (fun _ => none)))))), (q1, .inl (cs 0, 7, .inl (fun _ => 0))), (h0, .inr (8, [.ref q1, .ref q2, .int 0, .int 0, .int 0, .int 0]))] := ⟨hP, hD⟩
  have hP := hPD.1
  have hD := hPD.2
  refine lv_iconst (v := 0) hx hb dX8_init_20 (by decide) ?_
  refine lv_istore_n (lv' := [(1, .int 0), (0, .ref h0)]) hx hb dX8_init_21 rfl hl (by decide) rfl (fun ls hl => ?_)
  refine lv_iload_n hx hb dX8_init_22 rfl (lv_at hl 0 rfl) ?_
  refine lv_iconst (v := 4) hx hb dX8_init_23 (by decide) ?_
  refine lv_icmp_ge (tgt := 46) hx hb dX8_init_24 (by decide) (fun c => absurd c (by decide)) (fun _ => ?_)
  refine lv_aload_n hx hb dX8_init_27 rfl (lv_at hl 1 rfl) ?_
  refine va_get (D := (dC, dI)) (ci := 8) (v := .ref q2) (C := RX8) (T := TX8) (N := 6) hx hb hts inG8 hown hK hP 2 rfl rfl 1 (by decide) (hts _ (List.mem_cons_of_mem _ mw_1_109)) (fun _ h9 => h9) rfl dX8_init_28 ?_
  refine lv_iload_n hx hb dX8_init_31 rfl (lv_at hl 0 rfl) ?_
  refine va_new (ci := 3) (fs := [.int 0, .int 0, .int 0, .int 0, .int 0, .int 0, .int 0, .int 0, .int 0, .int 0]) (C := RX3) (T := TX3) (N := 10) hx hb hts inG3 tyX3 tyX3_ok hown (hts _ (List.mem_cons_of_mem _ mw_1_44)) (hts _ (List.mem_cons_of_mem _ mw_1_46)) (hts _ (List.mem_cons_of_mem _ mw_1_4)) hK hP hD hS hA rfl (fun j hj => match j, hj with | 0, _ => rfl | 1, _ => rfl | 2, _ => rfl | 3, _ => rfl | 4, _ => rfl | 5, _ => rfl | 6, _ => rfl | 7, _ => rfl | 8, _ => rfl | 9, _ => rfl | _ + 10, hj => absurd hj (by omega)) (Nat.le_of_ble_eq_true rfl) (Nat.le_of_ble_eq_true rfl) dX8_init_32 (fun q3 H hP hD hS => ?_)
  have hPD : PDw (dC, dI) vwCl (A0_ci_Standing h0 s.heap.size) H [(q3, .inr (3, [.int 0, .int 0, .int 0, .int 0, .int 0, .int 0, .int 0, .int 0, .int 0, .int 0])), (q2, .inl (cs 5, 4, .inr (.inr (.inr (.inr (fun _ => none)))))), (q1, .inl (cs 0, 7, .inl (fun _ => 0))), (h0, .inr (8, [.ref q1, .ref q2, .int 0, .int 0, .int 0, .int 0]))] := ⟨pm_P (pm_last [(q2, .inl (cs 5, 4, .inr (.inr (.inr (.inr (fun _ => none)))))), (q1, .inl (cs 0, 7, .inl (fun _ => 0))), (h0, .inr (8, [.ref q1, .ref q2, .int 0, .int 0, .int 0, .int 0]))] (q3, .inr (3, [.int 0, .int 0, .int 0, .int 0, .int 0, .int 0, .int 0, .int 0, .int 0, .int 0]))) hP, pm_D (pm_last [(q2, .inl (cs 5, 4, .inr (.inr (.inr (.inr (fun _ => none)))))), (q1, .inl (cs 0, 7, .inl (fun _ => 0))), (h0, .inr (8, [.ref q1, .ref q2, .int 0, .int 0, .int 0, .int 0]))] (q3, .inr (3, [.int 0, .int 0, .int 0, .int 0, .int 0, .int 0, .int 0, .int 0, .int 0, .int 0]))) hD⟩
  have hP := hPD.1
  have hD := hPD.2
  refine W.widen (k := 3) (n := 21) (Nat.le_of_ble_eq_true rfl) (Nat.le_of_ble_eq_true rfl) ?_
  refine lv_dup hx hb dX8_init_35 rfl ?_
  have hFc := va_free (wc := [(q3, .inr (3, [.int 0, .int 0, .int 0, .int 0, .int 0, .int 0, .int 0, .int 0, .int 0, .int 0]))]) hD hS hA [0] rfl
  refine va_callv (va_runIN (As := []) (rest := [.ref q3, .int 0, .ref q2]) ⟨hx, hb, hml, hown, hts⟩ (ci_Letter l dC dI cs H q3 (hP.sub (ws' := [(q3, .inr (3, [.int 0, .int 0, .int 0, .int 0, .int 0, .int 0, .int 0, .int 0, .int 0, .int 0]))]) [0] rfl) ((hD.sub (ws' := [(q3, .inr (3, [.int 0, .int 0, .int 0, .int 0, .int 0, .int 0, .int 0, .int 0, .int 0, .int 0]))]) [0] (by decide) rfl).weaken (fun _ _ _ _ => trivial))) ⟨va_cnB 0 hts (wU_in mw_1_49) rfl rfl rfl (hq.2.2.2.2.2.2.2.2.1) (hts _ (List.mem_cons_of_mem _ mw_1_4)) (by decide +kernel) ⟨Nat.le_of_ble_eq_true rfl, Nat.le_of_ble_eq_true rfl⟩, rfl, (hts _ (List.mem_cons_of_mem _ mw_1_48))⟩ ⟨kb_c, kb_m hK hq⟩ rfl rfl hl.1 rfl (lv_room (Nat.le_of_ble_eq_true rfl)) dX8_init_36 ⟨Nat.le_of_ble_eq_true rfl, Nat.le_of_ble_eq_true rfl⟩) hS (fun q _ h => hFc q h) hFc (fun u t H_1 locs ht hvm hw hB hz1 hk1 hS => ?_)
  obtain ⟨hP1, hD1⟩ := hB
  rw [ht] at hP1
  obtain ⟨hP, hD⟩ := jn_front (wc := [(q3, .inr (3, [.int 0, .int 0, .int 0, .int 0, .int 0, .int 0, .int 0, .int 0, .int 0, .int 0]))]) (wr := [(q2, .inl (cs 5, 4, .inr (.inr (.inr (.inr (fun _ => none)))))), (q1, .inl (cs 0, 7, .inl (fun _ => 0))), (h0, .inr (8, [.ref q1, .ref q2, .int 0, .int 0, .int 0, .int 0]))]) (w1 := [(q3, .inr (3, [.int 0, .int 0, .int 0, .int 0, .int 0, .int 0, .int 0, .int 0, .int 0, .int 0]))]) hP hD hk1 hFc hP1 hD1
  have hP : va_P (dC, dI) vwCl [(q3, .inr (3, [.int 0, .int 0, .int 0, .int 0, .int 0, .int 0, .int 0, .int 0, .int 0, .int 0])), (q2, .inl (cs 5, 4, .inr (.inr (.inr (.inr (fun _ => none)))))), (q1, .inl (cs 0, 7, .inl (fun _ => 0))), (h0, .inr (8, [.ref q1, .ref q2, .int 0, .int 0, .int 0, .int 0]))] H_1 := hP
  have hD : va_D (A0_ci_Standing h0 s.heap.size) [(q3, .inr (3, [.int 0, .int 0, .int 0, .int 0, .int 0, .int 0, .int 0, .int 0, .int 0, .int 0])), (q2, .inl (cs 5, 4, .inr (.inr (.inr (.inr (fun _ => none)))))), (q1, .inl (cs 0, 7, .inl (fun _ => 0))), (h0, .inr (8, [.ref q1, .ref q2, .int 0, .int 0, .int 0, .int 0]))] := hD
  refine W.widen (k := 3) (n := 21) (Nat.le_of_ble_eq_true rfl) (Nat.le_of_ble_eq_true rfl) ?_
  refine va_astq (r := (RX3, TX3, 10)) hx hb hK hP hD hS 1 5 0 3 rfl rfl rfl rfl (show vp_in 0 4 by unfold vp_in; decide) dX8_init_39 (fun H locs hP hD hS => ?_)
  have hPD : PDw (dC, dI) vwCl (A0_ci_Standing h0 s.heap.size) H [(q3, .inr (3, [.int 0, .int 0, .int 0, .int 0, .int 0, .int 0, .int 0, .int 0, .int 0, .int 0])), (q2, .inl (cs 5, 4, .inr (.inr (.inr (.inr (va_up (fun _ => none) 0 (some q3))))))), (q1, .inl (cs 0, 7, .inl (fun _ => 0))), (h0, .inr (8, [.ref q1, .ref q2, .int 0, .int 0, .int 0, .int 0]))] := ⟨hP, hD⟩
  have hP := hPD.1
  have hD := hPD.2
  refine lv_iinc (v := 1) (lv' := [(1, .int 1), (0, .ref h0)]) hx hb dX8_init_40 hl (k := 0) rfl (by decide) (by decide) rfl (fun ls hl => ?_)
  refine lv_goto (tgt := 22) hx hb dX8_init_43 (by decide) ?_
  refine lv_iload_n hx hb dX8_init_22 rfl (lv_at hl 0 rfl) ?_
  refine lv_iconst (v := 4) hx hb dX8_init_23 (by decide) ?_
  refine lv_icmp_ge (tgt := 46) hx hb dX8_init_24 (by decide) (fun c => absurd c (by decide)) (fun _ => ?_)
  refine lv_aload_n hx hb dX8_init_27 rfl (lv_at hl 1 rfl) ?_
  refine va_get (D := (dC, dI)) (ci := 8) (v := .ref q2) (C := RX8) (T := TX8) (N := 6) hx hb hts inG8 hown hK hP 3 rfl rfl 1 (by decide) (hts _ (List.mem_cons_of_mem _ mw_1_109)) (fun _ h9 => h9) rfl dX8_init_28 ?_
  refine lv_iload_n hx hb dX8_init_31 rfl (lv_at hl 0 rfl) ?_
  refine va_new (ci := 3) (fs := [.int 0, .int 0, .int 0, .int 0, .int 0, .int 0, .int 0, .int 0, .int 0, .int 0]) (C := RX3) (T := TX3) (N := 10) hx hb hts inG3 tyX3 tyX3_ok hown (hts _ (List.mem_cons_of_mem _ mw_1_44)) (hts _ (List.mem_cons_of_mem _ mw_1_46)) (hts _ (List.mem_cons_of_mem _ mw_1_4)) hK hP hD hS hA rfl (fun j hj => match j, hj with | 0, _ => rfl | 1, _ => rfl | 2, _ => rfl | 3, _ => rfl | 4, _ => rfl | 5, _ => rfl | 6, _ => rfl | 7, _ => rfl | 8, _ => rfl | 9, _ => rfl | _ + 10, hj => absurd hj (by omega)) (Nat.le_of_ble_eq_true rfl) (Nat.le_of_ble_eq_true rfl) dX8_init_32 (fun q4 H hP hD hS => ?_)
  have hPD : PDw (dC, dI) vwCl (A0_ci_Standing h0 s.heap.size) H [(q4, .inr (3, [.int 0, .int 0, .int 0, .int 0, .int 0, .int 0, .int 0, .int 0, .int 0, .int 0])), (q3, .inr (3, [.int 0, .int 0, .int 0, .int 0, .int 0, .int 0, .int 0, .int 0, .int 0, .int 0])), (q2, .inl (cs 5, 4, .inr (.inr (.inr (.inr (va_up (fun _ => none) 0 (some q3))))))), (q1, .inl (cs 0, 7, .inl (fun _ => 0))), (h0, .inr (8, [.ref q1, .ref q2, .int 0, .int 0, .int 0, .int 0]))] := ⟨pm_P (pm_last [(q3, .inr (3, [.int 0, .int 0, .int 0, .int 0, .int 0, .int 0, .int 0, .int 0, .int 0, .int 0])), (q2, .inl (cs 5, 4, .inr (.inr (.inr (.inr (va_up (fun _ => none) 0 (some q3))))))), (q1, .inl (cs 0, 7, .inl (fun _ => 0))), (h0, .inr (8, [.ref q1, .ref q2, .int 0, .int 0, .int 0, .int 0]))] (q4, .inr (3, [.int 0, .int 0, .int 0, .int 0, .int 0, .int 0, .int 0, .int 0, .int 0, .int 0]))) hP, pm_D (pm_last [(q3, .inr (3, [.int 0, .int 0, .int 0, .int 0, .int 0, .int 0, .int 0, .int 0, .int 0, .int 0])), (q2, .inl (cs 5, 4, .inr (.inr (.inr (.inr (va_up (fun _ => none) 0 (some q3))))))), (q1, .inl (cs 0, 7, .inl (fun _ => 0))), (h0, .inr (8, [.ref q1, .ref q2, .int 0, .int 0, .int 0, .int 0]))] (q4, .inr (3, [.int 0, .int 0, .int 0, .int 0, .int 0, .int 0, .int 0, .int 0, .int 0, .int 0]))) hD⟩
  have hP := hPD.1
  have hD := hPD.2
  refine W.widen (k := 4) (n := 31) (Nat.le_of_ble_eq_true rfl) (Nat.le_of_ble_eq_true rfl) ?_
  refine lv_dup hx hb dX8_init_35 rfl ?_
  have hFc := va_free (wc := [(q4, .inr (3, [.int 0, .int 0, .int 0, .int 0, .int 0, .int 0, .int 0, .int 0, .int 0, .int 0]))]) hD hS hA [0] rfl
  refine va_callv (va_runIN (As := []) (rest := [.ref q4, .int 1, .ref q2]) ⟨hx, hb, hml, hown, hts⟩ (ci_Letter l dC dI cs H q4 (hP.sub (ws' := [(q4, .inr (3, [.int 0, .int 0, .int 0, .int 0, .int 0, .int 0, .int 0, .int 0, .int 0, .int 0]))]) [0] rfl) ((hD.sub (ws' := [(q4, .inr (3, [.int 0, .int 0, .int 0, .int 0, .int 0, .int 0, .int 0, .int 0, .int 0, .int 0]))]) [0] (by decide) rfl).weaken (fun _ _ _ _ => trivial))) ⟨va_cnB 0 hts (wU_in mw_1_49) rfl rfl rfl (hq.2.2.2.2.2.2.2.2.1) (hts _ (List.mem_cons_of_mem _ mw_1_4)) (by decide +kernel) ⟨Nat.le_of_ble_eq_true rfl, Nat.le_of_ble_eq_true rfl⟩, rfl, (hts _ (List.mem_cons_of_mem _ mw_1_48))⟩ ⟨kb_c, kb_m hK hq⟩ rfl rfl hl.1 rfl (lv_room (Nat.le_of_ble_eq_true rfl)) dX8_init_36 ⟨Nat.le_of_ble_eq_true rfl, Nat.le_of_ble_eq_true rfl⟩) hS (fun q _ h => hFc q h) hFc (fun u t H_2 locs ht hvm hw hB hz1 hk1 hS => ?_)
  obtain ⟨hP1, hD1⟩ := hB
  rw [ht] at hP1
  obtain ⟨hP, hD⟩ := jn_front (wc := [(q4, .inr (3, [.int 0, .int 0, .int 0, .int 0, .int 0, .int 0, .int 0, .int 0, .int 0, .int 0]))]) (wr := [(q3, .inr (3, [.int 0, .int 0, .int 0, .int 0, .int 0, .int 0, .int 0, .int 0, .int 0, .int 0])), (q2, .inl (cs 5, 4, .inr (.inr (.inr (.inr (va_up (fun _ => none) 0 (some q3))))))), (q1, .inl (cs 0, 7, .inl (fun _ => 0))), (h0, .inr (8, [.ref q1, .ref q2, .int 0, .int 0, .int 0, .int 0]))]) (w1 := [(q4, .inr (3, [.int 0, .int 0, .int 0, .int 0, .int 0, .int 0, .int 0, .int 0, .int 0, .int 0]))]) hP hD hk1 hFc hP1 hD1
  have hP : va_P (dC, dI) vwCl [(q4, .inr (3, [.int 0, .int 0, .int 0, .int 0, .int 0, .int 0, .int 0, .int 0, .int 0, .int 0])), (q3, .inr (3, [.int 0, .int 0, .int 0, .int 0, .int 0, .int 0, .int 0, .int 0, .int 0, .int 0])), (q2, .inl (cs 5, 4, .inr (.inr (.inr (.inr (va_up (fun _ => none) 0 (some q3))))))), (q1, .inl (cs 0, 7, .inl (fun _ => 0))), (h0, .inr (8, [.ref q1, .ref q2, .int 0, .int 0, .int 0, .int 0]))] H_2 := hP
  have hD : va_D (A0_ci_Standing h0 s.heap.size) [(q4, .inr (3, [.int 0, .int 0, .int 0, .int 0, .int 0, .int 0, .int 0, .int 0, .int 0, .int 0])), (q3, .inr (3, [.int 0, .int 0, .int 0, .int 0, .int 0, .int 0, .int 0, .int 0, .int 0, .int 0])), (q2, .inl (cs 5, 4, .inr (.inr (.inr (.inr (va_up (fun _ => none) 0 (some q3))))))), (q1, .inl (cs 0, 7, .inl (fun _ => 0))), (h0, .inr (8, [.ref q1, .ref q2, .int 0, .int 0, .int 0, .int 0]))] := hD
  refine W.widen (k := 4) (n := 31) (Nat.le_of_ble_eq_true rfl) (Nat.le_of_ble_eq_true rfl) ?_
  refine va_astq (r := (RX3, TX3, 10)) hx hb hK hP hD hS 2 5 0 3 rfl rfl rfl rfl (show vp_in 1 4 by unfold vp_in; decide) dX8_init_39 (fun H locs hP hD hS => ?_)
  have hPD : PDw (dC, dI) vwCl (A0_ci_Standing h0 s.heap.size) H [(q4, .inr (3, [.int 0, .int 0, .int 0, .int 0, .int 0, .int 0, .int 0, .int 0, .int 0, .int 0])), (q3, .inr (3, [.int 0, .int 0, .int 0, .int 0, .int 0, .int 0, .int 0, .int 0, .int 0, .int 0])), (q2, .inl (cs 5, 4, .inr (.inr (.inr (.inr (va_up (va_up (fun _ => none) 0 (some q3)) 1 (some q4))))))), (q1, .inl (cs 0, 7, .inl (fun _ => 0))), (h0, .inr (8, [.ref q1, .ref q2, .int 0, .int 0, .int 0, .int 0]))] := ⟨hP, hD⟩
  have hP := hPD.1
  have hD := hPD.2
  refine lv_iinc (v := 2) (lv' := [(1, .int 2), (0, .ref h0)]) hx hb dX8_init_40 hl (k := 0) rfl (by decide) (by decide) rfl (fun ls hl => ?_)
  refine lv_goto (tgt := 22) hx hb dX8_init_43 (by decide) ?_
  refine lv_iload_n hx hb dX8_init_22 rfl (lv_at hl 0 rfl) ?_
  refine lv_iconst (v := 4) hx hb dX8_init_23 (by decide) ?_
  refine lv_icmp_ge (tgt := 46) hx hb dX8_init_24 (by decide) (fun c => absurd c (by decide)) (fun _ => ?_)
  refine lv_aload_n hx hb dX8_init_27 rfl (lv_at hl 1 rfl) ?_
  refine va_get (D := (dC, dI)) (ci := 8) (v := .ref q2) (C := RX8) (T := TX8) (N := 6) hx hb hts inG8 hown hK hP 4 rfl rfl 1 (by decide) (hts _ (List.mem_cons_of_mem _ mw_1_109)) (fun _ h9 => h9) rfl dX8_init_28 ?_
  refine lv_iload_n hx hb dX8_init_31 rfl (lv_at hl 0 rfl) ?_
  refine va_new (ci := 3) (fs := [.int 0, .int 0, .int 0, .int 0, .int 0, .int 0, .int 0, .int 0, .int 0, .int 0]) (C := RX3) (T := TX3) (N := 10) hx hb hts inG3 tyX3 tyX3_ok hown (hts _ (List.mem_cons_of_mem _ mw_1_44)) (hts _ (List.mem_cons_of_mem _ mw_1_46)) (hts _ (List.mem_cons_of_mem _ mw_1_4)) hK hP hD hS hA rfl (fun j hj => match j, hj with | 0, _ => rfl | 1, _ => rfl | 2, _ => rfl | 3, _ => rfl | 4, _ => rfl | 5, _ => rfl | 6, _ => rfl | 7, _ => rfl | 8, _ => rfl | 9, _ => rfl | _ + 10, hj => absurd hj (by omega)) (Nat.le_of_ble_eq_true rfl) (Nat.le_of_ble_eq_true rfl) dX8_init_32 (fun q5 H hP hD hS => ?_)
  have hPD : PDw (dC, dI) vwCl (A0_ci_Standing h0 s.heap.size) H [(q5, .inr (3, [.int 0, .int 0, .int 0, .int 0, .int 0, .int 0, .int 0, .int 0, .int 0, .int 0])), (q4, .inr (3, [.int 0, .int 0, .int 0, .int 0, .int 0, .int 0, .int 0, .int 0, .int 0, .int 0])), (q3, .inr (3, [.int 0, .int 0, .int 0, .int 0, .int 0, .int 0, .int 0, .int 0, .int 0, .int 0])), (q2, .inl (cs 5, 4, .inr (.inr (.inr (.inr (va_up (va_up (fun _ => none) 0 (some q3)) 1 (some q4))))))), (q1, .inl (cs 0, 7, .inl (fun _ => 0))), (h0, .inr (8, [.ref q1, .ref q2, .int 0, .int 0, .int 0, .int 0]))] := ⟨pm_P (pm_last [(q4, .inr (3, [.int 0, .int 0, .int 0, .int 0, .int 0, .int 0, .int 0, .int 0, .int 0, .int 0])), (q3, .inr (3, [.int 0, .int 0, .int 0, .int 0, .int 0, .int 0, .int 0, .int 0, .int 0, .int 0])), (q2, .inl (cs 5, 4, .inr (.inr (.inr (.inr (va_up (va_up (fun _ => none) 0 (some q3)) 1 (some q4))))))), (q1, .inl (cs 0, 7, .inl (fun _ => 0))), (h0, .inr (8, [.ref q1, .ref q2, .int 0, .int 0, .int 0, .int 0]))] (q5, .inr (3, [.int 0, .int 0, .int 0, .int 0, .int 0, .int 0, .int 0, .int 0, .int 0, .int 0]))) hP, pm_D (pm_last [(q4, .inr (3, [.int 0, .int 0, .int 0, .int 0, .int 0, .int 0, .int 0, .int 0, .int 0, .int 0])), (q3, .inr (3, [.int 0, .int 0, .int 0, .int 0, .int 0, .int 0, .int 0, .int 0, .int 0, .int 0])), (q2, .inl (cs 5, 4, .inr (.inr (.inr (.inr (va_up (va_up (fun _ => none) 0 (some q3)) 1 (some q4))))))), (q1, .inl (cs 0, 7, .inl (fun _ => 0))), (h0, .inr (8, [.ref q1, .ref q2, .int 0, .int 0, .int 0, .int 0]))] (q5, .inr (3, [.int 0, .int 0, .int 0, .int 0, .int 0, .int 0, .int 0, .int 0, .int 0, .int 0]))) hD⟩
  have hP := hPD.1
  have hD := hPD.2
  refine W.widen (k := 5) (n := 41) (Nat.le_of_ble_eq_true rfl) (Nat.le_of_ble_eq_true rfl) ?_
  refine lv_dup hx hb dX8_init_35 rfl ?_
  have hFc := va_free (wc := [(q5, .inr (3, [.int 0, .int 0, .int 0, .int 0, .int 0, .int 0, .int 0, .int 0, .int 0, .int 0]))]) hD hS hA [0] rfl
  refine va_callv (va_runIN (As := []) (rest := [.ref q5, .int 2, .ref q2]) ⟨hx, hb, hml, hown, hts⟩ (ci_Letter l dC dI cs H q5 (hP.sub (ws' := [(q5, .inr (3, [.int 0, .int 0, .int 0, .int 0, .int 0, .int 0, .int 0, .int 0, .int 0, .int 0]))]) [0] rfl) ((hD.sub (ws' := [(q5, .inr (3, [.int 0, .int 0, .int 0, .int 0, .int 0, .int 0, .int 0, .int 0, .int 0, .int 0]))]) [0] (by decide) rfl).weaken (fun _ _ _ _ => trivial))) ⟨va_cnB 0 hts (wU_in mw_1_49) rfl rfl rfl (hq.2.2.2.2.2.2.2.2.1) (hts _ (List.mem_cons_of_mem _ mw_1_4)) (by decide +kernel) ⟨Nat.le_of_ble_eq_true rfl, Nat.le_of_ble_eq_true rfl⟩, rfl, (hts _ (List.mem_cons_of_mem _ mw_1_48))⟩ ⟨kb_c, kb_m hK hq⟩ rfl rfl hl.1 rfl (lv_room (Nat.le_of_ble_eq_true rfl)) dX8_init_36 ⟨Nat.le_of_ble_eq_true rfl, Nat.le_of_ble_eq_true rfl⟩) hS (fun q _ h => hFc q h) hFc (fun u t H_3 locs ht hvm hw hB hz1 hk1 hS => ?_)
  obtain ⟨hP1, hD1⟩ := hB
  rw [ht] at hP1
  obtain ⟨hP, hD⟩ := jn_front (wc := [(q5, .inr (3, [.int 0, .int 0, .int 0, .int 0, .int 0, .int 0, .int 0, .int 0, .int 0, .int 0]))]) (wr := [(q4, .inr (3, [.int 0, .int 0, .int 0, .int 0, .int 0, .int 0, .int 0, .int 0, .int 0, .int 0])), (q3, .inr (3, [.int 0, .int 0, .int 0, .int 0, .int 0, .int 0, .int 0, .int 0, .int 0, .int 0])), (q2, .inl (cs 5, 4, .inr (.inr (.inr (.inr (va_up (va_up (fun _ => none) 0 (some q3)) 1 (some q4))))))), (q1, .inl (cs 0, 7, .inl (fun _ => 0))), (h0, .inr (8, [.ref q1, .ref q2, .int 0, .int 0, .int 0, .int 0]))]) (w1 := [(q5, .inr (3, [.int 0, .int 0, .int 0, .int 0, .int 0, .int 0, .int 0, .int 0, .int 0, .int 0]))]) hP hD hk1 hFc hP1 hD1
  have hP : va_P (dC, dI) vwCl [(q5, .inr (3, [.int 0, .int 0, .int 0, .int 0, .int 0, .int 0, .int 0, .int 0, .int 0, .int 0])), (q4, .inr (3, [.int 0, .int 0, .int 0, .int 0, .int 0, .int 0, .int 0, .int 0, .int 0, .int 0])), (q3, .inr (3, [.int 0, .int 0, .int 0, .int 0, .int 0, .int 0, .int 0, .int 0, .int 0, .int 0])), (q2, .inl (cs 5, 4, .inr (.inr (.inr (.inr (va_up (va_up (fun _ => none) 0 (some q3)) 1 (some q4))))))), (q1, .inl (cs 0, 7, .inl (fun _ => 0))), (h0, .inr (8, [.ref q1, .ref q2, .int 0, .int 0, .int 0, .int 0]))] H_3 := hP
  have hD : va_D (A0_ci_Standing h0 s.heap.size) [(q5, .inr (3, [.int 0, .int 0, .int 0, .int 0, .int 0, .int 0, .int 0, .int 0, .int 0, .int 0])), (q4, .inr (3, [.int 0, .int 0, .int 0, .int 0, .int 0, .int 0, .int 0, .int 0, .int 0, .int 0])), (q3, .inr (3, [.int 0, .int 0, .int 0, .int 0, .int 0, .int 0, .int 0, .int 0, .int 0, .int 0])), (q2, .inl (cs 5, 4, .inr (.inr (.inr (.inr (va_up (va_up (fun _ => none) 0 (some q3)) 1 (some q4))))))), (q1, .inl (cs 0, 7, .inl (fun _ => 0))), (h0, .inr (8, [.ref q1, .ref q2, .int 0, .int 0, .int 0, .int 0]))] := hD
  refine W.widen (k := 5) (n := 41) (Nat.le_of_ble_eq_true rfl) (Nat.le_of_ble_eq_true rfl) ?_
  refine va_astq (r := (RX3, TX3, 10)) hx hb hK hP hD hS 3 5 0 3 rfl rfl rfl rfl (show vp_in 2 4 by unfold vp_in; decide) dX8_init_39 (fun H locs hP hD hS => ?_)
  have hPD : PDw (dC, dI) vwCl (A0_ci_Standing h0 s.heap.size) H [(q5, .inr (3, [.int 0, .int 0, .int 0, .int 0, .int 0, .int 0, .int 0, .int 0, .int 0, .int 0])), (q4, .inr (3, [.int 0, .int 0, .int 0, .int 0, .int 0, .int 0, .int 0, .int 0, .int 0, .int 0])), (q3, .inr (3, [.int 0, .int 0, .int 0, .int 0, .int 0, .int 0, .int 0, .int 0, .int 0, .int 0])), (q2, .inl (cs 5, 4, .inr (.inr (.inr (.inr (va_up (va_up (va_up (fun _ => none) 0 (some q3)) 1 (some q4)) 2 (some q5))))))), (q1, .inl (cs 0, 7, .inl (fun _ => 0))), (h0, .inr (8, [.ref q1, .ref q2, .int 0, .int 0, .int 0, .int 0]))] := ⟨hP, hD⟩
  have hP := hPD.1
  have hD := hPD.2
  refine lv_iinc (v := 3) (lv' := [(1, .int 3), (0, .ref h0)]) hx hb dX8_init_40 hl (k := 0) rfl (by decide) (by decide) rfl (fun ls hl => ?_)
  refine lv_goto (tgt := 22) hx hb dX8_init_43 (by decide) ?_
  refine lv_iload_n hx hb dX8_init_22 rfl (lv_at hl 0 rfl) ?_
  refine lv_iconst (v := 4) hx hb dX8_init_23 (by decide) ?_
  refine lv_icmp_ge (tgt := 46) hx hb dX8_init_24 (by decide) (fun c => absurd c (by decide)) (fun _ => ?_)
  refine lv_aload_n hx hb dX8_init_27 rfl (lv_at hl 1 rfl) ?_
  refine va_get (D := (dC, dI)) (ci := 8) (v := .ref q2) (C := RX8) (T := TX8) (N := 6) hx hb hts inG8 hown hK hP 5 rfl rfl 1 (by decide) (hts _ (List.mem_cons_of_mem _ mw_1_109)) (fun _ h9 => h9) rfl dX8_init_28 ?_
  refine lv_iload_n hx hb dX8_init_31 rfl (lv_at hl 0 rfl) ?_
  refine va_new (ci := 3) (fs := [.int 0, .int 0, .int 0, .int 0, .int 0, .int 0, .int 0, .int 0, .int 0, .int 0]) (C := RX3) (T := TX3) (N := 10) hx hb hts inG3 tyX3 tyX3_ok hown (hts _ (List.mem_cons_of_mem _ mw_1_44)) (hts _ (List.mem_cons_of_mem _ mw_1_46)) (hts _ (List.mem_cons_of_mem _ mw_1_4)) hK hP hD hS hA rfl (fun j hj => match j, hj with | 0, _ => rfl | 1, _ => rfl | 2, _ => rfl | 3, _ => rfl | 4, _ => rfl | 5, _ => rfl | 6, _ => rfl | 7, _ => rfl | 8, _ => rfl | 9, _ => rfl | _ + 10, hj => absurd hj (by omega)) (Nat.le_of_ble_eq_true rfl) (Nat.le_of_ble_eq_true rfl) dX8_init_32 (fun q6 H hP hD hS => ?_)
  have hPD : PDw (dC, dI) vwCl (A0_ci_Standing h0 s.heap.size) H [(q6, .inr (3, [.int 0, .int 0, .int 0, .int 0, .int 0, .int 0, .int 0, .int 0, .int 0, .int 0])), (q5, .inr (3, [.int 0, .int 0, .int 0, .int 0, .int 0, .int 0, .int 0, .int 0, .int 0, .int 0])), (q4, .inr (3, [.int 0, .int 0, .int 0, .int 0, .int 0, .int 0, .int 0, .int 0, .int 0, .int 0])), (q3, .inr (3, [.int 0, .int 0, .int 0, .int 0, .int 0, .int 0, .int 0, .int 0, .int 0, .int 0])), (q2, .inl (cs 5, 4, .inr (.inr (.inr (.inr (va_up (va_up (va_up (fun _ => none) 0 (some q3)) 1 (some q4)) 2 (some q5))))))), (q1, .inl (cs 0, 7, .inl (fun _ => 0))), (h0, .inr (8, [.ref q1, .ref q2, .int 0, .int 0, .int 0, .int 0]))] := ⟨pm_P (pm_last [(q5, .inr (3, [.int 0, .int 0, .int 0, .int 0, .int 0, .int 0, .int 0, .int 0, .int 0, .int 0])), (q4, .inr (3, [.int 0, .int 0, .int 0, .int 0, .int 0, .int 0, .int 0, .int 0, .int 0, .int 0])), (q3, .inr (3, [.int 0, .int 0, .int 0, .int 0, .int 0, .int 0, .int 0, .int 0, .int 0, .int 0])), (q2, .inl (cs 5, 4, .inr (.inr (.inr (.inr (va_up (va_up (va_up (fun _ => none) 0 (some q3)) 1 (some q4)) 2 (some q5))))))), (q1, .inl (cs 0, 7, .inl (fun _ => 0))), (h0, .inr (8, [.ref q1, .ref q2, .int 0, .int 0, .int 0, .int 0]))] (q6, .inr (3, [.int 0, .int 0, .int 0, .int 0, .int 0, .int 0, .int 0, .int 0, .int 0, .int 0]))) hP, pm_D (pm_last [(q5, .inr (3, [.int 0, .int 0, .int 0, .int 0, .int 0, .int 0, .int 0, .int 0, .int 0, .int 0])), (q4, .inr (3, [.int 0, .int 0, .int 0, .int 0, .int 0, .int 0, .int 0, .int 0, .int 0, .int 0])), (q3, .inr (3, [.int 0, .int 0, .int 0, .int 0, .int 0, .int 0, .int 0, .int 0, .int 0, .int 0])), (q2, .inl (cs 5, 4, .inr (.inr (.inr (.inr (va_up (va_up (va_up (fun _ => none) 0 (some q3)) 1 (some q4)) 2 (some q5))))))), (q1, .inl (cs 0, 7, .inl (fun _ => 0))), (h0, .inr (8, [.ref q1, .ref q2, .int 0, .int 0, .int 0, .int 0]))] (q6, .inr (3, [.int 0, .int 0, .int 0, .int 0, .int 0, .int 0, .int 0, .int 0, .int 0, .int 0]))) hD⟩
  have hP := hPD.1
  have hD := hPD.2
  refine W.widen (k := 6) (n := 51) (Nat.le_of_ble_eq_true rfl) (Nat.le_of_ble_eq_true rfl) ?_
  refine lv_dup hx hb dX8_init_35 rfl ?_
  have hFc := va_free (wc := [(q6, .inr (3, [.int 0, .int 0, .int 0, .int 0, .int 0, .int 0, .int 0, .int 0, .int 0, .int 0]))]) hD hS hA [0] rfl
  refine va_callv (va_runIN (As := []) (rest := [.ref q6, .int 3, .ref q2]) ⟨hx, hb, hml, hown, hts⟩ (ci_Letter l dC dI cs H q6 (hP.sub (ws' := [(q6, .inr (3, [.int 0, .int 0, .int 0, .int 0, .int 0, .int 0, .int 0, .int 0, .int 0, .int 0]))]) [0] rfl) ((hD.sub (ws' := [(q6, .inr (3, [.int 0, .int 0, .int 0, .int 0, .int 0, .int 0, .int 0, .int 0, .int 0, .int 0]))]) [0] (by decide) rfl).weaken (fun _ _ _ _ => trivial))) ⟨va_cnB 0 hts (wU_in mw_1_49) rfl rfl rfl (hq.2.2.2.2.2.2.2.2.1) (hts _ (List.mem_cons_of_mem _ mw_1_4)) (by decide +kernel) ⟨Nat.le_of_ble_eq_true rfl, Nat.le_of_ble_eq_true rfl⟩, rfl, (hts _ (List.mem_cons_of_mem _ mw_1_48))⟩ ⟨kb_c, kb_m hK hq⟩ rfl rfl hl.1 rfl (lv_room (Nat.le_of_ble_eq_true rfl)) dX8_init_36 ⟨Nat.le_of_ble_eq_true rfl, Nat.le_of_ble_eq_true rfl⟩) hS (fun q _ h => hFc q h) hFc (fun u t H_4 locs ht hvm hw hB hz1 hk1 hS => ?_)
  obtain ⟨hP1, hD1⟩ := hB
  rw [ht] at hP1
  obtain ⟨hP, hD⟩ := jn_front (wc := [(q6, .inr (3, [.int 0, .int 0, .int 0, .int 0, .int 0, .int 0, .int 0, .int 0, .int 0, .int 0]))]) (wr := [(q5, .inr (3, [.int 0, .int 0, .int 0, .int 0, .int 0, .int 0, .int 0, .int 0, .int 0, .int 0])), (q4, .inr (3, [.int 0, .int 0, .int 0, .int 0, .int 0, .int 0, .int 0, .int 0, .int 0, .int 0])), (q3, .inr (3, [.int 0, .int 0, .int 0, .int 0, .int 0, .int 0, .int 0, .int 0, .int 0, .int 0])), (q2, .inl (cs 5, 4, .inr (.inr (.inr (.inr (va_up (va_up (va_up (fun _ => none) 0 (some q3)) 1 (some q4)) 2 (some q5))))))), (q1, .inl (cs 0, 7, .inl (fun _ => 0))), (h0, .inr (8, [.ref q1, .ref q2, .int 0, .int 0, .int 0, .int 0]))]) (w1 := [(q6, .inr (3, [.int 0, .int 0, .int 0, .int 0, .int 0, .int 0, .int 0, .int 0, .int 0, .int 0]))]) hP hD hk1 hFc hP1 hD1
  have hP : va_P (dC, dI) vwCl [(q6, .inr (3, [.int 0, .int 0, .int 0, .int 0, .int 0, .int 0, .int 0, .int 0, .int 0, .int 0])), (q5, .inr (3, [.int 0, .int 0, .int 0, .int 0, .int 0, .int 0, .int 0, .int 0, .int 0, .int 0])), (q4, .inr (3, [.int 0, .int 0, .int 0, .int 0, .int 0, .int 0, .int 0, .int 0, .int 0, .int 0])), (q3, .inr (3, [.int 0, .int 0, .int 0, .int 0, .int 0, .int 0, .int 0, .int 0, .int 0, .int 0])), (q2, .inl (cs 5, 4, .inr (.inr (.inr (.inr (va_up (va_up (va_up (fun _ => none) 0 (some q3)) 1 (some q4)) 2 (some q5))))))), (q1, .inl (cs 0, 7, .inl (fun _ => 0))), (h0, .inr (8, [.ref q1, .ref q2, .int 0, .int 0, .int 0, .int 0]))] H_4 := hP
  have hD : va_D (A0_ci_Standing h0 s.heap.size) [(q6, .inr (3, [.int 0, .int 0, .int 0, .int 0, .int 0, .int 0, .int 0, .int 0, .int 0, .int 0])), (q5, .inr (3, [.int 0, .int 0, .int 0, .int 0, .int 0, .int 0, .int 0, .int 0, .int 0, .int 0])), (q4, .inr (3, [.int 0, .int 0, .int 0, .int 0, .int 0, .int 0, .int 0, .int 0, .int 0, .int 0])), (q3, .inr (3, [.int 0, .int 0, .int 0, .int 0, .int 0, .int 0, .int 0, .int 0, .int 0, .int 0])), (q2, .inl (cs 5, 4, .inr (.inr (.inr (.inr (va_up (va_up (va_up (fun _ => none) 0 (some q3)) 1 (some q4)) 2 (some q5))))))), (q1, .inl (cs 0, 7, .inl (fun _ => 0))), (h0, .inr (8, [.ref q1, .ref q2, .int 0, .int 0, .int 0, .int 0]))] := hD
  refine W.widen (k := 6) (n := 51) (Nat.le_of_ble_eq_true rfl) (Nat.le_of_ble_eq_true rfl) ?_
  refine va_astq (r := (RX3, TX3, 10)) hx hb hK hP hD hS 4 5 0 3 rfl rfl rfl rfl (show vp_in 3 4 by unfold vp_in; decide) dX8_init_39 (fun H locs hP hD hS => ?_)
  have hPD : PDw (dC, dI) vwCl (A0_ci_Standing h0 s.heap.size) H [(q6, .inr (3, [.int 0, .int 0, .int 0, .int 0, .int 0, .int 0, .int 0, .int 0, .int 0, .int 0])), (q5, .inr (3, [.int 0, .int 0, .int 0, .int 0, .int 0, .int 0, .int 0, .int 0, .int 0, .int 0])), (q4, .inr (3, [.int 0, .int 0, .int 0, .int 0, .int 0, .int 0, .int 0, .int 0, .int 0, .int 0])), (q3, .inr (3, [.int 0, .int 0, .int 0, .int 0, .int 0, .int 0, .int 0, .int 0, .int 0, .int 0])), (q2, .inl (cs 5, 4, .inr (.inr (.inr (.inr (va_up (va_up (va_up (va_up (fun _ => none) 0 (some q3)) 1 (some q4)) 2 (some q5)) 3 (some q6))))))), (q1, .inl (cs 0, 7, .inl (fun _ => 0))), (h0, .inr (8, [.ref q1, .ref q2, .int 0, .int 0, .int 0, .int 0]))] := ⟨hP, hD⟩
  have hP := hPD.1
  have hD := hPD.2
  refine lv_iinc (v := 4) (lv' := [(1, .int 4), (0, .ref h0)]) hx hb dX8_init_40 hl (k := 0) rfl (by decide) (by decide) rfl (fun ls hl => ?_)
  refine lv_goto (tgt := 22) hx hb dX8_init_43 (by decide) ?_
  refine lv_iload_n hx hb dX8_init_22 rfl (lv_at hl 0 rfl) ?_
  refine lv_iconst (v := 4) hx hb dX8_init_23 (by decide) ?_
  refine lv_icmp_ge (tgt := 46) hx hb dX8_init_24 (by decide) (fun _ => ?_) (fun c => absurd (by decide) c)
  exact W.vret hx hb hr (fun t ht hW => ⟨⟨(), rfl, trivial, q1, q2, q3, q4, q5, q6, by first | (subst ht; exact hP) | (rw [ht]; exact hP), hD⟩, hS.F ht⟩) hS.2.2 dX8_init_46
abbrev A0_ci_Town (h0 n : Nat) : Nat → Prop := va_A [(h0, .inr (10, [.null, .null, .null, .null, .null, .null, .int 0, .int 0]))] n
set_option maxHeartbeats 4000000 in
set_option maxRecDepth 100000 in
/-- the Town -/
theorem ci_Town (l : Launch) (dC : Nat → ClassId) (dI : Nat → Nat → Nat) (cs : Nat → ClassId) (H : Heap) (h0 : Nat) (hP : va_P (dC, dI) vwCl [(h0, .inr (10, [.null, .null, .null, .null, .null, .null, .int 0, .int 0]))] H) (hD0 : va_D (fun _ => True) [(h0, .inr (10, [.null, .null, .null, .null, .null, .null, .int 0, .int 0]))]) : Met l yX10_init (wU yX10_init cX10_init 1 none) ({ frames := 3, cells := 12, slots := 102, locals := 55 }) (va_Pc [.ref h0] (kb_P (dC, dI) vwCl (tyW cs) H)) (va_Qv (fun (_ : Unit) => True) (fun _ t => ∃ q1 : Nat, ∃ q2 : Nat, ∃ q3 : Nat, ∃ q4 : Nat, ∃ q5 : Nat, ∃ q6 : Nat, ∃ q7 : Nat, ∃ q8 : Nat, ∃ q9 : Nat, ∃ q10 : Nat, ∃ q11 : Nat, ∃ q12 : Nat, va_P (dC, dI) vwCl [(q12, .inl (cs 0, 7, .inl (fun _ => 0))), (q11, .inl (cs 0, 7, .inl (fun _ => 0))), (q10, .inr (3, [.int 0, .int 0, .int 0, .int 0, .int 0, .int 0, .int 0, .int 0, .int 0, .int 0])), (q9, .inr (3, [.int 0, .int 0, .int 0, .int 0, .int 0, .int 0, .int 0, .int 0, .int 0, .int 0])), (q8, .inr (3, [.int 0, .int 0, .int 0, .int 0, .int 0, .int 0, .int 0, .int 0, .int 0, .int 0])), (q7, .inr (3, [.int 0, .int 0, .int 0, .int 0, .int 0, .int 0, .int 0, .int 0, .int 0, .int 0])), (q6, .inl (cs 5, 4, .inr (.inr (.inr (.inr (va_up (va_up (va_up (va_up (fun _ => none) 0 (some q7)) 1 (some q8)) 2 (some q9)) 3 (some q10))))))), (q5, .inl (cs 0, 7, .inl (fun _ => 0))), (q4, .inr (8, [.ref q5, .ref q6, .int 0, .int 0, .int 0, .int 0])), (q3, .inl (cs 0, 12, .inl (fun _ => 0))), (q2, .inl (cs 0, 12, .inl (fun _ => 0))), (q1, .inl (cs 0, 7, .inl (fun _ => 0))), (h0, .inr (10, [.ref q1, .ref q2, .ref q3, .ref q4, .ref q11, .ref q12, .int 0, .int 0]))] t.heap ∧ va_D (va_A [(h0, .inr (10, [.null, .null, .null, .null, .null, .null, .int 0, .int 0]))] H.size) [(q12, .inl (cs 0, 7, .inl (fun _ => 0))), (q11, .inl (cs 0, 7, .inl (fun _ => 0))), (q10, .inr (3, [.int 0, .int 0, .int 0, .int 0, .int 0, .int 0, .int 0, .int 0, .int 0, .int 0])), (q9, .inr (3, [.int 0, .int 0, .int 0, .int 0, .int 0, .int 0, .int 0, .int 0, .int 0, .int 0])), (q8, .inr (3, [.int 0, .int 0, .int 0, .int 0, .int 0, .int 0, .int 0, .int 0, .int 0, .int 0])), (q7, .inr (3, [.int 0, .int 0, .int 0, .int 0, .int 0, .int 0, .int 0, .int 0, .int 0, .int 0])), (q6, .inl (cs 5, 4, .inr (.inr (.inr (.inr (va_up (va_up (va_up (va_up (fun _ => none) 0 (some q7)) 1 (some q8)) 2 (some q9)) 3 (some q10))))))), (q5, .inl (cs 0, 7, .inl (fun _ => 0))), (q4, .inr (8, [.ref q5, .ref q6, .int 0, .int 0, .int 0, .int 0])), (q3, .inl (cs 0, 12, .inl (fun _ => 0))), (q2, .inl (cs 0, 12, .inl (fun _ => 0))), (q1, .inl (cs 0, 7, .inl (fun _ => 0))), (h0, .inr (10, [.ref q1, .ref q2, .ref q3, .ref q4, .ref q11, .ref q12, .int 0, .int 0]))]) (va_A [(h0, .inr (10, [.null, .null, .null, .null, .null, .null, .int 0, .int 0]))] H.size)) 12 102 (va_A [(h0, .inr (10, [.null, .null, .null, .null, .null, .null, .int 0, .int 0]))] H.size) := by
  refine Met.ofW (cc := cX10_init) (maxL := 1) (ret := none) (by decide) rfl ?_
  intro p e s m args below meth c s₁ B hml hv
  obtain ⟨rfl, hh, hK, hq⟩ := hv
  have hx := B.exec
  have hb := B.bytes
  have hr := B.returns
  have hts := atoms_spec (ws := (wU yX10_init cX10_init 1 none)) B.pre
  have hown : s.vm.findClass RX10 = some m.cls := findClass_of_methodNamed B.named
  have hlocks := B.notSynchronized
  have hin : meth.name = "<init>" := (name_of_methodNamed B.named B.method).1
  subst hh
  have hD := hD0.self (sz := s.heap.size)
  have hA : ∀ q : Nat, s.heap.size ≤ q → (A0_ci_Town h0 s.heap.size) q := fun q h => Or.inr h
  have hS : va_S (A0_ci_Town h0 s.heap.size) s.heap s.heap [] := va_S.rf
  have hl := lv_entry ([.ref h0]) (n := 1) (Nat.le_of_ble_eq_true rfl)
  rw [lg_entry_eq]
  generalize (lg_sl ([.ref h0]) ++ List.replicate (1 - (lg_sl ([.ref h0])).length) Slot.unset).toArray = ls at hl ⊢
  have hl : lv_has ls 1 [(0, .ref h0)] := hl
  refine lv_aload_n hx hb dX10_init_0 rfl (lv_at hl 0 rfl) ?_
  refine W.objInit hx hb hown (hts _ (List.mem_cons_of_mem _ mw_1_37)) (hts _ (List.mem_cons_of_mem _ mw_1_24)) (hts _ (List.mem_cons_of_mem _ mw_1_25)) rfl (by rw [hml]; exact hl.1) rfl dX10_init_1 (Nat.le_of_ble_eq_true rfl) (Nat.le_of_ble_eq_true rfl) ?_
  refine W.eq (g2 := F0 m 4 ls []) rfl ?_
  refine lv_aload_n hx hb dX10_init_4 rfl (lv_at hl 0 rfl) ?_
  refine lv_bipush (v := 7) hx hb dX10_init_5 (by decide) ?_
  refine va_newa (atype := .int) (a0 := (7, .inl (fun _ => 0))) hx hb (hts _ (List.mem_cons_of_mem _ mw_1_102)) rfl hK hP hD hS hA (fun cA => rfl) (by decide) rfl (by decide) (Nat.le_of_ble_eq_true rfl) (Nat.le_of_ble_eq_true rfl) dX10_init_7 (fun q1 c1 H hK1 hP hD hS => ?_)
  obtain rfl : c1 = cs 0 := cA_eq 0 7 hK1 rfl rfl
  have hPD : PDw (dC, dI) vwCl (A0_ci_Town h0 s.heap.size) H [(q1, .inl (cs 0, 7, .inl (fun _ => 0))), (h0, .inr (10, [.null, .null, .null, .null, .null, .null, .int 0, .int 0]))] := ⟨pm_P (pm_last [(h0, .inr (10, [.null, .null, .null, .null, .null, .null, .int 0, .int 0]))] (q1, .inl (cs 0, 7, .inl (fun _ => 0)))) hP, pm_D (pm_last [(h0, .inr (10, [.null, .null, .null, .null, .null, .null, .int 0, .int 0]))] (q1, .inl (cs 0, 7, .inl (fun _ => 0)))) hD⟩
  have hP := hPD.1
  have hD := hPD.2
  refine W.widen (k := 1) (n := 7) (Nat.le_of_ble_eq_true rfl) (Nat.le_of_ble_eq_true rfl) ?_
  refine va_putF (D := (dC, dI)) (ci := 10) (v := .ref q1) (ty := (.array .int)) (C := RX10) (T := TX10) (N := 8) hx hb hts inG10 tyX10 tyX10_ok nmX10 hown hK hP hD hS 1 rfl rfl 0 (by decide) (hts _ (List.mem_cons_of_mem _ mw_1_143)) (fun _ h9 => h9) rfl hin rfl (by decide +kernel) (by first | rfl | decide) (by first | rfl | decide) (Nat.le_of_ble_eq_true rfl) dX10_init_9 (fun H locs hP hD hS => ?_)
  have hPD : PDw (dC, dI) vwCl (A0_ci_Town h0 s.heap.size) H [(q1, .inl (cs 0, 7, .inl (fun _ => 0))), (h0, .inr (10, [.ref q1, .null, .null, .null, .null, .null, .int 0, .int 0]))] := ⟨hP, hD⟩
  have hP := hPD.1
  have hD := hPD.2
  refine lv_aload_n hx hb dX10_init_12 rfl (lv_at hl 0 rfl) ?_
  refine lv_bipush (v := 12) hx hb dX10_init_13 (by decide) ?_
  refine va_newa (atype := .int) (a0 := (12, .inl (fun _ => 0))) hx hb (hts _ (List.mem_cons_of_mem _ mw_1_102)) rfl hK hP hD hS hA (fun cA => rfl) (by decide) rfl (by decide) (Nat.le_of_ble_eq_true rfl) (Nat.le_of_ble_eq_true rfl) dX10_init_15 (fun q2 c2 H hK1 hP hD hS => ?_)
  obtain rfl : c2 = cs 0 := cA_eq 0 7 hK1 rfl rfl
  have hPD : PDw (dC, dI) vwCl (A0_ci_Town h0 s.heap.size) H [(q2, .inl (cs 0, 12, .inl (fun _ => 0))), (q1, .inl (cs 0, 7, .inl (fun _ => 0))), (h0, .inr (10, [.ref q1, .null, .null, .null, .null, .null, .int 0, .int 0]))] := ⟨pm_P (pm_last [(q1, .inl (cs 0, 7, .inl (fun _ => 0))), (h0, .inr (10, [.ref q1, .null, .null, .null, .null, .null, .int 0, .int 0]))] (q2, .inl (cs 0, 12, .inl (fun _ => 0)))) hP, pm_D (pm_last [(q1, .inl (cs 0, 7, .inl (fun _ => 0))), (h0, .inr (10, [.ref q1, .null, .null, .null, .null, .null, .int 0, .int 0]))] (q2, .inl (cs 0, 12, .inl (fun _ => 0)))) hD⟩
  have hP := hPD.1
  have hD := hPD.2
  refine W.widen (k := 2) (n := 19) (Nat.le_of_ble_eq_true rfl) (Nat.le_of_ble_eq_true rfl) ?_
  refine va_putF (D := (dC, dI)) (ci := 10) (v := .ref q2) (ty := (.array .int)) (C := RX10) (T := TX10) (N := 8) hx hb hts inG10 tyX10 tyX10_ok nmX10 hown hK hP hD hS 2 rfl rfl 1 (by decide) (hts _ (List.mem_cons_of_mem _ mw_1_148)) (fun _ h9 => h9) rfl hin rfl (by decide +kernel) (by first | rfl | decide) (by first | rfl | decide) (Nat.le_of_ble_eq_true rfl) dX10_init_17 (fun H locs hP hD hS => ?_)
  have hPD : PDw (dC, dI) vwCl (A0_ci_Town h0 s.heap.size) H [(q2, .inl (cs 0, 12, .inl (fun _ => 0))), (q1, .inl (cs 0, 7, .inl (fun _ => 0))), (h0, .inr (10, [.ref q1, .ref q2, .null, .null, .null, .null, .int 0, .int 0]))] := ⟨hP, hD⟩
  have hP := hPD.1
  have hD := hPD.2
  refine lv_aload_n hx hb dX10_init_20 rfl (lv_at hl 0 rfl) ?_
  refine lv_bipush (v := 12) hx hb dX10_init_21 (by decide) ?_
  refine va_newa (atype := .int) (a0 := (12, .inl (fun _ => 0))) hx hb (hts _ (List.mem_cons_of_mem _ mw_1_102)) rfl hK hP hD hS hA (fun cA => rfl) (by decide) rfl (by decide) (Nat.le_of_ble_eq_true rfl) (Nat.le_of_ble_eq_true rfl) dX10_init_23 (fun q3 c3 H hK1 hP hD hS => ?_)
  obtain rfl : c3 = cs 0 := cA_eq 0 7 hK1 rfl rfl
  have hPD : PDw (dC, dI) vwCl (A0_ci_Town h0 s.heap.size) H [(q3, .inl (cs 0, 12, .inl (fun _ => 0))), (q2, .inl (cs 0, 12, .inl (fun _ => 0))), (q1, .inl (cs 0, 7, .inl (fun _ => 0))), (h0, .inr (10, [.ref q1, .ref q2, .null, .null, .null, .null, .int 0, .int 0]))] := ⟨pm_P (pm_last [(q2, .inl (cs 0, 12, .inl (fun _ => 0))), (q1, .inl (cs 0, 7, .inl (fun _ => 0))), (h0, .inr (10, [.ref q1, .ref q2, .null, .null, .null, .null, .int 0, .int 0]))] (q3, .inl (cs 0, 12, .inl (fun _ => 0)))) hP, pm_D (pm_last [(q2, .inl (cs 0, 12, .inl (fun _ => 0))), (q1, .inl (cs 0, 7, .inl (fun _ => 0))), (h0, .inr (10, [.ref q1, .ref q2, .null, .null, .null, .null, .int 0, .int 0]))] (q3, .inl (cs 0, 12, .inl (fun _ => 0)))) hD⟩
  have hP := hPD.1
  have hD := hPD.2
  refine W.widen (k := 3) (n := 31) (Nat.le_of_ble_eq_true rfl) (Nat.le_of_ble_eq_true rfl) ?_
  refine va_putF (D := (dC, dI)) (ci := 10) (v := .ref q3) (ty := (.array .int)) (C := RX10) (T := TX10) (N := 8) hx hb hts inG10 tyX10 tyX10_ok nmX10 hown hK hP hD hS 3 rfl rfl 2 (by decide) (hts _ (List.mem_cons_of_mem _ mw_1_150)) (fun _ h9 => h9) rfl hin rfl (by decide +kernel) (by first | rfl | decide) (by first | rfl | decide) (Nat.le_of_ble_eq_true rfl) dX10_init_25 (fun H locs hP hD hS => ?_)
  have hPD : PDw (dC, dI) vwCl (A0_ci_Town h0 s.heap.size) H [(q3, .inl (cs 0, 12, .inl (fun _ => 0))), (q2, .inl (cs 0, 12, .inl (fun _ => 0))), (q1, .inl (cs 0, 7, .inl (fun _ => 0))), (h0, .inr (10, [.ref q1, .ref q2, .ref q3, .null, .null, .null, .int 0, .int 0]))] := ⟨hP, hD⟩
  have hP := hPD.1
  have hD := hPD.2
  refine lv_aload_n hx hb dX10_init_28 rfl (lv_at hl 0 rfl) ?_
  refine va_new (ci := 8) (fs := [.null, .null, .int 0, .int 0, .int 0, .int 0]) (C := RX8) (T := TX8) (N := 6) hx hb hts inG8 tyX8 tyX8_ok hown (hts _ (List.mem_cons_of_mem _ mw_1_38)) (hts _ (List.mem_cons_of_mem _ mw_1_39)) (hts _ (List.mem_cons_of_mem _ mw_1_3)) hK hP hD hS hA rfl (fun j hj => match j, hj with | 0, _ => rfl | 1, _ => rfl | 2, _ => rfl | 3, _ => rfl | 4, _ => rfl | 5, _ => rfl | _ + 6, hj => absurd hj (by omega)) (Nat.le_of_ble_eq_true rfl) (Nat.le_of_ble_eq_true rfl) dX10_init_29 (fun q4 H hP hD hS => ?_)
  have hPD : PDw (dC, dI) vwCl (A0_ci_Town h0 s.heap.size) H [(q4, .inr (8, [.null, .null, .int 0, .int 0, .int 0, .int 0])), (q3, .inl (cs 0, 12, .inl (fun _ => 0))), (q2, .inl (cs 0, 12, .inl (fun _ => 0))), (q1, .inl (cs 0, 7, .inl (fun _ => 0))), (h0, .inr (10, [.ref q1, .ref q2, .ref q3, .null, .null, .null, .int 0, .int 0]))] := ⟨pm_P (pm_last [(q3, .inl (cs 0, 12, .inl (fun _ => 0))), (q2, .inl (cs 0, 12, .inl (fun _ => 0))), (q1, .inl (cs 0, 7, .inl (fun _ => 0))), (h0, .inr (10, [.ref q1, .ref q2, .ref q3, .null, .null, .null, .int 0, .int 0]))] (q4, .inr (8, [.null, .null, .int 0, .int 0, .int 0, .int 0]))) hP, pm_D (pm_last [(q3, .inl (cs 0, 12, .inl (fun _ => 0))), (q2, .inl (cs 0, 12, .inl (fun _ => 0))), (q1, .inl (cs 0, 7, .inl (fun _ => 0))), (h0, .inr (10, [.ref q1, .ref q2, .ref q3, .null, .null, .null, .int 0, .int 0]))] (q4, .inr (8, [.null, .null, .int 0, .int 0, .int 0, .int 0]))) hD⟩
  have hP := hPD.1
  have hD := hPD.2
  refine W.widen (k := 4) (n := 37) (Nat.le_of_ble_eq_true rfl) (Nat.le_of_ble_eq_true rfl) ?_
  refine lv_dup hx hb dX10_init_32 rfl ?_
  have hFc := va_free (wc := [(q4, .inr (8, [.null, .null, .int 0, .int 0, .int 0, .int 0]))]) hD hS hA [0] rfl
  refine va_callv (va_runI (As := []) (rest := [.ref q4, .ref h0]) ⟨hx, hb, hml, hown, hts⟩ (ci_Standing l dC dI cs H q4 (hP.sub (ws' := [(q4, .inr (8, [.null, .null, .int 0, .int 0, .int 0, .int 0]))]) [0] rfl) ((hD.sub (ws' := [(q4, .inr (8, [.null, .null, .int 0, .int 0, .int 0, .int 0]))]) [0] (by decide) rfl).weaken (fun _ _ _ _ => trivial))) (cwI 0 hts (wU_in mw_1_42) rfl rfl rfl (hts _ (List.mem_cons_of_mem _ mw_1_3)) (hts _ (List.mem_cons_of_mem _ mw_1_40)) (hts _ (List.mem_cons_of_mem _ mw_1_41)) rfl (by decide +kernel) ⟨Nat.le_of_ble_eq_true rfl, Nat.le_of_ble_eq_true rfl⟩) ⟨kb_c, kb_m hK hq⟩ rfl rfl hl.1 rfl (lv_room (Nat.le_of_ble_eq_true rfl)) dX10_init_33 ⟨Nat.le_of_ble_eq_true rfl, Nat.le_of_ble_eq_true rfl⟩) hS (fun q _ h => hFc q h) hFc (fun u t H_1 locs ht hvm hw hB hz1 hk1 hS => ?_)
  obtain ⟨q5, q6, q7, q8, q9, q10, hP1, hD1⟩ := hB
  rw [ht] at hP1
  obtain ⟨hP, hD⟩ := jn_front (wc := [(q4, .inr (8, [.null, .null, .int 0, .int 0, .int 0, .int 0]))]) (wr := [(q3, .inl (cs 0, 12, .inl (fun _ => 0))), (q2, .inl (cs 0, 12, .inl (fun _ => 0))), (q1, .inl (cs 0, 7, .inl (fun _ => 0))), (h0, .inr (10, [.ref q1, .ref q2, .ref q3, .null, .null, .null, .int 0, .int 0]))]) (w1 := [(q10, .inr (3, [.int 0, .int 0, .int 0, .int 0, .int 0, .int 0, .int 0, .int 0, .int 0, .int 0])), (q9, .inr (3, [.int 0, .int 0, .int 0, .int 0, .int 0, .int 0, .int 0, .int 0, .int 0, .int 0])), (q8, .inr (3, [.int 0, .int 0, .int 0, .int 0, .int 0, .int 0, .int 0, .int 0, .int 0, .int 0])), (q7, .inr (3, [.int 0, .int 0, .int 0, .int 0, .int 0, .int 0, .int 0, .int 0, .int 0, .int 0])), (q6, .inl (cs 5, 4, .inr (.inr (.inr (.inr (va_up (va_up (va_up (va_up (fun _ => none) 0 (some q7)) 1 (some q8)) 2 (some q9)) 3 (some q10))))))), (q5, .inl (cs 0, 7, .inl (fun _ => 0))), (q4, .inr (8, [.ref q5, .ref q6, .int 0, .int 0, .int 0, .int 0]))]) hP hD hk1 hFc hP1 hD1
  have hP : va_P (dC, dI) vwCl [(q10, .inr (3, [.int 0, .int 0, .int 0, .int 0, .int 0, .int 0, .int 0, .int 0, .int 0, .int 0])), (q9, .inr (3, [.int 0, .int 0, .int 0, .int 0, .int 0, .int 0, .int 0, .int 0, .int 0, .int 0])), (q8, .inr (3, [.int 0, .int 0, .int 0, .int 0, .int 0, .int 0, .int 0, .int 0, .int 0, .int 0])), (q7, .inr (3, [.int 0, .int 0, .int 0, .int 0, .int 0, .int 0, .int 0, .int 0, .int 0, .int 0])), (q6, .inl (cs 5, 4, .inr (.inr (.inr (.inr (va_up (va_up (va_up (va_up (fun _ => none) 0 (some q7)) 1 (some q8)) 2 (some q9)) 3 (some q10))))))), (q5, .inl (cs 0, 7, .inl (fun _ => 0))), (q4, .inr (8, [.ref q5, .ref q6, .int 0, .int 0, .int 0, .int 0])), (q3, .inl (cs 0, 12, .inl (fun _ => 0))), (q2, .inl (cs 0, 12, .inl (fun _ => 0))), (q1, .inl (cs 0, 7, .inl (fun _ => 0))), (h0, .inr (10, [.ref q1, .ref q2, .ref q3, .null, .null, .null, .int 0, .int 0]))] H_1 := hP
  have hD : va_D (A0_ci_Town h0 s.heap.size) [(q10, .inr (3, [.int 0, .int 0, .int 0, .int 0, .int 0, .int 0, .int 0, .int 0, .int 0, .int 0])), (q9, .inr (3, [.int 0, .int 0, .int 0, .int 0, .int 0, .int 0, .int 0, .int 0, .int 0, .int 0])), (q8, .inr (3, [.int 0, .int 0, .int 0, .int 0, .int 0, .int 0, .int 0, .int 0, .int 0, .int 0])), (q7, .inr (3, [.int 0, .int 0, .int 0, .int 0, .int 0, .int 0, .int 0, .int 0, .int 0, .int 0])), (q6, .inl (cs 5, 4, .inr (.inr (.inr (.inr (va_up (va_up (va_up (va_up (fun _ => none) 0 (some q7)) 1 (some q8)) 2 (some q9)) 3 (some q10))))))), (q5, .inl (cs 0, 7, .inl (fun _ => 0))), (q4, .inr (8, [.ref q5, .ref q6, .int 0, .int 0, .int 0, .int 0])), (q3, .inl (cs 0, 12, .inl (fun _ => 0))), (q2, .inl (cs 0, 12, .inl (fun _ => 0))), (q1, .inl (cs 0, 7, .inl (fun _ => 0))), (h0, .inr (10, [.ref q1, .ref q2, .ref q3, .null, .null, .null, .int 0, .int 0]))] := hD
  refine W.widen (k := 10) (n := 88) (Nat.le_of_ble_eq_true rfl) (Nat.le_of_ble_eq_true rfl) ?_
  refine va_putF (D := (dC, dI)) (ci := 10) (v := .ref q4) (ty := (.object "DearLetters$Standing")) (C := RX10) (T := TX10) (N := 8) hx hb hts inG10 tyX10 tyX10_ok nmX10 hown hK hP hD hS 10 rfl rfl 3 (by decide) (hts _ (List.mem_cons_of_mem _ mw_1_152)) (fun _ h9 => h9) rfl hin rfl (by decide +kernel) (by first | rfl | decide) (by first | rfl | decide) (Nat.le_of_ble_eq_true rfl) dX10_init_36 (fun H locs hP hD hS => ?_)
  have hPD : PDw (dC, dI) vwCl (A0_ci_Town h0 s.heap.size) H [(q10, .inr (3, [.int 0, .int 0, .int 0, .int 0, .int 0, .int 0, .int 0, .int 0, .int 0, .int 0])), (q9, .inr (3, [.int 0, .int 0, .int 0, .int 0, .int 0, .int 0, .int 0, .int 0, .int 0, .int 0])), (q8, .inr (3, [.int 0, .int 0, .int 0, .int 0, .int 0, .int 0, .int 0, .int 0, .int 0, .int 0])), (q7, .inr (3, [.int 0, .int 0, .int 0, .int 0, .int 0, .int 0, .int 0, .int 0, .int 0, .int 0])), (q6, .inl (cs 5, 4, .inr (.inr (.inr (.inr (va_up (va_up (va_up (va_up (fun _ => none) 0 (some q7)) 1 (some q8)) 2 (some q9)) 3 (some q10))))))), (q5, .inl (cs 0, 7, .inl (fun _ => 0))), (q4, .inr (8, [.ref q5, .ref q6, .int 0, .int 0, .int 0, .int 0])), (q3, .inl (cs 0, 12, .inl (fun _ => 0))), (q2, .inl (cs 0, 12, .inl (fun _ => 0))), (q1, .inl (cs 0, 7, .inl (fun _ => 0))), (h0, .inr (10, [.ref q1, .ref q2, .ref q3, .ref q4, .null, .null, .int 0, .int 0]))] := ⟨hP, hD⟩
  have hP := hPD.1
  have hD := hPD.2
  refine lv_aload_n hx hb dX10_init_39 rfl (lv_at hl 0 rfl) ?_
  refine lv_bipush (v := 7) hx hb dX10_init_40 (by decide) ?_
  refine va_newa (atype := .int) (a0 := (7, .inl (fun _ => 0))) hx hb (hts _ (List.mem_cons_of_mem _ mw_1_102)) rfl hK hP hD hS hA (fun cA => rfl) (by decide) rfl (by decide) (Nat.le_of_ble_eq_true rfl) (Nat.le_of_ble_eq_true rfl) dX10_init_42 (fun q11 c11 H hK1 hP hD hS => ?_)
  obtain rfl : c11 = cs 0 := cA_eq 0 7 hK1 rfl rfl
  have hPD : PDw (dC, dI) vwCl (A0_ci_Town h0 s.heap.size) H [(q11, .inl (cs 0, 7, .inl (fun _ => 0))), (q10, .inr (3, [.int 0, .int 0, .int 0, .int 0, .int 0, .int 0, .int 0, .int 0, .int 0, .int 0])), (q9, .inr (3, [.int 0, .int 0, .int 0, .int 0, .int 0, .int 0, .int 0, .int 0, .int 0, .int 0])), (q8, .inr (3, [.int 0, .int 0, .int 0, .int 0, .int 0, .int 0, .int 0, .int 0, .int 0, .int 0])), (q7, .inr (3, [.int 0, .int 0, .int 0, .int 0, .int 0, .int 0, .int 0, .int 0, .int 0, .int 0])), (q6, .inl (cs 5, 4, .inr (.inr (.inr (.inr (va_up (va_up (va_up (va_up (fun _ => none) 0 (some q7)) 1 (some q8)) 2 (some q9)) 3 (some q10))))))), (q5, .inl (cs 0, 7, .inl (fun _ => 0))), (q4, .inr (8, [.ref q5, .ref q6, .int 0, .int 0, .int 0, .int 0])), (q3, .inl (cs 0, 12, .inl (fun _ => 0))), (q2, .inl (cs 0, 12, .inl (fun _ => 0))), (q1, .inl (cs 0, 7, .inl (fun _ => 0))), (h0, .inr (10, [.ref q1, .ref q2, .ref q3, .ref q4, .null, .null, .int 0, .int 0]))] := ⟨pm_P (pm_last [(q10, .inr (3, [.int 0, .int 0, .int 0, .int 0, .int 0, .int 0, .int 0, .int 0, .int 0, .int 0])), (q9, .inr (3, [.int 0, .int 0, .int 0, .int 0, .int 0, .int 0, .int 0, .int 0, .int 0, .int 0])), (q8, .inr (3, [.int 0, .int 0, .int 0, .int 0, .int 0, .int 0, .int 0, .int 0, .int 0, .int 0])), (q7, .inr (3, [.int 0, .int 0, .int 0, .int 0, .int 0, .int 0, .int 0, .int 0, .int 0, .int 0])), (q6, .inl (cs 5, 4, .inr (.inr (.inr (.inr (va_up (va_up (va_up (va_up (fun _ => none) 0 (some q7)) 1 (some q8)) 2 (some q9)) 3 (some q10))))))), (q5, .inl (cs 0, 7, .inl (fun _ => 0))), (q4, .inr (8, [.ref q5, .ref q6, .int 0, .int 0, .int 0, .int 0])), (q3, .inl (cs 0, 12, .inl (fun _ => 0))), (q2, .inl (cs 0, 12, .inl (fun _ => 0))), (q1, .inl (cs 0, 7, .inl (fun _ => 0))), (h0, .inr (10, [.ref q1, .ref q2, .ref q3, .ref q4, .null, .null, .int 0, .int 0]))] (q11, .inl (cs 0, 7, .inl (fun _ => 0)))) hP, pm_D (pm_last [(q10, .inr (3, [.int 0, .int 0, .int 0, .int 0, .int 0, .int 0, .int 0, .int 0, .int 0, .int 0])), (q9, .inr (3, [.int 0, .int 0, .int 0, .int 0, .int 0, .int 0, .int 0, .int 0, .int 0, .int 0])), (q8, .inr (3, [.int 0, .int 0, .int 0, .int 0, .int 0, .int 0, .int 0, .int 0, .int 0, .int 0])), (q7, .inr (3, [.int 0, .int 0, .int 0, .int 0, .int 0, .int 0, .int 0, .int 0, .int 0, .int 0])), (q6, .inl (cs 5, 4, .inr (.inr (.inr (.inr (va_up (va_up (va_up (va_up (fun _ => none) 0 (some q7)) 1 (some q8)) 2 (some q9)) 3 (some q10))))))), (q5, .inl (cs 0, 7, .inl (fun _ => 0))), (q4, .inr (8, [.ref q5, .ref q6, .int 0, .int 0, .int 0, .int 0])), (q3, .inl (cs 0, 12, .inl (fun _ => 0))), (q2, .inl (cs 0, 12, .inl (fun _ => 0))), (q1, .inl (cs 0, 7, .inl (fun _ => 0))), (h0, .inr (10, [.ref q1, .ref q2, .ref q3, .ref q4, .null, .null, .int 0, .int 0]))] (q11, .inl (cs 0, 7, .inl (fun _ => 0)))) hD⟩
  have hP := hPD.1
  have hD := hPD.2
  refine W.widen (k := 11) (n := 95) (Nat.le_of_ble_eq_true rfl) (Nat.le_of_ble_eq_true rfl) ?_
  refine va_putF (D := (dC, dI)) (ci := 10) (v := .ref q11) (ty := (.array .int)) (C := RX10) (T := TX10) (N := 8) hx hb hts inG10 tyX10 tyX10_ok nmX10 hown hK hP hD hS 11 rfl rfl 4 (by decide) (hts _ (List.mem_cons_of_mem _ mw_1_158)) (fun _ h9 => h9) rfl hin rfl (by decide +kernel) (by first | rfl | decide) (by first | rfl | decide) (Nat.le_of_ble_eq_true rfl) dX10_init_44 (fun H locs hP hD hS => ?_)
  have hPD : PDw (dC, dI) vwCl (A0_ci_Town h0 s.heap.size) H [(q11, .inl (cs 0, 7, .inl (fun _ => 0))), (q10, .inr (3, [.int 0, .int 0, .int 0, .int 0, .int 0, .int 0, .int 0, .int 0, .int 0, .int 0])), (q9, .inr (3, [.int 0, .int 0, .int 0, .int 0, .int 0, .int 0, .int 0, .int 0, .int 0, .int 0])), (q8, .inr (3, [.int 0, .int 0, .int 0, .int 0, .int 0, .int 0, .int 0, .int 0, .int 0, .int 0])), (q7, .inr (3, [.int 0, .int 0, .int 0, .int 0, .int 0, .int 0, .int 0, .int 0, .int 0, .int 0])), (q6, .inl (cs 5, 4, .inr (.inr (.inr (.inr (va_up (va_up (va_up (va_up (fun _ => none) 0 (some q7)) 1 (some q8)) 2 (some q9)) 3 (some q10))))))), (q5, .inl (cs 0, 7, .inl (fun _ => 0))), (q4, .inr (8, [.ref q5, .ref q6, .int 0, .int 0, .int 0, .int 0])), (q3, .inl (cs 0, 12, .inl (fun _ => 0))), (q2, .inl (cs 0, 12, .inl (fun _ => 0))), (q1, .inl (cs 0, 7, .inl (fun _ => 0))), (h0, .inr (10, [.ref q1, .ref q2, .ref q3, .ref q4, .ref q11, .null, .int 0, .int 0]))] := ⟨hP, hD⟩
  have hP := hPD.1
  have hD := hPD.2
  refine lv_aload_n hx hb dX10_init_47 rfl (lv_at hl 0 rfl) ?_
  refine lv_bipush (v := 7) hx hb dX10_init_48 (by decide) ?_
  refine va_newa (atype := .int) (a0 := (7, .inl (fun _ => 0))) hx hb (hts _ (List.mem_cons_of_mem _ mw_1_102)) rfl hK hP hD hS hA (fun cA => rfl) (by decide) rfl (by decide) (Nat.le_of_ble_eq_true rfl) (Nat.le_of_ble_eq_true rfl) dX10_init_50 (fun q12 c12 H hK1 hP hD hS => ?_)
  obtain rfl : c12 = cs 0 := cA_eq 0 7 hK1 rfl rfl
  have hPD : PDw (dC, dI) vwCl (A0_ci_Town h0 s.heap.size) H [(q12, .inl (cs 0, 7, .inl (fun _ => 0))), (q11, .inl (cs 0, 7, .inl (fun _ => 0))), (q10, .inr (3, [.int 0, .int 0, .int 0, .int 0, .int 0, .int 0, .int 0, .int 0, .int 0, .int 0])), (q9, .inr (3, [.int 0, .int 0, .int 0, .int 0, .int 0, .int 0, .int 0, .int 0, .int 0, .int 0])), (q8, .inr (3, [.int 0, .int 0, .int 0, .int 0, .int 0, .int 0, .int 0, .int 0, .int 0, .int 0])), (q7, .inr (3, [.int 0, .int 0, .int 0, .int 0, .int 0, .int 0, .int 0, .int 0, .int 0, .int 0])), (q6, .inl (cs 5, 4, .inr (.inr (.inr (.inr (va_up (va_up (va_up (va_up (fun _ => none) 0 (some q7)) 1 (some q8)) 2 (some q9)) 3 (some q10))))))), (q5, .inl (cs 0, 7, .inl (fun _ => 0))), (q4, .inr (8, [.ref q5, .ref q6, .int 0, .int 0, .int 0, .int 0])), (q3, .inl (cs 0, 12, .inl (fun _ => 0))), (q2, .inl (cs 0, 12, .inl (fun _ => 0))), (q1, .inl (cs 0, 7, .inl (fun _ => 0))), (h0, .inr (10, [.ref q1, .ref q2, .ref q3, .ref q4, .ref q11, .null, .int 0, .int 0]))] := ⟨pm_P (pm_last [(q11, .inl (cs 0, 7, .inl (fun _ => 0))), (q10, .inr (3, [.int 0, .int 0, .int 0, .int 0, .int 0, .int 0, .int 0, .int 0, .int 0, .int 0])), (q9, .inr (3, [.int 0, .int 0, .int 0, .int 0, .int 0, .int 0, .int 0, .int 0, .int 0, .int 0])), (q8, .inr (3, [.int 0, .int 0, .int 0, .int 0, .int 0, .int 0, .int 0, .int 0, .int 0, .int 0])), (q7, .inr (3, [.int 0, .int 0, .int 0, .int 0, .int 0, .int 0, .int 0, .int 0, .int 0, .int 0])), (q6, .inl (cs 5, 4, .inr (.inr (.inr (.inr (va_up (va_up (va_up (va_up (fun _ => none) 0 (some q7)) 1 (some q8)) 2 (some q9)) 3 (some q10))))))), (q5, .inl (cs 0, 7, .inl (fun _ => 0))), (q4, .inr (8, [.ref q5, .ref q6, .int 0, .int 0, .int 0, .int 0])), (q3, .inl (cs 0, 12, .inl (fun _ => 0))), (q2, .inl (cs 0, 12, .inl (fun _ => 0))), (q1, .inl (cs 0, 7, .inl (fun _ => 0))), (h0, .inr (10, [.ref q1, .ref q2, .ref q3, .ref q4, .ref q11, .null, .int 0, .int 0]))] (q12, .inl (cs 0, 7, .inl (fun _ => 0)))) hP, pm_D (pm_last [(q11, .inl (cs 0, 7, .inl (fun _ => 0))), (q10, .inr (3, [.int 0, .int 0, .int 0, .int 0, .int 0, .int 0, .int 0, .int 0, .int 0, .int 0])), (q9, .inr (3, [.int 0, .int 0, .int 0, .int 0, .int 0, .int 0, .int 0, .int 0, .int 0, .int 0])), (q8, .inr (3, [.int 0, .int 0, .int 0, .int 0, .int 0, .int 0, .int 0, .int 0, .int 0, .int 0])), (q7, .inr (3, [.int 0, .int 0, .int 0, .int 0, .int 0, .int 0, .int 0, .int 0, .int 0, .int 0])), (q6, .inl (cs 5, 4, .inr (.inr (.inr (.inr (va_up (va_up (va_up (va_up (fun _ => none) 0 (some q7)) 1 (some q8)) 2 (some q9)) 3 (some q10))))))), (q5, .inl (cs 0, 7, .inl (fun _ => 0))), (q4, .inr (8, [.ref q5, .ref q6, .int 0, .int 0, .int 0, .int 0])), (q3, .inl (cs 0, 12, .inl (fun _ => 0))), (q2, .inl (cs 0, 12, .inl (fun _ => 0))), (q1, .inl (cs 0, 7, .inl (fun _ => 0))), (h0, .inr (10, [.ref q1, .ref q2, .ref q3, .ref q4, .ref q11, .null, .int 0, .int 0]))] (q12, .inl (cs 0, 7, .inl (fun _ => 0)))) hD⟩
  have hP := hPD.1
  have hD := hPD.2
  refine W.widen (k := 12) (n := 102) (Nat.le_of_ble_eq_true rfl) (Nat.le_of_ble_eq_true rfl) ?_
  refine va_putF (D := (dC, dI)) (ci := 10) (v := .ref q12) (ty := (.array .int)) (C := RX10) (T := TX10) (N := 8) hx hb hts inG10 tyX10 tyX10_ok nmX10 hown hK hP hD hS 12 rfl rfl 5 (by decide) (hts _ (List.mem_cons_of_mem _ mw_1_159)) (fun _ h9 => h9) rfl hin rfl (by decide +kernel) (by first | rfl | decide) (by first | rfl | decide) (Nat.le_of_ble_eq_true rfl) dX10_init_52 (fun H locs hP hD hS => ?_)
  have hPD : PDw (dC, dI) vwCl (A0_ci_Town h0 s.heap.size) H [(q12, .inl (cs 0, 7, .inl (fun _ => 0))), (q11, .inl (cs 0, 7, .inl (fun _ => 0))), (q10, .inr (3, [.int 0, .int 0, .int 0, .int 0, .int 0, .int 0, .int 0, .int 0, .int 0, .int 0])), (q9, .inr (3, [.int 0, .int 0, .int 0, .int 0, .int 0, .int 0, .int 0, .int 0, .int 0, .int 0])), (q8, .inr (3, [.int 0, .int 0, .int 0, .int 0, .int 0, .int 0, .int 0, .int 0, .int 0, .int 0])), (q7, .inr (3, [.int 0, .int 0, .int 0, .int 0, .int 0, .int 0, .int 0, .int 0, .int 0, .int 0])), (q6, .inl (cs 5, 4, .inr (.inr (.inr (.inr (va_up (va_up (va_up (va_up (fun _ => none) 0 (some q7)) 1 (some q8)) 2 (some q9)) 3 (some q10))))))), (q5, .inl (cs 0, 7, .inl (fun _ => 0))), (q4, .inr (8, [.ref q5, .ref q6, .int 0, .int 0, .int 0, .int 0])), (q3, .inl (cs 0, 12, .inl (fun _ => 0))), (q2, .inl (cs 0, 12, .inl (fun _ => 0))), (q1, .inl (cs 0, 7, .inl (fun _ => 0))), (h0, .inr (10, [.ref q1, .ref q2, .ref q3, .ref q4, .ref q11, .ref q12, .int 0, .int 0]))] := ⟨hP, hD⟩
  have hP := hPD.1
  have hD := hPD.2
  exact W.vret hx hb hr (fun t ht hW => ⟨⟨(), rfl, trivial, q1, q2, q3, q4, q5, q6, q7, q8, q9, q10, q11, q12, by first | (subst ht; exact hP) | (rw [ht]; exact hP), hD⟩, hS.F ht⟩) hS.2.2 dX10_init_55
theorem mw_1_215 : (Cond.methodLink RX2 3 objectInit : Cond) ∈ lw_good := lg_at 1 215 rfl rfl
theorem mw_1_216 : (Cond.classLink RX2 9 RX7 : Cond) ∈ lw_good := lg_at 1 216 rfl rfl
theorem mw_1_218 : (Cond.instantiable RX7 7 : Cond) ∈ lw_good := lg_at 1 218 rfl rfl
theorem mw_1_7 : (Cond.initialized RX7 : Cond) ∈ lw_good := lg_at 1 7 rfl rfl
theorem mw_1_221 : (Cond.code yX7_init cX7_init 1 none : Cond) ∈ lw_good := lg_at 1 221 rfl rfl
theorem mw_1_220 : (Cond.instanceMethod yX7_init : Cond) ∈ lw_good := lg_at 1 220 rfl rfl
theorem lb_X2_init_0 : dl_ck (cX2_init.data.toList.drop 0) [42, 183, 0, 3, 42, 16, 40, 189, 0, 9, 181, 0, 11, 3, 60, 27, 16, 40, 162, 0, 22, 42, 180, 0, 11, 27, 187, 0, 9, 89, 183, 0] = true := by decide +kernel
theorem lb_X2_init_1 : dl_ck (cX2_init.data.toList.drop 32) [17, 83, 132, 1, 1, 167, 255, 234, 177] = true := by decide +kernel
theorem dX2_init_0 : decode cX2_init 0 = .ok (.aload_n 0, 1) := dx_42 (dl_at 0 0 lb_X2_init_0 rfl)
theorem dX2_init_1 : decode cX2_init 1 = .ok (.invokespecial 3, 3) := dx_183 (a := 0) (b := 3) (dl_at 0 1 lb_X2_init_0 rfl) (dl_at 0 2 lb_X2_init_0 rfl) (dl_at 0 3 lb_X2_init_0 rfl) rfl
theorem dX2_init_4 : decode cX2_init 4 = .ok (.aload_n 0, 1) := dx_42 (dl_at 0 4 lb_X2_init_0 rfl)
theorem dX2_init_5 : decode cX2_init 5 = .ok (.bipush 40, 2) := dx_16 (dl_at 0 5 lb_X2_init_0 rfl) (dl_at 0 6 lb_X2_init_0 rfl) sg8_40
theorem dX2_init_7 : decode cX2_init 7 = .ok (.anewarray 9, 3) := dx_189 (a := 0) (b := 9) (dl_at 0 7 lb_X2_init_0 rfl) (dl_at 0 8 lb_X2_init_0 rfl) (dl_at 0 9 lb_X2_init_0 rfl) rfl
theorem dX2_init_10 : decode cX2_init 10 = .ok (.putfield 11, 3) := dx_181 (a := 0) (b := 11) (dl_at 0 10 lb_X2_init_0 rfl) (dl_at 0 11 lb_X2_init_0 rfl) (dl_at 0 12 lb_X2_init_0 rfl) rfl
theorem dX2_init_13 : decode cX2_init 13 = .ok (.iconst 0, 1) := dx_3 (dl_at 0 13 lb_X2_init_0 rfl)
theorem dX2_init_14 : decode cX2_init 14 = .ok (.istore_n 1, 1) := dx_60 (dl_at 0 14 lb_X2_init_0 rfl)
theorem dX2_init_15 : decode cX2_init 15 = .ok (.iload_n 1, 1) := dx_27 (dl_at 0 15 lb_X2_init_0 rfl)
theorem dX2_init_16 : decode cX2_init 16 = .ok (.bipush 40, 2) := dx_16 (dl_at 0 16 lb_X2_init_0 rfl) (dl_at 0 17 lb_X2_init_0 rfl) sg8_40
theorem dX2_init_18 : decode cX2_init 18 = .ok (.if_icmp .ge 22, 3) := dx_162 (a := 0) (b := 22) (dl_at 0 18 lb_X2_init_0 rfl) (dl_at 0 19 lb_X2_init_0 rfl) (dl_at 0 20 lb_X2_init_0 rfl) sg16_22
theorem dX2_init_40 : decode cX2_init 40 = .ok (.return_, 1) := dx_177 (dl_at 32 8 lb_X2_init_1 rfl)
theorem dX2_init_21 : decode cX2_init 21 = .ok (.aload_n 0, 1) := dx_42 (dl_at 0 21 lb_X2_init_0 rfl)
theorem dX2_init_22 : decode cX2_init 22 = .ok (.getfield 11, 3) := dx_180 (a := 0) (b := 11) (dl_at 0 22 lb_X2_init_0 rfl) (dl_at 0 23 lb_X2_init_0 rfl) (dl_at 0 24 lb_X2_init_0 rfl) rfl
theorem dX2_init_25 : decode cX2_init 25 = .ok (.iload_n 1, 1) := dx_27 (dl_at 0 25 lb_X2_init_0 rfl)
theorem dX2_init_26 : decode cX2_init 26 = .ok (.new 9, 3) := dx_187 (a := 0) (b := 9) (dl_at 0 26 lb_X2_init_0 rfl) (dl_at 0 27 lb_X2_init_0 rfl) (dl_at 0 28 lb_X2_init_0 rfl) rfl
theorem dX2_init_29 : decode cX2_init 29 = .ok (.dup, 1) := dx_89 (dl_at 0 29 lb_X2_init_0 rfl)
theorem dX2_init_30 : decode cX2_init 30 = .ok (.invokespecial 17, 3) := dx_183 (a := 0) (b := 17) (dl_at 0 30 lb_X2_init_0 rfl) (dl_at 0 31 lb_X2_init_0 rfl) (dl_at 32 0 lb_X2_init_1 rfl) rfl
theorem dX2_init_33 : decode cX2_init 33 = .ok (.aastore, 1) := dx_83 (dl_at 32 1 lb_X2_init_1 rfl)
theorem dX2_init_34 : decode cX2_init 34 = .ok (.iinc 1 1, 3) := dx_132 (dl_at 32 2 lb_X2_init_1 rfl) (dl_at 32 3 lb_X2_init_1 rfl) (dl_at 32 4 lb_X2_init_1 rfl) sg8_1
theorem dX2_init_37 : decode cX2_init 37 = .ok (.goto (-22), 3) := dx_167 (a := 255) (b := 234) (dl_at 32 5 lb_X2_init_1 rfl) (dl_at 32 6 lb_X2_init_1 rfl) (dl_at 32 7 lb_X2_init_1 rfl) sg16_65514
set_option maxHeartbeats 4000000 in
set_option maxRecDepth 100000 in
/-- the Ledger -/
theorem ci_Ledger (l : Launch) (dC : Nat → ClassId) (dI : Nat → Nat → Nat) (cs : Nat → ClassId) (H : Heap) (h0 : Nat) (hP : va_P (dC, dI) vwCl [(h0, .inr (2, [.null, .int 0]))] H) (hD0 : va_D (fun _ => True) [(h0, .inr (2, [.null, .int 0]))]) : Met l yX2_init (wU yX2_init cX2_init 2 none) ({ frames := 2, cells := 81, slots := 600, locals := 34 }) (va_Pc [.ref h0] (kb_P (dC, dI) vwCl (tyW cs) H)) (va_Qv (fun (_ : Unit) => True) (fun _ t => ∃ ad : Nat → Nat, va_P (dC, dI) vwCl ([(h0, .inr (2, [.ref (ad 0), .int 0])), (ad 0, .inl (cs 6, 40, .inr (.inr (.inr (.inr (fun j => some (ad (1 + j))))))))] ++ wR 80 (fun k => ad (1 + k)) (EL cs ad) (fun _ _ => 0)) t.heap ∧ va_D (va_A [(h0, .inr (2, [.null, .int 0]))] H.size) ([(h0, .inr (2, [.ref (ad 0), .int 0])), (ad 0, .inl (cs 6, 40, .inr (.inr (.inr (.inr (fun j => some (ad (1 + j))))))))] ++ wR 80 (fun k => ad (1 + k)) (EL cs ad) (fun _ _ => 0))) (va_A [(h0, .inr (2, [.null, .int 0]))] H.size)) 81 600 (va_A [(h0, .inr (2, [.null, .int 0]))] H.size) := by
  refine Met.ofW (cc := cX2_init) (maxL := 2) (ret := none) (by decide) rfl ?_
  intro p e s m args below meth c s₁ B hml hv
  obtain ⟨rfl, hh, hK, hq⟩ := hv
  have hx := B.exec
  have hb := B.bytes
  have hr := B.returns
  have hts := atoms_spec (ws := (wU yX2_init cX2_init 2 none)) B.pre
  have hown : s.vm.findClass RX2 = some m.cls := findClass_of_methodNamed B.named
  have hlocks := B.notSynchronized
  have hin : meth.name = "<init>" := (name_of_methodNamed B.named B.method).1
  subst hh
  have hD := hD0.self (sz := s.heap.size)
  have hA : ∀ q : Nat, s.heap.size ≤ q → (va_A [(h0, .inr (2, [.null, .int 0]))] s.heap.size) q := fun q h => Or.inr h
  have hS : va_S (va_A [(h0, .inr (2, [.null, .int 0]))] s.heap.size) s.heap s.heap [] := va_S.rf
  have hl := lv_entry ([.ref h0]) (n := 2) (Nat.le_of_ble_eq_true rfl)
  rw [lg_entry_eq]
  generalize (lg_sl ([.ref h0]) ++ List.replicate (2 - (lg_sl ([.ref h0])).length) Slot.unset).toArray = ls at hl ⊢
  have hl : lv_has ls 2 [(0, .ref h0)] := hl
  refine lv_aload_n hx hb dX2_init_0 rfl (lv_at hl 0 rfl) ?_
  refine W.objInit hx hb hown (hts _ (List.mem_cons_of_mem _ mw_1_215)) (hts _ (List.mem_cons_of_mem _ mw_1_24)) (hts _ (List.mem_cons_of_mem _ mw_1_25)) rfl (by rw [hml]; exact hl.1) rfl dX2_init_1 (Nat.le_of_ble_eq_true rfl) (Nat.le_of_ble_eq_true rfl) ?_
  refine W.eq (g2 := F0 m 4 ls []) rfl ?_
  refine lv_aload_n hx hb dX2_init_4 rfl (lv_at hl 0 rfl) ?_
  refine lv_bipush (v := 40) hx hb dX2_init_5 (by decide) ?_
  refine va_newq (C := RX7) hx hb hown (hts _ (List.mem_cons_of_mem _ mw_1_216)) (hq.2.2.2.2.2.2.2.2.2.2.2.2.2) hK hP hD hS hA (by decide) rfl (by decide) (Nat.le_of_ble_eq_true rfl) (Nat.le_of_ble_eq_true rfl) dX2_init_7 (fun q1 c1 H hK1 hP hD hS => ?_)
  obtain rfl : c1 = cs 6 := cA_eq 6 7 hK1 rfl rfl
  have hP : va_P (dC, dI) vwCl [(q1, .inl (cs 6, 40, .inr (.inr (.inr (.inr (fun _ => none)))))), (h0, .inr (2, [.null, .int 0]))] H := pm_P (pm_last [(h0, .inr (2, [.null, .int 0]))] (q1, .inl (cs 6, 40, .inr (.inr (.inr (.inr (fun _ => none))))))) hP
  have hD : va_D (va_A [(h0, .inr (2, [.null, .int 0]))] s.heap.size) [(q1, .inl (cs 6, 40, .inr (.inr (.inr (.inr (fun _ => none)))))), (h0, .inr (2, [.null, .int 0]))] := pm_D (pm_last [(h0, .inr (2, [.null, .int 0]))] (q1, .inl (cs 6, 40, .inr (.inr (.inr (.inr (fun _ => none))))))) hD
  refine W.widen (k := 1) (n := 40) (Nat.le_of_ble_eq_true rfl) (Nat.le_of_ble_eq_true rfl) ?_
  refine va_putF (D := (dC, dI)) (ci := 2) (v := .ref q1) (ty := (.array (.object "DearLetters$Sale"))) (C := RX2) (T := TX2) (N := 2) hx hb hts inG2 tyX2 tyX2_ok nmX2 hown hK hP hD hS 1 rfl rfl 0 (by decide) (hts _ (List.mem_cons_of_mem _ mw_2_6)) (fun _ h9 => h9) rfl hin rfl (by decide +kernel) (by first | rfl | decide) (by first | rfl | decide) (Nat.le_of_ble_eq_true rfl) dX2_init_10 (fun H locs hP hD hS => ?_)
  have hP : va_P (dC, dI) vwCl [(q1, .inl (cs 6, 40, .inr (.inr (.inr (.inr (fun _ => none)))))), (h0, .inr (2, [.ref q1, .int 0]))] H := hP
  have hD : va_D (va_A [(h0, .inr (2, [.null, .int 0]))] s.heap.size) [(q1, .inl (cs 6, 40, .inr (.inr (.inr (.inr (fun _ => none)))))), (h0, .inr (2, [.ref q1, .int 0]))] := hD
  refine lv_iconst (v := 0) hx hb dX2_init_13 (by decide) ?_
  refine lv_istore_n (lv' := [(1, .int 0), (0, .ref h0)]) hx hb dX2_init_14 rfl hl (by decide) rfl (fun ls hl => ?_)
  have step : ∀ (n i : Nat), i + n = 40 → ∀ (a b : Nat → Nat) (H : Heap) (locs : List Loc) (ls : Array Slot), va_P (dC, dI) vwCl ([(q1, .inl (cs 6, 40, .inr (.inr (.inr (.inr (fF a i)))))), (h0, .inr (2, [.ref q1, .int 0]))] ++ wsL cs a b i) H → va_D (va_A [(h0, .inr (2, [.null, .int 0]))] s.heap.size) ([(q1, .inl (cs 6, 40, .inr (.inr (.inr (.inr (fF a i)))))), (h0, .inr (2, [.ref q1, .int 0]))] ++ wsL cs a b i) → va_S (va_A [(h0, .inr (2, [.null, .int 0]))] s.heap.size) s.heap H locs → lv_has ls 2 [(1, .int (nI i)), (0, .ref h0)] → W p l e (headSpec (wU yX2_init cX2_init 2 none) ({ frames := 2, cells := 81, slots := 600, locals := 34 })).room s m (([.ref h0] : List Value).toArray) below meth c H locs (1 + 2 * i) (40 + 14 * i) (MQ below (va_Qv (fun (_ : Unit) => True) (fun _ t => ∃ ad : Nat → Nat, va_P (dC, dI) vwCl ([(h0, .inr (2, [.ref (ad 0), .int 0])), (ad 0, .inl (cs 6, 40, .inr (.inr (.inr (.inr (fun j => some (ad (1 + j))))))))] ++ wR 80 (fun k => ad (1 + k)) (EL cs ad) (fun _ _ => 0)) t.heap ∧ va_D (va_A [(h0, .inr (2, [.null, .int 0]))] s.heap.size) ([(h0, .inr (2, [.ref (ad 0), .int 0])), (ad 0, .inl (cs 6, 40, .inr (.inr (.inr (.inr (fun j => some (ad (1 + j))))))))] ++ wR 80 (fun k => ad (1 + k)) (EL cs ad) (fun _ _ => 0))) (va_A [(h0, .inr (2, [.null, .int 0]))] s.heap.size)) (([.ref h0] : List Value).toArray) s 81 600 (va_A [(h0, .inr (2, [.null, .int 0]))] s.heap.size)) (F0 m 15 ls []) := by
    intro n
    induction n with
    | zero =>
      intro i hi a b H locs ls hP hD hS hl
      obtain rfl : i = 40 := by omega
      refine lv_iload_n hx hb dX2_init_15 rfl (lv_at hl 0 rfl) ?_
      refine lv_bipush (v := 40) hx hb dX2_init_16 (by decide) ?_
      refine lv_icmp_ge (tgt := 40) hx hb dX2_init_18 (by decide) (fun _ => ?_) (fun c => absurd (by decide) c)
      obtain ⟨hP, hD⟩ := va_reQ 0 (fun j => some (adL q1 a b (1 + j))) hP hD rfl (fun j hj => by rw [adL_a hj]; exact if_pos hj)
      have hp : List.Perm (α := Nat × va_E) (([(q1, .inl (cs 6, 40, .inr (.inr (.inr (.inr (fun j => some (adL q1 a b (1 + j)))))))), (h0, .inr (2, [.ref q1, .int 0]))] ++ wsL cs a b 40)) ([(h0, .inr (2, [.ref ((adL q1 a b) 0), .int 0])), ((adL q1 a b) 0, .inl (cs 6, 40, .inr (.inr (.inr (.inr (fun j => some ((adL q1 a b) (1 + j))))))))] ++ wR 80 (fun k => (adL q1 a b) (1 + k)) (EL cs (adL q1 a b)) (fun _ _ => 0)) := by
        rw [wsL_wR]
        exact (List.Perm.append_left _ (wsL_perm cs a b 40)).trans (List.Perm.swap _ _ _)
      have hP := pm_P hp hP
      have hD := pm_D hp hD
      exact W.vret hx hb hr (fun t ht hW => ⟨⟨(), rfl, trivial, adL q1 a b, by first | (subst ht; exact hP) | (rw [ht]; exact hP), hD⟩, hS.F ht⟩) hS.2.2 dX2_init_40
    | succ n ih =>
      intro i hi a b H locs ls hP hD hS hl
      have h40 : (nI i).toInt = (i : Int) := nI_toInt (by omega)
      refine lv_iload_n hx hb dX2_init_15 rfl (lv_at hl 0 rfl) ?_
      refine lv_bipush (v := 40) hx hb dX2_init_16 (by decide) ?_
      refine lv_icmp_ge (tgt := 40) hx hb dX2_init_18 (by decide) (fun c => by have h9 := il_le c; have h8 : (40 : Int32).toInt = 40 := rfl; omega) (fun _ => ?_)
      refine lv_aload_n hx hb dX2_init_21 rfl (lv_at hl 1 rfl) ?_
      refine va_get (D := (dC, dI)) (ci := 2) (v := .ref q1) (C := RX2) (T := TX2) (N := 2) hx hb hts inG2 hown hK hP 1 rfl rfl 0 (by decide) (hts _ (List.mem_cons_of_mem _ mw_2_6)) (fun _ h9 => h9) rfl dX2_init_22 ?_
      refine lv_iload_n hx hb dX2_init_25 rfl (lv_at hl 0 rfl) ?_
      refine va_new (ci := 7) (fs := [.null, .int 0, .int 0, .int 0, .int 0, .int 0, .int 0]) (C := RX7) (T := TX7) (N := 7) hx hb hts inG7 tyX7 tyX7_ok hown (hts _ (List.mem_cons_of_mem _ mw_1_216)) (hts _ (List.mem_cons_of_mem _ mw_1_218)) (hts _ (List.mem_cons_of_mem _ mw_1_7)) hK hP hD hS hA rfl (fun j hj => match j, hj with | 0, _ => rfl | 1, _ => rfl | 2, _ => rfl | 3, _ => rfl | 4, _ => rfl | 5, _ => rfl | 6, _ => rfl | _ + 7, hj => absurd hj (by omega)) (by show 1 + 2 * i + 1 ≤ 81; omega) (by show 40 + 14 * i + 7 ≤ 600; omega) dX2_init_26 (fun q2 H hP hD hS => ?_)
      have hP : va_P (dC, dI) vwCl ([(q2, .inr (7, [.null, .int 0, .int 0, .int 0, .int 0, .int 0, .int 0]))] ++ ([(q1, .inl (cs 6, 40, .inr (.inr (.inr (.inr (fF a i)))))), (h0, .inr (2, [.ref q1, .int 0]))] ++ wsL cs a b i)) H := pm_P (pm_last ([(q1, .inl (cs 6, 40, .inr (.inr (.inr (.inr (fF a i)))))), (h0, .inr (2, [.ref q1, .int 0]))] ++ wsL cs a b i) (q2, .inr (7, [.null, .int 0, .int 0, .int 0, .int 0, .int 0, .int 0]))) hP
      have hD : va_D (va_A [(h0, .inr (2, [.null, .int 0]))] s.heap.size) ([(q2, .inr (7, [.null, .int 0, .int 0, .int 0, .int 0, .int 0, .int 0]))] ++ ([(q1, .inl (cs 6, 40, .inr (.inr (.inr (.inr (fF a i)))))), (h0, .inr (2, [.ref q1, .int 0]))] ++ wsL cs a b i)) := pm_D (pm_last ([(q1, .inl (cs 6, 40, .inr (.inr (.inr (.inr (fF a i)))))), (h0, .inr (2, [.ref q1, .int 0]))] ++ wsL cs a b i) (q2, .inr (7, [.null, .int 0, .int 0, .int 0, .int 0, .int 0, .int 0]))) hD
      refine lv_dup hx hb dX2_init_29 rfl ?_
      have hFc := va_free (wc := [(q2, .inr (7, [.null, .int 0, .int 0, .int 0, .int 0, .int 0, .int 0]))]) hD hS hA [0] rfl
      refine va_callv (va_runIN (As := []) (rest := [.ref q2, .int (nI i), .ref q1]) ⟨hx, hb, hml, hown, hts⟩ (ci_Sale l dC dI cs H q2 (hP.sub (ws' := [(q2, .inr (7, [.null, .int 0, .int 0, .int 0, .int 0, .int 0, .int 0]))]) [0] rfl) ((hD.sub (ws' := [(q2, .inr (7, [.null, .int 0, .int 0, .int 0, .int 0, .int 0, .int 0]))]) [0] (by decide) rfl).weaken (fun _ _ _ _ => trivial))) ⟨va_cnB 0 hts (wU_in mw_1_221) rfl rfl rfl (hq.2.2.2.2.2.2.1) (hts _ (List.mem_cons_of_mem _ mw_1_7)) (by decide +kernel) ⟨Nat.le_of_ble_eq_true rfl, Nat.le_of_ble_eq_true rfl⟩, rfl, (hts _ (List.mem_cons_of_mem _ mw_1_220))⟩ ⟨kb_c, kb_m hK hq⟩ rfl rfl hl.1 rfl (lv_room (Nat.le_of_ble_eq_true rfl)) dX2_init_30 ⟨by show 1 + 2 * i + 1 + 1 ≤ 81; omega, by show 40 + 14 * i + 7 + 7 ≤ 600; omega⟩) hS (fun q _ h => hFc q h) hFc (fun u t H1 locs ht hvm hw hB hz1 hk1 hS => ?_)
      obtain ⟨q3, hP1, hD1⟩ := hB
      rw [ht] at hP1
      obtain ⟨hP, hD⟩ := jn_front (wc := [(q2, .inr (7, [.null, .int 0, .int 0, .int 0, .int 0, .int 0, .int 0]))]) (wr := ([(q1, .inl (cs 6, 40, .inr (.inr (.inr (.inr (fF a i)))))), (h0, .inr (2, [.ref q1, .int 0]))] ++ wsL cs a b i)) (w1 := [(q3, .inl (cs 0, 7, .inl (fun _ => 0))), (q2, .inr (7, [.ref q3, .int 0, .int 0, .int 0, .int 0, .int 0, .int 0]))]) hP hD hk1 hFc hP1 hD1
      have hP : va_P (dC, dI) vwCl ([(q3, .inl (cs 0, 7, .inl (fun _ => 0))), (q2, .inr (7, [.ref q3, .int 0, .int 0, .int 0, .int 0, .int 0, .int 0])), (q1, .inl (cs 6, 40, .inr (.inr (.inr (.inr (fF a i)))))), (h0, .inr (2, [.ref q1, .int 0]))] ++ wsL cs a b i) H1 := hP
      have hD : va_D (va_A [(h0, .inr (2, [.null, .int 0]))] s.heap.size) ([(q3, .inl (cs 0, 7, .inl (fun _ => 0))), (q2, .inr (7, [.ref q3, .int 0, .int 0, .int 0, .int 0, .int 0, .int 0])), (q1, .inl (cs 6, 40, .inr (.inr (.inr (.inr (fF a i)))))), (h0, .inr (2, [.ref q1, .int 0]))] ++ wsL cs a b i) := hD
      refine va_astq (r := (RX7, TX7, 7)) hx hb hK hP hD hS 2 6 1 7 rfl rfl rfl rfl (show vp_in (nI i) 40 from vp_in_nI (by omega) (by decide)) dX2_init_33 (fun H locs hP hD hS => ?_)
      rw [nI_clamp (by omega)] at hP hD
      have hP : va_P (dC, dI) vwCl ([(q3, .inl (cs 0, 7, .inl (fun _ => 0))), (q2, .inr (7, [.ref q3, .int 0, .int 0, .int 0, .int 0, .int 0, .int 0])), (q1, .inl (cs 6, 40, .inr (.inr (.inr (.inr (va_up (fF a i) i (some q2))))))), (h0, .inr (2, [.ref q1, .int 0]))] ++ wsL cs a b i) H := hP
      have hD : va_D (va_A [(h0, .inr (2, [.null, .int 0]))] s.heap.size) ([(q3, .inl (cs 0, 7, .inl (fun _ => 0))), (q2, .inr (7, [.ref q3, .int 0, .int 0, .int 0, .int 0, .int 0, .int 0])), (q1, .inl (cs 6, 40, .inr (.inr (.inr (.inr (va_up (fF a i) i (some q2))))))), (h0, .inr (2, [.ref q1, .int 0]))] ++ wsL cs a b i) := hD
      rw [fF_up] at hP hD
      have hP := pm_P (pm_mid [(q3, .inl (cs 0, 7, .inl (fun _ => 0))), (q2, .inr (7, [.ref q3, .int 0, .int 0, .int 0, .int 0, .int 0, .int 0]))] [(q1, .inl (cs 6, 40, .inr (.inr (.inr (.inr (fF (fun j => if j = i then q2 else a j) (i + 1))))))), (h0, .inr (2, [.ref q1, .int 0]))] (wsL cs a b i)) hP
      have hD := pm_D (pm_mid [(q3, .inl (cs 0, 7, .inl (fun _ => 0))), (q2, .inr (7, [.ref q3, .int 0, .int 0, .int 0, .int 0, .int 0, .int 0]))] [(q1, .inl (cs 6, 40, .inr (.inr (.inr (.inr (fF (fun j => if j = i then q2 else a j) (i + 1))))))), (h0, .inr (2, [.ref q1, .int 0]))] (wsL cs a b i)) hD
      have hw2 : [(q3, .inl (cs 0, 7, .inl (fun _ => 0))), (q2, .inr (7, [.ref q3, .int 0, .int 0, .int 0, .int 0, .int 0, .int 0]))] ++ wsL cs a b i = wsL cs (fun j => if j = i then q2 else a j) (fun j => if j = i then q3 else b j) (i + 1) := by
        rw [wsL_congr (a1 := (fun j => if j = i then q2 else a j)) (b1 := (fun j => if j = i then q3 else b j)) (fun j hj => ⟨(if_neg (by omega)).symm, (if_neg (by omega)).symm⟩)]
        show _ = [saP cs (fun j => if j = i then q3 else b j) i, saC (fun j => if j = i then q3 else b j) (fun j => if j = i then q2 else a j) i] ++ wsL cs (fun j => if j = i then q2 else a j) (fun j => if j = i then q3 else b j) i
        unfold saP saC
        simp only [if_true]
      rw [hw2] at hP hD
      refine lv_iinc (v := nI (i + 1)) (lv' := [(1, .int (nI (i + 1))), (0, .ref h0)]) hx hb dX2_init_34 hl (k := 0) rfl (nI_add i 1) (by decide) rfl (fun ls hl => ?_)
      refine lv_goto (tgt := 15) hx hb dX2_init_37 (by decide) ?_
      refine W.widen (k := 1 + 2 * (i + 1)) (n := 40 + 14 * (i + 1)) (by omega) (by omega) ?_
      exact ih (i + 1) (by omega) _ _ H locs ls hP hD hS hl
  exact step 40 0 rfl (fun _ => 0) (fun _ => 0) _ _ _ hP hD hS hl
theorem wX_all {cs : Nat → ClassId} {L : List Nat} {adL : Nat → Nat} : wR 157 (adX L adL) (EX cs (adX L adL)) mu0X = wR 77 (adX L adL) (EX cs (adX L adL)) mu0X ++ wR 80 (fun k => adL (1 + k)) (EL cs adL) (fun _ _ => 0) := by
  have e1 : ∀ j, 77 ≤ j → adX L adL j = adL (j - 76) := fun j hj => by unfold adX; rw [if_neg (by omega)]
  have e : wR 80 (fun k => adX L adL (77 + k)) (fun k => EX cs (adX L adL) (77 + k)) (fun k => mu0X (77 + k)) = wR 80 (fun k => adL (1 + k)) (EL cs adL) (fun _ _ => 0) := by
    unfold wR
    refine List.map_congr_left (fun k hk => ?_)
    have hk := List.mem_range.mp hk
    have e2 : mu0X (77 + k) = fun _ => 0 := by unfold mu0X; rw [if_neg (by omega), if_neg (by omega)]
    refine Prod.ext ?_ ?_
    · show adX L adL (77 + k) = adL (1 + k)
      rw [e1 _ (by omega), show 77 + k - 76 = 1 + k by omega]
    · show EX cs (adX L adL) (77 + k) (mu0X (77 + k)) = EL cs adL k (fun _ => 0)
      rw [e2]
      unfold EL
      by_cases h : k < 40
      · rw [EX_sale cs _ _ _ (by omega) (by omega), if_pos h, e1 _ (by omega), show 77 + k + 40 - 76 = 41 + k by omega]
      · rw [EX_spurses cs _ _ _ (by omega) (by omega), if_neg h]
  rw [show (157 : Nat) = 77 + 80 from rfl, wR_split, e]

