theorem wL_in {y2 : MethodName} {c2 : ByteArray} {n2 : Nat} {r2 : Option FieldType} (h : Cond.code y2 c2 n2 r2 ∈ lw_good) : GoodIn lw_tbl (wU y2 c2 n2 r2) := fun w hw => by
  have hg : ∀ w, w ∈ lw_good → w ∈ lw_tbl ∧ ((w.onTables && w.keeps) = true ∨ ∃ ty, w = .arrayClass ty) := fun w h => ⟨(List.mem_filter.mp h).1, good_of_word (List.mem_filter.mp h).2⟩
  rcases List.mem_cons.mp hw with e | hw
  · rw [e]; exact hg _ h
  · exact hg w hw
theorem wL_V {y2 : MethodName} {c2 : ByteArray} {n2 i : Nat} {r2 : Option FieldType} {own C : String} (h : Cond.code y2 c2 n2 r2 ∈ lw_good) (h1 : Cond.methodLink own i y2 ∈ lw_good) (h2 : Cond.instanceMethod y2 ∈ lw_good) (h3 : Cond.selects C y2 y2 ∈ lw_good) (h4 : Cond.initialized C ∈ lw_good) : GoodIn lw_tbl (wsV own i C y2 (wU y2 c2 n2 r2)) := fun w hw => by
  have hg : ∀ w, w ∈ lw_good → w ∈ lw_tbl ∧ ((w.onTables && w.keeps) = true ∨ ∃ ty, w = .arrayClass ty) := fun w h => ⟨(List.mem_filter.mp h).1, good_of_word (List.mem_filter.mp h).2⟩
  rcases List.mem_append.mp hw with hw | hw
  · simp only [List.mem_cons, List.not_mem_nil, or_false] at hw
    rcases hw with e | e | e | e <;> rw [e]
    · exact hg _ h1
    · exact hg _ h2
    · exact hg _ h3
    · exact hg _ h4
  · exact wL_in h w hw
theorem kp_rest {A0 : Nat → Prop} {D : va_G} {cl : List vw_C} {w1 w2 : va_W} {H H1 : Heap} (hD : va_D A0 (w1 ++ w2)) (hP : va_P D cl w2 H) (hk : ∀ q : Nat, q < H.size → ¬ va_A w1 H.size q → H1[q]? = H[q]?) : va_P D cl w2 H1 := by
  refine hP.kept (fun k x hx => hk x.1 (hP k x hx).lt (fun h => ?_))
  rcases h with ⟨i, e, hi⟩ | h
  · have hlt : i < w1.length := (List.getElem?_eq_some_iff.mp hi).1
    have h1 : (w1 ++ w2)[i]? = some (x.1, e) := by rw [List.getElem?_append_left hlt]; exact hi
    have h2 : (w1 ++ w2)[w1.length + k]? = some x := by rw [List.getElem?_append_right (Nat.le_add_right _ _), Nat.add_sub_cancel_left]; exact hx
    have := hD.1 _ _ _ _ h1 h2 rfl
    omega
  · exact absurd (hP k x hx).lt (Nat.not_lt.mpr h)
theorem dl_left {A0 : Nat → Prop} {w1 w2 : va_W} (hD : va_D A0 (w1 ++ w2)) : va_D A0 w1 := by
  have ap : ∀ {i : Nat} {q : Nat × va_E}, w1[i]? = some q → (w1 ++ w2)[i]? = some q := fun {i q} h => by
    rw [List.getElem?_append_left (List.getElem?_eq_some_iff.mp h).1]; exact h
  exact ⟨fun i j p q h1 h2 e => hD.1 i j p q (ap h1) (ap h2) e, fun k q h => hD.2 k q (ap h)⟩
theorem dl_right {A0 : Nat → Prop} {w1 w2 : va_W} (hD : va_D A0 (w1 ++ w2)) : va_D A0 w2 := by
  have ap : ∀ {i : Nat} {q : Nat × va_E}, w2[i]? = some q → (w1 ++ w2)[w1.length + i]? = some q := fun {i q} h => by
    rw [List.getElem?_append_right (Nat.le_add_right _ _), Nat.add_sub_cancel_left]; exact h
  exact ⟨fun i j p q h1 h2 e => by have := hD.1 _ _ p q (ap h1) (ap h2) e; omega, fun k q h => hD.2 _ q (ap h)⟩
theorem lg_same {x y : Int64} (h : x = y) : lg_cmp x y = 0 := by
  subst h
  simp [lg_cmp]
theorem wR_fst {N : Nat} {ad : Nat → Nat} {E : Nat → (Nat → Int32) → va_E} {mu : Nat → Nat → Int32} : (wR N ad E mu).map Prod.fst = (List.range N).map ad := by
  unfold wR
  rw [List.map_map]
  rfl
theorem wR_DD {A : Nat → Prop} {N1 N2 : Nat} {ad1 ad2 : Nat → Nat} {E1 E2 : Nat → (Nat → Int32) → va_E} {mu1 mu2 : Nat → Nat → Int32} (nu1 nu2 : Nat → Nat → Int32) (h : va_D A (wR N1 ad1 E1 mu1 ++ wR N2 ad2 E2 mu2)) : va_D A (wR N1 ad1 E1 nu1 ++ wR N2 ad2 E2 nu2) := by
  obtain ⟨h1, h2⟩ := vaD_iff.mp h
  have key : ∀ (m1 m2 : Nat → Nat → Int32), (wR N1 ad1 E1 m1 ++ wR N2 ad2 E2 m2).map Prod.fst = (List.range N1).map ad1 ++ (List.range N2).map ad2 := fun m1 m2 => by rw [List.map_append, wR_fst, wR_fst]
  refine vaD_iff.mpr ⟨?_, fun q hq => ?_⟩
  · rw [key]
    rw [key] at h1
    exact h1
  · have h3 : q.1 ∈ (wR N1 ad1 E1 nu1 ++ wR N2 ad2 E2 nu2).map Prod.fst := List.mem_map.mpr ⟨q, hq, rfl⟩
    rw [key nu1 nu2, ← key mu1 mu2] at h3
    obtain ⟨x, hx, e⟩ := List.mem_map.mp h3
    rw [← e]
    exact h2 x hx
theorem ok0X : okR loX hiX mu0X := by
  have h0 : ∀ c f : Nat, loXc c f ≤ 0 ∧ 0 ≤ hiXc c f := by
    intro c f
    unfold loXc hiXc
    constructor <;> (repeat' split) <;> omega
  intro k f
  by_cases c1 : k < 8
  · have e : mu0X k = fun _ => 0 := by unfold mu0X; rw [if_pos c1]
    rw [e]
    exact h0 _ _
  · by_cases c2 : k < 18
    · have e : mu0X k = fun f => if f = 1 then -1 else 0 := by unfold mu0X; rw [if_neg c1, if_pos c2]
      rw [e]
      by_cases cf : f = 1
      · subst cf
        have key : ∀ k, k < 18 → ¬ k < 8 → loX k 1 ≤ -1 ∧ -1 ≤ hiX k 1 := by decide +kernel
        exact key k c2 c1
      · show loX k f ≤ ((if f = 1 then (-1 : Int32) else 0)).toInt ∧ ((if f = 1 then (-1 : Int32) else 0)).toInt ≤ hiX k f
        rw [if_neg cf]
        exact h0 _ _
    · have e : mu0X k = fun _ => 0 := by unfold mu0X; rw [if_neg c1, if_neg c2]
      rw [e]
      exact h0 _ _
theorem ok0M : okR loM hiM mu0M := by
  have h0 : ∀ c f : Nat, loMc c f ≤ 0 ∧ 0 ≤ hiMc c f := by
    intro c f
    unfold loMc hiMc
    constructor <;> (repeat' split) <;> omega
  intro k f
  unfold mu0M
  split
  · have key : ∀ f, loM 2 f ≤ -9 ∧ -9 ≤ hiM 2 f := fun f => by
      show (-9 : Int) ≤ -9 ∧ (-9 : Int) ≤ 40
      decide
    exact key f
  · have key : ∀ f, loM 5 f ≤ -9 ∧ -9 ≤ hiM 5 f := fun f => by
      show (-9 : Int) ≤ -9 ∧ (-9 : Int) ≤ 80
      decide
    exact key f
  · by_cases c : f = 0 ∨ f = 64 ∨ f = 128
    · show loM 15 f ≤ (if f = 0 ∨ f = 64 ∨ f = 128 then (-9 : Int32) else 0).toInt ∧ (if f = 0 ∨ f = 64 ∨ f = 128 then (-9 : Int32) else 0).toInt ≤ hiM 15 f
      rw [if_pos c]
      rcases c with rfl | rfl | rfl <;> decide
    · show loM 15 f ≤ (if f = 0 ∨ f = 64 ∨ f = 128 then (-9 : Int32) else 0).toInt ∧ (if f = 0 ∨ f = 64 ∨ f = 128 then (-9 : Int32) else 0).toInt ≤ hiM 15 f
      rw [if_neg c]
      exact h0 _ _
  · exact h0 _ _

/-! THE CLAIM OUT OF ONE WALK OF THE LAW'S BODY. Your part is whole_start (and what it stands on); all else here is the same for every law, but numbers. -/
def R_law : String := "DearLettersLaw"
def lw_P (b : Addr) (xs : List Int32) (args : Array Value) (s : State) : Prop := args = #[.ref b] ∧ s.IntsAt b xs ∧ xs.length ≤ 384 ∧ (Jvm.Cond.and given_1 narrow_1).before args s = true
def lw_Q (_ : Array Value) (s : State) (o : Outcome) (t : State) : Prop := o = .returned (some (.int 1)) ∧ Framed s o t [] 600000 7302250
def lw_Z (below : List Frame) (a : Array Value) (s : State) : State → Prop := fun t => ∃ o, t.status = .running ∧ Ended t below o ∧ lw_Q a s o t
/-- the law's own end, with 1 on the stack, nothing written that was there before, its room as the claim has it -/
theorem lw_ret {p : Program} {l : Launch} {e : Env} {s : State} {m : MethodId} {below : List Frame} {meth : Method} {c : Code} {b : Nat} (hx : p.tables.exec = Jvm.exec) (hb : c.code = code) (hr : meth.sig.returnType = ret) (hlocks : meth.locks = false) {pc : Nat} {H : Heap} {ls : Array Slot} (hdg : decode code pc = .ok (.ireturn, 1)) : W p l e room_1 s m #[Value.ref b] below meth c H [] 600000 7302250 (lw_Z below #[Value.ref b] s) (F0 m pc ls [.int 1]) := by
  intro T hT X
  obtain ⟨fs, hret, hrun, hended, hW, hframe⟩ := X.leave (v := some (.int 1)) (hlocks := hlocks) (fun h => by rw [hr] at h; cases h)
  have hmeth' : T.vm.method? m = some meth := X.method'
  refine ⟨T.setFrames fs, ?_, .returned (some (.int 1)), hrun, hended, rfl, ⟨_, rfl⟩, hW, hframe⟩
  jvm_step X.here [X.here.top, hx, hb, hdg, hmeth', hr, ret, narrow_b1]
  (try refine ⟨rfl, ?_⟩); (try refine ⟨rfl, ?_⟩)
  first | (intro acts; rw [hret _ acts rfl rfl rfl]) | rw [hret _ _ rfl rfl rfl]
  exact Steps.refl _
/-- what holds at the law's entry: the machine, the code, the tables' words (any of lw_tbl by 'hts w (by decide +kernel)'), the script of L ints xs at the cell b, what the Statement gives of the start (any of its parts by flat_of_before) -/
def lw_At (p : Program) (s : State) (m : MethodId) (meth : Method) (c : Code) (b L : Nat) (xs : Nat → Int32) : Prop :=
  p.tables.exec = Jvm.exec ∧ c.code = code ∧ meth.sig.returnType = ret ∧ c.maxLocals = 4 ∧ s.vm.findClass R_law = some m.cls ∧ (∀ w ∈ lw_tbl, w.before #[Value.ref b] s = true) ∧ va_X b L xs s s.heap ∧ b < s.heap.size ∧ meth.locks = false ∧ (Jvm.Cond.and given_1 narrow_1).before #[Value.ref b] s = true
/-- what stays over the whole law -/
def lw_F (p : Program) (s : State) (m : MethodId) (meth : Method) (c : Code) (b L : Nat) (xs : Nat → Int32) (dC : Nat → ClassId) (dI : Nat → Nat → Nat) (cs : Nat → ClassId) (tt : Nat) : Prop :=
  lw_At p s m meth c b L xs ∧ va_K (dC, dI) vwCl (tyW cs) s ∧ va_K (dC, dI) vwCl (tyM cs) s ∧ kz s ∧ ks (fun q : Nat => s.heap.size ≤ q) tt s.heap s
/-- both worlds, and where the law stands -/
def lw_J (s : State) (b : Nat) (dC : Nat → ClassId) (dI : Nat → Nat → Nat) (cs : Nat → ClassId) (adx adm : Nat → Nat) (i : Int32) (mux mum : Nat → Nat → Int32) (H : Heap) (locs : List Loc) (ls : Array Slot) : Prop :=
  okR loX hiX mux ∧ okR loM hiM mum ∧ (simT mux mum ∧ core mux mum) ∧ va_P (dC, dI) vwCl (wR 157 adx (EX cs adx) mux) H ∧ va_P (dC, dI) vwCl (wR 21 adm (EM cs adm) mum) H ∧ va_D (fun q : Nat => s.heap.size ≤ q) ((wR 157 adx (EX cs adx) mux) ++ (wR 21 adm (EM cs adm) mum)) ∧ va_S (fun q : Nat => s.heap.size ≤ q) s.heap H locs ∧ lv_has ls 4 [(3, .int i), (2, .ref (adm 0)), (1, .ref (adx 0)), (0, .ref b)]

