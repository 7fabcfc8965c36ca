-- ===== plain rows =====
theorem il_lt {a b : Int32} (h : a < b) : a.toInt < b.toInt := Int32.lt_iff_toInt_lt.mp h
theorem il_le {a b : Int32} (h : a ≤ b) : a.toInt ≤ b.toInt := Int32.le_iff_toInt_le.mp h
theorem il_nlt {a b : Int32} (h : ¬ a < b) : b.toInt ≤ a.toInt := Int.not_lt.mp fun q => h (Int32.lt_iff_toInt_lt.mpr q)
theorem il_nle {a b : Int32} (h : ¬ a ≤ b) : b.toInt < a.toInt := Int.not_le.mp fun q => h (Int32.le_iff_toInt_le.mpr q)
theorem il_eq {a b : Int32} (h : a = b) : a.toInt = b.toInt := congrArg Int32.toInt h
theorem il_ne {a b : Int32} (h : ¬ a = b) : ¬ a.toInt = b.toInt := fun q => h (Int32.toInt_inj.mp q)
theorem ic_of {P : Prop} [Decidable P] {r a b : Int32} (h : r = if P then a else b) : (P ∧ r = a) ∨ (¬ P ∧ r = b) := by
  by_cases q : P
  · exact Or.inl ⟨q, by rw [h, if_pos q]⟩
  · exact Or.inr ⟨q, by rw [h, if_neg q]⟩
theorem vi_of {x : Int32} {n : Nat} (h1 : 0 ≤ x.toInt) (h2 : x.toInt < n) : vp_in x n := vp_in_iff.mpr ⟨h1, h2⟩
theorem vi_lt {x : Int32} {n : Nat} (h : vp_in x n) : x.toNatClampNeg < n := Nat.not_le.mp fun q => h (Or.inr q)
section PQ
variable {p : Program} {l : Launch} {e : Env} {R : Room} {s : State} {m : MethodId} {args : Array Value} {below : List Frame} {meth : Method} {c : Code} {H : Heap} {locs : List Loc} {cells slots : Nat} {Q : State → Prop}
variable {pc : Nat} {ls : Array Slot} {rest st0 : List Value} {a : Array Value} {A0 : Nat → Prop} {H0 : Heap} {mc ms : Nat}
theorem lq_i {x : Int32} (y : Int32) (h : x = y) (k : W p l e R s m args below meth c H locs cells slots Q (F0 m pc ls (.int y :: rest))) : W p l e R s m args below meth c H locs cells slots Q (F0 m pc ls (.int x :: rest)) := by
  subst h; exact k
theorem lq_l {x : Int64} (y : Int64) (h : x = y) (k : W p l e R s m args below meth c H locs cells slots Q (F0 m pc ls (.long y :: rest))) : W p l e R s m args below meth c H locs cells slots Q (F0 m pc ls (.long x :: rest)) := by
  subst h; exact k
theorem lq_v {x : Value} (y : Value) (h : x = y) (k : W p l e R s m args below meth c H locs cells slots Q (F0 m pc ls (y :: rest))) : W p l e R s m args below meth c H locs cells slots Q (F0 m pc ls (x :: rest)) := by
  subst h; exact k
/-- behind a call that only reads: the heap is the same -/
theorem cr_i {post : Int32 → Unit → Prop} (hr : va_Run p l e R s m args below meth c H locs cells slots 0 0 (F0 m pc ls st0) rest (va_Qi post (fun _ t => t.heap = H) (fun _ => False) a) (fun _ => False)) (hS : va_S A0 H0 H locs)
    (kk : ∀ (r : Int32), post r () → ∀ (locs1 : List Loc), va_S A0 H0 H locs1 → W p l e R s m args below meth c H locs1 cells slots Q (F0 m (pc + 3) ls (.int r :: rest))) : W p l e R s m args below meth c H locs cells slots Q (F0 m pc ls st0) := by
  refine va_calli hr hS (fun q _ h => h.elim) (fun q h => h.elim) (fun r u t H1 locs1 ht hvm hw hB hz hk hS1 => ?_)
  have e1 : H1 = H := ht.symm.trans hB
  subst e1
  exact kk r hw locs1 hS1
theorem cr_l {post : Int64 → Unit → Prop} (hr : va_Run p l e R s m args below meth c H locs cells slots 0 0 (F0 m pc ls st0) rest (va_Ql post (fun _ t => t.heap = H) (fun _ => False) a) (fun _ => False)) (hS : va_S A0 H0 H locs)
    (kk : ∀ (r : Int64), post r () → ∀ (locs1 : List Loc), va_S A0 H0 H locs1 → W p l e R s m args below meth c H locs1 cells slots Q (F0 m (pc + 3) ls (.long r :: rest))) : W p l e R s m args below meth c H locs cells slots Q (F0 m pc ls st0) := by
  refine va_calll hr hS (fun q _ h => h.elim) (fun q h => h.elim) (fun r u t H1 locs1 ht hvm hw hB hz hk hS1 => ?_)
  have e1 : H1 = H := ht.symm.trans hB
  subst e1
  exact kk r hw locs1 hS1
end PQ
/-- the start of a contract here: the heap as it is, and the classes known -/
def pb_P (D : va_G) (cl : List vw_C) (tys : List (ClassId × FieldType)) (H : Heap) (U : State) : Prop := U.heap = H ∧ va_K D cl tys U
theorem pb_c {D : va_G} {cl : List vw_C} {tys : List (ClassId × FieldType)} {H : Heap} {av : List Value} : FrameBlind (va_Pc av (pb_P D cl tys H)) := fun a U g mk q => by
  obtain ⟨q0, q1, qK⟩ := q
  exact ⟨q0, q1, va_K.moved (u := U) (U := U.calling g mk a) (Vm.Alike.refl U.vm) qK⟩
theorem pb_m {D : va_G} {cl : List vw_C} {tys : List (ClassId × FieldType)} {H : Heap} {av : List Value} {s : State} (hK : va_K D cl tys s) : ∀ U : State, U.heap = H → s.WarmedH U.vm → va_Pc av (pb_P D cl tys H) av.toArray U := fun _ hU hW => ⟨rfl, hU, va_K.moved hW.alike hK⟩
theorem lx_cmp1 {x : Int32} (h : x.toInt < 2147483647) : lg_cmp x.toInt64 2147483647 = -1 := by
  have e1 : x.toInt64.toInt = x.toInt := Int32.toInt_toInt64 x
  have e2 : (2147483647 : Int64).toInt = 2147483647 := by decide
  have h1 : ¬ (2147483647 : Int64) < x.toInt64 := fun q => by have := Int64.lt_iff_toInt_lt.mp q; omega
  have h2 : ¬ x.toInt64 = 2147483647 := fun q => by have := congrArg Int64.toInt q; omega
  simp [lg_cmp, h1, h2]
theorem lx_cmp0 {x : Int32} (h : ¬ x.toInt < 2147483647) : lg_cmp x.toInt64 2147483647 = 0 := by
  have e1 : x.toInt64.toInt = x.toInt := Int32.toInt_toInt64 x
  have e2 : (2147483647 : Int64).toInt = 2147483647 := by decide
  have e3 : x.toInt < 2147483648 := by have := Int32.toInt_lt x; omega
  have e4 : x.toInt64 = 2147483647 := Int64.toInt_inj.mp (by omega)
  rw [e4]
  decide
theorem lx_three {x : Int32} (h1 : 0 ≤ x.toInt) (h2 : x.toInt < 3) : x = 0 ∨ x = 1 ∨ x = 2 := by
  rcases (show x.toInt = 0 ∨ x.toInt = 1 ∨ x.toInt = 2 by omega) with h | h | h
  · exact Or.inl (Int32.toInt_inj.mp (h.trans (by decide)))
  · exact Or.inr (Or.inl (Int32.toInt_inj.mp (h.trans (by decide))))
  · exact Or.inr (Or.inr (Int32.toInt_inj.mp (h.trans (by decide))))
-- ===== the class as its constructor leaves it, those cells that a first call reads or writes =====
def wXrow (ad : Nat → Nat) (j : Nat) : Nat × va_E := (ad (8 + j), .inr (6, [.ref (ad (21 + j)), .int (-1)]))
def wXtext (ad : Nat → Nat) (j : Nat) : Nat × va_E := (ad (14 + j), .inr (9, [.ref (ad (27 + j)), .int (-1)]))
def wXkept (ad : Nat → Nat) (j : Nat) : Nat × va_E := (ad (18 + j), .inr (8, [.ref (ad (40 + j)), .ref (ad (43 + j)), .int 0, .int 0, .int 0, .int 0]))
def wXobj (ad : Nat → Nat) (lat told : Int32) : Nat × va_E := (ad 0, .inr (11, [.ref (ad 1), .ref (ad 2), .ref (ad 3), .ref (ad 4), .ref (ad 31), .ref (ad 6), .ref (ad 32), .ref (ad 33), .ref (ad 7), .int lat, .int told]))
def wX (cs : Nat → ClassId) (ad : Nat → Nat) : va_W := [wXobj ad 0 0,
  (ad 1, .inl (cs 1, 6, .inr (.inr (.inr (.inr (fun j => some (ad (8 + j)))))))),
  (ad 2, .inl (cs 2, 4, .inr (.inr (.inr (.inr (fun j => some (ad (14 + j)))))))),
  (ad 3, .inl (cs 3, 3, .inr (.inr (.inr (.inr (fun j => some (ad (18 + j)))))))),
  (ad 4, .inr (10, [.ref (ad 34), .ref (ad 35), .ref (ad 36), .ref (ad 5), .ref (ad 37), .ref (ad 38), .int 0, .int 0])),
  (ad 5, .inr (8, [.ref (ad 46), .ref (ad 47), .int 0, .int 0, .int 0, .int 0])),
  (ad 6, .inr (2, [.ref (ad 39), .int 0])),
  (ad 7, .inl (cs 7, 6, .inl (fun _ => 0))),
  wXrow ad 0, wXrow ad 1, wXrow ad 2, wXrow ad 3, wXrow ad 4, wXrow ad 5,
  wXtext ad 0, wXtext ad 1, wXtext ad 2, wXtext ad 3,
  wXkept ad 0, wXkept ad 1, wXkept ad 2,
  (ad 21, .inl (cs 21, 40, .inl (fun _ => 0))), (ad 22, .inl (cs 22, 40, .inl (fun _ => 0))), (ad 23, .inl (cs 23, 40, .inl (fun _ => 0))), (ad 24, .inl (cs 24, 40, .inl (fun _ => 0))), (ad 25, .inl (cs 25, 40, .inl (fun _ => 0))), (ad 26, .inl (cs 26, 40, .inl (fun _ => 0))),
  (ad 27, .inl (cs 27, 80, .inl (fun _ => 0))), (ad 28, .inl (cs 28, 80, .inl (fun _ => 0))), (ad 29, .inl (cs 29, 80, .inl (fun _ => 0))), (ad 30, .inl (cs 30, 80, .inl (fun _ => 0)))]
def tyX (cs : Nat → ClassId) : List (ClassId × FieldType) := [(cs 1, .object "DearLetters$Row"), (cs 2, .object "DearLetters$Text"), (cs 3, .object "DearLetters$Standing"), (cs 7, .int),
  (cs 21, .int), (cs 22, .int), (cs 23, .int), (cs 24, .int), (cs 25, .int), (cs 26, .int), (cs 27, .byte), (cs 28, .byte), (cs 29, .byte), (cs 30, .byte)]
theorem wX_row (cs : Nat → ClassId) (ad : Nat → Nat) : ∀ j : Nat, j < 6 → (wX cs ad)[8 + j]? = some (ad (8 + j), .inr (6, [.ref (ad (21 + j)), .int (-1)]))
  | 0, _ => rfl | 1, _ => rfl | 2, _ => rfl | 3, _ => rfl | 4, _ => rfl | 5, _ => rfl | _ + 6, h => absurd h (by omega)
theorem wX_text (cs : Nat → ClassId) (ad : Nat → Nat) : ∀ j : Nat, j < 4 → (wX cs ad)[14 + j]? = some (ad (14 + j), .inr (9, [.ref (ad (27 + j)), .int (-1)]))
  | 0, _ => rfl | 1, _ => rfl | 2, _ => rfl | 3, _ => rfl | _ + 4, h => absurd h (by omega)
theorem wX_kept (cs : Nat → ClassId) (ad : Nat → Nat) : ∀ j : Nat, j < 3 → (wX cs ad)[18 + j]? = some (ad (18 + j), .inr (8, [.ref (ad (40 + j)), .ref (ad (43 + j)), .int 0, .int 0, .int 0, .int 0]))
  | 0, _ => rfl | 1, _ => rfl | 2, _ => rfl | _ + 3, h => absurd h (by omega)
theorem wX_places (cs : Nat → ClassId) (ad : Nat → Nat) : ∀ j : Nat, j < 6 → (wX cs ad)[21 + j]? = some (ad (21 + j), .inl (cs (21 + j), 40, .inl (fun _ => 0))) ∧ (tyX cs)[4 + j]? = some (cs (21 + j), .int)
  | 0, _ => ⟨rfl, rfl⟩ | 1, _ => ⟨rfl, rfl⟩ | 2, _ => ⟨rfl, rfl⟩ | 3, _ => ⟨rfl, rfl⟩ | 4, _ => ⟨rfl, rfl⟩ | 5, _ => ⟨rfl, rfl⟩ | _ + 6, h => absurd h (by omega)
theorem wX_bytes (cs : Nat → ClassId) (ad : Nat → Nat) : ∀ j : Nat, j < 4 → (wX cs ad)[27 + j]? = some (ad (27 + j), .inl (cs (27 + j), 80, .inl (fun _ => 0))) ∧ (tyX cs)[10 + j]? = some (cs (27 + j), .byte)
  | 0, _ => ⟨rfl, rfl⟩ | 1, _ => ⟨rfl, rfl⟩ | 2, _ => ⟨rfl, rfl⟩ | 3, _ => ⟨rfl, rfl⟩ | _ + 4, h => absurd h (by omega)
-- ===== the reference as its constructor leaves it =====
def wMobj (ad : Nat → Nat) (fi as da : Int32) (h : Int64) : Nat × va_E := (ad 0, .inr (12, [.int fi, .ref (ad 1), .int as, .ref (ad 2), .ref (ad 3), .ref (ad 7), .ref (ad 4), .ref (ad 5), .int 0, .ref (ad 8), .ref (ad 9), .int 0, .ref (ad 10), .int 0, .int da, .int 0, .ref (ad 11), .int 0, .int 0, .int 0, .int 0, .ref (ad 12), .ref (ad 13), .ref (ad 14), .ref (ad 15), .ref (ad 6), .ref (ad 16), .ref (ad 17), .ref (ad 18), .int 0, .int 0, .int 0, .int 0, .int 0, .int 0, .int 0, .int 0, .int 0, .int 0, .int 0, .ref (ad 19), .ref (ad 20), .int 0, .int 0, .int 0, .long h]))
def keptF : Nat → Int32 := fun j => if j = 0 ∨ j = 64 ∨ j = 128 then -9 else 0
def wM (cs : Nat → ClassId) (ad : Nat → Nat) (h : Int64) : va_W := [wMobj ad 0 0 0 h,
  (ad 1, .inl (cs 1, 6, .inl (fun _ => 0))), (ad 2, .inl (cs 2, 6, .inl (fun _ => -9))), (ad 3, .inl (cs 3, 240, .inl (fun _ => 0))), (ad 4, .inl (cs 4, 4, .inl (fun _ => -9))), (ad 5, .inl (cs 5, 320, .inl (fun _ => 0))), (ad 6, .inl (cs 6, 192, .inl keptF))]
def tyM (cs : Nat → ClassId) : List (ClassId × FieldType) := [(cs 1, .int), (cs 2, .int), (cs 3, .int), (cs 4, .int), (cs 5, .int), (cs 6, .int)]
def sf_row (r n : Int32) : Int32 := if 0 ≤ r.toInt ∧ r.toInt < 6 ∧ n.toInt ≤ 40 then (if n.toInt < 0 then -3 else n) else -1
def sf_text (t n : Int32) : Int32 := if 0 ≤ t.toInt ∧ t.toInt < 4 ∧ n.toInt ≤ 80 then (if n.toInt < 0 then -3 else n) else -1

