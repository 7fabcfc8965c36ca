def tbq (a : Nat) : List Cond := match a with
  | 0 => k2_sels lw_privs
  | 1 => tables_1_1
  | 2 => tables_1_2
  | 3 => tables_1_3
  | 4 => tables_1_4
  | 5 => tables_1_5
  | 6 => tables_1_6
  | _ => tables_1_7
theorem tbq_in : ∀ a : Nat, ∀ w ∈ tbq a, w ∈ lw_tbl
  | 0, w, h => List.mem_append_left _ h
  | 1, w, h => List.mem_append_right _ (List.mem_append_left _ h)
  | 2, w, h => List.mem_append_right _ (List.mem_append_right _ (List.mem_append_left _ h))
  | 3, w, h => List.mem_append_right _ (List.mem_append_right _ (List.mem_append_right _ (List.mem_append_left _ h)))
  | 4, w, h => List.mem_append_right _ (List.mem_append_right _ (List.mem_append_right _ (List.mem_append_right _ (List.mem_append_left _ h))))
  | 5, w, h => List.mem_append_right _ (List.mem_append_right _ (List.mem_append_right _ (List.mem_append_right _ (List.mem_append_right _ (List.mem_append_left _ h)))))
  | 6, w, h => List.mem_append_right _ (List.mem_append_right _ (List.mem_append_right _ (List.mem_append_right _ (List.mem_append_right _ (List.mem_append_right _ (List.mem_append_left _ h))))))
  | _ + 7, w, h => List.mem_append_right _ (List.mem_append_right _ (List.mem_append_right _ (List.mem_append_right _ (List.mem_append_right _ (List.mem_append_right _ (List.mem_append_right _ h))))))
theorem goodIn_q (ws : List Cond) (ps : List (Nat × Nat)) (hp : ws = ps.filterMap (fun q => (tbq q.1)[q.2]?)) (h : ws.all goodWord = true) : GoodIn lw_tbl ws := by
  intro w hw
  have h1 := List.all_eq_true.mp h w hw
  rw [hp] at hw
  obtain ⟨q, -, hi⟩ := List.mem_filterMap.mp hw
  exact ⟨tbq_in q.1 w (List.mem_of_getElem? hi), good_of_word h1⟩
theorem tbq_at {w : Cond} (a i : Nat) (h : (tbq a)[i]? = some w) : w ∈ lw_tbl := tbq_in a w (List.mem_of_getElem? h)

def lw_good : List Cond := lw_tbl.filter goodWord
theorem lg_at {w : Cond} (a i : Nat) (h : (tbq a)[i]? = some w) (hg : goodWord w = true) : w ∈ lw_good := List.mem_filter.mpr ⟨tbq_at a i h, hg⟩
def wU (y : MethodName) (c : ByteArray) (n : Nat) (r : Option FieldType) : List Cond := .code y c n r :: lw_good
theorem wU_in {y y2 : MethodName} {c c2 : ByteArray} {n n2 : Nat} {r r2 : Option FieldType} (h : Cond.code y2 c2 n2 r2 ∈ lw_good) : GoodIn (wU y c n r) (wU y2 c2 n2 r2) := fun w hw => by
  have hg : ∀ w, w ∈ lw_good → w ∈ wU y c n r ∧ ((w.onTables && w.keeps) = true ∨ ∃ ty, w = .arrayClass ty) := fun w h => ⟨List.mem_cons_of_mem _ h, good_of_word (List.mem_filter.mp h).2⟩
  rcases List.mem_cons.mp hw with e | hw
  · rw [e]; exact hg _ h
  · exact hg w hw
theorem wU_V {y y2 : MethodName} {c c2 : ByteArray} {n n2 i : Nat} {r r2 : Option FieldType} {own C : String} (h : Cond.code y2 c2 n2 r2 ∈ lw_good) (h1 : Cond.methodLink own i y2 ∈ lw_good) (h2 : Cond.instanceMethod y2 ∈ lw_good) (h3 : Cond.selects C y2 y2 ∈ lw_good) (h4 : Cond.initialized C ∈ lw_good) : GoodIn (wU y c n r) (wsV own i C y2 (wU y2 c2 n2 r2)) := fun w hw => by
  have hg : ∀ w, w ∈ lw_good → w ∈ wU y c n r ∧ ((w.onTables && w.keeps) = true ∨ ∃ ty, w = .arrayClass ty) := fun w h => ⟨List.mem_cons_of_mem _ h, good_of_word (List.mem_filter.mp h).2⟩
  rcases List.mem_append.mp hw with hw | hw
  · simp only [List.mem_cons, List.not_mem_nil, or_false] at hw
    rcases hw with e | e | e | e <;> rw [e]
    · exact hg _ h1
    · exact hg _ h2
    · exact hg _ h3
    · exact hg _ h4
  · exact wU_in h w hw
theorem wU_S {y y2 : MethodName} {c c2 : ByteArray} {n n2 i : Nat} {r r2 : Option FieldType} {own : String} (h : Cond.code y2 c2 n2 r2 ∈ lw_good) (h1 : Cond.methodLink own i y2 ∈ lw_good) (h2 : Cond.static y2 ∈ lw_good) (h4 : Cond.initialized y2.cls ∈ lw_good) : GoodIn (wU y c n r) (va_wsS own i y2 (wU y2 c2 n2 r2)) := fun w hw => by
  have hg : ∀ w, w ∈ lw_good → w ∈ wU y c n r ∧ ((w.onTables && w.keeps) = true ∨ ∃ ty, w = .arrayClass ty) := fun w h => ⟨List.mem_cons_of_mem _ h, good_of_word (List.mem_filter.mp h).2⟩
  rcases List.mem_append.mp hw with hw | hw
  · simp only [List.mem_cons, List.not_mem_nil, or_false] at hw
    rcases hw with e | e | e <;> rw [e]
    · exact hg _ h1
    · exact hg _ h2
    · exact hg _ h4
  · exact wU_in h w hw
theorem inG0 {y : MethodName} {c : ByteArray} {n : Nat} {r : Option FieldType} : ∀ w ∈ wsX00, w ∈ wU y c n r := fun w h => List.mem_cons_of_mem _ (List.mem_filter.mpr ⟨(goodIn_q wsX00 [(2, 37), (2, 39), (2, 41), (2, 43)] (by decide +kernel) (by decide +kernel) w h).1, List.all_eq_true.mp (show wsX00.all goodWord = true by decide +kernel) w h⟩)
theorem inG1 {y : MethodName} {c : ByteArray} {n : Nat} {r : Option FieldType} : ∀ w ∈ wsX10, w ∈ wU y c n r := fun w h => List.mem_cons_of_mem _ (List.mem_filter.mpr ⟨(goodIn_q wsX10 [(2, 113), (2, 115), (2, 117), (2, 119), (2, 121)] (by decide +kernel) (by decide +kernel) w h).1, List.all_eq_true.mp (show wsX10.all goodWord = true by decide +kernel) w h⟩)
theorem inG2 {y : MethodName} {c : ByteArray} {n : Nat} {r : Option FieldType} : ∀ w ∈ wsX20, w ∈ wU y c n r := fun w h => List.mem_cons_of_mem _ (List.mem_filter.mpr ⟨(goodIn_q wsX20 [(2, 9), (2, 11)] (by decide +kernel) (by decide +kernel) w h).1, List.all_eq_true.mp (show wsX20.all goodWord = true by decide +kernel) w h⟩)
theorem inG3 {y : MethodName} {c : ByteArray} {n : Nat} {r : Option FieldType} : ∀ w ∈ wsX30, w ∈ wU y c n r := fun w h => List.mem_cons_of_mem _ (List.mem_filter.mpr ⟨(goodIn_q wsX30 [(1, 81), (1, 83), (1, 85), (1, 87), (1, 89), (1, 91), (1, 93), (1, 95), (1, 97), (1, 99)] (by decide +kernel) (by decide +kernel) w h).1, List.all_eq_true.mp (show wsX30.all goodWord = true by decide +kernel) w h⟩)
theorem inG4 {y : MethodName} {c : ByteArray} {n : Nat} {r : Option FieldType} : ∀ w ∈ wsX40, w ∈ wU y c n r := fun w h => List.mem_cons_of_mem _ (List.mem_filter.mpr ⟨(goodIn_q wsX40 [(1, 197), (1, 199), (1, 201), (1, 203), (1, 205), (1, 207)] (by decide +kernel) (by decide +kernel) w h).1, List.all_eq_true.mp (show wsX40.all goodWord = true by decide +kernel) w h⟩)
theorem inG5 {y : MethodName} {c : ByteArray} {n : Nat} {r : Option FieldType} : ∀ w ∈ wsX50, w ∈ wU y c n r := fun w h => List.mem_cons_of_mem _ (List.mem_filter.mpr ⟨(goodIn_q wsX50 [(2, 67), (2, 69), (2, 71), (2, 73), (2, 75), (2, 77), (2, 79), (2, 81), (2, 83), (2, 85), (2, 87), (2, 89), (2, 91), (2, 93), (2, 95)] (by decide +kernel) (by decide +kernel) w h).1, List.all_eq_true.mp (show wsX50.all goodWord = true by decide +kernel) w h⟩)
theorem inG6 {y : MethodName} {c : ByteArray} {n : Nat} {r : Option FieldType} : ∀ w ∈ wsX60, w ∈ wU y c n r := fun w h => List.mem_cons_of_mem _ (List.mem_filter.mpr ⟨(goodIn_q wsX60 [(2, 135), (2, 137)] (by decide +kernel) (by decide +kernel) w h).1, List.all_eq_true.mp (show wsX60.all goodWord = true by decide +kernel) w h⟩)
theorem inG7 {y : MethodName} {c : ByteArray} {n : Nat} {r : Option FieldType} : ∀ w ∈ wsX70, w ∈ wU y c n r := fun w h => List.mem_cons_of_mem _ (List.mem_filter.mpr ⟨(goodIn_q wsX70 [(1, 231), (1, 233), (1, 235), (1, 237), (1, 239), (2, 1), (2, 3)] (by decide +kernel) (by decide +kernel) w h).1, List.all_eq_true.mp (show wsX70.all goodWord = true by decide +kernel) w h⟩)
theorem inG8 {y : MethodName} {c : ByteArray} {n : Nat} {r : Option FieldType} : ∀ w ∈ wsX80, w ∈ wU y c n r := fun w h => List.mem_cons_of_mem _ (List.mem_filter.mpr ⟨(goodIn_q wsX80 [(1, 130), (1, 132), (1, 134), (1, 136), (1, 138), (1, 140)] (by decide +kernel) (by decide +kernel) w h).1, List.all_eq_true.mp (show wsX80.all goodWord = true by decide +kernel) w h⟩)
theorem inG9 {y : MethodName} {c : ByteArray} {n : Nat} {r : Option FieldType} : ∀ w ∈ wsX90, w ∈ wU y c n r := fun w h => List.mem_cons_of_mem _ (List.mem_filter.mpr ⟨(goodIn_q wsX90 [(2, 151), (2, 153)] (by decide +kernel) (by decide +kernel) w h).1, List.all_eq_true.mp (show wsX90.all goodWord = true by decide +kernel) w h⟩)
theorem inG10 {y : MethodName} {c : ByteArray} {n : Nat} {r : Option FieldType} : ∀ w ∈ wsX100, w ∈ wU y c n r := fun w h => List.mem_cons_of_mem _ (List.mem_filter.mpr ⟨(goodIn_q wsX100 [(1, 168), (1, 170), (1, 172), (1, 174), (1, 176), (1, 178), (1, 180), (1, 182)] (by decide +kernel) (by decide +kernel) w h).1, List.all_eq_true.mp (show wsX100.all goodWord = true by decide +kernel) w h⟩)
theorem inG11 {y : MethodName} {c : ByteArray} {n : Nat} {r : Option FieldType} : ∀ w ∈ wsX110, w ∈ wU y c n r := fun w h => List.mem_cons_of_mem _ (List.mem_filter.mpr ⟨(goodIn_q wsX110 [(2, 169), (2, 171), (2, 173), (2, 175), (2, 177), (2, 179), (2, 181), (2, 183), (2, 185), (2, 187), (2, 189)] (by decide +kernel) (by decide +kernel) w h).1, List.all_eq_true.mp (show wsX110.all goodWord = true by decide +kernel) w h⟩)
theorem inG12 {y : MethodName} {c : ByteArray} {n : Nat} {r : Option FieldType} : ∀ w ∈ wsX120, w ∈ wU y c n r := fun w h => List.mem_cons_of_mem _ (List.mem_filter.mpr ⟨(goodIn_q wsX120 [(5, 87), (5, 89), (5, 91), (5, 93), (5, 95), (5, 97), (5, 99), (5, 101), (5, 103), (5, 105), (5, 107), (5, 109), (5, 111), (5, 113), (5, 115), (5, 117), (5, 119), (5, 121), (5, 123), (5, 125), (5, 127), (5, 129), (5, 131), (5, 133), (5, 135), (5, 137), (5, 139), (5, 141), (5, 143), (5, 145), (5, 147), (5, 149), (5, 151), (5, 153), (5, 155), (5, 157), (5, 159), (5, 161), (5, 163), (5, 165), (5, 167), (5, 169), (5, 171), (5, 173), (5, 175), (5, 177)] (by decide +kernel) (by decide +kernel) w h).1, List.all_eq_true.mp (show wsX120.all goodWord = true by decide +kernel) w h⟩)
def kz (U : State) : Prop := va_Nw (.methodLinkNest RX1 49 yX11_priceAsked "DearLetters") U ∧ va_Nw (.methodLinkNest RX1 68 yX11_hasBit "DearLetters") U ∧ va_Nw (.methodLinkNest RX10 41 yX11_hasBit "DearLetters") U ∧ va_Nw (.methodLinkNest RX10 86 yX11_isOfKind "DearLetters") U ∧ va_Nw (.methodLinkNest RX10 89 yX11_priceAsked "DearLetters") U ∧ va_Nw (.methodLinkNest RX11 29 yX10_init "DearLetters") U ∧ va_Nw (.methodLinkNest RX11 36 yX4_init "DearLetters") U ∧ va_Nw (.methodLinkNest RX11 50 yX5_init "DearLetters") U ∧ va_Nw (.methodLinkNest RX11 57 yX1_init "DearLetters") U ∧ va_Nw (.methodLinkNest RX11 66 yX6_init "DearLetters") U ∧ va_Nw (.methodLinkNest RX11 67 yX9_init "DearLetters") U ∧ va_Nw (.methodLinkNest RX2 17 yX7_init "DearLetters") U ∧ va_Nw (.methodLinkNest RX5 23 yX0_init "DearLetters") U ∧ va_Nw (.methodLinkNest RX5 135 yX11_priceAsked "DearLetters") U ∧ va_Nw (.methodLinkNest RX5 146 yX11_hasBit "DearLetters") U ∧ va_Nw (.methodLinkNest RX8 21 yX3_init "DearLetters") U ∧ va_Nw (.fieldLinkNest RX4 54 RX11 "KIND_SIGNS" "[C" "DearLetters") U
theorem kz.moved {s U : State} (hW : s.WarmedH U.vm) (h : kz s) : kz U := by
  obtain ⟨h0, h1, h2, h3, h4, h5, h6, h7, h8, h9, h10, h11, h12, h13, h14, h15, h16⟩ := h
  exact ⟨va_Nw.warmM hW h0, va_Nw.warmM hW h1, va_Nw.warmM hW h2, va_Nw.warmM hW h3, va_Nw.warmM hW h4, va_Nw.warmM hW h5, va_Nw.warmM hW h6, va_Nw.warmM hW h7, va_Nw.warmM hW h8, va_Nw.warmM hW h9, va_Nw.warmM hW h10, va_Nw.warmM hW h11, va_Nw.warmM hW h12, va_Nw.warmM hW h13, va_Nw.warmM hW h14, va_Nw.warmM hW h15, va_Nw.warmF hW h16⟩
theorem kz.called {U : State} {g : JFrame} {mk : MethodId} {a : Array Value} (h : kz U) : kz (U.calling g mk a) := by
  obtain ⟨h0, h1, h2, h3, h4, h5, h6, h7, h8, h9, h10, h11, h12, h13, h14, h15, h16⟩ := h
  exact ⟨va_Nw.same rfl (u := U) (U := U.calling g mk a) rfl h0, va_Nw.same rfl (u := U) (U := U.calling g mk a) rfl h1, va_Nw.same rfl (u := U) (U := U.calling g mk a) rfl h2, va_Nw.same rfl (u := U) (U := U.calling g mk a) rfl h3, va_Nw.same rfl (u := U) (U := U.calling g mk a) rfl h4, va_Nw.same rfl (u := U) (U := U.calling g mk a) rfl h5, va_Nw.same rfl (u := U) (U := U.calling g mk a) rfl h6, va_Nw.same rfl (u := U) (U := U.calling g mk a) rfl h7, va_Nw.same rfl (u := U) (U := U.calling g mk a) rfl h8, va_Nw.same rfl (u := U) (U := U.calling g mk a) rfl h9, va_Nw.same rfl (u := U) (U := U.calling g mk a) rfl h10, va_Nw.same rfl (u := U) (U := U.calling g mk a) rfl h11, va_Nw.same rfl (u := U) (U := U.calling g mk a) rfl h12, va_Nw.same rfl (u := U) (U := U.calling g mk a) rfl h13, va_Nw.same rfl (u := U) (U := U.calling g mk a) rfl h14, va_Nw.same rfl (u := U) (U := U.calling g mk a) rfl h15, va_Nw.same rfl (u := U) (U := U.calling g mk a) rfl h16⟩
def sz_P (D : va_G) (cl : List vw_C) (tys : List (ClassId × FieldType)) (H : Heap) (U : State) : Prop := U.heap = H ∧ va_K D cl tys U ∧ kz U
theorem sz_c {D : va_G} {cl : List vw_C} {tys : List (ClassId × FieldType)} {H : Heap} {av : List Value} : FrameBlind (va_Pc av (sz_P D cl tys H)) := fun a U g mk q => by
  obtain ⟨q0, q1, qK, qq⟩ := q
  exact ⟨q0, q1, va_K.moved (u := U) (U := U.calling g mk a) (Vm.Alike.refl U.vm) qK, qq.called⟩
theorem sz_m {D : va_G} {cl : List vw_C} {tys : List (ClassId × FieldType)} {H : Heap} {av : List Value} {s : State} (hK : va_K D cl tys s) (hq : kz s) : ∀ U : State, U.heap = H → s.WarmedH U.vm → va_Pc av (sz_P D cl tys H) av.toArray U := fun _ hU hW => ⟨rfl, hU, va_K.moved hW.alike hK, kz.moved hW hq⟩
def ks (A : Nat → Prop) (tt : Nat) (H : Heap) (U : State) : Prop := va_Z "DearLetters" "KIND_SIGNS" "[C" (.ref tt) A U H ∧ va_T .char tt 6 (fun j => .int (([98, 109, 102, 114, 117, 115] : List Int32).getD j 0)) A U H
theorem ks.moved {A : Nat → Prop} {tt : Nat} {H : Heap} {u U : State} (hvm : u.vm.Alike U.vm) (h : ks A tt H u) : ks A tt H U := ⟨va_Z.moved hvm h.1, va_T.moved hvm h.2⟩
theorem ks.on {A B : Nat → Prop} {tt : Nat} {H0 H : Heap} {locs : List Loc} {U : State} (h : ks A tt H0 U) (hS : va_S A H0 H locs) (hB : ∀ q, B q → A q) : ks B tt H U := ⟨(h.1.kept hS.2.1).narrow hB, (h.2.kept hS.2.1).narrow hB⟩
def sy_P (D : va_G) (cl : List vw_C) (tys : List (ClassId × FieldType)) (A : Nat → Prop) (tt : Nat) (H : Heap) (U : State) : Prop := U.heap = H ∧ va_K D cl tys U ∧ kz U ∧ ks A tt H U
theorem sy_c {D : va_G} {cl : List vw_C} {tys : List (ClassId × FieldType)} {A : Nat → Prop} {tt : Nat} {H : Heap} {av : List Value} : FrameBlind (va_Pc av (sy_P D cl tys A tt H)) := fun a U g mk q => by
  obtain ⟨q0, q1, qK, qq, qs⟩ := q
  exact ⟨q0, q1, va_K.moved (u := U) (U := U.calling g mk a) (Vm.Alike.refl U.vm) qK, qq.called, ks.moved (u := U) (U := U.calling g mk a) (Vm.Alike.refl U.vm) qs⟩
theorem sy_m {D : va_G} {cl : List vw_C} {tys : List (ClassId × FieldType)} {A : Nat → Prop} {tt : Nat} {H : Heap} {av : List Value} {s : State} (hK : va_K D cl tys s) (hq : kz s) (hs : ks A tt H s) : ∀ U : State, U.heap = H → s.WarmedH U.vm → va_Pc av (sy_P D cl tys A tt H) av.toArray U := fun _ hU hW => ⟨rfl, hU, va_K.moved hW.alike hK, kz.moved hW hq, ks.moved hW.alike hs⟩
