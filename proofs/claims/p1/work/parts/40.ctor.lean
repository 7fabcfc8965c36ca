def kq (U : State) : Prop := va_Nw (.methodLinkNest RX11 29 yX10_init "DearLetters") U ∧ va_Nw (.methodLinkNest RX11 36 yX4_init "DearLetters") U ∧ va_Nw (.methodLinkNest RX11 50 yX5_init "DearLetters") U ∧ va_Nw (.methodLinkNest RX11 57 yX1_init "DearLetters") U ∧ va_Nw (.methodLinkNest RX11 66 yX6_init "DearLetters") U ∧ va_Nw (.methodLinkNest RX11 67 yX9_init "DearLetters") U ∧ va_Nw (.methodLinkNest RX2 17 yX7_init "DearLetters") U ∧ va_Nw (.methodLinkNest RX5 23 yX0_init "DearLetters") U ∧ va_Nw (.methodLinkNest RX8 21 yX3_init "DearLetters") U ∧ va_AO RX6 U ∧ va_AO RX9 U ∧ va_AO RX8 U ∧ va_AO RX3 U ∧ va_AO RX7 U
theorem kq.moved {s U : State} (hW : s.WarmedH U.vm) (h : kq s) : kq U := by
  obtain ⟨h0, h1, h2, h3, h4, h5, h6, h7, h8, h9, h10, h11, h12, h13⟩ := h
  exact ⟨va_Nw.warmM hW h0, va_Nw.warmM hW h1, va_Nw.warmM hW h2, va_Nw.warmM hW h3, va_Nw.warmM hW h4, va_Nw.warmM hW h5, va_Nw.warmM hW h6, va_Nw.warmM hW h7, va_Nw.warmM hW h8, va_AO.moved hW.alike h9, va_AO.moved hW.alike h10, va_AO.moved hW.alike h11, va_AO.moved hW.alike h12, va_AO.moved hW.alike h13⟩
theorem kq.called {U : State} {g : JFrame} {mk : MethodId} {a : Array Value} (h : kq U) : kq (U.calling g mk a) := by
  obtain ⟨h0, h1, h2, h3, h4, h5, h6, h7, h8, h9, h10, h11, h12, h13⟩ := h
  exact ⟨va_Nw.same rfl (u := U) (U := U.calling g mk a) rfl h0, va_Nw.same rfl (u := U) (U := U.calling g mk a) rfl h1, va_Nw.same rfl (u := U) (U := U.calling g mk a) rfl h2, va_Nw.same rfl (u := U) (U := U.calling g mk a) rfl h3, va_Nw.same rfl (u := U) (U := U.calling g mk a) rfl h4, va_Nw.same rfl (u := U) (U := U.calling g mk a) rfl h5, va_Nw.same rfl (u := U) (U := U.calling g mk a) rfl h6, va_Nw.same rfl (u := U) (U := U.calling g mk a) rfl h7, va_Nw.same rfl (u := U) (U := U.calling g mk a) rfl h8, va_AO.moved (u := U) (U := U.calling g mk a) (Vm.Alike.refl U.vm) h9, va_AO.moved (u := U) (U := U.calling g mk a) (Vm.Alike.refl U.vm) h10, va_AO.moved (u := U) (U := U.calling g mk a) (Vm.Alike.refl U.vm) h11, va_AO.moved (u := U) (U := U.calling g mk a) (Vm.Alike.refl U.vm) h12, va_AO.moved (u := U) (U := U.calling g mk a) (Vm.Alike.refl U.vm) h13⟩
def kb_P (D : va_G) (cl : List vw_C) (tys : List (ClassId × FieldType)) (H : Heap) (U : State) : Prop := U.heap = H ∧ va_K D cl tys U ∧ kq U
theorem kb_c {D : va_G} {cl : List vw_C} {tys : List (ClassId × FieldType)} {H : Heap} {av : List Value} : FrameBlind (va_Pc av (kb_P D cl tys H)) := fun a U g mk q => by
  obtain ⟨q0, q1, qK, qq⟩ := q
  exact ⟨q0, q1, va_K.moved (u := U) (U := U.calling g mk a) (Vm.Alike.refl U.vm) qK, qq.called⟩
theorem kb_m {D : va_G} {cl : List vw_C} {tys : List (ClassId × FieldType)} {H : Heap} {av : List Value} {s : State} (hK : va_K D cl tys s) (hq : kq s) : ∀ U : State, U.heap = H → s.WarmedH U.vm → va_Pc av (kb_P D cl tys H) av.toArray U := fun _ hU hW => ⟨rfl, hU, va_K.moved hW.alike hK, kq.moved hW hq⟩
def lk (l : List Nat) (k : Nat) : Nat := l.getD k 0

theorem dX3_init_0 : decode cX3_init 0 = .ok (.aload_n 0, 1) := by decide +kernel
theorem dX3_init_1 : decode cX3_init 1 = .ok (.invokespecial 3, 3) := by decide +kernel
theorem dX3_init_4 : decode cX3_init 4 = .ok (.return_, 1) := by decide +kernel
set_option maxHeartbeats 4000000 in
set_option maxRecDepth 100000 in
/-- a Letter -/
theorem ci_Letter (l : Launch) (dC : Nat → ClassId) (dI : Nat → Nat → Nat) (H : Heap) (h0 : Nat) (hP : va_P (dC, dI) vwCl [(h0, .inr (3, [.int 0, .int 0, .int 0, .int 0, .int 0, .int 0, .int 0, .int 0, .int 0, .int 0]))] H) (hD0 : va_D (fun _ => True) [(h0, .inr (3, [.int 0, .int 0, .int 0, .int 0, .int 0, .int 0, .int 0, .int 0, .int 0, .int 0]))]) : Met l yX3_init wsX3_init ({ frames := 1, cells := 0, slots := 0, locals := 14 }) (va_Pc [.ref h0] (kb_P (dC, dI) vwCl [] H)) (va_Qv (fun (_ : Unit) => True) (fun _ t => va_P (dC, dI) vwCl [(h0, .inr (3, [.int 0, .int 0, .int 0, .int 0, .int 0, .int 0, .int 0, .int 0, .int 0, .int 0]))] t.heap ∧ va_K (dC, dI) vwCl [] t ∧ va_D (va_A [(h0, .inr (3, [.int 0, .int 0, .int 0, .int 0, .int 0, .int 0, .int 0, .int 0, .int 0, .int 0]))] H.size) [(h0, .inr (3, [.int 0, .int 0, .int 0, .int 0, .int 0, .int 0, .int 0, .int 0, .int 0, .int 0]))]) (va_A [(h0, .inr (3, [.int 0, .int 0, .int 0, .int 0, .int 0, .int 0, .int 0, .int 0, .int 0, .int 0]))] H.size)) 0 0 (va_A [(h0, .inr (3, [.int 0, .int 0, .int 0, .int 0, .int 0, .int 0, .int 0, .int 0, .int 0, .int 0]))] H.size) := by
  refine Met.ofW (cc := cX3_init) (maxL := 1) (ret := none) (by decide) rfl ?_
  intro p e s m args below meth c s₁ B hml hv
  obtain ⟨rfl, hh, hK, hq⟩ := hv
  have hx := B.exec
  have hb := B.bytes
  have hr := B.returns
  have hts := atoms_spec (ws := wsX3_init) B.pre
  have hown : s.vm.findClass RX3 = some m.cls := findClass_of_methodNamed B.named
  have hlocks := B.notSynchronized
  have hin : meth.name = "<init>" := (name_of_methodNamed B.named B.method).1
  subst hh
  have hD := hD0.self (sz := s.heap.size)
  have hA : ∀ q : Nat, s.heap.size ≤ q → (va_A [(h0, .inr (3, [.int 0, .int 0, .int 0, .int 0, .int 0, .int 0, .int 0, .int 0, .int 0, .int 0]))] s.heap.size) q := fun q h => Or.inr h
  have hS : va_S (va_A [(h0, .inr (3, [.int 0, .int 0, .int 0, .int 0, .int 0, .int 0, .int 0, .int 0, .int 0, .int 0]))] s.heap.size) s.heap s.heap [] := va_S.rf
  have hl := lv_entry ([.ref h0]) (n := 1) (Nat.le_of_ble_eq_true rfl)
  rw [lg_entry_eq]
  generalize (lg_sl ([.ref h0]) ++ List.replicate (1 - (lg_sl ([.ref h0])).length) Slot.unset).toArray = ls at hl ⊢
  have hl : lv_has ls 1 [(0, .ref h0)] := hl
  refine lv_aload_n hx hb dX3_init_0 rfl (lv_at hl 0 rfl) ?_
  refine W.objInit hx hb hown (hts (.methodLink RX3 3 objectInit) (by decide +kernel)) (hts (.instanceMethod objectInit) (by decide +kernel)) (hts (.code objectInit ⟨#[0xb1]⟩ 1 none) (by decide +kernel)) rfl (by rw [hml]; exact hl.1) rfl dX3_init_1 (Nat.le_of_ble_eq_true rfl) (Nat.le_of_ble_eq_true rfl) ?_
  refine W.eq (g2 := F0 m 4 ls []) rfl ?_
  exact W.vret hx hb hr (fun t ht hW => ⟨⟨(), rfl, trivial, by first | (subst ht; exact hP) | (rw [ht]; exact hP), va_K.moved hW.alike hK, hD⟩, hS.F ht⟩) hS.2.2 dX3_init_4
theorem dX7_init_0 : decode cX7_init 0 = .ok (.aload_n 0, 1) := by decide +kernel
theorem dX7_init_1 : decode cX7_init 1 = .ok (.invokespecial 3, 3) := by decide +kernel
theorem dX7_init_4 : decode cX7_init 4 = .ok (.aload_n 0, 1) := by decide +kernel
theorem dX7_init_5 : decode cX7_init 5 = .ok (.bipush 7, 2) := by decide +kernel
theorem dX7_init_7 : decode cX7_init 7 = .ok (.newarray .int, 2) := by decide +kernel
theorem dX7_init_9 : decode cX7_init 9 = .ok (.putfield 9, 3) := by decide +kernel
theorem dX7_init_12 : decode cX7_init 12 = .ok (.return_, 1) := by decide +kernel
set_option maxHeartbeats 4000000 in
set_option maxRecDepth 100000 in
/-- a Sale -/
theorem ci_Sale (l : Launch) (dC : Nat → ClassId) (dI : Nat → Nat → Nat) (H : Heap) (h0 : Nat) (hP : va_P (dC, dI) vwCl [(h0, .inr (7, [.null, .int 0, .int 0, .int 0, .int 0, .int 0, .int 0]))] H) (hD0 : va_D (fun _ => True) [(h0, .inr (7, [.null, .int 0, .int 0, .int 0, .int 0, .int 0, .int 0]))]) : Met l yX7_init wsX7_init ({ frames := 1, cells := 1, slots := 7, locals := 14 }) (va_Pc [.ref h0] (kb_P (dC, dI) vwCl [] H)) (va_Qv (fun (_ : Unit) => True) (fun _ t => ∃ q1 : Nat, va_P (dC, dI) vwCl [(h0, .inr (7, [.ref q1, .int 0, .int 0, .int 0, .int 0, .int 0, .int 0]))] t.heap ∧ va_K (dC, dI) vwCl [] t ∧ va_D (va_A [(h0, .inr (7, [.null, .int 0, .int 0, .int 0, .int 0, .int 0, .int 0]))] H.size) [(h0, .inr (7, [.ref q1, .int 0, .int 0, .int 0, .int 0, .int 0, .int 0]))]) (va_A [(h0, .inr (7, [.null, .int 0, .int 0, .int 0, .int 0, .int 0, .int 0]))] H.size)) 1 7 (va_A [(h0, .inr (7, [.null, .int 0, .int 0, .int 0, .int 0, .int 0, .int 0]))] H.size) := by
  refine Met.ofW (cc := cX7_init) (maxL := 1) (ret := none) (by decide) rfl ?_
  intro p e s m args below meth c s₁ B hml hv
  obtain ⟨rfl, hh, hK, hq⟩ := hv
  have hx := B.exec
  have hb := B.bytes
  have hr := B.returns
  have hts := atoms_spec (ws := wsX7_init) B.pre
  have hown : s.vm.findClass RX7 = some m.cls := findClass_of_methodNamed B.named
  have hlocks := B.notSynchronized
  have hin : meth.name = "<init>" := (name_of_methodNamed B.named B.method).1
  subst hh
  have hD := hD0.self (sz := s.heap.size)
  have hA : ∀ q : Nat, s.heap.size ≤ q → (va_A [(h0, .inr (7, [.null, .int 0, .int 0, .int 0, .int 0, .int 0, .int 0]))] s.heap.size) q := fun q h => Or.inr h
  have hS : va_S (va_A [(h0, .inr (7, [.null, .int 0, .int 0, .int 0, .int 0, .int 0, .int 0]))] s.heap.size) s.heap s.heap [] := va_S.rf
  have hl := lv_entry ([.ref h0]) (n := 1) (Nat.le_of_ble_eq_true rfl)
  rw [lg_entry_eq]
  generalize (lg_sl ([.ref h0]) ++ List.replicate (1 - (lg_sl ([.ref h0])).length) Slot.unset).toArray = ls at hl ⊢
  have hl : lv_has ls 1 [(0, .ref h0)] := hl
  refine lv_aload_n hx hb dX7_init_0 rfl (lv_at hl 0 rfl) ?_
  refine W.objInit hx hb hown (hts (.methodLink RX7 3 objectInit) (by decide +kernel)) (hts (.instanceMethod objectInit) (by decide +kernel)) (hts (.code objectInit ⟨#[0xb1]⟩ 1 none) (by decide +kernel)) rfl (by rw [hml]; exact hl.1) rfl dX7_init_1 (Nat.le_of_ble_eq_true rfl) (Nat.le_of_ble_eq_true rfl) ?_
  refine W.eq (g2 := F0 m 4 ls []) rfl ?_
  refine lv_aload_n hx hb dX7_init_4 rfl (lv_at hl 0 rfl) ?_
  refine lv_bipush (v := 7) hx hb dX7_init_5 (by decide) ?_
  refine va_newa (atype := .int) (a0 := (7, .inl (fun _ => 0))) hx hb (hts (.arrayClass .int) (by decide +kernel)) rfl hK hP hD hS hA (fun cA => rfl) (by decide) rfl (by decide) (Nat.le_of_ble_eq_true rfl) (Nat.le_of_ble_eq_true rfl) dX7_init_7 (fun q1 c1 H hK hP hD hS => ?_)
  have hP : va_P (dC, dI) vwCl [(h0, .inr (7, [.null, .int 0, .int 0, .int 0, .int 0, .int 0, .int 0])), (q1, .inl (c1, 7, .inl (fun _ => 0)))] H := hP
  have hD : va_D (va_A [(h0, .inr (7, [.null, .int 0, .int 0, .int 0, .int 0, .int 0, .int 0]))] s.heap.size) [(h0, .inr (7, [.null, .int 0, .int 0, .int 0, .int 0, .int 0, .int 0])), (q1, .inl (c1, 7, .inl (fun _ => 0)))] := hD
  have hK : va_K (dC, dI) vwCl [(c1, .int)] s := hK
  refine W.widen (k := 1) (n := 7) (Nat.le_of_ble_eq_true rfl) (Nat.le_of_ble_eq_true rfl) ?_
  refine va_putF (D := (dC, dI)) (ci := 7) (v := .ref q1) (ty := (.array .int)) (C := RX7) (T := TX7) (N := 7) hx hb hts (by decide +kernel) tyX7 tyX7_ok nmX7 hown hK hP hD hS 0 rfl rfl 0 (by decide) (hts (.fieldLink RX7 9 "DearLetters$Sale" "pursesAhead" "[I") (by decide +kernel)) (fun _ h9 => h9) rfl hin rfl (by decide +kernel) (by first | rfl | decide) (by first | rfl | decide) (Nat.le_of_ble_eq_true rfl) dX7_init_9 (fun H locs hP hD hS => ?_)
  have hP : va_P (dC, dI) vwCl [(h0, .inr (7, [.ref q1, .int 0, .int 0, .int 0, .int 0, .int 0, .int 0])), (q1, .inl (c1, 7, .inl (fun _ => 0)))] H := hP
  have hD : va_D (va_A [(h0, .inr (7, [.null, .int 0, .int 0, .int 0, .int 0, .int 0, .int 0]))] s.heap.size) [(h0, .inr (7, [.ref q1, .int 0, .int 0, .int 0, .int 0, .int 0, .int 0])), (q1, .inl (c1, 7, .inl (fun _ => 0)))] := hD
  have hP := hP.sub (ws' := [(h0, .inr (7, [.ref q1, .int 0, .int 0, .int 0, .int 0, .int 0, .int 0]))]) [0] rfl
  have hD := hD.sub (ws' := [(h0, .inr (7, [.ref q1, .int 0, .int 0, .int 0, .int 0, .int 0, .int 0]))]) [0] (by decide) rfl
  have hK := hK.sub (tys' := []) [] rfl
  exact W.vret hx hb hr (fun t ht hW => ⟨⟨(), rfl, trivial, q1, by first | (subst ht; exact hP) | (rw [ht]; exact hP), va_K.moved hW.alike hK, hD⟩, hS.F ht⟩) hS.2.2 dX7_init_12
theorem dX0_init_0 : decode cX0_init 0 = .ok (.aload_n 0, 1) := by decide +kernel
theorem dX0_init_1 : decode cX0_init 1 = .ok (.invokespecial 3, 3) := by decide +kernel
theorem dX0_init_4 : decode cX0_init 4 = .ok (.aload_n 0, 1) := by decide +kernel
theorem dX0_init_5 : decode cX0_init 5 = .ok (.bipush 7, 2) := by decide +kernel
theorem dX0_init_7 : decode cX0_init 7 = .ok (.newarray .int, 2) := by decide +kernel
theorem dX0_init_9 : decode cX0_init 9 = .ok (.putfield 9, 3) := by decide +kernel
theorem dX0_init_12 : decode cX0_init 12 = .ok (.return_, 1) := by decide +kernel
set_option maxHeartbeats 4000000 in
set_option maxRecDepth 100000 in
/-- a Best -/
theorem ci_Best (l : Launch) (dC : Nat → ClassId) (dI : Nat → Nat → Nat) (H : Heap) (h0 : Nat) (hP : va_P (dC, dI) vwCl [(h0, .inr (0, [.null, .int 0, .int 0, .int 0]))] H) (hD0 : va_D (fun _ => True) [(h0, .inr (0, [.null, .int 0, .int 0, .int 0]))]) : Met l yX0_init wsX0_init ({ frames := 1, cells := 1, slots := 7, locals := 14 }) (va_Pc [.ref h0] (kb_P (dC, dI) vwCl [] H)) (va_Qv (fun (_ : Unit) => True) (fun _ t => va_P (dC, dI) vwCl [] t.heap ∧ va_K (dC, dI) vwCl [] t ∧ va_D (va_A [(h0, .inr (0, [.null, .int 0, .int 0, .int 0]))] H.size) []) (va_A [(h0, .inr (0, [.null, .int 0, .int 0, .int 0]))] H.size)) 1 7 (va_A [(h0, .inr (0, [.null, .int 0, .int 0, .int 0]))] H.size) := by
  refine Met.ofW (cc := cX0_init) (maxL := 1) (ret := none) (by decide) rfl ?_
  intro p e s m args below meth c s₁ B hml hv
  obtain ⟨rfl, hh, hK, hq⟩ := hv
  have hx := B.exec
  have hb := B.bytes
  have hr := B.returns
  have hts := atoms_spec (ws := wsX0_init) B.pre
  have hown : s.vm.findClass RX0 = some m.cls := findClass_of_methodNamed B.named
  have hlocks := B.notSynchronized
  have hin : meth.name = "<init>" := (name_of_methodNamed B.named B.method).1
  subst hh
  have hD := hD0.self (sz := s.heap.size)
  have hA : ∀ q : Nat, s.heap.size ≤ q → (va_A [(h0, .inr (0, [.null, .int 0, .int 0, .int 0]))] s.heap.size) q := fun q h => Or.inr h
  have hS : va_S (va_A [(h0, .inr (0, [.null, .int 0, .int 0, .int 0]))] s.heap.size) s.heap s.heap [] := va_S.rf
  have hl := lv_entry ([.ref h0]) (n := 1) (Nat.le_of_ble_eq_true rfl)
  rw [lg_entry_eq]
  generalize (lg_sl ([.ref h0]) ++ List.replicate (1 - (lg_sl ([.ref h0])).length) Slot.unset).toArray = ls at hl ⊢
  have hl : lv_has ls 1 [(0, .ref h0)] := hl
  refine lv_aload_n hx hb dX0_init_0 rfl (lv_at hl 0 rfl) ?_
  refine W.objInit hx hb hown (hts (.methodLink RX0 3 objectInit) (by decide +kernel)) (hts (.instanceMethod objectInit) (by decide +kernel)) (hts (.code objectInit ⟨#[0xb1]⟩ 1 none) (by decide +kernel)) rfl (by rw [hml]; exact hl.1) rfl dX0_init_1 (Nat.le_of_ble_eq_true rfl) (Nat.le_of_ble_eq_true rfl) ?_
  refine W.eq (g2 := F0 m 4 ls []) rfl ?_
  refine lv_aload_n hx hb dX0_init_4 rfl (lv_at hl 0 rfl) ?_
  refine lv_bipush (v := 7) hx hb dX0_init_5 (by decide) ?_
  refine va_newa (atype := .int) (a0 := (7, .inl (fun _ => 0))) hx hb (hts (.arrayClass .int) (by decide +kernel)) rfl hK hP hD hS hA (fun cA => rfl) (by decide) rfl (by decide) (Nat.le_of_ble_eq_true rfl) (Nat.le_of_ble_eq_true rfl) dX0_init_7 (fun q1 c1 H hK hP hD hS => ?_)
  have hP : va_P (dC, dI) vwCl [(h0, .inr (0, [.null, .int 0, .int 0, .int 0])), (q1, .inl (c1, 7, .inl (fun _ => 0)))] H := hP
  have hD : va_D (va_A [(h0, .inr (0, [.null, .int 0, .int 0, .int 0]))] s.heap.size) [(h0, .inr (0, [.null, .int 0, .int 0, .int 0])), (q1, .inl (c1, 7, .inl (fun _ => 0)))] := hD
  have hK : va_K (dC, dI) vwCl [(c1, .int)] s := hK
  refine W.widen (k := 1) (n := 7) (Nat.le_of_ble_eq_true rfl) (Nat.le_of_ble_eq_true rfl) ?_
  refine va_putF (D := (dC, dI)) (ci := 0) (v := .ref q1) (ty := (.array .int)) (C := RX0) (T := TX0) (N := 4) hx hb hts (by decide +kernel) tyX0 tyX0_ok nmX0 hown hK hP hD hS 0 rfl rfl 0 (by decide) (hts (.fieldLink RX0 9 "DearLetters$Best" "row" "[I") (by decide +kernel)) (fun _ h9 => h9) rfl hin rfl (by decide +kernel) (by first | rfl | decide) (by first | rfl | decide) (Nat.le_of_ble_eq_true rfl) dX0_init_9 (fun H locs hP hD hS => ?_)
  have hP : va_P (dC, dI) vwCl [(h0, .inr (0, [.ref q1, .int 0, .int 0, .int 0])), (q1, .inl (c1, 7, .inl (fun _ => 0)))] H := hP
  have hD : va_D (va_A [(h0, .inr (0, [.null, .int 0, .int 0, .int 0]))] s.heap.size) [(h0, .inr (0, [.ref q1, .int 0, .int 0, .int 0])), (q1, .inl (c1, 7, .inl (fun _ => 0)))] := hD
  have hP := hP.sub (ws' := [(h0, .inr (0, [.ref q1, .int 0, .int 0, .int 0]))]) [0] rfl
  have hD := hD.sub (ws' := [(h0, .inr (0, [.ref q1, .int 0, .int 0, .int 0]))]) [0] (by decide) rfl
  have hK := hK.sub (tys' := []) [] rfl
  have hP := hP.sub (ws' := []) [] rfl
  have hD := hD.sub (ws' := []) [] (by decide) rfl
  exact W.vret hx hb hr (fun t ht hW => ⟨⟨(), rfl, trivial, by first | (subst ht; exact hP) | (rw [ht]; exact hP), va_K.moved hW.alike hK, hD⟩, hS.F ht⟩) hS.2.2 dX0_init_12
theorem dX1_init_0 : decode cX1_init 0 = .ok (.aload_n 0, 1) := by decide +kernel
theorem dX1_init_1 : decode cX1_init 1 = .ok (.invokespecial 3, 3) := by decide +kernel
theorem dX1_init_4 : decode cX1_init 4 = .ok (.aload_n 0, 1) := by decide +kernel
theorem dX1_init_5 : decode cX1_init 5 = .ok (.bipush 7, 2) := by decide +kernel
theorem dX1_init_7 : decode cX1_init 7 = .ok (.newarray .int, 2) := by decide +kernel
theorem dX1_init_9 : decode cX1_init 9 = .ok (.putfield 9, 3) := by decide +kernel
theorem dX1_init_12 : decode cX1_init 12 = .ok (.aload_n 0, 1) := by decide +kernel
theorem dX1_init_13 : decode cX1_init 13 = .ok (.bipush 7, 2) := by decide +kernel
theorem dX1_init_15 : decode cX1_init 15 = .ok (.newarray .int, 2) := by decide +kernel
theorem dX1_init_17 : decode cX1_init 17 = .ok (.putfield 15, 3) := by decide +kernel
theorem dX1_init_20 : decode cX1_init 20 = .ok (.return_, 1) := by decide +kernel
set_option maxHeartbeats 4000000 in
set_option maxRecDepth 100000 in
/-- Fits -/
theorem ci_Fits (l : Launch) (dC : Nat → ClassId) (dI : Nat → Nat → Nat) (H : Heap) (h0 : Nat) (hP : va_P (dC, dI) vwCl [(h0, .inr (1, [.null, .null, .int 0, .int 0, .int 0]))] H) (hD0 : va_D (fun _ => True) [(h0, .inr (1, [.null, .null, .int 0, .int 0, .int 0]))]) : Met l yX1_init wsX1_init ({ frames := 1, cells := 2, slots := 14, locals := 14 }) (va_Pc [.ref h0] (kb_P (dC, dI) vwCl [] H)) (va_Qv (fun (_ : Unit) => True) (fun _ t => va_P (dC, dI) vwCl [] t.heap ∧ va_K (dC, dI) vwCl [] t ∧ va_D (va_A [(h0, .inr (1, [.null, .null, .int 0, .int 0, .int 0]))] H.size) []) (va_A [(h0, .inr (1, [.null, .null, .int 0, .int 0, .int 0]))] H.size)) 2 14 (va_A [(h0, .inr (1, [.null, .null, .int 0, .int 0, .int 0]))] H.size) := by
  refine Met.ofW (cc := cX1_init) (maxL := 1) (ret := none) (by decide) rfl ?_
  intro p e s m args below meth c s₁ B hml hv
  obtain ⟨rfl, hh, hK, hq⟩ := hv
  have hx := B.exec
  have hb := B.bytes
  have hr := B.returns
  have hts := atoms_spec (ws := wsX1_init) B.pre
  have hown : s.vm.findClass RX1 = some m.cls := findClass_of_methodNamed B.named
  have hlocks := B.notSynchronized
  have hin : meth.name = "<init>" := (name_of_methodNamed B.named B.method).1
  subst hh
  have hD := hD0.self (sz := s.heap.size)
  have hA : ∀ q : Nat, s.heap.size ≤ q → (va_A [(h0, .inr (1, [.null, .null, .int 0, .int 0, .int 0]))] s.heap.size) q := fun q h => Or.inr h
  have hS : va_S (va_A [(h0, .inr (1, [.null, .null, .int 0, .int 0, .int 0]))] s.heap.size) s.heap s.heap [] := va_S.rf
  have hl := lv_entry ([.ref h0]) (n := 1) (Nat.le_of_ble_eq_true rfl)
  rw [lg_entry_eq]
  generalize (lg_sl ([.ref h0]) ++ List.replicate (1 - (lg_sl ([.ref h0])).length) Slot.unset).toArray = ls at hl ⊢
  have hl : lv_has ls 1 [(0, .ref h0)] := hl
  refine lv_aload_n hx hb dX1_init_0 rfl (lv_at hl 0 rfl) ?_
  refine W.objInit hx hb hown (hts (.methodLink RX1 3 objectInit) (by decide +kernel)) (hts (.instanceMethod objectInit) (by decide +kernel)) (hts (.code objectInit ⟨#[0xb1]⟩ 1 none) (by decide +kernel)) rfl (by rw [hml]; exact hl.1) rfl dX1_init_1 (Nat.le_of_ble_eq_true rfl) (Nat.le_of_ble_eq_true rfl) ?_
  refine W.eq (g2 := F0 m 4 ls []) rfl ?_
  refine lv_aload_n hx hb dX1_init_4 rfl (lv_at hl 0 rfl) ?_
  refine lv_bipush (v := 7) hx hb dX1_init_5 (by decide) ?_
  refine va_newa (atype := .int) (a0 := (7, .inl (fun _ => 0))) hx hb (hts (.arrayClass .int) (by decide +kernel)) rfl hK hP hD hS hA (fun cA => rfl) (by decide) rfl (by decide) (Nat.le_of_ble_eq_true rfl) (Nat.le_of_ble_eq_true rfl) dX1_init_7 (fun q1 c1 H hK hP hD hS => ?_)
  have hP : va_P (dC, dI) vwCl [(h0, .inr (1, [.null, .null, .int 0, .int 0, .int 0])), (q1, .inl (c1, 7, .inl (fun _ => 0)))] H := hP
  have hD : va_D (va_A [(h0, .inr (1, [.null, .null, .int 0, .int 0, .int 0]))] s.heap.size) [(h0, .inr (1, [.null, .null, .int 0, .int 0, .int 0])), (q1, .inl (c1, 7, .inl (fun _ => 0)))] := hD
  have hK : va_K (dC, dI) vwCl [(c1, .int)] s := hK
  refine W.widen (k := 1) (n := 7) (Nat.le_of_ble_eq_true rfl) (Nat.le_of_ble_eq_true rfl) ?_
  refine va_putF (D := (dC, dI)) (ci := 1) (v := .ref q1) (ty := (.array .int)) (C := RX1) (T := TX1) (N := 5) hx hb hts (by decide +kernel) tyX1 tyX1_ok nmX1 hown hK hP hD hS 0 rfl rfl 0 (by decide) (hts (.fieldLink RX1 9 "DearLetters$Fits" "walk" "[I") (by decide +kernel)) (fun _ h9 => h9) rfl hin rfl (by decide +kernel) (by first | rfl | decide) (by first | rfl | decide) (Nat.le_of_ble_eq_true rfl) dX1_init_9 (fun H locs hP hD hS => ?_)
  have hP : va_P (dC, dI) vwCl [(h0, .inr (1, [.ref q1, .null, .int 0, .int 0, .int 0])), (q1, .inl (c1, 7, .inl (fun _ => 0)))] H := hP
  have hD : va_D (va_A [(h0, .inr (1, [.null, .null, .int 0, .int 0, .int 0]))] s.heap.size) [(h0, .inr (1, [.ref q1, .null, .int 0, .int 0, .int 0])), (q1, .inl (c1, 7, .inl (fun _ => 0)))] := hD
  have hP := hP.sub (ws' := [(h0, .inr (1, [.ref q1, .null, .int 0, .int 0, .int 0]))]) [0] rfl
  have hD := hD.sub (ws' := [(h0, .inr (1, [.ref q1, .null, .int 0, .int 0, .int 0]))]) [0] (by decide) rfl
  have hK := hK.sub (tys' := []) [] rfl
  refine lv_aload_n hx hb dX1_init_12 rfl (lv_at hl 0 rfl) ?_
  refine lv_bipush (v := 7) hx hb dX1_init_13 (by decide) ?_
  refine va_newa (atype := .int) (a0 := (7, .inl (fun _ => 0))) hx hb (hts (.arrayClass .int) (by decide +kernel)) rfl hK hP hD hS hA (fun cA => rfl) (by decide) rfl (by decide) (Nat.le_of_ble_eq_true rfl) (Nat.le_of_ble_eq_true rfl) dX1_init_15 (fun q2 c2 H hK hP hD hS => ?_)
  have hP : va_P (dC, dI) vwCl [(h0, .inr (1, [.ref q1, .null, .int 0, .int 0, .int 0])), (q2, .inl (c2, 7, .inl (fun _ => 0)))] H := hP
  have hD : va_D (va_A [(h0, .inr (1, [.null, .null, .int 0, .int 0, .int 0]))] s.heap.size) [(h0, .inr (1, [.ref q1, .null, .int 0, .int 0, .int 0])), (q2, .inl (c2, 7, .inl (fun _ => 0)))] := hD
  have hK : va_K (dC, dI) vwCl [(c2, .int)] s := hK
  refine W.widen (k := 2) (n := 14) (Nat.le_of_ble_eq_true rfl) (Nat.le_of_ble_eq_true rfl) ?_
  refine va_putF (D := (dC, dI)) (ci := 1) (v := .ref q2) (ty := (.array .int)) (C := RX1) (T := TX1) (N := 5) hx hb hts (by decide +kernel) tyX1 tyX1_ok nmX1 hown hK hP hD hS 0 rfl rfl 1 (by decide) (hts (.fieldLink RX1 15 "DearLetters$Fits" "firstRow" "[I") (by decide +kernel)) (fun _ h9 => h9) rfl hin rfl (by decide +kernel) (by first | rfl | decide) (by first | rfl | decide) (Nat.le_of_ble_eq_true rfl) dX1_init_17 (fun H locs hP hD hS => ?_)
  have hP : va_P (dC, dI) vwCl [(h0, .inr (1, [.ref q1, .ref q2, .int 0, .int 0, .int 0])), (q2, .inl (c2, 7, .inl (fun _ => 0)))] H := hP
  have hD : va_D (va_A [(h0, .inr (1, [.null, .null, .int 0, .int 0, .int 0]))] s.heap.size) [(h0, .inr (1, [.ref q1, .ref q2, .int 0, .int 0, .int 0])), (q2, .inl (c2, 7, .inl (fun _ => 0)))] := hD
  have hP := hP.sub (ws' := [(h0, .inr (1, [.ref q1, .ref q2, .int 0, .int 0, .int 0]))]) [0] rfl
  have hD := hD.sub (ws' := [(h0, .inr (1, [.ref q1, .ref q2, .int 0, .int 0, .int 0]))]) [0] (by decide) rfl
  have hK := hK.sub (tys' := []) [] rfl
  have hP := hP.sub (ws' := []) [] rfl
  have hD := hD.sub (ws' := []) [] (by decide) rfl
  exact W.vret hx hb hr (fun t ht hW => ⟨⟨(), rfl, trivial, by first | (subst ht; exact hP) | (rw [ht]; exact hP), va_K.moved hW.alike hK, hD⟩, hS.F ht⟩) hS.2.2 dX1_init_20
theorem dX4_init_0 : decode cX4_init 0 = .ok (.aload_n 0, 1) := by decide +kernel
theorem dX4_init_1 : decode cX4_init 1 = .ok (.invokespecial 3, 3) := by decide +kernel
theorem dX4_init_4 : decode cX4_init 4 = .ok (.aload_n 0, 1) := by decide +kernel
theorem dX4_init_5 : decode cX4_init 5 = .ok (.bipush 7, 2) := by decide +kernel
theorem dX4_init_7 : decode cX4_init 7 = .ok (.newarray .int, 2) := by decide +kernel
theorem dX4_init_9 : decode cX4_init 9 = .ok (.putfield 9, 3) := by decide +kernel
theorem dX4_init_12 : decode cX4_init 12 = .ok (.aload_n 0, 1) := by decide +kernel
theorem dX4_init_13 : decode cX4_init 13 = .ok (.bipush 7, 2) := by decide +kernel
theorem dX4_init_15 : decode cX4_init 15 = .ok (.newarray .int, 2) := by decide +kernel
theorem dX4_init_17 : decode cX4_init 17 = .ok (.putfield 15, 3) := by decide +kernel
theorem dX4_init_20 : decode cX4_init 20 = .ok (.aload_n 0, 1) := by decide +kernel
theorem dX4_init_21 : decode cX4_init 21 = .ok (.bipush 12, 2) := by decide +kernel
theorem dX4_init_23 : decode cX4_init 23 = .ok (.newarray .int, 2) := by decide +kernel
theorem dX4_init_25 : decode cX4_init 25 = .ok (.putfield 18, 3) := by decide +kernel
theorem dX4_init_28 : decode cX4_init 28 = .ok (.aload_n 0, 1) := by decide +kernel
theorem dX4_init_29 : decode cX4_init 29 = .ok (.bipush 12, 2) := by decide +kernel
theorem dX4_init_31 : decode cX4_init 31 = .ok (.newarray .int, 2) := by decide +kernel
theorem dX4_init_33 : decode cX4_init 33 = .ok (.putfield 21, 3) := by decide +kernel
theorem dX4_init_36 : decode cX4_init 36 = .ok (.return_, 1) := by decide +kernel
set_option maxHeartbeats 4000000 in
set_option maxRecDepth 100000 in
/-- Reading -/
theorem ci_Reading (l : Launch) (dC : Nat → ClassId) (dI : Nat → Nat → Nat) (H : Heap) (h0 : Nat) (hP : va_P (dC, dI) vwCl [(h0, .inr (4, [.null, .null, .null, .null, .int 0, .int 0]))] H) (hD0 : va_D (fun _ => True) [(h0, .inr (4, [.null, .null, .null, .null, .int 0, .int 0]))]) : Met l yX4_init wsX4_init ({ frames := 1, cells := 4, slots := 38, locals := 14 }) (va_Pc [.ref h0] (kb_P (dC, dI) vwCl [] H)) (va_Qv (fun (_ : Unit) => True) (fun _ t => va_P (dC, dI) vwCl [] t.heap ∧ va_K (dC, dI) vwCl [] t ∧ va_D (va_A [(h0, .inr (4, [.null, .null, .null, .null, .int 0, .int 0]))] H.size) []) (va_A [(h0, .inr (4, [.null, .null, .null, .null, .int 0, .int 0]))] H.size)) 4 38 (va_A [(h0, .inr (4, [.null, .null, .null, .null, .int 0, .int 0]))] H.size) := by
  refine Met.ofW (cc := cX4_init) (maxL := 1) (ret := none) (by decide) rfl ?_
  intro p e s m args below meth c s₁ B hml hv
  obtain ⟨rfl, hh, hK, hq⟩ := hv
  have hx := B.exec
  have hb := B.bytes
  have hr := B.returns
  have hts := atoms_spec (ws := wsX4_init) B.pre
  have hown : s.vm.findClass RX4 = some m.cls := findClass_of_methodNamed B.named
  have hlocks := B.notSynchronized
  have hin : meth.name = "<init>" := (name_of_methodNamed B.named B.method).1
  subst hh
  have hD := hD0.self (sz := s.heap.size)
  have hA : ∀ q : Nat, s.heap.size ≤ q → (va_A [(h0, .inr (4, [.null, .null, .null, .null, .int 0, .int 0]))] s.heap.size) q := fun q h => Or.inr h
  have hS : va_S (va_A [(h0, .inr (4, [.null, .null, .null, .null, .int 0, .int 0]))] s.heap.size) s.heap s.heap [] := va_S.rf
  have hl := lv_entry ([.ref h0]) (n := 1) (Nat.le_of_ble_eq_true rfl)
  rw [lg_entry_eq]
  generalize (lg_sl ([.ref h0]) ++ List.replicate (1 - (lg_sl ([.ref h0])).length) Slot.unset).toArray = ls at hl ⊢
  have hl : lv_has ls 1 [(0, .ref h0)] := hl
  refine lv_aload_n hx hb dX4_init_0 rfl (lv_at hl 0 rfl) ?_
  refine W.objInit hx hb hown (hts (.methodLink RX4 3 objectInit) (by decide +kernel)) (hts (.instanceMethod objectInit) (by decide +kernel)) (hts (.code objectInit ⟨#[0xb1]⟩ 1 none) (by decide +kernel)) rfl (by rw [hml]; exact hl.1) rfl dX4_init_1 (Nat.le_of_ble_eq_true rfl) (Nat.le_of_ble_eq_true rfl) ?_
  refine W.eq (g2 := F0 m 4 ls []) rfl ?_
  refine lv_aload_n hx hb dX4_init_4 rfl (lv_at hl 0 rfl) ?_
  refine lv_bipush (v := 7) hx hb dX4_init_5 (by decide) ?_
  refine va_newa (atype := .int) (a0 := (7, .inl (fun _ => 0))) hx hb (hts (.arrayClass .int) (by decide +kernel)) rfl hK hP hD hS hA (fun cA => rfl) (by decide) rfl (by decide) (Nat.le_of_ble_eq_true rfl) (Nat.le_of_ble_eq_true rfl) dX4_init_7 (fun q1 c1 H hK hP hD hS => ?_)
  have hP : va_P (dC, dI) vwCl [(h0, .inr (4, [.null, .null, .null, .null, .int 0, .int 0])), (q1, .inl (c1, 7, .inl (fun _ => 0)))] H := hP
  have hD : va_D (va_A [(h0, .inr (4, [.null, .null, .null, .null, .int 0, .int 0]))] s.heap.size) [(h0, .inr (4, [.null, .null, .null, .null, .int 0, .int 0])), (q1, .inl (c1, 7, .inl (fun _ => 0)))] := hD
  have hK : va_K (dC, dI) vwCl [(c1, .int)] s := hK
  refine W.widen (k := 1) (n := 7) (Nat.le_of_ble_eq_true rfl) (Nat.le_of_ble_eq_true rfl) ?_
  refine va_putF (D := (dC, dI)) (ci := 4) (v := .ref q1) (ty := (.array .int)) (C := RX4) (T := TX4) (N := 6) hx hb hts (by decide +kernel) tyX4 tyX4_ok nmX4 hown hK hP hD hS 0 rfl rfl 0 (by decide) (hts (.fieldLink RX4 9 "DearLetters$Reading" "kinds" "[I") (by decide +kernel)) (fun _ h9 => h9) rfl hin rfl (by decide +kernel) (by first | rfl | decide) (by first | rfl | decide) (Nat.le_of_ble_eq_true rfl) dX4_init_9 (fun H locs hP hD hS => ?_)
  have hP : va_P (dC, dI) vwCl [(h0, .inr (4, [.ref q1, .null, .null, .null, .int 0, .int 0])), (q1, .inl (c1, 7, .inl (fun _ => 0)))] H := hP
  have hD : va_D (va_A [(h0, .inr (4, [.null, .null, .null, .null, .int 0, .int 0]))] s.heap.size) [(h0, .inr (4, [.ref q1, .null, .null, .null, .int 0, .int 0])), (q1, .inl (c1, 7, .inl (fun _ => 0)))] := hD
  have hP := hP.sub (ws' := [(h0, .inr (4, [.ref q1, .null, .null, .null, .int 0, .int 0]))]) [0] rfl
  have hD := hD.sub (ws' := [(h0, .inr (4, [.ref q1, .null, .null, .null, .int 0, .int 0]))]) [0] (by decide) rfl
  have hK := hK.sub (tys' := []) [] rfl
  refine lv_aload_n hx hb dX4_init_12 rfl (lv_at hl 0 rfl) ?_
  refine lv_bipush (v := 7) hx hb dX4_init_13 (by decide) ?_
  refine va_newa (atype := .int) (a0 := (7, .inl (fun _ => 0))) hx hb (hts (.arrayClass .int) (by decide +kernel)) rfl hK hP hD hS hA (fun cA => rfl) (by decide) rfl (by decide) (Nat.le_of_ble_eq_true rfl) (Nat.le_of_ble_eq_true rfl) dX4_init_15 (fun q2 c2 H hK hP hD hS => ?_)
  have hP : va_P (dC, dI) vwCl [(h0, .inr (4, [.ref q1, .null, .null, .null, .int 0, .int 0])), (q2, .inl (c2, 7, .inl (fun _ => 0)))] H := hP
  have hD : va_D (va_A [(h0, .inr (4, [.null, .null, .null, .null, .int 0, .int 0]))] s.heap.size) [(h0, .inr (4, [.ref q1, .null, .null, .null, .int 0, .int 0])), (q2, .inl (c2, 7, .inl (fun _ => 0)))] := hD
  have hK : va_K (dC, dI) vwCl [(c2, .int)] s := hK
  refine W.widen (k := 2) (n := 14) (Nat.le_of_ble_eq_true rfl) (Nat.le_of_ble_eq_true rfl) ?_
  refine va_putF (D := (dC, dI)) (ci := 4) (v := .ref q2) (ty := (.array .int)) (C := RX4) (T := TX4) (N := 6) hx hb hts (by decide +kernel) tyX4 tyX4_ok nmX4 hown hK hP hD hS 0 rfl rfl 1 (by decide) (hts (.fieldLink RX4 15 "DearLetters$Reading" "purses" "[I") (by decide +kernel)) (fun _ h9 => h9) rfl hin rfl (by decide +kernel) (by first | rfl | decide) (by first | rfl | decide) (Nat.le_of_ble_eq_true rfl) dX4_init_17 (fun H locs hP hD hS => ?_)
  have hP : va_P (dC, dI) vwCl [(h0, .inr (4, [.ref q1, .ref q2, .null, .null, .int 0, .int 0])), (q2, .inl (c2, 7, .inl (fun _ => 0)))] H := hP
  have hD : va_D (va_A [(h0, .inr (4, [.null, .null, .null, .null, .int 0, .int 0]))] s.heap.size) [(h0, .inr (4, [.ref q1, .ref q2, .null, .null, .int 0, .int 0])), (q2, .inl (c2, 7, .inl (fun _ => 0)))] := hD
  have hP := hP.sub (ws' := [(h0, .inr (4, [.ref q1, .ref q2, .null, .null, .int 0, .int 0]))]) [0] rfl
  have hD := hD.sub (ws' := [(h0, .inr (4, [.ref q1, .ref q2, .null, .null, .int 0, .int 0]))]) [0] (by decide) rfl
  have hK := hK.sub (tys' := []) [] rfl
  refine lv_aload_n hx hb dX4_init_20 rfl (lv_at hl 0 rfl) ?_
  refine lv_bipush (v := 12) hx hb dX4_init_21 (by decide) ?_
  refine va_newa (atype := .int) (a0 := (12, .inl (fun _ => 0))) hx hb (hts (.arrayClass .int) (by decide +kernel)) rfl hK hP hD hS hA (fun cA => rfl) (by decide) rfl (by decide) (Nat.le_of_ble_eq_true rfl) (Nat.le_of_ble_eq_true rfl) dX4_init_23 (fun q3 c3 H hK hP hD hS => ?_)
  have hP : va_P (dC, dI) vwCl [(h0, .inr (4, [.ref q1, .ref q2, .null, .null, .int 0, .int 0])), (q3, .inl (c3, 12, .inl (fun _ => 0)))] H := hP
  have hD : va_D (va_A [(h0, .inr (4, [.null, .null, .null, .null, .int 0, .int 0]))] s.heap.size) [(h0, .inr (4, [.ref q1, .ref q2, .null, .null, .int 0, .int 0])), (q3, .inl (c3, 12, .inl (fun _ => 0)))] := hD
  have hK : va_K (dC, dI) vwCl [(c3, .int)] s := hK
  refine W.widen (k := 3) (n := 26) (Nat.le_of_ble_eq_true rfl) (Nat.le_of_ble_eq_true rfl) ?_
  refine va_putF (D := (dC, dI)) (ci := 4) (v := .ref q3) (ty := (.array .int)) (C := RX4) (T := TX4) (N := 6) hx hb hts (by decide +kernel) tyX4 tyX4_ok nmX4 hown hK hP hD hS 0 rfl rfl 2 (by decide) (hts (.fieldLink RX4 18 "DearLetters$Reading" "oneEnds" "[I") (by decide +kernel)) (fun _ h9 => h9) rfl hin rfl (by decide +kernel) (by first | rfl | decide) (by first | rfl | decide) (Nat.le_of_ble_eq_true rfl) dX4_init_25 (fun H locs hP hD hS => ?_)
  have hP : va_P (dC, dI) vwCl [(h0, .inr (4, [.ref q1, .ref q2, .ref q3, .null, .int 0, .int 0])), (q3, .inl (c3, 12, .inl (fun _ => 0)))] H := hP
  have hD : va_D (va_A [(h0, .inr (4, [.null, .null, .null, .null, .int 0, .int 0]))] s.heap.size) [(h0, .inr (4, [.ref q1, .ref q2, .ref q3, .null, .int 0, .int 0])), (q3, .inl (c3, 12, .inl (fun _ => 0)))] := hD
  have hP := hP.sub (ws' := [(h0, .inr (4, [.ref q1, .ref q2, .ref q3, .null, .int 0, .int 0]))]) [0] rfl
  have hD := hD.sub (ws' := [(h0, .inr (4, [.ref q1, .ref q2, .ref q3, .null, .int 0, .int 0]))]) [0] (by decide) rfl
  have hK := hK.sub (tys' := []) [] rfl
  refine lv_aload_n hx hb dX4_init_28 rfl (lv_at hl 0 rfl) ?_
  refine lv_bipush (v := 12) hx hb dX4_init_29 (by decide) ?_
  refine va_newa (atype := .int) (a0 := (12, .inl (fun _ => 0))) hx hb (hts (.arrayClass .int) (by decide +kernel)) rfl hK hP hD hS hA (fun cA => rfl) (by decide) rfl (by decide) (Nat.le_of_ble_eq_true rfl) (Nat.le_of_ble_eq_true rfl) dX4_init_31 (fun q4 c4 H hK hP hD hS => ?_)
  have hP : va_P (dC, dI) vwCl [(h0, .inr (4, [.ref q1, .ref q2, .ref q3, .null, .int 0, .int 0])), (q4, .inl (c4, 12, .inl (fun _ => 0)))] H := hP
  have hD : va_D (va_A [(h0, .inr (4, [.null, .null, .null, .null, .int 0, .int 0]))] s.heap.size) [(h0, .inr (4, [.ref q1, .ref q2, .ref q3, .null, .int 0, .int 0])), (q4, .inl (c4, 12, .inl (fun _ => 0)))] := hD
  have hK : va_K (dC, dI) vwCl [(c4, .int)] s := hK
  refine W.widen (k := 4) (n := 38) (Nat.le_of_ble_eq_true rfl) (Nat.le_of_ble_eq_true rfl) ?_
  refine va_putF (D := (dC, dI)) (ci := 4) (v := .ref q4) (ty := (.array .int)) (C := RX4) (T := TX4) (N := 6) hx hb hts (by decide +kernel) tyX4 tyX4_ok nmX4 hown hK hP hD hS 0 rfl rfl 3 (by decide) (hts (.fieldLink RX4 21 "DearLetters$Reading" "otherEnds" "[I") (by decide +kernel)) (fun _ h9 => h9) rfl hin rfl (by decide +kernel) (by first | rfl | decide) (by first | rfl | decide) (Nat.le_of_ble_eq_true rfl) dX4_init_33 (fun H locs hP hD hS => ?_)
  have hP : va_P (dC, dI) vwCl [(h0, .inr (4, [.ref q1, .ref q2, .ref q3, .ref q4, .int 0, .int 0])), (q4, .inl (c4, 12, .inl (fun _ => 0)))] H := hP
  have hD : va_D (va_A [(h0, .inr (4, [.null, .null, .null, .null, .int 0, .int 0]))] s.heap.size) [(h0, .inr (4, [.ref q1, .ref q2, .ref q3, .ref q4, .int 0, .int 0])), (q4, .inl (c4, 12, .inl (fun _ => 0)))] := hD
  have hP := hP.sub (ws' := [(h0, .inr (4, [.ref q1, .ref q2, .ref q3, .ref q4, .int 0, .int 0]))]) [0] rfl
  have hD := hD.sub (ws' := [(h0, .inr (4, [.ref q1, .ref q2, .ref q3, .ref q4, .int 0, .int 0]))]) [0] (by decide) rfl
  have hK := hK.sub (tys' := []) [] rfl
  have hP := hP.sub (ws' := []) [] rfl
  have hD := hD.sub (ws' := []) [] (by decide) rfl
  exact W.vret hx hb hr (fun t ht hW => ⟨⟨(), rfl, trivial, by first | (subst ht; exact hP) | (rw [ht]; exact hP), va_K.moved hW.alike hK, hD⟩, hS.F ht⟩) hS.2.2 dX4_init_36
theorem dX5_init_0 : decode cX5_init 0 = .ok (.aload_n 0, 1) := by decide +kernel
theorem dX5_init_1 : decode cX5_init 1 = .ok (.invokespecial 3, 3) := by decide +kernel
theorem dX5_init_4 : decode cX5_init 4 = .ok (.aload_n 0, 1) := by decide +kernel
theorem dX5_init_5 : decode cX5_init 5 = .ok (.bipush 7, 2) := by decide +kernel
theorem dX5_init_7 : decode cX5_init 7 = .ok (.newarray .int, 2) := by decide +kernel
theorem dX5_init_9 : decode cX5_init 9 = .ok (.putfield 9, 3) := by decide +kernel
theorem dX5_init_12 : decode cX5_init 12 = .ok (.aload_n 0, 1) := by decide +kernel
theorem dX5_init_13 : decode cX5_init 13 = .ok (.bipush 7, 2) := by decide +kernel
theorem dX5_init_15 : decode cX5_init 15 = .ok (.newarray .int, 2) := by decide +kernel
theorem dX5_init_17 : decode cX5_init 17 = .ok (.putfield 15, 3) := by decide +kernel
theorem dX5_init_20 : decode cX5_init 20 = .ok (.aload_n 0, 1) := by decide +kernel
theorem dX5_init_21 : decode cX5_init 21 = .ok (.bipush 7, 2) := by decide +kernel
theorem dX5_init_23 : decode cX5_init 23 = .ok (.newarray .int, 2) := by decide +kernel
theorem dX5_init_25 : decode cX5_init 25 = .ok (.putfield 18, 3) := by decide +kernel
theorem dX5_init_28 : decode cX5_init 28 = .ok (.aload_n 0, 1) := by decide +kernel
theorem dX5_init_29 : decode cX5_init 29 = .ok (.new 21, 3) := by decide +kernel
theorem dX5_init_32 : decode cX5_init 32 = .ok (.dup, 1) := by decide +kernel
theorem dX5_init_33 : decode cX5_init 33 = .ok (.invokespecial 23, 3) := by decide +kernel
theorem dX5_init_36 : decode cX5_init 36 = .ok (.putfield 24, 3) := by decide +kernel
theorem dX5_init_39 : decode cX5_init 39 = .ok (.aload_n 0, 1) := by decide +kernel
theorem dX5_init_40 : decode cX5_init 40 = .ok (.new 21, 3) := by decide +kernel
theorem dX5_init_43 : decode cX5_init 43 = .ok (.dup, 1) := by decide +kernel
theorem dX5_init_44 : decode cX5_init 44 = .ok (.invokespecial 23, 3) := by decide +kernel
theorem dX5_init_47 : decode cX5_init 47 = .ok (.putfield 28, 3) := by decide +kernel
theorem dX5_init_50 : decode cX5_init 50 = .ok (.return_, 1) := by decide +kernel
set_option maxRecDepth 20000 in
theorem ggX5_init_X0_init : GoodIn wsX5_init wsX0_init := goodIn_r _ [14, 15, 2, 3, 4, 16, 32, 33, 34, 35] (by decide +kernel) (by decide +kernel)
set_option maxRecDepth 20000 in
theorem gX5_init_X0_init_n23 : GoodIn wsX5_init (wsX0_init) := ggX5_init_X0_init
set_option maxHeartbeats 4000000 in
set_option maxRecDepth 100000 in
/-- Routes -/
theorem ci_Routes (l : Launch) (dC : Nat → ClassId) (dI : Nat → Nat → Nat) (H : Heap) (h0 : Nat) (hP : va_P (dC, dI) vwCl [(h0, .inr (5, [.null, .null, .null, .null, .null, .int 0, .int 0, .int 0, .int 0, .int 0, .int 0, .int 0, .int 0, .int 0, .int 0]))] H) (hD0 : va_D (fun _ => True) [(h0, .inr (5, [.null, .null, .null, .null, .null, .int 0, .int 0, .int 0, .int 0, .int 0, .int 0, .int 0, .int 0, .int 0, .int 0]))]) : Met l yX5_init wsX5_init ({ frames := 2, cells := 7, slots := 43, locals := 34 }) (va_Pc [.ref h0] (kb_P (dC, dI) vwCl [] H)) (va_Qv (fun (_ : Unit) => True) (fun _ t => va_P (dC, dI) vwCl [] t.heap ∧ va_K (dC, dI) vwCl [] t ∧ va_D (va_A [(h0, .inr (5, [.null, .null, .null, .null, .null, .int 0, .int 0, .int 0, .int 0, .int 0, .int 0, .int 0, .int 0, .int 0, .int 0]))] H.size) []) (va_A [(h0, .inr (5, [.null, .null, .null, .null, .null, .int 0, .int 0, .int 0, .int 0, .int 0, .int 0, .int 0, .int 0, .int 0, .int 0]))] H.size)) 7 43 (va_A [(h0, .inr (5, [.null, .null, .null, .null, .null, .int 0, .int 0, .int 0, .int 0, .int 0, .int 0, .int 0, .int 0, .int 0, .int 0]))] H.size) := by
  refine Met.ofW (cc := cX5_init) (maxL := 1) (ret := none) (by decide) rfl ?_
  intro p e s m args below meth c s₁ B hml hv
  obtain ⟨rfl, hh, hK, hq⟩ := hv
  have hx := B.exec
  have hb := B.bytes
  have hr := B.returns
  have hts := atoms_spec (ws := wsX5_init) B.pre
  have hown : s.vm.findClass RX5 = some m.cls := findClass_of_methodNamed B.named
  have hlocks := B.notSynchronized
  have hin : meth.name = "<init>" := (name_of_methodNamed B.named B.method).1
  subst hh
  have hD := hD0.self (sz := s.heap.size)
  have hA : ∀ q : Nat, s.heap.size ≤ q → (va_A [(h0, .inr (5, [.null, .null, .null, .null, .null, .int 0, .int 0, .int 0, .int 0, .int 0, .int 0, .int 0, .int 0, .int 0, .int 0]))] s.heap.size) q := fun q h => Or.inr h
  have hS : va_S (va_A [(h0, .inr (5, [.null, .null, .null, .null, .null, .int 0, .int 0, .int 0, .int 0, .int 0, .int 0, .int 0, .int 0, .int 0, .int 0]))] s.heap.size) s.heap s.heap [] := va_S.rf
  have hl := lv_entry ([.ref h0]) (n := 1) (Nat.le_of_ble_eq_true rfl)
  rw [lg_entry_eq]
  generalize (lg_sl ([.ref h0]) ++ List.replicate (1 - (lg_sl ([.ref h0])).length) Slot.unset).toArray = ls at hl ⊢
  have hl : lv_has ls 1 [(0, .ref h0)] := hl
  refine lv_aload_n hx hb dX5_init_0 rfl (lv_at hl 0 rfl) ?_
  refine W.objInit hx hb hown (hts (.methodLink RX5 3 objectInit) (by decide +kernel)) (hts (.instanceMethod objectInit) (by decide +kernel)) (hts (.code objectInit ⟨#[0xb1]⟩ 1 none) (by decide +kernel)) rfl (by rw [hml]; exact hl.1) rfl dX5_init_1 (Nat.le_of_ble_eq_true rfl) (Nat.le_of_ble_eq_true rfl) ?_
  refine W.eq (g2 := F0 m 4 ls []) rfl ?_
  refine lv_aload_n hx hb dX5_init_4 rfl (lv_at hl 0 rfl) ?_
  refine lv_bipush (v := 7) hx hb dX5_init_5 (by decide) ?_
  refine va_newa (atype := .int) (a0 := (7, .inl (fun _ => 0))) hx hb (hts (.arrayClass .int) (by decide +kernel)) rfl hK hP hD hS hA (fun cA => rfl) (by decide) rfl (by decide) (Nat.le_of_ble_eq_true rfl) (Nat.le_of_ble_eq_true rfl) dX5_init_7 (fun q1 c1 H hK hP hD hS => ?_)
  have hP : va_P (dC, dI) vwCl [(h0, .inr (5, [.null, .null, .null, .null, .null, .int 0, .int 0, .int 0, .int 0, .int 0, .int 0, .int 0, .int 0, .int 0, .int 0])), (q1, .inl (c1, 7, .inl (fun _ => 0)))] H := hP
  have hD : va_D (va_A [(h0, .inr (5, [.null, .null, .null, .null, .null, .int 0, .int 0, .int 0, .int 0, .int 0, .int 0, .int 0, .int 0, .int 0, .int 0]))] s.heap.size) [(h0, .inr (5, [.null, .null, .null, .null, .null, .int 0, .int 0, .int 0, .int 0, .int 0, .int 0, .int 0, .int 0, .int 0, .int 0])), (q1, .inl (c1, 7, .inl (fun _ => 0)))] := hD
  have hK : va_K (dC, dI) vwCl [(c1, .int)] s := hK
  refine W.widen (k := 1) (n := 7) (Nat.le_of_ble_eq_true rfl) (Nat.le_of_ble_eq_true rfl) ?_
  refine va_putF (D := (dC, dI)) (ci := 5) (v := .ref q1) (ty := (.array .int)) (C := RX5) (T := TX5) (N := 15) hx hb hts (by decide +kernel) tyX5 tyX5_ok nmX5 hown hK hP hD hS 0 rfl rfl 0 (by decide) (hts (.fieldLink RX5 9 "DearLetters$Routes" "near" "[I") (by decide +kernel)) (fun _ h9 => h9) rfl hin rfl (by decide +kernel) (by first | rfl | decide) (by first | rfl | decide) (Nat.le_of_ble_eq_true rfl) dX5_init_9 (fun H locs hP hD hS => ?_)
  have hP : va_P (dC, dI) vwCl [(h0, .inr (5, [.ref q1, .null, .null, .null, .null, .int 0, .int 0, .int 0, .int 0, .int 0, .int 0, .int 0, .int 0, .int 0, .int 0])), (q1, .inl (c1, 7, .inl (fun _ => 0)))] H := hP
  have hD : va_D (va_A [(h0, .inr (5, [.null, .null, .null, .null, .null, .int 0, .int 0, .int 0, .int 0, .int 0, .int 0, .int 0, .int 0, .int 0, .int 0]))] s.heap.size) [(h0, .inr (5, [.ref q1, .null, .null, .null, .null, .int 0, .int 0, .int 0, .int 0, .int 0, .int 0, .int 0, .int 0, .int 0, .int 0])), (q1, .inl (c1, 7, .inl (fun _ => 0)))] := hD
  have hP := hP.sub (ws' := [(h0, .inr (5, [.ref q1, .null, .null, .null, .null, .int 0, .int 0, .int 0, .int 0, .int 0, .int 0, .int 0, .int 0, .int 0, .int 0]))]) [0] rfl
  have hD := hD.sub (ws' := [(h0, .inr (5, [.ref q1, .null, .null, .null, .null, .int 0, .int 0, .int 0, .int 0, .int 0, .int 0, .int 0, .int 0, .int 0, .int 0]))]) [0] (by decide) rfl
  have hK := hK.sub (tys' := []) [] rfl
  refine lv_aload_n hx hb dX5_init_12 rfl (lv_at hl 0 rfl) ?_
  refine lv_bipush (v := 7) hx hb dX5_init_13 (by decide) ?_
  refine va_newa (atype := .int) (a0 := (7, .inl (fun _ => 0))) hx hb (hts (.arrayClass .int) (by decide +kernel)) rfl hK hP hD hS hA (fun cA => rfl) (by decide) rfl (by decide) (Nat.le_of_ble_eq_true rfl) (Nat.le_of_ble_eq_true rfl) dX5_init_15 (fun q2 c2 H hK hP hD hS => ?_)
  have hP : va_P (dC, dI) vwCl [(h0, .inr (5, [.ref q1, .null, .null, .null, .null, .int 0, .int 0, .int 0, .int 0, .int 0, .int 0, .int 0, .int 0, .int 0, .int 0])), (q2, .inl (c2, 7, .inl (fun _ => 0)))] H := hP
  have hD : va_D (va_A [(h0, .inr (5, [.null, .null, .null, .null, .null, .int 0, .int 0, .int 0, .int 0, .int 0, .int 0, .int 0, .int 0, .int 0, .int 0]))] s.heap.size) [(h0, .inr (5, [.ref q1, .null, .null, .null, .null, .int 0, .int 0, .int 0, .int 0, .int 0, .int 0, .int 0, .int 0, .int 0, .int 0])), (q2, .inl (c2, 7, .inl (fun _ => 0)))] := hD
  have hK : va_K (dC, dI) vwCl [(c2, .int)] s := hK
  refine W.widen (k := 2) (n := 14) (Nat.le_of_ble_eq_true rfl) (Nat.le_of_ble_eq_true rfl) ?_
  refine va_putF (D := (dC, dI)) (ci := 5) (v := .ref q2) (ty := (.array .int)) (C := RX5) (T := TX5) (N := 15) hx hb hts (by decide +kernel) tyX5 tyX5_ok nmX5 hown hK hP hD hS 0 rfl rfl 1 (by decide) (hts (.fieldLink RX5 15 "DearLetters$Routes" "purses" "[I") (by decide +kernel)) (fun _ h9 => h9) rfl hin rfl (by decide +kernel) (by first | rfl | decide) (by first | rfl | decide) (Nat.le_of_ble_eq_true rfl) dX5_init_17 (fun H locs hP hD hS => ?_)
  have hP : va_P (dC, dI) vwCl [(h0, .inr (5, [.ref q1, .ref q2, .null, .null, .null, .int 0, .int 0, .int 0, .int 0, .int 0, .int 0, .int 0, .int 0, .int 0, .int 0])), (q2, .inl (c2, 7, .inl (fun _ => 0)))] H := hP
  have hD : va_D (va_A [(h0, .inr (5, [.null, .null, .null, .null, .null, .int 0, .int 0, .int 0, .int 0, .int 0, .int 0, .int 0, .int 0, .int 0, .int 0]))] s.heap.size) [(h0, .inr (5, [.ref q1, .ref q2, .null, .null, .null, .int 0, .int 0, .int 0, .int 0, .int 0, .int 0, .int 0, .int 0, .int 0, .int 0])), (q2, .inl (c2, 7, .inl (fun _ => 0)))] := hD
  have hP := hP.sub (ws' := [(h0, .inr (5, [.ref q1, .ref q2, .null, .null, .null, .int 0, .int 0, .int 0, .int 0, .int 0, .int 0, .int 0, .int 0, .int 0, .int 0]))]) [0] rfl
  have hD := hD.sub (ws' := [(h0, .inr (5, [.ref q1, .ref q2, .null, .null, .null, .int 0, .int 0, .int 0, .int 0, .int 0, .int 0, .int 0, .int 0, .int 0, .int 0]))]) [0] (by decide) rfl
  have hK := hK.sub (tys' := []) [] rfl
  refine lv_aload_n hx hb dX5_init_20 rfl (lv_at hl 0 rfl) ?_
  refine lv_bipush (v := 7) hx hb dX5_init_21 (by decide) ?_
  refine va_newa (atype := .int) (a0 := (7, .inl (fun _ => 0))) hx hb (hts (.arrayClass .int) (by decide +kernel)) rfl hK hP hD hS hA (fun cA => rfl) (by decide) rfl (by decide) (Nat.le_of_ble_eq_true rfl) (Nat.le_of_ble_eq_true rfl) dX5_init_23 (fun q3 c3 H hK hP hD hS => ?_)
  have hP : va_P (dC, dI) vwCl [(h0, .inr (5, [.ref q1, .ref q2, .null, .null, .null, .int 0, .int 0, .int 0, .int 0, .int 0, .int 0, .int 0, .int 0, .int 0, .int 0])), (q3, .inl (c3, 7, .inl (fun _ => 0)))] H := hP
  have hD : va_D (va_A [(h0, .inr (5, [.null, .null, .null, .null, .null, .int 0, .int 0, .int 0, .int 0, .int 0, .int 0, .int 0, .int 0, .int 0, .int 0]))] s.heap.size) [(h0, .inr (5, [.ref q1, .ref q2, .null, .null, .null, .int 0, .int 0, .int 0, .int 0, .int 0, .int 0, .int 0, .int 0, .int 0, .int 0])), (q3, .inl (c3, 7, .inl (fun _ => 0)))] := hD
  have hK : va_K (dC, dI) vwCl [(c3, .int)] s := hK
  refine W.widen (k := 3) (n := 21) (Nat.le_of_ble_eq_true rfl) (Nat.le_of_ble_eq_true rfl) ?_
  refine va_putF (D := (dC, dI)) (ci := 5) (v := .ref q3) (ty := (.array .int)) (C := RX5) (T := TX5) (N := 15) hx hb hts (by decide +kernel) tyX5 tyX5_ok nmX5 hown hK hP hD hS 0 rfl rfl 2 (by decide) (hts (.fieldLink RX5 18 "DearLetters$Routes" "walk" "[I") (by decide +kernel)) (fun _ h9 => h9) rfl hin rfl (by decide +kernel) (by first | rfl | decide) (by first | rfl | decide) (Nat.le_of_ble_eq_true rfl) dX5_init_25 (fun H locs hP hD hS => ?_)
  have hP : va_P (dC, dI) vwCl [(h0, .inr (5, [.ref q1, .ref q2, .ref q3, .null, .null, .int 0, .int 0, .int 0, .int 0, .int 0, .int 0, .int 0, .int 0, .int 0, .int 0])), (q3, .inl (c3, 7, .inl (fun _ => 0)))] H := hP
  have hD : va_D (va_A [(h0, .inr (5, [.null, .null, .null, .null, .null, .int 0, .int 0, .int 0, .int 0, .int 0, .int 0, .int 0, .int 0, .int 0, .int 0]))] s.heap.size) [(h0, .inr (5, [.ref q1, .ref q2, .ref q3, .null, .null, .int 0, .int 0, .int 0, .int 0, .int 0, .int 0, .int 0, .int 0, .int 0, .int 0])), (q3, .inl (c3, 7, .inl (fun _ => 0)))] := hD
  have hP := hP.sub (ws' := [(h0, .inr (5, [.ref q1, .ref q2, .ref q3, .null, .null, .int 0, .int 0, .int 0, .int 0, .int 0, .int 0, .int 0, .int 0, .int 0, .int 0]))]) [0] rfl
  have hD := hD.sub (ws' := [(h0, .inr (5, [.ref q1, .ref q2, .ref q3, .null, .null, .int 0, .int 0, .int 0, .int 0, .int 0, .int 0, .int 0, .int 0, .int 0, .int 0]))]) [0] (by decide) rfl
  have hK := hK.sub (tys' := []) [] rfl
  refine lv_aload_n hx hb dX5_init_28 rfl (lv_at hl 0 rfl) ?_
  refine va_new (ci := 0) (fs := [.null, .int 0, .int 0, .int 0]) (C := RX0) (T := TX0) (N := 4) hx hb hts (by decide +kernel) tyX0 tyX0_ok hown (hts (.classLink RX5 21 RX0) (by decide +kernel)) (hts (.instantiable RX0 4) (by decide +kernel)) (hts (.initialized RX0) (by decide +kernel)) hK hP hD hS hA rfl (fun j hj => by rcases (show j = 0 ∨ j = 1 ∨ j = 2 ∨ j = 3 by omega) with rfl | rfl | rfl | rfl <;> rfl) (Nat.le_of_ble_eq_true rfl) (Nat.le_of_ble_eq_true rfl) dX5_init_29 (fun q4 H hP hD hS => ?_)
  have hP : va_P (dC, dI) vwCl [(h0, .inr (5, [.ref q1, .ref q2, .ref q3, .null, .null, .int 0, .int 0, .int 0, .int 0, .int 0, .int 0, .int 0, .int 0, .int 0, .int 0])), (q4, .inr (0, [.null, .int 0, .int 0, .int 0]))] H := hP
  have hD : va_D (va_A [(h0, .inr (5, [.null, .null, .null, .null, .null, .int 0, .int 0, .int 0, .int 0, .int 0, .int 0, .int 0, .int 0, .int 0, .int 0]))] s.heap.size) [(h0, .inr (5, [.ref q1, .ref q2, .ref q3, .null, .null, .int 0, .int 0, .int 0, .int 0, .int 0, .int 0, .int 0, .int 0, .int 0, .int 0])), (q4, .inr (0, [.null, .int 0, .int 0, .int 0]))] := hD
  refine W.widen (k := 4) (n := 25) (Nat.le_of_ble_eq_true rfl) (Nat.le_of_ble_eq_true rfl) ?_
  refine lv_dup hx hb dX5_init_32 rfl ?_
  have hFc := va_free (wc := [(q4, .inr (0, [.null, .int 0, .int 0, .int 0]))]) hD hS hA [1] rfl
  refine va_callv (va_runIN (As := []) (rest := [.ref q4, .ref h0]) ⟨hx, hb, hml, hown, hts⟩ (ci_Best l dC dI H q4 (hP.sub (ws' := [(q4, .inr (0, [.null, .int 0, .int 0, .int 0]))]) [1] rfl) ((hD.sub (ws' := [(q4, .inr (0, [.null, .int 0, .int 0, .int 0]))]) [1] (by decide) rfl).weaken (fun _ _ _ _ => trivial))) ⟨va_cnB 0 hts gX5_init_X0_init_n23 rfl rfl rfl (hq.2.2.2.2.2.2.2.1) (hts (.initialized RX0) (by decide +kernel)) (by decide +kernel) ⟨Nat.le_of_ble_eq_true rfl, Nat.le_of_ble_eq_true rfl⟩, rfl, hts (.instanceMethod yX0_init) (by decide +kernel)⟩ ⟨kb_c, kb_m (hK.sub (tys' := []) [] rfl) hq⟩ rfl rfl hl.1 rfl (lv_room (Nat.le_of_ble_eq_true rfl)) dX5_init_33 ⟨Nat.le_of_ble_eq_true rfl, Nat.le_of_ble_eq_true rfl⟩) hS (fun q _ h => hFc q h) hFc (fun u t H_1 locs ht hvm hw hB hz1 hk1 hS => ?_)
  obtain ⟨hP1, hK1, hD1⟩ := hB
  rw [ht] at hP1
  obtain ⟨hP, hD⟩ := va_join (wr := [(h0, .inr (5, [.ref q1, .ref q2, .ref q3, .null, .null, .int 0, .int 0, .int 0, .int 0, .int 0, .int 0, .int 0, .int 0, .int 0, .int 0]))]) (w1 := []) hP hD [1] [0] rfl rfl (by decide) (by decide) hk1 hFc hP1 hD1
  have hK : va_K (dC, dI) vwCl [] s := hK.app (va_K.moved hvm.symm hK1)
  have hP : va_P (dC, dI) vwCl [(h0, .inr (5, [.ref q1, .ref q2, .ref q3, .null, .null, .int 0, .int 0, .int 0, .int 0, .int 0, .int 0, .int 0, .int 0, .int 0, .int 0]))] H_1 := hP
  have hD : va_D (va_A [(h0, .inr (5, [.null, .null, .null, .null, .null, .int 0, .int 0, .int 0, .int 0, .int 0, .int 0, .int 0, .int 0, .int 0, .int 0]))] s.heap.size) [(h0, .inr (5, [.ref q1, .ref q2, .ref q3, .null, .null, .int 0, .int 0, .int 0, .int 0, .int 0, .int 0, .int 0, .int 0, .int 0, .int 0]))] := hD
  refine W.widen (k := 5) (n := 32) (Nat.le_of_ble_eq_true rfl) (Nat.le_of_ble_eq_true rfl) ?_
  refine va_putF (D := (dC, dI)) (ci := 5) (v := .ref q4) (ty := (.object "DearLetters$Best")) (C := RX5) (T := TX5) (N := 15) hx hb hts (by decide +kernel) tyX5 tyX5_ok nmX5 hown hK hP hD hS 0 rfl rfl 3 (by decide) (hts (.fieldLink RX5 24 "DearLetters$Routes" "cheap" "LDearLetters$Best;") (by decide +kernel)) (fun _ h9 => h9) rfl hin rfl (by decide +kernel) (by first | rfl | decide) (by first | rfl | decide) (Nat.le_of_ble_eq_true rfl) dX5_init_36 (fun H locs hP hD hS => ?_)
  have hP : va_P (dC, dI) vwCl [(h0, .inr (5, [.ref q1, .ref q2, .ref q3, .ref q4, .null, .int 0, .int 0, .int 0, .int 0, .int 0, .int 0, .int 0, .int 0, .int 0, .int 0]))] H := hP
  have hD : va_D (va_A [(h0, .inr (5, [.null, .null, .null, .null, .null, .int 0, .int 0, .int 0, .int 0, .int 0, .int 0, .int 0, .int 0, .int 0, .int 0]))] s.heap.size) [(h0, .inr (5, [.ref q1, .ref q2, .ref q3, .ref q4, .null, .int 0, .int 0, .int 0, .int 0, .int 0, .int 0, .int 0, .int 0, .int 0, .int 0]))] := hD
  refine lv_aload_n hx hb dX5_init_39 rfl (lv_at hl 0 rfl) ?_
  refine va_new (ci := 0) (fs := [.null, .int 0, .int 0, .int 0]) (C := RX0) (T := TX0) (N := 4) hx hb hts (by decide +kernel) tyX0 tyX0_ok hown (hts (.classLink RX5 21 RX0) (by decide +kernel)) (hts (.instantiable RX0 4) (by decide +kernel)) (hts (.initialized RX0) (by decide +kernel)) hK hP hD hS hA rfl (fun j hj => by rcases (show j = 0 ∨ j = 1 ∨ j = 2 ∨ j = 3 by omega) with rfl | rfl | rfl | rfl <;> rfl) (Nat.le_of_ble_eq_true rfl) (Nat.le_of_ble_eq_true rfl) dX5_init_40 (fun q5 H hP hD hS => ?_)
  have hP : va_P (dC, dI) vwCl [(h0, .inr (5, [.ref q1, .ref q2, .ref q3, .ref q4, .null, .int 0, .int 0, .int 0, .int 0, .int 0, .int 0, .int 0, .int 0, .int 0, .int 0])), (q5, .inr (0, [.null, .int 0, .int 0, .int 0]))] H := hP
  have hD : va_D (va_A [(h0, .inr (5, [.null, .null, .null, .null, .null, .int 0, .int 0, .int 0, .int 0, .int 0, .int 0, .int 0, .int 0, .int 0, .int 0]))] s.heap.size) [(h0, .inr (5, [.ref q1, .ref q2, .ref q3, .ref q4, .null, .int 0, .int 0, .int 0, .int 0, .int 0, .int 0, .int 0, .int 0, .int 0, .int 0])), (q5, .inr (0, [.null, .int 0, .int 0, .int 0]))] := hD
  refine W.widen (k := 6) (n := 36) (Nat.le_of_ble_eq_true rfl) (Nat.le_of_ble_eq_true rfl) ?_
  refine lv_dup hx hb dX5_init_43 rfl ?_
  have hFc := va_free (wc := [(q5, .inr (0, [.null, .int 0, .int 0, .int 0]))]) hD hS hA [1] rfl
  refine va_callv (va_runIN (As := []) (rest := [.ref q5, .ref h0]) ⟨hx, hb, hml, hown, hts⟩ (ci_Best l dC dI H q5 (hP.sub (ws' := [(q5, .inr (0, [.null, .int 0, .int 0, .int 0]))]) [1] rfl) ((hD.sub (ws' := [(q5, .inr (0, [.null, .int 0, .int 0, .int 0]))]) [1] (by decide) rfl).weaken (fun _ _ _ _ => trivial))) ⟨va_cnB 0 hts gX5_init_X0_init_n23 rfl rfl rfl (hq.2.2.2.2.2.2.2.1) (hts (.initialized RX0) (by decide +kernel)) (by decide +kernel) ⟨Nat.le_of_ble_eq_true rfl, Nat.le_of_ble_eq_true rfl⟩, rfl, hts (.instanceMethod yX0_init) (by decide +kernel)⟩ ⟨kb_c, kb_m (hK.sub (tys' := []) [] rfl) hq⟩ rfl rfl hl.1 rfl (lv_room (Nat.le_of_ble_eq_true rfl)) dX5_init_44 ⟨Nat.le_of_ble_eq_true rfl, Nat.le_of_ble_eq_true rfl⟩) hS (fun q _ h => hFc q h) hFc (fun u t H_2 locs ht hvm hw hB hz1 hk1 hS => ?_)
  obtain ⟨hP1, hK1, hD1⟩ := hB
  rw [ht] at hP1
  obtain ⟨hP, hD⟩ := va_join (wr := [(h0, .inr (5, [.ref q1, .ref q2, .ref q3, .ref q4, .null, .int 0, .int 0, .int 0, .int 0, .int 0, .int 0, .int 0, .int 0, .int 0, .int 0]))]) (w1 := []) hP hD [1] [0] rfl rfl (by decide) (by decide) hk1 hFc hP1 hD1
  have hK : va_K (dC, dI) vwCl [] s := hK.app (va_K.moved hvm.symm hK1)
  have hP : va_P (dC, dI) vwCl [(h0, .inr (5, [.ref q1, .ref q2, .ref q3, .ref q4, .null, .int 0, .int 0, .int 0, .int 0, .int 0, .int 0, .int 0, .int 0, .int 0, .int 0]))] H_2 := hP
  have hD : va_D (va_A [(h0, .inr (5, [.null, .null, .null, .null, .null, .int 0, .int 0, .int 0, .int 0, .int 0, .int 0, .int 0, .int 0, .int 0, .int 0]))] s.heap.size) [(h0, .inr (5, [.ref q1, .ref q2, .ref q3, .ref q4, .null, .int 0, .int 0, .int 0, .int 0, .int 0, .int 0, .int 0, .int 0, .int 0, .int 0]))] := hD
  refine W.widen (k := 7) (n := 43) (Nat.le_of_ble_eq_true rfl) (Nat.le_of_ble_eq_true rfl) ?_
  refine va_putF (D := (dC, dI)) (ci := 5) (v := .ref q5) (ty := (.object "DearLetters$Best")) (C := RX5) (T := TX5) (N := 15) hx hb hts (by decide +kernel) tyX5 tyX5_ok nmX5 hown hK hP hD hS 0 rfl rfl 4 (by decide) (hts (.fieldLink RX5 28 "DearLetters$Routes" "soon" "LDearLetters$Best;") (by decide +kernel)) (fun _ h9 => h9) rfl hin rfl (by decide +kernel) (by first | rfl | decide) (by first | rfl | decide) (Nat.le_of_ble_eq_true rfl) dX5_init_47 (fun H locs hP hD hS => ?_)
  have hP : va_P (dC, dI) vwCl [(h0, .inr (5, [.ref q1, .ref q2, .ref q3, .ref q4, .ref q5, .int 0, .int 0, .int 0, .int 0, .int 0, .int 0, .int 0, .int 0, .int 0, .int 0]))] H := hP
  have hD : va_D (va_A [(h0, .inr (5, [.null, .null, .null, .null, .null, .int 0, .int 0, .int 0, .int 0, .int 0, .int 0, .int 0, .int 0, .int 0, .int 0]))] s.heap.size) [(h0, .inr (5, [.ref q1, .ref q2, .ref q3, .ref q4, .ref q5, .int 0, .int 0, .int 0, .int 0, .int 0, .int 0, .int 0, .int 0, .int 0, .int 0]))] := hD
  have hP := hP.sub (ws' := []) [] rfl
  have hD := hD.sub (ws' := []) [] (by decide) rfl
  exact W.vret hx hb hr (fun t ht hW => ⟨⟨(), rfl, trivial, by first | (subst ht; exact hP) | (rw [ht]; exact hP), va_K.moved hW.alike hK, hD⟩, hS.F ht⟩) hS.2.2 dX5_init_50
theorem dX6_init_0 : decode cX6_init 0 = .ok (.aload_n 0, 1) := by decide +kernel
theorem dX6_init_1 : decode cX6_init 1 = .ok (.invokespecial 3, 3) := by decide +kernel
theorem dX6_init_4 : decode cX6_init 4 = .ok (.aload_n 0, 1) := by decide +kernel
theorem dX6_init_5 : decode cX6_init 5 = .ok (.bipush 40, 2) := by decide +kernel
theorem dX6_init_7 : decode cX6_init 7 = .ok (.newarray .int, 2) := by decide +kernel
theorem dX6_init_9 : decode cX6_init 9 = .ok (.putfield 9, 3) := by decide +kernel
theorem dX6_init_12 : decode cX6_init 12 = .ok (.aload_n 0, 1) := by decide +kernel
theorem dX6_init_13 : decode cX6_init 13 = .ok (.iconst (-1), 1) := by decide +kernel
theorem dX6_init_14 : decode cX6_init 14 = .ok (.putfield 15, 3) := by decide +kernel
theorem dX6_init_17 : decode cX6_init 17 = .ok (.return_, 1) := by decide +kernel
set_option maxHeartbeats 4000000 in
set_option maxRecDepth 100000 in
/-- a Row -/
theorem ci_Row (l : Launch) (dC : Nat → ClassId) (dI : Nat → Nat → Nat) (H : Heap) (h0 : Nat) (hP : va_P (dC, dI) vwCl [(h0, .inr (6, [.null, .int 0]))] H) (hD0 : va_D (fun _ => True) [(h0, .inr (6, [.null, .int 0]))]) : Met l yX6_init wsX6_init ({ frames := 1, cells := 1, slots := 40, locals := 14 }) (va_Pc [.ref h0] (kb_P (dC, dI) vwCl [] H)) (va_Qv (fun (_ : Unit) => True) (fun _ t => ∃ q1 : Nat, ∃ c1 : ClassId, va_P (dC, dI) vwCl [(h0, .inr (6, [.ref q1, .int (-1)])), (q1, .inl (c1, 40, .inl (fun _ => 0)))] t.heap ∧ va_K (dC, dI) vwCl [(c1, .int)] t ∧ va_D (va_A [(h0, .inr (6, [.null, .int 0]))] H.size) [(h0, .inr (6, [.ref q1, .int (-1)])), (q1, .inl (c1, 40, .inl (fun _ => 0)))]) (va_A [(h0, .inr (6, [.null, .int 0]))] H.size)) 1 40 (va_A [(h0, .inr (6, [.null, .int 0]))] H.size) := by
  refine Met.ofW (cc := cX6_init) (maxL := 1) (ret := none) (by decide) rfl ?_
  intro p e s m args below meth c s₁ B hml hv
  obtain ⟨rfl, hh, hK, hq⟩ := hv
  have hx := B.exec
  have hb := B.bytes
  have hr := B.returns
  have hts := atoms_spec (ws := wsX6_init) B.pre
  have hown : s.vm.findClass RX6 = some m.cls := findClass_of_methodNamed B.named
  have hlocks := B.notSynchronized
  have hin : meth.name = "<init>" := (name_of_methodNamed B.named B.method).1
  subst hh
  have hD := hD0.self (sz := s.heap.size)
  have hA : ∀ q : Nat, s.heap.size ≤ q → (va_A [(h0, .inr (6, [.null, .int 0]))] s.heap.size) q := fun q h => Or.inr h
  have hS : va_S (va_A [(h0, .inr (6, [.null, .int 0]))] s.heap.size) s.heap s.heap [] := va_S.rf
  have hl := lv_entry ([.ref h0]) (n := 1) (Nat.le_of_ble_eq_true rfl)
  rw [lg_entry_eq]
  generalize (lg_sl ([.ref h0]) ++ List.replicate (1 - (lg_sl ([.ref h0])).length) Slot.unset).toArray = ls at hl ⊢
  have hl : lv_has ls 1 [(0, .ref h0)] := hl
  refine lv_aload_n hx hb dX6_init_0 rfl (lv_at hl 0 rfl) ?_
  refine W.objInit hx hb hown (hts (.methodLink RX6 3 objectInit) (by decide +kernel)) (hts (.instanceMethod objectInit) (by decide +kernel)) (hts (.code objectInit ⟨#[0xb1]⟩ 1 none) (by decide +kernel)) rfl (by rw [hml]; exact hl.1) rfl dX6_init_1 (Nat.le_of_ble_eq_true rfl) (Nat.le_of_ble_eq_true rfl) ?_
  refine W.eq (g2 := F0 m 4 ls []) rfl ?_
  refine lv_aload_n hx hb dX6_init_4 rfl (lv_at hl 0 rfl) ?_
  refine lv_bipush (v := 40) hx hb dX6_init_5 (by decide) ?_
  refine va_newa (atype := .int) (a0 := (40, .inl (fun _ => 0))) hx hb (hts (.arrayClass .int) (by decide +kernel)) rfl hK hP hD hS hA (fun cA => rfl) (by decide) rfl (by decide) (Nat.le_of_ble_eq_true rfl) (Nat.le_of_ble_eq_true rfl) dX6_init_7 (fun q1 c1 H hK hP hD hS => ?_)
  have hP : va_P (dC, dI) vwCl [(h0, .inr (6, [.null, .int 0])), (q1, .inl (c1, 40, .inl (fun _ => 0)))] H := hP
  have hD : va_D (va_A [(h0, .inr (6, [.null, .int 0]))] s.heap.size) [(h0, .inr (6, [.null, .int 0])), (q1, .inl (c1, 40, .inl (fun _ => 0)))] := hD
  have hK : va_K (dC, dI) vwCl [(c1, .int)] s := hK
  refine W.widen (k := 1) (n := 40) (Nat.le_of_ble_eq_true rfl) (Nat.le_of_ble_eq_true rfl) ?_
  refine va_putF (D := (dC, dI)) (ci := 6) (v := .ref q1) (ty := (.array .int)) (C := RX6) (T := TX6) (N := 2) hx hb hts (by decide +kernel) tyX6 tyX6_ok nmX6 hown hK hP hD hS 0 rfl rfl 0 (by decide) (hts (.fieldLink RX6 9 "DearLetters$Row" "places" "[I") (by decide +kernel)) (fun _ h9 => h9) rfl hin rfl (by decide +kernel) (by first | rfl | decide) (by first | rfl | decide) (Nat.le_of_ble_eq_true rfl) dX6_init_9 (fun H locs hP hD hS => ?_)
  have hP : va_P (dC, dI) vwCl [(h0, .inr (6, [.ref q1, .int 0])), (q1, .inl (c1, 40, .inl (fun _ => 0)))] H := hP
  have hD : va_D (va_A [(h0, .inr (6, [.null, .int 0]))] s.heap.size) [(h0, .inr (6, [.ref q1, .int 0])), (q1, .inl (c1, 40, .inl (fun _ => 0)))] := hD
  refine lv_aload_n hx hb dX6_init_12 rfl (lv_at hl 0 rfl) ?_
  refine lv_iconst (v := (-1)) hx hb dX6_init_13 (by decide) ?_
  refine va_put (D := (dC, dI)) (ci := 6) (v := .int (-1)) (ty := .int) (C := RX6) (T := TX6) (N := 2) hx hb hts (by decide +kernel) tyX6 tyX6_ok nmX6 hown hK hP hD hS 0 rfl rfl 1 (by decide) (hts (.fieldLink RX6 15 "DearLetters$Row" "size" "I") (by decide +kernel)) (fun _ h9 => h9) rfl (by decide +kernel) (by first | rfl | decide) (by first | rfl | decide) (Nat.le_of_ble_eq_true rfl) dX6_init_14 (fun H locs hP hD hS => ?_)
  have hP : va_P (dC, dI) vwCl [(h0, .inr (6, [.ref q1, .int (-1)])), (q1, .inl (c1, 40, .inl (fun _ => 0)))] H := hP
  have hD : va_D (va_A [(h0, .inr (6, [.null, .int 0]))] s.heap.size) [(h0, .inr (6, [.ref q1, .int (-1)])), (q1, .inl (c1, 40, .inl (fun _ => 0)))] := hD
  exact W.vret hx hb hr (fun t ht hW => ⟨⟨(), rfl, trivial, q1, c1, by first | (subst ht; exact hP) | (rw [ht]; exact hP), va_K.moved hW.alike hK, hD⟩, hS.F ht⟩) hS.2.2 dX6_init_17
theorem dX9_init_0 : decode cX9_init 0 = .ok (.aload_n 0, 1) := by decide +kernel
theorem dX9_init_1 : decode cX9_init 1 = .ok (.invokespecial 3, 3) := by decide +kernel
theorem dX9_init_4 : decode cX9_init 4 = .ok (.aload_n 0, 1) := by decide +kernel
theorem dX9_init_5 : decode cX9_init 5 = .ok (.bipush 80, 2) := by decide +kernel
theorem dX9_init_7 : decode cX9_init 7 = .ok (.newarray .byte, 2) := by decide +kernel
theorem dX9_init_9 : decode cX9_init 9 = .ok (.putfield 9, 3) := by decide +kernel
theorem dX9_init_12 : decode cX9_init 12 = .ok (.aload_n 0, 1) := by decide +kernel
theorem dX9_init_13 : decode cX9_init 13 = .ok (.iconst (-1), 1) := by decide +kernel
theorem dX9_init_14 : decode cX9_init 14 = .ok (.putfield 15, 3) := by decide +kernel
theorem dX9_init_17 : decode cX9_init 17 = .ok (.return_, 1) := by decide +kernel
set_option maxHeartbeats 4000000 in
set_option maxRecDepth 100000 in
/-- a Text -/
theorem ci_Text (l : Launch) (dC : Nat → ClassId) (dI : Nat → Nat → Nat) (H : Heap) (h0 : Nat) (hP : va_P (dC, dI) vwCl [(h0, .inr (9, [.null, .int 0]))] H) (hD0 : va_D (fun _ => True) [(h0, .inr (9, [.null, .int 0]))]) : Met l yX9_init wsX9_init ({ frames := 1, cells := 1, slots := 80, locals := 14 }) (va_Pc [.ref h0] (kb_P (dC, dI) vwCl [] H)) (va_Qv (fun (_ : Unit) => True) (fun _ t => ∃ q1 : Nat, ∃ c1 : ClassId, va_P (dC, dI) vwCl [(h0, .inr (9, [.ref q1, .int (-1)])), (q1, .inl (c1, 80, .inl (fun _ => 0)))] t.heap ∧ va_K (dC, dI) vwCl [(c1, .byte)] t ∧ va_D (va_A [(h0, .inr (9, [.null, .int 0]))] H.size) [(h0, .inr (9, [.ref q1, .int (-1)])), (q1, .inl (c1, 80, .inl (fun _ => 0)))]) (va_A [(h0, .inr (9, [.null, .int 0]))] H.size)) 1 80 (va_A [(h0, .inr (9, [.null, .int 0]))] H.size) := by
  refine Met.ofW (cc := cX9_init) (maxL := 1) (ret := none) (by decide) rfl ?_
  intro p e s m args below meth c s₁ B hml hv
  obtain ⟨rfl, hh, hK, hq⟩ := hv
  have hx := B.exec
  have hb := B.bytes
  have hr := B.returns
  have hts := atoms_spec (ws := wsX9_init) B.pre
  have hown : s.vm.findClass RX9 = some m.cls := findClass_of_methodNamed B.named
  have hlocks := B.notSynchronized
  have hin : meth.name = "<init>" := (name_of_methodNamed B.named B.method).1
  subst hh
  have hD := hD0.self (sz := s.heap.size)
  have hA : ∀ q : Nat, s.heap.size ≤ q → (va_A [(h0, .inr (9, [.null, .int 0]))] s.heap.size) q := fun q h => Or.inr h
  have hS : va_S (va_A [(h0, .inr (9, [.null, .int 0]))] s.heap.size) s.heap s.heap [] := va_S.rf
  have hl := lv_entry ([.ref h0]) (n := 1) (Nat.le_of_ble_eq_true rfl)
  rw [lg_entry_eq]
  generalize (lg_sl ([.ref h0]) ++ List.replicate (1 - (lg_sl ([.ref h0])).length) Slot.unset).toArray = ls at hl ⊢
  have hl : lv_has ls 1 [(0, .ref h0)] := hl
  refine lv_aload_n hx hb dX9_init_0 rfl (lv_at hl 0 rfl) ?_
  refine W.objInit hx hb hown (hts (.methodLink RX9 3 objectInit) (by decide +kernel)) (hts (.instanceMethod objectInit) (by decide +kernel)) (hts (.code objectInit ⟨#[0xb1]⟩ 1 none) (by decide +kernel)) rfl (by rw [hml]; exact hl.1) rfl dX9_init_1 (Nat.le_of_ble_eq_true rfl) (Nat.le_of_ble_eq_true rfl) ?_
  refine W.eq (g2 := F0 m 4 ls []) rfl ?_
  refine lv_aload_n hx hb dX9_init_4 rfl (lv_at hl 0 rfl) ?_
  refine lv_bipush (v := 80) hx hb dX9_init_5 (by decide) ?_
  refine va_newa (atype := .byte) (a0 := (80, .inl (fun _ => 0))) hx hb (hts (.arrayClass .byte) (by decide +kernel)) rfl hK hP hD hS hA (fun cA => rfl) (by decide) rfl (by decide) (Nat.le_of_ble_eq_true rfl) (Nat.le_of_ble_eq_true rfl) dX9_init_7 (fun q1 c1 H hK hP hD hS => ?_)
  have hP : va_P (dC, dI) vwCl [(h0, .inr (9, [.null, .int 0])), (q1, .inl (c1, 80, .inl (fun _ => 0)))] H := hP
  have hD : va_D (va_A [(h0, .inr (9, [.null, .int 0]))] s.heap.size) [(h0, .inr (9, [.null, .int 0])), (q1, .inl (c1, 80, .inl (fun _ => 0)))] := hD
  have hK : va_K (dC, dI) vwCl [(c1, .byte)] s := hK
  refine W.widen (k := 1) (n := 80) (Nat.le_of_ble_eq_true rfl) (Nat.le_of_ble_eq_true rfl) ?_
  refine va_putF (D := (dC, dI)) (ci := 9) (v := .ref q1) (ty := (.array .byte)) (C := RX9) (T := TX9) (N := 2) hx hb hts (by decide +kernel) tyX9 tyX9_ok nmX9 hown hK hP hD hS 0 rfl rfl 0 (by decide) (hts (.fieldLink RX9 9 "DearLetters$Text" "bytes" "[B") (by decide +kernel)) (fun _ h9 => h9) rfl hin rfl (by decide +kernel) (by first | rfl | decide) (by first | rfl | decide) (Nat.le_of_ble_eq_true rfl) dX9_init_9 (fun H locs hP hD hS => ?_)
  have hP : va_P (dC, dI) vwCl [(h0, .inr (9, [.ref q1, .int 0])), (q1, .inl (c1, 80, .inl (fun _ => 0)))] H := hP
  have hD : va_D (va_A [(h0, .inr (9, [.null, .int 0]))] s.heap.size) [(h0, .inr (9, [.ref q1, .int 0])), (q1, .inl (c1, 80, .inl (fun _ => 0)))] := hD
  refine lv_aload_n hx hb dX9_init_12 rfl (lv_at hl 0 rfl) ?_
  refine lv_iconst (v := (-1)) hx hb dX9_init_13 (by decide) ?_
  refine va_put (D := (dC, dI)) (ci := 9) (v := .int (-1)) (ty := .int) (C := RX9) (T := TX9) (N := 2) hx hb hts (by decide +kernel) tyX9 tyX9_ok nmX9 hown hK hP hD hS 0 rfl rfl 1 (by decide) (hts (.fieldLink RX9 15 "DearLetters$Text" "size" "I") (by decide +kernel)) (fun _ h9 => h9) rfl (by decide +kernel) (by first | rfl | decide) (by first | rfl | decide) (Nat.le_of_ble_eq_true rfl) dX9_init_14 (fun H locs hP hD hS => ?_)
  have hP : va_P (dC, dI) vwCl [(h0, .inr (9, [.ref q1, .int (-1)])), (q1, .inl (c1, 80, .inl (fun _ => 0)))] H := hP
  have hD : va_D (va_A [(h0, .inr (9, [.null, .int 0]))] s.heap.size) [(h0, .inr (9, [.ref q1, .int (-1)])), (q1, .inl (c1, 80, .inl (fun _ => 0)))] := hD
  exact W.vret hx hb hr (fun t ht hW => ⟨⟨(), rfl, trivial, q1, c1, by first | (subst ht; exact hP) | (rw [ht]; exact hP), va_K.moved hW.alike hK, hD⟩, hS.F ht⟩) hS.2.2 dX9_init_17
theorem dX8_init_0 : decode cX8_init 0 = .ok (.aload_n 0, 1) := by decide +kernel
theorem dX8_init_1 : decode cX8_init 1 = .ok (.invokespecial 3, 3) := by decide +kernel
theorem dX8_init_4 : decode cX8_init 4 = .ok (.aload_n 0, 1) := by decide +kernel
theorem dX8_init_5 : decode cX8_init 5 = .ok (.bipush 7, 2) := by decide +kernel
theorem dX8_init_7 : decode cX8_init 7 = .ok (.newarray .int, 2) := by decide +kernel
theorem dX8_init_9 : decode cX8_init 9 = .ok (.putfield 9, 3) := by decide +kernel
theorem dX8_init_12 : decode cX8_init 12 = .ok (.aload_n 0, 1) := by decide +kernel
theorem dX8_init_13 : decode cX8_init 13 = .ok (.iconst 4, 1) := by decide +kernel
theorem dX8_init_14 : decode cX8_init 14 = .ok (.anewarray 15, 3) := by decide +kernel
theorem dX8_init_17 : decode cX8_init 17 = .ok (.putfield 17, 3) := by decide +kernel
theorem dX8_init_20 : decode cX8_init 20 = .ok (.iconst 0, 1) := by decide +kernel
theorem dX8_init_21 : decode cX8_init 21 = .ok (.istore_n 1, 1) := by decide +kernel
theorem dX8_init_22 : decode cX8_init 22 = .ok (.iload_n 1, 1) := by decide +kernel
theorem dX8_init_23 : decode cX8_init 23 = .ok (.iconst 4, 1) := by decide +kernel
theorem dX8_init_24 : decode cX8_init 24 = .ok (.if_icmp .ge 22, 3) := by decide +kernel
theorem dX8_init_27 : decode cX8_init 27 = .ok (.aload_n 0, 1) := by decide +kernel
theorem dX8_init_28 : decode cX8_init 28 = .ok (.getfield 17, 3) := by decide +kernel
theorem dX8_init_31 : decode cX8_init 31 = .ok (.iload_n 1, 1) := by decide +kernel
theorem dX8_init_32 : decode cX8_init 32 = .ok (.new 15, 3) := by decide +kernel
theorem dX8_init_35 : decode cX8_init 35 = .ok (.dup, 1) := by decide +kernel
theorem dX8_init_36 : decode cX8_init 36 = .ok (.invokespecial 21, 3) := by decide +kernel
theorem dX8_init_39 : decode cX8_init 39 = .ok (.aastore, 1) := by decide +kernel
theorem dX8_init_40 : decode cX8_init 40 = .ok (.iinc 1 1, 3) := by decide +kernel
theorem dX8_init_43 : decode cX8_init 43 = .ok (.goto (-21), 3) := by decide +kernel
theorem dX8_init_46 : decode cX8_init 46 = .ok (.return_, 1) := by decide +kernel
set_option maxRecDepth 20000 in
theorem ggX8_init_X3_init : GoodIn wsX8_init wsX3_init := goodIn_r _ [11, 12, 2, 3] (by decide +kernel) (by decide +kernel)
set_option maxRecDepth 20000 in
theorem gX8_init_X3_init_n21 : GoodIn wsX8_init (wsX3_init) := ggX8_init_X3_init
set_option maxHeartbeats 4000000 in
set_option maxRecDepth 100000 in
/-- a Standing -/
theorem ci_Standing (l : Launch) (dC : Nat → ClassId) (dI : Nat → Nat → Nat) (H : Heap) (h0 : Nat) (hP : va_P (dC, dI) vwCl [(h0, .inr (8, [.null, .null, .int 0, .int 0, .int 0, .int 0]))] H) (hD0 : va_D (fun _ => True) [(h0, .inr (8, [.null, .null, .int 0, .int 0, .int 0, .int 0]))]) : Met l yX8_init wsX8_init ({ frames := 2, cells := 6, slots := 51, locals := 34 }) (va_Pc [.ref h0] (kb_P (dC, dI) vwCl [] H)) (va_Qv (fun (_ : Unit) => True) (fun _ t => ∃ q1 : Nat, ∃ q2 : Nat, va_P (dC, dI) vwCl [(h0, .inr (8, [.ref q1, .ref q2, .int 0, .int 0, .int 0, .int 0]))] t.heap ∧ va_K (dC, dI) vwCl [] t ∧ va_D (va_A [(h0, .inr (8, [.null, .null, .int 0, .int 0, .int 0, .int 0]))] H.size) [(h0, .inr (8, [.ref q1, .ref q2, .int 0, .int 0, .int 0, .int 0]))]) (va_A [(h0, .inr (8, [.null, .null, .int 0, .int 0, .int 0, .int 0]))] H.size)) 6 51 (va_A [(h0, .inr (8, [.null, .null, .int 0, .int 0, .int 0, .int 0]))] H.size) := by
  refine Met.ofW (cc := cX8_init) (maxL := 2) (ret := none) (by decide) rfl ?_
  intro p e s m args below meth c s₁ B hml hv
  obtain ⟨rfl, hh, hK, hq⟩ := hv
  have hx := B.exec
  have hb := B.bytes
  have hr := B.returns
  have hts := atoms_spec (ws := wsX8_init) B.pre
  have hown : s.vm.findClass RX8 = some m.cls := findClass_of_methodNamed B.named
  have hlocks := B.notSynchronized
  have hin : meth.name = "<init>" := (name_of_methodNamed B.named B.method).1
  subst hh
  have hD := hD0.self (sz := s.heap.size)
  have hA : ∀ q : Nat, s.heap.size ≤ q → (va_A [(h0, .inr (8, [.null, .null, .int 0, .int 0, .int 0, .int 0]))] s.heap.size) q := fun q h => Or.inr h
  have hS : va_S (va_A [(h0, .inr (8, [.null, .null, .int 0, .int 0, .int 0, .int 0]))] s.heap.size) s.heap s.heap [] := va_S.rf
  have hl := lv_entry ([.ref h0]) (n := 2) (Nat.le_of_ble_eq_true rfl)
  rw [lg_entry_eq]
  generalize (lg_sl ([.ref h0]) ++ List.replicate (2 - (lg_sl ([.ref h0])).length) Slot.unset).toArray = ls at hl ⊢
  have hl : lv_has ls 2 [(0, .ref h0)] := hl
  refine lv_aload_n hx hb dX8_init_0 rfl (lv_at hl 0 rfl) ?_
  refine W.objInit hx hb hown (hts (.methodLink RX8 3 objectInit) (by decide +kernel)) (hts (.instanceMethod objectInit) (by decide +kernel)) (hts (.code objectInit ⟨#[0xb1]⟩ 1 none) (by decide +kernel)) rfl (by rw [hml]; exact hl.1) rfl dX8_init_1 (Nat.le_of_ble_eq_true rfl) (Nat.le_of_ble_eq_true rfl) ?_
  refine W.eq (g2 := F0 m 4 ls []) rfl ?_
  refine lv_aload_n hx hb dX8_init_4 rfl (lv_at hl 0 rfl) ?_
  refine lv_bipush (v := 7) hx hb dX8_init_5 (by decide) ?_
  refine va_newa (atype := .int) (a0 := (7, .inl (fun _ => 0))) hx hb (hts (.arrayClass .int) (by decide +kernel)) rfl hK hP hD hS hA (fun cA => rfl) (by decide) rfl (by decide) (Nat.le_of_ble_eq_true rfl) (Nat.le_of_ble_eq_true rfl) dX8_init_7 (fun q1 c1 H hK hP hD hS => ?_)
  have hP : va_P (dC, dI) vwCl [(h0, .inr (8, [.null, .null, .int 0, .int 0, .int 0, .int 0])), (q1, .inl (c1, 7, .inl (fun _ => 0)))] H := hP
  have hD : va_D (va_A [(h0, .inr (8, [.null, .null, .int 0, .int 0, .int 0, .int 0]))] s.heap.size) [(h0, .inr (8, [.null, .null, .int 0, .int 0, .int 0, .int 0])), (q1, .inl (c1, 7, .inl (fun _ => 0)))] := hD
  have hK : va_K (dC, dI) vwCl [(c1, .int)] s := hK
  refine W.widen (k := 1) (n := 7) (Nat.le_of_ble_eq_true rfl) (Nat.le_of_ble_eq_true rfl) ?_
  refine va_putF (D := (dC, dI)) (ci := 8) (v := .ref q1) (ty := (.array .int)) (C := RX8) (T := TX8) (N := 6) hx hb hts (by decide +kernel) tyX8 tyX8_ok nmX8 hown hK hP hD hS 0 rfl rfl 0 (by decide) (hts (.fieldLink RX8 9 "DearLetters$Standing" "purses" "[I") (by decide +kernel)) (fun _ h9 => h9) rfl hin rfl (by decide +kernel) (by first | rfl | decide) (by first | rfl | decide) (Nat.le_of_ble_eq_true rfl) dX8_init_9 (fun H locs hP hD hS => ?_)
  have hP : va_P (dC, dI) vwCl [(h0, .inr (8, [.ref q1, .null, .int 0, .int 0, .int 0, .int 0])), (q1, .inl (c1, 7, .inl (fun _ => 0)))] H := hP
  have hD : va_D (va_A [(h0, .inr (8, [.null, .null, .int 0, .int 0, .int 0, .int 0]))] s.heap.size) [(h0, .inr (8, [.ref q1, .null, .int 0, .int 0, .int 0, .int 0])), (q1, .inl (c1, 7, .inl (fun _ => 0)))] := hD
  have hP := hP.sub (ws' := [(h0, .inr (8, [.ref q1, .null, .int 0, .int 0, .int 0, .int 0]))]) [0] rfl
  have hD := hD.sub (ws' := [(h0, .inr (8, [.ref q1, .null, .int 0, .int 0, .int 0, .int 0]))]) [0] (by decide) rfl
  have hK := hK.sub (tys' := []) [] rfl
  refine lv_aload_n hx hb dX8_init_12 rfl (lv_at hl 0 rfl) ?_
  refine lv_iconst (v := 4) hx hb dX8_init_13 (by decide) ?_
  refine va_newq (C := RX3) hx hb hown (hts (.classLink RX8 15 RX3) (by decide +kernel)) (hq.2.2.2.2.2.2.2.2.2.2.2.2.1) hK hP hD hS hA (by decide) rfl (by decide) (Nat.le_of_ble_eq_true rfl) (Nat.le_of_ble_eq_true rfl) dX8_init_14 (fun q2 c2 H hK hP hD hS => ?_)
  have hP : va_P (dC, dI) vwCl [(h0, .inr (8, [.ref q1, .null, .int 0, .int 0, .int 0, .int 0])), (q2, .inl (c2, 4, .inr (.inr (.inr (.inr (fun _ => none))))))] H := hP
  have hD : va_D (va_A [(h0, .inr (8, [.null, .null, .int 0, .int 0, .int 0, .int 0]))] s.heap.size) [(h0, .inr (8, [.ref q1, .null, .int 0, .int 0, .int 0, .int 0])), (q2, .inl (c2, 4, .inr (.inr (.inr (.inr (fun _ => none))))))] := hD
  have hK : va_K (dC, dI) vwCl [(c2, .object RX3)] s := hK
  refine W.widen (k := 2) (n := 11) (Nat.le_of_ble_eq_true rfl) (Nat.le_of_ble_eq_true rfl) ?_
  refine va_putF (D := (dC, dI)) (ci := 8) (v := .ref q2) (ty := (.array (.object "DearLetters$Letter"))) (C := RX8) (T := TX8) (N := 6) hx hb hts (by decide +kernel) tyX8 tyX8_ok nmX8 hown hK hP hD hS 0 rfl rfl 1 (by decide) (hts (.fieldLink RX8 17 "DearLetters$Standing" "letters" "[LDearLetters$Letter;") (by decide +kernel)) (fun _ h9 => h9) rfl hin rfl (by decide +kernel) (by first | rfl | decide) (by first | rfl | decide) (Nat.le_of_ble_eq_true rfl) dX8_init_17 (fun H locs hP hD hS => ?_)
  have hP : va_P (dC, dI) vwCl [(h0, .inr (8, [.ref q1, .ref q2, .int 0, .int 0, .int 0, .int 0])), (q2, .inl (c2, 4, .inr (.inr (.inr (.inr (fun _ => none))))))] H := hP
  have hD : va_D (va_A [(h0, .inr (8, [.null, .null, .int 0, .int 0, .int 0, .int 0]))] s.heap.size) [(h0, .inr (8, [.ref q1, .ref q2, .int 0, .int 0, .int 0, .int 0])), (q2, .inl (c2, 4, .inr (.inr (.inr (.inr (fun _ => none))))))] := hD
  refine lv_iconst (v := 0) hx hb dX8_init_20 (by decide) ?_
  refine lv_istore_n (lv' := [(1, .int 0), (0, .ref h0)]) hx hb dX8_init_21 rfl hl (by decide) rfl (fun ls hl => ?_)
  refine lv_iload_n hx hb dX8_init_22 rfl (lv_at hl 0 rfl) ?_
  refine lv_iconst (v := 4) hx hb dX8_init_23 (by decide) ?_
  refine lv_icmp_ge (tgt := 46) hx hb dX8_init_24 (by decide) (fun c => absurd c (by decide)) (fun _ => ?_)
  refine lv_aload_n hx hb dX8_init_27 rfl (lv_at hl 1 rfl) ?_
  refine va_get (D := (dC, dI)) (ci := 8) (v := .ref q2) (C := RX8) (T := TX8) (N := 6) hx hb hts (by decide +kernel) hown hK hP 0 rfl rfl 1 (by decide) (hts (.fieldLink RX8 17 "DearLetters$Standing" "letters" "[LDearLetters$Letter;") (by decide +kernel)) (fun _ h9 => h9) rfl dX8_init_28 ?_
  refine lv_iload_n hx hb dX8_init_31 rfl (lv_at hl 0 rfl) ?_
  refine va_new (ci := 3) (fs := [.int 0, .int 0, .int 0, .int 0, .int 0, .int 0, .int 0, .int 0, .int 0, .int 0]) (C := RX3) (T := TX3) (N := 10) hx hb hts (by decide +kernel) tyX3 tyX3_ok hown (hts (.classLink RX8 15 RX3) (by decide +kernel)) (hts (.instantiable RX3 10) (by decide +kernel)) (hts (.initialized RX3) (by decide +kernel)) hK hP hD hS hA rfl (fun j hj => by rcases (show j = 0 ∨ j = 1 ∨ j = 2 ∨ j = 3 ∨ j = 4 ∨ j = 5 ∨ j = 6 ∨ j = 7 ∨ j = 8 ∨ j = 9 by omega) with rfl | rfl | rfl | rfl | rfl | rfl | rfl | rfl | rfl | rfl <;> rfl) (Nat.le_of_ble_eq_true rfl) (Nat.le_of_ble_eq_true rfl) dX8_init_32 (fun q3 H hP hD hS => ?_)
  have hP : va_P (dC, dI) vwCl [(h0, .inr (8, [.ref q1, .ref q2, .int 0, .int 0, .int 0, .int 0])), (q2, .inl (c2, 4, .inr (.inr (.inr (.inr (fun _ => none)))))), (q3, .inr (3, [.int 0, .int 0, .int 0, .int 0, .int 0, .int 0, .int 0, .int 0, .int 0, .int 0]))] H := hP
  have hD : va_D (va_A [(h0, .inr (8, [.null, .null, .int 0, .int 0, .int 0, .int 0]))] s.heap.size) [(h0, .inr (8, [.ref q1, .ref q2, .int 0, .int 0, .int 0, .int 0])), (q2, .inl (c2, 4, .inr (.inr (.inr (.inr (fun _ => none)))))), (q3, .inr (3, [.int 0, .int 0, .int 0, .int 0, .int 0, .int 0, .int 0, .int 0, .int 0, .int 0]))] := hD
  refine W.widen (k := 3) (n := 21) (Nat.le_of_ble_eq_true rfl) (Nat.le_of_ble_eq_true rfl) ?_
  refine lv_dup hx hb dX8_init_35 rfl ?_
  have hFc := va_free (wc := [(q3, .inr (3, [.int 0, .int 0, .int 0, .int 0, .int 0, .int 0, .int 0, .int 0, .int 0, .int 0]))]) hD hS hA [2] rfl
  refine va_callv (va_runIN (As := []) (rest := [.ref q3, .int 0, .ref q2]) ⟨hx, hb, hml, hown, hts⟩ (ci_Letter l dC dI H q3 (hP.sub (ws' := [(q3, .inr (3, [.int 0, .int 0, .int 0, .int 0, .int 0, .int 0, .int 0, .int 0, .int 0, .int 0]))]) [2] rfl) ((hD.sub (ws' := [(q3, .inr (3, [.int 0, .int 0, .int 0, .int 0, .int 0, .int 0, .int 0, .int 0, .int 0, .int 0]))]) [2] (by decide) rfl).weaken (fun _ _ _ _ => trivial))) ⟨va_cnB 0 hts gX8_init_X3_init_n21 rfl rfl rfl (hq.2.2.2.2.2.2.2.2.1) (hts (.initialized RX3) (by decide +kernel)) (by decide +kernel) ⟨Nat.le_of_ble_eq_true rfl, Nat.le_of_ble_eq_true rfl⟩, rfl, hts (.instanceMethod yX3_init) (by decide +kernel)⟩ ⟨kb_c, kb_m (hK.sub (tys' := []) [] rfl) hq⟩ rfl rfl hl.1 rfl (lv_room (Nat.le_of_ble_eq_true rfl)) dX8_init_36 ⟨Nat.le_of_ble_eq_true rfl, Nat.le_of_ble_eq_true rfl⟩) hS (fun q _ h => hFc q h) hFc (fun u t H_1 locs ht hvm hw hB hz1 hk1 hS => ?_)
  obtain ⟨hP1, hK1, hD1⟩ := hB
  rw [ht] at hP1
  obtain ⟨hP, hD⟩ := va_join (wr := [(h0, .inr (8, [.ref q1, .ref q2, .int 0, .int 0, .int 0, .int 0])), (q2, .inl (c2, 4, .inr (.inr (.inr (.inr (fun _ => none))))))]) (w1 := [(q3, .inr (3, [.int 0, .int 0, .int 0, .int 0, .int 0, .int 0, .int 0, .int 0, .int 0, .int 0]))]) hP hD [2] [0, 1] rfl rfl (by decide) (by decide) hk1 hFc hP1 hD1
  have hK : va_K (dC, dI) vwCl [(c2, .object RX3)] s := hK.app (va_K.moved hvm.symm hK1)
  have hP : va_P (dC, dI) vwCl [(h0, .inr (8, [.ref q1, .ref q2, .int 0, .int 0, .int 0, .int 0])), (q2, .inl (c2, 4, .inr (.inr (.inr (.inr (fun _ => none)))))), (q3, .inr (3, [.int 0, .int 0, .int 0, .int 0, .int 0, .int 0, .int 0, .int 0, .int 0, .int 0]))] H_1 := hP
  have hD : va_D (va_A [(h0, .inr (8, [.null, .null, .int 0, .int 0, .int 0, .int 0]))] s.heap.size) [(h0, .inr (8, [.ref q1, .ref q2, .int 0, .int 0, .int 0, .int 0])), (q2, .inl (c2, 4, .inr (.inr (.inr (.inr (fun _ => none)))))), (q3, .inr (3, [.int 0, .int 0, .int 0, .int 0, .int 0, .int 0, .int 0, .int 0, .int 0, .int 0]))] := hD
  refine W.widen (k := 3) (n := 21) (Nat.le_of_ble_eq_true rfl) (Nat.le_of_ble_eq_true rfl) ?_
  refine va_astq (r := (RX3, TX3, 10)) hx hb hK hP hD hS 1 0 2 3 rfl rfl rfl rfl (show vp_in 0 4 by unfold vp_in; decide) dX8_init_39 (fun H locs hP hD hS => ?_)
  have hP : va_P (dC, dI) vwCl [(h0, .inr (8, [.ref q1, .ref q2, .int 0, .int 0, .int 0, .int 0])), (q2, .inl (c2, 4, .inr (.inr (.inr (.inr (va_up (fun _ => none) 0 (some q3))))))), (q3, .inr (3, [.int 0, .int 0, .int 0, .int 0, .int 0, .int 0, .int 0, .int 0, .int 0, .int 0]))] H := hP
  have hD : va_D (va_A [(h0, .inr (8, [.null, .null, .int 0, .int 0, .int 0, .int 0]))] s.heap.size) [(h0, .inr (8, [.ref q1, .ref q2, .int 0, .int 0, .int 0, .int 0])), (q2, .inl (c2, 4, .inr (.inr (.inr (.inr (va_up (fun _ => none) 0 (some q3))))))), (q3, .inr (3, [.int 0, .int 0, .int 0, .int 0, .int 0, .int 0, .int 0, .int 0, .int 0, .int 0]))] := hD
  generalize (va_up (fun _ => none) 0 (some q3)) = f4 at hP hD
  have hP := hP.sub (ws' := [(h0, .inr (8, [.ref q1, .ref q2, .int 0, .int 0, .int 0, .int 0])), (q2, .inl (c2, 4, .inr (.inr (.inr (.inr f4)))))]) [0, 1] rfl
  have hD := hD.sub (ws' := [(h0, .inr (8, [.ref q1, .ref q2, .int 0, .int 0, .int 0, .int 0])), (q2, .inl (c2, 4, .inr (.inr (.inr (.inr f4)))))]) [0, 1] (by decide) rfl
  refine lv_iinc (v := 1) (lv' := [(1, .int 1), (0, .ref h0)]) hx hb dX8_init_40 hl (k := 0) rfl (by decide) (by decide) rfl (fun ls hl => ?_)
  refine lv_goto (tgt := 22) hx hb dX8_init_43 (by decide) ?_
  refine lv_iload_n hx hb dX8_init_22 rfl (lv_at hl 0 rfl) ?_
  refine lv_iconst (v := 4) hx hb dX8_init_23 (by decide) ?_
  refine lv_icmp_ge (tgt := 46) hx hb dX8_init_24 (by decide) (fun c => absurd c (by decide)) (fun _ => ?_)
  refine lv_aload_n hx hb dX8_init_27 rfl (lv_at hl 1 rfl) ?_
  refine va_get (D := (dC, dI)) (ci := 8) (v := .ref q2) (C := RX8) (T := TX8) (N := 6) hx hb hts (by decide +kernel) hown hK hP 0 rfl rfl 1 (by decide) (hts (.fieldLink RX8 17 "DearLetters$Standing" "letters" "[LDearLetters$Letter;") (by decide +kernel)) (fun _ h9 => h9) rfl dX8_init_28 ?_
  refine lv_iload_n hx hb dX8_init_31 rfl (lv_at hl 0 rfl) ?_
  refine va_new (ci := 3) (fs := [.int 0, .int 0, .int 0, .int 0, .int 0, .int 0, .int 0, .int 0, .int 0, .int 0]) (C := RX3) (T := TX3) (N := 10) hx hb hts (by decide +kernel) tyX3 tyX3_ok hown (hts (.classLink RX8 15 RX3) (by decide +kernel)) (hts (.instantiable RX3 10) (by decide +kernel)) (hts (.initialized RX3) (by decide +kernel)) hK hP hD hS hA rfl (fun j hj => by rcases (show j = 0 ∨ j = 1 ∨ j = 2 ∨ j = 3 ∨ j = 4 ∨ j = 5 ∨ j = 6 ∨ j = 7 ∨ j = 8 ∨ j = 9 by omega) with rfl | rfl | rfl | rfl | rfl | rfl | rfl | rfl | rfl | rfl <;> rfl) (Nat.le_of_ble_eq_true rfl) (Nat.le_of_ble_eq_true rfl) dX8_init_32 (fun q5 H hP hD hS => ?_)
  have hP : va_P (dC, dI) vwCl [(h0, .inr (8, [.ref q1, .ref q2, .int 0, .int 0, .int 0, .int 0])), (q2, .inl (c2, 4, .inr (.inr (.inr (.inr f4))))), (q5, .inr (3, [.int 0, .int 0, .int 0, .int 0, .int 0, .int 0, .int 0, .int 0, .int 0, .int 0]))] H := hP
  have hD : va_D (va_A [(h0, .inr (8, [.null, .null, .int 0, .int 0, .int 0, .int 0]))] s.heap.size) [(h0, .inr (8, [.ref q1, .ref q2, .int 0, .int 0, .int 0, .int 0])), (q2, .inl (c2, 4, .inr (.inr (.inr (.inr f4))))), (q5, .inr (3, [.int 0, .int 0, .int 0, .int 0, .int 0, .int 0, .int 0, .int 0, .int 0, .int 0]))] := hD
  refine W.widen (k := 4) (n := 31) (Nat.le_of_ble_eq_true rfl) (Nat.le_of_ble_eq_true rfl) ?_
  refine lv_dup hx hb dX8_init_35 rfl ?_
  have hFc := va_free (wc := [(q5, .inr (3, [.int 0, .int 0, .int 0, .int 0, .int 0, .int 0, .int 0, .int 0, .int 0, .int 0]))]) hD hS hA [2] rfl
  refine va_callv (va_runIN (As := []) (rest := [.ref q5, .int 1, .ref q2]) ⟨hx, hb, hml, hown, hts⟩ (ci_Letter l dC dI H q5 (hP.sub (ws' := [(q5, .inr (3, [.int 0, .int 0, .int 0, .int 0, .int 0, .int 0, .int 0, .int 0, .int 0, .int 0]))]) [2] rfl) ((hD.sub (ws' := [(q5, .inr (3, [.int 0, .int 0, .int 0, .int 0, .int 0, .int 0, .int 0, .int 0, .int 0, .int 0]))]) [2] (by decide) rfl).weaken (fun _ _ _ _ => trivial))) ⟨va_cnB 0 hts gX8_init_X3_init_n21 rfl rfl rfl (hq.2.2.2.2.2.2.2.2.1) (hts (.initialized RX3) (by decide +kernel)) (by decide +kernel) ⟨Nat.le_of_ble_eq_true rfl, Nat.le_of_ble_eq_true rfl⟩, rfl, hts (.instanceMethod yX3_init) (by decide +kernel)⟩ ⟨kb_c, kb_m (hK.sub (tys' := []) [] rfl) hq⟩ rfl rfl hl.1 rfl (lv_room (Nat.le_of_ble_eq_true rfl)) dX8_init_36 ⟨Nat.le_of_ble_eq_true rfl, Nat.le_of_ble_eq_true rfl⟩) hS (fun q _ h => hFc q h) hFc (fun u t H_2 locs ht hvm hw hB hz1 hk1 hS => ?_)
  obtain ⟨hP1, hK1, hD1⟩ := hB
  rw [ht] at hP1
  obtain ⟨hP, hD⟩ := va_join (wr := [(h0, .inr (8, [.ref q1, .ref q2, .int 0, .int 0, .int 0, .int 0])), (q2, .inl (c2, 4, .inr (.inr (.inr (.inr f4)))))]) (w1 := [(q5, .inr (3, [.int 0, .int 0, .int 0, .int 0, .int 0, .int 0, .int 0, .int 0, .int 0, .int 0]))]) hP hD [2] [0, 1] rfl rfl (by decide) (by decide) hk1 hFc hP1 hD1
  have hK : va_K (dC, dI) vwCl [(c2, .object RX3)] s := hK.app (va_K.moved hvm.symm hK1)
  have hP : va_P (dC, dI) vwCl [(h0, .inr (8, [.ref q1, .ref q2, .int 0, .int 0, .int 0, .int 0])), (q2, .inl (c2, 4, .inr (.inr (.inr (.inr f4))))), (q5, .inr (3, [.int 0, .int 0, .int 0, .int 0, .int 0, .int 0, .int 0, .int 0, .int 0, .int 0]))] H_2 := hP
  have hD : va_D (va_A [(h0, .inr (8, [.null, .null, .int 0, .int 0, .int 0, .int 0]))] s.heap.size) [(h0, .inr (8, [.ref q1, .ref q2, .int 0, .int 0, .int 0, .int 0])), (q2, .inl (c2, 4, .inr (.inr (.inr (.inr f4))))), (q5, .inr (3, [.int 0, .int 0, .int 0, .int 0, .int 0, .int 0, .int 0, .int 0, .int 0, .int 0]))] := hD
  refine W.widen (k := 4) (n := 31) (Nat.le_of_ble_eq_true rfl) (Nat.le_of_ble_eq_true rfl) ?_
  refine va_astq (r := (RX3, TX3, 10)) hx hb hK hP hD hS 1 0 2 3 rfl rfl rfl rfl (show vp_in 1 4 by unfold vp_in; decide) dX8_init_39 (fun H locs hP hD hS => ?_)
  have hP : va_P (dC, dI) vwCl [(h0, .inr (8, [.ref q1, .ref q2, .int 0, .int 0, .int 0, .int 0])), (q2, .inl (c2, 4, .inr (.inr (.inr (.inr (va_up f4 1 (some q5))))))), (q5, .inr (3, [.int 0, .int 0, .int 0, .int 0, .int 0, .int 0, .int 0, .int 0, .int 0, .int 0]))] H := hP
  have hD : va_D (va_A [(h0, .inr (8, [.null, .null, .int 0, .int 0, .int 0, .int 0]))] s.heap.size) [(h0, .inr (8, [.ref q1, .ref q2, .int 0, .int 0, .int 0, .int 0])), (q2, .inl (c2, 4, .inr (.inr (.inr (.inr (va_up f4 1 (some q5))))))), (q5, .inr (3, [.int 0, .int 0, .int 0, .int 0, .int 0, .int 0, .int 0, .int 0, .int 0, .int 0]))] := hD
  generalize (va_up f4 1 (some q5)) = f6 at hP hD
  have hP := hP.sub (ws' := [(h0, .inr (8, [.ref q1, .ref q2, .int 0, .int 0, .int 0, .int 0])), (q2, .inl (c2, 4, .inr (.inr (.inr (.inr f6)))))]) [0, 1] rfl
  have hD := hD.sub (ws' := [(h0, .inr (8, [.ref q1, .ref q2, .int 0, .int 0, .int 0, .int 0])), (q2, .inl (c2, 4, .inr (.inr (.inr (.inr f6)))))]) [0, 1] (by decide) rfl
  refine lv_iinc (v := 2) (lv' := [(1, .int 2), (0, .ref h0)]) hx hb dX8_init_40 hl (k := 0) rfl (by decide) (by decide) rfl (fun ls hl => ?_)
  refine lv_goto (tgt := 22) hx hb dX8_init_43 (by decide) ?_
  refine lv_iload_n hx hb dX8_init_22 rfl (lv_at hl 0 rfl) ?_
  refine lv_iconst (v := 4) hx hb dX8_init_23 (by decide) ?_
  refine lv_icmp_ge (tgt := 46) hx hb dX8_init_24 (by decide) (fun c => absurd c (by decide)) (fun _ => ?_)
  refine lv_aload_n hx hb dX8_init_27 rfl (lv_at hl 1 rfl) ?_
  refine va_get (D := (dC, dI)) (ci := 8) (v := .ref q2) (C := RX8) (T := TX8) (N := 6) hx hb hts (by decide +kernel) hown hK hP 0 rfl rfl 1 (by decide) (hts (.fieldLink RX8 17 "DearLetters$Standing" "letters" "[LDearLetters$Letter;") (by decide +kernel)) (fun _ h9 => h9) rfl dX8_init_28 ?_
  refine lv_iload_n hx hb dX8_init_31 rfl (lv_at hl 0 rfl) ?_
  refine va_new (ci := 3) (fs := [.int 0, .int 0, .int 0, .int 0, .int 0, .int 0, .int 0, .int 0, .int 0, .int 0]) (C := RX3) (T := TX3) (N := 10) hx hb hts (by decide +kernel) tyX3 tyX3_ok hown (hts (.classLink RX8 15 RX3) (by decide +kernel)) (hts (.instantiable RX3 10) (by decide +kernel)) (hts (.initialized RX3) (by decide +kernel)) hK hP hD hS hA rfl (fun j hj => by rcases (show j = 0 ∨ j = 1 ∨ j = 2 ∨ j = 3 ∨ j = 4 ∨ j = 5 ∨ j = 6 ∨ j = 7 ∨ j = 8 ∨ j = 9 by omega) with rfl | rfl | rfl | rfl | rfl | rfl | rfl | rfl | rfl | rfl <;> rfl) (Nat.le_of_ble_eq_true rfl) (Nat.le_of_ble_eq_true rfl) dX8_init_32 (fun q7 H hP hD hS => ?_)
  have hP : va_P (dC, dI) vwCl [(h0, .inr (8, [.ref q1, .ref q2, .int 0, .int 0, .int 0, .int 0])), (q2, .inl (c2, 4, .inr (.inr (.inr (.inr f6))))), (q7, .inr (3, [.int 0, .int 0, .int 0, .int 0, .int 0, .int 0, .int 0, .int 0, .int 0, .int 0]))] H := hP
  have hD : va_D (va_A [(h0, .inr (8, [.null, .null, .int 0, .int 0, .int 0, .int 0]))] s.heap.size) [(h0, .inr (8, [.ref q1, .ref q2, .int 0, .int 0, .int 0, .int 0])), (q2, .inl (c2, 4, .inr (.inr (.inr (.inr f6))))), (q7, .inr (3, [.int 0, .int 0, .int 0, .int 0, .int 0, .int 0, .int 0, .int 0, .int 0, .int 0]))] := hD
  refine W.widen (k := 5) (n := 41) (Nat.le_of_ble_eq_true rfl) (Nat.le_of_ble_eq_true rfl) ?_
  refine lv_dup hx hb dX8_init_35 rfl ?_
  have hFc := va_free (wc := [(q7, .inr (3, [.int 0, .int 0, .int 0, .int 0, .int 0, .int 0, .int 0, .int 0, .int 0, .int 0]))]) hD hS hA [2] rfl
  refine va_callv (va_runIN (As := []) (rest := [.ref q7, .int 2, .ref q2]) ⟨hx, hb, hml, hown, hts⟩ (ci_Letter l dC dI H q7 (hP.sub (ws' := [(q7, .inr (3, [.int 0, .int 0, .int 0, .int 0, .int 0, .int 0, .int 0, .int 0, .int 0, .int 0]))]) [2] rfl) ((hD.sub (ws' := [(q7, .inr (3, [.int 0, .int 0, .int 0, .int 0, .int 0, .int 0, .int 0, .int 0, .int 0, .int 0]))]) [2] (by decide) rfl).weaken (fun _ _ _ _ => trivial))) ⟨va_cnB 0 hts gX8_init_X3_init_n21 rfl rfl rfl (hq.2.2.2.2.2.2.2.2.1) (hts (.initialized RX3) (by decide +kernel)) (by decide +kernel) ⟨Nat.le_of_ble_eq_true rfl, Nat.le_of_ble_eq_true rfl⟩, rfl, hts (.instanceMethod yX3_init) (by decide +kernel)⟩ ⟨kb_c, kb_m (hK.sub (tys' := []) [] rfl) hq⟩ rfl rfl hl.1 rfl (lv_room (Nat.le_of_ble_eq_true rfl)) dX8_init_36 ⟨Nat.le_of_ble_eq_true rfl, Nat.le_of_ble_eq_true rfl⟩) hS (fun q _ h => hFc q h) hFc (fun u t H_3 locs ht hvm hw hB hz1 hk1 hS => ?_)
  obtain ⟨hP1, hK1, hD1⟩ := hB
  rw [ht] at hP1
  obtain ⟨hP, hD⟩ := va_join (wr := [(h0, .inr (8, [.ref q1, .ref q2, .int 0, .int 0, .int 0, .int 0])), (q2, .inl (c2, 4, .inr (.inr (.inr (.inr f6)))))]) (w1 := [(q7, .inr (3, [.int 0, .int 0, .int 0, .int 0, .int 0, .int 0, .int 0, .int 0, .int 0, .int 0]))]) hP hD [2] [0, 1] rfl rfl (by decide) (by decide) hk1 hFc hP1 hD1
  have hK : va_K (dC, dI) vwCl [(c2, .object RX3)] s := hK.app (va_K.moved hvm.symm hK1)
  have hP : va_P (dC, dI) vwCl [(h0, .inr (8, [.ref q1, .ref q2, .int 0, .int 0, .int 0, .int 0])), (q2, .inl (c2, 4, .inr (.inr (.inr (.inr f6))))), (q7, .inr (3, [.int 0, .int 0, .int 0, .int 0, .int 0, .int 0, .int 0, .int 0, .int 0, .int 0]))] H_3 := hP
  have hD : va_D (va_A [(h0, .inr (8, [.null, .null, .int 0, .int 0, .int 0, .int 0]))] s.heap.size) [(h0, .inr (8, [.ref q1, .ref q2, .int 0, .int 0, .int 0, .int 0])), (q2, .inl (c2, 4, .inr (.inr (.inr (.inr f6))))), (q7, .inr (3, [.int 0, .int 0, .int 0, .int 0, .int 0, .int 0, .int 0, .int 0, .int 0, .int 0]))] := hD
  refine W.widen (k := 5) (n := 41) (Nat.le_of_ble_eq_true rfl) (Nat.le_of_ble_eq_true rfl) ?_
  refine va_astq (r := (RX3, TX3, 10)) hx hb hK hP hD hS 1 0 2 3 rfl rfl rfl rfl (show vp_in 2 4 by unfold vp_in; decide) dX8_init_39 (fun H locs hP hD hS => ?_)
  have hP : va_P (dC, dI) vwCl [(h0, .inr (8, [.ref q1, .ref q2, .int 0, .int 0, .int 0, .int 0])), (q2, .inl (c2, 4, .inr (.inr (.inr (.inr (va_up f6 2 (some q7))))))), (q7, .inr (3, [.int 0, .int 0, .int 0, .int 0, .int 0, .int 0, .int 0, .int 0, .int 0, .int 0]))] H := hP
  have hD : va_D (va_A [(h0, .inr (8, [.null, .null, .int 0, .int 0, .int 0, .int 0]))] s.heap.size) [(h0, .inr (8, [.ref q1, .ref q2, .int 0, .int 0, .int 0, .int 0])), (q2, .inl (c2, 4, .inr (.inr (.inr (.inr (va_up f6 2 (some q7))))))), (q7, .inr (3, [.int 0, .int 0, .int 0, .int 0, .int 0, .int 0, .int 0, .int 0, .int 0, .int 0]))] := hD
  generalize (va_up f6 2 (some q7)) = f8 at hP hD
  have hP := hP.sub (ws' := [(h0, .inr (8, [.ref q1, .ref q2, .int 0, .int 0, .int 0, .int 0])), (q2, .inl (c2, 4, .inr (.inr (.inr (.inr f8)))))]) [0, 1] rfl
  have hD := hD.sub (ws' := [(h0, .inr (8, [.ref q1, .ref q2, .int 0, .int 0, .int 0, .int 0])), (q2, .inl (c2, 4, .inr (.inr (.inr (.inr f8)))))]) [0, 1] (by decide) rfl
  refine lv_iinc (v := 3) (lv' := [(1, .int 3), (0, .ref h0)]) hx hb dX8_init_40 hl (k := 0) rfl (by decide) (by decide) rfl (fun ls hl => ?_)
  refine lv_goto (tgt := 22) hx hb dX8_init_43 (by decide) ?_
  refine lv_iload_n hx hb dX8_init_22 rfl (lv_at hl 0 rfl) ?_
  refine lv_iconst (v := 4) hx hb dX8_init_23 (by decide) ?_
  refine lv_icmp_ge (tgt := 46) hx hb dX8_init_24 (by decide) (fun c => absurd c (by decide)) (fun _ => ?_)
  refine lv_aload_n hx hb dX8_init_27 rfl (lv_at hl 1 rfl) ?_
  refine va_get (D := (dC, dI)) (ci := 8) (v := .ref q2) (C := RX8) (T := TX8) (N := 6) hx hb hts (by decide +kernel) hown hK hP 0 rfl rfl 1 (by decide) (hts (.fieldLink RX8 17 "DearLetters$Standing" "letters" "[LDearLetters$Letter;") (by decide +kernel)) (fun _ h9 => h9) rfl dX8_init_28 ?_
  refine lv_iload_n hx hb dX8_init_31 rfl (lv_at hl 0 rfl) ?_
  refine va_new (ci := 3) (fs := [.int 0, .int 0, .int 0, .int 0, .int 0, .int 0, .int 0, .int 0, .int 0, .int 0]) (C := RX3) (T := TX3) (N := 10) hx hb hts (by decide +kernel) tyX3 tyX3_ok hown (hts (.classLink RX8 15 RX3) (by decide +kernel)) (hts (.instantiable RX3 10) (by decide +kernel)) (hts (.initialized RX3) (by decide +kernel)) hK hP hD hS hA rfl (fun j hj => by rcases (show j = 0 ∨ j = 1 ∨ j = 2 ∨ j = 3 ∨ j = 4 ∨ j = 5 ∨ j = 6 ∨ j = 7 ∨ j = 8 ∨ j = 9 by omega) with rfl | rfl | rfl | rfl | rfl | rfl | rfl | rfl | rfl | rfl <;> rfl) (Nat.le_of_ble_eq_true rfl) (Nat.le_of_ble_eq_true rfl) dX8_init_32 (fun q9 H hP hD hS => ?_)
  have hP : va_P (dC, dI) vwCl [(h0, .inr (8, [.ref q1, .ref q2, .int 0, .int 0, .int 0, .int 0])), (q2, .inl (c2, 4, .inr (.inr (.inr (.inr f8))))), (q9, .inr (3, [.int 0, .int 0, .int 0, .int 0, .int 0, .int 0, .int 0, .int 0, .int 0, .int 0]))] H := hP
  have hD : va_D (va_A [(h0, .inr (8, [.null, .null, .int 0, .int 0, .int 0, .int 0]))] s.heap.size) [(h0, .inr (8, [.ref q1, .ref q2, .int 0, .int 0, .int 0, .int 0])), (q2, .inl (c2, 4, .inr (.inr (.inr (.inr f8))))), (q9, .inr (3, [.int 0, .int 0, .int 0, .int 0, .int 0, .int 0, .int 0, .int 0, .int 0, .int 0]))] := hD
  refine W.widen (k := 6) (n := 51) (Nat.le_of_ble_eq_true rfl) (Nat.le_of_ble_eq_true rfl) ?_
  refine lv_dup hx hb dX8_init_35 rfl ?_
  have hFc := va_free (wc := [(q9, .inr (3, [.int 0, .int 0, .int 0, .int 0, .int 0, .int 0, .int 0, .int 0, .int 0, .int 0]))]) hD hS hA [2] rfl
  refine va_callv (va_runIN (As := []) (rest := [.ref q9, .int 3, .ref q2]) ⟨hx, hb, hml, hown, hts⟩ (ci_Letter l dC dI H q9 (hP.sub (ws' := [(q9, .inr (3, [.int 0, .int 0, .int 0, .int 0, .int 0, .int 0, .int 0, .int 0, .int 0, .int 0]))]) [2] rfl) ((hD.sub (ws' := [(q9, .inr (3, [.int 0, .int 0, .int 0, .int 0, .int 0, .int 0, .int 0, .int 0, .int 0, .int 0]))]) [2] (by decide) rfl).weaken (fun _ _ _ _ => trivial))) ⟨va_cnB 0 hts gX8_init_X3_init_n21 rfl rfl rfl (hq.2.2.2.2.2.2.2.2.1) (hts (.initialized RX3) (by decide +kernel)) (by decide +kernel) ⟨Nat.le_of_ble_eq_true rfl, Nat.le_of_ble_eq_true rfl⟩, rfl, hts (.instanceMethod yX3_init) (by decide +kernel)⟩ ⟨kb_c, kb_m (hK.sub (tys' := []) [] rfl) hq⟩ rfl rfl hl.1 rfl (lv_room (Nat.le_of_ble_eq_true rfl)) dX8_init_36 ⟨Nat.le_of_ble_eq_true rfl, Nat.le_of_ble_eq_true rfl⟩) hS (fun q _ h => hFc q h) hFc (fun u t H_4 locs ht hvm hw hB hz1 hk1 hS => ?_)
  obtain ⟨hP1, hK1, hD1⟩ := hB
  rw [ht] at hP1
  obtain ⟨hP, hD⟩ := va_join (wr := [(h0, .inr (8, [.ref q1, .ref q2, .int 0, .int 0, .int 0, .int 0])), (q2, .inl (c2, 4, .inr (.inr (.inr (.inr f8)))))]) (w1 := [(q9, .inr (3, [.int 0, .int 0, .int 0, .int 0, .int 0, .int 0, .int 0, .int 0, .int 0, .int 0]))]) hP hD [2] [0, 1] rfl rfl (by decide) (by decide) hk1 hFc hP1 hD1
  have hK : va_K (dC, dI) vwCl [(c2, .object RX3)] s := hK.app (va_K.moved hvm.symm hK1)
  have hP : va_P (dC, dI) vwCl [(h0, .inr (8, [.ref q1, .ref q2, .int 0, .int 0, .int 0, .int 0])), (q2, .inl (c2, 4, .inr (.inr (.inr (.inr f8))))), (q9, .inr (3, [.int 0, .int 0, .int 0, .int 0, .int 0, .int 0, .int 0, .int 0, .int 0, .int 0]))] H_4 := hP
  have hD : va_D (va_A [(h0, .inr (8, [.null, .null, .int 0, .int 0, .int 0, .int 0]))] s.heap.size) [(h0, .inr (8, [.ref q1, .ref q2, .int 0, .int 0, .int 0, .int 0])), (q2, .inl (c2, 4, .inr (.inr (.inr (.inr f8))))), (q9, .inr (3, [.int 0, .int 0, .int 0, .int 0, .int 0, .int 0, .int 0, .int 0, .int 0, .int 0]))] := hD
  refine W.widen (k := 6) (n := 51) (Nat.le_of_ble_eq_true rfl) (Nat.le_of_ble_eq_true rfl) ?_
  refine va_astq (r := (RX3, TX3, 10)) hx hb hK hP hD hS 1 0 2 3 rfl rfl rfl rfl (show vp_in 3 4 by unfold vp_in; decide) dX8_init_39 (fun H locs hP hD hS => ?_)
  have hP : va_P (dC, dI) vwCl [(h0, .inr (8, [.ref q1, .ref q2, .int 0, .int 0, .int 0, .int 0])), (q2, .inl (c2, 4, .inr (.inr (.inr (.inr (va_up f8 3 (some q9))))))), (q9, .inr (3, [.int 0, .int 0, .int 0, .int 0, .int 0, .int 0, .int 0, .int 0, .int 0, .int 0]))] H := hP
  have hD : va_D (va_A [(h0, .inr (8, [.null, .null, .int 0, .int 0, .int 0, .int 0]))] s.heap.size) [(h0, .inr (8, [.ref q1, .ref q2, .int 0, .int 0, .int 0, .int 0])), (q2, .inl (c2, 4, .inr (.inr (.inr (.inr (va_up f8 3 (some q9))))))), (q9, .inr (3, [.int 0, .int 0, .int 0, .int 0, .int 0, .int 0, .int 0, .int 0, .int 0, .int 0]))] := hD
  generalize (va_up f8 3 (some q9)) = f10 at hP hD
  have hP := hP.sub (ws' := [(h0, .inr (8, [.ref q1, .ref q2, .int 0, .int 0, .int 0, .int 0])), (q2, .inl (c2, 4, .inr (.inr (.inr (.inr f10)))))]) [0, 1] rfl
  have hD := hD.sub (ws' := [(h0, .inr (8, [.ref q1, .ref q2, .int 0, .int 0, .int 0, .int 0])), (q2, .inl (c2, 4, .inr (.inr (.inr (.inr f10)))))]) [0, 1] (by decide) rfl
  refine lv_iinc (v := 4) (lv' := [(1, .int 4), (0, .ref h0)]) hx hb dX8_init_40 hl (k := 0) rfl (by decide) (by decide) rfl (fun ls hl => ?_)
  refine lv_goto (tgt := 22) hx hb dX8_init_43 (by decide) ?_
  refine lv_iload_n hx hb dX8_init_22 rfl (lv_at hl 0 rfl) ?_
  refine lv_iconst (v := 4) hx hb dX8_init_23 (by decide) ?_
  refine lv_icmp_ge (tgt := 46) hx hb dX8_init_24 (by decide) (fun _ => ?_) (fun c => absurd (by decide) c)
  have hP := hP.sub (ws' := [(h0, .inr (8, [.ref q1, .ref q2, .int 0, .int 0, .int 0, .int 0]))]) [0] rfl
  have hD := hD.sub (ws' := [(h0, .inr (8, [.ref q1, .ref q2, .int 0, .int 0, .int 0, .int 0]))]) [0] (by decide) rfl
  have hK := hK.sub (tys' := []) [] rfl
  exact W.vret hx hb hr (fun t ht hW => ⟨⟨(), rfl, trivial, q1, q2, by first | (subst ht; exact hP) | (rw [ht]; exact hP), va_K.moved hW.alike hK, hD⟩, hS.F ht⟩) hS.2.2 dX8_init_46
theorem dX10_init_0 : decode cX10_init 0 = .ok (.aload_n 0, 1) := by decide +kernel
theorem dX10_init_1 : decode cX10_init 1 = .ok (.invokespecial 3, 3) := by decide +kernel
theorem dX10_init_4 : decode cX10_init 4 = .ok (.aload_n 0, 1) := by decide +kernel
theorem dX10_init_5 : decode cX10_init 5 = .ok (.bipush 7, 2) := by decide +kernel
theorem dX10_init_7 : decode cX10_init 7 = .ok (.newarray .int, 2) := by decide +kernel
theorem dX10_init_9 : decode cX10_init 9 = .ok (.putfield 9, 3) := by decide +kernel
theorem dX10_init_12 : decode cX10_init 12 = .ok (.aload_n 0, 1) := by decide +kernel
theorem dX10_init_13 : decode cX10_init 13 = .ok (.bipush 12, 2) := by decide +kernel
theorem dX10_init_15 : decode cX10_init 15 = .ok (.newarray .int, 2) := by decide +kernel
theorem dX10_init_17 : decode cX10_init 17 = .ok (.putfield 15, 3) := by decide +kernel
theorem dX10_init_20 : decode cX10_init 20 = .ok (.aload_n 0, 1) := by decide +kernel
theorem dX10_init_21 : decode cX10_init 21 = .ok (.bipush 12, 2) := by decide +kernel
theorem dX10_init_23 : decode cX10_init 23 = .ok (.newarray .int, 2) := by decide +kernel
theorem dX10_init_25 : decode cX10_init 25 = .ok (.putfield 18, 3) := by decide +kernel
theorem dX10_init_28 : decode cX10_init 28 = .ok (.aload_n 0, 1) := by decide +kernel
theorem dX10_init_29 : decode cX10_init 29 = .ok (.new 21, 3) := by decide +kernel
theorem dX10_init_32 : decode cX10_init 32 = .ok (.dup, 1) := by decide +kernel
theorem dX10_init_33 : decode cX10_init 33 = .ok (.invokespecial 23, 3) := by decide +kernel
theorem dX10_init_36 : decode cX10_init 36 = .ok (.putfield 24, 3) := by decide +kernel
theorem dX10_init_39 : decode cX10_init 39 = .ok (.aload_n 0, 1) := by decide +kernel
theorem dX10_init_40 : decode cX10_init 40 = .ok (.bipush 7, 2) := by decide +kernel
theorem dX10_init_42 : decode cX10_init 42 = .ok (.newarray .int, 2) := by decide +kernel
theorem dX10_init_44 : decode cX10_init 44 = .ok (.putfield 28, 3) := by decide +kernel
theorem dX10_init_47 : decode cX10_init 47 = .ok (.aload_n 0, 1) := by decide +kernel
theorem dX10_init_48 : decode cX10_init 48 = .ok (.bipush 7, 2) := by decide +kernel
theorem dX10_init_50 : decode cX10_init 50 = .ok (.newarray .int, 2) := by decide +kernel
theorem dX10_init_52 : decode cX10_init 52 = .ok (.putfield 31, 3) := by decide +kernel
theorem dX10_init_55 : decode cX10_init 55 = .ok (.return_, 1) := by decide +kernel
set_option maxRecDepth 20000 in
theorem ggX10_init_X8_init : GoodIn wsX10_init wsX8_init := goodIn_r _ [16, 17, 2, 3, 4, 18, 19, 20, 21, 22, 23, 24, 25, 34, 35, 36, 37, 38, 39, 40, 41, 42, 43, 44, 45, 46, 47, 48, 49] (by decide +kernel) (by decide +kernel)
set_option maxRecDepth 20000 in
theorem gX10_init_X8_init : GoodIn wsX10_init (wsX8_init) := ggX10_init_X8_init
set_option maxHeartbeats 4000000 in
set_option maxRecDepth 100000 in
/-- the Town -/
theorem ci_Town (l : Launch) (dC : Nat → ClassId) (dI : Nat → Nat → Nat) (H : Heap) (h0 : Nat) (hP : va_P (dC, dI) vwCl [(h0, .inr (10, [.null, .null, .null, .null, .null, .null, .int 0, .int 0]))] H) (hD0 : va_D (fun _ => True) [(h0, .inr (10, [.null, .null, .null, .null, .null, .null, .int 0, .int 0]))]) : Met l yX10_init wsX10_init ({ frames := 3, cells := 12, slots := 102, locals := 55 }) (va_Pc [.ref h0] (kb_P (dC, dI) vwCl [] H)) (va_Qv (fun (_ : Unit) => True) (fun _ t => ∃ q1 : Nat, ∃ q2 : Nat, ∃ q3 : Nat, ∃ q4 : Nat, ∃ q5 : Nat, ∃ q6 : Nat, ∃ q7 : Nat, ∃ q8 : Nat, va_P (dC, dI) vwCl [(h0, .inr (10, [.ref q1, .ref q2, .ref q3, .ref q4, .ref q7, .ref q8, .int 0, .int 0])), (q4, .inr (8, [.ref q5, .ref q6, .int 0, .int 0, .int 0, .int 0]))] t.heap ∧ va_K (dC, dI) vwCl [] t ∧ va_D (va_A [(h0, .inr (10, [.null, .null, .null, .null, .null, .null, .int 0, .int 0]))] H.size) [(h0, .inr (10, [.ref q1, .ref q2, .ref q3, .ref q4, .ref q7, .ref q8, .int 0, .int 0])), (q4, .inr (8, [.ref q5, .ref q6, .int 0, .int 0, .int 0, .int 0]))]) (va_A [(h0, .inr (10, [.null, .null, .null, .null, .null, .null, .int 0, .int 0]))] H.size)) 12 102 (va_A [(h0, .inr (10, [.null, .null, .null, .null, .null, .null, .int 0, .int 0]))] H.size) := by
  refine Met.ofW (cc := cX10_init) (maxL := 1) (ret := none) (by decide) rfl ?_
  intro p e s m args below meth c s₁ B hml hv
  obtain ⟨rfl, hh, hK, hq⟩ := hv
  have hx := B.exec
  have hb := B.bytes
  have hr := B.returns
  have hts := atoms_spec (ws := wsX10_init) B.pre
  have hown : s.vm.findClass RX10 = some m.cls := findClass_of_methodNamed B.named
  have hlocks := B.notSynchronized
  have hin : meth.name = "<init>" := (name_of_methodNamed B.named B.method).1
  subst hh
  have hD := hD0.self (sz := s.heap.size)
  have hA : ∀ q : Nat, s.heap.size ≤ q → (va_A [(h0, .inr (10, [.null, .null, .null, .null, .null, .null, .int 0, .int 0]))] s.heap.size) q := fun q h => Or.inr h
  have hS : va_S (va_A [(h0, .inr (10, [.null, .null, .null, .null, .null, .null, .int 0, .int 0]))] s.heap.size) s.heap s.heap [] := va_S.rf
  have hl := lv_entry ([.ref h0]) (n := 1) (Nat.le_of_ble_eq_true rfl)
  rw [lg_entry_eq]
  generalize (lg_sl ([.ref h0]) ++ List.replicate (1 - (lg_sl ([.ref h0])).length) Slot.unset).toArray = ls at hl ⊢
  have hl : lv_has ls 1 [(0, .ref h0)] := hl
  refine lv_aload_n hx hb dX10_init_0 rfl (lv_at hl 0 rfl) ?_
  refine W.objInit hx hb hown (hts (.methodLink RX10 3 objectInit) (by decide +kernel)) (hts (.instanceMethod objectInit) (by decide +kernel)) (hts (.code objectInit ⟨#[0xb1]⟩ 1 none) (by decide +kernel)) rfl (by rw [hml]; exact hl.1) rfl dX10_init_1 (Nat.le_of_ble_eq_true rfl) (Nat.le_of_ble_eq_true rfl) ?_
  refine W.eq (g2 := F0 m 4 ls []) rfl ?_
  refine lv_aload_n hx hb dX10_init_4 rfl (lv_at hl 0 rfl) ?_
  refine lv_bipush (v := 7) hx hb dX10_init_5 (by decide) ?_
  refine va_newa (atype := .int) (a0 := (7, .inl (fun _ => 0))) hx hb (hts (.arrayClass .int) (by decide +kernel)) rfl hK hP hD hS hA (fun cA => rfl) (by decide) rfl (by decide) (Nat.le_of_ble_eq_true rfl) (Nat.le_of_ble_eq_true rfl) dX10_init_7 (fun q1 c1 H hK hP hD hS => ?_)
  have hP : va_P (dC, dI) vwCl [(h0, .inr (10, [.null, .null, .null, .null, .null, .null, .int 0, .int 0])), (q1, .inl (c1, 7, .inl (fun _ => 0)))] H := hP
  have hD : va_D (va_A [(h0, .inr (10, [.null, .null, .null, .null, .null, .null, .int 0, .int 0]))] s.heap.size) [(h0, .inr (10, [.null, .null, .null, .null, .null, .null, .int 0, .int 0])), (q1, .inl (c1, 7, .inl (fun _ => 0)))] := hD
  have hK : va_K (dC, dI) vwCl [(c1, .int)] s := hK
  refine W.widen (k := 1) (n := 7) (Nat.le_of_ble_eq_true rfl) (Nat.le_of_ble_eq_true rfl) ?_
  refine va_putF (D := (dC, dI)) (ci := 10) (v := .ref q1) (ty := (.array .int)) (C := RX10) (T := TX10) (N := 8) hx hb hts (by decide +kernel) tyX10 tyX10_ok nmX10 hown hK hP hD hS 0 rfl rfl 0 (by decide) (hts (.fieldLink RX10 9 "DearLetters$Town" "kinds" "[I") (by decide +kernel)) (fun _ h9 => h9) rfl hin rfl (by decide +kernel) (by first | rfl | decide) (by first | rfl | decide) (Nat.le_of_ble_eq_true rfl) dX10_init_9 (fun H locs hP hD hS => ?_)
  have hP : va_P (dC, dI) vwCl [(h0, .inr (10, [.ref q1, .null, .null, .null, .null, .null, .int 0, .int 0])), (q1, .inl (c1, 7, .inl (fun _ => 0)))] H := hP
  have hD : va_D (va_A [(h0, .inr (10, [.null, .null, .null, .null, .null, .null, .int 0, .int 0]))] s.heap.size) [(h0, .inr (10, [.ref q1, .null, .null, .null, .null, .null, .int 0, .int 0])), (q1, .inl (c1, 7, .inl (fun _ => 0)))] := hD
  have hP := hP.sub (ws' := [(h0, .inr (10, [.ref q1, .null, .null, .null, .null, .null, .int 0, .int 0]))]) [0] rfl
  have hD := hD.sub (ws' := [(h0, .inr (10, [.ref q1, .null, .null, .null, .null, .null, .int 0, .int 0]))]) [0] (by decide) rfl
  have hK := hK.sub (tys' := []) [] rfl
  refine lv_aload_n hx hb dX10_init_12 rfl (lv_at hl 0 rfl) ?_
  refine lv_bipush (v := 12) hx hb dX10_init_13 (by decide) ?_
  refine va_newa (atype := .int) (a0 := (12, .inl (fun _ => 0))) hx hb (hts (.arrayClass .int) (by decide +kernel)) rfl hK hP hD hS hA (fun cA => rfl) (by decide) rfl (by decide) (Nat.le_of_ble_eq_true rfl) (Nat.le_of_ble_eq_true rfl) dX10_init_15 (fun q2 c2 H hK hP hD hS => ?_)
  have hP : va_P (dC, dI) vwCl [(h0, .inr (10, [.ref q1, .null, .null, .null, .null, .null, .int 0, .int 0])), (q2, .inl (c2, 12, .inl (fun _ => 0)))] H := hP
  have hD : va_D (va_A [(h0, .inr (10, [.null, .null, .null, .null, .null, .null, .int 0, .int 0]))] s.heap.size) [(h0, .inr (10, [.ref q1, .null, .null, .null, .null, .null, .int 0, .int 0])), (q2, .inl (c2, 12, .inl (fun _ => 0)))] := hD
  have hK : va_K (dC, dI) vwCl [(c2, .int)] s := hK
  refine W.widen (k := 2) (n := 19) (Nat.le_of_ble_eq_true rfl) (Nat.le_of_ble_eq_true rfl) ?_
  refine va_putF (D := (dC, dI)) (ci := 10) (v := .ref q2) (ty := (.array .int)) (C := RX10) (T := TX10) (N := 8) hx hb hts (by decide +kernel) tyX10 tyX10_ok nmX10 hown hK hP hD hS 0 rfl rfl 1 (by decide) (hts (.fieldLink RX10 15 "DearLetters$Town" "oneEnds" "[I") (by decide +kernel)) (fun _ h9 => h9) rfl hin rfl (by decide +kernel) (by first | rfl | decide) (by first | rfl | decide) (Nat.le_of_ble_eq_true rfl) dX10_init_17 (fun H locs hP hD hS => ?_)
  have hP : va_P (dC, dI) vwCl [(h0, .inr (10, [.ref q1, .ref q2, .null, .null, .null, .null, .int 0, .int 0])), (q2, .inl (c2, 12, .inl (fun _ => 0)))] H := hP
  have hD : va_D (va_A [(h0, .inr (10, [.null, .null, .null, .null, .null, .null, .int 0, .int 0]))] s.heap.size) [(h0, .inr (10, [.ref q1, .ref q2, .null, .null, .null, .null, .int 0, .int 0])), (q2, .inl (c2, 12, .inl (fun _ => 0)))] := hD
  have hP := hP.sub (ws' := [(h0, .inr (10, [.ref q1, .ref q2, .null, .null, .null, .null, .int 0, .int 0]))]) [0] rfl
  have hD := hD.sub (ws' := [(h0, .inr (10, [.ref q1, .ref q2, .null, .null, .null, .null, .int 0, .int 0]))]) [0] (by decide) rfl
  have hK := hK.sub (tys' := []) [] rfl
  refine lv_aload_n hx hb dX10_init_20 rfl (lv_at hl 0 rfl) ?_
  refine lv_bipush (v := 12) hx hb dX10_init_21 (by decide) ?_
  refine va_newa (atype := .int) (a0 := (12, .inl (fun _ => 0))) hx hb (hts (.arrayClass .int) (by decide +kernel)) rfl hK hP hD hS hA (fun cA => rfl) (by decide) rfl (by decide) (Nat.le_of_ble_eq_true rfl) (Nat.le_of_ble_eq_true rfl) dX10_init_23 (fun q3 c3 H hK hP hD hS => ?_)
  have hP : va_P (dC, dI) vwCl [(h0, .inr (10, [.ref q1, .ref q2, .null, .null, .null, .null, .int 0, .int 0])), (q3, .inl (c3, 12, .inl (fun _ => 0)))] H := hP
  have hD : va_D (va_A [(h0, .inr (10, [.null, .null, .null, .null, .null, .null, .int 0, .int 0]))] s.heap.size) [(h0, .inr (10, [.ref q1, .ref q2, .null, .null, .null, .null, .int 0, .int 0])), (q3, .inl (c3, 12, .inl (fun _ => 0)))] := hD
  have hK : va_K (dC, dI) vwCl [(c3, .int)] s := hK
  refine W.widen (k := 3) (n := 31) (Nat.le_of_ble_eq_true rfl) (Nat.le_of_ble_eq_true rfl) ?_
  refine va_putF (D := (dC, dI)) (ci := 10) (v := .ref q3) (ty := (.array .int)) (C := RX10) (T := TX10) (N := 8) hx hb hts (by decide +kernel) tyX10 tyX10_ok nmX10 hown hK hP hD hS 0 rfl rfl 2 (by decide) (hts (.fieldLink RX10 18 "DearLetters$Town" "otherEnds" "[I") (by decide +kernel)) (fun _ h9 => h9) rfl hin rfl (by decide +kernel) (by first | rfl | decide) (by first | rfl | decide) (Nat.le_of_ble_eq_true rfl) dX10_init_25 (fun H locs hP hD hS => ?_)
  have hP : va_P (dC, dI) vwCl [(h0, .inr (10, [.ref q1, .ref q2, .ref q3, .null, .null, .null, .int 0, .int 0])), (q3, .inl (c3, 12, .inl (fun _ => 0)))] H := hP
  have hD : va_D (va_A [(h0, .inr (10, [.null, .null, .null, .null, .null, .null, .int 0, .int 0]))] s.heap.size) [(h0, .inr (10, [.ref q1, .ref q2, .ref q3, .null, .null, .null, .int 0, .int 0])), (q3, .inl (c3, 12, .inl (fun _ => 0)))] := hD
  have hP := hP.sub (ws' := [(h0, .inr (10, [.ref q1, .ref q2, .ref q3, .null, .null, .null, .int 0, .int 0]))]) [0] rfl
  have hD := hD.sub (ws' := [(h0, .inr (10, [.ref q1, .ref q2, .ref q3, .null, .null, .null, .int 0, .int 0]))]) [0] (by decide) rfl
  have hK := hK.sub (tys' := []) [] rfl
  refine lv_aload_n hx hb dX10_init_28 rfl (lv_at hl 0 rfl) ?_
  refine va_new (ci := 8) (fs := [.null, .null, .int 0, .int 0, .int 0, .int 0]) (C := RX8) (T := TX8) (N := 6) hx hb hts (by decide +kernel) tyX8 tyX8_ok hown (hts (.classLink RX10 21 RX8) (by decide +kernel)) (hts (.instantiable RX8 6) (by decide +kernel)) (hts (.initialized RX8) (by decide +kernel)) hK hP hD hS hA rfl (fun j hj => by rcases (show j = 0 ∨ j = 1 ∨ j = 2 ∨ j = 3 ∨ j = 4 ∨ j = 5 by omega) with rfl | rfl | rfl | rfl | rfl | rfl <;> rfl) (Nat.le_of_ble_eq_true rfl) (Nat.le_of_ble_eq_true rfl) dX10_init_29 (fun q4 H hP hD hS => ?_)
  have hP : va_P (dC, dI) vwCl [(h0, .inr (10, [.ref q1, .ref q2, .ref q3, .null, .null, .null, .int 0, .int 0])), (q4, .inr (8, [.null, .null, .int 0, .int 0, .int 0, .int 0]))] H := hP
  have hD : va_D (va_A [(h0, .inr (10, [.null, .null, .null, .null, .null, .null, .int 0, .int 0]))] s.heap.size) [(h0, .inr (10, [.ref q1, .ref q2, .ref q3, .null, .null, .null, .int 0, .int 0])), (q4, .inr (8, [.null, .null, .int 0, .int 0, .int 0, .int 0]))] := hD
  refine W.widen (k := 4) (n := 37) (Nat.le_of_ble_eq_true rfl) (Nat.le_of_ble_eq_true rfl) ?_
  refine lv_dup hx hb dX10_init_32 rfl ?_
  have hFc := va_free (wc := [(q4, .inr (8, [.null, .null, .int 0, .int 0, .int 0, .int 0]))]) hD hS hA [1] rfl
  refine va_callv (va_runI (As := []) (rest := [.ref q4, .ref h0]) ⟨hx, hb, hml, hown, hts⟩ (ci_Standing l dC dI H q4 (hP.sub (ws' := [(q4, .inr (8, [.null, .null, .int 0, .int 0, .int 0, .int 0]))]) [1] rfl) ((hD.sub (ws' := [(q4, .inr (8, [.null, .null, .int 0, .int 0, .int 0, .int 0]))]) [1] (by decide) rfl).weaken (fun _ _ _ _ => trivial))) (cwI 0 hts gX10_init_X8_init rfl rfl rfl (hts (.initialized RX8) (by decide +kernel)) (hts (.methodLink RX10 23 yX8_init) (by decide +kernel)) (hts (.instanceMethod yX8_init) (by decide +kernel)) rfl (by decide +kernel) ⟨Nat.le_of_ble_eq_true rfl, Nat.le_of_ble_eq_true rfl⟩) ⟨kb_c, kb_m (hK.sub (tys' := []) [] rfl) hq⟩ rfl rfl hl.1 rfl (lv_room (Nat.le_of_ble_eq_true rfl)) dX10_init_33 ⟨Nat.le_of_ble_eq_true rfl, Nat.le_of_ble_eq_true rfl⟩) hS (fun q _ h => hFc q h) hFc (fun u t H_1 locs ht hvm hw hB hz1 hk1 hS => ?_)
  obtain ⟨q5, q6, hP1, hK1, hD1⟩ := hB
  rw [ht] at hP1
  obtain ⟨hP, hD⟩ := va_join (wr := [(h0, .inr (10, [.ref q1, .ref q2, .ref q3, .null, .null, .null, .int 0, .int 0]))]) (w1 := [(q4, .inr (8, [.ref q5, .ref q6, .int 0, .int 0, .int 0, .int 0]))]) hP hD [1] [0] rfl rfl (by decide) (by decide) hk1 hFc hP1 hD1
  have hK : va_K (dC, dI) vwCl [] s := hK.app (va_K.moved hvm.symm hK1)
  have hP : va_P (dC, dI) vwCl [(h0, .inr (10, [.ref q1, .ref q2, .ref q3, .null, .null, .null, .int 0, .int 0])), (q4, .inr (8, [.ref q5, .ref q6, .int 0, .int 0, .int 0, .int 0]))] H_1 := hP
  have hD : va_D (va_A [(h0, .inr (10, [.null, .null, .null, .null, .null, .null, .int 0, .int 0]))] s.heap.size) [(h0, .inr (10, [.ref q1, .ref q2, .ref q3, .null, .null, .null, .int 0, .int 0])), (q4, .inr (8, [.ref q5, .ref q6, .int 0, .int 0, .int 0, .int 0]))] := hD
  refine W.widen (k := 10) (n := 88) (Nat.le_of_ble_eq_true rfl) (Nat.le_of_ble_eq_true rfl) ?_
  refine va_putF (D := (dC, dI)) (ci := 10) (v := .ref q4) (ty := (.object "DearLetters$Standing")) (C := RX10) (T := TX10) (N := 8) hx hb hts (by decide +kernel) tyX10 tyX10_ok nmX10 hown hK hP hD hS 0 rfl rfl 3 (by decide) (hts (.fieldLink RX10 24 "DearLetters$Town" "now" "LDearLetters$Standing;") (by decide +kernel)) (fun _ h9 => h9) rfl hin rfl (by decide +kernel) (by first | rfl | decide) (by first | rfl | decide) (Nat.le_of_ble_eq_true rfl) dX10_init_36 (fun H locs hP hD hS => ?_)
  have hP : va_P (dC, dI) vwCl [(h0, .inr (10, [.ref q1, .ref q2, .ref q3, .ref q4, .null, .null, .int 0, .int 0])), (q4, .inr (8, [.ref q5, .ref q6, .int 0, .int 0, .int 0, .int 0]))] H := hP
  have hD : va_D (va_A [(h0, .inr (10, [.null, .null, .null, .null, .null, .null, .int 0, .int 0]))] s.heap.size) [(h0, .inr (10, [.ref q1, .ref q2, .ref q3, .ref q4, .null, .null, .int 0, .int 0])), (q4, .inr (8, [.ref q5, .ref q6, .int 0, .int 0, .int 0, .int 0]))] := hD
  refine lv_aload_n hx hb dX10_init_39 rfl (lv_at hl 0 rfl) ?_
  refine lv_bipush (v := 7) hx hb dX10_init_40 (by decide) ?_
  refine va_newa (atype := .int) (a0 := (7, .inl (fun _ => 0))) hx hb (hts (.arrayClass .int) (by decide +kernel)) rfl hK hP hD hS hA (fun cA => rfl) (by decide) rfl (by decide) (Nat.le_of_ble_eq_true rfl) (Nat.le_of_ble_eq_true rfl) dX10_init_42 (fun q7 c7 H hK hP hD hS => ?_)
  have hP : va_P (dC, dI) vwCl [(h0, .inr (10, [.ref q1, .ref q2, .ref q3, .ref q4, .null, .null, .int 0, .int 0])), (q4, .inr (8, [.ref q5, .ref q6, .int 0, .int 0, .int 0, .int 0])), (q7, .inl (c7, 7, .inl (fun _ => 0)))] H := hP
  have hD : va_D (va_A [(h0, .inr (10, [.null, .null, .null, .null, .null, .null, .int 0, .int 0]))] s.heap.size) [(h0, .inr (10, [.ref q1, .ref q2, .ref q3, .ref q4, .null, .null, .int 0, .int 0])), (q4, .inr (8, [.ref q5, .ref q6, .int 0, .int 0, .int 0, .int 0])), (q7, .inl (c7, 7, .inl (fun _ => 0)))] := hD
  have hK : va_K (dC, dI) vwCl [(c7, .int)] s := hK
  refine W.widen (k := 11) (n := 95) (Nat.le_of_ble_eq_true rfl) (Nat.le_of_ble_eq_true rfl) ?_
  refine va_putF (D := (dC, dI)) (ci := 10) (v := .ref q7) (ty := (.array .int)) (C := RX10) (T := TX10) (N := 8) hx hb hts (by decide +kernel) tyX10 tyX10_ok nmX10 hown hK hP hD hS 0 rfl rfl 4 (by decide) (hts (.fieldLink RX10 28 "DearLetters$Town" "worths" "[I") (by decide +kernel)) (fun _ h9 => h9) rfl hin rfl (by decide +kernel) (by first | rfl | decide) (by first | rfl | decide) (Nat.le_of_ble_eq_true rfl) dX10_init_44 (fun H locs hP hD hS => ?_)
  have hP : va_P (dC, dI) vwCl [(h0, .inr (10, [.ref q1, .ref q2, .ref q3, .ref q4, .ref q7, .null, .int 0, .int 0])), (q4, .inr (8, [.ref q5, .ref q6, .int 0, .int 0, .int 0, .int 0])), (q7, .inl (c7, 7, .inl (fun _ => 0)))] H := hP
  have hD : va_D (va_A [(h0, .inr (10, [.null, .null, .null, .null, .null, .null, .int 0, .int 0]))] s.heap.size) [(h0, .inr (10, [.ref q1, .ref q2, .ref q3, .ref q4, .ref q7, .null, .int 0, .int 0])), (q4, .inr (8, [.ref q5, .ref q6, .int 0, .int 0, .int 0, .int 0])), (q7, .inl (c7, 7, .inl (fun _ => 0)))] := hD
  have hP := hP.sub (ws' := [(h0, .inr (10, [.ref q1, .ref q2, .ref q3, .ref q4, .ref q7, .null, .int 0, .int 0])), (q4, .inr (8, [.ref q5, .ref q6, .int 0, .int 0, .int 0, .int 0]))]) [0, 1] rfl
  have hD := hD.sub (ws' := [(h0, .inr (10, [.ref q1, .ref q2, .ref q3, .ref q4, .ref q7, .null, .int 0, .int 0])), (q4, .inr (8, [.ref q5, .ref q6, .int 0, .int 0, .int 0, .int 0]))]) [0, 1] (by decide) rfl
  have hK := hK.sub (tys' := []) [] rfl
  refine lv_aload_n hx hb dX10_init_47 rfl (lv_at hl 0 rfl) ?_
  refine lv_bipush (v := 7) hx hb dX10_init_48 (by decide) ?_
  refine va_newa (atype := .int) (a0 := (7, .inl (fun _ => 0))) hx hb (hts (.arrayClass .int) (by decide +kernel)) rfl hK hP hD hS hA (fun cA => rfl) (by decide) rfl (by decide) (Nat.le_of_ble_eq_true rfl) (Nat.le_of_ble_eq_true rfl) dX10_init_50 (fun q8 c8 H hK hP hD hS => ?_)
  have hP : va_P (dC, dI) vwCl [(h0, .inr (10, [.ref q1, .ref q2, .ref q3, .ref q4, .ref q7, .null, .int 0, .int 0])), (q4, .inr (8, [.ref q5, .ref q6, .int 0, .int 0, .int 0, .int 0])), (q8, .inl (c8, 7, .inl (fun _ => 0)))] H := hP
  have hD : va_D (va_A [(h0, .inr (10, [.null, .null, .null, .null, .null, .null, .int 0, .int 0]))] s.heap.size) [(h0, .inr (10, [.ref q1, .ref q2, .ref q3, .ref q4, .ref q7, .null, .int 0, .int 0])), (q4, .inr (8, [.ref q5, .ref q6, .int 0, .int 0, .int 0, .int 0])), (q8, .inl (c8, 7, .inl (fun _ => 0)))] := hD
  have hK : va_K (dC, dI) vwCl [(c8, .int)] s := hK
  refine W.widen (k := 12) (n := 102) (Nat.le_of_ble_eq_true rfl) (Nat.le_of_ble_eq_true rfl) ?_
  refine va_putF (D := (dC, dI)) (ci := 10) (v := .ref q8) (ty := (.array .int)) (C := RX10) (T := TX10) (N := 8) hx hb hts (by decide +kernel) tyX10 tyX10_ok nmX10 hown hK hP hD hS 0 rfl rfl 5 (by decide) (hts (.fieldLink RX10 31 "DearLetters$Town" "nextWorths" "[I") (by decide +kernel)) (fun _ h9 => h9) rfl hin rfl (by decide +kernel) (by first | rfl | decide) (by first | rfl | decide) (Nat.le_of_ble_eq_true rfl) dX10_init_52 (fun H locs hP hD hS => ?_)
  have hP : va_P (dC, dI) vwCl [(h0, .inr (10, [.ref q1, .ref q2, .ref q3, .ref q4, .ref q7, .ref q8, .int 0, .int 0])), (q4, .inr (8, [.ref q5, .ref q6, .int 0, .int 0, .int 0, .int 0])), (q8, .inl (c8, 7, .inl (fun _ => 0)))] H := hP
  have hD : va_D (va_A [(h0, .inr (10, [.null, .null, .null, .null, .null, .null, .int 0, .int 0]))] s.heap.size) [(h0, .inr (10, [.ref q1, .ref q2, .ref q3, .ref q4, .ref q7, .ref q8, .int 0, .int 0])), (q4, .inr (8, [.ref q5, .ref q6, .int 0, .int 0, .int 0, .int 0])), (q8, .inl (c8, 7, .inl (fun _ => 0)))] := hD
  have hP := hP.sub (ws' := [(h0, .inr (10, [.ref q1, .ref q2, .ref q3, .ref q4, .ref q7, .ref q8, .int 0, .int 0])), (q4, .inr (8, [.ref q5, .ref q6, .int 0, .int 0, .int 0, .int 0]))]) [0, 1] rfl
  have hD := hD.sub (ws' := [(h0, .inr (10, [.ref q1, .ref q2, .ref q3, .ref q4, .ref q7, .ref q8, .int 0, .int 0])), (q4, .inr (8, [.ref q5, .ref q6, .int 0, .int 0, .int 0, .int 0]))]) [0, 1] (by decide) rfl
  have hK := hK.sub (tys' := []) [] rfl
  exact W.vret hx hb hr (fun t ht hW => ⟨⟨(), rfl, trivial, q1, q2, q3, q4, q5, q6, q7, q8, by first | (subst ht; exact hP) | (rw [ht]; exact hP), va_K.moved hW.alike hK, hD⟩, hS.F ht⟩) hS.2.2 dX10_init_55
theorem dX2_init_0 : decode cX2_init 0 = .ok (.aload_n 0, 1) := by decide +kernel
theorem dX2_init_1 : decode cX2_init 1 = .ok (.invokespecial 3, 3) := by decide +kernel
theorem dX2_init_4 : decode cX2_init 4 = .ok (.aload_n 0, 1) := by decide +kernel
theorem dX2_init_5 : decode cX2_init 5 = .ok (.bipush 40, 2) := by decide +kernel
theorem dX2_init_7 : decode cX2_init 7 = .ok (.anewarray 9, 3) := by decide +kernel
theorem dX2_init_10 : decode cX2_init 10 = .ok (.putfield 11, 3) := by decide +kernel
theorem dX2_init_13 : decode cX2_init 13 = .ok (.iconst 0, 1) := by decide +kernel
theorem dX2_init_14 : decode cX2_init 14 = .ok (.istore_n 1, 1) := by decide +kernel
theorem dX2_init_15 : decode cX2_init 15 = .ok (.iload_n 1, 1) := by decide +kernel
theorem dX2_init_16 : decode cX2_init 16 = .ok (.bipush 40, 2) := by decide +kernel
theorem dX2_init_18 : decode cX2_init 18 = .ok (.if_icmp .ge 22, 3) := by decide +kernel
theorem dX2_init_21 : decode cX2_init 21 = .ok (.aload_n 0, 1) := by decide +kernel
theorem dX2_init_22 : decode cX2_init 22 = .ok (.getfield 11, 3) := by decide +kernel
theorem dX2_init_25 : decode cX2_init 25 = .ok (.iload_n 1, 1) := by decide +kernel
theorem dX2_init_26 : decode cX2_init 26 = .ok (.new 9, 3) := by decide +kernel
theorem dX2_init_29 : decode cX2_init 29 = .ok (.dup, 1) := by decide +kernel
theorem dX2_init_30 : decode cX2_init 30 = .ok (.invokespecial 17, 3) := by decide +kernel
theorem dX2_init_33 : decode cX2_init 33 = .ok (.aastore, 1) := by decide +kernel
theorem dX2_init_34 : decode cX2_init 34 = .ok (.iinc 1 1, 3) := by decide +kernel
theorem dX2_init_37 : decode cX2_init 37 = .ok (.goto (-22), 3) := by decide +kernel
theorem dX2_init_40 : decode cX2_init 40 = .ok (.return_, 1) := by decide +kernel
set_option maxRecDepth 20000 in
theorem ggX2_init_X7_init : GoodIn wsX2_init wsX7_init := goodIn_r _ [9, 10, 2, 3, 11, 12, 15, 16, 17, 18, 19, 20, 21] (by decide +kernel) (by decide +kernel)
set_option maxRecDepth 20000 in
theorem gX2_init_X7_init_n17 : GoodIn wsX2_init (wsX7_init) := ggX2_init_X7_init
set_option maxHeartbeats 4000000 in
set_option maxRecDepth 100000 in
/-- the Ledger -/
theorem ci_Ledger (l : Launch) (dC : Nat → ClassId) (dI : Nat → Nat → Nat) (H : Heap) (h0 : Nat) (hP : va_P (dC, dI) vwCl [(h0, .inr (2, [.null, .int 0]))] H) (hD0 : va_D (fun _ => True) [(h0, .inr (2, [.null, .int 0]))]) : Met l yX2_init wsX2_init ({ frames := 2, cells := 81, slots := 600, locals := 34 }) (va_Pc [.ref h0] (kb_P (dC, dI) vwCl [] H)) (va_Qv (fun (_ : Unit) => True) (fun _ t => ∃ q1 : Nat, va_P (dC, dI) vwCl [(h0, .inr (2, [.ref q1, .int 0]))] t.heap ∧ va_K (dC, dI) vwCl [] t ∧ va_D (va_A [(h0, .inr (2, [.null, .int 0]))] H.size) [(h0, .inr (2, [.ref q1, .int 0]))]) (va_A [(h0, .inr (2, [.null, .int 0]))] H.size)) 81 600 (va_A [(h0, .inr (2, [.null, .int 0]))] H.size) := by
  refine Met.ofW (cc := cX2_init) (maxL := 2) (ret := none) (by decide) rfl ?_
  intro p e s m args below meth c s₁ B hml hv
  obtain ⟨rfl, hh, hK, hq⟩ := hv
  have hx := B.exec
  have hb := B.bytes
  have hr := B.returns
  have hts := atoms_spec (ws := wsX2_init) B.pre
  have hown : s.vm.findClass RX2 = some m.cls := findClass_of_methodNamed B.named
  have hlocks := B.notSynchronized
  have hin : meth.name = "<init>" := (name_of_methodNamed B.named B.method).1
  subst hh
  have hD := hD0.self (sz := s.heap.size)
  have hA : ∀ q : Nat, s.heap.size ≤ q → (va_A [(h0, .inr (2, [.null, .int 0]))] s.heap.size) q := fun q h => Or.inr h
  have hS : va_S (va_A [(h0, .inr (2, [.null, .int 0]))] s.heap.size) s.heap s.heap [] := va_S.rf
  have hl := lv_entry ([.ref h0]) (n := 2) (Nat.le_of_ble_eq_true rfl)
  rw [lg_entry_eq]
  generalize (lg_sl ([.ref h0]) ++ List.replicate (2 - (lg_sl ([.ref h0])).length) Slot.unset).toArray = ls at hl ⊢
  have hl : lv_has ls 2 [(0, .ref h0)] := hl
  refine lv_aload_n hx hb dX2_init_0 rfl (lv_at hl 0 rfl) ?_
  refine W.objInit hx hb hown (hts (.methodLink RX2 3 objectInit) (by decide +kernel)) (hts (.instanceMethod objectInit) (by decide +kernel)) (hts (.code objectInit ⟨#[0xb1]⟩ 1 none) (by decide +kernel)) rfl (by rw [hml]; exact hl.1) rfl dX2_init_1 (Nat.le_of_ble_eq_true rfl) (Nat.le_of_ble_eq_true rfl) ?_
  refine W.eq (g2 := F0 m 4 ls []) rfl ?_
  refine lv_aload_n hx hb dX2_init_4 rfl (lv_at hl 0 rfl) ?_
  refine lv_bipush (v := 40) hx hb dX2_init_5 (by decide) ?_
  refine va_newq (C := RX7) hx hb hown (hts (.classLink RX2 9 RX7) (by decide +kernel)) (hq.2.2.2.2.2.2.2.2.2.2.2.2.2) hK hP hD hS hA (by decide) rfl (by decide) (Nat.le_of_ble_eq_true rfl) (Nat.le_of_ble_eq_true rfl) dX2_init_7 (fun q1 c1 H hK hP hD hS => ?_)
  have hP : va_P (dC, dI) vwCl [(h0, .inr (2, [.null, .int 0])), (q1, .inl (c1, 40, .inr (.inr (.inr (.inr (fun _ => none))))))] H := hP
  have hD : va_D (va_A [(h0, .inr (2, [.null, .int 0]))] s.heap.size) [(h0, .inr (2, [.null, .int 0])), (q1, .inl (c1, 40, .inr (.inr (.inr (.inr (fun _ => none))))))] := hD
  have hK : va_K (dC, dI) vwCl [(c1, .object RX7)] s := hK
  refine W.widen (k := 1) (n := 40) (Nat.le_of_ble_eq_true rfl) (Nat.le_of_ble_eq_true rfl) ?_
  refine va_putF (D := (dC, dI)) (ci := 2) (v := .ref q1) (ty := (.array (.object "DearLetters$Sale"))) (C := RX2) (T := TX2) (N := 2) hx hb hts (by decide +kernel) tyX2 tyX2_ok nmX2 hown hK hP hD hS 0 rfl rfl 0 (by decide) (hts (.fieldLink RX2 11 "DearLetters$Ledger" "sales" "[LDearLetters$Sale;") (by decide +kernel)) (fun _ h9 => h9) rfl hin rfl (by decide +kernel) (by first | rfl | decide) (by first | rfl | decide) (Nat.le_of_ble_eq_true rfl) dX2_init_10 (fun H locs hP hD hS => ?_)
  have hP : va_P (dC, dI) vwCl [(h0, .inr (2, [.ref q1, .int 0])), (q1, .inl (c1, 40, .inr (.inr (.inr (.inr (fun _ => none))))))] H := hP
  have hD : va_D (va_A [(h0, .inr (2, [.null, .int 0]))] s.heap.size) [(h0, .inr (2, [.ref q1, .int 0])), (q1, .inl (c1, 40, .inr (.inr (.inr (.inr (fun _ => none))))))] := hD
  refine lv_iconst (v := 0) hx hb dX2_init_13 (by decide) ?_
  refine lv_istore_n (lv' := [(1, .int 0), (0, .ref h0)]) hx hb dX2_init_14 rfl hl (by decide) rfl (fun ls hl => ?_)
  refine lv_iload_n hx hb dX2_init_15 rfl (lv_at hl 0 rfl) ?_
  refine lv_bipush (v := 40) hx hb dX2_init_16 (by decide) ?_
  refine lv_icmp_ge (tgt := 40) hx hb dX2_init_18 (by decide) (fun c => absurd c (by decide)) (fun _ => ?_)
  refine lv_aload_n hx hb dX2_init_21 rfl (lv_at hl 1 rfl) ?_
  refine va_get (D := (dC, dI)) (ci := 2) (v := .ref q1) (C := RX2) (T := TX2) (N := 2) hx hb hts (by decide +kernel) hown hK hP 0 rfl rfl 0 (by decide) (hts (.fieldLink RX2 11 "DearLetters$Ledger" "sales" "[LDearLetters$Sale;") (by decide +kernel)) (fun _ h9 => h9) rfl dX2_init_22 ?_
  refine lv_iload_n hx hb dX2_init_25 rfl (lv_at hl 0 rfl) ?_
  refine va_new (ci := 7) (fs := [.null, .int 0, .int 0, .int 0, .int 0, .int 0, .int 0]) (C := RX7) (T := TX7) (N := 7) hx hb hts (by decide +kernel) tyX7 tyX7_ok hown (hts (.classLink RX2 9 RX7) (by decide +kernel)) (hts (.instantiable RX7 7) (by decide +kernel)) (hts (.initialized RX7) (by decide +kernel)) hK hP hD hS hA rfl (fun j hj => by rcases (show j = 0 ∨ j = 1 ∨ j = 2 ∨ j = 3 ∨ j = 4 ∨ j = 5 ∨ j = 6 by omega) with rfl | rfl | rfl | rfl | rfl | rfl | rfl <;> rfl) (Nat.le_of_ble_eq_true rfl) (Nat.le_of_ble_eq_true rfl) dX2_init_26 (fun q2 H hP hD hS => ?_)
  have hP : va_P (dC, dI) vwCl [(h0, .inr (2, [.ref q1, .int 0])), (q1, .inl (c1, 40, .inr (.inr (.inr (.inr (fun _ => none)))))), (q2, .inr (7, [.null, .int 0, .int 0, .int 0, .int 0, .int 0, .int 0]))] H := hP
  have hD : va_D (va_A [(h0, .inr (2, [.null, .int 0]))] s.heap.size) [(h0, .inr (2, [.ref q1, .int 0])), (q1, .inl (c1, 40, .inr (.inr (.inr (.inr (fun _ => none)))))), (q2, .inr (7, [.null, .int 0, .int 0, .int 0, .int 0, .int 0, .int 0]))] := hD
  refine W.widen (k := 2) (n := 47) (Nat.le_of_ble_eq_true rfl) (Nat.le_of_ble_eq_true rfl) ?_
  refine lv_dup hx hb dX2_init_29 rfl ?_
  have hFc := va_free (wc := [(q2, .inr (7, [.null, .int 0, .int 0, .int 0, .int 0, .int 0, .int 0]))]) hD hS hA [2] rfl
  refine va_callv (va_runIN (As := []) (rest := [.ref q2, .int 0, .ref q1]) ⟨hx, hb, hml, hown, hts⟩ (ci_Sale l dC dI H q2 (hP.sub (ws' := [(q2, .inr (7, [.null, .int 0, .int 0, .int 0, .int 0, .int 0, .int 0]))]) [2] rfl) ((hD.sub (ws' := [(q2, .inr (7, [.null, .int 0, .int 0, .int 0, .int 0, .int 0, .int 0]))]) [2] (by decide) rfl).weaken (fun _ _ _ _ => trivial))) ⟨va_cnB 0 hts gX2_init_X7_init_n17 rfl rfl rfl (hq.2.2.2.2.2.2.1) (hts (.initialized RX7) (by decide +kernel)) (by decide +kernel) ⟨Nat.le_of_ble_eq_true rfl, Nat.le_of_ble_eq_true rfl⟩, rfl, hts (.instanceMethod yX7_init) (by decide +kernel)⟩ ⟨kb_c, kb_m (hK.sub (tys' := []) [] rfl) hq⟩ rfl rfl hl.1 rfl (lv_room (Nat.le_of_ble_eq_true rfl)) dX2_init_30 ⟨Nat.le_of_ble_eq_true rfl, Nat.le_of_ble_eq_true rfl⟩) hS (fun q _ h => hFc q h) hFc (fun u t H_1 locs ht hvm hw hB hz1 hk1 hS => ?_)
  obtain ⟨q3, hP1, hK1, hD1⟩ := hB
  rw [ht] at hP1
  obtain ⟨hP, hD⟩ := va_join (wr := [(h0, .inr (2, [.ref q1, .int 0])), (q1, .inl (c1, 40, .inr (.inr (.inr (.inr (fun _ => none))))))]) (w1 := [(q2, .inr (7, [.ref q3, .int 0, .int 0, .int 0, .int 0, .int 0, .int 0]))]) hP hD [2] [0, 1] rfl rfl (by decide) (by decide) hk1 hFc hP1 hD1
  have hK : va_K (dC, dI) vwCl [(c1, .object RX7)] s := hK.app (va_K.moved hvm.symm hK1)
  have hP : va_P (dC, dI) vwCl [(h0, .inr (2, [.ref q1, .int 0])), (q1, .inl (c1, 40, .inr (.inr (.inr (.inr (fun _ => none)))))), (q2, .inr (7, [.ref q3, .int 0, .int 0, .int 0, .int 0, .int 0, .int 0]))] H_1 := hP
  have hD : va_D (va_A [(h0, .inr (2, [.null, .int 0]))] s.heap.size) [(h0, .inr (2, [.ref q1, .int 0])), (q1, .inl (c1, 40, .inr (.inr (.inr (.inr (fun _ => none)))))), (q2, .inr (7, [.ref q3, .int 0, .int 0, .int 0, .int 0, .int 0, .int 0]))] := hD
  refine W.widen (k := 3) (n := 54) (Nat.le_of_ble_eq_true rfl) (Nat.le_of_ble_eq_true rfl) ?_
  refine va_astq (r := (RX7, TX7, 7)) hx hb hK hP hD hS 1 0 2 7 rfl rfl rfl rfl (show vp_in 0 40 by unfold vp_in; decide) dX2_init_33 (fun H locs hP hD hS => ?_)
  have hP : va_P (dC, dI) vwCl [(h0, .inr (2, [.ref q1, .int 0])), (q1, .inl (c1, 40, .inr (.inr (.inr (.inr (va_up (fun _ => none) 0 (some q2))))))), (q2, .inr (7, [.ref q3, .int 0, .int 0, .int 0, .int 0, .int 0, .int 0]))] H := hP
  have hD : va_D (va_A [(h0, .inr (2, [.null, .int 0]))] s.heap.size) [(h0, .inr (2, [.ref q1, .int 0])), (q1, .inl (c1, 40, .inr (.inr (.inr (.inr (va_up (fun _ => none) 0 (some q2))))))), (q2, .inr (7, [.ref q3, .int 0, .int 0, .int 0, .int 0, .int 0, .int 0]))] := hD
  generalize (va_up (fun _ => none) 0 (some q2)) = f4 at hP hD
  have hP := hP.sub (ws' := [(h0, .inr (2, [.ref q1, .int 0])), (q1, .inl (c1, 40, .inr (.inr (.inr (.inr f4)))))]) [0, 1] rfl
  have hD := hD.sub (ws' := [(h0, .inr (2, [.ref q1, .int 0])), (q1, .inl (c1, 40, .inr (.inr (.inr (.inr f4)))))]) [0, 1] (by decide) rfl
  refine lv_iinc (v := 1) (lv' := [(1, .int 1), (0, .ref h0)]) hx hb dX2_init_34 hl (k := 0) rfl (by decide) (by decide) rfl (fun ls hl => ?_)
  refine lv_goto (tgt := 15) hx hb dX2_init_37 (by decide) ?_
  refine lv_iload_n hx hb dX2_init_15 rfl (lv_at hl 0 rfl) ?_
  refine lv_bipush (v := 40) hx hb dX2_init_16 (by decide) ?_
  refine lv_icmp_ge (tgt := 40) hx hb dX2_init_18 (by decide) (fun c => absurd c (by decide)) (fun _ => ?_)
  refine lv_aload_n hx hb dX2_init_21 rfl (lv_at hl 1 rfl) ?_
  refine va_get (D := (dC, dI)) (ci := 2) (v := .ref q1) (C := RX2) (T := TX2) (N := 2) hx hb hts (by decide +kernel) hown hK hP 0 rfl rfl 0 (by decide) (hts (.fieldLink RX2 11 "DearLetters$Ledger" "sales" "[LDearLetters$Sale;") (by decide +kernel)) (fun _ h9 => h9) rfl dX2_init_22 ?_
  refine lv_iload_n hx hb dX2_init_25 rfl (lv_at hl 0 rfl) ?_
  refine va_new (ci := 7) (fs := [.null, .int 0, .int 0, .int 0, .int 0, .int 0, .int 0]) (C := RX7) (T := TX7) (N := 7) hx hb hts (by decide +kernel) tyX7 tyX7_ok hown (hts (.classLink RX2 9 RX7) (by decide +kernel)) (hts (.instantiable RX7 7) (by decide +kernel)) (hts (.initialized RX7) (by decide +kernel)) hK hP hD hS hA rfl (fun j hj => by rcases (show j = 0 ∨ j = 1 ∨ j = 2 ∨ j = 3 ∨ j = 4 ∨ j = 5 ∨ j = 6 by omega) with rfl | rfl | rfl | rfl | rfl | rfl | rfl <;> rfl) (Nat.le_of_ble_eq_true rfl) (Nat.le_of_ble_eq_true rfl) dX2_init_26 (fun q5 H hP hD hS => ?_)
  have hP : va_P (dC, dI) vwCl [(h0, .inr (2, [.ref q1, .int 0])), (q1, .inl (c1, 40, .inr (.inr (.inr (.inr f4))))), (q5, .inr (7, [.null, .int 0, .int 0, .int 0, .int 0, .int 0, .int 0]))] H := hP
  have hD : va_D (va_A [(h0, .inr (2, [.null, .int 0]))] s.heap.size) [(h0, .inr (2, [.ref q1, .int 0])), (q1, .inl (c1, 40, .inr (.inr (.inr (.inr f4))))), (q5, .inr (7, [.null, .int 0, .int 0, .int 0, .int 0, .int 0, .int 0]))] := hD
  refine W.widen (k := 4) (n := 61) (Nat.le_of_ble_eq_true rfl) (Nat.le_of_ble_eq_true rfl) ?_
  refine lv_dup hx hb dX2_init_29 rfl ?_
  have hFc := va_free (wc := [(q5, .inr (7, [.null, .int 0, .int 0, .int 0, .int 0, .int 0, .int 0]))]) hD hS hA [2] rfl
  refine va_callv (va_runIN (As := []) (rest := [.ref q5, .int 1, .ref q1]) ⟨hx, hb, hml, hown, hts⟩ (ci_Sale l dC dI H q5 (hP.sub (ws' := [(q5, .inr (7, [.null, .int 0, .int 0, .int 0, .int 0, .int 0, .int 0]))]) [2] rfl) ((hD.sub (ws' := [(q5, .inr (7, [.null, .int 0, .int 0, .int 0, .int 0, .int 0, .int 0]))]) [2] (by decide) rfl).weaken (fun _ _ _ _ => trivial))) ⟨va_cnB 0 hts gX2_init_X7_init_n17 rfl rfl rfl (hq.2.2.2.2.2.2.1) (hts (.initialized RX7) (by decide +kernel)) (by decide +kernel) ⟨Nat.le_of_ble_eq_true rfl, Nat.le_of_ble_eq_true rfl⟩, rfl, hts (.instanceMethod yX7_init) (by decide +kernel)⟩ ⟨kb_c, kb_m (hK.sub (tys' := []) [] rfl) hq⟩ rfl rfl hl.1 rfl (lv_room (Nat.le_of_ble_eq_true rfl)) dX2_init_30 ⟨Nat.le_of_ble_eq_true rfl, Nat.le_of_ble_eq_true rfl⟩) hS (fun q _ h => hFc q h) hFc (fun u t H_2 locs ht hvm hw hB hz1 hk1 hS => ?_)
  obtain ⟨q6, hP1, hK1, hD1⟩ := hB
  rw [ht] at hP1
  obtain ⟨hP, hD⟩ := va_join (wr := [(h0, .inr (2, [.ref q1, .int 0])), (q1, .inl (c1, 40, .inr (.inr (.inr (.inr f4)))))]) (w1 := [(q5, .inr (7, [.ref q6, .int 0, .int 0, .int 0, .int 0, .int 0, .int 0]))]) hP hD [2] [0, 1] rfl rfl (by decide) (by decide) hk1 hFc hP1 hD1
  have hK : va_K (dC, dI) vwCl [(c1, .object RX7)] s := hK.app (va_K.moved hvm.symm hK1)
  have hP : va_P (dC, dI) vwCl [(h0, .inr (2, [.ref q1, .int 0])), (q1, .inl (c1, 40, .inr (.inr (.inr (.inr f4))))), (q5, .inr (7, [.ref q6, .int 0, .int 0, .int 0, .int 0, .int 0, .int 0]))] H_2 := hP
  have hD : va_D (va_A [(h0, .inr (2, [.null, .int 0]))] s.heap.size) [(h0, .inr (2, [.ref q1, .int 0])), (q1, .inl (c1, 40, .inr (.inr (.inr (.inr f4))))), (q5, .inr (7, [.ref q6, .int 0, .int 0, .int 0, .int 0, .int 0, .int 0]))] := hD
  refine W.widen (k := 5) (n := 68) (Nat.le_of_ble_eq_true rfl) (Nat.le_of_ble_eq_true rfl) ?_
  refine va_astq (r := (RX7, TX7, 7)) hx hb hK hP hD hS 1 0 2 7 rfl rfl rfl rfl (show vp_in 1 40 by unfold vp_in; decide) dX2_init_33 (fun H locs hP hD hS => ?_)
  have hP : va_P (dC, dI) vwCl [(h0, .inr (2, [.ref q1, .int 0])), (q1, .inl (c1, 40, .inr (.inr (.inr (.inr (va_up f4 1 (some q5))))))), (q5, .inr (7, [.ref q6, .int 0, .int 0, .int 0, .int 0, .int 0, .int 0]))] H := hP
  have hD : va_D (va_A [(h0, .inr (2, [.null, .int 0]))] s.heap.size) [(h0, .inr (2, [.ref q1, .int 0])), (q1, .inl (c1, 40, .inr (.inr (.inr (.inr (va_up f4 1 (some q5))))))), (q5, .inr (7, [.ref q6, .int 0, .int 0, .int 0, .int 0, .int 0, .int 0]))] := hD
  generalize (va_up f4 1 (some q5)) = f7 at hP hD
  have hP := hP.sub (ws' := [(h0, .inr (2, [.ref q1, .int 0])), (q1, .inl (c1, 40, .inr (.inr (.inr (.inr f7)))))]) [0, 1] rfl
  have hD := hD.sub (ws' := [(h0, .inr (2, [.ref q1, .int 0])), (q1, .inl (c1, 40, .inr (.inr (.inr (.inr f7)))))]) [0, 1] (by decide) rfl
  refine lv_iinc (v := 2) (lv' := [(1, .int 2), (0, .ref h0)]) hx hb dX2_init_34 hl (k := 0) rfl (by decide) (by decide) rfl (fun ls hl => ?_)
  refine lv_goto (tgt := 15) hx hb dX2_init_37 (by decide) ?_
  refine lv_iload_n hx hb dX2_init_15 rfl (lv_at hl 0 rfl) ?_
  refine lv_bipush (v := 40) hx hb dX2_init_16 (by decide) ?_
  refine lv_icmp_ge (tgt := 40) hx hb dX2_init_18 (by decide) (fun c => absurd c (by decide)) (fun _ => ?_)
  refine lv_aload_n hx hb dX2_init_21 rfl (lv_at hl 1 rfl) ?_
  refine va_get (D := (dC, dI)) (ci := 2) (v := .ref q1) (C := RX2) (T := TX2) (N := 2) hx hb hts (by decide +kernel) hown hK hP 0 rfl rfl 0 (by decide) (hts (.fieldLink RX2 11 "DearLetters$Ledger" "sales" "[LDearLetters$Sale;") (by decide +kernel)) (fun _ h9 => h9) rfl dX2_init_22 ?_
  refine lv_iload_n hx hb dX2_init_25 rfl (lv_at hl 0 rfl) ?_
  refine va_new (ci := 7) (fs := [.null, .int 0, .int 0, .int 0, .int 0, .int 0, .int 0]) (C := RX7) (T := TX7) (N := 7) hx hb hts (by decide +kernel) tyX7 tyX7_ok hown (hts (.classLink RX2 9 RX7) (by decide +kernel)) (hts (.instantiable RX7 7) (by decide +kernel)) (hts (.initialized RX7) (by decide +kernel)) hK hP hD hS hA rfl (fun j hj => by rcases (show j = 0 ∨ j = 1 ∨ j = 2 ∨ j = 3 ∨ j = 4 ∨ j = 5 ∨ j = 6 by omega) with rfl | rfl | rfl | rfl | rfl | rfl | rfl <;> rfl) (Nat.le_of_ble_eq_true rfl) (Nat.le_of_ble_eq_true rfl) dX2_init_26 (fun q8 H hP hD hS => ?_)
  have hP : va_P (dC, dI) vwCl [(h0, .inr (2, [.ref q1, .int 0])), (q1, .inl (c1, 40, .inr (.inr (.inr (.inr f7))))), (q8, .inr (7, [.null, .int 0, .int 0, .int 0, .int 0, .int 0, .int 0]))] H := hP
  have hD : va_D (va_A [(h0, .inr (2, [.null, .int 0]))] s.heap.size) [(h0, .inr (2, [.ref q1, .int 0])), (q1, .inl (c1, 40, .inr (.inr (.inr (.inr f7))))), (q8, .inr (7, [.null, .int 0, .int 0, .int 0, .int 0, .int 0, .int 0]))] := hD
  refine W.widen (k := 6) (n := 75) (Nat.le_of_ble_eq_true rfl) (Nat.le_of_ble_eq_true rfl) ?_
  refine lv_dup hx hb dX2_init_29 rfl ?_
  have hFc := va_free (wc := [(q8, .inr (7, [.null, .int 0, .int 0, .int 0, .int 0, .int 0, .int 0]))]) hD hS hA [2] rfl
  refine va_callv (va_runIN (As := []) (rest := [.ref q8, .int 2, .ref q1]) ⟨hx, hb, hml, hown, hts⟩ (ci_Sale l dC dI H q8 (hP.sub (ws' := [(q8, .inr (7, [.null, .int 0, .int 0, .int 0, .int 0, .int 0, .int 0]))]) [2] rfl) ((hD.sub (ws' := [(q8, .inr (7, [.null, .int 0, .int 0, .int 0, .int 0, .int 0, .int 0]))]) [2] (by decide) rfl).weaken (fun _ _ _ _ => trivial))) ⟨va_cnB 0 hts gX2_init_X7_init_n17 rfl rfl rfl (hq.2.2.2.2.2.2.1) (hts (.initialized RX7) (by decide +kernel)) (by decide +kernel) ⟨Nat.le_of_ble_eq_true rfl, Nat.le_of_ble_eq_true rfl⟩, rfl, hts (.instanceMethod yX7_init) (by decide +kernel)⟩ ⟨kb_c, kb_m (hK.sub (tys' := []) [] rfl) hq⟩ rfl rfl hl.1 rfl (lv_room (Nat.le_of_ble_eq_true rfl)) dX2_init_30 ⟨Nat.le_of_ble_eq_true rfl, Nat.le_of_ble_eq_true rfl⟩) hS (fun q _ h => hFc q h) hFc (fun u t H_3 locs ht hvm hw hB hz1 hk1 hS => ?_)
  obtain ⟨q9, hP1, hK1, hD1⟩ := hB
  rw [ht] at hP1
  obtain ⟨hP, hD⟩ := va_join (wr := [(h0, .inr (2, [.ref q1, .int 0])), (q1, .inl (c1, 40, .inr (.inr (.inr (.inr f7)))))]) (w1 := [(q8, .inr (7, [.ref q9, .int 0, .int 0, .int 0, .int 0, .int 0, .int 0]))]) hP hD [2] [0, 1] rfl rfl (by decide) (by decide) hk1 hFc hP1 hD1
  have hK : va_K (dC, dI) vwCl [(c1, .object RX7)] s := hK.app (va_K.moved hvm.symm hK1)
  have hP : va_P (dC, dI) vwCl [(h0, .inr (2, [.ref q1, .int 0])), (q1, .inl (c1, 40, .inr (.inr (.inr (.inr f7))))), (q8, .inr (7, [.ref q9, .int 0, .int 0, .int 0, .int 0, .int 0, .int 0]))] H_3 := hP
  have hD : va_D (va_A [(h0, .inr (2, [.null, .int 0]))] s.heap.size) [(h0, .inr (2, [.ref q1, .int 0])), (q1, .inl (c1, 40, .inr (.inr (.inr (.inr f7))))), (q8, .inr (7, [.ref q9, .int 0, .int 0, .int 0, .int 0, .int 0, .int 0]))] := hD
  refine W.widen (k := 7) (n := 82) (Nat.le_of_ble_eq_true rfl) (Nat.le_of_ble_eq_true rfl) ?_
  refine va_astq (r := (RX7, TX7, 7)) hx hb hK hP hD hS 1 0 2 7 rfl rfl rfl rfl (show vp_in 2 40 by unfold vp_in; decide) dX2_init_33 (fun H locs hP hD hS => ?_)
  have hP : va_P (dC, dI) vwCl [(h0, .inr (2, [.ref q1, .int 0])), (q1, .inl (c1, 40, .inr (.inr (.inr (.inr (va_up f7 2 (some q8))))))), (q8, .inr (7, [.ref q9, .int 0, .int 0, .int 0, .int 0, .int 0, .int 0]))] H := hP
  have hD : va_D (va_A [(h0, .inr (2, [.null, .int 0]))] s.heap.size) [(h0, .inr (2, [.ref q1, .int 0])), (q1, .inl (c1, 40, .inr (.inr (.inr (.inr (va_up f7 2 (some q8))))))), (q8, .inr (7, [.ref q9, .int 0, .int 0, .int 0, .int 0, .int 0, .int 0]))] := hD
  generalize (va_up f7 2 (some q8)) = f10 at hP hD
  have hP := hP.sub (ws' := [(h0, .inr (2, [.ref q1, .int 0])), (q1, .inl (c1, 40, .inr (.inr (.inr (.inr f10)))))]) [0, 1] rfl
  have hD := hD.sub (ws' := [(h0, .inr (2, [.ref q1, .int 0])), (q1, .inl (c1, 40, .inr (.inr (.inr (.inr f10)))))]) [0, 1] (by decide) rfl
  refine lv_iinc (v := 3) (lv' := [(1, .int 3), (0, .ref h0)]) hx hb dX2_init_34 hl (k := 0) rfl (by decide) (by decide) rfl (fun ls hl => ?_)
  refine lv_goto (tgt := 15) hx hb dX2_init_37 (by decide) ?_
  refine lv_iload_n hx hb dX2_init_15 rfl (lv_at hl 0 rfl) ?_
  refine lv_bipush (v := 40) hx hb dX2_init_16 (by decide) ?_
  refine lv_icmp_ge (tgt := 40) hx hb dX2_init_18 (by decide) (fun c => absurd c (by decide)) (fun _ => ?_)
  refine lv_aload_n hx hb dX2_init_21 rfl (lv_at hl 1 rfl) ?_
  refine va_get (D := (dC, dI)) (ci := 2) (v := .ref q1) (C := RX2) (T := TX2) (N := 2) hx hb hts (by decide +kernel) hown hK hP 0 rfl rfl 0 (by decide) (hts (.fieldLink RX2 11 "DearLetters$Ledger" "sales" "[LDearLetters$Sale;") (by decide +kernel)) (fun _ h9 => h9) rfl dX2_init_22 ?_
  refine lv_iload_n hx hb dX2_init_25 rfl (lv_at hl 0 rfl) ?_
  refine va_new (ci := 7) (fs := [.null, .int 0, .int 0, .int 0, .int 0, .int 0, .int 0]) (C := RX7) (T := TX7) (N := 7) hx hb hts (by decide +kernel) tyX7 tyX7_ok hown (hts (.classLink RX2 9 RX7) (by decide +kernel)) (hts (.instantiable RX7 7) (by decide +kernel)) (hts (.initialized RX7) (by decide +kernel)) hK hP hD hS hA rfl (fun j hj => by rcases (show j = 0 ∨ j = 1 ∨ j = 2 ∨ j = 3 ∨ j = 4 ∨ j = 5 ∨ j = 6 by omega) with rfl | rfl | rfl | rfl | rfl | rfl | rfl <;> rfl) (Nat.le_of_ble_eq_true rfl) (Nat.le_of_ble_eq_true rfl) dX2_init_26 (fun q11 H hP hD hS => ?_)
  have hP : va_P (dC, dI) vwCl [(h0, .inr (2, [.ref q1, .int 0])), (q1, .inl (c1, 40, .inr (.inr (.inr (.inr f10))))), (q11, .inr (7, [.null, .int 0, .int 0, .int 0, .int 0, .int 0, .int 0]))] H := hP
  have hD : va_D (va_A [(h0, .inr (2, [.null, .int 0]))] s.heap.size) [(h0, .inr (2, [.ref q1, .int 0])), (q1, .inl (c1, 40, .inr (.inr (.inr (.inr f10))))), (q11, .inr (7, [.null, .int 0, .int 0, .int 0, .int 0, .int 0, .int 0]))] := hD
  refine W.widen (k := 8) (n := 89) (Nat.le_of_ble_eq_true rfl) (Nat.le_of_ble_eq_true rfl) ?_
  refine lv_dup hx hb dX2_init_29 rfl ?_
  have hFc := va_free (wc := [(q11, .inr (7, [.null, .int 0, .int 0, .int 0, .int 0, .int 0, .int 0]))]) hD hS hA [2] rfl
  refine va_callv (va_runIN (As := []) (rest := [.ref q11, .int 3, .ref q1]) ⟨hx, hb, hml, hown, hts⟩ (ci_Sale l dC dI H q11 (hP.sub (ws' := [(q11, .inr (7, [.null, .int 0, .int 0, .int 0, .int 0, .int 0, .int 0]))]) [2] rfl) ((hD.sub (ws' := [(q11, .inr (7, [.null, .int 0, .int 0, .int 0, .int 0, .int 0, .int 0]))]) [2] (by decide) rfl).weaken (fun _ _ _ _ => trivial))) ⟨va_cnB 0 hts gX2_init_X7_init_n17 rfl rfl rfl (hq.2.2.2.2.2.2.1) (hts (.initialized RX7) (by decide +kernel)) (by decide +kernel) ⟨Nat.le_of_ble_eq_true rfl, Nat.le_of_ble_eq_true rfl⟩, rfl, hts (.instanceMethod yX7_init) (by decide +kernel)⟩ ⟨kb_c, kb_m (hK.sub (tys' := []) [] rfl) hq⟩ rfl rfl hl.1 rfl (lv_room (Nat.le_of_ble_eq_true rfl)) dX2_init_30 ⟨Nat.le_of_ble_eq_true rfl, Nat.le_of_ble_eq_true rfl⟩) hS (fun q _ h => hFc q h) hFc (fun u t H_4 locs ht hvm hw hB hz1 hk1 hS => ?_)
  obtain ⟨q12, hP1, hK1, hD1⟩ := hB
  rw [ht] at hP1
  obtain ⟨hP, hD⟩ := va_join (wr := [(h0, .inr (2, [.ref q1, .int 0])), (q1, .inl (c1, 40, .inr (.inr (.inr (.inr f10)))))]) (w1 := [(q11, .inr (7, [.ref q12, .int 0, .int 0, .int 0, .int 0, .int 0, .int 0]))]) hP hD [2] [0, 1] rfl rfl (by decide) (by decide) hk1 hFc hP1 hD1
  have hK : va_K (dC, dI) vwCl [(c1, .object RX7)] s := hK.app (va_K.moved hvm.symm hK1)
  have hP : va_P (dC, dI) vwCl [(h0, .inr (2, [.ref q1, .int 0])), (q1, .inl (c1, 40, .inr (.inr (.inr (.inr f10))))), (q11, .inr (7, [.ref q12, .int 0, .int 0, .int 0, .int 0, .int 0, .int 0]))] H_4 := hP
  have hD : va_D (va_A [(h0, .inr (2, [.null, .int 0]))] s.heap.size) [(h0, .inr (2, [.ref q1, .int 0])), (q1, .inl (c1, 40, .inr (.inr (.inr (.inr f10))))), (q11, .inr (7, [.ref q12, .int 0, .int 0, .int 0, .int 0, .int 0, .int 0]))] := hD
  refine W.widen (k := 9) (n := 96) (Nat.le_of_ble_eq_true rfl) (Nat.le_of_ble_eq_true rfl) ?_
  refine va_astq (r := (RX7, TX7, 7)) hx hb hK hP hD hS 1 0 2 7 rfl rfl rfl rfl (show vp_in 3 40 by unfold vp_in; decide) dX2_init_33 (fun H locs hP hD hS => ?_)
  have hP : va_P (dC, dI) vwCl [(h0, .inr (2, [.ref q1, .int 0])), (q1, .inl (c1, 40, .inr (.inr (.inr (.inr (va_up f10 3 (some q11))))))), (q11, .inr (7, [.ref q12, .int 0, .int 0, .int 0, .int 0, .int 0, .int 0]))] H := hP
  have hD : va_D (va_A [(h0, .inr (2, [.null, .int 0]))] s.heap.size) [(h0, .inr (2, [.ref q1, .int 0])), (q1, .inl (c1, 40, .inr (.inr (.inr (.inr (va_up f10 3 (some q11))))))), (q11, .inr (7, [.ref q12, .int 0, .int 0, .int 0, .int 0, .int 0, .int 0]))] := hD
  generalize (va_up f10 3 (some q11)) = f13 at hP hD
  have hP := hP.sub (ws' := [(h0, .inr (2, [.ref q1, .int 0])), (q1, .inl (c1, 40, .inr (.inr (.inr (.inr f13)))))]) [0, 1] rfl
  have hD := hD.sub (ws' := [(h0, .inr (2, [.ref q1, .int 0])), (q1, .inl (c1, 40, .inr (.inr (.inr (.inr f13)))))]) [0, 1] (by decide) rfl
  refine lv_iinc (v := 4) (lv' := [(1, .int 4), (0, .ref h0)]) hx hb dX2_init_34 hl (k := 0) rfl (by decide) (by decide) rfl (fun ls hl => ?_)
  refine lv_goto (tgt := 15) hx hb dX2_init_37 (by decide) ?_
  refine lv_iload_n hx hb dX2_init_15 rfl (lv_at hl 0 rfl) ?_
  refine lv_bipush (v := 40) hx hb dX2_init_16 (by decide) ?_
  refine lv_icmp_ge (tgt := 40) hx hb dX2_init_18 (by decide) (fun c => absurd c (by decide)) (fun _ => ?_)
  refine lv_aload_n hx hb dX2_init_21 rfl (lv_at hl 1 rfl) ?_
  refine va_get (D := (dC, dI)) (ci := 2) (v := .ref q1) (C := RX2) (T := TX2) (N := 2) hx hb hts (by decide +kernel) hown hK hP 0 rfl rfl 0 (by decide) (hts (.fieldLink RX2 11 "DearLetters$Ledger" "sales" "[LDearLetters$Sale;") (by decide +kernel)) (fun _ h9 => h9) rfl dX2_init_22 ?_
  refine lv_iload_n hx hb dX2_init_25 rfl (lv_at hl 0 rfl) ?_
  refine va_new (ci := 7) (fs := [.null, .int 0, .int 0, .int 0, .int 0, .int 0, .int 0]) (C := RX7) (T := TX7) (N := 7) hx hb hts (by decide +kernel) tyX7 tyX7_ok hown (hts (.classLink RX2 9 RX7) (by decide +kernel)) (hts (.instantiable RX7 7) (by decide +kernel)) (hts (.initialized RX7) (by decide +kernel)) hK hP hD hS hA rfl (fun j hj => by rcases (show j = 0 ∨ j = 1 ∨ j = 2 ∨ j = 3 ∨ j = 4 ∨ j = 5 ∨ j = 6 by omega) with rfl | rfl | rfl | rfl | rfl | rfl | rfl <;> rfl) (Nat.le_of_ble_eq_true rfl) (Nat.le_of_ble_eq_true rfl) dX2_init_26 (fun q14 H hP hD hS => ?_)
  have hP : va_P (dC, dI) vwCl [(h0, .inr (2, [.ref q1, .int 0])), (q1, .inl (c1, 40, .inr (.inr (.inr (.inr f13))))), (q14, .inr (7, [.null, .int 0, .int 0, .int 0, .int 0, .int 0, .int 0]))] H := hP
  have hD : va_D (va_A [(h0, .inr (2, [.null, .int 0]))] s.heap.size) [(h0, .inr (2, [.ref q1, .int 0])), (q1, .inl (c1, 40, .inr (.inr (.inr (.inr f13))))), (q14, .inr (7, [.null, .int 0, .int 0, .int 0, .int 0, .int 0, .int 0]))] := hD
  refine W.widen (k := 10) (n := 103) (Nat.le_of_ble_eq_true rfl) (Nat.le_of_ble_eq_true rfl) ?_
  refine lv_dup hx hb dX2_init_29 rfl ?_
  have hFc := va_free (wc := [(q14, .inr (7, [.null, .int 0, .int 0, .int 0, .int 0, .int 0, .int 0]))]) hD hS hA [2] rfl
  refine va_callv (va_runIN (As := []) (rest := [.ref q14, .int 4, .ref q1]) ⟨hx, hb, hml, hown, hts⟩ (ci_Sale l dC dI H q14 (hP.sub (ws' := [(q14, .inr (7, [.null, .int 0, .int 0, .int 0, .int 0, .int 0, .int 0]))]) [2] rfl) ((hD.sub (ws' := [(q14, .inr (7, [.null, .int 0, .int 0, .int 0, .int 0, .int 0, .int 0]))]) [2] (by decide) rfl).weaken (fun _ _ _ _ => trivial))) ⟨va_cnB 0 hts gX2_init_X7_init_n17 rfl rfl rfl (hq.2.2.2.2.2.2.1) (hts (.initialized RX7) (by decide +kernel)) (by decide +kernel) ⟨Nat.le_of_ble_eq_true rfl, Nat.le_of_ble_eq_true rfl⟩, rfl, hts (.instanceMethod yX7_init) (by decide +kernel)⟩ ⟨kb_c, kb_m (hK.sub (tys' := []) [] rfl) hq⟩ rfl rfl hl.1 rfl (lv_room (Nat.le_of_ble_eq_true rfl)) dX2_init_30 ⟨Nat.le_of_ble_eq_true rfl, Nat.le_of_ble_eq_true rfl⟩) hS (fun q _ h => hFc q h) hFc (fun u t H_5 locs ht hvm hw hB hz1 hk1 hS => ?_)
  obtain ⟨q15, hP1, hK1, hD1⟩ := hB
  rw [ht] at hP1
  obtain ⟨hP, hD⟩ := va_join (wr := [(h0, .inr (2, [.ref q1, .int 0])), (q1, .inl (c1, 40, .inr (.inr (.inr (.inr f13)))))]) (w1 := [(q14, .inr (7, [.ref q15, .int 0, .int 0, .int 0, .int 0, .int 0, .int 0]))]) hP hD [2] [0, 1] rfl rfl (by decide) (by decide) hk1 hFc hP1 hD1
  have hK : va_K (dC, dI) vwCl [(c1, .object RX7)] s := hK.app (va_K.moved hvm.symm hK1)
  have hP : va_P (dC, dI) vwCl [(h0, .inr (2, [.ref q1, .int 0])), (q1, .inl (c1, 40, .inr (.inr (.inr (.inr f13))))), (q14, .inr (7, [.ref q15, .int 0, .int 0, .int 0, .int 0, .int 0, .int 0]))] H_5 := hP
  have hD : va_D (va_A [(h0, .inr (2, [.null, .int 0]))] s.heap.size) [(h0, .inr (2, [.ref q1, .int 0])), (q1, .inl (c1, 40, .inr (.inr (.inr (.inr f13))))), (q14, .inr (7, [.ref q15, .int 0, .int 0, .int 0, .int 0, .int 0, .int 0]))] := hD
  refine W.widen (k := 11) (n := 110) (Nat.le_of_ble_eq_true rfl) (Nat.le_of_ble_eq_true rfl) ?_
  refine va_astq (r := (RX7, TX7, 7)) hx hb hK hP hD hS 1 0 2 7 rfl rfl rfl rfl (show vp_in 4 40 by unfold vp_in; decide) dX2_init_33 (fun H locs hP hD hS => ?_)
  have hP : va_P (dC, dI) vwCl [(h0, .inr (2, [.ref q1, .int 0])), (q1, .inl (c1, 40, .inr (.inr (.inr (.inr (va_up f13 4 (some q14))))))), (q14, .inr (7, [.ref q15, .int 0, .int 0, .int 0, .int 0, .int 0, .int 0]))] H := hP
  have hD : va_D (va_A [(h0, .inr (2, [.null, .int 0]))] s.heap.size) [(h0, .inr (2, [.ref q1, .int 0])), (q1, .inl (c1, 40, .inr (.inr (.inr (.inr (va_up f13 4 (some q14))))))), (q14, .inr (7, [.ref q15, .int 0, .int 0, .int 0, .int 0, .int 0, .int 0]))] := hD
  generalize (va_up f13 4 (some q14)) = f16 at hP hD
  have hP := hP.sub (ws' := [(h0, .inr (2, [.ref q1, .int 0])), (q1, .inl (c1, 40, .inr (.inr (.inr (.inr f16)))))]) [0, 1] rfl
  have hD := hD.sub (ws' := [(h0, .inr (2, [.ref q1, .int 0])), (q1, .inl (c1, 40, .inr (.inr (.inr (.inr f16)))))]) [0, 1] (by decide) rfl
  refine lv_iinc (v := 5) (lv' := [(1, .int 5), (0, .ref h0)]) hx hb dX2_init_34 hl (k := 0) rfl (by decide) (by decide) rfl (fun ls hl => ?_)
  refine lv_goto (tgt := 15) hx hb dX2_init_37 (by decide) ?_
  refine lv_iload_n hx hb dX2_init_15 rfl (lv_at hl 0 rfl) ?_
  refine lv_bipush (v := 40) hx hb dX2_init_16 (by decide) ?_
  refine lv_icmp_ge (tgt := 40) hx hb dX2_init_18 (by decide) (fun c => absurd c (by decide)) (fun _ => ?_)
  refine lv_aload_n hx hb dX2_init_21 rfl (lv_at hl 1 rfl) ?_
  refine va_get (D := (dC, dI)) (ci := 2) (v := .ref q1) (C := RX2) (T := TX2) (N := 2) hx hb hts (by decide +kernel) hown hK hP 0 rfl rfl 0 (by decide) (hts (.fieldLink RX2 11 "DearLetters$Ledger" "sales" "[LDearLetters$Sale;") (by decide +kernel)) (fun _ h9 => h9) rfl dX2_init_22 ?_
  refine lv_iload_n hx hb dX2_init_25 rfl (lv_at hl 0 rfl) ?_
  refine va_new (ci := 7) (fs := [.null, .int 0, .int 0, .int 0, .int 0, .int 0, .int 0]) (C := RX7) (T := TX7) (N := 7) hx hb hts (by decide +kernel) tyX7 tyX7_ok hown (hts (.classLink RX2 9 RX7) (by decide +kernel)) (hts (.instantiable RX7 7) (by decide +kernel)) (hts (.initialized RX7) (by decide +kernel)) hK hP hD hS hA rfl (fun j hj => by rcases (show j = 0 ∨ j = 1 ∨ j = 2 ∨ j = 3 ∨ j = 4 ∨ j = 5 ∨ j = 6 by omega) with rfl | rfl | rfl | rfl | rfl | rfl | rfl <;> rfl) (Nat.le_of_ble_eq_true rfl) (Nat.le_of_ble_eq_true rfl) dX2_init_26 (fun q17 H hP hD hS => ?_)
  have hP : va_P (dC, dI) vwCl [(h0, .inr (2, [.ref q1, .int 0])), (q1, .inl (c1, 40, .inr (.inr (.inr (.inr f16))))), (q17, .inr (7, [.null, .int 0, .int 0, .int 0, .int 0, .int 0, .int 0]))] H := hP
  have hD : va_D (va_A [(h0, .inr (2, [.null, .int 0]))] s.heap.size) [(h0, .inr (2, [.ref q1, .int 0])), (q1, .inl (c1, 40, .inr (.inr (.inr (.inr f16))))), (q17, .inr (7, [.null, .int 0, .int 0, .int 0, .int 0, .int 0, .int 0]))] := hD
  refine W.widen (k := 12) (n := 117) (Nat.le_of_ble_eq_true rfl) (Nat.le_of_ble_eq_true rfl) ?_
  refine lv_dup hx hb dX2_init_29 rfl ?_
  have hFc := va_free (wc := [(q17, .inr (7, [.null, .int 0, .int 0, .int 0, .int 0, .int 0, .int 0]))]) hD hS hA [2] rfl
  refine va_callv (va_runIN (As := []) (rest := [.ref q17, .int 5, .ref q1]) ⟨hx, hb, hml, hown, hts⟩ (ci_Sale l dC dI H q17 (hP.sub (ws' := [(q17, .inr (7, [.null, .int 0, .int 0, .int 0, .int 0, .int 0, .int 0]))]) [2] rfl) ((hD.sub (ws' := [(q17, .inr (7, [.null, .int 0, .int 0, .int 0, .int 0, .int 0, .int 0]))]) [2] (by decide) rfl).weaken (fun _ _ _ _ => trivial))) ⟨va_cnB 0 hts gX2_init_X7_init_n17 rfl rfl rfl (hq.2.2.2.2.2.2.1) (hts (.initialized RX7) (by decide +kernel)) (by decide +kernel) ⟨Nat.le_of_ble_eq_true rfl, Nat.le_of_ble_eq_true rfl⟩, rfl, hts (.instanceMethod yX7_init) (by decide +kernel)⟩ ⟨kb_c, kb_m (hK.sub (tys' := []) [] rfl) hq⟩ rfl rfl hl.1 rfl (lv_room (Nat.le_of_ble_eq_true rfl)) dX2_init_30 ⟨Nat.le_of_ble_eq_true rfl, Nat.le_of_ble_eq_true rfl⟩) hS (fun q _ h => hFc q h) hFc (fun u t H_6 locs ht hvm hw hB hz1 hk1 hS => ?_)
  obtain ⟨q18, hP1, hK1, hD1⟩ := hB
  rw [ht] at hP1
  obtain ⟨hP, hD⟩ := va_join (wr := [(h0, .inr (2, [.ref q1, .int 0])), (q1, .inl (c1, 40, .inr (.inr (.inr (.inr f16)))))]) (w1 := [(q17, .inr (7, [.ref q18, .int 0, .int 0, .int 0, .int 0, .int 0, .int 0]))]) hP hD [2] [0, 1] rfl rfl (by decide) (by decide) hk1 hFc hP1 hD1
  have hK : va_K (dC, dI) vwCl [(c1, .object RX7)] s := hK.app (va_K.moved hvm.symm hK1)
  have hP : va_P (dC, dI) vwCl [(h0, .inr (2, [.ref q1, .int 0])), (q1, .inl (c1, 40, .inr (.inr (.inr (.inr f16))))), (q17, .inr (7, [.ref q18, .int 0, .int 0, .int 0, .int 0, .int 0, .int 0]))] H_6 := hP
  have hD : va_D (va_A [(h0, .inr (2, [.null, .int 0]))] s.heap.size) [(h0, .inr (2, [.ref q1, .int 0])), (q1, .inl (c1, 40, .inr (.inr (.inr (.inr f16))))), (q17, .inr (7, [.ref q18, .int 0, .int 0, .int 0, .int 0, .int 0, .int 0]))] := hD
  refine W.widen (k := 13) (n := 124) (Nat.le_of_ble_eq_true rfl) (Nat.le_of_ble_eq_true rfl) ?_
  refine va_astq (r := (RX7, TX7, 7)) hx hb hK hP hD hS 1 0 2 7 rfl rfl rfl rfl (show vp_in 5 40 by unfold vp_in; decide) dX2_init_33 (fun H locs hP hD hS => ?_)
  have hP : va_P (dC, dI) vwCl [(h0, .inr (2, [.ref q1, .int 0])), (q1, .inl (c1, 40, .inr (.inr (.inr (.inr (va_up f16 5 (some q17))))))), (q17, .inr (7, [.ref q18, .int 0, .int 0, .int 0, .int 0, .int 0, .int 0]))] H := hP
  have hD : va_D (va_A [(h0, .inr (2, [.null, .int 0]))] s.heap.size) [(h0, .inr (2, [.ref q1, .int 0])), (q1, .inl (c1, 40, .inr (.inr (.inr (.inr (va_up f16 5 (some q17))))))), (q17, .inr (7, [.ref q18, .int 0, .int 0, .int 0, .int 0, .int 0, .int 0]))] := hD
  generalize (va_up f16 5 (some q17)) = f19 at hP hD
  have hP := hP.sub (ws' := [(h0, .inr (2, [.ref q1, .int 0])), (q1, .inl (c1, 40, .inr (.inr (.inr (.inr f19)))))]) [0, 1] rfl
  have hD := hD.sub (ws' := [(h0, .inr (2, [.ref q1, .int 0])), (q1, .inl (c1, 40, .inr (.inr (.inr (.inr f19)))))]) [0, 1] (by decide) rfl
  refine lv_iinc (v := 6) (lv' := [(1, .int 6), (0, .ref h0)]) hx hb dX2_init_34 hl (k := 0) rfl (by decide) (by decide) rfl (fun ls hl => ?_)
  refine lv_goto (tgt := 15) hx hb dX2_init_37 (by decide) ?_
  refine lv_iload_n hx hb dX2_init_15 rfl (lv_at hl 0 rfl) ?_
  refine lv_bipush (v := 40) hx hb dX2_init_16 (by decide) ?_
  refine lv_icmp_ge (tgt := 40) hx hb dX2_init_18 (by decide) (fun c => absurd c (by decide)) (fun _ => ?_)
  refine lv_aload_n hx hb dX2_init_21 rfl (lv_at hl 1 rfl) ?_
  refine va_get (D := (dC, dI)) (ci := 2) (v := .ref q1) (C := RX2) (T := TX2) (N := 2) hx hb hts (by decide +kernel) hown hK hP 0 rfl rfl 0 (by decide) (hts (.fieldLink RX2 11 "DearLetters$Ledger" "sales" "[LDearLetters$Sale;") (by decide +kernel)) (fun _ h9 => h9) rfl dX2_init_22 ?_
  refine lv_iload_n hx hb dX2_init_25 rfl (lv_at hl 0 rfl) ?_
  refine va_new (ci := 7) (fs := [.null, .int 0, .int 0, .int 0, .int 0, .int 0, .int 0]) (C := RX7) (T := TX7) (N := 7) hx hb hts (by decide +kernel) tyX7 tyX7_ok hown (hts (.classLink RX2 9 RX7) (by decide +kernel)) (hts (.instantiable RX7 7) (by decide +kernel)) (hts (.initialized RX7) (by decide +kernel)) hK hP hD hS hA rfl (fun j hj => by rcases (show j = 0 ∨ j = 1 ∨ j = 2 ∨ j = 3 ∨ j = 4 ∨ j = 5 ∨ j = 6 by omega) with rfl | rfl | rfl | rfl | rfl | rfl | rfl <;> rfl) (Nat.le_of_ble_eq_true rfl) (Nat.le_of_ble_eq_true rfl) dX2_init_26 (fun q20 H hP hD hS => ?_)
  have hP : va_P (dC, dI) vwCl [(h0, .inr (2, [.ref q1, .int 0])), (q1, .inl (c1, 40, .inr (.inr (.inr (.inr f19))))), (q20, .inr (7, [.null, .int 0, .int 0, .int 0, .int 0, .int 0, .int 0]))] H := hP
  have hD : va_D (va_A [(h0, .inr (2, [.null, .int 0]))] s.heap.size) [(h0, .inr (2, [.ref q1, .int 0])), (q1, .inl (c1, 40, .inr (.inr (.inr (.inr f19))))), (q20, .inr (7, [.null, .int 0, .int 0, .int 0, .int 0, .int 0, .int 0]))] := hD
  refine W.widen (k := 14) (n := 131) (Nat.le_of_ble_eq_true rfl) (Nat.le_of_ble_eq_true rfl) ?_
  refine lv_dup hx hb dX2_init_29 rfl ?_
  have hFc := va_free (wc := [(q20, .inr (7, [.null, .int 0, .int 0, .int 0, .int 0, .int 0, .int 0]))]) hD hS hA [2] rfl
  refine va_callv (va_runIN (As := []) (rest := [.ref q20, .int 6, .ref q1]) ⟨hx, hb, hml, hown, hts⟩ (ci_Sale l dC dI H q20 (hP.sub (ws' := [(q20, .inr (7, [.null, .int 0, .int 0, .int 0, .int 0, .int 0, .int 0]))]) [2] rfl) ((hD.sub (ws' := [(q20, .inr (7, [.null, .int 0, .int 0, .int 0, .int 0, .int 0, .int 0]))]) [2] (by decide) rfl).weaken (fun _ _ _ _ => trivial))) ⟨va_cnB 0 hts gX2_init_X7_init_n17 rfl rfl rfl (hq.2.2.2.2.2.2.1) (hts (.initialized RX7) (by decide +kernel)) (by decide +kernel) ⟨Nat.le_of_ble_eq_true rfl, Nat.le_of_ble_eq_true rfl⟩, rfl, hts (.instanceMethod yX7_init) (by decide +kernel)⟩ ⟨kb_c, kb_m (hK.sub (tys' := []) [] rfl) hq⟩ rfl rfl hl.1 rfl (lv_room (Nat.le_of_ble_eq_true rfl)) dX2_init_30 ⟨Nat.le_of_ble_eq_true rfl, Nat.le_of_ble_eq_true rfl⟩) hS (fun q _ h => hFc q h) hFc (fun u t H_7 locs ht hvm hw hB hz1 hk1 hS => ?_)
  obtain ⟨q21, hP1, hK1, hD1⟩ := hB
  rw [ht] at hP1
  obtain ⟨hP, hD⟩ := va_join (wr := [(h0, .inr (2, [.ref q1, .int 0])), (q1, .inl (c1, 40, .inr (.inr (.inr (.inr f19)))))]) (w1 := [(q20, .inr (7, [.ref q21, .int 0, .int 0, .int 0, .int 0, .int 0, .int 0]))]) hP hD [2] [0, 1] rfl rfl (by decide) (by decide) hk1 hFc hP1 hD1
  have hK : va_K (dC, dI) vwCl [(c1, .object RX7)] s := hK.app (va_K.moved hvm.symm hK1)
  have hP : va_P (dC, dI) vwCl [(h0, .inr (2, [.ref q1, .int 0])), (q1, .inl (c1, 40, .inr (.inr (.inr (.inr f19))))), (q20, .inr (7, [.ref q21, .int 0, .int 0, .int 0, .int 0, .int 0, .int 0]))] H_7 := hP
  have hD : va_D (va_A [(h0, .inr (2, [.null, .int 0]))] s.heap.size) [(h0, .inr (2, [.ref q1, .int 0])), (q1, .inl (c1, 40, .inr (.inr (.inr (.inr f19))))), (q20, .inr (7, [.ref q21, .int 0, .int 0, .int 0, .int 0, .int 0, .int 0]))] := hD
  refine W.widen (k := 15) (n := 138) (Nat.le_of_ble_eq_true rfl) (Nat.le_of_ble_eq_true rfl) ?_
  refine va_astq (r := (RX7, TX7, 7)) hx hb hK hP hD hS 1 0 2 7 rfl rfl rfl rfl (show vp_in 6 40 by unfold vp_in; decide) dX2_init_33 (fun H locs hP hD hS => ?_)
  have hP : va_P (dC, dI) vwCl [(h0, .inr (2, [.ref q1, .int 0])), (q1, .inl (c1, 40, .inr (.inr (.inr (.inr (va_up f19 6 (some q20))))))), (q20, .inr (7, [.ref q21, .int 0, .int 0, .int 0, .int 0, .int 0, .int 0]))] H := hP
  have hD : va_D (va_A [(h0, .inr (2, [.null, .int 0]))] s.heap.size) [(h0, .inr (2, [.ref q1, .int 0])), (q1, .inl (c1, 40, .inr (.inr (.inr (.inr (va_up f19 6 (some q20))))))), (q20, .inr (7, [.ref q21, .int 0, .int 0, .int 0, .int 0, .int 0, .int 0]))] := hD
  generalize (va_up f19 6 (some q20)) = f22 at hP hD
  have hP := hP.sub (ws' := [(h0, .inr (2, [.ref q1, .int 0])), (q1, .inl (c1, 40, .inr (.inr (.inr (.inr f22)))))]) [0, 1] rfl
  have hD := hD.sub (ws' := [(h0, .inr (2, [.ref q1, .int 0])), (q1, .inl (c1, 40, .inr (.inr (.inr (.inr f22)))))]) [0, 1] (by decide) rfl
  refine lv_iinc (v := 7) (lv' := [(1, .int 7), (0, .ref h0)]) hx hb dX2_init_34 hl (k := 0) rfl (by decide) (by decide) rfl (fun ls hl => ?_)
  refine lv_goto (tgt := 15) hx hb dX2_init_37 (by decide) ?_
  refine lv_iload_n hx hb dX2_init_15 rfl (lv_at hl 0 rfl) ?_
  refine lv_bipush (v := 40) hx hb dX2_init_16 (by decide) ?_
  refine lv_icmp_ge (tgt := 40) hx hb dX2_init_18 (by decide) (fun c => absurd c (by decide)) (fun _ => ?_)
  refine lv_aload_n hx hb dX2_init_21 rfl (lv_at hl 1 rfl) ?_
  refine va_get (D := (dC, dI)) (ci := 2) (v := .ref q1) (C := RX2) (T := TX2) (N := 2) hx hb hts (by decide +kernel) hown hK hP 0 rfl rfl 0 (by decide) (hts (.fieldLink RX2 11 "DearLetters$Ledger" "sales" "[LDearLetters$Sale;") (by decide +kernel)) (fun _ h9 => h9) rfl dX2_init_22 ?_
  refine lv_iload_n hx hb dX2_init_25 rfl (lv_at hl 0 rfl) ?_
  refine va_new (ci := 7) (fs := [.null, .int 0, .int 0, .int 0, .int 0, .int 0, .int 0]) (C := RX7) (T := TX7) (N := 7) hx hb hts (by decide +kernel) tyX7 tyX7_ok hown (hts (.classLink RX2 9 RX7) (by decide +kernel)) (hts (.instantiable RX7 7) (by decide +kernel)) (hts (.initialized RX7) (by decide +kernel)) hK hP hD hS hA rfl (fun j hj => by rcases (show j = 0 ∨ j = 1 ∨ j = 2 ∨ j = 3 ∨ j = 4 ∨ j = 5 ∨ j = 6 by omega) with rfl | rfl | rfl | rfl | rfl | rfl | rfl <;> rfl) (Nat.le_of_ble_eq_true rfl) (Nat.le_of_ble_eq_true rfl) dX2_init_26 (fun q23 H hP hD hS => ?_)
  have hP : va_P (dC, dI) vwCl [(h0, .inr (2, [.ref q1, .int 0])), (q1, .inl (c1, 40, .inr (.inr (.inr (.inr f22))))), (q23, .inr (7, [.null, .int 0, .int 0, .int 0, .int 0, .int 0, .int 0]))] H := hP
  have hD : va_D (va_A [(h0, .inr (2, [.null, .int 0]))] s.heap.size) [(h0, .inr (2, [.ref q1, .int 0])), (q1, .inl (c1, 40, .inr (.inr (.inr (.inr f22))))), (q23, .inr (7, [.null, .int 0, .int 0, .int 0, .int 0, .int 0, .int 0]))] := hD
  refine W.widen (k := 16) (n := 145) (Nat.le_of_ble_eq_true rfl) (Nat.le_of_ble_eq_true rfl) ?_
  refine lv_dup hx hb dX2_init_29 rfl ?_
  have hFc := va_free (wc := [(q23, .inr (7, [.null, .int 0, .int 0, .int 0, .int 0, .int 0, .int 0]))]) hD hS hA [2] rfl
  refine va_callv (va_runIN (As := []) (rest := [.ref q23, .int 7, .ref q1]) ⟨hx, hb, hml, hown, hts⟩ (ci_Sale l dC dI H q23 (hP.sub (ws' := [(q23, .inr (7, [.null, .int 0, .int 0, .int 0, .int 0, .int 0, .int 0]))]) [2] rfl) ((hD.sub (ws' := [(q23, .inr (7, [.null, .int 0, .int 0, .int 0, .int 0, .int 0, .int 0]))]) [2] (by decide) rfl).weaken (fun _ _ _ _ => trivial))) ⟨va_cnB 0 hts gX2_init_X7_init_n17 rfl rfl rfl (hq.2.2.2.2.2.2.1) (hts (.initialized RX7) (by decide +kernel)) (by decide +kernel) ⟨Nat.le_of_ble_eq_true rfl, Nat.le_of_ble_eq_true rfl⟩, rfl, hts (.instanceMethod yX7_init) (by decide +kernel)⟩ ⟨kb_c, kb_m (hK.sub (tys' := []) [] rfl) hq⟩ rfl rfl hl.1 rfl (lv_room (Nat.le_of_ble_eq_true rfl)) dX2_init_30 ⟨Nat.le_of_ble_eq_true rfl, Nat.le_of_ble_eq_true rfl⟩) hS (fun q _ h => hFc q h) hFc (fun u t H_8 locs ht hvm hw hB hz1 hk1 hS => ?_)
  obtain ⟨q24, hP1, hK1, hD1⟩ := hB
  rw [ht] at hP1
  obtain ⟨hP, hD⟩ := va_join (wr := [(h0, .inr (2, [.ref q1, .int 0])), (q1, .inl (c1, 40, .inr (.inr (.inr (.inr f22)))))]) (w1 := [(q23, .inr (7, [.ref q24, .int 0, .int 0, .int 0, .int 0, .int 0, .int 0]))]) hP hD [2] [0, 1] rfl rfl (by decide) (by decide) hk1 hFc hP1 hD1
  have hK : va_K (dC, dI) vwCl [(c1, .object RX7)] s := hK.app (va_K.moved hvm.symm hK1)
  have hP : va_P (dC, dI) vwCl [(h0, .inr (2, [.ref q1, .int 0])), (q1, .inl (c1, 40, .inr (.inr (.inr (.inr f22))))), (q23, .inr (7, [.ref q24, .int 0, .int 0, .int 0, .int 0, .int 0, .int 0]))] H_8 := hP
  have hD : va_D (va_A [(h0, .inr (2, [.null, .int 0]))] s.heap.size) [(h0, .inr (2, [.ref q1, .int 0])), (q1, .inl (c1, 40, .inr (.inr (.inr (.inr f22))))), (q23, .inr (7, [.ref q24, .int 0, .int 0, .int 0, .int 0, .int 0, .int 0]))] := hD
  refine W.widen (k := 17) (n := 152) (Nat.le_of_ble_eq_true rfl) (Nat.le_of_ble_eq_true rfl) ?_
  refine va_astq (r := (RX7, TX7, 7)) hx hb hK hP hD hS 1 0 2 7 rfl rfl rfl rfl (show vp_in 7 40 by unfold vp_in; decide) dX2_init_33 (fun H locs hP hD hS => ?_)
  have hP : va_P (dC, dI) vwCl [(h0, .inr (2, [.ref q1, .int 0])), (q1, .inl (c1, 40, .inr (.inr (.inr (.inr (va_up f22 7 (some q23))))))), (q23, .inr (7, [.ref q24, .int 0, .int 0, .int 0, .int 0, .int 0, .int 0]))] H := hP
  have hD : va_D (va_A [(h0, .inr (2, [.null, .int 0]))] s.heap.size) [(h0, .inr (2, [.ref q1, .int 0])), (q1, .inl (c1, 40, .inr (.inr (.inr (.inr (va_up f22 7 (some q23))))))), (q23, .inr (7, [.ref q24, .int 0, .int 0, .int 0, .int 0, .int 0, .int 0]))] := hD
  generalize (va_up f22 7 (some q23)) = f25 at hP hD
  have hP := hP.sub (ws' := [(h0, .inr (2, [.ref q1, .int 0])), (q1, .inl (c1, 40, .inr (.inr (.inr (.inr f25)))))]) [0, 1] rfl
  have hD := hD.sub (ws' := [(h0, .inr (2, [.ref q1, .int 0])), (q1, .inl (c1, 40, .inr (.inr (.inr (.inr f25)))))]) [0, 1] (by decide) rfl
  refine lv_iinc (v := 8) (lv' := [(1, .int 8), (0, .ref h0)]) hx hb dX2_init_34 hl (k := 0) rfl (by decide) (by decide) rfl (fun ls hl => ?_)
  refine lv_goto (tgt := 15) hx hb dX2_init_37 (by decide) ?_
  refine lv_iload_n hx hb dX2_init_15 rfl (lv_at hl 0 rfl) ?_
  refine lv_bipush (v := 40) hx hb dX2_init_16 (by decide) ?_
  refine lv_icmp_ge (tgt := 40) hx hb dX2_init_18 (by decide) (fun c => absurd c (by decide)) (fun _ => ?_)
  refine lv_aload_n hx hb dX2_init_21 rfl (lv_at hl 1 rfl) ?_
  refine va_get (D := (dC, dI)) (ci := 2) (v := .ref q1) (C := RX2) (T := TX2) (N := 2) hx hb hts (by decide +kernel) hown hK hP 0 rfl rfl 0 (by decide) (hts (.fieldLink RX2 11 "DearLetters$Ledger" "sales" "[LDearLetters$Sale;") (by decide +kernel)) (fun _ h9 => h9) rfl dX2_init_22 ?_
  refine lv_iload_n hx hb dX2_init_25 rfl (lv_at hl 0 rfl) ?_
  refine va_new (ci := 7) (fs := [.null, .int 0, .int 0, .int 0, .int 0, .int 0, .int 0]) (C := RX7) (T := TX7) (N := 7) hx hb hts (by decide +kernel) tyX7 tyX7_ok hown (hts (.classLink RX2 9 RX7) (by decide +kernel)) (hts (.instantiable RX7 7) (by decide +kernel)) (hts (.initialized RX7) (by decide +kernel)) hK hP hD hS hA rfl (fun j hj => by rcases (show j = 0 ∨ j = 1 ∨ j = 2 ∨ j = 3 ∨ j = 4 ∨ j = 5 ∨ j = 6 by omega) with rfl | rfl | rfl | rfl | rfl | rfl | rfl <;> rfl) (Nat.le_of_ble_eq_true rfl) (Nat.le_of_ble_eq_true rfl) dX2_init_26 (fun q26 H hP hD hS => ?_)
  have hP : va_P (dC, dI) vwCl [(h0, .inr (2, [.ref q1, .int 0])), (q1, .inl (c1, 40, .inr (.inr (.inr (.inr f25))))), (q26, .inr (7, [.null, .int 0, .int 0, .int 0, .int 0, .int 0, .int 0]))] H := hP
  have hD : va_D (va_A [(h0, .inr (2, [.null, .int 0]))] s.heap.size) [(h0, .inr (2, [.ref q1, .int 0])), (q1, .inl (c1, 40, .inr (.inr (.inr (.inr f25))))), (q26, .inr (7, [.null, .int 0, .int 0, .int 0, .int 0, .int 0, .int 0]))] := hD
  refine W.widen (k := 18) (n := 159) (Nat.le_of_ble_eq_true rfl) (Nat.le_of_ble_eq_true rfl) ?_
  refine lv_dup hx hb dX2_init_29 rfl ?_
  have hFc := va_free (wc := [(q26, .inr (7, [.null, .int 0, .int 0, .int 0, .int 0, .int 0, .int 0]))]) hD hS hA [2] rfl
  refine va_callv (va_runIN (As := []) (rest := [.ref q26, .int 8, .ref q1]) ⟨hx, hb, hml, hown, hts⟩ (ci_Sale l dC dI H q26 (hP.sub (ws' := [(q26, .inr (7, [.null, .int 0, .int 0, .int 0, .int 0, .int 0, .int 0]))]) [2] rfl) ((hD.sub (ws' := [(q26, .inr (7, [.null, .int 0, .int 0, .int 0, .int 0, .int 0, .int 0]))]) [2] (by decide) rfl).weaken (fun _ _ _ _ => trivial))) ⟨va_cnB 0 hts gX2_init_X7_init_n17 rfl rfl rfl (hq.2.2.2.2.2.2.1) (hts (.initialized RX7) (by decide +kernel)) (by decide +kernel) ⟨Nat.le_of_ble_eq_true rfl, Nat.le_of_ble_eq_true rfl⟩, rfl, hts (.instanceMethod yX7_init) (by decide +kernel)⟩ ⟨kb_c, kb_m (hK.sub (tys' := []) [] rfl) hq⟩ rfl rfl hl.1 rfl (lv_room (Nat.le_of_ble_eq_true rfl)) dX2_init_30 ⟨Nat.le_of_ble_eq_true rfl, Nat.le_of_ble_eq_true rfl⟩) hS (fun q _ h => hFc q h) hFc (fun u t H_9 locs ht hvm hw hB hz1 hk1 hS => ?_)
  obtain ⟨q27, hP1, hK1, hD1⟩ := hB
  rw [ht] at hP1
  obtain ⟨hP, hD⟩ := va_join (wr := [(h0, .inr (2, [.ref q1, .int 0])), (q1, .inl (c1, 40, .inr (.inr (.inr (.inr f25)))))]) (w1 := [(q26, .inr (7, [.ref q27, .int 0, .int 0, .int 0, .int 0, .int 0, .int 0]))]) hP hD [2] [0, 1] rfl rfl (by decide) (by decide) hk1 hFc hP1 hD1
  have hK : va_K (dC, dI) vwCl [(c1, .object RX7)] s := hK.app (va_K.moved hvm.symm hK1)
  have hP : va_P (dC, dI) vwCl [(h0, .inr (2, [.ref q1, .int 0])), (q1, .inl (c1, 40, .inr (.inr (.inr (.inr f25))))), (q26, .inr (7, [.ref q27, .int 0, .int 0, .int 0, .int 0, .int 0, .int 0]))] H_9 := hP
  have hD : va_D (va_A [(h0, .inr (2, [.null, .int 0]))] s.heap.size) [(h0, .inr (2, [.ref q1, .int 0])), (q1, .inl (c1, 40, .inr (.inr (.inr (.inr f25))))), (q26, .inr (7, [.ref q27, .int 0, .int 0, .int 0, .int 0, .int 0, .int 0]))] := hD
  refine W.widen (k := 19) (n := 166) (Nat.le_of_ble_eq_true rfl) (Nat.le_of_ble_eq_true rfl) ?_
  refine va_astq (r := (RX7, TX7, 7)) hx hb hK hP hD hS 1 0 2 7 rfl rfl rfl rfl (show vp_in 8 40 by unfold vp_in; decide) dX2_init_33 (fun H locs hP hD hS => ?_)
  have hP : va_P (dC, dI) vwCl [(h0, .inr (2, [.ref q1, .int 0])), (q1, .inl (c1, 40, .inr (.inr (.inr (.inr (va_up f25 8 (some q26))))))), (q26, .inr (7, [.ref q27, .int 0, .int 0, .int 0, .int 0, .int 0, .int 0]))] H := hP
  have hD : va_D (va_A [(h0, .inr (2, [.null, .int 0]))] s.heap.size) [(h0, .inr (2, [.ref q1, .int 0])), (q1, .inl (c1, 40, .inr (.inr (.inr (.inr (va_up f25 8 (some q26))))))), (q26, .inr (7, [.ref q27, .int 0, .int 0, .int 0, .int 0, .int 0, .int 0]))] := hD
  generalize (va_up f25 8 (some q26)) = f28 at hP hD
  have hP := hP.sub (ws' := [(h0, .inr (2, [.ref q1, .int 0])), (q1, .inl (c1, 40, .inr (.inr (.inr (.inr f28)))))]) [0, 1] rfl
  have hD := hD.sub (ws' := [(h0, .inr (2, [.ref q1, .int 0])), (q1, .inl (c1, 40, .inr (.inr (.inr (.inr f28)))))]) [0, 1] (by decide) rfl
  refine lv_iinc (v := 9) (lv' := [(1, .int 9), (0, .ref h0)]) hx hb dX2_init_34 hl (k := 0) rfl (by decide) (by decide) rfl (fun ls hl => ?_)
  refine lv_goto (tgt := 15) hx hb dX2_init_37 (by decide) ?_
  refine lv_iload_n hx hb dX2_init_15 rfl (lv_at hl 0 rfl) ?_
  refine lv_bipush (v := 40) hx hb dX2_init_16 (by decide) ?_
  refine lv_icmp_ge (tgt := 40) hx hb dX2_init_18 (by decide) (fun c => absurd c (by decide)) (fun _ => ?_)
  refine lv_aload_n hx hb dX2_init_21 rfl (lv_at hl 1 rfl) ?_
  refine va_get (D := (dC, dI)) (ci := 2) (v := .ref q1) (C := RX2) (T := TX2) (N := 2) hx hb hts (by decide +kernel) hown hK hP 0 rfl rfl 0 (by decide) (hts (.fieldLink RX2 11 "DearLetters$Ledger" "sales" "[LDearLetters$Sale;") (by decide +kernel)) (fun _ h9 => h9) rfl dX2_init_22 ?_
  refine lv_iload_n hx hb dX2_init_25 rfl (lv_at hl 0 rfl) ?_
  refine va_new (ci := 7) (fs := [.null, .int 0, .int 0, .int 0, .int 0, .int 0, .int 0]) (C := RX7) (T := TX7) (N := 7) hx hb hts (by decide +kernel) tyX7 tyX7_ok hown (hts (.classLink RX2 9 RX7) (by decide +kernel)) (hts (.instantiable RX7 7) (by decide +kernel)) (hts (.initialized RX7) (by decide +kernel)) hK hP hD hS hA rfl (fun j hj => by rcases (show j = 0 ∨ j = 1 ∨ j = 2 ∨ j = 3 ∨ j = 4 ∨ j = 5 ∨ j = 6 by omega) with rfl | rfl | rfl | rfl | rfl | rfl | rfl <;> rfl) (Nat.le_of_ble_eq_true rfl) (Nat.le_of_ble_eq_true rfl) dX2_init_26 (fun q29 H hP hD hS => ?_)
  have hP : va_P (dC, dI) vwCl [(h0, .inr (2, [.ref q1, .int 0])), (q1, .inl (c1, 40, .inr (.inr (.inr (.inr f28))))), (q29, .inr (7, [.null, .int 0, .int 0, .int 0, .int 0, .int 0, .int 0]))] H := hP
  have hD : va_D (va_A [(h0, .inr (2, [.null, .int 0]))] s.heap.size) [(h0, .inr (2, [.ref q1, .int 0])), (q1, .inl (c1, 40, .inr (.inr (.inr (.inr f28))))), (q29, .inr (7, [.null, .int 0, .int 0, .int 0, .int 0, .int 0, .int 0]))] := hD
  refine W.widen (k := 20) (n := 173) (Nat.le_of_ble_eq_true rfl) (Nat.le_of_ble_eq_true rfl) ?_
  refine lv_dup hx hb dX2_init_29 rfl ?_
  have hFc := va_free (wc := [(q29, .inr (7, [.null, .int 0, .int 0, .int 0, .int 0, .int 0, .int 0]))]) hD hS hA [2] rfl
  refine va_callv (va_runIN (As := []) (rest := [.ref q29, .int 9, .ref q1]) ⟨hx, hb, hml, hown, hts⟩ (ci_Sale l dC dI H q29 (hP.sub (ws' := [(q29, .inr (7, [.null, .int 0, .int 0, .int 0, .int 0, .int 0, .int 0]))]) [2] rfl) ((hD.sub (ws' := [(q29, .inr (7, [.null, .int 0, .int 0, .int 0, .int 0, .int 0, .int 0]))]) [2] (by decide) rfl).weaken (fun _ _ _ _ => trivial))) ⟨va_cnB 0 hts gX2_init_X7_init_n17 rfl rfl rfl (hq.2.2.2.2.2.2.1) (hts (.initialized RX7) (by decide +kernel)) (by decide +kernel) ⟨Nat.le_of_ble_eq_true rfl, Nat.le_of_ble_eq_true rfl⟩, rfl, hts (.instanceMethod yX7_init) (by decide +kernel)⟩ ⟨kb_c, kb_m (hK.sub (tys' := []) [] rfl) hq⟩ rfl rfl hl.1 rfl (lv_room (Nat.le_of_ble_eq_true rfl)) dX2_init_30 ⟨Nat.le_of_ble_eq_true rfl, Nat.le_of_ble_eq_true rfl⟩) hS (fun q _ h => hFc q h) hFc (fun u t H_10 locs ht hvm hw hB hz1 hk1 hS => ?_)
  obtain ⟨q30, hP1, hK1, hD1⟩ := hB
  rw [ht] at hP1
  obtain ⟨hP, hD⟩ := va_join (wr := [(h0, .inr (2, [.ref q1, .int 0])), (q1, .inl (c1, 40, .inr (.inr (.inr (.inr f28)))))]) (w1 := [(q29, .inr (7, [.ref q30, .int 0, .int 0, .int 0, .int 0, .int 0, .int 0]))]) hP hD [2] [0, 1] rfl rfl (by decide) (by decide) hk1 hFc hP1 hD1
  have hK : va_K (dC, dI) vwCl [(c1, .object RX7)] s := hK.app (va_K.moved hvm.symm hK1)
  have hP : va_P (dC, dI) vwCl [(h0, .inr (2, [.ref q1, .int 0])), (q1, .inl (c1, 40, .inr (.inr (.inr (.inr f28))))), (q29, .inr (7, [.ref q30, .int 0, .int 0, .int 0, .int 0, .int 0, .int 0]))] H_10 := hP
  have hD : va_D (va_A [(h0, .inr (2, [.null, .int 0]))] s.heap.size) [(h0, .inr (2, [.ref q1, .int 0])), (q1, .inl (c1, 40, .inr (.inr (.inr (.inr f28))))), (q29, .inr (7, [.ref q30, .int 0, .int 0, .int 0, .int 0, .int 0, .int 0]))] := hD
  refine W.widen (k := 21) (n := 180) (Nat.le_of_ble_eq_true rfl) (Nat.le_of_ble_eq_true rfl) ?_
  refine va_astq (r := (RX7, TX7, 7)) hx hb hK hP hD hS 1 0 2 7 rfl rfl rfl rfl (show vp_in 9 40 by unfold vp_in; decide) dX2_init_33 (fun H locs hP hD hS => ?_)
  have hP : va_P (dC, dI) vwCl [(h0, .inr (2, [.ref q1, .int 0])), (q1, .inl (c1, 40, .inr (.inr (.inr (.inr (va_up f28 9 (some q29))))))), (q29, .inr (7, [.ref q30, .int 0, .int 0, .int 0, .int 0, .int 0, .int 0]))] H := hP
  have hD : va_D (va_A [(h0, .inr (2, [.null, .int 0]))] s.heap.size) [(h0, .inr (2, [.ref q1, .int 0])), (q1, .inl (c1, 40, .inr (.inr (.inr (.inr (va_up f28 9 (some q29))))))), (q29, .inr (7, [.ref q30, .int 0, .int 0, .int 0, .int 0, .int 0, .int 0]))] := hD
  generalize (va_up f28 9 (some q29)) = f31 at hP hD
  have hP := hP.sub (ws' := [(h0, .inr (2, [.ref q1, .int 0])), (q1, .inl (c1, 40, .inr (.inr (.inr (.inr f31)))))]) [0, 1] rfl
  have hD := hD.sub (ws' := [(h0, .inr (2, [.ref q1, .int 0])), (q1, .inl (c1, 40, .inr (.inr (.inr (.inr f31)))))]) [0, 1] (by decide) rfl
  refine lv_iinc (v := 10) (lv' := [(1, .int 10), (0, .ref h0)]) hx hb dX2_init_34 hl (k := 0) rfl (by decide) (by decide) rfl (fun ls hl => ?_)
  refine lv_goto (tgt := 15) hx hb dX2_init_37 (by decide) ?_
  refine lv_iload_n hx hb dX2_init_15 rfl (lv_at hl 0 rfl) ?_
  refine lv_bipush (v := 40) hx hb dX2_init_16 (by decide) ?_
  refine lv_icmp_ge (tgt := 40) hx hb dX2_init_18 (by decide) (fun c => absurd c (by decide)) (fun _ => ?_)
  refine lv_aload_n hx hb dX2_init_21 rfl (lv_at hl 1 rfl) ?_
  refine va_get (D := (dC, dI)) (ci := 2) (v := .ref q1) (C := RX2) (T := TX2) (N := 2) hx hb hts (by decide +kernel) hown hK hP 0 rfl rfl 0 (by decide) (hts (.fieldLink RX2 11 "DearLetters$Ledger" "sales" "[LDearLetters$Sale;") (by decide +kernel)) (fun _ h9 => h9) rfl dX2_init_22 ?_
  refine lv_iload_n hx hb dX2_init_25 rfl (lv_at hl 0 rfl) ?_
  refine va_new (ci := 7) (fs := [.null, .int 0, .int 0, .int 0, .int 0, .int 0, .int 0]) (C := RX7) (T := TX7) (N := 7) hx hb hts (by decide +kernel) tyX7 tyX7_ok hown (hts (.classLink RX2 9 RX7) (by decide +kernel)) (hts (.instantiable RX7 7) (by decide +kernel)) (hts (.initialized RX7) (by decide +kernel)) hK hP hD hS hA rfl (fun j hj => by rcases (show j = 0 ∨ j = 1 ∨ j = 2 ∨ j = 3 ∨ j = 4 ∨ j = 5 ∨ j = 6 by omega) with rfl | rfl | rfl | rfl | rfl | rfl | rfl <;> rfl) (Nat.le_of_ble_eq_true rfl) (Nat.le_of_ble_eq_true rfl) dX2_init_26 (fun q32 H hP hD hS => ?_)
  have hP : va_P (dC, dI) vwCl [(h0, .inr (2, [.ref q1, .int 0])), (q1, .inl (c1, 40, .inr (.inr (.inr (.inr f31))))), (q32, .inr (7, [.null, .int 0, .int 0, .int 0, .int 0, .int 0, .int 0]))] H := hP
  have hD : va_D (va_A [(h0, .inr (2, [.null, .int 0]))] s.heap.size) [(h0, .inr (2, [.ref q1, .int 0])), (q1, .inl (c1, 40, .inr (.inr (.inr (.inr f31))))), (q32, .inr (7, [.null, .int 0, .int 0, .int 0, .int 0, .int 0, .int 0]))] := hD
  refine W.widen (k := 22) (n := 187) (Nat.le_of_ble_eq_true rfl) (Nat.le_of_ble_eq_true rfl) ?_
  refine lv_dup hx hb dX2_init_29 rfl ?_
  have hFc := va_free (wc := [(q32, .inr (7, [.null, .int 0, .int 0, .int 0, .int 0, .int 0, .int 0]))]) hD hS hA [2] rfl
  refine va_callv (va_runIN (As := []) (rest := [.ref q32, .int 10, .ref q1]) ⟨hx, hb, hml, hown, hts⟩ (ci_Sale l dC dI H q32 (hP.sub (ws' := [(q32, .inr (7, [.null, .int 0, .int 0, .int 0, .int 0, .int 0, .int 0]))]) [2] rfl) ((hD.sub (ws' := [(q32, .inr (7, [.null, .int 0, .int 0, .int 0, .int 0, .int 0, .int 0]))]) [2] (by decide) rfl).weaken (fun _ _ _ _ => trivial))) ⟨va_cnB 0 hts gX2_init_X7_init_n17 rfl rfl rfl (hq.2.2.2.2.2.2.1) (hts (.initialized RX7) (by decide +kernel)) (by decide +kernel) ⟨Nat.le_of_ble_eq_true rfl, Nat.le_of_ble_eq_true rfl⟩, rfl, hts (.instanceMethod yX7_init) (by decide +kernel)⟩ ⟨kb_c, kb_m (hK.sub (tys' := []) [] rfl) hq⟩ rfl rfl hl.1 rfl (lv_room (Nat.le_of_ble_eq_true rfl)) dX2_init_30 ⟨Nat.le_of_ble_eq_true rfl, Nat.le_of_ble_eq_true rfl⟩) hS (fun q _ h => hFc q h) hFc (fun u t H_11 locs ht hvm hw hB hz1 hk1 hS => ?_)
  obtain ⟨q33, hP1, hK1, hD1⟩ := hB
  rw [ht] at hP1
  obtain ⟨hP, hD⟩ := va_join (wr := [(h0, .inr (2, [.ref q1, .int 0])), (q1, .inl (c1, 40, .inr (.inr (.inr (.inr f31)))))]) (w1 := [(q32, .inr (7, [.ref q33, .int 0, .int 0, .int 0, .int 0, .int 0, .int 0]))]) hP hD [2] [0, 1] rfl rfl (by decide) (by decide) hk1 hFc hP1 hD1
  have hK : va_K (dC, dI) vwCl [(c1, .object RX7)] s := hK.app (va_K.moved hvm.symm hK1)
  have hP : va_P (dC, dI) vwCl [(h0, .inr (2, [.ref q1, .int 0])), (q1, .inl (c1, 40, .inr (.inr (.inr (.inr f31))))), (q32, .inr (7, [.ref q33, .int 0, .int 0, .int 0, .int 0, .int 0, .int 0]))] H_11 := hP
  have hD : va_D (va_A [(h0, .inr (2, [.null, .int 0]))] s.heap.size) [(h0, .inr (2, [.ref q1, .int 0])), (q1, .inl (c1, 40, .inr (.inr (.inr (.inr f31))))), (q32, .inr (7, [.ref q33, .int 0, .int 0, .int 0, .int 0, .int 0, .int 0]))] := hD
  refine W.widen (k := 23) (n := 194) (Nat.le_of_ble_eq_true rfl) (Nat.le_of_ble_eq_true rfl) ?_
  refine va_astq (r := (RX7, TX7, 7)) hx hb hK hP hD hS 1 0 2 7 rfl rfl rfl rfl (show vp_in 10 40 by unfold vp_in; decide) dX2_init_33 (fun H locs hP hD hS => ?_)
  have hP : va_P (dC, dI) vwCl [(h0, .inr (2, [.ref q1, .int 0])), (q1, .inl (c1, 40, .inr (.inr (.inr (.inr (va_up f31 10 (some q32))))))), (q32, .inr (7, [.ref q33, .int 0, .int 0, .int 0, .int 0, .int 0, .int 0]))] H := hP
  have hD : va_D (va_A [(h0, .inr (2, [.null, .int 0]))] s.heap.size) [(h0, .inr (2, [.ref q1, .int 0])), (q1, .inl (c1, 40, .inr (.inr (.inr (.inr (va_up f31 10 (some q32))))))), (q32, .inr (7, [.ref q33, .int 0, .int 0, .int 0, .int 0, .int 0, .int 0]))] := hD
  generalize (va_up f31 10 (some q32)) = f34 at hP hD
  have hP := hP.sub (ws' := [(h0, .inr (2, [.ref q1, .int 0])), (q1, .inl (c1, 40, .inr (.inr (.inr (.inr f34)))))]) [0, 1] rfl
  have hD := hD.sub (ws' := [(h0, .inr (2, [.ref q1, .int 0])), (q1, .inl (c1, 40, .inr (.inr (.inr (.inr f34)))))]) [0, 1] (by decide) rfl
  refine lv_iinc (v := 11) (lv' := [(1, .int 11), (0, .ref h0)]) hx hb dX2_init_34 hl (k := 0) rfl (by decide) (by decide) rfl (fun ls hl => ?_)
  refine lv_goto (tgt := 15) hx hb dX2_init_37 (by decide) ?_
  refine lv_iload_n hx hb dX2_init_15 rfl (lv_at hl 0 rfl) ?_
  refine lv_bipush (v := 40) hx hb dX2_init_16 (by decide) ?_
  refine lv_icmp_ge (tgt := 40) hx hb dX2_init_18 (by decide) (fun c => absurd c (by decide)) (fun _ => ?_)
  refine lv_aload_n hx hb dX2_init_21 rfl (lv_at hl 1 rfl) ?_
  refine va_get (D := (dC, dI)) (ci := 2) (v := .ref q1) (C := RX2) (T := TX2) (N := 2) hx hb hts (by decide +kernel) hown hK hP 0 rfl rfl 0 (by decide) (hts (.fieldLink RX2 11 "DearLetters$Ledger" "sales" "[LDearLetters$Sale;") (by decide +kernel)) (fun _ h9 => h9) rfl dX2_init_22 ?_
  refine lv_iload_n hx hb dX2_init_25 rfl (lv_at hl 0 rfl) ?_
  refine va_new (ci := 7) (fs := [.null, .int 0, .int 0, .int 0, .int 0, .int 0, .int 0]) (C := RX7) (T := TX7) (N := 7) hx hb hts (by decide +kernel) tyX7 tyX7_ok hown (hts (.classLink RX2 9 RX7) (by decide +kernel)) (hts (.instantiable RX7 7) (by decide +kernel)) (hts (.initialized RX7) (by decide +kernel)) hK hP hD hS hA rfl (fun j hj => by rcases (show j = 0 ∨ j = 1 ∨ j = 2 ∨ j = 3 ∨ j = 4 ∨ j = 5 ∨ j = 6 by omega) with rfl | rfl | rfl | rfl | rfl | rfl | rfl <;> rfl) (Nat.le_of_ble_eq_true rfl) (Nat.le_of_ble_eq_true rfl) dX2_init_26 (fun q35 H hP hD hS => ?_)
  have hP : va_P (dC, dI) vwCl [(h0, .inr (2, [.ref q1, .int 0])), (q1, .inl (c1, 40, .inr (.inr (.inr (.inr f34))))), (q35, .inr (7, [.null, .int 0, .int 0, .int 0, .int 0, .int 0, .int 0]))] H := hP
  have hD : va_D (va_A [(h0, .inr (2, [.null, .int 0]))] s.heap.size) [(h0, .inr (2, [.ref q1, .int 0])), (q1, .inl (c1, 40, .inr (.inr (.inr (.inr f34))))), (q35, .inr (7, [.null, .int 0, .int 0, .int 0, .int 0, .int 0, .int 0]))] := hD
  refine W.widen (k := 24) (n := 201) (Nat.le_of_ble_eq_true rfl) (Nat.le_of_ble_eq_true rfl) ?_
  refine lv_dup hx hb dX2_init_29 rfl ?_
  have hFc := va_free (wc := [(q35, .inr (7, [.null, .int 0, .int 0, .int 0, .int 0, .int 0, .int 0]))]) hD hS hA [2] rfl
  refine va_callv (va_runIN (As := []) (rest := [.ref q35, .int 11, .ref q1]) ⟨hx, hb, hml, hown, hts⟩ (ci_Sale l dC dI H q35 (hP.sub (ws' := [(q35, .inr (7, [.null, .int 0, .int 0, .int 0, .int 0, .int 0, .int 0]))]) [2] rfl) ((hD.sub (ws' := [(q35, .inr (7, [.null, .int 0, .int 0, .int 0, .int 0, .int 0, .int 0]))]) [2] (by decide) rfl).weaken (fun _ _ _ _ => trivial))) ⟨va_cnB 0 hts gX2_init_X7_init_n17 rfl rfl rfl (hq.2.2.2.2.2.2.1) (hts (.initialized RX7) (by decide +kernel)) (by decide +kernel) ⟨Nat.le_of_ble_eq_true rfl, Nat.le_of_ble_eq_true rfl⟩, rfl, hts (.instanceMethod yX7_init) (by decide +kernel)⟩ ⟨kb_c, kb_m (hK.sub (tys' := []) [] rfl) hq⟩ rfl rfl hl.1 rfl (lv_room (Nat.le_of_ble_eq_true rfl)) dX2_init_30 ⟨Nat.le_of_ble_eq_true rfl, Nat.le_of_ble_eq_true rfl⟩) hS (fun q _ h => hFc q h) hFc (fun u t H_12 locs ht hvm hw hB hz1 hk1 hS => ?_)
  obtain ⟨q36, hP1, hK1, hD1⟩ := hB
  rw [ht] at hP1
  obtain ⟨hP, hD⟩ := va_join (wr := [(h0, .inr (2, [.ref q1, .int 0])), (q1, .inl (c1, 40, .inr (.inr (.inr (.inr f34)))))]) (w1 := [(q35, .inr (7, [.ref q36, .int 0, .int 0, .int 0, .int 0, .int 0, .int 0]))]) hP hD [2] [0, 1] rfl rfl (by decide) (by decide) hk1 hFc hP1 hD1
  have hK : va_K (dC, dI) vwCl [(c1, .object RX7)] s := hK.app (va_K.moved hvm.symm hK1)
  have hP : va_P (dC, dI) vwCl [(h0, .inr (2, [.ref q1, .int 0])), (q1, .inl (c1, 40, .inr (.inr (.inr (.inr f34))))), (q35, .inr (7, [.ref q36, .int 0, .int 0, .int 0, .int 0, .int 0, .int 0]))] H_12 := hP
  have hD : va_D (va_A [(h0, .inr (2, [.null, .int 0]))] s.heap.size) [(h0, .inr (2, [.ref q1, .int 0])), (q1, .inl (c1, 40, .inr (.inr (.inr (.inr f34))))), (q35, .inr (7, [.ref q36, .int 0, .int 0, .int 0, .int 0, .int 0, .int 0]))] := hD
  refine W.widen (k := 25) (n := 208) (Nat.le_of_ble_eq_true rfl) (Nat.le_of_ble_eq_true rfl) ?_
  refine va_astq (r := (RX7, TX7, 7)) hx hb hK hP hD hS 1 0 2 7 rfl rfl rfl rfl (show vp_in 11 40 by unfold vp_in; decide) dX2_init_33 (fun H locs hP hD hS => ?_)
  have hP : va_P (dC, dI) vwCl [(h0, .inr (2, [.ref q1, .int 0])), (q1, .inl (c1, 40, .inr (.inr (.inr (.inr (va_up f34 11 (some q35))))))), (q35, .inr (7, [.ref q36, .int 0, .int 0, .int 0, .int 0, .int 0, .int 0]))] H := hP
  have hD : va_D (va_A [(h0, .inr (2, [.null, .int 0]))] s.heap.size) [(h0, .inr (2, [.ref q1, .int 0])), (q1, .inl (c1, 40, .inr (.inr (.inr (.inr (va_up f34 11 (some q35))))))), (q35, .inr (7, [.ref q36, .int 0, .int 0, .int 0, .int 0, .int 0, .int 0]))] := hD
  generalize (va_up f34 11 (some q35)) = f37 at hP hD
  have hP := hP.sub (ws' := [(h0, .inr (2, [.ref q1, .int 0])), (q1, .inl (c1, 40, .inr (.inr (.inr (.inr f37)))))]) [0, 1] rfl
  have hD := hD.sub (ws' := [(h0, .inr (2, [.ref q1, .int 0])), (q1, .inl (c1, 40, .inr (.inr (.inr (.inr f37)))))]) [0, 1] (by decide) rfl
  refine lv_iinc (v := 12) (lv' := [(1, .int 12), (0, .ref h0)]) hx hb dX2_init_34 hl (k := 0) rfl (by decide) (by decide) rfl (fun ls hl => ?_)
  refine lv_goto (tgt := 15) hx hb dX2_init_37 (by decide) ?_
  refine lv_iload_n hx hb dX2_init_15 rfl (lv_at hl 0 rfl) ?_
  refine lv_bipush (v := 40) hx hb dX2_init_16 (by decide) ?_
  refine lv_icmp_ge (tgt := 40) hx hb dX2_init_18 (by decide) (fun c => absurd c (by decide)) (fun _ => ?_)
  refine lv_aload_n hx hb dX2_init_21 rfl (lv_at hl 1 rfl) ?_
  refine va_get (D := (dC, dI)) (ci := 2) (v := .ref q1) (C := RX2) (T := TX2) (N := 2) hx hb hts (by decide +kernel) hown hK hP 0 rfl rfl 0 (by decide) (hts (.fieldLink RX2 11 "DearLetters$Ledger" "sales" "[LDearLetters$Sale;") (by decide +kernel)) (fun _ h9 => h9) rfl dX2_init_22 ?_
  refine lv_iload_n hx hb dX2_init_25 rfl (lv_at hl 0 rfl) ?_
  refine va_new (ci := 7) (fs := [.null, .int 0, .int 0, .int 0, .int 0, .int 0, .int 0]) (C := RX7) (T := TX7) (N := 7) hx hb hts (by decide +kernel) tyX7 tyX7_ok hown (hts (.classLink RX2 9 RX7) (by decide +kernel)) (hts (.instantiable RX7 7) (by decide +kernel)) (hts (.initialized RX7) (by decide +kernel)) hK hP hD hS hA rfl (fun j hj => by rcases (show j = 0 ∨ j = 1 ∨ j = 2 ∨ j = 3 ∨ j = 4 ∨ j = 5 ∨ j = 6 by omega) with rfl | rfl | rfl | rfl | rfl | rfl | rfl <;> rfl) (Nat.le_of_ble_eq_true rfl) (Nat.le_of_ble_eq_true rfl) dX2_init_26 (fun q38 H hP hD hS => ?_)
  have hP : va_P (dC, dI) vwCl [(h0, .inr (2, [.ref q1, .int 0])), (q1, .inl (c1, 40, .inr (.inr (.inr (.inr f37))))), (q38, .inr (7, [.null, .int 0, .int 0, .int 0, .int 0, .int 0, .int 0]))] H := hP
  have hD : va_D (va_A [(h0, .inr (2, [.null, .int 0]))] s.heap.size) [(h0, .inr (2, [.ref q1, .int 0])), (q1, .inl (c1, 40, .inr (.inr (.inr (.inr f37))))), (q38, .inr (7, [.null, .int 0, .int 0, .int 0, .int 0, .int 0, .int 0]))] := hD
  refine W.widen (k := 26) (n := 215) (Nat.le_of_ble_eq_true rfl) (Nat.le_of_ble_eq_true rfl) ?_
  refine lv_dup hx hb dX2_init_29 rfl ?_
  have hFc := va_free (wc := [(q38, .inr (7, [.null, .int 0, .int 0, .int 0, .int 0, .int 0, .int 0]))]) hD hS hA [2] rfl
  refine va_callv (va_runIN (As := []) (rest := [.ref q38, .int 12, .ref q1]) ⟨hx, hb, hml, hown, hts⟩ (ci_Sale l dC dI H q38 (hP.sub (ws' := [(q38, .inr (7, [.null, .int 0, .int 0, .int 0, .int 0, .int 0, .int 0]))]) [2] rfl) ((hD.sub (ws' := [(q38, .inr (7, [.null, .int 0, .int 0, .int 0, .int 0, .int 0, .int 0]))]) [2] (by decide) rfl).weaken (fun _ _ _ _ => trivial))) ⟨va_cnB 0 hts gX2_init_X7_init_n17 rfl rfl rfl (hq.2.2.2.2.2.2.1) (hts (.initialized RX7) (by decide +kernel)) (by decide +kernel) ⟨Nat.le_of_ble_eq_true rfl, Nat.le_of_ble_eq_true rfl⟩, rfl, hts (.instanceMethod yX7_init) (by decide +kernel)⟩ ⟨kb_c, kb_m (hK.sub (tys' := []) [] rfl) hq⟩ rfl rfl hl.1 rfl (lv_room (Nat.le_of_ble_eq_true rfl)) dX2_init_30 ⟨Nat.le_of_ble_eq_true rfl, Nat.le_of_ble_eq_true rfl⟩) hS (fun q _ h => hFc q h) hFc (fun u t H_13 locs ht hvm hw hB hz1 hk1 hS => ?_)
  obtain ⟨q39, hP1, hK1, hD1⟩ := hB
  rw [ht] at hP1
  obtain ⟨hP, hD⟩ := va_join (wr := [(h0, .inr (2, [.ref q1, .int 0])), (q1, .inl (c1, 40, .inr (.inr (.inr (.inr f37)))))]) (w1 := [(q38, .inr (7, [.ref q39, .int 0, .int 0, .int 0, .int 0, .int 0, .int 0]))]) hP hD [2] [0, 1] rfl rfl (by decide) (by decide) hk1 hFc hP1 hD1
  have hK : va_K (dC, dI) vwCl [(c1, .object RX7)] s := hK.app (va_K.moved hvm.symm hK1)
  have hP : va_P (dC, dI) vwCl [(h0, .inr (2, [.ref q1, .int 0])), (q1, .inl (c1, 40, .inr (.inr (.inr (.inr f37))))), (q38, .inr (7, [.ref q39, .int 0, .int 0, .int 0, .int 0, .int 0, .int 0]))] H_13 := hP
  have hD : va_D (va_A [(h0, .inr (2, [.null, .int 0]))] s.heap.size) [(h0, .inr (2, [.ref q1, .int 0])), (q1, .inl (c1, 40, .inr (.inr (.inr (.inr f37))))), (q38, .inr (7, [.ref q39, .int 0, .int 0, .int 0, .int 0, .int 0, .int 0]))] := hD
  refine W.widen (k := 27) (n := 222) (Nat.le_of_ble_eq_true rfl) (Nat.le_of_ble_eq_true rfl) ?_
  refine va_astq (r := (RX7, TX7, 7)) hx hb hK hP hD hS 1 0 2 7 rfl rfl rfl rfl (show vp_in 12 40 by unfold vp_in; decide) dX2_init_33 (fun H locs hP hD hS => ?_)
  have hP : va_P (dC, dI) vwCl [(h0, .inr (2, [.ref q1, .int 0])), (q1, .inl (c1, 40, .inr (.inr (.inr (.inr (va_up f37 12 (some q38))))))), (q38, .inr (7, [.ref q39, .int 0, .int 0, .int 0, .int 0, .int 0, .int 0]))] H := hP
  have hD : va_D (va_A [(h0, .inr (2, [.null, .int 0]))] s.heap.size) [(h0, .inr (2, [.ref q1, .int 0])), (q1, .inl (c1, 40, .inr (.inr (.inr (.inr (va_up f37 12 (some q38))))))), (q38, .inr (7, [.ref q39, .int 0, .int 0, .int 0, .int 0, .int 0, .int 0]))] := hD
  generalize (va_up f37 12 (some q38)) = f40 at hP hD
  have hP := hP.sub (ws' := [(h0, .inr (2, [.ref q1, .int 0])), (q1, .inl (c1, 40, .inr (.inr (.inr (.inr f40)))))]) [0, 1] rfl
  have hD := hD.sub (ws' := [(h0, .inr (2, [.ref q1, .int 0])), (q1, .inl (c1, 40, .inr (.inr (.inr (.inr f40)))))]) [0, 1] (by decide) rfl
  refine lv_iinc (v := 13) (lv' := [(1, .int 13), (0, .ref h0)]) hx hb dX2_init_34 hl (k := 0) rfl (by decide) (by decide) rfl (fun ls hl => ?_)
  refine lv_goto (tgt := 15) hx hb dX2_init_37 (by decide) ?_
  refine lv_iload_n hx hb dX2_init_15 rfl (lv_at hl 0 rfl) ?_
  refine lv_bipush (v := 40) hx hb dX2_init_16 (by decide) ?_
  refine lv_icmp_ge (tgt := 40) hx hb dX2_init_18 (by decide) (fun c => absurd c (by decide)) (fun _ => ?_)
  refine lv_aload_n hx hb dX2_init_21 rfl (lv_at hl 1 rfl) ?_
  refine va_get (D := (dC, dI)) (ci := 2) (v := .ref q1) (C := RX2) (T := TX2) (N := 2) hx hb hts (by decide +kernel) hown hK hP 0 rfl rfl 0 (by decide) (hts (.fieldLink RX2 11 "DearLetters$Ledger" "sales" "[LDearLetters$Sale;") (by decide +kernel)) (fun _ h9 => h9) rfl dX2_init_22 ?_
  refine lv_iload_n hx hb dX2_init_25 rfl (lv_at hl 0 rfl) ?_
  refine va_new (ci := 7) (fs := [.null, .int 0, .int 0, .int 0, .int 0, .int 0, .int 0]) (C := RX7) (T := TX7) (N := 7) hx hb hts (by decide +kernel) tyX7 tyX7_ok hown (hts (.classLink RX2 9 RX7) (by decide +kernel)) (hts (.instantiable RX7 7) (by decide +kernel)) (hts (.initialized RX7) (by decide +kernel)) hK hP hD hS hA rfl (fun j hj => by rcases (show j = 0 ∨ j = 1 ∨ j = 2 ∨ j = 3 ∨ j = 4 ∨ j = 5 ∨ j = 6 by omega) with rfl | rfl | rfl | rfl | rfl | rfl | rfl <;> rfl) (Nat.le_of_ble_eq_true rfl) (Nat.le_of_ble_eq_true rfl) dX2_init_26 (fun q41 H hP hD hS => ?_)
  have hP : va_P (dC, dI) vwCl [(h0, .inr (2, [.ref q1, .int 0])), (q1, .inl (c1, 40, .inr (.inr (.inr (.inr f40))))), (q41, .inr (7, [.null, .int 0, .int 0, .int 0, .int 0, .int 0, .int 0]))] H := hP
  have hD : va_D (va_A [(h0, .inr (2, [.null, .int 0]))] s.heap.size) [(h0, .inr (2, [.ref q1, .int 0])), (q1, .inl (c1, 40, .inr (.inr (.inr (.inr f40))))), (q41, .inr (7, [.null, .int 0, .int 0, .int 0, .int 0, .int 0, .int 0]))] := hD
  refine W.widen (k := 28) (n := 229) (Nat.le_of_ble_eq_true rfl) (Nat.le_of_ble_eq_true rfl) ?_
  refine lv_dup hx hb dX2_init_29 rfl ?_
  have hFc := va_free (wc := [(q41, .inr (7, [.null, .int 0, .int 0, .int 0, .int 0, .int 0, .int 0]))]) hD hS hA [2] rfl
  refine va_callv (va_runIN (As := []) (rest := [.ref q41, .int 13, .ref q1]) ⟨hx, hb, hml, hown, hts⟩ (ci_Sale l dC dI H q41 (hP.sub (ws' := [(q41, .inr (7, [.null, .int 0, .int 0, .int 0, .int 0, .int 0, .int 0]))]) [2] rfl) ((hD.sub (ws' := [(q41, .inr (7, [.null, .int 0, .int 0, .int 0, .int 0, .int 0, .int 0]))]) [2] (by decide) rfl).weaken (fun _ _ _ _ => trivial))) ⟨va_cnB 0 hts gX2_init_X7_init_n17 rfl rfl rfl (hq.2.2.2.2.2.2.1) (hts (.initialized RX7) (by decide +kernel)) (by decide +kernel) ⟨Nat.le_of_ble_eq_true rfl, Nat.le_of_ble_eq_true rfl⟩, rfl, hts (.instanceMethod yX7_init) (by decide +kernel)⟩ ⟨kb_c, kb_m (hK.sub (tys' := []) [] rfl) hq⟩ rfl rfl hl.1 rfl (lv_room (Nat.le_of_ble_eq_true rfl)) dX2_init_30 ⟨Nat.le_of_ble_eq_true rfl, Nat.le_of_ble_eq_true rfl⟩) hS (fun q _ h => hFc q h) hFc (fun u t H_14 locs ht hvm hw hB hz1 hk1 hS => ?_)
  obtain ⟨q42, hP1, hK1, hD1⟩ := hB
  rw [ht] at hP1
  obtain ⟨hP, hD⟩ := va_join (wr := [(h0, .inr (2, [.ref q1, .int 0])), (q1, .inl (c1, 40, .inr (.inr (.inr (.inr f40)))))]) (w1 := [(q41, .inr (7, [.ref q42, .int 0, .int 0, .int 0, .int 0, .int 0, .int 0]))]) hP hD [2] [0, 1] rfl rfl (by decide) (by decide) hk1 hFc hP1 hD1
  have hK : va_K (dC, dI) vwCl [(c1, .object RX7)] s := hK.app (va_K.moved hvm.symm hK1)
  have hP : va_P (dC, dI) vwCl [(h0, .inr (2, [.ref q1, .int 0])), (q1, .inl (c1, 40, .inr (.inr (.inr (.inr f40))))), (q41, .inr (7, [.ref q42, .int 0, .int 0, .int 0, .int 0, .int 0, .int 0]))] H_14 := hP
  have hD : va_D (va_A [(h0, .inr (2, [.null, .int 0]))] s.heap.size) [(h0, .inr (2, [.ref q1, .int 0])), (q1, .inl (c1, 40, .inr (.inr (.inr (.inr f40))))), (q41, .inr (7, [.ref q42, .int 0, .int 0, .int 0, .int 0, .int 0, .int 0]))] := hD
  refine W.widen (k := 29) (n := 236) (Nat.le_of_ble_eq_true rfl) (Nat.le_of_ble_eq_true rfl) ?_
  refine va_astq (r := (RX7, TX7, 7)) hx hb hK hP hD hS 1 0 2 7 rfl rfl rfl rfl (show vp_in 13 40 by unfold vp_in; decide) dX2_init_33 (fun H locs hP hD hS => ?_)
  have hP : va_P (dC, dI) vwCl [(h0, .inr (2, [.ref q1, .int 0])), (q1, .inl (c1, 40, .inr (.inr (.inr (.inr (va_up f40 13 (some q41))))))), (q41, .inr (7, [.ref q42, .int 0, .int 0, .int 0, .int 0, .int 0, .int 0]))] H := hP
  have hD : va_D (va_A [(h0, .inr (2, [.null, .int 0]))] s.heap.size) [(h0, .inr (2, [.ref q1, .int 0])), (q1, .inl (c1, 40, .inr (.inr (.inr (.inr (va_up f40 13 (some q41))))))), (q41, .inr (7, [.ref q42, .int 0, .int 0, .int 0, .int 0, .int 0, .int 0]))] := hD
  generalize (va_up f40 13 (some q41)) = f43 at hP hD
  have hP := hP.sub (ws' := [(h0, .inr (2, [.ref q1, .int 0])), (q1, .inl (c1, 40, .inr (.inr (.inr (.inr f43)))))]) [0, 1] rfl
  have hD := hD.sub (ws' := [(h0, .inr (2, [.ref q1, .int 0])), (q1, .inl (c1, 40, .inr (.inr (.inr (.inr f43)))))]) [0, 1] (by decide) rfl
  refine lv_iinc (v := 14) (lv' := [(1, .int 14), (0, .ref h0)]) hx hb dX2_init_34 hl (k := 0) rfl (by decide) (by decide) rfl (fun ls hl => ?_)
  refine lv_goto (tgt := 15) hx hb dX2_init_37 (by decide) ?_
  refine lv_iload_n hx hb dX2_init_15 rfl (lv_at hl 0 rfl) ?_
  refine lv_bipush (v := 40) hx hb dX2_init_16 (by decide) ?_
  refine lv_icmp_ge (tgt := 40) hx hb dX2_init_18 (by decide) (fun c => absurd c (by decide)) (fun _ => ?_)
  refine lv_aload_n hx hb dX2_init_21 rfl (lv_at hl 1 rfl) ?_
  refine va_get (D := (dC, dI)) (ci := 2) (v := .ref q1) (C := RX2) (T := TX2) (N := 2) hx hb hts (by decide +kernel) hown hK hP 0 rfl rfl 0 (by decide) (hts (.fieldLink RX2 11 "DearLetters$Ledger" "sales" "[LDearLetters$Sale;") (by decide +kernel)) (fun _ h9 => h9) rfl dX2_init_22 ?_
  refine lv_iload_n hx hb dX2_init_25 rfl (lv_at hl 0 rfl) ?_
  refine va_new (ci := 7) (fs := [.null, .int 0, .int 0, .int 0, .int 0, .int 0, .int 0]) (C := RX7) (T := TX7) (N := 7) hx hb hts (by decide +kernel) tyX7 tyX7_ok hown (hts (.classLink RX2 9 RX7) (by decide +kernel)) (hts (.instantiable RX7 7) (by decide +kernel)) (hts (.initialized RX7) (by decide +kernel)) hK hP hD hS hA rfl (fun j hj => by rcases (show j = 0 ∨ j = 1 ∨ j = 2 ∨ j = 3 ∨ j = 4 ∨ j = 5 ∨ j = 6 by omega) with rfl | rfl | rfl | rfl | rfl | rfl | rfl <;> rfl) (Nat.le_of_ble_eq_true rfl) (Nat.le_of_ble_eq_true rfl) dX2_init_26 (fun q44 H hP hD hS => ?_)
  have hP : va_P (dC, dI) vwCl [(h0, .inr (2, [.ref q1, .int 0])), (q1, .inl (c1, 40, .inr (.inr (.inr (.inr f43))))), (q44, .inr (7, [.null, .int 0, .int 0, .int 0, .int 0, .int 0, .int 0]))] H := hP
  have hD : va_D (va_A [(h0, .inr (2, [.null, .int 0]))] s.heap.size) [(h0, .inr (2, [.ref q1, .int 0])), (q1, .inl (c1, 40, .inr (.inr (.inr (.inr f43))))), (q44, .inr (7, [.null, .int 0, .int 0, .int 0, .int 0, .int 0, .int 0]))] := hD
  refine W.widen (k := 30) (n := 243) (Nat.le_of_ble_eq_true rfl) (Nat.le_of_ble_eq_true rfl) ?_
  refine lv_dup hx hb dX2_init_29 rfl ?_
  have hFc := va_free (wc := [(q44, .inr (7, [.null, .int 0, .int 0, .int 0, .int 0, .int 0, .int 0]))]) hD hS hA [2] rfl
  refine va_callv (va_runIN (As := []) (rest := [.ref q44, .int 14, .ref q1]) ⟨hx, hb, hml, hown, hts⟩ (ci_Sale l dC dI H q44 (hP.sub (ws' := [(q44, .inr (7, [.null, .int 0, .int 0, .int 0, .int 0, .int 0, .int 0]))]) [2] rfl) ((hD.sub (ws' := [(q44, .inr (7, [.null, .int 0, .int 0, .int 0, .int 0, .int 0, .int 0]))]) [2] (by decide) rfl).weaken (fun _ _ _ _ => trivial))) ⟨va_cnB 0 hts gX2_init_X7_init_n17 rfl rfl rfl (hq.2.2.2.2.2.2.1) (hts (.initialized RX7) (by decide +kernel)) (by decide +kernel) ⟨Nat.le_of_ble_eq_true rfl, Nat.le_of_ble_eq_true rfl⟩, rfl, hts (.instanceMethod yX7_init) (by decide +kernel)⟩ ⟨kb_c, kb_m (hK.sub (tys' := []) [] rfl) hq⟩ rfl rfl hl.1 rfl (lv_room (Nat.le_of_ble_eq_true rfl)) dX2_init_30 ⟨Nat.le_of_ble_eq_true rfl, Nat.le_of_ble_eq_true rfl⟩) hS (fun q _ h => hFc q h) hFc (fun u t H_15 locs ht hvm hw hB hz1 hk1 hS => ?_)
  obtain ⟨q45, hP1, hK1, hD1⟩ := hB
  rw [ht] at hP1
  obtain ⟨hP, hD⟩ := va_join (wr := [(h0, .inr (2, [.ref q1, .int 0])), (q1, .inl (c1, 40, .inr (.inr (.inr (.inr f43)))))]) (w1 := [(q44, .inr (7, [.ref q45, .int 0, .int 0, .int 0, .int 0, .int 0, .int 0]))]) hP hD [2] [0, 1] rfl rfl (by decide) (by decide) hk1 hFc hP1 hD1
  have hK : va_K (dC, dI) vwCl [(c1, .object RX7)] s := hK.app (va_K.moved hvm.symm hK1)
  have hP : va_P (dC, dI) vwCl [(h0, .inr (2, [.ref q1, .int 0])), (q1, .inl (c1, 40, .inr (.inr (.inr (.inr f43))))), (q44, .inr (7, [.ref q45, .int 0, .int 0, .int 0, .int 0, .int 0, .int 0]))] H_15 := hP
  have hD : va_D (va_A [(h0, .inr (2, [.null, .int 0]))] s.heap.size) [(h0, .inr (2, [.ref q1, .int 0])), (q1, .inl (c1, 40, .inr (.inr (.inr (.inr f43))))), (q44, .inr (7, [.ref q45, .int 0, .int 0, .int 0, .int 0, .int 0, .int 0]))] := hD
  refine W.widen (k := 31) (n := 250) (Nat.le_of_ble_eq_true rfl) (Nat.le_of_ble_eq_true rfl) ?_
  refine va_astq (r := (RX7, TX7, 7)) hx hb hK hP hD hS 1 0 2 7 rfl rfl rfl rfl (show vp_in 14 40 by unfold vp_in; decide) dX2_init_33 (fun H locs hP hD hS => ?_)
  have hP : va_P (dC, dI) vwCl [(h0, .inr (2, [.ref q1, .int 0])), (q1, .inl (c1, 40, .inr (.inr (.inr (.inr (va_up f43 14 (some q44))))))), (q44, .inr (7, [.ref q45, .int 0, .int 0, .int 0, .int 0, .int 0, .int 0]))] H := hP
  have hD : va_D (va_A [(h0, .inr (2, [.null, .int 0]))] s.heap.size) [(h0, .inr (2, [.ref q1, .int 0])), (q1, .inl (c1, 40, .inr (.inr (.inr (.inr (va_up f43 14 (some q44))))))), (q44, .inr (7, [.ref q45, .int 0, .int 0, .int 0, .int 0, .int 0, .int 0]))] := hD
  generalize (va_up f43 14 (some q44)) = f46 at hP hD
  have hP := hP.sub (ws' := [(h0, .inr (2, [.ref q1, .int 0])), (q1, .inl (c1, 40, .inr (.inr (.inr (.inr f46)))))]) [0, 1] rfl
  have hD := hD.sub (ws' := [(h0, .inr (2, [.ref q1, .int 0])), (q1, .inl (c1, 40, .inr (.inr (.inr (.inr f46)))))]) [0, 1] (by decide) rfl
  refine lv_iinc (v := 15) (lv' := [(1, .int 15), (0, .ref h0)]) hx hb dX2_init_34 hl (k := 0) rfl (by decide) (by decide) rfl (fun ls hl => ?_)
  refine lv_goto (tgt := 15) hx hb dX2_init_37 (by decide) ?_
  refine lv_iload_n hx hb dX2_init_15 rfl (lv_at hl 0 rfl) ?_
  refine lv_bipush (v := 40) hx hb dX2_init_16 (by decide) ?_
  refine lv_icmp_ge (tgt := 40) hx hb dX2_init_18 (by decide) (fun c => absurd c (by decide)) (fun _ => ?_)
  refine lv_aload_n hx hb dX2_init_21 rfl (lv_at hl 1 rfl) ?_
  refine va_get (D := (dC, dI)) (ci := 2) (v := .ref q1) (C := RX2) (T := TX2) (N := 2) hx hb hts (by decide +kernel) hown hK hP 0 rfl rfl 0 (by decide) (hts (.fieldLink RX2 11 "DearLetters$Ledger" "sales" "[LDearLetters$Sale;") (by decide +kernel)) (fun _ h9 => h9) rfl dX2_init_22 ?_
  refine lv_iload_n hx hb dX2_init_25 rfl (lv_at hl 0 rfl) ?_
  refine va_new (ci := 7) (fs := [.null, .int 0, .int 0, .int 0, .int 0, .int 0, .int 0]) (C := RX7) (T := TX7) (N := 7) hx hb hts (by decide +kernel) tyX7 tyX7_ok hown (hts (.classLink RX2 9 RX7) (by decide +kernel)) (hts (.instantiable RX7 7) (by decide +kernel)) (hts (.initialized RX7) (by decide +kernel)) hK hP hD hS hA rfl (fun j hj => by rcases (show j = 0 ∨ j = 1 ∨ j = 2 ∨ j = 3 ∨ j = 4 ∨ j = 5 ∨ j = 6 by omega) with rfl | rfl | rfl | rfl | rfl | rfl | rfl <;> rfl) (Nat.le_of_ble_eq_true rfl) (Nat.le_of_ble_eq_true rfl) dX2_init_26 (fun q47 H hP hD hS => ?_)
  have hP : va_P (dC, dI) vwCl [(h0, .inr (2, [.ref q1, .int 0])), (q1, .inl (c1, 40, .inr (.inr (.inr (.inr f46))))), (q47, .inr (7, [.null, .int 0, .int 0, .int 0, .int 0, .int 0, .int 0]))] H := hP
  have hD : va_D (va_A [(h0, .inr (2, [.null, .int 0]))] s.heap.size) [(h0, .inr (2, [.ref q1, .int 0])), (q1, .inl (c1, 40, .inr (.inr (.inr (.inr f46))))), (q47, .inr (7, [.null, .int 0, .int 0, .int 0, .int 0, .int 0, .int 0]))] := hD
  refine W.widen (k := 32) (n := 257) (Nat.le_of_ble_eq_true rfl) (Nat.le_of_ble_eq_true rfl) ?_
  refine lv_dup hx hb dX2_init_29 rfl ?_
  have hFc := va_free (wc := [(q47, .inr (7, [.null, .int 0, .int 0, .int 0, .int 0, .int 0, .int 0]))]) hD hS hA [2] rfl
  refine va_callv (va_runIN (As := []) (rest := [.ref q47, .int 15, .ref q1]) ⟨hx, hb, hml, hown, hts⟩ (ci_Sale l dC dI H q47 (hP.sub (ws' := [(q47, .inr (7, [.null, .int 0, .int 0, .int 0, .int 0, .int 0, .int 0]))]) [2] rfl) ((hD.sub (ws' := [(q47, .inr (7, [.null, .int 0, .int 0, .int 0, .int 0, .int 0, .int 0]))]) [2] (by decide) rfl).weaken (fun _ _ _ _ => trivial))) ⟨va_cnB 0 hts gX2_init_X7_init_n17 rfl rfl rfl (hq.2.2.2.2.2.2.1) (hts (.initialized RX7) (by decide +kernel)) (by decide +kernel) ⟨Nat.le_of_ble_eq_true rfl, Nat.le_of_ble_eq_true rfl⟩, rfl, hts (.instanceMethod yX7_init) (by decide +kernel)⟩ ⟨kb_c, kb_m (hK.sub (tys' := []) [] rfl) hq⟩ rfl rfl hl.1 rfl (lv_room (Nat.le_of_ble_eq_true rfl)) dX2_init_30 ⟨Nat.le_of_ble_eq_true rfl, Nat.le_of_ble_eq_true rfl⟩) hS (fun q _ h => hFc q h) hFc (fun u t H_16 locs ht hvm hw hB hz1 hk1 hS => ?_)
  obtain ⟨q48, hP1, hK1, hD1⟩ := hB
  rw [ht] at hP1
  obtain ⟨hP, hD⟩ := va_join (wr := [(h0, .inr (2, [.ref q1, .int 0])), (q1, .inl (c1, 40, .inr (.inr (.inr (.inr f46)))))]) (w1 := [(q47, .inr (7, [.ref q48, .int 0, .int 0, .int 0, .int 0, .int 0, .int 0]))]) hP hD [2] [0, 1] rfl rfl (by decide) (by decide) hk1 hFc hP1 hD1
  have hK : va_K (dC, dI) vwCl [(c1, .object RX7)] s := hK.app (va_K.moved hvm.symm hK1)
  have hP : va_P (dC, dI) vwCl [(h0, .inr (2, [.ref q1, .int 0])), (q1, .inl (c1, 40, .inr (.inr (.inr (.inr f46))))), (q47, .inr (7, [.ref q48, .int 0, .int 0, .int 0, .int 0, .int 0, .int 0]))] H_16 := hP
  have hD : va_D (va_A [(h0, .inr (2, [.null, .int 0]))] s.heap.size) [(h0, .inr (2, [.ref q1, .int 0])), (q1, .inl (c1, 40, .inr (.inr (.inr (.inr f46))))), (q47, .inr (7, [.ref q48, .int 0, .int 0, .int 0, .int 0, .int 0, .int 0]))] := hD
  refine W.widen (k := 33) (n := 264) (Nat.le_of_ble_eq_true rfl) (Nat.le_of_ble_eq_true rfl) ?_
  refine va_astq (r := (RX7, TX7, 7)) hx hb hK hP hD hS 1 0 2 7 rfl rfl rfl rfl (show vp_in 15 40 by unfold vp_in; decide) dX2_init_33 (fun H locs hP hD hS => ?_)
  have hP : va_P (dC, dI) vwCl [(h0, .inr (2, [.ref q1, .int 0])), (q1, .inl (c1, 40, .inr (.inr (.inr (.inr (va_up f46 15 (some q47))))))), (q47, .inr (7, [.ref q48, .int 0, .int 0, .int 0, .int 0, .int 0, .int 0]))] H := hP
  have hD : va_D (va_A [(h0, .inr (2, [.null, .int 0]))] s.heap.size) [(h0, .inr (2, [.ref q1, .int 0])), (q1, .inl (c1, 40, .inr (.inr (.inr (.inr (va_up f46 15 (some q47))))))), (q47, .inr (7, [.ref q48, .int 0, .int 0, .int 0, .int 0, .int 0, .int 0]))] := hD
  generalize (va_up f46 15 (some q47)) = f49 at hP hD
  have hP := hP.sub (ws' := [(h0, .inr (2, [.ref q1, .int 0])), (q1, .inl (c1, 40, .inr (.inr (.inr (.inr f49)))))]) [0, 1] rfl
  have hD := hD.sub (ws' := [(h0, .inr (2, [.ref q1, .int 0])), (q1, .inl (c1, 40, .inr (.inr (.inr (.inr f49)))))]) [0, 1] (by decide) rfl
  refine lv_iinc (v := 16) (lv' := [(1, .int 16), (0, .ref h0)]) hx hb dX2_init_34 hl (k := 0) rfl (by decide) (by decide) rfl (fun ls hl => ?_)
  refine lv_goto (tgt := 15) hx hb dX2_init_37 (by decide) ?_
  refine lv_iload_n hx hb dX2_init_15 rfl (lv_at hl 0 rfl) ?_
  refine lv_bipush (v := 40) hx hb dX2_init_16 (by decide) ?_
  refine lv_icmp_ge (tgt := 40) hx hb dX2_init_18 (by decide) (fun c => absurd c (by decide)) (fun _ => ?_)
  refine lv_aload_n hx hb dX2_init_21 rfl (lv_at hl 1 rfl) ?_
  refine va_get (D := (dC, dI)) (ci := 2) (v := .ref q1) (C := RX2) (T := TX2) (N := 2) hx hb hts (by decide +kernel) hown hK hP 0 rfl rfl 0 (by decide) (hts (.fieldLink RX2 11 "DearLetters$Ledger" "sales" "[LDearLetters$Sale;") (by decide +kernel)) (fun _ h9 => h9) rfl dX2_init_22 ?_
  refine lv_iload_n hx hb dX2_init_25 rfl (lv_at hl 0 rfl) ?_
  refine va_new (ci := 7) (fs := [.null, .int 0, .int 0, .int 0, .int 0, .int 0, .int 0]) (C := RX7) (T := TX7) (N := 7) hx hb hts (by decide +kernel) tyX7 tyX7_ok hown (hts (.classLink RX2 9 RX7) (by decide +kernel)) (hts (.instantiable RX7 7) (by decide +kernel)) (hts (.initialized RX7) (by decide +kernel)) hK hP hD hS hA rfl (fun j hj => by rcases (show j = 0 ∨ j = 1 ∨ j = 2 ∨ j = 3 ∨ j = 4 ∨ j = 5 ∨ j = 6 by omega) with rfl | rfl | rfl | rfl | rfl | rfl | rfl <;> rfl) (Nat.le_of_ble_eq_true rfl) (Nat.le_of_ble_eq_true rfl) dX2_init_26 (fun q50 H hP hD hS => ?_)
  have hP : va_P (dC, dI) vwCl [(h0, .inr (2, [.ref q1, .int 0])), (q1, .inl (c1, 40, .inr (.inr (.inr (.inr f49))))), (q50, .inr (7, [.null, .int 0, .int 0, .int 0, .int 0, .int 0, .int 0]))] H := hP
  have hD : va_D (va_A [(h0, .inr (2, [.null, .int 0]))] s.heap.size) [(h0, .inr (2, [.ref q1, .int 0])), (q1, .inl (c1, 40, .inr (.inr (.inr (.inr f49))))), (q50, .inr (7, [.null, .int 0, .int 0, .int 0, .int 0, .int 0, .int 0]))] := hD
  refine W.widen (k := 34) (n := 271) (Nat.le_of_ble_eq_true rfl) (Nat.le_of_ble_eq_true rfl) ?_
  refine lv_dup hx hb dX2_init_29 rfl ?_
  have hFc := va_free (wc := [(q50, .inr (7, [.null, .int 0, .int 0, .int 0, .int 0, .int 0, .int 0]))]) hD hS hA [2] rfl
  refine va_callv (va_runIN (As := []) (rest := [.ref q50, .int 16, .ref q1]) ⟨hx, hb, hml, hown, hts⟩ (ci_Sale l dC dI H q50 (hP.sub (ws' := [(q50, .inr (7, [.null, .int 0, .int 0, .int 0, .int 0, .int 0, .int 0]))]) [2] rfl) ((hD.sub (ws' := [(q50, .inr (7, [.null, .int 0, .int 0, .int 0, .int 0, .int 0, .int 0]))]) [2] (by decide) rfl).weaken (fun _ _ _ _ => trivial))) ⟨va_cnB 0 hts gX2_init_X7_init_n17 rfl rfl rfl (hq.2.2.2.2.2.2.1) (hts (.initialized RX7) (by decide +kernel)) (by decide +kernel) ⟨Nat.le_of_ble_eq_true rfl, Nat.le_of_ble_eq_true rfl⟩, rfl, hts (.instanceMethod yX7_init) (by decide +kernel)⟩ ⟨kb_c, kb_m (hK.sub (tys' := []) [] rfl) hq⟩ rfl rfl hl.1 rfl (lv_room (Nat.le_of_ble_eq_true rfl)) dX2_init_30 ⟨Nat.le_of_ble_eq_true rfl, Nat.le_of_ble_eq_true rfl⟩) hS (fun q _ h => hFc q h) hFc (fun u t H_17 locs ht hvm hw hB hz1 hk1 hS => ?_)
  obtain ⟨q51, hP1, hK1, hD1⟩ := hB
  rw [ht] at hP1
  obtain ⟨hP, hD⟩ := va_join (wr := [(h0, .inr (2, [.ref q1, .int 0])), (q1, .inl (c1, 40, .inr (.inr (.inr (.inr f49)))))]) (w1 := [(q50, .inr (7, [.ref q51, .int 0, .int 0, .int 0, .int 0, .int 0, .int 0]))]) hP hD [2] [0, 1] rfl rfl (by decide) (by decide) hk1 hFc hP1 hD1
  have hK : va_K (dC, dI) vwCl [(c1, .object RX7)] s := hK.app (va_K.moved hvm.symm hK1)
  have hP : va_P (dC, dI) vwCl [(h0, .inr (2, [.ref q1, .int 0])), (q1, .inl (c1, 40, .inr (.inr (.inr (.inr f49))))), (q50, .inr (7, [.ref q51, .int 0, .int 0, .int 0, .int 0, .int 0, .int 0]))] H_17 := hP
  have hD : va_D (va_A [(h0, .inr (2, [.null, .int 0]))] s.heap.size) [(h0, .inr (2, [.ref q1, .int 0])), (q1, .inl (c1, 40, .inr (.inr (.inr (.inr f49))))), (q50, .inr (7, [.ref q51, .int 0, .int 0, .int 0, .int 0, .int 0, .int 0]))] := hD
  refine W.widen (k := 35) (n := 278) (Nat.le_of_ble_eq_true rfl) (Nat.le_of_ble_eq_true rfl) ?_
  refine va_astq (r := (RX7, TX7, 7)) hx hb hK hP hD hS 1 0 2 7 rfl rfl rfl rfl (show vp_in 16 40 by unfold vp_in; decide) dX2_init_33 (fun H locs hP hD hS => ?_)
  have hP : va_P (dC, dI) vwCl [(h0, .inr (2, [.ref q1, .int 0])), (q1, .inl (c1, 40, .inr (.inr (.inr (.inr (va_up f49 16 (some q50))))))), (q50, .inr (7, [.ref q51, .int 0, .int 0, .int 0, .int 0, .int 0, .int 0]))] H := hP
  have hD : va_D (va_A [(h0, .inr (2, [.null, .int 0]))] s.heap.size) [(h0, .inr (2, [.ref q1, .int 0])), (q1, .inl (c1, 40, .inr (.inr (.inr (.inr (va_up f49 16 (some q50))))))), (q50, .inr (7, [.ref q51, .int 0, .int 0, .int 0, .int 0, .int 0, .int 0]))] := hD
  generalize (va_up f49 16 (some q50)) = f52 at hP hD
  have hP := hP.sub (ws' := [(h0, .inr (2, [.ref q1, .int 0])), (q1, .inl (c1, 40, .inr (.inr (.inr (.inr f52)))))]) [0, 1] rfl
  have hD := hD.sub (ws' := [(h0, .inr (2, [.ref q1, .int 0])), (q1, .inl (c1, 40, .inr (.inr (.inr (.inr f52)))))]) [0, 1] (by decide) rfl
  refine lv_iinc (v := 17) (lv' := [(1, .int 17), (0, .ref h0)]) hx hb dX2_init_34 hl (k := 0) rfl (by decide) (by decide) rfl (fun ls hl => ?_)
  refine lv_goto (tgt := 15) hx hb dX2_init_37 (by decide) ?_
  refine lv_iload_n hx hb dX2_init_15 rfl (lv_at hl 0 rfl) ?_
  refine lv_bipush (v := 40) hx hb dX2_init_16 (by decide) ?_
  refine lv_icmp_ge (tgt := 40) hx hb dX2_init_18 (by decide) (fun c => absurd c (by decide)) (fun _ => ?_)
  refine lv_aload_n hx hb dX2_init_21 rfl (lv_at hl 1 rfl) ?_
  refine va_get (D := (dC, dI)) (ci := 2) (v := .ref q1) (C := RX2) (T := TX2) (N := 2) hx hb hts (by decide +kernel) hown hK hP 0 rfl rfl 0 (by decide) (hts (.fieldLink RX2 11 "DearLetters$Ledger" "sales" "[LDearLetters$Sale;") (by decide +kernel)) (fun _ h9 => h9) rfl dX2_init_22 ?_
  refine lv_iload_n hx hb dX2_init_25 rfl (lv_at hl 0 rfl) ?_
  refine va_new (ci := 7) (fs := [.null, .int 0, .int 0, .int 0, .int 0, .int 0, .int 0]) (C := RX7) (T := TX7) (N := 7) hx hb hts (by decide +kernel) tyX7 tyX7_ok hown (hts (.classLink RX2 9 RX7) (by decide +kernel)) (hts (.instantiable RX7 7) (by decide +kernel)) (hts (.initialized RX7) (by decide +kernel)) hK hP hD hS hA rfl (fun j hj => by rcases (show j = 0 ∨ j = 1 ∨ j = 2 ∨ j = 3 ∨ j = 4 ∨ j = 5 ∨ j = 6 by omega) with rfl | rfl | rfl | rfl | rfl | rfl | rfl <;> rfl) (Nat.le_of_ble_eq_true rfl) (Nat.le_of_ble_eq_true rfl) dX2_init_26 (fun q53 H hP hD hS => ?_)
  have hP : va_P (dC, dI) vwCl [(h0, .inr (2, [.ref q1, .int 0])), (q1, .inl (c1, 40, .inr (.inr (.inr (.inr f52))))), (q53, .inr (7, [.null, .int 0, .int 0, .int 0, .int 0, .int 0, .int 0]))] H := hP
  have hD : va_D (va_A [(h0, .inr (2, [.null, .int 0]))] s.heap.size) [(h0, .inr (2, [.ref q1, .int 0])), (q1, .inl (c1, 40, .inr (.inr (.inr (.inr f52))))), (q53, .inr (7, [.null, .int 0, .int 0, .int 0, .int 0, .int 0, .int 0]))] := hD
  refine W.widen (k := 36) (n := 285) (Nat.le_of_ble_eq_true rfl) (Nat.le_of_ble_eq_true rfl) ?_
  refine lv_dup hx hb dX2_init_29 rfl ?_
  have hFc := va_free (wc := [(q53, .inr (7, [.null, .int 0, .int 0, .int 0, .int 0, .int 0, .int 0]))]) hD hS hA [2] rfl
  refine va_callv (va_runIN (As := []) (rest := [.ref q53, .int 17, .ref q1]) ⟨hx, hb, hml, hown, hts⟩ (ci_Sale l dC dI H q53 (hP.sub (ws' := [(q53, .inr (7, [.null, .int 0, .int 0, .int 0, .int 0, .int 0, .int 0]))]) [2] rfl) ((hD.sub (ws' := [(q53, .inr (7, [.null, .int 0, .int 0, .int 0, .int 0, .int 0, .int 0]))]) [2] (by decide) rfl).weaken (fun _ _ _ _ => trivial))) ⟨va_cnB 0 hts gX2_init_X7_init_n17 rfl rfl rfl (hq.2.2.2.2.2.2.1) (hts (.initialized RX7) (by decide +kernel)) (by decide +kernel) ⟨Nat.le_of_ble_eq_true rfl, Nat.le_of_ble_eq_true rfl⟩, rfl, hts (.instanceMethod yX7_init) (by decide +kernel)⟩ ⟨kb_c, kb_m (hK.sub (tys' := []) [] rfl) hq⟩ rfl rfl hl.1 rfl (lv_room (Nat.le_of_ble_eq_true rfl)) dX2_init_30 ⟨Nat.le_of_ble_eq_true rfl, Nat.le_of_ble_eq_true rfl⟩) hS (fun q _ h => hFc q h) hFc (fun u t H_18 locs ht hvm hw hB hz1 hk1 hS => ?_)
  obtain ⟨q54, hP1, hK1, hD1⟩ := hB
  rw [ht] at hP1
  obtain ⟨hP, hD⟩ := va_join (wr := [(h0, .inr (2, [.ref q1, .int 0])), (q1, .inl (c1, 40, .inr (.inr (.inr (.inr f52)))))]) (w1 := [(q53, .inr (7, [.ref q54, .int 0, .int 0, .int 0, .int 0, .int 0, .int 0]))]) hP hD [2] [0, 1] rfl rfl (by decide) (by decide) hk1 hFc hP1 hD1
  have hK : va_K (dC, dI) vwCl [(c1, .object RX7)] s := hK.app (va_K.moved hvm.symm hK1)
  have hP : va_P (dC, dI) vwCl [(h0, .inr (2, [.ref q1, .int 0])), (q1, .inl (c1, 40, .inr (.inr (.inr (.inr f52))))), (q53, .inr (7, [.ref q54, .int 0, .int 0, .int 0, .int 0, .int 0, .int 0]))] H_18 := hP
  have hD : va_D (va_A [(h0, .inr (2, [.null, .int 0]))] s.heap.size) [(h0, .inr (2, [.ref q1, .int 0])), (q1, .inl (c1, 40, .inr (.inr (.inr (.inr f52))))), (q53, .inr (7, [.ref q54, .int 0, .int 0, .int 0, .int 0, .int 0, .int 0]))] := hD
  refine W.widen (k := 37) (n := 292) (Nat.le_of_ble_eq_true rfl) (Nat.le_of_ble_eq_true rfl) ?_
  refine va_astq (r := (RX7, TX7, 7)) hx hb hK hP hD hS 1 0 2 7 rfl rfl rfl rfl (show vp_in 17 40 by unfold vp_in; decide) dX2_init_33 (fun H locs hP hD hS => ?_)
  have hP : va_P (dC, dI) vwCl [(h0, .inr (2, [.ref q1, .int 0])), (q1, .inl (c1, 40, .inr (.inr (.inr (.inr (va_up f52 17 (some q53))))))), (q53, .inr (7, [.ref q54, .int 0, .int 0, .int 0, .int 0, .int 0, .int 0]))] H := hP
  have hD : va_D (va_A [(h0, .inr (2, [.null, .int 0]))] s.heap.size) [(h0, .inr (2, [.ref q1, .int 0])), (q1, .inl (c1, 40, .inr (.inr (.inr (.inr (va_up f52 17 (some q53))))))), (q53, .inr (7, [.ref q54, .int 0, .int 0, .int 0, .int 0, .int 0, .int 0]))] := hD
  generalize (va_up f52 17 (some q53)) = f55 at hP hD
  have hP := hP.sub (ws' := [(h0, .inr (2, [.ref q1, .int 0])), (q1, .inl (c1, 40, .inr (.inr (.inr (.inr f55)))))]) [0, 1] rfl
  have hD := hD.sub (ws' := [(h0, .inr (2, [.ref q1, .int 0])), (q1, .inl (c1, 40, .inr (.inr (.inr (.inr f55)))))]) [0, 1] (by decide) rfl
  refine lv_iinc (v := 18) (lv' := [(1, .int 18), (0, .ref h0)]) hx hb dX2_init_34 hl (k := 0) rfl (by decide) (by decide) rfl (fun ls hl => ?_)
  refine lv_goto (tgt := 15) hx hb dX2_init_37 (by decide) ?_
  refine lv_iload_n hx hb dX2_init_15 rfl (lv_at hl 0 rfl) ?_
  refine lv_bipush (v := 40) hx hb dX2_init_16 (by decide) ?_
  refine lv_icmp_ge (tgt := 40) hx hb dX2_init_18 (by decide) (fun c => absurd c (by decide)) (fun _ => ?_)
  refine lv_aload_n hx hb dX2_init_21 rfl (lv_at hl 1 rfl) ?_
  refine va_get (D := (dC, dI)) (ci := 2) (v := .ref q1) (C := RX2) (T := TX2) (N := 2) hx hb hts (by decide +kernel) hown hK hP 0 rfl rfl 0 (by decide) (hts (.fieldLink RX2 11 "DearLetters$Ledger" "sales" "[LDearLetters$Sale;") (by decide +kernel)) (fun _ h9 => h9) rfl dX2_init_22 ?_
  refine lv_iload_n hx hb dX2_init_25 rfl (lv_at hl 0 rfl) ?_
  refine va_new (ci := 7) (fs := [.null, .int 0, .int 0, .int 0, .int 0, .int 0, .int 0]) (C := RX7) (T := TX7) (N := 7) hx hb hts (by decide +kernel) tyX7 tyX7_ok hown (hts (.classLink RX2 9 RX7) (by decide +kernel)) (hts (.instantiable RX7 7) (by decide +kernel)) (hts (.initialized RX7) (by decide +kernel)) hK hP hD hS hA rfl (fun j hj => by rcases (show j = 0 ∨ j = 1 ∨ j = 2 ∨ j = 3 ∨ j = 4 ∨ j = 5 ∨ j = 6 by omega) with rfl | rfl | rfl | rfl | rfl | rfl | rfl <;> rfl) (Nat.le_of_ble_eq_true rfl) (Nat.le_of_ble_eq_true rfl) dX2_init_26 (fun q56 H hP hD hS => ?_)
  have hP : va_P (dC, dI) vwCl [(h0, .inr (2, [.ref q1, .int 0])), (q1, .inl (c1, 40, .inr (.inr (.inr (.inr f55))))), (q56, .inr (7, [.null, .int 0, .int 0, .int 0, .int 0, .int 0, .int 0]))] H := hP
  have hD : va_D (va_A [(h0, .inr (2, [.null, .int 0]))] s.heap.size) [(h0, .inr (2, [.ref q1, .int 0])), (q1, .inl (c1, 40, .inr (.inr (.inr (.inr f55))))), (q56, .inr (7, [.null, .int 0, .int 0, .int 0, .int 0, .int 0, .int 0]))] := hD
  refine W.widen (k := 38) (n := 299) (Nat.le_of_ble_eq_true rfl) (Nat.le_of_ble_eq_true rfl) ?_
  refine lv_dup hx hb dX2_init_29 rfl ?_
  have hFc := va_free (wc := [(q56, .inr (7, [.null, .int 0, .int 0, .int 0, .int 0, .int 0, .int 0]))]) hD hS hA [2] rfl
  refine va_callv (va_runIN (As := []) (rest := [.ref q56, .int 18, .ref q1]) ⟨hx, hb, hml, hown, hts⟩ (ci_Sale l dC dI H q56 (hP.sub (ws' := [(q56, .inr (7, [.null, .int 0, .int 0, .int 0, .int 0, .int 0, .int 0]))]) [2] rfl) ((hD.sub (ws' := [(q56, .inr (7, [.null, .int 0, .int 0, .int 0, .int 0, .int 0, .int 0]))]) [2] (by decide) rfl).weaken (fun _ _ _ _ => trivial))) ⟨va_cnB 0 hts gX2_init_X7_init_n17 rfl rfl rfl (hq.2.2.2.2.2.2.1) (hts (.initialized RX7) (by decide +kernel)) (by decide +kernel) ⟨Nat.le_of_ble_eq_true rfl, Nat.le_of_ble_eq_true rfl⟩, rfl, hts (.instanceMethod yX7_init) (by decide +kernel)⟩ ⟨kb_c, kb_m (hK.sub (tys' := []) [] rfl) hq⟩ rfl rfl hl.1 rfl (lv_room (Nat.le_of_ble_eq_true rfl)) dX2_init_30 ⟨Nat.le_of_ble_eq_true rfl, Nat.le_of_ble_eq_true rfl⟩) hS (fun q _ h => hFc q h) hFc (fun u t H_19 locs ht hvm hw hB hz1 hk1 hS => ?_)
  obtain ⟨q57, hP1, hK1, hD1⟩ := hB
  rw [ht] at hP1
  obtain ⟨hP, hD⟩ := va_join (wr := [(h0, .inr (2, [.ref q1, .int 0])), (q1, .inl (c1, 40, .inr (.inr (.inr (.inr f55)))))]) (w1 := [(q56, .inr (7, [.ref q57, .int 0, .int 0, .int 0, .int 0, .int 0, .int 0]))]) hP hD [2] [0, 1] rfl rfl (by decide) (by decide) hk1 hFc hP1 hD1
  have hK : va_K (dC, dI) vwCl [(c1, .object RX7)] s := hK.app (va_K.moved hvm.symm hK1)
  have hP : va_P (dC, dI) vwCl [(h0, .inr (2, [.ref q1, .int 0])), (q1, .inl (c1, 40, .inr (.inr (.inr (.inr f55))))), (q56, .inr (7, [.ref q57, .int 0, .int 0, .int 0, .int 0, .int 0, .int 0]))] H_19 := hP
  have hD : va_D (va_A [(h0, .inr (2, [.null, .int 0]))] s.heap.size) [(h0, .inr (2, [.ref q1, .int 0])), (q1, .inl (c1, 40, .inr (.inr (.inr (.inr f55))))), (q56, .inr (7, [.ref q57, .int 0, .int 0, .int 0, .int 0, .int 0, .int 0]))] := hD
  refine W.widen (k := 39) (n := 306) (Nat.le_of_ble_eq_true rfl) (Nat.le_of_ble_eq_true rfl) ?_
  refine va_astq (r := (RX7, TX7, 7)) hx hb hK hP hD hS 1 0 2 7 rfl rfl rfl rfl (show vp_in 18 40 by unfold vp_in; decide) dX2_init_33 (fun H locs hP hD hS => ?_)
  have hP : va_P (dC, dI) vwCl [(h0, .inr (2, [.ref q1, .int 0])), (q1, .inl (c1, 40, .inr (.inr (.inr (.inr (va_up f55 18 (some q56))))))), (q56, .inr (7, [.ref q57, .int 0, .int 0, .int 0, .int 0, .int 0, .int 0]))] H := hP
  have hD : va_D (va_A [(h0, .inr (2, [.null, .int 0]))] s.heap.size) [(h0, .inr (2, [.ref q1, .int 0])), (q1, .inl (c1, 40, .inr (.inr (.inr (.inr (va_up f55 18 (some q56))))))), (q56, .inr (7, [.ref q57, .int 0, .int 0, .int 0, .int 0, .int 0, .int 0]))] := hD
  generalize (va_up f55 18 (some q56)) = f58 at hP hD
  have hP := hP.sub (ws' := [(h0, .inr (2, [.ref q1, .int 0])), (q1, .inl (c1, 40, .inr (.inr (.inr (.inr f58)))))]) [0, 1] rfl
  have hD := hD.sub (ws' := [(h0, .inr (2, [.ref q1, .int 0])), (q1, .inl (c1, 40, .inr (.inr (.inr (.inr f58)))))]) [0, 1] (by decide) rfl
  refine lv_iinc (v := 19) (lv' := [(1, .int 19), (0, .ref h0)]) hx hb dX2_init_34 hl (k := 0) rfl (by decide) (by decide) rfl (fun ls hl => ?_)
  refine lv_goto (tgt := 15) hx hb dX2_init_37 (by decide) ?_
  refine lv_iload_n hx hb dX2_init_15 rfl (lv_at hl 0 rfl) ?_
  refine lv_bipush (v := 40) hx hb dX2_init_16 (by decide) ?_
  refine lv_icmp_ge (tgt := 40) hx hb dX2_init_18 (by decide) (fun c => absurd c (by decide)) (fun _ => ?_)
  refine lv_aload_n hx hb dX2_init_21 rfl (lv_at hl 1 rfl) ?_
  refine va_get (D := (dC, dI)) (ci := 2) (v := .ref q1) (C := RX2) (T := TX2) (N := 2) hx hb hts (by decide +kernel) hown hK hP 0 rfl rfl 0 (by decide) (hts (.fieldLink RX2 11 "DearLetters$Ledger" "sales" "[LDearLetters$Sale;") (by decide +kernel)) (fun _ h9 => h9) rfl dX2_init_22 ?_
  refine lv_iload_n hx hb dX2_init_25 rfl (lv_at hl 0 rfl) ?_
  refine va_new (ci := 7) (fs := [.null, .int 0, .int 0, .int 0, .int 0, .int 0, .int 0]) (C := RX7) (T := TX7) (N := 7) hx hb hts (by decide +kernel) tyX7 tyX7_ok hown (hts (.classLink RX2 9 RX7) (by decide +kernel)) (hts (.instantiable RX7 7) (by decide +kernel)) (hts (.initialized RX7) (by decide +kernel)) hK hP hD hS hA rfl (fun j hj => by rcases (show j = 0 ∨ j = 1 ∨ j = 2 ∨ j = 3 ∨ j = 4 ∨ j = 5 ∨ j = 6 by omega) with rfl | rfl | rfl | rfl | rfl | rfl | rfl <;> rfl) (Nat.le_of_ble_eq_true rfl) (Nat.le_of_ble_eq_true rfl) dX2_init_26 (fun q59 H hP hD hS => ?_)
  have hP : va_P (dC, dI) vwCl [(h0, .inr (2, [.ref q1, .int 0])), (q1, .inl (c1, 40, .inr (.inr (.inr (.inr f58))))), (q59, .inr (7, [.null, .int 0, .int 0, .int 0, .int 0, .int 0, .int 0]))] H := hP
  have hD : va_D (va_A [(h0, .inr (2, [.null, .int 0]))] s.heap.size) [(h0, .inr (2, [.ref q1, .int 0])), (q1, .inl (c1, 40, .inr (.inr (.inr (.inr f58))))), (q59, .inr (7, [.null, .int 0, .int 0, .int 0, .int 0, .int 0, .int 0]))] := hD
  refine W.widen (k := 40) (n := 313) (Nat.le_of_ble_eq_true rfl) (Nat.le_of_ble_eq_true rfl) ?_
  refine lv_dup hx hb dX2_init_29 rfl ?_
  have hFc := va_free (wc := [(q59, .inr (7, [.null, .int 0, .int 0, .int 0, .int 0, .int 0, .int 0]))]) hD hS hA [2] rfl
  refine va_callv (va_runIN (As := []) (rest := [.ref q59, .int 19, .ref q1]) ⟨hx, hb, hml, hown, hts⟩ (ci_Sale l dC dI H q59 (hP.sub (ws' := [(q59, .inr (7, [.null, .int 0, .int 0, .int 0, .int 0, .int 0, .int 0]))]) [2] rfl) ((hD.sub (ws' := [(q59, .inr (7, [.null, .int 0, .int 0, .int 0, .int 0, .int 0, .int 0]))]) [2] (by decide) rfl).weaken (fun _ _ _ _ => trivial))) ⟨va_cnB 0 hts gX2_init_X7_init_n17 rfl rfl rfl (hq.2.2.2.2.2.2.1) (hts (.initialized RX7) (by decide +kernel)) (by decide +kernel) ⟨Nat.le_of_ble_eq_true rfl, Nat.le_of_ble_eq_true rfl⟩, rfl, hts (.instanceMethod yX7_init) (by decide +kernel)⟩ ⟨kb_c, kb_m (hK.sub (tys' := []) [] rfl) hq⟩ rfl rfl hl.1 rfl (lv_room (Nat.le_of_ble_eq_true rfl)) dX2_init_30 ⟨Nat.le_of_ble_eq_true rfl, Nat.le_of_ble_eq_true rfl⟩) hS (fun q _ h => hFc q h) hFc (fun u t H_20 locs ht hvm hw hB hz1 hk1 hS => ?_)
  obtain ⟨q60, hP1, hK1, hD1⟩ := hB
  rw [ht] at hP1
  obtain ⟨hP, hD⟩ := va_join (wr := [(h0, .inr (2, [.ref q1, .int 0])), (q1, .inl (c1, 40, .inr (.inr (.inr (.inr f58)))))]) (w1 := [(q59, .inr (7, [.ref q60, .int 0, .int 0, .int 0, .int 0, .int 0, .int 0]))]) hP hD [2] [0, 1] rfl rfl (by decide) (by decide) hk1 hFc hP1 hD1
  have hK : va_K (dC, dI) vwCl [(c1, .object RX7)] s := hK.app (va_K.moved hvm.symm hK1)
  have hP : va_P (dC, dI) vwCl [(h0, .inr (2, [.ref q1, .int 0])), (q1, .inl (c1, 40, .inr (.inr (.inr (.inr f58))))), (q59, .inr (7, [.ref q60, .int 0, .int 0, .int 0, .int 0, .int 0, .int 0]))] H_20 := hP
  have hD : va_D (va_A [(h0, .inr (2, [.null, .int 0]))] s.heap.size) [(h0, .inr (2, [.ref q1, .int 0])), (q1, .inl (c1, 40, .inr (.inr (.inr (.inr f58))))), (q59, .inr (7, [.ref q60, .int 0, .int 0, .int 0, .int 0, .int 0, .int 0]))] := hD
  refine W.widen (k := 41) (n := 320) (Nat.le_of_ble_eq_true rfl) (Nat.le_of_ble_eq_true rfl) ?_
  refine va_astq (r := (RX7, TX7, 7)) hx hb hK hP hD hS 1 0 2 7 rfl rfl rfl rfl (show vp_in 19 40 by unfold vp_in; decide) dX2_init_33 (fun H locs hP hD hS => ?_)
  have hP : va_P (dC, dI) vwCl [(h0, .inr (2, [.ref q1, .int 0])), (q1, .inl (c1, 40, .inr (.inr (.inr (.inr (va_up f58 19 (some q59))))))), (q59, .inr (7, [.ref q60, .int 0, .int 0, .int 0, .int 0, .int 0, .int 0]))] H := hP
  have hD : va_D (va_A [(h0, .inr (2, [.null, .int 0]))] s.heap.size) [(h0, .inr (2, [.ref q1, .int 0])), (q1, .inl (c1, 40, .inr (.inr (.inr (.inr (va_up f58 19 (some q59))))))), (q59, .inr (7, [.ref q60, .int 0, .int 0, .int 0, .int 0, .int 0, .int 0]))] := hD
  generalize (va_up f58 19 (some q59)) = f61 at hP hD
  have hP := hP.sub (ws' := [(h0, .inr (2, [.ref q1, .int 0])), (q1, .inl (c1, 40, .inr (.inr (.inr (.inr f61)))))]) [0, 1] rfl
  have hD := hD.sub (ws' := [(h0, .inr (2, [.ref q1, .int 0])), (q1, .inl (c1, 40, .inr (.inr (.inr (.inr f61)))))]) [0, 1] (by decide) rfl
  refine lv_iinc (v := 20) (lv' := [(1, .int 20), (0, .ref h0)]) hx hb dX2_init_34 hl (k := 0) rfl (by decide) (by decide) rfl (fun ls hl => ?_)
  refine lv_goto (tgt := 15) hx hb dX2_init_37 (by decide) ?_
  refine lv_iload_n hx hb dX2_init_15 rfl (lv_at hl 0 rfl) ?_
  refine lv_bipush (v := 40) hx hb dX2_init_16 (by decide) ?_
  refine lv_icmp_ge (tgt := 40) hx hb dX2_init_18 (by decide) (fun c => absurd c (by decide)) (fun _ => ?_)
  refine lv_aload_n hx hb dX2_init_21 rfl (lv_at hl 1 rfl) ?_
  refine va_get (D := (dC, dI)) (ci := 2) (v := .ref q1) (C := RX2) (T := TX2) (N := 2) hx hb hts (by decide +kernel) hown hK hP 0 rfl rfl 0 (by decide) (hts (.fieldLink RX2 11 "DearLetters$Ledger" "sales" "[LDearLetters$Sale;") (by decide +kernel)) (fun _ h9 => h9) rfl dX2_init_22 ?_
  refine lv_iload_n hx hb dX2_init_25 rfl (lv_at hl 0 rfl) ?_
  refine va_new (ci := 7) (fs := [.null, .int 0, .int 0, .int 0, .int 0, .int 0, .int 0]) (C := RX7) (T := TX7) (N := 7) hx hb hts (by decide +kernel) tyX7 tyX7_ok hown (hts (.classLink RX2 9 RX7) (by decide +kernel)) (hts (.instantiable RX7 7) (by decide +kernel)) (hts (.initialized RX7) (by decide +kernel)) hK hP hD hS hA rfl (fun j hj => by rcases (show j = 0 ∨ j = 1 ∨ j = 2 ∨ j = 3 ∨ j = 4 ∨ j = 5 ∨ j = 6 by omega) with rfl | rfl | rfl | rfl | rfl | rfl | rfl <;> rfl) (Nat.le_of_ble_eq_true rfl) (Nat.le_of_ble_eq_true rfl) dX2_init_26 (fun q62 H hP hD hS => ?_)
  have hP : va_P (dC, dI) vwCl [(h0, .inr (2, [.ref q1, .int 0])), (q1, .inl (c1, 40, .inr (.inr (.inr (.inr f61))))), (q62, .inr (7, [.null, .int 0, .int 0, .int 0, .int 0, .int 0, .int 0]))] H := hP
  have hD : va_D (va_A [(h0, .inr (2, [.null, .int 0]))] s.heap.size) [(h0, .inr (2, [.ref q1, .int 0])), (q1, .inl (c1, 40, .inr (.inr (.inr (.inr f61))))), (q62, .inr (7, [.null, .int 0, .int 0, .int 0, .int 0, .int 0, .int 0]))] := hD
  refine W.widen (k := 42) (n := 327) (Nat.le_of_ble_eq_true rfl) (Nat.le_of_ble_eq_true rfl) ?_
  refine lv_dup hx hb dX2_init_29 rfl ?_
  have hFc := va_free (wc := [(q62, .inr (7, [.null, .int 0, .int 0, .int 0, .int 0, .int 0, .int 0]))]) hD hS hA [2] rfl
  refine va_callv (va_runIN (As := []) (rest := [.ref q62, .int 20, .ref q1]) ⟨hx, hb, hml, hown, hts⟩ (ci_Sale l dC dI H q62 (hP.sub (ws' := [(q62, .inr (7, [.null, .int 0, .int 0, .int 0, .int 0, .int 0, .int 0]))]) [2] rfl) ((hD.sub (ws' := [(q62, .inr (7, [.null, .int 0, .int 0, .int 0, .int 0, .int 0, .int 0]))]) [2] (by decide) rfl).weaken (fun _ _ _ _ => trivial))) ⟨va_cnB 0 hts gX2_init_X7_init_n17 rfl rfl rfl (hq.2.2.2.2.2.2.1) (hts (.initialized RX7) (by decide +kernel)) (by decide +kernel) ⟨Nat.le_of_ble_eq_true rfl, Nat.le_of_ble_eq_true rfl⟩, rfl, hts (.instanceMethod yX7_init) (by decide +kernel)⟩ ⟨kb_c, kb_m (hK.sub (tys' := []) [] rfl) hq⟩ rfl rfl hl.1 rfl (lv_room (Nat.le_of_ble_eq_true rfl)) dX2_init_30 ⟨Nat.le_of_ble_eq_true rfl, Nat.le_of_ble_eq_true rfl⟩) hS (fun q _ h => hFc q h) hFc (fun u t H_21 locs ht hvm hw hB hz1 hk1 hS => ?_)
  obtain ⟨q63, hP1, hK1, hD1⟩ := hB
  rw [ht] at hP1
  obtain ⟨hP, hD⟩ := va_join (wr := [(h0, .inr (2, [.ref q1, .int 0])), (q1, .inl (c1, 40, .inr (.inr (.inr (.inr f61)))))]) (w1 := [(q62, .inr (7, [.ref q63, .int 0, .int 0, .int 0, .int 0, .int 0, .int 0]))]) hP hD [2] [0, 1] rfl rfl (by decide) (by decide) hk1 hFc hP1 hD1
  have hK : va_K (dC, dI) vwCl [(c1, .object RX7)] s := hK.app (va_K.moved hvm.symm hK1)
  have hP : va_P (dC, dI) vwCl [(h0, .inr (2, [.ref q1, .int 0])), (q1, .inl (c1, 40, .inr (.inr (.inr (.inr f61))))), (q62, .inr (7, [.ref q63, .int 0, .int 0, .int 0, .int 0, .int 0, .int 0]))] H_21 := hP
  have hD : va_D (va_A [(h0, .inr (2, [.null, .int 0]))] s.heap.size) [(h0, .inr (2, [.ref q1, .int 0])), (q1, .inl (c1, 40, .inr (.inr (.inr (.inr f61))))), (q62, .inr (7, [.ref q63, .int 0, .int 0, .int 0, .int 0, .int 0, .int 0]))] := hD
  refine W.widen (k := 43) (n := 334) (Nat.le_of_ble_eq_true rfl) (Nat.le_of_ble_eq_true rfl) ?_
  refine va_astq (r := (RX7, TX7, 7)) hx hb hK hP hD hS 1 0 2 7 rfl rfl rfl rfl (show vp_in 20 40 by unfold vp_in; decide) dX2_init_33 (fun H locs hP hD hS => ?_)
  have hP : va_P (dC, dI) vwCl [(h0, .inr (2, [.ref q1, .int 0])), (q1, .inl (c1, 40, .inr (.inr (.inr (.inr (va_up f61 20 (some q62))))))), (q62, .inr (7, [.ref q63, .int 0, .int 0, .int 0, .int 0, .int 0, .int 0]))] H := hP
  have hD : va_D (va_A [(h0, .inr (2, [.null, .int 0]))] s.heap.size) [(h0, .inr (2, [.ref q1, .int 0])), (q1, .inl (c1, 40, .inr (.inr (.inr (.inr (va_up f61 20 (some q62))))))), (q62, .inr (7, [.ref q63, .int 0, .int 0, .int 0, .int 0, .int 0, .int 0]))] := hD
  generalize (va_up f61 20 (some q62)) = f64 at hP hD
  have hP := hP.sub (ws' := [(h0, .inr (2, [.ref q1, .int 0])), (q1, .inl (c1, 40, .inr (.inr (.inr (.inr f64)))))]) [0, 1] rfl
  have hD := hD.sub (ws' := [(h0, .inr (2, [.ref q1, .int 0])), (q1, .inl (c1, 40, .inr (.inr (.inr (.inr f64)))))]) [0, 1] (by decide) rfl
  refine lv_iinc (v := 21) (lv' := [(1, .int 21), (0, .ref h0)]) hx hb dX2_init_34 hl (k := 0) rfl (by decide) (by decide) rfl (fun ls hl => ?_)
  refine lv_goto (tgt := 15) hx hb dX2_init_37 (by decide) ?_
  refine lv_iload_n hx hb dX2_init_15 rfl (lv_at hl 0 rfl) ?_
  refine lv_bipush (v := 40) hx hb dX2_init_16 (by decide) ?_
  refine lv_icmp_ge (tgt := 40) hx hb dX2_init_18 (by decide) (fun c => absurd c (by decide)) (fun _ => ?_)
  refine lv_aload_n hx hb dX2_init_21 rfl (lv_at hl 1 rfl) ?_
  refine va_get (D := (dC, dI)) (ci := 2) (v := .ref q1) (C := RX2) (T := TX2) (N := 2) hx hb hts (by decide +kernel) hown hK hP 0 rfl rfl 0 (by decide) (hts (.fieldLink RX2 11 "DearLetters$Ledger" "sales" "[LDearLetters$Sale;") (by decide +kernel)) (fun _ h9 => h9) rfl dX2_init_22 ?_
  refine lv_iload_n hx hb dX2_init_25 rfl (lv_at hl 0 rfl) ?_
  refine va_new (ci := 7) (fs := [.null, .int 0, .int 0, .int 0, .int 0, .int 0, .int 0]) (C := RX7) (T := TX7) (N := 7) hx hb hts (by decide +kernel) tyX7 tyX7_ok hown (hts (.classLink RX2 9 RX7) (by decide +kernel)) (hts (.instantiable RX7 7) (by decide +kernel)) (hts (.initialized RX7) (by decide +kernel)) hK hP hD hS hA rfl (fun j hj => by rcases (show j = 0 ∨ j = 1 ∨ j = 2 ∨ j = 3 ∨ j = 4 ∨ j = 5 ∨ j = 6 by omega) with rfl | rfl | rfl | rfl | rfl | rfl | rfl <;> rfl) (Nat.le_of_ble_eq_true rfl) (Nat.le_of_ble_eq_true rfl) dX2_init_26 (fun q65 H hP hD hS => ?_)
  have hP : va_P (dC, dI) vwCl [(h0, .inr (2, [.ref q1, .int 0])), (q1, .inl (c1, 40, .inr (.inr (.inr (.inr f64))))), (q65, .inr (7, [.null, .int 0, .int 0, .int 0, .int 0, .int 0, .int 0]))] H := hP
  have hD : va_D (va_A [(h0, .inr (2, [.null, .int 0]))] s.heap.size) [(h0, .inr (2, [.ref q1, .int 0])), (q1, .inl (c1, 40, .inr (.inr (.inr (.inr f64))))), (q65, .inr (7, [.null, .int 0, .int 0, .int 0, .int 0, .int 0, .int 0]))] := hD
  refine W.widen (k := 44) (n := 341) (Nat.le_of_ble_eq_true rfl) (Nat.le_of_ble_eq_true rfl) ?_
  refine lv_dup hx hb dX2_init_29 rfl ?_
  have hFc := va_free (wc := [(q65, .inr (7, [.null, .int 0, .int 0, .int 0, .int 0, .int 0, .int 0]))]) hD hS hA [2] rfl
  refine va_callv (va_runIN (As := []) (rest := [.ref q65, .int 21, .ref q1]) ⟨hx, hb, hml, hown, hts⟩ (ci_Sale l dC dI H q65 (hP.sub (ws' := [(q65, .inr (7, [.null, .int 0, .int 0, .int 0, .int 0, .int 0, .int 0]))]) [2] rfl) ((hD.sub (ws' := [(q65, .inr (7, [.null, .int 0, .int 0, .int 0, .int 0, .int 0, .int 0]))]) [2] (by decide) rfl).weaken (fun _ _ _ _ => trivial))) ⟨va_cnB 0 hts gX2_init_X7_init_n17 rfl rfl rfl (hq.2.2.2.2.2.2.1) (hts (.initialized RX7) (by decide +kernel)) (by decide +kernel) ⟨Nat.le_of_ble_eq_true rfl, Nat.le_of_ble_eq_true rfl⟩, rfl, hts (.instanceMethod yX7_init) (by decide +kernel)⟩ ⟨kb_c, kb_m (hK.sub (tys' := []) [] rfl) hq⟩ rfl rfl hl.1 rfl (lv_room (Nat.le_of_ble_eq_true rfl)) dX2_init_30 ⟨Nat.le_of_ble_eq_true rfl, Nat.le_of_ble_eq_true rfl⟩) hS (fun q _ h => hFc q h) hFc (fun u t H_22 locs ht hvm hw hB hz1 hk1 hS => ?_)
  obtain ⟨q66, hP1, hK1, hD1⟩ := hB
  rw [ht] at hP1
  obtain ⟨hP, hD⟩ := va_join (wr := [(h0, .inr (2, [.ref q1, .int 0])), (q1, .inl (c1, 40, .inr (.inr (.inr (.inr f64)))))]) (w1 := [(q65, .inr (7, [.ref q66, .int 0, .int 0, .int 0, .int 0, .int 0, .int 0]))]) hP hD [2] [0, 1] rfl rfl (by decide) (by decide) hk1 hFc hP1 hD1
  have hK : va_K (dC, dI) vwCl [(c1, .object RX7)] s := hK.app (va_K.moved hvm.symm hK1)
  have hP : va_P (dC, dI) vwCl [(h0, .inr (2, [.ref q1, .int 0])), (q1, .inl (c1, 40, .inr (.inr (.inr (.inr f64))))), (q65, .inr (7, [.ref q66, .int 0, .int 0, .int 0, .int 0, .int 0, .int 0]))] H_22 := hP
  have hD : va_D (va_A [(h0, .inr (2, [.null, .int 0]))] s.heap.size) [(h0, .inr (2, [.ref q1, .int 0])), (q1, .inl (c1, 40, .inr (.inr (.inr (.inr f64))))), (q65, .inr (7, [.ref q66, .int 0, .int 0, .int 0, .int 0, .int 0, .int 0]))] := hD
  refine W.widen (k := 45) (n := 348) (Nat.le_of_ble_eq_true rfl) (Nat.le_of_ble_eq_true rfl) ?_
  refine va_astq (r := (RX7, TX7, 7)) hx hb hK hP hD hS 1 0 2 7 rfl rfl rfl rfl (show vp_in 21 40 by unfold vp_in; decide) dX2_init_33 (fun H locs hP hD hS => ?_)
  have hP : va_P (dC, dI) vwCl [(h0, .inr (2, [.ref q1, .int 0])), (q1, .inl (c1, 40, .inr (.inr (.inr (.inr (va_up f64 21 (some q65))))))), (q65, .inr (7, [.ref q66, .int 0, .int 0, .int 0, .int 0, .int 0, .int 0]))] H := hP
  have hD : va_D (va_A [(h0, .inr (2, [.null, .int 0]))] s.heap.size) [(h0, .inr (2, [.ref q1, .int 0])), (q1, .inl (c1, 40, .inr (.inr (.inr (.inr (va_up f64 21 (some q65))))))), (q65, .inr (7, [.ref q66, .int 0, .int 0, .int 0, .int 0, .int 0, .int 0]))] := hD
  generalize (va_up f64 21 (some q65)) = f67 at hP hD
  have hP := hP.sub (ws' := [(h0, .inr (2, [.ref q1, .int 0])), (q1, .inl (c1, 40, .inr (.inr (.inr (.inr f67)))))]) [0, 1] rfl
  have hD := hD.sub (ws' := [(h0, .inr (2, [.ref q1, .int 0])), (q1, .inl (c1, 40, .inr (.inr (.inr (.inr f67)))))]) [0, 1] (by decide) rfl
  refine lv_iinc (v := 22) (lv' := [(1, .int 22), (0, .ref h0)]) hx hb dX2_init_34 hl (k := 0) rfl (by decide) (by decide) rfl (fun ls hl => ?_)
  refine lv_goto (tgt := 15) hx hb dX2_init_37 (by decide) ?_
  refine lv_iload_n hx hb dX2_init_15 rfl (lv_at hl 0 rfl) ?_
  refine lv_bipush (v := 40) hx hb dX2_init_16 (by decide) ?_
  refine lv_icmp_ge (tgt := 40) hx hb dX2_init_18 (by decide) (fun c => absurd c (by decide)) (fun _ => ?_)
  refine lv_aload_n hx hb dX2_init_21 rfl (lv_at hl 1 rfl) ?_
  refine va_get (D := (dC, dI)) (ci := 2) (v := .ref q1) (C := RX2) (T := TX2) (N := 2) hx hb hts (by decide +kernel) hown hK hP 0 rfl rfl 0 (by decide) (hts (.fieldLink RX2 11 "DearLetters$Ledger" "sales" "[LDearLetters$Sale;") (by decide +kernel)) (fun _ h9 => h9) rfl dX2_init_22 ?_
  refine lv_iload_n hx hb dX2_init_25 rfl (lv_at hl 0 rfl) ?_
  refine va_new (ci := 7) (fs := [.null, .int 0, .int 0, .int 0, .int 0, .int 0, .int 0]) (C := RX7) (T := TX7) (N := 7) hx hb hts (by decide +kernel) tyX7 tyX7_ok hown (hts (.classLink RX2 9 RX7) (by decide +kernel)) (hts (.instantiable RX7 7) (by decide +kernel)) (hts (.initialized RX7) (by decide +kernel)) hK hP hD hS hA rfl (fun j hj => by rcases (show j = 0 ∨ j = 1 ∨ j = 2 ∨ j = 3 ∨ j = 4 ∨ j = 5 ∨ j = 6 by omega) with rfl | rfl | rfl | rfl | rfl | rfl | rfl <;> rfl) (Nat.le_of_ble_eq_true rfl) (Nat.le_of_ble_eq_true rfl) dX2_init_26 (fun q68 H hP hD hS => ?_)
  have hP : va_P (dC, dI) vwCl [(h0, .inr (2, [.ref q1, .int 0])), (q1, .inl (c1, 40, .inr (.inr (.inr (.inr f67))))), (q68, .inr (7, [.null, .int 0, .int 0, .int 0, .int 0, .int 0, .int 0]))] H := hP
  have hD : va_D (va_A [(h0, .inr (2, [.null, .int 0]))] s.heap.size) [(h0, .inr (2, [.ref q1, .int 0])), (q1, .inl (c1, 40, .inr (.inr (.inr (.inr f67))))), (q68, .inr (7, [.null, .int 0, .int 0, .int 0, .int 0, .int 0, .int 0]))] := hD
  refine W.widen (k := 46) (n := 355) (Nat.le_of_ble_eq_true rfl) (Nat.le_of_ble_eq_true rfl) ?_
  refine lv_dup hx hb dX2_init_29 rfl ?_
  have hFc := va_free (wc := [(q68, .inr (7, [.null, .int 0, .int 0, .int 0, .int 0, .int 0, .int 0]))]) hD hS hA [2] rfl
  refine va_callv (va_runIN (As := []) (rest := [.ref q68, .int 22, .ref q1]) ⟨hx, hb, hml, hown, hts⟩ (ci_Sale l dC dI H q68 (hP.sub (ws' := [(q68, .inr (7, [.null, .int 0, .int 0, .int 0, .int 0, .int 0, .int 0]))]) [2] rfl) ((hD.sub (ws' := [(q68, .inr (7, [.null, .int 0, .int 0, .int 0, .int 0, .int 0, .int 0]))]) [2] (by decide) rfl).weaken (fun _ _ _ _ => trivial))) ⟨va_cnB 0 hts gX2_init_X7_init_n17 rfl rfl rfl (hq.2.2.2.2.2.2.1) (hts (.initialized RX7) (by decide +kernel)) (by decide +kernel) ⟨Nat.le_of_ble_eq_true rfl, Nat.le_of_ble_eq_true rfl⟩, rfl, hts (.instanceMethod yX7_init) (by decide +kernel)⟩ ⟨kb_c, kb_m (hK.sub (tys' := []) [] rfl) hq⟩ rfl rfl hl.1 rfl (lv_room (Nat.le_of_ble_eq_true rfl)) dX2_init_30 ⟨Nat.le_of_ble_eq_true rfl, Nat.le_of_ble_eq_true rfl⟩) hS (fun q _ h => hFc q h) hFc (fun u t H_23 locs ht hvm hw hB hz1 hk1 hS => ?_)
  obtain ⟨q69, hP1, hK1, hD1⟩ := hB
  rw [ht] at hP1
  obtain ⟨hP, hD⟩ := va_join (wr := [(h0, .inr (2, [.ref q1, .int 0])), (q1, .inl (c1, 40, .inr (.inr (.inr (.inr f67)))))]) (w1 := [(q68, .inr (7, [.ref q69, .int 0, .int 0, .int 0, .int 0, .int 0, .int 0]))]) hP hD [2] [0, 1] rfl rfl (by decide) (by decide) hk1 hFc hP1 hD1
  have hK : va_K (dC, dI) vwCl [(c1, .object RX7)] s := hK.app (va_K.moved hvm.symm hK1)
  have hP : va_P (dC, dI) vwCl [(h0, .inr (2, [.ref q1, .int 0])), (q1, .inl (c1, 40, .inr (.inr (.inr (.inr f67))))), (q68, .inr (7, [.ref q69, .int 0, .int 0, .int 0, .int 0, .int 0, .int 0]))] H_23 := hP
  have hD : va_D (va_A [(h0, .inr (2, [.null, .int 0]))] s.heap.size) [(h0, .inr (2, [.ref q1, .int 0])), (q1, .inl (c1, 40, .inr (.inr (.inr (.inr f67))))), (q68, .inr (7, [.ref q69, .int 0, .int 0, .int 0, .int 0, .int 0, .int 0]))] := hD
  refine W.widen (k := 47) (n := 362) (Nat.le_of_ble_eq_true rfl) (Nat.le_of_ble_eq_true rfl) ?_
  refine va_astq (r := (RX7, TX7, 7)) hx hb hK hP hD hS 1 0 2 7 rfl rfl rfl rfl (show vp_in 22 40 by unfold vp_in; decide) dX2_init_33 (fun H locs hP hD hS => ?_)
  have hP : va_P (dC, dI) vwCl [(h0, .inr (2, [.ref q1, .int 0])), (q1, .inl (c1, 40, .inr (.inr (.inr (.inr (va_up f67 22 (some q68))))))), (q68, .inr (7, [.ref q69, .int 0, .int 0, .int 0, .int 0, .int 0, .int 0]))] H := hP
  have hD : va_D (va_A [(h0, .inr (2, [.null, .int 0]))] s.heap.size) [(h0, .inr (2, [.ref q1, .int 0])), (q1, .inl (c1, 40, .inr (.inr (.inr (.inr (va_up f67 22 (some q68))))))), (q68, .inr (7, [.ref q69, .int 0, .int 0, .int 0, .int 0, .int 0, .int 0]))] := hD
  generalize (va_up f67 22 (some q68)) = f70 at hP hD
  have hP := hP.sub (ws' := [(h0, .inr (2, [.ref q1, .int 0])), (q1, .inl (c1, 40, .inr (.inr (.inr (.inr f70)))))]) [0, 1] rfl
  have hD := hD.sub (ws' := [(h0, .inr (2, [.ref q1, .int 0])), (q1, .inl (c1, 40, .inr (.inr (.inr (.inr f70)))))]) [0, 1] (by decide) rfl
  refine lv_iinc (v := 23) (lv' := [(1, .int 23), (0, .ref h0)]) hx hb dX2_init_34 hl (k := 0) rfl (by decide) (by decide) rfl (fun ls hl => ?_)
  refine lv_goto (tgt := 15) hx hb dX2_init_37 (by decide) ?_
  refine lv_iload_n hx hb dX2_init_15 rfl (lv_at hl 0 rfl) ?_
  refine lv_bipush (v := 40) hx hb dX2_init_16 (by decide) ?_
  refine lv_icmp_ge (tgt := 40) hx hb dX2_init_18 (by decide) (fun c => absurd c (by decide)) (fun _ => ?_)
  refine lv_aload_n hx hb dX2_init_21 rfl (lv_at hl 1 rfl) ?_
  refine va_get (D := (dC, dI)) (ci := 2) (v := .ref q1) (C := RX2) (T := TX2) (N := 2) hx hb hts (by decide +kernel) hown hK hP 0 rfl rfl 0 (by decide) (hts (.fieldLink RX2 11 "DearLetters$Ledger" "sales" "[LDearLetters$Sale;") (by decide +kernel)) (fun _ h9 => h9) rfl dX2_init_22 ?_
  refine lv_iload_n hx hb dX2_init_25 rfl (lv_at hl 0 rfl) ?_
  refine va_new (ci := 7) (fs := [.null, .int 0, .int 0, .int 0, .int 0, .int 0, .int 0]) (C := RX7) (T := TX7) (N := 7) hx hb hts (by decide +kernel) tyX7 tyX7_ok hown (hts (.classLink RX2 9 RX7) (by decide +kernel)) (hts (.instantiable RX7 7) (by decide +kernel)) (hts (.initialized RX7) (by decide +kernel)) hK hP hD hS hA rfl (fun j hj => by rcases (show j = 0 ∨ j = 1 ∨ j = 2 ∨ j = 3 ∨ j = 4 ∨ j = 5 ∨ j = 6 by omega) with rfl | rfl | rfl | rfl | rfl | rfl | rfl <;> rfl) (Nat.le_of_ble_eq_true rfl) (Nat.le_of_ble_eq_true rfl) dX2_init_26 (fun q71 H hP hD hS => ?_)
  have hP : va_P (dC, dI) vwCl [(h0, .inr (2, [.ref q1, .int 0])), (q1, .inl (c1, 40, .inr (.inr (.inr (.inr f70))))), (q71, .inr (7, [.null, .int 0, .int 0, .int 0, .int 0, .int 0, .int 0]))] H := hP
  have hD : va_D (va_A [(h0, .inr (2, [.null, .int 0]))] s.heap.size) [(h0, .inr (2, [.ref q1, .int 0])), (q1, .inl (c1, 40, .inr (.inr (.inr (.inr f70))))), (q71, .inr (7, [.null, .int 0, .int 0, .int 0, .int 0, .int 0, .int 0]))] := hD
  refine W.widen (k := 48) (n := 369) (Nat.le_of_ble_eq_true rfl) (Nat.le_of_ble_eq_true rfl) ?_
  refine lv_dup hx hb dX2_init_29 rfl ?_
  have hFc := va_free (wc := [(q71, .inr (7, [.null, .int 0, .int 0, .int 0, .int 0, .int 0, .int 0]))]) hD hS hA [2] rfl
  refine va_callv (va_runIN (As := []) (rest := [.ref q71, .int 23, .ref q1]) ⟨hx, hb, hml, hown, hts⟩ (ci_Sale l dC dI H q71 (hP.sub (ws' := [(q71, .inr (7, [.null, .int 0, .int 0, .int 0, .int 0, .int 0, .int 0]))]) [2] rfl) ((hD.sub (ws' := [(q71, .inr (7, [.null, .int 0, .int 0, .int 0, .int 0, .int 0, .int 0]))]) [2] (by decide) rfl).weaken (fun _ _ _ _ => trivial))) ⟨va_cnB 0 hts gX2_init_X7_init_n17 rfl rfl rfl (hq.2.2.2.2.2.2.1) (hts (.initialized RX7) (by decide +kernel)) (by decide +kernel) ⟨Nat.le_of_ble_eq_true rfl, Nat.le_of_ble_eq_true rfl⟩, rfl, hts (.instanceMethod yX7_init) (by decide +kernel)⟩ ⟨kb_c, kb_m (hK.sub (tys' := []) [] rfl) hq⟩ rfl rfl hl.1 rfl (lv_room (Nat.le_of_ble_eq_true rfl)) dX2_init_30 ⟨Nat.le_of_ble_eq_true rfl, Nat.le_of_ble_eq_true rfl⟩) hS (fun q _ h => hFc q h) hFc (fun u t H_24 locs ht hvm hw hB hz1 hk1 hS => ?_)
  obtain ⟨q72, hP1, hK1, hD1⟩ := hB
  rw [ht] at hP1
  obtain ⟨hP, hD⟩ := va_join (wr := [(h0, .inr (2, [.ref q1, .int 0])), (q1, .inl (c1, 40, .inr (.inr (.inr (.inr f70)))))]) (w1 := [(q71, .inr (7, [.ref q72, .int 0, .int 0, .int 0, .int 0, .int 0, .int 0]))]) hP hD [2] [0, 1] rfl rfl (by decide) (by decide) hk1 hFc hP1 hD1
  have hK : va_K (dC, dI) vwCl [(c1, .object RX7)] s := hK.app (va_K.moved hvm.symm hK1)
  have hP : va_P (dC, dI) vwCl [(h0, .inr (2, [.ref q1, .int 0])), (q1, .inl (c1, 40, .inr (.inr (.inr (.inr f70))))), (q71, .inr (7, [.ref q72, .int 0, .int 0, .int 0, .int 0, .int 0, .int 0]))] H_24 := hP
  have hD : va_D (va_A [(h0, .inr (2, [.null, .int 0]))] s.heap.size) [(h0, .inr (2, [.ref q1, .int 0])), (q1, .inl (c1, 40, .inr (.inr (.inr (.inr f70))))), (q71, .inr (7, [.ref q72, .int 0, .int 0, .int 0, .int 0, .int 0, .int 0]))] := hD
  refine W.widen (k := 49) (n := 376) (Nat.le_of_ble_eq_true rfl) (Nat.le_of_ble_eq_true rfl) ?_
  refine va_astq (r := (RX7, TX7, 7)) hx hb hK hP hD hS 1 0 2 7 rfl rfl rfl rfl (show vp_in 23 40 by unfold vp_in; decide) dX2_init_33 (fun H locs hP hD hS => ?_)
  have hP : va_P (dC, dI) vwCl [(h0, .inr (2, [.ref q1, .int 0])), (q1, .inl (c1, 40, .inr (.inr (.inr (.inr (va_up f70 23 (some q71))))))), (q71, .inr (7, [.ref q72, .int 0, .int 0, .int 0, .int 0, .int 0, .int 0]))] H := hP
  have hD : va_D (va_A [(h0, .inr (2, [.null, .int 0]))] s.heap.size) [(h0, .inr (2, [.ref q1, .int 0])), (q1, .inl (c1, 40, .inr (.inr (.inr (.inr (va_up f70 23 (some q71))))))), (q71, .inr (7, [.ref q72, .int 0, .int 0, .int 0, .int 0, .int 0, .int 0]))] := hD
  generalize (va_up f70 23 (some q71)) = f73 at hP hD
  have hP := hP.sub (ws' := [(h0, .inr (2, [.ref q1, .int 0])), (q1, .inl (c1, 40, .inr (.inr (.inr (.inr f73)))))]) [0, 1] rfl
  have hD := hD.sub (ws' := [(h0, .inr (2, [.ref q1, .int 0])), (q1, .inl (c1, 40, .inr (.inr (.inr (.inr f73)))))]) [0, 1] (by decide) rfl
  refine lv_iinc (v := 24) (lv' := [(1, .int 24), (0, .ref h0)]) hx hb dX2_init_34 hl (k := 0) rfl (by decide) (by decide) rfl (fun ls hl => ?_)
  refine lv_goto (tgt := 15) hx hb dX2_init_37 (by decide) ?_
  refine lv_iload_n hx hb dX2_init_15 rfl (lv_at hl 0 rfl) ?_
  refine lv_bipush (v := 40) hx hb dX2_init_16 (by decide) ?_
  refine lv_icmp_ge (tgt := 40) hx hb dX2_init_18 (by decide) (fun c => absurd c (by decide)) (fun _ => ?_)
  refine lv_aload_n hx hb dX2_init_21 rfl (lv_at hl 1 rfl) ?_
  refine va_get (D := (dC, dI)) (ci := 2) (v := .ref q1) (C := RX2) (T := TX2) (N := 2) hx hb hts (by decide +kernel) hown hK hP 0 rfl rfl 0 (by decide) (hts (.fieldLink RX2 11 "DearLetters$Ledger" "sales" "[LDearLetters$Sale;") (by decide +kernel)) (fun _ h9 => h9) rfl dX2_init_22 ?_
  refine lv_iload_n hx hb dX2_init_25 rfl (lv_at hl 0 rfl) ?_
  refine va_new (ci := 7) (fs := [.null, .int 0, .int 0, .int 0, .int 0, .int 0, .int 0]) (C := RX7) (T := TX7) (N := 7) hx hb hts (by decide +kernel) tyX7 tyX7_ok hown (hts (.classLink RX2 9 RX7) (by decide +kernel)) (hts (.instantiable RX7 7) (by decide +kernel)) (hts (.initialized RX7) (by decide +kernel)) hK hP hD hS hA rfl (fun j hj => by rcases (show j = 0 ∨ j = 1 ∨ j = 2 ∨ j = 3 ∨ j = 4 ∨ j = 5 ∨ j = 6 by omega) with rfl | rfl | rfl | rfl | rfl | rfl | rfl <;> rfl) (Nat.le_of_ble_eq_true rfl) (Nat.le_of_ble_eq_true rfl) dX2_init_26 (fun q74 H hP hD hS => ?_)
  have hP : va_P (dC, dI) vwCl [(h0, .inr (2, [.ref q1, .int 0])), (q1, .inl (c1, 40, .inr (.inr (.inr (.inr f73))))), (q74, .inr (7, [.null, .int 0, .int 0, .int 0, .int 0, .int 0, .int 0]))] H := hP
  have hD : va_D (va_A [(h0, .inr (2, [.null, .int 0]))] s.heap.size) [(h0, .inr (2, [.ref q1, .int 0])), (q1, .inl (c1, 40, .inr (.inr (.inr (.inr f73))))), (q74, .inr (7, [.null, .int 0, .int 0, .int 0, .int 0, .int 0, .int 0]))] := hD
  refine W.widen (k := 50) (n := 383) (Nat.le_of_ble_eq_true rfl) (Nat.le_of_ble_eq_true rfl) ?_
  refine lv_dup hx hb dX2_init_29 rfl ?_
  have hFc := va_free (wc := [(q74, .inr (7, [.null, .int 0, .int 0, .int 0, .int 0, .int 0, .int 0]))]) hD hS hA [2] rfl
  refine va_callv (va_runIN (As := []) (rest := [.ref q74, .int 24, .ref q1]) ⟨hx, hb, hml, hown, hts⟩ (ci_Sale l dC dI H q74 (hP.sub (ws' := [(q74, .inr (7, [.null, .int 0, .int 0, .int 0, .int 0, .int 0, .int 0]))]) [2] rfl) ((hD.sub (ws' := [(q74, .inr (7, [.null, .int 0, .int 0, .int 0, .int 0, .int 0, .int 0]))]) [2] (by decide) rfl).weaken (fun _ _ _ _ => trivial))) ⟨va_cnB 0 hts gX2_init_X7_init_n17 rfl rfl rfl (hq.2.2.2.2.2.2.1) (hts (.initialized RX7) (by decide +kernel)) (by decide +kernel) ⟨Nat.le_of_ble_eq_true rfl, Nat.le_of_ble_eq_true rfl⟩, rfl, hts (.instanceMethod yX7_init) (by decide +kernel)⟩ ⟨kb_c, kb_m (hK.sub (tys' := []) [] rfl) hq⟩ rfl rfl hl.1 rfl (lv_room (Nat.le_of_ble_eq_true rfl)) dX2_init_30 ⟨Nat.le_of_ble_eq_true rfl, Nat.le_of_ble_eq_true rfl⟩) hS (fun q _ h => hFc q h) hFc (fun u t H_25 locs ht hvm hw hB hz1 hk1 hS => ?_)
  obtain ⟨q75, hP1, hK1, hD1⟩ := hB
  rw [ht] at hP1
  obtain ⟨hP, hD⟩ := va_join (wr := [(h0, .inr (2, [.ref q1, .int 0])), (q1, .inl (c1, 40, .inr (.inr (.inr (.inr f73)))))]) (w1 := [(q74, .inr (7, [.ref q75, .int 0, .int 0, .int 0, .int 0, .int 0, .int 0]))]) hP hD [2] [0, 1] rfl rfl (by decide) (by decide) hk1 hFc hP1 hD1
  have hK : va_K (dC, dI) vwCl [(c1, .object RX7)] s := hK.app (va_K.moved hvm.symm hK1)
  have hP : va_P (dC, dI) vwCl [(h0, .inr (2, [.ref q1, .int 0])), (q1, .inl (c1, 40, .inr (.inr (.inr (.inr f73))))), (q74, .inr (7, [.ref q75, .int 0, .int 0, .int 0, .int 0, .int 0, .int 0]))] H_25 := hP
  have hD : va_D (va_A [(h0, .inr (2, [.null, .int 0]))] s.heap.size) [(h0, .inr (2, [.ref q1, .int 0])), (q1, .inl (c1, 40, .inr (.inr (.inr (.inr f73))))), (q74, .inr (7, [.ref q75, .int 0, .int 0, .int 0, .int 0, .int 0, .int 0]))] := hD
  refine W.widen (k := 51) (n := 390) (Nat.le_of_ble_eq_true rfl) (Nat.le_of_ble_eq_true rfl) ?_
  refine va_astq (r := (RX7, TX7, 7)) hx hb hK hP hD hS 1 0 2 7 rfl rfl rfl rfl (show vp_in 24 40 by unfold vp_in; decide) dX2_init_33 (fun H locs hP hD hS => ?_)
  have hP : va_P (dC, dI) vwCl [(h0, .inr (2, [.ref q1, .int 0])), (q1, .inl (c1, 40, .inr (.inr (.inr (.inr (va_up f73 24 (some q74))))))), (q74, .inr (7, [.ref q75, .int 0, .int 0, .int 0, .int 0, .int 0, .int 0]))] H := hP
  have hD : va_D (va_A [(h0, .inr (2, [.null, .int 0]))] s.heap.size) [(h0, .inr (2, [.ref q1, .int 0])), (q1, .inl (c1, 40, .inr (.inr (.inr (.inr (va_up f73 24 (some q74))))))), (q74, .inr (7, [.ref q75, .int 0, .int 0, .int 0, .int 0, .int 0, .int 0]))] := hD
  generalize (va_up f73 24 (some q74)) = f76 at hP hD
  have hP := hP.sub (ws' := [(h0, .inr (2, [.ref q1, .int 0])), (q1, .inl (c1, 40, .inr (.inr (.inr (.inr f76)))))]) [0, 1] rfl
  have hD := hD.sub (ws' := [(h0, .inr (2, [.ref q1, .int 0])), (q1, .inl (c1, 40, .inr (.inr (.inr (.inr f76)))))]) [0, 1] (by decide) rfl
  refine lv_iinc (v := 25) (lv' := [(1, .int 25), (0, .ref h0)]) hx hb dX2_init_34 hl (k := 0) rfl (by decide) (by decide) rfl (fun ls hl => ?_)
  refine lv_goto (tgt := 15) hx hb dX2_init_37 (by decide) ?_
  refine lv_iload_n hx hb dX2_init_15 rfl (lv_at hl 0 rfl) ?_
  refine lv_bipush (v := 40) hx hb dX2_init_16 (by decide) ?_
  refine lv_icmp_ge (tgt := 40) hx hb dX2_init_18 (by decide) (fun c => absurd c (by decide)) (fun _ => ?_)
  refine lv_aload_n hx hb dX2_init_21 rfl (lv_at hl 1 rfl) ?_
  refine va_get (D := (dC, dI)) (ci := 2) (v := .ref q1) (C := RX2) (T := TX2) (N := 2) hx hb hts (by decide +kernel) hown hK hP 0 rfl rfl 0 (by decide) (hts (.fieldLink RX2 11 "DearLetters$Ledger" "sales" "[LDearLetters$Sale;") (by decide +kernel)) (fun _ h9 => h9) rfl dX2_init_22 ?_
  refine lv_iload_n hx hb dX2_init_25 rfl (lv_at hl 0 rfl) ?_
  refine va_new (ci := 7) (fs := [.null, .int 0, .int 0, .int 0, .int 0, .int 0, .int 0]) (C := RX7) (T := TX7) (N := 7) hx hb hts (by decide +kernel) tyX7 tyX7_ok hown (hts (.classLink RX2 9 RX7) (by decide +kernel)) (hts (.instantiable RX7 7) (by decide +kernel)) (hts (.initialized RX7) (by decide +kernel)) hK hP hD hS hA rfl (fun j hj => by rcases (show j = 0 ∨ j = 1 ∨ j = 2 ∨ j = 3 ∨ j = 4 ∨ j = 5 ∨ j = 6 by omega) with rfl | rfl | rfl | rfl | rfl | rfl | rfl <;> rfl) (Nat.le_of_ble_eq_true rfl) (Nat.le_of_ble_eq_true rfl) dX2_init_26 (fun q77 H hP hD hS => ?_)
  have hP : va_P (dC, dI) vwCl [(h0, .inr (2, [.ref q1, .int 0])), (q1, .inl (c1, 40, .inr (.inr (.inr (.inr f76))))), (q77, .inr (7, [.null, .int 0, .int 0, .int 0, .int 0, .int 0, .int 0]))] H := hP
  have hD : va_D (va_A [(h0, .inr (2, [.null, .int 0]))] s.heap.size) [(h0, .inr (2, [.ref q1, .int 0])), (q1, .inl (c1, 40, .inr (.inr (.inr (.inr f76))))), (q77, .inr (7, [.null, .int 0, .int 0, .int 0, .int 0, .int 0, .int 0]))] := hD
  refine W.widen (k := 52) (n := 397) (Nat.le_of_ble_eq_true rfl) (Nat.le_of_ble_eq_true rfl) ?_
  refine lv_dup hx hb dX2_init_29 rfl ?_
  have hFc := va_free (wc := [(q77, .inr (7, [.null, .int 0, .int 0, .int 0, .int 0, .int 0, .int 0]))]) hD hS hA [2] rfl
  refine va_callv (va_runIN (As := []) (rest := [.ref q77, .int 25, .ref q1]) ⟨hx, hb, hml, hown, hts⟩ (ci_Sale l dC dI H q77 (hP.sub (ws' := [(q77, .inr (7, [.null, .int 0, .int 0, .int 0, .int 0, .int 0, .int 0]))]) [2] rfl) ((hD.sub (ws' := [(q77, .inr (7, [.null, .int 0, .int 0, .int 0, .int 0, .int 0, .int 0]))]) [2] (by decide) rfl).weaken (fun _ _ _ _ => trivial))) ⟨va_cnB 0 hts gX2_init_X7_init_n17 rfl rfl rfl (hq.2.2.2.2.2.2.1) (hts (.initialized RX7) (by decide +kernel)) (by decide +kernel) ⟨Nat.le_of_ble_eq_true rfl, Nat.le_of_ble_eq_true rfl⟩, rfl, hts (.instanceMethod yX7_init) (by decide +kernel)⟩ ⟨kb_c, kb_m (hK.sub (tys' := []) [] rfl) hq⟩ rfl rfl hl.1 rfl (lv_room (Nat.le_of_ble_eq_true rfl)) dX2_init_30 ⟨Nat.le_of_ble_eq_true rfl, Nat.le_of_ble_eq_true rfl⟩) hS (fun q _ h => hFc q h) hFc (fun u t H_26 locs ht hvm hw hB hz1 hk1 hS => ?_)
  obtain ⟨q78, hP1, hK1, hD1⟩ := hB
  rw [ht] at hP1
  obtain ⟨hP, hD⟩ := va_join (wr := [(h0, .inr (2, [.ref q1, .int 0])), (q1, .inl (c1, 40, .inr (.inr (.inr (.inr f76)))))]) (w1 := [(q77, .inr (7, [.ref q78, .int 0, .int 0, .int 0, .int 0, .int 0, .int 0]))]) hP hD [2] [0, 1] rfl rfl (by decide) (by decide) hk1 hFc hP1 hD1
  have hK : va_K (dC, dI) vwCl [(c1, .object RX7)] s := hK.app (va_K.moved hvm.symm hK1)
  have hP : va_P (dC, dI) vwCl [(h0, .inr (2, [.ref q1, .int 0])), (q1, .inl (c1, 40, .inr (.inr (.inr (.inr f76))))), (q77, .inr (7, [.ref q78, .int 0, .int 0, .int 0, .int 0, .int 0, .int 0]))] H_26 := hP
  have hD : va_D (va_A [(h0, .inr (2, [.null, .int 0]))] s.heap.size) [(h0, .inr (2, [.ref q1, .int 0])), (q1, .inl (c1, 40, .inr (.inr (.inr (.inr f76))))), (q77, .inr (7, [.ref q78, .int 0, .int 0, .int 0, .int 0, .int 0, .int 0]))] := hD
  refine W.widen (k := 53) (n := 404) (Nat.le_of_ble_eq_true rfl) (Nat.le_of_ble_eq_true rfl) ?_
  refine va_astq (r := (RX7, TX7, 7)) hx hb hK hP hD hS 1 0 2 7 rfl rfl rfl rfl (show vp_in 25 40 by unfold vp_in; decide) dX2_init_33 (fun H locs hP hD hS => ?_)
  have hP : va_P (dC, dI) vwCl [(h0, .inr (2, [.ref q1, .int 0])), (q1, .inl (c1, 40, .inr (.inr (.inr (.inr (va_up f76 25 (some q77))))))), (q77, .inr (7, [.ref q78, .int 0, .int 0, .int 0, .int 0, .int 0, .int 0]))] H := hP
  have hD : va_D (va_A [(h0, .inr (2, [.null, .int 0]))] s.heap.size) [(h0, .inr (2, [.ref q1, .int 0])), (q1, .inl (c1, 40, .inr (.inr (.inr (.inr (va_up f76 25 (some q77))))))), (q77, .inr (7, [.ref q78, .int 0, .int 0, .int 0, .int 0, .int 0, .int 0]))] := hD
  generalize (va_up f76 25 (some q77)) = f79 at hP hD
  have hP := hP.sub (ws' := [(h0, .inr (2, [.ref q1, .int 0])), (q1, .inl (c1, 40, .inr (.inr (.inr (.inr f79)))))]) [0, 1] rfl
  have hD := hD.sub (ws' := [(h0, .inr (2, [.ref q1, .int 0])), (q1, .inl (c1, 40, .inr (.inr (.inr (.inr f79)))))]) [0, 1] (by decide) rfl
  refine lv_iinc (v := 26) (lv' := [(1, .int 26), (0, .ref h0)]) hx hb dX2_init_34 hl (k := 0) rfl (by decide) (by decide) rfl (fun ls hl => ?_)
  refine lv_goto (tgt := 15) hx hb dX2_init_37 (by decide) ?_
  refine lv_iload_n hx hb dX2_init_15 rfl (lv_at hl 0 rfl) ?_
  refine lv_bipush (v := 40) hx hb dX2_init_16 (by decide) ?_
  refine lv_icmp_ge (tgt := 40) hx hb dX2_init_18 (by decide) (fun c => absurd c (by decide)) (fun _ => ?_)
  refine lv_aload_n hx hb dX2_init_21 rfl (lv_at hl 1 rfl) ?_
  refine va_get (D := (dC, dI)) (ci := 2) (v := .ref q1) (C := RX2) (T := TX2) (N := 2) hx hb hts (by decide +kernel) hown hK hP 0 rfl rfl 0 (by decide) (hts (.fieldLink RX2 11 "DearLetters$Ledger" "sales" "[LDearLetters$Sale;") (by decide +kernel)) (fun _ h9 => h9) rfl dX2_init_22 ?_
  refine lv_iload_n hx hb dX2_init_25 rfl (lv_at hl 0 rfl) ?_
  refine va_new (ci := 7) (fs := [.null, .int 0, .int 0, .int 0, .int 0, .int 0, .int 0]) (C := RX7) (T := TX7) (N := 7) hx hb hts (by decide +kernel) tyX7 tyX7_ok hown (hts (.classLink RX2 9 RX7) (by decide +kernel)) (hts (.instantiable RX7 7) (by decide +kernel)) (hts (.initialized RX7) (by decide +kernel)) hK hP hD hS hA rfl (fun j hj => by rcases (show j = 0 ∨ j = 1 ∨ j = 2 ∨ j = 3 ∨ j = 4 ∨ j = 5 ∨ j = 6 by omega) with rfl | rfl | rfl | rfl | rfl | rfl | rfl <;> rfl) (Nat.le_of_ble_eq_true rfl) (Nat.le_of_ble_eq_true rfl) dX2_init_26 (fun q80 H hP hD hS => ?_)
  have hP : va_P (dC, dI) vwCl [(h0, .inr (2, [.ref q1, .int 0])), (q1, .inl (c1, 40, .inr (.inr (.inr (.inr f79))))), (q80, .inr (7, [.null, .int 0, .int 0, .int 0, .int 0, .int 0, .int 0]))] H := hP
  have hD : va_D (va_A [(h0, .inr (2, [.null, .int 0]))] s.heap.size) [(h0, .inr (2, [.ref q1, .int 0])), (q1, .inl (c1, 40, .inr (.inr (.inr (.inr f79))))), (q80, .inr (7, [.null, .int 0, .int 0, .int 0, .int 0, .int 0, .int 0]))] := hD
  refine W.widen (k := 54) (n := 411) (Nat.le_of_ble_eq_true rfl) (Nat.le_of_ble_eq_true rfl) ?_
  refine lv_dup hx hb dX2_init_29 rfl ?_
  have hFc := va_free (wc := [(q80, .inr (7, [.null, .int 0, .int 0, .int 0, .int 0, .int 0, .int 0]))]) hD hS hA [2] rfl
  refine va_callv (va_runIN (As := []) (rest := [.ref q80, .int 26, .ref q1]) ⟨hx, hb, hml, hown, hts⟩ (ci_Sale l dC dI H q80 (hP.sub (ws' := [(q80, .inr (7, [.null, .int 0, .int 0, .int 0, .int 0, .int 0, .int 0]))]) [2] rfl) ((hD.sub (ws' := [(q80, .inr (7, [.null, .int 0, .int 0, .int 0, .int 0, .int 0, .int 0]))]) [2] (by decide) rfl).weaken (fun _ _ _ _ => trivial))) ⟨va_cnB 0 hts gX2_init_X7_init_n17 rfl rfl rfl (hq.2.2.2.2.2.2.1) (hts (.initialized RX7) (by decide +kernel)) (by decide +kernel) ⟨Nat.le_of_ble_eq_true rfl, Nat.le_of_ble_eq_true rfl⟩, rfl, hts (.instanceMethod yX7_init) (by decide +kernel)⟩ ⟨kb_c, kb_m (hK.sub (tys' := []) [] rfl) hq⟩ rfl rfl hl.1 rfl (lv_room (Nat.le_of_ble_eq_true rfl)) dX2_init_30 ⟨Nat.le_of_ble_eq_true rfl, Nat.le_of_ble_eq_true rfl⟩) hS (fun q _ h => hFc q h) hFc (fun u t H_27 locs ht hvm hw hB hz1 hk1 hS => ?_)
  obtain ⟨q81, hP1, hK1, hD1⟩ := hB
  rw [ht] at hP1
  obtain ⟨hP, hD⟩ := va_join (wr := [(h0, .inr (2, [.ref q1, .int 0])), (q1, .inl (c1, 40, .inr (.inr (.inr (.inr f79)))))]) (w1 := [(q80, .inr (7, [.ref q81, .int 0, .int 0, .int 0, .int 0, .int 0, .int 0]))]) hP hD [2] [0, 1] rfl rfl (by decide) (by decide) hk1 hFc hP1 hD1
  have hK : va_K (dC, dI) vwCl [(c1, .object RX7)] s := hK.app (va_K.moved hvm.symm hK1)
  have hP : va_P (dC, dI) vwCl [(h0, .inr (2, [.ref q1, .int 0])), (q1, .inl (c1, 40, .inr (.inr (.inr (.inr f79))))), (q80, .inr (7, [.ref q81, .int 0, .int 0, .int 0, .int 0, .int 0, .int 0]))] H_27 := hP
  have hD : va_D (va_A [(h0, .inr (2, [.null, .int 0]))] s.heap.size) [(h0, .inr (2, [.ref q1, .int 0])), (q1, .inl (c1, 40, .inr (.inr (.inr (.inr f79))))), (q80, .inr (7, [.ref q81, .int 0, .int 0, .int 0, .int 0, .int 0, .int 0]))] := hD
  refine W.widen (k := 55) (n := 418) (Nat.le_of_ble_eq_true rfl) (Nat.le_of_ble_eq_true rfl) ?_
  refine va_astq (r := (RX7, TX7, 7)) hx hb hK hP hD hS 1 0 2 7 rfl rfl rfl rfl (show vp_in 26 40 by unfold vp_in; decide) dX2_init_33 (fun H locs hP hD hS => ?_)
  have hP : va_P (dC, dI) vwCl [(h0, .inr (2, [.ref q1, .int 0])), (q1, .inl (c1, 40, .inr (.inr (.inr (.inr (va_up f79 26 (some q80))))))), (q80, .inr (7, [.ref q81, .int 0, .int 0, .int 0, .int 0, .int 0, .int 0]))] H := hP
  have hD : va_D (va_A [(h0, .inr (2, [.null, .int 0]))] s.heap.size) [(h0, .inr (2, [.ref q1, .int 0])), (q1, .inl (c1, 40, .inr (.inr (.inr (.inr (va_up f79 26 (some q80))))))), (q80, .inr (7, [.ref q81, .int 0, .int 0, .int 0, .int 0, .int 0, .int 0]))] := hD
  generalize (va_up f79 26 (some q80)) = f82 at hP hD
  have hP := hP.sub (ws' := [(h0, .inr (2, [.ref q1, .int 0])), (q1, .inl (c1, 40, .inr (.inr (.inr (.inr f82)))))]) [0, 1] rfl
  have hD := hD.sub (ws' := [(h0, .inr (2, [.ref q1, .int 0])), (q1, .inl (c1, 40, .inr (.inr (.inr (.inr f82)))))]) [0, 1] (by decide) rfl
  refine lv_iinc (v := 27) (lv' := [(1, .int 27), (0, .ref h0)]) hx hb dX2_init_34 hl (k := 0) rfl (by decide) (by decide) rfl (fun ls hl => ?_)
  refine lv_goto (tgt := 15) hx hb dX2_init_37 (by decide) ?_
  refine lv_iload_n hx hb dX2_init_15 rfl (lv_at hl 0 rfl) ?_
  refine lv_bipush (v := 40) hx hb dX2_init_16 (by decide) ?_
  refine lv_icmp_ge (tgt := 40) hx hb dX2_init_18 (by decide) (fun c => absurd c (by decide)) (fun _ => ?_)
  refine lv_aload_n hx hb dX2_init_21 rfl (lv_at hl 1 rfl) ?_
  refine va_get (D := (dC, dI)) (ci := 2) (v := .ref q1) (C := RX2) (T := TX2) (N := 2) hx hb hts (by decide +kernel) hown hK hP 0 rfl rfl 0 (by decide) (hts (.fieldLink RX2 11 "DearLetters$Ledger" "sales" "[LDearLetters$Sale;") (by decide +kernel)) (fun _ h9 => h9) rfl dX2_init_22 ?_
  refine lv_iload_n hx hb dX2_init_25 rfl (lv_at hl 0 rfl) ?_
  refine va_new (ci := 7) (fs := [.null, .int 0, .int 0, .int 0, .int 0, .int 0, .int 0]) (C := RX7) (T := TX7) (N := 7) hx hb hts (by decide +kernel) tyX7 tyX7_ok hown (hts (.classLink RX2 9 RX7) (by decide +kernel)) (hts (.instantiable RX7 7) (by decide +kernel)) (hts (.initialized RX7) (by decide +kernel)) hK hP hD hS hA rfl (fun j hj => by rcases (show j = 0 ∨ j = 1 ∨ j = 2 ∨ j = 3 ∨ j = 4 ∨ j = 5 ∨ j = 6 by omega) with rfl | rfl | rfl | rfl | rfl | rfl | rfl <;> rfl) (Nat.le_of_ble_eq_true rfl) (Nat.le_of_ble_eq_true rfl) dX2_init_26 (fun q83 H hP hD hS => ?_)
  have hP : va_P (dC, dI) vwCl [(h0, .inr (2, [.ref q1, .int 0])), (q1, .inl (c1, 40, .inr (.inr (.inr (.inr f82))))), (q83, .inr (7, [.null, .int 0, .int 0, .int 0, .int 0, .int 0, .int 0]))] H := hP
  have hD : va_D (va_A [(h0, .inr (2, [.null, .int 0]))] s.heap.size) [(h0, .inr (2, [.ref q1, .int 0])), (q1, .inl (c1, 40, .inr (.inr (.inr (.inr f82))))), (q83, .inr (7, [.null, .int 0, .int 0, .int 0, .int 0, .int 0, .int 0]))] := hD
  refine W.widen (k := 56) (n := 425) (Nat.le_of_ble_eq_true rfl) (Nat.le_of_ble_eq_true rfl) ?_
  refine lv_dup hx hb dX2_init_29 rfl ?_
  have hFc := va_free (wc := [(q83, .inr (7, [.null, .int 0, .int 0, .int 0, .int 0, .int 0, .int 0]))]) hD hS hA [2] rfl
  refine va_callv (va_runIN (As := []) (rest := [.ref q83, .int 27, .ref q1]) ⟨hx, hb, hml, hown, hts⟩ (ci_Sale l dC dI H q83 (hP.sub (ws' := [(q83, .inr (7, [.null, .int 0, .int 0, .int 0, .int 0, .int 0, .int 0]))]) [2] rfl) ((hD.sub (ws' := [(q83, .inr (7, [.null, .int 0, .int 0, .int 0, .int 0, .int 0, .int 0]))]) [2] (by decide) rfl).weaken (fun _ _ _ _ => trivial))) ⟨va_cnB 0 hts gX2_init_X7_init_n17 rfl rfl rfl (hq.2.2.2.2.2.2.1) (hts (.initialized RX7) (by decide +kernel)) (by decide +kernel) ⟨Nat.le_of_ble_eq_true rfl, Nat.le_of_ble_eq_true rfl⟩, rfl, hts (.instanceMethod yX7_init) (by decide +kernel)⟩ ⟨kb_c, kb_m (hK.sub (tys' := []) [] rfl) hq⟩ rfl rfl hl.1 rfl (lv_room (Nat.le_of_ble_eq_true rfl)) dX2_init_30 ⟨Nat.le_of_ble_eq_true rfl, Nat.le_of_ble_eq_true rfl⟩) hS (fun q _ h => hFc q h) hFc (fun u t H_28 locs ht hvm hw hB hz1 hk1 hS => ?_)
  obtain ⟨q84, hP1, hK1, hD1⟩ := hB
  rw [ht] at hP1
  obtain ⟨hP, hD⟩ := va_join (wr := [(h0, .inr (2, [.ref q1, .int 0])), (q1, .inl (c1, 40, .inr (.inr (.inr (.inr f82)))))]) (w1 := [(q83, .inr (7, [.ref q84, .int 0, .int 0, .int 0, .int 0, .int 0, .int 0]))]) hP hD [2] [0, 1] rfl rfl (by decide) (by decide) hk1 hFc hP1 hD1
  have hK : va_K (dC, dI) vwCl [(c1, .object RX7)] s := hK.app (va_K.moved hvm.symm hK1)
  have hP : va_P (dC, dI) vwCl [(h0, .inr (2, [.ref q1, .int 0])), (q1, .inl (c1, 40, .inr (.inr (.inr (.inr f82))))), (q83, .inr (7, [.ref q84, .int 0, .int 0, .int 0, .int 0, .int 0, .int 0]))] H_28 := hP
  have hD : va_D (va_A [(h0, .inr (2, [.null, .int 0]))] s.heap.size) [(h0, .inr (2, [.ref q1, .int 0])), (q1, .inl (c1, 40, .inr (.inr (.inr (.inr f82))))), (q83, .inr (7, [.ref q84, .int 0, .int 0, .int 0, .int 0, .int 0, .int 0]))] := hD
  refine W.widen (k := 57) (n := 432) (Nat.le_of_ble_eq_true rfl) (Nat.le_of_ble_eq_true rfl) ?_
  refine va_astq (r := (RX7, TX7, 7)) hx hb hK hP hD hS 1 0 2 7 rfl rfl rfl rfl (show vp_in 27 40 by unfold vp_in; decide) dX2_init_33 (fun H locs hP hD hS => ?_)
  have hP : va_P (dC, dI) vwCl [(h0, .inr (2, [.ref q1, .int 0])), (q1, .inl (c1, 40, .inr (.inr (.inr (.inr (va_up f82 27 (some q83))))))), (q83, .inr (7, [.ref q84, .int 0, .int 0, .int 0, .int 0, .int 0, .int 0]))] H := hP
  have hD : va_D (va_A [(h0, .inr (2, [.null, .int 0]))] s.heap.size) [(h0, .inr (2, [.ref q1, .int 0])), (q1, .inl (c1, 40, .inr (.inr (.inr (.inr (va_up f82 27 (some q83))))))), (q83, .inr (7, [.ref q84, .int 0, .int 0, .int 0, .int 0, .int 0, .int 0]))] := hD
  generalize (va_up f82 27 (some q83)) = f85 at hP hD
  have hP := hP.sub (ws' := [(h0, .inr (2, [.ref q1, .int 0])), (q1, .inl (c1, 40, .inr (.inr (.inr (.inr f85)))))]) [0, 1] rfl
  have hD := hD.sub (ws' := [(h0, .inr (2, [.ref q1, .int 0])), (q1, .inl (c1, 40, .inr (.inr (.inr (.inr f85)))))]) [0, 1] (by decide) rfl
  refine lv_iinc (v := 28) (lv' := [(1, .int 28), (0, .ref h0)]) hx hb dX2_init_34 hl (k := 0) rfl (by decide) (by decide) rfl (fun ls hl => ?_)
  refine lv_goto (tgt := 15) hx hb dX2_init_37 (by decide) ?_
  refine lv_iload_n hx hb dX2_init_15 rfl (lv_at hl 0 rfl) ?_
  refine lv_bipush (v := 40) hx hb dX2_init_16 (by decide) ?_
  refine lv_icmp_ge (tgt := 40) hx hb dX2_init_18 (by decide) (fun c => absurd c (by decide)) (fun _ => ?_)
  refine lv_aload_n hx hb dX2_init_21 rfl (lv_at hl 1 rfl) ?_
  refine va_get (D := (dC, dI)) (ci := 2) (v := .ref q1) (C := RX2) (T := TX2) (N := 2) hx hb hts (by decide +kernel) hown hK hP 0 rfl rfl 0 (by decide) (hts (.fieldLink RX2 11 "DearLetters$Ledger" "sales" "[LDearLetters$Sale;") (by decide +kernel)) (fun _ h9 => h9) rfl dX2_init_22 ?_
  refine lv_iload_n hx hb dX2_init_25 rfl (lv_at hl 0 rfl) ?_
  refine va_new (ci := 7) (fs := [.null, .int 0, .int 0, .int 0, .int 0, .int 0, .int 0]) (C := RX7) (T := TX7) (N := 7) hx hb hts (by decide +kernel) tyX7 tyX7_ok hown (hts (.classLink RX2 9 RX7) (by decide +kernel)) (hts (.instantiable RX7 7) (by decide +kernel)) (hts (.initialized RX7) (by decide +kernel)) hK hP hD hS hA rfl (fun j hj => by rcases (show j = 0 ∨ j = 1 ∨ j = 2 ∨ j = 3 ∨ j = 4 ∨ j = 5 ∨ j = 6 by omega) with rfl | rfl | rfl | rfl | rfl | rfl | rfl <;> rfl) (Nat.le_of_ble_eq_true rfl) (Nat.le_of_ble_eq_true rfl) dX2_init_26 (fun q86 H hP hD hS => ?_)
  have hP : va_P (dC, dI) vwCl [(h0, .inr (2, [.ref q1, .int 0])), (q1, .inl (c1, 40, .inr (.inr (.inr (.inr f85))))), (q86, .inr (7, [.null, .int 0, .int 0, .int 0, .int 0, .int 0, .int 0]))] H := hP
  have hD : va_D (va_A [(h0, .inr (2, [.null, .int 0]))] s.heap.size) [(h0, .inr (2, [.ref q1, .int 0])), (q1, .inl (c1, 40, .inr (.inr (.inr (.inr f85))))), (q86, .inr (7, [.null, .int 0, .int 0, .int 0, .int 0, .int 0, .int 0]))] := hD
  refine W.widen (k := 58) (n := 439) (Nat.le_of_ble_eq_true rfl) (Nat.le_of_ble_eq_true rfl) ?_
  refine lv_dup hx hb dX2_init_29 rfl ?_
  have hFc := va_free (wc := [(q86, .inr (7, [.null, .int 0, .int 0, .int 0, .int 0, .int 0, .int 0]))]) hD hS hA [2] rfl
  refine va_callv (va_runIN (As := []) (rest := [.ref q86, .int 28, .ref q1]) ⟨hx, hb, hml, hown, hts⟩ (ci_Sale l dC dI H q86 (hP.sub (ws' := [(q86, .inr (7, [.null, .int 0, .int 0, .int 0, .int 0, .int 0, .int 0]))]) [2] rfl) ((hD.sub (ws' := [(q86, .inr (7, [.null, .int 0, .int 0, .int 0, .int 0, .int 0, .int 0]))]) [2] (by decide) rfl).weaken (fun _ _ _ _ => trivial))) ⟨va_cnB 0 hts gX2_init_X7_init_n17 rfl rfl rfl (hq.2.2.2.2.2.2.1) (hts (.initialized RX7) (by decide +kernel)) (by decide +kernel) ⟨Nat.le_of_ble_eq_true rfl, Nat.le_of_ble_eq_true rfl⟩, rfl, hts (.instanceMethod yX7_init) (by decide +kernel)⟩ ⟨kb_c, kb_m (hK.sub (tys' := []) [] rfl) hq⟩ rfl rfl hl.1 rfl (lv_room (Nat.le_of_ble_eq_true rfl)) dX2_init_30 ⟨Nat.le_of_ble_eq_true rfl, Nat.le_of_ble_eq_true rfl⟩) hS (fun q _ h => hFc q h) hFc (fun u t H_29 locs ht hvm hw hB hz1 hk1 hS => ?_)
  obtain ⟨q87, hP1, hK1, hD1⟩ := hB
  rw [ht] at hP1
  obtain ⟨hP, hD⟩ := va_join (wr := [(h0, .inr (2, [.ref q1, .int 0])), (q1, .inl (c1, 40, .inr (.inr (.inr (.inr f85)))))]) (w1 := [(q86, .inr (7, [.ref q87, .int 0, .int 0, .int 0, .int 0, .int 0, .int 0]))]) hP hD [2] [0, 1] rfl rfl (by decide) (by decide) hk1 hFc hP1 hD1
  have hK : va_K (dC, dI) vwCl [(c1, .object RX7)] s := hK.app (va_K.moved hvm.symm hK1)
  have hP : va_P (dC, dI) vwCl [(h0, .inr (2, [.ref q1, .int 0])), (q1, .inl (c1, 40, .inr (.inr (.inr (.inr f85))))), (q86, .inr (7, [.ref q87, .int 0, .int 0, .int 0, .int 0, .int 0, .int 0]))] H_29 := hP
  have hD : va_D (va_A [(h0, .inr (2, [.null, .int 0]))] s.heap.size) [(h0, .inr (2, [.ref q1, .int 0])), (q1, .inl (c1, 40, .inr (.inr (.inr (.inr f85))))), (q86, .inr (7, [.ref q87, .int 0, .int 0, .int 0, .int 0, .int 0, .int 0]))] := hD
  refine W.widen (k := 59) (n := 446) (Nat.le_of_ble_eq_true rfl) (Nat.le_of_ble_eq_true rfl) ?_
  refine va_astq (r := (RX7, TX7, 7)) hx hb hK hP hD hS 1 0 2 7 rfl rfl rfl rfl (show vp_in 28 40 by unfold vp_in; decide) dX2_init_33 (fun H locs hP hD hS => ?_)
  have hP : va_P (dC, dI) vwCl [(h0, .inr (2, [.ref q1, .int 0])), (q1, .inl (c1, 40, .inr (.inr (.inr (.inr (va_up f85 28 (some q86))))))), (q86, .inr (7, [.ref q87, .int 0, .int 0, .int 0, .int 0, .int 0, .int 0]))] H := hP
  have hD : va_D (va_A [(h0, .inr (2, [.null, .int 0]))] s.heap.size) [(h0, .inr (2, [.ref q1, .int 0])), (q1, .inl (c1, 40, .inr (.inr (.inr (.inr (va_up f85 28 (some q86))))))), (q86, .inr (7, [.ref q87, .int 0, .int 0, .int 0, .int 0, .int 0, .int 0]))] := hD
  generalize (va_up f85 28 (some q86)) = f88 at hP hD
  have hP := hP.sub (ws' := [(h0, .inr (2, [.ref q1, .int 0])), (q1, .inl (c1, 40, .inr (.inr (.inr (.inr f88)))))]) [0, 1] rfl
  have hD := hD.sub (ws' := [(h0, .inr (2, [.ref q1, .int 0])), (q1, .inl (c1, 40, .inr (.inr (.inr (.inr f88)))))]) [0, 1] (by decide) rfl
  refine lv_iinc (v := 29) (lv' := [(1, .int 29), (0, .ref h0)]) hx hb dX2_init_34 hl (k := 0) rfl (by decide) (by decide) rfl (fun ls hl => ?_)
  refine lv_goto (tgt := 15) hx hb dX2_init_37 (by decide) ?_
  refine lv_iload_n hx hb dX2_init_15 rfl (lv_at hl 0 rfl) ?_
  refine lv_bipush (v := 40) hx hb dX2_init_16 (by decide) ?_
  refine lv_icmp_ge (tgt := 40) hx hb dX2_init_18 (by decide) (fun c => absurd c (by decide)) (fun _ => ?_)
  refine lv_aload_n hx hb dX2_init_21 rfl (lv_at hl 1 rfl) ?_
  refine va_get (D := (dC, dI)) (ci := 2) (v := .ref q1) (C := RX2) (T := TX2) (N := 2) hx hb hts (by decide +kernel) hown hK hP 0 rfl rfl 0 (by decide) (hts (.fieldLink RX2 11 "DearLetters$Ledger" "sales" "[LDearLetters$Sale;") (by decide +kernel)) (fun _ h9 => h9) rfl dX2_init_22 ?_
  refine lv_iload_n hx hb dX2_init_25 rfl (lv_at hl 0 rfl) ?_
  refine va_new (ci := 7) (fs := [.null, .int 0, .int 0, .int 0, .int 0, .int 0, .int 0]) (C := RX7) (T := TX7) (N := 7) hx hb hts (by decide +kernel) tyX7 tyX7_ok hown (hts (.classLink RX2 9 RX7) (by decide +kernel)) (hts (.instantiable RX7 7) (by decide +kernel)) (hts (.initialized RX7) (by decide +kernel)) hK hP hD hS hA rfl (fun j hj => by rcases (show j = 0 ∨ j = 1 ∨ j = 2 ∨ j = 3 ∨ j = 4 ∨ j = 5 ∨ j = 6 by omega) with rfl | rfl | rfl | rfl | rfl | rfl | rfl <;> rfl) (Nat.le_of_ble_eq_true rfl) (Nat.le_of_ble_eq_true rfl) dX2_init_26 (fun q89 H hP hD hS => ?_)
  have hP : va_P (dC, dI) vwCl [(h0, .inr (2, [.ref q1, .int 0])), (q1, .inl (c1, 40, .inr (.inr (.inr (.inr f88))))), (q89, .inr (7, [.null, .int 0, .int 0, .int 0, .int 0, .int 0, .int 0]))] H := hP
  have hD : va_D (va_A [(h0, .inr (2, [.null, .int 0]))] s.heap.size) [(h0, .inr (2, [.ref q1, .int 0])), (q1, .inl (c1, 40, .inr (.inr (.inr (.inr f88))))), (q89, .inr (7, [.null, .int 0, .int 0, .int 0, .int 0, .int 0, .int 0]))] := hD
  refine W.widen (k := 60) (n := 453) (Nat.le_of_ble_eq_true rfl) (Nat.le_of_ble_eq_true rfl) ?_
  refine lv_dup hx hb dX2_init_29 rfl ?_
  have hFc := va_free (wc := [(q89, .inr (7, [.null, .int 0, .int 0, .int 0, .int 0, .int 0, .int 0]))]) hD hS hA [2] rfl
  refine va_callv (va_runIN (As := []) (rest := [.ref q89, .int 29, .ref q1]) ⟨hx, hb, hml, hown, hts⟩ (ci_Sale l dC dI H q89 (hP.sub (ws' := [(q89, .inr (7, [.null, .int 0, .int 0, .int 0, .int 0, .int 0, .int 0]))]) [2] rfl) ((hD.sub (ws' := [(q89, .inr (7, [.null, .int 0, .int 0, .int 0, .int 0, .int 0, .int 0]))]) [2] (by decide) rfl).weaken (fun _ _ _ _ => trivial))) ⟨va_cnB 0 hts gX2_init_X7_init_n17 rfl rfl rfl (hq.2.2.2.2.2.2.1) (hts (.initialized RX7) (by decide +kernel)) (by decide +kernel) ⟨Nat.le_of_ble_eq_true rfl, Nat.le_of_ble_eq_true rfl⟩, rfl, hts (.instanceMethod yX7_init) (by decide +kernel)⟩ ⟨kb_c, kb_m (hK.sub (tys' := []) [] rfl) hq⟩ rfl rfl hl.1 rfl (lv_room (Nat.le_of_ble_eq_true rfl)) dX2_init_30 ⟨Nat.le_of_ble_eq_true rfl, Nat.le_of_ble_eq_true rfl⟩) hS (fun q _ h => hFc q h) hFc (fun u t H_30 locs ht hvm hw hB hz1 hk1 hS => ?_)
  obtain ⟨q90, hP1, hK1, hD1⟩ := hB
  rw [ht] at hP1
  obtain ⟨hP, hD⟩ := va_join (wr := [(h0, .inr (2, [.ref q1, .int 0])), (q1, .inl (c1, 40, .inr (.inr (.inr (.inr f88)))))]) (w1 := [(q89, .inr (7, [.ref q90, .int 0, .int 0, .int 0, .int 0, .int 0, .int 0]))]) hP hD [2] [0, 1] rfl rfl (by decide) (by decide) hk1 hFc hP1 hD1
  have hK : va_K (dC, dI) vwCl [(c1, .object RX7)] s := hK.app (va_K.moved hvm.symm hK1)
  have hP : va_P (dC, dI) vwCl [(h0, .inr (2, [.ref q1, .int 0])), (q1, .inl (c1, 40, .inr (.inr (.inr (.inr f88))))), (q89, .inr (7, [.ref q90, .int 0, .int 0, .int 0, .int 0, .int 0, .int 0]))] H_30 := hP
  have hD : va_D (va_A [(h0, .inr (2, [.null, .int 0]))] s.heap.size) [(h0, .inr (2, [.ref q1, .int 0])), (q1, .inl (c1, 40, .inr (.inr (.inr (.inr f88))))), (q89, .inr (7, [.ref q90, .int 0, .int 0, .int 0, .int 0, .int 0, .int 0]))] := hD
  refine W.widen (k := 61) (n := 460) (Nat.le_of_ble_eq_true rfl) (Nat.le_of_ble_eq_true rfl) ?_
  refine va_astq (r := (RX7, TX7, 7)) hx hb hK hP hD hS 1 0 2 7 rfl rfl rfl rfl (show vp_in 29 40 by unfold vp_in; decide) dX2_init_33 (fun H locs hP hD hS => ?_)
  have hP : va_P (dC, dI) vwCl [(h0, .inr (2, [.ref q1, .int 0])), (q1, .inl (c1, 40, .inr (.inr (.inr (.inr (va_up f88 29 (some q89))))))), (q89, .inr (7, [.ref q90, .int 0, .int 0, .int 0, .int 0, .int 0, .int 0]))] H := hP
  have hD : va_D (va_A [(h0, .inr (2, [.null, .int 0]))] s.heap.size) [(h0, .inr (2, [.ref q1, .int 0])), (q1, .inl (c1, 40, .inr (.inr (.inr (.inr (va_up f88 29 (some q89))))))), (q89, .inr (7, [.ref q90, .int 0, .int 0, .int 0, .int 0, .int 0, .int 0]))] := hD
  generalize (va_up f88 29 (some q89)) = f91 at hP hD
  have hP := hP.sub (ws' := [(h0, .inr (2, [.ref q1, .int 0])), (q1, .inl (c1, 40, .inr (.inr (.inr (.inr f91)))))]) [0, 1] rfl
  have hD := hD.sub (ws' := [(h0, .inr (2, [.ref q1, .int 0])), (q1, .inl (c1, 40, .inr (.inr (.inr (.inr f91)))))]) [0, 1] (by decide) rfl
  refine lv_iinc (v := 30) (lv' := [(1, .int 30), (0, .ref h0)]) hx hb dX2_init_34 hl (k := 0) rfl (by decide) (by decide) rfl (fun ls hl => ?_)
  refine lv_goto (tgt := 15) hx hb dX2_init_37 (by decide) ?_
  refine lv_iload_n hx hb dX2_init_15 rfl (lv_at hl 0 rfl) ?_
  refine lv_bipush (v := 40) hx hb dX2_init_16 (by decide) ?_
  refine lv_icmp_ge (tgt := 40) hx hb dX2_init_18 (by decide) (fun c => absurd c (by decide)) (fun _ => ?_)
  refine lv_aload_n hx hb dX2_init_21 rfl (lv_at hl 1 rfl) ?_
  refine va_get (D := (dC, dI)) (ci := 2) (v := .ref q1) (C := RX2) (T := TX2) (N := 2) hx hb hts (by decide +kernel) hown hK hP 0 rfl rfl 0 (by decide) (hts (.fieldLink RX2 11 "DearLetters$Ledger" "sales" "[LDearLetters$Sale;") (by decide +kernel)) (fun _ h9 => h9) rfl dX2_init_22 ?_
  refine lv_iload_n hx hb dX2_init_25 rfl (lv_at hl 0 rfl) ?_
  refine va_new (ci := 7) (fs := [.null, .int 0, .int 0, .int 0, .int 0, .int 0, .int 0]) (C := RX7) (T := TX7) (N := 7) hx hb hts (by decide +kernel) tyX7 tyX7_ok hown (hts (.classLink RX2 9 RX7) (by decide +kernel)) (hts (.instantiable RX7 7) (by decide +kernel)) (hts (.initialized RX7) (by decide +kernel)) hK hP hD hS hA rfl (fun j hj => by rcases (show j = 0 ∨ j = 1 ∨ j = 2 ∨ j = 3 ∨ j = 4 ∨ j = 5 ∨ j = 6 by omega) with rfl | rfl | rfl | rfl | rfl | rfl | rfl <;> rfl) (Nat.le_of_ble_eq_true rfl) (Nat.le_of_ble_eq_true rfl) dX2_init_26 (fun q92 H hP hD hS => ?_)
  have hP : va_P (dC, dI) vwCl [(h0, .inr (2, [.ref q1, .int 0])), (q1, .inl (c1, 40, .inr (.inr (.inr (.inr f91))))), (q92, .inr (7, [.null, .int 0, .int 0, .int 0, .int 0, .int 0, .int 0]))] H := hP
  have hD : va_D (va_A [(h0, .inr (2, [.null, .int 0]))] s.heap.size) [(h0, .inr (2, [.ref q1, .int 0])), (q1, .inl (c1, 40, .inr (.inr (.inr (.inr f91))))), (q92, .inr (7, [.null, .int 0, .int 0, .int 0, .int 0, .int 0, .int 0]))] := hD
  refine W.widen (k := 62) (n := 467) (Nat.le_of_ble_eq_true rfl) (Nat.le_of_ble_eq_true rfl) ?_
  refine lv_dup hx hb dX2_init_29 rfl ?_
  have hFc := va_free (wc := [(q92, .inr (7, [.null, .int 0, .int 0, .int 0, .int 0, .int 0, .int 0]))]) hD hS hA [2] rfl
  refine va_callv (va_runIN (As := []) (rest := [.ref q92, .int 30, .ref q1]) ⟨hx, hb, hml, hown, hts⟩ (ci_Sale l dC dI H q92 (hP.sub (ws' := [(q92, .inr (7, [.null, .int 0, .int 0, .int 0, .int 0, .int 0, .int 0]))]) [2] rfl) ((hD.sub (ws' := [(q92, .inr (7, [.null, .int 0, .int 0, .int 0, .int 0, .int 0, .int 0]))]) [2] (by decide) rfl).weaken (fun _ _ _ _ => trivial))) ⟨va_cnB 0 hts gX2_init_X7_init_n17 rfl rfl rfl (hq.2.2.2.2.2.2.1) (hts (.initialized RX7) (by decide +kernel)) (by decide +kernel) ⟨Nat.le_of_ble_eq_true rfl, Nat.le_of_ble_eq_true rfl⟩, rfl, hts (.instanceMethod yX7_init) (by decide +kernel)⟩ ⟨kb_c, kb_m (hK.sub (tys' := []) [] rfl) hq⟩ rfl rfl hl.1 rfl (lv_room (Nat.le_of_ble_eq_true rfl)) dX2_init_30 ⟨Nat.le_of_ble_eq_true rfl, Nat.le_of_ble_eq_true rfl⟩) hS (fun q _ h => hFc q h) hFc (fun u t H_31 locs ht hvm hw hB hz1 hk1 hS => ?_)
  obtain ⟨q93, hP1, hK1, hD1⟩ := hB
  rw [ht] at hP1
  obtain ⟨hP, hD⟩ := va_join (wr := [(h0, .inr (2, [.ref q1, .int 0])), (q1, .inl (c1, 40, .inr (.inr (.inr (.inr f91)))))]) (w1 := [(q92, .inr (7, [.ref q93, .int 0, .int 0, .int 0, .int 0, .int 0, .int 0]))]) hP hD [2] [0, 1] rfl rfl (by decide) (by decide) hk1 hFc hP1 hD1
  have hK : va_K (dC, dI) vwCl [(c1, .object RX7)] s := hK.app (va_K.moved hvm.symm hK1)
  have hP : va_P (dC, dI) vwCl [(h0, .inr (2, [.ref q1, .int 0])), (q1, .inl (c1, 40, .inr (.inr (.inr (.inr f91))))), (q92, .inr (7, [.ref q93, .int 0, .int 0, .int 0, .int 0, .int 0, .int 0]))] H_31 := hP
  have hD : va_D (va_A [(h0, .inr (2, [.null, .int 0]))] s.heap.size) [(h0, .inr (2, [.ref q1, .int 0])), (q1, .inl (c1, 40, .inr (.inr (.inr (.inr f91))))), (q92, .inr (7, [.ref q93, .int 0, .int 0, .int 0, .int 0, .int 0, .int 0]))] := hD
  refine W.widen (k := 63) (n := 474) (Nat.le_of_ble_eq_true rfl) (Nat.le_of_ble_eq_true rfl) ?_
  refine va_astq (r := (RX7, TX7, 7)) hx hb hK hP hD hS 1 0 2 7 rfl rfl rfl rfl (show vp_in 30 40 by unfold vp_in; decide) dX2_init_33 (fun H locs hP hD hS => ?_)
  have hP : va_P (dC, dI) vwCl [(h0, .inr (2, [.ref q1, .int 0])), (q1, .inl (c1, 40, .inr (.inr (.inr (.inr (va_up f91 30 (some q92))))))), (q92, .inr (7, [.ref q93, .int 0, .int 0, .int 0, .int 0, .int 0, .int 0]))] H := hP
  have hD : va_D (va_A [(h0, .inr (2, [.null, .int 0]))] s.heap.size) [(h0, .inr (2, [.ref q1, .int 0])), (q1, .inl (c1, 40, .inr (.inr (.inr (.inr (va_up f91 30 (some q92))))))), (q92, .inr (7, [.ref q93, .int 0, .int 0, .int 0, .int 0, .int 0, .int 0]))] := hD
  generalize (va_up f91 30 (some q92)) = f94 at hP hD
  have hP := hP.sub (ws' := [(h0, .inr (2, [.ref q1, .int 0])), (q1, .inl (c1, 40, .inr (.inr (.inr (.inr f94)))))]) [0, 1] rfl
  have hD := hD.sub (ws' := [(h0, .inr (2, [.ref q1, .int 0])), (q1, .inl (c1, 40, .inr (.inr (.inr (.inr f94)))))]) [0, 1] (by decide) rfl
  refine lv_iinc (v := 31) (lv' := [(1, .int 31), (0, .ref h0)]) hx hb dX2_init_34 hl (k := 0) rfl (by decide) (by decide) rfl (fun ls hl => ?_)
  refine lv_goto (tgt := 15) hx hb dX2_init_37 (by decide) ?_
  refine lv_iload_n hx hb dX2_init_15 rfl (lv_at hl 0 rfl) ?_
  refine lv_bipush (v := 40) hx hb dX2_init_16 (by decide) ?_
  refine lv_icmp_ge (tgt := 40) hx hb dX2_init_18 (by decide) (fun c => absurd c (by decide)) (fun _ => ?_)
  refine lv_aload_n hx hb dX2_init_21 rfl (lv_at hl 1 rfl) ?_
  refine va_get (D := (dC, dI)) (ci := 2) (v := .ref q1) (C := RX2) (T := TX2) (N := 2) hx hb hts (by decide +kernel) hown hK hP 0 rfl rfl 0 (by decide) (hts (.fieldLink RX2 11 "DearLetters$Ledger" "sales" "[LDearLetters$Sale;") (by decide +kernel)) (fun _ h9 => h9) rfl dX2_init_22 ?_
  refine lv_iload_n hx hb dX2_init_25 rfl (lv_at hl 0 rfl) ?_
  refine va_new (ci := 7) (fs := [.null, .int 0, .int 0, .int 0, .int 0, .int 0, .int 0]) (C := RX7) (T := TX7) (N := 7) hx hb hts (by decide +kernel) tyX7 tyX7_ok hown (hts (.classLink RX2 9 RX7) (by decide +kernel)) (hts (.instantiable RX7 7) (by decide +kernel)) (hts (.initialized RX7) (by decide +kernel)) hK hP hD hS hA rfl (fun j hj => by rcases (show j = 0 ∨ j = 1 ∨ j = 2 ∨ j = 3 ∨ j = 4 ∨ j = 5 ∨ j = 6 by omega) with rfl | rfl | rfl | rfl | rfl | rfl | rfl <;> rfl) (Nat.le_of_ble_eq_true rfl) (Nat.le_of_ble_eq_true rfl) dX2_init_26 (fun q95 H hP hD hS => ?_)
  have hP : va_P (dC, dI) vwCl [(h0, .inr (2, [.ref q1, .int 0])), (q1, .inl (c1, 40, .inr (.inr (.inr (.inr f94))))), (q95, .inr (7, [.null, .int 0, .int 0, .int 0, .int 0, .int 0, .int 0]))] H := hP
  have hD : va_D (va_A [(h0, .inr (2, [.null, .int 0]))] s.heap.size) [(h0, .inr (2, [.ref q1, .int 0])), (q1, .inl (c1, 40, .inr (.inr (.inr (.inr f94))))), (q95, .inr (7, [.null, .int 0, .int 0, .int 0, .int 0, .int 0, .int 0]))] := hD
  refine W.widen (k := 64) (n := 481) (Nat.le_of_ble_eq_true rfl) (Nat.le_of_ble_eq_true rfl) ?_
  refine lv_dup hx hb dX2_init_29 rfl ?_
  have hFc := va_free (wc := [(q95, .inr (7, [.null, .int 0, .int 0, .int 0, .int 0, .int 0, .int 0]))]) hD hS hA [2] rfl
  refine va_callv (va_runIN (As := []) (rest := [.ref q95, .int 31, .ref q1]) ⟨hx, hb, hml, hown, hts⟩ (ci_Sale l dC dI H q95 (hP.sub (ws' := [(q95, .inr (7, [.null, .int 0, .int 0, .int 0, .int 0, .int 0, .int 0]))]) [2] rfl) ((hD.sub (ws' := [(q95, .inr (7, [.null, .int 0, .int 0, .int 0, .int 0, .int 0, .int 0]))]) [2] (by decide) rfl).weaken (fun _ _ _ _ => trivial))) ⟨va_cnB 0 hts gX2_init_X7_init_n17 rfl rfl rfl (hq.2.2.2.2.2.2.1) (hts (.initialized RX7) (by decide +kernel)) (by decide +kernel) ⟨Nat.le_of_ble_eq_true rfl, Nat.le_of_ble_eq_true rfl⟩, rfl, hts (.instanceMethod yX7_init) (by decide +kernel)⟩ ⟨kb_c, kb_m (hK.sub (tys' := []) [] rfl) hq⟩ rfl rfl hl.1 rfl (lv_room (Nat.le_of_ble_eq_true rfl)) dX2_init_30 ⟨Nat.le_of_ble_eq_true rfl, Nat.le_of_ble_eq_true rfl⟩) hS (fun q _ h => hFc q h) hFc (fun u t H_32 locs ht hvm hw hB hz1 hk1 hS => ?_)
  obtain ⟨q96, hP1, hK1, hD1⟩ := hB
  rw [ht] at hP1
  obtain ⟨hP, hD⟩ := va_join (wr := [(h0, .inr (2, [.ref q1, .int 0])), (q1, .inl (c1, 40, .inr (.inr (.inr (.inr f94)))))]) (w1 := [(q95, .inr (7, [.ref q96, .int 0, .int 0, .int 0, .int 0, .int 0, .int 0]))]) hP hD [2] [0, 1] rfl rfl (by decide) (by decide) hk1 hFc hP1 hD1
  have hK : va_K (dC, dI) vwCl [(c1, .object RX7)] s := hK.app (va_K.moved hvm.symm hK1)
  have hP : va_P (dC, dI) vwCl [(h0, .inr (2, [.ref q1, .int 0])), (q1, .inl (c1, 40, .inr (.inr (.inr (.inr f94))))), (q95, .inr (7, [.ref q96, .int 0, .int 0, .int 0, .int 0, .int 0, .int 0]))] H_32 := hP
  have hD : va_D (va_A [(h0, .inr (2, [.null, .int 0]))] s.heap.size) [(h0, .inr (2, [.ref q1, .int 0])), (q1, .inl (c1, 40, .inr (.inr (.inr (.inr f94))))), (q95, .inr (7, [.ref q96, .int 0, .int 0, .int 0, .int 0, .int 0, .int 0]))] := hD
  refine W.widen (k := 65) (n := 488) (Nat.le_of_ble_eq_true rfl) (Nat.le_of_ble_eq_true rfl) ?_
  refine va_astq (r := (RX7, TX7, 7)) hx hb hK hP hD hS 1 0 2 7 rfl rfl rfl rfl (show vp_in 31 40 by unfold vp_in; decide) dX2_init_33 (fun H locs hP hD hS => ?_)
  have hP : va_P (dC, dI) vwCl [(h0, .inr (2, [.ref q1, .int 0])), (q1, .inl (c1, 40, .inr (.inr (.inr (.inr (va_up f94 31 (some q95))))))), (q95, .inr (7, [.ref q96, .int 0, .int 0, .int 0, .int 0, .int 0, .int 0]))] H := hP
  have hD : va_D (va_A [(h0, .inr (2, [.null, .int 0]))] s.heap.size) [(h0, .inr (2, [.ref q1, .int 0])), (q1, .inl (c1, 40, .inr (.inr (.inr (.inr (va_up f94 31 (some q95))))))), (q95, .inr (7, [.ref q96, .int 0, .int 0, .int 0, .int 0, .int 0, .int 0]))] := hD
  generalize (va_up f94 31 (some q95)) = f97 at hP hD
  have hP := hP.sub (ws' := [(h0, .inr (2, [.ref q1, .int 0])), (q1, .inl (c1, 40, .inr (.inr (.inr (.inr f97)))))]) [0, 1] rfl
  have hD := hD.sub (ws' := [(h0, .inr (2, [.ref q1, .int 0])), (q1, .inl (c1, 40, .inr (.inr (.inr (.inr f97)))))]) [0, 1] (by decide) rfl
  refine lv_iinc (v := 32) (lv' := [(1, .int 32), (0, .ref h0)]) hx hb dX2_init_34 hl (k := 0) rfl (by decide) (by decide) rfl (fun ls hl => ?_)
  refine lv_goto (tgt := 15) hx hb dX2_init_37 (by decide) ?_
  refine lv_iload_n hx hb dX2_init_15 rfl (lv_at hl 0 rfl) ?_
  refine lv_bipush (v := 40) hx hb dX2_init_16 (by decide) ?_
  refine lv_icmp_ge (tgt := 40) hx hb dX2_init_18 (by decide) (fun c => absurd c (by decide)) (fun _ => ?_)
  refine lv_aload_n hx hb dX2_init_21 rfl (lv_at hl 1 rfl) ?_
  refine va_get (D := (dC, dI)) (ci := 2) (v := .ref q1) (C := RX2) (T := TX2) (N := 2) hx hb hts (by decide +kernel) hown hK hP 0 rfl rfl 0 (by decide) (hts (.fieldLink RX2 11 "DearLetters$Ledger" "sales" "[LDearLetters$Sale;") (by decide +kernel)) (fun _ h9 => h9) rfl dX2_init_22 ?_
  refine lv_iload_n hx hb dX2_init_25 rfl (lv_at hl 0 rfl) ?_
  refine va_new (ci := 7) (fs := [.null, .int 0, .int 0, .int 0, .int 0, .int 0, .int 0]) (C := RX7) (T := TX7) (N := 7) hx hb hts (by decide +kernel) tyX7 tyX7_ok hown (hts (.classLink RX2 9 RX7) (by decide +kernel)) (hts (.instantiable RX7 7) (by decide +kernel)) (hts (.initialized RX7) (by decide +kernel)) hK hP hD hS hA rfl (fun j hj => by rcases (show j = 0 ∨ j = 1 ∨ j = 2 ∨ j = 3 ∨ j = 4 ∨ j = 5 ∨ j = 6 by omega) with rfl | rfl | rfl | rfl | rfl | rfl | rfl <;> rfl) (Nat.le_of_ble_eq_true rfl) (Nat.le_of_ble_eq_true rfl) dX2_init_26 (fun q98 H hP hD hS => ?_)
  have hP : va_P (dC, dI) vwCl [(h0, .inr (2, [.ref q1, .int 0])), (q1, .inl (c1, 40, .inr (.inr (.inr (.inr f97))))), (q98, .inr (7, [.null, .int 0, .int 0, .int 0, .int 0, .int 0, .int 0]))] H := hP
  have hD : va_D (va_A [(h0, .inr (2, [.null, .int 0]))] s.heap.size) [(h0, .inr (2, [.ref q1, .int 0])), (q1, .inl (c1, 40, .inr (.inr (.inr (.inr f97))))), (q98, .inr (7, [.null, .int 0, .int 0, .int 0, .int 0, .int 0, .int 0]))] := hD
  refine W.widen (k := 66) (n := 495) (Nat.le_of_ble_eq_true rfl) (Nat.le_of_ble_eq_true rfl) ?_
  refine lv_dup hx hb dX2_init_29 rfl ?_
  have hFc := va_free (wc := [(q98, .inr (7, [.null, .int 0, .int 0, .int 0, .int 0, .int 0, .int 0]))]) hD hS hA [2] rfl
  refine va_callv (va_runIN (As := []) (rest := [.ref q98, .int 32, .ref q1]) ⟨hx, hb, hml, hown, hts⟩ (ci_Sale l dC dI H q98 (hP.sub (ws' := [(q98, .inr (7, [.null, .int 0, .int 0, .int 0, .int 0, .int 0, .int 0]))]) [2] rfl) ((hD.sub (ws' := [(q98, .inr (7, [.null, .int 0, .int 0, .int 0, .int 0, .int 0, .int 0]))]) [2] (by decide) rfl).weaken (fun _ _ _ _ => trivial))) ⟨va_cnB 0 hts gX2_init_X7_init_n17 rfl rfl rfl (hq.2.2.2.2.2.2.1) (hts (.initialized RX7) (by decide +kernel)) (by decide +kernel) ⟨Nat.le_of_ble_eq_true rfl, Nat.le_of_ble_eq_true rfl⟩, rfl, hts (.instanceMethod yX7_init) (by decide +kernel)⟩ ⟨kb_c, kb_m (hK.sub (tys' := []) [] rfl) hq⟩ rfl rfl hl.1 rfl (lv_room (Nat.le_of_ble_eq_true rfl)) dX2_init_30 ⟨Nat.le_of_ble_eq_true rfl, Nat.le_of_ble_eq_true rfl⟩) hS (fun q _ h => hFc q h) hFc (fun u t H_33 locs ht hvm hw hB hz1 hk1 hS => ?_)
  obtain ⟨q99, hP1, hK1, hD1⟩ := hB
  rw [ht] at hP1
  obtain ⟨hP, hD⟩ := va_join (wr := [(h0, .inr (2, [.ref q1, .int 0])), (q1, .inl (c1, 40, .inr (.inr (.inr (.inr f97)))))]) (w1 := [(q98, .inr (7, [.ref q99, .int 0, .int 0, .int 0, .int 0, .int 0, .int 0]))]) hP hD [2] [0, 1] rfl rfl (by decide) (by decide) hk1 hFc hP1 hD1
  have hK : va_K (dC, dI) vwCl [(c1, .object RX7)] s := hK.app (va_K.moved hvm.symm hK1)
  have hP : va_P (dC, dI) vwCl [(h0, .inr (2, [.ref q1, .int 0])), (q1, .inl (c1, 40, .inr (.inr (.inr (.inr f97))))), (q98, .inr (7, [.ref q99, .int 0, .int 0, .int 0, .int 0, .int 0, .int 0]))] H_33 := hP
  have hD : va_D (va_A [(h0, .inr (2, [.null, .int 0]))] s.heap.size) [(h0, .inr (2, [.ref q1, .int 0])), (q1, .inl (c1, 40, .inr (.inr (.inr (.inr f97))))), (q98, .inr (7, [.ref q99, .int 0, .int 0, .int 0, .int 0, .int 0, .int 0]))] := hD
  refine W.widen (k := 67) (n := 502) (Nat.le_of_ble_eq_true rfl) (Nat.le_of_ble_eq_true rfl) ?_
  refine va_astq (r := (RX7, TX7, 7)) hx hb hK hP hD hS 1 0 2 7 rfl rfl rfl rfl (show vp_in 32 40 by unfold vp_in; decide) dX2_init_33 (fun H locs hP hD hS => ?_)
  have hP : va_P (dC, dI) vwCl [(h0, .inr (2, [.ref q1, .int 0])), (q1, .inl (c1, 40, .inr (.inr (.inr (.inr (va_up f97 32 (some q98))))))), (q98, .inr (7, [.ref q99, .int 0, .int 0, .int 0, .int 0, .int 0, .int 0]))] H := hP
  have hD : va_D (va_A [(h0, .inr (2, [.null, .int 0]))] s.heap.size) [(h0, .inr (2, [.ref q1, .int 0])), (q1, .inl (c1, 40, .inr (.inr (.inr (.inr (va_up f97 32 (some q98))))))), (q98, .inr (7, [.ref q99, .int 0, .int 0, .int 0, .int 0, .int 0, .int 0]))] := hD
  generalize (va_up f97 32 (some q98)) = f100 at hP hD
  have hP := hP.sub (ws' := [(h0, .inr (2, [.ref q1, .int 0])), (q1, .inl (c1, 40, .inr (.inr (.inr (.inr f100)))))]) [0, 1] rfl
  have hD := hD.sub (ws' := [(h0, .inr (2, [.ref q1, .int 0])), (q1, .inl (c1, 40, .inr (.inr (.inr (.inr f100)))))]) [0, 1] (by decide) rfl
  refine lv_iinc (v := 33) (lv' := [(1, .int 33), (0, .ref h0)]) hx hb dX2_init_34 hl (k := 0) rfl (by decide) (by decide) rfl (fun ls hl => ?_)
  refine lv_goto (tgt := 15) hx hb dX2_init_37 (by decide) ?_
  refine lv_iload_n hx hb dX2_init_15 rfl (lv_at hl 0 rfl) ?_
  refine lv_bipush (v := 40) hx hb dX2_init_16 (by decide) ?_
  refine lv_icmp_ge (tgt := 40) hx hb dX2_init_18 (by decide) (fun c => absurd c (by decide)) (fun _ => ?_)
  refine lv_aload_n hx hb dX2_init_21 rfl (lv_at hl 1 rfl) ?_
  refine va_get (D := (dC, dI)) (ci := 2) (v := .ref q1) (C := RX2) (T := TX2) (N := 2) hx hb hts (by decide +kernel) hown hK hP 0 rfl rfl 0 (by decide) (hts (.fieldLink RX2 11 "DearLetters$Ledger" "sales" "[LDearLetters$Sale;") (by decide +kernel)) (fun _ h9 => h9) rfl dX2_init_22 ?_
  refine lv_iload_n hx hb dX2_init_25 rfl (lv_at hl 0 rfl) ?_
  refine va_new (ci := 7) (fs := [.null, .int 0, .int 0, .int 0, .int 0, .int 0, .int 0]) (C := RX7) (T := TX7) (N := 7) hx hb hts (by decide +kernel) tyX7 tyX7_ok hown (hts (.classLink RX2 9 RX7) (by decide +kernel)) (hts (.instantiable RX7 7) (by decide +kernel)) (hts (.initialized RX7) (by decide +kernel)) hK hP hD hS hA rfl (fun j hj => by rcases (show j = 0 ∨ j = 1 ∨ j = 2 ∨ j = 3 ∨ j = 4 ∨ j = 5 ∨ j = 6 by omega) with rfl | rfl | rfl | rfl | rfl | rfl | rfl <;> rfl) (Nat.le_of_ble_eq_true rfl) (Nat.le_of_ble_eq_true rfl) dX2_init_26 (fun q101 H hP hD hS => ?_)
  have hP : va_P (dC, dI) vwCl [(h0, .inr (2, [.ref q1, .int 0])), (q1, .inl (c1, 40, .inr (.inr (.inr (.inr f100))))), (q101, .inr (7, [.null, .int 0, .int 0, .int 0, .int 0, .int 0, .int 0]))] H := hP
  have hD : va_D (va_A [(h0, .inr (2, [.null, .int 0]))] s.heap.size) [(h0, .inr (2, [.ref q1, .int 0])), (q1, .inl (c1, 40, .inr (.inr (.inr (.inr f100))))), (q101, .inr (7, [.null, .int 0, .int 0, .int 0, .int 0, .int 0, .int 0]))] := hD
  refine W.widen (k := 68) (n := 509) (Nat.le_of_ble_eq_true rfl) (Nat.le_of_ble_eq_true rfl) ?_
  refine lv_dup hx hb dX2_init_29 rfl ?_
  have hFc := va_free (wc := [(q101, .inr (7, [.null, .int 0, .int 0, .int 0, .int 0, .int 0, .int 0]))]) hD hS hA [2] rfl
  refine va_callv (va_runIN (As := []) (rest := [.ref q101, .int 33, .ref q1]) ⟨hx, hb, hml, hown, hts⟩ (ci_Sale l dC dI H q101 (hP.sub (ws' := [(q101, .inr (7, [.null, .int 0, .int 0, .int 0, .int 0, .int 0, .int 0]))]) [2] rfl) ((hD.sub (ws' := [(q101, .inr (7, [.null, .int 0, .int 0, .int 0, .int 0, .int 0, .int 0]))]) [2] (by decide) rfl).weaken (fun _ _ _ _ => trivial))) ⟨va_cnB 0 hts gX2_init_X7_init_n17 rfl rfl rfl (hq.2.2.2.2.2.2.1) (hts (.initialized RX7) (by decide +kernel)) (by decide +kernel) ⟨Nat.le_of_ble_eq_true rfl, Nat.le_of_ble_eq_true rfl⟩, rfl, hts (.instanceMethod yX7_init) (by decide +kernel)⟩ ⟨kb_c, kb_m (hK.sub (tys' := []) [] rfl) hq⟩ rfl rfl hl.1 rfl (lv_room (Nat.le_of_ble_eq_true rfl)) dX2_init_30 ⟨Nat.le_of_ble_eq_true rfl, Nat.le_of_ble_eq_true rfl⟩) hS (fun q _ h => hFc q h) hFc (fun u t H_34 locs ht hvm hw hB hz1 hk1 hS => ?_)
  obtain ⟨q102, hP1, hK1, hD1⟩ := hB
  rw [ht] at hP1
  obtain ⟨hP, hD⟩ := va_join (wr := [(h0, .inr (2, [.ref q1, .int 0])), (q1, .inl (c1, 40, .inr (.inr (.inr (.inr f100)))))]) (w1 := [(q101, .inr (7, [.ref q102, .int 0, .int 0, .int 0, .int 0, .int 0, .int 0]))]) hP hD [2] [0, 1] rfl rfl (by decide) (by decide) hk1 hFc hP1 hD1
  have hK : va_K (dC, dI) vwCl [(c1, .object RX7)] s := hK.app (va_K.moved hvm.symm hK1)
  have hP : va_P (dC, dI) vwCl [(h0, .inr (2, [.ref q1, .int 0])), (q1, .inl (c1, 40, .inr (.inr (.inr (.inr f100))))), (q101, .inr (7, [.ref q102, .int 0, .int 0, .int 0, .int 0, .int 0, .int 0]))] H_34 := hP
  have hD : va_D (va_A [(h0, .inr (2, [.null, .int 0]))] s.heap.size) [(h0, .inr (2, [.ref q1, .int 0])), (q1, .inl (c1, 40, .inr (.inr (.inr (.inr f100))))), (q101, .inr (7, [.ref q102, .int 0, .int 0, .int 0, .int 0, .int 0, .int 0]))] := hD
  refine W.widen (k := 69) (n := 516) (Nat.le_of_ble_eq_true rfl) (Nat.le_of_ble_eq_true rfl) ?_
  refine va_astq (r := (RX7, TX7, 7)) hx hb hK hP hD hS 1 0 2 7 rfl rfl rfl rfl (show vp_in 33 40 by unfold vp_in; decide) dX2_init_33 (fun H locs hP hD hS => ?_)
  have hP : va_P (dC, dI) vwCl [(h0, .inr (2, [.ref q1, .int 0])), (q1, .inl (c1, 40, .inr (.inr (.inr (.inr (va_up f100 33 (some q101))))))), (q101, .inr (7, [.ref q102, .int 0, .int 0, .int 0, .int 0, .int 0, .int 0]))] H := hP
  have hD : va_D (va_A [(h0, .inr (2, [.null, .int 0]))] s.heap.size) [(h0, .inr (2, [.ref q1, .int 0])), (q1, .inl (c1, 40, .inr (.inr (.inr (.inr (va_up f100 33 (some q101))))))), (q101, .inr (7, [.ref q102, .int 0, .int 0, .int 0, .int 0, .int 0, .int 0]))] := hD
  generalize (va_up f100 33 (some q101)) = f103 at hP hD
  have hP := hP.sub (ws' := [(h0, .inr (2, [.ref q1, .int 0])), (q1, .inl (c1, 40, .inr (.inr (.inr (.inr f103)))))]) [0, 1] rfl
  have hD := hD.sub (ws' := [(h0, .inr (2, [.ref q1, .int 0])), (q1, .inl (c1, 40, .inr (.inr (.inr (.inr f103)))))]) [0, 1] (by decide) rfl
  refine lv_iinc (v := 34) (lv' := [(1, .int 34), (0, .ref h0)]) hx hb dX2_init_34 hl (k := 0) rfl (by decide) (by decide) rfl (fun ls hl => ?_)
  refine lv_goto (tgt := 15) hx hb dX2_init_37 (by decide) ?_
  refine lv_iload_n hx hb dX2_init_15 rfl (lv_at hl 0 rfl) ?_
  refine lv_bipush (v := 40) hx hb dX2_init_16 (by decide) ?_
  refine lv_icmp_ge (tgt := 40) hx hb dX2_init_18 (by decide) (fun c => absurd c (by decide)) (fun _ => ?_)
  refine lv_aload_n hx hb dX2_init_21 rfl (lv_at hl 1 rfl) ?_
  refine va_get (D := (dC, dI)) (ci := 2) (v := .ref q1) (C := RX2) (T := TX2) (N := 2) hx hb hts (by decide +kernel) hown hK hP 0 rfl rfl 0 (by decide) (hts (.fieldLink RX2 11 "DearLetters$Ledger" "sales" "[LDearLetters$Sale;") (by decide +kernel)) (fun _ h9 => h9) rfl dX2_init_22 ?_
  refine lv_iload_n hx hb dX2_init_25 rfl (lv_at hl 0 rfl) ?_
  refine va_new (ci := 7) (fs := [.null, .int 0, .int 0, .int 0, .int 0, .int 0, .int 0]) (C := RX7) (T := TX7) (N := 7) hx hb hts (by decide +kernel) tyX7 tyX7_ok hown (hts (.classLink RX2 9 RX7) (by decide +kernel)) (hts (.instantiable RX7 7) (by decide +kernel)) (hts (.initialized RX7) (by decide +kernel)) hK hP hD hS hA rfl (fun j hj => by rcases (show j = 0 ∨ j = 1 ∨ j = 2 ∨ j = 3 ∨ j = 4 ∨ j = 5 ∨ j = 6 by omega) with rfl | rfl | rfl | rfl | rfl | rfl | rfl <;> rfl) (Nat.le_of_ble_eq_true rfl) (Nat.le_of_ble_eq_true rfl) dX2_init_26 (fun q104 H hP hD hS => ?_)
  have hP : va_P (dC, dI) vwCl [(h0, .inr (2, [.ref q1, .int 0])), (q1, .inl (c1, 40, .inr (.inr (.inr (.inr f103))))), (q104, .inr (7, [.null, .int 0, .int 0, .int 0, .int 0, .int 0, .int 0]))] H := hP
  have hD : va_D (va_A [(h0, .inr (2, [.null, .int 0]))] s.heap.size) [(h0, .inr (2, [.ref q1, .int 0])), (q1, .inl (c1, 40, .inr (.inr (.inr (.inr f103))))), (q104, .inr (7, [.null, .int 0, .int 0, .int 0, .int 0, .int 0, .int 0]))] := hD
  refine W.widen (k := 70) (n := 523) (Nat.le_of_ble_eq_true rfl) (Nat.le_of_ble_eq_true rfl) ?_
  refine lv_dup hx hb dX2_init_29 rfl ?_
  have hFc := va_free (wc := [(q104, .inr (7, [.null, .int 0, .int 0, .int 0, .int 0, .int 0, .int 0]))]) hD hS hA [2] rfl
  refine va_callv (va_runIN (As := []) (rest := [.ref q104, .int 34, .ref q1]) ⟨hx, hb, hml, hown, hts⟩ (ci_Sale l dC dI H q104 (hP.sub (ws' := [(q104, .inr (7, [.null, .int 0, .int 0, .int 0, .int 0, .int 0, .int 0]))]) [2] rfl) ((hD.sub (ws' := [(q104, .inr (7, [.null, .int 0, .int 0, .int 0, .int 0, .int 0, .int 0]))]) [2] (by decide) rfl).weaken (fun _ _ _ _ => trivial))) ⟨va_cnB 0 hts gX2_init_X7_init_n17 rfl rfl rfl (hq.2.2.2.2.2.2.1) (hts (.initialized RX7) (by decide +kernel)) (by decide +kernel) ⟨Nat.le_of_ble_eq_true rfl, Nat.le_of_ble_eq_true rfl⟩, rfl, hts (.instanceMethod yX7_init) (by decide +kernel)⟩ ⟨kb_c, kb_m (hK.sub (tys' := []) [] rfl) hq⟩ rfl rfl hl.1 rfl (lv_room (Nat.le_of_ble_eq_true rfl)) dX2_init_30 ⟨Nat.le_of_ble_eq_true rfl, Nat.le_of_ble_eq_true rfl⟩) hS (fun q _ h => hFc q h) hFc (fun u t H_35 locs ht hvm hw hB hz1 hk1 hS => ?_)
  obtain ⟨q105, hP1, hK1, hD1⟩ := hB
  rw [ht] at hP1
  obtain ⟨hP, hD⟩ := va_join (wr := [(h0, .inr (2, [.ref q1, .int 0])), (q1, .inl (c1, 40, .inr (.inr (.inr (.inr f103)))))]) (w1 := [(q104, .inr (7, [.ref q105, .int 0, .int 0, .int 0, .int 0, .int 0, .int 0]))]) hP hD [2] [0, 1] rfl rfl (by decide) (by decide) hk1 hFc hP1 hD1
  have hK : va_K (dC, dI) vwCl [(c1, .object RX7)] s := hK.app (va_K.moved hvm.symm hK1)
  have hP : va_P (dC, dI) vwCl [(h0, .inr (2, [.ref q1, .int 0])), (q1, .inl (c1, 40, .inr (.inr (.inr (.inr f103))))), (q104, .inr (7, [.ref q105, .int 0, .int 0, .int 0, .int 0, .int 0, .int 0]))] H_35 := hP
  have hD : va_D (va_A [(h0, .inr (2, [.null, .int 0]))] s.heap.size) [(h0, .inr (2, [.ref q1, .int 0])), (q1, .inl (c1, 40, .inr (.inr (.inr (.inr f103))))), (q104, .inr (7, [.ref q105, .int 0, .int 0, .int 0, .int 0, .int 0, .int 0]))] := hD
  refine W.widen (k := 71) (n := 530) (Nat.le_of_ble_eq_true rfl) (Nat.le_of_ble_eq_true rfl) ?_
  refine va_astq (r := (RX7, TX7, 7)) hx hb hK hP hD hS 1 0 2 7 rfl rfl rfl rfl (show vp_in 34 40 by unfold vp_in; decide) dX2_init_33 (fun H locs hP hD hS => ?_)
  have hP : va_P (dC, dI) vwCl [(h0, .inr (2, [.ref q1, .int 0])), (q1, .inl (c1, 40, .inr (.inr (.inr (.inr (va_up f103 34 (some q104))))))), (q104, .inr (7, [.ref q105, .int 0, .int 0, .int 0, .int 0, .int 0, .int 0]))] H := hP
  have hD : va_D (va_A [(h0, .inr (2, [.null, .int 0]))] s.heap.size) [(h0, .inr (2, [.ref q1, .int 0])), (q1, .inl (c1, 40, .inr (.inr (.inr (.inr (va_up f103 34 (some q104))))))), (q104, .inr (7, [.ref q105, .int 0, .int 0, .int 0, .int 0, .int 0, .int 0]))] := hD
  generalize (va_up f103 34 (some q104)) = f106 at hP hD
  have hP := hP.sub (ws' := [(h0, .inr (2, [.ref q1, .int 0])), (q1, .inl (c1, 40, .inr (.inr (.inr (.inr f106)))))]) [0, 1] rfl
  have hD := hD.sub (ws' := [(h0, .inr (2, [.ref q1, .int 0])), (q1, .inl (c1, 40, .inr (.inr (.inr (.inr f106)))))]) [0, 1] (by decide) rfl
  refine lv_iinc (v := 35) (lv' := [(1, .int 35), (0, .ref h0)]) hx hb dX2_init_34 hl (k := 0) rfl (by decide) (by decide) rfl (fun ls hl => ?_)
  refine lv_goto (tgt := 15) hx hb dX2_init_37 (by decide) ?_
  refine lv_iload_n hx hb dX2_init_15 rfl (lv_at hl 0 rfl) ?_
  refine lv_bipush (v := 40) hx hb dX2_init_16 (by decide) ?_
  refine lv_icmp_ge (tgt := 40) hx hb dX2_init_18 (by decide) (fun c => absurd c (by decide)) (fun _ => ?_)
  refine lv_aload_n hx hb dX2_init_21 rfl (lv_at hl 1 rfl) ?_
  refine va_get (D := (dC, dI)) (ci := 2) (v := .ref q1) (C := RX2) (T := TX2) (N := 2) hx hb hts (by decide +kernel) hown hK hP 0 rfl rfl 0 (by decide) (hts (.fieldLink RX2 11 "DearLetters$Ledger" "sales" "[LDearLetters$Sale;") (by decide +kernel)) (fun _ h9 => h9) rfl dX2_init_22 ?_
  refine lv_iload_n hx hb dX2_init_25 rfl (lv_at hl 0 rfl) ?_
  refine va_new (ci := 7) (fs := [.null, .int 0, .int 0, .int 0, .int 0, .int 0, .int 0]) (C := RX7) (T := TX7) (N := 7) hx hb hts (by decide +kernel) tyX7 tyX7_ok hown (hts (.classLink RX2 9 RX7) (by decide +kernel)) (hts (.instantiable RX7 7) (by decide +kernel)) (hts (.initialized RX7) (by decide +kernel)) hK hP hD hS hA rfl (fun j hj => by rcases (show j = 0 ∨ j = 1 ∨ j = 2 ∨ j = 3 ∨ j = 4 ∨ j = 5 ∨ j = 6 by omega) with rfl | rfl | rfl | rfl | rfl | rfl | rfl <;> rfl) (Nat.le_of_ble_eq_true rfl) (Nat.le_of_ble_eq_true rfl) dX2_init_26 (fun q107 H hP hD hS => ?_)
  have hP : va_P (dC, dI) vwCl [(h0, .inr (2, [.ref q1, .int 0])), (q1, .inl (c1, 40, .inr (.inr (.inr (.inr f106))))), (q107, .inr (7, [.null, .int 0, .int 0, .int 0, .int 0, .int 0, .int 0]))] H := hP
  have hD : va_D (va_A [(h0, .inr (2, [.null, .int 0]))] s.heap.size) [(h0, .inr (2, [.ref q1, .int 0])), (q1, .inl (c1, 40, .inr (.inr (.inr (.inr f106))))), (q107, .inr (7, [.null, .int 0, .int 0, .int 0, .int 0, .int 0, .int 0]))] := hD
  refine W.widen (k := 72) (n := 537) (Nat.le_of_ble_eq_true rfl) (Nat.le_of_ble_eq_true rfl) ?_
  refine lv_dup hx hb dX2_init_29 rfl ?_
  have hFc := va_free (wc := [(q107, .inr (7, [.null, .int 0, .int 0, .int 0, .int 0, .int 0, .int 0]))]) hD hS hA [2] rfl
  refine va_callv (va_runIN (As := []) (rest := [.ref q107, .int 35, .ref q1]) ⟨hx, hb, hml, hown, hts⟩ (ci_Sale l dC dI H q107 (hP.sub (ws' := [(q107, .inr (7, [.null, .int 0, .int 0, .int 0, .int 0, .int 0, .int 0]))]) [2] rfl) ((hD.sub (ws' := [(q107, .inr (7, [.null, .int 0, .int 0, .int 0, .int 0, .int 0, .int 0]))]) [2] (by decide) rfl).weaken (fun _ _ _ _ => trivial))) ⟨va_cnB 0 hts gX2_init_X7_init_n17 rfl rfl rfl (hq.2.2.2.2.2.2.1) (hts (.initialized RX7) (by decide +kernel)) (by decide +kernel) ⟨Nat.le_of_ble_eq_true rfl, Nat.le_of_ble_eq_true rfl⟩, rfl, hts (.instanceMethod yX7_init) (by decide +kernel)⟩ ⟨kb_c, kb_m (hK.sub (tys' := []) [] rfl) hq⟩ rfl rfl hl.1 rfl (lv_room (Nat.le_of_ble_eq_true rfl)) dX2_init_30 ⟨Nat.le_of_ble_eq_true rfl, Nat.le_of_ble_eq_true rfl⟩) hS (fun q _ h => hFc q h) hFc (fun u t H_36 locs ht hvm hw hB hz1 hk1 hS => ?_)
  obtain ⟨q108, hP1, hK1, hD1⟩ := hB
  rw [ht] at hP1
  obtain ⟨hP, hD⟩ := va_join (wr := [(h0, .inr (2, [.ref q1, .int 0])), (q1, .inl (c1, 40, .inr (.inr (.inr (.inr f106)))))]) (w1 := [(q107, .inr (7, [.ref q108, .int 0, .int 0, .int 0, .int 0, .int 0, .int 0]))]) hP hD [2] [0, 1] rfl rfl (by decide) (by decide) hk1 hFc hP1 hD1
  have hK : va_K (dC, dI) vwCl [(c1, .object RX7)] s := hK.app (va_K.moved hvm.symm hK1)
  have hP : va_P (dC, dI) vwCl [(h0, .inr (2, [.ref q1, .int 0])), (q1, .inl (c1, 40, .inr (.inr (.inr (.inr f106))))), (q107, .inr (7, [.ref q108, .int 0, .int 0, .int 0, .int 0, .int 0, .int 0]))] H_36 := hP
  have hD : va_D (va_A [(h0, .inr (2, [.null, .int 0]))] s.heap.size) [(h0, .inr (2, [.ref q1, .int 0])), (q1, .inl (c1, 40, .inr (.inr (.inr (.inr f106))))), (q107, .inr (7, [.ref q108, .int 0, .int 0, .int 0, .int 0, .int 0, .int 0]))] := hD
  refine W.widen (k := 73) (n := 544) (Nat.le_of_ble_eq_true rfl) (Nat.le_of_ble_eq_true rfl) ?_
  refine va_astq (r := (RX7, TX7, 7)) hx hb hK hP hD hS 1 0 2 7 rfl rfl rfl rfl (show vp_in 35 40 by unfold vp_in; decide) dX2_init_33 (fun H locs hP hD hS => ?_)
  have hP : va_P (dC, dI) vwCl [(h0, .inr (2, [.ref q1, .int 0])), (q1, .inl (c1, 40, .inr (.inr (.inr (.inr (va_up f106 35 (some q107))))))), (q107, .inr (7, [.ref q108, .int 0, .int 0, .int 0, .int 0, .int 0, .int 0]))] H := hP
  have hD : va_D (va_A [(h0, .inr (2, [.null, .int 0]))] s.heap.size) [(h0, .inr (2, [.ref q1, .int 0])), (q1, .inl (c1, 40, .inr (.inr (.inr (.inr (va_up f106 35 (some q107))))))), (q107, .inr (7, [.ref q108, .int 0, .int 0, .int 0, .int 0, .int 0, .int 0]))] := hD
  generalize (va_up f106 35 (some q107)) = f109 at hP hD
  have hP := hP.sub (ws' := [(h0, .inr (2, [.ref q1, .int 0])), (q1, .inl (c1, 40, .inr (.inr (.inr (.inr f109)))))]) [0, 1] rfl
  have hD := hD.sub (ws' := [(h0, .inr (2, [.ref q1, .int 0])), (q1, .inl (c1, 40, .inr (.inr (.inr (.inr f109)))))]) [0, 1] (by decide) rfl
  refine lv_iinc (v := 36) (lv' := [(1, .int 36), (0, .ref h0)]) hx hb dX2_init_34 hl (k := 0) rfl (by decide) (by decide) rfl (fun ls hl => ?_)
  refine lv_goto (tgt := 15) hx hb dX2_init_37 (by decide) ?_
  refine lv_iload_n hx hb dX2_init_15 rfl (lv_at hl 0 rfl) ?_
  refine lv_bipush (v := 40) hx hb dX2_init_16 (by decide) ?_
  refine lv_icmp_ge (tgt := 40) hx hb dX2_init_18 (by decide) (fun c => absurd c (by decide)) (fun _ => ?_)
  refine lv_aload_n hx hb dX2_init_21 rfl (lv_at hl 1 rfl) ?_
  refine va_get (D := (dC, dI)) (ci := 2) (v := .ref q1) (C := RX2) (T := TX2) (N := 2) hx hb hts (by decide +kernel) hown hK hP 0 rfl rfl 0 (by decide) (hts (.fieldLink RX2 11 "DearLetters$Ledger" "sales" "[LDearLetters$Sale;") (by decide +kernel)) (fun _ h9 => h9) rfl dX2_init_22 ?_
  refine lv_iload_n hx hb dX2_init_25 rfl (lv_at hl 0 rfl) ?_
  refine va_new (ci := 7) (fs := [.null, .int 0, .int 0, .int 0, .int 0, .int 0, .int 0]) (C := RX7) (T := TX7) (N := 7) hx hb hts (by decide +kernel) tyX7 tyX7_ok hown (hts (.classLink RX2 9 RX7) (by decide +kernel)) (hts (.instantiable RX7 7) (by decide +kernel)) (hts (.initialized RX7) (by decide +kernel)) hK hP hD hS hA rfl (fun j hj => by rcases (show j = 0 ∨ j = 1 ∨ j = 2 ∨ j = 3 ∨ j = 4 ∨ j = 5 ∨ j = 6 by omega) with rfl | rfl | rfl | rfl | rfl | rfl | rfl <;> rfl) (Nat.le_of_ble_eq_true rfl) (Nat.le_of_ble_eq_true rfl) dX2_init_26 (fun q110 H hP hD hS => ?_)
  have hP : va_P (dC, dI) vwCl [(h0, .inr (2, [.ref q1, .int 0])), (q1, .inl (c1, 40, .inr (.inr (.inr (.inr f109))))), (q110, .inr (7, [.null, .int 0, .int 0, .int 0, .int 0, .int 0, .int 0]))] H := hP
  have hD : va_D (va_A [(h0, .inr (2, [.null, .int 0]))] s.heap.size) [(h0, .inr (2, [.ref q1, .int 0])), (q1, .inl (c1, 40, .inr (.inr (.inr (.inr f109))))), (q110, .inr (7, [.null, .int 0, .int 0, .int 0, .int 0, .int 0, .int 0]))] := hD
  refine W.widen (k := 74) (n := 551) (Nat.le_of_ble_eq_true rfl) (Nat.le_of_ble_eq_true rfl) ?_
  refine lv_dup hx hb dX2_init_29 rfl ?_
  have hFc := va_free (wc := [(q110, .inr (7, [.null, .int 0, .int 0, .int 0, .int 0, .int 0, .int 0]))]) hD hS hA [2] rfl
  refine va_callv (va_runIN (As := []) (rest := [.ref q110, .int 36, .ref q1]) ⟨hx, hb, hml, hown, hts⟩ (ci_Sale l dC dI H q110 (hP.sub (ws' := [(q110, .inr (7, [.null, .int 0, .int 0, .int 0, .int 0, .int 0, .int 0]))]) [2] rfl) ((hD.sub (ws' := [(q110, .inr (7, [.null, .int 0, .int 0, .int 0, .int 0, .int 0, .int 0]))]) [2] (by decide) rfl).weaken (fun _ _ _ _ => trivial))) ⟨va_cnB 0 hts gX2_init_X7_init_n17 rfl rfl rfl (hq.2.2.2.2.2.2.1) (hts (.initialized RX7) (by decide +kernel)) (by decide +kernel) ⟨Nat.le_of_ble_eq_true rfl, Nat.le_of_ble_eq_true rfl⟩, rfl, hts (.instanceMethod yX7_init) (by decide +kernel)⟩ ⟨kb_c, kb_m (hK.sub (tys' := []) [] rfl) hq⟩ rfl rfl hl.1 rfl (lv_room (Nat.le_of_ble_eq_true rfl)) dX2_init_30 ⟨Nat.le_of_ble_eq_true rfl, Nat.le_of_ble_eq_true rfl⟩) hS (fun q _ h => hFc q h) hFc (fun u t H_37 locs ht hvm hw hB hz1 hk1 hS => ?_)
  obtain ⟨q111, hP1, hK1, hD1⟩ := hB
  rw [ht] at hP1
  obtain ⟨hP, hD⟩ := va_join (wr := [(h0, .inr (2, [.ref q1, .int 0])), (q1, .inl (c1, 40, .inr (.inr (.inr (.inr f109)))))]) (w1 := [(q110, .inr (7, [.ref q111, .int 0, .int 0, .int 0, .int 0, .int 0, .int 0]))]) hP hD [2] [0, 1] rfl rfl (by decide) (by decide) hk1 hFc hP1 hD1
  have hK : va_K (dC, dI) vwCl [(c1, .object RX7)] s := hK.app (va_K.moved hvm.symm hK1)
  have hP : va_P (dC, dI) vwCl [(h0, .inr (2, [.ref q1, .int 0])), (q1, .inl (c1, 40, .inr (.inr (.inr (.inr f109))))), (q110, .inr (7, [.ref q111, .int 0, .int 0, .int 0, .int 0, .int 0, .int 0]))] H_37 := hP
  have hD : va_D (va_A [(h0, .inr (2, [.null, .int 0]))] s.heap.size) [(h0, .inr (2, [.ref q1, .int 0])), (q1, .inl (c1, 40, .inr (.inr (.inr (.inr f109))))), (q110, .inr (7, [.ref q111, .int 0, .int 0, .int 0, .int 0, .int 0, .int 0]))] := hD
  refine W.widen (k := 75) (n := 558) (Nat.le_of_ble_eq_true rfl) (Nat.le_of_ble_eq_true rfl) ?_
  refine va_astq (r := (RX7, TX7, 7)) hx hb hK hP hD hS 1 0 2 7 rfl rfl rfl rfl (show vp_in 36 40 by unfold vp_in; decide) dX2_init_33 (fun H locs hP hD hS => ?_)
  have hP : va_P (dC, dI) vwCl [(h0, .inr (2, [.ref q1, .int 0])), (q1, .inl (c1, 40, .inr (.inr (.inr (.inr (va_up f109 36 (some q110))))))), (q110, .inr (7, [.ref q111, .int 0, .int 0, .int 0, .int 0, .int 0, .int 0]))] H := hP
  have hD : va_D (va_A [(h0, .inr (2, [.null, .int 0]))] s.heap.size) [(h0, .inr (2, [.ref q1, .int 0])), (q1, .inl (c1, 40, .inr (.inr (.inr (.inr (va_up f109 36 (some q110))))))), (q110, .inr (7, [.ref q111, .int 0, .int 0, .int 0, .int 0, .int 0, .int 0]))] := hD
  generalize (va_up f109 36 (some q110)) = f112 at hP hD
  have hP := hP.sub (ws' := [(h0, .inr (2, [.ref q1, .int 0])), (q1, .inl (c1, 40, .inr (.inr (.inr (.inr f112)))))]) [0, 1] rfl
  have hD := hD.sub (ws' := [(h0, .inr (2, [.ref q1, .int 0])), (q1, .inl (c1, 40, .inr (.inr (.inr (.inr f112)))))]) [0, 1] (by decide) rfl
  refine lv_iinc (v := 37) (lv' := [(1, .int 37), (0, .ref h0)]) hx hb dX2_init_34 hl (k := 0) rfl (by decide) (by decide) rfl (fun ls hl => ?_)
  refine lv_goto (tgt := 15) hx hb dX2_init_37 (by decide) ?_
  refine lv_iload_n hx hb dX2_init_15 rfl (lv_at hl 0 rfl) ?_
  refine lv_bipush (v := 40) hx hb dX2_init_16 (by decide) ?_
  refine lv_icmp_ge (tgt := 40) hx hb dX2_init_18 (by decide) (fun c => absurd c (by decide)) (fun _ => ?_)
  refine lv_aload_n hx hb dX2_init_21 rfl (lv_at hl 1 rfl) ?_
  refine va_get (D := (dC, dI)) (ci := 2) (v := .ref q1) (C := RX2) (T := TX2) (N := 2) hx hb hts (by decide +kernel) hown hK hP 0 rfl rfl 0 (by decide) (hts (.fieldLink RX2 11 "DearLetters$Ledger" "sales" "[LDearLetters$Sale;") (by decide +kernel)) (fun _ h9 => h9) rfl dX2_init_22 ?_
  refine lv_iload_n hx hb dX2_init_25 rfl (lv_at hl 0 rfl) ?_
  refine va_new (ci := 7) (fs := [.null, .int 0, .int 0, .int 0, .int 0, .int 0, .int 0]) (C := RX7) (T := TX7) (N := 7) hx hb hts (by decide +kernel) tyX7 tyX7_ok hown (hts (.classLink RX2 9 RX7) (by decide +kernel)) (hts (.instantiable RX7 7) (by decide +kernel)) (hts (.initialized RX7) (by decide +kernel)) hK hP hD hS hA rfl (fun j hj => by rcases (show j = 0 ∨ j = 1 ∨ j = 2 ∨ j = 3 ∨ j = 4 ∨ j = 5 ∨ j = 6 by omega) with rfl | rfl | rfl | rfl | rfl | rfl | rfl <;> rfl) (Nat.le_of_ble_eq_true rfl) (Nat.le_of_ble_eq_true rfl) dX2_init_26 (fun q113 H hP hD hS => ?_)
  have hP : va_P (dC, dI) vwCl [(h0, .inr (2, [.ref q1, .int 0])), (q1, .inl (c1, 40, .inr (.inr (.inr (.inr f112))))), (q113, .inr (7, [.null, .int 0, .int 0, .int 0, .int 0, .int 0, .int 0]))] H := hP
  have hD : va_D (va_A [(h0, .inr (2, [.null, .int 0]))] s.heap.size) [(h0, .inr (2, [.ref q1, .int 0])), (q1, .inl (c1, 40, .inr (.inr (.inr (.inr f112))))), (q113, .inr (7, [.null, .int 0, .int 0, .int 0, .int 0, .int 0, .int 0]))] := hD
  refine W.widen (k := 76) (n := 565) (Nat.le_of_ble_eq_true rfl) (Nat.le_of_ble_eq_true rfl) ?_
  refine lv_dup hx hb dX2_init_29 rfl ?_
  have hFc := va_free (wc := [(q113, .inr (7, [.null, .int 0, .int 0, .int 0, .int 0, .int 0, .int 0]))]) hD hS hA [2] rfl
  refine va_callv (va_runIN (As := []) (rest := [.ref q113, .int 37, .ref q1]) ⟨hx, hb, hml, hown, hts⟩ (ci_Sale l dC dI H q113 (hP.sub (ws' := [(q113, .inr (7, [.null, .int 0, .int 0, .int 0, .int 0, .int 0, .int 0]))]) [2] rfl) ((hD.sub (ws' := [(q113, .inr (7, [.null, .int 0, .int 0, .int 0, .int 0, .int 0, .int 0]))]) [2] (by decide) rfl).weaken (fun _ _ _ _ => trivial))) ⟨va_cnB 0 hts gX2_init_X7_init_n17 rfl rfl rfl (hq.2.2.2.2.2.2.1) (hts (.initialized RX7) (by decide +kernel)) (by decide +kernel) ⟨Nat.le_of_ble_eq_true rfl, Nat.le_of_ble_eq_true rfl⟩, rfl, hts (.instanceMethod yX7_init) (by decide +kernel)⟩ ⟨kb_c, kb_m (hK.sub (tys' := []) [] rfl) hq⟩ rfl rfl hl.1 rfl (lv_room (Nat.le_of_ble_eq_true rfl)) dX2_init_30 ⟨Nat.le_of_ble_eq_true rfl, Nat.le_of_ble_eq_true rfl⟩) hS (fun q _ h => hFc q h) hFc (fun u t H_38 locs ht hvm hw hB hz1 hk1 hS => ?_)
  obtain ⟨q114, hP1, hK1, hD1⟩ := hB
  rw [ht] at hP1
  obtain ⟨hP, hD⟩ := va_join (wr := [(h0, .inr (2, [.ref q1, .int 0])), (q1, .inl (c1, 40, .inr (.inr (.inr (.inr f112)))))]) (w1 := [(q113, .inr (7, [.ref q114, .int 0, .int 0, .int 0, .int 0, .int 0, .int 0]))]) hP hD [2] [0, 1] rfl rfl (by decide) (by decide) hk1 hFc hP1 hD1
  have hK : va_K (dC, dI) vwCl [(c1, .object RX7)] s := hK.app (va_K.moved hvm.symm hK1)
  have hP : va_P (dC, dI) vwCl [(h0, .inr (2, [.ref q1, .int 0])), (q1, .inl (c1, 40, .inr (.inr (.inr (.inr f112))))), (q113, .inr (7, [.ref q114, .int 0, .int 0, .int 0, .int 0, .int 0, .int 0]))] H_38 := hP
  have hD : va_D (va_A [(h0, .inr (2, [.null, .int 0]))] s.heap.size) [(h0, .inr (2, [.ref q1, .int 0])), (q1, .inl (c1, 40, .inr (.inr (.inr (.inr f112))))), (q113, .inr (7, [.ref q114, .int 0, .int 0, .int 0, .int 0, .int 0, .int 0]))] := hD
  refine W.widen (k := 77) (n := 572) (Nat.le_of_ble_eq_true rfl) (Nat.le_of_ble_eq_true rfl) ?_
  refine va_astq (r := (RX7, TX7, 7)) hx hb hK hP hD hS 1 0 2 7 rfl rfl rfl rfl (show vp_in 37 40 by unfold vp_in; decide) dX2_init_33 (fun H locs hP hD hS => ?_)
  have hP : va_P (dC, dI) vwCl [(h0, .inr (2, [.ref q1, .int 0])), (q1, .inl (c1, 40, .inr (.inr (.inr (.inr (va_up f112 37 (some q113))))))), (q113, .inr (7, [.ref q114, .int 0, .int 0, .int 0, .int 0, .int 0, .int 0]))] H := hP
  have hD : va_D (va_A [(h0, .inr (2, [.null, .int 0]))] s.heap.size) [(h0, .inr (2, [.ref q1, .int 0])), (q1, .inl (c1, 40, .inr (.inr (.inr (.inr (va_up f112 37 (some q113))))))), (q113, .inr (7, [.ref q114, .int 0, .int 0, .int 0, .int 0, .int 0, .int 0]))] := hD
  generalize (va_up f112 37 (some q113)) = f115 at hP hD
  have hP := hP.sub (ws' := [(h0, .inr (2, [.ref q1, .int 0])), (q1, .inl (c1, 40, .inr (.inr (.inr (.inr f115)))))]) [0, 1] rfl
  have hD := hD.sub (ws' := [(h0, .inr (2, [.ref q1, .int 0])), (q1, .inl (c1, 40, .inr (.inr (.inr (.inr f115)))))]) [0, 1] (by decide) rfl
  refine lv_iinc (v := 38) (lv' := [(1, .int 38), (0, .ref h0)]) hx hb dX2_init_34 hl (k := 0) rfl (by decide) (by decide) rfl (fun ls hl => ?_)
  refine lv_goto (tgt := 15) hx hb dX2_init_37 (by decide) ?_
  refine lv_iload_n hx hb dX2_init_15 rfl (lv_at hl 0 rfl) ?_
  refine lv_bipush (v := 40) hx hb dX2_init_16 (by decide) ?_
  refine lv_icmp_ge (tgt := 40) hx hb dX2_init_18 (by decide) (fun c => absurd c (by decide)) (fun _ => ?_)
  refine lv_aload_n hx hb dX2_init_21 rfl (lv_at hl 1 rfl) ?_
  refine va_get (D := (dC, dI)) (ci := 2) (v := .ref q1) (C := RX2) (T := TX2) (N := 2) hx hb hts (by decide +kernel) hown hK hP 0 rfl rfl 0 (by decide) (hts (.fieldLink RX2 11 "DearLetters$Ledger" "sales" "[LDearLetters$Sale;") (by decide +kernel)) (fun _ h9 => h9) rfl dX2_init_22 ?_
  refine lv_iload_n hx hb dX2_init_25 rfl (lv_at hl 0 rfl) ?_
  refine va_new (ci := 7) (fs := [.null, .int 0, .int 0, .int 0, .int 0, .int 0, .int 0]) (C := RX7) (T := TX7) (N := 7) hx hb hts (by decide +kernel) tyX7 tyX7_ok hown (hts (.classLink RX2 9 RX7) (by decide +kernel)) (hts (.instantiable RX7 7) (by decide +kernel)) (hts (.initialized RX7) (by decide +kernel)) hK hP hD hS hA rfl (fun j hj => by rcases (show j = 0 ∨ j = 1 ∨ j = 2 ∨ j = 3 ∨ j = 4 ∨ j = 5 ∨ j = 6 by omega) with rfl | rfl | rfl | rfl | rfl | rfl | rfl <;> rfl) (Nat.le_of_ble_eq_true rfl) (Nat.le_of_ble_eq_true rfl) dX2_init_26 (fun q116 H hP hD hS => ?_)
  have hP : va_P (dC, dI) vwCl [(h0, .inr (2, [.ref q1, .int 0])), (q1, .inl (c1, 40, .inr (.inr (.inr (.inr f115))))), (q116, .inr (7, [.null, .int 0, .int 0, .int 0, .int 0, .int 0, .int 0]))] H := hP
  have hD : va_D (va_A [(h0, .inr (2, [.null, .int 0]))] s.heap.size) [(h0, .inr (2, [.ref q1, .int 0])), (q1, .inl (c1, 40, .inr (.inr (.inr (.inr f115))))), (q116, .inr (7, [.null, .int 0, .int 0, .int 0, .int 0, .int 0, .int 0]))] := hD
  refine W.widen (k := 78) (n := 579) (Nat.le_of_ble_eq_true rfl) (Nat.le_of_ble_eq_true rfl) ?_
  refine lv_dup hx hb dX2_init_29 rfl ?_
  have hFc := va_free (wc := [(q116, .inr (7, [.null, .int 0, .int 0, .int 0, .int 0, .int 0, .int 0]))]) hD hS hA [2] rfl
  refine va_callv (va_runIN (As := []) (rest := [.ref q116, .int 38, .ref q1]) ⟨hx, hb, hml, hown, hts⟩ (ci_Sale l dC dI H q116 (hP.sub (ws' := [(q116, .inr (7, [.null, .int 0, .int 0, .int 0, .int 0, .int 0, .int 0]))]) [2] rfl) ((hD.sub (ws' := [(q116, .inr (7, [.null, .int 0, .int 0, .int 0, .int 0, .int 0, .int 0]))]) [2] (by decide) rfl).weaken (fun _ _ _ _ => trivial))) ⟨va_cnB 0 hts gX2_init_X7_init_n17 rfl rfl rfl (hq.2.2.2.2.2.2.1) (hts (.initialized RX7) (by decide +kernel)) (by decide +kernel) ⟨Nat.le_of_ble_eq_true rfl, Nat.le_of_ble_eq_true rfl⟩, rfl, hts (.instanceMethod yX7_init) (by decide +kernel)⟩ ⟨kb_c, kb_m (hK.sub (tys' := []) [] rfl) hq⟩ rfl rfl hl.1 rfl (lv_room (Nat.le_of_ble_eq_true rfl)) dX2_init_30 ⟨Nat.le_of_ble_eq_true rfl, Nat.le_of_ble_eq_true rfl⟩) hS (fun q _ h => hFc q h) hFc (fun u t H_39 locs ht hvm hw hB hz1 hk1 hS => ?_)
  obtain ⟨q117, hP1, hK1, hD1⟩ := hB
  rw [ht] at hP1
  obtain ⟨hP, hD⟩ := va_join (wr := [(h0, .inr (2, [.ref q1, .int 0])), (q1, .inl (c1, 40, .inr (.inr (.inr (.inr f115)))))]) (w1 := [(q116, .inr (7, [.ref q117, .int 0, .int 0, .int 0, .int 0, .int 0, .int 0]))]) hP hD [2] [0, 1] rfl rfl (by decide) (by decide) hk1 hFc hP1 hD1
  have hK : va_K (dC, dI) vwCl [(c1, .object RX7)] s := hK.app (va_K.moved hvm.symm hK1)
  have hP : va_P (dC, dI) vwCl [(h0, .inr (2, [.ref q1, .int 0])), (q1, .inl (c1, 40, .inr (.inr (.inr (.inr f115))))), (q116, .inr (7, [.ref q117, .int 0, .int 0, .int 0, .int 0, .int 0, .int 0]))] H_39 := hP
  have hD : va_D (va_A [(h0, .inr (2, [.null, .int 0]))] s.heap.size) [(h0, .inr (2, [.ref q1, .int 0])), (q1, .inl (c1, 40, .inr (.inr (.inr (.inr f115))))), (q116, .inr (7, [.ref q117, .int 0, .int 0, .int 0, .int 0, .int 0, .int 0]))] := hD
  refine W.widen (k := 79) (n := 586) (Nat.le_of_ble_eq_true rfl) (Nat.le_of_ble_eq_true rfl) ?_
  refine va_astq (r := (RX7, TX7, 7)) hx hb hK hP hD hS 1 0 2 7 rfl rfl rfl rfl (show vp_in 38 40 by unfold vp_in; decide) dX2_init_33 (fun H locs hP hD hS => ?_)
  have hP : va_P (dC, dI) vwCl [(h0, .inr (2, [.ref q1, .int 0])), (q1, .inl (c1, 40, .inr (.inr (.inr (.inr (va_up f115 38 (some q116))))))), (q116, .inr (7, [.ref q117, .int 0, .int 0, .int 0, .int 0, .int 0, .int 0]))] H := hP
  have hD : va_D (va_A [(h0, .inr (2, [.null, .int 0]))] s.heap.size) [(h0, .inr (2, [.ref q1, .int 0])), (q1, .inl (c1, 40, .inr (.inr (.inr (.inr (va_up f115 38 (some q116))))))), (q116, .inr (7, [.ref q117, .int 0, .int 0, .int 0, .int 0, .int 0, .int 0]))] := hD
  generalize (va_up f115 38 (some q116)) = f118 at hP hD
  have hP := hP.sub (ws' := [(h0, .inr (2, [.ref q1, .int 0])), (q1, .inl (c1, 40, .inr (.inr (.inr (.inr f118)))))]) [0, 1] rfl
  have hD := hD.sub (ws' := [(h0, .inr (2, [.ref q1, .int 0])), (q1, .inl (c1, 40, .inr (.inr (.inr (.inr f118)))))]) [0, 1] (by decide) rfl
  refine lv_iinc (v := 39) (lv' := [(1, .int 39), (0, .ref h0)]) hx hb dX2_init_34 hl (k := 0) rfl (by decide) (by decide) rfl (fun ls hl => ?_)
  refine lv_goto (tgt := 15) hx hb dX2_init_37 (by decide) ?_
  refine lv_iload_n hx hb dX2_init_15 rfl (lv_at hl 0 rfl) ?_
  refine lv_bipush (v := 40) hx hb dX2_init_16 (by decide) ?_
  refine lv_icmp_ge (tgt := 40) hx hb dX2_init_18 (by decide) (fun c => absurd c (by decide)) (fun _ => ?_)
  refine lv_aload_n hx hb dX2_init_21 rfl (lv_at hl 1 rfl) ?_
  refine va_get (D := (dC, dI)) (ci := 2) (v := .ref q1) (C := RX2) (T := TX2) (N := 2) hx hb hts (by decide +kernel) hown hK hP 0 rfl rfl 0 (by decide) (hts (.fieldLink RX2 11 "DearLetters$Ledger" "sales" "[LDearLetters$Sale;") (by decide +kernel)) (fun _ h9 => h9) rfl dX2_init_22 ?_
  refine lv_iload_n hx hb dX2_init_25 rfl (lv_at hl 0 rfl) ?_
  refine va_new (ci := 7) (fs := [.null, .int 0, .int 0, .int 0, .int 0, .int 0, .int 0]) (C := RX7) (T := TX7) (N := 7) hx hb hts (by decide +kernel) tyX7 tyX7_ok hown (hts (.classLink RX2 9 RX7) (by decide +kernel)) (hts (.instantiable RX7 7) (by decide +kernel)) (hts (.initialized RX7) (by decide +kernel)) hK hP hD hS hA rfl (fun j hj => by rcases (show j = 0 ∨ j = 1 ∨ j = 2 ∨ j = 3 ∨ j = 4 ∨ j = 5 ∨ j = 6 by omega) with rfl | rfl | rfl | rfl | rfl | rfl | rfl <;> rfl) (Nat.le_of_ble_eq_true rfl) (Nat.le_of_ble_eq_true rfl) dX2_init_26 (fun q119 H hP hD hS => ?_)
  have hP : va_P (dC, dI) vwCl [(h0, .inr (2, [.ref q1, .int 0])), (q1, .inl (c1, 40, .inr (.inr (.inr (.inr f118))))), (q119, .inr (7, [.null, .int 0, .int 0, .int 0, .int 0, .int 0, .int 0]))] H := hP
  have hD : va_D (va_A [(h0, .inr (2, [.null, .int 0]))] s.heap.size) [(h0, .inr (2, [.ref q1, .int 0])), (q1, .inl (c1, 40, .inr (.inr (.inr (.inr f118))))), (q119, .inr (7, [.null, .int 0, .int 0, .int 0, .int 0, .int 0, .int 0]))] := hD
  refine W.widen (k := 80) (n := 593) (Nat.le_of_ble_eq_true rfl) (Nat.le_of_ble_eq_true rfl) ?_
  refine lv_dup hx hb dX2_init_29 rfl ?_
  have hFc := va_free (wc := [(q119, .inr (7, [.null, .int 0, .int 0, .int 0, .int 0, .int 0, .int 0]))]) hD hS hA [2] rfl
  refine va_callv (va_runIN (As := []) (rest := [.ref q119, .int 39, .ref q1]) ⟨hx, hb, hml, hown, hts⟩ (ci_Sale l dC dI H q119 (hP.sub (ws' := [(q119, .inr (7, [.null, .int 0, .int 0, .int 0, .int 0, .int 0, .int 0]))]) [2] rfl) ((hD.sub (ws' := [(q119, .inr (7, [.null, .int 0, .int 0, .int 0, .int 0, .int 0, .int 0]))]) [2] (by decide) rfl).weaken (fun _ _ _ _ => trivial))) ⟨va_cnB 0 hts gX2_init_X7_init_n17 rfl rfl rfl (hq.2.2.2.2.2.2.1) (hts (.initialized RX7) (by decide +kernel)) (by decide +kernel) ⟨Nat.le_of_ble_eq_true rfl, Nat.le_of_ble_eq_true rfl⟩, rfl, hts (.instanceMethod yX7_init) (by decide +kernel)⟩ ⟨kb_c, kb_m (hK.sub (tys' := []) [] rfl) hq⟩ rfl rfl hl.1 rfl (lv_room (Nat.le_of_ble_eq_true rfl)) dX2_init_30 ⟨Nat.le_of_ble_eq_true rfl, Nat.le_of_ble_eq_true rfl⟩) hS (fun q _ h => hFc q h) hFc (fun u t H_40 locs ht hvm hw hB hz1 hk1 hS => ?_)
  obtain ⟨q120, hP1, hK1, hD1⟩ := hB
  rw [ht] at hP1
  obtain ⟨hP, hD⟩ := va_join (wr := [(h0, .inr (2, [.ref q1, .int 0])), (q1, .inl (c1, 40, .inr (.inr (.inr (.inr f118)))))]) (w1 := [(q119, .inr (7, [.ref q120, .int 0, .int 0, .int 0, .int 0, .int 0, .int 0]))]) hP hD [2] [0, 1] rfl rfl (by decide) (by decide) hk1 hFc hP1 hD1
  have hK : va_K (dC, dI) vwCl [(c1, .object RX7)] s := hK.app (va_K.moved hvm.symm hK1)
  have hP : va_P (dC, dI) vwCl [(h0, .inr (2, [.ref q1, .int 0])), (q1, .inl (c1, 40, .inr (.inr (.inr (.inr f118))))), (q119, .inr (7, [.ref q120, .int 0, .int 0, .int 0, .int 0, .int 0, .int 0]))] H_40 := hP
  have hD : va_D (va_A [(h0, .inr (2, [.null, .int 0]))] s.heap.size) [(h0, .inr (2, [.ref q1, .int 0])), (q1, .inl (c1, 40, .inr (.inr (.inr (.inr f118))))), (q119, .inr (7, [.ref q120, .int 0, .int 0, .int 0, .int 0, .int 0, .int 0]))] := hD
  refine W.widen (k := 81) (n := 600) (Nat.le_of_ble_eq_true rfl) (Nat.le_of_ble_eq_true rfl) ?_
  refine va_astq (r := (RX7, TX7, 7)) hx hb hK hP hD hS 1 0 2 7 rfl rfl rfl rfl (show vp_in 39 40 by unfold vp_in; decide) dX2_init_33 (fun H locs hP hD hS => ?_)
  have hP : va_P (dC, dI) vwCl [(h0, .inr (2, [.ref q1, .int 0])), (q1, .inl (c1, 40, .inr (.inr (.inr (.inr (va_up f118 39 (some q119))))))), (q119, .inr (7, [.ref q120, .int 0, .int 0, .int 0, .int 0, .int 0, .int 0]))] H := hP
  have hD : va_D (va_A [(h0, .inr (2, [.null, .int 0]))] s.heap.size) [(h0, .inr (2, [.ref q1, .int 0])), (q1, .inl (c1, 40, .inr (.inr (.inr (.inr (va_up f118 39 (some q119))))))), (q119, .inr (7, [.ref q120, .int 0, .int 0, .int 0, .int 0, .int 0, .int 0]))] := hD
  generalize (va_up f118 39 (some q119)) = f121 at hP hD
  have hP := hP.sub (ws' := [(h0, .inr (2, [.ref q1, .int 0])), (q1, .inl (c1, 40, .inr (.inr (.inr (.inr f121)))))]) [0, 1] rfl
  have hD := hD.sub (ws' := [(h0, .inr (2, [.ref q1, .int 0])), (q1, .inl (c1, 40, .inr (.inr (.inr (.inr f121)))))]) [0, 1] (by decide) rfl
  refine lv_iinc (v := 40) (lv' := [(1, .int 40), (0, .ref h0)]) hx hb dX2_init_34 hl (k := 0) rfl (by decide) (by decide) rfl (fun ls hl => ?_)
  refine lv_goto (tgt := 15) hx hb dX2_init_37 (by decide) ?_
  refine lv_iload_n hx hb dX2_init_15 rfl (lv_at hl 0 rfl) ?_
  refine lv_bipush (v := 40) hx hb dX2_init_16 (by decide) ?_
  refine lv_icmp_ge (tgt := 40) hx hb dX2_init_18 (by decide) (fun _ => ?_) (fun c => absurd (by decide) c)
  have hP := hP.sub (ws' := [(h0, .inr (2, [.ref q1, .int 0]))]) [0] rfl
  have hD := hD.sub (ws' := [(h0, .inr (2, [.ref q1, .int 0]))]) [0] (by decide) rfl
  have hK := hK.sub (tys' := []) [] rfl
  exact W.vret hx hb hr (fun t ht hW => ⟨⟨(), rfl, trivial, q1, by first | (subst ht; exact hP) | (rw [ht]; exact hP), va_K.moved hW.alike hK, hD⟩, hS.F ht⟩) hS.2.2 dX2_init_40
