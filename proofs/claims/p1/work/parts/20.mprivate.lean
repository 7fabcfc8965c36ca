theorem dX12_in_0 : decode cX12_in 0 = .ok (.iload_n 0, 1) := by decide +kernel
theorem dX12_in_1 : decode cX12_in 1 = .ok (.iload_n 1, 1) := by decide +kernel
theorem dX12_in_2 : decode cX12_in 2 = .ok (.if_icmp .lt 12, 3) := by decide +kernel
theorem dX12_in_14 : decode cX12_in 14 = .ok (.iconst 0, 1) := by decide +kernel
theorem dX12_in_15 : decode cX12_in 15 = .ok (.ireturn, 1) := by decide +kernel
theorem dX12_in_5 : decode cX12_in 5 = .ok (.iload_n 0, 1) := by decide +kernel
theorem dX12_in_6 : decode cX12_in 6 = .ok (.iload_n 2, 1) := by decide +kernel
theorem dX12_in_7 : decode cX12_in 7 = .ok (.if_icmp .gt 7, 3) := by decide +kernel
theorem dX12_in_10 : decode cX12_in 10 = .ok (.iconst 1, 1) := by decide +kernel
theorem dX12_in_11 : decode cX12_in 11 = .ok (.goto 4, 3) := by decide +kernel
set_option maxHeartbeats 4000000 in
set_option maxRecDepth 100000 in
/-- in(v, low, high) -/
theorem cm_in (l : Launch) (dC : Nat → ClassId) (dI : Nat → Nat → Nat) (tys : List (ClassId × FieldType)) (H : Heap) (vv : Int32) (vlo : Int32) (vhi : Int32) : Met l yX12_in wsX12_in ({ frames := 0, cells := 0, slots := 0, locals := 0 }) (va_Pc [.int vv, .int vlo, .int vhi] (pb_P (dC, dI) vwCl tys H)) (va_Qi (fun (z : Int32) (_ : Unit) => z = if vlo.toInt ≤ vv.toInt ∧ vv.toInt ≤ vhi.toInt then 1 else 0) (fun _ t => t.heap = H) (fun _ => False)) 0 0 (fun _ => False) := by
  refine Met.ofW (cc := cX12_in) (maxL := 3) (ret := (some .boolean)) (by decide) rfl ?_
  intro p e s m args below meth c s₁ B hml hv
  obtain ⟨rfl, hh, hK⟩ := hv
  have hx := B.exec
  have hb := B.bytes
  have hr := B.returns
  have hts := atoms_spec (ws := wsX12_in) B.pre
  have hown : s.vm.findClass RX12 = some m.cls := findClass_of_methodNamed B.named
  have hlocks := B.notSynchronized
  subst hh
  have hS : va_S (fun _ => False) s.heap s.heap [] := va_S.rf
  have hl := lv_entry ([.int vv, .int vlo, .int vhi]) (n := 3) (Nat.le_of_ble_eq_true rfl)
  rw [lg_entry_eq]
  generalize (lg_sl ([.int vv, .int vlo, .int vhi]) ++ List.replicate (3 - (lg_sl ([.int vv, .int vlo, .int vhi])).length) Slot.unset).toArray = ls at hl ⊢
  have hl : lv_has ls 3 [(0, .int vv), (1, .int vlo), (2, .int vhi)] := hl
  refine lv_iload_n hx hb dX12_in_0 rfl (lv_at hl 0 rfl) ?_
  refine lv_iload_n hx hb dX12_in_1 rfl (lv_at hl 1 rfl) ?_
  refine lv_icmp_lt (tgt := 14) hx hb dX12_in_2 (by decide) (fun c_1 => ?_) (fun c_1 => ?_)
  · have c_1 : vv.toInt < vlo.toInt := il_lt c_1
    refine lv_iconst (v := 0) hx hb dX12_in_14 (by decide) ?_
    exact W.zret (v := 0) (ty := .boolean) hx hb hr (by first | rfl | decide) (fun t ht hW => ⟨⟨0, (), rfl, (by (split <;> first | rfl | (exfalso; omega) | (split <;> first | rfl | (exfalso; omega) | (split <;> first | rfl | (exfalso; omega))))), ht⟩, hS.F ht⟩) hS.2.2 dX12_in_15
  · have c_1 : vlo.toInt ≤ vv.toInt := il_nlt c_1
    refine lv_iload_n hx hb dX12_in_5 rfl (lv_at hl 0 rfl) ?_
    refine lv_iload_n hx hb dX12_in_6 rfl (lv_at hl 2 rfl) ?_
    refine lv_icmp_gt (tgt := 14) hx hb dX12_in_7 (by decide) (fun c_2 => ?_) (fun c_2 => ?_)
    · have c_2 : vhi.toInt < vv.toInt := il_lt c_2
      refine lv_iconst (v := 0) hx hb dX12_in_14 (by decide) ?_
      exact W.zret (v := 0) (ty := .boolean) hx hb hr (by first | rfl | decide) (fun t ht hW => ⟨⟨0, (), rfl, (by (split <;> first | rfl | (exfalso; omega) | (split <;> first | rfl | (exfalso; omega) | (split <;> first | rfl | (exfalso; omega))))), ht⟩, hS.F ht⟩) hS.2.2 dX12_in_15
    · have c_2 : vv.toInt ≤ vhi.toInt := il_nlt c_2
      refine lv_iconst (v := 1) hx hb dX12_in_10 (by decide) ?_
      refine lv_goto (tgt := 15) hx hb dX12_in_11 (by decide) ?_
      exact W.zret (v := 1) (ty := .boolean) hx hb hr (by first | rfl | decide) (fun t ht hW => ⟨⟨1, (), rfl, (by (split <;> first | rfl | (exfalso; omega) | (split <;> first | rfl | (exfalso; omega) | (split <;> first | rfl | (exfalso; omega))))), ht⟩, hS.F ht⟩) hS.2.2 dX12_in_15
theorem dX12_isRow_0 : decode cX12_isRow 0 = .ok (.iload_n 0, 1) := by decide +kernel
theorem dX12_isRow_1 : decode cX12_isRow 1 = .ok (.iconst 0, 1) := by decide +kernel
theorem dX12_isRow_2 : decode cX12_isRow 2 = .ok (.iconst 5, 1) := by decide +kernel
theorem dX12_isRow_3 : decode cX12_isRow 3 = .ok (.invokestatic 77, 3) := by decide +kernel
theorem dX12_isRow_6 : decode cX12_isRow 6 = .ok (.ireturn, 1) := by decide +kernel
set_option maxRecDepth 20000 in
theorem ggX12_isRow_X12_in : GoodIn wsX12_isRow wsX12_in := goodIn_r _ [4] (by decide +kernel) (by decide +kernel)
set_option maxRecDepth 20000 in
theorem gX12_isRow_X12_in : GoodIn wsX12_isRow (va_wsS RX12 77 yX12_in wsX12_in) := goodIn_app (goodIn_of _ (by decide +kernel)) ggX12_isRow_X12_in
set_option maxHeartbeats 4000000 in
set_option maxRecDepth 100000 in
/-- isRow -/
theorem cm_isRow (l : Launch) (dC : Nat → ClassId) (dI : Nat → Nat → Nat) (tys : List (ClassId × FieldType)) (H : Heap) (vr : Int32) : Met l yX12_isRow wsX12_isRow ({ frames := 1, cells := 0, slots := 0, locals := 22 }) (va_Pc [.int vr] (pb_P (dC, dI) vwCl tys H)) (va_Qi (fun (z : Int32) (_ : Unit) => z = if 0 ≤ vr.toInt ∧ vr.toInt < 6 then 1 else 0) (fun _ t => t.heap = H) (fun _ => False)) 0 0 (fun _ => False) := by
  refine Met.ofW (cc := cX12_isRow) (maxL := 1) (ret := (some .boolean)) (by decide) rfl ?_
  intro p e s m args below meth c s₁ B hml hv
  obtain ⟨rfl, hh, hK⟩ := hv
  have hx := B.exec
  have hb := B.bytes
  have hr := B.returns
  have hts := atoms_spec (ws := wsX12_isRow) B.pre
  have hown : s.vm.findClass RX12 = some m.cls := findClass_of_methodNamed B.named
  have hlocks := B.notSynchronized
  subst hh
  have hS : va_S (fun _ => False) s.heap s.heap [] := va_S.rf
  have hl := lv_entry ([.int vr]) (n := 1) (Nat.le_of_ble_eq_true rfl)
  rw [lg_entry_eq]
  generalize (lg_sl ([.int vr]) ++ List.replicate (1 - (lg_sl ([.int vr])).length) Slot.unset).toArray = ls at hl ⊢
  have hl : lv_has ls 1 [(0, .int vr)] := hl
  refine lv_iload_n hx hb dX12_isRow_0 rfl (lv_at hl 0 rfl) ?_
  refine lv_iconst (v := 0) hx hb dX12_isRow_1 (by decide) ?_
  refine lv_iconst (v := 5) hx hb dX12_isRow_2 (by decide) ?_
  refine cr_i (va_runS (As := [.int vr, .int 0, .int 5]) (rest := []) ⟨hx, hb, hml, hown, hts⟩ (cm_in l dC dI tys s.heap vr 0 5) (va_cwS 3 hts gX12_isRow_X12_in rfl rfl rfl (by decide +kernel) ⟨Nat.le_of_ble_eq_true rfl, Nat.le_of_ble_eq_true rfl⟩) ⟨pb_c, pb_m hK⟩ rfl rfl hl.1 rfl (lv_room (Nat.le_of_ble_eq_true rfl)) dX12_isRow_3 ⟨Nat.zero_le _, Nat.zero_le _⟩) hS (fun r_1 hw_1 locs hS => ?_)
  obtain ⟨c_1, rfl⟩ | ⟨c_1, rfl⟩ := ic_of hw_1
  · have c_1 : 0 ≤ vr.toInt ∧ vr.toInt ≤ 5 := c_1
    exact W.zret (v := 1) (ty := .boolean) hx hb hr (by first | rfl | decide) (fun t ht hW => ⟨⟨1, (), rfl, (by (split <;> first | rfl | (exfalso; omega) | (split <;> first | rfl | (exfalso; omega) | (split <;> first | rfl | (exfalso; omega))))), ht⟩, hS.F ht⟩) hS.2.2 dX12_isRow_6
  · have c_1 : ¬ (0 ≤ vr.toInt ∧ vr.toInt ≤ 5) := c_1
    exact W.zret (v := 0) (ty := .boolean) hx hb hr (by first | rfl | decide) (fun t ht hW => ⟨⟨0, (), rfl, (by (split <;> first | rfl | (exfalso; omega) | (split <;> first | rfl | (exfalso; omega) | (split <;> first | rfl | (exfalso; omega))))), ht⟩, hS.F ht⟩) hS.2.2 dX12_isRow_6
theorem dX12_isText_0 : decode cX12_isText 0 = .ok (.iload_n 0, 1) := by decide +kernel
theorem dX12_isText_1 : decode cX12_isText 1 = .ok (.iconst 0, 1) := by decide +kernel
theorem dX12_isText_2 : decode cX12_isText 2 = .ok (.iconst 3, 1) := by decide +kernel
theorem dX12_isText_3 : decode cX12_isText 3 = .ok (.invokestatic 77, 3) := by decide +kernel
theorem dX12_isText_6 : decode cX12_isText 6 = .ok (.ireturn, 1) := by decide +kernel
set_option maxRecDepth 20000 in
theorem ggX12_isText_X12_in : GoodIn wsX12_isText wsX12_in := goodIn_r _ [4] (by decide +kernel) (by decide +kernel)
set_option maxRecDepth 20000 in
theorem gX12_isText_X12_in : GoodIn wsX12_isText (va_wsS RX12 77 yX12_in wsX12_in) := goodIn_app (goodIn_of _ (by decide +kernel)) ggX12_isText_X12_in
set_option maxHeartbeats 4000000 in
set_option maxRecDepth 100000 in
/-- isText -/
theorem cm_isText (l : Launch) (dC : Nat → ClassId) (dI : Nat → Nat → Nat) (tys : List (ClassId × FieldType)) (H : Heap) (vr : Int32) : Met l yX12_isText wsX12_isText ({ frames := 1, cells := 0, slots := 0, locals := 22 }) (va_Pc [.int vr] (pb_P (dC, dI) vwCl tys H)) (va_Qi (fun (z : Int32) (_ : Unit) => z = if 0 ≤ vr.toInt ∧ vr.toInt < 4 then 1 else 0) (fun _ t => t.heap = H) (fun _ => False)) 0 0 (fun _ => False) := by
  refine Met.ofW (cc := cX12_isText) (maxL := 1) (ret := (some .boolean)) (by decide) rfl ?_
  intro p e s m args below meth c s₁ B hml hv
  obtain ⟨rfl, hh, hK⟩ := hv
  have hx := B.exec
  have hb := B.bytes
  have hr := B.returns
  have hts := atoms_spec (ws := wsX12_isText) B.pre
  have hown : s.vm.findClass RX12 = some m.cls := findClass_of_methodNamed B.named
  have hlocks := B.notSynchronized
  subst hh
  have hS : va_S (fun _ => False) s.heap s.heap [] := va_S.rf
  have hl := lv_entry ([.int vr]) (n := 1) (Nat.le_of_ble_eq_true rfl)
  rw [lg_entry_eq]
  generalize (lg_sl ([.int vr]) ++ List.replicate (1 - (lg_sl ([.int vr])).length) Slot.unset).toArray = ls at hl ⊢
  have hl : lv_has ls 1 [(0, .int vr)] := hl
  refine lv_iload_n hx hb dX12_isText_0 rfl (lv_at hl 0 rfl) ?_
  refine lv_iconst (v := 0) hx hb dX12_isText_1 (by decide) ?_
  refine lv_iconst (v := 3) hx hb dX12_isText_2 (by decide) ?_
  refine cr_i (va_runS (As := [.int vr, .int 0, .int 3]) (rest := []) ⟨hx, hb, hml, hown, hts⟩ (cm_in l dC dI tys s.heap vr 0 3) (va_cwS 3 hts gX12_isText_X12_in rfl rfl rfl (by decide +kernel) ⟨Nat.le_of_ble_eq_true rfl, Nat.le_of_ble_eq_true rfl⟩) ⟨pb_c, pb_m hK⟩ rfl rfl hl.1 rfl (lv_room (Nat.le_of_ble_eq_true rfl)) dX12_isText_3 ⟨Nat.zero_le _, Nat.zero_le _⟩) hS (fun r_1 hw_1 locs hS => ?_)
  obtain ⟨c_1, rfl⟩ | ⟨c_1, rfl⟩ := ic_of hw_1
  · have c_1 : 0 ≤ vr.toInt ∧ vr.toInt ≤ 3 := c_1
    exact W.zret (v := 1) (ty := .boolean) hx hb hr (by first | rfl | decide) (fun t ht hW => ⟨⟨1, (), rfl, (by (split <;> first | rfl | (exfalso; omega) | (split <;> first | rfl | (exfalso; omega) | (split <;> first | rfl | (exfalso; omega))))), ht⟩, hS.F ht⟩) hS.2.2 dX12_isText_6
  · have c_1 : ¬ (0 ≤ vr.toInt ∧ vr.toInt ≤ 3) := c_1
    exact W.zret (v := 0) (ty := .boolean) hx hb hr (by first | rfl | decide) (fun t ht hW => ⟨⟨0, (), rfl, (by (split <;> first | rfl | (exfalso; omega) | (split <;> first | rfl | (exfalso; omega) | (split <;> first | rfl | (exfalso; omega))))), ht⟩, hS.F ht⟩) hS.2.2 dX12_isText_6
theorem dX12_meet_0 : decode cX12_meet 0 = .ok (.aload_n 0, 1) := by decide +kernel
theorem dX12_meet_1 : decode cX12_meet 1 = .ok (.iload_n 1, 1) := by decide +kernel
theorem dX12_meet_2 : decode cX12_meet 2 = .ok (.putfield 70, 3) := by decide +kernel
theorem dX12_meet_5 : decode cX12_meet 5 = .ok (.aload_n 0, 1) := by decide +kernel
theorem dX12_meet_6 : decode cX12_meet 6 = .ok (.getfield 7, 3) := by decide +kernel
theorem dX12_meet_9 : decode cX12_meet 9 = .ok (.iload_n 1, 1) := by decide +kernel
theorem dX12_meet_10 : decode cX12_meet 10 = .ok (.dup2, 1) := by decide +kernel
theorem dX12_meet_11 : decode cX12_meet 11 = .ok (.iaload, 1) := by decide +kernel
theorem dX12_meet_12 : decode cX12_meet 12 = .ok (.iconst 1, 1) := by decide +kernel
theorem dX12_meet_13 : decode cX12_meet 13 = .ok (.iadd, 1) := by decide +kernel
theorem dX12_meet_14 : decode cX12_meet 14 = .ok (.iastore, 1) := by decide +kernel
theorem dX12_meet_15 : decode cX12_meet 15 = .ok (.bipush (-3), 2) := by decide +kernel
theorem dX12_meet_17 : decode cX12_meet 17 = .ok (.ireturn, 1) := by decide +kernel
set_option maxHeartbeats 4000000 in
set_option maxRecDepth 100000 in
/-- meet(w) -/
theorem cm_meet (l : Launch) (dC : Nat → ClassId) (dI : Nat → Nat → Nat) (cs : Nat → ClassId) (ad : Nat → Nat) (H : Heap) (hP : va_P (dC, dI) vwCl (wM cs ad 0) H) (hD0 : va_D (fun _ => True) (wM cs ad 0)) (vw : Int32) (hin : vp_in vw 6) : Met l yX12_meet wsX12_meet ({ frames := 0, cells := 0, slots := 0, locals := 0 }) (va_Pc [.ref (ad 0), .int vw] (pb_P (dC, dI) vwCl (tyM cs) H)) (va_Qi (fun (z : Int32) (_ : Unit) => z = (-3)) (fun _ _ => True) (va_A (wM cs ad 0) H.size)) 0 0 (va_A (wM cs ad 0) H.size) := by
  refine Met.ofW (cc := cX12_meet) (maxL := 2) (ret := (some .int)) (by decide) rfl ?_
  intro p e s m args below meth c s₁ B hml hv
  obtain ⟨rfl, hh, hK⟩ := hv
  have hx := B.exec
  have hb := B.bytes
  have hr := B.returns
  have hts := atoms_spec (ws := wsX12_meet) B.pre
  have hown : s.vm.findClass RX12 = some m.cls := findClass_of_methodNamed B.named
  have hlocks := B.notSynchronized
  subst hh
  have hD := hD0.self (sz := s.heap.size)
  have hA : ∀ q : Nat, s.heap.size ≤ q → va_A (wM cs ad 0) s.heap.size q := fun q h => Or.inr h
  have hS : va_S (va_A (wM cs ad 0) s.heap.size) s.heap s.heap [] := va_S.rf
  have hl := lv_entry ([.ref (ad 0), .int vw]) (n := 2) (Nat.le_of_ble_eq_true rfl)
  rw [lg_entry_eq]
  generalize (lg_sl ([.ref (ad 0), .int vw]) ++ List.replicate (2 - (lg_sl ([.ref (ad 0), .int vw])).length) Slot.unset).toArray = ls at hl ⊢
  have hl : lv_has ls 2 [(0, .ref (ad 0)), (1, .int vw)] := hl
  have hi0 := vp_in_iff.mp hin
  refine lv_aload_n hx hb dX12_meet_0 rfl (lv_at hl 0 rfl) ?_
  refine lv_iload_n hx hb dX12_meet_1 rfl (lv_at hl 1 rfl) ?_
  refine va_put (D := (dC, dI)) (ci := 12) (v := .int vw) (ty := .int) (C := RX12) (T := TX12) (N := 46) hx hb hts (by decide +kernel) tyX12 tyX12_ok nmX12 hown hK hP hD hS 0 rfl rfl 0 (by decide) (hts (.fieldLink RX12 70 "DearLettersModel" "finding" "I") (by decide +kernel)) (fun _ h9 => h9) rfl (by decide +kernel) (by first | rfl | decide) (by first | rfl | decide) (Nat.le_of_ble_eq_true rfl) dX12_meet_2 (fun H locs hP hD hS => ?_)
  refine lv_aload_n hx hb dX12_meet_5 rfl (lv_at hl 0 rfl) ?_
  refine va_get (D := (dC, dI)) (ci := 12) (v := .ref (ad 1)) (C := RX12) (T := TX12) (N := 46) hx hb hts (by decide +kernel) hown hK hP 0 rfl rfl 1 (by decide) (hts (.fieldLink RX12 7 "DearLettersModel" "findings" "[I") (by decide +kernel)) (fun _ h9 => h9) rfl dX12_meet_6 ?_
  refine lv_iload_n hx hb dX12_meet_9 rfl (lv_at hl 1 rfl) ?_
  refine lv_dup2_11 hx hb dX12_meet_10 rfl rfl ?_
  refine va_iald hx hb hK hP 1 0 rfl rfl (show vp_in vw 6 from vi_of (by omega) (by omega)) dX12_meet_11 ?_
  refine lq_i 0 (by first | rfl | decide) ?_
  refine lv_iconst (v := 1) hx hb dX12_meet_12 (by decide) ?_
  refine lv_iadd hx hb dX12_meet_13 ?_
  refine lq_i 1 (by decide) ?_
  refine va_iast hx hb hK hP hD hS 1 0 rfl rfl (show vp_in vw 6 from vi_of (by omega) (by omega)) dX12_meet_14 (fun H locs hP hD hS => ?_)
  refine lv_bipush (v := (-3)) hx hb dX12_meet_15 (by decide) ?_
  exact W.iret (v := (-3)) hx hb hr (fun t ht hW => ⟨⟨(-3), (), rfl, rfl, trivial⟩, hS.F ht⟩) hS.2.2 dX12_meet_17
theorem dX12_ask_0 : decode cX12_ask 0 = .ok (.aload_n 0, 1) := by decide +kernel
theorem dX12_ask_1 : decode cX12_ask 1 = .ok (.iload_n 1, 1) := by decide +kernel
theorem dX12_ask_2 : decode cX12_ask 2 = .ok (.putfield 74, 3) := by decide +kernel
theorem dX12_ask_5 : decode cX12_ask 5 = .ok (.iload_n 2, 1) := by decide +kernel
theorem dX12_ask_6 : decode cX12_ask 6 = .ok (.ireturn, 1) := by decide +kernel
set_option maxHeartbeats 4000000 in
set_option maxRecDepth 100000 in
/-- ask(v, answer) -/
theorem cm_ask (l : Launch) (dC : Nat → ClassId) (dI : Nat → Nat → Nat) (cs : Nat → ClassId) (ad : Nat → Nat) (H : Heap) (hP : va_P (dC, dI) vwCl (wM cs ad 0) H) (hD0 : va_D (fun _ => True) (wM cs ad 0)) (vv : Int32) (vans : Int32) : Met l yX12_ask wsX12_ask ({ frames := 0, cells := 0, slots := 0, locals := 0 }) (va_Pc [.ref (ad 0), .int vv, .int vans] (pb_P (dC, dI) vwCl (tyM cs) H)) (va_Qi (fun (z : Int32) (_ : Unit) => z = vans) (fun _ _ => True) (va_A (wM cs ad 0) H.size)) 0 0 (va_A (wM cs ad 0) H.size) := by
  refine Met.ofW (cc := cX12_ask) (maxL := 3) (ret := (some .int)) (by decide) rfl ?_
  intro p e s m args below meth c s₁ B hml hv
  obtain ⟨rfl, hh, hK⟩ := hv
  have hx := B.exec
  have hb := B.bytes
  have hr := B.returns
  have hts := atoms_spec (ws := wsX12_ask) B.pre
  have hown : s.vm.findClass RX12 = some m.cls := findClass_of_methodNamed B.named
  have hlocks := B.notSynchronized
  subst hh
  have hD := hD0.self (sz := s.heap.size)
  have hA : ∀ q : Nat, s.heap.size ≤ q → va_A (wM cs ad 0) s.heap.size q := fun q h => Or.inr h
  have hS : va_S (va_A (wM cs ad 0) s.heap.size) s.heap s.heap [] := va_S.rf
  have hl := lv_entry ([.ref (ad 0), .int vv, .int vans]) (n := 3) (Nat.le_of_ble_eq_true rfl)
  rw [lg_entry_eq]
  generalize (lg_sl ([.ref (ad 0), .int vv, .int vans]) ++ List.replicate (3 - (lg_sl ([.ref (ad 0), .int vv, .int vans])).length) Slot.unset).toArray = ls at hl ⊢
  have hl : lv_has ls 3 [(0, .ref (ad 0)), (1, .int vv), (2, .int vans)] := hl
  refine lv_aload_n hx hb dX12_ask_0 rfl (lv_at hl 0 rfl) ?_
  refine lv_iload_n hx hb dX12_ask_1 rfl (lv_at hl 1 rfl) ?_
  refine va_put (D := (dC, dI)) (ci := 12) (v := .int vv) (ty := .int) (C := RX12) (T := TX12) (N := 46) hx hb hts (by decide +kernel) tyX12 tyX12_ok nmX12 hown hK hP hD hS 0 rfl rfl 2 (by decide) (hts (.fieldLink RX12 74 "DearLettersModel" "asked" "I") (by decide +kernel)) (fun _ h9 => h9) rfl (by decide +kernel) (by first | rfl | decide) (by first | rfl | decide) (Nat.le_of_ble_eq_true rfl) dX12_ask_2 (fun H locs hP hD hS => ?_)
  refine lv_iload_n hx hb dX12_ask_5 rfl (lv_at hl 2 rfl) ?_
  exact W.iret (v := vans) hx hb hr (fun t ht hW => ⟨⟨vans, (), rfl, rfl, trivial⟩, hS.F ht⟩) hS.2.2 dX12_ask_6
theorem dX12_isOne_0 : decode cX12_isOne 0 = .ok (.iload_n 1, 1) := by decide +kernel
theorem dX12_isOne_1 : decode cX12_isOne 1 = .ok (.iconst 0, 1) := by decide +kernel
theorem dX12_isOne_2 : decode cX12_isOne 2 = .ok (.aload_n 0, 1) := by decide +kernel
theorem dX12_isOne_3 : decode cX12_isOne 3 = .ok (.getfield 136, 3) := by decide +kernel
theorem dX12_isOne_6 : decode cX12_isOne 6 = .ok (.iconst 1, 1) := by decide +kernel
theorem dX12_isOne_7 : decode cX12_isOne 7 = .ok (.isub, 1) := by decide +kernel
theorem dX12_isOne_8 : decode cX12_isOne 8 = .ok (.invokestatic 77, 3) := by decide +kernel
theorem dX12_isOne_11 : decode cX12_isOne 11 = .ok (.ireturn, 1) := by decide +kernel
set_option maxRecDepth 20000 in
theorem ggX12_isOne_X12_in : GoodIn wsX12_isOne wsX12_in := goodIn_r _ [5] (by decide +kernel) (by decide +kernel)
set_option maxRecDepth 20000 in
theorem gX12_isOne_X12_in : GoodIn wsX12_isOne (va_wsS RX12 77 yX12_in wsX12_in) := goodIn_app (goodIn_of _ (by decide +kernel)) ggX12_isOne_X12_in
set_option maxHeartbeats 4000000 in
set_option maxRecDepth 100000 in
/-- isOne: no -/
theorem cm_isOne (l : Launch) (dC : Nat → ClassId) (dI : Nat → Nat → Nat) (cs : Nat → ClassId) (ad : Nat → Nat) (H : Heap) (hP : va_P (dC, dI) vwCl (wM cs ad 0) H) (vx : Int32) : Met l yX12_isOne wsX12_isOne ({ frames := 1, cells := 0, slots := 0, locals := 22 }) (va_Pc [.ref (ad 0), .int vx] (pb_P (dC, dI) vwCl (tyM cs) H)) (va_Qi (fun (z : Int32) (_ : Unit) => z = 0) (fun _ t => t.heap = H) (fun _ => False)) 0 0 (fun _ => False) := by
  refine Met.ofW (cc := cX12_isOne) (maxL := 2) (ret := (some .boolean)) (by decide) rfl ?_
  intro p e s m args below meth c s₁ B hml hv
  obtain ⟨rfl, hh, hK⟩ := hv
  have hx := B.exec
  have hb := B.bytes
  have hr := B.returns
  have hts := atoms_spec (ws := wsX12_isOne) B.pre
  have hown : s.vm.findClass RX12 = some m.cls := findClass_of_methodNamed B.named
  have hlocks := B.notSynchronized
  subst hh
  have hS : va_S (fun _ => False) s.heap s.heap [] := va_S.rf
  have hl := lv_entry ([.ref (ad 0), .int vx]) (n := 2) (Nat.le_of_ble_eq_true rfl)
  rw [lg_entry_eq]
  generalize (lg_sl ([.ref (ad 0), .int vx]) ++ List.replicate (2 - (lg_sl ([.ref (ad 0), .int vx])).length) Slot.unset).toArray = ls at hl ⊢
  have hl : lv_has ls 2 [(0, .ref (ad 0)), (1, .int vx)] := hl
  refine lv_iload_n hx hb dX12_isOne_0 rfl (lv_at hl 1 rfl) ?_
  refine lv_iconst (v := 0) hx hb dX12_isOne_1 (by decide) ?_
  refine lv_aload_n hx hb dX12_isOne_2 rfl (lv_at hl 0 rfl) ?_
  refine va_get (D := (dC, dI)) (ci := 12) (v := .int 0) (C := RX12) (T := TX12) (N := 46) hx hb hts (by decide +kernel) hown hK hP 0 rfl rfl 8 (by decide) (hts (.fieldLink RX12 136 "DearLettersModel" "many" "I") (by decide +kernel)) (fun _ h9 => h9) rfl dX12_isOne_3 ?_
  refine lv_iconst (v := 1) hx hb dX12_isOne_6 (by decide) ?_
  refine lv_isub hx hb dX12_isOne_7 ?_
  refine lq_i (-1) (by decide) ?_
  refine cr_i (va_runS (As := [.int vx, .int 0, .int (-1)]) (rest := []) ⟨hx, hb, hml, hown, hts⟩ (cm_in l dC dI (tyM cs) s.heap vx 0 (-1)) (va_cwS 3 hts gX12_isOne_X12_in rfl rfl rfl (by decide +kernel) ⟨Nat.le_of_ble_eq_true rfl, Nat.le_of_ble_eq_true rfl⟩) ⟨pb_c, pb_m hK⟩ rfl rfl hl.1 rfl (lv_room (Nat.le_of_ble_eq_true rfl)) dX12_isOne_8 ⟨Nat.zero_le _, Nat.zero_le _⟩) hS (fun r_1 hw_1 locs hS => ?_)
  obtain rfl : r_1 = 0 := hw_1.trans (if_neg (show ¬ (0 ≤ vx.toInt ∧ vx.toInt ≤ -1) by omega))
  exact W.zret (v := 0) (ty := .boolean) hx hb hr (by first | rfl | decide) (fun t ht hW => ⟨⟨0, (), rfl, rfl, ht⟩, hS.F ht⟩) hS.2.2 dX12_isOne_11
theorem dX12_areTwo_0 : decode cX12_areTwo 0 = .ok (.aload_n 0, 1) := by decide +kernel
theorem dX12_areTwo_1 : decode cX12_areTwo 1 = .ok (.iload_n 1, 1) := by decide +kernel
theorem dX12_areTwo_2 : decode cX12_areTwo 2 = .ok (.invokevirtual 154, 3) := by decide +kernel
theorem dX12_areTwo_5 : decode cX12_areTwo 5 = .ok (.ifCond .eq 20, 3) := by decide +kernel
theorem dX12_areTwo_25 : decode cX12_areTwo 25 = .ok (.iconst 0, 1) := by decide +kernel
theorem dX12_areTwo_26 : decode cX12_areTwo 26 = .ok (.ireturn, 1) := by decide +kernel
set_option maxRecDepth 20000 in
theorem ggX12_areTwo_X12_isOne : GoodIn wsX12_areTwo wsX12_isOne := goodIn_r _ [5, 6, 7, 8, 4, 9, 10, 11, 12, 13, 14, 15, 16, 17, 18, 19, 20, 21, 22, 23, 24, 25, 26, 27, 28, 29, 30, 31, 32, 33, 34, 35, 36, 37, 38, 39, 40, 41, 42, 43, 44, 45, 46, 47, 48, 49, 50, 51, 52, 53, 54, 55] (by decide +kernel) (by decide +kernel)
set_option maxRecDepth 20000 in
theorem gX12_areTwo_X12_isOne : GoodIn wsX12_areTwo (wsV RX12 154 RX12 yX12_isOne wsX12_isOne) := goodIn_app (goodIn_of _ (by decide +kernel)) ggX12_areTwo_X12_isOne
set_option maxHeartbeats 4000000 in
set_option maxRecDepth 100000 in
/-- areTwo: no -/
theorem cm_areTwo (l : Launch) (dC : Nat → ClassId) (dI : Nat → Nat → Nat) (cs : Nat → ClassId) (ad : Nat → Nat) (H : Heap) (hP : va_P (dC, dI) vwCl (wM cs ad 0) H) (vx : Int32) (vy : Int32) : Met l yX12_areTwo wsX12_areTwo ({ frames := 2, cells := 0, slots := 0, locals := 43 }) (va_Pc [.ref (ad 0), .int vx, .int vy] (pb_P (dC, dI) vwCl (tyM cs) H)) (va_Qi (fun (z : Int32) (_ : Unit) => z = 0) (fun _ t => t.heap = H) (fun _ => False)) 0 0 (fun _ => False) := by
  refine Met.ofW (cc := cX12_areTwo) (maxL := 3) (ret := (some .boolean)) (by decide) rfl ?_
  intro p e s m args below meth c s₁ B hml hv
  obtain ⟨rfl, hh, hK⟩ := hv
  have hx := B.exec
  have hb := B.bytes
  have hr := B.returns
  have hts := atoms_spec (ws := wsX12_areTwo) B.pre
  have hown : s.vm.findClass RX12 = some m.cls := findClass_of_methodNamed B.named
  have hlocks := B.notSynchronized
  subst hh
  have hS : va_S (fun _ => False) s.heap s.heap [] := va_S.rf
  have hl := lv_entry ([.ref (ad 0), .int vx, .int vy]) (n := 3) (Nat.le_of_ble_eq_true rfl)
  rw [lg_entry_eq]
  generalize (lg_sl ([.ref (ad 0), .int vx, .int vy]) ++ List.replicate (3 - (lg_sl ([.ref (ad 0), .int vx, .int vy])).length) Slot.unset).toArray = ls at hl ⊢
  have hl : lv_has ls 3 [(0, .ref (ad 0)), (1, .int vx), (2, .int vy)] := hl
  refine lv_aload_n hx hb dX12_areTwo_0 rfl (lv_at hl 0 rfl) ?_
  refine lv_iload_n hx hb dX12_areTwo_1 rfl (lv_at hl 1 rfl) ?_
  refine cr_i (va_runV (As := [.int vx]) (rest := []) ⟨hx, hb, hml, hown, hts⟩ (cm_isOne l dC dI cs ad s.heap hP vx) (cwV 1 hts gX12_areTwo_X12_isOne rfl rfl rfl (by decide +kernel) ⟨Nat.le_of_ble_eq_true rfl, Nat.le_of_ble_eq_true rfl⟩) ⟨pb_c, va_recv hK hP (ci := 12) (q0 := 0) rfl rfl, pb_m hK⟩ rfl rfl hl.1 rfl (lv_room (Nat.le_of_ble_eq_true rfl)) dX12_areTwo_2 ⟨Nat.zero_le _, Nat.zero_le _⟩) hS (fun r_1 hw_1 locs hS => ?_)
  obtain rfl : r_1 = 0 := hw_1
  refine lv_if_eq (tgt := 25) hx hb dX12_areTwo_5 (by decide) (fun _ => ?_) (fun c => absurd (by decide) c)
  refine lv_iconst (v := 0) hx hb dX12_areTwo_25 (by decide) ?_
  exact W.zret (v := 0) (ty := .boolean) hx hb hr (by first | rfl | decide) (fun t ht hW => ⟨⟨0, (), rfl, rfl, ht⟩, hS.F ht⟩) hS.2.2 dX12_areTwo_26
theorem dX12_askedRow_0 : decode cX12_askedRow 0 = .ok (.iload_n 1, 1) := by decide +kernel
theorem dX12_askedRow_1 : decode cX12_askedRow 1 = .ok (.invokestatic 81, 3) := by decide +kernel
theorem dX12_askedRow_4 : decode cX12_askedRow 4 = .ok (.ifCond .ne 7, 3) := by decide +kernel
theorem dX12_askedRow_11 : decode cX12_askedRow 11 = .ok (.aload_n 0, 1) := by decide +kernel
theorem dX12_askedRow_12 : decode cX12_askedRow 12 = .ok (.getfield 13, 3) := by decide +kernel
theorem dX12_askedRow_15 : decode cX12_askedRow 15 = .ok (.iload_n 1, 1) := by decide +kernel
theorem dX12_askedRow_16 : decode cX12_askedRow 16 = .ok (.iaload, 1) := by decide +kernel
theorem dX12_askedRow_17 : decode cX12_askedRow 17 = .ok (.ifCond .ge 11, 3) := by decide +kernel
theorem dX12_askedRow_20 : decode cX12_askedRow 20 = .ok (.aload_n 0, 1) := by decide +kernel
theorem dX12_askedRow_21 : decode cX12_askedRow 21 = .ok (.iconst 1, 1) := by decide +kernel
theorem dX12_askedRow_22 : decode cX12_askedRow 22 = .ok (.invokevirtual 85, 3) := by decide +kernel
theorem dX12_askedRow_25 : decode cX12_askedRow 25 = .ok (.goto 4, 3) := by decide +kernel
theorem dX12_askedRow_29 : decode cX12_askedRow 29 = .ok (.ireturn, 1) := by decide +kernel
theorem dX12_askedRow_7 : decode cX12_askedRow 7 = .ok (.iconst (-1), 1) := by decide +kernel
theorem dX12_askedRow_8 : decode cX12_askedRow 8 = .ok (.goto 21, 3) := by decide +kernel
set_option maxRecDepth 20000 in
theorem ggX12_askedRow_X12_isRow : GoodIn wsX12_askedRow wsX12_isRow := goodIn_r _ [5, 6, 7, 4, 8] (by decide +kernel) (by decide +kernel)
set_option maxRecDepth 20000 in
theorem gX12_askedRow_X12_isRow : GoodIn wsX12_askedRow (va_wsS RX12 81 yX12_isRow wsX12_isRow) := goodIn_app (goodIn_of _ (by decide +kernel)) ggX12_askedRow_X12_isRow
set_option maxRecDepth 20000 in
theorem ggX12_askedRow_X12_meet : GoodIn wsX12_askedRow wsX12_meet := goodIn_r _ [12, 13, 14, 15, 16, 17, 18, 19, 20, 21, 22, 23, 24, 25, 26, 27, 28, 29, 30, 31, 32, 33, 34, 35, 36, 37, 38, 39, 40, 41, 42, 43, 44, 45, 46, 47, 48, 49, 50, 51, 52, 53, 54, 55, 56, 57, 58, 59, 60] (by decide +kernel) (by decide +kernel)
set_option maxRecDepth 20000 in
theorem gX12_askedRow_X12_meet : GoodIn wsX12_askedRow (wsV RX12 85 RX12 yX12_meet wsX12_meet) := goodIn_app (goodIn_of _ (by decide +kernel)) ggX12_askedRow_X12_meet
set_option maxHeartbeats 4000000 in
set_option maxRecDepth 100000 in
/-- askedRow -/
theorem cm_askedRow (l : Launch) (dC : Nat → ClassId) (dI : Nat → Nat → Nat) (cs : Nat → ClassId) (ad : Nat → Nat) (H : Heap) (hP : va_P (dC, dI) vwCl (wM cs ad 0) H) (hD0 : va_D (fun _ => True) (wM cs ad 0)) (vr : Int32) : Met l yX12_askedRow wsX12_askedRow ({ frames := 2, cells := 0, slots := 0, locals := 42 }) (va_Pc [.ref (ad 0), .int vr] (pb_P (dC, dI) vwCl (tyM cs) H)) (va_Qi (fun (z : Int32) (_ : Unit) => z = if 0 ≤ vr.toInt ∧ vr.toInt < 6 then (-3) else (-1)) (fun _ _ => True) (va_A (wM cs ad 0) H.size)) 0 0 (va_A (wM cs ad 0) H.size) := by
  refine Met.ofW (cc := cX12_askedRow) (maxL := 2) (ret := (some .int)) (by decide) rfl ?_
  intro p e s m args below meth c s₁ B hml hv
  obtain ⟨rfl, hh, hK⟩ := hv
  have hx := B.exec
  have hb := B.bytes
  have hr := B.returns
  have hts := atoms_spec (ws := wsX12_askedRow) B.pre
  have hown : s.vm.findClass RX12 = some m.cls := findClass_of_methodNamed B.named
  have hlocks := B.notSynchronized
  subst hh
  have hD := hD0.self (sz := s.heap.size)
  have hA : ∀ q : Nat, s.heap.size ≤ q → va_A (wM cs ad 0) s.heap.size q := fun q h => Or.inr h
  have hS : va_S (va_A (wM cs ad 0) s.heap.size) s.heap s.heap [] := va_S.rf
  have hl := lv_entry ([.ref (ad 0), .int vr]) (n := 2) (Nat.le_of_ble_eq_true rfl)
  rw [lg_entry_eq]
  generalize (lg_sl ([.ref (ad 0), .int vr]) ++ List.replicate (2 - (lg_sl ([.ref (ad 0), .int vr])).length) Slot.unset).toArray = ls at hl ⊢
  have hl : lv_has ls 2 [(0, .ref (ad 0)), (1, .int vr)] := hl
  refine lv_iload_n hx hb dX12_askedRow_0 rfl (lv_at hl 1 rfl) ?_
  refine cr_i (va_runS (As := [.int vr]) (rest := []) ⟨hx, hb, hml, hown, hts⟩ (cm_isRow l dC dI (tyM cs) s.heap vr) (va_cwS 1 hts gX12_askedRow_X12_isRow rfl rfl rfl (by decide +kernel) ⟨Nat.le_of_ble_eq_true rfl, Nat.le_of_ble_eq_true rfl⟩) ⟨pb_c, pb_m hK⟩ rfl rfl hl.1 rfl (lv_room (Nat.le_of_ble_eq_true rfl)) dX12_askedRow_1 ⟨Nat.zero_le _, Nat.zero_le _⟩) hS (fun r_1 hw_1 locs hS => ?_)
  obtain ⟨c_1, rfl⟩ | ⟨c_1, rfl⟩ := ic_of hw_1
  · have c_1 : 0 ≤ vr.toInt ∧ vr.toInt < 6 := c_1
    refine lv_if_ne (tgt := 11) hx hb dX12_askedRow_4 (by decide) (fun _ => ?_) (fun c => absurd c (by decide))
    refine lv_aload_n hx hb dX12_askedRow_11 rfl (lv_at hl 0 rfl) ?_
    refine va_get (D := (dC, dI)) (ci := 12) (v := .ref (ad 2)) (C := RX12) (T := TX12) (N := 46) hx hb hts (by decide +kernel) hown hK hP 0 rfl rfl 3 (by decide) (hts (.fieldLink RX12 13 "DearLettersModel" "sizes" "[I") (by decide +kernel)) (fun _ h9 => h9) rfl dX12_askedRow_12 ?_
    refine lv_iload_n hx hb dX12_askedRow_15 rfl (lv_at hl 1 rfl) ?_
    refine va_iald hx hb hK hP 2 1 rfl rfl (show vp_in vr 6 from vi_of (by omega) (by omega)) dX12_askedRow_16 ?_
    refine lq_i (-9) (by first | rfl | decide) ?_
    refine lv_if_ge (tgt := 28) hx hb dX12_askedRow_17 (by decide) (fun c => absurd c (by decide)) (fun _ => ?_)
    refine lv_aload_n hx hb dX12_askedRow_20 rfl (lv_at hl 0 rfl) ?_
    refine lv_iconst (v := 1) hx hb dX12_askedRow_21 (by decide) ?_
    refine va_calli (va_runV (As := [.int 1]) (rest := []) ⟨hx, hb, hml, hown, hts⟩ (cm_meet l dC dI cs ad s.heap hP hD0 1 (show vp_in 1 6 by unfold vp_in; decide)) (cwV 1 hts gX12_askedRow_X12_meet rfl rfl rfl (by decide +kernel) ⟨Nat.le_of_ble_eq_true rfl, Nat.le_of_ble_eq_true rfl⟩) ⟨pb_c, va_recv hK hP (ci := 12) (q0 := 0) rfl rfl, pb_m hK⟩ rfl rfl hl.1 rfl (lv_room (Nat.le_of_ble_eq_true rfl)) dX12_askedRow_22 ⟨Nat.zero_le _, Nat.zero_le _⟩) hS (fun q _ h => h) (fun q h => h) (fun r_2 u t H1 locs ht hvm hw_2 hB hz1 hk1 hS => ?_)
    obtain rfl : r_2 = (-3) := hw_2
    refine lv_goto (tgt := 29) hx hb dX12_askedRow_25 (by decide) ?_
    exact W.iret (v := (-3)) hx hb hr (fun t ht hW => ⟨⟨(-3), (), rfl, (by (split <;> first | rfl | (exfalso; omega) | (split <;> first | rfl | (exfalso; omega) | (split <;> first | rfl | (exfalso; omega))))), trivial⟩, hS.F ht⟩) hS.2.2 dX12_askedRow_29
  · have c_1 : ¬ (0 ≤ vr.toInt ∧ vr.toInt < 6) := c_1
    refine lv_if_ne (tgt := 11) hx hb dX12_askedRow_4 (by decide) (fun c => absurd (by decide) c) (fun _ => ?_)
    refine lv_iconst (v := (-1)) hx hb dX12_askedRow_7 (by decide) ?_
    refine lv_goto (tgt := 29) hx hb dX12_askedRow_8 (by decide) ?_
    exact W.iret (v := (-1)) hx hb hr (fun t ht hW => ⟨⟨(-1), (), rfl, (by (split <;> first | rfl | (exfalso; omega) | (split <;> first | rfl | (exfalso; omega) | (split <;> first | rfl | (exfalso; omega))))), trivial⟩, hS.F ht⟩) hS.2.2 dX12_askedRow_29
theorem dX12_askedText_0 : decode cX12_askedText 0 = .ok (.iload_n 1, 1) := by decide +kernel
theorem dX12_askedText_1 : decode cX12_askedText 1 = .ok (.invokestatic 89, 3) := by decide +kernel
theorem dX12_askedText_4 : decode cX12_askedText 4 = .ok (.ifCond .ne 7, 3) := by decide +kernel
theorem dX12_askedText_11 : decode cX12_askedText 11 = .ok (.aload_n 0, 1) := by decide +kernel
theorem dX12_askedText_12 : decode cX12_askedText 12 = .ok (.getfield 22, 3) := by decide +kernel
theorem dX12_askedText_15 : decode cX12_askedText 15 = .ok (.iload_n 1, 1) := by decide +kernel
theorem dX12_askedText_16 : decode cX12_askedText 16 = .ok (.iaload, 1) := by decide +kernel
theorem dX12_askedText_17 : decode cX12_askedText 17 = .ok (.ifCond .ge 11, 3) := by decide +kernel
theorem dX12_askedText_20 : decode cX12_askedText 20 = .ok (.aload_n 0, 1) := by decide +kernel
theorem dX12_askedText_21 : decode cX12_askedText 21 = .ok (.iconst 1, 1) := by decide +kernel
theorem dX12_askedText_22 : decode cX12_askedText 22 = .ok (.invokevirtual 85, 3) := by decide +kernel
theorem dX12_askedText_25 : decode cX12_askedText 25 = .ok (.goto 4, 3) := by decide +kernel
theorem dX12_askedText_29 : decode cX12_askedText 29 = .ok (.ireturn, 1) := by decide +kernel
theorem dX12_askedText_7 : decode cX12_askedText 7 = .ok (.iconst (-1), 1) := by decide +kernel
theorem dX12_askedText_8 : decode cX12_askedText 8 = .ok (.goto 21, 3) := by decide +kernel
set_option maxRecDepth 20000 in
theorem ggX12_askedText_X12_isText : GoodIn wsX12_askedText wsX12_isText := goodIn_r _ [5, 6, 7, 4, 8] (by decide +kernel) (by decide +kernel)
set_option maxRecDepth 20000 in
theorem gX12_askedText_X12_isText : GoodIn wsX12_askedText (va_wsS RX12 89 yX12_isText wsX12_isText) := goodIn_app (goodIn_of _ (by decide +kernel)) ggX12_askedText_X12_isText
set_option maxRecDepth 20000 in
theorem ggX12_askedText_X12_meet : GoodIn wsX12_askedText wsX12_meet := goodIn_r _ [12, 13, 14, 15, 16, 17, 18, 19, 20, 21, 22, 23, 24, 25, 26, 27, 28, 29, 30, 31, 32, 33, 34, 35, 36, 37, 38, 39, 40, 41, 42, 43, 44, 45, 46, 47, 48, 49, 50, 51, 52, 53, 54, 55, 56, 57, 58, 59, 60] (by decide +kernel) (by decide +kernel)
set_option maxRecDepth 20000 in
theorem gX12_askedText_X12_meet : GoodIn wsX12_askedText (wsV RX12 85 RX12 yX12_meet wsX12_meet) := goodIn_app (goodIn_of _ (by decide +kernel)) ggX12_askedText_X12_meet
set_option maxHeartbeats 4000000 in
set_option maxRecDepth 100000 in
/-- askedText -/
theorem cm_askedText (l : Launch) (dC : Nat → ClassId) (dI : Nat → Nat → Nat) (cs : Nat → ClassId) (ad : Nat → Nat) (H : Heap) (hP : va_P (dC, dI) vwCl (wM cs ad 0) H) (hD0 : va_D (fun _ => True) (wM cs ad 0)) (vr : Int32) : Met l yX12_askedText wsX12_askedText ({ frames := 2, cells := 0, slots := 0, locals := 42 }) (va_Pc [.ref (ad 0), .int vr] (pb_P (dC, dI) vwCl (tyM cs) H)) (va_Qi (fun (z : Int32) (_ : Unit) => z = if 0 ≤ vr.toInt ∧ vr.toInt < 4 then (-3) else (-1)) (fun _ _ => True) (va_A (wM cs ad 0) H.size)) 0 0 (va_A (wM cs ad 0) H.size) := by
  refine Met.ofW (cc := cX12_askedText) (maxL := 2) (ret := (some .int)) (by decide) rfl ?_
  intro p e s m args below meth c s₁ B hml hv
  obtain ⟨rfl, hh, hK⟩ := hv
  have hx := B.exec
  have hb := B.bytes
  have hr := B.returns
  have hts := atoms_spec (ws := wsX12_askedText) B.pre
  have hown : s.vm.findClass RX12 = some m.cls := findClass_of_methodNamed B.named
  have hlocks := B.notSynchronized
  subst hh
  have hD := hD0.self (sz := s.heap.size)
  have hA : ∀ q : Nat, s.heap.size ≤ q → va_A (wM cs ad 0) s.heap.size q := fun q h => Or.inr h
  have hS : va_S (va_A (wM cs ad 0) s.heap.size) s.heap s.heap [] := va_S.rf
  have hl := lv_entry ([.ref (ad 0), .int vr]) (n := 2) (Nat.le_of_ble_eq_true rfl)
  rw [lg_entry_eq]
  generalize (lg_sl ([.ref (ad 0), .int vr]) ++ List.replicate (2 - (lg_sl ([.ref (ad 0), .int vr])).length) Slot.unset).toArray = ls at hl ⊢
  have hl : lv_has ls 2 [(0, .ref (ad 0)), (1, .int vr)] := hl
  refine lv_iload_n hx hb dX12_askedText_0 rfl (lv_at hl 1 rfl) ?_
  refine cr_i (va_runS (As := [.int vr]) (rest := []) ⟨hx, hb, hml, hown, hts⟩ (cm_isText l dC dI (tyM cs) s.heap vr) (va_cwS 1 hts gX12_askedText_X12_isText rfl rfl rfl (by decide +kernel) ⟨Nat.le_of_ble_eq_true rfl, Nat.le_of_ble_eq_true rfl⟩) ⟨pb_c, pb_m hK⟩ rfl rfl hl.1 rfl (lv_room (Nat.le_of_ble_eq_true rfl)) dX12_askedText_1 ⟨Nat.zero_le _, Nat.zero_le _⟩) hS (fun r_1 hw_1 locs hS => ?_)
  obtain ⟨c_1, rfl⟩ | ⟨c_1, rfl⟩ := ic_of hw_1
  · have c_1 : 0 ≤ vr.toInt ∧ vr.toInt < 4 := c_1
    refine lv_if_ne (tgt := 11) hx hb dX12_askedText_4 (by decide) (fun _ => ?_) (fun c => absurd c (by decide))
    refine lv_aload_n hx hb dX12_askedText_11 rfl (lv_at hl 0 rfl) ?_
    refine va_get (D := (dC, dI)) (ci := 12) (v := .ref (ad 4)) (C := RX12) (T := TX12) (N := 46) hx hb hts (by decide +kernel) hown hK hP 0 rfl rfl 6 (by decide) (hts (.fieldLink RX12 22 "DearLettersModel" "lengths" "[I") (by decide +kernel)) (fun _ h9 => h9) rfl dX12_askedText_12 ?_
    refine lv_iload_n hx hb dX12_askedText_15 rfl (lv_at hl 1 rfl) ?_
    refine va_iald hx hb hK hP 4 3 rfl rfl (show vp_in vr 4 from vi_of (by omega) (by omega)) dX12_askedText_16 ?_
    refine lq_i (-9) (by first | rfl | decide) ?_
    refine lv_if_ge (tgt := 28) hx hb dX12_askedText_17 (by decide) (fun c => absurd c (by decide)) (fun _ => ?_)
    refine lv_aload_n hx hb dX12_askedText_20 rfl (lv_at hl 0 rfl) ?_
    refine lv_iconst (v := 1) hx hb dX12_askedText_21 (by decide) ?_
    refine va_calli (va_runV (As := [.int 1]) (rest := []) ⟨hx, hb, hml, hown, hts⟩ (cm_meet l dC dI cs ad s.heap hP hD0 1 (show vp_in 1 6 by unfold vp_in; decide)) (cwV 1 hts gX12_askedText_X12_meet rfl rfl rfl (by decide +kernel) ⟨Nat.le_of_ble_eq_true rfl, Nat.le_of_ble_eq_true rfl⟩) ⟨pb_c, va_recv hK hP (ci := 12) (q0 := 0) rfl rfl, pb_m hK⟩ rfl rfl hl.1 rfl (lv_room (Nat.le_of_ble_eq_true rfl)) dX12_askedText_22 ⟨Nat.zero_le _, Nat.zero_le _⟩) hS (fun q _ h => h) (fun q h => h) (fun r_2 u t H1 locs ht hvm hw_2 hB hz1 hk1 hS => ?_)
    obtain rfl : r_2 = (-3) := hw_2
    refine lv_goto (tgt := 29) hx hb dX12_askedText_25 (by decide) ?_
    exact W.iret (v := (-3)) hx hb hr (fun t ht hW => ⟨⟨(-3), (), rfl, (by (split <;> first | rfl | (exfalso; omega) | (split <;> first | rfl | (exfalso; omega) | (split <;> first | rfl | (exfalso; omega))))), trivial⟩, hS.F ht⟩) hS.2.2 dX12_askedText_29
  · have c_1 : ¬ (0 ≤ vr.toInt ∧ vr.toInt < 4) := c_1
    refine lv_if_ne (tgt := 11) hx hb dX12_askedText_4 (by decide) (fun c => absurd (by decide) c) (fun _ => ?_)
    refine lv_iconst (v := (-1)) hx hb dX12_askedText_7 (by decide) ?_
    refine lv_goto (tgt := 29) hx hb dX12_askedText_8 (by decide) ?_
    exact W.iret (v := (-1)) hx hb hr (fun t ht hW => ⟨⟨(-1), (), rfl, (by (split <;> first | rfl | (exfalso; omega) | (split <;> first | rfl | (exfalso; omega) | (split <;> first | rfl | (exfalso; omega))))), trivial⟩, hS.F ht⟩) hS.2.2 dX12_askedText_29
theorem dX12_askedLetter_0 : decode cX12_askedLetter 0 = .ok (.iload_n 1, 1) := by decide +kernel
theorem dX12_askedLetter_1 : decode cX12_askedLetter 1 = .ok (.ifCond .ge 7, 3) := by decide +kernel
theorem dX12_askedLetter_8 : decode cX12_askedLetter 8 = .ok (.iload_n 1, 1) := by decide +kernel
theorem dX12_askedLetter_9 : decode cX12_askedLetter 9 = .ok (.aload_n 0, 1) := by decide +kernel
theorem dX12_askedLetter_10 : decode cX12_askedLetter 10 = .ok (.getfield 148, 3) := by decide +kernel
theorem dX12_askedLetter_13 : decode cX12_askedLetter 13 = .ok (.if_icmp .lt 11, 3) := by decide +kernel
theorem dX12_askedLetter_16 : decode cX12_askedLetter 16 = .ok (.aload_n 0, 1) := by decide +kernel
theorem dX12_askedLetter_17 : decode cX12_askedLetter 17 = .ok (.iconst 2, 1) := by decide +kernel
theorem dX12_askedLetter_18 : decode cX12_askedLetter 18 = .ok (.invokevirtual 85, 3) := by decide +kernel
theorem dX12_askedLetter_21 : decode cX12_askedLetter 21 = .ok (.goto 4, 3) := by decide +kernel
theorem dX12_askedLetter_25 : decode cX12_askedLetter 25 = .ok (.ireturn, 1) := by decide +kernel
theorem dX12_askedLetter_4 : decode cX12_askedLetter 4 = .ok (.iconst (-1), 1) := by decide +kernel
theorem dX12_askedLetter_5 : decode cX12_askedLetter 5 = .ok (.goto 20, 3) := by decide +kernel
set_option maxRecDepth 20000 in
theorem ggX12_askedLetter_X12_meet : GoodIn wsX12_askedLetter wsX12_meet := goodIn_r _ [6, 7, 8, 9, 10, 11, 12, 13, 14, 15, 16, 17, 18, 19, 20, 21, 22, 23, 24, 25, 26, 27, 28, 29, 30, 31, 32, 33, 34, 35, 36, 37, 38, 39, 40, 41, 42, 43, 44, 45, 46, 47, 48, 49, 50, 51, 52, 53, 54] (by decide +kernel) (by decide +kernel)
set_option maxRecDepth 20000 in
theorem gX12_askedLetter_X12_meet : GoodIn wsX12_askedLetter (wsV RX12 85 RX12 yX12_meet wsX12_meet) := goodIn_app (goodIn_of _ (by decide +kernel)) ggX12_askedLetter_X12_meet
set_option maxHeartbeats 4000000 in
set_option maxRecDepth 100000 in
/-- askedLetter -/
theorem cm_askedLetter (l : Launch) (dC : Nat → ClassId) (dI : Nat → Nat → Nat) (cs : Nat → ClassId) (ad : Nat → Nat) (H : Heap) (hP : va_P (dC, dI) vwCl (wM cs ad 0) H) (hD0 : va_D (fun _ => True) (wM cs ad 0)) (vk : Int32) : Met l yX12_askedLetter wsX12_askedLetter ({ frames := 1, cells := 0, slots := 0, locals := 21 }) (va_Pc [.ref (ad 0), .int vk] (pb_P (dC, dI) vwCl (tyM cs) H)) (va_Qi (fun (z : Int32) (_ : Unit) => z = if 0 ≤ vk.toInt then (-3) else (-1)) (fun _ _ => True) (va_A (wM cs ad 0) H.size)) 0 0 (va_A (wM cs ad 0) H.size) := by
  refine Met.ofW (cc := cX12_askedLetter) (maxL := 2) (ret := (some .int)) (by decide) rfl ?_
  intro p e s m args below meth c s₁ B hml hv
  obtain ⟨rfl, hh, hK⟩ := hv
  have hx := B.exec
  have hb := B.bytes
  have hr := B.returns
  have hts := atoms_spec (ws := wsX12_askedLetter) B.pre
  have hown : s.vm.findClass RX12 = some m.cls := findClass_of_methodNamed B.named
  have hlocks := B.notSynchronized
  subst hh
  have hD := hD0.self (sz := s.heap.size)
  have hA : ∀ q : Nat, s.heap.size ≤ q → va_A (wM cs ad 0) s.heap.size q := fun q h => Or.inr h
  have hS : va_S (va_A (wM cs ad 0) s.heap.size) s.heap s.heap [] := va_S.rf
  have hl := lv_entry ([.ref (ad 0), .int vk]) (n := 2) (Nat.le_of_ble_eq_true rfl)
  rw [lg_entry_eq]
  generalize (lg_sl ([.ref (ad 0), .int vk]) ++ List.replicate (2 - (lg_sl ([.ref (ad 0), .int vk])).length) Slot.unset).toArray = ls at hl ⊢
  have hl : lv_has ls 2 [(0, .ref (ad 0)), (1, .int vk)] := hl
  refine lv_iload_n hx hb dX12_askedLetter_0 rfl (lv_at hl 1 rfl) ?_
  refine lv_if_ge (tgt := 8) hx hb dX12_askedLetter_1 (by decide) (fun c_1 => ?_) (fun c_1 => ?_)
  · have c_1 : 0 ≤ vk.toInt := il_le c_1
    refine lv_iload_n hx hb dX12_askedLetter_8 rfl (lv_at hl 1 rfl) ?_
    refine lv_aload_n hx hb dX12_askedLetter_9 rfl (lv_at hl 0 rfl) ?_
    refine va_get (D := (dC, dI)) (ci := 12) (v := .int 0) (C := RX12) (T := TX12) (N := 46) hx hb hts (by decide +kernel) hown hK hP 0 rfl rfl 15 (by decide) (hts (.fieldLink RX12 148 "DearLettersModel" "letterMany" "I") (by decide +kernel)) (fun _ h9 => h9) rfl dX12_askedLetter_10 ?_
    refine lv_icmp_lt (tgt := 24) hx hb dX12_askedLetter_13 (by decide) (fun c_2 => by have c_2 : vk.toInt < 0 := il_lt c_2; exfalso; omega) (fun c_2 => ?_)
    have c_2 : 0 ≤ vk.toInt := il_nlt c_2
    refine lv_aload_n hx hb dX12_askedLetter_16 rfl (lv_at hl 0 rfl) ?_
    refine lv_iconst (v := 2) hx hb dX12_askedLetter_17 (by decide) ?_
    refine va_calli (va_runV (As := [.int 2]) (rest := []) ⟨hx, hb, hml, hown, hts⟩ (cm_meet l dC dI cs ad s.heap hP hD0 2 (show vp_in 2 6 by unfold vp_in; decide)) (cwV 1 hts gX12_askedLetter_X12_meet rfl rfl rfl (by decide +kernel) ⟨Nat.le_of_ble_eq_true rfl, Nat.le_of_ble_eq_true rfl⟩) ⟨pb_c, va_recv hK hP (ci := 12) (q0 := 0) rfl rfl, pb_m hK⟩ rfl rfl hl.1 rfl (lv_room (Nat.le_of_ble_eq_true rfl)) dX12_askedLetter_18 ⟨Nat.zero_le _, Nat.zero_le _⟩) hS (fun q _ h => h) (fun q h => h) (fun r_3 u t H1 locs ht hvm hw_3 hB hz1 hk1 hS => ?_)
    obtain rfl : r_3 = (-3) := hw_3
    refine lv_goto (tgt := 25) hx hb dX12_askedLetter_21 (by decide) ?_
    exact W.iret (v := (-3)) hx hb hr (fun t ht hW => ⟨⟨(-3), (), rfl, (by (split <;> first | rfl | (exfalso; omega) | (split <;> first | rfl | (exfalso; omega) | (split <;> first | rfl | (exfalso; omega))))), trivial⟩, hS.F ht⟩) hS.2.2 dX12_askedLetter_25
  · have c_1 : vk.toInt < 0 := il_nle c_1
    refine lv_iconst (v := (-1)) hx hb dX12_askedLetter_4 (by decide) ?_
    refine lv_goto (tgt := 25) hx hb dX12_askedLetter_5 (by decide) ?_
    exact W.iret (v := (-1)) hx hb hr (fun t ht hW => ⟨⟨(-1), (), rfl, (by (split <;> first | rfl | (exfalso; omega) | (split <;> first | rfl | (exfalso; omega) | (split <;> first | rfl | (exfalso; omega))))), trivial⟩, hS.F ht⟩) hS.2.2 dX12_askedLetter_25
theorem dX12_askedRoutes_0 : decode cX12_askedRoutes 0 = .ok (.aload_n 0, 1) := by decide +kernel
theorem dX12_askedRoutes_1 : decode cX12_askedRoutes 1 = .ok (.iload_n 1, 1) := by decide +kernel
theorem dX12_askedRoutes_2 : decode cX12_askedRoutes 2 = .ok (.invokevirtual 197, 3) := by decide +kernel
theorem dX12_askedRoutes_5 : decode cX12_askedRoutes 5 = .ok (.istore_n 2, 1) := by decide +kernel
theorem dX12_askedRoutes_6 : decode cX12_askedRoutes 6 = .ok (.iload_n 2, 1) := by decide +kernel
theorem dX12_askedRoutes_7 : decode cX12_askedRoutes 7 = .ok (.ifCond .ge 5, 3) := by decide +kernel
theorem dX12_askedRoutes_10 : decode cX12_askedRoutes 10 = .ok (.iload_n 2, 1) := by decide +kernel
theorem dX12_askedRoutes_11 : decode cX12_askedRoutes 11 = .ok (.ireturn, 1) := by decide +kernel
set_option maxRecDepth 20000 in
theorem ggX12_askedRoutes_X12_askedLetter : GoodIn wsX12_askedRoutes wsX12_askedLetter := goodIn_r _ [6, 7, 8, 9, 10, 5, 11, 12, 13, 79, 80, 81, 82, 83, 84, 85, 86, 87, 88, 89, 90, 91, 92, 93, 94, 95, 96, 97, 98, 99, 100, 101, 102, 103, 104, 105, 106, 107, 108, 109, 110, 111, 112, 113, 114, 115, 116, 117, 118, 119, 120, 121, 122, 123, 124] (by decide +kernel) (by decide +kernel)
set_option maxRecDepth 20000 in
theorem gX12_askedRoutes_X12_askedLetter : GoodIn wsX12_askedRoutes (wsV RX12 197 RX12 yX12_askedLetter wsX12_askedLetter) := goodIn_app (goodIn_of _ (by decide +kernel)) ggX12_askedRoutes_X12_askedLetter
set_option maxHeartbeats 4000000 in
set_option maxRecDepth 100000 in
/-- askedRoutes -/
theorem cm_askedRoutes (l : Launch) (dC : Nat → ClassId) (dI : Nat → Nat → Nat) (cs : Nat → ClassId) (ad : Nat → Nat) (H : Heap) (hP : va_P (dC, dI) vwCl (wM cs ad 0) H) (hD0 : va_D (fun _ => True) (wM cs ad 0)) (vk : Int32) : Met l yX12_askedRoutes wsX12_askedRoutes ({ frames := 2, cells := 0, slots := 0, locals := 42 }) (va_Pc [.ref (ad 0), .int vk] (pb_P (dC, dI) vwCl (tyM cs) H)) (va_Qi (fun (z : Int32) (_ : Unit) => z = if 0 ≤ vk.toInt then (-3) else (-1)) (fun _ _ => True) (va_A (wM cs ad 0) H.size)) 0 0 (va_A (wM cs ad 0) H.size) := by
  refine Met.ofW (cc := cX12_askedRoutes) (maxL := 3) (ret := (some .int)) (by decide) rfl ?_
  intro p e s m args below meth c s₁ B hml hv
  obtain ⟨rfl, hh, hK⟩ := hv
  have hx := B.exec
  have hb := B.bytes
  have hr := B.returns
  have hts := atoms_spec (ws := wsX12_askedRoutes) B.pre
  have hown : s.vm.findClass RX12 = some m.cls := findClass_of_methodNamed B.named
  have hlocks := B.notSynchronized
  subst hh
  have hD := hD0.self (sz := s.heap.size)
  have hA : ∀ q : Nat, s.heap.size ≤ q → va_A (wM cs ad 0) s.heap.size q := fun q h => Or.inr h
  have hS : va_S (va_A (wM cs ad 0) s.heap.size) s.heap s.heap [] := va_S.rf
  have hl := lv_entry ([.ref (ad 0), .int vk]) (n := 3) (Nat.le_of_ble_eq_true rfl)
  rw [lg_entry_eq]
  generalize (lg_sl ([.ref (ad 0), .int vk]) ++ List.replicate (3 - (lg_sl ([.ref (ad 0), .int vk])).length) Slot.unset).toArray = ls at hl ⊢
  have hl : lv_has ls 3 [(0, .ref (ad 0)), (1, .int vk)] := hl
  refine lv_aload_n hx hb dX12_askedRoutes_0 rfl (lv_at hl 0 rfl) ?_
  refine lv_iload_n hx hb dX12_askedRoutes_1 rfl (lv_at hl 1 rfl) ?_
  refine va_calli (va_runV (As := [.int vk]) (rest := []) ⟨hx, hb, hml, hown, hts⟩ (cm_askedLetter l dC dI cs ad s.heap hP hD0 vk) (cwV 1 hts gX12_askedRoutes_X12_askedLetter rfl rfl rfl (by decide +kernel) ⟨Nat.le_of_ble_eq_true rfl, Nat.le_of_ble_eq_true rfl⟩) ⟨pb_c, va_recv hK hP (ci := 12) (q0 := 0) rfl rfl, pb_m hK⟩ rfl rfl hl.1 rfl (lv_room (Nat.le_of_ble_eq_true rfl)) dX12_askedRoutes_2 ⟨Nat.zero_le _, Nat.zero_le _⟩) hS (fun q _ h => h) (fun q h => h) (fun r_1 u t H1 locs ht hvm hw_1 hB hz1 hk1 hS => ?_)
  obtain ⟨c_1, rfl⟩ | ⟨c_1, rfl⟩ := ic_of hw_1
  · have c_1 : 0 ≤ vk.toInt := c_1
    refine lv_istore_n (lv' := [(2, .int (-3)), (0, .ref (ad 0)), (1, .int vk)]) hx hb dX12_askedRoutes_5 rfl hl (by decide) rfl (fun ls hl => ?_)
    refine lv_iload_n hx hb dX12_askedRoutes_6 rfl (lv_at hl 0 rfl) ?_
    refine lv_if_ge (tgt := 12) hx hb dX12_askedRoutes_7 (by decide) (fun c => absurd c (by decide)) (fun _ => ?_)
    refine lv_iload_n hx hb dX12_askedRoutes_10 rfl (lv_at hl 0 rfl) ?_
    exact W.iret (v := (-3)) hx hb hr (fun t ht hW => ⟨⟨(-3), (), rfl, (by (split <;> first | rfl | (exfalso; omega) | (split <;> first | rfl | (exfalso; omega) | (split <;> first | rfl | (exfalso; omega))))), trivial⟩, hS.F ht⟩) hS.2.2 dX12_askedRoutes_11
  · have c_1 : ¬ (0 ≤ vk.toInt) := c_1
    refine lv_istore_n (lv' := [(2, .int (-1)), (0, .ref (ad 0)), (1, .int vk)]) hx hb dX12_askedRoutes_5 rfl hl (by decide) rfl (fun ls hl => ?_)
    refine lv_iload_n hx hb dX12_askedRoutes_6 rfl (lv_at hl 0 rfl) ?_
    refine lv_if_ge (tgt := 12) hx hb dX12_askedRoutes_7 (by decide) (fun c => absurd c (by decide)) (fun _ => ?_)
    refine lv_iload_n hx hb dX12_askedRoutes_10 rfl (lv_at hl 0 rfl) ?_
    exact W.iret (v := (-1)) hx hb hr (fun t ht hW => ⟨⟨(-1), (), rfl, (by (split <;> first | rfl | (exfalso; omega) | (split <;> first | rfl | (exfalso; omega) | (split <;> first | rfl | (exfalso; omega))))), trivial⟩, hS.F ht⟩) hS.2.2 dX12_askedRoutes_11
theorem dX12_askedHad_0 : decode cX12_askedHad 0 = .ok (.aload_n 0, 1) := by decide +kernel
theorem dX12_askedHad_1 : decode cX12_askedHad 1 = .ok (.iload_n 1, 1) := by decide +kernel
theorem dX12_askedHad_2 : decode cX12_askedHad 2 = .ok (.invokevirtual 154, 3) := by decide +kernel
theorem dX12_askedHad_5 : decode cX12_askedHad 5 = .ok (.ifCond .ne 5, 3) := by decide +kernel
theorem dX12_askedHad_8 : decode cX12_askedHad 8 = .ok (.iconst (-1), 1) := by decide +kernel
theorem dX12_askedHad_9 : decode cX12_askedHad 9 = .ok (.ireturn, 1) := by decide +kernel
set_option maxRecDepth 20000 in
theorem ggX12_askedHad_X12_isOne : GoodIn wsX12_askedHad wsX12_isOne := goodIn_r _ [10, 11, 12, 13, 9, 14, 57, 58, 59, 60, 61, 62, 63, 64, 65, 66, 67, 68, 69, 70, 71, 72, 73, 74, 75, 76, 77, 78, 79, 80, 81, 82, 83, 84, 85, 86, 87, 88, 89, 90, 91, 92, 93, 94, 95, 96, 97, 98, 99, 100, 101, 102] (by decide +kernel) (by decide +kernel)
set_option maxRecDepth 20000 in
theorem gX12_askedHad_X12_isOne : GoodIn wsX12_askedHad (wsV RX12 154 RX12 yX12_isOne wsX12_isOne) := goodIn_app (goodIn_of _ (by decide +kernel)) ggX12_askedHad_X12_isOne
set_option maxHeartbeats 4000000 in
set_option maxRecDepth 100000 in
/-- askedHad -/
theorem cm_askedHad (l : Launch) (dC : Nat → ClassId) (dI : Nat → Nat → Nat) (cs : Nat → ClassId) (ad : Nat → Nat) (H : Heap) (hP : va_P (dC, dI) vwCl (wM cs ad 0) H) (vx : Int32) (vr : Int32) : Met l yX12_askedHad wsX12_askedHad ({ frames := 2, cells := 0, slots := 0, locals := 43 }) (va_Pc [.ref (ad 0), .int vx, .int vr] (pb_P (dC, dI) vwCl (tyM cs) H)) (va_Qi (fun (z : Int32) (_ : Unit) => z = (-1)) (fun _ t => t.heap = H) (fun _ => False)) 0 0 (fun _ => False) := by
  refine Met.ofW (cc := cX12_askedHad) (maxL := 4) (ret := (some .int)) (by decide) rfl ?_
  intro p e s m args below meth c s₁ B hml hv
  obtain ⟨rfl, hh, hK⟩ := hv
  have hx := B.exec
  have hb := B.bytes
  have hr := B.returns
  have hts := atoms_spec (ws := wsX12_askedHad) B.pre
  have hown : s.vm.findClass RX12 = some m.cls := findClass_of_methodNamed B.named
  have hlocks := B.notSynchronized
  subst hh
  have hS : va_S (fun _ => False) s.heap s.heap [] := va_S.rf
  have hl := lv_entry ([.ref (ad 0), .int vx, .int vr]) (n := 4) (Nat.le_of_ble_eq_true rfl)
  rw [lg_entry_eq]
  generalize (lg_sl ([.ref (ad 0), .int vx, .int vr]) ++ List.replicate (4 - (lg_sl ([.ref (ad 0), .int vx, .int vr])).length) Slot.unset).toArray = ls at hl ⊢
  have hl : lv_has ls 4 [(0, .ref (ad 0)), (1, .int vx), (2, .int vr)] := hl
  refine lv_aload_n hx hb dX12_askedHad_0 rfl (lv_at hl 0 rfl) ?_
  refine lv_iload_n hx hb dX12_askedHad_1 rfl (lv_at hl 1 rfl) ?_
  refine cr_i (va_runV (As := [.int vx]) (rest := []) ⟨hx, hb, hml, hown, hts⟩ (cm_isOne l dC dI cs ad s.heap hP vx) (cwV 1 hts gX12_askedHad_X12_isOne rfl rfl rfl (by decide +kernel) ⟨Nat.le_of_ble_eq_true rfl, Nat.le_of_ble_eq_true rfl⟩) ⟨pb_c, va_recv hK hP (ci := 12) (q0 := 0) rfl rfl, pb_m hK⟩ rfl rfl hl.1 rfl (lv_room (Nat.le_of_ble_eq_true rfl)) dX12_askedHad_2 ⟨Nat.zero_le _, Nat.zero_le _⟩) hS (fun r_1 hw_1 locs hS => ?_)
  obtain rfl : r_1 = 0 := hw_1
  refine lv_if_ne (tgt := 10) hx hb dX12_askedHad_5 (by decide) (fun c => absurd (by decide) c) (fun _ => ?_)
  refine lv_iconst (v := (-1)) hx hb dX12_askedHad_8 (by decide) ?_
  exact W.iret (v := (-1)) hx hb hr (fun t ht hW => ⟨⟨(-1), (), rfl, rfl, ht⟩, hS.F ht⟩) hS.2.2 dX12_askedHad_9
theorem dX12_sizeOf_0 : decode cX12_sizeOf 0 = .ok (.iconst 0, 1) := by decide +kernel
theorem dX12_sizeOf_1 : decode cX12_sizeOf 1 = .ok (.istore_n 1, 1) := by decide +kernel
theorem dX12_sizeOf_2 : decode cX12_sizeOf 2 = .ok (.iconst 0, 1) := by decide +kernel
theorem dX12_sizeOf_3 : decode cX12_sizeOf 3 = .ok (.istore_n 2, 1) := by decide +kernel
theorem dX12_sizeOf_4 : decode cX12_sizeOf 4 = .ok (.iload_n 2, 1) := by decide +kernel
theorem dX12_sizeOf_5 : decode cX12_sizeOf 5 = .ok (.bipush 12, 2) := by decide +kernel
theorem dX12_sizeOf_7 : decode cX12_sizeOf 7 = .ok (.if_icmp .ge 17, 3) := by decide +kernel
theorem dX12_sizeOf_10 : decode cX12_sizeOf 10 = .ok (.iload_n 1, 1) := by decide +kernel
theorem dX12_sizeOf_11 : decode cX12_sizeOf 11 = .ok (.iload_n 0, 1) := by decide +kernel
theorem dX12_sizeOf_12 : decode cX12_sizeOf 12 = .ok (.iload_n 2, 1) := by decide +kernel
theorem dX12_sizeOf_13 : decode cX12_sizeOf 13 = .ok (.ishr, 1) := by decide +kernel
theorem dX12_sizeOf_14 : decode cX12_sizeOf 14 = .ok (.iconst 1, 1) := by decide +kernel
theorem dX12_sizeOf_15 : decode cX12_sizeOf 15 = .ok (.iand, 1) := by decide +kernel
theorem dX12_sizeOf_16 : decode cX12_sizeOf 16 = .ok (.iadd, 1) := by decide +kernel
theorem dX12_sizeOf_17 : decode cX12_sizeOf 17 = .ok (.istore_n 1, 1) := by decide +kernel
theorem dX12_sizeOf_18 : decode cX12_sizeOf 18 = .ok (.iinc 2 1, 3) := by decide +kernel
theorem dX12_sizeOf_21 : decode cX12_sizeOf 21 = .ok (.goto (-17), 3) := by decide +kernel
theorem dX12_sizeOf_24 : decode cX12_sizeOf 24 = .ok (.iload_n 1, 1) := by decide +kernel
theorem dX12_sizeOf_25 : decode cX12_sizeOf 25 = .ok (.ireturn, 1) := by decide +kernel
set_option maxHeartbeats 4000000 in
set_option maxRecDepth 100000 in
/-- sizeOf(0) -/
theorem cm_sizeOf0 (l : Launch) (dC : Nat → ClassId) (dI : Nat → Nat → Nat) (tys : List (ClassId × FieldType)) (H : Heap) : Met l yX12_sizeOf wsX12_sizeOf ({ frames := 0, cells := 0, slots := 0, locals := 0 }) (va_Pc [.int 0] (pb_P (dC, dI) vwCl tys H)) (va_Qi (fun (z : Int32) (_ : Unit) => z = 0) (fun _ t => t.heap = H) (fun _ => False)) 0 0 (fun _ => False) := by
  refine Met.ofW (cc := cX12_sizeOf) (maxL := 3) (ret := (some .int)) (by decide) rfl ?_
  intro p e s m args below meth c s₁ B hml hv
  obtain ⟨rfl, hh, hK⟩ := hv
  have hx := B.exec
  have hb := B.bytes
  have hr := B.returns
  have hts := atoms_spec (ws := wsX12_sizeOf) B.pre
  have hown : s.vm.findClass RX12 = some m.cls := findClass_of_methodNamed B.named
  have hlocks := B.notSynchronized
  subst hh
  have hS : va_S (fun _ => False) s.heap s.heap [] := va_S.rf
  have hl := lv_entry ([.int 0]) (n := 3) (Nat.le_of_ble_eq_true rfl)
  rw [lg_entry_eq]
  generalize (lg_sl ([.int 0]) ++ List.replicate (3 - (lg_sl ([.int 0])).length) Slot.unset).toArray = ls at hl ⊢
  have hl : lv_has ls 3 [(0, .int 0)] := hl
  refine lv_iconst (v := 0) hx hb dX12_sizeOf_0 (by decide) ?_
  refine lv_istore_n (lv' := [(1, .int 0), (0, .int 0)]) hx hb dX12_sizeOf_1 rfl hl (by decide) rfl (fun ls hl => ?_)
  refine lv_iconst (v := 0) hx hb dX12_sizeOf_2 (by decide) ?_
  refine lv_istore_n (lv' := [(2, .int 0), (1, .int 0), (0, .int 0)]) hx hb dX12_sizeOf_3 rfl hl (by decide) rfl (fun ls hl => ?_)
  refine lv_iload_n hx hb dX12_sizeOf_4 rfl (lv_at hl 0 rfl) ?_
  refine lv_bipush (v := 12) hx hb dX12_sizeOf_5 (by decide) ?_
  refine lv_icmp_ge (tgt := 24) hx hb dX12_sizeOf_7 (by decide) (fun c => absurd c (by decide)) (fun _ => ?_)
  refine lv_iload_n hx hb dX12_sizeOf_10 rfl (lv_at hl 1 rfl) ?_
  refine lv_iload_n hx hb dX12_sizeOf_11 rfl (lv_at hl 2 rfl) ?_
  refine lv_iload_n hx hb dX12_sizeOf_12 rfl (lv_at hl 0 rfl) ?_
  refine lv_ishr hx hb dX12_sizeOf_13 ?_
  refine lq_i 0 (by decide) ?_
  refine lv_iconst (v := 1) hx hb dX12_sizeOf_14 (by decide) ?_
  refine lv_iand hx hb dX12_sizeOf_15 ?_
  refine lq_i 0 (by decide) ?_
  refine lv_iadd hx hb dX12_sizeOf_16 ?_
  refine lq_i 0 (by decide) ?_
  refine lv_istore_n (lv' := [(1, .int 0), (2, .int 0), (0, .int 0)]) hx hb dX12_sizeOf_17 rfl hl (by decide) rfl (fun ls hl => ?_)
  refine lv_iinc (v := 1) (lv' := [(2, .int 1), (1, .int 0), (0, .int 0)]) hx hb dX12_sizeOf_18 hl (k := 1) rfl (by decide) (by decide) rfl (fun ls hl => ?_)
  refine lv_goto (tgt := 4) hx hb dX12_sizeOf_21 (by decide) ?_
  refine lv_iload_n hx hb dX12_sizeOf_4 rfl (lv_at hl 0 rfl) ?_
  refine lv_bipush (v := 12) hx hb dX12_sizeOf_5 (by decide) ?_
  refine lv_icmp_ge (tgt := 24) hx hb dX12_sizeOf_7 (by decide) (fun c => absurd c (by decide)) (fun _ => ?_)
  refine lv_iload_n hx hb dX12_sizeOf_10 rfl (lv_at hl 1 rfl) ?_
  refine lv_iload_n hx hb dX12_sizeOf_11 rfl (lv_at hl 2 rfl) ?_
  refine lv_iload_n hx hb dX12_sizeOf_12 rfl (lv_at hl 0 rfl) ?_
  refine lv_ishr hx hb dX12_sizeOf_13 ?_
  refine lq_i 0 (by decide) ?_
  refine lv_iconst (v := 1) hx hb dX12_sizeOf_14 (by decide) ?_
  refine lv_iand hx hb dX12_sizeOf_15 ?_
  refine lq_i 0 (by decide) ?_
  refine lv_iadd hx hb dX12_sizeOf_16 ?_
  refine lq_i 0 (by decide) ?_
  refine lv_istore_n (lv' := [(1, .int 0), (2, .int 1), (0, .int 0)]) hx hb dX12_sizeOf_17 rfl hl (by decide) rfl (fun ls hl => ?_)
  refine lv_iinc (v := 2) (lv' := [(2, .int 2), (1, .int 0), (0, .int 0)]) hx hb dX12_sizeOf_18 hl (k := 1) rfl (by decide) (by decide) rfl (fun ls hl => ?_)
  refine lv_goto (tgt := 4) hx hb dX12_sizeOf_21 (by decide) ?_
  refine lv_iload_n hx hb dX12_sizeOf_4 rfl (lv_at hl 0 rfl) ?_
  refine lv_bipush (v := 12) hx hb dX12_sizeOf_5 (by decide) ?_
  refine lv_icmp_ge (tgt := 24) hx hb dX12_sizeOf_7 (by decide) (fun c => absurd c (by decide)) (fun _ => ?_)
  refine lv_iload_n hx hb dX12_sizeOf_10 rfl (lv_at hl 1 rfl) ?_
  refine lv_iload_n hx hb dX12_sizeOf_11 rfl (lv_at hl 2 rfl) ?_
  refine lv_iload_n hx hb dX12_sizeOf_12 rfl (lv_at hl 0 rfl) ?_
  refine lv_ishr hx hb dX12_sizeOf_13 ?_
  refine lq_i 0 (by decide) ?_
  refine lv_iconst (v := 1) hx hb dX12_sizeOf_14 (by decide) ?_
  refine lv_iand hx hb dX12_sizeOf_15 ?_
  refine lq_i 0 (by decide) ?_
  refine lv_iadd hx hb dX12_sizeOf_16 ?_
  refine lq_i 0 (by decide) ?_
  refine lv_istore_n (lv' := [(1, .int 0), (2, .int 2), (0, .int 0)]) hx hb dX12_sizeOf_17 rfl hl (by decide) rfl (fun ls hl => ?_)
  refine lv_iinc (v := 3) (lv' := [(2, .int 3), (1, .int 0), (0, .int 0)]) hx hb dX12_sizeOf_18 hl (k := 1) rfl (by decide) (by decide) rfl (fun ls hl => ?_)
  refine lv_goto (tgt := 4) hx hb dX12_sizeOf_21 (by decide) ?_
  refine lv_iload_n hx hb dX12_sizeOf_4 rfl (lv_at hl 0 rfl) ?_
  refine lv_bipush (v := 12) hx hb dX12_sizeOf_5 (by decide) ?_
  refine lv_icmp_ge (tgt := 24) hx hb dX12_sizeOf_7 (by decide) (fun c => absurd c (by decide)) (fun _ => ?_)
  refine lv_iload_n hx hb dX12_sizeOf_10 rfl (lv_at hl 1 rfl) ?_
  refine lv_iload_n hx hb dX12_sizeOf_11 rfl (lv_at hl 2 rfl) ?_
  refine lv_iload_n hx hb dX12_sizeOf_12 rfl (lv_at hl 0 rfl) ?_
  refine lv_ishr hx hb dX12_sizeOf_13 ?_
  refine lq_i 0 (by decide) ?_
  refine lv_iconst (v := 1) hx hb dX12_sizeOf_14 (by decide) ?_
  refine lv_iand hx hb dX12_sizeOf_15 ?_
  refine lq_i 0 (by decide) ?_
  refine lv_iadd hx hb dX12_sizeOf_16 ?_
  refine lq_i 0 (by decide) ?_
  refine lv_istore_n (lv' := [(1, .int 0), (2, .int 3), (0, .int 0)]) hx hb dX12_sizeOf_17 rfl hl (by decide) rfl (fun ls hl => ?_)
  refine lv_iinc (v := 4) (lv' := [(2, .int 4), (1, .int 0), (0, .int 0)]) hx hb dX12_sizeOf_18 hl (k := 1) rfl (by decide) (by decide) rfl (fun ls hl => ?_)
  refine lv_goto (tgt := 4) hx hb dX12_sizeOf_21 (by decide) ?_
  refine lv_iload_n hx hb dX12_sizeOf_4 rfl (lv_at hl 0 rfl) ?_
  refine lv_bipush (v := 12) hx hb dX12_sizeOf_5 (by decide) ?_
  refine lv_icmp_ge (tgt := 24) hx hb dX12_sizeOf_7 (by decide) (fun c => absurd c (by decide)) (fun _ => ?_)
  refine lv_iload_n hx hb dX12_sizeOf_10 rfl (lv_at hl 1 rfl) ?_
  refine lv_iload_n hx hb dX12_sizeOf_11 rfl (lv_at hl 2 rfl) ?_
  refine lv_iload_n hx hb dX12_sizeOf_12 rfl (lv_at hl 0 rfl) ?_
  refine lv_ishr hx hb dX12_sizeOf_13 ?_
  refine lq_i 0 (by decide) ?_
  refine lv_iconst (v := 1) hx hb dX12_sizeOf_14 (by decide) ?_
  refine lv_iand hx hb dX12_sizeOf_15 ?_
  refine lq_i 0 (by decide) ?_
  refine lv_iadd hx hb dX12_sizeOf_16 ?_
  refine lq_i 0 (by decide) ?_
  refine lv_istore_n (lv' := [(1, .int 0), (2, .int 4), (0, .int 0)]) hx hb dX12_sizeOf_17 rfl hl (by decide) rfl (fun ls hl => ?_)
  refine lv_iinc (v := 5) (lv' := [(2, .int 5), (1, .int 0), (0, .int 0)]) hx hb dX12_sizeOf_18 hl (k := 1) rfl (by decide) (by decide) rfl (fun ls hl => ?_)
  refine lv_goto (tgt := 4) hx hb dX12_sizeOf_21 (by decide) ?_
  refine lv_iload_n hx hb dX12_sizeOf_4 rfl (lv_at hl 0 rfl) ?_
  refine lv_bipush (v := 12) hx hb dX12_sizeOf_5 (by decide) ?_
  refine lv_icmp_ge (tgt := 24) hx hb dX12_sizeOf_7 (by decide) (fun c => absurd c (by decide)) (fun _ => ?_)
  refine lv_iload_n hx hb dX12_sizeOf_10 rfl (lv_at hl 1 rfl) ?_
  refine lv_iload_n hx hb dX12_sizeOf_11 rfl (lv_at hl 2 rfl) ?_
  refine lv_iload_n hx hb dX12_sizeOf_12 rfl (lv_at hl 0 rfl) ?_
  refine lv_ishr hx hb dX12_sizeOf_13 ?_
  refine lq_i 0 (by decide) ?_
  refine lv_iconst (v := 1) hx hb dX12_sizeOf_14 (by decide) ?_
  refine lv_iand hx hb dX12_sizeOf_15 ?_
  refine lq_i 0 (by decide) ?_
  refine lv_iadd hx hb dX12_sizeOf_16 ?_
  refine lq_i 0 (by decide) ?_
  refine lv_istore_n (lv' := [(1, .int 0), (2, .int 5), (0, .int 0)]) hx hb dX12_sizeOf_17 rfl hl (by decide) rfl (fun ls hl => ?_)
  refine lv_iinc (v := 6) (lv' := [(2, .int 6), (1, .int 0), (0, .int 0)]) hx hb dX12_sizeOf_18 hl (k := 1) rfl (by decide) (by decide) rfl (fun ls hl => ?_)
  refine lv_goto (tgt := 4) hx hb dX12_sizeOf_21 (by decide) ?_
  refine lv_iload_n hx hb dX12_sizeOf_4 rfl (lv_at hl 0 rfl) ?_
  refine lv_bipush (v := 12) hx hb dX12_sizeOf_5 (by decide) ?_
  refine lv_icmp_ge (tgt := 24) hx hb dX12_sizeOf_7 (by decide) (fun c => absurd c (by decide)) (fun _ => ?_)
  refine lv_iload_n hx hb dX12_sizeOf_10 rfl (lv_at hl 1 rfl) ?_
  refine lv_iload_n hx hb dX12_sizeOf_11 rfl (lv_at hl 2 rfl) ?_
  refine lv_iload_n hx hb dX12_sizeOf_12 rfl (lv_at hl 0 rfl) ?_
  refine lv_ishr hx hb dX12_sizeOf_13 ?_
  refine lq_i 0 (by decide) ?_
  refine lv_iconst (v := 1) hx hb dX12_sizeOf_14 (by decide) ?_
  refine lv_iand hx hb dX12_sizeOf_15 ?_
  refine lq_i 0 (by decide) ?_
  refine lv_iadd hx hb dX12_sizeOf_16 ?_
  refine lq_i 0 (by decide) ?_
  refine lv_istore_n (lv' := [(1, .int 0), (2, .int 6), (0, .int 0)]) hx hb dX12_sizeOf_17 rfl hl (by decide) rfl (fun ls hl => ?_)
  refine lv_iinc (v := 7) (lv' := [(2, .int 7), (1, .int 0), (0, .int 0)]) hx hb dX12_sizeOf_18 hl (k := 1) rfl (by decide) (by decide) rfl (fun ls hl => ?_)
  refine lv_goto (tgt := 4) hx hb dX12_sizeOf_21 (by decide) ?_
  refine lv_iload_n hx hb dX12_sizeOf_4 rfl (lv_at hl 0 rfl) ?_
  refine lv_bipush (v := 12) hx hb dX12_sizeOf_5 (by decide) ?_
  refine lv_icmp_ge (tgt := 24) hx hb dX12_sizeOf_7 (by decide) (fun c => absurd c (by decide)) (fun _ => ?_)
  refine lv_iload_n hx hb dX12_sizeOf_10 rfl (lv_at hl 1 rfl) ?_
  refine lv_iload_n hx hb dX12_sizeOf_11 rfl (lv_at hl 2 rfl) ?_
  refine lv_iload_n hx hb dX12_sizeOf_12 rfl (lv_at hl 0 rfl) ?_
  refine lv_ishr hx hb dX12_sizeOf_13 ?_
  refine lq_i 0 (by decide) ?_
  refine lv_iconst (v := 1) hx hb dX12_sizeOf_14 (by decide) ?_
  refine lv_iand hx hb dX12_sizeOf_15 ?_
  refine lq_i 0 (by decide) ?_
  refine lv_iadd hx hb dX12_sizeOf_16 ?_
  refine lq_i 0 (by decide) ?_
  refine lv_istore_n (lv' := [(1, .int 0), (2, .int 7), (0, .int 0)]) hx hb dX12_sizeOf_17 rfl hl (by decide) rfl (fun ls hl => ?_)
  refine lv_iinc (v := 8) (lv' := [(2, .int 8), (1, .int 0), (0, .int 0)]) hx hb dX12_sizeOf_18 hl (k := 1) rfl (by decide) (by decide) rfl (fun ls hl => ?_)
  refine lv_goto (tgt := 4) hx hb dX12_sizeOf_21 (by decide) ?_
  refine lv_iload_n hx hb dX12_sizeOf_4 rfl (lv_at hl 0 rfl) ?_
  refine lv_bipush (v := 12) hx hb dX12_sizeOf_5 (by decide) ?_
  refine lv_icmp_ge (tgt := 24) hx hb dX12_sizeOf_7 (by decide) (fun c => absurd c (by decide)) (fun _ => ?_)
  refine lv_iload_n hx hb dX12_sizeOf_10 rfl (lv_at hl 1 rfl) ?_
  refine lv_iload_n hx hb dX12_sizeOf_11 rfl (lv_at hl 2 rfl) ?_
  refine lv_iload_n hx hb dX12_sizeOf_12 rfl (lv_at hl 0 rfl) ?_
  refine lv_ishr hx hb dX12_sizeOf_13 ?_
  refine lq_i 0 (by decide) ?_
  refine lv_iconst (v := 1) hx hb dX12_sizeOf_14 (by decide) ?_
  refine lv_iand hx hb dX12_sizeOf_15 ?_
  refine lq_i 0 (by decide) ?_
  refine lv_iadd hx hb dX12_sizeOf_16 ?_
  refine lq_i 0 (by decide) ?_
  refine lv_istore_n (lv' := [(1, .int 0), (2, .int 8), (0, .int 0)]) hx hb dX12_sizeOf_17 rfl hl (by decide) rfl (fun ls hl => ?_)
  refine lv_iinc (v := 9) (lv' := [(2, .int 9), (1, .int 0), (0, .int 0)]) hx hb dX12_sizeOf_18 hl (k := 1) rfl (by decide) (by decide) rfl (fun ls hl => ?_)
  refine lv_goto (tgt := 4) hx hb dX12_sizeOf_21 (by decide) ?_
  refine lv_iload_n hx hb dX12_sizeOf_4 rfl (lv_at hl 0 rfl) ?_
  refine lv_bipush (v := 12) hx hb dX12_sizeOf_5 (by decide) ?_
  refine lv_icmp_ge (tgt := 24) hx hb dX12_sizeOf_7 (by decide) (fun c => absurd c (by decide)) (fun _ => ?_)
  refine lv_iload_n hx hb dX12_sizeOf_10 rfl (lv_at hl 1 rfl) ?_
  refine lv_iload_n hx hb dX12_sizeOf_11 rfl (lv_at hl 2 rfl) ?_
  refine lv_iload_n hx hb dX12_sizeOf_12 rfl (lv_at hl 0 rfl) ?_
  refine lv_ishr hx hb dX12_sizeOf_13 ?_
  refine lq_i 0 (by decide) ?_
  refine lv_iconst (v := 1) hx hb dX12_sizeOf_14 (by decide) ?_
  refine lv_iand hx hb dX12_sizeOf_15 ?_
  refine lq_i 0 (by decide) ?_
  refine lv_iadd hx hb dX12_sizeOf_16 ?_
  refine lq_i 0 (by decide) ?_
  refine lv_istore_n (lv' := [(1, .int 0), (2, .int 9), (0, .int 0)]) hx hb dX12_sizeOf_17 rfl hl (by decide) rfl (fun ls hl => ?_)
  refine lv_iinc (v := 10) (lv' := [(2, .int 10), (1, .int 0), (0, .int 0)]) hx hb dX12_sizeOf_18 hl (k := 1) rfl (by decide) (by decide) rfl (fun ls hl => ?_)
  refine lv_goto (tgt := 4) hx hb dX12_sizeOf_21 (by decide) ?_
  refine lv_iload_n hx hb dX12_sizeOf_4 rfl (lv_at hl 0 rfl) ?_
  refine lv_bipush (v := 12) hx hb dX12_sizeOf_5 (by decide) ?_
  refine lv_icmp_ge (tgt := 24) hx hb dX12_sizeOf_7 (by decide) (fun c => absurd c (by decide)) (fun _ => ?_)
  refine lv_iload_n hx hb dX12_sizeOf_10 rfl (lv_at hl 1 rfl) ?_
  refine lv_iload_n hx hb dX12_sizeOf_11 rfl (lv_at hl 2 rfl) ?_
  refine lv_iload_n hx hb dX12_sizeOf_12 rfl (lv_at hl 0 rfl) ?_
  refine lv_ishr hx hb dX12_sizeOf_13 ?_
  refine lq_i 0 (by decide) ?_
  refine lv_iconst (v := 1) hx hb dX12_sizeOf_14 (by decide) ?_
  refine lv_iand hx hb dX12_sizeOf_15 ?_
  refine lq_i 0 (by decide) ?_
  refine lv_iadd hx hb dX12_sizeOf_16 ?_
  refine lq_i 0 (by decide) ?_
  refine lv_istore_n (lv' := [(1, .int 0), (2, .int 10), (0, .int 0)]) hx hb dX12_sizeOf_17 rfl hl (by decide) rfl (fun ls hl => ?_)
  refine lv_iinc (v := 11) (lv' := [(2, .int 11), (1, .int 0), (0, .int 0)]) hx hb dX12_sizeOf_18 hl (k := 1) rfl (by decide) (by decide) rfl (fun ls hl => ?_)
  refine lv_goto (tgt := 4) hx hb dX12_sizeOf_21 (by decide) ?_
  refine lv_iload_n hx hb dX12_sizeOf_4 rfl (lv_at hl 0 rfl) ?_
  refine lv_bipush (v := 12) hx hb dX12_sizeOf_5 (by decide) ?_
  refine lv_icmp_ge (tgt := 24) hx hb dX12_sizeOf_7 (by decide) (fun c => absurd c (by decide)) (fun _ => ?_)
  refine lv_iload_n hx hb dX12_sizeOf_10 rfl (lv_at hl 1 rfl) ?_
  refine lv_iload_n hx hb dX12_sizeOf_11 rfl (lv_at hl 2 rfl) ?_
  refine lv_iload_n hx hb dX12_sizeOf_12 rfl (lv_at hl 0 rfl) ?_
  refine lv_ishr hx hb dX12_sizeOf_13 ?_
  refine lq_i 0 (by decide) ?_
  refine lv_iconst (v := 1) hx hb dX12_sizeOf_14 (by decide) ?_
  refine lv_iand hx hb dX12_sizeOf_15 ?_
  refine lq_i 0 (by decide) ?_
  refine lv_iadd hx hb dX12_sizeOf_16 ?_
  refine lq_i 0 (by decide) ?_
  refine lv_istore_n (lv' := [(1, .int 0), (2, .int 11), (0, .int 0)]) hx hb dX12_sizeOf_17 rfl hl (by decide) rfl (fun ls hl => ?_)
  refine lv_iinc (v := 12) (lv' := [(2, .int 12), (1, .int 0), (0, .int 0)]) hx hb dX12_sizeOf_18 hl (k := 1) rfl (by decide) (by decide) rfl (fun ls hl => ?_)
  refine lv_goto (tgt := 4) hx hb dX12_sizeOf_21 (by decide) ?_
  refine lv_iload_n hx hb dX12_sizeOf_4 rfl (lv_at hl 0 rfl) ?_
  refine lv_bipush (v := 12) hx hb dX12_sizeOf_5 (by decide) ?_
  refine lv_icmp_ge (tgt := 24) hx hb dX12_sizeOf_7 (by decide) (fun _ => ?_) (fun c => absurd (by decide) c)
  refine lv_iload_n hx hb dX12_sizeOf_24 rfl (lv_at hl 1 rfl) ?_
  exact W.iret (v := 0) hx hb hr (fun t ht hW => ⟨⟨0, (), rfl, rfl, ht⟩, hS.F ht⟩) hS.2.2 dX12_sizeOf_25
theorem dX12_allPurses_0 : decode cX12_allPurses 0 = .ok (.iconst 0, 1) := by decide +kernel
theorem dX12_allPurses_1 : decode cX12_allPurses 1 = .ok (.istore_n 1, 1) := by decide +kernel
theorem dX12_allPurses_2 : decode cX12_allPurses 2 = .ok (.iconst 0, 1) := by decide +kernel
theorem dX12_allPurses_3 : decode cX12_allPurses 3 = .ok (.istore_n 2, 1) := by decide +kernel
theorem dX12_allPurses_4 : decode cX12_allPurses 4 = .ok (.iload_n 2, 1) := by decide +kernel
theorem dX12_allPurses_5 : decode cX12_allPurses 5 = .ok (.aload_n 0, 1) := by decide +kernel
theorem dX12_allPurses_6 : decode cX12_allPurses 6 = .ok (.getfield 136, 3) := by decide +kernel
theorem dX12_allPurses_9 : decode cX12_allPurses 9 = .ok (.if_icmp .ge 18, 3) := by decide +kernel
theorem dX12_allPurses_27 : decode cX12_allPurses 27 = .ok (.iload_n 1, 1) := by decide +kernel
theorem dX12_allPurses_28 : decode cX12_allPurses 28 = .ok (.ireturn, 1) := by decide +kernel
set_option maxHeartbeats 4000000 in
set_option maxRecDepth 100000 in
/-- allPurses -/
theorem cm_allPurses (l : Launch) (dC : Nat → ClassId) (dI : Nat → Nat → Nat) (cs : Nat → ClassId) (ad : Nat → Nat) (H : Heap) (hP : va_P (dC, dI) vwCl (wM cs ad 0) H) : Met l yX12_allPurses wsX12_allPurses ({ frames := 0, cells := 0, slots := 0, locals := 0 }) (va_Pc [.ref (ad 0)] (pb_P (dC, dI) vwCl (tyM cs) H)) (va_Qi (fun (z : Int32) (_ : Unit) => z = 0) (fun _ t => t.heap = H) (fun _ => False)) 0 0 (fun _ => False) := by
  refine Met.ofW (cc := cX12_allPurses) (maxL := 3) (ret := (some .int)) (by decide) rfl ?_
  intro p e s m args below meth c s₁ B hml hv
  obtain ⟨rfl, hh, hK⟩ := hv
  have hx := B.exec
  have hb := B.bytes
  have hr := B.returns
  have hts := atoms_spec (ws := wsX12_allPurses) B.pre
  have hown : s.vm.findClass RX12 = some m.cls := findClass_of_methodNamed B.named
  have hlocks := B.notSynchronized
  subst hh
  have hS : va_S (fun _ => False) s.heap s.heap [] := va_S.rf
  have hl := lv_entry ([.ref (ad 0)]) (n := 3) (Nat.le_of_ble_eq_true rfl)
  rw [lg_entry_eq]
  generalize (lg_sl ([.ref (ad 0)]) ++ List.replicate (3 - (lg_sl ([.ref (ad 0)])).length) Slot.unset).toArray = ls at hl ⊢
  have hl : lv_has ls 3 [(0, .ref (ad 0))] := hl
  refine lv_iconst (v := 0) hx hb dX12_allPurses_0 (by decide) ?_
  refine lv_istore_n (lv' := [(1, .int 0), (0, .ref (ad 0))]) hx hb dX12_allPurses_1 rfl hl (by decide) rfl (fun ls hl => ?_)
  refine lv_iconst (v := 0) hx hb dX12_allPurses_2 (by decide) ?_
  refine lv_istore_n (lv' := [(2, .int 0), (1, .int 0), (0, .ref (ad 0))]) hx hb dX12_allPurses_3 rfl hl (by decide) rfl (fun ls hl => ?_)
  refine lv_iload_n hx hb dX12_allPurses_4 rfl (lv_at hl 0 rfl) ?_
  refine lv_aload_n hx hb dX12_allPurses_5 rfl (lv_at hl 2 rfl) ?_
  refine va_get (D := (dC, dI)) (ci := 12) (v := .int 0) (C := RX12) (T := TX12) (N := 46) hx hb hts (by decide +kernel) hown hK hP 0 rfl rfl 8 (by decide) (hts (.fieldLink RX12 136 "DearLettersModel" "many" "I") (by decide +kernel)) (fun _ h9 => h9) rfl dX12_allPurses_6 ?_
  refine lv_icmp_ge (tgt := 27) hx hb dX12_allPurses_9 (by decide) (fun _ => ?_) (fun c => absurd (by decide) c)
  refine lv_iload_n hx hb dX12_allPurses_27 rfl (lv_at hl 1 rfl) ?_
  exact W.iret (v := 0) hx hb hr (fun t ht hW => ⟨⟨0, (), rfl, rfl, ht⟩, hS.F ht⟩) hS.2.2 dX12_allPurses_28
theorem dX12_tells_0 : decode cX12_tells 0 = .ok (.iconst 0, 1) := by decide +kernel
theorem dX12_tells_1 : decode cX12_tells 1 = .ok (.istore_n 2, 1) := by decide +kernel
theorem dX12_tells_2 : decode cX12_tells 2 = .ok (.iconst 0, 1) := by decide +kernel
theorem dX12_tells_3 : decode cX12_tells 3 = .ok (.istore_n 3, 1) := by decide +kernel
theorem dX12_tells_4 : decode cX12_tells 4 = .ok (.iload_n 3, 1) := by decide +kernel
theorem dX12_tells_5 : decode cX12_tells 5 = .ok (.bipush 6, 2) := by decide +kernel
theorem dX12_tells_7 : decode cX12_tells 7 = .ok (.if_icmp .ge 77, 3) := by decide +kernel
theorem dX12_tells_84 : decode cX12_tells 84 = .ok (.iload_n 1, 1) := by decide +kernel
theorem dX12_tells_85 : decode cX12_tells 85 = .ok (.tableswitch 72 0 5 #[39, 44, 49, 54, 59, 64], 39) := by decide +kernel
theorem dX12_tells_157 : decode cX12_tells 157 = .ok (.iload_n 2, 1) := by decide +kernel
theorem dX12_tells_158 : decode cX12_tells 158 = .ok (.ireturn, 1) := by decide +kernel
theorem dX12_tells_124 : decode cX12_tells 124 = .ok (.aload_n 0, 1) := by decide +kernel
theorem dX12_tells_125 : decode cX12_tells 125 = .ok (.getfield 136, 3) := by decide +kernel
theorem dX12_tells_128 : decode cX12_tells 128 = .ok (.ireturn, 1) := by decide +kernel
theorem dX12_tells_129 : decode cX12_tells 129 = .ok (.aload_n 0, 1) := by decide +kernel
theorem dX12_tells_130 : decode cX12_tells 130 = .ok (.getfield 139, 3) := by decide +kernel
theorem dX12_tells_133 : decode cX12_tells 133 = .ok (.ireturn, 1) := by decide +kernel
theorem dX12_tells_134 : decode cX12_tells 134 = .ok (.aload_n 0, 1) := by decide +kernel
theorem dX12_tells_135 : decode cX12_tells 135 = .ok (.getfield 145, 3) := by decide +kernel
theorem dX12_tells_138 : decode cX12_tells 138 = .ok (.ireturn, 1) := by decide +kernel
theorem dX12_tells_139 : decode cX12_tells 139 = .ok (.aload_n 0, 1) := by decide +kernel
theorem dX12_tells_140 : decode cX12_tells 140 = .ok (.getfield 148, 3) := by decide +kernel
theorem dX12_tells_143 : decode cX12_tells 143 = .ok (.ireturn, 1) := by decide +kernel
theorem dX12_tells_144 : decode cX12_tells 144 = .ok (.aload_n 0, 1) := by decide +kernel
theorem dX12_tells_145 : decode cX12_tells 145 = .ok (.getfield 151, 3) := by decide +kernel
theorem dX12_tells_148 : decode cX12_tells 148 = .ok (.ireturn, 1) := by decide +kernel
theorem dX12_tells_149 : decode cX12_tells 149 = .ok (.aload_n 0, 1) := by decide +kernel
theorem dX12_tells_150 : decode cX12_tells 150 = .ok (.getfield 142, 3) := by decide +kernel
theorem dX12_tells_153 : decode cX12_tells 153 = .ok (.invokestatic 170, 3) := by decide +kernel
theorem dX12_tells_156 : decode cX12_tells 156 = .ok (.ireturn, 1) := by decide +kernel
theorem dX12_tells_10 : decode cX12_tells 10 = .ok (.iload_n 2, 1) := by decide +kernel
theorem dX12_tells_11 : decode cX12_tells 11 = .ok (.iload_n 1, 1) := by decide +kernel
theorem dX12_tells_12 : decode cX12_tells 12 = .ok (.bipush 6, 2) := by decide +kernel
theorem dX12_tells_14 : decode cX12_tells 14 = .ok (.if_icmp .ne 12, 3) := by decide +kernel
theorem dX12_tells_26 : decode cX12_tells 26 = .ok (.iload_n 1, 1) := by decide +kernel
theorem dX12_tells_27 : decode cX12_tells 27 = .ok (.bipush 7, 2) := by decide +kernel
theorem dX12_tells_29 : decode cX12_tells 29 = .ok (.if_icmp .ne 17, 3) := by decide +kernel
theorem dX12_tells_46 : decode cX12_tells 46 = .ok (.iload_n 1, 1) := by decide +kernel
theorem dX12_tells_47 : decode cX12_tells 47 = .ok (.bipush 8, 2) := by decide +kernel
theorem dX12_tells_49 : decode cX12_tells 49 = .ok (.if_icmp .ne 26, 3) := by decide +kernel
theorem dX12_tells_75 : decode cX12_tells 75 = .ok (.iconst 0, 1) := by decide +kernel
theorem dX12_tells_76 : decode cX12_tells 76 = .ok (.iadd, 1) := by decide +kernel
theorem dX12_tells_77 : decode cX12_tells 77 = .ok (.istore_n 2, 1) := by decide +kernel
theorem dX12_tells_78 : decode cX12_tells 78 = .ok (.iinc 3 1, 3) := by decide +kernel
theorem dX12_tells_81 : decode cX12_tells 81 = .ok (.goto (-77), 3) := by decide +kernel
theorem dX12_tells_52 : decode cX12_tells 52 = .ok (.iload_n 3, 1) := by decide +kernel
theorem dX12_tells_53 : decode cX12_tells 53 = .ok (.iconst 3, 1) := by decide +kernel
theorem dX12_tells_54 : decode cX12_tells 54 = .ok (.if_icmp .ge 21, 3) := by decide +kernel
theorem dX12_tells_32 : decode cX12_tells 32 = .ok (.iload_n 3, 1) := by decide +kernel
theorem dX12_tells_33 : decode cX12_tells 33 = .ok (.iconst 4, 1) := by decide +kernel
theorem dX12_tells_34 : decode cX12_tells 34 = .ok (.if_icmp .ge 12, 3) := by decide +kernel
theorem dX12_tells_17 : decode cX12_tells 17 = .ok (.aload_n 0, 1) := by decide +kernel
theorem dX12_tells_18 : decode cX12_tells 18 = .ok (.getfield 13, 3) := by decide +kernel
theorem dX12_tells_21 : decode cX12_tells 21 = .ok (.iload_n 3, 1) := by decide +kernel
theorem dX12_tells_22 : decode cX12_tells 22 = .ok (.iaload, 1) := by decide +kernel
theorem dX12_tells_23 : decode cX12_tells 23 = .ok (.ifCond .ge 48, 3) := by decide +kernel
theorem dX12_tells_37 : decode cX12_tells 37 = .ok (.aload_n 0, 1) := by decide +kernel
theorem dX12_tells_38 : decode cX12_tells 38 = .ok (.getfield 22, 3) := by decide +kernel
theorem dX12_tells_41 : decode cX12_tells 41 = .ok (.iload_n 3, 1) := by decide +kernel
theorem dX12_tells_42 : decode cX12_tells 42 = .ok (.iaload, 1) := by decide +kernel
theorem dX12_tells_43 : decode cX12_tells 43 = .ok (.ifCond .ge 28, 3) := by decide +kernel
theorem dX12_tells_57 : decode cX12_tells 57 = .ok (.aload_n 0, 1) := by decide +kernel
theorem dX12_tells_58 : decode cX12_tells 58 = .ok (.getfield 52, 3) := by decide +kernel
theorem dX12_tells_61 : decode cX12_tells 61 = .ok (.bipush 64, 2) := by decide +kernel
theorem dX12_tells_63 : decode cX12_tells 63 = .ok (.iload_n 3, 1) := by decide +kernel
theorem dX12_tells_64 : decode cX12_tells 64 = .ok (.imul, 1) := by decide +kernel
theorem dX12_tells_65 : decode cX12_tells 65 = .ok (.iaload, 1) := by decide +kernel
theorem dX12_tells_66 : decode cX12_tells 66 = .ok (.bipush (-9), 2) := by decide +kernel
theorem dX12_tells_68 : decode cX12_tells 68 = .ok (.if_icmp .eq 7, 3) := by decide +kernel
set_option maxRecDepth 20000 in
theorem ggX12_tells_X12_sizeOf : GoodIn wsX12_tells wsX12_sizeOf := goodIn_r _ [13] (by decide +kernel) (by decide +kernel)
set_option maxRecDepth 20000 in
theorem gX12_tells_X12_sizeOf : GoodIn wsX12_tells (va_wsS RX12 170 yX12_sizeOf wsX12_sizeOf) := goodIn_app (goodIn_of _ (by decide +kernel)) ggX12_tells_X12_sizeOf
set_option maxHeartbeats 4000000 in
set_option maxRecDepth 100000 in
/-- tells(what): 0 -/
theorem cm_tells (l : Launch) (dC : Nat → ClassId) (dI : Nat → Nat → Nat) (cs : Nat → ClassId) (ad : Nat → Nat) {h : Int64} (H : Heap) (hP : va_P (dC, dI) vwCl (wM cs ad h) H) (vwhat : Int32) (hq : 0 ≤ vwhat.toInt ∧ vwhat.toInt < 9) : Met l yX12_tells wsX12_tells ({ frames := 1, cells := 0, slots := 0, locals := 22 }) (va_Pc [.ref (ad 0), .int vwhat] (pb_P (dC, dI) vwCl (tyM cs) H)) (va_Qi (fun (z : Int32) (_ : Unit) => z = 0) (fun _ t => t.heap = H) (fun _ => False)) 0 0 (fun _ => False) := by
  refine Met.ofW (cc := cX12_tells) (maxL := 4) (ret := (some .int)) (by decide) rfl ?_
  intro p e s m args below meth c s₁ B hml hv
  obtain ⟨rfl, hh, hK⟩ := hv
  have hx := B.exec
  have hb := B.bytes
  have hr := B.returns
  have hts := atoms_spec (ws := wsX12_tells) B.pre
  have hown : s.vm.findClass RX12 = some m.cls := findClass_of_methodNamed B.named
  have hlocks := B.notSynchronized
  subst hh
  have hS : va_S (fun _ => False) s.heap s.heap [] := va_S.rf
  have hl := lv_entry ([.ref (ad 0), .int vwhat]) (n := 4) (Nat.le_of_ble_eq_true rfl)
  rw [lg_entry_eq]
  generalize (lg_sl ([.ref (ad 0), .int vwhat]) ++ List.replicate (4 - (lg_sl ([.ref (ad 0), .int vwhat])).length) Slot.unset).toArray = ls at hl ⊢
  have hl : lv_has ls 4 [(0, .ref (ad 0)), (1, .int vwhat)] := hl
  refine lv_iconst (v := 0) hx hb dX12_tells_0 (by decide) ?_
  refine lv_istore_n (lv' := [(2, .int 0), (0, .ref (ad 0)), (1, .int vwhat)]) hx hb dX12_tells_1 rfl hl (by decide) rfl (fun ls hl => ?_)
  refine lv_iconst (v := 0) hx hb dX12_tells_2 (by decide) ?_
  refine lv_istore_n (lv' := [(3, .int 0), (2, .int 0), (0, .ref (ad 0)), (1, .int vwhat)]) hx hb dX12_tells_3 rfl hl (by decide) rfl (fun ls hl => ?_)
  have j_1 : ∀ (locs : List Loc) (ls : Array Slot), va_S (fun _ => False) s.heap s.heap locs → lv_has ls 4 [(0, .ref (ad 0)), (1, .int vwhat), (2, .int 0), (3, .int 1)] → W p l e (headSpec wsX12_tells ({ frames := 1, cells := 0, slots := 0, locals := 22 })).room s m ([.ref (ad 0), .int vwhat] : List Value).toArray below meth c s.heap locs 0 0 (MQ below (va_Qi (fun (z : Int32) (_ : Unit) => z = 0) (fun _ t => t.heap = s.heap) (fun _ => False)) ([.ref (ad 0), .int vwhat] : List Value).toArray s 0 0 (fun _ => False)) (F0 m 4 ls []) := by
    intro locs ls hS hl
    have j_2 : ∀ (locs : List Loc) (ls : Array Slot), va_S (fun _ => False) s.heap s.heap locs → lv_has ls 4 [(0, .ref (ad 0)), (1, .int vwhat), (2, .int 0), (3, .int 2)] → W p l e (headSpec wsX12_tells ({ frames := 1, cells := 0, slots := 0, locals := 22 })).room s m ([.ref (ad 0), .int vwhat] : List Value).toArray below meth c s.heap locs 0 0 (MQ below (va_Qi (fun (z : Int32) (_ : Unit) => z = 0) (fun _ t => t.heap = s.heap) (fun _ => False)) ([.ref (ad 0), .int vwhat] : List Value).toArray s 0 0 (fun _ => False)) (F0 m 4 ls []) := by
      intro locs ls hS hl
      have j_3 : ∀ (locs : List Loc) (ls : Array Slot), va_S (fun _ => False) s.heap s.heap locs → lv_has ls 4 [(0, .ref (ad 0)), (1, .int vwhat), (2, .int 0), (3, .int 3)] → W p l e (headSpec wsX12_tells ({ frames := 1, cells := 0, slots := 0, locals := 22 })).room s m ([.ref (ad 0), .int vwhat] : List Value).toArray below meth c s.heap locs 0 0 (MQ below (va_Qi (fun (z : Int32) (_ : Unit) => z = 0) (fun _ t => t.heap = s.heap) (fun _ => False)) ([.ref (ad 0), .int vwhat] : List Value).toArray s 0 0 (fun _ => False)) (F0 m 4 ls []) := by
        intro locs ls hS hl
        have j_4 : ∀ (locs : List Loc) (ls : Array Slot), va_S (fun _ => False) s.heap s.heap locs → lv_has ls 4 [(0, .ref (ad 0)), (1, .int vwhat), (2, .int 0), (3, .int 4)] → W p l e (headSpec wsX12_tells ({ frames := 1, cells := 0, slots := 0, locals := 22 })).room s m ([.ref (ad 0), .int vwhat] : List Value).toArray below meth c s.heap locs 0 0 (MQ below (va_Qi (fun (z : Int32) (_ : Unit) => z = 0) (fun _ t => t.heap = s.heap) (fun _ => False)) ([.ref (ad 0), .int vwhat] : List Value).toArray s 0 0 (fun _ => False)) (F0 m 4 ls []) := by
          intro locs ls hS hl
          have j_5 : ∀ (locs : List Loc) (ls : Array Slot), va_S (fun _ => False) s.heap s.heap locs → lv_has ls 4 [(0, .ref (ad 0)), (1, .int vwhat), (2, .int 0), (3, .int 5)] → W p l e (headSpec wsX12_tells ({ frames := 1, cells := 0, slots := 0, locals := 22 })).room s m ([.ref (ad 0), .int vwhat] : List Value).toArray below meth c s.heap locs 0 0 (MQ below (va_Qi (fun (z : Int32) (_ : Unit) => z = 0) (fun _ t => t.heap = s.heap) (fun _ => False)) ([.ref (ad 0), .int vwhat] : List Value).toArray s 0 0 (fun _ => False)) (F0 m 4 ls []) := by
            intro locs ls hS hl
            have j_6 : ∀ (locs : List Loc) (ls : Array Slot), va_S (fun _ => False) s.heap s.heap locs → lv_has ls 4 [(0, .ref (ad 0)), (1, .int vwhat), (2, .int 0), (3, .int 6)] → W p l e (headSpec wsX12_tells ({ frames := 1, cells := 0, slots := 0, locals := 22 })).room s m ([.ref (ad 0), .int vwhat] : List Value).toArray below meth c s.heap locs 0 0 (MQ below (va_Qi (fun (z : Int32) (_ : Unit) => z = 0) (fun _ t => t.heap = s.heap) (fun _ => False)) ([.ref (ad 0), .int vwhat] : List Value).toArray s 0 0 (fun _ => False)) (F0 m 4 ls []) := by
              intro locs ls hS hl
              refine lv_iload_n hx hb dX12_tells_4 rfl (lv_at hl 3 rfl) ?_
              refine lv_bipush (v := 6) hx hb dX12_tells_5 (by decide) ?_
              refine lv_icmp_ge (tgt := 84) hx hb dX12_tells_7 (by decide) (fun _ => ?_) (fun c => absurd (by decide) c)
              refine lv_iload_n hx hb dX12_tells_84 rfl (lv_at hl 1 rfl) ?_
              by_cases c_0 : vwhat.toInt < 0 ∨ 5 < vwhat.toInt
              · refine lv_tableOut (tgt := 157) hx hb dX12_tells_85 c_0 (by decide) ?_
                refine lv_iload_n hx hb dX12_tells_157 rfl (lv_at hl 2 rfl) ?_
                exact W.iret (v := 0) hx hb hr (fun t ht hW => ⟨⟨0, (), rfl, rfl, ht⟩, hS.F ht⟩) hS.2.2 dX12_tells_158
              by_cases c_10 : vwhat.toInt = 0
              · refine lv_tableIn (off := 39) (tgt := 124) hx hb dX12_tells_85 (by omega) (by omega) (by rw [c_10]; rfl) (by decide) ?_
                refine lv_aload_n hx hb dX12_tells_124 rfl (lv_at hl 0 rfl) ?_
                refine va_get (D := (dC, dI)) (ci := 12) (v := .int 0) (C := RX12) (T := TX12) (N := 46) hx hb hts (by decide +kernel) hown hK hP 0 rfl rfl 8 (by decide) (hts (.fieldLink RX12 136 "DearLettersModel" "many" "I") (by decide +kernel)) (fun _ h9 => h9) rfl dX12_tells_125 ?_
                exact W.iret (v := 0) hx hb hr (fun t ht hW => ⟨⟨0, (), rfl, rfl, ht⟩, hS.F ht⟩) hS.2.2 dX12_tells_128
              by_cases c_20 : vwhat.toInt = 1
              · refine lv_tableIn (off := 44) (tgt := 129) hx hb dX12_tells_85 (by omega) (by omega) (by rw [c_20]; rfl) (by decide) ?_
                refine lv_aload_n hx hb dX12_tells_129 rfl (lv_at hl 0 rfl) ?_
                refine va_get (D := (dC, dI)) (ci := 12) (v := .int 0) (C := RX12) (T := TX12) (N := 46) hx hb hts (by decide +kernel) hown hK hP 0 rfl rfl 11 (by decide) (hts (.fieldLink RX12 139 "DearLettersModel" "pathMany" "I") (by decide +kernel)) (fun _ h9 => h9) rfl dX12_tells_130 ?_
                exact W.iret (v := 0) hx hb hr (fun t ht hW => ⟨⟨0, (), rfl, rfl, ht⟩, hS.F ht⟩) hS.2.2 dX12_tells_133
              by_cases c_30 : vwhat.toInt = 2
              · refine lv_tableIn (off := 49) (tgt := 134) hx hb dX12_tells_85 (by omega) (by omega) (by rw [c_30]; rfl) (by decide) ?_
                refine lv_aload_n hx hb dX12_tells_134 rfl (lv_at hl 0 rfl) ?_
                refine va_get (D := (dC, dI)) (ci := 12) (v := .int 0) (C := RX12) (T := TX12) (N := 46) hx hb hts (by decide +kernel) hown hK hP 0 rfl rfl 14 (by decide) (hts (.fieldLink RX12 145 "DearLettersModel" "day" "I") (by decide +kernel)) (fun _ h9 => h9) rfl dX12_tells_135 ?_
                exact W.iret (v := 0) hx hb hr (fun t ht hW => ⟨⟨0, (), rfl, rfl, ht⟩, hS.F ht⟩) hS.2.2 dX12_tells_138
              by_cases c_40 : vwhat.toInt = 3
              · refine lv_tableIn (off := 54) (tgt := 139) hx hb dX12_tells_85 (by omega) (by omega) (by rw [c_40]; rfl) (by decide) ?_
                refine lv_aload_n hx hb dX12_tells_139 rfl (lv_at hl 0 rfl) ?_
                refine va_get (D := (dC, dI)) (ci := 12) (v := .int 0) (C := RX12) (T := TX12) (N := 46) hx hb hts (by decide +kernel) hown hK hP 0 rfl rfl 15 (by decide) (hts (.fieldLink RX12 148 "DearLettersModel" "letterMany" "I") (by decide +kernel)) (fun _ h9 => h9) rfl dX12_tells_140 ?_
                exact W.iret (v := 0) hx hb hr (fun t ht hW => ⟨⟨0, (), rfl, rfl, ht⟩, hS.F ht⟩) hS.2.2 dX12_tells_143
              by_cases c_50 : vwhat.toInt = 4
              · refine lv_tableIn (off := 59) (tgt := 144) hx hb dX12_tells_85 (by omega) (by omega) (by rw [c_50]; rfl) (by decide) ?_
                refine lv_aload_n hx hb dX12_tells_144 rfl (lv_at hl 0 rfl) ?_
                refine va_get (D := (dC, dI)) (ci := 12) (v := .int 0) (C := RX12) (T := TX12) (N := 46) hx hb hts (by decide +kernel) hown hK hP 0 rfl rfl 17 (by decide) (hts (.fieldLink RX12 151 "DearLettersModel" "saleMany" "I") (by decide +kernel)) (fun _ h9 => h9) rfl dX12_tells_145 ?_
                exact W.iret (v := 0) hx hb hr (fun t ht hW => ⟨⟨0, (), rfl, rfl, ht⟩, hS.F ht⟩) hS.2.2 dX12_tells_148
              have c_60 : vwhat.toInt = 5 := by omega
              refine lv_tableIn (off := 64) (tgt := 149) hx hb dX12_tells_85 (by omega) (by omega) (by rw [c_60]; rfl) (by decide) ?_
              refine lv_aload_n hx hb dX12_tells_149 rfl (lv_at hl 0 rfl) ?_
              refine va_get (D := (dC, dI)) (ci := 12) (v := .int 0) (C := RX12) (T := TX12) (N := 46) hx hb hts (by decide +kernel) hown hK hP 0 rfl rfl 13 (by decide) (hts (.fieldLink RX12 142 "DearLettersModel" "snows" "I") (by decide +kernel)) (fun _ h9 => h9) rfl dX12_tells_150 ?_
              refine cr_i (va_runS (As := [.int 0]) (rest := []) ⟨hx, hb, hml, hown, hts⟩ (cm_sizeOf0 l dC dI (tyM cs) s.heap) (va_cwS 1 hts gX12_tells_X12_sizeOf rfl rfl rfl (by decide +kernel) ⟨Nat.le_of_ble_eq_true rfl, Nat.le_of_ble_eq_true rfl⟩) ⟨pb_c, pb_m hK⟩ rfl rfl hl.1 rfl (lv_room (Nat.le_of_ble_eq_true rfl)) dX12_tells_153 ⟨Nat.zero_le _, Nat.zero_le _⟩) hS (fun r_1 hw_1 locs hS => ?_)
              obtain rfl : r_1 = 0 := hw_1
              exact W.iret (v := 0) hx hb hr (fun t ht hW => ⟨⟨0, (), rfl, rfl, ht⟩, hS.F ht⟩) hS.2.2 dX12_tells_156
            refine lv_iload_n hx hb dX12_tells_4 rfl (lv_at hl 3 rfl) ?_
            refine lv_bipush (v := 6) hx hb dX12_tells_5 (by decide) ?_
            refine lv_icmp_ge (tgt := 84) hx hb dX12_tells_7 (by decide) (fun c => absurd c (by decide)) (fun _ => ?_)
            refine lv_iload_n hx hb dX12_tells_10 rfl (lv_at hl 2 rfl) ?_
            refine lv_iload_n hx hb dX12_tells_11 rfl (lv_at hl 1 rfl) ?_
            refine lv_bipush (v := 6) hx hb dX12_tells_12 (by decide) ?_
            refine lv_icmp_ne (tgt := 26) hx hb dX12_tells_14 (by decide) (fun c_2 => ?_) (fun c_2 => ?_)
            · have c_2 : ¬ vwhat.toInt = 6 := il_ne c_2
              refine lv_iload_n hx hb dX12_tells_26 rfl (lv_at hl 1 rfl) ?_
              refine lv_bipush (v := 7) hx hb dX12_tells_27 (by decide) ?_
              refine lv_icmp_ne (tgt := 46) hx hb dX12_tells_29 (by decide) (fun c_3 => ?_) (fun c_3 => ?_)
              · have c_3 : ¬ vwhat.toInt = 7 := il_ne c_3
                refine lv_iload_n hx hb dX12_tells_46 rfl (lv_at hl 1 rfl) ?_
                refine lv_bipush (v := 8) hx hb dX12_tells_47 (by decide) ?_
                refine lv_icmp_ne (tgt := 75) hx hb dX12_tells_49 (by decide) (fun c_4 => ?_) (fun c_4 => ?_)
                · have c_4 : ¬ vwhat.toInt = 8 := il_ne c_4
                  refine lv_iconst (v := 0) hx hb dX12_tells_75 (by decide) ?_
                  refine lv_iadd hx hb dX12_tells_76 ?_
                  refine lq_i 0 (by decide) ?_
                  refine lv_istore_n (lv' := [(2, .int 0), (0, .ref (ad 0)), (1, .int vwhat), (3, .int 5)]) hx hb dX12_tells_77 rfl hl (by decide) rfl (fun ls hl => ?_)
                  refine lv_iinc (v := 6) (lv' := [(3, .int 6), (2, .int 0), (0, .ref (ad 0)), (1, .int vwhat)]) hx hb dX12_tells_78 hl (k := 3) rfl (by decide) (by decide) rfl (fun ls hl => ?_)
                  refine lv_goto (tgt := 4) hx hb dX12_tells_81 (by decide) ?_
                  exact j_6 _ _ hS (lv_sub hl [2, 3, 1, 0] rfl)
                · have c_4 : vwhat.toInt = 8 := il_eq c_4
                  refine lv_iload_n hx hb dX12_tells_52 rfl (lv_at hl 3 rfl) ?_
                  refine lv_iconst (v := 3) hx hb dX12_tells_53 (by decide) ?_
                  refine lv_icmp_ge (tgt := 75) hx hb dX12_tells_54 (by decide) (fun _ => ?_) (fun c => absurd (by decide) c)
                  refine lv_iconst (v := 0) hx hb dX12_tells_75 (by decide) ?_
                  refine lv_iadd hx hb dX12_tells_76 ?_
                  refine lq_i 0 (by decide) ?_
                  refine lv_istore_n (lv' := [(2, .int 0), (0, .ref (ad 0)), (1, .int vwhat), (3, .int 5)]) hx hb dX12_tells_77 rfl hl (by decide) rfl (fun ls hl => ?_)
                  refine lv_iinc (v := 6) (lv' := [(3, .int 6), (2, .int 0), (0, .ref (ad 0)), (1, .int vwhat)]) hx hb dX12_tells_78 hl (k := 3) rfl (by decide) (by decide) rfl (fun ls hl => ?_)
                  refine lv_goto (tgt := 4) hx hb dX12_tells_81 (by decide) ?_
                  exact j_6 _ _ hS (lv_sub hl [2, 3, 1, 0] rfl)
              · have c_3 : vwhat.toInt = 7 := il_eq c_3
                refine lv_iload_n hx hb dX12_tells_32 rfl (lv_at hl 3 rfl) ?_
                refine lv_iconst (v := 4) hx hb dX12_tells_33 (by decide) ?_
                refine lv_icmp_ge (tgt := 46) hx hb dX12_tells_34 (by decide) (fun _ => ?_) (fun c => absurd (by decide) c)
                refine lv_iload_n hx hb dX12_tells_46 rfl (lv_at hl 1 rfl) ?_
                refine lv_bipush (v := 8) hx hb dX12_tells_47 (by decide) ?_
                refine lv_icmp_ne (tgt := 75) hx hb dX12_tells_49 (by decide) (fun c_5 => ?_) (fun c_5 => by have c_5 : vwhat.toInt = 8 := il_eq c_5; exfalso; omega)
                have c_5 : ¬ vwhat.toInt = 8 := il_ne c_5
                refine lv_iconst (v := 0) hx hb dX12_tells_75 (by decide) ?_
                refine lv_iadd hx hb dX12_tells_76 ?_
                refine lq_i 0 (by decide) ?_
                refine lv_istore_n (lv' := [(2, .int 0), (0, .ref (ad 0)), (1, .int vwhat), (3, .int 5)]) hx hb dX12_tells_77 rfl hl (by decide) rfl (fun ls hl => ?_)
                refine lv_iinc (v := 6) (lv' := [(3, .int 6), (2, .int 0), (0, .ref (ad 0)), (1, .int vwhat)]) hx hb dX12_tells_78 hl (k := 3) rfl (by decide) (by decide) rfl (fun ls hl => ?_)
                refine lv_goto (tgt := 4) hx hb dX12_tells_81 (by decide) ?_
                exact j_6 _ _ hS (lv_sub hl [2, 3, 1, 0] rfl)
            · have c_2 : vwhat.toInt = 6 := il_eq c_2
              refine lv_aload_n hx hb dX12_tells_17 rfl (lv_at hl 0 rfl) ?_
              refine va_get (D := (dC, dI)) (ci := 12) (v := .ref (ad 2)) (C := RX12) (T := TX12) (N := 46) hx hb hts (by decide +kernel) hown hK hP 0 rfl rfl 3 (by decide) (hts (.fieldLink RX12 13 "DearLettersModel" "sizes" "[I") (by decide +kernel)) (fun _ h9 => h9) rfl dX12_tells_18 ?_
              refine lv_iload_n hx hb dX12_tells_21 rfl (lv_at hl 3 rfl) ?_
              refine va_iald hx hb hK hP 2 1 rfl rfl (show vp_in 5 6 by unfold vp_in; decide) dX12_tells_22 ?_
              refine lq_i (-9) (by first | rfl | decide) ?_
              refine lv_if_ge (tgt := 71) hx hb dX12_tells_23 (by decide) (fun c => absurd c (by decide)) (fun _ => ?_)
              refine lv_iload_n hx hb dX12_tells_26 rfl (lv_at hl 1 rfl) ?_
              refine lv_bipush (v := 7) hx hb dX12_tells_27 (by decide) ?_
              refine lv_icmp_ne (tgt := 46) hx hb dX12_tells_29 (by decide) (fun c_6 => ?_) (fun c_6 => by have c_6 : vwhat.toInt = 7 := il_eq c_6; exfalso; omega)
              have c_6 : ¬ vwhat.toInt = 7 := il_ne c_6
              refine lv_iload_n hx hb dX12_tells_46 rfl (lv_at hl 1 rfl) ?_
              refine lv_bipush (v := 8) hx hb dX12_tells_47 (by decide) ?_
              refine lv_icmp_ne (tgt := 75) hx hb dX12_tells_49 (by decide) (fun c_7 => ?_) (fun c_7 => by have c_7 : vwhat.toInt = 8 := il_eq c_7; exfalso; omega)
              have c_7 : ¬ vwhat.toInt = 8 := il_ne c_7
              refine lv_iconst (v := 0) hx hb dX12_tells_75 (by decide) ?_
              refine lv_iadd hx hb dX12_tells_76 ?_
              refine lq_i 0 (by decide) ?_
              refine lv_istore_n (lv' := [(2, .int 0), (0, .ref (ad 0)), (1, .int vwhat), (3, .int 5)]) hx hb dX12_tells_77 rfl hl (by decide) rfl (fun ls hl => ?_)
              refine lv_iinc (v := 6) (lv' := [(3, .int 6), (2, .int 0), (0, .ref (ad 0)), (1, .int vwhat)]) hx hb dX12_tells_78 hl (k := 3) rfl (by decide) (by decide) rfl (fun ls hl => ?_)
              refine lv_goto (tgt := 4) hx hb dX12_tells_81 (by decide) ?_
              exact j_6 _ _ hS (lv_sub hl [2, 3, 1, 0] rfl)
          refine lv_iload_n hx hb dX12_tells_4 rfl (lv_at hl 3 rfl) ?_
          refine lv_bipush (v := 6) hx hb dX12_tells_5 (by decide) ?_
          refine lv_icmp_ge (tgt := 84) hx hb dX12_tells_7 (by decide) (fun c => absurd c (by decide)) (fun _ => ?_)
          refine lv_iload_n hx hb dX12_tells_10 rfl (lv_at hl 2 rfl) ?_
          refine lv_iload_n hx hb dX12_tells_11 rfl (lv_at hl 1 rfl) ?_
          refine lv_bipush (v := 6) hx hb dX12_tells_12 (by decide) ?_
          refine lv_icmp_ne (tgt := 26) hx hb dX12_tells_14 (by decide) (fun c_8 => ?_) (fun c_8 => ?_)
          · have c_8 : ¬ vwhat.toInt = 6 := il_ne c_8
            refine lv_iload_n hx hb dX12_tells_26 rfl (lv_at hl 1 rfl) ?_
            refine lv_bipush (v := 7) hx hb dX12_tells_27 (by decide) ?_
            refine lv_icmp_ne (tgt := 46) hx hb dX12_tells_29 (by decide) (fun c_9 => ?_) (fun c_9 => ?_)
            · have c_9 : ¬ vwhat.toInt = 7 := il_ne c_9
              refine lv_iload_n hx hb dX12_tells_46 rfl (lv_at hl 1 rfl) ?_
              refine lv_bipush (v := 8) hx hb dX12_tells_47 (by decide) ?_
              refine lv_icmp_ne (tgt := 75) hx hb dX12_tells_49 (by decide) (fun c_10 => ?_) (fun c_10 => ?_)
              · have c_10 : ¬ vwhat.toInt = 8 := il_ne c_10
                refine lv_iconst (v := 0) hx hb dX12_tells_75 (by decide) ?_
                refine lv_iadd hx hb dX12_tells_76 ?_
                refine lq_i 0 (by decide) ?_
                refine lv_istore_n (lv' := [(2, .int 0), (0, .ref (ad 0)), (1, .int vwhat), (3, .int 4)]) hx hb dX12_tells_77 rfl hl (by decide) rfl (fun ls hl => ?_)
                refine lv_iinc (v := 5) (lv' := [(3, .int 5), (2, .int 0), (0, .ref (ad 0)), (1, .int vwhat)]) hx hb dX12_tells_78 hl (k := 3) rfl (by decide) (by decide) rfl (fun ls hl => ?_)
                refine lv_goto (tgt := 4) hx hb dX12_tells_81 (by decide) ?_
                exact j_5 _ _ hS (lv_sub hl [2, 3, 1, 0] rfl)
              · have c_10 : vwhat.toInt = 8 := il_eq c_10
                refine lv_iload_n hx hb dX12_tells_52 rfl (lv_at hl 3 rfl) ?_
                refine lv_iconst (v := 3) hx hb dX12_tells_53 (by decide) ?_
                refine lv_icmp_ge (tgt := 75) hx hb dX12_tells_54 (by decide) (fun _ => ?_) (fun c => absurd (by decide) c)
                refine lv_iconst (v := 0) hx hb dX12_tells_75 (by decide) ?_
                refine lv_iadd hx hb dX12_tells_76 ?_
                refine lq_i 0 (by decide) ?_
                refine lv_istore_n (lv' := [(2, .int 0), (0, .ref (ad 0)), (1, .int vwhat), (3, .int 4)]) hx hb dX12_tells_77 rfl hl (by decide) rfl (fun ls hl => ?_)
                refine lv_iinc (v := 5) (lv' := [(3, .int 5), (2, .int 0), (0, .ref (ad 0)), (1, .int vwhat)]) hx hb dX12_tells_78 hl (k := 3) rfl (by decide) (by decide) rfl (fun ls hl => ?_)
                refine lv_goto (tgt := 4) hx hb dX12_tells_81 (by decide) ?_
                exact j_5 _ _ hS (lv_sub hl [2, 3, 1, 0] rfl)
            · have c_9 : vwhat.toInt = 7 := il_eq c_9
              refine lv_iload_n hx hb dX12_tells_32 rfl (lv_at hl 3 rfl) ?_
              refine lv_iconst (v := 4) hx hb dX12_tells_33 (by decide) ?_
              refine lv_icmp_ge (tgt := 46) hx hb dX12_tells_34 (by decide) (fun _ => ?_) (fun c => absurd (by decide) c)
              refine lv_iload_n hx hb dX12_tells_46 rfl (lv_at hl 1 rfl) ?_
              refine lv_bipush (v := 8) hx hb dX12_tells_47 (by decide) ?_
              refine lv_icmp_ne (tgt := 75) hx hb dX12_tells_49 (by decide) (fun c_11 => ?_) (fun c_11 => by have c_11 : vwhat.toInt = 8 := il_eq c_11; exfalso; omega)
              have c_11 : ¬ vwhat.toInt = 8 := il_ne c_11
              refine lv_iconst (v := 0) hx hb dX12_tells_75 (by decide) ?_
              refine lv_iadd hx hb dX12_tells_76 ?_
              refine lq_i 0 (by decide) ?_
              refine lv_istore_n (lv' := [(2, .int 0), (0, .ref (ad 0)), (1, .int vwhat), (3, .int 4)]) hx hb dX12_tells_77 rfl hl (by decide) rfl (fun ls hl => ?_)
              refine lv_iinc (v := 5) (lv' := [(3, .int 5), (2, .int 0), (0, .ref (ad 0)), (1, .int vwhat)]) hx hb dX12_tells_78 hl (k := 3) rfl (by decide) (by decide) rfl (fun ls hl => ?_)
              refine lv_goto (tgt := 4) hx hb dX12_tells_81 (by decide) ?_
              exact j_5 _ _ hS (lv_sub hl [2, 3, 1, 0] rfl)
          · have c_8 : vwhat.toInt = 6 := il_eq c_8
            refine lv_aload_n hx hb dX12_tells_17 rfl (lv_at hl 0 rfl) ?_
            refine va_get (D := (dC, dI)) (ci := 12) (v := .ref (ad 2)) (C := RX12) (T := TX12) (N := 46) hx hb hts (by decide +kernel) hown hK hP 0 rfl rfl 3 (by decide) (hts (.fieldLink RX12 13 "DearLettersModel" "sizes" "[I") (by decide +kernel)) (fun _ h9 => h9) rfl dX12_tells_18 ?_
            refine lv_iload_n hx hb dX12_tells_21 rfl (lv_at hl 3 rfl) ?_
            refine va_iald hx hb hK hP 2 1 rfl rfl (show vp_in 4 6 by unfold vp_in; decide) dX12_tells_22 ?_
            refine lq_i (-9) (by first | rfl | decide) ?_
            refine lv_if_ge (tgt := 71) hx hb dX12_tells_23 (by decide) (fun c => absurd c (by decide)) (fun _ => ?_)
            refine lv_iload_n hx hb dX12_tells_26 rfl (lv_at hl 1 rfl) ?_
            refine lv_bipush (v := 7) hx hb dX12_tells_27 (by decide) ?_
            refine lv_icmp_ne (tgt := 46) hx hb dX12_tells_29 (by decide) (fun c_12 => ?_) (fun c_12 => by have c_12 : vwhat.toInt = 7 := il_eq c_12; exfalso; omega)
            have c_12 : ¬ vwhat.toInt = 7 := il_ne c_12
            refine lv_iload_n hx hb dX12_tells_46 rfl (lv_at hl 1 rfl) ?_
            refine lv_bipush (v := 8) hx hb dX12_tells_47 (by decide) ?_
            refine lv_icmp_ne (tgt := 75) hx hb dX12_tells_49 (by decide) (fun c_13 => ?_) (fun c_13 => by have c_13 : vwhat.toInt = 8 := il_eq c_13; exfalso; omega)
            have c_13 : ¬ vwhat.toInt = 8 := il_ne c_13
            refine lv_iconst (v := 0) hx hb dX12_tells_75 (by decide) ?_
            refine lv_iadd hx hb dX12_tells_76 ?_
            refine lq_i 0 (by decide) ?_
            refine lv_istore_n (lv' := [(2, .int 0), (0, .ref (ad 0)), (1, .int vwhat), (3, .int 4)]) hx hb dX12_tells_77 rfl hl (by decide) rfl (fun ls hl => ?_)
            refine lv_iinc (v := 5) (lv' := [(3, .int 5), (2, .int 0), (0, .ref (ad 0)), (1, .int vwhat)]) hx hb dX12_tells_78 hl (k := 3) rfl (by decide) (by decide) rfl (fun ls hl => ?_)
            refine lv_goto (tgt := 4) hx hb dX12_tells_81 (by decide) ?_
            exact j_5 _ _ hS (lv_sub hl [2, 3, 1, 0] rfl)
        refine lv_iload_n hx hb dX12_tells_4 rfl (lv_at hl 3 rfl) ?_
        refine lv_bipush (v := 6) hx hb dX12_tells_5 (by decide) ?_
        refine lv_icmp_ge (tgt := 84) hx hb dX12_tells_7 (by decide) (fun c => absurd c (by decide)) (fun _ => ?_)
        refine lv_iload_n hx hb dX12_tells_10 rfl (lv_at hl 2 rfl) ?_
        refine lv_iload_n hx hb dX12_tells_11 rfl (lv_at hl 1 rfl) ?_
        refine lv_bipush (v := 6) hx hb dX12_tells_12 (by decide) ?_
        refine lv_icmp_ne (tgt := 26) hx hb dX12_tells_14 (by decide) (fun c_14 => ?_) (fun c_14 => ?_)
        · have c_14 : ¬ vwhat.toInt = 6 := il_ne c_14
          refine lv_iload_n hx hb dX12_tells_26 rfl (lv_at hl 1 rfl) ?_
          refine lv_bipush (v := 7) hx hb dX12_tells_27 (by decide) ?_
          refine lv_icmp_ne (tgt := 46) hx hb dX12_tells_29 (by decide) (fun c_15 => ?_) (fun c_15 => ?_)
          · have c_15 : ¬ vwhat.toInt = 7 := il_ne c_15
            refine lv_iload_n hx hb dX12_tells_46 rfl (lv_at hl 1 rfl) ?_
            refine lv_bipush (v := 8) hx hb dX12_tells_47 (by decide) ?_
            refine lv_icmp_ne (tgt := 75) hx hb dX12_tells_49 (by decide) (fun c_16 => ?_) (fun c_16 => ?_)
            · have c_16 : ¬ vwhat.toInt = 8 := il_ne c_16
              refine lv_iconst (v := 0) hx hb dX12_tells_75 (by decide) ?_
              refine lv_iadd hx hb dX12_tells_76 ?_
              refine lq_i 0 (by decide) ?_
              refine lv_istore_n (lv' := [(2, .int 0), (0, .ref (ad 0)), (1, .int vwhat), (3, .int 3)]) hx hb dX12_tells_77 rfl hl (by decide) rfl (fun ls hl => ?_)
              refine lv_iinc (v := 4) (lv' := [(3, .int 4), (2, .int 0), (0, .ref (ad 0)), (1, .int vwhat)]) hx hb dX12_tells_78 hl (k := 3) rfl (by decide) (by decide) rfl (fun ls hl => ?_)
              refine lv_goto (tgt := 4) hx hb dX12_tells_81 (by decide) ?_
              exact j_4 _ _ hS (lv_sub hl [2, 3, 1, 0] rfl)
            · have c_16 : vwhat.toInt = 8 := il_eq c_16
              refine lv_iload_n hx hb dX12_tells_52 rfl (lv_at hl 3 rfl) ?_
              refine lv_iconst (v := 3) hx hb dX12_tells_53 (by decide) ?_
              refine lv_icmp_ge (tgt := 75) hx hb dX12_tells_54 (by decide) (fun _ => ?_) (fun c => absurd (by decide) c)
              refine lv_iconst (v := 0) hx hb dX12_tells_75 (by decide) ?_
              refine lv_iadd hx hb dX12_tells_76 ?_
              refine lq_i 0 (by decide) ?_
              refine lv_istore_n (lv' := [(2, .int 0), (0, .ref (ad 0)), (1, .int vwhat), (3, .int 3)]) hx hb dX12_tells_77 rfl hl (by decide) rfl (fun ls hl => ?_)
              refine lv_iinc (v := 4) (lv' := [(3, .int 4), (2, .int 0), (0, .ref (ad 0)), (1, .int vwhat)]) hx hb dX12_tells_78 hl (k := 3) rfl (by decide) (by decide) rfl (fun ls hl => ?_)
              refine lv_goto (tgt := 4) hx hb dX12_tells_81 (by decide) ?_
              exact j_4 _ _ hS (lv_sub hl [2, 3, 1, 0] rfl)
          · have c_15 : vwhat.toInt = 7 := il_eq c_15
            refine lv_iload_n hx hb dX12_tells_32 rfl (lv_at hl 3 rfl) ?_
            refine lv_iconst (v := 4) hx hb dX12_tells_33 (by decide) ?_
            refine lv_icmp_ge (tgt := 46) hx hb dX12_tells_34 (by decide) (fun c => absurd c (by decide)) (fun _ => ?_)
            refine lv_aload_n hx hb dX12_tells_37 rfl (lv_at hl 0 rfl) ?_
            refine va_get (D := (dC, dI)) (ci := 12) (v := .ref (ad 4)) (C := RX12) (T := TX12) (N := 46) hx hb hts (by decide +kernel) hown hK hP 0 rfl rfl 6 (by decide) (hts (.fieldLink RX12 22 "DearLettersModel" "lengths" "[I") (by decide +kernel)) (fun _ h9 => h9) rfl dX12_tells_38 ?_
            refine lv_iload_n hx hb dX12_tells_41 rfl (lv_at hl 3 rfl) ?_
            refine va_iald hx hb hK hP 4 3 rfl rfl (show vp_in 3 4 by unfold vp_in; decide) dX12_tells_42 ?_
            refine lq_i (-9) (by first | rfl | decide) ?_
            refine lv_if_ge (tgt := 71) hx hb dX12_tells_43 (by decide) (fun c => absurd c (by decide)) (fun _ => ?_)
            refine lv_iload_n hx hb dX12_tells_46 rfl (lv_at hl 1 rfl) ?_
            refine lv_bipush (v := 8) hx hb dX12_tells_47 (by decide) ?_
            refine lv_icmp_ne (tgt := 75) hx hb dX12_tells_49 (by decide) (fun c_17 => ?_) (fun c_17 => by have c_17 : vwhat.toInt = 8 := il_eq c_17; exfalso; omega)
            have c_17 : ¬ vwhat.toInt = 8 := il_ne c_17
            refine lv_iconst (v := 0) hx hb dX12_tells_75 (by decide) ?_
            refine lv_iadd hx hb dX12_tells_76 ?_
            refine lq_i 0 (by decide) ?_
            refine lv_istore_n (lv' := [(2, .int 0), (0, .ref (ad 0)), (1, .int vwhat), (3, .int 3)]) hx hb dX12_tells_77 rfl hl (by decide) rfl (fun ls hl => ?_)
            refine lv_iinc (v := 4) (lv' := [(3, .int 4), (2, .int 0), (0, .ref (ad 0)), (1, .int vwhat)]) hx hb dX12_tells_78 hl (k := 3) rfl (by decide) (by decide) rfl (fun ls hl => ?_)
            refine lv_goto (tgt := 4) hx hb dX12_tells_81 (by decide) ?_
            exact j_4 _ _ hS (lv_sub hl [2, 3, 1, 0] rfl)
        · have c_14 : vwhat.toInt = 6 := il_eq c_14
          refine lv_aload_n hx hb dX12_tells_17 rfl (lv_at hl 0 rfl) ?_
          refine va_get (D := (dC, dI)) (ci := 12) (v := .ref (ad 2)) (C := RX12) (T := TX12) (N := 46) hx hb hts (by decide +kernel) hown hK hP 0 rfl rfl 3 (by decide) (hts (.fieldLink RX12 13 "DearLettersModel" "sizes" "[I") (by decide +kernel)) (fun _ h9 => h9) rfl dX12_tells_18 ?_
          refine lv_iload_n hx hb dX12_tells_21 rfl (lv_at hl 3 rfl) ?_
          refine va_iald hx hb hK hP 2 1 rfl rfl (show vp_in 3 6 by unfold vp_in; decide) dX12_tells_22 ?_
          refine lq_i (-9) (by first | rfl | decide) ?_
          refine lv_if_ge (tgt := 71) hx hb dX12_tells_23 (by decide) (fun c => absurd c (by decide)) (fun _ => ?_)
          refine lv_iload_n hx hb dX12_tells_26 rfl (lv_at hl 1 rfl) ?_
          refine lv_bipush (v := 7) hx hb dX12_tells_27 (by decide) ?_
          refine lv_icmp_ne (tgt := 46) hx hb dX12_tells_29 (by decide) (fun c_18 => ?_) (fun c_18 => by have c_18 : vwhat.toInt = 7 := il_eq c_18; exfalso; omega)
          have c_18 : ¬ vwhat.toInt = 7 := il_ne c_18
          refine lv_iload_n hx hb dX12_tells_46 rfl (lv_at hl 1 rfl) ?_
          refine lv_bipush (v := 8) hx hb dX12_tells_47 (by decide) ?_
          refine lv_icmp_ne (tgt := 75) hx hb dX12_tells_49 (by decide) (fun c_19 => ?_) (fun c_19 => by have c_19 : vwhat.toInt = 8 := il_eq c_19; exfalso; omega)
          have c_19 : ¬ vwhat.toInt = 8 := il_ne c_19
          refine lv_iconst (v := 0) hx hb dX12_tells_75 (by decide) ?_
          refine lv_iadd hx hb dX12_tells_76 ?_
          refine lq_i 0 (by decide) ?_
          refine lv_istore_n (lv' := [(2, .int 0), (0, .ref (ad 0)), (1, .int vwhat), (3, .int 3)]) hx hb dX12_tells_77 rfl hl (by decide) rfl (fun ls hl => ?_)
          refine lv_iinc (v := 4) (lv' := [(3, .int 4), (2, .int 0), (0, .ref (ad 0)), (1, .int vwhat)]) hx hb dX12_tells_78 hl (k := 3) rfl (by decide) (by decide) rfl (fun ls hl => ?_)
          refine lv_goto (tgt := 4) hx hb dX12_tells_81 (by decide) ?_
          exact j_4 _ _ hS (lv_sub hl [2, 3, 1, 0] rfl)
      refine lv_iload_n hx hb dX12_tells_4 rfl (lv_at hl 3 rfl) ?_
      refine lv_bipush (v := 6) hx hb dX12_tells_5 (by decide) ?_
      refine lv_icmp_ge (tgt := 84) hx hb dX12_tells_7 (by decide) (fun c => absurd c (by decide)) (fun _ => ?_)
      refine lv_iload_n hx hb dX12_tells_10 rfl (lv_at hl 2 rfl) ?_
      refine lv_iload_n hx hb dX12_tells_11 rfl (lv_at hl 1 rfl) ?_
      refine lv_bipush (v := 6) hx hb dX12_tells_12 (by decide) ?_
      refine lv_icmp_ne (tgt := 26) hx hb dX12_tells_14 (by decide) (fun c_20 => ?_) (fun c_20 => ?_)
      · have c_20 : ¬ vwhat.toInt = 6 := il_ne c_20
        refine lv_iload_n hx hb dX12_tells_26 rfl (lv_at hl 1 rfl) ?_
        refine lv_bipush (v := 7) hx hb dX12_tells_27 (by decide) ?_
        refine lv_icmp_ne (tgt := 46) hx hb dX12_tells_29 (by decide) (fun c_21 => ?_) (fun c_21 => ?_)
        · have c_21 : ¬ vwhat.toInt = 7 := il_ne c_21
          refine lv_iload_n hx hb dX12_tells_46 rfl (lv_at hl 1 rfl) ?_
          refine lv_bipush (v := 8) hx hb dX12_tells_47 (by decide) ?_
          refine lv_icmp_ne (tgt := 75) hx hb dX12_tells_49 (by decide) (fun c_22 => ?_) (fun c_22 => ?_)
          · have c_22 : ¬ vwhat.toInt = 8 := il_ne c_22
            refine lv_iconst (v := 0) hx hb dX12_tells_75 (by decide) ?_
            refine lv_iadd hx hb dX12_tells_76 ?_
            refine lq_i 0 (by decide) ?_
            refine lv_istore_n (lv' := [(2, .int 0), (0, .ref (ad 0)), (1, .int vwhat), (3, .int 2)]) hx hb dX12_tells_77 rfl hl (by decide) rfl (fun ls hl => ?_)
            refine lv_iinc (v := 3) (lv' := [(3, .int 3), (2, .int 0), (0, .ref (ad 0)), (1, .int vwhat)]) hx hb dX12_tells_78 hl (k := 3) rfl (by decide) (by decide) rfl (fun ls hl => ?_)
            refine lv_goto (tgt := 4) hx hb dX12_tells_81 (by decide) ?_
            exact j_3 _ _ hS (lv_sub hl [2, 3, 1, 0] rfl)
          · have c_22 : vwhat.toInt = 8 := il_eq c_22
            refine lv_iload_n hx hb dX12_tells_52 rfl (lv_at hl 3 rfl) ?_
            refine lv_iconst (v := 3) hx hb dX12_tells_53 (by decide) ?_
            refine lv_icmp_ge (tgt := 75) hx hb dX12_tells_54 (by decide) (fun c => absurd c (by decide)) (fun _ => ?_)
            refine lv_aload_n hx hb dX12_tells_57 rfl (lv_at hl 0 rfl) ?_
            refine va_get (D := (dC, dI)) (ci := 12) (v := .ref (ad 6)) (C := RX12) (T := TX12) (N := 46) hx hb hts (by decide +kernel) hown hK hP 0 rfl rfl 25 (by decide) (hts (.fieldLink RX12 52 "DearLettersModel" "kept" "[I") (by decide +kernel)) (fun _ h9 => h9) rfl dX12_tells_58 ?_
            refine lv_bipush (v := 64) hx hb dX12_tells_61 (by decide) ?_
            refine lv_iload_n hx hb dX12_tells_63 rfl (lv_at hl 3 rfl) ?_
            refine lv_imul hx hb dX12_tells_64 ?_
            refine lq_i 128 (by decide) ?_
            refine va_iald hx hb hK hP 6 5 rfl rfl (show vp_in 128 192 by unfold vp_in; decide) dX12_tells_65 ?_
            refine lq_i (-9) (by first | rfl | decide) ?_
            refine lv_bipush (v := (-9)) hx hb dX12_tells_66 (by decide) ?_
            refine lv_icmp_eq (tgt := 75) hx hb dX12_tells_68 (by decide) (fun _ => ?_) (fun c => absurd (by decide) c)
            refine lv_iconst (v := 0) hx hb dX12_tells_75 (by decide) ?_
            refine lv_iadd hx hb dX12_tells_76 ?_
            refine lq_i 0 (by decide) ?_
            refine lv_istore_n (lv' := [(2, .int 0), (0, .ref (ad 0)), (1, .int vwhat), (3, .int 2)]) hx hb dX12_tells_77 rfl hl (by decide) rfl (fun ls hl => ?_)
            refine lv_iinc (v := 3) (lv' := [(3, .int 3), (2, .int 0), (0, .ref (ad 0)), (1, .int vwhat)]) hx hb dX12_tells_78 hl (k := 3) rfl (by decide) (by decide) rfl (fun ls hl => ?_)
            refine lv_goto (tgt := 4) hx hb dX12_tells_81 (by decide) ?_
            exact j_3 _ _ hS (lv_sub hl [2, 3, 1, 0] rfl)
        · have c_21 : vwhat.toInt = 7 := il_eq c_21
          refine lv_iload_n hx hb dX12_tells_32 rfl (lv_at hl 3 rfl) ?_
          refine lv_iconst (v := 4) hx hb dX12_tells_33 (by decide) ?_
          refine lv_icmp_ge (tgt := 46) hx hb dX12_tells_34 (by decide) (fun c => absurd c (by decide)) (fun _ => ?_)
          refine lv_aload_n hx hb dX12_tells_37 rfl (lv_at hl 0 rfl) ?_
          refine va_get (D := (dC, dI)) (ci := 12) (v := .ref (ad 4)) (C := RX12) (T := TX12) (N := 46) hx hb hts (by decide +kernel) hown hK hP 0 rfl rfl 6 (by decide) (hts (.fieldLink RX12 22 "DearLettersModel" "lengths" "[I") (by decide +kernel)) (fun _ h9 => h9) rfl dX12_tells_38 ?_
          refine lv_iload_n hx hb dX12_tells_41 rfl (lv_at hl 3 rfl) ?_
          refine va_iald hx hb hK hP 4 3 rfl rfl (show vp_in 2 4 by unfold vp_in; decide) dX12_tells_42 ?_
          refine lq_i (-9) (by first | rfl | decide) ?_
          refine lv_if_ge (tgt := 71) hx hb dX12_tells_43 (by decide) (fun c => absurd c (by decide)) (fun _ => ?_)
          refine lv_iload_n hx hb dX12_tells_46 rfl (lv_at hl 1 rfl) ?_
          refine lv_bipush (v := 8) hx hb dX12_tells_47 (by decide) ?_
          refine lv_icmp_ne (tgt := 75) hx hb dX12_tells_49 (by decide) (fun c_23 => ?_) (fun c_23 => by have c_23 : vwhat.toInt = 8 := il_eq c_23; exfalso; omega)
          have c_23 : ¬ vwhat.toInt = 8 := il_ne c_23
          refine lv_iconst (v := 0) hx hb dX12_tells_75 (by decide) ?_
          refine lv_iadd hx hb dX12_tells_76 ?_
          refine lq_i 0 (by decide) ?_
          refine lv_istore_n (lv' := [(2, .int 0), (0, .ref (ad 0)), (1, .int vwhat), (3, .int 2)]) hx hb dX12_tells_77 rfl hl (by decide) rfl (fun ls hl => ?_)
          refine lv_iinc (v := 3) (lv' := [(3, .int 3), (2, .int 0), (0, .ref (ad 0)), (1, .int vwhat)]) hx hb dX12_tells_78 hl (k := 3) rfl (by decide) (by decide) rfl (fun ls hl => ?_)
          refine lv_goto (tgt := 4) hx hb dX12_tells_81 (by decide) ?_
          exact j_3 _ _ hS (lv_sub hl [2, 3, 1, 0] rfl)
      · have c_20 : vwhat.toInt = 6 := il_eq c_20
        refine lv_aload_n hx hb dX12_tells_17 rfl (lv_at hl 0 rfl) ?_
        refine va_get (D := (dC, dI)) (ci := 12) (v := .ref (ad 2)) (C := RX12) (T := TX12) (N := 46) hx hb hts (by decide +kernel) hown hK hP 0 rfl rfl 3 (by decide) (hts (.fieldLink RX12 13 "DearLettersModel" "sizes" "[I") (by decide +kernel)) (fun _ h9 => h9) rfl dX12_tells_18 ?_
        refine lv_iload_n hx hb dX12_tells_21 rfl (lv_at hl 3 rfl) ?_
        refine va_iald hx hb hK hP 2 1 rfl rfl (show vp_in 2 6 by unfold vp_in; decide) dX12_tells_22 ?_
        refine lq_i (-9) (by first | rfl | decide) ?_
        refine lv_if_ge (tgt := 71) hx hb dX12_tells_23 (by decide) (fun c => absurd c (by decide)) (fun _ => ?_)
        refine lv_iload_n hx hb dX12_tells_26 rfl (lv_at hl 1 rfl) ?_
        refine lv_bipush (v := 7) hx hb dX12_tells_27 (by decide) ?_
        refine lv_icmp_ne (tgt := 46) hx hb dX12_tells_29 (by decide) (fun c_24 => ?_) (fun c_24 => by have c_24 : vwhat.toInt = 7 := il_eq c_24; exfalso; omega)
        have c_24 : ¬ vwhat.toInt = 7 := il_ne c_24
        refine lv_iload_n hx hb dX12_tells_46 rfl (lv_at hl 1 rfl) ?_
        refine lv_bipush (v := 8) hx hb dX12_tells_47 (by decide) ?_
        refine lv_icmp_ne (tgt := 75) hx hb dX12_tells_49 (by decide) (fun c_25 => ?_) (fun c_25 => by have c_25 : vwhat.toInt = 8 := il_eq c_25; exfalso; omega)
        have c_25 : ¬ vwhat.toInt = 8 := il_ne c_25
        refine lv_iconst (v := 0) hx hb dX12_tells_75 (by decide) ?_
        refine lv_iadd hx hb dX12_tells_76 ?_
        refine lq_i 0 (by decide) ?_
        refine lv_istore_n (lv' := [(2, .int 0), (0, .ref (ad 0)), (1, .int vwhat), (3, .int 2)]) hx hb dX12_tells_77 rfl hl (by decide) rfl (fun ls hl => ?_)
        refine lv_iinc (v := 3) (lv' := [(3, .int 3), (2, .int 0), (0, .ref (ad 0)), (1, .int vwhat)]) hx hb dX12_tells_78 hl (k := 3) rfl (by decide) (by decide) rfl (fun ls hl => ?_)
        refine lv_goto (tgt := 4) hx hb dX12_tells_81 (by decide) ?_
        exact j_3 _ _ hS (lv_sub hl [2, 3, 1, 0] rfl)
    refine lv_iload_n hx hb dX12_tells_4 rfl (lv_at hl 3 rfl) ?_
    refine lv_bipush (v := 6) hx hb dX12_tells_5 (by decide) ?_
    refine lv_icmp_ge (tgt := 84) hx hb dX12_tells_7 (by decide) (fun c => absurd c (by decide)) (fun _ => ?_)
    refine lv_iload_n hx hb dX12_tells_10 rfl (lv_at hl 2 rfl) ?_
    refine lv_iload_n hx hb dX12_tells_11 rfl (lv_at hl 1 rfl) ?_
    refine lv_bipush (v := 6) hx hb dX12_tells_12 (by decide) ?_
    refine lv_icmp_ne (tgt := 26) hx hb dX12_tells_14 (by decide) (fun c_26 => ?_) (fun c_26 => ?_)
    · have c_26 : ¬ vwhat.toInt = 6 := il_ne c_26
      refine lv_iload_n hx hb dX12_tells_26 rfl (lv_at hl 1 rfl) ?_
      refine lv_bipush (v := 7) hx hb dX12_tells_27 (by decide) ?_
      refine lv_icmp_ne (tgt := 46) hx hb dX12_tells_29 (by decide) (fun c_27 => ?_) (fun c_27 => ?_)
      · have c_27 : ¬ vwhat.toInt = 7 := il_ne c_27
        refine lv_iload_n hx hb dX12_tells_46 rfl (lv_at hl 1 rfl) ?_
        refine lv_bipush (v := 8) hx hb dX12_tells_47 (by decide) ?_
        refine lv_icmp_ne (tgt := 75) hx hb dX12_tells_49 (by decide) (fun c_28 => ?_) (fun c_28 => ?_)
        · have c_28 : ¬ vwhat.toInt = 8 := il_ne c_28
          refine lv_iconst (v := 0) hx hb dX12_tells_75 (by decide) ?_
          refine lv_iadd hx hb dX12_tells_76 ?_
          refine lq_i 0 (by decide) ?_
          refine lv_istore_n (lv' := [(2, .int 0), (0, .ref (ad 0)), (1, .int vwhat), (3, .int 1)]) hx hb dX12_tells_77 rfl hl (by decide) rfl (fun ls hl => ?_)
          refine lv_iinc (v := 2) (lv' := [(3, .int 2), (2, .int 0), (0, .ref (ad 0)), (1, .int vwhat)]) hx hb dX12_tells_78 hl (k := 3) rfl (by decide) (by decide) rfl (fun ls hl => ?_)
          refine lv_goto (tgt := 4) hx hb dX12_tells_81 (by decide) ?_
          exact j_2 _ _ hS (lv_sub hl [2, 3, 1, 0] rfl)
        · have c_28 : vwhat.toInt = 8 := il_eq c_28
          refine lv_iload_n hx hb dX12_tells_52 rfl (lv_at hl 3 rfl) ?_
          refine lv_iconst (v := 3) hx hb dX12_tells_53 (by decide) ?_
          refine lv_icmp_ge (tgt := 75) hx hb dX12_tells_54 (by decide) (fun c => absurd c (by decide)) (fun _ => ?_)
          refine lv_aload_n hx hb dX12_tells_57 rfl (lv_at hl 0 rfl) ?_
          refine va_get (D := (dC, dI)) (ci := 12) (v := .ref (ad 6)) (C := RX12) (T := TX12) (N := 46) hx hb hts (by decide +kernel) hown hK hP 0 rfl rfl 25 (by decide) (hts (.fieldLink RX12 52 "DearLettersModel" "kept" "[I") (by decide +kernel)) (fun _ h9 => h9) rfl dX12_tells_58 ?_
          refine lv_bipush (v := 64) hx hb dX12_tells_61 (by decide) ?_
          refine lv_iload_n hx hb dX12_tells_63 rfl (lv_at hl 3 rfl) ?_
          refine lv_imul hx hb dX12_tells_64 ?_
          refine lq_i 64 (by decide) ?_
          refine va_iald hx hb hK hP 6 5 rfl rfl (show vp_in 64 192 by unfold vp_in; decide) dX12_tells_65 ?_
          refine lq_i (-9) (by first | rfl | decide) ?_
          refine lv_bipush (v := (-9)) hx hb dX12_tells_66 (by decide) ?_
          refine lv_icmp_eq (tgt := 75) hx hb dX12_tells_68 (by decide) (fun _ => ?_) (fun c => absurd (by decide) c)
          refine lv_iconst (v := 0) hx hb dX12_tells_75 (by decide) ?_
          refine lv_iadd hx hb dX12_tells_76 ?_
          refine lq_i 0 (by decide) ?_
          refine lv_istore_n (lv' := [(2, .int 0), (0, .ref (ad 0)), (1, .int vwhat), (3, .int 1)]) hx hb dX12_tells_77 rfl hl (by decide) rfl (fun ls hl => ?_)
          refine lv_iinc (v := 2) (lv' := [(3, .int 2), (2, .int 0), (0, .ref (ad 0)), (1, .int vwhat)]) hx hb dX12_tells_78 hl (k := 3) rfl (by decide) (by decide) rfl (fun ls hl => ?_)
          refine lv_goto (tgt := 4) hx hb dX12_tells_81 (by decide) ?_
          exact j_2 _ _ hS (lv_sub hl [2, 3, 1, 0] rfl)
      · have c_27 : vwhat.toInt = 7 := il_eq c_27
        refine lv_iload_n hx hb dX12_tells_32 rfl (lv_at hl 3 rfl) ?_
        refine lv_iconst (v := 4) hx hb dX12_tells_33 (by decide) ?_
        refine lv_icmp_ge (tgt := 46) hx hb dX12_tells_34 (by decide) (fun c => absurd c (by decide)) (fun _ => ?_)
        refine lv_aload_n hx hb dX12_tells_37 rfl (lv_at hl 0 rfl) ?_
        refine va_get (D := (dC, dI)) (ci := 12) (v := .ref (ad 4)) (C := RX12) (T := TX12) (N := 46) hx hb hts (by decide +kernel) hown hK hP 0 rfl rfl 6 (by decide) (hts (.fieldLink RX12 22 "DearLettersModel" "lengths" "[I") (by decide +kernel)) (fun _ h9 => h9) rfl dX12_tells_38 ?_
        refine lv_iload_n hx hb dX12_tells_41 rfl (lv_at hl 3 rfl) ?_
        refine va_iald hx hb hK hP 4 3 rfl rfl (show vp_in 1 4 by unfold vp_in; decide) dX12_tells_42 ?_
        refine lq_i (-9) (by first | rfl | decide) ?_
        refine lv_if_ge (tgt := 71) hx hb dX12_tells_43 (by decide) (fun c => absurd c (by decide)) (fun _ => ?_)
        refine lv_iload_n hx hb dX12_tells_46 rfl (lv_at hl 1 rfl) ?_
        refine lv_bipush (v := 8) hx hb dX12_tells_47 (by decide) ?_
        refine lv_icmp_ne (tgt := 75) hx hb dX12_tells_49 (by decide) (fun c_29 => ?_) (fun c_29 => by have c_29 : vwhat.toInt = 8 := il_eq c_29; exfalso; omega)
        have c_29 : ¬ vwhat.toInt = 8 := il_ne c_29
        refine lv_iconst (v := 0) hx hb dX12_tells_75 (by decide) ?_
        refine lv_iadd hx hb dX12_tells_76 ?_
        refine lq_i 0 (by decide) ?_
        refine lv_istore_n (lv' := [(2, .int 0), (0, .ref (ad 0)), (1, .int vwhat), (3, .int 1)]) hx hb dX12_tells_77 rfl hl (by decide) rfl (fun ls hl => ?_)
        refine lv_iinc (v := 2) (lv' := [(3, .int 2), (2, .int 0), (0, .ref (ad 0)), (1, .int vwhat)]) hx hb dX12_tells_78 hl (k := 3) rfl (by decide) (by decide) rfl (fun ls hl => ?_)
        refine lv_goto (tgt := 4) hx hb dX12_tells_81 (by decide) ?_
        exact j_2 _ _ hS (lv_sub hl [2, 3, 1, 0] rfl)
    · have c_26 : vwhat.toInt = 6 := il_eq c_26
      refine lv_aload_n hx hb dX12_tells_17 rfl (lv_at hl 0 rfl) ?_
      refine va_get (D := (dC, dI)) (ci := 12) (v := .ref (ad 2)) (C := RX12) (T := TX12) (N := 46) hx hb hts (by decide +kernel) hown hK hP 0 rfl rfl 3 (by decide) (hts (.fieldLink RX12 13 "DearLettersModel" "sizes" "[I") (by decide +kernel)) (fun _ h9 => h9) rfl dX12_tells_18 ?_
      refine lv_iload_n hx hb dX12_tells_21 rfl (lv_at hl 3 rfl) ?_
      refine va_iald hx hb hK hP 2 1 rfl rfl (show vp_in 1 6 by unfold vp_in; decide) dX12_tells_22 ?_
      refine lq_i (-9) (by first | rfl | decide) ?_
      refine lv_if_ge (tgt := 71) hx hb dX12_tells_23 (by decide) (fun c => absurd c (by decide)) (fun _ => ?_)
      refine lv_iload_n hx hb dX12_tells_26 rfl (lv_at hl 1 rfl) ?_
      refine lv_bipush (v := 7) hx hb dX12_tells_27 (by decide) ?_
      refine lv_icmp_ne (tgt := 46) hx hb dX12_tells_29 (by decide) (fun c_30 => ?_) (fun c_30 => by have c_30 : vwhat.toInt = 7 := il_eq c_30; exfalso; omega)
      have c_30 : ¬ vwhat.toInt = 7 := il_ne c_30
      refine lv_iload_n hx hb dX12_tells_46 rfl (lv_at hl 1 rfl) ?_
      refine lv_bipush (v := 8) hx hb dX12_tells_47 (by decide) ?_
      refine lv_icmp_ne (tgt := 75) hx hb dX12_tells_49 (by decide) (fun c_31 => ?_) (fun c_31 => by have c_31 : vwhat.toInt = 8 := il_eq c_31; exfalso; omega)
      have c_31 : ¬ vwhat.toInt = 8 := il_ne c_31
      refine lv_iconst (v := 0) hx hb dX12_tells_75 (by decide) ?_
      refine lv_iadd hx hb dX12_tells_76 ?_
      refine lq_i 0 (by decide) ?_
      refine lv_istore_n (lv' := [(2, .int 0), (0, .ref (ad 0)), (1, .int vwhat), (3, .int 1)]) hx hb dX12_tells_77 rfl hl (by decide) rfl (fun ls hl => ?_)
      refine lv_iinc (v := 2) (lv' := [(3, .int 2), (2, .int 0), (0, .ref (ad 0)), (1, .int vwhat)]) hx hb dX12_tells_78 hl (k := 3) rfl (by decide) (by decide) rfl (fun ls hl => ?_)
      refine lv_goto (tgt := 4) hx hb dX12_tells_81 (by decide) ?_
      exact j_2 _ _ hS (lv_sub hl [2, 3, 1, 0] rfl)
  refine lv_iload_n hx hb dX12_tells_4 rfl (lv_at hl 0 rfl) ?_
  refine lv_bipush (v := 6) hx hb dX12_tells_5 (by decide) ?_
  refine lv_icmp_ge (tgt := 84) hx hb dX12_tells_7 (by decide) (fun c => absurd c (by decide)) (fun _ => ?_)
  refine lv_iload_n hx hb dX12_tells_10 rfl (lv_at hl 1 rfl) ?_
  refine lv_iload_n hx hb dX12_tells_11 rfl (lv_at hl 3 rfl) ?_
  refine lv_bipush (v := 6) hx hb dX12_tells_12 (by decide) ?_
  refine lv_icmp_ne (tgt := 26) hx hb dX12_tells_14 (by decide) (fun c_32 => ?_) (fun c_32 => ?_)
  · have c_32 : ¬ vwhat.toInt = 6 := il_ne c_32
    refine lv_iload_n hx hb dX12_tells_26 rfl (lv_at hl 3 rfl) ?_
    refine lv_bipush (v := 7) hx hb dX12_tells_27 (by decide) ?_
    refine lv_icmp_ne (tgt := 46) hx hb dX12_tells_29 (by decide) (fun c_33 => ?_) (fun c_33 => ?_)
    · have c_33 : ¬ vwhat.toInt = 7 := il_ne c_33
      refine lv_iload_n hx hb dX12_tells_46 rfl (lv_at hl 3 rfl) ?_
      refine lv_bipush (v := 8) hx hb dX12_tells_47 (by decide) ?_
      refine lv_icmp_ne (tgt := 75) hx hb dX12_tells_49 (by decide) (fun c_34 => ?_) (fun c_34 => ?_)
      · have c_34 : ¬ vwhat.toInt = 8 := il_ne c_34
        refine lv_iconst (v := 0) hx hb dX12_tells_75 (by decide) ?_
        refine lv_iadd hx hb dX12_tells_76 ?_
        refine lq_i 0 (by decide) ?_
        refine lv_istore_n (lv' := [(2, .int 0), (3, .int 0), (0, .ref (ad 0)), (1, .int vwhat)]) hx hb dX12_tells_77 rfl hl (by decide) rfl (fun ls hl => ?_)
        refine lv_iinc (v := 1) (lv' := [(3, .int 1), (2, .int 0), (0, .ref (ad 0)), (1, .int vwhat)]) hx hb dX12_tells_78 hl (k := 1) rfl (by decide) (by decide) rfl (fun ls hl => ?_)
        refine lv_goto (tgt := 4) hx hb dX12_tells_81 (by decide) ?_
        exact j_1 _ _ hS (lv_sub hl [2, 3, 1, 0] rfl)
      · have c_34 : vwhat.toInt = 8 := il_eq c_34
        refine lv_iload_n hx hb dX12_tells_52 rfl (lv_at hl 0 rfl) ?_
        refine lv_iconst (v := 3) hx hb dX12_tells_53 (by decide) ?_
        refine lv_icmp_ge (tgt := 75) hx hb dX12_tells_54 (by decide) (fun c => absurd c (by decide)) (fun _ => ?_)
        refine lv_aload_n hx hb dX12_tells_57 rfl (lv_at hl 2 rfl) ?_
        refine va_get (D := (dC, dI)) (ci := 12) (v := .ref (ad 6)) (C := RX12) (T := TX12) (N := 46) hx hb hts (by decide +kernel) hown hK hP 0 rfl rfl 25 (by decide) (hts (.fieldLink RX12 52 "DearLettersModel" "kept" "[I") (by decide +kernel)) (fun _ h9 => h9) rfl dX12_tells_58 ?_
        refine lv_bipush (v := 64) hx hb dX12_tells_61 (by decide) ?_
        refine lv_iload_n hx hb dX12_tells_63 rfl (lv_at hl 0 rfl) ?_
        refine lv_imul hx hb dX12_tells_64 ?_
        refine lq_i 0 (by decide) ?_
        refine va_iald hx hb hK hP 6 5 rfl rfl (show vp_in 0 192 by unfold vp_in; decide) dX12_tells_65 ?_
        refine lq_i (-9) (by first | rfl | decide) ?_
        refine lv_bipush (v := (-9)) hx hb dX12_tells_66 (by decide) ?_
        refine lv_icmp_eq (tgt := 75) hx hb dX12_tells_68 (by decide) (fun _ => ?_) (fun c => absurd (by decide) c)
        refine lv_iconst (v := 0) hx hb dX12_tells_75 (by decide) ?_
        refine lv_iadd hx hb dX12_tells_76 ?_
        refine lq_i 0 (by decide) ?_
        refine lv_istore_n (lv' := [(2, .int 0), (3, .int 0), (0, .ref (ad 0)), (1, .int vwhat)]) hx hb dX12_tells_77 rfl hl (by decide) rfl (fun ls hl => ?_)
        refine lv_iinc (v := 1) (lv' := [(3, .int 1), (2, .int 0), (0, .ref (ad 0)), (1, .int vwhat)]) hx hb dX12_tells_78 hl (k := 1) rfl (by decide) (by decide) rfl (fun ls hl => ?_)
        refine lv_goto (tgt := 4) hx hb dX12_tells_81 (by decide) ?_
        exact j_1 _ _ hS (lv_sub hl [2, 3, 1, 0] rfl)
    · have c_33 : vwhat.toInt = 7 := il_eq c_33
      refine lv_iload_n hx hb dX12_tells_32 rfl (lv_at hl 0 rfl) ?_
      refine lv_iconst (v := 4) hx hb dX12_tells_33 (by decide) ?_
      refine lv_icmp_ge (tgt := 46) hx hb dX12_tells_34 (by decide) (fun c => absurd c (by decide)) (fun _ => ?_)
      refine lv_aload_n hx hb dX12_tells_37 rfl (lv_at hl 2 rfl) ?_
      refine va_get (D := (dC, dI)) (ci := 12) (v := .ref (ad 4)) (C := RX12) (T := TX12) (N := 46) hx hb hts (by decide +kernel) hown hK hP 0 rfl rfl 6 (by decide) (hts (.fieldLink RX12 22 "DearLettersModel" "lengths" "[I") (by decide +kernel)) (fun _ h9 => h9) rfl dX12_tells_38 ?_
      refine lv_iload_n hx hb dX12_tells_41 rfl (lv_at hl 0 rfl) ?_
      refine va_iald hx hb hK hP 4 3 rfl rfl (show vp_in 0 4 by unfold vp_in; decide) dX12_tells_42 ?_
      refine lq_i (-9) (by first | rfl | decide) ?_
      refine lv_if_ge (tgt := 71) hx hb dX12_tells_43 (by decide) (fun c => absurd c (by decide)) (fun _ => ?_)
      refine lv_iload_n hx hb dX12_tells_46 rfl (lv_at hl 3 rfl) ?_
      refine lv_bipush (v := 8) hx hb dX12_tells_47 (by decide) ?_
      refine lv_icmp_ne (tgt := 75) hx hb dX12_tells_49 (by decide) (fun c_35 => ?_) (fun c_35 => by have c_35 : vwhat.toInt = 8 := il_eq c_35; exfalso; omega)
      have c_35 : ¬ vwhat.toInt = 8 := il_ne c_35
      refine lv_iconst (v := 0) hx hb dX12_tells_75 (by decide) ?_
      refine lv_iadd hx hb dX12_tells_76 ?_
      refine lq_i 0 (by decide) ?_
      refine lv_istore_n (lv' := [(2, .int 0), (3, .int 0), (0, .ref (ad 0)), (1, .int vwhat)]) hx hb dX12_tells_77 rfl hl (by decide) rfl (fun ls hl => ?_)
      refine lv_iinc (v := 1) (lv' := [(3, .int 1), (2, .int 0), (0, .ref (ad 0)), (1, .int vwhat)]) hx hb dX12_tells_78 hl (k := 1) rfl (by decide) (by decide) rfl (fun ls hl => ?_)
      refine lv_goto (tgt := 4) hx hb dX12_tells_81 (by decide) ?_
      exact j_1 _ _ hS (lv_sub hl [2, 3, 1, 0] rfl)
  · have c_32 : vwhat.toInt = 6 := il_eq c_32
    refine lv_aload_n hx hb dX12_tells_17 rfl (lv_at hl 2 rfl) ?_
    refine va_get (D := (dC, dI)) (ci := 12) (v := .ref (ad 2)) (C := RX12) (T := TX12) (N := 46) hx hb hts (by decide +kernel) hown hK hP 0 rfl rfl 3 (by decide) (hts (.fieldLink RX12 13 "DearLettersModel" "sizes" "[I") (by decide +kernel)) (fun _ h9 => h9) rfl dX12_tells_18 ?_
    refine lv_iload_n hx hb dX12_tells_21 rfl (lv_at hl 0 rfl) ?_
    refine va_iald hx hb hK hP 2 1 rfl rfl (show vp_in 0 6 by unfold vp_in; decide) dX12_tells_22 ?_
    refine lq_i (-9) (by first | rfl | decide) ?_
    refine lv_if_ge (tgt := 71) hx hb dX12_tells_23 (by decide) (fun c => absurd c (by decide)) (fun _ => ?_)
    refine lv_iload_n hx hb dX12_tells_26 rfl (lv_at hl 3 rfl) ?_
    refine lv_bipush (v := 7) hx hb dX12_tells_27 (by decide) ?_
    refine lv_icmp_ne (tgt := 46) hx hb dX12_tells_29 (by decide) (fun c_36 => ?_) (fun c_36 => by have c_36 : vwhat.toInt = 7 := il_eq c_36; exfalso; omega)
    have c_36 : ¬ vwhat.toInt = 7 := il_ne c_36
    refine lv_iload_n hx hb dX12_tells_46 rfl (lv_at hl 3 rfl) ?_
    refine lv_bipush (v := 8) hx hb dX12_tells_47 (by decide) ?_
    refine lv_icmp_ne (tgt := 75) hx hb dX12_tells_49 (by decide) (fun c_37 => ?_) (fun c_37 => by have c_37 : vwhat.toInt = 8 := il_eq c_37; exfalso; omega)
    have c_37 : ¬ vwhat.toInt = 8 := il_ne c_37
    refine lv_iconst (v := 0) hx hb dX12_tells_75 (by decide) ?_
    refine lv_iadd hx hb dX12_tells_76 ?_
    refine lq_i 0 (by decide) ?_
    refine lv_istore_n (lv' := [(2, .int 0), (3, .int 0), (0, .ref (ad 0)), (1, .int vwhat)]) hx hb dX12_tells_77 rfl hl (by decide) rfl (fun ls hl => ?_)
    refine lv_iinc (v := 1) (lv' := [(3, .int 1), (2, .int 0), (0, .ref (ad 0)), (1, .int vwhat)]) hx hb dX12_tells_78 hl (k := 1) rfl (by decide) (by decide) rfl (fun ls hl => ?_)
    refine lv_goto (tgt := 4) hx hb dX12_tells_81 (by decide) ?_
    exact j_1 _ _ hS (lv_sub hl [2, 3, 1, 0] rfl)
