theorem dX11_isRow_0 : decode cX11_isRow 0 = .ok (.iload_n 0, 1) := by decide +kernel
theorem dX11_isRow_1 : decode cX11_isRow 1 = .ok (.ifCond .lt 13, 3) := by decide +kernel
theorem dX11_isRow_14 : decode cX11_isRow 14 = .ok (.iconst 0, 1) := by decide +kernel
theorem dX11_isRow_15 : decode cX11_isRow 15 = .ok (.ireturn, 1) := by decide +kernel
theorem dX11_isRow_4 : decode cX11_isRow 4 = .ok (.iload_n 0, 1) := by decide +kernel
theorem dX11_isRow_5 : decode cX11_isRow 5 = .ok (.bipush 6, 2) := by decide +kernel
theorem dX11_isRow_7 : decode cX11_isRow 7 = .ok (.if_icmp .ge 7, 3) := by decide +kernel
theorem dX11_isRow_10 : decode cX11_isRow 10 = .ok (.iconst 1, 1) := by decide +kernel
theorem dX11_isRow_11 : decode cX11_isRow 11 = .ok (.goto 4, 3) := by decide +kernel
set_option maxHeartbeats 4000000 in
set_option maxRecDepth 100000 in
/-- is it one of 6 -/
theorem cx_isRow (l : Launch) (dC : Nat → ClassId) (dI : Nat → Nat → Nat) (tys : List (ClassId × FieldType)) (H : Heap) (r : Int32) : Met l yX11_isRow wsX11_isRow ({ frames := 0, cells := 0, slots := 0, locals := 0 }) (va_Pc [.int r] (pb_P (dC, dI) vwCl tys H)) (va_Qi (fun (z : Int32) (_ : Unit) => z = if 0 ≤ r.toInt ∧ r.toInt < 6 then 1 else 0) (fun _ t => t.heap = H) (fun _ => False)) 0 0 (fun _ => False) := by
  refine Met.ofW (cc := cX11_isRow) (maxL := 1) (ret := (some .boolean)) (by decide) rfl ?_
  intro p e s m args below meth c s₁ B hml hv
  obtain ⟨rfl, hh, hK⟩ := hv
  have hx := B.exec
  have hb := B.bytes
  have hr := B.returns
  have hts := atoms_spec (ws := wsX11_isRow) B.pre
  have hown : s.vm.findClass RX11 = some m.cls := findClass_of_methodNamed B.named
  have hlocks := B.notSynchronized
  subst hh
  have hS : va_S (fun _ => False) s.heap s.heap [] := va_S.rf
  have hl := lv_entry ([.int r]) (n := 1) (Nat.le_of_ble_eq_true rfl)
  rw [lg_entry_eq]
  generalize (lg_sl ([.int r]) ++ List.replicate (1 - (lg_sl ([.int r])).length) Slot.unset).toArray = ls at hl ⊢
  have hl : lv_has ls 1 [(0, .int r)] := hl
  refine lv_iload_n hx hb dX11_isRow_0 rfl (lv_at hl 0 rfl) ?_
  refine lv_if_lt (tgt := 14) hx hb dX11_isRow_1 (by decide) (fun c_1 => ?_) (fun c_1 => ?_)
  · have c_1 : r.toInt < 0 := il_lt c_1
    refine lv_iconst (v := 0) hx hb dX11_isRow_14 (by decide) ?_
    exact W.zret (v := 0) (ty := .boolean) hx hb hr (by first | rfl | decide) (fun t ht hW => ⟨⟨0, (), rfl, (by (split <;> first | rfl | (exfalso; omega) | (split <;> first | rfl | (exfalso; omega) | (split <;> first | rfl | (exfalso; omega))))), ht⟩, hS.F ht⟩) hS.2.2 dX11_isRow_15
  · have c_1 : 0 ≤ r.toInt := il_nlt c_1
    refine lv_iload_n hx hb dX11_isRow_4 rfl (lv_at hl 0 rfl) ?_
    refine lv_bipush (v := 6) hx hb dX11_isRow_5 (by decide) ?_
    refine lv_icmp_ge (tgt := 14) hx hb dX11_isRow_7 (by decide) (fun c_2 => ?_) (fun c_2 => ?_)
    · have c_2 : 6 ≤ r.toInt := il_le c_2
      refine lv_iconst (v := 0) hx hb dX11_isRow_14 (by decide) ?_
      exact W.zret (v := 0) (ty := .boolean) hx hb hr (by first | rfl | decide) (fun t ht hW => ⟨⟨0, (), rfl, (by (split <;> first | rfl | (exfalso; omega) | (split <;> first | rfl | (exfalso; omega) | (split <;> first | rfl | (exfalso; omega))))), ht⟩, hS.F ht⟩) hS.2.2 dX11_isRow_15
    · have c_2 : r.toInt < 6 := il_nle c_2
      refine lv_iconst (v := 1) hx hb dX11_isRow_10 (by decide) ?_
      refine lv_goto (tgt := 15) hx hb dX11_isRow_11 (by decide) ?_
      exact W.zret (v := 1) (ty := .boolean) hx hb hr (by first | rfl | decide) (fun t ht hW => ⟨⟨1, (), rfl, (by (split <;> first | rfl | (exfalso; omega) | (split <;> first | rfl | (exfalso; omega) | (split <;> first | rfl | (exfalso; omega))))), ht⟩, hS.F ht⟩) hS.2.2 dX11_isRow_15
theorem dX11_isText_0 : decode cX11_isText 0 = .ok (.iload_n 0, 1) := by decide +kernel
theorem dX11_isText_1 : decode cX11_isText 1 = .ok (.ifCond .lt 12, 3) := by decide +kernel
theorem dX11_isText_13 : decode cX11_isText 13 = .ok (.iconst 0, 1) := by decide +kernel
theorem dX11_isText_14 : decode cX11_isText 14 = .ok (.ireturn, 1) := by decide +kernel
theorem dX11_isText_4 : decode cX11_isText 4 = .ok (.iload_n 0, 1) := by decide +kernel
theorem dX11_isText_5 : decode cX11_isText 5 = .ok (.iconst 4, 1) := by decide +kernel
theorem dX11_isText_6 : decode cX11_isText 6 = .ok (.if_icmp .ge 7, 3) := by decide +kernel
theorem dX11_isText_9 : decode cX11_isText 9 = .ok (.iconst 1, 1) := by decide +kernel
theorem dX11_isText_10 : decode cX11_isText 10 = .ok (.goto 4, 3) := by decide +kernel
set_option maxHeartbeats 4000000 in
set_option maxRecDepth 100000 in
/-- is it one of 4 -/
theorem cx_isText (l : Launch) (dC : Nat → ClassId) (dI : Nat → Nat → Nat) (tys : List (ClassId × FieldType)) (H : Heap) (r : Int32) : Met l yX11_isText wsX11_isText ({ frames := 0, cells := 0, slots := 0, locals := 0 }) (va_Pc [.int r] (pb_P (dC, dI) vwCl tys H)) (va_Qi (fun (z : Int32) (_ : Unit) => z = if 0 ≤ r.toInt ∧ r.toInt < 4 then 1 else 0) (fun _ t => t.heap = H) (fun _ => False)) 0 0 (fun _ => False) := by
  refine Met.ofW (cc := cX11_isText) (maxL := 1) (ret := (some .boolean)) (by decide) rfl ?_
  intro p e s m args below meth c s₁ B hml hv
  obtain ⟨rfl, hh, hK⟩ := hv
  have hx := B.exec
  have hb := B.bytes
  have hr := B.returns
  have hts := atoms_spec (ws := wsX11_isText) B.pre
  have hown : s.vm.findClass RX11 = some m.cls := findClass_of_methodNamed B.named
  have hlocks := B.notSynchronized
  subst hh
  have hS : va_S (fun _ => False) s.heap s.heap [] := va_S.rf
  have hl := lv_entry ([.int r]) (n := 1) (Nat.le_of_ble_eq_true rfl)
  rw [lg_entry_eq]
  generalize (lg_sl ([.int r]) ++ List.replicate (1 - (lg_sl ([.int r])).length) Slot.unset).toArray = ls at hl ⊢
  have hl : lv_has ls 1 [(0, .int r)] := hl
  refine lv_iload_n hx hb dX11_isText_0 rfl (lv_at hl 0 rfl) ?_
  refine lv_if_lt (tgt := 13) hx hb dX11_isText_1 (by decide) (fun c_1 => ?_) (fun c_1 => ?_)
  · have c_1 : r.toInt < 0 := il_lt c_1
    refine lv_iconst (v := 0) hx hb dX11_isText_13 (by decide) ?_
    exact W.zret (v := 0) (ty := .boolean) hx hb hr (by first | rfl | decide) (fun t ht hW => ⟨⟨0, (), rfl, (by (split <;> first | rfl | (exfalso; omega) | (split <;> first | rfl | (exfalso; omega) | (split <;> first | rfl | (exfalso; omega))))), ht⟩, hS.F ht⟩) hS.2.2 dX11_isText_14
  · have c_1 : 0 ≤ r.toInt := il_nlt c_1
    refine lv_iload_n hx hb dX11_isText_4 rfl (lv_at hl 0 rfl) ?_
    refine lv_iconst (v := 4) hx hb dX11_isText_5 (by decide) ?_
    refine lv_icmp_ge (tgt := 13) hx hb dX11_isText_6 (by decide) (fun c_2 => ?_) (fun c_2 => ?_)
    · have c_2 : 4 ≤ r.toInt := il_le c_2
      refine lv_iconst (v := 0) hx hb dX11_isText_13 (by decide) ?_
      exact W.zret (v := 0) (ty := .boolean) hx hb hr (by first | rfl | decide) (fun t ht hW => ⟨⟨0, (), rfl, (by (split <;> first | rfl | (exfalso; omega) | (split <;> first | rfl | (exfalso; omega) | (split <;> first | rfl | (exfalso; omega))))), ht⟩, hS.F ht⟩) hS.2.2 dX11_isText_14
    · have c_2 : r.toInt < 4 := il_nle c_2
      refine lv_iconst (v := 1) hx hb dX11_isText_9 (by decide) ?_
      refine lv_goto (tgt := 14) hx hb dX11_isText_10 (by decide) ?_
      exact W.zret (v := 1) (ty := .boolean) hx hb hr (by first | rfl | decide) (fun t ht hW => ⟨⟨1, (), rfl, (by (split <;> first | rfl | (exfalso; omega) | (split <;> first | rfl | (exfalso; omega) | (split <;> first | rfl | (exfalso; omega))))), ht⟩, hS.F ht⟩) hS.2.2 dX11_isText_14
theorem dX11_isPlace_0 : decode cX11_isPlace 0 = .ok (.iload_n 0, 1) := by decide +kernel
theorem dX11_isPlace_1 : decode cX11_isPlace 1 = .ok (.ifCond .lt 12, 3) := by decide +kernel
theorem dX11_isPlace_13 : decode cX11_isPlace 13 = .ok (.iconst 0, 1) := by decide +kernel
theorem dX11_isPlace_14 : decode cX11_isPlace 14 = .ok (.ireturn, 1) := by decide +kernel
theorem dX11_isPlace_4 : decode cX11_isPlace 4 = .ok (.iload_n 0, 1) := by decide +kernel
theorem dX11_isPlace_5 : decode cX11_isPlace 5 = .ok (.iconst 3, 1) := by decide +kernel
theorem dX11_isPlace_6 : decode cX11_isPlace 6 = .ok (.if_icmp .ge 7, 3) := by decide +kernel
theorem dX11_isPlace_9 : decode cX11_isPlace 9 = .ok (.iconst 1, 1) := by decide +kernel
theorem dX11_isPlace_10 : decode cX11_isPlace 10 = .ok (.goto 4, 3) := by decide +kernel
set_option maxHeartbeats 4000000 in
set_option maxRecDepth 100000 in
/-- is it one of 3 -/
theorem cx_isPlace (l : Launch) (dC : Nat → ClassId) (dI : Nat → Nat → Nat) (tys : List (ClassId × FieldType)) (H : Heap) (r : Int32) : Met l yX11_isPlace wsX11_isPlace ({ frames := 0, cells := 0, slots := 0, locals := 0 }) (va_Pc [.int r] (pb_P (dC, dI) vwCl tys H)) (va_Qi (fun (z : Int32) (_ : Unit) => z = if 0 ≤ r.toInt ∧ r.toInt < 3 then 1 else 0) (fun _ t => t.heap = H) (fun _ => False)) 0 0 (fun _ => False) := by
  refine Met.ofW (cc := cX11_isPlace) (maxL := 1) (ret := (some .boolean)) (by decide) rfl ?_
  intro p e s m args below meth c s₁ B hml hv
  obtain ⟨rfl, hh, hK⟩ := hv
  have hx := B.exec
  have hb := B.bytes
  have hr := B.returns
  have hts := atoms_spec (ws := wsX11_isPlace) B.pre
  have hown : s.vm.findClass RX11 = some m.cls := findClass_of_methodNamed B.named
  have hlocks := B.notSynchronized
  subst hh
  have hS : va_S (fun _ => False) s.heap s.heap [] := va_S.rf
  have hl := lv_entry ([.int r]) (n := 1) (Nat.le_of_ble_eq_true rfl)
  rw [lg_entry_eq]
  generalize (lg_sl ([.int r]) ++ List.replicate (1 - (lg_sl ([.int r])).length) Slot.unset).toArray = ls at hl ⊢
  have hl : lv_has ls 1 [(0, .int r)] := hl
  refine lv_iload_n hx hb dX11_isPlace_0 rfl (lv_at hl 0 rfl) ?_
  refine lv_if_lt (tgt := 13) hx hb dX11_isPlace_1 (by decide) (fun c_1 => ?_) (fun c_1 => ?_)
  · have c_1 : r.toInt < 0 := il_lt c_1
    refine lv_iconst (v := 0) hx hb dX11_isPlace_13 (by decide) ?_
    exact W.zret (v := 0) (ty := .boolean) hx hb hr (by first | rfl | decide) (fun t ht hW => ⟨⟨0, (), rfl, (by (split <;> first | rfl | (exfalso; omega) | (split <;> first | rfl | (exfalso; omega) | (split <;> first | rfl | (exfalso; omega))))), ht⟩, hS.F ht⟩) hS.2.2 dX11_isPlace_14
  · have c_1 : 0 ≤ r.toInt := il_nlt c_1
    refine lv_iload_n hx hb dX11_isPlace_4 rfl (lv_at hl 0 rfl) ?_
    refine lv_iconst (v := 3) hx hb dX11_isPlace_5 (by decide) ?_
    refine lv_icmp_ge (tgt := 13) hx hb dX11_isPlace_6 (by decide) (fun c_2 => ?_) (fun c_2 => ?_)
    · have c_2 : 3 ≤ r.toInt := il_le c_2
      refine lv_iconst (v := 0) hx hb dX11_isPlace_13 (by decide) ?_
      exact W.zret (v := 0) (ty := .boolean) hx hb hr (by first | rfl | decide) (fun t ht hW => ⟨⟨0, (), rfl, (by (split <;> first | rfl | (exfalso; omega) | (split <;> first | rfl | (exfalso; omega) | (split <;> first | rfl | (exfalso; omega))))), ht⟩, hS.F ht⟩) hS.2.2 dX11_isPlace_14
    · have c_2 : r.toInt < 3 := il_nle c_2
      refine lv_iconst (v := 1) hx hb dX11_isPlace_9 (by decide) ?_
      refine lv_goto (tgt := 14) hx hb dX11_isPlace_10 (by decide) ?_
      exact W.zret (v := 1) (ty := .boolean) hx hb hr (by first | rfl | decide) (fun t ht hW => ⟨⟨1, (), rfl, (by (split <;> first | rfl | (exfalso; omega) | (split <;> first | rfl | (exfalso; omega) | (split <;> first | rfl | (exfalso; omega))))), ht⟩, hS.F ht⟩) hS.2.2 dX11_isPlace_14
theorem dX6_isMissing_0 : decode cX6_isMissing 0 = .ok (.aload_n 0, 1) := by decide +kernel
theorem dX6_isMissing_1 : decode cX6_isMissing 1 = .ok (.getfield 15, 3) := by decide +kernel
theorem dX6_isMissing_4 : decode cX6_isMissing 4 = .ok (.ifCond .ge 7, 3) := by decide +kernel
theorem dX6_isMissing_7 : decode cX6_isMissing 7 = .ok (.iconst 1, 1) := by decide +kernel
theorem dX6_isMissing_8 : decode cX6_isMissing 8 = .ok (.goto 4, 3) := by decide +kernel
theorem dX6_isMissing_12 : decode cX6_isMissing 12 = .ok (.ireturn, 1) := by decide +kernel
set_option maxHeartbeats 4000000 in
set_option maxRecDepth 100000 in
/-- Row.isMissing(): a size of -1 -/
theorem cx_Row_isMissing (l : Launch) (dC : Nat → ClassId) (dI : Nat → Nat → Nat) (ws : va_W) (tys : List (ClassId × FieldType)) (H : Heap) (hP : va_P (dC, dI) vwCl ws H) (k a q : Nat) (he : ws[k]? = some (a, .inr (6, [.ref q, .int (-1)]))) : Met l yX6_isMissing wsX6_isMissing ({ frames := 0, cells := 0, slots := 0, locals := 0 }) (va_Pc [.ref a] (pb_P (dC, dI) vwCl tys H)) (va_Qi (fun (z : Int32) (_ : Unit) => z = 1) (fun _ t => t.heap = H) (fun _ => False)) 0 0 (fun _ => False) := by
  refine Met.ofW (cc := cX6_isMissing) (maxL := 1) (ret := (some .boolean)) (by decide) rfl ?_
  intro p e s m args below meth c s₁ B hml hv
  obtain ⟨rfl, hh, hK⟩ := hv
  have hx := B.exec
  have hb := B.bytes
  have hr := B.returns
  have hts := atoms_spec (ws := wsX6_isMissing) B.pre
  have hown : s.vm.findClass RX6 = some m.cls := findClass_of_methodNamed B.named
  have hlocks := B.notSynchronized
  subst hh
  have hS : va_S (fun _ => False) s.heap s.heap [] := va_S.rf
  have hl := lv_entry ([.ref a]) (n := 1) (Nat.le_of_ble_eq_true rfl)
  rw [lg_entry_eq]
  generalize (lg_sl ([.ref a]) ++ List.replicate (1 - (lg_sl ([.ref a])).length) Slot.unset).toArray = ls at hl ⊢
  have hl : lv_has ls 1 [(0, .ref a)] := hl
  refine lv_aload_n hx hb dX6_isMissing_0 rfl (lv_at hl 0 rfl) ?_
  refine va_get (D := (dC, dI)) (ci := 6) (v := .int (-1)) (C := RX6) (T := TX6) (N := 2) hx hb hts (by decide +kernel) hown hK hP k he rfl 1 (by decide) (hts (.fieldLink RX6 15 "DearLetters$Row" "size" "I") (by decide +kernel)) (fun _ h9 => h9) rfl dX6_isMissing_1 ?_
  refine lv_if_ge (tgt := 11) hx hb dX6_isMissing_4 (by decide) (fun c => absurd c (by decide)) (fun _ => ?_)
  refine lv_iconst (v := 1) hx hb dX6_isMissing_7 (by decide) ?_
  refine lv_goto (tgt := 12) hx hb dX6_isMissing_8 (by decide) ?_
  exact W.zret (v := 1) (ty := .boolean) hx hb hr (by first | rfl | decide) (fun t ht hW => ⟨⟨1, (), rfl, rfl, ht⟩, hS.F ht⟩) hS.2.2 dX6_isMissing_12
theorem dX9_isMissing_0 : decode cX9_isMissing 0 = .ok (.aload_n 0, 1) := by decide +kernel
theorem dX9_isMissing_1 : decode cX9_isMissing 1 = .ok (.getfield 15, 3) := by decide +kernel
theorem dX9_isMissing_4 : decode cX9_isMissing 4 = .ok (.ifCond .ge 7, 3) := by decide +kernel
theorem dX9_isMissing_7 : decode cX9_isMissing 7 = .ok (.iconst 1, 1) := by decide +kernel
theorem dX9_isMissing_8 : decode cX9_isMissing 8 = .ok (.goto 4, 3) := by decide +kernel
theorem dX9_isMissing_12 : decode cX9_isMissing 12 = .ok (.ireturn, 1) := by decide +kernel
set_option maxHeartbeats 4000000 in
set_option maxRecDepth 100000 in
/-- Text.isMissing(): a size of -1 -/
theorem cx_Text_isMissing (l : Launch) (dC : Nat → ClassId) (dI : Nat → Nat → Nat) (ws : va_W) (tys : List (ClassId × FieldType)) (H : Heap) (hP : va_P (dC, dI) vwCl ws H) (k a q : Nat) (he : ws[k]? = some (a, .inr (9, [.ref q, .int (-1)]))) : Met l yX9_isMissing wsX9_isMissing ({ frames := 0, cells := 0, slots := 0, locals := 0 }) (va_Pc [.ref a] (pb_P (dC, dI) vwCl tys H)) (va_Qi (fun (z : Int32) (_ : Unit) => z = 1) (fun _ t => t.heap = H) (fun _ => False)) 0 0 (fun _ => False) := by
  refine Met.ofW (cc := cX9_isMissing) (maxL := 1) (ret := (some .boolean)) (by decide) rfl ?_
  intro p e s m args below meth c s₁ B hml hv
  obtain ⟨rfl, hh, hK⟩ := hv
  have hx := B.exec
  have hb := B.bytes
  have hr := B.returns
  have hts := atoms_spec (ws := wsX9_isMissing) B.pre
  have hown : s.vm.findClass RX9 = some m.cls := findClass_of_methodNamed B.named
  have hlocks := B.notSynchronized
  subst hh
  have hS : va_S (fun _ => False) s.heap s.heap [] := va_S.rf
  have hl := lv_entry ([.ref a]) (n := 1) (Nat.le_of_ble_eq_true rfl)
  rw [lg_entry_eq]
  generalize (lg_sl ([.ref a]) ++ List.replicate (1 - (lg_sl ([.ref a])).length) Slot.unset).toArray = ls at hl ⊢
  have hl : lv_has ls 1 [(0, .ref a)] := hl
  refine lv_aload_n hx hb dX9_isMissing_0 rfl (lv_at hl 0 rfl) ?_
  refine va_get (D := (dC, dI)) (ci := 9) (v := .int (-1)) (C := RX9) (T := TX9) (N := 2) hx hb hts (by decide +kernel) hown hK hP k he rfl 1 (by decide) (hts (.fieldLink RX9 15 "DearLetters$Text" "size" "I") (by decide +kernel)) (fun _ h9 => h9) rfl dX9_isMissing_1 ?_
  refine lv_if_ge (tgt := 11) hx hb dX9_isMissing_4 (by decide) (fun c => absurd c (by decide)) (fun _ => ?_)
  refine lv_iconst (v := 1) hx hb dX9_isMissing_7 (by decide) ?_
  refine lv_goto (tgt := 12) hx hb dX9_isMissing_8 (by decide) ?_
  exact W.zret (v := 1) (ty := .boolean) hx hb hr (by first | rfl | decide) (fun t ht hW => ⟨⟨1, (), rfl, rfl, ht⟩, hS.F ht⟩) hS.2.2 dX9_isMissing_12
theorem dX11_found_0 : decode cX11_found 0 = .ok (.aload_n 0, 1) := by decide +kernel
theorem dX11_found_1 : decode cX11_found 1 = .ok (.iload_n 1, 1) := by decide +kernel
theorem dX11_found_2 : decode cX11_found 2 = .ok (.putfield 366, 3) := by decide +kernel
theorem dX11_found_5 : decode cX11_found 5 = .ok (.aload_n 0, 1) := by decide +kernel
theorem dX11_found_6 : decode cX11_found 6 = .ok (.getfield 62, 3) := by decide +kernel
theorem dX11_found_9 : decode cX11_found 9 = .ok (.iload_n 1, 1) := by decide +kernel
theorem dX11_found_10 : decode cX11_found 10 = .ok (.dup2, 1) := by decide +kernel
theorem dX11_found_11 : decode cX11_found 11 = .ok (.iaload, 1) := by decide +kernel
theorem dX11_found_12 : decode cX11_found 12 = .ok (.iconst 1, 1) := by decide +kernel
theorem dX11_found_13 : decode cX11_found 13 = .ok (.iadd, 1) := by decide +kernel
theorem dX11_found_14 : decode cX11_found 14 = .ok (.iastore, 1) := by decide +kernel
theorem dX11_found_15 : decode cX11_found 15 = .ok (.bipush (-3), 2) := by decide +kernel
theorem dX11_found_17 : decode cX11_found 17 = .ok (.ireturn, 1) := by decide +kernel
set_option maxHeartbeats 4000000 in
set_option maxRecDepth 100000 in
/-- found(w): what it answers -/
theorem cx_found (l : Launch) (dC : Nat → ClassId) (dI : Nat → Nat → Nat) (cs : Nat → ClassId) (ad : Nat → Nat) (H : Heap) (hP : va_P (dC, dI) vwCl (wX cs ad) H) (hD0 : va_D (fun _ => True) (wX cs ad)) (w : Int32) (hin : vp_in w 6) : Met l yX11_found wsX11_found ({ frames := 0, cells := 0, slots := 0, locals := 0 }) (va_Pc [.ref (ad 0), .int w] (pb_P (dC, dI) vwCl (tyX cs) H)) (va_Qi (fun (z : Int32) (_ : Unit) => z = (-3)) (fun _ _ => True) (va_A (wX cs ad) H.size)) 0 0 (va_A (wX cs ad) H.size) := by
  refine Met.ofW (cc := cX11_found) (maxL := 2) (ret := (some .int)) (by decide) rfl ?_
  intro p e s m args below meth c s₁ B hml hv
  obtain ⟨rfl, hh, hK⟩ := hv
  have hx := B.exec
  have hb := B.bytes
  have hr := B.returns
  have hts := atoms_spec (ws := wsX11_found) B.pre
  have hown : s.vm.findClass RX11 = some m.cls := findClass_of_methodNamed B.named
  have hlocks := B.notSynchronized
  subst hh
  have hD := hD0.self (sz := s.heap.size)
  have hA : ∀ q : Nat, s.heap.size ≤ q → va_A (wX cs ad) s.heap.size q := fun q h => Or.inr h
  have hS : va_S (va_A (wX cs ad) s.heap.size) s.heap s.heap [] := va_S.rf
  have hl := lv_entry ([.ref (ad 0), .int w]) (n := 2) (Nat.le_of_ble_eq_true rfl)
  rw [lg_entry_eq]
  generalize (lg_sl ([.ref (ad 0), .int w]) ++ List.replicate (2 - (lg_sl ([.ref (ad 0), .int w])).length) Slot.unset).toArray = ls at hl ⊢
  have hl : lv_has ls 2 [(0, .ref (ad 0)), (1, .int w)] := hl
  have hi0 := vp_in_iff.mp hin
  refine lv_aload_n hx hb dX11_found_0 rfl (lv_at hl 0 rfl) ?_
  refine lv_iload_n hx hb dX11_found_1 rfl (lv_at hl 1 rfl) ?_
  refine va_put (D := (dC, dI)) (ci := 11) (v := .int w) (ty := .int) (C := RX11) (T := TX11) (N := 11) hx hb hts (by decide +kernel) tyX11 tyX11_ok nmX11 hown hK hP hD hS 0 rfl rfl 9 (by decide) (hts (.fieldLink RX11 366 "DearLetters" "latest" "I") (by decide +kernel)) (fun _ h9 => h9) rfl (by decide +kernel) (by first | rfl | decide) (by first | rfl | decide) (Nat.le_of_ble_eq_true rfl) dX11_found_2 (fun H locs hP hD hS => ?_)
  refine lv_aload_n hx hb dX11_found_5 rfl (lv_at hl 0 rfl) ?_
  refine va_get (D := (dC, dI)) (ci := 11) (v := .ref (ad 7)) (C := RX11) (T := TX11) (N := 11) hx hb hts (by decide +kernel) hown hK hP 0 rfl rfl 8 (by decide) (hts (.fieldLink RX11 62 "DearLetters" "tally" "[I") (by decide +kernel)) (fun _ h9 => h9) rfl dX11_found_6 ?_
  refine lv_iload_n hx hb dX11_found_9 rfl (lv_at hl 1 rfl) ?_
  refine lv_dup2_11 hx hb dX11_found_10 rfl rfl ?_
  refine va_iald hx hb hK hP 7 3 rfl rfl (show vp_in w 6 from vi_of (by omega) (by omega)) dX11_found_11 ?_
  refine lq_i 0 (by first | rfl | decide) ?_
  refine lv_iconst (v := 1) hx hb dX11_found_12 (by decide) ?_
  refine lv_iadd hx hb dX11_found_13 ?_
  refine lq_i 1 (by decide) ?_
  refine va_iast hx hb hK hP hD hS 7 3 rfl rfl (show vp_in w 6 from vi_of (by omega) (by omega)) dX11_found_14 (fun H locs hP hD hS => ?_)
  refine lv_bipush (v := (-3)) hx hb dX11_found_15 (by decide) ?_
  exact W.iret (v := (-3)) hx hb hr (fun t ht hW => ⟨⟨(-3), (), rfl, rfl, trivial⟩, hS.F ht⟩) hS.2.2 dX11_found_17
theorem dX10_has_0 : decode cX10_has 0 = .ok (.iload_n 1, 1) := by decide +kernel
theorem dX10_has_1 : decode cX10_has 1 = .ok (.ifCond .lt 15, 3) := by decide +kernel
theorem dX10_has_16 : decode cX10_has 16 = .ok (.iconst 0, 1) := by decide +kernel
theorem dX10_has_17 : decode cX10_has 17 = .ok (.ireturn, 1) := by decide +kernel
theorem dX10_has_4 : decode cX10_has 4 = .ok (.iload_n 1, 1) := by decide +kernel
theorem dX10_has_5 : decode cX10_has 5 = .ok (.aload_n 0, 1) := by decide +kernel
theorem dX10_has_6 : decode cX10_has 6 = .ok (.getfield 34, 3) := by decide +kernel
theorem dX10_has_9 : decode cX10_has 9 = .ok (.if_icmp .ge 7, 3) := by decide +kernel
set_option maxHeartbeats 4000000 in
set_option maxRecDepth 100000 in
/-- Town.has: nobody yet -/
theorem cx_has (l : Launch) (dC : Nat → ClassId) (dI : Nat → Nat → Nat) (cs : Nat → ClassId) (ad : Nat → Nat) (H : Heap) (hP : va_P (dC, dI) vwCl (wX cs ad) H) (x : Int32) : Met l yX10_has wsX10_has ({ frames := 0, cells := 0, slots := 0, locals := 0 }) (va_Pc [.ref (ad 4), .int x] (pb_P (dC, dI) vwCl (tyX cs) H)) (va_Qi (fun (z : Int32) (_ : Unit) => z = 0) (fun _ t => t.heap = H) (fun _ => False)) 0 0 (fun _ => False) := by
  refine Met.ofW (cc := cX10_has) (maxL := 2) (ret := (some .boolean)) (by decide) rfl ?_
  intro p e s m args below meth c s₁ B hml hv
  obtain ⟨rfl, hh, hK⟩ := hv
  have hx := B.exec
  have hb := B.bytes
  have hr := B.returns
  have hts := atoms_spec (ws := wsX10_has) B.pre
  have hown : s.vm.findClass RX10 = some m.cls := findClass_of_methodNamed B.named
  have hlocks := B.notSynchronized
  subst hh
  have hS : va_S (fun _ => False) s.heap s.heap [] := va_S.rf
  have hl := lv_entry ([.ref (ad 4), .int x]) (n := 2) (Nat.le_of_ble_eq_true rfl)
  rw [lg_entry_eq]
  generalize (lg_sl ([.ref (ad 4), .int x]) ++ List.replicate (2 - (lg_sl ([.ref (ad 4), .int x])).length) Slot.unset).toArray = ls at hl ⊢
  have hl : lv_has ls 2 [(0, .ref (ad 4)), (1, .int x)] := hl
  refine lv_iload_n hx hb dX10_has_0 rfl (lv_at hl 1 rfl) ?_
  refine lv_if_lt (tgt := 16) hx hb dX10_has_1 (by decide) (fun c_1 => ?_) (fun c_1 => ?_)
  · have c_1 : x.toInt < 0 := il_lt c_1
    refine lv_iconst (v := 0) hx hb dX10_has_16 (by decide) ?_
    exact W.zret (v := 0) (ty := .boolean) hx hb hr (by first | rfl | decide) (fun t ht hW => ⟨⟨0, (), rfl, rfl, ht⟩, hS.F ht⟩) hS.2.2 dX10_has_17
  · have c_1 : 0 ≤ x.toInt := il_nlt c_1
    refine lv_iload_n hx hb dX10_has_4 rfl (lv_at hl 1 rfl) ?_
    refine lv_aload_n hx hb dX10_has_5 rfl (lv_at hl 0 rfl) ?_
    refine va_get (D := (dC, dI)) (ci := 10) (v := .int 0) (C := RX10) (T := TX10) (N := 8) hx hb hts (by decide +kernel) hown hK hP 4 rfl rfl 6 (by decide) (hts (.fieldLink RX10 34 "DearLetters$Town" "bearers" "I") (by decide +kernel)) (fun _ h9 => h9) rfl dX10_has_6 ?_
    refine lv_icmp_ge (tgt := 16) hx hb dX10_has_9 (by decide) (fun c_2 => ?_) (fun c_2 => by have c_2 : x.toInt < 0 := il_nle c_2; exfalso; omega)
    have c_2 : 0 ≤ x.toInt := il_le c_2
    refine lv_iconst (v := 0) hx hb dX10_has_16 (by decide) ?_
    exact W.zret (v := 0) (ty := .boolean) hx hb hr (by first | rfl | decide) (fun t ht hW => ⟨⟨0, (), rfl, rfl, ht⟩, hS.F ht⟩) hS.2.2 dX10_has_17
theorem dX11_isPair_0 : decode cX11_isPair 0 = .ok (.aload_n 0, 1) := by decide +kernel
theorem dX11_isPair_1 : decode cX11_isPair 1 = .ok (.getfield 30, 3) := by decide +kernel
theorem dX11_isPair_4 : decode cX11_isPair 4 = .ok (.iload_n 1, 1) := by decide +kernel
theorem dX11_isPair_5 : decode cX11_isPair 5 = .ok (.invokevirtual 142, 3) := by decide +kernel
theorem dX11_isPair_8 : decode cX11_isPair 8 = .ok (.ifCond .eq 23, 3) := by decide +kernel
theorem dX11_isPair_31 : decode cX11_isPair 31 = .ok (.iconst 0, 1) := by decide +kernel
theorem dX11_isPair_32 : decode cX11_isPair 32 = .ok (.ireturn, 1) := by decide +kernel
set_option maxRecDepth 20000 in
theorem ggX11_isPair_X10_has : GoodIn wsX11_isPair wsX10_has := goodIn_r _ [6, 7, 19, 20, 21, 22, 23, 24, 25, 26] (by decide +kernel) (by decide +kernel)
set_option maxRecDepth 20000 in
theorem gX11_isPair_X10_has : GoodIn wsX11_isPair (wsV RX11 142 RX10 yX10_has wsX10_has) := goodIn_app (goodIn_of _ (by decide +kernel)) ggX11_isPair_X10_has
set_option maxHeartbeats 4000000 in
set_option maxRecDepth 100000 in
/-- isPair: no -/
theorem cx_isPair (l : Launch) (dC : Nat → ClassId) (dI : Nat → Nat → Nat) (cs : Nat → ClassId) (ad : Nat → Nat) (H : Heap) (hP : va_P (dC, dI) vwCl (wX cs ad) H) (x : Int32) (y : Int32) : Met l yX11_isPair wsX11_isPair ({ frames := 1, cells := 0, slots := 0, locals := 21 }) (va_Pc [.ref (ad 0), .int x, .int y] (pb_P (dC, dI) vwCl (tyX cs) H)) (va_Qi (fun (z : Int32) (_ : Unit) => z = 0) (fun _ t => t.heap = H) (fun _ => False)) 0 0 (fun _ => False) := by
  refine Met.ofW (cc := cX11_isPair) (maxL := 3) (ret := (some .boolean)) (by decide) rfl ?_
  intro p e s m args below meth c s₁ B hml hv
  obtain ⟨rfl, hh, hK⟩ := hv
  have hx := B.exec
  have hb := B.bytes
  have hr := B.returns
  have hts := atoms_spec (ws := wsX11_isPair) B.pre
  have hown : s.vm.findClass RX11 = some m.cls := findClass_of_methodNamed B.named
  have hlocks := B.notSynchronized
  subst hh
  have hS : va_S (fun _ => False) s.heap s.heap [] := va_S.rf
  have hl := lv_entry ([.ref (ad 0), .int x, .int y]) (n := 3) (Nat.le_of_ble_eq_true rfl)
  rw [lg_entry_eq]
  generalize (lg_sl ([.ref (ad 0), .int x, .int y]) ++ List.replicate (3 - (lg_sl ([.ref (ad 0), .int x, .int y])).length) Slot.unset).toArray = ls at hl ⊢
  have hl : lv_has ls 3 [(0, .ref (ad 0)), (1, .int x), (2, .int y)] := hl
  refine lv_aload_n hx hb dX11_isPair_0 rfl (lv_at hl 0 rfl) ?_
  refine va_get (D := (dC, dI)) (ci := 11) (v := .ref (ad 4)) (C := RX11) (T := TX11) (N := 11) hx hb hts (by decide +kernel) hown hK hP 0 rfl rfl 3 (by decide) (hts (.fieldLink RX11 30 "DearLetters" "town" "LDearLetters$Town;") (by decide +kernel)) (fun _ h9 => h9) rfl dX11_isPair_1 ?_
  refine lv_iload_n hx hb dX11_isPair_4 rfl (lv_at hl 1 rfl) ?_
  refine cr_i (va_runV (As := [.int x]) (rest := []) ⟨hx, hb, hml, hown, hts⟩ (cx_has l dC dI cs ad s.heap hP x) (cwV 1 hts gX11_isPair_X10_has rfl rfl rfl (by decide +kernel) ⟨Nat.le_of_ble_eq_true rfl, Nat.le_of_ble_eq_true rfl⟩) ⟨pb_c, va_recv hK hP (ci := 10) (q0 := 4) rfl rfl, pb_m hK⟩ rfl rfl hl.1 rfl (lv_room (Nat.le_of_ble_eq_true rfl)) dX11_isPair_5 ⟨Nat.zero_le _, Nat.zero_le _⟩) hS (fun r_1 hw_1 locs hS => ?_)
  obtain rfl : r_1 = 0 := hw_1
  refine lv_if_eq (tgt := 31) hx hb dX11_isPair_8 (by decide) (fun _ => ?_) (fun c => absurd (by decide) c)
  refine lv_iconst (v := 0) hx hb dX11_isPair_31 (by decide) ?_
  exact W.zret (v := 0) (ty := .boolean) hx hb hr (by first | rfl | decide) (fun t ht hW => ⟨⟨0, (), rfl, rfl, ht⟩, hS.F ht⟩) hS.2.2 dX11_isPair_32
theorem dX11_refusedRow_0 : decode cX11_refusedRow 0 = .ok (.iload_n 1, 1) := by decide +kernel
theorem dX11_refusedRow_1 : decode cX11_refusedRow 1 = .ok (.invokestatic 69, 3) := by decide +kernel
theorem dX11_refusedRow_4 : decode cX11_refusedRow 4 = .ok (.ifCond .ne 5, 3) := by decide +kernel
theorem dX11_refusedRow_9 : decode cX11_refusedRow 9 = .ok (.aload_n 0, 1) := by decide +kernel
theorem dX11_refusedRow_10 : decode cX11_refusedRow 10 = .ok (.getfield 11, 3) := by decide +kernel
theorem dX11_refusedRow_13 : decode cX11_refusedRow 13 = .ok (.iload_n 1, 1) := by decide +kernel
theorem dX11_refusedRow_14 : decode cX11_refusedRow 14 = .ok (.aaload, 1) := by decide +kernel
theorem dX11_refusedRow_15 : decode cX11_refusedRow 15 = .ok (.invokevirtual 98, 3) := by decide +kernel
theorem dX11_refusedRow_18 : decode cX11_refusedRow 18 = .ok (.ifCond .eq 11, 3) := by decide +kernel
theorem dX11_refusedRow_21 : decode cX11_refusedRow 21 = .ok (.aload_n 0, 1) := by decide +kernel
theorem dX11_refusedRow_22 : decode cX11_refusedRow 22 = .ok (.iconst 1, 1) := by decide +kernel
theorem dX11_refusedRow_23 : decode cX11_refusedRow 23 = .ok (.invokevirtual 73, 3) := by decide +kernel
theorem dX11_refusedRow_26 : decode cX11_refusedRow 26 = .ok (.goto 4, 3) := by decide +kernel
theorem dX11_refusedRow_30 : decode cX11_refusedRow 30 = .ok (.ireturn, 1) := by decide +kernel
theorem dX11_refusedRow_7 : decode cX11_refusedRow 7 = .ok (.iconst (-1), 1) := by decide +kernel
theorem dX11_refusedRow_8 : decode cX11_refusedRow 8 = .ok (.ireturn, 1) := by decide +kernel
set_option maxRecDepth 20000 in
theorem ggX11_refusedRow_X11_isRow : GoodIn wsX11_refusedRow wsX11_isRow := goodIn_r _ [5] (by decide +kernel) (by decide +kernel)
set_option maxRecDepth 20000 in
theorem gX11_refusedRow_X11_isRow : GoodIn wsX11_refusedRow (va_wsS RX11 69 yX11_isRow wsX11_isRow) := goodIn_app (goodIn_of _ (by decide +kernel)) ggX11_refusedRow_X11_isRow
set_option maxRecDepth 20000 in
theorem ggX11_refusedRow_X6_isMissing : GoodIn wsX11_refusedRow wsX6_isMissing := goodIn_r _ [10, 11, 29, 30] (by decide +kernel) (by decide +kernel)
set_option maxRecDepth 20000 in
theorem gX11_refusedRow_X6_isMissing : GoodIn wsX11_refusedRow (wsV RX11 98 RX6 yX6_isMissing wsX6_isMissing) := goodIn_app (goodIn_of _ (by decide +kernel)) ggX11_refusedRow_X6_isMissing
set_option maxRecDepth 20000 in
theorem ggX11_refusedRow_X11_found : GoodIn wsX11_refusedRow wsX11_found := goodIn_r _ [15, 16, 17, 18, 19, 20, 21, 22, 23, 24, 25, 26, 27, 28] (by decide +kernel) (by decide +kernel)
set_option maxRecDepth 20000 in
theorem gX11_refusedRow_X11_found : GoodIn wsX11_refusedRow (wsV RX11 73 RX11 yX11_found wsX11_found) := goodIn_app (goodIn_of _ (by decide +kernel)) ggX11_refusedRow_X11_found
set_option maxHeartbeats 4000000 in
set_option maxRecDepth 100000 in
/-- refusedRow -/
theorem cx_refusedRow (l : Launch) (dC : Nat → ClassId) (dI : Nat → Nat → Nat) (cs : Nat → ClassId) (ad : Nat → Nat) (H : Heap) (hP : va_P (dC, dI) vwCl (wX cs ad) H) (hD0 : va_D (fun _ => True) (wX cs ad)) (r : Int32) : Met l yX11_refusedRow wsX11_refusedRow ({ frames := 1, cells := 0, slots := 0, locals := 21 }) (va_Pc [.ref (ad 0), .int r] (pb_P (dC, dI) vwCl (tyX cs) H)) (va_Qi (fun (z : Int32) (_ : Unit) => z = if 0 ≤ r.toInt ∧ r.toInt < 6 then (-3) else (-1)) (fun _ _ => True) (va_A (wX cs ad) H.size)) 0 0 (va_A (wX cs ad) H.size) := by
  refine Met.ofW (cc := cX11_refusedRow) (maxL := 2) (ret := (some .int)) (by decide) rfl ?_
  intro p e s m args below meth c s₁ B hml hv
  obtain ⟨rfl, hh, hK⟩ := hv
  have hx := B.exec
  have hb := B.bytes
  have hr := B.returns
  have hts := atoms_spec (ws := wsX11_refusedRow) B.pre
  have hown : s.vm.findClass RX11 = some m.cls := findClass_of_methodNamed B.named
  have hlocks := B.notSynchronized
  subst hh
  have hD := hD0.self (sz := s.heap.size)
  have hA : ∀ q : Nat, s.heap.size ≤ q → va_A (wX cs ad) s.heap.size q := fun q h => Or.inr h
  have hS : va_S (va_A (wX cs ad) s.heap.size) s.heap s.heap [] := va_S.rf
  have hl := lv_entry ([.ref (ad 0), .int r]) (n := 2) (Nat.le_of_ble_eq_true rfl)
  rw [lg_entry_eq]
  generalize (lg_sl ([.ref (ad 0), .int r]) ++ List.replicate (2 - (lg_sl ([.ref (ad 0), .int r])).length) Slot.unset).toArray = ls at hl ⊢
  have hl : lv_has ls 2 [(0, .ref (ad 0)), (1, .int r)] := hl
  refine lv_iload_n hx hb dX11_refusedRow_0 rfl (lv_at hl 1 rfl) ?_
  refine cr_i (va_runS (As := [.int r]) (rest := []) ⟨hx, hb, hml, hown, hts⟩ (cx_isRow l dC dI (tyX cs) s.heap r) (va_cwS 1 hts gX11_refusedRow_X11_isRow rfl rfl rfl (by decide +kernel) ⟨Nat.le_of_ble_eq_true rfl, Nat.le_of_ble_eq_true rfl⟩) ⟨pb_c, pb_m hK⟩ rfl rfl hl.1 rfl (lv_room (Nat.le_of_ble_eq_true rfl)) dX11_refusedRow_1 ⟨Nat.zero_le _, Nat.zero_le _⟩) hS (fun r_1 hw_1 locs hS => ?_)
  obtain ⟨c_1, rfl⟩ | ⟨c_1, rfl⟩ := ic_of hw_1
  · have c_1 : 0 ≤ r.toInt ∧ r.toInt < 6 := c_1
    refine lv_if_ne (tgt := 9) hx hb dX11_refusedRow_4 (by decide) (fun _ => ?_) (fun c => absurd c (by decide))
    refine lv_aload_n hx hb dX11_refusedRow_9 rfl (lv_at hl 0 rfl) ?_
    refine va_get (D := (dC, dI)) (ci := 11) (v := .ref (ad 1)) (C := RX11) (T := TX11) (N := 11) hx hb hts (by decide +kernel) hown hK hP 0 rfl rfl 0 (by decide) (hts (.fieldLink RX11 11 "DearLetters" "rows" "[LDearLetters$Row;") (by decide +kernel)) (fun _ h9 => h9) rfl dX11_refusedRow_10 ?_
    refine lv_iload_n hx hb dX11_refusedRow_13 rfl (lv_at hl 1 rfl) ?_
    have hj_2 := vi_lt (n := 6) (show vp_in r 6 from vi_of (by omega) (by omega))
    refine va_aldq hx hb hK hP 1 0 rfl rfl (show vp_in r 6 from vi_of (by omega) (by omega)) dX11_refusedRow_14 ?_
    refine lq_v (.ref (ad (8 + r.toNatClampNeg))) rfl ?_
    refine cr_i (va_runV (As := []) (rest := []) ⟨hx, hb, hml, hown, hts⟩ (cx_Row_isMissing l dC dI (wX cs ad) (tyX cs) s.heap hP (8 + r.toNatClampNeg) (ad (8 + r.toNatClampNeg)) (ad (21 + r.toNatClampNeg)) (wX_row cs ad _ hj_2)) (cwV 0 hts gX11_refusedRow_X6_isMissing rfl rfl rfl (by decide +kernel) ⟨Nat.le_of_ble_eq_true rfl, Nat.le_of_ble_eq_true rfl⟩) ⟨pb_c, va_recv hK hP (ci := 6) (q0 := (8 + r.toNatClampNeg)) rfl (wX_row cs ad _ hj_2), pb_m hK⟩ rfl rfl hl.1 rfl (lv_room (Nat.le_of_ble_eq_true rfl)) dX11_refusedRow_15 ⟨Nat.zero_le _, Nat.zero_le _⟩) hS (fun r_3 hw_3 locs hS => ?_)
    obtain rfl : r_3 = 1 := hw_3
    refine lv_if_eq (tgt := 29) hx hb dX11_refusedRow_18 (by decide) (fun c => absurd c (by decide)) (fun _ => ?_)
    refine lv_aload_n hx hb dX11_refusedRow_21 rfl (lv_at hl 0 rfl) ?_
    refine lv_iconst (v := 1) hx hb dX11_refusedRow_22 (by decide) ?_
    refine va_calli (va_runV (As := [.int 1]) (rest := []) ⟨hx, hb, hml, hown, hts⟩ (cx_found l dC dI cs ad s.heap hP hD0 1 (show vp_in 1 6 by unfold vp_in; decide)) (cwV 1 hts gX11_refusedRow_X11_found rfl rfl rfl (by decide +kernel) ⟨Nat.le_of_ble_eq_true rfl, Nat.le_of_ble_eq_true rfl⟩) ⟨pb_c, va_recv hK hP (ci := 11) (q0 := 0) rfl rfl, pb_m hK⟩ rfl rfl hl.1 rfl (lv_room (Nat.le_of_ble_eq_true rfl)) dX11_refusedRow_23 ⟨Nat.zero_le _, Nat.zero_le _⟩) hS (fun q _ h => h) (fun q h => h) (fun r_4 u t H1 locs ht hvm hw_4 hB hz1 hk1 hS => ?_)
    obtain rfl : r_4 = (-3) := hw_4
    refine lv_goto (tgt := 30) hx hb dX11_refusedRow_26 (by decide) ?_
    exact W.iret (v := (-3)) hx hb hr (fun t ht hW => ⟨⟨(-3), (), rfl, (by (split <;> first | rfl | (exfalso; omega) | (split <;> first | rfl | (exfalso; omega) | (split <;> first | rfl | (exfalso; omega))))), trivial⟩, hS.F ht⟩) hS.2.2 dX11_refusedRow_30
  · have c_1 : ¬ (0 ≤ r.toInt ∧ r.toInt < 6) := c_1
    refine lv_if_ne (tgt := 9) hx hb dX11_refusedRow_4 (by decide) (fun c => absurd (by decide) c) (fun _ => ?_)
    refine lv_iconst (v := (-1)) hx hb dX11_refusedRow_7 (by decide) ?_
    exact W.iret (v := (-1)) hx hb hr (fun t ht hW => ⟨⟨(-1), (), rfl, (by (split <;> first | rfl | (exfalso; omega) | (split <;> first | rfl | (exfalso; omega) | (split <;> first | rfl | (exfalso; omega))))), trivial⟩, hS.F ht⟩) hS.2.2 dX11_refusedRow_8
theorem dX11_refusedText_0 : decode cX11_refusedText 0 = .ok (.iload_n 1, 1) := by decide +kernel
theorem dX11_refusedText_1 : decode cX11_refusedText 1 = .ok (.invokestatic 112, 3) := by decide +kernel
theorem dX11_refusedText_4 : decode cX11_refusedText 4 = .ok (.ifCond .ne 5, 3) := by decide +kernel
theorem dX11_refusedText_9 : decode cX11_refusedText 9 = .ok (.aload_n 0, 1) := by decide +kernel
theorem dX11_refusedText_10 : decode cX11_refusedText 10 = .ok (.getfield 17, 3) := by decide +kernel
theorem dX11_refusedText_13 : decode cX11_refusedText 13 = .ok (.iload_n 1, 1) := by decide +kernel
theorem dX11_refusedText_14 : decode cX11_refusedText 14 = .ok (.aaload, 1) := by decide +kernel
theorem dX11_refusedText_15 : decode cX11_refusedText 15 = .ok (.invokevirtual 382, 3) := by decide +kernel
theorem dX11_refusedText_18 : decode cX11_refusedText 18 = .ok (.ifCond .eq 11, 3) := by decide +kernel
theorem dX11_refusedText_21 : decode cX11_refusedText 21 = .ok (.aload_n 0, 1) := by decide +kernel
theorem dX11_refusedText_22 : decode cX11_refusedText 22 = .ok (.iconst 1, 1) := by decide +kernel
theorem dX11_refusedText_23 : decode cX11_refusedText 23 = .ok (.invokevirtual 73, 3) := by decide +kernel
theorem dX11_refusedText_26 : decode cX11_refusedText 26 = .ok (.goto 4, 3) := by decide +kernel
theorem dX11_refusedText_30 : decode cX11_refusedText 30 = .ok (.ireturn, 1) := by decide +kernel
theorem dX11_refusedText_7 : decode cX11_refusedText 7 = .ok (.iconst (-1), 1) := by decide +kernel
theorem dX11_refusedText_8 : decode cX11_refusedText 8 = .ok (.ireturn, 1) := by decide +kernel
set_option maxRecDepth 20000 in
theorem ggX11_refusedText_X11_isText : GoodIn wsX11_refusedText wsX11_isText := goodIn_r _ [5] (by decide +kernel) (by decide +kernel)
set_option maxRecDepth 20000 in
theorem gX11_refusedText_X11_isText : GoodIn wsX11_refusedText (va_wsS RX11 112 yX11_isText wsX11_isText) := goodIn_app (goodIn_of _ (by decide +kernel)) ggX11_refusedText_X11_isText
set_option maxRecDepth 20000 in
theorem ggX11_refusedText_X9_isMissing : GoodIn wsX11_refusedText wsX9_isMissing := goodIn_r _ [10, 11, 29, 30] (by decide +kernel) (by decide +kernel)
set_option maxRecDepth 20000 in
theorem gX11_refusedText_X9_isMissing : GoodIn wsX11_refusedText (wsV RX11 382 RX9 yX9_isMissing wsX9_isMissing) := goodIn_app (goodIn_of _ (by decide +kernel)) ggX11_refusedText_X9_isMissing
set_option maxRecDepth 20000 in
theorem ggX11_refusedText_X11_found : GoodIn wsX11_refusedText wsX11_found := goodIn_r _ [15, 16, 17, 18, 19, 20, 21, 22, 23, 24, 25, 26, 27, 28] (by decide +kernel) (by decide +kernel)
set_option maxRecDepth 20000 in
theorem gX11_refusedText_X11_found : GoodIn wsX11_refusedText (wsV RX11 73 RX11 yX11_found wsX11_found) := goodIn_app (goodIn_of _ (by decide +kernel)) ggX11_refusedText_X11_found
set_option maxHeartbeats 4000000 in
set_option maxRecDepth 100000 in
/-- refusedText -/
theorem cx_refusedText (l : Launch) (dC : Nat → ClassId) (dI : Nat → Nat → Nat) (cs : Nat → ClassId) (ad : Nat → Nat) (H : Heap) (hP : va_P (dC, dI) vwCl (wX cs ad) H) (hD0 : va_D (fun _ => True) (wX cs ad)) (r : Int32) : Met l yX11_refusedText wsX11_refusedText ({ frames := 1, cells := 0, slots := 0, locals := 21 }) (va_Pc [.ref (ad 0), .int r] (pb_P (dC, dI) vwCl (tyX cs) H)) (va_Qi (fun (z : Int32) (_ : Unit) => z = if 0 ≤ r.toInt ∧ r.toInt < 4 then (-3) else (-1)) (fun _ _ => True) (va_A (wX cs ad) H.size)) 0 0 (va_A (wX cs ad) H.size) := by
  refine Met.ofW (cc := cX11_refusedText) (maxL := 2) (ret := (some .int)) (by decide) rfl ?_
  intro p e s m args below meth c s₁ B hml hv
  obtain ⟨rfl, hh, hK⟩ := hv
  have hx := B.exec
  have hb := B.bytes
  have hr := B.returns
  have hts := atoms_spec (ws := wsX11_refusedText) B.pre
  have hown : s.vm.findClass RX11 = some m.cls := findClass_of_methodNamed B.named
  have hlocks := B.notSynchronized
  subst hh
  have hD := hD0.self (sz := s.heap.size)
  have hA : ∀ q : Nat, s.heap.size ≤ q → va_A (wX cs ad) s.heap.size q := fun q h => Or.inr h
  have hS : va_S (va_A (wX cs ad) s.heap.size) s.heap s.heap [] := va_S.rf
  have hl := lv_entry ([.ref (ad 0), .int r]) (n := 2) (Nat.le_of_ble_eq_true rfl)
  rw [lg_entry_eq]
  generalize (lg_sl ([.ref (ad 0), .int r]) ++ List.replicate (2 - (lg_sl ([.ref (ad 0), .int r])).length) Slot.unset).toArray = ls at hl ⊢
  have hl : lv_has ls 2 [(0, .ref (ad 0)), (1, .int r)] := hl
  refine lv_iload_n hx hb dX11_refusedText_0 rfl (lv_at hl 1 rfl) ?_
  refine cr_i (va_runS (As := [.int r]) (rest := []) ⟨hx, hb, hml, hown, hts⟩ (cx_isText l dC dI (tyX cs) s.heap r) (va_cwS 1 hts gX11_refusedText_X11_isText rfl rfl rfl (by decide +kernel) ⟨Nat.le_of_ble_eq_true rfl, Nat.le_of_ble_eq_true rfl⟩) ⟨pb_c, pb_m hK⟩ rfl rfl hl.1 rfl (lv_room (Nat.le_of_ble_eq_true rfl)) dX11_refusedText_1 ⟨Nat.zero_le _, Nat.zero_le _⟩) hS (fun r_1 hw_1 locs hS => ?_)
  obtain ⟨c_1, rfl⟩ | ⟨c_1, rfl⟩ := ic_of hw_1
  · have c_1 : 0 ≤ r.toInt ∧ r.toInt < 4 := c_1
    refine lv_if_ne (tgt := 9) hx hb dX11_refusedText_4 (by decide) (fun _ => ?_) (fun c => absurd c (by decide))
    refine lv_aload_n hx hb dX11_refusedText_9 rfl (lv_at hl 0 rfl) ?_
    refine va_get (D := (dC, dI)) (ci := 11) (v := .ref (ad 2)) (C := RX11) (T := TX11) (N := 11) hx hb hts (by decide +kernel) hown hK hP 0 rfl rfl 1 (by decide) (hts (.fieldLink RX11 17 "DearLetters" "texts" "[LDearLetters$Text;") (by decide +kernel)) (fun _ h9 => h9) rfl dX11_refusedText_10 ?_
    refine lv_iload_n hx hb dX11_refusedText_13 rfl (lv_at hl 1 rfl) ?_
    have hj_2 := vi_lt (n := 4) (show vp_in r 4 from vi_of (by omega) (by omega))
    refine va_aldq hx hb hK hP 2 1 rfl rfl (show vp_in r 4 from vi_of (by omega) (by omega)) dX11_refusedText_14 ?_
    refine lq_v (.ref (ad (14 + r.toNatClampNeg))) rfl ?_
    refine cr_i (va_runV (As := []) (rest := []) ⟨hx, hb, hml, hown, hts⟩ (cx_Text_isMissing l dC dI (wX cs ad) (tyX cs) s.heap hP (14 + r.toNatClampNeg) (ad (14 + r.toNatClampNeg)) (ad (27 + r.toNatClampNeg)) (wX_text cs ad _ hj_2)) (cwV 0 hts gX11_refusedText_X9_isMissing rfl rfl rfl (by decide +kernel) ⟨Nat.le_of_ble_eq_true rfl, Nat.le_of_ble_eq_true rfl⟩) ⟨pb_c, va_recv hK hP (ci := 9) (q0 := (14 + r.toNatClampNeg)) rfl (wX_text cs ad _ hj_2), pb_m hK⟩ rfl rfl hl.1 rfl (lv_room (Nat.le_of_ble_eq_true rfl)) dX11_refusedText_15 ⟨Nat.zero_le _, Nat.zero_le _⟩) hS (fun r_3 hw_3 locs hS => ?_)
    obtain rfl : r_3 = 1 := hw_3
    refine lv_if_eq (tgt := 29) hx hb dX11_refusedText_18 (by decide) (fun c => absurd c (by decide)) (fun _ => ?_)
    refine lv_aload_n hx hb dX11_refusedText_21 rfl (lv_at hl 0 rfl) ?_
    refine lv_iconst (v := 1) hx hb dX11_refusedText_22 (by decide) ?_
    refine va_calli (va_runV (As := [.int 1]) (rest := []) ⟨hx, hb, hml, hown, hts⟩ (cx_found l dC dI cs ad s.heap hP hD0 1 (show vp_in 1 6 by unfold vp_in; decide)) (cwV 1 hts gX11_refusedText_X11_found rfl rfl rfl (by decide +kernel) ⟨Nat.le_of_ble_eq_true rfl, Nat.le_of_ble_eq_true rfl⟩) ⟨pb_c, va_recv hK hP (ci := 11) (q0 := 0) rfl rfl, pb_m hK⟩ rfl rfl hl.1 rfl (lv_room (Nat.le_of_ble_eq_true rfl)) dX11_refusedText_23 ⟨Nat.zero_le _, Nat.zero_le _⟩) hS (fun q _ h => h) (fun q h => h) (fun r_4 u t H1 locs ht hvm hw_4 hB hz1 hk1 hS => ?_)
    obtain rfl : r_4 = (-3) := hw_4
    refine lv_goto (tgt := 30) hx hb dX11_refusedText_26 (by decide) ?_
    exact W.iret (v := (-3)) hx hb hr (fun t ht hW => ⟨⟨(-3), (), rfl, (by (split <;> first | rfl | (exfalso; omega) | (split <;> first | rfl | (exfalso; omega) | (split <;> first | rfl | (exfalso; omega))))), trivial⟩, hS.F ht⟩) hS.2.2 dX11_refusedText_30
  · have c_1 : ¬ (0 ≤ r.toInt ∧ r.toInt < 4) := c_1
    refine lv_if_ne (tgt := 9) hx hb dX11_refusedText_4 (by decide) (fun c => absurd (by decide) c) (fun _ => ?_)
    refine lv_iconst (v := (-1)) hx hb dX11_refusedText_7 (by decide) ?_
    exact W.iret (v := (-1)) hx hb hr (fun t ht hW => ⟨⟨(-1), (), rfl, (by (split <;> first | rfl | (exfalso; omega) | (split <;> first | rfl | (exfalso; omega) | (split <;> first | rfl | (exfalso; omega))))), trivial⟩, hS.F ht⟩) hS.2.2 dX11_refusedText_8
theorem dX11_refusedPlace_0 : decode cX11_refusedPlace 0 = .ok (.aload_n 0, 1) := by decide +kernel
theorem dX11_refusedPlace_1 : decode cX11_refusedPlace 1 = .ok (.iload_n 1, 1) := by decide +kernel
theorem dX11_refusedPlace_2 : decode cX11_refusedPlace 2 = .ok (.invokevirtual 92, 3) := by decide +kernel
theorem dX11_refusedPlace_5 : decode cX11_refusedPlace 5 = .ok (.istore_n 3, 1) := by decide +kernel
theorem dX11_refusedPlace_6 : decode cX11_refusedPlace 6 = .ok (.iload_n 3, 1) := by decide +kernel
theorem dX11_refusedPlace_7 : decode cX11_refusedPlace 7 = .ok (.ifCond .eq 5, 3) := by decide +kernel
theorem dX11_refusedPlace_10 : decode cX11_refusedPlace 10 = .ok (.iload_n 3, 1) := by decide +kernel
theorem dX11_refusedPlace_11 : decode cX11_refusedPlace 11 = .ok (.ireturn, 1) := by decide +kernel
set_option maxRecDepth 20000 in
theorem ggX11_refusedPlace_X11_refusedRow : GoodIn wsX11_refusedPlace wsX11_refusedRow := goodIn_r _ [7, 1, 8, 9, 6, 10, 11, 12, 13, 14, 15, 16, 17, 18, 19, 20, 21, 22, 23, 24, 25, 26, 27, 28, 29, 30, 31, 32, 33, 34, 35] (by decide +kernel) (by decide +kernel)
set_option maxRecDepth 20000 in
theorem gX11_refusedPlace_X11_refusedRow : GoodIn wsX11_refusedPlace (wsV RX11 92 RX11 yX11_refusedRow wsX11_refusedRow) := goodIn_app (goodIn_of _ (by decide +kernel)) ggX11_refusedPlace_X11_refusedRow
set_option maxHeartbeats 4000000 in
set_option maxRecDepth 100000 in
/-- refusedPlace -/
theorem cx_refusedPlace (l : Launch) (dC : Nat → ClassId) (dI : Nat → Nat → Nat) (cs : Nat → ClassId) (ad : Nat → Nat) (H : Heap) (hP : va_P (dC, dI) vwCl (wX cs ad) H) (hD0 : va_D (fun _ => True) (wX cs ad)) (r : Int32) (i : Int32) : Met l yX11_refusedPlace wsX11_refusedPlace ({ frames := 2, cells := 0, slots := 0, locals := 42 }) (va_Pc [.ref (ad 0), .int r, .int i] (pb_P (dC, dI) vwCl (tyX cs) H)) (va_Qi (fun (z : Int32) (_ : Unit) => z = if 0 ≤ r.toInt ∧ r.toInt < 6 then (-3) else (-1)) (fun _ _ => True) (va_A (wX cs ad) H.size)) 0 0 (va_A (wX cs ad) H.size) := by
  refine Met.ofW (cc := cX11_refusedPlace) (maxL := 4) (ret := (some .int)) (by decide) rfl ?_
  intro p e s m args below meth c s₁ B hml hv
  obtain ⟨rfl, hh, hK⟩ := hv
  have hx := B.exec
  have hb := B.bytes
  have hr := B.returns
  have hts := atoms_spec (ws := wsX11_refusedPlace) B.pre
  have hown : s.vm.findClass RX11 = some m.cls := findClass_of_methodNamed B.named
  have hlocks := B.notSynchronized
  subst hh
  have hD := hD0.self (sz := s.heap.size)
  have hA : ∀ q : Nat, s.heap.size ≤ q → va_A (wX cs ad) s.heap.size q := fun q h => Or.inr h
  have hS : va_S (va_A (wX cs ad) s.heap.size) s.heap s.heap [] := va_S.rf
  have hl := lv_entry ([.ref (ad 0), .int r, .int i]) (n := 4) (Nat.le_of_ble_eq_true rfl)
  rw [lg_entry_eq]
  generalize (lg_sl ([.ref (ad 0), .int r, .int i]) ++ List.replicate (4 - (lg_sl ([.ref (ad 0), .int r, .int i])).length) Slot.unset).toArray = ls at hl ⊢
  have hl : lv_has ls 4 [(0, .ref (ad 0)), (1, .int r), (2, .int i)] := hl
  refine lv_aload_n hx hb dX11_refusedPlace_0 rfl (lv_at hl 0 rfl) ?_
  refine lv_iload_n hx hb dX11_refusedPlace_1 rfl (lv_at hl 1 rfl) ?_
  refine va_calli (va_runV (As := [.int r]) (rest := []) ⟨hx, hb, hml, hown, hts⟩ (cx_refusedRow l dC dI cs ad s.heap hP hD0 r) (cwV 1 hts gX11_refusedPlace_X11_refusedRow rfl rfl rfl (by decide +kernel) ⟨Nat.le_of_ble_eq_true rfl, Nat.le_of_ble_eq_true rfl⟩) ⟨pb_c, va_recv hK hP (ci := 11) (q0 := 0) rfl rfl, pb_m hK⟩ rfl rfl hl.1 rfl (lv_room (Nat.le_of_ble_eq_true rfl)) dX11_refusedPlace_2 ⟨Nat.zero_le _, Nat.zero_le _⟩) hS (fun q _ h => h) (fun q h => h) (fun r_1 u t H1 locs ht hvm hw_1 hB hz1 hk1 hS => ?_)
  obtain ⟨c_1, rfl⟩ | ⟨c_1, rfl⟩ := ic_of hw_1
  · have c_1 : 0 ≤ r.toInt ∧ r.toInt < 6 := c_1
    refine lv_istore_n (lv' := [(3, .int (-3)), (0, .ref (ad 0)), (1, .int r), (2, .int i)]) hx hb dX11_refusedPlace_5 rfl hl (by decide) rfl (fun ls hl => ?_)
    refine lv_iload_n hx hb dX11_refusedPlace_6 rfl (lv_at hl 0 rfl) ?_
    refine lv_if_eq (tgt := 12) hx hb dX11_refusedPlace_7 (by decide) (fun c => absurd c (by decide)) (fun _ => ?_)
    refine lv_iload_n hx hb dX11_refusedPlace_10 rfl (lv_at hl 0 rfl) ?_
    exact W.iret (v := (-3)) hx hb hr (fun t ht hW => ⟨⟨(-3), (), rfl, (by (split <;> first | rfl | (exfalso; omega) | (split <;> first | rfl | (exfalso; omega) | (split <;> first | rfl | (exfalso; omega))))), trivial⟩, hS.F ht⟩) hS.2.2 dX11_refusedPlace_11
  · have c_1 : ¬ (0 ≤ r.toInt ∧ r.toInt < 6) := c_1
    refine lv_istore_n (lv' := [(3, .int (-1)), (0, .ref (ad 0)), (1, .int r), (2, .int i)]) hx hb dX11_refusedPlace_5 rfl hl (by decide) rfl (fun ls hl => ?_)
    refine lv_iload_n hx hb dX11_refusedPlace_6 rfl (lv_at hl 0 rfl) ?_
    refine lv_if_eq (tgt := 12) hx hb dX11_refusedPlace_7 (by decide) (fun c => absurd c (by decide)) (fun _ => ?_)
    refine lv_iload_n hx hb dX11_refusedPlace_10 rfl (lv_at hl 0 rfl) ?_
    exact W.iret (v := (-1)) hx hb hr (fun t ht hW => ⟨⟨(-1), (), rfl, (by (split <;> first | rfl | (exfalso; omega) | (split <;> first | rfl | (exfalso; omega) | (split <;> first | rfl | (exfalso; omega))))), trivial⟩, hS.F ht⟩) hS.2.2 dX11_refusedPlace_11
theorem dX11_refusedLetter_0 : decode cX11_refusedLetter 0 = .ok (.iload_n 1, 1) := by decide +kernel
theorem dX11_refusedLetter_1 : decode cX11_refusedLetter 1 = .ok (.ifCond .lt 7, 3) := by decide +kernel
theorem dX11_refusedLetter_8 : decode cX11_refusedLetter 8 = .ok (.iconst (-1), 1) := by decide +kernel
theorem dX11_refusedLetter_9 : decode cX11_refusedLetter 9 = .ok (.ireturn, 1) := by decide +kernel
theorem dX11_refusedLetter_4 : decode cX11_refusedLetter 4 = .ok (.iload_n 2, 1) := by decide +kernel
theorem dX11_refusedLetter_5 : decode cX11_refusedLetter 5 = .ok (.ifCond .eq 5, 3) := by decide +kernel
theorem dX11_refusedLetter_10 : decode cX11_refusedLetter 10 = .ok (.iload_n 1, 1) := by decide +kernel
theorem dX11_refusedLetter_11 : decode cX11_refusedLetter 11 = .ok (.aload_n 0, 1) := by decide +kernel
theorem dX11_refusedLetter_12 : decode cX11_refusedLetter 12 = .ok (.getfield 30, 3) := by decide +kernel
theorem dX11_refusedLetter_15 : decode cX11_refusedLetter 15 = .ok (.getfield 166, 3) := by decide +kernel
theorem dX11_refusedLetter_18 : decode cX11_refusedLetter 18 = .ok (.getfield 185, 3) := by decide +kernel
theorem dX11_refusedLetter_21 : decode cX11_refusedLetter 21 = .ok (.if_icmp .lt 11, 3) := by decide +kernel
theorem dX11_refusedLetter_24 : decode cX11_refusedLetter 24 = .ok (.aload_n 0, 1) := by decide +kernel
theorem dX11_refusedLetter_25 : decode cX11_refusedLetter 25 = .ok (.iconst 2, 1) := by decide +kernel
theorem dX11_refusedLetter_26 : decode cX11_refusedLetter 26 = .ok (.invokevirtual 73, 3) := by decide +kernel
theorem dX11_refusedLetter_29 : decode cX11_refusedLetter 29 = .ok (.goto 4, 3) := by decide +kernel
theorem dX11_refusedLetter_33 : decode cX11_refusedLetter 33 = .ok (.ireturn, 1) := by decide +kernel
set_option maxRecDepth 20000 in
theorem ggX11_refusedLetter_X11_found : GoodIn wsX11_refusedLetter wsX11_found := goodIn_r _ [8, 9, 10, 11, 12, 13, 14, 15, 16, 17, 18, 19, 20, 21] (by decide +kernel) (by decide +kernel)
set_option maxRecDepth 20000 in
theorem gX11_refusedLetter_X11_found : GoodIn wsX11_refusedLetter (wsV RX11 73 RX11 yX11_found wsX11_found) := goodIn_app (goodIn_of _ (by decide +kernel)) ggX11_refusedLetter_X11_found
set_option maxHeartbeats 4000000 in
set_option maxRecDepth 100000 in
/-- refusedLetter, else well -/
theorem cx_refusedLetter0 (l : Launch) (dC : Nat → ClassId) (dI : Nat → Nat → Nat) (cs : Nat → ClassId) (ad : Nat → Nat) (H : Heap) (hP : va_P (dC, dI) vwCl (wX cs ad) H) (hD0 : va_D (fun _ => True) (wX cs ad)) (k : Int32) : Met l yX11_refusedLetter wsX11_refusedLetter ({ frames := 1, cells := 0, slots := 0, locals := 21 }) (va_Pc [.ref (ad 0), .int k, .int 0] (pb_P (dC, dI) vwCl (tyX cs) H)) (va_Qi (fun (z : Int32) (_ : Unit) => z = if 0 ≤ k.toInt then (-3) else (-1)) (fun _ _ => True) (va_A (wX cs ad) H.size)) 0 0 (va_A (wX cs ad) H.size) := by
  refine Met.ofW (cc := cX11_refusedLetter) (maxL := 3) (ret := (some .int)) (by decide) rfl ?_
  intro p e s m args below meth c s₁ B hml hv
  obtain ⟨rfl, hh, hK⟩ := hv
  have hx := B.exec
  have hb := B.bytes
  have hr := B.returns
  have hts := atoms_spec (ws := wsX11_refusedLetter) B.pre
  have hown : s.vm.findClass RX11 = some m.cls := findClass_of_methodNamed B.named
  have hlocks := B.notSynchronized
  subst hh
  have hD := hD0.self (sz := s.heap.size)
  have hA : ∀ q : Nat, s.heap.size ≤ q → va_A (wX cs ad) s.heap.size q := fun q h => Or.inr h
  have hS : va_S (va_A (wX cs ad) s.heap.size) s.heap s.heap [] := va_S.rf
  have hl := lv_entry ([.ref (ad 0), .int k, .int 0]) (n := 3) (Nat.le_of_ble_eq_true rfl)
  rw [lg_entry_eq]
  generalize (lg_sl ([.ref (ad 0), .int k, .int 0]) ++ List.replicate (3 - (lg_sl ([.ref (ad 0), .int k, .int 0])).length) Slot.unset).toArray = ls at hl ⊢
  have hl : lv_has ls 3 [(0, .ref (ad 0)), (1, .int k), (2, .int 0)] := hl
  refine lv_iload_n hx hb dX11_refusedLetter_0 rfl (lv_at hl 1 rfl) ?_
  refine lv_if_lt (tgt := 8) hx hb dX11_refusedLetter_1 (by decide) (fun c_1 => ?_) (fun c_1 => ?_)
  · have c_1 : k.toInt < 0 := il_lt c_1
    refine lv_iconst (v := (-1)) hx hb dX11_refusedLetter_8 (by decide) ?_
    exact W.iret (v := (-1)) hx hb hr (fun t ht hW => ⟨⟨(-1), (), rfl, (by (split <;> first | rfl | (exfalso; omega) | (split <;> first | rfl | (exfalso; omega) | (split <;> first | rfl | (exfalso; omega))))), trivial⟩, hS.F ht⟩) hS.2.2 dX11_refusedLetter_9
  · have c_1 : 0 ≤ k.toInt := il_nlt c_1
    refine lv_iload_n hx hb dX11_refusedLetter_4 rfl (lv_at hl 2 rfl) ?_
    refine lv_if_eq (tgt := 10) hx hb dX11_refusedLetter_5 (by decide) (fun _ => ?_) (fun c => absurd (by decide) c)
    refine lv_iload_n hx hb dX11_refusedLetter_10 rfl (lv_at hl 1 rfl) ?_
    refine lv_aload_n hx hb dX11_refusedLetter_11 rfl (lv_at hl 0 rfl) ?_
    refine va_get (D := (dC, dI)) (ci := 11) (v := .ref (ad 4)) (C := RX11) (T := TX11) (N := 11) hx hb hts (by decide +kernel) hown hK hP 0 rfl rfl 3 (by decide) (hts (.fieldLink RX11 30 "DearLetters" "town" "LDearLetters$Town;") (by decide +kernel)) (fun _ h9 => h9) rfl dX11_refusedLetter_12 ?_
    refine va_get (D := (dC, dI)) (ci := 10) (v := .ref (ad 5)) (C := RX10) (T := TX10) (N := 8) hx hb hts (by decide +kernel) hown hK hP 4 rfl rfl 3 (by decide) (hts (.fieldLink RX11 166 "DearLetters$Town" "now" "LDearLetters$Standing;") (by decide +kernel)) (fun _ h9 => h9) rfl dX11_refusedLetter_15 ?_
    refine va_get (D := (dC, dI)) (ci := 8) (v := .int 0) (C := RX8) (T := TX8) (N := 6) hx hb hts (by decide +kernel) hown hK hP 5 rfl rfl 4 (by decide) (hts (.fieldLink RX11 185 "DearLetters$Standing" "sent" "I") (by decide +kernel)) (fun _ h9 => h9) rfl dX11_refusedLetter_18 ?_
    refine lv_icmp_lt (tgt := 32) hx hb dX11_refusedLetter_21 (by decide) (fun c_2 => by have c_2 : k.toInt < 0 := il_lt c_2; exfalso; omega) (fun c_2 => ?_)
    have c_2 : 0 ≤ k.toInt := il_nlt c_2
    refine lv_aload_n hx hb dX11_refusedLetter_24 rfl (lv_at hl 0 rfl) ?_
    refine lv_iconst (v := 2) hx hb dX11_refusedLetter_25 (by decide) ?_
    refine va_calli (va_runV (As := [.int 2]) (rest := []) ⟨hx, hb, hml, hown, hts⟩ (cx_found l dC dI cs ad s.heap hP hD0 2 (show vp_in 2 6 by unfold vp_in; decide)) (cwV 1 hts gX11_refusedLetter_X11_found rfl rfl rfl (by decide +kernel) ⟨Nat.le_of_ble_eq_true rfl, Nat.le_of_ble_eq_true rfl⟩) ⟨pb_c, va_recv hK hP (ci := 11) (q0 := 0) rfl rfl, pb_m hK⟩ rfl rfl hl.1 rfl (lv_room (Nat.le_of_ble_eq_true rfl)) dX11_refusedLetter_26 ⟨Nat.zero_le _, Nat.zero_le _⟩) hS (fun q _ h => h) (fun q h => h) (fun r_3 u t H1 locs ht hvm hw_3 hB hz1 hk1 hS => ?_)
    obtain rfl : r_3 = (-3) := hw_3
    refine lv_goto (tgt := 33) hx hb dX11_refusedLetter_29 (by decide) ?_
    exact W.iret (v := (-3)) hx hb hr (fun t ht hW => ⟨⟨(-3), (), rfl, (by (split <;> first | rfl | (exfalso; omega) | (split <;> first | rfl | (exfalso; omega) | (split <;> first | rfl | (exfalso; omega))))), trivial⟩, hS.F ht⟩) hS.2.2 dX11_refusedLetter_33
set_option maxHeartbeats 4000000 in
set_option maxRecDepth 100000 in
/-- refusedLetter, else bad -/
theorem cx_refusedLetter1 (l : Launch) (dC : Nat → ClassId) (dI : Nat → Nat → Nat) (cs : Nat → ClassId) (ad : Nat → Nat) (H : Heap) (hP : va_P (dC, dI) vwCl (wX cs ad) H) (hD0 : va_D (fun _ => True) (wX cs ad)) (k : Int32) : Met l yX11_refusedLetter wsX11_refusedLetter ({ frames := 0, cells := 0, slots := 0, locals := 0 }) (va_Pc [.ref (ad 0), .int k, .int 1] (pb_P (dC, dI) vwCl (tyX cs) H)) (va_Qi (fun (z : Int32) (_ : Unit) => z = (-1)) (fun _ _ => True) (va_A (wX cs ad) H.size)) 0 0 (va_A (wX cs ad) H.size) := by
  refine Met.ofW (cc := cX11_refusedLetter) (maxL := 3) (ret := (some .int)) (by decide) rfl ?_
  intro p e s m args below meth c s₁ B hml hv
  obtain ⟨rfl, hh, hK⟩ := hv
  have hx := B.exec
  have hb := B.bytes
  have hr := B.returns
  have hts := atoms_spec (ws := wsX11_refusedLetter) B.pre
  have hown : s.vm.findClass RX11 = some m.cls := findClass_of_methodNamed B.named
  have hlocks := B.notSynchronized
  subst hh
  have hD := hD0.self (sz := s.heap.size)
  have hA : ∀ q : Nat, s.heap.size ≤ q → va_A (wX cs ad) s.heap.size q := fun q h => Or.inr h
  have hS : va_S (va_A (wX cs ad) s.heap.size) s.heap s.heap [] := va_S.rf
  have hl := lv_entry ([.ref (ad 0), .int k, .int 1]) (n := 3) (Nat.le_of_ble_eq_true rfl)
  rw [lg_entry_eq]
  generalize (lg_sl ([.ref (ad 0), .int k, .int 1]) ++ List.replicate (3 - (lg_sl ([.ref (ad 0), .int k, .int 1])).length) Slot.unset).toArray = ls at hl ⊢
  have hl : lv_has ls 3 [(0, .ref (ad 0)), (1, .int k), (2, .int 1)] := hl
  refine lv_iload_n hx hb dX11_refusedLetter_0 rfl (lv_at hl 1 rfl) ?_
  refine lv_if_lt (tgt := 8) hx hb dX11_refusedLetter_1 (by decide) (fun c_1 => ?_) (fun c_1 => ?_)
  · have c_1 : k.toInt < 0 := il_lt c_1
    refine lv_iconst (v := (-1)) hx hb dX11_refusedLetter_8 (by decide) ?_
    exact W.iret (v := (-1)) hx hb hr (fun t ht hW => ⟨⟨(-1), (), rfl, rfl, trivial⟩, hS.F ht⟩) hS.2.2 dX11_refusedLetter_9
  · have c_1 : 0 ≤ k.toInt := il_nlt c_1
    refine lv_iload_n hx hb dX11_refusedLetter_4 rfl (lv_at hl 2 rfl) ?_
    refine lv_if_eq (tgt := 10) hx hb dX11_refusedLetter_5 (by decide) (fun c => absurd c (by decide)) (fun _ => ?_)
    refine lv_iconst (v := (-1)) hx hb dX11_refusedLetter_8 (by decide) ?_
    exact W.iret (v := (-1)) hx hb hr (fun t ht hW => ⟨⟨(-1), (), rfl, rfl, trivial⟩, hS.F ht⟩) hS.2.2 dX11_refusedLetter_9
theorem dX11_refusedRoute_0 : decode cX11_refusedRoute 0 = .ok (.aload_n 0, 1) := by decide +kernel
theorem dX11_refusedRoute_1 : decode cX11_refusedRoute 1 = .ok (.iload_n 1, 1) := by decide +kernel
theorem dX11_refusedRoute_2 : decode cX11_refusedRoute 2 = .ok (.iload_n 2, 1) := by decide +kernel
theorem dX11_refusedRoute_3 : decode cX11_refusedRoute 3 = .ok (.invokevirtual 201, 3) := by decide +kernel
theorem dX11_refusedRoute_6 : decode cX11_refusedRoute 6 = .ok (.istore_n 3, 1) := by decide +kernel
theorem dX11_refusedRoute_7 : decode cX11_refusedRoute 7 = .ok (.iload_n 3, 1) := by decide +kernel
theorem dX11_refusedRoute_8 : decode cX11_refusedRoute 8 = .ok (.ifCond .eq 5, 3) := by decide +kernel
theorem dX11_refusedRoute_11 : decode cX11_refusedRoute 11 = .ok (.iload_n 3, 1) := by decide +kernel
theorem dX11_refusedRoute_12 : decode cX11_refusedRoute 12 = .ok (.ireturn, 1) := by decide +kernel
set_option maxRecDepth 20000 in
theorem ggX11_refusedRoute_X11_refusedLetter : GoodIn wsX11_refusedRoute wsX11_refusedLetter := goodIn_r _ [9, 1, 2, 10, 11, 12, 13, 8, 14, 15, 16, 17, 18, 19, 20, 21, 22, 23, 24, 25, 26, 27, 28, 29, 30, 31, 32, 33, 34, 35, 36, 37, 38, 39, 40, 41] (by decide +kernel) (by decide +kernel)
set_option maxRecDepth 20000 in
theorem gX11_refusedRoute_X11_refusedLetter : GoodIn wsX11_refusedRoute (wsV RX11 201 RX11 yX11_refusedLetter wsX11_refusedLetter) := goodIn_app (goodIn_of _ (by decide +kernel)) ggX11_refusedRoute_X11_refusedLetter
set_option maxHeartbeats 4000000 in
set_option maxRecDepth 100000 in
/-- refusedRoute, else well -/
theorem cx_refusedRoute0 (l : Launch) (dC : Nat → ClassId) (dI : Nat → Nat → Nat) (cs : Nat → ClassId) (ad : Nat → Nat) (H : Heap) (hP : va_P (dC, dI) vwCl (wX cs ad) H) (hD0 : va_D (fun _ => True) (wX cs ad)) (k : Int32) : Met l yX11_refusedRoute wsX11_refusedRoute ({ frames := 2, cells := 0, slots := 0, locals := 43 }) (va_Pc [.ref (ad 0), .int k, .int 0] (pb_P (dC, dI) vwCl (tyX cs) H)) (va_Qi (fun (z : Int32) (_ : Unit) => z = if 0 ≤ k.toInt then (-3) else (-1)) (fun _ _ => True) (va_A (wX cs ad) H.size)) 0 0 (va_A (wX cs ad) H.size) := by
  refine Met.ofW (cc := cX11_refusedRoute) (maxL := 4) (ret := (some .int)) (by decide) rfl ?_
  intro p e s m args below meth c s₁ B hml hv
  obtain ⟨rfl, hh, hK⟩ := hv
  have hx := B.exec
  have hb := B.bytes
  have hr := B.returns
  have hts := atoms_spec (ws := wsX11_refusedRoute) B.pre
  have hown : s.vm.findClass RX11 = some m.cls := findClass_of_methodNamed B.named
  have hlocks := B.notSynchronized
  subst hh
  have hD := hD0.self (sz := s.heap.size)
  have hA : ∀ q : Nat, s.heap.size ≤ q → va_A (wX cs ad) s.heap.size q := fun q h => Or.inr h
  have hS : va_S (va_A (wX cs ad) s.heap.size) s.heap s.heap [] := va_S.rf
  have hl := lv_entry ([.ref (ad 0), .int k, .int 0]) (n := 4) (Nat.le_of_ble_eq_true rfl)
  rw [lg_entry_eq]
  generalize (lg_sl ([.ref (ad 0), .int k, .int 0]) ++ List.replicate (4 - (lg_sl ([.ref (ad 0), .int k, .int 0])).length) Slot.unset).toArray = ls at hl ⊢
  have hl : lv_has ls 4 [(0, .ref (ad 0)), (1, .int k), (2, .int 0)] := hl
  refine lv_aload_n hx hb dX11_refusedRoute_0 rfl (lv_at hl 0 rfl) ?_
  refine lv_iload_n hx hb dX11_refusedRoute_1 rfl (lv_at hl 1 rfl) ?_
  refine lv_iload_n hx hb dX11_refusedRoute_2 rfl (lv_at hl 2 rfl) ?_
  refine va_calli (va_runV (As := [.int k, .int 0]) (rest := []) ⟨hx, hb, hml, hown, hts⟩ (cx_refusedLetter0 l dC dI cs ad s.heap hP hD0 k) (cwV 2 hts gX11_refusedRoute_X11_refusedLetter rfl rfl rfl (by decide +kernel) ⟨Nat.le_of_ble_eq_true rfl, Nat.le_of_ble_eq_true rfl⟩) ⟨pb_c, va_recv hK hP (ci := 11) (q0 := 0) rfl rfl, pb_m hK⟩ rfl rfl hl.1 rfl (lv_room (Nat.le_of_ble_eq_true rfl)) dX11_refusedRoute_3 ⟨Nat.zero_le _, Nat.zero_le _⟩) hS (fun q _ h => h) (fun q h => h) (fun r_1 u t H1 locs ht hvm hw_1 hB hz1 hk1 hS => ?_)
  obtain ⟨c_1, rfl⟩ | ⟨c_1, rfl⟩ := ic_of hw_1
  · have c_1 : 0 ≤ k.toInt := c_1
    refine lv_istore_n (lv' := [(3, .int (-3)), (0, .ref (ad 0)), (1, .int k), (2, .int 0)]) hx hb dX11_refusedRoute_6 rfl hl (by decide) rfl (fun ls hl => ?_)
    refine lv_iload_n hx hb dX11_refusedRoute_7 rfl (lv_at hl 0 rfl) ?_
    refine lv_if_eq (tgt := 13) hx hb dX11_refusedRoute_8 (by decide) (fun c => absurd c (by decide)) (fun _ => ?_)
    refine lv_iload_n hx hb dX11_refusedRoute_11 rfl (lv_at hl 0 rfl) ?_
    exact W.iret (v := (-3)) hx hb hr (fun t ht hW => ⟨⟨(-3), (), rfl, (by (split <;> first | rfl | (exfalso; omega) | (split <;> first | rfl | (exfalso; omega) | (split <;> first | rfl | (exfalso; omega))))), trivial⟩, hS.F ht⟩) hS.2.2 dX11_refusedRoute_12
  · have c_1 : ¬ (0 ≤ k.toInt) := c_1
    refine lv_istore_n (lv' := [(3, .int (-1)), (0, .ref (ad 0)), (1, .int k), (2, .int 0)]) hx hb dX11_refusedRoute_6 rfl hl (by decide) rfl (fun ls hl => ?_)
    refine lv_iload_n hx hb dX11_refusedRoute_7 rfl (lv_at hl 0 rfl) ?_
    refine lv_if_eq (tgt := 13) hx hb dX11_refusedRoute_8 (by decide) (fun c => absurd c (by decide)) (fun _ => ?_)
    refine lv_iload_n hx hb dX11_refusedRoute_11 rfl (lv_at hl 0 rfl) ?_
    exact W.iret (v := (-1)) hx hb hr (fun t ht hW => ⟨⟨(-1), (), rfl, (by (split <;> first | rfl | (exfalso; omega) | (split <;> first | rfl | (exfalso; omega) | (split <;> first | rfl | (exfalso; omega))))), trivial⟩, hS.F ht⟩) hS.2.2 dX11_refusedRoute_12
set_option maxHeartbeats 4000000 in
set_option maxRecDepth 100000 in
/-- refusedRoute, else bad -/
theorem cx_refusedRoute1 (l : Launch) (dC : Nat → ClassId) (dI : Nat → Nat → Nat) (cs : Nat → ClassId) (ad : Nat → Nat) (H : Heap) (hP : va_P (dC, dI) vwCl (wX cs ad) H) (hD0 : va_D (fun _ => True) (wX cs ad)) (k : Int32) : Met l yX11_refusedRoute wsX11_refusedRoute ({ frames := 1, cells := 0, slots := 0, locals := 22 }) (va_Pc [.ref (ad 0), .int k, .int 1] (pb_P (dC, dI) vwCl (tyX cs) H)) (va_Qi (fun (z : Int32) (_ : Unit) => z = (-1)) (fun _ _ => True) (va_A (wX cs ad) H.size)) 0 0 (va_A (wX cs ad) H.size) := by
  refine Met.ofW (cc := cX11_refusedRoute) (maxL := 4) (ret := (some .int)) (by decide) rfl ?_
  intro p e s m args below meth c s₁ B hml hv
  obtain ⟨rfl, hh, hK⟩ := hv
  have hx := B.exec
  have hb := B.bytes
  have hr := B.returns
  have hts := atoms_spec (ws := wsX11_refusedRoute) B.pre
  have hown : s.vm.findClass RX11 = some m.cls := findClass_of_methodNamed B.named
  have hlocks := B.notSynchronized
  subst hh
  have hD := hD0.self (sz := s.heap.size)
  have hA : ∀ q : Nat, s.heap.size ≤ q → va_A (wX cs ad) s.heap.size q := fun q h => Or.inr h
  have hS : va_S (va_A (wX cs ad) s.heap.size) s.heap s.heap [] := va_S.rf
  have hl := lv_entry ([.ref (ad 0), .int k, .int 1]) (n := 4) (Nat.le_of_ble_eq_true rfl)
  rw [lg_entry_eq]
  generalize (lg_sl ([.ref (ad 0), .int k, .int 1]) ++ List.replicate (4 - (lg_sl ([.ref (ad 0), .int k, .int 1])).length) Slot.unset).toArray = ls at hl ⊢
  have hl : lv_has ls 4 [(0, .ref (ad 0)), (1, .int k), (2, .int 1)] := hl
  refine lv_aload_n hx hb dX11_refusedRoute_0 rfl (lv_at hl 0 rfl) ?_
  refine lv_iload_n hx hb dX11_refusedRoute_1 rfl (lv_at hl 1 rfl) ?_
  refine lv_iload_n hx hb dX11_refusedRoute_2 rfl (lv_at hl 2 rfl) ?_
  refine va_calli (va_runV (As := [.int k, .int 1]) (rest := []) ⟨hx, hb, hml, hown, hts⟩ (cx_refusedLetter1 l dC dI cs ad s.heap hP hD0 k) (cwV 2 hts gX11_refusedRoute_X11_refusedLetter rfl rfl rfl (by decide +kernel) ⟨Nat.le_of_ble_eq_true rfl, Nat.le_of_ble_eq_true rfl⟩) ⟨pb_c, va_recv hK hP (ci := 11) (q0 := 0) rfl rfl, pb_m hK⟩ rfl rfl hl.1 rfl (lv_room (Nat.le_of_ble_eq_true rfl)) dX11_refusedRoute_3 ⟨Nat.zero_le _, Nat.zero_le _⟩) hS (fun q _ h => h) (fun q h => h) (fun r_1 u t H1 locs ht hvm hw_1 hB hz1 hk1 hS => ?_)
  obtain rfl : r_1 = (-1) := hw_1
  refine lv_istore_n (lv' := [(3, .int (-1)), (0, .ref (ad 0)), (1, .int k), (2, .int 1)]) hx hb dX11_refusedRoute_6 rfl hl (by decide) rfl (fun ls hl => ?_)
  refine lv_iload_n hx hb dX11_refusedRoute_7 rfl (lv_at hl 0 rfl) ?_
  refine lv_if_eq (tgt := 13) hx hb dX11_refusedRoute_8 (by decide) (fun c => absurd c (by decide)) (fun _ => ?_)
  refine lv_iload_n hx hb dX11_refusedRoute_11 rfl (lv_at hl 0 rfl) ?_
  exact W.iret (v := (-1)) hx hb hr (fun t ht hW => ⟨⟨(-1), (), rfl, rfl, trivial⟩, hS.F ht⟩) hS.2.2 dX11_refusedRoute_12
theorem dX11_refusedPrices_0 : decode cX11_refusedPrices 0 = .ok (.aload_n 0, 1) := by decide +kernel
theorem dX11_refusedPrices_1 : decode cX11_refusedPrices 1 = .ok (.getfield 30, 3) := by decide +kernel
theorem dX11_refusedPrices_4 : decode cX11_refusedPrices 4 = .ok (.iload_n 1, 1) := by decide +kernel
theorem dX11_refusedPrices_5 : decode cX11_refusedPrices 5 = .ok (.invokevirtual 142, 3) := by decide +kernel
theorem dX11_refusedPrices_8 : decode cX11_refusedPrices 8 = .ok (.ifCond .eq 7, 3) := by decide +kernel
theorem dX11_refusedPrices_15 : decode cX11_refusedPrices 15 = .ok (.iconst (-1), 1) := by decide +kernel
theorem dX11_refusedPrices_16 : decode cX11_refusedPrices 16 = .ok (.ireturn, 1) := by decide +kernel
set_option maxRecDepth 20000 in
theorem ggX11_refusedPrices_X10_has : GoodIn wsX11_refusedPrices wsX10_has := goodIn_r _ [8, 9, 43, 44, 45, 46, 47, 48, 49, 50] (by decide +kernel) (by decide +kernel)
set_option maxRecDepth 20000 in
theorem gX11_refusedPrices_X10_has : GoodIn wsX11_refusedPrices (wsV RX11 142 RX10 yX10_has wsX10_has) := goodIn_app (goodIn_of _ (by decide +kernel)) ggX11_refusedPrices_X10_has
set_option maxHeartbeats 4000000 in
set_option maxRecDepth 100000 in
/-- refusedPrices -/
theorem cx_refusedPrices (l : Launch) (dC : Nat → ClassId) (dI : Nat → Nat → Nat) (cs : Nat → ClassId) (ad : Nat → Nat) (H : Heap) (hP : va_P (dC, dI) vwCl (wX cs ad) H) (hD0 : va_D (fun _ => True) (wX cs ad)) (x : Int32) (r : Int32) (b : Int32) : Met l yX11_refusedPrices wsX11_refusedPrices ({ frames := 1, cells := 0, slots := 0, locals := 21 }) (va_Pc [.ref (ad 0), .int x, .int r, .int b] (pb_P (dC, dI) vwCl (tyX cs) H)) (va_Qi (fun (z : Int32) (_ : Unit) => z = (-1)) (fun _ _ => True) (va_A (wX cs ad) H.size)) 0 0 (va_A (wX cs ad) H.size) := by
  refine Met.ofW (cc := cX11_refusedPrices) (maxL := 5) (ret := (some .int)) (by decide) rfl ?_
  intro p e s m args below meth c s₁ B hml hv
  obtain ⟨rfl, hh, hK⟩ := hv
  have hx := B.exec
  have hb := B.bytes
  have hr := B.returns
  have hts := atoms_spec (ws := wsX11_refusedPrices) B.pre
  have hown : s.vm.findClass RX11 = some m.cls := findClass_of_methodNamed B.named
  have hlocks := B.notSynchronized
  subst hh
  have hD := hD0.self (sz := s.heap.size)
  have hA : ∀ q : Nat, s.heap.size ≤ q → va_A (wX cs ad) s.heap.size q := fun q h => Or.inr h
  have hS : va_S (va_A (wX cs ad) s.heap.size) s.heap s.heap [] := va_S.rf
  have hl := lv_entry ([.ref (ad 0), .int x, .int r, .int b]) (n := 5) (Nat.le_of_ble_eq_true rfl)
  rw [lg_entry_eq]
  generalize (lg_sl ([.ref (ad 0), .int x, .int r, .int b]) ++ List.replicate (5 - (lg_sl ([.ref (ad 0), .int x, .int r, .int b])).length) Slot.unset).toArray = ls at hl ⊢
  have hl : lv_has ls 5 [(0, .ref (ad 0)), (1, .int x), (2, .int r), (3, .int b)] := hl
  refine lv_aload_n hx hb dX11_refusedPrices_0 rfl (lv_at hl 0 rfl) ?_
  refine va_get (D := (dC, dI)) (ci := 11) (v := .ref (ad 4)) (C := RX11) (T := TX11) (N := 11) hx hb hts (by decide +kernel) hown hK hP 0 rfl rfl 3 (by decide) (hts (.fieldLink RX11 30 "DearLetters" "town" "LDearLetters$Town;") (by decide +kernel)) (fun _ h9 => h9) rfl dX11_refusedPrices_1 ?_
  refine lv_iload_n hx hb dX11_refusedPrices_4 rfl (lv_at hl 1 rfl) ?_
  refine cr_i (va_runV (As := [.int x]) (rest := []) ⟨hx, hb, hml, hown, hts⟩ (cx_has l dC dI cs ad s.heap hP x) (cwV 1 hts gX11_refusedPrices_X10_has rfl rfl rfl (by decide +kernel) ⟨Nat.le_of_ble_eq_true rfl, Nat.le_of_ble_eq_true rfl⟩) ⟨pb_c, va_recv hK hP (ci := 10) (q0 := 4) rfl rfl, pb_m hK⟩ rfl rfl hl.1 rfl (lv_room (Nat.le_of_ble_eq_true rfl)) dX11_refusedPrices_5 ⟨Nat.zero_le _, Nat.zero_le _⟩) hS (fun r_1 hw_1 locs hS => ?_)
  obtain rfl : r_1 = 0 := hw_1
  refine lv_if_eq (tgt := 15) hx hb dX11_refusedPrices_8 (by decide) (fun _ => ?_) (fun c => absurd (by decide) c)
  refine lv_iconst (v := (-1)) hx hb dX11_refusedPrices_15 (by decide) ?_
  exact W.iret (v := (-1)) hx hb hr (fun t ht hW => ⟨⟨(-1), (), rfl, rfl, trivial⟩, hS.F ht⟩) hS.2.2 dX11_refusedPrices_16
theorem dJ6_bitCount_0f7a4_0 : decode cJ6_bitCount_0f7a4 0 = .ok (.iload_n 0, 1) := by decide +kernel
theorem dJ6_bitCount_0f7a4_1 : decode cJ6_bitCount_0f7a4 1 = .ok (.iload_n 0, 1) := by decide +kernel
theorem dJ6_bitCount_0f7a4_2 : decode cJ6_bitCount_0f7a4 2 = .ok (.iconst 1, 1) := by decide +kernel
theorem dJ6_bitCount_0f7a4_3 : decode cJ6_bitCount_0f7a4 3 = .ok (.iushr, 1) := by decide +kernel
theorem dJ6_bitCount_0f7a4_4 : decode cJ6_bitCount_0f7a4 4 = .ok (.ldc_w 265, 3) := by decide +kernel
theorem dJ6_bitCount_0f7a4_7 : decode cJ6_bitCount_0f7a4 7 = .ok (.iand, 1) := by decide +kernel
theorem dJ6_bitCount_0f7a4_8 : decode cJ6_bitCount_0f7a4 8 = .ok (.isub, 1) := by decide +kernel
theorem dJ6_bitCount_0f7a4_9 : decode cJ6_bitCount_0f7a4 9 = .ok (.istore_n 0, 1) := by decide +kernel
theorem dJ6_bitCount_0f7a4_10 : decode cJ6_bitCount_0f7a4 10 = .ok (.iload_n 0, 1) := by decide +kernel
theorem dJ6_bitCount_0f7a4_11 : decode cJ6_bitCount_0f7a4 11 = .ok (.ldc_w 266, 3) := by decide +kernel
theorem dJ6_bitCount_0f7a4_14 : decode cJ6_bitCount_0f7a4 14 = .ok (.iand, 1) := by decide +kernel
theorem dJ6_bitCount_0f7a4_15 : decode cJ6_bitCount_0f7a4 15 = .ok (.iload_n 0, 1) := by decide +kernel
theorem dJ6_bitCount_0f7a4_16 : decode cJ6_bitCount_0f7a4 16 = .ok (.iconst 2, 1) := by decide +kernel
theorem dJ6_bitCount_0f7a4_17 : decode cJ6_bitCount_0f7a4 17 = .ok (.iushr, 1) := by decide +kernel
theorem dJ6_bitCount_0f7a4_18 : decode cJ6_bitCount_0f7a4 18 = .ok (.ldc_w 266, 3) := by decide +kernel
theorem dJ6_bitCount_0f7a4_21 : decode cJ6_bitCount_0f7a4 21 = .ok (.iand, 1) := by decide +kernel
theorem dJ6_bitCount_0f7a4_22 : decode cJ6_bitCount_0f7a4 22 = .ok (.iadd, 1) := by decide +kernel
theorem dJ6_bitCount_0f7a4_23 : decode cJ6_bitCount_0f7a4 23 = .ok (.istore_n 0, 1) := by decide +kernel
theorem dJ6_bitCount_0f7a4_24 : decode cJ6_bitCount_0f7a4 24 = .ok (.iload_n 0, 1) := by decide +kernel
theorem dJ6_bitCount_0f7a4_25 : decode cJ6_bitCount_0f7a4 25 = .ok (.iload_n 0, 1) := by decide +kernel
theorem dJ6_bitCount_0f7a4_26 : decode cJ6_bitCount_0f7a4 26 = .ok (.iconst 4, 1) := by decide +kernel
theorem dJ6_bitCount_0f7a4_27 : decode cJ6_bitCount_0f7a4 27 = .ok (.iushr, 1) := by decide +kernel
theorem dJ6_bitCount_0f7a4_28 : decode cJ6_bitCount_0f7a4 28 = .ok (.iadd, 1) := by decide +kernel
theorem dJ6_bitCount_0f7a4_29 : decode cJ6_bitCount_0f7a4 29 = .ok (.ldc_w 267, 3) := by decide +kernel
theorem dJ6_bitCount_0f7a4_32 : decode cJ6_bitCount_0f7a4 32 = .ok (.iand, 1) := by decide +kernel
theorem dJ6_bitCount_0f7a4_33 : decode cJ6_bitCount_0f7a4 33 = .ok (.istore_n 0, 1) := by decide +kernel
theorem dJ6_bitCount_0f7a4_34 : decode cJ6_bitCount_0f7a4 34 = .ok (.iload_n 0, 1) := by decide +kernel
theorem dJ6_bitCount_0f7a4_35 : decode cJ6_bitCount_0f7a4 35 = .ok (.iload_n 0, 1) := by decide +kernel
theorem dJ6_bitCount_0f7a4_36 : decode cJ6_bitCount_0f7a4 36 = .ok (.bipush 8, 2) := by decide +kernel
theorem dJ6_bitCount_0f7a4_38 : decode cJ6_bitCount_0f7a4 38 = .ok (.iushr, 1) := by decide +kernel
theorem dJ6_bitCount_0f7a4_39 : decode cJ6_bitCount_0f7a4 39 = .ok (.iadd, 1) := by decide +kernel
theorem dJ6_bitCount_0f7a4_40 : decode cJ6_bitCount_0f7a4 40 = .ok (.istore_n 0, 1) := by decide +kernel
theorem dJ6_bitCount_0f7a4_41 : decode cJ6_bitCount_0f7a4 41 = .ok (.iload_n 0, 1) := by decide +kernel
theorem dJ6_bitCount_0f7a4_42 : decode cJ6_bitCount_0f7a4 42 = .ok (.iload_n 0, 1) := by decide +kernel
theorem dJ6_bitCount_0f7a4_43 : decode cJ6_bitCount_0f7a4 43 = .ok (.bipush 16, 2) := by decide +kernel
theorem dJ6_bitCount_0f7a4_45 : decode cJ6_bitCount_0f7a4 45 = .ok (.iushr, 1) := by decide +kernel
theorem dJ6_bitCount_0f7a4_46 : decode cJ6_bitCount_0f7a4 46 = .ok (.iadd, 1) := by decide +kernel
theorem dJ6_bitCount_0f7a4_47 : decode cJ6_bitCount_0f7a4 47 = .ok (.istore_n 0, 1) := by decide +kernel
theorem dJ6_bitCount_0f7a4_48 : decode cJ6_bitCount_0f7a4 48 = .ok (.iload_n 0, 1) := by decide +kernel
theorem dJ6_bitCount_0f7a4_49 : decode cJ6_bitCount_0f7a4 49 = .ok (.bipush 63, 2) := by decide +kernel
theorem dJ6_bitCount_0f7a4_51 : decode cJ6_bitCount_0f7a4 51 = .ok (.iand, 1) := by decide +kernel
theorem dJ6_bitCount_0f7a4_52 : decode cJ6_bitCount_0f7a4 52 = .ok (.ireturn, 1) := by decide +kernel
set_option maxHeartbeats 4000000 in
set_option maxRecDepth 100000 in
/-- bitCount(0) -/
theorem cj_bitCount0 (l : Launch) (dC : Nat → ClassId) (dI : Nat → Nat → Nat) (tys : List (ClassId × FieldType)) (H : Heap) : Met l yJ6_bitCount_0f7a4 wsJ6_bitCount_0f7a4 ({ frames := 0, cells := 0, slots := 0, locals := 0 }) (va_Pc [.int 0] (pb_P (dC, dI) vwCl tys H)) (va_Qi (fun (z : Int32) (_ : Unit) => z = 0) (fun _ t => t.heap = H) (fun _ => False)) 0 0 (fun _ => False) := by
  refine Met.ofW (cc := cJ6_bitCount_0f7a4) (maxL := 1) (ret := (some .int)) (by decide) rfl ?_
  intro p e s m args below meth c s₁ B hml hv
  obtain ⟨rfl, hh, hK⟩ := hv
  have hx := B.exec
  have hb := B.bytes
  have hr := B.returns
  have hts := atoms_spec (ws := wsJ6_bitCount_0f7a4) B.pre
  have hown : s.vm.findClass RJ6 = some m.cls := findClass_of_methodNamed B.named
  have hlocks := B.notSynchronized
  subst hh
  have hS : va_S (fun _ => False) s.heap s.heap [] := va_S.rf
  have hl := lv_entry ([.int 0]) (n := 1) (Nat.le_of_ble_eq_true rfl)
  rw [lg_entry_eq]
  generalize (lg_sl ([.int 0]) ++ List.replicate (1 - (lg_sl ([.int 0])).length) Slot.unset).toArray = ls at hl ⊢
  have hl : lv_has ls 1 [(0, .int 0)] := hl
  refine lv_iload_n hx hb dJ6_bitCount_0f7a4_0 rfl (lv_at hl 0 rfl) ?_
  refine lv_iload_n hx hb dJ6_bitCount_0f7a4_1 rfl (lv_at hl 0 rfl) ?_
  refine lv_iconst (v := 1) hx hb dJ6_bitCount_0f7a4_2 (by decide) ?_
  refine lv_iushr (v := 0) hx hb dJ6_bitCount_0f7a4_3 (by decide) ?_
  refine lv_ldcw (v := 1431655765) hx hb hown (hts (.constant RJ6 265 1431655765) (by decide +kernel)) dJ6_bitCount_0f7a4_4 ?_
  refine lv_iand hx hb dJ6_bitCount_0f7a4_7 ?_
  refine lq_i 0 (by decide) ?_
  refine lv_isub hx hb dJ6_bitCount_0f7a4_8 ?_
  refine lq_i 0 (by decide) ?_
  refine lv_istore_n (lv' := [(0, .int 0)]) hx hb dJ6_bitCount_0f7a4_9 rfl hl (by decide) rfl (fun ls hl => ?_)
  refine lv_iload_n hx hb dJ6_bitCount_0f7a4_10 rfl (lv_at hl 0 rfl) ?_
  refine lv_ldcw (v := 858993459) hx hb hown (hts (.constant RJ6 266 858993459) (by decide +kernel)) dJ6_bitCount_0f7a4_11 ?_
  refine lv_iand hx hb dJ6_bitCount_0f7a4_14 ?_
  refine lq_i 0 (by decide) ?_
  refine lv_iload_n hx hb dJ6_bitCount_0f7a4_15 rfl (lv_at hl 0 rfl) ?_
  refine lv_iconst (v := 2) hx hb dJ6_bitCount_0f7a4_16 (by decide) ?_
  refine lv_iushr (v := 0) hx hb dJ6_bitCount_0f7a4_17 (by decide) ?_
  refine lv_ldcw (v := 858993459) hx hb hown (hts (.constant RJ6 266 858993459) (by decide +kernel)) dJ6_bitCount_0f7a4_18 ?_
  refine lv_iand hx hb dJ6_bitCount_0f7a4_21 ?_
  refine lq_i 0 (by decide) ?_
  refine lv_iadd hx hb dJ6_bitCount_0f7a4_22 ?_
  refine lq_i 0 (by decide) ?_
  refine lv_istore_n (lv' := [(0, .int 0)]) hx hb dJ6_bitCount_0f7a4_23 rfl hl (by decide) rfl (fun ls hl => ?_)
  refine lv_iload_n hx hb dJ6_bitCount_0f7a4_24 rfl (lv_at hl 0 rfl) ?_
  refine lv_iload_n hx hb dJ6_bitCount_0f7a4_25 rfl (lv_at hl 0 rfl) ?_
  refine lv_iconst (v := 4) hx hb dJ6_bitCount_0f7a4_26 (by decide) ?_
  refine lv_iushr (v := 0) hx hb dJ6_bitCount_0f7a4_27 (by decide) ?_
  refine lv_iadd hx hb dJ6_bitCount_0f7a4_28 ?_
  refine lq_i 0 (by decide) ?_
  refine lv_ldcw (v := 252645135) hx hb hown (hts (.constant RJ6 267 252645135) (by decide +kernel)) dJ6_bitCount_0f7a4_29 ?_
  refine lv_iand hx hb dJ6_bitCount_0f7a4_32 ?_
  refine lq_i 0 (by decide) ?_
  refine lv_istore_n (lv' := [(0, .int 0)]) hx hb dJ6_bitCount_0f7a4_33 rfl hl (by decide) rfl (fun ls hl => ?_)
  refine lv_iload_n hx hb dJ6_bitCount_0f7a4_34 rfl (lv_at hl 0 rfl) ?_
  refine lv_iload_n hx hb dJ6_bitCount_0f7a4_35 rfl (lv_at hl 0 rfl) ?_
  refine lv_bipush (v := 8) hx hb dJ6_bitCount_0f7a4_36 (by decide) ?_
  refine lv_iushr (v := 0) hx hb dJ6_bitCount_0f7a4_38 (by decide) ?_
  refine lv_iadd hx hb dJ6_bitCount_0f7a4_39 ?_
  refine lq_i 0 (by decide) ?_
  refine lv_istore_n (lv' := [(0, .int 0)]) hx hb dJ6_bitCount_0f7a4_40 rfl hl (by decide) rfl (fun ls hl => ?_)
  refine lv_iload_n hx hb dJ6_bitCount_0f7a4_41 rfl (lv_at hl 0 rfl) ?_
  refine lv_iload_n hx hb dJ6_bitCount_0f7a4_42 rfl (lv_at hl 0 rfl) ?_
  refine lv_bipush (v := 16) hx hb dJ6_bitCount_0f7a4_43 (by decide) ?_
  refine lv_iushr (v := 0) hx hb dJ6_bitCount_0f7a4_45 (by decide) ?_
  refine lv_iadd hx hb dJ6_bitCount_0f7a4_46 ?_
  refine lq_i 0 (by decide) ?_
  refine lv_istore_n (lv' := [(0, .int 0)]) hx hb dJ6_bitCount_0f7a4_47 rfl hl (by decide) rfl (fun ls hl => ?_)
  refine lv_iload_n hx hb dJ6_bitCount_0f7a4_48 rfl (lv_at hl 0 rfl) ?_
  refine lv_bipush (v := 63) hx hb dJ6_bitCount_0f7a4_49 (by decide) ?_
  refine lv_iand hx hb dJ6_bitCount_0f7a4_51 ?_
  refine lq_i 0 (by decide) ?_
  exact W.iret (v := 0) hx hb hr (fun t ht hW => ⟨⟨0, (), rfl, rfl, ht⟩, hS.F ht⟩) hS.2.2 dJ6_bitCount_0f7a4_52
theorem dX10_richestPurse_0 : decode cX10_richestPurse 0 = .ok (.lconst 0, 1) := by decide +kernel
theorem dX10_richestPurse_1 : decode cX10_richestPurse 1 = .ok (.lstore_n 1, 1) := by decide +kernel
theorem dX10_richestPurse_2 : decode cX10_richestPurse 2 = .ok (.iconst 0, 1) := by decide +kernel
theorem dX10_richestPurse_3 : decode cX10_richestPurse 3 = .ok (.istore_n 3, 1) := by decide +kernel
theorem dX10_richestPurse_4 : decode cX10_richestPurse 4 = .ok (.iload_n 3, 1) := by decide +kernel
theorem dX10_richestPurse_5 : decode cX10_richestPurse 5 = .ok (.aload_n 0, 1) := by decide +kernel
theorem dX10_richestPurse_6 : decode cX10_richestPurse 6 = .ok (.getfield 34, 3) := by decide +kernel
theorem dX10_richestPurse_9 : decode cX10_richestPurse 9 = .ok (.if_icmp .ge 24, 3) := by decide +kernel
theorem dX10_richestPurse_33 : decode cX10_richestPurse 33 = .ok (.lload_n 1, 1) := by decide +kernel
theorem dX10_richestPurse_34 : decode cX10_richestPurse 34 = .ok (.lreturn, 1) := by decide +kernel
set_option maxHeartbeats 4000000 in
set_option maxRecDepth 100000 in
/-- richestPurse -/
theorem cx_richestPurse (l : Launch) (dC : Nat → ClassId) (dI : Nat → Nat → Nat) (cs : Nat → ClassId) (ad : Nat → Nat) (H : Heap) (hP : va_P (dC, dI) vwCl (wX cs ad) H) : Met l yX10_richestPurse wsX10_richestPurse ({ frames := 0, cells := 0, slots := 0, locals := 0 }) (va_Pc [.ref (ad 4)] (pb_P (dC, dI) vwCl (tyX cs) H)) (va_Ql (fun (z : Int64) (_ : Unit) => z = 0) (fun _ t => t.heap = H) (fun _ => False)) 0 0 (fun _ => False) := by
  refine Met.ofW (cc := cX10_richestPurse) (maxL := 4) (ret := (some .long)) (by decide) rfl ?_
  intro p e s m args below meth c s₁ B hml hv
  obtain ⟨rfl, hh, hK⟩ := hv
  have hx := B.exec
  have hb := B.bytes
  have hr := B.returns
  have hts := atoms_spec (ws := wsX10_richestPurse) B.pre
  have hown : s.vm.findClass RX10 = some m.cls := findClass_of_methodNamed B.named
  have hlocks := B.notSynchronized
  subst hh
  have hS : va_S (fun _ => False) s.heap s.heap [] := va_S.rf
  have hl := lv_entry ([.ref (ad 4)]) (n := 4) (Nat.le_of_ble_eq_true rfl)
  rw [lg_entry_eq]
  generalize (lg_sl ([.ref (ad 4)]) ++ List.replicate (4 - (lg_sl ([.ref (ad 4)])).length) Slot.unset).toArray = ls at hl ⊢
  have hl : lv_has ls 4 [(0, .ref (ad 4))] := hl
  refine lv_lconst (v := 0) hx hb dX10_richestPurse_0 (by decide) ?_
  refine lv_lstore_n (lv' := [(1, .long 0), (0, .ref (ad 4))]) hx hb dX10_richestPurse_1 rfl hl (by decide) rfl (fun ls hl => ?_)
  refine lv_iconst (v := 0) hx hb dX10_richestPurse_2 (by decide) ?_
  refine lv_istore_n (lv' := [(3, .int 0), (1, .long 0), (0, .ref (ad 4))]) hx hb dX10_richestPurse_3 rfl hl (by decide) rfl (fun ls hl => ?_)
  refine lv_iload_n hx hb dX10_richestPurse_4 rfl (lv_at hl 0 rfl) ?_
  refine lv_aload_n hx hb dX10_richestPurse_5 rfl (lv_at hl 2 rfl) ?_
  refine va_get (D := (dC, dI)) (ci := 10) (v := .int 0) (C := RX10) (T := TX10) (N := 8) hx hb hts (by decide +kernel) hown hK hP 4 rfl rfl 6 (by decide) (hts (.fieldLink RX10 34 "DearLetters$Town" "bearers" "I") (by decide +kernel)) (fun _ h9 => h9) rfl dX10_richestPurse_6 ?_
  refine lv_icmp_ge (tgt := 33) hx hb dX10_richestPurse_9 (by decide) (fun _ => ?_) (fun c => absurd (by decide) c)
  refine lv_lload_n hx hb dX10_richestPurse_33 rfl (lv_at hl 1 rfl) ?_
  exact W.lret (v := 0) hx hb hr (fun t ht hW => ⟨⟨0, (), rfl, rfl, ht⟩, hS.F ht⟩) hS.2.2 dX10_richestPurse_34
theorem dX10_allPurses_0 : decode cX10_allPurses 0 = .ok (.lconst 0, 1) := by decide +kernel
theorem dX10_allPurses_1 : decode cX10_allPurses 1 = .ok (.lstore_n 1, 1) := by decide +kernel
theorem dX10_allPurses_2 : decode cX10_allPurses 2 = .ok (.iconst 0, 1) := by decide +kernel
theorem dX10_allPurses_3 : decode cX10_allPurses 3 = .ok (.istore_n 3, 1) := by decide +kernel
theorem dX10_allPurses_4 : decode cX10_allPurses 4 = .ok (.iload_n 3, 1) := by decide +kernel
theorem dX10_allPurses_5 : decode cX10_allPurses 5 = .ok (.aload_n 0, 1) := by decide +kernel
theorem dX10_allPurses_6 : decode cX10_allPurses 6 = .ok (.getfield 34, 3) := by decide +kernel
theorem dX10_allPurses_9 : decode cX10_allPurses 9 = .ok (.if_icmp .ge 22, 3) := by decide +kernel
theorem dX10_allPurses_31 : decode cX10_allPurses 31 = .ok (.lload_n 1, 1) := by decide +kernel
theorem dX10_allPurses_32 : decode cX10_allPurses 32 = .ok (.lreturn, 1) := by decide +kernel
set_option maxHeartbeats 4000000 in
set_option maxRecDepth 100000 in
/-- allPurses -/
theorem cx_allPurses (l : Launch) (dC : Nat → ClassId) (dI : Nat → Nat → Nat) (cs : Nat → ClassId) (ad : Nat → Nat) (H : Heap) (hP : va_P (dC, dI) vwCl (wX cs ad) H) : Met l yX10_allPurses wsX10_allPurses ({ frames := 0, cells := 0, slots := 0, locals := 0 }) (va_Pc [.ref (ad 4)] (pb_P (dC, dI) vwCl (tyX cs) H)) (va_Ql (fun (z : Int64) (_ : Unit) => z = 0) (fun _ t => t.heap = H) (fun _ => False)) 0 0 (fun _ => False) := by
  refine Met.ofW (cc := cX10_allPurses) (maxL := 4) (ret := (some .long)) (by decide) rfl ?_
  intro p e s m args below meth c s₁ B hml hv
  obtain ⟨rfl, hh, hK⟩ := hv
  have hx := B.exec
  have hb := B.bytes
  have hr := B.returns
  have hts := atoms_spec (ws := wsX10_allPurses) B.pre
  have hown : s.vm.findClass RX10 = some m.cls := findClass_of_methodNamed B.named
  have hlocks := B.notSynchronized
  subst hh
  have hS : va_S (fun _ => False) s.heap s.heap [] := va_S.rf
  have hl := lv_entry ([.ref (ad 4)]) (n := 4) (Nat.le_of_ble_eq_true rfl)
  rw [lg_entry_eq]
  generalize (lg_sl ([.ref (ad 4)]) ++ List.replicate (4 - (lg_sl ([.ref (ad 4)])).length) Slot.unset).toArray = ls at hl ⊢
  have hl : lv_has ls 4 [(0, .ref (ad 4))] := hl
  refine lv_lconst (v := 0) hx hb dX10_allPurses_0 (by decide) ?_
  refine lv_lstore_n (lv' := [(1, .long 0), (0, .ref (ad 4))]) hx hb dX10_allPurses_1 rfl hl (by decide) rfl (fun ls hl => ?_)
  refine lv_iconst (v := 0) hx hb dX10_allPurses_2 (by decide) ?_
  refine lv_istore_n (lv' := [(3, .int 0), (1, .long 0), (0, .ref (ad 4))]) hx hb dX10_allPurses_3 rfl hl (by decide) rfl (fun ls hl => ?_)
  refine lv_iload_n hx hb dX10_allPurses_4 rfl (lv_at hl 0 rfl) ?_
  refine lv_aload_n hx hb dX10_allPurses_5 rfl (lv_at hl 2 rfl) ?_
  refine va_get (D := (dC, dI)) (ci := 10) (v := .int 0) (C := RX10) (T := TX10) (N := 8) hx hb hts (by decide +kernel) hown hK hP 4 rfl rfl 6 (by decide) (hts (.fieldLink RX10 34 "DearLetters$Town" "bearers" "I") (by decide +kernel)) (fun _ h9 => h9) rfl dX10_allPurses_6 ?_
  refine lv_icmp_ge (tgt := 31) hx hb dX10_allPurses_9 (by decide) (fun _ => ?_) (fun c => absurd (by decide) c)
  refine lv_lload_n hx hb dX10_allPurses_31 rfl (lv_at hl 1 rfl) ?_
  exact W.lret (v := 0) hx hb hr (fun t ht hW => ⟨⟨0, (), rfl, rfl, ht⟩, hS.F ht⟩) hS.2.2 dX10_allPurses_32
theorem dX11_commonDivisor_0 : decode cX11_commonDivisor 0 = .ok (.lload_n 0, 1) := by decide +kernel
theorem dX11_commonDivisor_1 : decode cX11_commonDivisor 1 = .ok (.lstore 4, 2) := by decide +kernel
theorem dX11_commonDivisor_3 : decode cX11_commonDivisor 3 = .ok (.lload_n 2, 1) := by decide +kernel
theorem dX11_commonDivisor_4 : decode cX11_commonDivisor 4 = .ok (.lstore 6, 2) := by decide +kernel
theorem dX11_commonDivisor_6 : decode cX11_commonDivisor 6 = .ok (.iconst 0, 1) := by decide +kernel
theorem dX11_commonDivisor_7 : decode cX11_commonDivisor 7 = .ok (.istore 8, 2) := by decide +kernel
theorem dX11_commonDivisor_9 : decode cX11_commonDivisor 9 = .ok (.iload 8, 2) := by decide +kernel
theorem dX11_commonDivisor_11 : decode cX11_commonDivisor 11 = .ok (.sipush 128, 3) := by decide +kernel
theorem dX11_commonDivisor_14 : decode cX11_commonDivisor 14 = .ok (.if_icmp .ge 31, 3) := by decide +kernel
theorem dX11_commonDivisor_17 : decode cX11_commonDivisor 17 = .ok (.lload 6, 2) := by decide +kernel
theorem dX11_commonDivisor_19 : decode cX11_commonDivisor 19 = .ok (.lconst 0, 1) := by decide +kernel
theorem dX11_commonDivisor_20 : decode cX11_commonDivisor 20 = .ok (.lcmp, 1) := by decide +kernel
theorem dX11_commonDivisor_21 : decode cX11_commonDivisor 21 = .ok (.ifCond .eq 24, 3) := by decide +kernel
theorem dX11_commonDivisor_45 : decode cX11_commonDivisor 45 = .ok (.lload 4, 2) := by decide +kernel
theorem dX11_commonDivisor_47 : decode cX11_commonDivisor 47 = .ok (.lreturn, 1) := by decide +kernel
set_option maxHeartbeats 4000000 in
set_option maxRecDepth 100000 in
/-- commonDivisor(0, 0) -/
theorem cx_commonDivisor (l : Launch) (dC : Nat → ClassId) (dI : Nat → Nat → Nat) (tys : List (ClassId × FieldType)) (H : Heap) : Met l yX11_commonDivisor wsX11_commonDivisor ({ frames := 0, cells := 0, slots := 0, locals := 0 }) (va_Pc [.long 0, .long 0] (pb_P (dC, dI) vwCl tys H)) (va_Ql (fun (z : Int64) (_ : Unit) => z = 0) (fun _ t => t.heap = H) (fun _ => False)) 0 0 (fun _ => False) := by
  refine Met.ofW (cc := cX11_commonDivisor) (maxL := 11) (ret := (some .long)) (by decide) rfl ?_
  intro p e s m args below meth c s₁ B hml hv
  obtain ⟨rfl, hh, hK⟩ := hv
  have hx := B.exec
  have hb := B.bytes
  have hr := B.returns
  have hts := atoms_spec (ws := wsX11_commonDivisor) B.pre
  have hown : s.vm.findClass RX11 = some m.cls := findClass_of_methodNamed B.named
  have hlocks := B.notSynchronized
  subst hh
  have hS : va_S (fun _ => False) s.heap s.heap [] := va_S.rf
  have hl := lv_entry ([.long 0, .long 0]) (n := 11) (Nat.le_of_ble_eq_true rfl)
  rw [lg_entry_eq]
  generalize (lg_sl ([.long 0, .long 0]) ++ List.replicate (11 - (lg_sl ([.long 0, .long 0])).length) Slot.unset).toArray = ls at hl ⊢
  have hl : lv_has ls 11 [(0, .long 0), (2, .long 0)] := hl
  refine lv_lload_n hx hb dX11_commonDivisor_0 rfl (lv_at hl 0 rfl) ?_
  refine lv_lstore (lv' := [(4, .long 0), (0, .long 0), (2, .long 0)]) hx hb dX11_commonDivisor_1 hl (by decide) rfl (fun ls hl => ?_)
  refine lv_lload_n hx hb dX11_commonDivisor_3 rfl (lv_at hl 2 rfl) ?_
  refine lv_lstore (lv' := [(6, .long 0), (4, .long 0), (0, .long 0), (2, .long 0)]) hx hb dX11_commonDivisor_4 hl (by decide) rfl (fun ls hl => ?_)
  refine lv_iconst (v := 0) hx hb dX11_commonDivisor_6 (by decide) ?_
  refine lv_istore (lv' := [(8, .int 0), (6, .long 0), (4, .long 0), (0, .long 0), (2, .long 0)]) hx hb dX11_commonDivisor_7 hl (by decide) rfl (fun ls hl => ?_)
  refine lv_iload hx hb dX11_commonDivisor_9 (lv_at hl 0 rfl) ?_
  refine lv_sipush (v := 128) hx hb dX11_commonDivisor_11 (by decide) ?_
  refine lv_icmp_ge (tgt := 45) hx hb dX11_commonDivisor_14 (by decide) (fun c => absurd c (by decide)) (fun _ => ?_)
  refine lv_lload hx hb dX11_commonDivisor_17 (lv_at hl 1 rfl) ?_
  refine lv_lconst (v := 0) hx hb dX11_commonDivisor_19 (by decide) ?_
  refine W.lcmp hx hb dX11_commonDivisor_20 ?_
  refine lq_i 0 (by decide +kernel) ?_
  refine lv_if_eq (tgt := 45) hx hb dX11_commonDivisor_21 (by decide) (fun _ => ?_) (fun c => absurd (by decide) c)
  refine lv_lload hx hb dX11_commonDivisor_45 (lv_at hl 2 rfl) ?_
  exact W.lret (v := 0) hx hb hr (fun t ht hW => ⟨⟨0, (), rfl, rfl, ht⟩, hS.F ht⟩) hS.2.2 dX11_commonDivisor_47
theorem dX10_digestOn_0 : decode cX10_digestOn 0 = .ok (.lload_n 1, 1) := by decide +kernel
theorem dX10_digestOn_1 : decode cX10_digestOn 1 = .ok (.lstore_n 3, 1) := by decide +kernel
theorem dX10_digestOn_2 : decode cX10_digestOn 2 = .ok (.iconst 0, 1) := by decide +kernel
theorem dX10_digestOn_3 : decode cX10_digestOn 3 = .ok (.istore 5, 2) := by decide +kernel
theorem dX10_digestOn_5 : decode cX10_digestOn 5 = .ok (.iload 5, 2) := by decide +kernel
theorem dX10_digestOn_7 : decode cX10_digestOn 7 = .ok (.aload_n 0, 1) := by decide +kernel
theorem dX10_digestOn_8 : decode cX10_digestOn 8 = .ok (.getfield 34, 3) := by decide +kernel
theorem dX10_digestOn_11 : decode cX10_digestOn 11 = .ok (.if_icmp .ge 40, 3) := by decide +kernel
theorem dX10_digestOn_51 : decode cX10_digestOn 51 = .ok (.iconst 0, 1) := by decide +kernel
theorem dX10_digestOn_52 : decode cX10_digestOn 52 = .ok (.istore 5, 2) := by decide +kernel
theorem dX10_digestOn_54 : decode cX10_digestOn 54 = .ok (.iload 5, 2) := by decide +kernel
theorem dX10_digestOn_56 : decode cX10_digestOn 56 = .ok (.aload_n 0, 1) := by decide +kernel
theorem dX10_digestOn_57 : decode cX10_digestOn 57 = .ok (.getfield 38, 3) := by decide +kernel
theorem dX10_digestOn_60 : decode cX10_digestOn 60 = .ok (.if_icmp .ge 59, 3) := by decide +kernel
theorem dX10_digestOn_119 : decode cX10_digestOn 119 = .ok (.iconst 0, 1) := by decide +kernel
theorem dX10_digestOn_120 : decode cX10_digestOn 120 = .ok (.istore 5, 2) := by decide +kernel
theorem dX10_digestOn_122 : decode cX10_digestOn 122 = .ok (.iload 5, 2) := by decide +kernel
theorem dX10_digestOn_124 : decode cX10_digestOn 124 = .ok (.aload_n 0, 1) := by decide +kernel
theorem dX10_digestOn_125 : decode cX10_digestOn 125 = .ok (.getfield 24, 3) := by decide +kernel
theorem dX10_digestOn_128 : decode cX10_digestOn 128 = .ok (.getfield 64, 3) := by decide +kernel
theorem dX10_digestOn_131 : decode cX10_digestOn 131 = .ok (.if_icmp .ge 31, 3) := by decide +kernel
theorem dX10_digestOn_162 : decode cX10_digestOn 162 = .ok (.lload_n 3, 1) := by decide +kernel
theorem dX10_digestOn_163 : decode cX10_digestOn 163 = .ok (.lreturn, 1) := by decide +kernel
set_option maxHeartbeats 4000000 in
set_option maxRecDepth 100000 in
/-- Town.digestOn: nothing to add -/
theorem cx_townDigest (l : Launch) (dC : Nat → ClassId) (dI : Nat → Nat → Nat) (cs : Nat → ClassId) (ad : Nat → Nat) (H : Heap) (hP : va_P (dC, dI) vwCl (wX cs ad) H) (h : Int64) : Met l yX10_digestOn wsX10_digestOn ({ frames := 0, cells := 0, slots := 0, locals := 0 }) (va_Pc [.ref (ad 4), .long h] (pb_P (dC, dI) vwCl (tyX cs) H)) (va_Ql (fun (z : Int64) (_ : Unit) => z = h) (fun _ t => t.heap = H) (fun _ => False)) 0 0 (fun _ => False) := by
  refine Met.ofW (cc := cX10_digestOn) (maxL := 7) (ret := (some .long)) (by decide) rfl ?_
  intro p e s m args below meth c s₁ B hml hv
  obtain ⟨rfl, hh, hK⟩ := hv
  have hx := B.exec
  have hb := B.bytes
  have hr := B.returns
  have hts := atoms_spec (ws := wsX10_digestOn) B.pre
  have hown : s.vm.findClass RX10 = some m.cls := findClass_of_methodNamed B.named
  have hlocks := B.notSynchronized
  subst hh
  have hS : va_S (fun _ => False) s.heap s.heap [] := va_S.rf
  have hl := lv_entry ([.ref (ad 4), .long h]) (n := 7) (Nat.le_of_ble_eq_true rfl)
  rw [lg_entry_eq]
  generalize (lg_sl ([.ref (ad 4), .long h]) ++ List.replicate (7 - (lg_sl ([.ref (ad 4), .long h])).length) Slot.unset).toArray = ls at hl ⊢
  have hl : lv_has ls 7 [(0, .ref (ad 4)), (1, .long h)] := hl
  refine lv_lload_n hx hb dX10_digestOn_0 rfl (lv_at hl 1 rfl) ?_
  refine lv_lstore_n (lv' := [(3, .long h), (0, .ref (ad 4)), (1, .long h)]) hx hb dX10_digestOn_1 rfl hl (by decide) rfl (fun ls hl => ?_)
  refine lv_iconst (v := 0) hx hb dX10_digestOn_2 (by decide) ?_
  refine lv_istore (lv' := [(5, .int 0), (3, .long h), (0, .ref (ad 4)), (1, .long h)]) hx hb dX10_digestOn_3 hl (by decide) rfl (fun ls hl => ?_)
  refine lv_iload hx hb dX10_digestOn_5 (lv_at hl 0 rfl) ?_
  refine lv_aload_n hx hb dX10_digestOn_7 rfl (lv_at hl 2 rfl) ?_
  refine va_get (D := (dC, dI)) (ci := 10) (v := .int 0) (C := RX10) (T := TX10) (N := 8) hx hb hts (by decide +kernel) hown hK hP 4 rfl rfl 6 (by decide) (hts (.fieldLink RX10 34 "DearLetters$Town" "bearers" "I") (by decide +kernel)) (fun _ h9 => h9) rfl dX10_digestOn_8 ?_
  refine lv_icmp_ge (tgt := 51) hx hb dX10_digestOn_11 (by decide) (fun _ => ?_) (fun c => absurd (by decide) c)
  refine lv_iconst (v := 0) hx hb dX10_digestOn_51 (by decide) ?_
  refine lv_istore (lv' := [(5, .int 0), (3, .long h), (0, .ref (ad 4)), (1, .long h)]) hx hb dX10_digestOn_52 hl (by decide) rfl (fun ls hl => ?_)
  refine lv_iload hx hb dX10_digestOn_54 (lv_at hl 0 rfl) ?_
  refine lv_aload_n hx hb dX10_digestOn_56 rfl (lv_at hl 2 rfl) ?_
  refine va_get (D := (dC, dI)) (ci := 10) (v := .int 0) (C := RX10) (T := TX10) (N := 8) hx hb hts (by decide +kernel) hown hK hP 4 rfl rfl 7 (by decide) (hts (.fieldLink RX10 38 "DearLetters$Town" "paths" "I") (by decide +kernel)) (fun _ h9 => h9) rfl dX10_digestOn_57 ?_
  refine lv_icmp_ge (tgt := 119) hx hb dX10_digestOn_60 (by decide) (fun _ => ?_) (fun c => absurd (by decide) c)
  refine lv_iconst (v := 0) hx hb dX10_digestOn_119 (by decide) ?_
  refine lv_istore (lv' := [(5, .int 0), (3, .long h), (0, .ref (ad 4)), (1, .long h)]) hx hb dX10_digestOn_120 hl (by decide) rfl (fun ls hl => ?_)
  refine lv_iload hx hb dX10_digestOn_122 (lv_at hl 0 rfl) ?_
  refine lv_aload_n hx hb dX10_digestOn_124 rfl (lv_at hl 2 rfl) ?_
  refine va_get (D := (dC, dI)) (ci := 10) (v := .ref (ad 5)) (C := RX10) (T := TX10) (N := 8) hx hb hts (by decide +kernel) hown hK hP 4 rfl rfl 3 (by decide) (hts (.fieldLink RX10 24 "DearLetters$Town" "now" "LDearLetters$Standing;") (by decide +kernel)) (fun _ h9 => h9) rfl dX10_digestOn_125 ?_
  refine va_get (D := (dC, dI)) (ci := 8) (v := .int 0) (C := RX8) (T := TX8) (N := 6) hx hb hts (by decide +kernel) hown hK hP 5 rfl rfl 4 (by decide) (hts (.fieldLink RX10 64 "DearLetters$Standing" "sent" "I") (by decide +kernel)) (fun _ h9 => h9) rfl dX10_digestOn_128 ?_
  refine lv_icmp_ge (tgt := 162) hx hb dX10_digestOn_131 (by decide) (fun _ => ?_) (fun c => absurd (by decide) c)
  refine lv_lload_n hx hb dX10_digestOn_162 rfl (lv_at hl 1 rfl) ?_
  exact W.lret (v := h) hx hb hr (fun t ht hW => ⟨⟨h, (), rfl, rfl, ht⟩, hS.F ht⟩) hS.2.2 dX10_digestOn_163
theorem dX6_digestOn_0 : decode cX6_digestOn 0 = .ok (.ldc2_w 31, 3) := by decide +kernel
theorem dX6_digestOn_3 : decode cX6_digestOn 3 = .ok (.lload_n 1, 1) := by decide +kernel
theorem dX6_digestOn_4 : decode cX6_digestOn 4 = .ok (.lmul, 1) := by decide +kernel
theorem dX6_digestOn_5 : decode cX6_digestOn 5 = .ok (.aload_n 0, 1) := by decide +kernel
theorem dX6_digestOn_6 : decode cX6_digestOn 6 = .ok (.getfield 15, 3) := by decide +kernel
theorem dX6_digestOn_9 : decode cX6_digestOn 9 = .ok (.i2l, 1) := by decide +kernel
theorem dX6_digestOn_10 : decode cX6_digestOn 10 = .ok (.ladd, 1) := by decide +kernel
theorem dX6_digestOn_11 : decode cX6_digestOn 11 = .ok (.lstore_n 3, 1) := by decide +kernel
theorem dX6_digestOn_12 : decode cX6_digestOn 12 = .ok (.iconst 0, 1) := by decide +kernel
theorem dX6_digestOn_13 : decode cX6_digestOn 13 = .ok (.istore 5, 2) := by decide +kernel
theorem dX6_digestOn_15 : decode cX6_digestOn 15 = .ok (.iload 5, 2) := by decide +kernel
theorem dX6_digestOn_17 : decode cX6_digestOn 17 = .ok (.aload_n 0, 1) := by decide +kernel
theorem dX6_digestOn_18 : decode cX6_digestOn 18 = .ok (.getfield 15, 3) := by decide +kernel
theorem dX6_digestOn_21 : decode cX6_digestOn 21 = .ok (.if_icmp .ge 24, 3) := by decide +kernel
theorem dX6_digestOn_45 : decode cX6_digestOn 45 = .ok (.lload_n 3, 1) := by decide +kernel
theorem dX6_digestOn_46 : decode cX6_digestOn 46 = .ok (.lreturn, 1) := by decide +kernel
set_option maxHeartbeats 4000000 in
set_option maxRecDepth 100000 in
/-- Row.digestOn: a size of -1 -/
theorem cx_Row_digestOn (l : Launch) (dC : Nat → ClassId) (dI : Nat → Nat → Nat) (ws : va_W) (tys : List (ClassId × FieldType)) (H : Heap) (hP : va_P (dC, dI) vwCl ws H) (k a q : Nat) (he : ws[k]? = some (a, .inr (6, [.ref q, .int (-1)]))) (h : Int64) : Met l yX6_digestOn wsX6_digestOn ({ frames := 0, cells := 0, slots := 0, locals := 0 }) (va_Pc [.ref a, .long h] (pb_P (dC, dI) vwCl tys H)) (va_Ql (fun (z : Int64) (_ : Unit) => z = (31 * h + (-1))) (fun _ t => t.heap = H) (fun _ => False)) 0 0 (fun _ => False) := by
  refine Met.ofW (cc := cX6_digestOn) (maxL := 6) (ret := (some .long)) (by decide) rfl ?_
  intro p e s m args below meth c s₁ B hml hv
  obtain ⟨rfl, hh, hK⟩ := hv
  have hx := B.exec
  have hb := B.bytes
  have hr := B.returns
  have hts := atoms_spec (ws := wsX6_digestOn) B.pre
  have hown : s.vm.findClass RX6 = some m.cls := findClass_of_methodNamed B.named
  have hlocks := B.notSynchronized
  subst hh
  have hS : va_S (fun _ => False) s.heap s.heap [] := va_S.rf
  have hl := lv_entry ([.ref a, .long h]) (n := 6) (Nat.le_of_ble_eq_true rfl)
  rw [lg_entry_eq]
  generalize (lg_sl ([.ref a, .long h]) ++ List.replicate (6 - (lg_sl ([.ref a, .long h])).length) Slot.unset).toArray = ls at hl ⊢
  have hl : lv_has ls 6 [(0, .ref a), (1, .long h)] := hl
  refine lv_ldc2 (v := 31) hx hb hown (hts (.constantLong RX6 31 31) (by decide +kernel)) dX6_digestOn_0 ?_
  refine lv_lload_n hx hb dX6_digestOn_3 rfl (lv_at hl 1 rfl) ?_
  refine lv_lmul hx hb dX6_digestOn_4 ?_
  refine lv_aload_n hx hb dX6_digestOn_5 rfl (lv_at hl 0 rfl) ?_
  refine va_get (D := (dC, dI)) (ci := 6) (v := .int (-1)) (C := RX6) (T := TX6) (N := 2) hx hb hts (by decide +kernel) hown hK hP k he rfl 1 (by decide) (hts (.fieldLink RX6 15 "DearLetters$Row" "size" "I") (by decide +kernel)) (fun _ h9 => h9) rfl dX6_digestOn_6 ?_
  refine lv_i2l (v := (-1)) hx hb dX6_digestOn_9 (by decide) ?_
  refine lv_ladd hx hb dX6_digestOn_10 ?_
  refine lv_lstore_n (lv' := [(3, .long ((31 * h) + (-1))), (0, .ref a), (1, .long h)]) hx hb dX6_digestOn_11 rfl hl (by decide) rfl (fun ls hl => ?_)
  refine lv_iconst (v := 0) hx hb dX6_digestOn_12 (by decide) ?_
  refine lv_istore (lv' := [(5, .int 0), (3, .long ((31 * h) + (-1))), (0, .ref a), (1, .long h)]) hx hb dX6_digestOn_13 hl (by decide) rfl (fun ls hl => ?_)
  refine lv_iload hx hb dX6_digestOn_15 (lv_at hl 0 rfl) ?_
  refine lv_aload_n hx hb dX6_digestOn_17 rfl (lv_at hl 2 rfl) ?_
  refine va_get (D := (dC, dI)) (ci := 6) (v := .int (-1)) (C := RX6) (T := TX6) (N := 2) hx hb hts (by decide +kernel) hown hK hP k he rfl 1 (by decide) (hts (.fieldLink RX6 15 "DearLetters$Row" "size" "I") (by decide +kernel)) (fun _ h9 => h9) rfl dX6_digestOn_18 ?_
  refine lv_icmp_ge (tgt := 45) hx hb dX6_digestOn_21 (by decide) (fun _ => ?_) (fun c => absurd (by decide) c)
  refine lv_lload_n hx hb dX6_digestOn_45 rfl (lv_at hl 1 rfl) ?_
  exact W.lret (v := ((31 * h) + (-1))) hx hb hr (fun t ht hW => ⟨⟨((31 * h) + (-1)), (), rfl, rfl, ht⟩, hS.F ht⟩) hS.2.2 dX6_digestOn_46
theorem dX9_digestOn_0 : decode cX9_digestOn 0 = .ok (.ldc2_w 25, 3) := by decide +kernel
theorem dX9_digestOn_3 : decode cX9_digestOn 3 = .ok (.lload_n 1, 1) := by decide +kernel
theorem dX9_digestOn_4 : decode cX9_digestOn 4 = .ok (.lmul, 1) := by decide +kernel
theorem dX9_digestOn_5 : decode cX9_digestOn 5 = .ok (.aload_n 0, 1) := by decide +kernel
theorem dX9_digestOn_6 : decode cX9_digestOn 6 = .ok (.getfield 15, 3) := by decide +kernel
theorem dX9_digestOn_9 : decode cX9_digestOn 9 = .ok (.i2l, 1) := by decide +kernel
theorem dX9_digestOn_10 : decode cX9_digestOn 10 = .ok (.ladd, 1) := by decide +kernel
theorem dX9_digestOn_11 : decode cX9_digestOn 11 = .ok (.lstore_n 3, 1) := by decide +kernel
theorem dX9_digestOn_12 : decode cX9_digestOn 12 = .ok (.iconst 0, 1) := by decide +kernel
theorem dX9_digestOn_13 : decode cX9_digestOn 13 = .ok (.istore 5, 2) := by decide +kernel
theorem dX9_digestOn_15 : decode cX9_digestOn 15 = .ok (.iload 5, 2) := by decide +kernel
theorem dX9_digestOn_17 : decode cX9_digestOn 17 = .ok (.aload_n 0, 1) := by decide +kernel
theorem dX9_digestOn_18 : decode cX9_digestOn 18 = .ok (.getfield 15, 3) := by decide +kernel
theorem dX9_digestOn_21 : decode cX9_digestOn 21 = .ok (.if_icmp .ge 24, 3) := by decide +kernel
theorem dX9_digestOn_45 : decode cX9_digestOn 45 = .ok (.lload_n 3, 1) := by decide +kernel
theorem dX9_digestOn_46 : decode cX9_digestOn 46 = .ok (.lreturn, 1) := by decide +kernel
set_option maxHeartbeats 4000000 in
set_option maxRecDepth 100000 in
/-- Text.digestOn: a size of -1 -/
theorem cx_Text_digestOn (l : Launch) (dC : Nat → ClassId) (dI : Nat → Nat → Nat) (ws : va_W) (tys : List (ClassId × FieldType)) (H : Heap) (hP : va_P (dC, dI) vwCl ws H) (k a q : Nat) (he : ws[k]? = some (a, .inr (9, [.ref q, .int (-1)]))) (h : Int64) : Met l yX9_digestOn wsX9_digestOn ({ frames := 0, cells := 0, slots := 0, locals := 0 }) (va_Pc [.ref a, .long h] (pb_P (dC, dI) vwCl tys H)) (va_Ql (fun (z : Int64) (_ : Unit) => z = (31 * h + (-1))) (fun _ t => t.heap = H) (fun _ => False)) 0 0 (fun _ => False) := by
  refine Met.ofW (cc := cX9_digestOn) (maxL := 6) (ret := (some .long)) (by decide) rfl ?_
  intro p e s m args below meth c s₁ B hml hv
  obtain ⟨rfl, hh, hK⟩ := hv
  have hx := B.exec
  have hb := B.bytes
  have hr := B.returns
  have hts := atoms_spec (ws := wsX9_digestOn) B.pre
  have hown : s.vm.findClass RX9 = some m.cls := findClass_of_methodNamed B.named
  have hlocks := B.notSynchronized
  subst hh
  have hS : va_S (fun _ => False) s.heap s.heap [] := va_S.rf
  have hl := lv_entry ([.ref a, .long h]) (n := 6) (Nat.le_of_ble_eq_true rfl)
  rw [lg_entry_eq]
  generalize (lg_sl ([.ref a, .long h]) ++ List.replicate (6 - (lg_sl ([.ref a, .long h])).length) Slot.unset).toArray = ls at hl ⊢
  have hl : lv_has ls 6 [(0, .ref a), (1, .long h)] := hl
  refine lv_ldc2 (v := 31) hx hb hown (hts (.constantLong RX9 25 31) (by decide +kernel)) dX9_digestOn_0 ?_
  refine lv_lload_n hx hb dX9_digestOn_3 rfl (lv_at hl 1 rfl) ?_
  refine lv_lmul hx hb dX9_digestOn_4 ?_
  refine lv_aload_n hx hb dX9_digestOn_5 rfl (lv_at hl 0 rfl) ?_
  refine va_get (D := (dC, dI)) (ci := 9) (v := .int (-1)) (C := RX9) (T := TX9) (N := 2) hx hb hts (by decide +kernel) hown hK hP k he rfl 1 (by decide) (hts (.fieldLink RX9 15 "DearLetters$Text" "size" "I") (by decide +kernel)) (fun _ h9 => h9) rfl dX9_digestOn_6 ?_
  refine lv_i2l (v := (-1)) hx hb dX9_digestOn_9 (by decide) ?_
  refine lv_ladd hx hb dX9_digestOn_10 ?_
  refine lv_lstore_n (lv' := [(3, .long ((31 * h) + (-1))), (0, .ref a), (1, .long h)]) hx hb dX9_digestOn_11 rfl hl (by decide) rfl (fun ls hl => ?_)
  refine lv_iconst (v := 0) hx hb dX9_digestOn_12 (by decide) ?_
  refine lv_istore (lv' := [(5, .int 0), (3, .long ((31 * h) + (-1))), (0, .ref a), (1, .long h)]) hx hb dX9_digestOn_13 hl (by decide) rfl (fun ls hl => ?_)
  refine lv_iload hx hb dX9_digestOn_15 (lv_at hl 0 rfl) ?_
  refine lv_aload_n hx hb dX9_digestOn_17 rfl (lv_at hl 2 rfl) ?_
  refine va_get (D := (dC, dI)) (ci := 9) (v := .int (-1)) (C := RX9) (T := TX9) (N := 2) hx hb hts (by decide +kernel) hown hK hP k he rfl 1 (by decide) (hts (.fieldLink RX9 15 "DearLetters$Text" "size" "I") (by decide +kernel)) (fun _ h9 => h9) rfl dX9_digestOn_18 ?_
  refine lv_icmp_ge (tgt := 45) hx hb dX9_digestOn_21 (by decide) (fun _ => ?_) (fun c => absurd (by decide) c)
  refine lv_lload_n hx hb dX9_digestOn_45 rfl (lv_at hl 1 rfl) ?_
  exact W.lret (v := ((31 * h) + (-1))) hx hb hr (fun t ht hW => ⟨⟨((31 * h) + (-1)), (), rfl, rfl, ht⟩, hS.F ht⟩) hS.2.2 dX9_digestOn_46
theorem dX11_rowsThere_0 : decode cX11_rowsThere 0 = .ok (.iconst 0, 1) := by decide +kernel
theorem dX11_rowsThere_1 : decode cX11_rowsThere 1 = .ok (.istore_n 1, 1) := by decide +kernel
theorem dX11_rowsThere_2 : decode cX11_rowsThere 2 = .ok (.iconst 0, 1) := by decide +kernel
theorem dX11_rowsThere_3 : decode cX11_rowsThere 3 = .ok (.istore_n 2, 1) := by decide +kernel
theorem dX11_rowsThere_4 : decode cX11_rowsThere 4 = .ok (.iload_n 2, 1) := by decide +kernel
theorem dX11_rowsThere_5 : decode cX11_rowsThere 5 = .ok (.bipush 6, 2) := by decide +kernel
theorem dX11_rowsThere_7 : decode cX11_rowsThere 7 = .ok (.if_icmp .ge 29, 3) := by decide +kernel
theorem dX11_rowsThere_10 : decode cX11_rowsThere 10 = .ok (.iload_n 1, 1) := by decide +kernel
theorem dX11_rowsThere_11 : decode cX11_rowsThere 11 = .ok (.aload_n 0, 1) := by decide +kernel
theorem dX11_rowsThere_12 : decode cX11_rowsThere 12 = .ok (.getfield 11, 3) := by decide +kernel
theorem dX11_rowsThere_15 : decode cX11_rowsThere 15 = .ok (.iload_n 2, 1) := by decide +kernel
theorem dX11_rowsThere_16 : decode cX11_rowsThere 16 = .ok (.aaload, 1) := by decide +kernel
theorem dX11_rowsThere_17 : decode cX11_rowsThere 17 = .ok (.invokevirtual 98, 3) := by decide +kernel
theorem dX11_rowsThere_20 : decode cX11_rowsThere 20 = .ok (.ifCond .eq 7, 3) := by decide +kernel
theorem dX11_rowsThere_23 : decode cX11_rowsThere 23 = .ok (.iconst 0, 1) := by decide +kernel
theorem dX11_rowsThere_24 : decode cX11_rowsThere 24 = .ok (.goto 4, 3) := by decide +kernel
theorem dX11_rowsThere_28 : decode cX11_rowsThere 28 = .ok (.iadd, 1) := by decide +kernel
theorem dX11_rowsThere_29 : decode cX11_rowsThere 29 = .ok (.istore_n 1, 1) := by decide +kernel
theorem dX11_rowsThere_30 : decode cX11_rowsThere 30 = .ok (.iinc 2 1, 3) := by decide +kernel
theorem dX11_rowsThere_33 : decode cX11_rowsThere 33 = .ok (.goto (-29), 3) := by decide +kernel
theorem dX11_rowsThere_36 : decode cX11_rowsThere 36 = .ok (.iload_n 1, 1) := by decide +kernel
theorem dX11_rowsThere_37 : decode cX11_rowsThere 37 = .ok (.ireturn, 1) := by decide +kernel
set_option maxRecDepth 20000 in
theorem ggX11_rowsThere_X6_isMissing : GoodIn wsX11_rowsThere wsX6_isMissing := goodIn_r _ [6, 7, 19, 20] (by decide +kernel) (by decide +kernel)
set_option maxRecDepth 20000 in
theorem gX11_rowsThere_X6_isMissing : GoodIn wsX11_rowsThere (wsV RX11 98 RX6 yX6_isMissing wsX6_isMissing) := goodIn_app (goodIn_of _ (by decide +kernel)) ggX11_rowsThere_X6_isMissing
set_option maxHeartbeats 4000000 in
set_option maxRecDepth 100000 in
/-- rowsThere -/
theorem cx_rowsThere (l : Launch) (dC : Nat → ClassId) (dI : Nat → Nat → Nat) (cs : Nat → ClassId) (ad : Nat → Nat) (H : Heap) (hP : va_P (dC, dI) vwCl (wX cs ad) H) : Met l yX11_rowsThere wsX11_rowsThere ({ frames := 1, cells := 0, slots := 0, locals := 20 }) (va_Pc [.ref (ad 0)] (pb_P (dC, dI) vwCl (tyX cs) H)) (va_Qi (fun (z : Int32) (_ : Unit) => z = 0) (fun _ t => t.heap = H) (fun _ => False)) 0 0 (fun _ => False) := by
  refine Met.ofW (cc := cX11_rowsThere) (maxL := 3) (ret := (some .int)) (by decide) rfl ?_
  intro p e s m args below meth c s₁ B hml hv
  obtain ⟨rfl, hh, hK⟩ := hv
  have hx := B.exec
  have hb := B.bytes
  have hr := B.returns
  have hts := atoms_spec (ws := wsX11_rowsThere) B.pre
  have hown : s.vm.findClass RX11 = some m.cls := findClass_of_methodNamed B.named
  have hlocks := B.notSynchronized
  subst hh
  have hS : va_S (fun _ => False) s.heap s.heap [] := va_S.rf
  have hl := lv_entry ([.ref (ad 0)]) (n := 3) (Nat.le_of_ble_eq_true rfl)
  rw [lg_entry_eq]
  generalize (lg_sl ([.ref (ad 0)]) ++ List.replicate (3 - (lg_sl ([.ref (ad 0)])).length) Slot.unset).toArray = ls at hl ⊢
  have hl : lv_has ls 3 [(0, .ref (ad 0))] := hl
  refine lv_iconst (v := 0) hx hb dX11_rowsThere_0 (by decide) ?_
  refine lv_istore_n (lv' := [(1, .int 0), (0, .ref (ad 0))]) hx hb dX11_rowsThere_1 rfl hl (by decide) rfl (fun ls hl => ?_)
  refine lv_iconst (v := 0) hx hb dX11_rowsThere_2 (by decide) ?_
  refine lv_istore_n (lv' := [(2, .int 0), (1, .int 0), (0, .ref (ad 0))]) hx hb dX11_rowsThere_3 rfl hl (by decide) rfl (fun ls hl => ?_)
  refine lv_iload_n hx hb dX11_rowsThere_4 rfl (lv_at hl 0 rfl) ?_
  refine lv_bipush (v := 6) hx hb dX11_rowsThere_5 (by decide) ?_
  refine lv_icmp_ge (tgt := 36) hx hb dX11_rowsThere_7 (by decide) (fun c => absurd c (by decide)) (fun _ => ?_)
  refine lv_iload_n hx hb dX11_rowsThere_10 rfl (lv_at hl 1 rfl) ?_
  refine lv_aload_n hx hb dX11_rowsThere_11 rfl (lv_at hl 2 rfl) ?_
  refine va_get (D := (dC, dI)) (ci := 11) (v := .ref (ad 1)) (C := RX11) (T := TX11) (N := 11) hx hb hts (by decide +kernel) hown hK hP 0 rfl rfl 0 (by decide) (hts (.fieldLink RX11 11 "DearLetters" "rows" "[LDearLetters$Row;") (by decide +kernel)) (fun _ h9 => h9) rfl dX11_rowsThere_12 ?_
  refine lv_iload_n hx hb dX11_rowsThere_15 rfl (lv_at hl 0 rfl) ?_
  refine va_aldq hx hb hK hP 1 0 rfl rfl (show vp_in 0 6 by unfold vp_in; decide) dX11_rowsThere_16 ?_
  refine lq_v (.ref (ad 8)) rfl ?_
  refine cr_i (va_runV (As := []) (rest := [.int 0]) ⟨hx, hb, hml, hown, hts⟩ (cx_Row_isMissing l dC dI (wX cs ad) (tyX cs) s.heap hP 8 (ad 8) (ad 21) rfl) (cwV 0 hts gX11_rowsThere_X6_isMissing rfl rfl rfl (by decide +kernel) ⟨Nat.le_of_ble_eq_true rfl, Nat.le_of_ble_eq_true rfl⟩) ⟨pb_c, va_recv hK hP (ci := 6) (q0 := 8) rfl rfl, pb_m hK⟩ rfl rfl hl.1 rfl (lv_room (Nat.le_of_ble_eq_true rfl)) dX11_rowsThere_17 ⟨Nat.zero_le _, Nat.zero_le _⟩) hS (fun r_1 hw_1 locs hS => ?_)
  obtain rfl : r_1 = 1 := hw_1
  refine lv_if_eq (tgt := 27) hx hb dX11_rowsThere_20 (by decide) (fun c => absurd c (by decide)) (fun _ => ?_)
  refine lv_iconst (v := 0) hx hb dX11_rowsThere_23 (by decide) ?_
  refine lv_goto (tgt := 28) hx hb dX11_rowsThere_24 (by decide) ?_
  refine lv_iadd hx hb dX11_rowsThere_28 ?_
  refine lq_i 0 (by decide) ?_
  refine lv_istore_n (lv' := [(1, .int 0), (2, .int 0), (0, .ref (ad 0))]) hx hb dX11_rowsThere_29 rfl hl (by decide) rfl (fun ls hl => ?_)
  refine lv_iinc (v := 1) (lv' := [(2, .int 1), (1, .int 0), (0, .ref (ad 0))]) hx hb dX11_rowsThere_30 hl (k := 1) rfl (by decide) (by decide) rfl (fun ls hl => ?_)
  refine lv_goto (tgt := 4) hx hb dX11_rowsThere_33 (by decide) ?_
  refine lv_iload_n hx hb dX11_rowsThere_4 rfl (lv_at hl 0 rfl) ?_
  refine lv_bipush (v := 6) hx hb dX11_rowsThere_5 (by decide) ?_
  refine lv_icmp_ge (tgt := 36) hx hb dX11_rowsThere_7 (by decide) (fun c => absurd c (by decide)) (fun _ => ?_)
  refine lv_iload_n hx hb dX11_rowsThere_10 rfl (lv_at hl 1 rfl) ?_
  refine lv_aload_n hx hb dX11_rowsThere_11 rfl (lv_at hl 2 rfl) ?_
  refine va_get (D := (dC, dI)) (ci := 11) (v := .ref (ad 1)) (C := RX11) (T := TX11) (N := 11) hx hb hts (by decide +kernel) hown hK hP 0 rfl rfl 0 (by decide) (hts (.fieldLink RX11 11 "DearLetters" "rows" "[LDearLetters$Row;") (by decide +kernel)) (fun _ h9 => h9) rfl dX11_rowsThere_12 ?_
  refine lv_iload_n hx hb dX11_rowsThere_15 rfl (lv_at hl 0 rfl) ?_
  refine va_aldq hx hb hK hP 1 0 rfl rfl (show vp_in 1 6 by unfold vp_in; decide) dX11_rowsThere_16 ?_
  refine lq_v (.ref (ad 9)) rfl ?_
  refine cr_i (va_runV (As := []) (rest := [.int 0]) ⟨hx, hb, hml, hown, hts⟩ (cx_Row_isMissing l dC dI (wX cs ad) (tyX cs) s.heap hP 9 (ad 9) (ad 22) rfl) (cwV 0 hts gX11_rowsThere_X6_isMissing rfl rfl rfl (by decide +kernel) ⟨Nat.le_of_ble_eq_true rfl, Nat.le_of_ble_eq_true rfl⟩) ⟨pb_c, va_recv hK hP (ci := 6) (q0 := 9) rfl rfl, pb_m hK⟩ rfl rfl hl.1 rfl (lv_room (Nat.le_of_ble_eq_true rfl)) dX11_rowsThere_17 ⟨Nat.zero_le _, Nat.zero_le _⟩) hS (fun r_2 hw_2 locs hS => ?_)
  obtain rfl : r_2 = 1 := hw_2
  refine lv_if_eq (tgt := 27) hx hb dX11_rowsThere_20 (by decide) (fun c => absurd c (by decide)) (fun _ => ?_)
  refine lv_iconst (v := 0) hx hb dX11_rowsThere_23 (by decide) ?_
  refine lv_goto (tgt := 28) hx hb dX11_rowsThere_24 (by decide) ?_
  refine lv_iadd hx hb dX11_rowsThere_28 ?_
  refine lq_i 0 (by decide) ?_
  refine lv_istore_n (lv' := [(1, .int 0), (2, .int 1), (0, .ref (ad 0))]) hx hb dX11_rowsThere_29 rfl hl (by decide) rfl (fun ls hl => ?_)
  refine lv_iinc (v := 2) (lv' := [(2, .int 2), (1, .int 0), (0, .ref (ad 0))]) hx hb dX11_rowsThere_30 hl (k := 1) rfl (by decide) (by decide) rfl (fun ls hl => ?_)
  refine lv_goto (tgt := 4) hx hb dX11_rowsThere_33 (by decide) ?_
  refine lv_iload_n hx hb dX11_rowsThere_4 rfl (lv_at hl 0 rfl) ?_
  refine lv_bipush (v := 6) hx hb dX11_rowsThere_5 (by decide) ?_
  refine lv_icmp_ge (tgt := 36) hx hb dX11_rowsThere_7 (by decide) (fun c => absurd c (by decide)) (fun _ => ?_)
  refine lv_iload_n hx hb dX11_rowsThere_10 rfl (lv_at hl 1 rfl) ?_
  refine lv_aload_n hx hb dX11_rowsThere_11 rfl (lv_at hl 2 rfl) ?_
  refine va_get (D := (dC, dI)) (ci := 11) (v := .ref (ad 1)) (C := RX11) (T := TX11) (N := 11) hx hb hts (by decide +kernel) hown hK hP 0 rfl rfl 0 (by decide) (hts (.fieldLink RX11 11 "DearLetters" "rows" "[LDearLetters$Row;") (by decide +kernel)) (fun _ h9 => h9) rfl dX11_rowsThere_12 ?_
  refine lv_iload_n hx hb dX11_rowsThere_15 rfl (lv_at hl 0 rfl) ?_
  refine va_aldq hx hb hK hP 1 0 rfl rfl (show vp_in 2 6 by unfold vp_in; decide) dX11_rowsThere_16 ?_
  refine lq_v (.ref (ad 10)) rfl ?_
  refine cr_i (va_runV (As := []) (rest := [.int 0]) ⟨hx, hb, hml, hown, hts⟩ (cx_Row_isMissing l dC dI (wX cs ad) (tyX cs) s.heap hP 10 (ad 10) (ad 23) rfl) (cwV 0 hts gX11_rowsThere_X6_isMissing rfl rfl rfl (by decide +kernel) ⟨Nat.le_of_ble_eq_true rfl, Nat.le_of_ble_eq_true rfl⟩) ⟨pb_c, va_recv hK hP (ci := 6) (q0 := 10) rfl rfl, pb_m hK⟩ rfl rfl hl.1 rfl (lv_room (Nat.le_of_ble_eq_true rfl)) dX11_rowsThere_17 ⟨Nat.zero_le _, Nat.zero_le _⟩) hS (fun r_3 hw_3 locs hS => ?_)
  obtain rfl : r_3 = 1 := hw_3
  refine lv_if_eq (tgt := 27) hx hb dX11_rowsThere_20 (by decide) (fun c => absurd c (by decide)) (fun _ => ?_)
  refine lv_iconst (v := 0) hx hb dX11_rowsThere_23 (by decide) ?_
  refine lv_goto (tgt := 28) hx hb dX11_rowsThere_24 (by decide) ?_
  refine lv_iadd hx hb dX11_rowsThere_28 ?_
  refine lq_i 0 (by decide) ?_
  refine lv_istore_n (lv' := [(1, .int 0), (2, .int 2), (0, .ref (ad 0))]) hx hb dX11_rowsThere_29 rfl hl (by decide) rfl (fun ls hl => ?_)
  refine lv_iinc (v := 3) (lv' := [(2, .int 3), (1, .int 0), (0, .ref (ad 0))]) hx hb dX11_rowsThere_30 hl (k := 1) rfl (by decide) (by decide) rfl (fun ls hl => ?_)
  refine lv_goto (tgt := 4) hx hb dX11_rowsThere_33 (by decide) ?_
  refine lv_iload_n hx hb dX11_rowsThere_4 rfl (lv_at hl 0 rfl) ?_
  refine lv_bipush (v := 6) hx hb dX11_rowsThere_5 (by decide) ?_
  refine lv_icmp_ge (tgt := 36) hx hb dX11_rowsThere_7 (by decide) (fun c => absurd c (by decide)) (fun _ => ?_)
  refine lv_iload_n hx hb dX11_rowsThere_10 rfl (lv_at hl 1 rfl) ?_
  refine lv_aload_n hx hb dX11_rowsThere_11 rfl (lv_at hl 2 rfl) ?_
  refine va_get (D := (dC, dI)) (ci := 11) (v := .ref (ad 1)) (C := RX11) (T := TX11) (N := 11) hx hb hts (by decide +kernel) hown hK hP 0 rfl rfl 0 (by decide) (hts (.fieldLink RX11 11 "DearLetters" "rows" "[LDearLetters$Row;") (by decide +kernel)) (fun _ h9 => h9) rfl dX11_rowsThere_12 ?_
  refine lv_iload_n hx hb dX11_rowsThere_15 rfl (lv_at hl 0 rfl) ?_
  refine va_aldq hx hb hK hP 1 0 rfl rfl (show vp_in 3 6 by unfold vp_in; decide) dX11_rowsThere_16 ?_
  refine lq_v (.ref (ad 11)) rfl ?_
  refine cr_i (va_runV (As := []) (rest := [.int 0]) ⟨hx, hb, hml, hown, hts⟩ (cx_Row_isMissing l dC dI (wX cs ad) (tyX cs) s.heap hP 11 (ad 11) (ad 24) rfl) (cwV 0 hts gX11_rowsThere_X6_isMissing rfl rfl rfl (by decide +kernel) ⟨Nat.le_of_ble_eq_true rfl, Nat.le_of_ble_eq_true rfl⟩) ⟨pb_c, va_recv hK hP (ci := 6) (q0 := 11) rfl rfl, pb_m hK⟩ rfl rfl hl.1 rfl (lv_room (Nat.le_of_ble_eq_true rfl)) dX11_rowsThere_17 ⟨Nat.zero_le _, Nat.zero_le _⟩) hS (fun r_4 hw_4 locs hS => ?_)
  obtain rfl : r_4 = 1 := hw_4
  refine lv_if_eq (tgt := 27) hx hb dX11_rowsThere_20 (by decide) (fun c => absurd c (by decide)) (fun _ => ?_)
  refine lv_iconst (v := 0) hx hb dX11_rowsThere_23 (by decide) ?_
  refine lv_goto (tgt := 28) hx hb dX11_rowsThere_24 (by decide) ?_
  refine lv_iadd hx hb dX11_rowsThere_28 ?_
  refine lq_i 0 (by decide) ?_
  refine lv_istore_n (lv' := [(1, .int 0), (2, .int 3), (0, .ref (ad 0))]) hx hb dX11_rowsThere_29 rfl hl (by decide) rfl (fun ls hl => ?_)
  refine lv_iinc (v := 4) (lv' := [(2, .int 4), (1, .int 0), (0, .ref (ad 0))]) hx hb dX11_rowsThere_30 hl (k := 1) rfl (by decide) (by decide) rfl (fun ls hl => ?_)
  refine lv_goto (tgt := 4) hx hb dX11_rowsThere_33 (by decide) ?_
  refine lv_iload_n hx hb dX11_rowsThere_4 rfl (lv_at hl 0 rfl) ?_
  refine lv_bipush (v := 6) hx hb dX11_rowsThere_5 (by decide) ?_
  refine lv_icmp_ge (tgt := 36) hx hb dX11_rowsThere_7 (by decide) (fun c => absurd c (by decide)) (fun _ => ?_)
  refine lv_iload_n hx hb dX11_rowsThere_10 rfl (lv_at hl 1 rfl) ?_
  refine lv_aload_n hx hb dX11_rowsThere_11 rfl (lv_at hl 2 rfl) ?_
  refine va_get (D := (dC, dI)) (ci := 11) (v := .ref (ad 1)) (C := RX11) (T := TX11) (N := 11) hx hb hts (by decide +kernel) hown hK hP 0 rfl rfl 0 (by decide) (hts (.fieldLink RX11 11 "DearLetters" "rows" "[LDearLetters$Row;") (by decide +kernel)) (fun _ h9 => h9) rfl dX11_rowsThere_12 ?_
  refine lv_iload_n hx hb dX11_rowsThere_15 rfl (lv_at hl 0 rfl) ?_
  refine va_aldq hx hb hK hP 1 0 rfl rfl (show vp_in 4 6 by unfold vp_in; decide) dX11_rowsThere_16 ?_
  refine lq_v (.ref (ad 12)) rfl ?_
  refine cr_i (va_runV (As := []) (rest := [.int 0]) ⟨hx, hb, hml, hown, hts⟩ (cx_Row_isMissing l dC dI (wX cs ad) (tyX cs) s.heap hP 12 (ad 12) (ad 25) rfl) (cwV 0 hts gX11_rowsThere_X6_isMissing rfl rfl rfl (by decide +kernel) ⟨Nat.le_of_ble_eq_true rfl, Nat.le_of_ble_eq_true rfl⟩) ⟨pb_c, va_recv hK hP (ci := 6) (q0 := 12) rfl rfl, pb_m hK⟩ rfl rfl hl.1 rfl (lv_room (Nat.le_of_ble_eq_true rfl)) dX11_rowsThere_17 ⟨Nat.zero_le _, Nat.zero_le _⟩) hS (fun r_5 hw_5 locs hS => ?_)
  obtain rfl : r_5 = 1 := hw_5
  refine lv_if_eq (tgt := 27) hx hb dX11_rowsThere_20 (by decide) (fun c => absurd c (by decide)) (fun _ => ?_)
  refine lv_iconst (v := 0) hx hb dX11_rowsThere_23 (by decide) ?_
  refine lv_goto (tgt := 28) hx hb dX11_rowsThere_24 (by decide) ?_
  refine lv_iadd hx hb dX11_rowsThere_28 ?_
  refine lq_i 0 (by decide) ?_
  refine lv_istore_n (lv' := [(1, .int 0), (2, .int 4), (0, .ref (ad 0))]) hx hb dX11_rowsThere_29 rfl hl (by decide) rfl (fun ls hl => ?_)
  refine lv_iinc (v := 5) (lv' := [(2, .int 5), (1, .int 0), (0, .ref (ad 0))]) hx hb dX11_rowsThere_30 hl (k := 1) rfl (by decide) (by decide) rfl (fun ls hl => ?_)
  refine lv_goto (tgt := 4) hx hb dX11_rowsThere_33 (by decide) ?_
  refine lv_iload_n hx hb dX11_rowsThere_4 rfl (lv_at hl 0 rfl) ?_
  refine lv_bipush (v := 6) hx hb dX11_rowsThere_5 (by decide) ?_
  refine lv_icmp_ge (tgt := 36) hx hb dX11_rowsThere_7 (by decide) (fun c => absurd c (by decide)) (fun _ => ?_)
  refine lv_iload_n hx hb dX11_rowsThere_10 rfl (lv_at hl 1 rfl) ?_
  refine lv_aload_n hx hb dX11_rowsThere_11 rfl (lv_at hl 2 rfl) ?_
  refine va_get (D := (dC, dI)) (ci := 11) (v := .ref (ad 1)) (C := RX11) (T := TX11) (N := 11) hx hb hts (by decide +kernel) hown hK hP 0 rfl rfl 0 (by decide) (hts (.fieldLink RX11 11 "DearLetters" "rows" "[LDearLetters$Row;") (by decide +kernel)) (fun _ h9 => h9) rfl dX11_rowsThere_12 ?_
  refine lv_iload_n hx hb dX11_rowsThere_15 rfl (lv_at hl 0 rfl) ?_
  refine va_aldq hx hb hK hP 1 0 rfl rfl (show vp_in 5 6 by unfold vp_in; decide) dX11_rowsThere_16 ?_
  refine lq_v (.ref (ad 13)) rfl ?_
  refine cr_i (va_runV (As := []) (rest := [.int 0]) ⟨hx, hb, hml, hown, hts⟩ (cx_Row_isMissing l dC dI (wX cs ad) (tyX cs) s.heap hP 13 (ad 13) (ad 26) rfl) (cwV 0 hts gX11_rowsThere_X6_isMissing rfl rfl rfl (by decide +kernel) ⟨Nat.le_of_ble_eq_true rfl, Nat.le_of_ble_eq_true rfl⟩) ⟨pb_c, va_recv hK hP (ci := 6) (q0 := 13) rfl rfl, pb_m hK⟩ rfl rfl hl.1 rfl (lv_room (Nat.le_of_ble_eq_true rfl)) dX11_rowsThere_17 ⟨Nat.zero_le _, Nat.zero_le _⟩) hS (fun r_6 hw_6 locs hS => ?_)
  obtain rfl : r_6 = 1 := hw_6
  refine lv_if_eq (tgt := 27) hx hb dX11_rowsThere_20 (by decide) (fun c => absurd c (by decide)) (fun _ => ?_)
  refine lv_iconst (v := 0) hx hb dX11_rowsThere_23 (by decide) ?_
  refine lv_goto (tgt := 28) hx hb dX11_rowsThere_24 (by decide) ?_
  refine lv_iadd hx hb dX11_rowsThere_28 ?_
  refine lq_i 0 (by decide) ?_
  refine lv_istore_n (lv' := [(1, .int 0), (2, .int 5), (0, .ref (ad 0))]) hx hb dX11_rowsThere_29 rfl hl (by decide) rfl (fun ls hl => ?_)
  refine lv_iinc (v := 6) (lv' := [(2, .int 6), (1, .int 0), (0, .ref (ad 0))]) hx hb dX11_rowsThere_30 hl (k := 1) rfl (by decide) (by decide) rfl (fun ls hl => ?_)
  refine lv_goto (tgt := 4) hx hb dX11_rowsThere_33 (by decide) ?_
  refine lv_iload_n hx hb dX11_rowsThere_4 rfl (lv_at hl 0 rfl) ?_
  refine lv_bipush (v := 6) hx hb dX11_rowsThere_5 (by decide) ?_
  refine lv_icmp_ge (tgt := 36) hx hb dX11_rowsThere_7 (by decide) (fun _ => ?_) (fun c => absurd (by decide) c)
  refine lv_iload_n hx hb dX11_rowsThere_36 rfl (lv_at hl 1 rfl) ?_
  exact W.iret (v := 0) hx hb hr (fun t ht hW => ⟨⟨0, (), rfl, rfl, ht⟩, hS.F ht⟩) hS.2.2 dX11_rowsThere_37
theorem dX11_textsThere_0 : decode cX11_textsThere 0 = .ok (.iconst 0, 1) := by decide +kernel
theorem dX11_textsThere_1 : decode cX11_textsThere 1 = .ok (.istore_n 1, 1) := by decide +kernel
theorem dX11_textsThere_2 : decode cX11_textsThere 2 = .ok (.iconst 0, 1) := by decide +kernel
theorem dX11_textsThere_3 : decode cX11_textsThere 3 = .ok (.istore_n 2, 1) := by decide +kernel
theorem dX11_textsThere_4 : decode cX11_textsThere 4 = .ok (.iload_n 2, 1) := by decide +kernel
theorem dX11_textsThere_5 : decode cX11_textsThere 5 = .ok (.iconst 4, 1) := by decide +kernel
theorem dX11_textsThere_6 : decode cX11_textsThere 6 = .ok (.if_icmp .ge 29, 3) := by decide +kernel
theorem dX11_textsThere_9 : decode cX11_textsThere 9 = .ok (.iload_n 1, 1) := by decide +kernel
theorem dX11_textsThere_10 : decode cX11_textsThere 10 = .ok (.aload_n 0, 1) := by decide +kernel
theorem dX11_textsThere_11 : decode cX11_textsThere 11 = .ok (.getfield 17, 3) := by decide +kernel
theorem dX11_textsThere_14 : decode cX11_textsThere 14 = .ok (.iload_n 2, 1) := by decide +kernel
theorem dX11_textsThere_15 : decode cX11_textsThere 15 = .ok (.aaload, 1) := by decide +kernel
theorem dX11_textsThere_16 : decode cX11_textsThere 16 = .ok (.invokevirtual 382, 3) := by decide +kernel
theorem dX11_textsThere_19 : decode cX11_textsThere 19 = .ok (.ifCond .eq 7, 3) := by decide +kernel
theorem dX11_textsThere_22 : decode cX11_textsThere 22 = .ok (.iconst 0, 1) := by decide +kernel
theorem dX11_textsThere_23 : decode cX11_textsThere 23 = .ok (.goto 4, 3) := by decide +kernel
theorem dX11_textsThere_27 : decode cX11_textsThere 27 = .ok (.iadd, 1) := by decide +kernel
theorem dX11_textsThere_28 : decode cX11_textsThere 28 = .ok (.istore_n 1, 1) := by decide +kernel
theorem dX11_textsThere_29 : decode cX11_textsThere 29 = .ok (.iinc 2 1, 3) := by decide +kernel
theorem dX11_textsThere_32 : decode cX11_textsThere 32 = .ok (.goto (-28), 3) := by decide +kernel
theorem dX11_textsThere_35 : decode cX11_textsThere 35 = .ok (.iload_n 1, 1) := by decide +kernel
theorem dX11_textsThere_36 : decode cX11_textsThere 36 = .ok (.ireturn, 1) := by decide +kernel
set_option maxRecDepth 20000 in
theorem ggX11_textsThere_X9_isMissing : GoodIn wsX11_textsThere wsX9_isMissing := goodIn_r _ [6, 7, 19, 20] (by decide +kernel) (by decide +kernel)
set_option maxRecDepth 20000 in
theorem gX11_textsThere_X9_isMissing : GoodIn wsX11_textsThere (wsV RX11 382 RX9 yX9_isMissing wsX9_isMissing) := goodIn_app (goodIn_of _ (by decide +kernel)) ggX11_textsThere_X9_isMissing
set_option maxHeartbeats 4000000 in
set_option maxRecDepth 100000 in
/-- textsThere -/
theorem cx_textsThere (l : Launch) (dC : Nat → ClassId) (dI : Nat → Nat → Nat) (cs : Nat → ClassId) (ad : Nat → Nat) (H : Heap) (hP : va_P (dC, dI) vwCl (wX cs ad) H) : Met l yX11_textsThere wsX11_textsThere ({ frames := 1, cells := 0, slots := 0, locals := 20 }) (va_Pc [.ref (ad 0)] (pb_P (dC, dI) vwCl (tyX cs) H)) (va_Qi (fun (z : Int32) (_ : Unit) => z = 0) (fun _ t => t.heap = H) (fun _ => False)) 0 0 (fun _ => False) := by
  refine Met.ofW (cc := cX11_textsThere) (maxL := 3) (ret := (some .int)) (by decide) rfl ?_
  intro p e s m args below meth c s₁ B hml hv
  obtain ⟨rfl, hh, hK⟩ := hv
  have hx := B.exec
  have hb := B.bytes
  have hr := B.returns
  have hts := atoms_spec (ws := wsX11_textsThere) B.pre
  have hown : s.vm.findClass RX11 = some m.cls := findClass_of_methodNamed B.named
  have hlocks := B.notSynchronized
  subst hh
  have hS : va_S (fun _ => False) s.heap s.heap [] := va_S.rf
  have hl := lv_entry ([.ref (ad 0)]) (n := 3) (Nat.le_of_ble_eq_true rfl)
  rw [lg_entry_eq]
  generalize (lg_sl ([.ref (ad 0)]) ++ List.replicate (3 - (lg_sl ([.ref (ad 0)])).length) Slot.unset).toArray = ls at hl ⊢
  have hl : lv_has ls 3 [(0, .ref (ad 0))] := hl
  refine lv_iconst (v := 0) hx hb dX11_textsThere_0 (by decide) ?_
  refine lv_istore_n (lv' := [(1, .int 0), (0, .ref (ad 0))]) hx hb dX11_textsThere_1 rfl hl (by decide) rfl (fun ls hl => ?_)
  refine lv_iconst (v := 0) hx hb dX11_textsThere_2 (by decide) ?_
  refine lv_istore_n (lv' := [(2, .int 0), (1, .int 0), (0, .ref (ad 0))]) hx hb dX11_textsThere_3 rfl hl (by decide) rfl (fun ls hl => ?_)
  refine lv_iload_n hx hb dX11_textsThere_4 rfl (lv_at hl 0 rfl) ?_
  refine lv_iconst (v := 4) hx hb dX11_textsThere_5 (by decide) ?_
  refine lv_icmp_ge (tgt := 35) hx hb dX11_textsThere_6 (by decide) (fun c => absurd c (by decide)) (fun _ => ?_)
  refine lv_iload_n hx hb dX11_textsThere_9 rfl (lv_at hl 1 rfl) ?_
  refine lv_aload_n hx hb dX11_textsThere_10 rfl (lv_at hl 2 rfl) ?_
  refine va_get (D := (dC, dI)) (ci := 11) (v := .ref (ad 2)) (C := RX11) (T := TX11) (N := 11) hx hb hts (by decide +kernel) hown hK hP 0 rfl rfl 1 (by decide) (hts (.fieldLink RX11 17 "DearLetters" "texts" "[LDearLetters$Text;") (by decide +kernel)) (fun _ h9 => h9) rfl dX11_textsThere_11 ?_
  refine lv_iload_n hx hb dX11_textsThere_14 rfl (lv_at hl 0 rfl) ?_
  refine va_aldq hx hb hK hP 2 1 rfl rfl (show vp_in 0 4 by unfold vp_in; decide) dX11_textsThere_15 ?_
  refine lq_v (.ref (ad 14)) rfl ?_
  refine cr_i (va_runV (As := []) (rest := [.int 0]) ⟨hx, hb, hml, hown, hts⟩ (cx_Text_isMissing l dC dI (wX cs ad) (tyX cs) s.heap hP 14 (ad 14) (ad 27) rfl) (cwV 0 hts gX11_textsThere_X9_isMissing rfl rfl rfl (by decide +kernel) ⟨Nat.le_of_ble_eq_true rfl, Nat.le_of_ble_eq_true rfl⟩) ⟨pb_c, va_recv hK hP (ci := 9) (q0 := 14) rfl rfl, pb_m hK⟩ rfl rfl hl.1 rfl (lv_room (Nat.le_of_ble_eq_true rfl)) dX11_textsThere_16 ⟨Nat.zero_le _, Nat.zero_le _⟩) hS (fun r_1 hw_1 locs hS => ?_)
  obtain rfl : r_1 = 1 := hw_1
  refine lv_if_eq (tgt := 26) hx hb dX11_textsThere_19 (by decide) (fun c => absurd c (by decide)) (fun _ => ?_)
  refine lv_iconst (v := 0) hx hb dX11_textsThere_22 (by decide) ?_
  refine lv_goto (tgt := 27) hx hb dX11_textsThere_23 (by decide) ?_
  refine lv_iadd hx hb dX11_textsThere_27 ?_
  refine lq_i 0 (by decide) ?_
  refine lv_istore_n (lv' := [(1, .int 0), (2, .int 0), (0, .ref (ad 0))]) hx hb dX11_textsThere_28 rfl hl (by decide) rfl (fun ls hl => ?_)
  refine lv_iinc (v := 1) (lv' := [(2, .int 1), (1, .int 0), (0, .ref (ad 0))]) hx hb dX11_textsThere_29 hl (k := 1) rfl (by decide) (by decide) rfl (fun ls hl => ?_)
  refine lv_goto (tgt := 4) hx hb dX11_textsThere_32 (by decide) ?_
  refine lv_iload_n hx hb dX11_textsThere_4 rfl (lv_at hl 0 rfl) ?_
  refine lv_iconst (v := 4) hx hb dX11_textsThere_5 (by decide) ?_
  refine lv_icmp_ge (tgt := 35) hx hb dX11_textsThere_6 (by decide) (fun c => absurd c (by decide)) (fun _ => ?_)
  refine lv_iload_n hx hb dX11_textsThere_9 rfl (lv_at hl 1 rfl) ?_
  refine lv_aload_n hx hb dX11_textsThere_10 rfl (lv_at hl 2 rfl) ?_
  refine va_get (D := (dC, dI)) (ci := 11) (v := .ref (ad 2)) (C := RX11) (T := TX11) (N := 11) hx hb hts (by decide +kernel) hown hK hP 0 rfl rfl 1 (by decide) (hts (.fieldLink RX11 17 "DearLetters" "texts" "[LDearLetters$Text;") (by decide +kernel)) (fun _ h9 => h9) rfl dX11_textsThere_11 ?_
  refine lv_iload_n hx hb dX11_textsThere_14 rfl (lv_at hl 0 rfl) ?_
  refine va_aldq hx hb hK hP 2 1 rfl rfl (show vp_in 1 4 by unfold vp_in; decide) dX11_textsThere_15 ?_
  refine lq_v (.ref (ad 15)) rfl ?_
  refine cr_i (va_runV (As := []) (rest := [.int 0]) ⟨hx, hb, hml, hown, hts⟩ (cx_Text_isMissing l dC dI (wX cs ad) (tyX cs) s.heap hP 15 (ad 15) (ad 28) rfl) (cwV 0 hts gX11_textsThere_X9_isMissing rfl rfl rfl (by decide +kernel) ⟨Nat.le_of_ble_eq_true rfl, Nat.le_of_ble_eq_true rfl⟩) ⟨pb_c, va_recv hK hP (ci := 9) (q0 := 15) rfl rfl, pb_m hK⟩ rfl rfl hl.1 rfl (lv_room (Nat.le_of_ble_eq_true rfl)) dX11_textsThere_16 ⟨Nat.zero_le _, Nat.zero_le _⟩) hS (fun r_2 hw_2 locs hS => ?_)
  obtain rfl : r_2 = 1 := hw_2
  refine lv_if_eq (tgt := 26) hx hb dX11_textsThere_19 (by decide) (fun c => absurd c (by decide)) (fun _ => ?_)
  refine lv_iconst (v := 0) hx hb dX11_textsThere_22 (by decide) ?_
  refine lv_goto (tgt := 27) hx hb dX11_textsThere_23 (by decide) ?_
  refine lv_iadd hx hb dX11_textsThere_27 ?_
  refine lq_i 0 (by decide) ?_
  refine lv_istore_n (lv' := [(1, .int 0), (2, .int 1), (0, .ref (ad 0))]) hx hb dX11_textsThere_28 rfl hl (by decide) rfl (fun ls hl => ?_)
  refine lv_iinc (v := 2) (lv' := [(2, .int 2), (1, .int 0), (0, .ref (ad 0))]) hx hb dX11_textsThere_29 hl (k := 1) rfl (by decide) (by decide) rfl (fun ls hl => ?_)
  refine lv_goto (tgt := 4) hx hb dX11_textsThere_32 (by decide) ?_
  refine lv_iload_n hx hb dX11_textsThere_4 rfl (lv_at hl 0 rfl) ?_
  refine lv_iconst (v := 4) hx hb dX11_textsThere_5 (by decide) ?_
  refine lv_icmp_ge (tgt := 35) hx hb dX11_textsThere_6 (by decide) (fun c => absurd c (by decide)) (fun _ => ?_)
  refine lv_iload_n hx hb dX11_textsThere_9 rfl (lv_at hl 1 rfl) ?_
  refine lv_aload_n hx hb dX11_textsThere_10 rfl (lv_at hl 2 rfl) ?_
  refine va_get (D := (dC, dI)) (ci := 11) (v := .ref (ad 2)) (C := RX11) (T := TX11) (N := 11) hx hb hts (by decide +kernel) hown hK hP 0 rfl rfl 1 (by decide) (hts (.fieldLink RX11 17 "DearLetters" "texts" "[LDearLetters$Text;") (by decide +kernel)) (fun _ h9 => h9) rfl dX11_textsThere_11 ?_
  refine lv_iload_n hx hb dX11_textsThere_14 rfl (lv_at hl 0 rfl) ?_
  refine va_aldq hx hb hK hP 2 1 rfl rfl (show vp_in 2 4 by unfold vp_in; decide) dX11_textsThere_15 ?_
  refine lq_v (.ref (ad 16)) rfl ?_
  refine cr_i (va_runV (As := []) (rest := [.int 0]) ⟨hx, hb, hml, hown, hts⟩ (cx_Text_isMissing l dC dI (wX cs ad) (tyX cs) s.heap hP 16 (ad 16) (ad 29) rfl) (cwV 0 hts gX11_textsThere_X9_isMissing rfl rfl rfl (by decide +kernel) ⟨Nat.le_of_ble_eq_true rfl, Nat.le_of_ble_eq_true rfl⟩) ⟨pb_c, va_recv hK hP (ci := 9) (q0 := 16) rfl rfl, pb_m hK⟩ rfl rfl hl.1 rfl (lv_room (Nat.le_of_ble_eq_true rfl)) dX11_textsThere_16 ⟨Nat.zero_le _, Nat.zero_le _⟩) hS (fun r_3 hw_3 locs hS => ?_)
  obtain rfl : r_3 = 1 := hw_3
  refine lv_if_eq (tgt := 26) hx hb dX11_textsThere_19 (by decide) (fun c => absurd c (by decide)) (fun _ => ?_)
  refine lv_iconst (v := 0) hx hb dX11_textsThere_22 (by decide) ?_
  refine lv_goto (tgt := 27) hx hb dX11_textsThere_23 (by decide) ?_
  refine lv_iadd hx hb dX11_textsThere_27 ?_
  refine lq_i 0 (by decide) ?_
  refine lv_istore_n (lv' := [(1, .int 0), (2, .int 2), (0, .ref (ad 0))]) hx hb dX11_textsThere_28 rfl hl (by decide) rfl (fun ls hl => ?_)
  refine lv_iinc (v := 3) (lv' := [(2, .int 3), (1, .int 0), (0, .ref (ad 0))]) hx hb dX11_textsThere_29 hl (k := 1) rfl (by decide) (by decide) rfl (fun ls hl => ?_)
  refine lv_goto (tgt := 4) hx hb dX11_textsThere_32 (by decide) ?_
  refine lv_iload_n hx hb dX11_textsThere_4 rfl (lv_at hl 0 rfl) ?_
  refine lv_iconst (v := 4) hx hb dX11_textsThere_5 (by decide) ?_
  refine lv_icmp_ge (tgt := 35) hx hb dX11_textsThere_6 (by decide) (fun c => absurd c (by decide)) (fun _ => ?_)
  refine lv_iload_n hx hb dX11_textsThere_9 rfl (lv_at hl 1 rfl) ?_
  refine lv_aload_n hx hb dX11_textsThere_10 rfl (lv_at hl 2 rfl) ?_
  refine va_get (D := (dC, dI)) (ci := 11) (v := .ref (ad 2)) (C := RX11) (T := TX11) (N := 11) hx hb hts (by decide +kernel) hown hK hP 0 rfl rfl 1 (by decide) (hts (.fieldLink RX11 17 "DearLetters" "texts" "[LDearLetters$Text;") (by decide +kernel)) (fun _ h9 => h9) rfl dX11_textsThere_11 ?_
  refine lv_iload_n hx hb dX11_textsThere_14 rfl (lv_at hl 0 rfl) ?_
  refine va_aldq hx hb hK hP 2 1 rfl rfl (show vp_in 3 4 by unfold vp_in; decide) dX11_textsThere_15 ?_
  refine lq_v (.ref (ad 17)) rfl ?_
  refine cr_i (va_runV (As := []) (rest := [.int 0]) ⟨hx, hb, hml, hown, hts⟩ (cx_Text_isMissing l dC dI (wX cs ad) (tyX cs) s.heap hP 17 (ad 17) (ad 30) rfl) (cwV 0 hts gX11_textsThere_X9_isMissing rfl rfl rfl (by decide +kernel) ⟨Nat.le_of_ble_eq_true rfl, Nat.le_of_ble_eq_true rfl⟩) ⟨pb_c, va_recv hK hP (ci := 9) (q0 := 17) rfl rfl, pb_m hK⟩ rfl rfl hl.1 rfl (lv_room (Nat.le_of_ble_eq_true rfl)) dX11_textsThere_16 ⟨Nat.zero_le _, Nat.zero_le _⟩) hS (fun r_4 hw_4 locs hS => ?_)
  obtain rfl : r_4 = 1 := hw_4
  refine lv_if_eq (tgt := 26) hx hb dX11_textsThere_19 (by decide) (fun c => absurd c (by decide)) (fun _ => ?_)
  refine lv_iconst (v := 0) hx hb dX11_textsThere_22 (by decide) ?_
  refine lv_goto (tgt := 27) hx hb dX11_textsThere_23 (by decide) ?_
  refine lv_iadd hx hb dX11_textsThere_27 ?_
  refine lq_i 0 (by decide) ?_
  refine lv_istore_n (lv' := [(1, .int 0), (2, .int 3), (0, .ref (ad 0))]) hx hb dX11_textsThere_28 rfl hl (by decide) rfl (fun ls hl => ?_)
  refine lv_iinc (v := 4) (lv' := [(2, .int 4), (1, .int 0), (0, .ref (ad 0))]) hx hb dX11_textsThere_29 hl (k := 1) rfl (by decide) (by decide) rfl (fun ls hl => ?_)
  refine lv_goto (tgt := 4) hx hb dX11_textsThere_32 (by decide) ?_
  refine lv_iload_n hx hb dX11_textsThere_4 rfl (lv_at hl 0 rfl) ?_
  refine lv_iconst (v := 4) hx hb dX11_textsThere_5 (by decide) ?_
  refine lv_icmp_ge (tgt := 35) hx hb dX11_textsThere_6 (by decide) (fun _ => ?_) (fun c => absurd (by decide) c)
  refine lv_iload_n hx hb dX11_textsThere_35 rfl (lv_at hl 1 rfl) ?_
  exact W.iret (v := 0) hx hb hr (fun t ht hW => ⟨⟨0, (), rfl, rfl, ht⟩, hS.F ht⟩) hS.2.2 dX11_textsThere_36
theorem dX11_townsKept_0 : decode cX11_townsKept 0 = .ok (.iconst 0, 1) := by decide +kernel
theorem dX11_townsKept_1 : decode cX11_townsKept 1 = .ok (.istore_n 1, 1) := by decide +kernel
theorem dX11_townsKept_2 : decode cX11_townsKept 2 = .ok (.iconst 0, 1) := by decide +kernel
theorem dX11_townsKept_3 : decode cX11_townsKept 3 = .ok (.istore_n 2, 1) := by decide +kernel
theorem dX11_townsKept_4 : decode cX11_townsKept 4 = .ok (.iload_n 2, 1) := by decide +kernel
theorem dX11_townsKept_5 : decode cX11_townsKept 5 = .ok (.iconst 3, 1) := by decide +kernel
theorem dX11_townsKept_6 : decode cX11_townsKept 6 = .ok (.if_icmp .ge 29, 3) := by decide +kernel
theorem dX11_townsKept_9 : decode cX11_townsKept 9 = .ok (.iload_n 1, 1) := by decide +kernel
theorem dX11_townsKept_10 : decode cX11_townsKept 10 = .ok (.aload_n 0, 1) := by decide +kernel
theorem dX11_townsKept_11 : decode cX11_townsKept 11 = .ok (.getfield 23, 3) := by decide +kernel
theorem dX11_townsKept_14 : decode cX11_townsKept 14 = .ok (.iload_n 2, 1) := by decide +kernel
theorem dX11_townsKept_15 : decode cX11_townsKept 15 = .ok (.aaload, 1) := by decide +kernel
theorem dX11_townsKept_16 : decode cX11_townsKept 16 = .ok (.getfield 135, 3) := by decide +kernel
theorem dX11_townsKept_19 : decode cX11_townsKept 19 = .ok (.ifCond .eq 7, 3) := by decide +kernel
theorem dX11_townsKept_26 : decode cX11_townsKept 26 = .ok (.iconst 0, 1) := by decide +kernel
theorem dX11_townsKept_27 : decode cX11_townsKept 27 = .ok (.iadd, 1) := by decide +kernel
theorem dX11_townsKept_28 : decode cX11_townsKept 28 = .ok (.istore_n 1, 1) := by decide +kernel
theorem dX11_townsKept_29 : decode cX11_townsKept 29 = .ok (.iinc 2 1, 3) := by decide +kernel
theorem dX11_townsKept_32 : decode cX11_townsKept 32 = .ok (.goto (-28), 3) := by decide +kernel
theorem dX11_townsKept_35 : decode cX11_townsKept 35 = .ok (.iload_n 1, 1) := by decide +kernel
theorem dX11_townsKept_36 : decode cX11_townsKept 36 = .ok (.ireturn, 1) := by decide +kernel
set_option maxHeartbeats 4000000 in
set_option maxRecDepth 100000 in
/-- townsKept -/
theorem cx_townsKept (l : Launch) (dC : Nat → ClassId) (dI : Nat → Nat → Nat) (cs : Nat → ClassId) (ad : Nat → Nat) (H : Heap) (hP : va_P (dC, dI) vwCl (wX cs ad) H) : Met l yX11_townsKept wsX11_townsKept ({ frames := 0, cells := 0, slots := 0, locals := 0 }) (va_Pc [.ref (ad 0)] (pb_P (dC, dI) vwCl (tyX cs) H)) (va_Qi (fun (z : Int32) (_ : Unit) => z = 0) (fun _ t => t.heap = H) (fun _ => False)) 0 0 (fun _ => False) := by
  refine Met.ofW (cc := cX11_townsKept) (maxL := 3) (ret := (some .int)) (by decide) rfl ?_
  intro p e s m args below meth c s₁ B hml hv
  obtain ⟨rfl, hh, hK⟩ := hv
  have hx := B.exec
  have hb := B.bytes
  have hr := B.returns
  have hts := atoms_spec (ws := wsX11_townsKept) B.pre
  have hown : s.vm.findClass RX11 = some m.cls := findClass_of_methodNamed B.named
  have hlocks := B.notSynchronized
  subst hh
  have hS : va_S (fun _ => False) s.heap s.heap [] := va_S.rf
  have hl := lv_entry ([.ref (ad 0)]) (n := 3) (Nat.le_of_ble_eq_true rfl)
  rw [lg_entry_eq]
  generalize (lg_sl ([.ref (ad 0)]) ++ List.replicate (3 - (lg_sl ([.ref (ad 0)])).length) Slot.unset).toArray = ls at hl ⊢
  have hl : lv_has ls 3 [(0, .ref (ad 0))] := hl
  refine lv_iconst (v := 0) hx hb dX11_townsKept_0 (by decide) ?_
  refine lv_istore_n (lv' := [(1, .int 0), (0, .ref (ad 0))]) hx hb dX11_townsKept_1 rfl hl (by decide) rfl (fun ls hl => ?_)
  refine lv_iconst (v := 0) hx hb dX11_townsKept_2 (by decide) ?_
  refine lv_istore_n (lv' := [(2, .int 0), (1, .int 0), (0, .ref (ad 0))]) hx hb dX11_townsKept_3 rfl hl (by decide) rfl (fun ls hl => ?_)
  refine lv_iload_n hx hb dX11_townsKept_4 rfl (lv_at hl 0 rfl) ?_
  refine lv_iconst (v := 3) hx hb dX11_townsKept_5 (by decide) ?_
  refine lv_icmp_ge (tgt := 35) hx hb dX11_townsKept_6 (by decide) (fun c => absurd c (by decide)) (fun _ => ?_)
  refine lv_iload_n hx hb dX11_townsKept_9 rfl (lv_at hl 1 rfl) ?_
  refine lv_aload_n hx hb dX11_townsKept_10 rfl (lv_at hl 2 rfl) ?_
  refine va_get (D := (dC, dI)) (ci := 11) (v := .ref (ad 3)) (C := RX11) (T := TX11) (N := 11) hx hb hts (by decide +kernel) hown hK hP 0 rfl rfl 2 (by decide) (hts (.fieldLink RX11 23 "DearLetters" "kept" "[LDearLetters$Standing;") (by decide +kernel)) (fun _ h9 => h9) rfl dX11_townsKept_11 ?_
  refine lv_iload_n hx hb dX11_townsKept_14 rfl (lv_at hl 0 rfl) ?_
  refine va_aldq hx hb hK hP 3 2 rfl rfl (show vp_in 0 3 by unfold vp_in; decide) dX11_townsKept_15 ?_
  refine lq_v (.ref (ad 18)) rfl ?_
  refine va_get (D := (dC, dI)) (ci := 8) (v := .int 0) (C := RX8) (T := TX8) (N := 6) hx hb hts (by decide +kernel) hown hK hP 18 rfl rfl 5 (by decide) (hts (.fieldLink RX11 135 "DearLetters$Standing" "there" "Z") (by decide +kernel)) (fun _ h9 => h9) rfl dX11_townsKept_16 ?_
  refine lv_if_eq (tgt := 26) hx hb dX11_townsKept_19 (by decide) (fun _ => ?_) (fun c => absurd (by decide) c)
  refine lv_iconst (v := 0) hx hb dX11_townsKept_26 (by decide) ?_
  refine lv_iadd hx hb dX11_townsKept_27 ?_
  refine lq_i 0 (by decide) ?_
  refine lv_istore_n (lv' := [(1, .int 0), (2, .int 0), (0, .ref (ad 0))]) hx hb dX11_townsKept_28 rfl hl (by decide) rfl (fun ls hl => ?_)
  refine lv_iinc (v := 1) (lv' := [(2, .int 1), (1, .int 0), (0, .ref (ad 0))]) hx hb dX11_townsKept_29 hl (k := 1) rfl (by decide) (by decide) rfl (fun ls hl => ?_)
  refine lv_goto (tgt := 4) hx hb dX11_townsKept_32 (by decide) ?_
  refine lv_iload_n hx hb dX11_townsKept_4 rfl (lv_at hl 0 rfl) ?_
  refine lv_iconst (v := 3) hx hb dX11_townsKept_5 (by decide) ?_
  refine lv_icmp_ge (tgt := 35) hx hb dX11_townsKept_6 (by decide) (fun c => absurd c (by decide)) (fun _ => ?_)
  refine lv_iload_n hx hb dX11_townsKept_9 rfl (lv_at hl 1 rfl) ?_
  refine lv_aload_n hx hb dX11_townsKept_10 rfl (lv_at hl 2 rfl) ?_
  refine va_get (D := (dC, dI)) (ci := 11) (v := .ref (ad 3)) (C := RX11) (T := TX11) (N := 11) hx hb hts (by decide +kernel) hown hK hP 0 rfl rfl 2 (by decide) (hts (.fieldLink RX11 23 "DearLetters" "kept" "[LDearLetters$Standing;") (by decide +kernel)) (fun _ h9 => h9) rfl dX11_townsKept_11 ?_
  refine lv_iload_n hx hb dX11_townsKept_14 rfl (lv_at hl 0 rfl) ?_
  refine va_aldq hx hb hK hP 3 2 rfl rfl (show vp_in 1 3 by unfold vp_in; decide) dX11_townsKept_15 ?_
  refine lq_v (.ref (ad 19)) rfl ?_
  refine va_get (D := (dC, dI)) (ci := 8) (v := .int 0) (C := RX8) (T := TX8) (N := 6) hx hb hts (by decide +kernel) hown hK hP 19 rfl rfl 5 (by decide) (hts (.fieldLink RX11 135 "DearLetters$Standing" "there" "Z") (by decide +kernel)) (fun _ h9 => h9) rfl dX11_townsKept_16 ?_
  refine lv_if_eq (tgt := 26) hx hb dX11_townsKept_19 (by decide) (fun _ => ?_) (fun c => absurd (by decide) c)
  refine lv_iconst (v := 0) hx hb dX11_townsKept_26 (by decide) ?_
  refine lv_iadd hx hb dX11_townsKept_27 ?_
  refine lq_i 0 (by decide) ?_
  refine lv_istore_n (lv' := [(1, .int 0), (2, .int 1), (0, .ref (ad 0))]) hx hb dX11_townsKept_28 rfl hl (by decide) rfl (fun ls hl => ?_)
  refine lv_iinc (v := 2) (lv' := [(2, .int 2), (1, .int 0), (0, .ref (ad 0))]) hx hb dX11_townsKept_29 hl (k := 1) rfl (by decide) (by decide) rfl (fun ls hl => ?_)
  refine lv_goto (tgt := 4) hx hb dX11_townsKept_32 (by decide) ?_
  refine lv_iload_n hx hb dX11_townsKept_4 rfl (lv_at hl 0 rfl) ?_
  refine lv_iconst (v := 3) hx hb dX11_townsKept_5 (by decide) ?_
  refine lv_icmp_ge (tgt := 35) hx hb dX11_townsKept_6 (by decide) (fun c => absurd c (by decide)) (fun _ => ?_)
  refine lv_iload_n hx hb dX11_townsKept_9 rfl (lv_at hl 1 rfl) ?_
  refine lv_aload_n hx hb dX11_townsKept_10 rfl (lv_at hl 2 rfl) ?_
  refine va_get (D := (dC, dI)) (ci := 11) (v := .ref (ad 3)) (C := RX11) (T := TX11) (N := 11) hx hb hts (by decide +kernel) hown hK hP 0 rfl rfl 2 (by decide) (hts (.fieldLink RX11 23 "DearLetters" "kept" "[LDearLetters$Standing;") (by decide +kernel)) (fun _ h9 => h9) rfl dX11_townsKept_11 ?_
  refine lv_iload_n hx hb dX11_townsKept_14 rfl (lv_at hl 0 rfl) ?_
  refine va_aldq hx hb hK hP 3 2 rfl rfl (show vp_in 2 3 by unfold vp_in; decide) dX11_townsKept_15 ?_
  refine lq_v (.ref (ad 20)) rfl ?_
  refine va_get (D := (dC, dI)) (ci := 8) (v := .int 0) (C := RX8) (T := TX8) (N := 6) hx hb hts (by decide +kernel) hown hK hP 20 rfl rfl 5 (by decide) (hts (.fieldLink RX11 135 "DearLetters$Standing" "there" "Z") (by decide +kernel)) (fun _ h9 => h9) rfl dX11_townsKept_16 ?_
  refine lv_if_eq (tgt := 26) hx hb dX11_townsKept_19 (by decide) (fun _ => ?_) (fun c => absurd (by decide) c)
  refine lv_iconst (v := 0) hx hb dX11_townsKept_26 (by decide) ?_
  refine lv_iadd hx hb dX11_townsKept_27 ?_
  refine lq_i 0 (by decide) ?_
  refine lv_istore_n (lv' := [(1, .int 0), (2, .int 2), (0, .ref (ad 0))]) hx hb dX11_townsKept_28 rfl hl (by decide) rfl (fun ls hl => ?_)
  refine lv_iinc (v := 3) (lv' := [(2, .int 3), (1, .int 0), (0, .ref (ad 0))]) hx hb dX11_townsKept_29 hl (k := 1) rfl (by decide) (by decide) rfl (fun ls hl => ?_)
  refine lv_goto (tgt := 4) hx hb dX11_townsKept_32 (by decide) ?_
  refine lv_iload_n hx hb dX11_townsKept_4 rfl (lv_at hl 0 rfl) ?_
  refine lv_iconst (v := 3) hx hb dX11_townsKept_5 (by decide) ?_
  refine lv_icmp_ge (tgt := 35) hx hb dX11_townsKept_6 (by decide) (fun _ => ?_) (fun c => absurd (by decide) c)
  refine lv_iload_n hx hb dX11_townsKept_35 rfl (lv_at hl 1 rfl) ?_
  exact W.iret (v := 0) hx hb hr (fun t ht hW => ⟨⟨0, (), rfl, rfl, ht⟩, hS.F ht⟩) hS.2.2 dX11_townsKept_36
