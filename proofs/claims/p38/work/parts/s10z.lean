set_option maxHeartbeats 4000000 in
set_option maxRecDepth 100000 in
/-- sx_hasBit -/
theorem sx_hasBit (l : Launch) (dC : Nat → ClassId) (dI : Nat → Nat → Nat) (tys : List (ClassId × FieldType)) (H : Heap) (va : Int32) (vb : Int32) : Met l yX11_hasBit (wU yX11_hasBit cX11_hasBit 2 (some .boolean)) ({ frames := 0, cells := 0, slots := 0, locals := 0 }) (va_Pc [.int va, .int vb] (sz_P (dC, dI) vwCl tys H)) (va_Qi (fun (z : Int32) (_ : Unit) => z = F_sx_hasBit va vb ∧ (0 ≤ z.toInt ∧ z.toInt ≤ 1)) (fun _ t => t.heap = H) (fun _ => False)) 0 0 (fun _ => False) := by
  refine Met.ofW (cc := cX11_hasBit) (maxL := 2) (ret := (some .boolean)) (by decide) rfl ?_
  intro p e s m args below meth c s₁ B hml hv
  obtain ⟨rfl, hh, hK, hz⟩ := hv
  have hx := B.exec
  have hb := B.bytes
  have hr := B.returns
  have hts := atoms_spec (ws := (wU yX11_hasBit cX11_hasBit 2 (some .boolean))) B.pre
  have hown : s.vm.findClass RX11 = some m.cls := findClass_of_methodNamed B.named
  have hlocks := B.notSynchronized
  subst hh
  have hS : va_S (fun _ => False) s.heap s.heap [] := va_S.rf
  have hl := lv_entry ([.int va, .int vb]) (n := 2) (Nat.le_of_ble_eq_true rfl)
  rw [lg_entry_eq]
  generalize (lg_sl ([.int va, .int vb]) ++ List.replicate (2 - (lg_sl ([.int va, .int vb])).length) Slot.unset).toArray = ls at hl ⊢
  have hl : lv_has ls 2 [(0, .int va), (1, .int vb)] := hl
  obtain ⟨fz, hfz⟩ : ∃ z, F_sx_hasBit va vb = z := ⟨_, rfl⟩
  have hF := hfz
  unfold F_sx_hasBit at hF
  refine lv_iload_n hx hb dX11_hasBit_0 rfl (lv_at hl 0 rfl) ?_
  refine lv_iload_n hx hb dX11_hasBit_1 rfl (lv_at hl 1 rfl) ?_
  refine lv_ishr hx hb dX11_hasBit_2 ?_
  refine lv_topi (fun t1 et1 => ?_)
  have hF := mi_let hF et1
  refine lv_iconst (v := 1) hx hb dX11_hasBit_3 (by decide) ?_
  refine lv_iand hx hb dX11_hasBit_4 ?_
  refine lv_topi (fun t2 et2 => ?_)
  have hF := mi_let hF et2
  refine lv_if_eq (tgt := 12) hx hb dX11_hasBit_5 (by decide) (fun c_3 => ?_) (fun c_3 => ?_)
  · have hF := (if_pos c_3).symm.trans hF
    have c_3 : t2.toInt = 0 := il_eq c_3
    refine lv_iconst (v := 0) hx hb dX11_hasBit_12 (by decide) ?_
    exact W.zret (v := 0) (ty := .boolean) hx hb hr (by first | rfl | decide) (fun t ht hW => ⟨⟨0, (), rfl, ⟨hF.trans hfz.symm, (by have h6 : (0 : Int32).toInt = 0 := rfl; omega)⟩, ht⟩, hS.F ht⟩) hS.2.2 dX11_hasBit_13
  · have hF := (if_neg c_3).symm.trans hF
    have c_3 : ¬ t2.toInt = 0 := il_ne c_3
    refine lv_iconst (v := 1) hx hb dX11_hasBit_8 (by decide) ?_
    refine lv_goto (tgt := 13) hx hb dX11_hasBit_9 (by decide) ?_
    exact W.zret (v := 1) (ty := .boolean) hx hb hr (by first | rfl | decide) (fun t ht hW => ⟨⟨1, (), rfl, ⟨hF.trans hfz.symm, (by have h6 : (1 : Int32).toInt = 1 := rfl; omega)⟩, ht⟩, hS.F ht⟩) hS.2.2 dX11_hasBit_13
set_option maxHeartbeats 4000000 in
set_option maxRecDepth 100000 in
/-- sx_priceAsked -/
theorem sx_priceAsked (l : Launch) (dC : Nat → ClassId) (dI : Nat → Nat → Nat) (tys : List (ClassId × FieldType)) (H : Heap) (va : Int32) (vb : Int32) : Met l yX11_priceAsked (wU yX11_priceAsked cX11_priceAsked 2 (some .int)) ({ frames := 0, cells := 0, slots := 0, locals := 0 }) (va_Pc [.int va, .int vb] (sz_P (dC, dI) vwCl tys H)) (va_Qi (fun (z : Int32) (_ : Unit) => z = F_sx_priceAsked va vb ∧ (True)) (fun _ t => t.heap = H) (fun _ => False)) 0 0 (fun _ => False) := by
  refine Met.ofW (cc := cX11_priceAsked) (maxL := 2) (ret := (some .int)) (by decide) rfl ?_
  intro p e s m args below meth c s₁ B hml hv
  obtain ⟨rfl, hh, hK, hz⟩ := hv
  have hx := B.exec
  have hb := B.bytes
  have hr := B.returns
  have hts := atoms_spec (ws := (wU yX11_priceAsked cX11_priceAsked 2 (some .int))) B.pre
  have hown : s.vm.findClass RX11 = some m.cls := findClass_of_methodNamed B.named
  have hlocks := B.notSynchronized
  subst hh
  have hS : va_S (fun _ => False) s.heap s.heap [] := va_S.rf
  have hl := lv_entry ([.int va, .int vb]) (n := 2) (Nat.le_of_ble_eq_true rfl)
  rw [lg_entry_eq]
  generalize (lg_sl ([.int va, .int vb]) ++ List.replicate (2 - (lg_sl ([.int va, .int vb])).length) Slot.unset).toArray = ls at hl ⊢
  have hl : lv_has ls 2 [(0, .int va), (1, .int vb)] := hl
  obtain ⟨fz, hfz⟩ : ∃ z, F_sx_priceAsked va vb = z := ⟨_, rfl⟩
  have hF := hfz
  unfold F_sx_priceAsked at hF
  refine lv_iload_n hx hb dX11_priceAsked_0 rfl (lv_at hl 0 rfl) ?_
  by_cases w1 : va.toInt < 1 ∨ 5 < va.toInt
  · refine lv_tableOut (tgt := 50) hx hb dX11_priceAsked_1 w1 (by decide) ?_
    have hF := (if_pos w1).symm.trans hF
    refine lv_iload_n hx hb dX11_priceAsked_50 rfl (lv_at hl 1 rfl) ?_
    refine lv_iconst (v := 1) hx hb dX11_priceAsked_51 (by decide) ?_
    refine lv_iadd hx hb dX11_priceAsked_52 ?_
    refine lv_topi (fun t2 et2 => ?_)
    have hF := mi_let hF et2
    exact W.iret (v := t2) hx hb hr (fun t ht hW => ⟨⟨t2, (), rfl, ⟨hF.trans hfz.symm, trivial⟩, ht⟩, hS.F ht⟩) hS.2.2 dX11_priceAsked_53
  have hF := (if_neg w1).symm.trans hF
  by_cases w1_1 : va.toInt = 1
  · refine lv_tableIn (off := 35) (tgt := 36) hx hb dX11_priceAsked_1 (by omega) (by omega) (by rw [w1_1]; rfl) (by decide) ?_
    have hF := (if_pos w1_1).symm.trans hF
    refine lv_iload_n hx hb dX11_priceAsked_36 rfl (lv_at hl 1 rfl) ?_
    refine lv_iconst (v := 3) hx hb dX11_priceAsked_37 (by decide) ?_
    refine lv_iadd hx hb dX11_priceAsked_38 ?_
    refine lv_topi (fun t3 et3 => ?_)
    have hF := mi_let hF et3
    exact W.iret (v := t3) hx hb hr (fun t ht hW => ⟨⟨t3, (), rfl, ⟨hF.trans hfz.symm, trivial⟩, ht⟩, hS.F ht⟩) hS.2.2 dX11_priceAsked_39
  have hF := (if_neg w1_1).symm.trans hF
  by_cases w1_2 : va.toInt = 2
  · refine lv_tableIn (off := 39) (tgt := 40) hx hb dX11_priceAsked_1 (by omega) (by omega) (by rw [w1_2]; rfl) (by decide) ?_
    have hF := (if_pos w1_2).symm.trans hF
    refine lv_iload_n hx hb dX11_priceAsked_40 rfl (lv_at hl 1 rfl) ?_
    exact W.iret (v := vb) hx hb hr (fun t ht hW => ⟨⟨vb, (), rfl, ⟨hF.trans hfz.symm, trivial⟩, ht⟩, hS.F ht⟩) hS.2.2 dX11_priceAsked_41
  have hF := (if_neg w1_2).symm.trans hF
  by_cases w1_3 : va.toInt = 3
  · refine lv_tableIn (off := 49) (tgt := 50) hx hb dX11_priceAsked_1 (by omega) (by omega) (by rw [w1_3]; rfl) (by decide) ?_
    have hF := (if_pos w1_3).symm.trans hF
    refine lv_iload_n hx hb dX11_priceAsked_50 rfl (lv_at hl 1 rfl) ?_
    refine lv_iconst (v := 1) hx hb dX11_priceAsked_51 (by decide) ?_
    refine lv_iadd hx hb dX11_priceAsked_52 ?_
    refine lv_topi (fun t4 et4 => ?_)
    have hF := mi_let hF et4
    exact W.iret (v := t4) hx hb hr (fun t ht hW => ⟨⟨t4, (), rfl, ⟨hF.trans hfz.symm, trivial⟩, ht⟩, hS.F ht⟩) hS.2.2 dX11_priceAsked_53
  have hF := (if_neg w1_3).symm.trans hF
  by_cases w1_4 : va.toInt = 4
  · refine lv_tableIn (off := 41) (tgt := 42) hx hb dX11_priceAsked_1 (by omega) (by omega) (by rw [w1_4]; rfl) (by decide) ?_
    have hF := (if_pos w1_4).symm.trans hF
    refine lv_iconst (v := 2) hx hb dX11_priceAsked_42 (by decide) ?_
    refine lv_iload_n hx hb dX11_priceAsked_43 rfl (lv_at hl 1 rfl) ?_
    refine lv_iconst (v := 3) hx hb dX11_priceAsked_44 (by decide) ?_
    refine lv_iadd hx hb dX11_priceAsked_45 ?_
    refine lv_topi (fun t5 et5 => ?_)
    have hF := mi_let hF et5
    refine lv_imul hx hb dX11_priceAsked_46 ?_
    refine lv_topi (fun t6 et6 => ?_)
    have hF := mi_let hF et6
    exact W.iret (v := t6) hx hb hr (fun t ht hW => ⟨⟨t6, (), rfl, ⟨hF.trans hfz.symm, trivial⟩, ht⟩, hS.F ht⟩) hS.2.2 dX11_priceAsked_47
  have hF := (if_neg w1_4).symm.trans hF
  have w1_5 : va.toInt = 5 := by omega
  refine lv_tableIn (off := 47) (tgt := 48) hx hb dX11_priceAsked_1 (by omega) (by omega) (by rw [w1_5]; rfl) (by decide) ?_
  refine lv_iconst (v := 0) hx hb dX11_priceAsked_48 (by decide) ?_
  exact W.iret (v := 0) hx hb hr (fun t ht hW => ⟨⟨0, (), rfl, ⟨hF.trans hfz.symm, trivial⟩, ht⟩, hS.F ht⟩) hS.2.2 dX11_priceAsked_49
set_option maxHeartbeats 4000000 in
set_option maxRecDepth 100000 in
/-- sx_isOfKind -/
theorem sx_isOfKind (l : Launch) (dC : Nat → ClassId) (dI : Nat → Nat → Nat) (tys : List (ClassId × FieldType)) (H : Heap) (va : Int32) (vb : Int32) : Met l yX11_isOfKind (wU yX11_isOfKind cX11_isOfKind 2 (some .boolean)) ({ frames := 0, cells := 0, slots := 0, locals := 0 }) (va_Pc [.int va, .int vb] (sz_P (dC, dI) vwCl tys H)) (va_Qi (fun (z : Int32) (_ : Unit) => z = F_sx_isOfKind va vb ∧ (0 ≤ z.toInt ∧ z.toInt ≤ 1)) (fun _ t => t.heap = H) (fun _ => False)) 0 0 (fun _ => False) := by
  refine Met.ofW (cc := cX11_isOfKind) (maxL := 2) (ret := (some .boolean)) (by decide) rfl ?_
  intro p e s m args below meth c s₁ B hml hv
  obtain ⟨rfl, hh, hK, hz⟩ := hv
  have hx := B.exec
  have hb := B.bytes
  have hr := B.returns
  have hts := atoms_spec (ws := (wU yX11_isOfKind cX11_isOfKind 2 (some .boolean))) B.pre
  have hown : s.vm.findClass RX11 = some m.cls := findClass_of_methodNamed B.named
  have hlocks := B.notSynchronized
  subst hh
  have hS : va_S (fun _ => False) s.heap s.heap [] := va_S.rf
  have hl := lv_entry ([.int va, .int vb]) (n := 2) (Nat.le_of_ble_eq_true rfl)
  rw [lg_entry_eq]
  generalize (lg_sl ([.int va, .int vb]) ++ List.replicate (2 - (lg_sl ([.int va, .int vb])).length) Slot.unset).toArray = ls at hl ⊢
  have hl : lv_has ls 2 [(0, .int va), (1, .int vb)] := hl
  obtain ⟨fz, hfz⟩ : ∃ z, F_sx_isOfKind va vb = z := ⟨_, rfl⟩
  have hF := hfz
  unfold F_sx_isOfKind at hF
  refine lv_iload_n hx hb dX11_isOfKind_0 rfl (lv_at hl 0 rfl) ?_
  refine lv_iload_n hx hb dX11_isOfKind_1 rfl (lv_at hl 1 rfl) ?_
  refine lv_icmp_eq (tgt := 29) hx hb dX11_isOfKind_2 (by decide) (fun c_1 => ?_) (fun c_1 => ?_)
  · have hF := (if_pos c_1).symm.trans hF
    have c_1 : va.toInt = vb.toInt := il_eq c_1
    refine lv_iconst (v := 1) hx hb dX11_isOfKind_29 (by decide) ?_
    refine lv_goto (tgt := 34) hx hb dX11_isOfKind_30 (by decide) ?_
    exact W.zret (v := 1) (ty := .boolean) hx hb hr (by first | rfl | decide) (fun t ht hW => ⟨⟨1, (), rfl, ⟨hF.trans hfz.symm, (by have h6 : (1 : Int32).toInt = 1 := rfl; omega)⟩, ht⟩, hS.F ht⟩) hS.2.2 dX11_isOfKind_34
  · have hF := (if_neg c_1).symm.trans hF
    have c_1 : ¬ va.toInt = vb.toInt := il_ne c_1
    refine lv_iload_n hx hb dX11_isOfKind_5 rfl (lv_at hl 1 rfl) ?_
    refine lv_if_eq (tgt := 29) hx hb dX11_isOfKind_6 (by decide) (fun c_2 => ?_) (fun c_2 => ?_)
    · have hF := (if_pos c_2).symm.trans hF
      have c_2 : vb.toInt = 0 := il_eq c_2
      refine lv_iconst (v := 1) hx hb dX11_isOfKind_29 (by decide) ?_
      refine lv_goto (tgt := 34) hx hb dX11_isOfKind_30 (by decide) ?_
      exact W.zret (v := 1) (ty := .boolean) hx hb hr (by first | rfl | decide) (fun t ht hW => ⟨⟨1, (), rfl, ⟨hF.trans hfz.symm, (by have h6 : (1 : Int32).toInt = 1 := rfl; omega)⟩, ht⟩, hS.F ht⟩) hS.2.2 dX11_isOfKind_34
    · have hF := (if_neg c_2).symm.trans hF
      have c_2 : ¬ vb.toInt = 0 := il_ne c_2
      refine lv_iload_n hx hb dX11_isOfKind_9 rfl (lv_at hl 0 rfl) ?_
      refine lv_iconst (v := 4) hx hb dX11_isOfKind_10 (by decide) ?_
      refine lv_icmp_ne (tgt := 19) hx hb dX11_isOfKind_11 (by decide) (fun c_3 => ?_) (fun c_3 => ?_)
      · have hF := (if_neg c_3).symm.trans hF
        have c_3 : ¬ va.toInt = 4 := il_ne c_3
        refine lv_iload_n hx hb dX11_isOfKind_19 rfl (lv_at hl 0 rfl) ?_
        refine lv_iconst (v := 5) hx hb dX11_isOfKind_20 (by decide) ?_
        refine lv_icmp_ne (tgt := 33) hx hb dX11_isOfKind_21 (by decide) (fun c_4 => ?_) (fun c_4 => ?_)
        · have hF := (if_neg c_4).symm.trans hF
          have c_4 : ¬ va.toInt = 5 := il_ne c_4
          refine lv_iconst (v := 0) hx hb dX11_isOfKind_33 (by decide) ?_
          exact W.zret (v := 0) (ty := .boolean) hx hb hr (by first | rfl | decide) (fun t ht hW => ⟨⟨0, (), rfl, ⟨hF.trans hfz.symm, (by have h6 : (0 : Int32).toInt = 0 := rfl; omega)⟩, ht⟩, hS.F ht⟩) hS.2.2 dX11_isOfKind_34
        · have hF := (if_pos c_4).symm.trans hF
          have c_4 : va.toInt = 5 := il_eq c_4
          refine lv_iload_n hx hb dX11_isOfKind_24 rfl (lv_at hl 1 rfl) ?_
          refine lv_iconst (v := 2) hx hb dX11_isOfKind_25 (by decide) ?_
          refine lv_icmp_ne (tgt := 33) hx hb dX11_isOfKind_26 (by decide) (fun c_5 => ?_) (fun c_5 => ?_)
          · have hF := (if_neg c_5).symm.trans hF
            have c_5 : ¬ vb.toInt = 2 := il_ne c_5
            refine lv_iconst (v := 0) hx hb dX11_isOfKind_33 (by decide) ?_
            exact W.zret (v := 0) (ty := .boolean) hx hb hr (by first | rfl | decide) (fun t ht hW => ⟨⟨0, (), rfl, ⟨hF.trans hfz.symm, (by have h6 : (0 : Int32).toInt = 0 := rfl; omega)⟩, ht⟩, hS.F ht⟩) hS.2.2 dX11_isOfKind_34
          · have hF := (if_pos c_5).symm.trans hF
            have c_5 : vb.toInt = 2 := il_eq c_5
            refine lv_iconst (v := 1) hx hb dX11_isOfKind_29 (by decide) ?_
            refine lv_goto (tgt := 34) hx hb dX11_isOfKind_30 (by decide) ?_
            exact W.zret (v := 1) (ty := .boolean) hx hb hr (by first | rfl | decide) (fun t ht hW => ⟨⟨1, (), rfl, ⟨hF.trans hfz.symm, (by have h6 : (1 : Int32).toInt = 1 := rfl; omega)⟩, ht⟩, hS.F ht⟩) hS.2.2 dX11_isOfKind_34
      · have hF := (if_pos c_3).symm.trans hF
        have c_3 : va.toInt = 4 := il_eq c_3
        refine lv_iload_n hx hb dX11_isOfKind_14 rfl (lv_at hl 1 rfl) ?_
        refine lv_iconst (v := 1) hx hb dX11_isOfKind_15 (by decide) ?_
        refine lv_icmp_eq (tgt := 29) hx hb dX11_isOfKind_16 (by decide) (fun c_6 => ?_) (fun c_6 => ?_)
        · have hF := (if_pos c_6).symm.trans hF
          have c_6 : vb.toInt = 1 := il_eq c_6
          refine lv_iconst (v := 1) hx hb dX11_isOfKind_29 (by decide) ?_
          refine lv_goto (tgt := 34) hx hb dX11_isOfKind_30 (by decide) ?_
          exact W.zret (v := 1) (ty := .boolean) hx hb hr (by first | rfl | decide) (fun t ht hW => ⟨⟨1, (), rfl, ⟨hF.trans hfz.symm, (by have h6 : (1 : Int32).toInt = 1 := rfl; omega)⟩, ht⟩, hS.F ht⟩) hS.2.2 dX11_isOfKind_34
        · have hF := (if_neg c_6).symm.trans hF
          have c_6 : ¬ vb.toInt = 1 := il_ne c_6
          refine lv_iload_n hx hb dX11_isOfKind_19 rfl (lv_at hl 0 rfl) ?_
          refine lv_iconst (v := 5) hx hb dX11_isOfKind_20 (by decide) ?_
          refine lv_icmp_ne (tgt := 33) hx hb dX11_isOfKind_21 (by decide) (fun c_7 => ?_) (fun c_7 => by have c_7 : va.toInt = 5 := il_eq c_7; exfalso; omega)
          have c_7 : ¬ va.toInt = 5 := il_ne c_7
          refine lv_iconst (v := 0) hx hb dX11_isOfKind_33 (by decide) ?_
          exact W.zret (v := 0) (ty := .boolean) hx hb hr (by first | rfl | decide) (fun t ht hW => ⟨⟨0, (), rfl, ⟨hF.trans hfz.symm, (by have h6 : (0 : Int32).toInt = 0 := rfl; omega)⟩, ht⟩, hS.F ht⟩) hS.2.2 dX11_isOfKind_34
set_option maxHeartbeats 4000000 in
set_option maxRecDepth 100000 in
/-- sx_isRow -/
theorem sx_isRow (l : Launch) (dC : Nat → ClassId) (dI : Nat → Nat → Nat) (tys : List (ClassId × FieldType)) (H : Heap) (va : Int32) : Met l yX11_isRow (wU yX11_isRow cX11_isRow 1 (some .boolean)) ({ frames := 0, cells := 0, slots := 0, locals := 0 }) (va_Pc [.int va] (sz_P (dC, dI) vwCl tys H)) (va_Qi (fun (z : Int32) (_ : Unit) => z = F_sx_isRow va ∧ ((z = 1 ∧ (0 ≤ va.toInt ∧ va.toInt ≤ 5)) ∨ (z = 0 ∧ (va.toInt < 0 ∨ 5 < va.toInt)))) (fun _ t => t.heap = H) (fun _ => False)) 0 0 (fun _ => False) := by
  refine Met.ofW (cc := cX11_isRow) (maxL := 1) (ret := (some .boolean)) (by decide) rfl ?_
  intro p e s m args below meth c s₁ B hml hv
  obtain ⟨rfl, hh, hK, hz⟩ := hv
  have hx := B.exec
  have hb := B.bytes
  have hr := B.returns
  have hts := atoms_spec (ws := (wU yX11_isRow cX11_isRow 1 (some .boolean))) B.pre
  have hown : s.vm.findClass RX11 = some m.cls := findClass_of_methodNamed B.named
  have hlocks := B.notSynchronized
  subst hh
  have hS : va_S (fun _ => False) s.heap s.heap [] := va_S.rf
  have hl := lv_entry ([.int va]) (n := 1) (Nat.le_of_ble_eq_true rfl)
  rw [lg_entry_eq]
  generalize (lg_sl ([.int va]) ++ List.replicate (1 - (lg_sl ([.int va])).length) Slot.unset).toArray = ls at hl ⊢
  have hl : lv_has ls 1 [(0, .int va)] := hl
  obtain ⟨fz, hfz⟩ : ∃ z, F_sx_isRow va = z := ⟨_, rfl⟩
  have hF := hfz
  unfold F_sx_isRow at hF
  refine lv_iload_n hx hb dX11_isRow_0 rfl (lv_at hl 0 rfl) ?_
  refine lv_if_lt (tgt := 14) hx hb dX11_isRow_1 (by decide) (fun c_1 => ?_) (fun c_1 => ?_)
  · have hF := (if_pos c_1).symm.trans hF
    have c_1 : va.toInt < 0 := il_lt c_1
    refine lv_iconst (v := 0) hx hb dX11_isRow_14 (by decide) ?_
    exact W.zret (v := 0) (ty := .boolean) hx hb hr (by first | rfl | decide) (fun t ht hW => ⟨⟨0, (), rfl, ⟨hF.trans hfz.symm, (Or.inr ⟨rfl, by omega⟩)⟩, ht⟩, hS.F ht⟩) hS.2.2 dX11_isRow_15
  · have hF := (if_neg c_1).symm.trans hF
    have c_1 : 0 ≤ va.toInt := il_nlt c_1
    refine lv_iload_n hx hb dX11_isRow_4 rfl (lv_at hl 0 rfl) ?_
    refine lv_bipush (v := 6) hx hb dX11_isRow_5 (by decide) ?_
    refine lv_icmp_ge (tgt := 14) hx hb dX11_isRow_7 (by decide) (fun c_2 => ?_) (fun c_2 => ?_)
    · have hF := (if_pos c_2).symm.trans hF
      have c_2 : 6 ≤ va.toInt := il_le c_2
      refine lv_iconst (v := 0) hx hb dX11_isRow_14 (by decide) ?_
      exact W.zret (v := 0) (ty := .boolean) hx hb hr (by first | rfl | decide) (fun t ht hW => ⟨⟨0, (), rfl, ⟨hF.trans hfz.symm, (Or.inr ⟨rfl, by omega⟩)⟩, ht⟩, hS.F ht⟩) hS.2.2 dX11_isRow_15
    · have hF := (if_neg c_2).symm.trans hF
      have c_2 : va.toInt < 6 := il_nle c_2
      refine lv_iconst (v := 1) hx hb dX11_isRow_10 (by decide) ?_
      refine lv_goto (tgt := 15) hx hb dX11_isRow_11 (by decide) ?_
      exact W.zret (v := 1) (ty := .boolean) hx hb hr (by first | rfl | decide) (fun t ht hW => ⟨⟨1, (), rfl, ⟨hF.trans hfz.symm, (Or.inl ⟨rfl, by omega⟩)⟩, ht⟩, hS.F ht⟩) hS.2.2 dX11_isRow_15
set_option maxHeartbeats 4000000 in
set_option maxRecDepth 100000 in
/-- sx_isText -/
theorem sx_isText (l : Launch) (dC : Nat → ClassId) (dI : Nat → Nat → Nat) (tys : List (ClassId × FieldType)) (H : Heap) (va : Int32) : Met l yX11_isText (wU yX11_isText cX11_isText 1 (some .boolean)) ({ frames := 0, cells := 0, slots := 0, locals := 0 }) (va_Pc [.int va] (sz_P (dC, dI) vwCl tys H)) (va_Qi (fun (z : Int32) (_ : Unit) => z = F_sx_isText va ∧ ((z = 1 ∧ (0 ≤ va.toInt ∧ va.toInt ≤ 3)) ∨ (z = 0 ∧ (va.toInt < 0 ∨ 3 < va.toInt)))) (fun _ t => t.heap = H) (fun _ => False)) 0 0 (fun _ => False) := by
  refine Met.ofW (cc := cX11_isText) (maxL := 1) (ret := (some .boolean)) (by decide) rfl ?_
  intro p e s m args below meth c s₁ B hml hv
  obtain ⟨rfl, hh, hK, hz⟩ := hv
  have hx := B.exec
  have hb := B.bytes
  have hr := B.returns
  have hts := atoms_spec (ws := (wU yX11_isText cX11_isText 1 (some .boolean))) B.pre
  have hown : s.vm.findClass RX11 = some m.cls := findClass_of_methodNamed B.named
  have hlocks := B.notSynchronized
  subst hh
  have hS : va_S (fun _ => False) s.heap s.heap [] := va_S.rf
  have hl := lv_entry ([.int va]) (n := 1) (Nat.le_of_ble_eq_true rfl)
  rw [lg_entry_eq]
  generalize (lg_sl ([.int va]) ++ List.replicate (1 - (lg_sl ([.int va])).length) Slot.unset).toArray = ls at hl ⊢
  have hl : lv_has ls 1 [(0, .int va)] := hl
  obtain ⟨fz, hfz⟩ : ∃ z, F_sx_isText va = z := ⟨_, rfl⟩
  have hF := hfz
  unfold F_sx_isText at hF
  refine lv_iload_n hx hb dX11_isText_0 rfl (lv_at hl 0 rfl) ?_
  refine lv_if_lt (tgt := 13) hx hb dX11_isText_1 (by decide) (fun c_1 => ?_) (fun c_1 => ?_)
  · have hF := (if_pos c_1).symm.trans hF
    have c_1 : va.toInt < 0 := il_lt c_1
    refine lv_iconst (v := 0) hx hb dX11_isText_13 (by decide) ?_
    exact W.zret (v := 0) (ty := .boolean) hx hb hr (by first | rfl | decide) (fun t ht hW => ⟨⟨0, (), rfl, ⟨hF.trans hfz.symm, (Or.inr ⟨rfl, by omega⟩)⟩, ht⟩, hS.F ht⟩) hS.2.2 dX11_isText_14
  · have hF := (if_neg c_1).symm.trans hF
    have c_1 : 0 ≤ va.toInt := il_nlt c_1
    refine lv_iload_n hx hb dX11_isText_4 rfl (lv_at hl 0 rfl) ?_
    refine lv_iconst (v := 4) hx hb dX11_isText_5 (by decide) ?_
    refine lv_icmp_ge (tgt := 13) hx hb dX11_isText_6 (by decide) (fun c_2 => ?_) (fun c_2 => ?_)
    · have hF := (if_pos c_2).symm.trans hF
      have c_2 : 4 ≤ va.toInt := il_le c_2
      refine lv_iconst (v := 0) hx hb dX11_isText_13 (by decide) ?_
      exact W.zret (v := 0) (ty := .boolean) hx hb hr (by first | rfl | decide) (fun t ht hW => ⟨⟨0, (), rfl, ⟨hF.trans hfz.symm, (Or.inr ⟨rfl, by omega⟩)⟩, ht⟩, hS.F ht⟩) hS.2.2 dX11_isText_14
    · have hF := (if_neg c_2).symm.trans hF
      have c_2 : va.toInt < 4 := il_nle c_2
      refine lv_iconst (v := 1) hx hb dX11_isText_9 (by decide) ?_
      refine lv_goto (tgt := 14) hx hb dX11_isText_10 (by decide) ?_
      exact W.zret (v := 1) (ty := .boolean) hx hb hr (by first | rfl | decide) (fun t ht hW => ⟨⟨1, (), rfl, ⟨hF.trans hfz.symm, (Or.inl ⟨rfl, by omega⟩)⟩, ht⟩, hS.F ht⟩) hS.2.2 dX11_isText_14
set_option maxHeartbeats 4000000 in
set_option maxRecDepth 100000 in
/-- sx_isPlace -/
theorem sx_isPlace (l : Launch) (dC : Nat → ClassId) (dI : Nat → Nat → Nat) (tys : List (ClassId × FieldType)) (H : Heap) (va : Int32) : Met l yX11_isPlace (wU yX11_isPlace cX11_isPlace 1 (some .boolean)) ({ frames := 0, cells := 0, slots := 0, locals := 0 }) (va_Pc [.int va] (sz_P (dC, dI) vwCl tys H)) (va_Qi (fun (z : Int32) (_ : Unit) => z = F_sx_isPlace va ∧ ((z = 1 ∧ (0 ≤ va.toInt ∧ va.toInt ≤ 2)) ∨ (z = 0 ∧ (va.toInt < 0 ∨ 2 < va.toInt)))) (fun _ t => t.heap = H) (fun _ => False)) 0 0 (fun _ => False) := by
  refine Met.ofW (cc := cX11_isPlace) (maxL := 1) (ret := (some .boolean)) (by decide) rfl ?_
  intro p e s m args below meth c s₁ B hml hv
  obtain ⟨rfl, hh, hK, hz⟩ := hv
  have hx := B.exec
  have hb := B.bytes
  have hr := B.returns
  have hts := atoms_spec (ws := (wU yX11_isPlace cX11_isPlace 1 (some .boolean))) B.pre
  have hown : s.vm.findClass RX11 = some m.cls := findClass_of_methodNamed B.named
  have hlocks := B.notSynchronized
  subst hh
  have hS : va_S (fun _ => False) s.heap s.heap [] := va_S.rf
  have hl := lv_entry ([.int va]) (n := 1) (Nat.le_of_ble_eq_true rfl)
  rw [lg_entry_eq]
  generalize (lg_sl ([.int va]) ++ List.replicate (1 - (lg_sl ([.int va])).length) Slot.unset).toArray = ls at hl ⊢
  have hl : lv_has ls 1 [(0, .int va)] := hl
  obtain ⟨fz, hfz⟩ : ∃ z, F_sx_isPlace va = z := ⟨_, rfl⟩
  have hF := hfz
  unfold F_sx_isPlace at hF
  refine lv_iload_n hx hb dX11_isPlace_0 rfl (lv_at hl 0 rfl) ?_
  refine lv_if_lt (tgt := 13) hx hb dX11_isPlace_1 (by decide) (fun c_1 => ?_) (fun c_1 => ?_)
  · have hF := (if_pos c_1).symm.trans hF
    have c_1 : va.toInt < 0 := il_lt c_1
    refine lv_iconst (v := 0) hx hb dX11_isPlace_13 (by decide) ?_
    exact W.zret (v := 0) (ty := .boolean) hx hb hr (by first | rfl | decide) (fun t ht hW => ⟨⟨0, (), rfl, ⟨hF.trans hfz.symm, (Or.inr ⟨rfl, by omega⟩)⟩, ht⟩, hS.F ht⟩) hS.2.2 dX11_isPlace_14
  · have hF := (if_neg c_1).symm.trans hF
    have c_1 : 0 ≤ va.toInt := il_nlt c_1
    refine lv_iload_n hx hb dX11_isPlace_4 rfl (lv_at hl 0 rfl) ?_
    refine lv_iconst (v := 3) hx hb dX11_isPlace_5 (by decide) ?_
    refine lv_icmp_ge (tgt := 13) hx hb dX11_isPlace_6 (by decide) (fun c_2 => ?_) (fun c_2 => ?_)
    · have hF := (if_pos c_2).symm.trans hF
      have c_2 : 3 ≤ va.toInt := il_le c_2
      refine lv_iconst (v := 0) hx hb dX11_isPlace_13 (by decide) ?_
      exact W.zret (v := 0) (ty := .boolean) hx hb hr (by first | rfl | decide) (fun t ht hW => ⟨⟨0, (), rfl, ⟨hF.trans hfz.symm, (Or.inr ⟨rfl, by omega⟩)⟩, ht⟩, hS.F ht⟩) hS.2.2 dX11_isPlace_14
    · have hF := (if_neg c_2).symm.trans hF
      have c_2 : va.toInt < 3 := il_nle c_2
      refine lv_iconst (v := 1) hx hb dX11_isPlace_9 (by decide) ?_
      refine lv_goto (tgt := 14) hx hb dX11_isPlace_10 (by decide) ?_
      exact W.zret (v := 1) (ty := .boolean) hx hb hr (by first | rfl | decide) (fun t ht hW => ⟨⟨1, (), rfl, ⟨hF.trans hfz.symm, (Or.inl ⟨rfl, by omega⟩)⟩, ht⟩, hS.F ht⟩) hS.2.2 dX11_isPlace_14
set_option maxHeartbeats 4000000 in
set_option maxRecDepth 100000 in
/-- sx_has -/
theorem sx_has (l : Launch) (dC : Nat → ClassId) (dI : Nat → Nat → Nat) (cs : Nat → ClassId) (ad : Nat → Nat) (mu : Nat → Nat → Int32) (ok : okR loX hiX mu) (H : Heap) (hP : va_P (dC, dI) vwCl (wR 157 ad (EX cs ad) mu) H) (vx : Int32) : Met l yX10_has (wU yX10_has cX10_has 2 (some .boolean)) ({ frames := 0, cells := 0, slots := 0, locals := 0 }) (va_Pc [.ref (ad 4), .int vx] (sz_P (dC, dI) vwCl (tyW cs) H)) (va_Qi (fun (z : Int32) (_ : Unit) => z = F_sx_has mu vx ∧ ((z = 1 ∧ (0 ≤ vx.toInt ∧ vx.toInt < (mu 4 6).toInt ∧ (mu 4 6).toInt ≤ 7)) ∨ (z = 0 ∧ (vx.toInt < 0 ∨ (mu 4 6).toInt ≤ vx.toInt)))) (fun _ t => t.heap = H) (fun _ => False)) 0 0 (fun _ => False) := by
  refine Met.ofW (cc := cX10_has) (maxL := 2) (ret := (some .boolean)) (by decide) rfl ?_
  intro p e s m args below meth c s₁ B hml hv
  obtain ⟨rfl, hh, hK, hz⟩ := hv
  have hx := B.exec
  have hb := B.bytes
  have hr := B.returns
  have hts := atoms_spec (ws := (wU yX10_has cX10_has 2 (some .boolean))) B.pre
  have hown : s.vm.findClass RX10 = some m.cls := findClass_of_methodNamed B.named
  have hlocks := B.notSynchronized
  subst hh
  have hS : va_S (fun _ => False) s.heap s.heap [] := va_S.rf
  have hl := lv_entry ([.ref (ad 4), .int vx]) (n := 2) (Nat.le_of_ble_eq_true rfl)
  rw [lg_entry_eq]
  generalize (lg_sl ([.ref (ad 4), .int vx]) ++ List.replicate (2 - (lg_sl ([.ref (ad 4), .int vx])).length) Slot.unset).toArray = ls at hl ⊢
  have hl : lv_has ls 2 [(0, .ref (ad 4)), (1, .int vx)] := hl
  obtain ⟨fz, hfz⟩ : ∃ z, F_sx_has mu vx = z := ⟨_, rfl⟩
  have hF := hfz
  unfold F_sx_has at hF
  refine lv_iload_n hx hb dX10_has_0 rfl (lv_at hl 1 rfl) ?_
  refine lv_if_lt (tgt := 16) hx hb dX10_has_1 (by decide) (fun c_1 => ?_) (fun c_1 => ?_)
  · have hF := (if_pos c_1).symm.trans hF
    have c_1 : vx.toInt < 0 := il_lt c_1
    refine lv_iconst (v := 0) hx hb dX10_has_16 (by decide) ?_
    exact W.zret (v := 0) (ty := .boolean) hx hb hr (by first | rfl | decide) (fun t ht hW => ⟨⟨0, (), rfl, ⟨hF.trans hfz.symm, (Or.inr ⟨rfl, by omega⟩)⟩, ht⟩, hS.F ht⟩) hS.2.2 dX10_has_17
  · have hF := (if_neg c_1).symm.trans hF
    have c_1 : 0 ≤ vx.toInt := il_nlt c_1
    refine lv_iload_n hx hb dX10_has_4 rfl (lv_at hl 1 rfl) ?_
    refine lv_aload_n hx hb dX10_has_5 rfl (lv_at hl 0 rfl) ?_
    refine va_get (D := (dC, dI)) (ci := 10) (v := .int (mu 4 6)) (C := RX10) (T := TX10) (N := 8) hx hb hts inG10 hown hK hP 4 (gX_4 cs ad mu) rfl 6 (by decide) (hts _ (List.mem_cons_of_mem _ mw_1_160)) (fun _ h9 => h9) rfl dX10_has_6 ?_
    refine lv_topi (fun y2 ey2 => ?_)
    have hF := mi_let hF ey2
    have by2 : y2.toInt = (mu 4 6).toInt := congrArg Int32.toInt ey2
    have gy2 : 0 ≤ y2.toInt ∧ y2.toInt ≤ 7 := by rw [ey2]; exact rX_4_6 ok
    refine lv_icmp_ge (tgt := 16) hx hb dX10_has_9 (by decide) (fun c_3 => ?_) (fun c_3 => ?_)
    · have hF := (if_pos c_3).symm.trans hF
      have c_3 : y2.toInt ≤ vx.toInt := il_le c_3
      refine lv_iconst (v := 0) hx hb dX10_has_16 (by decide) ?_
      exact W.zret (v := 0) (ty := .boolean) hx hb hr (by first | rfl | decide) (fun t ht hW => ⟨⟨0, (), rfl, ⟨hF.trans hfz.symm, (Or.inr ⟨rfl, by have hb4 := congrArg Int32.toInt ey2; omega⟩)⟩, ht⟩, hS.F ht⟩) hS.2.2 dX10_has_17
    · have hF := (if_neg c_3).symm.trans hF
      have c_3 : vx.toInt < y2.toInt := il_nle c_3
      refine lv_iconst (v := 1) hx hb dX10_has_12 (by decide) ?_
      refine lv_goto (tgt := 17) hx hb dX10_has_13 (by decide) ?_
      exact W.zret (v := 1) (ty := .boolean) hx hb hr (by first | rfl | decide) (fun t ht hW => ⟨⟨1, (), rfl, ⟨hF.trans hfz.symm, (Or.inl ⟨rfl, by have hb5 := congrArg Int32.toInt ey2; omega⟩)⟩, ht⟩, hS.F ht⟩) hS.2.2 dX10_has_17
set_option maxHeartbeats 4000000 in
set_option maxRecDepth 100000 in
/-- sx_found -/
theorem sx_found (l : Launch) (dC : Nat → ClassId) (dI : Nat → Nat → Nat) (cs : Nat → ClassId) (ad : Nat → Nat) (mu : Nat → Nat → Int32) (ok : okR loX hiX mu) (H : Heap) (hP : va_P (dC, dI) vwCl (wR 157 ad (EX cs ad) mu) H) (hD0 : va_D (fun _ => True) (wR 157 ad (EX cs ad) mu)) (vw : Int32) (hin0 : 1 ≤ vw.toInt ∧ vw.toInt ≤ 5) : Met l yX11_found (wU yX11_found cX11_found 2 (some .int)) ({ frames := 0, cells := 0, slots := 0, locals := 0 }) (va_Pc [.ref (ad 0), .int vw] (sz_P (dC, dI) vwCl (tyW cs) H)) (va_Qi (fun (z : Int32) (xi : Nat → Nat → Int32) => (z, xi) = F_sx_found mu vw ∧ okR loX hiX xi ∧ (-3 ≤ z.toInt ∧ z.toInt ≤ -3) ∧ (∀ k f : Nat, Nat.testBit 510 (gpX k f) = true → xi k f = mu k f)) (fun xi t => va_P (dC, dI) vwCl (wR 157 ad (EX cs ad) xi) t.heap) (va_A (wR 157 ad (EX cs ad) mu) H.size)) 0 0 (va_A (wR 157 ad (EX cs ad) mu) H.size) := by
  refine Met.ofW (cc := cX11_found) (maxL := 2) (ret := (some .int)) (by decide) rfl ?_
  intro p e s m args below meth c s₁ B hml hv
  obtain ⟨rfl, hh, hK, hz⟩ := hv
  have hx := B.exec
  have hb := B.bytes
  have hr := B.returns
  have hts := atoms_spec (ws := (wU yX11_found cX11_found 2 (some .int))) B.pre
  have hown : s.vm.findClass RX11 = some m.cls := findClass_of_methodNamed B.named
  have hlocks := B.notSynchronized
  subst hh
  have hD := hD0.self (sz := s.heap.size)
  have hA : ∀ q : Nat, s.heap.size ≤ q → (va_A (wR 157 ad (EX cs ad) mu) s.heap.size) q := fun q h => Or.inr h
  have hS : va_S (va_A (wR 157 ad (EX cs ad) mu) s.heap.size) s.heap s.heap [] := va_S.rf
  have hl := lv_entry ([.ref (ad 0), .int vw]) (n := 2) (Nat.le_of_ble_eq_true rfl)
  rw [lg_entry_eq]
  generalize (lg_sl ([.ref (ad 0), .int vw]) ++ List.replicate (2 - (lg_sl ([.ref (ad 0), .int vw])).length) Slot.unset).toArray = ls at hl ⊢
  have hl : lv_has ls 2 [(0, .ref (ad 0)), (1, .int vw)] := hl
  obtain ⟨fz, hfz⟩ : ∃ z, F_sx_found mu vw = z := ⟨_, rfl⟩
  have hF := hfz
  unfold F_sx_found at hF
  refine lv_aload_n hx hb dX11_found_0 rfl (lv_at hl 0 rfl) ?_
  refine lv_iload_n hx hb dX11_found_1 rfl (lv_at hl 1 rfl) ?_
  refine va_put (D := (dC, dI)) (ci := 11) (v := .int vw) (ty := .int) (C := RX11) (T := TX11) (N := 11) hx hb hts inG11 tyX11 tyX11_ok nmX11 hown hK hP (wR_D mu hD) hS 0 (gX_0 cs ad mu) rfl 9 (by decide) (hts _ (List.mem_cons_of_mem _ mw_2_167)) (fun _ h9 => h9) rfl (by decide +kernel) rfl rfl (Nat.le_of_ble_eq_true rfl) dX11_found_2 (fun H locs hP _ hS => ?_)
  simp only [List.set_cons_succ, List.set_cons_zero] at hP
  refine wr_gen (upd (mu 0) 9 vw) hP ((hX_0_9 cs ad _ _)) (fun nu1 hn1 hP => ?_)
  have hF := mi_let hF hn1.symm
  have ok := tX_0_9 ok hn1
  have kp2 : (∀ k f : Nat, Nat.testBit 510 (gpX k f) = true → nu1 k f = mu k f) := kp_c 0 hn1 (fun _ => rfl) (by decide) (fun _ _ _ => rfl)
  have ez3 : vw = nu1 0 9 := up_v hn1
  refine lv_aload_n hx hb dX11_found_5 rfl (lv_at hl 0 rfl) ?_
  refine va_get (D := (dC, dI)) (ci := 11) (v := .ref (ad 7)) (C := RX11) (T := TX11) (N := 11) hx hb hts inG11 hown hK hP 0 (gX_0 cs ad nu1) rfl 8 (by decide) (hts _ (List.mem_cons_of_mem _ mw_2_166)) (fun _ h9 => h9) rfl dX11_found_6 ?_
  refine lv_iload_n hx hb dX11_found_9 rfl (lv_at hl 1 rfl) ?_
  refine lv_dup2_11 hx hb dX11_found_10 rfl rfl ?_
  refine va_iald hx hb hK hP 7 0 (gX_7 cs ad nu1) rfl (show vp_in vw 6 from vi_of (by omega) (by omega)) dX11_found_11 ?_
  refine lv_topi (fun y4 ey4 => ?_)
  have hF := mi_let hF ey4
  have by4 : y4.toInt = (nu1 7 vw.toNatClampNeg).toInt := congrArg Int32.toInt ey4
  refine lv_iconst (v := 1) hx hb dX11_found_12 (by decide) ?_
  refine lv_iadd hx hb dX11_found_13 ?_
  refine lv_topi (fun t5 et5 => ?_)
  have hF := mi_let hF et5
  refine va_iast hx hb hK hP (wR_D nu1 hD) hS 7 0 (gX_7 cs ad nu1) rfl (show vp_in vw 6 from vi_of (by omega) (by omega)) dX11_found_14 (fun H locs hP _ hS => ?_)
  refine wr_gen (upd (nu1 7) vw.toNatClampNeg t5) hP (rfl) (fun nu6 hn6 hP => ?_)
  have hF := mi_let hF hn6.symm
  have ok := tX_7_s ok vw.toNatClampNeg hn6
  have ez7 : vw = nu6 0 9 := ez3.trans (congrFun (up_k hn6 (by decide)) 9).symm
  have kp8 : (∀ k f : Nat, Nat.testBit 510 (gpX k f) = true → nu6 k f = mu k f) := kp_c 0 hn6 (fun _ => rfl) (by decide) kp2
  refine lv_bipush (v := (-3)) hx hb dX11_found_15 (by decide) ?_
  exact W.iret (v := (-3)) hx hb hr (fun t ht hW => ⟨⟨(-3), nu6, rfl, ⟨hF.trans hfz.symm, ok, (by have h6 : ((-3) : Int32).toInt = -3 := rfl; omega), kp8⟩, by first | (subst ht; exact hP) | (rw [ht]; exact hP) | (show va_P (dC, dI) vwCl (wR 157 ad (EX cs ad) nu6) t.heap; rw [ht]; exact hP)⟩, hS.F ht⟩) hS.2.2 dX11_found_17
set_option maxHeartbeats 4000000 in
set_option maxRecDepth 100000 in
/-- sx_near -/
theorem sx_near (l : Launch) (dC : Nat → ClassId) (dI : Nat → Nat → Nat) (cs : Nat → ClassId) (ad : Nat → Nat) (mu : Nat → Nat → Int32) (ok : okR loX hiX mu) (H : Heap) (hP : va_P (dC, dI) vwCl (wR 157 ad (EX cs ad) mu) H) (vx : Int32) (vs : Int32) : Met l yX10_near (wU yX10_near cX10_near 5 (some .int)) ({ frames := 1, cells := 0, slots := 0, locals := 21 }) (va_Pc [.ref (ad 4), .int vx, .int vs] (sz_P (dC, dI) vwCl (tyW cs) H)) (va_Qi (fun (z : Int32) (_ : Unit) => z = F_sx_near mu vx vs ∧ (True)) (fun _ t => t.heap = H) (fun _ => False)) 0 0 (fun _ => False) := by
  refine Met.ofW (cc := cX10_near) (maxL := 5) (ret := (some .int)) (by decide) rfl ?_
  intro p e s m args below meth c s₁ B hml hv
  obtain ⟨rfl, hh, hK, hz⟩ := hv
  have hx := B.exec
  have hb := B.bytes
  have hr := B.returns
  have hts := atoms_spec (ws := (wU yX10_near cX10_near 5 (some .int))) B.pre
  have hown : s.vm.findClass RX10 = some m.cls := findClass_of_methodNamed B.named
  have hlocks := B.notSynchronized
  subst hh
  have hS : va_S (fun _ => False) s.heap s.heap [] := va_S.rf
  have hl := lv_entry ([.ref (ad 4), .int vx, .int vs]) (n := 5) (Nat.le_of_ble_eq_true rfl)
  rw [lg_entry_eq]
  generalize (lg_sl ([.ref (ad 4), .int vx, .int vs]) ++ List.replicate (5 - (lg_sl ([.ref (ad 4), .int vx, .int vs])).length) Slot.unset).toArray = ls at hl ⊢
  have hl : lv_has ls 5 [(0, .ref (ad 4)), (1, .int vx), (2, .int vs)] := hl
  obtain ⟨fz, hfz⟩ : ∃ z, F_sx_near mu vx vs = z := ⟨_, rfl⟩
  have hF := hfz
  unfold F_sx_near at hF
  refine lv_iconst (v := 0) hx hb dX10_near_0 (by decide) ?_
  refine lv_istore_n (lv' := [(3, .int 0), (0, .ref (ad 4)), (1, .int vx), (2, .int vs)]) hx hb dX10_near_1 rfl hl (by decide) rfl (fun ls hl => ?_)
  refine lv_iconst (v := 0) hx hb dX10_near_2 (by decide) ?_
  refine lv_istore (lv' := [(4, .int 0), (3, .int 0), (0, .ref (ad 4)), (1, .int vx), (2, .int vs)]) hx hb dX10_near_3 hl (by decide) rfl (fun ls hl => ?_)
  have loop5 : ∀ (n5 : Nat) (v3_5 : Int32) (v4_5 : Int32) (locs : List Loc) (ls : Array Slot), (12 + 1 - v4_5.toInt).toNat < n5 → (0 ≤ v4_5.toInt ∧ v4_5.toInt ≤ 12) → L_sx_near_5_0 mu vs vx n5 v3_5 v4_5 = fz → va_S (fun _ => False) s.heap s.heap locs → lv_has ls 5 [(4, .int v4_5), (3, .int v3_5), (0, .ref (ad 4)), (1, .int vx), (2, .int vs)] → W p l e (headSpec (wU yX10_near cX10_near 5 (some .int)) ({ frames := 1, cells := 0, slots := 0, locals := 21 })).room s m ([.ref (ad 4), .int vx, .int vs] : List Value).toArray below meth c s.heap locs 0 0 (MQ below (va_Qi (fun (z : Int32) (_ : Unit) => z = F_sx_near mu vx vs ∧ (True)) (fun _ t => t.heap = s.heap) (fun _ => False)) ([.ref (ad 4), .int vx, .int vs] : List Value).toArray s 0 0 (fun _ => False)) (F0 m 5 ls []) := by
    intro n5
    induction n5 with
    | zero => intro v3_5 v4_5 locs ls hm; exact absurd hm (Nat.not_lt_zero _)
    | succ n5 ih5 =>
      intro v3_5 v4_5 locs ls hm_5 h_v4_5 hF hS hl
      rw [L_sx_near_5_0] at hF
      refine lv_iload hx hb dX10_near_5 (lv_at hl 0 rfl) ?_
      refine lv_aload_n hx hb dX10_near_7 rfl (lv_at hl 2 rfl) ?_
      refine va_get (D := (dC, dI)) (ci := 10) (v := .int (mu 4 7)) (C := RX10) (T := TX10) (N := 8) hx hb hts inG10 hown hK hP 4 (gX_4 cs ad mu) rfl 7 (by decide) (hts _ (List.mem_cons_of_mem _ mw_1_165)) (fun _ h9 => h9) rfl dX10_near_8 ?_
      refine lv_topi (fun y1 ey1 => ?_)
      have hF := mi_let hF ey1
      have by1 : y1.toInt = (mu 4 7).toInt := congrArg Int32.toInt ey1
      have gy1 : 0 ≤ y1.toInt ∧ y1.toInt ≤ 12 := by rw [ey1]; exact rX_4_7 ok
      refine lv_icmp_ge (tgt := 81) hx hb dX10_near_11 (by decide) (fun c_2 => ?_) (fun c_2 => ?_)
      · have hF := (if_pos c_2).symm.trans hF
        have c_2 : y1.toInt ≤ v4_5.toInt := il_le c_2
        refine lv_iload_n hx hb dX10_near_81 rfl (lv_at hl 1 rfl) ?_
        exact W.iret (v := v3_5) hx hb hr (fun t ht hW => ⟨⟨v3_5, (), rfl, ⟨hF.trans hfz.symm, trivial⟩, ht⟩, hS.F ht⟩) hS.2.2 dX10_near_82
      · have hF := (if_neg c_2).symm.trans hF
        have c_2 : v4_5.toInt < y1.toInt := il_nle c_2
        refine lv_iload_n hx hb dX10_near_14 rfl (lv_at hl 4 rfl) ?_
        refine lv_iload hx hb dX10_near_15 (lv_at hl 0 rfl) ?_
        refine cr_i (va_runSN (As := [.int vs, .int v4_5]) (rest := []) ⟨hx, hb, hml, hown, hts⟩ (sx_hasBit l dC dI (tyW cs) s.heap vs v4_5) ⟨va_cnB 2 hts (wU_in mw_3_87) rfl rfl rfl (hz.2.2.1) (hts _ (List.mem_cons_of_mem _ mw_1_1)) (by decide +kernel) ⟨Nat.le_of_ble_eq_true rfl, Nat.le_of_ble_eq_true rfl⟩, (hts _ (List.mem_cons_of_mem _ mw_3_86)), trivial⟩ ⟨sz_c, sz_m hK hz⟩ rfl rfl hl.1 rfl (lv_room (Nat.le_of_ble_eq_true rfl)) dX10_near_17 ⟨Nat.zero_le _, Nat.zero_le _⟩) hS (fun r3 hw3 locs hS => ?_)
        obtain ⟨hfe3, hw3⟩ := hw3
        have hF := mi_let hF hfe3
        have gr3 : 0 ≤ r3.toInt ∧ r3.toInt ≤ 1 := hw3
        refine lv_if_eq (tgt := 26) hx hb dX10_near_20 (by decide) (fun c_4 => ?_) (fun c_4 => ?_)
        · have hF := (if_pos c_4).symm.trans hF
          have c_4 : r3.toInt = 0 := il_eq c_4
          refine lv_aload_n hx hb dX10_near_26 rfl (lv_at hl 2 rfl) ?_
          refine va_get (D := (dC, dI)) (ci := 10) (v := .ref (ad 35)) (C := RX10) (T := TX10) (N := 8) hx hb hts inG10 hown hK hP 4 (gX_4 cs ad mu) rfl 1 (by decide) (hts _ (List.mem_cons_of_mem _ mw_1_148)) (fun _ h9 => h9) rfl dX10_near_27 ?_
          refine lv_iload hx hb dX10_near_30 (lv_at hl 0 rfl) ?_
          refine va_iald hx hb hK hP 35 0 (gX_35 cs ad mu) rfl (show vp_in v4_5 12 from vi_of (by omega) (by omega)) dX10_near_32 ?_
          refine lv_topi (fun y5 ey5 => ?_)
          have hF := mi_let hF ey5
          have by5 : y5.toInt = (mu 35 v4_5.toNatClampNeg).toInt := congrArg Int32.toInt ey5
          have gy5 : 0 ≤ y5.toInt ∧ y5.toInt ≤ 6 := by rw [ey5]; exact rX_35_s ok v4_5.toNatClampNeg
          refine lv_iload_n hx hb dX10_near_33 rfl (lv_at hl 3 rfl) ?_
          refine lv_icmp_ne (tgt := 52) hx hb dX10_near_34 (by decide) (fun c_6 => ?_) (fun c_6 => ?_)
          · have hF := (if_neg c_6).symm.trans hF
            have c_6 : ¬ y5.toInt = vx.toInt := il_ne c_6
            refine lv_aload_n hx hb dX10_near_52 rfl (lv_at hl 2 rfl) ?_
            refine va_get (D := (dC, dI)) (ci := 10) (v := .ref (ad 36)) (C := RX10) (T := TX10) (N := 8) hx hb hts inG10 hown hK hP 4 (gX_4 cs ad mu) rfl 2 (by decide) (hts _ (List.mem_cons_of_mem _ mw_1_150)) (fun _ h9 => h9) rfl dX10_near_53 ?_
            refine lv_iload hx hb dX10_near_56 (lv_at hl 0 rfl) ?_
            refine va_iald hx hb hK hP 36 0 (gX_36 cs ad mu) rfl (show vp_in v4_5 12 from vi_of (by omega) (by omega)) dX10_near_58 ?_
            refine lv_topi (fun y7 ey7 => ?_)
            have hF := mi_let hF ey7
            have by7 : y7.toInt = (mu 36 v4_5.toNatClampNeg).toInt := congrArg Int32.toInt ey7
            have gy7 : 0 ≤ y7.toInt ∧ y7.toInt ≤ 6 := by rw [ey7]; exact rX_36_s ok v4_5.toNatClampNeg
            refine lv_iload_n hx hb dX10_near_59 rfl (lv_at hl 3 rfl) ?_
            refine lv_icmp_ne (tgt := 75) hx hb dX10_near_60 (by decide) (fun c_8 => ?_) (fun c_8 => ?_)
            · have hF := (if_neg c_8).symm.trans hF
              have c_8 : ¬ y7.toInt = vx.toInt := il_ne c_8
              refine lv_iinc (v := (v4_5 + 1)) (lv' := [(4, .int (v4_5 + 1)), (3, .int v3_5), (0, .ref (ad 4)), (1, .int vx), (2, .int vs)]) hx hb dX10_near_75 hl (k := 0) rfl rfl (by decide) rfl (fun ls hl => ?_)
              refine loc_gen (P := fun w9 => lv_has ls 5 [(4, .int w9), (3, .int v3_5), (0, .ref (ad 4)), (1, .int vx), (2, .int vs)]) (v4_5 + 1) hl (fun w9 hw9 hl => ?_)
              have hl : lv_has ls 5 [(4, .int w9), (3, .int v3_5), (0, .ref (ad 4)), (1, .int vx), (2, .int vs)] := hl
              have hF := mi_let hF hw9.symm
              have aw9 : w9.toInt = v4_5.toInt + 1 := by rw [← hw9]; first | exact va1 (Int.lt_of_le_of_lt h_v4_5.2 (by decide)) | exact va1 (by omega)
              refine lv_goto (tgt := 5) hx hb dX10_near_78 (by decide) ?_
              exact ih5 (v3_5) (w9)  _ _ (by first | exact ms_up hm_5 aw9 h_v4_5.2 | exact ms_lt hm_5 (by omega) (by omega) | omega) (by first | exact rg_up aw9 h_v4_5 (by omega) | omega)   hF hS (lv_sub hl [0, 1, 2, 3, 4] rfl)
            · have hF := (if_pos c_8).symm.trans hF
              have c_8 : y7.toInt = vx.toInt := il_eq c_8
              refine lv_iload_n hx hb dX10_near_63 rfl (lv_at hl 1 rfl) ?_
              refine lv_iconst (v := 1) hx hb dX10_near_64 (by decide) ?_
              refine lv_aload_n hx hb dX10_near_65 rfl (lv_at hl 2 rfl) ?_
              refine va_get (D := (dC, dI)) (ci := 10) (v := .ref (ad 35)) (C := RX10) (T := TX10) (N := 8) hx hb hts inG10 hown hK hP 4 (gX_4 cs ad mu) rfl 1 (by decide) (hts _ (List.mem_cons_of_mem _ mw_1_148)) (fun _ h9 => h9) rfl dX10_near_66 ?_
              refine lv_iload hx hb dX10_near_69 (lv_at hl 0 rfl) ?_
              refine va_iald hx hb hK hP 35 0 (gX_35 cs ad mu) rfl (show vp_in v4_5 12 from vi_of (by omega) (by omega)) dX10_near_71 ?_
              refine lq_i y5 ey5.symm ?_
              refine lv_ishl hx hb dX10_near_72 ?_
              refine lv_topi (fun t10 et10 => ?_)
              have hF := mi_let hF et10
              refine lv_ior hx hb dX10_near_73 ?_
              refine lv_topi (fun t11 et11 => ?_)
              have hF := mi_let hF et11
              refine lv_istore_n (lv' := [(3, .int t11), (4, .int v4_5), (0, .ref (ad 4)), (1, .int vx), (2, .int vs)]) hx hb dX10_near_74 rfl hl (by decide) rfl (fun ls hl => ?_)
              refine lv_iinc (v := (v4_5 + 1)) (lv' := [(4, .int (v4_5 + 1)), (3, .int t11), (0, .ref (ad 4)), (1, .int vx), (2, .int vs)]) hx hb dX10_near_75 hl (k := 1) rfl rfl (by decide) rfl (fun ls hl => ?_)
              refine loc_gen (P := fun w9 => lv_has ls 5 [(4, .int w9), (3, .int t11), (0, .ref (ad 4)), (1, .int vx), (2, .int vs)]) (v4_5 + 1) hl (fun w12 hw12 hl => ?_)
              have hl : lv_has ls 5 [(4, .int w12), (3, .int t11), (0, .ref (ad 4)), (1, .int vx), (2, .int vs)] := hl
              have hF := mi_let hF hw12.symm
              have aw12 : w12.toInt = v4_5.toInt + 1 := by rw [← hw12]; first | exact va1 (Int.lt_of_le_of_lt h_v4_5.2 (by decide)) | exact va1 (by omega)
              refine lv_goto (tgt := 5) hx hb dX10_near_78 (by decide) ?_
              exact ih5 (t11) (w12)  _ _ (by first | exact ms_up hm_5 aw12 h_v4_5.2 | exact ms_lt hm_5 (by omega) (by omega) | omega) (by first | exact rg_up aw12 h_v4_5 (by omega) | omega)   hF hS (lv_sub hl [0, 1, 2, 3, 4] rfl)
          · have hF := (if_pos c_6).symm.trans hF
            have c_6 : y5.toInt = vx.toInt := il_eq c_6
            refine lv_iload_n hx hb dX10_near_37 rfl (lv_at hl 1 rfl) ?_
            refine lv_iconst (v := 1) hx hb dX10_near_38 (by decide) ?_
            refine lv_aload_n hx hb dX10_near_39 rfl (lv_at hl 2 rfl) ?_
            refine va_get (D := (dC, dI)) (ci := 10) (v := .ref (ad 36)) (C := RX10) (T := TX10) (N := 8) hx hb hts inG10 hown hK hP 4 (gX_4 cs ad mu) rfl 2 (by decide) (hts _ (List.mem_cons_of_mem _ mw_1_150)) (fun _ h9 => h9) rfl dX10_near_40 ?_
            refine lv_iload hx hb dX10_near_43 (lv_at hl 0 rfl) ?_
            refine va_iald hx hb hK hP 36 0 (gX_36 cs ad mu) rfl (show vp_in v4_5 12 from vi_of (by omega) (by omega)) dX10_near_45 ?_
            refine lv_topi (fun y13 ey13 => ?_)
            have hF := mi_let hF ey13
            have by13 : y13.toInt = (mu 36 v4_5.toNatClampNeg).toInt := congrArg Int32.toInt ey13
            have gy13 : 0 ≤ y13.toInt ∧ y13.toInt ≤ 6 := by rw [ey13]; exact rX_36_s ok v4_5.toNatClampNeg
            refine lv_ishl hx hb dX10_near_46 ?_
            refine lv_topi (fun t14 et14 => ?_)
            have hF := mi_let hF et14
            refine lv_ior hx hb dX10_near_47 ?_
            refine lv_topi (fun t15 et15 => ?_)
            have hF := mi_let hF et15
            refine lv_istore_n (lv' := [(3, .int t15), (4, .int v4_5), (0, .ref (ad 4)), (1, .int vx), (2, .int vs)]) hx hb dX10_near_48 rfl hl (by decide) rfl (fun ls hl => ?_)
            refine lv_goto (tgt := 75) hx hb dX10_near_49 (by decide) ?_
            refine lv_iinc (v := (v4_5 + 1)) (lv' := [(4, .int (v4_5 + 1)), (3, .int t15), (0, .ref (ad 4)), (1, .int vx), (2, .int vs)]) hx hb dX10_near_75 hl (k := 1) rfl rfl (by decide) rfl (fun ls hl => ?_)
            refine loc_gen (P := fun w9 => lv_has ls 5 [(4, .int w9), (3, .int t15), (0, .ref (ad 4)), (1, .int vx), (2, .int vs)]) (v4_5 + 1) hl (fun w16 hw16 hl => ?_)
            have hl : lv_has ls 5 [(4, .int w16), (3, .int t15), (0, .ref (ad 4)), (1, .int vx), (2, .int vs)] := hl
            have hF := mi_let hF hw16.symm
            have aw16 : w16.toInt = v4_5.toInt + 1 := by rw [← hw16]; first | exact va1 (Int.lt_of_le_of_lt h_v4_5.2 (by decide)) | exact va1 (by omega)
            refine lv_goto (tgt := 5) hx hb dX10_near_78 (by decide) ?_
            exact ih5 (t15) (w16)  _ _ (by first | exact ms_up hm_5 aw16 h_v4_5.2 | exact ms_lt hm_5 (by omega) (by omega) | omega) (by first | exact rg_up aw16 h_v4_5 (by omega) | omega)   hF hS (lv_sub hl [0, 1, 2, 3, 4] rfl)
        · have hF := (if_neg c_4).symm.trans hF
          have c_4 : ¬ r3.toInt = 0 := il_ne c_4
          refine lv_goto (tgt := 75) hx hb dX10_near_23 (by decide) ?_
          refine lv_iinc (v := (v4_5 + 1)) (lv' := [(4, .int (v4_5 + 1)), (3, .int v3_5), (0, .ref (ad 4)), (1, .int vx), (2, .int vs)]) hx hb dX10_near_75 hl (k := 0) rfl rfl (by decide) rfl (fun ls hl => ?_)
          refine loc_gen (P := fun w9 => lv_has ls 5 [(4, .int w9), (3, .int v3_5), (0, .ref (ad 4)), (1, .int vx), (2, .int vs)]) (v4_5 + 1) hl (fun w17 hw17 hl => ?_)
          have hl : lv_has ls 5 [(4, .int w17), (3, .int v3_5), (0, .ref (ad 4)), (1, .int vx), (2, .int vs)] := hl
          have hF := mi_let hF hw17.symm
          have aw17 : w17.toInt = v4_5.toInt + 1 := by rw [← hw17]; first | exact va1 (Int.lt_of_le_of_lt h_v4_5.2 (by decide)) | exact va1 (by omega)
          refine lv_goto (tgt := 5) hx hb dX10_near_78 (by decide) ?_
          exact ih5 (v3_5) (w17)  _ _ (by first | exact ms_up hm_5 aw17 h_v4_5.2 | exact ms_lt hm_5 (by omega) (by omega) | omega) (by first | exact rg_up aw17 h_v4_5 (by omega) | omega)   hF hS (lv_sub hl [0, 1, 2, 3, 4] rfl)
  exact loop5 15 (0) (0)  _ _ (by have h80 : (0 : Int32).toInt = 0 := rfl; have h81 : (0 : Int32).toInt = 0 := rfl; omega) (by have h80 : (0 : Int32).toInt = 0 := rfl; exact ⟨by omega, by omega⟩)   hF hS hl
set_option maxHeartbeats 4000000 in
set_option maxRecDepth 100000 in
/-- sx_Row_isMissing -/
theorem sx_Row_isMissing (l : Launch) (dC : Nat → ClassId) (dI : Nat → Nat → Nat) (cs : Nat → ClassId) (ad : Nat → Nat) (mu : Nat → Nat → Int32) (ok : okR loX hiX mu) (H : Heap) (hP : va_P (dC, dI) vwCl (wR 157 ad (EX cs ad) mu) H) (kk : Nat) (h1kk : 8 ≤ kk) (h2kk : kk < 14) : Met l yX6_isMissing (wU yX6_isMissing cX6_isMissing 1 (some .boolean)) ({ frames := 0, cells := 0, slots := 0, locals := 0 }) (va_Pc [.ref (ad kk)] (sz_P (dC, dI) vwCl (tyW cs) H)) (va_Qi (fun (z : Int32) (_ : Unit) => z = F_sx_Row_isMissing mu kk ∧ ((z = 1 ∧ ((mu kk 1).toInt < 0)) ∨ (z = 0 ∧ (0 ≤ (mu kk 1).toInt)))) (fun _ t => t.heap = H) (fun _ => False)) 0 0 (fun _ => False) := by
  refine Met.ofW (cc := cX6_isMissing) (maxL := 1) (ret := (some .boolean)) (by decide) rfl ?_
  intro p e s m args below meth c s₁ B hml hv
  obtain ⟨rfl, hh, hK, hz⟩ := hv
  have hx := B.exec
  have hb := B.bytes
  have hr := B.returns
  have hts := atoms_spec (ws := (wU yX6_isMissing cX6_isMissing 1 (some .boolean))) B.pre
  have hown : s.vm.findClass RX6 = some m.cls := findClass_of_methodNamed B.named
  have hlocks := B.notSynchronized
  subst hh
  have hS : va_S (fun _ => False) s.heap s.heap [] := va_S.rf
  have hl := lv_entry ([.ref (ad kk)]) (n := 1) (Nat.le_of_ble_eq_true rfl)
  rw [lg_entry_eq]
  generalize (lg_sl ([.ref (ad kk)]) ++ List.replicate (1 - (lg_sl ([.ref (ad kk)])).length) Slot.unset).toArray = ls at hl ⊢
  have hl : lv_has ls 1 [(0, .ref (ad kk))] := hl
  obtain ⟨fz, hfz⟩ : ∃ z, F_sx_Row_isMissing mu kk = z := ⟨_, rfl⟩
  have hF := hfz
  unfold F_sx_Row_isMissing at hF
  refine lv_aload_n hx hb dX6_isMissing_0 rfl (lv_at hl 0 rfl) ?_
  refine va_get (D := (dC, dI)) (ci := 6) (v := .int (mu kk 1)) (C := RX6) (T := TX6) (N := 2) hx hb hts inG6 hown hK hP kk (gX_row cs ad mu kk h1kk h2kk) rfl 1 (by decide) (hts _ (List.mem_cons_of_mem _ mw_2_132)) (fun _ h9 => h9) rfl dX6_isMissing_1 ?_
  refine lv_topi (fun y1 ey1 => ?_)
  have hF := mi_let hF ey1
  have by1 : y1.toInt = (mu kk 1).toInt := congrArg Int32.toInt ey1
  have gy1 : -1 ≤ y1.toInt ∧ y1.toInt ≤ 40 := by rw [ey1]; exact rX_row_1 ok kk h1kk h2kk
  refine lv_if_ge (tgt := 11) hx hb dX6_isMissing_4 (by decide) (fun c_2 => ?_) (fun c_2 => ?_)
  · have hF := (if_pos c_2).symm.trans hF
    have c_2 : 0 ≤ y1.toInt := il_le c_2
    refine lv_iconst (v := 0) hx hb dX6_isMissing_11 (by decide) ?_
    exact W.zret (v := 0) (ty := .boolean) hx hb hr (by first | rfl | decide) (fun t ht hW => ⟨⟨0, (), rfl, ⟨hF.trans hfz.symm, (Or.inr ⟨rfl, by have hb3 := congrArg Int32.toInt ey1; omega⟩)⟩, ht⟩, hS.F ht⟩) hS.2.2 dX6_isMissing_12
  · have hF := (if_neg c_2).symm.trans hF
    have c_2 : y1.toInt < 0 := il_nle c_2
    refine lv_iconst (v := 1) hx hb dX6_isMissing_7 (by decide) ?_
    refine lv_goto (tgt := 12) hx hb dX6_isMissing_8 (by decide) ?_
    exact W.zret (v := 1) (ty := .boolean) hx hb hr (by first | rfl | decide) (fun t ht hW => ⟨⟨1, (), rfl, ⟨hF.trans hfz.symm, (Or.inl ⟨rfl, by have hb4 := congrArg Int32.toInt ey1; omega⟩)⟩, ht⟩, hS.F ht⟩) hS.2.2 dX6_isMissing_12
set_option maxHeartbeats 4000000 in
set_option maxRecDepth 100000 in
/-- sx_Text_isMissing -/
theorem sx_Text_isMissing (l : Launch) (dC : Nat → ClassId) (dI : Nat → Nat → Nat) (cs : Nat → ClassId) (ad : Nat → Nat) (mu : Nat → Nat → Int32) (ok : okR loX hiX mu) (H : Heap) (hP : va_P (dC, dI) vwCl (wR 157 ad (EX cs ad) mu) H) (kk : Nat) (h1kk : 14 ≤ kk) (h2kk : kk < 18) : Met l yX9_isMissing (wU yX9_isMissing cX9_isMissing 1 (some .boolean)) ({ frames := 0, cells := 0, slots := 0, locals := 0 }) (va_Pc [.ref (ad kk)] (sz_P (dC, dI) vwCl (tyW cs) H)) (va_Qi (fun (z : Int32) (_ : Unit) => z = F_sx_Text_isMissing mu kk ∧ ((z = 1 ∧ ((mu kk 1).toInt < 0)) ∨ (z = 0 ∧ (0 ≤ (mu kk 1).toInt)))) (fun _ t => t.heap = H) (fun _ => False)) 0 0 (fun _ => False) := by
  refine Met.ofW (cc := cX9_isMissing) (maxL := 1) (ret := (some .boolean)) (by decide) rfl ?_
  intro p e s m args below meth c s₁ B hml hv
  obtain ⟨rfl, hh, hK, hz⟩ := hv
  have hx := B.exec
  have hb := B.bytes
  have hr := B.returns
  have hts := atoms_spec (ws := (wU yX9_isMissing cX9_isMissing 1 (some .boolean))) B.pre
  have hown : s.vm.findClass RX9 = some m.cls := findClass_of_methodNamed B.named
  have hlocks := B.notSynchronized
  subst hh
  have hS : va_S (fun _ => False) s.heap s.heap [] := va_S.rf
  have hl := lv_entry ([.ref (ad kk)]) (n := 1) (Nat.le_of_ble_eq_true rfl)
  rw [lg_entry_eq]
  generalize (lg_sl ([.ref (ad kk)]) ++ List.replicate (1 - (lg_sl ([.ref (ad kk)])).length) Slot.unset).toArray = ls at hl ⊢
  have hl : lv_has ls 1 [(0, .ref (ad kk))] := hl
  obtain ⟨fz, hfz⟩ : ∃ z, F_sx_Text_isMissing mu kk = z := ⟨_, rfl⟩
  have hF := hfz
  unfold F_sx_Text_isMissing at hF
  refine lv_aload_n hx hb dX9_isMissing_0 rfl (lv_at hl 0 rfl) ?_
  refine va_get (D := (dC, dI)) (ci := 9) (v := .int (mu kk 1)) (C := RX9) (T := TX9) (N := 2) hx hb hts inG9 hown hK hP kk (gX_text cs ad mu kk h1kk h2kk) rfl 1 (by decide) (hts _ (List.mem_cons_of_mem _ mw_2_148)) (fun _ h9 => h9) rfl dX9_isMissing_1 ?_
  refine lv_topi (fun y1 ey1 => ?_)
  have hF := mi_let hF ey1
  have by1 : y1.toInt = (mu kk 1).toInt := congrArg Int32.toInt ey1
  have gy1 : -1 ≤ y1.toInt ∧ y1.toInt ≤ 80 := by rw [ey1]; exact rX_text_1 ok kk h1kk h2kk
  refine lv_if_ge (tgt := 11) hx hb dX9_isMissing_4 (by decide) (fun c_2 => ?_) (fun c_2 => ?_)
  · have hF := (if_pos c_2).symm.trans hF
    have c_2 : 0 ≤ y1.toInt := il_le c_2
    refine lv_iconst (v := 0) hx hb dX9_isMissing_11 (by decide) ?_
    exact W.zret (v := 0) (ty := .boolean) hx hb hr (by first | rfl | decide) (fun t ht hW => ⟨⟨0, (), rfl, ⟨hF.trans hfz.symm, (Or.inr ⟨rfl, by have hb3 := congrArg Int32.toInt ey1; omega⟩)⟩, ht⟩, hS.F ht⟩) hS.2.2 dX9_isMissing_12
  · have hF := (if_neg c_2).symm.trans hF
    have c_2 : y1.toInt < 0 := il_nle c_2
    refine lv_iconst (v := 1) hx hb dX9_isMissing_7 (by decide) ?_
    refine lv_goto (tgt := 12) hx hb dX9_isMissing_8 (by decide) ?_
    exact W.zret (v := 1) (ty := .boolean) hx hb hr (by first | rfl | decide) (fun t ht hW => ⟨⟨1, (), rfl, ⟨hF.trans hfz.symm, (Or.inl ⟨rfl, by have hb4 := congrArg Int32.toInt ey1; omega⟩)⟩, ht⟩, hS.F ht⟩) hS.2.2 dX9_isMissing_12
set_option maxHeartbeats 4000000 in
set_option maxRecDepth 100000 in
/-- sx_refusedRow -/
theorem sx_refusedRow (l : Launch) (dC : Nat → ClassId) (dI : Nat → Nat → Nat) (cs : Nat → ClassId) (ad : Nat → Nat) (mu : Nat → Nat → Int32) (ok : okR loX hiX mu) (H : Heap) (hP : va_P (dC, dI) vwCl (wR 157 ad (EX cs ad) mu) H) (hD0 : va_D (fun _ => True) (wR 157 ad (EX cs ad) mu)) (vr : Int32) : Met l yX11_refusedRow (wU yX11_refusedRow cX11_refusedRow 2 (some .int)) ({ frames := 1, cells := 0, slots := 0, locals := 21 }) (va_Pc [.ref (ad 0), .int vr] (sz_P (dC, dI) vwCl (tyW cs) H)) (va_Qi (fun (z : Int32) (xi : Nat → Nat → Int32) => (z, xi) = F_sx_refusedRow mu vr ∧ ((z = 0 ∧ xi = mu ∧ (0 ≤ vr.toInt ∧ vr.toInt ≤ 5 ∧ 0 ≤ (mu (8 + vr.toNatClampNeg) 1).toInt)) ∨ (z.toInt < 0 ∧ okR loX hiX xi ∧ (∀ k f : Nat, Nat.testBit 510 (gpX k f) = true → xi k f = mu k f)))) (fun xi t => va_P (dC, dI) vwCl (wR 157 ad (EX cs ad) xi) t.heap) (va_A (wR 157 ad (EX cs ad) mu) H.size)) 0 0 (va_A (wR 157 ad (EX cs ad) mu) H.size) := by
  refine Met.ofW (cc := cX11_refusedRow) (maxL := 2) (ret := (some .int)) (by decide) rfl ?_
  intro p e s m args below meth c s₁ B hml hv
  obtain ⟨rfl, hh, hK, hz⟩ := hv
  have hx := B.exec
  have hb := B.bytes
  have hr := B.returns
  have hts := atoms_spec (ws := (wU yX11_refusedRow cX11_refusedRow 2 (some .int))) B.pre
  have hown : s.vm.findClass RX11 = some m.cls := findClass_of_methodNamed B.named
  have hlocks := B.notSynchronized
  subst hh
  have hD := hD0.self (sz := s.heap.size)
  have hA : ∀ q : Nat, s.heap.size ≤ q → (va_A (wR 157 ad (EX cs ad) mu) s.heap.size) q := fun q h => Or.inr h
  have hS : va_S (va_A (wR 157 ad (EX cs ad) mu) s.heap.size) s.heap s.heap [] := va_S.rf
  have hl := lv_entry ([.ref (ad 0), .int vr]) (n := 2) (Nat.le_of_ble_eq_true rfl)
  rw [lg_entry_eq]
  generalize (lg_sl ([.ref (ad 0), .int vr]) ++ List.replicate (2 - (lg_sl ([.ref (ad 0), .int vr])).length) Slot.unset).toArray = ls at hl ⊢
  have hl : lv_has ls 2 [(0, .ref (ad 0)), (1, .int vr)] := hl
  obtain ⟨fz, hfz⟩ : ∃ z, F_sx_refusedRow mu vr = z := ⟨_, rfl⟩
  have hF := hfz
  unfold F_sx_refusedRow at hF
  refine lv_iload_n hx hb dX11_refusedRow_0 rfl (lv_at hl 1 rfl) ?_
  refine cr_i (va_runS (As := [.int vr]) (rest := []) ⟨hx, hb, hml, hown, hts⟩ (sx_isRow l dC dI (tyW cs) s.heap vr) (va_cwS 1 hts (wU_S mw_2_198 mw_2_196 mw_2_197 mw_1_1) rfl rfl rfl (by decide +kernel) ⟨Nat.le_of_ble_eq_true rfl, Nat.le_of_ble_eq_true rfl⟩) ⟨sz_c, sz_m hK hz⟩ rfl rfl hl.1 rfl (lv_room (Nat.le_of_ble_eq_true rfl)) dX11_refusedRow_1 ⟨Nat.zero_le _, Nat.zero_le _⟩) hS (fun r1 hw1 locs hS => ?_)
  obtain ⟨hfe1, hw1⟩ := hw1
  rcases hw1 with ⟨rfl, f1⟩ | ⟨rfl, f1⟩
  · have hF := (if_pos hfe1.symm).symm.trans hF
    have f1 : 0 ≤ vr.toInt ∧ vr.toInt ≤ 5 := f1
    refine lv_if_ne (tgt := 9) hx hb dX11_refusedRow_4 (by decide) (fun _ => ?_) (fun c => absurd c (by decide))
    refine lv_aload_n hx hb dX11_refusedRow_9 rfl (lv_at hl 0 rfl) ?_
    refine va_get (D := (dC, dI)) (ci := 11) (v := .ref (ad 1)) (C := RX11) (T := TX11) (N := 11) hx hb hts inG11 hown hK hP 0 (gX_0 cs ad mu) rfl 0 (by decide) (hts _ (List.mem_cons_of_mem _ mw_2_158)) (fun _ h9 => h9) rfl dX11_refusedRow_10 ?_
    refine lv_iload_n hx hb dX11_refusedRow_13 rfl (lv_at hl 1 rfl) ?_
    have hx2 : 0 ≤ vr.toInt ∧ vr.toInt < ((6 : Nat) : Int) := ⟨by omega, by omega⟩
    refine va_aldq hx hb hK hP 1 2 (gX_1 cs ad mu) rfl (show vp_in vr 6 from vi_of hx2.1 hx2.2) dX11_refusedRow_14 ?_
    have hk2 : 8 ≤ (8 + vr.toNatClampNeg) ∧ (8 + vr.toNatClampNeg) < 14 := ix_of hx2
    refine lq_v (.ref (ad (8 + vr.toNatClampNeg))) rfl ?_
    refine cr_i (va_runV (As := []) (rest := []) ⟨hx, hb, hml, hown, hts⟩ (sx_Row_isMissing l dC dI cs ad mu ok s.heap hP (8 + vr.toNatClampNeg) hk2.1 hk2.2) (cwV 0 hts (wU_V mw_2_225 mw_2_222 mw_2_223 mw_2_224 mw_1_11) rfl rfl rfl (by decide +kernel) ⟨Nat.le_of_ble_eq_true rfl, Nat.le_of_ble_eq_true rfl⟩) ⟨sz_c, va_recv hK hP (ci := 6) (q0 := (8 + vr.toNatClampNeg)) rfl (gX_row cs ad mu (8 + vr.toNatClampNeg) hk2.1 hk2.2), sz_m hK hz⟩ rfl rfl hl.1 rfl (lv_room (Nat.le_of_ble_eq_true rfl)) dX11_refusedRow_15 ⟨Nat.zero_le _, Nat.zero_le _⟩) hS (fun r3 hw3 locs hS => ?_)
    obtain ⟨hfe3, hw3⟩ := hw3
    rcases hw3 with ⟨rfl, f3⟩ | ⟨rfl, f3⟩
    · have hF := (if_pos hfe3.symm).symm.trans hF
      have f3 : (mu (8 + vr.toNatClampNeg) 1).toInt < 0 := f3
      refine lv_if_eq (tgt := 29) hx hb dX11_refusedRow_18 (by decide) (fun c => absurd c (by decide)) (fun _ => ?_)
      refine lv_aload_n hx hb dX11_refusedRow_21 rfl (lv_at hl 0 rfl) ?_
      refine lv_iconst (v := 1) hx hb dX11_refusedRow_22 (by decide) ?_
      have hFc := fr_all (wR_D mu hD) hS hA
      refine va_calli (va_runV (As := [.int 1]) (rest := []) ⟨hx, hb, hml, hown, hts⟩ (sx_found l dC dI cs ad mu ok s.heap hP ((wR_D mu hD).weaken (fun _ _ _ _ => trivial)) 1 (by have h50 : (1 : Int32).toInt = 1 := rfl; omega)) (cwV 1 hts (wU_V mw_2_202 mw_2_199 mw_2_201 mw_0_0 mw_1_1) rfl rfl rfl (by decide +kernel) ⟨Nat.le_of_ble_eq_true rfl, Nat.le_of_ble_eq_true rfl⟩) ⟨sz_c, va_recv hK hP (ci := 11) (q0 := 0) rfl (gX_0 cs ad mu), sz_m hK hz⟩ rfl rfl hl.1 rfl (lv_room (Nat.le_of_ble_eq_true rfl)) dX11_refusedRow_23 ⟨Nat.zero_le _, Nat.zero_le _⟩) hS (fun q _ h => hFc q h) hFc (fun r4 xi4 t H4 locs ht hvm hw4 hB hz1 hk1 hS => ?_)
      have hP : va_P (dC, dI) vwCl (wR 157 ad (EX cs ad) xi4) H4 := by rw [← ht]; exact hB
      obtain ⟨hfe4, ok, hw4, hkp4_0⟩ := hw4
      have hF := mi_letp hF hfe4
      have kp5 : (∀ k f : Nat, Nat.testBit 510 (gpX k f) = true → xi4 k f = mu k f) := kp_t hkp4_0 (by decide) (fun _ _ _ => rfl)
      have gr4 : -3 ≤ r4.toInt ∧ r4.toInt ≤ -3 := hw4
      refine lv_goto (tgt := 30) hx hb dX11_refusedRow_26 (by decide) ?_
      exact W.iret (v := r4) hx hb hr (fun t ht hW => ⟨⟨r4, xi4, rfl, ⟨hF.trans hfz.symm, Or.inr ⟨by omega, ok, kp5⟩⟩, by first | (subst ht; exact hP) | (rw [ht]; exact hP) | (show va_P (dC, dI) vwCl (wR 157 ad (EX cs ad) xi4) t.heap; rw [ht]; exact hP)⟩, hS.F ht⟩) hS.2.2 dX11_refusedRow_30
    · have hF := (if_neg (fun h => absurd (hfe3.trans h) (by decide))).symm.trans hF
      have f3 : 0 ≤ (mu (8 + vr.toNatClampNeg) 1).toInt := f3
      refine lv_if_eq (tgt := 29) hx hb dX11_refusedRow_18 (by decide) (fun _ => ?_) (fun c => absurd (by decide) c)
      refine lv_iconst (v := 0) hx hb dX11_refusedRow_29 (by decide) ?_
      exact W.iret (v := 0) hx hb hr (fun t ht hW => ⟨⟨0, mu, rfl, ⟨hF.trans hfz.symm, Or.inl ⟨rfl, rfl, (by omega)⟩⟩, by first | (subst ht; exact hP) | (rw [ht]; exact hP) | (show va_P (dC, dI) vwCl (wR 157 ad (EX cs ad) mu) t.heap; rw [ht]; exact hP)⟩, hS.F ht⟩) hS.2.2 dX11_refusedRow_30
  · have hF := (if_neg (fun h => absurd (hfe1.trans h) (by decide))).symm.trans hF
    have f1 : vr.toInt < 0 ∨ 5 < vr.toInt := f1
    refine lv_if_ne (tgt := 9) hx hb dX11_refusedRow_4 (by decide) (fun c => absurd (by decide) c) (fun _ => ?_)
    refine lv_iconst (v := (-1)) hx hb dX11_refusedRow_7 (by decide) ?_
    exact W.iret (v := (-1)) hx hb hr (fun t ht hW => ⟨⟨(-1), mu, rfl, ⟨hF.trans hfz.symm, Or.inr ⟨by decide, ok, (fun _ _ _ => rfl)⟩⟩, by first | (subst ht; exact hP) | (rw [ht]; exact hP) | (show va_P (dC, dI) vwCl (wR 157 ad (EX cs ad) mu) t.heap; rw [ht]; exact hP)⟩, hS.F ht⟩) hS.2.2 dX11_refusedRow_8
set_option maxHeartbeats 4000000 in
set_option maxRecDepth 100000 in
/-- sx_refusedText -/
theorem sx_refusedText (l : Launch) (dC : Nat → ClassId) (dI : Nat → Nat → Nat) (cs : Nat → ClassId) (ad : Nat → Nat) (mu : Nat → Nat → Int32) (ok : okR loX hiX mu) (H : Heap) (hP : va_P (dC, dI) vwCl (wR 157 ad (EX cs ad) mu) H) (hD0 : va_D (fun _ => True) (wR 157 ad (EX cs ad) mu)) (vt : Int32) : Met l yX11_refusedText (wU yX11_refusedText cX11_refusedText 2 (some .int)) ({ frames := 1, cells := 0, slots := 0, locals := 21 }) (va_Pc [.ref (ad 0), .int vt] (sz_P (dC, dI) vwCl (tyW cs) H)) (va_Qi (fun (z : Int32) (xi : Nat → Nat → Int32) => (z, xi) = F_sx_refusedText mu vt ∧ ((z = 0 ∧ xi = mu ∧ (0 ≤ vt.toInt ∧ vt.toInt ≤ 3 ∧ 0 ≤ (mu (14 + vt.toNatClampNeg) 1).toInt)) ∨ (z.toInt < 0 ∧ okR loX hiX xi ∧ (∀ k f : Nat, Nat.testBit 510 (gpX k f) = true → xi k f = mu k f)))) (fun xi t => va_P (dC, dI) vwCl (wR 157 ad (EX cs ad) xi) t.heap) (va_A (wR 157 ad (EX cs ad) mu) H.size)) 0 0 (va_A (wR 157 ad (EX cs ad) mu) H.size) := by
  refine Met.ofW (cc := cX11_refusedText) (maxL := 2) (ret := (some .int)) (by decide) rfl ?_
  intro p e s m args below meth c s₁ B hml hv
  obtain ⟨rfl, hh, hK, hz⟩ := hv
  have hx := B.exec
  have hb := B.bytes
  have hr := B.returns
  have hts := atoms_spec (ws := (wU yX11_refusedText cX11_refusedText 2 (some .int))) B.pre
  have hown : s.vm.findClass RX11 = some m.cls := findClass_of_methodNamed B.named
  have hlocks := B.notSynchronized
  subst hh
  have hD := hD0.self (sz := s.heap.size)
  have hA : ∀ q : Nat, s.heap.size ≤ q → (va_A (wR 157 ad (EX cs ad) mu) s.heap.size) q := fun q h => Or.inr h
  have hS : va_S (va_A (wR 157 ad (EX cs ad) mu) s.heap.size) s.heap s.heap [] := va_S.rf
  have hl := lv_entry ([.ref (ad 0), .int vt]) (n := 2) (Nat.le_of_ble_eq_true rfl)
  rw [lg_entry_eq]
  generalize (lg_sl ([.ref (ad 0), .int vt]) ++ List.replicate (2 - (lg_sl ([.ref (ad 0), .int vt])).length) Slot.unset).toArray = ls at hl ⊢
  have hl : lv_has ls 2 [(0, .ref (ad 0)), (1, .int vt)] := hl
  obtain ⟨fz, hfz⟩ : ∃ z, F_sx_refusedText mu vt = z := ⟨_, rfl⟩
  have hF := hfz
  unfold F_sx_refusedText at hF
  refine lv_iload_n hx hb dX11_refusedText_0 rfl (lv_at hl 1 rfl) ?_
  refine cr_i (va_runS (As := [.int vt]) (rest := []) ⟨hx, hb, hml, hown, hts⟩ (sx_isText l dC dI (tyW cs) s.heap vt) (va_cwS 1 hts (wU_S mw_3_15 mw_3_13 mw_3_14 mw_1_1) rfl rfl rfl (by decide +kernel) ⟨Nat.le_of_ble_eq_true rfl, Nat.le_of_ble_eq_true rfl⟩) ⟨sz_c, sz_m hK hz⟩ rfl rfl hl.1 rfl (lv_room (Nat.le_of_ble_eq_true rfl)) dX11_refusedText_1 ⟨Nat.zero_le _, Nat.zero_le _⟩) hS (fun r1 hw1 locs hS => ?_)
  obtain ⟨hfe1, hw1⟩ := hw1
  rcases hw1 with ⟨rfl, f1⟩ | ⟨rfl, f1⟩
  · have hF := (if_pos hfe1.symm).symm.trans hF
    have f1 : 0 ≤ vt.toInt ∧ vt.toInt ≤ 3 := f1
    refine lv_if_ne (tgt := 9) hx hb dX11_refusedText_4 (by decide) (fun _ => ?_) (fun c => absurd c (by decide))
    refine lv_aload_n hx hb dX11_refusedText_9 rfl (lv_at hl 0 rfl) ?_
    refine va_get (D := (dC, dI)) (ci := 11) (v := .ref (ad 2)) (C := RX11) (T := TX11) (N := 11) hx hb hts inG11 hown hK hP 0 (gX_0 cs ad mu) rfl 1 (by decide) (hts _ (List.mem_cons_of_mem _ mw_2_159)) (fun _ h9 => h9) rfl dX11_refusedText_10 ?_
    refine lv_iload_n hx hb dX11_refusedText_13 rfl (lv_at hl 1 rfl) ?_
    have hx2 : 0 ≤ vt.toInt ∧ vt.toInt < ((4 : Nat) : Int) := ⟨by omega, by omega⟩
    refine va_aldq hx hb hK hP 2 3 (gX_2 cs ad mu) rfl (show vp_in vt 4 from vi_of hx2.1 hx2.2) dX11_refusedText_14 ?_
    have hk2 : 14 ≤ (14 + vt.toNatClampNeg) ∧ (14 + vt.toNatClampNeg) < 18 := ix_of hx2
    refine lq_v (.ref (ad (14 + vt.toNatClampNeg))) rfl ?_
    refine cr_i (va_runV (As := []) (rest := []) ⟨hx, hb, hml, hown, hts⟩ (sx_Text_isMissing l dC dI cs ad mu ok s.heap hP (14 + vt.toNatClampNeg) hk2.1 hk2.2) (cwV 0 hts (wU_V mw_3_34 mw_3_31 mw_3_32 mw_3_33 mw_1_12) rfl rfl rfl (by decide +kernel) ⟨Nat.le_of_ble_eq_true rfl, Nat.le_of_ble_eq_true rfl⟩) ⟨sz_c, va_recv hK hP (ci := 9) (q0 := (14 + vt.toNatClampNeg)) rfl (gX_text cs ad mu (14 + vt.toNatClampNeg) hk2.1 hk2.2), sz_m hK hz⟩ rfl rfl hl.1 rfl (lv_room (Nat.le_of_ble_eq_true rfl)) dX11_refusedText_15 ⟨Nat.zero_le _, Nat.zero_le _⟩) hS (fun r3 hw3 locs hS => ?_)
    obtain ⟨hfe3, hw3⟩ := hw3
    rcases hw3 with ⟨rfl, f3⟩ | ⟨rfl, f3⟩
    · have hF := (if_pos hfe3.symm).symm.trans hF
      have f3 : (mu (14 + vt.toNatClampNeg) 1).toInt < 0 := f3
      refine lv_if_eq (tgt := 29) hx hb dX11_refusedText_18 (by decide) (fun c => absurd c (by decide)) (fun _ => ?_)
      refine lv_aload_n hx hb dX11_refusedText_21 rfl (lv_at hl 0 rfl) ?_
      refine lv_iconst (v := 1) hx hb dX11_refusedText_22 (by decide) ?_
      have hFc := fr_all (wR_D mu hD) hS hA
      refine va_calli (va_runV (As := [.int 1]) (rest := []) ⟨hx, hb, hml, hown, hts⟩ (sx_found l dC dI cs ad mu ok s.heap hP ((wR_D mu hD).weaken (fun _ _ _ _ => trivial)) 1 (by have h50 : (1 : Int32).toInt = 1 := rfl; omega)) (cwV 1 hts (wU_V mw_2_202 mw_2_199 mw_2_201 mw_0_0 mw_1_1) rfl rfl rfl (by decide +kernel) ⟨Nat.le_of_ble_eq_true rfl, Nat.le_of_ble_eq_true rfl⟩) ⟨sz_c, va_recv hK hP (ci := 11) (q0 := 0) rfl (gX_0 cs ad mu), sz_m hK hz⟩ rfl rfl hl.1 rfl (lv_room (Nat.le_of_ble_eq_true rfl)) dX11_refusedText_23 ⟨Nat.zero_le _, Nat.zero_le _⟩) hS (fun q _ h => hFc q h) hFc (fun r4 xi4 t H4 locs ht hvm hw4 hB hz1 hk1 hS => ?_)
      have hP : va_P (dC, dI) vwCl (wR 157 ad (EX cs ad) xi4) H4 := by rw [← ht]; exact hB
      obtain ⟨hfe4, ok, hw4, hkp4_0⟩ := hw4
      have hF := mi_letp hF hfe4
      have kp5 : (∀ k f : Nat, Nat.testBit 510 (gpX k f) = true → xi4 k f = mu k f) := kp_t hkp4_0 (by decide) (fun _ _ _ => rfl)
      have gr4 : -3 ≤ r4.toInt ∧ r4.toInt ≤ -3 := hw4
      refine lv_goto (tgt := 30) hx hb dX11_refusedText_26 (by decide) ?_
      exact W.iret (v := r4) hx hb hr (fun t ht hW => ⟨⟨r4, xi4, rfl, ⟨hF.trans hfz.symm, Or.inr ⟨by omega, ok, kp5⟩⟩, by first | (subst ht; exact hP) | (rw [ht]; exact hP) | (show va_P (dC, dI) vwCl (wR 157 ad (EX cs ad) xi4) t.heap; rw [ht]; exact hP)⟩, hS.F ht⟩) hS.2.2 dX11_refusedText_30
    · have hF := (if_neg (fun h => absurd (hfe3.trans h) (by decide))).symm.trans hF
      have f3 : 0 ≤ (mu (14 + vt.toNatClampNeg) 1).toInt := f3
      refine lv_if_eq (tgt := 29) hx hb dX11_refusedText_18 (by decide) (fun _ => ?_) (fun c => absurd (by decide) c)
      refine lv_iconst (v := 0) hx hb dX11_refusedText_29 (by decide) ?_
      exact W.iret (v := 0) hx hb hr (fun t ht hW => ⟨⟨0, mu, rfl, ⟨hF.trans hfz.symm, Or.inl ⟨rfl, rfl, (by omega)⟩⟩, by first | (subst ht; exact hP) | (rw [ht]; exact hP) | (show va_P (dC, dI) vwCl (wR 157 ad (EX cs ad) mu) t.heap; rw [ht]; exact hP)⟩, hS.F ht⟩) hS.2.2 dX11_refusedText_30
  · have hF := (if_neg (fun h => absurd (hfe1.trans h) (by decide))).symm.trans hF
    have f1 : vt.toInt < 0 ∨ 3 < vt.toInt := f1
    refine lv_if_ne (tgt := 9) hx hb dX11_refusedText_4 (by decide) (fun c => absurd (by decide) c) (fun _ => ?_)
    refine lv_iconst (v := (-1)) hx hb dX11_refusedText_7 (by decide) ?_
    exact W.iret (v := (-1)) hx hb hr (fun t ht hW => ⟨⟨(-1), mu, rfl, ⟨hF.trans hfz.symm, Or.inr ⟨by decide, ok, (fun _ _ _ => rfl)⟩⟩, by first | (subst ht; exact hP) | (rw [ht]; exact hP) | (show va_P (dC, dI) vwCl (wR 157 ad (EX cs ad) mu) t.heap; rw [ht]; exact hP)⟩, hS.F ht⟩) hS.2.2 dX11_refusedText_8
theorem mw_2_221 : (Cond.code yX11_refusedRow cX11_refusedRow 2 (some .int) : Cond) ∈ lw_good := lg_at 2 221 rfl rfl
theorem mw_2_218 : (Cond.methodLink RX11 92 yX11_refusedRow : Cond) ∈ lw_good := lg_at 2 218 rfl rfl
theorem mw_2_220 : (Cond.instanceMethod yX11_refusedRow : Cond) ∈ lw_good := lg_at 2 220 rfl rfl
theorem mw_0_2 : (Cond.selects RX11 yX11_refusedRow yX11_refusedRow : Cond) ∈ lw_good := lg_at 0 2 rfl rfl
theorem mw_2_134 : (Cond.fieldLink RX11 95 "DearLetters$Row" "size" "I" : Cond) ∈ lw_good := lg_at 2 134 rfl rfl
theorem mw_2_161 : (Cond.fieldLink RX11 30 "DearLetters" "town" "LDearLetters$Town;" : Cond) ∈ lw_good := lg_at 2 161 rfl rfl
theorem mw_1_157 : (Cond.fieldLink RX11 166 "DearLetters$Town" "now" "LDearLetters$Standing;" : Cond) ∈ lw_good := lg_at 1 157 rfl rfl
theorem mw_1_128 : (Cond.fieldLink RX11 185 "DearLetters$Standing" "sent" "I" : Cond) ∈ lw_good := lg_at 1 128 rfl rfl
theorem mw_3_157 : (Cond.code yX11_refusedLetter cX11_refusedLetter 3 (some .int) : Cond) ∈ lw_good := lg_at 3 157 rfl rfl
theorem mw_3_154 : (Cond.methodLink RX11 201 yX11_refusedLetter : Cond) ∈ lw_good := lg_at 3 154 rfl rfl
theorem mw_3_156 : (Cond.instanceMethod yX11_refusedLetter : Cond) ∈ lw_good := lg_at 3 156 rfl rfl
theorem mw_0_8 : (Cond.selects RX11 yX11_refusedLetter yX11_refusedLetter : Cond) ∈ lw_good := lg_at 0 8 rfl rfl
theorem mw_1_112 : (Cond.fieldLink RX11 188 "DearLetters$Standing" "letters" "[LDearLetters$Letter;" : Cond) ∈ lw_good := lg_at 1 112 rfl rfl
theorem mw_1_80 : (Cond.fieldLink RX11 219 "DearLetters$Letter" "isRead" "Z" : Cond) ∈ lw_good := lg_at 1 80 rfl rfl
theorem mw_3_76 : (Cond.code yX10_has cX10_has 2 (some .boolean) : Cond) ∈ lw_good := lg_at 3 76 rfl rfl
theorem mw_3_73 : (Cond.methodLink RX11 142 yX10_has : Cond) ∈ lw_good := lg_at 3 73 rfl rfl
theorem mw_3_74 : (Cond.instanceMethod yX10_has : Cond) ∈ lw_good := lg_at 3 74 rfl rfl
theorem mw_3_75 : (Cond.selects RX10 yX10_has yX10_has : Cond) ∈ lw_good := lg_at 3 75 rfl rfl
theorem mw_1_2 : (Cond.initialized RX10 : Cond) ∈ lw_good := lg_at 1 2 rfl rfl
theorem rX_5_4 {mu : Nat → Nat → Int32} (ok : okR loX hiX mu) : 0 ≤ (mu 5 4).toInt ∧ (mu 5 4).toInt ≤ 4 := ok 5 4
theorem rX_letter_9 {mu : Nat → Nat → Int32} (ok : okR loX hiX mu) (k : Nat) (h1 : 61 ≤ k) (h2 : k < 77) : 0 ≤ (mu k 9).toInt ∧ (mu k 9).toInt ≤ 1 := by
  have h := ok k 9
  unfold loX hiX at h
  rw [clX_letter k h1 h2] at h
  exact h
theorem lb_X11_refusedPlace_0 : dl_ck (cX11_refusedPlace.data.toList.drop 0) [42, 27, 182, 0, 92, 62, 29, 153, 0, 5, 29, 172, 28, 155, 0, 16, 28, 42, 180, 0, 11, 27, 50, 180, 0, 95, 161, 0, 11, 42, 5, 182] = true := by decide +kernel
theorem lb_X11_refusedPlace_1 : dl_ck (cX11_refusedPlace.data.toList.drop 32) [0, 73, 167, 0, 4, 3, 172] = true := by decide +kernel
theorem dX11_refusedPlace_0 : decode cX11_refusedPlace 0 = .ok (.aload_n 0, 1) := dx_42 (dl_at 0 0 lb_X11_refusedPlace_0 rfl)
theorem dX11_refusedPlace_1 : decode cX11_refusedPlace 1 = .ok (.iload_n 1, 1) := dx_27 (dl_at 0 1 lb_X11_refusedPlace_0 rfl)
theorem dX11_refusedPlace_2 : decode cX11_refusedPlace 2 = .ok (.invokevirtual 92, 3) := dx_182 (a := 0) (b := 92) (dl_at 0 2 lb_X11_refusedPlace_0 rfl) (dl_at 0 3 lb_X11_refusedPlace_0 rfl) (dl_at 0 4 lb_X11_refusedPlace_0 rfl) rfl
theorem dX11_refusedPlace_5 : decode cX11_refusedPlace 5 = .ok (.istore_n 3, 1) := dx_62 (dl_at 0 5 lb_X11_refusedPlace_0 rfl)
theorem dX11_refusedPlace_6 : decode cX11_refusedPlace 6 = .ok (.iload_n 3, 1) := dx_29 (dl_at 0 6 lb_X11_refusedPlace_0 rfl)
theorem dX11_refusedPlace_7 : decode cX11_refusedPlace 7 = .ok (.ifCond .eq 5, 3) := dx_153 (a := 0) (b := 5) (dl_at 0 7 lb_X11_refusedPlace_0 rfl) (dl_at 0 8 lb_X11_refusedPlace_0 rfl) (dl_at 0 9 lb_X11_refusedPlace_0 rfl) sg16_5
theorem dX11_refusedPlace_12 : decode cX11_refusedPlace 12 = .ok (.iload_n 2, 1) := dx_28 (dl_at 0 12 lb_X11_refusedPlace_0 rfl)
theorem dX11_refusedPlace_13 : decode cX11_refusedPlace 13 = .ok (.ifCond .lt 16, 3) := dx_155 (a := 0) (b := 16) (dl_at 0 13 lb_X11_refusedPlace_0 rfl) (dl_at 0 14 lb_X11_refusedPlace_0 rfl) (dl_at 0 15 lb_X11_refusedPlace_0 rfl) sg16_16
theorem dX11_refusedPlace_29 : decode cX11_refusedPlace 29 = .ok (.aload_n 0, 1) := dx_42 (dl_at 0 29 lb_X11_refusedPlace_0 rfl)
theorem dX11_refusedPlace_30 : decode cX11_refusedPlace 30 = .ok (.iconst 2, 1) := dx_5 (dl_at 0 30 lb_X11_refusedPlace_0 rfl)
theorem dX11_refusedPlace_31 : decode cX11_refusedPlace 31 = .ok (.invokevirtual 73, 3) := dx_182 (a := 0) (b := 73) (dl_at 0 31 lb_X11_refusedPlace_0 rfl) (dl_at 32 0 lb_X11_refusedPlace_1 rfl) (dl_at 32 1 lb_X11_refusedPlace_1 rfl) rfl
theorem dX11_refusedPlace_34 : decode cX11_refusedPlace 34 = .ok (.goto 4, 3) := dx_167 (a := 0) (b := 4) (dl_at 32 2 lb_X11_refusedPlace_1 rfl) (dl_at 32 3 lb_X11_refusedPlace_1 rfl) (dl_at 32 4 lb_X11_refusedPlace_1 rfl) sg16_4
theorem dX11_refusedPlace_38 : decode cX11_refusedPlace 38 = .ok (.ireturn, 1) := dx_172 (dl_at 32 6 lb_X11_refusedPlace_1 rfl)
theorem dX11_refusedPlace_16 : decode cX11_refusedPlace 16 = .ok (.iload_n 2, 1) := dx_28 (dl_at 0 16 lb_X11_refusedPlace_0 rfl)
theorem dX11_refusedPlace_17 : decode cX11_refusedPlace 17 = .ok (.aload_n 0, 1) := dx_42 (dl_at 0 17 lb_X11_refusedPlace_0 rfl)
theorem dX11_refusedPlace_18 : decode cX11_refusedPlace 18 = .ok (.getfield 11, 3) := dx_180 (a := 0) (b := 11) (dl_at 0 18 lb_X11_refusedPlace_0 rfl) (dl_at 0 19 lb_X11_refusedPlace_0 rfl) (dl_at 0 20 lb_X11_refusedPlace_0 rfl) rfl
theorem dX11_refusedPlace_21 : decode cX11_refusedPlace 21 = .ok (.iload_n 1, 1) := dx_27 (dl_at 0 21 lb_X11_refusedPlace_0 rfl)
theorem dX11_refusedPlace_22 : decode cX11_refusedPlace 22 = .ok (.aaload, 1) := dx_50 (dl_at 0 22 lb_X11_refusedPlace_0 rfl)
theorem dX11_refusedPlace_23 : decode cX11_refusedPlace 23 = .ok (.getfield 95, 3) := dx_180 (a := 0) (b := 95) (dl_at 0 23 lb_X11_refusedPlace_0 rfl) (dl_at 0 24 lb_X11_refusedPlace_0 rfl) (dl_at 0 25 lb_X11_refusedPlace_0 rfl) rfl
theorem dX11_refusedPlace_26 : decode cX11_refusedPlace 26 = .ok (.if_icmp .lt 11, 3) := dx_161 (a := 0) (b := 11) (dl_at 0 26 lb_X11_refusedPlace_0 rfl) (dl_at 0 27 lb_X11_refusedPlace_0 rfl) (dl_at 0 28 lb_X11_refusedPlace_0 rfl) sg16_11
theorem dX11_refusedPlace_37 : decode cX11_refusedPlace 37 = .ok (.iconst 0, 1) := dx_3 (dl_at 32 5 lb_X11_refusedPlace_1 rfl)
theorem dX11_refusedPlace_10 : decode cX11_refusedPlace 10 = .ok (.iload_n 3, 1) := dx_29 (dl_at 0 10 lb_X11_refusedPlace_0 rfl)
theorem dX11_refusedPlace_11 : decode cX11_refusedPlace 11 = .ok (.ireturn, 1) := dx_172 (dl_at 0 11 lb_X11_refusedPlace_0 rfl)
theorem lb_X11_refusedLetter_0 : dl_ck (cX11_refusedLetter.data.toList.drop 0) [27, 155, 0, 7, 28, 153, 0, 5, 2, 172, 27, 42, 180, 0, 30, 180, 0, 166, 180, 0, 185, 161, 0, 11, 42, 5, 182, 0, 73, 167, 0, 4] = true := by decide +kernel
theorem lb_X11_refusedLetter_1 : dl_ck (cX11_refusedLetter.data.toList.drop 32) [3, 172] = true := by decide +kernel
theorem dX11_refusedLetter_0 : decode cX11_refusedLetter 0 = .ok (.iload_n 1, 1) := dx_27 (dl_at 0 0 lb_X11_refusedLetter_0 rfl)
theorem dX11_refusedLetter_1 : decode cX11_refusedLetter 1 = .ok (.ifCond .lt 7, 3) := dx_155 (a := 0) (b := 7) (dl_at 0 1 lb_X11_refusedLetter_0 rfl) (dl_at 0 2 lb_X11_refusedLetter_0 rfl) (dl_at 0 3 lb_X11_refusedLetter_0 rfl) sg16_7
theorem dX11_refusedLetter_8 : decode cX11_refusedLetter 8 = .ok (.iconst (-1), 1) := dx_2 (dl_at 0 8 lb_X11_refusedLetter_0 rfl)
theorem dX11_refusedLetter_9 : decode cX11_refusedLetter 9 = .ok (.ireturn, 1) := dx_172 (dl_at 0 9 lb_X11_refusedLetter_0 rfl)
theorem dX11_refusedLetter_4 : decode cX11_refusedLetter 4 = .ok (.iload_n 2, 1) := dx_28 (dl_at 0 4 lb_X11_refusedLetter_0 rfl)
theorem dX11_refusedLetter_5 : decode cX11_refusedLetter 5 = .ok (.ifCond .eq 5, 3) := dx_153 (a := 0) (b := 5) (dl_at 0 5 lb_X11_refusedLetter_0 rfl) (dl_at 0 6 lb_X11_refusedLetter_0 rfl) (dl_at 0 7 lb_X11_refusedLetter_0 rfl) sg16_5
theorem dX11_refusedLetter_10 : decode cX11_refusedLetter 10 = .ok (.iload_n 1, 1) := dx_27 (dl_at 0 10 lb_X11_refusedLetter_0 rfl)
theorem dX11_refusedLetter_11 : decode cX11_refusedLetter 11 = .ok (.aload_n 0, 1) := dx_42 (dl_at 0 11 lb_X11_refusedLetter_0 rfl)
theorem dX11_refusedLetter_12 : decode cX11_refusedLetter 12 = .ok (.getfield 30, 3) := dx_180 (a := 0) (b := 30) (dl_at 0 12 lb_X11_refusedLetter_0 rfl) (dl_at 0 13 lb_X11_refusedLetter_0 rfl) (dl_at 0 14 lb_X11_refusedLetter_0 rfl) rfl
theorem dX11_refusedLetter_15 : decode cX11_refusedLetter 15 = .ok (.getfield 166, 3) := dx_180 (a := 0) (b := 166) (dl_at 0 15 lb_X11_refusedLetter_0 rfl) (dl_at 0 16 lb_X11_refusedLetter_0 rfl) (dl_at 0 17 lb_X11_refusedLetter_0 rfl) rfl
theorem dX11_refusedLetter_18 : decode cX11_refusedLetter 18 = .ok (.getfield 185, 3) := dx_180 (a := 0) (b := 185) (dl_at 0 18 lb_X11_refusedLetter_0 rfl) (dl_at 0 19 lb_X11_refusedLetter_0 rfl) (dl_at 0 20 lb_X11_refusedLetter_0 rfl) rfl
theorem dX11_refusedLetter_21 : decode cX11_refusedLetter 21 = .ok (.if_icmp .lt 11, 3) := dx_161 (a := 0) (b := 11) (dl_at 0 21 lb_X11_refusedLetter_0 rfl) (dl_at 0 22 lb_X11_refusedLetter_0 rfl) (dl_at 0 23 lb_X11_refusedLetter_0 rfl) sg16_11
theorem dX11_refusedLetter_32 : decode cX11_refusedLetter 32 = .ok (.iconst 0, 1) := dx_3 (dl_at 32 0 lb_X11_refusedLetter_1 rfl)
theorem dX11_refusedLetter_33 : decode cX11_refusedLetter 33 = .ok (.ireturn, 1) := dx_172 (dl_at 32 1 lb_X11_refusedLetter_1 rfl)
theorem dX11_refusedLetter_24 : decode cX11_refusedLetter 24 = .ok (.aload_n 0, 1) := dx_42 (dl_at 0 24 lb_X11_refusedLetter_0 rfl)
theorem dX11_refusedLetter_25 : decode cX11_refusedLetter 25 = .ok (.iconst 2, 1) := dx_5 (dl_at 0 25 lb_X11_refusedLetter_0 rfl)
theorem dX11_refusedLetter_26 : decode cX11_refusedLetter 26 = .ok (.invokevirtual 73, 3) := dx_182 (a := 0) (b := 73) (dl_at 0 26 lb_X11_refusedLetter_0 rfl) (dl_at 0 27 lb_X11_refusedLetter_0 rfl) (dl_at 0 28 lb_X11_refusedLetter_0 rfl) rfl
theorem dX11_refusedLetter_29 : decode cX11_refusedLetter 29 = .ok (.goto 4, 3) := dx_167 (a := 0) (b := 4) (dl_at 0 29 lb_X11_refusedLetter_0 rfl) (dl_at 0 30 lb_X11_refusedLetter_0 rfl) (dl_at 0 31 lb_X11_refusedLetter_0 rfl) sg16_4
theorem lb_X11_refusedRoute_0 : dl_ck (cX11_refusedRoute.data.toList.drop 0) [42, 27, 28, 182, 0, 201, 62, 29, 153, 0, 5, 29, 172, 42, 180, 0, 30, 180, 0, 166, 180, 0, 188, 27, 50, 180, 0, 219, 153, 0, 8, 16] = true := by decide +kernel
theorem lb_X11_refusedRoute_1 : dl_ck (cX11_refusedRoute.data.toList.drop 32) [252, 167, 0, 4, 3, 172] = true := by decide +kernel
theorem dX11_refusedRoute_0 : decode cX11_refusedRoute 0 = .ok (.aload_n 0, 1) := dx_42 (dl_at 0 0 lb_X11_refusedRoute_0 rfl)
theorem dX11_refusedRoute_1 : decode cX11_refusedRoute 1 = .ok (.iload_n 1, 1) := dx_27 (dl_at 0 1 lb_X11_refusedRoute_0 rfl)
theorem dX11_refusedRoute_2 : decode cX11_refusedRoute 2 = .ok (.iload_n 2, 1) := dx_28 (dl_at 0 2 lb_X11_refusedRoute_0 rfl)
theorem dX11_refusedRoute_3 : decode cX11_refusedRoute 3 = .ok (.invokevirtual 201, 3) := dx_182 (a := 0) (b := 201) (dl_at 0 3 lb_X11_refusedRoute_0 rfl) (dl_at 0 4 lb_X11_refusedRoute_0 rfl) (dl_at 0 5 lb_X11_refusedRoute_0 rfl) rfl
theorem dX11_refusedRoute_6 : decode cX11_refusedRoute 6 = .ok (.istore_n 3, 1) := dx_62 (dl_at 0 6 lb_X11_refusedRoute_0 rfl)
theorem dX11_refusedRoute_7 : decode cX11_refusedRoute 7 = .ok (.iload_n 3, 1) := dx_29 (dl_at 0 7 lb_X11_refusedRoute_0 rfl)
theorem dX11_refusedRoute_8 : decode cX11_refusedRoute 8 = .ok (.ifCond .eq 5, 3) := dx_153 (a := 0) (b := 5) (dl_at 0 8 lb_X11_refusedRoute_0 rfl) (dl_at 0 9 lb_X11_refusedRoute_0 rfl) (dl_at 0 10 lb_X11_refusedRoute_0 rfl) sg16_5
theorem dX11_refusedRoute_13 : decode cX11_refusedRoute 13 = .ok (.aload_n 0, 1) := dx_42 (dl_at 0 13 lb_X11_refusedRoute_0 rfl)
theorem dX11_refusedRoute_14 : decode cX11_refusedRoute 14 = .ok (.getfield 30, 3) := dx_180 (a := 0) (b := 30) (dl_at 0 14 lb_X11_refusedRoute_0 rfl) (dl_at 0 15 lb_X11_refusedRoute_0 rfl) (dl_at 0 16 lb_X11_refusedRoute_0 rfl) rfl
theorem dX11_refusedRoute_17 : decode cX11_refusedRoute 17 = .ok (.getfield 166, 3) := dx_180 (a := 0) (b := 166) (dl_at 0 17 lb_X11_refusedRoute_0 rfl) (dl_at 0 18 lb_X11_refusedRoute_0 rfl) (dl_at 0 19 lb_X11_refusedRoute_0 rfl) rfl
theorem dX11_refusedRoute_20 : decode cX11_refusedRoute 20 = .ok (.getfield 188, 3) := dx_180 (a := 0) (b := 188) (dl_at 0 20 lb_X11_refusedRoute_0 rfl) (dl_at 0 21 lb_X11_refusedRoute_0 rfl) (dl_at 0 22 lb_X11_refusedRoute_0 rfl) rfl
theorem dX11_refusedRoute_23 : decode cX11_refusedRoute 23 = .ok (.iload_n 1, 1) := dx_27 (dl_at 0 23 lb_X11_refusedRoute_0 rfl)
theorem dX11_refusedRoute_24 : decode cX11_refusedRoute 24 = .ok (.aaload, 1) := dx_50 (dl_at 0 24 lb_X11_refusedRoute_0 rfl)
theorem dX11_refusedRoute_25 : decode cX11_refusedRoute 25 = .ok (.getfield 219, 3) := dx_180 (a := 0) (b := 219) (dl_at 0 25 lb_X11_refusedRoute_0 rfl) (dl_at 0 26 lb_X11_refusedRoute_0 rfl) (dl_at 0 27 lb_X11_refusedRoute_0 rfl) rfl
theorem dX11_refusedRoute_28 : decode cX11_refusedRoute 28 = .ok (.ifCond .eq 8, 3) := dx_153 (a := 0) (b := 8) (dl_at 0 28 lb_X11_refusedRoute_0 rfl) (dl_at 0 29 lb_X11_refusedRoute_0 rfl) (dl_at 0 30 lb_X11_refusedRoute_0 rfl) sg16_8
theorem dX11_refusedRoute_36 : decode cX11_refusedRoute 36 = .ok (.iconst 0, 1) := dx_3 (dl_at 32 4 lb_X11_refusedRoute_1 rfl)
theorem dX11_refusedRoute_37 : decode cX11_refusedRoute 37 = .ok (.ireturn, 1) := dx_172 (dl_at 32 5 lb_X11_refusedRoute_1 rfl)
theorem dX11_refusedRoute_31 : decode cX11_refusedRoute 31 = .ok (.bipush (-4), 2) := dx_16 (dl_at 0 31 lb_X11_refusedRoute_0 rfl) (dl_at 32 0 lb_X11_refusedRoute_1 rfl) sg8_252
theorem dX11_refusedRoute_33 : decode cX11_refusedRoute 33 = .ok (.goto 4, 3) := dx_167 (a := 0) (b := 4) (dl_at 32 1 lb_X11_refusedRoute_1 rfl) (dl_at 32 2 lb_X11_refusedRoute_1 rfl) (dl_at 32 3 lb_X11_refusedRoute_1 rfl) sg16_4
theorem dX11_refusedRoute_11 : decode cX11_refusedRoute 11 = .ok (.iload_n 3, 1) := dx_29 (dl_at 0 11 lb_X11_refusedRoute_0 rfl)
theorem dX11_refusedRoute_12 : decode cX11_refusedRoute 12 = .ok (.ireturn, 1) := dx_172 (dl_at 0 12 lb_X11_refusedRoute_0 rfl)
theorem lb_X11_refusedPrices_0 : dl_ck (cX11_refusedPrices.data.toList.drop 0) [42, 180, 0, 30, 27, 182, 0, 142, 153, 0, 7, 29, 153, 0, 5, 2, 172, 42, 28, 182, 0, 92, 54, 4, 21, 4, 153, 0, 6, 21, 4, 172] = true := by decide +kernel
theorem lb_X11_refusedPrices_1 : dl_ck (cX11_refusedPrices.data.toList.drop 32) [42, 180, 0, 11, 28, 50, 180, 0, 95, 16, 6, 164, 0, 11, 42, 8, 182, 0, 73, 167, 0, 4, 3, 172] = true := by decide +kernel
theorem dX11_refusedPrices_0 : decode cX11_refusedPrices 0 = .ok (.aload_n 0, 1) := dx_42 (dl_at 0 0 lb_X11_refusedPrices_0 rfl)
theorem dX11_refusedPrices_1 : decode cX11_refusedPrices 1 = .ok (.getfield 30, 3) := dx_180 (a := 0) (b := 30) (dl_at 0 1 lb_X11_refusedPrices_0 rfl) (dl_at 0 2 lb_X11_refusedPrices_0 rfl) (dl_at 0 3 lb_X11_refusedPrices_0 rfl) rfl
theorem dX11_refusedPrices_4 : decode cX11_refusedPrices 4 = .ok (.iload_n 1, 1) := dx_27 (dl_at 0 4 lb_X11_refusedPrices_0 rfl)
theorem dX11_refusedPrices_5 : decode cX11_refusedPrices 5 = .ok (.invokevirtual 142, 3) := dx_182 (a := 0) (b := 142) (dl_at 0 5 lb_X11_refusedPrices_0 rfl) (dl_at 0 6 lb_X11_refusedPrices_0 rfl) (dl_at 0 7 lb_X11_refusedPrices_0 rfl) rfl
theorem dX11_refusedPrices_8 : decode cX11_refusedPrices 8 = .ok (.ifCond .eq 7, 3) := dx_153 (a := 0) (b := 7) (dl_at 0 8 lb_X11_refusedPrices_0 rfl) (dl_at 0 9 lb_X11_refusedPrices_0 rfl) (dl_at 0 10 lb_X11_refusedPrices_0 rfl) sg16_7
theorem dX11_refusedPrices_11 : decode cX11_refusedPrices 11 = .ok (.iload_n 3, 1) := dx_29 (dl_at 0 11 lb_X11_refusedPrices_0 rfl)
theorem dX11_refusedPrices_12 : decode cX11_refusedPrices 12 = .ok (.ifCond .eq 5, 3) := dx_153 (a := 0) (b := 5) (dl_at 0 12 lb_X11_refusedPrices_0 rfl) (dl_at 0 13 lb_X11_refusedPrices_0 rfl) (dl_at 0 14 lb_X11_refusedPrices_0 rfl) sg16_5
theorem dX11_refusedPrices_17 : decode cX11_refusedPrices 17 = .ok (.aload_n 0, 1) := dx_42 (dl_at 0 17 lb_X11_refusedPrices_0 rfl)
theorem dX11_refusedPrices_18 : decode cX11_refusedPrices 18 = .ok (.iload_n 2, 1) := dx_28 (dl_at 0 18 lb_X11_refusedPrices_0 rfl)
theorem dX11_refusedPrices_19 : decode cX11_refusedPrices 19 = .ok (.invokevirtual 92, 3) := dx_182 (a := 0) (b := 92) (dl_at 0 19 lb_X11_refusedPrices_0 rfl) (dl_at 0 20 lb_X11_refusedPrices_0 rfl) (dl_at 0 21 lb_X11_refusedPrices_0 rfl) rfl
theorem dX11_refusedPrices_22 : decode cX11_refusedPrices 22 = .ok (.istore 4, 2) := dx_54 (dl_at 0 22 lb_X11_refusedPrices_0 rfl) (dl_at 0 23 lb_X11_refusedPrices_0 rfl)
theorem dX11_refusedPrices_24 : decode cX11_refusedPrices 24 = .ok (.iload 4, 2) := dx_21 (dl_at 0 24 lb_X11_refusedPrices_0 rfl) (dl_at 0 25 lb_X11_refusedPrices_0 rfl)
theorem dX11_refusedPrices_26 : decode cX11_refusedPrices 26 = .ok (.ifCond .eq 6, 3) := dx_153 (a := 0) (b := 6) (dl_at 0 26 lb_X11_refusedPrices_0 rfl) (dl_at 0 27 lb_X11_refusedPrices_0 rfl) (dl_at 0 28 lb_X11_refusedPrices_0 rfl) sg16_6
theorem dX11_refusedPrices_32 : decode cX11_refusedPrices 32 = .ok (.aload_n 0, 1) := dx_42 (dl_at 32 0 lb_X11_refusedPrices_1 rfl)
theorem dX11_refusedPrices_33 : decode cX11_refusedPrices 33 = .ok (.getfield 11, 3) := dx_180 (a := 0) (b := 11) (dl_at 32 1 lb_X11_refusedPrices_1 rfl) (dl_at 32 2 lb_X11_refusedPrices_1 rfl) (dl_at 32 3 lb_X11_refusedPrices_1 rfl) rfl
theorem dX11_refusedPrices_36 : decode cX11_refusedPrices 36 = .ok (.iload_n 2, 1) := dx_28 (dl_at 32 4 lb_X11_refusedPrices_1 rfl)
theorem dX11_refusedPrices_37 : decode cX11_refusedPrices 37 = .ok (.aaload, 1) := dx_50 (dl_at 32 5 lb_X11_refusedPrices_1 rfl)
theorem dX11_refusedPrices_38 : decode cX11_refusedPrices 38 = .ok (.getfield 95, 3) := dx_180 (a := 0) (b := 95) (dl_at 32 6 lb_X11_refusedPrices_1 rfl) (dl_at 32 7 lb_X11_refusedPrices_1 rfl) (dl_at 32 8 lb_X11_refusedPrices_1 rfl) rfl
theorem dX11_refusedPrices_41 : decode cX11_refusedPrices 41 = .ok (.bipush 6, 2) := dx_16 (dl_at 32 9 lb_X11_refusedPrices_1 rfl) (dl_at 32 10 lb_X11_refusedPrices_1 rfl) sg8_6
theorem dX11_refusedPrices_43 : decode cX11_refusedPrices 43 = .ok (.if_icmp .le 11, 3) := dx_164 (a := 0) (b := 11) (dl_at 32 11 lb_X11_refusedPrices_1 rfl) (dl_at 32 12 lb_X11_refusedPrices_1 rfl) (dl_at 32 13 lb_X11_refusedPrices_1 rfl) sg16_11
theorem dX11_refusedPrices_54 : decode cX11_refusedPrices 54 = .ok (.iconst 0, 1) := dx_3 (dl_at 32 22 lb_X11_refusedPrices_1 rfl)
theorem dX11_refusedPrices_55 : decode cX11_refusedPrices 55 = .ok (.ireturn, 1) := dx_172 (dl_at 32 23 lb_X11_refusedPrices_1 rfl)
theorem dX11_refusedPrices_46 : decode cX11_refusedPrices 46 = .ok (.aload_n 0, 1) := dx_42 (dl_at 32 14 lb_X11_refusedPrices_1 rfl)
theorem dX11_refusedPrices_47 : decode cX11_refusedPrices 47 = .ok (.iconst 5, 1) := dx_8 (dl_at 32 15 lb_X11_refusedPrices_1 rfl)
theorem dX11_refusedPrices_48 : decode cX11_refusedPrices 48 = .ok (.invokevirtual 73, 3) := dx_182 (a := 0) (b := 73) (dl_at 32 16 lb_X11_refusedPrices_1 rfl) (dl_at 32 17 lb_X11_refusedPrices_1 rfl) (dl_at 32 18 lb_X11_refusedPrices_1 rfl) rfl
theorem dX11_refusedPrices_51 : decode cX11_refusedPrices 51 = .ok (.goto 4, 3) := dx_167 (a := 0) (b := 4) (dl_at 32 19 lb_X11_refusedPrices_1 rfl) (dl_at 32 20 lb_X11_refusedPrices_1 rfl) (dl_at 32 21 lb_X11_refusedPrices_1 rfl) sg16_4
theorem dX11_refusedPrices_29 : decode cX11_refusedPrices 29 = .ok (.iload 4, 2) := dx_21 (dl_at 0 29 lb_X11_refusedPrices_0 rfl) (dl_at 0 30 lb_X11_refusedPrices_0 rfl)
theorem dX11_refusedPrices_31 : decode cX11_refusedPrices 31 = .ok (.ireturn, 1) := dx_172 (dl_at 0 31 lb_X11_refusedPrices_0 rfl)
theorem dX11_refusedPrices_15 : decode cX11_refusedPrices 15 = .ok (.iconst (-1), 1) := dx_2 (dl_at 0 15 lb_X11_refusedPrices_0 rfl)
theorem dX11_refusedPrices_16 : decode cX11_refusedPrices 16 = .ok (.ireturn, 1) := dx_172 (dl_at 0 16 lb_X11_refusedPrices_0 rfl)
theorem lb_X11_isPair_0 : dl_ck (cX11_isPair.data.toList.drop 0) [42, 180, 0, 30, 27, 182, 0, 142, 153, 0, 23, 42, 180, 0, 30, 28, 182, 0, 142, 153, 0, 12, 27, 28, 159, 0, 7, 4, 167, 0, 4, 3] = true := by decide +kernel
theorem lb_X11_isPair_1 : dl_ck (cX11_isPair.data.toList.drop 32) [172] = true := by decide +kernel
theorem dX11_isPair_0 : decode cX11_isPair 0 = .ok (.aload_n 0, 1) := dx_42 (dl_at 0 0 lb_X11_isPair_0 rfl)
theorem dX11_isPair_1 : decode cX11_isPair 1 = .ok (.getfield 30, 3) := dx_180 (a := 0) (b := 30) (dl_at 0 1 lb_X11_isPair_0 rfl) (dl_at 0 2 lb_X11_isPair_0 rfl) (dl_at 0 3 lb_X11_isPair_0 rfl) rfl
theorem dX11_isPair_4 : decode cX11_isPair 4 = .ok (.iload_n 1, 1) := dx_27 (dl_at 0 4 lb_X11_isPair_0 rfl)
theorem dX11_isPair_5 : decode cX11_isPair 5 = .ok (.invokevirtual 142, 3) := dx_182 (a := 0) (b := 142) (dl_at 0 5 lb_X11_isPair_0 rfl) (dl_at 0 6 lb_X11_isPair_0 rfl) (dl_at 0 7 lb_X11_isPair_0 rfl) rfl
theorem dX11_isPair_8 : decode cX11_isPair 8 = .ok (.ifCond .eq 23, 3) := dx_153 (a := 0) (b := 23) (dl_at 0 8 lb_X11_isPair_0 rfl) (dl_at 0 9 lb_X11_isPair_0 rfl) (dl_at 0 10 lb_X11_isPair_0 rfl) sg16_23
theorem dX11_isPair_11 : decode cX11_isPair 11 = .ok (.aload_n 0, 1) := dx_42 (dl_at 0 11 lb_X11_isPair_0 rfl)
theorem dX11_isPair_12 : decode cX11_isPair 12 = .ok (.getfield 30, 3) := dx_180 (a := 0) (b := 30) (dl_at 0 12 lb_X11_isPair_0 rfl) (dl_at 0 13 lb_X11_isPair_0 rfl) (dl_at 0 14 lb_X11_isPair_0 rfl) rfl
theorem dX11_isPair_15 : decode cX11_isPair 15 = .ok (.iload_n 2, 1) := dx_28 (dl_at 0 15 lb_X11_isPair_0 rfl)
theorem dX11_isPair_16 : decode cX11_isPair 16 = .ok (.invokevirtual 142, 3) := dx_182 (a := 0) (b := 142) (dl_at 0 16 lb_X11_isPair_0 rfl) (dl_at 0 17 lb_X11_isPair_0 rfl) (dl_at 0 18 lb_X11_isPair_0 rfl) rfl
theorem dX11_isPair_19 : decode cX11_isPair 19 = .ok (.ifCond .eq 12, 3) := dx_153 (a := 0) (b := 12) (dl_at 0 19 lb_X11_isPair_0 rfl) (dl_at 0 20 lb_X11_isPair_0 rfl) (dl_at 0 21 lb_X11_isPair_0 rfl) sg16_12
theorem dX11_isPair_22 : decode cX11_isPair 22 = .ok (.iload_n 1, 1) := dx_27 (dl_at 0 22 lb_X11_isPair_0 rfl)
theorem dX11_isPair_23 : decode cX11_isPair 23 = .ok (.iload_n 2, 1) := dx_28 (dl_at 0 23 lb_X11_isPair_0 rfl)
theorem dX11_isPair_24 : decode cX11_isPair 24 = .ok (.if_icmp .eq 7, 3) := dx_159 (a := 0) (b := 7) (dl_at 0 24 lb_X11_isPair_0 rfl) (dl_at 0 25 lb_X11_isPair_0 rfl) (dl_at 0 26 lb_X11_isPair_0 rfl) sg16_7
theorem dX11_isPair_31 : decode cX11_isPair 31 = .ok (.iconst 0, 1) := dx_3 (dl_at 0 31 lb_X11_isPair_0 rfl)
theorem dX11_isPair_32 : decode cX11_isPair 32 = .ok (.ireturn, 1) := dx_172 (dl_at 32 0 lb_X11_isPair_1 rfl)
theorem dX11_isPair_27 : decode cX11_isPair 27 = .ok (.iconst 1, 1) := dx_4 (dl_at 0 27 lb_X11_isPair_0 rfl)
theorem dX11_isPair_28 : decode cX11_isPair 28 = .ok (.goto 4, 3) := dx_167 (a := 0) (b := 4) (dl_at 0 28 lb_X11_isPair_0 rfl) (dl_at 0 29 lb_X11_isPair_0 rfl) (dl_at 0 30 lb_X11_isPair_0 rfl) sg16_4
def F_sx_refusedLetter (mu : Nat → Nat → Int32) (vk : Int32) (vb : Int32) : Int32 × (Nat → Nat → Int32) :=
  if vk < (0 : Int32) then (
    (((-1) : Int32), mu)
  ) else (
    if vb = (0 : Int32) then (
      LETV (mu 5 4 : Int32) fun y3 =>
      if vk < y3 then (
        ((0 : Int32), mu)
      ) else (
        LETP (F_sx_found mu (2 : Int32)) fun r6 xi6 =>
        ((r6 : Int32), xi6)
      )
    ) else (
      (((-1) : Int32), mu)
    )
  )
def F_sx_refusedRoute (mu : Nat → Nat → Int32) (vk : Int32) (vb : Int32) : Int32 × (Nat → Nat → Int32) :=
  LETP (F_sx_refusedLetter mu (vk : Int32) (vb : Int32)) fun r1 xi1 =>
  if r1 = 0 then (
    LETV (mu (61 + vk.toNatClampNeg) 9 : Int32) fun y4 =>
    if y4 = (0 : Int32) then (
      ((0 : Int32), mu)
    ) else (
      (((-4) : Int32), mu)
    )
  ) else (
    ((r1 : Int32), xi1)
  )
def F_sx_isPair (mu : Nat → Nat → Int32) (vx : Int32) (vy : Int32) : Int32 :=
  if F_sx_has mu (vx : Int32) = 1 then (
    if F_sx_has mu (vy : Int32) = 1 then (
      if vx = vy then (
        (0 : Int32)
      ) else (
        (1 : Int32)
      )
    ) else (
      (0 : Int32)
    )
  ) else (
    (0 : Int32)
  )
