set_option maxHeartbeats 4000000 in
set_option maxRecDepth 100000 in
/-- sm_in -/
theorem sm_in (l : Launch) (dC : Nat → ClassId) (dI : Nat → Nat → Nat) (tys : List (ClassId × FieldType)) (H : Heap) (va : Int32) (vb : Int32) (vc : Int32) : Met l yX12_in (wU yX12_in cX12_in 3 (some .boolean)) ({ frames := 0, cells := 0, slots := 0, locals := 0 }) (va_Pc [.int va, .int vb, .int vc] (sz_P (dC, dI) vwCl tys H)) (va_Qi (fun (z : Int32) (_ : Unit) => z = F_sm_in va vb vc ∧ ((z = 1 ∧ (vb.toInt ≤ va.toInt ∧ va.toInt ≤ vc.toInt)) ∨ (z = 0 ∧ (va.toInt < vb.toInt ∨ vc.toInt < va.toInt)))) (fun _ t => t.heap = H) (fun _ => False)) 0 0 (fun _ => False) := by
  refine Met.ofW (cc := cX12_in) (maxL := 3) (ret := (some .boolean)) (by decide) rfl ?_
  intro p e s m args below meth c s₁ B hml hv
  obtain ⟨rfl, hh, hK, hz⟩ := hv
  have hx := B.exec
  have hb := B.bytes
  have hr := B.returns
  have hts := atoms_spec (ws := (wU yX12_in cX12_in 3 (some .boolean))) B.pre
  have hown : s.vm.findClass RX12 = some m.cls := findClass_of_methodNamed B.named
  have hlocks := B.notSynchronized
  subst hh
  have hS : va_S (fun _ => False) s.heap s.heap [] := va_S.rf
  have hl := lv_entry ([.int va, .int vb, .int vc]) (n := 3) (Nat.le_of_ble_eq_true rfl)
  rw [lg_entry_eq]
  generalize (lg_sl ([.int va, .int vb, .int vc]) ++ List.replicate (3 - (lg_sl ([.int va, .int vb, .int vc])).length) Slot.unset).toArray = ls at hl ⊢
  have hl : lv_has ls 3 [(0, .int va), (1, .int vb), (2, .int vc)] := hl
  obtain ⟨fz, hfz⟩ : ∃ z, F_sm_in va vb vc = z := ⟨_, rfl⟩
  have hF := hfz
  unfold F_sm_in at hF
  refine lv_iload_n hx hb dX12_in_0 rfl (lv_at hl 0 rfl) ?_
  refine lv_iload_n hx hb dX12_in_1 rfl (lv_at hl 1 rfl) ?_
  refine lv_icmp_lt (tgt := 14) hx hb dX12_in_2 (by decide) (fun c_1 => ?_) (fun c_1 => ?_)
  · have hF := (if_pos c_1).symm.trans hF
    have c_1 : va.toInt < vb.toInt := il_lt c_1
    refine lv_iconst (v := 0) hx hb dX12_in_14 (by decide) ?_
    exact W.zret (v := 0) (ty := .boolean) hx hb hr (by first | rfl | decide) (fun t ht hW => ⟨⟨0, (), rfl, ⟨hF.trans hfz.symm, (Or.inr ⟨rfl, by omega⟩)⟩, ht⟩, hS.F ht⟩) hS.2.2 dX12_in_15
  · have hF := (if_neg c_1).symm.trans hF
    have c_1 : vb.toInt ≤ va.toInt := il_nlt c_1
    refine lv_iload_n hx hb dX12_in_5 rfl (lv_at hl 0 rfl) ?_
    refine lv_iload_n hx hb dX12_in_6 rfl (lv_at hl 2 rfl) ?_
    refine lv_icmp_gt (tgt := 14) hx hb dX12_in_7 (by decide) (fun c_2 => ?_) (fun c_2 => ?_)
    · have hF := (if_pos c_2).symm.trans hF
      have c_2 : vc.toInt < va.toInt := il_lt c_2
      refine lv_iconst (v := 0) hx hb dX12_in_14 (by decide) ?_
      exact W.zret (v := 0) (ty := .boolean) hx hb hr (by first | rfl | decide) (fun t ht hW => ⟨⟨0, (), rfl, ⟨hF.trans hfz.symm, (Or.inr ⟨rfl, by omega⟩)⟩, ht⟩, hS.F ht⟩) hS.2.2 dX12_in_15
    · have hF := (if_neg c_2).symm.trans hF
      have c_2 : va.toInt ≤ vc.toInt := il_nlt c_2
      refine lv_iconst (v := 1) hx hb dX12_in_10 (by decide) ?_
      refine lv_goto (tgt := 15) hx hb dX12_in_11 (by decide) ?_
      exact W.zret (v := 1) (ty := .boolean) hx hb hr (by first | rfl | decide) (fun t ht hW => ⟨⟨1, (), rfl, ⟨hF.trans hfz.symm, (Or.inl ⟨rfl, by omega⟩)⟩, ht⟩, hS.F ht⟩) hS.2.2 dX12_in_15
set_option maxHeartbeats 4000000 in
set_option maxRecDepth 100000 in
/-- sm_has -/
theorem sm_has (l : Launch) (dC : Nat → ClassId) (dI : Nat → Nat → Nat) (tys : List (ClassId × FieldType)) (H : Heap) (va : Int32) (vb : Int32) : Met l yX12_has (wU yX12_has cX12_has 2 (some .boolean)) ({ frames := 0, cells := 0, slots := 0, locals := 0 }) (va_Pc [.int va, .int vb] (sz_P (dC, dI) vwCl tys H)) (va_Qi (fun (z : Int32) (_ : Unit) => z = F_sm_has va vb ∧ ((z = 1 ∧ (rb va vb = 1)) ∨ (z = 0 ∧ (¬ rb va vb = 1)))) (fun _ t => t.heap = H) (fun _ => False)) 0 0 (fun _ => False) := by
  refine Met.ofW (cc := cX12_has) (maxL := 2) (ret := (some .boolean)) (by decide) rfl ?_
  intro p e s m args below meth c s₁ B hml hv
  obtain ⟨rfl, hh, hK, hz⟩ := hv
  have hx := B.exec
  have hb := B.bytes
  have hr := B.returns
  have hts := atoms_spec (ws := (wU yX12_has cX12_has 2 (some .boolean))) B.pre
  have hown : s.vm.findClass RX12 = some m.cls := findClass_of_methodNamed B.named
  have hlocks := B.notSynchronized
  subst hh
  have hS : va_S (fun _ => False) s.heap s.heap [] := va_S.rf
  have hl := lv_entry ([.int va, .int vb]) (n := 2) (Nat.le_of_ble_eq_true rfl)
  rw [lg_entry_eq]
  generalize (lg_sl ([.int va, .int vb]) ++ List.replicate (2 - (lg_sl ([.int va, .int vb])).length) Slot.unset).toArray = ls at hl ⊢
  have hl : lv_has ls 2 [(0, .int va), (1, .int vb)] := hl
  obtain ⟨fz, hfz⟩ : ∃ z, F_sm_has va vb = z := ⟨_, rfl⟩
  have hF := hfz
  unfold F_sm_has at hF
  refine lv_iload_n hx hb dX12_has_0 rfl (lv_at hl 0 rfl) ?_
  refine lv_iload_n hx hb dX12_has_1 rfl (lv_at hl 1 rfl) ?_
  refine lv_ishr hx hb dX12_has_2 ?_
  refine lv_topi (fun t1 et1 => ?_)
  have hF := mi_let hF et1
  refine lv_iconst (v := 1) hx hb dX12_has_3 (by decide) ?_
  refine lv_iand hx hb dX12_has_4 ?_
  refine lv_topi (fun t2 et2 => ?_)
  have hF := mi_let hF et2
  refine lv_iconst (v := 1) hx hb dX12_has_5 (by decide) ?_
  refine lv_icmp_ne (tgt := 13) hx hb dX12_has_6 (by decide) (fun c_3 => ?_) (fun c_3 => ?_)
  · have hF := (if_neg c_3).symm.trans hF
    have c_3 : ¬ t2.toInt = 1 := il_ne c_3
    refine lv_iconst (v := 0) hx hb dX12_has_13 (by decide) ?_
    exact W.zret (v := 0) (ty := .boolean) hx hb hr (by first | rfl | decide) (fun t ht hW => ⟨⟨0, (), rfl, ⟨hF.trans hfz.symm, (Or.inr ⟨rfl, by unfold rb; rw [← et1, ← et2]; exact fun h => c_3 (congrArg Int32.toInt h)⟩)⟩, ht⟩, hS.F ht⟩) hS.2.2 dX12_has_14
  · have hF := (if_pos c_3).symm.trans hF
    have c_3 : t2.toInt = 1 := il_eq c_3
    refine lv_iconst (v := 1) hx hb dX12_has_9 (by decide) ?_
    refine lv_goto (tgt := 14) hx hb dX12_has_10 (by decide) ?_
    exact W.zret (v := 1) (ty := .boolean) hx hb hr (by first | rfl | decide) (fun t ht hW => ⟨⟨1, (), rfl, ⟨hF.trans hfz.symm, (Or.inl ⟨rfl, by unfold rb; rw [← et1, ← et2]; exact Int32.toInt_inj.mp c_3⟩)⟩, ht⟩, hS.F ht⟩) hS.2.2 dX12_has_14
set_option maxHeartbeats 4000000 in
set_option maxRecDepth 100000 in
/-- sm_sizeOf -/
theorem sm_sizeOf (l : Launch) (dC : Nat → ClassId) (dI : Nat → Nat → Nat) (tys : List (ClassId × FieldType)) (H : Heap) (va : Int32) : Met l yX12_sizeOf (wU yX12_sizeOf cX12_sizeOf 3 (some .int)) ({ frames := 0, cells := 0, slots := 0, locals := 0 }) (va_Pc [.int va] (sz_P (dC, dI) vwCl tys H)) (va_Qi (fun (z : Int32) (_ : Unit) => z = F_sm_sizeOf va ∧ (z = so va ∧ (0 ≤ va.toInt → va.toInt ≤ 127 → z.toInt = (pp va.toNatClampNeg : Int) ∧ pp va.toNatClampNeg ≤ 7 ∧ (va.toInt = 0 ∨ 1 ≤ pp va.toNatClampNeg)))) (fun _ t => t.heap = H) (fun _ => False)) 0 0 (fun _ => False) := by
  refine Met.ofW (cc := cX12_sizeOf) (maxL := 3) (ret := (some .int)) (by decide) rfl ?_
  intro p e s m args below meth c s₁ B hml hv
  obtain ⟨rfl, hh, hK, hz⟩ := hv
  have hx := B.exec
  have hb := B.bytes
  have hr := B.returns
  have hts := atoms_spec (ws := (wU yX12_sizeOf cX12_sizeOf 3 (some .int))) B.pre
  have hown : s.vm.findClass RX12 = some m.cls := findClass_of_methodNamed B.named
  have hlocks := B.notSynchronized
  subst hh
  have hS : va_S (fun _ => False) s.heap s.heap [] := va_S.rf
  have hl := lv_entry ([.int va]) (n := 3) (Nat.le_of_ble_eq_true rfl)
  rw [lg_entry_eq]
  generalize (lg_sl ([.int va]) ++ List.replicate (3 - (lg_sl ([.int va])).length) Slot.unset).toArray = ls at hl ⊢
  have hl : lv_has ls 3 [(0, .int va)] := hl
  obtain ⟨fz, hfz⟩ : ∃ z, F_sm_sizeOf va = z := ⟨_, rfl⟩
  have hF := hfz
  unfold F_sm_sizeOf at hF
  refine lv_iconst (v := 0) hx hb dX12_sizeOf_0 (by decide) ?_
  refine lv_istore_n (lv' := [(1, .int 0), (0, .int va)]) hx hb dX12_sizeOf_1 rfl hl (by decide) rfl (fun ls hl => ?_)
  refine lv_iconst (v := 0) hx hb dX12_sizeOf_2 (by decide) ?_
  refine lv_istore_n (lv' := [(2, .int 0), (1, .int 0), (0, .int va)]) hx hb dX12_sizeOf_3 rfl hl (by decide) rfl (fun ls hl => ?_)
  refine lv_iload_n hx hb dX12_sizeOf_4 rfl (lv_at hl 0 rfl) ?_
  refine lv_bipush (v := 12) hx hb dX12_sizeOf_5 (by decide) ?_
  refine lv_icmp_ge (tgt := 24) hx hb dX12_sizeOf_7 (by decide) (fun c => absurd c (by decide)) (fun _ => ?_)
  refine lv_iload_n hx hb dX12_sizeOf_10 rfl (lv_at hl 1 rfl) ?_
  refine lv_iload_n hx hb dX12_sizeOf_11 rfl (lv_at hl 2 rfl) ?_
  refine lv_iload_n hx hb dX12_sizeOf_12 rfl (lv_at hl 0 rfl) ?_
  refine lv_ishr hx hb dX12_sizeOf_13 ?_
  refine lv_topi (fun t1 et1 => ?_)
  have hF := mi_let hF et1
  refine lv_iconst (v := 1) hx hb dX12_sizeOf_14 (by decide) ?_
  refine lv_iand hx hb dX12_sizeOf_15 ?_
  refine lv_topi (fun t2 et2 => ?_)
  have hF := mi_let hF et2
  refine lv_iadd hx hb dX12_sizeOf_16 ?_
  refine lv_topi (fun t3 et3 => ?_)
  have hF := mi_let hF et3
  refine lv_istore_n (lv' := [(1, .int t3), (2, .int 0), (0, .int va)]) hx hb dX12_sizeOf_17 rfl hl (by decide) rfl (fun ls hl => ?_)
  refine lv_iinc (v := 1) (lv' := [(2, .int 1), (1, .int t3), (0, .int va)]) hx hb dX12_sizeOf_18 hl (k := 1) rfl (by decide) (by decide) rfl (fun ls hl => ?_)
  refine lv_goto (tgt := 4) hx hb dX12_sizeOf_21 (by decide) ?_
  refine lv_iload_n hx hb dX12_sizeOf_4 rfl (lv_at hl 0 rfl) ?_
  refine lv_bipush (v := 12) hx hb dX12_sizeOf_5 (by decide) ?_
  refine lv_icmp_ge (tgt := 24) hx hb dX12_sizeOf_7 (by decide) (fun c => absurd c (by decide)) (fun _ => ?_)
  refine lv_iload_n hx hb dX12_sizeOf_10 rfl (lv_at hl 1 rfl) ?_
  refine lv_iload_n hx hb dX12_sizeOf_11 rfl (lv_at hl 2 rfl) ?_
  refine lv_iload_n hx hb dX12_sizeOf_12 rfl (lv_at hl 0 rfl) ?_
  refine lv_ishr hx hb dX12_sizeOf_13 ?_
  refine lv_topi (fun t4 et4 => ?_)
  have hF := mi_let hF et4
  refine lv_iconst (v := 1) hx hb dX12_sizeOf_14 (by decide) ?_
  refine lv_iand hx hb dX12_sizeOf_15 ?_
  refine lv_topi (fun t5 et5 => ?_)
  have hF := mi_let hF et5
  refine lv_iadd hx hb dX12_sizeOf_16 ?_
  refine lv_topi (fun t6 et6 => ?_)
  have hF := mi_let hF et6
  refine lv_istore_n (lv' := [(1, .int t6), (2, .int 1), (0, .int va)]) hx hb dX12_sizeOf_17 rfl hl (by decide) rfl (fun ls hl => ?_)
  refine lv_iinc (v := 2) (lv' := [(2, .int 2), (1, .int t6), (0, .int va)]) hx hb dX12_sizeOf_18 hl (k := 1) rfl (by decide) (by decide) rfl (fun ls hl => ?_)
  refine lv_goto (tgt := 4) hx hb dX12_sizeOf_21 (by decide) ?_
  refine lv_iload_n hx hb dX12_sizeOf_4 rfl (lv_at hl 0 rfl) ?_
  refine lv_bipush (v := 12) hx hb dX12_sizeOf_5 (by decide) ?_
  refine lv_icmp_ge (tgt := 24) hx hb dX12_sizeOf_7 (by decide) (fun c => absurd c (by decide)) (fun _ => ?_)
  refine lv_iload_n hx hb dX12_sizeOf_10 rfl (lv_at hl 1 rfl) ?_
  refine lv_iload_n hx hb dX12_sizeOf_11 rfl (lv_at hl 2 rfl) ?_
  refine lv_iload_n hx hb dX12_sizeOf_12 rfl (lv_at hl 0 rfl) ?_
  refine lv_ishr hx hb dX12_sizeOf_13 ?_
  refine lv_topi (fun t7 et7 => ?_)
  have hF := mi_let hF et7
  refine lv_iconst (v := 1) hx hb dX12_sizeOf_14 (by decide) ?_
  refine lv_iand hx hb dX12_sizeOf_15 ?_
  refine lv_topi (fun t8 et8 => ?_)
  have hF := mi_let hF et8
  refine lv_iadd hx hb dX12_sizeOf_16 ?_
  refine lv_topi (fun t9 et9 => ?_)
  have hF := mi_let hF et9
  refine lv_istore_n (lv' := [(1, .int t9), (2, .int 2), (0, .int va)]) hx hb dX12_sizeOf_17 rfl hl (by decide) rfl (fun ls hl => ?_)
  refine lv_iinc (v := 3) (lv' := [(2, .int 3), (1, .int t9), (0, .int va)]) hx hb dX12_sizeOf_18 hl (k := 1) rfl (by decide) (by decide) rfl (fun ls hl => ?_)
  refine lv_goto (tgt := 4) hx hb dX12_sizeOf_21 (by decide) ?_
  refine lv_iload_n hx hb dX12_sizeOf_4 rfl (lv_at hl 0 rfl) ?_
  refine lv_bipush (v := 12) hx hb dX12_sizeOf_5 (by decide) ?_
  refine lv_icmp_ge (tgt := 24) hx hb dX12_sizeOf_7 (by decide) (fun c => absurd c (by decide)) (fun _ => ?_)
  refine lv_iload_n hx hb dX12_sizeOf_10 rfl (lv_at hl 1 rfl) ?_
  refine lv_iload_n hx hb dX12_sizeOf_11 rfl (lv_at hl 2 rfl) ?_
  refine lv_iload_n hx hb dX12_sizeOf_12 rfl (lv_at hl 0 rfl) ?_
  refine lv_ishr hx hb dX12_sizeOf_13 ?_
  refine lv_topi (fun t10 et10 => ?_)
  have hF := mi_let hF et10
  refine lv_iconst (v := 1) hx hb dX12_sizeOf_14 (by decide) ?_
  refine lv_iand hx hb dX12_sizeOf_15 ?_
  refine lv_topi (fun t11 et11 => ?_)
  have hF := mi_let hF et11
  refine lv_iadd hx hb dX12_sizeOf_16 ?_
  refine lv_topi (fun t12 et12 => ?_)
  have hF := mi_let hF et12
  refine lv_istore_n (lv' := [(1, .int t12), (2, .int 3), (0, .int va)]) hx hb dX12_sizeOf_17 rfl hl (by decide) rfl (fun ls hl => ?_)
  refine lv_iinc (v := 4) (lv' := [(2, .int 4), (1, .int t12), (0, .int va)]) hx hb dX12_sizeOf_18 hl (k := 1) rfl (by decide) (by decide) rfl (fun ls hl => ?_)
  refine lv_goto (tgt := 4) hx hb dX12_sizeOf_21 (by decide) ?_
  refine lv_iload_n hx hb dX12_sizeOf_4 rfl (lv_at hl 0 rfl) ?_
  refine lv_bipush (v := 12) hx hb dX12_sizeOf_5 (by decide) ?_
  refine lv_icmp_ge (tgt := 24) hx hb dX12_sizeOf_7 (by decide) (fun c => absurd c (by decide)) (fun _ => ?_)
  refine lv_iload_n hx hb dX12_sizeOf_10 rfl (lv_at hl 1 rfl) ?_
  refine lv_iload_n hx hb dX12_sizeOf_11 rfl (lv_at hl 2 rfl) ?_
  refine lv_iload_n hx hb dX12_sizeOf_12 rfl (lv_at hl 0 rfl) ?_
  refine lv_ishr hx hb dX12_sizeOf_13 ?_
  refine lv_topi (fun t13 et13 => ?_)
  have hF := mi_let hF et13
  refine lv_iconst (v := 1) hx hb dX12_sizeOf_14 (by decide) ?_
  refine lv_iand hx hb dX12_sizeOf_15 ?_
  refine lv_topi (fun t14 et14 => ?_)
  have hF := mi_let hF et14
  refine lv_iadd hx hb dX12_sizeOf_16 ?_
  refine lv_topi (fun t15 et15 => ?_)
  have hF := mi_let hF et15
  refine lv_istore_n (lv' := [(1, .int t15), (2, .int 4), (0, .int va)]) hx hb dX12_sizeOf_17 rfl hl (by decide) rfl (fun ls hl => ?_)
  refine lv_iinc (v := 5) (lv' := [(2, .int 5), (1, .int t15), (0, .int va)]) hx hb dX12_sizeOf_18 hl (k := 1) rfl (by decide) (by decide) rfl (fun ls hl => ?_)
  refine lv_goto (tgt := 4) hx hb dX12_sizeOf_21 (by decide) ?_
  refine lv_iload_n hx hb dX12_sizeOf_4 rfl (lv_at hl 0 rfl) ?_
  refine lv_bipush (v := 12) hx hb dX12_sizeOf_5 (by decide) ?_
  refine lv_icmp_ge (tgt := 24) hx hb dX12_sizeOf_7 (by decide) (fun c => absurd c (by decide)) (fun _ => ?_)
  refine lv_iload_n hx hb dX12_sizeOf_10 rfl (lv_at hl 1 rfl) ?_
  refine lv_iload_n hx hb dX12_sizeOf_11 rfl (lv_at hl 2 rfl) ?_
  refine lv_iload_n hx hb dX12_sizeOf_12 rfl (lv_at hl 0 rfl) ?_
  refine lv_ishr hx hb dX12_sizeOf_13 ?_
  refine lv_topi (fun t16 et16 => ?_)
  have hF := mi_let hF et16
  refine lv_iconst (v := 1) hx hb dX12_sizeOf_14 (by decide) ?_
  refine lv_iand hx hb dX12_sizeOf_15 ?_
  refine lv_topi (fun t17 et17 => ?_)
  have hF := mi_let hF et17
  refine lv_iadd hx hb dX12_sizeOf_16 ?_
  refine lv_topi (fun t18 et18 => ?_)
  have hF := mi_let hF et18
  refine lv_istore_n (lv' := [(1, .int t18), (2, .int 5), (0, .int va)]) hx hb dX12_sizeOf_17 rfl hl (by decide) rfl (fun ls hl => ?_)
  refine lv_iinc (v := 6) (lv' := [(2, .int 6), (1, .int t18), (0, .int va)]) hx hb dX12_sizeOf_18 hl (k := 1) rfl (by decide) (by decide) rfl (fun ls hl => ?_)
  refine lv_goto (tgt := 4) hx hb dX12_sizeOf_21 (by decide) ?_
  refine lv_iload_n hx hb dX12_sizeOf_4 rfl (lv_at hl 0 rfl) ?_
  refine lv_bipush (v := 12) hx hb dX12_sizeOf_5 (by decide) ?_
  refine lv_icmp_ge (tgt := 24) hx hb dX12_sizeOf_7 (by decide) (fun c => absurd c (by decide)) (fun _ => ?_)
  refine lv_iload_n hx hb dX12_sizeOf_10 rfl (lv_at hl 1 rfl) ?_
  refine lv_iload_n hx hb dX12_sizeOf_11 rfl (lv_at hl 2 rfl) ?_
  refine lv_iload_n hx hb dX12_sizeOf_12 rfl (lv_at hl 0 rfl) ?_
  refine lv_ishr hx hb dX12_sizeOf_13 ?_
  refine lv_topi (fun t19 et19 => ?_)
  have hF := mi_let hF et19
  refine lv_iconst (v := 1) hx hb dX12_sizeOf_14 (by decide) ?_
  refine lv_iand hx hb dX12_sizeOf_15 ?_
  refine lv_topi (fun t20 et20 => ?_)
  have hF := mi_let hF et20
  refine lv_iadd hx hb dX12_sizeOf_16 ?_
  refine lv_topi (fun t21 et21 => ?_)
  have hF := mi_let hF et21
  refine lv_istore_n (lv' := [(1, .int t21), (2, .int 6), (0, .int va)]) hx hb dX12_sizeOf_17 rfl hl (by decide) rfl (fun ls hl => ?_)
  refine lv_iinc (v := 7) (lv' := [(2, .int 7), (1, .int t21), (0, .int va)]) hx hb dX12_sizeOf_18 hl (k := 1) rfl (by decide) (by decide) rfl (fun ls hl => ?_)
  refine lv_goto (tgt := 4) hx hb dX12_sizeOf_21 (by decide) ?_
  refine lv_iload_n hx hb dX12_sizeOf_4 rfl (lv_at hl 0 rfl) ?_
  refine lv_bipush (v := 12) hx hb dX12_sizeOf_5 (by decide) ?_
  refine lv_icmp_ge (tgt := 24) hx hb dX12_sizeOf_7 (by decide) (fun c => absurd c (by decide)) (fun _ => ?_)
  refine lv_iload_n hx hb dX12_sizeOf_10 rfl (lv_at hl 1 rfl) ?_
  refine lv_iload_n hx hb dX12_sizeOf_11 rfl (lv_at hl 2 rfl) ?_
  refine lv_iload_n hx hb dX12_sizeOf_12 rfl (lv_at hl 0 rfl) ?_
  refine lv_ishr hx hb dX12_sizeOf_13 ?_
  refine lv_topi (fun t22 et22 => ?_)
  have hF := mi_let hF et22
  refine lv_iconst (v := 1) hx hb dX12_sizeOf_14 (by decide) ?_
  refine lv_iand hx hb dX12_sizeOf_15 ?_
  refine lv_topi (fun t23 et23 => ?_)
  have hF := mi_let hF et23
  refine lv_iadd hx hb dX12_sizeOf_16 ?_
  refine lv_topi (fun t24 et24 => ?_)
  have hF := mi_let hF et24
  refine lv_istore_n (lv' := [(1, .int t24), (2, .int 7), (0, .int va)]) hx hb dX12_sizeOf_17 rfl hl (by decide) rfl (fun ls hl => ?_)
  refine lv_iinc (v := 8) (lv' := [(2, .int 8), (1, .int t24), (0, .int va)]) hx hb dX12_sizeOf_18 hl (k := 1) rfl (by decide) (by decide) rfl (fun ls hl => ?_)
  refine lv_goto (tgt := 4) hx hb dX12_sizeOf_21 (by decide) ?_
  refine lv_iload_n hx hb dX12_sizeOf_4 rfl (lv_at hl 0 rfl) ?_
  refine lv_bipush (v := 12) hx hb dX12_sizeOf_5 (by decide) ?_
  refine lv_icmp_ge (tgt := 24) hx hb dX12_sizeOf_7 (by decide) (fun c => absurd c (by decide)) (fun _ => ?_)
  refine lv_iload_n hx hb dX12_sizeOf_10 rfl (lv_at hl 1 rfl) ?_
  refine lv_iload_n hx hb dX12_sizeOf_11 rfl (lv_at hl 2 rfl) ?_
  refine lv_iload_n hx hb dX12_sizeOf_12 rfl (lv_at hl 0 rfl) ?_
  refine lv_ishr hx hb dX12_sizeOf_13 ?_
  refine lv_topi (fun t25 et25 => ?_)
  have hF := mi_let hF et25
  refine lv_iconst (v := 1) hx hb dX12_sizeOf_14 (by decide) ?_
  refine lv_iand hx hb dX12_sizeOf_15 ?_
  refine lv_topi (fun t26 et26 => ?_)
  have hF := mi_let hF et26
  refine lv_iadd hx hb dX12_sizeOf_16 ?_
  refine lv_topi (fun t27 et27 => ?_)
  have hF := mi_let hF et27
  refine lv_istore_n (lv' := [(1, .int t27), (2, .int 8), (0, .int va)]) hx hb dX12_sizeOf_17 rfl hl (by decide) rfl (fun ls hl => ?_)
  refine lv_iinc (v := 9) (lv' := [(2, .int 9), (1, .int t27), (0, .int va)]) hx hb dX12_sizeOf_18 hl (k := 1) rfl (by decide) (by decide) rfl (fun ls hl => ?_)
  refine lv_goto (tgt := 4) hx hb dX12_sizeOf_21 (by decide) ?_
  refine lv_iload_n hx hb dX12_sizeOf_4 rfl (lv_at hl 0 rfl) ?_
  refine lv_bipush (v := 12) hx hb dX12_sizeOf_5 (by decide) ?_
  refine lv_icmp_ge (tgt := 24) hx hb dX12_sizeOf_7 (by decide) (fun c => absurd c (by decide)) (fun _ => ?_)
  refine lv_iload_n hx hb dX12_sizeOf_10 rfl (lv_at hl 1 rfl) ?_
  refine lv_iload_n hx hb dX12_sizeOf_11 rfl (lv_at hl 2 rfl) ?_
  refine lv_iload_n hx hb dX12_sizeOf_12 rfl (lv_at hl 0 rfl) ?_
  refine lv_ishr hx hb dX12_sizeOf_13 ?_
  refine lv_topi (fun t28 et28 => ?_)
  have hF := mi_let hF et28
  refine lv_iconst (v := 1) hx hb dX12_sizeOf_14 (by decide) ?_
  refine lv_iand hx hb dX12_sizeOf_15 ?_
  refine lv_topi (fun t29 et29 => ?_)
  have hF := mi_let hF et29
  refine lv_iadd hx hb dX12_sizeOf_16 ?_
  refine lv_topi (fun t30 et30 => ?_)
  have hF := mi_let hF et30
  refine lv_istore_n (lv' := [(1, .int t30), (2, .int 9), (0, .int va)]) hx hb dX12_sizeOf_17 rfl hl (by decide) rfl (fun ls hl => ?_)
  refine lv_iinc (v := 10) (lv' := [(2, .int 10), (1, .int t30), (0, .int va)]) hx hb dX12_sizeOf_18 hl (k := 1) rfl (by decide) (by decide) rfl (fun ls hl => ?_)
  refine lv_goto (tgt := 4) hx hb dX12_sizeOf_21 (by decide) ?_
  refine lv_iload_n hx hb dX12_sizeOf_4 rfl (lv_at hl 0 rfl) ?_
  refine lv_bipush (v := 12) hx hb dX12_sizeOf_5 (by decide) ?_
  refine lv_icmp_ge (tgt := 24) hx hb dX12_sizeOf_7 (by decide) (fun c => absurd c (by decide)) (fun _ => ?_)
  refine lv_iload_n hx hb dX12_sizeOf_10 rfl (lv_at hl 1 rfl) ?_
  refine lv_iload_n hx hb dX12_sizeOf_11 rfl (lv_at hl 2 rfl) ?_
  refine lv_iload_n hx hb dX12_sizeOf_12 rfl (lv_at hl 0 rfl) ?_
  refine lv_ishr hx hb dX12_sizeOf_13 ?_
  refine lv_topi (fun t31 et31 => ?_)
  have hF := mi_let hF et31
  refine lv_iconst (v := 1) hx hb dX12_sizeOf_14 (by decide) ?_
  refine lv_iand hx hb dX12_sizeOf_15 ?_
  refine lv_topi (fun t32 et32 => ?_)
  have hF := mi_let hF et32
  refine lv_iadd hx hb dX12_sizeOf_16 ?_
  refine lv_topi (fun t33 et33 => ?_)
  have hF := mi_let hF et33
  refine lv_istore_n (lv' := [(1, .int t33), (2, .int 10), (0, .int va)]) hx hb dX12_sizeOf_17 rfl hl (by decide) rfl (fun ls hl => ?_)
  refine lv_iinc (v := 11) (lv' := [(2, .int 11), (1, .int t33), (0, .int va)]) hx hb dX12_sizeOf_18 hl (k := 1) rfl (by decide) (by decide) rfl (fun ls hl => ?_)
  refine lv_goto (tgt := 4) hx hb dX12_sizeOf_21 (by decide) ?_
  refine lv_iload_n hx hb dX12_sizeOf_4 rfl (lv_at hl 0 rfl) ?_
  refine lv_bipush (v := 12) hx hb dX12_sizeOf_5 (by decide) ?_
  refine lv_icmp_ge (tgt := 24) hx hb dX12_sizeOf_7 (by decide) (fun c => absurd c (by decide)) (fun _ => ?_)
  refine lv_iload_n hx hb dX12_sizeOf_10 rfl (lv_at hl 1 rfl) ?_
  refine lv_iload_n hx hb dX12_sizeOf_11 rfl (lv_at hl 2 rfl) ?_
  refine lv_iload_n hx hb dX12_sizeOf_12 rfl (lv_at hl 0 rfl) ?_
  refine lv_ishr hx hb dX12_sizeOf_13 ?_
  refine lv_topi (fun t34 et34 => ?_)
  have hF := mi_let hF et34
  refine lv_iconst (v := 1) hx hb dX12_sizeOf_14 (by decide) ?_
  refine lv_iand hx hb dX12_sizeOf_15 ?_
  refine lv_topi (fun t35 et35 => ?_)
  have hF := mi_let hF et35
  refine lv_iadd hx hb dX12_sizeOf_16 ?_
  refine lv_topi (fun t36 et36 => ?_)
  have hF := mi_let hF et36
  refine lv_istore_n (lv' := [(1, .int t36), (2, .int 11), (0, .int va)]) hx hb dX12_sizeOf_17 rfl hl (by decide) rfl (fun ls hl => ?_)
  refine lv_iinc (v := 12) (lv' := [(2, .int 12), (1, .int t36), (0, .int va)]) hx hb dX12_sizeOf_18 hl (k := 1) rfl (by decide) (by decide) rfl (fun ls hl => ?_)
  refine lv_goto (tgt := 4) hx hb dX12_sizeOf_21 (by decide) ?_
  refine lv_iload_n hx hb dX12_sizeOf_4 rfl (lv_at hl 0 rfl) ?_
  refine lv_bipush (v := 12) hx hb dX12_sizeOf_5 (by decide) ?_
  refine lv_icmp_ge (tgt := 24) hx hb dX12_sizeOf_7 (by decide) (fun _ => ?_) (fun c => absurd (by decide) c)
  refine lv_iload_n hx hb dX12_sizeOf_24 rfl (lv_at hl 1 rfl) ?_
  exact W.iret (v := t36) hx hb hr (fun t ht hW => ⟨⟨t36, (), rfl, ⟨hF.trans hfz.symm, (by have h9 : t36 = so va := (by subst_vars; rfl); exact ⟨h9, fun h1 h2 => by rw [h9]; exact so_7 h1 h2⟩)⟩, ht⟩, hS.F ht⟩) hS.2.2 dX12_sizeOf_25
set_option maxHeartbeats 4000000 in
set_option maxRecDepth 100000 in
/-- sm_isRow -/
theorem sm_isRow (l : Launch) (dC : Nat → ClassId) (dI : Nat → Nat → Nat) (tys : List (ClassId × FieldType)) (H : Heap) (va : Int32) : Met l yX12_isRow (wU yX12_isRow cX12_isRow 1 (some .boolean)) ({ frames := 1, cells := 0, slots := 0, locals := 22 }) (va_Pc [.int va] (sz_P (dC, dI) vwCl tys H)) (va_Qi (fun (z : Int32) (_ : Unit) => z = F_sm_isRow va ∧ ((z = 1 ∧ (0 ≤ va.toInt ∧ va.toInt ≤ 5)) ∨ (z = 0 ∧ (va.toInt < 0 ∨ 5 < va.toInt)))) (fun _ t => t.heap = H) (fun _ => False)) 0 0 (fun _ => False) := by
  refine Met.ofW (cc := cX12_isRow) (maxL := 1) (ret := (some .boolean)) (by decide) rfl ?_
  intro p e s m args below meth c s₁ B hml hv
  obtain ⟨rfl, hh, hK, hz⟩ := hv
  have hx := B.exec
  have hb := B.bytes
  have hr := B.returns
  have hts := atoms_spec (ws := (wU yX12_isRow cX12_isRow 1 (some .boolean))) B.pre
  have hown : s.vm.findClass RX12 = some m.cls := findClass_of_methodNamed B.named
  have hlocks := B.notSynchronized
  subst hh
  have hS : va_S (fun _ => False) s.heap s.heap [] := va_S.rf
  have hl := lv_entry ([.int va]) (n := 1) (Nat.le_of_ble_eq_true rfl)
  rw [lg_entry_eq]
  generalize (lg_sl ([.int va]) ++ List.replicate (1 - (lg_sl ([.int va])).length) Slot.unset).toArray = ls at hl ⊢
  have hl : lv_has ls 1 [(0, .int va)] := hl
  obtain ⟨fz, hfz⟩ : ∃ z, F_sm_isRow va = z := ⟨_, rfl⟩
  have hF := hfz
  unfold F_sm_isRow at hF
  refine lv_iload_n hx hb dX12_isRow_0 rfl (lv_at hl 0 rfl) ?_
  refine lv_iconst (v := 0) hx hb dX12_isRow_1 (by decide) ?_
  refine lv_iconst (v := 5) hx hb dX12_isRow_2 (by decide) ?_
  refine cr_i (va_runS (As := [.int va, .int 0, .int 5]) (rest := []) ⟨hx, hb, hml, hown, hts⟩ (sm_in l dC dI tys s.heap va 0 5) (va_cwS 3 hts (wU_S mw_5_189 mw_5_187 mw_5_188 mw_1_13) rfl rfl rfl (by decide +kernel) ⟨Nat.le_of_ble_eq_true rfl, Nat.le_of_ble_eq_true rfl⟩) ⟨sz_c, sz_m hK hz⟩ rfl rfl hl.1 rfl (lv_room (Nat.le_of_ble_eq_true rfl)) dX12_isRow_3 ⟨Nat.zero_le _, Nat.zero_le _⟩) hS (fun r1 hw1 locs hS => ?_)
  obtain ⟨hfe1, hw1⟩ := hw1
  rcases hw1 with ⟨rfl, f1⟩ | ⟨rfl, f1⟩
  · have hF := (if_pos hfe1.symm).symm.trans hF
    have f1 : (0 : Int) ≤ va.toInt ∧ va.toInt ≤ (5 : Int) := f1
    exact W.zret (v := 1) (ty := .boolean) hx hb hr (by first | rfl | decide) (fun t ht hW => ⟨⟨1, (), rfl, ⟨hF.trans hfz.symm, (Or.inl ⟨rfl, by omega⟩)⟩, ht⟩, hS.F ht⟩) hS.2.2 dX12_isRow_6
  · have hF := (if_neg (fun h => absurd (hfe1.trans h) (by decide))).symm.trans hF
    have f1 : va.toInt < (0 : Int) ∨ (5 : Int) < va.toInt := f1
    exact W.zret (v := 0) (ty := .boolean) hx hb hr (by first | rfl | decide) (fun t ht hW => ⟨⟨0, (), rfl, ⟨hF.trans hfz.symm, (Or.inr ⟨rfl, by omega⟩)⟩, ht⟩, hS.F ht⟩) hS.2.2 dX12_isRow_6
set_option maxHeartbeats 4000000 in
set_option maxRecDepth 100000 in
/-- sm_isText -/
theorem sm_isText (l : Launch) (dC : Nat → ClassId) (dI : Nat → Nat → Nat) (tys : List (ClassId × FieldType)) (H : Heap) (va : Int32) : Met l yX12_isText (wU yX12_isText cX12_isText 1 (some .boolean)) ({ frames := 1, cells := 0, slots := 0, locals := 22 }) (va_Pc [.int va] (sz_P (dC, dI) vwCl tys H)) (va_Qi (fun (z : Int32) (_ : Unit) => z = F_sm_isText va ∧ ((z = 1 ∧ (0 ≤ va.toInt ∧ va.toInt ≤ 3)) ∨ (z = 0 ∧ (va.toInt < 0 ∨ 3 < va.toInt)))) (fun _ t => t.heap = H) (fun _ => False)) 0 0 (fun _ => False) := by
  refine Met.ofW (cc := cX12_isText) (maxL := 1) (ret := (some .boolean)) (by decide) rfl ?_
  intro p e s m args below meth c s₁ B hml hv
  obtain ⟨rfl, hh, hK, hz⟩ := hv
  have hx := B.exec
  have hb := B.bytes
  have hr := B.returns
  have hts := atoms_spec (ws := (wU yX12_isText cX12_isText 1 (some .boolean))) B.pre
  have hown : s.vm.findClass RX12 = some m.cls := findClass_of_methodNamed B.named
  have hlocks := B.notSynchronized
  subst hh
  have hS : va_S (fun _ => False) s.heap s.heap [] := va_S.rf
  have hl := lv_entry ([.int va]) (n := 1) (Nat.le_of_ble_eq_true rfl)
  rw [lg_entry_eq]
  generalize (lg_sl ([.int va]) ++ List.replicate (1 - (lg_sl ([.int va])).length) Slot.unset).toArray = ls at hl ⊢
  have hl : lv_has ls 1 [(0, .int va)] := hl
  obtain ⟨fz, hfz⟩ : ∃ z, F_sm_isText va = z := ⟨_, rfl⟩
  have hF := hfz
  unfold F_sm_isText at hF
  refine lv_iload_n hx hb dX12_isText_0 rfl (lv_at hl 0 rfl) ?_
  refine lv_iconst (v := 0) hx hb dX12_isText_1 (by decide) ?_
  refine lv_iconst (v := 3) hx hb dX12_isText_2 (by decide) ?_
  refine cr_i (va_runS (As := [.int va, .int 0, .int 3]) (rest := []) ⟨hx, hb, hml, hown, hts⟩ (sm_in l dC dI tys s.heap va 0 3) (va_cwS 3 hts (wU_S mw_5_189 mw_5_187 mw_5_188 mw_1_13) rfl rfl rfl (by decide +kernel) ⟨Nat.le_of_ble_eq_true rfl, Nat.le_of_ble_eq_true rfl⟩) ⟨sz_c, sz_m hK hz⟩ rfl rfl hl.1 rfl (lv_room (Nat.le_of_ble_eq_true rfl)) dX12_isText_3 ⟨Nat.zero_le _, Nat.zero_le _⟩) hS (fun r1 hw1 locs hS => ?_)
  obtain ⟨hfe1, hw1⟩ := hw1
  rcases hw1 with ⟨rfl, f1⟩ | ⟨rfl, f1⟩
  · have hF := (if_pos hfe1.symm).symm.trans hF
    have f1 : (0 : Int) ≤ va.toInt ∧ va.toInt ≤ (3 : Int) := f1
    exact W.zret (v := 1) (ty := .boolean) hx hb hr (by first | rfl | decide) (fun t ht hW => ⟨⟨1, (), rfl, ⟨hF.trans hfz.symm, (Or.inl ⟨rfl, by omega⟩)⟩, ht⟩, hS.F ht⟩) hS.2.2 dX12_isText_6
  · have hF := (if_neg (fun h => absurd (hfe1.trans h) (by decide))).symm.trans hF
    have f1 : va.toInt < (0 : Int) ∨ (3 : Int) < va.toInt := f1
    exact W.zret (v := 0) (ty := .boolean) hx hb hr (by first | rfl | decide) (fun t ht hW => ⟨⟨0, (), rfl, ⟨hF.trans hfz.symm, (Or.inr ⟨rfl, by omega⟩)⟩, ht⟩, hS.F ht⟩) hS.2.2 dX12_isText_6
set_option maxHeartbeats 4000000 in
set_option maxRecDepth 100000 in
/-- sm_meet -/
theorem sm_meet (l : Launch) (dC : Nat → ClassId) (dI : Nat → Nat → Nat) (cs : Nat → ClassId) (ad : Nat → Nat) (mu : Nat → Nat → Int32) (ok : okR loM hiM mu) (H : Heap) (hP : va_P (dC, dI) vwCl (wR 21 ad (EM cs ad) mu) H) (hD0 : va_D (fun _ => True) (wR 21 ad (EM cs ad) mu)) (vw : Int32) (hin0 : 1 ≤ vw.toInt ∧ vw.toInt ≤ 5) : Met l yX12_meet (wU yX12_meet cX12_meet 2 (some .int)) ({ frames := 0, cells := 0, slots := 0, locals := 0 }) (va_Pc [.ref (ad 0), .int vw] (sz_P (dC, dI) vwCl (tyM cs) H)) (va_Qi (fun (z : Int32) (xi : Nat → Nat → Int32) => (z, xi) = F_sm_meet mu vw ∧ okR loM hiM xi ∧ (-3 ≤ z.toInt ∧ z.toInt ≤ -3) ∧ (∀ k f : Nat, Nat.testBit 510 (gpM k f) = true → xi k f = mu k f)) (fun xi t => va_P (dC, dI) vwCl (wR 21 ad (EM cs ad) xi) t.heap) (va_A (wR 21 ad (EM cs ad) mu) H.size)) 0 0 (va_A (wR 21 ad (EM cs ad) mu) H.size) := by
  refine Met.ofW (cc := cX12_meet) (maxL := 2) (ret := (some .int)) (by decide) rfl ?_
  intro p e s m args below meth c s₁ B hml hv
  obtain ⟨rfl, hh, hK, hz⟩ := hv
  have hx := B.exec
  have hb := B.bytes
  have hr := B.returns
  have hts := atoms_spec (ws := (wU yX12_meet cX12_meet 2 (some .int))) B.pre
  have hown : s.vm.findClass RX12 = some m.cls := findClass_of_methodNamed B.named
  have hlocks := B.notSynchronized
  subst hh
  have hD := hD0.self (sz := s.heap.size)
  have hA : ∀ q : Nat, s.heap.size ≤ q → (va_A (wR 21 ad (EM cs ad) mu) s.heap.size) q := fun q h => Or.inr h
  have hS : va_S (va_A (wR 21 ad (EM cs ad) mu) s.heap.size) s.heap s.heap [] := va_S.rf
  have hl := lv_entry ([.ref (ad 0), .int vw]) (n := 2) (Nat.le_of_ble_eq_true rfl)
  rw [lg_entry_eq]
  generalize (lg_sl ([.ref (ad 0), .int vw]) ++ List.replicate (2 - (lg_sl ([.ref (ad 0), .int vw])).length) Slot.unset).toArray = ls at hl ⊢
  have hl : lv_has ls 2 [(0, .ref (ad 0)), (1, .int vw)] := hl
  obtain ⟨fz, hfz⟩ : ∃ z, F_sm_meet mu vw = z := ⟨_, rfl⟩
  have hF := hfz
  unfold F_sm_meet at hF
  refine lv_aload_n hx hb dX12_meet_0 rfl (lv_at hl 0 rfl) ?_
  refine lv_iload_n hx hb dX12_meet_1 rfl (lv_at hl 1 rfl) ?_
  refine va_put (D := (dC, dI)) (ci := 12) (v := .int vw) (ty := .int) (C := RX12) (T := TX12) (N := 46) hx hb hts inG12 tyX12 tyX12_ok nmX12 hown hK hP (wR_D mu hD) hS 0 (gM_0 cs ad mu) rfl 0 (by decide) (hts _ (List.mem_cons_of_mem _ mw_5_41)) (fun _ h9 => h9) rfl (by decide +kernel) rfl rfl (Nat.le_of_ble_eq_true rfl) dX12_meet_2 (fun H locs hP _ hS => ?_)
  simp only [List.set_cons_succ, List.set_cons_zero] at hP
  refine wr_gen (upd (mu 0) 0 vw) hP ((hM_0_0 cs ad _ _)) (fun nu1 hn1 hP => ?_)
  have hF := mi_let hF hn1.symm
  have ok := tM_0_0 ok hn1
  have kp2 : (∀ k f : Nat, Nat.testBit 510 (gpM k f) = true → nu1 k f = mu k f) := kp_f hn1 (by decide) (fun _ _ _ => rfl)
  have ez3 : vw = nu1 0 0 := up_v hn1
  refine lv_aload_n hx hb dX12_meet_5 rfl (lv_at hl 0 rfl) ?_
  refine va_get (D := (dC, dI)) (ci := 12) (v := .ref (ad 1)) (C := RX12) (T := TX12) (N := 46) hx hb hts inG12 hown hK hP 0 (gM_0 cs ad nu1) rfl 1 (by decide) (hts _ (List.mem_cons_of_mem _ mw_5_42)) (fun _ h9 => h9) rfl dX12_meet_6 ?_
  refine lv_iload_n hx hb dX12_meet_9 rfl (lv_at hl 1 rfl) ?_
  refine lv_dup2_11 hx hb dX12_meet_10 rfl rfl ?_
  refine va_iald hx hb hK hP 1 0 (gM_1 cs ad nu1) rfl (show vp_in vw 6 from vi_of (by omega) (by omega)) dX12_meet_11 ?_
  refine lv_topi (fun y4 ey4 => ?_)
  have hF := mi_let hF ey4
  have by4 : y4.toInt = (nu1 1 vw.toNatClampNeg).toInt := congrArg Int32.toInt ey4
  refine lv_iconst (v := 1) hx hb dX12_meet_12 (by decide) ?_
  refine lv_iadd hx hb dX12_meet_13 ?_
  refine lv_topi (fun t5 et5 => ?_)
  have hF := mi_let hF et5
  refine va_iast hx hb hK hP (wR_D nu1 hD) hS 1 0 (gM_1 cs ad nu1) rfl (show vp_in vw 6 from vi_of (by omega) (by omega)) dX12_meet_14 (fun H locs hP _ hS => ?_)
  refine wr_gen (upd (nu1 1) vw.toNatClampNeg t5) hP (rfl) (fun nu6 hn6 hP => ?_)
  have hF := mi_let hF hn6.symm
  have ok := tM_1_s ok vw.toNatClampNeg hn6
  have ez7 : vw = nu6 0 0 := ez3.trans (congrFun (up_k hn6 (by decide)) 0).symm
  have kp8 : (∀ k f : Nat, Nat.testBit 510 (gpM k f) = true → nu6 k f = mu k f) := kp_c 0 hn6 (fun _ => rfl) (by decide) kp2
  refine lv_bipush (v := (-3)) hx hb dX12_meet_15 (by decide) ?_
  exact W.iret (v := (-3)) hx hb hr (fun t ht hW => ⟨⟨(-3), nu6, rfl, ⟨hF.trans hfz.symm, ok, (by have h6 : ((-3) : Int32).toInt = -3 := rfl; omega), kp8⟩, by first | (subst ht; exact hP) | (rw [ht]; exact hP) | (show va_P (dC, dI) vwCl (wR 21 ad (EM cs ad) nu6) t.heap; rw [ht]; exact hP)⟩, hS.F ht⟩) hS.2.2 dX12_meet_17
set_option maxHeartbeats 4000000 in
set_option maxRecDepth 100000 in
/-- sm_ask -/
theorem sm_ask (l : Launch) (dC : Nat → ClassId) (dI : Nat → Nat → Nat) (cs : Nat → ClassId) (ad : Nat → Nat) (mu : Nat → Nat → Int32) (ok : okR loM hiM mu) (H : Heap) (hP : va_P (dC, dI) vwCl (wR 21 ad (EM cs ad) mu) H) (hD0 : va_D (fun _ => True) (wR 21 ad (EM cs ad) mu)) (va : Int32) (vb : Int32) : Met l yX12_ask (wU yX12_ask cX12_ask 3 (some .int)) ({ frames := 0, cells := 0, slots := 0, locals := 0 }) (va_Pc [.ref (ad 0), .int va, .int vb] (sz_P (dC, dI) vwCl (tyM cs) H)) (va_Qi (fun (z : Int32) (xi : Nat → Nat → Int32) => (z, xi) = F_sm_ask mu va vb ∧ okR loM hiM xi ∧ (z.toInt = vb.toInt) ∧ (∀ k f : Nat, Nat.testBit 510 (gpM k f) = true → xi k f = mu k f)) (fun xi t => va_P (dC, dI) vwCl (wR 21 ad (EM cs ad) xi) t.heap) (va_A (wR 21 ad (EM cs ad) mu) H.size)) 0 0 (va_A (wR 21 ad (EM cs ad) mu) H.size) := by
  refine Met.ofW (cc := cX12_ask) (maxL := 3) (ret := (some .int)) (by decide) rfl ?_
  intro p e s m args below meth c s₁ B hml hv
  obtain ⟨rfl, hh, hK, hz⟩ := hv
  have hx := B.exec
  have hb := B.bytes
  have hr := B.returns
  have hts := atoms_spec (ws := (wU yX12_ask cX12_ask 3 (some .int))) B.pre
  have hown : s.vm.findClass RX12 = some m.cls := findClass_of_methodNamed B.named
  have hlocks := B.notSynchronized
  subst hh
  have hD := hD0.self (sz := s.heap.size)
  have hA : ∀ q : Nat, s.heap.size ≤ q → (va_A (wR 21 ad (EM cs ad) mu) s.heap.size) q := fun q h => Or.inr h
  have hS : va_S (va_A (wR 21 ad (EM cs ad) mu) s.heap.size) s.heap s.heap [] := va_S.rf
  have hl := lv_entry ([.ref (ad 0), .int va, .int vb]) (n := 3) (Nat.le_of_ble_eq_true rfl)
  rw [lg_entry_eq]
  generalize (lg_sl ([.ref (ad 0), .int va, .int vb]) ++ List.replicate (3 - (lg_sl ([.ref (ad 0), .int va, .int vb])).length) Slot.unset).toArray = ls at hl ⊢
  have hl : lv_has ls 3 [(0, .ref (ad 0)), (1, .int va), (2, .int vb)] := hl
  obtain ⟨fz, hfz⟩ : ∃ z, F_sm_ask mu va vb = z := ⟨_, rfl⟩
  have hF := hfz
  unfold F_sm_ask at hF
  refine lv_aload_n hx hb dX12_ask_0 rfl (lv_at hl 0 rfl) ?_
  refine lv_iload_n hx hb dX12_ask_1 rfl (lv_at hl 1 rfl) ?_
  refine va_put (D := (dC, dI)) (ci := 12) (v := .int va) (ty := .int) (C := RX12) (T := TX12) (N := 46) hx hb hts inG12 tyX12 tyX12_ok nmX12 hown hK hP (wR_D mu hD) hS 0 (gM_0 cs ad mu) rfl 2 (by decide) (hts _ (List.mem_cons_of_mem _ mw_5_43)) (fun _ h9 => h9) rfl (by decide +kernel) rfl rfl (Nat.le_of_ble_eq_true rfl) dX12_ask_2 (fun H locs hP _ hS => ?_)
  simp only [List.set_cons_succ, List.set_cons_zero] at hP
  refine wr_gen (upd (mu 0) 2 va) hP ((hM_0_2 cs ad _ _)) (fun nu1 hn1 hP => ?_)
  have hF := mi_let hF hn1.symm
  have ok := tM_0_2 ok hn1
  have kp2 : (∀ k f : Nat, Nat.testBit 510 (gpM k f) = true → nu1 k f = mu k f) := kp_f hn1 (by decide) (fun _ _ _ => rfl)
  have ez3 : va = nu1 0 2 := up_v hn1
  refine lv_iload_n hx hb dX12_ask_5 rfl (lv_at hl 2 rfl) ?_
  exact W.iret (v := vb) hx hb hr (fun t ht hW => ⟨⟨vb, nu1, rfl, ⟨hF.trans hfz.symm, ok, (by omega), kp2⟩, by first | (subst ht; exact hP) | (rw [ht]; exact hP) | (show va_P (dC, dI) vwCl (wR 21 ad (EM cs ad) nu1) t.heap; rw [ht]; exact hP)⟩, hS.F ht⟩) hS.2.2 dX12_ask_6
set_option maxHeartbeats 4000000 in
set_option maxRecDepth 100000 in
/-- sm_askedRow -/
theorem sm_askedRow (l : Launch) (dC : Nat → ClassId) (dI : Nat → Nat → Nat) (cs : Nat → ClassId) (ad : Nat → Nat) (mu : Nat → Nat → Int32) (ok : okR loM hiM mu) (H : Heap) (hP : va_P (dC, dI) vwCl (wR 21 ad (EM cs ad) mu) H) (hD0 : va_D (fun _ => True) (wR 21 ad (EM cs ad) mu)) (vr : Int32) : Met l yX12_askedRow (wU yX12_askedRow cX12_askedRow 2 (some .int)) ({ frames := 2, cells := 0, slots := 0, locals := 42 }) (va_Pc [.ref (ad 0), .int vr] (sz_P (dC, dI) vwCl (tyM cs) H)) (va_Qi (fun (z : Int32) (xi : Nat → Nat → Int32) => (z, xi) = F_sm_askedRow mu vr ∧ ((z = 0 ∧ xi = mu ∧ (0 ≤ vr.toInt ∧ vr.toInt ≤ 5 ∧ 0 ≤ (mu 2 vr.toNatClampNeg).toInt)) ∨ (z.toInt < 0 ∧ okR loM hiM xi ∧ (∀ k f : Nat, Nat.testBit 510 (gpM k f) = true → xi k f = mu k f)))) (fun xi t => va_P (dC, dI) vwCl (wR 21 ad (EM cs ad) xi) t.heap) (va_A (wR 21 ad (EM cs ad) mu) H.size)) 0 0 (va_A (wR 21 ad (EM cs ad) mu) H.size) := by
  refine Met.ofW (cc := cX12_askedRow) (maxL := 2) (ret := (some .int)) (by decide) rfl ?_
  intro p e s m args below meth c s₁ B hml hv
  obtain ⟨rfl, hh, hK, hz⟩ := hv
  have hx := B.exec
  have hb := B.bytes
  have hr := B.returns
  have hts := atoms_spec (ws := (wU yX12_askedRow cX12_askedRow 2 (some .int))) B.pre
  have hown : s.vm.findClass RX12 = some m.cls := findClass_of_methodNamed B.named
  have hlocks := B.notSynchronized
  subst hh
  have hD := hD0.self (sz := s.heap.size)
  have hA : ∀ q : Nat, s.heap.size ≤ q → (va_A (wR 21 ad (EM cs ad) mu) s.heap.size) q := fun q h => Or.inr h
  have hS : va_S (va_A (wR 21 ad (EM cs ad) mu) s.heap.size) s.heap s.heap [] := va_S.rf
  have hl := lv_entry ([.ref (ad 0), .int vr]) (n := 2) (Nat.le_of_ble_eq_true rfl)
  rw [lg_entry_eq]
  generalize (lg_sl ([.ref (ad 0), .int vr]) ++ List.replicate (2 - (lg_sl ([.ref (ad 0), .int vr])).length) Slot.unset).toArray = ls at hl ⊢
  have hl : lv_has ls 2 [(0, .ref (ad 0)), (1, .int vr)] := hl
  obtain ⟨fz, hfz⟩ : ∃ z, F_sm_askedRow mu vr = z := ⟨_, rfl⟩
  have hF := hfz
  unfold F_sm_askedRow at hF
  refine lv_iload_n hx hb dX12_askedRow_0 rfl (lv_at hl 1 rfl) ?_
  refine cr_i (va_runS (As := [.int vr]) (rest := []) ⟨hx, hb, hml, hown, hts⟩ (sm_isRow l dC dI (tyM cs) s.heap vr) (va_cwS 1 hts (wU_S mw_5_186 mw_5_184 mw_5_185 mw_1_13) rfl rfl rfl (by decide +kernel) ⟨Nat.le_of_ble_eq_true rfl, Nat.le_of_ble_eq_true rfl⟩) ⟨sz_c, sz_m hK hz⟩ rfl rfl hl.1 rfl (lv_room (Nat.le_of_ble_eq_true rfl)) dX12_askedRow_1 ⟨Nat.zero_le _, Nat.zero_le _⟩) hS (fun r1 hw1 locs hS => ?_)
  obtain ⟨hfe1, hw1⟩ := hw1
  rcases hw1 with ⟨rfl, f1⟩ | ⟨rfl, f1⟩
  · have hF := (if_pos hfe1.symm).symm.trans hF
    have f1 : 0 ≤ vr.toInt ∧ vr.toInt ≤ 5 := f1
    refine lv_if_ne (tgt := 11) hx hb dX12_askedRow_4 (by decide) (fun _ => ?_) (fun c => absurd c (by decide))
    refine lv_aload_n hx hb dX12_askedRow_11 rfl (lv_at hl 0 rfl) ?_
    refine va_get (D := (dC, dI)) (ci := 12) (v := .ref (ad 2)) (C := RX12) (T := TX12) (N := 46) hx hb hts inG12 hown hK hP 0 (gM_0 cs ad mu) rfl 3 (by decide) (hts _ (List.mem_cons_of_mem _ mw_5_44)) (fun _ h9 => h9) rfl dX12_askedRow_12 ?_
    refine lv_iload_n hx hb dX12_askedRow_15 rfl (lv_at hl 1 rfl) ?_
    refine va_iald hx hb hK hP 2 0 (gM_2 cs ad mu) rfl (show vp_in vr 6 from vi_of (by omega) (by omega)) dX12_askedRow_16 ?_
    refine lv_topi (fun y2 ey2 => ?_)
    have hF := mi_let hF ey2
    have by2 : y2.toInt = (mu 2 vr.toNatClampNeg).toInt := congrArg Int32.toInt ey2
    have gy2 : -9 ≤ y2.toInt ∧ y2.toInt ≤ 40 := by rw [ey2]; exact rM_2_s ok vr.toNatClampNeg
    refine lv_if_ge (tgt := 28) hx hb dX12_askedRow_17 (by decide) (fun c_3 => ?_) (fun c_3 => ?_)
    · have hF := (if_pos c_3).symm.trans hF
      have c_3 : 0 ≤ y2.toInt := il_le c_3
      refine lv_iconst (v := 0) hx hb dX12_askedRow_28 (by decide) ?_
      exact W.iret (v := 0) hx hb hr (fun t ht hW => ⟨⟨0, mu, rfl, ⟨hF.trans hfz.symm, Or.inl ⟨rfl, rfl, (by have hb4 := congrArg Int32.toInt ey2; omega)⟩⟩, by first | (subst ht; exact hP) | (rw [ht]; exact hP) | (show va_P (dC, dI) vwCl (wR 21 ad (EM cs ad) mu) t.heap; rw [ht]; exact hP)⟩, hS.F ht⟩) hS.2.2 dX12_askedRow_29
    · have hF := (if_neg c_3).symm.trans hF
      have c_3 : y2.toInt < 0 := il_nle c_3
      refine lv_aload_n hx hb dX12_askedRow_20 rfl (lv_at hl 0 rfl) ?_
      refine lv_iconst (v := 1) hx hb dX12_askedRow_21 (by decide) ?_
      have hFc := fr_all (wR_D mu hD) hS hA
      refine va_calli (va_runV (As := [.int 1]) (rest := []) ⟨hx, hb, hml, hown, hts⟩ (sm_meet l dC dI cs ad mu ok s.heap hP ((wR_D mu hD).weaken (fun _ _ _ _ => trivial)) 1 (by have h50 : (1 : Int32).toInt = 1 := rfl; omega)) (cwV 1 hts (wU_V mw_5_193 mw_5_190 mw_5_192 mw_0_26 mw_1_13) rfl rfl rfl (by decide +kernel) ⟨Nat.le_of_ble_eq_true rfl, Nat.le_of_ble_eq_true rfl⟩) ⟨sz_c, va_recv hK hP (ci := 12) (q0 := 0) rfl (gM_0 cs ad mu), sz_m hK hz⟩ rfl rfl hl.1 rfl (lv_room (Nat.le_of_ble_eq_true rfl)) dX12_askedRow_22 ⟨Nat.zero_le _, Nat.zero_le _⟩) hS (fun q _ h => hFc q h) hFc (fun r5 xi5 t H5 locs ht hvm hw5 hB hz1 hk1 hS => ?_)
      have hP : va_P (dC, dI) vwCl (wR 21 ad (EM cs ad) xi5) H5 := by rw [← ht]; exact hB
      obtain ⟨hfe5, ok, hw5, hkp5_0⟩ := hw5
      have hF := mi_letp hF hfe5
      have kp6 : (∀ k f : Nat, Nat.testBit 510 (gpM k f) = true → xi5 k f = mu k f) := kp_t hkp5_0 (by decide) (fun _ _ _ => rfl)
      have gr5 : -3 ≤ r5.toInt ∧ r5.toInt ≤ -3 := hw5
      refine lv_goto (tgt := 29) hx hb dX12_askedRow_25 (by decide) ?_
      exact W.iret (v := r5) hx hb hr (fun t ht hW => ⟨⟨r5, xi5, rfl, ⟨hF.trans hfz.symm, Or.inr ⟨by omega, ok, kp6⟩⟩, by first | (subst ht; exact hP) | (rw [ht]; exact hP) | (show va_P (dC, dI) vwCl (wR 21 ad (EM cs ad) xi5) t.heap; rw [ht]; exact hP)⟩, hS.F ht⟩) hS.2.2 dX12_askedRow_29
  · have hF := (if_neg (fun h => absurd (hfe1.trans h) (by decide))).symm.trans hF
    have f1 : vr.toInt < 0 ∨ 5 < vr.toInt := f1
    refine lv_if_ne (tgt := 11) hx hb dX12_askedRow_4 (by decide) (fun c => absurd (by decide) c) (fun _ => ?_)
    refine lv_iconst (v := (-1)) hx hb dX12_askedRow_7 (by decide) ?_
    refine lv_goto (tgt := 29) hx hb dX12_askedRow_8 (by decide) ?_
    exact W.iret (v := (-1)) hx hb hr (fun t ht hW => ⟨⟨(-1), mu, rfl, ⟨hF.trans hfz.symm, Or.inr ⟨by decide, ok, (fun _ _ _ => rfl)⟩⟩, by first | (subst ht; exact hP) | (rw [ht]; exact hP) | (show va_P (dC, dI) vwCl (wR 21 ad (EM cs ad) mu) t.heap; rw [ht]; exact hP)⟩, hS.F ht⟩) hS.2.2 dX12_askedRow_29
set_option maxHeartbeats 4000000 in
set_option maxRecDepth 100000 in
/-- sm_askedText -/
theorem sm_askedText (l : Launch) (dC : Nat → ClassId) (dI : Nat → Nat → Nat) (cs : Nat → ClassId) (ad : Nat → Nat) (mu : Nat → Nat → Int32) (ok : okR loM hiM mu) (H : Heap) (hP : va_P (dC, dI) vwCl (wR 21 ad (EM cs ad) mu) H) (hD0 : va_D (fun _ => True) (wR 21 ad (EM cs ad) mu)) (vt : Int32) : Met l yX12_askedText (wU yX12_askedText cX12_askedText 2 (some .int)) ({ frames := 2, cells := 0, slots := 0, locals := 42 }) (va_Pc [.ref (ad 0), .int vt] (sz_P (dC, dI) vwCl (tyM cs) H)) (va_Qi (fun (z : Int32) (xi : Nat → Nat → Int32) => (z, xi) = F_sm_askedText mu vt ∧ ((z = 0 ∧ xi = mu ∧ (0 ≤ vt.toInt ∧ vt.toInt ≤ 3 ∧ 0 ≤ (mu 5 vt.toNatClampNeg).toInt)) ∨ (z.toInt < 0 ∧ okR loM hiM xi ∧ (∀ k f : Nat, Nat.testBit 510 (gpM k f) = true → xi k f = mu k f)))) (fun xi t => va_P (dC, dI) vwCl (wR 21 ad (EM cs ad) xi) t.heap) (va_A (wR 21 ad (EM cs ad) mu) H.size)) 0 0 (va_A (wR 21 ad (EM cs ad) mu) H.size) := by
  refine Met.ofW (cc := cX12_askedText) (maxL := 2) (ret := (some .int)) (by decide) rfl ?_
  intro p e s m args below meth c s₁ B hml hv
  obtain ⟨rfl, hh, hK, hz⟩ := hv
  have hx := B.exec
  have hb := B.bytes
  have hr := B.returns
  have hts := atoms_spec (ws := (wU yX12_askedText cX12_askedText 2 (some .int))) B.pre
  have hown : s.vm.findClass RX12 = some m.cls := findClass_of_methodNamed B.named
  have hlocks := B.notSynchronized
  subst hh
  have hD := hD0.self (sz := s.heap.size)
  have hA : ∀ q : Nat, s.heap.size ≤ q → (va_A (wR 21 ad (EM cs ad) mu) s.heap.size) q := fun q h => Or.inr h
  have hS : va_S (va_A (wR 21 ad (EM cs ad) mu) s.heap.size) s.heap s.heap [] := va_S.rf
  have hl := lv_entry ([.ref (ad 0), .int vt]) (n := 2) (Nat.le_of_ble_eq_true rfl)
  rw [lg_entry_eq]
  generalize (lg_sl ([.ref (ad 0), .int vt]) ++ List.replicate (2 - (lg_sl ([.ref (ad 0), .int vt])).length) Slot.unset).toArray = ls at hl ⊢
  have hl : lv_has ls 2 [(0, .ref (ad 0)), (1, .int vt)] := hl
  obtain ⟨fz, hfz⟩ : ∃ z, F_sm_askedText mu vt = z := ⟨_, rfl⟩
  have hF := hfz
  unfold F_sm_askedText at hF
  refine lv_iload_n hx hb dX12_askedText_0 rfl (lv_at hl 1 rfl) ?_
  refine cr_i (va_runS (As := [.int vt]) (rest := []) ⟨hx, hb, hml, hown, hts⟩ (sm_isText l dC dI (tyM cs) s.heap vt) (va_cwS 1 hts (wU_S mw_5_237 mw_5_235 mw_5_236 mw_1_13) rfl rfl rfl (by decide +kernel) ⟨Nat.le_of_ble_eq_true rfl, Nat.le_of_ble_eq_true rfl⟩) ⟨sz_c, sz_m hK hz⟩ rfl rfl hl.1 rfl (lv_room (Nat.le_of_ble_eq_true rfl)) dX12_askedText_1 ⟨Nat.zero_le _, Nat.zero_le _⟩) hS (fun r1 hw1 locs hS => ?_)
  obtain ⟨hfe1, hw1⟩ := hw1
  rcases hw1 with ⟨rfl, f1⟩ | ⟨rfl, f1⟩
  · have hF := (if_pos hfe1.symm).symm.trans hF
    have f1 : 0 ≤ vt.toInt ∧ vt.toInt ≤ 3 := f1
    refine lv_if_ne (tgt := 11) hx hb dX12_askedText_4 (by decide) (fun _ => ?_) (fun c => absurd c (by decide))
    refine lv_aload_n hx hb dX12_askedText_11 rfl (lv_at hl 0 rfl) ?_
    refine va_get (D := (dC, dI)) (ci := 12) (v := .ref (ad 5)) (C := RX12) (T := TX12) (N := 46) hx hb hts inG12 hown hK hP 0 (gM_0 cs ad mu) rfl 6 (by decide) (hts _ (List.mem_cons_of_mem _ mw_5_47)) (fun _ h9 => h9) rfl dX12_askedText_12 ?_
    refine lv_iload_n hx hb dX12_askedText_15 rfl (lv_at hl 1 rfl) ?_
    refine va_iald hx hb hK hP 5 0 (gM_5 cs ad mu) rfl (show vp_in vt 4 from vi_of (by omega) (by omega)) dX12_askedText_16 ?_
    refine lv_topi (fun y2 ey2 => ?_)
    have hF := mi_let hF ey2
    have by2 : y2.toInt = (mu 5 vt.toNatClampNeg).toInt := congrArg Int32.toInt ey2
    have gy2 : -9 ≤ y2.toInt ∧ y2.toInt ≤ 80 := by rw [ey2]; exact rM_5_s ok vt.toNatClampNeg
    refine lv_if_ge (tgt := 28) hx hb dX12_askedText_17 (by decide) (fun c_3 => ?_) (fun c_3 => ?_)
    · have hF := (if_pos c_3).symm.trans hF
      have c_3 : 0 ≤ y2.toInt := il_le c_3
      refine lv_iconst (v := 0) hx hb dX12_askedText_28 (by decide) ?_
      exact W.iret (v := 0) hx hb hr (fun t ht hW => ⟨⟨0, mu, rfl, ⟨hF.trans hfz.symm, Or.inl ⟨rfl, rfl, (by have hb4 := congrArg Int32.toInt ey2; omega)⟩⟩, by first | (subst ht; exact hP) | (rw [ht]; exact hP) | (show va_P (dC, dI) vwCl (wR 21 ad (EM cs ad) mu) t.heap; rw [ht]; exact hP)⟩, hS.F ht⟩) hS.2.2 dX12_askedText_29
    · have hF := (if_neg c_3).symm.trans hF
      have c_3 : y2.toInt < 0 := il_nle c_3
      refine lv_aload_n hx hb dX12_askedText_20 rfl (lv_at hl 0 rfl) ?_
      refine lv_iconst (v := 1) hx hb dX12_askedText_21 (by decide) ?_
      have hFc := fr_all (wR_D mu hD) hS hA
      refine va_calli (va_runV (As := [.int 1]) (rest := []) ⟨hx, hb, hml, hown, hts⟩ (sm_meet l dC dI cs ad mu ok s.heap hP ((wR_D mu hD).weaken (fun _ _ _ _ => trivial)) 1 (by have h50 : (1 : Int32).toInt = 1 := rfl; omega)) (cwV 1 hts (wU_V mw_5_193 mw_5_190 mw_5_192 mw_0_26 mw_1_13) rfl rfl rfl (by decide +kernel) ⟨Nat.le_of_ble_eq_true rfl, Nat.le_of_ble_eq_true rfl⟩) ⟨sz_c, va_recv hK hP (ci := 12) (q0 := 0) rfl (gM_0 cs ad mu), sz_m hK hz⟩ rfl rfl hl.1 rfl (lv_room (Nat.le_of_ble_eq_true rfl)) dX12_askedText_22 ⟨Nat.zero_le _, Nat.zero_le _⟩) hS (fun q _ h => hFc q h) hFc (fun r5 xi5 t H5 locs ht hvm hw5 hB hz1 hk1 hS => ?_)
      have hP : va_P (dC, dI) vwCl (wR 21 ad (EM cs ad) xi5) H5 := by rw [← ht]; exact hB
      obtain ⟨hfe5, ok, hw5, hkp5_0⟩ := hw5
      have hF := mi_letp hF hfe5
      have kp6 : (∀ k f : Nat, Nat.testBit 510 (gpM k f) = true → xi5 k f = mu k f) := kp_t hkp5_0 (by decide) (fun _ _ _ => rfl)
      have gr5 : -3 ≤ r5.toInt ∧ r5.toInt ≤ -3 := hw5
      refine lv_goto (tgt := 29) hx hb dX12_askedText_25 (by decide) ?_
      exact W.iret (v := r5) hx hb hr (fun t ht hW => ⟨⟨r5, xi5, rfl, ⟨hF.trans hfz.symm, Or.inr ⟨by omega, ok, kp6⟩⟩, by first | (subst ht; exact hP) | (rw [ht]; exact hP) | (show va_P (dC, dI) vwCl (wR 21 ad (EM cs ad) xi5) t.heap; rw [ht]; exact hP)⟩, hS.F ht⟩) hS.2.2 dX12_askedText_29
  · have hF := (if_neg (fun h => absurd (hfe1.trans h) (by decide))).symm.trans hF
    have f1 : vt.toInt < 0 ∨ 3 < vt.toInt := f1
    refine lv_if_ne (tgt := 11) hx hb dX12_askedText_4 (by decide) (fun c => absurd (by decide) c) (fun _ => ?_)
    refine lv_iconst (v := (-1)) hx hb dX12_askedText_7 (by decide) ?_
    refine lv_goto (tgt := 29) hx hb dX12_askedText_8 (by decide) ?_
    exact W.iret (v := (-1)) hx hb hr (fun t ht hW => ⟨⟨(-1), mu, rfl, ⟨hF.trans hfz.symm, Or.inr ⟨by decide, ok, (fun _ _ _ => rfl)⟩⟩, by first | (subst ht; exact hP) | (rw [ht]; exact hP) | (show va_P (dC, dI) vwCl (wR 21 ad (EM cs ad) mu) t.heap; rw [ht]; exact hP)⟩, hS.F ht⟩) hS.2.2 dX12_askedText_29
set_option maxHeartbeats 4000000 in
set_option maxRecDepth 100000 in
/-- sm_rowAt -/
theorem sm_rowAt (l : Launch) (dC : Nat → ClassId) (dI : Nat → Nat → Nat) (cs : Nat → ClassId) (ad : Nat → Nat) (mu : Nat → Nat → Int32) (ok : okR loM hiM mu) (H : Heap) (hP : va_P (dC, dI) vwCl (wR 21 ad (EM cs ad) mu) H) (vr : Int32) (vi : Int32) (hin0 : 0 ≤ vr.toInt ∧ vr.toInt ≤ 5 ∧ 0 ≤ vi.toInt ∧ vi.toInt ≤ 39) : Met l yX12_rowAt (wU yX12_rowAt cX12_rowAt 3 (some .int)) ({ frames := 0, cells := 0, slots := 0, locals := 0 }) (va_Pc [.ref (ad 0), .int vr, .int vi] (sz_P (dC, dI) vwCl (tyM cs) H)) (va_Qi (fun (z : Int32) (_ : Unit) => True) (fun _ t => t.heap = H) (fun _ => False)) 0 0 (fun _ => False) := by
  refine Met.ofW (cc := cX12_rowAt) (maxL := 3) (ret := (some .int)) (by decide) rfl ?_
  intro p e s m args below meth c s₁ B hml hv
  obtain ⟨rfl, hh, hK, hz⟩ := hv
  have hx := B.exec
  have hb := B.bytes
  have hr := B.returns
  have hts := atoms_spec (ws := (wU yX12_rowAt cX12_rowAt 3 (some .int))) B.pre
  have hown : s.vm.findClass RX12 = some m.cls := findClass_of_methodNamed B.named
  have hlocks := B.notSynchronized
  subst hh
  have hS : va_S (fun _ => False) s.heap s.heap [] := va_S.rf
  have hl := lv_entry ([.ref (ad 0), .int vr, .int vi]) (n := 3) (Nat.le_of_ble_eq_true rfl)
  rw [lg_entry_eq]
  generalize (lg_sl ([.ref (ad 0), .int vr, .int vi]) ++ List.replicate (3 - (lg_sl ([.ref (ad 0), .int vr, .int vi])).length) Slot.unset).toArray = ls at hl ⊢
  have hl : lv_has ls 3 [(0, .ref (ad 0)), (1, .int vr), (2, .int vi)] := hl
  refine lv_aload_n hx hb dX12_rowAt_0 rfl (lv_at hl 0 rfl) ?_
  refine va_get (D := (dC, dI)) (ci := 12) (v := .ref (ad 3)) (C := RX12) (T := TX12) (N := 46) hx hb hts inG12 hown hK hP 0 (gM_0 cs ad mu) rfl 4 (by decide) (hts _ (List.mem_cons_of_mem _ mw_5_45)) (fun _ h9 => h9) rfl dX12_rowAt_1 ?_
  refine lv_bipush (v := 40) hx hb dX12_rowAt_4 (by decide) ?_
  refine lv_iload_n hx hb dX12_rowAt_6 rfl (lv_at hl 1 rfl) ?_
  refine lv_imul hx hb dX12_rowAt_7 ?_
  refine lv_topi (fun t1 et1 => ?_)
  have at1 : t1.toInt = 40 * vr.toInt := by rw [et1]; exact tI_mul (rfl : (40 : Int32).toInt = 40) (rfl : vr.toInt = _) (by omega) (by omega)
  refine lv_iload_n hx hb dX12_rowAt_8 rfl (lv_at hl 2 rfl) ?_
  refine lv_iadd hx hb dX12_rowAt_9 ?_
  refine lv_topi (fun t2 et2 => ?_)
  have at2 : t2.toInt = t1.toInt + vi.toInt := by rw [et2]; exact tI_add (rfl : t1.toInt = _) (rfl : vi.toInt = _) (by omega) (by omega)
  refine va_iald hx hb hK hP 3 0 (gM_3 cs ad mu) rfl (show vp_in t2 240 from vi_of (by omega) (by omega)) dX12_rowAt_10 ?_
  refine lv_topi (fun y3 ey3 => ?_)
  have by3 : y3.toInt = (mu 3 t2.toNatClampNeg).toInt := congrArg Int32.toInt ey3
  exact W.iret (v := y3) hx hb hr (fun t ht hW => ⟨⟨y3, (), rfl, trivial, ht⟩, hS.F ht⟩) hS.2.2 dX12_rowAt_11
set_option maxHeartbeats 4000000 in
set_option maxRecDepth 100000 in
/-- sm_setRow -/
theorem sm_setRow (l : Launch) (dC : Nat → ClassId) (dI : Nat → Nat → Nat) (cs : Nat → ClassId) (ad : Nat → Nat) (mu : Nat → Nat → Int32) (ok : okR loM hiM mu) (H : Heap) (hP : va_P (dC, dI) vwCl (wR 21 ad (EM cs ad) mu) H) (hD0 : va_D (fun _ => True) (wR 21 ad (EM cs ad) mu)) (vr : Int32) (vi : Int32) (vv : Int32) (hin0 : 0 ≤ vr.toInt ∧ vr.toInt ≤ 5 ∧ 0 ≤ vi.toInt ∧ vi.toInt ≤ 39) : Met l yX12_setRow (wU yX12_setRow cX12_setRow 4 none) ({ frames := 0, cells := 0, slots := 0, locals := 0 }) (va_Pc [.ref (ad 0), .int vr, .int vi, .int vv] (sz_P (dC, dI) vwCl (tyM cs) H)) (va_Qv (fun (xi : Nat → Nat → Int32) => okR loM hiM xi ∧ (True) ∧ (∀ k f : Nat, Nat.testBit 510 (gpM k f) = true → xi k f = mu k f)) (fun xi t => va_P (dC, dI) vwCl (wR 21 ad (EM cs ad) xi) t.heap) (va_A (wR 21 ad (EM cs ad) mu) H.size)) 0 0 (va_A (wR 21 ad (EM cs ad) mu) H.size) := by
  refine Met.ofW (cc := cX12_setRow) (maxL := 4) (ret := none) (by decide) rfl ?_
  intro p e s m args below meth c s₁ B hml hv
  obtain ⟨rfl, hh, hK, hz⟩ := hv
  have hx := B.exec
  have hb := B.bytes
  have hr := B.returns
  have hts := atoms_spec (ws := (wU yX12_setRow cX12_setRow 4 none)) B.pre
  have hown : s.vm.findClass RX12 = some m.cls := findClass_of_methodNamed B.named
  have hlocks := B.notSynchronized
  subst hh
  have hD := hD0.self (sz := s.heap.size)
  have hA : ∀ q : Nat, s.heap.size ≤ q → (va_A (wR 21 ad (EM cs ad) mu) s.heap.size) q := fun q h => Or.inr h
  have hS : va_S (va_A (wR 21 ad (EM cs ad) mu) s.heap.size) s.heap s.heap [] := va_S.rf
  have hl := lv_entry ([.ref (ad 0), .int vr, .int vi, .int vv]) (n := 4) (Nat.le_of_ble_eq_true rfl)
  rw [lg_entry_eq]
  generalize (lg_sl ([.ref (ad 0), .int vr, .int vi, .int vv]) ++ List.replicate (4 - (lg_sl ([.ref (ad 0), .int vr, .int vi, .int vv])).length) Slot.unset).toArray = ls at hl ⊢
  have hl : lv_has ls 4 [(0, .ref (ad 0)), (1, .int vr), (2, .int vi), (3, .int vv)] := hl
  refine lv_aload_n hx hb dX12_setRow_0 rfl (lv_at hl 0 rfl) ?_
  refine va_get (D := (dC, dI)) (ci := 12) (v := .ref (ad 3)) (C := RX12) (T := TX12) (N := 46) hx hb hts inG12 hown hK hP 0 (gM_0 cs ad mu) rfl 4 (by decide) (hts _ (List.mem_cons_of_mem _ mw_5_45)) (fun _ h9 => h9) rfl dX12_setRow_1 ?_
  refine lv_bipush (v := 40) hx hb dX12_setRow_4 (by decide) ?_
  refine lv_iload_n hx hb dX12_setRow_6 rfl (lv_at hl 1 rfl) ?_
  refine lv_imul hx hb dX12_setRow_7 ?_
  refine lv_topi (fun t1 et1 => ?_)
  have at1 : t1.toInt = 40 * vr.toInt := by rw [et1]; exact tI_mul (rfl : (40 : Int32).toInt = 40) (rfl : vr.toInt = _) (by omega) (by omega)
  refine lv_iload_n hx hb dX12_setRow_8 rfl (lv_at hl 2 rfl) ?_
  refine lv_iadd hx hb dX12_setRow_9 ?_
  refine lv_topi (fun t2 et2 => ?_)
  have at2 : t2.toInt = t1.toInt + vi.toInt := by rw [et2]; exact tI_add (rfl : t1.toInt = _) (rfl : vi.toInt = _) (by omega) (by omega)
  refine lv_iload_n hx hb dX12_setRow_10 rfl (lv_at hl 3 rfl) ?_
  refine va_iast hx hb hK hP (wR_D mu hD) hS 3 0 (gM_3 cs ad mu) rfl (show vp_in t2 240 from vi_of (by omega) (by omega)) dX12_setRow_11 (fun H locs hP _ hS => ?_)
  refine wr_gen (upd (mu 3) t2.toNatClampNeg vv) hP (rfl) (fun nu3 hn3 hP => ?_)
  have ok := tM_3_s ok t2.toNatClampNeg hn3
  have kp4 : (∀ k f : Nat, Nat.testBit 510 (gpM k f) = true → nu3 k f = mu k f) := kp_c 0 hn3 (fun _ => rfl) (by decide) (fun _ _ _ => rfl)
  exact W.vret hx hb hr (fun t ht hW => ⟨⟨nu3, rfl, ⟨ok, trivial, kp4⟩, by first | (subst ht; exact hP) | (rw [ht]; exact hP) | (show va_P (dC, dI) vwCl (wR 21 ad (EM cs ad) nu3) t.heap; rw [ht]; exact hP)⟩, hS.F ht⟩) hS.2.2 dX12_setRow_12
