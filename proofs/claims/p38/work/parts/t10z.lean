set_option maxHeartbeats 4000000 in
set_option maxRecDepth 100000 in
/-- sm_in -/
theorem sm_in (l : Launch) (dC : Nat → ClassId) (dI : Nat → Nat → Nat) (tys : List (ClassId × FieldType)) (H : Heap) (va : Int32) (vb : Int32) (vc : Int32) : Met l yX12_in (wU yX12_in cX12_in 3 (some .boolean)) ({ frames := 0, cells := 0, slots := 0, locals := 0 }) (va_Pc [.int va, .int vb, .int vc] (sz_P (dC, dI) vwCl tys H)) (va_Qi (fun (z : Int32) (_ : Unit) => z = F_sm_in va vb vc ∧ ((z = 1 ∧ (vb.toInt ≤ va.toInt ∧ va.toInt ≤ vc.toInt)) ∨ (z = 0 ∧ (va.toInt < vb.toInt ∨ vc.toInt < va.toInt)))) (fun _ t => t.heap = H) (fun _ => False)) 0 0 (fun _ => False) := by
  refine Met.ofW (cc := cX12_in) (maxL := 3) (ret := (some .boolean)) (by decide) rfl ?_
  intro p e s m args below meth c s₁ B hml hv
  obtain ⟨rfl, hh, hK, hz⟩ := hv
  have hx := B.exec
  have hb := B.bytes
  have hr := B.returns
  have hts := atoms_spec (ws := (wU yX12_in cX12_in 3 (some .boolean))) B.pre
  have hown : s.vm.findClass RX12 = some m.cls := findClass_of_methodNamed B.named
  have hlocks := B.notSynchronized
  subst hh
  have hS : va_S (fun _ => False) s.heap s.heap [] := va_S.rf
  have hl := lv_entry ([.int va, .int vb, .int vc]) (n := 3) (Nat.le_of_ble_eq_true rfl)
  rw [lg_entry_eq]
  generalize (lg_sl ([.int va, .int vb, .int vc]) ++ List.replicate (3 - (lg_sl ([.int va, .int vb, .int vc])).length) Slot.unset).toArray = ls at hl ⊢
  have hl : lv_has ls 3 [(0, .int va), (1, .int vb), (2, .int vc)] := hl
  obtain ⟨fz, hfz⟩ : ∃ z, F_sm_in va vb vc = z := ⟨_, rfl⟩
  have hF := hfz
  unfold F_sm_in at hF
  refine lv_iload_n hx hb dX12_in_0 rfl (lv_at hl 0 rfl) ?_
  refine lv_iload_n hx hb dX12_in_1 rfl (lv_at hl 1 rfl) ?_
  refine lv_icmp_lt (tgt := 14) hx hb dX12_in_2 (by decide) (fun c_1 => ?_) (fun c_1 => ?_)
  · have hF := (if_pos c_1).symm.trans hF
    have c_1 : va.toInt < vb.toInt := il_lt c_1
    refine lv_iconst (v := 0) hx hb dX12_in_14 (by decide) ?_
    exact W.zret (v := 0) (ty := .boolean) hx hb hr (by first | rfl | decide) (fun t ht hW => ⟨⟨0, (), rfl, ⟨hF.trans hfz.symm, (Or.inr ⟨rfl, by omega⟩)⟩, ht⟩, hS.F ht⟩) hS.2.2 dX12_in_15
  · have hF := (if_neg c_1).symm.trans hF
    have c_1 : vb.toInt ≤ va.toInt := il_nlt c_1
    refine lv_iload_n hx hb dX12_in_5 rfl (lv_at hl 0 rfl) ?_
    refine lv_iload_n hx hb dX12_in_6 rfl (lv_at hl 2 rfl) ?_
    refine lv_icmp_gt (tgt := 14) hx hb dX12_in_7 (by decide) (fun c_2 => ?_) (fun c_2 => ?_)
    · have hF := (if_pos c_2).symm.trans hF
      have c_2 : vc.toInt < va.toInt := il_lt c_2
      refine lv_iconst (v := 0) hx hb dX12_in_14 (by decide) ?_
      exact W.zret (v := 0) (ty := .boolean) hx hb hr (by first | rfl | decide) (fun t ht hW => ⟨⟨0, (), rfl, ⟨hF.trans hfz.symm, (Or.inr ⟨rfl, by omega⟩)⟩, ht⟩, hS.F ht⟩) hS.2.2 dX12_in_15
    · have hF := (if_neg c_2).symm.trans hF
      have c_2 : va.toInt ≤ vc.toInt := il_nlt c_2
      refine lv_iconst (v := 1) hx hb dX12_in_10 (by decide) ?_
      refine lv_goto (tgt := 15) hx hb dX12_in_11 (by decide) ?_
      exact W.zret (v := 1) (ty := .boolean) hx hb hr (by first | rfl | decide) (fun t ht hW => ⟨⟨1, (), rfl, ⟨hF.trans hfz.symm, (Or.inl ⟨rfl, by omega⟩)⟩, ht⟩, hS.F ht⟩) hS.2.2 dX12_in_15
set_option maxHeartbeats 4000000 in
set_option maxRecDepth 100000 in
/-- sm_has -/
theorem sm_has (l : Launch) (dC : Nat → ClassId) (dI : Nat → Nat → Nat) (tys : List (ClassId × FieldType)) (H : Heap) (va : Int32) (vb : Int32) : Met l yX12_has (wU yX12_has cX12_has 2 (some .boolean)) ({ frames := 0, cells := 0, slots := 0, locals := 0 }) (va_Pc [.int va, .int vb] (sz_P (dC, dI) vwCl tys H)) (va_Qi (fun (z : Int32) (_ : Unit) => z = F_sm_has va vb ∧ ((z = 1 ∧ (rb va vb = 1)) ∨ (z = 0 ∧ (¬ rb va vb = 1)))) (fun _ t => t.heap = H) (fun _ => False)) 0 0 (fun _ => False) := by
  refine Met.ofW (cc := cX12_has) (maxL := 2) (ret := (some .boolean)) (by decide) rfl ?_
  intro p e s m args below meth c s₁ B hml hv
  obtain ⟨rfl, hh, hK, hz⟩ := hv
  have hx := B.exec
  have hb := B.bytes
  have hr := B.returns
  have hts := atoms_spec (ws := (wU yX12_has cX12_has 2 (some .boolean))) B.pre
  have hown : s.vm.findClass RX12 = some m.cls := findClass_of_methodNamed B.named
  have hlocks := B.notSynchronized
  subst hh
  have hS : va_S (fun _ => False) s.heap s.heap [] := va_S.rf
  have hl := lv_entry ([.int va, .int vb]) (n := 2) (Nat.le_of_ble_eq_true rfl)
  rw [lg_entry_eq]
  generalize (lg_sl ([.int va, .int vb]) ++ List.replicate (2 - (lg_sl ([.int va, .int vb])).length) Slot.unset).toArray = ls at hl ⊢
  have hl : lv_has ls 2 [(0, .int va), (1, .int vb)] := hl
  obtain ⟨fz, hfz⟩ : ∃ z, F_sm_has va vb = z := ⟨_, rfl⟩
  have hF := hfz
  unfold F_sm_has at hF
  refine lv_iload_n hx hb dX12_has_0 rfl (lv_at hl 0 rfl) ?_
  refine lv_iload_n hx hb dX12_has_1 rfl (lv_at hl 1 rfl) ?_
  refine lv_ishr hx hb dX12_has_2 ?_
  refine lv_topi (fun t1 et1 => ?_)
  have hF := mi_let hF et1
  refine lv_iconst (v := 1) hx hb dX12_has_3 (by decide) ?_
  refine lv_iand hx hb dX12_has_4 ?_
  refine lv_topi (fun t2 et2 => ?_)
  have hF := mi_let hF et2
  refine lv_iconst (v := 1) hx hb dX12_has_5 (by decide) ?_
  refine lv_icmp_ne (tgt := 13) hx hb dX12_has_6 (by decide) (fun c_3 => ?_) (fun c_3 => ?_)
  · have hF := (if_neg c_3).symm.trans hF
    have c_3 : ¬ t2.toInt = 1 := il_ne c_3
    refine lv_iconst (v := 0) hx hb dX12_has_13 (by decide) ?_
    exact W.zret (v := 0) (ty := .boolean) hx hb hr (by first | rfl | decide) (fun t ht hW => ⟨⟨0, (), rfl, ⟨hF.trans hfz.symm, (Or.inr ⟨rfl, by unfold rb; rw [← et1, ← et2]; exact fun h => c_3 (congrArg Int32.toInt h)⟩)⟩, ht⟩, hS.F ht⟩) hS.2.2 dX12_has_14
  · have hF := (if_pos c_3).symm.trans hF
    have c_3 : t2.toInt = 1 := il_eq c_3
    refine lv_iconst (v := 1) hx hb dX12_has_9 (by decide) ?_
    refine lv_goto (tgt := 14) hx hb dX12_has_10 (by decide) ?_
    exact W.zret (v := 1) (ty := .boolean) hx hb hr (by first | rfl | decide) (fun t ht hW => ⟨⟨1, (), rfl, ⟨hF.trans hfz.symm, (Or.inl ⟨rfl, by unfold rb; rw [← et1, ← et2]; exact Int32.toInt_inj.mp c_3⟩)⟩, ht⟩, hS.F ht⟩) hS.2.2 dX12_has_14
set_option maxHeartbeats 4000000 in
set_option maxRecDepth 100000 in
/-- sm_sizeOf -/
theorem sm_sizeOf (l : Launch) (dC : Nat → ClassId) (dI : Nat → Nat → Nat) (tys : List (ClassId × FieldType)) (H : Heap) (va : Int32) : Met l yX12_sizeOf (wU yX12_sizeOf cX12_sizeOf 3 (some .int)) ({ frames := 0, cells := 0, slots := 0, locals := 0 }) (va_Pc [.int va] (sz_P (dC, dI) vwCl tys H)) (va_Qi (fun (z : Int32) (_ : Unit) => z = F_sm_sizeOf va ∧ (z = so va ∧ (0 ≤ va.toInt → va.toInt ≤ 127 → z.toInt = (pp va.toNatClampNeg : Int) ∧ pp va.toNatClampNeg ≤ 7 ∧ (va.toInt = 0 ∨ 1 ≤ pp va.toNatClampNeg)))) (fun _ t => t.heap = H) (fun _ => False)) 0 0 (fun _ => False) := by
  refine Met.ofW (cc := cX12_sizeOf) (maxL := 3) (ret := (some .int)) (by decide) rfl ?_
  intro p e s m args below meth c s₁ B hml hv
  obtain ⟨rfl, hh, hK, hz⟩ := hv
  have hx := B.exec
  have hb := B.bytes
  have hr := B.returns
  have hts := atoms_spec (ws := (wU yX12_sizeOf cX12_sizeOf 3 (some .int))) B.pre
  have hown : s.vm.findClass RX12 = some m.cls := findClass_of_methodNamed B.named
  have hlocks := B.notSynchronized
  subst hh
  have hS : va_S (fun _ => False) s.heap s.heap [] := va_S.rf
  have hl := lv_entry ([.int va]) (n := 3) (Nat.le_of_ble_eq_true rfl)
  rw [lg_entry_eq]
  generalize (lg_sl ([.int va]) ++ List.replicate (3 - (lg_sl ([.int va])).length) Slot.unset).toArray = ls at hl ⊢
  have hl : lv_has ls 3 [(0, .int va)] := hl
  obtain ⟨fz, hfz⟩ : ∃ z, F_sm_sizeOf va = z := ⟨_, rfl⟩
  have hF := hfz
  unfold F_sm_sizeOf at hF
  refine lv_iconst (v := 0) hx hb dX12_sizeOf_0 (by decide) ?_
  refine lv_istore_n (lv' := [(1, .int 0), (0, .int va)]) hx hb dX12_sizeOf_1 rfl hl (by decide) rfl (fun ls hl => ?_)
  refine lv_iconst (v := 0) hx hb dX12_sizeOf_2 (by decide) ?_
  refine lv_istore_n (lv' := [(2, .int 0), (1, .int 0), (0, .int va)]) hx hb dX12_sizeOf_3 rfl hl (by decide) rfl (fun ls hl => ?_)
  refine lv_iload_n hx hb dX12_sizeOf_4 rfl (lv_at hl 0 rfl) ?_
  refine lv_bipush (v := 12) hx hb dX12_sizeOf_5 (by decide) ?_
  refine lv_icmp_ge (tgt := 24) hx hb dX12_sizeOf_7 (by decide) (fun c => absurd c (by decide)) (fun _ => ?_)
  refine lv_iload_n hx hb dX12_sizeOf_10 rfl (lv_at hl 1 rfl) ?_
  refine lv_iload_n hx hb dX12_sizeOf_11 rfl (lv_at hl 2 rfl) ?_
  refine lv_iload_n hx hb dX12_sizeOf_12 rfl (lv_at hl 0 rfl) ?_
  refine lv_ishr hx hb dX12_sizeOf_13 ?_
  refine lv_topi (fun t1 et1 => ?_)
  have hF := mi_let hF et1
  refine lv_iconst (v := 1) hx hb dX12_sizeOf_14 (by decide) ?_
  refine lv_iand hx hb dX12_sizeOf_15 ?_
  refine lv_topi (fun t2 et2 => ?_)
  have hF := mi_let hF et2
  refine lv_iadd hx hb dX12_sizeOf_16 ?_
  refine lv_topi (fun t3 et3 => ?_)
  have hF := mi_let hF et3
  refine lv_istore_n (lv' := [(1, .int t3), (2, .int 0), (0, .int va)]) hx hb dX12_sizeOf_17 rfl hl (by decide) rfl (fun ls hl => ?_)
  refine lv_iinc (v := 1) (lv' := [(2, .int 1), (1, .int t3), (0, .int va)]) hx hb dX12_sizeOf_18 hl (k := 1) rfl (by decide) (by decide) rfl (fun ls hl => ?_)
  refine lv_goto (tgt := 4) hx hb dX12_sizeOf_21 (by decide) ?_
  refine lv_iload_n hx hb dX12_sizeOf_4 rfl (lv_at hl 0 rfl) ?_
  refine lv_bipush (v := 12) hx hb dX12_sizeOf_5 (by decide) ?_
  refine lv_icmp_ge (tgt := 24) hx hb dX12_sizeOf_7 (by decide) (fun c => absurd c (by decide)) (fun _ => ?_)
  refine lv_iload_n hx hb dX12_sizeOf_10 rfl (lv_at hl 1 rfl) ?_
  refine lv_iload_n hx hb dX12_sizeOf_11 rfl (lv_at hl 2 rfl) ?_
  refine lv_iload_n hx hb dX12_sizeOf_12 rfl (lv_at hl 0 rfl) ?_
  refine lv_ishr hx hb dX12_sizeOf_13 ?_
  refine lv_topi (fun t4 et4 => ?_)
  have hF := mi_let hF et4
  refine lv_iconst (v := 1) hx hb dX12_sizeOf_14 (by decide) ?_
  refine lv_iand hx hb dX12_sizeOf_15 ?_
  refine lv_topi (fun t5 et5 => ?_)
  have hF := mi_let hF et5
  refine lv_iadd hx hb dX12_sizeOf_16 ?_
  refine lv_topi (fun t6 et6 => ?_)
  have hF := mi_let hF et6
  refine lv_istore_n (lv' := [(1, .int t6), (2, .int 1), (0, .int va)]) hx hb dX12_sizeOf_17 rfl hl (by decide) rfl (fun ls hl => ?_)
  refine lv_iinc (v := 2) (lv' := [(2, .int 2), (1, .int t6), (0, .int va)]) hx hb dX12_sizeOf_18 hl (k := 1) rfl (by decide) (by decide) rfl (fun ls hl => ?_)
  refine lv_goto (tgt := 4) hx hb dX12_sizeOf_21 (by decide) ?_
  refine lv_iload_n hx hb dX12_sizeOf_4 rfl (lv_at hl 0 rfl) ?_
  refine lv_bipush (v := 12) hx hb dX12_sizeOf_5 (by decide) ?_
  refine lv_icmp_ge (tgt := 24) hx hb dX12_sizeOf_7 (by decide) (fun c => absurd c (by decide)) (fun _ => ?_)
  refine lv_iload_n hx hb dX12_sizeOf_10 rfl (lv_at hl 1 rfl) ?_
  refine lv_iload_n hx hb dX12_sizeOf_11 rfl (lv_at hl 2 rfl) ?_
  refine lv_iload_n hx hb dX12_sizeOf_12 rfl (lv_at hl 0 rfl) ?_
  refine lv_ishr hx hb dX12_sizeOf_13 ?_
  refine lv_topi (fun t7 et7 => ?_)
  have hF := mi_let hF et7
  refine lv_iconst (v := 1) hx hb dX12_sizeOf_14 (by decide) ?_
  refine lv_iand hx hb dX12_sizeOf_15 ?_
  refine lv_topi (fun t8 et8 => ?_)
  have hF := mi_let hF et8
  refine lv_iadd hx hb dX12_sizeOf_16 ?_
  refine lv_topi (fun t9 et9 => ?_)
  have hF := mi_let hF et9
  refine lv_istore_n (lv' := [(1, .int t9), (2, .int 2), (0, .int va)]) hx hb dX12_sizeOf_17 rfl hl (by decide) rfl (fun ls hl => ?_)
  refine lv_iinc (v := 3) (lv' := [(2, .int 3), (1, .int t9), (0, .int va)]) hx hb dX12_sizeOf_18 hl (k := 1) rfl (by decide) (by decide) rfl (fun ls hl => ?_)
  refine lv_goto (tgt := 4) hx hb dX12_sizeOf_21 (by decide) ?_
  refine lv_iload_n hx hb dX12_sizeOf_4 rfl (lv_at hl 0 rfl) ?_
  refine lv_bipush (v := 12) hx hb dX12_sizeOf_5 (by decide) ?_
  refine lv_icmp_ge (tgt := 24) hx hb dX12_sizeOf_7 (by decide) (fun c => absurd c (by decide)) (fun _ => ?_)
  refine lv_iload_n hx hb dX12_sizeOf_10 rfl (lv_at hl 1 rfl) ?_
  refine lv_iload_n hx hb dX12_sizeOf_11 rfl (lv_at hl 2 rfl) ?_
  refine lv_iload_n hx hb dX12_sizeOf_12 rfl (lv_at hl 0 rfl) ?_
  refine lv_ishr hx hb dX12_sizeOf_13 ?_
  refine lv_topi (fun t10 et10 => ?_)
  have hF := mi_let hF et10
  refine lv_iconst (v := 1) hx hb dX12_sizeOf_14 (by decide) ?_
  refine lv_iand hx hb dX12_sizeOf_15 ?_
  refine lv_topi (fun t11 et11 => ?_)
  have hF := mi_let hF et11
  refine lv_iadd hx hb dX12_sizeOf_16 ?_
  refine lv_topi (fun t12 et12 => ?_)
  have hF := mi_let hF et12
  refine lv_istore_n (lv' := [(1, .int t12), (2, .int 3), (0, .int va)]) hx hb dX12_sizeOf_17 rfl hl (by decide) rfl (fun ls hl => ?_)
  refine lv_iinc (v := 4) (lv' := [(2, .int 4), (1, .int t12), (0, .int va)]) hx hb dX12_sizeOf_18 hl (k := 1) rfl (by decide) (by decide) rfl (fun ls hl => ?_)
  refine lv_goto (tgt := 4) hx hb dX12_sizeOf_21 (by decide) ?_
  refine lv_iload_n hx hb dX12_sizeOf_4 rfl (lv_at hl 0 rfl) ?_
  refine lv_bipush (v := 12) hx hb dX12_sizeOf_5 (by decide) ?_
  refine lv_icmp_ge (tgt := 24) hx hb dX12_sizeOf_7 (by decide) (fun c => absurd c (by decide)) (fun _ => ?_)
  refine lv_iload_n hx hb dX12_sizeOf_10 rfl (lv_at hl 1 rfl) ?_
  refine lv_iload_n hx hb dX12_sizeOf_11 rfl (lv_at hl 2 rfl) ?_
  refine lv_iload_n hx hb dX12_sizeOf_12 rfl (lv_at hl 0 rfl) ?_
  refine lv_ishr hx hb dX12_sizeOf_13 ?_
  refine lv_topi (fun t13 et13 => ?_)
  have hF := mi_let hF et13
  refine lv_iconst (v := 1) hx hb dX12_sizeOf_14 (by decide) ?_
  refine lv_iand hx hb dX12_sizeOf_15 ?_
  refine lv_topi (fun t14 et14 => ?_)
  have hF := mi_let hF et14
  refine lv_iadd hx hb dX12_sizeOf_16 ?_
  refine lv_topi (fun t15 et15 => ?_)
  have hF := mi_let hF et15
  refine lv_istore_n (lv' := [(1, .int t15), (2, .int 4), (0, .int va)]) hx hb dX12_sizeOf_17 rfl hl (by decide) rfl (fun ls hl => ?_)
  refine lv_iinc (v := 5) (lv' := [(2, .int 5), (1, .int t15), (0, .int va)]) hx hb dX12_sizeOf_18 hl (k := 1) rfl (by decide) (by decide) rfl (fun ls hl => ?_)
  refine lv_goto (tgt := 4) hx hb dX12_sizeOf_21 (by decide) ?_
  refine lv_iload_n hx hb dX12_sizeOf_4 rfl (lv_at hl 0 rfl) ?_
  refine lv_bipush (v := 12) hx hb dX12_sizeOf_5 (by decide) ?_
  refine lv_icmp_ge (tgt := 24) hx hb dX12_sizeOf_7 (by decide) (fun c => absurd c (by decide)) (fun _ => ?_)
  refine lv_iload_n hx hb dX12_sizeOf_10 rfl (lv_at hl 1 rfl) ?_
  refine lv_iload_n hx hb dX12_sizeOf_11 rfl (lv_at hl 2 rfl) ?_
  refine lv_iload_n hx hb dX12_sizeOf_12 rfl (lv_at hl 0 rfl) ?_
  refine lv_ishr hx hb dX12_sizeOf_13 ?_
  refine lv_topi (fun t16 et16 => ?_)
  have hF := mi_let hF et16
  refine lv_iconst (v := 1) hx hb dX12_sizeOf_14 (by decide) ?_
  refine lv_iand hx hb dX12_sizeOf_15 ?_
  refine lv_topi (fun t17 et17 => ?_)
  have hF := mi_let hF et17
  refine lv_iadd hx hb dX12_sizeOf_16 ?_
  refine lv_topi (fun t18 et18 => ?_)
  have hF := mi_let hF et18
  refine lv_istore_n (lv' := [(1, .int t18), (2, .int 5), (0, .int va)]) hx hb dX12_sizeOf_17 rfl hl (by decide) rfl (fun ls hl => ?_)
  refine lv_iinc (v := 6) (lv' := [(2, .int 6), (1, .int t18), (0, .int va)]) hx hb dX12_sizeOf_18 hl (k := 1) rfl (by decide) (by decide) rfl (fun ls hl => ?_)
  refine lv_goto (tgt := 4) hx hb dX12_sizeOf_21 (by decide) ?_
  refine lv_iload_n hx hb dX12_sizeOf_4 rfl (lv_at hl 0 rfl) ?_
  refine lv_bipush (v := 12) hx hb dX12_sizeOf_5 (by decide) ?_
  refine lv_icmp_ge (tgt := 24) hx hb dX12_sizeOf_7 (by decide) (fun c => absurd c (by decide)) (fun _ => ?_)
  refine lv_iload_n hx hb dX12_sizeOf_10 rfl (lv_at hl 1 rfl) ?_
  refine lv_iload_n hx hb dX12_sizeOf_11 rfl (lv_at hl 2 rfl) ?_
  refine lv_iload_n hx hb dX12_sizeOf_12 rfl (lv_at hl 0 rfl) ?_
  refine lv_ishr hx hb dX12_sizeOf_13 ?_
  refine lv_topi (fun t19 et19 => ?_)
  have hF := mi_let hF et19
  refine lv_iconst (v := 1) hx hb dX12_sizeOf_14 (by decide) ?_
  refine lv_iand hx hb dX12_sizeOf_15 ?_
  refine lv_topi (fun t20 et20 => ?_)
  have hF := mi_let hF et20
  refine lv_iadd hx hb dX12_sizeOf_16 ?_
  refine lv_topi (fun t21 et21 => ?_)
  have hF := mi_let hF et21
  refine lv_istore_n (lv' := [(1, .int t21), (2, .int 6), (0, .int va)]) hx hb dX12_sizeOf_17 rfl hl (by decide) rfl (fun ls hl => ?_)
  refine lv_iinc (v := 7) (lv' := [(2, .int 7), (1, .int t21), (0, .int va)]) hx hb dX12_sizeOf_18 hl (k := 1) rfl (by decide) (by decide) rfl (fun ls hl => ?_)
  refine lv_goto (tgt := 4) hx hb dX12_sizeOf_21 (by decide) ?_
  refine lv_iload_n hx hb dX12_sizeOf_4 rfl (lv_at hl 0 rfl) ?_
  refine lv_bipush (v := 12) hx hb dX12_sizeOf_5 (by decide) ?_
  refine lv_icmp_ge (tgt := 24) hx hb dX12_sizeOf_7 (by decide) (fun c => absurd c (by decide)) (fun _ => ?_)
  refine lv_iload_n hx hb dX12_sizeOf_10 rfl (lv_at hl 1 rfl) ?_
  refine lv_iload_n hx hb dX12_sizeOf_11 rfl (lv_at hl 2 rfl) ?_
  refine lv_iload_n hx hb dX12_sizeOf_12 rfl (lv_at hl 0 rfl) ?_
  refine lv_ishr hx hb dX12_sizeOf_13 ?_
  refine lv_topi (fun t22 et22 => ?_)
  have hF := mi_let hF et22
  refine lv_iconst (v := 1) hx hb dX12_sizeOf_14 (by decide) ?_
  refine lv_iand hx hb dX12_sizeOf_15 ?_
  refine lv_topi (fun t23 et23 => ?_)
  have hF := mi_let hF et23
  refine lv_iadd hx hb dX12_sizeOf_16 ?_
  refine lv_topi (fun t24 et24 => ?_)
  have hF := mi_let hF et24
  refine lv_istore_n (lv' := [(1, .int t24), (2, .int 7), (0, .int va)]) hx hb dX12_sizeOf_17 rfl hl (by decide) rfl (fun ls hl => ?_)
  refine lv_iinc (v := 8) (lv' := [(2, .int 8), (1, .int t24), (0, .int va)]) hx hb dX12_sizeOf_18 hl (k := 1) rfl (by decide) (by decide) rfl (fun ls hl => ?_)
  refine lv_goto (tgt := 4) hx hb dX12_sizeOf_21 (by decide) ?_
  refine lv_iload_n hx hb dX12_sizeOf_4 rfl (lv_at hl 0 rfl) ?_
  refine lv_bipush (v := 12) hx hb dX12_sizeOf_5 (by decide) ?_
  refine lv_icmp_ge (tgt := 24) hx hb dX12_sizeOf_7 (by decide) (fun c => absurd c (by decide)) (fun _ => ?_)
  refine lv_iload_n hx hb dX12_sizeOf_10 rfl (lv_at hl 1 rfl) ?_
  refine lv_iload_n hx hb dX12_sizeOf_11 rfl (lv_at hl 2 rfl) ?_
  refine lv_iload_n hx hb dX12_sizeOf_12 rfl (lv_at hl 0 rfl) ?_
  refine lv_ishr hx hb dX12_sizeOf_13 ?_
  refine lv_topi (fun t25 et25 => ?_)
  have hF := mi_let hF et25
  refine lv_iconst (v := 1) hx hb dX12_sizeOf_14 (by decide) ?_
  refine lv_iand hx hb dX12_sizeOf_15 ?_
  refine lv_topi (fun t26 et26 => ?_)
  have hF := mi_let hF et26
  refine lv_iadd hx hb dX12_sizeOf_16 ?_
  refine lv_topi (fun t27 et27 => ?_)
  have hF := mi_let hF et27
  refine lv_istore_n (lv' := [(1, .int t27), (2, .int 8), (0, .int va)]) hx hb dX12_sizeOf_17 rfl hl (by decide) rfl (fun ls hl => ?_)
  refine lv_iinc (v := 9) (lv' := [(2, .int 9), (1, .int t27), (0, .int va)]) hx hb dX12_sizeOf_18 hl (k := 1) rfl (by decide) (by decide) rfl (fun ls hl => ?_)
  refine lv_goto (tgt := 4) hx hb dX12_sizeOf_21 (by decide) ?_
  refine lv_iload_n hx hb dX12_sizeOf_4 rfl (lv_at hl 0 rfl) ?_
  refine lv_bipush (v := 12) hx hb dX12_sizeOf_5 (by decide) ?_
  refine lv_icmp_ge (tgt := 24) hx hb dX12_sizeOf_7 (by decide) (fun c => absurd c (by decide)) (fun _ => ?_)
  refine lv_iload_n hx hb dX12_sizeOf_10 rfl (lv_at hl 1 rfl) ?_
  refine lv_iload_n hx hb dX12_sizeOf_11 rfl (lv_at hl 2 rfl) ?_
  refine lv_iload_n hx hb dX12_sizeOf_12 rfl (lv_at hl 0 rfl) ?_
  refine lv_ishr hx hb dX12_sizeOf_13 ?_
  refine lv_topi (fun t28 et28 => ?_)
  have hF := mi_let hF et28
  refine lv_iconst (v := 1) hx hb dX12_sizeOf_14 (by decide) ?_
  refine lv_iand hx hb dX12_sizeOf_15 ?_
  refine lv_topi (fun t29 et29 => ?_)
  have hF := mi_let hF et29
  refine lv_iadd hx hb dX12_sizeOf_16 ?_
  refine lv_topi (fun t30 et30 => ?_)
  have hF := mi_let hF et30
  refine lv_istore_n (lv' := [(1, .int t30), (2, .int 9), (0, .int va)]) hx hb dX12_sizeOf_17 rfl hl (by decide) rfl (fun ls hl => ?_)
  refine lv_iinc (v := 10) (lv' := [(2, .int 10), (1, .int t30), (0, .int va)]) hx hb dX12_sizeOf_18 hl (k := 1) rfl (by decide) (by decide) rfl (fun ls hl => ?_)
  refine lv_goto (tgt := 4) hx hb dX12_sizeOf_21 (by decide) ?_
  refine lv_iload_n hx hb dX12_sizeOf_4 rfl (lv_at hl 0 rfl) ?_
  refine lv_bipush (v := 12) hx hb dX12_sizeOf_5 (by decide) ?_
  refine lv_icmp_ge (tgt := 24) hx hb dX12_sizeOf_7 (by decide) (fun c => absurd c (by decide)) (fun _ => ?_)
  refine lv_iload_n hx hb dX12_sizeOf_10 rfl (lv_at hl 1 rfl) ?_
  refine lv_iload_n hx hb dX12_sizeOf_11 rfl (lv_at hl 2 rfl) ?_
  refine lv_iload_n hx hb dX12_sizeOf_12 rfl (lv_at hl 0 rfl) ?_
  refine lv_ishr hx hb dX12_sizeOf_13 ?_
  refine lv_topi (fun t31 et31 => ?_)
  have hF := mi_let hF et31
  refine lv_iconst (v := 1) hx hb dX12_sizeOf_14 (by decide) ?_
  refine lv_iand hx hb dX12_sizeOf_15 ?_
  refine lv_topi (fun t32 et32 => ?_)
  have hF := mi_let hF et32
  refine lv_iadd hx hb dX12_sizeOf_16 ?_
  refine lv_topi (fun t33 et33 => ?_)
  have hF := mi_let hF et33
  refine lv_istore_n (lv' := [(1, .int t33), (2, .int 10), (0, .int va)]) hx hb dX12_sizeOf_17 rfl hl (by decide) rfl (fun ls hl => ?_)
  refine lv_iinc (v := 11) (lv' := [(2, .int 11), (1, .int t33), (0, .int va)]) hx hb dX12_sizeOf_18 hl (k := 1) rfl (by decide) (by decide) rfl (fun ls hl => ?_)
  refine lv_goto (tgt := 4) hx hb dX12_sizeOf_21 (by decide) ?_
  refine lv_iload_n hx hb dX12_sizeOf_4 rfl (lv_at hl 0 rfl) ?_
  refine lv_bipush (v := 12) hx hb dX12_sizeOf_5 (by decide) ?_
  refine lv_icmp_ge (tgt := 24) hx hb dX12_sizeOf_7 (by decide) (fun c => absurd c (by decide)) (fun _ => ?_)
  refine lv_iload_n hx hb dX12_sizeOf_10 rfl (lv_at hl 1 rfl) ?_
  refine lv_iload_n hx hb dX12_sizeOf_11 rfl (lv_at hl 2 rfl) ?_
  refine lv_iload_n hx hb dX12_sizeOf_12 rfl (lv_at hl 0 rfl) ?_
  refine lv_ishr hx hb dX12_sizeOf_13 ?_
  refine lv_topi (fun t34 et34 => ?_)
  have hF := mi_let hF et34
  refine lv_iconst (v := 1) hx hb dX12_sizeOf_14 (by decide) ?_
  refine lv_iand hx hb dX12_sizeOf_15 ?_
  refine lv_topi (fun t35 et35 => ?_)
  have hF := mi_let hF et35
  refine lv_iadd hx hb dX12_sizeOf_16 ?_
  refine lv_topi (fun t36 et36 => ?_)
  have hF := mi_let hF et36
  refine lv_istore_n (lv' := [(1, .int t36), (2, .int 11), (0, .int va)]) hx hb dX12_sizeOf_17 rfl hl (by decide) rfl (fun ls hl => ?_)
  refine lv_iinc (v := 12) (lv' := [(2, .int 12), (1, .int t36), (0, .int va)]) hx hb dX12_sizeOf_18 hl (k := 1) rfl (by decide) (by decide) rfl (fun ls hl => ?_)
  refine lv_goto (tgt := 4) hx hb dX12_sizeOf_21 (by decide) ?_
  refine lv_iload_n hx hb dX12_sizeOf_4 rfl (lv_at hl 0 rfl) ?_
  refine lv_bipush (v := 12) hx hb dX12_sizeOf_5 (by decide) ?_
  refine lv_icmp_ge (tgt := 24) hx hb dX12_sizeOf_7 (by decide) (fun _ => ?_) (fun c => absurd (by decide) c)
  refine lv_iload_n hx hb dX12_sizeOf_24 rfl (lv_at hl 1 rfl) ?_
  exact W.iret (v := t36) hx hb hr (fun t ht hW => ⟨⟨t36, (), rfl, ⟨hF.trans hfz.symm, (by have h9 : t36 = so va := (by subst_vars; rfl); exact ⟨h9, fun h1 h2 => by rw [h9]; exact so_7 h1 h2⟩)⟩, ht⟩, hS.F ht⟩) hS.2.2 dX12_sizeOf_25
set_option maxHeartbeats 4000000 in
set_option maxRecDepth 100000 in
/-- sm_isRow -/
theorem sm_isRow (l : Launch) (dC : Nat → ClassId) (dI : Nat → Nat → Nat) (tys : List (ClassId × FieldType)) (H : Heap) (va : Int32) : Met l yX12_isRow (wU yX12_isRow cX12_isRow 1 (some .boolean)) ({ frames := 1, cells := 0, slots := 0, locals := 22 }) (va_Pc [.int va] (sz_P (dC, dI) vwCl tys H)) (va_Qi (fun (z : Int32) (_ : Unit) => z = F_sm_isRow va ∧ ((z = 1 ∧ (0 ≤ va.toInt ∧ va.toInt ≤ 5)) ∨ (z = 0 ∧ (va.toInt < 0 ∨ 5 < va.toInt)))) (fun _ t => t.heap = H) (fun _ => False)) 0 0 (fun _ => False) := by
  refine Met.ofW (cc := cX12_isRow) (maxL := 1) (ret := (some .boolean)) (by decide) rfl ?_
  intro p e s m args below meth c s₁ B hml hv
  obtain ⟨rfl, hh, hK, hz⟩ := hv
  have hx := B.exec
  have hb := B.bytes
  have hr := B.returns
  have hts := atoms_spec (ws := (wU yX12_isRow cX12_isRow 1 (some .boolean))) B.pre
  have hown : s.vm.findClass RX12 = some m.cls := findClass_of_methodNamed B.named
  have hlocks := B.notSynchronized
  subst hh
  have hS : va_S (fun _ => False) s.heap s.heap [] := va_S.rf
  have hl := lv_entry ([.int va]) (n := 1) (Nat.le_of_ble_eq_true rfl)
  rw [lg_entry_eq]
  generalize (lg_sl ([.int va]) ++ List.replicate (1 - (lg_sl ([.int va])).length) Slot.unset).toArray = ls at hl ⊢
  have hl : lv_has ls 1 [(0, .int va)] := hl
  obtain ⟨fz, hfz⟩ : ∃ z, F_sm_isRow va = z := ⟨_, rfl⟩
  have hF := hfz
  unfold F_sm_isRow at hF
  refine lv_iload_n hx hb dX12_isRow_0 rfl (lv_at hl 0 rfl) ?_
  refine lv_iconst (v := 0) hx hb dX12_isRow_1 (by decide) ?_
  refine lv_iconst (v := 5) hx hb dX12_isRow_2 (by decide) ?_
  refine cr_i (va_runS (As := [.int va, .int 0, .int 5]) (rest := []) ⟨hx, hb, hml, hown, hts⟩ (sm_in l dC dI tys s.heap va 0 5) (va_cwS 3 hts (wU_S mw_5_189 mw_5_187 mw_5_188 mw_1_13) rfl rfl rfl (by decide +kernel) ⟨Nat.le_of_ble_eq_true rfl, Nat.le_of_ble_eq_true rfl⟩) ⟨sz_c, sz_m hK hz⟩ rfl rfl hl.1 rfl (lv_room (Nat.le_of_ble_eq_true rfl)) dX12_isRow_3 ⟨Nat.zero_le _, Nat.zero_le _⟩) hS (fun r1 hw1 locs hS => ?_)
  obtain ⟨hfe1, hw1⟩ := hw1
  rcases hw1 with ⟨rfl, f1⟩ | ⟨rfl, f1⟩
  · have hF := (if_pos hfe1.symm).symm.trans hF
    have f1 : (0 : Int) ≤ va.toInt ∧ va.toInt ≤ (5 : Int) := f1
    exact W.zret (v := 1) (ty := .boolean) hx hb hr (by first | rfl | decide) (fun t ht hW => ⟨⟨1, (), rfl, ⟨hF.trans hfz.symm, (Or.inl ⟨rfl, by omega⟩)⟩, ht⟩, hS.F ht⟩) hS.2.2 dX12_isRow_6
  · have hF := (if_neg (fun h => absurd (hfe1.trans h) (by decide))).symm.trans hF
    have f1 : va.toInt < (0 : Int) ∨ (5 : Int) < va.toInt := f1
    exact W.zret (v := 0) (ty := .boolean) hx hb hr (by first | rfl | decide) (fun t ht hW => ⟨⟨0, (), rfl, ⟨hF.trans hfz.symm, (Or.inr ⟨rfl, by omega⟩)⟩, ht⟩, hS.F ht⟩) hS.2.2 dX12_isRow_6
set_option maxHeartbeats 4000000 in
set_option maxRecDepth 100000 in
/-- sm_isText -/
theorem sm_isText (l : Launch) (dC : Nat → ClassId) (dI : Nat → Nat → Nat) (tys : List (ClassId × FieldType)) (H : Heap) (va : Int32) : Met l yX12_isText (wU yX12_isText cX12_isText 1 (some .boolean)) ({ frames := 1, cells := 0, slots := 0, locals := 22 }) (va_Pc [.int va] (sz_P (dC, dI) vwCl tys H)) (va_Qi (fun (z : Int32) (_ : Unit) => z = F_sm_isText va ∧ ((z = 1 ∧ (0 ≤ va.toInt ∧ va.toInt ≤ 3)) ∨ (z = 0 ∧ (va.toInt < 0 ∨ 3 < va.toInt)))) (fun _ t => t.heap = H) (fun _ => False)) 0 0 (fun _ => False) := by
  refine Met.ofW (cc := cX12_isText) (maxL := 1) (ret := (some .boolean)) (by decide) rfl ?_
  intro p e s m args below meth c s₁ B hml hv
  obtain ⟨rfl, hh, hK, hz⟩ := hv
  have hx := B.exec
  have hb := B.bytes
  have hr := B.returns
  have hts := atoms_spec (ws := (wU yX12_isText cX12_isText 1 (some .boolean))) B.pre
  have hown : s.vm.findClass RX12 = some m.cls := findClass_of_methodNamed B.named
  have hlocks := B.notSynchronized
  subst hh
  have hS : va_S (fun _ => False) s.heap s.heap [] := va_S.rf
  have hl := lv_entry ([.int va]) (n := 1) (Nat.le_of_ble_eq_true rfl)
  rw [lg_entry_eq]
  generalize (lg_sl ([.int va]) ++ List.replicate (1 - (lg_sl ([.int va])).length) Slot.unset).toArray = ls at hl ⊢
  have hl : lv_has ls 1 [(0, .int va)] := hl
  obtain ⟨fz, hfz⟩ : ∃ z, F_sm_isText va = z := ⟨_, rfl⟩
  have hF := hfz
  unfold F_sm_isText at hF
  refine lv_iload_n hx hb dX12_isText_0 rfl (lv_at hl 0 rfl) ?_
  refine lv_iconst (v := 0) hx hb dX12_isText_1 (by decide) ?_
  refine lv_iconst (v := 3) hx hb dX12_isText_2 (by decide) ?_
  refine cr_i (va_runS (As := [.int va, .int 0, .int 3]) (rest := []) ⟨hx, hb, hml, hown, hts⟩ (sm_in l dC dI tys s.heap va 0 3) (va_cwS 3 hts (wU_S mw_5_189 mw_5_187 mw_5_188 mw_1_13) rfl rfl rfl (by decide +kernel) ⟨Nat.le_of_ble_eq_true rfl, Nat.le_of_ble_eq_true rfl⟩) ⟨sz_c, sz_m hK hz⟩ rfl rfl hl.1 rfl (lv_room (Nat.le_of_ble_eq_true rfl)) dX12_isText_3 ⟨Nat.zero_le _, Nat.zero_le _⟩) hS (fun r1 hw1 locs hS => ?_)
  obtain ⟨hfe1, hw1⟩ := hw1
  rcases hw1 with ⟨rfl, f1⟩ | ⟨rfl, f1⟩
  · have hF := (if_pos hfe1.symm).symm.trans hF
    have f1 : (0 : Int) ≤ va.toInt ∧ va.toInt ≤ (3 : Int) := f1
    exact W.zret (v := 1) (ty := .boolean) hx hb hr (by first | rfl | decide) (fun t ht hW => ⟨⟨1, (), rfl, ⟨hF.trans hfz.symm, (Or.inl ⟨rfl, by omega⟩)⟩, ht⟩, hS.F ht⟩) hS.2.2 dX12_isText_6
  · have hF := (if_neg (fun h => absurd (hfe1.trans h) (by decide))).symm.trans hF
    have f1 : va.toInt < (0 : Int) ∨ (3 : Int) < va.toInt := f1
    exact W.zret (v := 0) (ty := .boolean) hx hb hr (by first | rfl | decide) (fun t ht hW => ⟨⟨0, (), rfl, ⟨hF.trans hfz.symm, (Or.inr ⟨rfl, by omega⟩)⟩, ht⟩, hS.F ht⟩) hS.2.2 dX12_isText_6
set_option maxHeartbeats 4000000 in
set_option maxRecDepth 100000 in
/-- sm_meet -/
theorem sm_meet (l : Launch) (dC : Nat → ClassId) (dI : Nat → Nat → Nat) (cs : Nat → ClassId) (ad : Nat → Nat) (mu : Nat → Nat → Int32) (ok : okR loM hiM mu) (H : Heap) (hP : va_P (dC, dI) vwCl (wR 21 ad (EM cs ad) mu) H) (hD0 : va_D (fun _ => True) (wR 21 ad (EM cs ad) mu)) (vw : Int32) (hin0 : 1 ≤ vw.toInt ∧ vw.toInt ≤ 5) : Met l yX12_meet (wU yX12_meet cX12_meet 2 (some .int)) ({ frames := 0, cells := 0, slots := 0, locals := 0 }) (va_Pc [.ref (ad 0), .int vw] (sz_P (dC, dI) vwCl (tyM cs) H)) (va_Qi (fun (z : Int32) (xi : Nat → Nat → Int32) => (z, xi) = F_sm_meet mu vw ∧ okR loM hiM xi ∧ (-3 ≤ z.toInt ∧ z.toInt ≤ -3) ∧ (∀ k f : Nat, Nat.testBit 510 (gpM k f) = true → xi k f = mu k f)) (fun xi t => va_P (dC, dI) vwCl (wR 21 ad (EM cs ad) xi) t.heap) (va_A (wR 21 ad (EM cs ad) mu) H.size)) 0 0 (va_A (wR 21 ad (EM cs ad) mu) H.size) := by
  refine Met.ofW (cc := cX12_meet) (maxL := 2) (ret := (some .int)) (by decide) rfl ?_
  intro p e s m args below meth c s₁ B hml hv
  obtain ⟨rfl, hh, hK, hz⟩ := hv
  have hx := B.exec
  have hb := B.bytes
  have hr := B.returns
  have hts := atoms_spec (ws := (wU yX12_meet cX12_meet 2 (some .int))) B.pre
  have hown : s.vm.findClass RX12 = some m.cls := findClass_of_methodNamed B.named
  have hlocks := B.notSynchronized
  subst hh
  have hD := hD0.self (sz := s.heap.size)
  have hA : ∀ q : Nat, s.heap.size ≤ q → (va_A (wR 21 ad (EM cs ad) mu) s.heap.size) q := fun q h => Or.inr h
  have hS : va_S (va_A (wR 21 ad (EM cs ad) mu) s.heap.size) s.heap s.heap [] := va_S.rf
  have hl := lv_entry ([.ref (ad 0), .int vw]) (n := 2) (Nat.le_of_ble_eq_true rfl)
  rw [lg_entry_eq]
  generalize (lg_sl ([.ref (ad 0), .int vw]) ++ List.replicate (2 - (lg_sl ([.ref (ad 0), .int vw])).length) Slot.unset).toArray = ls at hl ⊢
  have hl : lv_has ls 2 [(0, .ref (ad 0)), (1, .int vw)] := hl
  obtain ⟨fz, hfz⟩ : ∃ z, F_sm_meet mu vw = z := ⟨_, rfl⟩
  have hF := hfz
  unfold F_sm_meet at hF
  refine lv_aload_n hx hb dX12_meet_0 rfl (lv_at hl 0 rfl) ?_
  refine lv_iload_n hx hb dX12_meet_1 rfl (lv_at hl 1 rfl) ?_
  refine va_put (D := (dC, dI)) (ci := 12) (v := .int vw) (ty := .int) (C := RX12) (T := TX12) (N := 46) hx hb hts inG12 tyX12 tyX12_ok nmX12 hown hK hP (wR_D mu hD) hS 0 (gM_0 cs ad mu) rfl 0 (by decide) (hts _ (List.mem_cons_of_mem _ mw_5_41)) (fun _ h9 => h9) rfl (by decide +kernel) rfl rfl (Nat.le_of_ble_eq_true rfl) dX12_meet_2 (fun H locs hP _ hS => ?_)
  simp only [List.set_cons_succ, List.set_cons_zero] at hP
  refine wr_gen (upd (mu 0) 0 vw) hP ((hM_0_0 cs ad _ _)) (fun nu1 hn1 hP => ?_)
  have hF := mi_let hF hn1.symm
  have ok := tM_0_0 ok hn1
  have kp2 : (∀ k f : Nat, Nat.testBit 510 (gpM k f) = true → nu1 k f = mu k f) := kp_f hn1 (by decide) (fun _ _ _ => rfl)
  have ez3 : vw = nu1 0 0 := up_v hn1
  refine lv_aload_n hx hb dX12_meet_5 rfl (lv_at hl 0 rfl) ?_
  refine va_get (D := (dC, dI)) (ci := 12) (v := .ref (ad 1)) (C := RX12) (T := TX12) (N := 46) hx hb hts inG12 hown hK hP 0 (gM_0 cs ad nu1) rfl 1 (by decide) (hts _ (List.mem_cons_of_mem _ mw_5_42)) (fun _ h9 => h9) rfl dX12_meet_6 ?_
  refine lv_iload_n hx hb dX12_meet_9 rfl (lv_at hl 1 rfl) ?_
  refine lv_dup2_11 hx hb dX12_meet_10 rfl rfl ?_
  refine va_iald hx hb hK hP 1 0 (gM_1 cs ad nu1) rfl (show vp_in vw 6 from vi_of (by omega) (by omega)) dX12_meet_11 ?_
  refine lv_topi (fun y4 ey4 => ?_)
  have hF := mi_let hF ey4
  have by4 : y4.toInt = (nu1 1 vw.toNatClampNeg).toInt := congrArg Int32.toInt ey4
  refine lv_iconst (v := 1) hx hb dX12_meet_12 (by decide) ?_
  refine lv_iadd hx hb dX12_meet_13 ?_
  refine lv_topi (fun t5 et5 => ?_)
  have hF := mi_let hF et5
  refine va_iast hx hb hK hP (wR_D nu1 hD) hS 1 0 (gM_1 cs ad nu1) rfl (show vp_in vw 6 from vi_of (by omega) (by omega)) dX12_meet_14 (fun H locs hP _ hS => ?_)
  refine wr_gen (upd (nu1 1) vw.toNatClampNeg t5) hP (rfl) (fun nu6 hn6 hP => ?_)
  have hF := mi_let hF hn6.symm
  have ok := tM_1_s ok vw.toNatClampNeg hn6
  have ez7 : vw = nu6 0 0 := ez3.trans (congrFun (up_k hn6 (by decide)) 0).symm
  have kp8 : (∀ k f : Nat, Nat.testBit 510 (gpM k f) = true → nu6 k f = mu k f) := kp_c 0 hn6 (fun _ => rfl) (by decide) kp2
  refine lv_bipush (v := (-3)) hx hb dX12_meet_15 (by decide) ?_
  exact W.iret (v := (-3)) hx hb hr (fun t ht hW => ⟨⟨(-3), nu6, rfl, ⟨hF.trans hfz.symm, ok, (by have h6 : ((-3) : Int32).toInt = -3 := rfl; omega), kp8⟩, by first | (subst ht; exact hP) | (rw [ht]; exact hP) | (show va_P (dC, dI) vwCl (wR 21 ad (EM cs ad) nu6) t.heap; rw [ht]; exact hP)⟩, hS.F ht⟩) hS.2.2 dX12_meet_17
set_option maxHeartbeats 4000000 in
set_option maxRecDepth 100000 in
/-- sm_ask -/
theorem sm_ask (l : Launch) (dC : Nat → ClassId) (dI : Nat → Nat → Nat) (cs : Nat → ClassId) (ad : Nat → Nat) (mu : Nat → Nat → Int32) (ok : okR loM hiM mu) (H : Heap) (hP : va_P (dC, dI) vwCl (wR 21 ad (EM cs ad) mu) H) (hD0 : va_D (fun _ => True) (wR 21 ad (EM cs ad) mu)) (va : Int32) (vb : Int32) : Met l yX12_ask (wU yX12_ask cX12_ask 3 (some .int)) ({ frames := 0, cells := 0, slots := 0, locals := 0 }) (va_Pc [.ref (ad 0), .int va, .int vb] (sz_P (dC, dI) vwCl (tyM cs) H)) (va_Qi (fun (z : Int32) (xi : Nat → Nat → Int32) => (z, xi) = F_sm_ask mu va vb ∧ okR loM hiM xi ∧ (z.toInt = vb.toInt) ∧ (∀ k f : Nat, Nat.testBit 510 (gpM k f) = true → xi k f = mu k f)) (fun xi t => va_P (dC, dI) vwCl (wR 21 ad (EM cs ad) xi) t.heap) (va_A (wR 21 ad (EM cs ad) mu) H.size)) 0 0 (va_A (wR 21 ad (EM cs ad) mu) H.size) := by
  refine Met.ofW (cc := cX12_ask) (maxL := 3) (ret := (some .int)) (by decide) rfl ?_
  intro p e s m args below meth c s₁ B hml hv
  obtain ⟨rfl, hh, hK, hz⟩ := hv
  have hx := B.exec
  have hb := B.bytes
  have hr := B.returns
  have hts := atoms_spec (ws := (wU yX12_ask cX12_ask 3 (some .int))) B.pre
  have hown : s.vm.findClass RX12 = some m.cls := findClass_of_methodNamed B.named
  have hlocks := B.notSynchronized
  subst hh
  have hD := hD0.self (sz := s.heap.size)
  have hA : ∀ q : Nat, s.heap.size ≤ q → (va_A (wR 21 ad (EM cs ad) mu) s.heap.size) q := fun q h => Or.inr h
  have hS : va_S (va_A (wR 21 ad (EM cs ad) mu) s.heap.size) s.heap s.heap [] := va_S.rf
  have hl := lv_entry ([.ref (ad 0), .int va, .int vb]) (n := 3) (Nat.le_of_ble_eq_true rfl)
  rw [lg_entry_eq]
  generalize (lg_sl ([.ref (ad 0), .int va, .int vb]) ++ List.replicate (3 - (lg_sl ([.ref (ad 0), .int va, .int vb])).length) Slot.unset).toArray = ls at hl ⊢
  have hl : lv_has ls 3 [(0, .ref (ad 0)), (1, .int va), (2, .int vb)] := hl
  obtain ⟨fz, hfz⟩ : ∃ z, F_sm_ask mu va vb = z := ⟨_, rfl⟩
  have hF := hfz
  unfold F_sm_ask at hF
  refine lv_aload_n hx hb dX12_ask_0 rfl (lv_at hl 0 rfl) ?_
  refine lv_iload_n hx hb dX12_ask_1 rfl (lv_at hl 1 rfl) ?_
  refine va_put (D := (dC, dI)) (ci := 12) (v := .int va) (ty := .int) (C := RX12) (T := TX12) (N := 46) hx hb hts inG12 tyX12 tyX12_ok nmX12 hown hK hP (wR_D mu hD) hS 0 (gM_0 cs ad mu) rfl 2 (by decide) (hts _ (List.mem_cons_of_mem _ mw_5_43)) (fun _ h9 => h9) rfl (by decide +kernel) rfl rfl (Nat.le_of_ble_eq_true rfl) dX12_ask_2 (fun H locs hP _ hS => ?_)
  simp only [List.set_cons_succ, List.set_cons_zero] at hP
  refine wr_gen (upd (mu 0) 2 va) hP ((hM_0_2 cs ad _ _)) (fun nu1 hn1 hP => ?_)
  have hF := mi_let hF hn1.symm
  have ok := tM_0_2 ok hn1
  have kp2 : (∀ k f : Nat, Nat.testBit 510 (gpM k f) = true → nu1 k f = mu k f) := kp_f hn1 (by decide) (fun _ _ _ => rfl)
  have ez3 : va = nu1 0 2 := up_v hn1
  refine lv_iload_n hx hb dX12_ask_5 rfl (lv_at hl 2 rfl) ?_
  exact W.iret (v := vb) hx hb hr (fun t ht hW => ⟨⟨vb, nu1, rfl, ⟨hF.trans hfz.symm, ok, (by omega), kp2⟩, by first | (subst ht; exact hP) | (rw [ht]; exact hP) | (show va_P (dC, dI) vwCl (wR 21 ad (EM cs ad) nu1) t.heap; rw [ht]; exact hP)⟩, hS.F ht⟩) hS.2.2 dX12_ask_6
set_option maxHeartbeats 4000000 in
set_option maxRecDepth 100000 in
/-- sm_askedRow -/
theorem sm_askedRow (l : Launch) (dC : Nat → ClassId) (dI : Nat → Nat → Nat) (cs : Nat → ClassId) (ad : Nat → Nat) (mu : Nat → Nat → Int32) (ok : okR loM hiM mu) (H : Heap) (hP : va_P (dC, dI) vwCl (wR 21 ad (EM cs ad) mu) H) (hD0 : va_D (fun _ => True) (wR 21 ad (EM cs ad) mu)) (vr : Int32) : Met l yX12_askedRow (wU yX12_askedRow cX12_askedRow 2 (some .int)) ({ frames := 2, cells := 0, slots := 0, locals := 42 }) (va_Pc [.ref (ad 0), .int vr] (sz_P (dC, dI) vwCl (tyM cs) H)) (va_Qi (fun (z : Int32) (xi : Nat → Nat → Int32) => (z, xi) = F_sm_askedRow mu vr ∧ ((z = 0 ∧ xi = mu ∧ (0 ≤ vr.toInt ∧ vr.toInt ≤ 5 ∧ 0 ≤ (mu 2 vr.toNatClampNeg).toInt)) ∨ (z.toInt < 0 ∧ okR loM hiM xi ∧ (∀ k f : Nat, Nat.testBit 510 (gpM k f) = true → xi k f = mu k f)))) (fun xi t => va_P (dC, dI) vwCl (wR 21 ad (EM cs ad) xi) t.heap) (va_A (wR 21 ad (EM cs ad) mu) H.size)) 0 0 (va_A (wR 21 ad (EM cs ad) mu) H.size) := by
  refine Met.ofW (cc := cX12_askedRow) (maxL := 2) (ret := (some .int)) (by decide) rfl ?_
  intro p e s m args below meth c s₁ B hml hv
  obtain ⟨rfl, hh, hK, hz⟩ := hv
  have hx := B.exec
  have hb := B.bytes
  have hr := B.returns
  have hts := atoms_spec (ws := (wU yX12_askedRow cX12_askedRow 2 (some .int))) B.pre
  have hown : s.vm.findClass RX12 = some m.cls := findClass_of_methodNamed B.named
  have hlocks := B.notSynchronized
  subst hh
  have hD := hD0.self (sz := s.heap.size)
  have hA : ∀ q : Nat, s.heap.size ≤ q → (va_A (wR 21 ad (EM cs ad) mu) s.heap.size) q := fun q h => Or.inr h
  have hS : va_S (va_A (wR 21 ad (EM cs ad) mu) s.heap.size) s.heap s.heap [] := va_S.rf
  have hl := lv_entry ([.ref (ad 0), .int vr]) (n := 2) (Nat.le_of_ble_eq_true rfl)
  rw [lg_entry_eq]
  generalize (lg_sl ([.ref (ad 0), .int vr]) ++ List.replicate (2 - (lg_sl ([.ref (ad 0), .int vr])).length) Slot.unset).toArray = ls at hl ⊢
  have hl : lv_has ls 2 [(0, .ref (ad 0)), (1, .int vr)] := hl
  obtain ⟨fz, hfz⟩ : ∃ z, F_sm_askedRow mu vr = z := ⟨_, rfl⟩
  have hF := hfz
  unfold F_sm_askedRow at hF
  refine lv_iload_n hx hb dX12_askedRow_0 rfl (lv_at hl 1 rfl) ?_
  refine cr_i (va_runS (As := [.int vr]) (rest := []) ⟨hx, hb, hml, hown, hts⟩ (sm_isRow l dC dI (tyM cs) s.heap vr) (va_cwS 1 hts (wU_S mw_5_186 mw_5_184 mw_5_185 mw_1_13) rfl rfl rfl (by decide +kernel) ⟨Nat.le_of_ble_eq_true rfl, Nat.le_of_ble_eq_true rfl⟩) ⟨sz_c, sz_m hK hz⟩ rfl rfl hl.1 rfl (lv_room (Nat.le_of_ble_eq_true rfl)) dX12_askedRow_1 ⟨Nat.zero_le _, Nat.zero_le _⟩) hS (fun r1 hw1 locs hS => ?_)
  obtain ⟨hfe1, hw1⟩ := hw1
  rcases hw1 with ⟨rfl, f1⟩ | ⟨rfl, f1⟩
  · have hF := (if_pos hfe1.symm).symm.trans hF
    have f1 : 0 ≤ vr.toInt ∧ vr.toInt ≤ 5 := f1
    refine lv_if_ne (tgt := 11) hx hb dX12_askedRow_4 (by decide) (fun _ => ?_) (fun c => absurd c (by decide))
    refine lv_aload_n hx hb dX12_askedRow_11 rfl (lv_at hl 0 rfl) ?_
    refine va_get (D := (dC, dI)) (ci := 12) (v := .ref (ad 2)) (C := RX12) (T := TX12) (N := 46) hx hb hts inG12 hown hK hP 0 (gM_0 cs ad mu) rfl 3 (by decide) (hts _ (List.mem_cons_of_mem _ mw_5_44)) (fun _ h9 => h9) rfl dX12_askedRow_12 ?_
    refine lv_iload_n hx hb dX12_askedRow_15 rfl (lv_at hl 1 rfl) ?_
    refine va_iald hx hb hK hP 2 0 (gM_2 cs ad mu) rfl (show vp_in vr 6 from vi_of (by omega) (by omega)) dX12_askedRow_16 ?_
    refine lv_topi (fun y2 ey2 => ?_)
    have hF := mi_let hF ey2
    have by2 : y2.toInt = (mu 2 vr.toNatClampNeg).toInt := congrArg Int32.toInt ey2
    have gy2 : -9 ≤ y2.toInt ∧ y2.toInt ≤ 40 := by rw [ey2]; exact rM_2_s ok vr.toNatClampNeg
    refine lv_if_ge (tgt := 28) hx hb dX12_askedRow_17 (by decide) (fun c_3 => ?_) (fun c_3 => ?_)
    · have hF := (if_pos c_3).symm.trans hF
      have c_3 : 0 ≤ y2.toInt := il_le c_3
      refine lv_iconst (v := 0) hx hb dX12_askedRow_28 (by decide) ?_
      exact W.iret (v := 0) hx hb hr (fun t ht hW => ⟨⟨0, mu, rfl, ⟨hF.trans hfz.symm, Or.inl ⟨rfl, rfl, (by first | assumption | (have hb4 := congrArg Int32.toInt ey2; omega))⟩⟩, by first | (subst ht; exact hP) | (rw [ht]; exact hP) | (show va_P (dC, dI) vwCl (wR 21 ad (EM cs ad) mu) t.heap; rw [ht]; exact hP)⟩, hS.F ht⟩) hS.2.2 dX12_askedRow_29
    · have hF := (if_neg c_3).symm.trans hF
      have c_3 : y2.toInt < 0 := il_nle c_3
      refine lv_aload_n hx hb dX12_askedRow_20 rfl (lv_at hl 0 rfl) ?_
      refine lv_iconst (v := 1) hx hb dX12_askedRow_21 (by decide) ?_
      have hFc := fr_all (wR_D mu hD) hS hA
      refine va_calli (va_runV (As := [.int 1]) (rest := []) ⟨hx, hb, hml, hown, hts⟩ (sm_meet l dC dI cs ad mu ok s.heap hP ((wR_D mu hD).weaken (fun _ _ _ _ => trivial)) 1 (by have h50 : (1 : Int32).toInt = 1 := rfl; omega)) (cwV 1 hts (wU_V mw_5_193 mw_5_190 mw_5_192 mw_0_26 mw_1_13) rfl rfl rfl (by decide +kernel) ⟨Nat.le_of_ble_eq_true rfl, Nat.le_of_ble_eq_true rfl⟩) ⟨sz_c, va_recv hK hP (ci := 12) (q0 := 0) rfl (gM_0 cs ad mu), sz_m hK hz⟩ rfl rfl hl.1 rfl (lv_room (Nat.le_of_ble_eq_true rfl)) dX12_askedRow_22 ⟨Nat.zero_le _, Nat.zero_le _⟩) hS (fun q _ h => hFc q h) hFc (fun r5 xi5 t H5 locs ht hvm hw5 hB hz1 hk1 hS => ?_)
      have hP : va_P (dC, dI) vwCl (wR 21 ad (EM cs ad) xi5) H5 := by rw [← ht]; exact hB
      obtain ⟨hfe5, ok, hw5, hkp5_0⟩ := hw5
      have hF := mi_letp hF hfe5
      have kp6 : (∀ k f : Nat, Nat.testBit 510 (gpM k f) = true → xi5 k f = mu k f) := kp_t hkp5_0 (by decide) (fun _ _ _ => rfl)
      have gr5 : -3 ≤ r5.toInt ∧ r5.toInt ≤ -3 := hw5
      refine lv_goto (tgt := 29) hx hb dX12_askedRow_25 (by decide) ?_
      exact W.iret (v := r5) hx hb hr (fun t ht hW => ⟨⟨r5, xi5, rfl, ⟨hF.trans hfz.symm, Or.inr ⟨by omega, ok, kp6⟩⟩, by first | (subst ht; exact hP) | (rw [ht]; exact hP) | (show va_P (dC, dI) vwCl (wR 21 ad (EM cs ad) xi5) t.heap; rw [ht]; exact hP)⟩, hS.F ht⟩) hS.2.2 dX12_askedRow_29
  · have hF := (if_neg (fun h => absurd (hfe1.trans h) (by decide))).symm.trans hF
    have f1 : vr.toInt < 0 ∨ 5 < vr.toInt := f1
    refine lv_if_ne (tgt := 11) hx hb dX12_askedRow_4 (by decide) (fun c => absurd (by decide) c) (fun _ => ?_)
    refine lv_iconst (v := (-1)) hx hb dX12_askedRow_7 (by decide) ?_
    refine lv_goto (tgt := 29) hx hb dX12_askedRow_8 (by decide) ?_
    exact W.iret (v := (-1)) hx hb hr (fun t ht hW => ⟨⟨(-1), mu, rfl, ⟨hF.trans hfz.symm, Or.inr ⟨by decide, ok, (fun _ _ _ => rfl)⟩⟩, by first | (subst ht; exact hP) | (rw [ht]; exact hP) | (show va_P (dC, dI) vwCl (wR 21 ad (EM cs ad) mu) t.heap; rw [ht]; exact hP)⟩, hS.F ht⟩) hS.2.2 dX12_askedRow_29
set_option maxHeartbeats 4000000 in
set_option maxRecDepth 100000 in
/-- sm_askedText -/
theorem sm_askedText (l : Launch) (dC : Nat → ClassId) (dI : Nat → Nat → Nat) (cs : Nat → ClassId) (ad : Nat → Nat) (mu : Nat → Nat → Int32) (ok : okR loM hiM mu) (H : Heap) (hP : va_P (dC, dI) vwCl (wR 21 ad (EM cs ad) mu) H) (hD0 : va_D (fun _ => True) (wR 21 ad (EM cs ad) mu)) (vt : Int32) : Met l yX12_askedText (wU yX12_askedText cX12_askedText 2 (some .int)) ({ frames := 2, cells := 0, slots := 0, locals := 42 }) (va_Pc [.ref (ad 0), .int vt] (sz_P (dC, dI) vwCl (tyM cs) H)) (va_Qi (fun (z : Int32) (xi : Nat → Nat → Int32) => (z, xi) = F_sm_askedText mu vt ∧ ((z = 0 ∧ xi = mu ∧ (0 ≤ vt.toInt ∧ vt.toInt ≤ 3 ∧ 0 ≤ (mu 5 vt.toNatClampNeg).toInt)) ∨ (z.toInt < 0 ∧ okR loM hiM xi ∧ (∀ k f : Nat, Nat.testBit 510 (gpM k f) = true → xi k f = mu k f)))) (fun xi t => va_P (dC, dI) vwCl (wR 21 ad (EM cs ad) xi) t.heap) (va_A (wR 21 ad (EM cs ad) mu) H.size)) 0 0 (va_A (wR 21 ad (EM cs ad) mu) H.size) := by
  refine Met.ofW (cc := cX12_askedText) (maxL := 2) (ret := (some .int)) (by decide) rfl ?_
  intro p e s m args below meth c s₁ B hml hv
  obtain ⟨rfl, hh, hK, hz⟩ := hv
  have hx := B.exec
  have hb := B.bytes
  have hr := B.returns
  have hts := atoms_spec (ws := (wU yX12_askedText cX12_askedText 2 (some .int))) B.pre
  have hown : s.vm.findClass RX12 = some m.cls := findClass_of_methodNamed B.named
  have hlocks := B.notSynchronized
  subst hh
  have hD := hD0.self (sz := s.heap.size)
  have hA : ∀ q : Nat, s.heap.size ≤ q → (va_A (wR 21 ad (EM cs ad) mu) s.heap.size) q := fun q h => Or.inr h
  have hS : va_S (va_A (wR 21 ad (EM cs ad) mu) s.heap.size) s.heap s.heap [] := va_S.rf
  have hl := lv_entry ([.ref (ad 0), .int vt]) (n := 2) (Nat.le_of_ble_eq_true rfl)
  rw [lg_entry_eq]
  generalize (lg_sl ([.ref (ad 0), .int vt]) ++ List.replicate (2 - (lg_sl ([.ref (ad 0), .int vt])).length) Slot.unset).toArray = ls at hl ⊢
  have hl : lv_has ls 2 [(0, .ref (ad 0)), (1, .int vt)] := hl
  obtain ⟨fz, hfz⟩ : ∃ z, F_sm_askedText mu vt = z := ⟨_, rfl⟩
  have hF := hfz
  unfold F_sm_askedText at hF
  refine lv_iload_n hx hb dX12_askedText_0 rfl (lv_at hl 1 rfl) ?_
  refine cr_i (va_runS (As := [.int vt]) (rest := []) ⟨hx, hb, hml, hown, hts⟩ (sm_isText l dC dI (tyM cs) s.heap vt) (va_cwS 1 hts (wU_S mw_5_237 mw_5_235 mw_5_236 mw_1_13) rfl rfl rfl (by decide +kernel) ⟨Nat.le_of_ble_eq_true rfl, Nat.le_of_ble_eq_true rfl⟩) ⟨sz_c, sz_m hK hz⟩ rfl rfl hl.1 rfl (lv_room (Nat.le_of_ble_eq_true rfl)) dX12_askedText_1 ⟨Nat.zero_le _, Nat.zero_le _⟩) hS (fun r1 hw1 locs hS => ?_)
  obtain ⟨hfe1, hw1⟩ := hw1
  rcases hw1 with ⟨rfl, f1⟩ | ⟨rfl, f1⟩
  · have hF := (if_pos hfe1.symm).symm.trans hF
    have f1 : 0 ≤ vt.toInt ∧ vt.toInt ≤ 3 := f1
    refine lv_if_ne (tgt := 11) hx hb dX12_askedText_4 (by decide) (fun _ => ?_) (fun c => absurd c (by decide))
    refine lv_aload_n hx hb dX12_askedText_11 rfl (lv_at hl 0 rfl) ?_
    refine va_get (D := (dC, dI)) (ci := 12) (v := .ref (ad 5)) (C := RX12) (T := TX12) (N := 46) hx hb hts inG12 hown hK hP 0 (gM_0 cs ad mu) rfl 6 (by decide) (hts _ (List.mem_cons_of_mem _ mw_5_47)) (fun _ h9 => h9) rfl dX12_askedText_12 ?_
    refine lv_iload_n hx hb dX12_askedText_15 rfl (lv_at hl 1 rfl) ?_
    refine va_iald hx hb hK hP 5 0 (gM_5 cs ad mu) rfl (show vp_in vt 4 from vi_of (by omega) (by omega)) dX12_askedText_16 ?_
    refine lv_topi (fun y2 ey2 => ?_)
    have hF := mi_let hF ey2
    have by2 : y2.toInt = (mu 5 vt.toNatClampNeg).toInt := congrArg Int32.toInt ey2
    have gy2 : -9 ≤ y2.toInt ∧ y2.toInt ≤ 80 := by rw [ey2]; exact rM_5_s ok vt.toNatClampNeg
    refine lv_if_ge (tgt := 28) hx hb dX12_askedText_17 (by decide) (fun c_3 => ?_) (fun c_3 => ?_)
    · have hF := (if_pos c_3).symm.trans hF
      have c_3 : 0 ≤ y2.toInt := il_le c_3
      refine lv_iconst (v := 0) hx hb dX12_askedText_28 (by decide) ?_
      exact W.iret (v := 0) hx hb hr (fun t ht hW => ⟨⟨0, mu, rfl, ⟨hF.trans hfz.symm, Or.inl ⟨rfl, rfl, (by first | assumption | (have hb4 := congrArg Int32.toInt ey2; omega))⟩⟩, by first | (subst ht; exact hP) | (rw [ht]; exact hP) | (show va_P (dC, dI) vwCl (wR 21 ad (EM cs ad) mu) t.heap; rw [ht]; exact hP)⟩, hS.F ht⟩) hS.2.2 dX12_askedText_29
    · have hF := (if_neg c_3).symm.trans hF
      have c_3 : y2.toInt < 0 := il_nle c_3
      refine lv_aload_n hx hb dX12_askedText_20 rfl (lv_at hl 0 rfl) ?_
      refine lv_iconst (v := 1) hx hb dX12_askedText_21 (by decide) ?_
      have hFc := fr_all (wR_D mu hD) hS hA
      refine va_calli (va_runV (As := [.int 1]) (rest := []) ⟨hx, hb, hml, hown, hts⟩ (sm_meet l dC dI cs ad mu ok s.heap hP ((wR_D mu hD).weaken (fun _ _ _ _ => trivial)) 1 (by have h50 : (1 : Int32).toInt = 1 := rfl; omega)) (cwV 1 hts (wU_V mw_5_193 mw_5_190 mw_5_192 mw_0_26 mw_1_13) rfl rfl rfl (by decide +kernel) ⟨Nat.le_of_ble_eq_true rfl, Nat.le_of_ble_eq_true rfl⟩) ⟨sz_c, va_recv hK hP (ci := 12) (q0 := 0) rfl (gM_0 cs ad mu), sz_m hK hz⟩ rfl rfl hl.1 rfl (lv_room (Nat.le_of_ble_eq_true rfl)) dX12_askedText_22 ⟨Nat.zero_le _, Nat.zero_le _⟩) hS (fun q _ h => hFc q h) hFc (fun r5 xi5 t H5 locs ht hvm hw5 hB hz1 hk1 hS => ?_)
      have hP : va_P (dC, dI) vwCl (wR 21 ad (EM cs ad) xi5) H5 := by rw [← ht]; exact hB
      obtain ⟨hfe5, ok, hw5, hkp5_0⟩ := hw5
      have hF := mi_letp hF hfe5
      have kp6 : (∀ k f : Nat, Nat.testBit 510 (gpM k f) = true → xi5 k f = mu k f) := kp_t hkp5_0 (by decide) (fun _ _ _ => rfl)
      have gr5 : -3 ≤ r5.toInt ∧ r5.toInt ≤ -3 := hw5
      refine lv_goto (tgt := 29) hx hb dX12_askedText_25 (by decide) ?_
      exact W.iret (v := r5) hx hb hr (fun t ht hW => ⟨⟨r5, xi5, rfl, ⟨hF.trans hfz.symm, Or.inr ⟨by omega, ok, kp6⟩⟩, by first | (subst ht; exact hP) | (rw [ht]; exact hP) | (show va_P (dC, dI) vwCl (wR 21 ad (EM cs ad) xi5) t.heap; rw [ht]; exact hP)⟩, hS.F ht⟩) hS.2.2 dX12_askedText_29
  · have hF := (if_neg (fun h => absurd (hfe1.trans h) (by decide))).symm.trans hF
    have f1 : vt.toInt < 0 ∨ 3 < vt.toInt := f1
    refine lv_if_ne (tgt := 11) hx hb dX12_askedText_4 (by decide) (fun c => absurd (by decide) c) (fun _ => ?_)
    refine lv_iconst (v := (-1)) hx hb dX12_askedText_7 (by decide) ?_
    refine lv_goto (tgt := 29) hx hb dX12_askedText_8 (by decide) ?_
    exact W.iret (v := (-1)) hx hb hr (fun t ht hW => ⟨⟨(-1), mu, rfl, ⟨hF.trans hfz.symm, Or.inr ⟨by decide, ok, (fun _ _ _ => rfl)⟩⟩, by first | (subst ht; exact hP) | (rw [ht]; exact hP) | (show va_P (dC, dI) vwCl (wR 21 ad (EM cs ad) mu) t.heap; rw [ht]; exact hP)⟩, hS.F ht⟩) hS.2.2 dX12_askedText_29
set_option maxHeartbeats 4000000 in
set_option maxRecDepth 100000 in
/-- sm_rowAt -/
theorem sm_rowAt (l : Launch) (dC : Nat → ClassId) (dI : Nat → Nat → Nat) (cs : Nat → ClassId) (ad : Nat → Nat) (mu : Nat → Nat → Int32) (ok : okR loM hiM mu) (H : Heap) (hP : va_P (dC, dI) vwCl (wR 21 ad (EM cs ad) mu) H) (vr : Int32) (vi : Int32) (hin0 : 0 ≤ vr.toInt ∧ vr.toInt ≤ 5 ∧ 0 ≤ vi.toInt ∧ vi.toInt ≤ 39) : Met l yX12_rowAt (wU yX12_rowAt cX12_rowAt 3 (some .int)) ({ frames := 0, cells := 0, slots := 0, locals := 0 }) (va_Pc [.ref (ad 0), .int vr, .int vi] (sz_P (dC, dI) vwCl (tyM cs) H)) (va_Qi (fun (z : Int32) (_ : Unit) => z = F_sm_rowAt mu vr vi ∧ (True)) (fun _ t => t.heap = H) (fun _ => False)) 0 0 (fun _ => False) := by
  refine Met.ofW (cc := cX12_rowAt) (maxL := 3) (ret := (some .int)) (by decide) rfl ?_
  intro p e s m args below meth c s₁ B hml hv
  obtain ⟨rfl, hh, hK, hz⟩ := hv
  have hx := B.exec
  have hb := B.bytes
  have hr := B.returns
  have hts := atoms_spec (ws := (wU yX12_rowAt cX12_rowAt 3 (some .int))) B.pre
  have hown : s.vm.findClass RX12 = some m.cls := findClass_of_methodNamed B.named
  have hlocks := B.notSynchronized
  subst hh
  have hS : va_S (fun _ => False) s.heap s.heap [] := va_S.rf
  have hl := lv_entry ([.ref (ad 0), .int vr, .int vi]) (n := 3) (Nat.le_of_ble_eq_true rfl)
  rw [lg_entry_eq]
  generalize (lg_sl ([.ref (ad 0), .int vr, .int vi]) ++ List.replicate (3 - (lg_sl ([.ref (ad 0), .int vr, .int vi])).length) Slot.unset).toArray = ls at hl ⊢
  have hl : lv_has ls 3 [(0, .ref (ad 0)), (1, .int vr), (2, .int vi)] := hl
  obtain ⟨fz, hfz⟩ : ∃ z, F_sm_rowAt mu vr vi = z := ⟨_, rfl⟩
  have hF := hfz
  unfold F_sm_rowAt at hF
  refine lv_aload_n hx hb dX12_rowAt_0 rfl (lv_at hl 0 rfl) ?_
  refine va_get (D := (dC, dI)) (ci := 12) (v := .ref (ad 3)) (C := RX12) (T := TX12) (N := 46) hx hb hts inG12 hown hK hP 0 (gM_0 cs ad mu) rfl 4 (by decide) (hts _ (List.mem_cons_of_mem _ mw_5_45)) (fun _ h9 => h9) rfl dX12_rowAt_1 ?_
  refine lv_bipush (v := 40) hx hb dX12_rowAt_4 (by decide) ?_
  refine lv_iload_n hx hb dX12_rowAt_6 rfl (lv_at hl 1 rfl) ?_
  refine lv_imul hx hb dX12_rowAt_7 ?_
  refine lv_topi (fun t1 et1 => ?_)
  have hF := mi_let hF et1
  have at1 : t1.toInt = 40 * vr.toInt := by rw [et1]; exact tI_mul (rfl : (40 : Int32).toInt = 40) (rfl : vr.toInt = _) (by omega) (by omega)
  refine lv_iload_n hx hb dX12_rowAt_8 rfl (lv_at hl 2 rfl) ?_
  refine lv_iadd hx hb dX12_rowAt_9 ?_
  refine lv_topi (fun t2 et2 => ?_)
  have hF := mi_let hF et2
  have at2 : t2.toInt = t1.toInt + vi.toInt := by rw [et2]; exact tI_add (rfl : t1.toInt = _) (rfl : vi.toInt = _) (by omega) (by omega)
  refine va_iald hx hb hK hP 3 0 (gM_3 cs ad mu) rfl (show vp_in t2 240 from vi_of (by omega) (by omega)) dX12_rowAt_10 ?_
  refine lv_topi (fun y3 ey3 => ?_)
  have hF := mi_let hF ey3
  have by3 : y3.toInt = (mu 3 t2.toNatClampNeg).toInt := congrArg Int32.toInt ey3
  exact W.iret (v := y3) hx hb hr (fun t ht hW => ⟨⟨y3, (), rfl, ⟨hF.trans hfz.symm, trivial⟩, ht⟩, hS.F ht⟩) hS.2.2 dX12_rowAt_11
set_option maxHeartbeats 4000000 in
set_option maxRecDepth 100000 in
/-- sm_setRow -/
theorem sm_setRow (l : Launch) (dC : Nat → ClassId) (dI : Nat → Nat → Nat) (cs : Nat → ClassId) (ad : Nat → Nat) (mu : Nat → Nat → Int32) (ok : okR loM hiM mu) (H : Heap) (hP : va_P (dC, dI) vwCl (wR 21 ad (EM cs ad) mu) H) (hD0 : va_D (fun _ => True) (wR 21 ad (EM cs ad) mu)) (vr : Int32) (vi : Int32) (vv : Int32) (hin0 : 0 ≤ vr.toInt ∧ vr.toInt ≤ 5 ∧ 0 ≤ vi.toInt ∧ vi.toInt ≤ 39) : Met l yX12_setRow (wU yX12_setRow cX12_setRow 4 none) ({ frames := 0, cells := 0, slots := 0, locals := 0 }) (va_Pc [.ref (ad 0), .int vr, .int vi, .int vv] (sz_P (dC, dI) vwCl (tyM cs) H)) (va_Qv (fun (xi : Nat → Nat → Int32) => xi = F_sm_setRow mu vr vi vv ∧ okR loM hiM xi ∧ (True) ∧ (∀ k f : Nat, Nat.testBit 510 (gpM k f) = true → xi k f = mu k f)) (fun xi t => va_P (dC, dI) vwCl (wR 21 ad (EM cs ad) xi) t.heap) (va_A (wR 21 ad (EM cs ad) mu) H.size)) 0 0 (va_A (wR 21 ad (EM cs ad) mu) H.size) := by
  refine Met.ofW (cc := cX12_setRow) (maxL := 4) (ret := none) (by decide) rfl ?_
  intro p e s m args below meth c s₁ B hml hv
  obtain ⟨rfl, hh, hK, hz⟩ := hv
  have hx := B.exec
  have hb := B.bytes
  have hr := B.returns
  have hts := atoms_spec (ws := (wU yX12_setRow cX12_setRow 4 none)) B.pre
  have hown : s.vm.findClass RX12 = some m.cls := findClass_of_methodNamed B.named
  have hlocks := B.notSynchronized
  subst hh
  have hD := hD0.self (sz := s.heap.size)
  have hA : ∀ q : Nat, s.heap.size ≤ q → (va_A (wR 21 ad (EM cs ad) mu) s.heap.size) q := fun q h => Or.inr h
  have hS : va_S (va_A (wR 21 ad (EM cs ad) mu) s.heap.size) s.heap s.heap [] := va_S.rf
  have hl := lv_entry ([.ref (ad 0), .int vr, .int vi, .int vv]) (n := 4) (Nat.le_of_ble_eq_true rfl)
  rw [lg_entry_eq]
  generalize (lg_sl ([.ref (ad 0), .int vr, .int vi, .int vv]) ++ List.replicate (4 - (lg_sl ([.ref (ad 0), .int vr, .int vi, .int vv])).length) Slot.unset).toArray = ls at hl ⊢
  have hl : lv_has ls 4 [(0, .ref (ad 0)), (1, .int vr), (2, .int vi), (3, .int vv)] := hl
  obtain ⟨fz, hfz⟩ : ∃ z, F_sm_setRow mu vr vi vv = z := ⟨_, rfl⟩
  have hF := hfz
  unfold F_sm_setRow at hF
  refine lv_aload_n hx hb dX12_setRow_0 rfl (lv_at hl 0 rfl) ?_
  refine va_get (D := (dC, dI)) (ci := 12) (v := .ref (ad 3)) (C := RX12) (T := TX12) (N := 46) hx hb hts inG12 hown hK hP 0 (gM_0 cs ad mu) rfl 4 (by decide) (hts _ (List.mem_cons_of_mem _ mw_5_45)) (fun _ h9 => h9) rfl dX12_setRow_1 ?_
  refine lv_bipush (v := 40) hx hb dX12_setRow_4 (by decide) ?_
  refine lv_iload_n hx hb dX12_setRow_6 rfl (lv_at hl 1 rfl) ?_
  refine lv_imul hx hb dX12_setRow_7 ?_
  refine lv_topi (fun t1 et1 => ?_)
  have hF := mi_let hF et1
  have at1 : t1.toInt = 40 * vr.toInt := by rw [et1]; exact tI_mul (rfl : (40 : Int32).toInt = 40) (rfl : vr.toInt = _) (by omega) (by omega)
  refine lv_iload_n hx hb dX12_setRow_8 rfl (lv_at hl 2 rfl) ?_
  refine lv_iadd hx hb dX12_setRow_9 ?_
  refine lv_topi (fun t2 et2 => ?_)
  have hF := mi_let hF et2
  have at2 : t2.toInt = t1.toInt + vi.toInt := by rw [et2]; exact tI_add (rfl : t1.toInt = _) (rfl : vi.toInt = _) (by omega) (by omega)
  refine lv_iload_n hx hb dX12_setRow_10 rfl (lv_at hl 3 rfl) ?_
  refine va_iast hx hb hK hP (wR_D mu hD) hS 3 0 (gM_3 cs ad mu) rfl (show vp_in t2 240 from vi_of (by omega) (by omega)) dX12_setRow_11 (fun H locs hP _ hS => ?_)
  refine wr_gen (upd (mu 3) t2.toNatClampNeg vv) hP (rfl) (fun nu3 hn3 hP => ?_)
  have hF := mi_let hF hn3.symm
  have ok := tM_3_s ok t2.toNatClampNeg hn3
  have kp4 : (∀ k f : Nat, Nat.testBit 510 (gpM k f) = true → nu3 k f = mu k f) := kp_c 0 hn3 (fun _ => rfl) (by decide) (fun _ _ _ => rfl)
  exact W.vret hx hb hr (fun t ht hW => ⟨⟨nu3, rfl, ⟨hF.trans hfz.symm, ok, trivial, kp4⟩, by first | (subst ht; exact hP) | (rw [ht]; exact hP) | (show va_P (dC, dI) vwCl (wR 21 ad (EM cs ad) nu3) t.heap; rw [ht]; exact hP)⟩, hS.F ht⟩) hS.2.2 dX12_setRow_12
theorem mw_5_197 : (Cond.code yX12_setRow cX12_setRow 4 none : Cond) ∈ lw_good := lg_at 5 197 rfl rfl
theorem mw_5_194 : (Cond.methodLink RX12 92 yX12_setRow : Cond) ∈ lw_good := lg_at 5 194 rfl rfl
theorem mw_5_196 : (Cond.instanceMethod yX12_setRow : Cond) ∈ lw_good := lg_at 5 196 rfl rfl
theorem mw_0_27 : (Cond.selects RX12 yX12_setRow yX12_setRow : Cond) ∈ lw_good := lg_at 0 27 rfl rfl
theorem mw_5_205 : (Cond.code yX12_askedRow cX12_askedRow 2 (some .int) : Cond) ∈ lw_good := lg_at 5 205 rfl rfl
theorem mw_5_202 : (Cond.methodLink RX12 96 yX12_askedRow : Cond) ∈ lw_good := lg_at 5 202 rfl rfl
theorem mw_5_204 : (Cond.instanceMethod yX12_askedRow : Cond) ∈ lw_good := lg_at 5 204 rfl rfl
theorem mw_0_28 : (Cond.selects RX12 yX12_askedRow yX12_askedRow : Cond) ∈ lw_good := lg_at 0 28 rfl rfl
theorem mw_5_209 : (Cond.code yX12_rowAt cX12_rowAt 3 (some .int) : Cond) ∈ lw_good := lg_at 5 209 rfl rfl
theorem mw_5_206 : (Cond.methodLink RX12 99 yX12_rowAt : Cond) ∈ lw_good := lg_at 5 206 rfl rfl
theorem mw_5_208 : (Cond.instanceMethod yX12_rowAt : Cond) ∈ lw_good := lg_at 5 208 rfl rfl
theorem mw_0_29 : (Cond.selects RX12 yX12_rowAt yX12_rowAt : Cond) ∈ lw_good := lg_at 0 29 rfl rfl
theorem mw_5_213 : (Cond.code yX12_ask cX12_ask 3 (some .int) : Cond) ∈ lw_good := lg_at 5 213 rfl rfl
theorem mw_5_210 : (Cond.methodLink RX12 103 yX12_ask : Cond) ∈ lw_good := lg_at 5 210 rfl rfl
theorem mw_5_212 : (Cond.instanceMethod yX12_ask : Cond) ∈ lw_good := lg_at 5 212 rfl rfl
theorem mw_0_30 : (Cond.selects RX12 yX12_ask yX12_ask : Cond) ∈ lw_good := lg_at 0 30 rfl rfl
theorem mw_5_201 : (Cond.code yX12_at cX12_at 4 (some .int) : Cond) ∈ lw_good := lg_at 5 201 rfl rfl
theorem mw_5_218 : (Cond.methodLink RX12 106 yX12_at : Cond) ∈ lw_good := lg_at 5 218 rfl rfl
theorem mw_5_199 : (Cond.instanceMethod yX12_at : Cond) ∈ lw_good := lg_at 5 199 rfl rfl
theorem mw_5_200 : (Cond.selects RX12 yX12_at yX12_at : Cond) ∈ lw_good := lg_at 5 200 rfl rfl
theorem mw_5_46 : (Cond.fieldLink RX12 19 "DearLettersModel" "moving" "[I" : Cond) ∈ lw_good := lg_at 5 46 rfl rfl
theorem mw_5_48 : (Cond.fieldLink RX12 25 "DearLettersModel" "texts" "[I" : Cond) ∈ lw_good := lg_at 5 48 rfl rfl
theorem mw_6_5 : (Cond.code yX12_askedText cX12_askedText 2 (some .int) : Cond) ∈ lw_good := lg_at 6 5 rfl rfl
theorem mw_6_2 : (Cond.methodLink RX12 109 yX12_askedText : Cond) ∈ lw_good := lg_at 6 2 rfl rfl
theorem mw_6_4 : (Cond.instanceMethod yX12_askedText : Cond) ∈ lw_good := lg_at 6 4 rfl rfl
theorem mw_0_31 : (Cond.selects RX12 yX12_askedText yX12_askedText : Cond) ∈ lw_good := lg_at 0 31 rfl rfl
theorem tM_2_s {mu : Nat → Nat → Int32} (ok : okR loM hiM mu) {nu : Nat → Nat → Int32} {v : Int32} (f : Nat) (hn : va_up mu 2 (upd (mu 2) f v) = nu) (hv : -9 ≤ v.toInt ∧ v.toInt ≤ 40) : okR loM hiM nu := by
  subst hn
  exact okR_up ok 2 f v hv.1 hv.2
theorem tM_4_s {mu : Nat → Nat → Int32} (ok : okR loM hiM mu) {nu : Nat → Nat → Int32} {v : Int32} (f : Nat) (hn : va_up mu 4 (upd (mu 4) f v) = nu) : okR loM hiM nu := by
  subst hn
  exact okR_up ok 4 f v (tI_lo v) (tI_hi v)
theorem tM_5_s {mu : Nat → Nat → Int32} (ok : okR loM hiM mu) {nu : Nat → Nat → Int32} {v : Int32} (f : Nat) (hn : va_up mu 5 (upd (mu 5) f v) = nu) (hv : -9 ≤ v.toInt ∧ v.toInt ≤ 80) : okR loM hiM nu := by
  subst hn
  exact okR_up ok 5 f v hv.1 hv.2
theorem tM_6_s {mu : Nat → Nat → Int32} (ok : okR loM hiM mu) {nu : Nat → Nat → Int32} {v : Int32} (f : Nat) (hn : va_up mu 6 (upd (mu 6) f v) = nu) : okR loM hiM nu := by
  subst hn
  exact okR_up ok 6 f v (tI_lo v) (tI_hi v)
theorem lb_X12_row_0 : dl_ck (cX12_row.data.toList.drop 0) [27, 184, 0, 81, 153, 0, 9, 28, 16, 40, 164, 0, 5, 2, 172, 28, 156, 0, 9, 42, 8, 182, 0, 85, 172, 42, 180, 0, 13, 27, 28, 79] = true := by decide +kernel
theorem lb_X12_row_1 : dl_ck (cX12_row.data.toList.drop 32) [3, 62, 29, 16, 40, 162, 0, 16, 42, 27, 29, 3, 182, 0, 92, 132, 3, 1, 167, 255, 240, 28, 172] = true := by decide +kernel
theorem dX12_row_0 : decode cX12_row 0 = .ok (.iload_n 1, 1) := dx_27 (dl_at 0 0 lb_X12_row_0 rfl)
theorem dX12_row_1 : decode cX12_row 1 = .ok (.invokestatic 81, 3) := dx_184 (a := 0) (b := 81) (dl_at 0 1 lb_X12_row_0 rfl) (dl_at 0 2 lb_X12_row_0 rfl) (dl_at 0 3 lb_X12_row_0 rfl) rfl
theorem dX12_row_4 : decode cX12_row 4 = .ok (.ifCond .eq 9, 3) := dx_153 (a := 0) (b := 9) (dl_at 0 4 lb_X12_row_0 rfl) (dl_at 0 5 lb_X12_row_0 rfl) (dl_at 0 6 lb_X12_row_0 rfl) sg16_9
theorem dX12_row_7 : decode cX12_row 7 = .ok (.iload_n 2, 1) := dx_28 (dl_at 0 7 lb_X12_row_0 rfl)
theorem dX12_row_8 : decode cX12_row 8 = .ok (.bipush 40, 2) := dx_16 (dl_at 0 8 lb_X12_row_0 rfl) (dl_at 0 9 lb_X12_row_0 rfl) sg8_40
theorem dX12_row_10 : decode cX12_row 10 = .ok (.if_icmp .le 5, 3) := dx_164 (a := 0) (b := 5) (dl_at 0 10 lb_X12_row_0 rfl) (dl_at 0 11 lb_X12_row_0 rfl) (dl_at 0 12 lb_X12_row_0 rfl) sg16_5
theorem dX12_row_15 : decode cX12_row 15 = .ok (.iload_n 2, 1) := dx_28 (dl_at 0 15 lb_X12_row_0 rfl)
theorem dX12_row_16 : decode cX12_row 16 = .ok (.ifCond .ge 9, 3) := dx_156 (a := 0) (b := 9) (dl_at 0 16 lb_X12_row_0 rfl) (dl_at 0 17 lb_X12_row_0 rfl) (dl_at 0 18 lb_X12_row_0 rfl) sg16_9
theorem dX12_row_25 : decode cX12_row 25 = .ok (.aload_n 0, 1) := dx_42 (dl_at 0 25 lb_X12_row_0 rfl)
theorem dX12_row_26 : decode cX12_row 26 = .ok (.getfield 13, 3) := dx_180 (a := 0) (b := 13) (dl_at 0 26 lb_X12_row_0 rfl) (dl_at 0 27 lb_X12_row_0 rfl) (dl_at 0 28 lb_X12_row_0 rfl) rfl
theorem dX12_row_29 : decode cX12_row 29 = .ok (.iload_n 1, 1) := dx_27 (dl_at 0 29 lb_X12_row_0 rfl)
theorem dX12_row_30 : decode cX12_row 30 = .ok (.iload_n 2, 1) := dx_28 (dl_at 0 30 lb_X12_row_0 rfl)
theorem dX12_row_31 : decode cX12_row 31 = .ok (.iastore, 1) := dx_79 (dl_at 0 31 lb_X12_row_0 rfl)
theorem dX12_row_32 : decode cX12_row 32 = .ok (.iconst 0, 1) := dx_3 (dl_at 32 0 lb_X12_row_1 rfl)
theorem dX12_row_33 : decode cX12_row 33 = .ok (.istore_n 3, 1) := dx_62 (dl_at 32 1 lb_X12_row_1 rfl)
theorem dX12_row_34 : decode cX12_row 34 = .ok (.iload_n 3, 1) := dx_29 (dl_at 32 2 lb_X12_row_1 rfl)
theorem dX12_row_35 : decode cX12_row 35 = .ok (.bipush 40, 2) := dx_16 (dl_at 32 3 lb_X12_row_1 rfl) (dl_at 32 4 lb_X12_row_1 rfl) sg8_40
theorem dX12_row_37 : decode cX12_row 37 = .ok (.if_icmp .ge 16, 3) := dx_162 (a := 0) (b := 16) (dl_at 32 5 lb_X12_row_1 rfl) (dl_at 32 6 lb_X12_row_1 rfl) (dl_at 32 7 lb_X12_row_1 rfl) sg16_16
theorem dX12_row_53 : decode cX12_row 53 = .ok (.iload_n 2, 1) := dx_28 (dl_at 32 21 lb_X12_row_1 rfl)
theorem dX12_row_54 : decode cX12_row 54 = .ok (.ireturn, 1) := dx_172 (dl_at 32 22 lb_X12_row_1 rfl)
theorem dX12_row_40 : decode cX12_row 40 = .ok (.aload_n 0, 1) := dx_42 (dl_at 32 8 lb_X12_row_1 rfl)
theorem dX12_row_41 : decode cX12_row 41 = .ok (.iload_n 1, 1) := dx_27 (dl_at 32 9 lb_X12_row_1 rfl)
theorem dX12_row_42 : decode cX12_row 42 = .ok (.iload_n 3, 1) := dx_29 (dl_at 32 10 lb_X12_row_1 rfl)
theorem dX12_row_43 : decode cX12_row 43 = .ok (.iconst 0, 1) := dx_3 (dl_at 32 11 lb_X12_row_1 rfl)
theorem dX12_row_44 : decode cX12_row 44 = .ok (.invokevirtual 92, 3) := dx_182 (a := 0) (b := 92) (dl_at 32 12 lb_X12_row_1 rfl) (dl_at 32 13 lb_X12_row_1 rfl) (dl_at 32 14 lb_X12_row_1 rfl) rfl
theorem dX12_row_47 : decode cX12_row 47 = .ok (.iinc 3 1, 3) := dx_132 (dl_at 32 15 lb_X12_row_1 rfl) (dl_at 32 16 lb_X12_row_1 rfl) (dl_at 32 17 lb_X12_row_1 rfl) sg8_1
theorem dX12_row_50 : decode cX12_row 50 = .ok (.goto (-16), 3) := dx_167 (a := 255) (b := 240) (dl_at 32 18 lb_X12_row_1 rfl) (dl_at 32 19 lb_X12_row_1 rfl) (dl_at 32 20 lb_X12_row_1 rfl) sg16_65520
theorem dX12_row_19 : decode cX12_row 19 = .ok (.aload_n 0, 1) := dx_42 (dl_at 0 19 lb_X12_row_0 rfl)
theorem dX12_row_20 : decode cX12_row 20 = .ok (.iconst 5, 1) := dx_8 (dl_at 0 20 lb_X12_row_0 rfl)
theorem dX12_row_21 : decode cX12_row 21 = .ok (.invokevirtual 85, 3) := dx_182 (a := 0) (b := 85) (dl_at 0 21 lb_X12_row_0 rfl) (dl_at 0 22 lb_X12_row_0 rfl) (dl_at 0 23 lb_X12_row_0 rfl) rfl
theorem dX12_row_24 : decode cX12_row 24 = .ok (.ireturn, 1) := dx_172 (dl_at 0 24 lb_X12_row_0 rfl)
theorem dX12_row_13 : decode cX12_row 13 = .ok (.iconst (-1), 1) := dx_2 (dl_at 0 13 lb_X12_row_0 rfl)
theorem dX12_row_14 : decode cX12_row 14 = .ok (.ireturn, 1) := dx_172 (dl_at 0 14 lb_X12_row_0 rfl)
theorem lb_X12_at_0 : dl_ck (cX12_at.data.toList.drop 0) [42, 27, 182, 0, 96, 62, 29, 156, 0, 5, 29, 172, 28, 3, 42, 180, 0, 13, 27, 46, 4, 100, 184, 0, 77, 153, 0, 17, 42, 42, 27, 28] = true := by decide +kernel
theorem lb_X12_at_1 : dl_ck (cX12_at.data.toList.drop 32) [182, 0, 99, 4, 182, 0, 103, 167, 0, 8, 42, 5, 182, 0, 85, 172] = true := by decide +kernel
theorem dX12_at_0 : decode cX12_at 0 = .ok (.aload_n 0, 1) := dx_42 (dl_at 0 0 lb_X12_at_0 rfl)
theorem dX12_at_1 : decode cX12_at 1 = .ok (.iload_n 1, 1) := dx_27 (dl_at 0 1 lb_X12_at_0 rfl)
theorem dX12_at_2 : decode cX12_at 2 = .ok (.invokevirtual 96, 3) := dx_182 (a := 0) (b := 96) (dl_at 0 2 lb_X12_at_0 rfl) (dl_at 0 3 lb_X12_at_0 rfl) (dl_at 0 4 lb_X12_at_0 rfl) rfl
theorem dX12_at_5 : decode cX12_at 5 = .ok (.istore_n 3, 1) := dx_62 (dl_at 0 5 lb_X12_at_0 rfl)
theorem dX12_at_6 : decode cX12_at 6 = .ok (.iload_n 3, 1) := dx_29 (dl_at 0 6 lb_X12_at_0 rfl)
theorem dX12_at_7 : decode cX12_at 7 = .ok (.ifCond .ge 5, 3) := dx_156 (a := 0) (b := 5) (dl_at 0 7 lb_X12_at_0 rfl) (dl_at 0 8 lb_X12_at_0 rfl) (dl_at 0 9 lb_X12_at_0 rfl) sg16_5
theorem dX12_at_12 : decode cX12_at 12 = .ok (.iload_n 2, 1) := dx_28 (dl_at 0 12 lb_X12_at_0 rfl)
theorem dX12_at_13 : decode cX12_at 13 = .ok (.iconst 0, 1) := dx_3 (dl_at 0 13 lb_X12_at_0 rfl)
theorem dX12_at_14 : decode cX12_at 14 = .ok (.aload_n 0, 1) := dx_42 (dl_at 0 14 lb_X12_at_0 rfl)
theorem dX12_at_15 : decode cX12_at 15 = .ok (.getfield 13, 3) := dx_180 (a := 0) (b := 13) (dl_at 0 15 lb_X12_at_0 rfl) (dl_at 0 16 lb_X12_at_0 rfl) (dl_at 0 17 lb_X12_at_0 rfl) rfl
theorem dX12_at_18 : decode cX12_at 18 = .ok (.iload_n 1, 1) := dx_27 (dl_at 0 18 lb_X12_at_0 rfl)
theorem dX12_at_19 : decode cX12_at 19 = .ok (.iaload, 1) := dx_46 (dl_at 0 19 lb_X12_at_0 rfl)
theorem dX12_at_20 : decode cX12_at 20 = .ok (.iconst 1, 1) := dx_4 (dl_at 0 20 lb_X12_at_0 rfl)
theorem dX12_at_21 : decode cX12_at 21 = .ok (.isub, 1) := dx_100 (dl_at 0 21 lb_X12_at_0 rfl)
theorem dX12_at_22 : decode cX12_at 22 = .ok (.invokestatic 77, 3) := dx_184 (a := 0) (b := 77) (dl_at 0 22 lb_X12_at_0 rfl) (dl_at 0 23 lb_X12_at_0 rfl) (dl_at 0 24 lb_X12_at_0 rfl) rfl
theorem dX12_at_25 : decode cX12_at 25 = .ok (.ifCond .eq 17, 3) := dx_153 (a := 0) (b := 17) (dl_at 0 25 lb_X12_at_0 rfl) (dl_at 0 26 lb_X12_at_0 rfl) (dl_at 0 27 lb_X12_at_0 rfl) sg16_17
theorem dX12_at_28 : decode cX12_at 28 = .ok (.aload_n 0, 1) := dx_42 (dl_at 0 28 lb_X12_at_0 rfl)
theorem dX12_at_29 : decode cX12_at 29 = .ok (.aload_n 0, 1) := dx_42 (dl_at 0 29 lb_X12_at_0 rfl)
theorem dX12_at_30 : decode cX12_at 30 = .ok (.iload_n 1, 1) := dx_27 (dl_at 0 30 lb_X12_at_0 rfl)
theorem dX12_at_31 : decode cX12_at 31 = .ok (.iload_n 2, 1) := dx_28 (dl_at 0 31 lb_X12_at_0 rfl)
theorem dX12_at_32 : decode cX12_at 32 = .ok (.invokevirtual 99, 3) := dx_182 (a := 0) (b := 99) (dl_at 32 0 lb_X12_at_1 rfl) (dl_at 32 1 lb_X12_at_1 rfl) (dl_at 32 2 lb_X12_at_1 rfl) rfl
theorem dX12_at_35 : decode cX12_at 35 = .ok (.iconst 1, 1) := dx_4 (dl_at 32 3 lb_X12_at_1 rfl)
theorem dX12_at_36 : decode cX12_at 36 = .ok (.invokevirtual 103, 3) := dx_182 (a := 0) (b := 103) (dl_at 32 4 lb_X12_at_1 rfl) (dl_at 32 5 lb_X12_at_1 rfl) (dl_at 32 6 lb_X12_at_1 rfl) rfl
theorem dX12_at_39 : decode cX12_at 39 = .ok (.goto 8, 3) := dx_167 (a := 0) (b := 8) (dl_at 32 7 lb_X12_at_1 rfl) (dl_at 32 8 lb_X12_at_1 rfl) (dl_at 32 9 lb_X12_at_1 rfl) sg16_8
theorem dX12_at_47 : decode cX12_at 47 = .ok (.ireturn, 1) := dx_172 (dl_at 32 15 lb_X12_at_1 rfl)
theorem dX12_at_42 : decode cX12_at 42 = .ok (.aload_n 0, 1) := dx_42 (dl_at 32 10 lb_X12_at_1 rfl)
theorem dX12_at_43 : decode cX12_at 43 = .ok (.iconst 2, 1) := dx_5 (dl_at 32 11 lb_X12_at_1 rfl)
theorem dX12_at_44 : decode cX12_at 44 = .ok (.invokevirtual 85, 3) := dx_182 (a := 0) (b := 85) (dl_at 32 12 lb_X12_at_1 rfl) (dl_at 32 13 lb_X12_at_1 rfl) (dl_at 32 14 lb_X12_at_1 rfl) rfl
theorem dX12_at_10 : decode cX12_at 10 = .ok (.iload_n 3, 1) := dx_29 (dl_at 0 10 lb_X12_at_0 rfl)
theorem dX12_at_11 : decode cX12_at 11 = .ok (.ireturn, 1) := dx_172 (dl_at 0 11 lb_X12_at_0 rfl)
theorem lb_X12_lay_0 : dl_ck (cX12_lay.data.toList.drop 0) [42, 27, 28, 182, 0, 106, 54, 4, 21, 4, 156, 0, 6, 21, 4, 172, 42, 27, 28, 29, 182, 0, 92, 4, 172] = true := by decide +kernel
theorem dX12_lay_0 : decode cX12_lay 0 = .ok (.aload_n 0, 1) := dx_42 (dl_at 0 0 lb_X12_lay_0 rfl)
theorem dX12_lay_1 : decode cX12_lay 1 = .ok (.iload_n 1, 1) := dx_27 (dl_at 0 1 lb_X12_lay_0 rfl)
theorem dX12_lay_2 : decode cX12_lay 2 = .ok (.iload_n 2, 1) := dx_28 (dl_at 0 2 lb_X12_lay_0 rfl)
theorem dX12_lay_3 : decode cX12_lay 3 = .ok (.invokevirtual 106, 3) := dx_182 (a := 0) (b := 106) (dl_at 0 3 lb_X12_lay_0 rfl) (dl_at 0 4 lb_X12_lay_0 rfl) (dl_at 0 5 lb_X12_lay_0 rfl) rfl
theorem dX12_lay_6 : decode cX12_lay 6 = .ok (.istore 4, 2) := dx_54 (dl_at 0 6 lb_X12_lay_0 rfl) (dl_at 0 7 lb_X12_lay_0 rfl)
theorem dX12_lay_8 : decode cX12_lay 8 = .ok (.iload 4, 2) := dx_21 (dl_at 0 8 lb_X12_lay_0 rfl) (dl_at 0 9 lb_X12_lay_0 rfl)
theorem dX12_lay_10 : decode cX12_lay 10 = .ok (.ifCond .ge 6, 3) := dx_156 (a := 0) (b := 6) (dl_at 0 10 lb_X12_lay_0 rfl) (dl_at 0 11 lb_X12_lay_0 rfl) (dl_at 0 12 lb_X12_lay_0 rfl) sg16_6
theorem dX12_lay_16 : decode cX12_lay 16 = .ok (.aload_n 0, 1) := dx_42 (dl_at 0 16 lb_X12_lay_0 rfl)
theorem dX12_lay_17 : decode cX12_lay 17 = .ok (.iload_n 1, 1) := dx_27 (dl_at 0 17 lb_X12_lay_0 rfl)
theorem dX12_lay_18 : decode cX12_lay 18 = .ok (.iload_n 2, 1) := dx_28 (dl_at 0 18 lb_X12_lay_0 rfl)
theorem dX12_lay_19 : decode cX12_lay 19 = .ok (.iload_n 3, 1) := dx_29 (dl_at 0 19 lb_X12_lay_0 rfl)
theorem dX12_lay_20 : decode cX12_lay 20 = .ok (.invokevirtual 92, 3) := dx_182 (a := 0) (b := 92) (dl_at 0 20 lb_X12_lay_0 rfl) (dl_at 0 21 lb_X12_lay_0 rfl) (dl_at 0 22 lb_X12_lay_0 rfl) rfl
theorem dX12_lay_23 : decode cX12_lay 23 = .ok (.iconst 1, 1) := dx_4 (dl_at 0 23 lb_X12_lay_0 rfl)
theorem dX12_lay_24 : decode cX12_lay 24 = .ok (.ireturn, 1) := dx_172 (dl_at 0 24 lb_X12_lay_0 rfl)
theorem dX12_lay_13 : decode cX12_lay 13 = .ok (.iload 4, 2) := dx_21 (dl_at 0 13 lb_X12_lay_0 rfl) (dl_at 0 14 lb_X12_lay_0 rfl)
theorem dX12_lay_15 : decode cX12_lay 15 = .ok (.ireturn, 1) := dx_172 (dl_at 0 15 lb_X12_lay_0 rfl)
theorem lb_X12_tear_0 : dl_ck (cX12_tear.data.toList.drop 0) [42, 27, 182, 0, 96, 61, 28, 156, 0, 5, 28, 172, 42, 180, 0, 13, 27, 16, 247, 79, 4, 172] = true := by decide +kernel
theorem dX12_tear_0 : decode cX12_tear 0 = .ok (.aload_n 0, 1) := dx_42 (dl_at 0 0 lb_X12_tear_0 rfl)
theorem dX12_tear_1 : decode cX12_tear 1 = .ok (.iload_n 1, 1) := dx_27 (dl_at 0 1 lb_X12_tear_0 rfl)
theorem dX12_tear_2 : decode cX12_tear 2 = .ok (.invokevirtual 96, 3) := dx_182 (a := 0) (b := 96) (dl_at 0 2 lb_X12_tear_0 rfl) (dl_at 0 3 lb_X12_tear_0 rfl) (dl_at 0 4 lb_X12_tear_0 rfl) rfl
theorem dX12_tear_5 : decode cX12_tear 5 = .ok (.istore_n 2, 1) := dx_61 (dl_at 0 5 lb_X12_tear_0 rfl)
theorem dX12_tear_6 : decode cX12_tear 6 = .ok (.iload_n 2, 1) := dx_28 (dl_at 0 6 lb_X12_tear_0 rfl)
theorem dX12_tear_7 : decode cX12_tear 7 = .ok (.ifCond .ge 5, 3) := dx_156 (a := 0) (b := 5) (dl_at 0 7 lb_X12_tear_0 rfl) (dl_at 0 8 lb_X12_tear_0 rfl) (dl_at 0 9 lb_X12_tear_0 rfl) sg16_5
theorem dX12_tear_12 : decode cX12_tear 12 = .ok (.aload_n 0, 1) := dx_42 (dl_at 0 12 lb_X12_tear_0 rfl)
theorem dX12_tear_13 : decode cX12_tear 13 = .ok (.getfield 13, 3) := dx_180 (a := 0) (b := 13) (dl_at 0 13 lb_X12_tear_0 rfl) (dl_at 0 14 lb_X12_tear_0 rfl) (dl_at 0 15 lb_X12_tear_0 rfl) rfl
theorem dX12_tear_16 : decode cX12_tear 16 = .ok (.iload_n 1, 1) := dx_27 (dl_at 0 16 lb_X12_tear_0 rfl)
theorem dX12_tear_17 : decode cX12_tear 17 = .ok (.bipush (-9), 2) := dx_16 (dl_at 0 17 lb_X12_tear_0 rfl) (dl_at 0 18 lb_X12_tear_0 rfl) sg8_247
theorem dX12_tear_19 : decode cX12_tear 19 = .ok (.iastore, 1) := dx_79 (dl_at 0 19 lb_X12_tear_0 rfl)
theorem dX12_tear_20 : decode cX12_tear 20 = .ok (.iconst 1, 1) := dx_4 (dl_at 0 20 lb_X12_tear_0 rfl)
theorem dX12_tear_21 : decode cX12_tear 21 = .ok (.ireturn, 1) := dx_172 (dl_at 0 21 lb_X12_tear_0 rfl)
theorem dX12_tear_10 : decode cX12_tear 10 = .ok (.iload_n 2, 1) := dx_28 (dl_at 0 10 lb_X12_tear_0 rfl)
theorem dX12_tear_11 : decode cX12_tear 11 = .ok (.ireturn, 1) := dx_172 (dl_at 0 11 lb_X12_tear_0 rfl)
theorem lb_X12_copy_0 : dl_ck (cX12_copy.data.toList.drop 0) [27, 184, 0, 81, 153, 0, 10, 29, 184, 0, 81, 154, 0, 5, 2, 172, 21, 5, 156, 0, 9, 42, 8, 182, 0, 85, 172, 42, 180, 0, 13, 27] = true := by decide +kernel
theorem lb_X12_copy_1 : dl_ck (cX12_copy.data.toList.drop 32) [46, 155, 0, 12, 42, 180, 0, 13, 29, 46, 156, 0, 9, 42, 4, 182, 0, 85, 172, 28, 155, 0, 43, 21, 4, 155, 0, 38, 28, 133, 21, 5] = true := by decide +kernel
theorem lb_X12_copy_2 : dl_ck (cX12_copy.data.toList.drop 64) [133, 97, 42, 180, 0, 13, 27, 46, 133, 148, 157, 0, 21, 21, 4, 133, 21, 5, 133, 97, 42, 180, 0, 13, 29, 46, 133, 148, 158, 0, 9, 42] = true := by decide +kernel
theorem lb_X12_copy_3 : dl_ck (cX12_copy.data.toList.drop 96) [5, 182, 0, 85, 172, 3, 54, 6, 21, 6, 21, 5, 162, 0, 25, 42, 180, 0, 19, 21, 6, 42, 27, 28, 21, 6, 96, 182, 0, 99, 79, 132] = true := by decide +kernel
theorem lb_X12_copy_4 : dl_ck (cX12_copy.data.toList.drop 128) [6, 1, 167, 255, 230, 3, 54, 6, 21, 6, 21, 5, 162, 0, 26, 42, 29, 21, 4, 21, 6, 96, 42, 180, 0, 19, 21, 6, 46, 182, 0, 92] = true := by decide +kernel
theorem lb_X12_copy_5 : dl_ck (cX12_copy.data.toList.drop 160) [132, 6, 1, 167, 255, 229, 4, 172] = true := by decide +kernel
theorem dX12_copy_0 : decode cX12_copy 0 = .ok (.iload_n 1, 1) := dx_27 (dl_at 0 0 lb_X12_copy_0 rfl)
theorem dX12_copy_1 : decode cX12_copy 1 = .ok (.invokestatic 81, 3) := dx_184 (a := 0) (b := 81) (dl_at 0 1 lb_X12_copy_0 rfl) (dl_at 0 2 lb_X12_copy_0 rfl) (dl_at 0 3 lb_X12_copy_0 rfl) rfl
theorem dX12_copy_4 : decode cX12_copy 4 = .ok (.ifCond .eq 10, 3) := dx_153 (a := 0) (b := 10) (dl_at 0 4 lb_X12_copy_0 rfl) (dl_at 0 5 lb_X12_copy_0 rfl) (dl_at 0 6 lb_X12_copy_0 rfl) sg16_10
theorem dX12_copy_7 : decode cX12_copy 7 = .ok (.iload_n 3, 1) := dx_29 (dl_at 0 7 lb_X12_copy_0 rfl)
theorem dX12_copy_8 : decode cX12_copy 8 = .ok (.invokestatic 81, 3) := dx_184 (a := 0) (b := 81) (dl_at 0 8 lb_X12_copy_0 rfl) (dl_at 0 9 lb_X12_copy_0 rfl) (dl_at 0 10 lb_X12_copy_0 rfl) rfl
theorem dX12_copy_11 : decode cX12_copy 11 = .ok (.ifCond .ne 5, 3) := dx_154 (a := 0) (b := 5) (dl_at 0 11 lb_X12_copy_0 rfl) (dl_at 0 12 lb_X12_copy_0 rfl) (dl_at 0 13 lb_X12_copy_0 rfl) sg16_5
theorem dX12_copy_16 : decode cX12_copy 16 = .ok (.iload 5, 2) := dx_21 (dl_at 0 16 lb_X12_copy_0 rfl) (dl_at 0 17 lb_X12_copy_0 rfl)
theorem dX12_copy_18 : decode cX12_copy 18 = .ok (.ifCond .ge 9, 3) := dx_156 (a := 0) (b := 9) (dl_at 0 18 lb_X12_copy_0 rfl) (dl_at 0 19 lb_X12_copy_0 rfl) (dl_at 0 20 lb_X12_copy_0 rfl) sg16_9
theorem dX12_copy_27 : decode cX12_copy 27 = .ok (.aload_n 0, 1) := dx_42 (dl_at 0 27 lb_X12_copy_0 rfl)
theorem dX12_copy_28 : decode cX12_copy 28 = .ok (.getfield 13, 3) := dx_180 (a := 0) (b := 13) (dl_at 0 28 lb_X12_copy_0 rfl) (dl_at 0 29 lb_X12_copy_0 rfl) (dl_at 0 30 lb_X12_copy_0 rfl) rfl
theorem dX12_copy_31 : decode cX12_copy 31 = .ok (.iload_n 1, 1) := dx_27 (dl_at 0 31 lb_X12_copy_0 rfl)
theorem dX12_copy_32 : decode cX12_copy 32 = .ok (.iaload, 1) := dx_46 (dl_at 32 0 lb_X12_copy_1 rfl)
theorem dX12_copy_33 : decode cX12_copy 33 = .ok (.ifCond .lt 12, 3) := dx_155 (a := 0) (b := 12) (dl_at 32 1 lb_X12_copy_1 rfl) (dl_at 32 2 lb_X12_copy_1 rfl) (dl_at 32 3 lb_X12_copy_1 rfl) sg16_12
theorem dX12_copy_45 : decode cX12_copy 45 = .ok (.aload_n 0, 1) := dx_42 (dl_at 32 13 lb_X12_copy_1 rfl)
theorem dX12_copy_46 : decode cX12_copy 46 = .ok (.iconst 1, 1) := dx_4 (dl_at 32 14 lb_X12_copy_1 rfl)
theorem dX12_copy_47 : decode cX12_copy 47 = .ok (.invokevirtual 85, 3) := dx_182 (a := 0) (b := 85) (dl_at 32 15 lb_X12_copy_1 rfl) (dl_at 32 16 lb_X12_copy_1 rfl) (dl_at 32 17 lb_X12_copy_1 rfl) rfl
theorem dX12_copy_50 : decode cX12_copy 50 = .ok (.ireturn, 1) := dx_172 (dl_at 32 18 lb_X12_copy_1 rfl)
theorem dX12_copy_36 : decode cX12_copy 36 = .ok (.aload_n 0, 1) := dx_42 (dl_at 32 4 lb_X12_copy_1 rfl)
theorem dX12_copy_37 : decode cX12_copy 37 = .ok (.getfield 13, 3) := dx_180 (a := 0) (b := 13) (dl_at 32 5 lb_X12_copy_1 rfl) (dl_at 32 6 lb_X12_copy_1 rfl) (dl_at 32 7 lb_X12_copy_1 rfl) rfl
theorem dX12_copy_40 : decode cX12_copy 40 = .ok (.iload_n 3, 1) := dx_29 (dl_at 32 8 lb_X12_copy_1 rfl)
theorem dX12_copy_41 : decode cX12_copy 41 = .ok (.iaload, 1) := dx_46 (dl_at 32 9 lb_X12_copy_1 rfl)
theorem dX12_copy_42 : decode cX12_copy 42 = .ok (.ifCond .ge 9, 3) := dx_156 (a := 0) (b := 9) (dl_at 32 10 lb_X12_copy_1 rfl) (dl_at 32 11 lb_X12_copy_1 rfl) (dl_at 32 12 lb_X12_copy_1 rfl) sg16_9
theorem dX12_copy_51 : decode cX12_copy 51 = .ok (.iload_n 2, 1) := dx_28 (dl_at 32 19 lb_X12_copy_1 rfl)
theorem dX12_copy_52 : decode cX12_copy 52 = .ok (.ifCond .lt 43, 3) := dx_155 (a := 0) (b := 43) (dl_at 32 20 lb_X12_copy_1 rfl) (dl_at 32 21 lb_X12_copy_1 rfl) (dl_at 32 22 lb_X12_copy_1 rfl) sg16_43
theorem dX12_copy_95 : decode cX12_copy 95 = .ok (.aload_n 0, 1) := dx_42 (dl_at 64 31 lb_X12_copy_2 rfl)
theorem dX12_copy_96 : decode cX12_copy 96 = .ok (.iconst 2, 1) := dx_5 (dl_at 96 0 lb_X12_copy_3 rfl)
theorem dX12_copy_97 : decode cX12_copy 97 = .ok (.invokevirtual 85, 3) := dx_182 (a := 0) (b := 85) (dl_at 96 1 lb_X12_copy_3 rfl) (dl_at 96 2 lb_X12_copy_3 rfl) (dl_at 96 3 lb_X12_copy_3 rfl) rfl
theorem dX12_copy_100 : decode cX12_copy 100 = .ok (.ireturn, 1) := dx_172 (dl_at 96 4 lb_X12_copy_3 rfl)
theorem dX12_copy_55 : decode cX12_copy 55 = .ok (.iload 4, 2) := dx_21 (dl_at 32 23 lb_X12_copy_1 rfl) (dl_at 32 24 lb_X12_copy_1 rfl)
theorem dX12_copy_57 : decode cX12_copy 57 = .ok (.ifCond .lt 38, 3) := dx_155 (a := 0) (b := 38) (dl_at 32 25 lb_X12_copy_1 rfl) (dl_at 32 26 lb_X12_copy_1 rfl) (dl_at 32 27 lb_X12_copy_1 rfl) sg16_38
theorem dX12_copy_60 : decode cX12_copy 60 = .ok (.iload_n 2, 1) := dx_28 (dl_at 32 28 lb_X12_copy_1 rfl)
theorem dX12_copy_61 : decode cX12_copy 61 = .ok (.i2l, 1) := dx_133 (dl_at 32 29 lb_X12_copy_1 rfl)
theorem dX12_copy_62 : decode cX12_copy 62 = .ok (.iload 5, 2) := dx_21 (dl_at 32 30 lb_X12_copy_1 rfl) (dl_at 32 31 lb_X12_copy_1 rfl)
theorem dX12_copy_64 : decode cX12_copy 64 = .ok (.i2l, 1) := dx_133 (dl_at 64 0 lb_X12_copy_2 rfl)
theorem dX12_copy_65 : decode cX12_copy 65 = .ok (.ladd, 1) := dx_97 (dl_at 64 1 lb_X12_copy_2 rfl)
theorem dX12_copy_66 : decode cX12_copy 66 = .ok (.aload_n 0, 1) := dx_42 (dl_at 64 2 lb_X12_copy_2 rfl)
theorem dX12_copy_67 : decode cX12_copy 67 = .ok (.getfield 13, 3) := dx_180 (a := 0) (b := 13) (dl_at 64 3 lb_X12_copy_2 rfl) (dl_at 64 4 lb_X12_copy_2 rfl) (dl_at 64 5 lb_X12_copy_2 rfl) rfl
theorem dX12_copy_70 : decode cX12_copy 70 = .ok (.iload_n 1, 1) := dx_27 (dl_at 64 6 lb_X12_copy_2 rfl)
theorem dX12_copy_71 : decode cX12_copy 71 = .ok (.iaload, 1) := dx_46 (dl_at 64 7 lb_X12_copy_2 rfl)
theorem dX12_copy_72 : decode cX12_copy 72 = .ok (.i2l, 1) := dx_133 (dl_at 64 8 lb_X12_copy_2 rfl)
theorem dX12_copy_73 : decode cX12_copy 73 = .ok (.lcmp, 1) := dx_148 (dl_at 64 9 lb_X12_copy_2 rfl)
theorem dX12_copy_74 : decode cX12_copy 74 = .ok (.ifCond .gt 21, 3) := dx_157 (a := 0) (b := 21) (dl_at 64 10 lb_X12_copy_2 rfl) (dl_at 64 11 lb_X12_copy_2 rfl) (dl_at 64 12 lb_X12_copy_2 rfl) sg16_21
theorem dX12_copy_77 : decode cX12_copy 77 = .ok (.iload 4, 2) := dx_21 (dl_at 64 13 lb_X12_copy_2 rfl) (dl_at 64 14 lb_X12_copy_2 rfl)
theorem dX12_copy_79 : decode cX12_copy 79 = .ok (.i2l, 1) := dx_133 (dl_at 64 15 lb_X12_copy_2 rfl)
theorem dX12_copy_80 : decode cX12_copy 80 = .ok (.iload 5, 2) := dx_21 (dl_at 64 16 lb_X12_copy_2 rfl) (dl_at 64 17 lb_X12_copy_2 rfl)
theorem dX12_copy_82 : decode cX12_copy 82 = .ok (.i2l, 1) := dx_133 (dl_at 64 18 lb_X12_copy_2 rfl)
theorem dX12_copy_83 : decode cX12_copy 83 = .ok (.ladd, 1) := dx_97 (dl_at 64 19 lb_X12_copy_2 rfl)
theorem dX12_copy_84 : decode cX12_copy 84 = .ok (.aload_n 0, 1) := dx_42 (dl_at 64 20 lb_X12_copy_2 rfl)
theorem dX12_copy_85 : decode cX12_copy 85 = .ok (.getfield 13, 3) := dx_180 (a := 0) (b := 13) (dl_at 64 21 lb_X12_copy_2 rfl) (dl_at 64 22 lb_X12_copy_2 rfl) (dl_at 64 23 lb_X12_copy_2 rfl) rfl
theorem dX12_copy_88 : decode cX12_copy 88 = .ok (.iload_n 3, 1) := dx_29 (dl_at 64 24 lb_X12_copy_2 rfl)
theorem dX12_copy_89 : decode cX12_copy 89 = .ok (.iaload, 1) := dx_46 (dl_at 64 25 lb_X12_copy_2 rfl)
theorem dX12_copy_90 : decode cX12_copy 90 = .ok (.i2l, 1) := dx_133 (dl_at 64 26 lb_X12_copy_2 rfl)
theorem dX12_copy_91 : decode cX12_copy 91 = .ok (.lcmp, 1) := dx_148 (dl_at 64 27 lb_X12_copy_2 rfl)
theorem dX12_copy_92 : decode cX12_copy 92 = .ok (.ifCond .le 9, 3) := dx_158 (a := 0) (b := 9) (dl_at 64 28 lb_X12_copy_2 rfl) (dl_at 64 29 lb_X12_copy_2 rfl) (dl_at 64 30 lb_X12_copy_2 rfl) sg16_9
theorem dX12_copy_101 : decode cX12_copy 101 = .ok (.iconst 0, 1) := dx_3 (dl_at 96 5 lb_X12_copy_3 rfl)
theorem dX12_copy_102 : decode cX12_copy 102 = .ok (.istore 6, 2) := dx_54 (dl_at 96 6 lb_X12_copy_3 rfl) (dl_at 96 7 lb_X12_copy_3 rfl)
theorem dX12_copy_104 : decode cX12_copy 104 = .ok (.iload 6, 2) := dx_21 (dl_at 96 8 lb_X12_copy_3 rfl) (dl_at 96 9 lb_X12_copy_3 rfl)
theorem dX12_copy_106 : decode cX12_copy 106 = .ok (.iload 5, 2) := dx_21 (dl_at 96 10 lb_X12_copy_3 rfl) (dl_at 96 11 lb_X12_copy_3 rfl)
theorem dX12_copy_108 : decode cX12_copy 108 = .ok (.if_icmp .ge 25, 3) := dx_162 (a := 0) (b := 25) (dl_at 96 12 lb_X12_copy_3 rfl) (dl_at 96 13 lb_X12_copy_3 rfl) (dl_at 96 14 lb_X12_copy_3 rfl) sg16_25
theorem dX12_copy_133 : decode cX12_copy 133 = .ok (.iconst 0, 1) := dx_3 (dl_at 128 5 lb_X12_copy_4 rfl)
theorem dX12_copy_134 : decode cX12_copy 134 = .ok (.istore 6, 2) := dx_54 (dl_at 128 6 lb_X12_copy_4 rfl) (dl_at 128 7 lb_X12_copy_4 rfl)
theorem dX12_copy_136 : decode cX12_copy 136 = .ok (.iload 6, 2) := dx_21 (dl_at 128 8 lb_X12_copy_4 rfl) (dl_at 128 9 lb_X12_copy_4 rfl)
theorem dX12_copy_138 : decode cX12_copy 138 = .ok (.iload 5, 2) := dx_21 (dl_at 128 10 lb_X12_copy_4 rfl) (dl_at 128 11 lb_X12_copy_4 rfl)
theorem dX12_copy_140 : decode cX12_copy 140 = .ok (.if_icmp .ge 26, 3) := dx_162 (a := 0) (b := 26) (dl_at 128 12 lb_X12_copy_4 rfl) (dl_at 128 13 lb_X12_copy_4 rfl) (dl_at 128 14 lb_X12_copy_4 rfl) sg16_26
theorem dX12_copy_166 : decode cX12_copy 166 = .ok (.iconst 1, 1) := dx_4 (dl_at 160 6 lb_X12_copy_5 rfl)
theorem dX12_copy_167 : decode cX12_copy 167 = .ok (.ireturn, 1) := dx_172 (dl_at 160 7 lb_X12_copy_5 rfl)
theorem dX12_copy_143 : decode cX12_copy 143 = .ok (.aload_n 0, 1) := dx_42 (dl_at 128 15 lb_X12_copy_4 rfl)
theorem dX12_copy_144 : decode cX12_copy 144 = .ok (.iload_n 3, 1) := dx_29 (dl_at 128 16 lb_X12_copy_4 rfl)
theorem dX12_copy_145 : decode cX12_copy 145 = .ok (.iload 4, 2) := dx_21 (dl_at 128 17 lb_X12_copy_4 rfl) (dl_at 128 18 lb_X12_copy_4 rfl)
theorem dX12_copy_147 : decode cX12_copy 147 = .ok (.iload 6, 2) := dx_21 (dl_at 128 19 lb_X12_copy_4 rfl) (dl_at 128 20 lb_X12_copy_4 rfl)
theorem dX12_copy_149 : decode cX12_copy 149 = .ok (.iadd, 1) := dx_96 (dl_at 128 21 lb_X12_copy_4 rfl)
theorem dX12_copy_150 : decode cX12_copy 150 = .ok (.aload_n 0, 1) := dx_42 (dl_at 128 22 lb_X12_copy_4 rfl)
theorem dX12_copy_151 : decode cX12_copy 151 = .ok (.getfield 19, 3) := dx_180 (a := 0) (b := 19) (dl_at 128 23 lb_X12_copy_4 rfl) (dl_at 128 24 lb_X12_copy_4 rfl) (dl_at 128 25 lb_X12_copy_4 rfl) rfl
theorem dX12_copy_154 : decode cX12_copy 154 = .ok (.iload 6, 2) := dx_21 (dl_at 128 26 lb_X12_copy_4 rfl) (dl_at 128 27 lb_X12_copy_4 rfl)
theorem dX12_copy_156 : decode cX12_copy 156 = .ok (.iaload, 1) := dx_46 (dl_at 128 28 lb_X12_copy_4 rfl)
theorem dX12_copy_157 : decode cX12_copy 157 = .ok (.invokevirtual 92, 3) := dx_182 (a := 0) (b := 92) (dl_at 128 29 lb_X12_copy_4 rfl) (dl_at 128 30 lb_X12_copy_4 rfl) (dl_at 128 31 lb_X12_copy_4 rfl) rfl
theorem dX12_copy_160 : decode cX12_copy 160 = .ok (.iinc 6 1, 3) := dx_132 (dl_at 160 0 lb_X12_copy_5 rfl) (dl_at 160 1 lb_X12_copy_5 rfl) (dl_at 160 2 lb_X12_copy_5 rfl) sg8_1
theorem dX12_copy_163 : decode cX12_copy 163 = .ok (.goto (-27), 3) := dx_167 (a := 255) (b := 229) (dl_at 160 3 lb_X12_copy_5 rfl) (dl_at 160 4 lb_X12_copy_5 rfl) (dl_at 160 5 lb_X12_copy_5 rfl) sg16_65509
theorem dX12_copy_111 : decode cX12_copy 111 = .ok (.aload_n 0, 1) := dx_42 (dl_at 96 15 lb_X12_copy_3 rfl)
theorem dX12_copy_112 : decode cX12_copy 112 = .ok (.getfield 19, 3) := dx_180 (a := 0) (b := 19) (dl_at 96 16 lb_X12_copy_3 rfl) (dl_at 96 17 lb_X12_copy_3 rfl) (dl_at 96 18 lb_X12_copy_3 rfl) rfl
theorem dX12_copy_115 : decode cX12_copy 115 = .ok (.iload 6, 2) := dx_21 (dl_at 96 19 lb_X12_copy_3 rfl) (dl_at 96 20 lb_X12_copy_3 rfl)
theorem dX12_copy_117 : decode cX12_copy 117 = .ok (.aload_n 0, 1) := dx_42 (dl_at 96 21 lb_X12_copy_3 rfl)
theorem dX12_copy_118 : decode cX12_copy 118 = .ok (.iload_n 1, 1) := dx_27 (dl_at 96 22 lb_X12_copy_3 rfl)
theorem dX12_copy_119 : decode cX12_copy 119 = .ok (.iload_n 2, 1) := dx_28 (dl_at 96 23 lb_X12_copy_3 rfl)
theorem dX12_copy_120 : decode cX12_copy 120 = .ok (.iload 6, 2) := dx_21 (dl_at 96 24 lb_X12_copy_3 rfl) (dl_at 96 25 lb_X12_copy_3 rfl)
theorem dX12_copy_122 : decode cX12_copy 122 = .ok (.iadd, 1) := dx_96 (dl_at 96 26 lb_X12_copy_3 rfl)
theorem dX12_copy_123 : decode cX12_copy 123 = .ok (.invokevirtual 99, 3) := dx_182 (a := 0) (b := 99) (dl_at 96 27 lb_X12_copy_3 rfl) (dl_at 96 28 lb_X12_copy_3 rfl) (dl_at 96 29 lb_X12_copy_3 rfl) rfl
theorem dX12_copy_126 : decode cX12_copy 126 = .ok (.iastore, 1) := dx_79 (dl_at 96 30 lb_X12_copy_3 rfl)
theorem dX12_copy_127 : decode cX12_copy 127 = .ok (.iinc 6 1, 3) := dx_132 (dl_at 96 31 lb_X12_copy_3 rfl) (dl_at 128 0 lb_X12_copy_4 rfl) (dl_at 128 1 lb_X12_copy_4 rfl) sg8_1
theorem dX12_copy_130 : decode cX12_copy 130 = .ok (.goto (-26), 3) := dx_167 (a := 255) (b := 230) (dl_at 128 2 lb_X12_copy_4 rfl) (dl_at 128 3 lb_X12_copy_4 rfl) (dl_at 128 4 lb_X12_copy_4 rfl) sg16_65510
theorem dX12_copy_21 : decode cX12_copy 21 = .ok (.aload_n 0, 1) := dx_42 (dl_at 0 21 lb_X12_copy_0 rfl)
theorem dX12_copy_22 : decode cX12_copy 22 = .ok (.iconst 5, 1) := dx_8 (dl_at 0 22 lb_X12_copy_0 rfl)
theorem dX12_copy_23 : decode cX12_copy 23 = .ok (.invokevirtual 85, 3) := dx_182 (a := 0) (b := 85) (dl_at 0 23 lb_X12_copy_0 rfl) (dl_at 0 24 lb_X12_copy_0 rfl) (dl_at 0 25 lb_X12_copy_0 rfl) rfl
theorem dX12_copy_26 : decode cX12_copy 26 = .ok (.ireturn, 1) := dx_172 (dl_at 0 26 lb_X12_copy_0 rfl)
theorem dX12_copy_14 : decode cX12_copy 14 = .ok (.iconst (-1), 1) := dx_2 (dl_at 0 14 lb_X12_copy_0 rfl)
theorem dX12_copy_15 : decode cX12_copy 15 = .ok (.ireturn, 1) := dx_172 (dl_at 0 15 lb_X12_copy_0 rfl)
theorem lb_X12_mean_0 : dl_ck (cX12_mean.data.toList.drop 0) [42, 27, 182, 0, 96, 61, 28, 156, 0, 5, 28, 172, 9, 66, 3, 54, 5, 21, 5, 42, 180, 0, 13, 27, 46, 162, 0, 20, 33, 42, 27, 21] = true := by decide +kernel
theorem lb_X12_mean_1 : dl_ck (cX12_mean.data.toList.drop 32) [5, 182, 0, 99, 133, 97, 66, 132, 5, 1, 167, 255, 231, 42, 180, 0, 13, 27, 46, 154, 0, 11, 42, 7, 182, 0, 85, 167, 0, 18, 42, 33] = true := by decide +kernel
theorem lb_X12_mean_2 : dl_ck (cX12_mean.data.toList.drop 64) [42, 180, 0, 13, 27, 46, 133, 109, 136, 4, 182, 0, 103, 172] = true := by decide +kernel
theorem dX12_mean_0 : decode cX12_mean 0 = .ok (.aload_n 0, 1) := dx_42 (dl_at 0 0 lb_X12_mean_0 rfl)
theorem dX12_mean_1 : decode cX12_mean 1 = .ok (.iload_n 1, 1) := dx_27 (dl_at 0 1 lb_X12_mean_0 rfl)
theorem dX12_mean_2 : decode cX12_mean 2 = .ok (.invokevirtual 96, 3) := dx_182 (a := 0) (b := 96) (dl_at 0 2 lb_X12_mean_0 rfl) (dl_at 0 3 lb_X12_mean_0 rfl) (dl_at 0 4 lb_X12_mean_0 rfl) rfl
theorem dX12_mean_5 : decode cX12_mean 5 = .ok (.istore_n 2, 1) := dx_61 (dl_at 0 5 lb_X12_mean_0 rfl)
theorem dX12_mean_6 : decode cX12_mean 6 = .ok (.iload_n 2, 1) := dx_28 (dl_at 0 6 lb_X12_mean_0 rfl)
theorem dX12_mean_7 : decode cX12_mean 7 = .ok (.ifCond .ge 5, 3) := dx_156 (a := 0) (b := 5) (dl_at 0 7 lb_X12_mean_0 rfl) (dl_at 0 8 lb_X12_mean_0 rfl) (dl_at 0 9 lb_X12_mean_0 rfl) sg16_5
theorem dX12_mean_12 : decode cX12_mean 12 = .ok (.lconst 0, 1) := dx_9 (dl_at 0 12 lb_X12_mean_0 rfl)
theorem dX12_mean_13 : decode cX12_mean 13 = .ok (.lstore_n 3, 1) := dx_66 (dl_at 0 13 lb_X12_mean_0 rfl)
theorem dX12_mean_14 : decode cX12_mean 14 = .ok (.iconst 0, 1) := dx_3 (dl_at 0 14 lb_X12_mean_0 rfl)
theorem dX12_mean_15 : decode cX12_mean 15 = .ok (.istore 5, 2) := dx_54 (dl_at 0 15 lb_X12_mean_0 rfl) (dl_at 0 16 lb_X12_mean_0 rfl)
theorem dX12_mean_17 : decode cX12_mean 17 = .ok (.iload 5, 2) := dx_21 (dl_at 0 17 lb_X12_mean_0 rfl) (dl_at 0 18 lb_X12_mean_0 rfl)
theorem dX12_mean_19 : decode cX12_mean 19 = .ok (.aload_n 0, 1) := dx_42 (dl_at 0 19 lb_X12_mean_0 rfl)
theorem dX12_mean_20 : decode cX12_mean 20 = .ok (.getfield 13, 3) := dx_180 (a := 0) (b := 13) (dl_at 0 20 lb_X12_mean_0 rfl) (dl_at 0 21 lb_X12_mean_0 rfl) (dl_at 0 22 lb_X12_mean_0 rfl) rfl
theorem dX12_mean_23 : decode cX12_mean 23 = .ok (.iload_n 1, 1) := dx_27 (dl_at 0 23 lb_X12_mean_0 rfl)
theorem dX12_mean_24 : decode cX12_mean 24 = .ok (.iaload, 1) := dx_46 (dl_at 0 24 lb_X12_mean_0 rfl)
theorem dX12_mean_25 : decode cX12_mean 25 = .ok (.if_icmp .ge 20, 3) := dx_162 (a := 0) (b := 20) (dl_at 0 25 lb_X12_mean_0 rfl) (dl_at 0 26 lb_X12_mean_0 rfl) (dl_at 0 27 lb_X12_mean_0 rfl) sg16_20
theorem dX12_mean_45 : decode cX12_mean 45 = .ok (.aload_n 0, 1) := dx_42 (dl_at 32 13 lb_X12_mean_1 rfl)
theorem dX12_mean_46 : decode cX12_mean 46 = .ok (.getfield 13, 3) := dx_180 (a := 0) (b := 13) (dl_at 32 14 lb_X12_mean_1 rfl) (dl_at 32 15 lb_X12_mean_1 rfl) (dl_at 32 16 lb_X12_mean_1 rfl) rfl
theorem dX12_mean_49 : decode cX12_mean 49 = .ok (.iload_n 1, 1) := dx_27 (dl_at 32 17 lb_X12_mean_1 rfl)
theorem dX12_mean_50 : decode cX12_mean 50 = .ok (.iaload, 1) := dx_46 (dl_at 32 18 lb_X12_mean_1 rfl)
theorem dX12_mean_51 : decode cX12_mean 51 = .ok (.ifCond .ne 11, 3) := dx_154 (a := 0) (b := 11) (dl_at 32 19 lb_X12_mean_1 rfl) (dl_at 32 20 lb_X12_mean_1 rfl) (dl_at 32 21 lb_X12_mean_1 rfl) sg16_11
theorem dX12_mean_62 : decode cX12_mean 62 = .ok (.aload_n 0, 1) := dx_42 (dl_at 32 30 lb_X12_mean_1 rfl)
theorem dX12_mean_63 : decode cX12_mean 63 = .ok (.lload_n 3, 1) := dx_33 (dl_at 32 31 lb_X12_mean_1 rfl)
theorem dX12_mean_64 : decode cX12_mean 64 = .ok (.aload_n 0, 1) := dx_42 (dl_at 64 0 lb_X12_mean_2 rfl)
theorem dX12_mean_65 : decode cX12_mean 65 = .ok (.getfield 13, 3) := dx_180 (a := 0) (b := 13) (dl_at 64 1 lb_X12_mean_2 rfl) (dl_at 64 2 lb_X12_mean_2 rfl) (dl_at 64 3 lb_X12_mean_2 rfl) rfl
theorem dX12_mean_68 : decode cX12_mean 68 = .ok (.iload_n 1, 1) := dx_27 (dl_at 64 4 lb_X12_mean_2 rfl)
theorem dX12_mean_69 : decode cX12_mean 69 = .ok (.iaload, 1) := dx_46 (dl_at 64 5 lb_X12_mean_2 rfl)
theorem dX12_mean_70 : decode cX12_mean 70 = .ok (.i2l, 1) := dx_133 (dl_at 64 6 lb_X12_mean_2 rfl)
theorem dX12_mean_71 : decode cX12_mean 71 = .ok (.ldiv, 1) := dx_109 (dl_at 64 7 lb_X12_mean_2 rfl)
theorem dX12_mean_72 : decode cX12_mean 72 = .ok (.l2i, 1) := dx_136 (dl_at 64 8 lb_X12_mean_2 rfl)
theorem dX12_mean_73 : decode cX12_mean 73 = .ok (.iconst 1, 1) := dx_4 (dl_at 64 9 lb_X12_mean_2 rfl)
theorem dX12_mean_74 : decode cX12_mean 74 = .ok (.invokevirtual 103, 3) := dx_182 (a := 0) (b := 103) (dl_at 64 10 lb_X12_mean_2 rfl) (dl_at 64 11 lb_X12_mean_2 rfl) (dl_at 64 12 lb_X12_mean_2 rfl) rfl
theorem dX12_mean_77 : decode cX12_mean 77 = .ok (.ireturn, 1) := dx_172 (dl_at 64 13 lb_X12_mean_2 rfl)
theorem dX12_mean_54 : decode cX12_mean 54 = .ok (.aload_n 0, 1) := dx_42 (dl_at 32 22 lb_X12_mean_1 rfl)
theorem dX12_mean_55 : decode cX12_mean 55 = .ok (.iconst 4, 1) := dx_7 (dl_at 32 23 lb_X12_mean_1 rfl)
theorem dX12_mean_56 : decode cX12_mean 56 = .ok (.invokevirtual 85, 3) := dx_182 (a := 0) (b := 85) (dl_at 32 24 lb_X12_mean_1 rfl) (dl_at 32 25 lb_X12_mean_1 rfl) (dl_at 32 26 lb_X12_mean_1 rfl) rfl
theorem dX12_mean_59 : decode cX12_mean 59 = .ok (.goto 18, 3) := dx_167 (a := 0) (b := 18) (dl_at 32 27 lb_X12_mean_1 rfl) (dl_at 32 28 lb_X12_mean_1 rfl) (dl_at 32 29 lb_X12_mean_1 rfl) sg16_18
theorem dX12_mean_28 : decode cX12_mean 28 = .ok (.lload_n 3, 1) := dx_33 (dl_at 0 28 lb_X12_mean_0 rfl)
theorem dX12_mean_29 : decode cX12_mean 29 = .ok (.aload_n 0, 1) := dx_42 (dl_at 0 29 lb_X12_mean_0 rfl)
theorem dX12_mean_30 : decode cX12_mean 30 = .ok (.iload_n 1, 1) := dx_27 (dl_at 0 30 lb_X12_mean_0 rfl)
theorem dX12_mean_31 : decode cX12_mean 31 = .ok (.iload 5, 2) := dx_21 (dl_at 0 31 lb_X12_mean_0 rfl) (dl_at 32 0 lb_X12_mean_1 rfl)
theorem dX12_mean_33 : decode cX12_mean 33 = .ok (.invokevirtual 99, 3) := dx_182 (a := 0) (b := 99) (dl_at 32 1 lb_X12_mean_1 rfl) (dl_at 32 2 lb_X12_mean_1 rfl) (dl_at 32 3 lb_X12_mean_1 rfl) rfl
theorem dX12_mean_36 : decode cX12_mean 36 = .ok (.i2l, 1) := dx_133 (dl_at 32 4 lb_X12_mean_1 rfl)
theorem dX12_mean_37 : decode cX12_mean 37 = .ok (.ladd, 1) := dx_97 (dl_at 32 5 lb_X12_mean_1 rfl)
theorem dX12_mean_38 : decode cX12_mean 38 = .ok (.lstore_n 3, 1) := dx_66 (dl_at 32 6 lb_X12_mean_1 rfl)
theorem dX12_mean_39 : decode cX12_mean 39 = .ok (.iinc 5 1, 3) := dx_132 (dl_at 32 7 lb_X12_mean_1 rfl) (dl_at 32 8 lb_X12_mean_1 rfl) (dl_at 32 9 lb_X12_mean_1 rfl) sg8_1
theorem dX12_mean_42 : decode cX12_mean 42 = .ok (.goto (-25), 3) := dx_167 (a := 255) (b := 231) (dl_at 32 10 lb_X12_mean_1 rfl) (dl_at 32 11 lb_X12_mean_1 rfl) (dl_at 32 12 lb_X12_mean_1 rfl) sg16_65511
theorem dX12_mean_10 : decode cX12_mean 10 = .ok (.iload_n 2, 1) := dx_28 (dl_at 0 10 lb_X12_mean_0 rfl)
theorem dX12_mean_11 : decode cX12_mean 11 = .ok (.ireturn, 1) := dx_172 (dl_at 0 11 lb_X12_mean_0 rfl)
theorem lb_X12_text_0 : dl_ck (cX12_text.data.toList.drop 0) [27, 184, 0, 89, 153, 0, 9, 28, 16, 80, 164, 0, 5, 2, 172, 28, 156, 0, 9, 42, 8, 182, 0, 85, 172, 42, 180, 0, 22, 27, 28, 79] = true := by decide +kernel
theorem lb_X12_text_1 : dl_ck (cX12_text.data.toList.drop 32) [3, 62, 29, 16, 80, 162, 0, 22, 42, 180, 0, 25, 16, 80, 27, 104, 29, 96, 16, 32, 79, 132, 3, 1, 167, 255, 234, 28, 172] = true := by decide +kernel
theorem dX12_text_0 : decode cX12_text 0 = .ok (.iload_n 1, 1) := dx_27 (dl_at 0 0 lb_X12_text_0 rfl)
theorem dX12_text_1 : decode cX12_text 1 = .ok (.invokestatic 89, 3) := dx_184 (a := 0) (b := 89) (dl_at 0 1 lb_X12_text_0 rfl) (dl_at 0 2 lb_X12_text_0 rfl) (dl_at 0 3 lb_X12_text_0 rfl) rfl
theorem dX12_text_4 : decode cX12_text 4 = .ok (.ifCond .eq 9, 3) := dx_153 (a := 0) (b := 9) (dl_at 0 4 lb_X12_text_0 rfl) (dl_at 0 5 lb_X12_text_0 rfl) (dl_at 0 6 lb_X12_text_0 rfl) sg16_9
theorem dX12_text_7 : decode cX12_text 7 = .ok (.iload_n 2, 1) := dx_28 (dl_at 0 7 lb_X12_text_0 rfl)
theorem dX12_text_8 : decode cX12_text 8 = .ok (.bipush 80, 2) := dx_16 (dl_at 0 8 lb_X12_text_0 rfl) (dl_at 0 9 lb_X12_text_0 rfl) sg8_80
theorem dX12_text_10 : decode cX12_text 10 = .ok (.if_icmp .le 5, 3) := dx_164 (a := 0) (b := 5) (dl_at 0 10 lb_X12_text_0 rfl) (dl_at 0 11 lb_X12_text_0 rfl) (dl_at 0 12 lb_X12_text_0 rfl) sg16_5
theorem dX12_text_15 : decode cX12_text 15 = .ok (.iload_n 2, 1) := dx_28 (dl_at 0 15 lb_X12_text_0 rfl)
theorem dX12_text_16 : decode cX12_text 16 = .ok (.ifCond .ge 9, 3) := dx_156 (a := 0) (b := 9) (dl_at 0 16 lb_X12_text_0 rfl) (dl_at 0 17 lb_X12_text_0 rfl) (dl_at 0 18 lb_X12_text_0 rfl) sg16_9
theorem dX12_text_25 : decode cX12_text 25 = .ok (.aload_n 0, 1) := dx_42 (dl_at 0 25 lb_X12_text_0 rfl)
theorem dX12_text_26 : decode cX12_text 26 = .ok (.getfield 22, 3) := dx_180 (a := 0) (b := 22) (dl_at 0 26 lb_X12_text_0 rfl) (dl_at 0 27 lb_X12_text_0 rfl) (dl_at 0 28 lb_X12_text_0 rfl) rfl
theorem dX12_text_29 : decode cX12_text 29 = .ok (.iload_n 1, 1) := dx_27 (dl_at 0 29 lb_X12_text_0 rfl)
theorem dX12_text_30 : decode cX12_text 30 = .ok (.iload_n 2, 1) := dx_28 (dl_at 0 30 lb_X12_text_0 rfl)
theorem dX12_text_31 : decode cX12_text 31 = .ok (.iastore, 1) := dx_79 (dl_at 0 31 lb_X12_text_0 rfl)
theorem dX12_text_32 : decode cX12_text 32 = .ok (.iconst 0, 1) := dx_3 (dl_at 32 0 lb_X12_text_1 rfl)
theorem dX12_text_33 : decode cX12_text 33 = .ok (.istore_n 3, 1) := dx_62 (dl_at 32 1 lb_X12_text_1 rfl)
theorem dX12_text_34 : decode cX12_text 34 = .ok (.iload_n 3, 1) := dx_29 (dl_at 32 2 lb_X12_text_1 rfl)
theorem dX12_text_35 : decode cX12_text 35 = .ok (.bipush 80, 2) := dx_16 (dl_at 32 3 lb_X12_text_1 rfl) (dl_at 32 4 lb_X12_text_1 rfl) sg8_80
theorem dX12_text_37 : decode cX12_text 37 = .ok (.if_icmp .ge 22, 3) := dx_162 (a := 0) (b := 22) (dl_at 32 5 lb_X12_text_1 rfl) (dl_at 32 6 lb_X12_text_1 rfl) (dl_at 32 7 lb_X12_text_1 rfl) sg16_22
theorem dX12_text_59 : decode cX12_text 59 = .ok (.iload_n 2, 1) := dx_28 (dl_at 32 27 lb_X12_text_1 rfl)
theorem dX12_text_60 : decode cX12_text 60 = .ok (.ireturn, 1) := dx_172 (dl_at 32 28 lb_X12_text_1 rfl)
theorem dX12_text_40 : decode cX12_text 40 = .ok (.aload_n 0, 1) := dx_42 (dl_at 32 8 lb_X12_text_1 rfl)
theorem dX12_text_41 : decode cX12_text 41 = .ok (.getfield 25, 3) := dx_180 (a := 0) (b := 25) (dl_at 32 9 lb_X12_text_1 rfl) (dl_at 32 10 lb_X12_text_1 rfl) (dl_at 32 11 lb_X12_text_1 rfl) rfl
theorem dX12_text_44 : decode cX12_text 44 = .ok (.bipush 80, 2) := dx_16 (dl_at 32 12 lb_X12_text_1 rfl) (dl_at 32 13 lb_X12_text_1 rfl) sg8_80
theorem dX12_text_46 : decode cX12_text 46 = .ok (.iload_n 1, 1) := dx_27 (dl_at 32 14 lb_X12_text_1 rfl)
theorem dX12_text_47 : decode cX12_text 47 = .ok (.imul, 1) := dx_104 (dl_at 32 15 lb_X12_text_1 rfl)
theorem dX12_text_48 : decode cX12_text 48 = .ok (.iload_n 3, 1) := dx_29 (dl_at 32 16 lb_X12_text_1 rfl)
theorem dX12_text_49 : decode cX12_text 49 = .ok (.iadd, 1) := dx_96 (dl_at 32 17 lb_X12_text_1 rfl)
theorem dX12_text_50 : decode cX12_text 50 = .ok (.bipush 32, 2) := dx_16 (dl_at 32 18 lb_X12_text_1 rfl) (dl_at 32 19 lb_X12_text_1 rfl) sg8_32
theorem dX12_text_52 : decode cX12_text 52 = .ok (.iastore, 1) := dx_79 (dl_at 32 20 lb_X12_text_1 rfl)
theorem dX12_text_53 : decode cX12_text 53 = .ok (.iinc 3 1, 3) := dx_132 (dl_at 32 21 lb_X12_text_1 rfl) (dl_at 32 22 lb_X12_text_1 rfl) (dl_at 32 23 lb_X12_text_1 rfl) sg8_1
theorem dX12_text_56 : decode cX12_text 56 = .ok (.goto (-22), 3) := dx_167 (a := 255) (b := 234) (dl_at 32 24 lb_X12_text_1 rfl) (dl_at 32 25 lb_X12_text_1 rfl) (dl_at 32 26 lb_X12_text_1 rfl) sg16_65514
theorem dX12_text_19 : decode cX12_text 19 = .ok (.aload_n 0, 1) := dx_42 (dl_at 0 19 lb_X12_text_0 rfl)
theorem dX12_text_20 : decode cX12_text 20 = .ok (.iconst 5, 1) := dx_8 (dl_at 0 20 lb_X12_text_0 rfl)
theorem dX12_text_21 : decode cX12_text 21 = .ok (.invokevirtual 85, 3) := dx_182 (a := 0) (b := 85) (dl_at 0 21 lb_X12_text_0 rfl) (dl_at 0 22 lb_X12_text_0 rfl) (dl_at 0 23 lb_X12_text_0 rfl) rfl
theorem dX12_text_24 : decode cX12_text 24 = .ok (.ireturn, 1) := dx_172 (dl_at 0 24 lb_X12_text_0 rfl)
theorem dX12_text_13 : decode cX12_text 13 = .ok (.iconst (-1), 1) := dx_2 (dl_at 0 13 lb_X12_text_0 rfl)
theorem dX12_text_14 : decode cX12_text 14 = .ok (.ireturn, 1) := dx_172 (dl_at 0 14 lb_X12_text_0 rfl)
theorem lb_X12_put_0 : dl_ck (cX12_put.data.toList.drop 0) [42, 27, 182, 0, 109, 54, 4, 21, 4, 156, 0, 6, 21, 4, 172, 28, 3, 42, 180, 0, 22, 27, 46, 4, 100, 184, 0, 77, 154, 0, 9, 42] = true := by decide +kernel
theorem lb_X12_put_1 : dl_ck (cX12_put.data.toList.drop 32) [5, 182, 0, 85, 172, 42, 180, 0, 25, 16, 80, 27, 104, 28, 96, 46, 54, 5, 42, 180, 0, 25, 16, 80, 27, 104, 28, 96, 29, 145, 79, 21] = true := by decide +kernel
theorem lb_X12_put_2 : dl_ck (cX12_put.data.toList.drop 64) [5, 17, 3, 232, 96, 172] = true := by decide +kernel
theorem dX12_put_0 : decode cX12_put 0 = .ok (.aload_n 0, 1) := dx_42 (dl_at 0 0 lb_X12_put_0 rfl)
theorem dX12_put_1 : decode cX12_put 1 = .ok (.iload_n 1, 1) := dx_27 (dl_at 0 1 lb_X12_put_0 rfl)
theorem dX12_put_2 : decode cX12_put 2 = .ok (.invokevirtual 109, 3) := dx_182 (a := 0) (b := 109) (dl_at 0 2 lb_X12_put_0 rfl) (dl_at 0 3 lb_X12_put_0 rfl) (dl_at 0 4 lb_X12_put_0 rfl) rfl
theorem dX12_put_5 : decode cX12_put 5 = .ok (.istore 4, 2) := dx_54 (dl_at 0 5 lb_X12_put_0 rfl) (dl_at 0 6 lb_X12_put_0 rfl)
theorem dX12_put_7 : decode cX12_put 7 = .ok (.iload 4, 2) := dx_21 (dl_at 0 7 lb_X12_put_0 rfl) (dl_at 0 8 lb_X12_put_0 rfl)
theorem dX12_put_9 : decode cX12_put 9 = .ok (.ifCond .ge 6, 3) := dx_156 (a := 0) (b := 6) (dl_at 0 9 lb_X12_put_0 rfl) (dl_at 0 10 lb_X12_put_0 rfl) (dl_at 0 11 lb_X12_put_0 rfl) sg16_6
theorem dX12_put_15 : decode cX12_put 15 = .ok (.iload_n 2, 1) := dx_28 (dl_at 0 15 lb_X12_put_0 rfl)
theorem dX12_put_16 : decode cX12_put 16 = .ok (.iconst 0, 1) := dx_3 (dl_at 0 16 lb_X12_put_0 rfl)
theorem dX12_put_17 : decode cX12_put 17 = .ok (.aload_n 0, 1) := dx_42 (dl_at 0 17 lb_X12_put_0 rfl)
theorem dX12_put_18 : decode cX12_put 18 = .ok (.getfield 22, 3) := dx_180 (a := 0) (b := 22) (dl_at 0 18 lb_X12_put_0 rfl) (dl_at 0 19 lb_X12_put_0 rfl) (dl_at 0 20 lb_X12_put_0 rfl) rfl
theorem dX12_put_21 : decode cX12_put 21 = .ok (.iload_n 1, 1) := dx_27 (dl_at 0 21 lb_X12_put_0 rfl)
theorem dX12_put_22 : decode cX12_put 22 = .ok (.iaload, 1) := dx_46 (dl_at 0 22 lb_X12_put_0 rfl)
theorem dX12_put_23 : decode cX12_put 23 = .ok (.iconst 1, 1) := dx_4 (dl_at 0 23 lb_X12_put_0 rfl)
theorem dX12_put_24 : decode cX12_put 24 = .ok (.isub, 1) := dx_100 (dl_at 0 24 lb_X12_put_0 rfl)
theorem dX12_put_25 : decode cX12_put 25 = .ok (.invokestatic 77, 3) := dx_184 (a := 0) (b := 77) (dl_at 0 25 lb_X12_put_0 rfl) (dl_at 0 26 lb_X12_put_0 rfl) (dl_at 0 27 lb_X12_put_0 rfl) rfl
theorem dX12_put_28 : decode cX12_put 28 = .ok (.ifCond .ne 9, 3) := dx_154 (a := 0) (b := 9) (dl_at 0 28 lb_X12_put_0 rfl) (dl_at 0 29 lb_X12_put_0 rfl) (dl_at 0 30 lb_X12_put_0 rfl) sg16_9
theorem dX12_put_37 : decode cX12_put 37 = .ok (.aload_n 0, 1) := dx_42 (dl_at 32 5 lb_X12_put_1 rfl)
theorem dX12_put_38 : decode cX12_put 38 = .ok (.getfield 25, 3) := dx_180 (a := 0) (b := 25) (dl_at 32 6 lb_X12_put_1 rfl) (dl_at 32 7 lb_X12_put_1 rfl) (dl_at 32 8 lb_X12_put_1 rfl) rfl
theorem dX12_put_41 : decode cX12_put 41 = .ok (.bipush 80, 2) := dx_16 (dl_at 32 9 lb_X12_put_1 rfl) (dl_at 32 10 lb_X12_put_1 rfl) sg8_80
theorem dX12_put_43 : decode cX12_put 43 = .ok (.iload_n 1, 1) := dx_27 (dl_at 32 11 lb_X12_put_1 rfl)
theorem dX12_put_44 : decode cX12_put 44 = .ok (.imul, 1) := dx_104 (dl_at 32 12 lb_X12_put_1 rfl)
theorem dX12_put_45 : decode cX12_put 45 = .ok (.iload_n 2, 1) := dx_28 (dl_at 32 13 lb_X12_put_1 rfl)
theorem dX12_put_46 : decode cX12_put 46 = .ok (.iadd, 1) := dx_96 (dl_at 32 14 lb_X12_put_1 rfl)
theorem dX12_put_47 : decode cX12_put 47 = .ok (.iaload, 1) := dx_46 (dl_at 32 15 lb_X12_put_1 rfl)
theorem dX12_put_48 : decode cX12_put 48 = .ok (.istore 5, 2) := dx_54 (dl_at 32 16 lb_X12_put_1 rfl) (dl_at 32 17 lb_X12_put_1 rfl)
theorem dX12_put_50 : decode cX12_put 50 = .ok (.aload_n 0, 1) := dx_42 (dl_at 32 18 lb_X12_put_1 rfl)
theorem dX12_put_51 : decode cX12_put 51 = .ok (.getfield 25, 3) := dx_180 (a := 0) (b := 25) (dl_at 32 19 lb_X12_put_1 rfl) (dl_at 32 20 lb_X12_put_1 rfl) (dl_at 32 21 lb_X12_put_1 rfl) rfl
theorem dX12_put_54 : decode cX12_put 54 = .ok (.bipush 80, 2) := dx_16 (dl_at 32 22 lb_X12_put_1 rfl) (dl_at 32 23 lb_X12_put_1 rfl) sg8_80
theorem dX12_put_56 : decode cX12_put 56 = .ok (.iload_n 1, 1) := dx_27 (dl_at 32 24 lb_X12_put_1 rfl)
theorem dX12_put_57 : decode cX12_put 57 = .ok (.imul, 1) := dx_104 (dl_at 32 25 lb_X12_put_1 rfl)
theorem dX12_put_58 : decode cX12_put 58 = .ok (.iload_n 2, 1) := dx_28 (dl_at 32 26 lb_X12_put_1 rfl)
theorem dX12_put_59 : decode cX12_put 59 = .ok (.iadd, 1) := dx_96 (dl_at 32 27 lb_X12_put_1 rfl)
theorem dX12_put_60 : decode cX12_put 60 = .ok (.iload_n 3, 1) := dx_29 (dl_at 32 28 lb_X12_put_1 rfl)
theorem dX12_put_61 : decode cX12_put 61 = .ok (.i2b, 1) := dx_145 (dl_at 32 29 lb_X12_put_1 rfl)
theorem dX12_put_62 : decode cX12_put 62 = .ok (.iastore, 1) := dx_79 (dl_at 32 30 lb_X12_put_1 rfl)
theorem dX12_put_63 : decode cX12_put 63 = .ok (.iload 5, 2) := dx_21 (dl_at 32 31 lb_X12_put_1 rfl) (dl_at 64 0 lb_X12_put_2 rfl)
theorem dX12_put_65 : decode cX12_put 65 = .ok (.sipush 1000, 3) := dx_17 (a := 3) (b := 232) (dl_at 64 1 lb_X12_put_2 rfl) (dl_at 64 2 lb_X12_put_2 rfl) (dl_at 64 3 lb_X12_put_2 rfl) sg16_1000
theorem dX12_put_68 : decode cX12_put 68 = .ok (.iadd, 1) := dx_96 (dl_at 64 4 lb_X12_put_2 rfl)
theorem dX12_put_69 : decode cX12_put 69 = .ok (.ireturn, 1) := dx_172 (dl_at 64 5 lb_X12_put_2 rfl)
theorem dX12_put_31 : decode cX12_put 31 = .ok (.aload_n 0, 1) := dx_42 (dl_at 0 31 lb_X12_put_0 rfl)
theorem dX12_put_32 : decode cX12_put 32 = .ok (.iconst 2, 1) := dx_5 (dl_at 32 0 lb_X12_put_1 rfl)
theorem dX12_put_33 : decode cX12_put 33 = .ok (.invokevirtual 85, 3) := dx_182 (a := 0) (b := 85) (dl_at 32 1 lb_X12_put_1 rfl) (dl_at 32 2 lb_X12_put_1 rfl) (dl_at 32 3 lb_X12_put_1 rfl) rfl
theorem dX12_put_36 : decode cX12_put 36 = .ok (.ireturn, 1) := dx_172 (dl_at 32 4 lb_X12_put_1 rfl)
theorem dX12_put_12 : decode cX12_put 12 = .ok (.iload 4, 2) := dx_21 (dl_at 0 12 lb_X12_put_0 rfl) (dl_at 0 13 lb_X12_put_0 rfl)
theorem dX12_put_14 : decode cX12_put 14 = .ok (.ireturn, 1) := dx_172 (dl_at 0 14 lb_X12_put_0 rfl)
def L_qm_row_34_0 (vn : Int32) (vr : Int32) : Nat → (Int32) → (Nat → Nat → Int32) → Int32 × (Nat → Nat → Int32)
  | 0, v3_34, nu34_ => (0, nu34_)
  | n + 1, v3_34, nu34_ =>
    if v3_34 ≥ (40 : Int32) then (
      ((vn : Int32), nu34_)
    ) else (
      LETV (F_sm_setRow nu34_ (vr : Int32) (v3_34 : Int32) (0 : Int32) : Nat → Nat → Int32) fun xi7 =>
      LETV ((v3_34 + 1) : Int32) fun w9 =>
      L_qm_row_34_0 vn vr n (w9 : Int32) xi7
    )
def F_qm_row (mu : Nat → Nat → Int32) (vr : Int32) (vn : Int32) : Int32 × (Nat → Nat → Int32) :=
  if F_sm_isRow (vr : Int32) = 1 then (
    if vn ≤ (40 : Int32) then (
      if vn ≥ (0 : Int32) then (
        LETV (va_up mu 2 (upd (mu 2) vr.toNatClampNeg vn) : Nat → Nat → Int32) fun nu4 =>
        L_qm_row_34_0 vn vr 43 (0 : Int32) nu4
      ) else (
        LETP (F_sm_meet mu (5 : Int32)) fun r10 xi10 =>
        ((r10 : Int32), xi10)
      )
    ) else (
      (((-1) : Int32), mu)
    )
  ) else (
    (((-1) : Int32), mu)
  )
def L_qm_text_34_0 (vn : Int32) (vt : Int32) : Nat → (Int32) → (Nat → Nat → Int32) → Int32 × (Nat → Nat → Int32)
  | 0, v3_34, nu34_ => (0, nu34_)
  | n + 1, v3_34, nu34_ =>
    if v3_34 ≥ (80 : Int32) then (
      ((vn : Int32), nu34_)
    ) else (
      LETV (80 * vt : Int32) fun t7 =>
      LETV (t7 + v3_34 : Int32) fun t8 =>
      LETV (va_up nu34_ 6 (upd (nu34_ 6) t8.toNatClampNeg 32) : Nat → Nat → Int32) fun nu9 =>
      LETV ((v3_34 + 1) : Int32) fun w11 =>
      L_qm_text_34_0 vn vt n (w11 : Int32) nu9
    )
def F_qm_text (mu : Nat → Nat → Int32) (vt : Int32) (vn : Int32) : Int32 × (Nat → Nat → Int32) :=
  if F_sm_isText (vt : Int32) = 1 then (
    if vn ≤ (80 : Int32) then (
      if vn ≥ (0 : Int32) then (
        LETV (va_up mu 5 (upd (mu 5) vt.toNatClampNeg vn) : Nat → Nat → Int32) fun nu4 =>
        L_qm_text_34_0 vn vt 83 (0 : Int32) nu4
      ) else (
        LETP (F_sm_meet mu (5 : Int32)) fun r12 xi12 =>
        ((r12 : Int32), xi12)
      )
    ) else (
      (((-1) : Int32), mu)
    )
  ) else (
    (((-1) : Int32), mu)
  )
def F_qm_put (mu : Nat → Nat → Int32) (vt : Int32) (vi : Int32) (vv : Int32) : Int32 × (Nat → Nat → Int32) :=
  LETP (F_sm_askedText mu (vt : Int32)) fun r1 xi1 =>
  if r1 = 0 then (
    LETV (mu 5 vt.toNatClampNeg : Int32) fun y3 =>
    LETV (y3 - 1 : Int32) fun t4 =>
    if F_sm_in (vi : Int32) (0 : Int32) (t4 : Int32) = 1 then (
      LETV (80 * vt : Int32) fun t6 =>
      LETV (t6 + vi : Int32) fun t7 =>
      LETV (mu 6 t7.toNatClampNeg : Int32) fun y8 =>
      LETV (80 * vt : Int32) fun t9 =>
      LETV (t9 + vi : Int32) fun t10 =>
      LETV ((vv : Int32).toInt8.toInt32 : Int32) fun t11 =>
      LETV (va_up mu 6 (upd (mu 6) t10.toNatClampNeg t11) : Nat → Nat → Int32) fun nu12 =>
      LETV (y8 + 1000 : Int32) fun t15 =>
      ((t15 : Int32), nu12)
    ) else (
      LETP (F_sm_meet mu (2 : Int32)) fun r16 xi16 =>
      ((r16 : Int32), xi16)
    )
  ) else (
    ((r1 : Int32), xi1)
  )
