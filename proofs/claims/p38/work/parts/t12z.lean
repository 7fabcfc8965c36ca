set_option maxHeartbeats 4000000 in
set_option maxRecDepth 100000 in
/-- sm_here -/
theorem sm_here (l : Launch) (dC : Nat → ClassId) (dI : Nat → Nat → Nat) (cs : Nat → ClassId) (ad : Nat → Nat) (mu : Nat → Nat → Int32) (ok : okR loM hiM mu) (H : Heap) (hP : va_P (dC, dI) vwCl (wR 21 ad (EM cs ad) mu) H) (vt : Int32) (hin0 : 0 ≤ vt.toInt ∧ vt.toInt ≤ 3) : Met l yX12_here (wU yX12_here cX12_here 2 (some .int)) ({ frames := 0, cells := 0, slots := 0, locals := 0 }) (va_Pc [.ref (ad 0), .int vt] (sz_P (dC, dI) vwCl (tyM cs) H)) (va_Qi (fun (z : Int32) (_ : Unit) => z = F_sm_here mu vt ∧ (z.toInt = -9 ∨ (mu 0 18).toInt < 80)) (fun _ t => t.heap = H) (fun _ => False)) 0 0 (fun _ => False) := by
  refine Met.ofW (cc := cX12_here) (maxL := 2) (ret := (some .int)) (by decide) rfl ?_
  intro p e s m args below meth c s₁ B hml hv
  obtain ⟨rfl, hh, hK, hz⟩ := hv
  have hx := B.exec
  have hb := B.bytes
  have hr := B.returns
  have hts := atoms_spec (ws := (wU yX12_here cX12_here 2 (some .int))) B.pre
  have hown : s.vm.findClass RX12 = some m.cls := findClass_of_methodNamed B.named
  have hlocks := B.notSynchronized
  subst hh
  have hS : va_S (fun _ => False) s.heap s.heap [] := va_S.rf
  have hl := lv_entry ([.ref (ad 0), .int vt]) (n := 2) (Nat.le_of_ble_eq_true rfl)
  rw [lg_entry_eq]
  generalize (lg_sl ([.ref (ad 0), .int vt]) ++ List.replicate (2 - (lg_sl ([.ref (ad 0), .int vt])).length) Slot.unset).toArray = ls at hl ⊢
  have hl : lv_has ls 2 [(0, .ref (ad 0)), (1, .int vt)] := hl
  obtain ⟨fz, hfz⟩ : ∃ z, F_sm_here mu vt = z := ⟨_, rfl⟩
  have hF := hfz
  unfold F_sm_here at hF
  refine lv_aload_n hx hb dX12_here_0 rfl (lv_at hl 0 rfl) ?_
  refine va_get (D := (dC, dI)) (ci := 12) (v := .int (mu 0 18)) (C := RX12) (T := TX12) (N := 46) hx hb hts inG12 hown hK hP 0 (gM_0 cs ad mu) rfl 18 (by decide) (hts _ (List.mem_cons_of_mem _ mw_5_59)) (fun _ h9 => h9) rfl dX12_here_1 ?_
  refine lv_topi (fun y1 ey1 => ?_)
  have hF := mi_let hF ey1
  have by1 : y1.toInt = (mu 0 18).toInt := congrArg Int32.toInt ey1
  have gy1 : 0 ≤ y1.toInt ∧ y1.toInt ≤ 90 := by rw [ey1]; exact rM_0_18 ok
  refine lv_aload_n hx hb dX12_here_4 rfl (lv_at hl 0 rfl) ?_
  refine va_get (D := (dC, dI)) (ci := 12) (v := .ref (ad 5)) (C := RX12) (T := TX12) (N := 46) hx hb hts inG12 hown hK hP 0 (gM_0 cs ad mu) rfl 6 (by decide) (hts _ (List.mem_cons_of_mem _ mw_5_47)) (fun _ h9 => h9) rfl dX12_here_5 ?_
  refine lv_iload_n hx hb dX12_here_8 rfl (lv_at hl 1 rfl) ?_
  refine va_iald hx hb hK hP 5 0 (gM_5 cs ad mu) rfl (show vp_in vt 4 from vi_of (by omega) (by omega)) dX12_here_9 ?_
  refine lv_topi (fun y2 ey2 => ?_)
  have hF := mi_let hF ey2
  have by2 : y2.toInt = (mu 5 vt.toNatClampNeg).toInt := congrArg Int32.toInt ey2
  have gy2 : -9 ≤ y2.toInt ∧ y2.toInt ≤ 80 := by rw [ey2]; exact rM_5_s ok vt.toNatClampNeg
  refine lv_icmp_ge (tgt := 30) hx hb dX12_here_10 (by decide) (fun c_3 => ?_) (fun c_3 => ?_)
  · have hF := (if_pos c_3).symm.trans hF
    have c_3 : y2.toInt ≤ y1.toInt := il_le c_3
    refine lv_bipush (v := (-9)) hx hb dX12_here_30 (by decide) ?_
    exact W.iret (v := (-9)) hx hb hr (fun t ht hW => ⟨⟨(-9), (), rfl, ⟨hF.trans hfz.symm, (by have hb4 := congrArg Int32.toInt ey1; have h6 : ((-9) : Int32).toInt = -9 := rfl; omega)⟩, ht⟩, hS.F ht⟩) hS.2.2 dX12_here_32
  · have hF := (if_neg c_3).symm.trans hF
    have c_3 : y1.toInt < y2.toInt := il_nle c_3
    refine lv_aload_n hx hb dX12_here_13 rfl (lv_at hl 0 rfl) ?_
    refine va_get (D := (dC, dI)) (ci := 12) (v := .ref (ad 6)) (C := RX12) (T := TX12) (N := 46) hx hb hts inG12 hown hK hP 0 (gM_0 cs ad mu) rfl 7 (by decide) (hts _ (List.mem_cons_of_mem _ mw_5_48)) (fun _ h9 => h9) rfl dX12_here_14 ?_
    refine lv_bipush (v := 80) hx hb dX12_here_17 (by decide) ?_
    refine lv_iload_n hx hb dX12_here_19 rfl (lv_at hl 1 rfl) ?_
    refine lv_imul hx hb dX12_here_20 ?_
    refine lv_topi (fun t5 et5 => ?_)
    have hF := mi_let hF et5
    have at5 : t5.toInt = 80 * vt.toInt := by rw [et5]; exact tI_mul (rfl : (80 : Int32).toInt = 80) (rfl : vt.toInt = _) (by omega) (by omega)
    refine lv_aload_n hx hb dX12_here_21 rfl (lv_at hl 0 rfl) ?_
    refine va_get (D := (dC, dI)) (ci := 12) (v := .int (mu 0 18)) (C := RX12) (T := TX12) (N := 46) hx hb hts inG12 hown hK hP 0 (gM_0 cs ad mu) rfl 18 (by decide) (hts _ (List.mem_cons_of_mem _ mw_5_59)) (fun _ h9 => h9) rfl dX12_here_22 ?_
    refine lq_i y1 ey1.symm ?_
    refine lv_iadd hx hb dX12_here_25 ?_
    refine lv_topi (fun t6 et6 => ?_)
    have hF := mi_let hF et6
    have at6 : t6.toInt = t5.toInt + y1.toInt := by rw [et6]; exact tI_add (rfl : t5.toInt = _) (rfl : y1.toInt = _) (by omega) (by omega)
    refine va_iald hx hb hK hP 6 0 (gM_6 cs ad mu) rfl (show vp_in t6 320 from vi_of (by omega) (by omega)) dX12_here_26 ?_
    refine lv_topi (fun y7 ey7 => ?_)
    have hF := mi_let hF ey7
    have by7 : y7.toInt = (mu 6 t6.toNatClampNeg).toInt := congrArg Int32.toInt ey7
    refine lv_goto (tgt := 32) hx hb dX12_here_27 (by decide) ?_
    exact W.iret (v := y7) hx hb hr (fun t ht hW => ⟨⟨y7, (), rfl, ⟨hF.trans hfz.symm, (by first | assumption | (have hb8 := congrArg Int32.toInt ey1; omega))⟩, ht⟩, hS.F ht⟩) hS.2.2 dX12_here_32
set_option maxHeartbeats 4000000 in
set_option maxRecDepth 100000 in
/-- sm_kindOf -/
theorem sm_kindOf (l : Launch) (dC : Nat → ClassId) (dI : Nat → Nat → Nat) (tys : List (ClassId × FieldType)) (H : Heap) (va : Int32) : Met l yX12_kindOf (wU yX12_kindOf cX12_kindOf 1 (some .int)) ({ frames := 0, cells := 0, slots := 0, locals := 0 }) (va_Pc [.int va] (sz_P (dC, dI) vwCl tys H)) (va_Qi (fun (z : Int32) (_ : Unit) => z = F_sm_kindOf va ∧ ((z.toInt = -9 ∨ ¬ va.toInt = -9) ∧ -9 ≤ z.toInt ∧ z.toInt ≤ 5)) (fun _ t => t.heap = H) (fun _ => False)) 0 0 (fun _ => False) := by
  refine Met.ofW (cc := cX12_kindOf) (maxL := 1) (ret := (some .int)) (by decide) rfl ?_
  intro p e s m args below meth c s₁ B hml hv
  obtain ⟨rfl, hh, hK, hz⟩ := hv
  have hx := B.exec
  have hb := B.bytes
  have hr := B.returns
  have hts := atoms_spec (ws := (wU yX12_kindOf cX12_kindOf 1 (some .int))) B.pre
  have hown : s.vm.findClass RX12 = some m.cls := findClass_of_methodNamed B.named
  have hlocks := B.notSynchronized
  subst hh
  have hS : va_S (fun _ => False) s.heap s.heap [] := va_S.rf
  have hl := lv_entry ([.int va]) (n := 1) (Nat.le_of_ble_eq_true rfl)
  rw [lg_entry_eq]
  generalize (lg_sl ([.int va]) ++ List.replicate (1 - (lg_sl ([.int va])).length) Slot.unset).toArray = ls at hl ⊢
  have hl : lv_has ls 1 [(0, .int va)] := hl
  obtain ⟨fz, hfz⟩ : ∃ z, F_sm_kindOf va = z := ⟨_, rfl⟩
  have hF := hfz
  unfold F_sm_kindOf at hF
  refine lv_iload_n hx hb dX12_kindOf_0 rfl (lv_at hl 0 rfl) ?_
  refine lv_bipush (v := 98) hx hb dX12_kindOf_1 (by decide) ?_
  refine lv_icmp_ne (tgt := 10) hx hb dX12_kindOf_3 (by decide) (fun c_1 => ?_) (fun c_1 => ?_)
  · have hF := (if_neg c_1).symm.trans hF
    have c_1 : ¬ va.toInt = 98 := il_ne c_1
    refine lv_iload_n hx hb dX12_kindOf_10 rfl (lv_at hl 0 rfl) ?_
    refine lv_bipush (v := 109) hx hb dX12_kindOf_11 (by decide) ?_
    refine lv_icmp_ne (tgt := 20) hx hb dX12_kindOf_13 (by decide) (fun c_2 => ?_) (fun c_2 => ?_)
    · have hF := (if_neg c_2).symm.trans hF
      have c_2 : ¬ va.toInt = 109 := il_ne c_2
      refine lv_iload_n hx hb dX12_kindOf_20 rfl (lv_at hl 0 rfl) ?_
      refine lv_bipush (v := 102) hx hb dX12_kindOf_21 (by decide) ?_
      refine lv_icmp_ne (tgt := 30) hx hb dX12_kindOf_23 (by decide) (fun c_3 => ?_) (fun c_3 => ?_)
      · have hF := (if_neg c_3).symm.trans hF
        have c_3 : ¬ va.toInt = 102 := il_ne c_3
        refine lv_iload_n hx hb dX12_kindOf_30 rfl (lv_at hl 0 rfl) ?_
        refine lv_bipush (v := 114) hx hb dX12_kindOf_31 (by decide) ?_
        refine lv_icmp_ne (tgt := 40) hx hb dX12_kindOf_33 (by decide) (fun c_4 => ?_) (fun c_4 => ?_)
        · have hF := (if_neg c_4).symm.trans hF
          have c_4 : ¬ va.toInt = 114 := il_ne c_4
          refine lv_iload_n hx hb dX12_kindOf_40 rfl (lv_at hl 0 rfl) ?_
          refine lv_bipush (v := 117) hx hb dX12_kindOf_41 (by decide) ?_
          refine lv_icmp_ne (tgt := 50) hx hb dX12_kindOf_43 (by decide) (fun c_5 => ?_) (fun c_5 => ?_)
          · have hF := (if_neg c_5).symm.trans hF
            have c_5 : ¬ va.toInt = 117 := il_ne c_5
            refine lv_iload_n hx hb dX12_kindOf_50 rfl (lv_at hl 0 rfl) ?_
            refine lv_bipush (v := 115) hx hb dX12_kindOf_51 (by decide) ?_
            refine lv_icmp_ne (tgt := 60) hx hb dX12_kindOf_53 (by decide) (fun c_6 => ?_) (fun c_6 => ?_)
            · have hF := (if_neg c_6).symm.trans hF
              have c_6 : ¬ va.toInt = 115 := il_ne c_6
              refine lv_bipush (v := (-9)) hx hb dX12_kindOf_60 (by decide) ?_
              exact W.iret (v := (-9)) hx hb hr (fun t ht hW => ⟨⟨(-9), (), rfl, ⟨hF.trans hfz.symm, (by have h6 : ((-9) : Int32).toInt = -9 := rfl; omega)⟩, ht⟩, hS.F ht⟩) hS.2.2 dX12_kindOf_62
            · have hF := (if_pos c_6).symm.trans hF
              have c_6 : va.toInt = 115 := il_eq c_6
              refine lv_iconst (v := 5) hx hb dX12_kindOf_56 (by decide) ?_
              refine lv_goto (tgt := 62) hx hb dX12_kindOf_57 (by decide) ?_
              exact W.iret (v := 5) hx hb hr (fun t ht hW => ⟨⟨5, (), rfl, ⟨hF.trans hfz.symm, (by have h6 : (5 : Int32).toInt = 5 := rfl; omega)⟩, ht⟩, hS.F ht⟩) hS.2.2 dX12_kindOf_62
          · have hF := (if_pos c_5).symm.trans hF
            have c_5 : va.toInt = 117 := il_eq c_5
            refine lv_iconst (v := 4) hx hb dX12_kindOf_46 (by decide) ?_
            refine lv_goto (tgt := 62) hx hb dX12_kindOf_47 (by decide) ?_
            exact W.iret (v := 4) hx hb hr (fun t ht hW => ⟨⟨4, (), rfl, ⟨hF.trans hfz.symm, (by have h6 : (4 : Int32).toInt = 4 := rfl; omega)⟩, ht⟩, hS.F ht⟩) hS.2.2 dX12_kindOf_62
        · have hF := (if_pos c_4).symm.trans hF
          have c_4 : va.toInt = 114 := il_eq c_4
          refine lv_iconst (v := 3) hx hb dX12_kindOf_36 (by decide) ?_
          refine lv_goto (tgt := 62) hx hb dX12_kindOf_37 (by decide) ?_
          exact W.iret (v := 3) hx hb hr (fun t ht hW => ⟨⟨3, (), rfl, ⟨hF.trans hfz.symm, (by have h6 : (3 : Int32).toInt = 3 := rfl; omega)⟩, ht⟩, hS.F ht⟩) hS.2.2 dX12_kindOf_62
      · have hF := (if_pos c_3).symm.trans hF
        have c_3 : va.toInt = 102 := il_eq c_3
        refine lv_iconst (v := 2) hx hb dX12_kindOf_26 (by decide) ?_
        refine lv_goto (tgt := 62) hx hb dX12_kindOf_27 (by decide) ?_
        exact W.iret (v := 2) hx hb hr (fun t ht hW => ⟨⟨2, (), rfl, ⟨hF.trans hfz.symm, (by have h6 : (2 : Int32).toInt = 2 := rfl; omega)⟩, ht⟩, hS.F ht⟩) hS.2.2 dX12_kindOf_62
    · have hF := (if_pos c_2).symm.trans hF
      have c_2 : va.toInt = 109 := il_eq c_2
      refine lv_iconst (v := 1) hx hb dX12_kindOf_16 (by decide) ?_
      refine lv_goto (tgt := 62) hx hb dX12_kindOf_17 (by decide) ?_
      exact W.iret (v := 1) hx hb hr (fun t ht hW => ⟨⟨1, (), rfl, ⟨hF.trans hfz.symm, (by have h6 : (1 : Int32).toInt = 1 := rfl; omega)⟩, ht⟩, hS.F ht⟩) hS.2.2 dX12_kindOf_62
  · have hF := (if_pos c_1).symm.trans hF
    have c_1 : va.toInt = 98 := il_eq c_1
    refine lv_iconst (v := 0) hx hb dX12_kindOf_6 (by decide) ?_
    refine lv_goto (tgt := 62) hx hb dX12_kindOf_7 (by decide) ?_
    exact W.iret (v := 0) hx hb hr (fun t ht hW => ⟨⟨0, (), rfl, ⟨hF.trans hfz.symm, (by have h6 : (0 : Int32).toInt = 0 := rfl; omega)⟩, ht⟩, hS.F ht⟩) hS.2.2 dX12_kindOf_62
set_option maxHeartbeats 4000000 in
set_option maxRecDepth 100000 in
/-- sm_readsBearer -/
theorem sm_readsBearer (l : Launch) (dC : Nat → ClassId) (dI : Nat → Nat → Nat) (cs : Nat → ClassId) (ad : Nat → Nat) (mu : Nat → Nat → Int32) (ok : okR loM hiM mu) (H : Heap) (hP : va_P (dC, dI) vwCl (wR 21 ad (EM cs ad) mu) H) (hD0 : va_D (fun _ => True) (wR 21 ad (EM cs ad) mu)) (vt : Int32) (hin0 : 0 ≤ vt.toInt ∧ vt.toInt ≤ 3) (hin1 : (mu 0 18).toInt < 80) : Met l yX12_readsBearer (wU yX12_readsBearer cX12_readsBearer 5 (some .boolean)) ({ frames := 1, cells := 0, slots := 0, locals := 22 }) (va_Pc [.ref (ad 0), .int vt] (sz_P (dC, dI) vwCl (tyM cs) H)) (va_Qi (fun (z : Int32) (xi : Nat → Nat → Int32) => (z, xi) = F_sm_readsBearer mu vt ∧ okR loM hiM xi ∧ ((z.toInt = 0 ∨ (mu 0 18).toInt < (xi 0 18).toInt) ∧ 0 ≤ z.toInt ∧ z.toInt ≤ 1) ∧ (∀ k : Nat, 5 ≤ k → k < 7 → xi k = mu k) ∧ (∀ k f : Nat, Nat.testBit 510 (gpM k f) = true → xi k f = mu k f)) (fun xi t => va_P (dC, dI) vwCl (wR 21 ad (EM cs ad) xi) t.heap) (va_A (wR 21 ad (EM cs ad) mu) H.size)) 0 0 (va_A (wR 21 ad (EM cs ad) mu) H.size) := by
  refine Met.ofW (cc := cX12_readsBearer) (maxL := 5) (ret := (some .boolean)) (by decide) rfl ?_
  intro p e s m args below meth c s₁ B hml hv
  obtain ⟨rfl, hh, hK, hz⟩ := hv
  have hx := B.exec
  have hb := B.bytes
  have hr := B.returns
  have hts := atoms_spec (ws := (wU yX12_readsBearer cX12_readsBearer 5 (some .boolean))) B.pre
  have hown : s.vm.findClass RX12 = some m.cls := findClass_of_methodNamed B.named
  have hlocks := B.notSynchronized
  subst hh
  have hD := hD0.self (sz := s.heap.size)
  have hA : ∀ q : Nat, s.heap.size ≤ q → (va_A (wR 21 ad (EM cs ad) mu) s.heap.size) q := fun q h => Or.inr h
  have hS : va_S (va_A (wR 21 ad (EM cs ad) mu) s.heap.size) s.heap s.heap [] := va_S.rf
  have hl := lv_entry ([.ref (ad 0), .int vt]) (n := 5) (Nat.le_of_ble_eq_true rfl)
  rw [lg_entry_eq]
  generalize (lg_sl ([.ref (ad 0), .int vt]) ++ List.replicate (5 - (lg_sl ([.ref (ad 0), .int vt])).length) Slot.unset).toArray = ls at hl ⊢
  have hl : lv_has ls 5 [(0, .ref (ad 0)), (1, .int vt)] := hl
  obtain ⟨fz, hfz⟩ : ∃ z, F_sm_readsBearer mu vt = z := ⟨_, rfl⟩
  have hF := hfz
  unfold F_sm_readsBearer at hF
  obtain ⟨y1, ey1⟩ : ∃ z : Int32, z = mu 0 18 := ⟨_, rfl⟩
  have hF := mi_let hF ey1
  have by1 : y1.toInt = (mu 0 18).toInt := congrArg Int32.toInt ey1
  have gy1 : 0 ≤ y1.toInt ∧ y1.toInt ≤ 90 := by rw [ey1]; exact rM_0_18 ok
  obtain ⟨y2, ey2⟩ : ∃ z : Int32, z = mu 0 19 := ⟨_, rfl⟩
  have hF := mi_let hF ey2
  have by2 : y2.toInt = (mu 0 19).toInt := congrArg Int32.toInt ey2
  have gy2 : 0 ≤ y2.toInt ∧ y2.toInt ≤ 7 := by rw [ey2]; exact rM_0_19 ok
  refine lv_aload_n hx hb dX12_readsBearer_0 rfl (lv_at hl 0 rfl) ?_
  refine lv_iload_n hx hb dX12_readsBearer_1 rfl (lv_at hl 1 rfl) ?_
  refine cr_i (va_runV (As := [.int vt]) (rest := []) ⟨hx, hb, hml, hown, hts⟩ (sm_here l dC dI cs ad mu ok s.heap hP vt (by omega)) (cwV 1 hts (wU_V mw_6_17 mw_6_14 mw_6_16 mw_0_33 mw_1_13) rfl rfl rfl (by decide +kernel) ⟨Nat.le_of_ble_eq_true rfl, Nat.le_of_ble_eq_true rfl⟩) ⟨sz_c, va_recv hK hP (ci := 12) (q0 := 0) rfl (gM_0 cs ad mu), sz_m hK hz⟩ rfl rfl hl.1 rfl (lv_room (Nat.le_of_ble_eq_true rfl)) dX12_readsBearer_2 ⟨Nat.zero_le _, Nat.zero_le _⟩) hS (fun r3 hw3 locs hS => ?_)
  obtain ⟨hfe3, hw3⟩ := hw3
  have hF := mi_let hF hfe3
  have gr3 : r3.toInt = -9 ∨ (mu 0 18).toInt < 80 := hw3
  refine cr_i (va_runS (As := [.int r3]) (rest := []) ⟨hx, hb, hml, hown, hts⟩ (sm_kindOf l dC dI (tyM cs) s.heap r3) (va_cwS 1 hts (wU_S mw_6_28 mw_6_26 mw_6_27 mw_1_13) rfl rfl rfl (by decide +kernel) ⟨Nat.le_of_ble_eq_true rfl, Nat.le_of_ble_eq_true rfl⟩) ⟨sz_c, sz_m hK hz⟩ rfl rfl hl.1 rfl (lv_room (Nat.le_of_ble_eq_true rfl)) dX12_readsBearer_5 ⟨Nat.zero_le _, Nat.zero_le _⟩) hS (fun r4 hw4 locs hS => ?_)
  obtain ⟨hfe4, hw4⟩ := hw4
  have hF := mi_let hF hfe4
  have gr4 : (r4.toInt = -9 ∨ ¬ r3.toInt = -9) ∧ -9 ≤ r4.toInt ∧ r4.toInt ≤ 5 := hw4
  refine lv_istore_n (lv' := [(2, .int r4), (0, .ref (ad 0)), (1, .int vt)]) hx hb dX12_readsBearer_8 rfl hl (by decide) rfl (fun ls hl => ?_)
  refine lv_iload_n hx hb dX12_readsBearer_9 rfl (lv_at hl 0 rfl) ?_
  refine lv_bipush (v := (-9)) hx hb dX12_readsBearer_10 (by decide) ?_
  refine lv_icmp_eq (tgt := 31) hx hb dX12_readsBearer_12 (by decide) (fun c_5 => ?_) (fun c_5 => ?_)
  · have hF := (if_pos c_5).symm.trans hF
    have c_5 : r4.toInt = -9 := il_eq c_5
    refine lv_iconst (v := 0) hx hb dX12_readsBearer_31 (by decide) ?_
    exact W.zret (v := 0) (ty := .boolean) hx hb hr (by first | rfl | decide) (fun t ht hW => ⟨⟨0, mu, rfl, ⟨hF.trans hfz.symm, ok, (by have hb6 := congrArg Int32.toInt ey1; have h6 : (0 : Int32).toInt = 0 := rfl; omega), (fun _ _ _ => rfl), (fun _ _ _ => rfl)⟩, by first | (subst ht; exact hP) | (rw [ht]; exact hP) | (show va_P (dC, dI) vwCl (wR 21 ad (EM cs ad) mu) t.heap; rw [ht]; exact hP)⟩, hS.F ht⟩) hS.2.2 dX12_readsBearer_32
  · have hF := (if_neg c_5).symm.trans hF
    have c_5 : ¬ r4.toInt = -9 := il_ne c_5
    refine lv_aload_n hx hb dX12_readsBearer_15 rfl (lv_at hl 1 rfl) ?_
    refine va_get (D := (dC, dI)) (ci := 12) (v := .int (mu 0 20)) (C := RX12) (T := TX12) (N := 46) hx hb hts inG12 hown hK hP 0 (gM_0 cs ad mu) rfl 20 (by decide) (hts _ (List.mem_cons_of_mem _ mw_5_61)) (fun _ h9 => h9) rfl dX12_readsBearer_16 ?_
    refine lv_topi (fun y7 ey7 => ?_)
    have hF := mi_let hF ey7
    have by7 : y7.toInt = (mu 0 20).toInt := congrArg Int32.toInt ey7
    have gy7 : 0 ≤ y7.toInt ∧ y7.toInt ≤ 12 := by rw [ey7]; exact rM_0_20 ok
    refine lv_if_gt (tgt := 31) hx hb dX12_readsBearer_19 (by decide) (fun c_8 => ?_) (fun c_8 => ?_)
    · have hF := (if_pos c_8).symm.trans hF
      have c_8 : 0 < y7.toInt := il_lt c_8
      refine lv_iconst (v := 0) hx hb dX12_readsBearer_31 (by decide) ?_
      exact W.zret (v := 0) (ty := .boolean) hx hb hr (by first | rfl | decide) (fun t ht hW => ⟨⟨0, mu, rfl, ⟨hF.trans hfz.symm, ok, (by have hb9 := congrArg Int32.toInt ey1; have h6 : (0 : Int32).toInt = 0 := rfl; omega), (fun _ _ _ => rfl), (fun _ _ _ => rfl)⟩, by first | (subst ht; exact hP) | (rw [ht]; exact hP) | (show va_P (dC, dI) vwCl (wR 21 ad (EM cs ad) mu) t.heap; rw [ht]; exact hP)⟩, hS.F ht⟩) hS.2.2 dX12_readsBearer_32
    · have hF := (if_neg c_8).symm.trans hF
      have c_8 : y7.toInt ≤ 0 := il_nlt c_8
      refine lv_aload_n hx hb dX12_readsBearer_22 rfl (lv_at hl 1 rfl) ?_
      refine va_get (D := (dC, dI)) (ci := 12) (v := .int (mu 0 19)) (C := RX12) (T := TX12) (N := 46) hx hb hts inG12 hown hK hP 0 (gM_0 cs ad mu) rfl 19 (by decide) (hts _ (List.mem_cons_of_mem _ mw_5_60)) (fun _ h9 => h9) rfl dX12_readsBearer_23 ?_
      refine lq_i y2 ey2.symm ?_
      refine lv_bipush (v := 7) hx hb dX12_readsBearer_26 (by decide) ?_
      refine lv_icmp_ne (tgt := 33) hx hb dX12_readsBearer_28 (by decide) (fun c_10 => ?_) (fun c_10 => ?_)
      · have hF := (if_neg c_10).symm.trans hF
        have c_10 : ¬ y2.toInt = 7 := il_ne c_10
        refine lv_aload_n hx hb dX12_readsBearer_33 rfl (lv_at hl 1 rfl) ?_
        refine lv_dup hx hb dX12_readsBearer_34 rfl ?_
        refine va_get (D := (dC, dI)) (ci := 12) (v := .int (mu 0 18)) (C := RX12) (T := TX12) (N := 46) hx hb hts inG12 hown hK hP 0 (gM_0 cs ad mu) rfl 18 (by decide) (hts _ (List.mem_cons_of_mem _ mw_5_59)) (fun _ h9 => h9) rfl dX12_readsBearer_35 ?_
        refine lq_i y1 ey1.symm ?_
        refine lv_iconst (v := 1) hx hb dX12_readsBearer_38 (by decide) ?_
        refine lv_iadd hx hb dX12_readsBearer_39 ?_
        refine lv_topi (fun t11 et11 => ?_)
        have hF := mi_let hF et11
        have at11 : t11.toInt = y1.toInt + 1 := by rw [et11]; exact va1 (by omega)
        refine va_put (D := (dC, dI)) (ci := 12) (v := .int t11) (ty := .int) (C := RX12) (T := TX12) (N := 46) hx hb hts inG12 tyX12 tyX12_ok nmX12 hown hK hP (wR_D mu hD) hS 0 (gM_0 cs ad mu) rfl 18 (by decide) (hts _ (List.mem_cons_of_mem _ mw_5_59)) (fun _ h9 => h9) rfl (by decide +kernel) rfl rfl (Nat.le_of_ble_eq_true rfl) dX12_readsBearer_40 (fun H locs hP _ hS => ?_)
        simp only [List.set_cons_succ, List.set_cons_zero] at hP
        refine wr_gen (upd (mu 0) 18 t11) hP ((hM_0_18 cs ad _ _)) (fun nu12 hn12 hP => ?_)
        have hF := mi_let hF hn12.symm
        have ok := tM_0_18 ok hn12 (by omega)
        have ez13 : y2 = nu12 0 19 := ey2.trans (up_f hn12 (by decide)).symm
        have ez14 : y7 = nu12 0 20 := ey7.trans (up_f hn12 (by decide)).symm
        have kp15 : ∀ k : Nat, 5 ≤ k → k < 7 → nu12 k = mu k := fun k h1 h2 => (up_k hn12 (ne_lo (by decide) h1).symm).trans ((fun _ _ _ => rfl) k h1 h2)
        have kp16 : (∀ k f : Nat, Nat.testBit 510 (gpM k f) = true → nu12 k f = mu k f) := kp_f hn12 (by decide) (fun _ _ _ => rfl)
        have ez17 : t11 = nu12 0 18 := up_v hn12
        refine lv_iconst (v := 0) hx hb dX12_readsBearer_43 (by decide) ?_
        refine lv_istore_n (lv' := [(3, .int 0), (2, .int r4), (0, .ref (ad 0)), (1, .int vt)]) hx hb dX12_readsBearer_44 rfl hl (by decide) rfl (fun ls hl => ?_)
        refine lv_iconst (v := 0) hx hb dX12_readsBearer_45 (by decide) ?_
        refine lv_istore (lv' := [(4, .int 0), (3, .int 0), (2, .int r4), (0, .ref (ad 0)), (1, .int vt)]) hx hb dX12_readsBearer_46 hl (by decide) rfl (fun ls hl => ?_)
        have loop48 : ∀ (n48 : Nat) (v3_48 : Int32) (v4_48 : Int32) (nu48_ : Nat → Nat → Int32) (H : Heap) (locs : List Loc) (ls : Array Slot), (2 + 1 - v4_48.toInt).toNat < n48 → (0 ≤ v4_48.toInt ∧ v4_48.toInt ≤ 2) → ((mu 0 18).toInt < (nu48_ 0 18).toInt) → ((nu48_ 0 19).toInt ≤ 6) → okR loM hiM nu48_ → va_P (dC, dI) vwCl (wR 21 ad (EM cs ad) nu48_) H → (∀ k : Nat, 5 ≤ k → k < 7 → nu48_ k = mu k) → (∀ k f : Nat, Nat.testBit 510 (gpM k f) = true → nu48_ k f = mu k f) → L_sm_readsBearer_48_0 r4 vt n48 v3_48 v4_48 nu48_ = fz → va_S (va_A (wR 21 ad (EM cs ad) mu) s.heap.size) s.heap H locs → lv_has ls 5 [(4, .int v4_48), (3, .int v3_48), (2, .int r4), (0, .ref (ad 0)), (1, .int vt)] → W p l e (headSpec (wU yX12_readsBearer cX12_readsBearer 5 (some .boolean)) ({ frames := 1, cells := 0, slots := 0, locals := 22 })).room s m ([.ref (ad 0), .int vt] : List Value).toArray below meth c H locs 0 0 (MQ below (va_Qi (fun (z : Int32) (xi : Nat → Nat → Int32) => (z, xi) = F_sm_readsBearer mu vt ∧ okR loM hiM xi ∧ ((z.toInt = 0 ∨ (mu 0 18).toInt < (xi 0 18).toInt) ∧ 0 ≤ z.toInt ∧ z.toInt ≤ 1) ∧ (∀ k : Nat, 5 ≤ k → k < 7 → xi k = mu k) ∧ (∀ k f : Nat, Nat.testBit 510 (gpM k f) = true → xi k f = mu k f)) (fun xi t => va_P (dC, dI) vwCl (wR 21 ad (EM cs ad) xi) t.heap) (va_A (wR 21 ad (EM cs ad) mu) s.heap.size)) ([.ref (ad 0), .int vt] : List Value).toArray s 0 0 (va_A (wR 21 ad (EM cs ad) mu) s.heap.size)) (F0 m 48 ls []) := by
          intro n48
          induction n48 with
          | zero => intro v3_48 v4_48 nu48_ H locs ls hm; exact absurd hm (Nat.not_lt_zero _)
          | succ n48 ih48 =>
            intro v3_48 v4_48 nu48_ H locs ls hm_48 h_v4_48 hi48_0 hi48_1 ok hP kq48_0 kq48_1 hF hS hl
            rw [L_sm_readsBearer_48_0] at hF
            obtain ⟨y18, ey18⟩ : ∃ z : Int32, z = nu48_ 0 18 := ⟨_, rfl⟩
            have hF := mi_let hF ey18
            have by18 : y18.toInt = (nu48_ 0 18).toInt := congrArg Int32.toInt ey18
            have gy18 : 0 ≤ y18.toInt ∧ y18.toInt ≤ 90 := by rw [ey18]; exact rM_0_18 ok
            obtain ⟨y19, ey19⟩ : ∃ z : Int32, z = nu48_ 0 19 := ⟨_, rfl⟩
            have hF := mi_let hF ey19
            have by19 : y19.toInt = (nu48_ 0 19).toInt := congrArg Int32.toInt ey19
            have gy19 : 0 ≤ y19.toInt ∧ y19.toInt ≤ 7 := by rw [ey19]; exact rM_0_19 ok
            refine lv_iload hx hb dX12_readsBearer_48 (lv_at hl 0 rfl) ?_
            refine lv_iconst (v := 2) hx hb dX12_readsBearer_50 (by decide) ?_
            refine lv_icmp_ge (tgt := 101) hx hb dX12_readsBearer_51 (by decide) (fun c_20 => ?_) (fun c_20 => ?_)
            · have hF := (if_pos c_20).symm.trans hF
              have c_20 : 2 ≤ v4_48.toInt := il_le c_20
              refine lv_aload_n hx hb dX12_readsBearer_101 rfl (lv_at hl 3 rfl) ?_
              refine va_get (D := (dC, dI)) (ci := 12) (v := .ref (ad 11)) (C := RX12) (T := TX12) (N := 46) hx hb hts inG12 hown hK hP 0 (gM_0 cs ad nu48_) rfl 21 (by decide) (hts _ (List.mem_cons_of_mem _ mw_5_62)) (fun _ h9 => h9) rfl dX12_readsBearer_102 ?_
              refine lv_aload_n hx hb dX12_readsBearer_105 rfl (lv_at hl 3 rfl) ?_
              refine va_get (D := (dC, dI)) (ci := 12) (v := .int (nu48_ 0 19)) (C := RX12) (T := TX12) (N := 46) hx hb hts inG12 hown hK hP 0 (gM_0 cs ad nu48_) rfl 19 (by decide) (hts _ (List.mem_cons_of_mem _ mw_5_60)) (fun _ h9 => h9) rfl dX12_readsBearer_106 ?_
              refine lq_i y19 ey19.symm ?_
              refine lv_iload_n hx hb dX12_readsBearer_109 rfl (lv_at hl 2 rfl) ?_
              refine va_iast hx hb hK hP (wR_D nu48_ hD) hS 11 0 (gM_11 cs ad nu48_) rfl (show vp_in y19 7 from vi_of (by omega) (by omega)) dX12_readsBearer_110 (fun H locs hP _ hS => ?_)
              refine wr_gen (upd (nu48_ 11) y19.toNatClampNeg r4) hP (rfl) (fun nu21 hn21 hP => ?_)
              have hF := mi_let hF hn21.symm
              have ok := tM_11_s ok y19.toNatClampNeg hn21
              have ez22 : y18 = nu21 0 18 := ey18.trans (congrFun (up_k hn21 (by decide)) 18).symm
              have ez23 : y19 = nu21 0 19 := ey19.trans (congrFun (up_k hn21 (by decide)) 19).symm
              have kp24 : ∀ k : Nat, 5 ≤ k → k < 7 → nu21 k = mu k := fun k h1 h2 => (up_k hn21 (ne_hi (by decide) h2).symm).trans (kq48_0 k h1 h2)
              have kp25 : (∀ k f : Nat, Nat.testBit 510 (gpM k f) = true → nu21 k f = mu k f) := kp_c 0 hn21 (fun _ => rfl) (by decide) kq48_1
              refine lv_aload_n hx hb dX12_readsBearer_111 rfl (lv_at hl 3 rfl) ?_
              refine va_get (D := (dC, dI)) (ci := 12) (v := .ref (ad 12)) (C := RX12) (T := TX12) (N := 46) hx hb hts inG12 hown hK hP 0 (gM_0 cs ad nu21) rfl 22 (by decide) (hts _ (List.mem_cons_of_mem _ mw_5_63)) (fun _ h9 => h9) rfl dX12_readsBearer_112 ?_
              refine lv_aload_n hx hb dX12_readsBearer_115 rfl (lv_at hl 3 rfl) ?_
              refine va_get (D := (dC, dI)) (ci := 12) (v := .int (nu21 0 19)) (C := RX12) (T := TX12) (N := 46) hx hb hts inG12 hown hK hP 0 (gM_0 cs ad nu21) rfl 19 (by decide) (hts _ (List.mem_cons_of_mem _ mw_5_60)) (fun _ h9 => h9) rfl dX12_readsBearer_116 ?_
              refine lq_i y19 ez23.symm ?_
              refine lv_iload_n hx hb dX12_readsBearer_119 rfl (lv_at hl 1 rfl) ?_
              refine va_iast hx hb hK hP (wR_D nu21 hD) hS 12 0 (gM_12 cs ad nu21) rfl (show vp_in y19 7 from vi_of (by omega) (by omega)) dX12_readsBearer_120 (fun H locs hP _ hS => ?_)
              refine wr_gen (upd (nu21 12) y19.toNatClampNeg v3_48) hP (rfl) (fun nu26 hn26 hP => ?_)
              have hF := mi_let hF hn26.symm
              have ok := tM_12_s ok y19.toNatClampNeg hn26
              have ez27 : y18 = nu26 0 18 := ez22.trans (congrFun (up_k hn26 (by decide)) 18).symm
              have ez28 : y19 = nu26 0 19 := ez23.trans (congrFun (up_k hn26 (by decide)) 19).symm
              have kp29 : ∀ k : Nat, 5 ≤ k → k < 7 → nu26 k = mu k := fun k h1 h2 => (up_k hn26 (ne_hi (by decide) h2).symm).trans (kp24 k h1 h2)
              have kp30 : (∀ k f : Nat, Nat.testBit 510 (gpM k f) = true → nu26 k f = mu k f) := kp_c 0 hn26 (fun _ => rfl) (by decide) kp25
              refine lv_aload_n hx hb dX12_readsBearer_121 rfl (lv_at hl 3 rfl) ?_
              refine lv_dup hx hb dX12_readsBearer_122 rfl ?_
              refine va_get (D := (dC, dI)) (ci := 12) (v := .int (nu26 0 19)) (C := RX12) (T := TX12) (N := 46) hx hb hts inG12 hown hK hP 0 (gM_0 cs ad nu26) rfl 19 (by decide) (hts _ (List.mem_cons_of_mem _ mw_5_60)) (fun _ h9 => h9) rfl dX12_readsBearer_123 ?_
              refine lq_i y19 ez28.symm ?_
              refine lv_iconst (v := 1) hx hb dX12_readsBearer_126 (by decide) ?_
              refine lv_iadd hx hb dX12_readsBearer_127 ?_
              refine lv_topi (fun t31 et31 => ?_)
              have hF := mi_let hF et31
              have at31 : t31.toInt = y19.toInt + 1 := by rw [et31]; exact va1 (by omega)
              refine va_put (D := (dC, dI)) (ci := 12) (v := .int t31) (ty := .int) (C := RX12) (T := TX12) (N := 46) hx hb hts inG12 tyX12 tyX12_ok nmX12 hown hK hP (wR_D nu26 hD) hS 0 (gM_0 cs ad nu26) rfl 19 (by decide) (hts _ (List.mem_cons_of_mem _ mw_5_60)) (fun _ h9 => h9) rfl (by decide +kernel) rfl rfl (Nat.le_of_ble_eq_true rfl) dX12_readsBearer_128 (fun H locs hP _ hS => ?_)
              simp only [List.set_cons_succ, List.set_cons_zero] at hP
              refine wr_gen (upd (nu26 0) 19 t31) hP ((hM_0_19 cs ad _ _)) (fun nu32 hn32 hP => ?_)
              have hF := mi_let hF hn32.symm
              have ok := tM_0_19 ok hn32 (by omega)
              have ez33 : y18 = nu32 0 18 := ez27.trans (up_f hn32 (by decide)).symm
              have kp34 : ∀ k : Nat, 5 ≤ k → k < 7 → nu32 k = mu k := fun k h1 h2 => (up_k hn32 (ne_lo (by decide) h1).symm).trans (kp29 k h1 h2)
              have kp35 : (∀ k f : Nat, Nat.testBit 510 (gpM k f) = true → nu32 k f = mu k f) := kp_f hn32 (by decide) kp30
              have ez36 : t31 = nu32 0 19 := up_v hn32
              refine lv_iconst (v := 1) hx hb dX12_readsBearer_131 (by decide) ?_
              exact W.zret (v := 1) (ty := .boolean) hx hb hr (by first | rfl | decide) (fun t ht hW => ⟨⟨1, nu32, rfl, ⟨hF.trans hfz.symm, ok, (by have hb37 := congrArg Int32.toInt ez33; have h6 : (1 : Int32).toInt = 1 := rfl; omega), kp34, kp35⟩, by first | (subst ht; exact hP) | (rw [ht]; exact hP) | (show va_P (dC, dI) vwCl (wR 21 ad (EM cs ad) nu32) t.heap; rw [ht]; exact hP)⟩, hS.F ht⟩) hS.2.2 dX12_readsBearer_132
            · have hF := (if_neg c_20).symm.trans hF
              have c_20 : v4_48.toInt < 2 := il_nle c_20
              refine lv_aload_n hx hb dX12_readsBearer_54 rfl (lv_at hl 3 rfl) ?_
              refine lv_iload_n hx hb dX12_readsBearer_55 rfl (lv_at hl 4 rfl) ?_
              refine cr_i (va_runV (As := [.int vt]) (rest := []) ⟨hx, hb, hml, hown, hts⟩ (sm_here l dC dI cs ad nu48_ ok H hP vt (by omega)) (cwV 1 hts (wU_V mw_6_17 mw_6_14 mw_6_16 mw_0_33 mw_1_13) rfl rfl rfl (by decide +kernel) ⟨Nat.le_of_ble_eq_true rfl, Nat.le_of_ble_eq_true rfl⟩) ⟨sz_c, va_recv hK hP (ci := 12) (q0 := 0) rfl (gM_0 cs ad nu48_), sz_m hK hz⟩ rfl rfl hl.1 rfl (lv_room (Nat.le_of_ble_eq_true rfl)) dX12_readsBearer_56 ⟨Nat.zero_le _, Nat.zero_le _⟩) hS (fun r38 hw38 locs hS => ?_)
              obtain ⟨hfe38, hw38⟩ := hw38
              have hF := mi_let hF hfe38
              have gr38 : r38.toInt = -9 ∨ (nu48_ 0 18).toInt < 80 := hw38
              refine lv_bipush (v := 48) hx hb dX12_readsBearer_59 (by decide) ?_
              refine lv_bipush (v := 57) hx hb dX12_readsBearer_61 (by decide) ?_
              refine cr_i (va_runS (As := [.int r38, .int 48, .int 57]) (rest := []) ⟨hx, hb, hml, hown, hts⟩ (sm_in l dC dI (tyM cs) H r38 48 57) (va_cwS 3 hts (wU_S mw_5_189 mw_5_187 mw_5_188 mw_1_13) rfl rfl rfl (by decide +kernel) ⟨Nat.le_of_ble_eq_true rfl, Nat.le_of_ble_eq_true rfl⟩) ⟨sz_c, sz_m hK hz⟩ rfl rfl hl.1 rfl (lv_room (Nat.le_of_ble_eq_true rfl)) dX12_readsBearer_63 ⟨Nat.zero_le _, Nat.zero_le _⟩) hS (fun r39 hw39 locs hS => ?_)
              obtain ⟨hfe39, hw39⟩ := hw39
              rcases hw39 with ⟨rfl, f39⟩ | ⟨rfl, f39⟩
              · have hF := (if_pos hfe39.symm).symm.trans hF
                have f39 : (48 : Int) ≤ r38.toInt ∧ r38.toInt ≤ (57 : Int) := f39
                refine lv_if_ne (tgt := 71) hx hb dX12_readsBearer_66 (by decide) (fun _ => ?_) (fun c => absurd c (by decide))
                refine lv_bipush (v := 10) hx hb dX12_readsBearer_71 (by decide) ?_
                refine lv_iload_n hx hb dX12_readsBearer_73 rfl (lv_at hl 1 rfl) ?_
                refine lv_imul hx hb dX12_readsBearer_74 ?_
                refine lv_topi (fun t40 et40 => ?_)
                have hF := mi_let hF et40
                refine lv_aload_n hx hb dX12_readsBearer_75 rfl (lv_at hl 3 rfl) ?_
                refine lv_iload_n hx hb dX12_readsBearer_76 rfl (lv_at hl 4 rfl) ?_
                refine cr_i (va_runV (As := [.int vt]) (rest := [.int t40]) ⟨hx, hb, hml, hown, hts⟩ (sm_here l dC dI cs ad nu48_ ok H hP vt (by omega)) (cwV 1 hts (wU_V mw_6_17 mw_6_14 mw_6_16 mw_0_33 mw_1_13) rfl rfl rfl (by decide +kernel) ⟨Nat.le_of_ble_eq_true rfl, Nat.le_of_ble_eq_true rfl⟩) ⟨sz_c, va_recv hK hP (ci := 12) (q0 := 0) rfl (gM_0 cs ad nu48_), sz_m hK hz⟩ rfl rfl hl.1 rfl (lv_room (Nat.le_of_ble_eq_true rfl)) dX12_readsBearer_77 ⟨Nat.zero_le _, Nat.zero_le _⟩) hS (fun r41 hw41 locs hS => ?_)
                obtain ⟨hfe41, hw41⟩ := hw41
                have hF := mi_let hF hfe41
                have gr41 : r41.toInt = -9 ∨ (nu48_ 0 18).toInt < 80 := hw41
                refine lv_iadd hx hb dX12_readsBearer_80 ?_
                refine lv_topi (fun t42 et42 => ?_)
                have hF := mi_let hF et42
                refine lv_bipush (v := 48) hx hb dX12_readsBearer_81 (by decide) ?_
                refine lv_isub hx hb dX12_readsBearer_83 ?_
                refine lv_topi (fun t43 et43 => ?_)
                have hF := mi_let hF et43
                refine lv_istore_n (lv' := [(3, .int t43), (4, .int v4_48), (2, .int r4), (0, .ref (ad 0)), (1, .int vt)]) hx hb dX12_readsBearer_84 rfl hl (by decide) rfl (fun ls hl => ?_)
                refine lv_aload_n hx hb dX12_readsBearer_85 rfl (lv_at hl 3 rfl) ?_
                refine lv_dup hx hb dX12_readsBearer_86 rfl ?_
                refine va_get (D := (dC, dI)) (ci := 12) (v := .int (nu48_ 0 18)) (C := RX12) (T := TX12) (N := 46) hx hb hts inG12 hown hK hP 0 (gM_0 cs ad nu48_) rfl 18 (by decide) (hts _ (List.mem_cons_of_mem _ mw_5_59)) (fun _ h9 => h9) rfl dX12_readsBearer_87 ?_
                refine lq_i y18 ey18.symm ?_
                refine lv_iconst (v := 1) hx hb dX12_readsBearer_90 (by decide) ?_
                refine lv_iadd hx hb dX12_readsBearer_91 ?_
                refine lv_topi (fun t44 et44 => ?_)
                have hF := mi_let hF et44
                have at44 : t44.toInt = y18.toInt + 1 := by rw [et44]; exact va1 (by omega)
                refine va_put (D := (dC, dI)) (ci := 12) (v := .int t44) (ty := .int) (C := RX12) (T := TX12) (N := 46) hx hb hts inG12 tyX12 tyX12_ok nmX12 hown hK hP (wR_D nu48_ hD) hS 0 (gM_0 cs ad nu48_) rfl 18 (by decide) (hts _ (List.mem_cons_of_mem _ mw_5_59)) (fun _ h9 => h9) rfl (by decide +kernel) rfl rfl (Nat.le_of_ble_eq_true rfl) dX12_readsBearer_92 (fun H locs hP _ hS => ?_)
                simp only [List.set_cons_succ, List.set_cons_zero] at hP
                refine wr_gen (upd (nu48_ 0) 18 t44) hP ((hM_0_18 cs ad _ _)) (fun nu45 hn45 hP => ?_)
                have hF := mi_let hF hn45.symm
                have ok := tM_0_18 ok hn45 (by omega)
                have ez46 : y19 = nu45 0 19 := ey19.trans (up_f hn45 (by decide)).symm
                have kp47 : ∀ k : Nat, 5 ≤ k → k < 7 → nu45 k = mu k := fun k h1 h2 => (up_k hn45 (ne_lo (by decide) h1).symm).trans (kq48_0 k h1 h2)
                have kp48 : (∀ k f : Nat, Nat.testBit 510 (gpM k f) = true → nu45 k f = mu k f) := kp_f hn45 (by decide) kq48_1
                have ez49 : t44 = nu45 0 18 := up_v hn45
                refine lv_iinc (v := (v4_48 + 1)) (lv' := [(4, .int (v4_48 + 1)), (3, .int t43), (2, .int r4), (0, .ref (ad 0)), (1, .int vt)]) hx hb dX12_readsBearer_95 hl (k := 1) rfl rfl (by decide) rfl (fun ls hl => ?_)
                refine loc_gen (P := fun w9 => lv_has ls 5 [(4, .int w9), (3, .int t43), (2, .int r4), (0, .ref (ad 0)), (1, .int vt)]) (v4_48 + 1) hl (fun w50 hw50 hl => ?_)
                have hl : lv_has ls 5 [(4, .int w50), (3, .int t43), (2, .int r4), (0, .ref (ad 0)), (1, .int vt)] := hl
                have hF := mi_let hF hw50.symm
                have aw50 : w50.toInt = v4_48.toInt + 1 := by rw [← hw50]; first | exact va1 (Int.lt_of_le_of_lt h_v4_48.2 (by decide)) | exact va1 (by omega)
                refine lv_goto (tgt := 48) hx hb dX12_readsBearer_98 (by decide) ?_
                exact ih48 (t43) (w50) nu45 _ _ _ (by first | exact ms_up hm_48 aw50 h_v4_48.2 | exact ms_lt hm_48 (by omega) (by omega) | omega) (by first | exact rg_up aw50 h_v4_48 (by omega) | omega) (by first | assumption | (have hb51 := congrArg Int32.toInt ez49; omega)) (by first | assumption | (rw [← ez46, ey19]; assumption) | (have hb52 := congrArg Int32.toInt ez46; omega)) ok hP  kp47 kp48 hF hS (lv_sub hl [0, 1, 2, 3, 4] rfl)
              · have hF := (if_neg (fun h => absurd (hfe39.trans h) (by decide))).symm.trans hF
                have f39 : r38.toInt < (48 : Int) ∨ (57 : Int) < r38.toInt := f39
                refine lv_if_ne (tgt := 71) hx hb dX12_readsBearer_66 (by decide) (fun c => absurd (by decide) c) (fun _ => ?_)
                refine lv_iconst (v := 0) hx hb dX12_readsBearer_69 (by decide) ?_
                exact W.zret (v := 0) (ty := .boolean) hx hb hr (by first | rfl | decide) (fun t ht hW => ⟨⟨0, nu48_, rfl, ⟨hF.trans hfz.symm, ok, (by have hb53 := congrArg Int32.toInt ey18; have h6 : (0 : Int32).toInt = 0 := rfl; omega), kq48_0, kq48_1⟩, by first | (subst ht; exact hP) | (rw [ht]; exact hP) | (show va_P (dC, dI) vwCl (wR 21 ad (EM cs ad) nu48_) t.heap; rw [ht]; exact hP)⟩, hS.F ht⟩) hS.2.2 dX12_readsBearer_70
        exact loop48 5 (0) (0) nu12 _ _ _ (by have h80 : (0 : Int32).toInt = 0 := rfl; have h81 : (0 : Int32).toInt = 0 := rfl; omega) (by have h80 : (0 : Int32).toInt = 0 := rfl; exact ⟨by omega, by omega⟩) (by have h80 : (0 : Int32).toInt = 0 := rfl; have h81 : (0 : Int32).toInt = 0 := rfl; have hb54 := congrArg Int32.toInt ez17; omega) (by have h80 : (0 : Int32).toInt = 0 := rfl; have h81 : (0 : Int32).toInt = 0 := rfl; have hb55 := congrArg Int32.toInt ez13; omega) ok hP  kp15 kp16 hF hS hl
      · have hF := (if_pos c_10).symm.trans hF
        have c_10 : y2.toInt = 7 := il_eq c_10
        refine lv_iconst (v := 0) hx hb dX12_readsBearer_31 (by decide) ?_
        exact W.zret (v := 0) (ty := .boolean) hx hb hr (by first | rfl | decide) (fun t ht hW => ⟨⟨0, mu, rfl, ⟨hF.trans hfz.symm, ok, (by have hb56 := congrArg Int32.toInt ey1; have h6 : (0 : Int32).toInt = 0 := rfl; omega), (fun _ _ _ => rfl), (fun _ _ _ => rfl)⟩, by first | (subst ht; exact hP) | (rw [ht]; exact hP) | (show va_P (dC, dI) vwCl (wR 21 ad (EM cs ad) mu) t.heap; rw [ht]; exact hP)⟩, hS.F ht⟩) hS.2.2 dX12_readsBearer_32
set_option maxHeartbeats 4000000 in
set_option maxRecDepth 100000 in
/-- sm_readsPath -/
theorem sm_readsPath (l : Launch) (dC : Nat → ClassId) (dI : Nat → Nat → Nat) (cs : Nat → ClassId) (ad : Nat → Nat) (mu : Nat → Nat → Int32) (ok : okR loM hiM mu) (H : Heap) (hP : va_P (dC, dI) vwCl (wR 21 ad (EM cs ad) mu) H) (hD0 : va_D (fun _ => True) (wR 21 ad (EM cs ad) mu)) (vt : Int32) (hin0 : 0 ≤ vt.toInt ∧ vt.toInt ≤ 3) (hin1 : (mu 0 18).toInt < 80) : Met l yX12_readsPath (wU yX12_readsPath cX12_readsPath 5 (some .boolean)) ({ frames := 1, cells := 0, slots := 0, locals := 22 }) (va_Pc [.ref (ad 0), .int vt] (sz_P (dC, dI) vwCl (tyM cs) H)) (va_Qi (fun (z : Int32) (xi : Nat → Nat → Int32) => (z, xi) = F_sm_readsPath mu vt ∧ okR loM hiM xi ∧ ((z.toInt = 0 ∨ (mu 0 18).toInt < (xi 0 18).toInt) ∧ 0 ≤ z.toInt ∧ z.toInt ≤ 1) ∧ (∀ k : Nat, 5 ≤ k → k < 7 → xi k = mu k) ∧ (∀ k f : Nat, Nat.testBit 510 (gpM k f) = true → xi k f = mu k f)) (fun xi t => va_P (dC, dI) vwCl (wR 21 ad (EM cs ad) xi) t.heap) (va_A (wR 21 ad (EM cs ad) mu) H.size)) 0 0 (va_A (wR 21 ad (EM cs ad) mu) H.size) := by
  refine Met.ofW (cc := cX12_readsPath) (maxL := 5) (ret := (some .boolean)) (by decide) rfl ?_
  intro p e s m args below meth c s₁ B hml hv
  obtain ⟨rfl, hh, hK, hz⟩ := hv
  have hx := B.exec
  have hb := B.bytes
  have hr := B.returns
  have hts := atoms_spec (ws := (wU yX12_readsPath cX12_readsPath 5 (some .boolean))) B.pre
  have hown : s.vm.findClass RX12 = some m.cls := findClass_of_methodNamed B.named
  have hlocks := B.notSynchronized
  subst hh
  have hD := hD0.self (sz := s.heap.size)
  have hA : ∀ q : Nat, s.heap.size ≤ q → (va_A (wR 21 ad (EM cs ad) mu) s.heap.size) q := fun q h => Or.inr h
  have hS : va_S (va_A (wR 21 ad (EM cs ad) mu) s.heap.size) s.heap s.heap [] := va_S.rf
  have hl := lv_entry ([.ref (ad 0), .int vt]) (n := 5) (Nat.le_of_ble_eq_true rfl)
  rw [lg_entry_eq]
  generalize (lg_sl ([.ref (ad 0), .int vt]) ++ List.replicate (5 - (lg_sl ([.ref (ad 0), .int vt])).length) Slot.unset).toArray = ls at hl ⊢
  have hl : lv_has ls 5 [(0, .ref (ad 0)), (1, .int vt)] := hl
  obtain ⟨fz, hfz⟩ : ∃ z, F_sm_readsPath mu vt = z := ⟨_, rfl⟩
  have hF := hfz
  unfold F_sm_readsPath at hF
  obtain ⟨y1, ey1⟩ : ∃ z : Int32, z = mu 0 18 := ⟨_, rfl⟩
  have hF := mi_let hF ey1
  have by1 : y1.toInt = (mu 0 18).toInt := congrArg Int32.toInt ey1
  have gy1 : 0 ≤ y1.toInt ∧ y1.toInt ≤ 90 := by rw [ey1]; exact rM_0_18 ok
  obtain ⟨y2, ey2⟩ : ∃ z : Int32, z = mu 0 20 := ⟨_, rfl⟩
  have hF := mi_let hF ey2
  have by2 : y2.toInt = (mu 0 20).toInt := congrArg Int32.toInt ey2
  have gy2 : 0 ≤ y2.toInt ∧ y2.toInt ≤ 12 := by rw [ey2]; exact rM_0_20 ok
  obtain ⟨y3, ey3⟩ : ∃ z : Int32, z = mu 0 19 := ⟨_, rfl⟩
  have hF := mi_let hF ey3
  have by3 : y3.toInt = (mu 0 19).toInt := congrArg Int32.toInt ey3
  have gy3 : 0 ≤ y3.toInt ∧ y3.toInt ≤ 7 := by rw [ey3]; exact rM_0_19 ok
  refine lv_aload_n hx hb dX12_readsPath_0 rfl (lv_at hl 0 rfl) ?_
  refine va_get (D := (dC, dI)) (ci := 12) (v := .int (mu 0 20)) (C := RX12) (T := TX12) (N := 46) hx hb hts inG12 hown hK hP 0 (gM_0 cs ad mu) rfl 20 (by decide) (hts _ (List.mem_cons_of_mem _ mw_5_61)) (fun _ h9 => h9) rfl dX12_readsPath_1 ?_
  refine lq_i y2 ey2.symm ?_
  refine lv_bipush (v := 12) hx hb dX12_readsPath_4 (by decide) ?_
  refine lv_icmp_ne (tgt := 11) hx hb dX12_readsPath_6 (by decide) (fun c_4 => ?_) (fun c_4 => ?_)
  · have hF := (if_neg c_4).symm.trans hF
    have c_4 : ¬ y2.toInt = 12 := il_ne c_4
    refine lv_aload_n hx hb dX12_readsPath_11 rfl (lv_at hl 0 rfl) ?_
    refine lv_dup hx hb dX12_readsPath_12 rfl ?_
    refine va_get (D := (dC, dI)) (ci := 12) (v := .int (mu 0 18)) (C := RX12) (T := TX12) (N := 46) hx hb hts inG12 hown hK hP 0 (gM_0 cs ad mu) rfl 18 (by decide) (hts _ (List.mem_cons_of_mem _ mw_5_59)) (fun _ h9 => h9) rfl dX12_readsPath_13 ?_
    refine lq_i y1 ey1.symm ?_
    refine lv_iconst (v := 1) hx hb dX12_readsPath_16 (by decide) ?_
    refine lv_iadd hx hb dX12_readsPath_17 ?_
    refine lv_topi (fun t5 et5 => ?_)
    have hF := mi_let hF et5
    have at5 : t5.toInt = y1.toInt + 1 := by rw [et5]; exact va1 (by omega)
    refine va_put (D := (dC, dI)) (ci := 12) (v := .int t5) (ty := .int) (C := RX12) (T := TX12) (N := 46) hx hb hts inG12 tyX12 tyX12_ok nmX12 hown hK hP (wR_D mu hD) hS 0 (gM_0 cs ad mu) rfl 18 (by decide) (hts _ (List.mem_cons_of_mem _ mw_5_59)) (fun _ h9 => h9) rfl (by decide +kernel) rfl rfl (Nat.le_of_ble_eq_true rfl) dX12_readsPath_18 (fun H locs hP _ hS => ?_)
    simp only [List.set_cons_succ, List.set_cons_zero] at hP
    refine wr_gen (upd (mu 0) 18 t5) hP ((hM_0_18 cs ad _ _)) (fun nu6 hn6 hP => ?_)
    have hF := mi_let hF hn6.symm
    have ok := tM_0_18 ok hn6 (by omega)
    have ez7 : y2 = nu6 0 20 := ey2.trans (up_f hn6 (by decide)).symm
    have ez8 : y3 = nu6 0 19 := ey3.trans (up_f hn6 (by decide)).symm
    have kp9 : ∀ k : Nat, 5 ≤ k → k < 7 → nu6 k = mu k := fun k h1 h2 => (up_k hn6 (ne_lo (by decide) h1).symm).trans ((fun _ _ _ => rfl) k h1 h2)
    have kp10 : (∀ k f : Nat, Nat.testBit 510 (gpM k f) = true → nu6 k f = mu k f) := kp_f hn6 (by decide) (fun _ _ _ => rfl)
    have ez11 : t5 = nu6 0 18 := up_v hn6
    refine lv_iconst (v := 2) hx hb dX12_readsPath_21 (by decide) ?_
    refine lv_aload_n hx hb dX12_readsPath_22 rfl (lv_at hl 0 rfl) ?_
    refine va_get (D := (dC, dI)) (ci := 12) (v := .int (nu6 0 20)) (C := RX12) (T := TX12) (N := 46) hx hb hts inG12 hown hK hP 0 (gM_0 cs ad nu6) rfl 20 (by decide) (hts _ (List.mem_cons_of_mem _ mw_5_61)) (fun _ h9 => h9) rfl dX12_readsPath_23 ?_
    refine lq_i y2 ez7.symm ?_
    refine lv_imul hx hb dX12_readsPath_26 ?_
    refine lv_topi (fun t12 et12 => ?_)
    have hF := mi_let hF et12
    have at12 : t12.toInt = 2 * y2.toInt := by rw [et12]; exact tI_mul (rfl : (2 : Int32).toInt = 2) (rfl : y2.toInt = _) (by omega) (by omega)
    refine lv_istore_n (lv' := [(2, .int t12), (0, .ref (ad 0)), (1, .int vt)]) hx hb dX12_readsPath_27 rfl hl (by decide) rfl (fun ls hl => ?_)
    refine lv_iconst (v := 0) hx hb dX12_readsPath_28 (by decide) ?_
    refine lv_istore_n (lv' := [(3, .int 0), (2, .int t12), (0, .ref (ad 0)), (1, .int vt)]) hx hb dX12_readsPath_29 rfl hl (by decide) rfl (fun ls hl => ?_)
    have loop30 : ∀ (n30 : Nat) (v3_30 : Int32) (nu30_ : Nat → Nat → Int32) (H : Heap) (locs : List Loc) (ls : Array Slot), (2 + 1 - v3_30.toInt).toNat < n30 → (0 ≤ v3_30.toInt ∧ v3_30.toInt ≤ 2) → ((mu 0 18).toInt < (nu30_ 0 18).toInt) → ((nu30_ 0 20).toInt ≤ 11) → okR loM hiM nu30_ → va_P (dC, dI) vwCl (wR 21 ad (EM cs ad) nu30_) H → (∀ k : Nat, 5 ≤ k → k < 7 → nu30_ k = mu k) → (∀ k f : Nat, Nat.testBit 510 (gpM k f) = true → nu30_ k f = mu k f) → L_sm_readsPath_30_0 t12 vt n30 v3_30 nu30_ = fz → va_S (va_A (wR 21 ad (EM cs ad) mu) s.heap.size) s.heap H locs → lv_has ls 5 [(3, .int v3_30), (2, .int t12), (0, .ref (ad 0)), (1, .int vt)] → W p l e (headSpec (wU yX12_readsPath cX12_readsPath 5 (some .boolean)) ({ frames := 1, cells := 0, slots := 0, locals := 22 })).room s m ([.ref (ad 0), .int vt] : List Value).toArray below meth c H locs 0 0 (MQ below (va_Qi (fun (z : Int32) (xi : Nat → Nat → Int32) => (z, xi) = F_sm_readsPath mu vt ∧ okR loM hiM xi ∧ ((z.toInt = 0 ∨ (mu 0 18).toInt < (xi 0 18).toInt) ∧ 0 ≤ z.toInt ∧ z.toInt ≤ 1) ∧ (∀ k : Nat, 5 ≤ k → k < 7 → xi k = mu k) ∧ (∀ k f : Nat, Nat.testBit 510 (gpM k f) = true → xi k f = mu k f)) (fun xi t => va_P (dC, dI) vwCl (wR 21 ad (EM cs ad) xi) t.heap) (va_A (wR 21 ad (EM cs ad) mu) s.heap.size)) ([.ref (ad 0), .int vt] : List Value).toArray s 0 0 (va_A (wR 21 ad (EM cs ad) mu) s.heap.size)) (F0 m 30 ls []) := by
      intro n30
      induction n30 with
      | zero => intro v3_30 nu30_ H locs ls hm; exact absurd hm (Nat.not_lt_zero _)
      | succ n30 ih30 =>
        intro v3_30 nu30_ H locs ls hm_30 h_v3_30 hi30_0 hi30_1 ok hP kq30_0 kq30_1 hF hS hl
        rw [L_sm_readsPath_30_0] at hF
        obtain ⟨y13, ey13⟩ : ∃ z : Int32, z = nu30_ 0 18 := ⟨_, rfl⟩
        have hF := mi_let hF ey13
        have by13 : y13.toInt = (nu30_ 0 18).toInt := congrArg Int32.toInt ey13
        have gy13 : 0 ≤ y13.toInt ∧ y13.toInt ≤ 90 := by rw [ey13]; exact rM_0_18 ok
        obtain ⟨y14, ey14⟩ : ∃ z : Int32, z = nu30_ 0 20 := ⟨_, rfl⟩
        have hF := mi_let hF ey14
        have by14 : y14.toInt = (nu30_ 0 20).toInt := congrArg Int32.toInt ey14
        have gy14 : 0 ≤ y14.toInt ∧ y14.toInt ≤ 12 := by rw [ey14]; exact rM_0_20 ok
        obtain ⟨y15, ey15⟩ : ∃ z : Int32, z = nu30_ 0 19 := ⟨_, rfl⟩
        have hF := mi_let hF ey15
        have by15 : y15.toInt = (nu30_ 0 19).toInt := congrArg Int32.toInt ey15
        have gy15 : 0 ≤ y15.toInt ∧ y15.toInt ≤ 7 := by rw [ey15]; exact rM_0_19 ok
        refine lv_iload_n hx hb dX12_readsPath_30 rfl (lv_at hl 0 rfl) ?_
        refine lv_iconst (v := 2) hx hb dX12_readsPath_31 (by decide) ?_
        refine lv_icmp_ge (tgt := 104) hx hb dX12_readsPath_32 (by decide) (fun c_16 => ?_) (fun c_16 => ?_)
        · have hF := (if_pos c_16).symm.trans hF
          have c_16 : 2 ≤ v3_30.toInt := il_le c_16
          refine lv_aload_n hx hb dX12_readsPath_104 rfl (lv_at hl 2 rfl) ?_
          refine lv_dup hx hb dX12_readsPath_105 rfl ?_
          refine va_get (D := (dC, dI)) (ci := 12) (v := .int (nu30_ 0 20)) (C := RX12) (T := TX12) (N := 46) hx hb hts inG12 hown hK hP 0 (gM_0 cs ad nu30_) rfl 20 (by decide) (hts _ (List.mem_cons_of_mem _ mw_5_61)) (fun _ h9 => h9) rfl dX12_readsPath_106 ?_
          refine lq_i y14 ey14.symm ?_
          refine lv_iconst (v := 1) hx hb dX12_readsPath_109 (by decide) ?_
          refine lv_iadd hx hb dX12_readsPath_110 ?_
          refine lv_topi (fun t17 et17 => ?_)
          have hF := mi_let hF et17
          have at17 : t17.toInt = y14.toInt + 1 := by rw [et17]; exact va1 (by omega)
          refine va_put (D := (dC, dI)) (ci := 12) (v := .int t17) (ty := .int) (C := RX12) (T := TX12) (N := 46) hx hb hts inG12 tyX12 tyX12_ok nmX12 hown hK hP (wR_D nu30_ hD) hS 0 (gM_0 cs ad nu30_) rfl 20 (by decide) (hts _ (List.mem_cons_of_mem _ mw_5_61)) (fun _ h9 => h9) rfl (by decide +kernel) rfl rfl (Nat.le_of_ble_eq_true rfl) dX12_readsPath_111 (fun H locs hP _ hS => ?_)
          simp only [List.set_cons_succ, List.set_cons_zero] at hP
          refine wr_gen (upd (nu30_ 0) 20 t17) hP ((hM_0_20 cs ad _ _)) (fun nu18 hn18 hP => ?_)
          have hF := mi_let hF hn18.symm
          have ok := tM_0_20 ok hn18 (by omega)
          have ez19 : y13 = nu18 0 18 := ey13.trans (up_f hn18 (by decide)).symm
          have ez20 : y15 = nu18 0 19 := ey15.trans (up_f hn18 (by decide)).symm
          have kp21 : ∀ k : Nat, 5 ≤ k → k < 7 → nu18 k = mu k := fun k h1 h2 => (up_k hn18 (ne_lo (by decide) h1).symm).trans (kq30_0 k h1 h2)
          have kp22 : (∀ k f : Nat, Nat.testBit 510 (gpM k f) = true → nu18 k f = mu k f) := kp_f hn18 (by decide) kq30_1
          have ez23 : t17 = nu18 0 20 := up_v hn18
          refine lv_iconst (v := 1) hx hb dX12_readsPath_114 (by decide) ?_
          exact W.zret (v := 1) (ty := .boolean) hx hb hr (by first | rfl | decide) (fun t ht hW => ⟨⟨1, nu18, rfl, ⟨hF.trans hfz.symm, ok, (by have hb24 := congrArg Int32.toInt ez19; have h6 : (1 : Int32).toInt = 1 := rfl; omega), kp21, kp22⟩, by first | (subst ht; exact hP) | (rw [ht]; exact hP) | (show va_P (dC, dI) vwCl (wR 21 ad (EM cs ad) nu18) t.heap; rw [ht]; exact hP)⟩, hS.F ht⟩) hS.2.2 dX12_readsPath_115
        · have hF := (if_neg c_16).symm.trans hF
          have c_16 : v3_30.toInt < 2 := il_nle c_16
          refine lv_aload_n hx hb dX12_readsPath_35 rfl (lv_at hl 2 rfl) ?_
          refine lv_iload_n hx hb dX12_readsPath_36 rfl (lv_at hl 3 rfl) ?_
          refine cr_i (va_runV (As := [.int vt]) (rest := []) ⟨hx, hb, hml, hown, hts⟩ (sm_here l dC dI cs ad nu30_ ok H hP vt (by omega)) (cwV 1 hts (wU_V mw_6_17 mw_6_14 mw_6_16 mw_0_33 mw_1_13) rfl rfl rfl (by decide +kernel) ⟨Nat.le_of_ble_eq_true rfl, Nat.le_of_ble_eq_true rfl⟩) ⟨sz_c, va_recv hK hP (ci := 12) (q0 := 0) rfl (gM_0 cs ad nu30_), sz_m hK hz⟩ rfl rfl hl.1 rfl (lv_room (Nat.le_of_ble_eq_true rfl)) dX12_readsPath_37 ⟨Nat.zero_le _, Nat.zero_le _⟩) hS (fun r25 hw25 locs hS => ?_)
          obtain ⟨hfe25, hw25⟩ := hw25
          have hF := mi_let hF hfe25
          have gr25 : r25.toInt = -9 ∨ (nu30_ 0 18).toInt < 80 := hw25
          refine lv_bipush (v := 48) hx hb dX12_readsPath_40 (by decide) ?_
          refine lv_isub hx hb dX12_readsPath_42 ?_
          refine lv_topi (fun t26 et26 => ?_)
          have hF := mi_let hF et26
          have gt26 : r25.toInt = -9 → t26.toInt = -57 := fun h => by rw [et26, Int32.toInt_sub, h]; rfl
          refine lv_istore (lv' := [(4, .int t26), (3, .int v3_30), (2, .int t12), (0, .ref (ad 0)), (1, .int vt)]) hx hb dX12_readsPath_43 hl (by decide) rfl (fun ls hl => ?_)
          refine lv_iload hx hb dX12_readsPath_45 (lv_at hl 0 rfl) ?_
          refine lv_iconst (v := 0) hx hb dX12_readsPath_47 (by decide) ?_
          refine lv_aload_n hx hb dX12_readsPath_48 rfl (lv_at hl 3 rfl) ?_
          refine va_get (D := (dC, dI)) (ci := 12) (v := .int (nu30_ 0 19)) (C := RX12) (T := TX12) (N := 46) hx hb hts inG12 hown hK hP 0 (gM_0 cs ad nu30_) rfl 19 (by decide) (hts _ (List.mem_cons_of_mem _ mw_5_60)) (fun _ h9 => h9) rfl dX12_readsPath_49 ?_
          refine lq_i y15 ey15.symm ?_
          refine lv_iconst (v := 1) hx hb dX12_readsPath_52 (by decide) ?_
          refine lv_isub hx hb dX12_readsPath_53 ?_
          refine lv_topi (fun t27 et27 => ?_)
          have hF := mi_let hF et27
          have at27 : t27.toInt = y15.toInt - 1 := by rw [et27]; exact tI_sub (rfl : y15.toInt = _) (rfl : (1 : Int32).toInt = 1) (by omega) (by omega)
          refine cr_i (va_runS (As := [.int t26, .int 0, .int t27]) (rest := []) ⟨hx, hb, hml, hown, hts⟩ (sm_in l dC dI (tyM cs) H t26 0 t27) (va_cwS 3 hts (wU_S mw_5_189 mw_5_187 mw_5_188 mw_1_13) rfl rfl rfl (by decide +kernel) ⟨Nat.le_of_ble_eq_true rfl, Nat.le_of_ble_eq_true rfl⟩) ⟨sz_c, sz_m hK hz⟩ rfl rfl hl.1 rfl (lv_room (Nat.le_of_ble_eq_true rfl)) dX12_readsPath_54 ⟨Nat.zero_le _, Nat.zero_le _⟩) hS (fun r28 hw28 locs hS => ?_)
          obtain ⟨hfe28, hw28⟩ := hw28
          rcases hw28 with ⟨rfl, f28⟩ | ⟨rfl, f28⟩
          · have hF := (if_pos hfe28.symm).symm.trans hF
            have f28 : (0 : Int) ≤ t26.toInt ∧ t26.toInt ≤ t27.toInt := f28
            refine lv_if_eq (tgt := 76) hx hb dX12_readsPath_57 (by decide) (fun c => absurd c (by decide)) (fun _ => ?_)
            refine lv_iload_n hx hb dX12_readsPath_60 rfl (lv_at hl 1 rfl) ?_
            refine lv_iconst (v := 1) hx hb dX12_readsPath_61 (by decide) ?_
            refine lv_icmp_ne (tgt := 78) hx hb dX12_readsPath_62 (by decide) (fun c_29 => ?_) (fun c_29 => ?_)
            · have hF := (if_neg c_29).symm.trans hF
              have c_29 : ¬ v3_30.toInt = 1 := il_ne c_29
              refine lv_aload_n hx hb dX12_readsPath_78 rfl (lv_at hl 3 rfl) ?_
              refine va_get (D := (dC, dI)) (ci := 12) (v := .ref (ad 13)) (C := RX12) (T := TX12) (N := 46) hx hb hts inG12 hown hK hP 0 (gM_0 cs ad nu30_) rfl 23 (by decide) (hts _ (List.mem_cons_of_mem _ mw_5_64)) (fun _ h9 => h9) rfl dX12_readsPath_79 ?_
              refine lv_iload_n hx hb dX12_readsPath_82 rfl (lv_at hl 2 rfl) ?_
              refine lv_iload_n hx hb dX12_readsPath_83 rfl (lv_at hl 1 rfl) ?_
              refine lv_iadd hx hb dX12_readsPath_84 ?_
              refine lv_topi (fun t30 et30 => ?_)
              have hF := mi_let hF et30
              have at30 : t30.toInt = t12.toInt + v3_30.toInt := by rw [et30]; exact tI_add (rfl : t12.toInt = _) (rfl : v3_30.toInt = _) (by omega) (by omega)
              refine lv_iload hx hb dX12_readsPath_85 (lv_at hl 0 rfl) ?_
              refine va_iast hx hb hK hP (wR_D nu30_ hD) hS 13 0 (gM_13 cs ad nu30_) rfl (show vp_in t30 24 from vi_of (by omega) (by omega)) dX12_readsPath_87 (fun H locs hP _ hS => ?_)
              refine wr_gen (upd (nu30_ 13) t30.toNatClampNeg t26) hP (rfl) (fun nu31 hn31 hP => ?_)
              have hF := mi_let hF hn31.symm
              have ok := tM_13_s ok t30.toNatClampNeg hn31
              have ez32 : y13 = nu31 0 18 := ey13.trans (congrFun (up_k hn31 (by decide)) 18).symm
              have ez33 : y14 = nu31 0 20 := ey14.trans (congrFun (up_k hn31 (by decide)) 20).symm
              have ez34 : y15 = nu31 0 19 := ey15.trans (congrFun (up_k hn31 (by decide)) 19).symm
              have kp35 : ∀ k : Nat, 5 ≤ k → k < 7 → nu31 k = mu k := fun k h1 h2 => (up_k hn31 (ne_hi (by decide) h2).symm).trans (kq30_0 k h1 h2)
              have kp36 : (∀ k f : Nat, Nat.testBit 510 (gpM k f) = true → nu31 k f = mu k f) := kp_c 0 hn31 (fun _ => rfl) (by decide) kq30_1
              refine lv_aload_n hx hb dX12_readsPath_88 rfl (lv_at hl 3 rfl) ?_
              refine lv_dup hx hb dX12_readsPath_89 rfl ?_
              refine va_get (D := (dC, dI)) (ci := 12) (v := .int (nu31 0 18)) (C := RX12) (T := TX12) (N := 46) hx hb hts inG12 hown hK hP 0 (gM_0 cs ad nu31) rfl 18 (by decide) (hts _ (List.mem_cons_of_mem _ mw_5_59)) (fun _ h9 => h9) rfl dX12_readsPath_90 ?_
              refine lq_i y13 ez32.symm ?_
              refine lv_iconst (v := 1) hx hb dX12_readsPath_93 (by decide) ?_
              refine lv_iadd hx hb dX12_readsPath_94 ?_
              refine lv_topi (fun t37 et37 => ?_)
              have hF := mi_let hF et37
              have at37 : t37.toInt = y13.toInt + 1 := by rw [et37]; exact va1 (by omega)
              refine va_put (D := (dC, dI)) (ci := 12) (v := .int t37) (ty := .int) (C := RX12) (T := TX12) (N := 46) hx hb hts inG12 tyX12 tyX12_ok nmX12 hown hK hP (wR_D nu31 hD) hS 0 (gM_0 cs ad nu31) rfl 18 (by decide) (hts _ (List.mem_cons_of_mem _ mw_5_59)) (fun _ h9 => h9) rfl (by decide +kernel) rfl rfl (Nat.le_of_ble_eq_true rfl) dX12_readsPath_95 (fun H locs hP _ hS => ?_)
              simp only [List.set_cons_succ, List.set_cons_zero] at hP
              refine wr_gen (upd (nu31 0) 18 t37) hP ((hM_0_18 cs ad _ _)) (fun nu38 hn38 hP => ?_)
              have hF := mi_let hF hn38.symm
              have ok := tM_0_18 ok hn38 (by omega)
              have ez39 : y14 = nu38 0 20 := ez33.trans (up_f hn38 (by decide)).symm
              have ez40 : y15 = nu38 0 19 := ez34.trans (up_f hn38 (by decide)).symm
              have kp41 : ∀ k : Nat, 5 ≤ k → k < 7 → nu38 k = mu k := fun k h1 h2 => (up_k hn38 (ne_lo (by decide) h1).symm).trans (kp35 k h1 h2)
              have kp42 : (∀ k f : Nat, Nat.testBit 510 (gpM k f) = true → nu38 k f = mu k f) := kp_f hn38 (by decide) kp36
              have ez43 : t37 = nu38 0 18 := up_v hn38
              refine lv_iinc (v := (v3_30 + 1)) (lv' := [(3, .int (v3_30 + 1)), (4, .int t26), (2, .int t12), (0, .ref (ad 0)), (1, .int vt)]) hx hb dX12_readsPath_98 hl (k := 1) rfl rfl (by decide) rfl (fun ls hl => ?_)
              refine loc_gen (P := fun w9 => lv_has ls 5 [(3, .int w9), (4, .int t26), (2, .int t12), (0, .ref (ad 0)), (1, .int vt)]) (v3_30 + 1) hl (fun w44 hw44 hl => ?_)
              have hl : lv_has ls 5 [(3, .int w44), (4, .int t26), (2, .int t12), (0, .ref (ad 0)), (1, .int vt)] := hl
              have hF := mi_let hF hw44.symm
              have aw44 : w44.toInt = v3_30.toInt + 1 := by rw [← hw44]; first | exact va1 (Int.lt_of_le_of_lt h_v3_30.2 (by decide)) | exact va1 (by omega)
              refine lv_goto (tgt := 30) hx hb dX12_readsPath_101 (by decide) ?_
              exact ih30 (w44) nu38 _ _ _ (by first | exact ms_up hm_30 aw44 h_v3_30.2 | exact ms_lt hm_30 (by omega) (by omega) | omega) (by first | exact rg_up aw44 h_v3_30 (by omega) | omega) (by first | assumption | (have hb45 := congrArg Int32.toInt ez43; omega)) (by first | assumption | (rw [← ez39, ey14]; assumption) | (have hb46 := congrArg Int32.toInt ez39; omega)) ok hP  kp41 kp42 hF hS (lv_sub hl [0, 2, 3, 4] rfl)
            · have hF := (if_pos c_29).symm.trans hF
              have c_29 : v3_30.toInt = 1 := il_eq c_29
              refine lv_iload hx hb dX12_readsPath_65 (lv_at hl 0 rfl) ?_
              refine lv_aload_n hx hb dX12_readsPath_67 rfl (lv_at hl 3 rfl) ?_
              refine va_get (D := (dC, dI)) (ci := 12) (v := .ref (ad 13)) (C := RX12) (T := TX12) (N := 46) hx hb hts inG12 hown hK hP 0 (gM_0 cs ad nu30_) rfl 23 (by decide) (hts _ (List.mem_cons_of_mem _ mw_5_64)) (fun _ h9 => h9) rfl dX12_readsPath_68 ?_
              refine lv_iload_n hx hb dX12_readsPath_71 rfl (lv_at hl 2 rfl) ?_
              refine va_iald hx hb hK hP 13 0 (gM_13 cs ad nu30_) rfl (show vp_in t12 24 from vi_of (by omega) (by omega)) dX12_readsPath_72 ?_
              refine lv_topi (fun y47 ey47 => ?_)
              have hF := mi_let hF ey47
              have by47 : y47.toInt = (nu30_ 13 t12.toNatClampNeg).toInt := congrArg Int32.toInt ey47
              refine lv_icmp_ne (tgt := 78) hx hb dX12_readsPath_73 (by decide) (fun c_48 => ?_) (fun c_48 => ?_)
              · have hF := (if_neg c_48).symm.trans hF
                have c_48 : ¬ t26.toInt = y47.toInt := il_ne c_48
                refine lv_aload_n hx hb dX12_readsPath_78 rfl (lv_at hl 3 rfl) ?_
                refine va_get (D := (dC, dI)) (ci := 12) (v := .ref (ad 13)) (C := RX12) (T := TX12) (N := 46) hx hb hts inG12 hown hK hP 0 (gM_0 cs ad nu30_) rfl 23 (by decide) (hts _ (List.mem_cons_of_mem _ mw_5_64)) (fun _ h9 => h9) rfl dX12_readsPath_79 ?_
                refine lv_iload_n hx hb dX12_readsPath_82 rfl (lv_at hl 2 rfl) ?_
                refine lv_iload_n hx hb dX12_readsPath_83 rfl (lv_at hl 1 rfl) ?_
                refine lv_iadd hx hb dX12_readsPath_84 ?_
                refine lv_topi (fun t49 et49 => ?_)
                have hF := mi_let hF et49
                have at49 : t49.toInt = t12.toInt + v3_30.toInt := by rw [et49]; exact tI_add (rfl : t12.toInt = _) (rfl : v3_30.toInt = _) (by omega) (by omega)
                refine lv_iload hx hb dX12_readsPath_85 (lv_at hl 0 rfl) ?_
                refine va_iast hx hb hK hP (wR_D nu30_ hD) hS 13 0 (gM_13 cs ad nu30_) rfl (show vp_in t49 24 from vi_of (by omega) (by omega)) dX12_readsPath_87 (fun H locs hP _ hS => ?_)
                refine wr_gen (upd (nu30_ 13) t49.toNatClampNeg t26) hP (rfl) (fun nu50 hn50 hP => ?_)
                have hF := mi_let hF hn50.symm
                have ok := tM_13_s ok t49.toNatClampNeg hn50
                have ez51 : y13 = nu50 0 18 := ey13.trans (congrFun (up_k hn50 (by decide)) 18).symm
                have ez52 : y14 = nu50 0 20 := ey14.trans (congrFun (up_k hn50 (by decide)) 20).symm
                have ez53 : y15 = nu50 0 19 := ey15.trans (congrFun (up_k hn50 (by decide)) 19).symm
                have kp54 : ∀ k : Nat, 5 ≤ k → k < 7 → nu50 k = mu k := fun k h1 h2 => (up_k hn50 (ne_hi (by decide) h2).symm).trans (kq30_0 k h1 h2)
                have kp55 : (∀ k f : Nat, Nat.testBit 510 (gpM k f) = true → nu50 k f = mu k f) := kp_c 0 hn50 (fun _ => rfl) (by decide) kq30_1
                refine lv_aload_n hx hb dX12_readsPath_88 rfl (lv_at hl 3 rfl) ?_
                refine lv_dup hx hb dX12_readsPath_89 rfl ?_
                refine va_get (D := (dC, dI)) (ci := 12) (v := .int (nu50 0 18)) (C := RX12) (T := TX12) (N := 46) hx hb hts inG12 hown hK hP 0 (gM_0 cs ad nu50) rfl 18 (by decide) (hts _ (List.mem_cons_of_mem _ mw_5_59)) (fun _ h9 => h9) rfl dX12_readsPath_90 ?_
                refine lq_i y13 ez51.symm ?_
                refine lv_iconst (v := 1) hx hb dX12_readsPath_93 (by decide) ?_
                refine lv_iadd hx hb dX12_readsPath_94 ?_
                refine lv_topi (fun t56 et56 => ?_)
                have hF := mi_let hF et56
                have at56 : t56.toInt = y13.toInt + 1 := by rw [et56]; exact va1 (by omega)
                refine va_put (D := (dC, dI)) (ci := 12) (v := .int t56) (ty := .int) (C := RX12) (T := TX12) (N := 46) hx hb hts inG12 tyX12 tyX12_ok nmX12 hown hK hP (wR_D nu50 hD) hS 0 (gM_0 cs ad nu50) rfl 18 (by decide) (hts _ (List.mem_cons_of_mem _ mw_5_59)) (fun _ h9 => h9) rfl (by decide +kernel) rfl rfl (Nat.le_of_ble_eq_true rfl) dX12_readsPath_95 (fun H locs hP _ hS => ?_)
                simp only [List.set_cons_succ, List.set_cons_zero] at hP
                refine wr_gen (upd (nu50 0) 18 t56) hP ((hM_0_18 cs ad _ _)) (fun nu57 hn57 hP => ?_)
                have hF := mi_let hF hn57.symm
                have ok := tM_0_18 ok hn57 (by omega)
                have ez58 : y14 = nu57 0 20 := ez52.trans (up_f hn57 (by decide)).symm
                have ez59 : y15 = nu57 0 19 := ez53.trans (up_f hn57 (by decide)).symm
                have kp60 : ∀ k : Nat, 5 ≤ k → k < 7 → nu57 k = mu k := fun k h1 h2 => (up_k hn57 (ne_lo (by decide) h1).symm).trans (kp54 k h1 h2)
                have kp61 : (∀ k f : Nat, Nat.testBit 510 (gpM k f) = true → nu57 k f = mu k f) := kp_f hn57 (by decide) kp55
                have ez62 : t56 = nu57 0 18 := up_v hn57
                refine lv_iinc (v := (v3_30 + 1)) (lv' := [(3, .int (v3_30 + 1)), (4, .int t26), (2, .int t12), (0, .ref (ad 0)), (1, .int vt)]) hx hb dX12_readsPath_98 hl (k := 1) rfl rfl (by decide) rfl (fun ls hl => ?_)
                refine loc_gen (P := fun w9 => lv_has ls 5 [(3, .int w9), (4, .int t26), (2, .int t12), (0, .ref (ad 0)), (1, .int vt)]) (v3_30 + 1) hl (fun w63 hw63 hl => ?_)
                have hl : lv_has ls 5 [(3, .int w63), (4, .int t26), (2, .int t12), (0, .ref (ad 0)), (1, .int vt)] := hl
                have hF := mi_let hF hw63.symm
                have aw63 : w63.toInt = v3_30.toInt + 1 := by rw [← hw63]; first | exact va1 (Int.lt_of_le_of_lt h_v3_30.2 (by decide)) | exact va1 (by omega)
                refine lv_goto (tgt := 30) hx hb dX12_readsPath_101 (by decide) ?_
                exact ih30 (w63) nu57 _ _ _ (by first | exact ms_up hm_30 aw63 h_v3_30.2 | exact ms_lt hm_30 (by omega) (by omega) | omega) (by first | exact rg_up aw63 h_v3_30 (by omega) | omega) (by first | assumption | (have hb64 := congrArg Int32.toInt ez62; omega)) (by first | assumption | (rw [← ez58, ey14]; assumption) | (have hb65 := congrArg Int32.toInt ez58; omega)) ok hP  kp60 kp61 hF hS (lv_sub hl [0, 2, 3, 4] rfl)
              · have hF := (if_pos c_48).symm.trans hF
                have c_48 : t26.toInt = y47.toInt := il_eq c_48
                refine lv_iconst (v := 0) hx hb dX12_readsPath_76 (by decide) ?_
                exact W.zret (v := 0) (ty := .boolean) hx hb hr (by first | rfl | decide) (fun t ht hW => ⟨⟨0, nu30_, rfl, ⟨hF.trans hfz.symm, ok, (by have hb66 := congrArg Int32.toInt ey13; have h6 : (0 : Int32).toInt = 0 := rfl; omega), kq30_0, kq30_1⟩, by first | (subst ht; exact hP) | (rw [ht]; exact hP) | (show va_P (dC, dI) vwCl (wR 21 ad (EM cs ad) nu30_) t.heap; rw [ht]; exact hP)⟩, hS.F ht⟩) hS.2.2 dX12_readsPath_77
          · have hF := (if_neg (fun h => absurd (hfe28.trans h) (by decide))).symm.trans hF
            have f28 : t26.toInt < (0 : Int) ∨ t27.toInt < t26.toInt := f28
            refine lv_if_eq (tgt := 76) hx hb dX12_readsPath_57 (by decide) (fun _ => ?_) (fun c => absurd (by decide) c)
            refine lv_iconst (v := 0) hx hb dX12_readsPath_76 (by decide) ?_
            exact W.zret (v := 0) (ty := .boolean) hx hb hr (by first | rfl | decide) (fun t ht hW => ⟨⟨0, nu30_, rfl, ⟨hF.trans hfz.symm, ok, (by have hb67 := congrArg Int32.toInt ey13; have h6 : (0 : Int32).toInt = 0 := rfl; omega), kq30_0, kq30_1⟩, by first | (subst ht; exact hP) | (rw [ht]; exact hP) | (show va_P (dC, dI) vwCl (wR 21 ad (EM cs ad) nu30_) t.heap; rw [ht]; exact hP)⟩, hS.F ht⟩) hS.2.2 dX12_readsPath_77
    exact loop30 5 (0) nu6 _ _ _ (by have h80 : (0 : Int32).toInt = 0 := rfl; omega) (by have h80 : (0 : Int32).toInt = 0 := rfl; exact ⟨by omega, by omega⟩) (by have h80 : (0 : Int32).toInt = 0 := rfl; have hb68 := congrArg Int32.toInt ez11; omega) (by have h80 : (0 : Int32).toInt = 0 := rfl; have hb69 := congrArg Int32.toInt ez7; omega) ok hP  kp9 kp10 hF hS hl
  · have hF := (if_pos c_4).symm.trans hF
    have c_4 : y2.toInt = 12 := il_eq c_4
    refine lv_iconst (v := 0) hx hb dX12_readsPath_9 (by decide) ?_
    exact W.zret (v := 0) (ty := .boolean) hx hb hr (by first | rfl | decide) (fun t ht hW => ⟨⟨0, mu, rfl, ⟨hF.trans hfz.symm, ok, (by have hb70 := congrArg Int32.toInt ey1; have h6 : (0 : Int32).toInt = 0 := rfl; omega), (fun _ _ _ => rfl), (fun _ _ _ => rfl)⟩, by first | (subst ht; exact hP) | (rw [ht]; exact hP) | (show va_P (dC, dI) vwCl (wR 21 ad (EM cs ad) mu) t.heap; rw [ht]; exact hP)⟩, hS.F ht⟩) hS.2.2 dX12_readsPath_10
set_option maxHeartbeats 4000000 in
set_option maxRecDepth 100000 in
/-- sm_goesOn -/
theorem sm_goesOn (l : Launch) (dC : Nat → ClassId) (dI : Nat → Nat → Nat) (cs : Nat → ClassId) (ad : Nat → Nat) (mu : Nat → Nat → Int32) (ok : okR loM hiM mu) (H : Heap) (hP : va_P (dC, dI) vwCl (wR 21 ad (EM cs ad) mu) H) (hD0 : va_D (fun _ => True) (wR 21 ad (EM cs ad) mu)) (vt : Int32) (hin0 : 0 ≤ vt.toInt ∧ vt.toInt ≤ 3) : Met l yX12_goesOn (wU yX12_goesOn cX12_goesOn 2 (some .int)) ({ frames := 2, cells := 0, slots := 0, locals := 46 }) (va_Pc [.ref (ad 0), .int vt] (sz_P (dC, dI) vwCl (tyM cs) H)) (va_Qi (fun (z : Int32) (xi : Nat → Nat → Int32) => (z, xi) = F_sm_goesOn mu vt ∧ okR loM hiM xi ∧ (True) ∧ (∀ k f : Nat, Nat.testBit 510 (gpM k f) = true → xi k f = mu k f)) (fun xi t => va_P (dC, dI) vwCl (wR 21 ad (EM cs ad) xi) t.heap) (va_A (wR 21 ad (EM cs ad) mu) H.size)) 0 0 (va_A (wR 21 ad (EM cs ad) mu) H.size) := by
  refine Met.ofW (cc := cX12_goesOn) (maxL := 2) (ret := (some .int)) (by decide) rfl ?_
  intro p e s m args below meth c s₁ B hml hv
  obtain ⟨rfl, hh, hK, hz⟩ := hv
  have hx := B.exec
  have hb := B.bytes
  have hr := B.returns
  have hts := atoms_spec (ws := (wU yX12_goesOn cX12_goesOn 2 (some .int))) B.pre
  have hown : s.vm.findClass RX12 = some m.cls := findClass_of_methodNamed B.named
  have hlocks := B.notSynchronized
  subst hh
  have hD := hD0.self (sz := s.heap.size)
  have hA : ∀ q : Nat, s.heap.size ≤ q → (va_A (wR 21 ad (EM cs ad) mu) s.heap.size) q := fun q h => Or.inr h
  have hS : va_S (va_A (wR 21 ad (EM cs ad) mu) s.heap.size) s.heap s.heap [] := va_S.rf
  have hl := lv_entry ([.ref (ad 0), .int vt]) (n := 2) (Nat.le_of_ble_eq_true rfl)
  rw [lg_entry_eq]
  generalize (lg_sl ([.ref (ad 0), .int vt]) ++ List.replicate (2 - (lg_sl ([.ref (ad 0), .int vt])).length) Slot.unset).toArray = ls at hl ⊢
  have hl : lv_has ls 2 [(0, .ref (ad 0)), (1, .int vt)] := hl
  obtain ⟨fz, hfz⟩ : ∃ z, F_sm_goesOn mu vt = z := ⟨_, rfl⟩
  have hF := hfz
  unfold F_sm_goesOn at hF
  obtain ⟨y1, ey1⟩ : ∃ z : Int32, z = mu 0 18 := ⟨_, rfl⟩
  have hF := mi_let hF ey1
  have by1 : y1.toInt = (mu 0 18).toInt := congrArg Int32.toInt ey1
  have gy1 : 0 ≤ y1.toInt ∧ y1.toInt ≤ 90 := by rw [ey1]; exact rM_0_18 ok
  refine lv_aload_n hx hb dX12_goesOn_0 rfl (lv_at hl 0 rfl) ?_
  refine lv_iconst (v := 0) hx hb dX12_goesOn_1 (by decide) ?_
  refine va_put (D := (dC, dI)) (ci := 12) (v := .int 0) (ty := .int) (C := RX12) (T := TX12) (N := 46) hx hb hts inG12 tyX12 tyX12_ok nmX12 hown hK hP (wR_D mu hD) hS 0 (gM_0 cs ad mu) rfl 18 (by decide) (hts _ (List.mem_cons_of_mem _ mw_5_59)) (fun _ h9 => h9) rfl (by decide +kernel) rfl rfl (Nat.le_of_ble_eq_true rfl) dX12_goesOn_2 (fun H locs hP _ hS => ?_)
  simp only [List.set_cons_succ, List.set_cons_zero] at hP
  refine wr_gen (upd (mu 0) 18 0) hP ((hM_0_18 cs ad _ _)) (fun nu2 hn2 hP => ?_)
  have hF := mi_let hF hn2.symm
  have ok := tM_0_18 ok hn2 (by have h9 : (0 : Int32).toInt = 0 := rfl; exact ⟨by omega, by omega⟩)
  have kp3 : (∀ k f : Nat, Nat.testBit 510 (gpM k f) = true → nu2 k f = mu k f) := kp_f hn2 (by decide) (fun _ _ _ => rfl)
  have ez4 : 0 = nu2 0 18 := up_v hn2
  refine lv_aload_n hx hb dX12_goesOn_5 rfl (lv_at hl 0 rfl) ?_
  refine lv_iconst (v := 0) hx hb dX12_goesOn_6 (by decide) ?_
  refine va_put (D := (dC, dI)) (ci := 12) (v := .int 0) (ty := .int) (C := RX12) (T := TX12) (N := 46) hx hb hts inG12 tyX12 tyX12_ok nmX12 hown hK hP (wR_D nu2 hD) hS 0 (gM_0 cs ad nu2) rfl 19 (by decide) (hts _ (List.mem_cons_of_mem _ mw_5_60)) (fun _ h9 => h9) rfl (by decide +kernel) rfl rfl (Nat.le_of_ble_eq_true rfl) dX12_goesOn_7 (fun H locs hP _ hS => ?_)
  simp only [List.set_cons_succ, List.set_cons_zero] at hP
  refine wr_gen (upd (nu2 0) 19 0) hP ((hM_0_19 cs ad _ _)) (fun nu5 hn5 hP => ?_)
  have hF := mi_let hF hn5.symm
  have ok := tM_0_19 ok hn5 (by have h9 : (0 : Int32).toInt = 0 := rfl; exact ⟨by omega, by omega⟩)
  have ez6 : 0 = nu5 0 18 := ez4.trans (up_f hn5 (by decide)).symm
  have kp7 : (∀ k f : Nat, Nat.testBit 510 (gpM k f) = true → nu5 k f = mu k f) := kp_f hn5 (by decide) kp3
  have ez8 : 0 = nu5 0 19 := up_v hn5
  refine lv_aload_n hx hb dX12_goesOn_10 rfl (lv_at hl 0 rfl) ?_
  refine lv_iconst (v := 0) hx hb dX12_goesOn_11 (by decide) ?_
  refine va_put (D := (dC, dI)) (ci := 12) (v := .int 0) (ty := .int) (C := RX12) (T := TX12) (N := 46) hx hb hts inG12 tyX12 tyX12_ok nmX12 hown hK hP (wR_D nu5 hD) hS 0 (gM_0 cs ad nu5) rfl 20 (by decide) (hts _ (List.mem_cons_of_mem _ mw_5_61)) (fun _ h9 => h9) rfl (by decide +kernel) rfl rfl (Nat.le_of_ble_eq_true rfl) dX12_goesOn_12 (fun H locs hP _ hS => ?_)
  simp only [List.set_cons_succ, List.set_cons_zero] at hP
  refine wr_gen (upd (nu5 0) 20 0) hP ((hM_0_20 cs ad _ _)) (fun nu9 hn9 hP => ?_)
  have hF := mi_let hF hn9.symm
  have ok := tM_0_20 ok hn9 (by have h9 : (0 : Int32).toInt = 0 := rfl; exact ⟨by omega, by omega⟩)
  have ez10 : 0 = nu9 0 18 := ez6.trans (up_f hn9 (by decide)).symm
  have ez11 : 0 = nu9 0 19 := ez8.trans (up_f hn9 (by decide)).symm
  have kp12 : (∀ k f : Nat, Nat.testBit 510 (gpM k f) = true → nu9 k f = mu k f) := kp_f hn9 (by decide) kp7
  have ez13 : 0 = nu9 0 20 := up_v hn9
  have loop15 : ∀ (n15 : Nat) (nu15_ : Nat → Nat → Int32) (H : Heap) (locs : List Loc) (ls : Array Slot), (100 - (nu15_ 0 18).toInt).toNat < n15 → okR loM hiM nu15_ → va_P (dC, dI) vwCl (wR 21 ad (EM cs ad) nu15_) H → (∀ k f : Nat, Nat.testBit 510 (gpM k f) = true → nu15_ k f = mu k f) → L_sm_goesOn_15_0 vt n15 nu15_ = fz → va_S (va_A (wR 21 ad (EM cs ad) mu) s.heap.size) s.heap H locs → lv_has ls 2 [(0, .ref (ad 0)), (1, .int vt)] → W p l e (headSpec (wU yX12_goesOn cX12_goesOn 2 (some .int)) ({ frames := 2, cells := 0, slots := 0, locals := 46 })).room s m ([.ref (ad 0), .int vt] : List Value).toArray below meth c H locs 0 0 (MQ below (va_Qi (fun (z : Int32) (xi : Nat → Nat → Int32) => (z, xi) = F_sm_goesOn mu vt ∧ okR loM hiM xi ∧ (True) ∧ (∀ k f : Nat, Nat.testBit 510 (gpM k f) = true → xi k f = mu k f)) (fun xi t => va_P (dC, dI) vwCl (wR 21 ad (EM cs ad) xi) t.heap) (va_A (wR 21 ad (EM cs ad) mu) s.heap.size)) ([.ref (ad 0), .int vt] : List Value).toArray s 0 0 (va_A (wR 21 ad (EM cs ad) mu) s.heap.size)) (F0 m 15 ls []) := by
    intro n15
    induction n15 with
    | zero => intro  nu15_ H locs ls hm; exact absurd hm (Nat.not_lt_zero _)
    | succ n15 ih15 =>
      intro  nu15_ H locs ls hm_15 ok hP kq15_0 hF hS hl
      rw [L_sm_goesOn_15_0] at hF
      obtain ⟨y14, ey14⟩ : ∃ z : Int32, z = nu15_ 0 18 := ⟨_, rfl⟩
      have hF := mi_let hF ey14
      have by14 : y14.toInt = (nu15_ 0 18).toInt := congrArg Int32.toInt ey14
      have gy14 : 0 ≤ y14.toInt ∧ y14.toInt ≤ 90 := by rw [ey14]; exact rM_0_18 ok
      refine lv_aload_n hx hb dX12_goesOn_15 rfl (lv_at hl 0 rfl) ?_
      refine va_get (D := (dC, dI)) (ci := 12) (v := .int (nu15_ 0 18)) (C := RX12) (T := TX12) (N := 46) hx hb hts inG12 hown hK hP 0 (gM_0 cs ad nu15_) rfl 18 (by decide) (hts _ (List.mem_cons_of_mem _ mw_5_59)) (fun _ h9 => h9) rfl dX12_goesOn_16 ?_
      refine lq_i y14 ey14.symm ?_
      refine lv_aload_n hx hb dX12_goesOn_19 rfl (lv_at hl 0 rfl) ?_
      refine va_get (D := (dC, dI)) (ci := 12) (v := .ref (ad 5)) (C := RX12) (T := TX12) (N := 46) hx hb hts inG12 hown hK hP 0 (gM_0 cs ad nu15_) rfl 6 (by decide) (hts _ (List.mem_cons_of_mem _ mw_5_47)) (fun _ h9 => h9) rfl dX12_goesOn_20 ?_
      refine lv_iload_n hx hb dX12_goesOn_23 rfl (lv_at hl 1 rfl) ?_
      refine va_iald hx hb hK hP 5 0 (gM_5 cs ad nu15_) rfl (show vp_in vt 4 from vi_of (by omega) (by omega)) dX12_goesOn_24 ?_
      refine lv_topi (fun y15 ey15 => ?_)
      have hF := mi_let hF ey15
      have by15 : y15.toInt = (nu15_ 5 vt.toNatClampNeg).toInt := congrArg Int32.toInt ey15
      have gy15 : -9 ≤ y15.toInt ∧ y15.toInt ≤ 80 := by rw [ey15]; exact rM_5_s ok vt.toNatClampNeg
      refine lv_icmp_ge (tgt := 85) hx hb dX12_goesOn_25 (by decide) (fun c_16 => ?_) (fun c_16 => ?_)
      · have hF := (if_pos c_16).symm.trans hF
        have c_16 : y15.toInt ≤ y14.toInt := il_le c_16
        refine lv_bipush (v := (-9)) hx hb dX12_goesOn_85 (by decide) ?_
        exact W.iret (v := (-9)) hx hb hr (fun t ht hW => ⟨⟨(-9), nu15_, rfl, ⟨hF.trans hfz.symm, ok, trivial, kq15_0⟩, by first | (subst ht; exact hP) | (rw [ht]; exact hP) | (show va_P (dC, dI) vwCl (wR 21 ad (EM cs ad) nu15_) t.heap; rw [ht]; exact hP)⟩, hS.F ht⟩) hS.2.2 dX12_goesOn_87
      · have hF := (if_neg c_16).symm.trans hF
        have c_16 : y14.toInt < y15.toInt := il_nle c_16
        refine lv_aload_n hx hb dX12_goesOn_28 rfl (lv_at hl 0 rfl) ?_
        refine lv_iload_n hx hb dX12_goesOn_29 rfl (lv_at hl 1 rfl) ?_
        refine cr_i (va_runV (As := [.int vt]) (rest := []) ⟨hx, hb, hml, hown, hts⟩ (sm_here l dC dI cs ad nu15_ ok H hP vt (by omega)) (cwV 1 hts (wU_V mw_6_17 mw_6_14 mw_6_16 mw_0_33 mw_1_13) rfl rfl rfl (by decide +kernel) ⟨Nat.le_of_ble_eq_true rfl, Nat.le_of_ble_eq_true rfl⟩) ⟨sz_c, va_recv hK hP (ci := 12) (q0 := 0) rfl (gM_0 cs ad nu15_), sz_m hK hz⟩ rfl rfl hl.1 rfl (lv_room (Nat.le_of_ble_eq_true rfl)) dX12_goesOn_30 ⟨Nat.zero_le _, Nat.zero_le _⟩) hS (fun r17 hw17 locs hS => ?_)
        obtain ⟨hfe17, hw17⟩ := hw17
        have hF := mi_let hF hfe17
        have gr17 : r17.toInt = -9 ∨ (nu15_ 0 18).toInt < 80 := hw17
        refine lv_bipush (v := 32) hx hb dX12_goesOn_33 (by decide) ?_
        refine lv_icmp_ne (tgt := 51) hx hb dX12_goesOn_35 (by decide) (fun c_18 => ?_) (fun c_18 => ?_)
        · have hF := (if_neg c_18).symm.trans hF
          have c_18 : ¬ r17.toInt = 32 := il_ne c_18
          refine lv_aload_n hx hb dX12_goesOn_51 rfl (lv_at hl 0 rfl) ?_
          refine lv_iload_n hx hb dX12_goesOn_52 rfl (lv_at hl 1 rfl) ?_
          refine cr_i (va_runV (As := [.int vt]) (rest := []) ⟨hx, hb, hml, hown, hts⟩ (sm_here l dC dI cs ad nu15_ ok H hP vt (by omega)) (cwV 1 hts (wU_V mw_6_17 mw_6_14 mw_6_16 mw_0_33 mw_1_13) rfl rfl rfl (by decide +kernel) ⟨Nat.le_of_ble_eq_true rfl, Nat.le_of_ble_eq_true rfl⟩) ⟨sz_c, va_recv hK hP (ci := 12) (q0 := 0) rfl (gM_0 cs ad nu15_), sz_m hK hz⟩ rfl rfl hl.1 rfl (lv_room (Nat.le_of_ble_eq_true rfl)) dX12_goesOn_53 ⟨Nat.zero_le _, Nat.zero_le _⟩) hS (fun r19 hw19 locs hS => ?_)
          obtain ⟨hfe19, hw19⟩ := hw19
          have hF := mi_let hF hfe19
          have gr19 : r19.toInt = -9 ∨ (nu15_ 0 18).toInt < 80 := hw19
          refine lv_bipush (v := 119) hx hb dX12_goesOn_56 (by decide) ?_
          refine lv_icmp_ne (tgt := 72) hx hb dX12_goesOn_58 (by decide) (fun c_20 => ?_) (fun c_20 => ?_)
          · have hF := (if_neg c_20).symm.trans hF
            have c_20 : ¬ r19.toInt = 119 := il_ne c_20
            refine lv_aload_n hx hb dX12_goesOn_72 rfl (lv_at hl 0 rfl) ?_
            refine lv_iload_n hx hb dX12_goesOn_73 rfl (lv_at hl 1 rfl) ?_
            have hFc := fr_all (wR_D nu15_ hD) hS hA
            refine va_calli (va_runV (As := [.int vt]) (rest := []) ⟨hx, hb, hml, hown, hts⟩ (sm_readsBearer l dC dI cs ad nu15_ ok H hP ((wR_D nu15_ hD).weaken (fun _ _ _ _ => trivial)) vt (by omega) (by first | assumption | (have hb21 := congrArg Int32.toInt ey14; omega))) (cwV 1 hts (wU_V mw_6_25 mw_6_22 mw_6_24 mw_0_35 mw_1_13) rfl rfl rfl (by decide +kernel) ⟨Nat.le_of_ble_eq_true rfl, Nat.le_of_ble_eq_true rfl⟩) ⟨sz_c, va_recv hK hP (ci := 12) (q0 := 0) rfl (gM_0 cs ad nu15_), sz_m hK hz⟩ rfl rfl hl.1 rfl (lv_room (Nat.le_of_ble_eq_true rfl)) dX12_goesOn_74 ⟨Nat.zero_le _, Nat.zero_le _⟩) hS (fun q _ h => hFc q h) hFc (fun r22 xi22 t H22 locs ht hvm hw22 hB hz1 hk1 hS => ?_)
            have hP : va_P (dC, dI) vwCl (wR 21 ad (EM cs ad) xi22) H22 := by rw [← ht]; exact hB
            obtain ⟨hfe22, ok, hw22, hkp22_0, hkp22_1⟩ := hw22
            have hF := mi_letp hF hfe22
            have ez23 : y15 = xi22 5 vt.toNatClampNeg := ey15.trans (congrFun (hkp22_0 5 (by decide) (by decide)) vt.toNatClampNeg).symm
            have kp24 : (∀ k f : Nat, Nat.testBit 510 (gpM k f) = true → xi22 k f = mu k f) := kp_t hkp22_1 (by decide) kq15_0
            obtain ⟨y25, ey25⟩ : ∃ z : Int32, z = xi22 0 18 := ⟨_, rfl⟩
            have hF := mi_let hF ey25
            have by25 : y25.toInt = (xi22 0 18).toInt := congrArg Int32.toInt ey25
            have gy25 : 0 ≤ y25.toInt ∧ y25.toInt ≤ 90 := by rw [ey25]; exact rM_0_18 ok
            have gr22 : (r22.toInt = 0 ∨ (nu15_ 0 18).toInt < (xi22 0 18).toInt) ∧ 0 ≤ r22.toInt ∧ r22.toInt ≤ 1 := hw22
            refine lv_if_ne (tgt := 15) hx hb dX12_goesOn_77 (by decide) (fun c_26 => ?_) (fun c_26 => ?_)
            · have hF := (if_neg c_26).symm.trans hF
              have c_26 : ¬ r22.toInt = 0 := il_ne c_26
              exact ih15  xi22 _ _ _ (by first | assumption | (have hb27 := congrArg Int32.toInt ey25; omega))   ok hP  kp24 hF hS (lv_sub hl [0, 1] rfl)
            · have hF := (if_pos c_26).symm.trans hF
              have c_26 : r22.toInt = 0 := il_eq c_26
              refine lv_aload_n hx hb dX12_goesOn_80 rfl (lv_at hl 0 rfl) ?_
              refine va_get (D := (dC, dI)) (ci := 12) (v := .int (xi22 0 18)) (C := RX12) (T := TX12) (N := 46) hx hb hts inG12 hown hK hP 0 (gM_0 cs ad xi22) rfl 18 (by decide) (hts _ (List.mem_cons_of_mem _ mw_5_59)) (fun _ h9 => h9) rfl dX12_goesOn_81 ?_
              refine lq_i y25 ey25.symm ?_
              exact W.iret (v := y25) hx hb hr (fun t ht hW => ⟨⟨y25, xi22, rfl, ⟨hF.trans hfz.symm, ok, trivial, kp24⟩, by first | (subst ht; exact hP) | (rw [ht]; exact hP) | (show va_P (dC, dI) vwCl (wR 21 ad (EM cs ad) xi22) t.heap; rw [ht]; exact hP)⟩, hS.F ht⟩) hS.2.2 dX12_goesOn_84
          · have hF := (if_pos c_20).symm.trans hF
            have c_20 : r19.toInt = 119 := il_eq c_20
            refine lv_aload_n hx hb dX12_goesOn_61 rfl (lv_at hl 0 rfl) ?_
            refine lv_iload_n hx hb dX12_goesOn_62 rfl (lv_at hl 1 rfl) ?_
            have hFc := fr_all (wR_D nu15_ hD) hS hA
            refine va_calli (va_runV (As := [.int vt]) (rest := []) ⟨hx, hb, hml, hown, hts⟩ (sm_readsPath l dC dI cs ad nu15_ ok H hP ((wR_D nu15_ hD).weaken (fun _ _ _ _ => trivial)) vt (by omega) (by first | assumption | (have hb28 := congrArg Int32.toInt ey14; omega))) (cwV 1 hts (wU_V mw_6_21 mw_6_18 mw_6_20 mw_0_34 mw_1_13) rfl rfl rfl (by decide +kernel) ⟨Nat.le_of_ble_eq_true rfl, Nat.le_of_ble_eq_true rfl⟩) ⟨sz_c, va_recv hK hP (ci := 12) (q0 := 0) rfl (gM_0 cs ad nu15_), sz_m hK hz⟩ rfl rfl hl.1 rfl (lv_room (Nat.le_of_ble_eq_true rfl)) dX12_goesOn_63 ⟨Nat.zero_le _, Nat.zero_le _⟩) hS (fun q _ h => hFc q h) hFc (fun r29 xi29 t H29 locs ht hvm hw29 hB hz1 hk1 hS => ?_)
            have hP : va_P (dC, dI) vwCl (wR 21 ad (EM cs ad) xi29) H29 := by rw [← ht]; exact hB
            obtain ⟨hfe29, ok, hw29, hkp29_0, hkp29_1⟩ := hw29
            have hF := mi_letp hF hfe29
            have ez30 : y15 = xi29 5 vt.toNatClampNeg := ey15.trans (congrFun (hkp29_0 5 (by decide) (by decide)) vt.toNatClampNeg).symm
            have kp31 : (∀ k f : Nat, Nat.testBit 510 (gpM k f) = true → xi29 k f = mu k f) := kp_t hkp29_1 (by decide) kq15_0
            obtain ⟨y32, ey32⟩ : ∃ z : Int32, z = xi29 0 18 := ⟨_, rfl⟩
            have hF := mi_let hF ey32
            have by32 : y32.toInt = (xi29 0 18).toInt := congrArg Int32.toInt ey32
            have gy32 : 0 ≤ y32.toInt ∧ y32.toInt ≤ 90 := by rw [ey32]; exact rM_0_18 ok
            have gr29 : (r29.toInt = 0 ∨ (nu15_ 0 18).toInt < (xi29 0 18).toInt) ∧ 0 ≤ r29.toInt ∧ r29.toInt ≤ 1 := hw29
            refine lv_if_ne (tgt := 15) hx hb dX12_goesOn_66 (by decide) (fun c_33 => ?_) (fun c_33 => ?_)
            · have hF := (if_neg c_33).symm.trans hF
              have c_33 : ¬ r29.toInt = 0 := il_ne c_33
              exact ih15  xi29 _ _ _ (by first | assumption | (have hb34 := congrArg Int32.toInt ey32; omega))   ok hP  kp31 hF hS (lv_sub hl [0, 1] rfl)
            · have hF := (if_pos c_33).symm.trans hF
              have c_33 : r29.toInt = 0 := il_eq c_33
              refine lv_goto (tgt := 80) hx hb dX12_goesOn_69 (by decide) ?_
              refine lv_aload_n hx hb dX12_goesOn_80 rfl (lv_at hl 0 rfl) ?_
              refine va_get (D := (dC, dI)) (ci := 12) (v := .int (xi29 0 18)) (C := RX12) (T := TX12) (N := 46) hx hb hts inG12 hown hK hP 0 (gM_0 cs ad xi29) rfl 18 (by decide) (hts _ (List.mem_cons_of_mem _ mw_5_59)) (fun _ h9 => h9) rfl dX12_goesOn_81 ?_
              refine lq_i y32 ey32.symm ?_
              exact W.iret (v := y32) hx hb hr (fun t ht hW => ⟨⟨y32, xi29, rfl, ⟨hF.trans hfz.symm, ok, trivial, kp31⟩, by first | (subst ht; exact hP) | (rw [ht]; exact hP) | (show va_P (dC, dI) vwCl (wR 21 ad (EM cs ad) xi29) t.heap; rw [ht]; exact hP)⟩, hS.F ht⟩) hS.2.2 dX12_goesOn_84
        · have hF := (if_pos c_18).symm.trans hF
          have c_18 : r17.toInt = 32 := il_eq c_18
          refine lv_aload_n hx hb dX12_goesOn_38 rfl (lv_at hl 0 rfl) ?_
          refine lv_dup hx hb dX12_goesOn_39 rfl ?_
          refine va_get (D := (dC, dI)) (ci := 12) (v := .int (nu15_ 0 18)) (C := RX12) (T := TX12) (N := 46) hx hb hts inG12 hown hK hP 0 (gM_0 cs ad nu15_) rfl 18 (by decide) (hts _ (List.mem_cons_of_mem _ mw_5_59)) (fun _ h9 => h9) rfl dX12_goesOn_40 ?_
          refine lq_i y14 ey14.symm ?_
          refine lv_iconst (v := 1) hx hb dX12_goesOn_43 (by decide) ?_
          refine lv_iadd hx hb dX12_goesOn_44 ?_
          refine lv_topi (fun t35 et35 => ?_)
          have hF := mi_let hF et35
          have at35 : t35.toInt = y14.toInt + 1 := by rw [et35]; exact va1 (by omega)
          refine va_put (D := (dC, dI)) (ci := 12) (v := .int t35) (ty := .int) (C := RX12) (T := TX12) (N := 46) hx hb hts inG12 tyX12 tyX12_ok nmX12 hown hK hP (wR_D nu15_ hD) hS 0 (gM_0 cs ad nu15_) rfl 18 (by decide) (hts _ (List.mem_cons_of_mem _ mw_5_59)) (fun _ h9 => h9) rfl (by decide +kernel) rfl rfl (Nat.le_of_ble_eq_true rfl) dX12_goesOn_45 (fun H locs hP _ hS => ?_)
          simp only [List.set_cons_succ, List.set_cons_zero] at hP
          refine wr_gen (upd (nu15_ 0) 18 t35) hP ((hM_0_18 cs ad _ _)) (fun nu36 hn36 hP => ?_)
          have hF := mi_let hF hn36.symm
          have ok := tM_0_18 ok hn36 (by omega)
          have ez37 : y15 = nu36 5 vt.toNatClampNeg := ey15.trans (congrFun (up_k hn36 (by decide)) vt.toNatClampNeg).symm
          have kp38 : (∀ k f : Nat, Nat.testBit 510 (gpM k f) = true → nu36 k f = mu k f) := kp_f hn36 (by decide) kq15_0
          have ez39 : t35 = nu36 0 18 := up_v hn36
          refine lv_goto (tgt := 15) hx hb dX12_goesOn_48 (by decide) ?_
          exact ih15  nu36 _ _ _ (by first | assumption | (have hb40 := congrArg Int32.toInt ez39; omega))   ok hP  kp38 hF hS (lv_sub hl [0, 1] rfl)
  exact loop15 102  nu9 _ _ _ (by have hb42 : (nu9 0 18).toInt = 0 := (by rw [← ez10]; rfl); omega)   ok hP  kp12 hF hS hl
set_option maxHeartbeats 4000000 in
set_option maxRecDepth 100000 in
/-- qm_fault -/
theorem qm_fault (l : Launch) (dC : Nat → ClassId) (dI : Nat → Nat → Nat) (cs : Nat → ClassId) (ad : Nat → Nat) (mu : Nat → Nat → Int32) (ok : okR loM hiM mu) (H : Heap) (hP : va_P (dC, dI) vwCl (wR 21 ad (EM cs ad) mu) H) (hD0 : va_D (fun _ => True) (wR 21 ad (EM cs ad) mu)) (vt : Int32) : Met l yX12_fault (wU yX12_fault cX12_fault 3 (some .int)) ({ frames := 3, cells := 0, slots := 0, locals := 67 }) (va_Pc [.ref (ad 0), .int vt] (sz_P (dC, dI) vwCl (tyM cs) H)) (va_Qi (fun (z : Int32) (xi : Nat → Nat → Int32) => (z, xi) = F_qm_fault mu vt ∧ okR loM hiM xi ∧ (True) ∧ (∀ k f : Nat, Nat.testBit 510 (gpM k f) = true → xi k f = mu k f)) (fun xi t => va_P (dC, dI) vwCl (wR 21 ad (EM cs ad) xi) t.heap) (va_A (wR 21 ad (EM cs ad) mu) H.size)) 0 0 (va_A (wR 21 ad (EM cs ad) mu) H.size) := by
  refine Met.ofW (cc := cX12_fault) (maxL := 3) (ret := (some .int)) (by decide) rfl ?_
  intro p e s m args below meth c s₁ B hml hv
  obtain ⟨rfl, hh, hK, hz⟩ := hv
  have hx := B.exec
  have hb := B.bytes
  have hr := B.returns
  have hts := atoms_spec (ws := (wU yX12_fault cX12_fault 3 (some .int))) B.pre
  have hown : s.vm.findClass RX12 = some m.cls := findClass_of_methodNamed B.named
  have hlocks := B.notSynchronized
  subst hh
  have hD := hD0.self (sz := s.heap.size)
  have hA : ∀ q : Nat, s.heap.size ≤ q → (va_A (wR 21 ad (EM cs ad) mu) s.heap.size) q := fun q h => Or.inr h
  have hS : va_S (va_A (wR 21 ad (EM cs ad) mu) s.heap.size) s.heap s.heap [] := va_S.rf
  have hl := lv_entry ([.ref (ad 0), .int vt]) (n := 3) (Nat.le_of_ble_eq_true rfl)
  rw [lg_entry_eq]
  generalize (lg_sl ([.ref (ad 0), .int vt]) ++ List.replicate (3 - (lg_sl ([.ref (ad 0), .int vt])).length) Slot.unset).toArray = ls at hl ⊢
  have hl : lv_has ls 3 [(0, .ref (ad 0)), (1, .int vt)] := hl
  obtain ⟨fz, hfz⟩ : ∃ z, F_qm_fault mu vt = z := ⟨_, rfl⟩
  have hF := hfz
  unfold F_qm_fault at hF
  refine lv_aload_n hx hb dX12_fault_0 rfl (lv_at hl 0 rfl) ?_
  refine lv_iload_n hx hb dX12_fault_1 rfl (lv_at hl 1 rfl) ?_
  have hFc := fr_all (wR_D mu hD) hS hA
  refine va_calli (va_runV (As := [.int vt]) (rest := []) ⟨hx, hb, hml, hown, hts⟩ (sm_askedText l dC dI cs ad mu ok s.heap hP ((wR_D mu hD).weaken (fun _ _ _ _ => trivial)) vt) (cwV 1 hts (wU_V mw_6_5 mw_6_2 mw_6_4 mw_0_31 mw_1_13) rfl rfl rfl (by decide +kernel) ⟨Nat.le_of_ble_eq_true rfl, Nat.le_of_ble_eq_true rfl⟩) ⟨sz_c, va_recv hK hP (ci := 12) (q0 := 0) rfl (gM_0 cs ad mu), sz_m hK hz⟩ rfl rfl hl.1 rfl (lv_room (Nat.le_of_ble_eq_true rfl)) dX12_fault_2 ⟨Nat.zero_le _, Nat.zero_le _⟩) hS (fun q _ h => hFc q h) hFc (fun r1 xi1 t H1 locs ht hvm hw1 hB hz1 hk1 hS => ?_)
  have hP : va_P (dC, dI) vwCl (wR 21 ad (EM cs ad) xi1) H1 := by rw [← ht]; exact hB
  obtain ⟨hfe1, hw1⟩ := hw1
  have hF := mi_letp hF hfe1
  rcases hw1 with ⟨rfl, hxi1, f1⟩ | ⟨z1, ok, hkp1_0⟩
  · have hF := (if_pos rfl).symm.trans hF
    have hP : va_P (dC, dI) vwCl (wR 21 ad (EM cs ad) mu) H1 := by rw [← hxi1]; exact hP
    have f1 : 0 ≤ vt.toInt ∧ vt.toInt ≤ 3 ∧ 0 ≤ (mu 5 vt.toNatClampNeg).toInt := f1
    refine lv_istore_n (lv' := [(2, .int 0), (0, .ref (ad 0)), (1, .int vt)]) hx hb dX12_fault_5 rfl hl (by decide) rfl (fun ls hl => ?_)
    refine lv_iload_n hx hb dX12_fault_6 rfl (lv_at hl 0 rfl) ?_
    refine lv_if_ge (tgt := 14) hx hb dX12_fault_7 (by decide) (fun _ => ?_) (fun c => absurd (by decide) c)
    refine lv_aload_n hx hb dX12_fault_14 rfl (lv_at hl 1 rfl) ?_
    refine lv_iload_n hx hb dX12_fault_15 rfl (lv_at hl 2 rfl) ?_
    have hFc := fr_all (wR_D mu hD) hS hA
    refine va_calli (va_runV (As := [.int vt]) (rest := []) ⟨hx, hb, hml, hown, hts⟩ (sm_goesOn l dC dI cs ad mu ok H1 hP ((wR_D mu hD).weaken (fun _ _ _ _ => trivial)) vt (by omega)) (cwV 1 hts (wU_V mw_6_13 mw_6_10 mw_6_12 mw_0_32 mw_1_13) rfl rfl rfl (by decide +kernel) ⟨Nat.le_of_ble_eq_true rfl, Nat.le_of_ble_eq_true rfl⟩) ⟨sz_c, va_recv hK hP (ci := 12) (q0 := 0) rfl (gM_0 cs ad mu), sz_m hK hz⟩ rfl rfl hl.1 rfl (lv_room (Nat.le_of_ble_eq_true rfl)) dX12_fault_16 ⟨Nat.zero_le _, Nat.zero_le _⟩) hS (fun q _ h => hFc q h) hFc (fun r3 xi3 t H3 locs ht hvm hw3 hB hz1 hk1 hS => ?_)
    have hP : va_P (dC, dI) vwCl (wR 21 ad (EM cs ad) xi3) H3 := by rw [← ht]; exact hB
    obtain ⟨hfe3, ok, hw3, hkp3_0⟩ := hw3
    have hF := mi_letp hF hfe3
    have kp4 : (∀ k f : Nat, Nat.testBit 510 (gpM k f) = true → xi3 k f = mu k f) := kp_t hkp3_0 (by decide) (fun _ _ _ => rfl)
    exact W.iret (v := r3) hx hb hr (fun t ht hW => ⟨⟨r3, xi3, rfl, ⟨hF.trans hfz.symm, ok, trivial, kp4⟩, by first | (subst ht; exact hP) | (rw [ht]; exact hP) | (show va_P (dC, dI) vwCl (wR 21 ad (EM cs ad) xi3) t.heap; rw [ht]; exact hP)⟩, hS.F ht⟩) hS.2.2 dX12_fault_19
  · have hF := (if_neg (show ¬ r1 = 0 from fun h => by have h9 := congrArg Int32.toInt h; have h8 : (0 : Int32).toInt = 0 := rfl; omega)).symm.trans hF
    have kp2 : (∀ k f : Nat, Nat.testBit 510 (gpM k f) = true → xi1 k f = mu k f) := kp_t hkp1_0 (by decide) (fun _ _ _ => rfl)
    skip
    refine lv_istore_n (lv' := [(2, .int r1), (0, .ref (ad 0)), (1, .int vt)]) hx hb dX12_fault_5 rfl hl (by decide) rfl (fun ls hl => ?_)
    refine lv_iload_n hx hb dX12_fault_6 rfl (lv_at hl 0 rfl) ?_
    refine lv_if_ge (tgt := 14) hx hb dX12_fault_7 (by decide) (fun c_5 => by have c_5 : 0 ≤ r1.toInt := il_le c_5; exfalso; omega) (fun c_5 => ?_)
    have c_5 : r1.toInt < 0 := il_nle c_5
    refine lv_iload_n hx hb dX12_fault_10 rfl (lv_at hl 0 rfl) ?_
    refine lv_goto (tgt := 19) hx hb dX12_fault_11 (by decide) ?_
    exact W.iret (v := r1) hx hb hr (fun t ht hW => ⟨⟨r1, xi1, rfl, ⟨hF.trans hfz.symm, ok, trivial, kp2⟩, by first | (subst ht; exact hP) | (rw [ht]; exact hP) | (show va_P (dC, dI) vwCl (wR 21 ad (EM cs ad) xi1) t.heap; rw [ht]; exact hP)⟩, hS.F ht⟩) hS.2.2 dX12_fault_19
set_option maxHeartbeats 4000000 in
set_option maxRecDepth 100000 in
/-- qm_town -/
theorem qm_town (l : Launch) (dC : Nat → ClassId) (dI : Nat → Nat → Nat) (cs : Nat → ClassId) (ad : Nat → Nat) (mu : Nat → Nat → Int32) (ok : okR loM hiM mu) (H : Heap) (hP : va_P (dC, dI) vwCl (wR 21 ad (EM cs ad) mu) H) (hD0 : va_D (fun _ => True) (wR 21 ad (EM cs ad) mu)) (vt : Int32) : Met l yX12_town (wU yX12_town cX12_town 4 (some .int)) ({ frames := 3, cells := 0, slots := 0, locals := 67 }) (va_Pc [.ref (ad 0), .int vt] (sz_P (dC, dI) vwCl (tyM cs) H)) (va_Qi (fun (z : Int32) (xi : Nat → Nat → Int32) => (z, xi) = F_qm_town mu vt ∧ okR loM hiM xi ∧ (True) ∧ (∀ k f : Nat, Nat.testBit 2 (gpM k f) = true → xi k f = mu k f)) (fun xi t => va_P (dC, dI) vwCl (wR 21 ad (EM cs ad) xi) t.heap) (va_A (wR 21 ad (EM cs ad) mu) H.size)) 0 0 (va_A (wR 21 ad (EM cs ad) mu) H.size) := by
  refine Met.ofW (cc := cX12_town) (maxL := 4) (ret := (some .int)) (by decide) rfl ?_
  intro p e s m args below meth c s₁ B hml hv
  obtain ⟨rfl, hh, hK, hz⟩ := hv
  have hx := B.exec
  have hb := B.bytes
  have hr := B.returns
  have hts := atoms_spec (ws := (wU yX12_town cX12_town 4 (some .int))) B.pre
  have hown : s.vm.findClass RX12 = some m.cls := findClass_of_methodNamed B.named
  have hlocks := B.notSynchronized
  subst hh
  have hD := hD0.self (sz := s.heap.size)
  have hA : ∀ q : Nat, s.heap.size ≤ q → (va_A (wR 21 ad (EM cs ad) mu) s.heap.size) q := fun q h => Or.inr h
  have hS : va_S (va_A (wR 21 ad (EM cs ad) mu) s.heap.size) s.heap s.heap [] := va_S.rf
  have hl := lv_entry ([.ref (ad 0), .int vt]) (n := 4) (Nat.le_of_ble_eq_true rfl)
  rw [lg_entry_eq]
  generalize (lg_sl ([.ref (ad 0), .int vt]) ++ List.replicate (4 - (lg_sl ([.ref (ad 0), .int vt])).length) Slot.unset).toArray = ls at hl ⊢
  have hl : lv_has ls 4 [(0, .ref (ad 0)), (1, .int vt)] := hl
  obtain ⟨fz, hfz⟩ : ∃ z, F_qm_town mu vt = z := ⟨_, rfl⟩
  have hF := hfz
  unfold F_qm_town at hF
  refine lv_aload_n hx hb dX12_town_0 rfl (lv_at hl 0 rfl) ?_
  refine lv_iload_n hx hb dX12_town_1 rfl (lv_at hl 1 rfl) ?_
  have hFc := fr_all (wR_D mu hD) hS hA
  refine va_calli (va_runV (As := [.int vt]) (rest := []) ⟨hx, hb, hml, hown, hts⟩ (sm_askedText l dC dI cs ad mu ok s.heap hP ((wR_D mu hD).weaken (fun _ _ _ _ => trivial)) vt) (cwV 1 hts (wU_V mw_6_5 mw_6_2 mw_6_4 mw_0_31 mw_1_13) rfl rfl rfl (by decide +kernel) ⟨Nat.le_of_ble_eq_true rfl, Nat.le_of_ble_eq_true rfl⟩) ⟨sz_c, va_recv hK hP (ci := 12) (q0 := 0) rfl (gM_0 cs ad mu), sz_m hK hz⟩ rfl rfl hl.1 rfl (lv_room (Nat.le_of_ble_eq_true rfl)) dX12_town_2 ⟨Nat.zero_le _, Nat.zero_le _⟩) hS (fun q _ h => hFc q h) hFc (fun r1 xi1 t H1 locs ht hvm hw1 hB hz1 hk1 hS => ?_)
  have hP : va_P (dC, dI) vwCl (wR 21 ad (EM cs ad) xi1) H1 := by rw [← ht]; exact hB
  obtain ⟨hfe1, hw1⟩ := hw1
  have hF := mi_letp hF hfe1
  rcases hw1 with ⟨rfl, hxi1, f1⟩ | ⟨z1, ok, hkp1_0⟩
  · have hF := (if_pos rfl).symm.trans hF
    have hP : va_P (dC, dI) vwCl (wR 21 ad (EM cs ad) mu) H1 := by rw [← hxi1]; exact hP
    have f1 : 0 ≤ vt.toInt ∧ vt.toInt ≤ 3 ∧ 0 ≤ (mu 5 vt.toNatClampNeg).toInt := f1
    refine lv_istore_n (lv' := [(2, .int 0), (0, .ref (ad 0)), (1, .int vt)]) hx hb dX12_town_5 rfl hl (by decide) rfl (fun ls hl => ?_)
    refine lv_iload_n hx hb dX12_town_6 rfl (lv_at hl 0 rfl) ?_
    refine lv_if_ge (tgt := 12) hx hb dX12_town_7 (by decide) (fun _ => ?_) (fun c => absurd (by decide) c)
    refine lv_aload_n hx hb dX12_town_12 rfl (lv_at hl 1 rfl) ?_
    refine lv_iload_n hx hb dX12_town_13 rfl (lv_at hl 2 rfl) ?_
    have hFc := fr_all (wR_D mu hD) hS hA
    refine va_calli (va_runV (As := [.int vt]) (rest := []) ⟨hx, hb, hml, hown, hts⟩ (sm_goesOn l dC dI cs ad mu ok H1 hP ((wR_D mu hD).weaken (fun _ _ _ _ => trivial)) vt (by omega)) (cwV 1 hts (wU_V mw_6_13 mw_6_10 mw_6_12 mw_0_32 mw_1_13) rfl rfl rfl (by decide +kernel) ⟨Nat.le_of_ble_eq_true rfl, Nat.le_of_ble_eq_true rfl⟩) ⟨sz_c, va_recv hK hP (ci := 12) (q0 := 0) rfl (gM_0 cs ad mu), sz_m hK hz⟩ rfl rfl hl.1 rfl (lv_room (Nat.le_of_ble_eq_true rfl)) dX12_town_14 ⟨Nat.zero_le _, Nat.zero_le _⟩) hS (fun q _ h => hFc q h) hFc (fun r3 xi3 t H3 locs ht hvm hw3 hB hz1 hk1 hS => ?_)
    have hP : va_P (dC, dI) vwCl (wR 21 ad (EM cs ad) xi3) H3 := by rw [← ht]; exact hB
    obtain ⟨hfe3, ok, hw3, hkp3_0⟩ := hw3
    have hF := mi_letp hF hfe3
    have kp4 : (∀ k f : Nat, Nat.testBit 2 (gpM k f) = true → xi3 k f = mu k f) := kp_t hkp3_0 (by decide) (fun _ _ _ => rfl)
    refine lv_bipush (v := (-9)) hx hb dX12_town_17 (by decide) ?_
    refine lv_icmp_eq (tgt := 25) hx hb dX12_town_19 (by decide) (fun c_5 => ?_) (fun c_5 => ?_)
    · have hF := (if_pos c_5).symm.trans hF
      have c_5 : r3.toInt = -9 := il_eq c_5
      refine lv_aload_n hx hb dX12_town_25 rfl (lv_at hl 1 rfl) ?_
      refine lv_aload_n hx hb dX12_town_26 rfl (lv_at hl 1 rfl) ?_
      refine va_get (D := (dC, dI)) (ci := 12) (v := .int (xi3 0 19)) (C := RX12) (T := TX12) (N := 46) hx hb hts inG12 hown hK hP 0 (gM_0 cs ad xi3) rfl 19 (by decide) (hts _ (List.mem_cons_of_mem _ mw_5_60)) (fun _ h9 => h9) rfl dX12_town_27 ?_
      refine lv_topi (fun y6 ey6 => ?_)
      have hF := mi_let hF ey6
      have by6 : y6.toInt = (xi3 0 19).toInt := congrArg Int32.toInt ey6
      have gy6 : 0 ≤ y6.toInt ∧ y6.toInt ≤ 7 := by rw [ey6]; exact rM_0_19 ok
      refine va_put (D := (dC, dI)) (ci := 12) (v := .int y6) (ty := .int) (C := RX12) (T := TX12) (N := 46) hx hb hts inG12 tyX12 tyX12_ok nmX12 hown hK hP (wR_D xi3 hD) hS 0 (gM_0 cs ad xi3) rfl 8 (by decide) (hts _ (List.mem_cons_of_mem _ mw_5_49)) (fun _ h9 => h9) rfl (by decide +kernel) rfl rfl (Nat.le_of_ble_eq_true rfl) dX12_town_30 (fun H locs hP _ hS => ?_)
      simp only [List.set_cons_succ, List.set_cons_zero] at hP
      refine wr_gen (upd (xi3 0) 8 y6) hP ((hM_0_8 cs ad _ _)) (fun nu7 hn7 hP => ?_)
      have hF := mi_let hF hn7.symm
      have ok := tM_0_8 ok hn7 (by omega)
      have ez8 : y6 = nu7 0 19 := ey6.trans (up_f hn7 (by decide)).symm
      have kp9 : (∀ k f : Nat, Nat.testBit 2 (gpM k f) = true → nu7 k f = mu k f) := kp_f hn7 (by decide) kp4
      have ez10 : y6 = nu7 0 8 := up_v hn7
      refine lv_aload_n hx hb dX12_town_33 rfl (lv_at hl 1 rfl) ?_
      refine lv_aload_n hx hb dX12_town_34 rfl (lv_at hl 1 rfl) ?_
      refine va_get (D := (dC, dI)) (ci := 12) (v := .int (nu7 0 20)) (C := RX12) (T := TX12) (N := 46) hx hb hts inG12 hown hK hP 0 (gM_0 cs ad nu7) rfl 20 (by decide) (hts _ (List.mem_cons_of_mem _ mw_5_61)) (fun _ h9 => h9) rfl dX12_town_35 ?_
      refine lv_topi (fun y11 ey11 => ?_)
      have hF := mi_let hF ey11
      have by11 : y11.toInt = (nu7 0 20).toInt := congrArg Int32.toInt ey11
      have gy11 : 0 ≤ y11.toInt ∧ y11.toInt ≤ 12 := by rw [ey11]; exact rM_0_20 ok
      refine va_put (D := (dC, dI)) (ci := 12) (v := .int y11) (ty := .int) (C := RX12) (T := TX12) (N := 46) hx hb hts inG12 tyX12 tyX12_ok nmX12 hown hK hP (wR_D nu7 hD) hS 0 (gM_0 cs ad nu7) rfl 11 (by decide) (hts _ (List.mem_cons_of_mem _ mw_5_52)) (fun _ h9 => h9) rfl (by decide +kernel) rfl rfl (Nat.le_of_ble_eq_true rfl) dX12_town_38 (fun H locs hP _ hS => ?_)
      simp only [List.set_cons_succ, List.set_cons_zero] at hP
      refine wr_gen (upd (nu7 0) 11 y11) hP ((hM_0_11 cs ad _ _)) (fun nu12 hn12 hP => ?_)
      have hF := mi_let hF hn12.symm
      have ok := tM_0_11 ok hn12 (by omega)
      have ez13 : y6 = nu12 0 19 := ez8.trans (up_f hn12 (by decide)).symm
      have ez14 : y6 = nu12 0 8 := ez10.trans (up_f hn12 (by decide)).symm
      have ez15 : y11 = nu12 0 20 := ey11.trans (up_f hn12 (by decide)).symm
      have kp16 : (∀ k f : Nat, Nat.testBit 2 (gpM k f) = true → nu12 k f = mu k f) := kp_f hn12 (by decide) kp9
      have ez17 : y11 = nu12 0 11 := up_v hn12
      refine lv_iconst (v := 0) hx hb dX12_town_41 (by decide) ?_
      refine lv_istore_n (lv' := [(3, .int 0), (2, .int 0), (0, .ref (ad 0)), (1, .int vt)]) hx hb dX12_town_42 rfl hl (by decide) rfl (fun ls hl => ?_)
      have loop43 : ∀ (n43 : Nat) (v3_43 : Int32) (nu43_ : Nat → Nat → Int32) (H : Heap) (locs : List Loc) (ls : Array Slot), (7 + 1 - v3_43.toInt).toNat < n43 → (0 ≤ v3_43.toInt ∧ v3_43.toInt ≤ 7) → okR loM hiM nu43_ → va_P (dC, dI) vwCl (wR 21 ad (EM cs ad) nu43_) H → (∀ k f : Nat, Nat.testBit 2 (gpM k f) = true → nu43_ k f = mu k f) → L_qm_town_43_0 n43 v3_43 nu43_ = fz → va_S (va_A (wR 21 ad (EM cs ad) mu) s.heap.size) s.heap H locs → lv_has ls 4 [(3, .int v3_43), (2, .int 0), (0, .ref (ad 0)), (1, .int vt)] → W p l e (headSpec (wU yX12_town cX12_town 4 (some .int)) ({ frames := 3, cells := 0, slots := 0, locals := 67 })).room s m ([.ref (ad 0), .int vt] : List Value).toArray below meth c H locs 0 0 (MQ below (va_Qi (fun (z : Int32) (xi : Nat → Nat → Int32) => (z, xi) = F_qm_town mu vt ∧ okR loM hiM xi ∧ (True) ∧ (∀ k f : Nat, Nat.testBit 2 (gpM k f) = true → xi k f = mu k f)) (fun xi t => va_P (dC, dI) vwCl (wR 21 ad (EM cs ad) xi) t.heap) (va_A (wR 21 ad (EM cs ad) mu) s.heap.size)) ([.ref (ad 0), .int vt] : List Value).toArray s 0 0 (va_A (wR 21 ad (EM cs ad) mu) s.heap.size)) (F0 m 43 ls []) := by
        intro n43
        induction n43 with
        | zero => intro v3_43 nu43_ H locs ls hm; exact absurd hm (Nat.not_lt_zero _)
        | succ n43 ih43 =>
          intro v3_43 nu43_ H locs ls hm_43 h_v3_43 ok hP kq43_0 hF hS hl
          rw [L_qm_town_43_0] at hF
          refine lv_iload_n hx hb dX12_town_43 rfl (lv_at hl 0 rfl) ?_
          refine lv_bipush (v := 7) hx hb dX12_town_44 (by decide) ?_
          refine lv_icmp_ge (tgt := 79) hx hb dX12_town_46 (by decide) (fun c_18 => ?_) (fun c_18 => ?_)
          · have hF := (if_pos c_18).symm.trans hF
            have c_18 : 7 ≤ v3_43.toInt := il_le c_18
            refine lv_iconst (v := 0) hx hb dX12_town_79 (by decide) ?_
            refine lv_istore_n (lv' := [(3, .int 0), (2, .int 0), (0, .ref (ad 0)), (1, .int vt)]) hx hb dX12_town_80 rfl hl (by decide) rfl (fun ls hl => ?_)
            have loop81 : ∀ (n81 : Nat) (v3_81 : Int32) (nu81_ : Nat → Nat → Int32) (H : Heap) (locs : List Loc) (ls : Array Slot), (24 + 1 - v3_81.toInt).toNat < n81 → (0 ≤ v3_81.toInt ∧ v3_81.toInt ≤ 24) → okR loM hiM nu81_ → va_P (dC, dI) vwCl (wR 21 ad (EM cs ad) nu81_) H → (∀ k f : Nat, Nat.testBit 2 (gpM k f) = true → nu81_ k f = mu k f) → L_qm_town_81_1 n81 v3_81 nu81_ = fz → va_S (va_A (wR 21 ad (EM cs ad) mu) s.heap.size) s.heap H locs → lv_has ls 4 [(3, .int v3_81), (2, .int 0), (0, .ref (ad 0)), (1, .int vt)] → W p l e (headSpec (wU yX12_town cX12_town 4 (some .int)) ({ frames := 3, cells := 0, slots := 0, locals := 67 })).room s m ([.ref (ad 0), .int vt] : List Value).toArray below meth c H locs 0 0 (MQ below (va_Qi (fun (z : Int32) (xi : Nat → Nat → Int32) => (z, xi) = F_qm_town mu vt ∧ okR loM hiM xi ∧ (True) ∧ (∀ k f : Nat, Nat.testBit 2 (gpM k f) = true → xi k f = mu k f)) (fun xi t => va_P (dC, dI) vwCl (wR 21 ad (EM cs ad) xi) t.heap) (va_A (wR 21 ad (EM cs ad) mu) s.heap.size)) ([.ref (ad 0), .int vt] : List Value).toArray s 0 0 (va_A (wR 21 ad (EM cs ad) mu) s.heap.size)) (F0 m 81 ls []) := by
              intro n81
              induction n81 with
              | zero => intro v3_81 nu81_ H locs ls hm; exact absurd hm (Nat.not_lt_zero _)
              | succ n81 ih81 =>
                intro v3_81 nu81_ H locs ls hm_81 h_v3_81 ok hP kq81_0 hF hS hl
                rw [L_qm_town_81_1] at hF
                refine lv_iload_n hx hb dX12_town_81 rfl (lv_at hl 0 rfl) ?_
                refine lv_bipush (v := 24) hx hb dX12_town_82 (by decide) ?_
                refine lv_icmp_ge (tgt := 105) hx hb dX12_town_84 (by decide) (fun c_19 => ?_) (fun c_19 => ?_)
                · have hF := (if_pos c_19).symm.trans hF
                  have c_19 : 24 ≤ v3_81.toInt := il_le c_19
                  refine lv_aload_n hx hb dX12_town_105 rfl (lv_at hl 2 rfl) ?_
                  refine lv_iconst (v := 0) hx hb dX12_town_106 (by decide) ?_
                  refine va_put (D := (dC, dI)) (ci := 12) (v := .int 0) (ty := .int) (C := RX12) (T := TX12) (N := 46) hx hb hts inG12 tyX12 tyX12_ok nmX12 hown hK hP (wR_D nu81_ hD) hS 0 (gM_0 cs ad nu81_) rfl 13 (by decide) (hts _ (List.mem_cons_of_mem _ mw_5_54)) (fun _ h9 => h9) rfl (by decide +kernel) rfl rfl (Nat.le_of_ble_eq_true rfl) dX12_town_107 (fun H locs hP _ hS => ?_)
                  simp only [List.set_cons_succ, List.set_cons_zero] at hP
                  refine wr_gen (upd (nu81_ 0) 13 0) hP ((hM_0_13 cs ad _ _)) (fun nu20 hn20 hP => ?_)
                  have hF := mi_let hF hn20.symm
                  have ok := tM_0_13 ok hn20
                  have kp21 : (∀ k f : Nat, Nat.testBit 2 (gpM k f) = true → nu20 k f = mu k f) := kp_f hn20 (by decide) kq81_0
                  have ez22 : 0 = nu20 0 13 := up_v hn20
                  refine lv_aload_n hx hb dX12_town_110 rfl (lv_at hl 2 rfl) ?_
                  refine lv_iconst (v := 0) hx hb dX12_town_111 (by decide) ?_
                  refine va_put (D := (dC, dI)) (ci := 12) (v := .int 0) (ty := .int) (C := RX12) (T := TX12) (N := 46) hx hb hts inG12 tyX12 tyX12_ok nmX12 hown hK hP (wR_D nu20 hD) hS 0 (gM_0 cs ad nu20) rfl 14 (by decide) (hts _ (List.mem_cons_of_mem _ mw_5_55)) (fun _ h9 => h9) rfl (by decide +kernel) rfl rfl (Nat.le_of_ble_eq_true rfl) dX12_town_112 (fun H locs hP _ hS => ?_)
                  simp only [List.set_cons_succ, List.set_cons_zero] at hP
                  refine wr_gen (upd (nu20 0) 14 0) hP ((hM_0_14 cs ad _ _)) (fun nu23 hn23 hP => ?_)
                  have hF := mi_let hF hn23.symm
                  have ok := tM_0_14 ok hn23
                  have ez24 : 0 = nu23 0 13 := ez22.trans (up_f hn23 (by decide)).symm
                  have kp25 : (∀ k f : Nat, Nat.testBit 2 (gpM k f) = true → nu23 k f = mu k f) := kp_f hn23 (by decide) kp21
                  have ez26 : 0 = nu23 0 14 := up_v hn23
                  refine lv_aload_n hx hb dX12_town_115 rfl (lv_at hl 2 rfl) ?_
                  refine lv_iconst (v := 0) hx hb dX12_town_116 (by decide) ?_
                  refine va_put (D := (dC, dI)) (ci := 12) (v := .int 0) (ty := .int) (C := RX12) (T := TX12) (N := 46) hx hb hts inG12 tyX12 tyX12_ok nmX12 hown hK hP (wR_D nu23 hD) hS 0 (gM_0 cs ad nu23) rfl 15 (by decide) (hts _ (List.mem_cons_of_mem _ mw_5_56)) (fun _ h9 => h9) rfl (by decide +kernel) rfl rfl (Nat.le_of_ble_eq_true rfl) dX12_town_117 (fun H locs hP _ hS => ?_)
                  simp only [List.set_cons_succ, List.set_cons_zero] at hP
                  refine wr_gen (upd (nu23 0) 15 0) hP ((hM_0_15 cs ad _ _)) (fun nu27 hn27 hP => ?_)
                  have hF := mi_let hF hn27.symm
                  have ok := tM_0_15 ok hn27 (by have h9 : (0 : Int32).toInt = 0 := rfl; exact ⟨by omega, by omega⟩)
                  have ez28 : 0 = nu27 0 13 := ez24.trans (up_f hn27 (by decide)).symm
                  have ez29 : 0 = nu27 0 14 := ez26.trans (up_f hn27 (by decide)).symm
                  have kp30 : (∀ k f : Nat, Nat.testBit 2 (gpM k f) = true → nu27 k f = mu k f) := kp_f hn27 (by decide) kp25
                  have ez31 : 0 = nu27 0 15 := up_v hn27
                  refine lv_aload_n hx hb dX12_town_120 rfl (lv_at hl 2 rfl) ?_
                  refine lv_iconst (v := 0) hx hb dX12_town_121 (by decide) ?_
                  refine va_put (D := (dC, dI)) (ci := 12) (v := .int 0) (ty := .int) (C := RX12) (T := TX12) (N := 46) hx hb hts inG12 tyX12 tyX12_ok nmX12 hown hK hP (wR_D nu27 hD) hS 0 (gM_0 cs ad nu27) rfl 17 (by decide) (hts _ (List.mem_cons_of_mem _ mw_5_58)) (fun _ h9 => h9) rfl (by decide +kernel) rfl rfl (Nat.le_of_ble_eq_true rfl) dX12_town_122 (fun H locs hP _ hS => ?_)
                  simp only [List.set_cons_succ, List.set_cons_zero] at hP
                  refine wr_gen (upd (nu27 0) 17 0) hP ((hM_0_17 cs ad _ _)) (fun nu32 hn32 hP => ?_)
                  have hF := mi_let hF hn32.symm
                  have ok := tM_0_17 ok hn32 (by have h9 : (0 : Int32).toInt = 0 := rfl; exact ⟨by omega, by omega⟩)
                  have ez33 : 0 = nu32 0 13 := ez28.trans (up_f hn32 (by decide)).symm
                  have ez34 : 0 = nu32 0 14 := ez29.trans (up_f hn32 (by decide)).symm
                  have ez35 : 0 = nu32 0 15 := ez31.trans (up_f hn32 (by decide)).symm
                  have kp36 : (∀ k f : Nat, Nat.testBit 2 (gpM k f) = true → nu32 k f = mu k f) := kp_f hn32 (by decide) kp30
                  have ez37 : 0 = nu32 0 17 := up_v hn32
                  refine lv_iconst (v := 0) hx hb dX12_town_125 (by decide) ?_
                  refine lv_istore_n (lv' := [(3, .int 0), (2, .int 0), (0, .ref (ad 0)), (1, .int vt)]) hx hb dX12_town_126 rfl hl (by decide) rfl (fun ls hl => ?_)
                  have loop127 : ∀ (n127 : Nat) (v3_127 : Int32) (nu127_ : Nat → Nat → Int32) (H : Heap) (locs : List Loc) (ls : Array Slot), (3 + 1 - v3_127.toInt).toNat < n127 → (0 ≤ v3_127.toInt ∧ v3_127.toInt ≤ 3) → okR loM hiM nu127_ → va_P (dC, dI) vwCl (wR 21 ad (EM cs ad) nu127_) H → (∀ k f : Nat, Nat.testBit 2 (gpM k f) = true → nu127_ k f = mu k f) → L_qm_town_127_2 n127 v3_127 nu127_ = fz → va_S (va_A (wR 21 ad (EM cs ad) mu) s.heap.size) s.heap H locs → lv_has ls 4 [(3, .int v3_127), (2, .int 0), (0, .ref (ad 0)), (1, .int vt)] → W p l e (headSpec (wU yX12_town cX12_town 4 (some .int)) ({ frames := 3, cells := 0, slots := 0, locals := 67 })).room s m ([.ref (ad 0), .int vt] : List Value).toArray below meth c H locs 0 0 (MQ below (va_Qi (fun (z : Int32) (xi : Nat → Nat → Int32) => (z, xi) = F_qm_town mu vt ∧ okR loM hiM xi ∧ (True) ∧ (∀ k f : Nat, Nat.testBit 2 (gpM k f) = true → xi k f = mu k f)) (fun xi t => va_P (dC, dI) vwCl (wR 21 ad (EM cs ad) xi) t.heap) (va_A (wR 21 ad (EM cs ad) mu) s.heap.size)) ([.ref (ad 0), .int vt] : List Value).toArray s 0 0 (va_A (wR 21 ad (EM cs ad) mu) s.heap.size)) (F0 m 127 ls []) := by
                    intro n127
                    induction n127 with
                    | zero => intro v3_127 nu127_ H locs ls hm; exact absurd hm (Nat.not_lt_zero _)
                    | succ n127 ih127 =>
                      intro v3_127 nu127_ H locs ls hm_127 h_v3_127 ok hP kq127_0 hF hS hl
                      rw [L_qm_town_127_2] at hF
                      refine lv_iload_n hx hb dX12_town_127 rfl (lv_at hl 0 rfl) ?_
                      refine lv_iconst (v := 3) hx hb dX12_town_128 (by decide) ?_
                      refine lv_icmp_ge (tgt := 149) hx hb dX12_town_129 (by decide) (fun c_38 => ?_) (fun c_38 => ?_)
                      · have hF := (if_pos c_38).symm.trans hF
                        have c_38 : 3 ≤ v3_127.toInt := il_le c_38
                        refine lv_aload_n hx hb dX12_town_149 rfl (lv_at hl 2 rfl) ?_
                        refine va_get (D := (dC, dI)) (ci := 12) (v := .int (nu127_ 0 8)) (C := RX12) (T := TX12) (N := 46) hx hb hts inG12 hown hK hP 0 (gM_0 cs ad nu127_) rfl 8 (by decide) (hts _ (List.mem_cons_of_mem _ mw_5_49)) (fun _ h9 => h9) rfl dX12_town_150 ?_
                        refine lv_topi (fun y39 ey39 => ?_)
                        have hF := mi_let hF ey39
                        have by39 : y39.toInt = (nu127_ 0 8).toInt := congrArg Int32.toInt ey39
                        have gy39 : 0 ≤ y39.toInt ∧ y39.toInt ≤ 7 := by rw [ey39]; exact rM_0_8 ok
                        exact W.iret (v := y39) hx hb hr (fun t ht hW => ⟨⟨y39, nu127_, rfl, ⟨hF.trans hfz.symm, ok, trivial, kq127_0⟩, by first | (subst ht; exact hP) | (rw [ht]; exact hP) | (show va_P (dC, dI) vwCl (wR 21 ad (EM cs ad) nu127_) t.heap; rw [ht]; exact hP)⟩, hS.F ht⟩) hS.2.2 dX12_town_153
                      · have hF := (if_neg c_38).symm.trans hF
                        have c_38 : v3_127.toInt < 3 := il_nle c_38
                        refine lv_aload_n hx hb dX12_town_132 rfl (lv_at hl 2 rfl) ?_
                        refine va_get (D := (dC, dI)) (ci := 12) (v := .ref (ad 15)) (C := RX12) (T := TX12) (N := 46) hx hb hts inG12 hown hK hP 0 (gM_0 cs ad nu127_) rfl 25 (by decide) (hts _ (List.mem_cons_of_mem _ mw_5_66)) (fun _ h9 => h9) rfl dX12_town_133 ?_
                        refine lv_bipush (v := 64) hx hb dX12_town_136 (by decide) ?_
                        refine lv_iload_n hx hb dX12_town_138 rfl (lv_at hl 0 rfl) ?_
                        refine lv_imul hx hb dX12_town_139 ?_
                        refine lv_topi (fun t40 et40 => ?_)
                        have hF := mi_let hF et40
                        have at40 : t40.toInt = 64 * v3_127.toInt := by rw [et40]; exact tI_mul (rfl : (64 : Int32).toInt = 64) (rfl : v3_127.toInt = _) (by omega) (by omega)
                        refine lv_bipush (v := (-9)) hx hb dX12_town_140 (by decide) ?_
                        refine va_iast hx hb hK hP (wR_D nu127_ hD) hS 15 0 (gM_15 cs ad nu127_) rfl (show vp_in t40 192 from vi_of (by omega) (by omega)) dX12_town_142 (fun H locs hP _ hS => ?_)
                        have hc41 : ((t40 : Int32).toNatClampNeg : Int) = t40.toInt := tC_of (by omega)
                        refine wr_gen (upd (nu127_ 15) t40.toNatClampNeg (-9)) hP (rfl) (fun nu42 hn42 hP => ?_)
                        have hF := mi_let hF hn42.symm
                        have ok := tM_15_s ok t40.toNatClampNeg hn42 (by have h9 : ((-9) : Int32).toInt = -9 := rfl; refine ⟨fun c9 => ?_, fun c9 => ?_, fun c9 => ?_, fun c9 => ?_, fun c9 => ?_⟩ <;> omega)
                        have kp43 : (∀ k f : Nat, Nat.testBit 2 (gpM k f) = true → nu42 k f = mu k f) := kp_c 5 hn42 (fun _ => rfl) (by decide) kq127_0
                        refine lv_iinc (v := (v3_127 + 1)) (lv' := [(3, .int (v3_127 + 1)), (2, .int 0), (0, .ref (ad 0)), (1, .int vt)]) hx hb dX12_town_143 hl (k := 0) rfl rfl (by decide) rfl (fun ls hl => ?_)
                        refine loc_gen (P := fun w9 => lv_has ls 4 [(3, .int w9), (2, .int 0), (0, .ref (ad 0)), (1, .int vt)]) (v3_127 + 1) hl (fun w44 hw44 hl => ?_)
                        have hl : lv_has ls 4 [(3, .int w44), (2, .int 0), (0, .ref (ad 0)), (1, .int vt)] := hl
                        have hF := mi_let hF hw44.symm
                        have aw44 : w44.toInt = v3_127.toInt + 1 := by rw [← hw44]; first | exact va1 (Int.lt_of_le_of_lt h_v3_127.2 (by decide)) | exact va1 (by omega)
                        refine lv_goto (tgt := 127) hx hb dX12_town_146 (by decide) ?_
                        exact ih127 (w44) nu42 _ _ _ (by first | exact ms_up hm_127 aw44 h_v3_127.2 | exact ms_lt hm_127 (by omega) (by omega) | omega) (by first | exact rg_up aw44 h_v3_127 (by omega) | omega)  ok hP  kp43 hF hS (lv_sub hl [0, 1, 2, 3] rfl)
                  exact loop127 6 (0) nu32 _ _ _ (by have h80 : (0 : Int32).toInt = 0 := rfl; omega) (by have h80 : (0 : Int32).toInt = 0 := rfl; exact ⟨by omega, by omega⟩)  ok hP  kp36 hF hS hl
                · have hF := (if_neg c_19).symm.trans hF
                  have c_19 : v3_81.toInt < 24 := il_nle c_19
                  refine lv_aload_n hx hb dX12_town_87 rfl (lv_at hl 2 rfl) ?_
                  refine va_get (D := (dC, dI)) (ci := 12) (v := .ref (ad 9)) (C := RX12) (T := TX12) (N := 46) hx hb hts inG12 hown hK hP 0 (gM_0 cs ad nu81_) rfl 12 (by decide) (hts _ (List.mem_cons_of_mem _ mw_5_53)) (fun _ h9 => h9) rfl dX12_town_88 ?_
                  refine lv_iload_n hx hb dX12_town_91 rfl (lv_at hl 0 rfl) ?_
                  refine lv_aload_n hx hb dX12_town_92 rfl (lv_at hl 2 rfl) ?_
                  refine va_get (D := (dC, dI)) (ci := 12) (v := .ref (ad 13)) (C := RX12) (T := TX12) (N := 46) hx hb hts inG12 hown hK hP 0 (gM_0 cs ad nu81_) rfl 23 (by decide) (hts _ (List.mem_cons_of_mem _ mw_5_64)) (fun _ h9 => h9) rfl dX12_town_93 ?_
                  refine lv_iload_n hx hb dX12_town_96 rfl (lv_at hl 0 rfl) ?_
                  refine va_iald hx hb hK hP 13 0 (gM_13 cs ad nu81_) rfl (show vp_in v3_81 24 from vi_of (by omega) (by omega)) dX12_town_97 ?_
                  refine lv_topi (fun y45 ey45 => ?_)
                  have hF := mi_let hF ey45
                  have by45 : y45.toInt = (nu81_ 13 v3_81.toNatClampNeg).toInt := congrArg Int32.toInt ey45
                  refine va_iast hx hb hK hP (wR_D nu81_ hD) hS 9 0 (gM_9 cs ad nu81_) rfl (show vp_in v3_81 24 from vi_of (by omega) (by omega)) dX12_town_98 (fun H locs hP _ hS => ?_)
                  refine wr_gen (upd (nu81_ 9) v3_81.toNatClampNeg y45) hP (rfl) (fun nu46 hn46 hP => ?_)
                  have hF := mi_let hF hn46.symm
                  have ok := tM_9_s ok v3_81.toNatClampNeg hn46
                  have ez47 : y45 = nu46 13 v3_81.toNatClampNeg := ey45.trans (congrFun (up_k hn46 (by decide)) v3_81.toNatClampNeg).symm
                  have kp48 : (∀ k f : Nat, Nat.testBit 2 (gpM k f) = true → nu46 k f = mu k f) := kp_c 2 hn46 (fun _ => rfl) (by decide) kq81_0
                  refine lv_iinc (v := (v3_81 + 1)) (lv' := [(3, .int (v3_81 + 1)), (2, .int 0), (0, .ref (ad 0)), (1, .int vt)]) hx hb dX12_town_99 hl (k := 0) rfl rfl (by decide) rfl (fun ls hl => ?_)
                  refine loc_gen (P := fun w9 => lv_has ls 4 [(3, .int w9), (2, .int 0), (0, .ref (ad 0)), (1, .int vt)]) (v3_81 + 1) hl (fun w49 hw49 hl => ?_)
                  have hl : lv_has ls 4 [(3, .int w49), (2, .int 0), (0, .ref (ad 0)), (1, .int vt)] := hl
                  have hF := mi_let hF hw49.symm
                  have aw49 : w49.toInt = v3_81.toInt + 1 := by rw [← hw49]; first | exact va1 (Int.lt_of_le_of_lt h_v3_81.2 (by decide)) | exact va1 (by omega)
                  refine lv_goto (tgt := 81) hx hb dX12_town_102 (by decide) ?_
                  exact ih81 (w49) nu46 _ _ _ (by first | exact ms_up hm_81 aw49 h_v3_81.2 | exact ms_lt hm_81 (by omega) (by omega) | omega) (by first | exact rg_up aw49 h_v3_81 (by omega) | omega)  ok hP  kp48 hF hS (lv_sub hl [0, 1, 2, 3] rfl)
            exact loop81 27 (0) nu43_ _ _ _ (by have h80 : (0 : Int32).toInt = 0 := rfl; omega) (by have h80 : (0 : Int32).toInt = 0 := rfl; exact ⟨by omega, by omega⟩)  ok hP  kq43_0 hF hS hl
          · have hF := (if_neg c_18).symm.trans hF
            have c_18 : v3_43.toInt < 7 := il_nle c_18
            refine lv_aload_n hx hb dX12_town_49 rfl (lv_at hl 2 rfl) ?_
            refine va_get (D := (dC, dI)) (ci := 12) (v := .ref (ad 7)) (C := RX12) (T := TX12) (N := 46) hx hb hts inG12 hown hK hP 0 (gM_0 cs ad nu43_) rfl 9 (by decide) (hts _ (List.mem_cons_of_mem _ mw_5_50)) (fun _ h9 => h9) rfl dX12_town_50 ?_
            refine lv_iload_n hx hb dX12_town_53 rfl (lv_at hl 0 rfl) ?_
            refine lv_aload_n hx hb dX12_town_54 rfl (lv_at hl 2 rfl) ?_
            refine va_get (D := (dC, dI)) (ci := 12) (v := .ref (ad 11)) (C := RX12) (T := TX12) (N := 46) hx hb hts inG12 hown hK hP 0 (gM_0 cs ad nu43_) rfl 21 (by decide) (hts _ (List.mem_cons_of_mem _ mw_5_62)) (fun _ h9 => h9) rfl dX12_town_55 ?_
            refine lv_iload_n hx hb dX12_town_58 rfl (lv_at hl 0 rfl) ?_
            refine va_iald hx hb hK hP 11 0 (gM_11 cs ad nu43_) rfl (show vp_in v3_43 7 from vi_of (by omega) (by omega)) dX12_town_59 ?_
            refine lv_topi (fun y50 ey50 => ?_)
            have hF := mi_let hF ey50
            have by50 : y50.toInt = (nu43_ 11 v3_43.toNatClampNeg).toInt := congrArg Int32.toInt ey50
            refine va_iast hx hb hK hP (wR_D nu43_ hD) hS 7 0 (gM_7 cs ad nu43_) rfl (show vp_in v3_43 7 from vi_of (by omega) (by omega)) dX12_town_60 (fun H locs hP _ hS => ?_)
            refine wr_gen (upd (nu43_ 7) v3_43.toNatClampNeg y50) hP (rfl) (fun nu51 hn51 hP => ?_)
            have hF := mi_let hF hn51.symm
            have ok := tM_7_s ok v3_43.toNatClampNeg hn51
            have ez52 : y50 = nu51 11 v3_43.toNatClampNeg := ey50.trans (congrFun (up_k hn51 (by decide)) v3_43.toNatClampNeg).symm
            have kp53 : (∀ k f : Nat, Nat.testBit 2 (gpM k f) = true → nu51 k f = mu k f) := kp_c 2 hn51 (fun _ => rfl) (by decide) kq43_0
            refine lv_aload_n hx hb dX12_town_61 rfl (lv_at hl 2 rfl) ?_
            refine va_get (D := (dC, dI)) (ci := 12) (v := .ref (ad 8)) (C := RX12) (T := TX12) (N := 46) hx hb hts inG12 hown hK hP 0 (gM_0 cs ad nu51) rfl 10 (by decide) (hts _ (List.mem_cons_of_mem _ mw_5_51)) (fun _ h9 => h9) rfl dX12_town_62 ?_
            refine lv_iload_n hx hb dX12_town_65 rfl (lv_at hl 0 rfl) ?_
            refine lv_aload_n hx hb dX12_town_66 rfl (lv_at hl 2 rfl) ?_
            refine va_get (D := (dC, dI)) (ci := 12) (v := .ref (ad 12)) (C := RX12) (T := TX12) (N := 46) hx hb hts inG12 hown hK hP 0 (gM_0 cs ad nu51) rfl 22 (by decide) (hts _ (List.mem_cons_of_mem _ mw_5_63)) (fun _ h9 => h9) rfl dX12_town_67 ?_
            refine lv_iload_n hx hb dX12_town_70 rfl (lv_at hl 0 rfl) ?_
            refine va_iald hx hb hK hP 12 0 (gM_12 cs ad nu51) rfl (show vp_in v3_43 7 from vi_of (by omega) (by omega)) dX12_town_71 ?_
            refine lv_topi (fun y54 ey54 => ?_)
            have hF := mi_let hF ey54
            have by54 : y54.toInt = (nu51 12 v3_43.toNatClampNeg).toInt := congrArg Int32.toInt ey54
            refine va_iast hx hb hK hP (wR_D nu51 hD) hS 8 0 (gM_8 cs ad nu51) rfl (show vp_in v3_43 7 from vi_of (by omega) (by omega)) dX12_town_72 (fun H locs hP _ hS => ?_)
            refine wr_gen (upd (nu51 8) v3_43.toNatClampNeg y54) hP (rfl) (fun nu55 hn55 hP => ?_)
            have hF := mi_let hF hn55.symm
            have ok := tM_8_s ok v3_43.toNatClampNeg hn55
            have ez56 : y50 = nu55 11 v3_43.toNatClampNeg := ez52.trans (congrFun (up_k hn55 (by decide)) v3_43.toNatClampNeg).symm
            have ez57 : y54 = nu55 12 v3_43.toNatClampNeg := ey54.trans (congrFun (up_k hn55 (by decide)) v3_43.toNatClampNeg).symm
            have kp58 : (∀ k f : Nat, Nat.testBit 2 (gpM k f) = true → nu55 k f = mu k f) := kp_c 3 hn55 (fun _ => rfl) (by decide) kp53
            refine lv_iinc (v := (v3_43 + 1)) (lv' := [(3, .int (v3_43 + 1)), (2, .int 0), (0, .ref (ad 0)), (1, .int vt)]) hx hb dX12_town_73 hl (k := 0) rfl rfl (by decide) rfl (fun ls hl => ?_)
            refine loc_gen (P := fun w9 => lv_has ls 4 [(3, .int w9), (2, .int 0), (0, .ref (ad 0)), (1, .int vt)]) (v3_43 + 1) hl (fun w59 hw59 hl => ?_)
            have hl : lv_has ls 4 [(3, .int w59), (2, .int 0), (0, .ref (ad 0)), (1, .int vt)] := hl
            have hF := mi_let hF hw59.symm
            have aw59 : w59.toInt = v3_43.toInt + 1 := by rw [← hw59]; first | exact va1 (Int.lt_of_le_of_lt h_v3_43.2 (by decide)) | exact va1 (by omega)
            refine lv_goto (tgt := 43) hx hb dX12_town_76 (by decide) ?_
            exact ih43 (w59) nu55 _ _ _ (by first | exact ms_up hm_43 aw59 h_v3_43.2 | exact ms_lt hm_43 (by omega) (by omega) | omega) (by first | exact rg_up aw59 h_v3_43 (by omega) | omega)  ok hP  kp58 hF hS (lv_sub hl [0, 1, 2, 3] rfl)
      exact loop43 10 (0) nu12 _ _ _ (by have h80 : (0 : Int32).toInt = 0 := rfl; omega) (by have h80 : (0 : Int32).toInt = 0 := rfl; exact ⟨by omega, by omega⟩)  ok hP  kp16 hF hS hl
    · have hF := (if_neg c_5).symm.trans hF
      have c_5 : ¬ r3.toInt = -9 := il_ne c_5
      refine lv_bipush (v := (-4)) hx hb dX12_town_22 (by decide) ?_
      exact W.iret (v := (-4)) hx hb hr (fun t ht hW => ⟨⟨(-4), xi3, rfl, ⟨hF.trans hfz.symm, ok, trivial, kp4⟩, by first | (subst ht; exact hP) | (rw [ht]; exact hP) | (show va_P (dC, dI) vwCl (wR 21 ad (EM cs ad) xi3) t.heap; rw [ht]; exact hP)⟩, hS.F ht⟩) hS.2.2 dX12_town_24
  · have hF := (if_neg (show ¬ r1 = 0 from fun h => by have h9 := congrArg Int32.toInt h; have h8 : (0 : Int32).toInt = 0 := rfl; omega)).symm.trans hF
    have kp2 : (∀ k f : Nat, Nat.testBit 2 (gpM k f) = true → xi1 k f = mu k f) := kp_t hkp1_0 (by decide) (fun _ _ _ => rfl)
    skip
    refine lv_istore_n (lv' := [(2, .int r1), (0, .ref (ad 0)), (1, .int vt)]) hx hb dX12_town_5 rfl hl (by decide) rfl (fun ls hl => ?_)
    refine lv_iload_n hx hb dX12_town_6 rfl (lv_at hl 0 rfl) ?_
    refine lv_if_ge (tgt := 12) hx hb dX12_town_7 (by decide) (fun c_60 => by have c_60 : 0 ≤ r1.toInt := il_le c_60; exfalso; omega) (fun c_60 => ?_)
    have c_60 : r1.toInt < 0 := il_nle c_60
    refine lv_iload_n hx hb dX12_town_10 rfl (lv_at hl 0 rfl) ?_
    exact W.iret (v := r1) hx hb hr (fun t ht hW => ⟨⟨r1, xi1, rfl, ⟨hF.trans hfz.symm, ok, trivial, kp2⟩, by first | (subst ht; exact hP) | (rw [ht]; exact hP) | (show va_P (dC, dI) vwCl (wR 21 ad (EM cs ad) xi1) t.heap; rw [ht]; exact hP)⟩, hS.F ht⟩) hS.2.2 dX12_town_11
theorem okR_one {lo hi : Nat → Nat → Int} {mu nu : Nat → Nat → Int32} (h : okR lo hi mu) {k f k1 f1 : Nat} {v : Int32} (hv : v = mu k1 f1) (hb : lo k f ≤ lo k1 f1 ∧ hi k1 f1 ≤ hi k f) (hn : va_up mu k (upd (mu k) f v) = nu) : okR lo hi nu := by
  subst hn
  have h1 := h k1 f1
  rw [← hv] at h1
  exact okR_up h k f v (by omega) (by omega)
theorem kp_in : ∀ k, k < 3 → ∀ j, j < 40 → loM 15 (64 * k + 10 + j) ≤ loM 10 j ∧ hiM 10 j ≤ hiM 15 (64 * k + 10 + j) := by decide +kernel
theorem kp_out : ∀ k, k < 3 → ∀ j, j < 40 → loM 10 j ≤ loM 15 (64 * k + 10 + j) ∧ hiM 15 (64 * k + 10 + j) ≤ hiM 10 j := by decide +kernel
theorem mw_6_40 : (Cond.code yX12_isOne cX12_isOne 2 (some .boolean) : Cond) ∈ lw_good := lg_at 6 40 rfl rfl
theorem mw_6_37 : (Cond.methodLink RX12 154 yX12_isOne : Cond) ∈ lw_good := lg_at 6 37 rfl rfl
theorem mw_6_39 : (Cond.instanceMethod yX12_isOne : Cond) ∈ lw_good := lg_at 6 39 rfl rfl
theorem mw_0_36 : (Cond.selects RX12 yX12_isOne yX12_isOne : Cond) ∈ lw_good := lg_at 0 36 rfl rfl
theorem mw_6_59 : (Cond.code yX12_has cX12_has 2 (some .boolean) : Cond) ∈ lw_good := lg_at 6 59 rfl rfl
theorem mw_6_57 : (Cond.methodLink RX12 157 yX12_has : Cond) ∈ lw_good := lg_at 6 57 rfl rfl
theorem mw_6_58 : (Cond.static yX12_has : Cond) ∈ lw_good := lg_at 6 58 rfl rfl
theorem mw_5_57 : (Cond.fieldLink RX12 37 "DearLettersModel" "letters" "[I" : Cond) ∈ lw_good := lg_at 5 57 rfl rfl
theorem mw_6_48 : (Cond.code yX12_letterOf cX12_letterOf 3 (some .int) : Cond) ∈ lw_good := lg_at 6 48 rfl rfl
theorem mw_6_45 : (Cond.methodLink RX12 161 yX12_letterOf : Cond) ∈ lw_good := lg_at 6 45 rfl rfl
theorem mw_6_47 : (Cond.instanceMethod yX12_letterOf : Cond) ∈ lw_good := lg_at 6 47 rfl rfl
theorem mw_0_38 : (Cond.selects RX12 yX12_letterOf yX12_letterOf : Cond) ∈ lw_good := lg_at 0 38 rfl rfl
theorem mw_6_56 : (Cond.code yX12_besideOf cX12_besideOf 6 (some .int) : Cond) ∈ lw_good := lg_at 6 56 rfl rfl
theorem mw_6_53 : (Cond.methodLink RX12 167 yX12_besideOf : Cond) ∈ lw_good := lg_at 6 53 rfl rfl
theorem mw_6_55 : (Cond.instanceMethod yX12_besideOf : Cond) ∈ lw_good := lg_at 6 55 rfl rfl
theorem mw_0_40 : (Cond.selects RX12 yX12_besideOf yX12_besideOf : Cond) ∈ lw_good := lg_at 0 40 rfl rfl
theorem mw_6_62 : (Cond.code yX12_sizeOf cX12_sizeOf 3 (some .int) : Cond) ∈ lw_good := lg_at 6 62 rfl rfl
theorem mw_6_60 : (Cond.methodLink RX12 170 yX12_sizeOf : Cond) ∈ lw_good := lg_at 6 60 rfl rfl
theorem mw_6_61 : (Cond.static yX12_sizeOf : Cond) ∈ lw_good := lg_at 6 61 rfl rfl
theorem mw_6_52 : (Cond.code yX12_isRead cX12_isRead 2 (some .boolean) : Cond) ∈ lw_good := lg_at 6 52 rfl rfl
theorem mw_6_49 : (Cond.methodLink RX12 164 yX12_isRead : Cond) ∈ lw_good := lg_at 6 49 rfl rfl
theorem mw_6_51 : (Cond.instanceMethod yX12_isRead : Cond) ∈ lw_good := lg_at 6 51 rfl rfl
theorem mw_0_39 : (Cond.selects RX12 yX12_isRead yX12_isRead : Cond) ∈ lw_good := lg_at 0 39 rfl rfl
