set_option maxHeartbeats 4000000 in
set_option maxRecDepth 100000 in
/-- sm_here -/
theorem sm_here (l : Launch) (dC : Nat → ClassId) (dI : Nat → Nat → Nat) (cs : Nat → ClassId) (ad : Nat → Nat) (mu : Nat → Nat → Int32) (ok : okR loM hiM mu) (H : Heap) (hP : va_P (dC, dI) vwCl (wR 21 ad (EM cs ad) mu) H) (vt : Int32) (hin0 : 0 ≤ vt.toInt ∧ vt.toInt ≤ 3) : Met l yX12_here (wU yX12_here cX12_here 2 (some .int)) ({ frames := 0, cells := 0, slots := 0, locals := 0 }) (va_Pc [.ref (ad 0), .int vt] (sz_P (dC, dI) vwCl (tyM cs) H)) (va_Qi (fun (z : Int32) (_ : Unit) => z.toInt = -9 ∨ (mu 0 18).toInt < 80) (fun _ t => t.heap = H) (fun _ => False)) 0 0 (fun _ => False) := by
  refine Met.ofW (cc := cX12_here) (maxL := 2) (ret := (some .int)) (by decide) rfl ?_
  intro p e s m args below meth c s₁ B hml hv
  obtain ⟨rfl, hh, hK, hz⟩ := hv
  have hx := B.exec
  have hb := B.bytes
  have hr := B.returns
  have hts := atoms_spec (ws := (wU yX12_here cX12_here 2 (some .int))) B.pre
  have hown : s.vm.findClass RX12 = some m.cls := findClass_of_methodNamed B.named
  have hlocks := B.notSynchronized
  subst hh
  have hS : va_S (fun _ => False) s.heap s.heap [] := va_S.rf
  have hl := lv_entry ([.ref (ad 0), .int vt]) (n := 2) (Nat.le_of_ble_eq_true rfl)
  rw [lg_entry_eq]
  generalize (lg_sl ([.ref (ad 0), .int vt]) ++ List.replicate (2 - (lg_sl ([.ref (ad 0), .int vt])).length) Slot.unset).toArray = ls at hl ⊢
  have hl : lv_has ls 2 [(0, .ref (ad 0)), (1, .int vt)] := hl
  refine lv_aload_n hx hb dX12_here_0 rfl (lv_at hl 0 rfl) ?_
  refine va_get (D := (dC, dI)) (ci := 12) (v := .int (mu 0 18)) (C := RX12) (T := TX12) (N := 46) hx hb hts inG12 hown hK hP 0 (gM_0 cs ad mu) rfl 18 (by decide) (hts _ (List.mem_cons_of_mem _ mw_5_59)) (fun _ h9 => h9) rfl dX12_here_1 ?_
  refine lv_topi (fun y1 ey1 => ?_)
  have by1 : y1.toInt = (mu 0 18).toInt := congrArg Int32.toInt ey1
  have gy1 : 0 ≤ y1.toInt ∧ y1.toInt ≤ 90 := by rw [ey1]; exact rM_0_18 ok
  refine lv_aload_n hx hb dX12_here_4 rfl (lv_at hl 0 rfl) ?_
  refine va_get (D := (dC, dI)) (ci := 12) (v := .ref (ad 5)) (C := RX12) (T := TX12) (N := 46) hx hb hts inG12 hown hK hP 0 (gM_0 cs ad mu) rfl 6 (by decide) (hts _ (List.mem_cons_of_mem _ mw_5_47)) (fun _ h9 => h9) rfl dX12_here_5 ?_
  refine lv_iload_n hx hb dX12_here_8 rfl (lv_at hl 1 rfl) ?_
  refine va_iald hx hb hK hP 5 0 (gM_5 cs ad mu) rfl (show vp_in vt 4 from vi_of (by omega) (by omega)) dX12_here_9 ?_
  refine lv_topi (fun y2 ey2 => ?_)
  have by2 : y2.toInt = (mu 5 vt.toNatClampNeg).toInt := congrArg Int32.toInt ey2
  have gy2 : -9 ≤ y2.toInt ∧ y2.toInt ≤ 80 := by rw [ey2]; exact rM_5_s ok vt.toNatClampNeg
  refine lv_icmp_ge (tgt := 30) hx hb dX12_here_10 (by decide) (fun c_3 => ?_) (fun c_3 => ?_)
  · have c_3 : y2.toInt ≤ y1.toInt := il_le c_3
    refine lv_bipush (v := (-9)) hx hb dX12_here_30 (by decide) ?_
    exact W.iret (v := (-9)) hx hb hr (fun t ht hW => ⟨⟨(-9), (), rfl, (by have hb4 := congrArg Int32.toInt ey1; have h6 : ((-9) : Int32).toInt = -9 := rfl; omega), ht⟩, hS.F ht⟩) hS.2.2 dX12_here_32
  · have c_3 : y1.toInt < y2.toInt := il_nle c_3
    refine lv_aload_n hx hb dX12_here_13 rfl (lv_at hl 0 rfl) ?_
    refine va_get (D := (dC, dI)) (ci := 12) (v := .ref (ad 6)) (C := RX12) (T := TX12) (N := 46) hx hb hts inG12 hown hK hP 0 (gM_0 cs ad mu) rfl 7 (by decide) (hts _ (List.mem_cons_of_mem _ mw_5_48)) (fun _ h9 => h9) rfl dX12_here_14 ?_
    refine lv_bipush (v := 80) hx hb dX12_here_17 (by decide) ?_
    refine lv_iload_n hx hb dX12_here_19 rfl (lv_at hl 1 rfl) ?_
    refine lv_imul hx hb dX12_here_20 ?_
    refine lv_topi (fun t5 et5 => ?_)
    have at5 : t5.toInt = 80 * vt.toInt := by rw [et5]; exact tI_mul (rfl : (80 : Int32).toInt = 80) (rfl : vt.toInt = _) (by omega) (by omega)
    refine lv_aload_n hx hb dX12_here_21 rfl (lv_at hl 0 rfl) ?_
    refine va_get (D := (dC, dI)) (ci := 12) (v := .int (mu 0 18)) (C := RX12) (T := TX12) (N := 46) hx hb hts inG12 hown hK hP 0 (gM_0 cs ad mu) rfl 18 (by decide) (hts _ (List.mem_cons_of_mem _ mw_5_59)) (fun _ h9 => h9) rfl dX12_here_22 ?_
    refine lq_i y1 ey1.symm ?_
    refine lv_iadd hx hb dX12_here_25 ?_
    refine lv_topi (fun t6 et6 => ?_)
    have at6 : t6.toInt = t5.toInt + y1.toInt := by rw [et6]; exact tI_add (rfl : t5.toInt = _) (rfl : y1.toInt = _) (by omega) (by omega)
    refine va_iald hx hb hK hP 6 0 (gM_6 cs ad mu) rfl (show vp_in t6 320 from vi_of (by omega) (by omega)) dX12_here_26 ?_
    refine lv_topi (fun y7 ey7 => ?_)
    have by7 : y7.toInt = (mu 6 t6.toNatClampNeg).toInt := congrArg Int32.toInt ey7
    refine lv_goto (tgt := 32) hx hb dX12_here_27 (by decide) ?_
    exact W.iret (v := y7) hx hb hr (fun t ht hW => ⟨⟨y7, (), rfl, (by have hb8 := congrArg Int32.toInt ey1; omega), ht⟩, hS.F ht⟩) hS.2.2 dX12_here_32
set_option maxHeartbeats 4000000 in
set_option maxRecDepth 100000 in
/-- sm_kindOf -/
theorem sm_kindOf (l : Launch) (dC : Nat → ClassId) (dI : Nat → Nat → Nat) (tys : List (ClassId × FieldType)) (H : Heap) (va : Int32) : Met l yX12_kindOf (wU yX12_kindOf cX12_kindOf 1 (some .int)) ({ frames := 0, cells := 0, slots := 0, locals := 0 }) (va_Pc [.int va] (sz_P (dC, dI) vwCl tys H)) (va_Qi (fun (z : Int32) (_ : Unit) => (z.toInt = -9 ∨ ¬ va.toInt = -9) ∧ -9 ≤ z.toInt ∧ z.toInt ≤ 5) (fun _ t => t.heap = H) (fun _ => False)) 0 0 (fun _ => False) := by
  refine Met.ofW (cc := cX12_kindOf) (maxL := 1) (ret := (some .int)) (by decide) rfl ?_
  intro p e s m args below meth c s₁ B hml hv
  obtain ⟨rfl, hh, hK, hz⟩ := hv
  have hx := B.exec
  have hb := B.bytes
  have hr := B.returns
  have hts := atoms_spec (ws := (wU yX12_kindOf cX12_kindOf 1 (some .int))) B.pre
  have hown : s.vm.findClass RX12 = some m.cls := findClass_of_methodNamed B.named
  have hlocks := B.notSynchronized
  subst hh
  have hS : va_S (fun _ => False) s.heap s.heap [] := va_S.rf
  have hl := lv_entry ([.int va]) (n := 1) (Nat.le_of_ble_eq_true rfl)
  rw [lg_entry_eq]
  generalize (lg_sl ([.int va]) ++ List.replicate (1 - (lg_sl ([.int va])).length) Slot.unset).toArray = ls at hl ⊢
  have hl : lv_has ls 1 [(0, .int va)] := hl
  refine lv_iload_n hx hb dX12_kindOf_0 rfl (lv_at hl 0 rfl) ?_
  refine lv_bipush (v := 98) hx hb dX12_kindOf_1 (by decide) ?_
  refine lv_icmp_ne (tgt := 10) hx hb dX12_kindOf_3 (by decide) (fun c_1 => ?_) (fun c_1 => ?_)
  · have c_1 : ¬ va.toInt = 98 := il_ne c_1
    refine lv_iload_n hx hb dX12_kindOf_10 rfl (lv_at hl 0 rfl) ?_
    refine lv_bipush (v := 109) hx hb dX12_kindOf_11 (by decide) ?_
    refine lv_icmp_ne (tgt := 20) hx hb dX12_kindOf_13 (by decide) (fun c_2 => ?_) (fun c_2 => ?_)
    · have c_2 : ¬ va.toInt = 109 := il_ne c_2
      refine lv_iload_n hx hb dX12_kindOf_20 rfl (lv_at hl 0 rfl) ?_
      refine lv_bipush (v := 102) hx hb dX12_kindOf_21 (by decide) ?_
      refine lv_icmp_ne (tgt := 30) hx hb dX12_kindOf_23 (by decide) (fun c_3 => ?_) (fun c_3 => ?_)
      · have c_3 : ¬ va.toInt = 102 := il_ne c_3
        refine lv_iload_n hx hb dX12_kindOf_30 rfl (lv_at hl 0 rfl) ?_
        refine lv_bipush (v := 114) hx hb dX12_kindOf_31 (by decide) ?_
        refine lv_icmp_ne (tgt := 40) hx hb dX12_kindOf_33 (by decide) (fun c_4 => ?_) (fun c_4 => ?_)
        · have c_4 : ¬ va.toInt = 114 := il_ne c_4
          refine lv_iload_n hx hb dX12_kindOf_40 rfl (lv_at hl 0 rfl) ?_
          refine lv_bipush (v := 117) hx hb dX12_kindOf_41 (by decide) ?_
          refine lv_icmp_ne (tgt := 50) hx hb dX12_kindOf_43 (by decide) (fun c_5 => ?_) (fun c_5 => ?_)
          · have c_5 : ¬ va.toInt = 117 := il_ne c_5
            refine lv_iload_n hx hb dX12_kindOf_50 rfl (lv_at hl 0 rfl) ?_
            refine lv_bipush (v := 115) hx hb dX12_kindOf_51 (by decide) ?_
            refine lv_icmp_ne (tgt := 60) hx hb dX12_kindOf_53 (by decide) (fun c_6 => ?_) (fun c_6 => ?_)
            · have c_6 : ¬ va.toInt = 115 := il_ne c_6
              refine lv_bipush (v := (-9)) hx hb dX12_kindOf_60 (by decide) ?_
              exact W.iret (v := (-9)) hx hb hr (fun t ht hW => ⟨⟨(-9), (), rfl, (by have h6 : ((-9) : Int32).toInt = -9 := rfl; omega), ht⟩, hS.F ht⟩) hS.2.2 dX12_kindOf_62
            · have c_6 : va.toInt = 115 := il_eq c_6
              refine lv_iconst (v := 5) hx hb dX12_kindOf_56 (by decide) ?_
              refine lv_goto (tgt := 62) hx hb dX12_kindOf_57 (by decide) ?_
              exact W.iret (v := 5) hx hb hr (fun t ht hW => ⟨⟨5, (), rfl, (by have h6 : (5 : Int32).toInt = 5 := rfl; omega), ht⟩, hS.F ht⟩) hS.2.2 dX12_kindOf_62
          · have c_5 : va.toInt = 117 := il_eq c_5
            refine lv_iconst (v := 4) hx hb dX12_kindOf_46 (by decide) ?_
            refine lv_goto (tgt := 62) hx hb dX12_kindOf_47 (by decide) ?_
            exact W.iret (v := 4) hx hb hr (fun t ht hW => ⟨⟨4, (), rfl, (by have h6 : (4 : Int32).toInt = 4 := rfl; omega), ht⟩, hS.F ht⟩) hS.2.2 dX12_kindOf_62
        · have c_4 : va.toInt = 114 := il_eq c_4
          refine lv_iconst (v := 3) hx hb dX12_kindOf_36 (by decide) ?_
          refine lv_goto (tgt := 62) hx hb dX12_kindOf_37 (by decide) ?_
          exact W.iret (v := 3) hx hb hr (fun t ht hW => ⟨⟨3, (), rfl, (by have h6 : (3 : Int32).toInt = 3 := rfl; omega), ht⟩, hS.F ht⟩) hS.2.2 dX12_kindOf_62
      · have c_3 : va.toInt = 102 := il_eq c_3
        refine lv_iconst (v := 2) hx hb dX12_kindOf_26 (by decide) ?_
        refine lv_goto (tgt := 62) hx hb dX12_kindOf_27 (by decide) ?_
        exact W.iret (v := 2) hx hb hr (fun t ht hW => ⟨⟨2, (), rfl, (by have h6 : (2 : Int32).toInt = 2 := rfl; omega), ht⟩, hS.F ht⟩) hS.2.2 dX12_kindOf_62
    · have c_2 : va.toInt = 109 := il_eq c_2
      refine lv_iconst (v := 1) hx hb dX12_kindOf_16 (by decide) ?_
      refine lv_goto (tgt := 62) hx hb dX12_kindOf_17 (by decide) ?_
      exact W.iret (v := 1) hx hb hr (fun t ht hW => ⟨⟨1, (), rfl, (by have h6 : (1 : Int32).toInt = 1 := rfl; omega), ht⟩, hS.F ht⟩) hS.2.2 dX12_kindOf_62
  · have c_1 : va.toInt = 98 := il_eq c_1
    refine lv_iconst (v := 0) hx hb dX12_kindOf_6 (by decide) ?_
    refine lv_goto (tgt := 62) hx hb dX12_kindOf_7 (by decide) ?_
    exact W.iret (v := 0) hx hb hr (fun t ht hW => ⟨⟨0, (), rfl, (by have h6 : (0 : Int32).toInt = 0 := rfl; omega), ht⟩, hS.F ht⟩) hS.2.2 dX12_kindOf_62
set_option maxHeartbeats 4000000 in
set_option maxRecDepth 100000 in
/-- sm_readsBearer -/
theorem sm_readsBearer (l : Launch) (dC : Nat → ClassId) (dI : Nat → Nat → Nat) (cs : Nat → ClassId) (ad : Nat → Nat) (mu : Nat → Nat → Int32) (ok : okR loM hiM mu) (H : Heap) (hP : va_P (dC, dI) vwCl (wR 21 ad (EM cs ad) mu) H) (hD0 : va_D (fun _ => True) (wR 21 ad (EM cs ad) mu)) (vt : Int32) (hin0 : 0 ≤ vt.toInt ∧ vt.toInt ≤ 3) (hin1 : (mu 0 18).toInt < 80) : Met l yX12_readsBearer (wU yX12_readsBearer cX12_readsBearer 5 (some .boolean)) ({ frames := 1, cells := 0, slots := 0, locals := 22 }) (va_Pc [.ref (ad 0), .int vt] (sz_P (dC, dI) vwCl (tyM cs) H)) (va_Qi (fun (z : Int32) (xi : Nat → Nat → Int32) => okR loM hiM xi ∧ ((z.toInt = 0 ∨ (mu 0 18).toInt < (xi 0 18).toInt) ∧ 0 ≤ z.toInt ∧ z.toInt ≤ 1) ∧ (∀ k : Nat, 5 ≤ k → k < 7 → xi k = mu k)) (fun xi t => va_P (dC, dI) vwCl (wR 21 ad (EM cs ad) xi) t.heap) (va_A (wR 21 ad (EM cs ad) mu) H.size)) 0 0 (va_A (wR 21 ad (EM cs ad) mu) H.size) := by
  refine Met.ofW (cc := cX12_readsBearer) (maxL := 5) (ret := (some .boolean)) (by decide) rfl ?_
  intro p e s m args below meth c s₁ B hml hv
  obtain ⟨rfl, hh, hK, hz⟩ := hv
  have hx := B.exec
  have hb := B.bytes
  have hr := B.returns
  have hts := atoms_spec (ws := (wU yX12_readsBearer cX12_readsBearer 5 (some .boolean))) B.pre
  have hown : s.vm.findClass RX12 = some m.cls := findClass_of_methodNamed B.named
  have hlocks := B.notSynchronized
  subst hh
  have hD := hD0.self (sz := s.heap.size)
  have hA : ∀ q : Nat, s.heap.size ≤ q → (va_A (wR 21 ad (EM cs ad) mu) s.heap.size) q := fun q h => Or.inr h
  have hS : va_S (va_A (wR 21 ad (EM cs ad) mu) s.heap.size) s.heap s.heap [] := va_S.rf
  have hl := lv_entry ([.ref (ad 0), .int vt]) (n := 5) (Nat.le_of_ble_eq_true rfl)
  rw [lg_entry_eq]
  generalize (lg_sl ([.ref (ad 0), .int vt]) ++ List.replicate (5 - (lg_sl ([.ref (ad 0), .int vt])).length) Slot.unset).toArray = ls at hl ⊢
  have hl : lv_has ls 5 [(0, .ref (ad 0)), (1, .int vt)] := hl
  obtain ⟨y1, ey1⟩ : ∃ z : Int32, z = mu 0 18 := ⟨_, rfl⟩
  have by1 : y1.toInt = (mu 0 18).toInt := congrArg Int32.toInt ey1
  have gy1 : 0 ≤ y1.toInt ∧ y1.toInt ≤ 90 := by rw [ey1]; exact rM_0_18 ok
  obtain ⟨y2, ey2⟩ : ∃ z : Int32, z = mu 0 19 := ⟨_, rfl⟩
  have by2 : y2.toInt = (mu 0 19).toInt := congrArg Int32.toInt ey2
  have gy2 : 0 ≤ y2.toInt ∧ y2.toInt ≤ 7 := by rw [ey2]; exact rM_0_19 ok
  refine lv_aload_n hx hb dX12_readsBearer_0 rfl (lv_at hl 0 rfl) ?_
  refine lv_iload_n hx hb dX12_readsBearer_1 rfl (lv_at hl 1 rfl) ?_
  refine cr_i (va_runV (As := [.int vt]) (rest := []) ⟨hx, hb, hml, hown, hts⟩ (sm_here l dC dI cs ad mu ok s.heap hP vt (by omega)) (cwV 1 hts (wU_V mw_6_17 mw_6_14 mw_6_16 mw_0_33 mw_1_13) rfl rfl rfl (by decide +kernel) ⟨Nat.le_of_ble_eq_true rfl, Nat.le_of_ble_eq_true rfl⟩) ⟨sz_c, va_recv hK hP (ci := 12) (q0 := 0) rfl (gM_0 cs ad mu), sz_m hK hz⟩ rfl rfl hl.1 rfl (lv_room (Nat.le_of_ble_eq_true rfl)) dX12_readsBearer_2 ⟨Nat.zero_le _, Nat.zero_le _⟩) hS (fun r3 hw3 locs hS => ?_)
  have gr3 : r3.toInt = -9 ∨ (mu 0 18).toInt < 80 := hw3
  refine cr_i (va_runS (As := [.int r3]) (rest := []) ⟨hx, hb, hml, hown, hts⟩ (sm_kindOf l dC dI (tyM cs) s.heap r3) (va_cwS 1 hts (wU_S mw_6_28 mw_6_26 mw_6_27 mw_1_13) rfl rfl rfl (by decide +kernel) ⟨Nat.le_of_ble_eq_true rfl, Nat.le_of_ble_eq_true rfl⟩) ⟨sz_c, sz_m hK hz⟩ rfl rfl hl.1 rfl (lv_room (Nat.le_of_ble_eq_true rfl)) dX12_readsBearer_5 ⟨Nat.zero_le _, Nat.zero_le _⟩) hS (fun r4 hw4 locs hS => ?_)
  have gr4 : (r4.toInt = -9 ∨ ¬ r3.toInt = -9) ∧ -9 ≤ r4.toInt ∧ r4.toInt ≤ 5 := hw4
  refine lv_istore_n (lv' := [(2, .int r4), (0, .ref (ad 0)), (1, .int vt)]) hx hb dX12_readsBearer_8 rfl hl (by decide) rfl (fun ls hl => ?_)
  refine lv_iload_n hx hb dX12_readsBearer_9 rfl (lv_at hl 0 rfl) ?_
  refine lv_bipush (v := (-9)) hx hb dX12_readsBearer_10 (by decide) ?_
  refine lv_icmp_eq (tgt := 31) hx hb dX12_readsBearer_12 (by decide) (fun c_5 => ?_) (fun c_5 => ?_)
  · have c_5 : r4.toInt = -9 := il_eq c_5
    refine lv_iconst (v := 0) hx hb dX12_readsBearer_31 (by decide) ?_
    exact W.zret (v := 0) (ty := .boolean) hx hb hr (by first | rfl | decide) (fun t ht hW => ⟨⟨0, mu, rfl, ⟨ok, (by have hb6 := congrArg Int32.toInt ey1; have h6 : (0 : Int32).toInt = 0 := rfl; omega), (fun _ _ _ => rfl)⟩, by first | (subst ht; exact hP) | (rw [ht]; exact hP) | (show va_P (dC, dI) vwCl (wR 21 ad (EM cs ad) mu) t.heap; rw [ht]; exact hP)⟩, hS.F ht⟩) hS.2.2 dX12_readsBearer_32
  · have c_5 : ¬ r4.toInt = -9 := il_ne c_5
    refine lv_aload_n hx hb dX12_readsBearer_15 rfl (lv_at hl 1 rfl) ?_
    refine va_get (D := (dC, dI)) (ci := 12) (v := .int (mu 0 20)) (C := RX12) (T := TX12) (N := 46) hx hb hts inG12 hown hK hP 0 (gM_0 cs ad mu) rfl 20 (by decide) (hts _ (List.mem_cons_of_mem _ mw_5_61)) (fun _ h9 => h9) rfl dX12_readsBearer_16 ?_
    refine lv_topi (fun y7 ey7 => ?_)
    have by7 : y7.toInt = (mu 0 20).toInt := congrArg Int32.toInt ey7
    have gy7 : 0 ≤ y7.toInt ∧ y7.toInt ≤ 12 := by rw [ey7]; exact rM_0_20 ok
    refine lv_if_gt (tgt := 31) hx hb dX12_readsBearer_19 (by decide) (fun c_8 => ?_) (fun c_8 => ?_)
    · have c_8 : 0 < y7.toInt := il_lt c_8
      refine lv_iconst (v := 0) hx hb dX12_readsBearer_31 (by decide) ?_
      exact W.zret (v := 0) (ty := .boolean) hx hb hr (by first | rfl | decide) (fun t ht hW => ⟨⟨0, mu, rfl, ⟨ok, (by have hb9 := congrArg Int32.toInt ey1; have h6 : (0 : Int32).toInt = 0 := rfl; omega), (fun _ _ _ => rfl)⟩, by first | (subst ht; exact hP) | (rw [ht]; exact hP) | (show va_P (dC, dI) vwCl (wR 21 ad (EM cs ad) mu) t.heap; rw [ht]; exact hP)⟩, hS.F ht⟩) hS.2.2 dX12_readsBearer_32
    · have c_8 : y7.toInt ≤ 0 := il_nlt c_8
      refine lv_aload_n hx hb dX12_readsBearer_22 rfl (lv_at hl 1 rfl) ?_
      refine va_get (D := (dC, dI)) (ci := 12) (v := .int (mu 0 19)) (C := RX12) (T := TX12) (N := 46) hx hb hts inG12 hown hK hP 0 (gM_0 cs ad mu) rfl 19 (by decide) (hts _ (List.mem_cons_of_mem _ mw_5_60)) (fun _ h9 => h9) rfl dX12_readsBearer_23 ?_
      refine lq_i y2 ey2.symm ?_
      refine lv_bipush (v := 7) hx hb dX12_readsBearer_26 (by decide) ?_
      refine lv_icmp_ne (tgt := 33) hx hb dX12_readsBearer_28 (by decide) (fun c_10 => ?_) (fun c_10 => ?_)
      · have c_10 : ¬ y2.toInt = 7 := il_ne c_10
        refine lv_aload_n hx hb dX12_readsBearer_33 rfl (lv_at hl 1 rfl) ?_
        refine lv_dup hx hb dX12_readsBearer_34 rfl ?_
        refine va_get (D := (dC, dI)) (ci := 12) (v := .int (mu 0 18)) (C := RX12) (T := TX12) (N := 46) hx hb hts inG12 hown hK hP 0 (gM_0 cs ad mu) rfl 18 (by decide) (hts _ (List.mem_cons_of_mem _ mw_5_59)) (fun _ h9 => h9) rfl dX12_readsBearer_35 ?_
        refine lq_i y1 ey1.symm ?_
        refine lv_iconst (v := 1) hx hb dX12_readsBearer_38 (by decide) ?_
        refine lv_iadd hx hb dX12_readsBearer_39 ?_
        refine lv_topi (fun t11 et11 => ?_)
        have at11 : t11.toInt = y1.toInt + 1 := by rw [et11]; exact tI_add (rfl : y1.toInt = _) (rfl : (1 : Int32).toInt = 1) (by omega) (by omega)
        refine va_put (D := (dC, dI)) (ci := 12) (v := .int t11) (ty := .int) (C := RX12) (T := TX12) (N := 46) hx hb hts inG12 tyX12 tyX12_ok nmX12 hown hK hP (wR_D mu hD) hS 0 (gM_0 cs ad mu) rfl 18 (by decide) (hts _ (List.mem_cons_of_mem _ mw_5_59)) (fun _ h9 => h9) rfl (by decide +kernel) rfl rfl (Nat.le_of_ble_eq_true rfl) dX12_readsBearer_40 (fun H locs hP _ hS => ?_)
        simp only [List.set_cons_succ, List.set_cons_zero] at hP
        refine wr_gen (upd (mu 0) 18 t11) hP ((hM_0_18 cs ad _ _)) (fun nu12 hn12 hP => ?_)
        have ok := tM_0_18 ok hn12 (by exact ⟨by omega, by omega⟩)
        have ez13 : y2 = nu12 0 19 := ey2.trans (up_f hn12 (by decide)).symm
        have ez14 : y7 = nu12 0 20 := ey7.trans (up_f hn12 (by decide)).symm
        have kp15 : ∀ k : Nat, 5 ≤ k → k < 7 → nu12 k = mu k := fun k h1 h2 => (up_k hn12 (ne_lo (by decide) h1).symm).trans ((fun _ _ _ => rfl) k h1 h2)
        have ez16 : t11 = nu12 0 18 := up_v hn12
        refine lv_iconst (v := 0) hx hb dX12_readsBearer_43 (by decide) ?_
        refine lv_istore_n (lv' := [(3, .int 0), (2, .int r4), (0, .ref (ad 0)), (1, .int vt)]) hx hb dX12_readsBearer_44 rfl hl (by decide) rfl (fun ls hl => ?_)
        refine lv_iconst (v := 0) hx hb dX12_readsBearer_45 (by decide) ?_
        refine lv_istore (lv' := [(4, .int 0), (3, .int 0), (2, .int r4), (0, .ref (ad 0)), (1, .int vt)]) hx hb dX12_readsBearer_46 hl (by decide) rfl (fun ls hl => ?_)
        have loop48 : ∀ (n48 : Nat) (v3_48 : Int32) (v4_48 : Int32) (nu48_ : Nat → Nat → Int32) (H : Heap) (locs : List Loc) (ls : Array Slot), (2 + 1 - v4_48.toInt).toNat < n48 → (0 ≤ v4_48.toInt ∧ v4_48.toInt ≤ 2) → ((mu 0 18).toInt < (nu48_ 0 18).toInt) → ((nu48_ 0 19).toInt ≤ 6) → okR loM hiM nu48_ → va_P (dC, dI) vwCl (wR 21 ad (EM cs ad) nu48_) H → (∀ k : Nat, 5 ≤ k → k < 7 → nu48_ k = mu k) → va_S (va_A (wR 21 ad (EM cs ad) mu) s.heap.size) s.heap H locs → lv_has ls 5 [(4, .int v4_48), (3, .int v3_48), (2, .int r4), (0, .ref (ad 0)), (1, .int vt)] → W p l e (headSpec (wU yX12_readsBearer cX12_readsBearer 5 (some .boolean)) ({ frames := 1, cells := 0, slots := 0, locals := 22 })).room s m ([.ref (ad 0), .int vt] : List Value).toArray below meth c H locs 0 0 (MQ below (va_Qi (fun (z : Int32) (xi : Nat → Nat → Int32) => okR loM hiM xi ∧ ((z.toInt = 0 ∨ (mu 0 18).toInt < (xi 0 18).toInt) ∧ 0 ≤ z.toInt ∧ z.toInt ≤ 1) ∧ (∀ k : Nat, 5 ≤ k → k < 7 → xi k = mu k)) (fun xi t => va_P (dC, dI) vwCl (wR 21 ad (EM cs ad) xi) t.heap) (va_A (wR 21 ad (EM cs ad) mu) s.heap.size)) ([.ref (ad 0), .int vt] : List Value).toArray s 0 0 (va_A (wR 21 ad (EM cs ad) mu) s.heap.size)) (F0 m 48 ls []) := by
          intro n48
          induction n48 with
          | zero => intro v3_48 v4_48 nu48_ H locs ls hm; exact absurd hm (Nat.not_lt_zero _)
          | succ n48 ih48 =>
            intro v3_48 v4_48 nu48_ H locs ls hm h_v4_48 hi48_0 hi48_1 ok hP kq48_0 hS hl
            obtain ⟨y17, ey17⟩ : ∃ z : Int32, z = nu48_ 0 18 := ⟨_, rfl⟩
            have by17 : y17.toInt = (nu48_ 0 18).toInt := congrArg Int32.toInt ey17
            have gy17 : 0 ≤ y17.toInt ∧ y17.toInt ≤ 90 := by rw [ey17]; exact rM_0_18 ok
            obtain ⟨y18, ey18⟩ : ∃ z : Int32, z = nu48_ 0 19 := ⟨_, rfl⟩
            have by18 : y18.toInt = (nu48_ 0 19).toInt := congrArg Int32.toInt ey18
            have gy18 : 0 ≤ y18.toInt ∧ y18.toInt ≤ 7 := by rw [ey18]; exact rM_0_19 ok
            refine lv_iload hx hb dX12_readsBearer_48 (lv_at hl 0 rfl) ?_
            refine lv_iconst (v := 2) hx hb dX12_readsBearer_50 (by decide) ?_
            refine lv_icmp_ge (tgt := 101) hx hb dX12_readsBearer_51 (by decide) (fun c_19 => ?_) (fun c_19 => ?_)
            · have c_19 : 2 ≤ v4_48.toInt := il_le c_19
              refine lv_aload_n hx hb dX12_readsBearer_101 rfl (lv_at hl 3 rfl) ?_
              refine va_get (D := (dC, dI)) (ci := 12) (v := .ref (ad 11)) (C := RX12) (T := TX12) (N := 46) hx hb hts inG12 hown hK hP 0 (gM_0 cs ad nu48_) rfl 21 (by decide) (hts _ (List.mem_cons_of_mem _ mw_5_62)) (fun _ h9 => h9) rfl dX12_readsBearer_102 ?_
              refine lv_aload_n hx hb dX12_readsBearer_105 rfl (lv_at hl 3 rfl) ?_
              refine va_get (D := (dC, dI)) (ci := 12) (v := .int (nu48_ 0 19)) (C := RX12) (T := TX12) (N := 46) hx hb hts inG12 hown hK hP 0 (gM_0 cs ad nu48_) rfl 19 (by decide) (hts _ (List.mem_cons_of_mem _ mw_5_60)) (fun _ h9 => h9) rfl dX12_readsBearer_106 ?_
              refine lq_i y18 ey18.symm ?_
              refine lv_iload_n hx hb dX12_readsBearer_109 rfl (lv_at hl 2 rfl) ?_
              refine va_iast hx hb hK hP (wR_D nu48_ hD) hS 11 0 (gM_11 cs ad nu48_) rfl (show vp_in y18 7 from vi_of (by omega) (by omega)) dX12_readsBearer_110 (fun H locs hP _ hS => ?_)
              refine wr_gen (upd (nu48_ 11) y18.toNatClampNeg r4) hP (rfl) (fun nu20 hn20 hP => ?_)
              have ok := tM_11_s ok y18.toNatClampNeg hn20
              have ez21 : y17 = nu20 0 18 := ey17.trans (congrFun (up_k hn20 (by decide)) 18).symm
              have ez22 : y18 = nu20 0 19 := ey18.trans (congrFun (up_k hn20 (by decide)) 19).symm
              have kp23 : ∀ k : Nat, 5 ≤ k → k < 7 → nu20 k = mu k := fun k h1 h2 => (up_k hn20 (ne_hi (by decide) h2).symm).trans (kq48_0 k h1 h2)
              refine lv_aload_n hx hb dX12_readsBearer_111 rfl (lv_at hl 3 rfl) ?_
              refine va_get (D := (dC, dI)) (ci := 12) (v := .ref (ad 12)) (C := RX12) (T := TX12) (N := 46) hx hb hts inG12 hown hK hP 0 (gM_0 cs ad nu20) rfl 22 (by decide) (hts _ (List.mem_cons_of_mem _ mw_5_63)) (fun _ h9 => h9) rfl dX12_readsBearer_112 ?_
              refine lv_aload_n hx hb dX12_readsBearer_115 rfl (lv_at hl 3 rfl) ?_
              refine va_get (D := (dC, dI)) (ci := 12) (v := .int (nu20 0 19)) (C := RX12) (T := TX12) (N := 46) hx hb hts inG12 hown hK hP 0 (gM_0 cs ad nu20) rfl 19 (by decide) (hts _ (List.mem_cons_of_mem _ mw_5_60)) (fun _ h9 => h9) rfl dX12_readsBearer_116 ?_
              refine lq_i y18 ez22.symm ?_
              refine lv_iload_n hx hb dX12_readsBearer_119 rfl (lv_at hl 1 rfl) ?_
              refine va_iast hx hb hK hP (wR_D nu20 hD) hS 12 0 (gM_12 cs ad nu20) rfl (show vp_in y18 7 from vi_of (by omega) (by omega)) dX12_readsBearer_120 (fun H locs hP _ hS => ?_)
              refine wr_gen (upd (nu20 12) y18.toNatClampNeg v3_48) hP (rfl) (fun nu24 hn24 hP => ?_)
              have ok := tM_12_s ok y18.toNatClampNeg hn24
              have ez25 : y17 = nu24 0 18 := ez21.trans (congrFun (up_k hn24 (by decide)) 18).symm
              have ez26 : y18 = nu24 0 19 := ez22.trans (congrFun (up_k hn24 (by decide)) 19).symm
              have kp27 : ∀ k : Nat, 5 ≤ k → k < 7 → nu24 k = mu k := fun k h1 h2 => (up_k hn24 (ne_hi (by decide) h2).symm).trans (kp23 k h1 h2)
              refine lv_aload_n hx hb dX12_readsBearer_121 rfl (lv_at hl 3 rfl) ?_
              refine lv_dup hx hb dX12_readsBearer_122 rfl ?_
              refine va_get (D := (dC, dI)) (ci := 12) (v := .int (nu24 0 19)) (C := RX12) (T := TX12) (N := 46) hx hb hts inG12 hown hK hP 0 (gM_0 cs ad nu24) rfl 19 (by decide) (hts _ (List.mem_cons_of_mem _ mw_5_60)) (fun _ h9 => h9) rfl dX12_readsBearer_123 ?_
              refine lq_i y18 ez26.symm ?_
              refine lv_iconst (v := 1) hx hb dX12_readsBearer_126 (by decide) ?_
              refine lv_iadd hx hb dX12_readsBearer_127 ?_
              refine lv_topi (fun t28 et28 => ?_)
              have at28 : t28.toInt = y18.toInt + 1 := by rw [et28]; exact tI_add (rfl : y18.toInt = _) (rfl : (1 : Int32).toInt = 1) (by omega) (by omega)
              refine va_put (D := (dC, dI)) (ci := 12) (v := .int t28) (ty := .int) (C := RX12) (T := TX12) (N := 46) hx hb hts inG12 tyX12 tyX12_ok nmX12 hown hK hP (wR_D nu24 hD) hS 0 (gM_0 cs ad nu24) rfl 19 (by decide) (hts _ (List.mem_cons_of_mem _ mw_5_60)) (fun _ h9 => h9) rfl (by decide +kernel) rfl rfl (Nat.le_of_ble_eq_true rfl) dX12_readsBearer_128 (fun H locs hP _ hS => ?_)
              simp only [List.set_cons_succ, List.set_cons_zero] at hP
              refine wr_gen (upd (nu24 0) 19 t28) hP ((hM_0_19 cs ad _ _)) (fun nu29 hn29 hP => ?_)
              have ok := tM_0_19 ok hn29 (by exact ⟨by omega, by omega⟩)
              have ez30 : y17 = nu29 0 18 := ez25.trans (up_f hn29 (by decide)).symm
              have kp31 : ∀ k : Nat, 5 ≤ k → k < 7 → nu29 k = mu k := fun k h1 h2 => (up_k hn29 (ne_lo (by decide) h1).symm).trans (kp27 k h1 h2)
              have ez32 : t28 = nu29 0 19 := up_v hn29
              refine lv_iconst (v := 1) hx hb dX12_readsBearer_131 (by decide) ?_
              exact W.zret (v := 1) (ty := .boolean) hx hb hr (by first | rfl | decide) (fun t ht hW => ⟨⟨1, nu29, rfl, ⟨ok, (by have hb33 := congrArg Int32.toInt ez30; have h6 : (1 : Int32).toInt = 1 := rfl; omega), kp31⟩, by first | (subst ht; exact hP) | (rw [ht]; exact hP) | (show va_P (dC, dI) vwCl (wR 21 ad (EM cs ad) nu29) t.heap; rw [ht]; exact hP)⟩, hS.F ht⟩) hS.2.2 dX12_readsBearer_132
            · have c_19 : v4_48.toInt < 2 := il_nle c_19
              refine lv_aload_n hx hb dX12_readsBearer_54 rfl (lv_at hl 3 rfl) ?_
              refine lv_iload_n hx hb dX12_readsBearer_55 rfl (lv_at hl 4 rfl) ?_
              refine cr_i (va_runV (As := [.int vt]) (rest := []) ⟨hx, hb, hml, hown, hts⟩ (sm_here l dC dI cs ad nu48_ ok H hP vt (by omega)) (cwV 1 hts (wU_V mw_6_17 mw_6_14 mw_6_16 mw_0_33 mw_1_13) rfl rfl rfl (by decide +kernel) ⟨Nat.le_of_ble_eq_true rfl, Nat.le_of_ble_eq_true rfl⟩) ⟨sz_c, va_recv hK hP (ci := 12) (q0 := 0) rfl (gM_0 cs ad nu48_), sz_m hK hz⟩ rfl rfl hl.1 rfl (lv_room (Nat.le_of_ble_eq_true rfl)) dX12_readsBearer_56 ⟨Nat.zero_le _, Nat.zero_le _⟩) hS (fun r34 hw34 locs hS => ?_)
              have gr34 : r34.toInt = -9 ∨ (nu48_ 0 18).toInt < 80 := hw34
              refine lv_bipush (v := 48) hx hb dX12_readsBearer_59 (by decide) ?_
              refine lv_bipush (v := 57) hx hb dX12_readsBearer_61 (by decide) ?_
              refine cr_i (va_runS (As := [.int r34, .int 48, .int 57]) (rest := []) ⟨hx, hb, hml, hown, hts⟩ (sm_in l dC dI (tyM cs) H r34 48 57) (va_cwS 3 hts (wU_S mw_5_189 mw_5_187 mw_5_188 mw_1_13) rfl rfl rfl (by decide +kernel) ⟨Nat.le_of_ble_eq_true rfl, Nat.le_of_ble_eq_true rfl⟩) ⟨sz_c, sz_m hK hz⟩ rfl rfl hl.1 rfl (lv_room (Nat.le_of_ble_eq_true rfl)) dX12_readsBearer_63 ⟨Nat.zero_le _, Nat.zero_le _⟩) hS (fun r35 hw35 locs hS => ?_)
              rcases hw35 with ⟨rfl, f35⟩ | ⟨rfl, f35⟩
              · have f35 : (48 : Int) ≤ r34.toInt ∧ r34.toInt ≤ (57 : Int) := f35
                refine lv_if_ne (tgt := 71) hx hb dX12_readsBearer_66 (by decide) (fun _ => ?_) (fun c => absurd c (by decide))
                refine lv_bipush (v := 10) hx hb dX12_readsBearer_71 (by decide) ?_
                refine lv_iload_n hx hb dX12_readsBearer_73 rfl (lv_at hl 1 rfl) ?_
                refine lv_imul hx hb dX12_readsBearer_74 ?_
                refine lv_topi (fun t36 et36 => ?_)
                refine lv_aload_n hx hb dX12_readsBearer_75 rfl (lv_at hl 3 rfl) ?_
                refine lv_iload_n hx hb dX12_readsBearer_76 rfl (lv_at hl 4 rfl) ?_
                refine cr_i (va_runV (As := [.int vt]) (rest := [.int t36]) ⟨hx, hb, hml, hown, hts⟩ (sm_here l dC dI cs ad nu48_ ok H hP vt (by omega)) (cwV 1 hts (wU_V mw_6_17 mw_6_14 mw_6_16 mw_0_33 mw_1_13) rfl rfl rfl (by decide +kernel) ⟨Nat.le_of_ble_eq_true rfl, Nat.le_of_ble_eq_true rfl⟩) ⟨sz_c, va_recv hK hP (ci := 12) (q0 := 0) rfl (gM_0 cs ad nu48_), sz_m hK hz⟩ rfl rfl hl.1 rfl (lv_room (Nat.le_of_ble_eq_true rfl)) dX12_readsBearer_77 ⟨Nat.zero_le _, Nat.zero_le _⟩) hS (fun r37 hw37 locs hS => ?_)
                have gr37 : r37.toInt = -9 ∨ (nu48_ 0 18).toInt < 80 := hw37
                refine lv_iadd hx hb dX12_readsBearer_80 ?_
                refine lv_topi (fun t38 et38 => ?_)
                refine lv_bipush (v := 48) hx hb dX12_readsBearer_81 (by decide) ?_
                refine lv_isub hx hb dX12_readsBearer_83 ?_
                refine lv_topi (fun t39 et39 => ?_)
                refine lv_istore_n (lv' := [(3, .int t39), (4, .int v4_48), (2, .int r4), (0, .ref (ad 0)), (1, .int vt)]) hx hb dX12_readsBearer_84 rfl hl (by decide) rfl (fun ls hl => ?_)
                refine lv_aload_n hx hb dX12_readsBearer_85 rfl (lv_at hl 3 rfl) ?_
                refine lv_dup hx hb dX12_readsBearer_86 rfl ?_
                refine va_get (D := (dC, dI)) (ci := 12) (v := .int (nu48_ 0 18)) (C := RX12) (T := TX12) (N := 46) hx hb hts inG12 hown hK hP 0 (gM_0 cs ad nu48_) rfl 18 (by decide) (hts _ (List.mem_cons_of_mem _ mw_5_59)) (fun _ h9 => h9) rfl dX12_readsBearer_87 ?_
                refine lq_i y17 ey17.symm ?_
                refine lv_iconst (v := 1) hx hb dX12_readsBearer_90 (by decide) ?_
                refine lv_iadd hx hb dX12_readsBearer_91 ?_
                refine lv_topi (fun t40 et40 => ?_)
                have at40 : t40.toInt = y17.toInt + 1 := by rw [et40]; exact tI_add (rfl : y17.toInt = _) (rfl : (1 : Int32).toInt = 1) (by omega) (by omega)
                refine va_put (D := (dC, dI)) (ci := 12) (v := .int t40) (ty := .int) (C := RX12) (T := TX12) (N := 46) hx hb hts inG12 tyX12 tyX12_ok nmX12 hown hK hP (wR_D nu48_ hD) hS 0 (gM_0 cs ad nu48_) rfl 18 (by decide) (hts _ (List.mem_cons_of_mem _ mw_5_59)) (fun _ h9 => h9) rfl (by decide +kernel) rfl rfl (Nat.le_of_ble_eq_true rfl) dX12_readsBearer_92 (fun H locs hP _ hS => ?_)
                simp only [List.set_cons_succ, List.set_cons_zero] at hP
                refine wr_gen (upd (nu48_ 0) 18 t40) hP ((hM_0_18 cs ad _ _)) (fun nu41 hn41 hP => ?_)
                have ok := tM_0_18 ok hn41 (by exact ⟨by omega, by omega⟩)
                have ez42 : y18 = nu41 0 19 := ey18.trans (up_f hn41 (by decide)).symm
                have kp43 : ∀ k : Nat, 5 ≤ k → k < 7 → nu41 k = mu k := fun k h1 h2 => (up_k hn41 (ne_lo (by decide) h1).symm).trans (kq48_0 k h1 h2)
                have ez44 : t40 = nu41 0 18 := up_v hn41
                refine lv_iinc (v := (v4_48 + 1)) (lv' := [(4, .int (v4_48 + 1)), (3, .int t39), (2, .int r4), (0, .ref (ad 0)), (1, .int vt)]) hx hb dX12_readsBearer_95 hl (k := 1) rfl rfl (by decide) rfl (fun ls hl => ?_)
                refine loc_gen (P := fun w9 => lv_has ls 5 [(4, .int w9), (3, .int t39), (2, .int r4), (0, .ref (ad 0)), (1, .int vt)]) (v4_48 + 1) hl (fun w45 hw45 hl => ?_)
                have hl : lv_has ls 5 [(4, .int w45), (3, .int t39), (2, .int r4), (0, .ref (ad 0)), (1, .int vt)] := hl
                have aw45 : w45.toInt = v4_48.toInt + 1 := by rw [← hw45]; exact tI_add (rfl : v4_48.toInt = _) (rfl : (1 : Int32).toInt = 1) (by omega) (by omega)
                refine lv_goto (tgt := 48) hx hb dX12_readsBearer_98 (by decide) ?_
                exact ih48 (t39) (w45) nu41 _ _ _ (by omega) (by exact ⟨by omega, by omega⟩) (by have hb46 := congrArg Int32.toInt ez44; omega) (by have hb47 := congrArg Int32.toInt ez42; omega) ok hP  kp43 hS (lv_sub hl [0, 1, 2, 3, 4] rfl)
              · have f35 : r34.toInt < (48 : Int) ∨ (57 : Int) < r34.toInt := f35
                refine lv_if_ne (tgt := 71) hx hb dX12_readsBearer_66 (by decide) (fun c => absurd (by decide) c) (fun _ => ?_)
                refine lv_iconst (v := 0) hx hb dX12_readsBearer_69 (by decide) ?_
                exact W.zret (v := 0) (ty := .boolean) hx hb hr (by first | rfl | decide) (fun t ht hW => ⟨⟨0, nu48_, rfl, ⟨ok, (by have hb48 := congrArg Int32.toInt ey17; have h6 : (0 : Int32).toInt = 0 := rfl; omega), kq48_0⟩, by first | (subst ht; exact hP) | (rw [ht]; exact hP) | (show va_P (dC, dI) vwCl (wR 21 ad (EM cs ad) nu48_) t.heap; rw [ht]; exact hP)⟩, hS.F ht⟩) hS.2.2 dX12_readsBearer_70
        exact loop48 ((2 + 1 - (0 : Int32).toInt).toNat + 1) (0) (0) nu12 _ _ _ (Nat.lt_succ_self _) (by have h80 : (0 : Int32).toInt = 0 := rfl; exact ⟨by omega, by omega⟩) (by have h80 : (0 : Int32).toInt = 0 := rfl; have h81 : (0 : Int32).toInt = 0 := rfl; have hb49 := congrArg Int32.toInt ez16; omega) (by have h80 : (0 : Int32).toInt = 0 := rfl; have h81 : (0 : Int32).toInt = 0 := rfl; have hb50 := congrArg Int32.toInt ez13; omega) ok hP  kp15 hS hl
      · have c_10 : y2.toInt = 7 := il_eq c_10
        refine lv_iconst (v := 0) hx hb dX12_readsBearer_31 (by decide) ?_
        exact W.zret (v := 0) (ty := .boolean) hx hb hr (by first | rfl | decide) (fun t ht hW => ⟨⟨0, mu, rfl, ⟨ok, (by have hb51 := congrArg Int32.toInt ey1; have h6 : (0 : Int32).toInt = 0 := rfl; omega), (fun _ _ _ => rfl)⟩, by first | (subst ht; exact hP) | (rw [ht]; exact hP) | (show va_P (dC, dI) vwCl (wR 21 ad (EM cs ad) mu) t.heap; rw [ht]; exact hP)⟩, hS.F ht⟩) hS.2.2 dX12_readsBearer_32
set_option maxHeartbeats 4000000 in
set_option maxRecDepth 100000 in
/-- sm_readsPath -/
theorem sm_readsPath (l : Launch) (dC : Nat → ClassId) (dI : Nat → Nat → Nat) (cs : Nat → ClassId) (ad : Nat → Nat) (mu : Nat → Nat → Int32) (ok : okR loM hiM mu) (H : Heap) (hP : va_P (dC, dI) vwCl (wR 21 ad (EM cs ad) mu) H) (hD0 : va_D (fun _ => True) (wR 21 ad (EM cs ad) mu)) (vt : Int32) (hin0 : 0 ≤ vt.toInt ∧ vt.toInt ≤ 3) (hin1 : (mu 0 18).toInt < 80) : Met l yX12_readsPath (wU yX12_readsPath cX12_readsPath 5 (some .boolean)) ({ frames := 1, cells := 0, slots := 0, locals := 22 }) (va_Pc [.ref (ad 0), .int vt] (sz_P (dC, dI) vwCl (tyM cs) H)) (va_Qi (fun (z : Int32) (xi : Nat → Nat → Int32) => okR loM hiM xi ∧ ((z.toInt = 0 ∨ (mu 0 18).toInt < (xi 0 18).toInt) ∧ 0 ≤ z.toInt ∧ z.toInt ≤ 1) ∧ (∀ k : Nat, 5 ≤ k → k < 7 → xi k = mu k)) (fun xi t => va_P (dC, dI) vwCl (wR 21 ad (EM cs ad) xi) t.heap) (va_A (wR 21 ad (EM cs ad) mu) H.size)) 0 0 (va_A (wR 21 ad (EM cs ad) mu) H.size) := by
  refine Met.ofW (cc := cX12_readsPath) (maxL := 5) (ret := (some .boolean)) (by decide) rfl ?_
  intro p e s m args below meth c s₁ B hml hv
  obtain ⟨rfl, hh, hK, hz⟩ := hv
  have hx := B.exec
  have hb := B.bytes
  have hr := B.returns
  have hts := atoms_spec (ws := (wU yX12_readsPath cX12_readsPath 5 (some .boolean))) B.pre
  have hown : s.vm.findClass RX12 = some m.cls := findClass_of_methodNamed B.named
  have hlocks := B.notSynchronized
  subst hh
  have hD := hD0.self (sz := s.heap.size)
  have hA : ∀ q : Nat, s.heap.size ≤ q → (va_A (wR 21 ad (EM cs ad) mu) s.heap.size) q := fun q h => Or.inr h
  have hS : va_S (va_A (wR 21 ad (EM cs ad) mu) s.heap.size) s.heap s.heap [] := va_S.rf
  have hl := lv_entry ([.ref (ad 0), .int vt]) (n := 5) (Nat.le_of_ble_eq_true rfl)
  rw [lg_entry_eq]
  generalize (lg_sl ([.ref (ad 0), .int vt]) ++ List.replicate (5 - (lg_sl ([.ref (ad 0), .int vt])).length) Slot.unset).toArray = ls at hl ⊢
  have hl : lv_has ls 5 [(0, .ref (ad 0)), (1, .int vt)] := hl
  obtain ⟨y1, ey1⟩ : ∃ z : Int32, z = mu 0 18 := ⟨_, rfl⟩
  have by1 : y1.toInt = (mu 0 18).toInt := congrArg Int32.toInt ey1
  have gy1 : 0 ≤ y1.toInt ∧ y1.toInt ≤ 90 := by rw [ey1]; exact rM_0_18 ok
  obtain ⟨y2, ey2⟩ : ∃ z : Int32, z = mu 0 20 := ⟨_, rfl⟩
  have by2 : y2.toInt = (mu 0 20).toInt := congrArg Int32.toInt ey2
  have gy2 : 0 ≤ y2.toInt ∧ y2.toInt ≤ 12 := by rw [ey2]; exact rM_0_20 ok
  obtain ⟨y3, ey3⟩ : ∃ z : Int32, z = mu 0 19 := ⟨_, rfl⟩
  have by3 : y3.toInt = (mu 0 19).toInt := congrArg Int32.toInt ey3
  have gy3 : 0 ≤ y3.toInt ∧ y3.toInt ≤ 7 := by rw [ey3]; exact rM_0_19 ok
  refine lv_aload_n hx hb dX12_readsPath_0 rfl (lv_at hl 0 rfl) ?_
  refine va_get (D := (dC, dI)) (ci := 12) (v := .int (mu 0 20)) (C := RX12) (T := TX12) (N := 46) hx hb hts inG12 hown hK hP 0 (gM_0 cs ad mu) rfl 20 (by decide) (hts _ (List.mem_cons_of_mem _ mw_5_61)) (fun _ h9 => h9) rfl dX12_readsPath_1 ?_
  refine lq_i y2 ey2.symm ?_
  refine lv_bipush (v := 12) hx hb dX12_readsPath_4 (by decide) ?_
  refine lv_icmp_ne (tgt := 11) hx hb dX12_readsPath_6 (by decide) (fun c_4 => ?_) (fun c_4 => ?_)
  · have c_4 : ¬ y2.toInt = 12 := il_ne c_4
    refine lv_aload_n hx hb dX12_readsPath_11 rfl (lv_at hl 0 rfl) ?_
    refine lv_dup hx hb dX12_readsPath_12 rfl ?_
    refine va_get (D := (dC, dI)) (ci := 12) (v := .int (mu 0 18)) (C := RX12) (T := TX12) (N := 46) hx hb hts inG12 hown hK hP 0 (gM_0 cs ad mu) rfl 18 (by decide) (hts _ (List.mem_cons_of_mem _ mw_5_59)) (fun _ h9 => h9) rfl dX12_readsPath_13 ?_
    refine lq_i y1 ey1.symm ?_
    refine lv_iconst (v := 1) hx hb dX12_readsPath_16 (by decide) ?_
    refine lv_iadd hx hb dX12_readsPath_17 ?_
    refine lv_topi (fun t5 et5 => ?_)
    have at5 : t5.toInt = y1.toInt + 1 := by rw [et5]; exact tI_add (rfl : y1.toInt = _) (rfl : (1 : Int32).toInt = 1) (by omega) (by omega)
    refine va_put (D := (dC, dI)) (ci := 12) (v := .int t5) (ty := .int) (C := RX12) (T := TX12) (N := 46) hx hb hts inG12 tyX12 tyX12_ok nmX12 hown hK hP (wR_D mu hD) hS 0 (gM_0 cs ad mu) rfl 18 (by decide) (hts _ (List.mem_cons_of_mem _ mw_5_59)) (fun _ h9 => h9) rfl (by decide +kernel) rfl rfl (Nat.le_of_ble_eq_true rfl) dX12_readsPath_18 (fun H locs hP _ hS => ?_)
    simp only [List.set_cons_succ, List.set_cons_zero] at hP
    refine wr_gen (upd (mu 0) 18 t5) hP ((hM_0_18 cs ad _ _)) (fun nu6 hn6 hP => ?_)
    have ok := tM_0_18 ok hn6 (by exact ⟨by omega, by omega⟩)
    have ez7 : y2 = nu6 0 20 := ey2.trans (up_f hn6 (by decide)).symm
    have ez8 : y3 = nu6 0 19 := ey3.trans (up_f hn6 (by decide)).symm
    have kp9 : ∀ k : Nat, 5 ≤ k → k < 7 → nu6 k = mu k := fun k h1 h2 => (up_k hn6 (ne_lo (by decide) h1).symm).trans ((fun _ _ _ => rfl) k h1 h2)
    have ez10 : t5 = nu6 0 18 := up_v hn6
    refine lv_iconst (v := 2) hx hb dX12_readsPath_21 (by decide) ?_
    refine lv_aload_n hx hb dX12_readsPath_22 rfl (lv_at hl 0 rfl) ?_
    refine va_get (D := (dC, dI)) (ci := 12) (v := .int (nu6 0 20)) (C := RX12) (T := TX12) (N := 46) hx hb hts inG12 hown hK hP 0 (gM_0 cs ad nu6) rfl 20 (by decide) (hts _ (List.mem_cons_of_mem _ mw_5_61)) (fun _ h9 => h9) rfl dX12_readsPath_23 ?_
    refine lq_i y2 ez7.symm ?_
    refine lv_imul hx hb dX12_readsPath_26 ?_
    refine lv_topi (fun t11 et11 => ?_)
    have at11 : t11.toInt = 2 * y2.toInt := by rw [et11]; exact tI_mul (rfl : (2 : Int32).toInt = 2) (rfl : y2.toInt = _) (by omega) (by omega)
    refine lv_istore_n (lv' := [(2, .int t11), (0, .ref (ad 0)), (1, .int vt)]) hx hb dX12_readsPath_27 rfl hl (by decide) rfl (fun ls hl => ?_)
    refine lv_iconst (v := 0) hx hb dX12_readsPath_28 (by decide) ?_
    refine lv_istore_n (lv' := [(3, .int 0), (2, .int t11), (0, .ref (ad 0)), (1, .int vt)]) hx hb dX12_readsPath_29 rfl hl (by decide) rfl (fun ls hl => ?_)
    have loop30 : ∀ (n30 : Nat) (v3_30 : Int32) (nu30_ : Nat → Nat → Int32) (H : Heap) (locs : List Loc) (ls : Array Slot), (2 + 1 - v3_30.toInt).toNat < n30 → (0 ≤ v3_30.toInt ∧ v3_30.toInt ≤ 2) → ((mu 0 18).toInt < (nu30_ 0 18).toInt) → ((nu30_ 0 20).toInt ≤ 11) → okR loM hiM nu30_ → va_P (dC, dI) vwCl (wR 21 ad (EM cs ad) nu30_) H → (∀ k : Nat, 5 ≤ k → k < 7 → nu30_ k = mu k) → va_S (va_A (wR 21 ad (EM cs ad) mu) s.heap.size) s.heap H locs → lv_has ls 5 [(3, .int v3_30), (2, .int t11), (0, .ref (ad 0)), (1, .int vt)] → W p l e (headSpec (wU yX12_readsPath cX12_readsPath 5 (some .boolean)) ({ frames := 1, cells := 0, slots := 0, locals := 22 })).room s m ([.ref (ad 0), .int vt] : List Value).toArray below meth c H locs 0 0 (MQ below (va_Qi (fun (z : Int32) (xi : Nat → Nat → Int32) => okR loM hiM xi ∧ ((z.toInt = 0 ∨ (mu 0 18).toInt < (xi 0 18).toInt) ∧ 0 ≤ z.toInt ∧ z.toInt ≤ 1) ∧ (∀ k : Nat, 5 ≤ k → k < 7 → xi k = mu k)) (fun xi t => va_P (dC, dI) vwCl (wR 21 ad (EM cs ad) xi) t.heap) (va_A (wR 21 ad (EM cs ad) mu) s.heap.size)) ([.ref (ad 0), .int vt] : List Value).toArray s 0 0 (va_A (wR 21 ad (EM cs ad) mu) s.heap.size)) (F0 m 30 ls []) := by
      intro n30
      induction n30 with
      | zero => intro v3_30 nu30_ H locs ls hm; exact absurd hm (Nat.not_lt_zero _)
      | succ n30 ih30 =>
        intro v3_30 nu30_ H locs ls hm h_v3_30 hi30_0 hi30_1 ok hP kq30_0 hS hl
        obtain ⟨y12, ey12⟩ : ∃ z : Int32, z = nu30_ 0 18 := ⟨_, rfl⟩
        have by12 : y12.toInt = (nu30_ 0 18).toInt := congrArg Int32.toInt ey12
        have gy12 : 0 ≤ y12.toInt ∧ y12.toInt ≤ 90 := by rw [ey12]; exact rM_0_18 ok
        obtain ⟨y13, ey13⟩ : ∃ z : Int32, z = nu30_ 0 20 := ⟨_, rfl⟩
        have by13 : y13.toInt = (nu30_ 0 20).toInt := congrArg Int32.toInt ey13
        have gy13 : 0 ≤ y13.toInt ∧ y13.toInt ≤ 12 := by rw [ey13]; exact rM_0_20 ok
        obtain ⟨y14, ey14⟩ : ∃ z : Int32, z = nu30_ 0 19 := ⟨_, rfl⟩
        have by14 : y14.toInt = (nu30_ 0 19).toInt := congrArg Int32.toInt ey14
        have gy14 : 0 ≤ y14.toInt ∧ y14.toInt ≤ 7 := by rw [ey14]; exact rM_0_19 ok
        refine lv_iload_n hx hb dX12_readsPath_30 rfl (lv_at hl 0 rfl) ?_
        refine lv_iconst (v := 2) hx hb dX12_readsPath_31 (by decide) ?_
        refine lv_icmp_ge (tgt := 104) hx hb dX12_readsPath_32 (by decide) (fun c_15 => ?_) (fun c_15 => ?_)
        · have c_15 : 2 ≤ v3_30.toInt := il_le c_15
          refine lv_aload_n hx hb dX12_readsPath_104 rfl (lv_at hl 2 rfl) ?_
          refine lv_dup hx hb dX12_readsPath_105 rfl ?_
          refine va_get (D := (dC, dI)) (ci := 12) (v := .int (nu30_ 0 20)) (C := RX12) (T := TX12) (N := 46) hx hb hts inG12 hown hK hP 0 (gM_0 cs ad nu30_) rfl 20 (by decide) (hts _ (List.mem_cons_of_mem _ mw_5_61)) (fun _ h9 => h9) rfl dX12_readsPath_106 ?_
          refine lq_i y13 ey13.symm ?_
          refine lv_iconst (v := 1) hx hb dX12_readsPath_109 (by decide) ?_
          refine lv_iadd hx hb dX12_readsPath_110 ?_
          refine lv_topi (fun t16 et16 => ?_)
          have at16 : t16.toInt = y13.toInt + 1 := by rw [et16]; exact tI_add (rfl : y13.toInt = _) (rfl : (1 : Int32).toInt = 1) (by omega) (by omega)
          refine va_put (D := (dC, dI)) (ci := 12) (v := .int t16) (ty := .int) (C := RX12) (T := TX12) (N := 46) hx hb hts inG12 tyX12 tyX12_ok nmX12 hown hK hP (wR_D nu30_ hD) hS 0 (gM_0 cs ad nu30_) rfl 20 (by decide) (hts _ (List.mem_cons_of_mem _ mw_5_61)) (fun _ h9 => h9) rfl (by decide +kernel) rfl rfl (Nat.le_of_ble_eq_true rfl) dX12_readsPath_111 (fun H locs hP _ hS => ?_)
          simp only [List.set_cons_succ, List.set_cons_zero] at hP
          refine wr_gen (upd (nu30_ 0) 20 t16) hP ((hM_0_20 cs ad _ _)) (fun nu17 hn17 hP => ?_)
          have ok := tM_0_20 ok hn17 (by exact ⟨by omega, by omega⟩)
          have ez18 : y12 = nu17 0 18 := ey12.trans (up_f hn17 (by decide)).symm
          have ez19 : y14 = nu17 0 19 := ey14.trans (up_f hn17 (by decide)).symm
          have kp20 : ∀ k : Nat, 5 ≤ k → k < 7 → nu17 k = mu k := fun k h1 h2 => (up_k hn17 (ne_lo (by decide) h1).symm).trans (kq30_0 k h1 h2)
          have ez21 : t16 = nu17 0 20 := up_v hn17
          refine lv_iconst (v := 1) hx hb dX12_readsPath_114 (by decide) ?_
          exact W.zret (v := 1) (ty := .boolean) hx hb hr (by first | rfl | decide) (fun t ht hW => ⟨⟨1, nu17, rfl, ⟨ok, (by have hb22 := congrArg Int32.toInt ez18; have h6 : (1 : Int32).toInt = 1 := rfl; omega), kp20⟩, by first | (subst ht; exact hP) | (rw [ht]; exact hP) | (show va_P (dC, dI) vwCl (wR 21 ad (EM cs ad) nu17) t.heap; rw [ht]; exact hP)⟩, hS.F ht⟩) hS.2.2 dX12_readsPath_115
        · have c_15 : v3_30.toInt < 2 := il_nle c_15
          refine lv_aload_n hx hb dX12_readsPath_35 rfl (lv_at hl 2 rfl) ?_
          refine lv_iload_n hx hb dX12_readsPath_36 rfl (lv_at hl 3 rfl) ?_
          refine cr_i (va_runV (As := [.int vt]) (rest := []) ⟨hx, hb, hml, hown, hts⟩ (sm_here l dC dI cs ad nu30_ ok H hP vt (by omega)) (cwV 1 hts (wU_V mw_6_17 mw_6_14 mw_6_16 mw_0_33 mw_1_13) rfl rfl rfl (by decide +kernel) ⟨Nat.le_of_ble_eq_true rfl, Nat.le_of_ble_eq_true rfl⟩) ⟨sz_c, va_recv hK hP (ci := 12) (q0 := 0) rfl (gM_0 cs ad nu30_), sz_m hK hz⟩ rfl rfl hl.1 rfl (lv_room (Nat.le_of_ble_eq_true rfl)) dX12_readsPath_37 ⟨Nat.zero_le _, Nat.zero_le _⟩) hS (fun r23 hw23 locs hS => ?_)
          have gr23 : r23.toInt = -9 ∨ (nu30_ 0 18).toInt < 80 := hw23
          refine lv_bipush (v := 48) hx hb dX12_readsPath_40 (by decide) ?_
          refine lv_isub hx hb dX12_readsPath_42 ?_
          refine lv_topi (fun t24 et24 => ?_)
          have gt24 : r23.toInt = -9 → t24.toInt = -57 := fun h => by rw [et24, Int32.toInt_sub, h]; rfl
          refine lv_istore (lv' := [(4, .int t24), (3, .int v3_30), (2, .int t11), (0, .ref (ad 0)), (1, .int vt)]) hx hb dX12_readsPath_43 hl (by decide) rfl (fun ls hl => ?_)
          refine lv_iload hx hb dX12_readsPath_45 (lv_at hl 0 rfl) ?_
          refine lv_iconst (v := 0) hx hb dX12_readsPath_47 (by decide) ?_
          refine lv_aload_n hx hb dX12_readsPath_48 rfl (lv_at hl 3 rfl) ?_
          refine va_get (D := (dC, dI)) (ci := 12) (v := .int (nu30_ 0 19)) (C := RX12) (T := TX12) (N := 46) hx hb hts inG12 hown hK hP 0 (gM_0 cs ad nu30_) rfl 19 (by decide) (hts _ (List.mem_cons_of_mem _ mw_5_60)) (fun _ h9 => h9) rfl dX12_readsPath_49 ?_
          refine lq_i y14 ey14.symm ?_
          refine lv_iconst (v := 1) hx hb dX12_readsPath_52 (by decide) ?_
          refine lv_isub hx hb dX12_readsPath_53 ?_
          refine lv_topi (fun t25 et25 => ?_)
          have at25 : t25.toInt = y14.toInt - 1 := by rw [et25]; exact tI_sub (rfl : y14.toInt = _) (rfl : (1 : Int32).toInt = 1) (by omega) (by omega)
          refine cr_i (va_runS (As := [.int t24, .int 0, .int t25]) (rest := []) ⟨hx, hb, hml, hown, hts⟩ (sm_in l dC dI (tyM cs) H t24 0 t25) (va_cwS 3 hts (wU_S mw_5_189 mw_5_187 mw_5_188 mw_1_13) rfl rfl rfl (by decide +kernel) ⟨Nat.le_of_ble_eq_true rfl, Nat.le_of_ble_eq_true rfl⟩) ⟨sz_c, sz_m hK hz⟩ rfl rfl hl.1 rfl (lv_room (Nat.le_of_ble_eq_true rfl)) dX12_readsPath_54 ⟨Nat.zero_le _, Nat.zero_le _⟩) hS (fun r26 hw26 locs hS => ?_)
          rcases hw26 with ⟨rfl, f26⟩ | ⟨rfl, f26⟩
          · have f26 : (0 : Int) ≤ t24.toInt ∧ t24.toInt ≤ t25.toInt := f26
            refine lv_if_eq (tgt := 76) hx hb dX12_readsPath_57 (by decide) (fun c => absurd c (by decide)) (fun _ => ?_)
            refine lv_iload_n hx hb dX12_readsPath_60 rfl (lv_at hl 1 rfl) ?_
            refine lv_iconst (v := 1) hx hb dX12_readsPath_61 (by decide) ?_
            refine lv_icmp_ne (tgt := 78) hx hb dX12_readsPath_62 (by decide) (fun c_27 => ?_) (fun c_27 => ?_)
            · have c_27 : ¬ v3_30.toInt = 1 := il_ne c_27
              refine lv_aload_n hx hb dX12_readsPath_78 rfl (lv_at hl 3 rfl) ?_
              refine va_get (D := (dC, dI)) (ci := 12) (v := .ref (ad 13)) (C := RX12) (T := TX12) (N := 46) hx hb hts inG12 hown hK hP 0 (gM_0 cs ad nu30_) rfl 23 (by decide) (hts _ (List.mem_cons_of_mem _ mw_5_64)) (fun _ h9 => h9) rfl dX12_readsPath_79 ?_
              refine lv_iload_n hx hb dX12_readsPath_82 rfl (lv_at hl 2 rfl) ?_
              refine lv_iload_n hx hb dX12_readsPath_83 rfl (lv_at hl 1 rfl) ?_
              refine lv_iadd hx hb dX12_readsPath_84 ?_
              refine lv_topi (fun t28 et28 => ?_)
              have at28 : t28.toInt = t11.toInt + v3_30.toInt := by rw [et28]; exact tI_add (rfl : t11.toInt = _) (rfl : v3_30.toInt = _) (by omega) (by omega)
              refine lv_iload hx hb dX12_readsPath_85 (lv_at hl 0 rfl) ?_
              refine va_iast hx hb hK hP (wR_D nu30_ hD) hS 13 0 (gM_13 cs ad nu30_) rfl (show vp_in t28 24 from vi_of (by omega) (by omega)) dX12_readsPath_87 (fun H locs hP _ hS => ?_)
              refine wr_gen (upd (nu30_ 13) t28.toNatClampNeg t24) hP (rfl) (fun nu29 hn29 hP => ?_)
              have ok := tM_13_s ok t28.toNatClampNeg hn29
              have ez30 : y12 = nu29 0 18 := ey12.trans (congrFun (up_k hn29 (by decide)) 18).symm
              have ez31 : y13 = nu29 0 20 := ey13.trans (congrFun (up_k hn29 (by decide)) 20).symm
              have ez32 : y14 = nu29 0 19 := ey14.trans (congrFun (up_k hn29 (by decide)) 19).symm
              have kp33 : ∀ k : Nat, 5 ≤ k → k < 7 → nu29 k = mu k := fun k h1 h2 => (up_k hn29 (ne_hi (by decide) h2).symm).trans (kq30_0 k h1 h2)
              refine lv_aload_n hx hb dX12_readsPath_88 rfl (lv_at hl 3 rfl) ?_
              refine lv_dup hx hb dX12_readsPath_89 rfl ?_
              refine va_get (D := (dC, dI)) (ci := 12) (v := .int (nu29 0 18)) (C := RX12) (T := TX12) (N := 46) hx hb hts inG12 hown hK hP 0 (gM_0 cs ad nu29) rfl 18 (by decide) (hts _ (List.mem_cons_of_mem _ mw_5_59)) (fun _ h9 => h9) rfl dX12_readsPath_90 ?_
              refine lq_i y12 ez30.symm ?_
              refine lv_iconst (v := 1) hx hb dX12_readsPath_93 (by decide) ?_
              refine lv_iadd hx hb dX12_readsPath_94 ?_
              refine lv_topi (fun t34 et34 => ?_)
              have at34 : t34.toInt = y12.toInt + 1 := by rw [et34]; exact tI_add (rfl : y12.toInt = _) (rfl : (1 : Int32).toInt = 1) (by omega) (by omega)
              refine va_put (D := (dC, dI)) (ci := 12) (v := .int t34) (ty := .int) (C := RX12) (T := TX12) (N := 46) hx hb hts inG12 tyX12 tyX12_ok nmX12 hown hK hP (wR_D nu29 hD) hS 0 (gM_0 cs ad nu29) rfl 18 (by decide) (hts _ (List.mem_cons_of_mem _ mw_5_59)) (fun _ h9 => h9) rfl (by decide +kernel) rfl rfl (Nat.le_of_ble_eq_true rfl) dX12_readsPath_95 (fun H locs hP _ hS => ?_)
              simp only [List.set_cons_succ, List.set_cons_zero] at hP
              refine wr_gen (upd (nu29 0) 18 t34) hP ((hM_0_18 cs ad _ _)) (fun nu35 hn35 hP => ?_)
              have ok := tM_0_18 ok hn35 (by exact ⟨by omega, by omega⟩)
              have ez36 : y13 = nu35 0 20 := ez31.trans (up_f hn35 (by decide)).symm
              have ez37 : y14 = nu35 0 19 := ez32.trans (up_f hn35 (by decide)).symm
              have kp38 : ∀ k : Nat, 5 ≤ k → k < 7 → nu35 k = mu k := fun k h1 h2 => (up_k hn35 (ne_lo (by decide) h1).symm).trans (kp33 k h1 h2)
              have ez39 : t34 = nu35 0 18 := up_v hn35
              refine lv_iinc (v := (v3_30 + 1)) (lv' := [(3, .int (v3_30 + 1)), (4, .int t24), (2, .int t11), (0, .ref (ad 0)), (1, .int vt)]) hx hb dX12_readsPath_98 hl (k := 1) rfl rfl (by decide) rfl (fun ls hl => ?_)
              refine loc_gen (P := fun w9 => lv_has ls 5 [(3, .int w9), (4, .int t24), (2, .int t11), (0, .ref (ad 0)), (1, .int vt)]) (v3_30 + 1) hl (fun w40 hw40 hl => ?_)
              have hl : lv_has ls 5 [(3, .int w40), (4, .int t24), (2, .int t11), (0, .ref (ad 0)), (1, .int vt)] := hl
              have aw40 : w40.toInt = v3_30.toInt + 1 := by rw [← hw40]; exact tI_add (rfl : v3_30.toInt = _) (rfl : (1 : Int32).toInt = 1) (by omega) (by omega)
              refine lv_goto (tgt := 30) hx hb dX12_readsPath_101 (by decide) ?_
              exact ih30 (w40) nu35 _ _ _ (by omega) (by exact ⟨by omega, by omega⟩) (by have hb41 := congrArg Int32.toInt ez39; omega) (by have hb42 := congrArg Int32.toInt ez36; omega) ok hP  kp38 hS (lv_sub hl [0, 2, 3, 4] rfl)
            · have c_27 : v3_30.toInt = 1 := il_eq c_27
              refine lv_iload hx hb dX12_readsPath_65 (lv_at hl 0 rfl) ?_
              refine lv_aload_n hx hb dX12_readsPath_67 rfl (lv_at hl 3 rfl) ?_
              refine va_get (D := (dC, dI)) (ci := 12) (v := .ref (ad 13)) (C := RX12) (T := TX12) (N := 46) hx hb hts inG12 hown hK hP 0 (gM_0 cs ad nu30_) rfl 23 (by decide) (hts _ (List.mem_cons_of_mem _ mw_5_64)) (fun _ h9 => h9) rfl dX12_readsPath_68 ?_
              refine lv_iload_n hx hb dX12_readsPath_71 rfl (lv_at hl 2 rfl) ?_
              refine va_iald hx hb hK hP 13 0 (gM_13 cs ad nu30_) rfl (show vp_in t11 24 from vi_of (by omega) (by omega)) dX12_readsPath_72 ?_
              refine lv_topi (fun y43 ey43 => ?_)
              have by43 : y43.toInt = (nu30_ 13 t11.toNatClampNeg).toInt := congrArg Int32.toInt ey43
              refine lv_icmp_ne (tgt := 78) hx hb dX12_readsPath_73 (by decide) (fun c_44 => ?_) (fun c_44 => ?_)
              · have c_44 : ¬ t24.toInt = y43.toInt := il_ne c_44
                refine lv_aload_n hx hb dX12_readsPath_78 rfl (lv_at hl 3 rfl) ?_
                refine va_get (D := (dC, dI)) (ci := 12) (v := .ref (ad 13)) (C := RX12) (T := TX12) (N := 46) hx hb hts inG12 hown hK hP 0 (gM_0 cs ad nu30_) rfl 23 (by decide) (hts _ (List.mem_cons_of_mem _ mw_5_64)) (fun _ h9 => h9) rfl dX12_readsPath_79 ?_
                refine lv_iload_n hx hb dX12_readsPath_82 rfl (lv_at hl 2 rfl) ?_
                refine lv_iload_n hx hb dX12_readsPath_83 rfl (lv_at hl 1 rfl) ?_
                refine lv_iadd hx hb dX12_readsPath_84 ?_
                refine lv_topi (fun t45 et45 => ?_)
                have at45 : t45.toInt = t11.toInt + v3_30.toInt := by rw [et45]; exact tI_add (rfl : t11.toInt = _) (rfl : v3_30.toInt = _) (by omega) (by omega)
                refine lv_iload hx hb dX12_readsPath_85 (lv_at hl 0 rfl) ?_
                refine va_iast hx hb hK hP (wR_D nu30_ hD) hS 13 0 (gM_13 cs ad nu30_) rfl (show vp_in t45 24 from vi_of (by omega) (by omega)) dX12_readsPath_87 (fun H locs hP _ hS => ?_)
                refine wr_gen (upd (nu30_ 13) t45.toNatClampNeg t24) hP (rfl) (fun nu46 hn46 hP => ?_)
                have ok := tM_13_s ok t45.toNatClampNeg hn46
                have ez47 : y12 = nu46 0 18 := ey12.trans (congrFun (up_k hn46 (by decide)) 18).symm
                have ez48 : y13 = nu46 0 20 := ey13.trans (congrFun (up_k hn46 (by decide)) 20).symm
                have ez49 : y14 = nu46 0 19 := ey14.trans (congrFun (up_k hn46 (by decide)) 19).symm
                have kp50 : ∀ k : Nat, 5 ≤ k → k < 7 → nu46 k = mu k := fun k h1 h2 => (up_k hn46 (ne_hi (by decide) h2).symm).trans (kq30_0 k h1 h2)
                refine lv_aload_n hx hb dX12_readsPath_88 rfl (lv_at hl 3 rfl) ?_
                refine lv_dup hx hb dX12_readsPath_89 rfl ?_
                refine va_get (D := (dC, dI)) (ci := 12) (v := .int (nu46 0 18)) (C := RX12) (T := TX12) (N := 46) hx hb hts inG12 hown hK hP 0 (gM_0 cs ad nu46) rfl 18 (by decide) (hts _ (List.mem_cons_of_mem _ mw_5_59)) (fun _ h9 => h9) rfl dX12_readsPath_90 ?_
                refine lq_i y12 ez47.symm ?_
                refine lv_iconst (v := 1) hx hb dX12_readsPath_93 (by decide) ?_
                refine lv_iadd hx hb dX12_readsPath_94 ?_
                refine lv_topi (fun t51 et51 => ?_)
                have at51 : t51.toInt = y12.toInt + 1 := by rw [et51]; exact tI_add (rfl : y12.toInt = _) (rfl : (1 : Int32).toInt = 1) (by omega) (by omega)
                refine va_put (D := (dC, dI)) (ci := 12) (v := .int t51) (ty := .int) (C := RX12) (T := TX12) (N := 46) hx hb hts inG12 tyX12 tyX12_ok nmX12 hown hK hP (wR_D nu46 hD) hS 0 (gM_0 cs ad nu46) rfl 18 (by decide) (hts _ (List.mem_cons_of_mem _ mw_5_59)) (fun _ h9 => h9) rfl (by decide +kernel) rfl rfl (Nat.le_of_ble_eq_true rfl) dX12_readsPath_95 (fun H locs hP _ hS => ?_)
                simp only [List.set_cons_succ, List.set_cons_zero] at hP
                refine wr_gen (upd (nu46 0) 18 t51) hP ((hM_0_18 cs ad _ _)) (fun nu52 hn52 hP => ?_)
                have ok := tM_0_18 ok hn52 (by exact ⟨by omega, by omega⟩)
                have ez53 : y13 = nu52 0 20 := ez48.trans (up_f hn52 (by decide)).symm
                have ez54 : y14 = nu52 0 19 := ez49.trans (up_f hn52 (by decide)).symm
                have kp55 : ∀ k : Nat, 5 ≤ k → k < 7 → nu52 k = mu k := fun k h1 h2 => (up_k hn52 (ne_lo (by decide) h1).symm).trans (kp50 k h1 h2)
                have ez56 : t51 = nu52 0 18 := up_v hn52
                refine lv_iinc (v := (v3_30 + 1)) (lv' := [(3, .int (v3_30 + 1)), (4, .int t24), (2, .int t11), (0, .ref (ad 0)), (1, .int vt)]) hx hb dX12_readsPath_98 hl (k := 1) rfl rfl (by decide) rfl (fun ls hl => ?_)
                refine loc_gen (P := fun w9 => lv_has ls 5 [(3, .int w9), (4, .int t24), (2, .int t11), (0, .ref (ad 0)), (1, .int vt)]) (v3_30 + 1) hl (fun w57 hw57 hl => ?_)
                have hl : lv_has ls 5 [(3, .int w57), (4, .int t24), (2, .int t11), (0, .ref (ad 0)), (1, .int vt)] := hl
                have aw57 : w57.toInt = v3_30.toInt + 1 := by rw [← hw57]; exact tI_add (rfl : v3_30.toInt = _) (rfl : (1 : Int32).toInt = 1) (by omega) (by omega)
                refine lv_goto (tgt := 30) hx hb dX12_readsPath_101 (by decide) ?_
                exact ih30 (w57) nu52 _ _ _ (by omega) (by exact ⟨by omega, by omega⟩) (by have hb58 := congrArg Int32.toInt ez56; omega) (by have hb59 := congrArg Int32.toInt ez53; omega) ok hP  kp55 hS (lv_sub hl [0, 2, 3, 4] rfl)
              · have c_44 : t24.toInt = y43.toInt := il_eq c_44
                refine lv_iconst (v := 0) hx hb dX12_readsPath_76 (by decide) ?_
                exact W.zret (v := 0) (ty := .boolean) hx hb hr (by first | rfl | decide) (fun t ht hW => ⟨⟨0, nu30_, rfl, ⟨ok, (by have hb60 := congrArg Int32.toInt ey12; have h6 : (0 : Int32).toInt = 0 := rfl; omega), kq30_0⟩, by first | (subst ht; exact hP) | (rw [ht]; exact hP) | (show va_P (dC, dI) vwCl (wR 21 ad (EM cs ad) nu30_) t.heap; rw [ht]; exact hP)⟩, hS.F ht⟩) hS.2.2 dX12_readsPath_77
          · have f26 : t24.toInt < (0 : Int) ∨ t25.toInt < t24.toInt := f26
            refine lv_if_eq (tgt := 76) hx hb dX12_readsPath_57 (by decide) (fun _ => ?_) (fun c => absurd (by decide) c)
            refine lv_iconst (v := 0) hx hb dX12_readsPath_76 (by decide) ?_
            exact W.zret (v := 0) (ty := .boolean) hx hb hr (by first | rfl | decide) (fun t ht hW => ⟨⟨0, nu30_, rfl, ⟨ok, (by have hb61 := congrArg Int32.toInt ey12; have h6 : (0 : Int32).toInt = 0 := rfl; omega), kq30_0⟩, by first | (subst ht; exact hP) | (rw [ht]; exact hP) | (show va_P (dC, dI) vwCl (wR 21 ad (EM cs ad) nu30_) t.heap; rw [ht]; exact hP)⟩, hS.F ht⟩) hS.2.2 dX12_readsPath_77
    exact loop30 ((2 + 1 - (0 : Int32).toInt).toNat + 1) (0) nu6 _ _ _ (Nat.lt_succ_self _) (by have h80 : (0 : Int32).toInt = 0 := rfl; exact ⟨by omega, by omega⟩) (by have h80 : (0 : Int32).toInt = 0 := rfl; have hb62 := congrArg Int32.toInt ez10; omega) (by have h80 : (0 : Int32).toInt = 0 := rfl; have hb63 := congrArg Int32.toInt ez7; omega) ok hP  kp9 hS hl
  · have c_4 : y2.toInt = 12 := il_eq c_4
    refine lv_iconst (v := 0) hx hb dX12_readsPath_9 (by decide) ?_
    exact W.zret (v := 0) (ty := .boolean) hx hb hr (by first | rfl | decide) (fun t ht hW => ⟨⟨0, mu, rfl, ⟨ok, (by have hb64 := congrArg Int32.toInt ey1; have h6 : (0 : Int32).toInt = 0 := rfl; omega), (fun _ _ _ => rfl)⟩, by first | (subst ht; exact hP) | (rw [ht]; exact hP) | (show va_P (dC, dI) vwCl (wR 21 ad (EM cs ad) mu) t.heap; rw [ht]; exact hP)⟩, hS.F ht⟩) hS.2.2 dX12_readsPath_10
set_option maxHeartbeats 4000000 in
set_option maxRecDepth 100000 in
/-- sm_goesOn -/
theorem sm_goesOn (l : Launch) (dC : Nat → ClassId) (dI : Nat → Nat → Nat) (cs : Nat → ClassId) (ad : Nat → Nat) (mu : Nat → Nat → Int32) (ok : okR loM hiM mu) (H : Heap) (hP : va_P (dC, dI) vwCl (wR 21 ad (EM cs ad) mu) H) (hD0 : va_D (fun _ => True) (wR 21 ad (EM cs ad) mu)) (vt : Int32) (hin0 : 0 ≤ vt.toInt ∧ vt.toInt ≤ 3) : Met l yX12_goesOn (wU yX12_goesOn cX12_goesOn 2 (some .int)) ({ frames := 2, cells := 0, slots := 0, locals := 46 }) (va_Pc [.ref (ad 0), .int vt] (sz_P (dC, dI) vwCl (tyM cs) H)) (va_Qi (fun (z : Int32) (xi : Nat → Nat → Int32) => okR loM hiM xi ∧ (True) ∧ True) (fun xi t => va_P (dC, dI) vwCl (wR 21 ad (EM cs ad) xi) t.heap) (va_A (wR 21 ad (EM cs ad) mu) H.size)) 0 0 (va_A (wR 21 ad (EM cs ad) mu) H.size) := by
  refine Met.ofW (cc := cX12_goesOn) (maxL := 2) (ret := (some .int)) (by decide) rfl ?_
  intro p e s m args below meth c s₁ B hml hv
  obtain ⟨rfl, hh, hK, hz⟩ := hv
  have hx := B.exec
  have hb := B.bytes
  have hr := B.returns
  have hts := atoms_spec (ws := (wU yX12_goesOn cX12_goesOn 2 (some .int))) B.pre
  have hown : s.vm.findClass RX12 = some m.cls := findClass_of_methodNamed B.named
  have hlocks := B.notSynchronized
  subst hh
  have hD := hD0.self (sz := s.heap.size)
  have hA : ∀ q : Nat, s.heap.size ≤ q → (va_A (wR 21 ad (EM cs ad) mu) s.heap.size) q := fun q h => Or.inr h
  have hS : va_S (va_A (wR 21 ad (EM cs ad) mu) s.heap.size) s.heap s.heap [] := va_S.rf
  have hl := lv_entry ([.ref (ad 0), .int vt]) (n := 2) (Nat.le_of_ble_eq_true rfl)
  rw [lg_entry_eq]
  generalize (lg_sl ([.ref (ad 0), .int vt]) ++ List.replicate (2 - (lg_sl ([.ref (ad 0), .int vt])).length) Slot.unset).toArray = ls at hl ⊢
  have hl : lv_has ls 2 [(0, .ref (ad 0)), (1, .int vt)] := hl
  obtain ⟨y1, ey1⟩ : ∃ z : Int32, z = mu 0 18 := ⟨_, rfl⟩
  have by1 : y1.toInt = (mu 0 18).toInt := congrArg Int32.toInt ey1
  have gy1 : 0 ≤ y1.toInt ∧ y1.toInt ≤ 90 := by rw [ey1]; exact rM_0_18 ok
  refine lv_aload_n hx hb dX12_goesOn_0 rfl (lv_at hl 0 rfl) ?_
  refine lv_iconst (v := 0) hx hb dX12_goesOn_1 (by decide) ?_
  refine va_put (D := (dC, dI)) (ci := 12) (v := .int 0) (ty := .int) (C := RX12) (T := TX12) (N := 46) hx hb hts inG12 tyX12 tyX12_ok nmX12 hown hK hP (wR_D mu hD) hS 0 (gM_0 cs ad mu) rfl 18 (by decide) (hts _ (List.mem_cons_of_mem _ mw_5_59)) (fun _ h9 => h9) rfl (by decide +kernel) rfl rfl (Nat.le_of_ble_eq_true rfl) dX12_goesOn_2 (fun H locs hP _ hS => ?_)
  simp only [List.set_cons_succ, List.set_cons_zero] at hP
  refine wr_gen (upd (mu 0) 18 0) hP ((hM_0_18 cs ad _ _)) (fun nu2 hn2 hP => ?_)
  have ok := tM_0_18 ok hn2 (by have h9 : (0 : Int32).toInt = 0 := rfl; exact ⟨by omega, by omega⟩)
  have ez3 : 0 = nu2 0 18 := up_v hn2
  refine lv_aload_n hx hb dX12_goesOn_5 rfl (lv_at hl 0 rfl) ?_
  refine lv_iconst (v := 0) hx hb dX12_goesOn_6 (by decide) ?_
  refine va_put (D := (dC, dI)) (ci := 12) (v := .int 0) (ty := .int) (C := RX12) (T := TX12) (N := 46) hx hb hts inG12 tyX12 tyX12_ok nmX12 hown hK hP (wR_D nu2 hD) hS 0 (gM_0 cs ad nu2) rfl 19 (by decide) (hts _ (List.mem_cons_of_mem _ mw_5_60)) (fun _ h9 => h9) rfl (by decide +kernel) rfl rfl (Nat.le_of_ble_eq_true rfl) dX12_goesOn_7 (fun H locs hP _ hS => ?_)
  simp only [List.set_cons_succ, List.set_cons_zero] at hP
  refine wr_gen (upd (nu2 0) 19 0) hP ((hM_0_19 cs ad _ _)) (fun nu4 hn4 hP => ?_)
  have ok := tM_0_19 ok hn4 (by have h9 : (0 : Int32).toInt = 0 := rfl; exact ⟨by omega, by omega⟩)
  have ez5 : 0 = nu4 0 18 := ez3.trans (up_f hn4 (by decide)).symm
  have ez6 : 0 = nu4 0 19 := up_v hn4
  refine lv_aload_n hx hb dX12_goesOn_10 rfl (lv_at hl 0 rfl) ?_
  refine lv_iconst (v := 0) hx hb dX12_goesOn_11 (by decide) ?_
  refine va_put (D := (dC, dI)) (ci := 12) (v := .int 0) (ty := .int) (C := RX12) (T := TX12) (N := 46) hx hb hts inG12 tyX12 tyX12_ok nmX12 hown hK hP (wR_D nu4 hD) hS 0 (gM_0 cs ad nu4) rfl 20 (by decide) (hts _ (List.mem_cons_of_mem _ mw_5_61)) (fun _ h9 => h9) rfl (by decide +kernel) rfl rfl (Nat.le_of_ble_eq_true rfl) dX12_goesOn_12 (fun H locs hP _ hS => ?_)
  simp only [List.set_cons_succ, List.set_cons_zero] at hP
  refine wr_gen (upd (nu4 0) 20 0) hP ((hM_0_20 cs ad _ _)) (fun nu7 hn7 hP => ?_)
  have ok := tM_0_20 ok hn7 (by have h9 : (0 : Int32).toInt = 0 := rfl; exact ⟨by omega, by omega⟩)
  have ez8 : 0 = nu7 0 18 := ez5.trans (up_f hn7 (by decide)).symm
  have ez9 : 0 = nu7 0 19 := ez6.trans (up_f hn7 (by decide)).symm
  have ez10 : 0 = nu7 0 20 := up_v hn7
  have loop15 : ∀ (n15 : Nat) (nu15_ : Nat → Nat → Int32) (H : Heap) (locs : List Loc) (ls : Array Slot), (100 - (nu15_ 0 18).toInt).toNat < n15 → okR loM hiM nu15_ → va_P (dC, dI) vwCl (wR 21 ad (EM cs ad) nu15_) H → va_S (va_A (wR 21 ad (EM cs ad) mu) s.heap.size) s.heap H locs → lv_has ls 2 [(0, .ref (ad 0)), (1, .int vt)] → W p l e (headSpec (wU yX12_goesOn cX12_goesOn 2 (some .int)) ({ frames := 2, cells := 0, slots := 0, locals := 46 })).room s m ([.ref (ad 0), .int vt] : List Value).toArray below meth c H locs 0 0 (MQ below (va_Qi (fun (z : Int32) (xi : Nat → Nat → Int32) => okR loM hiM xi ∧ (True) ∧ True) (fun xi t => va_P (dC, dI) vwCl (wR 21 ad (EM cs ad) xi) t.heap) (va_A (wR 21 ad (EM cs ad) mu) s.heap.size)) ([.ref (ad 0), .int vt] : List Value).toArray s 0 0 (va_A (wR 21 ad (EM cs ad) mu) s.heap.size)) (F0 m 15 ls []) := by
    intro n15
    induction n15 with
    | zero => intro  nu15_ H locs ls hm; exact absurd hm (Nat.not_lt_zero _)
    | succ n15 ih15 =>
      intro  nu15_ H locs ls hm ok hP hS hl
      obtain ⟨y11, ey11⟩ : ∃ z : Int32, z = nu15_ 0 18 := ⟨_, rfl⟩
      have by11 : y11.toInt = (nu15_ 0 18).toInt := congrArg Int32.toInt ey11
      have gy11 : 0 ≤ y11.toInt ∧ y11.toInt ≤ 90 := by rw [ey11]; exact rM_0_18 ok
      refine lv_aload_n hx hb dX12_goesOn_15 rfl (lv_at hl 0 rfl) ?_
      refine va_get (D := (dC, dI)) (ci := 12) (v := .int (nu15_ 0 18)) (C := RX12) (T := TX12) (N := 46) hx hb hts inG12 hown hK hP 0 (gM_0 cs ad nu15_) rfl 18 (by decide) (hts _ (List.mem_cons_of_mem _ mw_5_59)) (fun _ h9 => h9) rfl dX12_goesOn_16 ?_
      refine lq_i y11 ey11.symm ?_
      refine lv_aload_n hx hb dX12_goesOn_19 rfl (lv_at hl 0 rfl) ?_
      refine va_get (D := (dC, dI)) (ci := 12) (v := .ref (ad 5)) (C := RX12) (T := TX12) (N := 46) hx hb hts inG12 hown hK hP 0 (gM_0 cs ad nu15_) rfl 6 (by decide) (hts _ (List.mem_cons_of_mem _ mw_5_47)) (fun _ h9 => h9) rfl dX12_goesOn_20 ?_
      refine lv_iload_n hx hb dX12_goesOn_23 rfl (lv_at hl 1 rfl) ?_
      refine va_iald hx hb hK hP 5 0 (gM_5 cs ad nu15_) rfl (show vp_in vt 4 from vi_of (by omega) (by omega)) dX12_goesOn_24 ?_
      refine lv_topi (fun y12 ey12 => ?_)
      have by12 : y12.toInt = (nu15_ 5 vt.toNatClampNeg).toInt := congrArg Int32.toInt ey12
      have gy12 : -9 ≤ y12.toInt ∧ y12.toInt ≤ 80 := by rw [ey12]; exact rM_5_s ok vt.toNatClampNeg
      refine lv_icmp_ge (tgt := 85) hx hb dX12_goesOn_25 (by decide) (fun c_13 => ?_) (fun c_13 => ?_)
      · have c_13 : y12.toInt ≤ y11.toInt := il_le c_13
        refine lv_bipush (v := (-9)) hx hb dX12_goesOn_85 (by decide) ?_
        exact W.iret (v := (-9)) hx hb hr (fun t ht hW => ⟨⟨(-9), nu15_, rfl, ⟨ok, trivial, trivial⟩, by first | (subst ht; exact hP) | (rw [ht]; exact hP) | (show va_P (dC, dI) vwCl (wR 21 ad (EM cs ad) nu15_) t.heap; rw [ht]; exact hP)⟩, hS.F ht⟩) hS.2.2 dX12_goesOn_87
      · have c_13 : y11.toInt < y12.toInt := il_nle c_13
        refine lv_aload_n hx hb dX12_goesOn_28 rfl (lv_at hl 0 rfl) ?_
        refine lv_iload_n hx hb dX12_goesOn_29 rfl (lv_at hl 1 rfl) ?_
        refine cr_i (va_runV (As := [.int vt]) (rest := []) ⟨hx, hb, hml, hown, hts⟩ (sm_here l dC dI cs ad nu15_ ok H hP vt (by omega)) (cwV 1 hts (wU_V mw_6_17 mw_6_14 mw_6_16 mw_0_33 mw_1_13) rfl rfl rfl (by decide +kernel) ⟨Nat.le_of_ble_eq_true rfl, Nat.le_of_ble_eq_true rfl⟩) ⟨sz_c, va_recv hK hP (ci := 12) (q0 := 0) rfl (gM_0 cs ad nu15_), sz_m hK hz⟩ rfl rfl hl.1 rfl (lv_room (Nat.le_of_ble_eq_true rfl)) dX12_goesOn_30 ⟨Nat.zero_le _, Nat.zero_le _⟩) hS (fun r14 hw14 locs hS => ?_)
        have gr14 : r14.toInt = -9 ∨ (nu15_ 0 18).toInt < 80 := hw14
        refine lv_bipush (v := 32) hx hb dX12_goesOn_33 (by decide) ?_
        refine lv_icmp_ne (tgt := 51) hx hb dX12_goesOn_35 (by decide) (fun c_15 => ?_) (fun c_15 => ?_)
        · have c_15 : ¬ r14.toInt = 32 := il_ne c_15
          refine lv_aload_n hx hb dX12_goesOn_51 rfl (lv_at hl 0 rfl) ?_
          refine lv_iload_n hx hb dX12_goesOn_52 rfl (lv_at hl 1 rfl) ?_
          refine cr_i (va_runV (As := [.int vt]) (rest := []) ⟨hx, hb, hml, hown, hts⟩ (sm_here l dC dI cs ad nu15_ ok H hP vt (by omega)) (cwV 1 hts (wU_V mw_6_17 mw_6_14 mw_6_16 mw_0_33 mw_1_13) rfl rfl rfl (by decide +kernel) ⟨Nat.le_of_ble_eq_true rfl, Nat.le_of_ble_eq_true rfl⟩) ⟨sz_c, va_recv hK hP (ci := 12) (q0 := 0) rfl (gM_0 cs ad nu15_), sz_m hK hz⟩ rfl rfl hl.1 rfl (lv_room (Nat.le_of_ble_eq_true rfl)) dX12_goesOn_53 ⟨Nat.zero_le _, Nat.zero_le _⟩) hS (fun r16 hw16 locs hS => ?_)
          have gr16 : r16.toInt = -9 ∨ (nu15_ 0 18).toInt < 80 := hw16
          refine lv_bipush (v := 119) hx hb dX12_goesOn_56 (by decide) ?_
          refine lv_icmp_ne (tgt := 72) hx hb dX12_goesOn_58 (by decide) (fun c_17 => ?_) (fun c_17 => ?_)
          · have c_17 : ¬ r16.toInt = 119 := il_ne c_17
            refine lv_aload_n hx hb dX12_goesOn_72 rfl (lv_at hl 0 rfl) ?_
            refine lv_iload_n hx hb dX12_goesOn_73 rfl (lv_at hl 1 rfl) ?_
            have hFc := fr_all (wR_D nu15_ hD) hS hA
            refine va_calli (va_runV (As := [.int vt]) (rest := []) ⟨hx, hb, hml, hown, hts⟩ (sm_readsBearer l dC dI cs ad nu15_ ok H hP ((wR_D nu15_ hD).weaken (fun _ _ _ _ => trivial)) vt (by omega) (by have hb18 := congrArg Int32.toInt ey11; omega)) (cwV 1 hts (wU_V mw_6_25 mw_6_22 mw_6_24 mw_0_35 mw_1_13) rfl rfl rfl (by decide +kernel) ⟨Nat.le_of_ble_eq_true rfl, Nat.le_of_ble_eq_true rfl⟩) ⟨sz_c, va_recv hK hP (ci := 12) (q0 := 0) rfl (gM_0 cs ad nu15_), sz_m hK hz⟩ rfl rfl hl.1 rfl (lv_room (Nat.le_of_ble_eq_true rfl)) dX12_goesOn_74 ⟨Nat.zero_le _, Nat.zero_le _⟩) hS (fun q _ h => hFc q h) hFc (fun r19 xi19 t H19 locs ht hvm hw19 hB hz1 hk1 hS => ?_)
            have hP : va_P (dC, dI) vwCl (wR 21 ad (EM cs ad) xi19) H19 := by rw [← ht]; exact hB
            obtain ⟨ok, hw19, hkp19_0⟩ := hw19
            have ez20 : y12 = xi19 5 vt.toNatClampNeg := ey12.trans (congrFun (hkp19_0 5 (by decide) (by decide)) vt.toNatClampNeg).symm
            obtain ⟨y21, ey21⟩ : ∃ z : Int32, z = xi19 0 18 := ⟨_, rfl⟩
            have by21 : y21.toInt = (xi19 0 18).toInt := congrArg Int32.toInt ey21
            have gy21 : 0 ≤ y21.toInt ∧ y21.toInt ≤ 90 := by rw [ey21]; exact rM_0_18 ok
            have gr19 : (r19.toInt = 0 ∨ (nu15_ 0 18).toInt < (xi19 0 18).toInt) ∧ 0 ≤ r19.toInt ∧ r19.toInt ≤ 1 := hw19
            refine lv_if_ne (tgt := 15) hx hb dX12_goesOn_77 (by decide) (fun c_22 => ?_) (fun c_22 => ?_)
            · have c_22 : ¬ r19.toInt = 0 := il_ne c_22
              exact ih15  xi19 _ _ _ (by have hb23 := congrArg Int32.toInt ey21; omega)   ok hP   hS (lv_sub hl [0, 1] rfl)
            · have c_22 : r19.toInt = 0 := il_eq c_22
              refine lv_aload_n hx hb dX12_goesOn_80 rfl (lv_at hl 0 rfl) ?_
              refine va_get (D := (dC, dI)) (ci := 12) (v := .int (xi19 0 18)) (C := RX12) (T := TX12) (N := 46) hx hb hts inG12 hown hK hP 0 (gM_0 cs ad xi19) rfl 18 (by decide) (hts _ (List.mem_cons_of_mem _ mw_5_59)) (fun _ h9 => h9) rfl dX12_goesOn_81 ?_
              refine lq_i y21 ey21.symm ?_
              exact W.iret (v := y21) hx hb hr (fun t ht hW => ⟨⟨y21, xi19, rfl, ⟨ok, trivial, trivial⟩, by first | (subst ht; exact hP) | (rw [ht]; exact hP) | (show va_P (dC, dI) vwCl (wR 21 ad (EM cs ad) xi19) t.heap; rw [ht]; exact hP)⟩, hS.F ht⟩) hS.2.2 dX12_goesOn_84
          · have c_17 : r16.toInt = 119 := il_eq c_17
            refine lv_aload_n hx hb dX12_goesOn_61 rfl (lv_at hl 0 rfl) ?_
            refine lv_iload_n hx hb dX12_goesOn_62 rfl (lv_at hl 1 rfl) ?_
            have hFc := fr_all (wR_D nu15_ hD) hS hA
            refine va_calli (va_runV (As := [.int vt]) (rest := []) ⟨hx, hb, hml, hown, hts⟩ (sm_readsPath l dC dI cs ad nu15_ ok H hP ((wR_D nu15_ hD).weaken (fun _ _ _ _ => trivial)) vt (by omega) (by have hb24 := congrArg Int32.toInt ey11; omega)) (cwV 1 hts (wU_V mw_6_21 mw_6_18 mw_6_20 mw_0_34 mw_1_13) rfl rfl rfl (by decide +kernel) ⟨Nat.le_of_ble_eq_true rfl, Nat.le_of_ble_eq_true rfl⟩) ⟨sz_c, va_recv hK hP (ci := 12) (q0 := 0) rfl (gM_0 cs ad nu15_), sz_m hK hz⟩ rfl rfl hl.1 rfl (lv_room (Nat.le_of_ble_eq_true rfl)) dX12_goesOn_63 ⟨Nat.zero_le _, Nat.zero_le _⟩) hS (fun q _ h => hFc q h) hFc (fun r25 xi25 t H25 locs ht hvm hw25 hB hz1 hk1 hS => ?_)
            have hP : va_P (dC, dI) vwCl (wR 21 ad (EM cs ad) xi25) H25 := by rw [← ht]; exact hB
            obtain ⟨ok, hw25, hkp25_0⟩ := hw25
            have ez26 : y12 = xi25 5 vt.toNatClampNeg := ey12.trans (congrFun (hkp25_0 5 (by decide) (by decide)) vt.toNatClampNeg).symm
            obtain ⟨y27, ey27⟩ : ∃ z : Int32, z = xi25 0 18 := ⟨_, rfl⟩
            have by27 : y27.toInt = (xi25 0 18).toInt := congrArg Int32.toInt ey27
            have gy27 : 0 ≤ y27.toInt ∧ y27.toInt ≤ 90 := by rw [ey27]; exact rM_0_18 ok
            have gr25 : (r25.toInt = 0 ∨ (nu15_ 0 18).toInt < (xi25 0 18).toInt) ∧ 0 ≤ r25.toInt ∧ r25.toInt ≤ 1 := hw25
            refine lv_if_ne (tgt := 15) hx hb dX12_goesOn_66 (by decide) (fun c_28 => ?_) (fun c_28 => ?_)
            · have c_28 : ¬ r25.toInt = 0 := il_ne c_28
              exact ih15  xi25 _ _ _ (by have hb29 := congrArg Int32.toInt ey27; omega)   ok hP   hS (lv_sub hl [0, 1] rfl)
            · have c_28 : r25.toInt = 0 := il_eq c_28
              refine lv_goto (tgt := 80) hx hb dX12_goesOn_69 (by decide) ?_
              refine lv_aload_n hx hb dX12_goesOn_80 rfl (lv_at hl 0 rfl) ?_
              refine va_get (D := (dC, dI)) (ci := 12) (v := .int (xi25 0 18)) (C := RX12) (T := TX12) (N := 46) hx hb hts inG12 hown hK hP 0 (gM_0 cs ad xi25) rfl 18 (by decide) (hts _ (List.mem_cons_of_mem _ mw_5_59)) (fun _ h9 => h9) rfl dX12_goesOn_81 ?_
              refine lq_i y27 ey27.symm ?_
              exact W.iret (v := y27) hx hb hr (fun t ht hW => ⟨⟨y27, xi25, rfl, ⟨ok, trivial, trivial⟩, by first | (subst ht; exact hP) | (rw [ht]; exact hP) | (show va_P (dC, dI) vwCl (wR 21 ad (EM cs ad) xi25) t.heap; rw [ht]; exact hP)⟩, hS.F ht⟩) hS.2.2 dX12_goesOn_84
        · have c_15 : r14.toInt = 32 := il_eq c_15
          refine lv_aload_n hx hb dX12_goesOn_38 rfl (lv_at hl 0 rfl) ?_
          refine lv_dup hx hb dX12_goesOn_39 rfl ?_
          refine va_get (D := (dC, dI)) (ci := 12) (v := .int (nu15_ 0 18)) (C := RX12) (T := TX12) (N := 46) hx hb hts inG12 hown hK hP 0 (gM_0 cs ad nu15_) rfl 18 (by decide) (hts _ (List.mem_cons_of_mem _ mw_5_59)) (fun _ h9 => h9) rfl dX12_goesOn_40 ?_
          refine lq_i y11 ey11.symm ?_
          refine lv_iconst (v := 1) hx hb dX12_goesOn_43 (by decide) ?_
          refine lv_iadd hx hb dX12_goesOn_44 ?_
          refine lv_topi (fun t30 et30 => ?_)
          have at30 : t30.toInt = y11.toInt + 1 := by rw [et30]; exact tI_add (rfl : y11.toInt = _) (rfl : (1 : Int32).toInt = 1) (by omega) (by omega)
          refine va_put (D := (dC, dI)) (ci := 12) (v := .int t30) (ty := .int) (C := RX12) (T := TX12) (N := 46) hx hb hts inG12 tyX12 tyX12_ok nmX12 hown hK hP (wR_D nu15_ hD) hS 0 (gM_0 cs ad nu15_) rfl 18 (by decide) (hts _ (List.mem_cons_of_mem _ mw_5_59)) (fun _ h9 => h9) rfl (by decide +kernel) rfl rfl (Nat.le_of_ble_eq_true rfl) dX12_goesOn_45 (fun H locs hP _ hS => ?_)
          simp only [List.set_cons_succ, List.set_cons_zero] at hP
          refine wr_gen (upd (nu15_ 0) 18 t30) hP ((hM_0_18 cs ad _ _)) (fun nu31 hn31 hP => ?_)
          have ok := tM_0_18 ok hn31 (by exact ⟨by omega, by omega⟩)
          have ez32 : y12 = nu31 5 vt.toNatClampNeg := ey12.trans (congrFun (up_k hn31 (by decide)) vt.toNatClampNeg).symm
          have ez33 : t30 = nu31 0 18 := up_v hn31
          refine lv_goto (tgt := 15) hx hb dX12_goesOn_48 (by decide) ?_
          exact ih15  nu31 _ _ _ (by have hb34 := congrArg Int32.toInt ez33; omega)   ok hP   hS (lv_sub hl [0, 1] rfl)
  exact loop15 ((100 - (nu7 0 18).toInt).toNat + 1)  nu7 _ _ _ (Nat.lt_succ_self _)   ok hP   hS hl
set_option maxHeartbeats 4000000 in
set_option maxRecDepth 100000 in
/-- qm_fault -/
theorem qm_fault (l : Launch) (dC : Nat → ClassId) (dI : Nat → Nat → Nat) (cs : Nat → ClassId) (ad : Nat → Nat) (mu : Nat → Nat → Int32) (ok : okR loM hiM mu) (H : Heap) (hP : va_P (dC, dI) vwCl (wR 21 ad (EM cs ad) mu) H) (hD0 : va_D (fun _ => True) (wR 21 ad (EM cs ad) mu)) (vt : Int32) : Met l yX12_fault (wU yX12_fault cX12_fault 3 (some .int)) ({ frames := 3, cells := 0, slots := 0, locals := 67 }) (va_Pc [.ref (ad 0), .int vt] (sz_P (dC, dI) vwCl (tyM cs) H)) (va_Qi (fun (z : Int32) (xi : Nat → Nat → Int32) => okR loM hiM xi ∧ (True) ∧ True) (fun xi t => va_P (dC, dI) vwCl (wR 21 ad (EM cs ad) xi) t.heap) (va_A (wR 21 ad (EM cs ad) mu) H.size)) 0 0 (va_A (wR 21 ad (EM cs ad) mu) H.size) := by
  refine Met.ofW (cc := cX12_fault) (maxL := 3) (ret := (some .int)) (by decide) rfl ?_
  intro p e s m args below meth c s₁ B hml hv
  obtain ⟨rfl, hh, hK, hz⟩ := hv
  have hx := B.exec
  have hb := B.bytes
  have hr := B.returns
  have hts := atoms_spec (ws := (wU yX12_fault cX12_fault 3 (some .int))) B.pre
  have hown : s.vm.findClass RX12 = some m.cls := findClass_of_methodNamed B.named
  have hlocks := B.notSynchronized
  subst hh
  have hD := hD0.self (sz := s.heap.size)
  have hA : ∀ q : Nat, s.heap.size ≤ q → (va_A (wR 21 ad (EM cs ad) mu) s.heap.size) q := fun q h => Or.inr h
  have hS : va_S (va_A (wR 21 ad (EM cs ad) mu) s.heap.size) s.heap s.heap [] := va_S.rf
  have hl := lv_entry ([.ref (ad 0), .int vt]) (n := 3) (Nat.le_of_ble_eq_true rfl)
  rw [lg_entry_eq]
  generalize (lg_sl ([.ref (ad 0), .int vt]) ++ List.replicate (3 - (lg_sl ([.ref (ad 0), .int vt])).length) Slot.unset).toArray = ls at hl ⊢
  have hl : lv_has ls 3 [(0, .ref (ad 0)), (1, .int vt)] := hl
  refine lv_aload_n hx hb dX12_fault_0 rfl (lv_at hl 0 rfl) ?_
  refine lv_iload_n hx hb dX12_fault_1 rfl (lv_at hl 1 rfl) ?_
  have hFc := fr_all (wR_D mu hD) hS hA
  refine va_calli (va_runV (As := [.int vt]) (rest := []) ⟨hx, hb, hml, hown, hts⟩ (sm_askedText l dC dI cs ad mu ok s.heap hP ((wR_D mu hD).weaken (fun _ _ _ _ => trivial)) vt) (cwV 1 hts (wU_V mw_6_5 mw_6_2 mw_6_4 mw_0_31 mw_1_13) rfl rfl rfl (by decide +kernel) ⟨Nat.le_of_ble_eq_true rfl, Nat.le_of_ble_eq_true rfl⟩) ⟨sz_c, va_recv hK hP (ci := 12) (q0 := 0) rfl (gM_0 cs ad mu), sz_m hK hz⟩ rfl rfl hl.1 rfl (lv_room (Nat.le_of_ble_eq_true rfl)) dX12_fault_2 ⟨Nat.zero_le _, Nat.zero_le _⟩) hS (fun q _ h => hFc q h) hFc (fun r1 xi1 t H1 locs ht hvm hw1 hB hz1 hk1 hS => ?_)
  have hP : va_P (dC, dI) vwCl (wR 21 ad (EM cs ad) xi1) H1 := by rw [← ht]; exact hB
  rcases hw1 with ⟨rfl, hxi1, f1⟩ | ⟨z1, ok⟩
  · have hP : va_P (dC, dI) vwCl (wR 21 ad (EM cs ad) mu) H1 := by rw [← hxi1]; exact hP
    have f1 : 0 ≤ vt.toInt ∧ vt.toInt ≤ 3 ∧ 0 ≤ (mu 5 vt.toNatClampNeg).toInt := f1
    refine lv_istore_n (lv' := [(2, .int 0), (0, .ref (ad 0)), (1, .int vt)]) hx hb dX12_fault_5 rfl hl (by decide) rfl (fun ls hl => ?_)
    refine lv_iload_n hx hb dX12_fault_6 rfl (lv_at hl 0 rfl) ?_
    refine lv_if_ge (tgt := 14) hx hb dX12_fault_7 (by decide) (fun _ => ?_) (fun c => absurd (by decide) c)
    refine lv_aload_n hx hb dX12_fault_14 rfl (lv_at hl 1 rfl) ?_
    refine lv_iload_n hx hb dX12_fault_15 rfl (lv_at hl 2 rfl) ?_
    have hFc := fr_all (wR_D mu hD) hS hA
    refine va_calli (va_runV (As := [.int vt]) (rest := []) ⟨hx, hb, hml, hown, hts⟩ (sm_goesOn l dC dI cs ad mu ok H1 hP ((wR_D mu hD).weaken (fun _ _ _ _ => trivial)) vt (by omega)) (cwV 1 hts (wU_V mw_6_13 mw_6_10 mw_6_12 mw_0_32 mw_1_13) rfl rfl rfl (by decide +kernel) ⟨Nat.le_of_ble_eq_true rfl, Nat.le_of_ble_eq_true rfl⟩) ⟨sz_c, va_recv hK hP (ci := 12) (q0 := 0) rfl (gM_0 cs ad mu), sz_m hK hz⟩ rfl rfl hl.1 rfl (lv_room (Nat.le_of_ble_eq_true rfl)) dX12_fault_16 ⟨Nat.zero_le _, Nat.zero_le _⟩) hS (fun q _ h => hFc q h) hFc (fun r2 xi2 t H2 locs ht hvm hw2 hB hz1 hk1 hS => ?_)
    have hP : va_P (dC, dI) vwCl (wR 21 ad (EM cs ad) xi2) H2 := by rw [← ht]; exact hB
    obtain ⟨ok, hw2, _⟩ := hw2
    exact W.iret (v := r2) hx hb hr (fun t ht hW => ⟨⟨r2, xi2, rfl, ⟨ok, trivial, trivial⟩, by first | (subst ht; exact hP) | (rw [ht]; exact hP) | (show va_P (dC, dI) vwCl (wR 21 ad (EM cs ad) xi2) t.heap; rw [ht]; exact hP)⟩, hS.F ht⟩) hS.2.2 dX12_fault_19
  · skip
    refine lv_istore_n (lv' := [(2, .int r1), (0, .ref (ad 0)), (1, .int vt)]) hx hb dX12_fault_5 rfl hl (by decide) rfl (fun ls hl => ?_)
    refine lv_iload_n hx hb dX12_fault_6 rfl (lv_at hl 0 rfl) ?_
    refine lv_if_ge (tgt := 14) hx hb dX12_fault_7 (by decide) (fun c_3 => by have c_3 : 0 ≤ r1.toInt := il_le c_3; exfalso; omega) (fun c_3 => ?_)
    have c_3 : r1.toInt < 0 := il_nle c_3
    refine lv_iload_n hx hb dX12_fault_10 rfl (lv_at hl 0 rfl) ?_
    refine lv_goto (tgt := 19) hx hb dX12_fault_11 (by decide) ?_
    exact W.iret (v := r1) hx hb hr (fun t ht hW => ⟨⟨r1, xi1, rfl, ⟨ok, trivial, trivial⟩, by first | (subst ht; exact hP) | (rw [ht]; exact hP) | (show va_P (dC, dI) vwCl (wR 21 ad (EM cs ad) xi1) t.heap; rw [ht]; exact hP)⟩, hS.F ht⟩) hS.2.2 dX12_fault_19
set_option maxHeartbeats 4000000 in
set_option maxRecDepth 100000 in
/-- qm_town -/
theorem qm_town (l : Launch) (dC : Nat → ClassId) (dI : Nat → Nat → Nat) (cs : Nat → ClassId) (ad : Nat → Nat) (mu : Nat → Nat → Int32) (ok : okR loM hiM mu) (H : Heap) (hP : va_P (dC, dI) vwCl (wR 21 ad (EM cs ad) mu) H) (hD0 : va_D (fun _ => True) (wR 21 ad (EM cs ad) mu)) (vt : Int32) : Met l yX12_town (wU yX12_town cX12_town 4 (some .int)) ({ frames := 3, cells := 0, slots := 0, locals := 67 }) (va_Pc [.ref (ad 0), .int vt] (sz_P (dC, dI) vwCl (tyM cs) H)) (va_Qi (fun (z : Int32) (xi : Nat → Nat → Int32) => okR loM hiM xi ∧ (True) ∧ True) (fun xi t => va_P (dC, dI) vwCl (wR 21 ad (EM cs ad) xi) t.heap) (va_A (wR 21 ad (EM cs ad) mu) H.size)) 0 0 (va_A (wR 21 ad (EM cs ad) mu) H.size) := by
  refine Met.ofW (cc := cX12_town) (maxL := 4) (ret := (some .int)) (by decide) rfl ?_
  intro p e s m args below meth c s₁ B hml hv
  obtain ⟨rfl, hh, hK, hz⟩ := hv
  have hx := B.exec
  have hb := B.bytes
  have hr := B.returns
  have hts := atoms_spec (ws := (wU yX12_town cX12_town 4 (some .int))) B.pre
  have hown : s.vm.findClass RX12 = some m.cls := findClass_of_methodNamed B.named
  have hlocks := B.notSynchronized
  subst hh
  have hD := hD0.self (sz := s.heap.size)
  have hA : ∀ q : Nat, s.heap.size ≤ q → (va_A (wR 21 ad (EM cs ad) mu) s.heap.size) q := fun q h => Or.inr h
  have hS : va_S (va_A (wR 21 ad (EM cs ad) mu) s.heap.size) s.heap s.heap [] := va_S.rf
  have hl := lv_entry ([.ref (ad 0), .int vt]) (n := 4) (Nat.le_of_ble_eq_true rfl)
  rw [lg_entry_eq]
  generalize (lg_sl ([.ref (ad 0), .int vt]) ++ List.replicate (4 - (lg_sl ([.ref (ad 0), .int vt])).length) Slot.unset).toArray = ls at hl ⊢
  have hl : lv_has ls 4 [(0, .ref (ad 0)), (1, .int vt)] := hl
  refine lv_aload_n hx hb dX12_town_0 rfl (lv_at hl 0 rfl) ?_
  refine lv_iload_n hx hb dX12_town_1 rfl (lv_at hl 1 rfl) ?_
  have hFc := fr_all (wR_D mu hD) hS hA
  refine va_calli (va_runV (As := [.int vt]) (rest := []) ⟨hx, hb, hml, hown, hts⟩ (sm_askedText l dC dI cs ad mu ok s.heap hP ((wR_D mu hD).weaken (fun _ _ _ _ => trivial)) vt) (cwV 1 hts (wU_V mw_6_5 mw_6_2 mw_6_4 mw_0_31 mw_1_13) rfl rfl rfl (by decide +kernel) ⟨Nat.le_of_ble_eq_true rfl, Nat.le_of_ble_eq_true rfl⟩) ⟨sz_c, va_recv hK hP (ci := 12) (q0 := 0) rfl (gM_0 cs ad mu), sz_m hK hz⟩ rfl rfl hl.1 rfl (lv_room (Nat.le_of_ble_eq_true rfl)) dX12_town_2 ⟨Nat.zero_le _, Nat.zero_le _⟩) hS (fun q _ h => hFc q h) hFc (fun r1 xi1 t H1 locs ht hvm hw1 hB hz1 hk1 hS => ?_)
  have hP : va_P (dC, dI) vwCl (wR 21 ad (EM cs ad) xi1) H1 := by rw [← ht]; exact hB
  rcases hw1 with ⟨rfl, hxi1, f1⟩ | ⟨z1, ok⟩
  · have hP : va_P (dC, dI) vwCl (wR 21 ad (EM cs ad) mu) H1 := by rw [← hxi1]; exact hP
    have f1 : 0 ≤ vt.toInt ∧ vt.toInt ≤ 3 ∧ 0 ≤ (mu 5 vt.toNatClampNeg).toInt := f1
    refine lv_istore_n (lv' := [(2, .int 0), (0, .ref (ad 0)), (1, .int vt)]) hx hb dX12_town_5 rfl hl (by decide) rfl (fun ls hl => ?_)
    refine lv_iload_n hx hb dX12_town_6 rfl (lv_at hl 0 rfl) ?_
    refine lv_if_ge (tgt := 12) hx hb dX12_town_7 (by decide) (fun _ => ?_) (fun c => absurd (by decide) c)
    refine lv_aload_n hx hb dX12_town_12 rfl (lv_at hl 1 rfl) ?_
    refine lv_iload_n hx hb dX12_town_13 rfl (lv_at hl 2 rfl) ?_
    have hFc := fr_all (wR_D mu hD) hS hA
    refine va_calli (va_runV (As := [.int vt]) (rest := []) ⟨hx, hb, hml, hown, hts⟩ (sm_goesOn l dC dI cs ad mu ok H1 hP ((wR_D mu hD).weaken (fun _ _ _ _ => trivial)) vt (by omega)) (cwV 1 hts (wU_V mw_6_13 mw_6_10 mw_6_12 mw_0_32 mw_1_13) rfl rfl rfl (by decide +kernel) ⟨Nat.le_of_ble_eq_true rfl, Nat.le_of_ble_eq_true rfl⟩) ⟨sz_c, va_recv hK hP (ci := 12) (q0 := 0) rfl (gM_0 cs ad mu), sz_m hK hz⟩ rfl rfl hl.1 rfl (lv_room (Nat.le_of_ble_eq_true rfl)) dX12_town_14 ⟨Nat.zero_le _, Nat.zero_le _⟩) hS (fun q _ h => hFc q h) hFc (fun r2 xi2 t H2 locs ht hvm hw2 hB hz1 hk1 hS => ?_)
    have hP : va_P (dC, dI) vwCl (wR 21 ad (EM cs ad) xi2) H2 := by rw [← ht]; exact hB
    obtain ⟨ok, hw2, _⟩ := hw2
    refine lv_bipush (v := (-9)) hx hb dX12_town_17 (by decide) ?_
    refine lv_icmp_eq (tgt := 25) hx hb dX12_town_19 (by decide) (fun c_3 => ?_) (fun c_3 => ?_)
    · have c_3 : r2.toInt = -9 := il_eq c_3
      refine lv_aload_n hx hb dX12_town_25 rfl (lv_at hl 1 rfl) ?_
      refine lv_aload_n hx hb dX12_town_26 rfl (lv_at hl 1 rfl) ?_
      refine va_get (D := (dC, dI)) (ci := 12) (v := .int (xi2 0 19)) (C := RX12) (T := TX12) (N := 46) hx hb hts inG12 hown hK hP 0 (gM_0 cs ad xi2) rfl 19 (by decide) (hts _ (List.mem_cons_of_mem _ mw_5_60)) (fun _ h9 => h9) rfl dX12_town_27 ?_
      refine lv_topi (fun y4 ey4 => ?_)
      have by4 : y4.toInt = (xi2 0 19).toInt := congrArg Int32.toInt ey4
      have gy4 : 0 ≤ y4.toInt ∧ y4.toInt ≤ 7 := by rw [ey4]; exact rM_0_19 ok
      refine va_put (D := (dC, dI)) (ci := 12) (v := .int y4) (ty := .int) (C := RX12) (T := TX12) (N := 46) hx hb hts inG12 tyX12 tyX12_ok nmX12 hown hK hP (wR_D xi2 hD) hS 0 (gM_0 cs ad xi2) rfl 8 (by decide) (hts _ (List.mem_cons_of_mem _ mw_5_49)) (fun _ h9 => h9) rfl (by decide +kernel) rfl rfl (Nat.le_of_ble_eq_true rfl) dX12_town_30 (fun H locs hP _ hS => ?_)
      simp only [List.set_cons_succ, List.set_cons_zero] at hP
      refine wr_gen (upd (xi2 0) 8 y4) hP ((hM_0_8 cs ad _ _)) (fun nu5 hn5 hP => ?_)
      have ok := tM_0_8 ok hn5 (by exact ⟨by omega, by omega⟩)
      have ez6 : y4 = nu5 0 19 := ey4.trans (up_f hn5 (by decide)).symm
      have ez7 : y4 = nu5 0 8 := up_v hn5
      refine lv_aload_n hx hb dX12_town_33 rfl (lv_at hl 1 rfl) ?_
      refine lv_aload_n hx hb dX12_town_34 rfl (lv_at hl 1 rfl) ?_
      refine va_get (D := (dC, dI)) (ci := 12) (v := .int (nu5 0 20)) (C := RX12) (T := TX12) (N := 46) hx hb hts inG12 hown hK hP 0 (gM_0 cs ad nu5) rfl 20 (by decide) (hts _ (List.mem_cons_of_mem _ mw_5_61)) (fun _ h9 => h9) rfl dX12_town_35 ?_
      refine lv_topi (fun y8 ey8 => ?_)
      have by8 : y8.toInt = (nu5 0 20).toInt := congrArg Int32.toInt ey8
      have gy8 : 0 ≤ y8.toInt ∧ y8.toInt ≤ 12 := by rw [ey8]; exact rM_0_20 ok
      refine va_put (D := (dC, dI)) (ci := 12) (v := .int y8) (ty := .int) (C := RX12) (T := TX12) (N := 46) hx hb hts inG12 tyX12 tyX12_ok nmX12 hown hK hP (wR_D nu5 hD) hS 0 (gM_0 cs ad nu5) rfl 11 (by decide) (hts _ (List.mem_cons_of_mem _ mw_5_52)) (fun _ h9 => h9) rfl (by decide +kernel) rfl rfl (Nat.le_of_ble_eq_true rfl) dX12_town_38 (fun H locs hP _ hS => ?_)
      simp only [List.set_cons_succ, List.set_cons_zero] at hP
      refine wr_gen (upd (nu5 0) 11 y8) hP ((hM_0_11 cs ad _ _)) (fun nu9 hn9 hP => ?_)
      have ok := tM_0_11 ok hn9 (by exact ⟨by omega, by omega⟩)
      have ez10 : y4 = nu9 0 19 := ez6.trans (up_f hn9 (by decide)).symm
      have ez11 : y4 = nu9 0 8 := ez7.trans (up_f hn9 (by decide)).symm
      have ez12 : y8 = nu9 0 20 := ey8.trans (up_f hn9 (by decide)).symm
      have ez13 : y8 = nu9 0 11 := up_v hn9
      refine lv_iconst (v := 0) hx hb dX12_town_41 (by decide) ?_
      refine lv_istore_n (lv' := [(3, .int 0), (2, .int 0), (0, .ref (ad 0)), (1, .int vt)]) hx hb dX12_town_42 rfl hl (by decide) rfl (fun ls hl => ?_)
      have loop43 : ∀ (n43 : Nat) (v3_43 : Int32) (nu43_ : Nat → Nat → Int32) (H : Heap) (locs : List Loc) (ls : Array Slot), (7 + 1 - v3_43.toInt).toNat < n43 → (0 ≤ v3_43.toInt ∧ v3_43.toInt ≤ 7) → okR loM hiM nu43_ → va_P (dC, dI) vwCl (wR 21 ad (EM cs ad) nu43_) H → va_S (va_A (wR 21 ad (EM cs ad) mu) s.heap.size) s.heap H locs → lv_has ls 4 [(3, .int v3_43), (2, .int 0), (0, .ref (ad 0)), (1, .int vt)] → W p l e (headSpec (wU yX12_town cX12_town 4 (some .int)) ({ frames := 3, cells := 0, slots := 0, locals := 67 })).room s m ([.ref (ad 0), .int vt] : List Value).toArray below meth c H locs 0 0 (MQ below (va_Qi (fun (z : Int32) (xi : Nat → Nat → Int32) => okR loM hiM xi ∧ (True) ∧ True) (fun xi t => va_P (dC, dI) vwCl (wR 21 ad (EM cs ad) xi) t.heap) (va_A (wR 21 ad (EM cs ad) mu) s.heap.size)) ([.ref (ad 0), .int vt] : List Value).toArray s 0 0 (va_A (wR 21 ad (EM cs ad) mu) s.heap.size)) (F0 m 43 ls []) := by
        intro n43
        induction n43 with
        | zero => intro v3_43 nu43_ H locs ls hm; exact absurd hm (Nat.not_lt_zero _)
        | succ n43 ih43 =>
          intro v3_43 nu43_ H locs ls hm h_v3_43 ok hP hS hl
          refine lv_iload_n hx hb dX12_town_43 rfl (lv_at hl 0 rfl) ?_
          refine lv_bipush (v := 7) hx hb dX12_town_44 (by decide) ?_
          refine lv_icmp_ge (tgt := 79) hx hb dX12_town_46 (by decide) (fun c_14 => ?_) (fun c_14 => ?_)
          · have c_14 : 7 ≤ v3_43.toInt := il_le c_14
            refine lv_iconst (v := 0) hx hb dX12_town_79 (by decide) ?_
            refine lv_istore_n (lv' := [(3, .int 0), (2, .int 0), (0, .ref (ad 0)), (1, .int vt)]) hx hb dX12_town_80 rfl hl (by decide) rfl (fun ls hl => ?_)
            have loop81 : ∀ (n81 : Nat) (v3_81 : Int32) (nu81_ : Nat → Nat → Int32) (H : Heap) (locs : List Loc) (ls : Array Slot), (24 + 1 - v3_81.toInt).toNat < n81 → (0 ≤ v3_81.toInt ∧ v3_81.toInt ≤ 24) → okR loM hiM nu81_ → va_P (dC, dI) vwCl (wR 21 ad (EM cs ad) nu81_) H → va_S (va_A (wR 21 ad (EM cs ad) mu) s.heap.size) s.heap H locs → lv_has ls 4 [(3, .int v3_81), (2, .int 0), (0, .ref (ad 0)), (1, .int vt)] → W p l e (headSpec (wU yX12_town cX12_town 4 (some .int)) ({ frames := 3, cells := 0, slots := 0, locals := 67 })).room s m ([.ref (ad 0), .int vt] : List Value).toArray below meth c H locs 0 0 (MQ below (va_Qi (fun (z : Int32) (xi : Nat → Nat → Int32) => okR loM hiM xi ∧ (True) ∧ True) (fun xi t => va_P (dC, dI) vwCl (wR 21 ad (EM cs ad) xi) t.heap) (va_A (wR 21 ad (EM cs ad) mu) s.heap.size)) ([.ref (ad 0), .int vt] : List Value).toArray s 0 0 (va_A (wR 21 ad (EM cs ad) mu) s.heap.size)) (F0 m 81 ls []) := by
              intro n81
              induction n81 with
              | zero => intro v3_81 nu81_ H locs ls hm; exact absurd hm (Nat.not_lt_zero _)
              | succ n81 ih81 =>
                intro v3_81 nu81_ H locs ls hm h_v3_81 ok hP hS hl
                refine lv_iload_n hx hb dX12_town_81 rfl (lv_at hl 0 rfl) ?_
                refine lv_bipush (v := 24) hx hb dX12_town_82 (by decide) ?_
                refine lv_icmp_ge (tgt := 105) hx hb dX12_town_84 (by decide) (fun c_15 => ?_) (fun c_15 => ?_)
                · have c_15 : 24 ≤ v3_81.toInt := il_le c_15
                  refine lv_aload_n hx hb dX12_town_105 rfl (lv_at hl 2 rfl) ?_
                  refine lv_iconst (v := 0) hx hb dX12_town_106 (by decide) ?_
                  refine va_put (D := (dC, dI)) (ci := 12) (v := .int 0) (ty := .int) (C := RX12) (T := TX12) (N := 46) hx hb hts inG12 tyX12 tyX12_ok nmX12 hown hK hP (wR_D nu81_ hD) hS 0 (gM_0 cs ad nu81_) rfl 13 (by decide) (hts _ (List.mem_cons_of_mem _ mw_5_54)) (fun _ h9 => h9) rfl (by decide +kernel) rfl rfl (Nat.le_of_ble_eq_true rfl) dX12_town_107 (fun H locs hP _ hS => ?_)
                  simp only [List.set_cons_succ, List.set_cons_zero] at hP
                  refine wr_gen (upd (nu81_ 0) 13 0) hP ((hM_0_13 cs ad _ _)) (fun nu16 hn16 hP => ?_)
                  have ok := tM_0_13 ok hn16
                  have ez17 : 0 = nu16 0 13 := up_v hn16
                  refine lv_aload_n hx hb dX12_town_110 rfl (lv_at hl 2 rfl) ?_
                  refine lv_iconst (v := 0) hx hb dX12_town_111 (by decide) ?_
                  refine va_put (D := (dC, dI)) (ci := 12) (v := .int 0) (ty := .int) (C := RX12) (T := TX12) (N := 46) hx hb hts inG12 tyX12 tyX12_ok nmX12 hown hK hP (wR_D nu16 hD) hS 0 (gM_0 cs ad nu16) rfl 14 (by decide) (hts _ (List.mem_cons_of_mem _ mw_5_55)) (fun _ h9 => h9) rfl (by decide +kernel) rfl rfl (Nat.le_of_ble_eq_true rfl) dX12_town_112 (fun H locs hP _ hS => ?_)
                  simp only [List.set_cons_succ, List.set_cons_zero] at hP
                  refine wr_gen (upd (nu16 0) 14 0) hP ((hM_0_14 cs ad _ _)) (fun nu18 hn18 hP => ?_)
                  have ok := tM_0_14 ok hn18
                  have ez19 : 0 = nu18 0 13 := ez17.trans (up_f hn18 (by decide)).symm
                  have ez20 : 0 = nu18 0 14 := up_v hn18
                  refine lv_aload_n hx hb dX12_town_115 rfl (lv_at hl 2 rfl) ?_
                  refine lv_iconst (v := 0) hx hb dX12_town_116 (by decide) ?_
                  refine va_put (D := (dC, dI)) (ci := 12) (v := .int 0) (ty := .int) (C := RX12) (T := TX12) (N := 46) hx hb hts inG12 tyX12 tyX12_ok nmX12 hown hK hP (wR_D nu18 hD) hS 0 (gM_0 cs ad nu18) rfl 15 (by decide) (hts _ (List.mem_cons_of_mem _ mw_5_56)) (fun _ h9 => h9) rfl (by decide +kernel) rfl rfl (Nat.le_of_ble_eq_true rfl) dX12_town_117 (fun H locs hP _ hS => ?_)
                  simp only [List.set_cons_succ, List.set_cons_zero] at hP
                  refine wr_gen (upd (nu18 0) 15 0) hP ((hM_0_15 cs ad _ _)) (fun nu21 hn21 hP => ?_)
                  have ok := tM_0_15 ok hn21 (by have h9 : (0 : Int32).toInt = 0 := rfl; exact ⟨by omega, by omega⟩)
                  have ez22 : 0 = nu21 0 13 := ez19.trans (up_f hn21 (by decide)).symm
                  have ez23 : 0 = nu21 0 14 := ez20.trans (up_f hn21 (by decide)).symm
                  have ez24 : 0 = nu21 0 15 := up_v hn21
                  refine lv_aload_n hx hb dX12_town_120 rfl (lv_at hl 2 rfl) ?_
                  refine lv_iconst (v := 0) hx hb dX12_town_121 (by decide) ?_
                  refine va_put (D := (dC, dI)) (ci := 12) (v := .int 0) (ty := .int) (C := RX12) (T := TX12) (N := 46) hx hb hts inG12 tyX12 tyX12_ok nmX12 hown hK hP (wR_D nu21 hD) hS 0 (gM_0 cs ad nu21) rfl 17 (by decide) (hts _ (List.mem_cons_of_mem _ mw_5_58)) (fun _ h9 => h9) rfl (by decide +kernel) rfl rfl (Nat.le_of_ble_eq_true rfl) dX12_town_122 (fun H locs hP _ hS => ?_)
                  simp only [List.set_cons_succ, List.set_cons_zero] at hP
                  refine wr_gen (upd (nu21 0) 17 0) hP ((hM_0_17 cs ad _ _)) (fun nu25 hn25 hP => ?_)
                  have ok := tM_0_17 ok hn25 (by have h9 : (0 : Int32).toInt = 0 := rfl; exact ⟨by omega, by omega⟩)
                  have ez26 : 0 = nu25 0 13 := ez22.trans (up_f hn25 (by decide)).symm
                  have ez27 : 0 = nu25 0 14 := ez23.trans (up_f hn25 (by decide)).symm
                  have ez28 : 0 = nu25 0 15 := ez24.trans (up_f hn25 (by decide)).symm
                  have ez29 : 0 = nu25 0 17 := up_v hn25
                  refine lv_iconst (v := 0) hx hb dX12_town_125 (by decide) ?_
                  refine lv_istore_n (lv' := [(3, .int 0), (2, .int 0), (0, .ref (ad 0)), (1, .int vt)]) hx hb dX12_town_126 rfl hl (by decide) rfl (fun ls hl => ?_)
                  have loop127 : ∀ (n127 : Nat) (v3_127 : Int32) (nu127_ : Nat → Nat → Int32) (H : Heap) (locs : List Loc) (ls : Array Slot), (3 + 1 - v3_127.toInt).toNat < n127 → (0 ≤ v3_127.toInt ∧ v3_127.toInt ≤ 3) → okR loM hiM nu127_ → va_P (dC, dI) vwCl (wR 21 ad (EM cs ad) nu127_) H → va_S (va_A (wR 21 ad (EM cs ad) mu) s.heap.size) s.heap H locs → lv_has ls 4 [(3, .int v3_127), (2, .int 0), (0, .ref (ad 0)), (1, .int vt)] → W p l e (headSpec (wU yX12_town cX12_town 4 (some .int)) ({ frames := 3, cells := 0, slots := 0, locals := 67 })).room s m ([.ref (ad 0), .int vt] : List Value).toArray below meth c H locs 0 0 (MQ below (va_Qi (fun (z : Int32) (xi : Nat → Nat → Int32) => okR loM hiM xi ∧ (True) ∧ True) (fun xi t => va_P (dC, dI) vwCl (wR 21 ad (EM cs ad) xi) t.heap) (va_A (wR 21 ad (EM cs ad) mu) s.heap.size)) ([.ref (ad 0), .int vt] : List Value).toArray s 0 0 (va_A (wR 21 ad (EM cs ad) mu) s.heap.size)) (F0 m 127 ls []) := by
                    intro n127
                    induction n127 with
                    | zero => intro v3_127 nu127_ H locs ls hm; exact absurd hm (Nat.not_lt_zero _)
                    | succ n127 ih127 =>
                      intro v3_127 nu127_ H locs ls hm h_v3_127 ok hP hS hl
                      refine lv_iload_n hx hb dX12_town_127 rfl (lv_at hl 0 rfl) ?_
                      refine lv_iconst (v := 3) hx hb dX12_town_128 (by decide) ?_
                      refine lv_icmp_ge (tgt := 149) hx hb dX12_town_129 (by decide) (fun c_30 => ?_) (fun c_30 => ?_)
                      · have c_30 : 3 ≤ v3_127.toInt := il_le c_30
                        refine lv_aload_n hx hb dX12_town_149 rfl (lv_at hl 2 rfl) ?_
                        refine va_get (D := (dC, dI)) (ci := 12) (v := .int (nu127_ 0 8)) (C := RX12) (T := TX12) (N := 46) hx hb hts inG12 hown hK hP 0 (gM_0 cs ad nu127_) rfl 8 (by decide) (hts _ (List.mem_cons_of_mem _ mw_5_49)) (fun _ h9 => h9) rfl dX12_town_150 ?_
                        refine lv_topi (fun y31 ey31 => ?_)
                        have by31 : y31.toInt = (nu127_ 0 8).toInt := congrArg Int32.toInt ey31
                        have gy31 : 0 ≤ y31.toInt ∧ y31.toInt ≤ 7 := by rw [ey31]; exact rM_0_8 ok
                        exact W.iret (v := y31) hx hb hr (fun t ht hW => ⟨⟨y31, nu127_, rfl, ⟨ok, trivial, trivial⟩, by first | (subst ht; exact hP) | (rw [ht]; exact hP) | (show va_P (dC, dI) vwCl (wR 21 ad (EM cs ad) nu127_) t.heap; rw [ht]; exact hP)⟩, hS.F ht⟩) hS.2.2 dX12_town_153
                      · have c_30 : v3_127.toInt < 3 := il_nle c_30
                        refine lv_aload_n hx hb dX12_town_132 rfl (lv_at hl 2 rfl) ?_
                        refine va_get (D := (dC, dI)) (ci := 12) (v := .ref (ad 15)) (C := RX12) (T := TX12) (N := 46) hx hb hts inG12 hown hK hP 0 (gM_0 cs ad nu127_) rfl 25 (by decide) (hts _ (List.mem_cons_of_mem _ mw_5_66)) (fun _ h9 => h9) rfl dX12_town_133 ?_
                        refine lv_bipush (v := 64) hx hb dX12_town_136 (by decide) ?_
                        refine lv_iload_n hx hb dX12_town_138 rfl (lv_at hl 0 rfl) ?_
                        refine lv_imul hx hb dX12_town_139 ?_
                        refine lv_topi (fun t32 et32 => ?_)
                        have at32 : t32.toInt = 64 * v3_127.toInt := by rw [et32]; exact tI_mul (rfl : (64 : Int32).toInt = 64) (rfl : v3_127.toInt = _) (by omega) (by omega)
                        refine lv_bipush (v := (-9)) hx hb dX12_town_140 (by decide) ?_
                        refine va_iast hx hb hK hP (wR_D nu127_ hD) hS 15 0 (gM_15 cs ad nu127_) rfl (show vp_in t32 192 from vi_of (by omega) (by omega)) dX12_town_142 (fun H locs hP _ hS => ?_)
                        have hc33 : ((t32 : Int32).toNatClampNeg : Int) = t32.toInt := tC_of (by omega)
                        refine wr_gen (upd (nu127_ 15) t32.toNatClampNeg (-9)) hP (rfl) (fun nu34 hn34 hP => ?_)
                        have ok := tM_15_s ok t32.toNatClampNeg hn34 (by have h9 : ((-9) : Int32).toInt = -9 := rfl; refine ⟨fun c9 => ?_, fun c9 => ?_, fun c9 => ?_, fun c9 => ?_, fun c9 => ?_⟩ <;> omega)
                        refine lv_iinc (v := (v3_127 + 1)) (lv' := [(3, .int (v3_127 + 1)), (2, .int 0), (0, .ref (ad 0)), (1, .int vt)]) hx hb dX12_town_143 hl (k := 0) rfl rfl (by decide) rfl (fun ls hl => ?_)
                        refine loc_gen (P := fun w9 => lv_has ls 4 [(3, .int w9), (2, .int 0), (0, .ref (ad 0)), (1, .int vt)]) (v3_127 + 1) hl (fun w35 hw35 hl => ?_)
                        have hl : lv_has ls 4 [(3, .int w35), (2, .int 0), (0, .ref (ad 0)), (1, .int vt)] := hl
                        have aw35 : w35.toInt = v3_127.toInt + 1 := by rw [← hw35]; exact tI_add (rfl : v3_127.toInt = _) (rfl : (1 : Int32).toInt = 1) (by omega) (by omega)
                        refine lv_goto (tgt := 127) hx hb dX12_town_146 (by decide) ?_
                        exact ih127 (w35) nu34 _ _ _ (by omega) (by exact ⟨by omega, by omega⟩)  ok hP   hS (lv_sub hl [0, 1, 2, 3] rfl)
                  exact loop127 ((3 + 1 - (0 : Int32).toInt).toNat + 1) (0) nu25 _ _ _ (Nat.lt_succ_self _) (by have h80 : (0 : Int32).toInt = 0 := rfl; exact ⟨by omega, by omega⟩)  ok hP   hS hl
                · have c_15 : v3_81.toInt < 24 := il_nle c_15
                  refine lv_aload_n hx hb dX12_town_87 rfl (lv_at hl 2 rfl) ?_
                  refine va_get (D := (dC, dI)) (ci := 12) (v := .ref (ad 9)) (C := RX12) (T := TX12) (N := 46) hx hb hts inG12 hown hK hP 0 (gM_0 cs ad nu81_) rfl 12 (by decide) (hts _ (List.mem_cons_of_mem _ mw_5_53)) (fun _ h9 => h9) rfl dX12_town_88 ?_
                  refine lv_iload_n hx hb dX12_town_91 rfl (lv_at hl 0 rfl) ?_
                  refine lv_aload_n hx hb dX12_town_92 rfl (lv_at hl 2 rfl) ?_
                  refine va_get (D := (dC, dI)) (ci := 12) (v := .ref (ad 13)) (C := RX12) (T := TX12) (N := 46) hx hb hts inG12 hown hK hP 0 (gM_0 cs ad nu81_) rfl 23 (by decide) (hts _ (List.mem_cons_of_mem _ mw_5_64)) (fun _ h9 => h9) rfl dX12_town_93 ?_
                  refine lv_iload_n hx hb dX12_town_96 rfl (lv_at hl 0 rfl) ?_
                  refine va_iald hx hb hK hP 13 0 (gM_13 cs ad nu81_) rfl (show vp_in v3_81 24 from vi_of (by omega) (by omega)) dX12_town_97 ?_
                  refine lv_topi (fun y36 ey36 => ?_)
                  have by36 : y36.toInt = (nu81_ 13 v3_81.toNatClampNeg).toInt := congrArg Int32.toInt ey36
                  refine va_iast hx hb hK hP (wR_D nu81_ hD) hS 9 0 (gM_9 cs ad nu81_) rfl (show vp_in v3_81 24 from vi_of (by omega) (by omega)) dX12_town_98 (fun H locs hP _ hS => ?_)
                  refine wr_gen (upd (nu81_ 9) v3_81.toNatClampNeg y36) hP (rfl) (fun nu37 hn37 hP => ?_)
                  have ok := tM_9_s ok v3_81.toNatClampNeg hn37
                  have ez38 : y36 = nu37 13 v3_81.toNatClampNeg := ey36.trans (congrFun (up_k hn37 (by decide)) v3_81.toNatClampNeg).symm
                  refine lv_iinc (v := (v3_81 + 1)) (lv' := [(3, .int (v3_81 + 1)), (2, .int 0), (0, .ref (ad 0)), (1, .int vt)]) hx hb dX12_town_99 hl (k := 0) rfl rfl (by decide) rfl (fun ls hl => ?_)
                  refine loc_gen (P := fun w9 => lv_has ls 4 [(3, .int w9), (2, .int 0), (0, .ref (ad 0)), (1, .int vt)]) (v3_81 + 1) hl (fun w39 hw39 hl => ?_)
                  have hl : lv_has ls 4 [(3, .int w39), (2, .int 0), (0, .ref (ad 0)), (1, .int vt)] := hl
                  have aw39 : w39.toInt = v3_81.toInt + 1 := by rw [← hw39]; exact tI_add (rfl : v3_81.toInt = _) (rfl : (1 : Int32).toInt = 1) (by omega) (by omega)
                  refine lv_goto (tgt := 81) hx hb dX12_town_102 (by decide) ?_
                  exact ih81 (w39) nu37 _ _ _ (by omega) (by exact ⟨by omega, by omega⟩)  ok hP   hS (lv_sub hl [0, 1, 2, 3] rfl)
            exact loop81 ((24 + 1 - (0 : Int32).toInt).toNat + 1) (0) nu43_ _ _ _ (Nat.lt_succ_self _) (by have h80 : (0 : Int32).toInt = 0 := rfl; exact ⟨by omega, by omega⟩)  ok hP   hS hl
          · have c_14 : v3_43.toInt < 7 := il_nle c_14
            refine lv_aload_n hx hb dX12_town_49 rfl (lv_at hl 2 rfl) ?_
            refine va_get (D := (dC, dI)) (ci := 12) (v := .ref (ad 7)) (C := RX12) (T := TX12) (N := 46) hx hb hts inG12 hown hK hP 0 (gM_0 cs ad nu43_) rfl 9 (by decide) (hts _ (List.mem_cons_of_mem _ mw_5_50)) (fun _ h9 => h9) rfl dX12_town_50 ?_
            refine lv_iload_n hx hb dX12_town_53 rfl (lv_at hl 0 rfl) ?_
            refine lv_aload_n hx hb dX12_town_54 rfl (lv_at hl 2 rfl) ?_
            refine va_get (D := (dC, dI)) (ci := 12) (v := .ref (ad 11)) (C := RX12) (T := TX12) (N := 46) hx hb hts inG12 hown hK hP 0 (gM_0 cs ad nu43_) rfl 21 (by decide) (hts _ (List.mem_cons_of_mem _ mw_5_62)) (fun _ h9 => h9) rfl dX12_town_55 ?_
            refine lv_iload_n hx hb dX12_town_58 rfl (lv_at hl 0 rfl) ?_
            refine va_iald hx hb hK hP 11 0 (gM_11 cs ad nu43_) rfl (show vp_in v3_43 7 from vi_of (by omega) (by omega)) dX12_town_59 ?_
            refine lv_topi (fun y40 ey40 => ?_)
            have by40 : y40.toInt = (nu43_ 11 v3_43.toNatClampNeg).toInt := congrArg Int32.toInt ey40
            refine va_iast hx hb hK hP (wR_D nu43_ hD) hS 7 0 (gM_7 cs ad nu43_) rfl (show vp_in v3_43 7 from vi_of (by omega) (by omega)) dX12_town_60 (fun H locs hP _ hS => ?_)
            refine wr_gen (upd (nu43_ 7) v3_43.toNatClampNeg y40) hP (rfl) (fun nu41 hn41 hP => ?_)
            have ok := tM_7_s ok v3_43.toNatClampNeg hn41
            have ez42 : y40 = nu41 11 v3_43.toNatClampNeg := ey40.trans (congrFun (up_k hn41 (by decide)) v3_43.toNatClampNeg).symm
            refine lv_aload_n hx hb dX12_town_61 rfl (lv_at hl 2 rfl) ?_
            refine va_get (D := (dC, dI)) (ci := 12) (v := .ref (ad 8)) (C := RX12) (T := TX12) (N := 46) hx hb hts inG12 hown hK hP 0 (gM_0 cs ad nu41) rfl 10 (by decide) (hts _ (List.mem_cons_of_mem _ mw_5_51)) (fun _ h9 => h9) rfl dX12_town_62 ?_
            refine lv_iload_n hx hb dX12_town_65 rfl (lv_at hl 0 rfl) ?_
            refine lv_aload_n hx hb dX12_town_66 rfl (lv_at hl 2 rfl) ?_
            refine va_get (D := (dC, dI)) (ci := 12) (v := .ref (ad 12)) (C := RX12) (T := TX12) (N := 46) hx hb hts inG12 hown hK hP 0 (gM_0 cs ad nu41) rfl 22 (by decide) (hts _ (List.mem_cons_of_mem _ mw_5_63)) (fun _ h9 => h9) rfl dX12_town_67 ?_
            refine lv_iload_n hx hb dX12_town_70 rfl (lv_at hl 0 rfl) ?_
            refine va_iald hx hb hK hP 12 0 (gM_12 cs ad nu41) rfl (show vp_in v3_43 7 from vi_of (by omega) (by omega)) dX12_town_71 ?_
            refine lv_topi (fun y43 ey43 => ?_)
            have by43 : y43.toInt = (nu41 12 v3_43.toNatClampNeg).toInt := congrArg Int32.toInt ey43
            refine va_iast hx hb hK hP (wR_D nu41 hD) hS 8 0 (gM_8 cs ad nu41) rfl (show vp_in v3_43 7 from vi_of (by omega) (by omega)) dX12_town_72 (fun H locs hP _ hS => ?_)
            refine wr_gen (upd (nu41 8) v3_43.toNatClampNeg y43) hP (rfl) (fun nu44 hn44 hP => ?_)
            have ok := tM_8_s ok v3_43.toNatClampNeg hn44
            have ez45 : y40 = nu44 11 v3_43.toNatClampNeg := ez42.trans (congrFun (up_k hn44 (by decide)) v3_43.toNatClampNeg).symm
            have ez46 : y43 = nu44 12 v3_43.toNatClampNeg := ey43.trans (congrFun (up_k hn44 (by decide)) v3_43.toNatClampNeg).symm
            refine lv_iinc (v := (v3_43 + 1)) (lv' := [(3, .int (v3_43 + 1)), (2, .int 0), (0, .ref (ad 0)), (1, .int vt)]) hx hb dX12_town_73 hl (k := 0) rfl rfl (by decide) rfl (fun ls hl => ?_)
            refine loc_gen (P := fun w9 => lv_has ls 4 [(3, .int w9), (2, .int 0), (0, .ref (ad 0)), (1, .int vt)]) (v3_43 + 1) hl (fun w47 hw47 hl => ?_)
            have hl : lv_has ls 4 [(3, .int w47), (2, .int 0), (0, .ref (ad 0)), (1, .int vt)] := hl
            have aw47 : w47.toInt = v3_43.toInt + 1 := by rw [← hw47]; exact tI_add (rfl : v3_43.toInt = _) (rfl : (1 : Int32).toInt = 1) (by omega) (by omega)
            refine lv_goto (tgt := 43) hx hb dX12_town_76 (by decide) ?_
            exact ih43 (w47) nu44 _ _ _ (by omega) (by exact ⟨by omega, by omega⟩)  ok hP   hS (lv_sub hl [0, 1, 2, 3] rfl)
      exact loop43 ((7 + 1 - (0 : Int32).toInt).toNat + 1) (0) nu9 _ _ _ (Nat.lt_succ_self _) (by have h80 : (0 : Int32).toInt = 0 := rfl; exact ⟨by omega, by omega⟩)  ok hP   hS hl
    · have c_3 : ¬ r2.toInt = -9 := il_ne c_3
      refine lv_bipush (v := (-4)) hx hb dX12_town_22 (by decide) ?_
      exact W.iret (v := (-4)) hx hb hr (fun t ht hW => ⟨⟨(-4), xi2, rfl, ⟨ok, trivial, trivial⟩, by first | (subst ht; exact hP) | (rw [ht]; exact hP) | (show va_P (dC, dI) vwCl (wR 21 ad (EM cs ad) xi2) t.heap; rw [ht]; exact hP)⟩, hS.F ht⟩) hS.2.2 dX12_town_24
  · skip
    refine lv_istore_n (lv' := [(2, .int r1), (0, .ref (ad 0)), (1, .int vt)]) hx hb dX12_town_5 rfl hl (by decide) rfl (fun ls hl => ?_)
    refine lv_iload_n hx hb dX12_town_6 rfl (lv_at hl 0 rfl) ?_
    refine lv_if_ge (tgt := 12) hx hb dX12_town_7 (by decide) (fun c_48 => by have c_48 : 0 ≤ r1.toInt := il_le c_48; exfalso; omega) (fun c_48 => ?_)
    have c_48 : r1.toInt < 0 := il_nle c_48
    refine lv_iload_n hx hb dX12_town_10 rfl (lv_at hl 0 rfl) ?_
    exact W.iret (v := r1) hx hb hr (fun t ht hW => ⟨⟨r1, xi1, rfl, ⟨ok, trivial, trivial⟩, by first | (subst ht; exact hP) | (rw [ht]; exact hP) | (show va_P (dC, dI) vwCl (wR 21 ad (EM cs ad) xi1) t.heap; rw [ht]; exact hP)⟩, hS.F ht⟩) hS.2.2 dX12_town_11
