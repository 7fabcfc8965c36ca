set_option maxHeartbeats 4000000 in
set_option maxRecDepth 100000 in
/-- sm_isOne -/
theorem sm_isOne (l : Launch) (dC : Nat → ClassId) (dI : Nat → Nat → Nat) (cs : Nat → ClassId) (ad : Nat → Nat) (mu : Nat → Nat → Int32) (ok : okR loM hiM mu) (H : Heap) (hP : va_P (dC, dI) vwCl (wR 21 ad (EM cs ad) mu) H) (vx : Int32) : Met l yX12_isOne (wU yX12_isOne cX12_isOne 2 (some .boolean)) ({ frames := 1, cells := 0, slots := 0, locals := 22 }) (va_Pc [.ref (ad 0), .int vx] (sz_P (dC, dI) vwCl (tyM cs) H)) (va_Qi (fun (z : Int32) (_ : Unit) => z = F_sm_isOne mu vx ∧ ((z = 1 ∧ (0 ≤ vx.toInt ∧ vx.toInt < (mu 0 8).toInt ∧ (mu 0 8).toInt ≤ 7)) ∨ (z = 0 ∧ (vx.toInt < 0 ∨ (mu 0 8).toInt ≤ vx.toInt)))) (fun _ t => t.heap = H) (fun _ => False)) 0 0 (fun _ => False) := by
  refine Met.ofW (cc := cX12_isOne) (maxL := 2) (ret := (some .boolean)) (by decide) rfl ?_
  intro p e s m args below meth c s₁ B hml hv
  obtain ⟨rfl, hh, hK, hz⟩ := hv
  have hx := B.exec
  have hb := B.bytes
  have hr := B.returns
  have hts := atoms_spec (ws := (wU yX12_isOne cX12_isOne 2 (some .boolean))) B.pre
  have hown : s.vm.findClass RX12 = some m.cls := findClass_of_methodNamed B.named
  have hlocks := B.notSynchronized
  subst hh
  have hS : va_S (fun _ => False) s.heap s.heap [] := va_S.rf
  have hl := lv_entry ([.ref (ad 0), .int vx]) (n := 2) (Nat.le_of_ble_eq_true rfl)
  rw [lg_entry_eq]
  generalize (lg_sl ([.ref (ad 0), .int vx]) ++ List.replicate (2 - (lg_sl ([.ref (ad 0), .int vx])).length) Slot.unset).toArray = ls at hl ⊢
  have hl : lv_has ls 2 [(0, .ref (ad 0)), (1, .int vx)] := hl
  obtain ⟨fz, hfz⟩ : ∃ z, F_sm_isOne mu vx = z := ⟨_, rfl⟩
  have hF := hfz
  unfold F_sm_isOne at hF
  refine lv_iload_n hx hb dX12_isOne_0 rfl (lv_at hl 1 rfl) ?_
  refine lv_iconst (v := 0) hx hb dX12_isOne_1 (by decide) ?_
  refine lv_aload_n hx hb dX12_isOne_2 rfl (lv_at hl 0 rfl) ?_
  refine va_get (D := (dC, dI)) (ci := 12) (v := .int (mu 0 8)) (C := RX12) (T := TX12) (N := 46) hx hb hts inG12 hown hK hP 0 (gM_0 cs ad mu) rfl 8 (by decide) (hts _ (List.mem_cons_of_mem _ mw_5_49)) (fun _ h9 => h9) rfl dX12_isOne_3 ?_
  refine lv_topi (fun y1 ey1 => ?_)
  have hF := mi_let hF ey1
  have by1 : y1.toInt = (mu 0 8).toInt := congrArg Int32.toInt ey1
  have gy1 : 0 ≤ y1.toInt ∧ y1.toInt ≤ 7 := by rw [ey1]; exact rM_0_8 ok
  refine lv_iconst (v := 1) hx hb dX12_isOne_6 (by decide) ?_
  refine lv_isub hx hb dX12_isOne_7 ?_
  refine lv_topi (fun t2 et2 => ?_)
  have hF := mi_let hF et2
  have at2 : t2.toInt = y1.toInt - 1 := by rw [et2]; exact tI_sub (rfl : y1.toInt = _) (rfl : (1 : Int32).toInt = 1) (by omega) (by omega)
  refine cr_i (va_runS (As := [.int vx, .int 0, .int t2]) (rest := []) ⟨hx, hb, hml, hown, hts⟩ (sm_in l dC dI (tyM cs) s.heap vx 0 t2) (va_cwS 3 hts (wU_S mw_5_189 mw_5_187 mw_5_188 mw_1_13) rfl rfl rfl (by decide +kernel) ⟨Nat.le_of_ble_eq_true rfl, Nat.le_of_ble_eq_true rfl⟩) ⟨sz_c, sz_m hK hz⟩ rfl rfl hl.1 rfl (lv_room (Nat.le_of_ble_eq_true rfl)) dX12_isOne_8 ⟨Nat.zero_le _, Nat.zero_le _⟩) hS (fun r3 hw3 locs hS => ?_)
  obtain ⟨hfe3, hw3⟩ := hw3
  rcases hw3 with ⟨rfl, f3⟩ | ⟨rfl, f3⟩
  · have hF := (if_pos hfe3.symm).symm.trans hF
    have f3 : (0 : Int) ≤ vx.toInt ∧ vx.toInt ≤ t2.toInt := f3
    exact W.zret (v := 1) (ty := .boolean) hx hb hr (by first | rfl | decide) (fun t ht hW => ⟨⟨1, (), rfl, ⟨hF.trans hfz.symm, (Or.inl ⟨rfl, by have hb4 := congrArg Int32.toInt ey1; omega⟩)⟩, ht⟩, hS.F ht⟩) hS.2.2 dX12_isOne_11
  · have hF := (if_neg (fun h => absurd (hfe3.trans h) (by decide))).symm.trans hF
    have f3 : vx.toInt < (0 : Int) ∨ t2.toInt < vx.toInt := f3
    exact W.zret (v := 0) (ty := .boolean) hx hb hr (by first | rfl | decide) (fun t ht hW => ⟨⟨0, (), rfl, ⟨hF.trans hfz.symm, (Or.inr ⟨rfl, by have hb5 := congrArg Int32.toInt ey1; omega⟩)⟩, ht⟩, hS.F ht⟩) hS.2.2 dX12_isOne_11
set_option maxHeartbeats 4000000 in
set_option maxRecDepth 100000 in
/-- sm_areTwo -/
theorem sm_areTwo (l : Launch) (dC : Nat → ClassId) (dI : Nat → Nat → Nat) (cs : Nat → ClassId) (ad : Nat → Nat) (mu : Nat → Nat → Int32) (ok : okR loM hiM mu) (H : Heap) (hP : va_P (dC, dI) vwCl (wR 21 ad (EM cs ad) mu) H) (vx : Int32) (vy : Int32) : Met l yX12_areTwo (wU yX12_areTwo cX12_areTwo 3 (some .boolean)) ({ frames := 2, cells := 0, slots := 0, locals := 43 }) (va_Pc [.ref (ad 0), .int vx, .int vy] (sz_P (dC, dI) vwCl (tyM cs) H)) (va_Qi (fun (z : Int32) (_ : Unit) => z = F_sm_areTwo mu vx vy ∧ ((z = 1 ∧ (0 ≤ vx.toInt ∧ vx.toInt < (mu 0 8).toInt ∧ 0 ≤ vy.toInt ∧ vy.toInt < (mu 0 8).toInt ∧ (mu 0 8).toInt ≤ 7)) ∨ (z = 0 ∧ (True)))) (fun _ t => t.heap = H) (fun _ => False)) 0 0 (fun _ => False) := by
  refine Met.ofW (cc := cX12_areTwo) (maxL := 3) (ret := (some .boolean)) (by decide) rfl ?_
  intro p e s m args below meth c s₁ B hml hv
  obtain ⟨rfl, hh, hK, hz⟩ := hv
  have hx := B.exec
  have hb := B.bytes
  have hr := B.returns
  have hts := atoms_spec (ws := (wU yX12_areTwo cX12_areTwo 3 (some .boolean))) B.pre
  have hown : s.vm.findClass RX12 = some m.cls := findClass_of_methodNamed B.named
  have hlocks := B.notSynchronized
  subst hh
  have hS : va_S (fun _ => False) s.heap s.heap [] := va_S.rf
  have hl := lv_entry ([.ref (ad 0), .int vx, .int vy]) (n := 3) (Nat.le_of_ble_eq_true rfl)
  rw [lg_entry_eq]
  generalize (lg_sl ([.ref (ad 0), .int vx, .int vy]) ++ List.replicate (3 - (lg_sl ([.ref (ad 0), .int vx, .int vy])).length) Slot.unset).toArray = ls at hl ⊢
  have hl : lv_has ls 3 [(0, .ref (ad 0)), (1, .int vx), (2, .int vy)] := hl
  obtain ⟨fz, hfz⟩ : ∃ z, F_sm_areTwo mu vx vy = z := ⟨_, rfl⟩
  have hF := hfz
  unfold F_sm_areTwo at hF
  refine lv_aload_n hx hb dX12_areTwo_0 rfl (lv_at hl 0 rfl) ?_
  refine lv_iload_n hx hb dX12_areTwo_1 rfl (lv_at hl 1 rfl) ?_
  refine cr_i (va_runV (As := [.int vx]) (rest := []) ⟨hx, hb, hml, hown, hts⟩ (sm_isOne l dC dI cs ad mu ok s.heap hP vx) (cwV 1 hts (wU_V mw_6_40 mw_6_37 mw_6_39 mw_0_36 mw_1_13) rfl rfl rfl (by decide +kernel) ⟨Nat.le_of_ble_eq_true rfl, Nat.le_of_ble_eq_true rfl⟩) ⟨sz_c, va_recv hK hP (ci := 12) (q0 := 0) rfl (gM_0 cs ad mu), sz_m hK hz⟩ rfl rfl hl.1 rfl (lv_room (Nat.le_of_ble_eq_true rfl)) dX12_areTwo_2 ⟨Nat.zero_le _, Nat.zero_le _⟩) hS (fun r1 hw1 locs hS => ?_)
  obtain ⟨hfe1, hw1⟩ := hw1
  rcases hw1 with ⟨rfl, f1⟩ | ⟨rfl, f1⟩
  · have hF := (if_pos hfe1.symm).symm.trans hF
    have f1 : 0 ≤ vx.toInt ∧ vx.toInt < (mu 0 8).toInt ∧ (mu 0 8).toInt ≤ 7 := f1
    refine lv_if_eq (tgt := 25) hx hb dX12_areTwo_5 (by decide) (fun c => absurd c (by decide)) (fun _ => ?_)
    refine lv_aload_n hx hb dX12_areTwo_8 rfl (lv_at hl 0 rfl) ?_
    refine lv_iload_n hx hb dX12_areTwo_9 rfl (lv_at hl 2 rfl) ?_
    refine cr_i (va_runV (As := [.int vy]) (rest := []) ⟨hx, hb, hml, hown, hts⟩ (sm_isOne l dC dI cs ad mu ok s.heap hP vy) (cwV 1 hts (wU_V mw_6_40 mw_6_37 mw_6_39 mw_0_36 mw_1_13) rfl rfl rfl (by decide +kernel) ⟨Nat.le_of_ble_eq_true rfl, Nat.le_of_ble_eq_true rfl⟩) ⟨sz_c, va_recv hK hP (ci := 12) (q0 := 0) rfl (gM_0 cs ad mu), sz_m hK hz⟩ rfl rfl hl.1 rfl (lv_room (Nat.le_of_ble_eq_true rfl)) dX12_areTwo_10 ⟨Nat.zero_le _, Nat.zero_le _⟩) hS (fun r2 hw2 locs hS => ?_)
    obtain ⟨hfe2, hw2⟩ := hw2
    rcases hw2 with ⟨rfl, f2⟩ | ⟨rfl, f2⟩
    · have hF := (if_pos hfe2.symm).symm.trans hF
      have f2 : 0 ≤ vy.toInt ∧ vy.toInt < (mu 0 8).toInt ∧ (mu 0 8).toInt ≤ 7 := f2
      refine lv_if_eq (tgt := 25) hx hb dX12_areTwo_13 (by decide) (fun c => absurd c (by decide)) (fun _ => ?_)
      refine lv_iload_n hx hb dX12_areTwo_16 rfl (lv_at hl 1 rfl) ?_
      refine lv_iload_n hx hb dX12_areTwo_17 rfl (lv_at hl 2 rfl) ?_
      refine lv_icmp_eq (tgt := 25) hx hb dX12_areTwo_18 (by decide) (fun c_3 => ?_) (fun c_3 => ?_)
      · have hF := (if_pos c_3).symm.trans hF
        have c_3 : vx.toInt = vy.toInt := il_eq c_3
        refine lv_iconst (v := 0) hx hb dX12_areTwo_25 (by decide) ?_
        exact W.zret (v := 0) (ty := .boolean) hx hb hr (by first | rfl | decide) (fun t ht hW => ⟨⟨0, (), rfl, ⟨hF.trans hfz.symm, (Or.inr ⟨rfl, by trivial⟩)⟩, ht⟩, hS.F ht⟩) hS.2.2 dX12_areTwo_26
      · have hF := (if_neg c_3).symm.trans hF
        have c_3 : ¬ vx.toInt = vy.toInt := il_ne c_3
        refine lv_iconst (v := 1) hx hb dX12_areTwo_21 (by decide) ?_
        refine lv_goto (tgt := 26) hx hb dX12_areTwo_22 (by decide) ?_
        exact W.zret (v := 1) (ty := .boolean) hx hb hr (by first | rfl | decide) (fun t ht hW => ⟨⟨1, (), rfl, ⟨hF.trans hfz.symm, (Or.inl ⟨rfl, by omega⟩)⟩, ht⟩, hS.F ht⟩) hS.2.2 dX12_areTwo_26
    · have hF := (if_neg (fun h => absurd (hfe2.trans h) (by decide))).symm.trans hF
      have f2 : vy.toInt < 0 ∨ (mu 0 8).toInt ≤ vy.toInt := f2
      refine lv_if_eq (tgt := 25) hx hb dX12_areTwo_13 (by decide) (fun _ => ?_) (fun c => absurd (by decide) c)
      refine lv_iconst (v := 0) hx hb dX12_areTwo_25 (by decide) ?_
      exact W.zret (v := 0) (ty := .boolean) hx hb hr (by first | rfl | decide) (fun t ht hW => ⟨⟨0, (), rfl, ⟨hF.trans hfz.symm, (Or.inr ⟨rfl, by trivial⟩)⟩, ht⟩, hS.F ht⟩) hS.2.2 dX12_areTwo_26
  · have hF := (if_neg (fun h => absurd (hfe1.trans h) (by decide))).symm.trans hF
    have f1 : vx.toInt < 0 ∨ (mu 0 8).toInt ≤ vx.toInt := f1
    refine lv_if_eq (tgt := 25) hx hb dX12_areTwo_5 (by decide) (fun _ => ?_) (fun c => absurd (by decide) c)
    refine lv_iconst (v := 0) hx hb dX12_areTwo_25 (by decide) ?_
    exact W.zret (v := 0) (ty := .boolean) hx hb hr (by first | rfl | decide) (fun t ht hW => ⟨⟨0, (), rfl, ⟨hF.trans hfz.symm, (Or.inr ⟨rfl, by trivial⟩)⟩, ht⟩, hS.F ht⟩) hS.2.2 dX12_areTwo_26
set_option maxHeartbeats 4000000 in
set_option maxRecDepth 100000 in
/-- sm_isA -/
theorem sm_isA (l : Launch) (dC : Nat → ClassId) (dI : Nat → Nat → Nat) (cs : Nat → ClassId) (ad : Nat → Nat) (mu : Nat → Nat → Int32) (ok : okR loM hiM mu) (H : Heap) (hP : va_P (dC, dI) vwCl (wR 21 ad (EM cs ad) mu) H) (vx : Int32) (vd : Int32) (hin0 : 0 ≤ vx.toInt ∧ vx.toInt ≤ 6) : Met l yX12_isA (wU yX12_isA cX12_isA 3 (some .boolean)) ({ frames := 0, cells := 0, slots := 0, locals := 0 }) (va_Pc [.ref (ad 0), .int vx, .int vd] (sz_P (dC, dI) vwCl (tyM cs) H)) (va_Qi (fun (z : Int32) (_ : Unit) => z = F_sm_isA mu vx vd ∧ (0 ≤ z.toInt ∧ z.toInt ≤ 1)) (fun _ t => t.heap = H) (fun _ => False)) 0 0 (fun _ => False) := by
  refine Met.ofW (cc := cX12_isA) (maxL := 3) (ret := (some .boolean)) (by decide) rfl ?_
  intro p e s m args below meth c s₁ B hml hv
  obtain ⟨rfl, hh, hK, hz⟩ := hv
  have hx := B.exec
  have hb := B.bytes
  have hr := B.returns
  have hts := atoms_spec (ws := (wU yX12_isA cX12_isA 3 (some .boolean))) B.pre
  have hown : s.vm.findClass RX12 = some m.cls := findClass_of_methodNamed B.named
  have hlocks := B.notSynchronized
  subst hh
  have hS : va_S (fun _ => False) s.heap s.heap [] := va_S.rf
  have hl := lv_entry ([.ref (ad 0), .int vx, .int vd]) (n := 3) (Nat.le_of_ble_eq_true rfl)
  rw [lg_entry_eq]
  generalize (lg_sl ([.ref (ad 0), .int vx, .int vd]) ++ List.replicate (3 - (lg_sl ([.ref (ad 0), .int vx, .int vd])).length) Slot.unset).toArray = ls at hl ⊢
  have hl : lv_has ls 3 [(0, .ref (ad 0)), (1, .int vx), (2, .int vd)] := hl
  obtain ⟨fz, hfz⟩ : ∃ z, F_sm_isA mu vx vd = z := ⟨_, rfl⟩
  have hF := hfz
  unfold F_sm_isA at hF
  refine lv_aload_n hx hb dX12_isA_0 rfl (lv_at hl 0 rfl) ?_
  refine va_get (D := (dC, dI)) (ci := 12) (v := .ref (ad 7)) (C := RX12) (T := TX12) (N := 46) hx hb hts inG12 hown hK hP 0 (gM_0 cs ad mu) rfl 9 (by decide) (hts _ (List.mem_cons_of_mem _ mw_5_50)) (fun _ h9 => h9) rfl dX12_isA_1 ?_
  refine lv_iload_n hx hb dX12_isA_4 rfl (lv_at hl 1 rfl) ?_
  refine va_iald hx hb hK hP 7 0 (gM_7 cs ad mu) rfl (show vp_in vx 7 from vi_of (by omega) (by omega)) dX12_isA_5 ?_
  refine lv_topi (fun y1 ey1 => ?_)
  have hF := mi_let hF ey1
  have by1 : y1.toInt = (mu 7 vx.toNatClampNeg).toInt := congrArg Int32.toInt ey1
  refine lv_iload_n hx hb dX12_isA_6 rfl (lv_at hl 2 rfl) ?_
  refine lv_icmp_eq (tgt := 40) hx hb dX12_isA_7 (by decide) (fun c_2 => ?_) (fun c_2 => ?_)
  · have hF := (if_pos c_2).symm.trans hF
    have c_2 : y1.toInt = vd.toInt := il_eq c_2
    refine lv_iconst (v := 1) hx hb dX12_isA_40 (by decide) ?_
    refine lv_goto (tgt := 45) hx hb dX12_isA_41 (by decide) ?_
    exact W.zret (v := 1) (ty := .boolean) hx hb hr (by first | rfl | decide) (fun t ht hW => ⟨⟨1, (), rfl, ⟨hF.trans hfz.symm, (by have h6 : (1 : Int32).toInt = 1 := rfl; omega)⟩, ht⟩, hS.F ht⟩) hS.2.2 dX12_isA_45
  · have hF := (if_neg c_2).symm.trans hF
    have c_2 : ¬ y1.toInt = vd.toInt := il_ne c_2
    refine lv_iload_n hx hb dX12_isA_10 rfl (lv_at hl 2 rfl) ?_
    refine lv_iconst (v := 1) hx hb dX12_isA_11 (by decide) ?_
    refine lv_icmp_ne (tgt := 25) hx hb dX12_isA_12 (by decide) (fun c_3 => ?_) (fun c_3 => ?_)
    · have hF := (if_neg c_3).symm.trans hF
      have c_3 : ¬ vd.toInt = 1 := il_ne c_3
      refine lv_iload_n hx hb dX12_isA_25 rfl (lv_at hl 2 rfl) ?_
      refine lv_iconst (v := 2) hx hb dX12_isA_26 (by decide) ?_
      refine lv_icmp_ne (tgt := 44) hx hb dX12_isA_27 (by decide) (fun c_4 => ?_) (fun c_4 => ?_)
      · have hF := (if_neg c_4).symm.trans hF
        have c_4 : ¬ vd.toInt = 2 := il_ne c_4
        refine lv_iconst (v := 0) hx hb dX12_isA_44 (by decide) ?_
        exact W.zret (v := 0) (ty := .boolean) hx hb hr (by first | rfl | decide) (fun t ht hW => ⟨⟨0, (), rfl, ⟨hF.trans hfz.symm, (by have h6 : (0 : Int32).toInt = 0 := rfl; omega)⟩, ht⟩, hS.F ht⟩) hS.2.2 dX12_isA_45
      · have hF := (if_pos c_4).symm.trans hF
        have c_4 : vd.toInt = 2 := il_eq c_4
        refine lv_aload_n hx hb dX12_isA_30 rfl (lv_at hl 0 rfl) ?_
        refine va_get (D := (dC, dI)) (ci := 12) (v := .ref (ad 7)) (C := RX12) (T := TX12) (N := 46) hx hb hts inG12 hown hK hP 0 (gM_0 cs ad mu) rfl 9 (by decide) (hts _ (List.mem_cons_of_mem _ mw_5_50)) (fun _ h9 => h9) rfl dX12_isA_31 ?_
        refine lv_iload_n hx hb dX12_isA_34 rfl (lv_at hl 1 rfl) ?_
        refine va_iald hx hb hK hP 7 0 (gM_7 cs ad mu) rfl (show vp_in vx 7 from vi_of (by omega) (by omega)) dX12_isA_35 ?_
        refine lq_i y1 ey1.symm ?_
        refine lv_iconst (v := 5) hx hb dX12_isA_36 (by decide) ?_
        refine lv_icmp_ne (tgt := 44) hx hb dX12_isA_37 (by decide) (fun c_5 => ?_) (fun c_5 => ?_)
        · have hF := (if_neg c_5).symm.trans hF
          have c_5 : ¬ y1.toInt = 5 := il_ne c_5
          refine lv_iconst (v := 0) hx hb dX12_isA_44 (by decide) ?_
          exact W.zret (v := 0) (ty := .boolean) hx hb hr (by first | rfl | decide) (fun t ht hW => ⟨⟨0, (), rfl, ⟨hF.trans hfz.symm, (by have h6 : (0 : Int32).toInt = 0 := rfl; omega)⟩, ht⟩, hS.F ht⟩) hS.2.2 dX12_isA_45
        · have hF := (if_pos c_5).symm.trans hF
          have c_5 : y1.toInt = 5 := il_eq c_5
          refine lv_iconst (v := 1) hx hb dX12_isA_40 (by decide) ?_
          refine lv_goto (tgt := 45) hx hb dX12_isA_41 (by decide) ?_
          exact W.zret (v := 1) (ty := .boolean) hx hb hr (by first | rfl | decide) (fun t ht hW => ⟨⟨1, (), rfl, ⟨hF.trans hfz.symm, (by have h6 : (1 : Int32).toInt = 1 := rfl; omega)⟩, ht⟩, hS.F ht⟩) hS.2.2 dX12_isA_45
    · have hF := (if_pos c_3).symm.trans hF
      have c_3 : vd.toInt = 1 := il_eq c_3
      refine lv_aload_n hx hb dX12_isA_15 rfl (lv_at hl 0 rfl) ?_
      refine va_get (D := (dC, dI)) (ci := 12) (v := .ref (ad 7)) (C := RX12) (T := TX12) (N := 46) hx hb hts inG12 hown hK hP 0 (gM_0 cs ad mu) rfl 9 (by decide) (hts _ (List.mem_cons_of_mem _ mw_5_50)) (fun _ h9 => h9) rfl dX12_isA_16 ?_
      refine lv_iload_n hx hb dX12_isA_19 rfl (lv_at hl 1 rfl) ?_
      refine va_iald hx hb hK hP 7 0 (gM_7 cs ad mu) rfl (show vp_in vx 7 from vi_of (by omega) (by omega)) dX12_isA_20 ?_
      refine lq_i y1 ey1.symm ?_
      refine lv_iconst (v := 4) hx hb dX12_isA_21 (by decide) ?_
      refine lv_icmp_eq (tgt := 40) hx hb dX12_isA_22 (by decide) (fun c_6 => ?_) (fun c_6 => ?_)
      · have hF := (if_pos c_6).symm.trans hF
        have c_6 : y1.toInt = 4 := il_eq c_6
        refine lv_iconst (v := 1) hx hb dX12_isA_40 (by decide) ?_
        refine lv_goto (tgt := 45) hx hb dX12_isA_41 (by decide) ?_
        exact W.zret (v := 1) (ty := .boolean) hx hb hr (by first | rfl | decide) (fun t ht hW => ⟨⟨1, (), rfl, ⟨hF.trans hfz.symm, (by have h6 : (1 : Int32).toInt = 1 := rfl; omega)⟩, ht⟩, hS.F ht⟩) hS.2.2 dX12_isA_45
      · have hF := (if_neg c_6).symm.trans hF
        have c_6 : ¬ y1.toInt = 4 := il_ne c_6
        refine lv_iload_n hx hb dX12_isA_25 rfl (lv_at hl 2 rfl) ?_
        refine lv_iconst (v := 2) hx hb dX12_isA_26 (by decide) ?_
        refine lv_icmp_ne (tgt := 44) hx hb dX12_isA_27 (by decide) (fun c_7 => ?_) (fun c_7 => by have c_7 : vd.toInt = 2 := il_eq c_7; exfalso; omega)
        have c_7 : ¬ vd.toInt = 2 := il_ne c_7
        refine lv_iconst (v := 0) hx hb dX12_isA_44 (by decide) ?_
        exact W.zret (v := 0) (ty := .boolean) hx hb hr (by first | rfl | decide) (fun t ht hW => ⟨⟨0, (), rfl, ⟨hF.trans hfz.symm, (by have h6 : (0 : Int32).toInt = 0 := rfl; omega)⟩, ht⟩, hS.F ht⟩) hS.2.2 dX12_isA_45
set_option maxHeartbeats 4000000 in
set_option maxRecDepth 100000 in
/-- sm_asksOf -/
theorem sm_asksOf (l : Launch) (dC : Nat → ClassId) (dI : Nat → Nat → Nat) (cs : Nat → ClassId) (ad : Nat → Nat) (mu : Nat → Nat → Int32) (ok : okR loM hiM mu) (H : Heap) (hP : va_P (dC, dI) vwCl (wR 21 ad (EM cs ad) mu) H) (vx : Int32) (vp : Int32) (hin0 : 0 ≤ vx.toInt ∧ vx.toInt ≤ 6) : Met l yX12_asksOf (wU yX12_asksOf cX12_asksOf 3 (some .int)) ({ frames := 0, cells := 0, slots := 0, locals := 0 }) (va_Pc [.ref (ad 0), .int vx, .int vp] (sz_P (dC, dI) vwCl (tyM cs) H)) (va_Qi (fun (z : Int32) (_ : Unit) => z = F_sm_asksOf mu vx vp ∧ (True)) (fun _ t => t.heap = H) (fun _ => False)) 0 0 (fun _ => False) := by
  refine Met.ofW (cc := cX12_asksOf) (maxL := 3) (ret := (some .int)) (by decide) rfl ?_
  intro p e s m args below meth c s₁ B hml hv
  obtain ⟨rfl, hh, hK, hz⟩ := hv
  have hx := B.exec
  have hb := B.bytes
  have hr := B.returns
  have hts := atoms_spec (ws := (wU yX12_asksOf cX12_asksOf 3 (some .int))) B.pre
  have hown : s.vm.findClass RX12 = some m.cls := findClass_of_methodNamed B.named
  have hlocks := B.notSynchronized
  subst hh
  have hS : va_S (fun _ => False) s.heap s.heap [] := va_S.rf
  have hl := lv_entry ([.ref (ad 0), .int vx, .int vp]) (n := 3) (Nat.le_of_ble_eq_true rfl)
  rw [lg_entry_eq]
  generalize (lg_sl ([.ref (ad 0), .int vx, .int vp]) ++ List.replicate (3 - (lg_sl ([.ref (ad 0), .int vx, .int vp])).length) Slot.unset).toArray = ls at hl ⊢
  have hl : lv_has ls 3 [(0, .ref (ad 0)), (1, .int vx), (2, .int vp)] := hl
  obtain ⟨fz, hfz⟩ : ∃ z, F_sm_asksOf mu vx vp = z := ⟨_, rfl⟩
  have hF := hfz
  unfold F_sm_asksOf at hF
  refine lv_aload_n hx hb dX12_asksOf_0 rfl (lv_at hl 0 rfl) ?_
  refine va_get (D := (dC, dI)) (ci := 12) (v := .ref (ad 7)) (C := RX12) (T := TX12) (N := 46) hx hb hts inG12 hown hK hP 0 (gM_0 cs ad mu) rfl 9 (by decide) (hts _ (List.mem_cons_of_mem _ mw_5_50)) (fun _ h9 => h9) rfl dX12_asksOf_1 ?_
  refine lv_iload_n hx hb dX12_asksOf_4 rfl (lv_at hl 1 rfl) ?_
  refine va_iald hx hb hK hP 7 0 (gM_7 cs ad mu) rfl (show vp_in vx 7 from vi_of (by omega) (by omega)) dX12_asksOf_5 ?_
  refine lv_topi (fun y1 ey1 => ?_)
  have hF := mi_let hF ey1
  have by1 : y1.toInt = (mu 7 vx.toNatClampNeg).toInt := congrArg Int32.toInt ey1
  by_cases w2 : y1.toInt < 1 ∨ 5 < y1.toInt
  · refine lv_tableOut (tgt := 54) hx hb dX12_asksOf_6 w2 (by decide) ?_
    have hF := (if_pos w2).symm.trans hF
    refine lv_iload_n hx hb dX12_asksOf_54 rfl (lv_at hl 2 rfl) ?_
    refine lv_iconst (v := 1) hx hb dX12_asksOf_55 (by decide) ?_
    refine lv_iadd hx hb dX12_asksOf_56 ?_
    refine lv_topi (fun t3 et3 => ?_)
    have hF := mi_let hF et3
    exact W.iret (v := t3) hx hb hr (fun t ht hW => ⟨⟨t3, (), rfl, ⟨hF.trans hfz.symm, trivial⟩, ht⟩, hS.F ht⟩) hS.2.2 dX12_asksOf_57
  have hF := (if_neg w2).symm.trans hF
  by_cases w2_1 : y1.toInt = 1
  · refine lv_tableIn (off := 34) (tgt := 40) hx hb dX12_asksOf_6 (by omega) (by omega) (by rw [w2_1]; rfl) (by decide) ?_
    have hF := (if_pos w2_1).symm.trans hF
    refine lv_iload_n hx hb dX12_asksOf_40 rfl (lv_at hl 2 rfl) ?_
    refine lv_iconst (v := 3) hx hb dX12_asksOf_41 (by decide) ?_
    refine lv_iadd hx hb dX12_asksOf_42 ?_
    refine lv_topi (fun t4 et4 => ?_)
    have hF := mi_let hF et4
    exact W.iret (v := t4) hx hb hr (fun t ht hW => ⟨⟨t4, (), rfl, ⟨hF.trans hfz.symm, trivial⟩, ht⟩, hS.F ht⟩) hS.2.2 dX12_asksOf_43
  have hF := (if_neg w2_1).symm.trans hF
  by_cases w2_2 : y1.toInt = 2
  · refine lv_tableIn (off := 38) (tgt := 44) hx hb dX12_asksOf_6 (by omega) (by omega) (by rw [w2_2]; rfl) (by decide) ?_
    have hF := (if_pos w2_2).symm.trans hF
    refine lv_iload_n hx hb dX12_asksOf_44 rfl (lv_at hl 2 rfl) ?_
    exact W.iret (v := vp) hx hb hr (fun t ht hW => ⟨⟨vp, (), rfl, ⟨hF.trans hfz.symm, trivial⟩, ht⟩, hS.F ht⟩) hS.2.2 dX12_asksOf_45
  have hF := (if_neg w2_2).symm.trans hF
  by_cases w2_3 : y1.toInt = 3
  · refine lv_tableIn (off := 48) (tgt := 54) hx hb dX12_asksOf_6 (by omega) (by omega) (by rw [w2_3]; rfl) (by decide) ?_
    have hF := (if_pos w2_3).symm.trans hF
    refine lv_iload_n hx hb dX12_asksOf_54 rfl (lv_at hl 2 rfl) ?_
    refine lv_iconst (v := 1) hx hb dX12_asksOf_55 (by decide) ?_
    refine lv_iadd hx hb dX12_asksOf_56 ?_
    refine lv_topi (fun t5 et5 => ?_)
    have hF := mi_let hF et5
    exact W.iret (v := t5) hx hb hr (fun t ht hW => ⟨⟨t5, (), rfl, ⟨hF.trans hfz.symm, trivial⟩, ht⟩, hS.F ht⟩) hS.2.2 dX12_asksOf_57
  have hF := (if_neg w2_3).symm.trans hF
  by_cases w2_4 : y1.toInt = 4
  · refine lv_tableIn (off := 40) (tgt := 46) hx hb dX12_asksOf_6 (by omega) (by omega) (by rw [w2_4]; rfl) (by decide) ?_
    have hF := (if_pos w2_4).symm.trans hF
    refine lv_iconst (v := 2) hx hb dX12_asksOf_46 (by decide) ?_
    refine lv_iload_n hx hb dX12_asksOf_47 rfl (lv_at hl 2 rfl) ?_
    refine lv_iconst (v := 3) hx hb dX12_asksOf_48 (by decide) ?_
    refine lv_iadd hx hb dX12_asksOf_49 ?_
    refine lv_topi (fun t6 et6 => ?_)
    have hF := mi_let hF et6
    refine lv_imul hx hb dX12_asksOf_50 ?_
    refine lv_topi (fun t7 et7 => ?_)
    have hF := mi_let hF et7
    exact W.iret (v := t7) hx hb hr (fun t ht hW => ⟨⟨t7, (), rfl, ⟨hF.trans hfz.symm, trivial⟩, ht⟩, hS.F ht⟩) hS.2.2 dX12_asksOf_51
  have hF := (if_neg w2_4).symm.trans hF
  have w2_5 : y1.toInt = 5 := by omega
  refine lv_tableIn (off := 46) (tgt := 52) hx hb dX12_asksOf_6 (by omega) (by omega) (by rw [w2_5]; rfl) (by decide) ?_
  refine lv_iconst (v := 0) hx hb dX12_asksOf_52 (by decide) ?_
  exact W.iret (v := 0) hx hb hr (fun t ht hW => ⟨⟨0, (), rfl, ⟨hF.trans hfz.symm, trivial⟩, ht⟩, hS.F ht⟩) hS.2.2 dX12_asksOf_53
set_option maxHeartbeats 4000000 in
set_option maxRecDepth 100000 in
/-- sm_besideOf -/
theorem sm_besideOf (l : Launch) (dC : Nat → ClassId) (dI : Nat → Nat → Nat) (cs : Nat → ClassId) (ad : Nat → Nat) (mu : Nat → Nat → Int32) (ok : okR loM hiM mu) (H : Heap) (hP : va_P (dC, dI) vwCl (wR 21 ad (EM cs ad) mu) H) (vx : Int32) : Met l yX12_besideOf (wU yX12_besideOf cX12_besideOf 6 (some .int)) ({ frames := 1, cells := 0, slots := 0, locals := 21 }) (va_Pc [.ref (ad 0), .int vx] (sz_P (dC, dI) vwCl (tyM cs) H)) (va_Qi (fun (z : Int32) (_ : Unit) => z = F_sm_besideOf mu vx ∧ (True)) (fun _ t => t.heap = H) (fun _ => False)) 0 0 (fun _ => False) := by
  refine Met.ofW (cc := cX12_besideOf) (maxL := 6) (ret := (some .int)) (by decide) rfl ?_
  intro p e s m args below meth c s₁ B hml hv
  obtain ⟨rfl, hh, hK, hz⟩ := hv
  have hx := B.exec
  have hb := B.bytes
  have hr := B.returns
  have hts := atoms_spec (ws := (wU yX12_besideOf cX12_besideOf 6 (some .int))) B.pre
  have hown : s.vm.findClass RX12 = some m.cls := findClass_of_methodNamed B.named
  have hlocks := B.notSynchronized
  subst hh
  have hS : va_S (fun _ => False) s.heap s.heap [] := va_S.rf
  have hl := lv_entry ([.ref (ad 0), .int vx]) (n := 6) (Nat.le_of_ble_eq_true rfl)
  rw [lg_entry_eq]
  generalize (lg_sl ([.ref (ad 0), .int vx]) ++ List.replicate (6 - (lg_sl ([.ref (ad 0), .int vx])).length) Slot.unset).toArray = ls at hl ⊢
  have hl : lv_has ls 6 [(0, .ref (ad 0)), (1, .int vx)] := hl
  obtain ⟨fz, hfz⟩ : ∃ z, F_sm_besideOf mu vx = z := ⟨_, rfl⟩
  have hF := hfz
  unfold F_sm_besideOf at hF
  refine lv_iconst (v := 0) hx hb dX12_besideOf_0 (by decide) ?_
  refine lv_istore_n (lv' := [(2, .int 0), (0, .ref (ad 0)), (1, .int vx)]) hx hb dX12_besideOf_1 rfl hl (by decide) rfl (fun ls hl => ?_)
  refine lv_iconst (v := 0) hx hb dX12_besideOf_2 (by decide) ?_
  refine lv_istore_n (lv' := [(3, .int 0), (2, .int 0), (0, .ref (ad 0)), (1, .int vx)]) hx hb dX12_besideOf_3 rfl hl (by decide) rfl (fun ls hl => ?_)
  have loop4 : ∀ (n4 : Nat) (v2_4 : Int32) (v3_4 : Int32) (locs : List Loc) (ls : Array Slot), (12 + 1 - v3_4.toInt).toNat < n4 → (0 ≤ v3_4.toInt ∧ v3_4.toInt ≤ 12) → L_sm_besideOf_4_0 mu vx n4 v2_4 v3_4 = fz → va_S (fun _ => False) s.heap s.heap locs → lv_has ls 6 [(3, .int v3_4), (2, .int v2_4), (0, .ref (ad 0)), (1, .int vx)] → W p l e (headSpec (wU yX12_besideOf cX12_besideOf 6 (some .int)) ({ frames := 1, cells := 0, slots := 0, locals := 21 })).room s m ([.ref (ad 0), .int vx] : List Value).toArray below meth c s.heap locs 0 0 (MQ below (va_Qi (fun (z : Int32) (_ : Unit) => z = F_sm_besideOf mu vx ∧ (True)) (fun _ t => t.heap = s.heap) (fun _ => False)) ([.ref (ad 0), .int vx] : List Value).toArray s 0 0 (fun _ => False)) (F0 m 4 ls []) := by
    intro n4
    induction n4 with
    | zero => intro v2_4 v3_4 locs ls hm; exact absurd hm (Nat.not_lt_zero _)
    | succ n4 ih4 =>
      intro v2_4 v3_4 locs ls hm_4 h_v3_4 hF hS hl
      rw [L_sm_besideOf_4_0] at hF
      refine lv_iload_n hx hb dX12_besideOf_4 rfl (lv_at hl 0 rfl) ?_
      refine lv_aload_n hx hb dX12_besideOf_5 rfl (lv_at hl 2 rfl) ?_
      refine va_get (D := (dC, dI)) (ci := 12) (v := .int (mu 0 11)) (C := RX12) (T := TX12) (N := 46) hx hb hts inG12 hown hK hP 0 (gM_0 cs ad mu) rfl 11 (by decide) (hts _ (List.mem_cons_of_mem _ mw_5_52)) (fun _ h9 => h9) rfl dX12_besideOf_6 ?_
      refine lv_topi (fun y1 ey1 => ?_)
      have hF := mi_let hF ey1
      have by1 : y1.toInt = (mu 0 11).toInt := congrArg Int32.toInt ey1
      have gy1 : 0 ≤ y1.toInt ∧ y1.toInt ≤ 12 := by rw [ey1]; exact rM_0_11 ok
      refine lv_icmp_ge (tgt := 85) hx hb dX12_besideOf_9 (by decide) (fun c_2 => ?_) (fun c_2 => ?_)
      · have hF := (if_pos c_2).symm.trans hF
        have c_2 : y1.toInt ≤ v3_4.toInt := il_le c_2
        refine lv_iload_n hx hb dX12_besideOf_85 rfl (lv_at hl 1 rfl) ?_
        exact W.iret (v := v2_4) hx hb hr (fun t ht hW => ⟨⟨v2_4, (), rfl, ⟨hF.trans hfz.symm, trivial⟩, ht⟩, hS.F ht⟩) hS.2.2 dX12_besideOf_86
      · have hF := (if_neg c_2).symm.trans hF
        have c_2 : v3_4.toInt < y1.toInt := il_nle c_2
        refine lv_aload_n hx hb dX12_besideOf_12 rfl (lv_at hl 2 rfl) ?_
        refine va_get (D := (dC, dI)) (ci := 12) (v := .ref (ad 9)) (C := RX12) (T := TX12) (N := 46) hx hb hts inG12 hown hK hP 0 (gM_0 cs ad mu) rfl 12 (by decide) (hts _ (List.mem_cons_of_mem _ mw_5_53)) (fun _ h9 => h9) rfl dX12_besideOf_13 ?_
        refine lv_iconst (v := 2) hx hb dX12_besideOf_16 (by decide) ?_
        refine lv_iload_n hx hb dX12_besideOf_17 rfl (lv_at hl 0 rfl) ?_
        refine lv_imul hx hb dX12_besideOf_18 ?_
        refine lv_topi (fun t3 et3 => ?_)
        have hF := mi_let hF et3
        have at3 : t3.toInt = 2 * v3_4.toInt := by rw [et3]; exact tI_mul (rfl : (2 : Int32).toInt = 2) (rfl : v3_4.toInt = _) (by omega) (by omega)
        refine va_iald hx hb hK hP 9 0 (gM_9 cs ad mu) rfl (show vp_in t3 24 from vi_of (by omega) (by omega)) dX12_besideOf_19 ?_
        refine lv_topi (fun y4 ey4 => ?_)
        have hF := mi_let hF ey4
        have by4 : y4.toInt = (mu 9 t3.toNatClampNeg).toInt := congrArg Int32.toInt ey4
        refine lv_istore (lv' := [(4, .int y4), (3, .int v3_4), (2, .int v2_4), (0, .ref (ad 0)), (1, .int vx)]) hx hb dX12_besideOf_20 hl (by decide) rfl (fun ls hl => ?_)
        refine lv_aload_n hx hb dX12_besideOf_22 rfl (lv_at hl 3 rfl) ?_
        refine va_get (D := (dC, dI)) (ci := 12) (v := .ref (ad 9)) (C := RX12) (T := TX12) (N := 46) hx hb hts inG12 hown hK hP 0 (gM_0 cs ad mu) rfl 12 (by decide) (hts _ (List.mem_cons_of_mem _ mw_5_53)) (fun _ h9 => h9) rfl dX12_besideOf_23 ?_
        refine lv_iconst (v := 2) hx hb dX12_besideOf_26 (by decide) ?_
        refine lv_iload_n hx hb dX12_besideOf_27 rfl (lv_at hl 1 rfl) ?_
        refine lv_imul hx hb dX12_besideOf_28 ?_
        refine lv_topi (fun t5 et5 => ?_)
        have hF := mi_let hF et5
        have at5 : t5.toInt = 2 * v3_4.toInt := by rw [et5]; exact tI_mul (rfl : (2 : Int32).toInt = 2) (rfl : v3_4.toInt = _) (by omega) (by omega)
        refine lv_iconst (v := 1) hx hb dX12_besideOf_29 (by decide) ?_
        refine lv_iadd hx hb dX12_besideOf_30 ?_
        refine lv_topi (fun t6 et6 => ?_)
        have hF := mi_let hF et6
        have at6 : t6.toInt = t5.toInt + 1 := by rw [et6]; exact va1 (by omega)
        refine va_iald hx hb hK hP 9 0 (gM_9 cs ad mu) rfl (show vp_in t6 24 from vi_of (by omega) (by omega)) dX12_besideOf_31 ?_
        refine lv_topi (fun y7 ey7 => ?_)
        have hF := mi_let hF ey7
        have by7 : y7.toInt = (mu 9 t6.toNatClampNeg).toInt := congrArg Int32.toInt ey7
        refine lv_istore (lv' := [(5, .int y7), (4, .int y4), (3, .int v3_4), (2, .int v2_4), (0, .ref (ad 0)), (1, .int vx)]) hx hb dX12_besideOf_32 hl (by decide) rfl (fun ls hl => ?_)
        refine lv_iload_n hx hb dX12_besideOf_34 rfl (lv_at hl 3 rfl) ?_
        refine lv_aload_n hx hb dX12_besideOf_35 rfl (lv_at hl 4 rfl) ?_
        refine va_get (D := (dC, dI)) (ci := 12) (v := .int (mu 0 13)) (C := RX12) (T := TX12) (N := 46) hx hb hts inG12 hown hK hP 0 (gM_0 cs ad mu) rfl 13 (by decide) (hts _ (List.mem_cons_of_mem _ mw_5_54)) (fun _ h9 => h9) rfl dX12_besideOf_36 ?_
        refine lv_topi (fun y8 ey8 => ?_)
        have hF := mi_let hF ey8
        have by8 : y8.toInt = (mu 0 13).toInt := congrArg Int32.toInt ey8
        refine lv_iload_n hx hb dX12_besideOf_39 rfl (lv_at hl 2 rfl) ?_
        refine cr_i (va_runS (As := [.int y8, .int v3_4]) (rest := [.int v2_4]) ⟨hx, hb, hml, hown, hts⟩ (sm_has l dC dI (tyM cs) s.heap y8 v3_4) (va_cwS 2 hts (wU_S mw_6_59 mw_6_57 mw_6_58 mw_1_13) rfl rfl rfl (by decide +kernel) ⟨Nat.le_of_ble_eq_true rfl, Nat.le_of_ble_eq_true rfl⟩) ⟨sz_c, sz_m hK hz⟩ rfl rfl hl.1 rfl (lv_room (Nat.le_of_ble_eq_true rfl)) dX12_besideOf_40 ⟨Nat.zero_le _, Nat.zero_le _⟩) hS (fun r9 hw9 locs hS => ?_)
        obtain ⟨hfe9, hw9⟩ := hw9
        rcases hw9 with ⟨rfl, f9⟩ | ⟨rfl, f9⟩
        · have hF := (if_pos hfe9.symm).symm.trans hF
          have f9 : rb y8 v3_4 = 1 := f9
          refine lv_if_eq (tgt := 50) hx hb dX12_besideOf_43 (by decide) (fun c => absurd c (by decide)) (fun _ => ?_)
          refine lv_iconst (v := 0) hx hb dX12_besideOf_46 (by decide) ?_
          refine lv_goto (tgt := 77) hx hb dX12_besideOf_47 (by decide) ?_
          refine lv_ior hx hb dX12_besideOf_77 ?_
          refine lv_topi (fun t10 et10 => ?_)
          have hF := mi_let hF et10
          refine lv_istore_n (lv' := [(2, .int t10), (5, .int y7), (4, .int y4), (3, .int v3_4), (0, .ref (ad 0)), (1, .int vx)]) hx hb dX12_besideOf_78 rfl hl (by decide) rfl (fun ls hl => ?_)
          refine lv_iinc (v := (v3_4 + 1)) (lv' := [(3, .int (v3_4 + 1)), (2, .int t10), (5, .int y7), (4, .int y4), (0, .ref (ad 0)), (1, .int vx)]) hx hb dX12_besideOf_79 hl (k := 3) rfl rfl (by decide) rfl (fun ls hl => ?_)
          refine loc_gen (P := fun w9 => lv_has ls 6 [(3, .int w9), (2, .int t10), (5, .int y7), (4, .int y4), (0, .ref (ad 0)), (1, .int vx)]) (v3_4 + 1) hl (fun w11 hw11 hl => ?_)
          have hl : lv_has ls 6 [(3, .int w11), (2, .int t10), (5, .int y7), (4, .int y4), (0, .ref (ad 0)), (1, .int vx)] := hl
          have hF := mi_let hF hw11.symm
          have aw11 : w11.toInt = v3_4.toInt + 1 := by rw [← hw11]; first | exact va1 (Int.lt_of_le_of_lt h_v3_4.2 (by decide)) | exact va1 (by omega)
          refine lv_goto (tgt := 4) hx hb dX12_besideOf_82 (by decide) ?_
          exact ih4 (t10) (w11)  _ _ (by first | exact ms_up hm_4 aw11 h_v3_4.2 | exact ms_lt hm_4 (by omega) (by omega) | omega) (by first | exact rg_up aw11 h_v3_4 (by omega) | omega)   hF hS (lv_sub hl [0, 1, 4, 5] rfl)
        · have hF := (if_neg (fun h => absurd (hfe9.trans h) (by decide))).symm.trans hF
          have f9 : ¬ rb y8 v3_4 = 1 := f9
          refine lv_if_eq (tgt := 50) hx hb dX12_besideOf_43 (by decide) (fun _ => ?_) (fun c => absurd (by decide) c)
          refine lv_iload hx hb dX12_besideOf_50 (lv_at hl 1 rfl) ?_
          refine lv_iload_n hx hb dX12_besideOf_52 rfl (lv_at hl 5 rfl) ?_
          refine lv_icmp_ne (tgt := 63) hx hb dX12_besideOf_53 (by decide) (fun c_12 => ?_) (fun c_12 => ?_)
          · have hF := (if_neg c_12).symm.trans hF
            have c_12 : ¬ y4.toInt = vx.toInt := il_ne c_12
            refine lv_iload hx hb dX12_besideOf_63 (lv_at hl 0 rfl) ?_
            refine lv_iload_n hx hb dX12_besideOf_65 rfl (lv_at hl 5 rfl) ?_
            refine lv_icmp_ne (tgt := 76) hx hb dX12_besideOf_66 (by decide) (fun c_13 => ?_) (fun c_13 => ?_)
            · have hF := (if_neg c_13).symm.trans hF
              have c_13 : ¬ y7.toInt = vx.toInt := il_ne c_13
              refine lv_iconst (v := 0) hx hb dX12_besideOf_76 (by decide) ?_
              refine lv_ior hx hb dX12_besideOf_77 ?_
              refine lv_topi (fun t14 et14 => ?_)
              have hF := mi_let hF et14
              refine lv_istore_n (lv' := [(2, .int t14), (5, .int y7), (4, .int y4), (3, .int v3_4), (0, .ref (ad 0)), (1, .int vx)]) hx hb dX12_besideOf_78 rfl hl (by decide) rfl (fun ls hl => ?_)
              refine lv_iinc (v := (v3_4 + 1)) (lv' := [(3, .int (v3_4 + 1)), (2, .int t14), (5, .int y7), (4, .int y4), (0, .ref (ad 0)), (1, .int vx)]) hx hb dX12_besideOf_79 hl (k := 3) rfl rfl (by decide) rfl (fun ls hl => ?_)
              refine loc_gen (P := fun w9 => lv_has ls 6 [(3, .int w9), (2, .int t14), (5, .int y7), (4, .int y4), (0, .ref (ad 0)), (1, .int vx)]) (v3_4 + 1) hl (fun w15 hw15 hl => ?_)
              have hl : lv_has ls 6 [(3, .int w15), (2, .int t14), (5, .int y7), (4, .int y4), (0, .ref (ad 0)), (1, .int vx)] := hl
              have hF := mi_let hF hw15.symm
              have aw15 : w15.toInt = v3_4.toInt + 1 := by rw [← hw15]; first | exact va1 (Int.lt_of_le_of_lt h_v3_4.2 (by decide)) | exact va1 (by omega)
              refine lv_goto (tgt := 4) hx hb dX12_besideOf_82 (by decide) ?_
              exact ih4 (t14) (w15)  _ _ (by first | exact ms_up hm_4 aw15 h_v3_4.2 | exact ms_lt hm_4 (by omega) (by omega) | omega) (by first | exact rg_up aw15 h_v3_4 (by omega) | omega)   hF hS (lv_sub hl [0, 1, 4, 5] rfl)
            · have hF := (if_pos c_13).symm.trans hF
              have c_13 : y7.toInt = vx.toInt := il_eq c_13
              refine lv_iconst (v := 1) hx hb dX12_besideOf_69 (by decide) ?_
              refine lv_iload hx hb dX12_besideOf_70 (lv_at hl 1 rfl) ?_
              refine lv_ishl hx hb dX12_besideOf_72 ?_
              refine lv_topi (fun t16 et16 => ?_)
              have hF := mi_let hF et16
              refine lv_goto (tgt := 77) hx hb dX12_besideOf_73 (by decide) ?_
              refine lv_ior hx hb dX12_besideOf_77 ?_
              refine lv_topi (fun t17 et17 => ?_)
              have hF := mi_let hF et17
              refine lv_istore_n (lv' := [(2, .int t17), (5, .int y7), (4, .int y4), (3, .int v3_4), (0, .ref (ad 0)), (1, .int vx)]) hx hb dX12_besideOf_78 rfl hl (by decide) rfl (fun ls hl => ?_)
              refine lv_iinc (v := (v3_4 + 1)) (lv' := [(3, .int (v3_4 + 1)), (2, .int t17), (5, .int y7), (4, .int y4), (0, .ref (ad 0)), (1, .int vx)]) hx hb dX12_besideOf_79 hl (k := 3) rfl rfl (by decide) rfl (fun ls hl => ?_)
              refine loc_gen (P := fun w9 => lv_has ls 6 [(3, .int w9), (2, .int t17), (5, .int y7), (4, .int y4), (0, .ref (ad 0)), (1, .int vx)]) (v3_4 + 1) hl (fun w18 hw18 hl => ?_)
              have hl : lv_has ls 6 [(3, .int w18), (2, .int t17), (5, .int y7), (4, .int y4), (0, .ref (ad 0)), (1, .int vx)] := hl
              have hF := mi_let hF hw18.symm
              have aw18 : w18.toInt = v3_4.toInt + 1 := by rw [← hw18]; first | exact va1 (Int.lt_of_le_of_lt h_v3_4.2 (by decide)) | exact va1 (by omega)
              refine lv_goto (tgt := 4) hx hb dX12_besideOf_82 (by decide) ?_
              exact ih4 (t17) (w18)  _ _ (by first | exact ms_up hm_4 aw18 h_v3_4.2 | exact ms_lt hm_4 (by omega) (by omega) | omega) (by first | exact rg_up aw18 h_v3_4 (by omega) | omega)   hF hS (lv_sub hl [0, 1, 4, 5] rfl)
          · have hF := (if_pos c_12).symm.trans hF
            have c_12 : y4.toInt = vx.toInt := il_eq c_12
            refine lv_iconst (v := 1) hx hb dX12_besideOf_56 (by decide) ?_
            refine lv_iload hx hb dX12_besideOf_57 (lv_at hl 0 rfl) ?_
            refine lv_ishl hx hb dX12_besideOf_59 ?_
            refine lv_topi (fun t19 et19 => ?_)
            have hF := mi_let hF et19
            refine lv_goto (tgt := 77) hx hb dX12_besideOf_60 (by decide) ?_
            refine lv_ior hx hb dX12_besideOf_77 ?_
            refine lv_topi (fun t20 et20 => ?_)
            have hF := mi_let hF et20
            refine lv_istore_n (lv' := [(2, .int t20), (5, .int y7), (4, .int y4), (3, .int v3_4), (0, .ref (ad 0)), (1, .int vx)]) hx hb dX12_besideOf_78 rfl hl (by decide) rfl (fun ls hl => ?_)
            refine lv_iinc (v := (v3_4 + 1)) (lv' := [(3, .int (v3_4 + 1)), (2, .int t20), (5, .int y7), (4, .int y4), (0, .ref (ad 0)), (1, .int vx)]) hx hb dX12_besideOf_79 hl (k := 3) rfl rfl (by decide) rfl (fun ls hl => ?_)
            refine loc_gen (P := fun w9 => lv_has ls 6 [(3, .int w9), (2, .int t20), (5, .int y7), (4, .int y4), (0, .ref (ad 0)), (1, .int vx)]) (v3_4 + 1) hl (fun w21 hw21 hl => ?_)
            have hl : lv_has ls 6 [(3, .int w21), (2, .int t20), (5, .int y7), (4, .int y4), (0, .ref (ad 0)), (1, .int vx)] := hl
            have hF := mi_let hF hw21.symm
            have aw21 : w21.toInt = v3_4.toInt + 1 := by rw [← hw21]; first | exact va1 (Int.lt_of_le_of_lt h_v3_4.2 (by decide)) | exact va1 (by omega)
            refine lv_goto (tgt := 4) hx hb dX12_besideOf_82 (by decide) ?_
            exact ih4 (t20) (w21)  _ _ (by first | exact ms_up hm_4 aw21 h_v3_4.2 | exact ms_lt hm_4 (by omega) (by omega) | omega) (by first | exact rg_up aw21 h_v3_4 (by omega) | omega)   hF hS (lv_sub hl [0, 1, 4, 5] rfl)
  exact loop4 15 (0) (0)  _ _ (by have h80 : (0 : Int32).toInt = 0 := rfl; have h81 : (0 : Int32).toInt = 0 := rfl; omega) (by have h80 : (0 : Int32).toInt = 0 := rfl; exact ⟨by omega, by omega⟩)   hF hS hl
set_option maxHeartbeats 4000000 in
set_option maxRecDepth 100000 in
/-- sm_letterOf5 -/
theorem sm_letterOf5 (l : Launch) (dC : Nat → ClassId) (dI : Nat → Nat → Nat) (cs : Nat → ClassId) (ad : Nat → Nat) (mu : Nat → Nat → Int32) (ok : okR loM hiM mu) (H : Heap) (hP : va_P (dC, dI) vwCl (wR 21 ad (EM cs ad) mu) H) (vk : Int32) (hin0 : 0 ≤ vk.toInt ∧ vk.toInt ≤ 3) : Met l yX12_letterOf (wU yX12_letterOf cX12_letterOf 3 (some .int)) ({ frames := 0, cells := 0, slots := 0, locals := 0 }) (va_Pc [.ref (ad 0), .int vk, .int 5] (sz_P (dC, dI) vwCl (tyM cs) H)) (va_Qi (fun (z : Int32) (_ : Unit) => z = F_sm_letterOf5 mu vk ∧ (0 ≤ z.toInt ∧ z.toInt ≤ 6)) (fun _ t => t.heap = H) (fun _ => False)) 0 0 (fun _ => False) := by
  refine Met.ofW (cc := cX12_letterOf) (maxL := 3) (ret := (some .int)) (by decide) rfl ?_
  intro p e s m args below meth c s₁ B hml hv
  obtain ⟨rfl, hh, hK, hz⟩ := hv
  have hx := B.exec
  have hb := B.bytes
  have hr := B.returns
  have hts := atoms_spec (ws := (wU yX12_letterOf cX12_letterOf 3 (some .int))) B.pre
  have hown : s.vm.findClass RX12 = some m.cls := findClass_of_methodNamed B.named
  have hlocks := B.notSynchronized
  subst hh
  have hS : va_S (fun _ => False) s.heap s.heap [] := va_S.rf
  have hl := lv_entry ([.ref (ad 0), .int vk, .int 5]) (n := 3) (Nat.le_of_ble_eq_true rfl)
  rw [lg_entry_eq]
  generalize (lg_sl ([.ref (ad 0), .int vk, .int 5]) ++ List.replicate (3 - (lg_sl ([.ref (ad 0), .int vk, .int 5])).length) Slot.unset).toArray = ls at hl ⊢
  have hl : lv_has ls 3 [(0, .ref (ad 0)), (1, .int vk), (2, .int 5)] := hl
  obtain ⟨fz, hfz⟩ : ∃ z, F_sm_letterOf5 mu vk = z := ⟨_, rfl⟩
  have hF := hfz
  unfold F_sm_letterOf5 at hF
  refine lv_aload_n hx hb dX12_letterOf_0 rfl (lv_at hl 0 rfl) ?_
  refine va_get (D := (dC, dI)) (ci := 12) (v := .ref (ad 10)) (C := RX12) (T := TX12) (N := 46) hx hb hts inG12 hown hK hP 0 (gM_0 cs ad mu) rfl 16 (by decide) (hts _ (List.mem_cons_of_mem _ mw_5_57)) (fun _ h9 => h9) rfl dX12_letterOf_1 ?_
  refine lv_bipush (v := 10) hx hb dX12_letterOf_4 (by decide) ?_
  refine lv_iload_n hx hb dX12_letterOf_6 rfl (lv_at hl 1 rfl) ?_
  refine lv_imul hx hb dX12_letterOf_7 ?_
  refine lv_topi (fun t1 et1 => ?_)
  have hF := mi_let hF et1
  have at1 : t1.toInt = 10 * vk.toInt := by rw [et1]; exact tI_mul (rfl : (10 : Int32).toInt = 10) (rfl : vk.toInt = _) (by omega) (by omega)
  refine lv_iload_n hx hb dX12_letterOf_8 rfl (lv_at hl 2 rfl) ?_
  refine lv_iadd hx hb dX12_letterOf_9 ?_
  refine lv_topi (fun t2 et2 => ?_)
  have hF := mi_let hF et2
  have at2 : t2.toInt = t1.toInt + 5 := by rw [et2]; exact tI_add (rfl : t1.toInt = _) (rfl : (5 : Int32).toInt = 5) (by omega) (by omega)
  refine va_iald hx hb hK hP 10 0 (gM_10 cs ad mu) rfl (show vp_in t2 40 from vi_of (by omega) (by omega)) dX12_letterOf_10 ?_
  have hc3 : ((t2 : Int32).toNatClampNeg : Int) = t2.toInt := tC_of (by omega)
  refine lv_topi (fun y4 ey4 => ?_)
  have hF := mi_let hF ey4
  have by4 : y4.toInt = (mu 10 t2.toNatClampNeg).toInt := congrArg Int32.toInt ey4
  have gy4 : 0 ≤ y4.toInt ∧ y4.toInt ≤ 6 := by rw [ey4]; exact (rM_10_s ok t2.toNatClampNeg) (by omega)
  exact W.iret (v := y4) hx hb hr (fun t ht hW => ⟨⟨y4, (), rfl, ⟨hF.trans hfz.symm, (by omega)⟩, ht⟩, hS.F ht⟩) hS.2.2 dX12_letterOf_11
set_option maxHeartbeats 4000000 in
set_option maxRecDepth 100000 in
/-- sm_letterOf -/
theorem sm_letterOf (l : Launch) (dC : Nat → ClassId) (dI : Nat → Nat → Nat) (cs : Nat → ClassId) (ad : Nat → Nat) (mu : Nat → Nat → Int32) (ok : okR loM hiM mu) (H : Heap) (hP : va_P (dC, dI) vwCl (wR 21 ad (EM cs ad) mu) H) (vk : Int32) (vw : Int32) (hin0 : 0 ≤ vk.toInt ∧ vk.toInt ≤ 3 ∧ 0 ≤ vw.toInt ∧ vw.toInt ≤ 9) : Met l yX12_letterOf (wU yX12_letterOf cX12_letterOf 3 (some .int)) ({ frames := 0, cells := 0, slots := 0, locals := 0 }) (va_Pc [.ref (ad 0), .int vk, .int vw] (sz_P (dC, dI) vwCl (tyM cs) H)) (va_Qi (fun (z : Int32) (_ : Unit) => z = F_sm_letterOf mu vk vw ∧ (True)) (fun _ t => t.heap = H) (fun _ => False)) 0 0 (fun _ => False) := by
  refine Met.ofW (cc := cX12_letterOf) (maxL := 3) (ret := (some .int)) (by decide) rfl ?_
  intro p e s m args below meth c s₁ B hml hv
  obtain ⟨rfl, hh, hK, hz⟩ := hv
  have hx := B.exec
  have hb := B.bytes
  have hr := B.returns
  have hts := atoms_spec (ws := (wU yX12_letterOf cX12_letterOf 3 (some .int))) B.pre
  have hown : s.vm.findClass RX12 = some m.cls := findClass_of_methodNamed B.named
  have hlocks := B.notSynchronized
  subst hh
  have hS : va_S (fun _ => False) s.heap s.heap [] := va_S.rf
  have hl := lv_entry ([.ref (ad 0), .int vk, .int vw]) (n := 3) (Nat.le_of_ble_eq_true rfl)
  rw [lg_entry_eq]
  generalize (lg_sl ([.ref (ad 0), .int vk, .int vw]) ++ List.replicate (3 - (lg_sl ([.ref (ad 0), .int vk, .int vw])).length) Slot.unset).toArray = ls at hl ⊢
  have hl : lv_has ls 3 [(0, .ref (ad 0)), (1, .int vk), (2, .int vw)] := hl
  obtain ⟨fz, hfz⟩ : ∃ z, F_sm_letterOf mu vk vw = z := ⟨_, rfl⟩
  have hF := hfz
  unfold F_sm_letterOf at hF
  refine lv_aload_n hx hb dX12_letterOf_0 rfl (lv_at hl 0 rfl) ?_
  refine va_get (D := (dC, dI)) (ci := 12) (v := .ref (ad 10)) (C := RX12) (T := TX12) (N := 46) hx hb hts inG12 hown hK hP 0 (gM_0 cs ad mu) rfl 16 (by decide) (hts _ (List.mem_cons_of_mem _ mw_5_57)) (fun _ h9 => h9) rfl dX12_letterOf_1 ?_
  refine lv_bipush (v := 10) hx hb dX12_letterOf_4 (by decide) ?_
  refine lv_iload_n hx hb dX12_letterOf_6 rfl (lv_at hl 1 rfl) ?_
  refine lv_imul hx hb dX12_letterOf_7 ?_
  refine lv_topi (fun t1 et1 => ?_)
  have hF := mi_let hF et1
  have at1 : t1.toInt = 10 * vk.toInt := by rw [et1]; exact tI_mul (rfl : (10 : Int32).toInt = 10) (rfl : vk.toInt = _) (by omega) (by omega)
  refine lv_iload_n hx hb dX12_letterOf_8 rfl (lv_at hl 2 rfl) ?_
  refine lv_iadd hx hb dX12_letterOf_9 ?_
  refine lv_topi (fun t2 et2 => ?_)
  have hF := mi_let hF et2
  have at2 : t2.toInt = t1.toInt + vw.toInt := by rw [et2]; exact tI_add (rfl : t1.toInt = _) (rfl : vw.toInt = _) (by omega) (by omega)
  refine va_iald hx hb hK hP 10 0 (gM_10 cs ad mu) rfl (show vp_in t2 40 from vi_of (by omega) (by omega)) dX12_letterOf_10 ?_
  have hc3 : ((t2 : Int32).toNatClampNeg : Int) = t2.toInt := tC_of (by omega)
  refine lv_topi (fun y4 ey4 => ?_)
  have hF := mi_let hF ey4
  have by4 : y4.toInt = (mu 10 t2.toNatClampNeg).toInt := congrArg Int32.toInt ey4
  exact W.iret (v := y4) hx hb hr (fun t ht hW => ⟨⟨y4, (), rfl, ⟨hF.trans hfz.symm, trivial⟩, ht⟩, hS.F ht⟩) hS.2.2 dX12_letterOf_11
set_option maxHeartbeats 4000000 in
set_option maxRecDepth 100000 in
/-- sm_setLetter0 -/
theorem sm_setLetter0 (l : Launch) (dC : Nat → ClassId) (dI : Nat → Nat → Nat) (cs : Nat → ClassId) (ad : Nat → Nat) (mu : Nat → Nat → Int32) (ok : okR loM hiM mu) (H : Heap) (hP : va_P (dC, dI) vwCl (wR 21 ad (EM cs ad) mu) H) (hD0 : va_D (fun _ => True) (wR 21 ad (EM cs ad) mu)) (vk : Int32) (vv : Int32) (hin0 : 0 ≤ vk.toInt ∧ vk.toInt ≤ 3) : Met l yX12_setLetter (wU yX12_setLetter cX12_setLetter 4 none) ({ frames := 0, cells := 0, slots := 0, locals := 0 }) (va_Pc [.ref (ad 0), .int vk, .int 0, .int vv] (sz_P (dC, dI) vwCl (tyM cs) H)) (va_Qv (fun (xi : Nat → Nat → Int32) => xi = F_sm_setLetter0 mu vk vv ∧ okR loM hiM xi ∧ (True) ∧ (∀ k f : Nat, Nat.testBit 502 (gpM k f) = true → xi k f = mu k f)) (fun xi t => va_P (dC, dI) vwCl (wR 21 ad (EM cs ad) xi) t.heap) (va_A (wR 21 ad (EM cs ad) mu) H.size)) 0 0 (va_A (wR 21 ad (EM cs ad) mu) H.size) := by
  refine Met.ofW (cc := cX12_setLetter) (maxL := 4) (ret := none) (by decide) rfl ?_
  intro p e s m args below meth c s₁ B hml hv
  obtain ⟨rfl, hh, hK, hz⟩ := hv
  have hx := B.exec
  have hb := B.bytes
  have hr := B.returns
  have hts := atoms_spec (ws := (wU yX12_setLetter cX12_setLetter 4 none)) B.pre
  have hown : s.vm.findClass RX12 = some m.cls := findClass_of_methodNamed B.named
  have hlocks := B.notSynchronized
  subst hh
  have hD := hD0.self (sz := s.heap.size)
  have hA : ∀ q : Nat, s.heap.size ≤ q → (va_A (wR 21 ad (EM cs ad) mu) s.heap.size) q := fun q h => Or.inr h
  have hS : va_S (va_A (wR 21 ad (EM cs ad) mu) s.heap.size) s.heap s.heap [] := va_S.rf
  have hl := lv_entry ([.ref (ad 0), .int vk, .int 0, .int vv]) (n := 4) (Nat.le_of_ble_eq_true rfl)
  rw [lg_entry_eq]
  generalize (lg_sl ([.ref (ad 0), .int vk, .int 0, .int vv]) ++ List.replicate (4 - (lg_sl ([.ref (ad 0), .int vk, .int 0, .int vv])).length) Slot.unset).toArray = ls at hl ⊢
  have hl : lv_has ls 4 [(0, .ref (ad 0)), (1, .int vk), (2, .int 0), (3, .int vv)] := hl
  obtain ⟨fz, hfz⟩ : ∃ z, F_sm_setLetter0 mu vk vv = z := ⟨_, rfl⟩
  have hF := hfz
  unfold F_sm_setLetter0 at hF
  refine lv_aload_n hx hb dX12_setLetter_0 rfl (lv_at hl 0 rfl) ?_
  refine va_get (D := (dC, dI)) (ci := 12) (v := .ref (ad 10)) (C := RX12) (T := TX12) (N := 46) hx hb hts inG12 hown hK hP 0 (gM_0 cs ad mu) rfl 16 (by decide) (hts _ (List.mem_cons_of_mem _ mw_5_57)) (fun _ h9 => h9) rfl dX12_setLetter_1 ?_
  refine lv_bipush (v := 10) hx hb dX12_setLetter_4 (by decide) ?_
  refine lv_iload_n hx hb dX12_setLetter_6 rfl (lv_at hl 1 rfl) ?_
  refine lv_imul hx hb dX12_setLetter_7 ?_
  refine lv_topi (fun t1 et1 => ?_)
  have hF := mi_let hF et1
  have at1 : t1.toInt = 10 * vk.toInt := by rw [et1]; exact tI_mul (rfl : (10 : Int32).toInt = 10) (rfl : vk.toInt = _) (by omega) (by omega)
  refine lv_iload_n hx hb dX12_setLetter_8 rfl (lv_at hl 2 rfl) ?_
  refine lv_iadd hx hb dX12_setLetter_9 ?_
  refine lv_topi (fun t2 et2 => ?_)
  have hF := mi_let hF et2
  have at2 : t2.toInt = t1.toInt + 0 := by rw [et2]; exact tI_add (rfl : t1.toInt = _) (rfl : (0 : Int32).toInt = 0) (by omega) (by omega)
  refine lv_iload_n hx hb dX12_setLetter_10 rfl (lv_at hl 3 rfl) ?_
  refine va_iast hx hb hK hP (wR_D mu hD) hS 10 0 (gM_10 cs ad mu) rfl (show vp_in t2 40 from vi_of (by omega) (by omega)) dX12_setLetter_11 (fun H locs hP _ hS => ?_)
  have hc3 : ((t2 : Int32).toNatClampNeg : Int) = t2.toInt := tC_of (by omega)
  refine wr_gen (upd (mu 10) t2.toNatClampNeg vv) hP (rfl) (fun nu4 hn4 hP => ?_)
  have hF := mi_let hF hn4.symm
  have ok := tM_10_s ok t2.toNatClampNeg hn4 (by refine (fun c9 => ?_) <;> omega)
  have kp5 : (∀ k f : Nat, Nat.testBit 502 (gpM k f) = true → nu4 k f = mu k f) := kp_c 3 hn4 (fun _ => rfl) (by decide) (fun _ _ _ => rfl)
  exact W.vret hx hb hr (fun t ht hW => ⟨⟨nu4, rfl, ⟨hF.trans hfz.symm, ok, trivial, kp5⟩, by first | (subst ht; exact hP) | (rw [ht]; exact hP) | (show va_P (dC, dI) vwCl (wR 21 ad (EM cs ad) nu4) t.heap; rw [ht]; exact hP)⟩, hS.F ht⟩) hS.2.2 dX12_setLetter_12
set_option maxHeartbeats 4000000 in
set_option maxRecDepth 100000 in
/-- sm_setLetter1 -/
theorem sm_setLetter1 (l : Launch) (dC : Nat → ClassId) (dI : Nat → Nat → Nat) (cs : Nat → ClassId) (ad : Nat → Nat) (mu : Nat → Nat → Int32) (ok : okR loM hiM mu) (H : Heap) (hP : va_P (dC, dI) vwCl (wR 21 ad (EM cs ad) mu) H) (hD0 : va_D (fun _ => True) (wR 21 ad (EM cs ad) mu)) (vk : Int32) (vv : Int32) (hin0 : 0 ≤ vk.toInt ∧ vk.toInt ≤ 3) : Met l yX12_setLetter (wU yX12_setLetter cX12_setLetter 4 none) ({ frames := 0, cells := 0, slots := 0, locals := 0 }) (va_Pc [.ref (ad 0), .int vk, .int 1, .int vv] (sz_P (dC, dI) vwCl (tyM cs) H)) (va_Qv (fun (xi : Nat → Nat → Int32) => xi = F_sm_setLetter1 mu vk vv ∧ okR loM hiM xi ∧ (True) ∧ (∀ k f : Nat, Nat.testBit 502 (gpM k f) = true → xi k f = mu k f)) (fun xi t => va_P (dC, dI) vwCl (wR 21 ad (EM cs ad) xi) t.heap) (va_A (wR 21 ad (EM cs ad) mu) H.size)) 0 0 (va_A (wR 21 ad (EM cs ad) mu) H.size) := by
  refine Met.ofW (cc := cX12_setLetter) (maxL := 4) (ret := none) (by decide) rfl ?_
  intro p e s m args below meth c s₁ B hml hv
  obtain ⟨rfl, hh, hK, hz⟩ := hv
  have hx := B.exec
  have hb := B.bytes
  have hr := B.returns
  have hts := atoms_spec (ws := (wU yX12_setLetter cX12_setLetter 4 none)) B.pre
  have hown : s.vm.findClass RX12 = some m.cls := findClass_of_methodNamed B.named
  have hlocks := B.notSynchronized
  subst hh
  have hD := hD0.self (sz := s.heap.size)
  have hA : ∀ q : Nat, s.heap.size ≤ q → (va_A (wR 21 ad (EM cs ad) mu) s.heap.size) q := fun q h => Or.inr h
  have hS : va_S (va_A (wR 21 ad (EM cs ad) mu) s.heap.size) s.heap s.heap [] := va_S.rf
  have hl := lv_entry ([.ref (ad 0), .int vk, .int 1, .int vv]) (n := 4) (Nat.le_of_ble_eq_true rfl)
  rw [lg_entry_eq]
  generalize (lg_sl ([.ref (ad 0), .int vk, .int 1, .int vv]) ++ List.replicate (4 - (lg_sl ([.ref (ad 0), .int vk, .int 1, .int vv])).length) Slot.unset).toArray = ls at hl ⊢
  have hl : lv_has ls 4 [(0, .ref (ad 0)), (1, .int vk), (2, .int 1), (3, .int vv)] := hl
  obtain ⟨fz, hfz⟩ : ∃ z, F_sm_setLetter1 mu vk vv = z := ⟨_, rfl⟩
  have hF := hfz
  unfold F_sm_setLetter1 at hF
  refine lv_aload_n hx hb dX12_setLetter_0 rfl (lv_at hl 0 rfl) ?_
  refine va_get (D := (dC, dI)) (ci := 12) (v := .ref (ad 10)) (C := RX12) (T := TX12) (N := 46) hx hb hts inG12 hown hK hP 0 (gM_0 cs ad mu) rfl 16 (by decide) (hts _ (List.mem_cons_of_mem _ mw_5_57)) (fun _ h9 => h9) rfl dX12_setLetter_1 ?_
  refine lv_bipush (v := 10) hx hb dX12_setLetter_4 (by decide) ?_
  refine lv_iload_n hx hb dX12_setLetter_6 rfl (lv_at hl 1 rfl) ?_
  refine lv_imul hx hb dX12_setLetter_7 ?_
  refine lv_topi (fun t1 et1 => ?_)
  have hF := mi_let hF et1
  have at1 : t1.toInt = 10 * vk.toInt := by rw [et1]; exact tI_mul (rfl : (10 : Int32).toInt = 10) (rfl : vk.toInt = _) (by omega) (by omega)
  refine lv_iload_n hx hb dX12_setLetter_8 rfl (lv_at hl 2 rfl) ?_
  refine lv_iadd hx hb dX12_setLetter_9 ?_
  refine lv_topi (fun t2 et2 => ?_)
  have hF := mi_let hF et2
  have at2 : t2.toInt = t1.toInt + 1 := by rw [et2]; exact va1 (by omega)
  refine lv_iload_n hx hb dX12_setLetter_10 rfl (lv_at hl 3 rfl) ?_
  refine va_iast hx hb hK hP (wR_D mu hD) hS 10 0 (gM_10 cs ad mu) rfl (show vp_in t2 40 from vi_of (by omega) (by omega)) dX12_setLetter_11 (fun H locs hP _ hS => ?_)
  have hc3 : ((t2 : Int32).toNatClampNeg : Int) = t2.toInt := tC_of (by omega)
  refine wr_gen (upd (mu 10) t2.toNatClampNeg vv) hP (rfl) (fun nu4 hn4 hP => ?_)
  have hF := mi_let hF hn4.symm
  have ok := tM_10_s ok t2.toNatClampNeg hn4 (by refine (fun c9 => ?_) <;> omega)
  have kp5 : (∀ k f : Nat, Nat.testBit 502 (gpM k f) = true → nu4 k f = mu k f) := kp_c 3 hn4 (fun _ => rfl) (by decide) (fun _ _ _ => rfl)
  exact W.vret hx hb hr (fun t ht hW => ⟨⟨nu4, rfl, ⟨hF.trans hfz.symm, ok, trivial, kp5⟩, by first | (subst ht; exact hP) | (rw [ht]; exact hP) | (show va_P (dC, dI) vwCl (wR 21 ad (EM cs ad) nu4) t.heap; rw [ht]; exact hP)⟩, hS.F ht⟩) hS.2.2 dX12_setLetter_12
set_option maxHeartbeats 4000000 in
set_option maxRecDepth 100000 in
/-- sm_setLetter2 -/
theorem sm_setLetter2 (l : Launch) (dC : Nat → ClassId) (dI : Nat → Nat → Nat) (cs : Nat → ClassId) (ad : Nat → Nat) (mu : Nat → Nat → Int32) (ok : okR loM hiM mu) (H : Heap) (hP : va_P (dC, dI) vwCl (wR 21 ad (EM cs ad) mu) H) (hD0 : va_D (fun _ => True) (wR 21 ad (EM cs ad) mu)) (vk : Int32) (vv : Int32) (hin0 : 0 ≤ vk.toInt ∧ vk.toInt ≤ 3) : Met l yX12_setLetter (wU yX12_setLetter cX12_setLetter 4 none) ({ frames := 0, cells := 0, slots := 0, locals := 0 }) (va_Pc [.ref (ad 0), .int vk, .int 2, .int vv] (sz_P (dC, dI) vwCl (tyM cs) H)) (va_Qv (fun (xi : Nat → Nat → Int32) => xi = F_sm_setLetter2 mu vk vv ∧ okR loM hiM xi ∧ (True) ∧ (∀ k f : Nat, Nat.testBit 502 (gpM k f) = true → xi k f = mu k f)) (fun xi t => va_P (dC, dI) vwCl (wR 21 ad (EM cs ad) xi) t.heap) (va_A (wR 21 ad (EM cs ad) mu) H.size)) 0 0 (va_A (wR 21 ad (EM cs ad) mu) H.size) := by
  refine Met.ofW (cc := cX12_setLetter) (maxL := 4) (ret := none) (by decide) rfl ?_
  intro p e s m args below meth c s₁ B hml hv
  obtain ⟨rfl, hh, hK, hz⟩ := hv
  have hx := B.exec
  have hb := B.bytes
  have hr := B.returns
  have hts := atoms_spec (ws := (wU yX12_setLetter cX12_setLetter 4 none)) B.pre
  have hown : s.vm.findClass RX12 = some m.cls := findClass_of_methodNamed B.named
  have hlocks := B.notSynchronized
  subst hh
  have hD := hD0.self (sz := s.heap.size)
  have hA : ∀ q : Nat, s.heap.size ≤ q → (va_A (wR 21 ad (EM cs ad) mu) s.heap.size) q := fun q h => Or.inr h
  have hS : va_S (va_A (wR 21 ad (EM cs ad) mu) s.heap.size) s.heap s.heap [] := va_S.rf
  have hl := lv_entry ([.ref (ad 0), .int vk, .int 2, .int vv]) (n := 4) (Nat.le_of_ble_eq_true rfl)
  rw [lg_entry_eq]
  generalize (lg_sl ([.ref (ad 0), .int vk, .int 2, .int vv]) ++ List.replicate (4 - (lg_sl ([.ref (ad 0), .int vk, .int 2, .int vv])).length) Slot.unset).toArray = ls at hl ⊢
  have hl : lv_has ls 4 [(0, .ref (ad 0)), (1, .int vk), (2, .int 2), (3, .int vv)] := hl
  obtain ⟨fz, hfz⟩ : ∃ z, F_sm_setLetter2 mu vk vv = z := ⟨_, rfl⟩
  have hF := hfz
  unfold F_sm_setLetter2 at hF
  refine lv_aload_n hx hb dX12_setLetter_0 rfl (lv_at hl 0 rfl) ?_
  refine va_get (D := (dC, dI)) (ci := 12) (v := .ref (ad 10)) (C := RX12) (T := TX12) (N := 46) hx hb hts inG12 hown hK hP 0 (gM_0 cs ad mu) rfl 16 (by decide) (hts _ (List.mem_cons_of_mem _ mw_5_57)) (fun _ h9 => h9) rfl dX12_setLetter_1 ?_
  refine lv_bipush (v := 10) hx hb dX12_setLetter_4 (by decide) ?_
  refine lv_iload_n hx hb dX12_setLetter_6 rfl (lv_at hl 1 rfl) ?_
  refine lv_imul hx hb dX12_setLetter_7 ?_
  refine lv_topi (fun t1 et1 => ?_)
  have hF := mi_let hF et1
  have at1 : t1.toInt = 10 * vk.toInt := by rw [et1]; exact tI_mul (rfl : (10 : Int32).toInt = 10) (rfl : vk.toInt = _) (by omega) (by omega)
  refine lv_iload_n hx hb dX12_setLetter_8 rfl (lv_at hl 2 rfl) ?_
  refine lv_iadd hx hb dX12_setLetter_9 ?_
  refine lv_topi (fun t2 et2 => ?_)
  have hF := mi_let hF et2
  have at2 : t2.toInt = t1.toInt + 2 := by rw [et2]; exact tI_add (rfl : t1.toInt = _) (rfl : (2 : Int32).toInt = 2) (by omega) (by omega)
  refine lv_iload_n hx hb dX12_setLetter_10 rfl (lv_at hl 3 rfl) ?_
  refine va_iast hx hb hK hP (wR_D mu hD) hS 10 0 (gM_10 cs ad mu) rfl (show vp_in t2 40 from vi_of (by omega) (by omega)) dX12_setLetter_11 (fun H locs hP _ hS => ?_)
  have hc3 : ((t2 : Int32).toNatClampNeg : Int) = t2.toInt := tC_of (by omega)
  refine wr_gen (upd (mu 10) t2.toNatClampNeg vv) hP (rfl) (fun nu4 hn4 hP => ?_)
  have hF := mi_let hF hn4.symm
  have ok := tM_10_s ok t2.toNatClampNeg hn4 (by refine (fun c9 => ?_) <;> omega)
  have kp5 : (∀ k f : Nat, Nat.testBit 502 (gpM k f) = true → nu4 k f = mu k f) := kp_c 3 hn4 (fun _ => rfl) (by decide) (fun _ _ _ => rfl)
  exact W.vret hx hb hr (fun t ht hW => ⟨⟨nu4, rfl, ⟨hF.trans hfz.symm, ok, trivial, kp5⟩, by first | (subst ht; exact hP) | (rw [ht]; exact hP) | (show va_P (dC, dI) vwCl (wR 21 ad (EM cs ad) nu4) t.heap; rw [ht]; exact hP)⟩, hS.F ht⟩) hS.2.2 dX12_setLetter_12
set_option maxHeartbeats 4000000 in
set_option maxRecDepth 100000 in
/-- sm_setLetter3 -/
theorem sm_setLetter3 (l : Launch) (dC : Nat → ClassId) (dI : Nat → Nat → Nat) (cs : Nat → ClassId) (ad : Nat → Nat) (mu : Nat → Nat → Int32) (ok : okR loM hiM mu) (H : Heap) (hP : va_P (dC, dI) vwCl (wR 21 ad (EM cs ad) mu) H) (hD0 : va_D (fun _ => True) (wR 21 ad (EM cs ad) mu)) (vk : Int32) (vv : Int32) (hin0 : 0 ≤ vk.toInt ∧ vk.toInt ≤ 3) : Met l yX12_setLetter (wU yX12_setLetter cX12_setLetter 4 none) ({ frames := 0, cells := 0, slots := 0, locals := 0 }) (va_Pc [.ref (ad 0), .int vk, .int 3, .int vv] (sz_P (dC, dI) vwCl (tyM cs) H)) (va_Qv (fun (xi : Nat → Nat → Int32) => xi = F_sm_setLetter3 mu vk vv ∧ okR loM hiM xi ∧ (True) ∧ (∀ k f : Nat, Nat.testBit 502 (gpM k f) = true → xi k f = mu k f)) (fun xi t => va_P (dC, dI) vwCl (wR 21 ad (EM cs ad) xi) t.heap) (va_A (wR 21 ad (EM cs ad) mu) H.size)) 0 0 (va_A (wR 21 ad (EM cs ad) mu) H.size) := by
  refine Met.ofW (cc := cX12_setLetter) (maxL := 4) (ret := none) (by decide) rfl ?_
  intro p e s m args below meth c s₁ B hml hv
  obtain ⟨rfl, hh, hK, hz⟩ := hv
  have hx := B.exec
  have hb := B.bytes
  have hr := B.returns
  have hts := atoms_spec (ws := (wU yX12_setLetter cX12_setLetter 4 none)) B.pre
  have hown : s.vm.findClass RX12 = some m.cls := findClass_of_methodNamed B.named
  have hlocks := B.notSynchronized
  subst hh
  have hD := hD0.self (sz := s.heap.size)
  have hA : ∀ q : Nat, s.heap.size ≤ q → (va_A (wR 21 ad (EM cs ad) mu) s.heap.size) q := fun q h => Or.inr h
  have hS : va_S (va_A (wR 21 ad (EM cs ad) mu) s.heap.size) s.heap s.heap [] := va_S.rf
  have hl := lv_entry ([.ref (ad 0), .int vk, .int 3, .int vv]) (n := 4) (Nat.le_of_ble_eq_true rfl)
  rw [lg_entry_eq]
  generalize (lg_sl ([.ref (ad 0), .int vk, .int 3, .int vv]) ++ List.replicate (4 - (lg_sl ([.ref (ad 0), .int vk, .int 3, .int vv])).length) Slot.unset).toArray = ls at hl ⊢
  have hl : lv_has ls 4 [(0, .ref (ad 0)), (1, .int vk), (2, .int 3), (3, .int vv)] := hl
  obtain ⟨fz, hfz⟩ : ∃ z, F_sm_setLetter3 mu vk vv = z := ⟨_, rfl⟩
  have hF := hfz
  unfold F_sm_setLetter3 at hF
  refine lv_aload_n hx hb dX12_setLetter_0 rfl (lv_at hl 0 rfl) ?_
  refine va_get (D := (dC, dI)) (ci := 12) (v := .ref (ad 10)) (C := RX12) (T := TX12) (N := 46) hx hb hts inG12 hown hK hP 0 (gM_0 cs ad mu) rfl 16 (by decide) (hts _ (List.mem_cons_of_mem _ mw_5_57)) (fun _ h9 => h9) rfl dX12_setLetter_1 ?_
  refine lv_bipush (v := 10) hx hb dX12_setLetter_4 (by decide) ?_
  refine lv_iload_n hx hb dX12_setLetter_6 rfl (lv_at hl 1 rfl) ?_
  refine lv_imul hx hb dX12_setLetter_7 ?_
  refine lv_topi (fun t1 et1 => ?_)
  have hF := mi_let hF et1
  have at1 : t1.toInt = 10 * vk.toInt := by rw [et1]; exact tI_mul (rfl : (10 : Int32).toInt = 10) (rfl : vk.toInt = _) (by omega) (by omega)
  refine lv_iload_n hx hb dX12_setLetter_8 rfl (lv_at hl 2 rfl) ?_
  refine lv_iadd hx hb dX12_setLetter_9 ?_
  refine lv_topi (fun t2 et2 => ?_)
  have hF := mi_let hF et2
  have at2 : t2.toInt = t1.toInt + 3 := by rw [et2]; exact tI_add (rfl : t1.toInt = _) (rfl : (3 : Int32).toInt = 3) (by omega) (by omega)
  refine lv_iload_n hx hb dX12_setLetter_10 rfl (lv_at hl 3 rfl) ?_
  refine va_iast hx hb hK hP (wR_D mu hD) hS 10 0 (gM_10 cs ad mu) rfl (show vp_in t2 40 from vi_of (by omega) (by omega)) dX12_setLetter_11 (fun H locs hP _ hS => ?_)
  have hc3 : ((t2 : Int32).toNatClampNeg : Int) = t2.toInt := tC_of (by omega)
  refine wr_gen (upd (mu 10) t2.toNatClampNeg vv) hP (rfl) (fun nu4 hn4 hP => ?_)
  have hF := mi_let hF hn4.symm
  have ok := tM_10_s ok t2.toNatClampNeg hn4 (by refine (fun c9 => ?_) <;> omega)
  have kp5 : (∀ k f : Nat, Nat.testBit 502 (gpM k f) = true → nu4 k f = mu k f) := kp_c 3 hn4 (fun _ => rfl) (by decide) (fun _ _ _ => rfl)
  exact W.vret hx hb hr (fun t ht hW => ⟨⟨nu4, rfl, ⟨hF.trans hfz.symm, ok, trivial, kp5⟩, by first | (subst ht; exact hP) | (rw [ht]; exact hP) | (show va_P (dC, dI) vwCl (wR 21 ad (EM cs ad) nu4) t.heap; rw [ht]; exact hP)⟩, hS.F ht⟩) hS.2.2 dX12_setLetter_12
set_option maxHeartbeats 4000000 in
set_option maxRecDepth 100000 in
/-- sm_setLetter4 -/
theorem sm_setLetter4 (l : Launch) (dC : Nat → ClassId) (dI : Nat → Nat → Nat) (cs : Nat → ClassId) (ad : Nat → Nat) (mu : Nat → Nat → Int32) (ok : okR loM hiM mu) (H : Heap) (hP : va_P (dC, dI) vwCl (wR 21 ad (EM cs ad) mu) H) (hD0 : va_D (fun _ => True) (wR 21 ad (EM cs ad) mu)) (vk : Int32) (vv : Int32) (hin0 : 0 ≤ vk.toInt ∧ vk.toInt ≤ 3) : Met l yX12_setLetter (wU yX12_setLetter cX12_setLetter 4 none) ({ frames := 0, cells := 0, slots := 0, locals := 0 }) (va_Pc [.ref (ad 0), .int vk, .int 4, .int vv] (sz_P (dC, dI) vwCl (tyM cs) H)) (va_Qv (fun (xi : Nat → Nat → Int32) => xi = F_sm_setLetter4 mu vk vv ∧ okR loM hiM xi ∧ (True) ∧ (∀ k f : Nat, Nat.testBit 502 (gpM k f) = true → xi k f = mu k f)) (fun xi t => va_P (dC, dI) vwCl (wR 21 ad (EM cs ad) xi) t.heap) (va_A (wR 21 ad (EM cs ad) mu) H.size)) 0 0 (va_A (wR 21 ad (EM cs ad) mu) H.size) := by
  refine Met.ofW (cc := cX12_setLetter) (maxL := 4) (ret := none) (by decide) rfl ?_
  intro p e s m args below meth c s₁ B hml hv
  obtain ⟨rfl, hh, hK, hz⟩ := hv
  have hx := B.exec
  have hb := B.bytes
  have hr := B.returns
  have hts := atoms_spec (ws := (wU yX12_setLetter cX12_setLetter 4 none)) B.pre
  have hown : s.vm.findClass RX12 = some m.cls := findClass_of_methodNamed B.named
  have hlocks := B.notSynchronized
  subst hh
  have hD := hD0.self (sz := s.heap.size)
  have hA : ∀ q : Nat, s.heap.size ≤ q → (va_A (wR 21 ad (EM cs ad) mu) s.heap.size) q := fun q h => Or.inr h
  have hS : va_S (va_A (wR 21 ad (EM cs ad) mu) s.heap.size) s.heap s.heap [] := va_S.rf
  have hl := lv_entry ([.ref (ad 0), .int vk, .int 4, .int vv]) (n := 4) (Nat.le_of_ble_eq_true rfl)
  rw [lg_entry_eq]
  generalize (lg_sl ([.ref (ad 0), .int vk, .int 4, .int vv]) ++ List.replicate (4 - (lg_sl ([.ref (ad 0), .int vk, .int 4, .int vv])).length) Slot.unset).toArray = ls at hl ⊢
  have hl : lv_has ls 4 [(0, .ref (ad 0)), (1, .int vk), (2, .int 4), (3, .int vv)] := hl
  obtain ⟨fz, hfz⟩ : ∃ z, F_sm_setLetter4 mu vk vv = z := ⟨_, rfl⟩
  have hF := hfz
  unfold F_sm_setLetter4 at hF
  refine lv_aload_n hx hb dX12_setLetter_0 rfl (lv_at hl 0 rfl) ?_
  refine va_get (D := (dC, dI)) (ci := 12) (v := .ref (ad 10)) (C := RX12) (T := TX12) (N := 46) hx hb hts inG12 hown hK hP 0 (gM_0 cs ad mu) rfl 16 (by decide) (hts _ (List.mem_cons_of_mem _ mw_5_57)) (fun _ h9 => h9) rfl dX12_setLetter_1 ?_
  refine lv_bipush (v := 10) hx hb dX12_setLetter_4 (by decide) ?_
  refine lv_iload_n hx hb dX12_setLetter_6 rfl (lv_at hl 1 rfl) ?_
  refine lv_imul hx hb dX12_setLetter_7 ?_
  refine lv_topi (fun t1 et1 => ?_)
  have hF := mi_let hF et1
  have at1 : t1.toInt = 10 * vk.toInt := by rw [et1]; exact tI_mul (rfl : (10 : Int32).toInt = 10) (rfl : vk.toInt = _) (by omega) (by omega)
  refine lv_iload_n hx hb dX12_setLetter_8 rfl (lv_at hl 2 rfl) ?_
  refine lv_iadd hx hb dX12_setLetter_9 ?_
  refine lv_topi (fun t2 et2 => ?_)
  have hF := mi_let hF et2
  have at2 : t2.toInt = t1.toInt + 4 := by rw [et2]; exact tI_add (rfl : t1.toInt = _) (rfl : (4 : Int32).toInt = 4) (by omega) (by omega)
  refine lv_iload_n hx hb dX12_setLetter_10 rfl (lv_at hl 3 rfl) ?_
  refine va_iast hx hb hK hP (wR_D mu hD) hS 10 0 (gM_10 cs ad mu) rfl (show vp_in t2 40 from vi_of (by omega) (by omega)) dX12_setLetter_11 (fun H locs hP _ hS => ?_)
  have hc3 : ((t2 : Int32).toNatClampNeg : Int) = t2.toInt := tC_of (by omega)
  refine wr_gen (upd (mu 10) t2.toNatClampNeg vv) hP (rfl) (fun nu4 hn4 hP => ?_)
  have hF := mi_let hF hn4.symm
  have ok := tM_10_s ok t2.toNatClampNeg hn4 (by refine (fun c9 => ?_) <;> omega)
  have kp5 : (∀ k f : Nat, Nat.testBit 502 (gpM k f) = true → nu4 k f = mu k f) := kp_c 3 hn4 (fun _ => rfl) (by decide) (fun _ _ _ => rfl)
  exact W.vret hx hb hr (fun t ht hW => ⟨⟨nu4, rfl, ⟨hF.trans hfz.symm, ok, trivial, kp5⟩, by first | (subst ht; exact hP) | (rw [ht]; exact hP) | (show va_P (dC, dI) vwCl (wR 21 ad (EM cs ad) nu4) t.heap; rw [ht]; exact hP)⟩, hS.F ht⟩) hS.2.2 dX12_setLetter_12
set_option maxHeartbeats 4000000 in
set_option maxRecDepth 100000 in
/-- sm_setLetter5 -/
theorem sm_setLetter5 (l : Launch) (dC : Nat → ClassId) (dI : Nat → Nat → Nat) (cs : Nat → ClassId) (ad : Nat → Nat) (mu : Nat → Nat → Int32) (ok : okR loM hiM mu) (H : Heap) (hP : va_P (dC, dI) vwCl (wR 21 ad (EM cs ad) mu) H) (hD0 : va_D (fun _ => True) (wR 21 ad (EM cs ad) mu)) (vk : Int32) (vv : Int32) (hin0 : 0 ≤ vk.toInt ∧ vk.toInt ≤ 3) (hin1 : 0 ≤ vv.toInt ∧ vv.toInt ≤ 6) : Met l yX12_setLetter (wU yX12_setLetter cX12_setLetter 4 none) ({ frames := 0, cells := 0, slots := 0, locals := 0 }) (va_Pc [.ref (ad 0), .int vk, .int 5, .int vv] (sz_P (dC, dI) vwCl (tyM cs) H)) (va_Qv (fun (xi : Nat → Nat → Int32) => xi = F_sm_setLetter5 mu vk vv ∧ okR loM hiM xi ∧ (True) ∧ (∀ k f : Nat, Nat.testBit 502 (gpM k f) = true → xi k f = mu k f)) (fun xi t => va_P (dC, dI) vwCl (wR 21 ad (EM cs ad) xi) t.heap) (va_A (wR 21 ad (EM cs ad) mu) H.size)) 0 0 (va_A (wR 21 ad (EM cs ad) mu) H.size) := by
  refine Met.ofW (cc := cX12_setLetter) (maxL := 4) (ret := none) (by decide) rfl ?_
  intro p e s m args below meth c s₁ B hml hv
  obtain ⟨rfl, hh, hK, hz⟩ := hv
  have hx := B.exec
  have hb := B.bytes
  have hr := B.returns
  have hts := atoms_spec (ws := (wU yX12_setLetter cX12_setLetter 4 none)) B.pre
  have hown : s.vm.findClass RX12 = some m.cls := findClass_of_methodNamed B.named
  have hlocks := B.notSynchronized
  subst hh
  have hD := hD0.self (sz := s.heap.size)
  have hA : ∀ q : Nat, s.heap.size ≤ q → (va_A (wR 21 ad (EM cs ad) mu) s.heap.size) q := fun q h => Or.inr h
  have hS : va_S (va_A (wR 21 ad (EM cs ad) mu) s.heap.size) s.heap s.heap [] := va_S.rf
  have hl := lv_entry ([.ref (ad 0), .int vk, .int 5, .int vv]) (n := 4) (Nat.le_of_ble_eq_true rfl)
  rw [lg_entry_eq]
  generalize (lg_sl ([.ref (ad 0), .int vk, .int 5, .int vv]) ++ List.replicate (4 - (lg_sl ([.ref (ad 0), .int vk, .int 5, .int vv])).length) Slot.unset).toArray = ls at hl ⊢
  have hl : lv_has ls 4 [(0, .ref (ad 0)), (1, .int vk), (2, .int 5), (3, .int vv)] := hl
  obtain ⟨fz, hfz⟩ : ∃ z, F_sm_setLetter5 mu vk vv = z := ⟨_, rfl⟩
  have hF := hfz
  unfold F_sm_setLetter5 at hF
  refine lv_aload_n hx hb dX12_setLetter_0 rfl (lv_at hl 0 rfl) ?_
  refine va_get (D := (dC, dI)) (ci := 12) (v := .ref (ad 10)) (C := RX12) (T := TX12) (N := 46) hx hb hts inG12 hown hK hP 0 (gM_0 cs ad mu) rfl 16 (by decide) (hts _ (List.mem_cons_of_mem _ mw_5_57)) (fun _ h9 => h9) rfl dX12_setLetter_1 ?_
  refine lv_bipush (v := 10) hx hb dX12_setLetter_4 (by decide) ?_
  refine lv_iload_n hx hb dX12_setLetter_6 rfl (lv_at hl 1 rfl) ?_
  refine lv_imul hx hb dX12_setLetter_7 ?_
  refine lv_topi (fun t1 et1 => ?_)
  have hF := mi_let hF et1
  have at1 : t1.toInt = 10 * vk.toInt := by rw [et1]; exact tI_mul (rfl : (10 : Int32).toInt = 10) (rfl : vk.toInt = _) (by omega) (by omega)
  refine lv_iload_n hx hb dX12_setLetter_8 rfl (lv_at hl 2 rfl) ?_
  refine lv_iadd hx hb dX12_setLetter_9 ?_
  refine lv_topi (fun t2 et2 => ?_)
  have hF := mi_let hF et2
  have at2 : t2.toInt = t1.toInt + 5 := by rw [et2]; exact tI_add (rfl : t1.toInt = _) (rfl : (5 : Int32).toInt = 5) (by omega) (by omega)
  refine lv_iload_n hx hb dX12_setLetter_10 rfl (lv_at hl 3 rfl) ?_
  refine va_iast hx hb hK hP (wR_D mu hD) hS 10 0 (gM_10 cs ad mu) rfl (show vp_in t2 40 from vi_of (by omega) (by omega)) dX12_setLetter_11 (fun H locs hP _ hS => ?_)
  have hc3 : ((t2 : Int32).toNatClampNeg : Int) = t2.toInt := tC_of (by omega)
  refine wr_gen (upd (mu 10) t2.toNatClampNeg vv) hP (rfl) (fun nu4 hn4 hP => ?_)
  have hF := mi_let hF hn4.symm
  have ok := tM_10_s ok t2.toNatClampNeg hn4 (by refine (fun c9 => ?_) <;> omega)
  have kp5 : (∀ k f : Nat, Nat.testBit 502 (gpM k f) = true → nu4 k f = mu k f) := kp_c 3 hn4 (fun _ => rfl) (by decide) (fun _ _ _ => rfl)
  exact W.vret hx hb hr (fun t ht hW => ⟨⟨nu4, rfl, ⟨hF.trans hfz.symm, ok, trivial, kp5⟩, by first | (subst ht; exact hP) | (rw [ht]; exact hP) | (show va_P (dC, dI) vwCl (wR 21 ad (EM cs ad) nu4) t.heap; rw [ht]; exact hP)⟩, hS.F ht⟩) hS.2.2 dX12_setLetter_12
set_option maxHeartbeats 4000000 in
set_option maxRecDepth 100000 in
/-- sm_setLetter6 -/
theorem sm_setLetter6 (l : Launch) (dC : Nat → ClassId) (dI : Nat → Nat → Nat) (cs : Nat → ClassId) (ad : Nat → Nat) (mu : Nat → Nat → Int32) (ok : okR loM hiM mu) (H : Heap) (hP : va_P (dC, dI) vwCl (wR 21 ad (EM cs ad) mu) H) (hD0 : va_D (fun _ => True) (wR 21 ad (EM cs ad) mu)) (vk : Int32) (vv : Int32) (hin0 : 0 ≤ vk.toInt ∧ vk.toInt ≤ 3) : Met l yX12_setLetter (wU yX12_setLetter cX12_setLetter 4 none) ({ frames := 0, cells := 0, slots := 0, locals := 0 }) (va_Pc [.ref (ad 0), .int vk, .int 6, .int vv] (sz_P (dC, dI) vwCl (tyM cs) H)) (va_Qv (fun (xi : Nat → Nat → Int32) => xi = F_sm_setLetter6 mu vk vv ∧ okR loM hiM xi ∧ (True) ∧ (∀ k f : Nat, Nat.testBit 502 (gpM k f) = true → xi k f = mu k f)) (fun xi t => va_P (dC, dI) vwCl (wR 21 ad (EM cs ad) xi) t.heap) (va_A (wR 21 ad (EM cs ad) mu) H.size)) 0 0 (va_A (wR 21 ad (EM cs ad) mu) H.size) := by
  refine Met.ofW (cc := cX12_setLetter) (maxL := 4) (ret := none) (by decide) rfl ?_
  intro p e s m args below meth c s₁ B hml hv
  obtain ⟨rfl, hh, hK, hz⟩ := hv
  have hx := B.exec
  have hb := B.bytes
  have hr := B.returns
  have hts := atoms_spec (ws := (wU yX12_setLetter cX12_setLetter 4 none)) B.pre
  have hown : s.vm.findClass RX12 = some m.cls := findClass_of_methodNamed B.named
  have hlocks := B.notSynchronized
  subst hh
  have hD := hD0.self (sz := s.heap.size)
  have hA : ∀ q : Nat, s.heap.size ≤ q → (va_A (wR 21 ad (EM cs ad) mu) s.heap.size) q := fun q h => Or.inr h
  have hS : va_S (va_A (wR 21 ad (EM cs ad) mu) s.heap.size) s.heap s.heap [] := va_S.rf
  have hl := lv_entry ([.ref (ad 0), .int vk, .int 6, .int vv]) (n := 4) (Nat.le_of_ble_eq_true rfl)
  rw [lg_entry_eq]
  generalize (lg_sl ([.ref (ad 0), .int vk, .int 6, .int vv]) ++ List.replicate (4 - (lg_sl ([.ref (ad 0), .int vk, .int 6, .int vv])).length) Slot.unset).toArray = ls at hl ⊢
  have hl : lv_has ls 4 [(0, .ref (ad 0)), (1, .int vk), (2, .int 6), (3, .int vv)] := hl
  obtain ⟨fz, hfz⟩ : ∃ z, F_sm_setLetter6 mu vk vv = z := ⟨_, rfl⟩
  have hF := hfz
  unfold F_sm_setLetter6 at hF
  refine lv_aload_n hx hb dX12_setLetter_0 rfl (lv_at hl 0 rfl) ?_
  refine va_get (D := (dC, dI)) (ci := 12) (v := .ref (ad 10)) (C := RX12) (T := TX12) (N := 46) hx hb hts inG12 hown hK hP 0 (gM_0 cs ad mu) rfl 16 (by decide) (hts _ (List.mem_cons_of_mem _ mw_5_57)) (fun _ h9 => h9) rfl dX12_setLetter_1 ?_
  refine lv_bipush (v := 10) hx hb dX12_setLetter_4 (by decide) ?_
  refine lv_iload_n hx hb dX12_setLetter_6 rfl (lv_at hl 1 rfl) ?_
  refine lv_imul hx hb dX12_setLetter_7 ?_
  refine lv_topi (fun t1 et1 => ?_)
  have hF := mi_let hF et1
  have at1 : t1.toInt = 10 * vk.toInt := by rw [et1]; exact tI_mul (rfl : (10 : Int32).toInt = 10) (rfl : vk.toInt = _) (by omega) (by omega)
  refine lv_iload_n hx hb dX12_setLetter_8 rfl (lv_at hl 2 rfl) ?_
  refine lv_iadd hx hb dX12_setLetter_9 ?_
  refine lv_topi (fun t2 et2 => ?_)
  have hF := mi_let hF et2
  have at2 : t2.toInt = t1.toInt + 6 := by rw [et2]; exact tI_add (rfl : t1.toInt = _) (rfl : (6 : Int32).toInt = 6) (by omega) (by omega)
  refine lv_iload_n hx hb dX12_setLetter_10 rfl (lv_at hl 3 rfl) ?_
  refine va_iast hx hb hK hP (wR_D mu hD) hS 10 0 (gM_10 cs ad mu) rfl (show vp_in t2 40 from vi_of (by omega) (by omega)) dX12_setLetter_11 (fun H locs hP _ hS => ?_)
  have hc3 : ((t2 : Int32).toNatClampNeg : Int) = t2.toInt := tC_of (by omega)
  refine wr_gen (upd (mu 10) t2.toNatClampNeg vv) hP (rfl) (fun nu4 hn4 hP => ?_)
  have hF := mi_let hF hn4.symm
  have ok := tM_10_s ok t2.toNatClampNeg hn4 (by refine (fun c9 => ?_) <;> omega)
  have kp5 : (∀ k f : Nat, Nat.testBit 502 (gpM k f) = true → nu4 k f = mu k f) := kp_c 3 hn4 (fun _ => rfl) (by decide) (fun _ _ _ => rfl)
  exact W.vret hx hb hr (fun t ht hW => ⟨⟨nu4, rfl, ⟨hF.trans hfz.symm, ok, trivial, kp5⟩, by first | (subst ht; exact hP) | (rw [ht]; exact hP) | (show va_P (dC, dI) vwCl (wR 21 ad (EM cs ad) nu4) t.heap; rw [ht]; exact hP)⟩, hS.F ht⟩) hS.2.2 dX12_setLetter_12
set_option maxHeartbeats 4000000 in
set_option maxRecDepth 100000 in
/-- sm_setLetter7 -/
theorem sm_setLetter7 (l : Launch) (dC : Nat → ClassId) (dI : Nat → Nat → Nat) (cs : Nat → ClassId) (ad : Nat → Nat) (mu : Nat → Nat → Int32) (ok : okR loM hiM mu) (H : Heap) (hP : va_P (dC, dI) vwCl (wR 21 ad (EM cs ad) mu) H) (hD0 : va_D (fun _ => True) (wR 21 ad (EM cs ad) mu)) (vk : Int32) (vv : Int32) (hin0 : 0 ≤ vk.toInt ∧ vk.toInt ≤ 3) : Met l yX12_setLetter (wU yX12_setLetter cX12_setLetter 4 none) ({ frames := 0, cells := 0, slots := 0, locals := 0 }) (va_Pc [.ref (ad 0), .int vk, .int 7, .int vv] (sz_P (dC, dI) vwCl (tyM cs) H)) (va_Qv (fun (xi : Nat → Nat → Int32) => xi = F_sm_setLetter7 mu vk vv ∧ okR loM hiM xi ∧ (True) ∧ (∀ k f : Nat, Nat.testBit 502 (gpM k f) = true → xi k f = mu k f)) (fun xi t => va_P (dC, dI) vwCl (wR 21 ad (EM cs ad) xi) t.heap) (va_A (wR 21 ad (EM cs ad) mu) H.size)) 0 0 (va_A (wR 21 ad (EM cs ad) mu) H.size) := by
  refine Met.ofW (cc := cX12_setLetter) (maxL := 4) (ret := none) (by decide) rfl ?_
  intro p e s m args below meth c s₁ B hml hv
  obtain ⟨rfl, hh, hK, hz⟩ := hv
  have hx := B.exec
  have hb := B.bytes
  have hr := B.returns
  have hts := atoms_spec (ws := (wU yX12_setLetter cX12_setLetter 4 none)) B.pre
  have hown : s.vm.findClass RX12 = some m.cls := findClass_of_methodNamed B.named
  have hlocks := B.notSynchronized
  subst hh
  have hD := hD0.self (sz := s.heap.size)
  have hA : ∀ q : Nat, s.heap.size ≤ q → (va_A (wR 21 ad (EM cs ad) mu) s.heap.size) q := fun q h => Or.inr h
  have hS : va_S (va_A (wR 21 ad (EM cs ad) mu) s.heap.size) s.heap s.heap [] := va_S.rf
  have hl := lv_entry ([.ref (ad 0), .int vk, .int 7, .int vv]) (n := 4) (Nat.le_of_ble_eq_true rfl)
  rw [lg_entry_eq]
  generalize (lg_sl ([.ref (ad 0), .int vk, .int 7, .int vv]) ++ List.replicate (4 - (lg_sl ([.ref (ad 0), .int vk, .int 7, .int vv])).length) Slot.unset).toArray = ls at hl ⊢
  have hl : lv_has ls 4 [(0, .ref (ad 0)), (1, .int vk), (2, .int 7), (3, .int vv)] := hl
  obtain ⟨fz, hfz⟩ : ∃ z, F_sm_setLetter7 mu vk vv = z := ⟨_, rfl⟩
  have hF := hfz
  unfold F_sm_setLetter7 at hF
  refine lv_aload_n hx hb dX12_setLetter_0 rfl (lv_at hl 0 rfl) ?_
  refine va_get (D := (dC, dI)) (ci := 12) (v := .ref (ad 10)) (C := RX12) (T := TX12) (N := 46) hx hb hts inG12 hown hK hP 0 (gM_0 cs ad mu) rfl 16 (by decide) (hts _ (List.mem_cons_of_mem _ mw_5_57)) (fun _ h9 => h9) rfl dX12_setLetter_1 ?_
  refine lv_bipush (v := 10) hx hb dX12_setLetter_4 (by decide) ?_
  refine lv_iload_n hx hb dX12_setLetter_6 rfl (lv_at hl 1 rfl) ?_
  refine lv_imul hx hb dX12_setLetter_7 ?_
  refine lv_topi (fun t1 et1 => ?_)
  have hF := mi_let hF et1
  have at1 : t1.toInt = 10 * vk.toInt := by rw [et1]; exact tI_mul (rfl : (10 : Int32).toInt = 10) (rfl : vk.toInt = _) (by omega) (by omega)
  refine lv_iload_n hx hb dX12_setLetter_8 rfl (lv_at hl 2 rfl) ?_
  refine lv_iadd hx hb dX12_setLetter_9 ?_
  refine lv_topi (fun t2 et2 => ?_)
  have hF := mi_let hF et2
  have at2 : t2.toInt = t1.toInt + 7 := by rw [et2]; exact tI_add (rfl : t1.toInt = _) (rfl : (7 : Int32).toInt = 7) (by omega) (by omega)
  refine lv_iload_n hx hb dX12_setLetter_10 rfl (lv_at hl 3 rfl) ?_
  refine va_iast hx hb hK hP (wR_D mu hD) hS 10 0 (gM_10 cs ad mu) rfl (show vp_in t2 40 from vi_of (by omega) (by omega)) dX12_setLetter_11 (fun H locs hP _ hS => ?_)
  have hc3 : ((t2 : Int32).toNatClampNeg : Int) = t2.toInt := tC_of (by omega)
  refine wr_gen (upd (mu 10) t2.toNatClampNeg vv) hP (rfl) (fun nu4 hn4 hP => ?_)
  have hF := mi_let hF hn4.symm
  have ok := tM_10_s ok t2.toNatClampNeg hn4 (by refine (fun c9 => ?_) <;> omega)
  have kp5 : (∀ k f : Nat, Nat.testBit 502 (gpM k f) = true → nu4 k f = mu k f) := kp_c 3 hn4 (fun _ => rfl) (by decide) (fun _ _ _ => rfl)
  exact W.vret hx hb hr (fun t ht hW => ⟨⟨nu4, rfl, ⟨hF.trans hfz.symm, ok, trivial, kp5⟩, by first | (subst ht; exact hP) | (rw [ht]; exact hP) | (show va_P (dC, dI) vwCl (wR 21 ad (EM cs ad) nu4) t.heap; rw [ht]; exact hP)⟩, hS.F ht⟩) hS.2.2 dX12_setLetter_12
set_option maxHeartbeats 4000000 in
set_option maxRecDepth 100000 in
/-- sm_setLetter8 -/
theorem sm_setLetter8 (l : Launch) (dC : Nat → ClassId) (dI : Nat → Nat → Nat) (cs : Nat → ClassId) (ad : Nat → Nat) (mu : Nat → Nat → Int32) (ok : okR loM hiM mu) (H : Heap) (hP : va_P (dC, dI) vwCl (wR 21 ad (EM cs ad) mu) H) (hD0 : va_D (fun _ => True) (wR 21 ad (EM cs ad) mu)) (vk : Int32) (vv : Int32) (hin0 : 0 ≤ vk.toInt ∧ vk.toInt ≤ 3) : Met l yX12_setLetter (wU yX12_setLetter cX12_setLetter 4 none) ({ frames := 0, cells := 0, slots := 0, locals := 0 }) (va_Pc [.ref (ad 0), .int vk, .int 8, .int vv] (sz_P (dC, dI) vwCl (tyM cs) H)) (va_Qv (fun (xi : Nat → Nat → Int32) => xi = F_sm_setLetter8 mu vk vv ∧ okR loM hiM xi ∧ (True) ∧ (∀ k f : Nat, Nat.testBit 502 (gpM k f) = true → xi k f = mu k f)) (fun xi t => va_P (dC, dI) vwCl (wR 21 ad (EM cs ad) xi) t.heap) (va_A (wR 21 ad (EM cs ad) mu) H.size)) 0 0 (va_A (wR 21 ad (EM cs ad) mu) H.size) := by
  refine Met.ofW (cc := cX12_setLetter) (maxL := 4) (ret := none) (by decide) rfl ?_
  intro p e s m args below meth c s₁ B hml hv
  obtain ⟨rfl, hh, hK, hz⟩ := hv
  have hx := B.exec
  have hb := B.bytes
  have hr := B.returns
  have hts := atoms_spec (ws := (wU yX12_setLetter cX12_setLetter 4 none)) B.pre
  have hown : s.vm.findClass RX12 = some m.cls := findClass_of_methodNamed B.named
  have hlocks := B.notSynchronized
  subst hh
  have hD := hD0.self (sz := s.heap.size)
  have hA : ∀ q : Nat, s.heap.size ≤ q → (va_A (wR 21 ad (EM cs ad) mu) s.heap.size) q := fun q h => Or.inr h
  have hS : va_S (va_A (wR 21 ad (EM cs ad) mu) s.heap.size) s.heap s.heap [] := va_S.rf
  have hl := lv_entry ([.ref (ad 0), .int vk, .int 8, .int vv]) (n := 4) (Nat.le_of_ble_eq_true rfl)
  rw [lg_entry_eq]
  generalize (lg_sl ([.ref (ad 0), .int vk, .int 8, .int vv]) ++ List.replicate (4 - (lg_sl ([.ref (ad 0), .int vk, .int 8, .int vv])).length) Slot.unset).toArray = ls at hl ⊢
  have hl : lv_has ls 4 [(0, .ref (ad 0)), (1, .int vk), (2, .int 8), (3, .int vv)] := hl
  obtain ⟨fz, hfz⟩ : ∃ z, F_sm_setLetter8 mu vk vv = z := ⟨_, rfl⟩
  have hF := hfz
  unfold F_sm_setLetter8 at hF
  refine lv_aload_n hx hb dX12_setLetter_0 rfl (lv_at hl 0 rfl) ?_
  refine va_get (D := (dC, dI)) (ci := 12) (v := .ref (ad 10)) (C := RX12) (T := TX12) (N := 46) hx hb hts inG12 hown hK hP 0 (gM_0 cs ad mu) rfl 16 (by decide) (hts _ (List.mem_cons_of_mem _ mw_5_57)) (fun _ h9 => h9) rfl dX12_setLetter_1 ?_
  refine lv_bipush (v := 10) hx hb dX12_setLetter_4 (by decide) ?_
  refine lv_iload_n hx hb dX12_setLetter_6 rfl (lv_at hl 1 rfl) ?_
  refine lv_imul hx hb dX12_setLetter_7 ?_
  refine lv_topi (fun t1 et1 => ?_)
  have hF := mi_let hF et1
  have at1 : t1.toInt = 10 * vk.toInt := by rw [et1]; exact tI_mul (rfl : (10 : Int32).toInt = 10) (rfl : vk.toInt = _) (by omega) (by omega)
  refine lv_iload_n hx hb dX12_setLetter_8 rfl (lv_at hl 2 rfl) ?_
  refine lv_iadd hx hb dX12_setLetter_9 ?_
  refine lv_topi (fun t2 et2 => ?_)
  have hF := mi_let hF et2
  have at2 : t2.toInt = t1.toInt + 8 := by rw [et2]; exact tI_add (rfl : t1.toInt = _) (rfl : (8 : Int32).toInt = 8) (by omega) (by omega)
  refine lv_iload_n hx hb dX12_setLetter_10 rfl (lv_at hl 3 rfl) ?_
  refine va_iast hx hb hK hP (wR_D mu hD) hS 10 0 (gM_10 cs ad mu) rfl (show vp_in t2 40 from vi_of (by omega) (by omega)) dX12_setLetter_11 (fun H locs hP _ hS => ?_)
  have hc3 : ((t2 : Int32).toNatClampNeg : Int) = t2.toInt := tC_of (by omega)
  refine wr_gen (upd (mu 10) t2.toNatClampNeg vv) hP (rfl) (fun nu4 hn4 hP => ?_)
  have hF := mi_let hF hn4.symm
  have ok := tM_10_s ok t2.toNatClampNeg hn4 (by refine (fun c9 => ?_) <;> omega)
  have kp5 : (∀ k f : Nat, Nat.testBit 502 (gpM k f) = true → nu4 k f = mu k f) := kp_c 3 hn4 (fun _ => rfl) (by decide) (fun _ _ _ => rfl)
  exact W.vret hx hb hr (fun t ht hW => ⟨⟨nu4, rfl, ⟨hF.trans hfz.symm, ok, trivial, kp5⟩, by first | (subst ht; exact hP) | (rw [ht]; exact hP) | (show va_P (dC, dI) vwCl (wR 21 ad (EM cs ad) nu4) t.heap; rw [ht]; exact hP)⟩, hS.F ht⟩) hS.2.2 dX12_setLetter_12
set_option maxHeartbeats 4000000 in
set_option maxRecDepth 100000 in
/-- sm_setLetter9 -/
theorem sm_setLetter9 (l : Launch) (dC : Nat → ClassId) (dI : Nat → Nat → Nat) (cs : Nat → ClassId) (ad : Nat → Nat) (mu : Nat → Nat → Int32) (ok : okR loM hiM mu) (H : Heap) (hP : va_P (dC, dI) vwCl (wR 21 ad (EM cs ad) mu) H) (hD0 : va_D (fun _ => True) (wR 21 ad (EM cs ad) mu)) (vk : Int32) (vv : Int32) (hin0 : 0 ≤ vk.toInt ∧ vk.toInt ≤ 3) : Met l yX12_setLetter (wU yX12_setLetter cX12_setLetter 4 none) ({ frames := 0, cells := 0, slots := 0, locals := 0 }) (va_Pc [.ref (ad 0), .int vk, .int 9, .int vv] (sz_P (dC, dI) vwCl (tyM cs) H)) (va_Qv (fun (xi : Nat → Nat → Int32) => xi = F_sm_setLetter9 mu vk vv ∧ okR loM hiM xi ∧ (True) ∧ (∀ k f : Nat, Nat.testBit 502 (gpM k f) = true → xi k f = mu k f)) (fun xi t => va_P (dC, dI) vwCl (wR 21 ad (EM cs ad) xi) t.heap) (va_A (wR 21 ad (EM cs ad) mu) H.size)) 0 0 (va_A (wR 21 ad (EM cs ad) mu) H.size) := by
  refine Met.ofW (cc := cX12_setLetter) (maxL := 4) (ret := none) (by decide) rfl ?_
  intro p e s m args below meth c s₁ B hml hv
  obtain ⟨rfl, hh, hK, hz⟩ := hv
  have hx := B.exec
  have hb := B.bytes
  have hr := B.returns
  have hts := atoms_spec (ws := (wU yX12_setLetter cX12_setLetter 4 none)) B.pre
  have hown : s.vm.findClass RX12 = some m.cls := findClass_of_methodNamed B.named
  have hlocks := B.notSynchronized
  subst hh
  have hD := hD0.self (sz := s.heap.size)
  have hA : ∀ q : Nat, s.heap.size ≤ q → (va_A (wR 21 ad (EM cs ad) mu) s.heap.size) q := fun q h => Or.inr h
  have hS : va_S (va_A (wR 21 ad (EM cs ad) mu) s.heap.size) s.heap s.heap [] := va_S.rf
  have hl := lv_entry ([.ref (ad 0), .int vk, .int 9, .int vv]) (n := 4) (Nat.le_of_ble_eq_true rfl)
  rw [lg_entry_eq]
  generalize (lg_sl ([.ref (ad 0), .int vk, .int 9, .int vv]) ++ List.replicate (4 - (lg_sl ([.ref (ad 0), .int vk, .int 9, .int vv])).length) Slot.unset).toArray = ls at hl ⊢
  have hl : lv_has ls 4 [(0, .ref (ad 0)), (1, .int vk), (2, .int 9), (3, .int vv)] := hl
  obtain ⟨fz, hfz⟩ : ∃ z, F_sm_setLetter9 mu vk vv = z := ⟨_, rfl⟩
  have hF := hfz
  unfold F_sm_setLetter9 at hF
  refine lv_aload_n hx hb dX12_setLetter_0 rfl (lv_at hl 0 rfl) ?_
  refine va_get (D := (dC, dI)) (ci := 12) (v := .ref (ad 10)) (C := RX12) (T := TX12) (N := 46) hx hb hts inG12 hown hK hP 0 (gM_0 cs ad mu) rfl 16 (by decide) (hts _ (List.mem_cons_of_mem _ mw_5_57)) (fun _ h9 => h9) rfl dX12_setLetter_1 ?_
  refine lv_bipush (v := 10) hx hb dX12_setLetter_4 (by decide) ?_
  refine lv_iload_n hx hb dX12_setLetter_6 rfl (lv_at hl 1 rfl) ?_
  refine lv_imul hx hb dX12_setLetter_7 ?_
  refine lv_topi (fun t1 et1 => ?_)
  have hF := mi_let hF et1
  have at1 : t1.toInt = 10 * vk.toInt := by rw [et1]; exact tI_mul (rfl : (10 : Int32).toInt = 10) (rfl : vk.toInt = _) (by omega) (by omega)
  refine lv_iload_n hx hb dX12_setLetter_8 rfl (lv_at hl 2 rfl) ?_
  refine lv_iadd hx hb dX12_setLetter_9 ?_
  refine lv_topi (fun t2 et2 => ?_)
  have hF := mi_let hF et2
  have at2 : t2.toInt = t1.toInt + 9 := by rw [et2]; exact tI_add (rfl : t1.toInt = _) (rfl : (9 : Int32).toInt = 9) (by omega) (by omega)
  refine lv_iload_n hx hb dX12_setLetter_10 rfl (lv_at hl 3 rfl) ?_
  refine va_iast hx hb hK hP (wR_D mu hD) hS 10 0 (gM_10 cs ad mu) rfl (show vp_in t2 40 from vi_of (by omega) (by omega)) dX12_setLetter_11 (fun H locs hP _ hS => ?_)
  have hc3 : ((t2 : Int32).toNatClampNeg : Int) = t2.toInt := tC_of (by omega)
  refine wr_gen (upd (mu 10) t2.toNatClampNeg vv) hP (rfl) (fun nu4 hn4 hP => ?_)
  have hF := mi_let hF hn4.symm
  have ok := tM_10_s ok t2.toNatClampNeg hn4 (by refine (fun c9 => ?_) <;> omega)
  have kp5 : (∀ k f : Nat, Nat.testBit 502 (gpM k f) = true → nu4 k f = mu k f) := kp_c 3 hn4 (fun _ => rfl) (by decide) (fun _ _ _ => rfl)
  exact W.vret hx hb hr (fun t ht hW => ⟨⟨nu4, rfl, ⟨hF.trans hfz.symm, ok, trivial, kp5⟩, by first | (subst ht; exact hP) | (rw [ht]; exact hP) | (show va_P (dC, dI) vwCl (wR 21 ad (EM cs ad) nu4) t.heap; rw [ht]; exact hP)⟩, hS.F ht⟩) hS.2.2 dX12_setLetter_12
set_option maxHeartbeats 4000000 in
set_option maxRecDepth 100000 in
/-- sm_isRead -/
theorem sm_isRead (l : Launch) (dC : Nat → ClassId) (dI : Nat → Nat → Nat) (cs : Nat → ClassId) (ad : Nat → Nat) (mu : Nat → Nat → Int32) (ok : okR loM hiM mu) (H : Heap) (hP : va_P (dC, dI) vwCl (wR 21 ad (EM cs ad) mu) H) (vk : Int32) (hin0 : 0 ≤ vk.toInt ∧ vk.toInt ≤ 3) : Met l yX12_isRead (wU yX12_isRead cX12_isRead 2 (some .boolean)) ({ frames := 1, cells := 0, slots := 0, locals := 22 }) (va_Pc [.ref (ad 0), .int vk] (sz_P (dC, dI) vwCl (tyM cs) H)) (va_Qi (fun (z : Int32) (_ : Unit) => z = F_sm_isRead mu vk ∧ (0 ≤ z.toInt ∧ z.toInt ≤ 1)) (fun _ t => t.heap = H) (fun _ => False)) 0 0 (fun _ => False) := by
  refine Met.ofW (cc := cX12_isRead) (maxL := 2) (ret := (some .boolean)) (by decide) rfl ?_
  intro p e s m args below meth c s₁ B hml hv
  obtain ⟨rfl, hh, hK, hz⟩ := hv
  have hx := B.exec
  have hb := B.bytes
  have hr := B.returns
  have hts := atoms_spec (ws := (wU yX12_isRead cX12_isRead 2 (some .boolean))) B.pre
  have hown : s.vm.findClass RX12 = some m.cls := findClass_of_methodNamed B.named
  have hlocks := B.notSynchronized
  subst hh
  have hS : va_S (fun _ => False) s.heap s.heap [] := va_S.rf
  have hl := lv_entry ([.ref (ad 0), .int vk]) (n := 2) (Nat.le_of_ble_eq_true rfl)
  rw [lg_entry_eq]
  generalize (lg_sl ([.ref (ad 0), .int vk]) ++ List.replicate (2 - (lg_sl ([.ref (ad 0), .int vk])).length) Slot.unset).toArray = ls at hl ⊢
  have hl : lv_has ls 2 [(0, .ref (ad 0)), (1, .int vk)] := hl
  obtain ⟨fz, hfz⟩ : ∃ z, F_sm_isRead mu vk = z := ⟨_, rfl⟩
  have hF := hfz
  unfold F_sm_isRead at hF
  refine lv_aload_n hx hb dX12_isRead_0 rfl (lv_at hl 0 rfl) ?_
  refine lv_iload_n hx hb dX12_isRead_1 rfl (lv_at hl 1 rfl) ?_
  refine lv_bipush (v := 9) hx hb dX12_isRead_2 (by decide) ?_
  refine cr_i (va_runV (As := [.int vk, .int 9]) (rest := []) ⟨hx, hb, hml, hown, hts⟩ (sm_letterOf l dC dI cs ad mu ok s.heap hP vk 9 (by have h51 : (9 : Int32).toInt = 9 := rfl; omega)) (cwV 2 hts (wU_V mw_6_48 mw_6_45 mw_6_47 mw_0_38 mw_1_13) rfl rfl rfl (by decide +kernel) ⟨Nat.le_of_ble_eq_true rfl, Nat.le_of_ble_eq_true rfl⟩) ⟨sz_c, va_recv hK hP (ci := 12) (q0 := 0) rfl (gM_0 cs ad mu), sz_m hK hz⟩ rfl rfl hl.1 rfl (lv_room (Nat.le_of_ble_eq_true rfl)) dX12_isRead_4 ⟨Nat.zero_le _, Nat.zero_le _⟩) hS (fun r1 hw1 locs hS => ?_)
  obtain ⟨hfe1, hw1⟩ := hw1
  have hF := mi_let hF hfe1
  refine lv_iconst (v := 1) hx hb dX12_isRead_7 (by decide) ?_
  refine lv_icmp_ne (tgt := 15) hx hb dX12_isRead_8 (by decide) (fun c_2 => ?_) (fun c_2 => ?_)
  · have hF := (if_neg c_2).symm.trans hF
    have c_2 : ¬ r1.toInt = 1 := il_ne c_2
    refine lv_iconst (v := 0) hx hb dX12_isRead_15 (by decide) ?_
    exact W.zret (v := 0) (ty := .boolean) hx hb hr (by first | rfl | decide) (fun t ht hW => ⟨⟨0, (), rfl, ⟨hF.trans hfz.symm, (by have h6 : (0 : Int32).toInt = 0 := rfl; omega)⟩, ht⟩, hS.F ht⟩) hS.2.2 dX12_isRead_16
  · have hF := (if_pos c_2).symm.trans hF
    have c_2 : r1.toInt = 1 := il_eq c_2
    refine lv_iconst (v := 1) hx hb dX12_isRead_11 (by decide) ?_
    refine lv_goto (tgt := 16) hx hb dX12_isRead_12 (by decide) ?_
    exact W.zret (v := 1) (ty := .boolean) hx hb hr (by first | rfl | decide) (fun t ht hW => ⟨⟨1, (), rfl, ⟨hF.trans hfz.symm, (by have h6 : (1 : Int32).toInt = 1 := rfl; omega)⟩, ht⟩, hS.F ht⟩) hS.2.2 dX12_isRead_16
set_option maxHeartbeats 4000000 in
set_option maxRecDepth 100000 in
/-- sm_worthIn -/
theorem sm_worthIn (l : Launch) (dC : Nat → ClassId) (dI : Nat → Nat → Nat) (cs : Nat → ClassId) (ad : Nat → Nat) (mu : Nat → Nat → Int32) (ok : okR loM hiM mu) (H : Heap) (hP : va_P (dC, dI) vwCl (wR 21 ad (EM cs ad) mu) H) (vk : Int32) (vd : Int32) (hin0 : 0 ≤ vk.toInt ∧ vk.toInt ≤ 3) : Met l yX12_worthIn (wU yX12_worthIn cX12_worthIn 4 (some .int)) ({ frames := 1, cells := 0, slots := 0, locals := 22 }) (va_Pc [.ref (ad 0), .int vk, .int vd] (sz_P (dC, dI) vwCl (tyM cs) H)) (va_Qi (fun (z : Int32) (_ : Unit) => z = F_sm_worthIn mu vk vd ∧ (True)) (fun _ t => t.heap = H) (fun _ => False)) 0 0 (fun _ => False) := by
  refine Met.ofW (cc := cX12_worthIn) (maxL := 4) (ret := (some .int)) (by decide) rfl ?_
  intro p e s m args below meth c s₁ B hml hv
  obtain ⟨rfl, hh, hK, hz⟩ := hv
  have hx := B.exec
  have hb := B.bytes
  have hr := B.returns
  have hts := atoms_spec (ws := (wU yX12_worthIn cX12_worthIn 4 (some .int))) B.pre
  have hown : s.vm.findClass RX12 = some m.cls := findClass_of_methodNamed B.named
  have hlocks := B.notSynchronized
  subst hh
  have hS : va_S (fun _ => False) s.heap s.heap [] := va_S.rf
  have hl := lv_entry ([.ref (ad 0), .int vk, .int vd]) (n := 4) (Nat.le_of_ble_eq_true rfl)
  rw [lg_entry_eq]
  generalize (lg_sl ([.ref (ad 0), .int vk, .int vd]) ++ List.replicate (4 - (lg_sl ([.ref (ad 0), .int vk, .int vd])).length) Slot.unset).toArray = ls at hl ⊢
  have hl : lv_has ls 4 [(0, .ref (ad 0)), (1, .int vk), (2, .int vd)] := hl
  obtain ⟨fz, hfz⟩ : ∃ z, F_sm_worthIn mu vk vd = z := ⟨_, rfl⟩
  have hF := hfz
  unfold F_sm_worthIn at hF
  refine lv_aload_n hx hb dX12_worthIn_0 rfl (lv_at hl 0 rfl) ?_
  refine lv_iload_n hx hb dX12_worthIn_1 rfl (lv_at hl 1 rfl) ?_
  refine lv_iconst (v := 2) hx hb dX12_worthIn_2 (by decide) ?_
  refine cr_i (va_runV (As := [.int vk, .int 2]) (rest := []) ⟨hx, hb, hml, hown, hts⟩ (sm_letterOf l dC dI cs ad mu ok s.heap hP vk 2 (by have h51 : (2 : Int32).toInt = 2 := rfl; omega)) (cwV 2 hts (wU_V mw_6_48 mw_6_45 mw_6_47 mw_0_38 mw_1_13) rfl rfl rfl (by decide +kernel) ⟨Nat.le_of_ble_eq_true rfl, Nat.le_of_ble_eq_true rfl⟩) ⟨sz_c, va_recv hK hP (ci := 12) (q0 := 0) rfl (gM_0 cs ad mu), sz_m hK hz⟩ rfl rfl hl.1 rfl (lv_room (Nat.le_of_ble_eq_true rfl)) dX12_worthIn_3 ⟨Nat.zero_le _, Nat.zero_le _⟩) hS (fun r1 hw1 locs hS => ?_)
  obtain ⟨hfe1, hw1⟩ := hw1
  have hF := mi_let hF hfe1
  refine lv_aload_n hx hb dX12_worthIn_6 rfl (lv_at hl 0 rfl) ?_
  refine lv_iload_n hx hb dX12_worthIn_7 rfl (lv_at hl 1 rfl) ?_
  refine lv_iconst (v := 3) hx hb dX12_worthIn_8 (by decide) ?_
  refine cr_i (va_runV (As := [.int vk, .int 3]) (rest := [.int r1]) ⟨hx, hb, hml, hown, hts⟩ (sm_letterOf l dC dI cs ad mu ok s.heap hP vk 3 (by have h51 : (3 : Int32).toInt = 3 := rfl; omega)) (cwV 2 hts (wU_V mw_6_48 mw_6_45 mw_6_47 mw_0_38 mw_1_13) rfl rfl rfl (by decide +kernel) ⟨Nat.le_of_ble_eq_true rfl, Nat.le_of_ble_eq_true rfl⟩) ⟨sz_c, va_recv hK hP (ci := 12) (q0 := 0) rfl (gM_0 cs ad mu), sz_m hK hz⟩ rfl rfl hl.1 rfl (lv_room (Nat.le_of_ble_eq_true rfl)) dX12_worthIn_9 ⟨Nat.zero_le _, Nat.zero_le _⟩) hS (fun r2 hw2 locs hS => ?_)
  obtain ⟨hfe2, hw2⟩ := hw2
  have hF := mi_let hF hfe2
  refine lv_aload_n hx hb dX12_worthIn_12 rfl (lv_at hl 0 rfl) ?_
  refine va_get (D := (dC, dI)) (ci := 12) (v := .int (mu 0 14)) (C := RX12) (T := TX12) (N := 46) hx hb hts inG12 hown hK hP 0 (gM_0 cs ad mu) rfl 14 (by decide) (hts _ (List.mem_cons_of_mem _ mw_5_55)) (fun _ h9 => h9) rfl dX12_worthIn_13 ?_
  refine lv_topi (fun y3 ey3 => ?_)
  have hF := mi_let hF ey3
  have by3 : y3.toInt = (mu 0 14).toInt := congrArg Int32.toInt ey3
  refine lv_iload_n hx hb dX12_worthIn_16 rfl (lv_at hl 2 rfl) ?_
  refine lv_iadd hx hb dX12_worthIn_17 ?_
  refine lv_topi (fun t4 et4 => ?_)
  have hF := mi_let hF et4
  refine lv_aload_n hx hb dX12_worthIn_18 rfl (lv_at hl 0 rfl) ?_
  refine lv_iload_n hx hb dX12_worthIn_19 rfl (lv_at hl 1 rfl) ?_
  refine lv_iconst (v := 4) hx hb dX12_worthIn_20 (by decide) ?_
  refine cr_i (va_runV (As := [.int vk, .int 4]) (rest := [.int t4, .int r2, .int r1]) ⟨hx, hb, hml, hown, hts⟩ (sm_letterOf l dC dI cs ad mu ok s.heap hP vk 4 (by have h51 : (4 : Int32).toInt = 4 := rfl; omega)) (cwV 2 hts (wU_V mw_6_48 mw_6_45 mw_6_47 mw_0_38 mw_1_13) rfl rfl rfl (by decide +kernel) ⟨Nat.le_of_ble_eq_true rfl, Nat.le_of_ble_eq_true rfl⟩) ⟨sz_c, va_recv hK hP (ci := 12) (q0 := 0) rfl (gM_0 cs ad mu), sz_m hK hz⟩ rfl rfl hl.1 rfl (lv_room (Nat.le_of_ble_eq_true rfl)) dX12_worthIn_21 ⟨Nat.zero_le _, Nat.zero_le _⟩) hS (fun r5 hw5 locs hS => ?_)
  obtain ⟨hfe5, hw5⟩ := hw5
  have hF := mi_let hF hfe5
  refine lv_isub hx hb dX12_worthIn_24 ?_
  refine lv_topi (fun t6 et6 => ?_)
  have hF := mi_let hF et6
  refine lv_imul hx hb dX12_worthIn_25 ?_
  refine lv_topi (fun t7 et7 => ?_)
  have hF := mi_let hF et7
  refine lv_isub hx hb dX12_worthIn_26 ?_
  refine lv_topi (fun t8 et8 => ?_)
  have hF := mi_let hF et8
  refine lv_istore_n (lv' := [(3, .int t8), (0, .ref (ad 0)), (1, .int vk), (2, .int vd)]) hx hb dX12_worthIn_27 rfl hl (by decide) rfl (fun ls hl => ?_)
  refine lv_iload_n hx hb dX12_worthIn_28 rfl (lv_at hl 0 rfl) ?_
  refine lv_if_ge (tgt := 36) hx hb dX12_worthIn_29 (by decide) (fun c_9 => ?_) (fun c_9 => ?_)
  · have hF := (if_pos c_9).symm.trans hF
    have c_9 : 0 ≤ t8.toInt := il_le c_9
    refine lv_iload_n hx hb dX12_worthIn_36 rfl (lv_at hl 0 rfl) ?_
    exact W.iret (v := t8) hx hb hr (fun t ht hW => ⟨⟨t8, (), rfl, ⟨hF.trans hfz.symm, trivial⟩, ht⟩, hS.F ht⟩) hS.2.2 dX12_worthIn_37
  · have hF := (if_neg c_9).symm.trans hF
    have c_9 : t8.toInt < 0 := il_nle c_9
    refine lv_iconst (v := 0) hx hb dX12_worthIn_32 (by decide) ?_
    refine lv_goto (tgt := 37) hx hb dX12_worthIn_33 (by decide) ?_
    exact W.iret (v := 0) hx hb hr (fun t ht hW => ⟨⟨0, (), rfl, ⟨hF.trans hfz.symm, trivial⟩, ht⟩, hS.F ht⟩) hS.2.2 dX12_worthIn_37
set_option maxHeartbeats 4000000 in
set_option maxRecDepth 100000 in
/-- sm_bearerOf -/
theorem sm_bearerOf (l : Launch) (dC : Nat → ClassId) (dI : Nat → Nat → Nat) (cs : Nat → ClassId) (ad : Nat → Nat) (mu : Nat → Nat → Int32) (ok : okR loM hiM mu) (H : Heap) (hP : va_P (dC, dI) vwCl (wR 21 ad (EM cs ad) mu) H) (vx : Int32) (vw : Int32) (hin0 : 0 ≤ vx.toInt ∧ vx.toInt ≤ 6) : Met l yX12_bearerOf (wU yX12_bearerOf cX12_bearerOf 5 (some .int)) ({ frames := 2, cells := 0, slots := 0, locals := 46 }) (va_Pc [.ref (ad 0), .int vx, .int vw] (sz_P (dC, dI) vwCl (tyM cs) H)) (va_Qi (fun (z : Int32) (_ : Unit) => z = F_sm_bearerOf mu vx vw ∧ (True)) (fun _ t => t.heap = H) (fun _ => False)) 0 0 (fun _ => False) := by
  refine Met.ofW (cc := cX12_bearerOf) (maxL := 5) (ret := (some .int)) (by decide) rfl ?_
  intro p e s m args below meth c s₁ B hml hv
  obtain ⟨rfl, hh, hK, hz⟩ := hv
  have hx := B.exec
  have hb := B.bytes
  have hr := B.returns
  have hts := atoms_spec (ws := (wU yX12_bearerOf cX12_bearerOf 5 (some .int))) B.pre
  have hown : s.vm.findClass RX12 = some m.cls := findClass_of_methodNamed B.named
  have hlocks := B.notSynchronized
  subst hh
  have hS : va_S (fun _ => False) s.heap s.heap [] := va_S.rf
  have hl := lv_entry ([.ref (ad 0), .int vx, .int vw]) (n := 5) (Nat.le_of_ble_eq_true rfl)
  rw [lg_entry_eq]
  generalize (lg_sl ([.ref (ad 0), .int vx, .int vw]) ++ List.replicate (5 - (lg_sl ([.ref (ad 0), .int vx, .int vw])).length) Slot.unset).toArray = ls at hl ⊢
  have hl : lv_has ls 5 [(0, .ref (ad 0)), (1, .int vx), (2, .int vw)] := hl
  obtain ⟨fz, hfz⟩ : ∃ z, F_sm_bearerOf mu vx vw = z := ⟨_, rfl⟩
  have hF := hfz
  unfold F_sm_bearerOf at hF
  refine lv_iconst (v := 0) hx hb dX12_bearerOf_0 (by decide) ?_
  refine lv_istore_n (lv' := [(3, .int 0), (0, .ref (ad 0)), (1, .int vx), (2, .int vw)]) hx hb dX12_bearerOf_1 rfl hl (by decide) rfl (fun ls hl => ?_)
  refine lv_iconst (v := 0) hx hb dX12_bearerOf_2 (by decide) ?_
  refine lv_istore (lv' := [(4, .int 0), (3, .int 0), (0, .ref (ad 0)), (1, .int vx), (2, .int vw)]) hx hb dX12_bearerOf_3 hl (by decide) rfl (fun ls hl => ?_)
  have loop5 : ∀ (n5 : Nat) (v3_5 : Int32) (v4_5 : Int32) (locs : List Loc) (ls : Array Slot), (4 + 1 - v4_5.toInt).toNat < n5 → (0 ≤ v4_5.toInt ∧ v4_5.toInt ≤ 4) → L_sm_bearerOf_5_0 mu vw vx n5 v3_5 v4_5 = fz → va_S (fun _ => False) s.heap s.heap locs → lv_has ls 5 [(4, .int v4_5), (3, .int v3_5), (0, .ref (ad 0)), (1, .int vx), (2, .int vw)] → W p l e (headSpec (wU yX12_bearerOf cX12_bearerOf 5 (some .int)) ({ frames := 2, cells := 0, slots := 0, locals := 46 })).room s m ([.ref (ad 0), .int vx, .int vw] : List Value).toArray below meth c s.heap locs 0 0 (MQ below (va_Qi (fun (z : Int32) (_ : Unit) => z = F_sm_bearerOf mu vx vw ∧ (True)) (fun _ t => t.heap = s.heap) (fun _ => False)) ([.ref (ad 0), .int vx, .int vw] : List Value).toArray s 0 0 (fun _ => False)) (F0 m 5 ls []) := by
    intro n5
    induction n5 with
    | zero => intro v3_5 v4_5 locs ls hm; exact absurd hm (Nat.not_lt_zero _)
    | succ n5 ih5 =>
      intro v3_5 v4_5 locs ls hm_5 h_v4_5 hF hS hl
      rw [L_sm_bearerOf_5_0] at hF
      refine lv_iload hx hb dX12_bearerOf_5 (lv_at hl 0 rfl) ?_
      refine lv_aload_n hx hb dX12_bearerOf_7 rfl (lv_at hl 2 rfl) ?_
      refine va_get (D := (dC, dI)) (ci := 12) (v := .int (mu 0 15)) (C := RX12) (T := TX12) (N := 46) hx hb hts inG12 hown hK hP 0 (gM_0 cs ad mu) rfl 15 (by decide) (hts _ (List.mem_cons_of_mem _ mw_5_56)) (fun _ h9 => h9) rfl dX12_bearerOf_8 ?_
      refine lv_topi (fun y1 ey1 => ?_)
      have hF := mi_let hF ey1
      have by1 : y1.toInt = (mu 0 15).toInt := congrArg Int32.toInt ey1
      have gy1 : 0 ≤ y1.toInt ∧ y1.toInt ≤ 4 := by rw [ey1]; exact rM_0_15 ok
      refine lv_icmp_ge (tgt := 48) hx hb dX12_bearerOf_11 (by decide) (fun c_2 => ?_) (fun c_2 => ?_)
      · have hF := (if_pos c_2).symm.trans hF
        have c_2 : y1.toInt ≤ v4_5.toInt := il_le c_2
        refine lv_iload_n hx hb dX12_bearerOf_48 rfl (lv_at hl 4 rfl) ?_
        refine lv_if_ne (tgt := 61) hx hb dX12_bearerOf_49 (by decide) (fun c_3 => ?_) (fun c_3 => ?_)
        · have hF := (if_neg c_3).symm.trans hF
          have c_3 : ¬ vw.toInt = 0 := il_ne c_3
          refine lv_iload_n hx hb dX12_bearerOf_61 rfl (lv_at hl 4 rfl) ?_
          refine lv_iconst (v := 1) hx hb dX12_bearerOf_62 (by decide) ?_
          refine lv_icmp_ne (tgt := 75) hx hb dX12_bearerOf_63 (by decide) (fun c_4 => ?_) (fun c_4 => ?_)
          · have hF := (if_neg c_4).symm.trans hF
            have c_4 : ¬ vw.toInt = 1 := il_ne c_4
            refine lv_iload_n hx hb dX12_bearerOf_75 rfl (lv_at hl 4 rfl) ?_
            refine lv_iconst (v := 2) hx hb dX12_bearerOf_76 (by decide) ?_
            refine lv_icmp_ne (tgt := 91) hx hb dX12_bearerOf_77 (by decide) (fun c_5 => ?_) (fun c_5 => ?_)
            · have hF := (if_neg c_5).symm.trans hF
              have c_5 : ¬ vw.toInt = 2 := il_ne c_5
              refine lv_iload_n hx hb dX12_bearerOf_91 rfl (lv_at hl 1 rfl) ?_
              exact W.iret (v := v3_5) hx hb hr (fun t ht hW => ⟨⟨v3_5, (), rfl, ⟨hF.trans hfz.symm, trivial⟩, ht⟩, hS.F ht⟩) hS.2.2 dX12_bearerOf_92
            · have hF := (if_pos c_5).symm.trans hF
              have c_5 : vw.toInt = 2 := il_eq c_5
              refine lv_aload_n hx hb dX12_bearerOf_80 rfl (lv_at hl 2 rfl) ?_
              refine lv_iload_n hx hb dX12_bearerOf_81 rfl (lv_at hl 3 rfl) ?_
              refine cr_i (va_runV (As := [.int vx]) (rest := []) ⟨hx, hb, hml, hown, hts⟩ (sm_besideOf l dC dI cs ad mu ok s.heap hP vx) (cwV 1 hts (wU_V mw_6_56 mw_6_53 mw_6_55 mw_0_40 mw_1_13) rfl rfl rfl (by decide +kernel) ⟨Nat.le_of_ble_eq_true rfl, Nat.le_of_ble_eq_true rfl⟩) ⟨sz_c, va_recv hK hP (ci := 12) (q0 := 0) rfl (gM_0 cs ad mu), sz_m hK hz⟩ rfl rfl hl.1 rfl (lv_room (Nat.le_of_ble_eq_true rfl)) dX12_bearerOf_82 ⟨Nat.zero_le _, Nat.zero_le _⟩) hS (fun r6 hw6 locs hS => ?_)
              obtain ⟨hfe6, hw6⟩ := hw6
              have hF := mi_let hF hfe6
              refine cr_i (va_runS (As := [.int r6]) (rest := []) ⟨hx, hb, hml, hown, hts⟩ (sm_sizeOf l dC dI (tyM cs) s.heap r6) (va_cwS 1 hts (wU_S mw_6_62 mw_6_60 mw_6_61 mw_1_13) rfl rfl rfl (by decide +kernel) ⟨Nat.le_of_ble_eq_true rfl, Nat.le_of_ble_eq_true rfl⟩) ⟨sz_c, sz_m hK hz⟩ rfl rfl hl.1 rfl (lv_room (Nat.le_of_ble_eq_true rfl)) dX12_bearerOf_85 ⟨Nat.zero_le _, Nat.zero_le _⟩) hS (fun r7 hw7 locs hS => ?_)
              obtain ⟨hfe7, hw7⟩ := hw7
              have hF := mi_let hF hfe7
              have gr7 : r7 = so r6 ∧ (0 ≤ r6.toInt → r6.toInt ≤ 127 → r7.toInt = (pp r6.toNatClampNeg : Int) ∧ pp r6.toNatClampNeg ≤ 7 ∧ (r6.toInt = 0 ∨ 1 ≤ pp r6.toNatClampNeg)) := hw7
              refine lv_goto (tgt := 92) hx hb dX12_bearerOf_88 (by decide) ?_
              exact W.iret (v := r7) hx hb hr (fun t ht hW => ⟨⟨r7, (), rfl, ⟨hF.trans hfz.symm, trivial⟩, ht⟩, hS.F ht⟩) hS.2.2 dX12_bearerOf_92
          · have hF := (if_pos c_4).symm.trans hF
            have c_4 : vw.toInt = 1 := il_eq c_4
            refine lv_aload_n hx hb dX12_bearerOf_66 rfl (lv_at hl 2 rfl) ?_
            refine va_get (D := (dC, dI)) (ci := 12) (v := .ref (ad 8)) (C := RX12) (T := TX12) (N := 46) hx hb hts inG12 hown hK hP 0 (gM_0 cs ad mu) rfl 10 (by decide) (hts _ (List.mem_cons_of_mem _ mw_5_51)) (fun _ h9 => h9) rfl dX12_bearerOf_67 ?_
            refine lv_iload_n hx hb dX12_bearerOf_70 rfl (lv_at hl 3 rfl) ?_
            refine va_iald hx hb hK hP 8 0 (gM_8 cs ad mu) rfl (show vp_in vx 7 from vi_of (by omega) (by omega)) dX12_bearerOf_71 ?_
            refine lv_topi (fun y8 ey8 => ?_)
            have hF := mi_let hF ey8
            have by8 : y8.toInt = (mu 8 vx.toNatClampNeg).toInt := congrArg Int32.toInt ey8
            refine lv_goto (tgt := 92) hx hb dX12_bearerOf_72 (by decide) ?_
            exact W.iret (v := y8) hx hb hr (fun t ht hW => ⟨⟨y8, (), rfl, ⟨hF.trans hfz.symm, trivial⟩, ht⟩, hS.F ht⟩) hS.2.2 dX12_bearerOf_92
        · have hF := (if_pos c_3).symm.trans hF
          have c_3 : vw.toInt = 0 := il_eq c_3
          refine lv_aload_n hx hb dX12_bearerOf_52 rfl (lv_at hl 2 rfl) ?_
          refine va_get (D := (dC, dI)) (ci := 12) (v := .ref (ad 7)) (C := RX12) (T := TX12) (N := 46) hx hb hts inG12 hown hK hP 0 (gM_0 cs ad mu) rfl 9 (by decide) (hts _ (List.mem_cons_of_mem _ mw_5_50)) (fun _ h9 => h9) rfl dX12_bearerOf_53 ?_
          refine lv_iload_n hx hb dX12_bearerOf_56 rfl (lv_at hl 3 rfl) ?_
          refine va_iald hx hb hK hP 7 0 (gM_7 cs ad mu) rfl (show vp_in vx 7 from vi_of (by omega) (by omega)) dX12_bearerOf_57 ?_
          refine lv_topi (fun y9 ey9 => ?_)
          have hF := mi_let hF ey9
          have by9 : y9.toInt = (mu 7 vx.toNatClampNeg).toInt := congrArg Int32.toInt ey9
          refine lv_goto (tgt := 92) hx hb dX12_bearerOf_58 (by decide) ?_
          exact W.iret (v := y9) hx hb hr (fun t ht hW => ⟨⟨y9, (), rfl, ⟨hF.trans hfz.symm, trivial⟩, ht⟩, hS.F ht⟩) hS.2.2 dX12_bearerOf_92
      · have hF := (if_neg c_2).symm.trans hF
        have c_2 : v4_5.toInt < y1.toInt := il_nle c_2
        refine lv_iload_n hx hb dX12_bearerOf_14 rfl (lv_at hl 1 rfl) ?_
        refine lv_aload_n hx hb dX12_bearerOf_15 rfl (lv_at hl 2 rfl) ?_
        refine lv_iload hx hb dX12_bearerOf_16 (lv_at hl 0 rfl) ?_
        refine lv_iconst (v := 5) hx hb dX12_bearerOf_18 (by decide) ?_
        refine cr_i (va_runV (As := [.int v4_5, .int 5]) (rest := [.int v3_5]) ⟨hx, hb, hml, hown, hts⟩ (sm_letterOf5 l dC dI cs ad mu ok s.heap hP v4_5 (by have h51 : (5 : Int32).toInt = 5 := rfl; omega)) (cwV 2 hts (wU_V mw_6_48 mw_6_45 mw_6_47 mw_0_38 mw_1_13) rfl rfl rfl (by decide +kernel) ⟨Nat.le_of_ble_eq_true rfl, Nat.le_of_ble_eq_true rfl⟩) ⟨sz_c, va_recv hK hP (ci := 12) (q0 := 0) rfl (gM_0 cs ad mu), sz_m hK hz⟩ rfl rfl hl.1 rfl (lv_room (Nat.le_of_ble_eq_true rfl)) dX12_bearerOf_19 ⟨Nat.zero_le _, Nat.zero_le _⟩) hS (fun r10 hw10 locs hS => ?_)
        obtain ⟨hfe10, hw10⟩ := hw10
        have hF := mi_let hF hfe10
        have gr10 : 0 ≤ r10.toInt ∧ r10.toInt ≤ 6 := hw10
        refine lv_iload_n hx hb dX12_bearerOf_22 rfl (lv_at hl 3 rfl) ?_
        refine lv_icmp_ne (tgt := 39) hx hb dX12_bearerOf_23 (by decide) (fun c_11 => ?_) (fun c_11 => ?_)
        · have hF := (if_neg c_11).symm.trans hF
          have c_11 : ¬ r10.toInt = vx.toInt := il_ne c_11
          refine lv_iconst (v := 0) hx hb dX12_bearerOf_39 (by decide) ?_
          refine lv_iadd hx hb dX12_bearerOf_40 ?_
          refine lv_topi (fun t12 et12 => ?_)
          have hF := mi_let hF et12
          refine lv_istore_n (lv' := [(3, .int t12), (4, .int v4_5), (0, .ref (ad 0)), (1, .int vx), (2, .int vw)]) hx hb dX12_bearerOf_41 rfl hl (by decide) rfl (fun ls hl => ?_)
          refine lv_iinc (v := (v4_5 + 1)) (lv' := [(4, .int (v4_5 + 1)), (3, .int t12), (0, .ref (ad 0)), (1, .int vx), (2, .int vw)]) hx hb dX12_bearerOf_42 hl (k := 1) rfl rfl (by decide) rfl (fun ls hl => ?_)
          refine loc_gen (P := fun w9 => lv_has ls 5 [(4, .int w9), (3, .int t12), (0, .ref (ad 0)), (1, .int vx), (2, .int vw)]) (v4_5 + 1) hl (fun w13 hw13 hl => ?_)
          have hl : lv_has ls 5 [(4, .int w13), (3, .int t12), (0, .ref (ad 0)), (1, .int vx), (2, .int vw)] := hl
          have hF := mi_let hF hw13.symm
          have aw13 : w13.toInt = v4_5.toInt + 1 := by rw [← hw13]; first | exact va1 (Int.lt_of_le_of_lt h_v4_5.2 (by decide)) | exact va1 (by omega)
          refine lv_goto (tgt := 5) hx hb dX12_bearerOf_45 (by decide) ?_
          exact ih5 (t12) (w13)  _ _ (by first | exact ms_up hm_5 aw13 h_v4_5.2 | exact ms_lt hm_5 (by omega) (by omega) | omega) (by first | exact rg_up aw13 h_v4_5 (by omega) | omega)   hF hS (lv_sub hl [0, 1, 2, 3, 4] rfl)
        · have hF := (if_pos c_11).symm.trans hF
          have c_11 : r10.toInt = vx.toInt := il_eq c_11
          refine lv_aload_n hx hb dX12_bearerOf_26 rfl (lv_at hl 2 rfl) ?_
          refine lv_iload hx hb dX12_bearerOf_27 (lv_at hl 0 rfl) ?_
          refine cr_i (va_runV (As := [.int v4_5]) (rest := [.int v3_5]) ⟨hx, hb, hml, hown, hts⟩ (sm_isRead l dC dI cs ad mu ok s.heap hP v4_5 (by omega)) (cwV 1 hts (wU_V mw_6_52 mw_6_49 mw_6_51 mw_0_39 mw_1_13) rfl rfl rfl (by decide +kernel) ⟨Nat.le_of_ble_eq_true rfl, Nat.le_of_ble_eq_true rfl⟩) ⟨sz_c, va_recv hK hP (ci := 12) (q0 := 0) rfl (gM_0 cs ad mu), sz_m hK hz⟩ rfl rfl hl.1 rfl (lv_room (Nat.le_of_ble_eq_true rfl)) dX12_bearerOf_29 ⟨Nat.zero_le _, Nat.zero_le _⟩) hS (fun r14 hw14 locs hS => ?_)
          obtain ⟨hfe14, hw14⟩ := hw14
          have hF := mi_let hF hfe14
          have gr14 : 0 ≤ r14.toInt ∧ r14.toInt ≤ 1 := hw14
          refine lv_if_ne (tgt := 39) hx hb dX12_bearerOf_32 (by decide) (fun c_15 => ?_) (fun c_15 => ?_)
          · have hF := (if_neg c_15).symm.trans hF
            have c_15 : ¬ r14.toInt = 0 := il_ne c_15
            refine lv_iconst (v := 0) hx hb dX12_bearerOf_39 (by decide) ?_
            refine lv_iadd hx hb dX12_bearerOf_40 ?_
            refine lv_topi (fun t16 et16 => ?_)
            have hF := mi_let hF et16
            refine lv_istore_n (lv' := [(3, .int t16), (4, .int v4_5), (0, .ref (ad 0)), (1, .int vx), (2, .int vw)]) hx hb dX12_bearerOf_41 rfl hl (by decide) rfl (fun ls hl => ?_)
            refine lv_iinc (v := (v4_5 + 1)) (lv' := [(4, .int (v4_5 + 1)), (3, .int t16), (0, .ref (ad 0)), (1, .int vx), (2, .int vw)]) hx hb dX12_bearerOf_42 hl (k := 1) rfl rfl (by decide) rfl (fun ls hl => ?_)
            refine loc_gen (P := fun w9 => lv_has ls 5 [(4, .int w9), (3, .int t16), (0, .ref (ad 0)), (1, .int vx), (2, .int vw)]) (v4_5 + 1) hl (fun w17 hw17 hl => ?_)
            have hl : lv_has ls 5 [(4, .int w17), (3, .int t16), (0, .ref (ad 0)), (1, .int vx), (2, .int vw)] := hl
            have hF := mi_let hF hw17.symm
            have aw17 : w17.toInt = v4_5.toInt + 1 := by rw [← hw17]; first | exact va1 (Int.lt_of_le_of_lt h_v4_5.2 (by decide)) | exact va1 (by omega)
            refine lv_goto (tgt := 5) hx hb dX12_bearerOf_45 (by decide) ?_
            exact ih5 (t16) (w17)  _ _ (by first | exact ms_up hm_5 aw17 h_v4_5.2 | exact ms_lt hm_5 (by omega) (by omega) | omega) (by first | exact rg_up aw17 h_v4_5 (by omega) | omega)   hF hS (lv_sub hl [0, 1, 2, 3, 4] rfl)
          · have hF := (if_pos c_15).symm.trans hF
            have c_15 : r14.toInt = 0 := il_eq c_15
            refine lv_iconst (v := 1) hx hb dX12_bearerOf_35 (by decide) ?_
            refine lv_goto (tgt := 40) hx hb dX12_bearerOf_36 (by decide) ?_
            refine lv_iadd hx hb dX12_bearerOf_40 ?_
            refine lv_topi (fun t18 et18 => ?_)
            have hF := mi_let hF et18
            refine lv_istore_n (lv' := [(3, .int t18), (4, .int v4_5), (0, .ref (ad 0)), (1, .int vx), (2, .int vw)]) hx hb dX12_bearerOf_41 rfl hl (by decide) rfl (fun ls hl => ?_)
            refine lv_iinc (v := (v4_5 + 1)) (lv' := [(4, .int (v4_5 + 1)), (3, .int t18), (0, .ref (ad 0)), (1, .int vx), (2, .int vw)]) hx hb dX12_bearerOf_42 hl (k := 1) rfl rfl (by decide) rfl (fun ls hl => ?_)
            refine loc_gen (P := fun w9 => lv_has ls 5 [(4, .int w9), (3, .int t18), (0, .ref (ad 0)), (1, .int vx), (2, .int vw)]) (v4_5 + 1) hl (fun w19 hw19 hl => ?_)
            have hl : lv_has ls 5 [(4, .int w19), (3, .int t18), (0, .ref (ad 0)), (1, .int vx), (2, .int vw)] := hl
            have hF := mi_let hF hw19.symm
            have aw19 : w19.toInt = v4_5.toInt + 1 := by rw [← hw19]; first | exact va1 (Int.lt_of_le_of_lt h_v4_5.2 (by decide)) | exact va1 (by omega)
            refine lv_goto (tgt := 5) hx hb dX12_bearerOf_45 (by decide) ?_
            exact ih5 (t18) (w19)  _ _ (by first | exact ms_up hm_5 aw19 h_v4_5.2 | exact ms_lt hm_5 (by omega) (by omega) | omega) (by first | exact rg_up aw19 h_v4_5 (by omega) | omega)   hF hS (lv_sub hl [0, 1, 2, 3, 4] rfl)
  exact loop5 7 (0) (0)  _ _ (by have h80 : (0 : Int32).toInt = 0 := rfl; have h81 : (0 : Int32).toInt = 0 := rfl; omega) (by have h80 : (0 : Int32).toInt = 0 := rfl; exact ⟨by omega, by omega⟩)   hF hS hl
