set_option maxHeartbeats 4000000 in
set_option maxRecDepth 100000 in
/-- sm_letterTells -/
theorem sm_letterTells (l : Launch) (dC : Nat → ClassId) (dI : Nat → Nat → Nat) (cs : Nat → ClassId) (ad : Nat → Nat) (mu : Nat → Nat → Int32) (ok : okR loM hiM mu) (H : Heap) (hP : va_P (dC, dI) vwCl (wR 21 ad (EM cs ad) mu) H) (vk : Int32) (vw : Int32) (hin0 : 0 ≤ vk.toInt ∧ vk.toInt ≤ 3) : Met l yX12_letterTells (wU yX12_letterTells cX12_letterTells 3 (some .int)) ({ frames := 2, cells := 0, slots := 0, locals := 45 }) (va_Pc [.ref (ad 0), .int vk, .int vw] (sz_P (dC, dI) vwCl (tyM cs) H)) (va_Qi (fun (z : Int32) (_ : Unit) => z = F_sm_letterTells mu vk vw ∧ (True)) (fun _ t => t.heap = H) (fun _ => False)) 0 0 (fun _ => False) := by
  refine Met.ofW (cc := cX12_letterTells) (maxL := 3) (ret := (some .int)) (by decide) rfl ?_
  intro p e s m args below meth c s₁ B hml hv
  obtain ⟨rfl, hh, hK, hz⟩ := hv
  have hx := B.exec
  have hb := B.bytes
  have hr := B.returns
  have hts := atoms_spec (ws := (wU yX12_letterTells cX12_letterTells 3 (some .int))) B.pre
  have hown : s.vm.findClass RX12 = some m.cls := findClass_of_methodNamed B.named
  have hlocks := B.notSynchronized
  subst hh
  have hS : va_S (fun _ => False) s.heap s.heap [] := va_S.rf
  have hl := lv_entry ([.ref (ad 0), .int vk, .int vw]) (n := 3) (Nat.le_of_ble_eq_true rfl)
  rw [lg_entry_eq]
  generalize (lg_sl ([.ref (ad 0), .int vk, .int vw]) ++ List.replicate (3 - (lg_sl ([.ref (ad 0), .int vk, .int vw])).length) Slot.unset).toArray = ls at hl ⊢
  have hl : lv_has ls 3 [(0, .ref (ad 0)), (1, .int vk), (2, .int vw)] := hl
  obtain ⟨fz, hfz⟩ : ∃ z, F_sm_letterTells mu vk vw = z := ⟨_, rfl⟩
  have hF := hfz
  unfold F_sm_letterTells at hF
  refine lv_iload_n hx hb dX12_letterTells_0 rfl (lv_at hl 2 rfl) ?_
  refine lv_if_ne (tgt := 13) hx hb dX12_letterTells_1 (by decide) (fun c_1 => ?_) (fun c_1 => ?_)
  · have hF := (if_neg c_1).symm.trans hF
    have c_1 : ¬ vw.toInt = 0 := il_ne c_1
    refine lv_iload_n hx hb dX12_letterTells_13 rfl (lv_at hl 2 rfl) ?_
    refine lv_iconst (v := 1) hx hb dX12_letterTells_14 (by decide) ?_
    refine lv_icmp_ne (tgt := 27) hx hb dX12_letterTells_15 (by decide) (fun c_2 => ?_) (fun c_2 => ?_)
    · have hF := (if_neg c_2).symm.trans hF
      have c_2 : ¬ vw.toInt = 1 := il_ne c_2
      refine lv_iload_n hx hb dX12_letterTells_27 rfl (lv_at hl 2 rfl) ?_
      refine lv_iconst (v := 2) hx hb dX12_letterTells_28 (by decide) ?_
      refine lv_icmp_ne (tgt := 41) hx hb dX12_letterTells_29 (by decide) (fun c_3 => ?_) (fun c_3 => ?_)
      · have hF := (if_neg c_3).symm.trans hF
        have c_3 : ¬ vw.toInt = 2 := il_ne c_3
        refine lv_iload_n hx hb dX12_letterTells_41 rfl (lv_at hl 2 rfl) ?_
        refine lv_iconst (v := 3) hx hb dX12_letterTells_42 (by decide) ?_
        refine lv_icmp_ne (tgt := 56) hx hb dX12_letterTells_43 (by decide) (fun c_4 => ?_) (fun c_4 => ?_)
        · have hF := (if_neg c_4).symm.trans hF
          have c_4 : ¬ vw.toInt = 3 := il_ne c_4
          refine lv_aload_n hx hb dX12_letterTells_56 rfl (lv_at hl 0 rfl) ?_
          refine lv_iload_n hx hb dX12_letterTells_57 rfl (lv_at hl 1 rfl) ?_
          refine lv_bipush (v := 7) hx hb dX12_letterTells_58 (by decide) ?_
          refine cr_i (va_runV (As := [.int vk, .int 7]) (rest := []) ⟨hx, hb, hml, hown, hts⟩ (sm_letterOf l dC dI cs ad mu ok s.heap hP vk 7 (by have h51 : (7 : Int32).toInt = 7 := rfl; omega)) (cwV 2 hts (wU_V mw_6_48 mw_6_45 mw_6_47 mw_0_38 mw_1_13) rfl rfl rfl (by decide +kernel) ⟨Nat.le_of_ble_eq_true rfl, Nat.le_of_ble_eq_true rfl⟩) ⟨sz_c, va_recv hK hP (ci := 12) (q0 := 0) rfl (gM_0 cs ad mu), sz_m hK hz⟩ rfl rfl hl.1 rfl (lv_room (Nat.le_of_ble_eq_true rfl)) dX12_letterTells_60 ⟨Nat.zero_le _, Nat.zero_le _⟩) hS (fun r5 hw5 locs hS => ?_)
          obtain ⟨hfe5, hw5⟩ := hw5
          have hF := mi_let hF hfe5
          exact W.iret (v := r5) hx hb hr (fun t ht hW => ⟨⟨r5, (), rfl, ⟨hF.trans hfz.symm, trivial⟩, ht⟩, hS.F ht⟩) hS.2.2 dX12_letterTells_63
        · have hF := (if_pos c_4).symm.trans hF
          have c_4 : vw.toInt = 3 := il_eq c_4
          refine lv_aload_n hx hb dX12_letterTells_46 rfl (lv_at hl 0 rfl) ?_
          refine lv_iload_n hx hb dX12_letterTells_47 rfl (lv_at hl 1 rfl) ?_
          refine lv_bipush (v := 9) hx hb dX12_letterTells_48 (by decide) ?_
          refine cr_i (va_runV (As := [.int vk, .int 9]) (rest := []) ⟨hx, hb, hml, hown, hts⟩ (sm_letterOf l dC dI cs ad mu ok s.heap hP vk 9 (by have h51 : (9 : Int32).toInt = 9 := rfl; omega)) (cwV 2 hts (wU_V mw_6_48 mw_6_45 mw_6_47 mw_0_38 mw_1_13) rfl rfl rfl (by decide +kernel) ⟨Nat.le_of_ble_eq_true rfl, Nat.le_of_ble_eq_true rfl⟩) ⟨sz_c, va_recv hK hP (ci := 12) (q0 := 0) rfl (gM_0 cs ad mu), sz_m hK hz⟩ rfl rfl hl.1 rfl (lv_room (Nat.le_of_ble_eq_true rfl)) dX12_letterTells_50 ⟨Nat.zero_le _, Nat.zero_le _⟩) hS (fun r6 hw6 locs hS => ?_)
          obtain ⟨hfe6, hw6⟩ := hw6
          have hF := mi_let hF hfe6
          refine lv_goto (tgt := 63) hx hb dX12_letterTells_53 (by decide) ?_
          exact W.iret (v := r6) hx hb hr (fun t ht hW => ⟨⟨r6, (), rfl, ⟨hF.trans hfz.symm, trivial⟩, ht⟩, hS.F ht⟩) hS.2.2 dX12_letterTells_63
      · have hF := (if_pos c_3).symm.trans hF
        have c_3 : vw.toInt = 2 := il_eq c_3
        refine lv_aload_n hx hb dX12_letterTells_32 rfl (lv_at hl 0 rfl) ?_
        refine lv_iload_n hx hb dX12_letterTells_33 rfl (lv_at hl 1 rfl) ?_
        refine lv_iconst (v := 0) hx hb dX12_letterTells_34 (by decide) ?_
        refine cr_i (va_runV (As := [.int vk, .int 0]) (rest := []) ⟨hx, hb, hml, hown, hts⟩ (sm_worthIn l dC dI cs ad mu ok s.heap hP vk 0 (by have h51 : (0 : Int32).toInt = 0 := rfl; omega)) (cwV 2 hts (wU_V mw_6_126 mw_6_123 mw_6_125 mw_0_49 mw_1_13) rfl rfl rfl (by decide +kernel) ⟨Nat.le_of_ble_eq_true rfl, Nat.le_of_ble_eq_true rfl⟩) ⟨sz_c, va_recv hK hP (ci := 12) (q0 := 0) rfl (gM_0 cs ad mu), sz_m hK hz⟩ rfl rfl hl.1 rfl (lv_room (Nat.le_of_ble_eq_true rfl)) dX12_letterTells_35 ⟨Nat.zero_le _, Nat.zero_le _⟩) hS (fun r7 hw7 locs hS => ?_)
        obtain ⟨hfe7, hw7⟩ := hw7
        have hF := mi_let hF hfe7
        refine lv_goto (tgt := 63) hx hb dX12_letterTells_38 (by decide) ?_
        exact W.iret (v := r7) hx hb hr (fun t ht hW => ⟨⟨r7, (), rfl, ⟨hF.trans hfz.symm, trivial⟩, ht⟩, hS.F ht⟩) hS.2.2 dX12_letterTells_63
    · have hF := (if_pos c_2).symm.trans hF
      have c_2 : vw.toInt = 1 := il_eq c_2
      refine lv_aload_n hx hb dX12_letterTells_18 rfl (lv_at hl 0 rfl) ?_
      refine lv_iload_n hx hb dX12_letterTells_19 rfl (lv_at hl 1 rfl) ?_
      refine lv_iconst (v := 1) hx hb dX12_letterTells_20 (by decide) ?_
      refine cr_i (va_runV (As := [.int vk, .int 1]) (rest := []) ⟨hx, hb, hml, hown, hts⟩ (sm_letterOf l dC dI cs ad mu ok s.heap hP vk 1 (by have h51 : (1 : Int32).toInt = 1 := rfl; omega)) (cwV 2 hts (wU_V mw_6_48 mw_6_45 mw_6_47 mw_0_38 mw_1_13) rfl rfl rfl (by decide +kernel) ⟨Nat.le_of_ble_eq_true rfl, Nat.le_of_ble_eq_true rfl⟩) ⟨sz_c, va_recv hK hP (ci := 12) (q0 := 0) rfl (gM_0 cs ad mu), sz_m hK hz⟩ rfl rfl hl.1 rfl (lv_room (Nat.le_of_ble_eq_true rfl)) dX12_letterTells_21 ⟨Nat.zero_le _, Nat.zero_le _⟩) hS (fun r8 hw8 locs hS => ?_)
      obtain ⟨hfe8, hw8⟩ := hw8
      have hF := mi_let hF hfe8
      refine lv_goto (tgt := 63) hx hb dX12_letterTells_24 (by decide) ?_
      exact W.iret (v := r8) hx hb hr (fun t ht hW => ⟨⟨r8, (), rfl, ⟨hF.trans hfz.symm, trivial⟩, ht⟩, hS.F ht⟩) hS.2.2 dX12_letterTells_63
  · have hF := (if_pos c_1).symm.trans hF
    have c_1 : vw.toInt = 0 := il_eq c_1
    refine lv_aload_n hx hb dX12_letterTells_4 rfl (lv_at hl 0 rfl) ?_
    refine lv_iload_n hx hb dX12_letterTells_5 rfl (lv_at hl 1 rfl) ?_
    refine lv_iconst (v := 0) hx hb dX12_letterTells_6 (by decide) ?_
    refine cr_i (va_runV (As := [.int vk, .int 0]) (rest := []) ⟨hx, hb, hml, hown, hts⟩ (sm_letterOf l dC dI cs ad mu ok s.heap hP vk 0 (by have h51 : (0 : Int32).toInt = 0 := rfl; omega)) (cwV 2 hts (wU_V mw_6_48 mw_6_45 mw_6_47 mw_0_38 mw_1_13) rfl rfl rfl (by decide +kernel) ⟨Nat.le_of_ble_eq_true rfl, Nat.le_of_ble_eq_true rfl⟩) ⟨sz_c, va_recv hK hP (ci := 12) (q0 := 0) rfl (gM_0 cs ad mu), sz_m hK hz⟩ rfl rfl hl.1 rfl (lv_room (Nat.le_of_ble_eq_true rfl)) dX12_letterTells_7 ⟨Nat.zero_le _, Nat.zero_le _⟩) hS (fun r9 hw9 locs hS => ?_)
    obtain ⟨hfe9, hw9⟩ := hw9
    have hF := mi_let hF hfe9
    refine lv_goto (tgt := 63) hx hb dX12_letterTells_10 (by decide) ?_
    exact W.iret (v := r9) hx hb hr (fun t ht hW => ⟨⟨r9, (), rfl, ⟨hF.trans hfz.symm, trivial⟩, ht⟩, hS.F ht⟩) hS.2.2 dX12_letterTells_63
