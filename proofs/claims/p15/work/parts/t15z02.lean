set_option maxHeartbeats 4000000 in
set_option maxRecDepth 100000 in
/-- qm_sell -/
theorem qm_sell (l : Launch) (dC : Nat → ClassId) (dI : Nat → Nat → Nat) (cs : Nat → ClassId) (ad : Nat → Nat) (mu : Nat → Nat → Int32) (ok : okR loM hiM mu) (H : Heap) (hP : va_P (dC, dI) vwCl (wR 21 ad (EM cs ad) mu) H) (hD0 : va_D (fun _ => True) (wR 21 ad (EM cs ad) mu)) (vk : Int32) (vx : Int32) : Met l yX12_sell (wU yX12_sell cX12_sell 5 (some .int)) ({ frames := 3, cells := 0, slots := 0, locals := 73 }) (va_Pc [.ref (ad 0), .int vk, .int vx] (sz_P (dC, dI) vwCl (tyM cs) H)) (va_Qi (fun (z : Int32) (xi : Nat → Nat → Int32) => (z, xi) = F_qm_sell mu vk vx ∧ okR loM hiM xi ∧ (True) ∧ (∀ k f : Nat, Nat.testBit 486 (gpM k f) = true → xi k f = mu k f)) (fun xi t => va_P (dC, dI) vwCl (wR 21 ad (EM cs ad) xi) t.heap) (va_A (wR 21 ad (EM cs ad) mu) H.size)) 0 0 (va_A (wR 21 ad (EM cs ad) mu) H.size) := by
  refine Met.ofW (cc := cX12_sell) (maxL := 5) (ret := (some .int)) (by decide) rfl ?_
  intro p e s m args below meth c s₁ B hml hv
  obtain ⟨rfl, hh, hK, hz⟩ := hv
  have hx := B.exec
  have hb := B.bytes
  have hr := B.returns
  have hts := atoms_spec (ws := (wU yX12_sell cX12_sell 5 (some .int))) B.pre
  have hown : s.vm.findClass RX12 = some m.cls := findClass_of_methodNamed B.named
  have hlocks := B.notSynchronized
  subst hh
  have hD := hD0.self (sz := s.heap.size)
  have hA : ∀ q : Nat, s.heap.size ≤ q → (va_A (wR 21 ad (EM cs ad) mu) s.heap.size) q := fun q h => Or.inr h
  have hS : va_S (va_A (wR 21 ad (EM cs ad) mu) s.heap.size) s.heap s.heap [] := va_S.rf
  have hl := lv_entry ([.ref (ad 0), .int vk, .int vx]) (n := 5) (Nat.le_of_ble_eq_true rfl)
  rw [lg_entry_eq]
  generalize (lg_sl ([.ref (ad 0), .int vk, .int vx]) ++ List.replicate (5 - (lg_sl ([.ref (ad 0), .int vk, .int vx])).length) Slot.unset).toArray = ls at hl ⊢
  have hl : lv_has ls 5 [(0, .ref (ad 0)), (1, .int vk), (2, .int vx)] := hl
  obtain ⟨fz, hfz⟩ : ∃ z, F_qm_sell mu vk vx = z := ⟨_, rfl⟩
  have hF := hfz
  unfold F_qm_sell at hF
  refine lv_iload_n hx hb dX12_sell_0 rfl (lv_at hl 1 rfl) ?_
  refine lv_if_lt (tgt := 12) hx hb dX12_sell_1 (by decide) (fun c_1 => ?_) (fun c_1 => ?_)
  · have hF := (if_pos c_1).symm.trans hF
    have c_1 : vk.toInt < 0 := il_lt c_1
    refine lv_iconst (v := (-1)) hx hb dX12_sell_12 (by decide) ?_
    refine lv_goto (tgt := 21) hx hb dX12_sell_13 (by decide) ?_
    refine lv_istore_n (lv' := [(3, .int (-1)), (0, .ref (ad 0)), (1, .int vk), (2, .int vx)]) hx hb dX12_sell_21 rfl hl (by decide) rfl (fun ls hl => ?_)
    refine lv_iload_n hx hb dX12_sell_22 rfl (lv_at hl 0 rfl) ?_
    refine lv_if_ge (tgt := 28) hx hb dX12_sell_23 (by decide) (fun c => absurd c (by decide)) (fun _ => ?_)
    refine lv_iload_n hx hb dX12_sell_26 rfl (lv_at hl 0 rfl) ?_
    exact W.iret (v := (-1)) hx hb hr (fun t ht hW => ⟨⟨(-1), mu, rfl, ⟨hF.trans hfz.symm, ok, trivial, (fun _ _ _ => rfl)⟩, by first | (subst ht; exact hP) | (rw [ht]; exact hP) | (show va_P (dC, dI) vwCl (wR 21 ad (EM cs ad) mu) t.heap; rw [ht]; exact hP)⟩, hS.F ht⟩) hS.2.2 dX12_sell_27
  · have hF := (if_neg c_1).symm.trans hF
    have c_1 : 0 ≤ vk.toInt := il_nlt c_1
    refine lv_aload_n hx hb dX12_sell_4 rfl (lv_at hl 0 rfl) ?_
    refine lv_iload_n hx hb dX12_sell_5 rfl (lv_at hl 2 rfl) ?_
    refine cr_i (va_runV (As := [.int vx]) (rest := []) ⟨hx, hb, hml, hown, hts⟩ (sm_isOne l dC dI cs ad mu ok s.heap hP vx) (cwV 1 hts (wU_V mw_6_40 mw_6_37 mw_6_39 mw_0_36 mw_1_13) rfl rfl rfl (by decide +kernel) ⟨Nat.le_of_ble_eq_true rfl, Nat.le_of_ble_eq_true rfl⟩) ⟨sz_c, va_recv hK hP (ci := 12) (q0 := 0) rfl (gM_0 cs ad mu), sz_m hK hz⟩ rfl rfl hl.1 rfl (lv_room (Nat.le_of_ble_eq_true rfl)) dX12_sell_6 ⟨Nat.zero_le _, Nat.zero_le _⟩) hS (fun r2 hw2 locs hS => ?_)
    obtain ⟨hfe2, hw2⟩ := hw2
    rcases hw2 with ⟨rfl, f2⟩ | ⟨rfl, f2⟩
    · have hF := (if_pos hfe2.symm).symm.trans hF
      have f2 : 0 ≤ vx.toInt ∧ vx.toInt < (mu 0 8).toInt ∧ (mu 0 8).toInt ≤ 7 := f2
      refine lv_if_ne (tgt := 16) hx hb dX12_sell_9 (by decide) (fun _ => ?_) (fun c => absurd c (by decide))
      refine lv_aload_n hx hb dX12_sell_16 rfl (lv_at hl 0 rfl) ?_
      refine lv_iload_n hx hb dX12_sell_17 rfl (lv_at hl 1 rfl) ?_
      have hFc := fr_all (wR_D mu hD) hS hA
      refine va_calli (va_runV (As := [.int vk]) (rest := []) ⟨hx, hb, hml, hown, hts⟩ (sm_askedLetter l dC dI cs ad mu ok s.heap hP ((wR_D mu hD).weaken (fun _ _ _ _ => trivial)) vk) (cwV 1 hts (wU_V mw_6_114 mw_6_111 mw_6_113 mw_0_46 mw_1_13) rfl rfl rfl (by decide +kernel) ⟨Nat.le_of_ble_eq_true rfl, Nat.le_of_ble_eq_true rfl⟩) ⟨sz_c, va_recv hK hP (ci := 12) (q0 := 0) rfl (gM_0 cs ad mu), sz_m hK hz⟩ rfl rfl hl.1 rfl (lv_room (Nat.le_of_ble_eq_true rfl)) dX12_sell_18 ⟨Nat.zero_le _, Nat.zero_le _⟩) hS (fun q _ h => hFc q h) hFc (fun r3 xi3 t H3 locs ht hvm hw3 hB hz1 hk1 hS => ?_)
      have hP : va_P (dC, dI) vwCl (wR 21 ad (EM cs ad) xi3) H3 := by rw [← ht]; exact hB
      obtain ⟨hfe3, hw3⟩ := hw3
      have hF := mi_letp hF hfe3
      rcases hw3 with ⟨rfl, hxi3, f3⟩ | ⟨z3, ok, hkp3_0⟩
      · have hF := (if_pos rfl).symm.trans hF
        have hP : va_P (dC, dI) vwCl (wR 21 ad (EM cs ad) mu) H3 := by rw [← hxi3]; exact hP
        have f3 : 0 ≤ vk.toInt ∧ vk.toInt < (mu 0 15).toInt ∧ (mu 0 15).toInt ≤ 4 := f3
        refine lv_istore_n (lv' := [(3, .int 0), (0, .ref (ad 0)), (1, .int vk), (2, .int vx)]) hx hb dX12_sell_21 rfl hl (by decide) rfl (fun ls hl => ?_)
        refine lv_iload_n hx hb dX12_sell_22 rfl (lv_at hl 0 rfl) ?_
        refine lv_if_ge (tgt := 28) hx hb dX12_sell_23 (by decide) (fun _ => ?_) (fun c => absurd (by decide) c)
        refine lv_aload_n hx hb dX12_sell_28 rfl (lv_at hl 1 rfl) ?_
        refine lv_iload_n hx hb dX12_sell_29 rfl (lv_at hl 2 rfl) ?_
        refine cr_i (va_runV (As := [.int vk]) (rest := []) ⟨hx, hb, hml, hown, hts⟩ (sm_canSell l dC dI cs ad mu ok H3 hP vk (by omega)) (cwV 1 hts (wU_V mw_6_118 mw_6_115 mw_6_117 mw_0_47 mw_1_13) rfl rfl rfl (by decide +kernel) ⟨Nat.le_of_ble_eq_true rfl, Nat.le_of_ble_eq_true rfl⟩) ⟨sz_c, va_recv hK hP (ci := 12) (q0 := 0) rfl (gM_0 cs ad mu), sz_m hK hz⟩ rfl rfl hl.1 rfl (lv_room (Nat.le_of_ble_eq_true rfl)) dX12_sell_30 ⟨Nat.zero_le _, Nat.zero_le _⟩) hS (fun r5 hw5 locs hS => ?_)
        obtain ⟨hfe5, hw5⟩ := hw5
        have hF := mi_let hF hfe5
        have gr5 : 0 ≤ r5.toInt ∧ r5.toInt ≤ 127 := hw5
        refine lv_iload_n hx hb dX12_sell_33 rfl (lv_at hl 3 rfl) ?_
        refine cr_i (va_runS (As := [.int r5, .int vx]) (rest := []) ⟨hx, hb, hml, hown, hts⟩ (sm_has l dC dI (tyM cs) H3 r5 vx) (va_cwS 2 hts (wU_S mw_6_59 mw_6_57 mw_6_58 mw_1_13) rfl rfl rfl (by decide +kernel) ⟨Nat.le_of_ble_eq_true rfl, Nat.le_of_ble_eq_true rfl⟩) ⟨sz_c, sz_m hK hz⟩ rfl rfl hl.1 rfl (lv_room (Nat.le_of_ble_eq_true rfl)) dX12_sell_34 ⟨Nat.zero_le _, Nat.zero_le _⟩) hS (fun r6 hw6 locs hS => ?_)
        obtain ⟨hfe6, hw6⟩ := hw6
        rcases hw6 with ⟨rfl, f6⟩ | ⟨rfl, f6⟩
        · have hF := (if_pos hfe6.symm).symm.trans hF
          have f6 : rb r5 vx = 1 := f6
          refine lv_if_ne (tgt := 43) hx hb dX12_sell_37 (by decide) (fun _ => ?_) (fun c => absurd c (by decide))
          refine lv_aload_n hx hb dX12_sell_43 rfl (lv_at hl 1 rfl) ?_
          refine va_get (D := (dC, dI)) (ci := 12) (v := .int (mu 0 17)) (C := RX12) (T := TX12) (N := 46) hx hb hts inG12 hown hK hP 0 (gM_0 cs ad mu) rfl 17 (by decide) (hts _ (List.mem_cons_of_mem _ mw_5_58)) (fun _ h9 => h9) rfl dX12_sell_44 ?_
          refine lv_topi (fun y7 ey7 => ?_)
          have hF := mi_let hF ey7
          have by7 : y7.toInt = (mu 0 17).toInt := congrArg Int32.toInt ey7
          have gy7 : 0 ≤ y7.toInt ∧ y7.toInt ≤ 40 := by rw [ey7]; exact rM_0_17 ok
          refine lv_bipush (v := 40) hx hb dX12_sell_47 (by decide) ?_
          refine lv_icmp_ne (tgt := 55) hx hb dX12_sell_49 (by decide) (fun c_8 => ?_) (fun c_8 => ?_)
          · have hF := (if_neg c_8).symm.trans hF
            have c_8 : ¬ y7.toInt = 40 := il_ne c_8
            refine lv_aload_n hx hb dX12_sell_55 rfl (lv_at hl 1 rfl) ?_
            refine lv_iload_n hx hb dX12_sell_56 rfl (lv_at hl 2 rfl) ?_
            refine cr_i (va_runV (As := [.int vk]) (rest := []) ⟨hx, hb, hml, hown, hts⟩ (sm_priceOf l dC dI cs ad mu ok H3 hP vk (by omega)) (cwV 1 hts (wU_V mw_6_122 mw_6_119 mw_6_121 mw_0_48 mw_1_13) rfl rfl rfl (by decide +kernel) ⟨Nat.le_of_ble_eq_true rfl, Nat.le_of_ble_eq_true rfl⟩) ⟨sz_c, va_recv hK hP (ci := 12) (q0 := 0) rfl (gM_0 cs ad mu), sz_m hK hz⟩ rfl rfl hl.1 rfl (lv_room (Nat.le_of_ble_eq_true rfl)) dX12_sell_57 ⟨Nat.zero_le _, Nat.zero_le _⟩) hS (fun r9 hw9 locs hS => ?_)
            obtain ⟨hfe9, hw9⟩ := hw9
            have hF := mi_let hF hfe9
            refine lv_istore (lv' := [(4, .int r9), (3, .int 0), (0, .ref (ad 0)), (1, .int vk), (2, .int vx)]) hx hb dX12_sell_60 hl (by decide) rfl (fun ls hl => ?_)
            refine lv_aload_n hx hb dX12_sell_62 rfl (lv_at hl 2 rfl) ?_
            refine lv_iload_n hx hb dX12_sell_63 rfl (lv_at hl 3 rfl) ?_
            refine lv_iload_n hx hb dX12_sell_64 rfl (lv_at hl 4 rfl) ?_
            have hFc := fr_all (wR_D mu hD) hS hA
            refine va_callv (va_runV (As := [.int vk, .int vx]) (rest := []) ⟨hx, hb, hml, hown, hts⟩ (sm_sellTo l dC dI cs ad mu ok H3 hP ((wR_D mu hD).weaken (fun _ _ _ _ => trivial)) vk vx (by omega) (by have hb10 := congrArg Int32.toInt ey7; omega)) (cwV 2 hts (wU_V mw_6_130 mw_6_127 mw_6_129 mw_0_50 mw_1_13) rfl rfl rfl (by decide +kernel) ⟨Nat.le_of_ble_eq_true rfl, Nat.le_of_ble_eq_true rfl⟩) ⟨sz_c, va_recv hK hP (ci := 12) (q0 := 0) rfl (gM_0 cs ad mu), sz_m hK hz⟩ rfl rfl hl.1 rfl (lv_room (Nat.le_of_ble_eq_true rfl)) dX12_sell_65 ⟨Nat.zero_le _, Nat.zero_le _⟩) hS (fun q _ h => hFc q h) hFc (fun xi11 t H11 locs ht hvm hw11 hB hz1 hk1 hS => ?_)
            have hP : va_P (dC, dI) vwCl (wR 21 ad (EM cs ad) xi11) H11 := by rw [← ht]; exact hB
            obtain ⟨hfe11, ok, hw11, hkp11_0⟩ := hw11
            have hF := mi_let hF hfe11
            have kp12 : (∀ k f : Nat, Nat.testBit 486 (gpM k f) = true → xi11 k f = mu k f) := kp_t hkp11_0 (by decide) (fun _ _ _ => rfl)
            refine lv_iload hx hb dX12_sell_68 (lv_at hl 0 rfl) ?_
            refine lv_aload_n hx hb dX12_sell_70 rfl (lv_at hl 2 rfl) ?_
            refine lv_iload_n hx hb dX12_sell_71 rfl (lv_at hl 3 rfl) ?_
            refine cr_i (va_runV (As := [.int vk]) (rest := [.int r9]) ⟨hx, hb, hml, hown, hts⟩ (sm_isRead l dC dI cs ad xi11 ok H11 hP vk (by omega)) (cwV 1 hts (wU_V mw_6_52 mw_6_49 mw_6_51 mw_0_39 mw_1_13) rfl rfl rfl (by decide +kernel) ⟨Nat.le_of_ble_eq_true rfl, Nat.le_of_ble_eq_true rfl⟩) ⟨sz_c, va_recv hK hP (ci := 12) (q0 := 0) rfl (gM_0 cs ad xi11), sz_m hK hz⟩ rfl rfl hl.1 rfl (lv_room (Nat.le_of_ble_eq_true rfl)) dX12_sell_72 ⟨Nat.zero_le _, Nat.zero_le _⟩) hS (fun r13 hw13 locs hS => ?_)
            obtain ⟨hfe13, hw13⟩ := hw13
            have hF := mi_let hF hfe13
            have gr13 : 0 ≤ r13.toInt ∧ r13.toInt ≤ 1 := hw13
            refine lv_if_eq (tgt := 84) hx hb dX12_sell_75 (by decide) (fun c_14 => ?_) (fun c_14 => ?_)
            · have hF := (if_pos c_14).symm.trans hF
              have c_14 : r13.toInt = 0 := il_eq c_14
              refine lv_iconst (v := 0) hx hb dX12_sell_84 (by decide) ?_
              refine lv_iadd hx hb dX12_sell_85 ?_
              refine lv_topi (fun t15 et15 => ?_)
              have hF := mi_let hF et15
              exact W.iret (v := t15) hx hb hr (fun t ht hW => ⟨⟨t15, xi11, rfl, ⟨hF.trans hfz.symm, ok, trivial, kp12⟩, by first | (subst ht; exact hP) | (rw [ht]; exact hP) | (show va_P (dC, dI) vwCl (wR 21 ad (EM cs ad) xi11) t.heap; rw [ht]; exact hP)⟩, hS.F ht⟩) hS.2.2 dX12_sell_86
            · have hF := (if_neg c_14).symm.trans hF
              have c_14 : ¬ r13.toInt = 0 := il_ne c_14
              refine lv_sipush (v := 1000) hx hb dX12_sell_78 (by decide) ?_
              refine lv_goto (tgt := 85) hx hb dX12_sell_81 (by decide) ?_
              refine lv_iadd hx hb dX12_sell_85 ?_
              refine lv_topi (fun t16 et16 => ?_)
              have hF := mi_let hF et16
              exact W.iret (v := t16) hx hb hr (fun t ht hW => ⟨⟨t16, xi11, rfl, ⟨hF.trans hfz.symm, ok, trivial, kp12⟩, by first | (subst ht; exact hP) | (rw [ht]; exact hP) | (show va_P (dC, dI) vwCl (wR 21 ad (EM cs ad) xi11) t.heap; rw [ht]; exact hP)⟩, hS.F ht⟩) hS.2.2 dX12_sell_86
          · have hF := (if_pos c_8).symm.trans hF
            have c_8 : y7.toInt = 40 := il_eq c_8
            refine lv_bipush (v := (-2)) hx hb dX12_sell_52 (by decide) ?_
            exact W.iret (v := (-2)) hx hb hr (fun t ht hW => ⟨⟨(-2), mu, rfl, ⟨hF.trans hfz.symm, ok, trivial, (fun _ _ _ => rfl)⟩, by first | (subst ht; exact hP) | (rw [ht]; exact hP) | (show va_P (dC, dI) vwCl (wR 21 ad (EM cs ad) mu) t.heap; rw [ht]; exact hP)⟩, hS.F ht⟩) hS.2.2 dX12_sell_54
        · have hF := (if_neg (fun h => absurd (hfe6.trans h) (by decide))).symm.trans hF
          have f6 : ¬ rb r5 vx = 1 := f6
          refine lv_if_ne (tgt := 43) hx hb dX12_sell_37 (by decide) (fun c => absurd (by decide) c) (fun _ => ?_)
          refine lv_bipush (v := (-4)) hx hb dX12_sell_40 (by decide) ?_
          exact W.iret (v := (-4)) hx hb hr (fun t ht hW => ⟨⟨(-4), mu, rfl, ⟨hF.trans hfz.symm, ok, trivial, (fun _ _ _ => rfl)⟩, by first | (subst ht; exact hP) | (rw [ht]; exact hP) | (show va_P (dC, dI) vwCl (wR 21 ad (EM cs ad) mu) t.heap; rw [ht]; exact hP)⟩, hS.F ht⟩) hS.2.2 dX12_sell_42
      · have hF := (if_neg (show ¬ r3 = 0 from fun h => by have h9 := congrArg Int32.toInt h; have h8 : (0 : Int32).toInt = 0 := rfl; omega)).symm.trans hF
        have kp4 : (∀ k f : Nat, Nat.testBit 486 (gpM k f) = true → xi3 k f = mu k f) := kp_t hkp3_0 (by decide) (fun _ _ _ => rfl)
        skip
        refine lv_istore_n (lv' := [(3, .int r3), (0, .ref (ad 0)), (1, .int vk), (2, .int vx)]) hx hb dX12_sell_21 rfl hl (by decide) rfl (fun ls hl => ?_)
        refine lv_iload_n hx hb dX12_sell_22 rfl (lv_at hl 0 rfl) ?_
        refine lv_if_ge (tgt := 28) hx hb dX12_sell_23 (by decide) (fun c_17 => by have c_17 : 0 ≤ r3.toInt := il_le c_17; exfalso; omega) (fun c_17 => ?_)
        have c_17 : r3.toInt < 0 := il_nle c_17
        refine lv_iload_n hx hb dX12_sell_26 rfl (lv_at hl 0 rfl) ?_
        exact W.iret (v := r3) hx hb hr (fun t ht hW => ⟨⟨r3, xi3, rfl, ⟨hF.trans hfz.symm, ok, trivial, kp4⟩, by first | (subst ht; exact hP) | (rw [ht]; exact hP) | (show va_P (dC, dI) vwCl (wR 21 ad (EM cs ad) xi3) t.heap; rw [ht]; exact hP)⟩, hS.F ht⟩) hS.2.2 dX12_sell_27
    · have hF := (if_neg (fun h => absurd (hfe2.trans h) (by decide))).symm.trans hF
      have f2 : vx.toInt < 0 ∨ (mu 0 8).toInt ≤ vx.toInt := f2
      refine lv_if_ne (tgt := 16) hx hb dX12_sell_9 (by decide) (fun c => absurd (by decide) c) (fun _ => ?_)
      refine lv_iconst (v := (-1)) hx hb dX12_sell_12 (by decide) ?_
      refine lv_goto (tgt := 21) hx hb dX12_sell_13 (by decide) ?_
      refine lv_istore_n (lv' := [(3, .int (-1)), (0, .ref (ad 0)), (1, .int vk), (2, .int vx)]) hx hb dX12_sell_21 rfl hl (by decide) rfl (fun ls hl => ?_)
      refine lv_iload_n hx hb dX12_sell_22 rfl (lv_at hl 0 rfl) ?_
      refine lv_if_ge (tgt := 28) hx hb dX12_sell_23 (by decide) (fun c => absurd c (by decide)) (fun _ => ?_)
      refine lv_iload_n hx hb dX12_sell_26 rfl (lv_at hl 0 rfl) ?_
      exact W.iret (v := (-1)) hx hb hr (fun t ht hW => ⟨⟨(-1), mu, rfl, ⟨hF.trans hfz.symm, ok, trivial, (fun _ _ _ => rfl)⟩, by first | (subst ht; exact hP) | (rw [ht]; exact hP) | (show va_P (dC, dI) vwCl (wR 21 ad (EM cs ad) mu) t.heap; rw [ht]; exact hP)⟩, hS.F ht⟩) hS.2.2 dX12_sell_27
