set_option maxHeartbeats 4000000 in
set_option maxRecDepth 100000 in
/-- qx_mark -/
theorem qx_mark (l : Launch) (dC : Nat → ClassId) (dI : Nat → Nat → Nat) (cs : Nat → ClassId) (ad : Nat → Nat) (mu : Nat → Nat → Int32) (ok : okR loX hiX mu) (H : Heap) (hP : va_P (dC, dI) vwCl (wR 157 ad (EX cs ad) mu) H) (hD0 : va_D (fun _ => True) (wR 157 ad (EX cs ad) mu)) (vx : Int32) (vd : Int32) : Met l yX11_mark (wU yX11_mark cX11_mark 3 (some .int)) ({ frames := 3, cells := 0, slots := 0, locals := 69 }) (va_Pc [.ref (ad 0), .int vx, .int vd] (sz_P (dC, dI) vwCl (tyW cs) H)) (va_Qi (fun (z : Int32) (xi : Nat → Nat → Int32) => (z, xi) = F_qx_mark mu vx vd ∧ okR loX hiX xi ∧ (True) ∧ (∀ k f : Nat, Nat.testBit 510 (gpX k f) = true → xi k f = mu k f)) (fun xi t => va_P (dC, dI) vwCl (wR 157 ad (EX cs ad) xi) t.heap) (va_A (wR 157 ad (EX cs ad) mu) H.size)) 0 0 (va_A (wR 157 ad (EX cs ad) mu) H.size) := by
  refine Met.ofW (cc := cX11_mark) (maxL := 3) (ret := (some .int)) (by decide) rfl ?_
  intro p e s m args below meth c s₁ B hml hv
  obtain ⟨rfl, hh, hK, hz⟩ := hv
  have hx := B.exec
  have hb := B.bytes
  have hr := B.returns
  have hts := atoms_spec (ws := (wU yX11_mark cX11_mark 3 (some .int))) B.pre
  have hown : s.vm.findClass RX11 = some m.cls := findClass_of_methodNamed B.named
  have hlocks := B.notSynchronized
  subst hh
  have hD := hD0.self (sz := s.heap.size)
  have hA : ∀ q : Nat, s.heap.size ≤ q → (va_A (wR 157 ad (EX cs ad) mu) s.heap.size) q := fun q h => Or.inr h
  have hS : va_S (va_A (wR 157 ad (EX cs ad) mu) s.heap.size) s.heap s.heap [] := va_S.rf
  have hl := lv_entry ([.ref (ad 0), .int vx, .int vd]) (n := 3) (Nat.le_of_ble_eq_true rfl)
  rw [lg_entry_eq]
  generalize (lg_sl ([.ref (ad 0), .int vx, .int vd]) ++ List.replicate (3 - (lg_sl ([.ref (ad 0), .int vx, .int vd])).length) Slot.unset).toArray = ls at hl ⊢
  have hl : lv_has ls 3 [(0, .ref (ad 0)), (1, .int vx), (2, .int vd)] := hl
  obtain ⟨fz, hfz⟩ : ∃ z, F_qx_mark mu vx vd = z := ⟨_, rfl⟩
  have hF := hfz
  unfold F_qx_mark at hF
  refine lv_aload_n hx hb dX11_mark_0 rfl (lv_at hl 0 rfl) ?_
  refine va_get (D := (dC, dI)) (ci := 11) (v := .ref (ad 4)) (C := RX11) (T := TX11) (N := 11) hx hb hts inG11 hown hK hP 0 (gX_0 cs ad mu) rfl 3 (by decide) (hts _ (List.mem_cons_of_mem _ mw_2_161)) (fun _ h9 => h9) rfl dX11_mark_1 ?_
  refine lv_iload_n hx hb dX11_mark_4 rfl (lv_at hl 1 rfl) ?_
  refine cr_i (va_runV (As := [.int vx]) (rest := []) ⟨hx, hb, hml, hown, hts⟩ (sx_has l dC dI cs ad mu ok s.heap hP vx) (cwV 1 hts (wU_V mw_3_76 mw_3_73 mw_3_74 mw_3_75 mw_1_2) rfl rfl rfl (by decide +kernel) ⟨Nat.le_of_ble_eq_true rfl, Nat.le_of_ble_eq_true rfl⟩) ⟨sz_c, va_recv hK hP (ci := 10) (q0 := 4) rfl (gX_4 cs ad mu), sz_m hK hz⟩ rfl rfl hl.1 rfl (lv_room (Nat.le_of_ble_eq_true rfl)) dX11_mark_5 ⟨Nat.zero_le _, Nat.zero_le _⟩) hS (fun r1 hw1 locs hS => ?_)
  obtain ⟨hfe1, hw1⟩ := hw1
  rcases hw1 with ⟨rfl, f1⟩ | ⟨rfl, f1⟩
  · have hF := (if_pos hfe1.symm).symm.trans hF
    have f1 : 0 ≤ vx.toInt ∧ vx.toInt < (mu 4 6).toInt ∧ (mu 4 6).toInt ≤ 7 := f1
    refine lv_if_eq (tgt := 20) hx hb dX11_mark_8 (by decide) (fun c => absurd c (by decide)) (fun _ => ?_)
    refine lv_iload_n hx hb dX11_mark_11 rfl (lv_at hl 2 rfl) ?_
    refine lv_if_le (tgt := 20) hx hb dX11_mark_12 (by decide) (fun c_2 => ?_) (fun c_2 => ?_)
    · have hF := (if_pos c_2).symm.trans hF
      have c_2 : vd.toInt ≤ 0 := il_le c_2
      refine lv_iconst (v := (-1)) hx hb dX11_mark_20 (by decide) ?_
      exact W.iret (v := (-1)) hx hb hr (fun t ht hW => ⟨⟨(-1), mu, rfl, ⟨hF.trans hfz.symm, ok, trivial, (fun _ _ _ => rfl)⟩, by first | (subst ht; exact hP) | (rw [ht]; exact hP) | (show va_P (dC, dI) vwCl (wR 157 ad (EX cs ad) mu) t.heap; rw [ht]; exact hP)⟩, hS.F ht⟩) hS.2.2 dX11_mark_21
    · have hF := (if_neg c_2).symm.trans hF
      have c_2 : 0 < vd.toInt := il_nle c_2
      refine lv_iload_n hx hb dX11_mark_15 rfl (lv_at hl 2 rfl) ?_
      refine lv_iconst (v := 5) hx hb dX11_mark_16 (by decide) ?_
      refine lv_icmp_le (tgt := 22) hx hb dX11_mark_17 (by decide) (fun c_3 => ?_) (fun c_3 => ?_)
      · have hF := (if_pos c_3).symm.trans hF
        have c_3 : vd.toInt ≤ 5 := il_le c_3
        refine lv_aload_n hx hb dX11_mark_22 rfl (lv_at hl 0 rfl) ?_
        refine va_get (D := (dC, dI)) (ci := 11) (v := .ref (ad 4)) (C := RX11) (T := TX11) (N := 11) hx hb hts inG11 hown hK hP 0 (gX_0 cs ad mu) rfl 3 (by decide) (hts _ (List.mem_cons_of_mem _ mw_2_161)) (fun _ h9 => h9) rfl dX11_mark_23 ?_
        refine va_get (D := (dC, dI)) (ci := 10) (v := .ref (ad 34)) (C := RX10) (T := TX10) (N := 8) hx hb hts inG10 hown hK hP 4 (gX_4 cs ad mu) rfl 0 (by decide) (hts _ (List.mem_cons_of_mem _ mw_1_147)) (fun _ h9 => h9) rfl dX11_mark_26 ?_
        refine lv_iload_n hx hb dX11_mark_29 rfl (lv_at hl 1 rfl) ?_
        refine va_iald hx hb hK hP 34 0 (gX_34 cs ad mu) rfl (show vp_in vx 7 from vi_of (by omega) (by omega)) dX11_mark_30 ?_
        refine lv_topi (fun y4 ey4 => ?_)
        have hF := mi_let hF ey4
        have by4 : y4.toInt = (mu 34 vx.toNatClampNeg).toInt := congrArg Int32.toInt ey4
        refine lv_iload_n hx hb dX11_mark_31 rfl (lv_at hl 2 rfl) ?_
        refine cr_i (va_runS (As := [.int y4, .int vd]) (rest := []) ⟨hx, hb, hml, hown, hts⟩ (sx_isOfKind l dC dI (tyW cs) s.heap y4 vd) (va_cwS 2 hts (wU_S mw_3_104 mw_3_102 mw_3_103 mw_1_1) rfl rfl rfl (by decide +kernel) ⟨Nat.le_of_ble_eq_true rfl, Nat.le_of_ble_eq_true rfl⟩) ⟨sz_c, sz_m hK hz⟩ rfl rfl hl.1 rfl (lv_room (Nat.le_of_ble_eq_true rfl)) dX11_mark_32 ⟨Nat.zero_le _, Nat.zero_le _⟩) hS (fun r5 hw5 locs hS => ?_)
        obtain ⟨hfe5, hw5⟩ := hw5
        have hF := mi_let hF hfe5
        have gr5 : 0 ≤ r5.toInt ∧ r5.toInt ≤ 1 := hw5
        refine lv_if_ne (tgt := 44) hx hb dX11_mark_35 (by decide) (fun c_6 => ?_) (fun c_6 => ?_)
        · have hF := (if_neg c_6).symm.trans hF
          have c_6 : ¬ r5.toInt = 0 := il_ne c_6
          refine lv_iload_n hx hb dX11_mark_44 rfl (lv_at hl 2 rfl) ?_
          by_cases w7 : vd.toInt < 1 ∨ 4 < vd.toInt
          · refine lv_tableOut (tgt := 129) hx hb dX11_mark_45 w7 (by decide) ?_
            have hF := (if_pos w7).symm.trans hF
            refine lv_aload_n hx hb dX11_mark_129 rfl (lv_at hl 0 rfl) ?_
            refine va_get (D := (dC, dI)) (ci := 11) (v := .ref (ad 4)) (C := RX11) (T := TX11) (N := 11) hx hb hts inG11 hown hK hP 0 (gX_0 cs ad mu) rfl 3 (by decide) (hts _ (List.mem_cons_of_mem _ mw_2_161)) (fun _ h9 => h9) rfl dX11_mark_130 ?_
            refine lv_iload_n hx hb dX11_mark_133 rfl (lv_at hl 1 rfl) ?_
            refine cr_i (va_runV (As := [.int vx]) (rest := []) ⟨hx, hb, hml, hown, hts⟩ (sx_paidForUnread l dC dI cs ad mu ok s.heap hP vx) (cwV 1 hts (wU_V mw_3_120 mw_3_117 mw_3_118 mw_3_119 mw_1_2) rfl rfl rfl (by decide +kernel) ⟨Nat.le_of_ble_eq_true rfl, Nat.le_of_ble_eq_true rfl⟩) ⟨sz_c, va_recv hK hP (ci := 10) (q0 := 4) rfl (gX_4 cs ad mu), sz_m hK hz⟩ rfl rfl hl.1 rfl (lv_room (Nat.le_of_ble_eq_true rfl)) dX11_mark_134 ⟨Nat.zero_le _, Nat.zero_le _⟩) hS (fun r8 hw8 locs hS => ?_)
            obtain ⟨hfe8, hw8⟩ := hw8
            have hF := mi_let hF hfe8
            exact W.iret (v := r8) hx hb hr (fun t ht hW => ⟨⟨r8, mu, rfl, ⟨hF.trans hfz.symm, ok, trivial, (fun _ _ _ => rfl)⟩, by first | (subst ht; exact hP) | (rw [ht]; exact hP) | (show va_P (dC, dI) vwCl (wR 157 ad (EX cs ad) mu) t.heap; rw [ht]; exact hP)⟩, hS.F ht⟩) hS.2.2 dX11_mark_137
          have hF := (if_neg w7).symm.trans hF
          by_cases w7_1 : vd.toInt = 1
          · refine lv_tableIn (off := 31) (tgt := 76) hx hb dX11_mark_45 (by omega) (by omega) (by rw [w7_1]; rfl) (by decide) ?_
            have hF := (if_pos w7_1).symm.trans hF
            refine lv_aload_n hx hb dX11_mark_76 rfl (lv_at hl 0 rfl) ?_
            refine va_get (D := (dC, dI)) (ci := 11) (v := .ref (ad 4)) (C := RX11) (T := TX11) (N := 11) hx hb hts inG11 hown hK hP 0 (gX_0 cs ad mu) rfl 3 (by decide) (hts _ (List.mem_cons_of_mem _ mw_2_161)) (fun _ h9 => h9) rfl dX11_mark_77 ?_
            refine va_get (D := (dC, dI)) (ci := 10) (v := .ref (ad 34)) (C := RX10) (T := TX10) (N := 8) hx hb hts inG10 hown hK hP 4 (gX_4 cs ad mu) rfl 0 (by decide) (hts _ (List.mem_cons_of_mem _ mw_1_147)) (fun _ h9 => h9) rfl dX11_mark_80 ?_
            refine lv_iload_n hx hb dX11_mark_83 rfl (lv_at hl 1 rfl) ?_
            refine va_iald hx hb hK hP 34 0 (gX_34 cs ad mu) rfl (show vp_in vx 7 from vi_of (by omega) (by omega)) dX11_mark_84 ?_
            refine lq_i y4 ey4.symm ?_
            refine lv_iconst (v := 0) hx hb dX11_mark_85 (by decide) ?_
            refine cr_i (va_runS (As := [.int y4, .int 0]) (rest := []) ⟨hx, hb, hml, hown, hts⟩ (sx_priceAsked l dC dI (tyW cs) s.heap y4 0) (va_cwS 2 hts (wU_S mw_3_107 mw_3_105 mw_3_106 mw_1_1) rfl rfl rfl (by decide +kernel) ⟨Nat.le_of_ble_eq_true rfl, Nat.le_of_ble_eq_true rfl⟩) ⟨sz_c, sz_m hK hz⟩ rfl rfl hl.1 rfl (lv_room (Nat.le_of_ble_eq_true rfl)) dX11_mark_86 ⟨Nat.zero_le _, Nat.zero_le _⟩) hS (fun r9 hw9 locs hS => ?_)
            obtain ⟨hfe9, hw9⟩ := hw9
            have hF := mi_let hF hfe9
            refine lv_iconst (v := 0) hx hb dX11_mark_89 (by decide) ?_
            refine lv_iconst (v := 0) hx hb dX11_mark_90 (by decide) ?_
            refine cr_i (va_runS (As := [.int 0, .int 0]) (rest := [.int r9]) ⟨hx, hb, hml, hown, hts⟩ (sx_priceAsked l dC dI (tyW cs) s.heap 0 0) (va_cwS 2 hts (wU_S mw_3_107 mw_3_105 mw_3_106 mw_1_1) rfl rfl rfl (by decide +kernel) ⟨Nat.le_of_ble_eq_true rfl, Nat.le_of_ble_eq_true rfl⟩) ⟨sz_c, sz_m hK hz⟩ rfl rfl hl.1 rfl (lv_room (Nat.le_of_ble_eq_true rfl)) dX11_mark_91 ⟨Nat.zero_le _, Nat.zero_le _⟩) hS (fun r10 hw10 locs hS => ?_)
            obtain ⟨hfe10, hw10⟩ := hw10
            have hF := mi_let hF hfe10
            refine lv_isub hx hb dX11_mark_94 ?_
            refine lv_topi (fun t11 et11 => ?_)
            have hF := mi_let hF et11
            exact W.iret (v := t11) hx hb hr (fun t ht hW => ⟨⟨t11, mu, rfl, ⟨hF.trans hfz.symm, ok, trivial, (fun _ _ _ => rfl)⟩, by first | (subst ht; exact hP) | (rw [ht]; exact hP) | (show va_P (dC, dI) vwCl (wR 157 ad (EX cs ad) mu) t.heap; rw [ht]; exact hP)⟩, hS.F ht⟩) hS.2.2 dX11_mark_95
          have hF := (if_neg w7_1).symm.trans hF
          by_cases w7_2 : vd.toInt = 2
          · refine lv_tableIn (off := 51) (tgt := 96) hx hb dX11_mark_45 (by omega) (by omega) (by rw [w7_2]; rfl) (by decide) ?_
            have hF := (if_pos w7_2).symm.trans hF
            refine lv_aload_n hx hb dX11_mark_96 rfl (lv_at hl 0 rfl) ?_
            refine va_get (D := (dC, dI)) (ci := 11) (v := .ref (ad 4)) (C := RX11) (T := TX11) (N := 11) hx hb hts inG11 hown hK hP 0 (gX_0 cs ad mu) rfl 3 (by decide) (hts _ (List.mem_cons_of_mem _ mw_2_161)) (fun _ h9 => h9) rfl dX11_mark_97 ?_
            refine lv_iload_n hx hb dX11_mark_100 rfl (lv_at hl 1 rfl) ?_
            refine cr_i (va_runV (As := [.int vx]) (rest := []) ⟨hx, hb, hml, hown, hts⟩ (sx_friendsNear l dC dI cs ad mu ok s.heap hP vx) (cwV 1 hts (wU_V mw_3_111 mw_3_108 mw_3_109 mw_3_110 mw_1_2) rfl rfl rfl (by decide +kernel) ⟨Nat.le_of_ble_eq_true rfl, Nat.le_of_ble_eq_true rfl⟩) ⟨sz_c, va_recv hK hP (ci := 10) (q0 := 4) rfl (gX_4 cs ad mu), sz_m hK hz⟩ rfl rfl hl.1 rfl (lv_room (Nat.le_of_ble_eq_true rfl)) dX11_mark_101 ⟨Nat.zero_le _, Nat.zero_le _⟩) hS (fun r12 hw12 locs hS => ?_)
            obtain ⟨hfe12, hw12⟩ := hw12
            have hF := mi_let hF hfe12
            exact W.iret (v := r12) hx hb hr (fun t ht hW => ⟨⟨r12, mu, rfl, ⟨hF.trans hfz.symm, ok, trivial, (fun _ _ _ => rfl)⟩, by first | (subst ht; exact hP) | (rw [ht]; exact hP) | (show va_P (dC, dI) vwCl (wR 157 ad (EX cs ad) mu) t.heap; rw [ht]; exact hP)⟩, hS.F ht⟩) hS.2.2 dX11_mark_104
          have hF := (if_neg w7_2).symm.trans hF
          by_cases w7_3 : vd.toInt = 3
          · refine lv_tableIn (off := 60) (tgt := 105) hx hb dX11_mark_45 (by omega) (by omega) (by rw [w7_3]; rfl) (by decide) ?_
            have hF := (if_pos w7_3).symm.trans hF
            refine lv_aload_n hx hb dX11_mark_105 rfl (lv_at hl 0 rfl) ?_
            refine va_get (D := (dC, dI)) (ci := 11) (v := .ref (ad 4)) (C := RX11) (T := TX11) (N := 11) hx hb hts inG11 hown hK hP 0 (gX_0 cs ad mu) rfl 3 (by decide) (hts _ (List.mem_cons_of_mem _ mw_2_161)) (fun _ h9 => h9) rfl dX11_mark_106 ?_
            refine lv_iload_n hx hb dX11_mark_109 rfl (lv_at hl 1 rfl) ?_
            refine cr_i (va_runV (As := [.int vx]) (rest := []) ⟨hx, hb, hml, hown, hts⟩ (sx_unreadTo l dC dI cs ad mu ok s.heap hP vx) (cwV 1 hts (wU_V mw_3_116 mw_3_113 mw_3_114 mw_3_115 mw_1_2) rfl rfl rfl (by decide +kernel) ⟨Nat.le_of_ble_eq_true rfl, Nat.le_of_ble_eq_true rfl⟩) ⟨sz_c, va_recv hK hP (ci := 10) (q0 := 4) rfl (gX_4 cs ad mu), sz_m hK hz⟩ rfl rfl hl.1 rfl (lv_room (Nat.le_of_ble_eq_true rfl)) dX11_mark_110 ⟨Nat.zero_le _, Nat.zero_le _⟩) hS (fun r13 hw13 locs hS => ?_)
            obtain ⟨hfe13, hw13⟩ := hw13
            have hF := mi_let hF hfe13
            exact W.iret (v := r13) hx hb hr (fun t ht hW => ⟨⟨r13, mu, rfl, ⟨hF.trans hfz.symm, ok, trivial, (fun _ _ _ => rfl)⟩, by first | (subst ht; exact hP) | (rw [ht]; exact hP) | (show va_P (dC, dI) vwCl (wR 157 ad (EX cs ad) mu) t.heap; rw [ht]; exact hP)⟩, hS.F ht⟩) hS.2.2 dX11_mark_113
          have hF := (if_neg w7_3).symm.trans hF
          have w7_4 : vd.toInt = 4 := by omega
          refine lv_tableIn (off := 69) (tgt := 114) hx hb dX11_mark_45 (by omega) (by omega) (by rw [w7_4]; rfl) (by decide) ?_
          refine lv_aload_n hx hb dX11_mark_114 rfl (lv_at hl 0 rfl) ?_
          refine va_get (D := (dC, dI)) (ci := 11) (v := .ref (ad 4)) (C := RX11) (T := TX11) (N := 11) hx hb hts inG11 hown hK hP 0 (gX_0 cs ad mu) rfl 3 (by decide) (hts _ (List.mem_cons_of_mem _ mw_2_161)) (fun _ h9 => h9) rfl dX11_mark_115 ?_
          refine va_get (D := (dC, dI)) (ci := 10) (v := .ref (ad 34)) (C := RX10) (T := TX10) (N := 8) hx hb hts inG10 hown hK hP 4 (gX_4 cs ad mu) rfl 0 (by decide) (hts _ (List.mem_cons_of_mem _ mw_1_147)) (fun _ h9 => h9) rfl dX11_mark_118 ?_
          refine lv_iload_n hx hb dX11_mark_121 rfl (lv_at hl 1 rfl) ?_
          refine va_iald hx hb hK hP 34 0 (gX_34 cs ad mu) rfl (show vp_in vx 7 from vi_of (by omega) (by omega)) dX11_mark_122 ?_
          refine lq_i y4 ey4.symm ?_
          refine lv_bipush (v := 10) hx hb dX11_mark_123 (by decide) ?_
          refine cr_i (va_runS (As := [.int y4, .int 10]) (rest := []) ⟨hx, hb, hml, hown, hts⟩ (sx_priceAsked l dC dI (tyW cs) s.heap y4 10) (va_cwS 2 hts (wU_S mw_3_107 mw_3_105 mw_3_106 mw_1_1) rfl rfl rfl (by decide +kernel) ⟨Nat.le_of_ble_eq_true rfl, Nat.le_of_ble_eq_true rfl⟩) ⟨sz_c, sz_m hK hz⟩ rfl rfl hl.1 rfl (lv_room (Nat.le_of_ble_eq_true rfl)) dX11_mark_125 ⟨Nat.zero_le _, Nat.zero_le _⟩) hS (fun r14 hw14 locs hS => ?_)
          obtain ⟨hfe14, hw14⟩ := hw14
          have hF := mi_let hF hfe14
          exact W.iret (v := r14) hx hb hr (fun t ht hW => ⟨⟨r14, mu, rfl, ⟨hF.trans hfz.symm, ok, trivial, (fun _ _ _ => rfl)⟩, by first | (subst ht; exact hP) | (rw [ht]; exact hP) | (show va_P (dC, dI) vwCl (wR 157 ad (EX cs ad) mu) t.heap; rw [ht]; exact hP)⟩, hS.F ht⟩) hS.2.2 dX11_mark_128
        · have hF := (if_pos c_6).symm.trans hF
          have c_6 : r5.toInt = 0 := il_eq c_6
          refine lv_aload_n hx hb dX11_mark_38 rfl (lv_at hl 0 rfl) ?_
          refine lv_iconst (v := 3) hx hb dX11_mark_39 (by decide) ?_
          have hFc := fr_all (wR_D mu hD) hS hA
          refine va_calli (va_runV (As := [.int 3]) (rest := []) ⟨hx, hb, hml, hown, hts⟩ (sx_found l dC dI cs ad mu ok s.heap hP ((wR_D mu hD).weaken (fun _ _ _ _ => trivial)) 3 (by have h50 : (3 : Int32).toInt = 3 := rfl; omega)) (cwV 1 hts (wU_V mw_2_202 mw_2_199 mw_2_201 mw_0_0 mw_1_1) rfl rfl rfl (by decide +kernel) ⟨Nat.le_of_ble_eq_true rfl, Nat.le_of_ble_eq_true rfl⟩) ⟨sz_c, va_recv hK hP (ci := 11) (q0 := 0) rfl (gX_0 cs ad mu), sz_m hK hz⟩ rfl rfl hl.1 rfl (lv_room (Nat.le_of_ble_eq_true rfl)) dX11_mark_40 ⟨Nat.zero_le _, Nat.zero_le _⟩) hS (fun q _ h => hFc q h) hFc (fun r15 xi15 t H15 locs ht hvm hw15 hB hz1 hk1 hS => ?_)
          have hP : va_P (dC, dI) vwCl (wR 157 ad (EX cs ad) xi15) H15 := by rw [← ht]; exact hB
          obtain ⟨hfe15, ok, hw15, hkp15_0⟩ := hw15
          have hF := mi_letp hF hfe15
          have kp16 : (∀ k f : Nat, Nat.testBit 510 (gpX k f) = true → xi15 k f = mu k f) := kp_t hkp15_0 (by decide) (fun _ _ _ => rfl)
          have gr15 : -3 ≤ r15.toInt ∧ r15.toInt ≤ -3 := hw15
          exact W.iret (v := r15) hx hb hr (fun t ht hW => ⟨⟨r15, xi15, rfl, ⟨hF.trans hfz.symm, ok, trivial, kp16⟩, by first | (subst ht; exact hP) | (rw [ht]; exact hP) | (show va_P (dC, dI) vwCl (wR 157 ad (EX cs ad) xi15) t.heap; rw [ht]; exact hP)⟩, hS.F ht⟩) hS.2.2 dX11_mark_43
      · have hF := (if_neg c_3).symm.trans hF
        have c_3 : 5 < vd.toInt := il_nle c_3
        refine lv_iconst (v := (-1)) hx hb dX11_mark_20 (by decide) ?_
        exact W.iret (v := (-1)) hx hb hr (fun t ht hW => ⟨⟨(-1), mu, rfl, ⟨hF.trans hfz.symm, ok, trivial, (fun _ _ _ => rfl)⟩, by first | (subst ht; exact hP) | (rw [ht]; exact hP) | (show va_P (dC, dI) vwCl (wR 157 ad (EX cs ad) mu) t.heap; rw [ht]; exact hP)⟩, hS.F ht⟩) hS.2.2 dX11_mark_21
  · have hF := (if_neg (fun h => absurd (hfe1.trans h) (by decide))).symm.trans hF
    have f1 : vx.toInt < 0 ∨ (mu 4 6).toInt ≤ vx.toInt := f1
    refine lv_if_eq (tgt := 20) hx hb dX11_mark_8 (by decide) (fun _ => ?_) (fun c => absurd (by decide) c)
    refine lv_iconst (v := (-1)) hx hb dX11_mark_20 (by decide) ?_
    exact W.iret (v := (-1)) hx hb hr (fun t ht hW => ⟨⟨(-1), mu, rfl, ⟨hF.trans hfz.symm, ok, trivial, (fun _ _ _ => rfl)⟩, by first | (subst ht; exact hP) | (rw [ht]; exact hP) | (show va_P (dC, dI) vwCl (wR 157 ad (EX cs ad) mu) t.heap; rw [ht]; exact hP)⟩, hS.F ht⟩) hS.2.2 dX11_mark_21
