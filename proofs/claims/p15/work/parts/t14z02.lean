set_option maxHeartbeats 4000000 in
set_option maxRecDepth 100000 in
/-- qm_mark -/
theorem qm_mark (l : Launch) (dC : Nat → ClassId) (dI : Nat → Nat → Nat) (cs : Nat → ClassId) (ad : Nat → Nat) (mu : Nat → Nat → Int32) (ok : okR loM hiM mu) (H : Heap) (hP : va_P (dC, dI) vwCl (wR 21 ad (EM cs ad) mu) H) (hD0 : va_D (fun _ => True) (wR 21 ad (EM cs ad) mu)) (vx : Int32) (vd : Int32) : Met l yX12_mark (wU yX12_mark cX12_mark 6 (some .int)) ({ frames := 3, cells := 0, slots := 0, locals := 69 }) (va_Pc [.ref (ad 0), .int vx, .int vd] (sz_P (dC, dI) vwCl (tyM cs) H)) (va_Qi (fun (z : Int32) (xi : Nat → Nat → Int32) => (z, xi) = F_qm_mark mu vx vd ∧ okR loM hiM xi ∧ (True) ∧ (∀ k f : Nat, Nat.testBit 510 (gpM k f) = true → xi k f = mu k f)) (fun xi t => va_P (dC, dI) vwCl (wR 21 ad (EM cs ad) xi) t.heap) (va_A (wR 21 ad (EM cs ad) mu) H.size)) 0 0 (va_A (wR 21 ad (EM cs ad) mu) H.size) := by
  refine Met.ofW (cc := cX12_mark) (maxL := 6) (ret := (some .int)) (by decide) rfl ?_
  intro p e s m args below meth c s₁ B hml hv
  obtain ⟨rfl, hh, hK, hz⟩ := hv
  have hx := B.exec
  have hb := B.bytes
  have hr := B.returns
  have hts := atoms_spec (ws := (wU yX12_mark cX12_mark 6 (some .int))) B.pre
  have hown : s.vm.findClass RX12 = some m.cls := findClass_of_methodNamed B.named
  have hlocks := B.notSynchronized
  subst hh
  have hD := hD0.self (sz := s.heap.size)
  have hA : ∀ q : Nat, s.heap.size ≤ q → (va_A (wR 21 ad (EM cs ad) mu) s.heap.size) q := fun q h => Or.inr h
  have hS : va_S (va_A (wR 21 ad (EM cs ad) mu) s.heap.size) s.heap s.heap [] := va_S.rf
  have hl := lv_entry ([.ref (ad 0), .int vx, .int vd]) (n := 6) (Nat.le_of_ble_eq_true rfl)
  rw [lg_entry_eq]
  generalize (lg_sl ([.ref (ad 0), .int vx, .int vd]) ++ List.replicate (6 - (lg_sl ([.ref (ad 0), .int vx, .int vd])).length) Slot.unset).toArray = ls at hl ⊢
  have hl : lv_has ls 6 [(0, .ref (ad 0)), (1, .int vx), (2, .int vd)] := hl
  obtain ⟨fz, hfz⟩ : ∃ z, F_qm_mark mu vx vd = z := ⟨_, rfl⟩
  have hF := hfz
  unfold F_qm_mark at hF
  refine lv_aload_n hx hb dX12_mark_0 rfl (lv_at hl 0 rfl) ?_
  refine lv_iload_n hx hb dX12_mark_1 rfl (lv_at hl 1 rfl) ?_
  refine cr_i (va_runV (As := [.int vx]) (rest := []) ⟨hx, hb, hml, hown, hts⟩ (sm_isOne l dC dI cs ad mu ok s.heap hP vx) (cwV 1 hts (wU_V mw_6_40 mw_6_37 mw_6_39 mw_0_36 mw_1_13) rfl rfl rfl (by decide +kernel) ⟨Nat.le_of_ble_eq_true rfl, Nat.le_of_ble_eq_true rfl⟩) ⟨sz_c, va_recv hK hP (ci := 12) (q0 := 0) rfl (gM_0 cs ad mu), sz_m hK hz⟩ rfl rfl hl.1 rfl (lv_room (Nat.le_of_ble_eq_true rfl)) dX12_mark_2 ⟨Nat.zero_le _, Nat.zero_le _⟩) hS (fun r1 hw1 locs hS => ?_)
  obtain ⟨hfe1, hw1⟩ := hw1
  rcases hw1 with ⟨rfl, f1⟩ | ⟨rfl, f1⟩
  · have hF := (if_pos hfe1.symm).symm.trans hF
    have f1 : 0 ≤ vx.toInt ∧ vx.toInt < (mu 0 8).toInt ∧ (mu 0 8).toInt ≤ 7 := f1
    refine lv_if_eq (tgt := 17) hx hb dX12_mark_5 (by decide) (fun c => absurd c (by decide)) (fun _ => ?_)
    refine lv_iload_n hx hb dX12_mark_8 rfl (lv_at hl 2 rfl) ?_
    refine lv_iconst (v := 1) hx hb dX12_mark_9 (by decide) ?_
    refine lv_iconst (v := 5) hx hb dX12_mark_10 (by decide) ?_
    refine cr_i (va_runS (As := [.int vd, .int 1, .int 5]) (rest := []) ⟨hx, hb, hml, hown, hts⟩ (sm_in l dC dI (tyM cs) s.heap vd 1 5) (va_cwS 3 hts (wU_S mw_5_189 mw_5_187 mw_5_188 mw_1_13) rfl rfl rfl (by decide +kernel) ⟨Nat.le_of_ble_eq_true rfl, Nat.le_of_ble_eq_true rfl⟩) ⟨sz_c, sz_m hK hz⟩ rfl rfl hl.1 rfl (lv_room (Nat.le_of_ble_eq_true rfl)) dX12_mark_11 ⟨Nat.zero_le _, Nat.zero_le _⟩) hS (fun r2 hw2 locs hS => ?_)
    obtain ⟨hfe2, hw2⟩ := hw2
    rcases hw2 with ⟨rfl, f2⟩ | ⟨rfl, f2⟩
    · have hF := (if_pos hfe2.symm).symm.trans hF
      have f2 : (1 : Int) ≤ vd.toInt ∧ vd.toInt ≤ (5 : Int) := f2
      refine lv_if_ne (tgt := 19) hx hb dX12_mark_14 (by decide) (fun _ => ?_) (fun c => absurd c (by decide))
      refine lv_aload_n hx hb dX12_mark_19 rfl (lv_at hl 0 rfl) ?_
      refine lv_iload_n hx hb dX12_mark_20 rfl (lv_at hl 1 rfl) ?_
      refine lv_iload_n hx hb dX12_mark_21 rfl (lv_at hl 2 rfl) ?_
      refine cr_i (va_runV (As := [.int vx, .int vd]) (rest := []) ⟨hx, hb, hml, hown, hts⟩ (sm_isA l dC dI cs ad mu ok s.heap hP vx vd (by omega)) (cwV 2 hts (wU_V mw_6_70 mw_6_67 mw_6_69 mw_0_41 mw_1_13) rfl rfl rfl (by decide +kernel) ⟨Nat.le_of_ble_eq_true rfl, Nat.le_of_ble_eq_true rfl⟩) ⟨sz_c, va_recv hK hP (ci := 12) (q0 := 0) rfl (gM_0 cs ad mu), sz_m hK hz⟩ rfl rfl hl.1 rfl (lv_room (Nat.le_of_ble_eq_true rfl)) dX12_mark_22 ⟨Nat.zero_le _, Nat.zero_le _⟩) hS (fun r3 hw3 locs hS => ?_)
      obtain ⟨hfe3, hw3⟩ := hw3
      have hF := mi_let hF hfe3
      have gr3 : 0 ≤ r3.toInt ∧ r3.toInt ≤ 1 := hw3
      refine lv_if_ne (tgt := 34) hx hb dX12_mark_25 (by decide) (fun c_4 => ?_) (fun c_4 => ?_)
      · have hF := (if_neg c_4).symm.trans hF
        have c_4 : ¬ r3.toInt = 0 := il_ne c_4
        refine lv_iconst (v := 0) hx hb dX12_mark_34 (by decide) ?_
        refine lv_istore_n (lv' := [(3, .int 0), (0, .ref (ad 0)), (1, .int vx), (2, .int vd)]) hx hb dX12_mark_35 rfl hl (by decide) rfl (fun ls hl => ?_)
        refine lv_iconst (v := 0) hx hb dX12_mark_36 (by decide) ?_
        refine lv_istore (lv' := [(4, .int 0), (3, .int 0), (0, .ref (ad 0)), (1, .int vx), (2, .int vd)]) hx hb dX12_mark_37 hl (by decide) rfl (fun ls hl => ?_)
        refine lv_iconst (v := 0) hx hb dX12_mark_39 (by decide) ?_
        refine lv_istore (lv' := [(5, .int 0), (4, .int 0), (3, .int 0), (0, .ref (ad 0)), (1, .int vx), (2, .int vd)]) hx hb dX12_mark_40 hl (by decide) rfl (fun ls hl => ?_)
        have loop42 : ∀ (n42 : Nat) (v3_42 : Int32) (v4_42 : Int32) (v5_42 : Int32) (nu42_ : Nat → Nat → Int32) (H : Heap) (locs : List Loc) (ls : Array Slot), (4 + 1 - v5_42.toInt).toNat < n42 → (0 ≤ v5_42.toInt ∧ v5_42.toInt ≤ 4) → okR loM hiM nu42_ → va_P (dC, dI) vwCl (wR 21 ad (EM cs ad) nu42_) H → (∀ k f : Nat, Nat.testBit 510 (gpM k f) = true → nu42_ k f = mu k f) → L_qm_mark_42_0 vd vx n42 v3_42 v4_42 v5_42 nu42_ = fz → va_S (va_A (wR 21 ad (EM cs ad) mu) s.heap.size) s.heap H locs → lv_has ls 6 [(5, .int v5_42), (4, .int v4_42), (3, .int v3_42), (0, .ref (ad 0)), (1, .int vx), (2, .int vd)] → W p l e (headSpec (wU yX12_mark cX12_mark 6 (some .int)) ({ frames := 3, cells := 0, slots := 0, locals := 69 })).room s m ([.ref (ad 0), .int vx, .int vd] : List Value).toArray below meth c H locs 0 0 (MQ below (va_Qi (fun (z : Int32) (xi : Nat → Nat → Int32) => (z, xi) = F_qm_mark mu vx vd ∧ okR loM hiM xi ∧ (True) ∧ (∀ k f : Nat, Nat.testBit 510 (gpM k f) = true → xi k f = mu k f)) (fun xi t => va_P (dC, dI) vwCl (wR 21 ad (EM cs ad) xi) t.heap) (va_A (wR 21 ad (EM cs ad) mu) s.heap.size)) ([.ref (ad 0), .int vx, .int vd] : List Value).toArray s 0 0 (va_A (wR 21 ad (EM cs ad) mu) s.heap.size)) (F0 m 42 ls []) := by
          intro n42
          induction n42 with
          | zero => intro v3_42 v4_42 v5_42 nu42_ H locs ls hm; exact absurd hm (Nat.not_lt_zero _)
          | succ n42 ih42 =>
            intro v3_42 v4_42 v5_42 nu42_ H locs ls hm h_v5_42 ok hP kq42_0 hF hS hl
            rw [L_qm_mark_42_0] at hF
            refine lv_iload hx hb dX12_mark_42 (lv_at hl 0 rfl) ?_
            refine lv_aload_n hx hb dX12_mark_44 rfl (lv_at hl 3 rfl) ?_
            refine va_get (D := (dC, dI)) (ci := 12) (v := .int (nu42_ 0 15)) (C := RX12) (T := TX12) (N := 46) hx hb hts inG12 hown hK hP 0 (gM_0 cs ad nu42_) rfl 15 (by decide) (hts _ (List.mem_cons_of_mem _ mw_5_56)) (fun _ h9 => h9) rfl dX12_mark_45 ?_
            refine lv_topi (fun y5 ey5 => ?_)
            have hF := mi_let hF ey5
            have by5 : y5.toInt = (nu42_ 0 15).toInt := congrArg Int32.toInt ey5
            have gy5 : 0 ≤ y5.toInt ∧ y5.toInt ≤ 4 := by rw [ey5]; exact rM_0_15 ok
            refine lv_icmp_ge (tgt := 122) hx hb dX12_mark_48 (by decide) (fun c_6 => ?_) (fun c_6 => ?_)
            · have hF := (if_pos c_6).symm.trans hF
              have c_6 : y5.toInt ≤ v5_42.toInt := il_le c_6
              refine lv_iload_n hx hb dX12_mark_122 rfl (lv_at hl 5 rfl) ?_
              by_cases w7 : vd.toInt < 1 ∨ 4 < vd.toInt
              · refine lv_tableOut (tgt := 177) hx hb dX12_mark_123 w7 (by decide) ?_
                have hF := (if_pos w7).symm.trans hF
                refine lv_iload hx hb dX12_mark_177 (lv_at hl 1 rfl) ?_
                exact W.iret (v := v4_42) hx hb hr (fun t ht hW => ⟨⟨v4_42, nu42_, rfl, ⟨hF.trans hfz.symm, ok, trivial, kq42_0⟩, by first | (subst ht; exact hP) | (rw [ht]; exact hP) | (show va_P (dC, dI) vwCl (wR 21 ad (EM cs ad) nu42_) t.heap; rw [ht]; exact hP)⟩, hS.F ht⟩) hS.2.2 dX12_mark_179
              have hF := (if_neg w7).symm.trans hF
              by_cases w7_1 : vd.toInt = 1
              · refine lv_tableIn (off := 29) (tgt := 152) hx hb dX12_mark_123 (by omega) (by omega) (by rw [w7_1]; rfl) (by decide) ?_
                have hF := (if_pos w7_1).symm.trans hF
                refine lv_aload_n hx hb dX12_mark_152 rfl (lv_at hl 3 rfl) ?_
                refine lv_iload_n hx hb dX12_mark_153 rfl (lv_at hl 4 rfl) ?_
                refine lv_iconst (v := 0) hx hb dX12_mark_154 (by decide) ?_
                refine cr_i (va_runV (As := [.int vx, .int 0]) (rest := []) ⟨hx, hb, hml, hown, hts⟩ (sm_asksOf l dC dI cs ad nu42_ ok H hP vx 0 (by have h51 : (0 : Int32).toInt = 0 := rfl; omega)) (cwV 2 hts (wU_V mw_6_74 mw_6_71 mw_6_73 mw_0_42 mw_1_13) rfl rfl rfl (by decide +kernel) ⟨Nat.le_of_ble_eq_true rfl, Nat.le_of_ble_eq_true rfl⟩) ⟨sz_c, va_recv hK hP (ci := 12) (q0 := 0) rfl (gM_0 cs ad nu42_), sz_m hK hz⟩ rfl rfl hl.1 rfl (lv_room (Nat.le_of_ble_eq_true rfl)) dX12_mark_155 ⟨Nat.zero_le _, Nat.zero_le _⟩) hS (fun r8 hw8 locs hS => ?_)
                obtain ⟨hfe8, hw8⟩ := hw8
                have hF := mi_let hF hfe8
                refine lv_iconst (v := 1) hx hb dX12_mark_158 (by decide) ?_
                refine lv_isub hx hb dX12_mark_159 ?_
                refine lv_topi (fun t9 et9 => ?_)
                have hF := mi_let hF et9
                exact W.iret (v := t9) hx hb hr (fun t ht hW => ⟨⟨t9, nu42_, rfl, ⟨hF.trans hfz.symm, ok, trivial, kq42_0⟩, by first | (subst ht; exact hP) | (rw [ht]; exact hP) | (show va_P (dC, dI) vwCl (wR 21 ad (EM cs ad) nu42_) t.heap; rw [ht]; exact hP)⟩, hS.F ht⟩) hS.2.2 dX12_mark_160
              have hF := (if_neg w7_1).symm.trans hF
              by_cases w7_2 : vd.toInt = 2
              · refine lv_tableIn (off := 38) (tgt := 161) hx hb dX12_mark_123 (by omega) (by omega) (by rw [w7_2]; rfl) (by decide) ?_
                have hF := (if_pos w7_2).symm.trans hF
                refine lv_aload_n hx hb dX12_mark_161 rfl (lv_at hl 3 rfl) ?_
                refine lv_iload_n hx hb dX12_mark_162 rfl (lv_at hl 4 rfl) ?_
                refine cr_i (va_runV (As := [.int vx]) (rest := []) ⟨hx, hb, hml, hown, hts⟩ (sm_friendsBeside l dC dI cs ad nu42_ ok H hP vx) (cwV 1 hts (wU_V mw_6_78 mw_6_75 mw_6_77 mw_0_43 mw_1_13) rfl rfl rfl (by decide +kernel) ⟨Nat.le_of_ble_eq_true rfl, Nat.le_of_ble_eq_true rfl⟩) ⟨sz_c, va_recv hK hP (ci := 12) (q0 := 0) rfl (gM_0 cs ad nu42_), sz_m hK hz⟩ rfl rfl hl.1 rfl (lv_room (Nat.le_of_ble_eq_true rfl)) dX12_mark_163 ⟨Nat.zero_le _, Nat.zero_le _⟩) hS (fun r10 hw10 locs hS => ?_)
                obtain ⟨hfe10, hw10⟩ := hw10
                have hF := mi_let hF hfe10
                exact W.iret (v := r10) hx hb hr (fun t ht hW => ⟨⟨r10, nu42_, rfl, ⟨hF.trans hfz.symm, ok, trivial, kq42_0⟩, by first | (subst ht; exact hP) | (rw [ht]; exact hP) | (show va_P (dC, dI) vwCl (wR 21 ad (EM cs ad) nu42_) t.heap; rw [ht]; exact hP)⟩, hS.F ht⟩) hS.2.2 dX12_mark_166
              have hF := (if_neg w7_2).symm.trans hF
              by_cases w7_3 : vd.toInt = 3
              · refine lv_tableIn (off := 44) (tgt := 167) hx hb dX12_mark_123 (by omega) (by omega) (by rw [w7_3]; rfl) (by decide) ?_
                have hF := (if_pos w7_3).symm.trans hF
                refine lv_iload_n hx hb dX12_mark_167 rfl (lv_at hl 2 rfl) ?_
                exact W.iret (v := v3_42) hx hb hr (fun t ht hW => ⟨⟨v3_42, nu42_, rfl, ⟨hF.trans hfz.symm, ok, trivial, kq42_0⟩, by first | (subst ht; exact hP) | (rw [ht]; exact hP) | (show va_P (dC, dI) vwCl (wR 21 ad (EM cs ad) nu42_) t.heap; rw [ht]; exact hP)⟩, hS.F ht⟩) hS.2.2 dX12_mark_168
              have hF := (if_neg w7_3).symm.trans hF
              have w7_4 : vd.toInt = 4 := by omega
              refine lv_tableIn (off := 46) (tgt := 169) hx hb dX12_mark_123 (by omega) (by omega) (by rw [w7_4]; rfl) (by decide) ?_
              refine lv_aload_n hx hb dX12_mark_169 rfl (lv_at hl 3 rfl) ?_
              refine lv_iload_n hx hb dX12_mark_170 rfl (lv_at hl 4 rfl) ?_
              refine lv_bipush (v := 10) hx hb dX12_mark_171 (by decide) ?_
              refine cr_i (va_runV (As := [.int vx, .int 10]) (rest := []) ⟨hx, hb, hml, hown, hts⟩ (sm_asksOf l dC dI cs ad nu42_ ok H hP vx 10 (by have h51 : (10 : Int32).toInt = 10 := rfl; omega)) (cwV 2 hts (wU_V mw_6_74 mw_6_71 mw_6_73 mw_0_42 mw_1_13) rfl rfl rfl (by decide +kernel) ⟨Nat.le_of_ble_eq_true rfl, Nat.le_of_ble_eq_true rfl⟩) ⟨sz_c, va_recv hK hP (ci := 12) (q0 := 0) rfl (gM_0 cs ad nu42_), sz_m hK hz⟩ rfl rfl hl.1 rfl (lv_room (Nat.le_of_ble_eq_true rfl)) dX12_mark_173 ⟨Nat.zero_le _, Nat.zero_le _⟩) hS (fun r11 hw11 locs hS => ?_)
              obtain ⟨hfe11, hw11⟩ := hw11
              have hF := mi_let hF hfe11
              exact W.iret (v := r11) hx hb hr (fun t ht hW => ⟨⟨r11, nu42_, rfl, ⟨hF.trans hfz.symm, ok, trivial, kq42_0⟩, by first | (subst ht; exact hP) | (rw [ht]; exact hP) | (show va_P (dC, dI) vwCl (wR 21 ad (EM cs ad) nu42_) t.heap; rw [ht]; exact hP)⟩, hS.F ht⟩) hS.2.2 dX12_mark_176
            · have hF := (if_neg c_6).symm.trans hF
              have c_6 : v5_42.toInt < y5.toInt := il_nle c_6
              refine lv_iload_n hx hb dX12_mark_51 rfl (lv_at hl 2 rfl) ?_
              refine lv_aload_n hx hb dX12_mark_52 rfl (lv_at hl 3 rfl) ?_
              refine lv_iload hx hb dX12_mark_53 (lv_at hl 0 rfl) ?_
              refine lv_iconst (v := 1) hx hb dX12_mark_55 (by decide) ?_
              refine cr_i (va_runV (As := [.int v5_42, .int 1]) (rest := [.int v3_42]) ⟨hx, hb, hml, hown, hts⟩ (sm_letterOf l dC dI cs ad nu42_ ok H hP v5_42 1 (by have h51 : (1 : Int32).toInt = 1 := rfl; omega)) (cwV 2 hts (wU_V mw_6_48 mw_6_45 mw_6_47 mw_0_38 mw_1_13) rfl rfl rfl (by decide +kernel) ⟨Nat.le_of_ble_eq_true rfl, Nat.le_of_ble_eq_true rfl⟩) ⟨sz_c, va_recv hK hP (ci := 12) (q0 := 0) rfl (gM_0 cs ad nu42_), sz_m hK hz⟩ rfl rfl hl.1 rfl (lv_room (Nat.le_of_ble_eq_true rfl)) dX12_mark_56 ⟨Nat.zero_le _, Nat.zero_le _⟩) hS (fun r12 hw12 locs hS => ?_)
              obtain ⟨hfe12, hw12⟩ := hw12
              have hF := mi_let hF hfe12
              refine lv_iload_n hx hb dX12_mark_59 rfl (lv_at hl 4 rfl) ?_
              refine lv_icmp_ne (tgt := 76) hx hb dX12_mark_60 (by decide) (fun c_13 => ?_) (fun c_13 => ?_)
              · have hF := (if_neg c_13).symm.trans hF
                have c_13 : ¬ r12.toInt = vx.toInt := il_ne c_13
                refine lv_iconst (v := 0) hx hb dX12_mark_76 (by decide) ?_
                refine lv_iadd hx hb dX12_mark_77 ?_
                refine lv_topi (fun t14 et14 => ?_)
                have hF := mi_let hF et14
                refine lv_istore_n (lv' := [(3, .int t14), (5, .int v5_42), (4, .int v4_42), (0, .ref (ad 0)), (1, .int vx), (2, .int vd)]) hx hb dX12_mark_78 rfl hl (by decide) rfl (fun ls hl => ?_)
                refine lv_iload hx hb dX12_mark_79 (lv_at hl 2 rfl) ?_
                refine lv_aload_n hx hb dX12_mark_81 rfl (lv_at hl 3 rfl) ?_
                refine lv_iload hx hb dX12_mark_82 (lv_at hl 1 rfl) ?_
                refine lv_iconst (v := 5) hx hb dX12_mark_84 (by decide) ?_
                refine cr_i (va_runV (As := [.int v5_42, .int 5]) (rest := [.int v4_42]) ⟨hx, hb, hml, hown, hts⟩ (sm_letterOf5 l dC dI cs ad nu42_ ok H hP v5_42 (by have h51 : (5 : Int32).toInt = 5 := rfl; omega)) (cwV 2 hts (wU_V mw_6_48 mw_6_45 mw_6_47 mw_0_38 mw_1_13) rfl rfl rfl (by decide +kernel) ⟨Nat.le_of_ble_eq_true rfl, Nat.le_of_ble_eq_true rfl⟩) ⟨sz_c, va_recv hK hP (ci := 12) (q0 := 0) rfl (gM_0 cs ad nu42_), sz_m hK hz⟩ rfl rfl hl.1 rfl (lv_room (Nat.le_of_ble_eq_true rfl)) dX12_mark_85 ⟨Nat.zero_le _, Nat.zero_le _⟩) hS (fun r15 hw15 locs hS => ?_)
                obtain ⟨hfe15, hw15⟩ := hw15
                have hF := mi_let hF hfe15
                have gr15 : 0 ≤ r15.toInt ∧ r15.toInt ≤ 6 := hw15
                refine lv_iload_n hx hb dX12_mark_88 rfl (lv_at hl 4 rfl) ?_
                refine lv_icmp_ne (tgt := 112) hx hb dX12_mark_89 (by decide) (fun c_16 => ?_) (fun c_16 => ?_)
                · have hF := (if_neg c_16).symm.trans hF
                  have c_16 : ¬ r15.toInt = vx.toInt := il_ne c_16
                  refine lv_iconst (v := 0) hx hb dX12_mark_112 (by decide) ?_
                  refine lv_iadd hx hb dX12_mark_113 ?_
                  refine lv_topi (fun t17 et17 => ?_)
                  have hF := mi_let hF et17
                  refine lv_istore (lv' := [(4, .int t17), (3, .int t14), (5, .int v5_42), (0, .ref (ad 0)), (1, .int vx), (2, .int vd)]) hx hb dX12_mark_114 hl (by decide) rfl (fun ls hl => ?_)
                  refine lv_iinc (v := (v5_42 + 1)) (lv' := [(5, .int (v5_42 + 1)), (4, .int t17), (3, .int t14), (0, .ref (ad 0)), (1, .int vx), (2, .int vd)]) hx hb dX12_mark_116 hl (k := 2) rfl rfl (by decide) rfl (fun ls hl => ?_)
                  refine loc_gen (P := fun w9 => lv_has ls 6 [(5, .int w9), (4, .int t17), (3, .int t14), (0, .ref (ad 0)), (1, .int vx), (2, .int vd)]) (v5_42 + 1) hl (fun w18 hw18 hl => ?_)
                  have hl : lv_has ls 6 [(5, .int w18), (4, .int t17), (3, .int t14), (0, .ref (ad 0)), (1, .int vx), (2, .int vd)] := hl
                  have hF := mi_let hF hw18.symm
                  have aw18 : w18.toInt = v5_42.toInt + 1 := by rw [← hw18]; exact tI_add (rfl : v5_42.toInt = _) (rfl : (1 : Int32).toInt = 1) (by omega) (by omega)
                  refine lv_goto (tgt := 42) hx hb dX12_mark_119 (by decide) ?_
                  exact ih42 (t14) (t17) (w18) nu42_ _ _ _ (by omega) (by exact ⟨by omega, by omega⟩)  ok hP  kq42_0 hF hS (lv_sub hl [0, 1, 2, 3, 4, 5] rfl)
                · have hF := (if_pos c_16).symm.trans hF
                  have c_16 : r15.toInt = vx.toInt := il_eq c_16
                  refine lv_aload_n hx hb dX12_mark_92 rfl (lv_at hl 3 rfl) ?_
                  refine lv_iload hx hb dX12_mark_93 (lv_at hl 1 rfl) ?_
                  refine cr_i (va_runV (As := [.int v5_42]) (rest := [.int v4_42]) ⟨hx, hb, hml, hown, hts⟩ (sm_isRead l dC dI cs ad nu42_ ok H hP v5_42 (by omega)) (cwV 1 hts (wU_V mw_6_52 mw_6_49 mw_6_51 mw_0_39 mw_1_13) rfl rfl rfl (by decide +kernel) ⟨Nat.le_of_ble_eq_true rfl, Nat.le_of_ble_eq_true rfl⟩) ⟨sz_c, va_recv hK hP (ci := 12) (q0 := 0) rfl (gM_0 cs ad nu42_), sz_m hK hz⟩ rfl rfl hl.1 rfl (lv_room (Nat.le_of_ble_eq_true rfl)) dX12_mark_95 ⟨Nat.zero_le _, Nat.zero_le _⟩) hS (fun r19 hw19 locs hS => ?_)
                  obtain ⟨hfe19, hw19⟩ := hw19
                  have hF := mi_let hF hfe19
                  have gr19 : 0 ≤ r19.toInt ∧ r19.toInt ≤ 1 := hw19
                  refine lv_if_ne (tgt := 112) hx hb dX12_mark_98 (by decide) (fun c_20 => ?_) (fun c_20 => ?_)
                  · have hF := (if_neg c_20).symm.trans hF
                    have c_20 : ¬ r19.toInt = 0 := il_ne c_20
                    refine lv_iconst (v := 0) hx hb dX12_mark_112 (by decide) ?_
                    refine lv_iadd hx hb dX12_mark_113 ?_
                    refine lv_topi (fun t21 et21 => ?_)
                    have hF := mi_let hF et21
                    refine lv_istore (lv' := [(4, .int t21), (3, .int t14), (5, .int v5_42), (0, .ref (ad 0)), (1, .int vx), (2, .int vd)]) hx hb dX12_mark_114 hl (by decide) rfl (fun ls hl => ?_)
                    refine lv_iinc (v := (v5_42 + 1)) (lv' := [(5, .int (v5_42 + 1)), (4, .int t21), (3, .int t14), (0, .ref (ad 0)), (1, .int vx), (2, .int vd)]) hx hb dX12_mark_116 hl (k := 2) rfl rfl (by decide) rfl (fun ls hl => ?_)
                    refine loc_gen (P := fun w9 => lv_has ls 6 [(5, .int w9), (4, .int t21), (3, .int t14), (0, .ref (ad 0)), (1, .int vx), (2, .int vd)]) (v5_42 + 1) hl (fun w22 hw22 hl => ?_)
                    have hl : lv_has ls 6 [(5, .int w22), (4, .int t21), (3, .int t14), (0, .ref (ad 0)), (1, .int vx), (2, .int vd)] := hl
                    have hF := mi_let hF hw22.symm
                    have aw22 : w22.toInt = v5_42.toInt + 1 := by rw [← hw22]; exact tI_add (rfl : v5_42.toInt = _) (rfl : (1 : Int32).toInt = 1) (by omega) (by omega)
                    refine lv_goto (tgt := 42) hx hb dX12_mark_119 (by decide) ?_
                    exact ih42 (t14) (t21) (w22) nu42_ _ _ _ (by omega) (by exact ⟨by omega, by omega⟩)  ok hP  kq42_0 hF hS (lv_sub hl [0, 1, 2, 3, 4, 5] rfl)
                  · have hF := (if_pos c_20).symm.trans hF
                    have c_20 : r19.toInt = 0 := il_eq c_20
                    refine lv_aload_n hx hb dX12_mark_101 rfl (lv_at hl 3 rfl) ?_
                    refine lv_iload hx hb dX12_mark_102 (lv_at hl 1 rfl) ?_
                    refine lv_bipush (v := 6) hx hb dX12_mark_104 (by decide) ?_
                    refine cr_i (va_runV (As := [.int v5_42, .int 6]) (rest := [.int v4_42]) ⟨hx, hb, hml, hown, hts⟩ (sm_letterOf l dC dI cs ad nu42_ ok H hP v5_42 6 (by have h51 : (6 : Int32).toInt = 6 := rfl; omega)) (cwV 2 hts (wU_V mw_6_48 mw_6_45 mw_6_47 mw_0_38 mw_1_13) rfl rfl rfl (by decide +kernel) ⟨Nat.le_of_ble_eq_true rfl, Nat.le_of_ble_eq_true rfl⟩) ⟨sz_c, va_recv hK hP (ci := 12) (q0 := 0) rfl (gM_0 cs ad nu42_), sz_m hK hz⟩ rfl rfl hl.1 rfl (lv_room (Nat.le_of_ble_eq_true rfl)) dX12_mark_106 ⟨Nat.zero_le _, Nat.zero_le _⟩) hS (fun r23 hw23 locs hS => ?_)
                    obtain ⟨hfe23, hw23⟩ := hw23
                    have hF := mi_let hF hfe23
                    refine lv_goto (tgt := 113) hx hb dX12_mark_109 (by decide) ?_
                    refine lv_iadd hx hb dX12_mark_113 ?_
                    refine lv_topi (fun t24 et24 => ?_)
                    have hF := mi_let hF et24
                    refine lv_istore (lv' := [(4, .int t24), (3, .int t14), (5, .int v5_42), (0, .ref (ad 0)), (1, .int vx), (2, .int vd)]) hx hb dX12_mark_114 hl (by decide) rfl (fun ls hl => ?_)
                    refine lv_iinc (v := (v5_42 + 1)) (lv' := [(5, .int (v5_42 + 1)), (4, .int t24), (3, .int t14), (0, .ref (ad 0)), (1, .int vx), (2, .int vd)]) hx hb dX12_mark_116 hl (k := 2) rfl rfl (by decide) rfl (fun ls hl => ?_)
                    refine loc_gen (P := fun w9 => lv_has ls 6 [(5, .int w9), (4, .int t24), (3, .int t14), (0, .ref (ad 0)), (1, .int vx), (2, .int vd)]) (v5_42 + 1) hl (fun w25 hw25 hl => ?_)
                    have hl : lv_has ls 6 [(5, .int w25), (4, .int t24), (3, .int t14), (0, .ref (ad 0)), (1, .int vx), (2, .int vd)] := hl
                    have hF := mi_let hF hw25.symm
                    have aw25 : w25.toInt = v5_42.toInt + 1 := by rw [← hw25]; exact tI_add (rfl : v5_42.toInt = _) (rfl : (1 : Int32).toInt = 1) (by omega) (by omega)
                    refine lv_goto (tgt := 42) hx hb dX12_mark_119 (by decide) ?_
                    exact ih42 (t14) (t24) (w25) nu42_ _ _ _ (by omega) (by exact ⟨by omega, by omega⟩)  ok hP  kq42_0 hF hS (lv_sub hl [0, 1, 2, 3, 4, 5] rfl)
              · have hF := (if_pos c_13).symm.trans hF
                have c_13 : r12.toInt = vx.toInt := il_eq c_13
                refine lv_aload_n hx hb dX12_mark_63 rfl (lv_at hl 3 rfl) ?_
                refine lv_iload hx hb dX12_mark_64 (lv_at hl 0 rfl) ?_
                refine cr_i (va_runV (As := [.int v5_42]) (rest := [.int v3_42]) ⟨hx, hb, hml, hown, hts⟩ (sm_isRead l dC dI cs ad nu42_ ok H hP v5_42 (by omega)) (cwV 1 hts (wU_V mw_6_52 mw_6_49 mw_6_51 mw_0_39 mw_1_13) rfl rfl rfl (by decide +kernel) ⟨Nat.le_of_ble_eq_true rfl, Nat.le_of_ble_eq_true rfl⟩) ⟨sz_c, va_recv hK hP (ci := 12) (q0 := 0) rfl (gM_0 cs ad nu42_), sz_m hK hz⟩ rfl rfl hl.1 rfl (lv_room (Nat.le_of_ble_eq_true rfl)) dX12_mark_66 ⟨Nat.zero_le _, Nat.zero_le _⟩) hS (fun r26 hw26 locs hS => ?_)
                obtain ⟨hfe26, hw26⟩ := hw26
                have hF := mi_let hF hfe26
                have gr26 : 0 ≤ r26.toInt ∧ r26.toInt ≤ 1 := hw26
                refine lv_if_ne (tgt := 76) hx hb dX12_mark_69 (by decide) (fun c_27 => ?_) (fun c_27 => ?_)
                · have hF := (if_neg c_27).symm.trans hF
                  have c_27 : ¬ r26.toInt = 0 := il_ne c_27
                  refine lv_iconst (v := 0) hx hb dX12_mark_76 (by decide) ?_
                  refine lv_iadd hx hb dX12_mark_77 ?_
                  refine lv_topi (fun t28 et28 => ?_)
                  have hF := mi_let hF et28
                  refine lv_istore_n (lv' := [(3, .int t28), (5, .int v5_42), (4, .int v4_42), (0, .ref (ad 0)), (1, .int vx), (2, .int vd)]) hx hb dX12_mark_78 rfl hl (by decide) rfl (fun ls hl => ?_)
                  refine lv_iload hx hb dX12_mark_79 (lv_at hl 2 rfl) ?_
                  refine lv_aload_n hx hb dX12_mark_81 rfl (lv_at hl 3 rfl) ?_
                  refine lv_iload hx hb dX12_mark_82 (lv_at hl 1 rfl) ?_
                  refine lv_iconst (v := 5) hx hb dX12_mark_84 (by decide) ?_
                  refine cr_i (va_runV (As := [.int v5_42, .int 5]) (rest := [.int v4_42]) ⟨hx, hb, hml, hown, hts⟩ (sm_letterOf5 l dC dI cs ad nu42_ ok H hP v5_42 (by have h51 : (5 : Int32).toInt = 5 := rfl; omega)) (cwV 2 hts (wU_V mw_6_48 mw_6_45 mw_6_47 mw_0_38 mw_1_13) rfl rfl rfl (by decide +kernel) ⟨Nat.le_of_ble_eq_true rfl, Nat.le_of_ble_eq_true rfl⟩) ⟨sz_c, va_recv hK hP (ci := 12) (q0 := 0) rfl (gM_0 cs ad nu42_), sz_m hK hz⟩ rfl rfl hl.1 rfl (lv_room (Nat.le_of_ble_eq_true rfl)) dX12_mark_85 ⟨Nat.zero_le _, Nat.zero_le _⟩) hS (fun r29 hw29 locs hS => ?_)
                  obtain ⟨hfe29, hw29⟩ := hw29
                  have hF := mi_let hF hfe29
                  have gr29 : 0 ≤ r29.toInt ∧ r29.toInt ≤ 6 := hw29
                  refine lv_iload_n hx hb dX12_mark_88 rfl (lv_at hl 4 rfl) ?_
                  refine lv_icmp_ne (tgt := 112) hx hb dX12_mark_89 (by decide) (fun c_30 => ?_) (fun c_30 => ?_)
                  · have hF := (if_neg c_30).symm.trans hF
                    have c_30 : ¬ r29.toInt = vx.toInt := il_ne c_30
                    refine lv_iconst (v := 0) hx hb dX12_mark_112 (by decide) ?_
                    refine lv_iadd hx hb dX12_mark_113 ?_
                    refine lv_topi (fun t31 et31 => ?_)
                    have hF := mi_let hF et31
                    refine lv_istore (lv' := [(4, .int t31), (3, .int t28), (5, .int v5_42), (0, .ref (ad 0)), (1, .int vx), (2, .int vd)]) hx hb dX12_mark_114 hl (by decide) rfl (fun ls hl => ?_)
                    refine lv_iinc (v := (v5_42 + 1)) (lv' := [(5, .int (v5_42 + 1)), (4, .int t31), (3, .int t28), (0, .ref (ad 0)), (1, .int vx), (2, .int vd)]) hx hb dX12_mark_116 hl (k := 2) rfl rfl (by decide) rfl (fun ls hl => ?_)
                    refine loc_gen (P := fun w9 => lv_has ls 6 [(5, .int w9), (4, .int t31), (3, .int t28), (0, .ref (ad 0)), (1, .int vx), (2, .int vd)]) (v5_42 + 1) hl (fun w32 hw32 hl => ?_)
                    have hl : lv_has ls 6 [(5, .int w32), (4, .int t31), (3, .int t28), (0, .ref (ad 0)), (1, .int vx), (2, .int vd)] := hl
                    have hF := mi_let hF hw32.symm
                    have aw32 : w32.toInt = v5_42.toInt + 1 := by rw [← hw32]; exact tI_add (rfl : v5_42.toInt = _) (rfl : (1 : Int32).toInt = 1) (by omega) (by omega)
                    refine lv_goto (tgt := 42) hx hb dX12_mark_119 (by decide) ?_
                    exact ih42 (t28) (t31) (w32) nu42_ _ _ _ (by omega) (by exact ⟨by omega, by omega⟩)  ok hP  kq42_0 hF hS (lv_sub hl [0, 1, 2, 3, 4, 5] rfl)
                  · have hF := (if_pos c_30).symm.trans hF
                    have c_30 : r29.toInt = vx.toInt := il_eq c_30
                    refine lv_aload_n hx hb dX12_mark_92 rfl (lv_at hl 3 rfl) ?_
                    refine lv_iload hx hb dX12_mark_93 (lv_at hl 1 rfl) ?_
                    refine cr_i (va_runV (As := [.int v5_42]) (rest := [.int v4_42]) ⟨hx, hb, hml, hown, hts⟩ (sm_isRead l dC dI cs ad nu42_ ok H hP v5_42 (by omega)) (cwV 1 hts (wU_V mw_6_52 mw_6_49 mw_6_51 mw_0_39 mw_1_13) rfl rfl rfl (by decide +kernel) ⟨Nat.le_of_ble_eq_true rfl, Nat.le_of_ble_eq_true rfl⟩) ⟨sz_c, va_recv hK hP (ci := 12) (q0 := 0) rfl (gM_0 cs ad nu42_), sz_m hK hz⟩ rfl rfl hl.1 rfl (lv_room (Nat.le_of_ble_eq_true rfl)) dX12_mark_95 ⟨Nat.zero_le _, Nat.zero_le _⟩) hS (fun r33 hw33 locs hS => ?_)
                    obtain ⟨hfe33, hw33⟩ := hw33
                    have hF := mi_let hF hfe33
                    have gr33 : 0 ≤ r33.toInt ∧ r33.toInt ≤ 1 := hw33
                    refine lv_if_ne (tgt := 112) hx hb dX12_mark_98 (by decide) (fun c_34 => ?_) (fun c_34 => ?_)
                    · have hF := (if_neg c_34).symm.trans hF
                      have c_34 : ¬ r33.toInt = 0 := il_ne c_34
                      refine lv_iconst (v := 0) hx hb dX12_mark_112 (by decide) ?_
                      refine lv_iadd hx hb dX12_mark_113 ?_
                      refine lv_topi (fun t35 et35 => ?_)
                      have hF := mi_let hF et35
                      refine lv_istore (lv' := [(4, .int t35), (3, .int t28), (5, .int v5_42), (0, .ref (ad 0)), (1, .int vx), (2, .int vd)]) hx hb dX12_mark_114 hl (by decide) rfl (fun ls hl => ?_)
                      refine lv_iinc (v := (v5_42 + 1)) (lv' := [(5, .int (v5_42 + 1)), (4, .int t35), (3, .int t28), (0, .ref (ad 0)), (1, .int vx), (2, .int vd)]) hx hb dX12_mark_116 hl (k := 2) rfl rfl (by decide) rfl (fun ls hl => ?_)
                      refine loc_gen (P := fun w9 => lv_has ls 6 [(5, .int w9), (4, .int t35), (3, .int t28), (0, .ref (ad 0)), (1, .int vx), (2, .int vd)]) (v5_42 + 1) hl (fun w36 hw36 hl => ?_)
                      have hl : lv_has ls 6 [(5, .int w36), (4, .int t35), (3, .int t28), (0, .ref (ad 0)), (1, .int vx), (2, .int vd)] := hl
                      have hF := mi_let hF hw36.symm
                      have aw36 : w36.toInt = v5_42.toInt + 1 := by rw [← hw36]; exact tI_add (rfl : v5_42.toInt = _) (rfl : (1 : Int32).toInt = 1) (by omega) (by omega)
                      refine lv_goto (tgt := 42) hx hb dX12_mark_119 (by decide) ?_
                      exact ih42 (t28) (t35) (w36) nu42_ _ _ _ (by omega) (by exact ⟨by omega, by omega⟩)  ok hP  kq42_0 hF hS (lv_sub hl [0, 1, 2, 3, 4, 5] rfl)
                    · have hF := (if_pos c_34).symm.trans hF
                      have c_34 : r33.toInt = 0 := il_eq c_34
                      refine lv_aload_n hx hb dX12_mark_101 rfl (lv_at hl 3 rfl) ?_
                      refine lv_iload hx hb dX12_mark_102 (lv_at hl 1 rfl) ?_
                      refine lv_bipush (v := 6) hx hb dX12_mark_104 (by decide) ?_
                      refine cr_i (va_runV (As := [.int v5_42, .int 6]) (rest := [.int v4_42]) ⟨hx, hb, hml, hown, hts⟩ (sm_letterOf l dC dI cs ad nu42_ ok H hP v5_42 6 (by have h51 : (6 : Int32).toInt = 6 := rfl; omega)) (cwV 2 hts (wU_V mw_6_48 mw_6_45 mw_6_47 mw_0_38 mw_1_13) rfl rfl rfl (by decide +kernel) ⟨Nat.le_of_ble_eq_true rfl, Nat.le_of_ble_eq_true rfl⟩) ⟨sz_c, va_recv hK hP (ci := 12) (q0 := 0) rfl (gM_0 cs ad nu42_), sz_m hK hz⟩ rfl rfl hl.1 rfl (lv_room (Nat.le_of_ble_eq_true rfl)) dX12_mark_106 ⟨Nat.zero_le _, Nat.zero_le _⟩) hS (fun r37 hw37 locs hS => ?_)
                      obtain ⟨hfe37, hw37⟩ := hw37
                      have hF := mi_let hF hfe37
                      refine lv_goto (tgt := 113) hx hb dX12_mark_109 (by decide) ?_
                      refine lv_iadd hx hb dX12_mark_113 ?_
                      refine lv_topi (fun t38 et38 => ?_)
                      have hF := mi_let hF et38
                      refine lv_istore (lv' := [(4, .int t38), (3, .int t28), (5, .int v5_42), (0, .ref (ad 0)), (1, .int vx), (2, .int vd)]) hx hb dX12_mark_114 hl (by decide) rfl (fun ls hl => ?_)
                      refine lv_iinc (v := (v5_42 + 1)) (lv' := [(5, .int (v5_42 + 1)), (4, .int t38), (3, .int t28), (0, .ref (ad 0)), (1, .int vx), (2, .int vd)]) hx hb dX12_mark_116 hl (k := 2) rfl rfl (by decide) rfl (fun ls hl => ?_)
                      refine loc_gen (P := fun w9 => lv_has ls 6 [(5, .int w9), (4, .int t38), (3, .int t28), (0, .ref (ad 0)), (1, .int vx), (2, .int vd)]) (v5_42 + 1) hl (fun w39 hw39 hl => ?_)
                      have hl : lv_has ls 6 [(5, .int w39), (4, .int t38), (3, .int t28), (0, .ref (ad 0)), (1, .int vx), (2, .int vd)] := hl
                      have hF := mi_let hF hw39.symm
                      have aw39 : w39.toInt = v5_42.toInt + 1 := by rw [← hw39]; exact tI_add (rfl : v5_42.toInt = _) (rfl : (1 : Int32).toInt = 1) (by omega) (by omega)
                      refine lv_goto (tgt := 42) hx hb dX12_mark_119 (by decide) ?_
                      exact ih42 (t28) (t38) (w39) nu42_ _ _ _ (by omega) (by exact ⟨by omega, by omega⟩)  ok hP  kq42_0 hF hS (lv_sub hl [0, 1, 2, 3, 4, 5] rfl)
                · have hF := (if_pos c_27).symm.trans hF
                  have c_27 : r26.toInt = 0 := il_eq c_27
                  refine lv_iconst (v := 1) hx hb dX12_mark_72 (by decide) ?_
                  refine lv_goto (tgt := 77) hx hb dX12_mark_73 (by decide) ?_
                  refine lv_iadd hx hb dX12_mark_77 ?_
                  refine lv_topi (fun t40 et40 => ?_)
                  have hF := mi_let hF et40
                  refine lv_istore_n (lv' := [(3, .int t40), (5, .int v5_42), (4, .int v4_42), (0, .ref (ad 0)), (1, .int vx), (2, .int vd)]) hx hb dX12_mark_78 rfl hl (by decide) rfl (fun ls hl => ?_)
                  refine lv_iload hx hb dX12_mark_79 (lv_at hl 2 rfl) ?_
                  refine lv_aload_n hx hb dX12_mark_81 rfl (lv_at hl 3 rfl) ?_
                  refine lv_iload hx hb dX12_mark_82 (lv_at hl 1 rfl) ?_
                  refine lv_iconst (v := 5) hx hb dX12_mark_84 (by decide) ?_
                  refine cr_i (va_runV (As := [.int v5_42, .int 5]) (rest := [.int v4_42]) ⟨hx, hb, hml, hown, hts⟩ (sm_letterOf5 l dC dI cs ad nu42_ ok H hP v5_42 (by have h51 : (5 : Int32).toInt = 5 := rfl; omega)) (cwV 2 hts (wU_V mw_6_48 mw_6_45 mw_6_47 mw_0_38 mw_1_13) rfl rfl rfl (by decide +kernel) ⟨Nat.le_of_ble_eq_true rfl, Nat.le_of_ble_eq_true rfl⟩) ⟨sz_c, va_recv hK hP (ci := 12) (q0 := 0) rfl (gM_0 cs ad nu42_), sz_m hK hz⟩ rfl rfl hl.1 rfl (lv_room (Nat.le_of_ble_eq_true rfl)) dX12_mark_85 ⟨Nat.zero_le _, Nat.zero_le _⟩) hS (fun r41 hw41 locs hS => ?_)
                  obtain ⟨hfe41, hw41⟩ := hw41
                  have hF := mi_let hF hfe41
                  have gr41 : 0 ≤ r41.toInt ∧ r41.toInt ≤ 6 := hw41
                  refine lv_iload_n hx hb dX12_mark_88 rfl (lv_at hl 4 rfl) ?_
                  refine lv_icmp_ne (tgt := 112) hx hb dX12_mark_89 (by decide) (fun c_42 => ?_) (fun c_42 => ?_)
                  · have hF := (if_neg c_42).symm.trans hF
                    have c_42 : ¬ r41.toInt = vx.toInt := il_ne c_42
                    refine lv_iconst (v := 0) hx hb dX12_mark_112 (by decide) ?_
                    refine lv_iadd hx hb dX12_mark_113 ?_
                    refine lv_topi (fun t43 et43 => ?_)
                    have hF := mi_let hF et43
                    refine lv_istore (lv' := [(4, .int t43), (3, .int t40), (5, .int v5_42), (0, .ref (ad 0)), (1, .int vx), (2, .int vd)]) hx hb dX12_mark_114 hl (by decide) rfl (fun ls hl => ?_)
                    refine lv_iinc (v := (v5_42 + 1)) (lv' := [(5, .int (v5_42 + 1)), (4, .int t43), (3, .int t40), (0, .ref (ad 0)), (1, .int vx), (2, .int vd)]) hx hb dX12_mark_116 hl (k := 2) rfl rfl (by decide) rfl (fun ls hl => ?_)
                    refine loc_gen (P := fun w9 => lv_has ls 6 [(5, .int w9), (4, .int t43), (3, .int t40), (0, .ref (ad 0)), (1, .int vx), (2, .int vd)]) (v5_42 + 1) hl (fun w44 hw44 hl => ?_)
                    have hl : lv_has ls 6 [(5, .int w44), (4, .int t43), (3, .int t40), (0, .ref (ad 0)), (1, .int vx), (2, .int vd)] := hl
                    have hF := mi_let hF hw44.symm
                    have aw44 : w44.toInt = v5_42.toInt + 1 := by rw [← hw44]; exact tI_add (rfl : v5_42.toInt = _) (rfl : (1 : Int32).toInt = 1) (by omega) (by omega)
                    refine lv_goto (tgt := 42) hx hb dX12_mark_119 (by decide) ?_
                    exact ih42 (t40) (t43) (w44) nu42_ _ _ _ (by omega) (by exact ⟨by omega, by omega⟩)  ok hP  kq42_0 hF hS (lv_sub hl [0, 1, 2, 3, 4, 5] rfl)
                  · have hF := (if_pos c_42).symm.trans hF
                    have c_42 : r41.toInt = vx.toInt := il_eq c_42
                    refine lv_aload_n hx hb dX12_mark_92 rfl (lv_at hl 3 rfl) ?_
                    refine lv_iload hx hb dX12_mark_93 (lv_at hl 1 rfl) ?_
                    refine cr_i (va_runV (As := [.int v5_42]) (rest := [.int v4_42]) ⟨hx, hb, hml, hown, hts⟩ (sm_isRead l dC dI cs ad nu42_ ok H hP v5_42 (by omega)) (cwV 1 hts (wU_V mw_6_52 mw_6_49 mw_6_51 mw_0_39 mw_1_13) rfl rfl rfl (by decide +kernel) ⟨Nat.le_of_ble_eq_true rfl, Nat.le_of_ble_eq_true rfl⟩) ⟨sz_c, va_recv hK hP (ci := 12) (q0 := 0) rfl (gM_0 cs ad nu42_), sz_m hK hz⟩ rfl rfl hl.1 rfl (lv_room (Nat.le_of_ble_eq_true rfl)) dX12_mark_95 ⟨Nat.zero_le _, Nat.zero_le _⟩) hS (fun r45 hw45 locs hS => ?_)
                    obtain ⟨hfe45, hw45⟩ := hw45
                    have hF := mi_let hF hfe45
                    have gr45 : 0 ≤ r45.toInt ∧ r45.toInt ≤ 1 := hw45
                    refine lv_if_ne (tgt := 112) hx hb dX12_mark_98 (by decide) (fun c_46 => ?_) (fun c_46 => ?_)
                    · have hF := (if_neg c_46).symm.trans hF
                      have c_46 : ¬ r45.toInt = 0 := il_ne c_46
                      refine lv_iconst (v := 0) hx hb dX12_mark_112 (by decide) ?_
                      refine lv_iadd hx hb dX12_mark_113 ?_
                      refine lv_topi (fun t47 et47 => ?_)
                      have hF := mi_let hF et47
                      refine lv_istore (lv' := [(4, .int t47), (3, .int t40), (5, .int v5_42), (0, .ref (ad 0)), (1, .int vx), (2, .int vd)]) hx hb dX12_mark_114 hl (by decide) rfl (fun ls hl => ?_)
                      refine lv_iinc (v := (v5_42 + 1)) (lv' := [(5, .int (v5_42 + 1)), (4, .int t47), (3, .int t40), (0, .ref (ad 0)), (1, .int vx), (2, .int vd)]) hx hb dX12_mark_116 hl (k := 2) rfl rfl (by decide) rfl (fun ls hl => ?_)
                      refine loc_gen (P := fun w9 => lv_has ls 6 [(5, .int w9), (4, .int t47), (3, .int t40), (0, .ref (ad 0)), (1, .int vx), (2, .int vd)]) (v5_42 + 1) hl (fun w48 hw48 hl => ?_)
                      have hl : lv_has ls 6 [(5, .int w48), (4, .int t47), (3, .int t40), (0, .ref (ad 0)), (1, .int vx), (2, .int vd)] := hl
                      have hF := mi_let hF hw48.symm
                      have aw48 : w48.toInt = v5_42.toInt + 1 := by rw [← hw48]; exact tI_add (rfl : v5_42.toInt = _) (rfl : (1 : Int32).toInt = 1) (by omega) (by omega)
                      refine lv_goto (tgt := 42) hx hb dX12_mark_119 (by decide) ?_
                      exact ih42 (t40) (t47) (w48) nu42_ _ _ _ (by omega) (by exact ⟨by omega, by omega⟩)  ok hP  kq42_0 hF hS (lv_sub hl [0, 1, 2, 3, 4, 5] rfl)
                    · have hF := (if_pos c_46).symm.trans hF
                      have c_46 : r45.toInt = 0 := il_eq c_46
                      refine lv_aload_n hx hb dX12_mark_101 rfl (lv_at hl 3 rfl) ?_
                      refine lv_iload hx hb dX12_mark_102 (lv_at hl 1 rfl) ?_
                      refine lv_bipush (v := 6) hx hb dX12_mark_104 (by decide) ?_
                      refine cr_i (va_runV (As := [.int v5_42, .int 6]) (rest := [.int v4_42]) ⟨hx, hb, hml, hown, hts⟩ (sm_letterOf l dC dI cs ad nu42_ ok H hP v5_42 6 (by have h51 : (6 : Int32).toInt = 6 := rfl; omega)) (cwV 2 hts (wU_V mw_6_48 mw_6_45 mw_6_47 mw_0_38 mw_1_13) rfl rfl rfl (by decide +kernel) ⟨Nat.le_of_ble_eq_true rfl, Nat.le_of_ble_eq_true rfl⟩) ⟨sz_c, va_recv hK hP (ci := 12) (q0 := 0) rfl (gM_0 cs ad nu42_), sz_m hK hz⟩ rfl rfl hl.1 rfl (lv_room (Nat.le_of_ble_eq_true rfl)) dX12_mark_106 ⟨Nat.zero_le _, Nat.zero_le _⟩) hS (fun r49 hw49 locs hS => ?_)
                      obtain ⟨hfe49, hw49⟩ := hw49
                      have hF := mi_let hF hfe49
                      refine lv_goto (tgt := 113) hx hb dX12_mark_109 (by decide) ?_
                      refine lv_iadd hx hb dX12_mark_113 ?_
                      refine lv_topi (fun t50 et50 => ?_)
                      have hF := mi_let hF et50
                      refine lv_istore (lv' := [(4, .int t50), (3, .int t40), (5, .int v5_42), (0, .ref (ad 0)), (1, .int vx), (2, .int vd)]) hx hb dX12_mark_114 hl (by decide) rfl (fun ls hl => ?_)
                      refine lv_iinc (v := (v5_42 + 1)) (lv' := [(5, .int (v5_42 + 1)), (4, .int t50), (3, .int t40), (0, .ref (ad 0)), (1, .int vx), (2, .int vd)]) hx hb dX12_mark_116 hl (k := 2) rfl rfl (by decide) rfl (fun ls hl => ?_)
                      refine loc_gen (P := fun w9 => lv_has ls 6 [(5, .int w9), (4, .int t50), (3, .int t40), (0, .ref (ad 0)), (1, .int vx), (2, .int vd)]) (v5_42 + 1) hl (fun w51 hw51 hl => ?_)
                      have hl : lv_has ls 6 [(5, .int w51), (4, .int t50), (3, .int t40), (0, .ref (ad 0)), (1, .int vx), (2, .int vd)] := hl
                      have hF := mi_let hF hw51.symm
                      have aw51 : w51.toInt = v5_42.toInt + 1 := by rw [← hw51]; exact tI_add (rfl : v5_42.toInt = _) (rfl : (1 : Int32).toInt = 1) (by omega) (by omega)
                      refine lv_goto (tgt := 42) hx hb dX12_mark_119 (by decide) ?_
                      exact ih42 (t40) (t50) (w51) nu42_ _ _ _ (by omega) (by exact ⟨by omega, by omega⟩)  ok hP  kq42_0 hF hS (lv_sub hl [0, 1, 2, 3, 4, 5] rfl)
        exact loop42 7 (0) (0) (0) mu _ _ _ (by have h80 : (0 : Int32).toInt = 0 := rfl; have h81 : (0 : Int32).toInt = 0 := rfl; have h82 : (0 : Int32).toInt = 0 := rfl; omega) (by have h80 : (0 : Int32).toInt = 0 := rfl; exact ⟨by omega, by omega⟩)  ok hP  (fun _ _ _ => rfl) hF hS hl
      · have hF := (if_pos c_4).symm.trans hF
        have c_4 : r3.toInt = 0 := il_eq c_4
        refine lv_aload_n hx hb dX12_mark_28 rfl (lv_at hl 0 rfl) ?_
        refine lv_iconst (v := 3) hx hb dX12_mark_29 (by decide) ?_
        have hFc := fr_all (wR_D mu hD) hS hA
        refine va_calli (va_runV (As := [.int 3]) (rest := []) ⟨hx, hb, hml, hown, hts⟩ (sm_meet l dC dI cs ad mu ok s.heap hP ((wR_D mu hD).weaken (fun _ _ _ _ => trivial)) 3 (by have h50 : (3 : Int32).toInt = 3 := rfl; omega)) (cwV 1 hts (wU_V mw_5_193 mw_5_190 mw_5_192 mw_0_26 mw_1_13) rfl rfl rfl (by decide +kernel) ⟨Nat.le_of_ble_eq_true rfl, Nat.le_of_ble_eq_true rfl⟩) ⟨sz_c, va_recv hK hP (ci := 12) (q0 := 0) rfl (gM_0 cs ad mu), sz_m hK hz⟩ rfl rfl hl.1 rfl (lv_room (Nat.le_of_ble_eq_true rfl)) dX12_mark_30 ⟨Nat.zero_le _, Nat.zero_le _⟩) hS (fun q _ h => hFc q h) hFc (fun r52 xi52 t H52 locs ht hvm hw52 hB hz1 hk1 hS => ?_)
        have hP : va_P (dC, dI) vwCl (wR 21 ad (EM cs ad) xi52) H52 := by rw [← ht]; exact hB
        obtain ⟨hfe52, ok, hw52, hkp52_0⟩ := hw52
        have hF := mi_letp hF hfe52
        have kp53 : (∀ k f : Nat, Nat.testBit 510 (gpM k f) = true → xi52 k f = mu k f) := kp_t hkp52_0 (by decide) (fun _ _ _ => rfl)
        have gr52 : -3 ≤ r52.toInt ∧ r52.toInt ≤ -3 := hw52
        exact W.iret (v := r52) hx hb hr (fun t ht hW => ⟨⟨r52, xi52, rfl, ⟨hF.trans hfz.symm, ok, trivial, kp53⟩, by first | (subst ht; exact hP) | (rw [ht]; exact hP) | (show va_P (dC, dI) vwCl (wR 21 ad (EM cs ad) xi52) t.heap; rw [ht]; exact hP)⟩, hS.F ht⟩) hS.2.2 dX12_mark_33
    · have hF := (if_neg (fun h => absurd (hfe2.trans h) (by decide))).symm.trans hF
      have f2 : vd.toInt < (1 : Int) ∨ (5 : Int) < vd.toInt := f2
      refine lv_if_ne (tgt := 19) hx hb dX12_mark_14 (by decide) (fun c => absurd (by decide) c) (fun _ => ?_)
      refine lv_iconst (v := (-1)) hx hb dX12_mark_17 (by decide) ?_
      exact W.iret (v := (-1)) hx hb hr (fun t ht hW => ⟨⟨(-1), mu, rfl, ⟨hF.trans hfz.symm, ok, trivial, (fun _ _ _ => rfl)⟩, by first | (subst ht; exact hP) | (rw [ht]; exact hP) | (show va_P (dC, dI) vwCl (wR 21 ad (EM cs ad) mu) t.heap; rw [ht]; exact hP)⟩, hS.F ht⟩) hS.2.2 dX12_mark_18
  · have hF := (if_neg (fun h => absurd (hfe1.trans h) (by decide))).symm.trans hF
    have f1 : vx.toInt < 0 ∨ (mu 0 8).toInt ≤ vx.toInt := f1
    refine lv_if_eq (tgt := 17) hx hb dX12_mark_5 (by decide) (fun _ => ?_) (fun c => absurd (by decide) c)
    refine lv_iconst (v := (-1)) hx hb dX12_mark_17 (by decide) ?_
    exact W.iret (v := (-1)) hx hb hr (fun t ht hW => ⟨⟨(-1), mu, rfl, ⟨hF.trans hfz.symm, ok, trivial, (fun _ _ _ => rfl)⟩, by first | (subst ht; exact hP) | (rw [ht]; exact hP) | (show va_P (dC, dI) vwCl (wR 21 ad (EM cs ad) mu) t.heap; rw [ht]; exact hP)⟩, hS.F ht⟩) hS.2.2 dX12_mark_18
