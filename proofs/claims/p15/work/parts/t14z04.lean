set_option maxHeartbeats 4000000 in
set_option maxRecDepth 100000 in
/-- qm_snow -/
theorem qm_snow (l : Launch) (dC : Nat → ClassId) (dI : Nat → Nat → Nat) (cs : Nat → ClassId) (ad : Nat → Nat) (mu : Nat → Nat → Int32) (ok : okR loM hiM mu) (H : Heap) (hP : va_P (dC, dI) vwCl (wR 21 ad (EM cs ad) mu) H) (hD0 : va_D (fun _ => True) (wR 21 ad (EM cs ad) mu)) (vi : Int32) (vs : Int32) : Met l yX12_snow (wU yX12_snow cX12_snow 4 (some .int)) ({ frames := 1, cells := 0, slots := 0, locals := 22 }) (va_Pc [.ref (ad 0), .int vi, .int vs] (sz_P (dC, dI) vwCl (tyM cs) H)) (va_Qi (fun (z : Int32) (xi : Nat → Nat → Int32) => (z, xi) = F_qm_snow mu vi vs ∧ okR loM hiM xi ∧ (True) ∧ (∀ k f : Nat, Nat.testBit 446 (gpM k f) = true → xi k f = mu k f)) (fun xi t => va_P (dC, dI) vwCl (wR 21 ad (EM cs ad) xi) t.heap) (va_A (wR 21 ad (EM cs ad) mu) H.size)) 0 0 (va_A (wR 21 ad (EM cs ad) mu) H.size) := by
  refine Met.ofW (cc := cX12_snow) (maxL := 4) (ret := (some .int)) (by decide) rfl ?_
  intro p e s m args below meth c s₁ B hml hv
  obtain ⟨rfl, hh, hK, hz⟩ := hv
  have hx := B.exec
  have hb := B.bytes
  have hr := B.returns
  have hts := atoms_spec (ws := (wU yX12_snow cX12_snow 4 (some .int))) B.pre
  have hown : s.vm.findClass RX12 = some m.cls := findClass_of_methodNamed B.named
  have hlocks := B.notSynchronized
  subst hh
  have hD := hD0.self (sz := s.heap.size)
  have hA : ∀ q : Nat, s.heap.size ≤ q → (va_A (wR 21 ad (EM cs ad) mu) s.heap.size) q := fun q h => Or.inr h
  have hS : va_S (va_A (wR 21 ad (EM cs ad) mu) s.heap.size) s.heap s.heap [] := va_S.rf
  have hl := lv_entry ([.ref (ad 0), .int vi, .int vs]) (n := 4) (Nat.le_of_ble_eq_true rfl)
  rw [lg_entry_eq]
  generalize (lg_sl ([.ref (ad 0), .int vi, .int vs]) ++ List.replicate (4 - (lg_sl ([.ref (ad 0), .int vi, .int vs])).length) Slot.unset).toArray = ls at hl ⊢
  have hl : lv_has ls 4 [(0, .ref (ad 0)), (1, .int vi), (2, .int vs)] := hl
  obtain ⟨fz, hfz⟩ : ∃ z, F_qm_snow mu vi vs = z := ⟨_, rfl⟩
  have hF := hfz
  unfold F_qm_snow at hF
  refine lv_iload_n hx hb dX12_snow_0 rfl (lv_at hl 1 rfl) ?_
  refine lv_iconst (v := 0) hx hb dX12_snow_1 (by decide) ?_
  refine lv_aload_n hx hb dX12_snow_2 rfl (lv_at hl 0 rfl) ?_
  refine va_get (D := (dC, dI)) (ci := 12) (v := .int (mu 0 11)) (C := RX12) (T := TX12) (N := 46) hx hb hts inG12 hown hK hP 0 (gM_0 cs ad mu) rfl 11 (by decide) (hts _ (List.mem_cons_of_mem _ mw_5_52)) (fun _ h9 => h9) rfl dX12_snow_3 ?_
  refine lv_topi (fun y1 ey1 => ?_)
  have hF := mi_let hF ey1
  have by1 : y1.toInt = (mu 0 11).toInt := congrArg Int32.toInt ey1
  have gy1 : 0 ≤ y1.toInt ∧ y1.toInt ≤ 12 := by rw [ey1]; exact rM_0_11 ok
  refine lv_iconst (v := 1) hx hb dX12_snow_6 (by decide) ?_
  refine lv_isub hx hb dX12_snow_7 ?_
  refine lv_topi (fun t2 et2 => ?_)
  have hF := mi_let hF et2
  have at2 : t2.toInt = y1.toInt - 1 := by rw [et2]; exact tI_sub (rfl : y1.toInt = _) (rfl : (1 : Int32).toInt = 1) (by omega) (by omega)
  refine cr_i (va_runS (As := [.int vi, .int 0, .int t2]) (rest := []) ⟨hx, hb, hml, hown, hts⟩ (sm_in l dC dI (tyM cs) s.heap vi 0 t2) (va_cwS 3 hts (wU_S mw_5_189 mw_5_187 mw_5_188 mw_1_13) rfl rfl rfl (by decide +kernel) ⟨Nat.le_of_ble_eq_true rfl, Nat.le_of_ble_eq_true rfl⟩) ⟨sz_c, sz_m hK hz⟩ rfl rfl hl.1 rfl (lv_room (Nat.le_of_ble_eq_true rfl)) dX12_snow_8 ⟨Nat.zero_le _, Nat.zero_le _⟩) hS (fun r3 hw3 locs hS => ?_)
  obtain ⟨hfe3, hw3⟩ := hw3
  rcases hw3 with ⟨rfl, f3⟩ | ⟨rfl, f3⟩
  · have hF := (if_pos hfe3.symm).symm.trans hF
    have f3 : (0 : Int) ≤ vi.toInt ∧ vi.toInt ≤ t2.toInt := f3
    refine lv_if_eq (tgt := 23) hx hb dX12_snow_11 (by decide) (fun c => absurd c (by decide)) (fun _ => ?_)
    refine lv_iload_n hx hb dX12_snow_14 rfl (lv_at hl 2 rfl) ?_
    refine lv_iconst (v := 0) hx hb dX12_snow_15 (by decide) ?_
    refine lv_iconst (v := 1) hx hb dX12_snow_16 (by decide) ?_
    refine cr_i (va_runS (As := [.int vs, .int 0, .int 1]) (rest := []) ⟨hx, hb, hml, hown, hts⟩ (sm_in l dC dI (tyM cs) s.heap vs 0 1) (va_cwS 3 hts (wU_S mw_5_189 mw_5_187 mw_5_188 mw_1_13) rfl rfl rfl (by decide +kernel) ⟨Nat.le_of_ble_eq_true rfl, Nat.le_of_ble_eq_true rfl⟩) ⟨sz_c, sz_m hK hz⟩ rfl rfl hl.1 rfl (lv_room (Nat.le_of_ble_eq_true rfl)) dX12_snow_17 ⟨Nat.zero_le _, Nat.zero_le _⟩) hS (fun r4 hw4 locs hS => ?_)
    obtain ⟨hfe4, hw4⟩ := hw4
    rcases hw4 with ⟨rfl, f4⟩ | ⟨rfl, f4⟩
    · have hF := (if_pos hfe4.symm).symm.trans hF
      have f4 : (0 : Int) ≤ vs.toInt ∧ vs.toInt ≤ (1 : Int) := f4
      refine lv_if_ne (tgt := 25) hx hb dX12_snow_20 (by decide) (fun _ => ?_) (fun c => absurd c (by decide))
      refine lv_aload_n hx hb dX12_snow_25 rfl (lv_at hl 0 rfl) ?_
      refine va_get (D := (dC, dI)) (ci := 12) (v := .int (mu 0 13)) (C := RX12) (T := TX12) (N := 46) hx hb hts inG12 hown hK hP 0 (gM_0 cs ad mu) rfl 13 (by decide) (hts _ (List.mem_cons_of_mem _ mw_5_54)) (fun _ h9 => h9) rfl dX12_snow_26 ?_
      refine lv_topi (fun y5 ey5 => ?_)
      have hF := mi_let hF ey5
      have by5 : y5.toInt = (mu 0 13).toInt := congrArg Int32.toInt ey5
      refine lv_iload_n hx hb dX12_snow_29 rfl (lv_at hl 1 rfl) ?_
      refine lv_ishr hx hb dX12_snow_30 ?_
      refine lv_topi (fun t6 et6 => ?_)
      have hF := mi_let hF et6
      refine lv_iconst (v := 1) hx hb dX12_snow_31 (by decide) ?_
      refine lv_iand hx hb dX12_snow_32 ?_
      refine lv_topi (fun t7 et7 => ?_)
      have hF := mi_let hF et7
      refine lv_istore_n (lv' := [(3, .int t7), (0, .ref (ad 0)), (1, .int vi), (2, .int vs)]) hx hb dX12_snow_33 rfl hl (by decide) rfl (fun ls hl => ?_)
      refine lv_aload_n hx hb dX12_snow_34 rfl (lv_at hl 1 rfl) ?_
      refine lv_iload_n hx hb dX12_snow_35 rfl (lv_at hl 3 rfl) ?_
      refine lv_iconst (v := 1) hx hb dX12_snow_36 (by decide) ?_
      refine lv_icmp_ne (tgt := 51) hx hb dX12_snow_37 (by decide) (fun c_8 => ?_) (fun c_8 => ?_)
      · have hF := (if_neg c_8).symm.trans hF
        have c_8 : ¬ vs.toInt = 1 := il_ne c_8
        refine lv_aload_n hx hb dX12_snow_51 rfl (lv_at hl 1 rfl) ?_
        refine va_get (D := (dC, dI)) (ci := 12) (v := .int (mu 0 13)) (C := RX12) (T := TX12) (N := 46) hx hb hts inG12 hown hK hP 0 (gM_0 cs ad mu) rfl 13 (by decide) (hts _ (List.mem_cons_of_mem _ mw_5_54)) (fun _ h9 => h9) rfl dX12_snow_52 ?_
        refine lq_i y5 ey5.symm ?_
        refine lv_iconst (v := 1) hx hb dX12_snow_55 (by decide) ?_
        refine lv_iload_n hx hb dX12_snow_56 rfl (lv_at hl 2 rfl) ?_
        refine lv_ishl hx hb dX12_snow_57 ?_
        refine lv_topi (fun t9 et9 => ?_)
        have hF := mi_let hF et9
        refine lv_iconst (v := (-1)) hx hb dX12_snow_58 (by decide) ?_
        refine lv_ixor hx hb dX12_snow_59 ?_
        refine lv_topi (fun t10 et10 => ?_)
        have hF := mi_let hF et10
        refine lv_iand hx hb dX12_snow_60 ?_
        refine lv_topi (fun t11 et11 => ?_)
        have hF := mi_let hF et11
        refine va_put (D := (dC, dI)) (ci := 12) (v := .int t11) (ty := .int) (C := RX12) (T := TX12) (N := 46) hx hb hts inG12 tyX12 tyX12_ok nmX12 hown hK hP (wR_D mu hD) hS 0 (gM_0 cs ad mu) rfl 13 (by decide) (hts _ (List.mem_cons_of_mem _ mw_5_54)) (fun _ h9 => h9) rfl (by decide +kernel) rfl rfl (Nat.le_of_ble_eq_true rfl) dX12_snow_61 (fun H locs hP _ hS => ?_)
        simp only [List.set_cons_succ, List.set_cons_zero] at hP
        refine wr_gen (upd (mu 0) 13 t11) hP ((hM_0_13 cs ad _ _)) (fun nu12 hn12 hP => ?_)
        have hF := mi_let hF hn12.symm
        have ok := tM_0_13 ok hn12
        have ez13 : y1 = nu12 0 11 := ey1.trans (up_f hn12 (by decide)).symm
        have kp14 : (∀ k f : Nat, Nat.testBit 446 (gpM k f) = true → nu12 k f = mu k f) := kp_f hn12 (by decide) (fun _ _ _ => rfl)
        have ez15 : t11 = nu12 0 13 := up_v hn12
        refine lv_iload_n hx hb dX12_snow_64 rfl (lv_at hl 0 rfl) ?_
        exact W.iret (v := t7) hx hb hr (fun t ht hW => ⟨⟨t7, nu12, rfl, ⟨hF.trans hfz.symm, ok, trivial, kp14⟩, by first | (subst ht; exact hP) | (rw [ht]; exact hP) | (show va_P (dC, dI) vwCl (wR 21 ad (EM cs ad) nu12) t.heap; rw [ht]; exact hP)⟩, hS.F ht⟩) hS.2.2 dX12_snow_65
      · have hF := (if_pos c_8).symm.trans hF
        have c_8 : vs.toInt = 1 := il_eq c_8
        refine lv_aload_n hx hb dX12_snow_40 rfl (lv_at hl 1 rfl) ?_
        refine va_get (D := (dC, dI)) (ci := 12) (v := .int (mu 0 13)) (C := RX12) (T := TX12) (N := 46) hx hb hts inG12 hown hK hP 0 (gM_0 cs ad mu) rfl 13 (by decide) (hts _ (List.mem_cons_of_mem _ mw_5_54)) (fun _ h9 => h9) rfl dX12_snow_41 ?_
        refine lq_i y5 ey5.symm ?_
        refine lv_iconst (v := 1) hx hb dX12_snow_44 (by decide) ?_
        refine lv_iload_n hx hb dX12_snow_45 rfl (lv_at hl 2 rfl) ?_
        refine lv_ishl hx hb dX12_snow_46 ?_
        refine lv_topi (fun t16 et16 => ?_)
        have hF := mi_let hF et16
        refine lv_ior hx hb dX12_snow_47 ?_
        refine lv_topi (fun t17 et17 => ?_)
        have hF := mi_let hF et17
        refine lv_goto (tgt := 61) hx hb dX12_snow_48 (by decide) ?_
        refine va_put (D := (dC, dI)) (ci := 12) (v := .int t17) (ty := .int) (C := RX12) (T := TX12) (N := 46) hx hb hts inG12 tyX12 tyX12_ok nmX12 hown hK hP (wR_D mu hD) hS 0 (gM_0 cs ad mu) rfl 13 (by decide) (hts _ (List.mem_cons_of_mem _ mw_5_54)) (fun _ h9 => h9) rfl (by decide +kernel) rfl rfl (Nat.le_of_ble_eq_true rfl) dX12_snow_61 (fun H locs hP _ hS => ?_)
        simp only [List.set_cons_succ, List.set_cons_zero] at hP
        refine wr_gen (upd (mu 0) 13 t17) hP ((hM_0_13 cs ad _ _)) (fun nu18 hn18 hP => ?_)
        have hF := mi_let hF hn18.symm
        have ok := tM_0_13 ok hn18
        have ez19 : y1 = nu18 0 11 := ey1.trans (up_f hn18 (by decide)).symm
        have kp20 : (∀ k f : Nat, Nat.testBit 446 (gpM k f) = true → nu18 k f = mu k f) := kp_f hn18 (by decide) (fun _ _ _ => rfl)
        have ez21 : t17 = nu18 0 13 := up_v hn18
        refine lv_iload_n hx hb dX12_snow_64 rfl (lv_at hl 0 rfl) ?_
        exact W.iret (v := t7) hx hb hr (fun t ht hW => ⟨⟨t7, nu18, rfl, ⟨hF.trans hfz.symm, ok, trivial, kp20⟩, by first | (subst ht; exact hP) | (rw [ht]; exact hP) | (show va_P (dC, dI) vwCl (wR 21 ad (EM cs ad) nu18) t.heap; rw [ht]; exact hP)⟩, hS.F ht⟩) hS.2.2 dX12_snow_65
    · have hF := (if_neg (fun h => absurd (hfe4.trans h) (by decide))).symm.trans hF
      have f4 : vs.toInt < (0 : Int) ∨ (1 : Int) < vs.toInt := f4
      refine lv_if_ne (tgt := 25) hx hb dX12_snow_20 (by decide) (fun c => absurd (by decide) c) (fun _ => ?_)
      refine lv_iconst (v := (-1)) hx hb dX12_snow_23 (by decide) ?_
      exact W.iret (v := (-1)) hx hb hr (fun t ht hW => ⟨⟨(-1), mu, rfl, ⟨hF.trans hfz.symm, ok, trivial, (fun _ _ _ => rfl)⟩, by first | (subst ht; exact hP) | (rw [ht]; exact hP) | (show va_P (dC, dI) vwCl (wR 21 ad (EM cs ad) mu) t.heap; rw [ht]; exact hP)⟩, hS.F ht⟩) hS.2.2 dX12_snow_24
  · have hF := (if_neg (fun h => absurd (hfe3.trans h) (by decide))).symm.trans hF
    have f3 : vi.toInt < (0 : Int) ∨ t2.toInt < vi.toInt := f3
    refine lv_if_eq (tgt := 23) hx hb dX12_snow_11 (by decide) (fun _ => ?_) (fun c => absurd (by decide) c)
    refine lv_iconst (v := (-1)) hx hb dX12_snow_23 (by decide) ?_
    exact W.iret (v := (-1)) hx hb hr (fun t ht hW => ⟨⟨(-1), mu, rfl, ⟨hF.trans hfz.symm, ok, trivial, (fun _ _ _ => rfl)⟩, by first | (subst ht; exact hP) | (rw [ht]; exact hP) | (show va_P (dC, dI) vwCl (wR 21 ad (EM cs ad) mu) t.heap; rw [ht]; exact hP)⟩, hS.F ht⟩) hS.2.2 dX12_snow_24
