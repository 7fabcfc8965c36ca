set_option maxHeartbeats 4000000 in
set_option maxRecDepth 100000 in
/-- qm_first -/
theorem qm_first (l : Launch) (dC : Nat → ClassId) (dI : Nat → Nat → Nat) (cs : Nat → ClassId) (ad : Nat → Nat) (mu : Nat → Nat → Int32) (ok : okR loM hiM mu) (H : Heap) (hP : va_P (dC, dI) vwCl (wR 21 ad (EM cs ad) mu) H) (hD0 : va_D (fun _ => True) (wR 21 ad (EM cs ad) mu)) (vx : Int32) (vr : Int32) (vt : Int32) : Met l yX12_first (wU yX12_first cX12_first 6 (some .int)) ({ frames := 9, cells := 0, slots := 0, locals := 249 }) (va_Pc [.ref (ad 0), .int vx, .int vr, .int vt] (sz_P (dC, dI) vwCl (tyM cs) H)) (va_Qi (fun (z : Int32) (xi : Nat → Nat → Int32) => okR loM hiM xi ∧ (True) ∧ (∀ k f : Nat, Nat.testBit 510 (gpM k f) = true → xi k f = mu k f)) (fun xi t => va_P (dC, dI) vwCl (wR 21 ad (EM cs ad) xi) t.heap) (va_A (wR 21 ad (EM cs ad) mu) H.size)) 0 0 (va_A (wR 21 ad (EM cs ad) mu) H.size) := by
  refine Met.ofW (cc := cX12_first) (maxL := 6) (ret := (some .int)) (by decide) rfl ?_
  intro p e s m args below meth c s₁ B hml hv
  obtain ⟨rfl, hh, hK, hz⟩ := hv
  have hx := B.exec
  have hb := B.bytes
  have hr := B.returns
  have hts := atoms_spec (ws := (wU yX12_first cX12_first 6 (some .int))) B.pre
  have hown : s.vm.findClass RX12 = some m.cls := findClass_of_methodNamed B.named
  have hlocks := B.notSynchronized
  subst hh
  have hD := hD0.self (sz := s.heap.size)
  have hA : ∀ q : Nat, s.heap.size ≤ q → (va_A (wR 21 ad (EM cs ad) mu) s.heap.size) q := fun q h => Or.inr h
  have hS : va_S (va_A (wR 21 ad (EM cs ad) mu) s.heap.size) s.heap s.heap [] := va_S.rf
  have hl := lv_entry ([.ref (ad 0), .int vx, .int vr, .int vt]) (n := 6) (Nat.le_of_ble_eq_true rfl)
  rw [lg_entry_eq]
  generalize (lg_sl ([.ref (ad 0), .int vx, .int vr, .int vt]) ++ List.replicate (6 - (lg_sl ([.ref (ad 0), .int vx, .int vr, .int vt])).length) Slot.unset).toArray = ls at hl ⊢
  have hl : lv_has ls 6 [(0, .ref (ad 0)), (1, .int vx), (2, .int vr), (3, .int vt)] := hl
  refine lv_iload_n hx hb dX12_first_0 rfl (lv_at hl 3 rfl) ?_
  refine cr_i (va_runS (As := [.int vt]) (rest := []) ⟨hx, hb, hml, hown, hts⟩ (sm_isRow l dC dI (tyM cs) s.heap vt) (va_cwS 1 hts (wU_S mw_5_186 mw_5_184 mw_5_185 mw_1_13) rfl rfl rfl (by decide +kernel) ⟨Nat.le_of_ble_eq_true rfl, Nat.le_of_ble_eq_true rfl⟩) ⟨sz_c, sz_m hK hz⟩ rfl rfl hl.1 rfl (lv_room (Nat.le_of_ble_eq_true rfl)) dX12_first_1 ⟨Nat.zero_le _, Nat.zero_le _⟩) hS (fun r1 hw1 locs hS => ?_)
  obtain ⟨hfe1, hw1⟩ := hw1
  rcases hw1 with ⟨rfl, f1⟩ | ⟨rfl, f1⟩
  · have f1 : 0 ≤ vt.toInt ∧ vt.toInt ≤ 5 := f1
    refine lv_if_ne (tgt := 11) hx hb dX12_first_4 (by decide) (fun _ => ?_) (fun c => absurd c (by decide))
    refine lv_aload_n hx hb dX12_first_11 rfl (lv_at hl 0 rfl) ?_
    refine lv_iload_n hx hb dX12_first_12 rfl (lv_at hl 1 rfl) ?_
    refine lv_iload_n hx hb dX12_first_13 rfl (lv_at hl 2 rfl) ?_
    have hFc := fr_all (wR_D mu hD) hS hA
    refine va_calli (va_runV (As := [.int vx, .int vr]) (rest := []) ⟨hx, hb, hml, hown, hts⟩ (sm_askedHad l dC dI cs ad mu ok s.heap hP ((wR_D mu hD).weaken (fun _ _ _ _ => trivial)) vx vr) (cwV 2 hts (wU_V mw_7_20 mw_7_17 mw_7_19 mw_0_61 mw_1_13) rfl rfl rfl (by decide +kernel) ⟨Nat.le_of_ble_eq_true rfl, Nat.le_of_ble_eq_true rfl⟩) ⟨sz_c, va_recv hK hP (ci := 12) (q0 := 0) rfl (gM_0 cs ad mu), sz_m hK hz⟩ rfl rfl hl.1 rfl (lv_room (Nat.le_of_ble_eq_true rfl)) dX12_first_14 ⟨Nat.zero_le _, Nat.zero_le _⟩) hS (fun q _ h => hFc q h) hFc (fun r2 xi2 t H2 locs ht hvm hw2 hB hz1 hk1 hS => ?_)
    have hP : va_P (dC, dI) vwCl (wR 21 ad (EM cs ad) xi2) H2 := by rw [← ht]; exact hB
    rcases hw2 with ⟨rfl, ok, f2, hkp2_0⟩ | ⟨z2, ok, hkp2_0⟩
    · have kp3 : (∀ k f : Nat, Nat.testBit 510 (gpM k f) = true → xi2 k f = mu k f) := kp_t hkp2_0 (by decide) (fun _ _ _ => rfl)
      have f2 : 0 ≤ vx.toInt ∧ vx.toInt ≤ 6 ∧ 0 ≤ vr.toInt ∧ vr.toInt ≤ 5 ∧ 0 ≤ (xi2 2 vr.toNatClampNeg).toInt ∧ (xi2 2 vr.toNatClampNeg).toInt ≤ 6 := f2
      refine lv_istore (lv' := [(4, .int 0), (0, .ref (ad 0)), (1, .int vx), (2, .int vr), (3, .int vt)]) hx hb dX12_first_17 hl (by decide) rfl (fun ls hl => ?_)
      refine lv_iload hx hb dX12_first_19 (lv_at hl 0 rfl) ?_
      refine lv_if_ge (tgt := 27) hx hb dX12_first_21 (by decide) (fun _ => ?_) (fun c => absurd (by decide) c)
      refine lv_aload_n hx hb dX12_first_27 rfl (lv_at hl 1 rfl) ?_
      refine va_get (D := (dC, dI)) (ci := 12) (v := .int (xi2 0 42)) (C := RX12) (T := TX12) (N := 46) hx hb hts inG12 hown hK hP 0 (gM_0 cs ad xi2) rfl 42 (by decide) (hts _ (List.mem_cons_of_mem _ mw_5_83)) (fun _ h9 => h9) rfl dX12_first_28 ?_
      refine lv_topi (fun y5 ey5 => ?_)
      have by5 : y5.toInt = (xi2 0 42).toInt := congrArg Int32.toInt ey5
      refine lv_if_ne (tgt := 37) hx hb dX12_first_31 (by decide) (fun c_6 => ?_) (fun c_6 => ?_)
      · have c_6 : ¬ y5.toInt = 0 := il_ne c_6
        refine lv_aload_n hx hb dX12_first_37 rfl (lv_at hl 1 rfl) ?_
        refine va_get (D := (dC, dI)) (ci := 12) (v := .ref (ad 2)) (C := RX12) (T := TX12) (N := 46) hx hb hts inG12 hown hK hP 0 (gM_0 cs ad xi2) rfl 3 (by decide) (hts _ (List.mem_cons_of_mem _ mw_5_44)) (fun _ h9 => h9) rfl dX12_first_38 ?_
        refine lv_iload_n hx hb dX12_first_41 rfl (lv_at hl 3 rfl) ?_
        refine va_iald hx hb hK hP 2 0 (gM_2 cs ad xi2) rfl (show vp_in vr 6 from vi_of (by omega) (by omega)) dX12_first_42 ?_
        refine lv_topi (fun y7 ey7 => ?_)
        have by7 : y7.toInt = (xi2 2 vr.toNatClampNeg).toInt := congrArg Int32.toInt ey7
        have gy7 : -9 ≤ y7.toInt ∧ y7.toInt ≤ 40 := by rw [ey7]; exact rM_2_s ok vr.toNatClampNeg
        refine lv_iconst (v := 1) hx hb dX12_first_43 (by decide) ?_
        refine lv_iadd hx hb dX12_first_44 ?_
        refine lv_topi (fun t8 et8 => ?_)
        have at8 : t8.toInt = y7.toInt + 1 := by rw [et8]; exact tI_add (rfl : y7.toInt = _) (rfl : (1 : Int32).toInt = 1) (by omega) (by omega)
        refine lv_istore (lv' := [(5, .int t8), (4, .int 0), (0, .ref (ad 0)), (1, .int vx), (2, .int vr), (3, .int vt)]) hx hb dX12_first_45 hl (by decide) rfl (fun ls hl => ?_)
        refine lv_aload_n hx hb dX12_first_47 rfl (lv_at hl 2 rfl) ?_
        refine lv_iload_n hx hb dX12_first_48 rfl (lv_at hl 5 rfl) ?_
        refine lv_aload_n hx hb dX12_first_49 rfl (lv_at hl 2 rfl) ?_
        refine va_get (D := (dC, dI)) (ci := 12) (v := .ref (ad 17)) (C := RX12) (T := TX12) (N := 46) hx hb hts inG12 hown hK hP 0 (gM_0 cs ad xi2) rfl 27 (by decide) (hts _ (List.mem_cons_of_mem _ mw_5_68)) (fun _ h9 => h9) rfl dX12_first_50 ?_
        refine lv_iload hx hb dX12_first_53 (lv_at hl 0 rfl) ?_
        have hFc := fr_all (wR_D xi2 hD) hS hA
        refine va_callv (va_runV (As := [.int vt, .ref (ad 17), .int t8]) (rest := []) ⟨hx, hb, hml, hown, hts⟩ (sm_layRoute17 l dC dI cs ad xi2 ok H2 hP ((wR_D xi2 hD).weaken (fun _ _ _ _ => trivial)) vt t8 (by omega)) (cwV 3 hts (wU_V mw_6_195 mw_6_192 mw_6_194 mw_0_58 mw_1_13) rfl rfl rfl (by decide +kernel) ⟨Nat.le_of_ble_eq_true rfl, Nat.le_of_ble_eq_true rfl⟩) ⟨sz_c, va_recv hK hP (ci := 12) (q0 := 0) rfl (gM_0 cs ad xi2), sz_m hK hz⟩ rfl rfl hl.1 rfl (lv_room (Nat.le_of_ble_eq_true rfl)) dX12_first_55 ⟨Nat.zero_le _, Nat.zero_le _⟩) hS (fun q _ h => hFc q h) hFc (fun xi9 t H9 locs ht hvm hw9 hB hz1 hk1 hS => ?_)
        have hP : va_P (dC, dI) vwCl (wR 21 ad (EM cs ad) xi9) H9 := by rw [← ht]; exact hB
        obtain ⟨ok, hw9, hkp9_0⟩ := hw9
        have kp10 : (∀ k f : Nat, Nat.testBit 510 (gpM k f) = true → xi9 k f = mu k f) := kp_t hkp9_0 (by decide) kp3
        refine lv_iload hx hb dX12_first_58 (lv_at hl 0 rfl) ?_
        exact W.iret (v := t8) hx hb hr (fun t ht hW => ⟨⟨t8, xi9, rfl, ⟨ok, trivial, kp10⟩, by first | (subst ht; exact hP) | (rw [ht]; exact hP) | (show va_P (dC, dI) vwCl (wR 21 ad (EM cs ad) xi9) t.heap; rw [ht]; exact hP)⟩, hS.F ht⟩) hS.2.2 dX12_first_60
      · have c_6 : y5.toInt = 0 := il_eq c_6
        refine lv_bipush (v := (-9)) hx hb dX12_first_34 (by decide) ?_
        exact W.iret (v := (-9)) hx hb hr (fun t ht hW => ⟨⟨(-9), xi2, rfl, ⟨ok, trivial, kp3⟩, by first | (subst ht; exact hP) | (rw [ht]; exact hP) | (show va_P (dC, dI) vwCl (wR 21 ad (EM cs ad) xi2) t.heap; rw [ht]; exact hP)⟩, hS.F ht⟩) hS.2.2 dX12_first_36
    · have kp4 : (∀ k f : Nat, Nat.testBit 510 (gpM k f) = true → xi2 k f = mu k f) := kp_t hkp2_0 (by decide) (fun _ _ _ => rfl)
      skip
      refine lv_istore (lv' := [(4, .int r2), (0, .ref (ad 0)), (1, .int vx), (2, .int vr), (3, .int vt)]) hx hb dX12_first_17 hl (by decide) rfl (fun ls hl => ?_)
      refine lv_iload hx hb dX12_first_19 (lv_at hl 0 rfl) ?_
      refine lv_if_ge (tgt := 27) hx hb dX12_first_21 (by decide) (fun c_11 => by have c_11 : 0 ≤ r2.toInt := il_le c_11; exfalso; omega) (fun c_11 => ?_)
      have c_11 : r2.toInt < 0 := il_nle c_11
      refine lv_iload hx hb dX12_first_24 (lv_at hl 0 rfl) ?_
      exact W.iret (v := r2) hx hb hr (fun t ht hW => ⟨⟨r2, xi2, rfl, ⟨ok, trivial, kp4⟩, by first | (subst ht; exact hP) | (rw [ht]; exact hP) | (show va_P (dC, dI) vwCl (wR 21 ad (EM cs ad) xi2) t.heap; rw [ht]; exact hP)⟩, hS.F ht⟩) hS.2.2 dX12_first_26
  · have f1 : vt.toInt < 0 ∨ 5 < vt.toInt := f1
    refine lv_if_ne (tgt := 11) hx hb dX12_first_4 (by decide) (fun c => absurd (by decide) c) (fun _ => ?_)
    refine lv_iconst (v := (-1)) hx hb dX12_first_7 (by decide) ?_
    refine lv_goto (tgt := 17) hx hb dX12_first_8 (by decide) ?_
    refine lv_istore (lv' := [(4, .int (-1)), (0, .ref (ad 0)), (1, .int vx), (2, .int vr), (3, .int vt)]) hx hb dX12_first_17 hl (by decide) rfl (fun ls hl => ?_)
    refine lv_iload hx hb dX12_first_19 (lv_at hl 0 rfl) ?_
    refine lv_if_ge (tgt := 27) hx hb dX12_first_21 (by decide) (fun c => absurd c (by decide)) (fun _ => ?_)
    refine lv_iload hx hb dX12_first_24 (lv_at hl 0 rfl) ?_
    exact W.iret (v := (-1)) hx hb hr (fun t ht hW => ⟨⟨(-1), mu, rfl, ⟨ok, trivial, (fun _ _ _ => rfl)⟩, by first | (subst ht; exact hP) | (rw [ht]; exact hP) | (show va_P (dC, dI) vwCl (wR 21 ad (EM cs ad) mu) t.heap; rw [ht]; exact hP)⟩, hS.F ht⟩) hS.2.2 dX12_first_26

