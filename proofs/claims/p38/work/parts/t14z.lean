set_option maxHeartbeats 4000000 in
set_option maxRecDepth 100000 in
/-- qm_bearer -/
theorem qm_bearer (l : Launch) (dC : Nat → ClassId) (dI : Nat → Nat → Nat) (cs : Nat → ClassId) (ad : Nat → Nat) (mu : Nat → Nat → Int32) (ok : okR loM hiM mu) (H : Heap) (hP : va_P (dC, dI) vwCl (wR 21 ad (EM cs ad) mu) H) (hD0 : va_D (fun _ => True) (wR 21 ad (EM cs ad) mu)) (vx : Int32) (vw : Int32) : Met l yX12_bearer (wU yX12_bearer cX12_bearer 3 (some .int)) ({ frames := 3, cells := 0, slots := 0, locals := 70 }) (va_Pc [.ref (ad 0), .int vx, .int vw] (sz_P (dC, dI) vwCl (tyM cs) H)) (va_Qi (fun (z : Int32) (xi : Nat → Nat → Int32) => (z, xi) = F_qm_bearer mu vx vw ∧ okR loM hiM xi ∧ (True) ∧ (∀ k f : Nat, Nat.testBit 510 (gpM k f) = true → xi k f = mu k f)) (fun xi t => va_P (dC, dI) vwCl (wR 21 ad (EM cs ad) xi) t.heap) (va_A (wR 21 ad (EM cs ad) mu) H.size)) 0 0 (va_A (wR 21 ad (EM cs ad) mu) H.size) := by
  refine Met.ofW (cc := cX12_bearer) (maxL := 3) (ret := (some .int)) (by decide) rfl ?_
  intro p e s m args below meth c s₁ B hml hv
  obtain ⟨rfl, hh, hK, hz⟩ := hv
  have hx := B.exec
  have hb := B.bytes
  have hr := B.returns
  have hts := atoms_spec (ws := (wU yX12_bearer cX12_bearer 3 (some .int))) B.pre
  have hown : s.vm.findClass RX12 = some m.cls := findClass_of_methodNamed B.named
  have hlocks := B.notSynchronized
  subst hh
  have hD := hD0.self (sz := s.heap.size)
  have hA : ∀ q : Nat, s.heap.size ≤ q → (va_A (wR 21 ad (EM cs ad) mu) s.heap.size) q := fun q h => Or.inr h
  have hS : va_S (va_A (wR 21 ad (EM cs ad) mu) s.heap.size) s.heap s.heap [] := va_S.rf
  have hl := lv_entry ([.ref (ad 0), .int vx, .int vw]) (n := 3) (Nat.le_of_ble_eq_true rfl)
  rw [lg_entry_eq]
  generalize (lg_sl ([.ref (ad 0), .int vx, .int vw]) ++ List.replicate (3 - (lg_sl ([.ref (ad 0), .int vx, .int vw])).length) Slot.unset).toArray = ls at hl ⊢
  have hl : lv_has ls 3 [(0, .ref (ad 0)), (1, .int vx), (2, .int vw)] := hl
  obtain ⟨fz, hfz⟩ : ∃ z, F_qm_bearer mu vx vw = z := ⟨_, rfl⟩
  have hF := hfz
  unfold F_qm_bearer at hF
  refine lv_aload_n hx hb dX12_bearer_0 rfl (lv_at hl 0 rfl) ?_
  refine lv_iload_n hx hb dX12_bearer_1 rfl (lv_at hl 1 rfl) ?_
  refine cr_i (va_runV (As := [.int vx]) (rest := []) ⟨hx, hb, hml, hown, hts⟩ (sm_isOne l dC dI cs ad mu ok s.heap hP vx) (cwV 1 hts (wU_V mw_6_40 mw_6_37 mw_6_39 mw_0_36 mw_1_13) rfl rfl rfl (by decide +kernel) ⟨Nat.le_of_ble_eq_true rfl, Nat.le_of_ble_eq_true rfl⟩) ⟨sz_c, va_recv hK hP (ci := 12) (q0 := 0) rfl (gM_0 cs ad mu), sz_m hK hz⟩ rfl rfl hl.1 rfl (lv_room (Nat.le_of_ble_eq_true rfl)) dX12_bearer_2 ⟨Nat.zero_le _, Nat.zero_le _⟩) hS (fun r1 hw1 locs hS => ?_)
  obtain ⟨hfe1, hw1⟩ := hw1
  rcases hw1 with ⟨rfl, f1⟩ | ⟨rfl, f1⟩
  · have hF := (if_pos hfe1.symm).symm.trans hF
    have f1 : 0 ≤ vx.toInt ∧ vx.toInt < (mu 0 8).toInt ∧ (mu 0 8).toInt ≤ 7 := f1
    refine lv_if_eq (tgt := 31) hx hb dX12_bearer_5 (by decide) (fun c => absurd c (by decide)) (fun _ => ?_)
    refine lv_iload_n hx hb dX12_bearer_8 rfl (lv_at hl 2 rfl) ?_
    refine lv_iconst (v := 0) hx hb dX12_bearer_9 (by decide) ?_
    refine lv_iconst (v := 3) hx hb dX12_bearer_10 (by decide) ?_
    refine cr_i (va_runS (As := [.int vw, .int 0, .int 3]) (rest := []) ⟨hx, hb, hml, hown, hts⟩ (sm_in l dC dI (tyM cs) s.heap vw 0 3) (va_cwS 3 hts (wU_S mw_5_189 mw_5_187 mw_5_188 mw_1_13) rfl rfl rfl (by decide +kernel) ⟨Nat.le_of_ble_eq_true rfl, Nat.le_of_ble_eq_true rfl⟩) ⟨sz_c, sz_m hK hz⟩ rfl rfl hl.1 rfl (lv_room (Nat.le_of_ble_eq_true rfl)) dX12_bearer_11 ⟨Nat.zero_le _, Nat.zero_le _⟩) hS (fun r2 hw2 locs hS => ?_)
    obtain ⟨hfe2, hw2⟩ := hw2
    rcases hw2 with ⟨rfl, f2⟩ | ⟨rfl, f2⟩
    · have hF := (if_pos hfe2.symm).symm.trans hF
      have f2 : (0 : Int) ≤ vw.toInt ∧ vw.toInt ≤ (3 : Int) := f2
      refine lv_if_eq (tgt := 31) hx hb dX12_bearer_14 (by decide) (fun c => absurd c (by decide)) (fun _ => ?_)
      refine lv_aload_n hx hb dX12_bearer_17 rfl (lv_at hl 0 rfl) ?_
      refine lv_aload_n hx hb dX12_bearer_18 rfl (lv_at hl 0 rfl) ?_
      refine lv_iload_n hx hb dX12_bearer_19 rfl (lv_at hl 1 rfl) ?_
      refine lv_iload_n hx hb dX12_bearer_20 rfl (lv_at hl 2 rfl) ?_
      refine cr_i (va_runV (As := [.int vx, .int vw]) (rest := [.ref (ad 0)]) ⟨hx, hb, hml, hown, hts⟩ (sm_bearerOf l dC dI cs ad mu ok s.heap hP vx vw (by omega)) (cwV 2 hts (wU_V mw_6_44 mw_6_41 mw_6_43 mw_0_37 mw_1_13) rfl rfl rfl (by decide +kernel) ⟨Nat.le_of_ble_eq_true rfl, Nat.le_of_ble_eq_true rfl⟩) ⟨sz_c, va_recv hK hP (ci := 12) (q0 := 0) rfl (gM_0 cs ad mu), sz_m hK hz⟩ rfl rfl hl.1 rfl (lv_room (Nat.le_of_ble_eq_true rfl)) dX12_bearer_21 ⟨Nat.zero_le _, Nat.zero_le _⟩) hS (fun r3 hw3 locs hS => ?_)
      obtain ⟨hfe3, hw3⟩ := hw3
      have hF := mi_let hF hfe3
      refine lv_iconst (v := 1) hx hb dX12_bearer_24 (by decide) ?_
      have hFc := fr_all (wR_D mu hD) hS hA
      refine va_calli (va_runV (As := [.int r3, .int 1]) (rest := []) ⟨hx, hb, hml, hown, hts⟩ (sm_ask l dC dI cs ad mu ok s.heap hP ((wR_D mu hD).weaken (fun _ _ _ _ => trivial)) r3 1) (cwV 2 hts (wU_V mw_5_213 mw_5_210 mw_5_212 mw_0_30 mw_1_13) rfl rfl rfl (by decide +kernel) ⟨Nat.le_of_ble_eq_true rfl, Nat.le_of_ble_eq_true rfl⟩) ⟨sz_c, va_recv hK hP (ci := 12) (q0 := 0) rfl (gM_0 cs ad mu), sz_m hK hz⟩ rfl rfl hl.1 rfl (lv_room (Nat.le_of_ble_eq_true rfl)) dX12_bearer_25 ⟨Nat.zero_le _, Nat.zero_le _⟩) hS (fun q _ h => hFc q h) hFc (fun r4 xi4 t H4 locs ht hvm hw4 hB hz1 hk1 hS => ?_)
      have hP : va_P (dC, dI) vwCl (wR 21 ad (EM cs ad) xi4) H4 := by rw [← ht]; exact hB
      obtain ⟨hfe4, ok, hw4, hkp4_0⟩ := hw4
      have hF := mi_letp hF hfe4
      have kp5 : (∀ k f : Nat, Nat.testBit 510 (gpM k f) = true → xi4 k f = mu k f) := kp_t hkp4_0 (by decide) (fun _ _ _ => rfl)
      have gr4 : r4.toInt = (1 : Int) := hw4
      refine lv_goto (tgt := 32) hx hb dX12_bearer_28 (by decide) ?_
      exact W.iret (v := r4) hx hb hr (fun t ht hW => ⟨⟨r4, xi4, rfl, ⟨hF.trans hfz.symm, ok, trivial, kp5⟩, by first | (subst ht; exact hP) | (rw [ht]; exact hP) | (show va_P (dC, dI) vwCl (wR 21 ad (EM cs ad) xi4) t.heap; rw [ht]; exact hP)⟩, hS.F ht⟩) hS.2.2 dX12_bearer_32
    · have hF := (if_neg (fun h => absurd (hfe2.trans h) (by decide))).symm.trans hF
      have f2 : vw.toInt < (0 : Int) ∨ (3 : Int) < vw.toInt := f2
      refine lv_if_eq (tgt := 31) hx hb dX12_bearer_14 (by decide) (fun _ => ?_) (fun c => absurd (by decide) c)
      refine lv_iconst (v := (-1)) hx hb dX12_bearer_31 (by decide) ?_
      exact W.iret (v := (-1)) hx hb hr (fun t ht hW => ⟨⟨(-1), mu, rfl, ⟨hF.trans hfz.symm, ok, trivial, (fun _ _ _ => rfl)⟩, by first | (subst ht; exact hP) | (rw [ht]; exact hP) | (show va_P (dC, dI) vwCl (wR 21 ad (EM cs ad) mu) t.heap; rw [ht]; exact hP)⟩, hS.F ht⟩) hS.2.2 dX12_bearer_32
  · have hF := (if_neg (fun h => absurd (hfe1.trans h) (by decide))).symm.trans hF
    have f1 : vx.toInt < 0 ∨ (mu 0 8).toInt ≤ vx.toInt := f1
    refine lv_if_eq (tgt := 31) hx hb dX12_bearer_5 (by decide) (fun _ => ?_) (fun c => absurd (by decide) c)
    refine lv_iconst (v := (-1)) hx hb dX12_bearer_31 (by decide) ?_
    exact W.iret (v := (-1)) hx hb hr (fun t ht hW => ⟨⟨(-1), mu, rfl, ⟨hF.trans hfz.symm, ok, trivial, (fun _ _ _ => rfl)⟩, by first | (subst ht; exact hP) | (rw [ht]; exact hP) | (show va_P (dC, dI) vwCl (wR 21 ad (EM cs ad) mu) t.heap; rw [ht]; exact hP)⟩, hS.F ht⟩) hS.2.2 dX12_bearer_32
set_option maxHeartbeats 4000000 in
set_option maxRecDepth 100000 in
/-- sm_friendsBeside -/
theorem sm_friendsBeside (l : Launch) (dC : Nat → ClassId) (dI : Nat → Nat → Nat) (cs : Nat → ClassId) (ad : Nat → Nat) (mu : Nat → Nat → Int32) (ok : okR loM hiM mu) (H : Heap) (hP : va_P (dC, dI) vwCl (wR 21 ad (EM cs ad) mu) H) (vx : Int32) : Met l yX12_friendsBeside (wU yX12_friendsBeside cX12_friendsBeside 4 (some .int)) ({ frames := 2, cells := 0, slots := 0, locals := 46 }) (va_Pc [.ref (ad 0), .int vx] (sz_P (dC, dI) vwCl (tyM cs) H)) (va_Qi (fun (z : Int32) (_ : Unit) => z = F_sm_friendsBeside mu vx ∧ (True)) (fun _ t => t.heap = H) (fun _ => False)) 0 0 (fun _ => False) := by
  refine Met.ofW (cc := cX12_friendsBeside) (maxL := 4) (ret := (some .int)) (by decide) rfl ?_
  intro p e s m args below meth c s₁ B hml hv
  obtain ⟨rfl, hh, hK, hz⟩ := hv
  have hx := B.exec
  have hb := B.bytes
  have hr := B.returns
  have hts := atoms_spec (ws := (wU yX12_friendsBeside cX12_friendsBeside 4 (some .int))) B.pre
  have hown : s.vm.findClass RX12 = some m.cls := findClass_of_methodNamed B.named
  have hlocks := B.notSynchronized
  subst hh
  have hS : va_S (fun _ => False) s.heap s.heap [] := va_S.rf
  have hl := lv_entry ([.ref (ad 0), .int vx]) (n := 4) (Nat.le_of_ble_eq_true rfl)
  rw [lg_entry_eq]
  generalize (lg_sl ([.ref (ad 0), .int vx]) ++ List.replicate (4 - (lg_sl ([.ref (ad 0), .int vx])).length) Slot.unset).toArray = ls at hl ⊢
  have hl : lv_has ls 4 [(0, .ref (ad 0)), (1, .int vx)] := hl
  obtain ⟨fz, hfz⟩ : ∃ z, F_sm_friendsBeside mu vx = z := ⟨_, rfl⟩
  have hF := hfz
  unfold F_sm_friendsBeside at hF
  refine lv_iconst (v := 0) hx hb dX12_friendsBeside_0 (by decide) ?_
  refine lv_istore_n (lv' := [(2, .int 0), (0, .ref (ad 0)), (1, .int vx)]) hx hb dX12_friendsBeside_1 rfl hl (by decide) rfl (fun ls hl => ?_)
  refine lv_iconst (v := 0) hx hb dX12_friendsBeside_2 (by decide) ?_
  refine lv_istore_n (lv' := [(3, .int 0), (2, .int 0), (0, .ref (ad 0)), (1, .int vx)]) hx hb dX12_friendsBeside_3 rfl hl (by decide) rfl (fun ls hl => ?_)
  have loop4 : ∀ (n4 : Nat) (v2_4 : Int32) (v3_4 : Int32) (locs : List Loc) (ls : Array Slot), (7 + 1 - v3_4.toInt).toNat < n4 → (0 ≤ v3_4.toInt ∧ v3_4.toInt ≤ 7) → L_sm_friendsBeside_4_0 mu vx n4 v2_4 v3_4 = fz → va_S (fun _ => False) s.heap s.heap locs → lv_has ls 4 [(3, .int v3_4), (2, .int v2_4), (0, .ref (ad 0)), (1, .int vx)] → W p l e (headSpec (wU yX12_friendsBeside cX12_friendsBeside 4 (some .int)) ({ frames := 2, cells := 0, slots := 0, locals := 46 })).room s m ([.ref (ad 0), .int vx] : List Value).toArray below meth c s.heap locs 0 0 (MQ below (va_Qi (fun (z : Int32) (_ : Unit) => z = F_sm_friendsBeside mu vx ∧ (True)) (fun _ t => t.heap = s.heap) (fun _ => False)) ([.ref (ad 0), .int vx] : List Value).toArray s 0 0 (fun _ => False)) (F0 m 4 ls []) := by
    intro n4
    induction n4 with
    | zero => intro v2_4 v3_4 locs ls hm; exact absurd hm (Nat.not_lt_zero _)
    | succ n4 ih4 =>
      intro v2_4 v3_4 locs ls hm_4 h_v3_4 hF hS hl
      rw [L_sm_friendsBeside_4_0] at hF
      refine lv_iload_n hx hb dX12_friendsBeside_4 rfl (lv_at hl 0 rfl) ?_
      refine lv_aload_n hx hb dX12_friendsBeside_5 rfl (lv_at hl 2 rfl) ?_
      refine va_get (D := (dC, dI)) (ci := 12) (v := .int (mu 0 8)) (C := RX12) (T := TX12) (N := 46) hx hb hts inG12 hown hK hP 0 (gM_0 cs ad mu) rfl 8 (by decide) (hts _ (List.mem_cons_of_mem _ mw_5_49)) (fun _ h9 => h9) rfl dX12_friendsBeside_6 ?_
      refine lv_topi (fun y1 ey1 => ?_)
      have hF := mi_let hF ey1
      have by1 : y1.toInt = (mu 0 8).toInt := congrArg Int32.toInt ey1
      have gy1 : 0 ≤ y1.toInt ∧ y1.toInt ≤ 7 := by rw [ey1]; exact rM_0_8 ok
      refine lv_icmp_ge (tgt := 47) hx hb dX12_friendsBeside_9 (by decide) (fun c_2 => ?_) (fun c_2 => ?_)
      · have hF := (if_pos c_2).symm.trans hF
        have c_2 : y1.toInt ≤ v3_4.toInt := il_le c_2
        refine lv_iload_n hx hb dX12_friendsBeside_47 rfl (lv_at hl 1 rfl) ?_
        exact W.iret (v := v2_4) hx hb hr (fun t ht hW => ⟨⟨v2_4, (), rfl, ⟨hF.trans hfz.symm, trivial⟩, ht⟩, hS.F ht⟩) hS.2.2 dX12_friendsBeside_48
      · have hF := (if_neg c_2).symm.trans hF
        have c_2 : v3_4.toInt < y1.toInt := il_nle c_2
        refine lv_iload_n hx hb dX12_friendsBeside_12 rfl (lv_at hl 1 rfl) ?_
        refine lv_aload_n hx hb dX12_friendsBeside_13 rfl (lv_at hl 2 rfl) ?_
        refine lv_iload_n hx hb dX12_friendsBeside_14 rfl (lv_at hl 3 rfl) ?_
        refine cr_i (va_runV (As := [.int vx]) (rest := [.int v2_4]) ⟨hx, hb, hml, hown, hts⟩ (sm_besideOf l dC dI cs ad mu ok s.heap hP vx) (cwV 1 hts (wU_V mw_6_56 mw_6_53 mw_6_55 mw_0_40 mw_1_13) rfl rfl rfl (by decide +kernel) ⟨Nat.le_of_ble_eq_true rfl, Nat.le_of_ble_eq_true rfl⟩) ⟨sz_c, va_recv hK hP (ci := 12) (q0 := 0) rfl (gM_0 cs ad mu), sz_m hK hz⟩ rfl rfl hl.1 rfl (lv_room (Nat.le_of_ble_eq_true rfl)) dX12_friendsBeside_15 ⟨Nat.zero_le _, Nat.zero_le _⟩) hS (fun r3 hw3 locs hS => ?_)
        obtain ⟨hfe3, hw3⟩ := hw3
        have hF := mi_let hF hfe3
        refine lv_iload_n hx hb dX12_friendsBeside_18 rfl (lv_at hl 0 rfl) ?_
        refine cr_i (va_runS (As := [.int r3, .int v3_4]) (rest := [.int v2_4]) ⟨hx, hb, hml, hown, hts⟩ (sm_has l dC dI (tyM cs) s.heap r3 v3_4) (va_cwS 2 hts (wU_S mw_6_59 mw_6_57 mw_6_58 mw_1_13) rfl rfl rfl (by decide +kernel) ⟨Nat.le_of_ble_eq_true rfl, Nat.le_of_ble_eq_true rfl⟩) ⟨sz_c, sz_m hK hz⟩ rfl rfl hl.1 rfl (lv_room (Nat.le_of_ble_eq_true rfl)) dX12_friendsBeside_19 ⟨Nat.zero_le _, Nat.zero_le _⟩) hS (fun r4 hw4 locs hS => ?_)
        obtain ⟨hfe4, hw4⟩ := hw4
        rcases hw4 with ⟨rfl, f4⟩ | ⟨rfl, f4⟩
        · have hF := (if_pos hfe4.symm).symm.trans hF
          have f4 : rb r3 v3_4 = 1 := f4
          refine lv_if_eq (tgt := 38) hx hb dX12_friendsBeside_22 (by decide) (fun c => absurd c (by decide)) (fun _ => ?_)
          refine lv_aload_n hx hb dX12_friendsBeside_25 rfl (lv_at hl 2 rfl) ?_
          refine lv_iload_n hx hb dX12_friendsBeside_26 rfl (lv_at hl 0 rfl) ?_
          refine lv_iconst (v := 2) hx hb dX12_friendsBeside_27 (by decide) ?_
          refine cr_i (va_runV (As := [.int v3_4, .int 2]) (rest := [.int v2_4]) ⟨hx, hb, hml, hown, hts⟩ (sm_isA l dC dI cs ad mu ok s.heap hP v3_4 2 (by have h51 : (2 : Int32).toInt = 2 := rfl; omega)) (cwV 2 hts (wU_V mw_6_70 mw_6_67 mw_6_69 mw_0_41 mw_1_13) rfl rfl rfl (by decide +kernel) ⟨Nat.le_of_ble_eq_true rfl, Nat.le_of_ble_eq_true rfl⟩) ⟨sz_c, va_recv hK hP (ci := 12) (q0 := 0) rfl (gM_0 cs ad mu), sz_m hK hz⟩ rfl rfl hl.1 rfl (lv_room (Nat.le_of_ble_eq_true rfl)) dX12_friendsBeside_28 ⟨Nat.zero_le _, Nat.zero_le _⟩) hS (fun r5 hw5 locs hS => ?_)
          obtain ⟨hfe5, hw5⟩ := hw5
          have hF := mi_let hF hfe5
          have gr5 : 0 ≤ r5.toInt ∧ r5.toInt ≤ 1 := hw5
          refine lv_if_eq (tgt := 38) hx hb dX12_friendsBeside_31 (by decide) (fun c_6 => ?_) (fun c_6 => ?_)
          · have hF := (if_pos c_6).symm.trans hF
            have c_6 : r5.toInt = 0 := il_eq c_6
            refine lv_iconst (v := 0) hx hb dX12_friendsBeside_38 (by decide) ?_
            refine lv_iadd hx hb dX12_friendsBeside_39 ?_
            refine lv_topi (fun t7 et7 => ?_)
            have hF := mi_let hF et7
            refine lv_istore_n (lv' := [(2, .int t7), (3, .int v3_4), (0, .ref (ad 0)), (1, .int vx)]) hx hb dX12_friendsBeside_40 rfl hl (by decide) rfl (fun ls hl => ?_)
            refine lv_iinc (v := (v3_4 + 1)) (lv' := [(3, .int (v3_4 + 1)), (2, .int t7), (0, .ref (ad 0)), (1, .int vx)]) hx hb dX12_friendsBeside_41 hl (k := 1) rfl rfl (by decide) rfl (fun ls hl => ?_)
            refine loc_gen (P := fun w9 => lv_has ls 4 [(3, .int w9), (2, .int t7), (0, .ref (ad 0)), (1, .int vx)]) (v3_4 + 1) hl (fun w8 hw8 hl => ?_)
            have hl : lv_has ls 4 [(3, .int w8), (2, .int t7), (0, .ref (ad 0)), (1, .int vx)] := hl
            have hF := mi_let hF hw8.symm
            have aw8 : w8.toInt = v3_4.toInt + 1 := by rw [← hw8]; first | exact va1 (Int.lt_of_le_of_lt h_v3_4.2 (by decide)) | exact va1 (by omega)
            refine lv_goto (tgt := 4) hx hb dX12_friendsBeside_44 (by decide) ?_
            exact ih4 (t7) (w8)  _ _ (by first | exact ms_up hm_4 aw8 h_v3_4.2 | exact ms_lt hm_4 (by omega) (by omega) | omega) (by first | exact rg_up aw8 h_v3_4 (by omega) | omega)   hF hS (lv_sub hl [0, 1, 2, 3] rfl)
          · have hF := (if_neg c_6).symm.trans hF
            have c_6 : ¬ r5.toInt = 0 := il_ne c_6
            refine lv_iconst (v := 1) hx hb dX12_friendsBeside_34 (by decide) ?_
            refine lv_goto (tgt := 39) hx hb dX12_friendsBeside_35 (by decide) ?_
            refine lv_iadd hx hb dX12_friendsBeside_39 ?_
            refine lv_topi (fun t9 et9 => ?_)
            have hF := mi_let hF et9
            refine lv_istore_n (lv' := [(2, .int t9), (3, .int v3_4), (0, .ref (ad 0)), (1, .int vx)]) hx hb dX12_friendsBeside_40 rfl hl (by decide) rfl (fun ls hl => ?_)
            refine lv_iinc (v := (v3_4 + 1)) (lv' := [(3, .int (v3_4 + 1)), (2, .int t9), (0, .ref (ad 0)), (1, .int vx)]) hx hb dX12_friendsBeside_41 hl (k := 1) rfl rfl (by decide) rfl (fun ls hl => ?_)
            refine loc_gen (P := fun w9 => lv_has ls 4 [(3, .int w9), (2, .int t9), (0, .ref (ad 0)), (1, .int vx)]) (v3_4 + 1) hl (fun w10 hw10 hl => ?_)
            have hl : lv_has ls 4 [(3, .int w10), (2, .int t9), (0, .ref (ad 0)), (1, .int vx)] := hl
            have hF := mi_let hF hw10.symm
            have aw10 : w10.toInt = v3_4.toInt + 1 := by rw [← hw10]; first | exact va1 (Int.lt_of_le_of_lt h_v3_4.2 (by decide)) | exact va1 (by omega)
            refine lv_goto (tgt := 4) hx hb dX12_friendsBeside_44 (by decide) ?_
            exact ih4 (t9) (w10)  _ _ (by first | exact ms_up hm_4 aw10 h_v3_4.2 | exact ms_lt hm_4 (by omega) (by omega) | omega) (by first | exact rg_up aw10 h_v3_4 (by omega) | omega)   hF hS (lv_sub hl [0, 1, 2, 3] rfl)
        · have hF := (if_neg (fun h => absurd (hfe4.trans h) (by decide))).symm.trans hF
          have f4 : ¬ rb r3 v3_4 = 1 := f4
          refine lv_if_eq (tgt := 38) hx hb dX12_friendsBeside_22 (by decide) (fun _ => ?_) (fun c => absurd (by decide) c)
          refine lv_iconst (v := 0) hx hb dX12_friendsBeside_38 (by decide) ?_
          refine lv_iadd hx hb dX12_friendsBeside_39 ?_
          refine lv_topi (fun t11 et11 => ?_)
          have hF := mi_let hF et11
          refine lv_istore_n (lv' := [(2, .int t11), (3, .int v3_4), (0, .ref (ad 0)), (1, .int vx)]) hx hb dX12_friendsBeside_40 rfl hl (by decide) rfl (fun ls hl => ?_)
          refine lv_iinc (v := (v3_4 + 1)) (lv' := [(3, .int (v3_4 + 1)), (2, .int t11), (0, .ref (ad 0)), (1, .int vx)]) hx hb dX12_friendsBeside_41 hl (k := 1) rfl rfl (by decide) rfl (fun ls hl => ?_)
          refine loc_gen (P := fun w9 => lv_has ls 4 [(3, .int w9), (2, .int t11), (0, .ref (ad 0)), (1, .int vx)]) (v3_4 + 1) hl (fun w12 hw12 hl => ?_)
          have hl : lv_has ls 4 [(3, .int w12), (2, .int t11), (0, .ref (ad 0)), (1, .int vx)] := hl
          have hF := mi_let hF hw12.symm
          have aw12 : w12.toInt = v3_4.toInt + 1 := by rw [← hw12]; first | exact va1 (Int.lt_of_le_of_lt h_v3_4.2 (by decide)) | exact va1 (by omega)
          refine lv_goto (tgt := 4) hx hb dX12_friendsBeside_44 (by decide) ?_
          exact ih4 (t11) (w12)  _ _ (by first | exact ms_up hm_4 aw12 h_v3_4.2 | exact ms_lt hm_4 (by omega) (by omega) | omega) (by first | exact rg_up aw12 h_v3_4 (by omega) | omega)   hF hS (lv_sub hl [0, 1, 2, 3] rfl)
  exact loop4 10 (0) (0)  _ _ (by have h80 : (0 : Int32).toInt = 0 := rfl; have h81 : (0 : Int32).toInt = 0 := rfl; omega) (by have h80 : (0 : Int32).toInt = 0 := rfl; exact ⟨by omega, by omega⟩)   hF hS hl
set_option maxHeartbeats 4000000 in
set_option maxRecDepth 100000 in
/-- qm_mark -/
theorem qm_mark (l : Launch) (dC : Nat → ClassId) (dI : Nat → Nat → Nat) (cs : Nat → ClassId) (ad : Nat → Nat) (mu : Nat → Nat → Int32) (ok : okR loM hiM mu) (H : Heap) (hP : va_P (dC, dI) vwCl (wR 21 ad (EM cs ad) mu) H) (hD0 : va_D (fun _ => True) (wR 21 ad (EM cs ad) mu)) (vx : Int32) (vd : Int32) : Met l yX12_mark (wU yX12_mark cX12_mark 6 (some .int)) ({ frames := 3, cells := 0, slots := 0, locals := 69 }) (va_Pc [.ref (ad 0), .int vx, .int vd] (sz_P (dC, dI) vwCl (tyM cs) H)) (va_Qi (fun (z : Int32) (xi : Nat → Nat → Int32) => (z, xi) = F_qm_mark mu vx vd ∧ okR loM hiM xi ∧ (True) ∧ (∀ k f : Nat, Nat.testBit 510 (gpM k f) = true → xi k f = mu k f)) (fun xi t => va_P (dC, dI) vwCl (wR 21 ad (EM cs ad) xi) t.heap) (va_A (wR 21 ad (EM cs ad) mu) H.size)) 0 0 (va_A (wR 21 ad (EM cs ad) mu) H.size) := by
  refine Met.ofW (cc := cX12_mark) (maxL := 6) (ret := (some .int)) (by decide) rfl ?_
  intro p e s m args below meth c s₁ B hml hv
  obtain ⟨rfl, hh, hK, hz⟩ := hv
  have hx := B.exec
  have hb := B.bytes
  have hr := B.returns
  have hts := atoms_spec (ws := (wU yX12_mark cX12_mark 6 (some .int))) B.pre
  have hown : s.vm.findClass RX12 = some m.cls := findClass_of_methodNamed B.named
  have hlocks := B.notSynchronized
  subst hh
  have hD := hD0.self (sz := s.heap.size)
  have hA : ∀ q : Nat, s.heap.size ≤ q → (va_A (wR 21 ad (EM cs ad) mu) s.heap.size) q := fun q h => Or.inr h
  have hS : va_S (va_A (wR 21 ad (EM cs ad) mu) s.heap.size) s.heap s.heap [] := va_S.rf
  have hl := lv_entry ([.ref (ad 0), .int vx, .int vd]) (n := 6) (Nat.le_of_ble_eq_true rfl)
  rw [lg_entry_eq]
  generalize (lg_sl ([.ref (ad 0), .int vx, .int vd]) ++ List.replicate (6 - (lg_sl ([.ref (ad 0), .int vx, .int vd])).length) Slot.unset).toArray = ls at hl ⊢
  have hl : lv_has ls 6 [(0, .ref (ad 0)), (1, .int vx), (2, .int vd)] := hl
  obtain ⟨fz, hfz⟩ : ∃ z, F_qm_mark mu vx vd = z := ⟨_, rfl⟩
  have hF := hfz
  unfold F_qm_mark at hF
  refine lv_aload_n hx hb dX12_mark_0 rfl (lv_at hl 0 rfl) ?_
  refine lv_iload_n hx hb dX12_mark_1 rfl (lv_at hl 1 rfl) ?_
  refine cr_i (va_runV (As := [.int vx]) (rest := []) ⟨hx, hb, hml, hown, hts⟩ (sm_isOne l dC dI cs ad mu ok s.heap hP vx) (cwV 1 hts (wU_V mw_6_40 mw_6_37 mw_6_39 mw_0_36 mw_1_13) rfl rfl rfl (by decide +kernel) ⟨Nat.le_of_ble_eq_true rfl, Nat.le_of_ble_eq_true rfl⟩) ⟨sz_c, va_recv hK hP (ci := 12) (q0 := 0) rfl (gM_0 cs ad mu), sz_m hK hz⟩ rfl rfl hl.1 rfl (lv_room (Nat.le_of_ble_eq_true rfl)) dX12_mark_2 ⟨Nat.zero_le _, Nat.zero_le _⟩) hS (fun r1 hw1 locs hS => ?_)
  obtain ⟨hfe1, hw1⟩ := hw1
  rcases hw1 with ⟨rfl, f1⟩ | ⟨rfl, f1⟩
  · have hF := (if_pos hfe1.symm).symm.trans hF
    have f1 : 0 ≤ vx.toInt ∧ vx.toInt < (mu 0 8).toInt ∧ (mu 0 8).toInt ≤ 7 := f1
    refine lv_if_eq (tgt := 17) hx hb dX12_mark_5 (by decide) (fun c => absurd c (by decide)) (fun _ => ?_)
    refine lv_iload_n hx hb dX12_mark_8 rfl (lv_at hl 2 rfl) ?_
    refine lv_iconst (v := 1) hx hb dX12_mark_9 (by decide) ?_
    refine lv_iconst (v := 5) hx hb dX12_mark_10 (by decide) ?_
    refine cr_i (va_runS (As := [.int vd, .int 1, .int 5]) (rest := []) ⟨hx, hb, hml, hown, hts⟩ (sm_in l dC dI (tyM cs) s.heap vd 1 5) (va_cwS 3 hts (wU_S mw_5_189 mw_5_187 mw_5_188 mw_1_13) rfl rfl rfl (by decide +kernel) ⟨Nat.le_of_ble_eq_true rfl, Nat.le_of_ble_eq_true rfl⟩) ⟨sz_c, sz_m hK hz⟩ rfl rfl hl.1 rfl (lv_room (Nat.le_of_ble_eq_true rfl)) dX12_mark_11 ⟨Nat.zero_le _, Nat.zero_le _⟩) hS (fun r2 hw2 locs hS => ?_)
    obtain ⟨hfe2, hw2⟩ := hw2
    rcases hw2 with ⟨rfl, f2⟩ | ⟨rfl, f2⟩
    · have hF := (if_pos hfe2.symm).symm.trans hF
      have f2 : (1 : Int) ≤ vd.toInt ∧ vd.toInt ≤ (5 : Int) := f2
      refine lv_if_ne (tgt := 19) hx hb dX12_mark_14 (by decide) (fun _ => ?_) (fun c => absurd c (by decide))
      refine lv_aload_n hx hb dX12_mark_19 rfl (lv_at hl 0 rfl) ?_
      refine lv_iload_n hx hb dX12_mark_20 rfl (lv_at hl 1 rfl) ?_
      refine lv_iload_n hx hb dX12_mark_21 rfl (lv_at hl 2 rfl) ?_
      refine cr_i (va_runV (As := [.int vx, .int vd]) (rest := []) ⟨hx, hb, hml, hown, hts⟩ (sm_isA l dC dI cs ad mu ok s.heap hP vx vd (by omega)) (cwV 2 hts (wU_V mw_6_70 mw_6_67 mw_6_69 mw_0_41 mw_1_13) rfl rfl rfl (by decide +kernel) ⟨Nat.le_of_ble_eq_true rfl, Nat.le_of_ble_eq_true rfl⟩) ⟨sz_c, va_recv hK hP (ci := 12) (q0 := 0) rfl (gM_0 cs ad mu), sz_m hK hz⟩ rfl rfl hl.1 rfl (lv_room (Nat.le_of_ble_eq_true rfl)) dX12_mark_22 ⟨Nat.zero_le _, Nat.zero_le _⟩) hS (fun r3 hw3 locs hS => ?_)
      obtain ⟨hfe3, hw3⟩ := hw3
      have hF := mi_let hF hfe3
      have gr3 : 0 ≤ r3.toInt ∧ r3.toInt ≤ 1 := hw3
      refine lv_if_ne (tgt := 34) hx hb dX12_mark_25 (by decide) (fun c_4 => ?_) (fun c_4 => ?_)
      · have hF := (if_neg c_4).symm.trans hF
        have c_4 : ¬ r3.toInt = 0 := il_ne c_4
        refine lv_iconst (v := 0) hx hb dX12_mark_34 (by decide) ?_
        refine lv_istore_n (lv' := [(3, .int 0), (0, .ref (ad 0)), (1, .int vx), (2, .int vd)]) hx hb dX12_mark_35 rfl hl (by decide) rfl (fun ls hl => ?_)
        refine lv_iconst (v := 0) hx hb dX12_mark_36 (by decide) ?_
        refine lv_istore (lv' := [(4, .int 0), (3, .int 0), (0, .ref (ad 0)), (1, .int vx), (2, .int vd)]) hx hb dX12_mark_37 hl (by decide) rfl (fun ls hl => ?_)
        refine lv_iconst (v := 0) hx hb dX12_mark_39 (by decide) ?_
        refine lv_istore (lv' := [(5, .int 0), (4, .int 0), (3, .int 0), (0, .ref (ad 0)), (1, .int vx), (2, .int vd)]) hx hb dX12_mark_40 hl (by decide) rfl (fun ls hl => ?_)
        have loop42 : ∀ (n42 : Nat) (v3_42 : Int32) (v4_42 : Int32) (v5_42 : Int32) (nu42_ : Nat → Nat → Int32) (H : Heap) (locs : List Loc) (ls : Array Slot), (4 + 1 - v5_42.toInt).toNat < n42 → (0 ≤ v5_42.toInt ∧ v5_42.toInt ≤ 4) → okR loM hiM nu42_ → va_P (dC, dI) vwCl (wR 21 ad (EM cs ad) nu42_) H → (∀ k f : Nat, Nat.testBit 510 (gpM k f) = true → nu42_ k f = mu k f) → L_qm_mark_42_0 vd vx n42 v3_42 v4_42 v5_42 nu42_ = fz → va_S (va_A (wR 21 ad (EM cs ad) mu) s.heap.size) s.heap H locs → lv_has ls 6 [(5, .int v5_42), (4, .int v4_42), (3, .int v3_42), (0, .ref (ad 0)), (1, .int vx), (2, .int vd)] → W p l e (headSpec (wU yX12_mark cX12_mark 6 (some .int)) ({ frames := 3, cells := 0, slots := 0, locals := 69 })).room s m ([.ref (ad 0), .int vx, .int vd] : List Value).toArray below meth c H locs 0 0 (MQ below (va_Qi (fun (z : Int32) (xi : Nat → Nat → Int32) => (z, xi) = F_qm_mark mu vx vd ∧ okR loM hiM xi ∧ (True) ∧ (∀ k f : Nat, Nat.testBit 510 (gpM k f) = true → xi k f = mu k f)) (fun xi t => va_P (dC, dI) vwCl (wR 21 ad (EM cs ad) xi) t.heap) (va_A (wR 21 ad (EM cs ad) mu) s.heap.size)) ([.ref (ad 0), .int vx, .int vd] : List Value).toArray s 0 0 (va_A (wR 21 ad (EM cs ad) mu) s.heap.size)) (F0 m 42 ls []) := by
          intro n42
          induction n42 with
          | zero => intro v3_42 v4_42 v5_42 nu42_ H locs ls hm; exact absurd hm (Nat.not_lt_zero _)
          | succ n42 ih42 =>
            intro v3_42 v4_42 v5_42 nu42_ H locs ls hm_42 h_v5_42 ok hP kq42_0 hF hS hl
            rw [L_qm_mark_42_0] at hF
            refine lv_iload hx hb dX12_mark_42 (lv_at hl 0 rfl) ?_
            refine lv_aload_n hx hb dX12_mark_44 rfl (lv_at hl 3 rfl) ?_
            refine va_get (D := (dC, dI)) (ci := 12) (v := .int (nu42_ 0 15)) (C := RX12) (T := TX12) (N := 46) hx hb hts inG12 hown hK hP 0 (gM_0 cs ad nu42_) rfl 15 (by decide) (hts _ (List.mem_cons_of_mem _ mw_5_56)) (fun _ h9 => h9) rfl dX12_mark_45 ?_
            refine lv_topi (fun y5 ey5 => ?_)
            have hF := mi_let hF ey5
            have by5 : y5.toInt = (nu42_ 0 15).toInt := congrArg Int32.toInt ey5
            have gy5 : 0 ≤ y5.toInt ∧ y5.toInt ≤ 4 := by rw [ey5]; exact rM_0_15 ok
            refine lv_icmp_ge (tgt := 122) hx hb dX12_mark_48 (by decide) (fun c_6 => ?_) (fun c_6 => ?_)
            · have hF := (if_pos c_6).symm.trans hF
              have c_6 : y5.toInt ≤ v5_42.toInt := il_le c_6
              refine lv_iload_n hx hb dX12_mark_122 rfl (lv_at hl 5 rfl) ?_
              by_cases w7 : vd.toInt < 1 ∨ 4 < vd.toInt
              · refine lv_tableOut (tgt := 177) hx hb dX12_mark_123 w7 (by decide) ?_
                have hF := (if_pos w7).symm.trans hF
                refine lv_iload hx hb dX12_mark_177 (lv_at hl 1 rfl) ?_
                exact W.iret (v := v4_42) hx hb hr (fun t ht hW => ⟨⟨v4_42, nu42_, rfl, ⟨hF.trans hfz.symm, ok, trivial, kq42_0⟩, by first | (subst ht; exact hP) | (rw [ht]; exact hP) | (show va_P (dC, dI) vwCl (wR 21 ad (EM cs ad) nu42_) t.heap; rw [ht]; exact hP)⟩, hS.F ht⟩) hS.2.2 dX12_mark_179
              have hF := (if_neg w7).symm.trans hF
              by_cases w7_1 : vd.toInt = 1
              · refine lv_tableIn (off := 29) (tgt := 152) hx hb dX12_mark_123 (by omega) (by omega) (by rw [w7_1]; rfl) (by decide) ?_
                have hF := (if_pos w7_1).symm.trans hF
                refine lv_aload_n hx hb dX12_mark_152 rfl (lv_at hl 3 rfl) ?_
                refine lv_iload_n hx hb dX12_mark_153 rfl (lv_at hl 4 rfl) ?_
                refine lv_iconst (v := 0) hx hb dX12_mark_154 (by decide) ?_
                refine cr_i (va_runV (As := [.int vx, .int 0]) (rest := []) ⟨hx, hb, hml, hown, hts⟩ (sm_asksOf l dC dI cs ad nu42_ ok H hP vx 0 (by have h51 : (0 : Int32).toInt = 0 := rfl; omega)) (cwV 2 hts (wU_V mw_6_74 mw_6_71 mw_6_73 mw_0_42 mw_1_13) rfl rfl rfl (by decide +kernel) ⟨Nat.le_of_ble_eq_true rfl, Nat.le_of_ble_eq_true rfl⟩) ⟨sz_c, va_recv hK hP (ci := 12) (q0 := 0) rfl (gM_0 cs ad nu42_), sz_m hK hz⟩ rfl rfl hl.1 rfl (lv_room (Nat.le_of_ble_eq_true rfl)) dX12_mark_155 ⟨Nat.zero_le _, Nat.zero_le _⟩) hS (fun r8 hw8 locs hS => ?_)
                obtain ⟨hfe8, hw8⟩ := hw8
                have hF := mi_let hF hfe8
                refine lv_iconst (v := 1) hx hb dX12_mark_158 (by decide) ?_
                refine lv_isub hx hb dX12_mark_159 ?_
                refine lv_topi (fun t9 et9 => ?_)
                have hF := mi_let hF et9
                exact W.iret (v := t9) hx hb hr (fun t ht hW => ⟨⟨t9, nu42_, rfl, ⟨hF.trans hfz.symm, ok, trivial, kq42_0⟩, by first | (subst ht; exact hP) | (rw [ht]; exact hP) | (show va_P (dC, dI) vwCl (wR 21 ad (EM cs ad) nu42_) t.heap; rw [ht]; exact hP)⟩, hS.F ht⟩) hS.2.2 dX12_mark_160
              have hF := (if_neg w7_1).symm.trans hF
              by_cases w7_2 : vd.toInt = 2
              · refine lv_tableIn (off := 38) (tgt := 161) hx hb dX12_mark_123 (by omega) (by omega) (by rw [w7_2]; rfl) (by decide) ?_
                have hF := (if_pos w7_2).symm.trans hF
                refine lv_aload_n hx hb dX12_mark_161 rfl (lv_at hl 3 rfl) ?_
                refine lv_iload_n hx hb dX12_mark_162 rfl (lv_at hl 4 rfl) ?_
                refine cr_i (va_runV (As := [.int vx]) (rest := []) ⟨hx, hb, hml, hown, hts⟩ (sm_friendsBeside l dC dI cs ad nu42_ ok H hP vx) (cwV 1 hts (wU_V mw_6_78 mw_6_75 mw_6_77 mw_0_43 mw_1_13) rfl rfl rfl (by decide +kernel) ⟨Nat.le_of_ble_eq_true rfl, Nat.le_of_ble_eq_true rfl⟩) ⟨sz_c, va_recv hK hP (ci := 12) (q0 := 0) rfl (gM_0 cs ad nu42_), sz_m hK hz⟩ rfl rfl hl.1 rfl (lv_room (Nat.le_of_ble_eq_true rfl)) dX12_mark_163 ⟨Nat.zero_le _, Nat.zero_le _⟩) hS (fun r10 hw10 locs hS => ?_)
                obtain ⟨hfe10, hw10⟩ := hw10
                have hF := mi_let hF hfe10
                exact W.iret (v := r10) hx hb hr (fun t ht hW => ⟨⟨r10, nu42_, rfl, ⟨hF.trans hfz.symm, ok, trivial, kq42_0⟩, by first | (subst ht; exact hP) | (rw [ht]; exact hP) | (show va_P (dC, dI) vwCl (wR 21 ad (EM cs ad) nu42_) t.heap; rw [ht]; exact hP)⟩, hS.F ht⟩) hS.2.2 dX12_mark_166
              have hF := (if_neg w7_2).symm.trans hF
              by_cases w7_3 : vd.toInt = 3
              · refine lv_tableIn (off := 44) (tgt := 167) hx hb dX12_mark_123 (by omega) (by omega) (by rw [w7_3]; rfl) (by decide) ?_
                have hF := (if_pos w7_3).symm.trans hF
                refine lv_iload_n hx hb dX12_mark_167 rfl (lv_at hl 2 rfl) ?_
                exact W.iret (v := v3_42) hx hb hr (fun t ht hW => ⟨⟨v3_42, nu42_, rfl, ⟨hF.trans hfz.symm, ok, trivial, kq42_0⟩, by first | (subst ht; exact hP) | (rw [ht]; exact hP) | (show va_P (dC, dI) vwCl (wR 21 ad (EM cs ad) nu42_) t.heap; rw [ht]; exact hP)⟩, hS.F ht⟩) hS.2.2 dX12_mark_168
              have hF := (if_neg w7_3).symm.trans hF
              have w7_4 : vd.toInt = 4 := by omega
              refine lv_tableIn (off := 46) (tgt := 169) hx hb dX12_mark_123 (by omega) (by omega) (by rw [w7_4]; rfl) (by decide) ?_
              refine lv_aload_n hx hb dX12_mark_169 rfl (lv_at hl 3 rfl) ?_
              refine lv_iload_n hx hb dX12_mark_170 rfl (lv_at hl 4 rfl) ?_
              refine lv_bipush (v := 10) hx hb dX12_mark_171 (by decide) ?_
              refine cr_i (va_runV (As := [.int vx, .int 10]) (rest := []) ⟨hx, hb, hml, hown, hts⟩ (sm_asksOf l dC dI cs ad nu42_ ok H hP vx 10 (by have h51 : (10 : Int32).toInt = 10 := rfl; omega)) (cwV 2 hts (wU_V mw_6_74 mw_6_71 mw_6_73 mw_0_42 mw_1_13) rfl rfl rfl (by decide +kernel) ⟨Nat.le_of_ble_eq_true rfl, Nat.le_of_ble_eq_true rfl⟩) ⟨sz_c, va_recv hK hP (ci := 12) (q0 := 0) rfl (gM_0 cs ad nu42_), sz_m hK hz⟩ rfl rfl hl.1 rfl (lv_room (Nat.le_of_ble_eq_true rfl)) dX12_mark_173 ⟨Nat.zero_le _, Nat.zero_le _⟩) hS (fun r11 hw11 locs hS => ?_)
              obtain ⟨hfe11, hw11⟩ := hw11
              have hF := mi_let hF hfe11
              exact W.iret (v := r11) hx hb hr (fun t ht hW => ⟨⟨r11, nu42_, rfl, ⟨hF.trans hfz.symm, ok, trivial, kq42_0⟩, by first | (subst ht; exact hP) | (rw [ht]; exact hP) | (show va_P (dC, dI) vwCl (wR 21 ad (EM cs ad) nu42_) t.heap; rw [ht]; exact hP)⟩, hS.F ht⟩) hS.2.2 dX12_mark_176
            · have hF := (if_neg c_6).symm.trans hF
              have c_6 : v5_42.toInt < y5.toInt := il_nle c_6
              refine lv_iload_n hx hb dX12_mark_51 rfl (lv_at hl 2 rfl) ?_
              refine lv_aload_n hx hb dX12_mark_52 rfl (lv_at hl 3 rfl) ?_
              refine lv_iload hx hb dX12_mark_53 (lv_at hl 0 rfl) ?_
              refine lv_iconst (v := 1) hx hb dX12_mark_55 (by decide) ?_
              refine cr_i (va_runV (As := [.int v5_42, .int 1]) (rest := [.int v3_42]) ⟨hx, hb, hml, hown, hts⟩ (sm_letterOf l dC dI cs ad nu42_ ok H hP v5_42 1 (by have h51 : (1 : Int32).toInt = 1 := rfl; omega)) (cwV 2 hts (wU_V mw_6_48 mw_6_45 mw_6_47 mw_0_38 mw_1_13) rfl rfl rfl (by decide +kernel) ⟨Nat.le_of_ble_eq_true rfl, Nat.le_of_ble_eq_true rfl⟩) ⟨sz_c, va_recv hK hP (ci := 12) (q0 := 0) rfl (gM_0 cs ad nu42_), sz_m hK hz⟩ rfl rfl hl.1 rfl (lv_room (Nat.le_of_ble_eq_true rfl)) dX12_mark_56 ⟨Nat.zero_le _, Nat.zero_le _⟩) hS (fun r12 hw12 locs hS => ?_)
              obtain ⟨hfe12, hw12⟩ := hw12
              have hF := mi_let hF hfe12
              refine lv_iload_n hx hb dX12_mark_59 rfl (lv_at hl 4 rfl) ?_
              refine lv_icmp_ne (tgt := 76) hx hb dX12_mark_60 (by decide) (fun c_13 => ?_) (fun c_13 => ?_)
              · have hF := (if_neg c_13).symm.trans hF
                have c_13 : ¬ r12.toInt = vx.toInt := il_ne c_13
                refine lv_iconst (v := 0) hx hb dX12_mark_76 (by decide) ?_
                refine lv_iadd hx hb dX12_mark_77 ?_
                refine lv_topi (fun t14 et14 => ?_)
                have hF := mi_let hF et14
                refine lv_istore_n (lv' := [(3, .int t14), (5, .int v5_42), (4, .int v4_42), (0, .ref (ad 0)), (1, .int vx), (2, .int vd)]) hx hb dX12_mark_78 rfl hl (by decide) rfl (fun ls hl => ?_)
                refine lv_iload hx hb dX12_mark_79 (lv_at hl 2 rfl) ?_
                refine lv_aload_n hx hb dX12_mark_81 rfl (lv_at hl 3 rfl) ?_
                refine lv_iload hx hb dX12_mark_82 (lv_at hl 1 rfl) ?_
                refine lv_iconst (v := 5) hx hb dX12_mark_84 (by decide) ?_
                refine cr_i (va_runV (As := [.int v5_42, .int 5]) (rest := [.int v4_42]) ⟨hx, hb, hml, hown, hts⟩ (sm_letterOf5 l dC dI cs ad nu42_ ok H hP v5_42 (by have h51 : (5 : Int32).toInt = 5 := rfl; omega)) (cwV 2 hts (wU_V mw_6_48 mw_6_45 mw_6_47 mw_0_38 mw_1_13) rfl rfl rfl (by decide +kernel) ⟨Nat.le_of_ble_eq_true rfl, Nat.le_of_ble_eq_true rfl⟩) ⟨sz_c, va_recv hK hP (ci := 12) (q0 := 0) rfl (gM_0 cs ad nu42_), sz_m hK hz⟩ rfl rfl hl.1 rfl (lv_room (Nat.le_of_ble_eq_true rfl)) dX12_mark_85 ⟨Nat.zero_le _, Nat.zero_le _⟩) hS (fun r15 hw15 locs hS => ?_)
                obtain ⟨hfe15, hw15⟩ := hw15
                have hF := mi_let hF hfe15
                have gr15 : 0 ≤ r15.toInt ∧ r15.toInt ≤ 6 := hw15
                refine lv_iload_n hx hb dX12_mark_88 rfl (lv_at hl 4 rfl) ?_
                refine lv_icmp_ne (tgt := 112) hx hb dX12_mark_89 (by decide) (fun c_16 => ?_) (fun c_16 => ?_)
                · have hF := (if_neg c_16).symm.trans hF
                  have c_16 : ¬ r15.toInt = vx.toInt := il_ne c_16
                  refine lv_iconst (v := 0) hx hb dX12_mark_112 (by decide) ?_
                  refine lv_iadd hx hb dX12_mark_113 ?_
                  refine lv_topi (fun t17 et17 => ?_)
                  have hF := mi_let hF et17
                  refine lv_istore (lv' := [(4, .int t17), (3, .int t14), (5, .int v5_42), (0, .ref (ad 0)), (1, .int vx), (2, .int vd)]) hx hb dX12_mark_114 hl (by decide) rfl (fun ls hl => ?_)
                  refine lv_iinc (v := (v5_42 + 1)) (lv' := [(5, .int (v5_42 + 1)), (4, .int t17), (3, .int t14), (0, .ref (ad 0)), (1, .int vx), (2, .int vd)]) hx hb dX12_mark_116 hl (k := 2) rfl rfl (by decide) rfl (fun ls hl => ?_)
                  refine loc_gen (P := fun w9 => lv_has ls 6 [(5, .int w9), (4, .int t17), (3, .int t14), (0, .ref (ad 0)), (1, .int vx), (2, .int vd)]) (v5_42 + 1) hl (fun w18 hw18 hl => ?_)
                  have hl : lv_has ls 6 [(5, .int w18), (4, .int t17), (3, .int t14), (0, .ref (ad 0)), (1, .int vx), (2, .int vd)] := hl
                  have hF := mi_let hF hw18.symm
                  have aw18 : w18.toInt = v5_42.toInt + 1 := by rw [← hw18]; first | exact va1 (Int.lt_of_le_of_lt h_v5_42.2 (by decide)) | exact va1 (by omega)
                  refine lv_goto (tgt := 42) hx hb dX12_mark_119 (by decide) ?_
                  exact ih42 (t14) (t17) (w18) nu42_ _ _ _ (by first | exact ms_up hm_42 aw18 h_v5_42.2 | exact ms_lt hm_42 (by omega) (by omega) | omega) (by first | exact rg_up aw18 h_v5_42 (by omega) | omega)  ok hP  kq42_0 hF hS (lv_sub hl [0, 1, 2, 3, 4, 5] rfl)
                · have hF := (if_pos c_16).symm.trans hF
                  have c_16 : r15.toInt = vx.toInt := il_eq c_16
                  refine lv_aload_n hx hb dX12_mark_92 rfl (lv_at hl 3 rfl) ?_
                  refine lv_iload hx hb dX12_mark_93 (lv_at hl 1 rfl) ?_
                  refine cr_i (va_runV (As := [.int v5_42]) (rest := [.int v4_42]) ⟨hx, hb, hml, hown, hts⟩ (sm_isRead l dC dI cs ad nu42_ ok H hP v5_42 (by omega)) (cwV 1 hts (wU_V mw_6_52 mw_6_49 mw_6_51 mw_0_39 mw_1_13) rfl rfl rfl (by decide +kernel) ⟨Nat.le_of_ble_eq_true rfl, Nat.le_of_ble_eq_true rfl⟩) ⟨sz_c, va_recv hK hP (ci := 12) (q0 := 0) rfl (gM_0 cs ad nu42_), sz_m hK hz⟩ rfl rfl hl.1 rfl (lv_room (Nat.le_of_ble_eq_true rfl)) dX12_mark_95 ⟨Nat.zero_le _, Nat.zero_le _⟩) hS (fun r19 hw19 locs hS => ?_)
                  obtain ⟨hfe19, hw19⟩ := hw19
                  have hF := mi_let hF hfe19
                  have gr19 : 0 ≤ r19.toInt ∧ r19.toInt ≤ 1 := hw19
                  refine lv_if_ne (tgt := 112) hx hb dX12_mark_98 (by decide) (fun c_20 => ?_) (fun c_20 => ?_)
                  · have hF := (if_neg c_20).symm.trans hF
                    have c_20 : ¬ r19.toInt = 0 := il_ne c_20
                    refine lv_iconst (v := 0) hx hb dX12_mark_112 (by decide) ?_
                    refine lv_iadd hx hb dX12_mark_113 ?_
                    refine lv_topi (fun t21 et21 => ?_)
                    have hF := mi_let hF et21
                    refine lv_istore (lv' := [(4, .int t21), (3, .int t14), (5, .int v5_42), (0, .ref (ad 0)), (1, .int vx), (2, .int vd)]) hx hb dX12_mark_114 hl (by decide) rfl (fun ls hl => ?_)
                    refine lv_iinc (v := (v5_42 + 1)) (lv' := [(5, .int (v5_42 + 1)), (4, .int t21), (3, .int t14), (0, .ref (ad 0)), (1, .int vx), (2, .int vd)]) hx hb dX12_mark_116 hl (k := 2) rfl rfl (by decide) rfl (fun ls hl => ?_)
                    refine loc_gen (P := fun w9 => lv_has ls 6 [(5, .int w9), (4, .int t21), (3, .int t14), (0, .ref (ad 0)), (1, .int vx), (2, .int vd)]) (v5_42 + 1) hl (fun w22 hw22 hl => ?_)
                    have hl : lv_has ls 6 [(5, .int w22), (4, .int t21), (3, .int t14), (0, .ref (ad 0)), (1, .int vx), (2, .int vd)] := hl
                    have hF := mi_let hF hw22.symm
                    have aw22 : w22.toInt = v5_42.toInt + 1 := by rw [← hw22]; first | exact va1 (Int.lt_of_le_of_lt h_v5_42.2 (by decide)) | exact va1 (by omega)
                    refine lv_goto (tgt := 42) hx hb dX12_mark_119 (by decide) ?_
                    exact ih42 (t14) (t21) (w22) nu42_ _ _ _ (by first | exact ms_up hm_42 aw22 h_v5_42.2 | exact ms_lt hm_42 (by omega) (by omega) | omega) (by first | exact rg_up aw22 h_v5_42 (by omega) | omega)  ok hP  kq42_0 hF hS (lv_sub hl [0, 1, 2, 3, 4, 5] rfl)
                  · have hF := (if_pos c_20).symm.trans hF
                    have c_20 : r19.toInt = 0 := il_eq c_20
                    refine lv_aload_n hx hb dX12_mark_101 rfl (lv_at hl 3 rfl) ?_
                    refine lv_iload hx hb dX12_mark_102 (lv_at hl 1 rfl) ?_
                    refine lv_bipush (v := 6) hx hb dX12_mark_104 (by decide) ?_
                    refine cr_i (va_runV (As := [.int v5_42, .int 6]) (rest := [.int v4_42]) ⟨hx, hb, hml, hown, hts⟩ (sm_letterOf l dC dI cs ad nu42_ ok H hP v5_42 6 (by have h51 : (6 : Int32).toInt = 6 := rfl; omega)) (cwV 2 hts (wU_V mw_6_48 mw_6_45 mw_6_47 mw_0_38 mw_1_13) rfl rfl rfl (by decide +kernel) ⟨Nat.le_of_ble_eq_true rfl, Nat.le_of_ble_eq_true rfl⟩) ⟨sz_c, va_recv hK hP (ci := 12) (q0 := 0) rfl (gM_0 cs ad nu42_), sz_m hK hz⟩ rfl rfl hl.1 rfl (lv_room (Nat.le_of_ble_eq_true rfl)) dX12_mark_106 ⟨Nat.zero_le _, Nat.zero_le _⟩) hS (fun r23 hw23 locs hS => ?_)
                    obtain ⟨hfe23, hw23⟩ := hw23
                    have hF := mi_let hF hfe23
                    refine lv_goto (tgt := 113) hx hb dX12_mark_109 (by decide) ?_
                    refine lv_iadd hx hb dX12_mark_113 ?_
                    refine lv_topi (fun t24 et24 => ?_)
                    have hF := mi_let hF et24
                    refine lv_istore (lv' := [(4, .int t24), (3, .int t14), (5, .int v5_42), (0, .ref (ad 0)), (1, .int vx), (2, .int vd)]) hx hb dX12_mark_114 hl (by decide) rfl (fun ls hl => ?_)
                    refine lv_iinc (v := (v5_42 + 1)) (lv' := [(5, .int (v5_42 + 1)), (4, .int t24), (3, .int t14), (0, .ref (ad 0)), (1, .int vx), (2, .int vd)]) hx hb dX12_mark_116 hl (k := 2) rfl rfl (by decide) rfl (fun ls hl => ?_)
                    refine loc_gen (P := fun w9 => lv_has ls 6 [(5, .int w9), (4, .int t24), (3, .int t14), (0, .ref (ad 0)), (1, .int vx), (2, .int vd)]) (v5_42 + 1) hl (fun w25 hw25 hl => ?_)
                    have hl : lv_has ls 6 [(5, .int w25), (4, .int t24), (3, .int t14), (0, .ref (ad 0)), (1, .int vx), (2, .int vd)] := hl
                    have hF := mi_let hF hw25.symm
                    have aw25 : w25.toInt = v5_42.toInt + 1 := by rw [← hw25]; first | exact va1 (Int.lt_of_le_of_lt h_v5_42.2 (by decide)) | exact va1 (by omega)
                    refine lv_goto (tgt := 42) hx hb dX12_mark_119 (by decide) ?_
                    exact ih42 (t14) (t24) (w25) nu42_ _ _ _ (by first | exact ms_up hm_42 aw25 h_v5_42.2 | exact ms_lt hm_42 (by omega) (by omega) | omega) (by first | exact rg_up aw25 h_v5_42 (by omega) | omega)  ok hP  kq42_0 hF hS (lv_sub hl [0, 1, 2, 3, 4, 5] rfl)
              · have hF := (if_pos c_13).symm.trans hF
                have c_13 : r12.toInt = vx.toInt := il_eq c_13
                refine lv_aload_n hx hb dX12_mark_63 rfl (lv_at hl 3 rfl) ?_
                refine lv_iload hx hb dX12_mark_64 (lv_at hl 0 rfl) ?_
                refine cr_i (va_runV (As := [.int v5_42]) (rest := [.int v3_42]) ⟨hx, hb, hml, hown, hts⟩ (sm_isRead l dC dI cs ad nu42_ ok H hP v5_42 (by omega)) (cwV 1 hts (wU_V mw_6_52 mw_6_49 mw_6_51 mw_0_39 mw_1_13) rfl rfl rfl (by decide +kernel) ⟨Nat.le_of_ble_eq_true rfl, Nat.le_of_ble_eq_true rfl⟩) ⟨sz_c, va_recv hK hP (ci := 12) (q0 := 0) rfl (gM_0 cs ad nu42_), sz_m hK hz⟩ rfl rfl hl.1 rfl (lv_room (Nat.le_of_ble_eq_true rfl)) dX12_mark_66 ⟨Nat.zero_le _, Nat.zero_le _⟩) hS (fun r26 hw26 locs hS => ?_)
                obtain ⟨hfe26, hw26⟩ := hw26
                have hF := mi_let hF hfe26
                have gr26 : 0 ≤ r26.toInt ∧ r26.toInt ≤ 1 := hw26
                refine lv_if_ne (tgt := 76) hx hb dX12_mark_69 (by decide) (fun c_27 => ?_) (fun c_27 => ?_)
                · have hF := (if_neg c_27).symm.trans hF
                  have c_27 : ¬ r26.toInt = 0 := il_ne c_27
                  refine lv_iconst (v := 0) hx hb dX12_mark_76 (by decide) ?_
                  refine lv_iadd hx hb dX12_mark_77 ?_
                  refine lv_topi (fun t28 et28 => ?_)
                  have hF := mi_let hF et28
                  refine lv_istore_n (lv' := [(3, .int t28), (5, .int v5_42), (4, .int v4_42), (0, .ref (ad 0)), (1, .int vx), (2, .int vd)]) hx hb dX12_mark_78 rfl hl (by decide) rfl (fun ls hl => ?_)
                  refine lv_iload hx hb dX12_mark_79 (lv_at hl 2 rfl) ?_
                  refine lv_aload_n hx hb dX12_mark_81 rfl (lv_at hl 3 rfl) ?_
                  refine lv_iload hx hb dX12_mark_82 (lv_at hl 1 rfl) ?_
                  refine lv_iconst (v := 5) hx hb dX12_mark_84 (by decide) ?_
                  refine cr_i (va_runV (As := [.int v5_42, .int 5]) (rest := [.int v4_42]) ⟨hx, hb, hml, hown, hts⟩ (sm_letterOf5 l dC dI cs ad nu42_ ok H hP v5_42 (by have h51 : (5 : Int32).toInt = 5 := rfl; omega)) (cwV 2 hts (wU_V mw_6_48 mw_6_45 mw_6_47 mw_0_38 mw_1_13) rfl rfl rfl (by decide +kernel) ⟨Nat.le_of_ble_eq_true rfl, Nat.le_of_ble_eq_true rfl⟩) ⟨sz_c, va_recv hK hP (ci := 12) (q0 := 0) rfl (gM_0 cs ad nu42_), sz_m hK hz⟩ rfl rfl hl.1 rfl (lv_room (Nat.le_of_ble_eq_true rfl)) dX12_mark_85 ⟨Nat.zero_le _, Nat.zero_le _⟩) hS (fun r29 hw29 locs hS => ?_)
                  obtain ⟨hfe29, hw29⟩ := hw29
                  have hF := mi_let hF hfe29
                  have gr29 : 0 ≤ r29.toInt ∧ r29.toInt ≤ 6 := hw29
                  refine lv_iload_n hx hb dX12_mark_88 rfl (lv_at hl 4 rfl) ?_
                  refine lv_icmp_ne (tgt := 112) hx hb dX12_mark_89 (by decide) (fun c_30 => ?_) (fun c_30 => ?_)
                  · have hF := (if_neg c_30).symm.trans hF
                    have c_30 : ¬ r29.toInt = vx.toInt := il_ne c_30
                    refine lv_iconst (v := 0) hx hb dX12_mark_112 (by decide) ?_
                    refine lv_iadd hx hb dX12_mark_113 ?_
                    refine lv_topi (fun t31 et31 => ?_)
                    have hF := mi_let hF et31
                    refine lv_istore (lv' := [(4, .int t31), (3, .int t28), (5, .int v5_42), (0, .ref (ad 0)), (1, .int vx), (2, .int vd)]) hx hb dX12_mark_114 hl (by decide) rfl (fun ls hl => ?_)
                    refine lv_iinc (v := (v5_42 + 1)) (lv' := [(5, .int (v5_42 + 1)), (4, .int t31), (3, .int t28), (0, .ref (ad 0)), (1, .int vx), (2, .int vd)]) hx hb dX12_mark_116 hl (k := 2) rfl rfl (by decide) rfl (fun ls hl => ?_)
                    refine loc_gen (P := fun w9 => lv_has ls 6 [(5, .int w9), (4, .int t31), (3, .int t28), (0, .ref (ad 0)), (1, .int vx), (2, .int vd)]) (v5_42 + 1) hl (fun w32 hw32 hl => ?_)
                    have hl : lv_has ls 6 [(5, .int w32), (4, .int t31), (3, .int t28), (0, .ref (ad 0)), (1, .int vx), (2, .int vd)] := hl
                    have hF := mi_let hF hw32.symm
                    have aw32 : w32.toInt = v5_42.toInt + 1 := by rw [← hw32]; first | exact va1 (Int.lt_of_le_of_lt h_v5_42.2 (by decide)) | exact va1 (by omega)
                    refine lv_goto (tgt := 42) hx hb dX12_mark_119 (by decide) ?_
                    exact ih42 (t28) (t31) (w32) nu42_ _ _ _ (by first | exact ms_up hm_42 aw32 h_v5_42.2 | exact ms_lt hm_42 (by omega) (by omega) | omega) (by first | exact rg_up aw32 h_v5_42 (by omega) | omega)  ok hP  kq42_0 hF hS (lv_sub hl [0, 1, 2, 3, 4, 5] rfl)
                  · have hF := (if_pos c_30).symm.trans hF
                    have c_30 : r29.toInt = vx.toInt := il_eq c_30
                    refine lv_aload_n hx hb dX12_mark_92 rfl (lv_at hl 3 rfl) ?_
                    refine lv_iload hx hb dX12_mark_93 (lv_at hl 1 rfl) ?_
                    refine cr_i (va_runV (As := [.int v5_42]) (rest := [.int v4_42]) ⟨hx, hb, hml, hown, hts⟩ (sm_isRead l dC dI cs ad nu42_ ok H hP v5_42 (by omega)) (cwV 1 hts (wU_V mw_6_52 mw_6_49 mw_6_51 mw_0_39 mw_1_13) rfl rfl rfl (by decide +kernel) ⟨Nat.le_of_ble_eq_true rfl, Nat.le_of_ble_eq_true rfl⟩) ⟨sz_c, va_recv hK hP (ci := 12) (q0 := 0) rfl (gM_0 cs ad nu42_), sz_m hK hz⟩ rfl rfl hl.1 rfl (lv_room (Nat.le_of_ble_eq_true rfl)) dX12_mark_95 ⟨Nat.zero_le _, Nat.zero_le _⟩) hS (fun r33 hw33 locs hS => ?_)
                    obtain ⟨hfe33, hw33⟩ := hw33
                    have hF := mi_let hF hfe33
                    have gr33 : 0 ≤ r33.toInt ∧ r33.toInt ≤ 1 := hw33
                    refine lv_if_ne (tgt := 112) hx hb dX12_mark_98 (by decide) (fun c_34 => ?_) (fun c_34 => ?_)
                    · have hF := (if_neg c_34).symm.trans hF
                      have c_34 : ¬ r33.toInt = 0 := il_ne c_34
                      refine lv_iconst (v := 0) hx hb dX12_mark_112 (by decide) ?_
                      refine lv_iadd hx hb dX12_mark_113 ?_
                      refine lv_topi (fun t35 et35 => ?_)
                      have hF := mi_let hF et35
                      refine lv_istore (lv' := [(4, .int t35), (3, .int t28), (5, .int v5_42), (0, .ref (ad 0)), (1, .int vx), (2, .int vd)]) hx hb dX12_mark_114 hl (by decide) rfl (fun ls hl => ?_)
                      refine lv_iinc (v := (v5_42 + 1)) (lv' := [(5, .int (v5_42 + 1)), (4, .int t35), (3, .int t28), (0, .ref (ad 0)), (1, .int vx), (2, .int vd)]) hx hb dX12_mark_116 hl (k := 2) rfl rfl (by decide) rfl (fun ls hl => ?_)
                      refine loc_gen (P := fun w9 => lv_has ls 6 [(5, .int w9), (4, .int t35), (3, .int t28), (0, .ref (ad 0)), (1, .int vx), (2, .int vd)]) (v5_42 + 1) hl (fun w36 hw36 hl => ?_)
                      have hl : lv_has ls 6 [(5, .int w36), (4, .int t35), (3, .int t28), (0, .ref (ad 0)), (1, .int vx), (2, .int vd)] := hl
                      have hF := mi_let hF hw36.symm
                      have aw36 : w36.toInt = v5_42.toInt + 1 := by rw [← hw36]; first | exact va1 (Int.lt_of_le_of_lt h_v5_42.2 (by decide)) | exact va1 (by omega)
                      refine lv_goto (tgt := 42) hx hb dX12_mark_119 (by decide) ?_
                      exact ih42 (t28) (t35) (w36) nu42_ _ _ _ (by first | exact ms_up hm_42 aw36 h_v5_42.2 | exact ms_lt hm_42 (by omega) (by omega) | omega) (by first | exact rg_up aw36 h_v5_42 (by omega) | omega)  ok hP  kq42_0 hF hS (lv_sub hl [0, 1, 2, 3, 4, 5] rfl)
                    · have hF := (if_pos c_34).symm.trans hF
                      have c_34 : r33.toInt = 0 := il_eq c_34
                      refine lv_aload_n hx hb dX12_mark_101 rfl (lv_at hl 3 rfl) ?_
                      refine lv_iload hx hb dX12_mark_102 (lv_at hl 1 rfl) ?_
                      refine lv_bipush (v := 6) hx hb dX12_mark_104 (by decide) ?_
                      refine cr_i (va_runV (As := [.int v5_42, .int 6]) (rest := [.int v4_42]) ⟨hx, hb, hml, hown, hts⟩ (sm_letterOf l dC dI cs ad nu42_ ok H hP v5_42 6 (by have h51 : (6 : Int32).toInt = 6 := rfl; omega)) (cwV 2 hts (wU_V mw_6_48 mw_6_45 mw_6_47 mw_0_38 mw_1_13) rfl rfl rfl (by decide +kernel) ⟨Nat.le_of_ble_eq_true rfl, Nat.le_of_ble_eq_true rfl⟩) ⟨sz_c, va_recv hK hP (ci := 12) (q0 := 0) rfl (gM_0 cs ad nu42_), sz_m hK hz⟩ rfl rfl hl.1 rfl (lv_room (Nat.le_of_ble_eq_true rfl)) dX12_mark_106 ⟨Nat.zero_le _, Nat.zero_le _⟩) hS (fun r37 hw37 locs hS => ?_)
                      obtain ⟨hfe37, hw37⟩ := hw37
                      have hF := mi_let hF hfe37
                      refine lv_goto (tgt := 113) hx hb dX12_mark_109 (by decide) ?_
                      refine lv_iadd hx hb dX12_mark_113 ?_
                      refine lv_topi (fun t38 et38 => ?_)
                      have hF := mi_let hF et38
                      refine lv_istore (lv' := [(4, .int t38), (3, .int t28), (5, .int v5_42), (0, .ref (ad 0)), (1, .int vx), (2, .int vd)]) hx hb dX12_mark_114 hl (by decide) rfl (fun ls hl => ?_)
                      refine lv_iinc (v := (v5_42 + 1)) (lv' := [(5, .int (v5_42 + 1)), (4, .int t38), (3, .int t28), (0, .ref (ad 0)), (1, .int vx), (2, .int vd)]) hx hb dX12_mark_116 hl (k := 2) rfl rfl (by decide) rfl (fun ls hl => ?_)
                      refine loc_gen (P := fun w9 => lv_has ls 6 [(5, .int w9), (4, .int t38), (3, .int t28), (0, .ref (ad 0)), (1, .int vx), (2, .int vd)]) (v5_42 + 1) hl (fun w39 hw39 hl => ?_)
                      have hl : lv_has ls 6 [(5, .int w39), (4, .int t38), (3, .int t28), (0, .ref (ad 0)), (1, .int vx), (2, .int vd)] := hl
                      have hF := mi_let hF hw39.symm
                      have aw39 : w39.toInt = v5_42.toInt + 1 := by rw [← hw39]; first | exact va1 (Int.lt_of_le_of_lt h_v5_42.2 (by decide)) | exact va1 (by omega)
                      refine lv_goto (tgt := 42) hx hb dX12_mark_119 (by decide) ?_
                      exact ih42 (t28) (t38) (w39) nu42_ _ _ _ (by first | exact ms_up hm_42 aw39 h_v5_42.2 | exact ms_lt hm_42 (by omega) (by omega) | omega) (by first | exact rg_up aw39 h_v5_42 (by omega) | omega)  ok hP  kq42_0 hF hS (lv_sub hl [0, 1, 2, 3, 4, 5] rfl)
                · have hF := (if_pos c_27).symm.trans hF
                  have c_27 : r26.toInt = 0 := il_eq c_27
                  refine lv_iconst (v := 1) hx hb dX12_mark_72 (by decide) ?_
                  refine lv_goto (tgt := 77) hx hb dX12_mark_73 (by decide) ?_
                  refine lv_iadd hx hb dX12_mark_77 ?_
                  refine lv_topi (fun t40 et40 => ?_)
                  have hF := mi_let hF et40
                  refine lv_istore_n (lv' := [(3, .int t40), (5, .int v5_42), (4, .int v4_42), (0, .ref (ad 0)), (1, .int vx), (2, .int vd)]) hx hb dX12_mark_78 rfl hl (by decide) rfl (fun ls hl => ?_)
                  refine lv_iload hx hb dX12_mark_79 (lv_at hl 2 rfl) ?_
                  refine lv_aload_n hx hb dX12_mark_81 rfl (lv_at hl 3 rfl) ?_
                  refine lv_iload hx hb dX12_mark_82 (lv_at hl 1 rfl) ?_
                  refine lv_iconst (v := 5) hx hb dX12_mark_84 (by decide) ?_
                  refine cr_i (va_runV (As := [.int v5_42, .int 5]) (rest := [.int v4_42]) ⟨hx, hb, hml, hown, hts⟩ (sm_letterOf5 l dC dI cs ad nu42_ ok H hP v5_42 (by have h51 : (5 : Int32).toInt = 5 := rfl; omega)) (cwV 2 hts (wU_V mw_6_48 mw_6_45 mw_6_47 mw_0_38 mw_1_13) rfl rfl rfl (by decide +kernel) ⟨Nat.le_of_ble_eq_true rfl, Nat.le_of_ble_eq_true rfl⟩) ⟨sz_c, va_recv hK hP (ci := 12) (q0 := 0) rfl (gM_0 cs ad nu42_), sz_m hK hz⟩ rfl rfl hl.1 rfl (lv_room (Nat.le_of_ble_eq_true rfl)) dX12_mark_85 ⟨Nat.zero_le _, Nat.zero_le _⟩) hS (fun r41 hw41 locs hS => ?_)
                  obtain ⟨hfe41, hw41⟩ := hw41
                  have hF := mi_let hF hfe41
                  have gr41 : 0 ≤ r41.toInt ∧ r41.toInt ≤ 6 := hw41
                  refine lv_iload_n hx hb dX12_mark_88 rfl (lv_at hl 4 rfl) ?_
                  refine lv_icmp_ne (tgt := 112) hx hb dX12_mark_89 (by decide) (fun c_42 => ?_) (fun c_42 => ?_)
                  · have hF := (if_neg c_42).symm.trans hF
                    have c_42 : ¬ r41.toInt = vx.toInt := il_ne c_42
                    refine lv_iconst (v := 0) hx hb dX12_mark_112 (by decide) ?_
                    refine lv_iadd hx hb dX12_mark_113 ?_
                    refine lv_topi (fun t43 et43 => ?_)
                    have hF := mi_let hF et43
                    refine lv_istore (lv' := [(4, .int t43), (3, .int t40), (5, .int v5_42), (0, .ref (ad 0)), (1, .int vx), (2, .int vd)]) hx hb dX12_mark_114 hl (by decide) rfl (fun ls hl => ?_)
                    refine lv_iinc (v := (v5_42 + 1)) (lv' := [(5, .int (v5_42 + 1)), (4, .int t43), (3, .int t40), (0, .ref (ad 0)), (1, .int vx), (2, .int vd)]) hx hb dX12_mark_116 hl (k := 2) rfl rfl (by decide) rfl (fun ls hl => ?_)
                    refine loc_gen (P := fun w9 => lv_has ls 6 [(5, .int w9), (4, .int t43), (3, .int t40), (0, .ref (ad 0)), (1, .int vx), (2, .int vd)]) (v5_42 + 1) hl (fun w44 hw44 hl => ?_)
                    have hl : lv_has ls 6 [(5, .int w44), (4, .int t43), (3, .int t40), (0, .ref (ad 0)), (1, .int vx), (2, .int vd)] := hl
                    have hF := mi_let hF hw44.symm
                    have aw44 : w44.toInt = v5_42.toInt + 1 := by rw [← hw44]; first | exact va1 (Int.lt_of_le_of_lt h_v5_42.2 (by decide)) | exact va1 (by omega)
                    refine lv_goto (tgt := 42) hx hb dX12_mark_119 (by decide) ?_
                    exact ih42 (t40) (t43) (w44) nu42_ _ _ _ (by first | exact ms_up hm_42 aw44 h_v5_42.2 | exact ms_lt hm_42 (by omega) (by omega) | omega) (by first | exact rg_up aw44 h_v5_42 (by omega) | omega)  ok hP  kq42_0 hF hS (lv_sub hl [0, 1, 2, 3, 4, 5] rfl)
                  · have hF := (if_pos c_42).symm.trans hF
                    have c_42 : r41.toInt = vx.toInt := il_eq c_42
                    refine lv_aload_n hx hb dX12_mark_92 rfl (lv_at hl 3 rfl) ?_
                    refine lv_iload hx hb dX12_mark_93 (lv_at hl 1 rfl) ?_
                    refine cr_i (va_runV (As := [.int v5_42]) (rest := [.int v4_42]) ⟨hx, hb, hml, hown, hts⟩ (sm_isRead l dC dI cs ad nu42_ ok H hP v5_42 (by omega)) (cwV 1 hts (wU_V mw_6_52 mw_6_49 mw_6_51 mw_0_39 mw_1_13) rfl rfl rfl (by decide +kernel) ⟨Nat.le_of_ble_eq_true rfl, Nat.le_of_ble_eq_true rfl⟩) ⟨sz_c, va_recv hK hP (ci := 12) (q0 := 0) rfl (gM_0 cs ad nu42_), sz_m hK hz⟩ rfl rfl hl.1 rfl (lv_room (Nat.le_of_ble_eq_true rfl)) dX12_mark_95 ⟨Nat.zero_le _, Nat.zero_le _⟩) hS (fun r45 hw45 locs hS => ?_)
                    obtain ⟨hfe45, hw45⟩ := hw45
                    have hF := mi_let hF hfe45
                    have gr45 : 0 ≤ r45.toInt ∧ r45.toInt ≤ 1 := hw45
                    refine lv_if_ne (tgt := 112) hx hb dX12_mark_98 (by decide) (fun c_46 => ?_) (fun c_46 => ?_)
                    · have hF := (if_neg c_46).symm.trans hF
                      have c_46 : ¬ r45.toInt = 0 := il_ne c_46
                      refine lv_iconst (v := 0) hx hb dX12_mark_112 (by decide) ?_
                      refine lv_iadd hx hb dX12_mark_113 ?_
                      refine lv_topi (fun t47 et47 => ?_)
                      have hF := mi_let hF et47
                      refine lv_istore (lv' := [(4, .int t47), (3, .int t40), (5, .int v5_42), (0, .ref (ad 0)), (1, .int vx), (2, .int vd)]) hx hb dX12_mark_114 hl (by decide) rfl (fun ls hl => ?_)
                      refine lv_iinc (v := (v5_42 + 1)) (lv' := [(5, .int (v5_42 + 1)), (4, .int t47), (3, .int t40), (0, .ref (ad 0)), (1, .int vx), (2, .int vd)]) hx hb dX12_mark_116 hl (k := 2) rfl rfl (by decide) rfl (fun ls hl => ?_)
                      refine loc_gen (P := fun w9 => lv_has ls 6 [(5, .int w9), (4, .int t47), (3, .int t40), (0, .ref (ad 0)), (1, .int vx), (2, .int vd)]) (v5_42 + 1) hl (fun w48 hw48 hl => ?_)
                      have hl : lv_has ls 6 [(5, .int w48), (4, .int t47), (3, .int t40), (0, .ref (ad 0)), (1, .int vx), (2, .int vd)] := hl
                      have hF := mi_let hF hw48.symm
                      have aw48 : w48.toInt = v5_42.toInt + 1 := by rw [← hw48]; first | exact va1 (Int.lt_of_le_of_lt h_v5_42.2 (by decide)) | exact va1 (by omega)
                      refine lv_goto (tgt := 42) hx hb dX12_mark_119 (by decide) ?_
                      exact ih42 (t40) (t47) (w48) nu42_ _ _ _ (by first | exact ms_up hm_42 aw48 h_v5_42.2 | exact ms_lt hm_42 (by omega) (by omega) | omega) (by first | exact rg_up aw48 h_v5_42 (by omega) | omega)  ok hP  kq42_0 hF hS (lv_sub hl [0, 1, 2, 3, 4, 5] rfl)
                    · have hF := (if_pos c_46).symm.trans hF
                      have c_46 : r45.toInt = 0 := il_eq c_46
                      refine lv_aload_n hx hb dX12_mark_101 rfl (lv_at hl 3 rfl) ?_
                      refine lv_iload hx hb dX12_mark_102 (lv_at hl 1 rfl) ?_
                      refine lv_bipush (v := 6) hx hb dX12_mark_104 (by decide) ?_
                      refine cr_i (va_runV (As := [.int v5_42, .int 6]) (rest := [.int v4_42]) ⟨hx, hb, hml, hown, hts⟩ (sm_letterOf l dC dI cs ad nu42_ ok H hP v5_42 6 (by have h51 : (6 : Int32).toInt = 6 := rfl; omega)) (cwV 2 hts (wU_V mw_6_48 mw_6_45 mw_6_47 mw_0_38 mw_1_13) rfl rfl rfl (by decide +kernel) ⟨Nat.le_of_ble_eq_true rfl, Nat.le_of_ble_eq_true rfl⟩) ⟨sz_c, va_recv hK hP (ci := 12) (q0 := 0) rfl (gM_0 cs ad nu42_), sz_m hK hz⟩ rfl rfl hl.1 rfl (lv_room (Nat.le_of_ble_eq_true rfl)) dX12_mark_106 ⟨Nat.zero_le _, Nat.zero_le _⟩) hS (fun r49 hw49 locs hS => ?_)
                      obtain ⟨hfe49, hw49⟩ := hw49
                      have hF := mi_let hF hfe49
                      refine lv_goto (tgt := 113) hx hb dX12_mark_109 (by decide) ?_
                      refine lv_iadd hx hb dX12_mark_113 ?_
                      refine lv_topi (fun t50 et50 => ?_)
                      have hF := mi_let hF et50
                      refine lv_istore (lv' := [(4, .int t50), (3, .int t40), (5, .int v5_42), (0, .ref (ad 0)), (1, .int vx), (2, .int vd)]) hx hb dX12_mark_114 hl (by decide) rfl (fun ls hl => ?_)
                      refine lv_iinc (v := (v5_42 + 1)) (lv' := [(5, .int (v5_42 + 1)), (4, .int t50), (3, .int t40), (0, .ref (ad 0)), (1, .int vx), (2, .int vd)]) hx hb dX12_mark_116 hl (k := 2) rfl rfl (by decide) rfl (fun ls hl => ?_)
                      refine loc_gen (P := fun w9 => lv_has ls 6 [(5, .int w9), (4, .int t50), (3, .int t40), (0, .ref (ad 0)), (1, .int vx), (2, .int vd)]) (v5_42 + 1) hl (fun w51 hw51 hl => ?_)
                      have hl : lv_has ls 6 [(5, .int w51), (4, .int t50), (3, .int t40), (0, .ref (ad 0)), (1, .int vx), (2, .int vd)] := hl
                      have hF := mi_let hF hw51.symm
                      have aw51 : w51.toInt = v5_42.toInt + 1 := by rw [← hw51]; first | exact va1 (Int.lt_of_le_of_lt h_v5_42.2 (by decide)) | exact va1 (by omega)
                      refine lv_goto (tgt := 42) hx hb dX12_mark_119 (by decide) ?_
                      exact ih42 (t40) (t50) (w51) nu42_ _ _ _ (by first | exact ms_up hm_42 aw51 h_v5_42.2 | exact ms_lt hm_42 (by omega) (by omega) | omega) (by first | exact rg_up aw51 h_v5_42 (by omega) | omega)  ok hP  kq42_0 hF hS (lv_sub hl [0, 1, 2, 3, 4, 5] rfl)
        exact loop42 7 (0) (0) (0) mu _ _ _ (by have h80 : (0 : Int32).toInt = 0 := rfl; have h81 : (0 : Int32).toInt = 0 := rfl; have h82 : (0 : Int32).toInt = 0 := rfl; omega) (by have h80 : (0 : Int32).toInt = 0 := rfl; exact ⟨by omega, by omega⟩)  ok hP  (fun _ _ _ => rfl) hF hS hl
      · have hF := (if_pos c_4).symm.trans hF
        have c_4 : r3.toInt = 0 := il_eq c_4
        refine lv_aload_n hx hb dX12_mark_28 rfl (lv_at hl 0 rfl) ?_
        refine lv_iconst (v := 3) hx hb dX12_mark_29 (by decide) ?_
        have hFc := fr_all (wR_D mu hD) hS hA
        refine va_calli (va_runV (As := [.int 3]) (rest := []) ⟨hx, hb, hml, hown, hts⟩ (sm_meet l dC dI cs ad mu ok s.heap hP ((wR_D mu hD).weaken (fun _ _ _ _ => trivial)) 3 (by have h50 : (3 : Int32).toInt = 3 := rfl; omega)) (cwV 1 hts (wU_V mw_5_193 mw_5_190 mw_5_192 mw_0_26 mw_1_13) rfl rfl rfl (by decide +kernel) ⟨Nat.le_of_ble_eq_true rfl, Nat.le_of_ble_eq_true rfl⟩) ⟨sz_c, va_recv hK hP (ci := 12) (q0 := 0) rfl (gM_0 cs ad mu), sz_m hK hz⟩ rfl rfl hl.1 rfl (lv_room (Nat.le_of_ble_eq_true rfl)) dX12_mark_30 ⟨Nat.zero_le _, Nat.zero_le _⟩) hS (fun q _ h => hFc q h) hFc (fun r52 xi52 t H52 locs ht hvm hw52 hB hz1 hk1 hS => ?_)
        have hP : va_P (dC, dI) vwCl (wR 21 ad (EM cs ad) xi52) H52 := by rw [← ht]; exact hB
        obtain ⟨hfe52, ok, hw52, hkp52_0⟩ := hw52
        have hF := mi_letp hF hfe52
        have kp53 : (∀ k f : Nat, Nat.testBit 510 (gpM k f) = true → xi52 k f = mu k f) := kp_t hkp52_0 (by decide) (fun _ _ _ => rfl)
        have gr52 : -3 ≤ r52.toInt ∧ r52.toInt ≤ -3 := hw52
        exact W.iret (v := r52) hx hb hr (fun t ht hW => ⟨⟨r52, xi52, rfl, ⟨hF.trans hfz.symm, ok, trivial, kp53⟩, by first | (subst ht; exact hP) | (rw [ht]; exact hP) | (show va_P (dC, dI) vwCl (wR 21 ad (EM cs ad) xi52) t.heap; rw [ht]; exact hP)⟩, hS.F ht⟩) hS.2.2 dX12_mark_33
    · have hF := (if_neg (fun h => absurd (hfe2.trans h) (by decide))).symm.trans hF
      have f2 : vd.toInt < (1 : Int) ∨ (5 : Int) < vd.toInt := f2
      refine lv_if_ne (tgt := 19) hx hb dX12_mark_14 (by decide) (fun c => absurd (by decide) c) (fun _ => ?_)
      refine lv_iconst (v := (-1)) hx hb dX12_mark_17 (by decide) ?_
      exact W.iret (v := (-1)) hx hb hr (fun t ht hW => ⟨⟨(-1), mu, rfl, ⟨hF.trans hfz.symm, ok, trivial, (fun _ _ _ => rfl)⟩, by first | (subst ht; exact hP) | (rw [ht]; exact hP) | (show va_P (dC, dI) vwCl (wR 21 ad (EM cs ad) mu) t.heap; rw [ht]; exact hP)⟩, hS.F ht⟩) hS.2.2 dX12_mark_18
  · have hF := (if_neg (fun h => absurd (hfe1.trans h) (by decide))).symm.trans hF
    have f1 : vx.toInt < 0 ∨ (mu 0 8).toInt ≤ vx.toInt := f1
    refine lv_if_eq (tgt := 17) hx hb dX12_mark_5 (by decide) (fun _ => ?_) (fun c => absurd (by decide) c)
    refine lv_iconst (v := (-1)) hx hb dX12_mark_17 (by decide) ?_
    exact W.iret (v := (-1)) hx hb hr (fun t ht hW => ⟨⟨(-1), mu, rfl, ⟨hF.trans hfz.symm, ok, trivial, (fun _ _ _ => rfl)⟩, by first | (subst ht; exact hP) | (rw [ht]; exact hP) | (show va_P (dC, dI) vwCl (wR 21 ad (EM cs ad) mu) t.heap; rw [ht]; exact hP)⟩, hS.F ht⟩) hS.2.2 dX12_mark_18
set_option maxHeartbeats 4000000 in
set_option maxRecDepth 100000 in
/-- qm_purse -/
theorem qm_purse (l : Launch) (dC : Nat → ClassId) (dI : Nat → Nat → Nat) (cs : Nat → ClassId) (ad : Nat → Nat) (mu : Nat → Nat → Int32) (ok : okR loM hiM mu) (H : Heap) (hP : va_P (dC, dI) vwCl (wR 21 ad (EM cs ad) mu) H) (hD0 : va_D (fun _ => True) (wR 21 ad (EM cs ad) mu)) (vx : Int32) (vv : Int32) : Met l yX12_purse (wU yX12_purse cX12_purse 4 (some .int)) ({ frames := 2, cells := 0, slots := 0, locals := 43 }) (va_Pc [.ref (ad 0), .int vx, .int vv] (sz_P (dC, dI) vwCl (tyM cs) H)) (va_Qi (fun (z : Int32) (xi : Nat → Nat → Int32) => (z, xi) = F_qm_purse mu vx vv ∧ okR loM hiM xi ∧ (True) ∧ (∀ k f : Nat, Nat.testBit 502 (gpM k f) = true → xi k f = mu k f)) (fun xi t => va_P (dC, dI) vwCl (wR 21 ad (EM cs ad) xi) t.heap) (va_A (wR 21 ad (EM cs ad) mu) H.size)) 0 0 (va_A (wR 21 ad (EM cs ad) mu) H.size) := by
  refine Met.ofW (cc := cX12_purse) (maxL := 4) (ret := (some .int)) (by decide) rfl ?_
  intro p e s m args below meth c s₁ B hml hv
  obtain ⟨rfl, hh, hK, hz⟩ := hv
  have hx := B.exec
  have hb := B.bytes
  have hr := B.returns
  have hts := atoms_spec (ws := (wU yX12_purse cX12_purse 4 (some .int))) B.pre
  have hown : s.vm.findClass RX12 = some m.cls := findClass_of_methodNamed B.named
  have hlocks := B.notSynchronized
  subst hh
  have hD := hD0.self (sz := s.heap.size)
  have hA : ∀ q : Nat, s.heap.size ≤ q → (va_A (wR 21 ad (EM cs ad) mu) s.heap.size) q := fun q h => Or.inr h
  have hS : va_S (va_A (wR 21 ad (EM cs ad) mu) s.heap.size) s.heap s.heap [] := va_S.rf
  have hl := lv_entry ([.ref (ad 0), .int vx, .int vv]) (n := 4) (Nat.le_of_ble_eq_true rfl)
  rw [lg_entry_eq]
  generalize (lg_sl ([.ref (ad 0), .int vx, .int vv]) ++ List.replicate (4 - (lg_sl ([.ref (ad 0), .int vx, .int vv])).length) Slot.unset).toArray = ls at hl ⊢
  have hl : lv_has ls 4 [(0, .ref (ad 0)), (1, .int vx), (2, .int vv)] := hl
  obtain ⟨fz, hfz⟩ : ∃ z, F_qm_purse mu vx vv = z := ⟨_, rfl⟩
  have hF := hfz
  unfold F_qm_purse at hF
  refine lv_aload_n hx hb dX12_purse_0 rfl (lv_at hl 0 rfl) ?_
  refine lv_iload_n hx hb dX12_purse_1 rfl (lv_at hl 1 rfl) ?_
  refine cr_i (va_runV (As := [.int vx]) (rest := []) ⟨hx, hb, hml, hown, hts⟩ (sm_isOne l dC dI cs ad mu ok s.heap hP vx) (cwV 1 hts (wU_V mw_6_40 mw_6_37 mw_6_39 mw_0_36 mw_1_13) rfl rfl rfl (by decide +kernel) ⟨Nat.le_of_ble_eq_true rfl, Nat.le_of_ble_eq_true rfl⟩) ⟨sz_c, va_recv hK hP (ci := 12) (q0 := 0) rfl (gM_0 cs ad mu), sz_m hK hz⟩ rfl rfl hl.1 rfl (lv_room (Nat.le_of_ble_eq_true rfl)) dX12_purse_2 ⟨Nat.zero_le _, Nat.zero_le _⟩) hS (fun r1 hw1 locs hS => ?_)
  obtain ⟨hfe1, hw1⟩ := hw1
  rcases hw1 with ⟨rfl, f1⟩ | ⟨rfl, f1⟩
  · have hF := (if_pos hfe1.symm).symm.trans hF
    have f1 : 0 ≤ vx.toInt ∧ vx.toInt < (mu 0 8).toInt ∧ (mu 0 8).toInt ≤ 7 := f1
    refine lv_if_eq (tgt := 19) hx hb dX12_purse_5 (by decide) (fun c => absurd c (by decide)) (fun _ => ?_)
    refine lv_iload_n hx hb dX12_purse_8 rfl (lv_at hl 2 rfl) ?_
    refine lv_iconst (v := 0) hx hb dX12_purse_9 (by decide) ?_
    refine lv_sipush (v := 999) hx hb dX12_purse_10 (by decide) ?_
    refine cr_i (va_runS (As := [.int vv, .int 0, .int 999]) (rest := []) ⟨hx, hb, hml, hown, hts⟩ (sm_in l dC dI (tyM cs) s.heap vv 0 999) (va_cwS 3 hts (wU_S mw_5_189 mw_5_187 mw_5_188 mw_1_13) rfl rfl rfl (by decide +kernel) ⟨Nat.le_of_ble_eq_true rfl, Nat.le_of_ble_eq_true rfl⟩) ⟨sz_c, sz_m hK hz⟩ rfl rfl hl.1 rfl (lv_room (Nat.le_of_ble_eq_true rfl)) dX12_purse_13 ⟨Nat.zero_le _, Nat.zero_le _⟩) hS (fun r2 hw2 locs hS => ?_)
    obtain ⟨hfe2, hw2⟩ := hw2
    rcases hw2 with ⟨rfl, f2⟩ | ⟨rfl, f2⟩
    · have hF := (if_pos hfe2.symm).symm.trans hF
      have f2 : (0 : Int) ≤ vv.toInt ∧ vv.toInt ≤ (999 : Int) := f2
      refine lv_if_ne (tgt := 21) hx hb dX12_purse_16 (by decide) (fun _ => ?_) (fun c => absurd c (by decide))
      refine lv_aload_n hx hb dX12_purse_21 rfl (lv_at hl 0 rfl) ?_
      refine va_get (D := (dC, dI)) (ci := 12) (v := .ref (ad 8)) (C := RX12) (T := TX12) (N := 46) hx hb hts inG12 hown hK hP 0 (gM_0 cs ad mu) rfl 10 (by decide) (hts _ (List.mem_cons_of_mem _ mw_5_51)) (fun _ h9 => h9) rfl dX12_purse_22 ?_
      refine lv_iload_n hx hb dX12_purse_25 rfl (lv_at hl 1 rfl) ?_
      refine va_iald hx hb hK hP 8 0 (gM_8 cs ad mu) rfl (show vp_in vx 7 from vi_of (by omega) (by omega)) dX12_purse_26 ?_
      refine lv_topi (fun y3 ey3 => ?_)
      have hF := mi_let hF ey3
      have by3 : y3.toInt = (mu 8 vx.toNatClampNeg).toInt := congrArg Int32.toInt ey3
      refine lv_istore_n (lv' := [(3, .int y3), (0, .ref (ad 0)), (1, .int vx), (2, .int vv)]) hx hb dX12_purse_27 rfl hl (by decide) rfl (fun ls hl => ?_)
      refine lv_aload_n hx hb dX12_purse_28 rfl (lv_at hl 1 rfl) ?_
      refine va_get (D := (dC, dI)) (ci := 12) (v := .ref (ad 8)) (C := RX12) (T := TX12) (N := 46) hx hb hts inG12 hown hK hP 0 (gM_0 cs ad mu) rfl 10 (by decide) (hts _ (List.mem_cons_of_mem _ mw_5_51)) (fun _ h9 => h9) rfl dX12_purse_29 ?_
      refine lv_iload_n hx hb dX12_purse_32 rfl (lv_at hl 2 rfl) ?_
      refine lv_iload_n hx hb dX12_purse_33 rfl (lv_at hl 3 rfl) ?_
      refine va_iast hx hb hK hP (wR_D mu hD) hS 8 0 (gM_8 cs ad mu) rfl (show vp_in vx 7 from vi_of (by omega) (by omega)) dX12_purse_34 (fun H locs hP _ hS => ?_)
      refine wr_gen (upd (mu 8) vx.toNatClampNeg vv) hP (rfl) (fun nu4 hn4 hP => ?_)
      have hF := mi_let hF hn4.symm
      have ok := tM_8_s ok vx.toNatClampNeg hn4
      have kp5 : (∀ k f : Nat, Nat.testBit 502 (gpM k f) = true → nu4 k f = mu k f) := kp_c 3 hn4 (fun _ => rfl) (by decide) (fun _ _ _ => rfl)
      refine lv_iload_n hx hb dX12_purse_35 rfl (lv_at hl 0 rfl) ?_
      exact W.iret (v := y3) hx hb hr (fun t ht hW => ⟨⟨y3, nu4, rfl, ⟨hF.trans hfz.symm, ok, trivial, kp5⟩, by first | (subst ht; exact hP) | (rw [ht]; exact hP) | (show va_P (dC, dI) vwCl (wR 21 ad (EM cs ad) nu4) t.heap; rw [ht]; exact hP)⟩, hS.F ht⟩) hS.2.2 dX12_purse_36
    · have hF := (if_neg (fun h => absurd (hfe2.trans h) (by decide))).symm.trans hF
      have f2 : vv.toInt < (0 : Int) ∨ (999 : Int) < vv.toInt := f2
      refine lv_if_ne (tgt := 21) hx hb dX12_purse_16 (by decide) (fun c => absurd (by decide) c) (fun _ => ?_)
      refine lv_iconst (v := (-1)) hx hb dX12_purse_19 (by decide) ?_
      exact W.iret (v := (-1)) hx hb hr (fun t ht hW => ⟨⟨(-1), mu, rfl, ⟨hF.trans hfz.symm, ok, trivial, (fun _ _ _ => rfl)⟩, by first | (subst ht; exact hP) | (rw [ht]; exact hP) | (show va_P (dC, dI) vwCl (wR 21 ad (EM cs ad) mu) t.heap; rw [ht]; exact hP)⟩, hS.F ht⟩) hS.2.2 dX12_purse_20
  · have hF := (if_neg (fun h => absurd (hfe1.trans h) (by decide))).symm.trans hF
    have f1 : vx.toInt < 0 ∨ (mu 0 8).toInt ≤ vx.toInt := f1
    refine lv_if_eq (tgt := 19) hx hb dX12_purse_5 (by decide) (fun _ => ?_) (fun c => absurd (by decide) c)
    refine lv_iconst (v := (-1)) hx hb dX12_purse_19 (by decide) ?_
    exact W.iret (v := (-1)) hx hb hr (fun t ht hW => ⟨⟨(-1), mu, rfl, ⟨hF.trans hfz.symm, ok, trivial, (fun _ _ _ => rfl)⟩, by first | (subst ht; exact hP) | (rw [ht]; exact hP) | (show va_P (dC, dI) vwCl (wR 21 ad (EM cs ad) mu) t.heap; rw [ht]; exact hP)⟩, hS.F ht⟩) hS.2.2 dX12_purse_20
set_option maxHeartbeats 4000000 in
set_option maxRecDepth 100000 in
/-- qm_snow -/
theorem qm_snow (l : Launch) (dC : Nat → ClassId) (dI : Nat → Nat → Nat) (cs : Nat → ClassId) (ad : Nat → Nat) (mu : Nat → Nat → Int32) (ok : okR loM hiM mu) (H : Heap) (hP : va_P (dC, dI) vwCl (wR 21 ad (EM cs ad) mu) H) (hD0 : va_D (fun _ => True) (wR 21 ad (EM cs ad) mu)) (vi : Int32) (vs : Int32) : Met l yX12_snow (wU yX12_snow cX12_snow 4 (some .int)) ({ frames := 1, cells := 0, slots := 0, locals := 22 }) (va_Pc [.ref (ad 0), .int vi, .int vs] (sz_P (dC, dI) vwCl (tyM cs) H)) (va_Qi (fun (z : Int32) (xi : Nat → Nat → Int32) => (z, xi) = F_qm_snow mu vi vs ∧ okR loM hiM xi ∧ (True) ∧ (∀ k f : Nat, Nat.testBit 446 (gpM k f) = true → xi k f = mu k f)) (fun xi t => va_P (dC, dI) vwCl (wR 21 ad (EM cs ad) xi) t.heap) (va_A (wR 21 ad (EM cs ad) mu) H.size)) 0 0 (va_A (wR 21 ad (EM cs ad) mu) H.size) := by
  refine Met.ofW (cc := cX12_snow) (maxL := 4) (ret := (some .int)) (by decide) rfl ?_
  intro p e s m args below meth c s₁ B hml hv
  obtain ⟨rfl, hh, hK, hz⟩ := hv
  have hx := B.exec
  have hb := B.bytes
  have hr := B.returns
  have hts := atoms_spec (ws := (wU yX12_snow cX12_snow 4 (some .int))) B.pre
  have hown : s.vm.findClass RX12 = some m.cls := findClass_of_methodNamed B.named
  have hlocks := B.notSynchronized
  subst hh
  have hD := hD0.self (sz := s.heap.size)
  have hA : ∀ q : Nat, s.heap.size ≤ q → (va_A (wR 21 ad (EM cs ad) mu) s.heap.size) q := fun q h => Or.inr h
  have hS : va_S (va_A (wR 21 ad (EM cs ad) mu) s.heap.size) s.heap s.heap [] := va_S.rf
  have hl := lv_entry ([.ref (ad 0), .int vi, .int vs]) (n := 4) (Nat.le_of_ble_eq_true rfl)
  rw [lg_entry_eq]
  generalize (lg_sl ([.ref (ad 0), .int vi, .int vs]) ++ List.replicate (4 - (lg_sl ([.ref (ad 0), .int vi, .int vs])).length) Slot.unset).toArray = ls at hl ⊢
  have hl : lv_has ls 4 [(0, .ref (ad 0)), (1, .int vi), (2, .int vs)] := hl
  obtain ⟨fz, hfz⟩ : ∃ z, F_qm_snow mu vi vs = z := ⟨_, rfl⟩
  have hF := hfz
  unfold F_qm_snow at hF
  refine lv_iload_n hx hb dX12_snow_0 rfl (lv_at hl 1 rfl) ?_
  refine lv_iconst (v := 0) hx hb dX12_snow_1 (by decide) ?_
  refine lv_aload_n hx hb dX12_snow_2 rfl (lv_at hl 0 rfl) ?_
  refine va_get (D := (dC, dI)) (ci := 12) (v := .int (mu 0 11)) (C := RX12) (T := TX12) (N := 46) hx hb hts inG12 hown hK hP 0 (gM_0 cs ad mu) rfl 11 (by decide) (hts _ (List.mem_cons_of_mem _ mw_5_52)) (fun _ h9 => h9) rfl dX12_snow_3 ?_
  refine lv_topi (fun y1 ey1 => ?_)
  have hF := mi_let hF ey1
  have by1 : y1.toInt = (mu 0 11).toInt := congrArg Int32.toInt ey1
  have gy1 : 0 ≤ y1.toInt ∧ y1.toInt ≤ 12 := by rw [ey1]; exact rM_0_11 ok
  refine lv_iconst (v := 1) hx hb dX12_snow_6 (by decide) ?_
  refine lv_isub hx hb dX12_snow_7 ?_
  refine lv_topi (fun t2 et2 => ?_)
  have hF := mi_let hF et2
  have at2 : t2.toInt = y1.toInt - 1 := by rw [et2]; exact tI_sub (rfl : y1.toInt = _) (rfl : (1 : Int32).toInt = 1) (by omega) (by omega)
  refine cr_i (va_runS (As := [.int vi, .int 0, .int t2]) (rest := []) ⟨hx, hb, hml, hown, hts⟩ (sm_in l dC dI (tyM cs) s.heap vi 0 t2) (va_cwS 3 hts (wU_S mw_5_189 mw_5_187 mw_5_188 mw_1_13) rfl rfl rfl (by decide +kernel) ⟨Nat.le_of_ble_eq_true rfl, Nat.le_of_ble_eq_true rfl⟩) ⟨sz_c, sz_m hK hz⟩ rfl rfl hl.1 rfl (lv_room (Nat.le_of_ble_eq_true rfl)) dX12_snow_8 ⟨Nat.zero_le _, Nat.zero_le _⟩) hS (fun r3 hw3 locs hS => ?_)
  obtain ⟨hfe3, hw3⟩ := hw3
  rcases hw3 with ⟨rfl, f3⟩ | ⟨rfl, f3⟩
  · have hF := (if_pos hfe3.symm).symm.trans hF
    have f3 : (0 : Int) ≤ vi.toInt ∧ vi.toInt ≤ t2.toInt := f3
    refine lv_if_eq (tgt := 23) hx hb dX12_snow_11 (by decide) (fun c => absurd c (by decide)) (fun _ => ?_)
    refine lv_iload_n hx hb dX12_snow_14 rfl (lv_at hl 2 rfl) ?_
    refine lv_iconst (v := 0) hx hb dX12_snow_15 (by decide) ?_
    refine lv_iconst (v := 1) hx hb dX12_snow_16 (by decide) ?_
    refine cr_i (va_runS (As := [.int vs, .int 0, .int 1]) (rest := []) ⟨hx, hb, hml, hown, hts⟩ (sm_in l dC dI (tyM cs) s.heap vs 0 1) (va_cwS 3 hts (wU_S mw_5_189 mw_5_187 mw_5_188 mw_1_13) rfl rfl rfl (by decide +kernel) ⟨Nat.le_of_ble_eq_true rfl, Nat.le_of_ble_eq_true rfl⟩) ⟨sz_c, sz_m hK hz⟩ rfl rfl hl.1 rfl (lv_room (Nat.le_of_ble_eq_true rfl)) dX12_snow_17 ⟨Nat.zero_le _, Nat.zero_le _⟩) hS (fun r4 hw4 locs hS => ?_)
    obtain ⟨hfe4, hw4⟩ := hw4
    rcases hw4 with ⟨rfl, f4⟩ | ⟨rfl, f4⟩
    · have hF := (if_pos hfe4.symm).symm.trans hF
      have f4 : (0 : Int) ≤ vs.toInt ∧ vs.toInt ≤ (1 : Int) := f4
      refine lv_if_ne (tgt := 25) hx hb dX12_snow_20 (by decide) (fun _ => ?_) (fun c => absurd c (by decide))
      refine lv_aload_n hx hb dX12_snow_25 rfl (lv_at hl 0 rfl) ?_
      refine va_get (D := (dC, dI)) (ci := 12) (v := .int (mu 0 13)) (C := RX12) (T := TX12) (N := 46) hx hb hts inG12 hown hK hP 0 (gM_0 cs ad mu) rfl 13 (by decide) (hts _ (List.mem_cons_of_mem _ mw_5_54)) (fun _ h9 => h9) rfl dX12_snow_26 ?_
      refine lv_topi (fun y5 ey5 => ?_)
      have hF := mi_let hF ey5
      have by5 : y5.toInt = (mu 0 13).toInt := congrArg Int32.toInt ey5
      refine lv_iload_n hx hb dX12_snow_29 rfl (lv_at hl 1 rfl) ?_
      refine lv_ishr hx hb dX12_snow_30 ?_
      refine lv_topi (fun t6 et6 => ?_)
      have hF := mi_let hF et6
      refine lv_iconst (v := 1) hx hb dX12_snow_31 (by decide) ?_
      refine lv_iand hx hb dX12_snow_32 ?_
      refine lv_topi (fun t7 et7 => ?_)
      have hF := mi_let hF et7
      refine lv_istore_n (lv' := [(3, .int t7), (0, .ref (ad 0)), (1, .int vi), (2, .int vs)]) hx hb dX12_snow_33 rfl hl (by decide) rfl (fun ls hl => ?_)
      refine lv_aload_n hx hb dX12_snow_34 rfl (lv_at hl 1 rfl) ?_
      refine lv_iload_n hx hb dX12_snow_35 rfl (lv_at hl 3 rfl) ?_
      refine lv_iconst (v := 1) hx hb dX12_snow_36 (by decide) ?_
      refine lv_icmp_ne (tgt := 51) hx hb dX12_snow_37 (by decide) (fun c_8 => ?_) (fun c_8 => ?_)
      · have hF := (if_neg c_8).symm.trans hF
        have c_8 : ¬ vs.toInt = 1 := il_ne c_8
        refine lv_aload_n hx hb dX12_snow_51 rfl (lv_at hl 1 rfl) ?_
        refine va_get (D := (dC, dI)) (ci := 12) (v := .int (mu 0 13)) (C := RX12) (T := TX12) (N := 46) hx hb hts inG12 hown hK hP 0 (gM_0 cs ad mu) rfl 13 (by decide) (hts _ (List.mem_cons_of_mem _ mw_5_54)) (fun _ h9 => h9) rfl dX12_snow_52 ?_
        refine lq_i y5 ey5.symm ?_
        refine lv_iconst (v := 1) hx hb dX12_snow_55 (by decide) ?_
        refine lv_iload_n hx hb dX12_snow_56 rfl (lv_at hl 2 rfl) ?_
        refine lv_ishl hx hb dX12_snow_57 ?_
        refine lv_topi (fun t9 et9 => ?_)
        have hF := mi_let hF et9
        refine lv_iconst (v := (-1)) hx hb dX12_snow_58 (by decide) ?_
        refine lv_ixor hx hb dX12_snow_59 ?_
        refine lv_topi (fun t10 et10 => ?_)
        have hF := mi_let hF et10
        refine lv_iand hx hb dX12_snow_60 ?_
        refine lv_topi (fun t11 et11 => ?_)
        have hF := mi_let hF et11
        refine va_put (D := (dC, dI)) (ci := 12) (v := .int t11) (ty := .int) (C := RX12) (T := TX12) (N := 46) hx hb hts inG12 tyX12 tyX12_ok nmX12 hown hK hP (wR_D mu hD) hS 0 (gM_0 cs ad mu) rfl 13 (by decide) (hts _ (List.mem_cons_of_mem _ mw_5_54)) (fun _ h9 => h9) rfl (by decide +kernel) rfl rfl (Nat.le_of_ble_eq_true rfl) dX12_snow_61 (fun H locs hP _ hS => ?_)
        simp only [List.set_cons_succ, List.set_cons_zero] at hP
        refine wr_gen (upd (mu 0) 13 t11) hP ((hM_0_13 cs ad _ _)) (fun nu12 hn12 hP => ?_)
        have hF := mi_let hF hn12.symm
        have ok := tM_0_13 ok hn12
        have ez13 : y1 = nu12 0 11 := ey1.trans (up_f hn12 (by decide)).symm
        have kp14 : (∀ k f : Nat, Nat.testBit 446 (gpM k f) = true → nu12 k f = mu k f) := kp_f hn12 (by decide) (fun _ _ _ => rfl)
        have ez15 : t11 = nu12 0 13 := up_v hn12
        refine lv_iload_n hx hb dX12_snow_64 rfl (lv_at hl 0 rfl) ?_
        exact W.iret (v := t7) hx hb hr (fun t ht hW => ⟨⟨t7, nu12, rfl, ⟨hF.trans hfz.symm, ok, trivial, kp14⟩, by first | (subst ht; exact hP) | (rw [ht]; exact hP) | (show va_P (dC, dI) vwCl (wR 21 ad (EM cs ad) nu12) t.heap; rw [ht]; exact hP)⟩, hS.F ht⟩) hS.2.2 dX12_snow_65
      · have hF := (if_pos c_8).symm.trans hF
        have c_8 : vs.toInt = 1 := il_eq c_8
        refine lv_aload_n hx hb dX12_snow_40 rfl (lv_at hl 1 rfl) ?_
        refine va_get (D := (dC, dI)) (ci := 12) (v := .int (mu 0 13)) (C := RX12) (T := TX12) (N := 46) hx hb hts inG12 hown hK hP 0 (gM_0 cs ad mu) rfl 13 (by decide) (hts _ (List.mem_cons_of_mem _ mw_5_54)) (fun _ h9 => h9) rfl dX12_snow_41 ?_
        refine lq_i y5 ey5.symm ?_
        refine lv_iconst (v := 1) hx hb dX12_snow_44 (by decide) ?_
        refine lv_iload_n hx hb dX12_snow_45 rfl (lv_at hl 2 rfl) ?_
        refine lv_ishl hx hb dX12_snow_46 ?_
        refine lv_topi (fun t16 et16 => ?_)
        have hF := mi_let hF et16
        refine lv_ior hx hb dX12_snow_47 ?_
        refine lv_topi (fun t17 et17 => ?_)
        have hF := mi_let hF et17
        refine lv_goto (tgt := 61) hx hb dX12_snow_48 (by decide) ?_
        refine va_put (D := (dC, dI)) (ci := 12) (v := .int t17) (ty := .int) (C := RX12) (T := TX12) (N := 46) hx hb hts inG12 tyX12 tyX12_ok nmX12 hown hK hP (wR_D mu hD) hS 0 (gM_0 cs ad mu) rfl 13 (by decide) (hts _ (List.mem_cons_of_mem _ mw_5_54)) (fun _ h9 => h9) rfl (by decide +kernel) rfl rfl (Nat.le_of_ble_eq_true rfl) dX12_snow_61 (fun H locs hP _ hS => ?_)
        simp only [List.set_cons_succ, List.set_cons_zero] at hP
        refine wr_gen (upd (mu 0) 13 t17) hP ((hM_0_13 cs ad _ _)) (fun nu18 hn18 hP => ?_)
        have hF := mi_let hF hn18.symm
        have ok := tM_0_13 ok hn18
        have ez19 : y1 = nu18 0 11 := ey1.trans (up_f hn18 (by decide)).symm
        have kp20 : (∀ k f : Nat, Nat.testBit 446 (gpM k f) = true → nu18 k f = mu k f) := kp_f hn18 (by decide) (fun _ _ _ => rfl)
        have ez21 : t17 = nu18 0 13 := up_v hn18
        refine lv_iload_n hx hb dX12_snow_64 rfl (lv_at hl 0 rfl) ?_
        exact W.iret (v := t7) hx hb hr (fun t ht hW => ⟨⟨t7, nu18, rfl, ⟨hF.trans hfz.symm, ok, trivial, kp20⟩, by first | (subst ht; exact hP) | (rw [ht]; exact hP) | (show va_P (dC, dI) vwCl (wR 21 ad (EM cs ad) nu18) t.heap; rw [ht]; exact hP)⟩, hS.F ht⟩) hS.2.2 dX12_snow_65
    · have hF := (if_neg (fun h => absurd (hfe4.trans h) (by decide))).symm.trans hF
      have f4 : vs.toInt < (0 : Int) ∨ (1 : Int) < vs.toInt := f4
      refine lv_if_ne (tgt := 25) hx hb dX12_snow_20 (by decide) (fun c => absurd (by decide) c) (fun _ => ?_)
      refine lv_iconst (v := (-1)) hx hb dX12_snow_23 (by decide) ?_
      exact W.iret (v := (-1)) hx hb hr (fun t ht hW => ⟨⟨(-1), mu, rfl, ⟨hF.trans hfz.symm, ok, trivial, (fun _ _ _ => rfl)⟩, by first | (subst ht; exact hP) | (rw [ht]; exact hP) | (show va_P (dC, dI) vwCl (wR 21 ad (EM cs ad) mu) t.heap; rw [ht]; exact hP)⟩, hS.F ht⟩) hS.2.2 dX12_snow_24
  · have hF := (if_neg (fun h => absurd (hfe3.trans h) (by decide))).symm.trans hF
    have f3 : vi.toInt < (0 : Int) ∨ t2.toInt < vi.toInt := f3
    refine lv_if_eq (tgt := 23) hx hb dX12_snow_11 (by decide) (fun _ => ?_) (fun c => absurd (by decide) c)
    refine lv_iconst (v := (-1)) hx hb dX12_snow_23 (by decide) ?_
    exact W.iret (v := (-1)) hx hb hr (fun t ht hW => ⟨⟨(-1), mu, rfl, ⟨hF.trans hfz.symm, ok, trivial, (fun _ _ _ => rfl)⟩, by first | (subst ht; exact hP) | (rw [ht]; exact hP) | (show va_P (dC, dI) vwCl (wR 21 ad (EM cs ad) mu) t.heap; rw [ht]; exact hP)⟩, hS.F ht⟩) hS.2.2 dX12_snow_24
set_option maxHeartbeats 4000000 in
set_option maxRecDepth 100000 in
/-- qm_asks -/
theorem qm_asks (l : Launch) (dC : Nat → ClassId) (dI : Nat → Nat → Nat) (cs : Nat → ClassId) (ad : Nat → Nat) (mu : Nat → Nat → Int32) (ok : okR loM hiM mu) (H : Heap) (hP : va_P (dC, dI) vwCl (wR 21 ad (EM cs ad) mu) H) (hD0 : va_D (fun _ => True) (wR 21 ad (EM cs ad) mu)) (vx : Int32) (vp : Int32) : Met l yX12_asks (wU yX12_asks cX12_asks 3 (some .int)) ({ frames := 2, cells := 0, slots := 0, locals := 43 }) (va_Pc [.ref (ad 0), .int vx, .int vp] (sz_P (dC, dI) vwCl (tyM cs) H)) (va_Qi (fun (z : Int32) (xi : Nat → Nat → Int32) => (z, xi) = F_qm_asks mu vx vp ∧ okR loM hiM xi ∧ (True) ∧ (∀ k f : Nat, Nat.testBit 510 (gpM k f) = true → xi k f = mu k f)) (fun xi t => va_P (dC, dI) vwCl (wR 21 ad (EM cs ad) xi) t.heap) (va_A (wR 21 ad (EM cs ad) mu) H.size)) 0 0 (va_A (wR 21 ad (EM cs ad) mu) H.size) := by
  refine Met.ofW (cc := cX12_asks) (maxL := 3) (ret := (some .int)) (by decide) rfl ?_
  intro p e s m args below meth c s₁ B hml hv
  obtain ⟨rfl, hh, hK, hz⟩ := hv
  have hx := B.exec
  have hb := B.bytes
  have hr := B.returns
  have hts := atoms_spec (ws := (wU yX12_asks cX12_asks 3 (some .int))) B.pre
  have hown : s.vm.findClass RX12 = some m.cls := findClass_of_methodNamed B.named
  have hlocks := B.notSynchronized
  subst hh
  have hD := hD0.self (sz := s.heap.size)
  have hA : ∀ q : Nat, s.heap.size ≤ q → (va_A (wR 21 ad (EM cs ad) mu) s.heap.size) q := fun q h => Or.inr h
  have hS : va_S (va_A (wR 21 ad (EM cs ad) mu) s.heap.size) s.heap s.heap [] := va_S.rf
  have hl := lv_entry ([.ref (ad 0), .int vx, .int vp]) (n := 3) (Nat.le_of_ble_eq_true rfl)
  rw [lg_entry_eq]
  generalize (lg_sl ([.ref (ad 0), .int vx, .int vp]) ++ List.replicate (3 - (lg_sl ([.ref (ad 0), .int vx, .int vp])).length) Slot.unset).toArray = ls at hl ⊢
  have hl : lv_has ls 3 [(0, .ref (ad 0)), (1, .int vx), (2, .int vp)] := hl
  obtain ⟨fz, hfz⟩ : ∃ z, F_qm_asks mu vx vp = z := ⟨_, rfl⟩
  have hF := hfz
  unfold F_qm_asks at hF
  refine lv_aload_n hx hb dX12_asks_0 rfl (lv_at hl 0 rfl) ?_
  refine lv_iload_n hx hb dX12_asks_1 rfl (lv_at hl 1 rfl) ?_
  refine cr_i (va_runV (As := [.int vx]) (rest := []) ⟨hx, hb, hml, hown, hts⟩ (sm_isOne l dC dI cs ad mu ok s.heap hP vx) (cwV 1 hts (wU_V mw_6_40 mw_6_37 mw_6_39 mw_0_36 mw_1_13) rfl rfl rfl (by decide +kernel) ⟨Nat.le_of_ble_eq_true rfl, Nat.le_of_ble_eq_true rfl⟩) ⟨sz_c, va_recv hK hP (ci := 12) (q0 := 0) rfl (gM_0 cs ad mu), sz_m hK hz⟩ rfl rfl hl.1 rfl (lv_room (Nat.le_of_ble_eq_true rfl)) dX12_asks_2 ⟨Nat.zero_le _, Nat.zero_le _⟩) hS (fun r1 hw1 locs hS => ?_)
  obtain ⟨hfe1, hw1⟩ := hw1
  rcases hw1 with ⟨rfl, f1⟩ | ⟨rfl, f1⟩
  · have hF := (if_pos hfe1.symm).symm.trans hF
    have f1 : 0 ≤ vx.toInt ∧ vx.toInt < (mu 0 8).toInt ∧ (mu 0 8).toInt ≤ 7 := f1
    refine lv_if_eq (tgt := 28) hx hb dX12_asks_5 (by decide) (fun c => absurd c (by decide)) (fun _ => ?_)
    refine lv_iload_n hx hb dX12_asks_8 rfl (lv_at hl 2 rfl) ?_
    refine lv_iconst (v := 0) hx hb dX12_asks_9 (by decide) ?_
    refine lv_sipush (v := 999) hx hb dX12_asks_10 (by decide) ?_
    refine cr_i (va_runS (As := [.int vp, .int 0, .int 999]) (rest := []) ⟨hx, hb, hml, hown, hts⟩ (sm_in l dC dI (tyM cs) s.heap vp 0 999) (va_cwS 3 hts (wU_S mw_5_189 mw_5_187 mw_5_188 mw_1_13) rfl rfl rfl (by decide +kernel) ⟨Nat.le_of_ble_eq_true rfl, Nat.le_of_ble_eq_true rfl⟩) ⟨sz_c, sz_m hK hz⟩ rfl rfl hl.1 rfl (lv_room (Nat.le_of_ble_eq_true rfl)) dX12_asks_13 ⟨Nat.zero_le _, Nat.zero_le _⟩) hS (fun r2 hw2 locs hS => ?_)
    obtain ⟨hfe2, hw2⟩ := hw2
    rcases hw2 with ⟨rfl, f2⟩ | ⟨rfl, f2⟩
    · have hF := (if_pos hfe2.symm).symm.trans hF
      have f2 : (0 : Int) ≤ vp.toInt ∧ vp.toInt ≤ (999 : Int) := f2
      refine lv_if_eq (tgt := 28) hx hb dX12_asks_16 (by decide) (fun c => absurd c (by decide)) (fun _ => ?_)
      refine lv_aload_n hx hb dX12_asks_19 rfl (lv_at hl 0 rfl) ?_
      refine lv_iload_n hx hb dX12_asks_20 rfl (lv_at hl 1 rfl) ?_
      refine lv_iload_n hx hb dX12_asks_21 rfl (lv_at hl 2 rfl) ?_
      refine cr_i (va_runV (As := [.int vx, .int vp]) (rest := []) ⟨hx, hb, hml, hown, hts⟩ (sm_asksOf l dC dI cs ad mu ok s.heap hP vx vp (by omega)) (cwV 2 hts (wU_V mw_6_74 mw_6_71 mw_6_73 mw_0_42 mw_1_13) rfl rfl rfl (by decide +kernel) ⟨Nat.le_of_ble_eq_true rfl, Nat.le_of_ble_eq_true rfl⟩) ⟨sz_c, va_recv hK hP (ci := 12) (q0 := 0) rfl (gM_0 cs ad mu), sz_m hK hz⟩ rfl rfl hl.1 rfl (lv_room (Nat.le_of_ble_eq_true rfl)) dX12_asks_22 ⟨Nat.zero_le _, Nat.zero_le _⟩) hS (fun r3 hw3 locs hS => ?_)
      obtain ⟨hfe3, hw3⟩ := hw3
      have hF := mi_let hF hfe3
      refine lv_goto (tgt := 29) hx hb dX12_asks_25 (by decide) ?_
      exact W.iret (v := r3) hx hb hr (fun t ht hW => ⟨⟨r3, mu, rfl, ⟨hF.trans hfz.symm, ok, trivial, (fun _ _ _ => rfl)⟩, by first | (subst ht; exact hP) | (rw [ht]; exact hP) | (show va_P (dC, dI) vwCl (wR 21 ad (EM cs ad) mu) t.heap; rw [ht]; exact hP)⟩, hS.F ht⟩) hS.2.2 dX12_asks_29
    · have hF := (if_neg (fun h => absurd (hfe2.trans h) (by decide))).symm.trans hF
      have f2 : vp.toInt < (0 : Int) ∨ (999 : Int) < vp.toInt := f2
      refine lv_if_eq (tgt := 28) hx hb dX12_asks_16 (by decide) (fun _ => ?_) (fun c => absurd (by decide) c)
      refine lv_iconst (v := (-1)) hx hb dX12_asks_28 (by decide) ?_
      exact W.iret (v := (-1)) hx hb hr (fun t ht hW => ⟨⟨(-1), mu, rfl, ⟨hF.trans hfz.symm, ok, trivial, (fun _ _ _ => rfl)⟩, by first | (subst ht; exact hP) | (rw [ht]; exact hP) | (show va_P (dC, dI) vwCl (wR 21 ad (EM cs ad) mu) t.heap; rw [ht]; exact hP)⟩, hS.F ht⟩) hS.2.2 dX12_asks_29
  · have hF := (if_neg (fun h => absurd (hfe1.trans h) (by decide))).symm.trans hF
    have f1 : vx.toInt < 0 ∨ (mu 0 8).toInt ≤ vx.toInt := f1
    refine lv_if_eq (tgt := 28) hx hb dX12_asks_5 (by decide) (fun _ => ?_) (fun c => absurd (by decide) c)
    refine lv_iconst (v := (-1)) hx hb dX12_asks_28 (by decide) ?_
    exact W.iret (v := (-1)) hx hb hr (fun t ht hW => ⟨⟨(-1), mu, rfl, ⟨hF.trans hfz.symm, ok, trivial, (fun _ _ _ => rfl)⟩, by first | (subst ht; exact hP) | (rw [ht]; exact hP) | (show va_P (dC, dI) vwCl (wR 21 ad (EM cs ad) mu) t.heap; rw [ht]; exact hP)⟩, hS.F ht⟩) hS.2.2 dX12_asks_29
set_option maxHeartbeats 4000000 in
set_option maxRecDepth 100000 in
/-- qm_beside -/
theorem qm_beside (l : Launch) (dC : Nat → ClassId) (dI : Nat → Nat → Nat) (cs : Nat → ClassId) (ad : Nat → Nat) (mu : Nat → Nat → Int32) (ok : okR loM hiM mu) (H : Heap) (hP : va_P (dC, dI) vwCl (wR 21 ad (EM cs ad) mu) H) (hD0 : va_D (fun _ => True) (wR 21 ad (EM cs ad) mu)) (vx : Int32) : Met l yX12_beside (wU yX12_beside cX12_beside 2 (some .int)) ({ frames := 2, cells := 0, slots := 0, locals := 46 }) (va_Pc [.ref (ad 0), .int vx] (sz_P (dC, dI) vwCl (tyM cs) H)) (va_Qi (fun (z : Int32) (xi : Nat → Nat → Int32) => (z, xi) = F_qm_beside mu vx ∧ okR loM hiM xi ∧ (True) ∧ (∀ k f : Nat, Nat.testBit 510 (gpM k f) = true → xi k f = mu k f)) (fun xi t => va_P (dC, dI) vwCl (wR 21 ad (EM cs ad) xi) t.heap) (va_A (wR 21 ad (EM cs ad) mu) H.size)) 0 0 (va_A (wR 21 ad (EM cs ad) mu) H.size) := by
  refine Met.ofW (cc := cX12_beside) (maxL := 2) (ret := (some .int)) (by decide) rfl ?_
  intro p e s m args below meth c s₁ B hml hv
  obtain ⟨rfl, hh, hK, hz⟩ := hv
  have hx := B.exec
  have hb := B.bytes
  have hr := B.returns
  have hts := atoms_spec (ws := (wU yX12_beside cX12_beside 2 (some .int))) B.pre
  have hown : s.vm.findClass RX12 = some m.cls := findClass_of_methodNamed B.named
  have hlocks := B.notSynchronized
  subst hh
  have hD := hD0.self (sz := s.heap.size)
  have hA : ∀ q : Nat, s.heap.size ≤ q → (va_A (wR 21 ad (EM cs ad) mu) s.heap.size) q := fun q h => Or.inr h
  have hS : va_S (va_A (wR 21 ad (EM cs ad) mu) s.heap.size) s.heap s.heap [] := va_S.rf
  have hl := lv_entry ([.ref (ad 0), .int vx]) (n := 2) (Nat.le_of_ble_eq_true rfl)
  rw [lg_entry_eq]
  generalize (lg_sl ([.ref (ad 0), .int vx]) ++ List.replicate (2 - (lg_sl ([.ref (ad 0), .int vx])).length) Slot.unset).toArray = ls at hl ⊢
  have hl : lv_has ls 2 [(0, .ref (ad 0)), (1, .int vx)] := hl
  obtain ⟨fz, hfz⟩ : ∃ z, F_qm_beside mu vx = z := ⟨_, rfl⟩
  have hF := hfz
  unfold F_qm_beside at hF
  refine lv_aload_n hx hb dX12_beside_0 rfl (lv_at hl 0 rfl) ?_
  refine lv_iload_n hx hb dX12_beside_1 rfl (lv_at hl 1 rfl) ?_
  refine cr_i (va_runV (As := [.int vx]) (rest := []) ⟨hx, hb, hml, hown, hts⟩ (sm_isOne l dC dI cs ad mu ok s.heap hP vx) (cwV 1 hts (wU_V mw_6_40 mw_6_37 mw_6_39 mw_0_36 mw_1_13) rfl rfl rfl (by decide +kernel) ⟨Nat.le_of_ble_eq_true rfl, Nat.le_of_ble_eq_true rfl⟩) ⟨sz_c, va_recv hK hP (ci := 12) (q0 := 0) rfl (gM_0 cs ad mu), sz_m hK hz⟩ rfl rfl hl.1 rfl (lv_room (Nat.le_of_ble_eq_true rfl)) dX12_beside_2 ⟨Nat.zero_le _, Nat.zero_le _⟩) hS (fun r1 hw1 locs hS => ?_)
  obtain ⟨hfe1, hw1⟩ := hw1
  rcases hw1 with ⟨rfl, f1⟩ | ⟨rfl, f1⟩
  · have hF := (if_pos hfe1.symm).symm.trans hF
    have f1 : 0 ≤ vx.toInt ∧ vx.toInt < (mu 0 8).toInt ∧ (mu 0 8).toInt ≤ 7 := f1
    refine lv_if_eq (tgt := 16) hx hb dX12_beside_5 (by decide) (fun c => absurd c (by decide)) (fun _ => ?_)
    refine lv_aload_n hx hb dX12_beside_8 rfl (lv_at hl 0 rfl) ?_
    refine lv_iload_n hx hb dX12_beside_9 rfl (lv_at hl 1 rfl) ?_
    refine cr_i (va_runV (As := [.int vx]) (rest := []) ⟨hx, hb, hml, hown, hts⟩ (sm_besideOf l dC dI cs ad mu ok s.heap hP vx) (cwV 1 hts (wU_V mw_6_56 mw_6_53 mw_6_55 mw_0_40 mw_1_13) rfl rfl rfl (by decide +kernel) ⟨Nat.le_of_ble_eq_true rfl, Nat.le_of_ble_eq_true rfl⟩) ⟨sz_c, va_recv hK hP (ci := 12) (q0 := 0) rfl (gM_0 cs ad mu), sz_m hK hz⟩ rfl rfl hl.1 rfl (lv_room (Nat.le_of_ble_eq_true rfl)) dX12_beside_10 ⟨Nat.zero_le _, Nat.zero_le _⟩) hS (fun r2 hw2 locs hS => ?_)
    obtain ⟨hfe2, hw2⟩ := hw2
    have hF := mi_let hF hfe2
    refine lv_goto (tgt := 17) hx hb dX12_beside_13 (by decide) ?_
    exact W.iret (v := r2) hx hb hr (fun t ht hW => ⟨⟨r2, mu, rfl, ⟨hF.trans hfz.symm, ok, trivial, (fun _ _ _ => rfl)⟩, by first | (subst ht; exact hP) | (rw [ht]; exact hP) | (show va_P (dC, dI) vwCl (wR 21 ad (EM cs ad) mu) t.heap; rw [ht]; exact hP)⟩, hS.F ht⟩) hS.2.2 dX12_beside_17
  · have hF := (if_neg (fun h => absurd (hfe1.trans h) (by decide))).symm.trans hF
    have f1 : vx.toInt < 0 ∨ (mu 0 8).toInt ≤ vx.toInt := f1
    refine lv_if_eq (tgt := 16) hx hb dX12_beside_5 (by decide) (fun _ => ?_) (fun c => absurd (by decide) c)
    refine lv_iconst (v := (-1)) hx hb dX12_beside_16 (by decide) ?_
    exact W.iret (v := (-1)) hx hb hr (fun t ht hW => ⟨⟨(-1), mu, rfl, ⟨hF.trans hfz.symm, ok, trivial, (fun _ _ _ => rfl)⟩, by first | (subst ht; exact hP) | (rw [ht]; exact hP) | (show va_P (dC, dI) vwCl (wR 21 ad (EM cs ad) mu) t.heap; rw [ht]; exact hP)⟩, hS.F ht⟩) hS.2.2 dX12_beside_17
set_option maxHeartbeats 4000000 in
set_option maxRecDepth 100000 in
/-- qm_send -/
theorem qm_send (l : Launch) (dC : Nat → ClassId) (dI : Nat → Nat → Nat) (cs : Nat → ClassId) (ad : Nat → Nat) (mu : Nat → Nat → Int32) (ok : okR loM hiM mu) (H : Heap) (hP : va_P (dC, dI) vwCl (wR 21 ad (EM cs ad) mu) H) (hD0 : va_D (fun _ => True) (wR 21 ad (EM cs ad) mu)) (vx : Int32) (vy : Int32) (vw : Int32) (vf : Int32) : Met l yX12_send (wU yX12_send cX12_send 6 (some .int)) ({ frames := 3, cells := 0, slots := 0, locals := 65 }) (va_Pc [.ref (ad 0), .int vx, .int vy, .int vw, .int vf] (sz_P (dC, dI) vwCl (tyM cs) H)) (va_Qi (fun (z : Int32) (xi : Nat → Nat → Int32) => (z, xi) = F_qm_send mu vx vy vw vf ∧ okR loM hiM xi ∧ (True) ∧ (∀ k f : Nat, Nat.testBit 246 (gpM k f) = true → xi k f = mu k f)) (fun xi t => va_P (dC, dI) vwCl (wR 21 ad (EM cs ad) xi) t.heap) (va_A (wR 21 ad (EM cs ad) mu) H.size)) 0 0 (va_A (wR 21 ad (EM cs ad) mu) H.size) := by
  refine Met.ofW (cc := cX12_send) (maxL := 6) (ret := (some .int)) (by decide) rfl ?_
  intro p e s m args below meth c s₁ B hml hv
  obtain ⟨rfl, hh, hK, hz⟩ := hv
  have hx := B.exec
  have hb := B.bytes
  have hr := B.returns
  have hts := atoms_spec (ws := (wU yX12_send cX12_send 6 (some .int))) B.pre
  have hown : s.vm.findClass RX12 = some m.cls := findClass_of_methodNamed B.named
  have hlocks := B.notSynchronized
  subst hh
  have hD := hD0.self (sz := s.heap.size)
  have hA : ∀ q : Nat, s.heap.size ≤ q → (va_A (wR 21 ad (EM cs ad) mu) s.heap.size) q := fun q h => Or.inr h
  have hS : va_S (va_A (wR 21 ad (EM cs ad) mu) s.heap.size) s.heap s.heap [] := va_S.rf
  have hl := lv_entry ([.ref (ad 0), .int vx, .int vy, .int vw, .int vf]) (n := 6) (Nat.le_of_ble_eq_true rfl)
  rw [lg_entry_eq]
  generalize (lg_sl ([.ref (ad 0), .int vx, .int vy, .int vw, .int vf]) ++ List.replicate (6 - (lg_sl ([.ref (ad 0), .int vx, .int vy, .int vw, .int vf])).length) Slot.unset).toArray = ls at hl ⊢
  have hl : lv_has ls 6 [(0, .ref (ad 0)), (1, .int vx), (2, .int vy), (3, .int vw), (4, .int vf)] := hl
  obtain ⟨fz, hfz⟩ : ∃ z, F_qm_send mu vx vy vw vf = z := ⟨_, rfl⟩
  have hF := hfz
  unfold F_qm_send at hF
  refine lv_aload_n hx hb dX12_send_0 rfl (lv_at hl 0 rfl) ?_
  refine lv_iload_n hx hb dX12_send_1 rfl (lv_at hl 1 rfl) ?_
  refine lv_iload_n hx hb dX12_send_2 rfl (lv_at hl 2 rfl) ?_
  refine cr_i (va_runV (As := [.int vx, .int vy]) (rest := []) ⟨hx, hb, hml, hown, hts⟩ (sm_areTwo l dC dI cs ad mu ok s.heap hP vx vy) (cwV 2 hts (wU_V mw_6_102 mw_6_99 mw_6_101 mw_0_44 mw_1_13) rfl rfl rfl (by decide +kernel) ⟨Nat.le_of_ble_eq_true rfl, Nat.le_of_ble_eq_true rfl⟩) ⟨sz_c, va_recv hK hP (ci := 12) (q0 := 0) rfl (gM_0 cs ad mu), sz_m hK hz⟩ rfl rfl hl.1 rfl (lv_room (Nat.le_of_ble_eq_true rfl)) dX12_send_3 ⟨Nat.zero_le _, Nat.zero_le _⟩) hS (fun r1 hw1 locs hS => ?_)
  obtain ⟨hfe1, hw1⟩ := hw1
  rcases hw1 with ⟨rfl, f1⟩ | ⟨rfl, f1⟩
  · have hF := (if_pos hfe1.symm).symm.trans hF
    have f1 : 0 ≤ vx.toInt ∧ vx.toInt < (mu 0 8).toInt ∧ 0 ≤ vy.toInt ∧ vy.toInt < (mu 0 8).toInt ∧ (mu 0 8).toInt ≤ 7 := f1
    refine lv_if_eq (tgt := 30) hx hb dX12_send_6 (by decide) (fun c => absurd c (by decide)) (fun _ => ?_)
    refine lv_iload_n hx hb dX12_send_9 rfl (lv_at hl 3 rfl) ?_
    refine lv_iconst (v := 0) hx hb dX12_send_10 (by decide) ?_
    refine lv_bipush (v := 99) hx hb dX12_send_11 (by decide) ?_
    refine cr_i (va_runS (As := [.int vw, .int 0, .int 99]) (rest := []) ⟨hx, hb, hml, hown, hts⟩ (sm_in l dC dI (tyM cs) s.heap vw 0 99) (va_cwS 3 hts (wU_S mw_5_189 mw_5_187 mw_5_188 mw_1_13) rfl rfl rfl (by decide +kernel) ⟨Nat.le_of_ble_eq_true rfl, Nat.le_of_ble_eq_true rfl⟩) ⟨sz_c, sz_m hK hz⟩ rfl rfl hl.1 rfl (lv_room (Nat.le_of_ble_eq_true rfl)) dX12_send_13 ⟨Nat.zero_le _, Nat.zero_le _⟩) hS (fun r2 hw2 locs hS => ?_)
    obtain ⟨hfe2, hw2⟩ := hw2
    rcases hw2 with ⟨rfl, f2⟩ | ⟨rfl, f2⟩
    · have hF := (if_pos hfe2.symm).symm.trans hF
      have f2 : (0 : Int) ≤ vw.toInt ∧ vw.toInt ≤ (99 : Int) := f2
      refine lv_if_eq (tgt := 30) hx hb dX12_send_16 (by decide) (fun c => absurd c (by decide)) (fun _ => ?_)
      refine lv_iload hx hb dX12_send_19 (lv_at hl 4 rfl) ?_
      refine lv_iconst (v := 0) hx hb dX12_send_21 (by decide) ?_
      refine lv_bipush (v := 9) hx hb dX12_send_22 (by decide) ?_
      refine cr_i (va_runS (As := [.int vf, .int 0, .int 9]) (rest := []) ⟨hx, hb, hml, hown, hts⟩ (sm_in l dC dI (tyM cs) s.heap vf 0 9) (va_cwS 3 hts (wU_S mw_5_189 mw_5_187 mw_5_188 mw_1_13) rfl rfl rfl (by decide +kernel) ⟨Nat.le_of_ble_eq_true rfl, Nat.le_of_ble_eq_true rfl⟩) ⟨sz_c, sz_m hK hz⟩ rfl rfl hl.1 rfl (lv_room (Nat.le_of_ble_eq_true rfl)) dX12_send_24 ⟨Nat.zero_le _, Nat.zero_le _⟩) hS (fun r3 hw3 locs hS => ?_)
      obtain ⟨hfe3, hw3⟩ := hw3
      rcases hw3 with ⟨rfl, f3⟩ | ⟨rfl, f3⟩
      · have hF := (if_pos hfe3.symm).symm.trans hF
        have f3 : (0 : Int) ≤ vf.toInt ∧ vf.toInt ≤ (9 : Int) := f3
        refine lv_if_ne (tgt := 32) hx hb dX12_send_27 (by decide) (fun _ => ?_) (fun c => absurd c (by decide))
        refine lv_aload_n hx hb dX12_send_32 rfl (lv_at hl 0 rfl) ?_
        refine va_get (D := (dC, dI)) (ci := 12) (v := .int (mu 0 15)) (C := RX12) (T := TX12) (N := 46) hx hb hts inG12 hown hK hP 0 (gM_0 cs ad mu) rfl 15 (by decide) (hts _ (List.mem_cons_of_mem _ mw_5_56)) (fun _ h9 => h9) rfl dX12_send_33 ?_
        refine lv_topi (fun y4 ey4 => ?_)
        have hF := mi_let hF ey4
        have by4 : y4.toInt = (mu 0 15).toInt := congrArg Int32.toInt ey4
        have gy4 : 0 ≤ y4.toInt ∧ y4.toInt ≤ 4 := by rw [ey4]; exact rM_0_15 ok
        refine lv_iconst (v := 4) hx hb dX12_send_36 (by decide) ?_
        refine lv_icmp_ne (tgt := 43) hx hb dX12_send_37 (by decide) (fun c_5 => ?_) (fun c_5 => ?_)
        · have hF := (if_neg c_5).symm.trans hF
          have c_5 : ¬ y4.toInt = 4 := il_ne c_5
          refine lv_aload_n hx hb dX12_send_43 rfl (lv_at hl 0 rfl) ?_
          refine va_get (D := (dC, dI)) (ci := 12) (v := .int (mu 0 15)) (C := RX12) (T := TX12) (N := 46) hx hb hts inG12 hown hK hP 0 (gM_0 cs ad mu) rfl 15 (by decide) (hts _ (List.mem_cons_of_mem _ mw_5_56)) (fun _ h9 => h9) rfl dX12_send_44 ?_
          refine lq_i y4 ey4.symm ?_
          refine lv_istore (lv' := [(5, .int y4), (0, .ref (ad 0)), (1, .int vx), (2, .int vy), (3, .int vw), (4, .int vf)]) hx hb dX12_send_47 hl (by decide) rfl (fun ls hl => ?_)
          refine lv_aload_n hx hb dX12_send_49 rfl (lv_at hl 1 rfl) ?_
          refine lv_dup hx hb dX12_send_50 rfl ?_
          refine va_get (D := (dC, dI)) (ci := 12) (v := .int (mu 0 15)) (C := RX12) (T := TX12) (N := 46) hx hb hts inG12 hown hK hP 0 (gM_0 cs ad mu) rfl 15 (by decide) (hts _ (List.mem_cons_of_mem _ mw_5_56)) (fun _ h9 => h9) rfl dX12_send_51 ?_
          refine lq_i y4 ey4.symm ?_
          refine lv_iconst (v := 1) hx hb dX12_send_54 (by decide) ?_
          refine lv_iadd hx hb dX12_send_55 ?_
          refine lv_topi (fun t6 et6 => ?_)
          have hF := mi_let hF et6
          have at6 : t6.toInt = y4.toInt + 1 := by rw [et6]; exact va1 (by omega)
          refine va_put (D := (dC, dI)) (ci := 12) (v := .int t6) (ty := .int) (C := RX12) (T := TX12) (N := 46) hx hb hts inG12 tyX12 tyX12_ok nmX12 hown hK hP (wR_D mu hD) hS 0 (gM_0 cs ad mu) rfl 15 (by decide) (hts _ (List.mem_cons_of_mem _ mw_5_56)) (fun _ h9 => h9) rfl (by decide +kernel) rfl rfl (Nat.le_of_ble_eq_true rfl) dX12_send_56 (fun H locs hP _ hS => ?_)
          simp only [List.set_cons_succ, List.set_cons_zero] at hP
          refine wr_gen (upd (mu 0) 15 t6) hP ((hM_0_15 cs ad _ _)) (fun nu7 hn7 hP => ?_)
          have hF := mi_let hF hn7.symm
          have ok := tM_0_15 ok hn7 (by omega)
          have kp8 : (∀ k f : Nat, Nat.testBit 246 (gpM k f) = true → nu7 k f = mu k f) := kp_f hn7 (by decide) (fun _ _ _ => rfl)
          have ez9 : t6 = nu7 0 15 := up_v hn7
          refine lv_aload_n hx hb dX12_send_59 rfl (lv_at hl 1 rfl) ?_
          refine lv_iload hx hb dX12_send_60 (lv_at hl 0 rfl) ?_
          refine lv_iconst (v := 0) hx hb dX12_send_62 (by decide) ?_
          refine lv_iload_n hx hb dX12_send_63 rfl (lv_at hl 2 rfl) ?_
          have hFc := fr_all (wR_D nu7 hD) hS hA
          refine va_callv (va_runV (As := [.int y4, .int 0, .int vx]) (rest := []) ⟨hx, hb, hml, hown, hts⟩ (sm_setLetter0 l dC dI cs ad nu7 ok H hP ((wR_D nu7 hD).weaken (fun _ _ _ _ => trivial)) y4 vx (by have h51 : (0 : Int32).toInt = 0 := rfl; omega)) (cwV 3 hts (wU_V mw_6_106 mw_6_103 mw_6_105 mw_0_45 mw_1_13) rfl rfl rfl (by decide +kernel) ⟨Nat.le_of_ble_eq_true rfl, Nat.le_of_ble_eq_true rfl⟩) ⟨sz_c, va_recv hK hP (ci := 12) (q0 := 0) rfl (gM_0 cs ad nu7), sz_m hK hz⟩ rfl rfl hl.1 rfl (lv_room (Nat.le_of_ble_eq_true rfl)) dX12_send_64 ⟨Nat.zero_le _, Nat.zero_le _⟩) hS (fun q _ h => hFc q h) hFc (fun xi10 t H10 locs ht hvm hw10 hB hz1 hk1 hS => ?_)
          have hP : va_P (dC, dI) vwCl (wR 21 ad (EM cs ad) xi10) H10 := by rw [← ht]; exact hB
          obtain ⟨hfe10, ok, hw10, hkp10_0⟩ := hw10
          have hF := mi_let hF hfe10
          have kp11 : (∀ k f : Nat, Nat.testBit 246 (gpM k f) = true → xi10 k f = mu k f) := kp_t hkp10_0 (by decide) kp8
          refine lv_aload_n hx hb dX12_send_67 rfl (lv_at hl 1 rfl) ?_
          refine lv_iload hx hb dX12_send_68 (lv_at hl 0 rfl) ?_
          refine lv_iconst (v := 1) hx hb dX12_send_70 (by decide) ?_
          refine lv_iload_n hx hb dX12_send_71 rfl (lv_at hl 3 rfl) ?_
          have hFc := fr_all (wR_D xi10 hD) hS hA
          refine va_callv (va_runV (As := [.int y4, .int 1, .int vy]) (rest := []) ⟨hx, hb, hml, hown, hts⟩ (sm_setLetter1 l dC dI cs ad xi10 ok H10 hP ((wR_D xi10 hD).weaken (fun _ _ _ _ => trivial)) y4 vy (by have h51 : (1 : Int32).toInt = 1 := rfl; omega)) (cwV 3 hts (wU_V mw_6_106 mw_6_103 mw_6_105 mw_0_45 mw_1_13) rfl rfl rfl (by decide +kernel) ⟨Nat.le_of_ble_eq_true rfl, Nat.le_of_ble_eq_true rfl⟩) ⟨sz_c, va_recv hK hP (ci := 12) (q0 := 0) rfl (gM_0 cs ad xi10), sz_m hK hz⟩ rfl rfl hl.1 rfl (lv_room (Nat.le_of_ble_eq_true rfl)) dX12_send_72 ⟨Nat.zero_le _, Nat.zero_le _⟩) hS (fun q _ h => hFc q h) hFc (fun xi12 t H12 locs ht hvm hw12 hB hz1 hk1 hS => ?_)
          have hP : va_P (dC, dI) vwCl (wR 21 ad (EM cs ad) xi12) H12 := by rw [← ht]; exact hB
          obtain ⟨hfe12, ok, hw12, hkp12_0⟩ := hw12
          have hF := mi_let hF hfe12
          have kp13 : (∀ k f : Nat, Nat.testBit 246 (gpM k f) = true → xi12 k f = mu k f) := kp_t hkp12_0 (by decide) kp11
          refine lv_aload_n hx hb dX12_send_75 rfl (lv_at hl 1 rfl) ?_
          refine lv_iload hx hb dX12_send_76 (lv_at hl 0 rfl) ?_
          refine lv_iconst (v := 2) hx hb dX12_send_78 (by decide) ?_
          refine lv_iload_n hx hb dX12_send_79 rfl (lv_at hl 4 rfl) ?_
          have hFc := fr_all (wR_D xi12 hD) hS hA
          refine va_callv (va_runV (As := [.int y4, .int 2, .int vw]) (rest := []) ⟨hx, hb, hml, hown, hts⟩ (sm_setLetter2 l dC dI cs ad xi12 ok H12 hP ((wR_D xi12 hD).weaken (fun _ _ _ _ => trivial)) y4 vw (by have h51 : (2 : Int32).toInt = 2 := rfl; omega)) (cwV 3 hts (wU_V mw_6_106 mw_6_103 mw_6_105 mw_0_45 mw_1_13) rfl rfl rfl (by decide +kernel) ⟨Nat.le_of_ble_eq_true rfl, Nat.le_of_ble_eq_true rfl⟩) ⟨sz_c, va_recv hK hP (ci := 12) (q0 := 0) rfl (gM_0 cs ad xi12), sz_m hK hz⟩ rfl rfl hl.1 rfl (lv_room (Nat.le_of_ble_eq_true rfl)) dX12_send_80 ⟨Nat.zero_le _, Nat.zero_le _⟩) hS (fun q _ h => hFc q h) hFc (fun xi14 t H14 locs ht hvm hw14 hB hz1 hk1 hS => ?_)
          have hP : va_P (dC, dI) vwCl (wR 21 ad (EM cs ad) xi14) H14 := by rw [← ht]; exact hB
          obtain ⟨hfe14, ok, hw14, hkp14_0⟩ := hw14
          have hF := mi_let hF hfe14
          have kp15 : (∀ k f : Nat, Nat.testBit 246 (gpM k f) = true → xi14 k f = mu k f) := kp_t hkp14_0 (by decide) kp13
          refine lv_aload_n hx hb dX12_send_83 rfl (lv_at hl 1 rfl) ?_
          refine lv_iload hx hb dX12_send_84 (lv_at hl 0 rfl) ?_
          refine lv_iconst (v := 3) hx hb dX12_send_86 (by decide) ?_
          refine lv_iload hx hb dX12_send_87 (lv_at hl 5 rfl) ?_
          have hFc := fr_all (wR_D xi14 hD) hS hA
          refine va_callv (va_runV (As := [.int y4, .int 3, .int vf]) (rest := []) ⟨hx, hb, hml, hown, hts⟩ (sm_setLetter3 l dC dI cs ad xi14 ok H14 hP ((wR_D xi14 hD).weaken (fun _ _ _ _ => trivial)) y4 vf (by have h51 : (3 : Int32).toInt = 3 := rfl; omega)) (cwV 3 hts (wU_V mw_6_106 mw_6_103 mw_6_105 mw_0_45 mw_1_13) rfl rfl rfl (by decide +kernel) ⟨Nat.le_of_ble_eq_true rfl, Nat.le_of_ble_eq_true rfl⟩) ⟨sz_c, va_recv hK hP (ci := 12) (q0 := 0) rfl (gM_0 cs ad xi14), sz_m hK hz⟩ rfl rfl hl.1 rfl (lv_room (Nat.le_of_ble_eq_true rfl)) dX12_send_89 ⟨Nat.zero_le _, Nat.zero_le _⟩) hS (fun q _ h => hFc q h) hFc (fun xi16 t H16 locs ht hvm hw16 hB hz1 hk1 hS => ?_)
          have hP : va_P (dC, dI) vwCl (wR 21 ad (EM cs ad) xi16) H16 := by rw [← ht]; exact hB
          obtain ⟨hfe16, ok, hw16, hkp16_0⟩ := hw16
          have hF := mi_let hF hfe16
          have kp17 : (∀ k f : Nat, Nat.testBit 246 (gpM k f) = true → xi16 k f = mu k f) := kp_t hkp16_0 (by decide) kp15
          refine lv_aload_n hx hb dX12_send_92 rfl (lv_at hl 1 rfl) ?_
          refine lv_iload hx hb dX12_send_93 (lv_at hl 0 rfl) ?_
          refine lv_iconst (v := 4) hx hb dX12_send_95 (by decide) ?_
          refine lv_aload_n hx hb dX12_send_96 rfl (lv_at hl 1 rfl) ?_
          refine va_get (D := (dC, dI)) (ci := 12) (v := .int (xi16 0 14)) (C := RX12) (T := TX12) (N := 46) hx hb hts inG12 hown hK hP 0 (gM_0 cs ad xi16) rfl 14 (by decide) (hts _ (List.mem_cons_of_mem _ mw_5_55)) (fun _ h9 => h9) rfl dX12_send_97 ?_
          refine lv_topi (fun y18 ey18 => ?_)
          have hF := mi_let hF ey18
          have by18 : y18.toInt = (xi16 0 14).toInt := congrArg Int32.toInt ey18
          have hFc := fr_all (wR_D xi16 hD) hS hA
          refine va_callv (va_runV (As := [.int y4, .int 4, .int y18]) (rest := []) ⟨hx, hb, hml, hown, hts⟩ (sm_setLetter4 l dC dI cs ad xi16 ok H16 hP ((wR_D xi16 hD).weaken (fun _ _ _ _ => trivial)) y4 y18 (by have h51 : (4 : Int32).toInt = 4 := rfl; omega)) (cwV 3 hts (wU_V mw_6_106 mw_6_103 mw_6_105 mw_0_45 mw_1_13) rfl rfl rfl (by decide +kernel) ⟨Nat.le_of_ble_eq_true rfl, Nat.le_of_ble_eq_true rfl⟩) ⟨sz_c, va_recv hK hP (ci := 12) (q0 := 0) rfl (gM_0 cs ad xi16), sz_m hK hz⟩ rfl rfl hl.1 rfl (lv_room (Nat.le_of_ble_eq_true rfl)) dX12_send_100 ⟨Nat.zero_le _, Nat.zero_le _⟩) hS (fun q _ h => hFc q h) hFc (fun xi19 t H19 locs ht hvm hw19 hB hz1 hk1 hS => ?_)
          have hP : va_P (dC, dI) vwCl (wR 21 ad (EM cs ad) xi19) H19 := by rw [← ht]; exact hB
          obtain ⟨hfe19, ok, hw19, hkp19_0⟩ := hw19
          have hF := mi_let hF hfe19
          have kp20 : (∀ k f : Nat, Nat.testBit 246 (gpM k f) = true → xi19 k f = mu k f) := kp_t hkp19_0 (by decide) kp17
          refine lv_aload_n hx hb dX12_send_103 rfl (lv_at hl 1 rfl) ?_
          refine lv_iload hx hb dX12_send_104 (lv_at hl 0 rfl) ?_
          refine lv_iconst (v := 5) hx hb dX12_send_106 (by decide) ?_
          refine lv_iload_n hx hb dX12_send_107 rfl (lv_at hl 2 rfl) ?_
          have hFc := fr_all (wR_D xi19 hD) hS hA
          refine va_callv (va_runV (As := [.int y4, .int 5, .int vx]) (rest := []) ⟨hx, hb, hml, hown, hts⟩ (sm_setLetter5 l dC dI cs ad xi19 ok H19 hP ((wR_D xi19 hD).weaken (fun _ _ _ _ => trivial)) y4 vx (by have h51 : (5 : Int32).toInt = 5 := rfl; omega) (by have h51 : (5 : Int32).toInt = 5 := rfl; omega)) (cwV 3 hts (wU_V mw_6_106 mw_6_103 mw_6_105 mw_0_45 mw_1_13) rfl rfl rfl (by decide +kernel) ⟨Nat.le_of_ble_eq_true rfl, Nat.le_of_ble_eq_true rfl⟩) ⟨sz_c, va_recv hK hP (ci := 12) (q0 := 0) rfl (gM_0 cs ad xi19), sz_m hK hz⟩ rfl rfl hl.1 rfl (lv_room (Nat.le_of_ble_eq_true rfl)) dX12_send_108 ⟨Nat.zero_le _, Nat.zero_le _⟩) hS (fun q _ h => hFc q h) hFc (fun xi21 t H21 locs ht hvm hw21 hB hz1 hk1 hS => ?_)
          have hP : va_P (dC, dI) vwCl (wR 21 ad (EM cs ad) xi21) H21 := by rw [← ht]; exact hB
          obtain ⟨hfe21, ok, hw21, hkp21_0⟩ := hw21
          have hF := mi_let hF hfe21
          have kp22 : (∀ k f : Nat, Nat.testBit 246 (gpM k f) = true → xi21 k f = mu k f) := kp_t hkp21_0 (by decide) kp20
          refine lv_aload_n hx hb dX12_send_111 rfl (lv_at hl 1 rfl) ?_
          refine lv_iload hx hb dX12_send_112 (lv_at hl 0 rfl) ?_
          refine lv_bipush (v := 6) hx hb dX12_send_114 (by decide) ?_
          refine lv_iconst (v := 0) hx hb dX12_send_116 (by decide) ?_
          have hFc := fr_all (wR_D xi21 hD) hS hA
          refine va_callv (va_runV (As := [.int y4, .int 6, .int 0]) (rest := []) ⟨hx, hb, hml, hown, hts⟩ (sm_setLetter6 l dC dI cs ad xi21 ok H21 hP ((wR_D xi21 hD).weaken (fun _ _ _ _ => trivial)) y4 0 (by have h51 : (6 : Int32).toInt = 6 := rfl; have h52 : (0 : Int32).toInt = 0 := rfl; omega)) (cwV 3 hts (wU_V mw_6_106 mw_6_103 mw_6_105 mw_0_45 mw_1_13) rfl rfl rfl (by decide +kernel) ⟨Nat.le_of_ble_eq_true rfl, Nat.le_of_ble_eq_true rfl⟩) ⟨sz_c, va_recv hK hP (ci := 12) (q0 := 0) rfl (gM_0 cs ad xi21), sz_m hK hz⟩ rfl rfl hl.1 rfl (lv_room (Nat.le_of_ble_eq_true rfl)) dX12_send_117 ⟨Nat.zero_le _, Nat.zero_le _⟩) hS (fun q _ h => hFc q h) hFc (fun xi23 t H23 locs ht hvm hw23 hB hz1 hk1 hS => ?_)
          have hP : va_P (dC, dI) vwCl (wR 21 ad (EM cs ad) xi23) H23 := by rw [← ht]; exact hB
          obtain ⟨hfe23, ok, hw23, hkp23_0⟩ := hw23
          have hF := mi_let hF hfe23
          have kp24 : (∀ k f : Nat, Nat.testBit 246 (gpM k f) = true → xi23 k f = mu k f) := kp_t hkp23_0 (by decide) kp22
          refine lv_aload_n hx hb dX12_send_120 rfl (lv_at hl 1 rfl) ?_
          refine lv_iload hx hb dX12_send_121 (lv_at hl 0 rfl) ?_
          refine lv_bipush (v := 7) hx hb dX12_send_123 (by decide) ?_
          refine lv_iconst (v := 0) hx hb dX12_send_125 (by decide) ?_
          have hFc := fr_all (wR_D xi23 hD) hS hA
          refine va_callv (va_runV (As := [.int y4, .int 7, .int 0]) (rest := []) ⟨hx, hb, hml, hown, hts⟩ (sm_setLetter7 l dC dI cs ad xi23 ok H23 hP ((wR_D xi23 hD).weaken (fun _ _ _ _ => trivial)) y4 0 (by have h51 : (7 : Int32).toInt = 7 := rfl; have h52 : (0 : Int32).toInt = 0 := rfl; omega)) (cwV 3 hts (wU_V mw_6_106 mw_6_103 mw_6_105 mw_0_45 mw_1_13) rfl rfl rfl (by decide +kernel) ⟨Nat.le_of_ble_eq_true rfl, Nat.le_of_ble_eq_true rfl⟩) ⟨sz_c, va_recv hK hP (ci := 12) (q0 := 0) rfl (gM_0 cs ad xi23), sz_m hK hz⟩ rfl rfl hl.1 rfl (lv_room (Nat.le_of_ble_eq_true rfl)) dX12_send_126 ⟨Nat.zero_le _, Nat.zero_le _⟩) hS (fun q _ h => hFc q h) hFc (fun xi25 t H25 locs ht hvm hw25 hB hz1 hk1 hS => ?_)
          have hP : va_P (dC, dI) vwCl (wR 21 ad (EM cs ad) xi25) H25 := by rw [← ht]; exact hB
          obtain ⟨hfe25, ok, hw25, hkp25_0⟩ := hw25
          have hF := mi_let hF hfe25
          have kp26 : (∀ k f : Nat, Nat.testBit 246 (gpM k f) = true → xi25 k f = mu k f) := kp_t hkp25_0 (by decide) kp24
          refine lv_aload_n hx hb dX12_send_129 rfl (lv_at hl 1 rfl) ?_
          refine lv_iload hx hb dX12_send_130 (lv_at hl 0 rfl) ?_
          refine lv_bipush (v := 8) hx hb dX12_send_132 (by decide) ?_
          refine lv_bipush (v := (-9)) hx hb dX12_send_134 (by decide) ?_
          have hFc := fr_all (wR_D xi25 hD) hS hA
          refine va_callv (va_runV (As := [.int y4, .int 8, .int (-9)]) (rest := []) ⟨hx, hb, hml, hown, hts⟩ (sm_setLetter8 l dC dI cs ad xi25 ok H25 hP ((wR_D xi25 hD).weaken (fun _ _ _ _ => trivial)) y4 (-9) (by have h51 : (8 : Int32).toInt = 8 := rfl; have h52 : ((-9) : Int32).toInt = -9 := rfl; omega)) (cwV 3 hts (wU_V mw_6_106 mw_6_103 mw_6_105 mw_0_45 mw_1_13) rfl rfl rfl (by decide +kernel) ⟨Nat.le_of_ble_eq_true rfl, Nat.le_of_ble_eq_true rfl⟩) ⟨sz_c, va_recv hK hP (ci := 12) (q0 := 0) rfl (gM_0 cs ad xi25), sz_m hK hz⟩ rfl rfl hl.1 rfl (lv_room (Nat.le_of_ble_eq_true rfl)) dX12_send_136 ⟨Nat.zero_le _, Nat.zero_le _⟩) hS (fun q _ h => hFc q h) hFc (fun xi27 t H27 locs ht hvm hw27 hB hz1 hk1 hS => ?_)
          have hP : va_P (dC, dI) vwCl (wR 21 ad (EM cs ad) xi27) H27 := by rw [← ht]; exact hB
          obtain ⟨hfe27, ok, hw27, hkp27_0⟩ := hw27
          have hF := mi_let hF hfe27
          have kp28 : (∀ k f : Nat, Nat.testBit 246 (gpM k f) = true → xi27 k f = mu k f) := kp_t hkp27_0 (by decide) kp26
          refine lv_aload_n hx hb dX12_send_139 rfl (lv_at hl 1 rfl) ?_
          refine lv_iload hx hb dX12_send_140 (lv_at hl 0 rfl) ?_
          refine lv_bipush (v := 9) hx hb dX12_send_142 (by decide) ?_
          refine lv_iconst (v := 0) hx hb dX12_send_144 (by decide) ?_
          have hFc := fr_all (wR_D xi27 hD) hS hA
          refine va_callv (va_runV (As := [.int y4, .int 9, .int 0]) (rest := []) ⟨hx, hb, hml, hown, hts⟩ (sm_setLetter9 l dC dI cs ad xi27 ok H27 hP ((wR_D xi27 hD).weaken (fun _ _ _ _ => trivial)) y4 0 (by have h51 : (9 : Int32).toInt = 9 := rfl; have h52 : (0 : Int32).toInt = 0 := rfl; omega)) (cwV 3 hts (wU_V mw_6_106 mw_6_103 mw_6_105 mw_0_45 mw_1_13) rfl rfl rfl (by decide +kernel) ⟨Nat.le_of_ble_eq_true rfl, Nat.le_of_ble_eq_true rfl⟩) ⟨sz_c, va_recv hK hP (ci := 12) (q0 := 0) rfl (gM_0 cs ad xi27), sz_m hK hz⟩ rfl rfl hl.1 rfl (lv_room (Nat.le_of_ble_eq_true rfl)) dX12_send_145 ⟨Nat.zero_le _, Nat.zero_le _⟩) hS (fun q _ h => hFc q h) hFc (fun xi29 t H29 locs ht hvm hw29 hB hz1 hk1 hS => ?_)
          have hP : va_P (dC, dI) vwCl (wR 21 ad (EM cs ad) xi29) H29 := by rw [← ht]; exact hB
          obtain ⟨hfe29, ok, hw29, hkp29_0⟩ := hw29
          have hF := mi_let hF hfe29
          have kp30 : (∀ k f : Nat, Nat.testBit 246 (gpM k f) = true → xi29 k f = mu k f) := kp_t hkp29_0 (by decide) kp28
          refine lv_iload hx hb dX12_send_148 (lv_at hl 0 rfl) ?_
          exact W.iret (v := y4) hx hb hr (fun t ht hW => ⟨⟨y4, xi29, rfl, ⟨hF.trans hfz.symm, ok, trivial, kp30⟩, by first | (subst ht; exact hP) | (rw [ht]; exact hP) | (show va_P (dC, dI) vwCl (wR 21 ad (EM cs ad) xi29) t.heap; rw [ht]; exact hP)⟩, hS.F ht⟩) hS.2.2 dX12_send_150
        · have hF := (if_pos c_5).symm.trans hF
          have c_5 : y4.toInt = 4 := il_eq c_5
          refine lv_bipush (v := (-2)) hx hb dX12_send_40 (by decide) ?_
          exact W.iret (v := (-2)) hx hb hr (fun t ht hW => ⟨⟨(-2), mu, rfl, ⟨hF.trans hfz.symm, ok, trivial, (fun _ _ _ => rfl)⟩, by first | (subst ht; exact hP) | (rw [ht]; exact hP) | (show va_P (dC, dI) vwCl (wR 21 ad (EM cs ad) mu) t.heap; rw [ht]; exact hP)⟩, hS.F ht⟩) hS.2.2 dX12_send_42
      · have hF := (if_neg (fun h => absurd (hfe3.trans h) (by decide))).symm.trans hF
        have f3 : vf.toInt < (0 : Int) ∨ (9 : Int) < vf.toInt := f3
        refine lv_if_ne (tgt := 32) hx hb dX12_send_27 (by decide) (fun c => absurd (by decide) c) (fun _ => ?_)
        refine lv_iconst (v := (-1)) hx hb dX12_send_30 (by decide) ?_
        exact W.iret (v := (-1)) hx hb hr (fun t ht hW => ⟨⟨(-1), mu, rfl, ⟨hF.trans hfz.symm, ok, trivial, (fun _ _ _ => rfl)⟩, by first | (subst ht; exact hP) | (rw [ht]; exact hP) | (show va_P (dC, dI) vwCl (wR 21 ad (EM cs ad) mu) t.heap; rw [ht]; exact hP)⟩, hS.F ht⟩) hS.2.2 dX12_send_31
    · have hF := (if_neg (fun h => absurd (hfe2.trans h) (by decide))).symm.trans hF
      have f2 : vw.toInt < (0 : Int) ∨ (99 : Int) < vw.toInt := f2
      refine lv_if_eq (tgt := 30) hx hb dX12_send_16 (by decide) (fun _ => ?_) (fun c => absurd (by decide) c)
      refine lv_iconst (v := (-1)) hx hb dX12_send_30 (by decide) ?_
      exact W.iret (v := (-1)) hx hb hr (fun t ht hW => ⟨⟨(-1), mu, rfl, ⟨hF.trans hfz.symm, ok, trivial, (fun _ _ _ => rfl)⟩, by first | (subst ht; exact hP) | (rw [ht]; exact hP) | (show va_P (dC, dI) vwCl (wR 21 ad (EM cs ad) mu) t.heap; rw [ht]; exact hP)⟩, hS.F ht⟩) hS.2.2 dX12_send_31
  · have hF := (if_neg (fun h => absurd (hfe1.trans h) (by decide))).symm.trans hF
    have f1 : True := f1
    refine lv_if_eq (tgt := 30) hx hb dX12_send_6 (by decide) (fun _ => ?_) (fun c => absurd (by decide) c)
    refine lv_iconst (v := (-1)) hx hb dX12_send_30 (by decide) ?_
    exact W.iret (v := (-1)) hx hb hr (fun t ht hW => ⟨⟨(-1), mu, rfl, ⟨hF.trans hfz.symm, ok, trivial, (fun _ _ _ => rfl)⟩, by first | (subst ht; exact hP) | (rw [ht]; exact hP) | (show va_P (dC, dI) vwCl (wR 21 ad (EM cs ad) mu) t.heap; rw [ht]; exact hP)⟩, hS.F ht⟩) hS.2.2 dX12_send_31
set_option maxHeartbeats 4000000 in
set_option maxRecDepth 100000 in
/-- sm_priceOf -/
theorem sm_priceOf (l : Launch) (dC : Nat → ClassId) (dI : Nat → Nat → Nat) (cs : Nat → ClassId) (ad : Nat → Nat) (mu : Nat → Nat → Int32) (ok : okR loM hiM mu) (H : Heap) (hP : va_P (dC, dI) vwCl (wR 21 ad (EM cs ad) mu) H) (vk : Int32) (hin0 : 0 ≤ vk.toInt ∧ vk.toInt ≤ 3) : Met l yX12_priceOf (wU yX12_priceOf cX12_priceOf 2 (some .int)) ({ frames := 1, cells := 0, slots := 0, locals := 22 }) (va_Pc [.ref (ad 0), .int vk] (sz_P (dC, dI) vwCl (tyM cs) H)) (va_Qi (fun (z : Int32) (_ : Unit) => z = F_sm_priceOf mu vk ∧ (True)) (fun _ t => t.heap = H) (fun _ => False)) 0 0 (fun _ => False) := by
  refine Met.ofW (cc := cX12_priceOf) (maxL := 2) (ret := (some .int)) (by decide) rfl ?_
  intro p e s m args below meth c s₁ B hml hv
  obtain ⟨rfl, hh, hK, hz⟩ := hv
  have hx := B.exec
  have hb := B.bytes
  have hr := B.returns
  have hts := atoms_spec (ws := (wU yX12_priceOf cX12_priceOf 2 (some .int))) B.pre
  have hown : s.vm.findClass RX12 = some m.cls := findClass_of_methodNamed B.named
  have hlocks := B.notSynchronized
  subst hh
  have hS : va_S (fun _ => False) s.heap s.heap [] := va_S.rf
  have hl := lv_entry ([.ref (ad 0), .int vk]) (n := 2) (Nat.le_of_ble_eq_true rfl)
  rw [lg_entry_eq]
  generalize (lg_sl ([.ref (ad 0), .int vk]) ++ List.replicate (2 - (lg_sl ([.ref (ad 0), .int vk])).length) Slot.unset).toArray = ls at hl ⊢
  have hl : lv_has ls 2 [(0, .ref (ad 0)), (1, .int vk)] := hl
  obtain ⟨fz, hfz⟩ : ∃ z, F_sm_priceOf mu vk = z := ⟨_, rfl⟩
  have hF := hfz
  unfold F_sm_priceOf at hF
  refine lv_aload_n hx hb dX12_priceOf_0 rfl (lv_at hl 0 rfl) ?_
  refine lv_aload_n hx hb dX12_priceOf_1 rfl (lv_at hl 0 rfl) ?_
  refine lv_iload_n hx hb dX12_priceOf_2 rfl (lv_at hl 1 rfl) ?_
  refine lv_iconst (v := 5) hx hb dX12_priceOf_3 (by decide) ?_
  refine cr_i (va_runV (As := [.int vk, .int 5]) (rest := [.ref (ad 0)]) ⟨hx, hb, hml, hown, hts⟩ (sm_letterOf5 l dC dI cs ad mu ok s.heap hP vk (by have h51 : (5 : Int32).toInt = 5 := rfl; omega)) (cwV 2 hts (wU_V mw_6_48 mw_6_45 mw_6_47 mw_0_38 mw_1_13) rfl rfl rfl (by decide +kernel) ⟨Nat.le_of_ble_eq_true rfl, Nat.le_of_ble_eq_true rfl⟩) ⟨sz_c, va_recv hK hP (ci := 12) (q0 := 0) rfl (gM_0 cs ad mu), sz_m hK hz⟩ rfl rfl hl.1 rfl (lv_room (Nat.le_of_ble_eq_true rfl)) dX12_priceOf_4 ⟨Nat.zero_le _, Nat.zero_le _⟩) hS (fun r1 hw1 locs hS => ?_)
  obtain ⟨hfe1, hw1⟩ := hw1
  have hF := mi_let hF hfe1
  have gr1 : 0 ≤ r1.toInt ∧ r1.toInt ≤ 6 := hw1
  refine lv_aload_n hx hb dX12_priceOf_7 rfl (lv_at hl 0 rfl) ?_
  refine lv_iload_n hx hb dX12_priceOf_8 rfl (lv_at hl 1 rfl) ?_
  refine lv_bipush (v := 6) hx hb dX12_priceOf_9 (by decide) ?_
  refine cr_i (va_runV (As := [.int vk, .int 6]) (rest := [.int r1, .ref (ad 0)]) ⟨hx, hb, hml, hown, hts⟩ (sm_letterOf l dC dI cs ad mu ok s.heap hP vk 6 (by have h51 : (6 : Int32).toInt = 6 := rfl; omega)) (cwV 2 hts (wU_V mw_6_48 mw_6_45 mw_6_47 mw_0_38 mw_1_13) rfl rfl rfl (by decide +kernel) ⟨Nat.le_of_ble_eq_true rfl, Nat.le_of_ble_eq_true rfl⟩) ⟨sz_c, va_recv hK hP (ci := 12) (q0 := 0) rfl (gM_0 cs ad mu), sz_m hK hz⟩ rfl rfl hl.1 rfl (lv_room (Nat.le_of_ble_eq_true rfl)) dX12_priceOf_11 ⟨Nat.zero_le _, Nat.zero_le _⟩) hS (fun r2 hw2 locs hS => ?_)
  obtain ⟨hfe2, hw2⟩ := hw2
  have hF := mi_let hF hfe2
  refine cr_i (va_runV (As := [.int r1, .int r2]) (rest := []) ⟨hx, hb, hml, hown, hts⟩ (sm_asksOf l dC dI cs ad mu ok s.heap hP r1 r2 (by omega)) (cwV 2 hts (wU_V mw_6_74 mw_6_71 mw_6_73 mw_0_42 mw_1_13) rfl rfl rfl (by decide +kernel) ⟨Nat.le_of_ble_eq_true rfl, Nat.le_of_ble_eq_true rfl⟩) ⟨sz_c, va_recv hK hP (ci := 12) (q0 := 0) rfl (gM_0 cs ad mu), sz_m hK hz⟩ rfl rfl hl.1 rfl (lv_room (Nat.le_of_ble_eq_true rfl)) dX12_priceOf_14 ⟨Nat.zero_le _, Nat.zero_le _⟩) hS (fun r3 hw3 locs hS => ?_)
  obtain ⟨hfe3, hw3⟩ := hw3
  have hF := mi_let hF hfe3
  exact W.iret (v := r3) hx hb hr (fun t ht hW => ⟨⟨r3, (), rfl, ⟨hF.trans hfz.symm, trivial⟩, ht⟩, hS.F ht⟩) hS.2.2 dX12_priceOf_17
set_option maxHeartbeats 4000000 in
set_option maxRecDepth 100000 in
/-- sm_canSell -/
theorem sm_canSell (l : Launch) (dC : Nat → ClassId) (dI : Nat → Nat → Nat) (cs : Nat → ClassId) (ad : Nat → Nat) (mu : Nat → Nat → Int32) (ok : okR loM hiM mu) (H : Heap) (hP : va_P (dC, dI) vwCl (wR 21 ad (EM cs ad) mu) H) (vk : Int32) (hin0 : 0 ≤ vk.toInt ∧ vk.toInt ≤ 3) : Met l yX12_canSell (wU yX12_canSell cX12_canSell 8 (some .int)) ({ frames := 2, cells := 0, slots := 0, locals := 46 }) (va_Pc [.ref (ad 0), .int vk] (sz_P (dC, dI) vwCl (tyM cs) H)) (va_Qi (fun (z : Int32) (_ : Unit) => z = F_sm_canSell mu vk ∧ (0 ≤ z.toInt ∧ z.toInt ≤ 127)) (fun _ t => t.heap = H) (fun _ => False)) 0 0 (fun _ => False) := by
  refine Met.ofW (cc := cX12_canSell) (maxL := 8) (ret := (some .int)) (by decide) rfl ?_
  intro p e s m args below meth c s₁ B hml hv
  obtain ⟨rfl, hh, hK, hz⟩ := hv
  have hx := B.exec
  have hb := B.bytes
  have hr := B.returns
  have hts := atoms_spec (ws := (wU yX12_canSell cX12_canSell 8 (some .int))) B.pre
  have hown : s.vm.findClass RX12 = some m.cls := findClass_of_methodNamed B.named
  have hlocks := B.notSynchronized
  subst hh
  have hS : va_S (fun _ => False) s.heap s.heap [] := va_S.rf
  have hl := lv_entry ([.ref (ad 0), .int vk]) (n := 8) (Nat.le_of_ble_eq_true rfl)
  rw [lg_entry_eq]
  generalize (lg_sl ([.ref (ad 0), .int vk]) ++ List.replicate (8 - (lg_sl ([.ref (ad 0), .int vk])).length) Slot.unset).toArray = ls at hl ⊢
  have hl : lv_has ls 8 [(0, .ref (ad 0)), (1, .int vk)] := hl
  obtain ⟨fz, hfz⟩ : ∃ z, F_sm_canSell mu vk = z := ⟨_, rfl⟩
  have hF := hfz
  unfold F_sm_canSell at hF
  refine lv_aload_n hx hb dX12_canSell_0 rfl (lv_at hl 0 rfl) ?_
  refine lv_iload_n hx hb dX12_canSell_1 rfl (lv_at hl 1 rfl) ?_
  refine cr_i (va_runV (As := [.int vk]) (rest := []) ⟨hx, hb, hml, hown, hts⟩ (sm_isRead l dC dI cs ad mu ok s.heap hP vk (by omega)) (cwV 1 hts (wU_V mw_6_52 mw_6_49 mw_6_51 mw_0_39 mw_1_13) rfl rfl rfl (by decide +kernel) ⟨Nat.le_of_ble_eq_true rfl, Nat.le_of_ble_eq_true rfl⟩) ⟨sz_c, va_recv hK hP (ci := 12) (q0 := 0) rfl (gM_0 cs ad mu), sz_m hK hz⟩ rfl rfl hl.1 rfl (lv_room (Nat.le_of_ble_eq_true rfl)) dX12_canSell_2 ⟨Nat.zero_le _, Nat.zero_le _⟩) hS (fun r1 hw1 locs hS => ?_)
  obtain ⟨hfe1, hw1⟩ := hw1
  have hF := mi_let hF hfe1
  have gr1 : 0 ≤ r1.toInt ∧ r1.toInt ≤ 1 := hw1
  refine lv_if_ne (tgt := 22) hx hb dX12_canSell_5 (by decide) (fun c_2 => ?_) (fun c_2 => ?_)
  · have hF := (if_neg c_2).symm.trans hF
    have c_2 : ¬ r1.toInt = 0 := il_ne c_2
    refine lv_iconst (v := 0) hx hb dX12_canSell_22 (by decide) ?_
    exact W.iret (v := 0) hx hb hr (fun t ht hW => ⟨⟨0, (), rfl, ⟨hF.trans hfz.symm, (by have h6 : (0 : Int32).toInt = 0 := rfl; omega)⟩, ht⟩, hS.F ht⟩) hS.2.2 dX12_canSell_23
  · have hF := (if_pos c_2).symm.trans hF
    have c_2 : r1.toInt = 0 := il_eq c_2
    refine lv_aload_n hx hb dX12_canSell_8 rfl (lv_at hl 0 rfl) ?_
    refine lv_iload_n hx hb dX12_canSell_9 rfl (lv_at hl 1 rfl) ?_
    refine lv_bipush (v := 8) hx hb dX12_canSell_10 (by decide) ?_
    refine cr_i (va_runV (As := [.int vk, .int 8]) (rest := []) ⟨hx, hb, hml, hown, hts⟩ (sm_letterOf l dC dI cs ad mu ok s.heap hP vk 8 (by have h51 : (8 : Int32).toInt = 8 := rfl; omega)) (cwV 2 hts (wU_V mw_6_48 mw_6_45 mw_6_47 mw_0_38 mw_1_13) rfl rfl rfl (by decide +kernel) ⟨Nat.le_of_ble_eq_true rfl, Nat.le_of_ble_eq_true rfl⟩) ⟨sz_c, va_recv hK hP (ci := 12) (q0 := 0) rfl (gM_0 cs ad mu), sz_m hK hz⟩ rfl rfl hl.1 rfl (lv_room (Nat.le_of_ble_eq_true rfl)) dX12_canSell_12 ⟨Nat.zero_le _, Nat.zero_le _⟩) hS (fun r3 hw3 locs hS => ?_)
    obtain ⟨hfe3, hw3⟩ := hw3
    have hF := mi_let hF hfe3
    refine lv_aload_n hx hb dX12_canSell_15 rfl (lv_at hl 0 rfl) ?_
    refine va_get (D := (dC, dI)) (ci := 12) (v := .int (mu 0 14)) (C := RX12) (T := TX12) (N := 46) hx hb hts inG12 hown hK hP 0 (gM_0 cs ad mu) rfl 14 (by decide) (hts _ (List.mem_cons_of_mem _ mw_5_55)) (fun _ h9 => h9) rfl dX12_canSell_16 ?_
    refine lv_topi (fun y4 ey4 => ?_)
    have hF := mi_let hF ey4
    have by4 : y4.toInt = (mu 0 14).toInt := congrArg Int32.toInt ey4
    refine lv_icmp_ne (tgt := 24) hx hb dX12_canSell_19 (by decide) (fun c_5 => ?_) (fun c_5 => ?_)
    · have hF := (if_neg c_5).symm.trans hF
      have c_5 : ¬ r3.toInt = y4.toInt := il_ne c_5
      refine lv_aload_n hx hb dX12_canSell_24 rfl (lv_at hl 0 rfl) ?_
      refine lv_aload_n hx hb dX12_canSell_25 rfl (lv_at hl 0 rfl) ?_
      refine lv_iload_n hx hb dX12_canSell_26 rfl (lv_at hl 1 rfl) ?_
      refine lv_iconst (v := 5) hx hb dX12_canSell_27 (by decide) ?_
      refine cr_i (va_runV (As := [.int vk, .int 5]) (rest := [.ref (ad 0)]) ⟨hx, hb, hml, hown, hts⟩ (sm_letterOf5 l dC dI cs ad mu ok s.heap hP vk (by have h51 : (5 : Int32).toInt = 5 := rfl; omega)) (cwV 2 hts (wU_V mw_6_48 mw_6_45 mw_6_47 mw_0_38 mw_1_13) rfl rfl rfl (by decide +kernel) ⟨Nat.le_of_ble_eq_true rfl, Nat.le_of_ble_eq_true rfl⟩) ⟨sz_c, va_recv hK hP (ci := 12) (q0 := 0) rfl (gM_0 cs ad mu), sz_m hK hz⟩ rfl rfl hl.1 rfl (lv_room (Nat.le_of_ble_eq_true rfl)) dX12_canSell_28 ⟨Nat.zero_le _, Nat.zero_le _⟩) hS (fun r6 hw6 locs hS => ?_)
      obtain ⟨hfe6, hw6⟩ := hw6
      have hF := mi_let hF hfe6
      have gr6 : 0 ≤ r6.toInt ∧ r6.toInt ≤ 6 := hw6
      refine cr_i (va_runV (As := [.int r6]) (rest := []) ⟨hx, hb, hml, hown, hts⟩ (sm_besideOf l dC dI cs ad mu ok s.heap hP r6) (cwV 1 hts (wU_V mw_6_56 mw_6_53 mw_6_55 mw_0_40 mw_1_13) rfl rfl rfl (by decide +kernel) ⟨Nat.le_of_ble_eq_true rfl, Nat.le_of_ble_eq_true rfl⟩) ⟨sz_c, va_recv hK hP (ci := 12) (q0 := 0) rfl (gM_0 cs ad mu), sz_m hK hz⟩ rfl rfl hl.1 rfl (lv_room (Nat.le_of_ble_eq_true rfl)) dX12_canSell_31 ⟨Nat.zero_le _, Nat.zero_le _⟩) hS (fun r7 hw7 locs hS => ?_)
      obtain ⟨hfe7, hw7⟩ := hw7
      have hF := mi_let hF hfe7
      refine lv_istore_n (lv' := [(2, .int r7), (0, .ref (ad 0)), (1, .int vk)]) hx hb dX12_canSell_34 rfl hl (by decide) rfl (fun ls hl => ?_)
      refine lv_aload_n hx hb dX12_canSell_35 rfl (lv_at hl 1 rfl) ?_
      refine lv_iload_n hx hb dX12_canSell_36 rfl (lv_at hl 2 rfl) ?_
      refine cr_i (va_runV (As := [.int vk]) (rest := []) ⟨hx, hb, hml, hown, hts⟩ (sm_priceOf l dC dI cs ad mu ok s.heap hP vk (by omega)) (cwV 1 hts (wU_V mw_6_122 mw_6_119 mw_6_121 mw_0_48 mw_1_13) rfl rfl rfl (by decide +kernel) ⟨Nat.le_of_ble_eq_true rfl, Nat.le_of_ble_eq_true rfl⟩) ⟨sz_c, va_recv hK hP (ci := 12) (q0 := 0) rfl (gM_0 cs ad mu), sz_m hK hz⟩ rfl rfl hl.1 rfl (lv_room (Nat.le_of_ble_eq_true rfl)) dX12_canSell_37 ⟨Nat.zero_le _, Nat.zero_le _⟩) hS (fun r8 hw8 locs hS => ?_)
      obtain ⟨hfe8, hw8⟩ := hw8
      have hF := mi_let hF hfe8
      refine lv_istore_n (lv' := [(3, .int r8), (2, .int r7), (0, .ref (ad 0)), (1, .int vk)]) hx hb dX12_canSell_40 rfl hl (by decide) rfl (fun ls hl => ?_)
      refine lv_iconst (v := 0) hx hb dX12_canSell_41 (by decide) ?_
      refine lv_istore (lv' := [(4, .int 0), (3, .int r8), (2, .int r7), (0, .ref (ad 0)), (1, .int vk)]) hx hb dX12_canSell_42 hl (by decide) rfl (fun ls hl => ?_)
      refine lv_iconst (v := 0) hx hb dX12_canSell_44 (by decide) ?_
      refine lv_istore (lv' := [(5, .int 0), (4, .int 0), (3, .int r8), (2, .int r7), (0, .ref (ad 0)), (1, .int vk)]) hx hb dX12_canSell_45 hl (by decide) rfl (fun ls hl => ?_)
      have loop47 : ∀ (n47 : Nat) (v4_47 : Int32) (v5_47 : Int32) (locs : List Loc) (ls : Array Slot), (7 + 1 - v5_47.toInt).toNat < n47 → (0 ≤ v4_47.toInt ∧ v4_47.toInt ≤ 127) → (0 ≤ v5_47.toInt ∧ v5_47.toInt ≤ 7) → L_sm_canSell_47_0 mu r7 r8 vk n47 v4_47 v5_47 = fz → va_S (fun _ => False) s.heap s.heap locs → lv_has ls 8 [(5, .int v5_47), (4, .int v4_47), (3, .int r8), (2, .int r7), (0, .ref (ad 0)), (1, .int vk)] → W p l e (headSpec (wU yX12_canSell cX12_canSell 8 (some .int)) ({ frames := 2, cells := 0, slots := 0, locals := 46 })).room s m ([.ref (ad 0), .int vk] : List Value).toArray below meth c s.heap locs 0 0 (MQ below (va_Qi (fun (z : Int32) (_ : Unit) => z = F_sm_canSell mu vk ∧ (0 ≤ z.toInt ∧ z.toInt ≤ 127)) (fun _ t => t.heap = s.heap) (fun _ => False)) ([.ref (ad 0), .int vk] : List Value).toArray s 0 0 (fun _ => False)) (F0 m 47 ls []) := by
        intro n47
        induction n47 with
        | zero => intro v4_47 v5_47 locs ls hm; exact absurd hm (Nat.not_lt_zero _)
        | succ n47 ih47 =>
          intro v4_47 v5_47 locs ls hm_47 h_v4_47 h_v5_47 hF hS hl
          rw [L_sm_canSell_47_0] at hF
          refine lv_iload hx hb dX12_canSell_47 (lv_at hl 0 rfl) ?_
          refine lv_aload_n hx hb dX12_canSell_49 rfl (lv_at hl 4 rfl) ?_
          refine va_get (D := (dC, dI)) (ci := 12) (v := .int (mu 0 8)) (C := RX12) (T := TX12) (N := 46) hx hb hts inG12 hown hK hP 0 (gM_0 cs ad mu) rfl 8 (by decide) (hts _ (List.mem_cons_of_mem _ mw_5_49)) (fun _ h9 => h9) rfl dX12_canSell_50 ?_
          refine lv_topi (fun y9 ey9 => ?_)
          have hF := mi_let hF ey9
          have by9 : y9.toInt = (mu 0 8).toInt := congrArg Int32.toInt ey9
          have gy9 : 0 ≤ y9.toInt ∧ y9.toInt ≤ 7 := by rw [ey9]; exact rM_0_8 ok
          refine lv_icmp_ge (tgt := 159) hx hb dX12_canSell_53 (by decide) (fun c_10 => ?_) (fun c_10 => ?_)
          · have hF := (if_pos c_10).symm.trans hF
            have c_10 : y9.toInt ≤ v5_47.toInt := il_le c_10
            refine lv_iload hx hb dX12_canSell_159 (lv_at hl 1 rfl) ?_
            exact W.iret (v := v4_47) hx hb hr (fun t ht hW => ⟨⟨v4_47, (), rfl, ⟨hF.trans hfz.symm, (by omega)⟩, ht⟩, hS.F ht⟩) hS.2.2 dX12_canSell_161
          · have hF := (if_neg c_10).symm.trans hF
            have c_10 : v5_47.toInt < y9.toInt := il_nle c_10
            refine lv_iload hx hb dX12_canSell_56 (lv_at hl 0 rfl) ?_
            refine lv_aload_n hx hb dX12_canSell_58 rfl (lv_at hl 4 rfl) ?_
            refine lv_iload_n hx hb dX12_canSell_59 rfl (lv_at hl 5 rfl) ?_
            refine lv_iconst (v := 1) hx hb dX12_canSell_60 (by decide) ?_
            refine cr_i (va_runV (As := [.int vk, .int 1]) (rest := [.int v5_47]) ⟨hx, hb, hml, hown, hts⟩ (sm_letterOf l dC dI cs ad mu ok s.heap hP vk 1 (by have h51 : (1 : Int32).toInt = 1 := rfl; omega)) (cwV 2 hts (wU_V mw_6_48 mw_6_45 mw_6_47 mw_0_38 mw_1_13) rfl rfl rfl (by decide +kernel) ⟨Nat.le_of_ble_eq_true rfl, Nat.le_of_ble_eq_true rfl⟩) ⟨sz_c, va_recv hK hP (ci := 12) (q0 := 0) rfl (gM_0 cs ad mu), sz_m hK hz⟩ rfl rfl hl.1 rfl (lv_room (Nat.le_of_ble_eq_true rfl)) dX12_canSell_61 ⟨Nat.zero_le _, Nat.zero_le _⟩) hS (fun r11 hw11 locs hS => ?_)
            obtain ⟨hfe11, hw11⟩ := hw11
            have hF := mi_let hF hfe11
            refine lv_icmp_ne (tgt := 71) hx hb dX12_canSell_64 (by decide) (fun c_12 => ?_) (fun c_12 => ?_)
            · have hF := (if_neg c_12).symm.trans hF
              have c_12 : ¬ v5_47.toInt = r11.toInt := il_ne c_12
              refine lv_iconst (v := 0) hx hb dX12_canSell_71 (by decide) ?_
              refine lv_istore (lv' := [(6, .int 0), (5, .int v5_47), (4, .int v4_47), (3, .int r8), (2, .int r7), (0, .ref (ad 0)), (1, .int vk)]) hx hb dX12_canSell_72 hl (by decide) rfl (fun ls hl => ?_)
              refine lv_iload hx hb dX12_canSell_74 (lv_at hl 0 rfl) ?_
              refine lv_if_eq (tgt := 97) hx hb dX12_canSell_76 (by decide) (fun _ => ?_) (fun c => absurd (by decide) c)
              refine lv_aload_n hx hb dX12_canSell_97 rfl (lv_at hl 5 rfl) ?_
              refine va_get (D := (dC, dI)) (ci := 12) (v := .ref (ad 7)) (C := RX12) (T := TX12) (N := 46) hx hb hts inG12 hown hK hP 0 (gM_0 cs ad mu) rfl 9 (by decide) (hts _ (List.mem_cons_of_mem _ mw_5_50)) (fun _ h9 => h9) rfl dX12_canSell_98 ?_
              refine lv_iload hx hb dX12_canSell_101 (lv_at hl 1 rfl) ?_
              refine va_iald hx hb hK hP 7 0 (gM_7 cs ad mu) rfl (show vp_in v5_47 7 from vi_of (by omega) (by omega)) dX12_canSell_103 ?_
              refine lv_topi (fun y13 ey13 => ?_)
              have hF := mi_let hF ey13
              have by13 : y13.toInt = (mu 7 v5_47.toNatClampNeg).toInt := congrArg Int32.toInt ey13
              refine lv_iconst (v := 3) hx hb dX12_canSell_104 (by decide) ?_
              refine lv_icmp_eq (tgt := 112) hx hb dX12_canSell_105 (by decide) (fun c_14 => ?_) (fun c_14 => ?_)
              · have hF := (if_pos c_14).symm.trans hF
                have c_14 : y13.toInt = 3 := il_eq c_14
                refine lv_iconst (v := 0) hx hb dX12_canSell_112 (by decide) ?_
                refine lv_istore (lv' := [(7, .int 0), (6, .int 0), (5, .int v5_47), (4, .int v4_47), (3, .int r8), (2, .int r7), (0, .ref (ad 0)), (1, .int vk)]) hx hb dX12_canSell_113 hl (by decide) rfl (fun ls hl => ?_)
                refine lv_iload hx hb dX12_canSell_115 (lv_at hl 3 rfl) ?_
                refine lv_iload_n hx hb dX12_canSell_117 rfl (lv_at hl 5 rfl) ?_
                refine lv_iload hx hb dX12_canSell_118 (lv_at hl 2 rfl) ?_
                refine cr_i (va_runS (As := [.int r7, .int v5_47]) (rest := [.int v4_47]) ⟨hx, hb, hml, hown, hts⟩ (sm_has l dC dI (tyM cs) s.heap r7 v5_47) (va_cwS 2 hts (wU_S mw_6_59 mw_6_57 mw_6_58 mw_1_13) rfl rfl rfl (by decide +kernel) ⟨Nat.le_of_ble_eq_true rfl, Nat.le_of_ble_eq_true rfl⟩) ⟨sz_c, sz_m hK hz⟩ rfl rfl hl.1 rfl (lv_room (Nat.le_of_ble_eq_true rfl)) dX12_canSell_120 ⟨Nat.zero_le _, Nat.zero_le _⟩) hS (fun r15 hw15 locs hS => ?_)
                obtain ⟨hfe15, hw15⟩ := hw15
                rcases hw15 with ⟨rfl, f15⟩ | ⟨rfl, f15⟩
                · have hF := (if_pos hfe15.symm).symm.trans hF
                  have f15 : rb r7 v5_47 = 1 := f15
                  refine lv_if_eq (tgt := 149) hx hb dX12_canSell_123 (by decide) (fun c => absurd c (by decide)) (fun _ => ?_)
                  refine lv_iload hx hb dX12_canSell_126 (lv_at hl 0 rfl) ?_
                  refine lv_if_eq (tgt := 149) hx hb dX12_canSell_128 (by decide) (fun _ => ?_) (fun c => absurd (by decide) c)
                  refine lv_iconst (v := 0) hx hb dX12_canSell_149 (by decide) ?_
                  refine lv_ior hx hb dX12_canSell_150 ?_
                  refine lv_topi (fun t16 et16 => ?_)
                  have hF := mi_let hF et16
                  have gt16 : 0 ≤ t16.toInt ∧ t16.toInt ≤ 127 := by rw [et16, show (v4_47 ||| 0 : Int32) = v4_47 by simp]; exact ⟨by omega, by omega⟩
                  refine lv_istore (lv' := [(4, .int t16), (7, .int 0), (6, .int 0), (5, .int v5_47), (3, .int r8), (2, .int r7), (0, .ref (ad 0)), (1, .int vk)]) hx hb dX12_canSell_151 hl (by decide) rfl (fun ls hl => ?_)
                  refine lv_iinc (v := (v5_47 + 1)) (lv' := [(5, .int (v5_47 + 1)), (4, .int t16), (7, .int 0), (6, .int 0), (3, .int r8), (2, .int r7), (0, .ref (ad 0)), (1, .int vk)]) hx hb dX12_canSell_153 hl (k := 3) rfl rfl (by decide) rfl (fun ls hl => ?_)
                  refine loc_gen (P := fun w9 => lv_has ls 8 [(5, .int w9), (4, .int t16), (7, .int 0), (6, .int 0), (3, .int r8), (2, .int r7), (0, .ref (ad 0)), (1, .int vk)]) (v5_47 + 1) hl (fun w17 hw17 hl => ?_)
                  have hl : lv_has ls 8 [(5, .int w17), (4, .int t16), (7, .int 0), (6, .int 0), (3, .int r8), (2, .int r7), (0, .ref (ad 0)), (1, .int vk)] := hl
                  have hF := mi_let hF hw17.symm
                  have aw17 : w17.toInt = v5_47.toInt + 1 := by rw [← hw17]; first | exact va1 (Int.lt_of_le_of_lt h_v5_47.2 (by decide)) | exact va1 (by omega)
                  refine lv_goto (tgt := 47) hx hb dX12_canSell_156 (by decide) ?_
                  exact ih47 (t16) (w17)  _ _ (by first | exact ms_up hm_47 aw17 h_v5_47.2 | exact ms_lt hm_47 (by omega) (by omega) | omega) (by first | exact rg_up aw17 h_v5_47 (by omega) | omega) (by first | exact rg_up aw17 h_v5_47 (by omega) | omega)   hF hS (lv_sub hl [0, 1, 4, 5, 6, 7] rfl)
                · have hF := (if_neg (fun h => absurd (hfe15.trans h) (by decide))).symm.trans hF
                  have f15 : ¬ rb r7 v5_47 = 1 := f15
                  refine lv_if_eq (tgt := 149) hx hb dX12_canSell_123 (by decide) (fun _ => ?_) (fun c => absurd (by decide) c)
                  refine lv_iconst (v := 0) hx hb dX12_canSell_149 (by decide) ?_
                  refine lv_ior hx hb dX12_canSell_150 ?_
                  refine lv_topi (fun t18 et18 => ?_)
                  have hF := mi_let hF et18
                  have gt18 : 0 ≤ t18.toInt ∧ t18.toInt ≤ 127 := by rw [et18, show (v4_47 ||| 0 : Int32) = v4_47 by simp]; exact ⟨by omega, by omega⟩
                  refine lv_istore (lv' := [(4, .int t18), (7, .int 0), (6, .int 0), (5, .int v5_47), (3, .int r8), (2, .int r7), (0, .ref (ad 0)), (1, .int vk)]) hx hb dX12_canSell_151 hl (by decide) rfl (fun ls hl => ?_)
                  refine lv_iinc (v := (v5_47 + 1)) (lv' := [(5, .int (v5_47 + 1)), (4, .int t18), (7, .int 0), (6, .int 0), (3, .int r8), (2, .int r7), (0, .ref (ad 0)), (1, .int vk)]) hx hb dX12_canSell_153 hl (k := 3) rfl rfl (by decide) rfl (fun ls hl => ?_)
                  refine loc_gen (P := fun w9 => lv_has ls 8 [(5, .int w9), (4, .int t18), (7, .int 0), (6, .int 0), (3, .int r8), (2, .int r7), (0, .ref (ad 0)), (1, .int vk)]) (v5_47 + 1) hl (fun w19 hw19 hl => ?_)
                  have hl : lv_has ls 8 [(5, .int w19), (4, .int t18), (7, .int 0), (6, .int 0), (3, .int r8), (2, .int r7), (0, .ref (ad 0)), (1, .int vk)] := hl
                  have hF := mi_let hF hw19.symm
                  have aw19 : w19.toInt = v5_47.toInt + 1 := by rw [← hw19]; first | exact va1 (Int.lt_of_le_of_lt h_v5_47.2 (by decide)) | exact va1 (by omega)
                  refine lv_goto (tgt := 47) hx hb dX12_canSell_156 (by decide) ?_
                  exact ih47 (t18) (w19)  _ _ (by first | exact ms_up hm_47 aw19 h_v5_47.2 | exact ms_lt hm_47 (by omega) (by omega) | omega) (by first | exact rg_up aw19 h_v5_47 (by omega) | omega) (by first | exact rg_up aw19 h_v5_47 (by omega) | omega)   hF hS (lv_sub hl [0, 1, 4, 5, 6, 7] rfl)
              · have hF := (if_neg c_14).symm.trans hF
                have c_14 : ¬ y13.toInt = 3 := il_ne c_14
                refine lv_iconst (v := 1) hx hb dX12_canSell_108 (by decide) ?_
                refine lv_goto (tgt := 113) hx hb dX12_canSell_109 (by decide) ?_
                refine lv_istore (lv' := [(7, .int 1), (6, .int 0), (5, .int v5_47), (4, .int v4_47), (3, .int r8), (2, .int r7), (0, .ref (ad 0)), (1, .int vk)]) hx hb dX12_canSell_113 hl (by decide) rfl (fun ls hl => ?_)
                refine lv_iload hx hb dX12_canSell_115 (lv_at hl 3 rfl) ?_
                refine lv_iload_n hx hb dX12_canSell_117 rfl (lv_at hl 5 rfl) ?_
                refine lv_iload hx hb dX12_canSell_118 (lv_at hl 2 rfl) ?_
                refine cr_i (va_runS (As := [.int r7, .int v5_47]) (rest := [.int v4_47]) ⟨hx, hb, hml, hown, hts⟩ (sm_has l dC dI (tyM cs) s.heap r7 v5_47) (va_cwS 2 hts (wU_S mw_6_59 mw_6_57 mw_6_58 mw_1_13) rfl rfl rfl (by decide +kernel) ⟨Nat.le_of_ble_eq_true rfl, Nat.le_of_ble_eq_true rfl⟩) ⟨sz_c, sz_m hK hz⟩ rfl rfl hl.1 rfl (lv_room (Nat.le_of_ble_eq_true rfl)) dX12_canSell_120 ⟨Nat.zero_le _, Nat.zero_le _⟩) hS (fun r20 hw20 locs hS => ?_)
                obtain ⟨hfe20, hw20⟩ := hw20
                rcases hw20 with ⟨rfl, f20⟩ | ⟨rfl, f20⟩
                · have hF := (if_pos hfe20.symm).symm.trans hF
                  have f20 : rb r7 v5_47 = 1 := f20
                  refine lv_if_eq (tgt := 149) hx hb dX12_canSell_123 (by decide) (fun c => absurd c (by decide)) (fun _ => ?_)
                  refine lv_iload hx hb dX12_canSell_126 (lv_at hl 0 rfl) ?_
                  refine lv_if_eq (tgt := 149) hx hb dX12_canSell_128 (by decide) (fun c => absurd c (by decide)) (fun _ => ?_)
                  refine lv_aload_n hx hb dX12_canSell_131 rfl (lv_at hl 6 rfl) ?_
                  refine va_get (D := (dC, dI)) (ci := 12) (v := .ref (ad 8)) (C := RX12) (T := TX12) (N := 46) hx hb hts inG12 hown hK hP 0 (gM_0 cs ad mu) rfl 10 (by decide) (hts _ (List.mem_cons_of_mem _ mw_5_51)) (fun _ h9 => h9) rfl dX12_canSell_132 ?_
                  refine lv_iload hx hb dX12_canSell_135 (lv_at hl 2 rfl) ?_
                  refine va_iald hx hb hK hP 8 0 (gM_8 cs ad mu) rfl (show vp_in v5_47 7 from vi_of (by omega) (by omega)) dX12_canSell_137 ?_
                  refine lv_topi (fun y21 ey21 => ?_)
                  have hF := mi_let hF ey21
                  have by21 : y21.toInt = (mu 8 v5_47.toNatClampNeg).toInt := congrArg Int32.toInt ey21
                  refine lv_iload_n hx hb dX12_canSell_138 rfl (lv_at hl 4 rfl) ?_
                  refine lv_icmp_lt (tgt := 149) hx hb dX12_canSell_139 (by decide) (fun c_22 => ?_) (fun c_22 => ?_)
                  · have hF := (if_pos c_22).symm.trans hF
                    have c_22 : y21.toInt < r8.toInt := il_lt c_22
                    refine lv_iconst (v := 0) hx hb dX12_canSell_149 (by decide) ?_
                    refine lv_ior hx hb dX12_canSell_150 ?_
                    refine lv_topi (fun t23 et23 => ?_)
                    have hF := mi_let hF et23
                    have gt23 : 0 ≤ t23.toInt ∧ t23.toInt ≤ 127 := by rw [et23, show (v4_47 ||| 0 : Int32) = v4_47 by simp]; exact ⟨by omega, by omega⟩
                    refine lv_istore (lv' := [(4, .int t23), (7, .int 1), (6, .int 0), (5, .int v5_47), (3, .int r8), (2, .int r7), (0, .ref (ad 0)), (1, .int vk)]) hx hb dX12_canSell_151 hl (by decide) rfl (fun ls hl => ?_)
                    refine lv_iinc (v := (v5_47 + 1)) (lv' := [(5, .int (v5_47 + 1)), (4, .int t23), (7, .int 1), (6, .int 0), (3, .int r8), (2, .int r7), (0, .ref (ad 0)), (1, .int vk)]) hx hb dX12_canSell_153 hl (k := 3) rfl rfl (by decide) rfl (fun ls hl => ?_)
                    refine loc_gen (P := fun w9 => lv_has ls 8 [(5, .int w9), (4, .int t23), (7, .int 1), (6, .int 0), (3, .int r8), (2, .int r7), (0, .ref (ad 0)), (1, .int vk)]) (v5_47 + 1) hl (fun w24 hw24 hl => ?_)
                    have hl : lv_has ls 8 [(5, .int w24), (4, .int t23), (7, .int 1), (6, .int 0), (3, .int r8), (2, .int r7), (0, .ref (ad 0)), (1, .int vk)] := hl
                    have hF := mi_let hF hw24.symm
                    have aw24 : w24.toInt = v5_47.toInt + 1 := by rw [← hw24]; first | exact va1 (Int.lt_of_le_of_lt h_v5_47.2 (by decide)) | exact va1 (by omega)
                    refine lv_goto (tgt := 47) hx hb dX12_canSell_156 (by decide) ?_
                    exact ih47 (t23) (w24)  _ _ (by first | exact ms_up hm_47 aw24 h_v5_47.2 | exact ms_lt hm_47 (by omega) (by omega) | omega) (by first | exact rg_up aw24 h_v5_47 (by omega) | omega) (by first | exact rg_up aw24 h_v5_47 (by omega) | omega)   hF hS (lv_sub hl [0, 1, 4, 5, 6, 7] rfl)
                  · have hF := (if_neg c_22).symm.trans hF
                    have c_22 : r8.toInt ≤ y21.toInt := il_nlt c_22
                    refine lv_iconst (v := 1) hx hb dX12_canSell_142 (by decide) ?_
                    refine lv_iload hx hb dX12_canSell_143 (lv_at hl 2 rfl) ?_
                    refine lv_ishl hx hb dX12_canSell_145 ?_
                    refine lv_topi (fun t25 et25 => ?_)
                    have hF := mi_let hF et25
                    refine lv_goto (tgt := 150) hx hb dX12_canSell_146 (by decide) ?_
                    refine lv_ior hx hb dX12_canSell_150 ?_
                    refine lv_topi (fun t26 et26 => ?_)
                    have hF := mi_let hF et26
                    have gt26 : 0 ≤ t26.toInt ∧ t26.toInt ≤ 127 := by rw [et26, et25]; exact o7 (by omega) (by omega) (by omega) (by omega)
                    refine lv_istore (lv' := [(4, .int t26), (7, .int 1), (6, .int 0), (5, .int v5_47), (3, .int r8), (2, .int r7), (0, .ref (ad 0)), (1, .int vk)]) hx hb dX12_canSell_151 hl (by decide) rfl (fun ls hl => ?_)
                    refine lv_iinc (v := (v5_47 + 1)) (lv' := [(5, .int (v5_47 + 1)), (4, .int t26), (7, .int 1), (6, .int 0), (3, .int r8), (2, .int r7), (0, .ref (ad 0)), (1, .int vk)]) hx hb dX12_canSell_153 hl (k := 3) rfl rfl (by decide) rfl (fun ls hl => ?_)
                    refine loc_gen (P := fun w9 => lv_has ls 8 [(5, .int w9), (4, .int t26), (7, .int 1), (6, .int 0), (3, .int r8), (2, .int r7), (0, .ref (ad 0)), (1, .int vk)]) (v5_47 + 1) hl (fun w27 hw27 hl => ?_)
                    have hl : lv_has ls 8 [(5, .int w27), (4, .int t26), (7, .int 1), (6, .int 0), (3, .int r8), (2, .int r7), (0, .ref (ad 0)), (1, .int vk)] := hl
                    have hF := mi_let hF hw27.symm
                    have aw27 : w27.toInt = v5_47.toInt + 1 := by rw [← hw27]; first | exact va1 (Int.lt_of_le_of_lt h_v5_47.2 (by decide)) | exact va1 (by omega)
                    refine lv_goto (tgt := 47) hx hb dX12_canSell_156 (by decide) ?_
                    exact ih47 (t26) (w27)  _ _ (by first | exact ms_up hm_47 aw27 h_v5_47.2 | exact ms_lt hm_47 (by omega) (by omega) | omega) (by first | exact rg_up aw27 h_v5_47 (by omega) | omega) (by first | exact rg_up aw27 h_v5_47 (by omega) | omega)   hF hS (lv_sub hl [0, 1, 4, 5, 6, 7] rfl)
                · have hF := (if_neg (fun h => absurd (hfe20.trans h) (by decide))).symm.trans hF
                  have f20 : ¬ rb r7 v5_47 = 1 := f20
                  refine lv_if_eq (tgt := 149) hx hb dX12_canSell_123 (by decide) (fun _ => ?_) (fun c => absurd (by decide) c)
                  refine lv_iconst (v := 0) hx hb dX12_canSell_149 (by decide) ?_
                  refine lv_ior hx hb dX12_canSell_150 ?_
                  refine lv_topi (fun t28 et28 => ?_)
                  have hF := mi_let hF et28
                  have gt28 : 0 ≤ t28.toInt ∧ t28.toInt ≤ 127 := by rw [et28, show (v4_47 ||| 0 : Int32) = v4_47 by simp]; exact ⟨by omega, by omega⟩
                  refine lv_istore (lv' := [(4, .int t28), (7, .int 1), (6, .int 0), (5, .int v5_47), (3, .int r8), (2, .int r7), (0, .ref (ad 0)), (1, .int vk)]) hx hb dX12_canSell_151 hl (by decide) rfl (fun ls hl => ?_)
                  refine lv_iinc (v := (v5_47 + 1)) (lv' := [(5, .int (v5_47 + 1)), (4, .int t28), (7, .int 1), (6, .int 0), (3, .int r8), (2, .int r7), (0, .ref (ad 0)), (1, .int vk)]) hx hb dX12_canSell_153 hl (k := 3) rfl rfl (by decide) rfl (fun ls hl => ?_)
                  refine loc_gen (P := fun w9 => lv_has ls 8 [(5, .int w9), (4, .int t28), (7, .int 1), (6, .int 0), (3, .int r8), (2, .int r7), (0, .ref (ad 0)), (1, .int vk)]) (v5_47 + 1) hl (fun w29 hw29 hl => ?_)
                  have hl : lv_has ls 8 [(5, .int w29), (4, .int t28), (7, .int 1), (6, .int 0), (3, .int r8), (2, .int r7), (0, .ref (ad 0)), (1, .int vk)] := hl
                  have hF := mi_let hF hw29.symm
                  have aw29 : w29.toInt = v5_47.toInt + 1 := by rw [← hw29]; first | exact va1 (Int.lt_of_le_of_lt h_v5_47.2 (by decide)) | exact va1 (by omega)
                  refine lv_goto (tgt := 47) hx hb dX12_canSell_156 (by decide) ?_
                  exact ih47 (t28) (w29)  _ _ (by first | exact ms_up hm_47 aw29 h_v5_47.2 | exact ms_lt hm_47 (by omega) (by omega) | omega) (by first | exact rg_up aw29 h_v5_47 (by omega) | omega) (by first | exact rg_up aw29 h_v5_47 (by omega) | omega)   hF hS (lv_sub hl [0, 1, 4, 5, 6, 7] rfl)
            · have hF := (if_pos c_12).symm.trans hF
              have c_12 : v5_47.toInt = r11.toInt := il_eq c_12
              refine lv_iconst (v := 1) hx hb dX12_canSell_67 (by decide) ?_
              refine lv_goto (tgt := 72) hx hb dX12_canSell_68 (by decide) ?_
              refine lv_istore (lv' := [(6, .int 1), (5, .int v5_47), (4, .int v4_47), (3, .int r8), (2, .int r7), (0, .ref (ad 0)), (1, .int vk)]) hx hb dX12_canSell_72 hl (by decide) rfl (fun ls hl => ?_)
              refine lv_iload hx hb dX12_canSell_74 (lv_at hl 0 rfl) ?_
              refine lv_if_eq (tgt := 97) hx hb dX12_canSell_76 (by decide) (fun c => absurd c (by decide)) (fun _ => ?_)
              refine lv_aload_n hx hb dX12_canSell_79 rfl (lv_at hl 5 rfl) ?_
              refine lv_iload_n hx hb dX12_canSell_80 rfl (lv_at hl 6 rfl) ?_
              refine lv_iconst (v := 0) hx hb dX12_canSell_81 (by decide) ?_
              refine cr_i (va_runV (As := [.int vk, .int 0]) (rest := []) ⟨hx, hb, hml, hown, hts⟩ (sm_worthIn l dC dI cs ad mu ok s.heap hP vk 0 (by have h51 : (0 : Int32).toInt = 0 := rfl; omega)) (cwV 2 hts (wU_V mw_6_126 mw_6_123 mw_6_125 mw_0_49 mw_1_13) rfl rfl rfl (by decide +kernel) ⟨Nat.le_of_ble_eq_true rfl, Nat.le_of_ble_eq_true rfl⟩) ⟨sz_c, va_recv hK hP (ci := 12) (q0 := 0) rfl (gM_0 cs ad mu), sz_m hK hz⟩ rfl rfl hl.1 rfl (lv_room (Nat.le_of_ble_eq_true rfl)) dX12_canSell_82 ⟨Nat.zero_le _, Nat.zero_le _⟩) hS (fun r30 hw30 locs hS => ?_)
              obtain ⟨hfe30, hw30⟩ := hw30
              have hF := mi_let hF hfe30
              refine lv_iload_n hx hb dX12_canSell_85 rfl (lv_at hl 3 rfl) ?_
              refine lv_icmp_lt (tgt := 93) hx hb dX12_canSell_86 (by decide) (fun c_31 => ?_) (fun c_31 => ?_)
              · have hF := (if_pos c_31).symm.trans hF
                have c_31 : r30.toInt < r8.toInt := il_lt c_31
                refine lv_iconst (v := 0) hx hb dX12_canSell_93 (by decide) ?_
                refine lv_goto (tgt := 113) hx hb dX12_canSell_94 (by decide) ?_
                refine lv_istore (lv' := [(7, .int 0), (6, .int 1), (5, .int v5_47), (4, .int v4_47), (3, .int r8), (2, .int r7), (0, .ref (ad 0)), (1, .int vk)]) hx hb dX12_canSell_113 hl (by decide) rfl (fun ls hl => ?_)
                refine lv_iload hx hb dX12_canSell_115 (lv_at hl 3 rfl) ?_
                refine lv_iload_n hx hb dX12_canSell_117 rfl (lv_at hl 5 rfl) ?_
                refine lv_iload hx hb dX12_canSell_118 (lv_at hl 2 rfl) ?_
                refine cr_i (va_runS (As := [.int r7, .int v5_47]) (rest := [.int v4_47]) ⟨hx, hb, hml, hown, hts⟩ (sm_has l dC dI (tyM cs) s.heap r7 v5_47) (va_cwS 2 hts (wU_S mw_6_59 mw_6_57 mw_6_58 mw_1_13) rfl rfl rfl (by decide +kernel) ⟨Nat.le_of_ble_eq_true rfl, Nat.le_of_ble_eq_true rfl⟩) ⟨sz_c, sz_m hK hz⟩ rfl rfl hl.1 rfl (lv_room (Nat.le_of_ble_eq_true rfl)) dX12_canSell_120 ⟨Nat.zero_le _, Nat.zero_le _⟩) hS (fun r32 hw32 locs hS => ?_)
                obtain ⟨hfe32, hw32⟩ := hw32
                rcases hw32 with ⟨rfl, f32⟩ | ⟨rfl, f32⟩
                · have hF := (if_pos hfe32.symm).symm.trans hF
                  have f32 : rb r7 v5_47 = 1 := f32
                  refine lv_if_eq (tgt := 149) hx hb dX12_canSell_123 (by decide) (fun c => absurd c (by decide)) (fun _ => ?_)
                  refine lv_iload hx hb dX12_canSell_126 (lv_at hl 0 rfl) ?_
                  refine lv_if_eq (tgt := 149) hx hb dX12_canSell_128 (by decide) (fun _ => ?_) (fun c => absurd (by decide) c)
                  refine lv_iconst (v := 0) hx hb dX12_canSell_149 (by decide) ?_
                  refine lv_ior hx hb dX12_canSell_150 ?_
                  refine lv_topi (fun t33 et33 => ?_)
                  have hF := mi_let hF et33
                  have gt33 : 0 ≤ t33.toInt ∧ t33.toInt ≤ 127 := by rw [et33, show (v4_47 ||| 0 : Int32) = v4_47 by simp]; exact ⟨by omega, by omega⟩
                  refine lv_istore (lv' := [(4, .int t33), (7, .int 0), (6, .int 1), (5, .int v5_47), (3, .int r8), (2, .int r7), (0, .ref (ad 0)), (1, .int vk)]) hx hb dX12_canSell_151 hl (by decide) rfl (fun ls hl => ?_)
                  refine lv_iinc (v := (v5_47 + 1)) (lv' := [(5, .int (v5_47 + 1)), (4, .int t33), (7, .int 0), (6, .int 1), (3, .int r8), (2, .int r7), (0, .ref (ad 0)), (1, .int vk)]) hx hb dX12_canSell_153 hl (k := 3) rfl rfl (by decide) rfl (fun ls hl => ?_)
                  refine loc_gen (P := fun w9 => lv_has ls 8 [(5, .int w9), (4, .int t33), (7, .int 0), (6, .int 1), (3, .int r8), (2, .int r7), (0, .ref (ad 0)), (1, .int vk)]) (v5_47 + 1) hl (fun w34 hw34 hl => ?_)
                  have hl : lv_has ls 8 [(5, .int w34), (4, .int t33), (7, .int 0), (6, .int 1), (3, .int r8), (2, .int r7), (0, .ref (ad 0)), (1, .int vk)] := hl
                  have hF := mi_let hF hw34.symm
                  have aw34 : w34.toInt = v5_47.toInt + 1 := by rw [← hw34]; first | exact va1 (Int.lt_of_le_of_lt h_v5_47.2 (by decide)) | exact va1 (by omega)
                  refine lv_goto (tgt := 47) hx hb dX12_canSell_156 (by decide) ?_
                  exact ih47 (t33) (w34)  _ _ (by first | exact ms_up hm_47 aw34 h_v5_47.2 | exact ms_lt hm_47 (by omega) (by omega) | omega) (by first | exact rg_up aw34 h_v5_47 (by omega) | omega) (by first | exact rg_up aw34 h_v5_47 (by omega) | omega)   hF hS (lv_sub hl [0, 1, 4, 5, 6, 7] rfl)
                · have hF := (if_neg (fun h => absurd (hfe32.trans h) (by decide))).symm.trans hF
                  have f32 : ¬ rb r7 v5_47 = 1 := f32
                  refine lv_if_eq (tgt := 149) hx hb dX12_canSell_123 (by decide) (fun _ => ?_) (fun c => absurd (by decide) c)
                  refine lv_iconst (v := 0) hx hb dX12_canSell_149 (by decide) ?_
                  refine lv_ior hx hb dX12_canSell_150 ?_
                  refine lv_topi (fun t35 et35 => ?_)
                  have hF := mi_let hF et35
                  have gt35 : 0 ≤ t35.toInt ∧ t35.toInt ≤ 127 := by rw [et35, show (v4_47 ||| 0 : Int32) = v4_47 by simp]; exact ⟨by omega, by omega⟩
                  refine lv_istore (lv' := [(4, .int t35), (7, .int 0), (6, .int 1), (5, .int v5_47), (3, .int r8), (2, .int r7), (0, .ref (ad 0)), (1, .int vk)]) hx hb dX12_canSell_151 hl (by decide) rfl (fun ls hl => ?_)
                  refine lv_iinc (v := (v5_47 + 1)) (lv' := [(5, .int (v5_47 + 1)), (4, .int t35), (7, .int 0), (6, .int 1), (3, .int r8), (2, .int r7), (0, .ref (ad 0)), (1, .int vk)]) hx hb dX12_canSell_153 hl (k := 3) rfl rfl (by decide) rfl (fun ls hl => ?_)
                  refine loc_gen (P := fun w9 => lv_has ls 8 [(5, .int w9), (4, .int t35), (7, .int 0), (6, .int 1), (3, .int r8), (2, .int r7), (0, .ref (ad 0)), (1, .int vk)]) (v5_47 + 1) hl (fun w36 hw36 hl => ?_)
                  have hl : lv_has ls 8 [(5, .int w36), (4, .int t35), (7, .int 0), (6, .int 1), (3, .int r8), (2, .int r7), (0, .ref (ad 0)), (1, .int vk)] := hl
                  have hF := mi_let hF hw36.symm
                  have aw36 : w36.toInt = v5_47.toInt + 1 := by rw [← hw36]; first | exact va1 (Int.lt_of_le_of_lt h_v5_47.2 (by decide)) | exact va1 (by omega)
                  refine lv_goto (tgt := 47) hx hb dX12_canSell_156 (by decide) ?_
                  exact ih47 (t35) (w36)  _ _ (by first | exact ms_up hm_47 aw36 h_v5_47.2 | exact ms_lt hm_47 (by omega) (by omega) | omega) (by first | exact rg_up aw36 h_v5_47 (by omega) | omega) (by first | exact rg_up aw36 h_v5_47 (by omega) | omega)   hF hS (lv_sub hl [0, 1, 4, 5, 6, 7] rfl)
              · have hF := (if_neg c_31).symm.trans hF
                have c_31 : r8.toInt ≤ r30.toInt := il_nlt c_31
                refine lv_iconst (v := 1) hx hb dX12_canSell_89 (by decide) ?_
                refine lv_goto (tgt := 113) hx hb dX12_canSell_90 (by decide) ?_
                refine lv_istore (lv' := [(7, .int 1), (6, .int 1), (5, .int v5_47), (4, .int v4_47), (3, .int r8), (2, .int r7), (0, .ref (ad 0)), (1, .int vk)]) hx hb dX12_canSell_113 hl (by decide) rfl (fun ls hl => ?_)
                refine lv_iload hx hb dX12_canSell_115 (lv_at hl 3 rfl) ?_
                refine lv_iload_n hx hb dX12_canSell_117 rfl (lv_at hl 5 rfl) ?_
                refine lv_iload hx hb dX12_canSell_118 (lv_at hl 2 rfl) ?_
                refine cr_i (va_runS (As := [.int r7, .int v5_47]) (rest := [.int v4_47]) ⟨hx, hb, hml, hown, hts⟩ (sm_has l dC dI (tyM cs) s.heap r7 v5_47) (va_cwS 2 hts (wU_S mw_6_59 mw_6_57 mw_6_58 mw_1_13) rfl rfl rfl (by decide +kernel) ⟨Nat.le_of_ble_eq_true rfl, Nat.le_of_ble_eq_true rfl⟩) ⟨sz_c, sz_m hK hz⟩ rfl rfl hl.1 rfl (lv_room (Nat.le_of_ble_eq_true rfl)) dX12_canSell_120 ⟨Nat.zero_le _, Nat.zero_le _⟩) hS (fun r37 hw37 locs hS => ?_)
                obtain ⟨hfe37, hw37⟩ := hw37
                rcases hw37 with ⟨rfl, f37⟩ | ⟨rfl, f37⟩
                · have hF := (if_pos hfe37.symm).symm.trans hF
                  have f37 : rb r7 v5_47 = 1 := f37
                  refine lv_if_eq (tgt := 149) hx hb dX12_canSell_123 (by decide) (fun c => absurd c (by decide)) (fun _ => ?_)
                  refine lv_iload hx hb dX12_canSell_126 (lv_at hl 0 rfl) ?_
                  refine lv_if_eq (tgt := 149) hx hb dX12_canSell_128 (by decide) (fun c => absurd c (by decide)) (fun _ => ?_)
                  refine lv_aload_n hx hb dX12_canSell_131 rfl (lv_at hl 6 rfl) ?_
                  refine va_get (D := (dC, dI)) (ci := 12) (v := .ref (ad 8)) (C := RX12) (T := TX12) (N := 46) hx hb hts inG12 hown hK hP 0 (gM_0 cs ad mu) rfl 10 (by decide) (hts _ (List.mem_cons_of_mem _ mw_5_51)) (fun _ h9 => h9) rfl dX12_canSell_132 ?_
                  refine lv_iload hx hb dX12_canSell_135 (lv_at hl 2 rfl) ?_
                  refine va_iald hx hb hK hP 8 0 (gM_8 cs ad mu) rfl (show vp_in v5_47 7 from vi_of (by omega) (by omega)) dX12_canSell_137 ?_
                  refine lv_topi (fun y38 ey38 => ?_)
                  have hF := mi_let hF ey38
                  have by38 : y38.toInt = (mu 8 v5_47.toNatClampNeg).toInt := congrArg Int32.toInt ey38
                  refine lv_iload_n hx hb dX12_canSell_138 rfl (lv_at hl 4 rfl) ?_
                  refine lv_icmp_lt (tgt := 149) hx hb dX12_canSell_139 (by decide) (fun c_39 => ?_) (fun c_39 => ?_)
                  · have hF := (if_pos c_39).symm.trans hF
                    have c_39 : y38.toInt < r8.toInt := il_lt c_39
                    refine lv_iconst (v := 0) hx hb dX12_canSell_149 (by decide) ?_
                    refine lv_ior hx hb dX12_canSell_150 ?_
                    refine lv_topi (fun t40 et40 => ?_)
                    have hF := mi_let hF et40
                    have gt40 : 0 ≤ t40.toInt ∧ t40.toInt ≤ 127 := by rw [et40, show (v4_47 ||| 0 : Int32) = v4_47 by simp]; exact ⟨by omega, by omega⟩
                    refine lv_istore (lv' := [(4, .int t40), (7, .int 1), (6, .int 1), (5, .int v5_47), (3, .int r8), (2, .int r7), (0, .ref (ad 0)), (1, .int vk)]) hx hb dX12_canSell_151 hl (by decide) rfl (fun ls hl => ?_)
                    refine lv_iinc (v := (v5_47 + 1)) (lv' := [(5, .int (v5_47 + 1)), (4, .int t40), (7, .int 1), (6, .int 1), (3, .int r8), (2, .int r7), (0, .ref (ad 0)), (1, .int vk)]) hx hb dX12_canSell_153 hl (k := 3) rfl rfl (by decide) rfl (fun ls hl => ?_)
                    refine loc_gen (P := fun w9 => lv_has ls 8 [(5, .int w9), (4, .int t40), (7, .int 1), (6, .int 1), (3, .int r8), (2, .int r7), (0, .ref (ad 0)), (1, .int vk)]) (v5_47 + 1) hl (fun w41 hw41 hl => ?_)
                    have hl : lv_has ls 8 [(5, .int w41), (4, .int t40), (7, .int 1), (6, .int 1), (3, .int r8), (2, .int r7), (0, .ref (ad 0)), (1, .int vk)] := hl
                    have hF := mi_let hF hw41.symm
                    have aw41 : w41.toInt = v5_47.toInt + 1 := by rw [← hw41]; first | exact va1 (Int.lt_of_le_of_lt h_v5_47.2 (by decide)) | exact va1 (by omega)
                    refine lv_goto (tgt := 47) hx hb dX12_canSell_156 (by decide) ?_
                    exact ih47 (t40) (w41)  _ _ (by first | exact ms_up hm_47 aw41 h_v5_47.2 | exact ms_lt hm_47 (by omega) (by omega) | omega) (by first | exact rg_up aw41 h_v5_47 (by omega) | omega) (by first | exact rg_up aw41 h_v5_47 (by omega) | omega)   hF hS (lv_sub hl [0, 1, 4, 5, 6, 7] rfl)
                  · have hF := (if_neg c_39).symm.trans hF
                    have c_39 : r8.toInt ≤ y38.toInt := il_nlt c_39
                    refine lv_iconst (v := 1) hx hb dX12_canSell_142 (by decide) ?_
                    refine lv_iload hx hb dX12_canSell_143 (lv_at hl 2 rfl) ?_
                    refine lv_ishl hx hb dX12_canSell_145 ?_
                    refine lv_topi (fun t42 et42 => ?_)
                    have hF := mi_let hF et42
                    refine lv_goto (tgt := 150) hx hb dX12_canSell_146 (by decide) ?_
                    refine lv_ior hx hb dX12_canSell_150 ?_
                    refine lv_topi (fun t43 et43 => ?_)
                    have hF := mi_let hF et43
                    have gt43 : 0 ≤ t43.toInt ∧ t43.toInt ≤ 127 := by rw [et43, et42]; exact o7 (by omega) (by omega) (by omega) (by omega)
                    refine lv_istore (lv' := [(4, .int t43), (7, .int 1), (6, .int 1), (5, .int v5_47), (3, .int r8), (2, .int r7), (0, .ref (ad 0)), (1, .int vk)]) hx hb dX12_canSell_151 hl (by decide) rfl (fun ls hl => ?_)
                    refine lv_iinc (v := (v5_47 + 1)) (lv' := [(5, .int (v5_47 + 1)), (4, .int t43), (7, .int 1), (6, .int 1), (3, .int r8), (2, .int r7), (0, .ref (ad 0)), (1, .int vk)]) hx hb dX12_canSell_153 hl (k := 3) rfl rfl (by decide) rfl (fun ls hl => ?_)
                    refine loc_gen (P := fun w9 => lv_has ls 8 [(5, .int w9), (4, .int t43), (7, .int 1), (6, .int 1), (3, .int r8), (2, .int r7), (0, .ref (ad 0)), (1, .int vk)]) (v5_47 + 1) hl (fun w44 hw44 hl => ?_)
                    have hl : lv_has ls 8 [(5, .int w44), (4, .int t43), (7, .int 1), (6, .int 1), (3, .int r8), (2, .int r7), (0, .ref (ad 0)), (1, .int vk)] := hl
                    have hF := mi_let hF hw44.symm
                    have aw44 : w44.toInt = v5_47.toInt + 1 := by rw [← hw44]; first | exact va1 (Int.lt_of_le_of_lt h_v5_47.2 (by decide)) | exact va1 (by omega)
                    refine lv_goto (tgt := 47) hx hb dX12_canSell_156 (by decide) ?_
                    exact ih47 (t43) (w44)  _ _ (by first | exact ms_up hm_47 aw44 h_v5_47.2 | exact ms_lt hm_47 (by omega) (by omega) | omega) (by first | exact rg_up aw44 h_v5_47 (by omega) | omega) (by first | exact rg_up aw44 h_v5_47 (by omega) | omega)   hF hS (lv_sub hl [0, 1, 4, 5, 6, 7] rfl)
                · have hF := (if_neg (fun h => absurd (hfe37.trans h) (by decide))).symm.trans hF
                  have f37 : ¬ rb r7 v5_47 = 1 := f37
                  refine lv_if_eq (tgt := 149) hx hb dX12_canSell_123 (by decide) (fun _ => ?_) (fun c => absurd (by decide) c)
                  refine lv_iconst (v := 0) hx hb dX12_canSell_149 (by decide) ?_
                  refine lv_ior hx hb dX12_canSell_150 ?_
                  refine lv_topi (fun t45 et45 => ?_)
                  have hF := mi_let hF et45
                  have gt45 : 0 ≤ t45.toInt ∧ t45.toInt ≤ 127 := by rw [et45, show (v4_47 ||| 0 : Int32) = v4_47 by simp]; exact ⟨by omega, by omega⟩
                  refine lv_istore (lv' := [(4, .int t45), (7, .int 1), (6, .int 1), (5, .int v5_47), (3, .int r8), (2, .int r7), (0, .ref (ad 0)), (1, .int vk)]) hx hb dX12_canSell_151 hl (by decide) rfl (fun ls hl => ?_)
                  refine lv_iinc (v := (v5_47 + 1)) (lv' := [(5, .int (v5_47 + 1)), (4, .int t45), (7, .int 1), (6, .int 1), (3, .int r8), (2, .int r7), (0, .ref (ad 0)), (1, .int vk)]) hx hb dX12_canSell_153 hl (k := 3) rfl rfl (by decide) rfl (fun ls hl => ?_)
                  refine loc_gen (P := fun w9 => lv_has ls 8 [(5, .int w9), (4, .int t45), (7, .int 1), (6, .int 1), (3, .int r8), (2, .int r7), (0, .ref (ad 0)), (1, .int vk)]) (v5_47 + 1) hl (fun w46 hw46 hl => ?_)
                  have hl : lv_has ls 8 [(5, .int w46), (4, .int t45), (7, .int 1), (6, .int 1), (3, .int r8), (2, .int r7), (0, .ref (ad 0)), (1, .int vk)] := hl
                  have hF := mi_let hF hw46.symm
                  have aw46 : w46.toInt = v5_47.toInt + 1 := by rw [← hw46]; first | exact va1 (Int.lt_of_le_of_lt h_v5_47.2 (by decide)) | exact va1 (by omega)
                  refine lv_goto (tgt := 47) hx hb dX12_canSell_156 (by decide) ?_
                  exact ih47 (t45) (w46)  _ _ (by first | exact ms_up hm_47 aw46 h_v5_47.2 | exact ms_lt hm_47 (by omega) (by omega) | omega) (by first | exact rg_up aw46 h_v5_47 (by omega) | omega) (by first | exact rg_up aw46 h_v5_47 (by omega) | omega)   hF hS (lv_sub hl [0, 1, 4, 5, 6, 7] rfl)
      exact loop47 10 (0) (0)  _ _ (by have h80 : (0 : Int32).toInt = 0 := rfl; have h81 : (0 : Int32).toInt = 0 := rfl; omega) (by have h80 : (0 : Int32).toInt = 0 := rfl; exact ⟨by omega, by omega⟩) (by have h80 : (0 : Int32).toInt = 0 := rfl; exact ⟨by omega, by omega⟩)   hF hS hl
    · have hF := (if_pos c_5).symm.trans hF
      have c_5 : r3.toInt = y4.toInt := il_eq c_5
      refine lv_iconst (v := 0) hx hb dX12_canSell_22 (by decide) ?_
      exact W.iret (v := 0) hx hb hr (fun t ht hW => ⟨⟨0, (), rfl, ⟨hF.trans hfz.symm, (by have h6 : (0 : Int32).toInt = 0 := rfl; omega)⟩, ht⟩, hS.F ht⟩) hS.2.2 dX12_canSell_23
