set_option maxHeartbeats 4000000 in
set_option maxRecDepth 100000 in
/-- qm_send -/
theorem qm_send (l : Launch) (dC : Nat → ClassId) (dI : Nat → Nat → Nat) (cs : Nat → ClassId) (ad : Nat → Nat) (mu : Nat → Nat → Int32) (ok : okR loM hiM mu) (H : Heap) (hP : va_P (dC, dI) vwCl (wR 21 ad (EM cs ad) mu) H) (hD0 : va_D (fun _ => True) (wR 21 ad (EM cs ad) mu)) (vx : Int32) (vy : Int32) (vw : Int32) (vf : Int32) : Met l yX12_send (wU yX12_send cX12_send 6 (some .int)) ({ frames := 3, cells := 0, slots := 0, locals := 65 }) (va_Pc [.ref (ad 0), .int vx, .int vy, .int vw, .int vf] (sz_P (dC, dI) vwCl (tyM cs) H)) (va_Qi (fun (z : Int32) (xi : Nat → Nat → Int32) => (z, xi) = F_qm_send mu vx vy vw vf ∧ okR loM hiM xi ∧ (True) ∧ (∀ k f : Nat, Nat.testBit 246 (gpM k f) = true → xi k f = mu k f)) (fun xi t => va_P (dC, dI) vwCl (wR 21 ad (EM cs ad) xi) t.heap) (va_A (wR 21 ad (EM cs ad) mu) H.size)) 0 0 (va_A (wR 21 ad (EM cs ad) mu) H.size) := by
  refine Met.ofW (cc := cX12_send) (maxL := 6) (ret := (some .int)) (by decide) rfl ?_
  intro p e s m args below meth c s₁ B hml hv
  obtain ⟨rfl, hh, hK, hz⟩ := hv
  have hx := B.exec
  have hb := B.bytes
  have hr := B.returns
  have hts := atoms_spec (ws := (wU yX12_send cX12_send 6 (some .int))) B.pre
  have hown : s.vm.findClass RX12 = some m.cls := findClass_of_methodNamed B.named
  have hlocks := B.notSynchronized
  subst hh
  have hD := hD0.self (sz := s.heap.size)
  have hA : ∀ q : Nat, s.heap.size ≤ q → (va_A (wR 21 ad (EM cs ad) mu) s.heap.size) q := fun q h => Or.inr h
  have hS : va_S (va_A (wR 21 ad (EM cs ad) mu) s.heap.size) s.heap s.heap [] := va_S.rf
  have hl := lv_entry ([.ref (ad 0), .int vx, .int vy, .int vw, .int vf]) (n := 6) (Nat.le_of_ble_eq_true rfl)
  rw [lg_entry_eq]
  generalize (lg_sl ([.ref (ad 0), .int vx, .int vy, .int vw, .int vf]) ++ List.replicate (6 - (lg_sl ([.ref (ad 0), .int vx, .int vy, .int vw, .int vf])).length) Slot.unset).toArray = ls at hl ⊢
  have hl : lv_has ls 6 [(0, .ref (ad 0)), (1, .int vx), (2, .int vy), (3, .int vw), (4, .int vf)] := hl
  obtain ⟨fz, hfz⟩ : ∃ z, F_qm_send mu vx vy vw vf = z := ⟨_, rfl⟩
  have hF := hfz
  unfold F_qm_send at hF
  refine lv_aload_n hx hb dX12_send_0 rfl (lv_at hl 0 rfl) ?_
  refine lv_iload_n hx hb dX12_send_1 rfl (lv_at hl 1 rfl) ?_
  refine lv_iload_n hx hb dX12_send_2 rfl (lv_at hl 2 rfl) ?_
  refine cr_i (va_runV (As := [.int vx, .int vy]) (rest := []) ⟨hx, hb, hml, hown, hts⟩ (sm_areTwo l dC dI cs ad mu ok s.heap hP vx vy) (cwV 2 hts (wU_V mw_6_102 mw_6_99 mw_6_101 mw_0_44 mw_1_13) rfl rfl rfl (by decide +kernel) ⟨Nat.le_of_ble_eq_true rfl, Nat.le_of_ble_eq_true rfl⟩) ⟨sz_c, va_recv hK hP (ci := 12) (q0 := 0) rfl (gM_0 cs ad mu), sz_m hK hz⟩ rfl rfl hl.1 rfl (lv_room (Nat.le_of_ble_eq_true rfl)) dX12_send_3 ⟨Nat.zero_le _, Nat.zero_le _⟩) hS (fun r1 hw1 locs hS => ?_)
  obtain ⟨hfe1, hw1⟩ := hw1
  rcases hw1 with ⟨rfl, f1⟩ | ⟨rfl, f1⟩
  · have hF := (if_pos hfe1.symm).symm.trans hF
    have f1 : 0 ≤ vx.toInt ∧ vx.toInt < (mu 0 8).toInt ∧ 0 ≤ vy.toInt ∧ vy.toInt < (mu 0 8).toInt ∧ (mu 0 8).toInt ≤ 7 := f1
    refine lv_if_eq (tgt := 30) hx hb dX12_send_6 (by decide) (fun c => absurd c (by decide)) (fun _ => ?_)
    refine lv_iload_n hx hb dX12_send_9 rfl (lv_at hl 3 rfl) ?_
    refine lv_iconst (v := 0) hx hb dX12_send_10 (by decide) ?_
    refine lv_bipush (v := 99) hx hb dX12_send_11 (by decide) ?_
    refine cr_i (va_runS (As := [.int vw, .int 0, .int 99]) (rest := []) ⟨hx, hb, hml, hown, hts⟩ (sm_in l dC dI (tyM cs) s.heap vw 0 99) (va_cwS 3 hts (wU_S mw_5_189 mw_5_187 mw_5_188 mw_1_13) rfl rfl rfl (by decide +kernel) ⟨Nat.le_of_ble_eq_true rfl, Nat.le_of_ble_eq_true rfl⟩) ⟨sz_c, sz_m hK hz⟩ rfl rfl hl.1 rfl (lv_room (Nat.le_of_ble_eq_true rfl)) dX12_send_13 ⟨Nat.zero_le _, Nat.zero_le _⟩) hS (fun r2 hw2 locs hS => ?_)
    obtain ⟨hfe2, hw2⟩ := hw2
    rcases hw2 with ⟨rfl, f2⟩ | ⟨rfl, f2⟩
    · have hF := (if_pos hfe2.symm).symm.trans hF
      have f2 : (0 : Int) ≤ vw.toInt ∧ vw.toInt ≤ (99 : Int) := f2
      refine lv_if_eq (tgt := 30) hx hb dX12_send_16 (by decide) (fun c => absurd c (by decide)) (fun _ => ?_)
      refine lv_iload hx hb dX12_send_19 (lv_at hl 4 rfl) ?_
      refine lv_iconst (v := 0) hx hb dX12_send_21 (by decide) ?_
      refine lv_bipush (v := 9) hx hb dX12_send_22 (by decide) ?_
      refine cr_i (va_runS (As := [.int vf, .int 0, .int 9]) (rest := []) ⟨hx, hb, hml, hown, hts⟩ (sm_in l dC dI (tyM cs) s.heap vf 0 9) (va_cwS 3 hts (wU_S mw_5_189 mw_5_187 mw_5_188 mw_1_13) rfl rfl rfl (by decide +kernel) ⟨Nat.le_of_ble_eq_true rfl, Nat.le_of_ble_eq_true rfl⟩) ⟨sz_c, sz_m hK hz⟩ rfl rfl hl.1 rfl (lv_room (Nat.le_of_ble_eq_true rfl)) dX12_send_24 ⟨Nat.zero_le _, Nat.zero_le _⟩) hS (fun r3 hw3 locs hS => ?_)
      obtain ⟨hfe3, hw3⟩ := hw3
      rcases hw3 with ⟨rfl, f3⟩ | ⟨rfl, f3⟩
      · have hF := (if_pos hfe3.symm).symm.trans hF
        have f3 : (0 : Int) ≤ vf.toInt ∧ vf.toInt ≤ (9 : Int) := f3
        refine lv_if_ne (tgt := 32) hx hb dX12_send_27 (by decide) (fun _ => ?_) (fun c => absurd c (by decide))
        refine lv_aload_n hx hb dX12_send_32 rfl (lv_at hl 0 rfl) ?_
        refine va_get (D := (dC, dI)) (ci := 12) (v := .int (mu 0 15)) (C := RX12) (T := TX12) (N := 46) hx hb hts inG12 hown hK hP 0 (gM_0 cs ad mu) rfl 15 (by decide) (hts _ (List.mem_cons_of_mem _ mw_5_56)) (fun _ h9 => h9) rfl dX12_send_33 ?_
        refine lv_topi (fun y4 ey4 => ?_)
        have hF := mi_let hF ey4
        have by4 : y4.toInt = (mu 0 15).toInt := congrArg Int32.toInt ey4
        have gy4 : 0 ≤ y4.toInt ∧ y4.toInt ≤ 4 := by rw [ey4]; exact rM_0_15 ok
        refine lv_iconst (v := 4) hx hb dX12_send_36 (by decide) ?_
        refine lv_icmp_ne (tgt := 43) hx hb dX12_send_37 (by decide) (fun c_5 => ?_) (fun c_5 => ?_)
        · have hF := (if_neg c_5).symm.trans hF
          have c_5 : ¬ y4.toInt = 4 := il_ne c_5
          refine lv_aload_n hx hb dX12_send_43 rfl (lv_at hl 0 rfl) ?_
          refine va_get (D := (dC, dI)) (ci := 12) (v := .int (mu 0 15)) (C := RX12) (T := TX12) (N := 46) hx hb hts inG12 hown hK hP 0 (gM_0 cs ad mu) rfl 15 (by decide) (hts _ (List.mem_cons_of_mem _ mw_5_56)) (fun _ h9 => h9) rfl dX12_send_44 ?_
          refine lq_i y4 ey4.symm ?_
          refine lv_istore (lv' := [(5, .int y4), (0, .ref (ad 0)), (1, .int vx), (2, .int vy), (3, .int vw), (4, .int vf)]) hx hb dX12_send_47 hl (by decide) rfl (fun ls hl => ?_)
          refine lv_aload_n hx hb dX12_send_49 rfl (lv_at hl 1 rfl) ?_
          refine lv_dup hx hb dX12_send_50 rfl ?_
          refine va_get (D := (dC, dI)) (ci := 12) (v := .int (mu 0 15)) (C := RX12) (T := TX12) (N := 46) hx hb hts inG12 hown hK hP 0 (gM_0 cs ad mu) rfl 15 (by decide) (hts _ (List.mem_cons_of_mem _ mw_5_56)) (fun _ h9 => h9) rfl dX12_send_51 ?_
          refine lq_i y4 ey4.symm ?_
          refine lv_iconst (v := 1) hx hb dX12_send_54 (by decide) ?_
          refine lv_iadd hx hb dX12_send_55 ?_
          refine lv_topi (fun t6 et6 => ?_)
          have hF := mi_let hF et6
          have at6 : t6.toInt = y4.toInt + 1 := by rw [et6]; exact tI_add (rfl : y4.toInt = _) (rfl : (1 : Int32).toInt = 1) (by omega) (by omega)
          refine va_put (D := (dC, dI)) (ci := 12) (v := .int t6) (ty := .int) (C := RX12) (T := TX12) (N := 46) hx hb hts inG12 tyX12 tyX12_ok nmX12 hown hK hP (wR_D mu hD) hS 0 (gM_0 cs ad mu) rfl 15 (by decide) (hts _ (List.mem_cons_of_mem _ mw_5_56)) (fun _ h9 => h9) rfl (by decide +kernel) rfl rfl (Nat.le_of_ble_eq_true rfl) dX12_send_56 (fun H locs hP _ hS => ?_)
          simp only [List.set_cons_succ, List.set_cons_zero] at hP
          refine wr_gen (upd (mu 0) 15 t6) hP ((hM_0_15 cs ad _ _)) (fun nu7 hn7 hP => ?_)
          have hF := mi_let hF hn7.symm
          have ok := tM_0_15 ok hn7 (by exact ⟨by omega, by omega⟩)
          have kp8 : (∀ k f : Nat, Nat.testBit 246 (gpM k f) = true → nu7 k f = mu k f) := kp_f hn7 (by decide) (fun _ _ _ => rfl)
          have ez9 : t6 = nu7 0 15 := up_v hn7
          refine lv_aload_n hx hb dX12_send_59 rfl (lv_at hl 1 rfl) ?_
          refine lv_iload hx hb dX12_send_60 (lv_at hl 0 rfl) ?_
          refine lv_iconst (v := 0) hx hb dX12_send_62 (by decide) ?_
          refine lv_iload_n hx hb dX12_send_63 rfl (lv_at hl 2 rfl) ?_
          have hFc := fr_all (wR_D nu7 hD) hS hA
          refine va_callv (va_runV (As := [.int y4, .int 0, .int vx]) (rest := []) ⟨hx, hb, hml, hown, hts⟩ (sm_setLetter0 l dC dI cs ad nu7 ok H hP ((wR_D nu7 hD).weaken (fun _ _ _ _ => trivial)) y4 vx (by have h51 : (0 : Int32).toInt = 0 := rfl; omega)) (cwV 3 hts (wU_V mw_6_106 mw_6_103 mw_6_105 mw_0_45 mw_1_13) rfl rfl rfl (by decide +kernel) ⟨Nat.le_of_ble_eq_true rfl, Nat.le_of_ble_eq_true rfl⟩) ⟨sz_c, va_recv hK hP (ci := 12) (q0 := 0) rfl (gM_0 cs ad nu7), sz_m hK hz⟩ rfl rfl hl.1 rfl (lv_room (Nat.le_of_ble_eq_true rfl)) dX12_send_64 ⟨Nat.zero_le _, Nat.zero_le _⟩) hS (fun q _ h => hFc q h) hFc (fun xi10 t H10 locs ht hvm hw10 hB hz1 hk1 hS => ?_)
          have hP : va_P (dC, dI) vwCl (wR 21 ad (EM cs ad) xi10) H10 := by rw [← ht]; exact hB
          obtain ⟨hfe10, ok, hw10, hkp10_0⟩ := hw10
          have hF := mi_let hF hfe10
          have kp11 : (∀ k f : Nat, Nat.testBit 246 (gpM k f) = true → xi10 k f = mu k f) := kp_t hkp10_0 (by decide) kp8
          refine lv_aload_n hx hb dX12_send_67 rfl (lv_at hl 1 rfl) ?_
          refine lv_iload hx hb dX12_send_68 (lv_at hl 0 rfl) ?_
          refine lv_iconst (v := 1) hx hb dX12_send_70 (by decide) ?_
          refine lv_iload_n hx hb dX12_send_71 rfl (lv_at hl 3 rfl) ?_
          have hFc := fr_all (wR_D xi10 hD) hS hA
          refine va_callv (va_runV (As := [.int y4, .int 1, .int vy]) (rest := []) ⟨hx, hb, hml, hown, hts⟩ (sm_setLetter1 l dC dI cs ad xi10 ok H10 hP ((wR_D xi10 hD).weaken (fun _ _ _ _ => trivial)) y4 vy (by have h51 : (1 : Int32).toInt = 1 := rfl; omega)) (cwV 3 hts (wU_V mw_6_106 mw_6_103 mw_6_105 mw_0_45 mw_1_13) rfl rfl rfl (by decide +kernel) ⟨Nat.le_of_ble_eq_true rfl, Nat.le_of_ble_eq_true rfl⟩) ⟨sz_c, va_recv hK hP (ci := 12) (q0 := 0) rfl (gM_0 cs ad xi10), sz_m hK hz⟩ rfl rfl hl.1 rfl (lv_room (Nat.le_of_ble_eq_true rfl)) dX12_send_72 ⟨Nat.zero_le _, Nat.zero_le _⟩) hS (fun q _ h => hFc q h) hFc (fun xi12 t H12 locs ht hvm hw12 hB hz1 hk1 hS => ?_)
          have hP : va_P (dC, dI) vwCl (wR 21 ad (EM cs ad) xi12) H12 := by rw [← ht]; exact hB
          obtain ⟨hfe12, ok, hw12, hkp12_0⟩ := hw12
          have hF := mi_let hF hfe12
          have kp13 : (∀ k f : Nat, Nat.testBit 246 (gpM k f) = true → xi12 k f = mu k f) := kp_t hkp12_0 (by decide) kp11
          refine lv_aload_n hx hb dX12_send_75 rfl (lv_at hl 1 rfl) ?_
          refine lv_iload hx hb dX12_send_76 (lv_at hl 0 rfl) ?_
          refine lv_iconst (v := 2) hx hb dX12_send_78 (by decide) ?_
          refine lv_iload_n hx hb dX12_send_79 rfl (lv_at hl 4 rfl) ?_
          have hFc := fr_all (wR_D xi12 hD) hS hA
          refine va_callv (va_runV (As := [.int y4, .int 2, .int vw]) (rest := []) ⟨hx, hb, hml, hown, hts⟩ (sm_setLetter2 l dC dI cs ad xi12 ok H12 hP ((wR_D xi12 hD).weaken (fun _ _ _ _ => trivial)) y4 vw (by have h51 : (2 : Int32).toInt = 2 := rfl; omega)) (cwV 3 hts (wU_V mw_6_106 mw_6_103 mw_6_105 mw_0_45 mw_1_13) rfl rfl rfl (by decide +kernel) ⟨Nat.le_of_ble_eq_true rfl, Nat.le_of_ble_eq_true rfl⟩) ⟨sz_c, va_recv hK hP (ci := 12) (q0 := 0) rfl (gM_0 cs ad xi12), sz_m hK hz⟩ rfl rfl hl.1 rfl (lv_room (Nat.le_of_ble_eq_true rfl)) dX12_send_80 ⟨Nat.zero_le _, Nat.zero_le _⟩) hS (fun q _ h => hFc q h) hFc (fun xi14 t H14 locs ht hvm hw14 hB hz1 hk1 hS => ?_)
          have hP : va_P (dC, dI) vwCl (wR 21 ad (EM cs ad) xi14) H14 := by rw [← ht]; exact hB
          obtain ⟨hfe14, ok, hw14, hkp14_0⟩ := hw14
          have hF := mi_let hF hfe14
          have kp15 : (∀ k f : Nat, Nat.testBit 246 (gpM k f) = true → xi14 k f = mu k f) := kp_t hkp14_0 (by decide) kp13
          refine lv_aload_n hx hb dX12_send_83 rfl (lv_at hl 1 rfl) ?_
          refine lv_iload hx hb dX12_send_84 (lv_at hl 0 rfl) ?_
          refine lv_iconst (v := 3) hx hb dX12_send_86 (by decide) ?_
          refine lv_iload hx hb dX12_send_87 (lv_at hl 5 rfl) ?_
          have hFc := fr_all (wR_D xi14 hD) hS hA
          refine va_callv (va_runV (As := [.int y4, .int 3, .int vf]) (rest := []) ⟨hx, hb, hml, hown, hts⟩ (sm_setLetter3 l dC dI cs ad xi14 ok H14 hP ((wR_D xi14 hD).weaken (fun _ _ _ _ => trivial)) y4 vf (by have h51 : (3 : Int32).toInt = 3 := rfl; omega)) (cwV 3 hts (wU_V mw_6_106 mw_6_103 mw_6_105 mw_0_45 mw_1_13) rfl rfl rfl (by decide +kernel) ⟨Nat.le_of_ble_eq_true rfl, Nat.le_of_ble_eq_true rfl⟩) ⟨sz_c, va_recv hK hP (ci := 12) (q0 := 0) rfl (gM_0 cs ad xi14), sz_m hK hz⟩ rfl rfl hl.1 rfl (lv_room (Nat.le_of_ble_eq_true rfl)) dX12_send_89 ⟨Nat.zero_le _, Nat.zero_le _⟩) hS (fun q _ h => hFc q h) hFc (fun xi16 t H16 locs ht hvm hw16 hB hz1 hk1 hS => ?_)
          have hP : va_P (dC, dI) vwCl (wR 21 ad (EM cs ad) xi16) H16 := by rw [← ht]; exact hB
          obtain ⟨hfe16, ok, hw16, hkp16_0⟩ := hw16
          have hF := mi_let hF hfe16
          have kp17 : (∀ k f : Nat, Nat.testBit 246 (gpM k f) = true → xi16 k f = mu k f) := kp_t hkp16_0 (by decide) kp15
          refine lv_aload_n hx hb dX12_send_92 rfl (lv_at hl 1 rfl) ?_
          refine lv_iload hx hb dX12_send_93 (lv_at hl 0 rfl) ?_
          refine lv_iconst (v := 4) hx hb dX12_send_95 (by decide) ?_
          refine lv_aload_n hx hb dX12_send_96 rfl (lv_at hl 1 rfl) ?_
          refine va_get (D := (dC, dI)) (ci := 12) (v := .int (xi16 0 14)) (C := RX12) (T := TX12) (N := 46) hx hb hts inG12 hown hK hP 0 (gM_0 cs ad xi16) rfl 14 (by decide) (hts _ (List.mem_cons_of_mem _ mw_5_55)) (fun _ h9 => h9) rfl dX12_send_97 ?_
          refine lv_topi (fun y18 ey18 => ?_)
          have hF := mi_let hF ey18
          have by18 : y18.toInt = (xi16 0 14).toInt := congrArg Int32.toInt ey18
          have hFc := fr_all (wR_D xi16 hD) hS hA
          refine va_callv (va_runV (As := [.int y4, .int 4, .int y18]) (rest := []) ⟨hx, hb, hml, hown, hts⟩ (sm_setLetter4 l dC dI cs ad xi16 ok H16 hP ((wR_D xi16 hD).weaken (fun _ _ _ _ => trivial)) y4 y18 (by have h51 : (4 : Int32).toInt = 4 := rfl; omega)) (cwV 3 hts (wU_V mw_6_106 mw_6_103 mw_6_105 mw_0_45 mw_1_13) rfl rfl rfl (by decide +kernel) ⟨Nat.le_of_ble_eq_true rfl, Nat.le_of_ble_eq_true rfl⟩) ⟨sz_c, va_recv hK hP (ci := 12) (q0 := 0) rfl (gM_0 cs ad xi16), sz_m hK hz⟩ rfl rfl hl.1 rfl (lv_room (Nat.le_of_ble_eq_true rfl)) dX12_send_100 ⟨Nat.zero_le _, Nat.zero_le _⟩) hS (fun q _ h => hFc q h) hFc (fun xi19 t H19 locs ht hvm hw19 hB hz1 hk1 hS => ?_)
          have hP : va_P (dC, dI) vwCl (wR 21 ad (EM cs ad) xi19) H19 := by rw [← ht]; exact hB
          obtain ⟨hfe19, ok, hw19, hkp19_0⟩ := hw19
          have hF := mi_let hF hfe19
          have kp20 : (∀ k f : Nat, Nat.testBit 246 (gpM k f) = true → xi19 k f = mu k f) := kp_t hkp19_0 (by decide) kp17
          refine lv_aload_n hx hb dX12_send_103 rfl (lv_at hl 1 rfl) ?_
          refine lv_iload hx hb dX12_send_104 (lv_at hl 0 rfl) ?_
          refine lv_iconst (v := 5) hx hb dX12_send_106 (by decide) ?_
          refine lv_iload_n hx hb dX12_send_107 rfl (lv_at hl 2 rfl) ?_
          have hFc := fr_all (wR_D xi19 hD) hS hA
          refine va_callv (va_runV (As := [.int y4, .int 5, .int vx]) (rest := []) ⟨hx, hb, hml, hown, hts⟩ (sm_setLetter5 l dC dI cs ad xi19 ok H19 hP ((wR_D xi19 hD).weaken (fun _ _ _ _ => trivial)) y4 vx (by have h51 : (5 : Int32).toInt = 5 := rfl; omega) (by have h51 : (5 : Int32).toInt = 5 := rfl; omega)) (cwV 3 hts (wU_V mw_6_106 mw_6_103 mw_6_105 mw_0_45 mw_1_13) rfl rfl rfl (by decide +kernel) ⟨Nat.le_of_ble_eq_true rfl, Nat.le_of_ble_eq_true rfl⟩) ⟨sz_c, va_recv hK hP (ci := 12) (q0 := 0) rfl (gM_0 cs ad xi19), sz_m hK hz⟩ rfl rfl hl.1 rfl (lv_room (Nat.le_of_ble_eq_true rfl)) dX12_send_108 ⟨Nat.zero_le _, Nat.zero_le _⟩) hS (fun q _ h => hFc q h) hFc (fun xi21 t H21 locs ht hvm hw21 hB hz1 hk1 hS => ?_)
          have hP : va_P (dC, dI) vwCl (wR 21 ad (EM cs ad) xi21) H21 := by rw [← ht]; exact hB
          obtain ⟨hfe21, ok, hw21, hkp21_0⟩ := hw21
          have hF := mi_let hF hfe21
          have kp22 : (∀ k f : Nat, Nat.testBit 246 (gpM k f) = true → xi21 k f = mu k f) := kp_t hkp21_0 (by decide) kp20
          refine lv_aload_n hx hb dX12_send_111 rfl (lv_at hl 1 rfl) ?_
          refine lv_iload hx hb dX12_send_112 (lv_at hl 0 rfl) ?_
          refine lv_bipush (v := 6) hx hb dX12_send_114 (by decide) ?_
          refine lv_iconst (v := 0) hx hb dX12_send_116 (by decide) ?_
          have hFc := fr_all (wR_D xi21 hD) hS hA
          refine va_callv (va_runV (As := [.int y4, .int 6, .int 0]) (rest := []) ⟨hx, hb, hml, hown, hts⟩ (sm_setLetter6 l dC dI cs ad xi21 ok H21 hP ((wR_D xi21 hD).weaken (fun _ _ _ _ => trivial)) y4 0 (by have h51 : (6 : Int32).toInt = 6 := rfl; have h52 : (0 : Int32).toInt = 0 := rfl; omega)) (cwV 3 hts (wU_V mw_6_106 mw_6_103 mw_6_105 mw_0_45 mw_1_13) rfl rfl rfl (by decide +kernel) ⟨Nat.le_of_ble_eq_true rfl, Nat.le_of_ble_eq_true rfl⟩) ⟨sz_c, va_recv hK hP (ci := 12) (q0 := 0) rfl (gM_0 cs ad xi21), sz_m hK hz⟩ rfl rfl hl.1 rfl (lv_room (Nat.le_of_ble_eq_true rfl)) dX12_send_117 ⟨Nat.zero_le _, Nat.zero_le _⟩) hS (fun q _ h => hFc q h) hFc (fun xi23 t H23 locs ht hvm hw23 hB hz1 hk1 hS => ?_)
          have hP : va_P (dC, dI) vwCl (wR 21 ad (EM cs ad) xi23) H23 := by rw [← ht]; exact hB
          obtain ⟨hfe23, ok, hw23, hkp23_0⟩ := hw23
          have hF := mi_let hF hfe23
          have kp24 : (∀ k f : Nat, Nat.testBit 246 (gpM k f) = true → xi23 k f = mu k f) := kp_t hkp23_0 (by decide) kp22
          refine lv_aload_n hx hb dX12_send_120 rfl (lv_at hl 1 rfl) ?_
          refine lv_iload hx hb dX12_send_121 (lv_at hl 0 rfl) ?_
          refine lv_bipush (v := 7) hx hb dX12_send_123 (by decide) ?_
          refine lv_iconst (v := 0) hx hb dX12_send_125 (by decide) ?_
          have hFc := fr_all (wR_D xi23 hD) hS hA
          refine va_callv (va_runV (As := [.int y4, .int 7, .int 0]) (rest := []) ⟨hx, hb, hml, hown, hts⟩ (sm_setLetter7 l dC dI cs ad xi23 ok H23 hP ((wR_D xi23 hD).weaken (fun _ _ _ _ => trivial)) y4 0 (by have h51 : (7 : Int32).toInt = 7 := rfl; have h52 : (0 : Int32).toInt = 0 := rfl; omega)) (cwV 3 hts (wU_V mw_6_106 mw_6_103 mw_6_105 mw_0_45 mw_1_13) rfl rfl rfl (by decide +kernel) ⟨Nat.le_of_ble_eq_true rfl, Nat.le_of_ble_eq_true rfl⟩) ⟨sz_c, va_recv hK hP (ci := 12) (q0 := 0) rfl (gM_0 cs ad xi23), sz_m hK hz⟩ rfl rfl hl.1 rfl (lv_room (Nat.le_of_ble_eq_true rfl)) dX12_send_126 ⟨Nat.zero_le _, Nat.zero_le _⟩) hS (fun q _ h => hFc q h) hFc (fun xi25 t H25 locs ht hvm hw25 hB hz1 hk1 hS => ?_)
          have hP : va_P (dC, dI) vwCl (wR 21 ad (EM cs ad) xi25) H25 := by rw [← ht]; exact hB
          obtain ⟨hfe25, ok, hw25, hkp25_0⟩ := hw25
          have hF := mi_let hF hfe25
          have kp26 : (∀ k f : Nat, Nat.testBit 246 (gpM k f) = true → xi25 k f = mu k f) := kp_t hkp25_0 (by decide) kp24
          refine lv_aload_n hx hb dX12_send_129 rfl (lv_at hl 1 rfl) ?_
          refine lv_iload hx hb dX12_send_130 (lv_at hl 0 rfl) ?_
          refine lv_bipush (v := 8) hx hb dX12_send_132 (by decide) ?_
          refine lv_bipush (v := (-9)) hx hb dX12_send_134 (by decide) ?_
          have hFc := fr_all (wR_D xi25 hD) hS hA
          refine va_callv (va_runV (As := [.int y4, .int 8, .int (-9)]) (rest := []) ⟨hx, hb, hml, hown, hts⟩ (sm_setLetter8 l dC dI cs ad xi25 ok H25 hP ((wR_D xi25 hD).weaken (fun _ _ _ _ => trivial)) y4 (-9) (by have h51 : (8 : Int32).toInt = 8 := rfl; have h52 : ((-9) : Int32).toInt = -9 := rfl; omega)) (cwV 3 hts (wU_V mw_6_106 mw_6_103 mw_6_105 mw_0_45 mw_1_13) rfl rfl rfl (by decide +kernel) ⟨Nat.le_of_ble_eq_true rfl, Nat.le_of_ble_eq_true rfl⟩) ⟨sz_c, va_recv hK hP (ci := 12) (q0 := 0) rfl (gM_0 cs ad xi25), sz_m hK hz⟩ rfl rfl hl.1 rfl (lv_room (Nat.le_of_ble_eq_true rfl)) dX12_send_136 ⟨Nat.zero_le _, Nat.zero_le _⟩) hS (fun q _ h => hFc q h) hFc (fun xi27 t H27 locs ht hvm hw27 hB hz1 hk1 hS => ?_)
          have hP : va_P (dC, dI) vwCl (wR 21 ad (EM cs ad) xi27) H27 := by rw [← ht]; exact hB
          obtain ⟨hfe27, ok, hw27, hkp27_0⟩ := hw27
          have hF := mi_let hF hfe27
          have kp28 : (∀ k f : Nat, Nat.testBit 246 (gpM k f) = true → xi27 k f = mu k f) := kp_t hkp27_0 (by decide) kp26
          refine lv_aload_n hx hb dX12_send_139 rfl (lv_at hl 1 rfl) ?_
          refine lv_iload hx hb dX12_send_140 (lv_at hl 0 rfl) ?_
          refine lv_bipush (v := 9) hx hb dX12_send_142 (by decide) ?_
          refine lv_iconst (v := 0) hx hb dX12_send_144 (by decide) ?_
          have hFc := fr_all (wR_D xi27 hD) hS hA
          refine va_callv (va_runV (As := [.int y4, .int 9, .int 0]) (rest := []) ⟨hx, hb, hml, hown, hts⟩ (sm_setLetter9 l dC dI cs ad xi27 ok H27 hP ((wR_D xi27 hD).weaken (fun _ _ _ _ => trivial)) y4 0 (by have h51 : (9 : Int32).toInt = 9 := rfl; have h52 : (0 : Int32).toInt = 0 := rfl; omega)) (cwV 3 hts (wU_V mw_6_106 mw_6_103 mw_6_105 mw_0_45 mw_1_13) rfl rfl rfl (by decide +kernel) ⟨Nat.le_of_ble_eq_true rfl, Nat.le_of_ble_eq_true rfl⟩) ⟨sz_c, va_recv hK hP (ci := 12) (q0 := 0) rfl (gM_0 cs ad xi27), sz_m hK hz⟩ rfl rfl hl.1 rfl (lv_room (Nat.le_of_ble_eq_true rfl)) dX12_send_145 ⟨Nat.zero_le _, Nat.zero_le _⟩) hS (fun q _ h => hFc q h) hFc (fun xi29 t H29 locs ht hvm hw29 hB hz1 hk1 hS => ?_)
          have hP : va_P (dC, dI) vwCl (wR 21 ad (EM cs ad) xi29) H29 := by rw [← ht]; exact hB
          obtain ⟨hfe29, ok, hw29, hkp29_0⟩ := hw29
          have hF := mi_let hF hfe29
          have kp30 : (∀ k f : Nat, Nat.testBit 246 (gpM k f) = true → xi29 k f = mu k f) := kp_t hkp29_0 (by decide) kp28
          refine lv_iload hx hb dX12_send_148 (lv_at hl 0 rfl) ?_
          exact W.iret (v := y4) hx hb hr (fun t ht hW => ⟨⟨y4, xi29, rfl, ⟨hF.trans hfz.symm, ok, trivial, kp30⟩, by first | (subst ht; exact hP) | (rw [ht]; exact hP) | (show va_P (dC, dI) vwCl (wR 21 ad (EM cs ad) xi29) t.heap; rw [ht]; exact hP)⟩, hS.F ht⟩) hS.2.2 dX12_send_150
        · have hF := (if_pos c_5).symm.trans hF
          have c_5 : y4.toInt = 4 := il_eq c_5
          refine lv_bipush (v := (-2)) hx hb dX12_send_40 (by decide) ?_
          exact W.iret (v := (-2)) hx hb hr (fun t ht hW => ⟨⟨(-2), mu, rfl, ⟨hF.trans hfz.symm, ok, trivial, (fun _ _ _ => rfl)⟩, by first | (subst ht; exact hP) | (rw [ht]; exact hP) | (show va_P (dC, dI) vwCl (wR 21 ad (EM cs ad) mu) t.heap; rw [ht]; exact hP)⟩, hS.F ht⟩) hS.2.2 dX12_send_42
      · have hF := (if_neg (fun h => absurd (hfe3.trans h) (by decide))).symm.trans hF
        have f3 : vf.toInt < (0 : Int) ∨ (9 : Int) < vf.toInt := f3
        refine lv_if_ne (tgt := 32) hx hb dX12_send_27 (by decide) (fun c => absurd (by decide) c) (fun _ => ?_)
        refine lv_iconst (v := (-1)) hx hb dX12_send_30 (by decide) ?_
        exact W.iret (v := (-1)) hx hb hr (fun t ht hW => ⟨⟨(-1), mu, rfl, ⟨hF.trans hfz.symm, ok, trivial, (fun _ _ _ => rfl)⟩, by first | (subst ht; exact hP) | (rw [ht]; exact hP) | (show va_P (dC, dI) vwCl (wR 21 ad (EM cs ad) mu) t.heap; rw [ht]; exact hP)⟩, hS.F ht⟩) hS.2.2 dX12_send_31
    · have hF := (if_neg (fun h => absurd (hfe2.trans h) (by decide))).symm.trans hF
      have f2 : vw.toInt < (0 : Int) ∨ (99 : Int) < vw.toInt := f2
      refine lv_if_eq (tgt := 30) hx hb dX12_send_16 (by decide) (fun _ => ?_) (fun c => absurd (by decide) c)
      refine lv_iconst (v := (-1)) hx hb dX12_send_30 (by decide) ?_
      exact W.iret (v := (-1)) hx hb hr (fun t ht hW => ⟨⟨(-1), mu, rfl, ⟨hF.trans hfz.symm, ok, trivial, (fun _ _ _ => rfl)⟩, by first | (subst ht; exact hP) | (rw [ht]; exact hP) | (show va_P (dC, dI) vwCl (wR 21 ad (EM cs ad) mu) t.heap; rw [ht]; exact hP)⟩, hS.F ht⟩) hS.2.2 dX12_send_31
  · have hF := (if_neg (fun h => absurd (hfe1.trans h) (by decide))).symm.trans hF
    have f1 : True := f1
    refine lv_if_eq (tgt := 30) hx hb dX12_send_6 (by decide) (fun _ => ?_) (fun c => absurd (by decide) c)
    refine lv_iconst (v := (-1)) hx hb dX12_send_30 (by decide) ?_
    exact W.iret (v := (-1)) hx hb hr (fun t ht hW => ⟨⟨(-1), mu, rfl, ⟨hF.trans hfz.symm, ok, trivial, (fun _ _ _ => rfl)⟩, by first | (subst ht; exact hP) | (rw [ht]; exact hP) | (show va_P (dC, dI) vwCl (wR 21 ad (EM cs ad) mu) t.heap; rw [ht]; exact hP)⟩, hS.F ht⟩) hS.2.2 dX12_send_31
