set_option maxHeartbeats 4000000 in
set_option maxRecDepth 100000 in
/-- sm_askedHad -/
theorem sm_askedHad (l : Launch) (dC : Nat → ClassId) (dI : Nat → Nat → Nat) (cs : Nat → ClassId) (ad : Nat → Nat) (mu : Nat → Nat → Int32) (ok : okR loM hiM mu) (H : Heap) (hP : va_P (dC, dI) vwCl (wR 21 ad (EM cs ad) mu) H) (hD0 : va_D (fun _ => True) (wR 21 ad (EM cs ad) mu)) (vx : Int32) (vr : Int32) : Met l yX12_askedHad (wU yX12_askedHad cX12_askedHad 4 (some .int)) ({ frames := 8, cells := 0, slots := 0, locals := 226 }) (va_Pc [.ref (ad 0), .int vx, .int vr] (sz_P (dC, dI) vwCl (tyM cs) H)) (va_Qi (fun (z : Int32) (xi : Nat → Nat → Int32) => (z = 0 ∧ okR loM hiM xi ∧ (0 ≤ vx.toInt ∧ vx.toInt ≤ 6 ∧ 0 ≤ vr.toInt ∧ vr.toInt ≤ 5 ∧ 0 ≤ (xi 2 vr.toNatClampNeg).toInt ∧ (xi 2 vr.toNatClampNeg).toInt ≤ 6) ∧ (∀ k f : Nat, Nat.testBit 510 (gpM k f) = true → xi k f = mu k f)) ∨ (z.toInt < 0 ∧ okR loM hiM xi ∧ (∀ k f : Nat, Nat.testBit 510 (gpM k f) = true → xi k f = mu k f))) (fun xi t => va_P (dC, dI) vwCl (wR 21 ad (EM cs ad) xi) t.heap) (va_A (wR 21 ad (EM cs ad) mu) H.size)) 0 0 (va_A (wR 21 ad (EM cs ad) mu) H.size) := by
  refine Met.ofW (cc := cX12_askedHad) (maxL := 4) (ret := (some .int)) (by decide) rfl ?_
  intro p e s m args below meth c s₁ B hml hv
  obtain ⟨rfl, hh, hK, hz⟩ := hv
  have hx := B.exec
  have hb := B.bytes
  have hr := B.returns
  have hts := atoms_spec (ws := (wU yX12_askedHad cX12_askedHad 4 (some .int))) B.pre
  have hown : s.vm.findClass RX12 = some m.cls := findClass_of_methodNamed B.named
  have hlocks := B.notSynchronized
  subst hh
  have hD := hD0.self (sz := s.heap.size)
  have hA : ∀ q : Nat, s.heap.size ≤ q → (va_A (wR 21 ad (EM cs ad) mu) s.heap.size) q := fun q h => Or.inr h
  have hS : va_S (va_A (wR 21 ad (EM cs ad) mu) s.heap.size) s.heap s.heap [] := va_S.rf
  have hl := lv_entry ([.ref (ad 0), .int vx, .int vr]) (n := 4) (Nat.le_of_ble_eq_true rfl)
  rw [lg_entry_eq]
  generalize (lg_sl ([.ref (ad 0), .int vx, .int vr]) ++ List.replicate (4 - (lg_sl ([.ref (ad 0), .int vx, .int vr])).length) Slot.unset).toArray = ls at hl ⊢
  have hl : lv_has ls 4 [(0, .ref (ad 0)), (1, .int vx), (2, .int vr)] := hl
  refine lv_aload_n hx hb dX12_askedHad_0 rfl (lv_at hl 0 rfl) ?_
  refine lv_iload_n hx hb dX12_askedHad_1 rfl (lv_at hl 1 rfl) ?_
  refine cr_i (va_runV (As := [.int vx]) (rest := []) ⟨hx, hb, hml, hown, hts⟩ (sm_isOne l dC dI cs ad mu ok s.heap hP vx) (cwV 1 hts (wU_V mw_6_40 mw_6_37 mw_6_39 mw_0_36 mw_1_13) rfl rfl rfl (by decide +kernel) ⟨Nat.le_of_ble_eq_true rfl, Nat.le_of_ble_eq_true rfl⟩) ⟨sz_c, va_recv hK hP (ci := 12) (q0 := 0) rfl (gM_0 cs ad mu), sz_m hK hz⟩ rfl rfl hl.1 rfl (lv_room (Nat.le_of_ble_eq_true rfl)) dX12_askedHad_2 ⟨Nat.zero_le _, Nat.zero_le _⟩) hS (fun r1 hw1 locs hS => ?_)
  obtain ⟨hfe1, hw1⟩ := hw1
  rcases hw1 with ⟨rfl, f1⟩ | ⟨rfl, f1⟩
  · have f1 : 0 ≤ vx.toInt ∧ vx.toInt < (mu 0 8).toInt ∧ (mu 0 8).toInt ≤ 7 := f1
    refine lv_if_ne (tgt := 10) hx hb dX12_askedHad_5 (by decide) (fun _ => ?_) (fun c => absurd c (by decide))
    refine lv_aload_n hx hb dX12_askedHad_10 rfl (lv_at hl 0 rfl) ?_
    refine lv_iload_n hx hb dX12_askedHad_11 rfl (lv_at hl 2 rfl) ?_
    have hFc := fr_all (wR_D mu hD) hS hA
    refine va_calli (va_runV (As := [.int vr]) (rest := []) ⟨hx, hb, hml, hown, hts⟩ (sm_askedRow l dC dI cs ad mu ok s.heap hP ((wR_D mu hD).weaken (fun _ _ _ _ => trivial)) vr) (cwV 1 hts (wU_V mw_5_205 mw_5_202 mw_5_204 mw_0_28 mw_1_13) rfl rfl rfl (by decide +kernel) ⟨Nat.le_of_ble_eq_true rfl, Nat.le_of_ble_eq_true rfl⟩) ⟨sz_c, va_recv hK hP (ci := 12) (q0 := 0) rfl (gM_0 cs ad mu), sz_m hK hz⟩ rfl rfl hl.1 rfl (lv_room (Nat.le_of_ble_eq_true rfl)) dX12_askedHad_12 ⟨Nat.zero_le _, Nat.zero_le _⟩) hS (fun q _ h => hFc q h) hFc (fun r2 xi2 t H2 locs ht hvm hw2 hB hz1 hk1 hS => ?_)
    have hP : va_P (dC, dI) vwCl (wR 21 ad (EM cs ad) xi2) H2 := by rw [← ht]; exact hB
    obtain ⟨hfe2, hw2⟩ := hw2
    rcases hw2 with ⟨rfl, hxi2, f2⟩ | ⟨z2, ok, hkp2_0⟩
    · have hP : va_P (dC, dI) vwCl (wR 21 ad (EM cs ad) mu) H2 := by rw [← hxi2]; exact hP
      have f2 : 0 ≤ vr.toInt ∧ vr.toInt ≤ 5 ∧ 0 ≤ (mu 2 vr.toNatClampNeg).toInt := f2
      refine lv_istore_n (lv' := [(3, .int 0), (0, .ref (ad 0)), (1, .int vx), (2, .int vr)]) hx hb dX12_askedHad_15 rfl hl (by decide) rfl (fun ls hl => ?_)
      refine lv_iload_n hx hb dX12_askedHad_16 rfl (lv_at hl 0 rfl) ?_
      refine lv_if_ge (tgt := 22) hx hb dX12_askedHad_17 (by decide) (fun _ => ?_) (fun c => absurd (by decide) c)
      refine lv_aload_n hx hb dX12_askedHad_22 rfl (lv_at hl 1 rfl) ?_
      refine va_get (D := (dC, dI)) (ci := 12) (v := .ref (ad 2)) (C := RX12) (T := TX12) (N := 46) hx hb hts inG12 hown hK hP 0 (gM_0 cs ad mu) rfl 3 (by decide) (hts _ (List.mem_cons_of_mem _ mw_5_44)) (fun _ h9 => h9) rfl dX12_askedHad_23 ?_
      refine lv_iload_n hx hb dX12_askedHad_26 rfl (lv_at hl 3 rfl) ?_
      refine va_iald hx hb hK hP 2 0 (gM_2 cs ad mu) rfl (show vp_in vr 6 from vi_of (by omega) (by omega)) dX12_askedHad_27 ?_
      refine lv_topi (fun y4 ey4 => ?_)
      have by4 : y4.toInt = (mu 2 vr.toNatClampNeg).toInt := congrArg Int32.toInt ey4
      have gy4 : -9 ≤ y4.toInt ∧ y4.toInt ≤ 40 := by rw [ey4]; exact rM_2_s ok vr.toNatClampNeg
      refine lv_bipush (v := 6) hx hb dX12_askedHad_28 (by decide) ?_
      refine lv_icmp_le (tgt := 39) hx hb dX12_askedHad_30 (by decide) (fun c_5 => ?_) (fun c_5 => ?_)
      · have c_5 : y4.toInt ≤ 6 := il_le c_5
        refine lv_aload_n hx hb dX12_askedHad_39 rfl (lv_at hl 1 rfl) ?_
        refine lv_iconst (v := 0) hx hb dX12_askedHad_40 (by decide) ?_
        refine va_put (D := (dC, dI)) (ci := 12) (v := .int 0) (ty := .int) (C := RX12) (T := TX12) (N := 46) hx hb hts inG12 tyX12 tyX12_ok nmX12 hown hK hP (wR_D mu hD) hS 0 (gM_0 cs ad mu) rfl 42 (by decide) (hts _ (List.mem_cons_of_mem _ mw_5_83)) (fun _ h9 => h9) rfl (by decide +kernel) rfl rfl (Nat.le_of_ble_eq_true rfl) dX12_askedHad_41 (fun H locs hP _ hS => ?_)
        simp only [List.set_cons_succ, List.set_cons_zero] at hP
        refine wr_gen (upd (mu 0) 42 0) hP ((hM_0_42 cs ad _ _)) (fun nu6 hn6 hP => ?_)
        have ok := tM_0_42 ok hn6
        have ez7 : y4 = nu6 2 vr.toNatClampNeg := ey4.trans (congrFun (up_k hn6 (by decide)) vr.toNatClampNeg).symm
        have kp8 : (∀ k f : Nat, Nat.testBit 510 (gpM k f) = true → nu6 k f = mu k f) := kp_f hn6 (by decide) (fun _ _ _ => rfl)
        have ez9 : 0 = nu6 0 42 := up_v hn6
        refine lv_aload_n hx hb dX12_askedHad_44 rfl (lv_at hl 1 rfl) ?_
        refine lv_iconst (v := 0) hx hb dX12_askedHad_45 (by decide) ?_
        refine va_put (D := (dC, dI)) (ci := 12) (v := .int 0) (ty := .int) (C := RX12) (T := TX12) (N := 46) hx hb hts inG12 tyX12 tyX12_ok nmX12 hown hK hP (wR_D nu6 hD) hS 0 (gM_0 cs ad nu6) rfl 43 (by decide) (hts _ (List.mem_cons_of_mem _ mw_5_84)) (fun _ h9 => h9) rfl (by decide +kernel) rfl rfl (Nat.le_of_ble_eq_true rfl) dX12_askedHad_46 (fun H locs hP _ hS => ?_)
        simp only [List.set_cons_succ, List.set_cons_zero] at hP
        refine wr_gen (upd (nu6 0) 43 0) hP ((hM_0_43 cs ad _ _)) (fun nu10 hn10 hP => ?_)
        have ok := tM_0_43 ok hn10
        have ez11 : y4 = nu10 2 vr.toNatClampNeg := ez7.trans (congrFun (up_k hn10 (by decide)) vr.toNatClampNeg).symm
        have ez12 : 0 = nu10 0 42 := ez9.trans (up_f hn10 (by decide)).symm
        have kp13 : (∀ k f : Nat, Nat.testBit 510 (gpM k f) = true → nu10 k f = mu k f) := kp_f hn10 (by decide) kp8
        have ez14 : 0 = nu10 0 43 := up_v hn10
        refine lv_aload_n hx hb dX12_askedHad_49 rfl (lv_at hl 1 rfl) ?_
        refine lv_bipush (v := 127) hx hb dX12_askedHad_50 (by decide) ?_
        refine va_put (D := (dC, dI)) (ci := 12) (v := .int 127) (ty := .int) (C := RX12) (T := TX12) (N := 46) hx hb hts inG12 tyX12 tyX12_ok nmX12 hown hK hP (wR_D nu10 hD) hS 0 (gM_0 cs ad nu10) rfl 44 (by decide) (hts _ (List.mem_cons_of_mem _ mw_5_85)) (fun _ h9 => h9) rfl (by decide +kernel) rfl rfl (Nat.le_of_ble_eq_true rfl) dX12_askedHad_52 (fun H locs hP _ hS => ?_)
        simp only [List.set_cons_succ, List.set_cons_zero] at hP
        refine wr_gen (upd (nu10 0) 44 127) hP ((hM_0_44 cs ad _ _)) (fun nu15 hn15 hP => ?_)
        have ok := tM_0_44 ok hn15
        have ez16 : y4 = nu15 2 vr.toNatClampNeg := ez11.trans (congrFun (up_k hn15 (by decide)) vr.toNatClampNeg).symm
        have ez17 : 0 = nu15 0 42 := ez12.trans (up_f hn15 (by decide)).symm
        have ez18 : 0 = nu15 0 43 := ez14.trans (up_f hn15 (by decide)).symm
        have kp19 : (∀ k f : Nat, Nat.testBit 510 (gpM k f) = true → nu15 k f = mu k f) := kp_f hn15 (by decide) kp13
        have ez20 : 127 = nu15 0 44 := up_v hn15
        refine lv_aload_n hx hb dX12_askedHad_55 rfl (lv_at hl 1 rfl) ?_
        refine va_get (D := (dC, dI)) (ci := 12) (v := .ref (ad 16)) (C := RX12) (T := TX12) (N := 46) hx hb hts inG12 hown hK hP 0 (gM_0 cs ad nu15) rfl 26 (by decide) (hts _ (List.mem_cons_of_mem _ mw_5_67)) (fun _ h9 => h9) rfl dX12_askedHad_56 ?_
        refine lv_iconst (v := 0) hx hb dX12_askedHad_59 (by decide) ?_
        refine lv_iload_n hx hb dX12_askedHad_60 rfl (lv_at hl 2 rfl) ?_
        refine va_iast hx hb hK hP (wR_D nu15 hD) hS 16 0 (gM_16 cs ad nu15) rfl (show vp_in 0 7 from (by unfold vp_in; decide)) dX12_askedHad_61 (fun H locs hP _ hS => ?_)
        refine wr_gen (upd (nu15 16) (0 : Int32).toNatClampNeg vx) hP (rfl) (fun nu21 hn21 hP => ?_)
        have ok := tM_16_s ok (0 : Int32).toNatClampNeg hn21 (by exact ⟨by omega, by omega⟩)
        have ez22 : y4 = nu21 2 vr.toNatClampNeg := ez16.trans (congrFun (up_k hn21 (by decide)) vr.toNatClampNeg).symm
        have ez23 : 0 = nu21 0 42 := ez17.trans (congrFun (up_k hn21 (by decide)) 42).symm
        have ez24 : 0 = nu21 0 43 := ez18.trans (congrFun (up_k hn21 (by decide)) 43).symm
        have ez25 : 127 = nu21 0 44 := ez20.trans (congrFun (up_k hn21 (by decide)) 44).symm
        have kp26 : (∀ k f : Nat, Nat.testBit 510 (gpM k f) = true → nu21 k f = mu k f) := kp_c 0 hn21 (fun _ => rfl) (by decide) kp19
        refine lv_aload_n hx hb dX12_askedHad_62 rfl (lv_at hl 1 rfl) ?_
        refine lv_iload_n hx hb dX12_askedHad_63 rfl (lv_at hl 3 rfl) ?_
        refine lv_iconst (v := 1) hx hb dX12_askedHad_64 (by decide) ?_
        refine lv_iconst (v := 1) hx hb dX12_askedHad_65 (by decide) ?_
        refine lv_iload_n hx hb dX12_askedHad_66 rfl (lv_at hl 2 rfl) ?_
        refine lv_ishl hx hb dX12_askedHad_67 ?_
        refine lv_topi (fun t27 et27 => ?_)
        refine lv_iconst (v := 0) hx hb dX12_askedHad_68 (by decide) ?_
        have hFc := fr_all (wR_D nu21 hD) hS hA
        refine va_callv (va_runV (As := [.int vr, .int 1, .int t27, .int 0]) (rest := []) ⟨hx, hb, hml, hown, hts⟩ (sm_hadOn1 l dC dI cs ad nu21 ok H hP ((wR_D nu21 hD).weaken (fun _ _ _ _ => trivial)) vr t27 0 (by have h51 : (1 : Int32).toInt = 1 := rfl; have h53 : (0 : Int32).toInt = 0 := rfl; omega) (by have h51 : (1 : Int32).toInt = 1 := rfl; have h53 : (0 : Int32).toInt = 0 := rfl; have hb28 := congrArg Int32.toInt ez22; omega)) (cwV 4 hts (wU_V mw_7_24 mw_7_21 mw_7_23 mw_0_62 mw_1_13) rfl rfl rfl (by decide +kernel) ⟨Nat.le_of_ble_eq_true rfl, Nat.le_of_ble_eq_true rfl⟩) ⟨sz_c, va_recv hK hP (ci := 12) (q0 := 0) rfl (gM_0 cs ad nu21), sz_m hK hz⟩ rfl rfl hl.1 rfl (lv_room (Nat.le_of_ble_eq_true rfl)) dX12_askedHad_69 ⟨Nat.zero_le _, Nat.zero_le _⟩) hS (fun q _ h => hFc q h) hFc (fun xi29 t H29 locs ht hvm hw29 hB hz1 hk1 hS => ?_)
        have hP : va_P (dC, dI) vwCl (wR 21 ad (EM cs ad) xi29) H29 := by rw [← ht]; exact hB
        obtain ⟨ok, hw29, hkp29_0, hkp29_1⟩ := hw29
        have ez30 : y4 = xi29 2 vr.toNatClampNeg := ez22.trans (congrFun (hkp29_0 2 (by decide) (by decide)) vr.toNatClampNeg).symm
        have kp31 : (∀ k f : Nat, Nat.testBit 510 (gpM k f) = true → xi29 k f = mu k f) := kp_t hkp29_1 (by decide) kp26
        refine lv_iconst (v := 0) hx hb dX12_askedHad_72 (by decide) ?_
        exact W.iret (v := 0) hx hb hr (fun t ht hW => ⟨⟨0, xi29, rfl, Or.inl ⟨rfl, ok, (by have hb32 := congrArg Int32.toInt ez30; omega), kp31⟩, by first | (subst ht; exact hP) | (rw [ht]; exact hP) | (show va_P (dC, dI) vwCl (wR 21 ad (EM cs ad) xi29) t.heap; rw [ht]; exact hP)⟩, hS.F ht⟩) hS.2.2 dX12_askedHad_73
      · have c_5 : 6 < y4.toInt := il_nle c_5
        refine lv_aload_n hx hb dX12_askedHad_33 rfl (lv_at hl 1 rfl) ?_
        refine lv_iconst (v := 5) hx hb dX12_askedHad_34 (by decide) ?_
        have hFc := fr_all (wR_D mu hD) hS hA
        refine va_calli (va_runV (As := [.int 5]) (rest := []) ⟨hx, hb, hml, hown, hts⟩ (sm_meet l dC dI cs ad mu ok H2 hP ((wR_D mu hD).weaken (fun _ _ _ _ => trivial)) 5 (by have h50 : (5 : Int32).toInt = 5 := rfl; omega)) (cwV 1 hts (wU_V mw_5_193 mw_5_190 mw_5_192 mw_0_26 mw_1_13) rfl rfl rfl (by decide +kernel) ⟨Nat.le_of_ble_eq_true rfl, Nat.le_of_ble_eq_true rfl⟩) ⟨sz_c, va_recv hK hP (ci := 12) (q0 := 0) rfl (gM_0 cs ad mu), sz_m hK hz⟩ rfl rfl hl.1 rfl (lv_room (Nat.le_of_ble_eq_true rfl)) dX12_askedHad_35 ⟨Nat.zero_le _, Nat.zero_le _⟩) hS (fun q _ h => hFc q h) hFc (fun r33 xi33 t H33 locs ht hvm hw33 hB hz1 hk1 hS => ?_)
        have hP : va_P (dC, dI) vwCl (wR 21 ad (EM cs ad) xi33) H33 := by rw [← ht]; exact hB
        obtain ⟨hfe33, ok, hw33, hkp33_0⟩ := hw33
        have kp34 : (∀ k f : Nat, Nat.testBit 510 (gpM k f) = true → xi33 k f = mu k f) := kp_t hkp33_0 (by decide) (fun _ _ _ => rfl)
        have gr33 : -3 ≤ r33.toInt ∧ r33.toInt ≤ -3 := hw33
        exact W.iret (v := r33) hx hb hr (fun t ht hW => ⟨⟨r33, xi33, rfl, Or.inr ⟨by omega, ok, kp34⟩, by first | (subst ht; exact hP) | (rw [ht]; exact hP) | (show va_P (dC, dI) vwCl (wR 21 ad (EM cs ad) xi33) t.heap; rw [ht]; exact hP)⟩, hS.F ht⟩) hS.2.2 dX12_askedHad_38
    · have kp3 : (∀ k f : Nat, Nat.testBit 510 (gpM k f) = true → xi2 k f = mu k f) := kp_t hkp2_0 (by decide) (fun _ _ _ => rfl)
      skip
      refine lv_istore_n (lv' := [(3, .int r2), (0, .ref (ad 0)), (1, .int vx), (2, .int vr)]) hx hb dX12_askedHad_15 rfl hl (by decide) rfl (fun ls hl => ?_)
      refine lv_iload_n hx hb dX12_askedHad_16 rfl (lv_at hl 0 rfl) ?_
      refine lv_if_ge (tgt := 22) hx hb dX12_askedHad_17 (by decide) (fun c_35 => by have c_35 : 0 ≤ r2.toInt := il_le c_35; exfalso; omega) (fun c_35 => ?_)
      have c_35 : r2.toInt < 0 := il_nle c_35
      refine lv_iload_n hx hb dX12_askedHad_20 rfl (lv_at hl 0 rfl) ?_
      exact W.iret (v := r2) hx hb hr (fun t ht hW => ⟨⟨r2, xi2, rfl, Or.inr ⟨by omega, ok, kp3⟩, by first | (subst ht; exact hP) | (rw [ht]; exact hP) | (show va_P (dC, dI) vwCl (wR 21 ad (EM cs ad) xi2) t.heap; rw [ht]; exact hP)⟩, hS.F ht⟩) hS.2.2 dX12_askedHad_21
  · have f1 : vx.toInt < 0 ∨ (mu 0 8).toInt ≤ vx.toInt := f1
    refine lv_if_ne (tgt := 10) hx hb dX12_askedHad_5 (by decide) (fun c => absurd (by decide) c) (fun _ => ?_)
    refine lv_iconst (v := (-1)) hx hb dX12_askedHad_8 (by decide) ?_
    exact W.iret (v := (-1)) hx hb hr (fun t ht hW => ⟨⟨(-1), mu, rfl, Or.inr ⟨by decide, ok, (fun _ _ _ => rfl)⟩, by first | (subst ht; exact hP) | (rw [ht]; exact hP) | (show va_P (dC, dI) vwCl (wR 21 ad (EM cs ad) mu) t.heap; rw [ht]; exact hP)⟩, hS.F ht⟩) hS.2.2 dX12_askedHad_9
