set_option maxHeartbeats 4000000 in
set_option maxRecDepth 100000 in
/-- sm_hadOn7 -/
theorem sm_hadOn7 (l : Launch) (dC : Nat → ClassId) (dI : Nat → Nat → Nat) (cs : Nat → ClassId) (ad : Nat → Nat) (mu : Nat → Nat → Int32) (ok : okR loM hiM mu) (H : Heap) (hP : va_P (dC, dI) vwCl (wR 21 ad (EM cs ad) mu) H) (hD0 : va_D (fun _ => True) (wR 21 ad (EM cs ad) mu)) (vr : Int32) (vh : Int32) (vp : Int32) (hin0 : 0 ≤ vr.toInt ∧ vr.toInt ≤ 5) (hin1 : 7 ≤ (mu 2 vr.toNatClampNeg).toInt + 1 ∧ (mu 2 vr.toNatClampNeg).toInt ≤ 6) : Met l yX12_hadOn (wU yX12_hadOn cX12_hadOn 10 none) ({ frames := 1, cells := 0, slots := 0, locals := 23 }) (va_Pc [.ref (ad 0), .int vr, .int 7, .int vh, .int vp] (sz_P (dC, dI) vwCl (tyM cs) H)) (va_Qv (fun (xi : Nat → Nat → Int32) => okR loM hiM xi ∧ (True) ∧ (∀ k : Nat, 2 ≤ k → k < 3 → xi k = mu k)) (fun xi t => va_P (dC, dI) vwCl (wR 21 ad (EM cs ad) xi) t.heap) (va_A (wR 21 ad (EM cs ad) mu) H.size)) 0 0 (va_A (wR 21 ad (EM cs ad) mu) H.size) := by
  refine Met.ofW (cc := cX12_hadOn) (maxL := 10) (ret := none) (by decide) rfl ?_
  intro p e s m args below meth c s₁ B hml hv
  obtain ⟨rfl, hh, hK, hz⟩ := hv
  have hx := B.exec
  have hb := B.bytes
  have hr := B.returns
  have hts := atoms_spec (ws := (wU yX12_hadOn cX12_hadOn 10 none)) B.pre
  have hown : s.vm.findClass RX12 = some m.cls := findClass_of_methodNamed B.named
  have hlocks := B.notSynchronized
  subst hh
  have hD := hD0.self (sz := s.heap.size)
  have hA : ∀ q : Nat, s.heap.size ≤ q → (va_A (wR 21 ad (EM cs ad) mu) s.heap.size) q := fun q h => Or.inr h
  have hS : va_S (va_A (wR 21 ad (EM cs ad) mu) s.heap.size) s.heap s.heap [] := va_S.rf
  have hl := lv_entry ([.ref (ad 0), .int vr, .int 7, .int vh, .int vp]) (n := 10) (Nat.le_of_ble_eq_true rfl)
  rw [lg_entry_eq]
  generalize (lg_sl ([.ref (ad 0), .int vr, .int 7, .int vh, .int vp]) ++ List.replicate (10 - (lg_sl ([.ref (ad 0), .int vr, .int 7, .int vh, .int vp])).length) Slot.unset).toArray = ls at hl ⊢
  have hl : lv_has ls 10 [(0, .ref (ad 0)), (1, .int vr), (2, .int 7), (3, .int vh), (4, .int vp)] := hl
  refine lv_iload_n hx hb dX12_hadOn_0 rfl (lv_at hl 2 rfl) ?_
  refine lv_aload_n hx hb dX12_hadOn_1 rfl (lv_at hl 0 rfl) ?_
  refine va_get (D := (dC, dI)) (ci := 12) (v := .ref (ad 2)) (C := RX12) (T := TX12) (N := 46) hx hb hts inG12 hown hK hP 0 (gM_0 cs ad mu) rfl 3 (by decide) (hts _ (List.mem_cons_of_mem _ mw_5_44)) (fun _ h9 => h9) rfl dX12_hadOn_2 ?_
  refine lv_iload_n hx hb dX12_hadOn_5 rfl (lv_at hl 1 rfl) ?_
  refine va_iald hx hb hK hP 2 0 (gM_2 cs ad mu) rfl (show vp_in vr 6 from vi_of (by omega) (by omega)) dX12_hadOn_6 ?_
  refine lv_topi (fun y1 ey1 => ?_)
  have by1 : y1.toInt = (mu 2 vr.toNatClampNeg).toInt := congrArg Int32.toInt ey1
  have gy1 : -9 ≤ y1.toInt ∧ y1.toInt ≤ 40 := by rw [ey1]; exact rM_2_s ok vr.toNatClampNeg
  refine lv_iconst (v := 1) hx hb dX12_hadOn_7 (by decide) ?_
  refine lv_iadd hx hb dX12_hadOn_8 ?_
  refine lv_topi (fun t2 et2 => ?_)
  have at2 : t2.toInt = y1.toInt + 1 := by rw [et2]; exact tI_add (rfl : y1.toInt = _) (rfl : (1 : Int32).toInt = 1) (by omega) (by omega)
  refine lv_icmp_ne (tgt := 68) hx hb dX12_hadOn_9 (by decide) (fun c_3 => by have c_3 : ¬ 7 = t2.toInt := il_ne c_3; exfalso; omega) (fun c_3 => ?_)
  have c_3 : 7 = t2.toInt := il_eq c_3
  refine lv_aload_n hx hb dX12_hadOn_12 rfl (lv_at hl 0 rfl) ?_
  refine va_get (D := (dC, dI)) (ci := 12) (v := .int (mu 0 42)) (C := RX12) (T := TX12) (N := 46) hx hb hts inG12 hown hK hP 0 (gM_0 cs ad mu) rfl 42 (by decide) (hts _ (List.mem_cons_of_mem _ mw_5_83)) (fun _ h9 => h9) rfl dX12_hadOn_13 ?_
  refine lv_topi (fun y4 ey4 => ?_)
  have by4 : y4.toInt = (mu 0 42).toInt := congrArg Int32.toInt ey4
  refine lv_if_ne (tgt := 28) hx hb dX12_hadOn_16 (by decide) (fun c_5 => ?_) (fun c_5 => ?_)
  · have c_5 : ¬ y4.toInt = 0 := il_ne c_5
    refine lv_aload_n hx hb dX12_hadOn_28 rfl (lv_at hl 0 rfl) ?_
    refine lv_dup hx hb dX12_hadOn_29 rfl ?_
    refine va_get (D := (dC, dI)) (ci := 12) (v := .int (mu 0 42)) (C := RX12) (T := TX12) (N := 46) hx hb hts inG12 hown hK hP 0 (gM_0 cs ad mu) rfl 42 (by decide) (hts _ (List.mem_cons_of_mem _ mw_5_83)) (fun _ h9 => h9) rfl dX12_hadOn_30 ?_
    refine lq_i y4 ey4.symm ?_
    refine lv_iconst (v := 1) hx hb dX12_hadOn_33 (by decide) ?_
    refine lv_iadd hx hb dX12_hadOn_34 ?_
    refine lv_topi (fun t6 et6 => ?_)
    refine va_put (D := (dC, dI)) (ci := 12) (v := .int t6) (ty := .int) (C := RX12) (T := TX12) (N := 46) hx hb hts inG12 tyX12 tyX12_ok nmX12 hown hK hP (wR_D mu hD) hS 0 (gM_0 cs ad mu) rfl 42 (by decide) (hts _ (List.mem_cons_of_mem _ mw_5_83)) (fun _ h9 => h9) rfl (by decide +kernel) rfl rfl (Nat.le_of_ble_eq_true rfl) dX12_hadOn_35 (fun H locs hP _ hS => ?_)
    simp only [List.set_cons_succ, List.set_cons_zero] at hP
    refine wr_gen (upd (mu 0) 42 t6) hP ((hM_0_42 cs ad _ _)) (fun nu7 hn7 hP => ?_)
    have ok := tM_0_42 ok hn7
    have ez8 : y1 = nu7 2 vr.toNatClampNeg := ey1.trans (congrFun (up_k hn7 (by decide)) vr.toNatClampNeg).symm
    have kp9 : ∀ k : Nat, 2 ≤ k → k < 3 → nu7 k = mu k := fun k h1 h2 => (up_k hn7 (ne_lo (by decide) h1).symm).trans ((fun _ _ _ => rfl) k h1 h2)
    have ez10 : t6 = nu7 0 42 := up_v hn7
    refine lv_aload_n hx hb dX12_hadOn_38 rfl (lv_at hl 0 rfl) ?_
    refine lv_dup hx hb dX12_hadOn_39 rfl ?_
    refine va_get (D := (dC, dI)) (ci := 12) (v := .int (nu7 0 43)) (C := RX12) (T := TX12) (N := 46) hx hb hts inG12 hown hK hP 0 (gM_0 cs ad nu7) rfl 43 (by decide) (hts _ (List.mem_cons_of_mem _ mw_5_84)) (fun _ h9 => h9) rfl dX12_hadOn_40 ?_
    refine lv_topi (fun y11 ey11 => ?_)
    have by11 : y11.toInt = (nu7 0 43).toInt := congrArg Int32.toInt ey11
    refine lv_iconst (v := 1) hx hb dX12_hadOn_43 (by decide) ?_
    refine lv_aload_n hx hb dX12_hadOn_44 rfl (lv_at hl 0 rfl) ?_
    refine va_get (D := (dC, dI)) (ci := 12) (v := .ref (ad 16)) (C := RX12) (T := TX12) (N := 46) hx hb hts inG12 hown hK hP 0 (gM_0 cs ad nu7) rfl 26 (by decide) (hts _ (List.mem_cons_of_mem _ mw_5_67)) (fun _ h9 => h9) rfl dX12_hadOn_45 ?_
    refine lv_iload_n hx hb dX12_hadOn_48 rfl (lv_at hl 2 rfl) ?_
    refine lv_iconst (v := 1) hx hb dX12_hadOn_49 (by decide) ?_
    refine lv_isub hx hb dX12_hadOn_50 ?_
    refine lq_i 6 (by decide) ?_
    refine va_iald hx hb hK hP 16 0 (gM_16 cs ad nu7) rfl (show vp_in 6 7 from (by unfold vp_in; decide)) dX12_hadOn_51 ?_
    refine lv_topi (fun y12 ey12 => ?_)
    have by12 : y12.toInt = (nu7 16 (6 : Int32).toNatClampNeg).toInt := congrArg Int32.toInt ey12
    have gy12 : 0 ≤ y12.toInt ∧ y12.toInt ≤ 6 := by rw [ey12]; exact rM_16_s ok (6 : Int32).toNatClampNeg
    refine lv_ishl hx hb dX12_hadOn_52 ?_
    refine lv_topi (fun t13 et13 => ?_)
    refine lv_ior hx hb dX12_hadOn_53 ?_
    refine lv_topi (fun t14 et14 => ?_)
    refine va_put (D := (dC, dI)) (ci := 12) (v := .int t14) (ty := .int) (C := RX12) (T := TX12) (N := 46) hx hb hts inG12 tyX12 tyX12_ok nmX12 hown hK hP (wR_D nu7 hD) hS 0 (gM_0 cs ad nu7) rfl 43 (by decide) (hts _ (List.mem_cons_of_mem _ mw_5_84)) (fun _ h9 => h9) rfl (by decide +kernel) rfl rfl (Nat.le_of_ble_eq_true rfl) dX12_hadOn_54 (fun H locs hP _ hS => ?_)
    simp only [List.set_cons_succ, List.set_cons_zero] at hP
    refine wr_gen (upd (nu7 0) 43 t14) hP ((hM_0_43 cs ad _ _)) (fun nu15 hn15 hP => ?_)
    have ok := tM_0_43 ok hn15
    have ez16 : y1 = nu15 2 vr.toNatClampNeg := ez8.trans (congrFun (up_k hn15 (by decide)) vr.toNatClampNeg).symm
    have ez17 : t6 = nu15 0 42 := ez10.trans (up_f hn15 (by decide)).symm
    have ez18 : y12 = nu15 16 (6 : Int32).toNatClampNeg := ey12.trans (congrFun (up_k hn15 (by decide)) (6 : Int32).toNatClampNeg).symm
    have kp19 : ∀ k : Nat, 2 ≤ k → k < 3 → nu15 k = mu k := fun k h1 h2 => (up_k hn15 (ne_lo (by decide) h1).symm).trans (kp9 k h1 h2)
    have ez20 : t14 = nu15 0 43 := up_v hn15
    refine lv_aload_n hx hb dX12_hadOn_57 rfl (lv_at hl 0 rfl) ?_
    refine lv_dup hx hb dX12_hadOn_58 rfl ?_
    refine va_get (D := (dC, dI)) (ci := 12) (v := .int (nu15 0 44)) (C := RX12) (T := TX12) (N := 46) hx hb hts inG12 hown hK hP 0 (gM_0 cs ad nu15) rfl 44 (by decide) (hts _ (List.mem_cons_of_mem _ mw_5_85)) (fun _ h9 => h9) rfl dX12_hadOn_59 ?_
    refine lv_topi (fun y21 ey21 => ?_)
    have by21 : y21.toInt = (nu15 0 44).toInt := congrArg Int32.toInt ey21
    refine lv_iload_n hx hb dX12_hadOn_62 rfl (lv_at hl 3 rfl) ?_
    refine lv_iand hx hb dX12_hadOn_63 ?_
    refine lv_topi (fun t22 et22 => ?_)
    refine va_put (D := (dC, dI)) (ci := 12) (v := .int t22) (ty := .int) (C := RX12) (T := TX12) (N := 46) hx hb hts inG12 tyX12 tyX12_ok nmX12 hown hK hP (wR_D nu15 hD) hS 0 (gM_0 cs ad nu15) rfl 44 (by decide) (hts _ (List.mem_cons_of_mem _ mw_5_85)) (fun _ h9 => h9) rfl (by decide +kernel) rfl rfl (Nat.le_of_ble_eq_true rfl) dX12_hadOn_64 (fun H locs hP _ hS => ?_)
    simp only [List.set_cons_succ, List.set_cons_zero] at hP
    refine wr_gen (upd (nu15 0) 44 t22) hP ((hM_0_44 cs ad _ _)) (fun nu23 hn23 hP => ?_)
    have ok := tM_0_44 ok hn23
    have ez24 : y1 = nu23 2 vr.toNatClampNeg := ez16.trans (congrFun (up_k hn23 (by decide)) vr.toNatClampNeg).symm
    have ez25 : t6 = nu23 0 42 := ez17.trans (up_f hn23 (by decide)).symm
    have ez26 : y12 = nu23 16 (6 : Int32).toNatClampNeg := ez18.trans (congrFun (up_k hn23 (by decide)) (6 : Int32).toNatClampNeg).symm
    have ez27 : t14 = nu23 0 43 := ez20.trans (up_f hn23 (by decide)).symm
    have kp28 : ∀ k : Nat, 2 ≤ k → k < 3 → nu23 k = mu k := fun k h1 h2 => (up_k hn23 (ne_lo (by decide) h1).symm).trans (kp19 k h1 h2)
    have ez29 : t22 = nu23 0 44 := up_v hn23
    exact W.vret hx hb hr (fun t ht hW => ⟨⟨nu23, rfl, ⟨ok, trivial, kp28⟩, by first | (subst ht; exact hP) | (rw [ht]; exact hP) | (show va_P (dC, dI) vwCl (wR 21 ad (EM cs ad) nu23) t.heap; rw [ht]; exact hP)⟩, hS.F ht⟩) hS.2.2 dX12_hadOn_67
  · have c_5 : y4.toInt = 0 := il_eq c_5
    refine lv_aload_n hx hb dX12_hadOn_19 rfl (lv_at hl 0 rfl) ?_
    refine lv_aload_n hx hb dX12_hadOn_20 rfl (lv_at hl 0 rfl) ?_
    refine va_get (D := (dC, dI)) (ci := 12) (v := .ref (ad 17)) (C := RX12) (T := TX12) (N := 46) hx hb hts inG12 hown hK hP 0 (gM_0 cs ad mu) rfl 27 (by decide) (hts _ (List.mem_cons_of_mem _ mw_5_68)) (fun _ h9 => h9) rfl dX12_hadOn_21 ?_
    refine lv_iload_n hx hb dX12_hadOn_24 rfl (lv_at hl 2 rfl) ?_
    have hFc := fr_all (wR_D mu hD) hS hA
    refine va_callv (va_runV (As := [.ref (ad 17), .int 7]) (rest := []) ⟨hx, hb, hml, hown, hts⟩ (sm_copyRoute17 l dC dI cs ad mu ok s.heap hP ((wR_D mu hD).weaken (fun _ _ _ _ => trivial)) 7 (by have h51 : (7 : Int32).toInt = 7 := rfl; omega)) (cwV 2 hts (wU_V mw_6_191 mw_6_188 mw_6_190 mw_0_57 mw_1_13) rfl rfl rfl (by decide +kernel) ⟨Nat.le_of_ble_eq_true rfl, Nat.le_of_ble_eq_true rfl⟩) ⟨sz_c, va_recv hK hP (ci := 12) (q0 := 0) rfl (gM_0 cs ad mu), sz_m hK hz⟩ rfl rfl hl.1 rfl (lv_room (Nat.le_of_ble_eq_true rfl)) dX12_hadOn_25 ⟨Nat.zero_le _, Nat.zero_le _⟩) hS (fun q _ h => hFc q h) hFc (fun xi30 t H30 locs ht hvm hw30 hB hz1 hk1 hS => ?_)
    have hP : va_P (dC, dI) vwCl (wR 21 ad (EM cs ad) xi30) H30 := by rw [← ht]; exact hB
    obtain ⟨ok, hw30, hkp30_0⟩ := hw30
    have ez31 : y1 = xi30 2 vr.toNatClampNeg := ey1.trans (congrFun (hkp30_0 2 (by decide) (by decide)) vr.toNatClampNeg).symm
    have ez32 : y4 = xi30 0 42 := ey4.trans (congrFun (hkp30_0 0 (by decide) (by decide)) 42).symm
    have kp33 : ∀ k : Nat, 2 ≤ k → k < 3 → xi30 k = mu k := fun k h1 h2 => (hkp30_0 k (Nat.le_trans (by decide) h1) (Nat.lt_of_lt_of_le h2 (by decide))).trans ((fun _ _ _ => rfl) k h1 h2)
    refine lv_aload_n hx hb dX12_hadOn_28 rfl (lv_at hl 0 rfl) ?_
    refine lv_dup hx hb dX12_hadOn_29 rfl ?_
    refine va_get (D := (dC, dI)) (ci := 12) (v := .int (xi30 0 42)) (C := RX12) (T := TX12) (N := 46) hx hb hts inG12 hown hK hP 0 (gM_0 cs ad xi30) rfl 42 (by decide) (hts _ (List.mem_cons_of_mem _ mw_5_83)) (fun _ h9 => h9) rfl dX12_hadOn_30 ?_
    refine lq_i y4 ez32.symm ?_
    refine lv_iconst (v := 1) hx hb dX12_hadOn_33 (by decide) ?_
    refine lv_iadd hx hb dX12_hadOn_34 ?_
    refine lv_topi (fun t34 et34 => ?_)
    have at34 : t34.toInt = y4.toInt + 1 := by rw [et34]; exact tI_add (rfl : y4.toInt = _) (rfl : (1 : Int32).toInt = 1) (by omega) (by omega)
    refine va_put (D := (dC, dI)) (ci := 12) (v := .int t34) (ty := .int) (C := RX12) (T := TX12) (N := 46) hx hb hts inG12 tyX12 tyX12_ok nmX12 hown hK hP (wR_D xi30 hD) hS 0 (gM_0 cs ad xi30) rfl 42 (by decide) (hts _ (List.mem_cons_of_mem _ mw_5_83)) (fun _ h9 => h9) rfl (by decide +kernel) rfl rfl (Nat.le_of_ble_eq_true rfl) dX12_hadOn_35 (fun H locs hP _ hS => ?_)
    simp only [List.set_cons_succ, List.set_cons_zero] at hP
    refine wr_gen (upd (xi30 0) 42 t34) hP ((hM_0_42 cs ad _ _)) (fun nu35 hn35 hP => ?_)
    have ok := tM_0_42 ok hn35
    have ez36 : y1 = nu35 2 vr.toNatClampNeg := ez31.trans (congrFun (up_k hn35 (by decide)) vr.toNatClampNeg).symm
    have kp37 : ∀ k : Nat, 2 ≤ k → k < 3 → nu35 k = mu k := fun k h1 h2 => (up_k hn35 (ne_lo (by decide) h1).symm).trans (kp33 k h1 h2)
    have ez38 : t34 = nu35 0 42 := up_v hn35
    refine lv_aload_n hx hb dX12_hadOn_38 rfl (lv_at hl 0 rfl) ?_
    refine lv_dup hx hb dX12_hadOn_39 rfl ?_
    refine va_get (D := (dC, dI)) (ci := 12) (v := .int (nu35 0 43)) (C := RX12) (T := TX12) (N := 46) hx hb hts inG12 hown hK hP 0 (gM_0 cs ad nu35) rfl 43 (by decide) (hts _ (List.mem_cons_of_mem _ mw_5_84)) (fun _ h9 => h9) rfl dX12_hadOn_40 ?_
    refine lv_topi (fun y39 ey39 => ?_)
    have by39 : y39.toInt = (nu35 0 43).toInt := congrArg Int32.toInt ey39
    refine lv_iconst (v := 1) hx hb dX12_hadOn_43 (by decide) ?_
    refine lv_aload_n hx hb dX12_hadOn_44 rfl (lv_at hl 0 rfl) ?_
    refine va_get (D := (dC, dI)) (ci := 12) (v := .ref (ad 16)) (C := RX12) (T := TX12) (N := 46) hx hb hts inG12 hown hK hP 0 (gM_0 cs ad nu35) rfl 26 (by decide) (hts _ (List.mem_cons_of_mem _ mw_5_67)) (fun _ h9 => h9) rfl dX12_hadOn_45 ?_
    refine lv_iload_n hx hb dX12_hadOn_48 rfl (lv_at hl 2 rfl) ?_
    refine lv_iconst (v := 1) hx hb dX12_hadOn_49 (by decide) ?_
    refine lv_isub hx hb dX12_hadOn_50 ?_
    refine lq_i 6 (by decide) ?_
    refine va_iald hx hb hK hP 16 0 (gM_16 cs ad nu35) rfl (show vp_in 6 7 from (by unfold vp_in; decide)) dX12_hadOn_51 ?_
    refine lv_topi (fun y40 ey40 => ?_)
    have by40 : y40.toInt = (nu35 16 (6 : Int32).toNatClampNeg).toInt := congrArg Int32.toInt ey40
    have gy40 : 0 ≤ y40.toInt ∧ y40.toInt ≤ 6 := by rw [ey40]; exact rM_16_s ok (6 : Int32).toNatClampNeg
    refine lv_ishl hx hb dX12_hadOn_52 ?_
    refine lv_topi (fun t41 et41 => ?_)
    refine lv_ior hx hb dX12_hadOn_53 ?_
    refine lv_topi (fun t42 et42 => ?_)
    refine va_put (D := (dC, dI)) (ci := 12) (v := .int t42) (ty := .int) (C := RX12) (T := TX12) (N := 46) hx hb hts inG12 tyX12 tyX12_ok nmX12 hown hK hP (wR_D nu35 hD) hS 0 (gM_0 cs ad nu35) rfl 43 (by decide) (hts _ (List.mem_cons_of_mem _ mw_5_84)) (fun _ h9 => h9) rfl (by decide +kernel) rfl rfl (Nat.le_of_ble_eq_true rfl) dX12_hadOn_54 (fun H locs hP _ hS => ?_)
    simp only [List.set_cons_succ, List.set_cons_zero] at hP
    refine wr_gen (upd (nu35 0) 43 t42) hP ((hM_0_43 cs ad _ _)) (fun nu43 hn43 hP => ?_)
    have ok := tM_0_43 ok hn43
    have ez44 : y1 = nu43 2 vr.toNatClampNeg := ez36.trans (congrFun (up_k hn43 (by decide)) vr.toNatClampNeg).symm
    have ez45 : t34 = nu43 0 42 := ez38.trans (up_f hn43 (by decide)).symm
    have ez46 : y40 = nu43 16 (6 : Int32).toNatClampNeg := ey40.trans (congrFun (up_k hn43 (by decide)) (6 : Int32).toNatClampNeg).symm
    have kp47 : ∀ k : Nat, 2 ≤ k → k < 3 → nu43 k = mu k := fun k h1 h2 => (up_k hn43 (ne_lo (by decide) h1).symm).trans (kp37 k h1 h2)
    have ez48 : t42 = nu43 0 43 := up_v hn43
    refine lv_aload_n hx hb dX12_hadOn_57 rfl (lv_at hl 0 rfl) ?_
    refine lv_dup hx hb dX12_hadOn_58 rfl ?_
    refine va_get (D := (dC, dI)) (ci := 12) (v := .int (nu43 0 44)) (C := RX12) (T := TX12) (N := 46) hx hb hts inG12 hown hK hP 0 (gM_0 cs ad nu43) rfl 44 (by decide) (hts _ (List.mem_cons_of_mem _ mw_5_85)) (fun _ h9 => h9) rfl dX12_hadOn_59 ?_
    refine lv_topi (fun y49 ey49 => ?_)
    have by49 : y49.toInt = (nu43 0 44).toInt := congrArg Int32.toInt ey49
    refine lv_iload_n hx hb dX12_hadOn_62 rfl (lv_at hl 3 rfl) ?_
    refine lv_iand hx hb dX12_hadOn_63 ?_
    refine lv_topi (fun t50 et50 => ?_)
    refine va_put (D := (dC, dI)) (ci := 12) (v := .int t50) (ty := .int) (C := RX12) (T := TX12) (N := 46) hx hb hts inG12 tyX12 tyX12_ok nmX12 hown hK hP (wR_D nu43 hD) hS 0 (gM_0 cs ad nu43) rfl 44 (by decide) (hts _ (List.mem_cons_of_mem _ mw_5_85)) (fun _ h9 => h9) rfl (by decide +kernel) rfl rfl (Nat.le_of_ble_eq_true rfl) dX12_hadOn_64 (fun H locs hP _ hS => ?_)
    simp only [List.set_cons_succ, List.set_cons_zero] at hP
    refine wr_gen (upd (nu43 0) 44 t50) hP ((hM_0_44 cs ad _ _)) (fun nu51 hn51 hP => ?_)
    have ok := tM_0_44 ok hn51
    have ez52 : y1 = nu51 2 vr.toNatClampNeg := ez44.trans (congrFun (up_k hn51 (by decide)) vr.toNatClampNeg).symm
    have ez53 : t34 = nu51 0 42 := ez45.trans (up_f hn51 (by decide)).symm
    have ez54 : y40 = nu51 16 (6 : Int32).toNatClampNeg := ez46.trans (congrFun (up_k hn51 (by decide)) (6 : Int32).toNatClampNeg).symm
    have ez55 : t42 = nu51 0 43 := ez48.trans (up_f hn51 (by decide)).symm
    have kp56 : ∀ k : Nat, 2 ≤ k → k < 3 → nu51 k = mu k := fun k h1 h2 => (up_k hn51 (ne_lo (by decide) h1).symm).trans (kp47 k h1 h2)
    have ez57 : t50 = nu51 0 44 := up_v hn51
    exact W.vret hx hb hr (fun t ht hW => ⟨⟨nu51, rfl, ⟨ok, trivial, kp56⟩, by first | (subst ht; exact hP) | (rw [ht]; exact hP) | (show va_P (dC, dI) vwCl (wR 21 ad (EM cs ad) nu51) t.heap; rw [ht]; exact hP)⟩, hS.F ht⟩) hS.2.2 dX12_hadOn_67
set_option maxHeartbeats 4000000 in
set_option maxRecDepth 100000 in
/-- sm_hadOn6 -/
theorem sm_hadOn6 (l : Launch) (dC : Nat → ClassId) (dI : Nat → Nat → Nat) (cs : Nat → ClassId) (ad : Nat → Nat) (mu : Nat → Nat → Int32) (ok : okR loM hiM mu) (H : Heap) (hP : va_P (dC, dI) vwCl (wR 21 ad (EM cs ad) mu) H) (hD0 : va_D (fun _ => True) (wR 21 ad (EM cs ad) mu)) (vr : Int32) (vh : Int32) (vp : Int32) (hin0 : 0 ≤ vr.toInt ∧ vr.toInt ≤ 5) (hin1 : 6 ≤ (mu 2 vr.toNatClampNeg).toInt + 1 ∧ (mu 2 vr.toNatClampNeg).toInt ≤ 6) : Met l yX12_hadOn (wU yX12_hadOn cX12_hadOn 10 none) ({ frames := 2, cells := 0, slots := 0, locals := 52 }) (va_Pc [.ref (ad 0), .int vr, .int 6, .int vh, .int vp] (sz_P (dC, dI) vwCl (tyM cs) H)) (va_Qv (fun (xi : Nat → Nat → Int32) => okR loM hiM xi ∧ (True) ∧ (∀ k : Nat, 2 ≤ k → k < 3 → xi k = mu k)) (fun xi t => va_P (dC, dI) vwCl (wR 21 ad (EM cs ad) xi) t.heap) (va_A (wR 21 ad (EM cs ad) mu) H.size)) 0 0 (va_A (wR 21 ad (EM cs ad) mu) H.size) := by
  refine Met.ofW (cc := cX12_hadOn) (maxL := 10) (ret := none) (by decide) rfl ?_
  intro p e s m args below meth c s₁ B hml hv
  obtain ⟨rfl, hh, hK, hz⟩ := hv
  have hx := B.exec
  have hb := B.bytes
  have hr := B.returns
  have hts := atoms_spec (ws := (wU yX12_hadOn cX12_hadOn 10 none)) B.pre
  have hown : s.vm.findClass RX12 = some m.cls := findClass_of_methodNamed B.named
  have hlocks := B.notSynchronized
  subst hh
  have hD := hD0.self (sz := s.heap.size)
  have hA : ∀ q : Nat, s.heap.size ≤ q → (va_A (wR 21 ad (EM cs ad) mu) s.heap.size) q := fun q h => Or.inr h
  have hS : va_S (va_A (wR 21 ad (EM cs ad) mu) s.heap.size) s.heap s.heap [] := va_S.rf
  have hl := lv_entry ([.ref (ad 0), .int vr, .int 6, .int vh, .int vp]) (n := 10) (Nat.le_of_ble_eq_true rfl)
  rw [lg_entry_eq]
  generalize (lg_sl ([.ref (ad 0), .int vr, .int 6, .int vh, .int vp]) ++ List.replicate (10 - (lg_sl ([.ref (ad 0), .int vr, .int 6, .int vh, .int vp])).length) Slot.unset).toArray = ls at hl ⊢
  have hl : lv_has ls 10 [(0, .ref (ad 0)), (1, .int vr), (2, .int 6), (3, .int vh), (4, .int vp)] := hl
  refine lv_iload_n hx hb dX12_hadOn_0 rfl (lv_at hl 2 rfl) ?_
  refine lv_aload_n hx hb dX12_hadOn_1 rfl (lv_at hl 0 rfl) ?_
  refine va_get (D := (dC, dI)) (ci := 12) (v := .ref (ad 2)) (C := RX12) (T := TX12) (N := 46) hx hb hts inG12 hown hK hP 0 (gM_0 cs ad mu) rfl 3 (by decide) (hts _ (List.mem_cons_of_mem _ mw_5_44)) (fun _ h9 => h9) rfl dX12_hadOn_2 ?_
  refine lv_iload_n hx hb dX12_hadOn_5 rfl (lv_at hl 1 rfl) ?_
  refine va_iald hx hb hK hP 2 0 (gM_2 cs ad mu) rfl (show vp_in vr 6 from vi_of (by omega) (by omega)) dX12_hadOn_6 ?_
  refine lv_topi (fun y1 ey1 => ?_)
  have by1 : y1.toInt = (mu 2 vr.toNatClampNeg).toInt := congrArg Int32.toInt ey1
  have gy1 : -9 ≤ y1.toInt ∧ y1.toInt ≤ 40 := by rw [ey1]; exact rM_2_s ok vr.toNatClampNeg
  refine lv_iconst (v := 1) hx hb dX12_hadOn_7 (by decide) ?_
  refine lv_iadd hx hb dX12_hadOn_8 ?_
  refine lv_topi (fun t2 et2 => ?_)
  have at2 : t2.toInt = y1.toInt + 1 := by rw [et2]; exact tI_add (rfl : y1.toInt = _) (rfl : (1 : Int32).toInt = 1) (by omega) (by omega)
  refine lv_icmp_ne (tgt := 68) hx hb dX12_hadOn_9 (by decide) (fun c_3 => ?_) (fun c_3 => ?_)
  · have c_3 : ¬ 6 = t2.toInt := il_ne c_3
    refine lv_aload_n hx hb dX12_hadOn_68 rfl (lv_at hl 0 rfl) ?_
    refine va_get (D := (dC, dI)) (ci := 12) (v := .ref (ad 16)) (C := RX12) (T := TX12) (N := 46) hx hb hts inG12 hown hK hP 0 (gM_0 cs ad mu) rfl 26 (by decide) (hts _ (List.mem_cons_of_mem _ mw_5_67)) (fun _ h9 => h9) rfl dX12_hadOn_69 ?_
    refine lv_iload_n hx hb dX12_hadOn_72 rfl (lv_at hl 2 rfl) ?_
    refine lv_iconst (v := 1) hx hb dX12_hadOn_73 (by decide) ?_
    refine lv_isub hx hb dX12_hadOn_74 ?_
    refine lq_i 5 (by decide) ?_
    refine va_iald hx hb hK hP 16 0 (gM_16 cs ad mu) rfl (show vp_in 5 7 from (by unfold vp_in; decide)) dX12_hadOn_75 ?_
    refine lv_topi (fun y4 ey4 => ?_)
    have by4 : y4.toInt = (mu 16 (5 : Int32).toNatClampNeg).toInt := congrArg Int32.toInt ey4
    have gy4 : 0 ≤ y4.toInt ∧ y4.toInt ≤ 6 := by rw [ey4]; exact rM_16_s ok (5 : Int32).toNatClampNeg
    refine lv_istore (lv' := [(5, .int y4), (0, .ref (ad 0)), (1, .int vr), (2, .int 6), (3, .int vh), (4, .int vp)]) hx hb dX12_hadOn_76 hl (by decide) rfl (fun ls hl => ?_)
    refine lv_aload_n hx hb dX12_hadOn_78 rfl (lv_at hl 1 rfl) ?_
    refine lv_iload hx hb dX12_hadOn_79 (lv_at hl 0 rfl) ?_
    refine lv_iload hx hb dX12_hadOn_81 (lv_at hl 5 rfl) ?_
    refine cr_i (va_runV (As := [.int y4, .int vp]) (rest := []) ⟨hx, hb, hml, hown, hts⟩ (sm_asksOf l dC dI cs ad mu ok s.heap hP y4 vp (by omega)) (cwV 2 hts (wU_V mw_6_74 mw_6_71 mw_6_73 mw_0_42 mw_1_13) rfl rfl rfl (by decide +kernel) ⟨Nat.le_of_ble_eq_true rfl, Nat.le_of_ble_eq_true rfl⟩) ⟨sz_c, va_recv hK hP (ci := 12) (q0 := 0) rfl (gM_0 cs ad mu), sz_m hK hz⟩ rfl rfl hl.1 rfl (lv_room (Nat.le_of_ble_eq_true rfl)) dX12_hadOn_83 ⟨Nat.zero_le _, Nat.zero_le _⟩) hS (fun r5 hw5 locs hS => ?_)
    refine lv_istore (lv' := [(6, .int r5), (5, .int y4), (0, .ref (ad 0)), (1, .int vr), (2, .int 6), (3, .int vh), (4, .int vp)]) hx hb dX12_hadOn_86 hl (by decide) rfl (fun ls hl => ?_)
    refine lv_iload hx hb dX12_hadOn_88 (lv_at hl 0 rfl) ?_
    refine lv_aload_n hx hb dX12_hadOn_90 rfl (lv_at hl 2 rfl) ?_
    refine lv_iload_n hx hb dX12_hadOn_91 rfl (lv_at hl 3 rfl) ?_
    refine lv_iload_n hx hb dX12_hadOn_92 rfl (lv_at hl 4 rfl) ?_
    refine lv_iconst (v := 1) hx hb dX12_hadOn_93 (by decide) ?_
    refine lv_isub hx hb dX12_hadOn_94 ?_
    refine lq_i 5 (by decide) ?_
    refine cr_i (va_runV (As := [.int vr, .int 5]) (rest := [.int r5]) ⟨hx, hb, hml, hown, hts⟩ (sm_rowAt l dC dI cs ad mu ok s.heap hP vr 5 (by have h51 : (5 : Int32).toInt = 5 := rfl; omega)) (cwV 2 hts (wU_V mw_5_209 mw_5_206 mw_5_208 mw_0_29 mw_1_13) rfl rfl rfl (by decide +kernel) ⟨Nat.le_of_ble_eq_true rfl, Nat.le_of_ble_eq_true rfl⟩) ⟨sz_c, va_recv hK hP (ci := 12) (q0 := 0) rfl (gM_0 cs ad mu), sz_m hK hz⟩ rfl rfl hl.1 rfl (lv_room (Nat.le_of_ble_eq_true rfl)) dX12_hadOn_95 ⟨Nat.zero_le _, Nat.zero_le _⟩) hS (fun r6 hw6 locs hS => ?_)
    refine lv_icmp_ne (tgt := 121) hx hb dX12_hadOn_98 (by decide) (fun c_7 => ?_) (fun c_7 => ?_)
    · have c_7 : ¬ r5.toInt = r6.toInt := il_ne c_7
      refine lv_iconst (v := 0) hx hb dX12_hadOn_121 (by decide) ?_
      refine lv_istore (lv' := [(7, .int 0), (6, .int r5), (5, .int y4), (0, .ref (ad 0)), (1, .int vr), (2, .int 6), (3, .int vh), (4, .int vp)]) hx hb dX12_hadOn_122 hl (by decide) rfl (fun ls hl => ?_)
      refine lv_iload hx hb dX12_hadOn_124 (lv_at hl 0 rfl) ?_
      refine lv_if_eq (tgt := 142) hx hb dX12_hadOn_126 (by decide) (fun _ => ?_) (fun c => absurd (by decide) c)
      refine lv_iconst (v := 0) hx hb dX12_hadOn_142 (by decide) ?_
      refine lv_istore (lv' := [(8, .int 0), (7, .int 0), (6, .int r5), (5, .int y4), (0, .ref (ad 0)), (1, .int vr), (2, .int 6), (3, .int vh), (4, .int vp)]) hx hb dX12_hadOn_143 hl (by decide) rfl (fun ls hl => ?_)
      refine lv_iconst (v := 0) hx hb dX12_hadOn_145 (by decide) ?_
      refine lv_istore (lv' := [(9, .int 0), (8, .int 0), (7, .int 0), (6, .int r5), (5, .int y4), (0, .ref (ad 0)), (1, .int vr), (2, .int 6), (3, .int vh), (4, .int vp)]) hx hb dX12_hadOn_146 hl (by decide) rfl (fun ls hl => ?_)
      have loop148 : ∀ (n148 : Nat) (v9_148 : Int32) (nu148_ : Nat → Nat → Int32) (H : Heap) (locs : List Loc) (ls : Array Slot), (7 + 1 - v9_148.toInt).toNat < n148 → (0 ≤ v9_148.toInt ∧ v9_148.toInt ≤ 7) → okR loM hiM nu148_ → va_P (dC, dI) vwCl (wR 21 ad (EM cs ad) nu148_) H → y1 = nu148_ 2 vr.toNatClampNeg → (∀ k : Nat, 2 ≤ k → k < 3 → nu148_ k = mu k) → va_S (va_A (wR 21 ad (EM cs ad) mu) s.heap.size) s.heap H locs → lv_has ls 10 [(9, .int v9_148), (8, .int 0), (7, .int 0), (6, .int r5), (5, .int y4), (0, .ref (ad 0)), (1, .int vr), (2, .int 6), (3, .int vh), (4, .int vp)] → W p l e (headSpec (wU yX12_hadOn cX12_hadOn 10 none) ({ frames := 2, cells := 0, slots := 0, locals := 52 })).room s m ([.ref (ad 0), .int vr, .int 6, .int vh, .int vp] : List Value).toArray below meth c H locs 0 0 (MQ below (va_Qv (fun (xi : Nat → Nat → Int32) => okR loM hiM xi ∧ (True) ∧ (∀ k : Nat, 2 ≤ k → k < 3 → xi k = mu k)) (fun xi t => va_P (dC, dI) vwCl (wR 21 ad (EM cs ad) xi) t.heap) (va_A (wR 21 ad (EM cs ad) mu) s.heap.size)) ([.ref (ad 0), .int vr, .int 6, .int vh, .int vp] : List Value).toArray s 0 0 (va_A (wR 21 ad (EM cs ad) mu) s.heap.size)) (F0 m 148 ls []) := by
        intro n148
        induction n148 with
        | zero => intro v9_148 nu148_ H locs ls hm; exact absurd hm (Nat.not_lt_zero _)
        | succ n148 ih148 =>
          intro v9_148 nu148_ H locs ls hm h_v9_148 ok hP ek148_0 kq148_0 hS hl
          refine lv_iload hx hb dX12_hadOn_148 (lv_at hl 0 rfl) ?_
          refine lv_aload_n hx hb dX12_hadOn_150 rfl (lv_at hl 5 rfl) ?_
          refine va_get (D := (dC, dI)) (ci := 12) (v := .int (nu148_ 0 8)) (C := RX12) (T := TX12) (N := 46) hx hb hts inG12 hown hK hP 0 (gM_0 cs ad nu148_) rfl 8 (by decide) (hts _ (List.mem_cons_of_mem _ mw_5_49)) (fun _ h9 => h9) rfl dX12_hadOn_151 ?_
          refine lv_topi (fun y8 ey8 => ?_)
          have by8 : y8.toInt = (nu148_ 0 8).toInt := congrArg Int32.toInt ey8
          have gy8 : 0 ≤ y8.toInt ∧ y8.toInt ≤ 7 := by rw [ey8]; exact rM_0_8 ok
          refine lv_icmp_ge (tgt := 197) hx hb dX12_hadOn_154 (by decide) (fun c_9 => ?_) (fun c_9 => ?_)
          · have c_9 : y8.toInt ≤ v9_148.toInt := il_le c_9
            exact W.vret hx hb hr (fun t ht hW => ⟨⟨nu148_, rfl, ⟨ok, trivial, kq148_0⟩, by first | (subst ht; exact hP) | (rw [ht]; exact hP) | (show va_P (dC, dI) vwCl (wR 21 ad (EM cs ad) nu148_) t.heap; rw [ht]; exact hP)⟩, hS.F ht⟩) hS.2.2 dX12_hadOn_197
          · have c_9 : v9_148.toInt < y8.toInt := il_nle c_9
            refine lv_iload hx hb dX12_hadOn_157 (lv_at hl 1 rfl) ?_
            refine lv_iload hx hb dX12_hadOn_159 (lv_at hl 0 rfl) ?_
            refine cr_i (va_runS (As := [.int 0, .int v9_148]) (rest := []) ⟨hx, hb, hml, hown, hts⟩ (sm_has l dC dI (tyM cs) H 0 v9_148) (va_cwS 2 hts (wU_S mw_6_59 mw_6_57 mw_6_58 mw_1_13) rfl rfl rfl (by decide +kernel) ⟨Nat.le_of_ble_eq_true rfl, Nat.le_of_ble_eq_true rfl⟩) ⟨sz_c, sz_m hK hz⟩ rfl rfl hl.1 rfl (lv_room (Nat.le_of_ble_eq_true rfl)) dX12_hadOn_161 ⟨Nat.zero_le _, Nat.zero_le _⟩) hS (fun r10 hw10 locs hS => ?_)
            rcases hw10 with ⟨rfl, f10⟩ | ⟨rfl, f10⟩
            · have f10 : rb (0 : Int32) v9_148 = 1 := f10
              refine lv_if_eq (tgt := 191) hx hb dX12_hadOn_164 (by decide) (fun c => absurd c (by decide)) (fun _ => ?_)
              refine lv_aload_n hx hb dX12_hadOn_167 rfl (lv_at hl 5 rfl) ?_
              refine va_get (D := (dC, dI)) (ci := 12) (v := .ref (ad 16)) (C := RX12) (T := TX12) (N := 46) hx hb hts inG12 hown hK hP 0 (gM_0 cs ad nu148_) rfl 26 (by decide) (hts _ (List.mem_cons_of_mem _ mw_5_67)) (fun _ h9 => h9) rfl dX12_hadOn_168 ?_
              refine lv_iload_n hx hb dX12_hadOn_171 rfl (lv_at hl 7 rfl) ?_
              refine lv_iload hx hb dX12_hadOn_172 (lv_at hl 0 rfl) ?_
              refine va_iast hx hb hK hP (wR_D nu148_ hD) hS 16 0 (gM_16 cs ad nu148_) rfl (show vp_in 6 7 from (by unfold vp_in; decide)) dX12_hadOn_174 (fun H locs hP _ hS => ?_)
              refine wr_gen (upd (nu148_ 16) (6 : Int32).toNatClampNeg v9_148) hP (rfl) (fun nu11 hn11 hP => ?_)
              have ok := tM_16_s ok (6 : Int32).toNatClampNeg hn11 (by exact ⟨by omega, by omega⟩)
              have ez12 : y1 = nu11 2 vr.toNatClampNeg := ek148_0.trans (congrFun (up_k hn11 (by decide)) vr.toNatClampNeg).symm
              have ez13 : y8 = nu11 0 8 := ey8.trans (congrFun (up_k hn11 (by decide)) 8).symm
              have kp14 : ∀ k : Nat, 2 ≤ k → k < 3 → nu11 k = mu k := fun k h1 h2 => (up_k hn11 (ne_hi (by decide) h2).symm).trans (kq148_0 k h1 h2)
              refine lv_aload_n hx hb dX12_hadOn_175 rfl (lv_at hl 5 rfl) ?_
              refine lv_iload_n hx hb dX12_hadOn_176 rfl (lv_at hl 6 rfl) ?_
              refine lv_iload_n hx hb dX12_hadOn_177 rfl (lv_at hl 7 rfl) ?_
              refine lv_iconst (v := 1) hx hb dX12_hadOn_178 (by decide) ?_
              refine lv_iadd hx hb dX12_hadOn_179 ?_
              refine lq_i 7 (by decide) ?_
              refine lv_iload_n hx hb dX12_hadOn_180 rfl (lv_at hl 8 rfl) ?_
              refine lv_iconst (v := 1) hx hb dX12_hadOn_181 (by decide) ?_
              refine lv_iload hx hb dX12_hadOn_182 (lv_at hl 0 rfl) ?_
              refine lv_ishl hx hb dX12_hadOn_184 ?_
              refine lv_topi (fun t15 et15 => ?_)
              refine lv_ior hx hb dX12_hadOn_185 ?_
              refine lv_topi (fun t16 et16 => ?_)
              refine lv_iload hx hb dX12_hadOn_186 (lv_at hl 3 rfl) ?_
              have hFc := fr_all (wR_D nu11 hD) hS hA
              refine va_callv (va_runV (As := [.int vr, .int 7, .int t16, .int r5]) (rest := []) ⟨hx, hb, hml, hown, hts⟩ (sm_hadOn7 l dC dI cs ad nu11 ok H hP ((wR_D nu11 hD).weaken (fun _ _ _ _ => trivial)) vr t16 r5 (by have h51 : (7 : Int32).toInt = 7 := rfl; omega) (by have h51 : (7 : Int32).toInt = 7 := rfl; have hb17 := congrArg Int32.toInt ez12; omega)) (cwV 4 hts (wU_V mw_7_24 mw_7_21 mw_7_23 mw_0_62 mw_1_13) rfl rfl rfl (by decide +kernel) ⟨Nat.le_of_ble_eq_true rfl, Nat.le_of_ble_eq_true rfl⟩) ⟨sz_c, va_recv hK hP (ci := 12) (q0 := 0) rfl (gM_0 cs ad nu11), sz_m hK hz⟩ rfl rfl hl.1 rfl (lv_room (Nat.le_of_ble_eq_true rfl)) dX12_hadOn_188 ⟨Nat.zero_le _, Nat.zero_le _⟩) hS (fun q _ h => hFc q h) hFc (fun xi18 t H18 locs ht hvm hw18 hB hz1 hk1 hS => ?_)
              have hP : va_P (dC, dI) vwCl (wR 21 ad (EM cs ad) xi18) H18 := by rw [← ht]; exact hB
              obtain ⟨ok, hw18, hkp18_0⟩ := hw18
              have ez19 : y1 = xi18 2 vr.toNatClampNeg := ez12.trans (congrFun (hkp18_0 2 (by decide) (by decide)) vr.toNatClampNeg).symm
              have kp20 : ∀ k : Nat, 2 ≤ k → k < 3 → xi18 k = mu k := fun k h1 h2 => (hkp18_0 k (Nat.le_trans (by decide) h1) (Nat.lt_of_lt_of_le h2 (by decide))).trans (kp14 k h1 h2)
              refine lv_iinc (v := (v9_148 + 1)) (lv' := [(9, .int (v9_148 + 1)), (8, .int 0), (7, .int 0), (6, .int r5), (5, .int y4), (0, .ref (ad 0)), (1, .int vr), (2, .int 6), (3, .int vh), (4, .int vp)]) hx hb dX12_hadOn_191 hl (k := 0) rfl rfl (by decide) rfl (fun ls hl => ?_)
              refine loc_gen (P := fun w9 => lv_has ls 10 [(9, .int w9), (8, .int 0), (7, .int 0), (6, .int r5), (5, .int y4), (0, .ref (ad 0)), (1, .int vr), (2, .int 6), (3, .int vh), (4, .int vp)]) (v9_148 + 1) hl (fun w21 hw21 hl => ?_)
              have hl : lv_has ls 10 [(9, .int w21), (8, .int 0), (7, .int 0), (6, .int r5), (5, .int y4), (0, .ref (ad 0)), (1, .int vr), (2, .int 6), (3, .int vh), (4, .int vp)] := hl
              have aw21 : w21.toInt = v9_148.toInt + 1 := by rw [← hw21]; exact tI_add (rfl : v9_148.toInt = _) (rfl : (1 : Int32).toInt = 1) (by omega) (by omega)
              refine lv_goto (tgt := 148) hx hb dX12_hadOn_194 (by decide) ?_
              exact ih148 (w21) xi18 _ _ _ (by omega) (by exact ⟨by omega, by omega⟩)  ok hP ez19 kp20 hS (lv_sub hl [0, 1, 2, 3, 4, 5, 6, 7, 8, 9] rfl)
            · have f10 : ¬ rb (0 : Int32) v9_148 = 1 := f10
              refine lv_if_eq (tgt := 191) hx hb dX12_hadOn_164 (by decide) (fun _ => ?_) (fun c => absurd (by decide) c)
              refine lv_iinc (v := (v9_148 + 1)) (lv' := [(9, .int (v9_148 + 1)), (8, .int 0), (7, .int 0), (6, .int r5), (5, .int y4), (0, .ref (ad 0)), (1, .int vr), (2, .int 6), (3, .int vh), (4, .int vp)]) hx hb dX12_hadOn_191 hl (k := 0) rfl rfl (by decide) rfl (fun ls hl => ?_)
              refine loc_gen (P := fun w9 => lv_has ls 10 [(9, .int w9), (8, .int 0), (7, .int 0), (6, .int r5), (5, .int y4), (0, .ref (ad 0)), (1, .int vr), (2, .int 6), (3, .int vh), (4, .int vp)]) (v9_148 + 1) hl (fun w22 hw22 hl => ?_)
              have hl : lv_has ls 10 [(9, .int w22), (8, .int 0), (7, .int 0), (6, .int r5), (5, .int y4), (0, .ref (ad 0)), (1, .int vr), (2, .int 6), (3, .int vh), (4, .int vp)] := hl
              have aw22 : w22.toInt = v9_148.toInt + 1 := by rw [← hw22]; exact tI_add (rfl : v9_148.toInt = _) (rfl : (1 : Int32).toInt = 1) (by omega) (by omega)
              refine lv_goto (tgt := 148) hx hb dX12_hadOn_194 (by decide) ?_
              exact ih148 (w22) nu148_ _ _ _ (by omega) (by exact ⟨by omega, by omega⟩)  ok hP ek148_0 kq148_0 hS (lv_sub hl [0, 1, 2, 3, 4, 5, 6, 7, 8, 9] rfl)
      exact loop148 ((7 + 1 - (0 : Int32).toInt).toNat + 1) (0) mu _ _ _ (Nat.lt_succ_self _) (by have h80 : (0 : Int32).toInt = 0 := rfl; exact ⟨by omega, by omega⟩)  ok hP ey1 (fun _ _ _ => rfl) hS hl
    · have c_7 : r5.toInt = r6.toInt := il_eq c_7
      refine lv_iload_n hx hb dX12_hadOn_101 rfl (lv_at hl 4 rfl) ?_
      refine lv_iconst (v := 1) hx hb dX12_hadOn_102 (by decide) ?_
      refine lv_icmp_eq (tgt := 117) hx hb dX12_hadOn_103 (by decide) (fun c => absurd c (by decide)) (fun _ => ?_)
      refine lv_aload_n hx hb dX12_hadOn_106 rfl (lv_at hl 2 rfl) ?_
      refine va_get (D := (dC, dI)) (ci := 12) (v := .ref (ad 7)) (C := RX12) (T := TX12) (N := 46) hx hb hts inG12 hown hK hP 0 (gM_0 cs ad mu) rfl 9 (by decide) (hts _ (List.mem_cons_of_mem _ mw_5_50)) (fun _ h9 => h9) rfl dX12_hadOn_107 ?_
      refine lv_iload hx hb dX12_hadOn_110 (lv_at hl 1 rfl) ?_
      refine va_iald hx hb hK hP 7 0 (gM_7 cs ad mu) rfl (show vp_in y4 7 from vi_of (by omega) (by omega)) dX12_hadOn_112 ?_
      refine lv_topi (fun y23 ey23 => ?_)
      have by23 : y23.toInt = (mu 7 y4.toNatClampNeg).toInt := congrArg Int32.toInt ey23
      refine lv_iconst (v := 3) hx hb dX12_hadOn_113 (by decide) ?_
      refine lv_icmp_eq (tgt := 121) hx hb dX12_hadOn_114 (by decide) (fun c_24 => ?_) (fun c_24 => ?_)
      · have c_24 : y23.toInt = 3 := il_eq c_24
        refine lv_iconst (v := 0) hx hb dX12_hadOn_121 (by decide) ?_
        refine lv_istore (lv' := [(7, .int 0), (6, .int r5), (5, .int y4), (0, .ref (ad 0)), (1, .int vr), (2, .int 6), (3, .int vh), (4, .int vp)]) hx hb dX12_hadOn_122 hl (by decide) rfl (fun ls hl => ?_)
        refine lv_iload hx hb dX12_hadOn_124 (lv_at hl 0 rfl) ?_
        refine lv_if_eq (tgt := 142) hx hb dX12_hadOn_126 (by decide) (fun _ => ?_) (fun c => absurd (by decide) c)
        refine lv_iconst (v := 0) hx hb dX12_hadOn_142 (by decide) ?_
        refine lv_istore (lv' := [(8, .int 0), (7, .int 0), (6, .int r5), (5, .int y4), (0, .ref (ad 0)), (1, .int vr), (2, .int 6), (3, .int vh), (4, .int vp)]) hx hb dX12_hadOn_143 hl (by decide) rfl (fun ls hl => ?_)
        refine lv_iconst (v := 0) hx hb dX12_hadOn_145 (by decide) ?_
        refine lv_istore (lv' := [(9, .int 0), (8, .int 0), (7, .int 0), (6, .int r5), (5, .int y4), (0, .ref (ad 0)), (1, .int vr), (2, .int 6), (3, .int vh), (4, .int vp)]) hx hb dX12_hadOn_146 hl (by decide) rfl (fun ls hl => ?_)
        have loop148 : ∀ (n148 : Nat) (v9_148 : Int32) (nu148_ : Nat → Nat → Int32) (H : Heap) (locs : List Loc) (ls : Array Slot), (7 + 1 - v9_148.toInt).toNat < n148 → (0 ≤ v9_148.toInt ∧ v9_148.toInt ≤ 7) → okR loM hiM nu148_ → va_P (dC, dI) vwCl (wR 21 ad (EM cs ad) nu148_) H → y1 = nu148_ 2 vr.toNatClampNeg → (∀ k : Nat, 2 ≤ k → k < 3 → nu148_ k = mu k) → va_S (va_A (wR 21 ad (EM cs ad) mu) s.heap.size) s.heap H locs → lv_has ls 10 [(9, .int v9_148), (8, .int 0), (7, .int 0), (6, .int r5), (5, .int y4), (0, .ref (ad 0)), (1, .int vr), (2, .int 6), (3, .int vh), (4, .int vp)] → W p l e (headSpec (wU yX12_hadOn cX12_hadOn 10 none) ({ frames := 2, cells := 0, slots := 0, locals := 52 })).room s m ([.ref (ad 0), .int vr, .int 6, .int vh, .int vp] : List Value).toArray below meth c H locs 0 0 (MQ below (va_Qv (fun (xi : Nat → Nat → Int32) => okR loM hiM xi ∧ (True) ∧ (∀ k : Nat, 2 ≤ k → k < 3 → xi k = mu k)) (fun xi t => va_P (dC, dI) vwCl (wR 21 ad (EM cs ad) xi) t.heap) (va_A (wR 21 ad (EM cs ad) mu) s.heap.size)) ([.ref (ad 0), .int vr, .int 6, .int vh, .int vp] : List Value).toArray s 0 0 (va_A (wR 21 ad (EM cs ad) mu) s.heap.size)) (F0 m 148 ls []) := by
          intro n148
          induction n148 with
          | zero => intro v9_148 nu148_ H locs ls hm; exact absurd hm (Nat.not_lt_zero _)
          | succ n148 ih148 =>
            intro v9_148 nu148_ H locs ls hm h_v9_148 ok hP ek148_0 kq148_0 hS hl
            refine lv_iload hx hb dX12_hadOn_148 (lv_at hl 0 rfl) ?_
            refine lv_aload_n hx hb dX12_hadOn_150 rfl (lv_at hl 5 rfl) ?_
            refine va_get (D := (dC, dI)) (ci := 12) (v := .int (nu148_ 0 8)) (C := RX12) (T := TX12) (N := 46) hx hb hts inG12 hown hK hP 0 (gM_0 cs ad nu148_) rfl 8 (by decide) (hts _ (List.mem_cons_of_mem _ mw_5_49)) (fun _ h9 => h9) rfl dX12_hadOn_151 ?_
            refine lv_topi (fun y25 ey25 => ?_)
            have by25 : y25.toInt = (nu148_ 0 8).toInt := congrArg Int32.toInt ey25
            have gy25 : 0 ≤ y25.toInt ∧ y25.toInt ≤ 7 := by rw [ey25]; exact rM_0_8 ok
            refine lv_icmp_ge (tgt := 197) hx hb dX12_hadOn_154 (by decide) (fun c_26 => ?_) (fun c_26 => ?_)
            · have c_26 : y25.toInt ≤ v9_148.toInt := il_le c_26
              exact W.vret hx hb hr (fun t ht hW => ⟨⟨nu148_, rfl, ⟨ok, trivial, kq148_0⟩, by first | (subst ht; exact hP) | (rw [ht]; exact hP) | (show va_P (dC, dI) vwCl (wR 21 ad (EM cs ad) nu148_) t.heap; rw [ht]; exact hP)⟩, hS.F ht⟩) hS.2.2 dX12_hadOn_197
            · have c_26 : v9_148.toInt < y25.toInt := il_nle c_26
              refine lv_iload hx hb dX12_hadOn_157 (lv_at hl 1 rfl) ?_
              refine lv_iload hx hb dX12_hadOn_159 (lv_at hl 0 rfl) ?_
              refine cr_i (va_runS (As := [.int 0, .int v9_148]) (rest := []) ⟨hx, hb, hml, hown, hts⟩ (sm_has l dC dI (tyM cs) H 0 v9_148) (va_cwS 2 hts (wU_S mw_6_59 mw_6_57 mw_6_58 mw_1_13) rfl rfl rfl (by decide +kernel) ⟨Nat.le_of_ble_eq_true rfl, Nat.le_of_ble_eq_true rfl⟩) ⟨sz_c, sz_m hK hz⟩ rfl rfl hl.1 rfl (lv_room (Nat.le_of_ble_eq_true rfl)) dX12_hadOn_161 ⟨Nat.zero_le _, Nat.zero_le _⟩) hS (fun r27 hw27 locs hS => ?_)
              rcases hw27 with ⟨rfl, f27⟩ | ⟨rfl, f27⟩
              · have f27 : rb (0 : Int32) v9_148 = 1 := f27
                refine lv_if_eq (tgt := 191) hx hb dX12_hadOn_164 (by decide) (fun c => absurd c (by decide)) (fun _ => ?_)
                refine lv_aload_n hx hb dX12_hadOn_167 rfl (lv_at hl 5 rfl) ?_
                refine va_get (D := (dC, dI)) (ci := 12) (v := .ref (ad 16)) (C := RX12) (T := TX12) (N := 46) hx hb hts inG12 hown hK hP 0 (gM_0 cs ad nu148_) rfl 26 (by decide) (hts _ (List.mem_cons_of_mem _ mw_5_67)) (fun _ h9 => h9) rfl dX12_hadOn_168 ?_
                refine lv_iload_n hx hb dX12_hadOn_171 rfl (lv_at hl 7 rfl) ?_
                refine lv_iload hx hb dX12_hadOn_172 (lv_at hl 0 rfl) ?_
                refine va_iast hx hb hK hP (wR_D nu148_ hD) hS 16 0 (gM_16 cs ad nu148_) rfl (show vp_in 6 7 from (by unfold vp_in; decide)) dX12_hadOn_174 (fun H locs hP _ hS => ?_)
                refine wr_gen (upd (nu148_ 16) (6 : Int32).toNatClampNeg v9_148) hP (rfl) (fun nu28 hn28 hP => ?_)
                have ok := tM_16_s ok (6 : Int32).toNatClampNeg hn28 (by exact ⟨by omega, by omega⟩)
                have ez29 : y1 = nu28 2 vr.toNatClampNeg := ek148_0.trans (congrFun (up_k hn28 (by decide)) vr.toNatClampNeg).symm
                have ez30 : y25 = nu28 0 8 := ey25.trans (congrFun (up_k hn28 (by decide)) 8).symm
                have kp31 : ∀ k : Nat, 2 ≤ k → k < 3 → nu28 k = mu k := fun k h1 h2 => (up_k hn28 (ne_hi (by decide) h2).symm).trans (kq148_0 k h1 h2)
                refine lv_aload_n hx hb dX12_hadOn_175 rfl (lv_at hl 5 rfl) ?_
                refine lv_iload_n hx hb dX12_hadOn_176 rfl (lv_at hl 6 rfl) ?_
                refine lv_iload_n hx hb dX12_hadOn_177 rfl (lv_at hl 7 rfl) ?_
                refine lv_iconst (v := 1) hx hb dX12_hadOn_178 (by decide) ?_
                refine lv_iadd hx hb dX12_hadOn_179 ?_
                refine lq_i 7 (by decide) ?_
                refine lv_iload_n hx hb dX12_hadOn_180 rfl (lv_at hl 8 rfl) ?_
                refine lv_iconst (v := 1) hx hb dX12_hadOn_181 (by decide) ?_
                refine lv_iload hx hb dX12_hadOn_182 (lv_at hl 0 rfl) ?_
                refine lv_ishl hx hb dX12_hadOn_184 ?_
                refine lv_topi (fun t32 et32 => ?_)
                refine lv_ior hx hb dX12_hadOn_185 ?_
                refine lv_topi (fun t33 et33 => ?_)
                refine lv_iload hx hb dX12_hadOn_186 (lv_at hl 3 rfl) ?_
                have hFc := fr_all (wR_D nu28 hD) hS hA
                refine va_callv (va_runV (As := [.int vr, .int 7, .int t33, .int r5]) (rest := []) ⟨hx, hb, hml, hown, hts⟩ (sm_hadOn7 l dC dI cs ad nu28 ok H hP ((wR_D nu28 hD).weaken (fun _ _ _ _ => trivial)) vr t33 r5 (by have h51 : (7 : Int32).toInt = 7 := rfl; omega) (by have h51 : (7 : Int32).toInt = 7 := rfl; have hb34 := congrArg Int32.toInt ez29; omega)) (cwV 4 hts (wU_V mw_7_24 mw_7_21 mw_7_23 mw_0_62 mw_1_13) rfl rfl rfl (by decide +kernel) ⟨Nat.le_of_ble_eq_true rfl, Nat.le_of_ble_eq_true rfl⟩) ⟨sz_c, va_recv hK hP (ci := 12) (q0 := 0) rfl (gM_0 cs ad nu28), sz_m hK hz⟩ rfl rfl hl.1 rfl (lv_room (Nat.le_of_ble_eq_true rfl)) dX12_hadOn_188 ⟨Nat.zero_le _, Nat.zero_le _⟩) hS (fun q _ h => hFc q h) hFc (fun xi35 t H35 locs ht hvm hw35 hB hz1 hk1 hS => ?_)
                have hP : va_P (dC, dI) vwCl (wR 21 ad (EM cs ad) xi35) H35 := by rw [← ht]; exact hB
                obtain ⟨ok, hw35, hkp35_0⟩ := hw35
                have ez36 : y1 = xi35 2 vr.toNatClampNeg := ez29.trans (congrFun (hkp35_0 2 (by decide) (by decide)) vr.toNatClampNeg).symm
                have kp37 : ∀ k : Nat, 2 ≤ k → k < 3 → xi35 k = mu k := fun k h1 h2 => (hkp35_0 k (Nat.le_trans (by decide) h1) (Nat.lt_of_lt_of_le h2 (by decide))).trans (kp31 k h1 h2)
                refine lv_iinc (v := (v9_148 + 1)) (lv' := [(9, .int (v9_148 + 1)), (8, .int 0), (7, .int 0), (6, .int r5), (5, .int y4), (0, .ref (ad 0)), (1, .int vr), (2, .int 6), (3, .int vh), (4, .int vp)]) hx hb dX12_hadOn_191 hl (k := 0) rfl rfl (by decide) rfl (fun ls hl => ?_)
                refine loc_gen (P := fun w9 => lv_has ls 10 [(9, .int w9), (8, .int 0), (7, .int 0), (6, .int r5), (5, .int y4), (0, .ref (ad 0)), (1, .int vr), (2, .int 6), (3, .int vh), (4, .int vp)]) (v9_148 + 1) hl (fun w38 hw38 hl => ?_)
                have hl : lv_has ls 10 [(9, .int w38), (8, .int 0), (7, .int 0), (6, .int r5), (5, .int y4), (0, .ref (ad 0)), (1, .int vr), (2, .int 6), (3, .int vh), (4, .int vp)] := hl
                have aw38 : w38.toInt = v9_148.toInt + 1 := by rw [← hw38]; exact tI_add (rfl : v9_148.toInt = _) (rfl : (1 : Int32).toInt = 1) (by omega) (by omega)
                refine lv_goto (tgt := 148) hx hb dX12_hadOn_194 (by decide) ?_
                exact ih148 (w38) xi35 _ _ _ (by omega) (by exact ⟨by omega, by omega⟩)  ok hP ez36 kp37 hS (lv_sub hl [0, 1, 2, 3, 4, 5, 6, 7, 8, 9] rfl)
              · have f27 : ¬ rb (0 : Int32) v9_148 = 1 := f27
                refine lv_if_eq (tgt := 191) hx hb dX12_hadOn_164 (by decide) (fun _ => ?_) (fun c => absurd (by decide) c)
                refine lv_iinc (v := (v9_148 + 1)) (lv' := [(9, .int (v9_148 + 1)), (8, .int 0), (7, .int 0), (6, .int r5), (5, .int y4), (0, .ref (ad 0)), (1, .int vr), (2, .int 6), (3, .int vh), (4, .int vp)]) hx hb dX12_hadOn_191 hl (k := 0) rfl rfl (by decide) rfl (fun ls hl => ?_)
                refine loc_gen (P := fun w9 => lv_has ls 10 [(9, .int w9), (8, .int 0), (7, .int 0), (6, .int r5), (5, .int y4), (0, .ref (ad 0)), (1, .int vr), (2, .int 6), (3, .int vh), (4, .int vp)]) (v9_148 + 1) hl (fun w39 hw39 hl => ?_)
                have hl : lv_has ls 10 [(9, .int w39), (8, .int 0), (7, .int 0), (6, .int r5), (5, .int y4), (0, .ref (ad 0)), (1, .int vr), (2, .int 6), (3, .int vh), (4, .int vp)] := hl
                have aw39 : w39.toInt = v9_148.toInt + 1 := by rw [← hw39]; exact tI_add (rfl : v9_148.toInt = _) (rfl : (1 : Int32).toInt = 1) (by omega) (by omega)
                refine lv_goto (tgt := 148) hx hb dX12_hadOn_194 (by decide) ?_
                exact ih148 (w39) nu148_ _ _ _ (by omega) (by exact ⟨by omega, by omega⟩)  ok hP ek148_0 kq148_0 hS (lv_sub hl [0, 1, 2, 3, 4, 5, 6, 7, 8, 9] rfl)
        exact loop148 ((7 + 1 - (0 : Int32).toInt).toNat + 1) (0) mu _ _ _ (Nat.lt_succ_self _) (by have h80 : (0 : Int32).toInt = 0 := rfl; exact ⟨by omega, by omega⟩)  ok hP ey1 (fun _ _ _ => rfl) hS hl
      · have c_24 : ¬ y23.toInt = 3 := il_ne c_24
        refine lv_iconst (v := 1) hx hb dX12_hadOn_117 (by decide) ?_
        refine lv_goto (tgt := 122) hx hb dX12_hadOn_118 (by decide) ?_
        refine lv_istore (lv' := [(7, .int 1), (6, .int r5), (5, .int y4), (0, .ref (ad 0)), (1, .int vr), (2, .int 6), (3, .int vh), (4, .int vp)]) hx hb dX12_hadOn_122 hl (by decide) rfl (fun ls hl => ?_)
        refine lv_iload hx hb dX12_hadOn_124 (lv_at hl 0 rfl) ?_
        refine lv_if_eq (tgt := 142) hx hb dX12_hadOn_126 (by decide) (fun c => absurd c (by decide)) (fun _ => ?_)
        refine lv_aload_n hx hb dX12_hadOn_129 rfl (lv_at hl 3 rfl) ?_
        refine lv_iload hx hb dX12_hadOn_130 (lv_at hl 2 rfl) ?_
        refine cr_i (va_runV (As := [.int y4]) (rest := []) ⟨hx, hb, hml, hown, hts⟩ (sm_besideOf l dC dI cs ad mu ok s.heap hP y4) (cwV 1 hts (wU_V mw_6_56 mw_6_53 mw_6_55 mw_0_40 mw_1_13) rfl rfl rfl (by decide +kernel) ⟨Nat.le_of_ble_eq_true rfl, Nat.le_of_ble_eq_true rfl⟩) ⟨sz_c, va_recv hK hP (ci := 12) (q0 := 0) rfl (gM_0 cs ad mu), sz_m hK hz⟩ rfl rfl hl.1 rfl (lv_room (Nat.le_of_ble_eq_true rfl)) dX12_hadOn_132 ⟨Nat.zero_le _, Nat.zero_le _⟩) hS (fun r40 hw40 locs hS => ?_)
        refine lv_iload_n hx hb dX12_hadOn_135 rfl (lv_at hl 6 rfl) ?_
        refine lv_iconst (v := (-1)) hx hb dX12_hadOn_136 (by decide) ?_
        refine lv_ixor hx hb dX12_hadOn_137 ?_
        refine lv_topi (fun t41 et41 => ?_)
        refine lv_iand hx hb dX12_hadOn_138 ?_
        refine lv_topi (fun t42 et42 => ?_)
        refine lv_goto (tgt := 143) hx hb dX12_hadOn_139 (by decide) ?_
        refine lv_istore (lv' := [(8, .int t42), (7, .int 1), (6, .int r5), (5, .int y4), (0, .ref (ad 0)), (1, .int vr), (2, .int 6), (3, .int vh), (4, .int vp)]) hx hb dX12_hadOn_143 hl (by decide) rfl (fun ls hl => ?_)
        refine lv_iconst (v := 0) hx hb dX12_hadOn_145 (by decide) ?_
        refine lv_istore (lv' := [(9, .int 0), (8, .int t42), (7, .int 1), (6, .int r5), (5, .int y4), (0, .ref (ad 0)), (1, .int vr), (2, .int 6), (3, .int vh), (4, .int vp)]) hx hb dX12_hadOn_146 hl (by decide) rfl (fun ls hl => ?_)
        have loop148 : ∀ (n148 : Nat) (v9_148 : Int32) (nu148_ : Nat → Nat → Int32) (H : Heap) (locs : List Loc) (ls : Array Slot), (7 + 1 - v9_148.toInt).toNat < n148 → (0 ≤ v9_148.toInt ∧ v9_148.toInt ≤ 7) → okR loM hiM nu148_ → va_P (dC, dI) vwCl (wR 21 ad (EM cs ad) nu148_) H → y1 = nu148_ 2 vr.toNatClampNeg → (∀ k : Nat, 2 ≤ k → k < 3 → nu148_ k = mu k) → va_S (va_A (wR 21 ad (EM cs ad) mu) s.heap.size) s.heap H locs → lv_has ls 10 [(9, .int v9_148), (8, .int t42), (7, .int 1), (6, .int r5), (5, .int y4), (0, .ref (ad 0)), (1, .int vr), (2, .int 6), (3, .int vh), (4, .int vp)] → W p l e (headSpec (wU yX12_hadOn cX12_hadOn 10 none) ({ frames := 2, cells := 0, slots := 0, locals := 52 })).room s m ([.ref (ad 0), .int vr, .int 6, .int vh, .int vp] : List Value).toArray below meth c H locs 0 0 (MQ below (va_Qv (fun (xi : Nat → Nat → Int32) => okR loM hiM xi ∧ (True) ∧ (∀ k : Nat, 2 ≤ k → k < 3 → xi k = mu k)) (fun xi t => va_P (dC, dI) vwCl (wR 21 ad (EM cs ad) xi) t.heap) (va_A (wR 21 ad (EM cs ad) mu) s.heap.size)) ([.ref (ad 0), .int vr, .int 6, .int vh, .int vp] : List Value).toArray s 0 0 (va_A (wR 21 ad (EM cs ad) mu) s.heap.size)) (F0 m 148 ls []) := by
          intro n148
          induction n148 with
          | zero => intro v9_148 nu148_ H locs ls hm; exact absurd hm (Nat.not_lt_zero _)
          | succ n148 ih148 =>
            intro v9_148 nu148_ H locs ls hm h_v9_148 ok hP ek148_0 kq148_0 hS hl
            refine lv_iload hx hb dX12_hadOn_148 (lv_at hl 0 rfl) ?_
            refine lv_aload_n hx hb dX12_hadOn_150 rfl (lv_at hl 5 rfl) ?_
            refine va_get (D := (dC, dI)) (ci := 12) (v := .int (nu148_ 0 8)) (C := RX12) (T := TX12) (N := 46) hx hb hts inG12 hown hK hP 0 (gM_0 cs ad nu148_) rfl 8 (by decide) (hts _ (List.mem_cons_of_mem _ mw_5_49)) (fun _ h9 => h9) rfl dX12_hadOn_151 ?_
            refine lv_topi (fun y43 ey43 => ?_)
            have by43 : y43.toInt = (nu148_ 0 8).toInt := congrArg Int32.toInt ey43
            have gy43 : 0 ≤ y43.toInt ∧ y43.toInt ≤ 7 := by rw [ey43]; exact rM_0_8 ok
            refine lv_icmp_ge (tgt := 197) hx hb dX12_hadOn_154 (by decide) (fun c_44 => ?_) (fun c_44 => ?_)
            · have c_44 : y43.toInt ≤ v9_148.toInt := il_le c_44
              exact W.vret hx hb hr (fun t ht hW => ⟨⟨nu148_, rfl, ⟨ok, trivial, kq148_0⟩, by first | (subst ht; exact hP) | (rw [ht]; exact hP) | (show va_P (dC, dI) vwCl (wR 21 ad (EM cs ad) nu148_) t.heap; rw [ht]; exact hP)⟩, hS.F ht⟩) hS.2.2 dX12_hadOn_197
            · have c_44 : v9_148.toInt < y43.toInt := il_nle c_44
              refine lv_iload hx hb dX12_hadOn_157 (lv_at hl 1 rfl) ?_
              refine lv_iload hx hb dX12_hadOn_159 (lv_at hl 0 rfl) ?_
              refine cr_i (va_runS (As := [.int t42, .int v9_148]) (rest := []) ⟨hx, hb, hml, hown, hts⟩ (sm_has l dC dI (tyM cs) H t42 v9_148) (va_cwS 2 hts (wU_S mw_6_59 mw_6_57 mw_6_58 mw_1_13) rfl rfl rfl (by decide +kernel) ⟨Nat.le_of_ble_eq_true rfl, Nat.le_of_ble_eq_true rfl⟩) ⟨sz_c, sz_m hK hz⟩ rfl rfl hl.1 rfl (lv_room (Nat.le_of_ble_eq_true rfl)) dX12_hadOn_161 ⟨Nat.zero_le _, Nat.zero_le _⟩) hS (fun r45 hw45 locs hS => ?_)
              rcases hw45 with ⟨rfl, f45⟩ | ⟨rfl, f45⟩
              · have f45 : rb t42 v9_148 = 1 := f45
                refine lv_if_eq (tgt := 191) hx hb dX12_hadOn_164 (by decide) (fun c => absurd c (by decide)) (fun _ => ?_)
                refine lv_aload_n hx hb dX12_hadOn_167 rfl (lv_at hl 5 rfl) ?_
                refine va_get (D := (dC, dI)) (ci := 12) (v := .ref (ad 16)) (C := RX12) (T := TX12) (N := 46) hx hb hts inG12 hown hK hP 0 (gM_0 cs ad nu148_) rfl 26 (by decide) (hts _ (List.mem_cons_of_mem _ mw_5_67)) (fun _ h9 => h9) rfl dX12_hadOn_168 ?_
                refine lv_iload_n hx hb dX12_hadOn_171 rfl (lv_at hl 7 rfl) ?_
                refine lv_iload hx hb dX12_hadOn_172 (lv_at hl 0 rfl) ?_
                refine va_iast hx hb hK hP (wR_D nu148_ hD) hS 16 0 (gM_16 cs ad nu148_) rfl (show vp_in 6 7 from (by unfold vp_in; decide)) dX12_hadOn_174 (fun H locs hP _ hS => ?_)
                refine wr_gen (upd (nu148_ 16) (6 : Int32).toNatClampNeg v9_148) hP (rfl) (fun nu46 hn46 hP => ?_)
                have ok := tM_16_s ok (6 : Int32).toNatClampNeg hn46 (by exact ⟨by omega, by omega⟩)
                have ez47 : y1 = nu46 2 vr.toNatClampNeg := ek148_0.trans (congrFun (up_k hn46 (by decide)) vr.toNatClampNeg).symm
                have ez48 : y43 = nu46 0 8 := ey43.trans (congrFun (up_k hn46 (by decide)) 8).symm
                have kp49 : ∀ k : Nat, 2 ≤ k → k < 3 → nu46 k = mu k := fun k h1 h2 => (up_k hn46 (ne_hi (by decide) h2).symm).trans (kq148_0 k h1 h2)
                refine lv_aload_n hx hb dX12_hadOn_175 rfl (lv_at hl 5 rfl) ?_
                refine lv_iload_n hx hb dX12_hadOn_176 rfl (lv_at hl 6 rfl) ?_
                refine lv_iload_n hx hb dX12_hadOn_177 rfl (lv_at hl 7 rfl) ?_
                refine lv_iconst (v := 1) hx hb dX12_hadOn_178 (by decide) ?_
                refine lv_iadd hx hb dX12_hadOn_179 ?_
                refine lq_i 7 (by decide) ?_
                refine lv_iload_n hx hb dX12_hadOn_180 rfl (lv_at hl 8 rfl) ?_
                refine lv_iconst (v := 1) hx hb dX12_hadOn_181 (by decide) ?_
                refine lv_iload hx hb dX12_hadOn_182 (lv_at hl 0 rfl) ?_
                refine lv_ishl hx hb dX12_hadOn_184 ?_
                refine lv_topi (fun t50 et50 => ?_)
                refine lv_ior hx hb dX12_hadOn_185 ?_
                refine lv_topi (fun t51 et51 => ?_)
                refine lv_iload hx hb dX12_hadOn_186 (lv_at hl 3 rfl) ?_
                have hFc := fr_all (wR_D nu46 hD) hS hA
                refine va_callv (va_runV (As := [.int vr, .int 7, .int t51, .int r5]) (rest := []) ⟨hx, hb, hml, hown, hts⟩ (sm_hadOn7 l dC dI cs ad nu46 ok H hP ((wR_D nu46 hD).weaken (fun _ _ _ _ => trivial)) vr t51 r5 (by have h51 : (7 : Int32).toInt = 7 := rfl; omega) (by have h51 : (7 : Int32).toInt = 7 := rfl; have hb52 := congrArg Int32.toInt ez47; omega)) (cwV 4 hts (wU_V mw_7_24 mw_7_21 mw_7_23 mw_0_62 mw_1_13) rfl rfl rfl (by decide +kernel) ⟨Nat.le_of_ble_eq_true rfl, Nat.le_of_ble_eq_true rfl⟩) ⟨sz_c, va_recv hK hP (ci := 12) (q0 := 0) rfl (gM_0 cs ad nu46), sz_m hK hz⟩ rfl rfl hl.1 rfl (lv_room (Nat.le_of_ble_eq_true rfl)) dX12_hadOn_188 ⟨Nat.zero_le _, Nat.zero_le _⟩) hS (fun q _ h => hFc q h) hFc (fun xi53 t H53 locs ht hvm hw53 hB hz1 hk1 hS => ?_)
                have hP : va_P (dC, dI) vwCl (wR 21 ad (EM cs ad) xi53) H53 := by rw [← ht]; exact hB
                obtain ⟨ok, hw53, hkp53_0⟩ := hw53
                have ez54 : y1 = xi53 2 vr.toNatClampNeg := ez47.trans (congrFun (hkp53_0 2 (by decide) (by decide)) vr.toNatClampNeg).symm
                have kp55 : ∀ k : Nat, 2 ≤ k → k < 3 → xi53 k = mu k := fun k h1 h2 => (hkp53_0 k (Nat.le_trans (by decide) h1) (Nat.lt_of_lt_of_le h2 (by decide))).trans (kp49 k h1 h2)
                refine lv_iinc (v := (v9_148 + 1)) (lv' := [(9, .int (v9_148 + 1)), (8, .int t42), (7, .int 1), (6, .int r5), (5, .int y4), (0, .ref (ad 0)), (1, .int vr), (2, .int 6), (3, .int vh), (4, .int vp)]) hx hb dX12_hadOn_191 hl (k := 0) rfl rfl (by decide) rfl (fun ls hl => ?_)
                refine loc_gen (P := fun w9 => lv_has ls 10 [(9, .int w9), (8, .int t42), (7, .int 1), (6, .int r5), (5, .int y4), (0, .ref (ad 0)), (1, .int vr), (2, .int 6), (3, .int vh), (4, .int vp)]) (v9_148 + 1) hl (fun w56 hw56 hl => ?_)
                have hl : lv_has ls 10 [(9, .int w56), (8, .int t42), (7, .int 1), (6, .int r5), (5, .int y4), (0, .ref (ad 0)), (1, .int vr), (2, .int 6), (3, .int vh), (4, .int vp)] := hl
                have aw56 : w56.toInt = v9_148.toInt + 1 := by rw [← hw56]; exact tI_add (rfl : v9_148.toInt = _) (rfl : (1 : Int32).toInt = 1) (by omega) (by omega)
                refine lv_goto (tgt := 148) hx hb dX12_hadOn_194 (by decide) ?_
                exact ih148 (w56) xi53 _ _ _ (by omega) (by exact ⟨by omega, by omega⟩)  ok hP ez54 kp55 hS (lv_sub hl [0, 1, 2, 3, 4, 5, 6, 7, 8, 9] rfl)
              · have f45 : ¬ rb t42 v9_148 = 1 := f45
                refine lv_if_eq (tgt := 191) hx hb dX12_hadOn_164 (by decide) (fun _ => ?_) (fun c => absurd (by decide) c)
                refine lv_iinc (v := (v9_148 + 1)) (lv' := [(9, .int (v9_148 + 1)), (8, .int t42), (7, .int 1), (6, .int r5), (5, .int y4), (0, .ref (ad 0)), (1, .int vr), (2, .int 6), (3, .int vh), (4, .int vp)]) hx hb dX12_hadOn_191 hl (k := 0) rfl rfl (by decide) rfl (fun ls hl => ?_)
                refine loc_gen (P := fun w9 => lv_has ls 10 [(9, .int w9), (8, .int t42), (7, .int 1), (6, .int r5), (5, .int y4), (0, .ref (ad 0)), (1, .int vr), (2, .int 6), (3, .int vh), (4, .int vp)]) (v9_148 + 1) hl (fun w57 hw57 hl => ?_)
                have hl : lv_has ls 10 [(9, .int w57), (8, .int t42), (7, .int 1), (6, .int r5), (5, .int y4), (0, .ref (ad 0)), (1, .int vr), (2, .int 6), (3, .int vh), (4, .int vp)] := hl
                have aw57 : w57.toInt = v9_148.toInt + 1 := by rw [← hw57]; exact tI_add (rfl : v9_148.toInt = _) (rfl : (1 : Int32).toInt = 1) (by omega) (by omega)
                refine lv_goto (tgt := 148) hx hb dX12_hadOn_194 (by decide) ?_
                exact ih148 (w57) nu148_ _ _ _ (by omega) (by exact ⟨by omega, by omega⟩)  ok hP ek148_0 kq148_0 hS (lv_sub hl [0, 1, 2, 3, 4, 5, 6, 7, 8, 9] rfl)
        exact loop148 ((7 + 1 - (0 : Int32).toInt).toNat + 1) (0) mu _ _ _ (Nat.lt_succ_self _) (by have h80 : (0 : Int32).toInt = 0 := rfl; exact ⟨by omega, by omega⟩)  ok hP ey1 (fun _ _ _ => rfl) hS hl
  · have c_3 : 6 = t2.toInt := il_eq c_3
    refine lv_aload_n hx hb dX12_hadOn_12 rfl (lv_at hl 0 rfl) ?_
    refine va_get (D := (dC, dI)) (ci := 12) (v := .int (mu 0 42)) (C := RX12) (T := TX12) (N := 46) hx hb hts inG12 hown hK hP 0 (gM_0 cs ad mu) rfl 42 (by decide) (hts _ (List.mem_cons_of_mem _ mw_5_83)) (fun _ h9 => h9) rfl dX12_hadOn_13 ?_
    refine lv_topi (fun y58 ey58 => ?_)
    have by58 : y58.toInt = (mu 0 42).toInt := congrArg Int32.toInt ey58
    refine lv_if_ne (tgt := 28) hx hb dX12_hadOn_16 (by decide) (fun c_59 => ?_) (fun c_59 => ?_)
    · have c_59 : ¬ y58.toInt = 0 := il_ne c_59
      refine lv_aload_n hx hb dX12_hadOn_28 rfl (lv_at hl 0 rfl) ?_
      refine lv_dup hx hb dX12_hadOn_29 rfl ?_
      refine va_get (D := (dC, dI)) (ci := 12) (v := .int (mu 0 42)) (C := RX12) (T := TX12) (N := 46) hx hb hts inG12 hown hK hP 0 (gM_0 cs ad mu) rfl 42 (by decide) (hts _ (List.mem_cons_of_mem _ mw_5_83)) (fun _ h9 => h9) rfl dX12_hadOn_30 ?_
      refine lq_i y58 ey58.symm ?_
      refine lv_iconst (v := 1) hx hb dX12_hadOn_33 (by decide) ?_
      refine lv_iadd hx hb dX12_hadOn_34 ?_
      refine lv_topi (fun t60 et60 => ?_)
      refine va_put (D := (dC, dI)) (ci := 12) (v := .int t60) (ty := .int) (C := RX12) (T := TX12) (N := 46) hx hb hts inG12 tyX12 tyX12_ok nmX12 hown hK hP (wR_D mu hD) hS 0 (gM_0 cs ad mu) rfl 42 (by decide) (hts _ (List.mem_cons_of_mem _ mw_5_83)) (fun _ h9 => h9) rfl (by decide +kernel) rfl rfl (Nat.le_of_ble_eq_true rfl) dX12_hadOn_35 (fun H locs hP _ hS => ?_)
      simp only [List.set_cons_succ, List.set_cons_zero] at hP
      refine wr_gen (upd (mu 0) 42 t60) hP ((hM_0_42 cs ad _ _)) (fun nu61 hn61 hP => ?_)
      have ok := tM_0_42 ok hn61
      have ez62 : y1 = nu61 2 vr.toNatClampNeg := ey1.trans (congrFun (up_k hn61 (by decide)) vr.toNatClampNeg).symm
      have kp63 : ∀ k : Nat, 2 ≤ k → k < 3 → nu61 k = mu k := fun k h1 h2 => (up_k hn61 (ne_lo (by decide) h1).symm).trans ((fun _ _ _ => rfl) k h1 h2)
      have ez64 : t60 = nu61 0 42 := up_v hn61
      refine lv_aload_n hx hb dX12_hadOn_38 rfl (lv_at hl 0 rfl) ?_
      refine lv_dup hx hb dX12_hadOn_39 rfl ?_
      refine va_get (D := (dC, dI)) (ci := 12) (v := .int (nu61 0 43)) (C := RX12) (T := TX12) (N := 46) hx hb hts inG12 hown hK hP 0 (gM_0 cs ad nu61) rfl 43 (by decide) (hts _ (List.mem_cons_of_mem _ mw_5_84)) (fun _ h9 => h9) rfl dX12_hadOn_40 ?_
      refine lv_topi (fun y65 ey65 => ?_)
      have by65 : y65.toInt = (nu61 0 43).toInt := congrArg Int32.toInt ey65
      refine lv_iconst (v := 1) hx hb dX12_hadOn_43 (by decide) ?_
      refine lv_aload_n hx hb dX12_hadOn_44 rfl (lv_at hl 0 rfl) ?_
      refine va_get (D := (dC, dI)) (ci := 12) (v := .ref (ad 16)) (C := RX12) (T := TX12) (N := 46) hx hb hts inG12 hown hK hP 0 (gM_0 cs ad nu61) rfl 26 (by decide) (hts _ (List.mem_cons_of_mem _ mw_5_67)) (fun _ h9 => h9) rfl dX12_hadOn_45 ?_
      refine lv_iload_n hx hb dX12_hadOn_48 rfl (lv_at hl 2 rfl) ?_
      refine lv_iconst (v := 1) hx hb dX12_hadOn_49 (by decide) ?_
      refine lv_isub hx hb dX12_hadOn_50 ?_
      refine lq_i 5 (by decide) ?_
      refine va_iald hx hb hK hP 16 0 (gM_16 cs ad nu61) rfl (show vp_in 5 7 from (by unfold vp_in; decide)) dX12_hadOn_51 ?_
      refine lv_topi (fun y66 ey66 => ?_)
      have by66 : y66.toInt = (nu61 16 (5 : Int32).toNatClampNeg).toInt := congrArg Int32.toInt ey66
      have gy66 : 0 ≤ y66.toInt ∧ y66.toInt ≤ 6 := by rw [ey66]; exact rM_16_s ok (5 : Int32).toNatClampNeg
      refine lv_ishl hx hb dX12_hadOn_52 ?_
      refine lv_topi (fun t67 et67 => ?_)
      refine lv_ior hx hb dX12_hadOn_53 ?_
      refine lv_topi (fun t68 et68 => ?_)
      refine va_put (D := (dC, dI)) (ci := 12) (v := .int t68) (ty := .int) (C := RX12) (T := TX12) (N := 46) hx hb hts inG12 tyX12 tyX12_ok nmX12 hown hK hP (wR_D nu61 hD) hS 0 (gM_0 cs ad nu61) rfl 43 (by decide) (hts _ (List.mem_cons_of_mem _ mw_5_84)) (fun _ h9 => h9) rfl (by decide +kernel) rfl rfl (Nat.le_of_ble_eq_true rfl) dX12_hadOn_54 (fun H locs hP _ hS => ?_)
      simp only [List.set_cons_succ, List.set_cons_zero] at hP
      refine wr_gen (upd (nu61 0) 43 t68) hP ((hM_0_43 cs ad _ _)) (fun nu69 hn69 hP => ?_)
      have ok := tM_0_43 ok hn69
      have ez70 : y1 = nu69 2 vr.toNatClampNeg := ez62.trans (congrFun (up_k hn69 (by decide)) vr.toNatClampNeg).symm
      have ez71 : t60 = nu69 0 42 := ez64.trans (up_f hn69 (by decide)).symm
      have ez72 : y66 = nu69 16 (5 : Int32).toNatClampNeg := ey66.trans (congrFun (up_k hn69 (by decide)) (5 : Int32).toNatClampNeg).symm
      have kp73 : ∀ k : Nat, 2 ≤ k → k < 3 → nu69 k = mu k := fun k h1 h2 => (up_k hn69 (ne_lo (by decide) h1).symm).trans (kp63 k h1 h2)
      have ez74 : t68 = nu69 0 43 := up_v hn69
      refine lv_aload_n hx hb dX12_hadOn_57 rfl (lv_at hl 0 rfl) ?_
      refine lv_dup hx hb dX12_hadOn_58 rfl ?_
      refine va_get (D := (dC, dI)) (ci := 12) (v := .int (nu69 0 44)) (C := RX12) (T := TX12) (N := 46) hx hb hts inG12 hown hK hP 0 (gM_0 cs ad nu69) rfl 44 (by decide) (hts _ (List.mem_cons_of_mem _ mw_5_85)) (fun _ h9 => h9) rfl dX12_hadOn_59 ?_
      refine lv_topi (fun y75 ey75 => ?_)
      have by75 : y75.toInt = (nu69 0 44).toInt := congrArg Int32.toInt ey75
      refine lv_iload_n hx hb dX12_hadOn_62 rfl (lv_at hl 3 rfl) ?_
      refine lv_iand hx hb dX12_hadOn_63 ?_
      refine lv_topi (fun t76 et76 => ?_)
      refine va_put (D := (dC, dI)) (ci := 12) (v := .int t76) (ty := .int) (C := RX12) (T := TX12) (N := 46) hx hb hts inG12 tyX12 tyX12_ok nmX12 hown hK hP (wR_D nu69 hD) hS 0 (gM_0 cs ad nu69) rfl 44 (by decide) (hts _ (List.mem_cons_of_mem _ mw_5_85)) (fun _ h9 => h9) rfl (by decide +kernel) rfl rfl (Nat.le_of_ble_eq_true rfl) dX12_hadOn_64 (fun H locs hP _ hS => ?_)
      simp only [List.set_cons_succ, List.set_cons_zero] at hP
      refine wr_gen (upd (nu69 0) 44 t76) hP ((hM_0_44 cs ad _ _)) (fun nu77 hn77 hP => ?_)
      have ok := tM_0_44 ok hn77
      have ez78 : y1 = nu77 2 vr.toNatClampNeg := ez70.trans (congrFun (up_k hn77 (by decide)) vr.toNatClampNeg).symm
      have ez79 : t60 = nu77 0 42 := ez71.trans (up_f hn77 (by decide)).symm
      have ez80 : y66 = nu77 16 (5 : Int32).toNatClampNeg := ez72.trans (congrFun (up_k hn77 (by decide)) (5 : Int32).toNatClampNeg).symm
      have ez81 : t68 = nu77 0 43 := ez74.trans (up_f hn77 (by decide)).symm
      have kp82 : ∀ k : Nat, 2 ≤ k → k < 3 → nu77 k = mu k := fun k h1 h2 => (up_k hn77 (ne_lo (by decide) h1).symm).trans (kp73 k h1 h2)
      have ez83 : t76 = nu77 0 44 := up_v hn77
      exact W.vret hx hb hr (fun t ht hW => ⟨⟨nu77, rfl, ⟨ok, trivial, kp82⟩, by first | (subst ht; exact hP) | (rw [ht]; exact hP) | (show va_P (dC, dI) vwCl (wR 21 ad (EM cs ad) nu77) t.heap; rw [ht]; exact hP)⟩, hS.F ht⟩) hS.2.2 dX12_hadOn_67
    · have c_59 : y58.toInt = 0 := il_eq c_59
      refine lv_aload_n hx hb dX12_hadOn_19 rfl (lv_at hl 0 rfl) ?_
      refine lv_aload_n hx hb dX12_hadOn_20 rfl (lv_at hl 0 rfl) ?_
      refine va_get (D := (dC, dI)) (ci := 12) (v := .ref (ad 17)) (C := RX12) (T := TX12) (N := 46) hx hb hts inG12 hown hK hP 0 (gM_0 cs ad mu) rfl 27 (by decide) (hts _ (List.mem_cons_of_mem _ mw_5_68)) (fun _ h9 => h9) rfl dX12_hadOn_21 ?_
      refine lv_iload_n hx hb dX12_hadOn_24 rfl (lv_at hl 2 rfl) ?_
      have hFc := fr_all (wR_D mu hD) hS hA
      refine va_callv (va_runV (As := [.ref (ad 17), .int 6]) (rest := []) ⟨hx, hb, hml, hown, hts⟩ (sm_copyRoute17 l dC dI cs ad mu ok s.heap hP ((wR_D mu hD).weaken (fun _ _ _ _ => trivial)) 6 (by have h51 : (6 : Int32).toInt = 6 := rfl; omega)) (cwV 2 hts (wU_V mw_6_191 mw_6_188 mw_6_190 mw_0_57 mw_1_13) rfl rfl rfl (by decide +kernel) ⟨Nat.le_of_ble_eq_true rfl, Nat.le_of_ble_eq_true rfl⟩) ⟨sz_c, va_recv hK hP (ci := 12) (q0 := 0) rfl (gM_0 cs ad mu), sz_m hK hz⟩ rfl rfl hl.1 rfl (lv_room (Nat.le_of_ble_eq_true rfl)) dX12_hadOn_25 ⟨Nat.zero_le _, Nat.zero_le _⟩) hS (fun q _ h => hFc q h) hFc (fun xi84 t H84 locs ht hvm hw84 hB hz1 hk1 hS => ?_)
      have hP : va_P (dC, dI) vwCl (wR 21 ad (EM cs ad) xi84) H84 := by rw [← ht]; exact hB
      obtain ⟨ok, hw84, hkp84_0⟩ := hw84
      have ez85 : y1 = xi84 2 vr.toNatClampNeg := ey1.trans (congrFun (hkp84_0 2 (by decide) (by decide)) vr.toNatClampNeg).symm
      have ez86 : y58 = xi84 0 42 := ey58.trans (congrFun (hkp84_0 0 (by decide) (by decide)) 42).symm
      have kp87 : ∀ k : Nat, 2 ≤ k → k < 3 → xi84 k = mu k := fun k h1 h2 => (hkp84_0 k (Nat.le_trans (by decide) h1) (Nat.lt_of_lt_of_le h2 (by decide))).trans ((fun _ _ _ => rfl) k h1 h2)
      refine lv_aload_n hx hb dX12_hadOn_28 rfl (lv_at hl 0 rfl) ?_
      refine lv_dup hx hb dX12_hadOn_29 rfl ?_
      refine va_get (D := (dC, dI)) (ci := 12) (v := .int (xi84 0 42)) (C := RX12) (T := TX12) (N := 46) hx hb hts inG12 hown hK hP 0 (gM_0 cs ad xi84) rfl 42 (by decide) (hts _ (List.mem_cons_of_mem _ mw_5_83)) (fun _ h9 => h9) rfl dX12_hadOn_30 ?_
      refine lq_i y58 ez86.symm ?_
      refine lv_iconst (v := 1) hx hb dX12_hadOn_33 (by decide) ?_
      refine lv_iadd hx hb dX12_hadOn_34 ?_
      refine lv_topi (fun t88 et88 => ?_)
      have at88 : t88.toInt = y58.toInt + 1 := by rw [et88]; exact tI_add (rfl : y58.toInt = _) (rfl : (1 : Int32).toInt = 1) (by omega) (by omega)
      refine va_put (D := (dC, dI)) (ci := 12) (v := .int t88) (ty := .int) (C := RX12) (T := TX12) (N := 46) hx hb hts inG12 tyX12 tyX12_ok nmX12 hown hK hP (wR_D xi84 hD) hS 0 (gM_0 cs ad xi84) rfl 42 (by decide) (hts _ (List.mem_cons_of_mem _ mw_5_83)) (fun _ h9 => h9) rfl (by decide +kernel) rfl rfl (Nat.le_of_ble_eq_true rfl) dX12_hadOn_35 (fun H locs hP _ hS => ?_)
      simp only [List.set_cons_succ, List.set_cons_zero] at hP
      refine wr_gen (upd (xi84 0) 42 t88) hP ((hM_0_42 cs ad _ _)) (fun nu89 hn89 hP => ?_)
      have ok := tM_0_42 ok hn89
      have ez90 : y1 = nu89 2 vr.toNatClampNeg := ez85.trans (congrFun (up_k hn89 (by decide)) vr.toNatClampNeg).symm
      have kp91 : ∀ k : Nat, 2 ≤ k → k < 3 → nu89 k = mu k := fun k h1 h2 => (up_k hn89 (ne_lo (by decide) h1).symm).trans (kp87 k h1 h2)
      have ez92 : t88 = nu89 0 42 := up_v hn89
      refine lv_aload_n hx hb dX12_hadOn_38 rfl (lv_at hl 0 rfl) ?_
      refine lv_dup hx hb dX12_hadOn_39 rfl ?_
      refine va_get (D := (dC, dI)) (ci := 12) (v := .int (nu89 0 43)) (C := RX12) (T := TX12) (N := 46) hx hb hts inG12 hown hK hP 0 (gM_0 cs ad nu89) rfl 43 (by decide) (hts _ (List.mem_cons_of_mem _ mw_5_84)) (fun _ h9 => h9) rfl dX12_hadOn_40 ?_
      refine lv_topi (fun y93 ey93 => ?_)
      have by93 : y93.toInt = (nu89 0 43).toInt := congrArg Int32.toInt ey93
      refine lv_iconst (v := 1) hx hb dX12_hadOn_43 (by decide) ?_
      refine lv_aload_n hx hb dX12_hadOn_44 rfl (lv_at hl 0 rfl) ?_
      refine va_get (D := (dC, dI)) (ci := 12) (v := .ref (ad 16)) (C := RX12) (T := TX12) (N := 46) hx hb hts inG12 hown hK hP 0 (gM_0 cs ad nu89) rfl 26 (by decide) (hts _ (List.mem_cons_of_mem _ mw_5_67)) (fun _ h9 => h9) rfl dX12_hadOn_45 ?_
      refine lv_iload_n hx hb dX12_hadOn_48 rfl (lv_at hl 2 rfl) ?_
      refine lv_iconst (v := 1) hx hb dX12_hadOn_49 (by decide) ?_
      refine lv_isub hx hb dX12_hadOn_50 ?_
      refine lq_i 5 (by decide) ?_
      refine va_iald hx hb hK hP 16 0 (gM_16 cs ad nu89) rfl (show vp_in 5 7 from (by unfold vp_in; decide)) dX12_hadOn_51 ?_
      refine lv_topi (fun y94 ey94 => ?_)
      have by94 : y94.toInt = (nu89 16 (5 : Int32).toNatClampNeg).toInt := congrArg Int32.toInt ey94
      have gy94 : 0 ≤ y94.toInt ∧ y94.toInt ≤ 6 := by rw [ey94]; exact rM_16_s ok (5 : Int32).toNatClampNeg
      refine lv_ishl hx hb dX12_hadOn_52 ?_
      refine lv_topi (fun t95 et95 => ?_)
      refine lv_ior hx hb dX12_hadOn_53 ?_
      refine lv_topi (fun t96 et96 => ?_)
      refine va_put (D := (dC, dI)) (ci := 12) (v := .int t96) (ty := .int) (C := RX12) (T := TX12) (N := 46) hx hb hts inG12 tyX12 tyX12_ok nmX12 hown hK hP (wR_D nu89 hD) hS 0 (gM_0 cs ad nu89) rfl 43 (by decide) (hts _ (List.mem_cons_of_mem _ mw_5_84)) (fun _ h9 => h9) rfl (by decide +kernel) rfl rfl (Nat.le_of_ble_eq_true rfl) dX12_hadOn_54 (fun H locs hP _ hS => ?_)
      simp only [List.set_cons_succ, List.set_cons_zero] at hP
      refine wr_gen (upd (nu89 0) 43 t96) hP ((hM_0_43 cs ad _ _)) (fun nu97 hn97 hP => ?_)
      have ok := tM_0_43 ok hn97
      have ez98 : y1 = nu97 2 vr.toNatClampNeg := ez90.trans (congrFun (up_k hn97 (by decide)) vr.toNatClampNeg).symm
      have ez99 : t88 = nu97 0 42 := ez92.trans (up_f hn97 (by decide)).symm
      have ez100 : y94 = nu97 16 (5 : Int32).toNatClampNeg := ey94.trans (congrFun (up_k hn97 (by decide)) (5 : Int32).toNatClampNeg).symm
      have kp101 : ∀ k : Nat, 2 ≤ k → k < 3 → nu97 k = mu k := fun k h1 h2 => (up_k hn97 (ne_lo (by decide) h1).symm).trans (kp91 k h1 h2)
      have ez102 : t96 = nu97 0 43 := up_v hn97
      refine lv_aload_n hx hb dX12_hadOn_57 rfl (lv_at hl 0 rfl) ?_
      refine lv_dup hx hb dX12_hadOn_58 rfl ?_
      refine va_get (D := (dC, dI)) (ci := 12) (v := .int (nu97 0 44)) (C := RX12) (T := TX12) (N := 46) hx hb hts inG12 hown hK hP 0 (gM_0 cs ad nu97) rfl 44 (by decide) (hts _ (List.mem_cons_of_mem _ mw_5_85)) (fun _ h9 => h9) rfl dX12_hadOn_59 ?_
      refine lv_topi (fun y103 ey103 => ?_)
      have by103 : y103.toInt = (nu97 0 44).toInt := congrArg Int32.toInt ey103
      refine lv_iload_n hx hb dX12_hadOn_62 rfl (lv_at hl 3 rfl) ?_
      refine lv_iand hx hb dX12_hadOn_63 ?_
      refine lv_topi (fun t104 et104 => ?_)
      refine va_put (D := (dC, dI)) (ci := 12) (v := .int t104) (ty := .int) (C := RX12) (T := TX12) (N := 46) hx hb hts inG12 tyX12 tyX12_ok nmX12 hown hK hP (wR_D nu97 hD) hS 0 (gM_0 cs ad nu97) rfl 44 (by decide) (hts _ (List.mem_cons_of_mem _ mw_5_85)) (fun _ h9 => h9) rfl (by decide +kernel) rfl rfl (Nat.le_of_ble_eq_true rfl) dX12_hadOn_64 (fun H locs hP _ hS => ?_)
      simp only [List.set_cons_succ, List.set_cons_zero] at hP
      refine wr_gen (upd (nu97 0) 44 t104) hP ((hM_0_44 cs ad _ _)) (fun nu105 hn105 hP => ?_)
      have ok := tM_0_44 ok hn105
      have ez106 : y1 = nu105 2 vr.toNatClampNeg := ez98.trans (congrFun (up_k hn105 (by decide)) vr.toNatClampNeg).symm
      have ez107 : t88 = nu105 0 42 := ez99.trans (up_f hn105 (by decide)).symm
      have ez108 : y94 = nu105 16 (5 : Int32).toNatClampNeg := ez100.trans (congrFun (up_k hn105 (by decide)) (5 : Int32).toNatClampNeg).symm
      have ez109 : t96 = nu105 0 43 := ez102.trans (up_f hn105 (by decide)).symm
      have kp110 : ∀ k : Nat, 2 ≤ k → k < 3 → nu105 k = mu k := fun k h1 h2 => (up_k hn105 (ne_lo (by decide) h1).symm).trans (kp101 k h1 h2)
      have ez111 : t104 = nu105 0 44 := up_v hn105
      exact W.vret hx hb hr (fun t ht hW => ⟨⟨nu105, rfl, ⟨ok, trivial, kp110⟩, by first | (subst ht; exact hP) | (rw [ht]; exact hP) | (show va_P (dC, dI) vwCl (wR 21 ad (EM cs ad) nu105) t.heap; rw [ht]; exact hP)⟩, hS.F ht⟩) hS.2.2 dX12_hadOn_67
set_option maxHeartbeats 4000000 in
set_option maxRecDepth 100000 in
/-- sm_hadOn5 -/
theorem sm_hadOn5 (l : Launch) (dC : Nat → ClassId) (dI : Nat → Nat → Nat) (cs : Nat → ClassId) (ad : Nat → Nat) (mu : Nat → Nat → Int32) (ok : okR loM hiM mu) (H : Heap) (hP : va_P (dC, dI) vwCl (wR 21 ad (EM cs ad) mu) H) (hD0 : va_D (fun _ => True) (wR 21 ad (EM cs ad) mu)) (vr : Int32) (vh : Int32) (vp : Int32) (hin0 : 0 ≤ vr.toInt ∧ vr.toInt ≤ 5) (hin1 : 5 ≤ (mu 2 vr.toNatClampNeg).toInt + 1 ∧ (mu 2 vr.toNatClampNeg).toInt ≤ 6) : Met l yX12_hadOn (wU yX12_hadOn cX12_hadOn 10 none) ({ frames := 3, cells := 0, slots := 0, locals := 81 }) (va_Pc [.ref (ad 0), .int vr, .int 5, .int vh, .int vp] (sz_P (dC, dI) vwCl (tyM cs) H)) (va_Qv (fun (xi : Nat → Nat → Int32) => okR loM hiM xi ∧ (True) ∧ (∀ k : Nat, 2 ≤ k → k < 3 → xi k = mu k)) (fun xi t => va_P (dC, dI) vwCl (wR 21 ad (EM cs ad) xi) t.heap) (va_A (wR 21 ad (EM cs ad) mu) H.size)) 0 0 (va_A (wR 21 ad (EM cs ad) mu) H.size) := by
  refine Met.ofW (cc := cX12_hadOn) (maxL := 10) (ret := none) (by decide) rfl ?_
  intro p e s m args below meth c s₁ B hml hv
  obtain ⟨rfl, hh, hK, hz⟩ := hv
  have hx := B.exec
  have hb := B.bytes
  have hr := B.returns
  have hts := atoms_spec (ws := (wU yX12_hadOn cX12_hadOn 10 none)) B.pre
  have hown : s.vm.findClass RX12 = some m.cls := findClass_of_methodNamed B.named
  have hlocks := B.notSynchronized
  subst hh
  have hD := hD0.self (sz := s.heap.size)
  have hA : ∀ q : Nat, s.heap.size ≤ q → (va_A (wR 21 ad (EM cs ad) mu) s.heap.size) q := fun q h => Or.inr h
  have hS : va_S (va_A (wR 21 ad (EM cs ad) mu) s.heap.size) s.heap s.heap [] := va_S.rf
  have hl := lv_entry ([.ref (ad 0), .int vr, .int 5, .int vh, .int vp]) (n := 10) (Nat.le_of_ble_eq_true rfl)
  rw [lg_entry_eq]
  generalize (lg_sl ([.ref (ad 0), .int vr, .int 5, .int vh, .int vp]) ++ List.replicate (10 - (lg_sl ([.ref (ad 0), .int vr, .int 5, .int vh, .int vp])).length) Slot.unset).toArray = ls at hl ⊢
  have hl : lv_has ls 10 [(0, .ref (ad 0)), (1, .int vr), (2, .int 5), (3, .int vh), (4, .int vp)] := hl
  refine lv_iload_n hx hb dX12_hadOn_0 rfl (lv_at hl 2 rfl) ?_
  refine lv_aload_n hx hb dX12_hadOn_1 rfl (lv_at hl 0 rfl) ?_
  refine va_get (D := (dC, dI)) (ci := 12) (v := .ref (ad 2)) (C := RX12) (T := TX12) (N := 46) hx hb hts inG12 hown hK hP 0 (gM_0 cs ad mu) rfl 3 (by decide) (hts _ (List.mem_cons_of_mem _ mw_5_44)) (fun _ h9 => h9) rfl dX12_hadOn_2 ?_
  refine lv_iload_n hx hb dX12_hadOn_5 rfl (lv_at hl 1 rfl) ?_
  refine va_iald hx hb hK hP 2 0 (gM_2 cs ad mu) rfl (show vp_in vr 6 from vi_of (by omega) (by omega)) dX12_hadOn_6 ?_
  refine lv_topi (fun y1 ey1 => ?_)
  have by1 : y1.toInt = (mu 2 vr.toNatClampNeg).toInt := congrArg Int32.toInt ey1
  have gy1 : -9 ≤ y1.toInt ∧ y1.toInt ≤ 40 := by rw [ey1]; exact rM_2_s ok vr.toNatClampNeg
  refine lv_iconst (v := 1) hx hb dX12_hadOn_7 (by decide) ?_
  refine lv_iadd hx hb dX12_hadOn_8 ?_
  refine lv_topi (fun t2 et2 => ?_)
  have at2 : t2.toInt = y1.toInt + 1 := by rw [et2]; exact tI_add (rfl : y1.toInt = _) (rfl : (1 : Int32).toInt = 1) (by omega) (by omega)
  refine lv_icmp_ne (tgt := 68) hx hb dX12_hadOn_9 (by decide) (fun c_3 => ?_) (fun c_3 => ?_)
  · have c_3 : ¬ 5 = t2.toInt := il_ne c_3
    refine lv_aload_n hx hb dX12_hadOn_68 rfl (lv_at hl 0 rfl) ?_
    refine va_get (D := (dC, dI)) (ci := 12) (v := .ref (ad 16)) (C := RX12) (T := TX12) (N := 46) hx hb hts inG12 hown hK hP 0 (gM_0 cs ad mu) rfl 26 (by decide) (hts _ (List.mem_cons_of_mem _ mw_5_67)) (fun _ h9 => h9) rfl dX12_hadOn_69 ?_
    refine lv_iload_n hx hb dX12_hadOn_72 rfl (lv_at hl 2 rfl) ?_
    refine lv_iconst (v := 1) hx hb dX12_hadOn_73 (by decide) ?_
    refine lv_isub hx hb dX12_hadOn_74 ?_
    refine lq_i 4 (by decide) ?_
    refine va_iald hx hb hK hP 16 0 (gM_16 cs ad mu) rfl (show vp_in 4 7 from (by unfold vp_in; decide)) dX12_hadOn_75 ?_
    refine lv_topi (fun y4 ey4 => ?_)
    have by4 : y4.toInt = (mu 16 (4 : Int32).toNatClampNeg).toInt := congrArg Int32.toInt ey4
    have gy4 : 0 ≤ y4.toInt ∧ y4.toInt ≤ 6 := by rw [ey4]; exact rM_16_s ok (4 : Int32).toNatClampNeg
    refine lv_istore (lv' := [(5, .int y4), (0, .ref (ad 0)), (1, .int vr), (2, .int 5), (3, .int vh), (4, .int vp)]) hx hb dX12_hadOn_76 hl (by decide) rfl (fun ls hl => ?_)
    refine lv_aload_n hx hb dX12_hadOn_78 rfl (lv_at hl 1 rfl) ?_
    refine lv_iload hx hb dX12_hadOn_79 (lv_at hl 0 rfl) ?_
    refine lv_iload hx hb dX12_hadOn_81 (lv_at hl 5 rfl) ?_
    refine cr_i (va_runV (As := [.int y4, .int vp]) (rest := []) ⟨hx, hb, hml, hown, hts⟩ (sm_asksOf l dC dI cs ad mu ok s.heap hP y4 vp (by omega)) (cwV 2 hts (wU_V mw_6_74 mw_6_71 mw_6_73 mw_0_42 mw_1_13) rfl rfl rfl (by decide +kernel) ⟨Nat.le_of_ble_eq_true rfl, Nat.le_of_ble_eq_true rfl⟩) ⟨sz_c, va_recv hK hP (ci := 12) (q0 := 0) rfl (gM_0 cs ad mu), sz_m hK hz⟩ rfl rfl hl.1 rfl (lv_room (Nat.le_of_ble_eq_true rfl)) dX12_hadOn_83 ⟨Nat.zero_le _, Nat.zero_le _⟩) hS (fun r5 hw5 locs hS => ?_)
    refine lv_istore (lv' := [(6, .int r5), (5, .int y4), (0, .ref (ad 0)), (1, .int vr), (2, .int 5), (3, .int vh), (4, .int vp)]) hx hb dX12_hadOn_86 hl (by decide) rfl (fun ls hl => ?_)
    refine lv_iload hx hb dX12_hadOn_88 (lv_at hl 0 rfl) ?_
    refine lv_aload_n hx hb dX12_hadOn_90 rfl (lv_at hl 2 rfl) ?_
    refine lv_iload_n hx hb dX12_hadOn_91 rfl (lv_at hl 3 rfl) ?_
    refine lv_iload_n hx hb dX12_hadOn_92 rfl (lv_at hl 4 rfl) ?_
    refine lv_iconst (v := 1) hx hb dX12_hadOn_93 (by decide) ?_
    refine lv_isub hx hb dX12_hadOn_94 ?_
    refine lq_i 4 (by decide) ?_
    refine cr_i (va_runV (As := [.int vr, .int 4]) (rest := [.int r5]) ⟨hx, hb, hml, hown, hts⟩ (sm_rowAt l dC dI cs ad mu ok s.heap hP vr 4 (by have h51 : (4 : Int32).toInt = 4 := rfl; omega)) (cwV 2 hts (wU_V mw_5_209 mw_5_206 mw_5_208 mw_0_29 mw_1_13) rfl rfl rfl (by decide +kernel) ⟨Nat.le_of_ble_eq_true rfl, Nat.le_of_ble_eq_true rfl⟩) ⟨sz_c, va_recv hK hP (ci := 12) (q0 := 0) rfl (gM_0 cs ad mu), sz_m hK hz⟩ rfl rfl hl.1 rfl (lv_room (Nat.le_of_ble_eq_true rfl)) dX12_hadOn_95 ⟨Nat.zero_le _, Nat.zero_le _⟩) hS (fun r6 hw6 locs hS => ?_)
    refine lv_icmp_ne (tgt := 121) hx hb dX12_hadOn_98 (by decide) (fun c_7 => ?_) (fun c_7 => ?_)
    · have c_7 : ¬ r5.toInt = r6.toInt := il_ne c_7
      refine lv_iconst (v := 0) hx hb dX12_hadOn_121 (by decide) ?_
      refine lv_istore (lv' := [(7, .int 0), (6, .int r5), (5, .int y4), (0, .ref (ad 0)), (1, .int vr), (2, .int 5), (3, .int vh), (4, .int vp)]) hx hb dX12_hadOn_122 hl (by decide) rfl (fun ls hl => ?_)
      refine lv_iload hx hb dX12_hadOn_124 (lv_at hl 0 rfl) ?_
      refine lv_if_eq (tgt := 142) hx hb dX12_hadOn_126 (by decide) (fun _ => ?_) (fun c => absurd (by decide) c)
      refine lv_iconst (v := 0) hx hb dX12_hadOn_142 (by decide) ?_
      refine lv_istore (lv' := [(8, .int 0), (7, .int 0), (6, .int r5), (5, .int y4), (0, .ref (ad 0)), (1, .int vr), (2, .int 5), (3, .int vh), (4, .int vp)]) hx hb dX12_hadOn_143 hl (by decide) rfl (fun ls hl => ?_)
      refine lv_iconst (v := 0) hx hb dX12_hadOn_145 (by decide) ?_
      refine lv_istore (lv' := [(9, .int 0), (8, .int 0), (7, .int 0), (6, .int r5), (5, .int y4), (0, .ref (ad 0)), (1, .int vr), (2, .int 5), (3, .int vh), (4, .int vp)]) hx hb dX12_hadOn_146 hl (by decide) rfl (fun ls hl => ?_)
      have loop148 : ∀ (n148 : Nat) (v9_148 : Int32) (nu148_ : Nat → Nat → Int32) (H : Heap) (locs : List Loc) (ls : Array Slot), (7 + 1 - v9_148.toInt).toNat < n148 → (0 ≤ v9_148.toInt ∧ v9_148.toInt ≤ 7) → okR loM hiM nu148_ → va_P (dC, dI) vwCl (wR 21 ad (EM cs ad) nu148_) H → y1 = nu148_ 2 vr.toNatClampNeg → (∀ k : Nat, 2 ≤ k → k < 3 → nu148_ k = mu k) → va_S (va_A (wR 21 ad (EM cs ad) mu) s.heap.size) s.heap H locs → lv_has ls 10 [(9, .int v9_148), (8, .int 0), (7, .int 0), (6, .int r5), (5, .int y4), (0, .ref (ad 0)), (1, .int vr), (2, .int 5), (3, .int vh), (4, .int vp)] → W p l e (headSpec (wU yX12_hadOn cX12_hadOn 10 none) ({ frames := 3, cells := 0, slots := 0, locals := 81 })).room s m ([.ref (ad 0), .int vr, .int 5, .int vh, .int vp] : List Value).toArray below meth c H locs 0 0 (MQ below (va_Qv (fun (xi : Nat → Nat → Int32) => okR loM hiM xi ∧ (True) ∧ (∀ k : Nat, 2 ≤ k → k < 3 → xi k = mu k)) (fun xi t => va_P (dC, dI) vwCl (wR 21 ad (EM cs ad) xi) t.heap) (va_A (wR 21 ad (EM cs ad) mu) s.heap.size)) ([.ref (ad 0), .int vr, .int 5, .int vh, .int vp] : List Value).toArray s 0 0 (va_A (wR 21 ad (EM cs ad) mu) s.heap.size)) (F0 m 148 ls []) := by
        intro n148
        induction n148 with
        | zero => intro v9_148 nu148_ H locs ls hm; exact absurd hm (Nat.not_lt_zero _)
        | succ n148 ih148 =>
          intro v9_148 nu148_ H locs ls hm h_v9_148 ok hP ek148_0 kq148_0 hS hl
          refine lv_iload hx hb dX12_hadOn_148 (lv_at hl 0 rfl) ?_
          refine lv_aload_n hx hb dX12_hadOn_150 rfl (lv_at hl 5 rfl) ?_
          refine va_get (D := (dC, dI)) (ci := 12) (v := .int (nu148_ 0 8)) (C := RX12) (T := TX12) (N := 46) hx hb hts inG12 hown hK hP 0 (gM_0 cs ad nu148_) rfl 8 (by decide) (hts _ (List.mem_cons_of_mem _ mw_5_49)) (fun _ h9 => h9) rfl dX12_hadOn_151 ?_
          refine lv_topi (fun y8 ey8 => ?_)
          have by8 : y8.toInt = (nu148_ 0 8).toInt := congrArg Int32.toInt ey8
          have gy8 : 0 ≤ y8.toInt ∧ y8.toInt ≤ 7 := by rw [ey8]; exact rM_0_8 ok
          refine lv_icmp_ge (tgt := 197) hx hb dX12_hadOn_154 (by decide) (fun c_9 => ?_) (fun c_9 => ?_)
          · have c_9 : y8.toInt ≤ v9_148.toInt := il_le c_9
            exact W.vret hx hb hr (fun t ht hW => ⟨⟨nu148_, rfl, ⟨ok, trivial, kq148_0⟩, by first | (subst ht; exact hP) | (rw [ht]; exact hP) | (show va_P (dC, dI) vwCl (wR 21 ad (EM cs ad) nu148_) t.heap; rw [ht]; exact hP)⟩, hS.F ht⟩) hS.2.2 dX12_hadOn_197
          · have c_9 : v9_148.toInt < y8.toInt := il_nle c_9
            refine lv_iload hx hb dX12_hadOn_157 (lv_at hl 1 rfl) ?_
            refine lv_iload hx hb dX12_hadOn_159 (lv_at hl 0 rfl) ?_
            refine cr_i (va_runS (As := [.int 0, .int v9_148]) (rest := []) ⟨hx, hb, hml, hown, hts⟩ (sm_has l dC dI (tyM cs) H 0 v9_148) (va_cwS 2 hts (wU_S mw_6_59 mw_6_57 mw_6_58 mw_1_13) rfl rfl rfl (by decide +kernel) ⟨Nat.le_of_ble_eq_true rfl, Nat.le_of_ble_eq_true rfl⟩) ⟨sz_c, sz_m hK hz⟩ rfl rfl hl.1 rfl (lv_room (Nat.le_of_ble_eq_true rfl)) dX12_hadOn_161 ⟨Nat.zero_le _, Nat.zero_le _⟩) hS (fun r10 hw10 locs hS => ?_)
            rcases hw10 with ⟨rfl, f10⟩ | ⟨rfl, f10⟩
            · have f10 : rb (0 : Int32) v9_148 = 1 := f10
              refine lv_if_eq (tgt := 191) hx hb dX12_hadOn_164 (by decide) (fun c => absurd c (by decide)) (fun _ => ?_)
              refine lv_aload_n hx hb dX12_hadOn_167 rfl (lv_at hl 5 rfl) ?_
              refine va_get (D := (dC, dI)) (ci := 12) (v := .ref (ad 16)) (C := RX12) (T := TX12) (N := 46) hx hb hts inG12 hown hK hP 0 (gM_0 cs ad nu148_) rfl 26 (by decide) (hts _ (List.mem_cons_of_mem _ mw_5_67)) (fun _ h9 => h9) rfl dX12_hadOn_168 ?_
              refine lv_iload_n hx hb dX12_hadOn_171 rfl (lv_at hl 7 rfl) ?_
              refine lv_iload hx hb dX12_hadOn_172 (lv_at hl 0 rfl) ?_
              refine va_iast hx hb hK hP (wR_D nu148_ hD) hS 16 0 (gM_16 cs ad nu148_) rfl (show vp_in 5 7 from (by unfold vp_in; decide)) dX12_hadOn_174 (fun H locs hP _ hS => ?_)
              refine wr_gen (upd (nu148_ 16) (5 : Int32).toNatClampNeg v9_148) hP (rfl) (fun nu11 hn11 hP => ?_)
              have ok := tM_16_s ok (5 : Int32).toNatClampNeg hn11 (by exact ⟨by omega, by omega⟩)
              have ez12 : y1 = nu11 2 vr.toNatClampNeg := ek148_0.trans (congrFun (up_k hn11 (by decide)) vr.toNatClampNeg).symm
              have ez13 : y8 = nu11 0 8 := ey8.trans (congrFun (up_k hn11 (by decide)) 8).symm
              have kp14 : ∀ k : Nat, 2 ≤ k → k < 3 → nu11 k = mu k := fun k h1 h2 => (up_k hn11 (ne_hi (by decide) h2).symm).trans (kq148_0 k h1 h2)
              refine lv_aload_n hx hb dX12_hadOn_175 rfl (lv_at hl 5 rfl) ?_
              refine lv_iload_n hx hb dX12_hadOn_176 rfl (lv_at hl 6 rfl) ?_
              refine lv_iload_n hx hb dX12_hadOn_177 rfl (lv_at hl 7 rfl) ?_
              refine lv_iconst (v := 1) hx hb dX12_hadOn_178 (by decide) ?_
              refine lv_iadd hx hb dX12_hadOn_179 ?_
              refine lq_i 6 (by decide) ?_
              refine lv_iload_n hx hb dX12_hadOn_180 rfl (lv_at hl 8 rfl) ?_
              refine lv_iconst (v := 1) hx hb dX12_hadOn_181 (by decide) ?_
              refine lv_iload hx hb dX12_hadOn_182 (lv_at hl 0 rfl) ?_
              refine lv_ishl hx hb dX12_hadOn_184 ?_
              refine lv_topi (fun t15 et15 => ?_)
              refine lv_ior hx hb dX12_hadOn_185 ?_
              refine lv_topi (fun t16 et16 => ?_)
              refine lv_iload hx hb dX12_hadOn_186 (lv_at hl 3 rfl) ?_
              have hFc := fr_all (wR_D nu11 hD) hS hA
              refine va_callv (va_runV (As := [.int vr, .int 6, .int t16, .int r5]) (rest := []) ⟨hx, hb, hml, hown, hts⟩ (sm_hadOn6 l dC dI cs ad nu11 ok H hP ((wR_D nu11 hD).weaken (fun _ _ _ _ => trivial)) vr t16 r5 (by have h51 : (6 : Int32).toInt = 6 := rfl; omega) (by have h51 : (6 : Int32).toInt = 6 := rfl; have hb17 := congrArg Int32.toInt ez12; omega)) (cwV 4 hts (wU_V mw_7_24 mw_7_21 mw_7_23 mw_0_62 mw_1_13) rfl rfl rfl (by decide +kernel) ⟨Nat.le_of_ble_eq_true rfl, Nat.le_of_ble_eq_true rfl⟩) ⟨sz_c, va_recv hK hP (ci := 12) (q0 := 0) rfl (gM_0 cs ad nu11), sz_m hK hz⟩ rfl rfl hl.1 rfl (lv_room (Nat.le_of_ble_eq_true rfl)) dX12_hadOn_188 ⟨Nat.zero_le _, Nat.zero_le _⟩) hS (fun q _ h => hFc q h) hFc (fun xi18 t H18 locs ht hvm hw18 hB hz1 hk1 hS => ?_)
              have hP : va_P (dC, dI) vwCl (wR 21 ad (EM cs ad) xi18) H18 := by rw [← ht]; exact hB
              obtain ⟨ok, hw18, hkp18_0⟩ := hw18
              have ez19 : y1 = xi18 2 vr.toNatClampNeg := ez12.trans (congrFun (hkp18_0 2 (by decide) (by decide)) vr.toNatClampNeg).symm
              have kp20 : ∀ k : Nat, 2 ≤ k → k < 3 → xi18 k = mu k := fun k h1 h2 => (hkp18_0 k (Nat.le_trans (by decide) h1) (Nat.lt_of_lt_of_le h2 (by decide))).trans (kp14 k h1 h2)
              refine lv_iinc (v := (v9_148 + 1)) (lv' := [(9, .int (v9_148 + 1)), (8, .int 0), (7, .int 0), (6, .int r5), (5, .int y4), (0, .ref (ad 0)), (1, .int vr), (2, .int 5), (3, .int vh), (4, .int vp)]) hx hb dX12_hadOn_191 hl (k := 0) rfl rfl (by decide) rfl (fun ls hl => ?_)
              refine loc_gen (P := fun w9 => lv_has ls 10 [(9, .int w9), (8, .int 0), (7, .int 0), (6, .int r5), (5, .int y4), (0, .ref (ad 0)), (1, .int vr), (2, .int 5), (3, .int vh), (4, .int vp)]) (v9_148 + 1) hl (fun w21 hw21 hl => ?_)
              have hl : lv_has ls 10 [(9, .int w21), (8, .int 0), (7, .int 0), (6, .int r5), (5, .int y4), (0, .ref (ad 0)), (1, .int vr), (2, .int 5), (3, .int vh), (4, .int vp)] := hl
              have aw21 : w21.toInt = v9_148.toInt + 1 := by rw [← hw21]; exact tI_add (rfl : v9_148.toInt = _) (rfl : (1 : Int32).toInt = 1) (by omega) (by omega)
              refine lv_goto (tgt := 148) hx hb dX12_hadOn_194 (by decide) ?_
              exact ih148 (w21) xi18 _ _ _ (by omega) (by exact ⟨by omega, by omega⟩)  ok hP ez19 kp20 hS (lv_sub hl [0, 1, 2, 3, 4, 5, 6, 7, 8, 9] rfl)
            · have f10 : ¬ rb (0 : Int32) v9_148 = 1 := f10
              refine lv_if_eq (tgt := 191) hx hb dX12_hadOn_164 (by decide) (fun _ => ?_) (fun c => absurd (by decide) c)
              refine lv_iinc (v := (v9_148 + 1)) (lv' := [(9, .int (v9_148 + 1)), (8, .int 0), (7, .int 0), (6, .int r5), (5, .int y4), (0, .ref (ad 0)), (1, .int vr), (2, .int 5), (3, .int vh), (4, .int vp)]) hx hb dX12_hadOn_191 hl (k := 0) rfl rfl (by decide) rfl (fun ls hl => ?_)
              refine loc_gen (P := fun w9 => lv_has ls 10 [(9, .int w9), (8, .int 0), (7, .int 0), (6, .int r5), (5, .int y4), (0, .ref (ad 0)), (1, .int vr), (2, .int 5), (3, .int vh), (4, .int vp)]) (v9_148 + 1) hl (fun w22 hw22 hl => ?_)
              have hl : lv_has ls 10 [(9, .int w22), (8, .int 0), (7, .int 0), (6, .int r5), (5, .int y4), (0, .ref (ad 0)), (1, .int vr), (2, .int 5), (3, .int vh), (4, .int vp)] := hl
              have aw22 : w22.toInt = v9_148.toInt + 1 := by rw [← hw22]; exact tI_add (rfl : v9_148.toInt = _) (rfl : (1 : Int32).toInt = 1) (by omega) (by omega)
              refine lv_goto (tgt := 148) hx hb dX12_hadOn_194 (by decide) ?_
              exact ih148 (w22) nu148_ _ _ _ (by omega) (by exact ⟨by omega, by omega⟩)  ok hP ek148_0 kq148_0 hS (lv_sub hl [0, 1, 2, 3, 4, 5, 6, 7, 8, 9] rfl)
      exact loop148 ((7 + 1 - (0 : Int32).toInt).toNat + 1) (0) mu _ _ _ (Nat.lt_succ_self _) (by have h80 : (0 : Int32).toInt = 0 := rfl; exact ⟨by omega, by omega⟩)  ok hP ey1 (fun _ _ _ => rfl) hS hl
    · have c_7 : r5.toInt = r6.toInt := il_eq c_7
      refine lv_iload_n hx hb dX12_hadOn_101 rfl (lv_at hl 4 rfl) ?_
      refine lv_iconst (v := 1) hx hb dX12_hadOn_102 (by decide) ?_
      refine lv_icmp_eq (tgt := 117) hx hb dX12_hadOn_103 (by decide) (fun c => absurd c (by decide)) (fun _ => ?_)
      refine lv_aload_n hx hb dX12_hadOn_106 rfl (lv_at hl 2 rfl) ?_
      refine va_get (D := (dC, dI)) (ci := 12) (v := .ref (ad 7)) (C := RX12) (T := TX12) (N := 46) hx hb hts inG12 hown hK hP 0 (gM_0 cs ad mu) rfl 9 (by decide) (hts _ (List.mem_cons_of_mem _ mw_5_50)) (fun _ h9 => h9) rfl dX12_hadOn_107 ?_
      refine lv_iload hx hb dX12_hadOn_110 (lv_at hl 1 rfl) ?_
      refine va_iald hx hb hK hP 7 0 (gM_7 cs ad mu) rfl (show vp_in y4 7 from vi_of (by omega) (by omega)) dX12_hadOn_112 ?_
      refine lv_topi (fun y23 ey23 => ?_)
      have by23 : y23.toInt = (mu 7 y4.toNatClampNeg).toInt := congrArg Int32.toInt ey23
      refine lv_iconst (v := 3) hx hb dX12_hadOn_113 (by decide) ?_
      refine lv_icmp_eq (tgt := 121) hx hb dX12_hadOn_114 (by decide) (fun c_24 => ?_) (fun c_24 => ?_)
      · have c_24 : y23.toInt = 3 := il_eq c_24
        refine lv_iconst (v := 0) hx hb dX12_hadOn_121 (by decide) ?_
        refine lv_istore (lv' := [(7, .int 0), (6, .int r5), (5, .int y4), (0, .ref (ad 0)), (1, .int vr), (2, .int 5), (3, .int vh), (4, .int vp)]) hx hb dX12_hadOn_122 hl (by decide) rfl (fun ls hl => ?_)
        refine lv_iload hx hb dX12_hadOn_124 (lv_at hl 0 rfl) ?_
        refine lv_if_eq (tgt := 142) hx hb dX12_hadOn_126 (by decide) (fun _ => ?_) (fun c => absurd (by decide) c)
        refine lv_iconst (v := 0) hx hb dX12_hadOn_142 (by decide) ?_
        refine lv_istore (lv' := [(8, .int 0), (7, .int 0), (6, .int r5), (5, .int y4), (0, .ref (ad 0)), (1, .int vr), (2, .int 5), (3, .int vh), (4, .int vp)]) hx hb dX12_hadOn_143 hl (by decide) rfl (fun ls hl => ?_)
        refine lv_iconst (v := 0) hx hb dX12_hadOn_145 (by decide) ?_
        refine lv_istore (lv' := [(9, .int 0), (8, .int 0), (7, .int 0), (6, .int r5), (5, .int y4), (0, .ref (ad 0)), (1, .int vr), (2, .int 5), (3, .int vh), (4, .int vp)]) hx hb dX12_hadOn_146 hl (by decide) rfl (fun ls hl => ?_)
        have loop148 : ∀ (n148 : Nat) (v9_148 : Int32) (nu148_ : Nat → Nat → Int32) (H : Heap) (locs : List Loc) (ls : Array Slot), (7 + 1 - v9_148.toInt).toNat < n148 → (0 ≤ v9_148.toInt ∧ v9_148.toInt ≤ 7) → okR loM hiM nu148_ → va_P (dC, dI) vwCl (wR 21 ad (EM cs ad) nu148_) H → y1 = nu148_ 2 vr.toNatClampNeg → (∀ k : Nat, 2 ≤ k → k < 3 → nu148_ k = mu k) → va_S (va_A (wR 21 ad (EM cs ad) mu) s.heap.size) s.heap H locs → lv_has ls 10 [(9, .int v9_148), (8, .int 0), (7, .int 0), (6, .int r5), (5, .int y4), (0, .ref (ad 0)), (1, .int vr), (2, .int 5), (3, .int vh), (4, .int vp)] → W p l e (headSpec (wU yX12_hadOn cX12_hadOn 10 none) ({ frames := 3, cells := 0, slots := 0, locals := 81 })).room s m ([.ref (ad 0), .int vr, .int 5, .int vh, .int vp] : List Value).toArray below meth c H locs 0 0 (MQ below (va_Qv (fun (xi : Nat → Nat → Int32) => okR loM hiM xi ∧ (True) ∧ (∀ k : Nat, 2 ≤ k → k < 3 → xi k = mu k)) (fun xi t => va_P (dC, dI) vwCl (wR 21 ad (EM cs ad) xi) t.heap) (va_A (wR 21 ad (EM cs ad) mu) s.heap.size)) ([.ref (ad 0), .int vr, .int 5, .int vh, .int vp] : List Value).toArray s 0 0 (va_A (wR 21 ad (EM cs ad) mu) s.heap.size)) (F0 m 148 ls []) := by
          intro n148
          induction n148 with
          | zero => intro v9_148 nu148_ H locs ls hm; exact absurd hm (Nat.not_lt_zero _)
          | succ n148 ih148 =>
            intro v9_148 nu148_ H locs ls hm h_v9_148 ok hP ek148_0 kq148_0 hS hl
            refine lv_iload hx hb dX12_hadOn_148 (lv_at hl 0 rfl) ?_
            refine lv_aload_n hx hb dX12_hadOn_150 rfl (lv_at hl 5 rfl) ?_
            refine va_get (D := (dC, dI)) (ci := 12) (v := .int (nu148_ 0 8)) (C := RX12) (T := TX12) (N := 46) hx hb hts inG12 hown hK hP 0 (gM_0 cs ad nu148_) rfl 8 (by decide) (hts _ (List.mem_cons_of_mem _ mw_5_49)) (fun _ h9 => h9) rfl dX12_hadOn_151 ?_
            refine lv_topi (fun y25 ey25 => ?_)
            have by25 : y25.toInt = (nu148_ 0 8).toInt := congrArg Int32.toInt ey25
            have gy25 : 0 ≤ y25.toInt ∧ y25.toInt ≤ 7 := by rw [ey25]; exact rM_0_8 ok
            refine lv_icmp_ge (tgt := 197) hx hb dX12_hadOn_154 (by decide) (fun c_26 => ?_) (fun c_26 => ?_)
            · have c_26 : y25.toInt ≤ v9_148.toInt := il_le c_26
              exact W.vret hx hb hr (fun t ht hW => ⟨⟨nu148_, rfl, ⟨ok, trivial, kq148_0⟩, by first | (subst ht; exact hP) | (rw [ht]; exact hP) | (show va_P (dC, dI) vwCl (wR 21 ad (EM cs ad) nu148_) t.heap; rw [ht]; exact hP)⟩, hS.F ht⟩) hS.2.2 dX12_hadOn_197
            · have c_26 : v9_148.toInt < y25.toInt := il_nle c_26
              refine lv_iload hx hb dX12_hadOn_157 (lv_at hl 1 rfl) ?_
              refine lv_iload hx hb dX12_hadOn_159 (lv_at hl 0 rfl) ?_
              refine cr_i (va_runS (As := [.int 0, .int v9_148]) (rest := []) ⟨hx, hb, hml, hown, hts⟩ (sm_has l dC dI (tyM cs) H 0 v9_148) (va_cwS 2 hts (wU_S mw_6_59 mw_6_57 mw_6_58 mw_1_13) rfl rfl rfl (by decide +kernel) ⟨Nat.le_of_ble_eq_true rfl, Nat.le_of_ble_eq_true rfl⟩) ⟨sz_c, sz_m hK hz⟩ rfl rfl hl.1 rfl (lv_room (Nat.le_of_ble_eq_true rfl)) dX12_hadOn_161 ⟨Nat.zero_le _, Nat.zero_le _⟩) hS (fun r27 hw27 locs hS => ?_)
              rcases hw27 with ⟨rfl, f27⟩ | ⟨rfl, f27⟩
              · have f27 : rb (0 : Int32) v9_148 = 1 := f27
                refine lv_if_eq (tgt := 191) hx hb dX12_hadOn_164 (by decide) (fun c => absurd c (by decide)) (fun _ => ?_)
                refine lv_aload_n hx hb dX12_hadOn_167 rfl (lv_at hl 5 rfl) ?_
                refine va_get (D := (dC, dI)) (ci := 12) (v := .ref (ad 16)) (C := RX12) (T := TX12) (N := 46) hx hb hts inG12 hown hK hP 0 (gM_0 cs ad nu148_) rfl 26 (by decide) (hts _ (List.mem_cons_of_mem _ mw_5_67)) (fun _ h9 => h9) rfl dX12_hadOn_168 ?_
                refine lv_iload_n hx hb dX12_hadOn_171 rfl (lv_at hl 7 rfl) ?_
                refine lv_iload hx hb dX12_hadOn_172 (lv_at hl 0 rfl) ?_
                refine va_iast hx hb hK hP (wR_D nu148_ hD) hS 16 0 (gM_16 cs ad nu148_) rfl (show vp_in 5 7 from (by unfold vp_in; decide)) dX12_hadOn_174 (fun H locs hP _ hS => ?_)
                refine wr_gen (upd (nu148_ 16) (5 : Int32).toNatClampNeg v9_148) hP (rfl) (fun nu28 hn28 hP => ?_)
                have ok := tM_16_s ok (5 : Int32).toNatClampNeg hn28 (by exact ⟨by omega, by omega⟩)
                have ez29 : y1 = nu28 2 vr.toNatClampNeg := ek148_0.trans (congrFun (up_k hn28 (by decide)) vr.toNatClampNeg).symm
                have ez30 : y25 = nu28 0 8 := ey25.trans (congrFun (up_k hn28 (by decide)) 8).symm
                have kp31 : ∀ k : Nat, 2 ≤ k → k < 3 → nu28 k = mu k := fun k h1 h2 => (up_k hn28 (ne_hi (by decide) h2).symm).trans (kq148_0 k h1 h2)
                refine lv_aload_n hx hb dX12_hadOn_175 rfl (lv_at hl 5 rfl) ?_
                refine lv_iload_n hx hb dX12_hadOn_176 rfl (lv_at hl 6 rfl) ?_
                refine lv_iload_n hx hb dX12_hadOn_177 rfl (lv_at hl 7 rfl) ?_
                refine lv_iconst (v := 1) hx hb dX12_hadOn_178 (by decide) ?_
                refine lv_iadd hx hb dX12_hadOn_179 ?_
                refine lq_i 6 (by decide) ?_
                refine lv_iload_n hx hb dX12_hadOn_180 rfl (lv_at hl 8 rfl) ?_
                refine lv_iconst (v := 1) hx hb dX12_hadOn_181 (by decide) ?_
                refine lv_iload hx hb dX12_hadOn_182 (lv_at hl 0 rfl) ?_
                refine lv_ishl hx hb dX12_hadOn_184 ?_
                refine lv_topi (fun t32 et32 => ?_)
                refine lv_ior hx hb dX12_hadOn_185 ?_
                refine lv_topi (fun t33 et33 => ?_)
                refine lv_iload hx hb dX12_hadOn_186 (lv_at hl 3 rfl) ?_
                have hFc := fr_all (wR_D nu28 hD) hS hA
                refine va_callv (va_runV (As := [.int vr, .int 6, .int t33, .int r5]) (rest := []) ⟨hx, hb, hml, hown, hts⟩ (sm_hadOn6 l dC dI cs ad nu28 ok H hP ((wR_D nu28 hD).weaken (fun _ _ _ _ => trivial)) vr t33 r5 (by have h51 : (6 : Int32).toInt = 6 := rfl; omega) (by have h51 : (6 : Int32).toInt = 6 := rfl; have hb34 := congrArg Int32.toInt ez29; omega)) (cwV 4 hts (wU_V mw_7_24 mw_7_21 mw_7_23 mw_0_62 mw_1_13) rfl rfl rfl (by decide +kernel) ⟨Nat.le_of_ble_eq_true rfl, Nat.le_of_ble_eq_true rfl⟩) ⟨sz_c, va_recv hK hP (ci := 12) (q0 := 0) rfl (gM_0 cs ad nu28), sz_m hK hz⟩ rfl rfl hl.1 rfl (lv_room (Nat.le_of_ble_eq_true rfl)) dX12_hadOn_188 ⟨Nat.zero_le _, Nat.zero_le _⟩) hS (fun q _ h => hFc q h) hFc (fun xi35 t H35 locs ht hvm hw35 hB hz1 hk1 hS => ?_)
                have hP : va_P (dC, dI) vwCl (wR 21 ad (EM cs ad) xi35) H35 := by rw [← ht]; exact hB
                obtain ⟨ok, hw35, hkp35_0⟩ := hw35
                have ez36 : y1 = xi35 2 vr.toNatClampNeg := ez29.trans (congrFun (hkp35_0 2 (by decide) (by decide)) vr.toNatClampNeg).symm
                have kp37 : ∀ k : Nat, 2 ≤ k → k < 3 → xi35 k = mu k := fun k h1 h2 => (hkp35_0 k (Nat.le_trans (by decide) h1) (Nat.lt_of_lt_of_le h2 (by decide))).trans (kp31 k h1 h2)
                refine lv_iinc (v := (v9_148 + 1)) (lv' := [(9, .int (v9_148 + 1)), (8, .int 0), (7, .int 0), (6, .int r5), (5, .int y4), (0, .ref (ad 0)), (1, .int vr), (2, .int 5), (3, .int vh), (4, .int vp)]) hx hb dX12_hadOn_191 hl (k := 0) rfl rfl (by decide) rfl (fun ls hl => ?_)
                refine loc_gen (P := fun w9 => lv_has ls 10 [(9, .int w9), (8, .int 0), (7, .int 0), (6, .int r5), (5, .int y4), (0, .ref (ad 0)), (1, .int vr), (2, .int 5), (3, .int vh), (4, .int vp)]) (v9_148 + 1) hl (fun w38 hw38 hl => ?_)
                have hl : lv_has ls 10 [(9, .int w38), (8, .int 0), (7, .int 0), (6, .int r5), (5, .int y4), (0, .ref (ad 0)), (1, .int vr), (2, .int 5), (3, .int vh), (4, .int vp)] := hl
                have aw38 : w38.toInt = v9_148.toInt + 1 := by rw [← hw38]; exact tI_add (rfl : v9_148.toInt = _) (rfl : (1 : Int32).toInt = 1) (by omega) (by omega)
                refine lv_goto (tgt := 148) hx hb dX12_hadOn_194 (by decide) ?_
                exact ih148 (w38) xi35 _ _ _ (by omega) (by exact ⟨by omega, by omega⟩)  ok hP ez36 kp37 hS (lv_sub hl [0, 1, 2, 3, 4, 5, 6, 7, 8, 9] rfl)
              · have f27 : ¬ rb (0 : Int32) v9_148 = 1 := f27
                refine lv_if_eq (tgt := 191) hx hb dX12_hadOn_164 (by decide) (fun _ => ?_) (fun c => absurd (by decide) c)
                refine lv_iinc (v := (v9_148 + 1)) (lv' := [(9, .int (v9_148 + 1)), (8, .int 0), (7, .int 0), (6, .int r5), (5, .int y4), (0, .ref (ad 0)), (1, .int vr), (2, .int 5), (3, .int vh), (4, .int vp)]) hx hb dX12_hadOn_191 hl (k := 0) rfl rfl (by decide) rfl (fun ls hl => ?_)
                refine loc_gen (P := fun w9 => lv_has ls 10 [(9, .int w9), (8, .int 0), (7, .int 0), (6, .int r5), (5, .int y4), (0, .ref (ad 0)), (1, .int vr), (2, .int 5), (3, .int vh), (4, .int vp)]) (v9_148 + 1) hl (fun w39 hw39 hl => ?_)
                have hl : lv_has ls 10 [(9, .int w39), (8, .int 0), (7, .int 0), (6, .int r5), (5, .int y4), (0, .ref (ad 0)), (1, .int vr), (2, .int 5), (3, .int vh), (4, .int vp)] := hl
                have aw39 : w39.toInt = v9_148.toInt + 1 := by rw [← hw39]; exact tI_add (rfl : v9_148.toInt = _) (rfl : (1 : Int32).toInt = 1) (by omega) (by omega)
                refine lv_goto (tgt := 148) hx hb dX12_hadOn_194 (by decide) ?_
                exact ih148 (w39) nu148_ _ _ _ (by omega) (by exact ⟨by omega, by omega⟩)  ok hP ek148_0 kq148_0 hS (lv_sub hl [0, 1, 2, 3, 4, 5, 6, 7, 8, 9] rfl)
        exact loop148 ((7 + 1 - (0 : Int32).toInt).toNat + 1) (0) mu _ _ _ (Nat.lt_succ_self _) (by have h80 : (0 : Int32).toInt = 0 := rfl; exact ⟨by omega, by omega⟩)  ok hP ey1 (fun _ _ _ => rfl) hS hl
      · have c_24 : ¬ y23.toInt = 3 := il_ne c_24
        refine lv_iconst (v := 1) hx hb dX12_hadOn_117 (by decide) ?_
        refine lv_goto (tgt := 122) hx hb dX12_hadOn_118 (by decide) ?_
        refine lv_istore (lv' := [(7, .int 1), (6, .int r5), (5, .int y4), (0, .ref (ad 0)), (1, .int vr), (2, .int 5), (3, .int vh), (4, .int vp)]) hx hb dX12_hadOn_122 hl (by decide) rfl (fun ls hl => ?_)
        refine lv_iload hx hb dX12_hadOn_124 (lv_at hl 0 rfl) ?_
        refine lv_if_eq (tgt := 142) hx hb dX12_hadOn_126 (by decide) (fun c => absurd c (by decide)) (fun _ => ?_)
        refine lv_aload_n hx hb dX12_hadOn_129 rfl (lv_at hl 3 rfl) ?_
        refine lv_iload hx hb dX12_hadOn_130 (lv_at hl 2 rfl) ?_
        refine cr_i (va_runV (As := [.int y4]) (rest := []) ⟨hx, hb, hml, hown, hts⟩ (sm_besideOf l dC dI cs ad mu ok s.heap hP y4) (cwV 1 hts (wU_V mw_6_56 mw_6_53 mw_6_55 mw_0_40 mw_1_13) rfl rfl rfl (by decide +kernel) ⟨Nat.le_of_ble_eq_true rfl, Nat.le_of_ble_eq_true rfl⟩) ⟨sz_c, va_recv hK hP (ci := 12) (q0 := 0) rfl (gM_0 cs ad mu), sz_m hK hz⟩ rfl rfl hl.1 rfl (lv_room (Nat.le_of_ble_eq_true rfl)) dX12_hadOn_132 ⟨Nat.zero_le _, Nat.zero_le _⟩) hS (fun r40 hw40 locs hS => ?_)
        refine lv_iload_n hx hb dX12_hadOn_135 rfl (lv_at hl 6 rfl) ?_
        refine lv_iconst (v := (-1)) hx hb dX12_hadOn_136 (by decide) ?_
        refine lv_ixor hx hb dX12_hadOn_137 ?_
        refine lv_topi (fun t41 et41 => ?_)
        refine lv_iand hx hb dX12_hadOn_138 ?_
        refine lv_topi (fun t42 et42 => ?_)
        refine lv_goto (tgt := 143) hx hb dX12_hadOn_139 (by decide) ?_
        refine lv_istore (lv' := [(8, .int t42), (7, .int 1), (6, .int r5), (5, .int y4), (0, .ref (ad 0)), (1, .int vr), (2, .int 5), (3, .int vh), (4, .int vp)]) hx hb dX12_hadOn_143 hl (by decide) rfl (fun ls hl => ?_)
        refine lv_iconst (v := 0) hx hb dX12_hadOn_145 (by decide) ?_
        refine lv_istore (lv' := [(9, .int 0), (8, .int t42), (7, .int 1), (6, .int r5), (5, .int y4), (0, .ref (ad 0)), (1, .int vr), (2, .int 5), (3, .int vh), (4, .int vp)]) hx hb dX12_hadOn_146 hl (by decide) rfl (fun ls hl => ?_)
        have loop148 : ∀ (n148 : Nat) (v9_148 : Int32) (nu148_ : Nat → Nat → Int32) (H : Heap) (locs : List Loc) (ls : Array Slot), (7 + 1 - v9_148.toInt).toNat < n148 → (0 ≤ v9_148.toInt ∧ v9_148.toInt ≤ 7) → okR loM hiM nu148_ → va_P (dC, dI) vwCl (wR 21 ad (EM cs ad) nu148_) H → y1 = nu148_ 2 vr.toNatClampNeg → (∀ k : Nat, 2 ≤ k → k < 3 → nu148_ k = mu k) → va_S (va_A (wR 21 ad (EM cs ad) mu) s.heap.size) s.heap H locs → lv_has ls 10 [(9, .int v9_148), (8, .int t42), (7, .int 1), (6, .int r5), (5, .int y4), (0, .ref (ad 0)), (1, .int vr), (2, .int 5), (3, .int vh), (4, .int vp)] → W p l e (headSpec (wU yX12_hadOn cX12_hadOn 10 none) ({ frames := 3, cells := 0, slots := 0, locals := 81 })).room s m ([.ref (ad 0), .int vr, .int 5, .int vh, .int vp] : List Value).toArray below meth c H locs 0 0 (MQ below (va_Qv (fun (xi : Nat → Nat → Int32) => okR loM hiM xi ∧ (True) ∧ (∀ k : Nat, 2 ≤ k → k < 3 → xi k = mu k)) (fun xi t => va_P (dC, dI) vwCl (wR 21 ad (EM cs ad) xi) t.heap) (va_A (wR 21 ad (EM cs ad) mu) s.heap.size)) ([.ref (ad 0), .int vr, .int 5, .int vh, .int vp] : List Value).toArray s 0 0 (va_A (wR 21 ad (EM cs ad) mu) s.heap.size)) (F0 m 148 ls []) := by
          intro n148
          induction n148 with
          | zero => intro v9_148 nu148_ H locs ls hm; exact absurd hm (Nat.not_lt_zero _)
          | succ n148 ih148 =>
            intro v9_148 nu148_ H locs ls hm h_v9_148 ok hP ek148_0 kq148_0 hS hl
            refine lv_iload hx hb dX12_hadOn_148 (lv_at hl 0 rfl) ?_
            refine lv_aload_n hx hb dX12_hadOn_150 rfl (lv_at hl 5 rfl) ?_
            refine va_get (D := (dC, dI)) (ci := 12) (v := .int (nu148_ 0 8)) (C := RX12) (T := TX12) (N := 46) hx hb hts inG12 hown hK hP 0 (gM_0 cs ad nu148_) rfl 8 (by decide) (hts _ (List.mem_cons_of_mem _ mw_5_49)) (fun _ h9 => h9) rfl dX12_hadOn_151 ?_
            refine lv_topi (fun y43 ey43 => ?_)
            have by43 : y43.toInt = (nu148_ 0 8).toInt := congrArg Int32.toInt ey43
            have gy43 : 0 ≤ y43.toInt ∧ y43.toInt ≤ 7 := by rw [ey43]; exact rM_0_8 ok
            refine lv_icmp_ge (tgt := 197) hx hb dX12_hadOn_154 (by decide) (fun c_44 => ?_) (fun c_44 => ?_)
            · have c_44 : y43.toInt ≤ v9_148.toInt := il_le c_44
              exact W.vret hx hb hr (fun t ht hW => ⟨⟨nu148_, rfl, ⟨ok, trivial, kq148_0⟩, by first | (subst ht; exact hP) | (rw [ht]; exact hP) | (show va_P (dC, dI) vwCl (wR 21 ad (EM cs ad) nu148_) t.heap; rw [ht]; exact hP)⟩, hS.F ht⟩) hS.2.2 dX12_hadOn_197
            · have c_44 : v9_148.toInt < y43.toInt := il_nle c_44
              refine lv_iload hx hb dX12_hadOn_157 (lv_at hl 1 rfl) ?_
              refine lv_iload hx hb dX12_hadOn_159 (lv_at hl 0 rfl) ?_
              refine cr_i (va_runS (As := [.int t42, .int v9_148]) (rest := []) ⟨hx, hb, hml, hown, hts⟩ (sm_has l dC dI (tyM cs) H t42 v9_148) (va_cwS 2 hts (wU_S mw_6_59 mw_6_57 mw_6_58 mw_1_13) rfl rfl rfl (by decide +kernel) ⟨Nat.le_of_ble_eq_true rfl, Nat.le_of_ble_eq_true rfl⟩) ⟨sz_c, sz_m hK hz⟩ rfl rfl hl.1 rfl (lv_room (Nat.le_of_ble_eq_true rfl)) dX12_hadOn_161 ⟨Nat.zero_le _, Nat.zero_le _⟩) hS (fun r45 hw45 locs hS => ?_)
              rcases hw45 with ⟨rfl, f45⟩ | ⟨rfl, f45⟩
              · have f45 : rb t42 v9_148 = 1 := f45
                refine lv_if_eq (tgt := 191) hx hb dX12_hadOn_164 (by decide) (fun c => absurd c (by decide)) (fun _ => ?_)
                refine lv_aload_n hx hb dX12_hadOn_167 rfl (lv_at hl 5 rfl) ?_
                refine va_get (D := (dC, dI)) (ci := 12) (v := .ref (ad 16)) (C := RX12) (T := TX12) (N := 46) hx hb hts inG12 hown hK hP 0 (gM_0 cs ad nu148_) rfl 26 (by decide) (hts _ (List.mem_cons_of_mem _ mw_5_67)) (fun _ h9 => h9) rfl dX12_hadOn_168 ?_
                refine lv_iload_n hx hb dX12_hadOn_171 rfl (lv_at hl 7 rfl) ?_
                refine lv_iload hx hb dX12_hadOn_172 (lv_at hl 0 rfl) ?_
                refine va_iast hx hb hK hP (wR_D nu148_ hD) hS 16 0 (gM_16 cs ad nu148_) rfl (show vp_in 5 7 from (by unfold vp_in; decide)) dX12_hadOn_174 (fun H locs hP _ hS => ?_)
                refine wr_gen (upd (nu148_ 16) (5 : Int32).toNatClampNeg v9_148) hP (rfl) (fun nu46 hn46 hP => ?_)
                have ok := tM_16_s ok (5 : Int32).toNatClampNeg hn46 (by exact ⟨by omega, by omega⟩)
                have ez47 : y1 = nu46 2 vr.toNatClampNeg := ek148_0.trans (congrFun (up_k hn46 (by decide)) vr.toNatClampNeg).symm
                have ez48 : y43 = nu46 0 8 := ey43.trans (congrFun (up_k hn46 (by decide)) 8).symm
                have kp49 : ∀ k : Nat, 2 ≤ k → k < 3 → nu46 k = mu k := fun k h1 h2 => (up_k hn46 (ne_hi (by decide) h2).symm).trans (kq148_0 k h1 h2)
                refine lv_aload_n hx hb dX12_hadOn_175 rfl (lv_at hl 5 rfl) ?_
                refine lv_iload_n hx hb dX12_hadOn_176 rfl (lv_at hl 6 rfl) ?_
                refine lv_iload_n hx hb dX12_hadOn_177 rfl (lv_at hl 7 rfl) ?_
                refine lv_iconst (v := 1) hx hb dX12_hadOn_178 (by decide) ?_
                refine lv_iadd hx hb dX12_hadOn_179 ?_
                refine lq_i 6 (by decide) ?_
                refine lv_iload_n hx hb dX12_hadOn_180 rfl (lv_at hl 8 rfl) ?_
                refine lv_iconst (v := 1) hx hb dX12_hadOn_181 (by decide) ?_
                refine lv_iload hx hb dX12_hadOn_182 (lv_at hl 0 rfl) ?_
                refine lv_ishl hx hb dX12_hadOn_184 ?_
                refine lv_topi (fun t50 et50 => ?_)
                refine lv_ior hx hb dX12_hadOn_185 ?_
                refine lv_topi (fun t51 et51 => ?_)
                refine lv_iload hx hb dX12_hadOn_186 (lv_at hl 3 rfl) ?_
                have hFc := fr_all (wR_D nu46 hD) hS hA
                refine va_callv (va_runV (As := [.int vr, .int 6, .int t51, .int r5]) (rest := []) ⟨hx, hb, hml, hown, hts⟩ (sm_hadOn6 l dC dI cs ad nu46 ok H hP ((wR_D nu46 hD).weaken (fun _ _ _ _ => trivial)) vr t51 r5 (by have h51 : (6 : Int32).toInt = 6 := rfl; omega) (by have h51 : (6 : Int32).toInt = 6 := rfl; have hb52 := congrArg Int32.toInt ez47; omega)) (cwV 4 hts (wU_V mw_7_24 mw_7_21 mw_7_23 mw_0_62 mw_1_13) rfl rfl rfl (by decide +kernel) ⟨Nat.le_of_ble_eq_true rfl, Nat.le_of_ble_eq_true rfl⟩) ⟨sz_c, va_recv hK hP (ci := 12) (q0 := 0) rfl (gM_0 cs ad nu46), sz_m hK hz⟩ rfl rfl hl.1 rfl (lv_room (Nat.le_of_ble_eq_true rfl)) dX12_hadOn_188 ⟨Nat.zero_le _, Nat.zero_le _⟩) hS (fun q _ h => hFc q h) hFc (fun xi53 t H53 locs ht hvm hw53 hB hz1 hk1 hS => ?_)
                have hP : va_P (dC, dI) vwCl (wR 21 ad (EM cs ad) xi53) H53 := by rw [← ht]; exact hB
                obtain ⟨ok, hw53, hkp53_0⟩ := hw53
                have ez54 : y1 = xi53 2 vr.toNatClampNeg := ez47.trans (congrFun (hkp53_0 2 (by decide) (by decide)) vr.toNatClampNeg).symm
                have kp55 : ∀ k : Nat, 2 ≤ k → k < 3 → xi53 k = mu k := fun k h1 h2 => (hkp53_0 k (Nat.le_trans (by decide) h1) (Nat.lt_of_lt_of_le h2 (by decide))).trans (kp49 k h1 h2)
                refine lv_iinc (v := (v9_148 + 1)) (lv' := [(9, .int (v9_148 + 1)), (8, .int t42), (7, .int 1), (6, .int r5), (5, .int y4), (0, .ref (ad 0)), (1, .int vr), (2, .int 5), (3, .int vh), (4, .int vp)]) hx hb dX12_hadOn_191 hl (k := 0) rfl rfl (by decide) rfl (fun ls hl => ?_)
                refine loc_gen (P := fun w9 => lv_has ls 10 [(9, .int w9), (8, .int t42), (7, .int 1), (6, .int r5), (5, .int y4), (0, .ref (ad 0)), (1, .int vr), (2, .int 5), (3, .int vh), (4, .int vp)]) (v9_148 + 1) hl (fun w56 hw56 hl => ?_)
                have hl : lv_has ls 10 [(9, .int w56), (8, .int t42), (7, .int 1), (6, .int r5), (5, .int y4), (0, .ref (ad 0)), (1, .int vr), (2, .int 5), (3, .int vh), (4, .int vp)] := hl
                have aw56 : w56.toInt = v9_148.toInt + 1 := by rw [← hw56]; exact tI_add (rfl : v9_148.toInt = _) (rfl : (1 : Int32).toInt = 1) (by omega) (by omega)
                refine lv_goto (tgt := 148) hx hb dX12_hadOn_194 (by decide) ?_
                exact ih148 (w56) xi53 _ _ _ (by omega) (by exact ⟨by omega, by omega⟩)  ok hP ez54 kp55 hS (lv_sub hl [0, 1, 2, 3, 4, 5, 6, 7, 8, 9] rfl)
              · have f45 : ¬ rb t42 v9_148 = 1 := f45
                refine lv_if_eq (tgt := 191) hx hb dX12_hadOn_164 (by decide) (fun _ => ?_) (fun c => absurd (by decide) c)
                refine lv_iinc (v := (v9_148 + 1)) (lv' := [(9, .int (v9_148 + 1)), (8, .int t42), (7, .int 1), (6, .int r5), (5, .int y4), (0, .ref (ad 0)), (1, .int vr), (2, .int 5), (3, .int vh), (4, .int vp)]) hx hb dX12_hadOn_191 hl (k := 0) rfl rfl (by decide) rfl (fun ls hl => ?_)
                refine loc_gen (P := fun w9 => lv_has ls 10 [(9, .int w9), (8, .int t42), (7, .int 1), (6, .int r5), (5, .int y4), (0, .ref (ad 0)), (1, .int vr), (2, .int 5), (3, .int vh), (4, .int vp)]) (v9_148 + 1) hl (fun w57 hw57 hl => ?_)
                have hl : lv_has ls 10 [(9, .int w57), (8, .int t42), (7, .int 1), (6, .int r5), (5, .int y4), (0, .ref (ad 0)), (1, .int vr), (2, .int 5), (3, .int vh), (4, .int vp)] := hl
                have aw57 : w57.toInt = v9_148.toInt + 1 := by rw [← hw57]; exact tI_add (rfl : v9_148.toInt = _) (rfl : (1 : Int32).toInt = 1) (by omega) (by omega)
                refine lv_goto (tgt := 148) hx hb dX12_hadOn_194 (by decide) ?_
                exact ih148 (w57) nu148_ _ _ _ (by omega) (by exact ⟨by omega, by omega⟩)  ok hP ek148_0 kq148_0 hS (lv_sub hl [0, 1, 2, 3, 4, 5, 6, 7, 8, 9] rfl)
        exact loop148 ((7 + 1 - (0 : Int32).toInt).toNat + 1) (0) mu _ _ _ (Nat.lt_succ_self _) (by have h80 : (0 : Int32).toInt = 0 := rfl; exact ⟨by omega, by omega⟩)  ok hP ey1 (fun _ _ _ => rfl) hS hl
  · have c_3 : 5 = t2.toInt := il_eq c_3
    refine lv_aload_n hx hb dX12_hadOn_12 rfl (lv_at hl 0 rfl) ?_
    refine va_get (D := (dC, dI)) (ci := 12) (v := .int (mu 0 42)) (C := RX12) (T := TX12) (N := 46) hx hb hts inG12 hown hK hP 0 (gM_0 cs ad mu) rfl 42 (by decide) (hts _ (List.mem_cons_of_mem _ mw_5_83)) (fun _ h9 => h9) rfl dX12_hadOn_13 ?_
    refine lv_topi (fun y58 ey58 => ?_)
    have by58 : y58.toInt = (mu 0 42).toInt := congrArg Int32.toInt ey58
    refine lv_if_ne (tgt := 28) hx hb dX12_hadOn_16 (by decide) (fun c_59 => ?_) (fun c_59 => ?_)
    · have c_59 : ¬ y58.toInt = 0 := il_ne c_59
      refine lv_aload_n hx hb dX12_hadOn_28 rfl (lv_at hl 0 rfl) ?_
      refine lv_dup hx hb dX12_hadOn_29 rfl ?_
      refine va_get (D := (dC, dI)) (ci := 12) (v := .int (mu 0 42)) (C := RX12) (T := TX12) (N := 46) hx hb hts inG12 hown hK hP 0 (gM_0 cs ad mu) rfl 42 (by decide) (hts _ (List.mem_cons_of_mem _ mw_5_83)) (fun _ h9 => h9) rfl dX12_hadOn_30 ?_
      refine lq_i y58 ey58.symm ?_
      refine lv_iconst (v := 1) hx hb dX12_hadOn_33 (by decide) ?_
      refine lv_iadd hx hb dX12_hadOn_34 ?_
      refine lv_topi (fun t60 et60 => ?_)
      refine va_put (D := (dC, dI)) (ci := 12) (v := .int t60) (ty := .int) (C := RX12) (T := TX12) (N := 46) hx hb hts inG12 tyX12 tyX12_ok nmX12 hown hK hP (wR_D mu hD) hS 0 (gM_0 cs ad mu) rfl 42 (by decide) (hts _ (List.mem_cons_of_mem _ mw_5_83)) (fun _ h9 => h9) rfl (by decide +kernel) rfl rfl (Nat.le_of_ble_eq_true rfl) dX12_hadOn_35 (fun H locs hP _ hS => ?_)
      simp only [List.set_cons_succ, List.set_cons_zero] at hP
      refine wr_gen (upd (mu 0) 42 t60) hP ((hM_0_42 cs ad _ _)) (fun nu61 hn61 hP => ?_)
      have ok := tM_0_42 ok hn61
      have ez62 : y1 = nu61 2 vr.toNatClampNeg := ey1.trans (congrFun (up_k hn61 (by decide)) vr.toNatClampNeg).symm
      have kp63 : ∀ k : Nat, 2 ≤ k → k < 3 → nu61 k = mu k := fun k h1 h2 => (up_k hn61 (ne_lo (by decide) h1).symm).trans ((fun _ _ _ => rfl) k h1 h2)
      have ez64 : t60 = nu61 0 42 := up_v hn61
      refine lv_aload_n hx hb dX12_hadOn_38 rfl (lv_at hl 0 rfl) ?_
      refine lv_dup hx hb dX12_hadOn_39 rfl ?_
      refine va_get (D := (dC, dI)) (ci := 12) (v := .int (nu61 0 43)) (C := RX12) (T := TX12) (N := 46) hx hb hts inG12 hown hK hP 0 (gM_0 cs ad nu61) rfl 43 (by decide) (hts _ (List.mem_cons_of_mem _ mw_5_84)) (fun _ h9 => h9) rfl dX12_hadOn_40 ?_
      refine lv_topi (fun y65 ey65 => ?_)
      have by65 : y65.toInt = (nu61 0 43).toInt := congrArg Int32.toInt ey65
      refine lv_iconst (v := 1) hx hb dX12_hadOn_43 (by decide) ?_
      refine lv_aload_n hx hb dX12_hadOn_44 rfl (lv_at hl 0 rfl) ?_
      refine va_get (D := (dC, dI)) (ci := 12) (v := .ref (ad 16)) (C := RX12) (T := TX12) (N := 46) hx hb hts inG12 hown hK hP 0 (gM_0 cs ad nu61) rfl 26 (by decide) (hts _ (List.mem_cons_of_mem _ mw_5_67)) (fun _ h9 => h9) rfl dX12_hadOn_45 ?_
      refine lv_iload_n hx hb dX12_hadOn_48 rfl (lv_at hl 2 rfl) ?_
      refine lv_iconst (v := 1) hx hb dX12_hadOn_49 (by decide) ?_
      refine lv_isub hx hb dX12_hadOn_50 ?_
      refine lq_i 4 (by decide) ?_
      refine va_iald hx hb hK hP 16 0 (gM_16 cs ad nu61) rfl (show vp_in 4 7 from (by unfold vp_in; decide)) dX12_hadOn_51 ?_
      refine lv_topi (fun y66 ey66 => ?_)
      have by66 : y66.toInt = (nu61 16 (4 : Int32).toNatClampNeg).toInt := congrArg Int32.toInt ey66
      have gy66 : 0 ≤ y66.toInt ∧ y66.toInt ≤ 6 := by rw [ey66]; exact rM_16_s ok (4 : Int32).toNatClampNeg
      refine lv_ishl hx hb dX12_hadOn_52 ?_
      refine lv_topi (fun t67 et67 => ?_)
      refine lv_ior hx hb dX12_hadOn_53 ?_
      refine lv_topi (fun t68 et68 => ?_)
      refine va_put (D := (dC, dI)) (ci := 12) (v := .int t68) (ty := .int) (C := RX12) (T := TX12) (N := 46) hx hb hts inG12 tyX12 tyX12_ok nmX12 hown hK hP (wR_D nu61 hD) hS 0 (gM_0 cs ad nu61) rfl 43 (by decide) (hts _ (List.mem_cons_of_mem _ mw_5_84)) (fun _ h9 => h9) rfl (by decide +kernel) rfl rfl (Nat.le_of_ble_eq_true rfl) dX12_hadOn_54 (fun H locs hP _ hS => ?_)
      simp only [List.set_cons_succ, List.set_cons_zero] at hP
      refine wr_gen (upd (nu61 0) 43 t68) hP ((hM_0_43 cs ad _ _)) (fun nu69 hn69 hP => ?_)
      have ok := tM_0_43 ok hn69
      have ez70 : y1 = nu69 2 vr.toNatClampNeg := ez62.trans (congrFun (up_k hn69 (by decide)) vr.toNatClampNeg).symm
      have ez71 : t60 = nu69 0 42 := ez64.trans (up_f hn69 (by decide)).symm
      have ez72 : y66 = nu69 16 (4 : Int32).toNatClampNeg := ey66.trans (congrFun (up_k hn69 (by decide)) (4 : Int32).toNatClampNeg).symm
      have kp73 : ∀ k : Nat, 2 ≤ k → k < 3 → nu69 k = mu k := fun k h1 h2 => (up_k hn69 (ne_lo (by decide) h1).symm).trans (kp63 k h1 h2)
      have ez74 : t68 = nu69 0 43 := up_v hn69
      refine lv_aload_n hx hb dX12_hadOn_57 rfl (lv_at hl 0 rfl) ?_
      refine lv_dup hx hb dX12_hadOn_58 rfl ?_
      refine va_get (D := (dC, dI)) (ci := 12) (v := .int (nu69 0 44)) (C := RX12) (T := TX12) (N := 46) hx hb hts inG12 hown hK hP 0 (gM_0 cs ad nu69) rfl 44 (by decide) (hts _ (List.mem_cons_of_mem _ mw_5_85)) (fun _ h9 => h9) rfl dX12_hadOn_59 ?_
      refine lv_topi (fun y75 ey75 => ?_)
      have by75 : y75.toInt = (nu69 0 44).toInt := congrArg Int32.toInt ey75
      refine lv_iload_n hx hb dX12_hadOn_62 rfl (lv_at hl 3 rfl) ?_
      refine lv_iand hx hb dX12_hadOn_63 ?_
      refine lv_topi (fun t76 et76 => ?_)
      refine va_put (D := (dC, dI)) (ci := 12) (v := .int t76) (ty := .int) (C := RX12) (T := TX12) (N := 46) hx hb hts inG12 tyX12 tyX12_ok nmX12 hown hK hP (wR_D nu69 hD) hS 0 (gM_0 cs ad nu69) rfl 44 (by decide) (hts _ (List.mem_cons_of_mem _ mw_5_85)) (fun _ h9 => h9) rfl (by decide +kernel) rfl rfl (Nat.le_of_ble_eq_true rfl) dX12_hadOn_64 (fun H locs hP _ hS => ?_)
      simp only [List.set_cons_succ, List.set_cons_zero] at hP
      refine wr_gen (upd (nu69 0) 44 t76) hP ((hM_0_44 cs ad _ _)) (fun nu77 hn77 hP => ?_)
      have ok := tM_0_44 ok hn77
      have ez78 : y1 = nu77 2 vr.toNatClampNeg := ez70.trans (congrFun (up_k hn77 (by decide)) vr.toNatClampNeg).symm
      have ez79 : t60 = nu77 0 42 := ez71.trans (up_f hn77 (by decide)).symm
      have ez80 : y66 = nu77 16 (4 : Int32).toNatClampNeg := ez72.trans (congrFun (up_k hn77 (by decide)) (4 : Int32).toNatClampNeg).symm
      have ez81 : t68 = nu77 0 43 := ez74.trans (up_f hn77 (by decide)).symm
      have kp82 : ∀ k : Nat, 2 ≤ k → k < 3 → nu77 k = mu k := fun k h1 h2 => (up_k hn77 (ne_lo (by decide) h1).symm).trans (kp73 k h1 h2)
      have ez83 : t76 = nu77 0 44 := up_v hn77
      exact W.vret hx hb hr (fun t ht hW => ⟨⟨nu77, rfl, ⟨ok, trivial, kp82⟩, by first | (subst ht; exact hP) | (rw [ht]; exact hP) | (show va_P (dC, dI) vwCl (wR 21 ad (EM cs ad) nu77) t.heap; rw [ht]; exact hP)⟩, hS.F ht⟩) hS.2.2 dX12_hadOn_67
    · have c_59 : y58.toInt = 0 := il_eq c_59
      refine lv_aload_n hx hb dX12_hadOn_19 rfl (lv_at hl 0 rfl) ?_
      refine lv_aload_n hx hb dX12_hadOn_20 rfl (lv_at hl 0 rfl) ?_
      refine va_get (D := (dC, dI)) (ci := 12) (v := .ref (ad 17)) (C := RX12) (T := TX12) (N := 46) hx hb hts inG12 hown hK hP 0 (gM_0 cs ad mu) rfl 27 (by decide) (hts _ (List.mem_cons_of_mem _ mw_5_68)) (fun _ h9 => h9) rfl dX12_hadOn_21 ?_
      refine lv_iload_n hx hb dX12_hadOn_24 rfl (lv_at hl 2 rfl) ?_
      have hFc := fr_all (wR_D mu hD) hS hA
      refine va_callv (va_runV (As := [.ref (ad 17), .int 5]) (rest := []) ⟨hx, hb, hml, hown, hts⟩ (sm_copyRoute17 l dC dI cs ad mu ok s.heap hP ((wR_D mu hD).weaken (fun _ _ _ _ => trivial)) 5 (by have h51 : (5 : Int32).toInt = 5 := rfl; omega)) (cwV 2 hts (wU_V mw_6_191 mw_6_188 mw_6_190 mw_0_57 mw_1_13) rfl rfl rfl (by decide +kernel) ⟨Nat.le_of_ble_eq_true rfl, Nat.le_of_ble_eq_true rfl⟩) ⟨sz_c, va_recv hK hP (ci := 12) (q0 := 0) rfl (gM_0 cs ad mu), sz_m hK hz⟩ rfl rfl hl.1 rfl (lv_room (Nat.le_of_ble_eq_true rfl)) dX12_hadOn_25 ⟨Nat.zero_le _, Nat.zero_le _⟩) hS (fun q _ h => hFc q h) hFc (fun xi84 t H84 locs ht hvm hw84 hB hz1 hk1 hS => ?_)
      have hP : va_P (dC, dI) vwCl (wR 21 ad (EM cs ad) xi84) H84 := by rw [← ht]; exact hB
      obtain ⟨ok, hw84, hkp84_0⟩ := hw84
      have ez85 : y1 = xi84 2 vr.toNatClampNeg := ey1.trans (congrFun (hkp84_0 2 (by decide) (by decide)) vr.toNatClampNeg).symm
      have ez86 : y58 = xi84 0 42 := ey58.trans (congrFun (hkp84_0 0 (by decide) (by decide)) 42).symm
      have kp87 : ∀ k : Nat, 2 ≤ k → k < 3 → xi84 k = mu k := fun k h1 h2 => (hkp84_0 k (Nat.le_trans (by decide) h1) (Nat.lt_of_lt_of_le h2 (by decide))).trans ((fun _ _ _ => rfl) k h1 h2)
      refine lv_aload_n hx hb dX12_hadOn_28 rfl (lv_at hl 0 rfl) ?_
      refine lv_dup hx hb dX12_hadOn_29 rfl ?_
      refine va_get (D := (dC, dI)) (ci := 12) (v := .int (xi84 0 42)) (C := RX12) (T := TX12) (N := 46) hx hb hts inG12 hown hK hP 0 (gM_0 cs ad xi84) rfl 42 (by decide) (hts _ (List.mem_cons_of_mem _ mw_5_83)) (fun _ h9 => h9) rfl dX12_hadOn_30 ?_
      refine lq_i y58 ez86.symm ?_
      refine lv_iconst (v := 1) hx hb dX12_hadOn_33 (by decide) ?_
      refine lv_iadd hx hb dX12_hadOn_34 ?_
      refine lv_topi (fun t88 et88 => ?_)
      have at88 : t88.toInt = y58.toInt + 1 := by rw [et88]; exact tI_add (rfl : y58.toInt = _) (rfl : (1 : Int32).toInt = 1) (by omega) (by omega)
      refine va_put (D := (dC, dI)) (ci := 12) (v := .int t88) (ty := .int) (C := RX12) (T := TX12) (N := 46) hx hb hts inG12 tyX12 tyX12_ok nmX12 hown hK hP (wR_D xi84 hD) hS 0 (gM_0 cs ad xi84) rfl 42 (by decide) (hts _ (List.mem_cons_of_mem _ mw_5_83)) (fun _ h9 => h9) rfl (by decide +kernel) rfl rfl (Nat.le_of_ble_eq_true rfl) dX12_hadOn_35 (fun H locs hP _ hS => ?_)
      simp only [List.set_cons_succ, List.set_cons_zero] at hP
      refine wr_gen (upd (xi84 0) 42 t88) hP ((hM_0_42 cs ad _ _)) (fun nu89 hn89 hP => ?_)
      have ok := tM_0_42 ok hn89
      have ez90 : y1 = nu89 2 vr.toNatClampNeg := ez85.trans (congrFun (up_k hn89 (by decide)) vr.toNatClampNeg).symm
      have kp91 : ∀ k : Nat, 2 ≤ k → k < 3 → nu89 k = mu k := fun k h1 h2 => (up_k hn89 (ne_lo (by decide) h1).symm).trans (kp87 k h1 h2)
      have ez92 : t88 = nu89 0 42 := up_v hn89
      refine lv_aload_n hx hb dX12_hadOn_38 rfl (lv_at hl 0 rfl) ?_
      refine lv_dup hx hb dX12_hadOn_39 rfl ?_
      refine va_get (D := (dC, dI)) (ci := 12) (v := .int (nu89 0 43)) (C := RX12) (T := TX12) (N := 46) hx hb hts inG12 hown hK hP 0 (gM_0 cs ad nu89) rfl 43 (by decide) (hts _ (List.mem_cons_of_mem _ mw_5_84)) (fun _ h9 => h9) rfl dX12_hadOn_40 ?_
      refine lv_topi (fun y93 ey93 => ?_)
      have by93 : y93.toInt = (nu89 0 43).toInt := congrArg Int32.toInt ey93
      refine lv_iconst (v := 1) hx hb dX12_hadOn_43 (by decide) ?_
      refine lv_aload_n hx hb dX12_hadOn_44 rfl (lv_at hl 0 rfl) ?_
      refine va_get (D := (dC, dI)) (ci := 12) (v := .ref (ad 16)) (C := RX12) (T := TX12) (N := 46) hx hb hts inG12 hown hK hP 0 (gM_0 cs ad nu89) rfl 26 (by decide) (hts _ (List.mem_cons_of_mem _ mw_5_67)) (fun _ h9 => h9) rfl dX12_hadOn_45 ?_
      refine lv_iload_n hx hb dX12_hadOn_48 rfl (lv_at hl 2 rfl) ?_
      refine lv_iconst (v := 1) hx hb dX12_hadOn_49 (by decide) ?_
      refine lv_isub hx hb dX12_hadOn_50 ?_
      refine lq_i 4 (by decide) ?_
      refine va_iald hx hb hK hP 16 0 (gM_16 cs ad nu89) rfl (show vp_in 4 7 from (by unfold vp_in; decide)) dX12_hadOn_51 ?_
      refine lv_topi (fun y94 ey94 => ?_)
      have by94 : y94.toInt = (nu89 16 (4 : Int32).toNatClampNeg).toInt := congrArg Int32.toInt ey94
      have gy94 : 0 ≤ y94.toInt ∧ y94.toInt ≤ 6 := by rw [ey94]; exact rM_16_s ok (4 : Int32).toNatClampNeg
      refine lv_ishl hx hb dX12_hadOn_52 ?_
      refine lv_topi (fun t95 et95 => ?_)
      refine lv_ior hx hb dX12_hadOn_53 ?_
      refine lv_topi (fun t96 et96 => ?_)
      refine va_put (D := (dC, dI)) (ci := 12) (v := .int t96) (ty := .int) (C := RX12) (T := TX12) (N := 46) hx hb hts inG12 tyX12 tyX12_ok nmX12 hown hK hP (wR_D nu89 hD) hS 0 (gM_0 cs ad nu89) rfl 43 (by decide) (hts _ (List.mem_cons_of_mem _ mw_5_84)) (fun _ h9 => h9) rfl (by decide +kernel) rfl rfl (Nat.le_of_ble_eq_true rfl) dX12_hadOn_54 (fun H locs hP _ hS => ?_)
      simp only [List.set_cons_succ, List.set_cons_zero] at hP
      refine wr_gen (upd (nu89 0) 43 t96) hP ((hM_0_43 cs ad _ _)) (fun nu97 hn97 hP => ?_)
      have ok := tM_0_43 ok hn97
      have ez98 : y1 = nu97 2 vr.toNatClampNeg := ez90.trans (congrFun (up_k hn97 (by decide)) vr.toNatClampNeg).symm
      have ez99 : t88 = nu97 0 42 := ez92.trans (up_f hn97 (by decide)).symm
      have ez100 : y94 = nu97 16 (4 : Int32).toNatClampNeg := ey94.trans (congrFun (up_k hn97 (by decide)) (4 : Int32).toNatClampNeg).symm
      have kp101 : ∀ k : Nat, 2 ≤ k → k < 3 → nu97 k = mu k := fun k h1 h2 => (up_k hn97 (ne_lo (by decide) h1).symm).trans (kp91 k h1 h2)
      have ez102 : t96 = nu97 0 43 := up_v hn97
      refine lv_aload_n hx hb dX12_hadOn_57 rfl (lv_at hl 0 rfl) ?_
      refine lv_dup hx hb dX12_hadOn_58 rfl ?_
      refine va_get (D := (dC, dI)) (ci := 12) (v := .int (nu97 0 44)) (C := RX12) (T := TX12) (N := 46) hx hb hts inG12 hown hK hP 0 (gM_0 cs ad nu97) rfl 44 (by decide) (hts _ (List.mem_cons_of_mem _ mw_5_85)) (fun _ h9 => h9) rfl dX12_hadOn_59 ?_
      refine lv_topi (fun y103 ey103 => ?_)
      have by103 : y103.toInt = (nu97 0 44).toInt := congrArg Int32.toInt ey103
      refine lv_iload_n hx hb dX12_hadOn_62 rfl (lv_at hl 3 rfl) ?_
      refine lv_iand hx hb dX12_hadOn_63 ?_
      refine lv_topi (fun t104 et104 => ?_)
      refine va_put (D := (dC, dI)) (ci := 12) (v := .int t104) (ty := .int) (C := RX12) (T := TX12) (N := 46) hx hb hts inG12 tyX12 tyX12_ok nmX12 hown hK hP (wR_D nu97 hD) hS 0 (gM_0 cs ad nu97) rfl 44 (by decide) (hts _ (List.mem_cons_of_mem _ mw_5_85)) (fun _ h9 => h9) rfl (by decide +kernel) rfl rfl (Nat.le_of_ble_eq_true rfl) dX12_hadOn_64 (fun H locs hP _ hS => ?_)
      simp only [List.set_cons_succ, List.set_cons_zero] at hP
      refine wr_gen (upd (nu97 0) 44 t104) hP ((hM_0_44 cs ad _ _)) (fun nu105 hn105 hP => ?_)
      have ok := tM_0_44 ok hn105
      have ez106 : y1 = nu105 2 vr.toNatClampNeg := ez98.trans (congrFun (up_k hn105 (by decide)) vr.toNatClampNeg).symm
      have ez107 : t88 = nu105 0 42 := ez99.trans (up_f hn105 (by decide)).symm
      have ez108 : y94 = nu105 16 (4 : Int32).toNatClampNeg := ez100.trans (congrFun (up_k hn105 (by decide)) (4 : Int32).toNatClampNeg).symm
      have ez109 : t96 = nu105 0 43 := ez102.trans (up_f hn105 (by decide)).symm
      have kp110 : ∀ k : Nat, 2 ≤ k → k < 3 → nu105 k = mu k := fun k h1 h2 => (up_k hn105 (ne_lo (by decide) h1).symm).trans (kp101 k h1 h2)
      have ez111 : t104 = nu105 0 44 := up_v hn105
      exact W.vret hx hb hr (fun t ht hW => ⟨⟨nu105, rfl, ⟨ok, trivial, kp110⟩, by first | (subst ht; exact hP) | (rw [ht]; exact hP) | (show va_P (dC, dI) vwCl (wR 21 ad (EM cs ad) nu105) t.heap; rw [ht]; exact hP)⟩, hS.F ht⟩) hS.2.2 dX12_hadOn_67
set_option maxHeartbeats 4000000 in
set_option maxRecDepth 100000 in
/-- sm_hadOn4 -/
theorem sm_hadOn4 (l : Launch) (dC : Nat → ClassId) (dI : Nat → Nat → Nat) (cs : Nat → ClassId) (ad : Nat → Nat) (mu : Nat → Nat → Int32) (ok : okR loM hiM mu) (H : Heap) (hP : va_P (dC, dI) vwCl (wR 21 ad (EM cs ad) mu) H) (hD0 : va_D (fun _ => True) (wR 21 ad (EM cs ad) mu)) (vr : Int32) (vh : Int32) (vp : Int32) (hin0 : 0 ≤ vr.toInt ∧ vr.toInt ≤ 5) (hin1 : 4 ≤ (mu 2 vr.toNatClampNeg).toInt + 1 ∧ (mu 2 vr.toNatClampNeg).toInt ≤ 6) : Met l yX12_hadOn (wU yX12_hadOn cX12_hadOn 10 none) ({ frames := 4, cells := 0, slots := 0, locals := 110 }) (va_Pc [.ref (ad 0), .int vr, .int 4, .int vh, .int vp] (sz_P (dC, dI) vwCl (tyM cs) H)) (va_Qv (fun (xi : Nat → Nat → Int32) => okR loM hiM xi ∧ (True) ∧ (∀ k : Nat, 2 ≤ k → k < 3 → xi k = mu k)) (fun xi t => va_P (dC, dI) vwCl (wR 21 ad (EM cs ad) xi) t.heap) (va_A (wR 21 ad (EM cs ad) mu) H.size)) 0 0 (va_A (wR 21 ad (EM cs ad) mu) H.size) := by
  refine Met.ofW (cc := cX12_hadOn) (maxL := 10) (ret := none) (by decide) rfl ?_
  intro p e s m args below meth c s₁ B hml hv
  obtain ⟨rfl, hh, hK, hz⟩ := hv
  have hx := B.exec
  have hb := B.bytes
  have hr := B.returns
  have hts := atoms_spec (ws := (wU yX12_hadOn cX12_hadOn 10 none)) B.pre
  have hown : s.vm.findClass RX12 = some m.cls := findClass_of_methodNamed B.named
  have hlocks := B.notSynchronized
  subst hh
  have hD := hD0.self (sz := s.heap.size)
  have hA : ∀ q : Nat, s.heap.size ≤ q → (va_A (wR 21 ad (EM cs ad) mu) s.heap.size) q := fun q h => Or.inr h
  have hS : va_S (va_A (wR 21 ad (EM cs ad) mu) s.heap.size) s.heap s.heap [] := va_S.rf
  have hl := lv_entry ([.ref (ad 0), .int vr, .int 4, .int vh, .int vp]) (n := 10) (Nat.le_of_ble_eq_true rfl)
  rw [lg_entry_eq]
  generalize (lg_sl ([.ref (ad 0), .int vr, .int 4, .int vh, .int vp]) ++ List.replicate (10 - (lg_sl ([.ref (ad 0), .int vr, .int 4, .int vh, .int vp])).length) Slot.unset).toArray = ls at hl ⊢
  have hl : lv_has ls 10 [(0, .ref (ad 0)), (1, .int vr), (2, .int 4), (3, .int vh), (4, .int vp)] := hl
  refine lv_iload_n hx hb dX12_hadOn_0 rfl (lv_at hl 2 rfl) ?_
  refine lv_aload_n hx hb dX12_hadOn_1 rfl (lv_at hl 0 rfl) ?_
  refine va_get (D := (dC, dI)) (ci := 12) (v := .ref (ad 2)) (C := RX12) (T := TX12) (N := 46) hx hb hts inG12 hown hK hP 0 (gM_0 cs ad mu) rfl 3 (by decide) (hts _ (List.mem_cons_of_mem _ mw_5_44)) (fun _ h9 => h9) rfl dX12_hadOn_2 ?_
  refine lv_iload_n hx hb dX12_hadOn_5 rfl (lv_at hl 1 rfl) ?_
  refine va_iald hx hb hK hP 2 0 (gM_2 cs ad mu) rfl (show vp_in vr 6 from vi_of (by omega) (by omega)) dX12_hadOn_6 ?_
  refine lv_topi (fun y1 ey1 => ?_)
  have by1 : y1.toInt = (mu 2 vr.toNatClampNeg).toInt := congrArg Int32.toInt ey1
  have gy1 : -9 ≤ y1.toInt ∧ y1.toInt ≤ 40 := by rw [ey1]; exact rM_2_s ok vr.toNatClampNeg
  refine lv_iconst (v := 1) hx hb dX12_hadOn_7 (by decide) ?_
  refine lv_iadd hx hb dX12_hadOn_8 ?_
  refine lv_topi (fun t2 et2 => ?_)
  have at2 : t2.toInt = y1.toInt + 1 := by rw [et2]; exact tI_add (rfl : y1.toInt = _) (rfl : (1 : Int32).toInt = 1) (by omega) (by omega)
  refine lv_icmp_ne (tgt := 68) hx hb dX12_hadOn_9 (by decide) (fun c_3 => ?_) (fun c_3 => ?_)
  · have c_3 : ¬ 4 = t2.toInt := il_ne c_3
    refine lv_aload_n hx hb dX12_hadOn_68 rfl (lv_at hl 0 rfl) ?_
    refine va_get (D := (dC, dI)) (ci := 12) (v := .ref (ad 16)) (C := RX12) (T := TX12) (N := 46) hx hb hts inG12 hown hK hP 0 (gM_0 cs ad mu) rfl 26 (by decide) (hts _ (List.mem_cons_of_mem _ mw_5_67)) (fun _ h9 => h9) rfl dX12_hadOn_69 ?_
    refine lv_iload_n hx hb dX12_hadOn_72 rfl (lv_at hl 2 rfl) ?_
    refine lv_iconst (v := 1) hx hb dX12_hadOn_73 (by decide) ?_
    refine lv_isub hx hb dX12_hadOn_74 ?_
    refine lq_i 3 (by decide) ?_
    refine va_iald hx hb hK hP 16 0 (gM_16 cs ad mu) rfl (show vp_in 3 7 from (by unfold vp_in; decide)) dX12_hadOn_75 ?_
    refine lv_topi (fun y4 ey4 => ?_)
    have by4 : y4.toInt = (mu 16 (3 : Int32).toNatClampNeg).toInt := congrArg Int32.toInt ey4
    have gy4 : 0 ≤ y4.toInt ∧ y4.toInt ≤ 6 := by rw [ey4]; exact rM_16_s ok (3 : Int32).toNatClampNeg
    refine lv_istore (lv' := [(5, .int y4), (0, .ref (ad 0)), (1, .int vr), (2, .int 4), (3, .int vh), (4, .int vp)]) hx hb dX12_hadOn_76 hl (by decide) rfl (fun ls hl => ?_)
    refine lv_aload_n hx hb dX12_hadOn_78 rfl (lv_at hl 1 rfl) ?_
    refine lv_iload hx hb dX12_hadOn_79 (lv_at hl 0 rfl) ?_
    refine lv_iload hx hb dX12_hadOn_81 (lv_at hl 5 rfl) ?_
    refine cr_i (va_runV (As := [.int y4, .int vp]) (rest := []) ⟨hx, hb, hml, hown, hts⟩ (sm_asksOf l dC dI cs ad mu ok s.heap hP y4 vp (by omega)) (cwV 2 hts (wU_V mw_6_74 mw_6_71 mw_6_73 mw_0_42 mw_1_13) rfl rfl rfl (by decide +kernel) ⟨Nat.le_of_ble_eq_true rfl, Nat.le_of_ble_eq_true rfl⟩) ⟨sz_c, va_recv hK hP (ci := 12) (q0 := 0) rfl (gM_0 cs ad mu), sz_m hK hz⟩ rfl rfl hl.1 rfl (lv_room (Nat.le_of_ble_eq_true rfl)) dX12_hadOn_83 ⟨Nat.zero_le _, Nat.zero_le _⟩) hS (fun r5 hw5 locs hS => ?_)
    refine lv_istore (lv' := [(6, .int r5), (5, .int y4), (0, .ref (ad 0)), (1, .int vr), (2, .int 4), (3, .int vh), (4, .int vp)]) hx hb dX12_hadOn_86 hl (by decide) rfl (fun ls hl => ?_)
    refine lv_iload hx hb dX12_hadOn_88 (lv_at hl 0 rfl) ?_
    refine lv_aload_n hx hb dX12_hadOn_90 rfl (lv_at hl 2 rfl) ?_
    refine lv_iload_n hx hb dX12_hadOn_91 rfl (lv_at hl 3 rfl) ?_
    refine lv_iload_n hx hb dX12_hadOn_92 rfl (lv_at hl 4 rfl) ?_
    refine lv_iconst (v := 1) hx hb dX12_hadOn_93 (by decide) ?_
    refine lv_isub hx hb dX12_hadOn_94 ?_
    refine lq_i 3 (by decide) ?_
    refine cr_i (va_runV (As := [.int vr, .int 3]) (rest := [.int r5]) ⟨hx, hb, hml, hown, hts⟩ (sm_rowAt l dC dI cs ad mu ok s.heap hP vr 3 (by have h51 : (3 : Int32).toInt = 3 := rfl; omega)) (cwV 2 hts (wU_V mw_5_209 mw_5_206 mw_5_208 mw_0_29 mw_1_13) rfl rfl rfl (by decide +kernel) ⟨Nat.le_of_ble_eq_true rfl, Nat.le_of_ble_eq_true rfl⟩) ⟨sz_c, va_recv hK hP (ci := 12) (q0 := 0) rfl (gM_0 cs ad mu), sz_m hK hz⟩ rfl rfl hl.1 rfl (lv_room (Nat.le_of_ble_eq_true rfl)) dX12_hadOn_95 ⟨Nat.zero_le _, Nat.zero_le _⟩) hS (fun r6 hw6 locs hS => ?_)
    refine lv_icmp_ne (tgt := 121) hx hb dX12_hadOn_98 (by decide) (fun c_7 => ?_) (fun c_7 => ?_)
    · have c_7 : ¬ r5.toInt = r6.toInt := il_ne c_7
      refine lv_iconst (v := 0) hx hb dX12_hadOn_121 (by decide) ?_
      refine lv_istore (lv' := [(7, .int 0), (6, .int r5), (5, .int y4), (0, .ref (ad 0)), (1, .int vr), (2, .int 4), (3, .int vh), (4, .int vp)]) hx hb dX12_hadOn_122 hl (by decide) rfl (fun ls hl => ?_)
      refine lv_iload hx hb dX12_hadOn_124 (lv_at hl 0 rfl) ?_
      refine lv_if_eq (tgt := 142) hx hb dX12_hadOn_126 (by decide) (fun _ => ?_) (fun c => absurd (by decide) c)
      refine lv_iconst (v := 0) hx hb dX12_hadOn_142 (by decide) ?_
      refine lv_istore (lv' := [(8, .int 0), (7, .int 0), (6, .int r5), (5, .int y4), (0, .ref (ad 0)), (1, .int vr), (2, .int 4), (3, .int vh), (4, .int vp)]) hx hb dX12_hadOn_143 hl (by decide) rfl (fun ls hl => ?_)
      refine lv_iconst (v := 0) hx hb dX12_hadOn_145 (by decide) ?_
      refine lv_istore (lv' := [(9, .int 0), (8, .int 0), (7, .int 0), (6, .int r5), (5, .int y4), (0, .ref (ad 0)), (1, .int vr), (2, .int 4), (3, .int vh), (4, .int vp)]) hx hb dX12_hadOn_146 hl (by decide) rfl (fun ls hl => ?_)
      have loop148 : ∀ (n148 : Nat) (v9_148 : Int32) (nu148_ : Nat → Nat → Int32) (H : Heap) (locs : List Loc) (ls : Array Slot), (7 + 1 - v9_148.toInt).toNat < n148 → (0 ≤ v9_148.toInt ∧ v9_148.toInt ≤ 7) → okR loM hiM nu148_ → va_P (dC, dI) vwCl (wR 21 ad (EM cs ad) nu148_) H → y1 = nu148_ 2 vr.toNatClampNeg → (∀ k : Nat, 2 ≤ k → k < 3 → nu148_ k = mu k) → va_S (va_A (wR 21 ad (EM cs ad) mu) s.heap.size) s.heap H locs → lv_has ls 10 [(9, .int v9_148), (8, .int 0), (7, .int 0), (6, .int r5), (5, .int y4), (0, .ref (ad 0)), (1, .int vr), (2, .int 4), (3, .int vh), (4, .int vp)] → W p l e (headSpec (wU yX12_hadOn cX12_hadOn 10 none) ({ frames := 4, cells := 0, slots := 0, locals := 110 })).room s m ([.ref (ad 0), .int vr, .int 4, .int vh, .int vp] : List Value).toArray below meth c H locs 0 0 (MQ below (va_Qv (fun (xi : Nat → Nat → Int32) => okR loM hiM xi ∧ (True) ∧ (∀ k : Nat, 2 ≤ k → k < 3 → xi k = mu k)) (fun xi t => va_P (dC, dI) vwCl (wR 21 ad (EM cs ad) xi) t.heap) (va_A (wR 21 ad (EM cs ad) mu) s.heap.size)) ([.ref (ad 0), .int vr, .int 4, .int vh, .int vp] : List Value).toArray s 0 0 (va_A (wR 21 ad (EM cs ad) mu) s.heap.size)) (F0 m 148 ls []) := by
        intro n148
        induction n148 with
        | zero => intro v9_148 nu148_ H locs ls hm; exact absurd hm (Nat.not_lt_zero _)
        | succ n148 ih148 =>
          intro v9_148 nu148_ H locs ls hm h_v9_148 ok hP ek148_0 kq148_0 hS hl
          refine lv_iload hx hb dX12_hadOn_148 (lv_at hl 0 rfl) ?_
          refine lv_aload_n hx hb dX12_hadOn_150 rfl (lv_at hl 5 rfl) ?_
          refine va_get (D := (dC, dI)) (ci := 12) (v := .int (nu148_ 0 8)) (C := RX12) (T := TX12) (N := 46) hx hb hts inG12 hown hK hP 0 (gM_0 cs ad nu148_) rfl 8 (by decide) (hts _ (List.mem_cons_of_mem _ mw_5_49)) (fun _ h9 => h9) rfl dX12_hadOn_151 ?_
          refine lv_topi (fun y8 ey8 => ?_)
          have by8 : y8.toInt = (nu148_ 0 8).toInt := congrArg Int32.toInt ey8
          have gy8 : 0 ≤ y8.toInt ∧ y8.toInt ≤ 7 := by rw [ey8]; exact rM_0_8 ok
          refine lv_icmp_ge (tgt := 197) hx hb dX12_hadOn_154 (by decide) (fun c_9 => ?_) (fun c_9 => ?_)
          · have c_9 : y8.toInt ≤ v9_148.toInt := il_le c_9
            exact W.vret hx hb hr (fun t ht hW => ⟨⟨nu148_, rfl, ⟨ok, trivial, kq148_0⟩, by first | (subst ht; exact hP) | (rw [ht]; exact hP) | (show va_P (dC, dI) vwCl (wR 21 ad (EM cs ad) nu148_) t.heap; rw [ht]; exact hP)⟩, hS.F ht⟩) hS.2.2 dX12_hadOn_197
          · have c_9 : v9_148.toInt < y8.toInt := il_nle c_9
            refine lv_iload hx hb dX12_hadOn_157 (lv_at hl 1 rfl) ?_
            refine lv_iload hx hb dX12_hadOn_159 (lv_at hl 0 rfl) ?_
            refine cr_i (va_runS (As := [.int 0, .int v9_148]) (rest := []) ⟨hx, hb, hml, hown, hts⟩ (sm_has l dC dI (tyM cs) H 0 v9_148) (va_cwS 2 hts (wU_S mw_6_59 mw_6_57 mw_6_58 mw_1_13) rfl rfl rfl (by decide +kernel) ⟨Nat.le_of_ble_eq_true rfl, Nat.le_of_ble_eq_true rfl⟩) ⟨sz_c, sz_m hK hz⟩ rfl rfl hl.1 rfl (lv_room (Nat.le_of_ble_eq_true rfl)) dX12_hadOn_161 ⟨Nat.zero_le _, Nat.zero_le _⟩) hS (fun r10 hw10 locs hS => ?_)
            rcases hw10 with ⟨rfl, f10⟩ | ⟨rfl, f10⟩
            · have f10 : rb (0 : Int32) v9_148 = 1 := f10
              refine lv_if_eq (tgt := 191) hx hb dX12_hadOn_164 (by decide) (fun c => absurd c (by decide)) (fun _ => ?_)
              refine lv_aload_n hx hb dX12_hadOn_167 rfl (lv_at hl 5 rfl) ?_
              refine va_get (D := (dC, dI)) (ci := 12) (v := .ref (ad 16)) (C := RX12) (T := TX12) (N := 46) hx hb hts inG12 hown hK hP 0 (gM_0 cs ad nu148_) rfl 26 (by decide) (hts _ (List.mem_cons_of_mem _ mw_5_67)) (fun _ h9 => h9) rfl dX12_hadOn_168 ?_
              refine lv_iload_n hx hb dX12_hadOn_171 rfl (lv_at hl 7 rfl) ?_
              refine lv_iload hx hb dX12_hadOn_172 (lv_at hl 0 rfl) ?_
              refine va_iast hx hb hK hP (wR_D nu148_ hD) hS 16 0 (gM_16 cs ad nu148_) rfl (show vp_in 4 7 from (by unfold vp_in; decide)) dX12_hadOn_174 (fun H locs hP _ hS => ?_)
              refine wr_gen (upd (nu148_ 16) (4 : Int32).toNatClampNeg v9_148) hP (rfl) (fun nu11 hn11 hP => ?_)
              have ok := tM_16_s ok (4 : Int32).toNatClampNeg hn11 (by exact ⟨by omega, by omega⟩)
              have ez12 : y1 = nu11 2 vr.toNatClampNeg := ek148_0.trans (congrFun (up_k hn11 (by decide)) vr.toNatClampNeg).symm
              have ez13 : y8 = nu11 0 8 := ey8.trans (congrFun (up_k hn11 (by decide)) 8).symm
              have kp14 : ∀ k : Nat, 2 ≤ k → k < 3 → nu11 k = mu k := fun k h1 h2 => (up_k hn11 (ne_hi (by decide) h2).symm).trans (kq148_0 k h1 h2)
              refine lv_aload_n hx hb dX12_hadOn_175 rfl (lv_at hl 5 rfl) ?_
              refine lv_iload_n hx hb dX12_hadOn_176 rfl (lv_at hl 6 rfl) ?_
              refine lv_iload_n hx hb dX12_hadOn_177 rfl (lv_at hl 7 rfl) ?_
              refine lv_iconst (v := 1) hx hb dX12_hadOn_178 (by decide) ?_
              refine lv_iadd hx hb dX12_hadOn_179 ?_
              refine lq_i 5 (by decide) ?_
              refine lv_iload_n hx hb dX12_hadOn_180 rfl (lv_at hl 8 rfl) ?_
              refine lv_iconst (v := 1) hx hb dX12_hadOn_181 (by decide) ?_
              refine lv_iload hx hb dX12_hadOn_182 (lv_at hl 0 rfl) ?_
              refine lv_ishl hx hb dX12_hadOn_184 ?_
              refine lv_topi (fun t15 et15 => ?_)
              refine lv_ior hx hb dX12_hadOn_185 ?_
              refine lv_topi (fun t16 et16 => ?_)
              refine lv_iload hx hb dX12_hadOn_186 (lv_at hl 3 rfl) ?_
              have hFc := fr_all (wR_D nu11 hD) hS hA
              refine va_callv (va_runV (As := [.int vr, .int 5, .int t16, .int r5]) (rest := []) ⟨hx, hb, hml, hown, hts⟩ (sm_hadOn5 l dC dI cs ad nu11 ok H hP ((wR_D nu11 hD).weaken (fun _ _ _ _ => trivial)) vr t16 r5 (by have h51 : (5 : Int32).toInt = 5 := rfl; omega) (by have h51 : (5 : Int32).toInt = 5 := rfl; have hb17 := congrArg Int32.toInt ez12; omega)) (cwV 4 hts (wU_V mw_7_24 mw_7_21 mw_7_23 mw_0_62 mw_1_13) rfl rfl rfl (by decide +kernel) ⟨Nat.le_of_ble_eq_true rfl, Nat.le_of_ble_eq_true rfl⟩) ⟨sz_c, va_recv hK hP (ci := 12) (q0 := 0) rfl (gM_0 cs ad nu11), sz_m hK hz⟩ rfl rfl hl.1 rfl (lv_room (Nat.le_of_ble_eq_true rfl)) dX12_hadOn_188 ⟨Nat.zero_le _, Nat.zero_le _⟩) hS (fun q _ h => hFc q h) hFc (fun xi18 t H18 locs ht hvm hw18 hB hz1 hk1 hS => ?_)
              have hP : va_P (dC, dI) vwCl (wR 21 ad (EM cs ad) xi18) H18 := by rw [← ht]; exact hB
              obtain ⟨ok, hw18, hkp18_0⟩ := hw18
              have ez19 : y1 = xi18 2 vr.toNatClampNeg := ez12.trans (congrFun (hkp18_0 2 (by decide) (by decide)) vr.toNatClampNeg).symm
              have kp20 : ∀ k : Nat, 2 ≤ k → k < 3 → xi18 k = mu k := fun k h1 h2 => (hkp18_0 k (Nat.le_trans (by decide) h1) (Nat.lt_of_lt_of_le h2 (by decide))).trans (kp14 k h1 h2)
              refine lv_iinc (v := (v9_148 + 1)) (lv' := [(9, .int (v9_148 + 1)), (8, .int 0), (7, .int 0), (6, .int r5), (5, .int y4), (0, .ref (ad 0)), (1, .int vr), (2, .int 4), (3, .int vh), (4, .int vp)]) hx hb dX12_hadOn_191 hl (k := 0) rfl rfl (by decide) rfl (fun ls hl => ?_)
              refine loc_gen (P := fun w9 => lv_has ls 10 [(9, .int w9), (8, .int 0), (7, .int 0), (6, .int r5), (5, .int y4), (0, .ref (ad 0)), (1, .int vr), (2, .int 4), (3, .int vh), (4, .int vp)]) (v9_148 + 1) hl (fun w21 hw21 hl => ?_)
              have hl : lv_has ls 10 [(9, .int w21), (8, .int 0), (7, .int 0), (6, .int r5), (5, .int y4), (0, .ref (ad 0)), (1, .int vr), (2, .int 4), (3, .int vh), (4, .int vp)] := hl
              have aw21 : w21.toInt = v9_148.toInt + 1 := by rw [← hw21]; exact tI_add (rfl : v9_148.toInt = _) (rfl : (1 : Int32).toInt = 1) (by omega) (by omega)
              refine lv_goto (tgt := 148) hx hb dX12_hadOn_194 (by decide) ?_
              exact ih148 (w21) xi18 _ _ _ (by omega) (by exact ⟨by omega, by omega⟩)  ok hP ez19 kp20 hS (lv_sub hl [0, 1, 2, 3, 4, 5, 6, 7, 8, 9] rfl)
            · have f10 : ¬ rb (0 : Int32) v9_148 = 1 := f10
              refine lv_if_eq (tgt := 191) hx hb dX12_hadOn_164 (by decide) (fun _ => ?_) (fun c => absurd (by decide) c)
              refine lv_iinc (v := (v9_148 + 1)) (lv' := [(9, .int (v9_148 + 1)), (8, .int 0), (7, .int 0), (6, .int r5), (5, .int y4), (0, .ref (ad 0)), (1, .int vr), (2, .int 4), (3, .int vh), (4, .int vp)]) hx hb dX12_hadOn_191 hl (k := 0) rfl rfl (by decide) rfl (fun ls hl => ?_)
              refine loc_gen (P := fun w9 => lv_has ls 10 [(9, .int w9), (8, .int 0), (7, .int 0), (6, .int r5), (5, .int y4), (0, .ref (ad 0)), (1, .int vr), (2, .int 4), (3, .int vh), (4, .int vp)]) (v9_148 + 1) hl (fun w22 hw22 hl => ?_)
              have hl : lv_has ls 10 [(9, .int w22), (8, .int 0), (7, .int 0), (6, .int r5), (5, .int y4), (0, .ref (ad 0)), (1, .int vr), (2, .int 4), (3, .int vh), (4, .int vp)] := hl
              have aw22 : w22.toInt = v9_148.toInt + 1 := by rw [← hw22]; exact tI_add (rfl : v9_148.toInt = _) (rfl : (1 : Int32).toInt = 1) (by omega) (by omega)
              refine lv_goto (tgt := 148) hx hb dX12_hadOn_194 (by decide) ?_
              exact ih148 (w22) nu148_ _ _ _ (by omega) (by exact ⟨by omega, by omega⟩)  ok hP ek148_0 kq148_0 hS (lv_sub hl [0, 1, 2, 3, 4, 5, 6, 7, 8, 9] rfl)
      exact loop148 ((7 + 1 - (0 : Int32).toInt).toNat + 1) (0) mu _ _ _ (Nat.lt_succ_self _) (by have h80 : (0 : Int32).toInt = 0 := rfl; exact ⟨by omega, by omega⟩)  ok hP ey1 (fun _ _ _ => rfl) hS hl
    · have c_7 : r5.toInt = r6.toInt := il_eq c_7
      refine lv_iload_n hx hb dX12_hadOn_101 rfl (lv_at hl 4 rfl) ?_
      refine lv_iconst (v := 1) hx hb dX12_hadOn_102 (by decide) ?_
      refine lv_icmp_eq (tgt := 117) hx hb dX12_hadOn_103 (by decide) (fun c => absurd c (by decide)) (fun _ => ?_)
      refine lv_aload_n hx hb dX12_hadOn_106 rfl (lv_at hl 2 rfl) ?_
      refine va_get (D := (dC, dI)) (ci := 12) (v := .ref (ad 7)) (C := RX12) (T := TX12) (N := 46) hx hb hts inG12 hown hK hP 0 (gM_0 cs ad mu) rfl 9 (by decide) (hts _ (List.mem_cons_of_mem _ mw_5_50)) (fun _ h9 => h9) rfl dX12_hadOn_107 ?_
      refine lv_iload hx hb dX12_hadOn_110 (lv_at hl 1 rfl) ?_
      refine va_iald hx hb hK hP 7 0 (gM_7 cs ad mu) rfl (show vp_in y4 7 from vi_of (by omega) (by omega)) dX12_hadOn_112 ?_
      refine lv_topi (fun y23 ey23 => ?_)
      have by23 : y23.toInt = (mu 7 y4.toNatClampNeg).toInt := congrArg Int32.toInt ey23
      refine lv_iconst (v := 3) hx hb dX12_hadOn_113 (by decide) ?_
      refine lv_icmp_eq (tgt := 121) hx hb dX12_hadOn_114 (by decide) (fun c_24 => ?_) (fun c_24 => ?_)
      · have c_24 : y23.toInt = 3 := il_eq c_24
        refine lv_iconst (v := 0) hx hb dX12_hadOn_121 (by decide) ?_
        refine lv_istore (lv' := [(7, .int 0), (6, .int r5), (5, .int y4), (0, .ref (ad 0)), (1, .int vr), (2, .int 4), (3, .int vh), (4, .int vp)]) hx hb dX12_hadOn_122 hl (by decide) rfl (fun ls hl => ?_)
        refine lv_iload hx hb dX12_hadOn_124 (lv_at hl 0 rfl) ?_
        refine lv_if_eq (tgt := 142) hx hb dX12_hadOn_126 (by decide) (fun _ => ?_) (fun c => absurd (by decide) c)
        refine lv_iconst (v := 0) hx hb dX12_hadOn_142 (by decide) ?_
        refine lv_istore (lv' := [(8, .int 0), (7, .int 0), (6, .int r5), (5, .int y4), (0, .ref (ad 0)), (1, .int vr), (2, .int 4), (3, .int vh), (4, .int vp)]) hx hb dX12_hadOn_143 hl (by decide) rfl (fun ls hl => ?_)
        refine lv_iconst (v := 0) hx hb dX12_hadOn_145 (by decide) ?_
        refine lv_istore (lv' := [(9, .int 0), (8, .int 0), (7, .int 0), (6, .int r5), (5, .int y4), (0, .ref (ad 0)), (1, .int vr), (2, .int 4), (3, .int vh), (4, .int vp)]) hx hb dX12_hadOn_146 hl (by decide) rfl (fun ls hl => ?_)
        have loop148 : ∀ (n148 : Nat) (v9_148 : Int32) (nu148_ : Nat → Nat → Int32) (H : Heap) (locs : List Loc) (ls : Array Slot), (7 + 1 - v9_148.toInt).toNat < n148 → (0 ≤ v9_148.toInt ∧ v9_148.toInt ≤ 7) → okR loM hiM nu148_ → va_P (dC, dI) vwCl (wR 21 ad (EM cs ad) nu148_) H → y1 = nu148_ 2 vr.toNatClampNeg → (∀ k : Nat, 2 ≤ k → k < 3 → nu148_ k = mu k) → va_S (va_A (wR 21 ad (EM cs ad) mu) s.heap.size) s.heap H locs → lv_has ls 10 [(9, .int v9_148), (8, .int 0), (7, .int 0), (6, .int r5), (5, .int y4), (0, .ref (ad 0)), (1, .int vr), (2, .int 4), (3, .int vh), (4, .int vp)] → W p l e (headSpec (wU yX12_hadOn cX12_hadOn 10 none) ({ frames := 4, cells := 0, slots := 0, locals := 110 })).room s m ([.ref (ad 0), .int vr, .int 4, .int vh, .int vp] : List Value).toArray below meth c H locs 0 0 (MQ below (va_Qv (fun (xi : Nat → Nat → Int32) => okR loM hiM xi ∧ (True) ∧ (∀ k : Nat, 2 ≤ k → k < 3 → xi k = mu k)) (fun xi t => va_P (dC, dI) vwCl (wR 21 ad (EM cs ad) xi) t.heap) (va_A (wR 21 ad (EM cs ad) mu) s.heap.size)) ([.ref (ad 0), .int vr, .int 4, .int vh, .int vp] : List Value).toArray s 0 0 (va_A (wR 21 ad (EM cs ad) mu) s.heap.size)) (F0 m 148 ls []) := by
          intro n148
          induction n148 with
          | zero => intro v9_148 nu148_ H locs ls hm; exact absurd hm (Nat.not_lt_zero _)
          | succ n148 ih148 =>
            intro v9_148 nu148_ H locs ls hm h_v9_148 ok hP ek148_0 kq148_0 hS hl
            refine lv_iload hx hb dX12_hadOn_148 (lv_at hl 0 rfl) ?_
            refine lv_aload_n hx hb dX12_hadOn_150 rfl (lv_at hl 5 rfl) ?_
            refine va_get (D := (dC, dI)) (ci := 12) (v := .int (nu148_ 0 8)) (C := RX12) (T := TX12) (N := 46) hx hb hts inG12 hown hK hP 0 (gM_0 cs ad nu148_) rfl 8 (by decide) (hts _ (List.mem_cons_of_mem _ mw_5_49)) (fun _ h9 => h9) rfl dX12_hadOn_151 ?_
            refine lv_topi (fun y25 ey25 => ?_)
            have by25 : y25.toInt = (nu148_ 0 8).toInt := congrArg Int32.toInt ey25
            have gy25 : 0 ≤ y25.toInt ∧ y25.toInt ≤ 7 := by rw [ey25]; exact rM_0_8 ok
            refine lv_icmp_ge (tgt := 197) hx hb dX12_hadOn_154 (by decide) (fun c_26 => ?_) (fun c_26 => ?_)
            · have c_26 : y25.toInt ≤ v9_148.toInt := il_le c_26
              exact W.vret hx hb hr (fun t ht hW => ⟨⟨nu148_, rfl, ⟨ok, trivial, kq148_0⟩, by first | (subst ht; exact hP) | (rw [ht]; exact hP) | (show va_P (dC, dI) vwCl (wR 21 ad (EM cs ad) nu148_) t.heap; rw [ht]; exact hP)⟩, hS.F ht⟩) hS.2.2 dX12_hadOn_197
            · have c_26 : v9_148.toInt < y25.toInt := il_nle c_26
              refine lv_iload hx hb dX12_hadOn_157 (lv_at hl 1 rfl) ?_
              refine lv_iload hx hb dX12_hadOn_159 (lv_at hl 0 rfl) ?_
              refine cr_i (va_runS (As := [.int 0, .int v9_148]) (rest := []) ⟨hx, hb, hml, hown, hts⟩ (sm_has l dC dI (tyM cs) H 0 v9_148) (va_cwS 2 hts (wU_S mw_6_59 mw_6_57 mw_6_58 mw_1_13) rfl rfl rfl (by decide +kernel) ⟨Nat.le_of_ble_eq_true rfl, Nat.le_of_ble_eq_true rfl⟩) ⟨sz_c, sz_m hK hz⟩ rfl rfl hl.1 rfl (lv_room (Nat.le_of_ble_eq_true rfl)) dX12_hadOn_161 ⟨Nat.zero_le _, Nat.zero_le _⟩) hS (fun r27 hw27 locs hS => ?_)
              rcases hw27 with ⟨rfl, f27⟩ | ⟨rfl, f27⟩
              · have f27 : rb (0 : Int32) v9_148 = 1 := f27
                refine lv_if_eq (tgt := 191) hx hb dX12_hadOn_164 (by decide) (fun c => absurd c (by decide)) (fun _ => ?_)
                refine lv_aload_n hx hb dX12_hadOn_167 rfl (lv_at hl 5 rfl) ?_
                refine va_get (D := (dC, dI)) (ci := 12) (v := .ref (ad 16)) (C := RX12) (T := TX12) (N := 46) hx hb hts inG12 hown hK hP 0 (gM_0 cs ad nu148_) rfl 26 (by decide) (hts _ (List.mem_cons_of_mem _ mw_5_67)) (fun _ h9 => h9) rfl dX12_hadOn_168 ?_
                refine lv_iload_n hx hb dX12_hadOn_171 rfl (lv_at hl 7 rfl) ?_
                refine lv_iload hx hb dX12_hadOn_172 (lv_at hl 0 rfl) ?_
                refine va_iast hx hb hK hP (wR_D nu148_ hD) hS 16 0 (gM_16 cs ad nu148_) rfl (show vp_in 4 7 from (by unfold vp_in; decide)) dX12_hadOn_174 (fun H locs hP _ hS => ?_)
                refine wr_gen (upd (nu148_ 16) (4 : Int32).toNatClampNeg v9_148) hP (rfl) (fun nu28 hn28 hP => ?_)
                have ok := tM_16_s ok (4 : Int32).toNatClampNeg hn28 (by exact ⟨by omega, by omega⟩)
                have ez29 : y1 = nu28 2 vr.toNatClampNeg := ek148_0.trans (congrFun (up_k hn28 (by decide)) vr.toNatClampNeg).symm
                have ez30 : y25 = nu28 0 8 := ey25.trans (congrFun (up_k hn28 (by decide)) 8).symm
                have kp31 : ∀ k : Nat, 2 ≤ k → k < 3 → nu28 k = mu k := fun k h1 h2 => (up_k hn28 (ne_hi (by decide) h2).symm).trans (kq148_0 k h1 h2)
                refine lv_aload_n hx hb dX12_hadOn_175 rfl (lv_at hl 5 rfl) ?_
                refine lv_iload_n hx hb dX12_hadOn_176 rfl (lv_at hl 6 rfl) ?_
                refine lv_iload_n hx hb dX12_hadOn_177 rfl (lv_at hl 7 rfl) ?_
                refine lv_iconst (v := 1) hx hb dX12_hadOn_178 (by decide) ?_
                refine lv_iadd hx hb dX12_hadOn_179 ?_
                refine lq_i 5 (by decide) ?_
                refine lv_iload_n hx hb dX12_hadOn_180 rfl (lv_at hl 8 rfl) ?_
                refine lv_iconst (v := 1) hx hb dX12_hadOn_181 (by decide) ?_
                refine lv_iload hx hb dX12_hadOn_182 (lv_at hl 0 rfl) ?_
                refine lv_ishl hx hb dX12_hadOn_184 ?_
                refine lv_topi (fun t32 et32 => ?_)
                refine lv_ior hx hb dX12_hadOn_185 ?_
                refine lv_topi (fun t33 et33 => ?_)
                refine lv_iload hx hb dX12_hadOn_186 (lv_at hl 3 rfl) ?_
                have hFc := fr_all (wR_D nu28 hD) hS hA
                refine va_callv (va_runV (As := [.int vr, .int 5, .int t33, .int r5]) (rest := []) ⟨hx, hb, hml, hown, hts⟩ (sm_hadOn5 l dC dI cs ad nu28 ok H hP ((wR_D nu28 hD).weaken (fun _ _ _ _ => trivial)) vr t33 r5 (by have h51 : (5 : Int32).toInt = 5 := rfl; omega) (by have h51 : (5 : Int32).toInt = 5 := rfl; have hb34 := congrArg Int32.toInt ez29; omega)) (cwV 4 hts (wU_V mw_7_24 mw_7_21 mw_7_23 mw_0_62 mw_1_13) rfl rfl rfl (by decide +kernel) ⟨Nat.le_of_ble_eq_true rfl, Nat.le_of_ble_eq_true rfl⟩) ⟨sz_c, va_recv hK hP (ci := 12) (q0 := 0) rfl (gM_0 cs ad nu28), sz_m hK hz⟩ rfl rfl hl.1 rfl (lv_room (Nat.le_of_ble_eq_true rfl)) dX12_hadOn_188 ⟨Nat.zero_le _, Nat.zero_le _⟩) hS (fun q _ h => hFc q h) hFc (fun xi35 t H35 locs ht hvm hw35 hB hz1 hk1 hS => ?_)
                have hP : va_P (dC, dI) vwCl (wR 21 ad (EM cs ad) xi35) H35 := by rw [← ht]; exact hB
                obtain ⟨ok, hw35, hkp35_0⟩ := hw35
                have ez36 : y1 = xi35 2 vr.toNatClampNeg := ez29.trans (congrFun (hkp35_0 2 (by decide) (by decide)) vr.toNatClampNeg).symm
                have kp37 : ∀ k : Nat, 2 ≤ k → k < 3 → xi35 k = mu k := fun k h1 h2 => (hkp35_0 k (Nat.le_trans (by decide) h1) (Nat.lt_of_lt_of_le h2 (by decide))).trans (kp31 k h1 h2)
                refine lv_iinc (v := (v9_148 + 1)) (lv' := [(9, .int (v9_148 + 1)), (8, .int 0), (7, .int 0), (6, .int r5), (5, .int y4), (0, .ref (ad 0)), (1, .int vr), (2, .int 4), (3, .int vh), (4, .int vp)]) hx hb dX12_hadOn_191 hl (k := 0) rfl rfl (by decide) rfl (fun ls hl => ?_)
                refine loc_gen (P := fun w9 => lv_has ls 10 [(9, .int w9), (8, .int 0), (7, .int 0), (6, .int r5), (5, .int y4), (0, .ref (ad 0)), (1, .int vr), (2, .int 4), (3, .int vh), (4, .int vp)]) (v9_148 + 1) hl (fun w38 hw38 hl => ?_)
                have hl : lv_has ls 10 [(9, .int w38), (8, .int 0), (7, .int 0), (6, .int r5), (5, .int y4), (0, .ref (ad 0)), (1, .int vr), (2, .int 4), (3, .int vh), (4, .int vp)] := hl
                have aw38 : w38.toInt = v9_148.toInt + 1 := by rw [← hw38]; exact tI_add (rfl : v9_148.toInt = _) (rfl : (1 : Int32).toInt = 1) (by omega) (by omega)
                refine lv_goto (tgt := 148) hx hb dX12_hadOn_194 (by decide) ?_
                exact ih148 (w38) xi35 _ _ _ (by omega) (by exact ⟨by omega, by omega⟩)  ok hP ez36 kp37 hS (lv_sub hl [0, 1, 2, 3, 4, 5, 6, 7, 8, 9] rfl)
              · have f27 : ¬ rb (0 : Int32) v9_148 = 1 := f27
                refine lv_if_eq (tgt := 191) hx hb dX12_hadOn_164 (by decide) (fun _ => ?_) (fun c => absurd (by decide) c)
                refine lv_iinc (v := (v9_148 + 1)) (lv' := [(9, .int (v9_148 + 1)), (8, .int 0), (7, .int 0), (6, .int r5), (5, .int y4), (0, .ref (ad 0)), (1, .int vr), (2, .int 4), (3, .int vh), (4, .int vp)]) hx hb dX12_hadOn_191 hl (k := 0) rfl rfl (by decide) rfl (fun ls hl => ?_)
                refine loc_gen (P := fun w9 => lv_has ls 10 [(9, .int w9), (8, .int 0), (7, .int 0), (6, .int r5), (5, .int y4), (0, .ref (ad 0)), (1, .int vr), (2, .int 4), (3, .int vh), (4, .int vp)]) (v9_148 + 1) hl (fun w39 hw39 hl => ?_)
                have hl : lv_has ls 10 [(9, .int w39), (8, .int 0), (7, .int 0), (6, .int r5), (5, .int y4), (0, .ref (ad 0)), (1, .int vr), (2, .int 4), (3, .int vh), (4, .int vp)] := hl
                have aw39 : w39.toInt = v9_148.toInt + 1 := by rw [← hw39]; exact tI_add (rfl : v9_148.toInt = _) (rfl : (1 : Int32).toInt = 1) (by omega) (by omega)
                refine lv_goto (tgt := 148) hx hb dX12_hadOn_194 (by decide) ?_
                exact ih148 (w39) nu148_ _ _ _ (by omega) (by exact ⟨by omega, by omega⟩)  ok hP ek148_0 kq148_0 hS (lv_sub hl [0, 1, 2, 3, 4, 5, 6, 7, 8, 9] rfl)
        exact loop148 ((7 + 1 - (0 : Int32).toInt).toNat + 1) (0) mu _ _ _ (Nat.lt_succ_self _) (by have h80 : (0 : Int32).toInt = 0 := rfl; exact ⟨by omega, by omega⟩)  ok hP ey1 (fun _ _ _ => rfl) hS hl
      · have c_24 : ¬ y23.toInt = 3 := il_ne c_24
        refine lv_iconst (v := 1) hx hb dX12_hadOn_117 (by decide) ?_
        refine lv_goto (tgt := 122) hx hb dX12_hadOn_118 (by decide) ?_
        refine lv_istore (lv' := [(7, .int 1), (6, .int r5), (5, .int y4), (0, .ref (ad 0)), (1, .int vr), (2, .int 4), (3, .int vh), (4, .int vp)]) hx hb dX12_hadOn_122 hl (by decide) rfl (fun ls hl => ?_)
        refine lv_iload hx hb dX12_hadOn_124 (lv_at hl 0 rfl) ?_
        refine lv_if_eq (tgt := 142) hx hb dX12_hadOn_126 (by decide) (fun c => absurd c (by decide)) (fun _ => ?_)
        refine lv_aload_n hx hb dX12_hadOn_129 rfl (lv_at hl 3 rfl) ?_
        refine lv_iload hx hb dX12_hadOn_130 (lv_at hl 2 rfl) ?_
        refine cr_i (va_runV (As := [.int y4]) (rest := []) ⟨hx, hb, hml, hown, hts⟩ (sm_besideOf l dC dI cs ad mu ok s.heap hP y4) (cwV 1 hts (wU_V mw_6_56 mw_6_53 mw_6_55 mw_0_40 mw_1_13) rfl rfl rfl (by decide +kernel) ⟨Nat.le_of_ble_eq_true rfl, Nat.le_of_ble_eq_true rfl⟩) ⟨sz_c, va_recv hK hP (ci := 12) (q0 := 0) rfl (gM_0 cs ad mu), sz_m hK hz⟩ rfl rfl hl.1 rfl (lv_room (Nat.le_of_ble_eq_true rfl)) dX12_hadOn_132 ⟨Nat.zero_le _, Nat.zero_le _⟩) hS (fun r40 hw40 locs hS => ?_)
        refine lv_iload_n hx hb dX12_hadOn_135 rfl (lv_at hl 6 rfl) ?_
        refine lv_iconst (v := (-1)) hx hb dX12_hadOn_136 (by decide) ?_
        refine lv_ixor hx hb dX12_hadOn_137 ?_
        refine lv_topi (fun t41 et41 => ?_)
        refine lv_iand hx hb dX12_hadOn_138 ?_
        refine lv_topi (fun t42 et42 => ?_)
        refine lv_goto (tgt := 143) hx hb dX12_hadOn_139 (by decide) ?_
        refine lv_istore (lv' := [(8, .int t42), (7, .int 1), (6, .int r5), (5, .int y4), (0, .ref (ad 0)), (1, .int vr), (2, .int 4), (3, .int vh), (4, .int vp)]) hx hb dX12_hadOn_143 hl (by decide) rfl (fun ls hl => ?_)
        refine lv_iconst (v := 0) hx hb dX12_hadOn_145 (by decide) ?_
        refine lv_istore (lv' := [(9, .int 0), (8, .int t42), (7, .int 1), (6, .int r5), (5, .int y4), (0, .ref (ad 0)), (1, .int vr), (2, .int 4), (3, .int vh), (4, .int vp)]) hx hb dX12_hadOn_146 hl (by decide) rfl (fun ls hl => ?_)
        have loop148 : ∀ (n148 : Nat) (v9_148 : Int32) (nu148_ : Nat → Nat → Int32) (H : Heap) (locs : List Loc) (ls : Array Slot), (7 + 1 - v9_148.toInt).toNat < n148 → (0 ≤ v9_148.toInt ∧ v9_148.toInt ≤ 7) → okR loM hiM nu148_ → va_P (dC, dI) vwCl (wR 21 ad (EM cs ad) nu148_) H → y1 = nu148_ 2 vr.toNatClampNeg → (∀ k : Nat, 2 ≤ k → k < 3 → nu148_ k = mu k) → va_S (va_A (wR 21 ad (EM cs ad) mu) s.heap.size) s.heap H locs → lv_has ls 10 [(9, .int v9_148), (8, .int t42), (7, .int 1), (6, .int r5), (5, .int y4), (0, .ref (ad 0)), (1, .int vr), (2, .int 4), (3, .int vh), (4, .int vp)] → W p l e (headSpec (wU yX12_hadOn cX12_hadOn 10 none) ({ frames := 4, cells := 0, slots := 0, locals := 110 })).room s m ([.ref (ad 0), .int vr, .int 4, .int vh, .int vp] : List Value).toArray below meth c H locs 0 0 (MQ below (va_Qv (fun (xi : Nat → Nat → Int32) => okR loM hiM xi ∧ (True) ∧ (∀ k : Nat, 2 ≤ k → k < 3 → xi k = mu k)) (fun xi t => va_P (dC, dI) vwCl (wR 21 ad (EM cs ad) xi) t.heap) (va_A (wR 21 ad (EM cs ad) mu) s.heap.size)) ([.ref (ad 0), .int vr, .int 4, .int vh, .int vp] : List Value).toArray s 0 0 (va_A (wR 21 ad (EM cs ad) mu) s.heap.size)) (F0 m 148 ls []) := by
          intro n148
          induction n148 with
          | zero => intro v9_148 nu148_ H locs ls hm; exact absurd hm (Nat.not_lt_zero _)
          | succ n148 ih148 =>
            intro v9_148 nu148_ H locs ls hm h_v9_148 ok hP ek148_0 kq148_0 hS hl
            refine lv_iload hx hb dX12_hadOn_148 (lv_at hl 0 rfl) ?_
            refine lv_aload_n hx hb dX12_hadOn_150 rfl (lv_at hl 5 rfl) ?_
            refine va_get (D := (dC, dI)) (ci := 12) (v := .int (nu148_ 0 8)) (C := RX12) (T := TX12) (N := 46) hx hb hts inG12 hown hK hP 0 (gM_0 cs ad nu148_) rfl 8 (by decide) (hts _ (List.mem_cons_of_mem _ mw_5_49)) (fun _ h9 => h9) rfl dX12_hadOn_151 ?_
            refine lv_topi (fun y43 ey43 => ?_)
            have by43 : y43.toInt = (nu148_ 0 8).toInt := congrArg Int32.toInt ey43
            have gy43 : 0 ≤ y43.toInt ∧ y43.toInt ≤ 7 := by rw [ey43]; exact rM_0_8 ok
            refine lv_icmp_ge (tgt := 197) hx hb dX12_hadOn_154 (by decide) (fun c_44 => ?_) (fun c_44 => ?_)
            · have c_44 : y43.toInt ≤ v9_148.toInt := il_le c_44
              exact W.vret hx hb hr (fun t ht hW => ⟨⟨nu148_, rfl, ⟨ok, trivial, kq148_0⟩, by first | (subst ht; exact hP) | (rw [ht]; exact hP) | (show va_P (dC, dI) vwCl (wR 21 ad (EM cs ad) nu148_) t.heap; rw [ht]; exact hP)⟩, hS.F ht⟩) hS.2.2 dX12_hadOn_197
            · have c_44 : v9_148.toInt < y43.toInt := il_nle c_44
              refine lv_iload hx hb dX12_hadOn_157 (lv_at hl 1 rfl) ?_
              refine lv_iload hx hb dX12_hadOn_159 (lv_at hl 0 rfl) ?_
              refine cr_i (va_runS (As := [.int t42, .int v9_148]) (rest := []) ⟨hx, hb, hml, hown, hts⟩ (sm_has l dC dI (tyM cs) H t42 v9_148) (va_cwS 2 hts (wU_S mw_6_59 mw_6_57 mw_6_58 mw_1_13) rfl rfl rfl (by decide +kernel) ⟨Nat.le_of_ble_eq_true rfl, Nat.le_of_ble_eq_true rfl⟩) ⟨sz_c, sz_m hK hz⟩ rfl rfl hl.1 rfl (lv_room (Nat.le_of_ble_eq_true rfl)) dX12_hadOn_161 ⟨Nat.zero_le _, Nat.zero_le _⟩) hS (fun r45 hw45 locs hS => ?_)
              rcases hw45 with ⟨rfl, f45⟩ | ⟨rfl, f45⟩
              · have f45 : rb t42 v9_148 = 1 := f45
                refine lv_if_eq (tgt := 191) hx hb dX12_hadOn_164 (by decide) (fun c => absurd c (by decide)) (fun _ => ?_)
                refine lv_aload_n hx hb dX12_hadOn_167 rfl (lv_at hl 5 rfl) ?_
                refine va_get (D := (dC, dI)) (ci := 12) (v := .ref (ad 16)) (C := RX12) (T := TX12) (N := 46) hx hb hts inG12 hown hK hP 0 (gM_0 cs ad nu148_) rfl 26 (by decide) (hts _ (List.mem_cons_of_mem _ mw_5_67)) (fun _ h9 => h9) rfl dX12_hadOn_168 ?_
                refine lv_iload_n hx hb dX12_hadOn_171 rfl (lv_at hl 7 rfl) ?_
                refine lv_iload hx hb dX12_hadOn_172 (lv_at hl 0 rfl) ?_
                refine va_iast hx hb hK hP (wR_D nu148_ hD) hS 16 0 (gM_16 cs ad nu148_) rfl (show vp_in 4 7 from (by unfold vp_in; decide)) dX12_hadOn_174 (fun H locs hP _ hS => ?_)
                refine wr_gen (upd (nu148_ 16) (4 : Int32).toNatClampNeg v9_148) hP (rfl) (fun nu46 hn46 hP => ?_)
                have ok := tM_16_s ok (4 : Int32).toNatClampNeg hn46 (by exact ⟨by omega, by omega⟩)
                have ez47 : y1 = nu46 2 vr.toNatClampNeg := ek148_0.trans (congrFun (up_k hn46 (by decide)) vr.toNatClampNeg).symm
                have ez48 : y43 = nu46 0 8 := ey43.trans (congrFun (up_k hn46 (by decide)) 8).symm
                have kp49 : ∀ k : Nat, 2 ≤ k → k < 3 → nu46 k = mu k := fun k h1 h2 => (up_k hn46 (ne_hi (by decide) h2).symm).trans (kq148_0 k h1 h2)
                refine lv_aload_n hx hb dX12_hadOn_175 rfl (lv_at hl 5 rfl) ?_
                refine lv_iload_n hx hb dX12_hadOn_176 rfl (lv_at hl 6 rfl) ?_
                refine lv_iload_n hx hb dX12_hadOn_177 rfl (lv_at hl 7 rfl) ?_
                refine lv_iconst (v := 1) hx hb dX12_hadOn_178 (by decide) ?_
                refine lv_iadd hx hb dX12_hadOn_179 ?_
                refine lq_i 5 (by decide) ?_
                refine lv_iload_n hx hb dX12_hadOn_180 rfl (lv_at hl 8 rfl) ?_
                refine lv_iconst (v := 1) hx hb dX12_hadOn_181 (by decide) ?_
                refine lv_iload hx hb dX12_hadOn_182 (lv_at hl 0 rfl) ?_
                refine lv_ishl hx hb dX12_hadOn_184 ?_
                refine lv_topi (fun t50 et50 => ?_)
                refine lv_ior hx hb dX12_hadOn_185 ?_
                refine lv_topi (fun t51 et51 => ?_)
                refine lv_iload hx hb dX12_hadOn_186 (lv_at hl 3 rfl) ?_
                have hFc := fr_all (wR_D nu46 hD) hS hA
                refine va_callv (va_runV (As := [.int vr, .int 5, .int t51, .int r5]) (rest := []) ⟨hx, hb, hml, hown, hts⟩ (sm_hadOn5 l dC dI cs ad nu46 ok H hP ((wR_D nu46 hD).weaken (fun _ _ _ _ => trivial)) vr t51 r5 (by have h51 : (5 : Int32).toInt = 5 := rfl; omega) (by have h51 : (5 : Int32).toInt = 5 := rfl; have hb52 := congrArg Int32.toInt ez47; omega)) (cwV 4 hts (wU_V mw_7_24 mw_7_21 mw_7_23 mw_0_62 mw_1_13) rfl rfl rfl (by decide +kernel) ⟨Nat.le_of_ble_eq_true rfl, Nat.le_of_ble_eq_true rfl⟩) ⟨sz_c, va_recv hK hP (ci := 12) (q0 := 0) rfl (gM_0 cs ad nu46), sz_m hK hz⟩ rfl rfl hl.1 rfl (lv_room (Nat.le_of_ble_eq_true rfl)) dX12_hadOn_188 ⟨Nat.zero_le _, Nat.zero_le _⟩) hS (fun q _ h => hFc q h) hFc (fun xi53 t H53 locs ht hvm hw53 hB hz1 hk1 hS => ?_)
                have hP : va_P (dC, dI) vwCl (wR 21 ad (EM cs ad) xi53) H53 := by rw [← ht]; exact hB
                obtain ⟨ok, hw53, hkp53_0⟩ := hw53
                have ez54 : y1 = xi53 2 vr.toNatClampNeg := ez47.trans (congrFun (hkp53_0 2 (by decide) (by decide)) vr.toNatClampNeg).symm
                have kp55 : ∀ k : Nat, 2 ≤ k → k < 3 → xi53 k = mu k := fun k h1 h2 => (hkp53_0 k (Nat.le_trans (by decide) h1) (Nat.lt_of_lt_of_le h2 (by decide))).trans (kp49 k h1 h2)
                refine lv_iinc (v := (v9_148 + 1)) (lv' := [(9, .int (v9_148 + 1)), (8, .int t42), (7, .int 1), (6, .int r5), (5, .int y4), (0, .ref (ad 0)), (1, .int vr), (2, .int 4), (3, .int vh), (4, .int vp)]) hx hb dX12_hadOn_191 hl (k := 0) rfl rfl (by decide) rfl (fun ls hl => ?_)
                refine loc_gen (P := fun w9 => lv_has ls 10 [(9, .int w9), (8, .int t42), (7, .int 1), (6, .int r5), (5, .int y4), (0, .ref (ad 0)), (1, .int vr), (2, .int 4), (3, .int vh), (4, .int vp)]) (v9_148 + 1) hl (fun w56 hw56 hl => ?_)
                have hl : lv_has ls 10 [(9, .int w56), (8, .int t42), (7, .int 1), (6, .int r5), (5, .int y4), (0, .ref (ad 0)), (1, .int vr), (2, .int 4), (3, .int vh), (4, .int vp)] := hl
                have aw56 : w56.toInt = v9_148.toInt + 1 := by rw [← hw56]; exact tI_add (rfl : v9_148.toInt = _) (rfl : (1 : Int32).toInt = 1) (by omega) (by omega)
                refine lv_goto (tgt := 148) hx hb dX12_hadOn_194 (by decide) ?_
                exact ih148 (w56) xi53 _ _ _ (by omega) (by exact ⟨by omega, by omega⟩)  ok hP ez54 kp55 hS (lv_sub hl [0, 1, 2, 3, 4, 5, 6, 7, 8, 9] rfl)
              · have f45 : ¬ rb t42 v9_148 = 1 := f45
                refine lv_if_eq (tgt := 191) hx hb dX12_hadOn_164 (by decide) (fun _ => ?_) (fun c => absurd (by decide) c)
                refine lv_iinc (v := (v9_148 + 1)) (lv' := [(9, .int (v9_148 + 1)), (8, .int t42), (7, .int 1), (6, .int r5), (5, .int y4), (0, .ref (ad 0)), (1, .int vr), (2, .int 4), (3, .int vh), (4, .int vp)]) hx hb dX12_hadOn_191 hl (k := 0) rfl rfl (by decide) rfl (fun ls hl => ?_)
                refine loc_gen (P := fun w9 => lv_has ls 10 [(9, .int w9), (8, .int t42), (7, .int 1), (6, .int r5), (5, .int y4), (0, .ref (ad 0)), (1, .int vr), (2, .int 4), (3, .int vh), (4, .int vp)]) (v9_148 + 1) hl (fun w57 hw57 hl => ?_)
                have hl : lv_has ls 10 [(9, .int w57), (8, .int t42), (7, .int 1), (6, .int r5), (5, .int y4), (0, .ref (ad 0)), (1, .int vr), (2, .int 4), (3, .int vh), (4, .int vp)] := hl
                have aw57 : w57.toInt = v9_148.toInt + 1 := by rw [← hw57]; exact tI_add (rfl : v9_148.toInt = _) (rfl : (1 : Int32).toInt = 1) (by omega) (by omega)
                refine lv_goto (tgt := 148) hx hb dX12_hadOn_194 (by decide) ?_
                exact ih148 (w57) nu148_ _ _ _ (by omega) (by exact ⟨by omega, by omega⟩)  ok hP ek148_0 kq148_0 hS (lv_sub hl [0, 1, 2, 3, 4, 5, 6, 7, 8, 9] rfl)
        exact loop148 ((7 + 1 - (0 : Int32).toInt).toNat + 1) (0) mu _ _ _ (Nat.lt_succ_self _) (by have h80 : (0 : Int32).toInt = 0 := rfl; exact ⟨by omega, by omega⟩)  ok hP ey1 (fun _ _ _ => rfl) hS hl
  · have c_3 : 4 = t2.toInt := il_eq c_3
    refine lv_aload_n hx hb dX12_hadOn_12 rfl (lv_at hl 0 rfl) ?_
    refine va_get (D := (dC, dI)) (ci := 12) (v := .int (mu 0 42)) (C := RX12) (T := TX12) (N := 46) hx hb hts inG12 hown hK hP 0 (gM_0 cs ad mu) rfl 42 (by decide) (hts _ (List.mem_cons_of_mem _ mw_5_83)) (fun _ h9 => h9) rfl dX12_hadOn_13 ?_
    refine lv_topi (fun y58 ey58 => ?_)
    have by58 : y58.toInt = (mu 0 42).toInt := congrArg Int32.toInt ey58
    refine lv_if_ne (tgt := 28) hx hb dX12_hadOn_16 (by decide) (fun c_59 => ?_) (fun c_59 => ?_)
    · have c_59 : ¬ y58.toInt = 0 := il_ne c_59
      refine lv_aload_n hx hb dX12_hadOn_28 rfl (lv_at hl 0 rfl) ?_
      refine lv_dup hx hb dX12_hadOn_29 rfl ?_
      refine va_get (D := (dC, dI)) (ci := 12) (v := .int (mu 0 42)) (C := RX12) (T := TX12) (N := 46) hx hb hts inG12 hown hK hP 0 (gM_0 cs ad mu) rfl 42 (by decide) (hts _ (List.mem_cons_of_mem _ mw_5_83)) (fun _ h9 => h9) rfl dX12_hadOn_30 ?_
      refine lq_i y58 ey58.symm ?_
      refine lv_iconst (v := 1) hx hb dX12_hadOn_33 (by decide) ?_
      refine lv_iadd hx hb dX12_hadOn_34 ?_
      refine lv_topi (fun t60 et60 => ?_)
      refine va_put (D := (dC, dI)) (ci := 12) (v := .int t60) (ty := .int) (C := RX12) (T := TX12) (N := 46) hx hb hts inG12 tyX12 tyX12_ok nmX12 hown hK hP (wR_D mu hD) hS 0 (gM_0 cs ad mu) rfl 42 (by decide) (hts _ (List.mem_cons_of_mem _ mw_5_83)) (fun _ h9 => h9) rfl (by decide +kernel) rfl rfl (Nat.le_of_ble_eq_true rfl) dX12_hadOn_35 (fun H locs hP _ hS => ?_)
      simp only [List.set_cons_succ, List.set_cons_zero] at hP
      refine wr_gen (upd (mu 0) 42 t60) hP ((hM_0_42 cs ad _ _)) (fun nu61 hn61 hP => ?_)
      have ok := tM_0_42 ok hn61
      have ez62 : y1 = nu61 2 vr.toNatClampNeg := ey1.trans (congrFun (up_k hn61 (by decide)) vr.toNatClampNeg).symm
      have kp63 : ∀ k : Nat, 2 ≤ k → k < 3 → nu61 k = mu k := fun k h1 h2 => (up_k hn61 (ne_lo (by decide) h1).symm).trans ((fun _ _ _ => rfl) k h1 h2)
      have ez64 : t60 = nu61 0 42 := up_v hn61
      refine lv_aload_n hx hb dX12_hadOn_38 rfl (lv_at hl 0 rfl) ?_
      refine lv_dup hx hb dX12_hadOn_39 rfl ?_
      refine va_get (D := (dC, dI)) (ci := 12) (v := .int (nu61 0 43)) (C := RX12) (T := TX12) (N := 46) hx hb hts inG12 hown hK hP 0 (gM_0 cs ad nu61) rfl 43 (by decide) (hts _ (List.mem_cons_of_mem _ mw_5_84)) (fun _ h9 => h9) rfl dX12_hadOn_40 ?_
      refine lv_topi (fun y65 ey65 => ?_)
      have by65 : y65.toInt = (nu61 0 43).toInt := congrArg Int32.toInt ey65
      refine lv_iconst (v := 1) hx hb dX12_hadOn_43 (by decide) ?_
      refine lv_aload_n hx hb dX12_hadOn_44 rfl (lv_at hl 0 rfl) ?_
      refine va_get (D := (dC, dI)) (ci := 12) (v := .ref (ad 16)) (C := RX12) (T := TX12) (N := 46) hx hb hts inG12 hown hK hP 0 (gM_0 cs ad nu61) rfl 26 (by decide) (hts _ (List.mem_cons_of_mem _ mw_5_67)) (fun _ h9 => h9) rfl dX12_hadOn_45 ?_
      refine lv_iload_n hx hb dX12_hadOn_48 rfl (lv_at hl 2 rfl) ?_
      refine lv_iconst (v := 1) hx hb dX12_hadOn_49 (by decide) ?_
      refine lv_isub hx hb dX12_hadOn_50 ?_
      refine lq_i 3 (by decide) ?_
      refine va_iald hx hb hK hP 16 0 (gM_16 cs ad nu61) rfl (show vp_in 3 7 from (by unfold vp_in; decide)) dX12_hadOn_51 ?_
      refine lv_topi (fun y66 ey66 => ?_)
      have by66 : y66.toInt = (nu61 16 (3 : Int32).toNatClampNeg).toInt := congrArg Int32.toInt ey66
      have gy66 : 0 ≤ y66.toInt ∧ y66.toInt ≤ 6 := by rw [ey66]; exact rM_16_s ok (3 : Int32).toNatClampNeg
      refine lv_ishl hx hb dX12_hadOn_52 ?_
      refine lv_topi (fun t67 et67 => ?_)
      refine lv_ior hx hb dX12_hadOn_53 ?_
      refine lv_topi (fun t68 et68 => ?_)
      refine va_put (D := (dC, dI)) (ci := 12) (v := .int t68) (ty := .int) (C := RX12) (T := TX12) (N := 46) hx hb hts inG12 tyX12 tyX12_ok nmX12 hown hK hP (wR_D nu61 hD) hS 0 (gM_0 cs ad nu61) rfl 43 (by decide) (hts _ (List.mem_cons_of_mem _ mw_5_84)) (fun _ h9 => h9) rfl (by decide +kernel) rfl rfl (Nat.le_of_ble_eq_true rfl) dX12_hadOn_54 (fun H locs hP _ hS => ?_)
      simp only [List.set_cons_succ, List.set_cons_zero] at hP
      refine wr_gen (upd (nu61 0) 43 t68) hP ((hM_0_43 cs ad _ _)) (fun nu69 hn69 hP => ?_)
      have ok := tM_0_43 ok hn69
      have ez70 : y1 = nu69 2 vr.toNatClampNeg := ez62.trans (congrFun (up_k hn69 (by decide)) vr.toNatClampNeg).symm
      have ez71 : t60 = nu69 0 42 := ez64.trans (up_f hn69 (by decide)).symm
      have ez72 : y66 = nu69 16 (3 : Int32).toNatClampNeg := ey66.trans (congrFun (up_k hn69 (by decide)) (3 : Int32).toNatClampNeg).symm
      have kp73 : ∀ k : Nat, 2 ≤ k → k < 3 → nu69 k = mu k := fun k h1 h2 => (up_k hn69 (ne_lo (by decide) h1).symm).trans (kp63 k h1 h2)
      have ez74 : t68 = nu69 0 43 := up_v hn69
      refine lv_aload_n hx hb dX12_hadOn_57 rfl (lv_at hl 0 rfl) ?_
      refine lv_dup hx hb dX12_hadOn_58 rfl ?_
      refine va_get (D := (dC, dI)) (ci := 12) (v := .int (nu69 0 44)) (C := RX12) (T := TX12) (N := 46) hx hb hts inG12 hown hK hP 0 (gM_0 cs ad nu69) rfl 44 (by decide) (hts _ (List.mem_cons_of_mem _ mw_5_85)) (fun _ h9 => h9) rfl dX12_hadOn_59 ?_
      refine lv_topi (fun y75 ey75 => ?_)
      have by75 : y75.toInt = (nu69 0 44).toInt := congrArg Int32.toInt ey75
      refine lv_iload_n hx hb dX12_hadOn_62 rfl (lv_at hl 3 rfl) ?_
      refine lv_iand hx hb dX12_hadOn_63 ?_
      refine lv_topi (fun t76 et76 => ?_)
      refine va_put (D := (dC, dI)) (ci := 12) (v := .int t76) (ty := .int) (C := RX12) (T := TX12) (N := 46) hx hb hts inG12 tyX12 tyX12_ok nmX12 hown hK hP (wR_D nu69 hD) hS 0 (gM_0 cs ad nu69) rfl 44 (by decide) (hts _ (List.mem_cons_of_mem _ mw_5_85)) (fun _ h9 => h9) rfl (by decide +kernel) rfl rfl (Nat.le_of_ble_eq_true rfl) dX12_hadOn_64 (fun H locs hP _ hS => ?_)
      simp only [List.set_cons_succ, List.set_cons_zero] at hP
      refine wr_gen (upd (nu69 0) 44 t76) hP ((hM_0_44 cs ad _ _)) (fun nu77 hn77 hP => ?_)
      have ok := tM_0_44 ok hn77
      have ez78 : y1 = nu77 2 vr.toNatClampNeg := ez70.trans (congrFun (up_k hn77 (by decide)) vr.toNatClampNeg).symm
      have ez79 : t60 = nu77 0 42 := ez71.trans (up_f hn77 (by decide)).symm
      have ez80 : y66 = nu77 16 (3 : Int32).toNatClampNeg := ez72.trans (congrFun (up_k hn77 (by decide)) (3 : Int32).toNatClampNeg).symm
      have ez81 : t68 = nu77 0 43 := ez74.trans (up_f hn77 (by decide)).symm
      have kp82 : ∀ k : Nat, 2 ≤ k → k < 3 → nu77 k = mu k := fun k h1 h2 => (up_k hn77 (ne_lo (by decide) h1).symm).trans (kp73 k h1 h2)
      have ez83 : t76 = nu77 0 44 := up_v hn77
      exact W.vret hx hb hr (fun t ht hW => ⟨⟨nu77, rfl, ⟨ok, trivial, kp82⟩, by first | (subst ht; exact hP) | (rw [ht]; exact hP) | (show va_P (dC, dI) vwCl (wR 21 ad (EM cs ad) nu77) t.heap; rw [ht]; exact hP)⟩, hS.F ht⟩) hS.2.2 dX12_hadOn_67
    · have c_59 : y58.toInt = 0 := il_eq c_59
      refine lv_aload_n hx hb dX12_hadOn_19 rfl (lv_at hl 0 rfl) ?_
      refine lv_aload_n hx hb dX12_hadOn_20 rfl (lv_at hl 0 rfl) ?_
      refine va_get (D := (dC, dI)) (ci := 12) (v := .ref (ad 17)) (C := RX12) (T := TX12) (N := 46) hx hb hts inG12 hown hK hP 0 (gM_0 cs ad mu) rfl 27 (by decide) (hts _ (List.mem_cons_of_mem _ mw_5_68)) (fun _ h9 => h9) rfl dX12_hadOn_21 ?_
      refine lv_iload_n hx hb dX12_hadOn_24 rfl (lv_at hl 2 rfl) ?_
      have hFc := fr_all (wR_D mu hD) hS hA
      refine va_callv (va_runV (As := [.ref (ad 17), .int 4]) (rest := []) ⟨hx, hb, hml, hown, hts⟩ (sm_copyRoute17 l dC dI cs ad mu ok s.heap hP ((wR_D mu hD).weaken (fun _ _ _ _ => trivial)) 4 (by have h51 : (4 : Int32).toInt = 4 := rfl; omega)) (cwV 2 hts (wU_V mw_6_191 mw_6_188 mw_6_190 mw_0_57 mw_1_13) rfl rfl rfl (by decide +kernel) ⟨Nat.le_of_ble_eq_true rfl, Nat.le_of_ble_eq_true rfl⟩) ⟨sz_c, va_recv hK hP (ci := 12) (q0 := 0) rfl (gM_0 cs ad mu), sz_m hK hz⟩ rfl rfl hl.1 rfl (lv_room (Nat.le_of_ble_eq_true rfl)) dX12_hadOn_25 ⟨Nat.zero_le _, Nat.zero_le _⟩) hS (fun q _ h => hFc q h) hFc (fun xi84 t H84 locs ht hvm hw84 hB hz1 hk1 hS => ?_)
      have hP : va_P (dC, dI) vwCl (wR 21 ad (EM cs ad) xi84) H84 := by rw [← ht]; exact hB
      obtain ⟨ok, hw84, hkp84_0⟩ := hw84
      have ez85 : y1 = xi84 2 vr.toNatClampNeg := ey1.trans (congrFun (hkp84_0 2 (by decide) (by decide)) vr.toNatClampNeg).symm
      have ez86 : y58 = xi84 0 42 := ey58.trans (congrFun (hkp84_0 0 (by decide) (by decide)) 42).symm
      have kp87 : ∀ k : Nat, 2 ≤ k → k < 3 → xi84 k = mu k := fun k h1 h2 => (hkp84_0 k (Nat.le_trans (by decide) h1) (Nat.lt_of_lt_of_le h2 (by decide))).trans ((fun _ _ _ => rfl) k h1 h2)
      refine lv_aload_n hx hb dX12_hadOn_28 rfl (lv_at hl 0 rfl) ?_
      refine lv_dup hx hb dX12_hadOn_29 rfl ?_
      refine va_get (D := (dC, dI)) (ci := 12) (v := .int (xi84 0 42)) (C := RX12) (T := TX12) (N := 46) hx hb hts inG12 hown hK hP 0 (gM_0 cs ad xi84) rfl 42 (by decide) (hts _ (List.mem_cons_of_mem _ mw_5_83)) (fun _ h9 => h9) rfl dX12_hadOn_30 ?_
      refine lq_i y58 ez86.symm ?_
      refine lv_iconst (v := 1) hx hb dX12_hadOn_33 (by decide) ?_
      refine lv_iadd hx hb dX12_hadOn_34 ?_
      refine lv_topi (fun t88 et88 => ?_)
      have at88 : t88.toInt = y58.toInt + 1 := by rw [et88]; exact tI_add (rfl : y58.toInt = _) (rfl : (1 : Int32).toInt = 1) (by omega) (by omega)
      refine va_put (D := (dC, dI)) (ci := 12) (v := .int t88) (ty := .int) (C := RX12) (T := TX12) (N := 46) hx hb hts inG12 tyX12 tyX12_ok nmX12 hown hK hP (wR_D xi84 hD) hS 0 (gM_0 cs ad xi84) rfl 42 (by decide) (hts _ (List.mem_cons_of_mem _ mw_5_83)) (fun _ h9 => h9) rfl (by decide +kernel) rfl rfl (Nat.le_of_ble_eq_true rfl) dX12_hadOn_35 (fun H locs hP _ hS => ?_)
      simp only [List.set_cons_succ, List.set_cons_zero] at hP
      refine wr_gen (upd (xi84 0) 42 t88) hP ((hM_0_42 cs ad _ _)) (fun nu89 hn89 hP => ?_)
      have ok := tM_0_42 ok hn89
      have ez90 : y1 = nu89 2 vr.toNatClampNeg := ez85.trans (congrFun (up_k hn89 (by decide)) vr.toNatClampNeg).symm
      have kp91 : ∀ k : Nat, 2 ≤ k → k < 3 → nu89 k = mu k := fun k h1 h2 => (up_k hn89 (ne_lo (by decide) h1).symm).trans (kp87 k h1 h2)
      have ez92 : t88 = nu89 0 42 := up_v hn89
      refine lv_aload_n hx hb dX12_hadOn_38 rfl (lv_at hl 0 rfl) ?_
      refine lv_dup hx hb dX12_hadOn_39 rfl ?_
      refine va_get (D := (dC, dI)) (ci := 12) (v := .int (nu89 0 43)) (C := RX12) (T := TX12) (N := 46) hx hb hts inG12 hown hK hP 0 (gM_0 cs ad nu89) rfl 43 (by decide) (hts _ (List.mem_cons_of_mem _ mw_5_84)) (fun _ h9 => h9) rfl dX12_hadOn_40 ?_
      refine lv_topi (fun y93 ey93 => ?_)
      have by93 : y93.toInt = (nu89 0 43).toInt := congrArg Int32.toInt ey93
      refine lv_iconst (v := 1) hx hb dX12_hadOn_43 (by decide) ?_
      refine lv_aload_n hx hb dX12_hadOn_44 rfl (lv_at hl 0 rfl) ?_
      refine va_get (D := (dC, dI)) (ci := 12) (v := .ref (ad 16)) (C := RX12) (T := TX12) (N := 46) hx hb hts inG12 hown hK hP 0 (gM_0 cs ad nu89) rfl 26 (by decide) (hts _ (List.mem_cons_of_mem _ mw_5_67)) (fun _ h9 => h9) rfl dX12_hadOn_45 ?_
      refine lv_iload_n hx hb dX12_hadOn_48 rfl (lv_at hl 2 rfl) ?_
      refine lv_iconst (v := 1) hx hb dX12_hadOn_49 (by decide) ?_
      refine lv_isub hx hb dX12_hadOn_50 ?_
      refine lq_i 3 (by decide) ?_
      refine va_iald hx hb hK hP 16 0 (gM_16 cs ad nu89) rfl (show vp_in 3 7 from (by unfold vp_in; decide)) dX12_hadOn_51 ?_
      refine lv_topi (fun y94 ey94 => ?_)
      have by94 : y94.toInt = (nu89 16 (3 : Int32).toNatClampNeg).toInt := congrArg Int32.toInt ey94
      have gy94 : 0 ≤ y94.toInt ∧ y94.toInt ≤ 6 := by rw [ey94]; exact rM_16_s ok (3 : Int32).toNatClampNeg
      refine lv_ishl hx hb dX12_hadOn_52 ?_
      refine lv_topi (fun t95 et95 => ?_)
      refine lv_ior hx hb dX12_hadOn_53 ?_
      refine lv_topi (fun t96 et96 => ?_)
      refine va_put (D := (dC, dI)) (ci := 12) (v := .int t96) (ty := .int) (C := RX12) (T := TX12) (N := 46) hx hb hts inG12 tyX12 tyX12_ok nmX12 hown hK hP (wR_D nu89 hD) hS 0 (gM_0 cs ad nu89) rfl 43 (by decide) (hts _ (List.mem_cons_of_mem _ mw_5_84)) (fun _ h9 => h9) rfl (by decide +kernel) rfl rfl (Nat.le_of_ble_eq_true rfl) dX12_hadOn_54 (fun H locs hP _ hS => ?_)
      simp only [List.set_cons_succ, List.set_cons_zero] at hP
      refine wr_gen (upd (nu89 0) 43 t96) hP ((hM_0_43 cs ad _ _)) (fun nu97 hn97 hP => ?_)
      have ok := tM_0_43 ok hn97
      have ez98 : y1 = nu97 2 vr.toNatClampNeg := ez90.trans (congrFun (up_k hn97 (by decide)) vr.toNatClampNeg).symm
      have ez99 : t88 = nu97 0 42 := ez92.trans (up_f hn97 (by decide)).symm
      have ez100 : y94 = nu97 16 (3 : Int32).toNatClampNeg := ey94.trans (congrFun (up_k hn97 (by decide)) (3 : Int32).toNatClampNeg).symm
      have kp101 : ∀ k : Nat, 2 ≤ k → k < 3 → nu97 k = mu k := fun k h1 h2 => (up_k hn97 (ne_lo (by decide) h1).symm).trans (kp91 k h1 h2)
      have ez102 : t96 = nu97 0 43 := up_v hn97
      refine lv_aload_n hx hb dX12_hadOn_57 rfl (lv_at hl 0 rfl) ?_
      refine lv_dup hx hb dX12_hadOn_58 rfl ?_
      refine va_get (D := (dC, dI)) (ci := 12) (v := .int (nu97 0 44)) (C := RX12) (T := TX12) (N := 46) hx hb hts inG12 hown hK hP 0 (gM_0 cs ad nu97) rfl 44 (by decide) (hts _ (List.mem_cons_of_mem _ mw_5_85)) (fun _ h9 => h9) rfl dX12_hadOn_59 ?_
      refine lv_topi (fun y103 ey103 => ?_)
      have by103 : y103.toInt = (nu97 0 44).toInt := congrArg Int32.toInt ey103
      refine lv_iload_n hx hb dX12_hadOn_62 rfl (lv_at hl 3 rfl) ?_
      refine lv_iand hx hb dX12_hadOn_63 ?_
      refine lv_topi (fun t104 et104 => ?_)
      refine va_put (D := (dC, dI)) (ci := 12) (v := .int t104) (ty := .int) (C := RX12) (T := TX12) (N := 46) hx hb hts inG12 tyX12 tyX12_ok nmX12 hown hK hP (wR_D nu97 hD) hS 0 (gM_0 cs ad nu97) rfl 44 (by decide) (hts _ (List.mem_cons_of_mem _ mw_5_85)) (fun _ h9 => h9) rfl (by decide +kernel) rfl rfl (Nat.le_of_ble_eq_true rfl) dX12_hadOn_64 (fun H locs hP _ hS => ?_)
      simp only [List.set_cons_succ, List.set_cons_zero] at hP
      refine wr_gen (upd (nu97 0) 44 t104) hP ((hM_0_44 cs ad _ _)) (fun nu105 hn105 hP => ?_)
      have ok := tM_0_44 ok hn105
      have ez106 : y1 = nu105 2 vr.toNatClampNeg := ez98.trans (congrFun (up_k hn105 (by decide)) vr.toNatClampNeg).symm
      have ez107 : t88 = nu105 0 42 := ez99.trans (up_f hn105 (by decide)).symm
      have ez108 : y94 = nu105 16 (3 : Int32).toNatClampNeg := ez100.trans (congrFun (up_k hn105 (by decide)) (3 : Int32).toNatClampNeg).symm
      have ez109 : t96 = nu105 0 43 := ez102.trans (up_f hn105 (by decide)).symm
      have kp110 : ∀ k : Nat, 2 ≤ k → k < 3 → nu105 k = mu k := fun k h1 h2 => (up_k hn105 (ne_lo (by decide) h1).symm).trans (kp101 k h1 h2)
      have ez111 : t104 = nu105 0 44 := up_v hn105
      exact W.vret hx hb hr (fun t ht hW => ⟨⟨nu105, rfl, ⟨ok, trivial, kp110⟩, by first | (subst ht; exact hP) | (rw [ht]; exact hP) | (show va_P (dC, dI) vwCl (wR 21 ad (EM cs ad) nu105) t.heap; rw [ht]; exact hP)⟩, hS.F ht⟩) hS.2.2 dX12_hadOn_67
set_option maxHeartbeats 4000000 in
set_option maxRecDepth 100000 in
/-- sm_hadOn3 -/
theorem sm_hadOn3 (l : Launch) (dC : Nat → ClassId) (dI : Nat → Nat → Nat) (cs : Nat → ClassId) (ad : Nat → Nat) (mu : Nat → Nat → Int32) (ok : okR loM hiM mu) (H : Heap) (hP : va_P (dC, dI) vwCl (wR 21 ad (EM cs ad) mu) H) (hD0 : va_D (fun _ => True) (wR 21 ad (EM cs ad) mu)) (vr : Int32) (vh : Int32) (vp : Int32) (hin0 : 0 ≤ vr.toInt ∧ vr.toInt ≤ 5) (hin1 : 3 ≤ (mu 2 vr.toNatClampNeg).toInt + 1 ∧ (mu 2 vr.toNatClampNeg).toInt ≤ 6) : Met l yX12_hadOn (wU yX12_hadOn cX12_hadOn 10 none) ({ frames := 5, cells := 0, slots := 0, locals := 139 }) (va_Pc [.ref (ad 0), .int vr, .int 3, .int vh, .int vp] (sz_P (dC, dI) vwCl (tyM cs) H)) (va_Qv (fun (xi : Nat → Nat → Int32) => okR loM hiM xi ∧ (True) ∧ (∀ k : Nat, 2 ≤ k → k < 3 → xi k = mu k)) (fun xi t => va_P (dC, dI) vwCl (wR 21 ad (EM cs ad) xi) t.heap) (va_A (wR 21 ad (EM cs ad) mu) H.size)) 0 0 (va_A (wR 21 ad (EM cs ad) mu) H.size) := by
  refine Met.ofW (cc := cX12_hadOn) (maxL := 10) (ret := none) (by decide) rfl ?_
  intro p e s m args below meth c s₁ B hml hv
  obtain ⟨rfl, hh, hK, hz⟩ := hv
  have hx := B.exec
  have hb := B.bytes
  have hr := B.returns
  have hts := atoms_spec (ws := (wU yX12_hadOn cX12_hadOn 10 none)) B.pre
  have hown : s.vm.findClass RX12 = some m.cls := findClass_of_methodNamed B.named
  have hlocks := B.notSynchronized
  subst hh
  have hD := hD0.self (sz := s.heap.size)
  have hA : ∀ q : Nat, s.heap.size ≤ q → (va_A (wR 21 ad (EM cs ad) mu) s.heap.size) q := fun q h => Or.inr h
  have hS : va_S (va_A (wR 21 ad (EM cs ad) mu) s.heap.size) s.heap s.heap [] := va_S.rf
  have hl := lv_entry ([.ref (ad 0), .int vr, .int 3, .int vh, .int vp]) (n := 10) (Nat.le_of_ble_eq_true rfl)
  rw [lg_entry_eq]
  generalize (lg_sl ([.ref (ad 0), .int vr, .int 3, .int vh, .int vp]) ++ List.replicate (10 - (lg_sl ([.ref (ad 0), .int vr, .int 3, .int vh, .int vp])).length) Slot.unset).toArray = ls at hl ⊢
  have hl : lv_has ls 10 [(0, .ref (ad 0)), (1, .int vr), (2, .int 3), (3, .int vh), (4, .int vp)] := hl
  refine lv_iload_n hx hb dX12_hadOn_0 rfl (lv_at hl 2 rfl) ?_
  refine lv_aload_n hx hb dX12_hadOn_1 rfl (lv_at hl 0 rfl) ?_
  refine va_get (D := (dC, dI)) (ci := 12) (v := .ref (ad 2)) (C := RX12) (T := TX12) (N := 46) hx hb hts inG12 hown hK hP 0 (gM_0 cs ad mu) rfl 3 (by decide) (hts _ (List.mem_cons_of_mem _ mw_5_44)) (fun _ h9 => h9) rfl dX12_hadOn_2 ?_
  refine lv_iload_n hx hb dX12_hadOn_5 rfl (lv_at hl 1 rfl) ?_
  refine va_iald hx hb hK hP 2 0 (gM_2 cs ad mu) rfl (show vp_in vr 6 from vi_of (by omega) (by omega)) dX12_hadOn_6 ?_
  refine lv_topi (fun y1 ey1 => ?_)
  have by1 : y1.toInt = (mu 2 vr.toNatClampNeg).toInt := congrArg Int32.toInt ey1
  have gy1 : -9 ≤ y1.toInt ∧ y1.toInt ≤ 40 := by rw [ey1]; exact rM_2_s ok vr.toNatClampNeg
  refine lv_iconst (v := 1) hx hb dX12_hadOn_7 (by decide) ?_
  refine lv_iadd hx hb dX12_hadOn_8 ?_
  refine lv_topi (fun t2 et2 => ?_)
  have at2 : t2.toInt = y1.toInt + 1 := by rw [et2]; exact tI_add (rfl : y1.toInt = _) (rfl : (1 : Int32).toInt = 1) (by omega) (by omega)
  refine lv_icmp_ne (tgt := 68) hx hb dX12_hadOn_9 (by decide) (fun c_3 => ?_) (fun c_3 => ?_)
  · have c_3 : ¬ 3 = t2.toInt := il_ne c_3
    refine lv_aload_n hx hb dX12_hadOn_68 rfl (lv_at hl 0 rfl) ?_
    refine va_get (D := (dC, dI)) (ci := 12) (v := .ref (ad 16)) (C := RX12) (T := TX12) (N := 46) hx hb hts inG12 hown hK hP 0 (gM_0 cs ad mu) rfl 26 (by decide) (hts _ (List.mem_cons_of_mem _ mw_5_67)) (fun _ h9 => h9) rfl dX12_hadOn_69 ?_
    refine lv_iload_n hx hb dX12_hadOn_72 rfl (lv_at hl 2 rfl) ?_
    refine lv_iconst (v := 1) hx hb dX12_hadOn_73 (by decide) ?_
    refine lv_isub hx hb dX12_hadOn_74 ?_
    refine lq_i 2 (by decide) ?_
    refine va_iald hx hb hK hP 16 0 (gM_16 cs ad mu) rfl (show vp_in 2 7 from (by unfold vp_in; decide)) dX12_hadOn_75 ?_
    refine lv_topi (fun y4 ey4 => ?_)
    have by4 : y4.toInt = (mu 16 (2 : Int32).toNatClampNeg).toInt := congrArg Int32.toInt ey4
    have gy4 : 0 ≤ y4.toInt ∧ y4.toInt ≤ 6 := by rw [ey4]; exact rM_16_s ok (2 : Int32).toNatClampNeg
    refine lv_istore (lv' := [(5, .int y4), (0, .ref (ad 0)), (1, .int vr), (2, .int 3), (3, .int vh), (4, .int vp)]) hx hb dX12_hadOn_76 hl (by decide) rfl (fun ls hl => ?_)
    refine lv_aload_n hx hb dX12_hadOn_78 rfl (lv_at hl 1 rfl) ?_
    refine lv_iload hx hb dX12_hadOn_79 (lv_at hl 0 rfl) ?_
    refine lv_iload hx hb dX12_hadOn_81 (lv_at hl 5 rfl) ?_
    refine cr_i (va_runV (As := [.int y4, .int vp]) (rest := []) ⟨hx, hb, hml, hown, hts⟩ (sm_asksOf l dC dI cs ad mu ok s.heap hP y4 vp (by omega)) (cwV 2 hts (wU_V mw_6_74 mw_6_71 mw_6_73 mw_0_42 mw_1_13) rfl rfl rfl (by decide +kernel) ⟨Nat.le_of_ble_eq_true rfl, Nat.le_of_ble_eq_true rfl⟩) ⟨sz_c, va_recv hK hP (ci := 12) (q0 := 0) rfl (gM_0 cs ad mu), sz_m hK hz⟩ rfl rfl hl.1 rfl (lv_room (Nat.le_of_ble_eq_true rfl)) dX12_hadOn_83 ⟨Nat.zero_le _, Nat.zero_le _⟩) hS (fun r5 hw5 locs hS => ?_)
    refine lv_istore (lv' := [(6, .int r5), (5, .int y4), (0, .ref (ad 0)), (1, .int vr), (2, .int 3), (3, .int vh), (4, .int vp)]) hx hb dX12_hadOn_86 hl (by decide) rfl (fun ls hl => ?_)
    refine lv_iload hx hb dX12_hadOn_88 (lv_at hl 0 rfl) ?_
    refine lv_aload_n hx hb dX12_hadOn_90 rfl (lv_at hl 2 rfl) ?_
    refine lv_iload_n hx hb dX12_hadOn_91 rfl (lv_at hl 3 rfl) ?_
    refine lv_iload_n hx hb dX12_hadOn_92 rfl (lv_at hl 4 rfl) ?_
    refine lv_iconst (v := 1) hx hb dX12_hadOn_93 (by decide) ?_
    refine lv_isub hx hb dX12_hadOn_94 ?_
    refine lq_i 2 (by decide) ?_
    refine cr_i (va_runV (As := [.int vr, .int 2]) (rest := [.int r5]) ⟨hx, hb, hml, hown, hts⟩ (sm_rowAt l dC dI cs ad mu ok s.heap hP vr 2 (by have h51 : (2 : Int32).toInt = 2 := rfl; omega)) (cwV 2 hts (wU_V mw_5_209 mw_5_206 mw_5_208 mw_0_29 mw_1_13) rfl rfl rfl (by decide +kernel) ⟨Nat.le_of_ble_eq_true rfl, Nat.le_of_ble_eq_true rfl⟩) ⟨sz_c, va_recv hK hP (ci := 12) (q0 := 0) rfl (gM_0 cs ad mu), sz_m hK hz⟩ rfl rfl hl.1 rfl (lv_room (Nat.le_of_ble_eq_true rfl)) dX12_hadOn_95 ⟨Nat.zero_le _, Nat.zero_le _⟩) hS (fun r6 hw6 locs hS => ?_)
    refine lv_icmp_ne (tgt := 121) hx hb dX12_hadOn_98 (by decide) (fun c_7 => ?_) (fun c_7 => ?_)
    · have c_7 : ¬ r5.toInt = r6.toInt := il_ne c_7
      refine lv_iconst (v := 0) hx hb dX12_hadOn_121 (by decide) ?_
      refine lv_istore (lv' := [(7, .int 0), (6, .int r5), (5, .int y4), (0, .ref (ad 0)), (1, .int vr), (2, .int 3), (3, .int vh), (4, .int vp)]) hx hb dX12_hadOn_122 hl (by decide) rfl (fun ls hl => ?_)
      refine lv_iload hx hb dX12_hadOn_124 (lv_at hl 0 rfl) ?_
      refine lv_if_eq (tgt := 142) hx hb dX12_hadOn_126 (by decide) (fun _ => ?_) (fun c => absurd (by decide) c)
      refine lv_iconst (v := 0) hx hb dX12_hadOn_142 (by decide) ?_
      refine lv_istore (lv' := [(8, .int 0), (7, .int 0), (6, .int r5), (5, .int y4), (0, .ref (ad 0)), (1, .int vr), (2, .int 3), (3, .int vh), (4, .int vp)]) hx hb dX12_hadOn_143 hl (by decide) rfl (fun ls hl => ?_)
      refine lv_iconst (v := 0) hx hb dX12_hadOn_145 (by decide) ?_
      refine lv_istore (lv' := [(9, .int 0), (8, .int 0), (7, .int 0), (6, .int r5), (5, .int y4), (0, .ref (ad 0)), (1, .int vr), (2, .int 3), (3, .int vh), (4, .int vp)]) hx hb dX12_hadOn_146 hl (by decide) rfl (fun ls hl => ?_)
      have loop148 : ∀ (n148 : Nat) (v9_148 : Int32) (nu148_ : Nat → Nat → Int32) (H : Heap) (locs : List Loc) (ls : Array Slot), (7 + 1 - v9_148.toInt).toNat < n148 → (0 ≤ v9_148.toInt ∧ v9_148.toInt ≤ 7) → okR loM hiM nu148_ → va_P (dC, dI) vwCl (wR 21 ad (EM cs ad) nu148_) H → y1 = nu148_ 2 vr.toNatClampNeg → (∀ k : Nat, 2 ≤ k → k < 3 → nu148_ k = mu k) → va_S (va_A (wR 21 ad (EM cs ad) mu) s.heap.size) s.heap H locs → lv_has ls 10 [(9, .int v9_148), (8, .int 0), (7, .int 0), (6, .int r5), (5, .int y4), (0, .ref (ad 0)), (1, .int vr), (2, .int 3), (3, .int vh), (4, .int vp)] → W p l e (headSpec (wU yX12_hadOn cX12_hadOn 10 none) ({ frames := 5, cells := 0, slots := 0, locals := 139 })).room s m ([.ref (ad 0), .int vr, .int 3, .int vh, .int vp] : List Value).toArray below meth c H locs 0 0 (MQ below (va_Qv (fun (xi : Nat → Nat → Int32) => okR loM hiM xi ∧ (True) ∧ (∀ k : Nat, 2 ≤ k → k < 3 → xi k = mu k)) (fun xi t => va_P (dC, dI) vwCl (wR 21 ad (EM cs ad) xi) t.heap) (va_A (wR 21 ad (EM cs ad) mu) s.heap.size)) ([.ref (ad 0), .int vr, .int 3, .int vh, .int vp] : List Value).toArray s 0 0 (va_A (wR 21 ad (EM cs ad) mu) s.heap.size)) (F0 m 148 ls []) := by
        intro n148
        induction n148 with
        | zero => intro v9_148 nu148_ H locs ls hm; exact absurd hm (Nat.not_lt_zero _)
        | succ n148 ih148 =>
          intro v9_148 nu148_ H locs ls hm h_v9_148 ok hP ek148_0 kq148_0 hS hl
          refine lv_iload hx hb dX12_hadOn_148 (lv_at hl 0 rfl) ?_
          refine lv_aload_n hx hb dX12_hadOn_150 rfl (lv_at hl 5 rfl) ?_
          refine va_get (D := (dC, dI)) (ci := 12) (v := .int (nu148_ 0 8)) (C := RX12) (T := TX12) (N := 46) hx hb hts inG12 hown hK hP 0 (gM_0 cs ad nu148_) rfl 8 (by decide) (hts _ (List.mem_cons_of_mem _ mw_5_49)) (fun _ h9 => h9) rfl dX12_hadOn_151 ?_
          refine lv_topi (fun y8 ey8 => ?_)
          have by8 : y8.toInt = (nu148_ 0 8).toInt := congrArg Int32.toInt ey8
          have gy8 : 0 ≤ y8.toInt ∧ y8.toInt ≤ 7 := by rw [ey8]; exact rM_0_8 ok
          refine lv_icmp_ge (tgt := 197) hx hb dX12_hadOn_154 (by decide) (fun c_9 => ?_) (fun c_9 => ?_)
          · have c_9 : y8.toInt ≤ v9_148.toInt := il_le c_9
            exact W.vret hx hb hr (fun t ht hW => ⟨⟨nu148_, rfl, ⟨ok, trivial, kq148_0⟩, by first | (subst ht; exact hP) | (rw [ht]; exact hP) | (show va_P (dC, dI) vwCl (wR 21 ad (EM cs ad) nu148_) t.heap; rw [ht]; exact hP)⟩, hS.F ht⟩) hS.2.2 dX12_hadOn_197
          · have c_9 : v9_148.toInt < y8.toInt := il_nle c_9
            refine lv_iload hx hb dX12_hadOn_157 (lv_at hl 1 rfl) ?_
            refine lv_iload hx hb dX12_hadOn_159 (lv_at hl 0 rfl) ?_
            refine cr_i (va_runS (As := [.int 0, .int v9_148]) (rest := []) ⟨hx, hb, hml, hown, hts⟩ (sm_has l dC dI (tyM cs) H 0 v9_148) (va_cwS 2 hts (wU_S mw_6_59 mw_6_57 mw_6_58 mw_1_13) rfl rfl rfl (by decide +kernel) ⟨Nat.le_of_ble_eq_true rfl, Nat.le_of_ble_eq_true rfl⟩) ⟨sz_c, sz_m hK hz⟩ rfl rfl hl.1 rfl (lv_room (Nat.le_of_ble_eq_true rfl)) dX12_hadOn_161 ⟨Nat.zero_le _, Nat.zero_le _⟩) hS (fun r10 hw10 locs hS => ?_)
            rcases hw10 with ⟨rfl, f10⟩ | ⟨rfl, f10⟩
            · have f10 : rb (0 : Int32) v9_148 = 1 := f10
              refine lv_if_eq (tgt := 191) hx hb dX12_hadOn_164 (by decide) (fun c => absurd c (by decide)) (fun _ => ?_)
              refine lv_aload_n hx hb dX12_hadOn_167 rfl (lv_at hl 5 rfl) ?_
              refine va_get (D := (dC, dI)) (ci := 12) (v := .ref (ad 16)) (C := RX12) (T := TX12) (N := 46) hx hb hts inG12 hown hK hP 0 (gM_0 cs ad nu148_) rfl 26 (by decide) (hts _ (List.mem_cons_of_mem _ mw_5_67)) (fun _ h9 => h9) rfl dX12_hadOn_168 ?_
              refine lv_iload_n hx hb dX12_hadOn_171 rfl (lv_at hl 7 rfl) ?_
              refine lv_iload hx hb dX12_hadOn_172 (lv_at hl 0 rfl) ?_
              refine va_iast hx hb hK hP (wR_D nu148_ hD) hS 16 0 (gM_16 cs ad nu148_) rfl (show vp_in 3 7 from (by unfold vp_in; decide)) dX12_hadOn_174 (fun H locs hP _ hS => ?_)
              refine wr_gen (upd (nu148_ 16) (3 : Int32).toNatClampNeg v9_148) hP (rfl) (fun nu11 hn11 hP => ?_)
              have ok := tM_16_s ok (3 : Int32).toNatClampNeg hn11 (by exact ⟨by omega, by omega⟩)
              have ez12 : y1 = nu11 2 vr.toNatClampNeg := ek148_0.trans (congrFun (up_k hn11 (by decide)) vr.toNatClampNeg).symm
              have ez13 : y8 = nu11 0 8 := ey8.trans (congrFun (up_k hn11 (by decide)) 8).symm
              have kp14 : ∀ k : Nat, 2 ≤ k → k < 3 → nu11 k = mu k := fun k h1 h2 => (up_k hn11 (ne_hi (by decide) h2).symm).trans (kq148_0 k h1 h2)
              refine lv_aload_n hx hb dX12_hadOn_175 rfl (lv_at hl 5 rfl) ?_
              refine lv_iload_n hx hb dX12_hadOn_176 rfl (lv_at hl 6 rfl) ?_
              refine lv_iload_n hx hb dX12_hadOn_177 rfl (lv_at hl 7 rfl) ?_
              refine lv_iconst (v := 1) hx hb dX12_hadOn_178 (by decide) ?_
              refine lv_iadd hx hb dX12_hadOn_179 ?_
              refine lq_i 4 (by decide) ?_
              refine lv_iload_n hx hb dX12_hadOn_180 rfl (lv_at hl 8 rfl) ?_
              refine lv_iconst (v := 1) hx hb dX12_hadOn_181 (by decide) ?_
              refine lv_iload hx hb dX12_hadOn_182 (lv_at hl 0 rfl) ?_
              refine lv_ishl hx hb dX12_hadOn_184 ?_
              refine lv_topi (fun t15 et15 => ?_)
              refine lv_ior hx hb dX12_hadOn_185 ?_
              refine lv_topi (fun t16 et16 => ?_)
              refine lv_iload hx hb dX12_hadOn_186 (lv_at hl 3 rfl) ?_
              have hFc := fr_all (wR_D nu11 hD) hS hA
              refine va_callv (va_runV (As := [.int vr, .int 4, .int t16, .int r5]) (rest := []) ⟨hx, hb, hml, hown, hts⟩ (sm_hadOn4 l dC dI cs ad nu11 ok H hP ((wR_D nu11 hD).weaken (fun _ _ _ _ => trivial)) vr t16 r5 (by have h51 : (4 : Int32).toInt = 4 := rfl; omega) (by have h51 : (4 : Int32).toInt = 4 := rfl; have hb17 := congrArg Int32.toInt ez12; omega)) (cwV 4 hts (wU_V mw_7_24 mw_7_21 mw_7_23 mw_0_62 mw_1_13) rfl rfl rfl (by decide +kernel) ⟨Nat.le_of_ble_eq_true rfl, Nat.le_of_ble_eq_true rfl⟩) ⟨sz_c, va_recv hK hP (ci := 12) (q0 := 0) rfl (gM_0 cs ad nu11), sz_m hK hz⟩ rfl rfl hl.1 rfl (lv_room (Nat.le_of_ble_eq_true rfl)) dX12_hadOn_188 ⟨Nat.zero_le _, Nat.zero_le _⟩) hS (fun q _ h => hFc q h) hFc (fun xi18 t H18 locs ht hvm hw18 hB hz1 hk1 hS => ?_)
              have hP : va_P (dC, dI) vwCl (wR 21 ad (EM cs ad) xi18) H18 := by rw [← ht]; exact hB
              obtain ⟨ok, hw18, hkp18_0⟩ := hw18
              have ez19 : y1 = xi18 2 vr.toNatClampNeg := ez12.trans (congrFun (hkp18_0 2 (by decide) (by decide)) vr.toNatClampNeg).symm
              have kp20 : ∀ k : Nat, 2 ≤ k → k < 3 → xi18 k = mu k := fun k h1 h2 => (hkp18_0 k (Nat.le_trans (by decide) h1) (Nat.lt_of_lt_of_le h2 (by decide))).trans (kp14 k h1 h2)
              refine lv_iinc (v := (v9_148 + 1)) (lv' := [(9, .int (v9_148 + 1)), (8, .int 0), (7, .int 0), (6, .int r5), (5, .int y4), (0, .ref (ad 0)), (1, .int vr), (2, .int 3), (3, .int vh), (4, .int vp)]) hx hb dX12_hadOn_191 hl (k := 0) rfl rfl (by decide) rfl (fun ls hl => ?_)
              refine loc_gen (P := fun w9 => lv_has ls 10 [(9, .int w9), (8, .int 0), (7, .int 0), (6, .int r5), (5, .int y4), (0, .ref (ad 0)), (1, .int vr), (2, .int 3), (3, .int vh), (4, .int vp)]) (v9_148 + 1) hl (fun w21 hw21 hl => ?_)
              have hl : lv_has ls 10 [(9, .int w21), (8, .int 0), (7, .int 0), (6, .int r5), (5, .int y4), (0, .ref (ad 0)), (1, .int vr), (2, .int 3), (3, .int vh), (4, .int vp)] := hl
              have aw21 : w21.toInt = v9_148.toInt + 1 := by rw [← hw21]; exact tI_add (rfl : v9_148.toInt = _) (rfl : (1 : Int32).toInt = 1) (by omega) (by omega)
              refine lv_goto (tgt := 148) hx hb dX12_hadOn_194 (by decide) ?_
              exact ih148 (w21) xi18 _ _ _ (by omega) (by exact ⟨by omega, by omega⟩)  ok hP ez19 kp20 hS (lv_sub hl [0, 1, 2, 3, 4, 5, 6, 7, 8, 9] rfl)
            · have f10 : ¬ rb (0 : Int32) v9_148 = 1 := f10
              refine lv_if_eq (tgt := 191) hx hb dX12_hadOn_164 (by decide) (fun _ => ?_) (fun c => absurd (by decide) c)
              refine lv_iinc (v := (v9_148 + 1)) (lv' := [(9, .int (v9_148 + 1)), (8, .int 0), (7, .int 0), (6, .int r5), (5, .int y4), (0, .ref (ad 0)), (1, .int vr), (2, .int 3), (3, .int vh), (4, .int vp)]) hx hb dX12_hadOn_191 hl (k := 0) rfl rfl (by decide) rfl (fun ls hl => ?_)
              refine loc_gen (P := fun w9 => lv_has ls 10 [(9, .int w9), (8, .int 0), (7, .int 0), (6, .int r5), (5, .int y4), (0, .ref (ad 0)), (1, .int vr), (2, .int 3), (3, .int vh), (4, .int vp)]) (v9_148 + 1) hl (fun w22 hw22 hl => ?_)
              have hl : lv_has ls 10 [(9, .int w22), (8, .int 0), (7, .int 0), (6, .int r5), (5, .int y4), (0, .ref (ad 0)), (1, .int vr), (2, .int 3), (3, .int vh), (4, .int vp)] := hl
              have aw22 : w22.toInt = v9_148.toInt + 1 := by rw [← hw22]; exact tI_add (rfl : v9_148.toInt = _) (rfl : (1 : Int32).toInt = 1) (by omega) (by omega)
              refine lv_goto (tgt := 148) hx hb dX12_hadOn_194 (by decide) ?_
              exact ih148 (w22) nu148_ _ _ _ (by omega) (by exact ⟨by omega, by omega⟩)  ok hP ek148_0 kq148_0 hS (lv_sub hl [0, 1, 2, 3, 4, 5, 6, 7, 8, 9] rfl)
      exact loop148 ((7 + 1 - (0 : Int32).toInt).toNat + 1) (0) mu _ _ _ (Nat.lt_succ_self _) (by have h80 : (0 : Int32).toInt = 0 := rfl; exact ⟨by omega, by omega⟩)  ok hP ey1 (fun _ _ _ => rfl) hS hl
    · have c_7 : r5.toInt = r6.toInt := il_eq c_7
      refine lv_iload_n hx hb dX12_hadOn_101 rfl (lv_at hl 4 rfl) ?_
      refine lv_iconst (v := 1) hx hb dX12_hadOn_102 (by decide) ?_
      refine lv_icmp_eq (tgt := 117) hx hb dX12_hadOn_103 (by decide) (fun c => absurd c (by decide)) (fun _ => ?_)
      refine lv_aload_n hx hb dX12_hadOn_106 rfl (lv_at hl 2 rfl) ?_
      refine va_get (D := (dC, dI)) (ci := 12) (v := .ref (ad 7)) (C := RX12) (T := TX12) (N := 46) hx hb hts inG12 hown hK hP 0 (gM_0 cs ad mu) rfl 9 (by decide) (hts _ (List.mem_cons_of_mem _ mw_5_50)) (fun _ h9 => h9) rfl dX12_hadOn_107 ?_
      refine lv_iload hx hb dX12_hadOn_110 (lv_at hl 1 rfl) ?_
      refine va_iald hx hb hK hP 7 0 (gM_7 cs ad mu) rfl (show vp_in y4 7 from vi_of (by omega) (by omega)) dX12_hadOn_112 ?_
      refine lv_topi (fun y23 ey23 => ?_)
      have by23 : y23.toInt = (mu 7 y4.toNatClampNeg).toInt := congrArg Int32.toInt ey23
      refine lv_iconst (v := 3) hx hb dX12_hadOn_113 (by decide) ?_
      refine lv_icmp_eq (tgt := 121) hx hb dX12_hadOn_114 (by decide) (fun c_24 => ?_) (fun c_24 => ?_)
      · have c_24 : y23.toInt = 3 := il_eq c_24
        refine lv_iconst (v := 0) hx hb dX12_hadOn_121 (by decide) ?_
        refine lv_istore (lv' := [(7, .int 0), (6, .int r5), (5, .int y4), (0, .ref (ad 0)), (1, .int vr), (2, .int 3), (3, .int vh), (4, .int vp)]) hx hb dX12_hadOn_122 hl (by decide) rfl (fun ls hl => ?_)
        refine lv_iload hx hb dX12_hadOn_124 (lv_at hl 0 rfl) ?_
        refine lv_if_eq (tgt := 142) hx hb dX12_hadOn_126 (by decide) (fun _ => ?_) (fun c => absurd (by decide) c)
        refine lv_iconst (v := 0) hx hb dX12_hadOn_142 (by decide) ?_
        refine lv_istore (lv' := [(8, .int 0), (7, .int 0), (6, .int r5), (5, .int y4), (0, .ref (ad 0)), (1, .int vr), (2, .int 3), (3, .int vh), (4, .int vp)]) hx hb dX12_hadOn_143 hl (by decide) rfl (fun ls hl => ?_)
        refine lv_iconst (v := 0) hx hb dX12_hadOn_145 (by decide) ?_
        refine lv_istore (lv' := [(9, .int 0), (8, .int 0), (7, .int 0), (6, .int r5), (5, .int y4), (0, .ref (ad 0)), (1, .int vr), (2, .int 3), (3, .int vh), (4, .int vp)]) hx hb dX12_hadOn_146 hl (by decide) rfl (fun ls hl => ?_)
        have loop148 : ∀ (n148 : Nat) (v9_148 : Int32) (nu148_ : Nat → Nat → Int32) (H : Heap) (locs : List Loc) (ls : Array Slot), (7 + 1 - v9_148.toInt).toNat < n148 → (0 ≤ v9_148.toInt ∧ v9_148.toInt ≤ 7) → okR loM hiM nu148_ → va_P (dC, dI) vwCl (wR 21 ad (EM cs ad) nu148_) H → y1 = nu148_ 2 vr.toNatClampNeg → (∀ k : Nat, 2 ≤ k → k < 3 → nu148_ k = mu k) → va_S (va_A (wR 21 ad (EM cs ad) mu) s.heap.size) s.heap H locs → lv_has ls 10 [(9, .int v9_148), (8, .int 0), (7, .int 0), (6, .int r5), (5, .int y4), (0, .ref (ad 0)), (1, .int vr), (2, .int 3), (3, .int vh), (4, .int vp)] → W p l e (headSpec (wU yX12_hadOn cX12_hadOn 10 none) ({ frames := 5, cells := 0, slots := 0, locals := 139 })).room s m ([.ref (ad 0), .int vr, .int 3, .int vh, .int vp] : List Value).toArray below meth c H locs 0 0 (MQ below (va_Qv (fun (xi : Nat → Nat → Int32) => okR loM hiM xi ∧ (True) ∧ (∀ k : Nat, 2 ≤ k → k < 3 → xi k = mu k)) (fun xi t => va_P (dC, dI) vwCl (wR 21 ad (EM cs ad) xi) t.heap) (va_A (wR 21 ad (EM cs ad) mu) s.heap.size)) ([.ref (ad 0), .int vr, .int 3, .int vh, .int vp] : List Value).toArray s 0 0 (va_A (wR 21 ad (EM cs ad) mu) s.heap.size)) (F0 m 148 ls []) := by
          intro n148
          induction n148 with
          | zero => intro v9_148 nu148_ H locs ls hm; exact absurd hm (Nat.not_lt_zero _)
          | succ n148 ih148 =>
            intro v9_148 nu148_ H locs ls hm h_v9_148 ok hP ek148_0 kq148_0 hS hl
            refine lv_iload hx hb dX12_hadOn_148 (lv_at hl 0 rfl) ?_
            refine lv_aload_n hx hb dX12_hadOn_150 rfl (lv_at hl 5 rfl) ?_
            refine va_get (D := (dC, dI)) (ci := 12) (v := .int (nu148_ 0 8)) (C := RX12) (T := TX12) (N := 46) hx hb hts inG12 hown hK hP 0 (gM_0 cs ad nu148_) rfl 8 (by decide) (hts _ (List.mem_cons_of_mem _ mw_5_49)) (fun _ h9 => h9) rfl dX12_hadOn_151 ?_
            refine lv_topi (fun y25 ey25 => ?_)
            have by25 : y25.toInt = (nu148_ 0 8).toInt := congrArg Int32.toInt ey25
            have gy25 : 0 ≤ y25.toInt ∧ y25.toInt ≤ 7 := by rw [ey25]; exact rM_0_8 ok
            refine lv_icmp_ge (tgt := 197) hx hb dX12_hadOn_154 (by decide) (fun c_26 => ?_) (fun c_26 => ?_)
            · have c_26 : y25.toInt ≤ v9_148.toInt := il_le c_26
              exact W.vret hx hb hr (fun t ht hW => ⟨⟨nu148_, rfl, ⟨ok, trivial, kq148_0⟩, by first | (subst ht; exact hP) | (rw [ht]; exact hP) | (show va_P (dC, dI) vwCl (wR 21 ad (EM cs ad) nu148_) t.heap; rw [ht]; exact hP)⟩, hS.F ht⟩) hS.2.2 dX12_hadOn_197
            · have c_26 : v9_148.toInt < y25.toInt := il_nle c_26
              refine lv_iload hx hb dX12_hadOn_157 (lv_at hl 1 rfl) ?_
              refine lv_iload hx hb dX12_hadOn_159 (lv_at hl 0 rfl) ?_
              refine cr_i (va_runS (As := [.int 0, .int v9_148]) (rest := []) ⟨hx, hb, hml, hown, hts⟩ (sm_has l dC dI (tyM cs) H 0 v9_148) (va_cwS 2 hts (wU_S mw_6_59 mw_6_57 mw_6_58 mw_1_13) rfl rfl rfl (by decide +kernel) ⟨Nat.le_of_ble_eq_true rfl, Nat.le_of_ble_eq_true rfl⟩) ⟨sz_c, sz_m hK hz⟩ rfl rfl hl.1 rfl (lv_room (Nat.le_of_ble_eq_true rfl)) dX12_hadOn_161 ⟨Nat.zero_le _, Nat.zero_le _⟩) hS (fun r27 hw27 locs hS => ?_)
              rcases hw27 with ⟨rfl, f27⟩ | ⟨rfl, f27⟩
              · have f27 : rb (0 : Int32) v9_148 = 1 := f27
                refine lv_if_eq (tgt := 191) hx hb dX12_hadOn_164 (by decide) (fun c => absurd c (by decide)) (fun _ => ?_)
                refine lv_aload_n hx hb dX12_hadOn_167 rfl (lv_at hl 5 rfl) ?_
                refine va_get (D := (dC, dI)) (ci := 12) (v := .ref (ad 16)) (C := RX12) (T := TX12) (N := 46) hx hb hts inG12 hown hK hP 0 (gM_0 cs ad nu148_) rfl 26 (by decide) (hts _ (List.mem_cons_of_mem _ mw_5_67)) (fun _ h9 => h9) rfl dX12_hadOn_168 ?_
                refine lv_iload_n hx hb dX12_hadOn_171 rfl (lv_at hl 7 rfl) ?_
                refine lv_iload hx hb dX12_hadOn_172 (lv_at hl 0 rfl) ?_
                refine va_iast hx hb hK hP (wR_D nu148_ hD) hS 16 0 (gM_16 cs ad nu148_) rfl (show vp_in 3 7 from (by unfold vp_in; decide)) dX12_hadOn_174 (fun H locs hP _ hS => ?_)
                refine wr_gen (upd (nu148_ 16) (3 : Int32).toNatClampNeg v9_148) hP (rfl) (fun nu28 hn28 hP => ?_)
                have ok := tM_16_s ok (3 : Int32).toNatClampNeg hn28 (by exact ⟨by omega, by omega⟩)
                have ez29 : y1 = nu28 2 vr.toNatClampNeg := ek148_0.trans (congrFun (up_k hn28 (by decide)) vr.toNatClampNeg).symm
                have ez30 : y25 = nu28 0 8 := ey25.trans (congrFun (up_k hn28 (by decide)) 8).symm
                have kp31 : ∀ k : Nat, 2 ≤ k → k < 3 → nu28 k = mu k := fun k h1 h2 => (up_k hn28 (ne_hi (by decide) h2).symm).trans (kq148_0 k h1 h2)
                refine lv_aload_n hx hb dX12_hadOn_175 rfl (lv_at hl 5 rfl) ?_
                refine lv_iload_n hx hb dX12_hadOn_176 rfl (lv_at hl 6 rfl) ?_
                refine lv_iload_n hx hb dX12_hadOn_177 rfl (lv_at hl 7 rfl) ?_
                refine lv_iconst (v := 1) hx hb dX12_hadOn_178 (by decide) ?_
                refine lv_iadd hx hb dX12_hadOn_179 ?_
                refine lq_i 4 (by decide) ?_
                refine lv_iload_n hx hb dX12_hadOn_180 rfl (lv_at hl 8 rfl) ?_
                refine lv_iconst (v := 1) hx hb dX12_hadOn_181 (by decide) ?_
                refine lv_iload hx hb dX12_hadOn_182 (lv_at hl 0 rfl) ?_
                refine lv_ishl hx hb dX12_hadOn_184 ?_
                refine lv_topi (fun t32 et32 => ?_)
                refine lv_ior hx hb dX12_hadOn_185 ?_
                refine lv_topi (fun t33 et33 => ?_)
                refine lv_iload hx hb dX12_hadOn_186 (lv_at hl 3 rfl) ?_
                have hFc := fr_all (wR_D nu28 hD) hS hA
                refine va_callv (va_runV (As := [.int vr, .int 4, .int t33, .int r5]) (rest := []) ⟨hx, hb, hml, hown, hts⟩ (sm_hadOn4 l dC dI cs ad nu28 ok H hP ((wR_D nu28 hD).weaken (fun _ _ _ _ => trivial)) vr t33 r5 (by have h51 : (4 : Int32).toInt = 4 := rfl; omega) (by have h51 : (4 : Int32).toInt = 4 := rfl; have hb34 := congrArg Int32.toInt ez29; omega)) (cwV 4 hts (wU_V mw_7_24 mw_7_21 mw_7_23 mw_0_62 mw_1_13) rfl rfl rfl (by decide +kernel) ⟨Nat.le_of_ble_eq_true rfl, Nat.le_of_ble_eq_true rfl⟩) ⟨sz_c, va_recv hK hP (ci := 12) (q0 := 0) rfl (gM_0 cs ad nu28), sz_m hK hz⟩ rfl rfl hl.1 rfl (lv_room (Nat.le_of_ble_eq_true rfl)) dX12_hadOn_188 ⟨Nat.zero_le _, Nat.zero_le _⟩) hS (fun q _ h => hFc q h) hFc (fun xi35 t H35 locs ht hvm hw35 hB hz1 hk1 hS => ?_)
                have hP : va_P (dC, dI) vwCl (wR 21 ad (EM cs ad) xi35) H35 := by rw [← ht]; exact hB
                obtain ⟨ok, hw35, hkp35_0⟩ := hw35
                have ez36 : y1 = xi35 2 vr.toNatClampNeg := ez29.trans (congrFun (hkp35_0 2 (by decide) (by decide)) vr.toNatClampNeg).symm
                have kp37 : ∀ k : Nat, 2 ≤ k → k < 3 → xi35 k = mu k := fun k h1 h2 => (hkp35_0 k (Nat.le_trans (by decide) h1) (Nat.lt_of_lt_of_le h2 (by decide))).trans (kp31 k h1 h2)
                refine lv_iinc (v := (v9_148 + 1)) (lv' := [(9, .int (v9_148 + 1)), (8, .int 0), (7, .int 0), (6, .int r5), (5, .int y4), (0, .ref (ad 0)), (1, .int vr), (2, .int 3), (3, .int vh), (4, .int vp)]) hx hb dX12_hadOn_191 hl (k := 0) rfl rfl (by decide) rfl (fun ls hl => ?_)
                refine loc_gen (P := fun w9 => lv_has ls 10 [(9, .int w9), (8, .int 0), (7, .int 0), (6, .int r5), (5, .int y4), (0, .ref (ad 0)), (1, .int vr), (2, .int 3), (3, .int vh), (4, .int vp)]) (v9_148 + 1) hl (fun w38 hw38 hl => ?_)
                have hl : lv_has ls 10 [(9, .int w38), (8, .int 0), (7, .int 0), (6, .int r5), (5, .int y4), (0, .ref (ad 0)), (1, .int vr), (2, .int 3), (3, .int vh), (4, .int vp)] := hl
                have aw38 : w38.toInt = v9_148.toInt + 1 := by rw [← hw38]; exact tI_add (rfl : v9_148.toInt = _) (rfl : (1 : Int32).toInt = 1) (by omega) (by omega)
                refine lv_goto (tgt := 148) hx hb dX12_hadOn_194 (by decide) ?_
                exact ih148 (w38) xi35 _ _ _ (by omega) (by exact ⟨by omega, by omega⟩)  ok hP ez36 kp37 hS (lv_sub hl [0, 1, 2, 3, 4, 5, 6, 7, 8, 9] rfl)
              · have f27 : ¬ rb (0 : Int32) v9_148 = 1 := f27
                refine lv_if_eq (tgt := 191) hx hb dX12_hadOn_164 (by decide) (fun _ => ?_) (fun c => absurd (by decide) c)
                refine lv_iinc (v := (v9_148 + 1)) (lv' := [(9, .int (v9_148 + 1)), (8, .int 0), (7, .int 0), (6, .int r5), (5, .int y4), (0, .ref (ad 0)), (1, .int vr), (2, .int 3), (3, .int vh), (4, .int vp)]) hx hb dX12_hadOn_191 hl (k := 0) rfl rfl (by decide) rfl (fun ls hl => ?_)
                refine loc_gen (P := fun w9 => lv_has ls 10 [(9, .int w9), (8, .int 0), (7, .int 0), (6, .int r5), (5, .int y4), (0, .ref (ad 0)), (1, .int vr), (2, .int 3), (3, .int vh), (4, .int vp)]) (v9_148 + 1) hl (fun w39 hw39 hl => ?_)
                have hl : lv_has ls 10 [(9, .int w39), (8, .int 0), (7, .int 0), (6, .int r5), (5, .int y4), (0, .ref (ad 0)), (1, .int vr), (2, .int 3), (3, .int vh), (4, .int vp)] := hl
                have aw39 : w39.toInt = v9_148.toInt + 1 := by rw [← hw39]; exact tI_add (rfl : v9_148.toInt = _) (rfl : (1 : Int32).toInt = 1) (by omega) (by omega)
                refine lv_goto (tgt := 148) hx hb dX12_hadOn_194 (by decide) ?_
                exact ih148 (w39) nu148_ _ _ _ (by omega) (by exact ⟨by omega, by omega⟩)  ok hP ek148_0 kq148_0 hS (lv_sub hl [0, 1, 2, 3, 4, 5, 6, 7, 8, 9] rfl)
        exact loop148 ((7 + 1 - (0 : Int32).toInt).toNat + 1) (0) mu _ _ _ (Nat.lt_succ_self _) (by have h80 : (0 : Int32).toInt = 0 := rfl; exact ⟨by omega, by omega⟩)  ok hP ey1 (fun _ _ _ => rfl) hS hl
      · have c_24 : ¬ y23.toInt = 3 := il_ne c_24
        refine lv_iconst (v := 1) hx hb dX12_hadOn_117 (by decide) ?_
        refine lv_goto (tgt := 122) hx hb dX12_hadOn_118 (by decide) ?_
        refine lv_istore (lv' := [(7, .int 1), (6, .int r5), (5, .int y4), (0, .ref (ad 0)), (1, .int vr), (2, .int 3), (3, .int vh), (4, .int vp)]) hx hb dX12_hadOn_122 hl (by decide) rfl (fun ls hl => ?_)
        refine lv_iload hx hb dX12_hadOn_124 (lv_at hl 0 rfl) ?_
        refine lv_if_eq (tgt := 142) hx hb dX12_hadOn_126 (by decide) (fun c => absurd c (by decide)) (fun _ => ?_)
        refine lv_aload_n hx hb dX12_hadOn_129 rfl (lv_at hl 3 rfl) ?_
        refine lv_iload hx hb dX12_hadOn_130 (lv_at hl 2 rfl) ?_
        refine cr_i (va_runV (As := [.int y4]) (rest := []) ⟨hx, hb, hml, hown, hts⟩ (sm_besideOf l dC dI cs ad mu ok s.heap hP y4) (cwV 1 hts (wU_V mw_6_56 mw_6_53 mw_6_55 mw_0_40 mw_1_13) rfl rfl rfl (by decide +kernel) ⟨Nat.le_of_ble_eq_true rfl, Nat.le_of_ble_eq_true rfl⟩) ⟨sz_c, va_recv hK hP (ci := 12) (q0 := 0) rfl (gM_0 cs ad mu), sz_m hK hz⟩ rfl rfl hl.1 rfl (lv_room (Nat.le_of_ble_eq_true rfl)) dX12_hadOn_132 ⟨Nat.zero_le _, Nat.zero_le _⟩) hS (fun r40 hw40 locs hS => ?_)
        refine lv_iload_n hx hb dX12_hadOn_135 rfl (lv_at hl 6 rfl) ?_
        refine lv_iconst (v := (-1)) hx hb dX12_hadOn_136 (by decide) ?_
        refine lv_ixor hx hb dX12_hadOn_137 ?_
        refine lv_topi (fun t41 et41 => ?_)
        refine lv_iand hx hb dX12_hadOn_138 ?_
        refine lv_topi (fun t42 et42 => ?_)
        refine lv_goto (tgt := 143) hx hb dX12_hadOn_139 (by decide) ?_
        refine lv_istore (lv' := [(8, .int t42), (7, .int 1), (6, .int r5), (5, .int y4), (0, .ref (ad 0)), (1, .int vr), (2, .int 3), (3, .int vh), (4, .int vp)]) hx hb dX12_hadOn_143 hl (by decide) rfl (fun ls hl => ?_)
        refine lv_iconst (v := 0) hx hb dX12_hadOn_145 (by decide) ?_
        refine lv_istore (lv' := [(9, .int 0), (8, .int t42), (7, .int 1), (6, .int r5), (5, .int y4), (0, .ref (ad 0)), (1, .int vr), (2, .int 3), (3, .int vh), (4, .int vp)]) hx hb dX12_hadOn_146 hl (by decide) rfl (fun ls hl => ?_)
        have loop148 : ∀ (n148 : Nat) (v9_148 : Int32) (nu148_ : Nat → Nat → Int32) (H : Heap) (locs : List Loc) (ls : Array Slot), (7 + 1 - v9_148.toInt).toNat < n148 → (0 ≤ v9_148.toInt ∧ v9_148.toInt ≤ 7) → okR loM hiM nu148_ → va_P (dC, dI) vwCl (wR 21 ad (EM cs ad) nu148_) H → y1 = nu148_ 2 vr.toNatClampNeg → (∀ k : Nat, 2 ≤ k → k < 3 → nu148_ k = mu k) → va_S (va_A (wR 21 ad (EM cs ad) mu) s.heap.size) s.heap H locs → lv_has ls 10 [(9, .int v9_148), (8, .int t42), (7, .int 1), (6, .int r5), (5, .int y4), (0, .ref (ad 0)), (1, .int vr), (2, .int 3), (3, .int vh), (4, .int vp)] → W p l e (headSpec (wU yX12_hadOn cX12_hadOn 10 none) ({ frames := 5, cells := 0, slots := 0, locals := 139 })).room s m ([.ref (ad 0), .int vr, .int 3, .int vh, .int vp] : List Value).toArray below meth c H locs 0 0 (MQ below (va_Qv (fun (xi : Nat → Nat → Int32) => okR loM hiM xi ∧ (True) ∧ (∀ k : Nat, 2 ≤ k → k < 3 → xi k = mu k)) (fun xi t => va_P (dC, dI) vwCl (wR 21 ad (EM cs ad) xi) t.heap) (va_A (wR 21 ad (EM cs ad) mu) s.heap.size)) ([.ref (ad 0), .int vr, .int 3, .int vh, .int vp] : List Value).toArray s 0 0 (va_A (wR 21 ad (EM cs ad) mu) s.heap.size)) (F0 m 148 ls []) := by
          intro n148
          induction n148 with
          | zero => intro v9_148 nu148_ H locs ls hm; exact absurd hm (Nat.not_lt_zero _)
          | succ n148 ih148 =>
            intro v9_148 nu148_ H locs ls hm h_v9_148 ok hP ek148_0 kq148_0 hS hl
            refine lv_iload hx hb dX12_hadOn_148 (lv_at hl 0 rfl) ?_
            refine lv_aload_n hx hb dX12_hadOn_150 rfl (lv_at hl 5 rfl) ?_
            refine va_get (D := (dC, dI)) (ci := 12) (v := .int (nu148_ 0 8)) (C := RX12) (T := TX12) (N := 46) hx hb hts inG12 hown hK hP 0 (gM_0 cs ad nu148_) rfl 8 (by decide) (hts _ (List.mem_cons_of_mem _ mw_5_49)) (fun _ h9 => h9) rfl dX12_hadOn_151 ?_
            refine lv_topi (fun y43 ey43 => ?_)
            have by43 : y43.toInt = (nu148_ 0 8).toInt := congrArg Int32.toInt ey43
            have gy43 : 0 ≤ y43.toInt ∧ y43.toInt ≤ 7 := by rw [ey43]; exact rM_0_8 ok
            refine lv_icmp_ge (tgt := 197) hx hb dX12_hadOn_154 (by decide) (fun c_44 => ?_) (fun c_44 => ?_)
            · have c_44 : y43.toInt ≤ v9_148.toInt := il_le c_44
              exact W.vret hx hb hr (fun t ht hW => ⟨⟨nu148_, rfl, ⟨ok, trivial, kq148_0⟩, by first | (subst ht; exact hP) | (rw [ht]; exact hP) | (show va_P (dC, dI) vwCl (wR 21 ad (EM cs ad) nu148_) t.heap; rw [ht]; exact hP)⟩, hS.F ht⟩) hS.2.2 dX12_hadOn_197
            · have c_44 : v9_148.toInt < y43.toInt := il_nle c_44
              refine lv_iload hx hb dX12_hadOn_157 (lv_at hl 1 rfl) ?_
              refine lv_iload hx hb dX12_hadOn_159 (lv_at hl 0 rfl) ?_
              refine cr_i (va_runS (As := [.int t42, .int v9_148]) (rest := []) ⟨hx, hb, hml, hown, hts⟩ (sm_has l dC dI (tyM cs) H t42 v9_148) (va_cwS 2 hts (wU_S mw_6_59 mw_6_57 mw_6_58 mw_1_13) rfl rfl rfl (by decide +kernel) ⟨Nat.le_of_ble_eq_true rfl, Nat.le_of_ble_eq_true rfl⟩) ⟨sz_c, sz_m hK hz⟩ rfl rfl hl.1 rfl (lv_room (Nat.le_of_ble_eq_true rfl)) dX12_hadOn_161 ⟨Nat.zero_le _, Nat.zero_le _⟩) hS (fun r45 hw45 locs hS => ?_)
              rcases hw45 with ⟨rfl, f45⟩ | ⟨rfl, f45⟩
              · have f45 : rb t42 v9_148 = 1 := f45
                refine lv_if_eq (tgt := 191) hx hb dX12_hadOn_164 (by decide) (fun c => absurd c (by decide)) (fun _ => ?_)
                refine lv_aload_n hx hb dX12_hadOn_167 rfl (lv_at hl 5 rfl) ?_
                refine va_get (D := (dC, dI)) (ci := 12) (v := .ref (ad 16)) (C := RX12) (T := TX12) (N := 46) hx hb hts inG12 hown hK hP 0 (gM_0 cs ad nu148_) rfl 26 (by decide) (hts _ (List.mem_cons_of_mem _ mw_5_67)) (fun _ h9 => h9) rfl dX12_hadOn_168 ?_
                refine lv_iload_n hx hb dX12_hadOn_171 rfl (lv_at hl 7 rfl) ?_
                refine lv_iload hx hb dX12_hadOn_172 (lv_at hl 0 rfl) ?_
                refine va_iast hx hb hK hP (wR_D nu148_ hD) hS 16 0 (gM_16 cs ad nu148_) rfl (show vp_in 3 7 from (by unfold vp_in; decide)) dX12_hadOn_174 (fun H locs hP _ hS => ?_)
                refine wr_gen (upd (nu148_ 16) (3 : Int32).toNatClampNeg v9_148) hP (rfl) (fun nu46 hn46 hP => ?_)
                have ok := tM_16_s ok (3 : Int32).toNatClampNeg hn46 (by exact ⟨by omega, by omega⟩)
                have ez47 : y1 = nu46 2 vr.toNatClampNeg := ek148_0.trans (congrFun (up_k hn46 (by decide)) vr.toNatClampNeg).symm
                have ez48 : y43 = nu46 0 8 := ey43.trans (congrFun (up_k hn46 (by decide)) 8).symm
                have kp49 : ∀ k : Nat, 2 ≤ k → k < 3 → nu46 k = mu k := fun k h1 h2 => (up_k hn46 (ne_hi (by decide) h2).symm).trans (kq148_0 k h1 h2)
                refine lv_aload_n hx hb dX12_hadOn_175 rfl (lv_at hl 5 rfl) ?_
                refine lv_iload_n hx hb dX12_hadOn_176 rfl (lv_at hl 6 rfl) ?_
                refine lv_iload_n hx hb dX12_hadOn_177 rfl (lv_at hl 7 rfl) ?_
                refine lv_iconst (v := 1) hx hb dX12_hadOn_178 (by decide) ?_
                refine lv_iadd hx hb dX12_hadOn_179 ?_
                refine lq_i 4 (by decide) ?_
                refine lv_iload_n hx hb dX12_hadOn_180 rfl (lv_at hl 8 rfl) ?_
                refine lv_iconst (v := 1) hx hb dX12_hadOn_181 (by decide) ?_
                refine lv_iload hx hb dX12_hadOn_182 (lv_at hl 0 rfl) ?_
                refine lv_ishl hx hb dX12_hadOn_184 ?_
                refine lv_topi (fun t50 et50 => ?_)
                refine lv_ior hx hb dX12_hadOn_185 ?_
                refine lv_topi (fun t51 et51 => ?_)
                refine lv_iload hx hb dX12_hadOn_186 (lv_at hl 3 rfl) ?_
                have hFc := fr_all (wR_D nu46 hD) hS hA
                refine va_callv (va_runV (As := [.int vr, .int 4, .int t51, .int r5]) (rest := []) ⟨hx, hb, hml, hown, hts⟩ (sm_hadOn4 l dC dI cs ad nu46 ok H hP ((wR_D nu46 hD).weaken (fun _ _ _ _ => trivial)) vr t51 r5 (by have h51 : (4 : Int32).toInt = 4 := rfl; omega) (by have h51 : (4 : Int32).toInt = 4 := rfl; have hb52 := congrArg Int32.toInt ez47; omega)) (cwV 4 hts (wU_V mw_7_24 mw_7_21 mw_7_23 mw_0_62 mw_1_13) rfl rfl rfl (by decide +kernel) ⟨Nat.le_of_ble_eq_true rfl, Nat.le_of_ble_eq_true rfl⟩) ⟨sz_c, va_recv hK hP (ci := 12) (q0 := 0) rfl (gM_0 cs ad nu46), sz_m hK hz⟩ rfl rfl hl.1 rfl (lv_room (Nat.le_of_ble_eq_true rfl)) dX12_hadOn_188 ⟨Nat.zero_le _, Nat.zero_le _⟩) hS (fun q _ h => hFc q h) hFc (fun xi53 t H53 locs ht hvm hw53 hB hz1 hk1 hS => ?_)
                have hP : va_P (dC, dI) vwCl (wR 21 ad (EM cs ad) xi53) H53 := by rw [← ht]; exact hB
                obtain ⟨ok, hw53, hkp53_0⟩ := hw53
                have ez54 : y1 = xi53 2 vr.toNatClampNeg := ez47.trans (congrFun (hkp53_0 2 (by decide) (by decide)) vr.toNatClampNeg).symm
                have kp55 : ∀ k : Nat, 2 ≤ k → k < 3 → xi53 k = mu k := fun k h1 h2 => (hkp53_0 k (Nat.le_trans (by decide) h1) (Nat.lt_of_lt_of_le h2 (by decide))).trans (kp49 k h1 h2)
                refine lv_iinc (v := (v9_148 + 1)) (lv' := [(9, .int (v9_148 + 1)), (8, .int t42), (7, .int 1), (6, .int r5), (5, .int y4), (0, .ref (ad 0)), (1, .int vr), (2, .int 3), (3, .int vh), (4, .int vp)]) hx hb dX12_hadOn_191 hl (k := 0) rfl rfl (by decide) rfl (fun ls hl => ?_)
                refine loc_gen (P := fun w9 => lv_has ls 10 [(9, .int w9), (8, .int t42), (7, .int 1), (6, .int r5), (5, .int y4), (0, .ref (ad 0)), (1, .int vr), (2, .int 3), (3, .int vh), (4, .int vp)]) (v9_148 + 1) hl (fun w56 hw56 hl => ?_)
                have hl : lv_has ls 10 [(9, .int w56), (8, .int t42), (7, .int 1), (6, .int r5), (5, .int y4), (0, .ref (ad 0)), (1, .int vr), (2, .int 3), (3, .int vh), (4, .int vp)] := hl
                have aw56 : w56.toInt = v9_148.toInt + 1 := by rw [← hw56]; exact tI_add (rfl : v9_148.toInt = _) (rfl : (1 : Int32).toInt = 1) (by omega) (by omega)
                refine lv_goto (tgt := 148) hx hb dX12_hadOn_194 (by decide) ?_
                exact ih148 (w56) xi53 _ _ _ (by omega) (by exact ⟨by omega, by omega⟩)  ok hP ez54 kp55 hS (lv_sub hl [0, 1, 2, 3, 4, 5, 6, 7, 8, 9] rfl)
              · have f45 : ¬ rb t42 v9_148 = 1 := f45
                refine lv_if_eq (tgt := 191) hx hb dX12_hadOn_164 (by decide) (fun _ => ?_) (fun c => absurd (by decide) c)
                refine lv_iinc (v := (v9_148 + 1)) (lv' := [(9, .int (v9_148 + 1)), (8, .int t42), (7, .int 1), (6, .int r5), (5, .int y4), (0, .ref (ad 0)), (1, .int vr), (2, .int 3), (3, .int vh), (4, .int vp)]) hx hb dX12_hadOn_191 hl (k := 0) rfl rfl (by decide) rfl (fun ls hl => ?_)
                refine loc_gen (P := fun w9 => lv_has ls 10 [(9, .int w9), (8, .int t42), (7, .int 1), (6, .int r5), (5, .int y4), (0, .ref (ad 0)), (1, .int vr), (2, .int 3), (3, .int vh), (4, .int vp)]) (v9_148 + 1) hl (fun w57 hw57 hl => ?_)
                have hl : lv_has ls 10 [(9, .int w57), (8, .int t42), (7, .int 1), (6, .int r5), (5, .int y4), (0, .ref (ad 0)), (1, .int vr), (2, .int 3), (3, .int vh), (4, .int vp)] := hl
                have aw57 : w57.toInt = v9_148.toInt + 1 := by rw [← hw57]; exact tI_add (rfl : v9_148.toInt = _) (rfl : (1 : Int32).toInt = 1) (by omega) (by omega)
                refine lv_goto (tgt := 148) hx hb dX12_hadOn_194 (by decide) ?_
                exact ih148 (w57) nu148_ _ _ _ (by omega) (by exact ⟨by omega, by omega⟩)  ok hP ek148_0 kq148_0 hS (lv_sub hl [0, 1, 2, 3, 4, 5, 6, 7, 8, 9] rfl)
        exact loop148 ((7 + 1 - (0 : Int32).toInt).toNat + 1) (0) mu _ _ _ (Nat.lt_succ_self _) (by have h80 : (0 : Int32).toInt = 0 := rfl; exact ⟨by omega, by omega⟩)  ok hP ey1 (fun _ _ _ => rfl) hS hl
  · have c_3 : 3 = t2.toInt := il_eq c_3
    refine lv_aload_n hx hb dX12_hadOn_12 rfl (lv_at hl 0 rfl) ?_
    refine va_get (D := (dC, dI)) (ci := 12) (v := .int (mu 0 42)) (C := RX12) (T := TX12) (N := 46) hx hb hts inG12 hown hK hP 0 (gM_0 cs ad mu) rfl 42 (by decide) (hts _ (List.mem_cons_of_mem _ mw_5_83)) (fun _ h9 => h9) rfl dX12_hadOn_13 ?_
    refine lv_topi (fun y58 ey58 => ?_)
    have by58 : y58.toInt = (mu 0 42).toInt := congrArg Int32.toInt ey58
    refine lv_if_ne (tgt := 28) hx hb dX12_hadOn_16 (by decide) (fun c_59 => ?_) (fun c_59 => ?_)
    · have c_59 : ¬ y58.toInt = 0 := il_ne c_59
      refine lv_aload_n hx hb dX12_hadOn_28 rfl (lv_at hl 0 rfl) ?_
      refine lv_dup hx hb dX12_hadOn_29 rfl ?_
      refine va_get (D := (dC, dI)) (ci := 12) (v := .int (mu 0 42)) (C := RX12) (T := TX12) (N := 46) hx hb hts inG12 hown hK hP 0 (gM_0 cs ad mu) rfl 42 (by decide) (hts _ (List.mem_cons_of_mem _ mw_5_83)) (fun _ h9 => h9) rfl dX12_hadOn_30 ?_
      refine lq_i y58 ey58.symm ?_
      refine lv_iconst (v := 1) hx hb dX12_hadOn_33 (by decide) ?_
      refine lv_iadd hx hb dX12_hadOn_34 ?_
      refine lv_topi (fun t60 et60 => ?_)
      refine va_put (D := (dC, dI)) (ci := 12) (v := .int t60) (ty := .int) (C := RX12) (T := TX12) (N := 46) hx hb hts inG12 tyX12 tyX12_ok nmX12 hown hK hP (wR_D mu hD) hS 0 (gM_0 cs ad mu) rfl 42 (by decide) (hts _ (List.mem_cons_of_mem _ mw_5_83)) (fun _ h9 => h9) rfl (by decide +kernel) rfl rfl (Nat.le_of_ble_eq_true rfl) dX12_hadOn_35 (fun H locs hP _ hS => ?_)
      simp only [List.set_cons_succ, List.set_cons_zero] at hP
      refine wr_gen (upd (mu 0) 42 t60) hP ((hM_0_42 cs ad _ _)) (fun nu61 hn61 hP => ?_)
      have ok := tM_0_42 ok hn61
      have ez62 : y1 = nu61 2 vr.toNatClampNeg := ey1.trans (congrFun (up_k hn61 (by decide)) vr.toNatClampNeg).symm
      have kp63 : ∀ k : Nat, 2 ≤ k → k < 3 → nu61 k = mu k := fun k h1 h2 => (up_k hn61 (ne_lo (by decide) h1).symm).trans ((fun _ _ _ => rfl) k h1 h2)
      have ez64 : t60 = nu61 0 42 := up_v hn61
      refine lv_aload_n hx hb dX12_hadOn_38 rfl (lv_at hl 0 rfl) ?_
      refine lv_dup hx hb dX12_hadOn_39 rfl ?_
      refine va_get (D := (dC, dI)) (ci := 12) (v := .int (nu61 0 43)) (C := RX12) (T := TX12) (N := 46) hx hb hts inG12 hown hK hP 0 (gM_0 cs ad nu61) rfl 43 (by decide) (hts _ (List.mem_cons_of_mem _ mw_5_84)) (fun _ h9 => h9) rfl dX12_hadOn_40 ?_
      refine lv_topi (fun y65 ey65 => ?_)
      have by65 : y65.toInt = (nu61 0 43).toInt := congrArg Int32.toInt ey65
      refine lv_iconst (v := 1) hx hb dX12_hadOn_43 (by decide) ?_
      refine lv_aload_n hx hb dX12_hadOn_44 rfl (lv_at hl 0 rfl) ?_
      refine va_get (D := (dC, dI)) (ci := 12) (v := .ref (ad 16)) (C := RX12) (T := TX12) (N := 46) hx hb hts inG12 hown hK hP 0 (gM_0 cs ad nu61) rfl 26 (by decide) (hts _ (List.mem_cons_of_mem _ mw_5_67)) (fun _ h9 => h9) rfl dX12_hadOn_45 ?_
      refine lv_iload_n hx hb dX12_hadOn_48 rfl (lv_at hl 2 rfl) ?_
      refine lv_iconst (v := 1) hx hb dX12_hadOn_49 (by decide) ?_
      refine lv_isub hx hb dX12_hadOn_50 ?_
      refine lq_i 2 (by decide) ?_
      refine va_iald hx hb hK hP 16 0 (gM_16 cs ad nu61) rfl (show vp_in 2 7 from (by unfold vp_in; decide)) dX12_hadOn_51 ?_
      refine lv_topi (fun y66 ey66 => ?_)
      have by66 : y66.toInt = (nu61 16 (2 : Int32).toNatClampNeg).toInt := congrArg Int32.toInt ey66
      have gy66 : 0 ≤ y66.toInt ∧ y66.toInt ≤ 6 := by rw [ey66]; exact rM_16_s ok (2 : Int32).toNatClampNeg
      refine lv_ishl hx hb dX12_hadOn_52 ?_
      refine lv_topi (fun t67 et67 => ?_)
      refine lv_ior hx hb dX12_hadOn_53 ?_
      refine lv_topi (fun t68 et68 => ?_)
      refine va_put (D := (dC, dI)) (ci := 12) (v := .int t68) (ty := .int) (C := RX12) (T := TX12) (N := 46) hx hb hts inG12 tyX12 tyX12_ok nmX12 hown hK hP (wR_D nu61 hD) hS 0 (gM_0 cs ad nu61) rfl 43 (by decide) (hts _ (List.mem_cons_of_mem _ mw_5_84)) (fun _ h9 => h9) rfl (by decide +kernel) rfl rfl (Nat.le_of_ble_eq_true rfl) dX12_hadOn_54 (fun H locs hP _ hS => ?_)
      simp only [List.set_cons_succ, List.set_cons_zero] at hP
      refine wr_gen (upd (nu61 0) 43 t68) hP ((hM_0_43 cs ad _ _)) (fun nu69 hn69 hP => ?_)
      have ok := tM_0_43 ok hn69
      have ez70 : y1 = nu69 2 vr.toNatClampNeg := ez62.trans (congrFun (up_k hn69 (by decide)) vr.toNatClampNeg).symm
      have ez71 : t60 = nu69 0 42 := ez64.trans (up_f hn69 (by decide)).symm
      have ez72 : y66 = nu69 16 (2 : Int32).toNatClampNeg := ey66.trans (congrFun (up_k hn69 (by decide)) (2 : Int32).toNatClampNeg).symm
      have kp73 : ∀ k : Nat, 2 ≤ k → k < 3 → nu69 k = mu k := fun k h1 h2 => (up_k hn69 (ne_lo (by decide) h1).symm).trans (kp63 k h1 h2)
      have ez74 : t68 = nu69 0 43 := up_v hn69
      refine lv_aload_n hx hb dX12_hadOn_57 rfl (lv_at hl 0 rfl) ?_
      refine lv_dup hx hb dX12_hadOn_58 rfl ?_
      refine va_get (D := (dC, dI)) (ci := 12) (v := .int (nu69 0 44)) (C := RX12) (T := TX12) (N := 46) hx hb hts inG12 hown hK hP 0 (gM_0 cs ad nu69) rfl 44 (by decide) (hts _ (List.mem_cons_of_mem _ mw_5_85)) (fun _ h9 => h9) rfl dX12_hadOn_59 ?_
      refine lv_topi (fun y75 ey75 => ?_)
      have by75 : y75.toInt = (nu69 0 44).toInt := congrArg Int32.toInt ey75
      refine lv_iload_n hx hb dX12_hadOn_62 rfl (lv_at hl 3 rfl) ?_
      refine lv_iand hx hb dX12_hadOn_63 ?_
      refine lv_topi (fun t76 et76 => ?_)
      refine va_put (D := (dC, dI)) (ci := 12) (v := .int t76) (ty := .int) (C := RX12) (T := TX12) (N := 46) hx hb hts inG12 tyX12 tyX12_ok nmX12 hown hK hP (wR_D nu69 hD) hS 0 (gM_0 cs ad nu69) rfl 44 (by decide) (hts _ (List.mem_cons_of_mem _ mw_5_85)) (fun _ h9 => h9) rfl (by decide +kernel) rfl rfl (Nat.le_of_ble_eq_true rfl) dX12_hadOn_64 (fun H locs hP _ hS => ?_)
      simp only [List.set_cons_succ, List.set_cons_zero] at hP
      refine wr_gen (upd (nu69 0) 44 t76) hP ((hM_0_44 cs ad _ _)) (fun nu77 hn77 hP => ?_)
      have ok := tM_0_44 ok hn77
      have ez78 : y1 = nu77 2 vr.toNatClampNeg := ez70.trans (congrFun (up_k hn77 (by decide)) vr.toNatClampNeg).symm
      have ez79 : t60 = nu77 0 42 := ez71.trans (up_f hn77 (by decide)).symm
      have ez80 : y66 = nu77 16 (2 : Int32).toNatClampNeg := ez72.trans (congrFun (up_k hn77 (by decide)) (2 : Int32).toNatClampNeg).symm
      have ez81 : t68 = nu77 0 43 := ez74.trans (up_f hn77 (by decide)).symm
      have kp82 : ∀ k : Nat, 2 ≤ k → k < 3 → nu77 k = mu k := fun k h1 h2 => (up_k hn77 (ne_lo (by decide) h1).symm).trans (kp73 k h1 h2)
      have ez83 : t76 = nu77 0 44 := up_v hn77
      exact W.vret hx hb hr (fun t ht hW => ⟨⟨nu77, rfl, ⟨ok, trivial, kp82⟩, by first | (subst ht; exact hP) | (rw [ht]; exact hP) | (show va_P (dC, dI) vwCl (wR 21 ad (EM cs ad) nu77) t.heap; rw [ht]; exact hP)⟩, hS.F ht⟩) hS.2.2 dX12_hadOn_67
    · have c_59 : y58.toInt = 0 := il_eq c_59
      refine lv_aload_n hx hb dX12_hadOn_19 rfl (lv_at hl 0 rfl) ?_
      refine lv_aload_n hx hb dX12_hadOn_20 rfl (lv_at hl 0 rfl) ?_
      refine va_get (D := (dC, dI)) (ci := 12) (v := .ref (ad 17)) (C := RX12) (T := TX12) (N := 46) hx hb hts inG12 hown hK hP 0 (gM_0 cs ad mu) rfl 27 (by decide) (hts _ (List.mem_cons_of_mem _ mw_5_68)) (fun _ h9 => h9) rfl dX12_hadOn_21 ?_
      refine lv_iload_n hx hb dX12_hadOn_24 rfl (lv_at hl 2 rfl) ?_
      have hFc := fr_all (wR_D mu hD) hS hA
      refine va_callv (va_runV (As := [.ref (ad 17), .int 3]) (rest := []) ⟨hx, hb, hml, hown, hts⟩ (sm_copyRoute17 l dC dI cs ad mu ok s.heap hP ((wR_D mu hD).weaken (fun _ _ _ _ => trivial)) 3 (by have h51 : (3 : Int32).toInt = 3 := rfl; omega)) (cwV 2 hts (wU_V mw_6_191 mw_6_188 mw_6_190 mw_0_57 mw_1_13) rfl rfl rfl (by decide +kernel) ⟨Nat.le_of_ble_eq_true rfl, Nat.le_of_ble_eq_true rfl⟩) ⟨sz_c, va_recv hK hP (ci := 12) (q0 := 0) rfl (gM_0 cs ad mu), sz_m hK hz⟩ rfl rfl hl.1 rfl (lv_room (Nat.le_of_ble_eq_true rfl)) dX12_hadOn_25 ⟨Nat.zero_le _, Nat.zero_le _⟩) hS (fun q _ h => hFc q h) hFc (fun xi84 t H84 locs ht hvm hw84 hB hz1 hk1 hS => ?_)
      have hP : va_P (dC, dI) vwCl (wR 21 ad (EM cs ad) xi84) H84 := by rw [← ht]; exact hB
      obtain ⟨ok, hw84, hkp84_0⟩ := hw84
      have ez85 : y1 = xi84 2 vr.toNatClampNeg := ey1.trans (congrFun (hkp84_0 2 (by decide) (by decide)) vr.toNatClampNeg).symm
      have ez86 : y58 = xi84 0 42 := ey58.trans (congrFun (hkp84_0 0 (by decide) (by decide)) 42).symm
      have kp87 : ∀ k : Nat, 2 ≤ k → k < 3 → xi84 k = mu k := fun k h1 h2 => (hkp84_0 k (Nat.le_trans (by decide) h1) (Nat.lt_of_lt_of_le h2 (by decide))).trans ((fun _ _ _ => rfl) k h1 h2)
      refine lv_aload_n hx hb dX12_hadOn_28 rfl (lv_at hl 0 rfl) ?_
      refine lv_dup hx hb dX12_hadOn_29 rfl ?_
      refine va_get (D := (dC, dI)) (ci := 12) (v := .int (xi84 0 42)) (C := RX12) (T := TX12) (N := 46) hx hb hts inG12 hown hK hP 0 (gM_0 cs ad xi84) rfl 42 (by decide) (hts _ (List.mem_cons_of_mem _ mw_5_83)) (fun _ h9 => h9) rfl dX12_hadOn_30 ?_
      refine lq_i y58 ez86.symm ?_
      refine lv_iconst (v := 1) hx hb dX12_hadOn_33 (by decide) ?_
      refine lv_iadd hx hb dX12_hadOn_34 ?_
      refine lv_topi (fun t88 et88 => ?_)
      have at88 : t88.toInt = y58.toInt + 1 := by rw [et88]; exact tI_add (rfl : y58.toInt = _) (rfl : (1 : Int32).toInt = 1) (by omega) (by omega)
      refine va_put (D := (dC, dI)) (ci := 12) (v := .int t88) (ty := .int) (C := RX12) (T := TX12) (N := 46) hx hb hts inG12 tyX12 tyX12_ok nmX12 hown hK hP (wR_D xi84 hD) hS 0 (gM_0 cs ad xi84) rfl 42 (by decide) (hts _ (List.mem_cons_of_mem _ mw_5_83)) (fun _ h9 => h9) rfl (by decide +kernel) rfl rfl (Nat.le_of_ble_eq_true rfl) dX12_hadOn_35 (fun H locs hP _ hS => ?_)
      simp only [List.set_cons_succ, List.set_cons_zero] at hP
      refine wr_gen (upd (xi84 0) 42 t88) hP ((hM_0_42 cs ad _ _)) (fun nu89 hn89 hP => ?_)
      have ok := tM_0_42 ok hn89
      have ez90 : y1 = nu89 2 vr.toNatClampNeg := ez85.trans (congrFun (up_k hn89 (by decide)) vr.toNatClampNeg).symm
      have kp91 : ∀ k : Nat, 2 ≤ k → k < 3 → nu89 k = mu k := fun k h1 h2 => (up_k hn89 (ne_lo (by decide) h1).symm).trans (kp87 k h1 h2)
      have ez92 : t88 = nu89 0 42 := up_v hn89
      refine lv_aload_n hx hb dX12_hadOn_38 rfl (lv_at hl 0 rfl) ?_
      refine lv_dup hx hb dX12_hadOn_39 rfl ?_
      refine va_get (D := (dC, dI)) (ci := 12) (v := .int (nu89 0 43)) (C := RX12) (T := TX12) (N := 46) hx hb hts inG12 hown hK hP 0 (gM_0 cs ad nu89) rfl 43 (by decide) (hts _ (List.mem_cons_of_mem _ mw_5_84)) (fun _ h9 => h9) rfl dX12_hadOn_40 ?_
      refine lv_topi (fun y93 ey93 => ?_)
      have by93 : y93.toInt = (nu89 0 43).toInt := congrArg Int32.toInt ey93
      refine lv_iconst (v := 1) hx hb dX12_hadOn_43 (by decide) ?_
      refine lv_aload_n hx hb dX12_hadOn_44 rfl (lv_at hl 0 rfl) ?_
      refine va_get (D := (dC, dI)) (ci := 12) (v := .ref (ad 16)) (C := RX12) (T := TX12) (N := 46) hx hb hts inG12 hown hK hP 0 (gM_0 cs ad nu89) rfl 26 (by decide) (hts _ (List.mem_cons_of_mem _ mw_5_67)) (fun _ h9 => h9) rfl dX12_hadOn_45 ?_
      refine lv_iload_n hx hb dX12_hadOn_48 rfl (lv_at hl 2 rfl) ?_
      refine lv_iconst (v := 1) hx hb dX12_hadOn_49 (by decide) ?_
      refine lv_isub hx hb dX12_hadOn_50 ?_
      refine lq_i 2 (by decide) ?_
      refine va_iald hx hb hK hP 16 0 (gM_16 cs ad nu89) rfl (show vp_in 2 7 from (by unfold vp_in; decide)) dX12_hadOn_51 ?_
      refine lv_topi (fun y94 ey94 => ?_)
      have by94 : y94.toInt = (nu89 16 (2 : Int32).toNatClampNeg).toInt := congrArg Int32.toInt ey94
      have gy94 : 0 ≤ y94.toInt ∧ y94.toInt ≤ 6 := by rw [ey94]; exact rM_16_s ok (2 : Int32).toNatClampNeg
      refine lv_ishl hx hb dX12_hadOn_52 ?_
      refine lv_topi (fun t95 et95 => ?_)
      refine lv_ior hx hb dX12_hadOn_53 ?_
      refine lv_topi (fun t96 et96 => ?_)
      refine va_put (D := (dC, dI)) (ci := 12) (v := .int t96) (ty := .int) (C := RX12) (T := TX12) (N := 46) hx hb hts inG12 tyX12 tyX12_ok nmX12 hown hK hP (wR_D nu89 hD) hS 0 (gM_0 cs ad nu89) rfl 43 (by decide) (hts _ (List.mem_cons_of_mem _ mw_5_84)) (fun _ h9 => h9) rfl (by decide +kernel) rfl rfl (Nat.le_of_ble_eq_true rfl) dX12_hadOn_54 (fun H locs hP _ hS => ?_)
      simp only [List.set_cons_succ, List.set_cons_zero] at hP
      refine wr_gen (upd (nu89 0) 43 t96) hP ((hM_0_43 cs ad _ _)) (fun nu97 hn97 hP => ?_)
      have ok := tM_0_43 ok hn97
      have ez98 : y1 = nu97 2 vr.toNatClampNeg := ez90.trans (congrFun (up_k hn97 (by decide)) vr.toNatClampNeg).symm
      have ez99 : t88 = nu97 0 42 := ez92.trans (up_f hn97 (by decide)).symm
      have ez100 : y94 = nu97 16 (2 : Int32).toNatClampNeg := ey94.trans (congrFun (up_k hn97 (by decide)) (2 : Int32).toNatClampNeg).symm
      have kp101 : ∀ k : Nat, 2 ≤ k → k < 3 → nu97 k = mu k := fun k h1 h2 => (up_k hn97 (ne_lo (by decide) h1).symm).trans (kp91 k h1 h2)
      have ez102 : t96 = nu97 0 43 := up_v hn97
      refine lv_aload_n hx hb dX12_hadOn_57 rfl (lv_at hl 0 rfl) ?_
      refine lv_dup hx hb dX12_hadOn_58 rfl ?_
      refine va_get (D := (dC, dI)) (ci := 12) (v := .int (nu97 0 44)) (C := RX12) (T := TX12) (N := 46) hx hb hts inG12 hown hK hP 0 (gM_0 cs ad nu97) rfl 44 (by decide) (hts _ (List.mem_cons_of_mem _ mw_5_85)) (fun _ h9 => h9) rfl dX12_hadOn_59 ?_
      refine lv_topi (fun y103 ey103 => ?_)
      have by103 : y103.toInt = (nu97 0 44).toInt := congrArg Int32.toInt ey103
      refine lv_iload_n hx hb dX12_hadOn_62 rfl (lv_at hl 3 rfl) ?_
      refine lv_iand hx hb dX12_hadOn_63 ?_
      refine lv_topi (fun t104 et104 => ?_)
      refine va_put (D := (dC, dI)) (ci := 12) (v := .int t104) (ty := .int) (C := RX12) (T := TX12) (N := 46) hx hb hts inG12 tyX12 tyX12_ok nmX12 hown hK hP (wR_D nu97 hD) hS 0 (gM_0 cs ad nu97) rfl 44 (by decide) (hts _ (List.mem_cons_of_mem _ mw_5_85)) (fun _ h9 => h9) rfl (by decide +kernel) rfl rfl (Nat.le_of_ble_eq_true rfl) dX12_hadOn_64 (fun H locs hP _ hS => ?_)
      simp only [List.set_cons_succ, List.set_cons_zero] at hP
      refine wr_gen (upd (nu97 0) 44 t104) hP ((hM_0_44 cs ad _ _)) (fun nu105 hn105 hP => ?_)
      have ok := tM_0_44 ok hn105
      have ez106 : y1 = nu105 2 vr.toNatClampNeg := ez98.trans (congrFun (up_k hn105 (by decide)) vr.toNatClampNeg).symm
      have ez107 : t88 = nu105 0 42 := ez99.trans (up_f hn105 (by decide)).symm
      have ez108 : y94 = nu105 16 (2 : Int32).toNatClampNeg := ez100.trans (congrFun (up_k hn105 (by decide)) (2 : Int32).toNatClampNeg).symm
      have ez109 : t96 = nu105 0 43 := ez102.trans (up_f hn105 (by decide)).symm
      have kp110 : ∀ k : Nat, 2 ≤ k → k < 3 → nu105 k = mu k := fun k h1 h2 => (up_k hn105 (ne_lo (by decide) h1).symm).trans (kp101 k h1 h2)
      have ez111 : t104 = nu105 0 44 := up_v hn105
      exact W.vret hx hb hr (fun t ht hW => ⟨⟨nu105, rfl, ⟨ok, trivial, kp110⟩, by first | (subst ht; exact hP) | (rw [ht]; exact hP) | (show va_P (dC, dI) vwCl (wR 21 ad (EM cs ad) nu105) t.heap; rw [ht]; exact hP)⟩, hS.F ht⟩) hS.2.2 dX12_hadOn_67
set_option maxHeartbeats 4000000 in
set_option maxRecDepth 100000 in
/-- sm_hadOn2 -/
theorem sm_hadOn2 (l : Launch) (dC : Nat → ClassId) (dI : Nat → Nat → Nat) (cs : Nat → ClassId) (ad : Nat → Nat) (mu : Nat → Nat → Int32) (ok : okR loM hiM mu) (H : Heap) (hP : va_P (dC, dI) vwCl (wR 21 ad (EM cs ad) mu) H) (hD0 : va_D (fun _ => True) (wR 21 ad (EM cs ad) mu)) (vr : Int32) (vh : Int32) (vp : Int32) (hin0 : 0 ≤ vr.toInt ∧ vr.toInt ≤ 5) (hin1 : 2 ≤ (mu 2 vr.toNatClampNeg).toInt + 1 ∧ (mu 2 vr.toNatClampNeg).toInt ≤ 6) : Met l yX12_hadOn (wU yX12_hadOn cX12_hadOn 10 none) ({ frames := 6, cells := 0, slots := 0, locals := 168 }) (va_Pc [.ref (ad 0), .int vr, .int 2, .int vh, .int vp] (sz_P (dC, dI) vwCl (tyM cs) H)) (va_Qv (fun (xi : Nat → Nat → Int32) => okR loM hiM xi ∧ (True) ∧ (∀ k : Nat, 2 ≤ k → k < 3 → xi k = mu k)) (fun xi t => va_P (dC, dI) vwCl (wR 21 ad (EM cs ad) xi) t.heap) (va_A (wR 21 ad (EM cs ad) mu) H.size)) 0 0 (va_A (wR 21 ad (EM cs ad) mu) H.size) := by
  refine Met.ofW (cc := cX12_hadOn) (maxL := 10) (ret := none) (by decide) rfl ?_
  intro p e s m args below meth c s₁ B hml hv
  obtain ⟨rfl, hh, hK, hz⟩ := hv
  have hx := B.exec
  have hb := B.bytes
  have hr := B.returns
  have hts := atoms_spec (ws := (wU yX12_hadOn cX12_hadOn 10 none)) B.pre
  have hown : s.vm.findClass RX12 = some m.cls := findClass_of_methodNamed B.named
  have hlocks := B.notSynchronized
  subst hh
  have hD := hD0.self (sz := s.heap.size)
  have hA : ∀ q : Nat, s.heap.size ≤ q → (va_A (wR 21 ad (EM cs ad) mu) s.heap.size) q := fun q h => Or.inr h
  have hS : va_S (va_A (wR 21 ad (EM cs ad) mu) s.heap.size) s.heap s.heap [] := va_S.rf
  have hl := lv_entry ([.ref (ad 0), .int vr, .int 2, .int vh, .int vp]) (n := 10) (Nat.le_of_ble_eq_true rfl)
  rw [lg_entry_eq]
  generalize (lg_sl ([.ref (ad 0), .int vr, .int 2, .int vh, .int vp]) ++ List.replicate (10 - (lg_sl ([.ref (ad 0), .int vr, .int 2, .int vh, .int vp])).length) Slot.unset).toArray = ls at hl ⊢
  have hl : lv_has ls 10 [(0, .ref (ad 0)), (1, .int vr), (2, .int 2), (3, .int vh), (4, .int vp)] := hl
  refine lv_iload_n hx hb dX12_hadOn_0 rfl (lv_at hl 2 rfl) ?_
  refine lv_aload_n hx hb dX12_hadOn_1 rfl (lv_at hl 0 rfl) ?_
  refine va_get (D := (dC, dI)) (ci := 12) (v := .ref (ad 2)) (C := RX12) (T := TX12) (N := 46) hx hb hts inG12 hown hK hP 0 (gM_0 cs ad mu) rfl 3 (by decide) (hts _ (List.mem_cons_of_mem _ mw_5_44)) (fun _ h9 => h9) rfl dX12_hadOn_2 ?_
  refine lv_iload_n hx hb dX12_hadOn_5 rfl (lv_at hl 1 rfl) ?_
  refine va_iald hx hb hK hP 2 0 (gM_2 cs ad mu) rfl (show vp_in vr 6 from vi_of (by omega) (by omega)) dX12_hadOn_6 ?_
  refine lv_topi (fun y1 ey1 => ?_)
  have by1 : y1.toInt = (mu 2 vr.toNatClampNeg).toInt := congrArg Int32.toInt ey1
  have gy1 : -9 ≤ y1.toInt ∧ y1.toInt ≤ 40 := by rw [ey1]; exact rM_2_s ok vr.toNatClampNeg
  refine lv_iconst (v := 1) hx hb dX12_hadOn_7 (by decide) ?_
  refine lv_iadd hx hb dX12_hadOn_8 ?_
  refine lv_topi (fun t2 et2 => ?_)
  have at2 : t2.toInt = y1.toInt + 1 := by rw [et2]; exact tI_add (rfl : y1.toInt = _) (rfl : (1 : Int32).toInt = 1) (by omega) (by omega)
  refine lv_icmp_ne (tgt := 68) hx hb dX12_hadOn_9 (by decide) (fun c_3 => ?_) (fun c_3 => ?_)
  · have c_3 : ¬ 2 = t2.toInt := il_ne c_3
    refine lv_aload_n hx hb dX12_hadOn_68 rfl (lv_at hl 0 rfl) ?_
    refine va_get (D := (dC, dI)) (ci := 12) (v := .ref (ad 16)) (C := RX12) (T := TX12) (N := 46) hx hb hts inG12 hown hK hP 0 (gM_0 cs ad mu) rfl 26 (by decide) (hts _ (List.mem_cons_of_mem _ mw_5_67)) (fun _ h9 => h9) rfl dX12_hadOn_69 ?_
    refine lv_iload_n hx hb dX12_hadOn_72 rfl (lv_at hl 2 rfl) ?_
    refine lv_iconst (v := 1) hx hb dX12_hadOn_73 (by decide) ?_
    refine lv_isub hx hb dX12_hadOn_74 ?_
    refine lq_i 1 (by decide) ?_
    refine va_iald hx hb hK hP 16 0 (gM_16 cs ad mu) rfl (show vp_in 1 7 from (by unfold vp_in; decide)) dX12_hadOn_75 ?_
    refine lv_topi (fun y4 ey4 => ?_)
    have by4 : y4.toInt = (mu 16 (1 : Int32).toNatClampNeg).toInt := congrArg Int32.toInt ey4
    have gy4 : 0 ≤ y4.toInt ∧ y4.toInt ≤ 6 := by rw [ey4]; exact rM_16_s ok (1 : Int32).toNatClampNeg
    refine lv_istore (lv' := [(5, .int y4), (0, .ref (ad 0)), (1, .int vr), (2, .int 2), (3, .int vh), (4, .int vp)]) hx hb dX12_hadOn_76 hl (by decide) rfl (fun ls hl => ?_)
    refine lv_aload_n hx hb dX12_hadOn_78 rfl (lv_at hl 1 rfl) ?_
    refine lv_iload hx hb dX12_hadOn_79 (lv_at hl 0 rfl) ?_
    refine lv_iload hx hb dX12_hadOn_81 (lv_at hl 5 rfl) ?_
    refine cr_i (va_runV (As := [.int y4, .int vp]) (rest := []) ⟨hx, hb, hml, hown, hts⟩ (sm_asksOf l dC dI cs ad mu ok s.heap hP y4 vp (by omega)) (cwV 2 hts (wU_V mw_6_74 mw_6_71 mw_6_73 mw_0_42 mw_1_13) rfl rfl rfl (by decide +kernel) ⟨Nat.le_of_ble_eq_true rfl, Nat.le_of_ble_eq_true rfl⟩) ⟨sz_c, va_recv hK hP (ci := 12) (q0 := 0) rfl (gM_0 cs ad mu), sz_m hK hz⟩ rfl rfl hl.1 rfl (lv_room (Nat.le_of_ble_eq_true rfl)) dX12_hadOn_83 ⟨Nat.zero_le _, Nat.zero_le _⟩) hS (fun r5 hw5 locs hS => ?_)
    refine lv_istore (lv' := [(6, .int r5), (5, .int y4), (0, .ref (ad 0)), (1, .int vr), (2, .int 2), (3, .int vh), (4, .int vp)]) hx hb dX12_hadOn_86 hl (by decide) rfl (fun ls hl => ?_)
    refine lv_iload hx hb dX12_hadOn_88 (lv_at hl 0 rfl) ?_
    refine lv_aload_n hx hb dX12_hadOn_90 rfl (lv_at hl 2 rfl) ?_
    refine lv_iload_n hx hb dX12_hadOn_91 rfl (lv_at hl 3 rfl) ?_
    refine lv_iload_n hx hb dX12_hadOn_92 rfl (lv_at hl 4 rfl) ?_
    refine lv_iconst (v := 1) hx hb dX12_hadOn_93 (by decide) ?_
    refine lv_isub hx hb dX12_hadOn_94 ?_
    refine lq_i 1 (by decide) ?_
    refine cr_i (va_runV (As := [.int vr, .int 1]) (rest := [.int r5]) ⟨hx, hb, hml, hown, hts⟩ (sm_rowAt l dC dI cs ad mu ok s.heap hP vr 1 (by have h51 : (1 : Int32).toInt = 1 := rfl; omega)) (cwV 2 hts (wU_V mw_5_209 mw_5_206 mw_5_208 mw_0_29 mw_1_13) rfl rfl rfl (by decide +kernel) ⟨Nat.le_of_ble_eq_true rfl, Nat.le_of_ble_eq_true rfl⟩) ⟨sz_c, va_recv hK hP (ci := 12) (q0 := 0) rfl (gM_0 cs ad mu), sz_m hK hz⟩ rfl rfl hl.1 rfl (lv_room (Nat.le_of_ble_eq_true rfl)) dX12_hadOn_95 ⟨Nat.zero_le _, Nat.zero_le _⟩) hS (fun r6 hw6 locs hS => ?_)
    refine lv_icmp_ne (tgt := 121) hx hb dX12_hadOn_98 (by decide) (fun c_7 => ?_) (fun c_7 => ?_)
    · have c_7 : ¬ r5.toInt = r6.toInt := il_ne c_7
      refine lv_iconst (v := 0) hx hb dX12_hadOn_121 (by decide) ?_
      refine lv_istore (lv' := [(7, .int 0), (6, .int r5), (5, .int y4), (0, .ref (ad 0)), (1, .int vr), (2, .int 2), (3, .int vh), (4, .int vp)]) hx hb dX12_hadOn_122 hl (by decide) rfl (fun ls hl => ?_)
      refine lv_iload hx hb dX12_hadOn_124 (lv_at hl 0 rfl) ?_
      refine lv_if_eq (tgt := 142) hx hb dX12_hadOn_126 (by decide) (fun _ => ?_) (fun c => absurd (by decide) c)
      refine lv_iconst (v := 0) hx hb dX12_hadOn_142 (by decide) ?_
      refine lv_istore (lv' := [(8, .int 0), (7, .int 0), (6, .int r5), (5, .int y4), (0, .ref (ad 0)), (1, .int vr), (2, .int 2), (3, .int vh), (4, .int vp)]) hx hb dX12_hadOn_143 hl (by decide) rfl (fun ls hl => ?_)
      refine lv_iconst (v := 0) hx hb dX12_hadOn_145 (by decide) ?_
      refine lv_istore (lv' := [(9, .int 0), (8, .int 0), (7, .int 0), (6, .int r5), (5, .int y4), (0, .ref (ad 0)), (1, .int vr), (2, .int 2), (3, .int vh), (4, .int vp)]) hx hb dX12_hadOn_146 hl (by decide) rfl (fun ls hl => ?_)
      have loop148 : ∀ (n148 : Nat) (v9_148 : Int32) (nu148_ : Nat → Nat → Int32) (H : Heap) (locs : List Loc) (ls : Array Slot), (7 + 1 - v9_148.toInt).toNat < n148 → (0 ≤ v9_148.toInt ∧ v9_148.toInt ≤ 7) → okR loM hiM nu148_ → va_P (dC, dI) vwCl (wR 21 ad (EM cs ad) nu148_) H → y1 = nu148_ 2 vr.toNatClampNeg → (∀ k : Nat, 2 ≤ k → k < 3 → nu148_ k = mu k) → va_S (va_A (wR 21 ad (EM cs ad) mu) s.heap.size) s.heap H locs → lv_has ls 10 [(9, .int v9_148), (8, .int 0), (7, .int 0), (6, .int r5), (5, .int y4), (0, .ref (ad 0)), (1, .int vr), (2, .int 2), (3, .int vh), (4, .int vp)] → W p l e (headSpec (wU yX12_hadOn cX12_hadOn 10 none) ({ frames := 6, cells := 0, slots := 0, locals := 168 })).room s m ([.ref (ad 0), .int vr, .int 2, .int vh, .int vp] : List Value).toArray below meth c H locs 0 0 (MQ below (va_Qv (fun (xi : Nat → Nat → Int32) => okR loM hiM xi ∧ (True) ∧ (∀ k : Nat, 2 ≤ k → k < 3 → xi k = mu k)) (fun xi t => va_P (dC, dI) vwCl (wR 21 ad (EM cs ad) xi) t.heap) (va_A (wR 21 ad (EM cs ad) mu) s.heap.size)) ([.ref (ad 0), .int vr, .int 2, .int vh, .int vp] : List Value).toArray s 0 0 (va_A (wR 21 ad (EM cs ad) mu) s.heap.size)) (F0 m 148 ls []) := by
        intro n148
        induction n148 with
        | zero => intro v9_148 nu148_ H locs ls hm; exact absurd hm (Nat.not_lt_zero _)
        | succ n148 ih148 =>
          intro v9_148 nu148_ H locs ls hm h_v9_148 ok hP ek148_0 kq148_0 hS hl
          refine lv_iload hx hb dX12_hadOn_148 (lv_at hl 0 rfl) ?_
          refine lv_aload_n hx hb dX12_hadOn_150 rfl (lv_at hl 5 rfl) ?_
          refine va_get (D := (dC, dI)) (ci := 12) (v := .int (nu148_ 0 8)) (C := RX12) (T := TX12) (N := 46) hx hb hts inG12 hown hK hP 0 (gM_0 cs ad nu148_) rfl 8 (by decide) (hts _ (List.mem_cons_of_mem _ mw_5_49)) (fun _ h9 => h9) rfl dX12_hadOn_151 ?_
          refine lv_topi (fun y8 ey8 => ?_)
          have by8 : y8.toInt = (nu148_ 0 8).toInt := congrArg Int32.toInt ey8
          have gy8 : 0 ≤ y8.toInt ∧ y8.toInt ≤ 7 := by rw [ey8]; exact rM_0_8 ok
          refine lv_icmp_ge (tgt := 197) hx hb dX12_hadOn_154 (by decide) (fun c_9 => ?_) (fun c_9 => ?_)
          · have c_9 : y8.toInt ≤ v9_148.toInt := il_le c_9
            exact W.vret hx hb hr (fun t ht hW => ⟨⟨nu148_, rfl, ⟨ok, trivial, kq148_0⟩, by first | (subst ht; exact hP) | (rw [ht]; exact hP) | (show va_P (dC, dI) vwCl (wR 21 ad (EM cs ad) nu148_) t.heap; rw [ht]; exact hP)⟩, hS.F ht⟩) hS.2.2 dX12_hadOn_197
          · have c_9 : v9_148.toInt < y8.toInt := il_nle c_9
            refine lv_iload hx hb dX12_hadOn_157 (lv_at hl 1 rfl) ?_
            refine lv_iload hx hb dX12_hadOn_159 (lv_at hl 0 rfl) ?_
            refine cr_i (va_runS (As := [.int 0, .int v9_148]) (rest := []) ⟨hx, hb, hml, hown, hts⟩ (sm_has l dC dI (tyM cs) H 0 v9_148) (va_cwS 2 hts (wU_S mw_6_59 mw_6_57 mw_6_58 mw_1_13) rfl rfl rfl (by decide +kernel) ⟨Nat.le_of_ble_eq_true rfl, Nat.le_of_ble_eq_true rfl⟩) ⟨sz_c, sz_m hK hz⟩ rfl rfl hl.1 rfl (lv_room (Nat.le_of_ble_eq_true rfl)) dX12_hadOn_161 ⟨Nat.zero_le _, Nat.zero_le _⟩) hS (fun r10 hw10 locs hS => ?_)
            rcases hw10 with ⟨rfl, f10⟩ | ⟨rfl, f10⟩
            · have f10 : rb (0 : Int32) v9_148 = 1 := f10
              refine lv_if_eq (tgt := 191) hx hb dX12_hadOn_164 (by decide) (fun c => absurd c (by decide)) (fun _ => ?_)
              refine lv_aload_n hx hb dX12_hadOn_167 rfl (lv_at hl 5 rfl) ?_
              refine va_get (D := (dC, dI)) (ci := 12) (v := .ref (ad 16)) (C := RX12) (T := TX12) (N := 46) hx hb hts inG12 hown hK hP 0 (gM_0 cs ad nu148_) rfl 26 (by decide) (hts _ (List.mem_cons_of_mem _ mw_5_67)) (fun _ h9 => h9) rfl dX12_hadOn_168 ?_
              refine lv_iload_n hx hb dX12_hadOn_171 rfl (lv_at hl 7 rfl) ?_
              refine lv_iload hx hb dX12_hadOn_172 (lv_at hl 0 rfl) ?_
              refine va_iast hx hb hK hP (wR_D nu148_ hD) hS 16 0 (gM_16 cs ad nu148_) rfl (show vp_in 2 7 from (by unfold vp_in; decide)) dX12_hadOn_174 (fun H locs hP _ hS => ?_)
              refine wr_gen (upd (nu148_ 16) (2 : Int32).toNatClampNeg v9_148) hP (rfl) (fun nu11 hn11 hP => ?_)
              have ok := tM_16_s ok (2 : Int32).toNatClampNeg hn11 (by exact ⟨by omega, by omega⟩)
              have ez12 : y1 = nu11 2 vr.toNatClampNeg := ek148_0.trans (congrFun (up_k hn11 (by decide)) vr.toNatClampNeg).symm
              have ez13 : y8 = nu11 0 8 := ey8.trans (congrFun (up_k hn11 (by decide)) 8).symm
              have kp14 : ∀ k : Nat, 2 ≤ k → k < 3 → nu11 k = mu k := fun k h1 h2 => (up_k hn11 (ne_hi (by decide) h2).symm).trans (kq148_0 k h1 h2)
              refine lv_aload_n hx hb dX12_hadOn_175 rfl (lv_at hl 5 rfl) ?_
              refine lv_iload_n hx hb dX12_hadOn_176 rfl (lv_at hl 6 rfl) ?_
              refine lv_iload_n hx hb dX12_hadOn_177 rfl (lv_at hl 7 rfl) ?_
              refine lv_iconst (v := 1) hx hb dX12_hadOn_178 (by decide) ?_
              refine lv_iadd hx hb dX12_hadOn_179 ?_
              refine lq_i 3 (by decide) ?_
              refine lv_iload_n hx hb dX12_hadOn_180 rfl (lv_at hl 8 rfl) ?_
              refine lv_iconst (v := 1) hx hb dX12_hadOn_181 (by decide) ?_
              refine lv_iload hx hb dX12_hadOn_182 (lv_at hl 0 rfl) ?_
              refine lv_ishl hx hb dX12_hadOn_184 ?_
              refine lv_topi (fun t15 et15 => ?_)
              refine lv_ior hx hb dX12_hadOn_185 ?_
              refine lv_topi (fun t16 et16 => ?_)
              refine lv_iload hx hb dX12_hadOn_186 (lv_at hl 3 rfl) ?_
              have hFc := fr_all (wR_D nu11 hD) hS hA
              refine va_callv (va_runV (As := [.int vr, .int 3, .int t16, .int r5]) (rest := []) ⟨hx, hb, hml, hown, hts⟩ (sm_hadOn3 l dC dI cs ad nu11 ok H hP ((wR_D nu11 hD).weaken (fun _ _ _ _ => trivial)) vr t16 r5 (by have h51 : (3 : Int32).toInt = 3 := rfl; omega) (by have h51 : (3 : Int32).toInt = 3 := rfl; have hb17 := congrArg Int32.toInt ez12; omega)) (cwV 4 hts (wU_V mw_7_24 mw_7_21 mw_7_23 mw_0_62 mw_1_13) rfl rfl rfl (by decide +kernel) ⟨Nat.le_of_ble_eq_true rfl, Nat.le_of_ble_eq_true rfl⟩) ⟨sz_c, va_recv hK hP (ci := 12) (q0 := 0) rfl (gM_0 cs ad nu11), sz_m hK hz⟩ rfl rfl hl.1 rfl (lv_room (Nat.le_of_ble_eq_true rfl)) dX12_hadOn_188 ⟨Nat.zero_le _, Nat.zero_le _⟩) hS (fun q _ h => hFc q h) hFc (fun xi18 t H18 locs ht hvm hw18 hB hz1 hk1 hS => ?_)
              have hP : va_P (dC, dI) vwCl (wR 21 ad (EM cs ad) xi18) H18 := by rw [← ht]; exact hB
              obtain ⟨ok, hw18, hkp18_0⟩ := hw18
              have ez19 : y1 = xi18 2 vr.toNatClampNeg := ez12.trans (congrFun (hkp18_0 2 (by decide) (by decide)) vr.toNatClampNeg).symm
              have kp20 : ∀ k : Nat, 2 ≤ k → k < 3 → xi18 k = mu k := fun k h1 h2 => (hkp18_0 k (Nat.le_trans (by decide) h1) (Nat.lt_of_lt_of_le h2 (by decide))).trans (kp14 k h1 h2)
              refine lv_iinc (v := (v9_148 + 1)) (lv' := [(9, .int (v9_148 + 1)), (8, .int 0), (7, .int 0), (6, .int r5), (5, .int y4), (0, .ref (ad 0)), (1, .int vr), (2, .int 2), (3, .int vh), (4, .int vp)]) hx hb dX12_hadOn_191 hl (k := 0) rfl rfl (by decide) rfl (fun ls hl => ?_)
              refine loc_gen (P := fun w9 => lv_has ls 10 [(9, .int w9), (8, .int 0), (7, .int 0), (6, .int r5), (5, .int y4), (0, .ref (ad 0)), (1, .int vr), (2, .int 2), (3, .int vh), (4, .int vp)]) (v9_148 + 1) hl (fun w21 hw21 hl => ?_)
              have hl : lv_has ls 10 [(9, .int w21), (8, .int 0), (7, .int 0), (6, .int r5), (5, .int y4), (0, .ref (ad 0)), (1, .int vr), (2, .int 2), (3, .int vh), (4, .int vp)] := hl
              have aw21 : w21.toInt = v9_148.toInt + 1 := by rw [← hw21]; exact tI_add (rfl : v9_148.toInt = _) (rfl : (1 : Int32).toInt = 1) (by omega) (by omega)
              refine lv_goto (tgt := 148) hx hb dX12_hadOn_194 (by decide) ?_
              exact ih148 (w21) xi18 _ _ _ (by omega) (by exact ⟨by omega, by omega⟩)  ok hP ez19 kp20 hS (lv_sub hl [0, 1, 2, 3, 4, 5, 6, 7, 8, 9] rfl)
            · have f10 : ¬ rb (0 : Int32) v9_148 = 1 := f10
              refine lv_if_eq (tgt := 191) hx hb dX12_hadOn_164 (by decide) (fun _ => ?_) (fun c => absurd (by decide) c)
              refine lv_iinc (v := (v9_148 + 1)) (lv' := [(9, .int (v9_148 + 1)), (8, .int 0), (7, .int 0), (6, .int r5), (5, .int y4), (0, .ref (ad 0)), (1, .int vr), (2, .int 2), (3, .int vh), (4, .int vp)]) hx hb dX12_hadOn_191 hl (k := 0) rfl rfl (by decide) rfl (fun ls hl => ?_)
              refine loc_gen (P := fun w9 => lv_has ls 10 [(9, .int w9), (8, .int 0), (7, .int 0), (6, .int r5), (5, .int y4), (0, .ref (ad 0)), (1, .int vr), (2, .int 2), (3, .int vh), (4, .int vp)]) (v9_148 + 1) hl (fun w22 hw22 hl => ?_)
              have hl : lv_has ls 10 [(9, .int w22), (8, .int 0), (7, .int 0), (6, .int r5), (5, .int y4), (0, .ref (ad 0)), (1, .int vr), (2, .int 2), (3, .int vh), (4, .int vp)] := hl
              have aw22 : w22.toInt = v9_148.toInt + 1 := by rw [← hw22]; exact tI_add (rfl : v9_148.toInt = _) (rfl : (1 : Int32).toInt = 1) (by omega) (by omega)
              refine lv_goto (tgt := 148) hx hb dX12_hadOn_194 (by decide) ?_
              exact ih148 (w22) nu148_ _ _ _ (by omega) (by exact ⟨by omega, by omega⟩)  ok hP ek148_0 kq148_0 hS (lv_sub hl [0, 1, 2, 3, 4, 5, 6, 7, 8, 9] rfl)
      exact loop148 ((7 + 1 - (0 : Int32).toInt).toNat + 1) (0) mu _ _ _ (Nat.lt_succ_self _) (by have h80 : (0 : Int32).toInt = 0 := rfl; exact ⟨by omega, by omega⟩)  ok hP ey1 (fun _ _ _ => rfl) hS hl
    · have c_7 : r5.toInt = r6.toInt := il_eq c_7
      refine lv_iload_n hx hb dX12_hadOn_101 rfl (lv_at hl 4 rfl) ?_
      refine lv_iconst (v := 1) hx hb dX12_hadOn_102 (by decide) ?_
      refine lv_icmp_eq (tgt := 117) hx hb dX12_hadOn_103 (by decide) (fun c => absurd c (by decide)) (fun _ => ?_)
      refine lv_aload_n hx hb dX12_hadOn_106 rfl (lv_at hl 2 rfl) ?_
      refine va_get (D := (dC, dI)) (ci := 12) (v := .ref (ad 7)) (C := RX12) (T := TX12) (N := 46) hx hb hts inG12 hown hK hP 0 (gM_0 cs ad mu) rfl 9 (by decide) (hts _ (List.mem_cons_of_mem _ mw_5_50)) (fun _ h9 => h9) rfl dX12_hadOn_107 ?_
      refine lv_iload hx hb dX12_hadOn_110 (lv_at hl 1 rfl) ?_
      refine va_iald hx hb hK hP 7 0 (gM_7 cs ad mu) rfl (show vp_in y4 7 from vi_of (by omega) (by omega)) dX12_hadOn_112 ?_
      refine lv_topi (fun y23 ey23 => ?_)
      have by23 : y23.toInt = (mu 7 y4.toNatClampNeg).toInt := congrArg Int32.toInt ey23
      refine lv_iconst (v := 3) hx hb dX12_hadOn_113 (by decide) ?_
      refine lv_icmp_eq (tgt := 121) hx hb dX12_hadOn_114 (by decide) (fun c_24 => ?_) (fun c_24 => ?_)
      · have c_24 : y23.toInt = 3 := il_eq c_24
        refine lv_iconst (v := 0) hx hb dX12_hadOn_121 (by decide) ?_
        refine lv_istore (lv' := [(7, .int 0), (6, .int r5), (5, .int y4), (0, .ref (ad 0)), (1, .int vr), (2, .int 2), (3, .int vh), (4, .int vp)]) hx hb dX12_hadOn_122 hl (by decide) rfl (fun ls hl => ?_)
        refine lv_iload hx hb dX12_hadOn_124 (lv_at hl 0 rfl) ?_
        refine lv_if_eq (tgt := 142) hx hb dX12_hadOn_126 (by decide) (fun _ => ?_) (fun c => absurd (by decide) c)
        refine lv_iconst (v := 0) hx hb dX12_hadOn_142 (by decide) ?_
        refine lv_istore (lv' := [(8, .int 0), (7, .int 0), (6, .int r5), (5, .int y4), (0, .ref (ad 0)), (1, .int vr), (2, .int 2), (3, .int vh), (4, .int vp)]) hx hb dX12_hadOn_143 hl (by decide) rfl (fun ls hl => ?_)
        refine lv_iconst (v := 0) hx hb dX12_hadOn_145 (by decide) ?_
        refine lv_istore (lv' := [(9, .int 0), (8, .int 0), (7, .int 0), (6, .int r5), (5, .int y4), (0, .ref (ad 0)), (1, .int vr), (2, .int 2), (3, .int vh), (4, .int vp)]) hx hb dX12_hadOn_146 hl (by decide) rfl (fun ls hl => ?_)
        have loop148 : ∀ (n148 : Nat) (v9_148 : Int32) (nu148_ : Nat → Nat → Int32) (H : Heap) (locs : List Loc) (ls : Array Slot), (7 + 1 - v9_148.toInt).toNat < n148 → (0 ≤ v9_148.toInt ∧ v9_148.toInt ≤ 7) → okR loM hiM nu148_ → va_P (dC, dI) vwCl (wR 21 ad (EM cs ad) nu148_) H → y1 = nu148_ 2 vr.toNatClampNeg → (∀ k : Nat, 2 ≤ k → k < 3 → nu148_ k = mu k) → va_S (va_A (wR 21 ad (EM cs ad) mu) s.heap.size) s.heap H locs → lv_has ls 10 [(9, .int v9_148), (8, .int 0), (7, .int 0), (6, .int r5), (5, .int y4), (0, .ref (ad 0)), (1, .int vr), (2, .int 2), (3, .int vh), (4, .int vp)] → W p l e (headSpec (wU yX12_hadOn cX12_hadOn 10 none) ({ frames := 6, cells := 0, slots := 0, locals := 168 })).room s m ([.ref (ad 0), .int vr, .int 2, .int vh, .int vp] : List Value).toArray below meth c H locs 0 0 (MQ below (va_Qv (fun (xi : Nat → Nat → Int32) => okR loM hiM xi ∧ (True) ∧ (∀ k : Nat, 2 ≤ k → k < 3 → xi k = mu k)) (fun xi t => va_P (dC, dI) vwCl (wR 21 ad (EM cs ad) xi) t.heap) (va_A (wR 21 ad (EM cs ad) mu) s.heap.size)) ([.ref (ad 0), .int vr, .int 2, .int vh, .int vp] : List Value).toArray s 0 0 (va_A (wR 21 ad (EM cs ad) mu) s.heap.size)) (F0 m 148 ls []) := by
          intro n148
          induction n148 with
          | zero => intro v9_148 nu148_ H locs ls hm; exact absurd hm (Nat.not_lt_zero _)
          | succ n148 ih148 =>
            intro v9_148 nu148_ H locs ls hm h_v9_148 ok hP ek148_0 kq148_0 hS hl
            refine lv_iload hx hb dX12_hadOn_148 (lv_at hl 0 rfl) ?_
            refine lv_aload_n hx hb dX12_hadOn_150 rfl (lv_at hl 5 rfl) ?_
            refine va_get (D := (dC, dI)) (ci := 12) (v := .int (nu148_ 0 8)) (C := RX12) (T := TX12) (N := 46) hx hb hts inG12 hown hK hP 0 (gM_0 cs ad nu148_) rfl 8 (by decide) (hts _ (List.mem_cons_of_mem _ mw_5_49)) (fun _ h9 => h9) rfl dX12_hadOn_151 ?_
            refine lv_topi (fun y25 ey25 => ?_)
            have by25 : y25.toInt = (nu148_ 0 8).toInt := congrArg Int32.toInt ey25
            have gy25 : 0 ≤ y25.toInt ∧ y25.toInt ≤ 7 := by rw [ey25]; exact rM_0_8 ok
            refine lv_icmp_ge (tgt := 197) hx hb dX12_hadOn_154 (by decide) (fun c_26 => ?_) (fun c_26 => ?_)
            · have c_26 : y25.toInt ≤ v9_148.toInt := il_le c_26
              exact W.vret hx hb hr (fun t ht hW => ⟨⟨nu148_, rfl, ⟨ok, trivial, kq148_0⟩, by first | (subst ht; exact hP) | (rw [ht]; exact hP) | (show va_P (dC, dI) vwCl (wR 21 ad (EM cs ad) nu148_) t.heap; rw [ht]; exact hP)⟩, hS.F ht⟩) hS.2.2 dX12_hadOn_197
            · have c_26 : v9_148.toInt < y25.toInt := il_nle c_26
              refine lv_iload hx hb dX12_hadOn_157 (lv_at hl 1 rfl) ?_
              refine lv_iload hx hb dX12_hadOn_159 (lv_at hl 0 rfl) ?_
              refine cr_i (va_runS (As := [.int 0, .int v9_148]) (rest := []) ⟨hx, hb, hml, hown, hts⟩ (sm_has l dC dI (tyM cs) H 0 v9_148) (va_cwS 2 hts (wU_S mw_6_59 mw_6_57 mw_6_58 mw_1_13) rfl rfl rfl (by decide +kernel) ⟨Nat.le_of_ble_eq_true rfl, Nat.le_of_ble_eq_true rfl⟩) ⟨sz_c, sz_m hK hz⟩ rfl rfl hl.1 rfl (lv_room (Nat.le_of_ble_eq_true rfl)) dX12_hadOn_161 ⟨Nat.zero_le _, Nat.zero_le _⟩) hS (fun r27 hw27 locs hS => ?_)
              rcases hw27 with ⟨rfl, f27⟩ | ⟨rfl, f27⟩
              · have f27 : rb (0 : Int32) v9_148 = 1 := f27
                refine lv_if_eq (tgt := 191) hx hb dX12_hadOn_164 (by decide) (fun c => absurd c (by decide)) (fun _ => ?_)
                refine lv_aload_n hx hb dX12_hadOn_167 rfl (lv_at hl 5 rfl) ?_
                refine va_get (D := (dC, dI)) (ci := 12) (v := .ref (ad 16)) (C := RX12) (T := TX12) (N := 46) hx hb hts inG12 hown hK hP 0 (gM_0 cs ad nu148_) rfl 26 (by decide) (hts _ (List.mem_cons_of_mem _ mw_5_67)) (fun _ h9 => h9) rfl dX12_hadOn_168 ?_
                refine lv_iload_n hx hb dX12_hadOn_171 rfl (lv_at hl 7 rfl) ?_
                refine lv_iload hx hb dX12_hadOn_172 (lv_at hl 0 rfl) ?_
                refine va_iast hx hb hK hP (wR_D nu148_ hD) hS 16 0 (gM_16 cs ad nu148_) rfl (show vp_in 2 7 from (by unfold vp_in; decide)) dX12_hadOn_174 (fun H locs hP _ hS => ?_)
                refine wr_gen (upd (nu148_ 16) (2 : Int32).toNatClampNeg v9_148) hP (rfl) (fun nu28 hn28 hP => ?_)
                have ok := tM_16_s ok (2 : Int32).toNatClampNeg hn28 (by exact ⟨by omega, by omega⟩)
                have ez29 : y1 = nu28 2 vr.toNatClampNeg := ek148_0.trans (congrFun (up_k hn28 (by decide)) vr.toNatClampNeg).symm
                have ez30 : y25 = nu28 0 8 := ey25.trans (congrFun (up_k hn28 (by decide)) 8).symm
                have kp31 : ∀ k : Nat, 2 ≤ k → k < 3 → nu28 k = mu k := fun k h1 h2 => (up_k hn28 (ne_hi (by decide) h2).symm).trans (kq148_0 k h1 h2)
                refine lv_aload_n hx hb dX12_hadOn_175 rfl (lv_at hl 5 rfl) ?_
                refine lv_iload_n hx hb dX12_hadOn_176 rfl (lv_at hl 6 rfl) ?_
                refine lv_iload_n hx hb dX12_hadOn_177 rfl (lv_at hl 7 rfl) ?_
                refine lv_iconst (v := 1) hx hb dX12_hadOn_178 (by decide) ?_
                refine lv_iadd hx hb dX12_hadOn_179 ?_
                refine lq_i 3 (by decide) ?_
                refine lv_iload_n hx hb dX12_hadOn_180 rfl (lv_at hl 8 rfl) ?_
                refine lv_iconst (v := 1) hx hb dX12_hadOn_181 (by decide) ?_
                refine lv_iload hx hb dX12_hadOn_182 (lv_at hl 0 rfl) ?_
                refine lv_ishl hx hb dX12_hadOn_184 ?_
                refine lv_topi (fun t32 et32 => ?_)
                refine lv_ior hx hb dX12_hadOn_185 ?_
                refine lv_topi (fun t33 et33 => ?_)
                refine lv_iload hx hb dX12_hadOn_186 (lv_at hl 3 rfl) ?_
                have hFc := fr_all (wR_D nu28 hD) hS hA
                refine va_callv (va_runV (As := [.int vr, .int 3, .int t33, .int r5]) (rest := []) ⟨hx, hb, hml, hown, hts⟩ (sm_hadOn3 l dC dI cs ad nu28 ok H hP ((wR_D nu28 hD).weaken (fun _ _ _ _ => trivial)) vr t33 r5 (by have h51 : (3 : Int32).toInt = 3 := rfl; omega) (by have h51 : (3 : Int32).toInt = 3 := rfl; have hb34 := congrArg Int32.toInt ez29; omega)) (cwV 4 hts (wU_V mw_7_24 mw_7_21 mw_7_23 mw_0_62 mw_1_13) rfl rfl rfl (by decide +kernel) ⟨Nat.le_of_ble_eq_true rfl, Nat.le_of_ble_eq_true rfl⟩) ⟨sz_c, va_recv hK hP (ci := 12) (q0 := 0) rfl (gM_0 cs ad nu28), sz_m hK hz⟩ rfl rfl hl.1 rfl (lv_room (Nat.le_of_ble_eq_true rfl)) dX12_hadOn_188 ⟨Nat.zero_le _, Nat.zero_le _⟩) hS (fun q _ h => hFc q h) hFc (fun xi35 t H35 locs ht hvm hw35 hB hz1 hk1 hS => ?_)
                have hP : va_P (dC, dI) vwCl (wR 21 ad (EM cs ad) xi35) H35 := by rw [← ht]; exact hB
                obtain ⟨ok, hw35, hkp35_0⟩ := hw35
                have ez36 : y1 = xi35 2 vr.toNatClampNeg := ez29.trans (congrFun (hkp35_0 2 (by decide) (by decide)) vr.toNatClampNeg).symm
                have kp37 : ∀ k : Nat, 2 ≤ k → k < 3 → xi35 k = mu k := fun k h1 h2 => (hkp35_0 k (Nat.le_trans (by decide) h1) (Nat.lt_of_lt_of_le h2 (by decide))).trans (kp31 k h1 h2)
                refine lv_iinc (v := (v9_148 + 1)) (lv' := [(9, .int (v9_148 + 1)), (8, .int 0), (7, .int 0), (6, .int r5), (5, .int y4), (0, .ref (ad 0)), (1, .int vr), (2, .int 2), (3, .int vh), (4, .int vp)]) hx hb dX12_hadOn_191 hl (k := 0) rfl rfl (by decide) rfl (fun ls hl => ?_)
                refine loc_gen (P := fun w9 => lv_has ls 10 [(9, .int w9), (8, .int 0), (7, .int 0), (6, .int r5), (5, .int y4), (0, .ref (ad 0)), (1, .int vr), (2, .int 2), (3, .int vh), (4, .int vp)]) (v9_148 + 1) hl (fun w38 hw38 hl => ?_)
                have hl : lv_has ls 10 [(9, .int w38), (8, .int 0), (7, .int 0), (6, .int r5), (5, .int y4), (0, .ref (ad 0)), (1, .int vr), (2, .int 2), (3, .int vh), (4, .int vp)] := hl
                have aw38 : w38.toInt = v9_148.toInt + 1 := by rw [← hw38]; exact tI_add (rfl : v9_148.toInt = _) (rfl : (1 : Int32).toInt = 1) (by omega) (by omega)
                refine lv_goto (tgt := 148) hx hb dX12_hadOn_194 (by decide) ?_
                exact ih148 (w38) xi35 _ _ _ (by omega) (by exact ⟨by omega, by omega⟩)  ok hP ez36 kp37 hS (lv_sub hl [0, 1, 2, 3, 4, 5, 6, 7, 8, 9] rfl)
              · have f27 : ¬ rb (0 : Int32) v9_148 = 1 := f27
                refine lv_if_eq (tgt := 191) hx hb dX12_hadOn_164 (by decide) (fun _ => ?_) (fun c => absurd (by decide) c)
                refine lv_iinc (v := (v9_148 + 1)) (lv' := [(9, .int (v9_148 + 1)), (8, .int 0), (7, .int 0), (6, .int r5), (5, .int y4), (0, .ref (ad 0)), (1, .int vr), (2, .int 2), (3, .int vh), (4, .int vp)]) hx hb dX12_hadOn_191 hl (k := 0) rfl rfl (by decide) rfl (fun ls hl => ?_)
                refine loc_gen (P := fun w9 => lv_has ls 10 [(9, .int w9), (8, .int 0), (7, .int 0), (6, .int r5), (5, .int y4), (0, .ref (ad 0)), (1, .int vr), (2, .int 2), (3, .int vh), (4, .int vp)]) (v9_148 + 1) hl (fun w39 hw39 hl => ?_)
                have hl : lv_has ls 10 [(9, .int w39), (8, .int 0), (7, .int 0), (6, .int r5), (5, .int y4), (0, .ref (ad 0)), (1, .int vr), (2, .int 2), (3, .int vh), (4, .int vp)] := hl
                have aw39 : w39.toInt = v9_148.toInt + 1 := by rw [← hw39]; exact tI_add (rfl : v9_148.toInt = _) (rfl : (1 : Int32).toInt = 1) (by omega) (by omega)
                refine lv_goto (tgt := 148) hx hb dX12_hadOn_194 (by decide) ?_
                exact ih148 (w39) nu148_ _ _ _ (by omega) (by exact ⟨by omega, by omega⟩)  ok hP ek148_0 kq148_0 hS (lv_sub hl [0, 1, 2, 3, 4, 5, 6, 7, 8, 9] rfl)
        exact loop148 ((7 + 1 - (0 : Int32).toInt).toNat + 1) (0) mu _ _ _ (Nat.lt_succ_self _) (by have h80 : (0 : Int32).toInt = 0 := rfl; exact ⟨by omega, by omega⟩)  ok hP ey1 (fun _ _ _ => rfl) hS hl
      · have c_24 : ¬ y23.toInt = 3 := il_ne c_24
        refine lv_iconst (v := 1) hx hb dX12_hadOn_117 (by decide) ?_
        refine lv_goto (tgt := 122) hx hb dX12_hadOn_118 (by decide) ?_
        refine lv_istore (lv' := [(7, .int 1), (6, .int r5), (5, .int y4), (0, .ref (ad 0)), (1, .int vr), (2, .int 2), (3, .int vh), (4, .int vp)]) hx hb dX12_hadOn_122 hl (by decide) rfl (fun ls hl => ?_)
        refine lv_iload hx hb dX12_hadOn_124 (lv_at hl 0 rfl) ?_
        refine lv_if_eq (tgt := 142) hx hb dX12_hadOn_126 (by decide) (fun c => absurd c (by decide)) (fun _ => ?_)
        refine lv_aload_n hx hb dX12_hadOn_129 rfl (lv_at hl 3 rfl) ?_
        refine lv_iload hx hb dX12_hadOn_130 (lv_at hl 2 rfl) ?_
        refine cr_i (va_runV (As := [.int y4]) (rest := []) ⟨hx, hb, hml, hown, hts⟩ (sm_besideOf l dC dI cs ad mu ok s.heap hP y4) (cwV 1 hts (wU_V mw_6_56 mw_6_53 mw_6_55 mw_0_40 mw_1_13) rfl rfl rfl (by decide +kernel) ⟨Nat.le_of_ble_eq_true rfl, Nat.le_of_ble_eq_true rfl⟩) ⟨sz_c, va_recv hK hP (ci := 12) (q0 := 0) rfl (gM_0 cs ad mu), sz_m hK hz⟩ rfl rfl hl.1 rfl (lv_room (Nat.le_of_ble_eq_true rfl)) dX12_hadOn_132 ⟨Nat.zero_le _, Nat.zero_le _⟩) hS (fun r40 hw40 locs hS => ?_)
        refine lv_iload_n hx hb dX12_hadOn_135 rfl (lv_at hl 6 rfl) ?_
        refine lv_iconst (v := (-1)) hx hb dX12_hadOn_136 (by decide) ?_
        refine lv_ixor hx hb dX12_hadOn_137 ?_
        refine lv_topi (fun t41 et41 => ?_)
        refine lv_iand hx hb dX12_hadOn_138 ?_
        refine lv_topi (fun t42 et42 => ?_)
        refine lv_goto (tgt := 143) hx hb dX12_hadOn_139 (by decide) ?_
        refine lv_istore (lv' := [(8, .int t42), (7, .int 1), (6, .int r5), (5, .int y4), (0, .ref (ad 0)), (1, .int vr), (2, .int 2), (3, .int vh), (4, .int vp)]) hx hb dX12_hadOn_143 hl (by decide) rfl (fun ls hl => ?_)
        refine lv_iconst (v := 0) hx hb dX12_hadOn_145 (by decide) ?_
        refine lv_istore (lv' := [(9, .int 0), (8, .int t42), (7, .int 1), (6, .int r5), (5, .int y4), (0, .ref (ad 0)), (1, .int vr), (2, .int 2), (3, .int vh), (4, .int vp)]) hx hb dX12_hadOn_146 hl (by decide) rfl (fun ls hl => ?_)
        have loop148 : ∀ (n148 : Nat) (v9_148 : Int32) (nu148_ : Nat → Nat → Int32) (H : Heap) (locs : List Loc) (ls : Array Slot), (7 + 1 - v9_148.toInt).toNat < n148 → (0 ≤ v9_148.toInt ∧ v9_148.toInt ≤ 7) → okR loM hiM nu148_ → va_P (dC, dI) vwCl (wR 21 ad (EM cs ad) nu148_) H → y1 = nu148_ 2 vr.toNatClampNeg → (∀ k : Nat, 2 ≤ k → k < 3 → nu148_ k = mu k) → va_S (va_A (wR 21 ad (EM cs ad) mu) s.heap.size) s.heap H locs → lv_has ls 10 [(9, .int v9_148), (8, .int t42), (7, .int 1), (6, .int r5), (5, .int y4), (0, .ref (ad 0)), (1, .int vr), (2, .int 2), (3, .int vh), (4, .int vp)] → W p l e (headSpec (wU yX12_hadOn cX12_hadOn 10 none) ({ frames := 6, cells := 0, slots := 0, locals := 168 })).room s m ([.ref (ad 0), .int vr, .int 2, .int vh, .int vp] : List Value).toArray below meth c H locs 0 0 (MQ below (va_Qv (fun (xi : Nat → Nat → Int32) => okR loM hiM xi ∧ (True) ∧ (∀ k : Nat, 2 ≤ k → k < 3 → xi k = mu k)) (fun xi t => va_P (dC, dI) vwCl (wR 21 ad (EM cs ad) xi) t.heap) (va_A (wR 21 ad (EM cs ad) mu) s.heap.size)) ([.ref (ad 0), .int vr, .int 2, .int vh, .int vp] : List Value).toArray s 0 0 (va_A (wR 21 ad (EM cs ad) mu) s.heap.size)) (F0 m 148 ls []) := by
          intro n148
          induction n148 with
          | zero => intro v9_148 nu148_ H locs ls hm; exact absurd hm (Nat.not_lt_zero _)
          | succ n148 ih148 =>
            intro v9_148 nu148_ H locs ls hm h_v9_148 ok hP ek148_0 kq148_0 hS hl
            refine lv_iload hx hb dX12_hadOn_148 (lv_at hl 0 rfl) ?_
            refine lv_aload_n hx hb dX12_hadOn_150 rfl (lv_at hl 5 rfl) ?_
            refine va_get (D := (dC, dI)) (ci := 12) (v := .int (nu148_ 0 8)) (C := RX12) (T := TX12) (N := 46) hx hb hts inG12 hown hK hP 0 (gM_0 cs ad nu148_) rfl 8 (by decide) (hts _ (List.mem_cons_of_mem _ mw_5_49)) (fun _ h9 => h9) rfl dX12_hadOn_151 ?_
            refine lv_topi (fun y43 ey43 => ?_)
            have by43 : y43.toInt = (nu148_ 0 8).toInt := congrArg Int32.toInt ey43
            have gy43 : 0 ≤ y43.toInt ∧ y43.toInt ≤ 7 := by rw [ey43]; exact rM_0_8 ok
            refine lv_icmp_ge (tgt := 197) hx hb dX12_hadOn_154 (by decide) (fun c_44 => ?_) (fun c_44 => ?_)
            · have c_44 : y43.toInt ≤ v9_148.toInt := il_le c_44
              exact W.vret hx hb hr (fun t ht hW => ⟨⟨nu148_, rfl, ⟨ok, trivial, kq148_0⟩, by first | (subst ht; exact hP) | (rw [ht]; exact hP) | (show va_P (dC, dI) vwCl (wR 21 ad (EM cs ad) nu148_) t.heap; rw [ht]; exact hP)⟩, hS.F ht⟩) hS.2.2 dX12_hadOn_197
            · have c_44 : v9_148.toInt < y43.toInt := il_nle c_44
              refine lv_iload hx hb dX12_hadOn_157 (lv_at hl 1 rfl) ?_
              refine lv_iload hx hb dX12_hadOn_159 (lv_at hl 0 rfl) ?_
              refine cr_i (va_runS (As := [.int t42, .int v9_148]) (rest := []) ⟨hx, hb, hml, hown, hts⟩ (sm_has l dC dI (tyM cs) H t42 v9_148) (va_cwS 2 hts (wU_S mw_6_59 mw_6_57 mw_6_58 mw_1_13) rfl rfl rfl (by decide +kernel) ⟨Nat.le_of_ble_eq_true rfl, Nat.le_of_ble_eq_true rfl⟩) ⟨sz_c, sz_m hK hz⟩ rfl rfl hl.1 rfl (lv_room (Nat.le_of_ble_eq_true rfl)) dX12_hadOn_161 ⟨Nat.zero_le _, Nat.zero_le _⟩) hS (fun r45 hw45 locs hS => ?_)
              rcases hw45 with ⟨rfl, f45⟩ | ⟨rfl, f45⟩
              · have f45 : rb t42 v9_148 = 1 := f45
                refine lv_if_eq (tgt := 191) hx hb dX12_hadOn_164 (by decide) (fun c => absurd c (by decide)) (fun _ => ?_)
                refine lv_aload_n hx hb dX12_hadOn_167 rfl (lv_at hl 5 rfl) ?_
                refine va_get (D := (dC, dI)) (ci := 12) (v := .ref (ad 16)) (C := RX12) (T := TX12) (N := 46) hx hb hts inG12 hown hK hP 0 (gM_0 cs ad nu148_) rfl 26 (by decide) (hts _ (List.mem_cons_of_mem _ mw_5_67)) (fun _ h9 => h9) rfl dX12_hadOn_168 ?_
                refine lv_iload_n hx hb dX12_hadOn_171 rfl (lv_at hl 7 rfl) ?_
                refine lv_iload hx hb dX12_hadOn_172 (lv_at hl 0 rfl) ?_
                refine va_iast hx hb hK hP (wR_D nu148_ hD) hS 16 0 (gM_16 cs ad nu148_) rfl (show vp_in 2 7 from (by unfold vp_in; decide)) dX12_hadOn_174 (fun H locs hP _ hS => ?_)
                refine wr_gen (upd (nu148_ 16) (2 : Int32).toNatClampNeg v9_148) hP (rfl) (fun nu46 hn46 hP => ?_)
                have ok := tM_16_s ok (2 : Int32).toNatClampNeg hn46 (by exact ⟨by omega, by omega⟩)
                have ez47 : y1 = nu46 2 vr.toNatClampNeg := ek148_0.trans (congrFun (up_k hn46 (by decide)) vr.toNatClampNeg).symm
                have ez48 : y43 = nu46 0 8 := ey43.trans (congrFun (up_k hn46 (by decide)) 8).symm
                have kp49 : ∀ k : Nat, 2 ≤ k → k < 3 → nu46 k = mu k := fun k h1 h2 => (up_k hn46 (ne_hi (by decide) h2).symm).trans (kq148_0 k h1 h2)
                refine lv_aload_n hx hb dX12_hadOn_175 rfl (lv_at hl 5 rfl) ?_
                refine lv_iload_n hx hb dX12_hadOn_176 rfl (lv_at hl 6 rfl) ?_
                refine lv_iload_n hx hb dX12_hadOn_177 rfl (lv_at hl 7 rfl) ?_
                refine lv_iconst (v := 1) hx hb dX12_hadOn_178 (by decide) ?_
                refine lv_iadd hx hb dX12_hadOn_179 ?_
                refine lq_i 3 (by decide) ?_
                refine lv_iload_n hx hb dX12_hadOn_180 rfl (lv_at hl 8 rfl) ?_
                refine lv_iconst (v := 1) hx hb dX12_hadOn_181 (by decide) ?_
                refine lv_iload hx hb dX12_hadOn_182 (lv_at hl 0 rfl) ?_
                refine lv_ishl hx hb dX12_hadOn_184 ?_
                refine lv_topi (fun t50 et50 => ?_)
                refine lv_ior hx hb dX12_hadOn_185 ?_
                refine lv_topi (fun t51 et51 => ?_)
                refine lv_iload hx hb dX12_hadOn_186 (lv_at hl 3 rfl) ?_
                have hFc := fr_all (wR_D nu46 hD) hS hA
                refine va_callv (va_runV (As := [.int vr, .int 3, .int t51, .int r5]) (rest := []) ⟨hx, hb, hml, hown, hts⟩ (sm_hadOn3 l dC dI cs ad nu46 ok H hP ((wR_D nu46 hD).weaken (fun _ _ _ _ => trivial)) vr t51 r5 (by have h51 : (3 : Int32).toInt = 3 := rfl; omega) (by have h51 : (3 : Int32).toInt = 3 := rfl; have hb52 := congrArg Int32.toInt ez47; omega)) (cwV 4 hts (wU_V mw_7_24 mw_7_21 mw_7_23 mw_0_62 mw_1_13) rfl rfl rfl (by decide +kernel) ⟨Nat.le_of_ble_eq_true rfl, Nat.le_of_ble_eq_true rfl⟩) ⟨sz_c, va_recv hK hP (ci := 12) (q0 := 0) rfl (gM_0 cs ad nu46), sz_m hK hz⟩ rfl rfl hl.1 rfl (lv_room (Nat.le_of_ble_eq_true rfl)) dX12_hadOn_188 ⟨Nat.zero_le _, Nat.zero_le _⟩) hS (fun q _ h => hFc q h) hFc (fun xi53 t H53 locs ht hvm hw53 hB hz1 hk1 hS => ?_)
                have hP : va_P (dC, dI) vwCl (wR 21 ad (EM cs ad) xi53) H53 := by rw [← ht]; exact hB
                obtain ⟨ok, hw53, hkp53_0⟩ := hw53
                have ez54 : y1 = xi53 2 vr.toNatClampNeg := ez47.trans (congrFun (hkp53_0 2 (by decide) (by decide)) vr.toNatClampNeg).symm
                have kp55 : ∀ k : Nat, 2 ≤ k → k < 3 → xi53 k = mu k := fun k h1 h2 => (hkp53_0 k (Nat.le_trans (by decide) h1) (Nat.lt_of_lt_of_le h2 (by decide))).trans (kp49 k h1 h2)
                refine lv_iinc (v := (v9_148 + 1)) (lv' := [(9, .int (v9_148 + 1)), (8, .int t42), (7, .int 1), (6, .int r5), (5, .int y4), (0, .ref (ad 0)), (1, .int vr), (2, .int 2), (3, .int vh), (4, .int vp)]) hx hb dX12_hadOn_191 hl (k := 0) rfl rfl (by decide) rfl (fun ls hl => ?_)
                refine loc_gen (P := fun w9 => lv_has ls 10 [(9, .int w9), (8, .int t42), (7, .int 1), (6, .int r5), (5, .int y4), (0, .ref (ad 0)), (1, .int vr), (2, .int 2), (3, .int vh), (4, .int vp)]) (v9_148 + 1) hl (fun w56 hw56 hl => ?_)
                have hl : lv_has ls 10 [(9, .int w56), (8, .int t42), (7, .int 1), (6, .int r5), (5, .int y4), (0, .ref (ad 0)), (1, .int vr), (2, .int 2), (3, .int vh), (4, .int vp)] := hl
                have aw56 : w56.toInt = v9_148.toInt + 1 := by rw [← hw56]; exact tI_add (rfl : v9_148.toInt = _) (rfl : (1 : Int32).toInt = 1) (by omega) (by omega)
                refine lv_goto (tgt := 148) hx hb dX12_hadOn_194 (by decide) ?_
                exact ih148 (w56) xi53 _ _ _ (by omega) (by exact ⟨by omega, by omega⟩)  ok hP ez54 kp55 hS (lv_sub hl [0, 1, 2, 3, 4, 5, 6, 7, 8, 9] rfl)
              · have f45 : ¬ rb t42 v9_148 = 1 := f45
                refine lv_if_eq (tgt := 191) hx hb dX12_hadOn_164 (by decide) (fun _ => ?_) (fun c => absurd (by decide) c)
                refine lv_iinc (v := (v9_148 + 1)) (lv' := [(9, .int (v9_148 + 1)), (8, .int t42), (7, .int 1), (6, .int r5), (5, .int y4), (0, .ref (ad 0)), (1, .int vr), (2, .int 2), (3, .int vh), (4, .int vp)]) hx hb dX12_hadOn_191 hl (k := 0) rfl rfl (by decide) rfl (fun ls hl => ?_)
                refine loc_gen (P := fun w9 => lv_has ls 10 [(9, .int w9), (8, .int t42), (7, .int 1), (6, .int r5), (5, .int y4), (0, .ref (ad 0)), (1, .int vr), (2, .int 2), (3, .int vh), (4, .int vp)]) (v9_148 + 1) hl (fun w57 hw57 hl => ?_)
                have hl : lv_has ls 10 [(9, .int w57), (8, .int t42), (7, .int 1), (6, .int r5), (5, .int y4), (0, .ref (ad 0)), (1, .int vr), (2, .int 2), (3, .int vh), (4, .int vp)] := hl
                have aw57 : w57.toInt = v9_148.toInt + 1 := by rw [← hw57]; exact tI_add (rfl : v9_148.toInt = _) (rfl : (1 : Int32).toInt = 1) (by omega) (by omega)
                refine lv_goto (tgt := 148) hx hb dX12_hadOn_194 (by decide) ?_
                exact ih148 (w57) nu148_ _ _ _ (by omega) (by exact ⟨by omega, by omega⟩)  ok hP ek148_0 kq148_0 hS (lv_sub hl [0, 1, 2, 3, 4, 5, 6, 7, 8, 9] rfl)
        exact loop148 ((7 + 1 - (0 : Int32).toInt).toNat + 1) (0) mu _ _ _ (Nat.lt_succ_self _) (by have h80 : (0 : Int32).toInt = 0 := rfl; exact ⟨by omega, by omega⟩)  ok hP ey1 (fun _ _ _ => rfl) hS hl
  · have c_3 : 2 = t2.toInt := il_eq c_3
    refine lv_aload_n hx hb dX12_hadOn_12 rfl (lv_at hl 0 rfl) ?_
    refine va_get (D := (dC, dI)) (ci := 12) (v := .int (mu 0 42)) (C := RX12) (T := TX12) (N := 46) hx hb hts inG12 hown hK hP 0 (gM_0 cs ad mu) rfl 42 (by decide) (hts _ (List.mem_cons_of_mem _ mw_5_83)) (fun _ h9 => h9) rfl dX12_hadOn_13 ?_
    refine lv_topi (fun y58 ey58 => ?_)
    have by58 : y58.toInt = (mu 0 42).toInt := congrArg Int32.toInt ey58
    refine lv_if_ne (tgt := 28) hx hb dX12_hadOn_16 (by decide) (fun c_59 => ?_) (fun c_59 => ?_)
    · have c_59 : ¬ y58.toInt = 0 := il_ne c_59
      refine lv_aload_n hx hb dX12_hadOn_28 rfl (lv_at hl 0 rfl) ?_
      refine lv_dup hx hb dX12_hadOn_29 rfl ?_
      refine va_get (D := (dC, dI)) (ci := 12) (v := .int (mu 0 42)) (C := RX12) (T := TX12) (N := 46) hx hb hts inG12 hown hK hP 0 (gM_0 cs ad mu) rfl 42 (by decide) (hts _ (List.mem_cons_of_mem _ mw_5_83)) (fun _ h9 => h9) rfl dX12_hadOn_30 ?_
      refine lq_i y58 ey58.symm ?_
      refine lv_iconst (v := 1) hx hb dX12_hadOn_33 (by decide) ?_
      refine lv_iadd hx hb dX12_hadOn_34 ?_
      refine lv_topi (fun t60 et60 => ?_)
      refine va_put (D := (dC, dI)) (ci := 12) (v := .int t60) (ty := .int) (C := RX12) (T := TX12) (N := 46) hx hb hts inG12 tyX12 tyX12_ok nmX12 hown hK hP (wR_D mu hD) hS 0 (gM_0 cs ad mu) rfl 42 (by decide) (hts _ (List.mem_cons_of_mem _ mw_5_83)) (fun _ h9 => h9) rfl (by decide +kernel) rfl rfl (Nat.le_of_ble_eq_true rfl) dX12_hadOn_35 (fun H locs hP _ hS => ?_)
      simp only [List.set_cons_succ, List.set_cons_zero] at hP
      refine wr_gen (upd (mu 0) 42 t60) hP ((hM_0_42 cs ad _ _)) (fun nu61 hn61 hP => ?_)
      have ok := tM_0_42 ok hn61
      have ez62 : y1 = nu61 2 vr.toNatClampNeg := ey1.trans (congrFun (up_k hn61 (by decide)) vr.toNatClampNeg).symm
      have kp63 : ∀ k : Nat, 2 ≤ k → k < 3 → nu61 k = mu k := fun k h1 h2 => (up_k hn61 (ne_lo (by decide) h1).symm).trans ((fun _ _ _ => rfl) k h1 h2)
      have ez64 : t60 = nu61 0 42 := up_v hn61
      refine lv_aload_n hx hb dX12_hadOn_38 rfl (lv_at hl 0 rfl) ?_
      refine lv_dup hx hb dX12_hadOn_39 rfl ?_
      refine va_get (D := (dC, dI)) (ci := 12) (v := .int (nu61 0 43)) (C := RX12) (T := TX12) (N := 46) hx hb hts inG12 hown hK hP 0 (gM_0 cs ad nu61) rfl 43 (by decide) (hts _ (List.mem_cons_of_mem _ mw_5_84)) (fun _ h9 => h9) rfl dX12_hadOn_40 ?_
      refine lv_topi (fun y65 ey65 => ?_)
      have by65 : y65.toInt = (nu61 0 43).toInt := congrArg Int32.toInt ey65
      refine lv_iconst (v := 1) hx hb dX12_hadOn_43 (by decide) ?_
      refine lv_aload_n hx hb dX12_hadOn_44 rfl (lv_at hl 0 rfl) ?_
      refine va_get (D := (dC, dI)) (ci := 12) (v := .ref (ad 16)) (C := RX12) (T := TX12) (N := 46) hx hb hts inG12 hown hK hP 0 (gM_0 cs ad nu61) rfl 26 (by decide) (hts _ (List.mem_cons_of_mem _ mw_5_67)) (fun _ h9 => h9) rfl dX12_hadOn_45 ?_
      refine lv_iload_n hx hb dX12_hadOn_48 rfl (lv_at hl 2 rfl) ?_
      refine lv_iconst (v := 1) hx hb dX12_hadOn_49 (by decide) ?_
      refine lv_isub hx hb dX12_hadOn_50 ?_
      refine lq_i 1 (by decide) ?_
      refine va_iald hx hb hK hP 16 0 (gM_16 cs ad nu61) rfl (show vp_in 1 7 from (by unfold vp_in; decide)) dX12_hadOn_51 ?_
      refine lv_topi (fun y66 ey66 => ?_)
      have by66 : y66.toInt = (nu61 16 (1 : Int32).toNatClampNeg).toInt := congrArg Int32.toInt ey66
      have gy66 : 0 ≤ y66.toInt ∧ y66.toInt ≤ 6 := by rw [ey66]; exact rM_16_s ok (1 : Int32).toNatClampNeg
      refine lv_ishl hx hb dX12_hadOn_52 ?_
      refine lv_topi (fun t67 et67 => ?_)
      refine lv_ior hx hb dX12_hadOn_53 ?_
      refine lv_topi (fun t68 et68 => ?_)
      refine va_put (D := (dC, dI)) (ci := 12) (v := .int t68) (ty := .int) (C := RX12) (T := TX12) (N := 46) hx hb hts inG12 tyX12 tyX12_ok nmX12 hown hK hP (wR_D nu61 hD) hS 0 (gM_0 cs ad nu61) rfl 43 (by decide) (hts _ (List.mem_cons_of_mem _ mw_5_84)) (fun _ h9 => h9) rfl (by decide +kernel) rfl rfl (Nat.le_of_ble_eq_true rfl) dX12_hadOn_54 (fun H locs hP _ hS => ?_)
      simp only [List.set_cons_succ, List.set_cons_zero] at hP
      refine wr_gen (upd (nu61 0) 43 t68) hP ((hM_0_43 cs ad _ _)) (fun nu69 hn69 hP => ?_)
      have ok := tM_0_43 ok hn69
      have ez70 : y1 = nu69 2 vr.toNatClampNeg := ez62.trans (congrFun (up_k hn69 (by decide)) vr.toNatClampNeg).symm
      have ez71 : t60 = nu69 0 42 := ez64.trans (up_f hn69 (by decide)).symm
      have ez72 : y66 = nu69 16 (1 : Int32).toNatClampNeg := ey66.trans (congrFun (up_k hn69 (by decide)) (1 : Int32).toNatClampNeg).symm
      have kp73 : ∀ k : Nat, 2 ≤ k → k < 3 → nu69 k = mu k := fun k h1 h2 => (up_k hn69 (ne_lo (by decide) h1).symm).trans (kp63 k h1 h2)
      have ez74 : t68 = nu69 0 43 := up_v hn69
      refine lv_aload_n hx hb dX12_hadOn_57 rfl (lv_at hl 0 rfl) ?_
      refine lv_dup hx hb dX12_hadOn_58 rfl ?_
      refine va_get (D := (dC, dI)) (ci := 12) (v := .int (nu69 0 44)) (C := RX12) (T := TX12) (N := 46) hx hb hts inG12 hown hK hP 0 (gM_0 cs ad nu69) rfl 44 (by decide) (hts _ (List.mem_cons_of_mem _ mw_5_85)) (fun _ h9 => h9) rfl dX12_hadOn_59 ?_
      refine lv_topi (fun y75 ey75 => ?_)
      have by75 : y75.toInt = (nu69 0 44).toInt := congrArg Int32.toInt ey75
      refine lv_iload_n hx hb dX12_hadOn_62 rfl (lv_at hl 3 rfl) ?_
      refine lv_iand hx hb dX12_hadOn_63 ?_
      refine lv_topi (fun t76 et76 => ?_)
      refine va_put (D := (dC, dI)) (ci := 12) (v := .int t76) (ty := .int) (C := RX12) (T := TX12) (N := 46) hx hb hts inG12 tyX12 tyX12_ok nmX12 hown hK hP (wR_D nu69 hD) hS 0 (gM_0 cs ad nu69) rfl 44 (by decide) (hts _ (List.mem_cons_of_mem _ mw_5_85)) (fun _ h9 => h9) rfl (by decide +kernel) rfl rfl (Nat.le_of_ble_eq_true rfl) dX12_hadOn_64 (fun H locs hP _ hS => ?_)
      simp only [List.set_cons_succ, List.set_cons_zero] at hP
      refine wr_gen (upd (nu69 0) 44 t76) hP ((hM_0_44 cs ad _ _)) (fun nu77 hn77 hP => ?_)
      have ok := tM_0_44 ok hn77
      have ez78 : y1 = nu77 2 vr.toNatClampNeg := ez70.trans (congrFun (up_k hn77 (by decide)) vr.toNatClampNeg).symm
      have ez79 : t60 = nu77 0 42 := ez71.trans (up_f hn77 (by decide)).symm
      have ez80 : y66 = nu77 16 (1 : Int32).toNatClampNeg := ez72.trans (congrFun (up_k hn77 (by decide)) (1 : Int32).toNatClampNeg).symm
      have ez81 : t68 = nu77 0 43 := ez74.trans (up_f hn77 (by decide)).symm
      have kp82 : ∀ k : Nat, 2 ≤ k → k < 3 → nu77 k = mu k := fun k h1 h2 => (up_k hn77 (ne_lo (by decide) h1).symm).trans (kp73 k h1 h2)
      have ez83 : t76 = nu77 0 44 := up_v hn77
      exact W.vret hx hb hr (fun t ht hW => ⟨⟨nu77, rfl, ⟨ok, trivial, kp82⟩, by first | (subst ht; exact hP) | (rw [ht]; exact hP) | (show va_P (dC, dI) vwCl (wR 21 ad (EM cs ad) nu77) t.heap; rw [ht]; exact hP)⟩, hS.F ht⟩) hS.2.2 dX12_hadOn_67
    · have c_59 : y58.toInt = 0 := il_eq c_59
      refine lv_aload_n hx hb dX12_hadOn_19 rfl (lv_at hl 0 rfl) ?_
      refine lv_aload_n hx hb dX12_hadOn_20 rfl (lv_at hl 0 rfl) ?_
      refine va_get (D := (dC, dI)) (ci := 12) (v := .ref (ad 17)) (C := RX12) (T := TX12) (N := 46) hx hb hts inG12 hown hK hP 0 (gM_0 cs ad mu) rfl 27 (by decide) (hts _ (List.mem_cons_of_mem _ mw_5_68)) (fun _ h9 => h9) rfl dX12_hadOn_21 ?_
      refine lv_iload_n hx hb dX12_hadOn_24 rfl (lv_at hl 2 rfl) ?_
      have hFc := fr_all (wR_D mu hD) hS hA
      refine va_callv (va_runV (As := [.ref (ad 17), .int 2]) (rest := []) ⟨hx, hb, hml, hown, hts⟩ (sm_copyRoute17 l dC dI cs ad mu ok s.heap hP ((wR_D mu hD).weaken (fun _ _ _ _ => trivial)) 2 (by have h51 : (2 : Int32).toInt = 2 := rfl; omega)) (cwV 2 hts (wU_V mw_6_191 mw_6_188 mw_6_190 mw_0_57 mw_1_13) rfl rfl rfl (by decide +kernel) ⟨Nat.le_of_ble_eq_true rfl, Nat.le_of_ble_eq_true rfl⟩) ⟨sz_c, va_recv hK hP (ci := 12) (q0 := 0) rfl (gM_0 cs ad mu), sz_m hK hz⟩ rfl rfl hl.1 rfl (lv_room (Nat.le_of_ble_eq_true rfl)) dX12_hadOn_25 ⟨Nat.zero_le _, Nat.zero_le _⟩) hS (fun q _ h => hFc q h) hFc (fun xi84 t H84 locs ht hvm hw84 hB hz1 hk1 hS => ?_)
      have hP : va_P (dC, dI) vwCl (wR 21 ad (EM cs ad) xi84) H84 := by rw [← ht]; exact hB
      obtain ⟨ok, hw84, hkp84_0⟩ := hw84
      have ez85 : y1 = xi84 2 vr.toNatClampNeg := ey1.trans (congrFun (hkp84_0 2 (by decide) (by decide)) vr.toNatClampNeg).symm
      have ez86 : y58 = xi84 0 42 := ey58.trans (congrFun (hkp84_0 0 (by decide) (by decide)) 42).symm
      have kp87 : ∀ k : Nat, 2 ≤ k → k < 3 → xi84 k = mu k := fun k h1 h2 => (hkp84_0 k (Nat.le_trans (by decide) h1) (Nat.lt_of_lt_of_le h2 (by decide))).trans ((fun _ _ _ => rfl) k h1 h2)
      refine lv_aload_n hx hb dX12_hadOn_28 rfl (lv_at hl 0 rfl) ?_
      refine lv_dup hx hb dX12_hadOn_29 rfl ?_
      refine va_get (D := (dC, dI)) (ci := 12) (v := .int (xi84 0 42)) (C := RX12) (T := TX12) (N := 46) hx hb hts inG12 hown hK hP 0 (gM_0 cs ad xi84) rfl 42 (by decide) (hts _ (List.mem_cons_of_mem _ mw_5_83)) (fun _ h9 => h9) rfl dX12_hadOn_30 ?_
      refine lq_i y58 ez86.symm ?_
      refine lv_iconst (v := 1) hx hb dX12_hadOn_33 (by decide) ?_
      refine lv_iadd hx hb dX12_hadOn_34 ?_
      refine lv_topi (fun t88 et88 => ?_)
      have at88 : t88.toInt = y58.toInt + 1 := by rw [et88]; exact tI_add (rfl : y58.toInt = _) (rfl : (1 : Int32).toInt = 1) (by omega) (by omega)
      refine va_put (D := (dC, dI)) (ci := 12) (v := .int t88) (ty := .int) (C := RX12) (T := TX12) (N := 46) hx hb hts inG12 tyX12 tyX12_ok nmX12 hown hK hP (wR_D xi84 hD) hS 0 (gM_0 cs ad xi84) rfl 42 (by decide) (hts _ (List.mem_cons_of_mem _ mw_5_83)) (fun _ h9 => h9) rfl (by decide +kernel) rfl rfl (Nat.le_of_ble_eq_true rfl) dX12_hadOn_35 (fun H locs hP _ hS => ?_)
      simp only [List.set_cons_succ, List.set_cons_zero] at hP
      refine wr_gen (upd (xi84 0) 42 t88) hP ((hM_0_42 cs ad _ _)) (fun nu89 hn89 hP => ?_)
      have ok := tM_0_42 ok hn89
      have ez90 : y1 = nu89 2 vr.toNatClampNeg := ez85.trans (congrFun (up_k hn89 (by decide)) vr.toNatClampNeg).symm
      have kp91 : ∀ k : Nat, 2 ≤ k → k < 3 → nu89 k = mu k := fun k h1 h2 => (up_k hn89 (ne_lo (by decide) h1).symm).trans (kp87 k h1 h2)
      have ez92 : t88 = nu89 0 42 := up_v hn89
      refine lv_aload_n hx hb dX12_hadOn_38 rfl (lv_at hl 0 rfl) ?_
      refine lv_dup hx hb dX12_hadOn_39 rfl ?_
      refine va_get (D := (dC, dI)) (ci := 12) (v := .int (nu89 0 43)) (C := RX12) (T := TX12) (N := 46) hx hb hts inG12 hown hK hP 0 (gM_0 cs ad nu89) rfl 43 (by decide) (hts _ (List.mem_cons_of_mem _ mw_5_84)) (fun _ h9 => h9) rfl dX12_hadOn_40 ?_
      refine lv_topi (fun y93 ey93 => ?_)
      have by93 : y93.toInt = (nu89 0 43).toInt := congrArg Int32.toInt ey93
      refine lv_iconst (v := 1) hx hb dX12_hadOn_43 (by decide) ?_
      refine lv_aload_n hx hb dX12_hadOn_44 rfl (lv_at hl 0 rfl) ?_
      refine va_get (D := (dC, dI)) (ci := 12) (v := .ref (ad 16)) (C := RX12) (T := TX12) (N := 46) hx hb hts inG12 hown hK hP 0 (gM_0 cs ad nu89) rfl 26 (by decide) (hts _ (List.mem_cons_of_mem _ mw_5_67)) (fun _ h9 => h9) rfl dX12_hadOn_45 ?_
      refine lv_iload_n hx hb dX12_hadOn_48 rfl (lv_at hl 2 rfl) ?_
      refine lv_iconst (v := 1) hx hb dX12_hadOn_49 (by decide) ?_
      refine lv_isub hx hb dX12_hadOn_50 ?_
      refine lq_i 1 (by decide) ?_
      refine va_iald hx hb hK hP 16 0 (gM_16 cs ad nu89) rfl (show vp_in 1 7 from (by unfold vp_in; decide)) dX12_hadOn_51 ?_
      refine lv_topi (fun y94 ey94 => ?_)
      have by94 : y94.toInt = (nu89 16 (1 : Int32).toNatClampNeg).toInt := congrArg Int32.toInt ey94
      have gy94 : 0 ≤ y94.toInt ∧ y94.toInt ≤ 6 := by rw [ey94]; exact rM_16_s ok (1 : Int32).toNatClampNeg
      refine lv_ishl hx hb dX12_hadOn_52 ?_
      refine lv_topi (fun t95 et95 => ?_)
      refine lv_ior hx hb dX12_hadOn_53 ?_
      refine lv_topi (fun t96 et96 => ?_)
      refine va_put (D := (dC, dI)) (ci := 12) (v := .int t96) (ty := .int) (C := RX12) (T := TX12) (N := 46) hx hb hts inG12 tyX12 tyX12_ok nmX12 hown hK hP (wR_D nu89 hD) hS 0 (gM_0 cs ad nu89) rfl 43 (by decide) (hts _ (List.mem_cons_of_mem _ mw_5_84)) (fun _ h9 => h9) rfl (by decide +kernel) rfl rfl (Nat.le_of_ble_eq_true rfl) dX12_hadOn_54 (fun H locs hP _ hS => ?_)
      simp only [List.set_cons_succ, List.set_cons_zero] at hP
      refine wr_gen (upd (nu89 0) 43 t96) hP ((hM_0_43 cs ad _ _)) (fun nu97 hn97 hP => ?_)
      have ok := tM_0_43 ok hn97
      have ez98 : y1 = nu97 2 vr.toNatClampNeg := ez90.trans (congrFun (up_k hn97 (by decide)) vr.toNatClampNeg).symm
      have ez99 : t88 = nu97 0 42 := ez92.trans (up_f hn97 (by decide)).symm
      have ez100 : y94 = nu97 16 (1 : Int32).toNatClampNeg := ey94.trans (congrFun (up_k hn97 (by decide)) (1 : Int32).toNatClampNeg).symm
      have kp101 : ∀ k : Nat, 2 ≤ k → k < 3 → nu97 k = mu k := fun k h1 h2 => (up_k hn97 (ne_lo (by decide) h1).symm).trans (kp91 k h1 h2)
      have ez102 : t96 = nu97 0 43 := up_v hn97
      refine lv_aload_n hx hb dX12_hadOn_57 rfl (lv_at hl 0 rfl) ?_
      refine lv_dup hx hb dX12_hadOn_58 rfl ?_
      refine va_get (D := (dC, dI)) (ci := 12) (v := .int (nu97 0 44)) (C := RX12) (T := TX12) (N := 46) hx hb hts inG12 hown hK hP 0 (gM_0 cs ad nu97) rfl 44 (by decide) (hts _ (List.mem_cons_of_mem _ mw_5_85)) (fun _ h9 => h9) rfl dX12_hadOn_59 ?_
      refine lv_topi (fun y103 ey103 => ?_)
      have by103 : y103.toInt = (nu97 0 44).toInt := congrArg Int32.toInt ey103
      refine lv_iload_n hx hb dX12_hadOn_62 rfl (lv_at hl 3 rfl) ?_
      refine lv_iand hx hb dX12_hadOn_63 ?_
      refine lv_topi (fun t104 et104 => ?_)
      refine va_put (D := (dC, dI)) (ci := 12) (v := .int t104) (ty := .int) (C := RX12) (T := TX12) (N := 46) hx hb hts inG12 tyX12 tyX12_ok nmX12 hown hK hP (wR_D nu97 hD) hS 0 (gM_0 cs ad nu97) rfl 44 (by decide) (hts _ (List.mem_cons_of_mem _ mw_5_85)) (fun _ h9 => h9) rfl (by decide +kernel) rfl rfl (Nat.le_of_ble_eq_true rfl) dX12_hadOn_64 (fun H locs hP _ hS => ?_)
      simp only [List.set_cons_succ, List.set_cons_zero] at hP
      refine wr_gen (upd (nu97 0) 44 t104) hP ((hM_0_44 cs ad _ _)) (fun nu105 hn105 hP => ?_)
      have ok := tM_0_44 ok hn105
      have ez106 : y1 = nu105 2 vr.toNatClampNeg := ez98.trans (congrFun (up_k hn105 (by decide)) vr.toNatClampNeg).symm
      have ez107 : t88 = nu105 0 42 := ez99.trans (up_f hn105 (by decide)).symm
      have ez108 : y94 = nu105 16 (1 : Int32).toNatClampNeg := ez100.trans (congrFun (up_k hn105 (by decide)) (1 : Int32).toNatClampNeg).symm
      have ez109 : t96 = nu105 0 43 := ez102.trans (up_f hn105 (by decide)).symm
      have kp110 : ∀ k : Nat, 2 ≤ k → k < 3 → nu105 k = mu k := fun k h1 h2 => (up_k hn105 (ne_lo (by decide) h1).symm).trans (kp101 k h1 h2)
      have ez111 : t104 = nu105 0 44 := up_v hn105
      exact W.vret hx hb hr (fun t ht hW => ⟨⟨nu105, rfl, ⟨ok, trivial, kp110⟩, by first | (subst ht; exact hP) | (rw [ht]; exact hP) | (show va_P (dC, dI) vwCl (wR 21 ad (EM cs ad) nu105) t.heap; rw [ht]; exact hP)⟩, hS.F ht⟩) hS.2.2 dX12_hadOn_67
set_option maxHeartbeats 4000000 in
set_option maxRecDepth 100000 in
/-- sm_hadOn1 -/
theorem sm_hadOn1 (l : Launch) (dC : Nat → ClassId) (dI : Nat → Nat → Nat) (cs : Nat → ClassId) (ad : Nat → Nat) (mu : Nat → Nat → Int32) (ok : okR loM hiM mu) (H : Heap) (hP : va_P (dC, dI) vwCl (wR 21 ad (EM cs ad) mu) H) (hD0 : va_D (fun _ => True) (wR 21 ad (EM cs ad) mu)) (vr : Int32) (vh : Int32) (vp : Int32) (hin0 : 0 ≤ vr.toInt ∧ vr.toInt ≤ 5) (hin1 : 1 ≤ (mu 2 vr.toNatClampNeg).toInt + 1 ∧ (mu 2 vr.toNatClampNeg).toInt ≤ 6) : Met l yX12_hadOn (wU yX12_hadOn cX12_hadOn 10 none) ({ frames := 7, cells := 0, slots := 0, locals := 197 }) (va_Pc [.ref (ad 0), .int vr, .int 1, .int vh, .int vp] (sz_P (dC, dI) vwCl (tyM cs) H)) (va_Qv (fun (xi : Nat → Nat → Int32) => okR loM hiM xi ∧ (True) ∧ (∀ k : Nat, 2 ≤ k → k < 3 → xi k = mu k)) (fun xi t => va_P (dC, dI) vwCl (wR 21 ad (EM cs ad) xi) t.heap) (va_A (wR 21 ad (EM cs ad) mu) H.size)) 0 0 (va_A (wR 21 ad (EM cs ad) mu) H.size) := by
  refine Met.ofW (cc := cX12_hadOn) (maxL := 10) (ret := none) (by decide) rfl ?_
  intro p e s m args below meth c s₁ B hml hv
  obtain ⟨rfl, hh, hK, hz⟩ := hv
  have hx := B.exec
  have hb := B.bytes
  have hr := B.returns
  have hts := atoms_spec (ws := (wU yX12_hadOn cX12_hadOn 10 none)) B.pre
  have hown : s.vm.findClass RX12 = some m.cls := findClass_of_methodNamed B.named
  have hlocks := B.notSynchronized
  subst hh
  have hD := hD0.self (sz := s.heap.size)
  have hA : ∀ q : Nat, s.heap.size ≤ q → (va_A (wR 21 ad (EM cs ad) mu) s.heap.size) q := fun q h => Or.inr h
  have hS : va_S (va_A (wR 21 ad (EM cs ad) mu) s.heap.size) s.heap s.heap [] := va_S.rf
  have hl := lv_entry ([.ref (ad 0), .int vr, .int 1, .int vh, .int vp]) (n := 10) (Nat.le_of_ble_eq_true rfl)
  rw [lg_entry_eq]
  generalize (lg_sl ([.ref (ad 0), .int vr, .int 1, .int vh, .int vp]) ++ List.replicate (10 - (lg_sl ([.ref (ad 0), .int vr, .int 1, .int vh, .int vp])).length) Slot.unset).toArray = ls at hl ⊢
  have hl : lv_has ls 10 [(0, .ref (ad 0)), (1, .int vr), (2, .int 1), (3, .int vh), (4, .int vp)] := hl
  refine lv_iload_n hx hb dX12_hadOn_0 rfl (lv_at hl 2 rfl) ?_
  refine lv_aload_n hx hb dX12_hadOn_1 rfl (lv_at hl 0 rfl) ?_
  refine va_get (D := (dC, dI)) (ci := 12) (v := .ref (ad 2)) (C := RX12) (T := TX12) (N := 46) hx hb hts inG12 hown hK hP 0 (gM_0 cs ad mu) rfl 3 (by decide) (hts _ (List.mem_cons_of_mem _ mw_5_44)) (fun _ h9 => h9) rfl dX12_hadOn_2 ?_
  refine lv_iload_n hx hb dX12_hadOn_5 rfl (lv_at hl 1 rfl) ?_
  refine va_iald hx hb hK hP 2 0 (gM_2 cs ad mu) rfl (show vp_in vr 6 from vi_of (by omega) (by omega)) dX12_hadOn_6 ?_
  refine lv_topi (fun y1 ey1 => ?_)
  have by1 : y1.toInt = (mu 2 vr.toNatClampNeg).toInt := congrArg Int32.toInt ey1
  have gy1 : -9 ≤ y1.toInt ∧ y1.toInt ≤ 40 := by rw [ey1]; exact rM_2_s ok vr.toNatClampNeg
  refine lv_iconst (v := 1) hx hb dX12_hadOn_7 (by decide) ?_
  refine lv_iadd hx hb dX12_hadOn_8 ?_
  refine lv_topi (fun t2 et2 => ?_)
  have at2 : t2.toInt = y1.toInt + 1 := by rw [et2]; exact tI_add (rfl : y1.toInt = _) (rfl : (1 : Int32).toInt = 1) (by omega) (by omega)
  refine lv_icmp_ne (tgt := 68) hx hb dX12_hadOn_9 (by decide) (fun c_3 => ?_) (fun c_3 => ?_)
  · have c_3 : ¬ 1 = t2.toInt := il_ne c_3
    refine lv_aload_n hx hb dX12_hadOn_68 rfl (lv_at hl 0 rfl) ?_
    refine va_get (D := (dC, dI)) (ci := 12) (v := .ref (ad 16)) (C := RX12) (T := TX12) (N := 46) hx hb hts inG12 hown hK hP 0 (gM_0 cs ad mu) rfl 26 (by decide) (hts _ (List.mem_cons_of_mem _ mw_5_67)) (fun _ h9 => h9) rfl dX12_hadOn_69 ?_
    refine lv_iload_n hx hb dX12_hadOn_72 rfl (lv_at hl 2 rfl) ?_
    refine lv_iconst (v := 1) hx hb dX12_hadOn_73 (by decide) ?_
    refine lv_isub hx hb dX12_hadOn_74 ?_
    refine lq_i 0 (by decide) ?_
    refine va_iald hx hb hK hP 16 0 (gM_16 cs ad mu) rfl (show vp_in 0 7 from (by unfold vp_in; decide)) dX12_hadOn_75 ?_
    refine lv_topi (fun y4 ey4 => ?_)
    have by4 : y4.toInt = (mu 16 (0 : Int32).toNatClampNeg).toInt := congrArg Int32.toInt ey4
    have gy4 : 0 ≤ y4.toInt ∧ y4.toInt ≤ 6 := by rw [ey4]; exact rM_16_s ok (0 : Int32).toNatClampNeg
    refine lv_istore (lv' := [(5, .int y4), (0, .ref (ad 0)), (1, .int vr), (2, .int 1), (3, .int vh), (4, .int vp)]) hx hb dX12_hadOn_76 hl (by decide) rfl (fun ls hl => ?_)
    refine lv_aload_n hx hb dX12_hadOn_78 rfl (lv_at hl 1 rfl) ?_
    refine lv_iload hx hb dX12_hadOn_79 (lv_at hl 0 rfl) ?_
    refine lv_iload hx hb dX12_hadOn_81 (lv_at hl 5 rfl) ?_
    refine cr_i (va_runV (As := [.int y4, .int vp]) (rest := []) ⟨hx, hb, hml, hown, hts⟩ (sm_asksOf l dC dI cs ad mu ok s.heap hP y4 vp (by omega)) (cwV 2 hts (wU_V mw_6_74 mw_6_71 mw_6_73 mw_0_42 mw_1_13) rfl rfl rfl (by decide +kernel) ⟨Nat.le_of_ble_eq_true rfl, Nat.le_of_ble_eq_true rfl⟩) ⟨sz_c, va_recv hK hP (ci := 12) (q0 := 0) rfl (gM_0 cs ad mu), sz_m hK hz⟩ rfl rfl hl.1 rfl (lv_room (Nat.le_of_ble_eq_true rfl)) dX12_hadOn_83 ⟨Nat.zero_le _, Nat.zero_le _⟩) hS (fun r5 hw5 locs hS => ?_)
    refine lv_istore (lv' := [(6, .int r5), (5, .int y4), (0, .ref (ad 0)), (1, .int vr), (2, .int 1), (3, .int vh), (4, .int vp)]) hx hb dX12_hadOn_86 hl (by decide) rfl (fun ls hl => ?_)
    refine lv_iload hx hb dX12_hadOn_88 (lv_at hl 0 rfl) ?_
    refine lv_aload_n hx hb dX12_hadOn_90 rfl (lv_at hl 2 rfl) ?_
    refine lv_iload_n hx hb dX12_hadOn_91 rfl (lv_at hl 3 rfl) ?_
    refine lv_iload_n hx hb dX12_hadOn_92 rfl (lv_at hl 4 rfl) ?_
    refine lv_iconst (v := 1) hx hb dX12_hadOn_93 (by decide) ?_
    refine lv_isub hx hb dX12_hadOn_94 ?_
    refine lq_i 0 (by decide) ?_
    refine cr_i (va_runV (As := [.int vr, .int 0]) (rest := [.int r5]) ⟨hx, hb, hml, hown, hts⟩ (sm_rowAt l dC dI cs ad mu ok s.heap hP vr 0 (by have h51 : (0 : Int32).toInt = 0 := rfl; omega)) (cwV 2 hts (wU_V mw_5_209 mw_5_206 mw_5_208 mw_0_29 mw_1_13) rfl rfl rfl (by decide +kernel) ⟨Nat.le_of_ble_eq_true rfl, Nat.le_of_ble_eq_true rfl⟩) ⟨sz_c, va_recv hK hP (ci := 12) (q0 := 0) rfl (gM_0 cs ad mu), sz_m hK hz⟩ rfl rfl hl.1 rfl (lv_room (Nat.le_of_ble_eq_true rfl)) dX12_hadOn_95 ⟨Nat.zero_le _, Nat.zero_le _⟩) hS (fun r6 hw6 locs hS => ?_)
    refine lv_icmp_ne (tgt := 121) hx hb dX12_hadOn_98 (by decide) (fun c_7 => ?_) (fun c_7 => ?_)
    · have c_7 : ¬ r5.toInt = r6.toInt := il_ne c_7
      refine lv_iconst (v := 0) hx hb dX12_hadOn_121 (by decide) ?_
      refine lv_istore (lv' := [(7, .int 0), (6, .int r5), (5, .int y4), (0, .ref (ad 0)), (1, .int vr), (2, .int 1), (3, .int vh), (4, .int vp)]) hx hb dX12_hadOn_122 hl (by decide) rfl (fun ls hl => ?_)
      refine lv_iload hx hb dX12_hadOn_124 (lv_at hl 0 rfl) ?_
      refine lv_if_eq (tgt := 142) hx hb dX12_hadOn_126 (by decide) (fun _ => ?_) (fun c => absurd (by decide) c)
      refine lv_iconst (v := 0) hx hb dX12_hadOn_142 (by decide) ?_
      refine lv_istore (lv' := [(8, .int 0), (7, .int 0), (6, .int r5), (5, .int y4), (0, .ref (ad 0)), (1, .int vr), (2, .int 1), (3, .int vh), (4, .int vp)]) hx hb dX12_hadOn_143 hl (by decide) rfl (fun ls hl => ?_)
      refine lv_iconst (v := 0) hx hb dX12_hadOn_145 (by decide) ?_
      refine lv_istore (lv' := [(9, .int 0), (8, .int 0), (7, .int 0), (6, .int r5), (5, .int y4), (0, .ref (ad 0)), (1, .int vr), (2, .int 1), (3, .int vh), (4, .int vp)]) hx hb dX12_hadOn_146 hl (by decide) rfl (fun ls hl => ?_)
      have loop148 : ∀ (n148 : Nat) (v9_148 : Int32) (nu148_ : Nat → Nat → Int32) (H : Heap) (locs : List Loc) (ls : Array Slot), (7 + 1 - v9_148.toInt).toNat < n148 → (0 ≤ v9_148.toInt ∧ v9_148.toInt ≤ 7) → okR loM hiM nu148_ → va_P (dC, dI) vwCl (wR 21 ad (EM cs ad) nu148_) H → y1 = nu148_ 2 vr.toNatClampNeg → (∀ k : Nat, 2 ≤ k → k < 3 → nu148_ k = mu k) → va_S (va_A (wR 21 ad (EM cs ad) mu) s.heap.size) s.heap H locs → lv_has ls 10 [(9, .int v9_148), (8, .int 0), (7, .int 0), (6, .int r5), (5, .int y4), (0, .ref (ad 0)), (1, .int vr), (2, .int 1), (3, .int vh), (4, .int vp)] → W p l e (headSpec (wU yX12_hadOn cX12_hadOn 10 none) ({ frames := 7, cells := 0, slots := 0, locals := 197 })).room s m ([.ref (ad 0), .int vr, .int 1, .int vh, .int vp] : List Value).toArray below meth c H locs 0 0 (MQ below (va_Qv (fun (xi : Nat → Nat → Int32) => okR loM hiM xi ∧ (True) ∧ (∀ k : Nat, 2 ≤ k → k < 3 → xi k = mu k)) (fun xi t => va_P (dC, dI) vwCl (wR 21 ad (EM cs ad) xi) t.heap) (va_A (wR 21 ad (EM cs ad) mu) s.heap.size)) ([.ref (ad 0), .int vr, .int 1, .int vh, .int vp] : List Value).toArray s 0 0 (va_A (wR 21 ad (EM cs ad) mu) s.heap.size)) (F0 m 148 ls []) := by
        intro n148
        induction n148 with
        | zero => intro v9_148 nu148_ H locs ls hm; exact absurd hm (Nat.not_lt_zero _)
        | succ n148 ih148 =>
          intro v9_148 nu148_ H locs ls hm h_v9_148 ok hP ek148_0 kq148_0 hS hl
          refine lv_iload hx hb dX12_hadOn_148 (lv_at hl 0 rfl) ?_
          refine lv_aload_n hx hb dX12_hadOn_150 rfl (lv_at hl 5 rfl) ?_
          refine va_get (D := (dC, dI)) (ci := 12) (v := .int (nu148_ 0 8)) (C := RX12) (T := TX12) (N := 46) hx hb hts inG12 hown hK hP 0 (gM_0 cs ad nu148_) rfl 8 (by decide) (hts _ (List.mem_cons_of_mem _ mw_5_49)) (fun _ h9 => h9) rfl dX12_hadOn_151 ?_
          refine lv_topi (fun y8 ey8 => ?_)
          have by8 : y8.toInt = (nu148_ 0 8).toInt := congrArg Int32.toInt ey8
          have gy8 : 0 ≤ y8.toInt ∧ y8.toInt ≤ 7 := by rw [ey8]; exact rM_0_8 ok
          refine lv_icmp_ge (tgt := 197) hx hb dX12_hadOn_154 (by decide) (fun c_9 => ?_) (fun c_9 => ?_)
          · have c_9 : y8.toInt ≤ v9_148.toInt := il_le c_9
            exact W.vret hx hb hr (fun t ht hW => ⟨⟨nu148_, rfl, ⟨ok, trivial, kq148_0⟩, by first | (subst ht; exact hP) | (rw [ht]; exact hP) | (show va_P (dC, dI) vwCl (wR 21 ad (EM cs ad) nu148_) t.heap; rw [ht]; exact hP)⟩, hS.F ht⟩) hS.2.2 dX12_hadOn_197
          · have c_9 : v9_148.toInt < y8.toInt := il_nle c_9
            refine lv_iload hx hb dX12_hadOn_157 (lv_at hl 1 rfl) ?_
            refine lv_iload hx hb dX12_hadOn_159 (lv_at hl 0 rfl) ?_
            refine cr_i (va_runS (As := [.int 0, .int v9_148]) (rest := []) ⟨hx, hb, hml, hown, hts⟩ (sm_has l dC dI (tyM cs) H 0 v9_148) (va_cwS 2 hts (wU_S mw_6_59 mw_6_57 mw_6_58 mw_1_13) rfl rfl rfl (by decide +kernel) ⟨Nat.le_of_ble_eq_true rfl, Nat.le_of_ble_eq_true rfl⟩) ⟨sz_c, sz_m hK hz⟩ rfl rfl hl.1 rfl (lv_room (Nat.le_of_ble_eq_true rfl)) dX12_hadOn_161 ⟨Nat.zero_le _, Nat.zero_le _⟩) hS (fun r10 hw10 locs hS => ?_)
            rcases hw10 with ⟨rfl, f10⟩ | ⟨rfl, f10⟩
            · have f10 : rb (0 : Int32) v9_148 = 1 := f10
              refine lv_if_eq (tgt := 191) hx hb dX12_hadOn_164 (by decide) (fun c => absurd c (by decide)) (fun _ => ?_)
              refine lv_aload_n hx hb dX12_hadOn_167 rfl (lv_at hl 5 rfl) ?_
              refine va_get (D := (dC, dI)) (ci := 12) (v := .ref (ad 16)) (C := RX12) (T := TX12) (N := 46) hx hb hts inG12 hown hK hP 0 (gM_0 cs ad nu148_) rfl 26 (by decide) (hts _ (List.mem_cons_of_mem _ mw_5_67)) (fun _ h9 => h9) rfl dX12_hadOn_168 ?_
              refine lv_iload_n hx hb dX12_hadOn_171 rfl (lv_at hl 7 rfl) ?_
              refine lv_iload hx hb dX12_hadOn_172 (lv_at hl 0 rfl) ?_
              refine va_iast hx hb hK hP (wR_D nu148_ hD) hS 16 0 (gM_16 cs ad nu148_) rfl (show vp_in 1 7 from (by unfold vp_in; decide)) dX12_hadOn_174 (fun H locs hP _ hS => ?_)
              refine wr_gen (upd (nu148_ 16) (1 : Int32).toNatClampNeg v9_148) hP (rfl) (fun nu11 hn11 hP => ?_)
              have ok := tM_16_s ok (1 : Int32).toNatClampNeg hn11 (by exact ⟨by omega, by omega⟩)
              have ez12 : y1 = nu11 2 vr.toNatClampNeg := ek148_0.trans (congrFun (up_k hn11 (by decide)) vr.toNatClampNeg).symm
              have ez13 : y8 = nu11 0 8 := ey8.trans (congrFun (up_k hn11 (by decide)) 8).symm
              have kp14 : ∀ k : Nat, 2 ≤ k → k < 3 → nu11 k = mu k := fun k h1 h2 => (up_k hn11 (ne_hi (by decide) h2).symm).trans (kq148_0 k h1 h2)
              refine lv_aload_n hx hb dX12_hadOn_175 rfl (lv_at hl 5 rfl) ?_
              refine lv_iload_n hx hb dX12_hadOn_176 rfl (lv_at hl 6 rfl) ?_
              refine lv_iload_n hx hb dX12_hadOn_177 rfl (lv_at hl 7 rfl) ?_
              refine lv_iconst (v := 1) hx hb dX12_hadOn_178 (by decide) ?_
              refine lv_iadd hx hb dX12_hadOn_179 ?_
              refine lq_i 2 (by decide) ?_
              refine lv_iload_n hx hb dX12_hadOn_180 rfl (lv_at hl 8 rfl) ?_
              refine lv_iconst (v := 1) hx hb dX12_hadOn_181 (by decide) ?_
              refine lv_iload hx hb dX12_hadOn_182 (lv_at hl 0 rfl) ?_
              refine lv_ishl hx hb dX12_hadOn_184 ?_
              refine lv_topi (fun t15 et15 => ?_)
              refine lv_ior hx hb dX12_hadOn_185 ?_
              refine lv_topi (fun t16 et16 => ?_)
              refine lv_iload hx hb dX12_hadOn_186 (lv_at hl 3 rfl) ?_
              have hFc := fr_all (wR_D nu11 hD) hS hA
              refine va_callv (va_runV (As := [.int vr, .int 2, .int t16, .int r5]) (rest := []) ⟨hx, hb, hml, hown, hts⟩ (sm_hadOn2 l dC dI cs ad nu11 ok H hP ((wR_D nu11 hD).weaken (fun _ _ _ _ => trivial)) vr t16 r5 (by have h51 : (2 : Int32).toInt = 2 := rfl; omega) (by have h51 : (2 : Int32).toInt = 2 := rfl; have hb17 := congrArg Int32.toInt ez12; omega)) (cwV 4 hts (wU_V mw_7_24 mw_7_21 mw_7_23 mw_0_62 mw_1_13) rfl rfl rfl (by decide +kernel) ⟨Nat.le_of_ble_eq_true rfl, Nat.le_of_ble_eq_true rfl⟩) ⟨sz_c, va_recv hK hP (ci := 12) (q0 := 0) rfl (gM_0 cs ad nu11), sz_m hK hz⟩ rfl rfl hl.1 rfl (lv_room (Nat.le_of_ble_eq_true rfl)) dX12_hadOn_188 ⟨Nat.zero_le _, Nat.zero_le _⟩) hS (fun q _ h => hFc q h) hFc (fun xi18 t H18 locs ht hvm hw18 hB hz1 hk1 hS => ?_)
              have hP : va_P (dC, dI) vwCl (wR 21 ad (EM cs ad) xi18) H18 := by rw [← ht]; exact hB
              obtain ⟨ok, hw18, hkp18_0⟩ := hw18
              have ez19 : y1 = xi18 2 vr.toNatClampNeg := ez12.trans (congrFun (hkp18_0 2 (by decide) (by decide)) vr.toNatClampNeg).symm
              have kp20 : ∀ k : Nat, 2 ≤ k → k < 3 → xi18 k = mu k := fun k h1 h2 => (hkp18_0 k (Nat.le_trans (by decide) h1) (Nat.lt_of_lt_of_le h2 (by decide))).trans (kp14 k h1 h2)
              refine lv_iinc (v := (v9_148 + 1)) (lv' := [(9, .int (v9_148 + 1)), (8, .int 0), (7, .int 0), (6, .int r5), (5, .int y4), (0, .ref (ad 0)), (1, .int vr), (2, .int 1), (3, .int vh), (4, .int vp)]) hx hb dX12_hadOn_191 hl (k := 0) rfl rfl (by decide) rfl (fun ls hl => ?_)
              refine loc_gen (P := fun w9 => lv_has ls 10 [(9, .int w9), (8, .int 0), (7, .int 0), (6, .int r5), (5, .int y4), (0, .ref (ad 0)), (1, .int vr), (2, .int 1), (3, .int vh), (4, .int vp)]) (v9_148 + 1) hl (fun w21 hw21 hl => ?_)
              have hl : lv_has ls 10 [(9, .int w21), (8, .int 0), (7, .int 0), (6, .int r5), (5, .int y4), (0, .ref (ad 0)), (1, .int vr), (2, .int 1), (3, .int vh), (4, .int vp)] := hl
              have aw21 : w21.toInt = v9_148.toInt + 1 := by rw [← hw21]; exact tI_add (rfl : v9_148.toInt = _) (rfl : (1 : Int32).toInt = 1) (by omega) (by omega)
              refine lv_goto (tgt := 148) hx hb dX12_hadOn_194 (by decide) ?_
              exact ih148 (w21) xi18 _ _ _ (by omega) (by exact ⟨by omega, by omega⟩)  ok hP ez19 kp20 hS (lv_sub hl [0, 1, 2, 3, 4, 5, 6, 7, 8, 9] rfl)
            · have f10 : ¬ rb (0 : Int32) v9_148 = 1 := f10
              refine lv_if_eq (tgt := 191) hx hb dX12_hadOn_164 (by decide) (fun _ => ?_) (fun c => absurd (by decide) c)
              refine lv_iinc (v := (v9_148 + 1)) (lv' := [(9, .int (v9_148 + 1)), (8, .int 0), (7, .int 0), (6, .int r5), (5, .int y4), (0, .ref (ad 0)), (1, .int vr), (2, .int 1), (3, .int vh), (4, .int vp)]) hx hb dX12_hadOn_191 hl (k := 0) rfl rfl (by decide) rfl (fun ls hl => ?_)
              refine loc_gen (P := fun w9 => lv_has ls 10 [(9, .int w9), (8, .int 0), (7, .int 0), (6, .int r5), (5, .int y4), (0, .ref (ad 0)), (1, .int vr), (2, .int 1), (3, .int vh), (4, .int vp)]) (v9_148 + 1) hl (fun w22 hw22 hl => ?_)
              have hl : lv_has ls 10 [(9, .int w22), (8, .int 0), (7, .int 0), (6, .int r5), (5, .int y4), (0, .ref (ad 0)), (1, .int vr), (2, .int 1), (3, .int vh), (4, .int vp)] := hl
              have aw22 : w22.toInt = v9_148.toInt + 1 := by rw [← hw22]; exact tI_add (rfl : v9_148.toInt = _) (rfl : (1 : Int32).toInt = 1) (by omega) (by omega)
              refine lv_goto (tgt := 148) hx hb dX12_hadOn_194 (by decide) ?_
              exact ih148 (w22) nu148_ _ _ _ (by omega) (by exact ⟨by omega, by omega⟩)  ok hP ek148_0 kq148_0 hS (lv_sub hl [0, 1, 2, 3, 4, 5, 6, 7, 8, 9] rfl)
      exact loop148 ((7 + 1 - (0 : Int32).toInt).toNat + 1) (0) mu _ _ _ (Nat.lt_succ_self _) (by have h80 : (0 : Int32).toInt = 0 := rfl; exact ⟨by omega, by omega⟩)  ok hP ey1 (fun _ _ _ => rfl) hS hl
    · have c_7 : r5.toInt = r6.toInt := il_eq c_7
      refine lv_iload_n hx hb dX12_hadOn_101 rfl (lv_at hl 4 rfl) ?_
      refine lv_iconst (v := 1) hx hb dX12_hadOn_102 (by decide) ?_
      refine lv_icmp_eq (tgt := 117) hx hb dX12_hadOn_103 (by decide) (fun _ => ?_) (fun c => absurd (by decide) c)
      refine lv_iconst (v := 1) hx hb dX12_hadOn_117 (by decide) ?_
      refine lv_goto (tgt := 122) hx hb dX12_hadOn_118 (by decide) ?_
      refine lv_istore (lv' := [(7, .int 1), (6, .int r5), (5, .int y4), (0, .ref (ad 0)), (1, .int vr), (2, .int 1), (3, .int vh), (4, .int vp)]) hx hb dX12_hadOn_122 hl (by decide) rfl (fun ls hl => ?_)
      refine lv_iload hx hb dX12_hadOn_124 (lv_at hl 0 rfl) ?_
      refine lv_if_eq (tgt := 142) hx hb dX12_hadOn_126 (by decide) (fun c => absurd c (by decide)) (fun _ => ?_)
      refine lv_aload_n hx hb dX12_hadOn_129 rfl (lv_at hl 3 rfl) ?_
      refine lv_iload hx hb dX12_hadOn_130 (lv_at hl 2 rfl) ?_
      refine cr_i (va_runV (As := [.int y4]) (rest := []) ⟨hx, hb, hml, hown, hts⟩ (sm_besideOf l dC dI cs ad mu ok s.heap hP y4) (cwV 1 hts (wU_V mw_6_56 mw_6_53 mw_6_55 mw_0_40 mw_1_13) rfl rfl rfl (by decide +kernel) ⟨Nat.le_of_ble_eq_true rfl, Nat.le_of_ble_eq_true rfl⟩) ⟨sz_c, va_recv hK hP (ci := 12) (q0 := 0) rfl (gM_0 cs ad mu), sz_m hK hz⟩ rfl rfl hl.1 rfl (lv_room (Nat.le_of_ble_eq_true rfl)) dX12_hadOn_132 ⟨Nat.zero_le _, Nat.zero_le _⟩) hS (fun r23 hw23 locs hS => ?_)
      refine lv_iload_n hx hb dX12_hadOn_135 rfl (lv_at hl 6 rfl) ?_
      refine lv_iconst (v := (-1)) hx hb dX12_hadOn_136 (by decide) ?_
      refine lv_ixor hx hb dX12_hadOn_137 ?_
      refine lv_topi (fun t24 et24 => ?_)
      refine lv_iand hx hb dX12_hadOn_138 ?_
      refine lv_topi (fun t25 et25 => ?_)
      refine lv_goto (tgt := 143) hx hb dX12_hadOn_139 (by decide) ?_
      refine lv_istore (lv' := [(8, .int t25), (7, .int 1), (6, .int r5), (5, .int y4), (0, .ref (ad 0)), (1, .int vr), (2, .int 1), (3, .int vh), (4, .int vp)]) hx hb dX12_hadOn_143 hl (by decide) rfl (fun ls hl => ?_)
      refine lv_iconst (v := 0) hx hb dX12_hadOn_145 (by decide) ?_
      refine lv_istore (lv' := [(9, .int 0), (8, .int t25), (7, .int 1), (6, .int r5), (5, .int y4), (0, .ref (ad 0)), (1, .int vr), (2, .int 1), (3, .int vh), (4, .int vp)]) hx hb dX12_hadOn_146 hl (by decide) rfl (fun ls hl => ?_)
      have loop148 : ∀ (n148 : Nat) (v9_148 : Int32) (nu148_ : Nat → Nat → Int32) (H : Heap) (locs : List Loc) (ls : Array Slot), (7 + 1 - v9_148.toInt).toNat < n148 → (0 ≤ v9_148.toInt ∧ v9_148.toInt ≤ 7) → okR loM hiM nu148_ → va_P (dC, dI) vwCl (wR 21 ad (EM cs ad) nu148_) H → y1 = nu148_ 2 vr.toNatClampNeg → (∀ k : Nat, 2 ≤ k → k < 3 → nu148_ k = mu k) → va_S (va_A (wR 21 ad (EM cs ad) mu) s.heap.size) s.heap H locs → lv_has ls 10 [(9, .int v9_148), (8, .int t25), (7, .int 1), (6, .int r5), (5, .int y4), (0, .ref (ad 0)), (1, .int vr), (2, .int 1), (3, .int vh), (4, .int vp)] → W p l e (headSpec (wU yX12_hadOn cX12_hadOn 10 none) ({ frames := 7, cells := 0, slots := 0, locals := 197 })).room s m ([.ref (ad 0), .int vr, .int 1, .int vh, .int vp] : List Value).toArray below meth c H locs 0 0 (MQ below (va_Qv (fun (xi : Nat → Nat → Int32) => okR loM hiM xi ∧ (True) ∧ (∀ k : Nat, 2 ≤ k → k < 3 → xi k = mu k)) (fun xi t => va_P (dC, dI) vwCl (wR 21 ad (EM cs ad) xi) t.heap) (va_A (wR 21 ad (EM cs ad) mu) s.heap.size)) ([.ref (ad 0), .int vr, .int 1, .int vh, .int vp] : List Value).toArray s 0 0 (va_A (wR 21 ad (EM cs ad) mu) s.heap.size)) (F0 m 148 ls []) := by
        intro n148
        induction n148 with
        | zero => intro v9_148 nu148_ H locs ls hm; exact absurd hm (Nat.not_lt_zero _)
        | succ n148 ih148 =>
          intro v9_148 nu148_ H locs ls hm h_v9_148 ok hP ek148_0 kq148_0 hS hl
          refine lv_iload hx hb dX12_hadOn_148 (lv_at hl 0 rfl) ?_
          refine lv_aload_n hx hb dX12_hadOn_150 rfl (lv_at hl 5 rfl) ?_
          refine va_get (D := (dC, dI)) (ci := 12) (v := .int (nu148_ 0 8)) (C := RX12) (T := TX12) (N := 46) hx hb hts inG12 hown hK hP 0 (gM_0 cs ad nu148_) rfl 8 (by decide) (hts _ (List.mem_cons_of_mem _ mw_5_49)) (fun _ h9 => h9) rfl dX12_hadOn_151 ?_
          refine lv_topi (fun y26 ey26 => ?_)
          have by26 : y26.toInt = (nu148_ 0 8).toInt := congrArg Int32.toInt ey26
          have gy26 : 0 ≤ y26.toInt ∧ y26.toInt ≤ 7 := by rw [ey26]; exact rM_0_8 ok
          refine lv_icmp_ge (tgt := 197) hx hb dX12_hadOn_154 (by decide) (fun c_27 => ?_) (fun c_27 => ?_)
          · have c_27 : y26.toInt ≤ v9_148.toInt := il_le c_27
            exact W.vret hx hb hr (fun t ht hW => ⟨⟨nu148_, rfl, ⟨ok, trivial, kq148_0⟩, by first | (subst ht; exact hP) | (rw [ht]; exact hP) | (show va_P (dC, dI) vwCl (wR 21 ad (EM cs ad) nu148_) t.heap; rw [ht]; exact hP)⟩, hS.F ht⟩) hS.2.2 dX12_hadOn_197
          · have c_27 : v9_148.toInt < y26.toInt := il_nle c_27
            refine lv_iload hx hb dX12_hadOn_157 (lv_at hl 1 rfl) ?_
            refine lv_iload hx hb dX12_hadOn_159 (lv_at hl 0 rfl) ?_
            refine cr_i (va_runS (As := [.int t25, .int v9_148]) (rest := []) ⟨hx, hb, hml, hown, hts⟩ (sm_has l dC dI (tyM cs) H t25 v9_148) (va_cwS 2 hts (wU_S mw_6_59 mw_6_57 mw_6_58 mw_1_13) rfl rfl rfl (by decide +kernel) ⟨Nat.le_of_ble_eq_true rfl, Nat.le_of_ble_eq_true rfl⟩) ⟨sz_c, sz_m hK hz⟩ rfl rfl hl.1 rfl (lv_room (Nat.le_of_ble_eq_true rfl)) dX12_hadOn_161 ⟨Nat.zero_le _, Nat.zero_le _⟩) hS (fun r28 hw28 locs hS => ?_)
            rcases hw28 with ⟨rfl, f28⟩ | ⟨rfl, f28⟩
            · have f28 : rb t25 v9_148 = 1 := f28
              refine lv_if_eq (tgt := 191) hx hb dX12_hadOn_164 (by decide) (fun c => absurd c (by decide)) (fun _ => ?_)
              refine lv_aload_n hx hb dX12_hadOn_167 rfl (lv_at hl 5 rfl) ?_
              refine va_get (D := (dC, dI)) (ci := 12) (v := .ref (ad 16)) (C := RX12) (T := TX12) (N := 46) hx hb hts inG12 hown hK hP 0 (gM_0 cs ad nu148_) rfl 26 (by decide) (hts _ (List.mem_cons_of_mem _ mw_5_67)) (fun _ h9 => h9) rfl dX12_hadOn_168 ?_
              refine lv_iload_n hx hb dX12_hadOn_171 rfl (lv_at hl 7 rfl) ?_
              refine lv_iload hx hb dX12_hadOn_172 (lv_at hl 0 rfl) ?_
              refine va_iast hx hb hK hP (wR_D nu148_ hD) hS 16 0 (gM_16 cs ad nu148_) rfl (show vp_in 1 7 from (by unfold vp_in; decide)) dX12_hadOn_174 (fun H locs hP _ hS => ?_)
              refine wr_gen (upd (nu148_ 16) (1 : Int32).toNatClampNeg v9_148) hP (rfl) (fun nu29 hn29 hP => ?_)
              have ok := tM_16_s ok (1 : Int32).toNatClampNeg hn29 (by exact ⟨by omega, by omega⟩)
              have ez30 : y1 = nu29 2 vr.toNatClampNeg := ek148_0.trans (congrFun (up_k hn29 (by decide)) vr.toNatClampNeg).symm
              have ez31 : y26 = nu29 0 8 := ey26.trans (congrFun (up_k hn29 (by decide)) 8).symm
              have kp32 : ∀ k : Nat, 2 ≤ k → k < 3 → nu29 k = mu k := fun k h1 h2 => (up_k hn29 (ne_hi (by decide) h2).symm).trans (kq148_0 k h1 h2)
              refine lv_aload_n hx hb dX12_hadOn_175 rfl (lv_at hl 5 rfl) ?_
              refine lv_iload_n hx hb dX12_hadOn_176 rfl (lv_at hl 6 rfl) ?_
              refine lv_iload_n hx hb dX12_hadOn_177 rfl (lv_at hl 7 rfl) ?_
              refine lv_iconst (v := 1) hx hb dX12_hadOn_178 (by decide) ?_
              refine lv_iadd hx hb dX12_hadOn_179 ?_
              refine lq_i 2 (by decide) ?_
              refine lv_iload_n hx hb dX12_hadOn_180 rfl (lv_at hl 8 rfl) ?_
              refine lv_iconst (v := 1) hx hb dX12_hadOn_181 (by decide) ?_
              refine lv_iload hx hb dX12_hadOn_182 (lv_at hl 0 rfl) ?_
              refine lv_ishl hx hb dX12_hadOn_184 ?_
              refine lv_topi (fun t33 et33 => ?_)
              refine lv_ior hx hb dX12_hadOn_185 ?_
              refine lv_topi (fun t34 et34 => ?_)
              refine lv_iload hx hb dX12_hadOn_186 (lv_at hl 3 rfl) ?_
              have hFc := fr_all (wR_D nu29 hD) hS hA
              refine va_callv (va_runV (As := [.int vr, .int 2, .int t34, .int r5]) (rest := []) ⟨hx, hb, hml, hown, hts⟩ (sm_hadOn2 l dC dI cs ad nu29 ok H hP ((wR_D nu29 hD).weaken (fun _ _ _ _ => trivial)) vr t34 r5 (by have h51 : (2 : Int32).toInt = 2 := rfl; omega) (by have h51 : (2 : Int32).toInt = 2 := rfl; have hb35 := congrArg Int32.toInt ez30; omega)) (cwV 4 hts (wU_V mw_7_24 mw_7_21 mw_7_23 mw_0_62 mw_1_13) rfl rfl rfl (by decide +kernel) ⟨Nat.le_of_ble_eq_true rfl, Nat.le_of_ble_eq_true rfl⟩) ⟨sz_c, va_recv hK hP (ci := 12) (q0 := 0) rfl (gM_0 cs ad nu29), sz_m hK hz⟩ rfl rfl hl.1 rfl (lv_room (Nat.le_of_ble_eq_true rfl)) dX12_hadOn_188 ⟨Nat.zero_le _, Nat.zero_le _⟩) hS (fun q _ h => hFc q h) hFc (fun xi36 t H36 locs ht hvm hw36 hB hz1 hk1 hS => ?_)
              have hP : va_P (dC, dI) vwCl (wR 21 ad (EM cs ad) xi36) H36 := by rw [← ht]; exact hB
              obtain ⟨ok, hw36, hkp36_0⟩ := hw36
              have ez37 : y1 = xi36 2 vr.toNatClampNeg := ez30.trans (congrFun (hkp36_0 2 (by decide) (by decide)) vr.toNatClampNeg).symm
              have kp38 : ∀ k : Nat, 2 ≤ k → k < 3 → xi36 k = mu k := fun k h1 h2 => (hkp36_0 k (Nat.le_trans (by decide) h1) (Nat.lt_of_lt_of_le h2 (by decide))).trans (kp32 k h1 h2)
              refine lv_iinc (v := (v9_148 + 1)) (lv' := [(9, .int (v9_148 + 1)), (8, .int t25), (7, .int 1), (6, .int r5), (5, .int y4), (0, .ref (ad 0)), (1, .int vr), (2, .int 1), (3, .int vh), (4, .int vp)]) hx hb dX12_hadOn_191 hl (k := 0) rfl rfl (by decide) rfl (fun ls hl => ?_)
              refine loc_gen (P := fun w9 => lv_has ls 10 [(9, .int w9), (8, .int t25), (7, .int 1), (6, .int r5), (5, .int y4), (0, .ref (ad 0)), (1, .int vr), (2, .int 1), (3, .int vh), (4, .int vp)]) (v9_148 + 1) hl (fun w39 hw39 hl => ?_)
              have hl : lv_has ls 10 [(9, .int w39), (8, .int t25), (7, .int 1), (6, .int r5), (5, .int y4), (0, .ref (ad 0)), (1, .int vr), (2, .int 1), (3, .int vh), (4, .int vp)] := hl
              have aw39 : w39.toInt = v9_148.toInt + 1 := by rw [← hw39]; exact tI_add (rfl : v9_148.toInt = _) (rfl : (1 : Int32).toInt = 1) (by omega) (by omega)
              refine lv_goto (tgt := 148) hx hb dX12_hadOn_194 (by decide) ?_
              exact ih148 (w39) xi36 _ _ _ (by omega) (by exact ⟨by omega, by omega⟩)  ok hP ez37 kp38 hS (lv_sub hl [0, 1, 2, 3, 4, 5, 6, 7, 8, 9] rfl)
            · have f28 : ¬ rb t25 v9_148 = 1 := f28
              refine lv_if_eq (tgt := 191) hx hb dX12_hadOn_164 (by decide) (fun _ => ?_) (fun c => absurd (by decide) c)
              refine lv_iinc (v := (v9_148 + 1)) (lv' := [(9, .int (v9_148 + 1)), (8, .int t25), (7, .int 1), (6, .int r5), (5, .int y4), (0, .ref (ad 0)), (1, .int vr), (2, .int 1), (3, .int vh), (4, .int vp)]) hx hb dX12_hadOn_191 hl (k := 0) rfl rfl (by decide) rfl (fun ls hl => ?_)
              refine loc_gen (P := fun w9 => lv_has ls 10 [(9, .int w9), (8, .int t25), (7, .int 1), (6, .int r5), (5, .int y4), (0, .ref (ad 0)), (1, .int vr), (2, .int 1), (3, .int vh), (4, .int vp)]) (v9_148 + 1) hl (fun w40 hw40 hl => ?_)
              have hl : lv_has ls 10 [(9, .int w40), (8, .int t25), (7, .int 1), (6, .int r5), (5, .int y4), (0, .ref (ad 0)), (1, .int vr), (2, .int 1), (3, .int vh), (4, .int vp)] := hl
              have aw40 : w40.toInt = v9_148.toInt + 1 := by rw [← hw40]; exact tI_add (rfl : v9_148.toInt = _) (rfl : (1 : Int32).toInt = 1) (by omega) (by omega)
              refine lv_goto (tgt := 148) hx hb dX12_hadOn_194 (by decide) ?_
              exact ih148 (w40) nu148_ _ _ _ (by omega) (by exact ⟨by omega, by omega⟩)  ok hP ek148_0 kq148_0 hS (lv_sub hl [0, 1, 2, 3, 4, 5, 6, 7, 8, 9] rfl)
      exact loop148 ((7 + 1 - (0 : Int32).toInt).toNat + 1) (0) mu _ _ _ (Nat.lt_succ_self _) (by have h80 : (0 : Int32).toInt = 0 := rfl; exact ⟨by omega, by omega⟩)  ok hP ey1 (fun _ _ _ => rfl) hS hl
  · have c_3 : 1 = t2.toInt := il_eq c_3
    refine lv_aload_n hx hb dX12_hadOn_12 rfl (lv_at hl 0 rfl) ?_
    refine va_get (D := (dC, dI)) (ci := 12) (v := .int (mu 0 42)) (C := RX12) (T := TX12) (N := 46) hx hb hts inG12 hown hK hP 0 (gM_0 cs ad mu) rfl 42 (by decide) (hts _ (List.mem_cons_of_mem _ mw_5_83)) (fun _ h9 => h9) rfl dX12_hadOn_13 ?_
    refine lv_topi (fun y41 ey41 => ?_)
    have by41 : y41.toInt = (mu 0 42).toInt := congrArg Int32.toInt ey41
    refine lv_if_ne (tgt := 28) hx hb dX12_hadOn_16 (by decide) (fun c_42 => ?_) (fun c_42 => ?_)
    · have c_42 : ¬ y41.toInt = 0 := il_ne c_42
      refine lv_aload_n hx hb dX12_hadOn_28 rfl (lv_at hl 0 rfl) ?_
      refine lv_dup hx hb dX12_hadOn_29 rfl ?_
      refine va_get (D := (dC, dI)) (ci := 12) (v := .int (mu 0 42)) (C := RX12) (T := TX12) (N := 46) hx hb hts inG12 hown hK hP 0 (gM_0 cs ad mu) rfl 42 (by decide) (hts _ (List.mem_cons_of_mem _ mw_5_83)) (fun _ h9 => h9) rfl dX12_hadOn_30 ?_
      refine lq_i y41 ey41.symm ?_
      refine lv_iconst (v := 1) hx hb dX12_hadOn_33 (by decide) ?_
      refine lv_iadd hx hb dX12_hadOn_34 ?_
      refine lv_topi (fun t43 et43 => ?_)
      refine va_put (D := (dC, dI)) (ci := 12) (v := .int t43) (ty := .int) (C := RX12) (T := TX12) (N := 46) hx hb hts inG12 tyX12 tyX12_ok nmX12 hown hK hP (wR_D mu hD) hS 0 (gM_0 cs ad mu) rfl 42 (by decide) (hts _ (List.mem_cons_of_mem _ mw_5_83)) (fun _ h9 => h9) rfl (by decide +kernel) rfl rfl (Nat.le_of_ble_eq_true rfl) dX12_hadOn_35 (fun H locs hP _ hS => ?_)
      simp only [List.set_cons_succ, List.set_cons_zero] at hP
      refine wr_gen (upd (mu 0) 42 t43) hP ((hM_0_42 cs ad _ _)) (fun nu44 hn44 hP => ?_)
      have ok := tM_0_42 ok hn44
      have ez45 : y1 = nu44 2 vr.toNatClampNeg := ey1.trans (congrFun (up_k hn44 (by decide)) vr.toNatClampNeg).symm
      have kp46 : ∀ k : Nat, 2 ≤ k → k < 3 → nu44 k = mu k := fun k h1 h2 => (up_k hn44 (ne_lo (by decide) h1).symm).trans ((fun _ _ _ => rfl) k h1 h2)
      have ez47 : t43 = nu44 0 42 := up_v hn44
      refine lv_aload_n hx hb dX12_hadOn_38 rfl (lv_at hl 0 rfl) ?_
      refine lv_dup hx hb dX12_hadOn_39 rfl ?_
      refine va_get (D := (dC, dI)) (ci := 12) (v := .int (nu44 0 43)) (C := RX12) (T := TX12) (N := 46) hx hb hts inG12 hown hK hP 0 (gM_0 cs ad nu44) rfl 43 (by decide) (hts _ (List.mem_cons_of_mem _ mw_5_84)) (fun _ h9 => h9) rfl dX12_hadOn_40 ?_
      refine lv_topi (fun y48 ey48 => ?_)
      have by48 : y48.toInt = (nu44 0 43).toInt := congrArg Int32.toInt ey48
      refine lv_iconst (v := 1) hx hb dX12_hadOn_43 (by decide) ?_
      refine lv_aload_n hx hb dX12_hadOn_44 rfl (lv_at hl 0 rfl) ?_
      refine va_get (D := (dC, dI)) (ci := 12) (v := .ref (ad 16)) (C := RX12) (T := TX12) (N := 46) hx hb hts inG12 hown hK hP 0 (gM_0 cs ad nu44) rfl 26 (by decide) (hts _ (List.mem_cons_of_mem _ mw_5_67)) (fun _ h9 => h9) rfl dX12_hadOn_45 ?_
      refine lv_iload_n hx hb dX12_hadOn_48 rfl (lv_at hl 2 rfl) ?_
      refine lv_iconst (v := 1) hx hb dX12_hadOn_49 (by decide) ?_
      refine lv_isub hx hb dX12_hadOn_50 ?_
      refine lq_i 0 (by decide) ?_
      refine va_iald hx hb hK hP 16 0 (gM_16 cs ad nu44) rfl (show vp_in 0 7 from (by unfold vp_in; decide)) dX12_hadOn_51 ?_
      refine lv_topi (fun y49 ey49 => ?_)
      have by49 : y49.toInt = (nu44 16 (0 : Int32).toNatClampNeg).toInt := congrArg Int32.toInt ey49
      have gy49 : 0 ≤ y49.toInt ∧ y49.toInt ≤ 6 := by rw [ey49]; exact rM_16_s ok (0 : Int32).toNatClampNeg
      refine lv_ishl hx hb dX12_hadOn_52 ?_
      refine lv_topi (fun t50 et50 => ?_)
      refine lv_ior hx hb dX12_hadOn_53 ?_
      refine lv_topi (fun t51 et51 => ?_)
      refine va_put (D := (dC, dI)) (ci := 12) (v := .int t51) (ty := .int) (C := RX12) (T := TX12) (N := 46) hx hb hts inG12 tyX12 tyX12_ok nmX12 hown hK hP (wR_D nu44 hD) hS 0 (gM_0 cs ad nu44) rfl 43 (by decide) (hts _ (List.mem_cons_of_mem _ mw_5_84)) (fun _ h9 => h9) rfl (by decide +kernel) rfl rfl (Nat.le_of_ble_eq_true rfl) dX12_hadOn_54 (fun H locs hP _ hS => ?_)
      simp only [List.set_cons_succ, List.set_cons_zero] at hP
      refine wr_gen (upd (nu44 0) 43 t51) hP ((hM_0_43 cs ad _ _)) (fun nu52 hn52 hP => ?_)
      have ok := tM_0_43 ok hn52
      have ez53 : y1 = nu52 2 vr.toNatClampNeg := ez45.trans (congrFun (up_k hn52 (by decide)) vr.toNatClampNeg).symm
      have ez54 : t43 = nu52 0 42 := ez47.trans (up_f hn52 (by decide)).symm
      have ez55 : y49 = nu52 16 (0 : Int32).toNatClampNeg := ey49.trans (congrFun (up_k hn52 (by decide)) (0 : Int32).toNatClampNeg).symm
      have kp56 : ∀ k : Nat, 2 ≤ k → k < 3 → nu52 k = mu k := fun k h1 h2 => (up_k hn52 (ne_lo (by decide) h1).symm).trans (kp46 k h1 h2)
      have ez57 : t51 = nu52 0 43 := up_v hn52
      refine lv_aload_n hx hb dX12_hadOn_57 rfl (lv_at hl 0 rfl) ?_
      refine lv_dup hx hb dX12_hadOn_58 rfl ?_
      refine va_get (D := (dC, dI)) (ci := 12) (v := .int (nu52 0 44)) (C := RX12) (T := TX12) (N := 46) hx hb hts inG12 hown hK hP 0 (gM_0 cs ad nu52) rfl 44 (by decide) (hts _ (List.mem_cons_of_mem _ mw_5_85)) (fun _ h9 => h9) rfl dX12_hadOn_59 ?_
      refine lv_topi (fun y58 ey58 => ?_)
      have by58 : y58.toInt = (nu52 0 44).toInt := congrArg Int32.toInt ey58
      refine lv_iload_n hx hb dX12_hadOn_62 rfl (lv_at hl 3 rfl) ?_
      refine lv_iand hx hb dX12_hadOn_63 ?_
      refine lv_topi (fun t59 et59 => ?_)
      refine va_put (D := (dC, dI)) (ci := 12) (v := .int t59) (ty := .int) (C := RX12) (T := TX12) (N := 46) hx hb hts inG12 tyX12 tyX12_ok nmX12 hown hK hP (wR_D nu52 hD) hS 0 (gM_0 cs ad nu52) rfl 44 (by decide) (hts _ (List.mem_cons_of_mem _ mw_5_85)) (fun _ h9 => h9) rfl (by decide +kernel) rfl rfl (Nat.le_of_ble_eq_true rfl) dX12_hadOn_64 (fun H locs hP _ hS => ?_)
      simp only [List.set_cons_succ, List.set_cons_zero] at hP
      refine wr_gen (upd (nu52 0) 44 t59) hP ((hM_0_44 cs ad _ _)) (fun nu60 hn60 hP => ?_)
      have ok := tM_0_44 ok hn60
      have ez61 : y1 = nu60 2 vr.toNatClampNeg := ez53.trans (congrFun (up_k hn60 (by decide)) vr.toNatClampNeg).symm
      have ez62 : t43 = nu60 0 42 := ez54.trans (up_f hn60 (by decide)).symm
      have ez63 : y49 = nu60 16 (0 : Int32).toNatClampNeg := ez55.trans (congrFun (up_k hn60 (by decide)) (0 : Int32).toNatClampNeg).symm
      have ez64 : t51 = nu60 0 43 := ez57.trans (up_f hn60 (by decide)).symm
      have kp65 : ∀ k : Nat, 2 ≤ k → k < 3 → nu60 k = mu k := fun k h1 h2 => (up_k hn60 (ne_lo (by decide) h1).symm).trans (kp56 k h1 h2)
      have ez66 : t59 = nu60 0 44 := up_v hn60
      exact W.vret hx hb hr (fun t ht hW => ⟨⟨nu60, rfl, ⟨ok, trivial, kp65⟩, by first | (subst ht; exact hP) | (rw [ht]; exact hP) | (show va_P (dC, dI) vwCl (wR 21 ad (EM cs ad) nu60) t.heap; rw [ht]; exact hP)⟩, hS.F ht⟩) hS.2.2 dX12_hadOn_67
    · have c_42 : y41.toInt = 0 := il_eq c_42
      refine lv_aload_n hx hb dX12_hadOn_19 rfl (lv_at hl 0 rfl) ?_
      refine lv_aload_n hx hb dX12_hadOn_20 rfl (lv_at hl 0 rfl) ?_
      refine va_get (D := (dC, dI)) (ci := 12) (v := .ref (ad 17)) (C := RX12) (T := TX12) (N := 46) hx hb hts inG12 hown hK hP 0 (gM_0 cs ad mu) rfl 27 (by decide) (hts _ (List.mem_cons_of_mem _ mw_5_68)) (fun _ h9 => h9) rfl dX12_hadOn_21 ?_
      refine lv_iload_n hx hb dX12_hadOn_24 rfl (lv_at hl 2 rfl) ?_
      have hFc := fr_all (wR_D mu hD) hS hA
      refine va_callv (va_runV (As := [.ref (ad 17), .int 1]) (rest := []) ⟨hx, hb, hml, hown, hts⟩ (sm_copyRoute17 l dC dI cs ad mu ok s.heap hP ((wR_D mu hD).weaken (fun _ _ _ _ => trivial)) 1 (by have h51 : (1 : Int32).toInt = 1 := rfl; omega)) (cwV 2 hts (wU_V mw_6_191 mw_6_188 mw_6_190 mw_0_57 mw_1_13) rfl rfl rfl (by decide +kernel) ⟨Nat.le_of_ble_eq_true rfl, Nat.le_of_ble_eq_true rfl⟩) ⟨sz_c, va_recv hK hP (ci := 12) (q0 := 0) rfl (gM_0 cs ad mu), sz_m hK hz⟩ rfl rfl hl.1 rfl (lv_room (Nat.le_of_ble_eq_true rfl)) dX12_hadOn_25 ⟨Nat.zero_le _, Nat.zero_le _⟩) hS (fun q _ h => hFc q h) hFc (fun xi67 t H67 locs ht hvm hw67 hB hz1 hk1 hS => ?_)
      have hP : va_P (dC, dI) vwCl (wR 21 ad (EM cs ad) xi67) H67 := by rw [← ht]; exact hB
      obtain ⟨ok, hw67, hkp67_0⟩ := hw67
      have ez68 : y1 = xi67 2 vr.toNatClampNeg := ey1.trans (congrFun (hkp67_0 2 (by decide) (by decide)) vr.toNatClampNeg).symm
      have ez69 : y41 = xi67 0 42 := ey41.trans (congrFun (hkp67_0 0 (by decide) (by decide)) 42).symm
      have kp70 : ∀ k : Nat, 2 ≤ k → k < 3 → xi67 k = mu k := fun k h1 h2 => (hkp67_0 k (Nat.le_trans (by decide) h1) (Nat.lt_of_lt_of_le h2 (by decide))).trans ((fun _ _ _ => rfl) k h1 h2)
      refine lv_aload_n hx hb dX12_hadOn_28 rfl (lv_at hl 0 rfl) ?_
      refine lv_dup hx hb dX12_hadOn_29 rfl ?_
      refine va_get (D := (dC, dI)) (ci := 12) (v := .int (xi67 0 42)) (C := RX12) (T := TX12) (N := 46) hx hb hts inG12 hown hK hP 0 (gM_0 cs ad xi67) rfl 42 (by decide) (hts _ (List.mem_cons_of_mem _ mw_5_83)) (fun _ h9 => h9) rfl dX12_hadOn_30 ?_
      refine lq_i y41 ez69.symm ?_
      refine lv_iconst (v := 1) hx hb dX12_hadOn_33 (by decide) ?_
      refine lv_iadd hx hb dX12_hadOn_34 ?_
      refine lv_topi (fun t71 et71 => ?_)
      have at71 : t71.toInt = y41.toInt + 1 := by rw [et71]; exact tI_add (rfl : y41.toInt = _) (rfl : (1 : Int32).toInt = 1) (by omega) (by omega)
      refine va_put (D := (dC, dI)) (ci := 12) (v := .int t71) (ty := .int) (C := RX12) (T := TX12) (N := 46) hx hb hts inG12 tyX12 tyX12_ok nmX12 hown hK hP (wR_D xi67 hD) hS 0 (gM_0 cs ad xi67) rfl 42 (by decide) (hts _ (List.mem_cons_of_mem _ mw_5_83)) (fun _ h9 => h9) rfl (by decide +kernel) rfl rfl (Nat.le_of_ble_eq_true rfl) dX12_hadOn_35 (fun H locs hP _ hS => ?_)
      simp only [List.set_cons_succ, List.set_cons_zero] at hP
      refine wr_gen (upd (xi67 0) 42 t71) hP ((hM_0_42 cs ad _ _)) (fun nu72 hn72 hP => ?_)
      have ok := tM_0_42 ok hn72
      have ez73 : y1 = nu72 2 vr.toNatClampNeg := ez68.trans (congrFun (up_k hn72 (by decide)) vr.toNatClampNeg).symm
      have kp74 : ∀ k : Nat, 2 ≤ k → k < 3 → nu72 k = mu k := fun k h1 h2 => (up_k hn72 (ne_lo (by decide) h1).symm).trans (kp70 k h1 h2)
      have ez75 : t71 = nu72 0 42 := up_v hn72
      refine lv_aload_n hx hb dX12_hadOn_38 rfl (lv_at hl 0 rfl) ?_
      refine lv_dup hx hb dX12_hadOn_39 rfl ?_
      refine va_get (D := (dC, dI)) (ci := 12) (v := .int (nu72 0 43)) (C := RX12) (T := TX12) (N := 46) hx hb hts inG12 hown hK hP 0 (gM_0 cs ad nu72) rfl 43 (by decide) (hts _ (List.mem_cons_of_mem _ mw_5_84)) (fun _ h9 => h9) rfl dX12_hadOn_40 ?_
      refine lv_topi (fun y76 ey76 => ?_)
      have by76 : y76.toInt = (nu72 0 43).toInt := congrArg Int32.toInt ey76
      refine lv_iconst (v := 1) hx hb dX12_hadOn_43 (by decide) ?_
      refine lv_aload_n hx hb dX12_hadOn_44 rfl (lv_at hl 0 rfl) ?_
      refine va_get (D := (dC, dI)) (ci := 12) (v := .ref (ad 16)) (C := RX12) (T := TX12) (N := 46) hx hb hts inG12 hown hK hP 0 (gM_0 cs ad nu72) rfl 26 (by decide) (hts _ (List.mem_cons_of_mem _ mw_5_67)) (fun _ h9 => h9) rfl dX12_hadOn_45 ?_
      refine lv_iload_n hx hb dX12_hadOn_48 rfl (lv_at hl 2 rfl) ?_
      refine lv_iconst (v := 1) hx hb dX12_hadOn_49 (by decide) ?_
      refine lv_isub hx hb dX12_hadOn_50 ?_
      refine lq_i 0 (by decide) ?_
      refine va_iald hx hb hK hP 16 0 (gM_16 cs ad nu72) rfl (show vp_in 0 7 from (by unfold vp_in; decide)) dX12_hadOn_51 ?_
      refine lv_topi (fun y77 ey77 => ?_)
      have by77 : y77.toInt = (nu72 16 (0 : Int32).toNatClampNeg).toInt := congrArg Int32.toInt ey77
      have gy77 : 0 ≤ y77.toInt ∧ y77.toInt ≤ 6 := by rw [ey77]; exact rM_16_s ok (0 : Int32).toNatClampNeg
      refine lv_ishl hx hb dX12_hadOn_52 ?_
      refine lv_topi (fun t78 et78 => ?_)
      refine lv_ior hx hb dX12_hadOn_53 ?_
      refine lv_topi (fun t79 et79 => ?_)
      refine va_put (D := (dC, dI)) (ci := 12) (v := .int t79) (ty := .int) (C := RX12) (T := TX12) (N := 46) hx hb hts inG12 tyX12 tyX12_ok nmX12 hown hK hP (wR_D nu72 hD) hS 0 (gM_0 cs ad nu72) rfl 43 (by decide) (hts _ (List.mem_cons_of_mem _ mw_5_84)) (fun _ h9 => h9) rfl (by decide +kernel) rfl rfl (Nat.le_of_ble_eq_true rfl) dX12_hadOn_54 (fun H locs hP _ hS => ?_)
      simp only [List.set_cons_succ, List.set_cons_zero] at hP
      refine wr_gen (upd (nu72 0) 43 t79) hP ((hM_0_43 cs ad _ _)) (fun nu80 hn80 hP => ?_)
      have ok := tM_0_43 ok hn80
      have ez81 : y1 = nu80 2 vr.toNatClampNeg := ez73.trans (congrFun (up_k hn80 (by decide)) vr.toNatClampNeg).symm
      have ez82 : t71 = nu80 0 42 := ez75.trans (up_f hn80 (by decide)).symm
      have ez83 : y77 = nu80 16 (0 : Int32).toNatClampNeg := ey77.trans (congrFun (up_k hn80 (by decide)) (0 : Int32).toNatClampNeg).symm
      have kp84 : ∀ k : Nat, 2 ≤ k → k < 3 → nu80 k = mu k := fun k h1 h2 => (up_k hn80 (ne_lo (by decide) h1).symm).trans (kp74 k h1 h2)
      have ez85 : t79 = nu80 0 43 := up_v hn80
      refine lv_aload_n hx hb dX12_hadOn_57 rfl (lv_at hl 0 rfl) ?_
      refine lv_dup hx hb dX12_hadOn_58 rfl ?_
      refine va_get (D := (dC, dI)) (ci := 12) (v := .int (nu80 0 44)) (C := RX12) (T := TX12) (N := 46) hx hb hts inG12 hown hK hP 0 (gM_0 cs ad nu80) rfl 44 (by decide) (hts _ (List.mem_cons_of_mem _ mw_5_85)) (fun _ h9 => h9) rfl dX12_hadOn_59 ?_
      refine lv_topi (fun y86 ey86 => ?_)
      have by86 : y86.toInt = (nu80 0 44).toInt := congrArg Int32.toInt ey86
      refine lv_iload_n hx hb dX12_hadOn_62 rfl (lv_at hl 3 rfl) ?_
      refine lv_iand hx hb dX12_hadOn_63 ?_
      refine lv_topi (fun t87 et87 => ?_)
      refine va_put (D := (dC, dI)) (ci := 12) (v := .int t87) (ty := .int) (C := RX12) (T := TX12) (N := 46) hx hb hts inG12 tyX12 tyX12_ok nmX12 hown hK hP (wR_D nu80 hD) hS 0 (gM_0 cs ad nu80) rfl 44 (by decide) (hts _ (List.mem_cons_of_mem _ mw_5_85)) (fun _ h9 => h9) rfl (by decide +kernel) rfl rfl (Nat.le_of_ble_eq_true rfl) dX12_hadOn_64 (fun H locs hP _ hS => ?_)
      simp only [List.set_cons_succ, List.set_cons_zero] at hP
      refine wr_gen (upd (nu80 0) 44 t87) hP ((hM_0_44 cs ad _ _)) (fun nu88 hn88 hP => ?_)
      have ok := tM_0_44 ok hn88
      have ez89 : y1 = nu88 2 vr.toNatClampNeg := ez81.trans (congrFun (up_k hn88 (by decide)) vr.toNatClampNeg).symm
      have ez90 : t71 = nu88 0 42 := ez82.trans (up_f hn88 (by decide)).symm
      have ez91 : y77 = nu88 16 (0 : Int32).toNatClampNeg := ez83.trans (congrFun (up_k hn88 (by decide)) (0 : Int32).toNatClampNeg).symm
      have ez92 : t79 = nu88 0 43 := ez85.trans (up_f hn88 (by decide)).symm
      have kp93 : ∀ k : Nat, 2 ≤ k → k < 3 → nu88 k = mu k := fun k h1 h2 => (up_k hn88 (ne_lo (by decide) h1).symm).trans (kp84 k h1 h2)
      have ez94 : t87 = nu88 0 44 := up_v hn88
      exact W.vret hx hb hr (fun t ht hW => ⟨⟨nu88, rfl, ⟨ok, trivial, kp93⟩, by first | (subst ht; exact hP) | (rw [ht]; exact hP) | (show va_P (dC, dI) vwCl (wR 21 ad (EM cs ad) nu88) t.heap; rw [ht]; exact hP)⟩, hS.F ht⟩) hS.2.2 dX12_hadOn_67
set_option maxHeartbeats 4000000 in
set_option maxRecDepth 100000 in
/-- sm_askedHad -/
theorem sm_askedHad (l : Launch) (dC : Nat → ClassId) (dI : Nat → Nat → Nat) (cs : Nat → ClassId) (ad : Nat → Nat) (mu : Nat → Nat → Int32) (ok : okR loM hiM mu) (H : Heap) (hP : va_P (dC, dI) vwCl (wR 21 ad (EM cs ad) mu) H) (hD0 : va_D (fun _ => True) (wR 21 ad (EM cs ad) mu)) (vx : Int32) (vr : Int32) : Met l yX12_askedHad (wU yX12_askedHad cX12_askedHad 4 (some .int)) ({ frames := 8, cells := 0, slots := 0, locals := 226 }) (va_Pc [.ref (ad 0), .int vx, .int vr] (sz_P (dC, dI) vwCl (tyM cs) H)) (va_Qi (fun (z : Int32) (xi : Nat → Nat → Int32) => (z = 0 ∧ okR loM hiM xi ∧ (0 ≤ vx.toInt ∧ vx.toInt ≤ 6 ∧ 0 ≤ vr.toInt ∧ vr.toInt ≤ 5 ∧ 0 ≤ (xi 2 vr.toNatClampNeg).toInt ∧ (xi 2 vr.toNatClampNeg).toInt ≤ 6)) ∨ (z.toInt < 0 ∧ okR loM hiM xi)) (fun xi t => va_P (dC, dI) vwCl (wR 21 ad (EM cs ad) xi) t.heap) (va_A (wR 21 ad (EM cs ad) mu) H.size)) 0 0 (va_A (wR 21 ad (EM cs ad) mu) H.size) := by
  refine Met.ofW (cc := cX12_askedHad) (maxL := 4) (ret := (some .int)) (by decide) rfl ?_
  intro p e s m args below meth c s₁ B hml hv
  obtain ⟨rfl, hh, hK, hz⟩ := hv
  have hx := B.exec
  have hb := B.bytes
  have hr := B.returns
  have hts := atoms_spec (ws := (wU yX12_askedHad cX12_askedHad 4 (some .int))) B.pre
  have hown : s.vm.findClass RX12 = some m.cls := findClass_of_methodNamed B.named
  have hlocks := B.notSynchronized
  subst hh
  have hD := hD0.self (sz := s.heap.size)
  have hA : ∀ q : Nat, s.heap.size ≤ q → (va_A (wR 21 ad (EM cs ad) mu) s.heap.size) q := fun q h => Or.inr h
  have hS : va_S (va_A (wR 21 ad (EM cs ad) mu) s.heap.size) s.heap s.heap [] := va_S.rf
  have hl := lv_entry ([.ref (ad 0), .int vx, .int vr]) (n := 4) (Nat.le_of_ble_eq_true rfl)
  rw [lg_entry_eq]
  generalize (lg_sl ([.ref (ad 0), .int vx, .int vr]) ++ List.replicate (4 - (lg_sl ([.ref (ad 0), .int vx, .int vr])).length) Slot.unset).toArray = ls at hl ⊢
  have hl : lv_has ls 4 [(0, .ref (ad 0)), (1, .int vx), (2, .int vr)] := hl
  refine lv_aload_n hx hb dX12_askedHad_0 rfl (lv_at hl 0 rfl) ?_
  refine lv_iload_n hx hb dX12_askedHad_1 rfl (lv_at hl 1 rfl) ?_
  refine cr_i (va_runV (As := [.int vx]) (rest := []) ⟨hx, hb, hml, hown, hts⟩ (sm_isOne l dC dI cs ad mu ok s.heap hP vx) (cwV 1 hts (wU_V mw_6_40 mw_6_37 mw_6_39 mw_0_36 mw_1_13) rfl rfl rfl (by decide +kernel) ⟨Nat.le_of_ble_eq_true rfl, Nat.le_of_ble_eq_true rfl⟩) ⟨sz_c, va_recv hK hP (ci := 12) (q0 := 0) rfl (gM_0 cs ad mu), sz_m hK hz⟩ rfl rfl hl.1 rfl (lv_room (Nat.le_of_ble_eq_true rfl)) dX12_askedHad_2 ⟨Nat.zero_le _, Nat.zero_le _⟩) hS (fun r1 hw1 locs hS => ?_)
  rcases hw1 with ⟨rfl, f1⟩ | ⟨rfl, f1⟩
  · have f1 : 0 ≤ vx.toInt ∧ vx.toInt < (mu 0 8).toInt ∧ (mu 0 8).toInt ≤ 7 := f1
    refine lv_if_ne (tgt := 10) hx hb dX12_askedHad_5 (by decide) (fun _ => ?_) (fun c => absurd c (by decide))
    refine lv_aload_n hx hb dX12_askedHad_10 rfl (lv_at hl 0 rfl) ?_
    refine lv_iload_n hx hb dX12_askedHad_11 rfl (lv_at hl 2 rfl) ?_
    have hFc := fr_all (wR_D mu hD) hS hA
    refine va_calli (va_runV (As := [.int vr]) (rest := []) ⟨hx, hb, hml, hown, hts⟩ (sm_askedRow l dC dI cs ad mu ok s.heap hP ((wR_D mu hD).weaken (fun _ _ _ _ => trivial)) vr) (cwV 1 hts (wU_V mw_5_205 mw_5_202 mw_5_204 mw_0_28 mw_1_13) rfl rfl rfl (by decide +kernel) ⟨Nat.le_of_ble_eq_true rfl, Nat.le_of_ble_eq_true rfl⟩) ⟨sz_c, va_recv hK hP (ci := 12) (q0 := 0) rfl (gM_0 cs ad mu), sz_m hK hz⟩ rfl rfl hl.1 rfl (lv_room (Nat.le_of_ble_eq_true rfl)) dX12_askedHad_12 ⟨Nat.zero_le _, Nat.zero_le _⟩) hS (fun q _ h => hFc q h) hFc (fun r2 xi2 t H2 locs ht hvm hw2 hB hz1 hk1 hS => ?_)
    have hP : va_P (dC, dI) vwCl (wR 21 ad (EM cs ad) xi2) H2 := by rw [← ht]; exact hB
    rcases hw2 with ⟨rfl, hxi2, f2⟩ | ⟨z2, ok⟩
    · have hP : va_P (dC, dI) vwCl (wR 21 ad (EM cs ad) mu) H2 := by rw [← hxi2]; exact hP
      have f2 : 0 ≤ vr.toInt ∧ vr.toInt ≤ 5 ∧ 0 ≤ (mu 2 vr.toNatClampNeg).toInt := f2
      refine lv_istore_n (lv' := [(3, .int 0), (0, .ref (ad 0)), (1, .int vx), (2, .int vr)]) hx hb dX12_askedHad_15 rfl hl (by decide) rfl (fun ls hl => ?_)
      refine lv_iload_n hx hb dX12_askedHad_16 rfl (lv_at hl 0 rfl) ?_
      refine lv_if_ge (tgt := 22) hx hb dX12_askedHad_17 (by decide) (fun _ => ?_) (fun c => absurd (by decide) c)
      refine lv_aload_n hx hb dX12_askedHad_22 rfl (lv_at hl 1 rfl) ?_
      refine va_get (D := (dC, dI)) (ci := 12) (v := .ref (ad 2)) (C := RX12) (T := TX12) (N := 46) hx hb hts inG12 hown hK hP 0 (gM_0 cs ad mu) rfl 3 (by decide) (hts _ (List.mem_cons_of_mem _ mw_5_44)) (fun _ h9 => h9) rfl dX12_askedHad_23 ?_
      refine lv_iload_n hx hb dX12_askedHad_26 rfl (lv_at hl 3 rfl) ?_
      refine va_iald hx hb hK hP 2 0 (gM_2 cs ad mu) rfl (show vp_in vr 6 from vi_of (by omega) (by omega)) dX12_askedHad_27 ?_
      refine lv_topi (fun y3 ey3 => ?_)
      have by3 : y3.toInt = (mu 2 vr.toNatClampNeg).toInt := congrArg Int32.toInt ey3
      have gy3 : -9 ≤ y3.toInt ∧ y3.toInt ≤ 40 := by rw [ey3]; exact rM_2_s ok vr.toNatClampNeg
      refine lv_bipush (v := 6) hx hb dX12_askedHad_28 (by decide) ?_
      refine lv_icmp_le (tgt := 39) hx hb dX12_askedHad_30 (by decide) (fun c_4 => ?_) (fun c_4 => ?_)
      · have c_4 : y3.toInt ≤ 6 := il_le c_4
        refine lv_aload_n hx hb dX12_askedHad_39 rfl (lv_at hl 1 rfl) ?_
        refine lv_iconst (v := 0) hx hb dX12_askedHad_40 (by decide) ?_
        refine va_put (D := (dC, dI)) (ci := 12) (v := .int 0) (ty := .int) (C := RX12) (T := TX12) (N := 46) hx hb hts inG12 tyX12 tyX12_ok nmX12 hown hK hP (wR_D mu hD) hS 0 (gM_0 cs ad mu) rfl 42 (by decide) (hts _ (List.mem_cons_of_mem _ mw_5_83)) (fun _ h9 => h9) rfl (by decide +kernel) rfl rfl (Nat.le_of_ble_eq_true rfl) dX12_askedHad_41 (fun H locs hP _ hS => ?_)
        simp only [List.set_cons_succ, List.set_cons_zero] at hP
        refine wr_gen (upd (mu 0) 42 0) hP ((hM_0_42 cs ad _ _)) (fun nu5 hn5 hP => ?_)
        have ok := tM_0_42 ok hn5
        have ez6 : y3 = nu5 2 vr.toNatClampNeg := ey3.trans (congrFun (up_k hn5 (by decide)) vr.toNatClampNeg).symm
        have ez7 : 0 = nu5 0 42 := up_v hn5
        refine lv_aload_n hx hb dX12_askedHad_44 rfl (lv_at hl 1 rfl) ?_
        refine lv_iconst (v := 0) hx hb dX12_askedHad_45 (by decide) ?_
        refine va_put (D := (dC, dI)) (ci := 12) (v := .int 0) (ty := .int) (C := RX12) (T := TX12) (N := 46) hx hb hts inG12 tyX12 tyX12_ok nmX12 hown hK hP (wR_D nu5 hD) hS 0 (gM_0 cs ad nu5) rfl 43 (by decide) (hts _ (List.mem_cons_of_mem _ mw_5_84)) (fun _ h9 => h9) rfl (by decide +kernel) rfl rfl (Nat.le_of_ble_eq_true rfl) dX12_askedHad_46 (fun H locs hP _ hS => ?_)
        simp only [List.set_cons_succ, List.set_cons_zero] at hP
        refine wr_gen (upd (nu5 0) 43 0) hP ((hM_0_43 cs ad _ _)) (fun nu8 hn8 hP => ?_)
        have ok := tM_0_43 ok hn8
        have ez9 : y3 = nu8 2 vr.toNatClampNeg := ez6.trans (congrFun (up_k hn8 (by decide)) vr.toNatClampNeg).symm
        have ez10 : 0 = nu8 0 42 := ez7.trans (up_f hn8 (by decide)).symm
        have ez11 : 0 = nu8 0 43 := up_v hn8
        refine lv_aload_n hx hb dX12_askedHad_49 rfl (lv_at hl 1 rfl) ?_
        refine lv_bipush (v := 127) hx hb dX12_askedHad_50 (by decide) ?_
        refine va_put (D := (dC, dI)) (ci := 12) (v := .int 127) (ty := .int) (C := RX12) (T := TX12) (N := 46) hx hb hts inG12 tyX12 tyX12_ok nmX12 hown hK hP (wR_D nu8 hD) hS 0 (gM_0 cs ad nu8) rfl 44 (by decide) (hts _ (List.mem_cons_of_mem _ mw_5_85)) (fun _ h9 => h9) rfl (by decide +kernel) rfl rfl (Nat.le_of_ble_eq_true rfl) dX12_askedHad_52 (fun H locs hP _ hS => ?_)
        simp only [List.set_cons_succ, List.set_cons_zero] at hP
        refine wr_gen (upd (nu8 0) 44 127) hP ((hM_0_44 cs ad _ _)) (fun nu12 hn12 hP => ?_)
        have ok := tM_0_44 ok hn12
        have ez13 : y3 = nu12 2 vr.toNatClampNeg := ez9.trans (congrFun (up_k hn12 (by decide)) vr.toNatClampNeg).symm
        have ez14 : 0 = nu12 0 42 := ez10.trans (up_f hn12 (by decide)).symm
        have ez15 : 0 = nu12 0 43 := ez11.trans (up_f hn12 (by decide)).symm
        have ez16 : 127 = nu12 0 44 := up_v hn12
        refine lv_aload_n hx hb dX12_askedHad_55 rfl (lv_at hl 1 rfl) ?_
        refine va_get (D := (dC, dI)) (ci := 12) (v := .ref (ad 16)) (C := RX12) (T := TX12) (N := 46) hx hb hts inG12 hown hK hP 0 (gM_0 cs ad nu12) rfl 26 (by decide) (hts _ (List.mem_cons_of_mem _ mw_5_67)) (fun _ h9 => h9) rfl dX12_askedHad_56 ?_
        refine lv_iconst (v := 0) hx hb dX12_askedHad_59 (by decide) ?_
        refine lv_iload_n hx hb dX12_askedHad_60 rfl (lv_at hl 2 rfl) ?_
        refine va_iast hx hb hK hP (wR_D nu12 hD) hS 16 0 (gM_16 cs ad nu12) rfl (show vp_in 0 7 from (by unfold vp_in; decide)) dX12_askedHad_61 (fun H locs hP _ hS => ?_)
        refine wr_gen (upd (nu12 16) (0 : Int32).toNatClampNeg vx) hP (rfl) (fun nu17 hn17 hP => ?_)
        have ok := tM_16_s ok (0 : Int32).toNatClampNeg hn17 (by exact ⟨by omega, by omega⟩)
        have ez18 : y3 = nu17 2 vr.toNatClampNeg := ez13.trans (congrFun (up_k hn17 (by decide)) vr.toNatClampNeg).symm
        have ez19 : 0 = nu17 0 42 := ez14.trans (congrFun (up_k hn17 (by decide)) 42).symm
        have ez20 : 0 = nu17 0 43 := ez15.trans (congrFun (up_k hn17 (by decide)) 43).symm
        have ez21 : 127 = nu17 0 44 := ez16.trans (congrFun (up_k hn17 (by decide)) 44).symm
        refine lv_aload_n hx hb dX12_askedHad_62 rfl (lv_at hl 1 rfl) ?_
        refine lv_iload_n hx hb dX12_askedHad_63 rfl (lv_at hl 3 rfl) ?_
        refine lv_iconst (v := 1) hx hb dX12_askedHad_64 (by decide) ?_
        refine lv_iconst (v := 1) hx hb dX12_askedHad_65 (by decide) ?_
        refine lv_iload_n hx hb dX12_askedHad_66 rfl (lv_at hl 2 rfl) ?_
        refine lv_ishl hx hb dX12_askedHad_67 ?_
        refine lv_topi (fun t22 et22 => ?_)
        refine lv_iconst (v := 0) hx hb dX12_askedHad_68 (by decide) ?_
        have hFc := fr_all (wR_D nu17 hD) hS hA
        refine va_callv (va_runV (As := [.int vr, .int 1, .int t22, .int 0]) (rest := []) ⟨hx, hb, hml, hown, hts⟩ (sm_hadOn1 l dC dI cs ad nu17 ok H hP ((wR_D nu17 hD).weaken (fun _ _ _ _ => trivial)) vr t22 0 (by have h51 : (1 : Int32).toInt = 1 := rfl; have h53 : (0 : Int32).toInt = 0 := rfl; omega) (by have h51 : (1 : Int32).toInt = 1 := rfl; have h53 : (0 : Int32).toInt = 0 := rfl; have hb23 := congrArg Int32.toInt ez18; omega)) (cwV 4 hts (wU_V mw_7_24 mw_7_21 mw_7_23 mw_0_62 mw_1_13) rfl rfl rfl (by decide +kernel) ⟨Nat.le_of_ble_eq_true rfl, Nat.le_of_ble_eq_true rfl⟩) ⟨sz_c, va_recv hK hP (ci := 12) (q0 := 0) rfl (gM_0 cs ad nu17), sz_m hK hz⟩ rfl rfl hl.1 rfl (lv_room (Nat.le_of_ble_eq_true rfl)) dX12_askedHad_69 ⟨Nat.zero_le _, Nat.zero_le _⟩) hS (fun q _ h => hFc q h) hFc (fun xi24 t H24 locs ht hvm hw24 hB hz1 hk1 hS => ?_)
        have hP : va_P (dC, dI) vwCl (wR 21 ad (EM cs ad) xi24) H24 := by rw [← ht]; exact hB
        obtain ⟨ok, hw24, hkp24_0⟩ := hw24
        have ez25 : y3 = xi24 2 vr.toNatClampNeg := ez18.trans (congrFun (hkp24_0 2 (by decide) (by decide)) vr.toNatClampNeg).symm
        refine lv_iconst (v := 0) hx hb dX12_askedHad_72 (by decide) ?_
        exact W.iret (v := 0) hx hb hr (fun t ht hW => ⟨⟨0, xi24, rfl, Or.inl ⟨rfl, ok, (by have hb26 := congrArg Int32.toInt ez25; omega)⟩, by first | (subst ht; exact hP) | (rw [ht]; exact hP) | (show va_P (dC, dI) vwCl (wR 21 ad (EM cs ad) xi24) t.heap; rw [ht]; exact hP)⟩, hS.F ht⟩) hS.2.2 dX12_askedHad_73
      · have c_4 : 6 < y3.toInt := il_nle c_4
        refine lv_aload_n hx hb dX12_askedHad_33 rfl (lv_at hl 1 rfl) ?_
        refine lv_iconst (v := 5) hx hb dX12_askedHad_34 (by decide) ?_
        have hFc := fr_all (wR_D mu hD) hS hA
        refine va_calli (va_runV (As := [.int 5]) (rest := []) ⟨hx, hb, hml, hown, hts⟩ (sm_meet l dC dI cs ad mu ok H2 hP ((wR_D mu hD).weaken (fun _ _ _ _ => trivial)) 5 (by have h50 : (5 : Int32).toInt = 5 := rfl; omega)) (cwV 1 hts (wU_V mw_5_193 mw_5_190 mw_5_192 mw_0_26 mw_1_13) rfl rfl rfl (by decide +kernel) ⟨Nat.le_of_ble_eq_true rfl, Nat.le_of_ble_eq_true rfl⟩) ⟨sz_c, va_recv hK hP (ci := 12) (q0 := 0) rfl (gM_0 cs ad mu), sz_m hK hz⟩ rfl rfl hl.1 rfl (lv_room (Nat.le_of_ble_eq_true rfl)) dX12_askedHad_35 ⟨Nat.zero_le _, Nat.zero_le _⟩) hS (fun q _ h => hFc q h) hFc (fun r27 xi27 t H27 locs ht hvm hw27 hB hz1 hk1 hS => ?_)
        have hP : va_P (dC, dI) vwCl (wR 21 ad (EM cs ad) xi27) H27 := by rw [← ht]; exact hB
        obtain ⟨ok, hw27, _⟩ := hw27
        have gr27 : -3 ≤ r27.toInt ∧ r27.toInt ≤ -3 := hw27
        exact W.iret (v := r27) hx hb hr (fun t ht hW => ⟨⟨r27, xi27, rfl, Or.inr ⟨by omega, ok⟩, by first | (subst ht; exact hP) | (rw [ht]; exact hP) | (show va_P (dC, dI) vwCl (wR 21 ad (EM cs ad) xi27) t.heap; rw [ht]; exact hP)⟩, hS.F ht⟩) hS.2.2 dX12_askedHad_38
    · skip
      refine lv_istore_n (lv' := [(3, .int r2), (0, .ref (ad 0)), (1, .int vx), (2, .int vr)]) hx hb dX12_askedHad_15 rfl hl (by decide) rfl (fun ls hl => ?_)
      refine lv_iload_n hx hb dX12_askedHad_16 rfl (lv_at hl 0 rfl) ?_
      refine lv_if_ge (tgt := 22) hx hb dX12_askedHad_17 (by decide) (fun c_28 => by have c_28 : 0 ≤ r2.toInt := il_le c_28; exfalso; omega) (fun c_28 => ?_)
      have c_28 : r2.toInt < 0 := il_nle c_28
      refine lv_iload_n hx hb dX12_askedHad_20 rfl (lv_at hl 0 rfl) ?_
      exact W.iret (v := r2) hx hb hr (fun t ht hW => ⟨⟨r2, xi2, rfl, Or.inr ⟨by omega, ok⟩, by first | (subst ht; exact hP) | (rw [ht]; exact hP) | (show va_P (dC, dI) vwCl (wR 21 ad (EM cs ad) xi2) t.heap; rw [ht]; exact hP)⟩, hS.F ht⟩) hS.2.2 dX12_askedHad_21
  · have f1 : vx.toInt < 0 ∨ (mu 0 8).toInt ≤ vx.toInt := f1
    refine lv_if_ne (tgt := 10) hx hb dX12_askedHad_5 (by decide) (fun c => absurd (by decide) c) (fun _ => ?_)
    refine lv_iconst (v := (-1)) hx hb dX12_askedHad_8 (by decide) ?_
    exact W.iret (v := (-1)) hx hb hr (fun t ht hW => ⟨⟨(-1), mu, rfl, Or.inr ⟨by decide, ok⟩, by first | (subst ht; exact hP) | (rw [ht]; exact hP) | (show va_P (dC, dI) vwCl (wR 21 ad (EM cs ad) mu) t.heap; rw [ht]; exact hP)⟩, hS.F ht⟩) hS.2.2 dX12_askedHad_9
set_option maxHeartbeats 4000000 in
set_option maxRecDepth 100000 in
/-- qm_had -/
theorem qm_had (l : Launch) (dC : Nat → ClassId) (dI : Nat → Nat → Nat) (cs : Nat → ClassId) (ad : Nat → Nat) (mu : Nat → Nat → Int32) (ok : okR loM hiM mu) (H : Heap) (hP : va_P (dC, dI) vwCl (wR 21 ad (EM cs ad) mu) H) (hD0 : va_D (fun _ => True) (wR 21 ad (EM cs ad) mu)) (vx : Int32) (vr : Int32) : Met l yX12_had (wU yX12_had cX12_had 4 (some .int)) ({ frames := 9, cells := 0, slots := 0, locals := 249 }) (va_Pc [.ref (ad 0), .int vx, .int vr] (sz_P (dC, dI) vwCl (tyM cs) H)) (va_Qi (fun (z : Int32) (xi : Nat → Nat → Int32) => okR loM hiM xi ∧ (True) ∧ True) (fun xi t => va_P (dC, dI) vwCl (wR 21 ad (EM cs ad) xi) t.heap) (va_A (wR 21 ad (EM cs ad) mu) H.size)) 0 0 (va_A (wR 21 ad (EM cs ad) mu) H.size) := by
  refine Met.ofW (cc := cX12_had) (maxL := 4) (ret := (some .int)) (by decide) rfl ?_
  intro p e s m args below meth c s₁ B hml hv
  obtain ⟨rfl, hh, hK, hz⟩ := hv
  have hx := B.exec
  have hb := B.bytes
  have hr := B.returns
  have hts := atoms_spec (ws := (wU yX12_had cX12_had 4 (some .int))) B.pre
  have hown : s.vm.findClass RX12 = some m.cls := findClass_of_methodNamed B.named
  have hlocks := B.notSynchronized
  subst hh
  have hD := hD0.self (sz := s.heap.size)
  have hA : ∀ q : Nat, s.heap.size ≤ q → (va_A (wR 21 ad (EM cs ad) mu) s.heap.size) q := fun q h => Or.inr h
  have hS : va_S (va_A (wR 21 ad (EM cs ad) mu) s.heap.size) s.heap s.heap [] := va_S.rf
  have hl := lv_entry ([.ref (ad 0), .int vx, .int vr]) (n := 4) (Nat.le_of_ble_eq_true rfl)
  rw [lg_entry_eq]
  generalize (lg_sl ([.ref (ad 0), .int vx, .int vr]) ++ List.replicate (4 - (lg_sl ([.ref (ad 0), .int vx, .int vr])).length) Slot.unset).toArray = ls at hl ⊢
  have hl : lv_has ls 4 [(0, .ref (ad 0)), (1, .int vx), (2, .int vr)] := hl
  refine lv_aload_n hx hb dX12_had_0 rfl (lv_at hl 0 rfl) ?_
  refine lv_iload_n hx hb dX12_had_1 rfl (lv_at hl 1 rfl) ?_
  refine lv_iload_n hx hb dX12_had_2 rfl (lv_at hl 2 rfl) ?_
  have hFc := fr_all (wR_D mu hD) hS hA
  refine va_calli (va_runV (As := [.int vx, .int vr]) (rest := []) ⟨hx, hb, hml, hown, hts⟩ (sm_askedHad l dC dI cs ad mu ok s.heap hP ((wR_D mu hD).weaken (fun _ _ _ _ => trivial)) vx vr) (cwV 2 hts (wU_V mw_7_20 mw_7_17 mw_7_19 mw_0_61 mw_1_13) rfl rfl rfl (by decide +kernel) ⟨Nat.le_of_ble_eq_true rfl, Nat.le_of_ble_eq_true rfl⟩) ⟨sz_c, va_recv hK hP (ci := 12) (q0 := 0) rfl (gM_0 cs ad mu), sz_m hK hz⟩ rfl rfl hl.1 rfl (lv_room (Nat.le_of_ble_eq_true rfl)) dX12_had_3 ⟨Nat.zero_le _, Nat.zero_le _⟩) hS (fun q _ h => hFc q h) hFc (fun r1 xi1 t H1 locs ht hvm hw1 hB hz1 hk1 hS => ?_)
  have hP : va_P (dC, dI) vwCl (wR 21 ad (EM cs ad) xi1) H1 := by rw [← ht]; exact hB
  rcases hw1 with ⟨rfl, ok, f1⟩ | ⟨z1, ok⟩
  · have f1 : 0 ≤ vx.toInt ∧ vx.toInt ≤ 6 ∧ 0 ≤ vr.toInt ∧ vr.toInt ≤ 5 ∧ 0 ≤ (xi1 2 vr.toNatClampNeg).toInt ∧ (xi1 2 vr.toNatClampNeg).toInt ≤ 6 := f1
    refine lv_istore_n (lv' := [(3, .int 0), (0, .ref (ad 0)), (1, .int vx), (2, .int vr)]) hx hb dX12_had_6 rfl hl (by decide) rfl (fun ls hl => ?_)
    refine lv_iload_n hx hb dX12_had_7 rfl (lv_at hl 0 rfl) ?_
    refine lv_if_ge (tgt := 15) hx hb dX12_had_8 (by decide) (fun _ => ?_) (fun c => absurd (by decide) c)
    refine lv_aload_n hx hb dX12_had_15 rfl (lv_at hl 1 rfl) ?_
    refine lv_aload_n hx hb dX12_had_16 rfl (lv_at hl 1 rfl) ?_
    refine va_get (D := (dC, dI)) (ci := 12) (v := .int (xi1 0 43)) (C := RX12) (T := TX12) (N := 46) hx hb hts inG12 hown hK hP 0 (gM_0 cs ad xi1) rfl 43 (by decide) (hts _ (List.mem_cons_of_mem _ mw_5_84)) (fun _ h9 => h9) rfl dX12_had_17 ?_
    refine lv_topi (fun y2 ey2 => ?_)
    have by2 : y2.toInt = (xi1 0 43).toInt := congrArg Int32.toInt ey2
    refine lv_aload_n hx hb dX12_had_20 rfl (lv_at hl 1 rfl) ?_
    refine va_get (D := (dC, dI)) (ci := 12) (v := .int (xi1 0 42)) (C := RX12) (T := TX12) (N := 46) hx hb hts inG12 hown hK hP 0 (gM_0 cs ad xi1) rfl 42 (by decide) (hts _ (List.mem_cons_of_mem _ mw_5_83)) (fun _ h9 => h9) rfl dX12_had_21 ?_
    refine lv_topi (fun y3 ey3 => ?_)
    have by3 : y3.toInt = (xi1 0 42).toInt := congrArg Int32.toInt ey3
    have hFc := fr_all (wR_D xi1 hD) hS hA
    refine va_calli (va_runV (As := [.int y2, .int y3]) (rest := []) ⟨hx, hb, hml, hown, hts⟩ (sm_ask l dC dI cs ad xi1 ok H1 hP ((wR_D xi1 hD).weaken (fun _ _ _ _ => trivial)) y2 y3) (cwV 2 hts (wU_V mw_5_213 mw_5_210 mw_5_212 mw_0_30 mw_1_13) rfl rfl rfl (by decide +kernel) ⟨Nat.le_of_ble_eq_true rfl, Nat.le_of_ble_eq_true rfl⟩) ⟨sz_c, va_recv hK hP (ci := 12) (q0 := 0) rfl (gM_0 cs ad xi1), sz_m hK hz⟩ rfl rfl hl.1 rfl (lv_room (Nat.le_of_ble_eq_true rfl)) dX12_had_24 ⟨Nat.zero_le _, Nat.zero_le _⟩) hS (fun q _ h => hFc q h) hFc (fun r4 xi4 t H4 locs ht hvm hw4 hB hz1 hk1 hS => ?_)
    have hP : va_P (dC, dI) vwCl (wR 21 ad (EM cs ad) xi4) H4 := by rw [← ht]; exact hB
    obtain ⟨ok, hw4, _⟩ := hw4
    have gr4 : r4.toInt = y3.toInt := hw4
    exact W.iret (v := r4) hx hb hr (fun t ht hW => ⟨⟨r4, xi4, rfl, ⟨ok, trivial, trivial⟩, by first | (subst ht; exact hP) | (rw [ht]; exact hP) | (show va_P (dC, dI) vwCl (wR 21 ad (EM cs ad) xi4) t.heap; rw [ht]; exact hP)⟩, hS.F ht⟩) hS.2.2 dX12_had_27
  · skip
    refine lv_istore_n (lv' := [(3, .int r1), (0, .ref (ad 0)), (1, .int vx), (2, .int vr)]) hx hb dX12_had_6 rfl hl (by decide) rfl (fun ls hl => ?_)
    refine lv_iload_n hx hb dX12_had_7 rfl (lv_at hl 0 rfl) ?_
    refine lv_if_ge (tgt := 15) hx hb dX12_had_8 (by decide) (fun c_5 => by have c_5 : 0 ≤ r1.toInt := il_le c_5; exfalso; omega) (fun c_5 => ?_)
    have c_5 : r1.toInt < 0 := il_nle c_5
    refine lv_iload_n hx hb dX12_had_11 rfl (lv_at hl 0 rfl) ?_
    refine lv_goto (tgt := 27) hx hb dX12_had_12 (by decide) ?_
    exact W.iret (v := r1) hx hb hr (fun t ht hW => ⟨⟨r1, xi1, rfl, ⟨ok, trivial, trivial⟩, by first | (subst ht; exact hP) | (rw [ht]; exact hP) | (show va_P (dC, dI) vwCl (wR 21 ad (EM cs ad) xi1) t.heap; rw [ht]; exact hP)⟩, hS.F ht⟩) hS.2.2 dX12_had_27
set_option maxHeartbeats 4000000 in
set_option maxRecDepth 100000 in
/-- qm_sure -/
theorem qm_sure (l : Launch) (dC : Nat → ClassId) (dI : Nat → Nat → Nat) (cs : Nat → ClassId) (ad : Nat → Nat) (mu : Nat → Nat → Int32) (ok : okR loM hiM mu) (H : Heap) (hP : va_P (dC, dI) vwCl (wR 21 ad (EM cs ad) mu) H) (hD0 : va_D (fun _ => True) (wR 21 ad (EM cs ad) mu)) (vx : Int32) (vr : Int32) : Met l yX12_sure (wU yX12_sure cX12_sure 4 (some .int)) ({ frames := 9, cells := 0, slots := 0, locals := 249 }) (va_Pc [.ref (ad 0), .int vx, .int vr] (sz_P (dC, dI) vwCl (tyM cs) H)) (va_Qi (fun (z : Int32) (xi : Nat → Nat → Int32) => okR loM hiM xi ∧ (True) ∧ True) (fun xi t => va_P (dC, dI) vwCl (wR 21 ad (EM cs ad) xi) t.heap) (va_A (wR 21 ad (EM cs ad) mu) H.size)) 0 0 (va_A (wR 21 ad (EM cs ad) mu) H.size) := by
  refine Met.ofW (cc := cX12_sure) (maxL := 4) (ret := (some .int)) (by decide) rfl ?_
  intro p e s m args below meth c s₁ B hml hv
  obtain ⟨rfl, hh, hK, hz⟩ := hv
  have hx := B.exec
  have hb := B.bytes
  have hr := B.returns
  have hts := atoms_spec (ws := (wU yX12_sure cX12_sure 4 (some .int))) B.pre
  have hown : s.vm.findClass RX12 = some m.cls := findClass_of_methodNamed B.named
  have hlocks := B.notSynchronized
  subst hh
  have hD := hD0.self (sz := s.heap.size)
  have hA : ∀ q : Nat, s.heap.size ≤ q → (va_A (wR 21 ad (EM cs ad) mu) s.heap.size) q := fun q h => Or.inr h
  have hS : va_S (va_A (wR 21 ad (EM cs ad) mu) s.heap.size) s.heap s.heap [] := va_S.rf
  have hl := lv_entry ([.ref (ad 0), .int vx, .int vr]) (n := 4) (Nat.le_of_ble_eq_true rfl)
  rw [lg_entry_eq]
  generalize (lg_sl ([.ref (ad 0), .int vx, .int vr]) ++ List.replicate (4 - (lg_sl ([.ref (ad 0), .int vx, .int vr])).length) Slot.unset).toArray = ls at hl ⊢
  have hl : lv_has ls 4 [(0, .ref (ad 0)), (1, .int vx), (2, .int vr)] := hl
  refine lv_aload_n hx hb dX12_sure_0 rfl (lv_at hl 0 rfl) ?_
  refine lv_iload_n hx hb dX12_sure_1 rfl (lv_at hl 1 rfl) ?_
  refine lv_iload_n hx hb dX12_sure_2 rfl (lv_at hl 2 rfl) ?_
  have hFc := fr_all (wR_D mu hD) hS hA
  refine va_calli (va_runV (As := [.int vx, .int vr]) (rest := []) ⟨hx, hb, hml, hown, hts⟩ (sm_askedHad l dC dI cs ad mu ok s.heap hP ((wR_D mu hD).weaken (fun _ _ _ _ => trivial)) vx vr) (cwV 2 hts (wU_V mw_7_20 mw_7_17 mw_7_19 mw_0_61 mw_1_13) rfl rfl rfl (by decide +kernel) ⟨Nat.le_of_ble_eq_true rfl, Nat.le_of_ble_eq_true rfl⟩) ⟨sz_c, va_recv hK hP (ci := 12) (q0 := 0) rfl (gM_0 cs ad mu), sz_m hK hz⟩ rfl rfl hl.1 rfl (lv_room (Nat.le_of_ble_eq_true rfl)) dX12_sure_3 ⟨Nat.zero_le _, Nat.zero_le _⟩) hS (fun q _ h => hFc q h) hFc (fun r1 xi1 t H1 locs ht hvm hw1 hB hz1 hk1 hS => ?_)
  have hP : va_P (dC, dI) vwCl (wR 21 ad (EM cs ad) xi1) H1 := by rw [← ht]; exact hB
  rcases hw1 with ⟨rfl, ok, f1⟩ | ⟨z1, ok⟩
  · have f1 : 0 ≤ vx.toInt ∧ vx.toInt ≤ 6 ∧ 0 ≤ vr.toInt ∧ vr.toInt ≤ 5 ∧ 0 ≤ (xi1 2 vr.toNatClampNeg).toInt ∧ (xi1 2 vr.toNatClampNeg).toInt ≤ 6 := f1
    refine lv_istore_n (lv' := [(3, .int 0), (0, .ref (ad 0)), (1, .int vx), (2, .int vr)]) hx hb dX12_sure_6 rfl hl (by decide) rfl (fun ls hl => ?_)
    refine lv_iload_n hx hb dX12_sure_7 rfl (lv_at hl 0 rfl) ?_
    refine lv_if_ge (tgt := 15) hx hb dX12_sure_8 (by decide) (fun _ => ?_) (fun c => absurd (by decide) c)
    refine lv_aload_n hx hb dX12_sure_15 rfl (lv_at hl 1 rfl) ?_
    refine va_get (D := (dC, dI)) (ci := 12) (v := .int (xi1 0 42)) (C := RX12) (T := TX12) (N := 46) hx hb hts inG12 hown hK hP 0 (gM_0 cs ad xi1) rfl 42 (by decide) (hts _ (List.mem_cons_of_mem _ mw_5_83)) (fun _ h9 => h9) rfl dX12_sure_16 ?_
    refine lv_topi (fun y2 ey2 => ?_)
    have by2 : y2.toInt = (xi1 0 42).toInt := congrArg Int32.toInt ey2
    refine lv_if_ne (tgt := 26) hx hb dX12_sure_19 (by decide) (fun c_3 => ?_) (fun c_3 => ?_)
    · have c_3 : ¬ y2.toInt = 0 := il_ne c_3
      refine lv_aload_n hx hb dX12_sure_26 rfl (lv_at hl 1 rfl) ?_
      refine va_get (D := (dC, dI)) (ci := 12) (v := .int (xi1 0 44)) (C := RX12) (T := TX12) (N := 46) hx hb hts inG12 hown hK hP 0 (gM_0 cs ad xi1) rfl 44 (by decide) (hts _ (List.mem_cons_of_mem _ mw_5_85)) (fun _ h9 => h9) rfl dX12_sure_27 ?_
      refine lv_topi (fun y4 ey4 => ?_)
      have by4 : y4.toInt = (xi1 0 44).toInt := congrArg Int32.toInt ey4
      exact W.iret (v := y4) hx hb hr (fun t ht hW => ⟨⟨y4, xi1, rfl, ⟨ok, trivial, trivial⟩, by first | (subst ht; exact hP) | (rw [ht]; exact hP) | (show va_P (dC, dI) vwCl (wR 21 ad (EM cs ad) xi1) t.heap; rw [ht]; exact hP)⟩, hS.F ht⟩) hS.2.2 dX12_sure_30
    · have c_3 : y2.toInt = 0 := il_eq c_3
      refine lv_iconst (v := 0) hx hb dX12_sure_22 (by decide) ?_
      refine lv_goto (tgt := 30) hx hb dX12_sure_23 (by decide) ?_
      exact W.iret (v := 0) hx hb hr (fun t ht hW => ⟨⟨0, xi1, rfl, ⟨ok, trivial, trivial⟩, by first | (subst ht; exact hP) | (rw [ht]; exact hP) | (show va_P (dC, dI) vwCl (wR 21 ad (EM cs ad) xi1) t.heap; rw [ht]; exact hP)⟩, hS.F ht⟩) hS.2.2 dX12_sure_30
  · skip
    refine lv_istore_n (lv' := [(3, .int r1), (0, .ref (ad 0)), (1, .int vx), (2, .int vr)]) hx hb dX12_sure_6 rfl hl (by decide) rfl (fun ls hl => ?_)
    refine lv_iload_n hx hb dX12_sure_7 rfl (lv_at hl 0 rfl) ?_
    refine lv_if_ge (tgt := 15) hx hb dX12_sure_8 (by decide) (fun c_5 => by have c_5 : 0 ≤ r1.toInt := il_le c_5; exfalso; omega) (fun c_5 => ?_)
    have c_5 : r1.toInt < 0 := il_nle c_5
    refine lv_iload_n hx hb dX12_sure_11 rfl (lv_at hl 0 rfl) ?_
    refine lv_goto (tgt := 30) hx hb dX12_sure_12 (by decide) ?_
    exact W.iret (v := r1) hx hb hr (fun t ht hW => ⟨⟨r1, xi1, rfl, ⟨ok, trivial, trivial⟩, by first | (subst ht; exact hP) | (rw [ht]; exact hP) | (show va_P (dC, dI) vwCl (wR 21 ad (EM cs ad) xi1) t.heap; rw [ht]; exact hP)⟩, hS.F ht⟩) hS.2.2 dX12_sure_30
set_option maxHeartbeats 4000000 in
set_option maxRecDepth 100000 in
/-- qm_first -/
theorem qm_first (l : Launch) (dC : Nat → ClassId) (dI : Nat → Nat → Nat) (cs : Nat → ClassId) (ad : Nat → Nat) (mu : Nat → Nat → Int32) (ok : okR loM hiM mu) (H : Heap) (hP : va_P (dC, dI) vwCl (wR 21 ad (EM cs ad) mu) H) (hD0 : va_D (fun _ => True) (wR 21 ad (EM cs ad) mu)) (vx : Int32) (vr : Int32) (vt : Int32) : Met l yX12_first (wU yX12_first cX12_first 6 (some .int)) ({ frames := 9, cells := 0, slots := 0, locals := 249 }) (va_Pc [.ref (ad 0), .int vx, .int vr, .int vt] (sz_P (dC, dI) vwCl (tyM cs) H)) (va_Qi (fun (z : Int32) (xi : Nat → Nat → Int32) => okR loM hiM xi ∧ (True) ∧ True) (fun xi t => va_P (dC, dI) vwCl (wR 21 ad (EM cs ad) xi) t.heap) (va_A (wR 21 ad (EM cs ad) mu) H.size)) 0 0 (va_A (wR 21 ad (EM cs ad) mu) H.size) := by
  refine Met.ofW (cc := cX12_first) (maxL := 6) (ret := (some .int)) (by decide) rfl ?_
  intro p e s m args below meth c s₁ B hml hv
  obtain ⟨rfl, hh, hK, hz⟩ := hv
  have hx := B.exec
  have hb := B.bytes
  have hr := B.returns
  have hts := atoms_spec (ws := (wU yX12_first cX12_first 6 (some .int))) B.pre
  have hown : s.vm.findClass RX12 = some m.cls := findClass_of_methodNamed B.named
  have hlocks := B.notSynchronized
  subst hh
  have hD := hD0.self (sz := s.heap.size)
  have hA : ∀ q : Nat, s.heap.size ≤ q → (va_A (wR 21 ad (EM cs ad) mu) s.heap.size) q := fun q h => Or.inr h
  have hS : va_S (va_A (wR 21 ad (EM cs ad) mu) s.heap.size) s.heap s.heap [] := va_S.rf
  have hl := lv_entry ([.ref (ad 0), .int vx, .int vr, .int vt]) (n := 6) (Nat.le_of_ble_eq_true rfl)
  rw [lg_entry_eq]
  generalize (lg_sl ([.ref (ad 0), .int vx, .int vr, .int vt]) ++ List.replicate (6 - (lg_sl ([.ref (ad 0), .int vx, .int vr, .int vt])).length) Slot.unset).toArray = ls at hl ⊢
  have hl : lv_has ls 6 [(0, .ref (ad 0)), (1, .int vx), (2, .int vr), (3, .int vt)] := hl
  refine lv_iload_n hx hb dX12_first_0 rfl (lv_at hl 3 rfl) ?_
  refine cr_i (va_runS (As := [.int vt]) (rest := []) ⟨hx, hb, hml, hown, hts⟩ (sm_isRow l dC dI (tyM cs) s.heap vt) (va_cwS 1 hts (wU_S mw_5_186 mw_5_184 mw_5_185 mw_1_13) rfl rfl rfl (by decide +kernel) ⟨Nat.le_of_ble_eq_true rfl, Nat.le_of_ble_eq_true rfl⟩) ⟨sz_c, sz_m hK hz⟩ rfl rfl hl.1 rfl (lv_room (Nat.le_of_ble_eq_true rfl)) dX12_first_1 ⟨Nat.zero_le _, Nat.zero_le _⟩) hS (fun r1 hw1 locs hS => ?_)
  rcases hw1 with ⟨rfl, f1⟩ | ⟨rfl, f1⟩
  · have f1 : 0 ≤ vt.toInt ∧ vt.toInt ≤ 5 := f1
    refine lv_if_ne (tgt := 11) hx hb dX12_first_4 (by decide) (fun _ => ?_) (fun c => absurd c (by decide))
    refine lv_aload_n hx hb dX12_first_11 rfl (lv_at hl 0 rfl) ?_
    refine lv_iload_n hx hb dX12_first_12 rfl (lv_at hl 1 rfl) ?_
    refine lv_iload_n hx hb dX12_first_13 rfl (lv_at hl 2 rfl) ?_
    have hFc := fr_all (wR_D mu hD) hS hA
    refine va_calli (va_runV (As := [.int vx, .int vr]) (rest := []) ⟨hx, hb, hml, hown, hts⟩ (sm_askedHad l dC dI cs ad mu ok s.heap hP ((wR_D mu hD).weaken (fun _ _ _ _ => trivial)) vx vr) (cwV 2 hts (wU_V mw_7_20 mw_7_17 mw_7_19 mw_0_61 mw_1_13) rfl rfl rfl (by decide +kernel) ⟨Nat.le_of_ble_eq_true rfl, Nat.le_of_ble_eq_true rfl⟩) ⟨sz_c, va_recv hK hP (ci := 12) (q0 := 0) rfl (gM_0 cs ad mu), sz_m hK hz⟩ rfl rfl hl.1 rfl (lv_room (Nat.le_of_ble_eq_true rfl)) dX12_first_14 ⟨Nat.zero_le _, Nat.zero_le _⟩) hS (fun q _ h => hFc q h) hFc (fun r2 xi2 t H2 locs ht hvm hw2 hB hz1 hk1 hS => ?_)
    have hP : va_P (dC, dI) vwCl (wR 21 ad (EM cs ad) xi2) H2 := by rw [← ht]; exact hB
    rcases hw2 with ⟨rfl, ok, f2⟩ | ⟨z2, ok⟩
    · have f2 : 0 ≤ vx.toInt ∧ vx.toInt ≤ 6 ∧ 0 ≤ vr.toInt ∧ vr.toInt ≤ 5 ∧ 0 ≤ (xi2 2 vr.toNatClampNeg).toInt ∧ (xi2 2 vr.toNatClampNeg).toInt ≤ 6 := f2
      refine lv_istore (lv' := [(4, .int 0), (0, .ref (ad 0)), (1, .int vx), (2, .int vr), (3, .int vt)]) hx hb dX12_first_17 hl (by decide) rfl (fun ls hl => ?_)
      refine lv_iload hx hb dX12_first_19 (lv_at hl 0 rfl) ?_
      refine lv_if_ge (tgt := 27) hx hb dX12_first_21 (by decide) (fun _ => ?_) (fun c => absurd (by decide) c)
      refine lv_aload_n hx hb dX12_first_27 rfl (lv_at hl 1 rfl) ?_
      refine va_get (D := (dC, dI)) (ci := 12) (v := .int (xi2 0 42)) (C := RX12) (T := TX12) (N := 46) hx hb hts inG12 hown hK hP 0 (gM_0 cs ad xi2) rfl 42 (by decide) (hts _ (List.mem_cons_of_mem _ mw_5_83)) (fun _ h9 => h9) rfl dX12_first_28 ?_
      refine lv_topi (fun y3 ey3 => ?_)
      have by3 : y3.toInt = (xi2 0 42).toInt := congrArg Int32.toInt ey3
      refine lv_if_ne (tgt := 37) hx hb dX12_first_31 (by decide) (fun c_4 => ?_) (fun c_4 => ?_)
      · have c_4 : ¬ y3.toInt = 0 := il_ne c_4
        refine lv_aload_n hx hb dX12_first_37 rfl (lv_at hl 1 rfl) ?_
        refine va_get (D := (dC, dI)) (ci := 12) (v := .ref (ad 2)) (C := RX12) (T := TX12) (N := 46) hx hb hts inG12 hown hK hP 0 (gM_0 cs ad xi2) rfl 3 (by decide) (hts _ (List.mem_cons_of_mem _ mw_5_44)) (fun _ h9 => h9) rfl dX12_first_38 ?_
        refine lv_iload_n hx hb dX12_first_41 rfl (lv_at hl 3 rfl) ?_
        refine va_iald hx hb hK hP 2 0 (gM_2 cs ad xi2) rfl (show vp_in vr 6 from vi_of (by omega) (by omega)) dX12_first_42 ?_
        refine lv_topi (fun y5 ey5 => ?_)
        have by5 : y5.toInt = (xi2 2 vr.toNatClampNeg).toInt := congrArg Int32.toInt ey5
        have gy5 : -9 ≤ y5.toInt ∧ y5.toInt ≤ 40 := by rw [ey5]; exact rM_2_s ok vr.toNatClampNeg
        refine lv_iconst (v := 1) hx hb dX12_first_43 (by decide) ?_
        refine lv_iadd hx hb dX12_first_44 ?_
        refine lv_topi (fun t6 et6 => ?_)
        have at6 : t6.toInt = y5.toInt + 1 := by rw [et6]; exact tI_add (rfl : y5.toInt = _) (rfl : (1 : Int32).toInt = 1) (by omega) (by omega)
        refine lv_istore (lv' := [(5, .int t6), (4, .int 0), (0, .ref (ad 0)), (1, .int vx), (2, .int vr), (3, .int vt)]) hx hb dX12_first_45 hl (by decide) rfl (fun ls hl => ?_)
        refine lv_aload_n hx hb dX12_first_47 rfl (lv_at hl 2 rfl) ?_
        refine lv_iload_n hx hb dX12_first_48 rfl (lv_at hl 5 rfl) ?_
        refine lv_aload_n hx hb dX12_first_49 rfl (lv_at hl 2 rfl) ?_
        refine va_get (D := (dC, dI)) (ci := 12) (v := .ref (ad 17)) (C := RX12) (T := TX12) (N := 46) hx hb hts inG12 hown hK hP 0 (gM_0 cs ad xi2) rfl 27 (by decide) (hts _ (List.mem_cons_of_mem _ mw_5_68)) (fun _ h9 => h9) rfl dX12_first_50 ?_
        refine lv_iload hx hb dX12_first_53 (lv_at hl 0 rfl) ?_
        have hFc := fr_all (wR_D xi2 hD) hS hA
        refine va_callv (va_runV (As := [.int vt, .ref (ad 17), .int t6]) (rest := []) ⟨hx, hb, hml, hown, hts⟩ (sm_layRoute17 l dC dI cs ad xi2 ok H2 hP ((wR_D xi2 hD).weaken (fun _ _ _ _ => trivial)) vt t6 (by omega)) (cwV 3 hts (wU_V mw_6_195 mw_6_192 mw_6_194 mw_0_58 mw_1_13) rfl rfl rfl (by decide +kernel) ⟨Nat.le_of_ble_eq_true rfl, Nat.le_of_ble_eq_true rfl⟩) ⟨sz_c, va_recv hK hP (ci := 12) (q0 := 0) rfl (gM_0 cs ad xi2), sz_m hK hz⟩ rfl rfl hl.1 rfl (lv_room (Nat.le_of_ble_eq_true rfl)) dX12_first_55 ⟨Nat.zero_le _, Nat.zero_le _⟩) hS (fun q _ h => hFc q h) hFc (fun xi7 t H7 locs ht hvm hw7 hB hz1 hk1 hS => ?_)
        have hP : va_P (dC, dI) vwCl (wR 21 ad (EM cs ad) xi7) H7 := by rw [← ht]; exact hB
        obtain ⟨ok, hw7, _⟩ := hw7
        refine lv_iload hx hb dX12_first_58 (lv_at hl 0 rfl) ?_
        exact W.iret (v := t6) hx hb hr (fun t ht hW => ⟨⟨t6, xi7, rfl, ⟨ok, trivial, trivial⟩, by first | (subst ht; exact hP) | (rw [ht]; exact hP) | (show va_P (dC, dI) vwCl (wR 21 ad (EM cs ad) xi7) t.heap; rw [ht]; exact hP)⟩, hS.F ht⟩) hS.2.2 dX12_first_60
      · have c_4 : y3.toInt = 0 := il_eq c_4
        refine lv_bipush (v := (-9)) hx hb dX12_first_34 (by decide) ?_
        exact W.iret (v := (-9)) hx hb hr (fun t ht hW => ⟨⟨(-9), xi2, rfl, ⟨ok, trivial, trivial⟩, by first | (subst ht; exact hP) | (rw [ht]; exact hP) | (show va_P (dC, dI) vwCl (wR 21 ad (EM cs ad) xi2) t.heap; rw [ht]; exact hP)⟩, hS.F ht⟩) hS.2.2 dX12_first_36
    · skip
      refine lv_istore (lv' := [(4, .int r2), (0, .ref (ad 0)), (1, .int vx), (2, .int vr), (3, .int vt)]) hx hb dX12_first_17 hl (by decide) rfl (fun ls hl => ?_)
      refine lv_iload hx hb dX12_first_19 (lv_at hl 0 rfl) ?_
      refine lv_if_ge (tgt := 27) hx hb dX12_first_21 (by decide) (fun c_8 => by have c_8 : 0 ≤ r2.toInt := il_le c_8; exfalso; omega) (fun c_8 => ?_)
      have c_8 : r2.toInt < 0 := il_nle c_8
      refine lv_iload hx hb dX12_first_24 (lv_at hl 0 rfl) ?_
      exact W.iret (v := r2) hx hb hr (fun t ht hW => ⟨⟨r2, xi2, rfl, ⟨ok, trivial, trivial⟩, by first | (subst ht; exact hP) | (rw [ht]; exact hP) | (show va_P (dC, dI) vwCl (wR 21 ad (EM cs ad) xi2) t.heap; rw [ht]; exact hP)⟩, hS.F ht⟩) hS.2.2 dX12_first_26
  · have f1 : vt.toInt < 0 ∨ 5 < vt.toInt := f1
    refine lv_if_ne (tgt := 11) hx hb dX12_first_4 (by decide) (fun c => absurd (by decide) c) (fun _ => ?_)
    refine lv_iconst (v := (-1)) hx hb dX12_first_7 (by decide) ?_
    refine lv_goto (tgt := 17) hx hb dX12_first_8 (by decide) ?_
    refine lv_istore (lv' := [(4, .int (-1)), (0, .ref (ad 0)), (1, .int vx), (2, .int vr), (3, .int vt)]) hx hb dX12_first_17 hl (by decide) rfl (fun ls hl => ?_)
    refine lv_iload hx hb dX12_first_19 (lv_at hl 0 rfl) ?_
    refine lv_if_ge (tgt := 27) hx hb dX12_first_21 (by decide) (fun c => absurd c (by decide)) (fun _ => ?_)
    refine lv_iload hx hb dX12_first_24 (lv_at hl 0 rfl) ?_
    exact W.iret (v := (-1)) hx hb hr (fun t ht hW => ⟨⟨(-1), mu, rfl, ⟨ok, trivial, trivial⟩, by first | (subst ht; exact hP) | (rw [ht]; exact hP) | (show va_P (dC, dI) vwCl (wR 21 ad (EM cs ad) mu) t.heap; rw [ht]; exact hP)⟩, hS.F ht⟩) hS.2.2 dX12_first_26
