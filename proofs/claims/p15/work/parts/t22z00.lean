set_option maxHeartbeats 4000000 in
set_option maxRecDepth 100000 in
/-- sm_hadOn7 -/
theorem sm_hadOn7 (l : Launch) (dC : Nat → ClassId) (dI : Nat → Nat → Nat) (cs : Nat → ClassId) (ad : Nat → Nat) (mu : Nat → Nat → Int32) (ok : okR loM hiM mu) (H : Heap) (hP : va_P (dC, dI) vwCl (wR 21 ad (EM cs ad) mu) H) (hD0 : va_D (fun _ => True) (wR 21 ad (EM cs ad) mu)) (vr : Int32) (vh : Int32) (vp : Int32) (hin0 : 0 ≤ vr.toInt ∧ vr.toInt ≤ 5) (hin1 : 7 ≤ (mu 2 vr.toNatClampNeg).toInt + 1 ∧ (mu 2 vr.toNatClampNeg).toInt ≤ 6) : Met l yX12_hadOn (wU yX12_hadOn cX12_hadOn 10 none) ({ frames := 1, cells := 0, slots := 0, locals := 23 }) (va_Pc [.ref (ad 0), .int vr, .int 7, .int vh, .int vp] (sz_P (dC, dI) vwCl (tyM cs) H)) (va_Qv (fun (xi : Nat → Nat → Int32) => okR loM hiM xi ∧ (True) ∧ (∀ k : Nat, 2 ≤ k → k < 3 → xi k = mu k) ∧ (∀ k f : Nat, Nat.testBit 510 (gpM k f) = true → xi k f = mu k f)) (fun xi t => va_P (dC, dI) vwCl (wR 21 ad (EM cs ad) xi) t.heap) (va_A (wR 21 ad (EM cs ad) mu) H.size)) 0 0 (va_A (wR 21 ad (EM cs ad) mu) H.size) := by
  refine Met.ofW (cc := cX12_hadOn) (maxL := 10) (ret := none) (by decide) rfl ?_
  intro p e s m args below meth c s₁ B hml hv
  obtain ⟨rfl, hh, hK, hz⟩ := hv
  have hx := B.exec
  have hb := B.bytes
  have hr := B.returns
  have hts := atoms_spec (ws := (wU yX12_hadOn cX12_hadOn 10 none)) B.pre
  have hown : s.vm.findClass RX12 = some m.cls := findClass_of_methodNamed B.named
  have hlocks := B.notSynchronized
  subst hh
  have hD := hD0.self (sz := s.heap.size)
  have hA : ∀ q : Nat, s.heap.size ≤ q → (va_A (wR 21 ad (EM cs ad) mu) s.heap.size) q := fun q h => Or.inr h
  have hS : va_S (va_A (wR 21 ad (EM cs ad) mu) s.heap.size) s.heap s.heap [] := va_S.rf
  have hl := lv_entry ([.ref (ad 0), .int vr, .int 7, .int vh, .int vp]) (n := 10) (Nat.le_of_ble_eq_true rfl)
  rw [lg_entry_eq]
  generalize (lg_sl ([.ref (ad 0), .int vr, .int 7, .int vh, .int vp]) ++ List.replicate (10 - (lg_sl ([.ref (ad 0), .int vr, .int 7, .int vh, .int vp])).length) Slot.unset).toArray = ls at hl ⊢
  have hl : lv_has ls 10 [(0, .ref (ad 0)), (1, .int vr), (2, .int 7), (3, .int vh), (4, .int vp)] := hl
  refine lv_iload_n hx hb dX12_hadOn_0 rfl (lv_at hl 2 rfl) ?_
  refine lv_aload_n hx hb dX12_hadOn_1 rfl (lv_at hl 0 rfl) ?_
  refine va_get (D := (dC, dI)) (ci := 12) (v := .ref (ad 2)) (C := RX12) (T := TX12) (N := 46) hx hb hts inG12 hown hK hP 0 (gM_0 cs ad mu) rfl 3 (by decide) (hts _ (List.mem_cons_of_mem _ mw_5_44)) (fun _ h9 => h9) rfl dX12_hadOn_2 ?_
  refine lv_iload_n hx hb dX12_hadOn_5 rfl (lv_at hl 1 rfl) ?_
  refine va_iald hx hb hK hP 2 0 (gM_2 cs ad mu) rfl (show vp_in vr 6 from vi_of (by omega) (by omega)) dX12_hadOn_6 ?_
  refine lv_topi (fun y1 ey1 => ?_)
  have by1 : y1.toInt = (mu 2 vr.toNatClampNeg).toInt := congrArg Int32.toInt ey1
  have gy1 : -9 ≤ y1.toInt ∧ y1.toInt ≤ 40 := by rw [ey1]; exact rM_2_s ok vr.toNatClampNeg
  refine lv_iconst (v := 1) hx hb dX12_hadOn_7 (by decide) ?_
  refine lv_iadd hx hb dX12_hadOn_8 ?_
  refine lv_topi (fun t2 et2 => ?_)
  have at2 : t2.toInt = y1.toInt + 1 := by rw [et2]; exact tI_add (rfl : y1.toInt = _) (rfl : (1 : Int32).toInt = 1) (by omega) (by omega)
  refine lv_icmp_ne (tgt := 68) hx hb dX12_hadOn_9 (by decide) (fun c_3 => by have c_3 : ¬ 7 = t2.toInt := il_ne c_3; exfalso; omega) (fun c_3 => ?_)
  have c_3 : 7 = t2.toInt := il_eq c_3
  refine lv_aload_n hx hb dX12_hadOn_12 rfl (lv_at hl 0 rfl) ?_
  refine va_get (D := (dC, dI)) (ci := 12) (v := .int (mu 0 42)) (C := RX12) (T := TX12) (N := 46) hx hb hts inG12 hown hK hP 0 (gM_0 cs ad mu) rfl 42 (by decide) (hts _ (List.mem_cons_of_mem _ mw_5_83)) (fun _ h9 => h9) rfl dX12_hadOn_13 ?_
  refine lv_topi (fun y4 ey4 => ?_)
  have by4 : y4.toInt = (mu 0 42).toInt := congrArg Int32.toInt ey4
  refine lv_if_ne (tgt := 28) hx hb dX12_hadOn_16 (by decide) (fun c_5 => ?_) (fun c_5 => ?_)
  · have c_5 : ¬ y4.toInt = 0 := il_ne c_5
    refine lv_aload_n hx hb dX12_hadOn_28 rfl (lv_at hl 0 rfl) ?_
    refine lv_dup hx hb dX12_hadOn_29 rfl ?_
    refine va_get (D := (dC, dI)) (ci := 12) (v := .int (mu 0 42)) (C := RX12) (T := TX12) (N := 46) hx hb hts inG12 hown hK hP 0 (gM_0 cs ad mu) rfl 42 (by decide) (hts _ (List.mem_cons_of_mem _ mw_5_83)) (fun _ h9 => h9) rfl dX12_hadOn_30 ?_
    refine lq_i y4 ey4.symm ?_
    refine lv_iconst (v := 1) hx hb dX12_hadOn_33 (by decide) ?_
    refine lv_iadd hx hb dX12_hadOn_34 ?_
    refine lv_topi (fun t6 et6 => ?_)
    refine va_put (D := (dC, dI)) (ci := 12) (v := .int t6) (ty := .int) (C := RX12) (T := TX12) (N := 46) hx hb hts inG12 tyX12 tyX12_ok nmX12 hown hK hP (wR_D mu hD) hS 0 (gM_0 cs ad mu) rfl 42 (by decide) (hts _ (List.mem_cons_of_mem _ mw_5_83)) (fun _ h9 => h9) rfl (by decide +kernel) rfl rfl (Nat.le_of_ble_eq_true rfl) dX12_hadOn_35 (fun H locs hP _ hS => ?_)
    simp only [List.set_cons_succ, List.set_cons_zero] at hP
    refine wr_gen (upd (mu 0) 42 t6) hP ((hM_0_42 cs ad _ _)) (fun nu7 hn7 hP => ?_)
    have ok := tM_0_42 ok hn7
    have ez8 : y1 = nu7 2 vr.toNatClampNeg := ey1.trans (congrFun (up_k hn7 (by decide)) vr.toNatClampNeg).symm
    have kp9 : ∀ k : Nat, 2 ≤ k → k < 3 → nu7 k = mu k := fun k h1 h2 => (up_k hn7 (ne_lo (by decide) h1).symm).trans ((fun _ _ _ => rfl) k h1 h2)
    have kp10 : (∀ k f : Nat, Nat.testBit 510 (gpM k f) = true → nu7 k f = mu k f) := kp_f hn7 (by decide) (fun _ _ _ => rfl)
    have ez11 : t6 = nu7 0 42 := up_v hn7
    refine lv_aload_n hx hb dX12_hadOn_38 rfl (lv_at hl 0 rfl) ?_
    refine lv_dup hx hb dX12_hadOn_39 rfl ?_
    refine va_get (D := (dC, dI)) (ci := 12) (v := .int (nu7 0 43)) (C := RX12) (T := TX12) (N := 46) hx hb hts inG12 hown hK hP 0 (gM_0 cs ad nu7) rfl 43 (by decide) (hts _ (List.mem_cons_of_mem _ mw_5_84)) (fun _ h9 => h9) rfl dX12_hadOn_40 ?_
    refine lv_topi (fun y12 ey12 => ?_)
    have by12 : y12.toInt = (nu7 0 43).toInt := congrArg Int32.toInt ey12
    refine lv_iconst (v := 1) hx hb dX12_hadOn_43 (by decide) ?_
    refine lv_aload_n hx hb dX12_hadOn_44 rfl (lv_at hl 0 rfl) ?_
    refine va_get (D := (dC, dI)) (ci := 12) (v := .ref (ad 16)) (C := RX12) (T := TX12) (N := 46) hx hb hts inG12 hown hK hP 0 (gM_0 cs ad nu7) rfl 26 (by decide) (hts _ (List.mem_cons_of_mem _ mw_5_67)) (fun _ h9 => h9) rfl dX12_hadOn_45 ?_
    refine lv_iload_n hx hb dX12_hadOn_48 rfl (lv_at hl 2 rfl) ?_
    refine lv_iconst (v := 1) hx hb dX12_hadOn_49 (by decide) ?_
    refine lv_isub hx hb dX12_hadOn_50 ?_
    refine lq_i 6 (by decide) ?_
    refine va_iald hx hb hK hP 16 0 (gM_16 cs ad nu7) rfl (show vp_in 6 7 from (by unfold vp_in; decide)) dX12_hadOn_51 ?_
    refine lv_topi (fun y13 ey13 => ?_)
    have by13 : y13.toInt = (nu7 16 (6 : Int32).toNatClampNeg).toInt := congrArg Int32.toInt ey13
    have gy13 : 0 ≤ y13.toInt ∧ y13.toInt ≤ 6 := by rw [ey13]; exact rM_16_s ok (6 : Int32).toNatClampNeg
    refine lv_ishl hx hb dX12_hadOn_52 ?_
    refine lv_topi (fun t14 et14 => ?_)
    refine lv_ior hx hb dX12_hadOn_53 ?_
    refine lv_topi (fun t15 et15 => ?_)
    refine va_put (D := (dC, dI)) (ci := 12) (v := .int t15) (ty := .int) (C := RX12) (T := TX12) (N := 46) hx hb hts inG12 tyX12 tyX12_ok nmX12 hown hK hP (wR_D nu7 hD) hS 0 (gM_0 cs ad nu7) rfl 43 (by decide) (hts _ (List.mem_cons_of_mem _ mw_5_84)) (fun _ h9 => h9) rfl (by decide +kernel) rfl rfl (Nat.le_of_ble_eq_true rfl) dX12_hadOn_54 (fun H locs hP _ hS => ?_)
    simp only [List.set_cons_succ, List.set_cons_zero] at hP
    refine wr_gen (upd (nu7 0) 43 t15) hP ((hM_0_43 cs ad _ _)) (fun nu16 hn16 hP => ?_)
    have ok := tM_0_43 ok hn16
    have ez17 : y1 = nu16 2 vr.toNatClampNeg := ez8.trans (congrFun (up_k hn16 (by decide)) vr.toNatClampNeg).symm
    have ez18 : t6 = nu16 0 42 := ez11.trans (up_f hn16 (by decide)).symm
    have ez19 : y13 = nu16 16 (6 : Int32).toNatClampNeg := ey13.trans (congrFun (up_k hn16 (by decide)) (6 : Int32).toNatClampNeg).symm
    have kp20 : ∀ k : Nat, 2 ≤ k → k < 3 → nu16 k = mu k := fun k h1 h2 => (up_k hn16 (ne_lo (by decide) h1).symm).trans (kp9 k h1 h2)
    have kp21 : (∀ k f : Nat, Nat.testBit 510 (gpM k f) = true → nu16 k f = mu k f) := kp_f hn16 (by decide) kp10
    have ez22 : t15 = nu16 0 43 := up_v hn16
    refine lv_aload_n hx hb dX12_hadOn_57 rfl (lv_at hl 0 rfl) ?_
    refine lv_dup hx hb dX12_hadOn_58 rfl ?_
    refine va_get (D := (dC, dI)) (ci := 12) (v := .int (nu16 0 44)) (C := RX12) (T := TX12) (N := 46) hx hb hts inG12 hown hK hP 0 (gM_0 cs ad nu16) rfl 44 (by decide) (hts _ (List.mem_cons_of_mem _ mw_5_85)) (fun _ h9 => h9) rfl dX12_hadOn_59 ?_
    refine lv_topi (fun y23 ey23 => ?_)
    have by23 : y23.toInt = (nu16 0 44).toInt := congrArg Int32.toInt ey23
    refine lv_iload_n hx hb dX12_hadOn_62 rfl (lv_at hl 3 rfl) ?_
    refine lv_iand hx hb dX12_hadOn_63 ?_
    refine lv_topi (fun t24 et24 => ?_)
    refine va_put (D := (dC, dI)) (ci := 12) (v := .int t24) (ty := .int) (C := RX12) (T := TX12) (N := 46) hx hb hts inG12 tyX12 tyX12_ok nmX12 hown hK hP (wR_D nu16 hD) hS 0 (gM_0 cs ad nu16) rfl 44 (by decide) (hts _ (List.mem_cons_of_mem _ mw_5_85)) (fun _ h9 => h9) rfl (by decide +kernel) rfl rfl (Nat.le_of_ble_eq_true rfl) dX12_hadOn_64 (fun H locs hP _ hS => ?_)
    simp only [List.set_cons_succ, List.set_cons_zero] at hP
    refine wr_gen (upd (nu16 0) 44 t24) hP ((hM_0_44 cs ad _ _)) (fun nu25 hn25 hP => ?_)
    have ok := tM_0_44 ok hn25
    have ez26 : y1 = nu25 2 vr.toNatClampNeg := ez17.trans (congrFun (up_k hn25 (by decide)) vr.toNatClampNeg).symm
    have ez27 : t6 = nu25 0 42 := ez18.trans (up_f hn25 (by decide)).symm
    have ez28 : y13 = nu25 16 (6 : Int32).toNatClampNeg := ez19.trans (congrFun (up_k hn25 (by decide)) (6 : Int32).toNatClampNeg).symm
    have ez29 : t15 = nu25 0 43 := ez22.trans (up_f hn25 (by decide)).symm
    have kp30 : ∀ k : Nat, 2 ≤ k → k < 3 → nu25 k = mu k := fun k h1 h2 => (up_k hn25 (ne_lo (by decide) h1).symm).trans (kp20 k h1 h2)
    have kp31 : (∀ k f : Nat, Nat.testBit 510 (gpM k f) = true → nu25 k f = mu k f) := kp_f hn25 (by decide) kp21
    have ez32 : t24 = nu25 0 44 := up_v hn25
    exact W.vret hx hb hr (fun t ht hW => ⟨⟨nu25, rfl, ⟨ok, trivial, kp30, kp31⟩, by first | (subst ht; exact hP) | (rw [ht]; exact hP) | (show va_P (dC, dI) vwCl (wR 21 ad (EM cs ad) nu25) t.heap; rw [ht]; exact hP)⟩, hS.F ht⟩) hS.2.2 dX12_hadOn_67
  · have c_5 : y4.toInt = 0 := il_eq c_5
    refine lv_aload_n hx hb dX12_hadOn_19 rfl (lv_at hl 0 rfl) ?_
    refine lv_aload_n hx hb dX12_hadOn_20 rfl (lv_at hl 0 rfl) ?_
    refine va_get (D := (dC, dI)) (ci := 12) (v := .ref (ad 17)) (C := RX12) (T := TX12) (N := 46) hx hb hts inG12 hown hK hP 0 (gM_0 cs ad mu) rfl 27 (by decide) (hts _ (List.mem_cons_of_mem _ mw_5_68)) (fun _ h9 => h9) rfl dX12_hadOn_21 ?_
    refine lv_iload_n hx hb dX12_hadOn_24 rfl (lv_at hl 2 rfl) ?_
    have hFc := fr_all (wR_D mu hD) hS hA
    refine va_callv (va_runV (As := [.ref (ad 17), .int 7]) (rest := []) ⟨hx, hb, hml, hown, hts⟩ (sm_copyRoute17 l dC dI cs ad mu ok s.heap hP ((wR_D mu hD).weaken (fun _ _ _ _ => trivial)) 7 (by have h51 : (7 : Int32).toInt = 7 := rfl; omega)) (cwV 2 hts (wU_V mw_6_191 mw_6_188 mw_6_190 mw_0_57 mw_1_13) rfl rfl rfl (by decide +kernel) ⟨Nat.le_of_ble_eq_true rfl, Nat.le_of_ble_eq_true rfl⟩) ⟨sz_c, va_recv hK hP (ci := 12) (q0 := 0) rfl (gM_0 cs ad mu), sz_m hK hz⟩ rfl rfl hl.1 rfl (lv_room (Nat.le_of_ble_eq_true rfl)) dX12_hadOn_25 ⟨Nat.zero_le _, Nat.zero_le _⟩) hS (fun q _ h => hFc q h) hFc (fun xi33 t H33 locs ht hvm hw33 hB hz1 hk1 hS => ?_)
    have hP : va_P (dC, dI) vwCl (wR 21 ad (EM cs ad) xi33) H33 := by rw [← ht]; exact hB
    obtain ⟨ok, hw33, hkp33_0, hkp33_1⟩ := hw33
    have ez34 : y1 = xi33 2 vr.toNatClampNeg := ey1.trans (congrFun (hkp33_0 2 (by decide) (by decide)) vr.toNatClampNeg).symm
    have ez35 : y4 = xi33 0 42 := ey4.trans (congrFun (hkp33_0 0 (by decide) (by decide)) 42).symm
    have kp36 : ∀ k : Nat, 2 ≤ k → k < 3 → xi33 k = mu k := fun k h1 h2 => (hkp33_0 k (Nat.le_trans (by decide) h1) (Nat.lt_of_lt_of_le h2 (by decide))).trans ((fun _ _ _ => rfl) k h1 h2)
    have kp37 : (∀ k f : Nat, Nat.testBit 510 (gpM k f) = true → xi33 k f = mu k f) := kp_t hkp33_1 (by decide) (fun _ _ _ => rfl)
    refine lv_aload_n hx hb dX12_hadOn_28 rfl (lv_at hl 0 rfl) ?_
    refine lv_dup hx hb dX12_hadOn_29 rfl ?_
    refine va_get (D := (dC, dI)) (ci := 12) (v := .int (xi33 0 42)) (C := RX12) (T := TX12) (N := 46) hx hb hts inG12 hown hK hP 0 (gM_0 cs ad xi33) rfl 42 (by decide) (hts _ (List.mem_cons_of_mem _ mw_5_83)) (fun _ h9 => h9) rfl dX12_hadOn_30 ?_
    refine lq_i y4 ez35.symm ?_
    refine lv_iconst (v := 1) hx hb dX12_hadOn_33 (by decide) ?_
    refine lv_iadd hx hb dX12_hadOn_34 ?_
    refine lv_topi (fun t38 et38 => ?_)
    have at38 : t38.toInt = y4.toInt + 1 := by rw [et38]; exact tI_add (rfl : y4.toInt = _) (rfl : (1 : Int32).toInt = 1) (by omega) (by omega)
    refine va_put (D := (dC, dI)) (ci := 12) (v := .int t38) (ty := .int) (C := RX12) (T := TX12) (N := 46) hx hb hts inG12 tyX12 tyX12_ok nmX12 hown hK hP (wR_D xi33 hD) hS 0 (gM_0 cs ad xi33) rfl 42 (by decide) (hts _ (List.mem_cons_of_mem _ mw_5_83)) (fun _ h9 => h9) rfl (by decide +kernel) rfl rfl (Nat.le_of_ble_eq_true rfl) dX12_hadOn_35 (fun H locs hP _ hS => ?_)
    simp only [List.set_cons_succ, List.set_cons_zero] at hP
    refine wr_gen (upd (xi33 0) 42 t38) hP ((hM_0_42 cs ad _ _)) (fun nu39 hn39 hP => ?_)
    have ok := tM_0_42 ok hn39
    have ez40 : y1 = nu39 2 vr.toNatClampNeg := ez34.trans (congrFun (up_k hn39 (by decide)) vr.toNatClampNeg).symm
    have kp41 : ∀ k : Nat, 2 ≤ k → k < 3 → nu39 k = mu k := fun k h1 h2 => (up_k hn39 (ne_lo (by decide) h1).symm).trans (kp36 k h1 h2)
    have kp42 : (∀ k f : Nat, Nat.testBit 510 (gpM k f) = true → nu39 k f = mu k f) := kp_f hn39 (by decide) kp37
    have ez43 : t38 = nu39 0 42 := up_v hn39
    refine lv_aload_n hx hb dX12_hadOn_38 rfl (lv_at hl 0 rfl) ?_
    refine lv_dup hx hb dX12_hadOn_39 rfl ?_
    refine va_get (D := (dC, dI)) (ci := 12) (v := .int (nu39 0 43)) (C := RX12) (T := TX12) (N := 46) hx hb hts inG12 hown hK hP 0 (gM_0 cs ad nu39) rfl 43 (by decide) (hts _ (List.mem_cons_of_mem _ mw_5_84)) (fun _ h9 => h9) rfl dX12_hadOn_40 ?_
    refine lv_topi (fun y44 ey44 => ?_)
    have by44 : y44.toInt = (nu39 0 43).toInt := congrArg Int32.toInt ey44
    refine lv_iconst (v := 1) hx hb dX12_hadOn_43 (by decide) ?_
    refine lv_aload_n hx hb dX12_hadOn_44 rfl (lv_at hl 0 rfl) ?_
    refine va_get (D := (dC, dI)) (ci := 12) (v := .ref (ad 16)) (C := RX12) (T := TX12) (N := 46) hx hb hts inG12 hown hK hP 0 (gM_0 cs ad nu39) rfl 26 (by decide) (hts _ (List.mem_cons_of_mem _ mw_5_67)) (fun _ h9 => h9) rfl dX12_hadOn_45 ?_
    refine lv_iload_n hx hb dX12_hadOn_48 rfl (lv_at hl 2 rfl) ?_
    refine lv_iconst (v := 1) hx hb dX12_hadOn_49 (by decide) ?_
    refine lv_isub hx hb dX12_hadOn_50 ?_
    refine lq_i 6 (by decide) ?_
    refine va_iald hx hb hK hP 16 0 (gM_16 cs ad nu39) rfl (show vp_in 6 7 from (by unfold vp_in; decide)) dX12_hadOn_51 ?_
    refine lv_topi (fun y45 ey45 => ?_)
    have by45 : y45.toInt = (nu39 16 (6 : Int32).toNatClampNeg).toInt := congrArg Int32.toInt ey45
    have gy45 : 0 ≤ y45.toInt ∧ y45.toInt ≤ 6 := by rw [ey45]; exact rM_16_s ok (6 : Int32).toNatClampNeg
    refine lv_ishl hx hb dX12_hadOn_52 ?_
    refine lv_topi (fun t46 et46 => ?_)
    refine lv_ior hx hb dX12_hadOn_53 ?_
    refine lv_topi (fun t47 et47 => ?_)
    refine va_put (D := (dC, dI)) (ci := 12) (v := .int t47) (ty := .int) (C := RX12) (T := TX12) (N := 46) hx hb hts inG12 tyX12 tyX12_ok nmX12 hown hK hP (wR_D nu39 hD) hS 0 (gM_0 cs ad nu39) rfl 43 (by decide) (hts _ (List.mem_cons_of_mem _ mw_5_84)) (fun _ h9 => h9) rfl (by decide +kernel) rfl rfl (Nat.le_of_ble_eq_true rfl) dX12_hadOn_54 (fun H locs hP _ hS => ?_)
    simp only [List.set_cons_succ, List.set_cons_zero] at hP
    refine wr_gen (upd (nu39 0) 43 t47) hP ((hM_0_43 cs ad _ _)) (fun nu48 hn48 hP => ?_)
    have ok := tM_0_43 ok hn48
    have ez49 : y1 = nu48 2 vr.toNatClampNeg := ez40.trans (congrFun (up_k hn48 (by decide)) vr.toNatClampNeg).symm
    have ez50 : t38 = nu48 0 42 := ez43.trans (up_f hn48 (by decide)).symm
    have ez51 : y45 = nu48 16 (6 : Int32).toNatClampNeg := ey45.trans (congrFun (up_k hn48 (by decide)) (6 : Int32).toNatClampNeg).symm
    have kp52 : ∀ k : Nat, 2 ≤ k → k < 3 → nu48 k = mu k := fun k h1 h2 => (up_k hn48 (ne_lo (by decide) h1).symm).trans (kp41 k h1 h2)
    have kp53 : (∀ k f : Nat, Nat.testBit 510 (gpM k f) = true → nu48 k f = mu k f) := kp_f hn48 (by decide) kp42
    have ez54 : t47 = nu48 0 43 := up_v hn48
    refine lv_aload_n hx hb dX12_hadOn_57 rfl (lv_at hl 0 rfl) ?_
    refine lv_dup hx hb dX12_hadOn_58 rfl ?_
    refine va_get (D := (dC, dI)) (ci := 12) (v := .int (nu48 0 44)) (C := RX12) (T := TX12) (N := 46) hx hb hts inG12 hown hK hP 0 (gM_0 cs ad nu48) rfl 44 (by decide) (hts _ (List.mem_cons_of_mem _ mw_5_85)) (fun _ h9 => h9) rfl dX12_hadOn_59 ?_
    refine lv_topi (fun y55 ey55 => ?_)
    have by55 : y55.toInt = (nu48 0 44).toInt := congrArg Int32.toInt ey55
    refine lv_iload_n hx hb dX12_hadOn_62 rfl (lv_at hl 3 rfl) ?_
    refine lv_iand hx hb dX12_hadOn_63 ?_
    refine lv_topi (fun t56 et56 => ?_)
    refine va_put (D := (dC, dI)) (ci := 12) (v := .int t56) (ty := .int) (C := RX12) (T := TX12) (N := 46) hx hb hts inG12 tyX12 tyX12_ok nmX12 hown hK hP (wR_D nu48 hD) hS 0 (gM_0 cs ad nu48) rfl 44 (by decide) (hts _ (List.mem_cons_of_mem _ mw_5_85)) (fun _ h9 => h9) rfl (by decide +kernel) rfl rfl (Nat.le_of_ble_eq_true rfl) dX12_hadOn_64 (fun H locs hP _ hS => ?_)
    simp only [List.set_cons_succ, List.set_cons_zero] at hP
    refine wr_gen (upd (nu48 0) 44 t56) hP ((hM_0_44 cs ad _ _)) (fun nu57 hn57 hP => ?_)
    have ok := tM_0_44 ok hn57
    have ez58 : y1 = nu57 2 vr.toNatClampNeg := ez49.trans (congrFun (up_k hn57 (by decide)) vr.toNatClampNeg).symm
    have ez59 : t38 = nu57 0 42 := ez50.trans (up_f hn57 (by decide)).symm
    have ez60 : y45 = nu57 16 (6 : Int32).toNatClampNeg := ez51.trans (congrFun (up_k hn57 (by decide)) (6 : Int32).toNatClampNeg).symm
    have ez61 : t47 = nu57 0 43 := ez54.trans (up_f hn57 (by decide)).symm
    have kp62 : ∀ k : Nat, 2 ≤ k → k < 3 → nu57 k = mu k := fun k h1 h2 => (up_k hn57 (ne_lo (by decide) h1).symm).trans (kp52 k h1 h2)
    have kp63 : (∀ k f : Nat, Nat.testBit 510 (gpM k f) = true → nu57 k f = mu k f) := kp_f hn57 (by decide) kp53
    have ez64 : t56 = nu57 0 44 := up_v hn57
    exact W.vret hx hb hr (fun t ht hW => ⟨⟨nu57, rfl, ⟨ok, trivial, kp62, kp63⟩, by first | (subst ht; exact hP) | (rw [ht]; exact hP) | (show va_P (dC, dI) vwCl (wR 21 ad (EM cs ad) nu57) t.heap; rw [ht]; exact hP)⟩, hS.F ht⟩) hS.2.2 dX12_hadOn_67
