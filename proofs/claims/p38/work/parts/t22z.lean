set_option maxHeartbeats 4000000 in
set_option maxRecDepth 100000 in
/-- sm_hadOn7 -/
theorem sm_hadOn7 (l : Launch) (dC : Nat → ClassId) (dI : Nat → Nat → Nat) (cs : Nat → ClassId) (ad : Nat → Nat) (mu : Nat → Nat → Int32) (ok : okR loM hiM mu) (H : Heap) (hP : va_P (dC, dI) vwCl (wR 21 ad (EM cs ad) mu) H) (hD0 : va_D (fun _ => True) (wR 21 ad (EM cs ad) mu)) (vr : Int32) (vh : Int32) (vp : Int32) (hin0 : 0 ≤ vr.toInt ∧ vr.toInt ≤ 5) (hin1 : 7 ≤ (mu 2 vr.toNatClampNeg).toInt + 1 ∧ (mu 2 vr.toNatClampNeg).toInt ≤ 6) : Met l yX12_hadOn (wU yX12_hadOn cX12_hadOn 10 none) ({ frames := 1, cells := 0, slots := 0, locals := 23 }) (va_Pc [.ref (ad 0), .int vr, .int 7, .int vh, .int vp] (sz_P (dC, dI) vwCl (tyM cs) H)) (va_Qv (fun (xi : Nat → Nat → Int32) => okR loM hiM xi ∧ (True) ∧ (∀ k : Nat, 2 ≤ k → k < 3 → xi k = mu k) ∧ (∀ k f : Nat, Nat.testBit 510 (gpM k f) = true → xi k f = mu k f)) (fun xi t => va_P (dC, dI) vwCl (wR 21 ad (EM cs ad) xi) t.heap) (va_A (wR 21 ad (EM cs ad) mu) H.size)) 0 0 (va_A (wR 21 ad (EM cs ad) mu) H.size) := by
  refine Met.ofW (cc := cX12_hadOn) (maxL := 10) (ret := none) (by decide) rfl ?_
  intro p e s m args below meth c s₁ B hml hv
  obtain ⟨rfl, hh, hK, hz⟩ := hv
  have hx := B.exec
  have hb := B.bytes
  have hr := B.returns
  have hts := atoms_spec (ws := (wU yX12_hadOn cX12_hadOn 10 none)) B.pre
  have hown : s.vm.findClass RX12 = some m.cls := findClass_of_methodNamed B.named
  have hlocks := B.notSynchronized
  subst hh
  have hD := hD0.self (sz := s.heap.size)
  have hA : ∀ q : Nat, s.heap.size ≤ q → (va_A (wR 21 ad (EM cs ad) mu) s.heap.size) q := fun q h => Or.inr h
  have hS : va_S (va_A (wR 21 ad (EM cs ad) mu) s.heap.size) s.heap s.heap [] := va_S.rf
  have hl := lv_entry ([.ref (ad 0), .int vr, .int 7, .int vh, .int vp]) (n := 10) (Nat.le_of_ble_eq_true rfl)
  rw [lg_entry_eq]
  generalize (lg_sl ([.ref (ad 0), .int vr, .int 7, .int vh, .int vp]) ++ List.replicate (10 - (lg_sl ([.ref (ad 0), .int vr, .int 7, .int vh, .int vp])).length) Slot.unset).toArray = ls at hl ⊢
  have hl : lv_has ls 10 [(0, .ref (ad 0)), (1, .int vr), (2, .int 7), (3, .int vh), (4, .int vp)] := hl
  refine lv_iload_n hx hb dX12_hadOn_0 rfl (lv_at hl 2 rfl) ?_
  refine lv_aload_n hx hb dX12_hadOn_1 rfl (lv_at hl 0 rfl) ?_
  refine va_get (D := (dC, dI)) (ci := 12) (v := .ref (ad 2)) (C := RX12) (T := TX12) (N := 46) hx hb hts inG12 hown hK hP 0 (gM_0 cs ad mu) rfl 3 (by decide) (hts _ (List.mem_cons_of_mem _ mw_5_44)) (fun _ h9 => h9) rfl dX12_hadOn_2 ?_
  refine lv_iload_n hx hb dX12_hadOn_5 rfl (lv_at hl 1 rfl) ?_
  refine va_iald hx hb hK hP 2 0 (gM_2 cs ad mu) rfl (show vp_in vr 6 from vi_of (by omega) (by omega)) dX12_hadOn_6 ?_
  refine lv_topi (fun y1 ey1 => ?_)
  have by1 : y1.toInt = (mu 2 vr.toNatClampNeg).toInt := congrArg Int32.toInt ey1
  have gy1 : -9 ≤ y1.toInt ∧ y1.toInt ≤ 40 := by rw [ey1]; exact rM_2_s ok vr.toNatClampNeg
  refine lv_iconst (v := 1) hx hb dX12_hadOn_7 (by decide) ?_
  refine lv_iadd hx hb dX12_hadOn_8 ?_
  refine lv_topi (fun t2 et2 => ?_)
  have at2 : t2.toInt = y1.toInt + 1 := by rw [et2]; exact va1 (by omega)
  refine lv_icmp_ne (tgt := 68) hx hb dX12_hadOn_9 (by decide) (fun c_3 => by have c_3 : ¬ 7 = t2.toInt := il_ne c_3; exfalso; omega) (fun c_3 => ?_)
  have c_3 : 7 = t2.toInt := il_eq c_3
  refine lv_aload_n hx hb dX12_hadOn_12 rfl (lv_at hl 0 rfl) ?_
  refine va_get (D := (dC, dI)) (ci := 12) (v := .int (mu 0 42)) (C := RX12) (T := TX12) (N := 46) hx hb hts inG12 hown hK hP 0 (gM_0 cs ad mu) rfl 42 (by decide) (hts _ (List.mem_cons_of_mem _ mw_5_83)) (fun _ h9 => h9) rfl dX12_hadOn_13 ?_
  refine lv_topi (fun y4 ey4 => ?_)
  have by4 : y4.toInt = (mu 0 42).toInt := congrArg Int32.toInt ey4
  refine lv_if_ne (tgt := 28) hx hb dX12_hadOn_16 (by decide) (fun c_5 => ?_) (fun c_5 => ?_)
  · have c_5 : ¬ y4.toInt = 0 := il_ne c_5
    refine lv_aload_n hx hb dX12_hadOn_28 rfl (lv_at hl 0 rfl) ?_
    refine lv_dup hx hb dX12_hadOn_29 rfl ?_
    refine va_get (D := (dC, dI)) (ci := 12) (v := .int (mu 0 42)) (C := RX12) (T := TX12) (N := 46) hx hb hts inG12 hown hK hP 0 (gM_0 cs ad mu) rfl 42 (by decide) (hts _ (List.mem_cons_of_mem _ mw_5_83)) (fun _ h9 => h9) rfl dX12_hadOn_30 ?_
    refine lq_i y4 ey4.symm ?_
    refine lv_iconst (v := 1) hx hb dX12_hadOn_33 (by decide) ?_
    refine lv_iadd hx hb dX12_hadOn_34 ?_
    refine lv_topi (fun t6 et6 => ?_)
    refine va_put (D := (dC, dI)) (ci := 12) (v := .int t6) (ty := .int) (C := RX12) (T := TX12) (N := 46) hx hb hts inG12 tyX12 tyX12_ok nmX12 hown hK hP (wR_D mu hD) hS 0 (gM_0 cs ad mu) rfl 42 (by decide) (hts _ (List.mem_cons_of_mem _ mw_5_83)) (fun _ h9 => h9) rfl (by decide +kernel) rfl rfl (Nat.le_of_ble_eq_true rfl) dX12_hadOn_35 (fun H locs hP _ hS => ?_)
    simp only [List.set_cons_succ, List.set_cons_zero] at hP
    refine wr_gen (upd (mu 0) 42 t6) hP ((hM_0_42 cs ad _ _)) (fun nu7 hn7 hP => ?_)
    have ok := tM_0_42 ok hn7
    have ez8 : y1 = nu7 2 vr.toNatClampNeg := ey1.trans (congrFun (up_k hn7 (by decide)) vr.toNatClampNeg).symm
    have kp9 : ∀ k : Nat, 2 ≤ k → k < 3 → nu7 k = mu k := fun k h1 h2 => (up_k hn7 (ne_lo (by decide) h1).symm).trans ((fun _ _ _ => rfl) k h1 h2)
    have kp10 : (∀ k f : Nat, Nat.testBit 510 (gpM k f) = true → nu7 k f = mu k f) := kp_f hn7 (by decide) (fun _ _ _ => rfl)
    have ez11 : t6 = nu7 0 42 := up_v hn7
    refine lv_aload_n hx hb dX12_hadOn_38 rfl (lv_at hl 0 rfl) ?_
    refine lv_dup hx hb dX12_hadOn_39 rfl ?_
    refine va_get (D := (dC, dI)) (ci := 12) (v := .int (nu7 0 43)) (C := RX12) (T := TX12) (N := 46) hx hb hts inG12 hown hK hP 0 (gM_0 cs ad nu7) rfl 43 (by decide) (hts _ (List.mem_cons_of_mem _ mw_5_84)) (fun _ h9 => h9) rfl dX12_hadOn_40 ?_
    refine lv_topi (fun y12 ey12 => ?_)
    have by12 : y12.toInt = (nu7 0 43).toInt := congrArg Int32.toInt ey12
    refine lv_iconst (v := 1) hx hb dX12_hadOn_43 (by decide) ?_
    refine lv_aload_n hx hb dX12_hadOn_44 rfl (lv_at hl 0 rfl) ?_
    refine va_get (D := (dC, dI)) (ci := 12) (v := .ref (ad 16)) (C := RX12) (T := TX12) (N := 46) hx hb hts inG12 hown hK hP 0 (gM_0 cs ad nu7) rfl 26 (by decide) (hts _ (List.mem_cons_of_mem _ mw_5_67)) (fun _ h9 => h9) rfl dX12_hadOn_45 ?_
    refine lv_iload_n hx hb dX12_hadOn_48 rfl (lv_at hl 2 rfl) ?_
    refine lv_iconst (v := 1) hx hb dX12_hadOn_49 (by decide) ?_
    refine lv_isub hx hb dX12_hadOn_50 ?_
    refine lq_i 6 (by decide) ?_
    refine va_iald hx hb hK hP 16 0 (gM_16 cs ad nu7) rfl (show vp_in 6 7 from (by unfold vp_in; decide)) dX12_hadOn_51 ?_
    refine lv_topi (fun y13 ey13 => ?_)
    have by13 : y13.toInt = (nu7 16 (6 : Int32).toNatClampNeg).toInt := congrArg Int32.toInt ey13
    have gy13 : 0 ≤ y13.toInt ∧ y13.toInt ≤ 6 := by rw [ey13]; exact rM_16_s ok (6 : Int32).toNatClampNeg
    refine lv_ishl hx hb dX12_hadOn_52 ?_
    refine lv_topi (fun t14 et14 => ?_)
    refine lv_ior hx hb dX12_hadOn_53 ?_
    refine lv_topi (fun t15 et15 => ?_)
    refine va_put (D := (dC, dI)) (ci := 12) (v := .int t15) (ty := .int) (C := RX12) (T := TX12) (N := 46) hx hb hts inG12 tyX12 tyX12_ok nmX12 hown hK hP (wR_D nu7 hD) hS 0 (gM_0 cs ad nu7) rfl 43 (by decide) (hts _ (List.mem_cons_of_mem _ mw_5_84)) (fun _ h9 => h9) rfl (by decide +kernel) rfl rfl (Nat.le_of_ble_eq_true rfl) dX12_hadOn_54 (fun H locs hP _ hS => ?_)
    simp only [List.set_cons_succ, List.set_cons_zero] at hP
    refine wr_gen (upd (nu7 0) 43 t15) hP ((hM_0_43 cs ad _ _)) (fun nu16 hn16 hP => ?_)
    have ok := tM_0_43 ok hn16
    have ez17 : y1 = nu16 2 vr.toNatClampNeg := ez8.trans (congrFun (up_k hn16 (by decide)) vr.toNatClampNeg).symm
    have ez18 : t6 = nu16 0 42 := ez11.trans (up_f hn16 (by decide)).symm
    have ez19 : y13 = nu16 16 (6 : Int32).toNatClampNeg := ey13.trans (congrFun (up_k hn16 (by decide)) (6 : Int32).toNatClampNeg).symm
    have kp20 : ∀ k : Nat, 2 ≤ k → k < 3 → nu16 k = mu k := fun k h1 h2 => (up_k hn16 (ne_lo (by decide) h1).symm).trans (kp9 k h1 h2)
    have kp21 : (∀ k f : Nat, Nat.testBit 510 (gpM k f) = true → nu16 k f = mu k f) := kp_f hn16 (by decide) kp10
    have ez22 : t15 = nu16 0 43 := up_v hn16
    refine lv_aload_n hx hb dX12_hadOn_57 rfl (lv_at hl 0 rfl) ?_
    refine lv_dup hx hb dX12_hadOn_58 rfl ?_
    refine va_get (D := (dC, dI)) (ci := 12) (v := .int (nu16 0 44)) (C := RX12) (T := TX12) (N := 46) hx hb hts inG12 hown hK hP 0 (gM_0 cs ad nu16) rfl 44 (by decide) (hts _ (List.mem_cons_of_mem _ mw_5_85)) (fun _ h9 => h9) rfl dX12_hadOn_59 ?_
    refine lv_topi (fun y23 ey23 => ?_)
    have by23 : y23.toInt = (nu16 0 44).toInt := congrArg Int32.toInt ey23
    refine lv_iload_n hx hb dX12_hadOn_62 rfl (lv_at hl 3 rfl) ?_
    refine lv_iand hx hb dX12_hadOn_63 ?_
    refine lv_topi (fun t24 et24 => ?_)
    refine va_put (D := (dC, dI)) (ci := 12) (v := .int t24) (ty := .int) (C := RX12) (T := TX12) (N := 46) hx hb hts inG12 tyX12 tyX12_ok nmX12 hown hK hP (wR_D nu16 hD) hS 0 (gM_0 cs ad nu16) rfl 44 (by decide) (hts _ (List.mem_cons_of_mem _ mw_5_85)) (fun _ h9 => h9) rfl (by decide +kernel) rfl rfl (Nat.le_of_ble_eq_true rfl) dX12_hadOn_64 (fun H locs hP _ hS => ?_)
    simp only [List.set_cons_succ, List.set_cons_zero] at hP
    refine wr_gen (upd (nu16 0) 44 t24) hP ((hM_0_44 cs ad _ _)) (fun nu25 hn25 hP => ?_)
    have ok := tM_0_44 ok hn25
    have ez26 : y1 = nu25 2 vr.toNatClampNeg := ez17.trans (congrFun (up_k hn25 (by decide)) vr.toNatClampNeg).symm
    have ez27 : t6 = nu25 0 42 := ez18.trans (up_f hn25 (by decide)).symm
    have ez28 : y13 = nu25 16 (6 : Int32).toNatClampNeg := ez19.trans (congrFun (up_k hn25 (by decide)) (6 : Int32).toNatClampNeg).symm
    have ez29 : t15 = nu25 0 43 := ez22.trans (up_f hn25 (by decide)).symm
    have kp30 : ∀ k : Nat, 2 ≤ k → k < 3 → nu25 k = mu k := fun k h1 h2 => (up_k hn25 (ne_lo (by decide) h1).symm).trans (kp20 k h1 h2)
    have kp31 : (∀ k f : Nat, Nat.testBit 510 (gpM k f) = true → nu25 k f = mu k f) := kp_f hn25 (by decide) kp21
    have ez32 : t24 = nu25 0 44 := up_v hn25
    exact W.vret hx hb hr (fun t ht hW => ⟨⟨nu25, rfl, ⟨ok, trivial, kp30, kp31⟩, by first | (subst ht; exact hP) | (rw [ht]; exact hP) | (show va_P (dC, dI) vwCl (wR 21 ad (EM cs ad) nu25) t.heap; rw [ht]; exact hP)⟩, hS.F ht⟩) hS.2.2 dX12_hadOn_67
  · have c_5 : y4.toInt = 0 := il_eq c_5
    refine lv_aload_n hx hb dX12_hadOn_19 rfl (lv_at hl 0 rfl) ?_
    refine lv_aload_n hx hb dX12_hadOn_20 rfl (lv_at hl 0 rfl) ?_
    refine va_get (D := (dC, dI)) (ci := 12) (v := .ref (ad 17)) (C := RX12) (T := TX12) (N := 46) hx hb hts inG12 hown hK hP 0 (gM_0 cs ad mu) rfl 27 (by decide) (hts _ (List.mem_cons_of_mem _ mw_5_68)) (fun _ h9 => h9) rfl dX12_hadOn_21 ?_
    refine lv_iload_n hx hb dX12_hadOn_24 rfl (lv_at hl 2 rfl) ?_
    have hFc := fr_all (wR_D mu hD) hS hA
    refine va_callv (va_runV (As := [.ref (ad 17), .int 7]) (rest := []) ⟨hx, hb, hml, hown, hts⟩ (sm_copyRoute17 l dC dI cs ad mu ok s.heap hP ((wR_D mu hD).weaken (fun _ _ _ _ => trivial)) 7 (by have h51 : (7 : Int32).toInt = 7 := rfl; omega)) (cwV 2 hts (wU_V mw_6_191 mw_6_188 mw_6_190 mw_0_57 mw_1_13) rfl rfl rfl (by decide +kernel) ⟨Nat.le_of_ble_eq_true rfl, Nat.le_of_ble_eq_true rfl⟩) ⟨sz_c, va_recv hK hP (ci := 12) (q0 := 0) rfl (gM_0 cs ad mu), sz_m hK hz⟩ rfl rfl hl.1 rfl (lv_room (Nat.le_of_ble_eq_true rfl)) dX12_hadOn_25 ⟨Nat.zero_le _, Nat.zero_le _⟩) hS (fun q _ h => hFc q h) hFc (fun xi33 t H33 locs ht hvm hw33 hB hz1 hk1 hS => ?_)
    have hP : va_P (dC, dI) vwCl (wR 21 ad (EM cs ad) xi33) H33 := by rw [← ht]; exact hB
    obtain ⟨hfe33, ok, hw33, hkp33_0, hkp33_1⟩ := hw33
    have ez34 : y1 = xi33 2 vr.toNatClampNeg := ey1.trans (congrFun (hkp33_0 2 (by decide) (by decide)) vr.toNatClampNeg).symm
    have ez35 : y4 = xi33 0 42 := ey4.trans (congrFun (hkp33_0 0 (by decide) (by decide)) 42).symm
    have kp36 : ∀ k : Nat, 2 ≤ k → k < 3 → xi33 k = mu k := fun k h1 h2 => (hkp33_0 k (Nat.le_trans (by decide) h1) (Nat.lt_of_lt_of_le h2 (by decide))).trans ((fun _ _ _ => rfl) k h1 h2)
    have kp37 : (∀ k f : Nat, Nat.testBit 510 (gpM k f) = true → xi33 k f = mu k f) := kp_t hkp33_1 (by decide) (fun _ _ _ => rfl)
    refine lv_aload_n hx hb dX12_hadOn_28 rfl (lv_at hl 0 rfl) ?_
    refine lv_dup hx hb dX12_hadOn_29 rfl ?_
    refine va_get (D := (dC, dI)) (ci := 12) (v := .int (xi33 0 42)) (C := RX12) (T := TX12) (N := 46) hx hb hts inG12 hown hK hP 0 (gM_0 cs ad xi33) rfl 42 (by decide) (hts _ (List.mem_cons_of_mem _ mw_5_83)) (fun _ h9 => h9) rfl dX12_hadOn_30 ?_
    refine lq_i y4 ez35.symm ?_
    refine lv_iconst (v := 1) hx hb dX12_hadOn_33 (by decide) ?_
    refine lv_iadd hx hb dX12_hadOn_34 ?_
    refine lv_topi (fun t38 et38 => ?_)
    have at38 : t38.toInt = y4.toInt + 1 := by rw [et38]; exact va1 (by omega)
    refine va_put (D := (dC, dI)) (ci := 12) (v := .int t38) (ty := .int) (C := RX12) (T := TX12) (N := 46) hx hb hts inG12 tyX12 tyX12_ok nmX12 hown hK hP (wR_D xi33 hD) hS 0 (gM_0 cs ad xi33) rfl 42 (by decide) (hts _ (List.mem_cons_of_mem _ mw_5_83)) (fun _ h9 => h9) rfl (by decide +kernel) rfl rfl (Nat.le_of_ble_eq_true rfl) dX12_hadOn_35 (fun H locs hP _ hS => ?_)
    simp only [List.set_cons_succ, List.set_cons_zero] at hP
    refine wr_gen (upd (xi33 0) 42 t38) hP ((hM_0_42 cs ad _ _)) (fun nu39 hn39 hP => ?_)
    have ok := tM_0_42 ok hn39
    have ez40 : y1 = nu39 2 vr.toNatClampNeg := ez34.trans (congrFun (up_k hn39 (by decide)) vr.toNatClampNeg).symm
    have kp41 : ∀ k : Nat, 2 ≤ k → k < 3 → nu39 k = mu k := fun k h1 h2 => (up_k hn39 (ne_lo (by decide) h1).symm).trans (kp36 k h1 h2)
    have kp42 : (∀ k f : Nat, Nat.testBit 510 (gpM k f) = true → nu39 k f = mu k f) := kp_f hn39 (by decide) kp37
    have ez43 : t38 = nu39 0 42 := up_v hn39
    refine lv_aload_n hx hb dX12_hadOn_38 rfl (lv_at hl 0 rfl) ?_
    refine lv_dup hx hb dX12_hadOn_39 rfl ?_
    refine va_get (D := (dC, dI)) (ci := 12) (v := .int (nu39 0 43)) (C := RX12) (T := TX12) (N := 46) hx hb hts inG12 hown hK hP 0 (gM_0 cs ad nu39) rfl 43 (by decide) (hts _ (List.mem_cons_of_mem _ mw_5_84)) (fun _ h9 => h9) rfl dX12_hadOn_40 ?_
    refine lv_topi (fun y44 ey44 => ?_)
    have by44 : y44.toInt = (nu39 0 43).toInt := congrArg Int32.toInt ey44
    refine lv_iconst (v := 1) hx hb dX12_hadOn_43 (by decide) ?_
    refine lv_aload_n hx hb dX12_hadOn_44 rfl (lv_at hl 0 rfl) ?_
    refine va_get (D := (dC, dI)) (ci := 12) (v := .ref (ad 16)) (C := RX12) (T := TX12) (N := 46) hx hb hts inG12 hown hK hP 0 (gM_0 cs ad nu39) rfl 26 (by decide) (hts _ (List.mem_cons_of_mem _ mw_5_67)) (fun _ h9 => h9) rfl dX12_hadOn_45 ?_
    refine lv_iload_n hx hb dX12_hadOn_48 rfl (lv_at hl 2 rfl) ?_
    refine lv_iconst (v := 1) hx hb dX12_hadOn_49 (by decide) ?_
    refine lv_isub hx hb dX12_hadOn_50 ?_
    refine lq_i 6 (by decide) ?_
    refine va_iald hx hb hK hP 16 0 (gM_16 cs ad nu39) rfl (show vp_in 6 7 from (by unfold vp_in; decide)) dX12_hadOn_51 ?_
    refine lv_topi (fun y45 ey45 => ?_)
    have by45 : y45.toInt = (nu39 16 (6 : Int32).toNatClampNeg).toInt := congrArg Int32.toInt ey45
    have gy45 : 0 ≤ y45.toInt ∧ y45.toInt ≤ 6 := by rw [ey45]; exact rM_16_s ok (6 : Int32).toNatClampNeg
    refine lv_ishl hx hb dX12_hadOn_52 ?_
    refine lv_topi (fun t46 et46 => ?_)
    refine lv_ior hx hb dX12_hadOn_53 ?_
    refine lv_topi (fun t47 et47 => ?_)
    refine va_put (D := (dC, dI)) (ci := 12) (v := .int t47) (ty := .int) (C := RX12) (T := TX12) (N := 46) hx hb hts inG12 tyX12 tyX12_ok nmX12 hown hK hP (wR_D nu39 hD) hS 0 (gM_0 cs ad nu39) rfl 43 (by decide) (hts _ (List.mem_cons_of_mem _ mw_5_84)) (fun _ h9 => h9) rfl (by decide +kernel) rfl rfl (Nat.le_of_ble_eq_true rfl) dX12_hadOn_54 (fun H locs hP _ hS => ?_)
    simp only [List.set_cons_succ, List.set_cons_zero] at hP
    refine wr_gen (upd (nu39 0) 43 t47) hP ((hM_0_43 cs ad _ _)) (fun nu48 hn48 hP => ?_)
    have ok := tM_0_43 ok hn48
    have ez49 : y1 = nu48 2 vr.toNatClampNeg := ez40.trans (congrFun (up_k hn48 (by decide)) vr.toNatClampNeg).symm
    have ez50 : t38 = nu48 0 42 := ez43.trans (up_f hn48 (by decide)).symm
    have ez51 : y45 = nu48 16 (6 : Int32).toNatClampNeg := ey45.trans (congrFun (up_k hn48 (by decide)) (6 : Int32).toNatClampNeg).symm
    have kp52 : ∀ k : Nat, 2 ≤ k → k < 3 → nu48 k = mu k := fun k h1 h2 => (up_k hn48 (ne_lo (by decide) h1).symm).trans (kp41 k h1 h2)
    have kp53 : (∀ k f : Nat, Nat.testBit 510 (gpM k f) = true → nu48 k f = mu k f) := kp_f hn48 (by decide) kp42
    have ez54 : t47 = nu48 0 43 := up_v hn48
    refine lv_aload_n hx hb dX12_hadOn_57 rfl (lv_at hl 0 rfl) ?_
    refine lv_dup hx hb dX12_hadOn_58 rfl ?_
    refine va_get (D := (dC, dI)) (ci := 12) (v := .int (nu48 0 44)) (C := RX12) (T := TX12) (N := 46) hx hb hts inG12 hown hK hP 0 (gM_0 cs ad nu48) rfl 44 (by decide) (hts _ (List.mem_cons_of_mem _ mw_5_85)) (fun _ h9 => h9) rfl dX12_hadOn_59 ?_
    refine lv_topi (fun y55 ey55 => ?_)
    have by55 : y55.toInt = (nu48 0 44).toInt := congrArg Int32.toInt ey55
    refine lv_iload_n hx hb dX12_hadOn_62 rfl (lv_at hl 3 rfl) ?_
    refine lv_iand hx hb dX12_hadOn_63 ?_
    refine lv_topi (fun t56 et56 => ?_)
    refine va_put (D := (dC, dI)) (ci := 12) (v := .int t56) (ty := .int) (C := RX12) (T := TX12) (N := 46) hx hb hts inG12 tyX12 tyX12_ok nmX12 hown hK hP (wR_D nu48 hD) hS 0 (gM_0 cs ad nu48) rfl 44 (by decide) (hts _ (List.mem_cons_of_mem _ mw_5_85)) (fun _ h9 => h9) rfl (by decide +kernel) rfl rfl (Nat.le_of_ble_eq_true rfl) dX12_hadOn_64 (fun H locs hP _ hS => ?_)
    simp only [List.set_cons_succ, List.set_cons_zero] at hP
    refine wr_gen (upd (nu48 0) 44 t56) hP ((hM_0_44 cs ad _ _)) (fun nu57 hn57 hP => ?_)
    have ok := tM_0_44 ok hn57
    have ez58 : y1 = nu57 2 vr.toNatClampNeg := ez49.trans (congrFun (up_k hn57 (by decide)) vr.toNatClampNeg).symm
    have ez59 : t38 = nu57 0 42 := ez50.trans (up_f hn57 (by decide)).symm
    have ez60 : y45 = nu57 16 (6 : Int32).toNatClampNeg := ez51.trans (congrFun (up_k hn57 (by decide)) (6 : Int32).toNatClampNeg).symm
    have ez61 : t47 = nu57 0 43 := ez54.trans (up_f hn57 (by decide)).symm
    have kp62 : ∀ k : Nat, 2 ≤ k → k < 3 → nu57 k = mu k := fun k h1 h2 => (up_k hn57 (ne_lo (by decide) h1).symm).trans (kp52 k h1 h2)
    have kp63 : (∀ k f : Nat, Nat.testBit 510 (gpM k f) = true → nu57 k f = mu k f) := kp_f hn57 (by decide) kp53
    have ez64 : t56 = nu57 0 44 := up_v hn57
    exact W.vret hx hb hr (fun t ht hW => ⟨⟨nu57, rfl, ⟨ok, trivial, kp62, kp63⟩, by first | (subst ht; exact hP) | (rw [ht]; exact hP) | (show va_P (dC, dI) vwCl (wR 21 ad (EM cs ad) nu57) t.heap; rw [ht]; exact hP)⟩, hS.F ht⟩) hS.2.2 dX12_hadOn_67
set_option maxHeartbeats 4000000 in
set_option maxRecDepth 100000 in
/-- sm_hadOn6 -/
theorem sm_hadOn6 (l : Launch) (dC : Nat → ClassId) (dI : Nat → Nat → Nat) (cs : Nat → ClassId) (ad : Nat → Nat) (mu : Nat → Nat → Int32) (ok : okR loM hiM mu) (H : Heap) (hP : va_P (dC, dI) vwCl (wR 21 ad (EM cs ad) mu) H) (hD0 : va_D (fun _ => True) (wR 21 ad (EM cs ad) mu)) (vr : Int32) (vh : Int32) (vp : Int32) (hin0 : 0 ≤ vr.toInt ∧ vr.toInt ≤ 5) (hin1 : 6 ≤ (mu 2 vr.toNatClampNeg).toInt + 1 ∧ (mu 2 vr.toNatClampNeg).toInt ≤ 6) : Met l yX12_hadOn (wU yX12_hadOn cX12_hadOn 10 none) ({ frames := 2, cells := 0, slots := 0, locals := 52 }) (va_Pc [.ref (ad 0), .int vr, .int 6, .int vh, .int vp] (sz_P (dC, dI) vwCl (tyM cs) H)) (va_Qv (fun (xi : Nat → Nat → Int32) => okR loM hiM xi ∧ (True) ∧ (∀ k : Nat, 2 ≤ k → k < 3 → xi k = mu k) ∧ (∀ k f : Nat, Nat.testBit 510 (gpM k f) = true → xi k f = mu k f)) (fun xi t => va_P (dC, dI) vwCl (wR 21 ad (EM cs ad) xi) t.heap) (va_A (wR 21 ad (EM cs ad) mu) H.size)) 0 0 (va_A (wR 21 ad (EM cs ad) mu) H.size) := by
  refine Met.ofW (cc := cX12_hadOn) (maxL := 10) (ret := none) (by decide) rfl ?_
  intro p e s m args below meth c s₁ B hml hv
  obtain ⟨rfl, hh, hK, hz⟩ := hv
  have hx := B.exec
  have hb := B.bytes
  have hr := B.returns
  have hts := atoms_spec (ws := (wU yX12_hadOn cX12_hadOn 10 none)) B.pre
  have hown : s.vm.findClass RX12 = some m.cls := findClass_of_methodNamed B.named
  have hlocks := B.notSynchronized
  subst hh
  have hD := hD0.self (sz := s.heap.size)
  have hA : ∀ q : Nat, s.heap.size ≤ q → (va_A (wR 21 ad (EM cs ad) mu) s.heap.size) q := fun q h => Or.inr h
  have hS : va_S (va_A (wR 21 ad (EM cs ad) mu) s.heap.size) s.heap s.heap [] := va_S.rf
  have hl := lv_entry ([.ref (ad 0), .int vr, .int 6, .int vh, .int vp]) (n := 10) (Nat.le_of_ble_eq_true rfl)
  rw [lg_entry_eq]
  generalize (lg_sl ([.ref (ad 0), .int vr, .int 6, .int vh, .int vp]) ++ List.replicate (10 - (lg_sl ([.ref (ad 0), .int vr, .int 6, .int vh, .int vp])).length) Slot.unset).toArray = ls at hl ⊢
  have hl : lv_has ls 10 [(0, .ref (ad 0)), (1, .int vr), (2, .int 6), (3, .int vh), (4, .int vp)] := hl
  refine lv_iload_n hx hb dX12_hadOn_0 rfl (lv_at hl 2 rfl) ?_
  refine lv_aload_n hx hb dX12_hadOn_1 rfl (lv_at hl 0 rfl) ?_
  refine va_get (D := (dC, dI)) (ci := 12) (v := .ref (ad 2)) (C := RX12) (T := TX12) (N := 46) hx hb hts inG12 hown hK hP 0 (gM_0 cs ad mu) rfl 3 (by decide) (hts _ (List.mem_cons_of_mem _ mw_5_44)) (fun _ h9 => h9) rfl dX12_hadOn_2 ?_
  refine lv_iload_n hx hb dX12_hadOn_5 rfl (lv_at hl 1 rfl) ?_
  refine va_iald hx hb hK hP 2 0 (gM_2 cs ad mu) rfl (show vp_in vr 6 from vi_of (by omega) (by omega)) dX12_hadOn_6 ?_
  refine lv_topi (fun y1 ey1 => ?_)
  have by1 : y1.toInt = (mu 2 vr.toNatClampNeg).toInt := congrArg Int32.toInt ey1
  have gy1 : -9 ≤ y1.toInt ∧ y1.toInt ≤ 40 := by rw [ey1]; exact rM_2_s ok vr.toNatClampNeg
  refine lv_iconst (v := 1) hx hb dX12_hadOn_7 (by decide) ?_
  refine lv_iadd hx hb dX12_hadOn_8 ?_
  refine lv_topi (fun t2 et2 => ?_)
  have at2 : t2.toInt = y1.toInt + 1 := by rw [et2]; exact va1 (by omega)
  refine lv_icmp_ne (tgt := 68) hx hb dX12_hadOn_9 (by decide) (fun c_3 => ?_) (fun c_3 => ?_)
  · have c_3 : ¬ 6 = t2.toInt := il_ne c_3
    refine lv_aload_n hx hb dX12_hadOn_68 rfl (lv_at hl 0 rfl) ?_
    refine va_get (D := (dC, dI)) (ci := 12) (v := .ref (ad 16)) (C := RX12) (T := TX12) (N := 46) hx hb hts inG12 hown hK hP 0 (gM_0 cs ad mu) rfl 26 (by decide) (hts _ (List.mem_cons_of_mem _ mw_5_67)) (fun _ h9 => h9) rfl dX12_hadOn_69 ?_
    refine lv_iload_n hx hb dX12_hadOn_72 rfl (lv_at hl 2 rfl) ?_
    refine lv_iconst (v := 1) hx hb dX12_hadOn_73 (by decide) ?_
    refine lv_isub hx hb dX12_hadOn_74 ?_
    refine lq_i 5 (by decide) ?_
    refine va_iald hx hb hK hP 16 0 (gM_16 cs ad mu) rfl (show vp_in 5 7 from (by unfold vp_in; decide)) dX12_hadOn_75 ?_
    refine lv_topi (fun y4 ey4 => ?_)
    have by4 : y4.toInt = (mu 16 (5 : Int32).toNatClampNeg).toInt := congrArg Int32.toInt ey4
    have gy4 : 0 ≤ y4.toInt ∧ y4.toInt ≤ 6 := by rw [ey4]; exact rM_16_s ok (5 : Int32).toNatClampNeg
    refine lv_istore (lv' := [(5, .int y4), (0, .ref (ad 0)), (1, .int vr), (2, .int 6), (3, .int vh), (4, .int vp)]) hx hb dX12_hadOn_76 hl (by decide) rfl (fun ls hl => ?_)
    refine lv_aload_n hx hb dX12_hadOn_78 rfl (lv_at hl 1 rfl) ?_
    refine lv_iload hx hb dX12_hadOn_79 (lv_at hl 0 rfl) ?_
    refine lv_iload hx hb dX12_hadOn_81 (lv_at hl 5 rfl) ?_
    refine cr_i (va_runV (As := [.int y4, .int vp]) (rest := []) ⟨hx, hb, hml, hown, hts⟩ (sm_asksOf l dC dI cs ad mu ok s.heap hP y4 vp (by omega)) (cwV 2 hts (wU_V mw_6_74 mw_6_71 mw_6_73 mw_0_42 mw_1_13) rfl rfl rfl (by decide +kernel) ⟨Nat.le_of_ble_eq_true rfl, Nat.le_of_ble_eq_true rfl⟩) ⟨sz_c, va_recv hK hP (ci := 12) (q0 := 0) rfl (gM_0 cs ad mu), sz_m hK hz⟩ rfl rfl hl.1 rfl (lv_room (Nat.le_of_ble_eq_true rfl)) dX12_hadOn_83 ⟨Nat.zero_le _, Nat.zero_le _⟩) hS (fun r5 hw5 locs hS => ?_)
    obtain ⟨hfe5, hw5⟩ := hw5
    refine lv_istore (lv' := [(6, .int r5), (5, .int y4), (0, .ref (ad 0)), (1, .int vr), (2, .int 6), (3, .int vh), (4, .int vp)]) hx hb dX12_hadOn_86 hl (by decide) rfl (fun ls hl => ?_)
    refine lv_iload hx hb dX12_hadOn_88 (lv_at hl 0 rfl) ?_
    refine lv_aload_n hx hb dX12_hadOn_90 rfl (lv_at hl 2 rfl) ?_
    refine lv_iload_n hx hb dX12_hadOn_91 rfl (lv_at hl 3 rfl) ?_
    refine lv_iload_n hx hb dX12_hadOn_92 rfl (lv_at hl 4 rfl) ?_
    refine lv_iconst (v := 1) hx hb dX12_hadOn_93 (by decide) ?_
    refine lv_isub hx hb dX12_hadOn_94 ?_
    refine lq_i 5 (by decide) ?_
    refine cr_i (va_runV (As := [.int vr, .int 5]) (rest := [.int r5]) ⟨hx, hb, hml, hown, hts⟩ (sm_rowAt l dC dI cs ad mu ok s.heap hP vr 5 (by have h51 : (5 : Int32).toInt = 5 := rfl; omega)) (cwV 2 hts (wU_V mw_5_209 mw_5_206 mw_5_208 mw_0_29 mw_1_13) rfl rfl rfl (by decide +kernel) ⟨Nat.le_of_ble_eq_true rfl, Nat.le_of_ble_eq_true rfl⟩) ⟨sz_c, va_recv hK hP (ci := 12) (q0 := 0) rfl (gM_0 cs ad mu), sz_m hK hz⟩ rfl rfl hl.1 rfl (lv_room (Nat.le_of_ble_eq_true rfl)) dX12_hadOn_95 ⟨Nat.zero_le _, Nat.zero_le _⟩) hS (fun r6 hw6 locs hS => ?_)
    obtain ⟨hfe6, hw6⟩ := hw6
    refine lv_icmp_ne (tgt := 121) hx hb dX12_hadOn_98 (by decide) (fun c_7 => ?_) (fun c_7 => ?_)
    · have c_7 : ¬ r5.toInt = r6.toInt := il_ne c_7
      refine lv_iconst (v := 0) hx hb dX12_hadOn_121 (by decide) ?_
      refine lv_istore (lv' := [(7, .int 0), (6, .int r5), (5, .int y4), (0, .ref (ad 0)), (1, .int vr), (2, .int 6), (3, .int vh), (4, .int vp)]) hx hb dX12_hadOn_122 hl (by decide) rfl (fun ls hl => ?_)
      refine lv_iload hx hb dX12_hadOn_124 (lv_at hl 0 rfl) ?_
      refine lv_if_eq (tgt := 142) hx hb dX12_hadOn_126 (by decide) (fun _ => ?_) (fun c => absurd (by decide) c)
      refine lv_iconst (v := 0) hx hb dX12_hadOn_142 (by decide) ?_
      refine lv_istore (lv' := [(8, .int 0), (7, .int 0), (6, .int r5), (5, .int y4), (0, .ref (ad 0)), (1, .int vr), (2, .int 6), (3, .int vh), (4, .int vp)]) hx hb dX12_hadOn_143 hl (by decide) rfl (fun ls hl => ?_)
      refine lv_iconst (v := 0) hx hb dX12_hadOn_145 (by decide) ?_
      refine lv_istore (lv' := [(9, .int 0), (8, .int 0), (7, .int 0), (6, .int r5), (5, .int y4), (0, .ref (ad 0)), (1, .int vr), (2, .int 6), (3, .int vh), (4, .int vp)]) hx hb dX12_hadOn_146 hl (by decide) rfl (fun ls hl => ?_)
      have loop148 : ∀ (n148 : Nat) (v9_148 : Int32) (nu148_ : Nat → Nat → Int32) (H : Heap) (locs : List Loc) (ls : Array Slot), (7 + 1 - v9_148.toInt).toNat < n148 → (0 ≤ v9_148.toInt ∧ v9_148.toInt ≤ 7) → okR loM hiM nu148_ → va_P (dC, dI) vwCl (wR 21 ad (EM cs ad) nu148_) H → y1 = nu148_ 2 vr.toNatClampNeg → (∀ k : Nat, 2 ≤ k → k < 3 → nu148_ k = mu k) → (∀ k f : Nat, Nat.testBit 510 (gpM k f) = true → nu148_ k f = mu k f) → va_S (va_A (wR 21 ad (EM cs ad) mu) s.heap.size) s.heap H locs → lv_has ls 10 [(9, .int v9_148), (8, .int 0), (7, .int 0), (6, .int r5), (5, .int y4), (0, .ref (ad 0)), (1, .int vr), (2, .int 6), (3, .int vh), (4, .int vp)] → W p l e (headSpec (wU yX12_hadOn cX12_hadOn 10 none) ({ frames := 2, cells := 0, slots := 0, locals := 52 })).room s m ([.ref (ad 0), .int vr, .int 6, .int vh, .int vp] : List Value).toArray below meth c H locs 0 0 (MQ below (va_Qv (fun (xi : Nat → Nat → Int32) => okR loM hiM xi ∧ (True) ∧ (∀ k : Nat, 2 ≤ k → k < 3 → xi k = mu k) ∧ (∀ k f : Nat, Nat.testBit 510 (gpM k f) = true → xi k f = mu k f)) (fun xi t => va_P (dC, dI) vwCl (wR 21 ad (EM cs ad) xi) t.heap) (va_A (wR 21 ad (EM cs ad) mu) s.heap.size)) ([.ref (ad 0), .int vr, .int 6, .int vh, .int vp] : List Value).toArray s 0 0 (va_A (wR 21 ad (EM cs ad) mu) s.heap.size)) (F0 m 148 ls []) := by
        intro n148
        induction n148 with
        | zero => intro v9_148 nu148_ H locs ls hm; exact absurd hm (Nat.not_lt_zero _)
        | succ n148 ih148 =>
          intro v9_148 nu148_ H locs ls hm_148 h_v9_148 ok hP ek148_0 kq148_0 kq148_1 hS hl
          refine lv_iload hx hb dX12_hadOn_148 (lv_at hl 0 rfl) ?_
          refine lv_aload_n hx hb dX12_hadOn_150 rfl (lv_at hl 5 rfl) ?_
          refine va_get (D := (dC, dI)) (ci := 12) (v := .int (nu148_ 0 8)) (C := RX12) (T := TX12) (N := 46) hx hb hts inG12 hown hK hP 0 (gM_0 cs ad nu148_) rfl 8 (by decide) (hts _ (List.mem_cons_of_mem _ mw_5_49)) (fun _ h9 => h9) rfl dX12_hadOn_151 ?_
          refine lv_topi (fun y8 ey8 => ?_)
          have by8 : y8.toInt = (nu148_ 0 8).toInt := congrArg Int32.toInt ey8
          have gy8 : 0 ≤ y8.toInt ∧ y8.toInt ≤ 7 := by rw [ey8]; exact rM_0_8 ok
          refine lv_icmp_ge (tgt := 197) hx hb dX12_hadOn_154 (by decide) (fun c_9 => ?_) (fun c_9 => ?_)
          · have c_9 : y8.toInt ≤ v9_148.toInt := il_le c_9
            exact W.vret hx hb hr (fun t ht hW => ⟨⟨nu148_, rfl, ⟨ok, trivial, kq148_0, kq148_1⟩, by first | (subst ht; exact hP) | (rw [ht]; exact hP) | (show va_P (dC, dI) vwCl (wR 21 ad (EM cs ad) nu148_) t.heap; rw [ht]; exact hP)⟩, hS.F ht⟩) hS.2.2 dX12_hadOn_197
          · have c_9 : v9_148.toInt < y8.toInt := il_nle c_9
            refine lv_iload hx hb dX12_hadOn_157 (lv_at hl 1 rfl) ?_
            refine lv_iload hx hb dX12_hadOn_159 (lv_at hl 0 rfl) ?_
            refine cr_i (va_runS (As := [.int 0, .int v9_148]) (rest := []) ⟨hx, hb, hml, hown, hts⟩ (sm_has l dC dI (tyM cs) H 0 v9_148) (va_cwS 2 hts (wU_S mw_6_59 mw_6_57 mw_6_58 mw_1_13) rfl rfl rfl (by decide +kernel) ⟨Nat.le_of_ble_eq_true rfl, Nat.le_of_ble_eq_true rfl⟩) ⟨sz_c, sz_m hK hz⟩ rfl rfl hl.1 rfl (lv_room (Nat.le_of_ble_eq_true rfl)) dX12_hadOn_161 ⟨Nat.zero_le _, Nat.zero_le _⟩) hS (fun r10 hw10 locs hS => ?_)
            obtain ⟨hfe10, hw10⟩ := hw10
            rcases hw10 with ⟨rfl, f10⟩ | ⟨rfl, f10⟩
            · have f10 : rb (0 : Int32) v9_148 = 1 := f10
              refine lv_if_eq (tgt := 191) hx hb dX12_hadOn_164 (by decide) (fun c => absurd c (by decide)) (fun _ => ?_)
              refine lv_aload_n hx hb dX12_hadOn_167 rfl (lv_at hl 5 rfl) ?_
              refine va_get (D := (dC, dI)) (ci := 12) (v := .ref (ad 16)) (C := RX12) (T := TX12) (N := 46) hx hb hts inG12 hown hK hP 0 (gM_0 cs ad nu148_) rfl 26 (by decide) (hts _ (List.mem_cons_of_mem _ mw_5_67)) (fun _ h9 => h9) rfl dX12_hadOn_168 ?_
              refine lv_iload_n hx hb dX12_hadOn_171 rfl (lv_at hl 7 rfl) ?_
              refine lv_iload hx hb dX12_hadOn_172 (lv_at hl 0 rfl) ?_
              refine va_iast hx hb hK hP (wR_D nu148_ hD) hS 16 0 (gM_16 cs ad nu148_) rfl (show vp_in 6 7 from (by unfold vp_in; decide)) dX12_hadOn_174 (fun H locs hP _ hS => ?_)
              refine wr_gen (upd (nu148_ 16) (6 : Int32).toNatClampNeg v9_148) hP (rfl) (fun nu11 hn11 hP => ?_)
              have ok := tM_16_s ok (6 : Int32).toNatClampNeg hn11 (by omega)
              have ez12 : y1 = nu11 2 vr.toNatClampNeg := ek148_0.trans (congrFun (up_k hn11 (by decide)) vr.toNatClampNeg).symm
              have ez13 : y8 = nu11 0 8 := ey8.trans (congrFun (up_k hn11 (by decide)) 8).symm
              have kp14 : ∀ k : Nat, 2 ≤ k → k < 3 → nu11 k = mu k := fun k h1 h2 => (up_k hn11 (ne_hi (by decide) h2).symm).trans (kq148_0 k h1 h2)
              have kp15 : (∀ k f : Nat, Nat.testBit 510 (gpM k f) = true → nu11 k f = mu k f) := kp_c 0 hn11 (fun _ => rfl) (by decide) kq148_1
              refine lv_aload_n hx hb dX12_hadOn_175 rfl (lv_at hl 5 rfl) ?_
              refine lv_iload_n hx hb dX12_hadOn_176 rfl (lv_at hl 6 rfl) ?_
              refine lv_iload_n hx hb dX12_hadOn_177 rfl (lv_at hl 7 rfl) ?_
              refine lv_iconst (v := 1) hx hb dX12_hadOn_178 (by decide) ?_
              refine lv_iadd hx hb dX12_hadOn_179 ?_
              refine lq_i 7 (by decide) ?_
              refine lv_iload_n hx hb dX12_hadOn_180 rfl (lv_at hl 8 rfl) ?_
              refine lv_iconst (v := 1) hx hb dX12_hadOn_181 (by decide) ?_
              refine lv_iload hx hb dX12_hadOn_182 (lv_at hl 0 rfl) ?_
              refine lv_ishl hx hb dX12_hadOn_184 ?_
              refine lv_topi (fun t16 et16 => ?_)
              refine lv_ior hx hb dX12_hadOn_185 ?_
              refine lv_topi (fun t17 et17 => ?_)
              refine lv_iload hx hb dX12_hadOn_186 (lv_at hl 3 rfl) ?_
              have hFc := fr_all (wR_D nu11 hD) hS hA
              refine va_callv (va_runV (As := [.int vr, .int 7, .int t17, .int r5]) (rest := []) ⟨hx, hb, hml, hown, hts⟩ (sm_hadOn7 l dC dI cs ad nu11 ok H hP ((wR_D nu11 hD).weaken (fun _ _ _ _ => trivial)) vr t17 r5 (by have h51 : (7 : Int32).toInt = 7 := rfl; omega) (by have h51 : (7 : Int32).toInt = 7 := rfl; have hb18 := congrArg Int32.toInt ez12; omega)) (cwV 4 hts (wU_V mw_7_24 mw_7_21 mw_7_23 mw_0_62 mw_1_13) rfl rfl rfl (by decide +kernel) ⟨Nat.le_of_ble_eq_true rfl, Nat.le_of_ble_eq_true rfl⟩) ⟨sz_c, va_recv hK hP (ci := 12) (q0 := 0) rfl (gM_0 cs ad nu11), sz_m hK hz⟩ rfl rfl hl.1 rfl (lv_room (Nat.le_of_ble_eq_true rfl)) dX12_hadOn_188 ⟨Nat.zero_le _, Nat.zero_le _⟩) hS (fun q _ h => hFc q h) hFc (fun xi19 t H19 locs ht hvm hw19 hB hz1 hk1 hS => ?_)
              have hP : va_P (dC, dI) vwCl (wR 21 ad (EM cs ad) xi19) H19 := by rw [← ht]; exact hB
              obtain ⟨ok, hw19, hkp19_0, hkp19_1⟩ := hw19
              have ez20 : y1 = xi19 2 vr.toNatClampNeg := ez12.trans (congrFun (hkp19_0 2 (by decide) (by decide)) vr.toNatClampNeg).symm
              have kp21 : ∀ k : Nat, 2 ≤ k → k < 3 → xi19 k = mu k := fun k h1 h2 => (hkp19_0 k (Nat.le_trans (by decide) h1) (Nat.lt_of_lt_of_le h2 (by decide))).trans (kp14 k h1 h2)
              have kp22 : (∀ k f : Nat, Nat.testBit 510 (gpM k f) = true → xi19 k f = mu k f) := kp_t hkp19_1 (by decide) kp15
              refine lv_iinc (v := (v9_148 + 1)) (lv' := [(9, .int (v9_148 + 1)), (8, .int 0), (7, .int 0), (6, .int r5), (5, .int y4), (0, .ref (ad 0)), (1, .int vr), (2, .int 6), (3, .int vh), (4, .int vp)]) hx hb dX12_hadOn_191 hl (k := 0) rfl rfl (by decide) rfl (fun ls hl => ?_)
              refine loc_gen (P := fun w9 => lv_has ls 10 [(9, .int w9), (8, .int 0), (7, .int 0), (6, .int r5), (5, .int y4), (0, .ref (ad 0)), (1, .int vr), (2, .int 6), (3, .int vh), (4, .int vp)]) (v9_148 + 1) hl (fun w23 hw23 hl => ?_)
              have hl : lv_has ls 10 [(9, .int w23), (8, .int 0), (7, .int 0), (6, .int r5), (5, .int y4), (0, .ref (ad 0)), (1, .int vr), (2, .int 6), (3, .int vh), (4, .int vp)] := hl
              have aw23 : w23.toInt = v9_148.toInt + 1 := by rw [← hw23]; first | exact va1 (Int.lt_of_le_of_lt h_v9_148.2 (by decide)) | exact va1 (by omega)
              refine lv_goto (tgt := 148) hx hb dX12_hadOn_194 (by decide) ?_
              exact ih148 (w23) xi19 _ _ _ (by first | exact ms_up hm_148 aw23 h_v9_148.2 | exact ms_lt hm_148 (by omega) (by omega) | omega) (by first | exact rg_up aw23 h_v9_148 (by omega) | omega)  ok hP ez20 kp21 kp22 hS (lv_sub hl [0, 1, 2, 3, 4, 5, 6, 7, 8, 9] rfl)
            · have f10 : ¬ rb (0 : Int32) v9_148 = 1 := f10
              refine lv_if_eq (tgt := 191) hx hb dX12_hadOn_164 (by decide) (fun _ => ?_) (fun c => absurd (by decide) c)
              refine lv_iinc (v := (v9_148 + 1)) (lv' := [(9, .int (v9_148 + 1)), (8, .int 0), (7, .int 0), (6, .int r5), (5, .int y4), (0, .ref (ad 0)), (1, .int vr), (2, .int 6), (3, .int vh), (4, .int vp)]) hx hb dX12_hadOn_191 hl (k := 0) rfl rfl (by decide) rfl (fun ls hl => ?_)
              refine loc_gen (P := fun w9 => lv_has ls 10 [(9, .int w9), (8, .int 0), (7, .int 0), (6, .int r5), (5, .int y4), (0, .ref (ad 0)), (1, .int vr), (2, .int 6), (3, .int vh), (4, .int vp)]) (v9_148 + 1) hl (fun w24 hw24 hl => ?_)
              have hl : lv_has ls 10 [(9, .int w24), (8, .int 0), (7, .int 0), (6, .int r5), (5, .int y4), (0, .ref (ad 0)), (1, .int vr), (2, .int 6), (3, .int vh), (4, .int vp)] := hl
              have aw24 : w24.toInt = v9_148.toInt + 1 := by rw [← hw24]; first | exact va1 (Int.lt_of_le_of_lt h_v9_148.2 (by decide)) | exact va1 (by omega)
              refine lv_goto (tgt := 148) hx hb dX12_hadOn_194 (by decide) ?_
              exact ih148 (w24) nu148_ _ _ _ (by first | exact ms_up hm_148 aw24 h_v9_148.2 | exact ms_lt hm_148 (by omega) (by omega) | omega) (by first | exact rg_up aw24 h_v9_148 (by omega) | omega)  ok hP ek148_0 kq148_0 kq148_1 hS (lv_sub hl [0, 1, 2, 3, 4, 5, 6, 7, 8, 9] rfl)
      exact loop148 ((7 + 1 - (0 : Int32).toInt).toNat + 1) (0) mu _ _ _ (Nat.lt_succ_self _) (by have h80 : (0 : Int32).toInt = 0 := rfl; exact ⟨by omega, by omega⟩)  ok hP ey1 (fun _ _ _ => rfl) (fun _ _ _ => rfl) hS hl
    · have c_7 : r5.toInt = r6.toInt := il_eq c_7
      refine lv_iload_n hx hb dX12_hadOn_101 rfl (lv_at hl 4 rfl) ?_
      refine lv_iconst (v := 1) hx hb dX12_hadOn_102 (by decide) ?_
      refine lv_icmp_eq (tgt := 117) hx hb dX12_hadOn_103 (by decide) (fun c => absurd c (by decide)) (fun _ => ?_)
      refine lv_aload_n hx hb dX12_hadOn_106 rfl (lv_at hl 2 rfl) ?_
      refine va_get (D := (dC, dI)) (ci := 12) (v := .ref (ad 7)) (C := RX12) (T := TX12) (N := 46) hx hb hts inG12 hown hK hP 0 (gM_0 cs ad mu) rfl 9 (by decide) (hts _ (List.mem_cons_of_mem _ mw_5_50)) (fun _ h9 => h9) rfl dX12_hadOn_107 ?_
      refine lv_iload hx hb dX12_hadOn_110 (lv_at hl 1 rfl) ?_
      refine va_iald hx hb hK hP 7 0 (gM_7 cs ad mu) rfl (show vp_in y4 7 from vi_of (by omega) (by omega)) dX12_hadOn_112 ?_
      refine lv_topi (fun y25 ey25 => ?_)
      have by25 : y25.toInt = (mu 7 y4.toNatClampNeg).toInt := congrArg Int32.toInt ey25
      refine lv_iconst (v := 3) hx hb dX12_hadOn_113 (by decide) ?_
      refine lv_icmp_eq (tgt := 121) hx hb dX12_hadOn_114 (by decide) (fun c_26 => ?_) (fun c_26 => ?_)
      · have c_26 : y25.toInt = 3 := il_eq c_26
        refine lv_iconst (v := 0) hx hb dX12_hadOn_121 (by decide) ?_
        refine lv_istore (lv' := [(7, .int 0), (6, .int r5), (5, .int y4), (0, .ref (ad 0)), (1, .int vr), (2, .int 6), (3, .int vh), (4, .int vp)]) hx hb dX12_hadOn_122 hl (by decide) rfl (fun ls hl => ?_)
        refine lv_iload hx hb dX12_hadOn_124 (lv_at hl 0 rfl) ?_
        refine lv_if_eq (tgt := 142) hx hb dX12_hadOn_126 (by decide) (fun _ => ?_) (fun c => absurd (by decide) c)
        refine lv_iconst (v := 0) hx hb dX12_hadOn_142 (by decide) ?_
        refine lv_istore (lv' := [(8, .int 0), (7, .int 0), (6, .int r5), (5, .int y4), (0, .ref (ad 0)), (1, .int vr), (2, .int 6), (3, .int vh), (4, .int vp)]) hx hb dX12_hadOn_143 hl (by decide) rfl (fun ls hl => ?_)
        refine lv_iconst (v := 0) hx hb dX12_hadOn_145 (by decide) ?_
        refine lv_istore (lv' := [(9, .int 0), (8, .int 0), (7, .int 0), (6, .int r5), (5, .int y4), (0, .ref (ad 0)), (1, .int vr), (2, .int 6), (3, .int vh), (4, .int vp)]) hx hb dX12_hadOn_146 hl (by decide) rfl (fun ls hl => ?_)
        have loop148 : ∀ (n148 : Nat) (v9_148 : Int32) (nu148_ : Nat → Nat → Int32) (H : Heap) (locs : List Loc) (ls : Array Slot), (7 + 1 - v9_148.toInt).toNat < n148 → (0 ≤ v9_148.toInt ∧ v9_148.toInt ≤ 7) → okR loM hiM nu148_ → va_P (dC, dI) vwCl (wR 21 ad (EM cs ad) nu148_) H → y1 = nu148_ 2 vr.toNatClampNeg → (∀ k : Nat, 2 ≤ k → k < 3 → nu148_ k = mu k) → (∀ k f : Nat, Nat.testBit 510 (gpM k f) = true → nu148_ k f = mu k f) → va_S (va_A (wR 21 ad (EM cs ad) mu) s.heap.size) s.heap H locs → lv_has ls 10 [(9, .int v9_148), (8, .int 0), (7, .int 0), (6, .int r5), (5, .int y4), (0, .ref (ad 0)), (1, .int vr), (2, .int 6), (3, .int vh), (4, .int vp)] → W p l e (headSpec (wU yX12_hadOn cX12_hadOn 10 none) ({ frames := 2, cells := 0, slots := 0, locals := 52 })).room s m ([.ref (ad 0), .int vr, .int 6, .int vh, .int vp] : List Value).toArray below meth c H locs 0 0 (MQ below (va_Qv (fun (xi : Nat → Nat → Int32) => okR loM hiM xi ∧ (True) ∧ (∀ k : Nat, 2 ≤ k → k < 3 → xi k = mu k) ∧ (∀ k f : Nat, Nat.testBit 510 (gpM k f) = true → xi k f = mu k f)) (fun xi t => va_P (dC, dI) vwCl (wR 21 ad (EM cs ad) xi) t.heap) (va_A (wR 21 ad (EM cs ad) mu) s.heap.size)) ([.ref (ad 0), .int vr, .int 6, .int vh, .int vp] : List Value).toArray s 0 0 (va_A (wR 21 ad (EM cs ad) mu) s.heap.size)) (F0 m 148 ls []) := by
          intro n148
          induction n148 with
          | zero => intro v9_148 nu148_ H locs ls hm; exact absurd hm (Nat.not_lt_zero _)
          | succ n148 ih148 =>
            intro v9_148 nu148_ H locs ls hm_148 h_v9_148 ok hP ek148_0 kq148_0 kq148_1 hS hl
            refine lv_iload hx hb dX12_hadOn_148 (lv_at hl 0 rfl) ?_
            refine lv_aload_n hx hb dX12_hadOn_150 rfl (lv_at hl 5 rfl) ?_
            refine va_get (D := (dC, dI)) (ci := 12) (v := .int (nu148_ 0 8)) (C := RX12) (T := TX12) (N := 46) hx hb hts inG12 hown hK hP 0 (gM_0 cs ad nu148_) rfl 8 (by decide) (hts _ (List.mem_cons_of_mem _ mw_5_49)) (fun _ h9 => h9) rfl dX12_hadOn_151 ?_
            refine lv_topi (fun y27 ey27 => ?_)
            have by27 : y27.toInt = (nu148_ 0 8).toInt := congrArg Int32.toInt ey27
            have gy27 : 0 ≤ y27.toInt ∧ y27.toInt ≤ 7 := by rw [ey27]; exact rM_0_8 ok
            refine lv_icmp_ge (tgt := 197) hx hb dX12_hadOn_154 (by decide) (fun c_28 => ?_) (fun c_28 => ?_)
            · have c_28 : y27.toInt ≤ v9_148.toInt := il_le c_28
              exact W.vret hx hb hr (fun t ht hW => ⟨⟨nu148_, rfl, ⟨ok, trivial, kq148_0, kq148_1⟩, by first | (subst ht; exact hP) | (rw [ht]; exact hP) | (show va_P (dC, dI) vwCl (wR 21 ad (EM cs ad) nu148_) t.heap; rw [ht]; exact hP)⟩, hS.F ht⟩) hS.2.2 dX12_hadOn_197
            · have c_28 : v9_148.toInt < y27.toInt := il_nle c_28
              refine lv_iload hx hb dX12_hadOn_157 (lv_at hl 1 rfl) ?_
              refine lv_iload hx hb dX12_hadOn_159 (lv_at hl 0 rfl) ?_
              refine cr_i (va_runS (As := [.int 0, .int v9_148]) (rest := []) ⟨hx, hb, hml, hown, hts⟩ (sm_has l dC dI (tyM cs) H 0 v9_148) (va_cwS 2 hts (wU_S mw_6_59 mw_6_57 mw_6_58 mw_1_13) rfl rfl rfl (by decide +kernel) ⟨Nat.le_of_ble_eq_true rfl, Nat.le_of_ble_eq_true rfl⟩) ⟨sz_c, sz_m hK hz⟩ rfl rfl hl.1 rfl (lv_room (Nat.le_of_ble_eq_true rfl)) dX12_hadOn_161 ⟨Nat.zero_le _, Nat.zero_le _⟩) hS (fun r29 hw29 locs hS => ?_)
              obtain ⟨hfe29, hw29⟩ := hw29
              rcases hw29 with ⟨rfl, f29⟩ | ⟨rfl, f29⟩
              · have f29 : rb (0 : Int32) v9_148 = 1 := f29
                refine lv_if_eq (tgt := 191) hx hb dX12_hadOn_164 (by decide) (fun c => absurd c (by decide)) (fun _ => ?_)
                refine lv_aload_n hx hb dX12_hadOn_167 rfl (lv_at hl 5 rfl) ?_
                refine va_get (D := (dC, dI)) (ci := 12) (v := .ref (ad 16)) (C := RX12) (T := TX12) (N := 46) hx hb hts inG12 hown hK hP 0 (gM_0 cs ad nu148_) rfl 26 (by decide) (hts _ (List.mem_cons_of_mem _ mw_5_67)) (fun _ h9 => h9) rfl dX12_hadOn_168 ?_
                refine lv_iload_n hx hb dX12_hadOn_171 rfl (lv_at hl 7 rfl) ?_
                refine lv_iload hx hb dX12_hadOn_172 (lv_at hl 0 rfl) ?_
                refine va_iast hx hb hK hP (wR_D nu148_ hD) hS 16 0 (gM_16 cs ad nu148_) rfl (show vp_in 6 7 from (by unfold vp_in; decide)) dX12_hadOn_174 (fun H locs hP _ hS => ?_)
                refine wr_gen (upd (nu148_ 16) (6 : Int32).toNatClampNeg v9_148) hP (rfl) (fun nu30 hn30 hP => ?_)
                have ok := tM_16_s ok (6 : Int32).toNatClampNeg hn30 (by omega)
                have ez31 : y1 = nu30 2 vr.toNatClampNeg := ek148_0.trans (congrFun (up_k hn30 (by decide)) vr.toNatClampNeg).symm
                have ez32 : y27 = nu30 0 8 := ey27.trans (congrFun (up_k hn30 (by decide)) 8).symm
                have kp33 : ∀ k : Nat, 2 ≤ k → k < 3 → nu30 k = mu k := fun k h1 h2 => (up_k hn30 (ne_hi (by decide) h2).symm).trans (kq148_0 k h1 h2)
                have kp34 : (∀ k f : Nat, Nat.testBit 510 (gpM k f) = true → nu30 k f = mu k f) := kp_c 0 hn30 (fun _ => rfl) (by decide) kq148_1
                refine lv_aload_n hx hb dX12_hadOn_175 rfl (lv_at hl 5 rfl) ?_
                refine lv_iload_n hx hb dX12_hadOn_176 rfl (lv_at hl 6 rfl) ?_
                refine lv_iload_n hx hb dX12_hadOn_177 rfl (lv_at hl 7 rfl) ?_
                refine lv_iconst (v := 1) hx hb dX12_hadOn_178 (by decide) ?_
                refine lv_iadd hx hb dX12_hadOn_179 ?_
                refine lq_i 7 (by decide) ?_
                refine lv_iload_n hx hb dX12_hadOn_180 rfl (lv_at hl 8 rfl) ?_
                refine lv_iconst (v := 1) hx hb dX12_hadOn_181 (by decide) ?_
                refine lv_iload hx hb dX12_hadOn_182 (lv_at hl 0 rfl) ?_
                refine lv_ishl hx hb dX12_hadOn_184 ?_
                refine lv_topi (fun t35 et35 => ?_)
                refine lv_ior hx hb dX12_hadOn_185 ?_
                refine lv_topi (fun t36 et36 => ?_)
                refine lv_iload hx hb dX12_hadOn_186 (lv_at hl 3 rfl) ?_
                have hFc := fr_all (wR_D nu30 hD) hS hA
                refine va_callv (va_runV (As := [.int vr, .int 7, .int t36, .int r5]) (rest := []) ⟨hx, hb, hml, hown, hts⟩ (sm_hadOn7 l dC dI cs ad nu30 ok H hP ((wR_D nu30 hD).weaken (fun _ _ _ _ => trivial)) vr t36 r5 (by have h51 : (7 : Int32).toInt = 7 := rfl; omega) (by have h51 : (7 : Int32).toInt = 7 := rfl; have hb37 := congrArg Int32.toInt ez31; omega)) (cwV 4 hts (wU_V mw_7_24 mw_7_21 mw_7_23 mw_0_62 mw_1_13) rfl rfl rfl (by decide +kernel) ⟨Nat.le_of_ble_eq_true rfl, Nat.le_of_ble_eq_true rfl⟩) ⟨sz_c, va_recv hK hP (ci := 12) (q0 := 0) rfl (gM_0 cs ad nu30), sz_m hK hz⟩ rfl rfl hl.1 rfl (lv_room (Nat.le_of_ble_eq_true rfl)) dX12_hadOn_188 ⟨Nat.zero_le _, Nat.zero_le _⟩) hS (fun q _ h => hFc q h) hFc (fun xi38 t H38 locs ht hvm hw38 hB hz1 hk1 hS => ?_)
                have hP : va_P (dC, dI) vwCl (wR 21 ad (EM cs ad) xi38) H38 := by rw [← ht]; exact hB
                obtain ⟨ok, hw38, hkp38_0, hkp38_1⟩ := hw38
                have ez39 : y1 = xi38 2 vr.toNatClampNeg := ez31.trans (congrFun (hkp38_0 2 (by decide) (by decide)) vr.toNatClampNeg).symm
                have kp40 : ∀ k : Nat, 2 ≤ k → k < 3 → xi38 k = mu k := fun k h1 h2 => (hkp38_0 k (Nat.le_trans (by decide) h1) (Nat.lt_of_lt_of_le h2 (by decide))).trans (kp33 k h1 h2)
                have kp41 : (∀ k f : Nat, Nat.testBit 510 (gpM k f) = true → xi38 k f = mu k f) := kp_t hkp38_1 (by decide) kp34
                refine lv_iinc (v := (v9_148 + 1)) (lv' := [(9, .int (v9_148 + 1)), (8, .int 0), (7, .int 0), (6, .int r5), (5, .int y4), (0, .ref (ad 0)), (1, .int vr), (2, .int 6), (3, .int vh), (4, .int vp)]) hx hb dX12_hadOn_191 hl (k := 0) rfl rfl (by decide) rfl (fun ls hl => ?_)
                refine loc_gen (P := fun w9 => lv_has ls 10 [(9, .int w9), (8, .int 0), (7, .int 0), (6, .int r5), (5, .int y4), (0, .ref (ad 0)), (1, .int vr), (2, .int 6), (3, .int vh), (4, .int vp)]) (v9_148 + 1) hl (fun w42 hw42 hl => ?_)
                have hl : lv_has ls 10 [(9, .int w42), (8, .int 0), (7, .int 0), (6, .int r5), (5, .int y4), (0, .ref (ad 0)), (1, .int vr), (2, .int 6), (3, .int vh), (4, .int vp)] := hl
                have aw42 : w42.toInt = v9_148.toInt + 1 := by rw [← hw42]; first | exact va1 (Int.lt_of_le_of_lt h_v9_148.2 (by decide)) | exact va1 (by omega)
                refine lv_goto (tgt := 148) hx hb dX12_hadOn_194 (by decide) ?_
                exact ih148 (w42) xi38 _ _ _ (by first | exact ms_up hm_148 aw42 h_v9_148.2 | exact ms_lt hm_148 (by omega) (by omega) | omega) (by first | exact rg_up aw42 h_v9_148 (by omega) | omega)  ok hP ez39 kp40 kp41 hS (lv_sub hl [0, 1, 2, 3, 4, 5, 6, 7, 8, 9] rfl)
              · have f29 : ¬ rb (0 : Int32) v9_148 = 1 := f29
                refine lv_if_eq (tgt := 191) hx hb dX12_hadOn_164 (by decide) (fun _ => ?_) (fun c => absurd (by decide) c)
                refine lv_iinc (v := (v9_148 + 1)) (lv' := [(9, .int (v9_148 + 1)), (8, .int 0), (7, .int 0), (6, .int r5), (5, .int y4), (0, .ref (ad 0)), (1, .int vr), (2, .int 6), (3, .int vh), (4, .int vp)]) hx hb dX12_hadOn_191 hl (k := 0) rfl rfl (by decide) rfl (fun ls hl => ?_)
                refine loc_gen (P := fun w9 => lv_has ls 10 [(9, .int w9), (8, .int 0), (7, .int 0), (6, .int r5), (5, .int y4), (0, .ref (ad 0)), (1, .int vr), (2, .int 6), (3, .int vh), (4, .int vp)]) (v9_148 + 1) hl (fun w43 hw43 hl => ?_)
                have hl : lv_has ls 10 [(9, .int w43), (8, .int 0), (7, .int 0), (6, .int r5), (5, .int y4), (0, .ref (ad 0)), (1, .int vr), (2, .int 6), (3, .int vh), (4, .int vp)] := hl
                have aw43 : w43.toInt = v9_148.toInt + 1 := by rw [← hw43]; first | exact va1 (Int.lt_of_le_of_lt h_v9_148.2 (by decide)) | exact va1 (by omega)
                refine lv_goto (tgt := 148) hx hb dX12_hadOn_194 (by decide) ?_
                exact ih148 (w43) nu148_ _ _ _ (by first | exact ms_up hm_148 aw43 h_v9_148.2 | exact ms_lt hm_148 (by omega) (by omega) | omega) (by first | exact rg_up aw43 h_v9_148 (by omega) | omega)  ok hP ek148_0 kq148_0 kq148_1 hS (lv_sub hl [0, 1, 2, 3, 4, 5, 6, 7, 8, 9] rfl)
        exact loop148 ((7 + 1 - (0 : Int32).toInt).toNat + 1) (0) mu _ _ _ (Nat.lt_succ_self _) (by have h80 : (0 : Int32).toInt = 0 := rfl; exact ⟨by omega, by omega⟩)  ok hP ey1 (fun _ _ _ => rfl) (fun _ _ _ => rfl) hS hl
      · have c_26 : ¬ y25.toInt = 3 := il_ne c_26
        refine lv_iconst (v := 1) hx hb dX12_hadOn_117 (by decide) ?_
        refine lv_goto (tgt := 122) hx hb dX12_hadOn_118 (by decide) ?_
        refine lv_istore (lv' := [(7, .int 1), (6, .int r5), (5, .int y4), (0, .ref (ad 0)), (1, .int vr), (2, .int 6), (3, .int vh), (4, .int vp)]) hx hb dX12_hadOn_122 hl (by decide) rfl (fun ls hl => ?_)
        refine lv_iload hx hb dX12_hadOn_124 (lv_at hl 0 rfl) ?_
        refine lv_if_eq (tgt := 142) hx hb dX12_hadOn_126 (by decide) (fun c => absurd c (by decide)) (fun _ => ?_)
        refine lv_aload_n hx hb dX12_hadOn_129 rfl (lv_at hl 3 rfl) ?_
        refine lv_iload hx hb dX12_hadOn_130 (lv_at hl 2 rfl) ?_
        refine cr_i (va_runV (As := [.int y4]) (rest := []) ⟨hx, hb, hml, hown, hts⟩ (sm_besideOf l dC dI cs ad mu ok s.heap hP y4) (cwV 1 hts (wU_V mw_6_56 mw_6_53 mw_6_55 mw_0_40 mw_1_13) rfl rfl rfl (by decide +kernel) ⟨Nat.le_of_ble_eq_true rfl, Nat.le_of_ble_eq_true rfl⟩) ⟨sz_c, va_recv hK hP (ci := 12) (q0 := 0) rfl (gM_0 cs ad mu), sz_m hK hz⟩ rfl rfl hl.1 rfl (lv_room (Nat.le_of_ble_eq_true rfl)) dX12_hadOn_132 ⟨Nat.zero_le _, Nat.zero_le _⟩) hS (fun r44 hw44 locs hS => ?_)
        obtain ⟨hfe44, hw44⟩ := hw44
        refine lv_iload_n hx hb dX12_hadOn_135 rfl (lv_at hl 6 rfl) ?_
        refine lv_iconst (v := (-1)) hx hb dX12_hadOn_136 (by decide) ?_
        refine lv_ixor hx hb dX12_hadOn_137 ?_
        refine lv_topi (fun t45 et45 => ?_)
        refine lv_iand hx hb dX12_hadOn_138 ?_
        refine lv_topi (fun t46 et46 => ?_)
        refine lv_goto (tgt := 143) hx hb dX12_hadOn_139 (by decide) ?_
        refine lv_istore (lv' := [(8, .int t46), (7, .int 1), (6, .int r5), (5, .int y4), (0, .ref (ad 0)), (1, .int vr), (2, .int 6), (3, .int vh), (4, .int vp)]) hx hb dX12_hadOn_143 hl (by decide) rfl (fun ls hl => ?_)
        refine lv_iconst (v := 0) hx hb dX12_hadOn_145 (by decide) ?_
        refine lv_istore (lv' := [(9, .int 0), (8, .int t46), (7, .int 1), (6, .int r5), (5, .int y4), (0, .ref (ad 0)), (1, .int vr), (2, .int 6), (3, .int vh), (4, .int vp)]) hx hb dX12_hadOn_146 hl (by decide) rfl (fun ls hl => ?_)
        have loop148 : ∀ (n148 : Nat) (v9_148 : Int32) (nu148_ : Nat → Nat → Int32) (H : Heap) (locs : List Loc) (ls : Array Slot), (7 + 1 - v9_148.toInt).toNat < n148 → (0 ≤ v9_148.toInt ∧ v9_148.toInt ≤ 7) → okR loM hiM nu148_ → va_P (dC, dI) vwCl (wR 21 ad (EM cs ad) nu148_) H → y1 = nu148_ 2 vr.toNatClampNeg → (∀ k : Nat, 2 ≤ k → k < 3 → nu148_ k = mu k) → (∀ k f : Nat, Nat.testBit 510 (gpM k f) = true → nu148_ k f = mu k f) → va_S (va_A (wR 21 ad (EM cs ad) mu) s.heap.size) s.heap H locs → lv_has ls 10 [(9, .int v9_148), (8, .int t46), (7, .int 1), (6, .int r5), (5, .int y4), (0, .ref (ad 0)), (1, .int vr), (2, .int 6), (3, .int vh), (4, .int vp)] → W p l e (headSpec (wU yX12_hadOn cX12_hadOn 10 none) ({ frames := 2, cells := 0, slots := 0, locals := 52 })).room s m ([.ref (ad 0), .int vr, .int 6, .int vh, .int vp] : List Value).toArray below meth c H locs 0 0 (MQ below (va_Qv (fun (xi : Nat → Nat → Int32) => okR loM hiM xi ∧ (True) ∧ (∀ k : Nat, 2 ≤ k → k < 3 → xi k = mu k) ∧ (∀ k f : Nat, Nat.testBit 510 (gpM k f) = true → xi k f = mu k f)) (fun xi t => va_P (dC, dI) vwCl (wR 21 ad (EM cs ad) xi) t.heap) (va_A (wR 21 ad (EM cs ad) mu) s.heap.size)) ([.ref (ad 0), .int vr, .int 6, .int vh, .int vp] : List Value).toArray s 0 0 (va_A (wR 21 ad (EM cs ad) mu) s.heap.size)) (F0 m 148 ls []) := by
          intro n148
          induction n148 with
          | zero => intro v9_148 nu148_ H locs ls hm; exact absurd hm (Nat.not_lt_zero _)
          | succ n148 ih148 =>
            intro v9_148 nu148_ H locs ls hm_148 h_v9_148 ok hP ek148_0 kq148_0 kq148_1 hS hl
            refine lv_iload hx hb dX12_hadOn_148 (lv_at hl 0 rfl) ?_
            refine lv_aload_n hx hb dX12_hadOn_150 rfl (lv_at hl 5 rfl) ?_
            refine va_get (D := (dC, dI)) (ci := 12) (v := .int (nu148_ 0 8)) (C := RX12) (T := TX12) (N := 46) hx hb hts inG12 hown hK hP 0 (gM_0 cs ad nu148_) rfl 8 (by decide) (hts _ (List.mem_cons_of_mem _ mw_5_49)) (fun _ h9 => h9) rfl dX12_hadOn_151 ?_
            refine lv_topi (fun y47 ey47 => ?_)
            have by47 : y47.toInt = (nu148_ 0 8).toInt := congrArg Int32.toInt ey47
            have gy47 : 0 ≤ y47.toInt ∧ y47.toInt ≤ 7 := by rw [ey47]; exact rM_0_8 ok
            refine lv_icmp_ge (tgt := 197) hx hb dX12_hadOn_154 (by decide) (fun c_48 => ?_) (fun c_48 => ?_)
            · have c_48 : y47.toInt ≤ v9_148.toInt := il_le c_48
              exact W.vret hx hb hr (fun t ht hW => ⟨⟨nu148_, rfl, ⟨ok, trivial, kq148_0, kq148_1⟩, by first | (subst ht; exact hP) | (rw [ht]; exact hP) | (show va_P (dC, dI) vwCl (wR 21 ad (EM cs ad) nu148_) t.heap; rw [ht]; exact hP)⟩, hS.F ht⟩) hS.2.2 dX12_hadOn_197
            · have c_48 : v9_148.toInt < y47.toInt := il_nle c_48
              refine lv_iload hx hb dX12_hadOn_157 (lv_at hl 1 rfl) ?_
              refine lv_iload hx hb dX12_hadOn_159 (lv_at hl 0 rfl) ?_
              refine cr_i (va_runS (As := [.int t46, .int v9_148]) (rest := []) ⟨hx, hb, hml, hown, hts⟩ (sm_has l dC dI (tyM cs) H t46 v9_148) (va_cwS 2 hts (wU_S mw_6_59 mw_6_57 mw_6_58 mw_1_13) rfl rfl rfl (by decide +kernel) ⟨Nat.le_of_ble_eq_true rfl, Nat.le_of_ble_eq_true rfl⟩) ⟨sz_c, sz_m hK hz⟩ rfl rfl hl.1 rfl (lv_room (Nat.le_of_ble_eq_true rfl)) dX12_hadOn_161 ⟨Nat.zero_le _, Nat.zero_le _⟩) hS (fun r49 hw49 locs hS => ?_)
              obtain ⟨hfe49, hw49⟩ := hw49
              rcases hw49 with ⟨rfl, f49⟩ | ⟨rfl, f49⟩
              · have f49 : rb t46 v9_148 = 1 := f49
                refine lv_if_eq (tgt := 191) hx hb dX12_hadOn_164 (by decide) (fun c => absurd c (by decide)) (fun _ => ?_)
                refine lv_aload_n hx hb dX12_hadOn_167 rfl (lv_at hl 5 rfl) ?_
                refine va_get (D := (dC, dI)) (ci := 12) (v := .ref (ad 16)) (C := RX12) (T := TX12) (N := 46) hx hb hts inG12 hown hK hP 0 (gM_0 cs ad nu148_) rfl 26 (by decide) (hts _ (List.mem_cons_of_mem _ mw_5_67)) (fun _ h9 => h9) rfl dX12_hadOn_168 ?_
                refine lv_iload_n hx hb dX12_hadOn_171 rfl (lv_at hl 7 rfl) ?_
                refine lv_iload hx hb dX12_hadOn_172 (lv_at hl 0 rfl) ?_
                refine va_iast hx hb hK hP (wR_D nu148_ hD) hS 16 0 (gM_16 cs ad nu148_) rfl (show vp_in 6 7 from (by unfold vp_in; decide)) dX12_hadOn_174 (fun H locs hP _ hS => ?_)
                refine wr_gen (upd (nu148_ 16) (6 : Int32).toNatClampNeg v9_148) hP (rfl) (fun nu50 hn50 hP => ?_)
                have ok := tM_16_s ok (6 : Int32).toNatClampNeg hn50 (by omega)
                have ez51 : y1 = nu50 2 vr.toNatClampNeg := ek148_0.trans (congrFun (up_k hn50 (by decide)) vr.toNatClampNeg).symm
                have ez52 : y47 = nu50 0 8 := ey47.trans (congrFun (up_k hn50 (by decide)) 8).symm
                have kp53 : ∀ k : Nat, 2 ≤ k → k < 3 → nu50 k = mu k := fun k h1 h2 => (up_k hn50 (ne_hi (by decide) h2).symm).trans (kq148_0 k h1 h2)
                have kp54 : (∀ k f : Nat, Nat.testBit 510 (gpM k f) = true → nu50 k f = mu k f) := kp_c 0 hn50 (fun _ => rfl) (by decide) kq148_1
                refine lv_aload_n hx hb dX12_hadOn_175 rfl (lv_at hl 5 rfl) ?_
                refine lv_iload_n hx hb dX12_hadOn_176 rfl (lv_at hl 6 rfl) ?_
                refine lv_iload_n hx hb dX12_hadOn_177 rfl (lv_at hl 7 rfl) ?_
                refine lv_iconst (v := 1) hx hb dX12_hadOn_178 (by decide) ?_
                refine lv_iadd hx hb dX12_hadOn_179 ?_
                refine lq_i 7 (by decide) ?_
                refine lv_iload_n hx hb dX12_hadOn_180 rfl (lv_at hl 8 rfl) ?_
                refine lv_iconst (v := 1) hx hb dX12_hadOn_181 (by decide) ?_
                refine lv_iload hx hb dX12_hadOn_182 (lv_at hl 0 rfl) ?_
                refine lv_ishl hx hb dX12_hadOn_184 ?_
                refine lv_topi (fun t55 et55 => ?_)
                refine lv_ior hx hb dX12_hadOn_185 ?_
                refine lv_topi (fun t56 et56 => ?_)
                refine lv_iload hx hb dX12_hadOn_186 (lv_at hl 3 rfl) ?_
                have hFc := fr_all (wR_D nu50 hD) hS hA
                refine va_callv (va_runV (As := [.int vr, .int 7, .int t56, .int r5]) (rest := []) ⟨hx, hb, hml, hown, hts⟩ (sm_hadOn7 l dC dI cs ad nu50 ok H hP ((wR_D nu50 hD).weaken (fun _ _ _ _ => trivial)) vr t56 r5 (by have h51 : (7 : Int32).toInt = 7 := rfl; omega) (by have h51 : (7 : Int32).toInt = 7 := rfl; have hb57 := congrArg Int32.toInt ez51; omega)) (cwV 4 hts (wU_V mw_7_24 mw_7_21 mw_7_23 mw_0_62 mw_1_13) rfl rfl rfl (by decide +kernel) ⟨Nat.le_of_ble_eq_true rfl, Nat.le_of_ble_eq_true rfl⟩) ⟨sz_c, va_recv hK hP (ci := 12) (q0 := 0) rfl (gM_0 cs ad nu50), sz_m hK hz⟩ rfl rfl hl.1 rfl (lv_room (Nat.le_of_ble_eq_true rfl)) dX12_hadOn_188 ⟨Nat.zero_le _, Nat.zero_le _⟩) hS (fun q _ h => hFc q h) hFc (fun xi58 t H58 locs ht hvm hw58 hB hz1 hk1 hS => ?_)
                have hP : va_P (dC, dI) vwCl (wR 21 ad (EM cs ad) xi58) H58 := by rw [← ht]; exact hB
                obtain ⟨ok, hw58, hkp58_0, hkp58_1⟩ := hw58
                have ez59 : y1 = xi58 2 vr.toNatClampNeg := ez51.trans (congrFun (hkp58_0 2 (by decide) (by decide)) vr.toNatClampNeg).symm
                have kp60 : ∀ k : Nat, 2 ≤ k → k < 3 → xi58 k = mu k := fun k h1 h2 => (hkp58_0 k (Nat.le_trans (by decide) h1) (Nat.lt_of_lt_of_le h2 (by decide))).trans (kp53 k h1 h2)
                have kp61 : (∀ k f : Nat, Nat.testBit 510 (gpM k f) = true → xi58 k f = mu k f) := kp_t hkp58_1 (by decide) kp54
                refine lv_iinc (v := (v9_148 + 1)) (lv' := [(9, .int (v9_148 + 1)), (8, .int t46), (7, .int 1), (6, .int r5), (5, .int y4), (0, .ref (ad 0)), (1, .int vr), (2, .int 6), (3, .int vh), (4, .int vp)]) hx hb dX12_hadOn_191 hl (k := 0) rfl rfl (by decide) rfl (fun ls hl => ?_)
                refine loc_gen (P := fun w9 => lv_has ls 10 [(9, .int w9), (8, .int t46), (7, .int 1), (6, .int r5), (5, .int y4), (0, .ref (ad 0)), (1, .int vr), (2, .int 6), (3, .int vh), (4, .int vp)]) (v9_148 + 1) hl (fun w62 hw62 hl => ?_)
                have hl : lv_has ls 10 [(9, .int w62), (8, .int t46), (7, .int 1), (6, .int r5), (5, .int y4), (0, .ref (ad 0)), (1, .int vr), (2, .int 6), (3, .int vh), (4, .int vp)] := hl
                have aw62 : w62.toInt = v9_148.toInt + 1 := by rw [← hw62]; first | exact va1 (Int.lt_of_le_of_lt h_v9_148.2 (by decide)) | exact va1 (by omega)
                refine lv_goto (tgt := 148) hx hb dX12_hadOn_194 (by decide) ?_
                exact ih148 (w62) xi58 _ _ _ (by first | exact ms_up hm_148 aw62 h_v9_148.2 | exact ms_lt hm_148 (by omega) (by omega) | omega) (by first | exact rg_up aw62 h_v9_148 (by omega) | omega)  ok hP ez59 kp60 kp61 hS (lv_sub hl [0, 1, 2, 3, 4, 5, 6, 7, 8, 9] rfl)
              · have f49 : ¬ rb t46 v9_148 = 1 := f49
                refine lv_if_eq (tgt := 191) hx hb dX12_hadOn_164 (by decide) (fun _ => ?_) (fun c => absurd (by decide) c)
                refine lv_iinc (v := (v9_148 + 1)) (lv' := [(9, .int (v9_148 + 1)), (8, .int t46), (7, .int 1), (6, .int r5), (5, .int y4), (0, .ref (ad 0)), (1, .int vr), (2, .int 6), (3, .int vh), (4, .int vp)]) hx hb dX12_hadOn_191 hl (k := 0) rfl rfl (by decide) rfl (fun ls hl => ?_)
                refine loc_gen (P := fun w9 => lv_has ls 10 [(9, .int w9), (8, .int t46), (7, .int 1), (6, .int r5), (5, .int y4), (0, .ref (ad 0)), (1, .int vr), (2, .int 6), (3, .int vh), (4, .int vp)]) (v9_148 + 1) hl (fun w63 hw63 hl => ?_)
                have hl : lv_has ls 10 [(9, .int w63), (8, .int t46), (7, .int 1), (6, .int r5), (5, .int y4), (0, .ref (ad 0)), (1, .int vr), (2, .int 6), (3, .int vh), (4, .int vp)] := hl
                have aw63 : w63.toInt = v9_148.toInt + 1 := by rw [← hw63]; first | exact va1 (Int.lt_of_le_of_lt h_v9_148.2 (by decide)) | exact va1 (by omega)
                refine lv_goto (tgt := 148) hx hb dX12_hadOn_194 (by decide) ?_
                exact ih148 (w63) nu148_ _ _ _ (by first | exact ms_up hm_148 aw63 h_v9_148.2 | exact ms_lt hm_148 (by omega) (by omega) | omega) (by first | exact rg_up aw63 h_v9_148 (by omega) | omega)  ok hP ek148_0 kq148_0 kq148_1 hS (lv_sub hl [0, 1, 2, 3, 4, 5, 6, 7, 8, 9] rfl)
        exact loop148 ((7 + 1 - (0 : Int32).toInt).toNat + 1) (0) mu _ _ _ (Nat.lt_succ_self _) (by have h80 : (0 : Int32).toInt = 0 := rfl; exact ⟨by omega, by omega⟩)  ok hP ey1 (fun _ _ _ => rfl) (fun _ _ _ => rfl) hS hl
  · have c_3 : 6 = t2.toInt := il_eq c_3
    refine lv_aload_n hx hb dX12_hadOn_12 rfl (lv_at hl 0 rfl) ?_
    refine va_get (D := (dC, dI)) (ci := 12) (v := .int (mu 0 42)) (C := RX12) (T := TX12) (N := 46) hx hb hts inG12 hown hK hP 0 (gM_0 cs ad mu) rfl 42 (by decide) (hts _ (List.mem_cons_of_mem _ mw_5_83)) (fun _ h9 => h9) rfl dX12_hadOn_13 ?_
    refine lv_topi (fun y64 ey64 => ?_)
    have by64 : y64.toInt = (mu 0 42).toInt := congrArg Int32.toInt ey64
    refine lv_if_ne (tgt := 28) hx hb dX12_hadOn_16 (by decide) (fun c_65 => ?_) (fun c_65 => ?_)
    · have c_65 : ¬ y64.toInt = 0 := il_ne c_65
      refine lv_aload_n hx hb dX12_hadOn_28 rfl (lv_at hl 0 rfl) ?_
      refine lv_dup hx hb dX12_hadOn_29 rfl ?_
      refine va_get (D := (dC, dI)) (ci := 12) (v := .int (mu 0 42)) (C := RX12) (T := TX12) (N := 46) hx hb hts inG12 hown hK hP 0 (gM_0 cs ad mu) rfl 42 (by decide) (hts _ (List.mem_cons_of_mem _ mw_5_83)) (fun _ h9 => h9) rfl dX12_hadOn_30 ?_
      refine lq_i y64 ey64.symm ?_
      refine lv_iconst (v := 1) hx hb dX12_hadOn_33 (by decide) ?_
      refine lv_iadd hx hb dX12_hadOn_34 ?_
      refine lv_topi (fun t66 et66 => ?_)
      refine va_put (D := (dC, dI)) (ci := 12) (v := .int t66) (ty := .int) (C := RX12) (T := TX12) (N := 46) hx hb hts inG12 tyX12 tyX12_ok nmX12 hown hK hP (wR_D mu hD) hS 0 (gM_0 cs ad mu) rfl 42 (by decide) (hts _ (List.mem_cons_of_mem _ mw_5_83)) (fun _ h9 => h9) rfl (by decide +kernel) rfl rfl (Nat.le_of_ble_eq_true rfl) dX12_hadOn_35 (fun H locs hP _ hS => ?_)
      simp only [List.set_cons_succ, List.set_cons_zero] at hP
      refine wr_gen (upd (mu 0) 42 t66) hP ((hM_0_42 cs ad _ _)) (fun nu67 hn67 hP => ?_)
      have ok := tM_0_42 ok hn67
      have ez68 : y1 = nu67 2 vr.toNatClampNeg := ey1.trans (congrFun (up_k hn67 (by decide)) vr.toNatClampNeg).symm
      have kp69 : ∀ k : Nat, 2 ≤ k → k < 3 → nu67 k = mu k := fun k h1 h2 => (up_k hn67 (ne_lo (by decide) h1).symm).trans ((fun _ _ _ => rfl) k h1 h2)
      have kp70 : (∀ k f : Nat, Nat.testBit 510 (gpM k f) = true → nu67 k f = mu k f) := kp_f hn67 (by decide) (fun _ _ _ => rfl)
      have ez71 : t66 = nu67 0 42 := up_v hn67
      refine lv_aload_n hx hb dX12_hadOn_38 rfl (lv_at hl 0 rfl) ?_
      refine lv_dup hx hb dX12_hadOn_39 rfl ?_
      refine va_get (D := (dC, dI)) (ci := 12) (v := .int (nu67 0 43)) (C := RX12) (T := TX12) (N := 46) hx hb hts inG12 hown hK hP 0 (gM_0 cs ad nu67) rfl 43 (by decide) (hts _ (List.mem_cons_of_mem _ mw_5_84)) (fun _ h9 => h9) rfl dX12_hadOn_40 ?_
      refine lv_topi (fun y72 ey72 => ?_)
      have by72 : y72.toInt = (nu67 0 43).toInt := congrArg Int32.toInt ey72
      refine lv_iconst (v := 1) hx hb dX12_hadOn_43 (by decide) ?_
      refine lv_aload_n hx hb dX12_hadOn_44 rfl (lv_at hl 0 rfl) ?_
      refine va_get (D := (dC, dI)) (ci := 12) (v := .ref (ad 16)) (C := RX12) (T := TX12) (N := 46) hx hb hts inG12 hown hK hP 0 (gM_0 cs ad nu67) rfl 26 (by decide) (hts _ (List.mem_cons_of_mem _ mw_5_67)) (fun _ h9 => h9) rfl dX12_hadOn_45 ?_
      refine lv_iload_n hx hb dX12_hadOn_48 rfl (lv_at hl 2 rfl) ?_
      refine lv_iconst (v := 1) hx hb dX12_hadOn_49 (by decide) ?_
      refine lv_isub hx hb dX12_hadOn_50 ?_
      refine lq_i 5 (by decide) ?_
      refine va_iald hx hb hK hP 16 0 (gM_16 cs ad nu67) rfl (show vp_in 5 7 from (by unfold vp_in; decide)) dX12_hadOn_51 ?_
      refine lv_topi (fun y73 ey73 => ?_)
      have by73 : y73.toInt = (nu67 16 (5 : Int32).toNatClampNeg).toInt := congrArg Int32.toInt ey73
      have gy73 : 0 ≤ y73.toInt ∧ y73.toInt ≤ 6 := by rw [ey73]; exact rM_16_s ok (5 : Int32).toNatClampNeg
      refine lv_ishl hx hb dX12_hadOn_52 ?_
      refine lv_topi (fun t74 et74 => ?_)
      refine lv_ior hx hb dX12_hadOn_53 ?_
      refine lv_topi (fun t75 et75 => ?_)
      refine va_put (D := (dC, dI)) (ci := 12) (v := .int t75) (ty := .int) (C := RX12) (T := TX12) (N := 46) hx hb hts inG12 tyX12 tyX12_ok nmX12 hown hK hP (wR_D nu67 hD) hS 0 (gM_0 cs ad nu67) rfl 43 (by decide) (hts _ (List.mem_cons_of_mem _ mw_5_84)) (fun _ h9 => h9) rfl (by decide +kernel) rfl rfl (Nat.le_of_ble_eq_true rfl) dX12_hadOn_54 (fun H locs hP _ hS => ?_)
      simp only [List.set_cons_succ, List.set_cons_zero] at hP
      refine wr_gen (upd (nu67 0) 43 t75) hP ((hM_0_43 cs ad _ _)) (fun nu76 hn76 hP => ?_)
      have ok := tM_0_43 ok hn76
      have ez77 : y1 = nu76 2 vr.toNatClampNeg := ez68.trans (congrFun (up_k hn76 (by decide)) vr.toNatClampNeg).symm
      have ez78 : t66 = nu76 0 42 := ez71.trans (up_f hn76 (by decide)).symm
      have ez79 : y73 = nu76 16 (5 : Int32).toNatClampNeg := ey73.trans (congrFun (up_k hn76 (by decide)) (5 : Int32).toNatClampNeg).symm
      have kp80 : ∀ k : Nat, 2 ≤ k → k < 3 → nu76 k = mu k := fun k h1 h2 => (up_k hn76 (ne_lo (by decide) h1).symm).trans (kp69 k h1 h2)
      have kp81 : (∀ k f : Nat, Nat.testBit 510 (gpM k f) = true → nu76 k f = mu k f) := kp_f hn76 (by decide) kp70
      have ez82 : t75 = nu76 0 43 := up_v hn76
      refine lv_aload_n hx hb dX12_hadOn_57 rfl (lv_at hl 0 rfl) ?_
      refine lv_dup hx hb dX12_hadOn_58 rfl ?_
      refine va_get (D := (dC, dI)) (ci := 12) (v := .int (nu76 0 44)) (C := RX12) (T := TX12) (N := 46) hx hb hts inG12 hown hK hP 0 (gM_0 cs ad nu76) rfl 44 (by decide) (hts _ (List.mem_cons_of_mem _ mw_5_85)) (fun _ h9 => h9) rfl dX12_hadOn_59 ?_
      refine lv_topi (fun y83 ey83 => ?_)
      have by83 : y83.toInt = (nu76 0 44).toInt := congrArg Int32.toInt ey83
      refine lv_iload_n hx hb dX12_hadOn_62 rfl (lv_at hl 3 rfl) ?_
      refine lv_iand hx hb dX12_hadOn_63 ?_
      refine lv_topi (fun t84 et84 => ?_)
      refine va_put (D := (dC, dI)) (ci := 12) (v := .int t84) (ty := .int) (C := RX12) (T := TX12) (N := 46) hx hb hts inG12 tyX12 tyX12_ok nmX12 hown hK hP (wR_D nu76 hD) hS 0 (gM_0 cs ad nu76) rfl 44 (by decide) (hts _ (List.mem_cons_of_mem _ mw_5_85)) (fun _ h9 => h9) rfl (by decide +kernel) rfl rfl (Nat.le_of_ble_eq_true rfl) dX12_hadOn_64 (fun H locs hP _ hS => ?_)
      simp only [List.set_cons_succ, List.set_cons_zero] at hP
      refine wr_gen (upd (nu76 0) 44 t84) hP ((hM_0_44 cs ad _ _)) (fun nu85 hn85 hP => ?_)
      have ok := tM_0_44 ok hn85
      have ez86 : y1 = nu85 2 vr.toNatClampNeg := ez77.trans (congrFun (up_k hn85 (by decide)) vr.toNatClampNeg).symm
      have ez87 : t66 = nu85 0 42 := ez78.trans (up_f hn85 (by decide)).symm
      have ez88 : y73 = nu85 16 (5 : Int32).toNatClampNeg := ez79.trans (congrFun (up_k hn85 (by decide)) (5 : Int32).toNatClampNeg).symm
      have ez89 : t75 = nu85 0 43 := ez82.trans (up_f hn85 (by decide)).symm
      have kp90 : ∀ k : Nat, 2 ≤ k → k < 3 → nu85 k = mu k := fun k h1 h2 => (up_k hn85 (ne_lo (by decide) h1).symm).trans (kp80 k h1 h2)
      have kp91 : (∀ k f : Nat, Nat.testBit 510 (gpM k f) = true → nu85 k f = mu k f) := kp_f hn85 (by decide) kp81
      have ez92 : t84 = nu85 0 44 := up_v hn85
      exact W.vret hx hb hr (fun t ht hW => ⟨⟨nu85, rfl, ⟨ok, trivial, kp90, kp91⟩, by first | (subst ht; exact hP) | (rw [ht]; exact hP) | (show va_P (dC, dI) vwCl (wR 21 ad (EM cs ad) nu85) t.heap; rw [ht]; exact hP)⟩, hS.F ht⟩) hS.2.2 dX12_hadOn_67
    · have c_65 : y64.toInt = 0 := il_eq c_65
      refine lv_aload_n hx hb dX12_hadOn_19 rfl (lv_at hl 0 rfl) ?_
      refine lv_aload_n hx hb dX12_hadOn_20 rfl (lv_at hl 0 rfl) ?_
      refine va_get (D := (dC, dI)) (ci := 12) (v := .ref (ad 17)) (C := RX12) (T := TX12) (N := 46) hx hb hts inG12 hown hK hP 0 (gM_0 cs ad mu) rfl 27 (by decide) (hts _ (List.mem_cons_of_mem _ mw_5_68)) (fun _ h9 => h9) rfl dX12_hadOn_21 ?_
      refine lv_iload_n hx hb dX12_hadOn_24 rfl (lv_at hl 2 rfl) ?_
      have hFc := fr_all (wR_D mu hD) hS hA
      refine va_callv (va_runV (As := [.ref (ad 17), .int 6]) (rest := []) ⟨hx, hb, hml, hown, hts⟩ (sm_copyRoute17 l dC dI cs ad mu ok s.heap hP ((wR_D mu hD).weaken (fun _ _ _ _ => trivial)) 6 (by have h51 : (6 : Int32).toInt = 6 := rfl; omega)) (cwV 2 hts (wU_V mw_6_191 mw_6_188 mw_6_190 mw_0_57 mw_1_13) rfl rfl rfl (by decide +kernel) ⟨Nat.le_of_ble_eq_true rfl, Nat.le_of_ble_eq_true rfl⟩) ⟨sz_c, va_recv hK hP (ci := 12) (q0 := 0) rfl (gM_0 cs ad mu), sz_m hK hz⟩ rfl rfl hl.1 rfl (lv_room (Nat.le_of_ble_eq_true rfl)) dX12_hadOn_25 ⟨Nat.zero_le _, Nat.zero_le _⟩) hS (fun q _ h => hFc q h) hFc (fun xi93 t H93 locs ht hvm hw93 hB hz1 hk1 hS => ?_)
      have hP : va_P (dC, dI) vwCl (wR 21 ad (EM cs ad) xi93) H93 := by rw [← ht]; exact hB
      obtain ⟨hfe93, ok, hw93, hkp93_0, hkp93_1⟩ := hw93
      have ez94 : y1 = xi93 2 vr.toNatClampNeg := ey1.trans (congrFun (hkp93_0 2 (by decide) (by decide)) vr.toNatClampNeg).symm
      have ez95 : y64 = xi93 0 42 := ey64.trans (congrFun (hkp93_0 0 (by decide) (by decide)) 42).symm
      have kp96 : ∀ k : Nat, 2 ≤ k → k < 3 → xi93 k = mu k := fun k h1 h2 => (hkp93_0 k (Nat.le_trans (by decide) h1) (Nat.lt_of_lt_of_le h2 (by decide))).trans ((fun _ _ _ => rfl) k h1 h2)
      have kp97 : (∀ k f : Nat, Nat.testBit 510 (gpM k f) = true → xi93 k f = mu k f) := kp_t hkp93_1 (by decide) (fun _ _ _ => rfl)
      refine lv_aload_n hx hb dX12_hadOn_28 rfl (lv_at hl 0 rfl) ?_
      refine lv_dup hx hb dX12_hadOn_29 rfl ?_
      refine va_get (D := (dC, dI)) (ci := 12) (v := .int (xi93 0 42)) (C := RX12) (T := TX12) (N := 46) hx hb hts inG12 hown hK hP 0 (gM_0 cs ad xi93) rfl 42 (by decide) (hts _ (List.mem_cons_of_mem _ mw_5_83)) (fun _ h9 => h9) rfl dX12_hadOn_30 ?_
      refine lq_i y64 ez95.symm ?_
      refine lv_iconst (v := 1) hx hb dX12_hadOn_33 (by decide) ?_
      refine lv_iadd hx hb dX12_hadOn_34 ?_
      refine lv_topi (fun t98 et98 => ?_)
      have at98 : t98.toInt = y64.toInt + 1 := by rw [et98]; exact va1 (by omega)
      refine va_put (D := (dC, dI)) (ci := 12) (v := .int t98) (ty := .int) (C := RX12) (T := TX12) (N := 46) hx hb hts inG12 tyX12 tyX12_ok nmX12 hown hK hP (wR_D xi93 hD) hS 0 (gM_0 cs ad xi93) rfl 42 (by decide) (hts _ (List.mem_cons_of_mem _ mw_5_83)) (fun _ h9 => h9) rfl (by decide +kernel) rfl rfl (Nat.le_of_ble_eq_true rfl) dX12_hadOn_35 (fun H locs hP _ hS => ?_)
      simp only [List.set_cons_succ, List.set_cons_zero] at hP
      refine wr_gen (upd (xi93 0) 42 t98) hP ((hM_0_42 cs ad _ _)) (fun nu99 hn99 hP => ?_)
      have ok := tM_0_42 ok hn99
      have ez100 : y1 = nu99 2 vr.toNatClampNeg := ez94.trans (congrFun (up_k hn99 (by decide)) vr.toNatClampNeg).symm
      have kp101 : ∀ k : Nat, 2 ≤ k → k < 3 → nu99 k = mu k := fun k h1 h2 => (up_k hn99 (ne_lo (by decide) h1).symm).trans (kp96 k h1 h2)
      have kp102 : (∀ k f : Nat, Nat.testBit 510 (gpM k f) = true → nu99 k f = mu k f) := kp_f hn99 (by decide) kp97
      have ez103 : t98 = nu99 0 42 := up_v hn99
      refine lv_aload_n hx hb dX12_hadOn_38 rfl (lv_at hl 0 rfl) ?_
      refine lv_dup hx hb dX12_hadOn_39 rfl ?_
      refine va_get (D := (dC, dI)) (ci := 12) (v := .int (nu99 0 43)) (C := RX12) (T := TX12) (N := 46) hx hb hts inG12 hown hK hP 0 (gM_0 cs ad nu99) rfl 43 (by decide) (hts _ (List.mem_cons_of_mem _ mw_5_84)) (fun _ h9 => h9) rfl dX12_hadOn_40 ?_
      refine lv_topi (fun y104 ey104 => ?_)
      have by104 : y104.toInt = (nu99 0 43).toInt := congrArg Int32.toInt ey104
      refine lv_iconst (v := 1) hx hb dX12_hadOn_43 (by decide) ?_
      refine lv_aload_n hx hb dX12_hadOn_44 rfl (lv_at hl 0 rfl) ?_
      refine va_get (D := (dC, dI)) (ci := 12) (v := .ref (ad 16)) (C := RX12) (T := TX12) (N := 46) hx hb hts inG12 hown hK hP 0 (gM_0 cs ad nu99) rfl 26 (by decide) (hts _ (List.mem_cons_of_mem _ mw_5_67)) (fun _ h9 => h9) rfl dX12_hadOn_45 ?_
      refine lv_iload_n hx hb dX12_hadOn_48 rfl (lv_at hl 2 rfl) ?_
      refine lv_iconst (v := 1) hx hb dX12_hadOn_49 (by decide) ?_
      refine lv_isub hx hb dX12_hadOn_50 ?_
      refine lq_i 5 (by decide) ?_
      refine va_iald hx hb hK hP 16 0 (gM_16 cs ad nu99) rfl (show vp_in 5 7 from (by unfold vp_in; decide)) dX12_hadOn_51 ?_
      refine lv_topi (fun y105 ey105 => ?_)
      have by105 : y105.toInt = (nu99 16 (5 : Int32).toNatClampNeg).toInt := congrArg Int32.toInt ey105
      have gy105 : 0 ≤ y105.toInt ∧ y105.toInt ≤ 6 := by rw [ey105]; exact rM_16_s ok (5 : Int32).toNatClampNeg
      refine lv_ishl hx hb dX12_hadOn_52 ?_
      refine lv_topi (fun t106 et106 => ?_)
      refine lv_ior hx hb dX12_hadOn_53 ?_
      refine lv_topi (fun t107 et107 => ?_)
      refine va_put (D := (dC, dI)) (ci := 12) (v := .int t107) (ty := .int) (C := RX12) (T := TX12) (N := 46) hx hb hts inG12 tyX12 tyX12_ok nmX12 hown hK hP (wR_D nu99 hD) hS 0 (gM_0 cs ad nu99) rfl 43 (by decide) (hts _ (List.mem_cons_of_mem _ mw_5_84)) (fun _ h9 => h9) rfl (by decide +kernel) rfl rfl (Nat.le_of_ble_eq_true rfl) dX12_hadOn_54 (fun H locs hP _ hS => ?_)
      simp only [List.set_cons_succ, List.set_cons_zero] at hP
      refine wr_gen (upd (nu99 0) 43 t107) hP ((hM_0_43 cs ad _ _)) (fun nu108 hn108 hP => ?_)
      have ok := tM_0_43 ok hn108
      have ez109 : y1 = nu108 2 vr.toNatClampNeg := ez100.trans (congrFun (up_k hn108 (by decide)) vr.toNatClampNeg).symm
      have ez110 : t98 = nu108 0 42 := ez103.trans (up_f hn108 (by decide)).symm
      have ez111 : y105 = nu108 16 (5 : Int32).toNatClampNeg := ey105.trans (congrFun (up_k hn108 (by decide)) (5 : Int32).toNatClampNeg).symm
      have kp112 : ∀ k : Nat, 2 ≤ k → k < 3 → nu108 k = mu k := fun k h1 h2 => (up_k hn108 (ne_lo (by decide) h1).symm).trans (kp101 k h1 h2)
      have kp113 : (∀ k f : Nat, Nat.testBit 510 (gpM k f) = true → nu108 k f = mu k f) := kp_f hn108 (by decide) kp102
      have ez114 : t107 = nu108 0 43 := up_v hn108
      refine lv_aload_n hx hb dX12_hadOn_57 rfl (lv_at hl 0 rfl) ?_
      refine lv_dup hx hb dX12_hadOn_58 rfl ?_
      refine va_get (D := (dC, dI)) (ci := 12) (v := .int (nu108 0 44)) (C := RX12) (T := TX12) (N := 46) hx hb hts inG12 hown hK hP 0 (gM_0 cs ad nu108) rfl 44 (by decide) (hts _ (List.mem_cons_of_mem _ mw_5_85)) (fun _ h9 => h9) rfl dX12_hadOn_59 ?_
      refine lv_topi (fun y115 ey115 => ?_)
      have by115 : y115.toInt = (nu108 0 44).toInt := congrArg Int32.toInt ey115
      refine lv_iload_n hx hb dX12_hadOn_62 rfl (lv_at hl 3 rfl) ?_
      refine lv_iand hx hb dX12_hadOn_63 ?_
      refine lv_topi (fun t116 et116 => ?_)
      refine va_put (D := (dC, dI)) (ci := 12) (v := .int t116) (ty := .int) (C := RX12) (T := TX12) (N := 46) hx hb hts inG12 tyX12 tyX12_ok nmX12 hown hK hP (wR_D nu108 hD) hS 0 (gM_0 cs ad nu108) rfl 44 (by decide) (hts _ (List.mem_cons_of_mem _ mw_5_85)) (fun _ h9 => h9) rfl (by decide +kernel) rfl rfl (Nat.le_of_ble_eq_true rfl) dX12_hadOn_64 (fun H locs hP _ hS => ?_)
      simp only [List.set_cons_succ, List.set_cons_zero] at hP
      refine wr_gen (upd (nu108 0) 44 t116) hP ((hM_0_44 cs ad _ _)) (fun nu117 hn117 hP => ?_)
      have ok := tM_0_44 ok hn117
      have ez118 : y1 = nu117 2 vr.toNatClampNeg := ez109.trans (congrFun (up_k hn117 (by decide)) vr.toNatClampNeg).symm
      have ez119 : t98 = nu117 0 42 := ez110.trans (up_f hn117 (by decide)).symm
      have ez120 : y105 = nu117 16 (5 : Int32).toNatClampNeg := ez111.trans (congrFun (up_k hn117 (by decide)) (5 : Int32).toNatClampNeg).symm
      have ez121 : t107 = nu117 0 43 := ez114.trans (up_f hn117 (by decide)).symm
      have kp122 : ∀ k : Nat, 2 ≤ k → k < 3 → nu117 k = mu k := fun k h1 h2 => (up_k hn117 (ne_lo (by decide) h1).symm).trans (kp112 k h1 h2)
      have kp123 : (∀ k f : Nat, Nat.testBit 510 (gpM k f) = true → nu117 k f = mu k f) := kp_f hn117 (by decide) kp113
      have ez124 : t116 = nu117 0 44 := up_v hn117
      exact W.vret hx hb hr (fun t ht hW => ⟨⟨nu117, rfl, ⟨ok, trivial, kp122, kp123⟩, by first | (subst ht; exact hP) | (rw [ht]; exact hP) | (show va_P (dC, dI) vwCl (wR 21 ad (EM cs ad) nu117) t.heap; rw [ht]; exact hP)⟩, hS.F ht⟩) hS.2.2 dX12_hadOn_67
set_option maxHeartbeats 4000000 in
set_option maxRecDepth 100000 in
/-- sm_hadOn5 -/
theorem sm_hadOn5 (l : Launch) (dC : Nat → ClassId) (dI : Nat → Nat → Nat) (cs : Nat → ClassId) (ad : Nat → Nat) (mu : Nat → Nat → Int32) (ok : okR loM hiM mu) (H : Heap) (hP : va_P (dC, dI) vwCl (wR 21 ad (EM cs ad) mu) H) (hD0 : va_D (fun _ => True) (wR 21 ad (EM cs ad) mu)) (vr : Int32) (vh : Int32) (vp : Int32) (hin0 : 0 ≤ vr.toInt ∧ vr.toInt ≤ 5) (hin1 : 5 ≤ (mu 2 vr.toNatClampNeg).toInt + 1 ∧ (mu 2 vr.toNatClampNeg).toInt ≤ 6) : Met l yX12_hadOn (wU yX12_hadOn cX12_hadOn 10 none) ({ frames := 3, cells := 0, slots := 0, locals := 81 }) (va_Pc [.ref (ad 0), .int vr, .int 5, .int vh, .int vp] (sz_P (dC, dI) vwCl (tyM cs) H)) (va_Qv (fun (xi : Nat → Nat → Int32) => okR loM hiM xi ∧ (True) ∧ (∀ k : Nat, 2 ≤ k → k < 3 → xi k = mu k) ∧ (∀ k f : Nat, Nat.testBit 510 (gpM k f) = true → xi k f = mu k f)) (fun xi t => va_P (dC, dI) vwCl (wR 21 ad (EM cs ad) xi) t.heap) (va_A (wR 21 ad (EM cs ad) mu) H.size)) 0 0 (va_A (wR 21 ad (EM cs ad) mu) H.size) := by
  refine Met.ofW (cc := cX12_hadOn) (maxL := 10) (ret := none) (by decide) rfl ?_
  intro p e s m args below meth c s₁ B hml hv
  obtain ⟨rfl, hh, hK, hz⟩ := hv
  have hx := B.exec
  have hb := B.bytes
  have hr := B.returns
  have hts := atoms_spec (ws := (wU yX12_hadOn cX12_hadOn 10 none)) B.pre
  have hown : s.vm.findClass RX12 = some m.cls := findClass_of_methodNamed B.named
  have hlocks := B.notSynchronized
  subst hh
  have hD := hD0.self (sz := s.heap.size)
  have hA : ∀ q : Nat, s.heap.size ≤ q → (va_A (wR 21 ad (EM cs ad) mu) s.heap.size) q := fun q h => Or.inr h
  have hS : va_S (va_A (wR 21 ad (EM cs ad) mu) s.heap.size) s.heap s.heap [] := va_S.rf
  have hl := lv_entry ([.ref (ad 0), .int vr, .int 5, .int vh, .int vp]) (n := 10) (Nat.le_of_ble_eq_true rfl)
  rw [lg_entry_eq]
  generalize (lg_sl ([.ref (ad 0), .int vr, .int 5, .int vh, .int vp]) ++ List.replicate (10 - (lg_sl ([.ref (ad 0), .int vr, .int 5, .int vh, .int vp])).length) Slot.unset).toArray = ls at hl ⊢
  have hl : lv_has ls 10 [(0, .ref (ad 0)), (1, .int vr), (2, .int 5), (3, .int vh), (4, .int vp)] := hl
  refine lv_iload_n hx hb dX12_hadOn_0 rfl (lv_at hl 2 rfl) ?_
  refine lv_aload_n hx hb dX12_hadOn_1 rfl (lv_at hl 0 rfl) ?_
  refine va_get (D := (dC, dI)) (ci := 12) (v := .ref (ad 2)) (C := RX12) (T := TX12) (N := 46) hx hb hts inG12 hown hK hP 0 (gM_0 cs ad mu) rfl 3 (by decide) (hts _ (List.mem_cons_of_mem _ mw_5_44)) (fun _ h9 => h9) rfl dX12_hadOn_2 ?_
  refine lv_iload_n hx hb dX12_hadOn_5 rfl (lv_at hl 1 rfl) ?_
  refine va_iald hx hb hK hP 2 0 (gM_2 cs ad mu) rfl (show vp_in vr 6 from vi_of (by omega) (by omega)) dX12_hadOn_6 ?_
  refine lv_topi (fun y1 ey1 => ?_)
  have by1 : y1.toInt = (mu 2 vr.toNatClampNeg).toInt := congrArg Int32.toInt ey1
  have gy1 : -9 ≤ y1.toInt ∧ y1.toInt ≤ 40 := by rw [ey1]; exact rM_2_s ok vr.toNatClampNeg
  refine lv_iconst (v := 1) hx hb dX12_hadOn_7 (by decide) ?_
  refine lv_iadd hx hb dX12_hadOn_8 ?_
  refine lv_topi (fun t2 et2 => ?_)
  have at2 : t2.toInt = y1.toInt + 1 := by rw [et2]; exact va1 (by omega)
  refine lv_icmp_ne (tgt := 68) hx hb dX12_hadOn_9 (by decide) (fun c_3 => ?_) (fun c_3 => ?_)
  · have c_3 : ¬ 5 = t2.toInt := il_ne c_3
    refine lv_aload_n hx hb dX12_hadOn_68 rfl (lv_at hl 0 rfl) ?_
    refine va_get (D := (dC, dI)) (ci := 12) (v := .ref (ad 16)) (C := RX12) (T := TX12) (N := 46) hx hb hts inG12 hown hK hP 0 (gM_0 cs ad mu) rfl 26 (by decide) (hts _ (List.mem_cons_of_mem _ mw_5_67)) (fun _ h9 => h9) rfl dX12_hadOn_69 ?_
    refine lv_iload_n hx hb dX12_hadOn_72 rfl (lv_at hl 2 rfl) ?_
    refine lv_iconst (v := 1) hx hb dX12_hadOn_73 (by decide) ?_
    refine lv_isub hx hb dX12_hadOn_74 ?_
    refine lq_i 4 (by decide) ?_
    refine va_iald hx hb hK hP 16 0 (gM_16 cs ad mu) rfl (show vp_in 4 7 from (by unfold vp_in; decide)) dX12_hadOn_75 ?_
    refine lv_topi (fun y4 ey4 => ?_)
    have by4 : y4.toInt = (mu 16 (4 : Int32).toNatClampNeg).toInt := congrArg Int32.toInt ey4
    have gy4 : 0 ≤ y4.toInt ∧ y4.toInt ≤ 6 := by rw [ey4]; exact rM_16_s ok (4 : Int32).toNatClampNeg
    refine lv_istore (lv' := [(5, .int y4), (0, .ref (ad 0)), (1, .int vr), (2, .int 5), (3, .int vh), (4, .int vp)]) hx hb dX12_hadOn_76 hl (by decide) rfl (fun ls hl => ?_)
    refine lv_aload_n hx hb dX12_hadOn_78 rfl (lv_at hl 1 rfl) ?_
    refine lv_iload hx hb dX12_hadOn_79 (lv_at hl 0 rfl) ?_
    refine lv_iload hx hb dX12_hadOn_81 (lv_at hl 5 rfl) ?_
    refine cr_i (va_runV (As := [.int y4, .int vp]) (rest := []) ⟨hx, hb, hml, hown, hts⟩ (sm_asksOf l dC dI cs ad mu ok s.heap hP y4 vp (by omega)) (cwV 2 hts (wU_V mw_6_74 mw_6_71 mw_6_73 mw_0_42 mw_1_13) rfl rfl rfl (by decide +kernel) ⟨Nat.le_of_ble_eq_true rfl, Nat.le_of_ble_eq_true rfl⟩) ⟨sz_c, va_recv hK hP (ci := 12) (q0 := 0) rfl (gM_0 cs ad mu), sz_m hK hz⟩ rfl rfl hl.1 rfl (lv_room (Nat.le_of_ble_eq_true rfl)) dX12_hadOn_83 ⟨Nat.zero_le _, Nat.zero_le _⟩) hS (fun r5 hw5 locs hS => ?_)
    obtain ⟨hfe5, hw5⟩ := hw5
    refine lv_istore (lv' := [(6, .int r5), (5, .int y4), (0, .ref (ad 0)), (1, .int vr), (2, .int 5), (3, .int vh), (4, .int vp)]) hx hb dX12_hadOn_86 hl (by decide) rfl (fun ls hl => ?_)
    refine lv_iload hx hb dX12_hadOn_88 (lv_at hl 0 rfl) ?_
    refine lv_aload_n hx hb dX12_hadOn_90 rfl (lv_at hl 2 rfl) ?_
    refine lv_iload_n hx hb dX12_hadOn_91 rfl (lv_at hl 3 rfl) ?_
    refine lv_iload_n hx hb dX12_hadOn_92 rfl (lv_at hl 4 rfl) ?_
    refine lv_iconst (v := 1) hx hb dX12_hadOn_93 (by decide) ?_
    refine lv_isub hx hb dX12_hadOn_94 ?_
    refine lq_i 4 (by decide) ?_
    refine cr_i (va_runV (As := [.int vr, .int 4]) (rest := [.int r5]) ⟨hx, hb, hml, hown, hts⟩ (sm_rowAt l dC dI cs ad mu ok s.heap hP vr 4 (by have h51 : (4 : Int32).toInt = 4 := rfl; omega)) (cwV 2 hts (wU_V mw_5_209 mw_5_206 mw_5_208 mw_0_29 mw_1_13) rfl rfl rfl (by decide +kernel) ⟨Nat.le_of_ble_eq_true rfl, Nat.le_of_ble_eq_true rfl⟩) ⟨sz_c, va_recv hK hP (ci := 12) (q0 := 0) rfl (gM_0 cs ad mu), sz_m hK hz⟩ rfl rfl hl.1 rfl (lv_room (Nat.le_of_ble_eq_true rfl)) dX12_hadOn_95 ⟨Nat.zero_le _, Nat.zero_le _⟩) hS (fun r6 hw6 locs hS => ?_)
    obtain ⟨hfe6, hw6⟩ := hw6
    refine lv_icmp_ne (tgt := 121) hx hb dX12_hadOn_98 (by decide) (fun c_7 => ?_) (fun c_7 => ?_)
    · have c_7 : ¬ r5.toInt = r6.toInt := il_ne c_7
      refine lv_iconst (v := 0) hx hb dX12_hadOn_121 (by decide) ?_
      refine lv_istore (lv' := [(7, .int 0), (6, .int r5), (5, .int y4), (0, .ref (ad 0)), (1, .int vr), (2, .int 5), (3, .int vh), (4, .int vp)]) hx hb dX12_hadOn_122 hl (by decide) rfl (fun ls hl => ?_)
      refine lv_iload hx hb dX12_hadOn_124 (lv_at hl 0 rfl) ?_
      refine lv_if_eq (tgt := 142) hx hb dX12_hadOn_126 (by decide) (fun _ => ?_) (fun c => absurd (by decide) c)
      refine lv_iconst (v := 0) hx hb dX12_hadOn_142 (by decide) ?_
      refine lv_istore (lv' := [(8, .int 0), (7, .int 0), (6, .int r5), (5, .int y4), (0, .ref (ad 0)), (1, .int vr), (2, .int 5), (3, .int vh), (4, .int vp)]) hx hb dX12_hadOn_143 hl (by decide) rfl (fun ls hl => ?_)
      refine lv_iconst (v := 0) hx hb dX12_hadOn_145 (by decide) ?_
      refine lv_istore (lv' := [(9, .int 0), (8, .int 0), (7, .int 0), (6, .int r5), (5, .int y4), (0, .ref (ad 0)), (1, .int vr), (2, .int 5), (3, .int vh), (4, .int vp)]) hx hb dX12_hadOn_146 hl (by decide) rfl (fun ls hl => ?_)
      have loop148 : ∀ (n148 : Nat) (v9_148 : Int32) (nu148_ : Nat → Nat → Int32) (H : Heap) (locs : List Loc) (ls : Array Slot), (7 + 1 - v9_148.toInt).toNat < n148 → (0 ≤ v9_148.toInt ∧ v9_148.toInt ≤ 7) → okR loM hiM nu148_ → va_P (dC, dI) vwCl (wR 21 ad (EM cs ad) nu148_) H → y1 = nu148_ 2 vr.toNatClampNeg → (∀ k : Nat, 2 ≤ k → k < 3 → nu148_ k = mu k) → (∀ k f : Nat, Nat.testBit 510 (gpM k f) = true → nu148_ k f = mu k f) → va_S (va_A (wR 21 ad (EM cs ad) mu) s.heap.size) s.heap H locs → lv_has ls 10 [(9, .int v9_148), (8, .int 0), (7, .int 0), (6, .int r5), (5, .int y4), (0, .ref (ad 0)), (1, .int vr), (2, .int 5), (3, .int vh), (4, .int vp)] → W p l e (headSpec (wU yX12_hadOn cX12_hadOn 10 none) ({ frames := 3, cells := 0, slots := 0, locals := 81 })).room s m ([.ref (ad 0), .int vr, .int 5, .int vh, .int vp] : List Value).toArray below meth c H locs 0 0 (MQ below (va_Qv (fun (xi : Nat → Nat → Int32) => okR loM hiM xi ∧ (True) ∧ (∀ k : Nat, 2 ≤ k → k < 3 → xi k = mu k) ∧ (∀ k f : Nat, Nat.testBit 510 (gpM k f) = true → xi k f = mu k f)) (fun xi t => va_P (dC, dI) vwCl (wR 21 ad (EM cs ad) xi) t.heap) (va_A (wR 21 ad (EM cs ad) mu) s.heap.size)) ([.ref (ad 0), .int vr, .int 5, .int vh, .int vp] : List Value).toArray s 0 0 (va_A (wR 21 ad (EM cs ad) mu) s.heap.size)) (F0 m 148 ls []) := by
        intro n148
        induction n148 with
        | zero => intro v9_148 nu148_ H locs ls hm; exact absurd hm (Nat.not_lt_zero _)
        | succ n148 ih148 =>
          intro v9_148 nu148_ H locs ls hm_148 h_v9_148 ok hP ek148_0 kq148_0 kq148_1 hS hl
          refine lv_iload hx hb dX12_hadOn_148 (lv_at hl 0 rfl) ?_
          refine lv_aload_n hx hb dX12_hadOn_150 rfl (lv_at hl 5 rfl) ?_
          refine va_get (D := (dC, dI)) (ci := 12) (v := .int (nu148_ 0 8)) (C := RX12) (T := TX12) (N := 46) hx hb hts inG12 hown hK hP 0 (gM_0 cs ad nu148_) rfl 8 (by decide) (hts _ (List.mem_cons_of_mem _ mw_5_49)) (fun _ h9 => h9) rfl dX12_hadOn_151 ?_
          refine lv_topi (fun y8 ey8 => ?_)
          have by8 : y8.toInt = (nu148_ 0 8).toInt := congrArg Int32.toInt ey8
          have gy8 : 0 ≤ y8.toInt ∧ y8.toInt ≤ 7 := by rw [ey8]; exact rM_0_8 ok
          refine lv_icmp_ge (tgt := 197) hx hb dX12_hadOn_154 (by decide) (fun c_9 => ?_) (fun c_9 => ?_)
          · have c_9 : y8.toInt ≤ v9_148.toInt := il_le c_9
            exact W.vret hx hb hr (fun t ht hW => ⟨⟨nu148_, rfl, ⟨ok, trivial, kq148_0, kq148_1⟩, by first | (subst ht; exact hP) | (rw [ht]; exact hP) | (show va_P (dC, dI) vwCl (wR 21 ad (EM cs ad) nu148_) t.heap; rw [ht]; exact hP)⟩, hS.F ht⟩) hS.2.2 dX12_hadOn_197
          · have c_9 : v9_148.toInt < y8.toInt := il_nle c_9
            refine lv_iload hx hb dX12_hadOn_157 (lv_at hl 1 rfl) ?_
            refine lv_iload hx hb dX12_hadOn_159 (lv_at hl 0 rfl) ?_
            refine cr_i (va_runS (As := [.int 0, .int v9_148]) (rest := []) ⟨hx, hb, hml, hown, hts⟩ (sm_has l dC dI (tyM cs) H 0 v9_148) (va_cwS 2 hts (wU_S mw_6_59 mw_6_57 mw_6_58 mw_1_13) rfl rfl rfl (by decide +kernel) ⟨Nat.le_of_ble_eq_true rfl, Nat.le_of_ble_eq_true rfl⟩) ⟨sz_c, sz_m hK hz⟩ rfl rfl hl.1 rfl (lv_room (Nat.le_of_ble_eq_true rfl)) dX12_hadOn_161 ⟨Nat.zero_le _, Nat.zero_le _⟩) hS (fun r10 hw10 locs hS => ?_)
            obtain ⟨hfe10, hw10⟩ := hw10
            rcases hw10 with ⟨rfl, f10⟩ | ⟨rfl, f10⟩
            · have f10 : rb (0 : Int32) v9_148 = 1 := f10
              refine lv_if_eq (tgt := 191) hx hb dX12_hadOn_164 (by decide) (fun c => absurd c (by decide)) (fun _ => ?_)
              refine lv_aload_n hx hb dX12_hadOn_167 rfl (lv_at hl 5 rfl) ?_
              refine va_get (D := (dC, dI)) (ci := 12) (v := .ref (ad 16)) (C := RX12) (T := TX12) (N := 46) hx hb hts inG12 hown hK hP 0 (gM_0 cs ad nu148_) rfl 26 (by decide) (hts _ (List.mem_cons_of_mem _ mw_5_67)) (fun _ h9 => h9) rfl dX12_hadOn_168 ?_
              refine lv_iload_n hx hb dX12_hadOn_171 rfl (lv_at hl 7 rfl) ?_
              refine lv_iload hx hb dX12_hadOn_172 (lv_at hl 0 rfl) ?_
              refine va_iast hx hb hK hP (wR_D nu148_ hD) hS 16 0 (gM_16 cs ad nu148_) rfl (show vp_in 5 7 from (by unfold vp_in; decide)) dX12_hadOn_174 (fun H locs hP _ hS => ?_)
              refine wr_gen (upd (nu148_ 16) (5 : Int32).toNatClampNeg v9_148) hP (rfl) (fun nu11 hn11 hP => ?_)
              have ok := tM_16_s ok (5 : Int32).toNatClampNeg hn11 (by omega)
              have ez12 : y1 = nu11 2 vr.toNatClampNeg := ek148_0.trans (congrFun (up_k hn11 (by decide)) vr.toNatClampNeg).symm
              have ez13 : y8 = nu11 0 8 := ey8.trans (congrFun (up_k hn11 (by decide)) 8).symm
              have kp14 : ∀ k : Nat, 2 ≤ k → k < 3 → nu11 k = mu k := fun k h1 h2 => (up_k hn11 (ne_hi (by decide) h2).symm).trans (kq148_0 k h1 h2)
              have kp15 : (∀ k f : Nat, Nat.testBit 510 (gpM k f) = true → nu11 k f = mu k f) := kp_c 0 hn11 (fun _ => rfl) (by decide) kq148_1
              refine lv_aload_n hx hb dX12_hadOn_175 rfl (lv_at hl 5 rfl) ?_
              refine lv_iload_n hx hb dX12_hadOn_176 rfl (lv_at hl 6 rfl) ?_
              refine lv_iload_n hx hb dX12_hadOn_177 rfl (lv_at hl 7 rfl) ?_
              refine lv_iconst (v := 1) hx hb dX12_hadOn_178 (by decide) ?_
              refine lv_iadd hx hb dX12_hadOn_179 ?_
              refine lq_i 6 (by decide) ?_
              refine lv_iload_n hx hb dX12_hadOn_180 rfl (lv_at hl 8 rfl) ?_
              refine lv_iconst (v := 1) hx hb dX12_hadOn_181 (by decide) ?_
              refine lv_iload hx hb dX12_hadOn_182 (lv_at hl 0 rfl) ?_
              refine lv_ishl hx hb dX12_hadOn_184 ?_
              refine lv_topi (fun t16 et16 => ?_)
              refine lv_ior hx hb dX12_hadOn_185 ?_
              refine lv_topi (fun t17 et17 => ?_)
              refine lv_iload hx hb dX12_hadOn_186 (lv_at hl 3 rfl) ?_
              have hFc := fr_all (wR_D nu11 hD) hS hA
              refine va_callv (va_runV (As := [.int vr, .int 6, .int t17, .int r5]) (rest := []) ⟨hx, hb, hml, hown, hts⟩ (sm_hadOn6 l dC dI cs ad nu11 ok H hP ((wR_D nu11 hD).weaken (fun _ _ _ _ => trivial)) vr t17 r5 (by have h51 : (6 : Int32).toInt = 6 := rfl; omega) (by have h51 : (6 : Int32).toInt = 6 := rfl; have hb18 := congrArg Int32.toInt ez12; omega)) (cwV 4 hts (wU_V mw_7_24 mw_7_21 mw_7_23 mw_0_62 mw_1_13) rfl rfl rfl (by decide +kernel) ⟨Nat.le_of_ble_eq_true rfl, Nat.le_of_ble_eq_true rfl⟩) ⟨sz_c, va_recv hK hP (ci := 12) (q0 := 0) rfl (gM_0 cs ad nu11), sz_m hK hz⟩ rfl rfl hl.1 rfl (lv_room (Nat.le_of_ble_eq_true rfl)) dX12_hadOn_188 ⟨Nat.zero_le _, Nat.zero_le _⟩) hS (fun q _ h => hFc q h) hFc (fun xi19 t H19 locs ht hvm hw19 hB hz1 hk1 hS => ?_)
              have hP : va_P (dC, dI) vwCl (wR 21 ad (EM cs ad) xi19) H19 := by rw [← ht]; exact hB
              obtain ⟨ok, hw19, hkp19_0, hkp19_1⟩ := hw19
              have ez20 : y1 = xi19 2 vr.toNatClampNeg := ez12.trans (congrFun (hkp19_0 2 (by decide) (by decide)) vr.toNatClampNeg).symm
              have kp21 : ∀ k : Nat, 2 ≤ k → k < 3 → xi19 k = mu k := fun k h1 h2 => (hkp19_0 k (Nat.le_trans (by decide) h1) (Nat.lt_of_lt_of_le h2 (by decide))).trans (kp14 k h1 h2)
              have kp22 : (∀ k f : Nat, Nat.testBit 510 (gpM k f) = true → xi19 k f = mu k f) := kp_t hkp19_1 (by decide) kp15
              refine lv_iinc (v := (v9_148 + 1)) (lv' := [(9, .int (v9_148 + 1)), (8, .int 0), (7, .int 0), (6, .int r5), (5, .int y4), (0, .ref (ad 0)), (1, .int vr), (2, .int 5), (3, .int vh), (4, .int vp)]) hx hb dX12_hadOn_191 hl (k := 0) rfl rfl (by decide) rfl (fun ls hl => ?_)
              refine loc_gen (P := fun w9 => lv_has ls 10 [(9, .int w9), (8, .int 0), (7, .int 0), (6, .int r5), (5, .int y4), (0, .ref (ad 0)), (1, .int vr), (2, .int 5), (3, .int vh), (4, .int vp)]) (v9_148 + 1) hl (fun w23 hw23 hl => ?_)
              have hl : lv_has ls 10 [(9, .int w23), (8, .int 0), (7, .int 0), (6, .int r5), (5, .int y4), (0, .ref (ad 0)), (1, .int vr), (2, .int 5), (3, .int vh), (4, .int vp)] := hl
              have aw23 : w23.toInt = v9_148.toInt + 1 := by rw [← hw23]; first | exact va1 (Int.lt_of_le_of_lt h_v9_148.2 (by decide)) | exact va1 (by omega)
              refine lv_goto (tgt := 148) hx hb dX12_hadOn_194 (by decide) ?_
              exact ih148 (w23) xi19 _ _ _ (by first | exact ms_up hm_148 aw23 h_v9_148.2 | exact ms_lt hm_148 (by omega) (by omega) | omega) (by first | exact rg_up aw23 h_v9_148 (by omega) | omega)  ok hP ez20 kp21 kp22 hS (lv_sub hl [0, 1, 2, 3, 4, 5, 6, 7, 8, 9] rfl)
            · have f10 : ¬ rb (0 : Int32) v9_148 = 1 := f10
              refine lv_if_eq (tgt := 191) hx hb dX12_hadOn_164 (by decide) (fun _ => ?_) (fun c => absurd (by decide) c)
              refine lv_iinc (v := (v9_148 + 1)) (lv' := [(9, .int (v9_148 + 1)), (8, .int 0), (7, .int 0), (6, .int r5), (5, .int y4), (0, .ref (ad 0)), (1, .int vr), (2, .int 5), (3, .int vh), (4, .int vp)]) hx hb dX12_hadOn_191 hl (k := 0) rfl rfl (by decide) rfl (fun ls hl => ?_)
              refine loc_gen (P := fun w9 => lv_has ls 10 [(9, .int w9), (8, .int 0), (7, .int 0), (6, .int r5), (5, .int y4), (0, .ref (ad 0)), (1, .int vr), (2, .int 5), (3, .int vh), (4, .int vp)]) (v9_148 + 1) hl (fun w24 hw24 hl => ?_)
              have hl : lv_has ls 10 [(9, .int w24), (8, .int 0), (7, .int 0), (6, .int r5), (5, .int y4), (0, .ref (ad 0)), (1, .int vr), (2, .int 5), (3, .int vh), (4, .int vp)] := hl
              have aw24 : w24.toInt = v9_148.toInt + 1 := by rw [← hw24]; first | exact va1 (Int.lt_of_le_of_lt h_v9_148.2 (by decide)) | exact va1 (by omega)
              refine lv_goto (tgt := 148) hx hb dX12_hadOn_194 (by decide) ?_
              exact ih148 (w24) nu148_ _ _ _ (by first | exact ms_up hm_148 aw24 h_v9_148.2 | exact ms_lt hm_148 (by omega) (by omega) | omega) (by first | exact rg_up aw24 h_v9_148 (by omega) | omega)  ok hP ek148_0 kq148_0 kq148_1 hS (lv_sub hl [0, 1, 2, 3, 4, 5, 6, 7, 8, 9] rfl)
      exact loop148 ((7 + 1 - (0 : Int32).toInt).toNat + 1) (0) mu _ _ _ (Nat.lt_succ_self _) (by have h80 : (0 : Int32).toInt = 0 := rfl; exact ⟨by omega, by omega⟩)  ok hP ey1 (fun _ _ _ => rfl) (fun _ _ _ => rfl) hS hl
    · have c_7 : r5.toInt = r6.toInt := il_eq c_7
      refine lv_iload_n hx hb dX12_hadOn_101 rfl (lv_at hl 4 rfl) ?_
      refine lv_iconst (v := 1) hx hb dX12_hadOn_102 (by decide) ?_
      refine lv_icmp_eq (tgt := 117) hx hb dX12_hadOn_103 (by decide) (fun c => absurd c (by decide)) (fun _ => ?_)
      refine lv_aload_n hx hb dX12_hadOn_106 rfl (lv_at hl 2 rfl) ?_
      refine va_get (D := (dC, dI)) (ci := 12) (v := .ref (ad 7)) (C := RX12) (T := TX12) (N := 46) hx hb hts inG12 hown hK hP 0 (gM_0 cs ad mu) rfl 9 (by decide) (hts _ (List.mem_cons_of_mem _ mw_5_50)) (fun _ h9 => h9) rfl dX12_hadOn_107 ?_
      refine lv_iload hx hb dX12_hadOn_110 (lv_at hl 1 rfl) ?_
      refine va_iald hx hb hK hP 7 0 (gM_7 cs ad mu) rfl (show vp_in y4 7 from vi_of (by omega) (by omega)) dX12_hadOn_112 ?_
      refine lv_topi (fun y25 ey25 => ?_)
      have by25 : y25.toInt = (mu 7 y4.toNatClampNeg).toInt := congrArg Int32.toInt ey25
      refine lv_iconst (v := 3) hx hb dX12_hadOn_113 (by decide) ?_
      refine lv_icmp_eq (tgt := 121) hx hb dX12_hadOn_114 (by decide) (fun c_26 => ?_) (fun c_26 => ?_)
      · have c_26 : y25.toInt = 3 := il_eq c_26
        refine lv_iconst (v := 0) hx hb dX12_hadOn_121 (by decide) ?_
        refine lv_istore (lv' := [(7, .int 0), (6, .int r5), (5, .int y4), (0, .ref (ad 0)), (1, .int vr), (2, .int 5), (3, .int vh), (4, .int vp)]) hx hb dX12_hadOn_122 hl (by decide) rfl (fun ls hl => ?_)
        refine lv_iload hx hb dX12_hadOn_124 (lv_at hl 0 rfl) ?_
        refine lv_if_eq (tgt := 142) hx hb dX12_hadOn_126 (by decide) (fun _ => ?_) (fun c => absurd (by decide) c)
        refine lv_iconst (v := 0) hx hb dX12_hadOn_142 (by decide) ?_
        refine lv_istore (lv' := [(8, .int 0), (7, .int 0), (6, .int r5), (5, .int y4), (0, .ref (ad 0)), (1, .int vr), (2, .int 5), (3, .int vh), (4, .int vp)]) hx hb dX12_hadOn_143 hl (by decide) rfl (fun ls hl => ?_)
        refine lv_iconst (v := 0) hx hb dX12_hadOn_145 (by decide) ?_
        refine lv_istore (lv' := [(9, .int 0), (8, .int 0), (7, .int 0), (6, .int r5), (5, .int y4), (0, .ref (ad 0)), (1, .int vr), (2, .int 5), (3, .int vh), (4, .int vp)]) hx hb dX12_hadOn_146 hl (by decide) rfl (fun ls hl => ?_)
        have loop148 : ∀ (n148 : Nat) (v9_148 : Int32) (nu148_ : Nat → Nat → Int32) (H : Heap) (locs : List Loc) (ls : Array Slot), (7 + 1 - v9_148.toInt).toNat < n148 → (0 ≤ v9_148.toInt ∧ v9_148.toInt ≤ 7) → okR loM hiM nu148_ → va_P (dC, dI) vwCl (wR 21 ad (EM cs ad) nu148_) H → y1 = nu148_ 2 vr.toNatClampNeg → (∀ k : Nat, 2 ≤ k → k < 3 → nu148_ k = mu k) → (∀ k f : Nat, Nat.testBit 510 (gpM k f) = true → nu148_ k f = mu k f) → va_S (va_A (wR 21 ad (EM cs ad) mu) s.heap.size) s.heap H locs → lv_has ls 10 [(9, .int v9_148), (8, .int 0), (7, .int 0), (6, .int r5), (5, .int y4), (0, .ref (ad 0)), (1, .int vr), (2, .int 5), (3, .int vh), (4, .int vp)] → W p l e (headSpec (wU yX12_hadOn cX12_hadOn 10 none) ({ frames := 3, cells := 0, slots := 0, locals := 81 })).room s m ([.ref (ad 0), .int vr, .int 5, .int vh, .int vp] : List Value).toArray below meth c H locs 0 0 (MQ below (va_Qv (fun (xi : Nat → Nat → Int32) => okR loM hiM xi ∧ (True) ∧ (∀ k : Nat, 2 ≤ k → k < 3 → xi k = mu k) ∧ (∀ k f : Nat, Nat.testBit 510 (gpM k f) = true → xi k f = mu k f)) (fun xi t => va_P (dC, dI) vwCl (wR 21 ad (EM cs ad) xi) t.heap) (va_A (wR 21 ad (EM cs ad) mu) s.heap.size)) ([.ref (ad 0), .int vr, .int 5, .int vh, .int vp] : List Value).toArray s 0 0 (va_A (wR 21 ad (EM cs ad) mu) s.heap.size)) (F0 m 148 ls []) := by
          intro n148
          induction n148 with
          | zero => intro v9_148 nu148_ H locs ls hm; exact absurd hm (Nat.not_lt_zero _)
          | succ n148 ih148 =>
            intro v9_148 nu148_ H locs ls hm_148 h_v9_148 ok hP ek148_0 kq148_0 kq148_1 hS hl
            refine lv_iload hx hb dX12_hadOn_148 (lv_at hl 0 rfl) ?_
            refine lv_aload_n hx hb dX12_hadOn_150 rfl (lv_at hl 5 rfl) ?_
            refine va_get (D := (dC, dI)) (ci := 12) (v := .int (nu148_ 0 8)) (C := RX12) (T := TX12) (N := 46) hx hb hts inG12 hown hK hP 0 (gM_0 cs ad nu148_) rfl 8 (by decide) (hts _ (List.mem_cons_of_mem _ mw_5_49)) (fun _ h9 => h9) rfl dX12_hadOn_151 ?_
            refine lv_topi (fun y27 ey27 => ?_)
            have by27 : y27.toInt = (nu148_ 0 8).toInt := congrArg Int32.toInt ey27
            have gy27 : 0 ≤ y27.toInt ∧ y27.toInt ≤ 7 := by rw [ey27]; exact rM_0_8 ok
            refine lv_icmp_ge (tgt := 197) hx hb dX12_hadOn_154 (by decide) (fun c_28 => ?_) (fun c_28 => ?_)
            · have c_28 : y27.toInt ≤ v9_148.toInt := il_le c_28
              exact W.vret hx hb hr (fun t ht hW => ⟨⟨nu148_, rfl, ⟨ok, trivial, kq148_0, kq148_1⟩, by first | (subst ht; exact hP) | (rw [ht]; exact hP) | (show va_P (dC, dI) vwCl (wR 21 ad (EM cs ad) nu148_) t.heap; rw [ht]; exact hP)⟩, hS.F ht⟩) hS.2.2 dX12_hadOn_197
            · have c_28 : v9_148.toInt < y27.toInt := il_nle c_28
              refine lv_iload hx hb dX12_hadOn_157 (lv_at hl 1 rfl) ?_
              refine lv_iload hx hb dX12_hadOn_159 (lv_at hl 0 rfl) ?_
              refine cr_i (va_runS (As := [.int 0, .int v9_148]) (rest := []) ⟨hx, hb, hml, hown, hts⟩ (sm_has l dC dI (tyM cs) H 0 v9_148) (va_cwS 2 hts (wU_S mw_6_59 mw_6_57 mw_6_58 mw_1_13) rfl rfl rfl (by decide +kernel) ⟨Nat.le_of_ble_eq_true rfl, Nat.le_of_ble_eq_true rfl⟩) ⟨sz_c, sz_m hK hz⟩ rfl rfl hl.1 rfl (lv_room (Nat.le_of_ble_eq_true rfl)) dX12_hadOn_161 ⟨Nat.zero_le _, Nat.zero_le _⟩) hS (fun r29 hw29 locs hS => ?_)
              obtain ⟨hfe29, hw29⟩ := hw29
              rcases hw29 with ⟨rfl, f29⟩ | ⟨rfl, f29⟩
              · have f29 : rb (0 : Int32) v9_148 = 1 := f29
                refine lv_if_eq (tgt := 191) hx hb dX12_hadOn_164 (by decide) (fun c => absurd c (by decide)) (fun _ => ?_)
                refine lv_aload_n hx hb dX12_hadOn_167 rfl (lv_at hl 5 rfl) ?_
                refine va_get (D := (dC, dI)) (ci := 12) (v := .ref (ad 16)) (C := RX12) (T := TX12) (N := 46) hx hb hts inG12 hown hK hP 0 (gM_0 cs ad nu148_) rfl 26 (by decide) (hts _ (List.mem_cons_of_mem _ mw_5_67)) (fun _ h9 => h9) rfl dX12_hadOn_168 ?_
                refine lv_iload_n hx hb dX12_hadOn_171 rfl (lv_at hl 7 rfl) ?_
                refine lv_iload hx hb dX12_hadOn_172 (lv_at hl 0 rfl) ?_
                refine va_iast hx hb hK hP (wR_D nu148_ hD) hS 16 0 (gM_16 cs ad nu148_) rfl (show vp_in 5 7 from (by unfold vp_in; decide)) dX12_hadOn_174 (fun H locs hP _ hS => ?_)
                refine wr_gen (upd (nu148_ 16) (5 : Int32).toNatClampNeg v9_148) hP (rfl) (fun nu30 hn30 hP => ?_)
                have ok := tM_16_s ok (5 : Int32).toNatClampNeg hn30 (by omega)
                have ez31 : y1 = nu30 2 vr.toNatClampNeg := ek148_0.trans (congrFun (up_k hn30 (by decide)) vr.toNatClampNeg).symm
                have ez32 : y27 = nu30 0 8 := ey27.trans (congrFun (up_k hn30 (by decide)) 8).symm
                have kp33 : ∀ k : Nat, 2 ≤ k → k < 3 → nu30 k = mu k := fun k h1 h2 => (up_k hn30 (ne_hi (by decide) h2).symm).trans (kq148_0 k h1 h2)
                have kp34 : (∀ k f : Nat, Nat.testBit 510 (gpM k f) = true → nu30 k f = mu k f) := kp_c 0 hn30 (fun _ => rfl) (by decide) kq148_1
                refine lv_aload_n hx hb dX12_hadOn_175 rfl (lv_at hl 5 rfl) ?_
                refine lv_iload_n hx hb dX12_hadOn_176 rfl (lv_at hl 6 rfl) ?_
                refine lv_iload_n hx hb dX12_hadOn_177 rfl (lv_at hl 7 rfl) ?_
                refine lv_iconst (v := 1) hx hb dX12_hadOn_178 (by decide) ?_
                refine lv_iadd hx hb dX12_hadOn_179 ?_
                refine lq_i 6 (by decide) ?_
                refine lv_iload_n hx hb dX12_hadOn_180 rfl (lv_at hl 8 rfl) ?_
                refine lv_iconst (v := 1) hx hb dX12_hadOn_181 (by decide) ?_
                refine lv_iload hx hb dX12_hadOn_182 (lv_at hl 0 rfl) ?_
                refine lv_ishl hx hb dX12_hadOn_184 ?_
                refine lv_topi (fun t35 et35 => ?_)
                refine lv_ior hx hb dX12_hadOn_185 ?_
                refine lv_topi (fun t36 et36 => ?_)
                refine lv_iload hx hb dX12_hadOn_186 (lv_at hl 3 rfl) ?_
                have hFc := fr_all (wR_D nu30 hD) hS hA
                refine va_callv (va_runV (As := [.int vr, .int 6, .int t36, .int r5]) (rest := []) ⟨hx, hb, hml, hown, hts⟩ (sm_hadOn6 l dC dI cs ad nu30 ok H hP ((wR_D nu30 hD).weaken (fun _ _ _ _ => trivial)) vr t36 r5 (by have h51 : (6 : Int32).toInt = 6 := rfl; omega) (by have h51 : (6 : Int32).toInt = 6 := rfl; have hb37 := congrArg Int32.toInt ez31; omega)) (cwV 4 hts (wU_V mw_7_24 mw_7_21 mw_7_23 mw_0_62 mw_1_13) rfl rfl rfl (by decide +kernel) ⟨Nat.le_of_ble_eq_true rfl, Nat.le_of_ble_eq_true rfl⟩) ⟨sz_c, va_recv hK hP (ci := 12) (q0 := 0) rfl (gM_0 cs ad nu30), sz_m hK hz⟩ rfl rfl hl.1 rfl (lv_room (Nat.le_of_ble_eq_true rfl)) dX12_hadOn_188 ⟨Nat.zero_le _, Nat.zero_le _⟩) hS (fun q _ h => hFc q h) hFc (fun xi38 t H38 locs ht hvm hw38 hB hz1 hk1 hS => ?_)
                have hP : va_P (dC, dI) vwCl (wR 21 ad (EM cs ad) xi38) H38 := by rw [← ht]; exact hB
                obtain ⟨ok, hw38, hkp38_0, hkp38_1⟩ := hw38
                have ez39 : y1 = xi38 2 vr.toNatClampNeg := ez31.trans (congrFun (hkp38_0 2 (by decide) (by decide)) vr.toNatClampNeg).symm
                have kp40 : ∀ k : Nat, 2 ≤ k → k < 3 → xi38 k = mu k := fun k h1 h2 => (hkp38_0 k (Nat.le_trans (by decide) h1) (Nat.lt_of_lt_of_le h2 (by decide))).trans (kp33 k h1 h2)
                have kp41 : (∀ k f : Nat, Nat.testBit 510 (gpM k f) = true → xi38 k f = mu k f) := kp_t hkp38_1 (by decide) kp34
                refine lv_iinc (v := (v9_148 + 1)) (lv' := [(9, .int (v9_148 + 1)), (8, .int 0), (7, .int 0), (6, .int r5), (5, .int y4), (0, .ref (ad 0)), (1, .int vr), (2, .int 5), (3, .int vh), (4, .int vp)]) hx hb dX12_hadOn_191 hl (k := 0) rfl rfl (by decide) rfl (fun ls hl => ?_)
                refine loc_gen (P := fun w9 => lv_has ls 10 [(9, .int w9), (8, .int 0), (7, .int 0), (6, .int r5), (5, .int y4), (0, .ref (ad 0)), (1, .int vr), (2, .int 5), (3, .int vh), (4, .int vp)]) (v9_148 + 1) hl (fun w42 hw42 hl => ?_)
                have hl : lv_has ls 10 [(9, .int w42), (8, .int 0), (7, .int 0), (6, .int r5), (5, .int y4), (0, .ref (ad 0)), (1, .int vr), (2, .int 5), (3, .int vh), (4, .int vp)] := hl
                have aw42 : w42.toInt = v9_148.toInt + 1 := by rw [← hw42]; first | exact va1 (Int.lt_of_le_of_lt h_v9_148.2 (by decide)) | exact va1 (by omega)
                refine lv_goto (tgt := 148) hx hb dX12_hadOn_194 (by decide) ?_
                exact ih148 (w42) xi38 _ _ _ (by first | exact ms_up hm_148 aw42 h_v9_148.2 | exact ms_lt hm_148 (by omega) (by omega) | omega) (by first | exact rg_up aw42 h_v9_148 (by omega) | omega)  ok hP ez39 kp40 kp41 hS (lv_sub hl [0, 1, 2, 3, 4, 5, 6, 7, 8, 9] rfl)
              · have f29 : ¬ rb (0 : Int32) v9_148 = 1 := f29
                refine lv_if_eq (tgt := 191) hx hb dX12_hadOn_164 (by decide) (fun _ => ?_) (fun c => absurd (by decide) c)
                refine lv_iinc (v := (v9_148 + 1)) (lv' := [(9, .int (v9_148 + 1)), (8, .int 0), (7, .int 0), (6, .int r5), (5, .int y4), (0, .ref (ad 0)), (1, .int vr), (2, .int 5), (3, .int vh), (4, .int vp)]) hx hb dX12_hadOn_191 hl (k := 0) rfl rfl (by decide) rfl (fun ls hl => ?_)
                refine loc_gen (P := fun w9 => lv_has ls 10 [(9, .int w9), (8, .int 0), (7, .int 0), (6, .int r5), (5, .int y4), (0, .ref (ad 0)), (1, .int vr), (2, .int 5), (3, .int vh), (4, .int vp)]) (v9_148 + 1) hl (fun w43 hw43 hl => ?_)
                have hl : lv_has ls 10 [(9, .int w43), (8, .int 0), (7, .int 0), (6, .int r5), (5, .int y4), (0, .ref (ad 0)), (1, .int vr), (2, .int 5), (3, .int vh), (4, .int vp)] := hl
                have aw43 : w43.toInt = v9_148.toInt + 1 := by rw [← hw43]; first | exact va1 (Int.lt_of_le_of_lt h_v9_148.2 (by decide)) | exact va1 (by omega)
                refine lv_goto (tgt := 148) hx hb dX12_hadOn_194 (by decide) ?_
                exact ih148 (w43) nu148_ _ _ _ (by first | exact ms_up hm_148 aw43 h_v9_148.2 | exact ms_lt hm_148 (by omega) (by omega) | omega) (by first | exact rg_up aw43 h_v9_148 (by omega) | omega)  ok hP ek148_0 kq148_0 kq148_1 hS (lv_sub hl [0, 1, 2, 3, 4, 5, 6, 7, 8, 9] rfl)
        exact loop148 ((7 + 1 - (0 : Int32).toInt).toNat + 1) (0) mu _ _ _ (Nat.lt_succ_self _) (by have h80 : (0 : Int32).toInt = 0 := rfl; exact ⟨by omega, by omega⟩)  ok hP ey1 (fun _ _ _ => rfl) (fun _ _ _ => rfl) hS hl
      · have c_26 : ¬ y25.toInt = 3 := il_ne c_26
        refine lv_iconst (v := 1) hx hb dX12_hadOn_117 (by decide) ?_
        refine lv_goto (tgt := 122) hx hb dX12_hadOn_118 (by decide) ?_
        refine lv_istore (lv' := [(7, .int 1), (6, .int r5), (5, .int y4), (0, .ref (ad 0)), (1, .int vr), (2, .int 5), (3, .int vh), (4, .int vp)]) hx hb dX12_hadOn_122 hl (by decide) rfl (fun ls hl => ?_)
        refine lv_iload hx hb dX12_hadOn_124 (lv_at hl 0 rfl) ?_
        refine lv_if_eq (tgt := 142) hx hb dX12_hadOn_126 (by decide) (fun c => absurd c (by decide)) (fun _ => ?_)
        refine lv_aload_n hx hb dX12_hadOn_129 rfl (lv_at hl 3 rfl) ?_
        refine lv_iload hx hb dX12_hadOn_130 (lv_at hl 2 rfl) ?_
        refine cr_i (va_runV (As := [.int y4]) (rest := []) ⟨hx, hb, hml, hown, hts⟩ (sm_besideOf l dC dI cs ad mu ok s.heap hP y4) (cwV 1 hts (wU_V mw_6_56 mw_6_53 mw_6_55 mw_0_40 mw_1_13) rfl rfl rfl (by decide +kernel) ⟨Nat.le_of_ble_eq_true rfl, Nat.le_of_ble_eq_true rfl⟩) ⟨sz_c, va_recv hK hP (ci := 12) (q0 := 0) rfl (gM_0 cs ad mu), sz_m hK hz⟩ rfl rfl hl.1 rfl (lv_room (Nat.le_of_ble_eq_true rfl)) dX12_hadOn_132 ⟨Nat.zero_le _, Nat.zero_le _⟩) hS (fun r44 hw44 locs hS => ?_)
        obtain ⟨hfe44, hw44⟩ := hw44
        refine lv_iload_n hx hb dX12_hadOn_135 rfl (lv_at hl 6 rfl) ?_
        refine lv_iconst (v := (-1)) hx hb dX12_hadOn_136 (by decide) ?_
        refine lv_ixor hx hb dX12_hadOn_137 ?_
        refine lv_topi (fun t45 et45 => ?_)
        refine lv_iand hx hb dX12_hadOn_138 ?_
        refine lv_topi (fun t46 et46 => ?_)
        refine lv_goto (tgt := 143) hx hb dX12_hadOn_139 (by decide) ?_
        refine lv_istore (lv' := [(8, .int t46), (7, .int 1), (6, .int r5), (5, .int y4), (0, .ref (ad 0)), (1, .int vr), (2, .int 5), (3, .int vh), (4, .int vp)]) hx hb dX12_hadOn_143 hl (by decide) rfl (fun ls hl => ?_)
        refine lv_iconst (v := 0) hx hb dX12_hadOn_145 (by decide) ?_
        refine lv_istore (lv' := [(9, .int 0), (8, .int t46), (7, .int 1), (6, .int r5), (5, .int y4), (0, .ref (ad 0)), (1, .int vr), (2, .int 5), (3, .int vh), (4, .int vp)]) hx hb dX12_hadOn_146 hl (by decide) rfl (fun ls hl => ?_)
        have loop148 : ∀ (n148 : Nat) (v9_148 : Int32) (nu148_ : Nat → Nat → Int32) (H : Heap) (locs : List Loc) (ls : Array Slot), (7 + 1 - v9_148.toInt).toNat < n148 → (0 ≤ v9_148.toInt ∧ v9_148.toInt ≤ 7) → okR loM hiM nu148_ → va_P (dC, dI) vwCl (wR 21 ad (EM cs ad) nu148_) H → y1 = nu148_ 2 vr.toNatClampNeg → (∀ k : Nat, 2 ≤ k → k < 3 → nu148_ k = mu k) → (∀ k f : Nat, Nat.testBit 510 (gpM k f) = true → nu148_ k f = mu k f) → va_S (va_A (wR 21 ad (EM cs ad) mu) s.heap.size) s.heap H locs → lv_has ls 10 [(9, .int v9_148), (8, .int t46), (7, .int 1), (6, .int r5), (5, .int y4), (0, .ref (ad 0)), (1, .int vr), (2, .int 5), (3, .int vh), (4, .int vp)] → W p l e (headSpec (wU yX12_hadOn cX12_hadOn 10 none) ({ frames := 3, cells := 0, slots := 0, locals := 81 })).room s m ([.ref (ad 0), .int vr, .int 5, .int vh, .int vp] : List Value).toArray below meth c H locs 0 0 (MQ below (va_Qv (fun (xi : Nat → Nat → Int32) => okR loM hiM xi ∧ (True) ∧ (∀ k : Nat, 2 ≤ k → k < 3 → xi k = mu k) ∧ (∀ k f : Nat, Nat.testBit 510 (gpM k f) = true → xi k f = mu k f)) (fun xi t => va_P (dC, dI) vwCl (wR 21 ad (EM cs ad) xi) t.heap) (va_A (wR 21 ad (EM cs ad) mu) s.heap.size)) ([.ref (ad 0), .int vr, .int 5, .int vh, .int vp] : List Value).toArray s 0 0 (va_A (wR 21 ad (EM cs ad) mu) s.heap.size)) (F0 m 148 ls []) := by
          intro n148
          induction n148 with
          | zero => intro v9_148 nu148_ H locs ls hm; exact absurd hm (Nat.not_lt_zero _)
          | succ n148 ih148 =>
            intro v9_148 nu148_ H locs ls hm_148 h_v9_148 ok hP ek148_0 kq148_0 kq148_1 hS hl
            refine lv_iload hx hb dX12_hadOn_148 (lv_at hl 0 rfl) ?_
            refine lv_aload_n hx hb dX12_hadOn_150 rfl (lv_at hl 5 rfl) ?_
            refine va_get (D := (dC, dI)) (ci := 12) (v := .int (nu148_ 0 8)) (C := RX12) (T := TX12) (N := 46) hx hb hts inG12 hown hK hP 0 (gM_0 cs ad nu148_) rfl 8 (by decide) (hts _ (List.mem_cons_of_mem _ mw_5_49)) (fun _ h9 => h9) rfl dX12_hadOn_151 ?_
            refine lv_topi (fun y47 ey47 => ?_)
            have by47 : y47.toInt = (nu148_ 0 8).toInt := congrArg Int32.toInt ey47
            have gy47 : 0 ≤ y47.toInt ∧ y47.toInt ≤ 7 := by rw [ey47]; exact rM_0_8 ok
            refine lv_icmp_ge (tgt := 197) hx hb dX12_hadOn_154 (by decide) (fun c_48 => ?_) (fun c_48 => ?_)
            · have c_48 : y47.toInt ≤ v9_148.toInt := il_le c_48
              exact W.vret hx hb hr (fun t ht hW => ⟨⟨nu148_, rfl, ⟨ok, trivial, kq148_0, kq148_1⟩, by first | (subst ht; exact hP) | (rw [ht]; exact hP) | (show va_P (dC, dI) vwCl (wR 21 ad (EM cs ad) nu148_) t.heap; rw [ht]; exact hP)⟩, hS.F ht⟩) hS.2.2 dX12_hadOn_197
            · have c_48 : v9_148.toInt < y47.toInt := il_nle c_48
              refine lv_iload hx hb dX12_hadOn_157 (lv_at hl 1 rfl) ?_
              refine lv_iload hx hb dX12_hadOn_159 (lv_at hl 0 rfl) ?_
              refine cr_i (va_runS (As := [.int t46, .int v9_148]) (rest := []) ⟨hx, hb, hml, hown, hts⟩ (sm_has l dC dI (tyM cs) H t46 v9_148) (va_cwS 2 hts (wU_S mw_6_59 mw_6_57 mw_6_58 mw_1_13) rfl rfl rfl (by decide +kernel) ⟨Nat.le_of_ble_eq_true rfl, Nat.le_of_ble_eq_true rfl⟩) ⟨sz_c, sz_m hK hz⟩ rfl rfl hl.1 rfl (lv_room (Nat.le_of_ble_eq_true rfl)) dX12_hadOn_161 ⟨Nat.zero_le _, Nat.zero_le _⟩) hS (fun r49 hw49 locs hS => ?_)
              obtain ⟨hfe49, hw49⟩ := hw49
              rcases hw49 with ⟨rfl, f49⟩ | ⟨rfl, f49⟩
              · have f49 : rb t46 v9_148 = 1 := f49
                refine lv_if_eq (tgt := 191) hx hb dX12_hadOn_164 (by decide) (fun c => absurd c (by decide)) (fun _ => ?_)
                refine lv_aload_n hx hb dX12_hadOn_167 rfl (lv_at hl 5 rfl) ?_
                refine va_get (D := (dC, dI)) (ci := 12) (v := .ref (ad 16)) (C := RX12) (T := TX12) (N := 46) hx hb hts inG12 hown hK hP 0 (gM_0 cs ad nu148_) rfl 26 (by decide) (hts _ (List.mem_cons_of_mem _ mw_5_67)) (fun _ h9 => h9) rfl dX12_hadOn_168 ?_
                refine lv_iload_n hx hb dX12_hadOn_171 rfl (lv_at hl 7 rfl) ?_
                refine lv_iload hx hb dX12_hadOn_172 (lv_at hl 0 rfl) ?_
                refine va_iast hx hb hK hP (wR_D nu148_ hD) hS 16 0 (gM_16 cs ad nu148_) rfl (show vp_in 5 7 from (by unfold vp_in; decide)) dX12_hadOn_174 (fun H locs hP _ hS => ?_)
                refine wr_gen (upd (nu148_ 16) (5 : Int32).toNatClampNeg v9_148) hP (rfl) (fun nu50 hn50 hP => ?_)
                have ok := tM_16_s ok (5 : Int32).toNatClampNeg hn50 (by omega)
                have ez51 : y1 = nu50 2 vr.toNatClampNeg := ek148_0.trans (congrFun (up_k hn50 (by decide)) vr.toNatClampNeg).symm
                have ez52 : y47 = nu50 0 8 := ey47.trans (congrFun (up_k hn50 (by decide)) 8).symm
                have kp53 : ∀ k : Nat, 2 ≤ k → k < 3 → nu50 k = mu k := fun k h1 h2 => (up_k hn50 (ne_hi (by decide) h2).symm).trans (kq148_0 k h1 h2)
                have kp54 : (∀ k f : Nat, Nat.testBit 510 (gpM k f) = true → nu50 k f = mu k f) := kp_c 0 hn50 (fun _ => rfl) (by decide) kq148_1
                refine lv_aload_n hx hb dX12_hadOn_175 rfl (lv_at hl 5 rfl) ?_
                refine lv_iload_n hx hb dX12_hadOn_176 rfl (lv_at hl 6 rfl) ?_
                refine lv_iload_n hx hb dX12_hadOn_177 rfl (lv_at hl 7 rfl) ?_
                refine lv_iconst (v := 1) hx hb dX12_hadOn_178 (by decide) ?_
                refine lv_iadd hx hb dX12_hadOn_179 ?_
                refine lq_i 6 (by decide) ?_
                refine lv_iload_n hx hb dX12_hadOn_180 rfl (lv_at hl 8 rfl) ?_
                refine lv_iconst (v := 1) hx hb dX12_hadOn_181 (by decide) ?_
                refine lv_iload hx hb dX12_hadOn_182 (lv_at hl 0 rfl) ?_
                refine lv_ishl hx hb dX12_hadOn_184 ?_
                refine lv_topi (fun t55 et55 => ?_)
                refine lv_ior hx hb dX12_hadOn_185 ?_
                refine lv_topi (fun t56 et56 => ?_)
                refine lv_iload hx hb dX12_hadOn_186 (lv_at hl 3 rfl) ?_
                have hFc := fr_all (wR_D nu50 hD) hS hA
                refine va_callv (va_runV (As := [.int vr, .int 6, .int t56, .int r5]) (rest := []) ⟨hx, hb, hml, hown, hts⟩ (sm_hadOn6 l dC dI cs ad nu50 ok H hP ((wR_D nu50 hD).weaken (fun _ _ _ _ => trivial)) vr t56 r5 (by have h51 : (6 : Int32).toInt = 6 := rfl; omega) (by have h51 : (6 : Int32).toInt = 6 := rfl; have hb57 := congrArg Int32.toInt ez51; omega)) (cwV 4 hts (wU_V mw_7_24 mw_7_21 mw_7_23 mw_0_62 mw_1_13) rfl rfl rfl (by decide +kernel) ⟨Nat.le_of_ble_eq_true rfl, Nat.le_of_ble_eq_true rfl⟩) ⟨sz_c, va_recv hK hP (ci := 12) (q0 := 0) rfl (gM_0 cs ad nu50), sz_m hK hz⟩ rfl rfl hl.1 rfl (lv_room (Nat.le_of_ble_eq_true rfl)) dX12_hadOn_188 ⟨Nat.zero_le _, Nat.zero_le _⟩) hS (fun q _ h => hFc q h) hFc (fun xi58 t H58 locs ht hvm hw58 hB hz1 hk1 hS => ?_)
                have hP : va_P (dC, dI) vwCl (wR 21 ad (EM cs ad) xi58) H58 := by rw [← ht]; exact hB
                obtain ⟨ok, hw58, hkp58_0, hkp58_1⟩ := hw58
                have ez59 : y1 = xi58 2 vr.toNatClampNeg := ez51.trans (congrFun (hkp58_0 2 (by decide) (by decide)) vr.toNatClampNeg).symm
                have kp60 : ∀ k : Nat, 2 ≤ k → k < 3 → xi58 k = mu k := fun k h1 h2 => (hkp58_0 k (Nat.le_trans (by decide) h1) (Nat.lt_of_lt_of_le h2 (by decide))).trans (kp53 k h1 h2)
                have kp61 : (∀ k f : Nat, Nat.testBit 510 (gpM k f) = true → xi58 k f = mu k f) := kp_t hkp58_1 (by decide) kp54
                refine lv_iinc (v := (v9_148 + 1)) (lv' := [(9, .int (v9_148 + 1)), (8, .int t46), (7, .int 1), (6, .int r5), (5, .int y4), (0, .ref (ad 0)), (1, .int vr), (2, .int 5), (3, .int vh), (4, .int vp)]) hx hb dX12_hadOn_191 hl (k := 0) rfl rfl (by decide) rfl (fun ls hl => ?_)
                refine loc_gen (P := fun w9 => lv_has ls 10 [(9, .int w9), (8, .int t46), (7, .int 1), (6, .int r5), (5, .int y4), (0, .ref (ad 0)), (1, .int vr), (2, .int 5), (3, .int vh), (4, .int vp)]) (v9_148 + 1) hl (fun w62 hw62 hl => ?_)
                have hl : lv_has ls 10 [(9, .int w62), (8, .int t46), (7, .int 1), (6, .int r5), (5, .int y4), (0, .ref (ad 0)), (1, .int vr), (2, .int 5), (3, .int vh), (4, .int vp)] := hl
                have aw62 : w62.toInt = v9_148.toInt + 1 := by rw [← hw62]; first | exact va1 (Int.lt_of_le_of_lt h_v9_148.2 (by decide)) | exact va1 (by omega)
                refine lv_goto (tgt := 148) hx hb dX12_hadOn_194 (by decide) ?_
                exact ih148 (w62) xi58 _ _ _ (by first | exact ms_up hm_148 aw62 h_v9_148.2 | exact ms_lt hm_148 (by omega) (by omega) | omega) (by first | exact rg_up aw62 h_v9_148 (by omega) | omega)  ok hP ez59 kp60 kp61 hS (lv_sub hl [0, 1, 2, 3, 4, 5, 6, 7, 8, 9] rfl)
              · have f49 : ¬ rb t46 v9_148 = 1 := f49
                refine lv_if_eq (tgt := 191) hx hb dX12_hadOn_164 (by decide) (fun _ => ?_) (fun c => absurd (by decide) c)
                refine lv_iinc (v := (v9_148 + 1)) (lv' := [(9, .int (v9_148 + 1)), (8, .int t46), (7, .int 1), (6, .int r5), (5, .int y4), (0, .ref (ad 0)), (1, .int vr), (2, .int 5), (3, .int vh), (4, .int vp)]) hx hb dX12_hadOn_191 hl (k := 0) rfl rfl (by decide) rfl (fun ls hl => ?_)
                refine loc_gen (P := fun w9 => lv_has ls 10 [(9, .int w9), (8, .int t46), (7, .int 1), (6, .int r5), (5, .int y4), (0, .ref (ad 0)), (1, .int vr), (2, .int 5), (3, .int vh), (4, .int vp)]) (v9_148 + 1) hl (fun w63 hw63 hl => ?_)
                have hl : lv_has ls 10 [(9, .int w63), (8, .int t46), (7, .int 1), (6, .int r5), (5, .int y4), (0, .ref (ad 0)), (1, .int vr), (2, .int 5), (3, .int vh), (4, .int vp)] := hl
                have aw63 : w63.toInt = v9_148.toInt + 1 := by rw [← hw63]; first | exact va1 (Int.lt_of_le_of_lt h_v9_148.2 (by decide)) | exact va1 (by omega)
                refine lv_goto (tgt := 148) hx hb dX12_hadOn_194 (by decide) ?_
                exact ih148 (w63) nu148_ _ _ _ (by first | exact ms_up hm_148 aw63 h_v9_148.2 | exact ms_lt hm_148 (by omega) (by omega) | omega) (by first | exact rg_up aw63 h_v9_148 (by omega) | omega)  ok hP ek148_0 kq148_0 kq148_1 hS (lv_sub hl [0, 1, 2, 3, 4, 5, 6, 7, 8, 9] rfl)
        exact loop148 ((7 + 1 - (0 : Int32).toInt).toNat + 1) (0) mu _ _ _ (Nat.lt_succ_self _) (by have h80 : (0 : Int32).toInt = 0 := rfl; exact ⟨by omega, by omega⟩)  ok hP ey1 (fun _ _ _ => rfl) (fun _ _ _ => rfl) hS hl
  · have c_3 : 5 = t2.toInt := il_eq c_3
    refine lv_aload_n hx hb dX12_hadOn_12 rfl (lv_at hl 0 rfl) ?_
    refine va_get (D := (dC, dI)) (ci := 12) (v := .int (mu 0 42)) (C := RX12) (T := TX12) (N := 46) hx hb hts inG12 hown hK hP 0 (gM_0 cs ad mu) rfl 42 (by decide) (hts _ (List.mem_cons_of_mem _ mw_5_83)) (fun _ h9 => h9) rfl dX12_hadOn_13 ?_
    refine lv_topi (fun y64 ey64 => ?_)
    have by64 : y64.toInt = (mu 0 42).toInt := congrArg Int32.toInt ey64
    refine lv_if_ne (tgt := 28) hx hb dX12_hadOn_16 (by decide) (fun c_65 => ?_) (fun c_65 => ?_)
    · have c_65 : ¬ y64.toInt = 0 := il_ne c_65
      refine lv_aload_n hx hb dX12_hadOn_28 rfl (lv_at hl 0 rfl) ?_
      refine lv_dup hx hb dX12_hadOn_29 rfl ?_
      refine va_get (D := (dC, dI)) (ci := 12) (v := .int (mu 0 42)) (C := RX12) (T := TX12) (N := 46) hx hb hts inG12 hown hK hP 0 (gM_0 cs ad mu) rfl 42 (by decide) (hts _ (List.mem_cons_of_mem _ mw_5_83)) (fun _ h9 => h9) rfl dX12_hadOn_30 ?_
      refine lq_i y64 ey64.symm ?_
      refine lv_iconst (v := 1) hx hb dX12_hadOn_33 (by decide) ?_
      refine lv_iadd hx hb dX12_hadOn_34 ?_
      refine lv_topi (fun t66 et66 => ?_)
      refine va_put (D := (dC, dI)) (ci := 12) (v := .int t66) (ty := .int) (C := RX12) (T := TX12) (N := 46) hx hb hts inG12 tyX12 tyX12_ok nmX12 hown hK hP (wR_D mu hD) hS 0 (gM_0 cs ad mu) rfl 42 (by decide) (hts _ (List.mem_cons_of_mem _ mw_5_83)) (fun _ h9 => h9) rfl (by decide +kernel) rfl rfl (Nat.le_of_ble_eq_true rfl) dX12_hadOn_35 (fun H locs hP _ hS => ?_)
      simp only [List.set_cons_succ, List.set_cons_zero] at hP
      refine wr_gen (upd (mu 0) 42 t66) hP ((hM_0_42 cs ad _ _)) (fun nu67 hn67 hP => ?_)
      have ok := tM_0_42 ok hn67
      have ez68 : y1 = nu67 2 vr.toNatClampNeg := ey1.trans (congrFun (up_k hn67 (by decide)) vr.toNatClampNeg).symm
      have kp69 : ∀ k : Nat, 2 ≤ k → k < 3 → nu67 k = mu k := fun k h1 h2 => (up_k hn67 (ne_lo (by decide) h1).symm).trans ((fun _ _ _ => rfl) k h1 h2)
      have kp70 : (∀ k f : Nat, Nat.testBit 510 (gpM k f) = true → nu67 k f = mu k f) := kp_f hn67 (by decide) (fun _ _ _ => rfl)
      have ez71 : t66 = nu67 0 42 := up_v hn67
      refine lv_aload_n hx hb dX12_hadOn_38 rfl (lv_at hl 0 rfl) ?_
      refine lv_dup hx hb dX12_hadOn_39 rfl ?_
      refine va_get (D := (dC, dI)) (ci := 12) (v := .int (nu67 0 43)) (C := RX12) (T := TX12) (N := 46) hx hb hts inG12 hown hK hP 0 (gM_0 cs ad nu67) rfl 43 (by decide) (hts _ (List.mem_cons_of_mem _ mw_5_84)) (fun _ h9 => h9) rfl dX12_hadOn_40 ?_
      refine lv_topi (fun y72 ey72 => ?_)
      have by72 : y72.toInt = (nu67 0 43).toInt := congrArg Int32.toInt ey72
      refine lv_iconst (v := 1) hx hb dX12_hadOn_43 (by decide) ?_
      refine lv_aload_n hx hb dX12_hadOn_44 rfl (lv_at hl 0 rfl) ?_
      refine va_get (D := (dC, dI)) (ci := 12) (v := .ref (ad 16)) (C := RX12) (T := TX12) (N := 46) hx hb hts inG12 hown hK hP 0 (gM_0 cs ad nu67) rfl 26 (by decide) (hts _ (List.mem_cons_of_mem _ mw_5_67)) (fun _ h9 => h9) rfl dX12_hadOn_45 ?_
      refine lv_iload_n hx hb dX12_hadOn_48 rfl (lv_at hl 2 rfl) ?_
      refine lv_iconst (v := 1) hx hb dX12_hadOn_49 (by decide) ?_
      refine lv_isub hx hb dX12_hadOn_50 ?_
      refine lq_i 4 (by decide) ?_
      refine va_iald hx hb hK hP 16 0 (gM_16 cs ad nu67) rfl (show vp_in 4 7 from (by unfold vp_in; decide)) dX12_hadOn_51 ?_
      refine lv_topi (fun y73 ey73 => ?_)
      have by73 : y73.toInt = (nu67 16 (4 : Int32).toNatClampNeg).toInt := congrArg Int32.toInt ey73
      have gy73 : 0 ≤ y73.toInt ∧ y73.toInt ≤ 6 := by rw [ey73]; exact rM_16_s ok (4 : Int32).toNatClampNeg
      refine lv_ishl hx hb dX12_hadOn_52 ?_
      refine lv_topi (fun t74 et74 => ?_)
      refine lv_ior hx hb dX12_hadOn_53 ?_
      refine lv_topi (fun t75 et75 => ?_)
      refine va_put (D := (dC, dI)) (ci := 12) (v := .int t75) (ty := .int) (C := RX12) (T := TX12) (N := 46) hx hb hts inG12 tyX12 tyX12_ok nmX12 hown hK hP (wR_D nu67 hD) hS 0 (gM_0 cs ad nu67) rfl 43 (by decide) (hts _ (List.mem_cons_of_mem _ mw_5_84)) (fun _ h9 => h9) rfl (by decide +kernel) rfl rfl (Nat.le_of_ble_eq_true rfl) dX12_hadOn_54 (fun H locs hP _ hS => ?_)
      simp only [List.set_cons_succ, List.set_cons_zero] at hP
      refine wr_gen (upd (nu67 0) 43 t75) hP ((hM_0_43 cs ad _ _)) (fun nu76 hn76 hP => ?_)
      have ok := tM_0_43 ok hn76
      have ez77 : y1 = nu76 2 vr.toNatClampNeg := ez68.trans (congrFun (up_k hn76 (by decide)) vr.toNatClampNeg).symm
      have ez78 : t66 = nu76 0 42 := ez71.trans (up_f hn76 (by decide)).symm
      have ez79 : y73 = nu76 16 (4 : Int32).toNatClampNeg := ey73.trans (congrFun (up_k hn76 (by decide)) (4 : Int32).toNatClampNeg).symm
      have kp80 : ∀ k : Nat, 2 ≤ k → k < 3 → nu76 k = mu k := fun k h1 h2 => (up_k hn76 (ne_lo (by decide) h1).symm).trans (kp69 k h1 h2)
      have kp81 : (∀ k f : Nat, Nat.testBit 510 (gpM k f) = true → nu76 k f = mu k f) := kp_f hn76 (by decide) kp70
      have ez82 : t75 = nu76 0 43 := up_v hn76
      refine lv_aload_n hx hb dX12_hadOn_57 rfl (lv_at hl 0 rfl) ?_
      refine lv_dup hx hb dX12_hadOn_58 rfl ?_
      refine va_get (D := (dC, dI)) (ci := 12) (v := .int (nu76 0 44)) (C := RX12) (T := TX12) (N := 46) hx hb hts inG12 hown hK hP 0 (gM_0 cs ad nu76) rfl 44 (by decide) (hts _ (List.mem_cons_of_mem _ mw_5_85)) (fun _ h9 => h9) rfl dX12_hadOn_59 ?_
      refine lv_topi (fun y83 ey83 => ?_)
      have by83 : y83.toInt = (nu76 0 44).toInt := congrArg Int32.toInt ey83
      refine lv_iload_n hx hb dX12_hadOn_62 rfl (lv_at hl 3 rfl) ?_
      refine lv_iand hx hb dX12_hadOn_63 ?_
      refine lv_topi (fun t84 et84 => ?_)
      refine va_put (D := (dC, dI)) (ci := 12) (v := .int t84) (ty := .int) (C := RX12) (T := TX12) (N := 46) hx hb hts inG12 tyX12 tyX12_ok nmX12 hown hK hP (wR_D nu76 hD) hS 0 (gM_0 cs ad nu76) rfl 44 (by decide) (hts _ (List.mem_cons_of_mem _ mw_5_85)) (fun _ h9 => h9) rfl (by decide +kernel) rfl rfl (Nat.le_of_ble_eq_true rfl) dX12_hadOn_64 (fun H locs hP _ hS => ?_)
      simp only [List.set_cons_succ, List.set_cons_zero] at hP
      refine wr_gen (upd (nu76 0) 44 t84) hP ((hM_0_44 cs ad _ _)) (fun nu85 hn85 hP => ?_)
      have ok := tM_0_44 ok hn85
      have ez86 : y1 = nu85 2 vr.toNatClampNeg := ez77.trans (congrFun (up_k hn85 (by decide)) vr.toNatClampNeg).symm
      have ez87 : t66 = nu85 0 42 := ez78.trans (up_f hn85 (by decide)).symm
      have ez88 : y73 = nu85 16 (4 : Int32).toNatClampNeg := ez79.trans (congrFun (up_k hn85 (by decide)) (4 : Int32).toNatClampNeg).symm
      have ez89 : t75 = nu85 0 43 := ez82.trans (up_f hn85 (by decide)).symm
      have kp90 : ∀ k : Nat, 2 ≤ k → k < 3 → nu85 k = mu k := fun k h1 h2 => (up_k hn85 (ne_lo (by decide) h1).symm).trans (kp80 k h1 h2)
      have kp91 : (∀ k f : Nat, Nat.testBit 510 (gpM k f) = true → nu85 k f = mu k f) := kp_f hn85 (by decide) kp81
      have ez92 : t84 = nu85 0 44 := up_v hn85
      exact W.vret hx hb hr (fun t ht hW => ⟨⟨nu85, rfl, ⟨ok, trivial, kp90, kp91⟩, by first | (subst ht; exact hP) | (rw [ht]; exact hP) | (show va_P (dC, dI) vwCl (wR 21 ad (EM cs ad) nu85) t.heap; rw [ht]; exact hP)⟩, hS.F ht⟩) hS.2.2 dX12_hadOn_67
    · have c_65 : y64.toInt = 0 := il_eq c_65
      refine lv_aload_n hx hb dX12_hadOn_19 rfl (lv_at hl 0 rfl) ?_
      refine lv_aload_n hx hb dX12_hadOn_20 rfl (lv_at hl 0 rfl) ?_
      refine va_get (D := (dC, dI)) (ci := 12) (v := .ref (ad 17)) (C := RX12) (T := TX12) (N := 46) hx hb hts inG12 hown hK hP 0 (gM_0 cs ad mu) rfl 27 (by decide) (hts _ (List.mem_cons_of_mem _ mw_5_68)) (fun _ h9 => h9) rfl dX12_hadOn_21 ?_
      refine lv_iload_n hx hb dX12_hadOn_24 rfl (lv_at hl 2 rfl) ?_
      have hFc := fr_all (wR_D mu hD) hS hA
      refine va_callv (va_runV (As := [.ref (ad 17), .int 5]) (rest := []) ⟨hx, hb, hml, hown, hts⟩ (sm_copyRoute17 l dC dI cs ad mu ok s.heap hP ((wR_D mu hD).weaken (fun _ _ _ _ => trivial)) 5 (by have h51 : (5 : Int32).toInt = 5 := rfl; omega)) (cwV 2 hts (wU_V mw_6_191 mw_6_188 mw_6_190 mw_0_57 mw_1_13) rfl rfl rfl (by decide +kernel) ⟨Nat.le_of_ble_eq_true rfl, Nat.le_of_ble_eq_true rfl⟩) ⟨sz_c, va_recv hK hP (ci := 12) (q0 := 0) rfl (gM_0 cs ad mu), sz_m hK hz⟩ rfl rfl hl.1 rfl (lv_room (Nat.le_of_ble_eq_true rfl)) dX12_hadOn_25 ⟨Nat.zero_le _, Nat.zero_le _⟩) hS (fun q _ h => hFc q h) hFc (fun xi93 t H93 locs ht hvm hw93 hB hz1 hk1 hS => ?_)
      have hP : va_P (dC, dI) vwCl (wR 21 ad (EM cs ad) xi93) H93 := by rw [← ht]; exact hB
      obtain ⟨hfe93, ok, hw93, hkp93_0, hkp93_1⟩ := hw93
      have ez94 : y1 = xi93 2 vr.toNatClampNeg := ey1.trans (congrFun (hkp93_0 2 (by decide) (by decide)) vr.toNatClampNeg).symm
      have ez95 : y64 = xi93 0 42 := ey64.trans (congrFun (hkp93_0 0 (by decide) (by decide)) 42).symm
      have kp96 : ∀ k : Nat, 2 ≤ k → k < 3 → xi93 k = mu k := fun k h1 h2 => (hkp93_0 k (Nat.le_trans (by decide) h1) (Nat.lt_of_lt_of_le h2 (by decide))).trans ((fun _ _ _ => rfl) k h1 h2)
      have kp97 : (∀ k f : Nat, Nat.testBit 510 (gpM k f) = true → xi93 k f = mu k f) := kp_t hkp93_1 (by decide) (fun _ _ _ => rfl)
      refine lv_aload_n hx hb dX12_hadOn_28 rfl (lv_at hl 0 rfl) ?_
      refine lv_dup hx hb dX12_hadOn_29 rfl ?_
      refine va_get (D := (dC, dI)) (ci := 12) (v := .int (xi93 0 42)) (C := RX12) (T := TX12) (N := 46) hx hb hts inG12 hown hK hP 0 (gM_0 cs ad xi93) rfl 42 (by decide) (hts _ (List.mem_cons_of_mem _ mw_5_83)) (fun _ h9 => h9) rfl dX12_hadOn_30 ?_
      refine lq_i y64 ez95.symm ?_
      refine lv_iconst (v := 1) hx hb dX12_hadOn_33 (by decide) ?_
      refine lv_iadd hx hb dX12_hadOn_34 ?_
      refine lv_topi (fun t98 et98 => ?_)
      have at98 : t98.toInt = y64.toInt + 1 := by rw [et98]; exact va1 (by omega)
      refine va_put (D := (dC, dI)) (ci := 12) (v := .int t98) (ty := .int) (C := RX12) (T := TX12) (N := 46) hx hb hts inG12 tyX12 tyX12_ok nmX12 hown hK hP (wR_D xi93 hD) hS 0 (gM_0 cs ad xi93) rfl 42 (by decide) (hts _ (List.mem_cons_of_mem _ mw_5_83)) (fun _ h9 => h9) rfl (by decide +kernel) rfl rfl (Nat.le_of_ble_eq_true rfl) dX12_hadOn_35 (fun H locs hP _ hS => ?_)
      simp only [List.set_cons_succ, List.set_cons_zero] at hP
      refine wr_gen (upd (xi93 0) 42 t98) hP ((hM_0_42 cs ad _ _)) (fun nu99 hn99 hP => ?_)
      have ok := tM_0_42 ok hn99
      have ez100 : y1 = nu99 2 vr.toNatClampNeg := ez94.trans (congrFun (up_k hn99 (by decide)) vr.toNatClampNeg).symm
      have kp101 : ∀ k : Nat, 2 ≤ k → k < 3 → nu99 k = mu k := fun k h1 h2 => (up_k hn99 (ne_lo (by decide) h1).symm).trans (kp96 k h1 h2)
      have kp102 : (∀ k f : Nat, Nat.testBit 510 (gpM k f) = true → nu99 k f = mu k f) := kp_f hn99 (by decide) kp97
      have ez103 : t98 = nu99 0 42 := up_v hn99
      refine lv_aload_n hx hb dX12_hadOn_38 rfl (lv_at hl 0 rfl) ?_
      refine lv_dup hx hb dX12_hadOn_39 rfl ?_
      refine va_get (D := (dC, dI)) (ci := 12) (v := .int (nu99 0 43)) (C := RX12) (T := TX12) (N := 46) hx hb hts inG12 hown hK hP 0 (gM_0 cs ad nu99) rfl 43 (by decide) (hts _ (List.mem_cons_of_mem _ mw_5_84)) (fun _ h9 => h9) rfl dX12_hadOn_40 ?_
      refine lv_topi (fun y104 ey104 => ?_)
      have by104 : y104.toInt = (nu99 0 43).toInt := congrArg Int32.toInt ey104
      refine lv_iconst (v := 1) hx hb dX12_hadOn_43 (by decide) ?_
      refine lv_aload_n hx hb dX12_hadOn_44 rfl (lv_at hl 0 rfl) ?_
      refine va_get (D := (dC, dI)) (ci := 12) (v := .ref (ad 16)) (C := RX12) (T := TX12) (N := 46) hx hb hts inG12 hown hK hP 0 (gM_0 cs ad nu99) rfl 26 (by decide) (hts _ (List.mem_cons_of_mem _ mw_5_67)) (fun _ h9 => h9) rfl dX12_hadOn_45 ?_
      refine lv_iload_n hx hb dX12_hadOn_48 rfl (lv_at hl 2 rfl) ?_
      refine lv_iconst (v := 1) hx hb dX12_hadOn_49 (by decide) ?_
      refine lv_isub hx hb dX12_hadOn_50 ?_
      refine lq_i 4 (by decide) ?_
      refine va_iald hx hb hK hP 16 0 (gM_16 cs ad nu99) rfl (show vp_in 4 7 from (by unfold vp_in; decide)) dX12_hadOn_51 ?_
      refine lv_topi (fun y105 ey105 => ?_)
      have by105 : y105.toInt = (nu99 16 (4 : Int32).toNatClampNeg).toInt := congrArg Int32.toInt ey105
      have gy105 : 0 ≤ y105.toInt ∧ y105.toInt ≤ 6 := by rw [ey105]; exact rM_16_s ok (4 : Int32).toNatClampNeg
      refine lv_ishl hx hb dX12_hadOn_52 ?_
      refine lv_topi (fun t106 et106 => ?_)
      refine lv_ior hx hb dX12_hadOn_53 ?_
      refine lv_topi (fun t107 et107 => ?_)
      refine va_put (D := (dC, dI)) (ci := 12) (v := .int t107) (ty := .int) (C := RX12) (T := TX12) (N := 46) hx hb hts inG12 tyX12 tyX12_ok nmX12 hown hK hP (wR_D nu99 hD) hS 0 (gM_0 cs ad nu99) rfl 43 (by decide) (hts _ (List.mem_cons_of_mem _ mw_5_84)) (fun _ h9 => h9) rfl (by decide +kernel) rfl rfl (Nat.le_of_ble_eq_true rfl) dX12_hadOn_54 (fun H locs hP _ hS => ?_)
      simp only [List.set_cons_succ, List.set_cons_zero] at hP
      refine wr_gen (upd (nu99 0) 43 t107) hP ((hM_0_43 cs ad _ _)) (fun nu108 hn108 hP => ?_)
      have ok := tM_0_43 ok hn108
      have ez109 : y1 = nu108 2 vr.toNatClampNeg := ez100.trans (congrFun (up_k hn108 (by decide)) vr.toNatClampNeg).symm
      have ez110 : t98 = nu108 0 42 := ez103.trans (up_f hn108 (by decide)).symm
      have ez111 : y105 = nu108 16 (4 : Int32).toNatClampNeg := ey105.trans (congrFun (up_k hn108 (by decide)) (4 : Int32).toNatClampNeg).symm
      have kp112 : ∀ k : Nat, 2 ≤ k → k < 3 → nu108 k = mu k := fun k h1 h2 => (up_k hn108 (ne_lo (by decide) h1).symm).trans (kp101 k h1 h2)
      have kp113 : (∀ k f : Nat, Nat.testBit 510 (gpM k f) = true → nu108 k f = mu k f) := kp_f hn108 (by decide) kp102
      have ez114 : t107 = nu108 0 43 := up_v hn108
      refine lv_aload_n hx hb dX12_hadOn_57 rfl (lv_at hl 0 rfl) ?_
      refine lv_dup hx hb dX12_hadOn_58 rfl ?_
      refine va_get (D := (dC, dI)) (ci := 12) (v := .int (nu108 0 44)) (C := RX12) (T := TX12) (N := 46) hx hb hts inG12 hown hK hP 0 (gM_0 cs ad nu108) rfl 44 (by decide) (hts _ (List.mem_cons_of_mem _ mw_5_85)) (fun _ h9 => h9) rfl dX12_hadOn_59 ?_
      refine lv_topi (fun y115 ey115 => ?_)
      have by115 : y115.toInt = (nu108 0 44).toInt := congrArg Int32.toInt ey115
      refine lv_iload_n hx hb dX12_hadOn_62 rfl (lv_at hl 3 rfl) ?_
      refine lv_iand hx hb dX12_hadOn_63 ?_
      refine lv_topi (fun t116 et116 => ?_)
      refine va_put (D := (dC, dI)) (ci := 12) (v := .int t116) (ty := .int) (C := RX12) (T := TX12) (N := 46) hx hb hts inG12 tyX12 tyX12_ok nmX12 hown hK hP (wR_D nu108 hD) hS 0 (gM_0 cs ad nu108) rfl 44 (by decide) (hts _ (List.mem_cons_of_mem _ mw_5_85)) (fun _ h9 => h9) rfl (by decide +kernel) rfl rfl (Nat.le_of_ble_eq_true rfl) dX12_hadOn_64 (fun H locs hP _ hS => ?_)
      simp only [List.set_cons_succ, List.set_cons_zero] at hP
      refine wr_gen (upd (nu108 0) 44 t116) hP ((hM_0_44 cs ad _ _)) (fun nu117 hn117 hP => ?_)
      have ok := tM_0_44 ok hn117
      have ez118 : y1 = nu117 2 vr.toNatClampNeg := ez109.trans (congrFun (up_k hn117 (by decide)) vr.toNatClampNeg).symm
      have ez119 : t98 = nu117 0 42 := ez110.trans (up_f hn117 (by decide)).symm
      have ez120 : y105 = nu117 16 (4 : Int32).toNatClampNeg := ez111.trans (congrFun (up_k hn117 (by decide)) (4 : Int32).toNatClampNeg).symm
      have ez121 : t107 = nu117 0 43 := ez114.trans (up_f hn117 (by decide)).symm
      have kp122 : ∀ k : Nat, 2 ≤ k → k < 3 → nu117 k = mu k := fun k h1 h2 => (up_k hn117 (ne_lo (by decide) h1).symm).trans (kp112 k h1 h2)
      have kp123 : (∀ k f : Nat, Nat.testBit 510 (gpM k f) = true → nu117 k f = mu k f) := kp_f hn117 (by decide) kp113
      have ez124 : t116 = nu117 0 44 := up_v hn117
      exact W.vret hx hb hr (fun t ht hW => ⟨⟨nu117, rfl, ⟨ok, trivial, kp122, kp123⟩, by first | (subst ht; exact hP) | (rw [ht]; exact hP) | (show va_P (dC, dI) vwCl (wR 21 ad (EM cs ad) nu117) t.heap; rw [ht]; exact hP)⟩, hS.F ht⟩) hS.2.2 dX12_hadOn_67
set_option maxHeartbeats 4000000 in
set_option maxRecDepth 100000 in
/-- sm_hadOn4 -/
theorem sm_hadOn4 (l : Launch) (dC : Nat → ClassId) (dI : Nat → Nat → Nat) (cs : Nat → ClassId) (ad : Nat → Nat) (mu : Nat → Nat → Int32) (ok : okR loM hiM mu) (H : Heap) (hP : va_P (dC, dI) vwCl (wR 21 ad (EM cs ad) mu) H) (hD0 : va_D (fun _ => True) (wR 21 ad (EM cs ad) mu)) (vr : Int32) (vh : Int32) (vp : Int32) (hin0 : 0 ≤ vr.toInt ∧ vr.toInt ≤ 5) (hin1 : 4 ≤ (mu 2 vr.toNatClampNeg).toInt + 1 ∧ (mu 2 vr.toNatClampNeg).toInt ≤ 6) : Met l yX12_hadOn (wU yX12_hadOn cX12_hadOn 10 none) ({ frames := 4, cells := 0, slots := 0, locals := 110 }) (va_Pc [.ref (ad 0), .int vr, .int 4, .int vh, .int vp] (sz_P (dC, dI) vwCl (tyM cs) H)) (va_Qv (fun (xi : Nat → Nat → Int32) => okR loM hiM xi ∧ (True) ∧ (∀ k : Nat, 2 ≤ k → k < 3 → xi k = mu k) ∧ (∀ k f : Nat, Nat.testBit 510 (gpM k f) = true → xi k f = mu k f)) (fun xi t => va_P (dC, dI) vwCl (wR 21 ad (EM cs ad) xi) t.heap) (va_A (wR 21 ad (EM cs ad) mu) H.size)) 0 0 (va_A (wR 21 ad (EM cs ad) mu) H.size) := by
  refine Met.ofW (cc := cX12_hadOn) (maxL := 10) (ret := none) (by decide) rfl ?_
  intro p e s m args below meth c s₁ B hml hv
  obtain ⟨rfl, hh, hK, hz⟩ := hv
  have hx := B.exec
  have hb := B.bytes
  have hr := B.returns
  have hts := atoms_spec (ws := (wU yX12_hadOn cX12_hadOn 10 none)) B.pre
  have hown : s.vm.findClass RX12 = some m.cls := findClass_of_methodNamed B.named
  have hlocks := B.notSynchronized
  subst hh
  have hD := hD0.self (sz := s.heap.size)
  have hA : ∀ q : Nat, s.heap.size ≤ q → (va_A (wR 21 ad (EM cs ad) mu) s.heap.size) q := fun q h => Or.inr h
  have hS : va_S (va_A (wR 21 ad (EM cs ad) mu) s.heap.size) s.heap s.heap [] := va_S.rf
  have hl := lv_entry ([.ref (ad 0), .int vr, .int 4, .int vh, .int vp]) (n := 10) (Nat.le_of_ble_eq_true rfl)
  rw [lg_entry_eq]
  generalize (lg_sl ([.ref (ad 0), .int vr, .int 4, .int vh, .int vp]) ++ List.replicate (10 - (lg_sl ([.ref (ad 0), .int vr, .int 4, .int vh, .int vp])).length) Slot.unset).toArray = ls at hl ⊢
  have hl : lv_has ls 10 [(0, .ref (ad 0)), (1, .int vr), (2, .int 4), (3, .int vh), (4, .int vp)] := hl
  refine lv_iload_n hx hb dX12_hadOn_0 rfl (lv_at hl 2 rfl) ?_
  refine lv_aload_n hx hb dX12_hadOn_1 rfl (lv_at hl 0 rfl) ?_
  refine va_get (D := (dC, dI)) (ci := 12) (v := .ref (ad 2)) (C := RX12) (T := TX12) (N := 46) hx hb hts inG12 hown hK hP 0 (gM_0 cs ad mu) rfl 3 (by decide) (hts _ (List.mem_cons_of_mem _ mw_5_44)) (fun _ h9 => h9) rfl dX12_hadOn_2 ?_
  refine lv_iload_n hx hb dX12_hadOn_5 rfl (lv_at hl 1 rfl) ?_
  refine va_iald hx hb hK hP 2 0 (gM_2 cs ad mu) rfl (show vp_in vr 6 from vi_of (by omega) (by omega)) dX12_hadOn_6 ?_
  refine lv_topi (fun y1 ey1 => ?_)
  have by1 : y1.toInt = (mu 2 vr.toNatClampNeg).toInt := congrArg Int32.toInt ey1
  have gy1 : -9 ≤ y1.toInt ∧ y1.toInt ≤ 40 := by rw [ey1]; exact rM_2_s ok vr.toNatClampNeg
  refine lv_iconst (v := 1) hx hb dX12_hadOn_7 (by decide) ?_
  refine lv_iadd hx hb dX12_hadOn_8 ?_
  refine lv_topi (fun t2 et2 => ?_)
  have at2 : t2.toInt = y1.toInt + 1 := by rw [et2]; exact va1 (by omega)
  refine lv_icmp_ne (tgt := 68) hx hb dX12_hadOn_9 (by decide) (fun c_3 => ?_) (fun c_3 => ?_)
  · have c_3 : ¬ 4 = t2.toInt := il_ne c_3
    refine lv_aload_n hx hb dX12_hadOn_68 rfl (lv_at hl 0 rfl) ?_
    refine va_get (D := (dC, dI)) (ci := 12) (v := .ref (ad 16)) (C := RX12) (T := TX12) (N := 46) hx hb hts inG12 hown hK hP 0 (gM_0 cs ad mu) rfl 26 (by decide) (hts _ (List.mem_cons_of_mem _ mw_5_67)) (fun _ h9 => h9) rfl dX12_hadOn_69 ?_
    refine lv_iload_n hx hb dX12_hadOn_72 rfl (lv_at hl 2 rfl) ?_
    refine lv_iconst (v := 1) hx hb dX12_hadOn_73 (by decide) ?_
    refine lv_isub hx hb dX12_hadOn_74 ?_
    refine lq_i 3 (by decide) ?_
    refine va_iald hx hb hK hP 16 0 (gM_16 cs ad mu) rfl (show vp_in 3 7 from (by unfold vp_in; decide)) dX12_hadOn_75 ?_
    refine lv_topi (fun y4 ey4 => ?_)
    have by4 : y4.toInt = (mu 16 (3 : Int32).toNatClampNeg).toInt := congrArg Int32.toInt ey4
    have gy4 : 0 ≤ y4.toInt ∧ y4.toInt ≤ 6 := by rw [ey4]; exact rM_16_s ok (3 : Int32).toNatClampNeg
    refine lv_istore (lv' := [(5, .int y4), (0, .ref (ad 0)), (1, .int vr), (2, .int 4), (3, .int vh), (4, .int vp)]) hx hb dX12_hadOn_76 hl (by decide) rfl (fun ls hl => ?_)
    refine lv_aload_n hx hb dX12_hadOn_78 rfl (lv_at hl 1 rfl) ?_
    refine lv_iload hx hb dX12_hadOn_79 (lv_at hl 0 rfl) ?_
    refine lv_iload hx hb dX12_hadOn_81 (lv_at hl 5 rfl) ?_
    refine cr_i (va_runV (As := [.int y4, .int vp]) (rest := []) ⟨hx, hb, hml, hown, hts⟩ (sm_asksOf l dC dI cs ad mu ok s.heap hP y4 vp (by omega)) (cwV 2 hts (wU_V mw_6_74 mw_6_71 mw_6_73 mw_0_42 mw_1_13) rfl rfl rfl (by decide +kernel) ⟨Nat.le_of_ble_eq_true rfl, Nat.le_of_ble_eq_true rfl⟩) ⟨sz_c, va_recv hK hP (ci := 12) (q0 := 0) rfl (gM_0 cs ad mu), sz_m hK hz⟩ rfl rfl hl.1 rfl (lv_room (Nat.le_of_ble_eq_true rfl)) dX12_hadOn_83 ⟨Nat.zero_le _, Nat.zero_le _⟩) hS (fun r5 hw5 locs hS => ?_)
    obtain ⟨hfe5, hw5⟩ := hw5
    refine lv_istore (lv' := [(6, .int r5), (5, .int y4), (0, .ref (ad 0)), (1, .int vr), (2, .int 4), (3, .int vh), (4, .int vp)]) hx hb dX12_hadOn_86 hl (by decide) rfl (fun ls hl => ?_)
    refine lv_iload hx hb dX12_hadOn_88 (lv_at hl 0 rfl) ?_
    refine lv_aload_n hx hb dX12_hadOn_90 rfl (lv_at hl 2 rfl) ?_
    refine lv_iload_n hx hb dX12_hadOn_91 rfl (lv_at hl 3 rfl) ?_
    refine lv_iload_n hx hb dX12_hadOn_92 rfl (lv_at hl 4 rfl) ?_
    refine lv_iconst (v := 1) hx hb dX12_hadOn_93 (by decide) ?_
    refine lv_isub hx hb dX12_hadOn_94 ?_
    refine lq_i 3 (by decide) ?_
    refine cr_i (va_runV (As := [.int vr, .int 3]) (rest := [.int r5]) ⟨hx, hb, hml, hown, hts⟩ (sm_rowAt l dC dI cs ad mu ok s.heap hP vr 3 (by have h51 : (3 : Int32).toInt = 3 := rfl; omega)) (cwV 2 hts (wU_V mw_5_209 mw_5_206 mw_5_208 mw_0_29 mw_1_13) rfl rfl rfl (by decide +kernel) ⟨Nat.le_of_ble_eq_true rfl, Nat.le_of_ble_eq_true rfl⟩) ⟨sz_c, va_recv hK hP (ci := 12) (q0 := 0) rfl (gM_0 cs ad mu), sz_m hK hz⟩ rfl rfl hl.1 rfl (lv_room (Nat.le_of_ble_eq_true rfl)) dX12_hadOn_95 ⟨Nat.zero_le _, Nat.zero_le _⟩) hS (fun r6 hw6 locs hS => ?_)
    obtain ⟨hfe6, hw6⟩ := hw6
    refine lv_icmp_ne (tgt := 121) hx hb dX12_hadOn_98 (by decide) (fun c_7 => ?_) (fun c_7 => ?_)
    · have c_7 : ¬ r5.toInt = r6.toInt := il_ne c_7
      refine lv_iconst (v := 0) hx hb dX12_hadOn_121 (by decide) ?_
      refine lv_istore (lv' := [(7, .int 0), (6, .int r5), (5, .int y4), (0, .ref (ad 0)), (1, .int vr), (2, .int 4), (3, .int vh), (4, .int vp)]) hx hb dX12_hadOn_122 hl (by decide) rfl (fun ls hl => ?_)
      refine lv_iload hx hb dX12_hadOn_124 (lv_at hl 0 rfl) ?_
      refine lv_if_eq (tgt := 142) hx hb dX12_hadOn_126 (by decide) (fun _ => ?_) (fun c => absurd (by decide) c)
      refine lv_iconst (v := 0) hx hb dX12_hadOn_142 (by decide) ?_
      refine lv_istore (lv' := [(8, .int 0), (7, .int 0), (6, .int r5), (5, .int y4), (0, .ref (ad 0)), (1, .int vr), (2, .int 4), (3, .int vh), (4, .int vp)]) hx hb dX12_hadOn_143 hl (by decide) rfl (fun ls hl => ?_)
      refine lv_iconst (v := 0) hx hb dX12_hadOn_145 (by decide) ?_
      refine lv_istore (lv' := [(9, .int 0), (8, .int 0), (7, .int 0), (6, .int r5), (5, .int y4), (0, .ref (ad 0)), (1, .int vr), (2, .int 4), (3, .int vh), (4, .int vp)]) hx hb dX12_hadOn_146 hl (by decide) rfl (fun ls hl => ?_)
      have loop148 : ∀ (n148 : Nat) (v9_148 : Int32) (nu148_ : Nat → Nat → Int32) (H : Heap) (locs : List Loc) (ls : Array Slot), (7 + 1 - v9_148.toInt).toNat < n148 → (0 ≤ v9_148.toInt ∧ v9_148.toInt ≤ 7) → okR loM hiM nu148_ → va_P (dC, dI) vwCl (wR 21 ad (EM cs ad) nu148_) H → y1 = nu148_ 2 vr.toNatClampNeg → (∀ k : Nat, 2 ≤ k → k < 3 → nu148_ k = mu k) → (∀ k f : Nat, Nat.testBit 510 (gpM k f) = true → nu148_ k f = mu k f) → va_S (va_A (wR 21 ad (EM cs ad) mu) s.heap.size) s.heap H locs → lv_has ls 10 [(9, .int v9_148), (8, .int 0), (7, .int 0), (6, .int r5), (5, .int y4), (0, .ref (ad 0)), (1, .int vr), (2, .int 4), (3, .int vh), (4, .int vp)] → W p l e (headSpec (wU yX12_hadOn cX12_hadOn 10 none) ({ frames := 4, cells := 0, slots := 0, locals := 110 })).room s m ([.ref (ad 0), .int vr, .int 4, .int vh, .int vp] : List Value).toArray below meth c H locs 0 0 (MQ below (va_Qv (fun (xi : Nat → Nat → Int32) => okR loM hiM xi ∧ (True) ∧ (∀ k : Nat, 2 ≤ k → k < 3 → xi k = mu k) ∧ (∀ k f : Nat, Nat.testBit 510 (gpM k f) = true → xi k f = mu k f)) (fun xi t => va_P (dC, dI) vwCl (wR 21 ad (EM cs ad) xi) t.heap) (va_A (wR 21 ad (EM cs ad) mu) s.heap.size)) ([.ref (ad 0), .int vr, .int 4, .int vh, .int vp] : List Value).toArray s 0 0 (va_A (wR 21 ad (EM cs ad) mu) s.heap.size)) (F0 m 148 ls []) := by
        intro n148
        induction n148 with
        | zero => intro v9_148 nu148_ H locs ls hm; exact absurd hm (Nat.not_lt_zero _)
        | succ n148 ih148 =>
          intro v9_148 nu148_ H locs ls hm_148 h_v9_148 ok hP ek148_0 kq148_0 kq148_1 hS hl
          refine lv_iload hx hb dX12_hadOn_148 (lv_at hl 0 rfl) ?_
          refine lv_aload_n hx hb dX12_hadOn_150 rfl (lv_at hl 5 rfl) ?_
          refine va_get (D := (dC, dI)) (ci := 12) (v := .int (nu148_ 0 8)) (C := RX12) (T := TX12) (N := 46) hx hb hts inG12 hown hK hP 0 (gM_0 cs ad nu148_) rfl 8 (by decide) (hts _ (List.mem_cons_of_mem _ mw_5_49)) (fun _ h9 => h9) rfl dX12_hadOn_151 ?_
          refine lv_topi (fun y8 ey8 => ?_)
          have by8 : y8.toInt = (nu148_ 0 8).toInt := congrArg Int32.toInt ey8
          have gy8 : 0 ≤ y8.toInt ∧ y8.toInt ≤ 7 := by rw [ey8]; exact rM_0_8 ok
          refine lv_icmp_ge (tgt := 197) hx hb dX12_hadOn_154 (by decide) (fun c_9 => ?_) (fun c_9 => ?_)
          · have c_9 : y8.toInt ≤ v9_148.toInt := il_le c_9
            exact W.vret hx hb hr (fun t ht hW => ⟨⟨nu148_, rfl, ⟨ok, trivial, kq148_0, kq148_1⟩, by first | (subst ht; exact hP) | (rw [ht]; exact hP) | (show va_P (dC, dI) vwCl (wR 21 ad (EM cs ad) nu148_) t.heap; rw [ht]; exact hP)⟩, hS.F ht⟩) hS.2.2 dX12_hadOn_197
          · have c_9 : v9_148.toInt < y8.toInt := il_nle c_9
            refine lv_iload hx hb dX12_hadOn_157 (lv_at hl 1 rfl) ?_
            refine lv_iload hx hb dX12_hadOn_159 (lv_at hl 0 rfl) ?_
            refine cr_i (va_runS (As := [.int 0, .int v9_148]) (rest := []) ⟨hx, hb, hml, hown, hts⟩ (sm_has l dC dI (tyM cs) H 0 v9_148) (va_cwS 2 hts (wU_S mw_6_59 mw_6_57 mw_6_58 mw_1_13) rfl rfl rfl (by decide +kernel) ⟨Nat.le_of_ble_eq_true rfl, Nat.le_of_ble_eq_true rfl⟩) ⟨sz_c, sz_m hK hz⟩ rfl rfl hl.1 rfl (lv_room (Nat.le_of_ble_eq_true rfl)) dX12_hadOn_161 ⟨Nat.zero_le _, Nat.zero_le _⟩) hS (fun r10 hw10 locs hS => ?_)
            obtain ⟨hfe10, hw10⟩ := hw10
            rcases hw10 with ⟨rfl, f10⟩ | ⟨rfl, f10⟩
            · have f10 : rb (0 : Int32) v9_148 = 1 := f10
              refine lv_if_eq (tgt := 191) hx hb dX12_hadOn_164 (by decide) (fun c => absurd c (by decide)) (fun _ => ?_)
              refine lv_aload_n hx hb dX12_hadOn_167 rfl (lv_at hl 5 rfl) ?_
              refine va_get (D := (dC, dI)) (ci := 12) (v := .ref (ad 16)) (C := RX12) (T := TX12) (N := 46) hx hb hts inG12 hown hK hP 0 (gM_0 cs ad nu148_) rfl 26 (by decide) (hts _ (List.mem_cons_of_mem _ mw_5_67)) (fun _ h9 => h9) rfl dX12_hadOn_168 ?_
              refine lv_iload_n hx hb dX12_hadOn_171 rfl (lv_at hl 7 rfl) ?_
              refine lv_iload hx hb dX12_hadOn_172 (lv_at hl 0 rfl) ?_
              refine va_iast hx hb hK hP (wR_D nu148_ hD) hS 16 0 (gM_16 cs ad nu148_) rfl (show vp_in 4 7 from (by unfold vp_in; decide)) dX12_hadOn_174 (fun H locs hP _ hS => ?_)
              refine wr_gen (upd (nu148_ 16) (4 : Int32).toNatClampNeg v9_148) hP (rfl) (fun nu11 hn11 hP => ?_)
              have ok := tM_16_s ok (4 : Int32).toNatClampNeg hn11 (by omega)
              have ez12 : y1 = nu11 2 vr.toNatClampNeg := ek148_0.trans (congrFun (up_k hn11 (by decide)) vr.toNatClampNeg).symm
              have ez13 : y8 = nu11 0 8 := ey8.trans (congrFun (up_k hn11 (by decide)) 8).symm
              have kp14 : ∀ k : Nat, 2 ≤ k → k < 3 → nu11 k = mu k := fun k h1 h2 => (up_k hn11 (ne_hi (by decide) h2).symm).trans (kq148_0 k h1 h2)
              have kp15 : (∀ k f : Nat, Nat.testBit 510 (gpM k f) = true → nu11 k f = mu k f) := kp_c 0 hn11 (fun _ => rfl) (by decide) kq148_1
              refine lv_aload_n hx hb dX12_hadOn_175 rfl (lv_at hl 5 rfl) ?_
              refine lv_iload_n hx hb dX12_hadOn_176 rfl (lv_at hl 6 rfl) ?_
              refine lv_iload_n hx hb dX12_hadOn_177 rfl (lv_at hl 7 rfl) ?_
              refine lv_iconst (v := 1) hx hb dX12_hadOn_178 (by decide) ?_
              refine lv_iadd hx hb dX12_hadOn_179 ?_
              refine lq_i 5 (by decide) ?_
              refine lv_iload_n hx hb dX12_hadOn_180 rfl (lv_at hl 8 rfl) ?_
              refine lv_iconst (v := 1) hx hb dX12_hadOn_181 (by decide) ?_
              refine lv_iload hx hb dX12_hadOn_182 (lv_at hl 0 rfl) ?_
              refine lv_ishl hx hb dX12_hadOn_184 ?_
              refine lv_topi (fun t16 et16 => ?_)
              refine lv_ior hx hb dX12_hadOn_185 ?_
              refine lv_topi (fun t17 et17 => ?_)
              refine lv_iload hx hb dX12_hadOn_186 (lv_at hl 3 rfl) ?_
              have hFc := fr_all (wR_D nu11 hD) hS hA
              refine va_callv (va_runV (As := [.int vr, .int 5, .int t17, .int r5]) (rest := []) ⟨hx, hb, hml, hown, hts⟩ (sm_hadOn5 l dC dI cs ad nu11 ok H hP ((wR_D nu11 hD).weaken (fun _ _ _ _ => trivial)) vr t17 r5 (by have h51 : (5 : Int32).toInt = 5 := rfl; omega) (by have h51 : (5 : Int32).toInt = 5 := rfl; have hb18 := congrArg Int32.toInt ez12; omega)) (cwV 4 hts (wU_V mw_7_24 mw_7_21 mw_7_23 mw_0_62 mw_1_13) rfl rfl rfl (by decide +kernel) ⟨Nat.le_of_ble_eq_true rfl, Nat.le_of_ble_eq_true rfl⟩) ⟨sz_c, va_recv hK hP (ci := 12) (q0 := 0) rfl (gM_0 cs ad nu11), sz_m hK hz⟩ rfl rfl hl.1 rfl (lv_room (Nat.le_of_ble_eq_true rfl)) dX12_hadOn_188 ⟨Nat.zero_le _, Nat.zero_le _⟩) hS (fun q _ h => hFc q h) hFc (fun xi19 t H19 locs ht hvm hw19 hB hz1 hk1 hS => ?_)
              have hP : va_P (dC, dI) vwCl (wR 21 ad (EM cs ad) xi19) H19 := by rw [← ht]; exact hB
              obtain ⟨ok, hw19, hkp19_0, hkp19_1⟩ := hw19
              have ez20 : y1 = xi19 2 vr.toNatClampNeg := ez12.trans (congrFun (hkp19_0 2 (by decide) (by decide)) vr.toNatClampNeg).symm
              have kp21 : ∀ k : Nat, 2 ≤ k → k < 3 → xi19 k = mu k := fun k h1 h2 => (hkp19_0 k (Nat.le_trans (by decide) h1) (Nat.lt_of_lt_of_le h2 (by decide))).trans (kp14 k h1 h2)
              have kp22 : (∀ k f : Nat, Nat.testBit 510 (gpM k f) = true → xi19 k f = mu k f) := kp_t hkp19_1 (by decide) kp15
              refine lv_iinc (v := (v9_148 + 1)) (lv' := [(9, .int (v9_148 + 1)), (8, .int 0), (7, .int 0), (6, .int r5), (5, .int y4), (0, .ref (ad 0)), (1, .int vr), (2, .int 4), (3, .int vh), (4, .int vp)]) hx hb dX12_hadOn_191 hl (k := 0) rfl rfl (by decide) rfl (fun ls hl => ?_)
              refine loc_gen (P := fun w9 => lv_has ls 10 [(9, .int w9), (8, .int 0), (7, .int 0), (6, .int r5), (5, .int y4), (0, .ref (ad 0)), (1, .int vr), (2, .int 4), (3, .int vh), (4, .int vp)]) (v9_148 + 1) hl (fun w23 hw23 hl => ?_)
              have hl : lv_has ls 10 [(9, .int w23), (8, .int 0), (7, .int 0), (6, .int r5), (5, .int y4), (0, .ref (ad 0)), (1, .int vr), (2, .int 4), (3, .int vh), (4, .int vp)] := hl
              have aw23 : w23.toInt = v9_148.toInt + 1 := by rw [← hw23]; first | exact va1 (Int.lt_of_le_of_lt h_v9_148.2 (by decide)) | exact va1 (by omega)
              refine lv_goto (tgt := 148) hx hb dX12_hadOn_194 (by decide) ?_
              exact ih148 (w23) xi19 _ _ _ (by first | exact ms_up hm_148 aw23 h_v9_148.2 | exact ms_lt hm_148 (by omega) (by omega) | omega) (by first | exact rg_up aw23 h_v9_148 (by omega) | omega)  ok hP ez20 kp21 kp22 hS (lv_sub hl [0, 1, 2, 3, 4, 5, 6, 7, 8, 9] rfl)
            · have f10 : ¬ rb (0 : Int32) v9_148 = 1 := f10
              refine lv_if_eq (tgt := 191) hx hb dX12_hadOn_164 (by decide) (fun _ => ?_) (fun c => absurd (by decide) c)
              refine lv_iinc (v := (v9_148 + 1)) (lv' := [(9, .int (v9_148 + 1)), (8, .int 0), (7, .int 0), (6, .int r5), (5, .int y4), (0, .ref (ad 0)), (1, .int vr), (2, .int 4), (3, .int vh), (4, .int vp)]) hx hb dX12_hadOn_191 hl (k := 0) rfl rfl (by decide) rfl (fun ls hl => ?_)
              refine loc_gen (P := fun w9 => lv_has ls 10 [(9, .int w9), (8, .int 0), (7, .int 0), (6, .int r5), (5, .int y4), (0, .ref (ad 0)), (1, .int vr), (2, .int 4), (3, .int vh), (4, .int vp)]) (v9_148 + 1) hl (fun w24 hw24 hl => ?_)
              have hl : lv_has ls 10 [(9, .int w24), (8, .int 0), (7, .int 0), (6, .int r5), (5, .int y4), (0, .ref (ad 0)), (1, .int vr), (2, .int 4), (3, .int vh), (4, .int vp)] := hl
              have aw24 : w24.toInt = v9_148.toInt + 1 := by rw [← hw24]; first | exact va1 (Int.lt_of_le_of_lt h_v9_148.2 (by decide)) | exact va1 (by omega)
              refine lv_goto (tgt := 148) hx hb dX12_hadOn_194 (by decide) ?_
              exact ih148 (w24) nu148_ _ _ _ (by first | exact ms_up hm_148 aw24 h_v9_148.2 | exact ms_lt hm_148 (by omega) (by omega) | omega) (by first | exact rg_up aw24 h_v9_148 (by omega) | omega)  ok hP ek148_0 kq148_0 kq148_1 hS (lv_sub hl [0, 1, 2, 3, 4, 5, 6, 7, 8, 9] rfl)
      exact loop148 ((7 + 1 - (0 : Int32).toInt).toNat + 1) (0) mu _ _ _ (Nat.lt_succ_self _) (by have h80 : (0 : Int32).toInt = 0 := rfl; exact ⟨by omega, by omega⟩)  ok hP ey1 (fun _ _ _ => rfl) (fun _ _ _ => rfl) hS hl
    · have c_7 : r5.toInt = r6.toInt := il_eq c_7
      refine lv_iload_n hx hb dX12_hadOn_101 rfl (lv_at hl 4 rfl) ?_
      refine lv_iconst (v := 1) hx hb dX12_hadOn_102 (by decide) ?_
      refine lv_icmp_eq (tgt := 117) hx hb dX12_hadOn_103 (by decide) (fun c => absurd c (by decide)) (fun _ => ?_)
      refine lv_aload_n hx hb dX12_hadOn_106 rfl (lv_at hl 2 rfl) ?_
      refine va_get (D := (dC, dI)) (ci := 12) (v := .ref (ad 7)) (C := RX12) (T := TX12) (N := 46) hx hb hts inG12 hown hK hP 0 (gM_0 cs ad mu) rfl 9 (by decide) (hts _ (List.mem_cons_of_mem _ mw_5_50)) (fun _ h9 => h9) rfl dX12_hadOn_107 ?_
      refine lv_iload hx hb dX12_hadOn_110 (lv_at hl 1 rfl) ?_
      refine va_iald hx hb hK hP 7 0 (gM_7 cs ad mu) rfl (show vp_in y4 7 from vi_of (by omega) (by omega)) dX12_hadOn_112 ?_
      refine lv_topi (fun y25 ey25 => ?_)
      have by25 : y25.toInt = (mu 7 y4.toNatClampNeg).toInt := congrArg Int32.toInt ey25
      refine lv_iconst (v := 3) hx hb dX12_hadOn_113 (by decide) ?_
      refine lv_icmp_eq (tgt := 121) hx hb dX12_hadOn_114 (by decide) (fun c_26 => ?_) (fun c_26 => ?_)
      · have c_26 : y25.toInt = 3 := il_eq c_26
        refine lv_iconst (v := 0) hx hb dX12_hadOn_121 (by decide) ?_
        refine lv_istore (lv' := [(7, .int 0), (6, .int r5), (5, .int y4), (0, .ref (ad 0)), (1, .int vr), (2, .int 4), (3, .int vh), (4, .int vp)]) hx hb dX12_hadOn_122 hl (by decide) rfl (fun ls hl => ?_)
        refine lv_iload hx hb dX12_hadOn_124 (lv_at hl 0 rfl) ?_
        refine lv_if_eq (tgt := 142) hx hb dX12_hadOn_126 (by decide) (fun _ => ?_) (fun c => absurd (by decide) c)
        refine lv_iconst (v := 0) hx hb dX12_hadOn_142 (by decide) ?_
        refine lv_istore (lv' := [(8, .int 0), (7, .int 0), (6, .int r5), (5, .int y4), (0, .ref (ad 0)), (1, .int vr), (2, .int 4), (3, .int vh), (4, .int vp)]) hx hb dX12_hadOn_143 hl (by decide) rfl (fun ls hl => ?_)
        refine lv_iconst (v := 0) hx hb dX12_hadOn_145 (by decide) ?_
        refine lv_istore (lv' := [(9, .int 0), (8, .int 0), (7, .int 0), (6, .int r5), (5, .int y4), (0, .ref (ad 0)), (1, .int vr), (2, .int 4), (3, .int vh), (4, .int vp)]) hx hb dX12_hadOn_146 hl (by decide) rfl (fun ls hl => ?_)
        have loop148 : ∀ (n148 : Nat) (v9_148 : Int32) (nu148_ : Nat → Nat → Int32) (H : Heap) (locs : List Loc) (ls : Array Slot), (7 + 1 - v9_148.toInt).toNat < n148 → (0 ≤ v9_148.toInt ∧ v9_148.toInt ≤ 7) → okR loM hiM nu148_ → va_P (dC, dI) vwCl (wR 21 ad (EM cs ad) nu148_) H → y1 = nu148_ 2 vr.toNatClampNeg → (∀ k : Nat, 2 ≤ k → k < 3 → nu148_ k = mu k) → (∀ k f : Nat, Nat.testBit 510 (gpM k f) = true → nu148_ k f = mu k f) → va_S (va_A (wR 21 ad (EM cs ad) mu) s.heap.size) s.heap H locs → lv_has ls 10 [(9, .int v9_148), (8, .int 0), (7, .int 0), (6, .int r5), (5, .int y4), (0, .ref (ad 0)), (1, .int vr), (2, .int 4), (3, .int vh), (4, .int vp)] → W p l e (headSpec (wU yX12_hadOn cX12_hadOn 10 none) ({ frames := 4, cells := 0, slots := 0, locals := 110 })).room s m ([.ref (ad 0), .int vr, .int 4, .int vh, .int vp] : List Value).toArray below meth c H locs 0 0 (MQ below (va_Qv (fun (xi : Nat → Nat → Int32) => okR loM hiM xi ∧ (True) ∧ (∀ k : Nat, 2 ≤ k → k < 3 → xi k = mu k) ∧ (∀ k f : Nat, Nat.testBit 510 (gpM k f) = true → xi k f = mu k f)) (fun xi t => va_P (dC, dI) vwCl (wR 21 ad (EM cs ad) xi) t.heap) (va_A (wR 21 ad (EM cs ad) mu) s.heap.size)) ([.ref (ad 0), .int vr, .int 4, .int vh, .int vp] : List Value).toArray s 0 0 (va_A (wR 21 ad (EM cs ad) mu) s.heap.size)) (F0 m 148 ls []) := by
          intro n148
          induction n148 with
          | zero => intro v9_148 nu148_ H locs ls hm; exact absurd hm (Nat.not_lt_zero _)
          | succ n148 ih148 =>
            intro v9_148 nu148_ H locs ls hm_148 h_v9_148 ok hP ek148_0 kq148_0 kq148_1 hS hl
            refine lv_iload hx hb dX12_hadOn_148 (lv_at hl 0 rfl) ?_
            refine lv_aload_n hx hb dX12_hadOn_150 rfl (lv_at hl 5 rfl) ?_
            refine va_get (D := (dC, dI)) (ci := 12) (v := .int (nu148_ 0 8)) (C := RX12) (T := TX12) (N := 46) hx hb hts inG12 hown hK hP 0 (gM_0 cs ad nu148_) rfl 8 (by decide) (hts _ (List.mem_cons_of_mem _ mw_5_49)) (fun _ h9 => h9) rfl dX12_hadOn_151 ?_
            refine lv_topi (fun y27 ey27 => ?_)
            have by27 : y27.toInt = (nu148_ 0 8).toInt := congrArg Int32.toInt ey27
            have gy27 : 0 ≤ y27.toInt ∧ y27.toInt ≤ 7 := by rw [ey27]; exact rM_0_8 ok
            refine lv_icmp_ge (tgt := 197) hx hb dX12_hadOn_154 (by decide) (fun c_28 => ?_) (fun c_28 => ?_)
            · have c_28 : y27.toInt ≤ v9_148.toInt := il_le c_28
              exact W.vret hx hb hr (fun t ht hW => ⟨⟨nu148_, rfl, ⟨ok, trivial, kq148_0, kq148_1⟩, by first | (subst ht; exact hP) | (rw [ht]; exact hP) | (show va_P (dC, dI) vwCl (wR 21 ad (EM cs ad) nu148_) t.heap; rw [ht]; exact hP)⟩, hS.F ht⟩) hS.2.2 dX12_hadOn_197
            · have c_28 : v9_148.toInt < y27.toInt := il_nle c_28
              refine lv_iload hx hb dX12_hadOn_157 (lv_at hl 1 rfl) ?_
              refine lv_iload hx hb dX12_hadOn_159 (lv_at hl 0 rfl) ?_
              refine cr_i (va_runS (As := [.int 0, .int v9_148]) (rest := []) ⟨hx, hb, hml, hown, hts⟩ (sm_has l dC dI (tyM cs) H 0 v9_148) (va_cwS 2 hts (wU_S mw_6_59 mw_6_57 mw_6_58 mw_1_13) rfl rfl rfl (by decide +kernel) ⟨Nat.le_of_ble_eq_true rfl, Nat.le_of_ble_eq_true rfl⟩) ⟨sz_c, sz_m hK hz⟩ rfl rfl hl.1 rfl (lv_room (Nat.le_of_ble_eq_true rfl)) dX12_hadOn_161 ⟨Nat.zero_le _, Nat.zero_le _⟩) hS (fun r29 hw29 locs hS => ?_)
              obtain ⟨hfe29, hw29⟩ := hw29
              rcases hw29 with ⟨rfl, f29⟩ | ⟨rfl, f29⟩
              · have f29 : rb (0 : Int32) v9_148 = 1 := f29
                refine lv_if_eq (tgt := 191) hx hb dX12_hadOn_164 (by decide) (fun c => absurd c (by decide)) (fun _ => ?_)
                refine lv_aload_n hx hb dX12_hadOn_167 rfl (lv_at hl 5 rfl) ?_
                refine va_get (D := (dC, dI)) (ci := 12) (v := .ref (ad 16)) (C := RX12) (T := TX12) (N := 46) hx hb hts inG12 hown hK hP 0 (gM_0 cs ad nu148_) rfl 26 (by decide) (hts _ (List.mem_cons_of_mem _ mw_5_67)) (fun _ h9 => h9) rfl dX12_hadOn_168 ?_
                refine lv_iload_n hx hb dX12_hadOn_171 rfl (lv_at hl 7 rfl) ?_
                refine lv_iload hx hb dX12_hadOn_172 (lv_at hl 0 rfl) ?_
                refine va_iast hx hb hK hP (wR_D nu148_ hD) hS 16 0 (gM_16 cs ad nu148_) rfl (show vp_in 4 7 from (by unfold vp_in; decide)) dX12_hadOn_174 (fun H locs hP _ hS => ?_)
                refine wr_gen (upd (nu148_ 16) (4 : Int32).toNatClampNeg v9_148) hP (rfl) (fun nu30 hn30 hP => ?_)
                have ok := tM_16_s ok (4 : Int32).toNatClampNeg hn30 (by omega)
                have ez31 : y1 = nu30 2 vr.toNatClampNeg := ek148_0.trans (congrFun (up_k hn30 (by decide)) vr.toNatClampNeg).symm
                have ez32 : y27 = nu30 0 8 := ey27.trans (congrFun (up_k hn30 (by decide)) 8).symm
                have kp33 : ∀ k : Nat, 2 ≤ k → k < 3 → nu30 k = mu k := fun k h1 h2 => (up_k hn30 (ne_hi (by decide) h2).symm).trans (kq148_0 k h1 h2)
                have kp34 : (∀ k f : Nat, Nat.testBit 510 (gpM k f) = true → nu30 k f = mu k f) := kp_c 0 hn30 (fun _ => rfl) (by decide) kq148_1
                refine lv_aload_n hx hb dX12_hadOn_175 rfl (lv_at hl 5 rfl) ?_
                refine lv_iload_n hx hb dX12_hadOn_176 rfl (lv_at hl 6 rfl) ?_
                refine lv_iload_n hx hb dX12_hadOn_177 rfl (lv_at hl 7 rfl) ?_
                refine lv_iconst (v := 1) hx hb dX12_hadOn_178 (by decide) ?_
                refine lv_iadd hx hb dX12_hadOn_179 ?_
                refine lq_i 5 (by decide) ?_
                refine lv_iload_n hx hb dX12_hadOn_180 rfl (lv_at hl 8 rfl) ?_
                refine lv_iconst (v := 1) hx hb dX12_hadOn_181 (by decide) ?_
                refine lv_iload hx hb dX12_hadOn_182 (lv_at hl 0 rfl) ?_
                refine lv_ishl hx hb dX12_hadOn_184 ?_
                refine lv_topi (fun t35 et35 => ?_)
                refine lv_ior hx hb dX12_hadOn_185 ?_
                refine lv_topi (fun t36 et36 => ?_)
                refine lv_iload hx hb dX12_hadOn_186 (lv_at hl 3 rfl) ?_
                have hFc := fr_all (wR_D nu30 hD) hS hA
                refine va_callv (va_runV (As := [.int vr, .int 5, .int t36, .int r5]) (rest := []) ⟨hx, hb, hml, hown, hts⟩ (sm_hadOn5 l dC dI cs ad nu30 ok H hP ((wR_D nu30 hD).weaken (fun _ _ _ _ => trivial)) vr t36 r5 (by have h51 : (5 : Int32).toInt = 5 := rfl; omega) (by have h51 : (5 : Int32).toInt = 5 := rfl; have hb37 := congrArg Int32.toInt ez31; omega)) (cwV 4 hts (wU_V mw_7_24 mw_7_21 mw_7_23 mw_0_62 mw_1_13) rfl rfl rfl (by decide +kernel) ⟨Nat.le_of_ble_eq_true rfl, Nat.le_of_ble_eq_true rfl⟩) ⟨sz_c, va_recv hK hP (ci := 12) (q0 := 0) rfl (gM_0 cs ad nu30), sz_m hK hz⟩ rfl rfl hl.1 rfl (lv_room (Nat.le_of_ble_eq_true rfl)) dX12_hadOn_188 ⟨Nat.zero_le _, Nat.zero_le _⟩) hS (fun q _ h => hFc q h) hFc (fun xi38 t H38 locs ht hvm hw38 hB hz1 hk1 hS => ?_)
                have hP : va_P (dC, dI) vwCl (wR 21 ad (EM cs ad) xi38) H38 := by rw [← ht]; exact hB
                obtain ⟨ok, hw38, hkp38_0, hkp38_1⟩ := hw38
                have ez39 : y1 = xi38 2 vr.toNatClampNeg := ez31.trans (congrFun (hkp38_0 2 (by decide) (by decide)) vr.toNatClampNeg).symm
                have kp40 : ∀ k : Nat, 2 ≤ k → k < 3 → xi38 k = mu k := fun k h1 h2 => (hkp38_0 k (Nat.le_trans (by decide) h1) (Nat.lt_of_lt_of_le h2 (by decide))).trans (kp33 k h1 h2)
                have kp41 : (∀ k f : Nat, Nat.testBit 510 (gpM k f) = true → xi38 k f = mu k f) := kp_t hkp38_1 (by decide) kp34
                refine lv_iinc (v := (v9_148 + 1)) (lv' := [(9, .int (v9_148 + 1)), (8, .int 0), (7, .int 0), (6, .int r5), (5, .int y4), (0, .ref (ad 0)), (1, .int vr), (2, .int 4), (3, .int vh), (4, .int vp)]) hx hb dX12_hadOn_191 hl (k := 0) rfl rfl (by decide) rfl (fun ls hl => ?_)
                refine loc_gen (P := fun w9 => lv_has ls 10 [(9, .int w9), (8, .int 0), (7, .int 0), (6, .int r5), (5, .int y4), (0, .ref (ad 0)), (1, .int vr), (2, .int 4), (3, .int vh), (4, .int vp)]) (v9_148 + 1) hl (fun w42 hw42 hl => ?_)
                have hl : lv_has ls 10 [(9, .int w42), (8, .int 0), (7, .int 0), (6, .int r5), (5, .int y4), (0, .ref (ad 0)), (1, .int vr), (2, .int 4), (3, .int vh), (4, .int vp)] := hl
                have aw42 : w42.toInt = v9_148.toInt + 1 := by rw [← hw42]; first | exact va1 (Int.lt_of_le_of_lt h_v9_148.2 (by decide)) | exact va1 (by omega)
                refine lv_goto (tgt := 148) hx hb dX12_hadOn_194 (by decide) ?_
                exact ih148 (w42) xi38 _ _ _ (by first | exact ms_up hm_148 aw42 h_v9_148.2 | exact ms_lt hm_148 (by omega) (by omega) | omega) (by first | exact rg_up aw42 h_v9_148 (by omega) | omega)  ok hP ez39 kp40 kp41 hS (lv_sub hl [0, 1, 2, 3, 4, 5, 6, 7, 8, 9] rfl)
              · have f29 : ¬ rb (0 : Int32) v9_148 = 1 := f29
                refine lv_if_eq (tgt := 191) hx hb dX12_hadOn_164 (by decide) (fun _ => ?_) (fun c => absurd (by decide) c)
                refine lv_iinc (v := (v9_148 + 1)) (lv' := [(9, .int (v9_148 + 1)), (8, .int 0), (7, .int 0), (6, .int r5), (5, .int y4), (0, .ref (ad 0)), (1, .int vr), (2, .int 4), (3, .int vh), (4, .int vp)]) hx hb dX12_hadOn_191 hl (k := 0) rfl rfl (by decide) rfl (fun ls hl => ?_)
                refine loc_gen (P := fun w9 => lv_has ls 10 [(9, .int w9), (8, .int 0), (7, .int 0), (6, .int r5), (5, .int y4), (0, .ref (ad 0)), (1, .int vr), (2, .int 4), (3, .int vh), (4, .int vp)]) (v9_148 + 1) hl (fun w43 hw43 hl => ?_)
                have hl : lv_has ls 10 [(9, .int w43), (8, .int 0), (7, .int 0), (6, .int r5), (5, .int y4), (0, .ref (ad 0)), (1, .int vr), (2, .int 4), (3, .int vh), (4, .int vp)] := hl
                have aw43 : w43.toInt = v9_148.toInt + 1 := by rw [← hw43]; first | exact va1 (Int.lt_of_le_of_lt h_v9_148.2 (by decide)) | exact va1 (by omega)
                refine lv_goto (tgt := 148) hx hb dX12_hadOn_194 (by decide) ?_
                exact ih148 (w43) nu148_ _ _ _ (by first | exact ms_up hm_148 aw43 h_v9_148.2 | exact ms_lt hm_148 (by omega) (by omega) | omega) (by first | exact rg_up aw43 h_v9_148 (by omega) | omega)  ok hP ek148_0 kq148_0 kq148_1 hS (lv_sub hl [0, 1, 2, 3, 4, 5, 6, 7, 8, 9] rfl)
        exact loop148 ((7 + 1 - (0 : Int32).toInt).toNat + 1) (0) mu _ _ _ (Nat.lt_succ_self _) (by have h80 : (0 : Int32).toInt = 0 := rfl; exact ⟨by omega, by omega⟩)  ok hP ey1 (fun _ _ _ => rfl) (fun _ _ _ => rfl) hS hl
      · have c_26 : ¬ y25.toInt = 3 := il_ne c_26
        refine lv_iconst (v := 1) hx hb dX12_hadOn_117 (by decide) ?_
        refine lv_goto (tgt := 122) hx hb dX12_hadOn_118 (by decide) ?_
        refine lv_istore (lv' := [(7, .int 1), (6, .int r5), (5, .int y4), (0, .ref (ad 0)), (1, .int vr), (2, .int 4), (3, .int vh), (4, .int vp)]) hx hb dX12_hadOn_122 hl (by decide) rfl (fun ls hl => ?_)
        refine lv_iload hx hb dX12_hadOn_124 (lv_at hl 0 rfl) ?_
        refine lv_if_eq (tgt := 142) hx hb dX12_hadOn_126 (by decide) (fun c => absurd c (by decide)) (fun _ => ?_)
        refine lv_aload_n hx hb dX12_hadOn_129 rfl (lv_at hl 3 rfl) ?_
        refine lv_iload hx hb dX12_hadOn_130 (lv_at hl 2 rfl) ?_
        refine cr_i (va_runV (As := [.int y4]) (rest := []) ⟨hx, hb, hml, hown, hts⟩ (sm_besideOf l dC dI cs ad mu ok s.heap hP y4) (cwV 1 hts (wU_V mw_6_56 mw_6_53 mw_6_55 mw_0_40 mw_1_13) rfl rfl rfl (by decide +kernel) ⟨Nat.le_of_ble_eq_true rfl, Nat.le_of_ble_eq_true rfl⟩) ⟨sz_c, va_recv hK hP (ci := 12) (q0 := 0) rfl (gM_0 cs ad mu), sz_m hK hz⟩ rfl rfl hl.1 rfl (lv_room (Nat.le_of_ble_eq_true rfl)) dX12_hadOn_132 ⟨Nat.zero_le _, Nat.zero_le _⟩) hS (fun r44 hw44 locs hS => ?_)
        obtain ⟨hfe44, hw44⟩ := hw44
        refine lv_iload_n hx hb dX12_hadOn_135 rfl (lv_at hl 6 rfl) ?_
        refine lv_iconst (v := (-1)) hx hb dX12_hadOn_136 (by decide) ?_
        refine lv_ixor hx hb dX12_hadOn_137 ?_
        refine lv_topi (fun t45 et45 => ?_)
        refine lv_iand hx hb dX12_hadOn_138 ?_
        refine lv_topi (fun t46 et46 => ?_)
        refine lv_goto (tgt := 143) hx hb dX12_hadOn_139 (by decide) ?_
        refine lv_istore (lv' := [(8, .int t46), (7, .int 1), (6, .int r5), (5, .int y4), (0, .ref (ad 0)), (1, .int vr), (2, .int 4), (3, .int vh), (4, .int vp)]) hx hb dX12_hadOn_143 hl (by decide) rfl (fun ls hl => ?_)
        refine lv_iconst (v := 0) hx hb dX12_hadOn_145 (by decide) ?_
        refine lv_istore (lv' := [(9, .int 0), (8, .int t46), (7, .int 1), (6, .int r5), (5, .int y4), (0, .ref (ad 0)), (1, .int vr), (2, .int 4), (3, .int vh), (4, .int vp)]) hx hb dX12_hadOn_146 hl (by decide) rfl (fun ls hl => ?_)
        have loop148 : ∀ (n148 : Nat) (v9_148 : Int32) (nu148_ : Nat → Nat → Int32) (H : Heap) (locs : List Loc) (ls : Array Slot), (7 + 1 - v9_148.toInt).toNat < n148 → (0 ≤ v9_148.toInt ∧ v9_148.toInt ≤ 7) → okR loM hiM nu148_ → va_P (dC, dI) vwCl (wR 21 ad (EM cs ad) nu148_) H → y1 = nu148_ 2 vr.toNatClampNeg → (∀ k : Nat, 2 ≤ k → k < 3 → nu148_ k = mu k) → (∀ k f : Nat, Nat.testBit 510 (gpM k f) = true → nu148_ k f = mu k f) → va_S (va_A (wR 21 ad (EM cs ad) mu) s.heap.size) s.heap H locs → lv_has ls 10 [(9, .int v9_148), (8, .int t46), (7, .int 1), (6, .int r5), (5, .int y4), (0, .ref (ad 0)), (1, .int vr), (2, .int 4), (3, .int vh), (4, .int vp)] → W p l e (headSpec (wU yX12_hadOn cX12_hadOn 10 none) ({ frames := 4, cells := 0, slots := 0, locals := 110 })).room s m ([.ref (ad 0), .int vr, .int 4, .int vh, .int vp] : List Value).toArray below meth c H locs 0 0 (MQ below (va_Qv (fun (xi : Nat → Nat → Int32) => okR loM hiM xi ∧ (True) ∧ (∀ k : Nat, 2 ≤ k → k < 3 → xi k = mu k) ∧ (∀ k f : Nat, Nat.testBit 510 (gpM k f) = true → xi k f = mu k f)) (fun xi t => va_P (dC, dI) vwCl (wR 21 ad (EM cs ad) xi) t.heap) (va_A (wR 21 ad (EM cs ad) mu) s.heap.size)) ([.ref (ad 0), .int vr, .int 4, .int vh, .int vp] : List Value).toArray s 0 0 (va_A (wR 21 ad (EM cs ad) mu) s.heap.size)) (F0 m 148 ls []) := by
          intro n148
          induction n148 with
          | zero => intro v9_148 nu148_ H locs ls hm; exact absurd hm (Nat.not_lt_zero _)
          | succ n148 ih148 =>
            intro v9_148 nu148_ H locs ls hm_148 h_v9_148 ok hP ek148_0 kq148_0 kq148_1 hS hl
            refine lv_iload hx hb dX12_hadOn_148 (lv_at hl 0 rfl) ?_
            refine lv_aload_n hx hb dX12_hadOn_150 rfl (lv_at hl 5 rfl) ?_
            refine va_get (D := (dC, dI)) (ci := 12) (v := .int (nu148_ 0 8)) (C := RX12) (T := TX12) (N := 46) hx hb hts inG12 hown hK hP 0 (gM_0 cs ad nu148_) rfl 8 (by decide) (hts _ (List.mem_cons_of_mem _ mw_5_49)) (fun _ h9 => h9) rfl dX12_hadOn_151 ?_
            refine lv_topi (fun y47 ey47 => ?_)
            have by47 : y47.toInt = (nu148_ 0 8).toInt := congrArg Int32.toInt ey47
            have gy47 : 0 ≤ y47.toInt ∧ y47.toInt ≤ 7 := by rw [ey47]; exact rM_0_8 ok
            refine lv_icmp_ge (tgt := 197) hx hb dX12_hadOn_154 (by decide) (fun c_48 => ?_) (fun c_48 => ?_)
            · have c_48 : y47.toInt ≤ v9_148.toInt := il_le c_48
              exact W.vret hx hb hr (fun t ht hW => ⟨⟨nu148_, rfl, ⟨ok, trivial, kq148_0, kq148_1⟩, by first | (subst ht; exact hP) | (rw [ht]; exact hP) | (show va_P (dC, dI) vwCl (wR 21 ad (EM cs ad) nu148_) t.heap; rw [ht]; exact hP)⟩, hS.F ht⟩) hS.2.2 dX12_hadOn_197
            · have c_48 : v9_148.toInt < y47.toInt := il_nle c_48
              refine lv_iload hx hb dX12_hadOn_157 (lv_at hl 1 rfl) ?_
              refine lv_iload hx hb dX12_hadOn_159 (lv_at hl 0 rfl) ?_
              refine cr_i (va_runS (As := [.int t46, .int v9_148]) (rest := []) ⟨hx, hb, hml, hown, hts⟩ (sm_has l dC dI (tyM cs) H t46 v9_148) (va_cwS 2 hts (wU_S mw_6_59 mw_6_57 mw_6_58 mw_1_13) rfl rfl rfl (by decide +kernel) ⟨Nat.le_of_ble_eq_true rfl, Nat.le_of_ble_eq_true rfl⟩) ⟨sz_c, sz_m hK hz⟩ rfl rfl hl.1 rfl (lv_room (Nat.le_of_ble_eq_true rfl)) dX12_hadOn_161 ⟨Nat.zero_le _, Nat.zero_le _⟩) hS (fun r49 hw49 locs hS => ?_)
              obtain ⟨hfe49, hw49⟩ := hw49
              rcases hw49 with ⟨rfl, f49⟩ | ⟨rfl, f49⟩
              · have f49 : rb t46 v9_148 = 1 := f49
                refine lv_if_eq (tgt := 191) hx hb dX12_hadOn_164 (by decide) (fun c => absurd c (by decide)) (fun _ => ?_)
                refine lv_aload_n hx hb dX12_hadOn_167 rfl (lv_at hl 5 rfl) ?_
                refine va_get (D := (dC, dI)) (ci := 12) (v := .ref (ad 16)) (C := RX12) (T := TX12) (N := 46) hx hb hts inG12 hown hK hP 0 (gM_0 cs ad nu148_) rfl 26 (by decide) (hts _ (List.mem_cons_of_mem _ mw_5_67)) (fun _ h9 => h9) rfl dX12_hadOn_168 ?_
                refine lv_iload_n hx hb dX12_hadOn_171 rfl (lv_at hl 7 rfl) ?_
                refine lv_iload hx hb dX12_hadOn_172 (lv_at hl 0 rfl) ?_
                refine va_iast hx hb hK hP (wR_D nu148_ hD) hS 16 0 (gM_16 cs ad nu148_) rfl (show vp_in 4 7 from (by unfold vp_in; decide)) dX12_hadOn_174 (fun H locs hP _ hS => ?_)
                refine wr_gen (upd (nu148_ 16) (4 : Int32).toNatClampNeg v9_148) hP (rfl) (fun nu50 hn50 hP => ?_)
                have ok := tM_16_s ok (4 : Int32).toNatClampNeg hn50 (by omega)
                have ez51 : y1 = nu50 2 vr.toNatClampNeg := ek148_0.trans (congrFun (up_k hn50 (by decide)) vr.toNatClampNeg).symm
                have ez52 : y47 = nu50 0 8 := ey47.trans (congrFun (up_k hn50 (by decide)) 8).symm
                have kp53 : ∀ k : Nat, 2 ≤ k → k < 3 → nu50 k = mu k := fun k h1 h2 => (up_k hn50 (ne_hi (by decide) h2).symm).trans (kq148_0 k h1 h2)
                have kp54 : (∀ k f : Nat, Nat.testBit 510 (gpM k f) = true → nu50 k f = mu k f) := kp_c 0 hn50 (fun _ => rfl) (by decide) kq148_1
                refine lv_aload_n hx hb dX12_hadOn_175 rfl (lv_at hl 5 rfl) ?_
                refine lv_iload_n hx hb dX12_hadOn_176 rfl (lv_at hl 6 rfl) ?_
                refine lv_iload_n hx hb dX12_hadOn_177 rfl (lv_at hl 7 rfl) ?_
                refine lv_iconst (v := 1) hx hb dX12_hadOn_178 (by decide) ?_
                refine lv_iadd hx hb dX12_hadOn_179 ?_
                refine lq_i 5 (by decide) ?_
                refine lv_iload_n hx hb dX12_hadOn_180 rfl (lv_at hl 8 rfl) ?_
                refine lv_iconst (v := 1) hx hb dX12_hadOn_181 (by decide) ?_
                refine lv_iload hx hb dX12_hadOn_182 (lv_at hl 0 rfl) ?_
                refine lv_ishl hx hb dX12_hadOn_184 ?_
                refine lv_topi (fun t55 et55 => ?_)
                refine lv_ior hx hb dX12_hadOn_185 ?_
                refine lv_topi (fun t56 et56 => ?_)
                refine lv_iload hx hb dX12_hadOn_186 (lv_at hl 3 rfl) ?_
                have hFc := fr_all (wR_D nu50 hD) hS hA
                refine va_callv (va_runV (As := [.int vr, .int 5, .int t56, .int r5]) (rest := []) ⟨hx, hb, hml, hown, hts⟩ (sm_hadOn5 l dC dI cs ad nu50 ok H hP ((wR_D nu50 hD).weaken (fun _ _ _ _ => trivial)) vr t56 r5 (by have h51 : (5 : Int32).toInt = 5 := rfl; omega) (by have h51 : (5 : Int32).toInt = 5 := rfl; have hb57 := congrArg Int32.toInt ez51; omega)) (cwV 4 hts (wU_V mw_7_24 mw_7_21 mw_7_23 mw_0_62 mw_1_13) rfl rfl rfl (by decide +kernel) ⟨Nat.le_of_ble_eq_true rfl, Nat.le_of_ble_eq_true rfl⟩) ⟨sz_c, va_recv hK hP (ci := 12) (q0 := 0) rfl (gM_0 cs ad nu50), sz_m hK hz⟩ rfl rfl hl.1 rfl (lv_room (Nat.le_of_ble_eq_true rfl)) dX12_hadOn_188 ⟨Nat.zero_le _, Nat.zero_le _⟩) hS (fun q _ h => hFc q h) hFc (fun xi58 t H58 locs ht hvm hw58 hB hz1 hk1 hS => ?_)
                have hP : va_P (dC, dI) vwCl (wR 21 ad (EM cs ad) xi58) H58 := by rw [← ht]; exact hB
                obtain ⟨ok, hw58, hkp58_0, hkp58_1⟩ := hw58
                have ez59 : y1 = xi58 2 vr.toNatClampNeg := ez51.trans (congrFun (hkp58_0 2 (by decide) (by decide)) vr.toNatClampNeg).symm
                have kp60 : ∀ k : Nat, 2 ≤ k → k < 3 → xi58 k = mu k := fun k h1 h2 => (hkp58_0 k (Nat.le_trans (by decide) h1) (Nat.lt_of_lt_of_le h2 (by decide))).trans (kp53 k h1 h2)
                have kp61 : (∀ k f : Nat, Nat.testBit 510 (gpM k f) = true → xi58 k f = mu k f) := kp_t hkp58_1 (by decide) kp54
                refine lv_iinc (v := (v9_148 + 1)) (lv' := [(9, .int (v9_148 + 1)), (8, .int t46), (7, .int 1), (6, .int r5), (5, .int y4), (0, .ref (ad 0)), (1, .int vr), (2, .int 4), (3, .int vh), (4, .int vp)]) hx hb dX12_hadOn_191 hl (k := 0) rfl rfl (by decide) rfl (fun ls hl => ?_)
                refine loc_gen (P := fun w9 => lv_has ls 10 [(9, .int w9), (8, .int t46), (7, .int 1), (6, .int r5), (5, .int y4), (0, .ref (ad 0)), (1, .int vr), (2, .int 4), (3, .int vh), (4, .int vp)]) (v9_148 + 1) hl (fun w62 hw62 hl => ?_)
                have hl : lv_has ls 10 [(9, .int w62), (8, .int t46), (7, .int 1), (6, .int r5), (5, .int y4), (0, .ref (ad 0)), (1, .int vr), (2, .int 4), (3, .int vh), (4, .int vp)] := hl
                have aw62 : w62.toInt = v9_148.toInt + 1 := by rw [← hw62]; first | exact va1 (Int.lt_of_le_of_lt h_v9_148.2 (by decide)) | exact va1 (by omega)
                refine lv_goto (tgt := 148) hx hb dX12_hadOn_194 (by decide) ?_
                exact ih148 (w62) xi58 _ _ _ (by first | exact ms_up hm_148 aw62 h_v9_148.2 | exact ms_lt hm_148 (by omega) (by omega) | omega) (by first | exact rg_up aw62 h_v9_148 (by omega) | omega)  ok hP ez59 kp60 kp61 hS (lv_sub hl [0, 1, 2, 3, 4, 5, 6, 7, 8, 9] rfl)
              · have f49 : ¬ rb t46 v9_148 = 1 := f49
                refine lv_if_eq (tgt := 191) hx hb dX12_hadOn_164 (by decide) (fun _ => ?_) (fun c => absurd (by decide) c)
                refine lv_iinc (v := (v9_148 + 1)) (lv' := [(9, .int (v9_148 + 1)), (8, .int t46), (7, .int 1), (6, .int r5), (5, .int y4), (0, .ref (ad 0)), (1, .int vr), (2, .int 4), (3, .int vh), (4, .int vp)]) hx hb dX12_hadOn_191 hl (k := 0) rfl rfl (by decide) rfl (fun ls hl => ?_)
                refine loc_gen (P := fun w9 => lv_has ls 10 [(9, .int w9), (8, .int t46), (7, .int 1), (6, .int r5), (5, .int y4), (0, .ref (ad 0)), (1, .int vr), (2, .int 4), (3, .int vh), (4, .int vp)]) (v9_148 + 1) hl (fun w63 hw63 hl => ?_)
                have hl : lv_has ls 10 [(9, .int w63), (8, .int t46), (7, .int 1), (6, .int r5), (5, .int y4), (0, .ref (ad 0)), (1, .int vr), (2, .int 4), (3, .int vh), (4, .int vp)] := hl
                have aw63 : w63.toInt = v9_148.toInt + 1 := by rw [← hw63]; first | exact va1 (Int.lt_of_le_of_lt h_v9_148.2 (by decide)) | exact va1 (by omega)
                refine lv_goto (tgt := 148) hx hb dX12_hadOn_194 (by decide) ?_
                exact ih148 (w63) nu148_ _ _ _ (by first | exact ms_up hm_148 aw63 h_v9_148.2 | exact ms_lt hm_148 (by omega) (by omega) | omega) (by first | exact rg_up aw63 h_v9_148 (by omega) | omega)  ok hP ek148_0 kq148_0 kq148_1 hS (lv_sub hl [0, 1, 2, 3, 4, 5, 6, 7, 8, 9] rfl)
        exact loop148 ((7 + 1 - (0 : Int32).toInt).toNat + 1) (0) mu _ _ _ (Nat.lt_succ_self _) (by have h80 : (0 : Int32).toInt = 0 := rfl; exact ⟨by omega, by omega⟩)  ok hP ey1 (fun _ _ _ => rfl) (fun _ _ _ => rfl) hS hl
  · have c_3 : 4 = t2.toInt := il_eq c_3
    refine lv_aload_n hx hb dX12_hadOn_12 rfl (lv_at hl 0 rfl) ?_
    refine va_get (D := (dC, dI)) (ci := 12) (v := .int (mu 0 42)) (C := RX12) (T := TX12) (N := 46) hx hb hts inG12 hown hK hP 0 (gM_0 cs ad mu) rfl 42 (by decide) (hts _ (List.mem_cons_of_mem _ mw_5_83)) (fun _ h9 => h9) rfl dX12_hadOn_13 ?_
    refine lv_topi (fun y64 ey64 => ?_)
    have by64 : y64.toInt = (mu 0 42).toInt := congrArg Int32.toInt ey64
    refine lv_if_ne (tgt := 28) hx hb dX12_hadOn_16 (by decide) (fun c_65 => ?_) (fun c_65 => ?_)
    · have c_65 : ¬ y64.toInt = 0 := il_ne c_65
      refine lv_aload_n hx hb dX12_hadOn_28 rfl (lv_at hl 0 rfl) ?_
      refine lv_dup hx hb dX12_hadOn_29 rfl ?_
      refine va_get (D := (dC, dI)) (ci := 12) (v := .int (mu 0 42)) (C := RX12) (T := TX12) (N := 46) hx hb hts inG12 hown hK hP 0 (gM_0 cs ad mu) rfl 42 (by decide) (hts _ (List.mem_cons_of_mem _ mw_5_83)) (fun _ h9 => h9) rfl dX12_hadOn_30 ?_
      refine lq_i y64 ey64.symm ?_
      refine lv_iconst (v := 1) hx hb dX12_hadOn_33 (by decide) ?_
      refine lv_iadd hx hb dX12_hadOn_34 ?_
      refine lv_topi (fun t66 et66 => ?_)
      refine va_put (D := (dC, dI)) (ci := 12) (v := .int t66) (ty := .int) (C := RX12) (T := TX12) (N := 46) hx hb hts inG12 tyX12 tyX12_ok nmX12 hown hK hP (wR_D mu hD) hS 0 (gM_0 cs ad mu) rfl 42 (by decide) (hts _ (List.mem_cons_of_mem _ mw_5_83)) (fun _ h9 => h9) rfl (by decide +kernel) rfl rfl (Nat.le_of_ble_eq_true rfl) dX12_hadOn_35 (fun H locs hP _ hS => ?_)
      simp only [List.set_cons_succ, List.set_cons_zero] at hP
      refine wr_gen (upd (mu 0) 42 t66) hP ((hM_0_42 cs ad _ _)) (fun nu67 hn67 hP => ?_)
      have ok := tM_0_42 ok hn67
      have ez68 : y1 = nu67 2 vr.toNatClampNeg := ey1.trans (congrFun (up_k hn67 (by decide)) vr.toNatClampNeg).symm
      have kp69 : ∀ k : Nat, 2 ≤ k → k < 3 → nu67 k = mu k := fun k h1 h2 => (up_k hn67 (ne_lo (by decide) h1).symm).trans ((fun _ _ _ => rfl) k h1 h2)
      have kp70 : (∀ k f : Nat, Nat.testBit 510 (gpM k f) = true → nu67 k f = mu k f) := kp_f hn67 (by decide) (fun _ _ _ => rfl)
      have ez71 : t66 = nu67 0 42 := up_v hn67
      refine lv_aload_n hx hb dX12_hadOn_38 rfl (lv_at hl 0 rfl) ?_
      refine lv_dup hx hb dX12_hadOn_39 rfl ?_
      refine va_get (D := (dC, dI)) (ci := 12) (v := .int (nu67 0 43)) (C := RX12) (T := TX12) (N := 46) hx hb hts inG12 hown hK hP 0 (gM_0 cs ad nu67) rfl 43 (by decide) (hts _ (List.mem_cons_of_mem _ mw_5_84)) (fun _ h9 => h9) rfl dX12_hadOn_40 ?_
      refine lv_topi (fun y72 ey72 => ?_)
      have by72 : y72.toInt = (nu67 0 43).toInt := congrArg Int32.toInt ey72
      refine lv_iconst (v := 1) hx hb dX12_hadOn_43 (by decide) ?_
      refine lv_aload_n hx hb dX12_hadOn_44 rfl (lv_at hl 0 rfl) ?_
      refine va_get (D := (dC, dI)) (ci := 12) (v := .ref (ad 16)) (C := RX12) (T := TX12) (N := 46) hx hb hts inG12 hown hK hP 0 (gM_0 cs ad nu67) rfl 26 (by decide) (hts _ (List.mem_cons_of_mem _ mw_5_67)) (fun _ h9 => h9) rfl dX12_hadOn_45 ?_
      refine lv_iload_n hx hb dX12_hadOn_48 rfl (lv_at hl 2 rfl) ?_
      refine lv_iconst (v := 1) hx hb dX12_hadOn_49 (by decide) ?_
      refine lv_isub hx hb dX12_hadOn_50 ?_
      refine lq_i 3 (by decide) ?_
      refine va_iald hx hb hK hP 16 0 (gM_16 cs ad nu67) rfl (show vp_in 3 7 from (by unfold vp_in; decide)) dX12_hadOn_51 ?_
      refine lv_topi (fun y73 ey73 => ?_)
      have by73 : y73.toInt = (nu67 16 (3 : Int32).toNatClampNeg).toInt := congrArg Int32.toInt ey73
      have gy73 : 0 ≤ y73.toInt ∧ y73.toInt ≤ 6 := by rw [ey73]; exact rM_16_s ok (3 : Int32).toNatClampNeg
      refine lv_ishl hx hb dX12_hadOn_52 ?_
      refine lv_topi (fun t74 et74 => ?_)
      refine lv_ior hx hb dX12_hadOn_53 ?_
      refine lv_topi (fun t75 et75 => ?_)
      refine va_put (D := (dC, dI)) (ci := 12) (v := .int t75) (ty := .int) (C := RX12) (T := TX12) (N := 46) hx hb hts inG12 tyX12 tyX12_ok nmX12 hown hK hP (wR_D nu67 hD) hS 0 (gM_0 cs ad nu67) rfl 43 (by decide) (hts _ (List.mem_cons_of_mem _ mw_5_84)) (fun _ h9 => h9) rfl (by decide +kernel) rfl rfl (Nat.le_of_ble_eq_true rfl) dX12_hadOn_54 (fun H locs hP _ hS => ?_)
      simp only [List.set_cons_succ, List.set_cons_zero] at hP
      refine wr_gen (upd (nu67 0) 43 t75) hP ((hM_0_43 cs ad _ _)) (fun nu76 hn76 hP => ?_)
      have ok := tM_0_43 ok hn76
      have ez77 : y1 = nu76 2 vr.toNatClampNeg := ez68.trans (congrFun (up_k hn76 (by decide)) vr.toNatClampNeg).symm
      have ez78 : t66 = nu76 0 42 := ez71.trans (up_f hn76 (by decide)).symm
      have ez79 : y73 = nu76 16 (3 : Int32).toNatClampNeg := ey73.trans (congrFun (up_k hn76 (by decide)) (3 : Int32).toNatClampNeg).symm
      have kp80 : ∀ k : Nat, 2 ≤ k → k < 3 → nu76 k = mu k := fun k h1 h2 => (up_k hn76 (ne_lo (by decide) h1).symm).trans (kp69 k h1 h2)
      have kp81 : (∀ k f : Nat, Nat.testBit 510 (gpM k f) = true → nu76 k f = mu k f) := kp_f hn76 (by decide) kp70
      have ez82 : t75 = nu76 0 43 := up_v hn76
      refine lv_aload_n hx hb dX12_hadOn_57 rfl (lv_at hl 0 rfl) ?_
      refine lv_dup hx hb dX12_hadOn_58 rfl ?_
      refine va_get (D := (dC, dI)) (ci := 12) (v := .int (nu76 0 44)) (C := RX12) (T := TX12) (N := 46) hx hb hts inG12 hown hK hP 0 (gM_0 cs ad nu76) rfl 44 (by decide) (hts _ (List.mem_cons_of_mem _ mw_5_85)) (fun _ h9 => h9) rfl dX12_hadOn_59 ?_
      refine lv_topi (fun y83 ey83 => ?_)
      have by83 : y83.toInt = (nu76 0 44).toInt := congrArg Int32.toInt ey83
      refine lv_iload_n hx hb dX12_hadOn_62 rfl (lv_at hl 3 rfl) ?_
      refine lv_iand hx hb dX12_hadOn_63 ?_
      refine lv_topi (fun t84 et84 => ?_)
      refine va_put (D := (dC, dI)) (ci := 12) (v := .int t84) (ty := .int) (C := RX12) (T := TX12) (N := 46) hx hb hts inG12 tyX12 tyX12_ok nmX12 hown hK hP (wR_D nu76 hD) hS 0 (gM_0 cs ad nu76) rfl 44 (by decide) (hts _ (List.mem_cons_of_mem _ mw_5_85)) (fun _ h9 => h9) rfl (by decide +kernel) rfl rfl (Nat.le_of_ble_eq_true rfl) dX12_hadOn_64 (fun H locs hP _ hS => ?_)
      simp only [List.set_cons_succ, List.set_cons_zero] at hP
      refine wr_gen (upd (nu76 0) 44 t84) hP ((hM_0_44 cs ad _ _)) (fun nu85 hn85 hP => ?_)
      have ok := tM_0_44 ok hn85
      have ez86 : y1 = nu85 2 vr.toNatClampNeg := ez77.trans (congrFun (up_k hn85 (by decide)) vr.toNatClampNeg).symm
      have ez87 : t66 = nu85 0 42 := ez78.trans (up_f hn85 (by decide)).symm
      have ez88 : y73 = nu85 16 (3 : Int32).toNatClampNeg := ez79.trans (congrFun (up_k hn85 (by decide)) (3 : Int32).toNatClampNeg).symm
      have ez89 : t75 = nu85 0 43 := ez82.trans (up_f hn85 (by decide)).symm
      have kp90 : ∀ k : Nat, 2 ≤ k → k < 3 → nu85 k = mu k := fun k h1 h2 => (up_k hn85 (ne_lo (by decide) h1).symm).trans (kp80 k h1 h2)
      have kp91 : (∀ k f : Nat, Nat.testBit 510 (gpM k f) = true → nu85 k f = mu k f) := kp_f hn85 (by decide) kp81
      have ez92 : t84 = nu85 0 44 := up_v hn85
      exact W.vret hx hb hr (fun t ht hW => ⟨⟨nu85, rfl, ⟨ok, trivial, kp90, kp91⟩, by first | (subst ht; exact hP) | (rw [ht]; exact hP) | (show va_P (dC, dI) vwCl (wR 21 ad (EM cs ad) nu85) t.heap; rw [ht]; exact hP)⟩, hS.F ht⟩) hS.2.2 dX12_hadOn_67
    · have c_65 : y64.toInt = 0 := il_eq c_65
      refine lv_aload_n hx hb dX12_hadOn_19 rfl (lv_at hl 0 rfl) ?_
      refine lv_aload_n hx hb dX12_hadOn_20 rfl (lv_at hl 0 rfl) ?_
      refine va_get (D := (dC, dI)) (ci := 12) (v := .ref (ad 17)) (C := RX12) (T := TX12) (N := 46) hx hb hts inG12 hown hK hP 0 (gM_0 cs ad mu) rfl 27 (by decide) (hts _ (List.mem_cons_of_mem _ mw_5_68)) (fun _ h9 => h9) rfl dX12_hadOn_21 ?_
      refine lv_iload_n hx hb dX12_hadOn_24 rfl (lv_at hl 2 rfl) ?_
      have hFc := fr_all (wR_D mu hD) hS hA
      refine va_callv (va_runV (As := [.ref (ad 17), .int 4]) (rest := []) ⟨hx, hb, hml, hown, hts⟩ (sm_copyRoute17 l dC dI cs ad mu ok s.heap hP ((wR_D mu hD).weaken (fun _ _ _ _ => trivial)) 4 (by have h51 : (4 : Int32).toInt = 4 := rfl; omega)) (cwV 2 hts (wU_V mw_6_191 mw_6_188 mw_6_190 mw_0_57 mw_1_13) rfl rfl rfl (by decide +kernel) ⟨Nat.le_of_ble_eq_true rfl, Nat.le_of_ble_eq_true rfl⟩) ⟨sz_c, va_recv hK hP (ci := 12) (q0 := 0) rfl (gM_0 cs ad mu), sz_m hK hz⟩ rfl rfl hl.1 rfl (lv_room (Nat.le_of_ble_eq_true rfl)) dX12_hadOn_25 ⟨Nat.zero_le _, Nat.zero_le _⟩) hS (fun q _ h => hFc q h) hFc (fun xi93 t H93 locs ht hvm hw93 hB hz1 hk1 hS => ?_)
      have hP : va_P (dC, dI) vwCl (wR 21 ad (EM cs ad) xi93) H93 := by rw [← ht]; exact hB
      obtain ⟨hfe93, ok, hw93, hkp93_0, hkp93_1⟩ := hw93
      have ez94 : y1 = xi93 2 vr.toNatClampNeg := ey1.trans (congrFun (hkp93_0 2 (by decide) (by decide)) vr.toNatClampNeg).symm
      have ez95 : y64 = xi93 0 42 := ey64.trans (congrFun (hkp93_0 0 (by decide) (by decide)) 42).symm
      have kp96 : ∀ k : Nat, 2 ≤ k → k < 3 → xi93 k = mu k := fun k h1 h2 => (hkp93_0 k (Nat.le_trans (by decide) h1) (Nat.lt_of_lt_of_le h2 (by decide))).trans ((fun _ _ _ => rfl) k h1 h2)
      have kp97 : (∀ k f : Nat, Nat.testBit 510 (gpM k f) = true → xi93 k f = mu k f) := kp_t hkp93_1 (by decide) (fun _ _ _ => rfl)
      refine lv_aload_n hx hb dX12_hadOn_28 rfl (lv_at hl 0 rfl) ?_
      refine lv_dup hx hb dX12_hadOn_29 rfl ?_
      refine va_get (D := (dC, dI)) (ci := 12) (v := .int (xi93 0 42)) (C := RX12) (T := TX12) (N := 46) hx hb hts inG12 hown hK hP 0 (gM_0 cs ad xi93) rfl 42 (by decide) (hts _ (List.mem_cons_of_mem _ mw_5_83)) (fun _ h9 => h9) rfl dX12_hadOn_30 ?_
      refine lq_i y64 ez95.symm ?_
      refine lv_iconst (v := 1) hx hb dX12_hadOn_33 (by decide) ?_
      refine lv_iadd hx hb dX12_hadOn_34 ?_
      refine lv_topi (fun t98 et98 => ?_)
      have at98 : t98.toInt = y64.toInt + 1 := by rw [et98]; exact va1 (by omega)
      refine va_put (D := (dC, dI)) (ci := 12) (v := .int t98) (ty := .int) (C := RX12) (T := TX12) (N := 46) hx hb hts inG12 tyX12 tyX12_ok nmX12 hown hK hP (wR_D xi93 hD) hS 0 (gM_0 cs ad xi93) rfl 42 (by decide) (hts _ (List.mem_cons_of_mem _ mw_5_83)) (fun _ h9 => h9) rfl (by decide +kernel) rfl rfl (Nat.le_of_ble_eq_true rfl) dX12_hadOn_35 (fun H locs hP _ hS => ?_)
      simp only [List.set_cons_succ, List.set_cons_zero] at hP
      refine wr_gen (upd (xi93 0) 42 t98) hP ((hM_0_42 cs ad _ _)) (fun nu99 hn99 hP => ?_)
      have ok := tM_0_42 ok hn99
      have ez100 : y1 = nu99 2 vr.toNatClampNeg := ez94.trans (congrFun (up_k hn99 (by decide)) vr.toNatClampNeg).symm
      have kp101 : ∀ k : Nat, 2 ≤ k → k < 3 → nu99 k = mu k := fun k h1 h2 => (up_k hn99 (ne_lo (by decide) h1).symm).trans (kp96 k h1 h2)
      have kp102 : (∀ k f : Nat, Nat.testBit 510 (gpM k f) = true → nu99 k f = mu k f) := kp_f hn99 (by decide) kp97
      have ez103 : t98 = nu99 0 42 := up_v hn99
      refine lv_aload_n hx hb dX12_hadOn_38 rfl (lv_at hl 0 rfl) ?_
      refine lv_dup hx hb dX12_hadOn_39 rfl ?_
      refine va_get (D := (dC, dI)) (ci := 12) (v := .int (nu99 0 43)) (C := RX12) (T := TX12) (N := 46) hx hb hts inG12 hown hK hP 0 (gM_0 cs ad nu99) rfl 43 (by decide) (hts _ (List.mem_cons_of_mem _ mw_5_84)) (fun _ h9 => h9) rfl dX12_hadOn_40 ?_
      refine lv_topi (fun y104 ey104 => ?_)
      have by104 : y104.toInt = (nu99 0 43).toInt := congrArg Int32.toInt ey104
      refine lv_iconst (v := 1) hx hb dX12_hadOn_43 (by decide) ?_
      refine lv_aload_n hx hb dX12_hadOn_44 rfl (lv_at hl 0 rfl) ?_
      refine va_get (D := (dC, dI)) (ci := 12) (v := .ref (ad 16)) (C := RX12) (T := TX12) (N := 46) hx hb hts inG12 hown hK hP 0 (gM_0 cs ad nu99) rfl 26 (by decide) (hts _ (List.mem_cons_of_mem _ mw_5_67)) (fun _ h9 => h9) rfl dX12_hadOn_45 ?_
      refine lv_iload_n hx hb dX12_hadOn_48 rfl (lv_at hl 2 rfl) ?_
      refine lv_iconst (v := 1) hx hb dX12_hadOn_49 (by decide) ?_
      refine lv_isub hx hb dX12_hadOn_50 ?_
      refine lq_i 3 (by decide) ?_
      refine va_iald hx hb hK hP 16 0 (gM_16 cs ad nu99) rfl (show vp_in 3 7 from (by unfold vp_in; decide)) dX12_hadOn_51 ?_
      refine lv_topi (fun y105 ey105 => ?_)
      have by105 : y105.toInt = (nu99 16 (3 : Int32).toNatClampNeg).toInt := congrArg Int32.toInt ey105
      have gy105 : 0 ≤ y105.toInt ∧ y105.toInt ≤ 6 := by rw [ey105]; exact rM_16_s ok (3 : Int32).toNatClampNeg
      refine lv_ishl hx hb dX12_hadOn_52 ?_
      refine lv_topi (fun t106 et106 => ?_)
      refine lv_ior hx hb dX12_hadOn_53 ?_
      refine lv_topi (fun t107 et107 => ?_)
      refine va_put (D := (dC, dI)) (ci := 12) (v := .int t107) (ty := .int) (C := RX12) (T := TX12) (N := 46) hx hb hts inG12 tyX12 tyX12_ok nmX12 hown hK hP (wR_D nu99 hD) hS 0 (gM_0 cs ad nu99) rfl 43 (by decide) (hts _ (List.mem_cons_of_mem _ mw_5_84)) (fun _ h9 => h9) rfl (by decide +kernel) rfl rfl (Nat.le_of_ble_eq_true rfl) dX12_hadOn_54 (fun H locs hP _ hS => ?_)
      simp only [List.set_cons_succ, List.set_cons_zero] at hP
      refine wr_gen (upd (nu99 0) 43 t107) hP ((hM_0_43 cs ad _ _)) (fun nu108 hn108 hP => ?_)
      have ok := tM_0_43 ok hn108
      have ez109 : y1 = nu108 2 vr.toNatClampNeg := ez100.trans (congrFun (up_k hn108 (by decide)) vr.toNatClampNeg).symm
      have ez110 : t98 = nu108 0 42 := ez103.trans (up_f hn108 (by decide)).symm
      have ez111 : y105 = nu108 16 (3 : Int32).toNatClampNeg := ey105.trans (congrFun (up_k hn108 (by decide)) (3 : Int32).toNatClampNeg).symm
      have kp112 : ∀ k : Nat, 2 ≤ k → k < 3 → nu108 k = mu k := fun k h1 h2 => (up_k hn108 (ne_lo (by decide) h1).symm).trans (kp101 k h1 h2)
      have kp113 : (∀ k f : Nat, Nat.testBit 510 (gpM k f) = true → nu108 k f = mu k f) := kp_f hn108 (by decide) kp102
      have ez114 : t107 = nu108 0 43 := up_v hn108
      refine lv_aload_n hx hb dX12_hadOn_57 rfl (lv_at hl 0 rfl) ?_
      refine lv_dup hx hb dX12_hadOn_58 rfl ?_
      refine va_get (D := (dC, dI)) (ci := 12) (v := .int (nu108 0 44)) (C := RX12) (T := TX12) (N := 46) hx hb hts inG12 hown hK hP 0 (gM_0 cs ad nu108) rfl 44 (by decide) (hts _ (List.mem_cons_of_mem _ mw_5_85)) (fun _ h9 => h9) rfl dX12_hadOn_59 ?_
      refine lv_topi (fun y115 ey115 => ?_)
      have by115 : y115.toInt = (nu108 0 44).toInt := congrArg Int32.toInt ey115
      refine lv_iload_n hx hb dX12_hadOn_62 rfl (lv_at hl 3 rfl) ?_
      refine lv_iand hx hb dX12_hadOn_63 ?_
      refine lv_topi (fun t116 et116 => ?_)
      refine va_put (D := (dC, dI)) (ci := 12) (v := .int t116) (ty := .int) (C := RX12) (T := TX12) (N := 46) hx hb hts inG12 tyX12 tyX12_ok nmX12 hown hK hP (wR_D nu108 hD) hS 0 (gM_0 cs ad nu108) rfl 44 (by decide) (hts _ (List.mem_cons_of_mem _ mw_5_85)) (fun _ h9 => h9) rfl (by decide +kernel) rfl rfl (Nat.le_of_ble_eq_true rfl) dX12_hadOn_64 (fun H locs hP _ hS => ?_)
      simp only [List.set_cons_succ, List.set_cons_zero] at hP
      refine wr_gen (upd (nu108 0) 44 t116) hP ((hM_0_44 cs ad _ _)) (fun nu117 hn117 hP => ?_)
      have ok := tM_0_44 ok hn117
      have ez118 : y1 = nu117 2 vr.toNatClampNeg := ez109.trans (congrFun (up_k hn117 (by decide)) vr.toNatClampNeg).symm
      have ez119 : t98 = nu117 0 42 := ez110.trans (up_f hn117 (by decide)).symm
      have ez120 : y105 = nu117 16 (3 : Int32).toNatClampNeg := ez111.trans (congrFun (up_k hn117 (by decide)) (3 : Int32).toNatClampNeg).symm
      have ez121 : t107 = nu117 0 43 := ez114.trans (up_f hn117 (by decide)).symm
      have kp122 : ∀ k : Nat, 2 ≤ k → k < 3 → nu117 k = mu k := fun k h1 h2 => (up_k hn117 (ne_lo (by decide) h1).symm).trans (kp112 k h1 h2)
      have kp123 : (∀ k f : Nat, Nat.testBit 510 (gpM k f) = true → nu117 k f = mu k f) := kp_f hn117 (by decide) kp113
      have ez124 : t116 = nu117 0 44 := up_v hn117
      exact W.vret hx hb hr (fun t ht hW => ⟨⟨nu117, rfl, ⟨ok, trivial, kp122, kp123⟩, by first | (subst ht; exact hP) | (rw [ht]; exact hP) | (show va_P (dC, dI) vwCl (wR 21 ad (EM cs ad) nu117) t.heap; rw [ht]; exact hP)⟩, hS.F ht⟩) hS.2.2 dX12_hadOn_67
set_option maxHeartbeats 4000000 in
set_option maxRecDepth 100000 in
/-- sm_hadOn3 -/
theorem sm_hadOn3 (l : Launch) (dC : Nat → ClassId) (dI : Nat → Nat → Nat) (cs : Nat → ClassId) (ad : Nat → Nat) (mu : Nat → Nat → Int32) (ok : okR loM hiM mu) (H : Heap) (hP : va_P (dC, dI) vwCl (wR 21 ad (EM cs ad) mu) H) (hD0 : va_D (fun _ => True) (wR 21 ad (EM cs ad) mu)) (vr : Int32) (vh : Int32) (vp : Int32) (hin0 : 0 ≤ vr.toInt ∧ vr.toInt ≤ 5) (hin1 : 3 ≤ (mu 2 vr.toNatClampNeg).toInt + 1 ∧ (mu 2 vr.toNatClampNeg).toInt ≤ 6) : Met l yX12_hadOn (wU yX12_hadOn cX12_hadOn 10 none) ({ frames := 5, cells := 0, slots := 0, locals := 139 }) (va_Pc [.ref (ad 0), .int vr, .int 3, .int vh, .int vp] (sz_P (dC, dI) vwCl (tyM cs) H)) (va_Qv (fun (xi : Nat → Nat → Int32) => okR loM hiM xi ∧ (True) ∧ (∀ k : Nat, 2 ≤ k → k < 3 → xi k = mu k) ∧ (∀ k f : Nat, Nat.testBit 510 (gpM k f) = true → xi k f = mu k f)) (fun xi t => va_P (dC, dI) vwCl (wR 21 ad (EM cs ad) xi) t.heap) (va_A (wR 21 ad (EM cs ad) mu) H.size)) 0 0 (va_A (wR 21 ad (EM cs ad) mu) H.size) := by
  refine Met.ofW (cc := cX12_hadOn) (maxL := 10) (ret := none) (by decide) rfl ?_
  intro p e s m args below meth c s₁ B hml hv
  obtain ⟨rfl, hh, hK, hz⟩ := hv
  have hx := B.exec
  have hb := B.bytes
  have hr := B.returns
  have hts := atoms_spec (ws := (wU yX12_hadOn cX12_hadOn 10 none)) B.pre
  have hown : s.vm.findClass RX12 = some m.cls := findClass_of_methodNamed B.named
  have hlocks := B.notSynchronized
  subst hh
  have hD := hD0.self (sz := s.heap.size)
  have hA : ∀ q : Nat, s.heap.size ≤ q → (va_A (wR 21 ad (EM cs ad) mu) s.heap.size) q := fun q h => Or.inr h
  have hS : va_S (va_A (wR 21 ad (EM cs ad) mu) s.heap.size) s.heap s.heap [] := va_S.rf
  have hl := lv_entry ([.ref (ad 0), .int vr, .int 3, .int vh, .int vp]) (n := 10) (Nat.le_of_ble_eq_true rfl)
  rw [lg_entry_eq]
  generalize (lg_sl ([.ref (ad 0), .int vr, .int 3, .int vh, .int vp]) ++ List.replicate (10 - (lg_sl ([.ref (ad 0), .int vr, .int 3, .int vh, .int vp])).length) Slot.unset).toArray = ls at hl ⊢
  have hl : lv_has ls 10 [(0, .ref (ad 0)), (1, .int vr), (2, .int 3), (3, .int vh), (4, .int vp)] := hl
  refine lv_iload_n hx hb dX12_hadOn_0 rfl (lv_at hl 2 rfl) ?_
  refine lv_aload_n hx hb dX12_hadOn_1 rfl (lv_at hl 0 rfl) ?_
  refine va_get (D := (dC, dI)) (ci := 12) (v := .ref (ad 2)) (C := RX12) (T := TX12) (N := 46) hx hb hts inG12 hown hK hP 0 (gM_0 cs ad mu) rfl 3 (by decide) (hts _ (List.mem_cons_of_mem _ mw_5_44)) (fun _ h9 => h9) rfl dX12_hadOn_2 ?_
  refine lv_iload_n hx hb dX12_hadOn_5 rfl (lv_at hl 1 rfl) ?_
  refine va_iald hx hb hK hP 2 0 (gM_2 cs ad mu) rfl (show vp_in vr 6 from vi_of (by omega) (by omega)) dX12_hadOn_6 ?_
  refine lv_topi (fun y1 ey1 => ?_)
  have by1 : y1.toInt = (mu 2 vr.toNatClampNeg).toInt := congrArg Int32.toInt ey1
  have gy1 : -9 ≤ y1.toInt ∧ y1.toInt ≤ 40 := by rw [ey1]; exact rM_2_s ok vr.toNatClampNeg
  refine lv_iconst (v := 1) hx hb dX12_hadOn_7 (by decide) ?_
  refine lv_iadd hx hb dX12_hadOn_8 ?_
  refine lv_topi (fun t2 et2 => ?_)
  have at2 : t2.toInt = y1.toInt + 1 := by rw [et2]; exact va1 (by omega)
  refine lv_icmp_ne (tgt := 68) hx hb dX12_hadOn_9 (by decide) (fun c_3 => ?_) (fun c_3 => ?_)
  · have c_3 : ¬ 3 = t2.toInt := il_ne c_3
    refine lv_aload_n hx hb dX12_hadOn_68 rfl (lv_at hl 0 rfl) ?_
    refine va_get (D := (dC, dI)) (ci := 12) (v := .ref (ad 16)) (C := RX12) (T := TX12) (N := 46) hx hb hts inG12 hown hK hP 0 (gM_0 cs ad mu) rfl 26 (by decide) (hts _ (List.mem_cons_of_mem _ mw_5_67)) (fun _ h9 => h9) rfl dX12_hadOn_69 ?_
    refine lv_iload_n hx hb dX12_hadOn_72 rfl (lv_at hl 2 rfl) ?_
    refine lv_iconst (v := 1) hx hb dX12_hadOn_73 (by decide) ?_
    refine lv_isub hx hb dX12_hadOn_74 ?_
    refine lq_i 2 (by decide) ?_
    refine va_iald hx hb hK hP 16 0 (gM_16 cs ad mu) rfl (show vp_in 2 7 from (by unfold vp_in; decide)) dX12_hadOn_75 ?_
    refine lv_topi (fun y4 ey4 => ?_)
    have by4 : y4.toInt = (mu 16 (2 : Int32).toNatClampNeg).toInt := congrArg Int32.toInt ey4
    have gy4 : 0 ≤ y4.toInt ∧ y4.toInt ≤ 6 := by rw [ey4]; exact rM_16_s ok (2 : Int32).toNatClampNeg
    refine lv_istore (lv' := [(5, .int y4), (0, .ref (ad 0)), (1, .int vr), (2, .int 3), (3, .int vh), (4, .int vp)]) hx hb dX12_hadOn_76 hl (by decide) rfl (fun ls hl => ?_)
    refine lv_aload_n hx hb dX12_hadOn_78 rfl (lv_at hl 1 rfl) ?_
    refine lv_iload hx hb dX12_hadOn_79 (lv_at hl 0 rfl) ?_
    refine lv_iload hx hb dX12_hadOn_81 (lv_at hl 5 rfl) ?_
    refine cr_i (va_runV (As := [.int y4, .int vp]) (rest := []) ⟨hx, hb, hml, hown, hts⟩ (sm_asksOf l dC dI cs ad mu ok s.heap hP y4 vp (by omega)) (cwV 2 hts (wU_V mw_6_74 mw_6_71 mw_6_73 mw_0_42 mw_1_13) rfl rfl rfl (by decide +kernel) ⟨Nat.le_of_ble_eq_true rfl, Nat.le_of_ble_eq_true rfl⟩) ⟨sz_c, va_recv hK hP (ci := 12) (q0 := 0) rfl (gM_0 cs ad mu), sz_m hK hz⟩ rfl rfl hl.1 rfl (lv_room (Nat.le_of_ble_eq_true rfl)) dX12_hadOn_83 ⟨Nat.zero_le _, Nat.zero_le _⟩) hS (fun r5 hw5 locs hS => ?_)
    obtain ⟨hfe5, hw5⟩ := hw5
    refine lv_istore (lv' := [(6, .int r5), (5, .int y4), (0, .ref (ad 0)), (1, .int vr), (2, .int 3), (3, .int vh), (4, .int vp)]) hx hb dX12_hadOn_86 hl (by decide) rfl (fun ls hl => ?_)
    refine lv_iload hx hb dX12_hadOn_88 (lv_at hl 0 rfl) ?_
    refine lv_aload_n hx hb dX12_hadOn_90 rfl (lv_at hl 2 rfl) ?_
    refine lv_iload_n hx hb dX12_hadOn_91 rfl (lv_at hl 3 rfl) ?_
    refine lv_iload_n hx hb dX12_hadOn_92 rfl (lv_at hl 4 rfl) ?_
    refine lv_iconst (v := 1) hx hb dX12_hadOn_93 (by decide) ?_
    refine lv_isub hx hb dX12_hadOn_94 ?_
    refine lq_i 2 (by decide) ?_
    refine cr_i (va_runV (As := [.int vr, .int 2]) (rest := [.int r5]) ⟨hx, hb, hml, hown, hts⟩ (sm_rowAt l dC dI cs ad mu ok s.heap hP vr 2 (by have h51 : (2 : Int32).toInt = 2 := rfl; omega)) (cwV 2 hts (wU_V mw_5_209 mw_5_206 mw_5_208 mw_0_29 mw_1_13) rfl rfl rfl (by decide +kernel) ⟨Nat.le_of_ble_eq_true rfl, Nat.le_of_ble_eq_true rfl⟩) ⟨sz_c, va_recv hK hP (ci := 12) (q0 := 0) rfl (gM_0 cs ad mu), sz_m hK hz⟩ rfl rfl hl.1 rfl (lv_room (Nat.le_of_ble_eq_true rfl)) dX12_hadOn_95 ⟨Nat.zero_le _, Nat.zero_le _⟩) hS (fun r6 hw6 locs hS => ?_)
    obtain ⟨hfe6, hw6⟩ := hw6
    refine lv_icmp_ne (tgt := 121) hx hb dX12_hadOn_98 (by decide) (fun c_7 => ?_) (fun c_7 => ?_)
    · have c_7 : ¬ r5.toInt = r6.toInt := il_ne c_7
      refine lv_iconst (v := 0) hx hb dX12_hadOn_121 (by decide) ?_
      refine lv_istore (lv' := [(7, .int 0), (6, .int r5), (5, .int y4), (0, .ref (ad 0)), (1, .int vr), (2, .int 3), (3, .int vh), (4, .int vp)]) hx hb dX12_hadOn_122 hl (by decide) rfl (fun ls hl => ?_)
      refine lv_iload hx hb dX12_hadOn_124 (lv_at hl 0 rfl) ?_
      refine lv_if_eq (tgt := 142) hx hb dX12_hadOn_126 (by decide) (fun _ => ?_) (fun c => absurd (by decide) c)
      refine lv_iconst (v := 0) hx hb dX12_hadOn_142 (by decide) ?_
      refine lv_istore (lv' := [(8, .int 0), (7, .int 0), (6, .int r5), (5, .int y4), (0, .ref (ad 0)), (1, .int vr), (2, .int 3), (3, .int vh), (4, .int vp)]) hx hb dX12_hadOn_143 hl (by decide) rfl (fun ls hl => ?_)
      refine lv_iconst (v := 0) hx hb dX12_hadOn_145 (by decide) ?_
      refine lv_istore (lv' := [(9, .int 0), (8, .int 0), (7, .int 0), (6, .int r5), (5, .int y4), (0, .ref (ad 0)), (1, .int vr), (2, .int 3), (3, .int vh), (4, .int vp)]) hx hb dX12_hadOn_146 hl (by decide) rfl (fun ls hl => ?_)
      have loop148 : ∀ (n148 : Nat) (v9_148 : Int32) (nu148_ : Nat → Nat → Int32) (H : Heap) (locs : List Loc) (ls : Array Slot), (7 + 1 - v9_148.toInt).toNat < n148 → (0 ≤ v9_148.toInt ∧ v9_148.toInt ≤ 7) → okR loM hiM nu148_ → va_P (dC, dI) vwCl (wR 21 ad (EM cs ad) nu148_) H → y1 = nu148_ 2 vr.toNatClampNeg → (∀ k : Nat, 2 ≤ k → k < 3 → nu148_ k = mu k) → (∀ k f : Nat, Nat.testBit 510 (gpM k f) = true → nu148_ k f = mu k f) → va_S (va_A (wR 21 ad (EM cs ad) mu) s.heap.size) s.heap H locs → lv_has ls 10 [(9, .int v9_148), (8, .int 0), (7, .int 0), (6, .int r5), (5, .int y4), (0, .ref (ad 0)), (1, .int vr), (2, .int 3), (3, .int vh), (4, .int vp)] → W p l e (headSpec (wU yX12_hadOn cX12_hadOn 10 none) ({ frames := 5, cells := 0, slots := 0, locals := 139 })).room s m ([.ref (ad 0), .int vr, .int 3, .int vh, .int vp] : List Value).toArray below meth c H locs 0 0 (MQ below (va_Qv (fun (xi : Nat → Nat → Int32) => okR loM hiM xi ∧ (True) ∧ (∀ k : Nat, 2 ≤ k → k < 3 → xi k = mu k) ∧ (∀ k f : Nat, Nat.testBit 510 (gpM k f) = true → xi k f = mu k f)) (fun xi t => va_P (dC, dI) vwCl (wR 21 ad (EM cs ad) xi) t.heap) (va_A (wR 21 ad (EM cs ad) mu) s.heap.size)) ([.ref (ad 0), .int vr, .int 3, .int vh, .int vp] : List Value).toArray s 0 0 (va_A (wR 21 ad (EM cs ad) mu) s.heap.size)) (F0 m 148 ls []) := by
        intro n148
        induction n148 with
        | zero => intro v9_148 nu148_ H locs ls hm; exact absurd hm (Nat.not_lt_zero _)
        | succ n148 ih148 =>
          intro v9_148 nu148_ H locs ls hm_148 h_v9_148 ok hP ek148_0 kq148_0 kq148_1 hS hl
          refine lv_iload hx hb dX12_hadOn_148 (lv_at hl 0 rfl) ?_
          refine lv_aload_n hx hb dX12_hadOn_150 rfl (lv_at hl 5 rfl) ?_
          refine va_get (D := (dC, dI)) (ci := 12) (v := .int (nu148_ 0 8)) (C := RX12) (T := TX12) (N := 46) hx hb hts inG12 hown hK hP 0 (gM_0 cs ad nu148_) rfl 8 (by decide) (hts _ (List.mem_cons_of_mem _ mw_5_49)) (fun _ h9 => h9) rfl dX12_hadOn_151 ?_
          refine lv_topi (fun y8 ey8 => ?_)
          have by8 : y8.toInt = (nu148_ 0 8).toInt := congrArg Int32.toInt ey8
          have gy8 : 0 ≤ y8.toInt ∧ y8.toInt ≤ 7 := by rw [ey8]; exact rM_0_8 ok
          refine lv_icmp_ge (tgt := 197) hx hb dX12_hadOn_154 (by decide) (fun c_9 => ?_) (fun c_9 => ?_)
          · have c_9 : y8.toInt ≤ v9_148.toInt := il_le c_9
            exact W.vret hx hb hr (fun t ht hW => ⟨⟨nu148_, rfl, ⟨ok, trivial, kq148_0, kq148_1⟩, by first | (subst ht; exact hP) | (rw [ht]; exact hP) | (show va_P (dC, dI) vwCl (wR 21 ad (EM cs ad) nu148_) t.heap; rw [ht]; exact hP)⟩, hS.F ht⟩) hS.2.2 dX12_hadOn_197
          · have c_9 : v9_148.toInt < y8.toInt := il_nle c_9
            refine lv_iload hx hb dX12_hadOn_157 (lv_at hl 1 rfl) ?_
            refine lv_iload hx hb dX12_hadOn_159 (lv_at hl 0 rfl) ?_
            refine cr_i (va_runS (As := [.int 0, .int v9_148]) (rest := []) ⟨hx, hb, hml, hown, hts⟩ (sm_has l dC dI (tyM cs) H 0 v9_148) (va_cwS 2 hts (wU_S mw_6_59 mw_6_57 mw_6_58 mw_1_13) rfl rfl rfl (by decide +kernel) ⟨Nat.le_of_ble_eq_true rfl, Nat.le_of_ble_eq_true rfl⟩) ⟨sz_c, sz_m hK hz⟩ rfl rfl hl.1 rfl (lv_room (Nat.le_of_ble_eq_true rfl)) dX12_hadOn_161 ⟨Nat.zero_le _, Nat.zero_le _⟩) hS (fun r10 hw10 locs hS => ?_)
            obtain ⟨hfe10, hw10⟩ := hw10
            rcases hw10 with ⟨rfl, f10⟩ | ⟨rfl, f10⟩
            · have f10 : rb (0 : Int32) v9_148 = 1 := f10
              refine lv_if_eq (tgt := 191) hx hb dX12_hadOn_164 (by decide) (fun c => absurd c (by decide)) (fun _ => ?_)
              refine lv_aload_n hx hb dX12_hadOn_167 rfl (lv_at hl 5 rfl) ?_
              refine va_get (D := (dC, dI)) (ci := 12) (v := .ref (ad 16)) (C := RX12) (T := TX12) (N := 46) hx hb hts inG12 hown hK hP 0 (gM_0 cs ad nu148_) rfl 26 (by decide) (hts _ (List.mem_cons_of_mem _ mw_5_67)) (fun _ h9 => h9) rfl dX12_hadOn_168 ?_
              refine lv_iload_n hx hb dX12_hadOn_171 rfl (lv_at hl 7 rfl) ?_
              refine lv_iload hx hb dX12_hadOn_172 (lv_at hl 0 rfl) ?_
              refine va_iast hx hb hK hP (wR_D nu148_ hD) hS 16 0 (gM_16 cs ad nu148_) rfl (show vp_in 3 7 from (by unfold vp_in; decide)) dX12_hadOn_174 (fun H locs hP _ hS => ?_)
              refine wr_gen (upd (nu148_ 16) (3 : Int32).toNatClampNeg v9_148) hP (rfl) (fun nu11 hn11 hP => ?_)
              have ok := tM_16_s ok (3 : Int32).toNatClampNeg hn11 (by omega)
              have ez12 : y1 = nu11 2 vr.toNatClampNeg := ek148_0.trans (congrFun (up_k hn11 (by decide)) vr.toNatClampNeg).symm
              have ez13 : y8 = nu11 0 8 := ey8.trans (congrFun (up_k hn11 (by decide)) 8).symm
              have kp14 : ∀ k : Nat, 2 ≤ k → k < 3 → nu11 k = mu k := fun k h1 h2 => (up_k hn11 (ne_hi (by decide) h2).symm).trans (kq148_0 k h1 h2)
              have kp15 : (∀ k f : Nat, Nat.testBit 510 (gpM k f) = true → nu11 k f = mu k f) := kp_c 0 hn11 (fun _ => rfl) (by decide) kq148_1
              refine lv_aload_n hx hb dX12_hadOn_175 rfl (lv_at hl 5 rfl) ?_
              refine lv_iload_n hx hb dX12_hadOn_176 rfl (lv_at hl 6 rfl) ?_
              refine lv_iload_n hx hb dX12_hadOn_177 rfl (lv_at hl 7 rfl) ?_
              refine lv_iconst (v := 1) hx hb dX12_hadOn_178 (by decide) ?_
              refine lv_iadd hx hb dX12_hadOn_179 ?_
              refine lq_i 4 (by decide) ?_
              refine lv_iload_n hx hb dX12_hadOn_180 rfl (lv_at hl 8 rfl) ?_
              refine lv_iconst (v := 1) hx hb dX12_hadOn_181 (by decide) ?_
              refine lv_iload hx hb dX12_hadOn_182 (lv_at hl 0 rfl) ?_
              refine lv_ishl hx hb dX12_hadOn_184 ?_
              refine lv_topi (fun t16 et16 => ?_)
              refine lv_ior hx hb dX12_hadOn_185 ?_
              refine lv_topi (fun t17 et17 => ?_)
              refine lv_iload hx hb dX12_hadOn_186 (lv_at hl 3 rfl) ?_
              have hFc := fr_all (wR_D nu11 hD) hS hA
              refine va_callv (va_runV (As := [.int vr, .int 4, .int t17, .int r5]) (rest := []) ⟨hx, hb, hml, hown, hts⟩ (sm_hadOn4 l dC dI cs ad nu11 ok H hP ((wR_D nu11 hD).weaken (fun _ _ _ _ => trivial)) vr t17 r5 (by have h51 : (4 : Int32).toInt = 4 := rfl; omega) (by have h51 : (4 : Int32).toInt = 4 := rfl; have hb18 := congrArg Int32.toInt ez12; omega)) (cwV 4 hts (wU_V mw_7_24 mw_7_21 mw_7_23 mw_0_62 mw_1_13) rfl rfl rfl (by decide +kernel) ⟨Nat.le_of_ble_eq_true rfl, Nat.le_of_ble_eq_true rfl⟩) ⟨sz_c, va_recv hK hP (ci := 12) (q0 := 0) rfl (gM_0 cs ad nu11), sz_m hK hz⟩ rfl rfl hl.1 rfl (lv_room (Nat.le_of_ble_eq_true rfl)) dX12_hadOn_188 ⟨Nat.zero_le _, Nat.zero_le _⟩) hS (fun q _ h => hFc q h) hFc (fun xi19 t H19 locs ht hvm hw19 hB hz1 hk1 hS => ?_)
              have hP : va_P (dC, dI) vwCl (wR 21 ad (EM cs ad) xi19) H19 := by rw [← ht]; exact hB
              obtain ⟨ok, hw19, hkp19_0, hkp19_1⟩ := hw19
              have ez20 : y1 = xi19 2 vr.toNatClampNeg := ez12.trans (congrFun (hkp19_0 2 (by decide) (by decide)) vr.toNatClampNeg).symm
              have kp21 : ∀ k : Nat, 2 ≤ k → k < 3 → xi19 k = mu k := fun k h1 h2 => (hkp19_0 k (Nat.le_trans (by decide) h1) (Nat.lt_of_lt_of_le h2 (by decide))).trans (kp14 k h1 h2)
              have kp22 : (∀ k f : Nat, Nat.testBit 510 (gpM k f) = true → xi19 k f = mu k f) := kp_t hkp19_1 (by decide) kp15
              refine lv_iinc (v := (v9_148 + 1)) (lv' := [(9, .int (v9_148 + 1)), (8, .int 0), (7, .int 0), (6, .int r5), (5, .int y4), (0, .ref (ad 0)), (1, .int vr), (2, .int 3), (3, .int vh), (4, .int vp)]) hx hb dX12_hadOn_191 hl (k := 0) rfl rfl (by decide) rfl (fun ls hl => ?_)
              refine loc_gen (P := fun w9 => lv_has ls 10 [(9, .int w9), (8, .int 0), (7, .int 0), (6, .int r5), (5, .int y4), (0, .ref (ad 0)), (1, .int vr), (2, .int 3), (3, .int vh), (4, .int vp)]) (v9_148 + 1) hl (fun w23 hw23 hl => ?_)
              have hl : lv_has ls 10 [(9, .int w23), (8, .int 0), (7, .int 0), (6, .int r5), (5, .int y4), (0, .ref (ad 0)), (1, .int vr), (2, .int 3), (3, .int vh), (4, .int vp)] := hl
              have aw23 : w23.toInt = v9_148.toInt + 1 := by rw [← hw23]; first | exact va1 (Int.lt_of_le_of_lt h_v9_148.2 (by decide)) | exact va1 (by omega)
              refine lv_goto (tgt := 148) hx hb dX12_hadOn_194 (by decide) ?_
              exact ih148 (w23) xi19 _ _ _ (by first | exact ms_up hm_148 aw23 h_v9_148.2 | exact ms_lt hm_148 (by omega) (by omega) | omega) (by first | exact rg_up aw23 h_v9_148 (by omega) | omega)  ok hP ez20 kp21 kp22 hS (lv_sub hl [0, 1, 2, 3, 4, 5, 6, 7, 8, 9] rfl)
            · have f10 : ¬ rb (0 : Int32) v9_148 = 1 := f10
              refine lv_if_eq (tgt := 191) hx hb dX12_hadOn_164 (by decide) (fun _ => ?_) (fun c => absurd (by decide) c)
              refine lv_iinc (v := (v9_148 + 1)) (lv' := [(9, .int (v9_148 + 1)), (8, .int 0), (7, .int 0), (6, .int r5), (5, .int y4), (0, .ref (ad 0)), (1, .int vr), (2, .int 3), (3, .int vh), (4, .int vp)]) hx hb dX12_hadOn_191 hl (k := 0) rfl rfl (by decide) rfl (fun ls hl => ?_)
              refine loc_gen (P := fun w9 => lv_has ls 10 [(9, .int w9), (8, .int 0), (7, .int 0), (6, .int r5), (5, .int y4), (0, .ref (ad 0)), (1, .int vr), (2, .int 3), (3, .int vh), (4, .int vp)]) (v9_148 + 1) hl (fun w24 hw24 hl => ?_)
              have hl : lv_has ls 10 [(9, .int w24), (8, .int 0), (7, .int 0), (6, .int r5), (5, .int y4), (0, .ref (ad 0)), (1, .int vr), (2, .int 3), (3, .int vh), (4, .int vp)] := hl
              have aw24 : w24.toInt = v9_148.toInt + 1 := by rw [← hw24]; first | exact va1 (Int.lt_of_le_of_lt h_v9_148.2 (by decide)) | exact va1 (by omega)
              refine lv_goto (tgt := 148) hx hb dX12_hadOn_194 (by decide) ?_
              exact ih148 (w24) nu148_ _ _ _ (by first | exact ms_up hm_148 aw24 h_v9_148.2 | exact ms_lt hm_148 (by omega) (by omega) | omega) (by first | exact rg_up aw24 h_v9_148 (by omega) | omega)  ok hP ek148_0 kq148_0 kq148_1 hS (lv_sub hl [0, 1, 2, 3, 4, 5, 6, 7, 8, 9] rfl)
      exact loop148 ((7 + 1 - (0 : Int32).toInt).toNat + 1) (0) mu _ _ _ (Nat.lt_succ_self _) (by have h80 : (0 : Int32).toInt = 0 := rfl; exact ⟨by omega, by omega⟩)  ok hP ey1 (fun _ _ _ => rfl) (fun _ _ _ => rfl) hS hl
    · have c_7 : r5.toInt = r6.toInt := il_eq c_7
      refine lv_iload_n hx hb dX12_hadOn_101 rfl (lv_at hl 4 rfl) ?_
      refine lv_iconst (v := 1) hx hb dX12_hadOn_102 (by decide) ?_
      refine lv_icmp_eq (tgt := 117) hx hb dX12_hadOn_103 (by decide) (fun c => absurd c (by decide)) (fun _ => ?_)
      refine lv_aload_n hx hb dX12_hadOn_106 rfl (lv_at hl 2 rfl) ?_
      refine va_get (D := (dC, dI)) (ci := 12) (v := .ref (ad 7)) (C := RX12) (T := TX12) (N := 46) hx hb hts inG12 hown hK hP 0 (gM_0 cs ad mu) rfl 9 (by decide) (hts _ (List.mem_cons_of_mem _ mw_5_50)) (fun _ h9 => h9) rfl dX12_hadOn_107 ?_
      refine lv_iload hx hb dX12_hadOn_110 (lv_at hl 1 rfl) ?_
      refine va_iald hx hb hK hP 7 0 (gM_7 cs ad mu) rfl (show vp_in y4 7 from vi_of (by omega) (by omega)) dX12_hadOn_112 ?_
      refine lv_topi (fun y25 ey25 => ?_)
      have by25 : y25.toInt = (mu 7 y4.toNatClampNeg).toInt := congrArg Int32.toInt ey25
      refine lv_iconst (v := 3) hx hb dX12_hadOn_113 (by decide) ?_
      refine lv_icmp_eq (tgt := 121) hx hb dX12_hadOn_114 (by decide) (fun c_26 => ?_) (fun c_26 => ?_)
      · have c_26 : y25.toInt = 3 := il_eq c_26
        refine lv_iconst (v := 0) hx hb dX12_hadOn_121 (by decide) ?_
        refine lv_istore (lv' := [(7, .int 0), (6, .int r5), (5, .int y4), (0, .ref (ad 0)), (1, .int vr), (2, .int 3), (3, .int vh), (4, .int vp)]) hx hb dX12_hadOn_122 hl (by decide) rfl (fun ls hl => ?_)
        refine lv_iload hx hb dX12_hadOn_124 (lv_at hl 0 rfl) ?_
        refine lv_if_eq (tgt := 142) hx hb dX12_hadOn_126 (by decide) (fun _ => ?_) (fun c => absurd (by decide) c)
        refine lv_iconst (v := 0) hx hb dX12_hadOn_142 (by decide) ?_
        refine lv_istore (lv' := [(8, .int 0), (7, .int 0), (6, .int r5), (5, .int y4), (0, .ref (ad 0)), (1, .int vr), (2, .int 3), (3, .int vh), (4, .int vp)]) hx hb dX12_hadOn_143 hl (by decide) rfl (fun ls hl => ?_)
        refine lv_iconst (v := 0) hx hb dX12_hadOn_145 (by decide) ?_
        refine lv_istore (lv' := [(9, .int 0), (8, .int 0), (7, .int 0), (6, .int r5), (5, .int y4), (0, .ref (ad 0)), (1, .int vr), (2, .int 3), (3, .int vh), (4, .int vp)]) hx hb dX12_hadOn_146 hl (by decide) rfl (fun ls hl => ?_)
        have loop148 : ∀ (n148 : Nat) (v9_148 : Int32) (nu148_ : Nat → Nat → Int32) (H : Heap) (locs : List Loc) (ls : Array Slot), (7 + 1 - v9_148.toInt).toNat < n148 → (0 ≤ v9_148.toInt ∧ v9_148.toInt ≤ 7) → okR loM hiM nu148_ → va_P (dC, dI) vwCl (wR 21 ad (EM cs ad) nu148_) H → y1 = nu148_ 2 vr.toNatClampNeg → (∀ k : Nat, 2 ≤ k → k < 3 → nu148_ k = mu k) → (∀ k f : Nat, Nat.testBit 510 (gpM k f) = true → nu148_ k f = mu k f) → va_S (va_A (wR 21 ad (EM cs ad) mu) s.heap.size) s.heap H locs → lv_has ls 10 [(9, .int v9_148), (8, .int 0), (7, .int 0), (6, .int r5), (5, .int y4), (0, .ref (ad 0)), (1, .int vr), (2, .int 3), (3, .int vh), (4, .int vp)] → W p l e (headSpec (wU yX12_hadOn cX12_hadOn 10 none) ({ frames := 5, cells := 0, slots := 0, locals := 139 })).room s m ([.ref (ad 0), .int vr, .int 3, .int vh, .int vp] : List Value).toArray below meth c H locs 0 0 (MQ below (va_Qv (fun (xi : Nat → Nat → Int32) => okR loM hiM xi ∧ (True) ∧ (∀ k : Nat, 2 ≤ k → k < 3 → xi k = mu k) ∧ (∀ k f : Nat, Nat.testBit 510 (gpM k f) = true → xi k f = mu k f)) (fun xi t => va_P (dC, dI) vwCl (wR 21 ad (EM cs ad) xi) t.heap) (va_A (wR 21 ad (EM cs ad) mu) s.heap.size)) ([.ref (ad 0), .int vr, .int 3, .int vh, .int vp] : List Value).toArray s 0 0 (va_A (wR 21 ad (EM cs ad) mu) s.heap.size)) (F0 m 148 ls []) := by
          intro n148
          induction n148 with
          | zero => intro v9_148 nu148_ H locs ls hm; exact absurd hm (Nat.not_lt_zero _)
          | succ n148 ih148 =>
            intro v9_148 nu148_ H locs ls hm_148 h_v9_148 ok hP ek148_0 kq148_0 kq148_1 hS hl
            refine lv_iload hx hb dX12_hadOn_148 (lv_at hl 0 rfl) ?_
            refine lv_aload_n hx hb dX12_hadOn_150 rfl (lv_at hl 5 rfl) ?_
            refine va_get (D := (dC, dI)) (ci := 12) (v := .int (nu148_ 0 8)) (C := RX12) (T := TX12) (N := 46) hx hb hts inG12 hown hK hP 0 (gM_0 cs ad nu148_) rfl 8 (by decide) (hts _ (List.mem_cons_of_mem _ mw_5_49)) (fun _ h9 => h9) rfl dX12_hadOn_151 ?_
            refine lv_topi (fun y27 ey27 => ?_)
            have by27 : y27.toInt = (nu148_ 0 8).toInt := congrArg Int32.toInt ey27
            have gy27 : 0 ≤ y27.toInt ∧ y27.toInt ≤ 7 := by rw [ey27]; exact rM_0_8 ok
            refine lv_icmp_ge (tgt := 197) hx hb dX12_hadOn_154 (by decide) (fun c_28 => ?_) (fun c_28 => ?_)
            · have c_28 : y27.toInt ≤ v9_148.toInt := il_le c_28
              exact W.vret hx hb hr (fun t ht hW => ⟨⟨nu148_, rfl, ⟨ok, trivial, kq148_0, kq148_1⟩, by first | (subst ht; exact hP) | (rw [ht]; exact hP) | (show va_P (dC, dI) vwCl (wR 21 ad (EM cs ad) nu148_) t.heap; rw [ht]; exact hP)⟩, hS.F ht⟩) hS.2.2 dX12_hadOn_197
            · have c_28 : v9_148.toInt < y27.toInt := il_nle c_28
              refine lv_iload hx hb dX12_hadOn_157 (lv_at hl 1 rfl) ?_
              refine lv_iload hx hb dX12_hadOn_159 (lv_at hl 0 rfl) ?_
              refine cr_i (va_runS (As := [.int 0, .int v9_148]) (rest := []) ⟨hx, hb, hml, hown, hts⟩ (sm_has l dC dI (tyM cs) H 0 v9_148) (va_cwS 2 hts (wU_S mw_6_59 mw_6_57 mw_6_58 mw_1_13) rfl rfl rfl (by decide +kernel) ⟨Nat.le_of_ble_eq_true rfl, Nat.le_of_ble_eq_true rfl⟩) ⟨sz_c, sz_m hK hz⟩ rfl rfl hl.1 rfl (lv_room (Nat.le_of_ble_eq_true rfl)) dX12_hadOn_161 ⟨Nat.zero_le _, Nat.zero_le _⟩) hS (fun r29 hw29 locs hS => ?_)
              obtain ⟨hfe29, hw29⟩ := hw29
              rcases hw29 with ⟨rfl, f29⟩ | ⟨rfl, f29⟩
              · have f29 : rb (0 : Int32) v9_148 = 1 := f29
                refine lv_if_eq (tgt := 191) hx hb dX12_hadOn_164 (by decide) (fun c => absurd c (by decide)) (fun _ => ?_)
                refine lv_aload_n hx hb dX12_hadOn_167 rfl (lv_at hl 5 rfl) ?_
                refine va_get (D := (dC, dI)) (ci := 12) (v := .ref (ad 16)) (C := RX12) (T := TX12) (N := 46) hx hb hts inG12 hown hK hP 0 (gM_0 cs ad nu148_) rfl 26 (by decide) (hts _ (List.mem_cons_of_mem _ mw_5_67)) (fun _ h9 => h9) rfl dX12_hadOn_168 ?_
                refine lv_iload_n hx hb dX12_hadOn_171 rfl (lv_at hl 7 rfl) ?_
                refine lv_iload hx hb dX12_hadOn_172 (lv_at hl 0 rfl) ?_
                refine va_iast hx hb hK hP (wR_D nu148_ hD) hS 16 0 (gM_16 cs ad nu148_) rfl (show vp_in 3 7 from (by unfold vp_in; decide)) dX12_hadOn_174 (fun H locs hP _ hS => ?_)
                refine wr_gen (upd (nu148_ 16) (3 : Int32).toNatClampNeg v9_148) hP (rfl) (fun nu30 hn30 hP => ?_)
                have ok := tM_16_s ok (3 : Int32).toNatClampNeg hn30 (by omega)
                have ez31 : y1 = nu30 2 vr.toNatClampNeg := ek148_0.trans (congrFun (up_k hn30 (by decide)) vr.toNatClampNeg).symm
                have ez32 : y27 = nu30 0 8 := ey27.trans (congrFun (up_k hn30 (by decide)) 8).symm
                have kp33 : ∀ k : Nat, 2 ≤ k → k < 3 → nu30 k = mu k := fun k h1 h2 => (up_k hn30 (ne_hi (by decide) h2).symm).trans (kq148_0 k h1 h2)
                have kp34 : (∀ k f : Nat, Nat.testBit 510 (gpM k f) = true → nu30 k f = mu k f) := kp_c 0 hn30 (fun _ => rfl) (by decide) kq148_1
                refine lv_aload_n hx hb dX12_hadOn_175 rfl (lv_at hl 5 rfl) ?_
                refine lv_iload_n hx hb dX12_hadOn_176 rfl (lv_at hl 6 rfl) ?_
                refine lv_iload_n hx hb dX12_hadOn_177 rfl (lv_at hl 7 rfl) ?_
                refine lv_iconst (v := 1) hx hb dX12_hadOn_178 (by decide) ?_
                refine lv_iadd hx hb dX12_hadOn_179 ?_
                refine lq_i 4 (by decide) ?_
                refine lv_iload_n hx hb dX12_hadOn_180 rfl (lv_at hl 8 rfl) ?_
                refine lv_iconst (v := 1) hx hb dX12_hadOn_181 (by decide) ?_
                refine lv_iload hx hb dX12_hadOn_182 (lv_at hl 0 rfl) ?_
                refine lv_ishl hx hb dX12_hadOn_184 ?_
                refine lv_topi (fun t35 et35 => ?_)
                refine lv_ior hx hb dX12_hadOn_185 ?_
                refine lv_topi (fun t36 et36 => ?_)
                refine lv_iload hx hb dX12_hadOn_186 (lv_at hl 3 rfl) ?_
                have hFc := fr_all (wR_D nu30 hD) hS hA
                refine va_callv (va_runV (As := [.int vr, .int 4, .int t36, .int r5]) (rest := []) ⟨hx, hb, hml, hown, hts⟩ (sm_hadOn4 l dC dI cs ad nu30 ok H hP ((wR_D nu30 hD).weaken (fun _ _ _ _ => trivial)) vr t36 r5 (by have h51 : (4 : Int32).toInt = 4 := rfl; omega) (by have h51 : (4 : Int32).toInt = 4 := rfl; have hb37 := congrArg Int32.toInt ez31; omega)) (cwV 4 hts (wU_V mw_7_24 mw_7_21 mw_7_23 mw_0_62 mw_1_13) rfl rfl rfl (by decide +kernel) ⟨Nat.le_of_ble_eq_true rfl, Nat.le_of_ble_eq_true rfl⟩) ⟨sz_c, va_recv hK hP (ci := 12) (q0 := 0) rfl (gM_0 cs ad nu30), sz_m hK hz⟩ rfl rfl hl.1 rfl (lv_room (Nat.le_of_ble_eq_true rfl)) dX12_hadOn_188 ⟨Nat.zero_le _, Nat.zero_le _⟩) hS (fun q _ h => hFc q h) hFc (fun xi38 t H38 locs ht hvm hw38 hB hz1 hk1 hS => ?_)
                have hP : va_P (dC, dI) vwCl (wR 21 ad (EM cs ad) xi38) H38 := by rw [← ht]; exact hB
                obtain ⟨ok, hw38, hkp38_0, hkp38_1⟩ := hw38
                have ez39 : y1 = xi38 2 vr.toNatClampNeg := ez31.trans (congrFun (hkp38_0 2 (by decide) (by decide)) vr.toNatClampNeg).symm
                have kp40 : ∀ k : Nat, 2 ≤ k → k < 3 → xi38 k = mu k := fun k h1 h2 => (hkp38_0 k (Nat.le_trans (by decide) h1) (Nat.lt_of_lt_of_le h2 (by decide))).trans (kp33 k h1 h2)
                have kp41 : (∀ k f : Nat, Nat.testBit 510 (gpM k f) = true → xi38 k f = mu k f) := kp_t hkp38_1 (by decide) kp34
                refine lv_iinc (v := (v9_148 + 1)) (lv' := [(9, .int (v9_148 + 1)), (8, .int 0), (7, .int 0), (6, .int r5), (5, .int y4), (0, .ref (ad 0)), (1, .int vr), (2, .int 3), (3, .int vh), (4, .int vp)]) hx hb dX12_hadOn_191 hl (k := 0) rfl rfl (by decide) rfl (fun ls hl => ?_)
                refine loc_gen (P := fun w9 => lv_has ls 10 [(9, .int w9), (8, .int 0), (7, .int 0), (6, .int r5), (5, .int y4), (0, .ref (ad 0)), (1, .int vr), (2, .int 3), (3, .int vh), (4, .int vp)]) (v9_148 + 1) hl (fun w42 hw42 hl => ?_)
                have hl : lv_has ls 10 [(9, .int w42), (8, .int 0), (7, .int 0), (6, .int r5), (5, .int y4), (0, .ref (ad 0)), (1, .int vr), (2, .int 3), (3, .int vh), (4, .int vp)] := hl
                have aw42 : w42.toInt = v9_148.toInt + 1 := by rw [← hw42]; first | exact va1 (Int.lt_of_le_of_lt h_v9_148.2 (by decide)) | exact va1 (by omega)
                refine lv_goto (tgt := 148) hx hb dX12_hadOn_194 (by decide) ?_
                exact ih148 (w42) xi38 _ _ _ (by first | exact ms_up hm_148 aw42 h_v9_148.2 | exact ms_lt hm_148 (by omega) (by omega) | omega) (by first | exact rg_up aw42 h_v9_148 (by omega) | omega)  ok hP ez39 kp40 kp41 hS (lv_sub hl [0, 1, 2, 3, 4, 5, 6, 7, 8, 9] rfl)
              · have f29 : ¬ rb (0 : Int32) v9_148 = 1 := f29
                refine lv_if_eq (tgt := 191) hx hb dX12_hadOn_164 (by decide) (fun _ => ?_) (fun c => absurd (by decide) c)
                refine lv_iinc (v := (v9_148 + 1)) (lv' := [(9, .int (v9_148 + 1)), (8, .int 0), (7, .int 0), (6, .int r5), (5, .int y4), (0, .ref (ad 0)), (1, .int vr), (2, .int 3), (3, .int vh), (4, .int vp)]) hx hb dX12_hadOn_191 hl (k := 0) rfl rfl (by decide) rfl (fun ls hl => ?_)
                refine loc_gen (P := fun w9 => lv_has ls 10 [(9, .int w9), (8, .int 0), (7, .int 0), (6, .int r5), (5, .int y4), (0, .ref (ad 0)), (1, .int vr), (2, .int 3), (3, .int vh), (4, .int vp)]) (v9_148 + 1) hl (fun w43 hw43 hl => ?_)
                have hl : lv_has ls 10 [(9, .int w43), (8, .int 0), (7, .int 0), (6, .int r5), (5, .int y4), (0, .ref (ad 0)), (1, .int vr), (2, .int 3), (3, .int vh), (4, .int vp)] := hl
                have aw43 : w43.toInt = v9_148.toInt + 1 := by rw [← hw43]; first | exact va1 (Int.lt_of_le_of_lt h_v9_148.2 (by decide)) | exact va1 (by omega)
                refine lv_goto (tgt := 148) hx hb dX12_hadOn_194 (by decide) ?_
                exact ih148 (w43) nu148_ _ _ _ (by first | exact ms_up hm_148 aw43 h_v9_148.2 | exact ms_lt hm_148 (by omega) (by omega) | omega) (by first | exact rg_up aw43 h_v9_148 (by omega) | omega)  ok hP ek148_0 kq148_0 kq148_1 hS (lv_sub hl [0, 1, 2, 3, 4, 5, 6, 7, 8, 9] rfl)
        exact loop148 ((7 + 1 - (0 : Int32).toInt).toNat + 1) (0) mu _ _ _ (Nat.lt_succ_self _) (by have h80 : (0 : Int32).toInt = 0 := rfl; exact ⟨by omega, by omega⟩)  ok hP ey1 (fun _ _ _ => rfl) (fun _ _ _ => rfl) hS hl
      · have c_26 : ¬ y25.toInt = 3 := il_ne c_26
        refine lv_iconst (v := 1) hx hb dX12_hadOn_117 (by decide) ?_
        refine lv_goto (tgt := 122) hx hb dX12_hadOn_118 (by decide) ?_
        refine lv_istore (lv' := [(7, .int 1), (6, .int r5), (5, .int y4), (0, .ref (ad 0)), (1, .int vr), (2, .int 3), (3, .int vh), (4, .int vp)]) hx hb dX12_hadOn_122 hl (by decide) rfl (fun ls hl => ?_)
        refine lv_iload hx hb dX12_hadOn_124 (lv_at hl 0 rfl) ?_
        refine lv_if_eq (tgt := 142) hx hb dX12_hadOn_126 (by decide) (fun c => absurd c (by decide)) (fun _ => ?_)
        refine lv_aload_n hx hb dX12_hadOn_129 rfl (lv_at hl 3 rfl) ?_
        refine lv_iload hx hb dX12_hadOn_130 (lv_at hl 2 rfl) ?_
        refine cr_i (va_runV (As := [.int y4]) (rest := []) ⟨hx, hb, hml, hown, hts⟩ (sm_besideOf l dC dI cs ad mu ok s.heap hP y4) (cwV 1 hts (wU_V mw_6_56 mw_6_53 mw_6_55 mw_0_40 mw_1_13) rfl rfl rfl (by decide +kernel) ⟨Nat.le_of_ble_eq_true rfl, Nat.le_of_ble_eq_true rfl⟩) ⟨sz_c, va_recv hK hP (ci := 12) (q0 := 0) rfl (gM_0 cs ad mu), sz_m hK hz⟩ rfl rfl hl.1 rfl (lv_room (Nat.le_of_ble_eq_true rfl)) dX12_hadOn_132 ⟨Nat.zero_le _, Nat.zero_le _⟩) hS (fun r44 hw44 locs hS => ?_)
        obtain ⟨hfe44, hw44⟩ := hw44
        refine lv_iload_n hx hb dX12_hadOn_135 rfl (lv_at hl 6 rfl) ?_
        refine lv_iconst (v := (-1)) hx hb dX12_hadOn_136 (by decide) ?_
        refine lv_ixor hx hb dX12_hadOn_137 ?_
        refine lv_topi (fun t45 et45 => ?_)
        refine lv_iand hx hb dX12_hadOn_138 ?_
        refine lv_topi (fun t46 et46 => ?_)
        refine lv_goto (tgt := 143) hx hb dX12_hadOn_139 (by decide) ?_
        refine lv_istore (lv' := [(8, .int t46), (7, .int 1), (6, .int r5), (5, .int y4), (0, .ref (ad 0)), (1, .int vr), (2, .int 3), (3, .int vh), (4, .int vp)]) hx hb dX12_hadOn_143 hl (by decide) rfl (fun ls hl => ?_)
        refine lv_iconst (v := 0) hx hb dX12_hadOn_145 (by decide) ?_
        refine lv_istore (lv' := [(9, .int 0), (8, .int t46), (7, .int 1), (6, .int r5), (5, .int y4), (0, .ref (ad 0)), (1, .int vr), (2, .int 3), (3, .int vh), (4, .int vp)]) hx hb dX12_hadOn_146 hl (by decide) rfl (fun ls hl => ?_)
        have loop148 : ∀ (n148 : Nat) (v9_148 : Int32) (nu148_ : Nat → Nat → Int32) (H : Heap) (locs : List Loc) (ls : Array Slot), (7 + 1 - v9_148.toInt).toNat < n148 → (0 ≤ v9_148.toInt ∧ v9_148.toInt ≤ 7) → okR loM hiM nu148_ → va_P (dC, dI) vwCl (wR 21 ad (EM cs ad) nu148_) H → y1 = nu148_ 2 vr.toNatClampNeg → (∀ k : Nat, 2 ≤ k → k < 3 → nu148_ k = mu k) → (∀ k f : Nat, Nat.testBit 510 (gpM k f) = true → nu148_ k f = mu k f) → va_S (va_A (wR 21 ad (EM cs ad) mu) s.heap.size) s.heap H locs → lv_has ls 10 [(9, .int v9_148), (8, .int t46), (7, .int 1), (6, .int r5), (5, .int y4), (0, .ref (ad 0)), (1, .int vr), (2, .int 3), (3, .int vh), (4, .int vp)] → W p l e (headSpec (wU yX12_hadOn cX12_hadOn 10 none) ({ frames := 5, cells := 0, slots := 0, locals := 139 })).room s m ([.ref (ad 0), .int vr, .int 3, .int vh, .int vp] : List Value).toArray below meth c H locs 0 0 (MQ below (va_Qv (fun (xi : Nat → Nat → Int32) => okR loM hiM xi ∧ (True) ∧ (∀ k : Nat, 2 ≤ k → k < 3 → xi k = mu k) ∧ (∀ k f : Nat, Nat.testBit 510 (gpM k f) = true → xi k f = mu k f)) (fun xi t => va_P (dC, dI) vwCl (wR 21 ad (EM cs ad) xi) t.heap) (va_A (wR 21 ad (EM cs ad) mu) s.heap.size)) ([.ref (ad 0), .int vr, .int 3, .int vh, .int vp] : List Value).toArray s 0 0 (va_A (wR 21 ad (EM cs ad) mu) s.heap.size)) (F0 m 148 ls []) := by
          intro n148
          induction n148 with
          | zero => intro v9_148 nu148_ H locs ls hm; exact absurd hm (Nat.not_lt_zero _)
          | succ n148 ih148 =>
            intro v9_148 nu148_ H locs ls hm_148 h_v9_148 ok hP ek148_0 kq148_0 kq148_1 hS hl
            refine lv_iload hx hb dX12_hadOn_148 (lv_at hl 0 rfl) ?_
            refine lv_aload_n hx hb dX12_hadOn_150 rfl (lv_at hl 5 rfl) ?_
            refine va_get (D := (dC, dI)) (ci := 12) (v := .int (nu148_ 0 8)) (C := RX12) (T := TX12) (N := 46) hx hb hts inG12 hown hK hP 0 (gM_0 cs ad nu148_) rfl 8 (by decide) (hts _ (List.mem_cons_of_mem _ mw_5_49)) (fun _ h9 => h9) rfl dX12_hadOn_151 ?_
            refine lv_topi (fun y47 ey47 => ?_)
            have by47 : y47.toInt = (nu148_ 0 8).toInt := congrArg Int32.toInt ey47
            have gy47 : 0 ≤ y47.toInt ∧ y47.toInt ≤ 7 := by rw [ey47]; exact rM_0_8 ok
            refine lv_icmp_ge (tgt := 197) hx hb dX12_hadOn_154 (by decide) (fun c_48 => ?_) (fun c_48 => ?_)
            · have c_48 : y47.toInt ≤ v9_148.toInt := il_le c_48
              exact W.vret hx hb hr (fun t ht hW => ⟨⟨nu148_, rfl, ⟨ok, trivial, kq148_0, kq148_1⟩, by first | (subst ht; exact hP) | (rw [ht]; exact hP) | (show va_P (dC, dI) vwCl (wR 21 ad (EM cs ad) nu148_) t.heap; rw [ht]; exact hP)⟩, hS.F ht⟩) hS.2.2 dX12_hadOn_197
            · have c_48 : v9_148.toInt < y47.toInt := il_nle c_48
              refine lv_iload hx hb dX12_hadOn_157 (lv_at hl 1 rfl) ?_
              refine lv_iload hx hb dX12_hadOn_159 (lv_at hl 0 rfl) ?_
              refine cr_i (va_runS (As := [.int t46, .int v9_148]) (rest := []) ⟨hx, hb, hml, hown, hts⟩ (sm_has l dC dI (tyM cs) H t46 v9_148) (va_cwS 2 hts (wU_S mw_6_59 mw_6_57 mw_6_58 mw_1_13) rfl rfl rfl (by decide +kernel) ⟨Nat.le_of_ble_eq_true rfl, Nat.le_of_ble_eq_true rfl⟩) ⟨sz_c, sz_m hK hz⟩ rfl rfl hl.1 rfl (lv_room (Nat.le_of_ble_eq_true rfl)) dX12_hadOn_161 ⟨Nat.zero_le _, Nat.zero_le _⟩) hS (fun r49 hw49 locs hS => ?_)
              obtain ⟨hfe49, hw49⟩ := hw49
              rcases hw49 with ⟨rfl, f49⟩ | ⟨rfl, f49⟩
              · have f49 : rb t46 v9_148 = 1 := f49
                refine lv_if_eq (tgt := 191) hx hb dX12_hadOn_164 (by decide) (fun c => absurd c (by decide)) (fun _ => ?_)
                refine lv_aload_n hx hb dX12_hadOn_167 rfl (lv_at hl 5 rfl) ?_
                refine va_get (D := (dC, dI)) (ci := 12) (v := .ref (ad 16)) (C := RX12) (T := TX12) (N := 46) hx hb hts inG12 hown hK hP 0 (gM_0 cs ad nu148_) rfl 26 (by decide) (hts _ (List.mem_cons_of_mem _ mw_5_67)) (fun _ h9 => h9) rfl dX12_hadOn_168 ?_
                refine lv_iload_n hx hb dX12_hadOn_171 rfl (lv_at hl 7 rfl) ?_
                refine lv_iload hx hb dX12_hadOn_172 (lv_at hl 0 rfl) ?_
                refine va_iast hx hb hK hP (wR_D nu148_ hD) hS 16 0 (gM_16 cs ad nu148_) rfl (show vp_in 3 7 from (by unfold vp_in; decide)) dX12_hadOn_174 (fun H locs hP _ hS => ?_)
                refine wr_gen (upd (nu148_ 16) (3 : Int32).toNatClampNeg v9_148) hP (rfl) (fun nu50 hn50 hP => ?_)
                have ok := tM_16_s ok (3 : Int32).toNatClampNeg hn50 (by omega)
                have ez51 : y1 = nu50 2 vr.toNatClampNeg := ek148_0.trans (congrFun (up_k hn50 (by decide)) vr.toNatClampNeg).symm
                have ez52 : y47 = nu50 0 8 := ey47.trans (congrFun (up_k hn50 (by decide)) 8).symm
                have kp53 : ∀ k : Nat, 2 ≤ k → k < 3 → nu50 k = mu k := fun k h1 h2 => (up_k hn50 (ne_hi (by decide) h2).symm).trans (kq148_0 k h1 h2)
                have kp54 : (∀ k f : Nat, Nat.testBit 510 (gpM k f) = true → nu50 k f = mu k f) := kp_c 0 hn50 (fun _ => rfl) (by decide) kq148_1
                refine lv_aload_n hx hb dX12_hadOn_175 rfl (lv_at hl 5 rfl) ?_
                refine lv_iload_n hx hb dX12_hadOn_176 rfl (lv_at hl 6 rfl) ?_
                refine lv_iload_n hx hb dX12_hadOn_177 rfl (lv_at hl 7 rfl) ?_
                refine lv_iconst (v := 1) hx hb dX12_hadOn_178 (by decide) ?_
                refine lv_iadd hx hb dX12_hadOn_179 ?_
                refine lq_i 4 (by decide) ?_
                refine lv_iload_n hx hb dX12_hadOn_180 rfl (lv_at hl 8 rfl) ?_
                refine lv_iconst (v := 1) hx hb dX12_hadOn_181 (by decide) ?_
                refine lv_iload hx hb dX12_hadOn_182 (lv_at hl 0 rfl) ?_
                refine lv_ishl hx hb dX12_hadOn_184 ?_
                refine lv_topi (fun t55 et55 => ?_)
                refine lv_ior hx hb dX12_hadOn_185 ?_
                refine lv_topi (fun t56 et56 => ?_)
                refine lv_iload hx hb dX12_hadOn_186 (lv_at hl 3 rfl) ?_
                have hFc := fr_all (wR_D nu50 hD) hS hA
                refine va_callv (va_runV (As := [.int vr, .int 4, .int t56, .int r5]) (rest := []) ⟨hx, hb, hml, hown, hts⟩ (sm_hadOn4 l dC dI cs ad nu50 ok H hP ((wR_D nu50 hD).weaken (fun _ _ _ _ => trivial)) vr t56 r5 (by have h51 : (4 : Int32).toInt = 4 := rfl; omega) (by have h51 : (4 : Int32).toInt = 4 := rfl; have hb57 := congrArg Int32.toInt ez51; omega)) (cwV 4 hts (wU_V mw_7_24 mw_7_21 mw_7_23 mw_0_62 mw_1_13) rfl rfl rfl (by decide +kernel) ⟨Nat.le_of_ble_eq_true rfl, Nat.le_of_ble_eq_true rfl⟩) ⟨sz_c, va_recv hK hP (ci := 12) (q0 := 0) rfl (gM_0 cs ad nu50), sz_m hK hz⟩ rfl rfl hl.1 rfl (lv_room (Nat.le_of_ble_eq_true rfl)) dX12_hadOn_188 ⟨Nat.zero_le _, Nat.zero_le _⟩) hS (fun q _ h => hFc q h) hFc (fun xi58 t H58 locs ht hvm hw58 hB hz1 hk1 hS => ?_)
                have hP : va_P (dC, dI) vwCl (wR 21 ad (EM cs ad) xi58) H58 := by rw [← ht]; exact hB
                obtain ⟨ok, hw58, hkp58_0, hkp58_1⟩ := hw58
                have ez59 : y1 = xi58 2 vr.toNatClampNeg := ez51.trans (congrFun (hkp58_0 2 (by decide) (by decide)) vr.toNatClampNeg).symm
                have kp60 : ∀ k : Nat, 2 ≤ k → k < 3 → xi58 k = mu k := fun k h1 h2 => (hkp58_0 k (Nat.le_trans (by decide) h1) (Nat.lt_of_lt_of_le h2 (by decide))).trans (kp53 k h1 h2)
                have kp61 : (∀ k f : Nat, Nat.testBit 510 (gpM k f) = true → xi58 k f = mu k f) := kp_t hkp58_1 (by decide) kp54
                refine lv_iinc (v := (v9_148 + 1)) (lv' := [(9, .int (v9_148 + 1)), (8, .int t46), (7, .int 1), (6, .int r5), (5, .int y4), (0, .ref (ad 0)), (1, .int vr), (2, .int 3), (3, .int vh), (4, .int vp)]) hx hb dX12_hadOn_191 hl (k := 0) rfl rfl (by decide) rfl (fun ls hl => ?_)
                refine loc_gen (P := fun w9 => lv_has ls 10 [(9, .int w9), (8, .int t46), (7, .int 1), (6, .int r5), (5, .int y4), (0, .ref (ad 0)), (1, .int vr), (2, .int 3), (3, .int vh), (4, .int vp)]) (v9_148 + 1) hl (fun w62 hw62 hl => ?_)
                have hl : lv_has ls 10 [(9, .int w62), (8, .int t46), (7, .int 1), (6, .int r5), (5, .int y4), (0, .ref (ad 0)), (1, .int vr), (2, .int 3), (3, .int vh), (4, .int vp)] := hl
                have aw62 : w62.toInt = v9_148.toInt + 1 := by rw [← hw62]; first | exact va1 (Int.lt_of_le_of_lt h_v9_148.2 (by decide)) | exact va1 (by omega)
                refine lv_goto (tgt := 148) hx hb dX12_hadOn_194 (by decide) ?_
                exact ih148 (w62) xi58 _ _ _ (by first | exact ms_up hm_148 aw62 h_v9_148.2 | exact ms_lt hm_148 (by omega) (by omega) | omega) (by first | exact rg_up aw62 h_v9_148 (by omega) | omega)  ok hP ez59 kp60 kp61 hS (lv_sub hl [0, 1, 2, 3, 4, 5, 6, 7, 8, 9] rfl)
              · have f49 : ¬ rb t46 v9_148 = 1 := f49
                refine lv_if_eq (tgt := 191) hx hb dX12_hadOn_164 (by decide) (fun _ => ?_) (fun c => absurd (by decide) c)
                refine lv_iinc (v := (v9_148 + 1)) (lv' := [(9, .int (v9_148 + 1)), (8, .int t46), (7, .int 1), (6, .int r5), (5, .int y4), (0, .ref (ad 0)), (1, .int vr), (2, .int 3), (3, .int vh), (4, .int vp)]) hx hb dX12_hadOn_191 hl (k := 0) rfl rfl (by decide) rfl (fun ls hl => ?_)
                refine loc_gen (P := fun w9 => lv_has ls 10 [(9, .int w9), (8, .int t46), (7, .int 1), (6, .int r5), (5, .int y4), (0, .ref (ad 0)), (1, .int vr), (2, .int 3), (3, .int vh), (4, .int vp)]) (v9_148 + 1) hl (fun w63 hw63 hl => ?_)
                have hl : lv_has ls 10 [(9, .int w63), (8, .int t46), (7, .int 1), (6, .int r5), (5, .int y4), (0, .ref (ad 0)), (1, .int vr), (2, .int 3), (3, .int vh), (4, .int vp)] := hl
                have aw63 : w63.toInt = v9_148.toInt + 1 := by rw [← hw63]; first | exact va1 (Int.lt_of_le_of_lt h_v9_148.2 (by decide)) | exact va1 (by omega)
                refine lv_goto (tgt := 148) hx hb dX12_hadOn_194 (by decide) ?_
                exact ih148 (w63) nu148_ _ _ _ (by first | exact ms_up hm_148 aw63 h_v9_148.2 | exact ms_lt hm_148 (by omega) (by omega) | omega) (by first | exact rg_up aw63 h_v9_148 (by omega) | omega)  ok hP ek148_0 kq148_0 kq148_1 hS (lv_sub hl [0, 1, 2, 3, 4, 5, 6, 7, 8, 9] rfl)
        exact loop148 ((7 + 1 - (0 : Int32).toInt).toNat + 1) (0) mu _ _ _ (Nat.lt_succ_self _) (by have h80 : (0 : Int32).toInt = 0 := rfl; exact ⟨by omega, by omega⟩)  ok hP ey1 (fun _ _ _ => rfl) (fun _ _ _ => rfl) hS hl
  · have c_3 : 3 = t2.toInt := il_eq c_3
    refine lv_aload_n hx hb dX12_hadOn_12 rfl (lv_at hl 0 rfl) ?_
    refine va_get (D := (dC, dI)) (ci := 12) (v := .int (mu 0 42)) (C := RX12) (T := TX12) (N := 46) hx hb hts inG12 hown hK hP 0 (gM_0 cs ad mu) rfl 42 (by decide) (hts _ (List.mem_cons_of_mem _ mw_5_83)) (fun _ h9 => h9) rfl dX12_hadOn_13 ?_
    refine lv_topi (fun y64 ey64 => ?_)
    have by64 : y64.toInt = (mu 0 42).toInt := congrArg Int32.toInt ey64
    refine lv_if_ne (tgt := 28) hx hb dX12_hadOn_16 (by decide) (fun c_65 => ?_) (fun c_65 => ?_)
    · have c_65 : ¬ y64.toInt = 0 := il_ne c_65
      refine lv_aload_n hx hb dX12_hadOn_28 rfl (lv_at hl 0 rfl) ?_
      refine lv_dup hx hb dX12_hadOn_29 rfl ?_
      refine va_get (D := (dC, dI)) (ci := 12) (v := .int (mu 0 42)) (C := RX12) (T := TX12) (N := 46) hx hb hts inG12 hown hK hP 0 (gM_0 cs ad mu) rfl 42 (by decide) (hts _ (List.mem_cons_of_mem _ mw_5_83)) (fun _ h9 => h9) rfl dX12_hadOn_30 ?_
      refine lq_i y64 ey64.symm ?_
      refine lv_iconst (v := 1) hx hb dX12_hadOn_33 (by decide) ?_
      refine lv_iadd hx hb dX12_hadOn_34 ?_
      refine lv_topi (fun t66 et66 => ?_)
      refine va_put (D := (dC, dI)) (ci := 12) (v := .int t66) (ty := .int) (C := RX12) (T := TX12) (N := 46) hx hb hts inG12 tyX12 tyX12_ok nmX12 hown hK hP (wR_D mu hD) hS 0 (gM_0 cs ad mu) rfl 42 (by decide) (hts _ (List.mem_cons_of_mem _ mw_5_83)) (fun _ h9 => h9) rfl (by decide +kernel) rfl rfl (Nat.le_of_ble_eq_true rfl) dX12_hadOn_35 (fun H locs hP _ hS => ?_)
      simp only [List.set_cons_succ, List.set_cons_zero] at hP
      refine wr_gen (upd (mu 0) 42 t66) hP ((hM_0_42 cs ad _ _)) (fun nu67 hn67 hP => ?_)
      have ok := tM_0_42 ok hn67
      have ez68 : y1 = nu67 2 vr.toNatClampNeg := ey1.trans (congrFun (up_k hn67 (by decide)) vr.toNatClampNeg).symm
      have kp69 : ∀ k : Nat, 2 ≤ k → k < 3 → nu67 k = mu k := fun k h1 h2 => (up_k hn67 (ne_lo (by decide) h1).symm).trans ((fun _ _ _ => rfl) k h1 h2)
      have kp70 : (∀ k f : Nat, Nat.testBit 510 (gpM k f) = true → nu67 k f = mu k f) := kp_f hn67 (by decide) (fun _ _ _ => rfl)
      have ez71 : t66 = nu67 0 42 := up_v hn67
      refine lv_aload_n hx hb dX12_hadOn_38 rfl (lv_at hl 0 rfl) ?_
      refine lv_dup hx hb dX12_hadOn_39 rfl ?_
      refine va_get (D := (dC, dI)) (ci := 12) (v := .int (nu67 0 43)) (C := RX12) (T := TX12) (N := 46) hx hb hts inG12 hown hK hP 0 (gM_0 cs ad nu67) rfl 43 (by decide) (hts _ (List.mem_cons_of_mem _ mw_5_84)) (fun _ h9 => h9) rfl dX12_hadOn_40 ?_
      refine lv_topi (fun y72 ey72 => ?_)
      have by72 : y72.toInt = (nu67 0 43).toInt := congrArg Int32.toInt ey72
      refine lv_iconst (v := 1) hx hb dX12_hadOn_43 (by decide) ?_
      refine lv_aload_n hx hb dX12_hadOn_44 rfl (lv_at hl 0 rfl) ?_
      refine va_get (D := (dC, dI)) (ci := 12) (v := .ref (ad 16)) (C := RX12) (T := TX12) (N := 46) hx hb hts inG12 hown hK hP 0 (gM_0 cs ad nu67) rfl 26 (by decide) (hts _ (List.mem_cons_of_mem _ mw_5_67)) (fun _ h9 => h9) rfl dX12_hadOn_45 ?_
      refine lv_iload_n hx hb dX12_hadOn_48 rfl (lv_at hl 2 rfl) ?_
      refine lv_iconst (v := 1) hx hb dX12_hadOn_49 (by decide) ?_
      refine lv_isub hx hb dX12_hadOn_50 ?_
      refine lq_i 2 (by decide) ?_
      refine va_iald hx hb hK hP 16 0 (gM_16 cs ad nu67) rfl (show vp_in 2 7 from (by unfold vp_in; decide)) dX12_hadOn_51 ?_
      refine lv_topi (fun y73 ey73 => ?_)
      have by73 : y73.toInt = (nu67 16 (2 : Int32).toNatClampNeg).toInt := congrArg Int32.toInt ey73
      have gy73 : 0 ≤ y73.toInt ∧ y73.toInt ≤ 6 := by rw [ey73]; exact rM_16_s ok (2 : Int32).toNatClampNeg
      refine lv_ishl hx hb dX12_hadOn_52 ?_
      refine lv_topi (fun t74 et74 => ?_)
      refine lv_ior hx hb dX12_hadOn_53 ?_
      refine lv_topi (fun t75 et75 => ?_)
      refine va_put (D := (dC, dI)) (ci := 12) (v := .int t75) (ty := .int) (C := RX12) (T := TX12) (N := 46) hx hb hts inG12 tyX12 tyX12_ok nmX12 hown hK hP (wR_D nu67 hD) hS 0 (gM_0 cs ad nu67) rfl 43 (by decide) (hts _ (List.mem_cons_of_mem _ mw_5_84)) (fun _ h9 => h9) rfl (by decide +kernel) rfl rfl (Nat.le_of_ble_eq_true rfl) dX12_hadOn_54 (fun H locs hP _ hS => ?_)
      simp only [List.set_cons_succ, List.set_cons_zero] at hP
      refine wr_gen (upd (nu67 0) 43 t75) hP ((hM_0_43 cs ad _ _)) (fun nu76 hn76 hP => ?_)
      have ok := tM_0_43 ok hn76
      have ez77 : y1 = nu76 2 vr.toNatClampNeg := ez68.trans (congrFun (up_k hn76 (by decide)) vr.toNatClampNeg).symm
      have ez78 : t66 = nu76 0 42 := ez71.trans (up_f hn76 (by decide)).symm
      have ez79 : y73 = nu76 16 (2 : Int32).toNatClampNeg := ey73.trans (congrFun (up_k hn76 (by decide)) (2 : Int32).toNatClampNeg).symm
      have kp80 : ∀ k : Nat, 2 ≤ k → k < 3 → nu76 k = mu k := fun k h1 h2 => (up_k hn76 (ne_lo (by decide) h1).symm).trans (kp69 k h1 h2)
      have kp81 : (∀ k f : Nat, Nat.testBit 510 (gpM k f) = true → nu76 k f = mu k f) := kp_f hn76 (by decide) kp70
      have ez82 : t75 = nu76 0 43 := up_v hn76
      refine lv_aload_n hx hb dX12_hadOn_57 rfl (lv_at hl 0 rfl) ?_
      refine lv_dup hx hb dX12_hadOn_58 rfl ?_
      refine va_get (D := (dC, dI)) (ci := 12) (v := .int (nu76 0 44)) (C := RX12) (T := TX12) (N := 46) hx hb hts inG12 hown hK hP 0 (gM_0 cs ad nu76) rfl 44 (by decide) (hts _ (List.mem_cons_of_mem _ mw_5_85)) (fun _ h9 => h9) rfl dX12_hadOn_59 ?_
      refine lv_topi (fun y83 ey83 => ?_)
      have by83 : y83.toInt = (nu76 0 44).toInt := congrArg Int32.toInt ey83
      refine lv_iload_n hx hb dX12_hadOn_62 rfl (lv_at hl 3 rfl) ?_
      refine lv_iand hx hb dX12_hadOn_63 ?_
      refine lv_topi (fun t84 et84 => ?_)
      refine va_put (D := (dC, dI)) (ci := 12) (v := .int t84) (ty := .int) (C := RX12) (T := TX12) (N := 46) hx hb hts inG12 tyX12 tyX12_ok nmX12 hown hK hP (wR_D nu76 hD) hS 0 (gM_0 cs ad nu76) rfl 44 (by decide) (hts _ (List.mem_cons_of_mem _ mw_5_85)) (fun _ h9 => h9) rfl (by decide +kernel) rfl rfl (Nat.le_of_ble_eq_true rfl) dX12_hadOn_64 (fun H locs hP _ hS => ?_)
      simp only [List.set_cons_succ, List.set_cons_zero] at hP
      refine wr_gen (upd (nu76 0) 44 t84) hP ((hM_0_44 cs ad _ _)) (fun nu85 hn85 hP => ?_)
      have ok := tM_0_44 ok hn85
      have ez86 : y1 = nu85 2 vr.toNatClampNeg := ez77.trans (congrFun (up_k hn85 (by decide)) vr.toNatClampNeg).symm
      have ez87 : t66 = nu85 0 42 := ez78.trans (up_f hn85 (by decide)).symm
      have ez88 : y73 = nu85 16 (2 : Int32).toNatClampNeg := ez79.trans (congrFun (up_k hn85 (by decide)) (2 : Int32).toNatClampNeg).symm
      have ez89 : t75 = nu85 0 43 := ez82.trans (up_f hn85 (by decide)).symm
      have kp90 : ∀ k : Nat, 2 ≤ k → k < 3 → nu85 k = mu k := fun k h1 h2 => (up_k hn85 (ne_lo (by decide) h1).symm).trans (kp80 k h1 h2)
      have kp91 : (∀ k f : Nat, Nat.testBit 510 (gpM k f) = true → nu85 k f = mu k f) := kp_f hn85 (by decide) kp81
      have ez92 : t84 = nu85 0 44 := up_v hn85
      exact W.vret hx hb hr (fun t ht hW => ⟨⟨nu85, rfl, ⟨ok, trivial, kp90, kp91⟩, by first | (subst ht; exact hP) | (rw [ht]; exact hP) | (show va_P (dC, dI) vwCl (wR 21 ad (EM cs ad) nu85) t.heap; rw [ht]; exact hP)⟩, hS.F ht⟩) hS.2.2 dX12_hadOn_67
    · have c_65 : y64.toInt = 0 := il_eq c_65
      refine lv_aload_n hx hb dX12_hadOn_19 rfl (lv_at hl 0 rfl) ?_
      refine lv_aload_n hx hb dX12_hadOn_20 rfl (lv_at hl 0 rfl) ?_
      refine va_get (D := (dC, dI)) (ci := 12) (v := .ref (ad 17)) (C := RX12) (T := TX12) (N := 46) hx hb hts inG12 hown hK hP 0 (gM_0 cs ad mu) rfl 27 (by decide) (hts _ (List.mem_cons_of_mem _ mw_5_68)) (fun _ h9 => h9) rfl dX12_hadOn_21 ?_
      refine lv_iload_n hx hb dX12_hadOn_24 rfl (lv_at hl 2 rfl) ?_
      have hFc := fr_all (wR_D mu hD) hS hA
      refine va_callv (va_runV (As := [.ref (ad 17), .int 3]) (rest := []) ⟨hx, hb, hml, hown, hts⟩ (sm_copyRoute17 l dC dI cs ad mu ok s.heap hP ((wR_D mu hD).weaken (fun _ _ _ _ => trivial)) 3 (by have h51 : (3 : Int32).toInt = 3 := rfl; omega)) (cwV 2 hts (wU_V mw_6_191 mw_6_188 mw_6_190 mw_0_57 mw_1_13) rfl rfl rfl (by decide +kernel) ⟨Nat.le_of_ble_eq_true rfl, Nat.le_of_ble_eq_true rfl⟩) ⟨sz_c, va_recv hK hP (ci := 12) (q0 := 0) rfl (gM_0 cs ad mu), sz_m hK hz⟩ rfl rfl hl.1 rfl (lv_room (Nat.le_of_ble_eq_true rfl)) dX12_hadOn_25 ⟨Nat.zero_le _, Nat.zero_le _⟩) hS (fun q _ h => hFc q h) hFc (fun xi93 t H93 locs ht hvm hw93 hB hz1 hk1 hS => ?_)
      have hP : va_P (dC, dI) vwCl (wR 21 ad (EM cs ad) xi93) H93 := by rw [← ht]; exact hB
      obtain ⟨hfe93, ok, hw93, hkp93_0, hkp93_1⟩ := hw93
      have ez94 : y1 = xi93 2 vr.toNatClampNeg := ey1.trans (congrFun (hkp93_0 2 (by decide) (by decide)) vr.toNatClampNeg).symm
      have ez95 : y64 = xi93 0 42 := ey64.trans (congrFun (hkp93_0 0 (by decide) (by decide)) 42).symm
      have kp96 : ∀ k : Nat, 2 ≤ k → k < 3 → xi93 k = mu k := fun k h1 h2 => (hkp93_0 k (Nat.le_trans (by decide) h1) (Nat.lt_of_lt_of_le h2 (by decide))).trans ((fun _ _ _ => rfl) k h1 h2)
      have kp97 : (∀ k f : Nat, Nat.testBit 510 (gpM k f) = true → xi93 k f = mu k f) := kp_t hkp93_1 (by decide) (fun _ _ _ => rfl)
      refine lv_aload_n hx hb dX12_hadOn_28 rfl (lv_at hl 0 rfl) ?_
      refine lv_dup hx hb dX12_hadOn_29 rfl ?_
      refine va_get (D := (dC, dI)) (ci := 12) (v := .int (xi93 0 42)) (C := RX12) (T := TX12) (N := 46) hx hb hts inG12 hown hK hP 0 (gM_0 cs ad xi93) rfl 42 (by decide) (hts _ (List.mem_cons_of_mem _ mw_5_83)) (fun _ h9 => h9) rfl dX12_hadOn_30 ?_
      refine lq_i y64 ez95.symm ?_
      refine lv_iconst (v := 1) hx hb dX12_hadOn_33 (by decide) ?_
      refine lv_iadd hx hb dX12_hadOn_34 ?_
      refine lv_topi (fun t98 et98 => ?_)
      have at98 : t98.toInt = y64.toInt + 1 := by rw [et98]; exact va1 (by omega)
      refine va_put (D := (dC, dI)) (ci := 12) (v := .int t98) (ty := .int) (C := RX12) (T := TX12) (N := 46) hx hb hts inG12 tyX12 tyX12_ok nmX12 hown hK hP (wR_D xi93 hD) hS 0 (gM_0 cs ad xi93) rfl 42 (by decide) (hts _ (List.mem_cons_of_mem _ mw_5_83)) (fun _ h9 => h9) rfl (by decide +kernel) rfl rfl (Nat.le_of_ble_eq_true rfl) dX12_hadOn_35 (fun H locs hP _ hS => ?_)
      simp only [List.set_cons_succ, List.set_cons_zero] at hP
      refine wr_gen (upd (xi93 0) 42 t98) hP ((hM_0_42 cs ad _ _)) (fun nu99 hn99 hP => ?_)
      have ok := tM_0_42 ok hn99
      have ez100 : y1 = nu99 2 vr.toNatClampNeg := ez94.trans (congrFun (up_k hn99 (by decide)) vr.toNatClampNeg).symm
      have kp101 : ∀ k : Nat, 2 ≤ k → k < 3 → nu99 k = mu k := fun k h1 h2 => (up_k hn99 (ne_lo (by decide) h1).symm).trans (kp96 k h1 h2)
      have kp102 : (∀ k f : Nat, Nat.testBit 510 (gpM k f) = true → nu99 k f = mu k f) := kp_f hn99 (by decide) kp97
      have ez103 : t98 = nu99 0 42 := up_v hn99
      refine lv_aload_n hx hb dX12_hadOn_38 rfl (lv_at hl 0 rfl) ?_
      refine lv_dup hx hb dX12_hadOn_39 rfl ?_
      refine va_get (D := (dC, dI)) (ci := 12) (v := .int (nu99 0 43)) (C := RX12) (T := TX12) (N := 46) hx hb hts inG12 hown hK hP 0 (gM_0 cs ad nu99) rfl 43 (by decide) (hts _ (List.mem_cons_of_mem _ mw_5_84)) (fun _ h9 => h9) rfl dX12_hadOn_40 ?_
      refine lv_topi (fun y104 ey104 => ?_)
      have by104 : y104.toInt = (nu99 0 43).toInt := congrArg Int32.toInt ey104
      refine lv_iconst (v := 1) hx hb dX12_hadOn_43 (by decide) ?_
      refine lv_aload_n hx hb dX12_hadOn_44 rfl (lv_at hl 0 rfl) ?_
      refine va_get (D := (dC, dI)) (ci := 12) (v := .ref (ad 16)) (C := RX12) (T := TX12) (N := 46) hx hb hts inG12 hown hK hP 0 (gM_0 cs ad nu99) rfl 26 (by decide) (hts _ (List.mem_cons_of_mem _ mw_5_67)) (fun _ h9 => h9) rfl dX12_hadOn_45 ?_
      refine lv_iload_n hx hb dX12_hadOn_48 rfl (lv_at hl 2 rfl) ?_
      refine lv_iconst (v := 1) hx hb dX12_hadOn_49 (by decide) ?_
      refine lv_isub hx hb dX12_hadOn_50 ?_
      refine lq_i 2 (by decide) ?_
      refine va_iald hx hb hK hP 16 0 (gM_16 cs ad nu99) rfl (show vp_in 2 7 from (by unfold vp_in; decide)) dX12_hadOn_51 ?_
      refine lv_topi (fun y105 ey105 => ?_)
      have by105 : y105.toInt = (nu99 16 (2 : Int32).toNatClampNeg).toInt := congrArg Int32.toInt ey105
      have gy105 : 0 ≤ y105.toInt ∧ y105.toInt ≤ 6 := by rw [ey105]; exact rM_16_s ok (2 : Int32).toNatClampNeg
      refine lv_ishl hx hb dX12_hadOn_52 ?_
      refine lv_topi (fun t106 et106 => ?_)
      refine lv_ior hx hb dX12_hadOn_53 ?_
      refine lv_topi (fun t107 et107 => ?_)
      refine va_put (D := (dC, dI)) (ci := 12) (v := .int t107) (ty := .int) (C := RX12) (T := TX12) (N := 46) hx hb hts inG12 tyX12 tyX12_ok nmX12 hown hK hP (wR_D nu99 hD) hS 0 (gM_0 cs ad nu99) rfl 43 (by decide) (hts _ (List.mem_cons_of_mem _ mw_5_84)) (fun _ h9 => h9) rfl (by decide +kernel) rfl rfl (Nat.le_of_ble_eq_true rfl) dX12_hadOn_54 (fun H locs hP _ hS => ?_)
      simp only [List.set_cons_succ, List.set_cons_zero] at hP
      refine wr_gen (upd (nu99 0) 43 t107) hP ((hM_0_43 cs ad _ _)) (fun nu108 hn108 hP => ?_)
      have ok := tM_0_43 ok hn108
      have ez109 : y1 = nu108 2 vr.toNatClampNeg := ez100.trans (congrFun (up_k hn108 (by decide)) vr.toNatClampNeg).symm
      have ez110 : t98 = nu108 0 42 := ez103.trans (up_f hn108 (by decide)).symm
      have ez111 : y105 = nu108 16 (2 : Int32).toNatClampNeg := ey105.trans (congrFun (up_k hn108 (by decide)) (2 : Int32).toNatClampNeg).symm
      have kp112 : ∀ k : Nat, 2 ≤ k → k < 3 → nu108 k = mu k := fun k h1 h2 => (up_k hn108 (ne_lo (by decide) h1).symm).trans (kp101 k h1 h2)
      have kp113 : (∀ k f : Nat, Nat.testBit 510 (gpM k f) = true → nu108 k f = mu k f) := kp_f hn108 (by decide) kp102
      have ez114 : t107 = nu108 0 43 := up_v hn108
      refine lv_aload_n hx hb dX12_hadOn_57 rfl (lv_at hl 0 rfl) ?_
      refine lv_dup hx hb dX12_hadOn_58 rfl ?_
      refine va_get (D := (dC, dI)) (ci := 12) (v := .int (nu108 0 44)) (C := RX12) (T := TX12) (N := 46) hx hb hts inG12 hown hK hP 0 (gM_0 cs ad nu108) rfl 44 (by decide) (hts _ (List.mem_cons_of_mem _ mw_5_85)) (fun _ h9 => h9) rfl dX12_hadOn_59 ?_
      refine lv_topi (fun y115 ey115 => ?_)
      have by115 : y115.toInt = (nu108 0 44).toInt := congrArg Int32.toInt ey115
      refine lv_iload_n hx hb dX12_hadOn_62 rfl (lv_at hl 3 rfl) ?_
      refine lv_iand hx hb dX12_hadOn_63 ?_
      refine lv_topi (fun t116 et116 => ?_)
      refine va_put (D := (dC, dI)) (ci := 12) (v := .int t116) (ty := .int) (C := RX12) (T := TX12) (N := 46) hx hb hts inG12 tyX12 tyX12_ok nmX12 hown hK hP (wR_D nu108 hD) hS 0 (gM_0 cs ad nu108) rfl 44 (by decide) (hts _ (List.mem_cons_of_mem _ mw_5_85)) (fun _ h9 => h9) rfl (by decide +kernel) rfl rfl (Nat.le_of_ble_eq_true rfl) dX12_hadOn_64 (fun H locs hP _ hS => ?_)
      simp only [List.set_cons_succ, List.set_cons_zero] at hP
      refine wr_gen (upd (nu108 0) 44 t116) hP ((hM_0_44 cs ad _ _)) (fun nu117 hn117 hP => ?_)
      have ok := tM_0_44 ok hn117
      have ez118 : y1 = nu117 2 vr.toNatClampNeg := ez109.trans (congrFun (up_k hn117 (by decide)) vr.toNatClampNeg).symm
      have ez119 : t98 = nu117 0 42 := ez110.trans (up_f hn117 (by decide)).symm
      have ez120 : y105 = nu117 16 (2 : Int32).toNatClampNeg := ez111.trans (congrFun (up_k hn117 (by decide)) (2 : Int32).toNatClampNeg).symm
      have ez121 : t107 = nu117 0 43 := ez114.trans (up_f hn117 (by decide)).symm
      have kp122 : ∀ k : Nat, 2 ≤ k → k < 3 → nu117 k = mu k := fun k h1 h2 => (up_k hn117 (ne_lo (by decide) h1).symm).trans (kp112 k h1 h2)
      have kp123 : (∀ k f : Nat, Nat.testBit 510 (gpM k f) = true → nu117 k f = mu k f) := kp_f hn117 (by decide) kp113
      have ez124 : t116 = nu117 0 44 := up_v hn117
      exact W.vret hx hb hr (fun t ht hW => ⟨⟨nu117, rfl, ⟨ok, trivial, kp122, kp123⟩, by first | (subst ht; exact hP) | (rw [ht]; exact hP) | (show va_P (dC, dI) vwCl (wR 21 ad (EM cs ad) nu117) t.heap; rw [ht]; exact hP)⟩, hS.F ht⟩) hS.2.2 dX12_hadOn_67
set_option maxHeartbeats 4000000 in
set_option maxRecDepth 100000 in
/-- sm_hadOn2 -/
theorem sm_hadOn2 (l : Launch) (dC : Nat → ClassId) (dI : Nat → Nat → Nat) (cs : Nat → ClassId) (ad : Nat → Nat) (mu : Nat → Nat → Int32) (ok : okR loM hiM mu) (H : Heap) (hP : va_P (dC, dI) vwCl (wR 21 ad (EM cs ad) mu) H) (hD0 : va_D (fun _ => True) (wR 21 ad (EM cs ad) mu)) (vr : Int32) (vh : Int32) (vp : Int32) (hin0 : 0 ≤ vr.toInt ∧ vr.toInt ≤ 5) (hin1 : 2 ≤ (mu 2 vr.toNatClampNeg).toInt + 1 ∧ (mu 2 vr.toNatClampNeg).toInt ≤ 6) : Met l yX12_hadOn (wU yX12_hadOn cX12_hadOn 10 none) ({ frames := 6, cells := 0, slots := 0, locals := 168 }) (va_Pc [.ref (ad 0), .int vr, .int 2, .int vh, .int vp] (sz_P (dC, dI) vwCl (tyM cs) H)) (va_Qv (fun (xi : Nat → Nat → Int32) => okR loM hiM xi ∧ (True) ∧ (∀ k : Nat, 2 ≤ k → k < 3 → xi k = mu k) ∧ (∀ k f : Nat, Nat.testBit 510 (gpM k f) = true → xi k f = mu k f)) (fun xi t => va_P (dC, dI) vwCl (wR 21 ad (EM cs ad) xi) t.heap) (va_A (wR 21 ad (EM cs ad) mu) H.size)) 0 0 (va_A (wR 21 ad (EM cs ad) mu) H.size) := by
  refine Met.ofW (cc := cX12_hadOn) (maxL := 10) (ret := none) (by decide) rfl ?_
  intro p e s m args below meth c s₁ B hml hv
  obtain ⟨rfl, hh, hK, hz⟩ := hv
  have hx := B.exec
  have hb := B.bytes
  have hr := B.returns
  have hts := atoms_spec (ws := (wU yX12_hadOn cX12_hadOn 10 none)) B.pre
  have hown : s.vm.findClass RX12 = some m.cls := findClass_of_methodNamed B.named
  have hlocks := B.notSynchronized
  subst hh
  have hD := hD0.self (sz := s.heap.size)
  have hA : ∀ q : Nat, s.heap.size ≤ q → (va_A (wR 21 ad (EM cs ad) mu) s.heap.size) q := fun q h => Or.inr h
  have hS : va_S (va_A (wR 21 ad (EM cs ad) mu) s.heap.size) s.heap s.heap [] := va_S.rf
  have hl := lv_entry ([.ref (ad 0), .int vr, .int 2, .int vh, .int vp]) (n := 10) (Nat.le_of_ble_eq_true rfl)
  rw [lg_entry_eq]
  generalize (lg_sl ([.ref (ad 0), .int vr, .int 2, .int vh, .int vp]) ++ List.replicate (10 - (lg_sl ([.ref (ad 0), .int vr, .int 2, .int vh, .int vp])).length) Slot.unset).toArray = ls at hl ⊢
  have hl : lv_has ls 10 [(0, .ref (ad 0)), (1, .int vr), (2, .int 2), (3, .int vh), (4, .int vp)] := hl
  refine lv_iload_n hx hb dX12_hadOn_0 rfl (lv_at hl 2 rfl) ?_
  refine lv_aload_n hx hb dX12_hadOn_1 rfl (lv_at hl 0 rfl) ?_
  refine va_get (D := (dC, dI)) (ci := 12) (v := .ref (ad 2)) (C := RX12) (T := TX12) (N := 46) hx hb hts inG12 hown hK hP 0 (gM_0 cs ad mu) rfl 3 (by decide) (hts _ (List.mem_cons_of_mem _ mw_5_44)) (fun _ h9 => h9) rfl dX12_hadOn_2 ?_
  refine lv_iload_n hx hb dX12_hadOn_5 rfl (lv_at hl 1 rfl) ?_
  refine va_iald hx hb hK hP 2 0 (gM_2 cs ad mu) rfl (show vp_in vr 6 from vi_of (by omega) (by omega)) dX12_hadOn_6 ?_
  refine lv_topi (fun y1 ey1 => ?_)
  have by1 : y1.toInt = (mu 2 vr.toNatClampNeg).toInt := congrArg Int32.toInt ey1
  have gy1 : -9 ≤ y1.toInt ∧ y1.toInt ≤ 40 := by rw [ey1]; exact rM_2_s ok vr.toNatClampNeg
  refine lv_iconst (v := 1) hx hb dX12_hadOn_7 (by decide) ?_
  refine lv_iadd hx hb dX12_hadOn_8 ?_
  refine lv_topi (fun t2 et2 => ?_)
  have at2 : t2.toInt = y1.toInt + 1 := by rw [et2]; exact va1 (by omega)
  refine lv_icmp_ne (tgt := 68) hx hb dX12_hadOn_9 (by decide) (fun c_3 => ?_) (fun c_3 => ?_)
  · have c_3 : ¬ 2 = t2.toInt := il_ne c_3
    refine lv_aload_n hx hb dX12_hadOn_68 rfl (lv_at hl 0 rfl) ?_
    refine va_get (D := (dC, dI)) (ci := 12) (v := .ref (ad 16)) (C := RX12) (T := TX12) (N := 46) hx hb hts inG12 hown hK hP 0 (gM_0 cs ad mu) rfl 26 (by decide) (hts _ (List.mem_cons_of_mem _ mw_5_67)) (fun _ h9 => h9) rfl dX12_hadOn_69 ?_
    refine lv_iload_n hx hb dX12_hadOn_72 rfl (lv_at hl 2 rfl) ?_
    refine lv_iconst (v := 1) hx hb dX12_hadOn_73 (by decide) ?_
    refine lv_isub hx hb dX12_hadOn_74 ?_
    refine lq_i 1 (by decide) ?_
    refine va_iald hx hb hK hP 16 0 (gM_16 cs ad mu) rfl (show vp_in 1 7 from (by unfold vp_in; decide)) dX12_hadOn_75 ?_
    refine lv_topi (fun y4 ey4 => ?_)
    have by4 : y4.toInt = (mu 16 (1 : Int32).toNatClampNeg).toInt := congrArg Int32.toInt ey4
    have gy4 : 0 ≤ y4.toInt ∧ y4.toInt ≤ 6 := by rw [ey4]; exact rM_16_s ok (1 : Int32).toNatClampNeg
    refine lv_istore (lv' := [(5, .int y4), (0, .ref (ad 0)), (1, .int vr), (2, .int 2), (3, .int vh), (4, .int vp)]) hx hb dX12_hadOn_76 hl (by decide) rfl (fun ls hl => ?_)
    refine lv_aload_n hx hb dX12_hadOn_78 rfl (lv_at hl 1 rfl) ?_
    refine lv_iload hx hb dX12_hadOn_79 (lv_at hl 0 rfl) ?_
    refine lv_iload hx hb dX12_hadOn_81 (lv_at hl 5 rfl) ?_
    refine cr_i (va_runV (As := [.int y4, .int vp]) (rest := []) ⟨hx, hb, hml, hown, hts⟩ (sm_asksOf l dC dI cs ad mu ok s.heap hP y4 vp (by omega)) (cwV 2 hts (wU_V mw_6_74 mw_6_71 mw_6_73 mw_0_42 mw_1_13) rfl rfl rfl (by decide +kernel) ⟨Nat.le_of_ble_eq_true rfl, Nat.le_of_ble_eq_true rfl⟩) ⟨sz_c, va_recv hK hP (ci := 12) (q0 := 0) rfl (gM_0 cs ad mu), sz_m hK hz⟩ rfl rfl hl.1 rfl (lv_room (Nat.le_of_ble_eq_true rfl)) dX12_hadOn_83 ⟨Nat.zero_le _, Nat.zero_le _⟩) hS (fun r5 hw5 locs hS => ?_)
    obtain ⟨hfe5, hw5⟩ := hw5
    refine lv_istore (lv' := [(6, .int r5), (5, .int y4), (0, .ref (ad 0)), (1, .int vr), (2, .int 2), (3, .int vh), (4, .int vp)]) hx hb dX12_hadOn_86 hl (by decide) rfl (fun ls hl => ?_)
    refine lv_iload hx hb dX12_hadOn_88 (lv_at hl 0 rfl) ?_
    refine lv_aload_n hx hb dX12_hadOn_90 rfl (lv_at hl 2 rfl) ?_
    refine lv_iload_n hx hb dX12_hadOn_91 rfl (lv_at hl 3 rfl) ?_
    refine lv_iload_n hx hb dX12_hadOn_92 rfl (lv_at hl 4 rfl) ?_
    refine lv_iconst (v := 1) hx hb dX12_hadOn_93 (by decide) ?_
    refine lv_isub hx hb dX12_hadOn_94 ?_
    refine lq_i 1 (by decide) ?_
    refine cr_i (va_runV (As := [.int vr, .int 1]) (rest := [.int r5]) ⟨hx, hb, hml, hown, hts⟩ (sm_rowAt l dC dI cs ad mu ok s.heap hP vr 1 (by have h51 : (1 : Int32).toInt = 1 := rfl; omega)) (cwV 2 hts (wU_V mw_5_209 mw_5_206 mw_5_208 mw_0_29 mw_1_13) rfl rfl rfl (by decide +kernel) ⟨Nat.le_of_ble_eq_true rfl, Nat.le_of_ble_eq_true rfl⟩) ⟨sz_c, va_recv hK hP (ci := 12) (q0 := 0) rfl (gM_0 cs ad mu), sz_m hK hz⟩ rfl rfl hl.1 rfl (lv_room (Nat.le_of_ble_eq_true rfl)) dX12_hadOn_95 ⟨Nat.zero_le _, Nat.zero_le _⟩) hS (fun r6 hw6 locs hS => ?_)
    obtain ⟨hfe6, hw6⟩ := hw6
    refine lv_icmp_ne (tgt := 121) hx hb dX12_hadOn_98 (by decide) (fun c_7 => ?_) (fun c_7 => ?_)
    · have c_7 : ¬ r5.toInt = r6.toInt := il_ne c_7
      refine lv_iconst (v := 0) hx hb dX12_hadOn_121 (by decide) ?_
      refine lv_istore (lv' := [(7, .int 0), (6, .int r5), (5, .int y4), (0, .ref (ad 0)), (1, .int vr), (2, .int 2), (3, .int vh), (4, .int vp)]) hx hb dX12_hadOn_122 hl (by decide) rfl (fun ls hl => ?_)
      refine lv_iload hx hb dX12_hadOn_124 (lv_at hl 0 rfl) ?_
      refine lv_if_eq (tgt := 142) hx hb dX12_hadOn_126 (by decide) (fun _ => ?_) (fun c => absurd (by decide) c)
      refine lv_iconst (v := 0) hx hb dX12_hadOn_142 (by decide) ?_
      refine lv_istore (lv' := [(8, .int 0), (7, .int 0), (6, .int r5), (5, .int y4), (0, .ref (ad 0)), (1, .int vr), (2, .int 2), (3, .int vh), (4, .int vp)]) hx hb dX12_hadOn_143 hl (by decide) rfl (fun ls hl => ?_)
      refine lv_iconst (v := 0) hx hb dX12_hadOn_145 (by decide) ?_
      refine lv_istore (lv' := [(9, .int 0), (8, .int 0), (7, .int 0), (6, .int r5), (5, .int y4), (0, .ref (ad 0)), (1, .int vr), (2, .int 2), (3, .int vh), (4, .int vp)]) hx hb dX12_hadOn_146 hl (by decide) rfl (fun ls hl => ?_)
      have loop148 : ∀ (n148 : Nat) (v9_148 : Int32) (nu148_ : Nat → Nat → Int32) (H : Heap) (locs : List Loc) (ls : Array Slot), (7 + 1 - v9_148.toInt).toNat < n148 → (0 ≤ v9_148.toInt ∧ v9_148.toInt ≤ 7) → okR loM hiM nu148_ → va_P (dC, dI) vwCl (wR 21 ad (EM cs ad) nu148_) H → y1 = nu148_ 2 vr.toNatClampNeg → (∀ k : Nat, 2 ≤ k → k < 3 → nu148_ k = mu k) → (∀ k f : Nat, Nat.testBit 510 (gpM k f) = true → nu148_ k f = mu k f) → va_S (va_A (wR 21 ad (EM cs ad) mu) s.heap.size) s.heap H locs → lv_has ls 10 [(9, .int v9_148), (8, .int 0), (7, .int 0), (6, .int r5), (5, .int y4), (0, .ref (ad 0)), (1, .int vr), (2, .int 2), (3, .int vh), (4, .int vp)] → W p l e (headSpec (wU yX12_hadOn cX12_hadOn 10 none) ({ frames := 6, cells := 0, slots := 0, locals := 168 })).room s m ([.ref (ad 0), .int vr, .int 2, .int vh, .int vp] : List Value).toArray below meth c H locs 0 0 (MQ below (va_Qv (fun (xi : Nat → Nat → Int32) => okR loM hiM xi ∧ (True) ∧ (∀ k : Nat, 2 ≤ k → k < 3 → xi k = mu k) ∧ (∀ k f : Nat, Nat.testBit 510 (gpM k f) = true → xi k f = mu k f)) (fun xi t => va_P (dC, dI) vwCl (wR 21 ad (EM cs ad) xi) t.heap) (va_A (wR 21 ad (EM cs ad) mu) s.heap.size)) ([.ref (ad 0), .int vr, .int 2, .int vh, .int vp] : List Value).toArray s 0 0 (va_A (wR 21 ad (EM cs ad) mu) s.heap.size)) (F0 m 148 ls []) := by
        intro n148
        induction n148 with
        | zero => intro v9_148 nu148_ H locs ls hm; exact absurd hm (Nat.not_lt_zero _)
        | succ n148 ih148 =>
          intro v9_148 nu148_ H locs ls hm_148 h_v9_148 ok hP ek148_0 kq148_0 kq148_1 hS hl
          refine lv_iload hx hb dX12_hadOn_148 (lv_at hl 0 rfl) ?_
          refine lv_aload_n hx hb dX12_hadOn_150 rfl (lv_at hl 5 rfl) ?_
          refine va_get (D := (dC, dI)) (ci := 12) (v := .int (nu148_ 0 8)) (C := RX12) (T := TX12) (N := 46) hx hb hts inG12 hown hK hP 0 (gM_0 cs ad nu148_) rfl 8 (by decide) (hts _ (List.mem_cons_of_mem _ mw_5_49)) (fun _ h9 => h9) rfl dX12_hadOn_151 ?_
          refine lv_topi (fun y8 ey8 => ?_)
          have by8 : y8.toInt = (nu148_ 0 8).toInt := congrArg Int32.toInt ey8
          have gy8 : 0 ≤ y8.toInt ∧ y8.toInt ≤ 7 := by rw [ey8]; exact rM_0_8 ok
          refine lv_icmp_ge (tgt := 197) hx hb dX12_hadOn_154 (by decide) (fun c_9 => ?_) (fun c_9 => ?_)
          · have c_9 : y8.toInt ≤ v9_148.toInt := il_le c_9
            exact W.vret hx hb hr (fun t ht hW => ⟨⟨nu148_, rfl, ⟨ok, trivial, kq148_0, kq148_1⟩, by first | (subst ht; exact hP) | (rw [ht]; exact hP) | (show va_P (dC, dI) vwCl (wR 21 ad (EM cs ad) nu148_) t.heap; rw [ht]; exact hP)⟩, hS.F ht⟩) hS.2.2 dX12_hadOn_197
          · have c_9 : v9_148.toInt < y8.toInt := il_nle c_9
            refine lv_iload hx hb dX12_hadOn_157 (lv_at hl 1 rfl) ?_
            refine lv_iload hx hb dX12_hadOn_159 (lv_at hl 0 rfl) ?_
            refine cr_i (va_runS (As := [.int 0, .int v9_148]) (rest := []) ⟨hx, hb, hml, hown, hts⟩ (sm_has l dC dI (tyM cs) H 0 v9_148) (va_cwS 2 hts (wU_S mw_6_59 mw_6_57 mw_6_58 mw_1_13) rfl rfl rfl (by decide +kernel) ⟨Nat.le_of_ble_eq_true rfl, Nat.le_of_ble_eq_true rfl⟩) ⟨sz_c, sz_m hK hz⟩ rfl rfl hl.1 rfl (lv_room (Nat.le_of_ble_eq_true rfl)) dX12_hadOn_161 ⟨Nat.zero_le _, Nat.zero_le _⟩) hS (fun r10 hw10 locs hS => ?_)
            obtain ⟨hfe10, hw10⟩ := hw10
            rcases hw10 with ⟨rfl, f10⟩ | ⟨rfl, f10⟩
            · have f10 : rb (0 : Int32) v9_148 = 1 := f10
              refine lv_if_eq (tgt := 191) hx hb dX12_hadOn_164 (by decide) (fun c => absurd c (by decide)) (fun _ => ?_)
              refine lv_aload_n hx hb dX12_hadOn_167 rfl (lv_at hl 5 rfl) ?_
              refine va_get (D := (dC, dI)) (ci := 12) (v := .ref (ad 16)) (C := RX12) (T := TX12) (N := 46) hx hb hts inG12 hown hK hP 0 (gM_0 cs ad nu148_) rfl 26 (by decide) (hts _ (List.mem_cons_of_mem _ mw_5_67)) (fun _ h9 => h9) rfl dX12_hadOn_168 ?_
              refine lv_iload_n hx hb dX12_hadOn_171 rfl (lv_at hl 7 rfl) ?_
              refine lv_iload hx hb dX12_hadOn_172 (lv_at hl 0 rfl) ?_
              refine va_iast hx hb hK hP (wR_D nu148_ hD) hS 16 0 (gM_16 cs ad nu148_) rfl (show vp_in 2 7 from (by unfold vp_in; decide)) dX12_hadOn_174 (fun H locs hP _ hS => ?_)
              refine wr_gen (upd (nu148_ 16) (2 : Int32).toNatClampNeg v9_148) hP (rfl) (fun nu11 hn11 hP => ?_)
              have ok := tM_16_s ok (2 : Int32).toNatClampNeg hn11 (by omega)
              have ez12 : y1 = nu11 2 vr.toNatClampNeg := ek148_0.trans (congrFun (up_k hn11 (by decide)) vr.toNatClampNeg).symm
              have ez13 : y8 = nu11 0 8 := ey8.trans (congrFun (up_k hn11 (by decide)) 8).symm
              have kp14 : ∀ k : Nat, 2 ≤ k → k < 3 → nu11 k = mu k := fun k h1 h2 => (up_k hn11 (ne_hi (by decide) h2).symm).trans (kq148_0 k h1 h2)
              have kp15 : (∀ k f : Nat, Nat.testBit 510 (gpM k f) = true → nu11 k f = mu k f) := kp_c 0 hn11 (fun _ => rfl) (by decide) kq148_1
              refine lv_aload_n hx hb dX12_hadOn_175 rfl (lv_at hl 5 rfl) ?_
              refine lv_iload_n hx hb dX12_hadOn_176 rfl (lv_at hl 6 rfl) ?_
              refine lv_iload_n hx hb dX12_hadOn_177 rfl (lv_at hl 7 rfl) ?_
              refine lv_iconst (v := 1) hx hb dX12_hadOn_178 (by decide) ?_
              refine lv_iadd hx hb dX12_hadOn_179 ?_
              refine lq_i 3 (by decide) ?_
              refine lv_iload_n hx hb dX12_hadOn_180 rfl (lv_at hl 8 rfl) ?_
              refine lv_iconst (v := 1) hx hb dX12_hadOn_181 (by decide) ?_
              refine lv_iload hx hb dX12_hadOn_182 (lv_at hl 0 rfl) ?_
              refine lv_ishl hx hb dX12_hadOn_184 ?_
              refine lv_topi (fun t16 et16 => ?_)
              refine lv_ior hx hb dX12_hadOn_185 ?_
              refine lv_topi (fun t17 et17 => ?_)
              refine lv_iload hx hb dX12_hadOn_186 (lv_at hl 3 rfl) ?_
              have hFc := fr_all (wR_D nu11 hD) hS hA
              refine va_callv (va_runV (As := [.int vr, .int 3, .int t17, .int r5]) (rest := []) ⟨hx, hb, hml, hown, hts⟩ (sm_hadOn3 l dC dI cs ad nu11 ok H hP ((wR_D nu11 hD).weaken (fun _ _ _ _ => trivial)) vr t17 r5 (by have h51 : (3 : Int32).toInt = 3 := rfl; omega) (by have h51 : (3 : Int32).toInt = 3 := rfl; have hb18 := congrArg Int32.toInt ez12; omega)) (cwV 4 hts (wU_V mw_7_24 mw_7_21 mw_7_23 mw_0_62 mw_1_13) rfl rfl rfl (by decide +kernel) ⟨Nat.le_of_ble_eq_true rfl, Nat.le_of_ble_eq_true rfl⟩) ⟨sz_c, va_recv hK hP (ci := 12) (q0 := 0) rfl (gM_0 cs ad nu11), sz_m hK hz⟩ rfl rfl hl.1 rfl (lv_room (Nat.le_of_ble_eq_true rfl)) dX12_hadOn_188 ⟨Nat.zero_le _, Nat.zero_le _⟩) hS (fun q _ h => hFc q h) hFc (fun xi19 t H19 locs ht hvm hw19 hB hz1 hk1 hS => ?_)
              have hP : va_P (dC, dI) vwCl (wR 21 ad (EM cs ad) xi19) H19 := by rw [← ht]; exact hB
              obtain ⟨ok, hw19, hkp19_0, hkp19_1⟩ := hw19
              have ez20 : y1 = xi19 2 vr.toNatClampNeg := ez12.trans (congrFun (hkp19_0 2 (by decide) (by decide)) vr.toNatClampNeg).symm
              have kp21 : ∀ k : Nat, 2 ≤ k → k < 3 → xi19 k = mu k := fun k h1 h2 => (hkp19_0 k (Nat.le_trans (by decide) h1) (Nat.lt_of_lt_of_le h2 (by decide))).trans (kp14 k h1 h2)
              have kp22 : (∀ k f : Nat, Nat.testBit 510 (gpM k f) = true → xi19 k f = mu k f) := kp_t hkp19_1 (by decide) kp15
              refine lv_iinc (v := (v9_148 + 1)) (lv' := [(9, .int (v9_148 + 1)), (8, .int 0), (7, .int 0), (6, .int r5), (5, .int y4), (0, .ref (ad 0)), (1, .int vr), (2, .int 2), (3, .int vh), (4, .int vp)]) hx hb dX12_hadOn_191 hl (k := 0) rfl rfl (by decide) rfl (fun ls hl => ?_)
              refine loc_gen (P := fun w9 => lv_has ls 10 [(9, .int w9), (8, .int 0), (7, .int 0), (6, .int r5), (5, .int y4), (0, .ref (ad 0)), (1, .int vr), (2, .int 2), (3, .int vh), (4, .int vp)]) (v9_148 + 1) hl (fun w23 hw23 hl => ?_)
              have hl : lv_has ls 10 [(9, .int w23), (8, .int 0), (7, .int 0), (6, .int r5), (5, .int y4), (0, .ref (ad 0)), (1, .int vr), (2, .int 2), (3, .int vh), (4, .int vp)] := hl
              have aw23 : w23.toInt = v9_148.toInt + 1 := by rw [← hw23]; first | exact va1 (Int.lt_of_le_of_lt h_v9_148.2 (by decide)) | exact va1 (by omega)
              refine lv_goto (tgt := 148) hx hb dX12_hadOn_194 (by decide) ?_
              exact ih148 (w23) xi19 _ _ _ (by first | exact ms_up hm_148 aw23 h_v9_148.2 | exact ms_lt hm_148 (by omega) (by omega) | omega) (by first | exact rg_up aw23 h_v9_148 (by omega) | omega)  ok hP ez20 kp21 kp22 hS (lv_sub hl [0, 1, 2, 3, 4, 5, 6, 7, 8, 9] rfl)
            · have f10 : ¬ rb (0 : Int32) v9_148 = 1 := f10
              refine lv_if_eq (tgt := 191) hx hb dX12_hadOn_164 (by decide) (fun _ => ?_) (fun c => absurd (by decide) c)
              refine lv_iinc (v := (v9_148 + 1)) (lv' := [(9, .int (v9_148 + 1)), (8, .int 0), (7, .int 0), (6, .int r5), (5, .int y4), (0, .ref (ad 0)), (1, .int vr), (2, .int 2), (3, .int vh), (4, .int vp)]) hx hb dX12_hadOn_191 hl (k := 0) rfl rfl (by decide) rfl (fun ls hl => ?_)
              refine loc_gen (P := fun w9 => lv_has ls 10 [(9, .int w9), (8, .int 0), (7, .int 0), (6, .int r5), (5, .int y4), (0, .ref (ad 0)), (1, .int vr), (2, .int 2), (3, .int vh), (4, .int vp)]) (v9_148 + 1) hl (fun w24 hw24 hl => ?_)
              have hl : lv_has ls 10 [(9, .int w24), (8, .int 0), (7, .int 0), (6, .int r5), (5, .int y4), (0, .ref (ad 0)), (1, .int vr), (2, .int 2), (3, .int vh), (4, .int vp)] := hl
              have aw24 : w24.toInt = v9_148.toInt + 1 := by rw [← hw24]; first | exact va1 (Int.lt_of_le_of_lt h_v9_148.2 (by decide)) | exact va1 (by omega)
              refine lv_goto (tgt := 148) hx hb dX12_hadOn_194 (by decide) ?_
              exact ih148 (w24) nu148_ _ _ _ (by first | exact ms_up hm_148 aw24 h_v9_148.2 | exact ms_lt hm_148 (by omega) (by omega) | omega) (by first | exact rg_up aw24 h_v9_148 (by omega) | omega)  ok hP ek148_0 kq148_0 kq148_1 hS (lv_sub hl [0, 1, 2, 3, 4, 5, 6, 7, 8, 9] rfl)
      exact loop148 ((7 + 1 - (0 : Int32).toInt).toNat + 1) (0) mu _ _ _ (Nat.lt_succ_self _) (by have h80 : (0 : Int32).toInt = 0 := rfl; exact ⟨by omega, by omega⟩)  ok hP ey1 (fun _ _ _ => rfl) (fun _ _ _ => rfl) hS hl
    · have c_7 : r5.toInt = r6.toInt := il_eq c_7
      refine lv_iload_n hx hb dX12_hadOn_101 rfl (lv_at hl 4 rfl) ?_
      refine lv_iconst (v := 1) hx hb dX12_hadOn_102 (by decide) ?_
      refine lv_icmp_eq (tgt := 117) hx hb dX12_hadOn_103 (by decide) (fun c => absurd c (by decide)) (fun _ => ?_)
      refine lv_aload_n hx hb dX12_hadOn_106 rfl (lv_at hl 2 rfl) ?_
      refine va_get (D := (dC, dI)) (ci := 12) (v := .ref (ad 7)) (C := RX12) (T := TX12) (N := 46) hx hb hts inG12 hown hK hP 0 (gM_0 cs ad mu) rfl 9 (by decide) (hts _ (List.mem_cons_of_mem _ mw_5_50)) (fun _ h9 => h9) rfl dX12_hadOn_107 ?_
      refine lv_iload hx hb dX12_hadOn_110 (lv_at hl 1 rfl) ?_
      refine va_iald hx hb hK hP 7 0 (gM_7 cs ad mu) rfl (show vp_in y4 7 from vi_of (by omega) (by omega)) dX12_hadOn_112 ?_
      refine lv_topi (fun y25 ey25 => ?_)
      have by25 : y25.toInt = (mu 7 y4.toNatClampNeg).toInt := congrArg Int32.toInt ey25
      refine lv_iconst (v := 3) hx hb dX12_hadOn_113 (by decide) ?_
      refine lv_icmp_eq (tgt := 121) hx hb dX12_hadOn_114 (by decide) (fun c_26 => ?_) (fun c_26 => ?_)
      · have c_26 : y25.toInt = 3 := il_eq c_26
        refine lv_iconst (v := 0) hx hb dX12_hadOn_121 (by decide) ?_
        refine lv_istore (lv' := [(7, .int 0), (6, .int r5), (5, .int y4), (0, .ref (ad 0)), (1, .int vr), (2, .int 2), (3, .int vh), (4, .int vp)]) hx hb dX12_hadOn_122 hl (by decide) rfl (fun ls hl => ?_)
        refine lv_iload hx hb dX12_hadOn_124 (lv_at hl 0 rfl) ?_
        refine lv_if_eq (tgt := 142) hx hb dX12_hadOn_126 (by decide) (fun _ => ?_) (fun c => absurd (by decide) c)
        refine lv_iconst (v := 0) hx hb dX12_hadOn_142 (by decide) ?_
        refine lv_istore (lv' := [(8, .int 0), (7, .int 0), (6, .int r5), (5, .int y4), (0, .ref (ad 0)), (1, .int vr), (2, .int 2), (3, .int vh), (4, .int vp)]) hx hb dX12_hadOn_143 hl (by decide) rfl (fun ls hl => ?_)
        refine lv_iconst (v := 0) hx hb dX12_hadOn_145 (by decide) ?_
        refine lv_istore (lv' := [(9, .int 0), (8, .int 0), (7, .int 0), (6, .int r5), (5, .int y4), (0, .ref (ad 0)), (1, .int vr), (2, .int 2), (3, .int vh), (4, .int vp)]) hx hb dX12_hadOn_146 hl (by decide) rfl (fun ls hl => ?_)
        have loop148 : ∀ (n148 : Nat) (v9_148 : Int32) (nu148_ : Nat → Nat → Int32) (H : Heap) (locs : List Loc) (ls : Array Slot), (7 + 1 - v9_148.toInt).toNat < n148 → (0 ≤ v9_148.toInt ∧ v9_148.toInt ≤ 7) → okR loM hiM nu148_ → va_P (dC, dI) vwCl (wR 21 ad (EM cs ad) nu148_) H → y1 = nu148_ 2 vr.toNatClampNeg → (∀ k : Nat, 2 ≤ k → k < 3 → nu148_ k = mu k) → (∀ k f : Nat, Nat.testBit 510 (gpM k f) = true → nu148_ k f = mu k f) → va_S (va_A (wR 21 ad (EM cs ad) mu) s.heap.size) s.heap H locs → lv_has ls 10 [(9, .int v9_148), (8, .int 0), (7, .int 0), (6, .int r5), (5, .int y4), (0, .ref (ad 0)), (1, .int vr), (2, .int 2), (3, .int vh), (4, .int vp)] → W p l e (headSpec (wU yX12_hadOn cX12_hadOn 10 none) ({ frames := 6, cells := 0, slots := 0, locals := 168 })).room s m ([.ref (ad 0), .int vr, .int 2, .int vh, .int vp] : List Value).toArray below meth c H locs 0 0 (MQ below (va_Qv (fun (xi : Nat → Nat → Int32) => okR loM hiM xi ∧ (True) ∧ (∀ k : Nat, 2 ≤ k → k < 3 → xi k = mu k) ∧ (∀ k f : Nat, Nat.testBit 510 (gpM k f) = true → xi k f = mu k f)) (fun xi t => va_P (dC, dI) vwCl (wR 21 ad (EM cs ad) xi) t.heap) (va_A (wR 21 ad (EM cs ad) mu) s.heap.size)) ([.ref (ad 0), .int vr, .int 2, .int vh, .int vp] : List Value).toArray s 0 0 (va_A (wR 21 ad (EM cs ad) mu) s.heap.size)) (F0 m 148 ls []) := by
          intro n148
          induction n148 with
          | zero => intro v9_148 nu148_ H locs ls hm; exact absurd hm (Nat.not_lt_zero _)
          | succ n148 ih148 =>
            intro v9_148 nu148_ H locs ls hm_148 h_v9_148 ok hP ek148_0 kq148_0 kq148_1 hS hl
            refine lv_iload hx hb dX12_hadOn_148 (lv_at hl 0 rfl) ?_
            refine lv_aload_n hx hb dX12_hadOn_150 rfl (lv_at hl 5 rfl) ?_
            refine va_get (D := (dC, dI)) (ci := 12) (v := .int (nu148_ 0 8)) (C := RX12) (T := TX12) (N := 46) hx hb hts inG12 hown hK hP 0 (gM_0 cs ad nu148_) rfl 8 (by decide) (hts _ (List.mem_cons_of_mem _ mw_5_49)) (fun _ h9 => h9) rfl dX12_hadOn_151 ?_
            refine lv_topi (fun y27 ey27 => ?_)
            have by27 : y27.toInt = (nu148_ 0 8).toInt := congrArg Int32.toInt ey27
            have gy27 : 0 ≤ y27.toInt ∧ y27.toInt ≤ 7 := by rw [ey27]; exact rM_0_8 ok
            refine lv_icmp_ge (tgt := 197) hx hb dX12_hadOn_154 (by decide) (fun c_28 => ?_) (fun c_28 => ?_)
            · have c_28 : y27.toInt ≤ v9_148.toInt := il_le c_28
              exact W.vret hx hb hr (fun t ht hW => ⟨⟨nu148_, rfl, ⟨ok, trivial, kq148_0, kq148_1⟩, by first | (subst ht; exact hP) | (rw [ht]; exact hP) | (show va_P (dC, dI) vwCl (wR 21 ad (EM cs ad) nu148_) t.heap; rw [ht]; exact hP)⟩, hS.F ht⟩) hS.2.2 dX12_hadOn_197
            · have c_28 : v9_148.toInt < y27.toInt := il_nle c_28
              refine lv_iload hx hb dX12_hadOn_157 (lv_at hl 1 rfl) ?_
              refine lv_iload hx hb dX12_hadOn_159 (lv_at hl 0 rfl) ?_
              refine cr_i (va_runS (As := [.int 0, .int v9_148]) (rest := []) ⟨hx, hb, hml, hown, hts⟩ (sm_has l dC dI (tyM cs) H 0 v9_148) (va_cwS 2 hts (wU_S mw_6_59 mw_6_57 mw_6_58 mw_1_13) rfl rfl rfl (by decide +kernel) ⟨Nat.le_of_ble_eq_true rfl, Nat.le_of_ble_eq_true rfl⟩) ⟨sz_c, sz_m hK hz⟩ rfl rfl hl.1 rfl (lv_room (Nat.le_of_ble_eq_true rfl)) dX12_hadOn_161 ⟨Nat.zero_le _, Nat.zero_le _⟩) hS (fun r29 hw29 locs hS => ?_)
              obtain ⟨hfe29, hw29⟩ := hw29
              rcases hw29 with ⟨rfl, f29⟩ | ⟨rfl, f29⟩
              · have f29 : rb (0 : Int32) v9_148 = 1 := f29
                refine lv_if_eq (tgt := 191) hx hb dX12_hadOn_164 (by decide) (fun c => absurd c (by decide)) (fun _ => ?_)
                refine lv_aload_n hx hb dX12_hadOn_167 rfl (lv_at hl 5 rfl) ?_
                refine va_get (D := (dC, dI)) (ci := 12) (v := .ref (ad 16)) (C := RX12) (T := TX12) (N := 46) hx hb hts inG12 hown hK hP 0 (gM_0 cs ad nu148_) rfl 26 (by decide) (hts _ (List.mem_cons_of_mem _ mw_5_67)) (fun _ h9 => h9) rfl dX12_hadOn_168 ?_
                refine lv_iload_n hx hb dX12_hadOn_171 rfl (lv_at hl 7 rfl) ?_
                refine lv_iload hx hb dX12_hadOn_172 (lv_at hl 0 rfl) ?_
                refine va_iast hx hb hK hP (wR_D nu148_ hD) hS 16 0 (gM_16 cs ad nu148_) rfl (show vp_in 2 7 from (by unfold vp_in; decide)) dX12_hadOn_174 (fun H locs hP _ hS => ?_)
                refine wr_gen (upd (nu148_ 16) (2 : Int32).toNatClampNeg v9_148) hP (rfl) (fun nu30 hn30 hP => ?_)
                have ok := tM_16_s ok (2 : Int32).toNatClampNeg hn30 (by omega)
                have ez31 : y1 = nu30 2 vr.toNatClampNeg := ek148_0.trans (congrFun (up_k hn30 (by decide)) vr.toNatClampNeg).symm
                have ez32 : y27 = nu30 0 8 := ey27.trans (congrFun (up_k hn30 (by decide)) 8).symm
                have kp33 : ∀ k : Nat, 2 ≤ k → k < 3 → nu30 k = mu k := fun k h1 h2 => (up_k hn30 (ne_hi (by decide) h2).symm).trans (kq148_0 k h1 h2)
                have kp34 : (∀ k f : Nat, Nat.testBit 510 (gpM k f) = true → nu30 k f = mu k f) := kp_c 0 hn30 (fun _ => rfl) (by decide) kq148_1
                refine lv_aload_n hx hb dX12_hadOn_175 rfl (lv_at hl 5 rfl) ?_
                refine lv_iload_n hx hb dX12_hadOn_176 rfl (lv_at hl 6 rfl) ?_
                refine lv_iload_n hx hb dX12_hadOn_177 rfl (lv_at hl 7 rfl) ?_
                refine lv_iconst (v := 1) hx hb dX12_hadOn_178 (by decide) ?_
                refine lv_iadd hx hb dX12_hadOn_179 ?_
                refine lq_i 3 (by decide) ?_
                refine lv_iload_n hx hb dX12_hadOn_180 rfl (lv_at hl 8 rfl) ?_
                refine lv_iconst (v := 1) hx hb dX12_hadOn_181 (by decide) ?_
                refine lv_iload hx hb dX12_hadOn_182 (lv_at hl 0 rfl) ?_
                refine lv_ishl hx hb dX12_hadOn_184 ?_
                refine lv_topi (fun t35 et35 => ?_)
                refine lv_ior hx hb dX12_hadOn_185 ?_
                refine lv_topi (fun t36 et36 => ?_)
                refine lv_iload hx hb dX12_hadOn_186 (lv_at hl 3 rfl) ?_
                have hFc := fr_all (wR_D nu30 hD) hS hA
                refine va_callv (va_runV (As := [.int vr, .int 3, .int t36, .int r5]) (rest := []) ⟨hx, hb, hml, hown, hts⟩ (sm_hadOn3 l dC dI cs ad nu30 ok H hP ((wR_D nu30 hD).weaken (fun _ _ _ _ => trivial)) vr t36 r5 (by have h51 : (3 : Int32).toInt = 3 := rfl; omega) (by have h51 : (3 : Int32).toInt = 3 := rfl; have hb37 := congrArg Int32.toInt ez31; omega)) (cwV 4 hts (wU_V mw_7_24 mw_7_21 mw_7_23 mw_0_62 mw_1_13) rfl rfl rfl (by decide +kernel) ⟨Nat.le_of_ble_eq_true rfl, Nat.le_of_ble_eq_true rfl⟩) ⟨sz_c, va_recv hK hP (ci := 12) (q0 := 0) rfl (gM_0 cs ad nu30), sz_m hK hz⟩ rfl rfl hl.1 rfl (lv_room (Nat.le_of_ble_eq_true rfl)) dX12_hadOn_188 ⟨Nat.zero_le _, Nat.zero_le _⟩) hS (fun q _ h => hFc q h) hFc (fun xi38 t H38 locs ht hvm hw38 hB hz1 hk1 hS => ?_)
                have hP : va_P (dC, dI) vwCl (wR 21 ad (EM cs ad) xi38) H38 := by rw [← ht]; exact hB
                obtain ⟨ok, hw38, hkp38_0, hkp38_1⟩ := hw38
                have ez39 : y1 = xi38 2 vr.toNatClampNeg := ez31.trans (congrFun (hkp38_0 2 (by decide) (by decide)) vr.toNatClampNeg).symm
                have kp40 : ∀ k : Nat, 2 ≤ k → k < 3 → xi38 k = mu k := fun k h1 h2 => (hkp38_0 k (Nat.le_trans (by decide) h1) (Nat.lt_of_lt_of_le h2 (by decide))).trans (kp33 k h1 h2)
                have kp41 : (∀ k f : Nat, Nat.testBit 510 (gpM k f) = true → xi38 k f = mu k f) := kp_t hkp38_1 (by decide) kp34
                refine lv_iinc (v := (v9_148 + 1)) (lv' := [(9, .int (v9_148 + 1)), (8, .int 0), (7, .int 0), (6, .int r5), (5, .int y4), (0, .ref (ad 0)), (1, .int vr), (2, .int 2), (3, .int vh), (4, .int vp)]) hx hb dX12_hadOn_191 hl (k := 0) rfl rfl (by decide) rfl (fun ls hl => ?_)
                refine loc_gen (P := fun w9 => lv_has ls 10 [(9, .int w9), (8, .int 0), (7, .int 0), (6, .int r5), (5, .int y4), (0, .ref (ad 0)), (1, .int vr), (2, .int 2), (3, .int vh), (4, .int vp)]) (v9_148 + 1) hl (fun w42 hw42 hl => ?_)
                have hl : lv_has ls 10 [(9, .int w42), (8, .int 0), (7, .int 0), (6, .int r5), (5, .int y4), (0, .ref (ad 0)), (1, .int vr), (2, .int 2), (3, .int vh), (4, .int vp)] := hl
                have aw42 : w42.toInt = v9_148.toInt + 1 := by rw [← hw42]; first | exact va1 (Int.lt_of_le_of_lt h_v9_148.2 (by decide)) | exact va1 (by omega)
                refine lv_goto (tgt := 148) hx hb dX12_hadOn_194 (by decide) ?_
                exact ih148 (w42) xi38 _ _ _ (by first | exact ms_up hm_148 aw42 h_v9_148.2 | exact ms_lt hm_148 (by omega) (by omega) | omega) (by first | exact rg_up aw42 h_v9_148 (by omega) | omega)  ok hP ez39 kp40 kp41 hS (lv_sub hl [0, 1, 2, 3, 4, 5, 6, 7, 8, 9] rfl)
              · have f29 : ¬ rb (0 : Int32) v9_148 = 1 := f29
                refine lv_if_eq (tgt := 191) hx hb dX12_hadOn_164 (by decide) (fun _ => ?_) (fun c => absurd (by decide) c)
                refine lv_iinc (v := (v9_148 + 1)) (lv' := [(9, .int (v9_148 + 1)), (8, .int 0), (7, .int 0), (6, .int r5), (5, .int y4), (0, .ref (ad 0)), (1, .int vr), (2, .int 2), (3, .int vh), (4, .int vp)]) hx hb dX12_hadOn_191 hl (k := 0) rfl rfl (by decide) rfl (fun ls hl => ?_)
                refine loc_gen (P := fun w9 => lv_has ls 10 [(9, .int w9), (8, .int 0), (7, .int 0), (6, .int r5), (5, .int y4), (0, .ref (ad 0)), (1, .int vr), (2, .int 2), (3, .int vh), (4, .int vp)]) (v9_148 + 1) hl (fun w43 hw43 hl => ?_)
                have hl : lv_has ls 10 [(9, .int w43), (8, .int 0), (7, .int 0), (6, .int r5), (5, .int y4), (0, .ref (ad 0)), (1, .int vr), (2, .int 2), (3, .int vh), (4, .int vp)] := hl
                have aw43 : w43.toInt = v9_148.toInt + 1 := by rw [← hw43]; first | exact va1 (Int.lt_of_le_of_lt h_v9_148.2 (by decide)) | exact va1 (by omega)
                refine lv_goto (tgt := 148) hx hb dX12_hadOn_194 (by decide) ?_
                exact ih148 (w43) nu148_ _ _ _ (by first | exact ms_up hm_148 aw43 h_v9_148.2 | exact ms_lt hm_148 (by omega) (by omega) | omega) (by first | exact rg_up aw43 h_v9_148 (by omega) | omega)  ok hP ek148_0 kq148_0 kq148_1 hS (lv_sub hl [0, 1, 2, 3, 4, 5, 6, 7, 8, 9] rfl)
        exact loop148 ((7 + 1 - (0 : Int32).toInt).toNat + 1) (0) mu _ _ _ (Nat.lt_succ_self _) (by have h80 : (0 : Int32).toInt = 0 := rfl; exact ⟨by omega, by omega⟩)  ok hP ey1 (fun _ _ _ => rfl) (fun _ _ _ => rfl) hS hl
      · have c_26 : ¬ y25.toInt = 3 := il_ne c_26
        refine lv_iconst (v := 1) hx hb dX12_hadOn_117 (by decide) ?_
        refine lv_goto (tgt := 122) hx hb dX12_hadOn_118 (by decide) ?_
        refine lv_istore (lv' := [(7, .int 1), (6, .int r5), (5, .int y4), (0, .ref (ad 0)), (1, .int vr), (2, .int 2), (3, .int vh), (4, .int vp)]) hx hb dX12_hadOn_122 hl (by decide) rfl (fun ls hl => ?_)
        refine lv_iload hx hb dX12_hadOn_124 (lv_at hl 0 rfl) ?_
        refine lv_if_eq (tgt := 142) hx hb dX12_hadOn_126 (by decide) (fun c => absurd c (by decide)) (fun _ => ?_)
        refine lv_aload_n hx hb dX12_hadOn_129 rfl (lv_at hl 3 rfl) ?_
        refine lv_iload hx hb dX12_hadOn_130 (lv_at hl 2 rfl) ?_
        refine cr_i (va_runV (As := [.int y4]) (rest := []) ⟨hx, hb, hml, hown, hts⟩ (sm_besideOf l dC dI cs ad mu ok s.heap hP y4) (cwV 1 hts (wU_V mw_6_56 mw_6_53 mw_6_55 mw_0_40 mw_1_13) rfl rfl rfl (by decide +kernel) ⟨Nat.le_of_ble_eq_true rfl, Nat.le_of_ble_eq_true rfl⟩) ⟨sz_c, va_recv hK hP (ci := 12) (q0 := 0) rfl (gM_0 cs ad mu), sz_m hK hz⟩ rfl rfl hl.1 rfl (lv_room (Nat.le_of_ble_eq_true rfl)) dX12_hadOn_132 ⟨Nat.zero_le _, Nat.zero_le _⟩) hS (fun r44 hw44 locs hS => ?_)
        obtain ⟨hfe44, hw44⟩ := hw44
        refine lv_iload_n hx hb dX12_hadOn_135 rfl (lv_at hl 6 rfl) ?_
        refine lv_iconst (v := (-1)) hx hb dX12_hadOn_136 (by decide) ?_
        refine lv_ixor hx hb dX12_hadOn_137 ?_
        refine lv_topi (fun t45 et45 => ?_)
        refine lv_iand hx hb dX12_hadOn_138 ?_
        refine lv_topi (fun t46 et46 => ?_)
        refine lv_goto (tgt := 143) hx hb dX12_hadOn_139 (by decide) ?_
        refine lv_istore (lv' := [(8, .int t46), (7, .int 1), (6, .int r5), (5, .int y4), (0, .ref (ad 0)), (1, .int vr), (2, .int 2), (3, .int vh), (4, .int vp)]) hx hb dX12_hadOn_143 hl (by decide) rfl (fun ls hl => ?_)
        refine lv_iconst (v := 0) hx hb dX12_hadOn_145 (by decide) ?_
        refine lv_istore (lv' := [(9, .int 0), (8, .int t46), (7, .int 1), (6, .int r5), (5, .int y4), (0, .ref (ad 0)), (1, .int vr), (2, .int 2), (3, .int vh), (4, .int vp)]) hx hb dX12_hadOn_146 hl (by decide) rfl (fun ls hl => ?_)
        have loop148 : ∀ (n148 : Nat) (v9_148 : Int32) (nu148_ : Nat → Nat → Int32) (H : Heap) (locs : List Loc) (ls : Array Slot), (7 + 1 - v9_148.toInt).toNat < n148 → (0 ≤ v9_148.toInt ∧ v9_148.toInt ≤ 7) → okR loM hiM nu148_ → va_P (dC, dI) vwCl (wR 21 ad (EM cs ad) nu148_) H → y1 = nu148_ 2 vr.toNatClampNeg → (∀ k : Nat, 2 ≤ k → k < 3 → nu148_ k = mu k) → (∀ k f : Nat, Nat.testBit 510 (gpM k f) = true → nu148_ k f = mu k f) → va_S (va_A (wR 21 ad (EM cs ad) mu) s.heap.size) s.heap H locs → lv_has ls 10 [(9, .int v9_148), (8, .int t46), (7, .int 1), (6, .int r5), (5, .int y4), (0, .ref (ad 0)), (1, .int vr), (2, .int 2), (3, .int vh), (4, .int vp)] → W p l e (headSpec (wU yX12_hadOn cX12_hadOn 10 none) ({ frames := 6, cells := 0, slots := 0, locals := 168 })).room s m ([.ref (ad 0), .int vr, .int 2, .int vh, .int vp] : List Value).toArray below meth c H locs 0 0 (MQ below (va_Qv (fun (xi : Nat → Nat → Int32) => okR loM hiM xi ∧ (True) ∧ (∀ k : Nat, 2 ≤ k → k < 3 → xi k = mu k) ∧ (∀ k f : Nat, Nat.testBit 510 (gpM k f) = true → xi k f = mu k f)) (fun xi t => va_P (dC, dI) vwCl (wR 21 ad (EM cs ad) xi) t.heap) (va_A (wR 21 ad (EM cs ad) mu) s.heap.size)) ([.ref (ad 0), .int vr, .int 2, .int vh, .int vp] : List Value).toArray s 0 0 (va_A (wR 21 ad (EM cs ad) mu) s.heap.size)) (F0 m 148 ls []) := by
          intro n148
          induction n148 with
          | zero => intro v9_148 nu148_ H locs ls hm; exact absurd hm (Nat.not_lt_zero _)
          | succ n148 ih148 =>
            intro v9_148 nu148_ H locs ls hm_148 h_v9_148 ok hP ek148_0 kq148_0 kq148_1 hS hl
            refine lv_iload hx hb dX12_hadOn_148 (lv_at hl 0 rfl) ?_
            refine lv_aload_n hx hb dX12_hadOn_150 rfl (lv_at hl 5 rfl) ?_
            refine va_get (D := (dC, dI)) (ci := 12) (v := .int (nu148_ 0 8)) (C := RX12) (T := TX12) (N := 46) hx hb hts inG12 hown hK hP 0 (gM_0 cs ad nu148_) rfl 8 (by decide) (hts _ (List.mem_cons_of_mem _ mw_5_49)) (fun _ h9 => h9) rfl dX12_hadOn_151 ?_
            refine lv_topi (fun y47 ey47 => ?_)
            have by47 : y47.toInt = (nu148_ 0 8).toInt := congrArg Int32.toInt ey47
            have gy47 : 0 ≤ y47.toInt ∧ y47.toInt ≤ 7 := by rw [ey47]; exact rM_0_8 ok
            refine lv_icmp_ge (tgt := 197) hx hb dX12_hadOn_154 (by decide) (fun c_48 => ?_) (fun c_48 => ?_)
            · have c_48 : y47.toInt ≤ v9_148.toInt := il_le c_48
              exact W.vret hx hb hr (fun t ht hW => ⟨⟨nu148_, rfl, ⟨ok, trivial, kq148_0, kq148_1⟩, by first | (subst ht; exact hP) | (rw [ht]; exact hP) | (show va_P (dC, dI) vwCl (wR 21 ad (EM cs ad) nu148_) t.heap; rw [ht]; exact hP)⟩, hS.F ht⟩) hS.2.2 dX12_hadOn_197
            · have c_48 : v9_148.toInt < y47.toInt := il_nle c_48
              refine lv_iload hx hb dX12_hadOn_157 (lv_at hl 1 rfl) ?_
              refine lv_iload hx hb dX12_hadOn_159 (lv_at hl 0 rfl) ?_
              refine cr_i (va_runS (As := [.int t46, .int v9_148]) (rest := []) ⟨hx, hb, hml, hown, hts⟩ (sm_has l dC dI (tyM cs) H t46 v9_148) (va_cwS 2 hts (wU_S mw_6_59 mw_6_57 mw_6_58 mw_1_13) rfl rfl rfl (by decide +kernel) ⟨Nat.le_of_ble_eq_true rfl, Nat.le_of_ble_eq_true rfl⟩) ⟨sz_c, sz_m hK hz⟩ rfl rfl hl.1 rfl (lv_room (Nat.le_of_ble_eq_true rfl)) dX12_hadOn_161 ⟨Nat.zero_le _, Nat.zero_le _⟩) hS (fun r49 hw49 locs hS => ?_)
              obtain ⟨hfe49, hw49⟩ := hw49
              rcases hw49 with ⟨rfl, f49⟩ | ⟨rfl, f49⟩
              · have f49 : rb t46 v9_148 = 1 := f49
                refine lv_if_eq (tgt := 191) hx hb dX12_hadOn_164 (by decide) (fun c => absurd c (by decide)) (fun _ => ?_)
                refine lv_aload_n hx hb dX12_hadOn_167 rfl (lv_at hl 5 rfl) ?_
                refine va_get (D := (dC, dI)) (ci := 12) (v := .ref (ad 16)) (C := RX12) (T := TX12) (N := 46) hx hb hts inG12 hown hK hP 0 (gM_0 cs ad nu148_) rfl 26 (by decide) (hts _ (List.mem_cons_of_mem _ mw_5_67)) (fun _ h9 => h9) rfl dX12_hadOn_168 ?_
                refine lv_iload_n hx hb dX12_hadOn_171 rfl (lv_at hl 7 rfl) ?_
                refine lv_iload hx hb dX12_hadOn_172 (lv_at hl 0 rfl) ?_
                refine va_iast hx hb hK hP (wR_D nu148_ hD) hS 16 0 (gM_16 cs ad nu148_) rfl (show vp_in 2 7 from (by unfold vp_in; decide)) dX12_hadOn_174 (fun H locs hP _ hS => ?_)
                refine wr_gen (upd (nu148_ 16) (2 : Int32).toNatClampNeg v9_148) hP (rfl) (fun nu50 hn50 hP => ?_)
                have ok := tM_16_s ok (2 : Int32).toNatClampNeg hn50 (by omega)
                have ez51 : y1 = nu50 2 vr.toNatClampNeg := ek148_0.trans (congrFun (up_k hn50 (by decide)) vr.toNatClampNeg).symm
                have ez52 : y47 = nu50 0 8 := ey47.trans (congrFun (up_k hn50 (by decide)) 8).symm
                have kp53 : ∀ k : Nat, 2 ≤ k → k < 3 → nu50 k = mu k := fun k h1 h2 => (up_k hn50 (ne_hi (by decide) h2).symm).trans (kq148_0 k h1 h2)
                have kp54 : (∀ k f : Nat, Nat.testBit 510 (gpM k f) = true → nu50 k f = mu k f) := kp_c 0 hn50 (fun _ => rfl) (by decide) kq148_1
                refine lv_aload_n hx hb dX12_hadOn_175 rfl (lv_at hl 5 rfl) ?_
                refine lv_iload_n hx hb dX12_hadOn_176 rfl (lv_at hl 6 rfl) ?_
                refine lv_iload_n hx hb dX12_hadOn_177 rfl (lv_at hl 7 rfl) ?_
                refine lv_iconst (v := 1) hx hb dX12_hadOn_178 (by decide) ?_
                refine lv_iadd hx hb dX12_hadOn_179 ?_
                refine lq_i 3 (by decide) ?_
                refine lv_iload_n hx hb dX12_hadOn_180 rfl (lv_at hl 8 rfl) ?_
                refine lv_iconst (v := 1) hx hb dX12_hadOn_181 (by decide) ?_
                refine lv_iload hx hb dX12_hadOn_182 (lv_at hl 0 rfl) ?_
                refine lv_ishl hx hb dX12_hadOn_184 ?_
                refine lv_topi (fun t55 et55 => ?_)
                refine lv_ior hx hb dX12_hadOn_185 ?_
                refine lv_topi (fun t56 et56 => ?_)
                refine lv_iload hx hb dX12_hadOn_186 (lv_at hl 3 rfl) ?_
                have hFc := fr_all (wR_D nu50 hD) hS hA
                refine va_callv (va_runV (As := [.int vr, .int 3, .int t56, .int r5]) (rest := []) ⟨hx, hb, hml, hown, hts⟩ (sm_hadOn3 l dC dI cs ad nu50 ok H hP ((wR_D nu50 hD).weaken (fun _ _ _ _ => trivial)) vr t56 r5 (by have h51 : (3 : Int32).toInt = 3 := rfl; omega) (by have h51 : (3 : Int32).toInt = 3 := rfl; have hb57 := congrArg Int32.toInt ez51; omega)) (cwV 4 hts (wU_V mw_7_24 mw_7_21 mw_7_23 mw_0_62 mw_1_13) rfl rfl rfl (by decide +kernel) ⟨Nat.le_of_ble_eq_true rfl, Nat.le_of_ble_eq_true rfl⟩) ⟨sz_c, va_recv hK hP (ci := 12) (q0 := 0) rfl (gM_0 cs ad nu50), sz_m hK hz⟩ rfl rfl hl.1 rfl (lv_room (Nat.le_of_ble_eq_true rfl)) dX12_hadOn_188 ⟨Nat.zero_le _, Nat.zero_le _⟩) hS (fun q _ h => hFc q h) hFc (fun xi58 t H58 locs ht hvm hw58 hB hz1 hk1 hS => ?_)
                have hP : va_P (dC, dI) vwCl (wR 21 ad (EM cs ad) xi58) H58 := by rw [← ht]; exact hB
                obtain ⟨ok, hw58, hkp58_0, hkp58_1⟩ := hw58
                have ez59 : y1 = xi58 2 vr.toNatClampNeg := ez51.trans (congrFun (hkp58_0 2 (by decide) (by decide)) vr.toNatClampNeg).symm
                have kp60 : ∀ k : Nat, 2 ≤ k → k < 3 → xi58 k = mu k := fun k h1 h2 => (hkp58_0 k (Nat.le_trans (by decide) h1) (Nat.lt_of_lt_of_le h2 (by decide))).trans (kp53 k h1 h2)
                have kp61 : (∀ k f : Nat, Nat.testBit 510 (gpM k f) = true → xi58 k f = mu k f) := kp_t hkp58_1 (by decide) kp54
                refine lv_iinc (v := (v9_148 + 1)) (lv' := [(9, .int (v9_148 + 1)), (8, .int t46), (7, .int 1), (6, .int r5), (5, .int y4), (0, .ref (ad 0)), (1, .int vr), (2, .int 2), (3, .int vh), (4, .int vp)]) hx hb dX12_hadOn_191 hl (k := 0) rfl rfl (by decide) rfl (fun ls hl => ?_)
                refine loc_gen (P := fun w9 => lv_has ls 10 [(9, .int w9), (8, .int t46), (7, .int 1), (6, .int r5), (5, .int y4), (0, .ref (ad 0)), (1, .int vr), (2, .int 2), (3, .int vh), (4, .int vp)]) (v9_148 + 1) hl (fun w62 hw62 hl => ?_)
                have hl : lv_has ls 10 [(9, .int w62), (8, .int t46), (7, .int 1), (6, .int r5), (5, .int y4), (0, .ref (ad 0)), (1, .int vr), (2, .int 2), (3, .int vh), (4, .int vp)] := hl
                have aw62 : w62.toInt = v9_148.toInt + 1 := by rw [← hw62]; first | exact va1 (Int.lt_of_le_of_lt h_v9_148.2 (by decide)) | exact va1 (by omega)
                refine lv_goto (tgt := 148) hx hb dX12_hadOn_194 (by decide) ?_
                exact ih148 (w62) xi58 _ _ _ (by first | exact ms_up hm_148 aw62 h_v9_148.2 | exact ms_lt hm_148 (by omega) (by omega) | omega) (by first | exact rg_up aw62 h_v9_148 (by omega) | omega)  ok hP ez59 kp60 kp61 hS (lv_sub hl [0, 1, 2, 3, 4, 5, 6, 7, 8, 9] rfl)
              · have f49 : ¬ rb t46 v9_148 = 1 := f49
                refine lv_if_eq (tgt := 191) hx hb dX12_hadOn_164 (by decide) (fun _ => ?_) (fun c => absurd (by decide) c)
                refine lv_iinc (v := (v9_148 + 1)) (lv' := [(9, .int (v9_148 + 1)), (8, .int t46), (7, .int 1), (6, .int r5), (5, .int y4), (0, .ref (ad 0)), (1, .int vr), (2, .int 2), (3, .int vh), (4, .int vp)]) hx hb dX12_hadOn_191 hl (k := 0) rfl rfl (by decide) rfl (fun ls hl => ?_)
                refine loc_gen (P := fun w9 => lv_has ls 10 [(9, .int w9), (8, .int t46), (7, .int 1), (6, .int r5), (5, .int y4), (0, .ref (ad 0)), (1, .int vr), (2, .int 2), (3, .int vh), (4, .int vp)]) (v9_148 + 1) hl (fun w63 hw63 hl => ?_)
                have hl : lv_has ls 10 [(9, .int w63), (8, .int t46), (7, .int 1), (6, .int r5), (5, .int y4), (0, .ref (ad 0)), (1, .int vr), (2, .int 2), (3, .int vh), (4, .int vp)] := hl
                have aw63 : w63.toInt = v9_148.toInt + 1 := by rw [← hw63]; first | exact va1 (Int.lt_of_le_of_lt h_v9_148.2 (by decide)) | exact va1 (by omega)
                refine lv_goto (tgt := 148) hx hb dX12_hadOn_194 (by decide) ?_
                exact ih148 (w63) nu148_ _ _ _ (by first | exact ms_up hm_148 aw63 h_v9_148.2 | exact ms_lt hm_148 (by omega) (by omega) | omega) (by first | exact rg_up aw63 h_v9_148 (by omega) | omega)  ok hP ek148_0 kq148_0 kq148_1 hS (lv_sub hl [0, 1, 2, 3, 4, 5, 6, 7, 8, 9] rfl)
        exact loop148 ((7 + 1 - (0 : Int32).toInt).toNat + 1) (0) mu _ _ _ (Nat.lt_succ_self _) (by have h80 : (0 : Int32).toInt = 0 := rfl; exact ⟨by omega, by omega⟩)  ok hP ey1 (fun _ _ _ => rfl) (fun _ _ _ => rfl) hS hl
  · have c_3 : 2 = t2.toInt := il_eq c_3
    refine lv_aload_n hx hb dX12_hadOn_12 rfl (lv_at hl 0 rfl) ?_
    refine va_get (D := (dC, dI)) (ci := 12) (v := .int (mu 0 42)) (C := RX12) (T := TX12) (N := 46) hx hb hts inG12 hown hK hP 0 (gM_0 cs ad mu) rfl 42 (by decide) (hts _ (List.mem_cons_of_mem _ mw_5_83)) (fun _ h9 => h9) rfl dX12_hadOn_13 ?_
    refine lv_topi (fun y64 ey64 => ?_)
    have by64 : y64.toInt = (mu 0 42).toInt := congrArg Int32.toInt ey64
    refine lv_if_ne (tgt := 28) hx hb dX12_hadOn_16 (by decide) (fun c_65 => ?_) (fun c_65 => ?_)
    · have c_65 : ¬ y64.toInt = 0 := il_ne c_65
      refine lv_aload_n hx hb dX12_hadOn_28 rfl (lv_at hl 0 rfl) ?_
      refine lv_dup hx hb dX12_hadOn_29 rfl ?_
      refine va_get (D := (dC, dI)) (ci := 12) (v := .int (mu 0 42)) (C := RX12) (T := TX12) (N := 46) hx hb hts inG12 hown hK hP 0 (gM_0 cs ad mu) rfl 42 (by decide) (hts _ (List.mem_cons_of_mem _ mw_5_83)) (fun _ h9 => h9) rfl dX12_hadOn_30 ?_
      refine lq_i y64 ey64.symm ?_
      refine lv_iconst (v := 1) hx hb dX12_hadOn_33 (by decide) ?_
      refine lv_iadd hx hb dX12_hadOn_34 ?_
      refine lv_topi (fun t66 et66 => ?_)
      refine va_put (D := (dC, dI)) (ci := 12) (v := .int t66) (ty := .int) (C := RX12) (T := TX12) (N := 46) hx hb hts inG12 tyX12 tyX12_ok nmX12 hown hK hP (wR_D mu hD) hS 0 (gM_0 cs ad mu) rfl 42 (by decide) (hts _ (List.mem_cons_of_mem _ mw_5_83)) (fun _ h9 => h9) rfl (by decide +kernel) rfl rfl (Nat.le_of_ble_eq_true rfl) dX12_hadOn_35 (fun H locs hP _ hS => ?_)
      simp only [List.set_cons_succ, List.set_cons_zero] at hP
      refine wr_gen (upd (mu 0) 42 t66) hP ((hM_0_42 cs ad _ _)) (fun nu67 hn67 hP => ?_)
      have ok := tM_0_42 ok hn67
      have ez68 : y1 = nu67 2 vr.toNatClampNeg := ey1.trans (congrFun (up_k hn67 (by decide)) vr.toNatClampNeg).symm
      have kp69 : ∀ k : Nat, 2 ≤ k → k < 3 → nu67 k = mu k := fun k h1 h2 => (up_k hn67 (ne_lo (by decide) h1).symm).trans ((fun _ _ _ => rfl) k h1 h2)
      have kp70 : (∀ k f : Nat, Nat.testBit 510 (gpM k f) = true → nu67 k f = mu k f) := kp_f hn67 (by decide) (fun _ _ _ => rfl)
      have ez71 : t66 = nu67 0 42 := up_v hn67
      refine lv_aload_n hx hb dX12_hadOn_38 rfl (lv_at hl 0 rfl) ?_
      refine lv_dup hx hb dX12_hadOn_39 rfl ?_
      refine va_get (D := (dC, dI)) (ci := 12) (v := .int (nu67 0 43)) (C := RX12) (T := TX12) (N := 46) hx hb hts inG12 hown hK hP 0 (gM_0 cs ad nu67) rfl 43 (by decide) (hts _ (List.mem_cons_of_mem _ mw_5_84)) (fun _ h9 => h9) rfl dX12_hadOn_40 ?_
      refine lv_topi (fun y72 ey72 => ?_)
      have by72 : y72.toInt = (nu67 0 43).toInt := congrArg Int32.toInt ey72
      refine lv_iconst (v := 1) hx hb dX12_hadOn_43 (by decide) ?_
      refine lv_aload_n hx hb dX12_hadOn_44 rfl (lv_at hl 0 rfl) ?_
      refine va_get (D := (dC, dI)) (ci := 12) (v := .ref (ad 16)) (C := RX12) (T := TX12) (N := 46) hx hb hts inG12 hown hK hP 0 (gM_0 cs ad nu67) rfl 26 (by decide) (hts _ (List.mem_cons_of_mem _ mw_5_67)) (fun _ h9 => h9) rfl dX12_hadOn_45 ?_
      refine lv_iload_n hx hb dX12_hadOn_48 rfl (lv_at hl 2 rfl) ?_
      refine lv_iconst (v := 1) hx hb dX12_hadOn_49 (by decide) ?_
      refine lv_isub hx hb dX12_hadOn_50 ?_
      refine lq_i 1 (by decide) ?_
      refine va_iald hx hb hK hP 16 0 (gM_16 cs ad nu67) rfl (show vp_in 1 7 from (by unfold vp_in; decide)) dX12_hadOn_51 ?_
      refine lv_topi (fun y73 ey73 => ?_)
      have by73 : y73.toInt = (nu67 16 (1 : Int32).toNatClampNeg).toInt := congrArg Int32.toInt ey73
      have gy73 : 0 ≤ y73.toInt ∧ y73.toInt ≤ 6 := by rw [ey73]; exact rM_16_s ok (1 : Int32).toNatClampNeg
      refine lv_ishl hx hb dX12_hadOn_52 ?_
      refine lv_topi (fun t74 et74 => ?_)
      refine lv_ior hx hb dX12_hadOn_53 ?_
      refine lv_topi (fun t75 et75 => ?_)
      refine va_put (D := (dC, dI)) (ci := 12) (v := .int t75) (ty := .int) (C := RX12) (T := TX12) (N := 46) hx hb hts inG12 tyX12 tyX12_ok nmX12 hown hK hP (wR_D nu67 hD) hS 0 (gM_0 cs ad nu67) rfl 43 (by decide) (hts _ (List.mem_cons_of_mem _ mw_5_84)) (fun _ h9 => h9) rfl (by decide +kernel) rfl rfl (Nat.le_of_ble_eq_true rfl) dX12_hadOn_54 (fun H locs hP _ hS => ?_)
      simp only [List.set_cons_succ, List.set_cons_zero] at hP
      refine wr_gen (upd (nu67 0) 43 t75) hP ((hM_0_43 cs ad _ _)) (fun nu76 hn76 hP => ?_)
      have ok := tM_0_43 ok hn76
      have ez77 : y1 = nu76 2 vr.toNatClampNeg := ez68.trans (congrFun (up_k hn76 (by decide)) vr.toNatClampNeg).symm
      have ez78 : t66 = nu76 0 42 := ez71.trans (up_f hn76 (by decide)).symm
      have ez79 : y73 = nu76 16 (1 : Int32).toNatClampNeg := ey73.trans (congrFun (up_k hn76 (by decide)) (1 : Int32).toNatClampNeg).symm
      have kp80 : ∀ k : Nat, 2 ≤ k → k < 3 → nu76 k = mu k := fun k h1 h2 => (up_k hn76 (ne_lo (by decide) h1).symm).trans (kp69 k h1 h2)
      have kp81 : (∀ k f : Nat, Nat.testBit 510 (gpM k f) = true → nu76 k f = mu k f) := kp_f hn76 (by decide) kp70
      have ez82 : t75 = nu76 0 43 := up_v hn76
      refine lv_aload_n hx hb dX12_hadOn_57 rfl (lv_at hl 0 rfl) ?_
      refine lv_dup hx hb dX12_hadOn_58 rfl ?_
      refine va_get (D := (dC, dI)) (ci := 12) (v := .int (nu76 0 44)) (C := RX12) (T := TX12) (N := 46) hx hb hts inG12 hown hK hP 0 (gM_0 cs ad nu76) rfl 44 (by decide) (hts _ (List.mem_cons_of_mem _ mw_5_85)) (fun _ h9 => h9) rfl dX12_hadOn_59 ?_
      refine lv_topi (fun y83 ey83 => ?_)
      have by83 : y83.toInt = (nu76 0 44).toInt := congrArg Int32.toInt ey83
      refine lv_iload_n hx hb dX12_hadOn_62 rfl (lv_at hl 3 rfl) ?_
      refine lv_iand hx hb dX12_hadOn_63 ?_
      refine lv_topi (fun t84 et84 => ?_)
      refine va_put (D := (dC, dI)) (ci := 12) (v := .int t84) (ty := .int) (C := RX12) (T := TX12) (N := 46) hx hb hts inG12 tyX12 tyX12_ok nmX12 hown hK hP (wR_D nu76 hD) hS 0 (gM_0 cs ad nu76) rfl 44 (by decide) (hts _ (List.mem_cons_of_mem _ mw_5_85)) (fun _ h9 => h9) rfl (by decide +kernel) rfl rfl (Nat.le_of_ble_eq_true rfl) dX12_hadOn_64 (fun H locs hP _ hS => ?_)
      simp only [List.set_cons_succ, List.set_cons_zero] at hP
      refine wr_gen (upd (nu76 0) 44 t84) hP ((hM_0_44 cs ad _ _)) (fun nu85 hn85 hP => ?_)
      have ok := tM_0_44 ok hn85
      have ez86 : y1 = nu85 2 vr.toNatClampNeg := ez77.trans (congrFun (up_k hn85 (by decide)) vr.toNatClampNeg).symm
      have ez87 : t66 = nu85 0 42 := ez78.trans (up_f hn85 (by decide)).symm
      have ez88 : y73 = nu85 16 (1 : Int32).toNatClampNeg := ez79.trans (congrFun (up_k hn85 (by decide)) (1 : Int32).toNatClampNeg).symm
      have ez89 : t75 = nu85 0 43 := ez82.trans (up_f hn85 (by decide)).symm
      have kp90 : ∀ k : Nat, 2 ≤ k → k < 3 → nu85 k = mu k := fun k h1 h2 => (up_k hn85 (ne_lo (by decide) h1).symm).trans (kp80 k h1 h2)
      have kp91 : (∀ k f : Nat, Nat.testBit 510 (gpM k f) = true → nu85 k f = mu k f) := kp_f hn85 (by decide) kp81
      have ez92 : t84 = nu85 0 44 := up_v hn85
      exact W.vret hx hb hr (fun t ht hW => ⟨⟨nu85, rfl, ⟨ok, trivial, kp90, kp91⟩, by first | (subst ht; exact hP) | (rw [ht]; exact hP) | (show va_P (dC, dI) vwCl (wR 21 ad (EM cs ad) nu85) t.heap; rw [ht]; exact hP)⟩, hS.F ht⟩) hS.2.2 dX12_hadOn_67
    · have c_65 : y64.toInt = 0 := il_eq c_65
      refine lv_aload_n hx hb dX12_hadOn_19 rfl (lv_at hl 0 rfl) ?_
      refine lv_aload_n hx hb dX12_hadOn_20 rfl (lv_at hl 0 rfl) ?_
      refine va_get (D := (dC, dI)) (ci := 12) (v := .ref (ad 17)) (C := RX12) (T := TX12) (N := 46) hx hb hts inG12 hown hK hP 0 (gM_0 cs ad mu) rfl 27 (by decide) (hts _ (List.mem_cons_of_mem _ mw_5_68)) (fun _ h9 => h9) rfl dX12_hadOn_21 ?_
      refine lv_iload_n hx hb dX12_hadOn_24 rfl (lv_at hl 2 rfl) ?_
      have hFc := fr_all (wR_D mu hD) hS hA
      refine va_callv (va_runV (As := [.ref (ad 17), .int 2]) (rest := []) ⟨hx, hb, hml, hown, hts⟩ (sm_copyRoute17 l dC dI cs ad mu ok s.heap hP ((wR_D mu hD).weaken (fun _ _ _ _ => trivial)) 2 (by have h51 : (2 : Int32).toInt = 2 := rfl; omega)) (cwV 2 hts (wU_V mw_6_191 mw_6_188 mw_6_190 mw_0_57 mw_1_13) rfl rfl rfl (by decide +kernel) ⟨Nat.le_of_ble_eq_true rfl, Nat.le_of_ble_eq_true rfl⟩) ⟨sz_c, va_recv hK hP (ci := 12) (q0 := 0) rfl (gM_0 cs ad mu), sz_m hK hz⟩ rfl rfl hl.1 rfl (lv_room (Nat.le_of_ble_eq_true rfl)) dX12_hadOn_25 ⟨Nat.zero_le _, Nat.zero_le _⟩) hS (fun q _ h => hFc q h) hFc (fun xi93 t H93 locs ht hvm hw93 hB hz1 hk1 hS => ?_)
      have hP : va_P (dC, dI) vwCl (wR 21 ad (EM cs ad) xi93) H93 := by rw [← ht]; exact hB
      obtain ⟨hfe93, ok, hw93, hkp93_0, hkp93_1⟩ := hw93
      have ez94 : y1 = xi93 2 vr.toNatClampNeg := ey1.trans (congrFun (hkp93_0 2 (by decide) (by decide)) vr.toNatClampNeg).symm
      have ez95 : y64 = xi93 0 42 := ey64.trans (congrFun (hkp93_0 0 (by decide) (by decide)) 42).symm
      have kp96 : ∀ k : Nat, 2 ≤ k → k < 3 → xi93 k = mu k := fun k h1 h2 => (hkp93_0 k (Nat.le_trans (by decide) h1) (Nat.lt_of_lt_of_le h2 (by decide))).trans ((fun _ _ _ => rfl) k h1 h2)
      have kp97 : (∀ k f : Nat, Nat.testBit 510 (gpM k f) = true → xi93 k f = mu k f) := kp_t hkp93_1 (by decide) (fun _ _ _ => rfl)
      refine lv_aload_n hx hb dX12_hadOn_28 rfl (lv_at hl 0 rfl) ?_
      refine lv_dup hx hb dX12_hadOn_29 rfl ?_
      refine va_get (D := (dC, dI)) (ci := 12) (v := .int (xi93 0 42)) (C := RX12) (T := TX12) (N := 46) hx hb hts inG12 hown hK hP 0 (gM_0 cs ad xi93) rfl 42 (by decide) (hts _ (List.mem_cons_of_mem _ mw_5_83)) (fun _ h9 => h9) rfl dX12_hadOn_30 ?_
      refine lq_i y64 ez95.symm ?_
      refine lv_iconst (v := 1) hx hb dX12_hadOn_33 (by decide) ?_
      refine lv_iadd hx hb dX12_hadOn_34 ?_
      refine lv_topi (fun t98 et98 => ?_)
      have at98 : t98.toInt = y64.toInt + 1 := by rw [et98]; exact va1 (by omega)
      refine va_put (D := (dC, dI)) (ci := 12) (v := .int t98) (ty := .int) (C := RX12) (T := TX12) (N := 46) hx hb hts inG12 tyX12 tyX12_ok nmX12 hown hK hP (wR_D xi93 hD) hS 0 (gM_0 cs ad xi93) rfl 42 (by decide) (hts _ (List.mem_cons_of_mem _ mw_5_83)) (fun _ h9 => h9) rfl (by decide +kernel) rfl rfl (Nat.le_of_ble_eq_true rfl) dX12_hadOn_35 (fun H locs hP _ hS => ?_)
      simp only [List.set_cons_succ, List.set_cons_zero] at hP
      refine wr_gen (upd (xi93 0) 42 t98) hP ((hM_0_42 cs ad _ _)) (fun nu99 hn99 hP => ?_)
      have ok := tM_0_42 ok hn99
      have ez100 : y1 = nu99 2 vr.toNatClampNeg := ez94.trans (congrFun (up_k hn99 (by decide)) vr.toNatClampNeg).symm
      have kp101 : ∀ k : Nat, 2 ≤ k → k < 3 → nu99 k = mu k := fun k h1 h2 => (up_k hn99 (ne_lo (by decide) h1).symm).trans (kp96 k h1 h2)
      have kp102 : (∀ k f : Nat, Nat.testBit 510 (gpM k f) = true → nu99 k f = mu k f) := kp_f hn99 (by decide) kp97
      have ez103 : t98 = nu99 0 42 := up_v hn99
      refine lv_aload_n hx hb dX12_hadOn_38 rfl (lv_at hl 0 rfl) ?_
      refine lv_dup hx hb dX12_hadOn_39 rfl ?_
      refine va_get (D := (dC, dI)) (ci := 12) (v := .int (nu99 0 43)) (C := RX12) (T := TX12) (N := 46) hx hb hts inG12 hown hK hP 0 (gM_0 cs ad nu99) rfl 43 (by decide) (hts _ (List.mem_cons_of_mem _ mw_5_84)) (fun _ h9 => h9) rfl dX12_hadOn_40 ?_
      refine lv_topi (fun y104 ey104 => ?_)
      have by104 : y104.toInt = (nu99 0 43).toInt := congrArg Int32.toInt ey104
      refine lv_iconst (v := 1) hx hb dX12_hadOn_43 (by decide) ?_
      refine lv_aload_n hx hb dX12_hadOn_44 rfl (lv_at hl 0 rfl) ?_
      refine va_get (D := (dC, dI)) (ci := 12) (v := .ref (ad 16)) (C := RX12) (T := TX12) (N := 46) hx hb hts inG12 hown hK hP 0 (gM_0 cs ad nu99) rfl 26 (by decide) (hts _ (List.mem_cons_of_mem _ mw_5_67)) (fun _ h9 => h9) rfl dX12_hadOn_45 ?_
      refine lv_iload_n hx hb dX12_hadOn_48 rfl (lv_at hl 2 rfl) ?_
      refine lv_iconst (v := 1) hx hb dX12_hadOn_49 (by decide) ?_
      refine lv_isub hx hb dX12_hadOn_50 ?_
      refine lq_i 1 (by decide) ?_
      refine va_iald hx hb hK hP 16 0 (gM_16 cs ad nu99) rfl (show vp_in 1 7 from (by unfold vp_in; decide)) dX12_hadOn_51 ?_
      refine lv_topi (fun y105 ey105 => ?_)
      have by105 : y105.toInt = (nu99 16 (1 : Int32).toNatClampNeg).toInt := congrArg Int32.toInt ey105
      have gy105 : 0 ≤ y105.toInt ∧ y105.toInt ≤ 6 := by rw [ey105]; exact rM_16_s ok (1 : Int32).toNatClampNeg
      refine lv_ishl hx hb dX12_hadOn_52 ?_
      refine lv_topi (fun t106 et106 => ?_)
      refine lv_ior hx hb dX12_hadOn_53 ?_
      refine lv_topi (fun t107 et107 => ?_)
      refine va_put (D := (dC, dI)) (ci := 12) (v := .int t107) (ty := .int) (C := RX12) (T := TX12) (N := 46) hx hb hts inG12 tyX12 tyX12_ok nmX12 hown hK hP (wR_D nu99 hD) hS 0 (gM_0 cs ad nu99) rfl 43 (by decide) (hts _ (List.mem_cons_of_mem _ mw_5_84)) (fun _ h9 => h9) rfl (by decide +kernel) rfl rfl (Nat.le_of_ble_eq_true rfl) dX12_hadOn_54 (fun H locs hP _ hS => ?_)
      simp only [List.set_cons_succ, List.set_cons_zero] at hP
      refine wr_gen (upd (nu99 0) 43 t107) hP ((hM_0_43 cs ad _ _)) (fun nu108 hn108 hP => ?_)
      have ok := tM_0_43 ok hn108
      have ez109 : y1 = nu108 2 vr.toNatClampNeg := ez100.trans (congrFun (up_k hn108 (by decide)) vr.toNatClampNeg).symm
      have ez110 : t98 = nu108 0 42 := ez103.trans (up_f hn108 (by decide)).symm
      have ez111 : y105 = nu108 16 (1 : Int32).toNatClampNeg := ey105.trans (congrFun (up_k hn108 (by decide)) (1 : Int32).toNatClampNeg).symm
      have kp112 : ∀ k : Nat, 2 ≤ k → k < 3 → nu108 k = mu k := fun k h1 h2 => (up_k hn108 (ne_lo (by decide) h1).symm).trans (kp101 k h1 h2)
      have kp113 : (∀ k f : Nat, Nat.testBit 510 (gpM k f) = true → nu108 k f = mu k f) := kp_f hn108 (by decide) kp102
      have ez114 : t107 = nu108 0 43 := up_v hn108
      refine lv_aload_n hx hb dX12_hadOn_57 rfl (lv_at hl 0 rfl) ?_
      refine lv_dup hx hb dX12_hadOn_58 rfl ?_
      refine va_get (D := (dC, dI)) (ci := 12) (v := .int (nu108 0 44)) (C := RX12) (T := TX12) (N := 46) hx hb hts inG12 hown hK hP 0 (gM_0 cs ad nu108) rfl 44 (by decide) (hts _ (List.mem_cons_of_mem _ mw_5_85)) (fun _ h9 => h9) rfl dX12_hadOn_59 ?_
      refine lv_topi (fun y115 ey115 => ?_)
      have by115 : y115.toInt = (nu108 0 44).toInt := congrArg Int32.toInt ey115
      refine lv_iload_n hx hb dX12_hadOn_62 rfl (lv_at hl 3 rfl) ?_
      refine lv_iand hx hb dX12_hadOn_63 ?_
      refine lv_topi (fun t116 et116 => ?_)
      refine va_put (D := (dC, dI)) (ci := 12) (v := .int t116) (ty := .int) (C := RX12) (T := TX12) (N := 46) hx hb hts inG12 tyX12 tyX12_ok nmX12 hown hK hP (wR_D nu108 hD) hS 0 (gM_0 cs ad nu108) rfl 44 (by decide) (hts _ (List.mem_cons_of_mem _ mw_5_85)) (fun _ h9 => h9) rfl (by decide +kernel) rfl rfl (Nat.le_of_ble_eq_true rfl) dX12_hadOn_64 (fun H locs hP _ hS => ?_)
      simp only [List.set_cons_succ, List.set_cons_zero] at hP
      refine wr_gen (upd (nu108 0) 44 t116) hP ((hM_0_44 cs ad _ _)) (fun nu117 hn117 hP => ?_)
      have ok := tM_0_44 ok hn117
      have ez118 : y1 = nu117 2 vr.toNatClampNeg := ez109.trans (congrFun (up_k hn117 (by decide)) vr.toNatClampNeg).symm
      have ez119 : t98 = nu117 0 42 := ez110.trans (up_f hn117 (by decide)).symm
      have ez120 : y105 = nu117 16 (1 : Int32).toNatClampNeg := ez111.trans (congrFun (up_k hn117 (by decide)) (1 : Int32).toNatClampNeg).symm
      have ez121 : t107 = nu117 0 43 := ez114.trans (up_f hn117 (by decide)).symm
      have kp122 : ∀ k : Nat, 2 ≤ k → k < 3 → nu117 k = mu k := fun k h1 h2 => (up_k hn117 (ne_lo (by decide) h1).symm).trans (kp112 k h1 h2)
      have kp123 : (∀ k f : Nat, Nat.testBit 510 (gpM k f) = true → nu117 k f = mu k f) := kp_f hn117 (by decide) kp113
      have ez124 : t116 = nu117 0 44 := up_v hn117
      exact W.vret hx hb hr (fun t ht hW => ⟨⟨nu117, rfl, ⟨ok, trivial, kp122, kp123⟩, by first | (subst ht; exact hP) | (rw [ht]; exact hP) | (show va_P (dC, dI) vwCl (wR 21 ad (EM cs ad) nu117) t.heap; rw [ht]; exact hP)⟩, hS.F ht⟩) hS.2.2 dX12_hadOn_67
set_option maxHeartbeats 4000000 in
set_option maxRecDepth 100000 in
/-- sm_hadOn1 -/
theorem sm_hadOn1 (l : Launch) (dC : Nat → ClassId) (dI : Nat → Nat → Nat) (cs : Nat → ClassId) (ad : Nat → Nat) (mu : Nat → Nat → Int32) (ok : okR loM hiM mu) (H : Heap) (hP : va_P (dC, dI) vwCl (wR 21 ad (EM cs ad) mu) H) (hD0 : va_D (fun _ => True) (wR 21 ad (EM cs ad) mu)) (vr : Int32) (vh : Int32) (vp : Int32) (hin0 : 0 ≤ vr.toInt ∧ vr.toInt ≤ 5) (hin1 : 1 ≤ (mu 2 vr.toNatClampNeg).toInt + 1 ∧ (mu 2 vr.toNatClampNeg).toInt ≤ 6) : Met l yX12_hadOn (wU yX12_hadOn cX12_hadOn 10 none) ({ frames := 7, cells := 0, slots := 0, locals := 197 }) (va_Pc [.ref (ad 0), .int vr, .int 1, .int vh, .int vp] (sz_P (dC, dI) vwCl (tyM cs) H)) (va_Qv (fun (xi : Nat → Nat → Int32) => okR loM hiM xi ∧ (True) ∧ (∀ k : Nat, 2 ≤ k → k < 3 → xi k = mu k) ∧ (∀ k f : Nat, Nat.testBit 510 (gpM k f) = true → xi k f = mu k f)) (fun xi t => va_P (dC, dI) vwCl (wR 21 ad (EM cs ad) xi) t.heap) (va_A (wR 21 ad (EM cs ad) mu) H.size)) 0 0 (va_A (wR 21 ad (EM cs ad) mu) H.size) := by
  refine Met.ofW (cc := cX12_hadOn) (maxL := 10) (ret := none) (by decide) rfl ?_
  intro p e s m args below meth c s₁ B hml hv
  obtain ⟨rfl, hh, hK, hz⟩ := hv
  have hx := B.exec
  have hb := B.bytes
  have hr := B.returns
  have hts := atoms_spec (ws := (wU yX12_hadOn cX12_hadOn 10 none)) B.pre
  have hown : s.vm.findClass RX12 = some m.cls := findClass_of_methodNamed B.named
  have hlocks := B.notSynchronized
  subst hh
  have hD := hD0.self (sz := s.heap.size)
  have hA : ∀ q : Nat, s.heap.size ≤ q → (va_A (wR 21 ad (EM cs ad) mu) s.heap.size) q := fun q h => Or.inr h
  have hS : va_S (va_A (wR 21 ad (EM cs ad) mu) s.heap.size) s.heap s.heap [] := va_S.rf
  have hl := lv_entry ([.ref (ad 0), .int vr, .int 1, .int vh, .int vp]) (n := 10) (Nat.le_of_ble_eq_true rfl)
  rw [lg_entry_eq]
  generalize (lg_sl ([.ref (ad 0), .int vr, .int 1, .int vh, .int vp]) ++ List.replicate (10 - (lg_sl ([.ref (ad 0), .int vr, .int 1, .int vh, .int vp])).length) Slot.unset).toArray = ls at hl ⊢
  have hl : lv_has ls 10 [(0, .ref (ad 0)), (1, .int vr), (2, .int 1), (3, .int vh), (4, .int vp)] := hl
  refine lv_iload_n hx hb dX12_hadOn_0 rfl (lv_at hl 2 rfl) ?_
  refine lv_aload_n hx hb dX12_hadOn_1 rfl (lv_at hl 0 rfl) ?_
  refine va_get (D := (dC, dI)) (ci := 12) (v := .ref (ad 2)) (C := RX12) (T := TX12) (N := 46) hx hb hts inG12 hown hK hP 0 (gM_0 cs ad mu) rfl 3 (by decide) (hts _ (List.mem_cons_of_mem _ mw_5_44)) (fun _ h9 => h9) rfl dX12_hadOn_2 ?_
  refine lv_iload_n hx hb dX12_hadOn_5 rfl (lv_at hl 1 rfl) ?_
  refine va_iald hx hb hK hP 2 0 (gM_2 cs ad mu) rfl (show vp_in vr 6 from vi_of (by omega) (by omega)) dX12_hadOn_6 ?_
  refine lv_topi (fun y1 ey1 => ?_)
  have by1 : y1.toInt = (mu 2 vr.toNatClampNeg).toInt := congrArg Int32.toInt ey1
  have gy1 : -9 ≤ y1.toInt ∧ y1.toInt ≤ 40 := by rw [ey1]; exact rM_2_s ok vr.toNatClampNeg
  refine lv_iconst (v := 1) hx hb dX12_hadOn_7 (by decide) ?_
  refine lv_iadd hx hb dX12_hadOn_8 ?_
  refine lv_topi (fun t2 et2 => ?_)
  have at2 : t2.toInt = y1.toInt + 1 := by rw [et2]; exact va1 (by omega)
  refine lv_icmp_ne (tgt := 68) hx hb dX12_hadOn_9 (by decide) (fun c_3 => ?_) (fun c_3 => ?_)
  · have c_3 : ¬ 1 = t2.toInt := il_ne c_3
    refine lv_aload_n hx hb dX12_hadOn_68 rfl (lv_at hl 0 rfl) ?_
    refine va_get (D := (dC, dI)) (ci := 12) (v := .ref (ad 16)) (C := RX12) (T := TX12) (N := 46) hx hb hts inG12 hown hK hP 0 (gM_0 cs ad mu) rfl 26 (by decide) (hts _ (List.mem_cons_of_mem _ mw_5_67)) (fun _ h9 => h9) rfl dX12_hadOn_69 ?_
    refine lv_iload_n hx hb dX12_hadOn_72 rfl (lv_at hl 2 rfl) ?_
    refine lv_iconst (v := 1) hx hb dX12_hadOn_73 (by decide) ?_
    refine lv_isub hx hb dX12_hadOn_74 ?_
    refine lq_i 0 (by decide) ?_
    refine va_iald hx hb hK hP 16 0 (gM_16 cs ad mu) rfl (show vp_in 0 7 from (by unfold vp_in; decide)) dX12_hadOn_75 ?_
    refine lv_topi (fun y4 ey4 => ?_)
    have by4 : y4.toInt = (mu 16 (0 : Int32).toNatClampNeg).toInt := congrArg Int32.toInt ey4
    have gy4 : 0 ≤ y4.toInt ∧ y4.toInt ≤ 6 := by rw [ey4]; exact rM_16_s ok (0 : Int32).toNatClampNeg
    refine lv_istore (lv' := [(5, .int y4), (0, .ref (ad 0)), (1, .int vr), (2, .int 1), (3, .int vh), (4, .int vp)]) hx hb dX12_hadOn_76 hl (by decide) rfl (fun ls hl => ?_)
    refine lv_aload_n hx hb dX12_hadOn_78 rfl (lv_at hl 1 rfl) ?_
    refine lv_iload hx hb dX12_hadOn_79 (lv_at hl 0 rfl) ?_
    refine lv_iload hx hb dX12_hadOn_81 (lv_at hl 5 rfl) ?_
    refine cr_i (va_runV (As := [.int y4, .int vp]) (rest := []) ⟨hx, hb, hml, hown, hts⟩ (sm_asksOf l dC dI cs ad mu ok s.heap hP y4 vp (by omega)) (cwV 2 hts (wU_V mw_6_74 mw_6_71 mw_6_73 mw_0_42 mw_1_13) rfl rfl rfl (by decide +kernel) ⟨Nat.le_of_ble_eq_true rfl, Nat.le_of_ble_eq_true rfl⟩) ⟨sz_c, va_recv hK hP (ci := 12) (q0 := 0) rfl (gM_0 cs ad mu), sz_m hK hz⟩ rfl rfl hl.1 rfl (lv_room (Nat.le_of_ble_eq_true rfl)) dX12_hadOn_83 ⟨Nat.zero_le _, Nat.zero_le _⟩) hS (fun r5 hw5 locs hS => ?_)
    obtain ⟨hfe5, hw5⟩ := hw5
    refine lv_istore (lv' := [(6, .int r5), (5, .int y4), (0, .ref (ad 0)), (1, .int vr), (2, .int 1), (3, .int vh), (4, .int vp)]) hx hb dX12_hadOn_86 hl (by decide) rfl (fun ls hl => ?_)
    refine lv_iload hx hb dX12_hadOn_88 (lv_at hl 0 rfl) ?_
    refine lv_aload_n hx hb dX12_hadOn_90 rfl (lv_at hl 2 rfl) ?_
    refine lv_iload_n hx hb dX12_hadOn_91 rfl (lv_at hl 3 rfl) ?_
    refine lv_iload_n hx hb dX12_hadOn_92 rfl (lv_at hl 4 rfl) ?_
    refine lv_iconst (v := 1) hx hb dX12_hadOn_93 (by decide) ?_
    refine lv_isub hx hb dX12_hadOn_94 ?_
    refine lq_i 0 (by decide) ?_
    refine cr_i (va_runV (As := [.int vr, .int 0]) (rest := [.int r5]) ⟨hx, hb, hml, hown, hts⟩ (sm_rowAt l dC dI cs ad mu ok s.heap hP vr 0 (by have h51 : (0 : Int32).toInt = 0 := rfl; omega)) (cwV 2 hts (wU_V mw_5_209 mw_5_206 mw_5_208 mw_0_29 mw_1_13) rfl rfl rfl (by decide +kernel) ⟨Nat.le_of_ble_eq_true rfl, Nat.le_of_ble_eq_true rfl⟩) ⟨sz_c, va_recv hK hP (ci := 12) (q0 := 0) rfl (gM_0 cs ad mu), sz_m hK hz⟩ rfl rfl hl.1 rfl (lv_room (Nat.le_of_ble_eq_true rfl)) dX12_hadOn_95 ⟨Nat.zero_le _, Nat.zero_le _⟩) hS (fun r6 hw6 locs hS => ?_)
    obtain ⟨hfe6, hw6⟩ := hw6
    refine lv_icmp_ne (tgt := 121) hx hb dX12_hadOn_98 (by decide) (fun c_7 => ?_) (fun c_7 => ?_)
    · have c_7 : ¬ r5.toInt = r6.toInt := il_ne c_7
      refine lv_iconst (v := 0) hx hb dX12_hadOn_121 (by decide) ?_
      refine lv_istore (lv' := [(7, .int 0), (6, .int r5), (5, .int y4), (0, .ref (ad 0)), (1, .int vr), (2, .int 1), (3, .int vh), (4, .int vp)]) hx hb dX12_hadOn_122 hl (by decide) rfl (fun ls hl => ?_)
      refine lv_iload hx hb dX12_hadOn_124 (lv_at hl 0 rfl) ?_
      refine lv_if_eq (tgt := 142) hx hb dX12_hadOn_126 (by decide) (fun _ => ?_) (fun c => absurd (by decide) c)
      refine lv_iconst (v := 0) hx hb dX12_hadOn_142 (by decide) ?_
      refine lv_istore (lv' := [(8, .int 0), (7, .int 0), (6, .int r5), (5, .int y4), (0, .ref (ad 0)), (1, .int vr), (2, .int 1), (3, .int vh), (4, .int vp)]) hx hb dX12_hadOn_143 hl (by decide) rfl (fun ls hl => ?_)
      refine lv_iconst (v := 0) hx hb dX12_hadOn_145 (by decide) ?_
      refine lv_istore (lv' := [(9, .int 0), (8, .int 0), (7, .int 0), (6, .int r5), (5, .int y4), (0, .ref (ad 0)), (1, .int vr), (2, .int 1), (3, .int vh), (4, .int vp)]) hx hb dX12_hadOn_146 hl (by decide) rfl (fun ls hl => ?_)
      have loop148 : ∀ (n148 : Nat) (v9_148 : Int32) (nu148_ : Nat → Nat → Int32) (H : Heap) (locs : List Loc) (ls : Array Slot), (7 + 1 - v9_148.toInt).toNat < n148 → (0 ≤ v9_148.toInt ∧ v9_148.toInt ≤ 7) → okR loM hiM nu148_ → va_P (dC, dI) vwCl (wR 21 ad (EM cs ad) nu148_) H → y1 = nu148_ 2 vr.toNatClampNeg → (∀ k : Nat, 2 ≤ k → k < 3 → nu148_ k = mu k) → (∀ k f : Nat, Nat.testBit 510 (gpM k f) = true → nu148_ k f = mu k f) → va_S (va_A (wR 21 ad (EM cs ad) mu) s.heap.size) s.heap H locs → lv_has ls 10 [(9, .int v9_148), (8, .int 0), (7, .int 0), (6, .int r5), (5, .int y4), (0, .ref (ad 0)), (1, .int vr), (2, .int 1), (3, .int vh), (4, .int vp)] → W p l e (headSpec (wU yX12_hadOn cX12_hadOn 10 none) ({ frames := 7, cells := 0, slots := 0, locals := 197 })).room s m ([.ref (ad 0), .int vr, .int 1, .int vh, .int vp] : List Value).toArray below meth c H locs 0 0 (MQ below (va_Qv (fun (xi : Nat → Nat → Int32) => okR loM hiM xi ∧ (True) ∧ (∀ k : Nat, 2 ≤ k → k < 3 → xi k = mu k) ∧ (∀ k f : Nat, Nat.testBit 510 (gpM k f) = true → xi k f = mu k f)) (fun xi t => va_P (dC, dI) vwCl (wR 21 ad (EM cs ad) xi) t.heap) (va_A (wR 21 ad (EM cs ad) mu) s.heap.size)) ([.ref (ad 0), .int vr, .int 1, .int vh, .int vp] : List Value).toArray s 0 0 (va_A (wR 21 ad (EM cs ad) mu) s.heap.size)) (F0 m 148 ls []) := by
        intro n148
        induction n148 with
        | zero => intro v9_148 nu148_ H locs ls hm; exact absurd hm (Nat.not_lt_zero _)
        | succ n148 ih148 =>
          intro v9_148 nu148_ H locs ls hm_148 h_v9_148 ok hP ek148_0 kq148_0 kq148_1 hS hl
          refine lv_iload hx hb dX12_hadOn_148 (lv_at hl 0 rfl) ?_
          refine lv_aload_n hx hb dX12_hadOn_150 rfl (lv_at hl 5 rfl) ?_
          refine va_get (D := (dC, dI)) (ci := 12) (v := .int (nu148_ 0 8)) (C := RX12) (T := TX12) (N := 46) hx hb hts inG12 hown hK hP 0 (gM_0 cs ad nu148_) rfl 8 (by decide) (hts _ (List.mem_cons_of_mem _ mw_5_49)) (fun _ h9 => h9) rfl dX12_hadOn_151 ?_
          refine lv_topi (fun y8 ey8 => ?_)
          have by8 : y8.toInt = (nu148_ 0 8).toInt := congrArg Int32.toInt ey8
          have gy8 : 0 ≤ y8.toInt ∧ y8.toInt ≤ 7 := by rw [ey8]; exact rM_0_8 ok
          refine lv_icmp_ge (tgt := 197) hx hb dX12_hadOn_154 (by decide) (fun c_9 => ?_) (fun c_9 => ?_)
          · have c_9 : y8.toInt ≤ v9_148.toInt := il_le c_9
            exact W.vret hx hb hr (fun t ht hW => ⟨⟨nu148_, rfl, ⟨ok, trivial, kq148_0, kq148_1⟩, by first | (subst ht; exact hP) | (rw [ht]; exact hP) | (show va_P (dC, dI) vwCl (wR 21 ad (EM cs ad) nu148_) t.heap; rw [ht]; exact hP)⟩, hS.F ht⟩) hS.2.2 dX12_hadOn_197
          · have c_9 : v9_148.toInt < y8.toInt := il_nle c_9
            refine lv_iload hx hb dX12_hadOn_157 (lv_at hl 1 rfl) ?_
            refine lv_iload hx hb dX12_hadOn_159 (lv_at hl 0 rfl) ?_
            refine cr_i (va_runS (As := [.int 0, .int v9_148]) (rest := []) ⟨hx, hb, hml, hown, hts⟩ (sm_has l dC dI (tyM cs) H 0 v9_148) (va_cwS 2 hts (wU_S mw_6_59 mw_6_57 mw_6_58 mw_1_13) rfl rfl rfl (by decide +kernel) ⟨Nat.le_of_ble_eq_true rfl, Nat.le_of_ble_eq_true rfl⟩) ⟨sz_c, sz_m hK hz⟩ rfl rfl hl.1 rfl (lv_room (Nat.le_of_ble_eq_true rfl)) dX12_hadOn_161 ⟨Nat.zero_le _, Nat.zero_le _⟩) hS (fun r10 hw10 locs hS => ?_)
            obtain ⟨hfe10, hw10⟩ := hw10
            rcases hw10 with ⟨rfl, f10⟩ | ⟨rfl, f10⟩
            · have f10 : rb (0 : Int32) v9_148 = 1 := f10
              refine lv_if_eq (tgt := 191) hx hb dX12_hadOn_164 (by decide) (fun c => absurd c (by decide)) (fun _ => ?_)
              refine lv_aload_n hx hb dX12_hadOn_167 rfl (lv_at hl 5 rfl) ?_
              refine va_get (D := (dC, dI)) (ci := 12) (v := .ref (ad 16)) (C := RX12) (T := TX12) (N := 46) hx hb hts inG12 hown hK hP 0 (gM_0 cs ad nu148_) rfl 26 (by decide) (hts _ (List.mem_cons_of_mem _ mw_5_67)) (fun _ h9 => h9) rfl dX12_hadOn_168 ?_
              refine lv_iload_n hx hb dX12_hadOn_171 rfl (lv_at hl 7 rfl) ?_
              refine lv_iload hx hb dX12_hadOn_172 (lv_at hl 0 rfl) ?_
              refine va_iast hx hb hK hP (wR_D nu148_ hD) hS 16 0 (gM_16 cs ad nu148_) rfl (show vp_in 1 7 from (by unfold vp_in; decide)) dX12_hadOn_174 (fun H locs hP _ hS => ?_)
              refine wr_gen (upd (nu148_ 16) (1 : Int32).toNatClampNeg v9_148) hP (rfl) (fun nu11 hn11 hP => ?_)
              have ok := tM_16_s ok (1 : Int32).toNatClampNeg hn11 (by omega)
              have ez12 : y1 = nu11 2 vr.toNatClampNeg := ek148_0.trans (congrFun (up_k hn11 (by decide)) vr.toNatClampNeg).symm
              have ez13 : y8 = nu11 0 8 := ey8.trans (congrFun (up_k hn11 (by decide)) 8).symm
              have kp14 : ∀ k : Nat, 2 ≤ k → k < 3 → nu11 k = mu k := fun k h1 h2 => (up_k hn11 (ne_hi (by decide) h2).symm).trans (kq148_0 k h1 h2)
              have kp15 : (∀ k f : Nat, Nat.testBit 510 (gpM k f) = true → nu11 k f = mu k f) := kp_c 0 hn11 (fun _ => rfl) (by decide) kq148_1
              refine lv_aload_n hx hb dX12_hadOn_175 rfl (lv_at hl 5 rfl) ?_
              refine lv_iload_n hx hb dX12_hadOn_176 rfl (lv_at hl 6 rfl) ?_
              refine lv_iload_n hx hb dX12_hadOn_177 rfl (lv_at hl 7 rfl) ?_
              refine lv_iconst (v := 1) hx hb dX12_hadOn_178 (by decide) ?_
              refine lv_iadd hx hb dX12_hadOn_179 ?_
              refine lq_i 2 (by decide) ?_
              refine lv_iload_n hx hb dX12_hadOn_180 rfl (lv_at hl 8 rfl) ?_
              refine lv_iconst (v := 1) hx hb dX12_hadOn_181 (by decide) ?_
              refine lv_iload hx hb dX12_hadOn_182 (lv_at hl 0 rfl) ?_
              refine lv_ishl hx hb dX12_hadOn_184 ?_
              refine lv_topi (fun t16 et16 => ?_)
              refine lv_ior hx hb dX12_hadOn_185 ?_
              refine lv_topi (fun t17 et17 => ?_)
              refine lv_iload hx hb dX12_hadOn_186 (lv_at hl 3 rfl) ?_
              have hFc := fr_all (wR_D nu11 hD) hS hA
              refine va_callv (va_runV (As := [.int vr, .int 2, .int t17, .int r5]) (rest := []) ⟨hx, hb, hml, hown, hts⟩ (sm_hadOn2 l dC dI cs ad nu11 ok H hP ((wR_D nu11 hD).weaken (fun _ _ _ _ => trivial)) vr t17 r5 (by have h51 : (2 : Int32).toInt = 2 := rfl; omega) (by have h51 : (2 : Int32).toInt = 2 := rfl; have hb18 := congrArg Int32.toInt ez12; omega)) (cwV 4 hts (wU_V mw_7_24 mw_7_21 mw_7_23 mw_0_62 mw_1_13) rfl rfl rfl (by decide +kernel) ⟨Nat.le_of_ble_eq_true rfl, Nat.le_of_ble_eq_true rfl⟩) ⟨sz_c, va_recv hK hP (ci := 12) (q0 := 0) rfl (gM_0 cs ad nu11), sz_m hK hz⟩ rfl rfl hl.1 rfl (lv_room (Nat.le_of_ble_eq_true rfl)) dX12_hadOn_188 ⟨Nat.zero_le _, Nat.zero_le _⟩) hS (fun q _ h => hFc q h) hFc (fun xi19 t H19 locs ht hvm hw19 hB hz1 hk1 hS => ?_)
              have hP : va_P (dC, dI) vwCl (wR 21 ad (EM cs ad) xi19) H19 := by rw [← ht]; exact hB
              obtain ⟨ok, hw19, hkp19_0, hkp19_1⟩ := hw19
              have ez20 : y1 = xi19 2 vr.toNatClampNeg := ez12.trans (congrFun (hkp19_0 2 (by decide) (by decide)) vr.toNatClampNeg).symm
              have kp21 : ∀ k : Nat, 2 ≤ k → k < 3 → xi19 k = mu k := fun k h1 h2 => (hkp19_0 k (Nat.le_trans (by decide) h1) (Nat.lt_of_lt_of_le h2 (by decide))).trans (kp14 k h1 h2)
              have kp22 : (∀ k f : Nat, Nat.testBit 510 (gpM k f) = true → xi19 k f = mu k f) := kp_t hkp19_1 (by decide) kp15
              refine lv_iinc (v := (v9_148 + 1)) (lv' := [(9, .int (v9_148 + 1)), (8, .int 0), (7, .int 0), (6, .int r5), (5, .int y4), (0, .ref (ad 0)), (1, .int vr), (2, .int 1), (3, .int vh), (4, .int vp)]) hx hb dX12_hadOn_191 hl (k := 0) rfl rfl (by decide) rfl (fun ls hl => ?_)
              refine loc_gen (P := fun w9 => lv_has ls 10 [(9, .int w9), (8, .int 0), (7, .int 0), (6, .int r5), (5, .int y4), (0, .ref (ad 0)), (1, .int vr), (2, .int 1), (3, .int vh), (4, .int vp)]) (v9_148 + 1) hl (fun w23 hw23 hl => ?_)
              have hl : lv_has ls 10 [(9, .int w23), (8, .int 0), (7, .int 0), (6, .int r5), (5, .int y4), (0, .ref (ad 0)), (1, .int vr), (2, .int 1), (3, .int vh), (4, .int vp)] := hl
              have aw23 : w23.toInt = v9_148.toInt + 1 := by rw [← hw23]; first | exact va1 (Int.lt_of_le_of_lt h_v9_148.2 (by decide)) | exact va1 (by omega)
              refine lv_goto (tgt := 148) hx hb dX12_hadOn_194 (by decide) ?_
              exact ih148 (w23) xi19 _ _ _ (by first | exact ms_up hm_148 aw23 h_v9_148.2 | exact ms_lt hm_148 (by omega) (by omega) | omega) (by first | exact rg_up aw23 h_v9_148 (by omega) | omega)  ok hP ez20 kp21 kp22 hS (lv_sub hl [0, 1, 2, 3, 4, 5, 6, 7, 8, 9] rfl)
            · have f10 : ¬ rb (0 : Int32) v9_148 = 1 := f10
              refine lv_if_eq (tgt := 191) hx hb dX12_hadOn_164 (by decide) (fun _ => ?_) (fun c => absurd (by decide) c)
              refine lv_iinc (v := (v9_148 + 1)) (lv' := [(9, .int (v9_148 + 1)), (8, .int 0), (7, .int 0), (6, .int r5), (5, .int y4), (0, .ref (ad 0)), (1, .int vr), (2, .int 1), (3, .int vh), (4, .int vp)]) hx hb dX12_hadOn_191 hl (k := 0) rfl rfl (by decide) rfl (fun ls hl => ?_)
              refine loc_gen (P := fun w9 => lv_has ls 10 [(9, .int w9), (8, .int 0), (7, .int 0), (6, .int r5), (5, .int y4), (0, .ref (ad 0)), (1, .int vr), (2, .int 1), (3, .int vh), (4, .int vp)]) (v9_148 + 1) hl (fun w24 hw24 hl => ?_)
              have hl : lv_has ls 10 [(9, .int w24), (8, .int 0), (7, .int 0), (6, .int r5), (5, .int y4), (0, .ref (ad 0)), (1, .int vr), (2, .int 1), (3, .int vh), (4, .int vp)] := hl
              have aw24 : w24.toInt = v9_148.toInt + 1 := by rw [← hw24]; first | exact va1 (Int.lt_of_le_of_lt h_v9_148.2 (by decide)) | exact va1 (by omega)
              refine lv_goto (tgt := 148) hx hb dX12_hadOn_194 (by decide) ?_
              exact ih148 (w24) nu148_ _ _ _ (by first | exact ms_up hm_148 aw24 h_v9_148.2 | exact ms_lt hm_148 (by omega) (by omega) | omega) (by first | exact rg_up aw24 h_v9_148 (by omega) | omega)  ok hP ek148_0 kq148_0 kq148_1 hS (lv_sub hl [0, 1, 2, 3, 4, 5, 6, 7, 8, 9] rfl)
      exact loop148 ((7 + 1 - (0 : Int32).toInt).toNat + 1) (0) mu _ _ _ (Nat.lt_succ_self _) (by have h80 : (0 : Int32).toInt = 0 := rfl; exact ⟨by omega, by omega⟩)  ok hP ey1 (fun _ _ _ => rfl) (fun _ _ _ => rfl) hS hl
    · have c_7 : r5.toInt = r6.toInt := il_eq c_7
      refine lv_iload_n hx hb dX12_hadOn_101 rfl (lv_at hl 4 rfl) ?_
      refine lv_iconst (v := 1) hx hb dX12_hadOn_102 (by decide) ?_
      refine lv_icmp_eq (tgt := 117) hx hb dX12_hadOn_103 (by decide) (fun _ => ?_) (fun c => absurd (by decide) c)
      refine lv_iconst (v := 1) hx hb dX12_hadOn_117 (by decide) ?_
      refine lv_goto (tgt := 122) hx hb dX12_hadOn_118 (by decide) ?_
      refine lv_istore (lv' := [(7, .int 1), (6, .int r5), (5, .int y4), (0, .ref (ad 0)), (1, .int vr), (2, .int 1), (3, .int vh), (4, .int vp)]) hx hb dX12_hadOn_122 hl (by decide) rfl (fun ls hl => ?_)
      refine lv_iload hx hb dX12_hadOn_124 (lv_at hl 0 rfl) ?_
      refine lv_if_eq (tgt := 142) hx hb dX12_hadOn_126 (by decide) (fun c => absurd c (by decide)) (fun _ => ?_)
      refine lv_aload_n hx hb dX12_hadOn_129 rfl (lv_at hl 3 rfl) ?_
      refine lv_iload hx hb dX12_hadOn_130 (lv_at hl 2 rfl) ?_
      refine cr_i (va_runV (As := [.int y4]) (rest := []) ⟨hx, hb, hml, hown, hts⟩ (sm_besideOf l dC dI cs ad mu ok s.heap hP y4) (cwV 1 hts (wU_V mw_6_56 mw_6_53 mw_6_55 mw_0_40 mw_1_13) rfl rfl rfl (by decide +kernel) ⟨Nat.le_of_ble_eq_true rfl, Nat.le_of_ble_eq_true rfl⟩) ⟨sz_c, va_recv hK hP (ci := 12) (q0 := 0) rfl (gM_0 cs ad mu), sz_m hK hz⟩ rfl rfl hl.1 rfl (lv_room (Nat.le_of_ble_eq_true rfl)) dX12_hadOn_132 ⟨Nat.zero_le _, Nat.zero_le _⟩) hS (fun r25 hw25 locs hS => ?_)
      obtain ⟨hfe25, hw25⟩ := hw25
      refine lv_iload_n hx hb dX12_hadOn_135 rfl (lv_at hl 6 rfl) ?_
      refine lv_iconst (v := (-1)) hx hb dX12_hadOn_136 (by decide) ?_
      refine lv_ixor hx hb dX12_hadOn_137 ?_
      refine lv_topi (fun t26 et26 => ?_)
      refine lv_iand hx hb dX12_hadOn_138 ?_
      refine lv_topi (fun t27 et27 => ?_)
      refine lv_goto (tgt := 143) hx hb dX12_hadOn_139 (by decide) ?_
      refine lv_istore (lv' := [(8, .int t27), (7, .int 1), (6, .int r5), (5, .int y4), (0, .ref (ad 0)), (1, .int vr), (2, .int 1), (3, .int vh), (4, .int vp)]) hx hb dX12_hadOn_143 hl (by decide) rfl (fun ls hl => ?_)
      refine lv_iconst (v := 0) hx hb dX12_hadOn_145 (by decide) ?_
      refine lv_istore (lv' := [(9, .int 0), (8, .int t27), (7, .int 1), (6, .int r5), (5, .int y4), (0, .ref (ad 0)), (1, .int vr), (2, .int 1), (3, .int vh), (4, .int vp)]) hx hb dX12_hadOn_146 hl (by decide) rfl (fun ls hl => ?_)
      have loop148 : ∀ (n148 : Nat) (v9_148 : Int32) (nu148_ : Nat → Nat → Int32) (H : Heap) (locs : List Loc) (ls : Array Slot), (7 + 1 - v9_148.toInt).toNat < n148 → (0 ≤ v9_148.toInt ∧ v9_148.toInt ≤ 7) → okR loM hiM nu148_ → va_P (dC, dI) vwCl (wR 21 ad (EM cs ad) nu148_) H → y1 = nu148_ 2 vr.toNatClampNeg → (∀ k : Nat, 2 ≤ k → k < 3 → nu148_ k = mu k) → (∀ k f : Nat, Nat.testBit 510 (gpM k f) = true → nu148_ k f = mu k f) → va_S (va_A (wR 21 ad (EM cs ad) mu) s.heap.size) s.heap H locs → lv_has ls 10 [(9, .int v9_148), (8, .int t27), (7, .int 1), (6, .int r5), (5, .int y4), (0, .ref (ad 0)), (1, .int vr), (2, .int 1), (3, .int vh), (4, .int vp)] → W p l e (headSpec (wU yX12_hadOn cX12_hadOn 10 none) ({ frames := 7, cells := 0, slots := 0, locals := 197 })).room s m ([.ref (ad 0), .int vr, .int 1, .int vh, .int vp] : List Value).toArray below meth c H locs 0 0 (MQ below (va_Qv (fun (xi : Nat → Nat → Int32) => okR loM hiM xi ∧ (True) ∧ (∀ k : Nat, 2 ≤ k → k < 3 → xi k = mu k) ∧ (∀ k f : Nat, Nat.testBit 510 (gpM k f) = true → xi k f = mu k f)) (fun xi t => va_P (dC, dI) vwCl (wR 21 ad (EM cs ad) xi) t.heap) (va_A (wR 21 ad (EM cs ad) mu) s.heap.size)) ([.ref (ad 0), .int vr, .int 1, .int vh, .int vp] : List Value).toArray s 0 0 (va_A (wR 21 ad (EM cs ad) mu) s.heap.size)) (F0 m 148 ls []) := by
        intro n148
        induction n148 with
        | zero => intro v9_148 nu148_ H locs ls hm; exact absurd hm (Nat.not_lt_zero _)
        | succ n148 ih148 =>
          intro v9_148 nu148_ H locs ls hm_148 h_v9_148 ok hP ek148_0 kq148_0 kq148_1 hS hl
          refine lv_iload hx hb dX12_hadOn_148 (lv_at hl 0 rfl) ?_
          refine lv_aload_n hx hb dX12_hadOn_150 rfl (lv_at hl 5 rfl) ?_
          refine va_get (D := (dC, dI)) (ci := 12) (v := .int (nu148_ 0 8)) (C := RX12) (T := TX12) (N := 46) hx hb hts inG12 hown hK hP 0 (gM_0 cs ad nu148_) rfl 8 (by decide) (hts _ (List.mem_cons_of_mem _ mw_5_49)) (fun _ h9 => h9) rfl dX12_hadOn_151 ?_
          refine lv_topi (fun y28 ey28 => ?_)
          have by28 : y28.toInt = (nu148_ 0 8).toInt := congrArg Int32.toInt ey28
          have gy28 : 0 ≤ y28.toInt ∧ y28.toInt ≤ 7 := by rw [ey28]; exact rM_0_8 ok
          refine lv_icmp_ge (tgt := 197) hx hb dX12_hadOn_154 (by decide) (fun c_29 => ?_) (fun c_29 => ?_)
          · have c_29 : y28.toInt ≤ v9_148.toInt := il_le c_29
            exact W.vret hx hb hr (fun t ht hW => ⟨⟨nu148_, rfl, ⟨ok, trivial, kq148_0, kq148_1⟩, by first | (subst ht; exact hP) | (rw [ht]; exact hP) | (show va_P (dC, dI) vwCl (wR 21 ad (EM cs ad) nu148_) t.heap; rw [ht]; exact hP)⟩, hS.F ht⟩) hS.2.2 dX12_hadOn_197
          · have c_29 : v9_148.toInt < y28.toInt := il_nle c_29
            refine lv_iload hx hb dX12_hadOn_157 (lv_at hl 1 rfl) ?_
            refine lv_iload hx hb dX12_hadOn_159 (lv_at hl 0 rfl) ?_
            refine cr_i (va_runS (As := [.int t27, .int v9_148]) (rest := []) ⟨hx, hb, hml, hown, hts⟩ (sm_has l dC dI (tyM cs) H t27 v9_148) (va_cwS 2 hts (wU_S mw_6_59 mw_6_57 mw_6_58 mw_1_13) rfl rfl rfl (by decide +kernel) ⟨Nat.le_of_ble_eq_true rfl, Nat.le_of_ble_eq_true rfl⟩) ⟨sz_c, sz_m hK hz⟩ rfl rfl hl.1 rfl (lv_room (Nat.le_of_ble_eq_true rfl)) dX12_hadOn_161 ⟨Nat.zero_le _, Nat.zero_le _⟩) hS (fun r30 hw30 locs hS => ?_)
            obtain ⟨hfe30, hw30⟩ := hw30
            rcases hw30 with ⟨rfl, f30⟩ | ⟨rfl, f30⟩
            · have f30 : rb t27 v9_148 = 1 := f30
              refine lv_if_eq (tgt := 191) hx hb dX12_hadOn_164 (by decide) (fun c => absurd c (by decide)) (fun _ => ?_)
              refine lv_aload_n hx hb dX12_hadOn_167 rfl (lv_at hl 5 rfl) ?_
              refine va_get (D := (dC, dI)) (ci := 12) (v := .ref (ad 16)) (C := RX12) (T := TX12) (N := 46) hx hb hts inG12 hown hK hP 0 (gM_0 cs ad nu148_) rfl 26 (by decide) (hts _ (List.mem_cons_of_mem _ mw_5_67)) (fun _ h9 => h9) rfl dX12_hadOn_168 ?_
              refine lv_iload_n hx hb dX12_hadOn_171 rfl (lv_at hl 7 rfl) ?_
              refine lv_iload hx hb dX12_hadOn_172 (lv_at hl 0 rfl) ?_
              refine va_iast hx hb hK hP (wR_D nu148_ hD) hS 16 0 (gM_16 cs ad nu148_) rfl (show vp_in 1 7 from (by unfold vp_in; decide)) dX12_hadOn_174 (fun H locs hP _ hS => ?_)
              refine wr_gen (upd (nu148_ 16) (1 : Int32).toNatClampNeg v9_148) hP (rfl) (fun nu31 hn31 hP => ?_)
              have ok := tM_16_s ok (1 : Int32).toNatClampNeg hn31 (by omega)
              have ez32 : y1 = nu31 2 vr.toNatClampNeg := ek148_0.trans (congrFun (up_k hn31 (by decide)) vr.toNatClampNeg).symm
              have ez33 : y28 = nu31 0 8 := ey28.trans (congrFun (up_k hn31 (by decide)) 8).symm
              have kp34 : ∀ k : Nat, 2 ≤ k → k < 3 → nu31 k = mu k := fun k h1 h2 => (up_k hn31 (ne_hi (by decide) h2).symm).trans (kq148_0 k h1 h2)
              have kp35 : (∀ k f : Nat, Nat.testBit 510 (gpM k f) = true → nu31 k f = mu k f) := kp_c 0 hn31 (fun _ => rfl) (by decide) kq148_1
              refine lv_aload_n hx hb dX12_hadOn_175 rfl (lv_at hl 5 rfl) ?_
              refine lv_iload_n hx hb dX12_hadOn_176 rfl (lv_at hl 6 rfl) ?_
              refine lv_iload_n hx hb dX12_hadOn_177 rfl (lv_at hl 7 rfl) ?_
              refine lv_iconst (v := 1) hx hb dX12_hadOn_178 (by decide) ?_
              refine lv_iadd hx hb dX12_hadOn_179 ?_
              refine lq_i 2 (by decide) ?_
              refine lv_iload_n hx hb dX12_hadOn_180 rfl (lv_at hl 8 rfl) ?_
              refine lv_iconst (v := 1) hx hb dX12_hadOn_181 (by decide) ?_
              refine lv_iload hx hb dX12_hadOn_182 (lv_at hl 0 rfl) ?_
              refine lv_ishl hx hb dX12_hadOn_184 ?_
              refine lv_topi (fun t36 et36 => ?_)
              refine lv_ior hx hb dX12_hadOn_185 ?_
              refine lv_topi (fun t37 et37 => ?_)
              refine lv_iload hx hb dX12_hadOn_186 (lv_at hl 3 rfl) ?_
              have hFc := fr_all (wR_D nu31 hD) hS hA
              refine va_callv (va_runV (As := [.int vr, .int 2, .int t37, .int r5]) (rest := []) ⟨hx, hb, hml, hown, hts⟩ (sm_hadOn2 l dC dI cs ad nu31 ok H hP ((wR_D nu31 hD).weaken (fun _ _ _ _ => trivial)) vr t37 r5 (by have h51 : (2 : Int32).toInt = 2 := rfl; omega) (by have h51 : (2 : Int32).toInt = 2 := rfl; have hb38 := congrArg Int32.toInt ez32; omega)) (cwV 4 hts (wU_V mw_7_24 mw_7_21 mw_7_23 mw_0_62 mw_1_13) rfl rfl rfl (by decide +kernel) ⟨Nat.le_of_ble_eq_true rfl, Nat.le_of_ble_eq_true rfl⟩) ⟨sz_c, va_recv hK hP (ci := 12) (q0 := 0) rfl (gM_0 cs ad nu31), sz_m hK hz⟩ rfl rfl hl.1 rfl (lv_room (Nat.le_of_ble_eq_true rfl)) dX12_hadOn_188 ⟨Nat.zero_le _, Nat.zero_le _⟩) hS (fun q _ h => hFc q h) hFc (fun xi39 t H39 locs ht hvm hw39 hB hz1 hk1 hS => ?_)
              have hP : va_P (dC, dI) vwCl (wR 21 ad (EM cs ad) xi39) H39 := by rw [← ht]; exact hB
              obtain ⟨ok, hw39, hkp39_0, hkp39_1⟩ := hw39
              have ez40 : y1 = xi39 2 vr.toNatClampNeg := ez32.trans (congrFun (hkp39_0 2 (by decide) (by decide)) vr.toNatClampNeg).symm
              have kp41 : ∀ k : Nat, 2 ≤ k → k < 3 → xi39 k = mu k := fun k h1 h2 => (hkp39_0 k (Nat.le_trans (by decide) h1) (Nat.lt_of_lt_of_le h2 (by decide))).trans (kp34 k h1 h2)
              have kp42 : (∀ k f : Nat, Nat.testBit 510 (gpM k f) = true → xi39 k f = mu k f) := kp_t hkp39_1 (by decide) kp35
              refine lv_iinc (v := (v9_148 + 1)) (lv' := [(9, .int (v9_148 + 1)), (8, .int t27), (7, .int 1), (6, .int r5), (5, .int y4), (0, .ref (ad 0)), (1, .int vr), (2, .int 1), (3, .int vh), (4, .int vp)]) hx hb dX12_hadOn_191 hl (k := 0) rfl rfl (by decide) rfl (fun ls hl => ?_)
              refine loc_gen (P := fun w9 => lv_has ls 10 [(9, .int w9), (8, .int t27), (7, .int 1), (6, .int r5), (5, .int y4), (0, .ref (ad 0)), (1, .int vr), (2, .int 1), (3, .int vh), (4, .int vp)]) (v9_148 + 1) hl (fun w43 hw43 hl => ?_)
              have hl : lv_has ls 10 [(9, .int w43), (8, .int t27), (7, .int 1), (6, .int r5), (5, .int y4), (0, .ref (ad 0)), (1, .int vr), (2, .int 1), (3, .int vh), (4, .int vp)] := hl
              have aw43 : w43.toInt = v9_148.toInt + 1 := by rw [← hw43]; first | exact va1 (Int.lt_of_le_of_lt h_v9_148.2 (by decide)) | exact va1 (by omega)
              refine lv_goto (tgt := 148) hx hb dX12_hadOn_194 (by decide) ?_
              exact ih148 (w43) xi39 _ _ _ (by first | exact ms_up hm_148 aw43 h_v9_148.2 | exact ms_lt hm_148 (by omega) (by omega) | omega) (by first | exact rg_up aw43 h_v9_148 (by omega) | omega)  ok hP ez40 kp41 kp42 hS (lv_sub hl [0, 1, 2, 3, 4, 5, 6, 7, 8, 9] rfl)
            · have f30 : ¬ rb t27 v9_148 = 1 := f30
              refine lv_if_eq (tgt := 191) hx hb dX12_hadOn_164 (by decide) (fun _ => ?_) (fun c => absurd (by decide) c)
              refine lv_iinc (v := (v9_148 + 1)) (lv' := [(9, .int (v9_148 + 1)), (8, .int t27), (7, .int 1), (6, .int r5), (5, .int y4), (0, .ref (ad 0)), (1, .int vr), (2, .int 1), (3, .int vh), (4, .int vp)]) hx hb dX12_hadOn_191 hl (k := 0) rfl rfl (by decide) rfl (fun ls hl => ?_)
              refine loc_gen (P := fun w9 => lv_has ls 10 [(9, .int w9), (8, .int t27), (7, .int 1), (6, .int r5), (5, .int y4), (0, .ref (ad 0)), (1, .int vr), (2, .int 1), (3, .int vh), (4, .int vp)]) (v9_148 + 1) hl (fun w44 hw44 hl => ?_)
              have hl : lv_has ls 10 [(9, .int w44), (8, .int t27), (7, .int 1), (6, .int r5), (5, .int y4), (0, .ref (ad 0)), (1, .int vr), (2, .int 1), (3, .int vh), (4, .int vp)] := hl
              have aw44 : w44.toInt = v9_148.toInt + 1 := by rw [← hw44]; first | exact va1 (Int.lt_of_le_of_lt h_v9_148.2 (by decide)) | exact va1 (by omega)
              refine lv_goto (tgt := 148) hx hb dX12_hadOn_194 (by decide) ?_
              exact ih148 (w44) nu148_ _ _ _ (by first | exact ms_up hm_148 aw44 h_v9_148.2 | exact ms_lt hm_148 (by omega) (by omega) | omega) (by first | exact rg_up aw44 h_v9_148 (by omega) | omega)  ok hP ek148_0 kq148_0 kq148_1 hS (lv_sub hl [0, 1, 2, 3, 4, 5, 6, 7, 8, 9] rfl)
      exact loop148 ((7 + 1 - (0 : Int32).toInt).toNat + 1) (0) mu _ _ _ (Nat.lt_succ_self _) (by have h80 : (0 : Int32).toInt = 0 := rfl; exact ⟨by omega, by omega⟩)  ok hP ey1 (fun _ _ _ => rfl) (fun _ _ _ => rfl) hS hl
  · have c_3 : 1 = t2.toInt := il_eq c_3
    refine lv_aload_n hx hb dX12_hadOn_12 rfl (lv_at hl 0 rfl) ?_
    refine va_get (D := (dC, dI)) (ci := 12) (v := .int (mu 0 42)) (C := RX12) (T := TX12) (N := 46) hx hb hts inG12 hown hK hP 0 (gM_0 cs ad mu) rfl 42 (by decide) (hts _ (List.mem_cons_of_mem _ mw_5_83)) (fun _ h9 => h9) rfl dX12_hadOn_13 ?_
    refine lv_topi (fun y45 ey45 => ?_)
    have by45 : y45.toInt = (mu 0 42).toInt := congrArg Int32.toInt ey45
    refine lv_if_ne (tgt := 28) hx hb dX12_hadOn_16 (by decide) (fun c_46 => ?_) (fun c_46 => ?_)
    · have c_46 : ¬ y45.toInt = 0 := il_ne c_46
      refine lv_aload_n hx hb dX12_hadOn_28 rfl (lv_at hl 0 rfl) ?_
      refine lv_dup hx hb dX12_hadOn_29 rfl ?_
      refine va_get (D := (dC, dI)) (ci := 12) (v := .int (mu 0 42)) (C := RX12) (T := TX12) (N := 46) hx hb hts inG12 hown hK hP 0 (gM_0 cs ad mu) rfl 42 (by decide) (hts _ (List.mem_cons_of_mem _ mw_5_83)) (fun _ h9 => h9) rfl dX12_hadOn_30 ?_
      refine lq_i y45 ey45.symm ?_
      refine lv_iconst (v := 1) hx hb dX12_hadOn_33 (by decide) ?_
      refine lv_iadd hx hb dX12_hadOn_34 ?_
      refine lv_topi (fun t47 et47 => ?_)
      refine va_put (D := (dC, dI)) (ci := 12) (v := .int t47) (ty := .int) (C := RX12) (T := TX12) (N := 46) hx hb hts inG12 tyX12 tyX12_ok nmX12 hown hK hP (wR_D mu hD) hS 0 (gM_0 cs ad mu) rfl 42 (by decide) (hts _ (List.mem_cons_of_mem _ mw_5_83)) (fun _ h9 => h9) rfl (by decide +kernel) rfl rfl (Nat.le_of_ble_eq_true rfl) dX12_hadOn_35 (fun H locs hP _ hS => ?_)
      simp only [List.set_cons_succ, List.set_cons_zero] at hP
      refine wr_gen (upd (mu 0) 42 t47) hP ((hM_0_42 cs ad _ _)) (fun nu48 hn48 hP => ?_)
      have ok := tM_0_42 ok hn48
      have ez49 : y1 = nu48 2 vr.toNatClampNeg := ey1.trans (congrFun (up_k hn48 (by decide)) vr.toNatClampNeg).symm
      have kp50 : ∀ k : Nat, 2 ≤ k → k < 3 → nu48 k = mu k := fun k h1 h2 => (up_k hn48 (ne_lo (by decide) h1).symm).trans ((fun _ _ _ => rfl) k h1 h2)
      have kp51 : (∀ k f : Nat, Nat.testBit 510 (gpM k f) = true → nu48 k f = mu k f) := kp_f hn48 (by decide) (fun _ _ _ => rfl)
      have ez52 : t47 = nu48 0 42 := up_v hn48
      refine lv_aload_n hx hb dX12_hadOn_38 rfl (lv_at hl 0 rfl) ?_
      refine lv_dup hx hb dX12_hadOn_39 rfl ?_
      refine va_get (D := (dC, dI)) (ci := 12) (v := .int (nu48 0 43)) (C := RX12) (T := TX12) (N := 46) hx hb hts inG12 hown hK hP 0 (gM_0 cs ad nu48) rfl 43 (by decide) (hts _ (List.mem_cons_of_mem _ mw_5_84)) (fun _ h9 => h9) rfl dX12_hadOn_40 ?_
      refine lv_topi (fun y53 ey53 => ?_)
      have by53 : y53.toInt = (nu48 0 43).toInt := congrArg Int32.toInt ey53
      refine lv_iconst (v := 1) hx hb dX12_hadOn_43 (by decide) ?_
      refine lv_aload_n hx hb dX12_hadOn_44 rfl (lv_at hl 0 rfl) ?_
      refine va_get (D := (dC, dI)) (ci := 12) (v := .ref (ad 16)) (C := RX12) (T := TX12) (N := 46) hx hb hts inG12 hown hK hP 0 (gM_0 cs ad nu48) rfl 26 (by decide) (hts _ (List.mem_cons_of_mem _ mw_5_67)) (fun _ h9 => h9) rfl dX12_hadOn_45 ?_
      refine lv_iload_n hx hb dX12_hadOn_48 rfl (lv_at hl 2 rfl) ?_
      refine lv_iconst (v := 1) hx hb dX12_hadOn_49 (by decide) ?_
      refine lv_isub hx hb dX12_hadOn_50 ?_
      refine lq_i 0 (by decide) ?_
      refine va_iald hx hb hK hP 16 0 (gM_16 cs ad nu48) rfl (show vp_in 0 7 from (by unfold vp_in; decide)) dX12_hadOn_51 ?_
      refine lv_topi (fun y54 ey54 => ?_)
      have by54 : y54.toInt = (nu48 16 (0 : Int32).toNatClampNeg).toInt := congrArg Int32.toInt ey54
      have gy54 : 0 ≤ y54.toInt ∧ y54.toInt ≤ 6 := by rw [ey54]; exact rM_16_s ok (0 : Int32).toNatClampNeg
      refine lv_ishl hx hb dX12_hadOn_52 ?_
      refine lv_topi (fun t55 et55 => ?_)
      refine lv_ior hx hb dX12_hadOn_53 ?_
      refine lv_topi (fun t56 et56 => ?_)
      refine va_put (D := (dC, dI)) (ci := 12) (v := .int t56) (ty := .int) (C := RX12) (T := TX12) (N := 46) hx hb hts inG12 tyX12 tyX12_ok nmX12 hown hK hP (wR_D nu48 hD) hS 0 (gM_0 cs ad nu48) rfl 43 (by decide) (hts _ (List.mem_cons_of_mem _ mw_5_84)) (fun _ h9 => h9) rfl (by decide +kernel) rfl rfl (Nat.le_of_ble_eq_true rfl) dX12_hadOn_54 (fun H locs hP _ hS => ?_)
      simp only [List.set_cons_succ, List.set_cons_zero] at hP
      refine wr_gen (upd (nu48 0) 43 t56) hP ((hM_0_43 cs ad _ _)) (fun nu57 hn57 hP => ?_)
      have ok := tM_0_43 ok hn57
      have ez58 : y1 = nu57 2 vr.toNatClampNeg := ez49.trans (congrFun (up_k hn57 (by decide)) vr.toNatClampNeg).symm
      have ez59 : t47 = nu57 0 42 := ez52.trans (up_f hn57 (by decide)).symm
      have ez60 : y54 = nu57 16 (0 : Int32).toNatClampNeg := ey54.trans (congrFun (up_k hn57 (by decide)) (0 : Int32).toNatClampNeg).symm
      have kp61 : ∀ k : Nat, 2 ≤ k → k < 3 → nu57 k = mu k := fun k h1 h2 => (up_k hn57 (ne_lo (by decide) h1).symm).trans (kp50 k h1 h2)
      have kp62 : (∀ k f : Nat, Nat.testBit 510 (gpM k f) = true → nu57 k f = mu k f) := kp_f hn57 (by decide) kp51
      have ez63 : t56 = nu57 0 43 := up_v hn57
      refine lv_aload_n hx hb dX12_hadOn_57 rfl (lv_at hl 0 rfl) ?_
      refine lv_dup hx hb dX12_hadOn_58 rfl ?_
      refine va_get (D := (dC, dI)) (ci := 12) (v := .int (nu57 0 44)) (C := RX12) (T := TX12) (N := 46) hx hb hts inG12 hown hK hP 0 (gM_0 cs ad nu57) rfl 44 (by decide) (hts _ (List.mem_cons_of_mem _ mw_5_85)) (fun _ h9 => h9) rfl dX12_hadOn_59 ?_
      refine lv_topi (fun y64 ey64 => ?_)
      have by64 : y64.toInt = (nu57 0 44).toInt := congrArg Int32.toInt ey64
      refine lv_iload_n hx hb dX12_hadOn_62 rfl (lv_at hl 3 rfl) ?_
      refine lv_iand hx hb dX12_hadOn_63 ?_
      refine lv_topi (fun t65 et65 => ?_)
      refine va_put (D := (dC, dI)) (ci := 12) (v := .int t65) (ty := .int) (C := RX12) (T := TX12) (N := 46) hx hb hts inG12 tyX12 tyX12_ok nmX12 hown hK hP (wR_D nu57 hD) hS 0 (gM_0 cs ad nu57) rfl 44 (by decide) (hts _ (List.mem_cons_of_mem _ mw_5_85)) (fun _ h9 => h9) rfl (by decide +kernel) rfl rfl (Nat.le_of_ble_eq_true rfl) dX12_hadOn_64 (fun H locs hP _ hS => ?_)
      simp only [List.set_cons_succ, List.set_cons_zero] at hP
      refine wr_gen (upd (nu57 0) 44 t65) hP ((hM_0_44 cs ad _ _)) (fun nu66 hn66 hP => ?_)
      have ok := tM_0_44 ok hn66
      have ez67 : y1 = nu66 2 vr.toNatClampNeg := ez58.trans (congrFun (up_k hn66 (by decide)) vr.toNatClampNeg).symm
      have ez68 : t47 = nu66 0 42 := ez59.trans (up_f hn66 (by decide)).symm
      have ez69 : y54 = nu66 16 (0 : Int32).toNatClampNeg := ez60.trans (congrFun (up_k hn66 (by decide)) (0 : Int32).toNatClampNeg).symm
      have ez70 : t56 = nu66 0 43 := ez63.trans (up_f hn66 (by decide)).symm
      have kp71 : ∀ k : Nat, 2 ≤ k → k < 3 → nu66 k = mu k := fun k h1 h2 => (up_k hn66 (ne_lo (by decide) h1).symm).trans (kp61 k h1 h2)
      have kp72 : (∀ k f : Nat, Nat.testBit 510 (gpM k f) = true → nu66 k f = mu k f) := kp_f hn66 (by decide) kp62
      have ez73 : t65 = nu66 0 44 := up_v hn66
      exact W.vret hx hb hr (fun t ht hW => ⟨⟨nu66, rfl, ⟨ok, trivial, kp71, kp72⟩, by first | (subst ht; exact hP) | (rw [ht]; exact hP) | (show va_P (dC, dI) vwCl (wR 21 ad (EM cs ad) nu66) t.heap; rw [ht]; exact hP)⟩, hS.F ht⟩) hS.2.2 dX12_hadOn_67
    · have c_46 : y45.toInt = 0 := il_eq c_46
      refine lv_aload_n hx hb dX12_hadOn_19 rfl (lv_at hl 0 rfl) ?_
      refine lv_aload_n hx hb dX12_hadOn_20 rfl (lv_at hl 0 rfl) ?_
      refine va_get (D := (dC, dI)) (ci := 12) (v := .ref (ad 17)) (C := RX12) (T := TX12) (N := 46) hx hb hts inG12 hown hK hP 0 (gM_0 cs ad mu) rfl 27 (by decide) (hts _ (List.mem_cons_of_mem _ mw_5_68)) (fun _ h9 => h9) rfl dX12_hadOn_21 ?_
      refine lv_iload_n hx hb dX12_hadOn_24 rfl (lv_at hl 2 rfl) ?_
      have hFc := fr_all (wR_D mu hD) hS hA
      refine va_callv (va_runV (As := [.ref (ad 17), .int 1]) (rest := []) ⟨hx, hb, hml, hown, hts⟩ (sm_copyRoute17 l dC dI cs ad mu ok s.heap hP ((wR_D mu hD).weaken (fun _ _ _ _ => trivial)) 1 (by have h51 : (1 : Int32).toInt = 1 := rfl; omega)) (cwV 2 hts (wU_V mw_6_191 mw_6_188 mw_6_190 mw_0_57 mw_1_13) rfl rfl rfl (by decide +kernel) ⟨Nat.le_of_ble_eq_true rfl, Nat.le_of_ble_eq_true rfl⟩) ⟨sz_c, va_recv hK hP (ci := 12) (q0 := 0) rfl (gM_0 cs ad mu), sz_m hK hz⟩ rfl rfl hl.1 rfl (lv_room (Nat.le_of_ble_eq_true rfl)) dX12_hadOn_25 ⟨Nat.zero_le _, Nat.zero_le _⟩) hS (fun q _ h => hFc q h) hFc (fun xi74 t H74 locs ht hvm hw74 hB hz1 hk1 hS => ?_)
      have hP : va_P (dC, dI) vwCl (wR 21 ad (EM cs ad) xi74) H74 := by rw [← ht]; exact hB
      obtain ⟨hfe74, ok, hw74, hkp74_0, hkp74_1⟩ := hw74
      have ez75 : y1 = xi74 2 vr.toNatClampNeg := ey1.trans (congrFun (hkp74_0 2 (by decide) (by decide)) vr.toNatClampNeg).symm
      have ez76 : y45 = xi74 0 42 := ey45.trans (congrFun (hkp74_0 0 (by decide) (by decide)) 42).symm
      have kp77 : ∀ k : Nat, 2 ≤ k → k < 3 → xi74 k = mu k := fun k h1 h2 => (hkp74_0 k (Nat.le_trans (by decide) h1) (Nat.lt_of_lt_of_le h2 (by decide))).trans ((fun _ _ _ => rfl) k h1 h2)
      have kp78 : (∀ k f : Nat, Nat.testBit 510 (gpM k f) = true → xi74 k f = mu k f) := kp_t hkp74_1 (by decide) (fun _ _ _ => rfl)
      refine lv_aload_n hx hb dX12_hadOn_28 rfl (lv_at hl 0 rfl) ?_
      refine lv_dup hx hb dX12_hadOn_29 rfl ?_
      refine va_get (D := (dC, dI)) (ci := 12) (v := .int (xi74 0 42)) (C := RX12) (T := TX12) (N := 46) hx hb hts inG12 hown hK hP 0 (gM_0 cs ad xi74) rfl 42 (by decide) (hts _ (List.mem_cons_of_mem _ mw_5_83)) (fun _ h9 => h9) rfl dX12_hadOn_30 ?_
      refine lq_i y45 ez76.symm ?_
      refine lv_iconst (v := 1) hx hb dX12_hadOn_33 (by decide) ?_
      refine lv_iadd hx hb dX12_hadOn_34 ?_
      refine lv_topi (fun t79 et79 => ?_)
      have at79 : t79.toInt = y45.toInt + 1 := by rw [et79]; exact va1 (by omega)
      refine va_put (D := (dC, dI)) (ci := 12) (v := .int t79) (ty := .int) (C := RX12) (T := TX12) (N := 46) hx hb hts inG12 tyX12 tyX12_ok nmX12 hown hK hP (wR_D xi74 hD) hS 0 (gM_0 cs ad xi74) rfl 42 (by decide) (hts _ (List.mem_cons_of_mem _ mw_5_83)) (fun _ h9 => h9) rfl (by decide +kernel) rfl rfl (Nat.le_of_ble_eq_true rfl) dX12_hadOn_35 (fun H locs hP _ hS => ?_)
      simp only [List.set_cons_succ, List.set_cons_zero] at hP
      refine wr_gen (upd (xi74 0) 42 t79) hP ((hM_0_42 cs ad _ _)) (fun nu80 hn80 hP => ?_)
      have ok := tM_0_42 ok hn80
      have ez81 : y1 = nu80 2 vr.toNatClampNeg := ez75.trans (congrFun (up_k hn80 (by decide)) vr.toNatClampNeg).symm
      have kp82 : ∀ k : Nat, 2 ≤ k → k < 3 → nu80 k = mu k := fun k h1 h2 => (up_k hn80 (ne_lo (by decide) h1).symm).trans (kp77 k h1 h2)
      have kp83 : (∀ k f : Nat, Nat.testBit 510 (gpM k f) = true → nu80 k f = mu k f) := kp_f hn80 (by decide) kp78
      have ez84 : t79 = nu80 0 42 := up_v hn80
      refine lv_aload_n hx hb dX12_hadOn_38 rfl (lv_at hl 0 rfl) ?_
      refine lv_dup hx hb dX12_hadOn_39 rfl ?_
      refine va_get (D := (dC, dI)) (ci := 12) (v := .int (nu80 0 43)) (C := RX12) (T := TX12) (N := 46) hx hb hts inG12 hown hK hP 0 (gM_0 cs ad nu80) rfl 43 (by decide) (hts _ (List.mem_cons_of_mem _ mw_5_84)) (fun _ h9 => h9) rfl dX12_hadOn_40 ?_
      refine lv_topi (fun y85 ey85 => ?_)
      have by85 : y85.toInt = (nu80 0 43).toInt := congrArg Int32.toInt ey85
      refine lv_iconst (v := 1) hx hb dX12_hadOn_43 (by decide) ?_
      refine lv_aload_n hx hb dX12_hadOn_44 rfl (lv_at hl 0 rfl) ?_
      refine va_get (D := (dC, dI)) (ci := 12) (v := .ref (ad 16)) (C := RX12) (T := TX12) (N := 46) hx hb hts inG12 hown hK hP 0 (gM_0 cs ad nu80) rfl 26 (by decide) (hts _ (List.mem_cons_of_mem _ mw_5_67)) (fun _ h9 => h9) rfl dX12_hadOn_45 ?_
      refine lv_iload_n hx hb dX12_hadOn_48 rfl (lv_at hl 2 rfl) ?_
      refine lv_iconst (v := 1) hx hb dX12_hadOn_49 (by decide) ?_
      refine lv_isub hx hb dX12_hadOn_50 ?_
      refine lq_i 0 (by decide) ?_
      refine va_iald hx hb hK hP 16 0 (gM_16 cs ad nu80) rfl (show vp_in 0 7 from (by unfold vp_in; decide)) dX12_hadOn_51 ?_
      refine lv_topi (fun y86 ey86 => ?_)
      have by86 : y86.toInt = (nu80 16 (0 : Int32).toNatClampNeg).toInt := congrArg Int32.toInt ey86
      have gy86 : 0 ≤ y86.toInt ∧ y86.toInt ≤ 6 := by rw [ey86]; exact rM_16_s ok (0 : Int32).toNatClampNeg
      refine lv_ishl hx hb dX12_hadOn_52 ?_
      refine lv_topi (fun t87 et87 => ?_)
      refine lv_ior hx hb dX12_hadOn_53 ?_
      refine lv_topi (fun t88 et88 => ?_)
      refine va_put (D := (dC, dI)) (ci := 12) (v := .int t88) (ty := .int) (C := RX12) (T := TX12) (N := 46) hx hb hts inG12 tyX12 tyX12_ok nmX12 hown hK hP (wR_D nu80 hD) hS 0 (gM_0 cs ad nu80) rfl 43 (by decide) (hts _ (List.mem_cons_of_mem _ mw_5_84)) (fun _ h9 => h9) rfl (by decide +kernel) rfl rfl (Nat.le_of_ble_eq_true rfl) dX12_hadOn_54 (fun H locs hP _ hS => ?_)
      simp only [List.set_cons_succ, List.set_cons_zero] at hP
      refine wr_gen (upd (nu80 0) 43 t88) hP ((hM_0_43 cs ad _ _)) (fun nu89 hn89 hP => ?_)
      have ok := tM_0_43 ok hn89
      have ez90 : y1 = nu89 2 vr.toNatClampNeg := ez81.trans (congrFun (up_k hn89 (by decide)) vr.toNatClampNeg).symm
      have ez91 : t79 = nu89 0 42 := ez84.trans (up_f hn89 (by decide)).symm
      have ez92 : y86 = nu89 16 (0 : Int32).toNatClampNeg := ey86.trans (congrFun (up_k hn89 (by decide)) (0 : Int32).toNatClampNeg).symm
      have kp93 : ∀ k : Nat, 2 ≤ k → k < 3 → nu89 k = mu k := fun k h1 h2 => (up_k hn89 (ne_lo (by decide) h1).symm).trans (kp82 k h1 h2)
      have kp94 : (∀ k f : Nat, Nat.testBit 510 (gpM k f) = true → nu89 k f = mu k f) := kp_f hn89 (by decide) kp83
      have ez95 : t88 = nu89 0 43 := up_v hn89
      refine lv_aload_n hx hb dX12_hadOn_57 rfl (lv_at hl 0 rfl) ?_
      refine lv_dup hx hb dX12_hadOn_58 rfl ?_
      refine va_get (D := (dC, dI)) (ci := 12) (v := .int (nu89 0 44)) (C := RX12) (T := TX12) (N := 46) hx hb hts inG12 hown hK hP 0 (gM_0 cs ad nu89) rfl 44 (by decide) (hts _ (List.mem_cons_of_mem _ mw_5_85)) (fun _ h9 => h9) rfl dX12_hadOn_59 ?_
      refine lv_topi (fun y96 ey96 => ?_)
      have by96 : y96.toInt = (nu89 0 44).toInt := congrArg Int32.toInt ey96
      refine lv_iload_n hx hb dX12_hadOn_62 rfl (lv_at hl 3 rfl) ?_
      refine lv_iand hx hb dX12_hadOn_63 ?_
      refine lv_topi (fun t97 et97 => ?_)
      refine va_put (D := (dC, dI)) (ci := 12) (v := .int t97) (ty := .int) (C := RX12) (T := TX12) (N := 46) hx hb hts inG12 tyX12 tyX12_ok nmX12 hown hK hP (wR_D nu89 hD) hS 0 (gM_0 cs ad nu89) rfl 44 (by decide) (hts _ (List.mem_cons_of_mem _ mw_5_85)) (fun _ h9 => h9) rfl (by decide +kernel) rfl rfl (Nat.le_of_ble_eq_true rfl) dX12_hadOn_64 (fun H locs hP _ hS => ?_)
      simp only [List.set_cons_succ, List.set_cons_zero] at hP
      refine wr_gen (upd (nu89 0) 44 t97) hP ((hM_0_44 cs ad _ _)) (fun nu98 hn98 hP => ?_)
      have ok := tM_0_44 ok hn98
      have ez99 : y1 = nu98 2 vr.toNatClampNeg := ez90.trans (congrFun (up_k hn98 (by decide)) vr.toNatClampNeg).symm
      have ez100 : t79 = nu98 0 42 := ez91.trans (up_f hn98 (by decide)).symm
      have ez101 : y86 = nu98 16 (0 : Int32).toNatClampNeg := ez92.trans (congrFun (up_k hn98 (by decide)) (0 : Int32).toNatClampNeg).symm
      have ez102 : t88 = nu98 0 43 := ez95.trans (up_f hn98 (by decide)).symm
      have kp103 : ∀ k : Nat, 2 ≤ k → k < 3 → nu98 k = mu k := fun k h1 h2 => (up_k hn98 (ne_lo (by decide) h1).symm).trans (kp93 k h1 h2)
      have kp104 : (∀ k f : Nat, Nat.testBit 510 (gpM k f) = true → nu98 k f = mu k f) := kp_f hn98 (by decide) kp94
      have ez105 : t97 = nu98 0 44 := up_v hn98
      exact W.vret hx hb hr (fun t ht hW => ⟨⟨nu98, rfl, ⟨ok, trivial, kp103, kp104⟩, by first | (subst ht; exact hP) | (rw [ht]; exact hP) | (show va_P (dC, dI) vwCl (wR 21 ad (EM cs ad) nu98) t.heap; rw [ht]; exact hP)⟩, hS.F ht⟩) hS.2.2 dX12_hadOn_67
set_option maxHeartbeats 4000000 in
set_option maxRecDepth 100000 in
/-- sm_askedHad -/
theorem sm_askedHad (l : Launch) (dC : Nat → ClassId) (dI : Nat → Nat → Nat) (cs : Nat → ClassId) (ad : Nat → Nat) (mu : Nat → Nat → Int32) (ok : okR loM hiM mu) (H : Heap) (hP : va_P (dC, dI) vwCl (wR 21 ad (EM cs ad) mu) H) (hD0 : va_D (fun _ => True) (wR 21 ad (EM cs ad) mu)) (vx : Int32) (vr : Int32) : Met l yX12_askedHad (wU yX12_askedHad cX12_askedHad 4 (some .int)) ({ frames := 8, cells := 0, slots := 0, locals := 226 }) (va_Pc [.ref (ad 0), .int vx, .int vr] (sz_P (dC, dI) vwCl (tyM cs) H)) (va_Qi (fun (z : Int32) (xi : Nat → Nat → Int32) => (z = 0 ∧ okR loM hiM xi ∧ (0 ≤ vx.toInt ∧ vx.toInt ≤ 6 ∧ 0 ≤ vr.toInt ∧ vr.toInt ≤ 5 ∧ 0 ≤ (xi 2 vr.toNatClampNeg).toInt ∧ (xi 2 vr.toNatClampNeg).toInt ≤ 6) ∧ (∀ k f : Nat, Nat.testBit 510 (gpM k f) = true → xi k f = mu k f)) ∨ (z.toInt < 0 ∧ okR loM hiM xi ∧ (∀ k f : Nat, Nat.testBit 510 (gpM k f) = true → xi k f = mu k f))) (fun xi t => va_P (dC, dI) vwCl (wR 21 ad (EM cs ad) xi) t.heap) (va_A (wR 21 ad (EM cs ad) mu) H.size)) 0 0 (va_A (wR 21 ad (EM cs ad) mu) H.size) := by
  refine Met.ofW (cc := cX12_askedHad) (maxL := 4) (ret := (some .int)) (by decide) rfl ?_
  intro p e s m args below meth c s₁ B hml hv
  obtain ⟨rfl, hh, hK, hz⟩ := hv
  have hx := B.exec
  have hb := B.bytes
  have hr := B.returns
  have hts := atoms_spec (ws := (wU yX12_askedHad cX12_askedHad 4 (some .int))) B.pre
  have hown : s.vm.findClass RX12 = some m.cls := findClass_of_methodNamed B.named
  have hlocks := B.notSynchronized
  subst hh
  have hD := hD0.self (sz := s.heap.size)
  have hA : ∀ q : Nat, s.heap.size ≤ q → (va_A (wR 21 ad (EM cs ad) mu) s.heap.size) q := fun q h => Or.inr h
  have hS : va_S (va_A (wR 21 ad (EM cs ad) mu) s.heap.size) s.heap s.heap [] := va_S.rf
  have hl := lv_entry ([.ref (ad 0), .int vx, .int vr]) (n := 4) (Nat.le_of_ble_eq_true rfl)
  rw [lg_entry_eq]
  generalize (lg_sl ([.ref (ad 0), .int vx, .int vr]) ++ List.replicate (4 - (lg_sl ([.ref (ad 0), .int vx, .int vr])).length) Slot.unset).toArray = ls at hl ⊢
  have hl : lv_has ls 4 [(0, .ref (ad 0)), (1, .int vx), (2, .int vr)] := hl
  refine lv_aload_n hx hb dX12_askedHad_0 rfl (lv_at hl 0 rfl) ?_
  refine lv_iload_n hx hb dX12_askedHad_1 rfl (lv_at hl 1 rfl) ?_
  refine cr_i (va_runV (As := [.int vx]) (rest := []) ⟨hx, hb, hml, hown, hts⟩ (sm_isOne l dC dI cs ad mu ok s.heap hP vx) (cwV 1 hts (wU_V mw_6_40 mw_6_37 mw_6_39 mw_0_36 mw_1_13) rfl rfl rfl (by decide +kernel) ⟨Nat.le_of_ble_eq_true rfl, Nat.le_of_ble_eq_true rfl⟩) ⟨sz_c, va_recv hK hP (ci := 12) (q0 := 0) rfl (gM_0 cs ad mu), sz_m hK hz⟩ rfl rfl hl.1 rfl (lv_room (Nat.le_of_ble_eq_true rfl)) dX12_askedHad_2 ⟨Nat.zero_le _, Nat.zero_le _⟩) hS (fun r1 hw1 locs hS => ?_)
  obtain ⟨hfe1, hw1⟩ := hw1
  rcases hw1 with ⟨rfl, f1⟩ | ⟨rfl, f1⟩
  · have f1 : 0 ≤ vx.toInt ∧ vx.toInt < (mu 0 8).toInt ∧ (mu 0 8).toInt ≤ 7 := f1
    refine lv_if_ne (tgt := 10) hx hb dX12_askedHad_5 (by decide) (fun _ => ?_) (fun c => absurd c (by decide))
    refine lv_aload_n hx hb dX12_askedHad_10 rfl (lv_at hl 0 rfl) ?_
    refine lv_iload_n hx hb dX12_askedHad_11 rfl (lv_at hl 2 rfl) ?_
    have hFc := fr_all (wR_D mu hD) hS hA
    refine va_calli (va_runV (As := [.int vr]) (rest := []) ⟨hx, hb, hml, hown, hts⟩ (sm_askedRow l dC dI cs ad mu ok s.heap hP ((wR_D mu hD).weaken (fun _ _ _ _ => trivial)) vr) (cwV 1 hts (wU_V mw_5_205 mw_5_202 mw_5_204 mw_0_28 mw_1_13) rfl rfl rfl (by decide +kernel) ⟨Nat.le_of_ble_eq_true rfl, Nat.le_of_ble_eq_true rfl⟩) ⟨sz_c, va_recv hK hP (ci := 12) (q0 := 0) rfl (gM_0 cs ad mu), sz_m hK hz⟩ rfl rfl hl.1 rfl (lv_room (Nat.le_of_ble_eq_true rfl)) dX12_askedHad_12 ⟨Nat.zero_le _, Nat.zero_le _⟩) hS (fun q _ h => hFc q h) hFc (fun r2 xi2 t H2 locs ht hvm hw2 hB hz1 hk1 hS => ?_)
    have hP : va_P (dC, dI) vwCl (wR 21 ad (EM cs ad) xi2) H2 := by rw [← ht]; exact hB
    obtain ⟨hfe2, hw2⟩ := hw2
    rcases hw2 with ⟨rfl, hxi2, f2⟩ | ⟨z2, ok, hkp2_0⟩
    · have hP : va_P (dC, dI) vwCl (wR 21 ad (EM cs ad) mu) H2 := by rw [← hxi2]; exact hP
      have f2 : 0 ≤ vr.toInt ∧ vr.toInt ≤ 5 ∧ 0 ≤ (mu 2 vr.toNatClampNeg).toInt := f2
      refine lv_istore_n (lv' := [(3, .int 0), (0, .ref (ad 0)), (1, .int vx), (2, .int vr)]) hx hb dX12_askedHad_15 rfl hl (by decide) rfl (fun ls hl => ?_)
      refine lv_iload_n hx hb dX12_askedHad_16 rfl (lv_at hl 0 rfl) ?_
      refine lv_if_ge (tgt := 22) hx hb dX12_askedHad_17 (by decide) (fun _ => ?_) (fun c => absurd (by decide) c)
      refine lv_aload_n hx hb dX12_askedHad_22 rfl (lv_at hl 1 rfl) ?_
      refine va_get (D := (dC, dI)) (ci := 12) (v := .ref (ad 2)) (C := RX12) (T := TX12) (N := 46) hx hb hts inG12 hown hK hP 0 (gM_0 cs ad mu) rfl 3 (by decide) (hts _ (List.mem_cons_of_mem _ mw_5_44)) (fun _ h9 => h9) rfl dX12_askedHad_23 ?_
      refine lv_iload_n hx hb dX12_askedHad_26 rfl (lv_at hl 3 rfl) ?_
      refine va_iald hx hb hK hP 2 0 (gM_2 cs ad mu) rfl (show vp_in vr 6 from vi_of (by omega) (by omega)) dX12_askedHad_27 ?_
      refine lv_topi (fun y4 ey4 => ?_)
      have by4 : y4.toInt = (mu 2 vr.toNatClampNeg).toInt := congrArg Int32.toInt ey4
      have gy4 : -9 ≤ y4.toInt ∧ y4.toInt ≤ 40 := by rw [ey4]; exact rM_2_s ok vr.toNatClampNeg
      refine lv_bipush (v := 6) hx hb dX12_askedHad_28 (by decide) ?_
      refine lv_icmp_le (tgt := 39) hx hb dX12_askedHad_30 (by decide) (fun c_5 => ?_) (fun c_5 => ?_)
      · have c_5 : y4.toInt ≤ 6 := il_le c_5
        refine lv_aload_n hx hb dX12_askedHad_39 rfl (lv_at hl 1 rfl) ?_
        refine lv_iconst (v := 0) hx hb dX12_askedHad_40 (by decide) ?_
        refine va_put (D := (dC, dI)) (ci := 12) (v := .int 0) (ty := .int) (C := RX12) (T := TX12) (N := 46) hx hb hts inG12 tyX12 tyX12_ok nmX12 hown hK hP (wR_D mu hD) hS 0 (gM_0 cs ad mu) rfl 42 (by decide) (hts _ (List.mem_cons_of_mem _ mw_5_83)) (fun _ h9 => h9) rfl (by decide +kernel) rfl rfl (Nat.le_of_ble_eq_true rfl) dX12_askedHad_41 (fun H locs hP _ hS => ?_)
        simp only [List.set_cons_succ, List.set_cons_zero] at hP
        refine wr_gen (upd (mu 0) 42 0) hP ((hM_0_42 cs ad _ _)) (fun nu6 hn6 hP => ?_)
        have ok := tM_0_42 ok hn6
        have ez7 : y4 = nu6 2 vr.toNatClampNeg := ey4.trans (congrFun (up_k hn6 (by decide)) vr.toNatClampNeg).symm
        have kp8 : (∀ k f : Nat, Nat.testBit 510 (gpM k f) = true → nu6 k f = mu k f) := kp_f hn6 (by decide) (fun _ _ _ => rfl)
        have ez9 : 0 = nu6 0 42 := up_v hn6
        refine lv_aload_n hx hb dX12_askedHad_44 rfl (lv_at hl 1 rfl) ?_
        refine lv_iconst (v := 0) hx hb dX12_askedHad_45 (by decide) ?_
        refine va_put (D := (dC, dI)) (ci := 12) (v := .int 0) (ty := .int) (C := RX12) (T := TX12) (N := 46) hx hb hts inG12 tyX12 tyX12_ok nmX12 hown hK hP (wR_D nu6 hD) hS 0 (gM_0 cs ad nu6) rfl 43 (by decide) (hts _ (List.mem_cons_of_mem _ mw_5_84)) (fun _ h9 => h9) rfl (by decide +kernel) rfl rfl (Nat.le_of_ble_eq_true rfl) dX12_askedHad_46 (fun H locs hP _ hS => ?_)
        simp only [List.set_cons_succ, List.set_cons_zero] at hP
        refine wr_gen (upd (nu6 0) 43 0) hP ((hM_0_43 cs ad _ _)) (fun nu10 hn10 hP => ?_)
        have ok := tM_0_43 ok hn10
        have ez11 : y4 = nu10 2 vr.toNatClampNeg := ez7.trans (congrFun (up_k hn10 (by decide)) vr.toNatClampNeg).symm
        have ez12 : 0 = nu10 0 42 := ez9.trans (up_f hn10 (by decide)).symm
        have kp13 : (∀ k f : Nat, Nat.testBit 510 (gpM k f) = true → nu10 k f = mu k f) := kp_f hn10 (by decide) kp8
        have ez14 : 0 = nu10 0 43 := up_v hn10
        refine lv_aload_n hx hb dX12_askedHad_49 rfl (lv_at hl 1 rfl) ?_
        refine lv_bipush (v := 127) hx hb dX12_askedHad_50 (by decide) ?_
        refine va_put (D := (dC, dI)) (ci := 12) (v := .int 127) (ty := .int) (C := RX12) (T := TX12) (N := 46) hx hb hts inG12 tyX12 tyX12_ok nmX12 hown hK hP (wR_D nu10 hD) hS 0 (gM_0 cs ad nu10) rfl 44 (by decide) (hts _ (List.mem_cons_of_mem _ mw_5_85)) (fun _ h9 => h9) rfl (by decide +kernel) rfl rfl (Nat.le_of_ble_eq_true rfl) dX12_askedHad_52 (fun H locs hP _ hS => ?_)
        simp only [List.set_cons_succ, List.set_cons_zero] at hP
        refine wr_gen (upd (nu10 0) 44 127) hP ((hM_0_44 cs ad _ _)) (fun nu15 hn15 hP => ?_)
        have ok := tM_0_44 ok hn15
        have ez16 : y4 = nu15 2 vr.toNatClampNeg := ez11.trans (congrFun (up_k hn15 (by decide)) vr.toNatClampNeg).symm
        have ez17 : 0 = nu15 0 42 := ez12.trans (up_f hn15 (by decide)).symm
        have ez18 : 0 = nu15 0 43 := ez14.trans (up_f hn15 (by decide)).symm
        have kp19 : (∀ k f : Nat, Nat.testBit 510 (gpM k f) = true → nu15 k f = mu k f) := kp_f hn15 (by decide) kp13
        have ez20 : 127 = nu15 0 44 := up_v hn15
        refine lv_aload_n hx hb dX12_askedHad_55 rfl (lv_at hl 1 rfl) ?_
        refine va_get (D := (dC, dI)) (ci := 12) (v := .ref (ad 16)) (C := RX12) (T := TX12) (N := 46) hx hb hts inG12 hown hK hP 0 (gM_0 cs ad nu15) rfl 26 (by decide) (hts _ (List.mem_cons_of_mem _ mw_5_67)) (fun _ h9 => h9) rfl dX12_askedHad_56 ?_
        refine lv_iconst (v := 0) hx hb dX12_askedHad_59 (by decide) ?_
        refine lv_iload_n hx hb dX12_askedHad_60 rfl (lv_at hl 2 rfl) ?_
        refine va_iast hx hb hK hP (wR_D nu15 hD) hS 16 0 (gM_16 cs ad nu15) rfl (show vp_in 0 7 from (by unfold vp_in; decide)) dX12_askedHad_61 (fun H locs hP _ hS => ?_)
        refine wr_gen (upd (nu15 16) (0 : Int32).toNatClampNeg vx) hP (rfl) (fun nu21 hn21 hP => ?_)
        have ok := tM_16_s ok (0 : Int32).toNatClampNeg hn21 (by omega)
        have ez22 : y4 = nu21 2 vr.toNatClampNeg := ez16.trans (congrFun (up_k hn21 (by decide)) vr.toNatClampNeg).symm
        have ez23 : 0 = nu21 0 42 := ez17.trans (congrFun (up_k hn21 (by decide)) 42).symm
        have ez24 : 0 = nu21 0 43 := ez18.trans (congrFun (up_k hn21 (by decide)) 43).symm
        have ez25 : 127 = nu21 0 44 := ez20.trans (congrFun (up_k hn21 (by decide)) 44).symm
        have kp26 : (∀ k f : Nat, Nat.testBit 510 (gpM k f) = true → nu21 k f = mu k f) := kp_c 0 hn21 (fun _ => rfl) (by decide) kp19
        refine lv_aload_n hx hb dX12_askedHad_62 rfl (lv_at hl 1 rfl) ?_
        refine lv_iload_n hx hb dX12_askedHad_63 rfl (lv_at hl 3 rfl) ?_
        refine lv_iconst (v := 1) hx hb dX12_askedHad_64 (by decide) ?_
        refine lv_iconst (v := 1) hx hb dX12_askedHad_65 (by decide) ?_
        refine lv_iload_n hx hb dX12_askedHad_66 rfl (lv_at hl 2 rfl) ?_
        refine lv_ishl hx hb dX12_askedHad_67 ?_
        refine lv_topi (fun t27 et27 => ?_)
        refine lv_iconst (v := 0) hx hb dX12_askedHad_68 (by decide) ?_
        have hFc := fr_all (wR_D nu21 hD) hS hA
        refine va_callv (va_runV (As := [.int vr, .int 1, .int t27, .int 0]) (rest := []) ⟨hx, hb, hml, hown, hts⟩ (sm_hadOn1 l dC dI cs ad nu21 ok H hP ((wR_D nu21 hD).weaken (fun _ _ _ _ => trivial)) vr t27 0 (by have h51 : (1 : Int32).toInt = 1 := rfl; have h53 : (0 : Int32).toInt = 0 := rfl; omega) (by have h51 : (1 : Int32).toInt = 1 := rfl; have h53 : (0 : Int32).toInt = 0 := rfl; have hb28 := congrArg Int32.toInt ez22; omega)) (cwV 4 hts (wU_V mw_7_24 mw_7_21 mw_7_23 mw_0_62 mw_1_13) rfl rfl rfl (by decide +kernel) ⟨Nat.le_of_ble_eq_true rfl, Nat.le_of_ble_eq_true rfl⟩) ⟨sz_c, va_recv hK hP (ci := 12) (q0 := 0) rfl (gM_0 cs ad nu21), sz_m hK hz⟩ rfl rfl hl.1 rfl (lv_room (Nat.le_of_ble_eq_true rfl)) dX12_askedHad_69 ⟨Nat.zero_le _, Nat.zero_le _⟩) hS (fun q _ h => hFc q h) hFc (fun xi29 t H29 locs ht hvm hw29 hB hz1 hk1 hS => ?_)
        have hP : va_P (dC, dI) vwCl (wR 21 ad (EM cs ad) xi29) H29 := by rw [← ht]; exact hB
        obtain ⟨ok, hw29, hkp29_0, hkp29_1⟩ := hw29
        have ez30 : y4 = xi29 2 vr.toNatClampNeg := ez22.trans (congrFun (hkp29_0 2 (by decide) (by decide)) vr.toNatClampNeg).symm
        have kp31 : (∀ k f : Nat, Nat.testBit 510 (gpM k f) = true → xi29 k f = mu k f) := kp_t hkp29_1 (by decide) kp26
        refine lv_iconst (v := 0) hx hb dX12_askedHad_72 (by decide) ?_
        exact W.iret (v := 0) hx hb hr (fun t ht hW => ⟨⟨0, xi29, rfl, Or.inl ⟨rfl, ok, (by first | assumption | (rw [← ez30, ey4]; assumption) | (have hb32 := congrArg Int32.toInt ez30; omega)), kp31⟩, by first | (subst ht; exact hP) | (rw [ht]; exact hP) | (show va_P (dC, dI) vwCl (wR 21 ad (EM cs ad) xi29) t.heap; rw [ht]; exact hP)⟩, hS.F ht⟩) hS.2.2 dX12_askedHad_73
      · have c_5 : 6 < y4.toInt := il_nle c_5
        refine lv_aload_n hx hb dX12_askedHad_33 rfl (lv_at hl 1 rfl) ?_
        refine lv_iconst (v := 5) hx hb dX12_askedHad_34 (by decide) ?_
        have hFc := fr_all (wR_D mu hD) hS hA
        refine va_calli (va_runV (As := [.int 5]) (rest := []) ⟨hx, hb, hml, hown, hts⟩ (sm_meet l dC dI cs ad mu ok H2 hP ((wR_D mu hD).weaken (fun _ _ _ _ => trivial)) 5 (by have h50 : (5 : Int32).toInt = 5 := rfl; omega)) (cwV 1 hts (wU_V mw_5_193 mw_5_190 mw_5_192 mw_0_26 mw_1_13) rfl rfl rfl (by decide +kernel) ⟨Nat.le_of_ble_eq_true rfl, Nat.le_of_ble_eq_true rfl⟩) ⟨sz_c, va_recv hK hP (ci := 12) (q0 := 0) rfl (gM_0 cs ad mu), sz_m hK hz⟩ rfl rfl hl.1 rfl (lv_room (Nat.le_of_ble_eq_true rfl)) dX12_askedHad_35 ⟨Nat.zero_le _, Nat.zero_le _⟩) hS (fun q _ h => hFc q h) hFc (fun r33 xi33 t H33 locs ht hvm hw33 hB hz1 hk1 hS => ?_)
        have hP : va_P (dC, dI) vwCl (wR 21 ad (EM cs ad) xi33) H33 := by rw [← ht]; exact hB
        obtain ⟨hfe33, ok, hw33, hkp33_0⟩ := hw33
        have kp34 : (∀ k f : Nat, Nat.testBit 510 (gpM k f) = true → xi33 k f = mu k f) := kp_t hkp33_0 (by decide) (fun _ _ _ => rfl)
        have gr33 : -3 ≤ r33.toInt ∧ r33.toInt ≤ -3 := hw33
        exact W.iret (v := r33) hx hb hr (fun t ht hW => ⟨⟨r33, xi33, rfl, Or.inr ⟨by omega, ok, kp34⟩, by first | (subst ht; exact hP) | (rw [ht]; exact hP) | (show va_P (dC, dI) vwCl (wR 21 ad (EM cs ad) xi33) t.heap; rw [ht]; exact hP)⟩, hS.F ht⟩) hS.2.2 dX12_askedHad_38
    · have kp3 : (∀ k f : Nat, Nat.testBit 510 (gpM k f) = true → xi2 k f = mu k f) := kp_t hkp2_0 (by decide) (fun _ _ _ => rfl)
      skip
      refine lv_istore_n (lv' := [(3, .int r2), (0, .ref (ad 0)), (1, .int vx), (2, .int vr)]) hx hb dX12_askedHad_15 rfl hl (by decide) rfl (fun ls hl => ?_)
      refine lv_iload_n hx hb dX12_askedHad_16 rfl (lv_at hl 0 rfl) ?_
      refine lv_if_ge (tgt := 22) hx hb dX12_askedHad_17 (by decide) (fun c_35 => by have c_35 : 0 ≤ r2.toInt := il_le c_35; exfalso; omega) (fun c_35 => ?_)
      have c_35 : r2.toInt < 0 := il_nle c_35
      refine lv_iload_n hx hb dX12_askedHad_20 rfl (lv_at hl 0 rfl) ?_
      exact W.iret (v := r2) hx hb hr (fun t ht hW => ⟨⟨r2, xi2, rfl, Or.inr ⟨by omega, ok, kp3⟩, by first | (subst ht; exact hP) | (rw [ht]; exact hP) | (show va_P (dC, dI) vwCl (wR 21 ad (EM cs ad) xi2) t.heap; rw [ht]; exact hP)⟩, hS.F ht⟩) hS.2.2 dX12_askedHad_21
  · have f1 : vx.toInt < 0 ∨ (mu 0 8).toInt ≤ vx.toInt := f1
    refine lv_if_ne (tgt := 10) hx hb dX12_askedHad_5 (by decide) (fun c => absurd (by decide) c) (fun _ => ?_)
    refine lv_iconst (v := (-1)) hx hb dX12_askedHad_8 (by decide) ?_
    exact W.iret (v := (-1)) hx hb hr (fun t ht hW => ⟨⟨(-1), mu, rfl, Or.inr ⟨by decide, ok, (fun _ _ _ => rfl)⟩, by first | (subst ht; exact hP) | (rw [ht]; exact hP) | (show va_P (dC, dI) vwCl (wR 21 ad (EM cs ad) mu) t.heap; rw [ht]; exact hP)⟩, hS.F ht⟩) hS.2.2 dX12_askedHad_9
set_option maxHeartbeats 4000000 in
set_option maxRecDepth 100000 in
/-- qm_had -/
theorem qm_had (l : Launch) (dC : Nat → ClassId) (dI : Nat → Nat → Nat) (cs : Nat → ClassId) (ad : Nat → Nat) (mu : Nat → Nat → Int32) (ok : okR loM hiM mu) (H : Heap) (hP : va_P (dC, dI) vwCl (wR 21 ad (EM cs ad) mu) H) (hD0 : va_D (fun _ => True) (wR 21 ad (EM cs ad) mu)) (vx : Int32) (vr : Int32) : Met l yX12_had (wU yX12_had cX12_had 4 (some .int)) ({ frames := 9, cells := 0, slots := 0, locals := 249 }) (va_Pc [.ref (ad 0), .int vx, .int vr] (sz_P (dC, dI) vwCl (tyM cs) H)) (va_Qi (fun (z : Int32) (xi : Nat → Nat → Int32) => okR loM hiM xi ∧ (True) ∧ (∀ k f : Nat, Nat.testBit 510 (gpM k f) = true → xi k f = mu k f)) (fun xi t => va_P (dC, dI) vwCl (wR 21 ad (EM cs ad) xi) t.heap) (va_A (wR 21 ad (EM cs ad) mu) H.size)) 0 0 (va_A (wR 21 ad (EM cs ad) mu) H.size) := by
  refine Met.ofW (cc := cX12_had) (maxL := 4) (ret := (some .int)) (by decide) rfl ?_
  intro p e s m args below meth c s₁ B hml hv
  obtain ⟨rfl, hh, hK, hz⟩ := hv
  have hx := B.exec
  have hb := B.bytes
  have hr := B.returns
  have hts := atoms_spec (ws := (wU yX12_had cX12_had 4 (some .int))) B.pre
  have hown : s.vm.findClass RX12 = some m.cls := findClass_of_methodNamed B.named
  have hlocks := B.notSynchronized
  subst hh
  have hD := hD0.self (sz := s.heap.size)
  have hA : ∀ q : Nat, s.heap.size ≤ q → (va_A (wR 21 ad (EM cs ad) mu) s.heap.size) q := fun q h => Or.inr h
  have hS : va_S (va_A (wR 21 ad (EM cs ad) mu) s.heap.size) s.heap s.heap [] := va_S.rf
  have hl := lv_entry ([.ref (ad 0), .int vx, .int vr]) (n := 4) (Nat.le_of_ble_eq_true rfl)
  rw [lg_entry_eq]
  generalize (lg_sl ([.ref (ad 0), .int vx, .int vr]) ++ List.replicate (4 - (lg_sl ([.ref (ad 0), .int vx, .int vr])).length) Slot.unset).toArray = ls at hl ⊢
  have hl : lv_has ls 4 [(0, .ref (ad 0)), (1, .int vx), (2, .int vr)] := hl
  refine lv_aload_n hx hb dX12_had_0 rfl (lv_at hl 0 rfl) ?_
  refine lv_iload_n hx hb dX12_had_1 rfl (lv_at hl 1 rfl) ?_
  refine lv_iload_n hx hb dX12_had_2 rfl (lv_at hl 2 rfl) ?_
  have hFc := fr_all (wR_D mu hD) hS hA
  refine va_calli (va_runV (As := [.int vx, .int vr]) (rest := []) ⟨hx, hb, hml, hown, hts⟩ (sm_askedHad l dC dI cs ad mu ok s.heap hP ((wR_D mu hD).weaken (fun _ _ _ _ => trivial)) vx vr) (cwV 2 hts (wU_V mw_7_20 mw_7_17 mw_7_19 mw_0_61 mw_1_13) rfl rfl rfl (by decide +kernel) ⟨Nat.le_of_ble_eq_true rfl, Nat.le_of_ble_eq_true rfl⟩) ⟨sz_c, va_recv hK hP (ci := 12) (q0 := 0) rfl (gM_0 cs ad mu), sz_m hK hz⟩ rfl rfl hl.1 rfl (lv_room (Nat.le_of_ble_eq_true rfl)) dX12_had_3 ⟨Nat.zero_le _, Nat.zero_le _⟩) hS (fun q _ h => hFc q h) hFc (fun r1 xi1 t H1 locs ht hvm hw1 hB hz1 hk1 hS => ?_)
  have hP : va_P (dC, dI) vwCl (wR 21 ad (EM cs ad) xi1) H1 := by rw [← ht]; exact hB
  rcases hw1 with ⟨rfl, ok, f1, hkp1_0⟩ | ⟨z1, ok, hkp1_0⟩
  · have kp2 : (∀ k f : Nat, Nat.testBit 510 (gpM k f) = true → xi1 k f = mu k f) := kp_t hkp1_0 (by decide) (fun _ _ _ => rfl)
    have f1 : 0 ≤ vx.toInt ∧ vx.toInt ≤ 6 ∧ 0 ≤ vr.toInt ∧ vr.toInt ≤ 5 ∧ 0 ≤ (xi1 2 vr.toNatClampNeg).toInt ∧ (xi1 2 vr.toNatClampNeg).toInt ≤ 6 := f1
    refine lv_istore_n (lv' := [(3, .int 0), (0, .ref (ad 0)), (1, .int vx), (2, .int vr)]) hx hb dX12_had_6 rfl hl (by decide) rfl (fun ls hl => ?_)
    refine lv_iload_n hx hb dX12_had_7 rfl (lv_at hl 0 rfl) ?_
    refine lv_if_ge (tgt := 15) hx hb dX12_had_8 (by decide) (fun _ => ?_) (fun c => absurd (by decide) c)
    refine lv_aload_n hx hb dX12_had_15 rfl (lv_at hl 1 rfl) ?_
    refine lv_aload_n hx hb dX12_had_16 rfl (lv_at hl 1 rfl) ?_
    refine va_get (D := (dC, dI)) (ci := 12) (v := .int (xi1 0 43)) (C := RX12) (T := TX12) (N := 46) hx hb hts inG12 hown hK hP 0 (gM_0 cs ad xi1) rfl 43 (by decide) (hts _ (List.mem_cons_of_mem _ mw_5_84)) (fun _ h9 => h9) rfl dX12_had_17 ?_
    refine lv_topi (fun y4 ey4 => ?_)
    have by4 : y4.toInt = (xi1 0 43).toInt := congrArg Int32.toInt ey4
    refine lv_aload_n hx hb dX12_had_20 rfl (lv_at hl 1 rfl) ?_
    refine va_get (D := (dC, dI)) (ci := 12) (v := .int (xi1 0 42)) (C := RX12) (T := TX12) (N := 46) hx hb hts inG12 hown hK hP 0 (gM_0 cs ad xi1) rfl 42 (by decide) (hts _ (List.mem_cons_of_mem _ mw_5_83)) (fun _ h9 => h9) rfl dX12_had_21 ?_
    refine lv_topi (fun y5 ey5 => ?_)
    have by5 : y5.toInt = (xi1 0 42).toInt := congrArg Int32.toInt ey5
    have hFc := fr_all (wR_D xi1 hD) hS hA
    refine va_calli (va_runV (As := [.int y4, .int y5]) (rest := []) ⟨hx, hb, hml, hown, hts⟩ (sm_ask l dC dI cs ad xi1 ok H1 hP ((wR_D xi1 hD).weaken (fun _ _ _ _ => trivial)) y4 y5) (cwV 2 hts (wU_V mw_5_213 mw_5_210 mw_5_212 mw_0_30 mw_1_13) rfl rfl rfl (by decide +kernel) ⟨Nat.le_of_ble_eq_true rfl, Nat.le_of_ble_eq_true rfl⟩) ⟨sz_c, va_recv hK hP (ci := 12) (q0 := 0) rfl (gM_0 cs ad xi1), sz_m hK hz⟩ rfl rfl hl.1 rfl (lv_room (Nat.le_of_ble_eq_true rfl)) dX12_had_24 ⟨Nat.zero_le _, Nat.zero_le _⟩) hS (fun q _ h => hFc q h) hFc (fun r6 xi6 t H6 locs ht hvm hw6 hB hz1 hk1 hS => ?_)
    have hP : va_P (dC, dI) vwCl (wR 21 ad (EM cs ad) xi6) H6 := by rw [← ht]; exact hB
    obtain ⟨hfe6, ok, hw6, hkp6_0⟩ := hw6
    have kp7 : (∀ k f : Nat, Nat.testBit 510 (gpM k f) = true → xi6 k f = mu k f) := kp_t hkp6_0 (by decide) kp2
    have gr6 : r6.toInt = y5.toInt := hw6
    exact W.iret (v := r6) hx hb hr (fun t ht hW => ⟨⟨r6, xi6, rfl, ⟨ok, trivial, kp7⟩, by first | (subst ht; exact hP) | (rw [ht]; exact hP) | (show va_P (dC, dI) vwCl (wR 21 ad (EM cs ad) xi6) t.heap; rw [ht]; exact hP)⟩, hS.F ht⟩) hS.2.2 dX12_had_27
  · have kp3 : (∀ k f : Nat, Nat.testBit 510 (gpM k f) = true → xi1 k f = mu k f) := kp_t hkp1_0 (by decide) (fun _ _ _ => rfl)
    skip
    refine lv_istore_n (lv' := [(3, .int r1), (0, .ref (ad 0)), (1, .int vx), (2, .int vr)]) hx hb dX12_had_6 rfl hl (by decide) rfl (fun ls hl => ?_)
    refine lv_iload_n hx hb dX12_had_7 rfl (lv_at hl 0 rfl) ?_
    refine lv_if_ge (tgt := 15) hx hb dX12_had_8 (by decide) (fun c_8 => by have c_8 : 0 ≤ r1.toInt := il_le c_8; exfalso; omega) (fun c_8 => ?_)
    have c_8 : r1.toInt < 0 := il_nle c_8
    refine lv_iload_n hx hb dX12_had_11 rfl (lv_at hl 0 rfl) ?_
    refine lv_goto (tgt := 27) hx hb dX12_had_12 (by decide) ?_
    exact W.iret (v := r1) hx hb hr (fun t ht hW => ⟨⟨r1, xi1, rfl, ⟨ok, trivial, kp3⟩, by first | (subst ht; exact hP) | (rw [ht]; exact hP) | (show va_P (dC, dI) vwCl (wR 21 ad (EM cs ad) xi1) t.heap; rw [ht]; exact hP)⟩, hS.F ht⟩) hS.2.2 dX12_had_27
set_option maxHeartbeats 4000000 in
set_option maxRecDepth 100000 in
/-- qm_sure -/
theorem qm_sure (l : Launch) (dC : Nat → ClassId) (dI : Nat → Nat → Nat) (cs : Nat → ClassId) (ad : Nat → Nat) (mu : Nat → Nat → Int32) (ok : okR loM hiM mu) (H : Heap) (hP : va_P (dC, dI) vwCl (wR 21 ad (EM cs ad) mu) H) (hD0 : va_D (fun _ => True) (wR 21 ad (EM cs ad) mu)) (vx : Int32) (vr : Int32) : Met l yX12_sure (wU yX12_sure cX12_sure 4 (some .int)) ({ frames := 9, cells := 0, slots := 0, locals := 249 }) (va_Pc [.ref (ad 0), .int vx, .int vr] (sz_P (dC, dI) vwCl (tyM cs) H)) (va_Qi (fun (z : Int32) (xi : Nat → Nat → Int32) => okR loM hiM xi ∧ (True) ∧ (∀ k f : Nat, Nat.testBit 510 (gpM k f) = true → xi k f = mu k f)) (fun xi t => va_P (dC, dI) vwCl (wR 21 ad (EM cs ad) xi) t.heap) (va_A (wR 21 ad (EM cs ad) mu) H.size)) 0 0 (va_A (wR 21 ad (EM cs ad) mu) H.size) := by
  refine Met.ofW (cc := cX12_sure) (maxL := 4) (ret := (some .int)) (by decide) rfl ?_
  intro p e s m args below meth c s₁ B hml hv
  obtain ⟨rfl, hh, hK, hz⟩ := hv
  have hx := B.exec
  have hb := B.bytes
  have hr := B.returns
  have hts := atoms_spec (ws := (wU yX12_sure cX12_sure 4 (some .int))) B.pre
  have hown : s.vm.findClass RX12 = some m.cls := findClass_of_methodNamed B.named
  have hlocks := B.notSynchronized
  subst hh
  have hD := hD0.self (sz := s.heap.size)
  have hA : ∀ q : Nat, s.heap.size ≤ q → (va_A (wR 21 ad (EM cs ad) mu) s.heap.size) q := fun q h => Or.inr h
  have hS : va_S (va_A (wR 21 ad (EM cs ad) mu) s.heap.size) s.heap s.heap [] := va_S.rf
  have hl := lv_entry ([.ref (ad 0), .int vx, .int vr]) (n := 4) (Nat.le_of_ble_eq_true rfl)
  rw [lg_entry_eq]
  generalize (lg_sl ([.ref (ad 0), .int vx, .int vr]) ++ List.replicate (4 - (lg_sl ([.ref (ad 0), .int vx, .int vr])).length) Slot.unset).toArray = ls at hl ⊢
  have hl : lv_has ls 4 [(0, .ref (ad 0)), (1, .int vx), (2, .int vr)] := hl
  refine lv_aload_n hx hb dX12_sure_0 rfl (lv_at hl 0 rfl) ?_
  refine lv_iload_n hx hb dX12_sure_1 rfl (lv_at hl 1 rfl) ?_
  refine lv_iload_n hx hb dX12_sure_2 rfl (lv_at hl 2 rfl) ?_
  have hFc := fr_all (wR_D mu hD) hS hA
  refine va_calli (va_runV (As := [.int vx, .int vr]) (rest := []) ⟨hx, hb, hml, hown, hts⟩ (sm_askedHad l dC dI cs ad mu ok s.heap hP ((wR_D mu hD).weaken (fun _ _ _ _ => trivial)) vx vr) (cwV 2 hts (wU_V mw_7_20 mw_7_17 mw_7_19 mw_0_61 mw_1_13) rfl rfl rfl (by decide +kernel) ⟨Nat.le_of_ble_eq_true rfl, Nat.le_of_ble_eq_true rfl⟩) ⟨sz_c, va_recv hK hP (ci := 12) (q0 := 0) rfl (gM_0 cs ad mu), sz_m hK hz⟩ rfl rfl hl.1 rfl (lv_room (Nat.le_of_ble_eq_true rfl)) dX12_sure_3 ⟨Nat.zero_le _, Nat.zero_le _⟩) hS (fun q _ h => hFc q h) hFc (fun r1 xi1 t H1 locs ht hvm hw1 hB hz1 hk1 hS => ?_)
  have hP : va_P (dC, dI) vwCl (wR 21 ad (EM cs ad) xi1) H1 := by rw [← ht]; exact hB
  rcases hw1 with ⟨rfl, ok, f1, hkp1_0⟩ | ⟨z1, ok, hkp1_0⟩
  · have kp2 : (∀ k f : Nat, Nat.testBit 510 (gpM k f) = true → xi1 k f = mu k f) := kp_t hkp1_0 (by decide) (fun _ _ _ => rfl)
    have f1 : 0 ≤ vx.toInt ∧ vx.toInt ≤ 6 ∧ 0 ≤ vr.toInt ∧ vr.toInt ≤ 5 ∧ 0 ≤ (xi1 2 vr.toNatClampNeg).toInt ∧ (xi1 2 vr.toNatClampNeg).toInt ≤ 6 := f1
    refine lv_istore_n (lv' := [(3, .int 0), (0, .ref (ad 0)), (1, .int vx), (2, .int vr)]) hx hb dX12_sure_6 rfl hl (by decide) rfl (fun ls hl => ?_)
    refine lv_iload_n hx hb dX12_sure_7 rfl (lv_at hl 0 rfl) ?_
    refine lv_if_ge (tgt := 15) hx hb dX12_sure_8 (by decide) (fun _ => ?_) (fun c => absurd (by decide) c)
    refine lv_aload_n hx hb dX12_sure_15 rfl (lv_at hl 1 rfl) ?_
    refine va_get (D := (dC, dI)) (ci := 12) (v := .int (xi1 0 42)) (C := RX12) (T := TX12) (N := 46) hx hb hts inG12 hown hK hP 0 (gM_0 cs ad xi1) rfl 42 (by decide) (hts _ (List.mem_cons_of_mem _ mw_5_83)) (fun _ h9 => h9) rfl dX12_sure_16 ?_
    refine lv_topi (fun y4 ey4 => ?_)
    have by4 : y4.toInt = (xi1 0 42).toInt := congrArg Int32.toInt ey4
    refine lv_if_ne (tgt := 26) hx hb dX12_sure_19 (by decide) (fun c_5 => ?_) (fun c_5 => ?_)
    · have c_5 : ¬ y4.toInt = 0 := il_ne c_5
      refine lv_aload_n hx hb dX12_sure_26 rfl (lv_at hl 1 rfl) ?_
      refine va_get (D := (dC, dI)) (ci := 12) (v := .int (xi1 0 44)) (C := RX12) (T := TX12) (N := 46) hx hb hts inG12 hown hK hP 0 (gM_0 cs ad xi1) rfl 44 (by decide) (hts _ (List.mem_cons_of_mem _ mw_5_85)) (fun _ h9 => h9) rfl dX12_sure_27 ?_
      refine lv_topi (fun y6 ey6 => ?_)
      have by6 : y6.toInt = (xi1 0 44).toInt := congrArg Int32.toInt ey6
      exact W.iret (v := y6) hx hb hr (fun t ht hW => ⟨⟨y6, xi1, rfl, ⟨ok, trivial, kp2⟩, by first | (subst ht; exact hP) | (rw [ht]; exact hP) | (show va_P (dC, dI) vwCl (wR 21 ad (EM cs ad) xi1) t.heap; rw [ht]; exact hP)⟩, hS.F ht⟩) hS.2.2 dX12_sure_30
    · have c_5 : y4.toInt = 0 := il_eq c_5
      refine lv_iconst (v := 0) hx hb dX12_sure_22 (by decide) ?_
      refine lv_goto (tgt := 30) hx hb dX12_sure_23 (by decide) ?_
      exact W.iret (v := 0) hx hb hr (fun t ht hW => ⟨⟨0, xi1, rfl, ⟨ok, trivial, kp2⟩, by first | (subst ht; exact hP) | (rw [ht]; exact hP) | (show va_P (dC, dI) vwCl (wR 21 ad (EM cs ad) xi1) t.heap; rw [ht]; exact hP)⟩, hS.F ht⟩) hS.2.2 dX12_sure_30
  · have kp3 : (∀ k f : Nat, Nat.testBit 510 (gpM k f) = true → xi1 k f = mu k f) := kp_t hkp1_0 (by decide) (fun _ _ _ => rfl)
    skip
    refine lv_istore_n (lv' := [(3, .int r1), (0, .ref (ad 0)), (1, .int vx), (2, .int vr)]) hx hb dX12_sure_6 rfl hl (by decide) rfl (fun ls hl => ?_)
    refine lv_iload_n hx hb dX12_sure_7 rfl (lv_at hl 0 rfl) ?_
    refine lv_if_ge (tgt := 15) hx hb dX12_sure_8 (by decide) (fun c_7 => by have c_7 : 0 ≤ r1.toInt := il_le c_7; exfalso; omega) (fun c_7 => ?_)
    have c_7 : r1.toInt < 0 := il_nle c_7
    refine lv_iload_n hx hb dX12_sure_11 rfl (lv_at hl 0 rfl) ?_
    refine lv_goto (tgt := 30) hx hb dX12_sure_12 (by decide) ?_
    exact W.iret (v := r1) hx hb hr (fun t ht hW => ⟨⟨r1, xi1, rfl, ⟨ok, trivial, kp3⟩, by first | (subst ht; exact hP) | (rw [ht]; exact hP) | (show va_P (dC, dI) vwCl (wR 21 ad (EM cs ad) xi1) t.heap; rw [ht]; exact hP)⟩, hS.F ht⟩) hS.2.2 dX12_sure_30
set_option maxHeartbeats 4000000 in
set_option maxRecDepth 100000 in
/-- qm_first -/
theorem qm_first (l : Launch) (dC : Nat → ClassId) (dI : Nat → Nat → Nat) (cs : Nat → ClassId) (ad : Nat → Nat) (mu : Nat → Nat → Int32) (ok : okR loM hiM mu) (H : Heap) (hP : va_P (dC, dI) vwCl (wR 21 ad (EM cs ad) mu) H) (hD0 : va_D (fun _ => True) (wR 21 ad (EM cs ad) mu)) (vx : Int32) (vr : Int32) (vt : Int32) : Met l yX12_first (wU yX12_first cX12_first 6 (some .int)) ({ frames := 9, cells := 0, slots := 0, locals := 249 }) (va_Pc [.ref (ad 0), .int vx, .int vr, .int vt] (sz_P (dC, dI) vwCl (tyM cs) H)) (va_Qi (fun (z : Int32) (xi : Nat → Nat → Int32) => okR loM hiM xi ∧ (True) ∧ (∀ k f : Nat, Nat.testBit 510 (gpM k f) = true → xi k f = mu k f)) (fun xi t => va_P (dC, dI) vwCl (wR 21 ad (EM cs ad) xi) t.heap) (va_A (wR 21 ad (EM cs ad) mu) H.size)) 0 0 (va_A (wR 21 ad (EM cs ad) mu) H.size) := by
  refine Met.ofW (cc := cX12_first) (maxL := 6) (ret := (some .int)) (by decide) rfl ?_
  intro p e s m args below meth c s₁ B hml hv
  obtain ⟨rfl, hh, hK, hz⟩ := hv
  have hx := B.exec
  have hb := B.bytes
  have hr := B.returns
  have hts := atoms_spec (ws := (wU yX12_first cX12_first 6 (some .int))) B.pre
  have hown : s.vm.findClass RX12 = some m.cls := findClass_of_methodNamed B.named
  have hlocks := B.notSynchronized
  subst hh
  have hD := hD0.self (sz := s.heap.size)
  have hA : ∀ q : Nat, s.heap.size ≤ q → (va_A (wR 21 ad (EM cs ad) mu) s.heap.size) q := fun q h => Or.inr h
  have hS : va_S (va_A (wR 21 ad (EM cs ad) mu) s.heap.size) s.heap s.heap [] := va_S.rf
  have hl := lv_entry ([.ref (ad 0), .int vx, .int vr, .int vt]) (n := 6) (Nat.le_of_ble_eq_true rfl)
  rw [lg_entry_eq]
  generalize (lg_sl ([.ref (ad 0), .int vx, .int vr, .int vt]) ++ List.replicate (6 - (lg_sl ([.ref (ad 0), .int vx, .int vr, .int vt])).length) Slot.unset).toArray = ls at hl ⊢
  have hl : lv_has ls 6 [(0, .ref (ad 0)), (1, .int vx), (2, .int vr), (3, .int vt)] := hl
  refine lv_iload_n hx hb dX12_first_0 rfl (lv_at hl 3 rfl) ?_
  refine cr_i (va_runS (As := [.int vt]) (rest := []) ⟨hx, hb, hml, hown, hts⟩ (sm_isRow l dC dI (tyM cs) s.heap vt) (va_cwS 1 hts (wU_S mw_5_186 mw_5_184 mw_5_185 mw_1_13) rfl rfl rfl (by decide +kernel) ⟨Nat.le_of_ble_eq_true rfl, Nat.le_of_ble_eq_true rfl⟩) ⟨sz_c, sz_m hK hz⟩ rfl rfl hl.1 rfl (lv_room (Nat.le_of_ble_eq_true rfl)) dX12_first_1 ⟨Nat.zero_le _, Nat.zero_le _⟩) hS (fun r1 hw1 locs hS => ?_)
  obtain ⟨hfe1, hw1⟩ := hw1
  rcases hw1 with ⟨rfl, f1⟩ | ⟨rfl, f1⟩
  · have f1 : 0 ≤ vt.toInt ∧ vt.toInt ≤ 5 := f1
    refine lv_if_ne (tgt := 11) hx hb dX12_first_4 (by decide) (fun _ => ?_) (fun c => absurd c (by decide))
    refine lv_aload_n hx hb dX12_first_11 rfl (lv_at hl 0 rfl) ?_
    refine lv_iload_n hx hb dX12_first_12 rfl (lv_at hl 1 rfl) ?_
    refine lv_iload_n hx hb dX12_first_13 rfl (lv_at hl 2 rfl) ?_
    have hFc := fr_all (wR_D mu hD) hS hA
    refine va_calli (va_runV (As := [.int vx, .int vr]) (rest := []) ⟨hx, hb, hml, hown, hts⟩ (sm_askedHad l dC dI cs ad mu ok s.heap hP ((wR_D mu hD).weaken (fun _ _ _ _ => trivial)) vx vr) (cwV 2 hts (wU_V mw_7_20 mw_7_17 mw_7_19 mw_0_61 mw_1_13) rfl rfl rfl (by decide +kernel) ⟨Nat.le_of_ble_eq_true rfl, Nat.le_of_ble_eq_true rfl⟩) ⟨sz_c, va_recv hK hP (ci := 12) (q0 := 0) rfl (gM_0 cs ad mu), sz_m hK hz⟩ rfl rfl hl.1 rfl (lv_room (Nat.le_of_ble_eq_true rfl)) dX12_first_14 ⟨Nat.zero_le _, Nat.zero_le _⟩) hS (fun q _ h => hFc q h) hFc (fun r2 xi2 t H2 locs ht hvm hw2 hB hz1 hk1 hS => ?_)
    have hP : va_P (dC, dI) vwCl (wR 21 ad (EM cs ad) xi2) H2 := by rw [← ht]; exact hB
    rcases hw2 with ⟨rfl, ok, f2, hkp2_0⟩ | ⟨z2, ok, hkp2_0⟩
    · have kp3 : (∀ k f : Nat, Nat.testBit 510 (gpM k f) = true → xi2 k f = mu k f) := kp_t hkp2_0 (by decide) (fun _ _ _ => rfl)
      have f2 : 0 ≤ vx.toInt ∧ vx.toInt ≤ 6 ∧ 0 ≤ vr.toInt ∧ vr.toInt ≤ 5 ∧ 0 ≤ (xi2 2 vr.toNatClampNeg).toInt ∧ (xi2 2 vr.toNatClampNeg).toInt ≤ 6 := f2
      refine lv_istore (lv' := [(4, .int 0), (0, .ref (ad 0)), (1, .int vx), (2, .int vr), (3, .int vt)]) hx hb dX12_first_17 hl (by decide) rfl (fun ls hl => ?_)
      refine lv_iload hx hb dX12_first_19 (lv_at hl 0 rfl) ?_
      refine lv_if_ge (tgt := 27) hx hb dX12_first_21 (by decide) (fun _ => ?_) (fun c => absurd (by decide) c)
      refine lv_aload_n hx hb dX12_first_27 rfl (lv_at hl 1 rfl) ?_
      refine va_get (D := (dC, dI)) (ci := 12) (v := .int (xi2 0 42)) (C := RX12) (T := TX12) (N := 46) hx hb hts inG12 hown hK hP 0 (gM_0 cs ad xi2) rfl 42 (by decide) (hts _ (List.mem_cons_of_mem _ mw_5_83)) (fun _ h9 => h9) rfl dX12_first_28 ?_
      refine lv_topi (fun y5 ey5 => ?_)
      have by5 : y5.toInt = (xi2 0 42).toInt := congrArg Int32.toInt ey5
      refine lv_if_ne (tgt := 37) hx hb dX12_first_31 (by decide) (fun c_6 => ?_) (fun c_6 => ?_)
      · have c_6 : ¬ y5.toInt = 0 := il_ne c_6
        refine lv_aload_n hx hb dX12_first_37 rfl (lv_at hl 1 rfl) ?_
        refine va_get (D := (dC, dI)) (ci := 12) (v := .ref (ad 2)) (C := RX12) (T := TX12) (N := 46) hx hb hts inG12 hown hK hP 0 (gM_0 cs ad xi2) rfl 3 (by decide) (hts _ (List.mem_cons_of_mem _ mw_5_44)) (fun _ h9 => h9) rfl dX12_first_38 ?_
        refine lv_iload_n hx hb dX12_first_41 rfl (lv_at hl 3 rfl) ?_
        refine va_iald hx hb hK hP 2 0 (gM_2 cs ad xi2) rfl (show vp_in vr 6 from vi_of (by omega) (by omega)) dX12_first_42 ?_
        refine lv_topi (fun y7 ey7 => ?_)
        have by7 : y7.toInt = (xi2 2 vr.toNatClampNeg).toInt := congrArg Int32.toInt ey7
        have gy7 : -9 ≤ y7.toInt ∧ y7.toInt ≤ 40 := by rw [ey7]; exact rM_2_s ok vr.toNatClampNeg
        refine lv_iconst (v := 1) hx hb dX12_first_43 (by decide) ?_
        refine lv_iadd hx hb dX12_first_44 ?_
        refine lv_topi (fun t8 et8 => ?_)
        have at8 : t8.toInt = y7.toInt + 1 := by rw [et8]; exact va1 (by omega)
        refine lv_istore (lv' := [(5, .int t8), (4, .int 0), (0, .ref (ad 0)), (1, .int vx), (2, .int vr), (3, .int vt)]) hx hb dX12_first_45 hl (by decide) rfl (fun ls hl => ?_)
        refine lv_aload_n hx hb dX12_first_47 rfl (lv_at hl 2 rfl) ?_
        refine lv_iload_n hx hb dX12_first_48 rfl (lv_at hl 5 rfl) ?_
        refine lv_aload_n hx hb dX12_first_49 rfl (lv_at hl 2 rfl) ?_
        refine va_get (D := (dC, dI)) (ci := 12) (v := .ref (ad 17)) (C := RX12) (T := TX12) (N := 46) hx hb hts inG12 hown hK hP 0 (gM_0 cs ad xi2) rfl 27 (by decide) (hts _ (List.mem_cons_of_mem _ mw_5_68)) (fun _ h9 => h9) rfl dX12_first_50 ?_
        refine lv_iload hx hb dX12_first_53 (lv_at hl 0 rfl) ?_
        have hFc := fr_all (wR_D xi2 hD) hS hA
        refine va_callv (va_runV (As := [.int vt, .ref (ad 17), .int t8]) (rest := []) ⟨hx, hb, hml, hown, hts⟩ (sm_layRoute17 l dC dI cs ad xi2 ok H2 hP ((wR_D xi2 hD).weaken (fun _ _ _ _ => trivial)) vt t8 (by omega)) (cwV 3 hts (wU_V mw_6_195 mw_6_192 mw_6_194 mw_0_58 mw_1_13) rfl rfl rfl (by decide +kernel) ⟨Nat.le_of_ble_eq_true rfl, Nat.le_of_ble_eq_true rfl⟩) ⟨sz_c, va_recv hK hP (ci := 12) (q0 := 0) rfl (gM_0 cs ad xi2), sz_m hK hz⟩ rfl rfl hl.1 rfl (lv_room (Nat.le_of_ble_eq_true rfl)) dX12_first_55 ⟨Nat.zero_le _, Nat.zero_le _⟩) hS (fun q _ h => hFc q h) hFc (fun xi9 t H9 locs ht hvm hw9 hB hz1 hk1 hS => ?_)
        have hP : va_P (dC, dI) vwCl (wR 21 ad (EM cs ad) xi9) H9 := by rw [← ht]; exact hB
        obtain ⟨hfe9, ok, hw9, hkp9_0⟩ := hw9
        have kp10 : (∀ k f : Nat, Nat.testBit 510 (gpM k f) = true → xi9 k f = mu k f) := kp_t hkp9_0 (by decide) kp3
        refine lv_iload hx hb dX12_first_58 (lv_at hl 0 rfl) ?_
        exact W.iret (v := t8) hx hb hr (fun t ht hW => ⟨⟨t8, xi9, rfl, ⟨ok, trivial, kp10⟩, by first | (subst ht; exact hP) | (rw [ht]; exact hP) | (show va_P (dC, dI) vwCl (wR 21 ad (EM cs ad) xi9) t.heap; rw [ht]; exact hP)⟩, hS.F ht⟩) hS.2.2 dX12_first_60
      · have c_6 : y5.toInt = 0 := il_eq c_6
        refine lv_bipush (v := (-9)) hx hb dX12_first_34 (by decide) ?_
        exact W.iret (v := (-9)) hx hb hr (fun t ht hW => ⟨⟨(-9), xi2, rfl, ⟨ok, trivial, kp3⟩, by first | (subst ht; exact hP) | (rw [ht]; exact hP) | (show va_P (dC, dI) vwCl (wR 21 ad (EM cs ad) xi2) t.heap; rw [ht]; exact hP)⟩, hS.F ht⟩) hS.2.2 dX12_first_36
    · have kp4 : (∀ k f : Nat, Nat.testBit 510 (gpM k f) = true → xi2 k f = mu k f) := kp_t hkp2_0 (by decide) (fun _ _ _ => rfl)
      skip
      refine lv_istore (lv' := [(4, .int r2), (0, .ref (ad 0)), (1, .int vx), (2, .int vr), (3, .int vt)]) hx hb dX12_first_17 hl (by decide) rfl (fun ls hl => ?_)
      refine lv_iload hx hb dX12_first_19 (lv_at hl 0 rfl) ?_
      refine lv_if_ge (tgt := 27) hx hb dX12_first_21 (by decide) (fun c_11 => by have c_11 : 0 ≤ r2.toInt := il_le c_11; exfalso; omega) (fun c_11 => ?_)
      have c_11 : r2.toInt < 0 := il_nle c_11
      refine lv_iload hx hb dX12_first_24 (lv_at hl 0 rfl) ?_
      exact W.iret (v := r2) hx hb hr (fun t ht hW => ⟨⟨r2, xi2, rfl, ⟨ok, trivial, kp4⟩, by first | (subst ht; exact hP) | (rw [ht]; exact hP) | (show va_P (dC, dI) vwCl (wR 21 ad (EM cs ad) xi2) t.heap; rw [ht]; exact hP)⟩, hS.F ht⟩) hS.2.2 dX12_first_26
  · have f1 : vt.toInt < 0 ∨ 5 < vt.toInt := f1
    refine lv_if_ne (tgt := 11) hx hb dX12_first_4 (by decide) (fun c => absurd (by decide) c) (fun _ => ?_)
    refine lv_iconst (v := (-1)) hx hb dX12_first_7 (by decide) ?_
    refine lv_goto (tgt := 17) hx hb dX12_first_8 (by decide) ?_
    refine lv_istore (lv' := [(4, .int (-1)), (0, .ref (ad 0)), (1, .int vx), (2, .int vr), (3, .int vt)]) hx hb dX12_first_17 hl (by decide) rfl (fun ls hl => ?_)
    refine lv_iload hx hb dX12_first_19 (lv_at hl 0 rfl) ?_
    refine lv_if_ge (tgt := 27) hx hb dX12_first_21 (by decide) (fun c => absurd c (by decide)) (fun _ => ?_)
    refine lv_iload hx hb dX12_first_24 (lv_at hl 0 rfl) ?_
    exact W.iret (v := (-1)) hx hb hr (fun t ht hW => ⟨⟨(-1), mu, rfl, ⟨ok, trivial, (fun _ _ _ => rfl)⟩, by first | (subst ht; exact hP) | (rw [ht]; exact hP) | (show va_P (dC, dI) vwCl (wR 21 ad (EM cs ad) mu) t.heap; rw [ht]; exact hP)⟩, hS.F ht⟩) hS.2.2 dX12_first_26
