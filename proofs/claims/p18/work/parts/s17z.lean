set_option maxHeartbeats 4000000 in
set_option maxRecDepth 100000 in
/-- sx_build -/
theorem sx_build (l : Launch) (dC : Nat → ClassId) (dI : Nat → Nat → Nat) (cs : Nat → ClassId) (ad : Nat → Nat) (mu : Nat → Nat → Int32) (ok : okR loX hiX mu) (H : Heap) (hP : va_P (dC, dI) vwCl (wR 157 ad (EX cs ad) mu) H) (hD0 : va_D (fun _ => True) (wR 157 ad (EX cs ad) mu)) : Met l yX4_build (wU yX4_build cX4_build 2 none) ({ frames := 1, cells := 0, slots := 0, locals := 60 }) (va_Pc [.ref (ad 31), .ref (ad 4)] (sz_P (dC, dI) vwCl (tyW cs) H)) (va_Qv (fun (xi : Nat → Nat → Int32) => xi = F_sx_build mu ∧ okR loX hiX xi ∧ (True) ∧ (∀ k f : Nat, Nat.testBit 50 (gpX k f) = true → xi k f = mu k f)) (fun xi t => va_P (dC, dI) vwCl (wR 157 ad (EX cs ad) xi) t.heap) (va_A (wR 157 ad (EX cs ad) mu) H.size)) 0 0 (va_A (wR 157 ad (EX cs ad) mu) H.size) := by
  refine Met.ofW (cc := cX4_build) (maxL := 2) (ret := none) (by decide) rfl ?_
  intro p e s m args below meth c s₁ B hml hv
  obtain ⟨rfl, hh, hK, hz⟩ := hv
  have hx := B.exec
  have hb := B.bytes
  have hr := B.returns
  have hts := atoms_spec (ws := (wU yX4_build cX4_build 2 none)) B.pre
  have hown : s.vm.findClass RX4 = some m.cls := findClass_of_methodNamed B.named
  have hlocks := B.notSynchronized
  subst hh
  have hD := hD0.self (sz := s.heap.size)
  have hA : ∀ q : Nat, s.heap.size ≤ q → (va_A (wR 157 ad (EX cs ad) mu) s.heap.size) q := fun q h => Or.inr h
  have hS : va_S (va_A (wR 157 ad (EX cs ad) mu) s.heap.size) s.heap s.heap [] := va_S.rf
  have hl := lv_entry ([.ref (ad 31), .ref (ad 4)]) (n := 2) (Nat.le_of_ble_eq_true rfl)
  rw [lg_entry_eq]
  generalize (lg_sl ([.ref (ad 31), .ref (ad 4)]) ++ List.replicate (2 - (lg_sl ([.ref (ad 31), .ref (ad 4)])).length) Slot.unset).toArray = ls at hl ⊢
  have hl : lv_has ls 2 [(0, .ref (ad 31)), (1, .ref (ad 4))] := hl
  obtain ⟨fz, hfz⟩ : ∃ z, F_sx_build mu = z := ⟨_, rfl⟩
  have hF := hfz
  unfold F_sx_build at hF
  refine lv_aload_n hx hb dX4_build_0 rfl (lv_at hl 0 rfl) ?_
  refine va_get (D := (dC, dI)) (ci := 4) (v := .ref (ad 48)) (C := RX4) (T := TX4) (N := 6) hx hb hts inG4 hown hK hP 31 (gX_31 cs ad mu) rfl 0 (by decide) (hts _ (List.mem_cons_of_mem _ mw_1_191)) (fun _ h9 => h9) rfl dX4_build_1 ?_
  refine lv_iconst (v := 0) hx hb dX4_build_4 (by decide) ?_
  refine lv_aload_n hx hb dX4_build_5 rfl (lv_at hl 1 rfl) ?_
  refine va_get (D := (dC, dI)) (ci := 10) (v := .ref (ad 34)) (C := RX10) (T := TX10) (N := 8) hx hb hts inG10 hown hK hP 4 (gX_4 cs ad mu) rfl 0 (by decide) (hts _ (List.mem_cons_of_mem _ mw_1_145)) (fun _ h9 => h9) rfl dX4_build_6 ?_
  refine lv_iconst (v := 0) hx hb dX4_build_9 (by decide) ?_
  refine lv_aload_n hx hb dX4_build_10 rfl (lv_at hl 0 rfl) ?_
  refine va_get (D := (dC, dI)) (ci := 4) (v := .int (mu 31 4)) (C := RX4) (T := TX4) (N := 6) hx hb hts inG4 hown hK hP 31 (gX_31 cs ad mu) rfl 4 (by decide) (hts _ (List.mem_cons_of_mem _ mw_1_195)) (fun _ h9 => h9) rfl dX4_build_11 ?_
  refine lv_topi (fun y1 ey1 => ?_)
  have hF := mi_let hF ey1
  have by1 : y1.toInt = (mu 31 4).toInt := congrArg Int32.toInt ey1
  have gy1 : 0 ≤ y1.toInt ∧ y1.toInt ≤ 7 := by rw [ey1]; exact rX_31_4 ok
  refine va_copyi hx hb (hml.trans hl.1.symm) hown (hts _ (List.mem_cons_of_mem _ mw_3_68)) (hts _ (List.mem_cons_of_mem _ mw_3_4)) (hts _ (List.mem_cons_of_mem _ mw_3_3)) (hts _ (List.mem_cons_of_mem _ mw_1_15)) hK hP (wR_D mu hD) hS 48 34 0 0 (gX_48 cs ad mu) (gX_34 cs ad mu) rfl rfl rfl (by decide) (by decide) (nlt_of (by omega)) (by have ua : ((0 : Int32).toNatClampNeg : Int) = 0 := rfl; have ub : ((0 : Int32).toNatClampNeg : Int) = 0 := rfl; have uc : ((y1 : Int32).toNatClampNeg : Int) = y1.toInt := tC_of (by omega); omega) (by have ua : ((0 : Int32).toNatClampNeg : Int) = 0 := rfl; have ub : ((0 : Int32).toNatClampNeg : Int) = 0 := rfl; have uc : ((y1 : Int32).toNatClampNeg : Int) = y1.toInt := tC_of (by omega); omega) (fun _ _ => rfl) (Nat.le_of_ble_eq_true rfl) (Nat.le_of_ble_eq_true rfl) dX4_build_14 (fun H locs hP _ hS => ?_)
  refine wr_gen (va_cpy (mu 48) (mu 34) (0 : Int32).toNatClampNeg (0 : Int32).toNatClampNeg (y1 : Int32).toNatClampNeg) hP (rfl) (fun nu2 hn2 hP => ?_)
  have hF := mi_let hF hn2.symm
  have ok := okR_cp ok hn2 (cX_48_34  )
  have ez3 : y1 = nu2 31 4 := ey1.trans (congrFun (up_k hn2 (by decide)) 4).symm
  have kp4 : (∀ k f : Nat, Nat.testBit 50 (gpX k f) = true → nu2 k f = mu k f) := kp_c 2 hn2 (fun _ => rfl) (by decide) (fun _ _ _ => rfl)
  refine lv_aload_n hx hb dX4_build_17 rfl (lv_at hl 0 rfl) ?_
  refine va_get (D := (dC, dI)) (ci := 4) (v := .ref (ad 50)) (C := RX4) (T := TX4) (N := 6) hx hb hts inG4 hown hK hP 31 (gX_31 cs ad nu2) rfl 2 (by decide) (hts _ (List.mem_cons_of_mem _ mw_1_193)) (fun _ h9 => h9) rfl dX4_build_18 ?_
  refine lv_iconst (v := 0) hx hb dX4_build_21 (by decide) ?_
  refine lv_aload_n hx hb dX4_build_22 rfl (lv_at hl 1 rfl) ?_
  refine va_get (D := (dC, dI)) (ci := 10) (v := .ref (ad 35)) (C := RX10) (T := TX10) (N := 8) hx hb hts inG10 hown hK hP 4 (gX_4 cs ad nu2) rfl 1 (by decide) (hts _ (List.mem_cons_of_mem _ mw_1_149)) (fun _ h9 => h9) rfl dX4_build_23 ?_
  refine lv_iconst (v := 0) hx hb dX4_build_26 (by decide) ?_
  refine lv_aload_n hx hb dX4_build_27 rfl (lv_at hl 0 rfl) ?_
  refine va_get (D := (dC, dI)) (ci := 4) (v := .int (nu2 31 5)) (C := RX4) (T := TX4) (N := 6) hx hb hts inG4 hown hK hP 31 (gX_31 cs ad nu2) rfl 5 (by decide) (hts _ (List.mem_cons_of_mem _ mw_1_196)) (fun _ h9 => h9) rfl dX4_build_28 ?_
  refine lv_topi (fun y5 ey5 => ?_)
  have hF := mi_let hF ey5
  have by5 : y5.toInt = (nu2 31 5).toInt := congrArg Int32.toInt ey5
  have gy5 : 0 ≤ y5.toInt ∧ y5.toInt ≤ 12 := by rw [ey5]; exact rX_31_5 ok
  refine va_copyi hx hb (hml.trans hl.1.symm) hown (hts _ (List.mem_cons_of_mem _ mw_3_68)) (hts _ (List.mem_cons_of_mem _ mw_3_4)) (hts _ (List.mem_cons_of_mem _ mw_3_3)) (hts _ (List.mem_cons_of_mem _ mw_1_15)) hK hP (wR_D nu2 hD) hS 50 35 0 0 (gX_50 cs ad nu2) (gX_35 cs ad nu2) rfl rfl rfl (by decide) (by decide) (nlt_of (by omega)) (by have ua : ((0 : Int32).toNatClampNeg : Int) = 0 := rfl; have ub : ((0 : Int32).toNatClampNeg : Int) = 0 := rfl; have uc : ((y5 : Int32).toNatClampNeg : Int) = y5.toInt := tC_of (by omega); omega) (by have ua : ((0 : Int32).toNatClampNeg : Int) = 0 := rfl; have ub : ((0 : Int32).toNatClampNeg : Int) = 0 := rfl; have uc : ((y5 : Int32).toNatClampNeg : Int) = y5.toInt := tC_of (by omega); omega) (fun _ _ => rfl) (Nat.le_of_ble_eq_true rfl) (Nat.le_of_ble_eq_true rfl) dX4_build_31 (fun H locs hP _ hS => ?_)
  refine wr_gen (va_cpy (nu2 50) (nu2 35) (0 : Int32).toNatClampNeg (0 : Int32).toNatClampNeg (y5 : Int32).toNatClampNeg) hP (rfl) (fun nu6 hn6 hP => ?_)
  have hF := mi_let hF hn6.symm
  have ok := okR_cp ok hn6 (cX_50_35  )
  have ez7 : y1 = nu6 31 4 := ez3.trans (congrFun (up_k hn6 (by decide)) 4).symm
  have ez8 : y5 = nu6 31 5 := ey5.trans (congrFun (up_k hn6 (by decide)) 5).symm
  have kp9 : (∀ k f : Nat, Nat.testBit 50 (gpX k f) = true → nu6 k f = mu k f) := kp_c 2 hn6 (fun _ => rfl) (by decide) kp4
  refine lv_aload_n hx hb dX4_build_34 rfl (lv_at hl 0 rfl) ?_
  refine va_get (D := (dC, dI)) (ci := 4) (v := .ref (ad 51)) (C := RX4) (T := TX4) (N := 6) hx hb hts inG4 hown hK hP 31 (gX_31 cs ad nu6) rfl 3 (by decide) (hts _ (List.mem_cons_of_mem _ mw_1_194)) (fun _ h9 => h9) rfl dX4_build_35 ?_
  refine lv_iconst (v := 0) hx hb dX4_build_38 (by decide) ?_
  refine lv_aload_n hx hb dX4_build_39 rfl (lv_at hl 1 rfl) ?_
  refine va_get (D := (dC, dI)) (ci := 10) (v := .ref (ad 36)) (C := RX10) (T := TX10) (N := 8) hx hb hts inG10 hown hK hP 4 (gX_4 cs ad nu6) rfl 2 (by decide) (hts _ (List.mem_cons_of_mem _ mw_1_151)) (fun _ h9 => h9) rfl dX4_build_40 ?_
  refine lv_iconst (v := 0) hx hb dX4_build_43 (by decide) ?_
  refine lv_aload_n hx hb dX4_build_44 rfl (lv_at hl 0 rfl) ?_
  refine va_get (D := (dC, dI)) (ci := 4) (v := .int (nu6 31 5)) (C := RX4) (T := TX4) (N := 6) hx hb hts inG4 hown hK hP 31 (gX_31 cs ad nu6) rfl 5 (by decide) (hts _ (List.mem_cons_of_mem _ mw_1_196)) (fun _ h9 => h9) rfl dX4_build_45 ?_
  refine lq_i y5 ez8.symm ?_
  refine va_copyi hx hb (hml.trans hl.1.symm) hown (hts _ (List.mem_cons_of_mem _ mw_3_68)) (hts _ (List.mem_cons_of_mem _ mw_3_4)) (hts _ (List.mem_cons_of_mem _ mw_3_3)) (hts _ (List.mem_cons_of_mem _ mw_1_15)) hK hP (wR_D nu6 hD) hS 51 36 0 0 (gX_51 cs ad nu6) (gX_36 cs ad nu6) rfl rfl rfl (by decide) (by decide) (nlt_of (by omega)) (by have ua : ((0 : Int32).toNatClampNeg : Int) = 0 := rfl; have ub : ((0 : Int32).toNatClampNeg : Int) = 0 := rfl; have uc : ((y5 : Int32).toNatClampNeg : Int) = y5.toInt := tC_of (by omega); omega) (by have ua : ((0 : Int32).toNatClampNeg : Int) = 0 := rfl; have ub : ((0 : Int32).toNatClampNeg : Int) = 0 := rfl; have uc : ((y5 : Int32).toNatClampNeg : Int) = y5.toInt := tC_of (by omega); omega) (fun _ _ => rfl) (Nat.le_of_ble_eq_true rfl) (Nat.le_of_ble_eq_true rfl) dX4_build_48 (fun H locs hP _ hS => ?_)
  refine wr_gen (va_cpy (nu6 51) (nu6 36) (0 : Int32).toNatClampNeg (0 : Int32).toNatClampNeg (y5 : Int32).toNatClampNeg) hP (rfl) (fun nu10 hn10 hP => ?_)
  have hF := mi_let hF hn10.symm
  have ok := okR_cp ok hn10 (cX_51_36  )
  have ez11 : y1 = nu10 31 4 := ez7.trans (congrFun (up_k hn10 (by decide)) 4).symm
  have ez12 : y5 = nu10 31 5 := ez8.trans (congrFun (up_k hn10 (by decide)) 5).symm
  have kp13 : (∀ k f : Nat, Nat.testBit 50 (gpX k f) = true → nu10 k f = mu k f) := kp_c 2 hn10 (fun _ => rfl) (by decide) kp9
  refine lv_aload_n hx hb dX4_build_51 rfl (lv_at hl 0 rfl) ?_
  refine va_get (D := (dC, dI)) (ci := 4) (v := .ref (ad 49)) (C := RX4) (T := TX4) (N := 6) hx hb hts inG4 hown hK hP 31 (gX_31 cs ad nu10) rfl 1 (by decide) (hts _ (List.mem_cons_of_mem _ mw_1_192)) (fun _ h9 => h9) rfl dX4_build_52 ?_
  refine lv_iconst (v := 0) hx hb dX4_build_55 (by decide) ?_
  refine lv_aload_n hx hb dX4_build_56 rfl (lv_at hl 1 rfl) ?_
  refine va_get (D := (dC, dI)) (ci := 10) (v := .ref (ad 5)) (C := RX10) (T := TX10) (N := 8) hx hb hts inG10 hown hK hP 4 (gX_4 cs ad nu10) rfl 3 (by decide) (hts _ (List.mem_cons_of_mem _ mw_1_156)) (fun _ h9 => h9) rfl dX4_build_57 ?_
  refine va_get (D := (dC, dI)) (ci := 8) (v := .ref (ad 46)) (C := RX8) (T := TX8) (N := 6) hx hb hts inG8 hown hK hP 5 (gX_5 cs ad nu10) rfl 0 (by decide) (hts _ (List.mem_cons_of_mem _ mw_1_107)) (fun _ h9 => h9) rfl dX4_build_60 ?_
  refine lv_iconst (v := 0) hx hb dX4_build_63 (by decide) ?_
  refine lv_aload_n hx hb dX4_build_64 rfl (lv_at hl 0 rfl) ?_
  refine va_get (D := (dC, dI)) (ci := 4) (v := .int (nu10 31 4)) (C := RX4) (T := TX4) (N := 6) hx hb hts inG4 hown hK hP 31 (gX_31 cs ad nu10) rfl 4 (by decide) (hts _ (List.mem_cons_of_mem _ mw_1_195)) (fun _ h9 => h9) rfl dX4_build_65 ?_
  refine lq_i y1 ez11.symm ?_
  refine va_copyi hx hb (hml.trans hl.1.symm) hown (hts _ (List.mem_cons_of_mem _ mw_3_68)) (hts _ (List.mem_cons_of_mem _ mw_3_4)) (hts _ (List.mem_cons_of_mem _ mw_3_3)) (hts _ (List.mem_cons_of_mem _ mw_1_15)) hK hP (wR_D nu10 hD) hS 49 46 0 0 (gX_49 cs ad nu10) (gX_46 cs ad nu10) rfl rfl rfl (by decide) (by decide) (nlt_of (by omega)) (by have ua : ((0 : Int32).toNatClampNeg : Int) = 0 := rfl; have ub : ((0 : Int32).toNatClampNeg : Int) = 0 := rfl; have uc : ((y1 : Int32).toNatClampNeg : Int) = y1.toInt := tC_of (by omega); omega) (by have ua : ((0 : Int32).toNatClampNeg : Int) = 0 := rfl; have ub : ((0 : Int32).toNatClampNeg : Int) = 0 := rfl; have uc : ((y1 : Int32).toNatClampNeg : Int) = y1.toInt := tC_of (by omega); omega) (fun _ _ => rfl) (Nat.le_of_ble_eq_true rfl) (Nat.le_of_ble_eq_true rfl) dX4_build_68 (fun H locs hP _ hS => ?_)
  refine wr_gen (va_cpy (nu10 49) (nu10 46) (0 : Int32).toNatClampNeg (0 : Int32).toNatClampNeg (y1 : Int32).toNatClampNeg) hP (rfl) (fun nu14 hn14 hP => ?_)
  have hF := mi_let hF hn14.symm
  have ok := okR_cp ok hn14 (cX_49_46  )
  have ez15 : y1 = nu14 31 4 := ez11.trans (congrFun (up_k hn14 (by decide)) 4).symm
  have ez16 : y5 = nu14 31 5 := ez12.trans (congrFun (up_k hn14 (by decide)) 5).symm
  have kp17 : (∀ k f : Nat, Nat.testBit 50 (gpX k f) = true → nu14 k f = mu k f) := kp_c 3 hn14 (fun _ => rfl) (by decide) kp13
  refine lv_aload_n hx hb dX4_build_71 rfl (lv_at hl 1 rfl) ?_
  refine lv_aload_n hx hb dX4_build_72 rfl (lv_at hl 0 rfl) ?_
  refine va_get (D := (dC, dI)) (ci := 4) (v := .int (nu14 31 4)) (C := RX4) (T := TX4) (N := 6) hx hb hts inG4 hown hK hP 31 (gX_31 cs ad nu14) rfl 4 (by decide) (hts _ (List.mem_cons_of_mem _ mw_1_195)) (fun _ h9 => h9) rfl dX4_build_73 ?_
  refine lq_i y1 ez15.symm ?_
  refine va_put (D := (dC, dI)) (ci := 10) (v := .int y1) (ty := .int) (C := RX10) (T := TX10) (N := 8) hx hb hts inG10 tyX10 tyX10_ok nmX10 hown hK hP (wR_D nu14 hD) hS 4 (gX_4 cs ad nu14) rfl 6 (by decide) (hts _ (List.mem_cons_of_mem _ mw_1_163)) (fun _ h9 => h9) rfl (by decide +kernel) rfl rfl (Nat.le_of_ble_eq_true rfl) dX4_build_76 (fun H locs hP _ hS => ?_)
  simp only [List.set_cons_succ, List.set_cons_zero] at hP
  refine wr_gen (upd (nu14 4) 6 y1) hP ((hX_4_6 cs ad _ _)) (fun nu18 hn18 hP => ?_)
  have hF := mi_let hF hn18.symm
  have ok := tX_4_6 ok hn18 (by omega)
  have ez19 : y1 = nu18 31 4 := ez15.trans (congrFun (up_k hn18 (by decide)) 4).symm
  have ez20 : y5 = nu18 31 5 := ez16.trans (congrFun (up_k hn18 (by decide)) 5).symm
  have kp21 : (∀ k f : Nat, Nat.testBit 50 (gpX k f) = true → nu18 k f = mu k f) := kp_c 2 hn18 (fun _ => rfl) (by decide) kp17
  have ez22 : y1 = nu18 4 6 := up_v hn18
  refine lv_aload_n hx hb dX4_build_79 rfl (lv_at hl 1 rfl) ?_
  refine lv_aload_n hx hb dX4_build_80 rfl (lv_at hl 0 rfl) ?_
  refine va_get (D := (dC, dI)) (ci := 4) (v := .int (nu18 31 5)) (C := RX4) (T := TX4) (N := 6) hx hb hts inG4 hown hK hP 31 (gX_31 cs ad nu18) rfl 5 (by decide) (hts _ (List.mem_cons_of_mem _ mw_1_196)) (fun _ h9 => h9) rfl dX4_build_81 ?_
  refine lq_i y5 ez20.symm ?_
  refine va_put (D := (dC, dI)) (ci := 10) (v := .int y5) (ty := .int) (C := RX10) (T := TX10) (N := 8) hx hb hts inG10 tyX10 tyX10_ok nmX10 hown hK hP (wR_D nu18 hD) hS 4 (gX_4 cs ad nu18) rfl 7 (by decide) (hts _ (List.mem_cons_of_mem _ mw_1_166)) (fun _ h9 => h9) rfl (by decide +kernel) rfl rfl (Nat.le_of_ble_eq_true rfl) dX4_build_84 (fun H locs hP _ hS => ?_)
  simp only [List.set_cons_succ, List.set_cons_zero] at hP
  refine wr_gen (upd (nu18 4) 7 y5) hP ((hX_4_7 cs ad _ _)) (fun nu23 hn23 hP => ?_)
  have hF := mi_let hF hn23.symm
  have ok := tX_4_7 ok hn23 (by omega)
  have ez24 : y1 = nu23 31 4 := ez19.trans (congrFun (up_k hn23 (by decide)) 4).symm
  have ez25 : y5 = nu23 31 5 := ez20.trans (congrFun (up_k hn23 (by decide)) 5).symm
  have ez26 : y1 = nu23 4 6 := ez22.trans (up_f hn23 (by decide)).symm
  have kp27 : (∀ k f : Nat, Nat.testBit 50 (gpX k f) = true → nu23 k f = mu k f) := kp_c 2 hn23 (fun _ => rfl) (by decide) kp21
  have ez28 : y5 = nu23 4 7 := up_v hn23
  refine lv_aload_n hx hb dX4_build_87 rfl (lv_at hl 1 rfl) ?_
  refine va_get (D := (dC, dI)) (ci := 10) (v := .ref (ad 5)) (C := RX10) (T := TX10) (N := 8) hx hb hts inG10 hown hK hP 4 (gX_4 cs ad nu23) rfl 3 (by decide) (hts _ (List.mem_cons_of_mem _ mw_1_156)) (fun _ h9 => h9) rfl dX4_build_88 ?_
  refine lv_iconst (v := 0) hx hb dX4_build_91 (by decide) ?_
  refine va_put (D := (dC, dI)) (ci := 8) (v := .int 0) (ty := .int) (C := RX8) (T := TX8) (N := 6) hx hb hts inG8 tyX8 tyX8_ok nmX8 hown hK hP (wR_D nu23 hD) hS 5 (gX_5 cs ad nu23) rfl 2 (by decide) (hts _ (List.mem_cons_of_mem _ mw_1_117)) (fun _ h9 => h9) rfl (by decide +kernel) rfl rfl (Nat.le_of_ble_eq_true rfl) dX4_build_92 (fun H locs hP _ hS => ?_)
  simp only [List.set_cons_succ, List.set_cons_zero] at hP
  refine wr_gen (upd (nu23 5) 2 0) hP ((hX_5_2 cs ad _ _)) (fun nu29 hn29 hP => ?_)
  have hF := mi_let hF hn29.symm
  have ok := tX_5_2 ok hn29
  have ez30 : y1 = nu29 31 4 := ez24.trans (congrFun (up_k hn29 (by decide)) 4).symm
  have ez31 : y5 = nu29 31 5 := ez25.trans (congrFun (up_k hn29 (by decide)) 5).symm
  have ez32 : y1 = nu29 4 6 := ez26.trans (congrFun (up_k hn29 (by decide)) 6).symm
  have ez33 : y5 = nu29 4 7 := ez28.trans (congrFun (up_k hn29 (by decide)) 7).symm
  have kp34 : (∀ k f : Nat, Nat.testBit 50 (gpX k f) = true → nu29 k f = mu k f) := kp_f hn29 (by decide) kp27
  have ez35 : 0 = nu29 5 2 := up_v hn29
  refine lv_aload_n hx hb dX4_build_95 rfl (lv_at hl 1 rfl) ?_
  refine va_get (D := (dC, dI)) (ci := 10) (v := .ref (ad 5)) (C := RX10) (T := TX10) (N := 8) hx hb hts inG10 hown hK hP 4 (gX_4 cs ad nu29) rfl 3 (by decide) (hts _ (List.mem_cons_of_mem _ mw_1_156)) (fun _ h9 => h9) rfl dX4_build_96 ?_
  refine lv_iconst (v := 0) hx hb dX4_build_99 (by decide) ?_
  refine va_put (D := (dC, dI)) (ci := 8) (v := .int 0) (ty := .int) (C := RX8) (T := TX8) (N := 6) hx hb hts inG8 tyX8 tyX8_ok nmX8 hown hK hP (wR_D nu29 hD) hS 5 (gX_5 cs ad nu29) rfl 3 (by decide) (hts _ (List.mem_cons_of_mem _ mw_1_122)) (fun _ h9 => h9) rfl (by decide +kernel) rfl rfl (Nat.le_of_ble_eq_true rfl) dX4_build_100 (fun H locs hP _ hS => ?_)
  simp only [List.set_cons_succ, List.set_cons_zero] at hP
  refine wr_gen (upd (nu29 5) 3 0) hP ((hX_5_3 cs ad _ _)) (fun nu36 hn36 hP => ?_)
  have hF := mi_let hF hn36.symm
  have ok := tX_5_3 ok hn36
  have ez37 : y1 = nu36 31 4 := ez30.trans (congrFun (up_k hn36 (by decide)) 4).symm
  have ez38 : y5 = nu36 31 5 := ez31.trans (congrFun (up_k hn36 (by decide)) 5).symm
  have ez39 : y1 = nu36 4 6 := ez32.trans (congrFun (up_k hn36 (by decide)) 6).symm
  have ez40 : y5 = nu36 4 7 := ez33.trans (congrFun (up_k hn36 (by decide)) 7).symm
  have ez41 : 0 = nu36 5 2 := ez35.trans (up_f hn36 (by decide)).symm
  have kp42 : (∀ k f : Nat, Nat.testBit 50 (gpX k f) = true → nu36 k f = mu k f) := kp_f hn36 (by decide) kp34
  have ez43 : 0 = nu36 5 3 := up_v hn36
  refine lv_aload_n hx hb dX4_build_103 rfl (lv_at hl 1 rfl) ?_
  refine va_get (D := (dC, dI)) (ci := 10) (v := .ref (ad 5)) (C := RX10) (T := TX10) (N := 8) hx hb hts inG10 hown hK hP 4 (gX_4 cs ad nu36) rfl 3 (by decide) (hts _ (List.mem_cons_of_mem _ mw_1_156)) (fun _ h9 => h9) rfl dX4_build_104 ?_
  refine lv_iconst (v := 0) hx hb dX4_build_107 (by decide) ?_
  refine va_put (D := (dC, dI)) (ci := 8) (v := .int 0) (ty := .int) (C := RX8) (T := TX8) (N := 6) hx hb hts inG8 tyX8 tyX8_ok nmX8 hown hK hP (wR_D nu36 hD) hS 5 (gX_5 cs ad nu36) rfl 4 (by decide) (hts _ (List.mem_cons_of_mem _ mw_1_127)) (fun _ h9 => h9) rfl (by decide +kernel) rfl rfl (Nat.le_of_ble_eq_true rfl) dX4_build_108 (fun H locs hP _ hS => ?_)
  simp only [List.set_cons_succ, List.set_cons_zero] at hP
  refine wr_gen (upd (nu36 5) 4 0) hP ((hX_5_4 cs ad _ _)) (fun nu44 hn44 hP => ?_)
  have hF := mi_let hF hn44.symm
  have ok := tX_5_4 ok hn44 (by have h9 : (0 : Int32).toInt = 0 := rfl; exact ⟨by omega, by omega⟩)
  have ez45 : y1 = nu44 31 4 := ez37.trans (congrFun (up_k hn44 (by decide)) 4).symm
  have ez46 : y5 = nu44 31 5 := ez38.trans (congrFun (up_k hn44 (by decide)) 5).symm
  have ez47 : y1 = nu44 4 6 := ez39.trans (congrFun (up_k hn44 (by decide)) 6).symm
  have ez48 : y5 = nu44 4 7 := ez40.trans (congrFun (up_k hn44 (by decide)) 7).symm
  have ez49 : 0 = nu44 5 2 := ez41.trans (up_f hn44 (by decide)).symm
  have ez50 : 0 = nu44 5 3 := ez43.trans (up_f hn44 (by decide)).symm
  have kp51 : (∀ k f : Nat, Nat.testBit 50 (gpX k f) = true → nu44 k f = mu k f) := kp_f hn44 (by decide) kp42
  have ez52 : 0 = nu44 5 4 := up_v hn44
  exact W.vret hx hb hr (fun t ht hW => ⟨⟨nu44, rfl, ⟨hF.trans hfz.symm, ok, trivial, kp51⟩, by first | (subst ht; exact hP) | (rw [ht]; exact hP) | (show va_P (dC, dI) vwCl (wR 157 ad (EX cs ad) nu44) t.heap; rw [ht]; exact hP)⟩, hS.F ht⟩) hS.2.2 dX4_build_111
