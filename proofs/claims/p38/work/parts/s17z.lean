set_option maxHeartbeats 4000000 in
set_option maxRecDepth 100000 in
/-- sx_build -/
theorem sx_build (l : Launch) (dC : Nat → ClassId) (dI : Nat → Nat → Nat) (cs : Nat → ClassId) (ad : Nat → Nat) (mu : Nat → Nat → Int32) (ok : okR loX hiX mu) (H : Heap) (hP : va_P (dC, dI) vwCl (wR 157 ad (EX cs ad) mu) H) (hD0 : va_D (fun _ => True) (wR 157 ad (EX cs ad) mu)) : Met l yX4_build (wU yX4_build cX4_build 2 none) ({ frames := 1, cells := 0, slots := 0, locals := 60 }) (va_Pc [.ref (ad 31), .ref (ad 4)] (sz_P (dC, dI) vwCl (tyW cs) H)) (va_Qv (fun (xi : Nat → Nat → Int32) => xi = F_sx_build mu ∧ okR loX hiX xi ∧ (True) ∧ (∀ k f : Nat, Nat.testBit 50 (gpX k f) = true → xi k f = mu k f)) (fun xi t => va_P (dC, dI) vwCl (wR 157 ad (EX cs ad) xi) t.heap) (va_A (wR 157 ad (EX cs ad) mu) H.size)) 0 0 (va_A (wR 157 ad (EX cs ad) mu) H.size) := by
  refine Met.ofW (cc := cX4_build) (maxL := 2) (ret := none) (by decide) rfl ?_
  intro p e s m args below meth c s₁ B hml hv
  obtain ⟨rfl, hh, hK, hz⟩ := hv
  have hx := B.exec
  have hb := B.bytes
  have hr := B.returns
  have hts := atoms_spec (ws := (wU yX4_build cX4_build 2 none)) B.pre
  have hown : s.vm.findClass RX4 = some m.cls := findClass_of_methodNamed B.named
  have hlocks := B.notSynchronized
  subst hh
  have hD := hD0.self (sz := s.heap.size)
  have hA : ∀ q : Nat, s.heap.size ≤ q → (va_A (wR 157 ad (EX cs ad) mu) s.heap.size) q := fun q h => Or.inr h
  have hS : va_S (va_A (wR 157 ad (EX cs ad) mu) s.heap.size) s.heap s.heap [] := va_S.rf
  have hl := lv_entry ([.ref (ad 31), .ref (ad 4)]) (n := 2) (Nat.le_of_ble_eq_true rfl)
  rw [lg_entry_eq]
  generalize (lg_sl ([.ref (ad 31), .ref (ad 4)]) ++ List.replicate (2 - (lg_sl ([.ref (ad 31), .ref (ad 4)])).length) Slot.unset).toArray = ls at hl ⊢
  have hl : lv_has ls 2 [(0, .ref (ad 31)), (1, .ref (ad 4))] := hl
  obtain ⟨fz, hfz⟩ : ∃ z, F_sx_build mu = z := ⟨_, rfl⟩
  have hF := hfz
  unfold F_sx_build at hF
  refine lv_aload_n hx hb dX4_build_0 rfl (lv_at hl 0 rfl) ?_
  refine va_get (D := (dC, dI)) (ci := 4) (v := .ref (ad 48)) (C := RX4) (T := TX4) (N := 6) hx hb hts inG4 hown hK hP 31 (gX_31 cs ad mu) rfl 0 (by decide) (hts _ (List.mem_cons_of_mem _ mw_1_191)) (fun _ h9 => h9) rfl dX4_build_1 ?_
  refine lv_iconst (v := 0) hx hb dX4_build_4 (by decide) ?_
  refine lv_aload_n hx hb dX4_build_5 rfl (lv_at hl 1 rfl) ?_
  refine va_get (D := (dC, dI)) (ci := 10) (v := .ref (ad 34)) (C := RX10) (T := TX10) (N := 8) hx hb hts inG10 hown hK hP 4 (gX_4 cs ad mu) rfl 0 (by decide) (hts _ (List.mem_cons_of_mem _ mw_1_145)) (fun _ h9 => h9) rfl dX4_build_6 ?_
  refine lv_iconst (v := 0) hx hb dX4_build_9 (by decide) ?_
  refine lv_aload_n hx hb dX4_build_10 rfl (lv_at hl 0 rfl) ?_
  refine va_get (D := (dC, dI)) (ci := 4) (v := .int (mu 31 4)) (C := RX4) (T := TX4) (N := 6) hx hb hts inG4 hown hK hP 31 (gX_31 cs ad mu) rfl 4 (by decide) (hts _ (List.mem_cons_of_mem _ mw_1_195)) (fun _ h9 => h9) rfl dX4_build_11 ?_
  refine lv_topi (fun y1 ey1 => ?_)
  have hF := mi_let hF ey1
  have by1 : y1.toInt = (mu 31 4).toInt := congrArg Int32.toInt ey1
  have gy1 : 0 ≤ y1.toInt ∧ y1.toInt ≤ 7 := by rw [ey1]; exact rX_31_4 ok
  refine va_copyi hx hb (hml.trans hl.1.symm) hown (hts _ (List.mem_cons_of_mem _ mw_3_68)) (hts _ (List.mem_cons_of_mem _ mw_3_4)) (hts _ (List.mem_cons_of_mem _ mw_3_3)) (hts _ (List.mem_cons_of_mem _ mw_1_15)) hK hP (wR_D mu hD) hS 48 34 0 0 (gX_48 cs ad mu) (gX_34 cs ad mu) rfl rfl rfl (by decide) (by decide) (nlt_of (by omega)) (by have ua : ((0 : Int32).toNatClampNeg : Int) = 0 := rfl; have ub : ((0 : Int32).toNatClampNeg : Int) = 0 := rfl; have uc : ((y1 : Int32).toNatClampNeg : Int) = y1.toInt := tC_of (by omega); omega) (by have ua : ((0 : Int32).toNatClampNeg : Int) = 0 := rfl; have ub : ((0 : Int32).toNatClampNeg : Int) = 0 := rfl; have uc : ((y1 : Int32).toNatClampNeg : Int) = y1.toInt := tC_of (by omega); omega) (fun _ _ => rfl) (Nat.le_of_ble_eq_true rfl) (Nat.le_of_ble_eq_true rfl) dX4_build_14 (fun H locs hP _ hS => ?_)
  refine wr_gen (va_cpy (mu 48) (mu 34) (0 : Int32).toNatClampNeg (0 : Int32).toNatClampNeg (y1 : Int32).toNatClampNeg) hP (rfl) (fun nu2 hn2 hP => ?_)
  have hF := mi_let hF hn2.symm
  have ok := okR_cp ok hn2 (cX_48_34  )
  have ez3 : y1 = nu2 31 4 := ey1.trans (congrFun (up_k hn2 (by decide)) 4).symm
  have kp4 : (∀ k f : Nat, Nat.testBit 50 (gpX k f) = true → nu2 k f = mu k f) := kp_c 2 hn2 (fun _ => rfl) (by decide) (fun _ _ _ => rfl)
  refine lv_aload_n hx hb dX4_build_17 rfl (lv_at hl 0 rfl) ?_
  refine va_get (D := (dC, dI)) (ci := 4) (v := .ref (ad 50)) (C := RX4) (T := TX4) (N := 6) hx hb hts inG4 hown hK hP 31 (gX_31 cs ad nu2) rfl 2 (by decide) (hts _ (List.mem_cons_of_mem _ mw_1_193)) (fun _ h9 => h9) rfl dX4_build_18 ?_
  refine lv_iconst (v := 0) hx hb dX4_build_21 (by decide) ?_
  refine lv_aload_n hx hb dX4_build_22 rfl (lv_at hl 1 rfl) ?_
  refine va_get (D := (dC, dI)) (ci := 10) (v := .ref (ad 35)) (C := RX10) (T := TX10) (N := 8) hx hb hts inG10 hown hK hP 4 (gX_4 cs ad nu2) rfl 1 (by decide) (hts _ (List.mem_cons_of_mem _ mw_1_149)) (fun _ h9 => h9) rfl dX4_build_23 ?_
  refine lv_iconst (v := 0) hx hb dX4_build_26 (by decide) ?_
  refine lv_aload_n hx hb dX4_build_27 rfl (lv_at hl 0 rfl) ?_
  refine va_get (D := (dC, dI)) (ci := 4) (v := .int (nu2 31 5)) (C := RX4) (T := TX4) (N := 6) hx hb hts inG4 hown hK hP 31 (gX_31 cs ad nu2) rfl 5 (by decide) (hts _ (List.mem_cons_of_mem _ mw_1_196)) (fun _ h9 => h9) rfl dX4_build_28 ?_
  refine lv_topi (fun y5 ey5 => ?_)
  have hF := mi_let hF ey5
  have by5 : y5.toInt = (nu2 31 5).toInt := congrArg Int32.toInt ey5
  have gy5 : 0 ≤ y5.toInt ∧ y5.toInt ≤ 12 := by rw [ey5]; exact rX_31_5 ok
  refine va_copyi hx hb (hml.trans hl.1.symm) hown (hts _ (List.mem_cons_of_mem _ mw_3_68)) (hts _ (List.mem_cons_of_mem _ mw_3_4)) (hts _ (List.mem_cons_of_mem _ mw_3_3)) (hts _ (List.mem_cons_of_mem _ mw_1_15)) hK hP (wR_D nu2 hD) hS 50 35 0 0 (gX_50 cs ad nu2) (gX_35 cs ad nu2) rfl rfl rfl (by decide) (by decide) (nlt_of (by omega)) (by have ua : ((0 : Int32).toNatClampNeg : Int) = 0 := rfl; have ub : ((0 : Int32).toNatClampNeg : Int) = 0 := rfl; have uc : ((y5 : Int32).toNatClampNeg : Int) = y5.toInt := tC_of (by omega); omega) (by have ua : ((0 : Int32).toNatClampNeg : Int) = 0 := rfl; have ub : ((0 : Int32).toNatClampNeg : Int) = 0 := rfl; have uc : ((y5 : Int32).toNatClampNeg : Int) = y5.toInt := tC_of (by omega); omega) (fun _ _ => rfl) (Nat.le_of_ble_eq_true rfl) (Nat.le_of_ble_eq_true rfl) dX4_build_31 (fun H locs hP _ hS => ?_)
  refine wr_gen (va_cpy (nu2 50) (nu2 35) (0 : Int32).toNatClampNeg (0 : Int32).toNatClampNeg (y5 : Int32).toNatClampNeg) hP (rfl) (fun nu6 hn6 hP => ?_)
  have hF := mi_let hF hn6.symm
  have ok := okR_cp ok hn6 (cX_50_35  )
  have ez7 : y1 = nu6 31 4 := ez3.trans (congrFun (up_k hn6 (by decide)) 4).symm
  have ez8 : y5 = nu6 31 5 := ey5.trans (congrFun (up_k hn6 (by decide)) 5).symm
  have kp9 : (∀ k f : Nat, Nat.testBit 50 (gpX k f) = true → nu6 k f = mu k f) := kp_c 2 hn6 (fun _ => rfl) (by decide) kp4
  refine lv_aload_n hx hb dX4_build_34 rfl (lv_at hl 0 rfl) ?_
  refine va_get (D := (dC, dI)) (ci := 4) (v := .ref (ad 51)) (C := RX4) (T := TX4) (N := 6) hx hb hts inG4 hown hK hP 31 (gX_31 cs ad nu6) rfl 3 (by decide) (hts _ (List.mem_cons_of_mem _ mw_1_194)) (fun _ h9 => h9) rfl dX4_build_35 ?_
  refine lv_iconst (v := 0) hx hb dX4_build_38 (by decide) ?_
  refine lv_aload_n hx hb dX4_build_39 rfl (lv_at hl 1 rfl) ?_
  refine va_get (D := (dC, dI)) (ci := 10) (v := .ref (ad 36)) (C := RX10) (T := TX10) (N := 8) hx hb hts inG10 hown hK hP 4 (gX_4 cs ad nu6) rfl 2 (by decide) (hts _ (List.mem_cons_of_mem _ mw_1_151)) (fun _ h9 => h9) rfl dX4_build_40 ?_
  refine lv_iconst (v := 0) hx hb dX4_build_43 (by decide) ?_
  refine lv_aload_n hx hb dX4_build_44 rfl (lv_at hl 0 rfl) ?_
  refine va_get (D := (dC, dI)) (ci := 4) (v := .int (nu6 31 5)) (C := RX4) (T := TX4) (N := 6) hx hb hts inG4 hown hK hP 31 (gX_31 cs ad nu6) rfl 5 (by decide) (hts _ (List.mem_cons_of_mem _ mw_1_196)) (fun _ h9 => h9) rfl dX4_build_45 ?_
  refine lq_i y5 ez8.symm ?_
  refine va_copyi hx hb (hml.trans hl.1.symm) hown (hts _ (List.mem_cons_of_mem _ mw_3_68)) (hts _ (List.mem_cons_of_mem _ mw_3_4)) (hts _ (List.mem_cons_of_mem _ mw_3_3)) (hts _ (List.mem_cons_of_mem _ mw_1_15)) hK hP (wR_D nu6 hD) hS 51 36 0 0 (gX_51 cs ad nu6) (gX_36 cs ad nu6) rfl rfl rfl (by decide) (by decide) (nlt_of (by omega)) (by have ua : ((0 : Int32).toNatClampNeg : Int) = 0 := rfl; have ub : ((0 : Int32).toNatClampNeg : Int) = 0 := rfl; have uc : ((y5 : Int32).toNatClampNeg : Int) = y5.toInt := tC_of (by omega); omega) (by have ua : ((0 : Int32).toNatClampNeg : Int) = 0 := rfl; have ub : ((0 : Int32).toNatClampNeg : Int) = 0 := rfl; have uc : ((y5 : Int32).toNatClampNeg : Int) = y5.toInt := tC_of (by omega); omega) (fun _ _ => rfl) (Nat.le_of_ble_eq_true rfl) (Nat.le_of_ble_eq_true rfl) dX4_build_48 (fun H locs hP _ hS => ?_)
  refine wr_gen (va_cpy (nu6 51) (nu6 36) (0 : Int32).toNatClampNeg (0 : Int32).toNatClampNeg (y5 : Int32).toNatClampNeg) hP (rfl) (fun nu10 hn10 hP => ?_)
  have hF := mi_let hF hn10.symm
  have ok := okR_cp ok hn10 (cX_51_36  )
  have ez11 : y1 = nu10 31 4 := ez7.trans (congrFun (up_k hn10 (by decide)) 4).symm
  have ez12 : y5 = nu10 31 5 := ez8.trans (congrFun (up_k hn10 (by decide)) 5).symm
  have kp13 : (∀ k f : Nat, Nat.testBit 50 (gpX k f) = true → nu10 k f = mu k f) := kp_c 2 hn10 (fun _ => rfl) (by decide) kp9
  refine lv_aload_n hx hb dX4_build_51 rfl (lv_at hl 0 rfl) ?_
  refine va_get (D := (dC, dI)) (ci := 4) (v := .ref (ad 49)) (C := RX4) (T := TX4) (N := 6) hx hb hts inG4 hown hK hP 31 (gX_31 cs ad nu10) rfl 1 (by decide) (hts _ (List.mem_cons_of_mem _ mw_1_192)) (fun _ h9 => h9) rfl dX4_build_52 ?_
  refine lv_iconst (v := 0) hx hb dX4_build_55 (by decide) ?_
  refine lv_aload_n hx hb dX4_build_56 rfl (lv_at hl 1 rfl) ?_
  refine va_get (D := (dC, dI)) (ci := 10) (v := .ref (ad 5)) (C := RX10) (T := TX10) (N := 8) hx hb hts inG10 hown hK hP 4 (gX_4 cs ad nu10) rfl 3 (by decide) (hts _ (List.mem_cons_of_mem _ mw_1_156)) (fun _ h9 => h9) rfl dX4_build_57 ?_
  refine va_get (D := (dC, dI)) (ci := 8) (v := .ref (ad 46)) (C := RX8) (T := TX8) (N := 6) hx hb hts inG8 hown hK hP 5 (gX_5 cs ad nu10) rfl 0 (by decide) (hts _ (List.mem_cons_of_mem _ mw_1_107)) (fun _ h9 => h9) rfl dX4_build_60 ?_
  refine lv_iconst (v := 0) hx hb dX4_build_63 (by decide) ?_
  refine lv_aload_n hx hb dX4_build_64 rfl (lv_at hl 0 rfl) ?_
  refine va_get (D := (dC, dI)) (ci := 4) (v := .int (nu10 31 4)) (C := RX4) (T := TX4) (N := 6) hx hb hts inG4 hown hK hP 31 (gX_31 cs ad nu10) rfl 4 (by decide) (hts _ (List.mem_cons_of_mem _ mw_1_195)) (fun _ h9 => h9) rfl dX4_build_65 ?_
  refine lq_i y1 ez11.symm ?_
  refine va_copyi hx hb (hml.trans hl.1.symm) hown (hts _ (List.mem_cons_of_mem _ mw_3_68)) (hts _ (List.mem_cons_of_mem _ mw_3_4)) (hts _ (List.mem_cons_of_mem _ mw_3_3)) (hts _ (List.mem_cons_of_mem _ mw_1_15)) hK hP (wR_D nu10 hD) hS 49 46 0 0 (gX_49 cs ad nu10) (gX_46 cs ad nu10) rfl rfl rfl (by decide) (by decide) (nlt_of (by omega)) (by have ua : ((0 : Int32).toNatClampNeg : Int) = 0 := rfl; have ub : ((0 : Int32).toNatClampNeg : Int) = 0 := rfl; have uc : ((y1 : Int32).toNatClampNeg : Int) = y1.toInt := tC_of (by omega); omega) (by have ua : ((0 : Int32).toNatClampNeg : Int) = 0 := rfl; have ub : ((0 : Int32).toNatClampNeg : Int) = 0 := rfl; have uc : ((y1 : Int32).toNatClampNeg : Int) = y1.toInt := tC_of (by omega); omega) (fun _ _ => rfl) (Nat.le_of_ble_eq_true rfl) (Nat.le_of_ble_eq_true rfl) dX4_build_68 (fun H locs hP _ hS => ?_)
  refine wr_gen (va_cpy (nu10 49) (nu10 46) (0 : Int32).toNatClampNeg (0 : Int32).toNatClampNeg (y1 : Int32).toNatClampNeg) hP (rfl) (fun nu14 hn14 hP => ?_)
  have hF := mi_let hF hn14.symm
  have ok := okR_cp ok hn14 (cX_49_46  )
  have ez15 : y1 = nu14 31 4 := ez11.trans (congrFun (up_k hn14 (by decide)) 4).symm
  have ez16 : y5 = nu14 31 5 := ez12.trans (congrFun (up_k hn14 (by decide)) 5).symm
  have kp17 : (∀ k f : Nat, Nat.testBit 50 (gpX k f) = true → nu14 k f = mu k f) := kp_c 3 hn14 (fun _ => rfl) (by decide) kp13
  refine lv_aload_n hx hb dX4_build_71 rfl (lv_at hl 1 rfl) ?_
  refine lv_aload_n hx hb dX4_build_72 rfl (lv_at hl 0 rfl) ?_
  refine va_get (D := (dC, dI)) (ci := 4) (v := .int (nu14 31 4)) (C := RX4) (T := TX4) (N := 6) hx hb hts inG4 hown hK hP 31 (gX_31 cs ad nu14) rfl 4 (by decide) (hts _ (List.mem_cons_of_mem _ mw_1_195)) (fun _ h9 => h9) rfl dX4_build_73 ?_
  refine lq_i y1 ez15.symm ?_
  refine va_put (D := (dC, dI)) (ci := 10) (v := .int y1) (ty := .int) (C := RX10) (T := TX10) (N := 8) hx hb hts inG10 tyX10 tyX10_ok nmX10 hown hK hP (wR_D nu14 hD) hS 4 (gX_4 cs ad nu14) rfl 6 (by decide) (hts _ (List.mem_cons_of_mem _ mw_1_163)) (fun _ h9 => h9) rfl (by decide +kernel) rfl rfl (Nat.le_of_ble_eq_true rfl) dX4_build_76 (fun H locs hP _ hS => ?_)
  simp only [List.set_cons_succ, List.set_cons_zero] at hP
  refine wr_gen (upd (nu14 4) 6 y1) hP ((hX_4_6 cs ad _ _)) (fun nu18 hn18 hP => ?_)
  have hF := mi_let hF hn18.symm
  have ok := tX_4_6 ok hn18 (by omega)
  have ez19 : y1 = nu18 31 4 := ez15.trans (congrFun (up_k hn18 (by decide)) 4).symm
  have ez20 : y5 = nu18 31 5 := ez16.trans (congrFun (up_k hn18 (by decide)) 5).symm
  have kp21 : (∀ k f : Nat, Nat.testBit 50 (gpX k f) = true → nu18 k f = mu k f) := kp_c 2 hn18 (fun _ => rfl) (by decide) kp17
  have ez22 : y1 = nu18 4 6 := up_v hn18
  refine lv_aload_n hx hb dX4_build_79 rfl (lv_at hl 1 rfl) ?_
  refine lv_aload_n hx hb dX4_build_80 rfl (lv_at hl 0 rfl) ?_
  refine va_get (D := (dC, dI)) (ci := 4) (v := .int (nu18 31 5)) (C := RX4) (T := TX4) (N := 6) hx hb hts inG4 hown hK hP 31 (gX_31 cs ad nu18) rfl 5 (by decide) (hts _ (List.mem_cons_of_mem _ mw_1_196)) (fun _ h9 => h9) rfl dX4_build_81 ?_
  refine lq_i y5 ez20.symm ?_
  refine va_put (D := (dC, dI)) (ci := 10) (v := .int y5) (ty := .int) (C := RX10) (T := TX10) (N := 8) hx hb hts inG10 tyX10 tyX10_ok nmX10 hown hK hP (wR_D nu18 hD) hS 4 (gX_4 cs ad nu18) rfl 7 (by decide) (hts _ (List.mem_cons_of_mem _ mw_1_166)) (fun _ h9 => h9) rfl (by decide +kernel) rfl rfl (Nat.le_of_ble_eq_true rfl) dX4_build_84 (fun H locs hP _ hS => ?_)
  simp only [List.set_cons_succ, List.set_cons_zero] at hP
  refine wr_gen (upd (nu18 4) 7 y5) hP ((hX_4_7 cs ad _ _)) (fun nu23 hn23 hP => ?_)
  have hF := mi_let hF hn23.symm
  have ok := tX_4_7 ok hn23 (by omega)
  have ez24 : y1 = nu23 31 4 := ez19.trans (congrFun (up_k hn23 (by decide)) 4).symm
  have ez25 : y5 = nu23 31 5 := ez20.trans (congrFun (up_k hn23 (by decide)) 5).symm
  have ez26 : y1 = nu23 4 6 := ez22.trans (up_f hn23 (by decide)).symm
  have kp27 : (∀ k f : Nat, Nat.testBit 50 (gpX k f) = true → nu23 k f = mu k f) := kp_c 2 hn23 (fun _ => rfl) (by decide) kp21
  have ez28 : y5 = nu23 4 7 := up_v hn23
  refine lv_aload_n hx hb dX4_build_87 rfl (lv_at hl 1 rfl) ?_
  refine va_get (D := (dC, dI)) (ci := 10) (v := .ref (ad 5)) (C := RX10) (T := TX10) (N := 8) hx hb hts inG10 hown hK hP 4 (gX_4 cs ad nu23) rfl 3 (by decide) (hts _ (List.mem_cons_of_mem _ mw_1_156)) (fun _ h9 => h9) rfl dX4_build_88 ?_
  refine lv_iconst (v := 0) hx hb dX4_build_91 (by decide) ?_
  refine va_put (D := (dC, dI)) (ci := 8) (v := .int 0) (ty := .int) (C := RX8) (T := TX8) (N := 6) hx hb hts inG8 tyX8 tyX8_ok nmX8 hown hK hP (wR_D nu23 hD) hS 5 (gX_5 cs ad nu23) rfl 2 (by decide) (hts _ (List.mem_cons_of_mem _ mw_1_117)) (fun _ h9 => h9) rfl (by decide +kernel) rfl rfl (Nat.le_of_ble_eq_true rfl) dX4_build_92 (fun H locs hP _ hS => ?_)
  simp only [List.set_cons_succ, List.set_cons_zero] at hP
  refine wr_gen (upd (nu23 5) 2 0) hP ((hX_5_2 cs ad _ _)) (fun nu29 hn29 hP => ?_)
  have hF := mi_let hF hn29.symm
  have ok := tX_5_2 ok hn29
  have ez30 : y1 = nu29 31 4 := ez24.trans (congrFun (up_k hn29 (by decide)) 4).symm
  have ez31 : y5 = nu29 31 5 := ez25.trans (congrFun (up_k hn29 (by decide)) 5).symm
  have ez32 : y1 = nu29 4 6 := ez26.trans (congrFun (up_k hn29 (by decide)) 6).symm
  have ez33 : y5 = nu29 4 7 := ez28.trans (congrFun (up_k hn29 (by decide)) 7).symm
  have kp34 : (∀ k f : Nat, Nat.testBit 50 (gpX k f) = true → nu29 k f = mu k f) := kp_f hn29 (by decide) kp27
  have ez35 : 0 = nu29 5 2 := up_v hn29
  refine lv_aload_n hx hb dX4_build_95 rfl (lv_at hl 1 rfl) ?_
  refine va_get (D := (dC, dI)) (ci := 10) (v := .ref (ad 5)) (C := RX10) (T := TX10) (N := 8) hx hb hts inG10 hown hK hP 4 (gX_4 cs ad nu29) rfl 3 (by decide) (hts _ (List.mem_cons_of_mem _ mw_1_156)) (fun _ h9 => h9) rfl dX4_build_96 ?_
  refine lv_iconst (v := 0) hx hb dX4_build_99 (by decide) ?_
  refine va_put (D := (dC, dI)) (ci := 8) (v := .int 0) (ty := .int) (C := RX8) (T := TX8) (N := 6) hx hb hts inG8 tyX8 tyX8_ok nmX8 hown hK hP (wR_D nu29 hD) hS 5 (gX_5 cs ad nu29) rfl 3 (by decide) (hts _ (List.mem_cons_of_mem _ mw_1_122)) (fun _ h9 => h9) rfl (by decide +kernel) rfl rfl (Nat.le_of_ble_eq_true rfl) dX4_build_100 (fun H locs hP _ hS => ?_)
  simp only [List.set_cons_succ, List.set_cons_zero] at hP
  refine wr_gen (upd (nu29 5) 3 0) hP ((hX_5_3 cs ad _ _)) (fun nu36 hn36 hP => ?_)
  have hF := mi_let hF hn36.symm
  have ok := tX_5_3 ok hn36
  have ez37 : y1 = nu36 31 4 := ez30.trans (congrFun (up_k hn36 (by decide)) 4).symm
  have ez38 : y5 = nu36 31 5 := ez31.trans (congrFun (up_k hn36 (by decide)) 5).symm
  have ez39 : y1 = nu36 4 6 := ez32.trans (congrFun (up_k hn36 (by decide)) 6).symm
  have ez40 : y5 = nu36 4 7 := ez33.trans (congrFun (up_k hn36 (by decide)) 7).symm
  have ez41 : 0 = nu36 5 2 := ez35.trans (up_f hn36 (by decide)).symm
  have kp42 : (∀ k f : Nat, Nat.testBit 50 (gpX k f) = true → nu36 k f = mu k f) := kp_f hn36 (by decide) kp34
  have ez43 : 0 = nu36 5 3 := up_v hn36
  refine lv_aload_n hx hb dX4_build_103 rfl (lv_at hl 1 rfl) ?_
  refine va_get (D := (dC, dI)) (ci := 10) (v := .ref (ad 5)) (C := RX10) (T := TX10) (N := 8) hx hb hts inG10 hown hK hP 4 (gX_4 cs ad nu36) rfl 3 (by decide) (hts _ (List.mem_cons_of_mem _ mw_1_156)) (fun _ h9 => h9) rfl dX4_build_104 ?_
  refine lv_iconst (v := 0) hx hb dX4_build_107 (by decide) ?_
  refine va_put (D := (dC, dI)) (ci := 8) (v := .int 0) (ty := .int) (C := RX8) (T := TX8) (N := 6) hx hb hts inG8 tyX8 tyX8_ok nmX8 hown hK hP (wR_D nu36 hD) hS 5 (gX_5 cs ad nu36) rfl 4 (by decide) (hts _ (List.mem_cons_of_mem _ mw_1_127)) (fun _ h9 => h9) rfl (by decide +kernel) rfl rfl (Nat.le_of_ble_eq_true rfl) dX4_build_108 (fun H locs hP _ hS => ?_)
  simp only [List.set_cons_succ, List.set_cons_zero] at hP
  refine wr_gen (upd (nu36 5) 4 0) hP ((hX_5_4 cs ad _ _)) (fun nu44 hn44 hP => ?_)
  have hF := mi_let hF hn44.symm
  have ok := tX_5_4 ok hn44 (by have h9 : (0 : Int32).toInt = 0 := rfl; exact ⟨by omega, by omega⟩)
  have ez45 : y1 = nu44 31 4 := ez37.trans (congrFun (up_k hn44 (by decide)) 4).symm
  have ez46 : y5 = nu44 31 5 := ez38.trans (congrFun (up_k hn44 (by decide)) 5).symm
  have ez47 : y1 = nu44 4 6 := ez39.trans (congrFun (up_k hn44 (by decide)) 6).symm
  have ez48 : y5 = nu44 4 7 := ez40.trans (congrFun (up_k hn44 (by decide)) 7).symm
  have ez49 : 0 = nu44 5 2 := ez41.trans (up_f hn44 (by decide)).symm
  have ez50 : 0 = nu44 5 3 := ez43.trans (up_f hn44 (by decide)).symm
  have kp51 : (∀ k f : Nat, Nat.testBit 50 (gpX k f) = true → nu44 k f = mu k f) := kp_f hn44 (by decide) kp42
  have ez52 : 0 = nu44 5 4 := up_v hn44
  exact W.vret hx hb hr (fun t ht hW => ⟨⟨nu44, rfl, ⟨hF.trans hfz.symm, ok, trivial, kp51⟩, by first | (subst ht; exact hP) | (rw [ht]; exact hP) | (show va_P (dC, dI) vwCl (wR 157 ad (EX cs ad) nu44) t.heap; rw [ht]; exact hP)⟩, hS.F ht⟩) hS.2.2 dX4_build_111
theorem mw_2_162 : (Cond.fieldLink RX11 37 "DearLetters" "reading" "LDearLetters$Reading;" : Cond) ∈ lw_good := lg_at 2 162 rfl rfl
theorem mw_3_42 : (Cond.code yX4_faultIn cX4_faultIn 4 (some .int) : Cond) ∈ lw_good := lg_at 3 42 rfl rfl
theorem mw_3_39 : (Cond.methodLink RX11 126 yX4_faultIn : Cond) ∈ lw_good := lg_at 3 39 rfl rfl
theorem mw_3_40 : (Cond.instanceMethod yX4_faultIn : Cond) ∈ lw_good := lg_at 3 40 rfl rfl
theorem mw_3_41 : (Cond.selects RX4 yX4_faultIn yX4_faultIn : Cond) ∈ lw_good := lg_at 3 41 rfl rfl
theorem mw_3_67 : (Cond.code yX4_build cX4_build 2 none : Cond) ∈ lw_good := lg_at 3 67 rfl rfl
theorem mw_3_64 : (Cond.methodLink RX11 130 yX4_build : Cond) ∈ lw_good := lg_at 3 64 rfl rfl
theorem mw_3_65 : (Cond.instanceMethod yX4_build : Cond) ∈ lw_good := lg_at 3 65 rfl rfl
theorem mw_3_66 : (Cond.selects RX4 yX4_build yX4_build : Cond) ∈ lw_good := lg_at 3 66 rfl rfl
theorem mw_2_163 : (Cond.fieldLink RX11 44 "DearLetters" "ledger" "LDearLetters$Ledger;" : Cond) ∈ lw_good := lg_at 2 163 rfl rfl
theorem mw_2_8 : (Cond.fieldLink RX11 134 "DearLetters$Ledger" "size" "I" : Cond) ∈ lw_good := lg_at 2 8 rfl rfl
theorem mw_1_164 : (Cond.fieldLink RX11 139 "DearLetters$Town" "bearers" "I" : Cond) ∈ lw_good := lg_at 1 164 rfl rfl
theorem hX_6_1 (cs : Nat → ClassId) (ad : Nat → Nat) (g : Nat → Int32) (v : Int32) : EX cs ad 6 (upd g 1 v) = .inr (2, [.ref (ad 39), .int v]) := by
  rfl
theorem tX_6_1 {mu : Nat → Nat → Int32} (ok : okR loX hiX mu) {nu : Nat → Nat → Int32} {v : Int32} (hn : va_up mu 6 (upd (mu 6) 1 v) = nu) (hv : 0 ≤ v.toInt ∧ v.toInt ≤ 40) : okR loX hiX nu := by
  subst hn
  exact okR_up ok 6 1 v hv.1 hv.2
theorem hX_kept_5 (cs : Nat → ClassId) (ad : Nat → Nat) (g : Nat → Int32) (v : Int32) (k : Nat) (h1 : 18 ≤ k) (h2 : k < 21) : EX cs ad k (upd g 5 v) = .inr (8, [.ref (ad (k + 22)), .ref (ad (k + 25)), .int (g 2), .int (g 3), .int (g 4), .int v]) := by
  rw [EX_kept cs ad _ _ h1 h2]; rfl
theorem tX_kept_5 {mu : Nat → Nat → Int32} (ok : okR loX hiX mu) {nu : Nat → Nat → Int32} {v : Int32} (k : Nat) (h1 : 18 ≤ k) (h2 : k < 21) (hn : va_up mu k (upd (mu k) 5 v) = nu) (hv : 0 ≤ v.toInt ∧ v.toInt ≤ 1) : okR loX hiX nu := by
  subst hn
  exact okR_up ok k 5 v (by unfold loX; rw [clX_kept k h1 h2]; exact hv.1) (by unfold hiX; rw [clX_kept k h1 h2]; exact hv.2)
theorem lb_X11_fault_0 : dl_ck (cX11_fault.data.toList.drop 0) [42, 27, 182, 0, 118, 61, 28, 153, 0, 5, 28, 172, 42, 180, 0, 37, 42, 180, 0, 17, 27, 50, 182, 0, 126, 172] = true := by decide +kernel
theorem dX11_fault_0 : decode cX11_fault 0 = .ok (.aload_n 0, 1) := dx_42 (dl_at 0 0 lb_X11_fault_0 rfl)
theorem dX11_fault_1 : decode cX11_fault 1 = .ok (.iload_n 1, 1) := dx_27 (dl_at 0 1 lb_X11_fault_0 rfl)
theorem dX11_fault_2 : decode cX11_fault 2 = .ok (.invokevirtual 118, 3) := dx_182 (a := 0) (b := 118) (dl_at 0 2 lb_X11_fault_0 rfl) (dl_at 0 3 lb_X11_fault_0 rfl) (dl_at 0 4 lb_X11_fault_0 rfl) rfl
theorem dX11_fault_5 : decode cX11_fault 5 = .ok (.istore_n 2, 1) := dx_61 (dl_at 0 5 lb_X11_fault_0 rfl)
theorem dX11_fault_6 : decode cX11_fault 6 = .ok (.iload_n 2, 1) := dx_28 (dl_at 0 6 lb_X11_fault_0 rfl)
theorem dX11_fault_7 : decode cX11_fault 7 = .ok (.ifCond .eq 5, 3) := dx_153 (a := 0) (b := 5) (dl_at 0 7 lb_X11_fault_0 rfl) (dl_at 0 8 lb_X11_fault_0 rfl) (dl_at 0 9 lb_X11_fault_0 rfl) sg16_5
theorem dX11_fault_12 : decode cX11_fault 12 = .ok (.aload_n 0, 1) := dx_42 (dl_at 0 12 lb_X11_fault_0 rfl)
theorem dX11_fault_13 : decode cX11_fault 13 = .ok (.getfield 37, 3) := dx_180 (a := 0) (b := 37) (dl_at 0 13 lb_X11_fault_0 rfl) (dl_at 0 14 lb_X11_fault_0 rfl) (dl_at 0 15 lb_X11_fault_0 rfl) rfl
theorem dX11_fault_16 : decode cX11_fault 16 = .ok (.aload_n 0, 1) := dx_42 (dl_at 0 16 lb_X11_fault_0 rfl)
theorem dX11_fault_17 : decode cX11_fault 17 = .ok (.getfield 17, 3) := dx_180 (a := 0) (b := 17) (dl_at 0 17 lb_X11_fault_0 rfl) (dl_at 0 18 lb_X11_fault_0 rfl) (dl_at 0 19 lb_X11_fault_0 rfl) rfl
theorem dX11_fault_20 : decode cX11_fault 20 = .ok (.iload_n 1, 1) := dx_27 (dl_at 0 20 lb_X11_fault_0 rfl)
theorem dX11_fault_21 : decode cX11_fault 21 = .ok (.aaload, 1) := dx_50 (dl_at 0 21 lb_X11_fault_0 rfl)
theorem dX11_fault_22 : decode cX11_fault 22 = .ok (.invokevirtual 126, 3) := dx_182 (a := 0) (b := 126) (dl_at 0 22 lb_X11_fault_0 rfl) (dl_at 0 23 lb_X11_fault_0 rfl) (dl_at 0 24 lb_X11_fault_0 rfl) rfl
theorem dX11_fault_25 : decode cX11_fault 25 = .ok (.ireturn, 1) := dx_172 (dl_at 0 25 lb_X11_fault_0 rfl)
theorem dX11_fault_10 : decode cX11_fault 10 = .ok (.iload_n 2, 1) := dx_28 (dl_at 0 10 lb_X11_fault_0 rfl)
theorem dX11_fault_11 : decode cX11_fault 11 = .ok (.ireturn, 1) := dx_172 (dl_at 0 11 lb_X11_fault_0 rfl)
theorem lb_X11_town_0 : dl_ck (cX11_town.data.toList.drop 0) [42, 27, 182, 0, 118, 61, 28, 153, 0, 5, 28, 172, 42, 180, 0, 37, 42, 180, 0, 17, 27, 50, 182, 0, 126, 16, 247, 159, 0, 6, 16, 252] = true := by decide +kernel
theorem lb_X11_town_1 : dl_ck (cX11_town.data.toList.drop 32) [172, 42, 180, 0, 37, 42, 180, 0, 30, 182, 0, 130, 42, 180, 0, 44, 3, 181, 0, 134, 3, 62, 29, 6, 162, 0, 19, 42, 180, 0, 23, 29] = true := by decide +kernel
theorem lb_X11_town_2 : dl_ck (cX11_town.data.toList.drop 64) [50, 3, 181, 0, 135, 132, 3, 1, 167, 255, 238, 42, 180, 0, 30, 180, 0, 139, 172] = true := by decide +kernel
theorem dX11_town_0 : decode cX11_town 0 = .ok (.aload_n 0, 1) := dx_42 (dl_at 0 0 lb_X11_town_0 rfl)
theorem dX11_town_1 : decode cX11_town 1 = .ok (.iload_n 1, 1) := dx_27 (dl_at 0 1 lb_X11_town_0 rfl)
theorem dX11_town_2 : decode cX11_town 2 = .ok (.invokevirtual 118, 3) := dx_182 (a := 0) (b := 118) (dl_at 0 2 lb_X11_town_0 rfl) (dl_at 0 3 lb_X11_town_0 rfl) (dl_at 0 4 lb_X11_town_0 rfl) rfl
theorem dX11_town_5 : decode cX11_town 5 = .ok (.istore_n 2, 1) := dx_61 (dl_at 0 5 lb_X11_town_0 rfl)
theorem dX11_town_6 : decode cX11_town 6 = .ok (.iload_n 2, 1) := dx_28 (dl_at 0 6 lb_X11_town_0 rfl)
theorem dX11_town_7 : decode cX11_town 7 = .ok (.ifCond .eq 5, 3) := dx_153 (a := 0) (b := 5) (dl_at 0 7 lb_X11_town_0 rfl) (dl_at 0 8 lb_X11_town_0 rfl) (dl_at 0 9 lb_X11_town_0 rfl) sg16_5
theorem dX11_town_12 : decode cX11_town 12 = .ok (.aload_n 0, 1) := dx_42 (dl_at 0 12 lb_X11_town_0 rfl)
theorem dX11_town_13 : decode cX11_town 13 = .ok (.getfield 37, 3) := dx_180 (a := 0) (b := 37) (dl_at 0 13 lb_X11_town_0 rfl) (dl_at 0 14 lb_X11_town_0 rfl) (dl_at 0 15 lb_X11_town_0 rfl) rfl
theorem dX11_town_16 : decode cX11_town 16 = .ok (.aload_n 0, 1) := dx_42 (dl_at 0 16 lb_X11_town_0 rfl)
theorem dX11_town_17 : decode cX11_town 17 = .ok (.getfield 17, 3) := dx_180 (a := 0) (b := 17) (dl_at 0 17 lb_X11_town_0 rfl) (dl_at 0 18 lb_X11_town_0 rfl) (dl_at 0 19 lb_X11_town_0 rfl) rfl
theorem dX11_town_20 : decode cX11_town 20 = .ok (.iload_n 1, 1) := dx_27 (dl_at 0 20 lb_X11_town_0 rfl)
theorem dX11_town_21 : decode cX11_town 21 = .ok (.aaload, 1) := dx_50 (dl_at 0 21 lb_X11_town_0 rfl)
theorem dX11_town_22 : decode cX11_town 22 = .ok (.invokevirtual 126, 3) := dx_182 (a := 0) (b := 126) (dl_at 0 22 lb_X11_town_0 rfl) (dl_at 0 23 lb_X11_town_0 rfl) (dl_at 0 24 lb_X11_town_0 rfl) rfl
theorem dX11_town_25 : decode cX11_town 25 = .ok (.bipush (-9), 2) := dx_16 (dl_at 0 25 lb_X11_town_0 rfl) (dl_at 0 26 lb_X11_town_0 rfl) sg8_247
theorem dX11_town_27 : decode cX11_town 27 = .ok (.if_icmp .eq 6, 3) := dx_159 (a := 0) (b := 6) (dl_at 0 27 lb_X11_town_0 rfl) (dl_at 0 28 lb_X11_town_0 rfl) (dl_at 0 29 lb_X11_town_0 rfl) sg16_6
theorem dX11_town_33 : decode cX11_town 33 = .ok (.aload_n 0, 1) := dx_42 (dl_at 32 1 lb_X11_town_1 rfl)
theorem dX11_town_34 : decode cX11_town 34 = .ok (.getfield 37, 3) := dx_180 (a := 0) (b := 37) (dl_at 32 2 lb_X11_town_1 rfl) (dl_at 32 3 lb_X11_town_1 rfl) (dl_at 32 4 lb_X11_town_1 rfl) rfl
theorem dX11_town_37 : decode cX11_town 37 = .ok (.aload_n 0, 1) := dx_42 (dl_at 32 5 lb_X11_town_1 rfl)
theorem dX11_town_38 : decode cX11_town 38 = .ok (.getfield 30, 3) := dx_180 (a := 0) (b := 30) (dl_at 32 6 lb_X11_town_1 rfl) (dl_at 32 7 lb_X11_town_1 rfl) (dl_at 32 8 lb_X11_town_1 rfl) rfl
theorem dX11_town_41 : decode cX11_town 41 = .ok (.invokevirtual 130, 3) := dx_182 (a := 0) (b := 130) (dl_at 32 9 lb_X11_town_1 rfl) (dl_at 32 10 lb_X11_town_1 rfl) (dl_at 32 11 lb_X11_town_1 rfl) rfl
theorem dX11_town_44 : decode cX11_town 44 = .ok (.aload_n 0, 1) := dx_42 (dl_at 32 12 lb_X11_town_1 rfl)
theorem dX11_town_45 : decode cX11_town 45 = .ok (.getfield 44, 3) := dx_180 (a := 0) (b := 44) (dl_at 32 13 lb_X11_town_1 rfl) (dl_at 32 14 lb_X11_town_1 rfl) (dl_at 32 15 lb_X11_town_1 rfl) rfl
theorem dX11_town_48 : decode cX11_town 48 = .ok (.iconst 0, 1) := dx_3 (dl_at 32 16 lb_X11_town_1 rfl)
theorem dX11_town_49 : decode cX11_town 49 = .ok (.putfield 134, 3) := dx_181 (a := 0) (b := 134) (dl_at 32 17 lb_X11_town_1 rfl) (dl_at 32 18 lb_X11_town_1 rfl) (dl_at 32 19 lb_X11_town_1 rfl) rfl
theorem dX11_town_52 : decode cX11_town 52 = .ok (.iconst 0, 1) := dx_3 (dl_at 32 20 lb_X11_town_1 rfl)
theorem dX11_town_53 : decode cX11_town 53 = .ok (.istore_n 3, 1) := dx_62 (dl_at 32 21 lb_X11_town_1 rfl)
theorem dX11_town_54 : decode cX11_town 54 = .ok (.iload_n 3, 1) := dx_29 (dl_at 32 22 lb_X11_town_1 rfl)
theorem dX11_town_55 : decode cX11_town 55 = .ok (.iconst 3, 1) := dx_6 (dl_at 32 23 lb_X11_town_1 rfl)
theorem dX11_town_56 : decode cX11_town 56 = .ok (.if_icmp .ge 19, 3) := dx_162 (a := 0) (b := 19) (dl_at 32 24 lb_X11_town_1 rfl) (dl_at 32 25 lb_X11_town_1 rfl) (dl_at 32 26 lb_X11_town_1 rfl) sg16_19
theorem dX11_town_75 : decode cX11_town 75 = .ok (.aload_n 0, 1) := dx_42 (dl_at 64 11 lb_X11_town_2 rfl)
theorem dX11_town_76 : decode cX11_town 76 = .ok (.getfield 30, 3) := dx_180 (a := 0) (b := 30) (dl_at 64 12 lb_X11_town_2 rfl) (dl_at 64 13 lb_X11_town_2 rfl) (dl_at 64 14 lb_X11_town_2 rfl) rfl
theorem dX11_town_79 : decode cX11_town 79 = .ok (.getfield 139, 3) := dx_180 (a := 0) (b := 139) (dl_at 64 15 lb_X11_town_2 rfl) (dl_at 64 16 lb_X11_town_2 rfl) (dl_at 64 17 lb_X11_town_2 rfl) rfl
theorem dX11_town_82 : decode cX11_town 82 = .ok (.ireturn, 1) := dx_172 (dl_at 64 18 lb_X11_town_2 rfl)
theorem dX11_town_59 : decode cX11_town 59 = .ok (.aload_n 0, 1) := dx_42 (dl_at 32 27 lb_X11_town_1 rfl)
theorem dX11_town_60 : decode cX11_town 60 = .ok (.getfield 23, 3) := dx_180 (a := 0) (b := 23) (dl_at 32 28 lb_X11_town_1 rfl) (dl_at 32 29 lb_X11_town_1 rfl) (dl_at 32 30 lb_X11_town_1 rfl) rfl
theorem dX11_town_63 : decode cX11_town 63 = .ok (.iload_n 3, 1) := dx_29 (dl_at 32 31 lb_X11_town_1 rfl)
theorem dX11_town_64 : decode cX11_town 64 = .ok (.aaload, 1) := dx_50 (dl_at 64 0 lb_X11_town_2 rfl)
theorem dX11_town_65 : decode cX11_town 65 = .ok (.iconst 0, 1) := dx_3 (dl_at 64 1 lb_X11_town_2 rfl)
theorem dX11_town_66 : decode cX11_town 66 = .ok (.putfield 135, 3) := dx_181 (a := 0) (b := 135) (dl_at 64 2 lb_X11_town_2 rfl) (dl_at 64 3 lb_X11_town_2 rfl) (dl_at 64 4 lb_X11_town_2 rfl) rfl
theorem dX11_town_69 : decode cX11_town 69 = .ok (.iinc 3 1, 3) := dx_132 (dl_at 64 5 lb_X11_town_2 rfl) (dl_at 64 6 lb_X11_town_2 rfl) (dl_at 64 7 lb_X11_town_2 rfl) sg8_1
theorem dX11_town_72 : decode cX11_town 72 = .ok (.goto (-18), 3) := dx_167 (a := 255) (b := 238) (dl_at 64 8 lb_X11_town_2 rfl) (dl_at 64 9 lb_X11_town_2 rfl) (dl_at 64 10 lb_X11_town_2 rfl) sg16_65518
theorem dX11_town_30 : decode cX11_town 30 = .ok (.bipush (-4), 2) := dx_16 (dl_at 0 30 lb_X11_town_0 rfl) (dl_at 0 31 lb_X11_town_0 rfl) sg8_252
theorem dX11_town_32 : decode cX11_town 32 = .ok (.ireturn, 1) := dx_172 (dl_at 32 0 lb_X11_town_1 rfl)
theorem dX11_town_10 : decode cX11_town 10 = .ok (.iload_n 2, 1) := dx_28 (dl_at 0 10 lb_X11_town_0 rfl)
theorem dX11_town_11 : decode cX11_town 11 = .ok (.ireturn, 1) := dx_172 (dl_at 0 11 lb_X11_town_0 rfl)
def F_qx_fault (mu : Nat → Nat → Int32) (vt : Int32) : Int32 × (Nat → Nat → Int32) :=
  LETP (F_sx_refusedText mu (vt : Int32)) fun r1 xi1 =>
  if r1 = 0 then (
    LETP (F_sx_faultIn mu (14 + vt.toNatClampNeg)) fun r4 xi4 =>
    ((r4 : Int32), xi4)
  ) else (
    ((r1 : Int32), xi1)
  )
def L_qx_town_54_0 : Nat → (Int32) → (Nat → Nat → Int32) → Int32 × (Nat → Nat → Int32)
  | 0, v3_54, nu54_ => (0, nu54_)
  | n + 1, v3_54, nu54_ =>
    if v3_54 ≥ (3 : Int32) then (
      LETV (nu54_ 4 6 : Int32) fun y13 =>
      ((y13 : Int32), nu54_)
    ) else (
      LETV (va_up nu54_ (18 + v3_54.toNatClampNeg) (upd (nu54_ (18 + v3_54.toNatClampNeg)) 5 0) : Nat → Nat → Int32) fun nu15 =>
      LETV ((v3_54 + 1) : Int32) fun w18 =>
      L_qx_town_54_0 n (w18 : Int32) nu15
    )
def F_qx_town (mu : Nat → Nat → Int32) (vt : Int32) : Int32 × (Nat → Nat → Int32) :=
  LETP (F_sx_refusedText mu (vt : Int32)) fun r1 xi1 =>
  if r1 = 0 then (
    LETP (F_sx_faultIn mu (14 + vt.toNatClampNeg)) fun r4 xi4 =>
    if r4 = ((-9) : Int32) then (
      LETV (F_sx_build xi4 : Nat → Nat → Int32) fun xi7 =>
      LETV (va_up xi7 6 (upd (xi7 6) 1 0) : Nat → Nat → Int32) fun nu9 =>
      L_qx_town_54_0 6 (0 : Int32) nu9
    ) else (
      (((-4) : Int32), xi4)
    )
  ) else (
    ((r1 : Int32), xi1)
  )
set_option maxHeartbeats 4000000 in
set_option maxRecDepth 100000 in
/-- qx_fault -/
theorem qx_fault (l : Launch) (dC : Nat → ClassId) (dI : Nat → Nat → Nat) (cs : Nat → ClassId) (ad : Nat → Nat) (mu : Nat → Nat → Int32) (ok : okR loX hiX mu) (H : Heap) (hP : va_P (dC, dI) vwCl (wR 157 ad (EX cs ad) mu) H) (hD0 : va_D (fun _ => True) (wR 157 ad (EX cs ad) mu)) (tt : Nat) (vt : Int32) : Met l yX11_fault (wU yX11_fault cX11_fault 3 (some .int)) ({ frames := 3, cells := 0, slots := 0, locals := 69 }) (va_Pc [.ref (ad 0), .int vt] (sy_P (dC, dI) vwCl (tyW cs) (va_A (wR 157 ad (EX cs ad) mu) H.size) tt H)) (va_Qi (fun (z : Int32) (xi : Nat → Nat → Int32) => (z, xi) = F_qx_fault mu vt ∧ okR loX hiX xi ∧ (True) ∧ (∀ k f : Nat, Nat.testBit 510 (gpX k f) = true → xi k f = mu k f)) (fun xi t => va_P (dC, dI) vwCl (wR 157 ad (EX cs ad) xi) t.heap) (va_A (wR 157 ad (EX cs ad) mu) H.size)) 0 0 (va_A (wR 157 ad (EX cs ad) mu) H.size) := by
  refine Met.ofW (cc := cX11_fault) (maxL := 3) (ret := (some .int)) (by decide) rfl ?_
  intro p e s m args below meth c s₁ B hml hv
  obtain ⟨rfl, hh, hK, hz, hks⟩ := hv
  have hx := B.exec
  have hb := B.bytes
  have hr := B.returns
  have hts := atoms_spec (ws := (wU yX11_fault cX11_fault 3 (some .int))) B.pre
  have hown : s.vm.findClass RX11 = some m.cls := findClass_of_methodNamed B.named
  have hlocks := B.notSynchronized
  subst hh
  have hD := hD0.self (sz := s.heap.size)
  have hA : ∀ q : Nat, s.heap.size ≤ q → (va_A (wR 157 ad (EX cs ad) mu) s.heap.size) q := fun q h => Or.inr h
  have hS : va_S (va_A (wR 157 ad (EX cs ad) mu) s.heap.size) s.heap s.heap [] := va_S.rf
  have hl := lv_entry ([.ref (ad 0), .int vt]) (n := 3) (Nat.le_of_ble_eq_true rfl)
  rw [lg_entry_eq]
  generalize (lg_sl ([.ref (ad 0), .int vt]) ++ List.replicate (3 - (lg_sl ([.ref (ad 0), .int vt])).length) Slot.unset).toArray = ls at hl ⊢
  have hl : lv_has ls 3 [(0, .ref (ad 0)), (1, .int vt)] := hl
  obtain ⟨fz, hfz⟩ : ∃ z, F_qx_fault mu vt = z := ⟨_, rfl⟩
  have hF := hfz
  unfold F_qx_fault at hF
  refine lv_aload_n hx hb dX11_fault_0 rfl (lv_at hl 0 rfl) ?_
  refine lv_iload_n hx hb dX11_fault_1 rfl (lv_at hl 1 rfl) ?_
  have hFc := fr_all (wR_D mu hD) hS hA
  refine va_calli (va_runV (As := [.int vt]) (rest := []) ⟨hx, hb, hml, hown, hts⟩ (sx_refusedText l dC dI cs ad mu ok s.heap hP ((wR_D mu hD).weaken (fun _ _ _ _ => trivial)) vt) (cwV 1 hts (wU_V mw_3_30 mw_3_27 mw_3_29 mw_0_3 mw_1_1) rfl rfl rfl (by decide +kernel) ⟨Nat.le_of_ble_eq_true rfl, Nat.le_of_ble_eq_true rfl⟩) ⟨sz_c, va_recv hK hP (ci := 11) (q0 := 0) rfl (gX_0 cs ad mu), sz_m hK hz⟩ rfl rfl hl.1 rfl (lv_room (Nat.le_of_ble_eq_true rfl)) dX11_fault_2 ⟨Nat.zero_le _, Nat.zero_le _⟩) hS (fun q _ h => hFc q h) hFc (fun r1 xi1 t H1 locs ht hvm hw1 hB hz1 hk1 hS => ?_)
  have hP : va_P (dC, dI) vwCl (wR 157 ad (EX cs ad) xi1) H1 := by rw [← ht]; exact hB
  obtain ⟨hfe1, hw1⟩ := hw1
  have hF := mi_letp hF hfe1
  rcases hw1 with ⟨rfl, hxi1, f1⟩ | ⟨z1, ok, hkp1_0⟩
  · have hF := (if_pos rfl).symm.trans hF
    have hP : va_P (dC, dI) vwCl (wR 157 ad (EX cs ad) mu) H1 := by rw [← hxi1]; exact hP
    have f1 : 0 ≤ vt.toInt ∧ vt.toInt ≤ 3 ∧ 0 ≤ (mu (14 + vt.toNatClampNeg) 1).toInt := f1
    refine lv_istore_n (lv' := [(2, .int 0), (0, .ref (ad 0)), (1, .int vt)]) hx hb dX11_fault_5 rfl hl (by decide) rfl (fun ls hl => ?_)
    refine lv_iload_n hx hb dX11_fault_6 rfl (lv_at hl 0 rfl) ?_
    refine lv_if_eq (tgt := 12) hx hb dX11_fault_7 (by decide) (fun _ => ?_) (fun c => absurd (by decide) c)
    refine lv_aload_n hx hb dX11_fault_12 rfl (lv_at hl 1 rfl) ?_
    refine va_get (D := (dC, dI)) (ci := 11) (v := .ref (ad 31)) (C := RX11) (T := TX11) (N := 11) hx hb hts inG11 hown hK hP 0 (gX_0 cs ad mu) rfl 4 (by decide) (hts _ (List.mem_cons_of_mem _ mw_2_162)) (fun _ h9 => h9) rfl dX11_fault_13 ?_
    refine lv_aload_n hx hb dX11_fault_16 rfl (lv_at hl 1 rfl) ?_
    refine va_get (D := (dC, dI)) (ci := 11) (v := .ref (ad 2)) (C := RX11) (T := TX11) (N := 11) hx hb hts inG11 hown hK hP 0 (gX_0 cs ad mu) rfl 1 (by decide) (hts _ (List.mem_cons_of_mem _ mw_2_159)) (fun _ h9 => h9) rfl dX11_fault_17 ?_
    refine lv_iload_n hx hb dX11_fault_20 rfl (lv_at hl 2 rfl) ?_
    have hx3 : 0 ≤ vt.toInt ∧ vt.toInt < ((4 : Nat) : Int) := ⟨by omega, by omega⟩
    refine va_aldq hx hb hK hP 2 3 (gX_2 cs ad mu) rfl (show vp_in vt 4 from vi_of hx3.1 hx3.2) dX11_fault_21 ?_
    have hk3 : 14 ≤ (14 + vt.toNatClampNeg) ∧ (14 + vt.toNatClampNeg) < 18 := ix_of hx3
    refine lq_v (.ref (ad (14 + vt.toNatClampNeg))) rfl ?_
    have hFc := fr_all (wR_D mu hD) hS hA
    refine va_calli (va_runV (As := [.ref (ad (14 + vt.toNatClampNeg))]) (rest := []) ⟨hx, hb, hml, hown, hts⟩ (sx_faultIn l dC dI cs ad mu ok H1 hP ((wR_D mu hD).weaken (fun _ _ _ _ => trivial)) tt (14 + vt.toNatClampNeg) hk3.1 hk3.2) (cwV 1 hts (wU_V mw_3_42 mw_3_39 mw_3_40 mw_3_41 mw_1_5) rfl rfl rfl (by decide +kernel) ⟨Nat.le_of_ble_eq_true rfl, Nat.le_of_ble_eq_true rfl⟩) ⟨sy_c, va_recv hK hP (ci := 4) (q0 := 31) rfl (gX_31 cs ad mu), sy_m hK hz (hks.on hS hFc)⟩ rfl rfl hl.1 rfl (lv_room (Nat.le_of_ble_eq_true rfl)) dX11_fault_22 ⟨Nat.zero_le _, Nat.zero_le _⟩) hS (fun q _ h => hFc q h) hFc (fun r4 xi4 t H4 locs ht hvm hw4 hB hz1 hk1 hS => ?_)
    have hP : va_P (dC, dI) vwCl (wR 157 ad (EX cs ad) xi4) H4 := by rw [← ht]; exact hB
    obtain ⟨hfe4, ok, hw4, hkp4_0⟩ := hw4
    have hF := mi_letp hF hfe4
    have kp5 : (∀ k f : Nat, Nat.testBit 510 (gpX k f) = true → xi4 k f = mu k f) := kp_t hkp4_0 (by decide) (fun _ _ _ => rfl)
    exact W.iret (v := r4) hx hb hr (fun t ht hW => ⟨⟨r4, xi4, rfl, ⟨hF.trans hfz.symm, ok, trivial, kp5⟩, by first | (subst ht; exact hP) | (rw [ht]; exact hP) | (show va_P (dC, dI) vwCl (wR 157 ad (EX cs ad) xi4) t.heap; rw [ht]; exact hP)⟩, hS.F ht⟩) hS.2.2 dX11_fault_25
  · have hF := (if_neg (show ¬ r1 = 0 from fun h => by have h9 := congrArg Int32.toInt h; have h8 : (0 : Int32).toInt = 0 := rfl; omega)).symm.trans hF
    have kp2 : (∀ k f : Nat, Nat.testBit 510 (gpX k f) = true → xi1 k f = mu k f) := kp_t hkp1_0 (by decide) (fun _ _ _ => rfl)
    skip
    refine lv_istore_n (lv' := [(2, .int r1), (0, .ref (ad 0)), (1, .int vt)]) hx hb dX11_fault_5 rfl hl (by decide) rfl (fun ls hl => ?_)
    refine lv_iload_n hx hb dX11_fault_6 rfl (lv_at hl 0 rfl) ?_
    refine lv_if_eq (tgt := 12) hx hb dX11_fault_7 (by decide) (fun c_6 => by have c_6 : r1.toInt = 0 := il_eq c_6; exfalso; omega) (fun c_6 => ?_)
    have c_6 : ¬ r1.toInt = 0 := il_ne c_6
    refine lv_iload_n hx hb dX11_fault_10 rfl (lv_at hl 0 rfl) ?_
    exact W.iret (v := r1) hx hb hr (fun t ht hW => ⟨⟨r1, xi1, rfl, ⟨hF.trans hfz.symm, ok, trivial, kp2⟩, by first | (subst ht; exact hP) | (rw [ht]; exact hP) | (show va_P (dC, dI) vwCl (wR 157 ad (EX cs ad) xi1) t.heap; rw [ht]; exact hP)⟩, hS.F ht⟩) hS.2.2 dX11_fault_11
set_option maxHeartbeats 4000000 in
set_option maxRecDepth 100000 in
/-- qx_town -/
theorem qx_town (l : Launch) (dC : Nat → ClassId) (dI : Nat → Nat → Nat) (cs : Nat → ClassId) (ad : Nat → Nat) (mu : Nat → Nat → Int32) (ok : okR loX hiX mu) (H : Heap) (hP : va_P (dC, dI) vwCl (wR 157 ad (EX cs ad) mu) H) (hD0 : va_D (fun _ => True) (wR 157 ad (EX cs ad) mu)) (tt : Nat) (vt : Int32) : Met l yX11_town (wU yX11_town cX11_town 4 (some .int)) ({ frames := 3, cells := 0, slots := 0, locals := 81 }) (va_Pc [.ref (ad 0), .int vt] (sy_P (dC, dI) vwCl (tyW cs) (va_A (wR 157 ad (EX cs ad) mu) H.size) tt H)) (va_Qi (fun (z : Int32) (xi : Nat → Nat → Int32) => (z, xi) = F_qx_town mu vt ∧ okR loX hiX xi ∧ (True) ∧ (∀ k f : Nat, Nat.testBit 2 (gpX k f) = true → xi k f = mu k f)) (fun xi t => va_P (dC, dI) vwCl (wR 157 ad (EX cs ad) xi) t.heap) (va_A (wR 157 ad (EX cs ad) mu) H.size)) 0 0 (va_A (wR 157 ad (EX cs ad) mu) H.size) := by
  refine Met.ofW (cc := cX11_town) (maxL := 4) (ret := (some .int)) (by decide) rfl ?_
  intro p e s m args below meth c s₁ B hml hv
  obtain ⟨rfl, hh, hK, hz, hks⟩ := hv
  have hx := B.exec
  have hb := B.bytes
  have hr := B.returns
  have hts := atoms_spec (ws := (wU yX11_town cX11_town 4 (some .int))) B.pre
  have hown : s.vm.findClass RX11 = some m.cls := findClass_of_methodNamed B.named
  have hlocks := B.notSynchronized
  subst hh
  have hD := hD0.self (sz := s.heap.size)
  have hA : ∀ q : Nat, s.heap.size ≤ q → (va_A (wR 157 ad (EX cs ad) mu) s.heap.size) q := fun q h => Or.inr h
  have hS : va_S (va_A (wR 157 ad (EX cs ad) mu) s.heap.size) s.heap s.heap [] := va_S.rf
  have hl := lv_entry ([.ref (ad 0), .int vt]) (n := 4) (Nat.le_of_ble_eq_true rfl)
  rw [lg_entry_eq]
  generalize (lg_sl ([.ref (ad 0), .int vt]) ++ List.replicate (4 - (lg_sl ([.ref (ad 0), .int vt])).length) Slot.unset).toArray = ls at hl ⊢
  have hl : lv_has ls 4 [(0, .ref (ad 0)), (1, .int vt)] := hl
  obtain ⟨fz, hfz⟩ : ∃ z, F_qx_town mu vt = z := ⟨_, rfl⟩
  have hF := hfz
  unfold F_qx_town at hF
  refine lv_aload_n hx hb dX11_town_0 rfl (lv_at hl 0 rfl) ?_
  refine lv_iload_n hx hb dX11_town_1 rfl (lv_at hl 1 rfl) ?_
  have hFc := fr_all (wR_D mu hD) hS hA
  refine va_calli (va_runV (As := [.int vt]) (rest := []) ⟨hx, hb, hml, hown, hts⟩ (sx_refusedText l dC dI cs ad mu ok s.heap hP ((wR_D mu hD).weaken (fun _ _ _ _ => trivial)) vt) (cwV 1 hts (wU_V mw_3_30 mw_3_27 mw_3_29 mw_0_3 mw_1_1) rfl rfl rfl (by decide +kernel) ⟨Nat.le_of_ble_eq_true rfl, Nat.le_of_ble_eq_true rfl⟩) ⟨sz_c, va_recv hK hP (ci := 11) (q0 := 0) rfl (gX_0 cs ad mu), sz_m hK hz⟩ rfl rfl hl.1 rfl (lv_room (Nat.le_of_ble_eq_true rfl)) dX11_town_2 ⟨Nat.zero_le _, Nat.zero_le _⟩) hS (fun q _ h => hFc q h) hFc (fun r1 xi1 t H1 locs ht hvm hw1 hB hz1 hk1 hS => ?_)
  have hP : va_P (dC, dI) vwCl (wR 157 ad (EX cs ad) xi1) H1 := by rw [← ht]; exact hB
  obtain ⟨hfe1, hw1⟩ := hw1
  have hF := mi_letp hF hfe1
  rcases hw1 with ⟨rfl, hxi1, f1⟩ | ⟨z1, ok, hkp1_0⟩
  · have hF := (if_pos rfl).symm.trans hF
    have hP : va_P (dC, dI) vwCl (wR 157 ad (EX cs ad) mu) H1 := by rw [← hxi1]; exact hP
    have f1 : 0 ≤ vt.toInt ∧ vt.toInt ≤ 3 ∧ 0 ≤ (mu (14 + vt.toNatClampNeg) 1).toInt := f1
    refine lv_istore_n (lv' := [(2, .int 0), (0, .ref (ad 0)), (1, .int vt)]) hx hb dX11_town_5 rfl hl (by decide) rfl (fun ls hl => ?_)
    refine lv_iload_n hx hb dX11_town_6 rfl (lv_at hl 0 rfl) ?_
    refine lv_if_eq (tgt := 12) hx hb dX11_town_7 (by decide) (fun _ => ?_) (fun c => absurd (by decide) c)
    refine lv_aload_n hx hb dX11_town_12 rfl (lv_at hl 1 rfl) ?_
    refine va_get (D := (dC, dI)) (ci := 11) (v := .ref (ad 31)) (C := RX11) (T := TX11) (N := 11) hx hb hts inG11 hown hK hP 0 (gX_0 cs ad mu) rfl 4 (by decide) (hts _ (List.mem_cons_of_mem _ mw_2_162)) (fun _ h9 => h9) rfl dX11_town_13 ?_
    refine lv_aload_n hx hb dX11_town_16 rfl (lv_at hl 1 rfl) ?_
    refine va_get (D := (dC, dI)) (ci := 11) (v := .ref (ad 2)) (C := RX11) (T := TX11) (N := 11) hx hb hts inG11 hown hK hP 0 (gX_0 cs ad mu) rfl 1 (by decide) (hts _ (List.mem_cons_of_mem _ mw_2_159)) (fun _ h9 => h9) rfl dX11_town_17 ?_
    refine lv_iload_n hx hb dX11_town_20 rfl (lv_at hl 2 rfl) ?_
    have hx3 : 0 ≤ vt.toInt ∧ vt.toInt < ((4 : Nat) : Int) := ⟨by omega, by omega⟩
    refine va_aldq hx hb hK hP 2 3 (gX_2 cs ad mu) rfl (show vp_in vt 4 from vi_of hx3.1 hx3.2) dX11_town_21 ?_
    have hk3 : 14 ≤ (14 + vt.toNatClampNeg) ∧ (14 + vt.toNatClampNeg) < 18 := ix_of hx3
    refine lq_v (.ref (ad (14 + vt.toNatClampNeg))) rfl ?_
    have hFc := fr_all (wR_D mu hD) hS hA
    refine va_calli (va_runV (As := [.ref (ad (14 + vt.toNatClampNeg))]) (rest := []) ⟨hx, hb, hml, hown, hts⟩ (sx_faultIn l dC dI cs ad mu ok H1 hP ((wR_D mu hD).weaken (fun _ _ _ _ => trivial)) tt (14 + vt.toNatClampNeg) hk3.1 hk3.2) (cwV 1 hts (wU_V mw_3_42 mw_3_39 mw_3_40 mw_3_41 mw_1_5) rfl rfl rfl (by decide +kernel) ⟨Nat.le_of_ble_eq_true rfl, Nat.le_of_ble_eq_true rfl⟩) ⟨sy_c, va_recv hK hP (ci := 4) (q0 := 31) rfl (gX_31 cs ad mu), sy_m hK hz (hks.on hS hFc)⟩ rfl rfl hl.1 rfl (lv_room (Nat.le_of_ble_eq_true rfl)) dX11_town_22 ⟨Nat.zero_le _, Nat.zero_le _⟩) hS (fun q _ h => hFc q h) hFc (fun r4 xi4 t H4 locs ht hvm hw4 hB hz1 hk1 hS => ?_)
    have hP : va_P (dC, dI) vwCl (wR 157 ad (EX cs ad) xi4) H4 := by rw [← ht]; exact hB
    obtain ⟨hfe4, ok, hw4, hkp4_0⟩ := hw4
    have hF := mi_letp hF hfe4
    have kp5 : (∀ k f : Nat, Nat.testBit 2 (gpX k f) = true → xi4 k f = mu k f) := kp_t hkp4_0 (by decide) (fun _ _ _ => rfl)
    refine lv_bipush (v := (-9)) hx hb dX11_town_25 (by decide) ?_
    refine lv_icmp_eq (tgt := 33) hx hb dX11_town_27 (by decide) (fun c_6 => ?_) (fun c_6 => ?_)
    · have hF := (if_pos c_6).symm.trans hF
      have c_6 : r4.toInt = -9 := il_eq c_6
      refine lv_aload_n hx hb dX11_town_33 rfl (lv_at hl 1 rfl) ?_
      refine va_get (D := (dC, dI)) (ci := 11) (v := .ref (ad 31)) (C := RX11) (T := TX11) (N := 11) hx hb hts inG11 hown hK hP 0 (gX_0 cs ad xi4) rfl 4 (by decide) (hts _ (List.mem_cons_of_mem _ mw_2_162)) (fun _ h9 => h9) rfl dX11_town_34 ?_
      refine lv_aload_n hx hb dX11_town_37 rfl (lv_at hl 1 rfl) ?_
      refine va_get (D := (dC, dI)) (ci := 11) (v := .ref (ad 4)) (C := RX11) (T := TX11) (N := 11) hx hb hts inG11 hown hK hP 0 (gX_0 cs ad xi4) rfl 3 (by decide) (hts _ (List.mem_cons_of_mem _ mw_2_161)) (fun _ h9 => h9) rfl dX11_town_38 ?_
      have hFc := fr_all (wR_D xi4 hD) hS hA
      refine va_callv (va_runV (As := [.ref (ad 4)]) (rest := []) ⟨hx, hb, hml, hown, hts⟩ (sx_build l dC dI cs ad xi4 ok H4 hP ((wR_D xi4 hD).weaken (fun _ _ _ _ => trivial))) (cwV 1 hts (wU_V mw_3_67 mw_3_64 mw_3_65 mw_3_66 mw_1_5) rfl rfl rfl (by decide +kernel) ⟨Nat.le_of_ble_eq_true rfl, Nat.le_of_ble_eq_true rfl⟩) ⟨sz_c, va_recv hK hP (ci := 4) (q0 := 31) rfl (gX_31 cs ad xi4), sz_m hK hz⟩ rfl rfl hl.1 rfl (lv_room (Nat.le_of_ble_eq_true rfl)) dX11_town_41 ⟨Nat.zero_le _, Nat.zero_le _⟩) hS (fun q _ h => hFc q h) hFc (fun xi7 t H7 locs ht hvm hw7 hB hz1 hk1 hS => ?_)
      have hP : va_P (dC, dI) vwCl (wR 157 ad (EX cs ad) xi7) H7 := by rw [← ht]; exact hB
      obtain ⟨hfe7, ok, hw7, hkp7_0⟩ := hw7
      have hF := mi_let hF hfe7
      have kp8 : (∀ k f : Nat, Nat.testBit 2 (gpX k f) = true → xi7 k f = mu k f) := kp_t hkp7_0 (by decide) kp5
      refine lv_aload_n hx hb dX11_town_44 rfl (lv_at hl 1 rfl) ?_
      refine va_get (D := (dC, dI)) (ci := 11) (v := .ref (ad 6)) (C := RX11) (T := TX11) (N := 11) hx hb hts inG11 hown hK hP 0 (gX_0 cs ad xi7) rfl 5 (by decide) (hts _ (List.mem_cons_of_mem _ mw_2_163)) (fun _ h9 => h9) rfl dX11_town_45 ?_
      refine lv_iconst (v := 0) hx hb dX11_town_48 (by decide) ?_
      refine va_put (D := (dC, dI)) (ci := 2) (v := .int 0) (ty := .int) (C := RX2) (T := TX2) (N := 2) hx hb hts inG2 tyX2 tyX2_ok nmX2 hown hK hP (wR_D xi7 hD) hS 6 (gX_6 cs ad xi7) rfl 1 (by decide) (hts _ (List.mem_cons_of_mem _ mw_2_8)) (fun _ h9 => h9) rfl (by decide +kernel) rfl rfl (Nat.le_of_ble_eq_true rfl) dX11_town_49 (fun H locs hP _ hS => ?_)
      simp only [List.set_cons_succ, List.set_cons_zero] at hP
      refine wr_gen (upd (xi7 6) 1 0) hP ((hX_6_1 cs ad _ _)) (fun nu9 hn9 hP => ?_)
      have hF := mi_let hF hn9.symm
      have ok := tX_6_1 ok hn9 (by have h9 : (0 : Int32).toInt = 0 := rfl; exact ⟨by omega, by omega⟩)
      have kp10 : (∀ k f : Nat, Nat.testBit 2 (gpX k f) = true → nu9 k f = mu k f) := kp_c 4 hn9 (fun _ => rfl) (by decide) kp8
      have ez11 : 0 = nu9 6 1 := up_v hn9
      refine lv_iconst (v := 0) hx hb dX11_town_52 (by decide) ?_
      refine lv_istore_n (lv' := [(3, .int 0), (2, .int 0), (0, .ref (ad 0)), (1, .int vt)]) hx hb dX11_town_53 rfl hl (by decide) rfl (fun ls hl => ?_)
      have loop54 : ∀ (n54 : Nat) (v3_54 : Int32) (nu54_ : Nat → Nat → Int32) (H : Heap) (locs : List Loc) (ls : Array Slot), (3 + 1 - v3_54.toInt).toNat < n54 → (0 ≤ v3_54.toInt ∧ v3_54.toInt ≤ 3) → okR loX hiX nu54_ → va_P (dC, dI) vwCl (wR 157 ad (EX cs ad) nu54_) H → (∀ k f : Nat, Nat.testBit 2 (gpX k f) = true → nu54_ k f = mu k f) → L_qx_town_54_0 n54 v3_54 nu54_ = fz → va_S (va_A (wR 157 ad (EX cs ad) mu) s.heap.size) s.heap H locs → lv_has ls 4 [(3, .int v3_54), (2, .int 0), (0, .ref (ad 0)), (1, .int vt)] → W p l e (headSpec (wU yX11_town cX11_town 4 (some .int)) ({ frames := 3, cells := 0, slots := 0, locals := 81 })).room s m ([.ref (ad 0), .int vt] : List Value).toArray below meth c H locs 0 0 (MQ below (va_Qi (fun (z : Int32) (xi : Nat → Nat → Int32) => (z, xi) = F_qx_town mu vt ∧ okR loX hiX xi ∧ (True) ∧ (∀ k f : Nat, Nat.testBit 2 (gpX k f) = true → xi k f = mu k f)) (fun xi t => va_P (dC, dI) vwCl (wR 157 ad (EX cs ad) xi) t.heap) (va_A (wR 157 ad (EX cs ad) mu) s.heap.size)) ([.ref (ad 0), .int vt] : List Value).toArray s 0 0 (va_A (wR 157 ad (EX cs ad) mu) s.heap.size)) (F0 m 54 ls []) := by
        intro n54
        induction n54 with
        | zero => intro v3_54 nu54_ H locs ls hm; exact absurd hm (Nat.not_lt_zero _)
        | succ n54 ih54 =>
          intro v3_54 nu54_ H locs ls hm_54 h_v3_54 ok hP kq54_0 hF hS hl
          rw [L_qx_town_54_0] at hF
          refine lv_iload_n hx hb dX11_town_54 rfl (lv_at hl 0 rfl) ?_
          refine lv_iconst (v := 3) hx hb dX11_town_55 (by decide) ?_
          refine lv_icmp_ge (tgt := 75) hx hb dX11_town_56 (by decide) (fun c_12 => ?_) (fun c_12 => ?_)
          · have hF := (if_pos c_12).symm.trans hF
            have c_12 : 3 ≤ v3_54.toInt := il_le c_12
            refine lv_aload_n hx hb dX11_town_75 rfl (lv_at hl 2 rfl) ?_
            refine va_get (D := (dC, dI)) (ci := 11) (v := .ref (ad 4)) (C := RX11) (T := TX11) (N := 11) hx hb hts inG11 hown hK hP 0 (gX_0 cs ad nu54_) rfl 3 (by decide) (hts _ (List.mem_cons_of_mem _ mw_2_161)) (fun _ h9 => h9) rfl dX11_town_76 ?_
            refine va_get (D := (dC, dI)) (ci := 10) (v := .int (nu54_ 4 6)) (C := RX10) (T := TX10) (N := 8) hx hb hts inG10 hown hK hP 4 (gX_4 cs ad nu54_) rfl 6 (by decide) (hts _ (List.mem_cons_of_mem _ mw_1_164)) (fun _ h9 => h9) rfl dX11_town_79 ?_
            refine lv_topi (fun y13 ey13 => ?_)
            have hF := mi_let hF ey13
            have by13 : y13.toInt = (nu54_ 4 6).toInt := congrArg Int32.toInt ey13
            have gy13 : 0 ≤ y13.toInt ∧ y13.toInt ≤ 7 := by rw [ey13]; exact rX_4_6 ok
            exact W.iret (v := y13) hx hb hr (fun t ht hW => ⟨⟨y13, nu54_, rfl, ⟨hF.trans hfz.symm, ok, trivial, kq54_0⟩, by first | (subst ht; exact hP) | (rw [ht]; exact hP) | (show va_P (dC, dI) vwCl (wR 157 ad (EX cs ad) nu54_) t.heap; rw [ht]; exact hP)⟩, hS.F ht⟩) hS.2.2 dX11_town_82
          · have hF := (if_neg c_12).symm.trans hF
            have c_12 : v3_54.toInt < 3 := il_nle c_12
            refine lv_aload_n hx hb dX11_town_59 rfl (lv_at hl 2 rfl) ?_
            refine va_get (D := (dC, dI)) (ci := 11) (v := .ref (ad 3)) (C := RX11) (T := TX11) (N := 11) hx hb hts inG11 hown hK hP 0 (gX_0 cs ad nu54_) rfl 2 (by decide) (hts _ (List.mem_cons_of_mem _ mw_2_160)) (fun _ h9 => h9) rfl dX11_town_60 ?_
            refine lv_iload_n hx hb dX11_town_63 rfl (lv_at hl 0 rfl) ?_
            have hx14 : 0 ≤ v3_54.toInt ∧ v3_54.toInt < ((3 : Nat) : Int) := ⟨by omega, by omega⟩
            refine va_aldq hx hb hK hP 3 4 (gX_3 cs ad nu54_) rfl (show vp_in v3_54 3 from vi_of hx14.1 hx14.2) dX11_town_64 ?_
            have hk14 : 18 ≤ (18 + v3_54.toNatClampNeg) ∧ (18 + v3_54.toNatClampNeg) < 21 := ix_of hx14
            refine lq_v (.ref (ad (18 + v3_54.toNatClampNeg))) rfl ?_
            refine lv_iconst (v := 0) hx hb dX11_town_65 (by decide) ?_
            refine va_put (D := (dC, dI)) (ci := 8) (v := .int 0) (ty := .boolean) (C := RX8) (T := TX8) (N := 6) hx hb hts inG8 tyX8 tyX8_ok nmX8 hown hK hP (wR_D nu54_ hD) hS (18 + v3_54.toNatClampNeg) (gX_kept cs ad nu54_ (18 + v3_54.toNatClampNeg) hk14.1 hk14.2) rfl 5 (by decide) (hts _ (List.mem_cons_of_mem _ mw_1_129)) (fun _ h9 => h9) rfl (by decide +kernel) (by first | rfl | decide) (by first | rfl | decide) (Nat.le_of_ble_eq_true rfl) dX11_town_66 (fun H locs hP _ hS => ?_)
            simp only [List.set_cons_succ, List.set_cons_zero] at hP
            refine wr_gen (upd (nu54_ (18 + v3_54.toNatClampNeg)) 5 0) hP ((hX_kept_5 cs ad _ _ (18 + v3_54.toNatClampNeg) hk14.1 hk14.2)) (fun nu15 hn15 hP => ?_)
            have hF := mi_let hF hn15.symm
            have ok := tX_kept_5 ok (18 + v3_54.toNatClampNeg) hk14.1 hk14.2 hn15 (by have h9 : (0 : Int32).toInt = 0 := rfl; exact ⟨by omega, by omega⟩)
            have kp16 : (∀ k f : Nat, Nat.testBit 2 (gpX k f) = true → nu15 k f = mu k f) := kp_c 5 hn15 (fun _ => gpX_kept hk14.1 hk14.2) (by decide) kq54_0
            have ez17 : 0 = nu15 (18 + v3_54.toNatClampNeg) 5 := up_v hn15
            refine lv_iinc (v := (v3_54 + 1)) (lv' := [(3, .int (v3_54 + 1)), (2, .int 0), (0, .ref (ad 0)), (1, .int vt)]) hx hb dX11_town_69 hl (k := 0) rfl rfl (by decide) rfl (fun ls hl => ?_)
            refine loc_gen (P := fun w9 => lv_has ls 4 [(3, .int w9), (2, .int 0), (0, .ref (ad 0)), (1, .int vt)]) (v3_54 + 1) hl (fun w18 hw18 hl => ?_)
            have hl : lv_has ls 4 [(3, .int w18), (2, .int 0), (0, .ref (ad 0)), (1, .int vt)] := hl
            have hF := mi_let hF hw18.symm
            have aw18 : w18.toInt = v3_54.toInt + 1 := by rw [← hw18]; first | exact va1 (Int.lt_of_le_of_lt h_v3_54.2 (by decide)) | exact va1 (by omega)
            refine lv_goto (tgt := 54) hx hb dX11_town_72 (by decide) ?_
            exact ih54 (w18) nu15 _ _ _ (by first | exact ms_up hm_54 aw18 h_v3_54.2 | exact ms_lt hm_54 (by omega) (by omega) | omega) (by first | exact rg_up aw18 h_v3_54 (by omega) | omega)  ok hP  kp16 hF hS (lv_sub hl [0, 1, 2, 3] rfl)
      exact loop54 6 (0) nu9 _ _ _ (by have h80 : (0 : Int32).toInt = 0 := rfl; omega) (by have h80 : (0 : Int32).toInt = 0 := rfl; exact ⟨by omega, by omega⟩)  ok hP  kp10 hF hS hl
    · have hF := (if_neg c_6).symm.trans hF
      have c_6 : ¬ r4.toInt = -9 := il_ne c_6
      refine lv_bipush (v := (-4)) hx hb dX11_town_30 (by decide) ?_
      exact W.iret (v := (-4)) hx hb hr (fun t ht hW => ⟨⟨(-4), xi4, rfl, ⟨hF.trans hfz.symm, ok, trivial, kp5⟩, by first | (subst ht; exact hP) | (rw [ht]; exact hP) | (show va_P (dC, dI) vwCl (wR 157 ad (EX cs ad) xi4) t.heap; rw [ht]; exact hP)⟩, hS.F ht⟩) hS.2.2 dX11_town_32
  · have hF := (if_neg (show ¬ r1 = 0 from fun h => by have h9 := congrArg Int32.toInt h; have h8 : (0 : Int32).toInt = 0 := rfl; omega)).symm.trans hF
    have kp2 : (∀ k f : Nat, Nat.testBit 2 (gpX k f) = true → xi1 k f = mu k f) := kp_t hkp1_0 (by decide) (fun _ _ _ => rfl)
    skip
    refine lv_istore_n (lv' := [(2, .int r1), (0, .ref (ad 0)), (1, .int vt)]) hx hb dX11_town_5 rfl hl (by decide) rfl (fun ls hl => ?_)
    refine lv_iload_n hx hb dX11_town_6 rfl (lv_at hl 0 rfl) ?_
    refine lv_if_eq (tgt := 12) hx hb dX11_town_7 (by decide) (fun c_19 => by have c_19 : r1.toInt = 0 := il_eq c_19; exfalso; omega) (fun c_19 => ?_)
    have c_19 : ¬ r1.toInt = 0 := il_ne c_19
    refine lv_iload_n hx hb dX11_town_10 rfl (lv_at hl 0 rfl) ?_
    exact W.iret (v := r1) hx hb hr (fun t ht hW => ⟨⟨r1, xi1, rfl, ⟨hF.trans hfz.symm, ok, trivial, kp2⟩, by first | (subst ht; exact hP) | (rw [ht]; exact hP) | (show va_P (dC, dI) vwCl (wR 157 ad (EX cs ad) xi1) t.heap; rw [ht]; exact hP)⟩, hS.F ht⟩) hS.2.2 dX11_town_11
theorem mw_4_121 : (Cond.methodLink RX10 124 Lib.Math.max.name : Cond) ∈ lw_good := lg_at 4 121 rfl rfl
theorem mw_1_159 : (Cond.fieldLink RX10 31 "DearLetters$Town" "nextWorths" "[I" : Cond) ∈ lw_good := lg_at 1 159 rfl rfl
theorem lb_X10_worthBeside_0 : dl_ck (cX10_worthBeside.data.toList.drop 0) [42, 28, 42, 180, 0, 24, 180, 0, 48, 182, 0, 51, 62, 3, 54, 4, 3, 54, 5, 21, 5, 42, 180, 0, 34, 162, 0, 52, 29, 21, 5, 184] = true := by decide +kernel
theorem lb_X10_worthBeside_1 : dl_ck (cX10_worthBeside.data.toList.drop 32) [0, 41, 153, 0, 37, 21, 5, 43, 180, 0, 80, 159, 0, 14, 42, 180, 0, 9, 21, 5, 46, 6, 159, 0, 17, 21, 4, 42, 180, 0, 31, 21] = true := by decide +kernel
theorem lb_X10_worthBeside_2 : dl_ck (cX10_worthBeside.data.toList.drop 64) [5, 46, 184, 0, 124, 54, 4, 132, 5, 1, 167, 255, 201, 3, 21, 4, 4, 100, 184, 0, 124, 172] = true := by decide +kernel
theorem dX10_worthBeside_0 : decode cX10_worthBeside 0 = .ok (.aload_n 0, 1) := dx_42 (dl_at 0 0 lb_X10_worthBeside_0 rfl)
theorem dX10_worthBeside_1 : decode cX10_worthBeside 1 = .ok (.iload_n 2, 1) := dx_28 (dl_at 0 1 lb_X10_worthBeside_0 rfl)
theorem dX10_worthBeside_2 : decode cX10_worthBeside 2 = .ok (.aload_n 0, 1) := dx_42 (dl_at 0 2 lb_X10_worthBeside_0 rfl)
theorem dX10_worthBeside_3 : decode cX10_worthBeside 3 = .ok (.getfield 24, 3) := dx_180 (a := 0) (b := 24) (dl_at 0 3 lb_X10_worthBeside_0 rfl) (dl_at 0 4 lb_X10_worthBeside_0 rfl) (dl_at 0 5 lb_X10_worthBeside_0 rfl) rfl
theorem dX10_worthBeside_6 : decode cX10_worthBeside 6 = .ok (.getfield 48, 3) := dx_180 (a := 0) (b := 48) (dl_at 0 6 lb_X10_worthBeside_0 rfl) (dl_at 0 7 lb_X10_worthBeside_0 rfl) (dl_at 0 8 lb_X10_worthBeside_0 rfl) rfl
theorem dX10_worthBeside_9 : decode cX10_worthBeside 9 = .ok (.invokevirtual 51, 3) := dx_182 (a := 0) (b := 51) (dl_at 0 9 lb_X10_worthBeside_0 rfl) (dl_at 0 10 lb_X10_worthBeside_0 rfl) (dl_at 0 11 lb_X10_worthBeside_0 rfl) rfl
theorem dX10_worthBeside_12 : decode cX10_worthBeside 12 = .ok (.istore_n 3, 1) := dx_62 (dl_at 0 12 lb_X10_worthBeside_0 rfl)
theorem dX10_worthBeside_13 : decode cX10_worthBeside 13 = .ok (.iconst 0, 1) := dx_3 (dl_at 0 13 lb_X10_worthBeside_0 rfl)
theorem dX10_worthBeside_14 : decode cX10_worthBeside 14 = .ok (.istore 4, 2) := dx_54 (dl_at 0 14 lb_X10_worthBeside_0 rfl) (dl_at 0 15 lb_X10_worthBeside_0 rfl)
theorem dX10_worthBeside_16 : decode cX10_worthBeside 16 = .ok (.iconst 0, 1) := dx_3 (dl_at 0 16 lb_X10_worthBeside_0 rfl)
theorem dX10_worthBeside_17 : decode cX10_worthBeside 17 = .ok (.istore 5, 2) := dx_54 (dl_at 0 17 lb_X10_worthBeside_0 rfl) (dl_at 0 18 lb_X10_worthBeside_0 rfl)
theorem dX10_worthBeside_19 : decode cX10_worthBeside 19 = .ok (.iload 5, 2) := dx_21 (dl_at 0 19 lb_X10_worthBeside_0 rfl) (dl_at 0 20 lb_X10_worthBeside_0 rfl)
theorem dX10_worthBeside_21 : decode cX10_worthBeside 21 = .ok (.aload_n 0, 1) := dx_42 (dl_at 0 21 lb_X10_worthBeside_0 rfl)
theorem dX10_worthBeside_22 : decode cX10_worthBeside 22 = .ok (.getfield 34, 3) := dx_180 (a := 0) (b := 34) (dl_at 0 22 lb_X10_worthBeside_0 rfl) (dl_at 0 23 lb_X10_worthBeside_0 rfl) (dl_at 0 24 lb_X10_worthBeside_0 rfl) rfl
theorem dX10_worthBeside_25 : decode cX10_worthBeside 25 = .ok (.if_icmp .ge 52, 3) := dx_162 (a := 0) (b := 52) (dl_at 0 25 lb_X10_worthBeside_0 rfl) (dl_at 0 26 lb_X10_worthBeside_0 rfl) (dl_at 0 27 lb_X10_worthBeside_0 rfl) sg16_52
theorem dX10_worthBeside_77 : decode cX10_worthBeside 77 = .ok (.iconst 0, 1) := dx_3 (dl_at 64 13 lb_X10_worthBeside_2 rfl)
theorem dX10_worthBeside_78 : decode cX10_worthBeside 78 = .ok (.iload 4, 2) := dx_21 (dl_at 64 14 lb_X10_worthBeside_2 rfl) (dl_at 64 15 lb_X10_worthBeside_2 rfl)
theorem dX10_worthBeside_80 : decode cX10_worthBeside 80 = .ok (.iconst 1, 1) := dx_4 (dl_at 64 16 lb_X10_worthBeside_2 rfl)
theorem dX10_worthBeside_81 : decode cX10_worthBeside 81 = .ok (.isub, 1) := dx_100 (dl_at 64 17 lb_X10_worthBeside_2 rfl)
theorem dX10_worthBeside_82 : decode cX10_worthBeside 82 = .ok (.invokestatic 124, 3) := dx_184 (a := 0) (b := 124) (dl_at 64 18 lb_X10_worthBeside_2 rfl) (dl_at 64 19 lb_X10_worthBeside_2 rfl) (dl_at 64 20 lb_X10_worthBeside_2 rfl) rfl
theorem dX10_worthBeside_85 : decode cX10_worthBeside 85 = .ok (.ireturn, 1) := dx_172 (dl_at 64 21 lb_X10_worthBeside_2 rfl)
theorem dX10_worthBeside_28 : decode cX10_worthBeside 28 = .ok (.iload_n 3, 1) := dx_29 (dl_at 0 28 lb_X10_worthBeside_0 rfl)
theorem dX10_worthBeside_29 : decode cX10_worthBeside 29 = .ok (.iload 5, 2) := dx_21 (dl_at 0 29 lb_X10_worthBeside_0 rfl) (dl_at 0 30 lb_X10_worthBeside_0 rfl)
theorem dX10_worthBeside_31 : decode cX10_worthBeside 31 = .ok (.invokestatic 41, 3) := dx_184 (a := 0) (b := 41) (dl_at 0 31 lb_X10_worthBeside_0 rfl) (dl_at 32 0 lb_X10_worthBeside_1 rfl) (dl_at 32 1 lb_X10_worthBeside_1 rfl) rfl
theorem dX10_worthBeside_34 : decode cX10_worthBeside 34 = .ok (.ifCond .eq 37, 3) := dx_153 (a := 0) (b := 37) (dl_at 32 2 lb_X10_worthBeside_1 rfl) (dl_at 32 3 lb_X10_worthBeside_1 rfl) (dl_at 32 4 lb_X10_worthBeside_1 rfl) sg16_37
theorem dX10_worthBeside_71 : decode cX10_worthBeside 71 = .ok (.iinc 5 1, 3) := dx_132 (dl_at 64 7 lb_X10_worthBeside_2 rfl) (dl_at 64 8 lb_X10_worthBeside_2 rfl) (dl_at 64 9 lb_X10_worthBeside_2 rfl) sg8_1
theorem dX10_worthBeside_74 : decode cX10_worthBeside 74 = .ok (.goto (-55), 3) := dx_167 (a := 255) (b := 201) (dl_at 64 10 lb_X10_worthBeside_2 rfl) (dl_at 64 11 lb_X10_worthBeside_2 rfl) (dl_at 64 12 lb_X10_worthBeside_2 rfl) sg16_65481
theorem dX10_worthBeside_37 : decode cX10_worthBeside 37 = .ok (.iload 5, 2) := dx_21 (dl_at 32 5 lb_X10_worthBeside_1 rfl) (dl_at 32 6 lb_X10_worthBeside_1 rfl)
theorem dX10_worthBeside_39 : decode cX10_worthBeside 39 = .ok (.aload_n 1, 1) := dx_43 (dl_at 32 7 lb_X10_worthBeside_1 rfl)
theorem dX10_worthBeside_40 : decode cX10_worthBeside 40 = .ok (.getfield 80, 3) := dx_180 (a := 0) (b := 80) (dl_at 32 8 lb_X10_worthBeside_1 rfl) (dl_at 32 9 lb_X10_worthBeside_1 rfl) (dl_at 32 10 lb_X10_worthBeside_1 rfl) rfl
theorem dX10_worthBeside_43 : decode cX10_worthBeside 43 = .ok (.if_icmp .eq 14, 3) := dx_159 (a := 0) (b := 14) (dl_at 32 11 lb_X10_worthBeside_1 rfl) (dl_at 32 12 lb_X10_worthBeside_1 rfl) (dl_at 32 13 lb_X10_worthBeside_1 rfl) sg16_14
theorem dX10_worthBeside_57 : decode cX10_worthBeside 57 = .ok (.iload 4, 2) := dx_21 (dl_at 32 25 lb_X10_worthBeside_1 rfl) (dl_at 32 26 lb_X10_worthBeside_1 rfl)
theorem dX10_worthBeside_59 : decode cX10_worthBeside 59 = .ok (.aload_n 0, 1) := dx_42 (dl_at 32 27 lb_X10_worthBeside_1 rfl)
theorem dX10_worthBeside_60 : decode cX10_worthBeside 60 = .ok (.getfield 31, 3) := dx_180 (a := 0) (b := 31) (dl_at 32 28 lb_X10_worthBeside_1 rfl) (dl_at 32 29 lb_X10_worthBeside_1 rfl) (dl_at 32 30 lb_X10_worthBeside_1 rfl) rfl
theorem dX10_worthBeside_63 : decode cX10_worthBeside 63 = .ok (.iload 5, 2) := dx_21 (dl_at 32 31 lb_X10_worthBeside_1 rfl) (dl_at 64 0 lb_X10_worthBeside_2 rfl)
theorem dX10_worthBeside_65 : decode cX10_worthBeside 65 = .ok (.iaload, 1) := dx_46 (dl_at 64 1 lb_X10_worthBeside_2 rfl)
theorem dX10_worthBeside_66 : decode cX10_worthBeside 66 = .ok (.invokestatic 124, 3) := dx_184 (a := 0) (b := 124) (dl_at 64 2 lb_X10_worthBeside_2 rfl) (dl_at 64 3 lb_X10_worthBeside_2 rfl) (dl_at 64 4 lb_X10_worthBeside_2 rfl) rfl
theorem dX10_worthBeside_69 : decode cX10_worthBeside 69 = .ok (.istore 4, 2) := dx_54 (dl_at 64 5 lb_X10_worthBeside_2 rfl) (dl_at 64 6 lb_X10_worthBeside_2 rfl)
theorem dX10_worthBeside_46 : decode cX10_worthBeside 46 = .ok (.aload_n 0, 1) := dx_42 (dl_at 32 14 lb_X10_worthBeside_1 rfl)
theorem dX10_worthBeside_47 : decode cX10_worthBeside 47 = .ok (.getfield 9, 3) := dx_180 (a := 0) (b := 9) (dl_at 32 15 lb_X10_worthBeside_1 rfl) (dl_at 32 16 lb_X10_worthBeside_1 rfl) (dl_at 32 17 lb_X10_worthBeside_1 rfl) rfl
theorem dX10_worthBeside_50 : decode cX10_worthBeside 50 = .ok (.iload 5, 2) := dx_21 (dl_at 32 18 lb_X10_worthBeside_1 rfl) (dl_at 32 19 lb_X10_worthBeside_1 rfl)
theorem dX10_worthBeside_52 : decode cX10_worthBeside 52 = .ok (.iaload, 1) := dx_46 (dl_at 32 20 lb_X10_worthBeside_1 rfl)
theorem dX10_worthBeside_53 : decode cX10_worthBeside 53 = .ok (.iconst 3, 1) := dx_6 (dl_at 32 21 lb_X10_worthBeside_1 rfl)
theorem dX10_worthBeside_54 : decode cX10_worthBeside 54 = .ok (.if_icmp .eq 17, 3) := dx_159 (a := 0) (b := 17) (dl_at 32 22 lb_X10_worthBeside_1 rfl) (dl_at 32 23 lb_X10_worthBeside_1 rfl) (dl_at 32 24 lb_X10_worthBeside_1 rfl) sg16_17
set_option maxHeartbeats 4000000 in
set_option maxRecDepth 100000 in
/-- sx_worthBeside -/
theorem sx_worthBeside (l : Launch) (dC : Nat → ClassId) (dI : Nat → Nat → Nat) (cs : Nat → ClassId) (ad : Nat → Nat) (mu : Nat → Nat → Int32) (ok : okR loX hiX mu) (H : Heap) (hP : va_P (dC, dI) vwCl (wR 157 ad (EX cs ad) mu) H) (kl : Nat) (h1kl : 61 ≤ kl) (h2kl : kl < 77) (vx : Int32) : Met l yX10_worthBeside (wU yX10_worthBeside cX10_worthBeside 6 (some .int)) ({ frames := 2, cells := 0, slots := 0, locals := 45 }) (va_Pc [.ref (ad 4), .ref (ad kl), .int vx] (sz_P (dC, dI) vwCl (tyW cs) H)) (va_Qi (fun (z : Int32) (_ : Unit) => True) (fun _ t => t.heap = H) (fun _ => False)) 0 0 (fun _ => False) := by
  refine Met.ofW (cc := cX10_worthBeside) (maxL := 6) (ret := (some .int)) (by decide) rfl ?_
  intro p e s m args below meth c s₁ B hml hv
  obtain ⟨rfl, hh, hK, hz⟩ := hv
  have hx := B.exec
  have hb := B.bytes
  have hr := B.returns
  have hts := atoms_spec (ws := (wU yX10_worthBeside cX10_worthBeside 6 (some .int))) B.pre
  have hown : s.vm.findClass RX10 = some m.cls := findClass_of_methodNamed B.named
  have hlocks := B.notSynchronized
  subst hh
  have hS : va_S (fun _ => False) s.heap s.heap [] := va_S.rf
  have hl := lv_entry ([.ref (ad 4), .ref (ad kl), .int vx]) (n := 6) (Nat.le_of_ble_eq_true rfl)
  rw [lg_entry_eq]
  generalize (lg_sl ([.ref (ad 4), .ref (ad kl), .int vx]) ++ List.replicate (6 - (lg_sl ([.ref (ad 4), .ref (ad kl), .int vx])).length) Slot.unset).toArray = ls at hl ⊢
  have hl : lv_has ls 6 [(0, .ref (ad 4)), (1, .ref (ad kl)), (2, .int vx)] := hl
  refine lv_aload_n hx hb dX10_worthBeside_0 rfl (lv_at hl 0 rfl) ?_
  refine lv_iload_n hx hb dX10_worthBeside_1 rfl (lv_at hl 2 rfl) ?_
  refine lv_aload_n hx hb dX10_worthBeside_2 rfl (lv_at hl 0 rfl) ?_
  refine va_get (D := (dC, dI)) (ci := 10) (v := .ref (ad 5)) (C := RX10) (T := TX10) (N := 8) hx hb hts inG10 hown hK hP 4 (gX_4 cs ad mu) rfl 3 (by decide) (hts _ (List.mem_cons_of_mem _ mw_1_152)) (fun _ h9 => h9) rfl dX10_worthBeside_3 ?_
  refine va_get (D := (dC, dI)) (ci := 8) (v := .int (mu 5 2)) (C := RX8) (T := TX8) (N := 6) hx hb hts inG8 hown hK hP 5 (gX_5 cs ad mu) rfl 2 (by decide) (hts _ (List.mem_cons_of_mem _ mw_1_116)) (fun _ h9 => h9) rfl dX10_worthBeside_6 ?_
  refine lv_topi (fun y1 ey1 => ?_)
  have by1 : y1.toInt = (mu 5 2).toInt := congrArg Int32.toInt ey1
  refine cr_i (va_runV (As := [.int vx, .int y1]) (rest := []) ⟨hx, hb, hml, hown, hts⟩ (sx_near l dC dI cs ad mu ok s.heap hP vx y1) (cwV 2 hts (wU_V mw_3_84 mw_3_81 mw_3_82 mw_3_83 mw_1_2) rfl rfl rfl (by decide +kernel) ⟨Nat.le_of_ble_eq_true rfl, Nat.le_of_ble_eq_true rfl⟩) ⟨sz_c, va_recv hK hP (ci := 10) (q0 := 4) rfl (gX_4 cs ad mu), sz_m hK hz⟩ rfl rfl hl.1 rfl (lv_room (Nat.le_of_ble_eq_true rfl)) dX10_worthBeside_9 ⟨Nat.zero_le _, Nat.zero_le _⟩) hS (fun r2 hw2 locs hS => ?_)
  obtain ⟨hfe2, hw2⟩ := hw2
  refine lv_istore_n (lv' := [(3, .int r2), (0, .ref (ad 4)), (1, .ref (ad kl)), (2, .int vx)]) hx hb dX10_worthBeside_12 rfl hl (by decide) rfl (fun ls hl => ?_)
  refine lv_iconst (v := 0) hx hb dX10_worthBeside_13 (by decide) ?_
  refine lv_istore (lv' := [(4, .int 0), (3, .int r2), (0, .ref (ad 4)), (1, .ref (ad kl)), (2, .int vx)]) hx hb dX10_worthBeside_14 hl (by decide) rfl (fun ls hl => ?_)
  refine lv_iconst (v := 0) hx hb dX10_worthBeside_16 (by decide) ?_
  refine lv_istore (lv' := [(5, .int 0), (4, .int 0), (3, .int r2), (0, .ref (ad 4)), (1, .ref (ad kl)), (2, .int vx)]) hx hb dX10_worthBeside_17 hl (by decide) rfl (fun ls hl => ?_)
  have loop19 : ∀ (n19 : Nat) (v4_19 : Int32) (v5_19 : Int32) (locs : List Loc) (ls : Array Slot), (7 + 1 - v5_19.toInt).toNat < n19 → (0 ≤ v5_19.toInt ∧ v5_19.toInt ≤ 7) → va_S (fun _ => False) s.heap s.heap locs → lv_has ls 6 [(5, .int v5_19), (4, .int v4_19), (3, .int r2), (0, .ref (ad 4)), (1, .ref (ad kl)), (2, .int vx)] → W p l e (headSpec (wU yX10_worthBeside cX10_worthBeside 6 (some .int)) ({ frames := 2, cells := 0, slots := 0, locals := 45 })).room s m ([.ref (ad 4), .ref (ad kl), .int vx] : List Value).toArray below meth c s.heap locs 0 0 (MQ below (va_Qi (fun (z : Int32) (_ : Unit) => True) (fun _ t => t.heap = s.heap) (fun _ => False)) ([.ref (ad 4), .ref (ad kl), .int vx] : List Value).toArray s 0 0 (fun _ => False)) (F0 m 19 ls []) := by
    intro n19
    induction n19 with
    | zero => intro v4_19 v5_19 locs ls hm; exact absurd hm (Nat.not_lt_zero _)
    | succ n19 ih19 =>
      intro v4_19 v5_19 locs ls hm_19 h_v5_19 hS hl
      refine lv_iload hx hb dX10_worthBeside_19 (lv_at hl 0 rfl) ?_
      refine lv_aload_n hx hb dX10_worthBeside_21 rfl (lv_at hl 3 rfl) ?_
      refine va_get (D := (dC, dI)) (ci := 10) (v := .int (mu 4 6)) (C := RX10) (T := TX10) (N := 8) hx hb hts inG10 hown hK hP 4 (gX_4 cs ad mu) rfl 6 (by decide) (hts _ (List.mem_cons_of_mem _ mw_1_160)) (fun _ h9 => h9) rfl dX10_worthBeside_22 ?_
      refine lv_topi (fun y3 ey3 => ?_)
      have by3 : y3.toInt = (mu 4 6).toInt := congrArg Int32.toInt ey3
      have gy3 : 0 ≤ y3.toInt ∧ y3.toInt ≤ 7 := by rw [ey3]; exact rX_4_6 ok
      refine lv_icmp_ge (tgt := 77) hx hb dX10_worthBeside_25 (by decide) (fun c_4 => ?_) (fun c_4 => ?_)
      · have c_4 : y3.toInt ≤ v5_19.toInt := il_le c_4
        refine lv_iconst (v := 0) hx hb dX10_worthBeside_77 (by decide) ?_
        refine lv_iload hx hb dX10_worthBeside_78 (lv_at hl 1 rfl) ?_
        refine lv_iconst (v := 1) hx hb dX10_worthBeside_80 (by decide) ?_
        refine lv_isub hx hb dX10_worthBeside_81 ?_
        refine lv_topi (fun t5 et5 => ?_)
        refine va_mmax hx hb (hml.trans hl.1.symm) hown (hts _ (List.mem_cons_of_mem _ mw_4_121)) (hts _ (List.mem_cons_of_mem _ mw_3_172)) (hts _ (List.mem_cons_of_mem _ mw_1_17)) (hts _ (List.mem_cons_of_mem _ mw_3_173)) (Nat.le_of_ble_eq_true rfl) (Nat.le_of_ble_eq_true rfl) (Nat.zero_le _) (Nat.zero_le _) dX10_worthBeside_82 ?_
        refine lv_topi (fun t6 et6 => ?_)
        exact W.iret (v := t6) hx hb hr (fun t ht hW => ⟨⟨t6, (), rfl, trivial, ht⟩, hS.F ht⟩) hS.2.2 dX10_worthBeside_85
      · have c_4 : v5_19.toInt < y3.toInt := il_nle c_4
        refine lv_iload_n hx hb dX10_worthBeside_28 rfl (lv_at hl 2 rfl) ?_
        refine lv_iload hx hb dX10_worthBeside_29 (lv_at hl 0 rfl) ?_
        refine cr_i (va_runSN (As := [.int r2, .int v5_19]) (rest := []) ⟨hx, hb, hml, hown, hts⟩ (sx_hasBit l dC dI (tyW cs) s.heap r2 v5_19) ⟨va_cnB 2 hts (wU_in mw_3_87) rfl rfl rfl (hz.2.2.1) (hts _ (List.mem_cons_of_mem _ mw_1_1)) (by decide +kernel) ⟨Nat.le_of_ble_eq_true rfl, Nat.le_of_ble_eq_true rfl⟩, (hts _ (List.mem_cons_of_mem _ mw_3_86)), trivial⟩ ⟨sz_c, sz_m hK hz⟩ rfl rfl hl.1 rfl (lv_room (Nat.le_of_ble_eq_true rfl)) dX10_worthBeside_31 ⟨Nat.zero_le _, Nat.zero_le _⟩) hS (fun r7 hw7 locs hS => ?_)
        obtain ⟨hfe7, hw7⟩ := hw7
        have gr7 : 0 ≤ r7.toInt ∧ r7.toInt ≤ 1 := hw7
        refine lv_if_eq (tgt := 71) hx hb dX10_worthBeside_34 (by decide) (fun c_8 => ?_) (fun c_8 => ?_)
        · have c_8 : r7.toInt = 0 := il_eq c_8
          refine lv_iinc (v := (v5_19 + 1)) (lv' := [(5, .int (v5_19 + 1)), (4, .int v4_19), (3, .int r2), (0, .ref (ad 4)), (1, .ref (ad kl)), (2, .int vx)]) hx hb dX10_worthBeside_71 hl (k := 0) rfl rfl (by decide) rfl (fun ls hl => ?_)
          refine loc_gen (P := fun w9 => lv_has ls 6 [(5, .int w9), (4, .int v4_19), (3, .int r2), (0, .ref (ad 4)), (1, .ref (ad kl)), (2, .int vx)]) (v5_19 + 1) hl (fun w9 hw9 hl => ?_)
          have hl : lv_has ls 6 [(5, .int w9), (4, .int v4_19), (3, .int r2), (0, .ref (ad 4)), (1, .ref (ad kl)), (2, .int vx)] := hl
          have aw9 : w9.toInt = v5_19.toInt + 1 := by rw [← hw9]; first | exact va1 (Int.lt_of_le_of_lt h_v5_19.2 (by decide)) | exact va1 (by omega)
          refine lv_goto (tgt := 19) hx hb dX10_worthBeside_74 (by decide) ?_
          exact ih19 (v4_19) (w9)  _ _ (by first | exact ms_up hm_19 aw9 h_v5_19.2 | exact ms_lt hm_19 (by omega) (by omega) | omega) (by first | exact rg_up aw9 h_v5_19 (by omega) | omega)   hS (lv_sub hl [0, 1, 2, 3, 4, 5] rfl)
        · have c_8 : ¬ r7.toInt = 0 := il_ne c_8
          refine lv_iload hx hb dX10_worthBeside_37 (lv_at hl 0 rfl) ?_
          refine lv_aload_n hx hb dX10_worthBeside_39 rfl (lv_at hl 4 rfl) ?_
          refine va_get (D := (dC, dI)) (ci := 3) (v := .int (mu kl 1)) (C := RX3) (T := TX3) (N := 10) hx hb hts inG3 hown hK hP kl (gX_letter cs ad mu kl h1kl h2kl) rfl 1 (by decide) (hts _ (List.mem_cons_of_mem _ mw_1_55)) (fun _ h9 => h9) rfl dX10_worthBeside_40 ?_
          refine lv_topi (fun y10 ey10 => ?_)
          have by10 : y10.toInt = (mu kl 1).toInt := congrArg Int32.toInt ey10
          have gy10 : 0 ≤ y10.toInt ∧ y10.toInt ≤ 6 := by rw [ey10]; exact rX_letter_1 ok kl h1kl h2kl
          refine lv_icmp_eq (tgt := 57) hx hb dX10_worthBeside_43 (by decide) (fun c_11 => ?_) (fun c_11 => ?_)
          · have c_11 : v5_19.toInt = y10.toInt := il_eq c_11
            refine lv_iload hx hb dX10_worthBeside_57 (lv_at hl 1 rfl) ?_
            refine lv_aload_n hx hb dX10_worthBeside_59 rfl (lv_at hl 3 rfl) ?_
            refine va_get (D := (dC, dI)) (ci := 10) (v := .ref (ad 38)) (C := RX10) (T := TX10) (N := 8) hx hb hts inG10 hown hK hP 4 (gX_4 cs ad mu) rfl 5 (by decide) (hts _ (List.mem_cons_of_mem _ mw_1_159)) (fun _ h9 => h9) rfl dX10_worthBeside_60 ?_
            refine lv_iload hx hb dX10_worthBeside_63 (lv_at hl 0 rfl) ?_
            refine va_iald hx hb hK hP 38 0 (gX_38 cs ad mu) rfl (show vp_in v5_19 7 from vi_of (by omega) (by omega)) dX10_worthBeside_65 ?_
            refine lv_topi (fun y12 ey12 => ?_)
            have by12 : y12.toInt = (mu 38 v5_19.toNatClampNeg).toInt := congrArg Int32.toInt ey12
            refine va_mmax hx hb (hml.trans hl.1.symm) hown (hts _ (List.mem_cons_of_mem _ mw_4_121)) (hts _ (List.mem_cons_of_mem _ mw_3_172)) (hts _ (List.mem_cons_of_mem _ mw_1_17)) (hts _ (List.mem_cons_of_mem _ mw_3_173)) (Nat.le_of_ble_eq_true rfl) (Nat.le_of_ble_eq_true rfl) (Nat.zero_le _) (Nat.zero_le _) dX10_worthBeside_66 ?_
            refine lv_topi (fun t13 et13 => ?_)
            refine lv_istore (lv' := [(4, .int t13), (5, .int v5_19), (3, .int r2), (0, .ref (ad 4)), (1, .ref (ad kl)), (2, .int vx)]) hx hb dX10_worthBeside_69 hl (by decide) rfl (fun ls hl => ?_)
            refine lv_iinc (v := (v5_19 + 1)) (lv' := [(5, .int (v5_19 + 1)), (4, .int t13), (3, .int r2), (0, .ref (ad 4)), (1, .ref (ad kl)), (2, .int vx)]) hx hb dX10_worthBeside_71 hl (k := 1) rfl rfl (by decide) rfl (fun ls hl => ?_)
            refine loc_gen (P := fun w9 => lv_has ls 6 [(5, .int w9), (4, .int t13), (3, .int r2), (0, .ref (ad 4)), (1, .ref (ad kl)), (2, .int vx)]) (v5_19 + 1) hl (fun w14 hw14 hl => ?_)
            have hl : lv_has ls 6 [(5, .int w14), (4, .int t13), (3, .int r2), (0, .ref (ad 4)), (1, .ref (ad kl)), (2, .int vx)] := hl
            have aw14 : w14.toInt = v5_19.toInt + 1 := by rw [← hw14]; first | exact va1 (Int.lt_of_le_of_lt h_v5_19.2 (by decide)) | exact va1 (by omega)
            refine lv_goto (tgt := 19) hx hb dX10_worthBeside_74 (by decide) ?_
            exact ih19 (t13) (w14)  _ _ (by first | exact ms_up hm_19 aw14 h_v5_19.2 | exact ms_lt hm_19 (by omega) (by omega) | omega) (by first | exact rg_up aw14 h_v5_19 (by omega) | omega)   hS (lv_sub hl [0, 1, 2, 3, 4, 5] rfl)
          · have c_11 : ¬ v5_19.toInt = y10.toInt := il_ne c_11
            refine lv_aload_n hx hb dX10_worthBeside_46 rfl (lv_at hl 3 rfl) ?_
            refine va_get (D := (dC, dI)) (ci := 10) (v := .ref (ad 34)) (C := RX10) (T := TX10) (N := 8) hx hb hts inG10 hown hK hP 4 (gX_4 cs ad mu) rfl 0 (by decide) (hts _ (List.mem_cons_of_mem _ mw_1_143)) (fun _ h9 => h9) rfl dX10_worthBeside_47 ?_
            refine lv_iload hx hb dX10_worthBeside_50 (lv_at hl 0 rfl) ?_
            refine va_iald hx hb hK hP 34 0 (gX_34 cs ad mu) rfl (show vp_in v5_19 7 from vi_of (by omega) (by omega)) dX10_worthBeside_52 ?_
            refine lv_topi (fun y15 ey15 => ?_)
            have by15 : y15.toInt = (mu 34 v5_19.toNatClampNeg).toInt := congrArg Int32.toInt ey15
            refine lv_iconst (v := 3) hx hb dX10_worthBeside_53 (by decide) ?_
            refine lv_icmp_eq (tgt := 71) hx hb dX10_worthBeside_54 (by decide) (fun c_16 => ?_) (fun c_16 => ?_)
            · have c_16 : y15.toInt = 3 := il_eq c_16
              refine lv_iinc (v := (v5_19 + 1)) (lv' := [(5, .int (v5_19 + 1)), (4, .int v4_19), (3, .int r2), (0, .ref (ad 4)), (1, .ref (ad kl)), (2, .int vx)]) hx hb dX10_worthBeside_71 hl (k := 0) rfl rfl (by decide) rfl (fun ls hl => ?_)
              refine loc_gen (P := fun w9 => lv_has ls 6 [(5, .int w9), (4, .int v4_19), (3, .int r2), (0, .ref (ad 4)), (1, .ref (ad kl)), (2, .int vx)]) (v5_19 + 1) hl (fun w17 hw17 hl => ?_)
              have hl : lv_has ls 6 [(5, .int w17), (4, .int v4_19), (3, .int r2), (0, .ref (ad 4)), (1, .ref (ad kl)), (2, .int vx)] := hl
              have aw17 : w17.toInt = v5_19.toInt + 1 := by rw [← hw17]; first | exact va1 (Int.lt_of_le_of_lt h_v5_19.2 (by decide)) | exact va1 (by omega)
              refine lv_goto (tgt := 19) hx hb dX10_worthBeside_74 (by decide) ?_
              exact ih19 (v4_19) (w17)  _ _ (by first | exact ms_up hm_19 aw17 h_v5_19.2 | exact ms_lt hm_19 (by omega) (by omega) | omega) (by first | exact rg_up aw17 h_v5_19 (by omega) | omega)   hS (lv_sub hl [0, 1, 2, 3, 4, 5] rfl)
            · have c_16 : ¬ y15.toInt = 3 := il_ne c_16
              refine lv_iload hx hb dX10_worthBeside_57 (lv_at hl 1 rfl) ?_
              refine lv_aload_n hx hb dX10_worthBeside_59 rfl (lv_at hl 3 rfl) ?_
              refine va_get (D := (dC, dI)) (ci := 10) (v := .ref (ad 38)) (C := RX10) (T := TX10) (N := 8) hx hb hts inG10 hown hK hP 4 (gX_4 cs ad mu) rfl 5 (by decide) (hts _ (List.mem_cons_of_mem _ mw_1_159)) (fun _ h9 => h9) rfl dX10_worthBeside_60 ?_
              refine lv_iload hx hb dX10_worthBeside_63 (lv_at hl 0 rfl) ?_
              refine va_iald hx hb hK hP 38 0 (gX_38 cs ad mu) rfl (show vp_in v5_19 7 from vi_of (by omega) (by omega)) dX10_worthBeside_65 ?_
              refine lv_topi (fun y18 ey18 => ?_)
              have by18 : y18.toInt = (mu 38 v5_19.toNatClampNeg).toInt := congrArg Int32.toInt ey18
              refine va_mmax hx hb (hml.trans hl.1.symm) hown (hts _ (List.mem_cons_of_mem _ mw_4_121)) (hts _ (List.mem_cons_of_mem _ mw_3_172)) (hts _ (List.mem_cons_of_mem _ mw_1_17)) (hts _ (List.mem_cons_of_mem _ mw_3_173)) (Nat.le_of_ble_eq_true rfl) (Nat.le_of_ble_eq_true rfl) (Nat.zero_le _) (Nat.zero_le _) dX10_worthBeside_66 ?_
              refine lv_topi (fun t19 et19 => ?_)
              refine lv_istore (lv' := [(4, .int t19), (5, .int v5_19), (3, .int r2), (0, .ref (ad 4)), (1, .ref (ad kl)), (2, .int vx)]) hx hb dX10_worthBeside_69 hl (by decide) rfl (fun ls hl => ?_)
              refine lv_iinc (v := (v5_19 + 1)) (lv' := [(5, .int (v5_19 + 1)), (4, .int t19), (3, .int r2), (0, .ref (ad 4)), (1, .ref (ad kl)), (2, .int vx)]) hx hb dX10_worthBeside_71 hl (k := 1) rfl rfl (by decide) rfl (fun ls hl => ?_)
              refine loc_gen (P := fun w9 => lv_has ls 6 [(5, .int w9), (4, .int t19), (3, .int r2), (0, .ref (ad 4)), (1, .ref (ad kl)), (2, .int vx)]) (v5_19 + 1) hl (fun w20 hw20 hl => ?_)
              have hl : lv_has ls 6 [(5, .int w20), (4, .int t19), (3, .int r2), (0, .ref (ad 4)), (1, .ref (ad kl)), (2, .int vx)] := hl
              have aw20 : w20.toInt = v5_19.toInt + 1 := by rw [← hw20]; first | exact va1 (Int.lt_of_le_of_lt h_v5_19.2 (by decide)) | exact va1 (by omega)
              refine lv_goto (tgt := 19) hx hb dX10_worthBeside_74 (by decide) ?_
              exact ih19 (t19) (w20)  _ _ (by first | exact ms_up hm_19 aw20 h_v5_19.2 | exact ms_lt hm_19 (by omega) (by omega) | omega) (by first | exact rg_up aw20 h_v5_19 (by omega) | omega)   hS (lv_sub hl [0, 1, 2, 3, 4, 5] rfl)
  exact loop19 ((7 + 1 - (0 : Int32).toInt).toNat + 1) (0) (0)  _ _ (Nat.lt_succ_self _) (by have h80 : (0 : Int32).toInt = 0 := rfl; exact ⟨by omega, by omega⟩)   hS hl
theorem mw_1_158 : (Cond.fieldLink RX10 28 "DearLetters$Town" "worths" "[I" : Cond) ∈ lw_good := lg_at 1 158 rfl rfl
theorem mw_4_115 : (Cond.methodLink RX10 108 yJ7_fill_53178 : Cond) ∈ lw_good := lg_at 4 115 rfl rfl
theorem mw_4_116 : (Cond.methodLink RX10 114 arraycopyName : Cond) ∈ lw_good := lg_at 4 116 rfl rfl
theorem mw_4_120 : (Cond.code yX10_worthBeside cX10_worthBeside 6 (some .int) : Cond) ∈ lw_good := lg_at 4 120 rfl rfl
theorem mw_4_117 : (Cond.methodLink RX10 120 yX10_worthBeside : Cond) ∈ lw_good := lg_at 4 117 rfl rfl
theorem mw_4_119 : (Cond.instanceMethod yX10_worthBeside : Cond) ∈ lw_good := lg_at 4 119 rfl rfl
theorem mw_0_19 : (Cond.selects RX10 yX10_worthBeside yX10_worthBeside : Cond) ∈ lw_good := lg_at 0 19 rfl rfl
theorem cX_37_38 {a b : Nat} : ∀ f, loX 38 f ≤ loX 37 (a + (f - b)) ∧ hiX 37 (a + (f - b)) ≤ hiX 38 f := fun f => by
  unfold loX hiX
  exact (show (-2147483648 : Int) ≤ -2147483648 ∧ (2147483647 : Int) ≤ 2147483647 by decide)
theorem lb_X10_worthTo_0 : dl_ck (cX10_worthTo.data.toList.drop 0) [42, 180, 0, 28, 3, 184, 0, 108, 42, 180, 0, 28, 43, 180, 0, 80, 43, 42, 180, 0, 24, 180, 0, 95, 16, 20, 96, 182, 0, 102, 79, 16] = true := by decide +kernel
theorem lb_X10_worthTo_1 : dl_ck (cX10_worthTo.data.toList.drop 32) [19, 54, 4, 21, 4, 29, 161, 0, 82, 42, 180, 0, 28, 3, 42, 180, 0, 31, 3, 16, 7, 184, 0, 114, 3, 54, 5, 21, 5, 42, 180, 0] = true := by decide +kernel
theorem lb_X10_worthTo_2 : dl_ck (cX10_worthTo.data.toList.drop 64) [34, 162, 0, 49, 42, 180, 0, 28, 21, 5, 21, 5, 43, 180, 0, 80, 160, 0, 20, 43, 42, 180, 0, 24, 180, 0, 95, 21, 4, 96, 182, 0] = true := by decide +kernel
theorem lb_X10_worthTo_3 : dl_ck (cX10_worthTo.data.toList.drop 96) [102, 167, 0, 10, 42, 43, 21, 5, 182, 0, 120, 79, 132, 5, 1, 167, 255, 204, 132, 4, 255, 167, 255, 174, 42, 180, 0, 28, 28, 46, 172] = true := by decide +kernel
theorem dX10_worthTo_0 : decode cX10_worthTo 0 = .ok (.aload_n 0, 1) := dx_42 (dl_at 0 0 lb_X10_worthTo_0 rfl)
theorem dX10_worthTo_1 : decode cX10_worthTo 1 = .ok (.getfield 28, 3) := dx_180 (a := 0) (b := 28) (dl_at 0 1 lb_X10_worthTo_0 rfl) (dl_at 0 2 lb_X10_worthTo_0 rfl) (dl_at 0 3 lb_X10_worthTo_0 rfl) rfl
theorem dX10_worthTo_4 : decode cX10_worthTo 4 = .ok (.iconst 0, 1) := dx_3 (dl_at 0 4 lb_X10_worthTo_0 rfl)
theorem dX10_worthTo_5 : decode cX10_worthTo 5 = .ok (.invokestatic 108, 3) := dx_184 (a := 0) (b := 108) (dl_at 0 5 lb_X10_worthTo_0 rfl) (dl_at 0 6 lb_X10_worthTo_0 rfl) (dl_at 0 7 lb_X10_worthTo_0 rfl) rfl
theorem dX10_worthTo_8 : decode cX10_worthTo 8 = .ok (.aload_n 0, 1) := dx_42 (dl_at 0 8 lb_X10_worthTo_0 rfl)
theorem dX10_worthTo_9 : decode cX10_worthTo 9 = .ok (.getfield 28, 3) := dx_180 (a := 0) (b := 28) (dl_at 0 9 lb_X10_worthTo_0 rfl) (dl_at 0 10 lb_X10_worthTo_0 rfl) (dl_at 0 11 lb_X10_worthTo_0 rfl) rfl
theorem dX10_worthTo_12 : decode cX10_worthTo 12 = .ok (.aload_n 1, 1) := dx_43 (dl_at 0 12 lb_X10_worthTo_0 rfl)
theorem dX10_worthTo_13 : decode cX10_worthTo 13 = .ok (.getfield 80, 3) := dx_180 (a := 0) (b := 80) (dl_at 0 13 lb_X10_worthTo_0 rfl) (dl_at 0 14 lb_X10_worthTo_0 rfl) (dl_at 0 15 lb_X10_worthTo_0 rfl) rfl
theorem dX10_worthTo_16 : decode cX10_worthTo 16 = .ok (.aload_n 1, 1) := dx_43 (dl_at 0 16 lb_X10_worthTo_0 rfl)
theorem dX10_worthTo_17 : decode cX10_worthTo 17 = .ok (.aload_n 0, 1) := dx_42 (dl_at 0 17 lb_X10_worthTo_0 rfl)
theorem dX10_worthTo_18 : decode cX10_worthTo 18 = .ok (.getfield 24, 3) := dx_180 (a := 0) (b := 24) (dl_at 0 18 lb_X10_worthTo_0 rfl) (dl_at 0 19 lb_X10_worthTo_0 rfl) (dl_at 0 20 lb_X10_worthTo_0 rfl) rfl
theorem dX10_worthTo_21 : decode cX10_worthTo 21 = .ok (.getfield 95, 3) := dx_180 (a := 0) (b := 95) (dl_at 0 21 lb_X10_worthTo_0 rfl) (dl_at 0 22 lb_X10_worthTo_0 rfl) (dl_at 0 23 lb_X10_worthTo_0 rfl) rfl
theorem dX10_worthTo_24 : decode cX10_worthTo 24 = .ok (.bipush 20, 2) := dx_16 (dl_at 0 24 lb_X10_worthTo_0 rfl) (dl_at 0 25 lb_X10_worthTo_0 rfl) sg8_20
theorem dX10_worthTo_26 : decode cX10_worthTo 26 = .ok (.iadd, 1) := dx_96 (dl_at 0 26 lb_X10_worthTo_0 rfl)
theorem dX10_worthTo_27 : decode cX10_worthTo 27 = .ok (.invokevirtual 102, 3) := dx_182 (a := 0) (b := 102) (dl_at 0 27 lb_X10_worthTo_0 rfl) (dl_at 0 28 lb_X10_worthTo_0 rfl) (dl_at 0 29 lb_X10_worthTo_0 rfl) rfl
theorem dX10_worthTo_30 : decode cX10_worthTo 30 = .ok (.iastore, 1) := dx_79 (dl_at 0 30 lb_X10_worthTo_0 rfl)
theorem dX10_worthTo_31 : decode cX10_worthTo 31 = .ok (.bipush 19, 2) := dx_16 (dl_at 0 31 lb_X10_worthTo_0 rfl) (dl_at 32 0 lb_X10_worthTo_1 rfl) sg8_19
theorem dX10_worthTo_33 : decode cX10_worthTo 33 = .ok (.istore 4, 2) := dx_54 (dl_at 32 1 lb_X10_worthTo_1 rfl) (dl_at 32 2 lb_X10_worthTo_1 rfl)
theorem dX10_worthTo_35 : decode cX10_worthTo 35 = .ok (.iload 4, 2) := dx_21 (dl_at 32 3 lb_X10_worthTo_1 rfl) (dl_at 32 4 lb_X10_worthTo_1 rfl)
theorem dX10_worthTo_37 : decode cX10_worthTo 37 = .ok (.iload_n 3, 1) := dx_29 (dl_at 32 5 lb_X10_worthTo_1 rfl)
theorem dX10_worthTo_38 : decode cX10_worthTo 38 = .ok (.if_icmp .lt 82, 3) := dx_161 (a := 0) (b := 82) (dl_at 32 6 lb_X10_worthTo_1 rfl) (dl_at 32 7 lb_X10_worthTo_1 rfl) (dl_at 32 8 lb_X10_worthTo_1 rfl) sg16_82
theorem dX10_worthTo_120 : decode cX10_worthTo 120 = .ok (.aload_n 0, 1) := dx_42 (dl_at 96 24 lb_X10_worthTo_3 rfl)
theorem dX10_worthTo_121 : decode cX10_worthTo 121 = .ok (.getfield 28, 3) := dx_180 (a := 0) (b := 28) (dl_at 96 25 lb_X10_worthTo_3 rfl) (dl_at 96 26 lb_X10_worthTo_3 rfl) (dl_at 96 27 lb_X10_worthTo_3 rfl) rfl
theorem dX10_worthTo_124 : decode cX10_worthTo 124 = .ok (.iload_n 2, 1) := dx_28 (dl_at 96 28 lb_X10_worthTo_3 rfl)
theorem dX10_worthTo_125 : decode cX10_worthTo 125 = .ok (.iaload, 1) := dx_46 (dl_at 96 29 lb_X10_worthTo_3 rfl)
theorem dX10_worthTo_126 : decode cX10_worthTo 126 = .ok (.ireturn, 1) := dx_172 (dl_at 96 30 lb_X10_worthTo_3 rfl)
theorem dX10_worthTo_41 : decode cX10_worthTo 41 = .ok (.aload_n 0, 1) := dx_42 (dl_at 32 9 lb_X10_worthTo_1 rfl)
theorem dX10_worthTo_42 : decode cX10_worthTo 42 = .ok (.getfield 28, 3) := dx_180 (a := 0) (b := 28) (dl_at 32 10 lb_X10_worthTo_1 rfl) (dl_at 32 11 lb_X10_worthTo_1 rfl) (dl_at 32 12 lb_X10_worthTo_1 rfl) rfl
theorem dX10_worthTo_45 : decode cX10_worthTo 45 = .ok (.iconst 0, 1) := dx_3 (dl_at 32 13 lb_X10_worthTo_1 rfl)
theorem dX10_worthTo_46 : decode cX10_worthTo 46 = .ok (.aload_n 0, 1) := dx_42 (dl_at 32 14 lb_X10_worthTo_1 rfl)
theorem dX10_worthTo_47 : decode cX10_worthTo 47 = .ok (.getfield 31, 3) := dx_180 (a := 0) (b := 31) (dl_at 32 15 lb_X10_worthTo_1 rfl) (dl_at 32 16 lb_X10_worthTo_1 rfl) (dl_at 32 17 lb_X10_worthTo_1 rfl) rfl
theorem dX10_worthTo_50 : decode cX10_worthTo 50 = .ok (.iconst 0, 1) := dx_3 (dl_at 32 18 lb_X10_worthTo_1 rfl)
theorem dX10_worthTo_51 : decode cX10_worthTo 51 = .ok (.bipush 7, 2) := dx_16 (dl_at 32 19 lb_X10_worthTo_1 rfl) (dl_at 32 20 lb_X10_worthTo_1 rfl) sg8_7
theorem dX10_worthTo_53 : decode cX10_worthTo 53 = .ok (.invokestatic 114, 3) := dx_184 (a := 0) (b := 114) (dl_at 32 21 lb_X10_worthTo_1 rfl) (dl_at 32 22 lb_X10_worthTo_1 rfl) (dl_at 32 23 lb_X10_worthTo_1 rfl) rfl
theorem dX10_worthTo_56 : decode cX10_worthTo 56 = .ok (.iconst 0, 1) := dx_3 (dl_at 32 24 lb_X10_worthTo_1 rfl)
theorem dX10_worthTo_57 : decode cX10_worthTo 57 = .ok (.istore 5, 2) := dx_54 (dl_at 32 25 lb_X10_worthTo_1 rfl) (dl_at 32 26 lb_X10_worthTo_1 rfl)
theorem dX10_worthTo_59 : decode cX10_worthTo 59 = .ok (.iload 5, 2) := dx_21 (dl_at 32 27 lb_X10_worthTo_1 rfl) (dl_at 32 28 lb_X10_worthTo_1 rfl)
theorem dX10_worthTo_61 : decode cX10_worthTo 61 = .ok (.aload_n 0, 1) := dx_42 (dl_at 32 29 lb_X10_worthTo_1 rfl)
theorem dX10_worthTo_62 : decode cX10_worthTo 62 = .ok (.getfield 34, 3) := dx_180 (a := 0) (b := 34) (dl_at 32 30 lb_X10_worthTo_1 rfl) (dl_at 32 31 lb_X10_worthTo_1 rfl) (dl_at 64 0 lb_X10_worthTo_2 rfl) rfl
theorem dX10_worthTo_65 : decode cX10_worthTo 65 = .ok (.if_icmp .ge 49, 3) := dx_162 (a := 0) (b := 49) (dl_at 64 1 lb_X10_worthTo_2 rfl) (dl_at 64 2 lb_X10_worthTo_2 rfl) (dl_at 64 3 lb_X10_worthTo_2 rfl) sg16_49
theorem dX10_worthTo_114 : decode cX10_worthTo 114 = .ok (.iinc 4 (-1), 3) := dx_132 (dl_at 96 18 lb_X10_worthTo_3 rfl) (dl_at 96 19 lb_X10_worthTo_3 rfl) (dl_at 96 20 lb_X10_worthTo_3 rfl) sg8_255
theorem dX10_worthTo_117 : decode cX10_worthTo 117 = .ok (.goto (-82), 3) := dx_167 (a := 255) (b := 174) (dl_at 96 21 lb_X10_worthTo_3 rfl) (dl_at 96 22 lb_X10_worthTo_3 rfl) (dl_at 96 23 lb_X10_worthTo_3 rfl) sg16_65454
theorem dX10_worthTo_68 : decode cX10_worthTo 68 = .ok (.aload_n 0, 1) := dx_42 (dl_at 64 4 lb_X10_worthTo_2 rfl)
theorem dX10_worthTo_69 : decode cX10_worthTo 69 = .ok (.getfield 28, 3) := dx_180 (a := 0) (b := 28) (dl_at 64 5 lb_X10_worthTo_2 rfl) (dl_at 64 6 lb_X10_worthTo_2 rfl) (dl_at 64 7 lb_X10_worthTo_2 rfl) rfl
theorem dX10_worthTo_72 : decode cX10_worthTo 72 = .ok (.iload 5, 2) := dx_21 (dl_at 64 8 lb_X10_worthTo_2 rfl) (dl_at 64 9 lb_X10_worthTo_2 rfl)
theorem dX10_worthTo_74 : decode cX10_worthTo 74 = .ok (.iload 5, 2) := dx_21 (dl_at 64 10 lb_X10_worthTo_2 rfl) (dl_at 64 11 lb_X10_worthTo_2 rfl)
theorem dX10_worthTo_76 : decode cX10_worthTo 76 = .ok (.aload_n 1, 1) := dx_43 (dl_at 64 12 lb_X10_worthTo_2 rfl)
theorem dX10_worthTo_77 : decode cX10_worthTo 77 = .ok (.getfield 80, 3) := dx_180 (a := 0) (b := 80) (dl_at 64 13 lb_X10_worthTo_2 rfl) (dl_at 64 14 lb_X10_worthTo_2 rfl) (dl_at 64 15 lb_X10_worthTo_2 rfl) rfl
theorem dX10_worthTo_80 : decode cX10_worthTo 80 = .ok (.if_icmp .ne 20, 3) := dx_160 (a := 0) (b := 20) (dl_at 64 16 lb_X10_worthTo_2 rfl) (dl_at 64 17 lb_X10_worthTo_2 rfl) (dl_at 64 18 lb_X10_worthTo_2 rfl) sg16_20
theorem dX10_worthTo_100 : decode cX10_worthTo 100 = .ok (.aload_n 0, 1) := dx_42 (dl_at 96 4 lb_X10_worthTo_3 rfl)
theorem dX10_worthTo_101 : decode cX10_worthTo 101 = .ok (.aload_n 1, 1) := dx_43 (dl_at 96 5 lb_X10_worthTo_3 rfl)
theorem dX10_worthTo_102 : decode cX10_worthTo 102 = .ok (.iload 5, 2) := dx_21 (dl_at 96 6 lb_X10_worthTo_3 rfl) (dl_at 96 7 lb_X10_worthTo_3 rfl)
theorem dX10_worthTo_104 : decode cX10_worthTo 104 = .ok (.invokevirtual 120, 3) := dx_182 (a := 0) (b := 120) (dl_at 96 8 lb_X10_worthTo_3 rfl) (dl_at 96 9 lb_X10_worthTo_3 rfl) (dl_at 96 10 lb_X10_worthTo_3 rfl) rfl
theorem dX10_worthTo_107 : decode cX10_worthTo 107 = .ok (.iastore, 1) := dx_79 (dl_at 96 11 lb_X10_worthTo_3 rfl)
theorem dX10_worthTo_108 : decode cX10_worthTo 108 = .ok (.iinc 5 1, 3) := dx_132 (dl_at 96 12 lb_X10_worthTo_3 rfl) (dl_at 96 13 lb_X10_worthTo_3 rfl) (dl_at 96 14 lb_X10_worthTo_3 rfl) sg8_1
theorem dX10_worthTo_111 : decode cX10_worthTo 111 = .ok (.goto (-52), 3) := dx_167 (a := 255) (b := 204) (dl_at 96 15 lb_X10_worthTo_3 rfl) (dl_at 96 16 lb_X10_worthTo_3 rfl) (dl_at 96 17 lb_X10_worthTo_3 rfl) sg16_65484
theorem dX10_worthTo_83 : decode cX10_worthTo 83 = .ok (.aload_n 1, 1) := dx_43 (dl_at 64 19 lb_X10_worthTo_2 rfl)
theorem dX10_worthTo_84 : decode cX10_worthTo 84 = .ok (.aload_n 0, 1) := dx_42 (dl_at 64 20 lb_X10_worthTo_2 rfl)
theorem dX10_worthTo_85 : decode cX10_worthTo 85 = .ok (.getfield 24, 3) := dx_180 (a := 0) (b := 24) (dl_at 64 21 lb_X10_worthTo_2 rfl) (dl_at 64 22 lb_X10_worthTo_2 rfl) (dl_at 64 23 lb_X10_worthTo_2 rfl) rfl
theorem dX10_worthTo_88 : decode cX10_worthTo 88 = .ok (.getfield 95, 3) := dx_180 (a := 0) (b := 95) (dl_at 64 24 lb_X10_worthTo_2 rfl) (dl_at 64 25 lb_X10_worthTo_2 rfl) (dl_at 64 26 lb_X10_worthTo_2 rfl) rfl
theorem dX10_worthTo_91 : decode cX10_worthTo 91 = .ok (.iload 4, 2) := dx_21 (dl_at 64 27 lb_X10_worthTo_2 rfl) (dl_at 64 28 lb_X10_worthTo_2 rfl)
theorem dX10_worthTo_93 : decode cX10_worthTo 93 = .ok (.iadd, 1) := dx_96 (dl_at 64 29 lb_X10_worthTo_2 rfl)
theorem dX10_worthTo_94 : decode cX10_worthTo 94 = .ok (.invokevirtual 102, 3) := dx_182 (a := 0) (b := 102) (dl_at 64 30 lb_X10_worthTo_2 rfl) (dl_at 64 31 lb_X10_worthTo_2 rfl) (dl_at 96 0 lb_X10_worthTo_3 rfl) rfl
theorem dX10_worthTo_97 : decode cX10_worthTo 97 = .ok (.goto 10, 3) := dx_167 (a := 0) (b := 10) (dl_at 96 1 lb_X10_worthTo_3 rfl) (dl_at 96 2 lb_X10_worthTo_3 rfl) (dl_at 96 3 lb_X10_worthTo_3 rfl) sg16_10
set_option maxHeartbeats 4000000 in
set_option maxRecDepth 100000 in
/-- sx_worthTo -/
theorem sx_worthTo (l : Launch) (dC : Nat → ClassId) (dI : Nat → Nat → Nat) (cs : Nat → ClassId) (ad : Nat → Nat) (mu : Nat → Nat → Int32) (ok : okR loX hiX mu) (H : Heap) (hP : va_P (dC, dI) vwCl (wR 157 ad (EX cs ad) mu) H) (hD0 : va_D (fun _ => True) (wR 157 ad (EX cs ad) mu)) (kl : Nat) (h1kl : 61 ≤ kl) (h2kl : kl < 77) (vx : Int32) (vd : Int32) (hin0 : 0 ≤ vx.toInt ∧ vx.toInt ≤ 6) (hin1 : 0 ≤ vd.toInt ∧ vd.toInt ≤ 20) : Met l yX10_worthTo (wU yX10_worthTo cX10_worthTo 6 (some .int)) ({ frames := 3, cells := 0, slots := 0, locals := 70 }) (va_Pc [.ref (ad 4), .ref (ad kl), .int vx, .int vd] (sz_P (dC, dI) vwCl (tyW cs) H)) (va_Qi (fun (z : Int32) (xi : Nat → Nat → Int32) => okR loX hiX xi ∧ (True) ∧ (∀ k f : Nat, Nat.testBit 510 (gpX k f) = true → xi k f = mu k f)) (fun xi t => va_P (dC, dI) vwCl (wR 157 ad (EX cs ad) xi) t.heap) (va_A (wR 157 ad (EX cs ad) mu) H.size)) 0 0 (va_A (wR 157 ad (EX cs ad) mu) H.size) := by
  refine Met.ofW (cc := cX10_worthTo) (maxL := 6) (ret := (some .int)) (by decide) rfl ?_
  intro p e s m args below meth c s₁ B hml hv
  obtain ⟨rfl, hh, hK, hz⟩ := hv
  have hx := B.exec
  have hb := B.bytes
  have hr := B.returns
  have hts := atoms_spec (ws := (wU yX10_worthTo cX10_worthTo 6 (some .int))) B.pre
  have hown : s.vm.findClass RX10 = some m.cls := findClass_of_methodNamed B.named
  have hlocks := B.notSynchronized
  subst hh
  have hD := hD0.self (sz := s.heap.size)
  have hA : ∀ q : Nat, s.heap.size ≤ q → (va_A (wR 157 ad (EX cs ad) mu) s.heap.size) q := fun q h => Or.inr h
  have hS : va_S (va_A (wR 157 ad (EX cs ad) mu) s.heap.size) s.heap s.heap [] := va_S.rf
  have hl := lv_entry ([.ref (ad 4), .ref (ad kl), .int vx, .int vd]) (n := 6) (Nat.le_of_ble_eq_true rfl)
  rw [lg_entry_eq]
  generalize (lg_sl ([.ref (ad 4), .ref (ad kl), .int vx, .int vd]) ++ List.replicate (6 - (lg_sl ([.ref (ad 4), .ref (ad kl), .int vx, .int vd])).length) Slot.unset).toArray = ls at hl ⊢
  have hl : lv_has ls 6 [(0, .ref (ad 4)), (1, .ref (ad kl)), (2, .int vx), (3, .int vd)] := hl
  refine lv_aload_n hx hb dX10_worthTo_0 rfl (lv_at hl 0 rfl) ?_
  refine va_get (D := (dC, dI)) (ci := 10) (v := .ref (ad 37)) (C := RX10) (T := TX10) (N := 8) hx hb hts inG10 hown hK hP 4 (gX_4 cs ad mu) rfl 4 (by decide) (hts _ (List.mem_cons_of_mem _ mw_1_158)) (fun _ h9 => h9) rfl dX10_worthTo_1 ?_
  refine lv_iconst (v := 0) hx hb dX10_worthTo_4 (by decide) ?_
  have hFc := fr_all (wR_D mu hD) hS hA
  refine va_callv (va_runS (As := [.ref (ad 37), .int 0]) (rest := []) ⟨hx, hb, hml, hown, hts⟩ (sj_fillI_37 l dC dI cs ad mu ok s.heap hP ((wR_D mu hD).weaken (fun _ _ _ _ => trivial)) 0) (va_cwS 2 hts (wU_S mw_2_209 mw_4_115 mw_2_208 mw_1_14) rfl rfl rfl (by decide +kernel) ⟨Nat.le_of_ble_eq_true rfl, Nat.le_of_ble_eq_true rfl⟩) ⟨sz_c, sz_m hK hz⟩ rfl rfl hl.1 rfl (lv_room (Nat.le_of_ble_eq_true rfl)) dX10_worthTo_5 ⟨Nat.zero_le _, Nat.zero_le _⟩) hS (fun q _ h => hFc q h) hFc (fun xi1 t H1 locs ht hvm hw1 hB hz1 hk1 hS => ?_)
  have hP : va_P (dC, dI) vwCl (wR 157 ad (EX cs ad) xi1) H1 := by rw [← ht]; exact hB
  obtain ⟨hfe1, ok, hw1, hkp1_0⟩ := hw1
  have kp2 : (∀ k f : Nat, Nat.testBit 510 (gpX k f) = true → xi1 k f = mu k f) := kp_t hkp1_0 (by decide) (fun _ _ _ => rfl)
  refine lv_aload_n hx hb dX10_worthTo_8 rfl (lv_at hl 0 rfl) ?_
  refine va_get (D := (dC, dI)) (ci := 10) (v := .ref (ad 37)) (C := RX10) (T := TX10) (N := 8) hx hb hts inG10 hown hK hP 4 (gX_4 cs ad xi1) rfl 4 (by decide) (hts _ (List.mem_cons_of_mem _ mw_1_158)) (fun _ h9 => h9) rfl dX10_worthTo_9 ?_
  refine lv_aload_n hx hb dX10_worthTo_12 rfl (lv_at hl 1 rfl) ?_
  refine va_get (D := (dC, dI)) (ci := 3) (v := .int (xi1 kl 1)) (C := RX3) (T := TX3) (N := 10) hx hb hts inG3 hown hK hP kl (gX_letter cs ad xi1 kl h1kl h2kl) rfl 1 (by decide) (hts _ (List.mem_cons_of_mem _ mw_1_55)) (fun _ h9 => h9) rfl dX10_worthTo_13 ?_
  refine lv_topi (fun y3 ey3 => ?_)
  have by3 : y3.toInt = (xi1 kl 1).toInt := congrArg Int32.toInt ey3
  have gy3 : 0 ≤ y3.toInt ∧ y3.toInt ≤ 6 := by rw [ey3]; exact rX_letter_1 ok kl h1kl h2kl
  refine lv_aload_n hx hb dX10_worthTo_16 rfl (lv_at hl 1 rfl) ?_
  refine lv_aload_n hx hb dX10_worthTo_17 rfl (lv_at hl 0 rfl) ?_
  refine va_get (D := (dC, dI)) (ci := 10) (v := .ref (ad 5)) (C := RX10) (T := TX10) (N := 8) hx hb hts inG10 hown hK hP 4 (gX_4 cs ad xi1) rfl 3 (by decide) (hts _ (List.mem_cons_of_mem _ mw_1_152)) (fun _ h9 => h9) rfl dX10_worthTo_18 ?_
  refine va_get (D := (dC, dI)) (ci := 8) (v := .int (xi1 5 3)) (C := RX8) (T := TX8) (N := 6) hx hb hts inG8 hown hK hP 5 (gX_5 cs ad xi1) rfl 3 (by decide) (hts _ (List.mem_cons_of_mem _ mw_1_123)) (fun _ h9 => h9) rfl dX10_worthTo_21 ?_
  refine lv_topi (fun y4 ey4 => ?_)
  have by4 : y4.toInt = (xi1 5 3).toInt := congrArg Int32.toInt ey4
  refine lv_bipush (v := 20) hx hb dX10_worthTo_24 (by decide) ?_
  refine lv_iadd hx hb dX10_worthTo_26 ?_
  refine lv_topi (fun t5 et5 => ?_)
  refine cr_i (va_runV (As := [.int t5]) (rest := [.int y3, .ref (ad 37)]) ⟨hx, hb, hml, hown, hts⟩ (sx_worthOn l dC dI cs ad xi1 ok H1 hP kl h1kl h2kl t5) (cwV 1 hts (wU_V mw_3_170 mw_3_167 mw_3_168 mw_3_169 mw_1_4) rfl rfl rfl (by decide +kernel) ⟨Nat.le_of_ble_eq_true rfl, Nat.le_of_ble_eq_true rfl⟩) ⟨sz_c, va_recv hK hP (ci := 3) (q0 := kl) rfl (gX_letter cs ad xi1 kl h1kl h2kl), sz_m hK hz⟩ rfl rfl hl.1 rfl (lv_room (Nat.le_of_ble_eq_true rfl)) dX10_worthTo_27 ⟨Nat.zero_le _, Nat.zero_le _⟩) hS (fun r6 hw6 locs hS => ?_)
  obtain ⟨hfe6, hw6⟩ := hw6
  refine va_iast hx hb hK hP (wR_D xi1 hD) hS 37 0 (gX_37 cs ad xi1) rfl (show vp_in y3 7 from vi_of (by omega) (by omega)) dX10_worthTo_30 (fun H locs hP _ hS => ?_)
  refine wr_gen (upd (xi1 37) y3.toNatClampNeg r6) hP (rfl) (fun nu7 hn7 hP => ?_)
  have ok := tX_37_s ok y3.toNatClampNeg hn7
  have ez8 : y3 = nu7 kl 1 := ey3.trans (congrFun (up_k hn7 (ne_lo (by decide) h1kl).symm) 1).symm
  have ez9 : y4 = nu7 5 3 := ey4.trans (congrFun (up_k hn7 (by decide)) 3).symm
  have kp10 : (∀ k f : Nat, Nat.testBit 510 (gpX k f) = true → nu7 k f = mu k f) := kp_c 0 hn7 (fun _ => rfl) (by decide) kp2
  refine lv_bipush (v := 19) hx hb dX10_worthTo_31 (by decide) ?_
  refine lv_istore (lv' := [(4, .int 19), (0, .ref (ad 4)), (1, .ref (ad kl)), (2, .int vx), (3, .int vd)]) hx hb dX10_worthTo_33 hl (by decide) rfl (fun ls hl => ?_)
  have loop35 : ∀ (n35 : Nat) (v4_35 : Int32) (nu35_ : Nat → Nat → Int32) (H : Heap) (locs : List Loc) (ls : Array Slot), (v4_35.toInt + 1 - -1).toNat < n35 → (-1 ≤ v4_35.toInt ∧ v4_35.toInt ≤ 19) → okR loX hiX nu35_ → va_P (dC, dI) vwCl (wR 157 ad (EX cs ad) nu35_) H → (∀ k f : Nat, Nat.testBit 510 (gpX k f) = true → nu35_ k f = mu k f) → va_S (va_A (wR 157 ad (EX cs ad) mu) s.heap.size) s.heap H locs → lv_has ls 6 [(4, .int v4_35), (0, .ref (ad 4)), (1, .ref (ad kl)), (2, .int vx), (3, .int vd)] → W p l e (headSpec (wU yX10_worthTo cX10_worthTo 6 (some .int)) ({ frames := 3, cells := 0, slots := 0, locals := 70 })).room s m ([.ref (ad 4), .ref (ad kl), .int vx, .int vd] : List Value).toArray below meth c H locs 0 0 (MQ below (va_Qi (fun (z : Int32) (xi : Nat → Nat → Int32) => okR loX hiX xi ∧ (True) ∧ (∀ k f : Nat, Nat.testBit 510 (gpX k f) = true → xi k f = mu k f)) (fun xi t => va_P (dC, dI) vwCl (wR 157 ad (EX cs ad) xi) t.heap) (va_A (wR 157 ad (EX cs ad) mu) s.heap.size)) ([.ref (ad 4), .ref (ad kl), .int vx, .int vd] : List Value).toArray s 0 0 (va_A (wR 157 ad (EX cs ad) mu) s.heap.size)) (F0 m 35 ls []) := by
    intro n35
    induction n35 with
    | zero => intro v4_35 nu35_ H locs ls hm; exact absurd hm (Nat.not_lt_zero _)
    | succ n35 ih35 =>
      intro v4_35 nu35_ H locs ls hm_35 h_v4_35 ok hP kq35_0 hS hl
      refine lv_iload hx hb dX10_worthTo_35 (lv_at hl 0 rfl) ?_
      refine lv_iload_n hx hb dX10_worthTo_37 rfl (lv_at hl 4 rfl) ?_
      refine lv_icmp_lt (tgt := 120) hx hb dX10_worthTo_38 (by decide) (fun c_11 => ?_) (fun c_11 => ?_)
      · have c_11 : v4_35.toInt < vd.toInt := il_lt c_11
        refine lv_aload_n hx hb dX10_worthTo_120 rfl (lv_at hl 1 rfl) ?_
        refine va_get (D := (dC, dI)) (ci := 10) (v := .ref (ad 37)) (C := RX10) (T := TX10) (N := 8) hx hb hts inG10 hown hK hP 4 (gX_4 cs ad nu35_) rfl 4 (by decide) (hts _ (List.mem_cons_of_mem _ mw_1_158)) (fun _ h9 => h9) rfl dX10_worthTo_121 ?_
        refine lv_iload_n hx hb dX10_worthTo_124 rfl (lv_at hl 3 rfl) ?_
        refine va_iald hx hb hK hP 37 0 (gX_37 cs ad nu35_) rfl (show vp_in vx 7 from vi_of (by omega) (by omega)) dX10_worthTo_125 ?_
        refine lv_topi (fun y12 ey12 => ?_)
        have by12 : y12.toInt = (nu35_ 37 vx.toNatClampNeg).toInt := congrArg Int32.toInt ey12
        exact W.iret (v := y12) hx hb hr (fun t ht hW => ⟨⟨y12, nu35_, rfl, ⟨ok, trivial, kq35_0⟩, by first | (subst ht; exact hP) | (rw [ht]; exact hP) | (show va_P (dC, dI) vwCl (wR 157 ad (EX cs ad) nu35_) t.heap; rw [ht]; exact hP)⟩, hS.F ht⟩) hS.2.2 dX10_worthTo_126
      · have c_11 : vd.toInt ≤ v4_35.toInt := il_nlt c_11
        refine lv_aload_n hx hb dX10_worthTo_41 rfl (lv_at hl 1 rfl) ?_
        refine va_get (D := (dC, dI)) (ci := 10) (v := .ref (ad 37)) (C := RX10) (T := TX10) (N := 8) hx hb hts inG10 hown hK hP 4 (gX_4 cs ad nu35_) rfl 4 (by decide) (hts _ (List.mem_cons_of_mem _ mw_1_158)) (fun _ h9 => h9) rfl dX10_worthTo_42 ?_
        refine lv_iconst (v := 0) hx hb dX10_worthTo_45 (by decide) ?_
        refine lv_aload_n hx hb dX10_worthTo_46 rfl (lv_at hl 1 rfl) ?_
        refine va_get (D := (dC, dI)) (ci := 10) (v := .ref (ad 38)) (C := RX10) (T := TX10) (N := 8) hx hb hts inG10 hown hK hP 4 (gX_4 cs ad nu35_) rfl 5 (by decide) (hts _ (List.mem_cons_of_mem _ mw_1_159)) (fun _ h9 => h9) rfl dX10_worthTo_47 ?_
        refine lv_iconst (v := 0) hx hb dX10_worthTo_50 (by decide) ?_
        refine lv_bipush (v := 7) hx hb dX10_worthTo_51 (by decide) ?_
        refine va_copyi hx hb (hml.trans hl.1.symm) hown (hts _ (List.mem_cons_of_mem _ mw_4_116)) (hts _ (List.mem_cons_of_mem _ mw_3_4)) (hts _ (List.mem_cons_of_mem _ mw_3_3)) (hts _ (List.mem_cons_of_mem _ mw_1_15)) hK hP (wR_D nu35_ hD) hS 37 38 0 0 (gX_37 cs ad nu35_) (gX_38 cs ad nu35_) rfl rfl rfl (by decide) (by decide) (by decide) (by have ua : ((0 : Int32).toNatClampNeg : Int) = 0 := rfl; have ub : ((0 : Int32).toNatClampNeg : Int) = 0 := rfl; have uc : ((7 : Int32).toNatClampNeg : Int) = 7 := rfl; omega) (by have ua : ((0 : Int32).toNatClampNeg : Int) = 0 := rfl; have ub : ((0 : Int32).toNatClampNeg : Int) = 0 := rfl; have uc : ((7 : Int32).toNatClampNeg : Int) = 7 := rfl; omega) (fun _ _ => rfl) (Nat.le_of_ble_eq_true rfl) (Nat.le_of_ble_eq_true rfl) dX10_worthTo_53 (fun H locs hP _ hS => ?_)
        refine wr_gen (va_cpy (nu35_ 37) (nu35_ 38) (0 : Int32).toNatClampNeg (0 : Int32).toNatClampNeg (7 : Int32).toNatClampNeg) hP (rfl) (fun nu13 hn13 hP => ?_)
        have ok := okR_cp ok hn13 (cX_37_38  )
        have kp14 : (∀ k f : Nat, Nat.testBit 510 (gpX k f) = true → nu13 k f = mu k f) := kp_c 0 hn13 (fun _ => rfl) (by decide) kq35_0
        refine lv_iconst (v := 0) hx hb dX10_worthTo_56 (by decide) ?_
        refine lv_istore (lv' := [(5, .int 0), (4, .int v4_35), (0, .ref (ad 4)), (1, .ref (ad kl)), (2, .int vx), (3, .int vd)]) hx hb dX10_worthTo_57 hl (by decide) rfl (fun ls hl => ?_)
        have loop59 : ∀ (n59 : Nat) (v5_59 : Int32) (nu59_ : Nat → Nat → Int32) (H : Heap) (locs : List Loc) (ls : Array Slot), (7 + 1 - v5_59.toInt).toNat < n59 → (0 ≤ v5_59.toInt ∧ v5_59.toInt ≤ 7) → okR loX hiX nu59_ → va_P (dC, dI) vwCl (wR 157 ad (EX cs ad) nu59_) H → (∀ k f : Nat, Nat.testBit 510 (gpX k f) = true → nu59_ k f = mu k f) → va_S (va_A (wR 157 ad (EX cs ad) mu) s.heap.size) s.heap H locs → lv_has ls 6 [(5, .int v5_59), (4, .int v4_35), (0, .ref (ad 4)), (1, .ref (ad kl)), (2, .int vx), (3, .int vd)] → W p l e (headSpec (wU yX10_worthTo cX10_worthTo 6 (some .int)) ({ frames := 3, cells := 0, slots := 0, locals := 70 })).room s m ([.ref (ad 4), .ref (ad kl), .int vx, .int vd] : List Value).toArray below meth c H locs 0 0 (MQ below (va_Qi (fun (z : Int32) (xi : Nat → Nat → Int32) => okR loX hiX xi ∧ (True) ∧ (∀ k f : Nat, Nat.testBit 510 (gpX k f) = true → xi k f = mu k f)) (fun xi t => va_P (dC, dI) vwCl (wR 157 ad (EX cs ad) xi) t.heap) (va_A (wR 157 ad (EX cs ad) mu) s.heap.size)) ([.ref (ad 4), .ref (ad kl), .int vx, .int vd] : List Value).toArray s 0 0 (va_A (wR 157 ad (EX cs ad) mu) s.heap.size)) (F0 m 59 ls []) := by
          intro n59
          induction n59 with
          | zero => intro v5_59 nu59_ H locs ls hm; exact absurd hm (Nat.not_lt_zero _)
          | succ n59 ih59 =>
            intro v5_59 nu59_ H locs ls hm_59 h_v5_59 ok hP kq59_0 hS hl
            refine lv_iload hx hb dX10_worthTo_59 (lv_at hl 0 rfl) ?_
            refine lv_aload_n hx hb dX10_worthTo_61 rfl (lv_at hl 2 rfl) ?_
            refine va_get (D := (dC, dI)) (ci := 10) (v := .int (nu59_ 4 6)) (C := RX10) (T := TX10) (N := 8) hx hb hts inG10 hown hK hP 4 (gX_4 cs ad nu59_) rfl 6 (by decide) (hts _ (List.mem_cons_of_mem _ mw_1_160)) (fun _ h9 => h9) rfl dX10_worthTo_62 ?_
            refine lv_topi (fun y15 ey15 => ?_)
            have by15 : y15.toInt = (nu59_ 4 6).toInt := congrArg Int32.toInt ey15
            have gy15 : 0 ≤ y15.toInt ∧ y15.toInt ≤ 7 := by rw [ey15]; exact rX_4_6 ok
            refine lv_icmp_ge (tgt := 114) hx hb dX10_worthTo_65 (by decide) (fun c_16 => ?_) (fun c_16 => ?_)
            · have c_16 : y15.toInt ≤ v5_59.toInt := il_le c_16
              refine lv_iinc (v := (v4_35 + (-1))) (lv' := [(4, .int (v4_35 + (-1))), (5, .int v5_59), (0, .ref (ad 4)), (1, .ref (ad kl)), (2, .int vx), (3, .int vd)]) hx hb dX10_worthTo_114 hl (k := 1) rfl rfl (by decide) rfl (fun ls hl => ?_)
              refine loc_gen (P := fun w9 => lv_has ls 6 [(4, .int w9), (5, .int v5_59), (0, .ref (ad 4)), (1, .ref (ad kl)), (2, .int vx), (3, .int vd)]) (v4_35 + (-1)) hl (fun w17 hw17 hl => ?_)
              have hl : lv_has ls 6 [(4, .int w17), (5, .int v5_59), (0, .ref (ad 4)), (1, .ref (ad kl)), (2, .int vx), (3, .int vd)] := hl
              have aw17 : w17.toInt = v4_35.toInt + (-1) := by rw [← hw17]; exact tI_add (rfl : v4_35.toInt = _) (rfl : ((-1) : Int32).toInt = -1) (by omega) (by omega)
              refine lv_goto (tgt := 35) hx hb dX10_worthTo_117 (by decide) ?_
              exact ih35 (w17) nu59_ _ _ _ (by first | exact ms_lt hm_35 (by omega) (by omega) | omega) (by omega)  ok hP  kq59_0 hS (lv_sub hl [0, 2, 3, 4, 5] rfl)
            · have c_16 : v5_59.toInt < y15.toInt := il_nle c_16
              refine lv_aload_n hx hb dX10_worthTo_68 rfl (lv_at hl 2 rfl) ?_
              refine va_get (D := (dC, dI)) (ci := 10) (v := .ref (ad 37)) (C := RX10) (T := TX10) (N := 8) hx hb hts inG10 hown hK hP 4 (gX_4 cs ad nu59_) rfl 4 (by decide) (hts _ (List.mem_cons_of_mem _ mw_1_158)) (fun _ h9 => h9) rfl dX10_worthTo_69 ?_
              refine lv_iload hx hb dX10_worthTo_72 (lv_at hl 0 rfl) ?_
              refine lv_iload hx hb dX10_worthTo_74 (lv_at hl 0 rfl) ?_
              refine lv_aload_n hx hb dX10_worthTo_76 rfl (lv_at hl 3 rfl) ?_
              refine va_get (D := (dC, dI)) (ci := 3) (v := .int (nu59_ kl 1)) (C := RX3) (T := TX3) (N := 10) hx hb hts inG3 hown hK hP kl (gX_letter cs ad nu59_ kl h1kl h2kl) rfl 1 (by decide) (hts _ (List.mem_cons_of_mem _ mw_1_55)) (fun _ h9 => h9) rfl dX10_worthTo_77 ?_
              refine lv_topi (fun y18 ey18 => ?_)
              have by18 : y18.toInt = (nu59_ kl 1).toInt := congrArg Int32.toInt ey18
              have gy18 : 0 ≤ y18.toInt ∧ y18.toInt ≤ 6 := by rw [ey18]; exact rX_letter_1 ok kl h1kl h2kl
              refine lv_icmp_ne (tgt := 100) hx hb dX10_worthTo_80 (by decide) (fun c_19 => ?_) (fun c_19 => ?_)
              · have c_19 : ¬ v5_59.toInt = y18.toInt := il_ne c_19
                refine lv_aload_n hx hb dX10_worthTo_100 rfl (lv_at hl 2 rfl) ?_
                refine lv_aload_n hx hb dX10_worthTo_101 rfl (lv_at hl 3 rfl) ?_
                refine lv_iload hx hb dX10_worthTo_102 (lv_at hl 0 rfl) ?_
                refine cr_i (va_runV (As := [.ref (ad kl), .int v5_59]) (rest := [.int v5_59, .ref (ad 37)]) ⟨hx, hb, hml, hown, hts⟩ (sx_worthBeside l dC dI cs ad nu59_ ok H hP kl h1kl h2kl v5_59) (cwV 2 hts (wU_V mw_4_120 mw_4_117 mw_4_119 mw_0_19 mw_1_2) rfl rfl rfl (by decide +kernel) ⟨Nat.le_of_ble_eq_true rfl, Nat.le_of_ble_eq_true rfl⟩) ⟨sz_c, va_recv hK hP (ci := 10) (q0 := 4) rfl (gX_4 cs ad nu59_), sz_m hK hz⟩ rfl rfl hl.1 rfl (lv_room (Nat.le_of_ble_eq_true rfl)) dX10_worthTo_104 ⟨Nat.zero_le _, Nat.zero_le _⟩) hS (fun r20 hw20 locs hS => ?_)
                refine va_iast hx hb hK hP (wR_D nu59_ hD) hS 37 0 (gX_37 cs ad nu59_) rfl (show vp_in v5_59 7 from vi_of (by omega) (by omega)) dX10_worthTo_107 (fun H locs hP _ hS => ?_)
                refine wr_gen (upd (nu59_ 37) v5_59.toNatClampNeg r20) hP (rfl) (fun nu21 hn21 hP => ?_)
                have ok := tX_37_s ok v5_59.toNatClampNeg hn21
                have ez22 : y15 = nu21 4 6 := ey15.trans (congrFun (up_k hn21 (by decide)) 6).symm
                have ez23 : y18 = nu21 kl 1 := ey18.trans (congrFun (up_k hn21 (ne_lo (by decide) h1kl).symm) 1).symm
                have kp24 : (∀ k f : Nat, Nat.testBit 510 (gpX k f) = true → nu21 k f = mu k f) := kp_c 0 hn21 (fun _ => rfl) (by decide) kq59_0
                refine lv_iinc (v := (v5_59 + 1)) (lv' := [(5, .int (v5_59 + 1)), (4, .int v4_35), (0, .ref (ad 4)), (1, .ref (ad kl)), (2, .int vx), (3, .int vd)]) hx hb dX10_worthTo_108 hl (k := 0) rfl rfl (by decide) rfl (fun ls hl => ?_)
                refine loc_gen (P := fun w9 => lv_has ls 6 [(5, .int w9), (4, .int v4_35), (0, .ref (ad 4)), (1, .ref (ad kl)), (2, .int vx), (3, .int vd)]) (v5_59 + 1) hl (fun w25 hw25 hl => ?_)
                have hl : lv_has ls 6 [(5, .int w25), (4, .int v4_35), (0, .ref (ad 4)), (1, .ref (ad kl)), (2, .int vx), (3, .int vd)] := hl
                have aw25 : w25.toInt = v5_59.toInt + 1 := by rw [← hw25]; first | exact va1 (Int.lt_of_le_of_lt h_v5_59.2 (by decide)) | exact va1 (by omega)
                refine lv_goto (tgt := 59) hx hb dX10_worthTo_111 (by decide) ?_
                exact ih59 (w25) nu21 _ _ _ (by first | exact ms_up hm_59 aw25 h_v5_59.2 | exact ms_lt hm_59 (by omega) (by omega) | omega) (by first | exact rg_up aw25 h_v5_59 (by omega) | omega)  ok hP  kp24 hS (lv_sub hl [0, 1, 2, 3, 4, 5] rfl)
              · have c_19 : v5_59.toInt = y18.toInt := il_eq c_19
                refine lv_aload_n hx hb dX10_worthTo_83 rfl (lv_at hl 3 rfl) ?_
                refine lv_aload_n hx hb dX10_worthTo_84 rfl (lv_at hl 2 rfl) ?_
                refine va_get (D := (dC, dI)) (ci := 10) (v := .ref (ad 5)) (C := RX10) (T := TX10) (N := 8) hx hb hts inG10 hown hK hP 4 (gX_4 cs ad nu59_) rfl 3 (by decide) (hts _ (List.mem_cons_of_mem _ mw_1_152)) (fun _ h9 => h9) rfl dX10_worthTo_85 ?_
                refine va_get (D := (dC, dI)) (ci := 8) (v := .int (nu59_ 5 3)) (C := RX8) (T := TX8) (N := 6) hx hb hts inG8 hown hK hP 5 (gX_5 cs ad nu59_) rfl 3 (by decide) (hts _ (List.mem_cons_of_mem _ mw_1_123)) (fun _ h9 => h9) rfl dX10_worthTo_88 ?_
                refine lv_topi (fun y26 ey26 => ?_)
                have by26 : y26.toInt = (nu59_ 5 3).toInt := congrArg Int32.toInt ey26
                refine lv_iload hx hb dX10_worthTo_91 (lv_at hl 1 rfl) ?_
                refine lv_iadd hx hb dX10_worthTo_93 ?_
                refine lv_topi (fun t27 et27 => ?_)
                refine cr_i (va_runV (As := [.int t27]) (rest := [.int v5_59, .ref (ad 37)]) ⟨hx, hb, hml, hown, hts⟩ (sx_worthOn l dC dI cs ad nu59_ ok H hP kl h1kl h2kl t27) (cwV 1 hts (wU_V mw_3_170 mw_3_167 mw_3_168 mw_3_169 mw_1_4) rfl rfl rfl (by decide +kernel) ⟨Nat.le_of_ble_eq_true rfl, Nat.le_of_ble_eq_true rfl⟩) ⟨sz_c, va_recv hK hP (ci := 3) (q0 := kl) rfl (gX_letter cs ad nu59_ kl h1kl h2kl), sz_m hK hz⟩ rfl rfl hl.1 rfl (lv_room (Nat.le_of_ble_eq_true rfl)) dX10_worthTo_94 ⟨Nat.zero_le _, Nat.zero_le _⟩) hS (fun r28 hw28 locs hS => ?_)
                obtain ⟨hfe28, hw28⟩ := hw28
                refine lv_goto (tgt := 107) hx hb dX10_worthTo_97 (by decide) ?_
                refine va_iast hx hb hK hP (wR_D nu59_ hD) hS 37 0 (gX_37 cs ad nu59_) rfl (show vp_in v5_59 7 from vi_of (by omega) (by omega)) dX10_worthTo_107 (fun H locs hP _ hS => ?_)
                refine wr_gen (upd (nu59_ 37) v5_59.toNatClampNeg r28) hP (rfl) (fun nu29 hn29 hP => ?_)
                have ok := tX_37_s ok v5_59.toNatClampNeg hn29
                have ez30 : y15 = nu29 4 6 := ey15.trans (congrFun (up_k hn29 (by decide)) 6).symm
                have ez31 : y18 = nu29 kl 1 := ey18.trans (congrFun (up_k hn29 (ne_lo (by decide) h1kl).symm) 1).symm
                have ez32 : y26 = nu29 5 3 := ey26.trans (congrFun (up_k hn29 (by decide)) 3).symm
                have kp33 : (∀ k f : Nat, Nat.testBit 510 (gpX k f) = true → nu29 k f = mu k f) := kp_c 0 hn29 (fun _ => rfl) (by decide) kq59_0
                refine lv_iinc (v := (v5_59 + 1)) (lv' := [(5, .int (v5_59 + 1)), (4, .int v4_35), (0, .ref (ad 4)), (1, .ref (ad kl)), (2, .int vx), (3, .int vd)]) hx hb dX10_worthTo_108 hl (k := 0) rfl rfl (by decide) rfl (fun ls hl => ?_)
                refine loc_gen (P := fun w9 => lv_has ls 6 [(5, .int w9), (4, .int v4_35), (0, .ref (ad 4)), (1, .ref (ad kl)), (2, .int vx), (3, .int vd)]) (v5_59 + 1) hl (fun w34 hw34 hl => ?_)
                have hl : lv_has ls 6 [(5, .int w34), (4, .int v4_35), (0, .ref (ad 4)), (1, .ref (ad kl)), (2, .int vx), (3, .int vd)] := hl
                have aw34 : w34.toInt = v5_59.toInt + 1 := by rw [← hw34]; first | exact va1 (Int.lt_of_le_of_lt h_v5_59.2 (by decide)) | exact va1 (by omega)
                refine lv_goto (tgt := 59) hx hb dX10_worthTo_111 (by decide) ?_
                exact ih59 (w34) nu29 _ _ _ (by first | exact ms_up hm_59 aw34 h_v5_59.2 | exact ms_lt hm_59 (by omega) (by omega) | omega) (by first | exact rg_up aw34 h_v5_59 (by omega) | omega)  ok hP  kp33 hS (lv_sub hl [0, 1, 2, 3, 4, 5] rfl)
        exact loop59 ((7 + 1 - (0 : Int32).toInt).toNat + 1) (0) nu13 _ _ _ (Nat.lt_succ_self _) (by have h80 : (0 : Int32).toInt = 0 := rfl; exact ⟨by omega, by omega⟩)  ok hP  kp14 hS hl
  exact loop35 (((19 : Int32).toInt + 1 - -1).toNat + 1) (19) nu7 _ _ _ (Nat.lt_succ_self _) (by have h80 : (19 : Int32).toInt = 19 := rfl; exact ⟨by omega, by omega⟩)  ok hP  kp10 hS hl
theorem lb_X2_isFull_0 : dl_ck (cX2_isFull.data.toList.drop 0) [42, 180, 0, 18, 16, 40, 161, 0, 7, 4, 167, 0, 4, 3, 172] = true := by decide +kernel
theorem dX2_isFull_0 : decode cX2_isFull 0 = .ok (.aload_n 0, 1) := dx_42 (dl_at 0 0 lb_X2_isFull_0 rfl)
theorem dX2_isFull_1 : decode cX2_isFull 1 = .ok (.getfield 18, 3) := dx_180 (a := 0) (b := 18) (dl_at 0 1 lb_X2_isFull_0 rfl) (dl_at 0 2 lb_X2_isFull_0 rfl) (dl_at 0 3 lb_X2_isFull_0 rfl) rfl
theorem dX2_isFull_4 : decode cX2_isFull 4 = .ok (.bipush 40, 2) := dx_16 (dl_at 0 4 lb_X2_isFull_0 rfl) (dl_at 0 5 lb_X2_isFull_0 rfl) sg8_40
theorem dX2_isFull_6 : decode cX2_isFull 6 = .ok (.if_icmp .lt 7, 3) := dx_161 (a := 0) (b := 7) (dl_at 0 6 lb_X2_isFull_0 rfl) (dl_at 0 7 lb_X2_isFull_0 rfl) (dl_at 0 8 lb_X2_isFull_0 rfl) sg16_7
theorem dX2_isFull_13 : decode cX2_isFull 13 = .ok (.iconst 0, 1) := dx_3 (dl_at 0 13 lb_X2_isFull_0 rfl)
theorem dX2_isFull_14 : decode cX2_isFull 14 = .ok (.ireturn, 1) := dx_172 (dl_at 0 14 lb_X2_isFull_0 rfl)
theorem dX2_isFull_9 : decode cX2_isFull 9 = .ok (.iconst 1, 1) := dx_4 (dl_at 0 9 lb_X2_isFull_0 rfl)
theorem dX2_isFull_10 : decode cX2_isFull 10 = .ok (.goto 4, 3) := dx_167 (a := 0) (b := 4) (dl_at 0 10 lb_X2_isFull_0 rfl) (dl_at 0 11 lb_X2_isFull_0 rfl) (dl_at 0 12 lb_X2_isFull_0 rfl) sg16_4
def F_sx_isFull (mu : Nat → Nat → Int32) : Int32 :=
  LETV (mu 6 1 : Int32) fun y1 =>
  if y1 < (40 : Int32) then (
    (0 : Int32)
  ) else (
    (1 : Int32)
  )
set_option maxHeartbeats 4000000 in
set_option maxRecDepth 100000 in
/-- sx_isFull -/
theorem sx_isFull (l : Launch) (dC : Nat → ClassId) (dI : Nat → Nat → Nat) (cs : Nat → ClassId) (ad : Nat → Nat) (mu : Nat → Nat → Int32) (ok : okR loX hiX mu) (H : Heap) (hP : va_P (dC, dI) vwCl (wR 157 ad (EX cs ad) mu) H) : Met l yX2_isFull (wU yX2_isFull cX2_isFull 1 (some .boolean)) ({ frames := 0, cells := 0, slots := 0, locals := 0 }) (va_Pc [.ref (ad 6)] (sz_P (dC, dI) vwCl (tyW cs) H)) (va_Qi (fun (z : Int32) (_ : Unit) => z = F_sx_isFull mu ∧ ((z = 1 ∧ (40 ≤ (mu 6 1).toInt)) ∨ (z = 0 ∧ ((mu 6 1).toInt ≤ 39)))) (fun _ t => t.heap = H) (fun _ => False)) 0 0 (fun _ => False) := by
  refine Met.ofW (cc := cX2_isFull) (maxL := 1) (ret := (some .boolean)) (by decide) rfl ?_
  intro p e s m args below meth c s₁ B hml hv
  obtain ⟨rfl, hh, hK, hz⟩ := hv
  have hx := B.exec
  have hb := B.bytes
  have hr := B.returns
  have hts := atoms_spec (ws := (wU yX2_isFull cX2_isFull 1 (some .boolean))) B.pre
  have hown : s.vm.findClass RX2 = some m.cls := findClass_of_methodNamed B.named
  have hlocks := B.notSynchronized
  subst hh
  have hS : va_S (fun _ => False) s.heap s.heap [] := va_S.rf
  have hl := lv_entry ([.ref (ad 6)]) (n := 1) (Nat.le_of_ble_eq_true rfl)
  rw [lg_entry_eq]
  generalize (lg_sl ([.ref (ad 6)]) ++ List.replicate (1 - (lg_sl ([.ref (ad 6)])).length) Slot.unset).toArray = ls at hl ⊢
  have hl : lv_has ls 1 [(0, .ref (ad 6))] := hl
  obtain ⟨fz, hfz⟩ : ∃ z, F_sx_isFull mu = z := ⟨_, rfl⟩
  have hF := hfz
  unfold F_sx_isFull at hF
  refine lv_aload_n hx hb dX2_isFull_0 rfl (lv_at hl 0 rfl) ?_
  refine va_get (D := (dC, dI)) (ci := 2) (v := .int (mu 6 1)) (C := RX2) (T := TX2) (N := 2) hx hb hts inG2 hown hK hP 6 (gX_6 cs ad mu) rfl 1 (by decide) (hts _ (List.mem_cons_of_mem _ mw_2_7)) (fun _ h9 => h9) rfl dX2_isFull_1 ?_
  refine lv_topi (fun y1 ey1 => ?_)
  have hF := mi_let hF ey1
  have by1 : y1.toInt = (mu 6 1).toInt := congrArg Int32.toInt ey1
  have gy1 : 0 ≤ y1.toInt ∧ y1.toInt ≤ 40 := by rw [ey1]; exact rX_6_1 ok
  refine lv_bipush (v := 40) hx hb dX2_isFull_4 (by decide) ?_
  refine lv_icmp_lt (tgt := 13) hx hb dX2_isFull_6 (by decide) (fun c_2 => ?_) (fun c_2 => ?_)
  · have hF := (if_pos c_2).symm.trans hF
    have c_2 : y1.toInt < 40 := il_lt c_2
    refine lv_iconst (v := 0) hx hb dX2_isFull_13 (by decide) ?_
    exact W.zret (v := 0) (ty := .boolean) hx hb hr (by first | rfl | decide) (fun t ht hW => ⟨⟨0, (), rfl, ⟨hF.trans hfz.symm, (Or.inr ⟨rfl, by have hb3 := congrArg Int32.toInt ey1; omega⟩)⟩, ht⟩, hS.F ht⟩) hS.2.2 dX2_isFull_14
  · have hF := (if_neg c_2).symm.trans hF
    have c_2 : 40 ≤ y1.toInt := il_nlt c_2
    refine lv_iconst (v := 1) hx hb dX2_isFull_9 (by decide) ?_
    refine lv_goto (tgt := 14) hx hb dX2_isFull_10 (by decide) ?_
    exact W.zret (v := 1) (ty := .boolean) hx hb hr (by first | rfl | decide) (fun t ht hW => ⟨⟨1, (), rfl, ⟨hF.trans hfz.symm, (Or.inl ⟨rfl, by have hb4 := congrArg Int32.toInt ey1; omega⟩)⟩, ht⟩, hS.F ht⟩) hS.2.2 dX2_isFull_14
theorem mw_1_154 : (Cond.fieldLink RX2 22 "DearLetters$Town" "now" "LDearLetters$Standing;" : Cond) ∈ lw_good := lg_at 1 154 rfl rfl
theorem mw_1_110 : (Cond.fieldLink RX2 28 "DearLetters$Standing" "letters" "[LDearLetters$Letter;" : Cond) ∈ lw_good := lg_at 1 110 rfl rfl
theorem mw_3_183 : (Cond.methodLink RX2 34 yX10_priceOf : Cond) ∈ lw_good := lg_at 3 183 rfl rfl
theorem mw_1_105 : (Cond.fieldLink RX2 38 "DearLetters$Standing" "purses" "[I" : Cond) ∈ lw_good := lg_at 1 105 rfl rfl
theorem mw_1_224 : (Cond.fieldLink RX2 42 "DearLetters$Sale" "pursesAhead" "[I" : Cond) ∈ lw_good := lg_at 1 224 rfl rfl
theorem mw_3_184 : (Cond.methodLink RX2 45 arraycopyName : Cond) ∈ lw_good := lg_at 3 184 rfl rfl
theorem mw_1_225 : (Cond.fieldLink RX2 51 "DearLetters$Sale" "letter" "I" : Cond) ∈ lw_good := lg_at 1 225 rfl rfl
theorem mw_1_63 : (Cond.fieldLink RX2 54 "DearLetters$Letter" "holder" "I" : Cond) ∈ lw_good := lg_at 1 63 rfl rfl
theorem mw_1_68 : (Cond.fieldLink RX2 68 "DearLetters$Letter" "paid" "I" : Cond) ∈ lw_good := lg_at 1 68 rfl rfl
theorem mw_1_229 : (Cond.fieldLink RX2 71 "DearLetters$Sale" "paidAhead" "I" : Cond) ∈ lw_good := lg_at 1 229 rfl rfl
theorem mw_1_73 : (Cond.fieldLink RX2 74 "DearLetters$Letter" "soldOn" "I" : Cond) ∈ lw_good := lg_at 1 73 rfl rfl
theorem mw_1_230 : (Cond.fieldLink RX2 77 "DearLetters$Sale" "soldOnAhead" "I" : Cond) ∈ lw_good := lg_at 1 230 rfl rfl
theorem mw_1_121 : (Cond.fieldLink RX2 80 "DearLetters$Standing" "day" "I" : Cond) ∈ lw_good := lg_at 1 121 rfl rfl
theorem mw_1_76 : (Cond.fieldLink RX2 83 "DearLetters$Letter" "timesSold" "I" : Cond) ∈ lw_good := lg_at 1 76 rfl rfl
theorem mw_1_54 : (Cond.fieldLink RX2 86 "DearLetters$Letter" "reader" "I" : Cond) ∈ lw_good := lg_at 1 54 rfl rfl
theorem mw_1_78 : (Cond.fieldLink RX2 89 "DearLetters$Letter" "isRead" "Z" : Cond) ∈ lw_good := lg_at 1 78 rfl rfl
theorem cX_46_spurses (j : Nat) (h3 : 117 ≤ j) (h4 : j < 157) {a b : Nat} : ∀ f, loX j f ≤ loX 46 (a + (f - b)) ∧ hiX 46 (a + (f - b)) ≤ hiX j f := fun f => by
  unfold loX hiX; rw [clX_spurses j h3 h4]
  exact (show (-2147483648 : Int) ≤ -2147483648 ∧ (2147483647 : Int) ≤ 2147483647 by decide)
theorem hX_sale_1 (cs : Nat → ClassId) (ad : Nat → Nat) (g : Nat → Int32) (v : Int32) (k : Nat) (h1 : 77 ≤ k) (h2 : k < 117) : EX cs ad k (upd g 1 v) = .inr (7, [.ref (ad (k + 40)), .int v, .int (g 2), .int (g 3), .int (g 4), .int (g 5), .int (g 6)]) := by
  rw [EX_sale cs ad _ _ h1 h2]; rfl
theorem tX_sale_1 {mu : Nat → Nat → Int32} (ok : okR loX hiX mu) {nu : Nat → Nat → Int32} {v : Int32} (k : Nat) (h1 : 77 ≤ k) (h2 : k < 117) (hn : va_up mu k (upd (mu k) 1 v) = nu) (hv : 0 ≤ v.toInt ∧ v.toInt ≤ 3) : okR loX hiX nu := by
  subst hn
  exact okR_up ok k 1 v (by unfold loX; rw [clX_sale k h1 h2]; exact hv.1) (by unfold hiX; rw [clX_sale k h1 h2]; exact hv.2)
theorem hX_sale_2 (cs : Nat → ClassId) (ad : Nat → Nat) (g : Nat → Int32) (v : Int32) (k : Nat) (h1 : 77 ≤ k) (h2 : k < 117) : EX cs ad k (upd g 2 v) = .inr (7, [.ref (ad (k + 40)), .int (g 1), .int v, .int (g 3), .int (g 4), .int (g 5), .int (g 6)]) := by
  rw [EX_sale cs ad _ _ h1 h2]; rfl
theorem tX_sale_2 {mu : Nat → Nat → Int32} (ok : okR loX hiX mu) {nu : Nat → Nat → Int32} {v : Int32} (k : Nat) (h1 : 77 ≤ k) (h2 : k < 117) (hn : va_up mu k (upd (mu k) 2 v) = nu) (hv : 0 ≤ v.toInt ∧ v.toInt ≤ 6) : okR loX hiX nu := by
  subst hn
  exact okR_up ok k 2 v (by unfold loX; rw [clX_sale k h1 h2]; exact hv.1) (by unfold hiX; rw [clX_sale k h1 h2]; exact hv.2)
theorem hX_sale_3 (cs : Nat → ClassId) (ad : Nat → Nat) (g : Nat → Int32) (v : Int32) (k : Nat) (h1 : 77 ≤ k) (h2 : k < 117) : EX cs ad k (upd g 3 v) = .inr (7, [.ref (ad (k + 40)), .int (g 1), .int (g 2), .int v, .int (g 4), .int (g 5), .int (g 6)]) := by
  rw [EX_sale cs ad _ _ h1 h2]; rfl
theorem tX_sale_3 {mu : Nat → Nat → Int32} (ok : okR loX hiX mu) {nu : Nat → Nat → Int32} {v : Int32} (k : Nat) (h1 : 77 ≤ k) (h2 : k < 117) (hn : va_up mu k (upd (mu k) 3 v) = nu) : okR loX hiX nu := by
  subst hn
  exact okR_up ok k 3 v (by unfold loX; rw [clX_sale k h1 h2]; exact tI_lo v) (by unfold hiX; rw [clX_sale k h1 h2]; exact tI_hi v)
theorem hX_sale_4 (cs : Nat → ClassId) (ad : Nat → Nat) (g : Nat → Int32) (v : Int32) (k : Nat) (h1 : 77 ≤ k) (h2 : k < 117) : EX cs ad k (upd g 4 v) = .inr (7, [.ref (ad (k + 40)), .int (g 1), .int (g 2), .int (g 3), .int v, .int (g 5), .int (g 6)]) := by
  rw [EX_sale cs ad _ _ h1 h2]; rfl
theorem tX_sale_4 {mu : Nat → Nat → Int32} (ok : okR loX hiX mu) {nu : Nat → Nat → Int32} {v : Int32} (k : Nat) (h1 : 77 ≤ k) (h2 : k < 117) (hn : va_up mu k (upd (mu k) 4 v) = nu) : okR loX hiX nu := by
  subst hn
  exact okR_up ok k 4 v (by unfold loX; rw [clX_sale k h1 h2]; exact tI_lo v) (by unfold hiX; rw [clX_sale k h1 h2]; exact tI_hi v)
theorem hX_sale_5 (cs : Nat → ClassId) (ad : Nat → Nat) (g : Nat → Int32) (v : Int32) (k : Nat) (h1 : 77 ≤ k) (h2 : k < 117) : EX cs ad k (upd g 5 v) = .inr (7, [.ref (ad (k + 40)), .int (g 1), .int (g 2), .int (g 3), .int (g 4), .int v, .int (g 6)]) := by
  rw [EX_sale cs ad _ _ h1 h2]; rfl
theorem tX_sale_5 {mu : Nat → Nat → Int32} (ok : okR loX hiX mu) {nu : Nat → Nat → Int32} {v : Int32} (k : Nat) (h1 : 77 ≤ k) (h2 : k < 117) (hn : va_up mu k (upd (mu k) 5 v) = nu) : okR loX hiX nu := by
  subst hn
  exact okR_up ok k 5 v (by unfold loX; rw [clX_sale k h1 h2]; exact tI_lo v) (by unfold hiX; rw [clX_sale k h1 h2]; exact tI_hi v)
theorem hX_sale_6 (cs : Nat → ClassId) (ad : Nat → Nat) (g : Nat → Int32) (v : Int32) (k : Nat) (h1 : 77 ≤ k) (h2 : k < 117) : EX cs ad k (upd g 6 v) = .inr (7, [.ref (ad (k + 40)), .int (g 1), .int (g 2), .int (g 3), .int (g 4), .int (g 5), .int v]) := by
  rw [EX_sale cs ad _ _ h1 h2]; rfl
theorem tX_sale_6 {mu : Nat → Nat → Int32} (ok : okR loX hiX mu) {nu : Nat → Nat → Int32} {v : Int32} (k : Nat) (h1 : 77 ≤ k) (h2 : k < 117) (hn : va_up mu k (upd (mu k) 6 v) = nu) : okR loX hiX nu := by
  subst hn
  exact okR_up ok k 6 v (by unfold loX; rw [clX_sale k h1 h2]; exact tI_lo v) (by unfold hiX; rw [clX_sale k h1 h2]; exact tI_hi v)
theorem lb_X2_enterSale_0 : dl_ck (cX2_enterSale.data.toList.drop 0) [43, 180, 0, 22, 180, 0, 28, 28, 50, 58, 4, 43, 25, 4, 182, 0, 34, 54, 5, 42, 180, 0, 11, 42, 180, 0, 18, 50, 58, 6, 43, 180] = true := by decide +kernel
theorem lb_X2_enterSale_1 : dl_ck (cX2_enterSale.data.toList.drop 32) [0, 22, 180, 0, 38, 3, 25, 6, 180, 0, 42, 3, 16, 7, 184, 0, 45, 25, 6, 28, 181, 0, 51, 25, 6, 25, 4, 180, 0, 54, 181, 0] = true := by decide +kernel
theorem lb_X2_enterSale_2 : dl_ck (cX2_enterSale.data.toList.drop 64) [59, 25, 6, 29, 181, 0, 62, 25, 6, 21, 5, 181, 0, 65, 25, 6, 25, 4, 180, 0, 68, 181, 0, 71, 25, 6, 25, 4, 180, 0, 74, 181] = true := by decide +kernel
theorem lb_X2_enterSale_3 : dl_ck (cX2_enterSale.data.toList.drop 96) [0, 77, 42, 89, 180, 0, 18, 4, 96, 181, 0, 18, 43, 180, 0, 22, 180, 0, 38, 29, 92, 46, 21, 5, 100, 79, 43, 180, 0, 22, 180, 0] = true := by decide +kernel
theorem lb_X2_enterSale_4 : dl_ck (cX2_enterSale.data.toList.drop 128) [38, 25, 4, 180, 0, 54, 92, 46, 21, 5, 96, 79, 25, 4, 29, 181, 0, 54, 25, 4, 21, 5, 181, 0, 68, 25, 4, 43, 180, 0, 22, 180] = true := by decide +kernel
theorem lb_X2_enterSale_5 : dl_ck (cX2_enterSale.data.toList.drop 160) [0, 80, 181, 0, 74, 25, 4, 89, 180, 0, 83, 4, 96, 181, 0, 83, 25, 4, 29, 25, 4, 180, 0, 86, 160, 0, 7, 4, 167, 0, 4, 3] = true := by decide +kernel
theorem lb_X2_enterSale_6 : dl_ck (cX2_enterSale.data.toList.drop 192) [181, 0, 89, 21, 5, 172] = true := by decide +kernel
theorem dX2_enterSale_0 : decode cX2_enterSale 0 = .ok (.aload_n 1, 1) := dx_43 (dl_at 0 0 lb_X2_enterSale_0 rfl)
theorem dX2_enterSale_1 : decode cX2_enterSale 1 = .ok (.getfield 22, 3) := dx_180 (a := 0) (b := 22) (dl_at 0 1 lb_X2_enterSale_0 rfl) (dl_at 0 2 lb_X2_enterSale_0 rfl) (dl_at 0 3 lb_X2_enterSale_0 rfl) rfl
theorem dX2_enterSale_4 : decode cX2_enterSale 4 = .ok (.getfield 28, 3) := dx_180 (a := 0) (b := 28) (dl_at 0 4 lb_X2_enterSale_0 rfl) (dl_at 0 5 lb_X2_enterSale_0 rfl) (dl_at 0 6 lb_X2_enterSale_0 rfl) rfl
theorem dX2_enterSale_7 : decode cX2_enterSale 7 = .ok (.iload_n 2, 1) := dx_28 (dl_at 0 7 lb_X2_enterSale_0 rfl)
theorem dX2_enterSale_8 : decode cX2_enterSale 8 = .ok (.aaload, 1) := dx_50 (dl_at 0 8 lb_X2_enterSale_0 rfl)
theorem dX2_enterSale_9 : decode cX2_enterSale 9 = .ok (.astore 4, 2) := dx_58 (dl_at 0 9 lb_X2_enterSale_0 rfl) (dl_at 0 10 lb_X2_enterSale_0 rfl)
theorem dX2_enterSale_11 : decode cX2_enterSale 11 = .ok (.aload_n 1, 1) := dx_43 (dl_at 0 11 lb_X2_enterSale_0 rfl)
theorem dX2_enterSale_12 : decode cX2_enterSale 12 = .ok (.aload 4, 2) := dx_25 (dl_at 0 12 lb_X2_enterSale_0 rfl) (dl_at 0 13 lb_X2_enterSale_0 rfl)
theorem dX2_enterSale_14 : decode cX2_enterSale 14 = .ok (.invokevirtual 34, 3) := dx_182 (a := 0) (b := 34) (dl_at 0 14 lb_X2_enterSale_0 rfl) (dl_at 0 15 lb_X2_enterSale_0 rfl) (dl_at 0 16 lb_X2_enterSale_0 rfl) rfl
theorem dX2_enterSale_17 : decode cX2_enterSale 17 = .ok (.istore 5, 2) := dx_54 (dl_at 0 17 lb_X2_enterSale_0 rfl) (dl_at 0 18 lb_X2_enterSale_0 rfl)
theorem dX2_enterSale_19 : decode cX2_enterSale 19 = .ok (.aload_n 0, 1) := dx_42 (dl_at 0 19 lb_X2_enterSale_0 rfl)
theorem dX2_enterSale_20 : decode cX2_enterSale 20 = .ok (.getfield 11, 3) := dx_180 (a := 0) (b := 11) (dl_at 0 20 lb_X2_enterSale_0 rfl) (dl_at 0 21 lb_X2_enterSale_0 rfl) (dl_at 0 22 lb_X2_enterSale_0 rfl) rfl
theorem dX2_enterSale_23 : decode cX2_enterSale 23 = .ok (.aload_n 0, 1) := dx_42 (dl_at 0 23 lb_X2_enterSale_0 rfl)
theorem dX2_enterSale_24 : decode cX2_enterSale 24 = .ok (.getfield 18, 3) := dx_180 (a := 0) (b := 18) (dl_at 0 24 lb_X2_enterSale_0 rfl) (dl_at 0 25 lb_X2_enterSale_0 rfl) (dl_at 0 26 lb_X2_enterSale_0 rfl) rfl
theorem dX2_enterSale_27 : decode cX2_enterSale 27 = .ok (.aaload, 1) := dx_50 (dl_at 0 27 lb_X2_enterSale_0 rfl)
theorem dX2_enterSale_28 : decode cX2_enterSale 28 = .ok (.astore 6, 2) := dx_58 (dl_at 0 28 lb_X2_enterSale_0 rfl) (dl_at 0 29 lb_X2_enterSale_0 rfl)
theorem dX2_enterSale_30 : decode cX2_enterSale 30 = .ok (.aload_n 1, 1) := dx_43 (dl_at 0 30 lb_X2_enterSale_0 rfl)
theorem dX2_enterSale_31 : decode cX2_enterSale 31 = .ok (.getfield 22, 3) := dx_180 (a := 0) (b := 22) (dl_at 0 31 lb_X2_enterSale_0 rfl) (dl_at 32 0 lb_X2_enterSale_1 rfl) (dl_at 32 1 lb_X2_enterSale_1 rfl) rfl
theorem dX2_enterSale_34 : decode cX2_enterSale 34 = .ok (.getfield 38, 3) := dx_180 (a := 0) (b := 38) (dl_at 32 2 lb_X2_enterSale_1 rfl) (dl_at 32 3 lb_X2_enterSale_1 rfl) (dl_at 32 4 lb_X2_enterSale_1 rfl) rfl
theorem dX2_enterSale_37 : decode cX2_enterSale 37 = .ok (.iconst 0, 1) := dx_3 (dl_at 32 5 lb_X2_enterSale_1 rfl)
theorem dX2_enterSale_38 : decode cX2_enterSale 38 = .ok (.aload 6, 2) := dx_25 (dl_at 32 6 lb_X2_enterSale_1 rfl) (dl_at 32 7 lb_X2_enterSale_1 rfl)
theorem dX2_enterSale_40 : decode cX2_enterSale 40 = .ok (.getfield 42, 3) := dx_180 (a := 0) (b := 42) (dl_at 32 8 lb_X2_enterSale_1 rfl) (dl_at 32 9 lb_X2_enterSale_1 rfl) (dl_at 32 10 lb_X2_enterSale_1 rfl) rfl
theorem dX2_enterSale_43 : decode cX2_enterSale 43 = .ok (.iconst 0, 1) := dx_3 (dl_at 32 11 lb_X2_enterSale_1 rfl)
theorem dX2_enterSale_44 : decode cX2_enterSale 44 = .ok (.bipush 7, 2) := dx_16 (dl_at 32 12 lb_X2_enterSale_1 rfl) (dl_at 32 13 lb_X2_enterSale_1 rfl) sg8_7
theorem dX2_enterSale_46 : decode cX2_enterSale 46 = .ok (.invokestatic 45, 3) := dx_184 (a := 0) (b := 45) (dl_at 32 14 lb_X2_enterSale_1 rfl) (dl_at 32 15 lb_X2_enterSale_1 rfl) (dl_at 32 16 lb_X2_enterSale_1 rfl) rfl
theorem dX2_enterSale_49 : decode cX2_enterSale 49 = .ok (.aload 6, 2) := dx_25 (dl_at 32 17 lb_X2_enterSale_1 rfl) (dl_at 32 18 lb_X2_enterSale_1 rfl)
theorem dX2_enterSale_51 : decode cX2_enterSale 51 = .ok (.iload_n 2, 1) := dx_28 (dl_at 32 19 lb_X2_enterSale_1 rfl)
theorem dX2_enterSale_52 : decode cX2_enterSale 52 = .ok (.putfield 51, 3) := dx_181 (a := 0) (b := 51) (dl_at 32 20 lb_X2_enterSale_1 rfl) (dl_at 32 21 lb_X2_enterSale_1 rfl) (dl_at 32 22 lb_X2_enterSale_1 rfl) rfl
theorem dX2_enterSale_55 : decode cX2_enterSale 55 = .ok (.aload 6, 2) := dx_25 (dl_at 32 23 lb_X2_enterSale_1 rfl) (dl_at 32 24 lb_X2_enterSale_1 rfl)
theorem dX2_enterSale_57 : decode cX2_enterSale 57 = .ok (.aload 4, 2) := dx_25 (dl_at 32 25 lb_X2_enterSale_1 rfl) (dl_at 32 26 lb_X2_enterSale_1 rfl)
theorem dX2_enterSale_59 : decode cX2_enterSale 59 = .ok (.getfield 54, 3) := dx_180 (a := 0) (b := 54) (dl_at 32 27 lb_X2_enterSale_1 rfl) (dl_at 32 28 lb_X2_enterSale_1 rfl) (dl_at 32 29 lb_X2_enterSale_1 rfl) rfl
theorem dX2_enterSale_62 : decode cX2_enterSale 62 = .ok (.putfield 59, 3) := dx_181 (a := 0) (b := 59) (dl_at 32 30 lb_X2_enterSale_1 rfl) (dl_at 32 31 lb_X2_enterSale_1 rfl) (dl_at 64 0 lb_X2_enterSale_2 rfl) rfl
theorem dX2_enterSale_65 : decode cX2_enterSale 65 = .ok (.aload 6, 2) := dx_25 (dl_at 64 1 lb_X2_enterSale_2 rfl) (dl_at 64 2 lb_X2_enterSale_2 rfl)
theorem dX2_enterSale_67 : decode cX2_enterSale 67 = .ok (.iload_n 3, 1) := dx_29 (dl_at 64 3 lb_X2_enterSale_2 rfl)
theorem dX2_enterSale_68 : decode cX2_enterSale 68 = .ok (.putfield 62, 3) := dx_181 (a := 0) (b := 62) (dl_at 64 4 lb_X2_enterSale_2 rfl) (dl_at 64 5 lb_X2_enterSale_2 rfl) (dl_at 64 6 lb_X2_enterSale_2 rfl) rfl
theorem dX2_enterSale_71 : decode cX2_enterSale 71 = .ok (.aload 6, 2) := dx_25 (dl_at 64 7 lb_X2_enterSale_2 rfl) (dl_at 64 8 lb_X2_enterSale_2 rfl)
theorem dX2_enterSale_73 : decode cX2_enterSale 73 = .ok (.iload 5, 2) := dx_21 (dl_at 64 9 lb_X2_enterSale_2 rfl) (dl_at 64 10 lb_X2_enterSale_2 rfl)
theorem dX2_enterSale_75 : decode cX2_enterSale 75 = .ok (.putfield 65, 3) := dx_181 (a := 0) (b := 65) (dl_at 64 11 lb_X2_enterSale_2 rfl) (dl_at 64 12 lb_X2_enterSale_2 rfl) (dl_at 64 13 lb_X2_enterSale_2 rfl) rfl
theorem dX2_enterSale_78 : decode cX2_enterSale 78 = .ok (.aload 6, 2) := dx_25 (dl_at 64 14 lb_X2_enterSale_2 rfl) (dl_at 64 15 lb_X2_enterSale_2 rfl)
theorem dX2_enterSale_80 : decode cX2_enterSale 80 = .ok (.aload 4, 2) := dx_25 (dl_at 64 16 lb_X2_enterSale_2 rfl) (dl_at 64 17 lb_X2_enterSale_2 rfl)
theorem dX2_enterSale_82 : decode cX2_enterSale 82 = .ok (.getfield 68, 3) := dx_180 (a := 0) (b := 68) (dl_at 64 18 lb_X2_enterSale_2 rfl) (dl_at 64 19 lb_X2_enterSale_2 rfl) (dl_at 64 20 lb_X2_enterSale_2 rfl) rfl
theorem dX2_enterSale_85 : decode cX2_enterSale 85 = .ok (.putfield 71, 3) := dx_181 (a := 0) (b := 71) (dl_at 64 21 lb_X2_enterSale_2 rfl) (dl_at 64 22 lb_X2_enterSale_2 rfl) (dl_at 64 23 lb_X2_enterSale_2 rfl) rfl
theorem dX2_enterSale_88 : decode cX2_enterSale 88 = .ok (.aload 6, 2) := dx_25 (dl_at 64 24 lb_X2_enterSale_2 rfl) (dl_at 64 25 lb_X2_enterSale_2 rfl)
theorem dX2_enterSale_90 : decode cX2_enterSale 90 = .ok (.aload 4, 2) := dx_25 (dl_at 64 26 lb_X2_enterSale_2 rfl) (dl_at 64 27 lb_X2_enterSale_2 rfl)
theorem dX2_enterSale_92 : decode cX2_enterSale 92 = .ok (.getfield 74, 3) := dx_180 (a := 0) (b := 74) (dl_at 64 28 lb_X2_enterSale_2 rfl) (dl_at 64 29 lb_X2_enterSale_2 rfl) (dl_at 64 30 lb_X2_enterSale_2 rfl) rfl
theorem dX2_enterSale_95 : decode cX2_enterSale 95 = .ok (.putfield 77, 3) := dx_181 (a := 0) (b := 77) (dl_at 64 31 lb_X2_enterSale_2 rfl) (dl_at 96 0 lb_X2_enterSale_3 rfl) (dl_at 96 1 lb_X2_enterSale_3 rfl) rfl
theorem dX2_enterSale_98 : decode cX2_enterSale 98 = .ok (.aload_n 0, 1) := dx_42 (dl_at 96 2 lb_X2_enterSale_3 rfl)
theorem dX2_enterSale_99 : decode cX2_enterSale 99 = .ok (.dup, 1) := dx_89 (dl_at 96 3 lb_X2_enterSale_3 rfl)
theorem dX2_enterSale_100 : decode cX2_enterSale 100 = .ok (.getfield 18, 3) := dx_180 (a := 0) (b := 18) (dl_at 96 4 lb_X2_enterSale_3 rfl) (dl_at 96 5 lb_X2_enterSale_3 rfl) (dl_at 96 6 lb_X2_enterSale_3 rfl) rfl
theorem dX2_enterSale_103 : decode cX2_enterSale 103 = .ok (.iconst 1, 1) := dx_4 (dl_at 96 7 lb_X2_enterSale_3 rfl)
theorem dX2_enterSale_104 : decode cX2_enterSale 104 = .ok (.iadd, 1) := dx_96 (dl_at 96 8 lb_X2_enterSale_3 rfl)
theorem dX2_enterSale_105 : decode cX2_enterSale 105 = .ok (.putfield 18, 3) := dx_181 (a := 0) (b := 18) (dl_at 96 9 lb_X2_enterSale_3 rfl) (dl_at 96 10 lb_X2_enterSale_3 rfl) (dl_at 96 11 lb_X2_enterSale_3 rfl) rfl
theorem dX2_enterSale_108 : decode cX2_enterSale 108 = .ok (.aload_n 1, 1) := dx_43 (dl_at 96 12 lb_X2_enterSale_3 rfl)
theorem dX2_enterSale_109 : decode cX2_enterSale 109 = .ok (.getfield 22, 3) := dx_180 (a := 0) (b := 22) (dl_at 96 13 lb_X2_enterSale_3 rfl) (dl_at 96 14 lb_X2_enterSale_3 rfl) (dl_at 96 15 lb_X2_enterSale_3 rfl) rfl
theorem dX2_enterSale_112 : decode cX2_enterSale 112 = .ok (.getfield 38, 3) := dx_180 (a := 0) (b := 38) (dl_at 96 16 lb_X2_enterSale_3 rfl) (dl_at 96 17 lb_X2_enterSale_3 rfl) (dl_at 96 18 lb_X2_enterSale_3 rfl) rfl
theorem dX2_enterSale_115 : decode cX2_enterSale 115 = .ok (.iload_n 3, 1) := dx_29 (dl_at 96 19 lb_X2_enterSale_3 rfl)
theorem dX2_enterSale_116 : decode cX2_enterSale 116 = .ok (.dup2, 1) := dx_92 (dl_at 96 20 lb_X2_enterSale_3 rfl)
theorem dX2_enterSale_117 : decode cX2_enterSale 117 = .ok (.iaload, 1) := dx_46 (dl_at 96 21 lb_X2_enterSale_3 rfl)
theorem dX2_enterSale_118 : decode cX2_enterSale 118 = .ok (.iload 5, 2) := dx_21 (dl_at 96 22 lb_X2_enterSale_3 rfl) (dl_at 96 23 lb_X2_enterSale_3 rfl)
theorem dX2_enterSale_120 : decode cX2_enterSale 120 = .ok (.isub, 1) := dx_100 (dl_at 96 24 lb_X2_enterSale_3 rfl)
theorem dX2_enterSale_121 : decode cX2_enterSale 121 = .ok (.iastore, 1) := dx_79 (dl_at 96 25 lb_X2_enterSale_3 rfl)
theorem dX2_enterSale_122 : decode cX2_enterSale 122 = .ok (.aload_n 1, 1) := dx_43 (dl_at 96 26 lb_X2_enterSale_3 rfl)
theorem dX2_enterSale_123 : decode cX2_enterSale 123 = .ok (.getfield 22, 3) := dx_180 (a := 0) (b := 22) (dl_at 96 27 lb_X2_enterSale_3 rfl) (dl_at 96 28 lb_X2_enterSale_3 rfl) (dl_at 96 29 lb_X2_enterSale_3 rfl) rfl
theorem dX2_enterSale_126 : decode cX2_enterSale 126 = .ok (.getfield 38, 3) := dx_180 (a := 0) (b := 38) (dl_at 96 30 lb_X2_enterSale_3 rfl) (dl_at 96 31 lb_X2_enterSale_3 rfl) (dl_at 128 0 lb_X2_enterSale_4 rfl) rfl
theorem dX2_enterSale_129 : decode cX2_enterSale 129 = .ok (.aload 4, 2) := dx_25 (dl_at 128 1 lb_X2_enterSale_4 rfl) (dl_at 128 2 lb_X2_enterSale_4 rfl)
theorem dX2_enterSale_131 : decode cX2_enterSale 131 = .ok (.getfield 54, 3) := dx_180 (a := 0) (b := 54) (dl_at 128 3 lb_X2_enterSale_4 rfl) (dl_at 128 4 lb_X2_enterSale_4 rfl) (dl_at 128 5 lb_X2_enterSale_4 rfl) rfl
theorem dX2_enterSale_134 : decode cX2_enterSale 134 = .ok (.dup2, 1) := dx_92 (dl_at 128 6 lb_X2_enterSale_4 rfl)
theorem dX2_enterSale_135 : decode cX2_enterSale 135 = .ok (.iaload, 1) := dx_46 (dl_at 128 7 lb_X2_enterSale_4 rfl)
theorem dX2_enterSale_136 : decode cX2_enterSale 136 = .ok (.iload 5, 2) := dx_21 (dl_at 128 8 lb_X2_enterSale_4 rfl) (dl_at 128 9 lb_X2_enterSale_4 rfl)
theorem dX2_enterSale_138 : decode cX2_enterSale 138 = .ok (.iadd, 1) := dx_96 (dl_at 128 10 lb_X2_enterSale_4 rfl)
theorem dX2_enterSale_139 : decode cX2_enterSale 139 = .ok (.iastore, 1) := dx_79 (dl_at 128 11 lb_X2_enterSale_4 rfl)
theorem dX2_enterSale_140 : decode cX2_enterSale 140 = .ok (.aload 4, 2) := dx_25 (dl_at 128 12 lb_X2_enterSale_4 rfl) (dl_at 128 13 lb_X2_enterSale_4 rfl)
theorem dX2_enterSale_142 : decode cX2_enterSale 142 = .ok (.iload_n 3, 1) := dx_29 (dl_at 128 14 lb_X2_enterSale_4 rfl)
theorem dX2_enterSale_143 : decode cX2_enterSale 143 = .ok (.putfield 54, 3) := dx_181 (a := 0) (b := 54) (dl_at 128 15 lb_X2_enterSale_4 rfl) (dl_at 128 16 lb_X2_enterSale_4 rfl) (dl_at 128 17 lb_X2_enterSale_4 rfl) rfl
theorem dX2_enterSale_146 : decode cX2_enterSale 146 = .ok (.aload 4, 2) := dx_25 (dl_at 128 18 lb_X2_enterSale_4 rfl) (dl_at 128 19 lb_X2_enterSale_4 rfl)
theorem dX2_enterSale_148 : decode cX2_enterSale 148 = .ok (.iload 5, 2) := dx_21 (dl_at 128 20 lb_X2_enterSale_4 rfl) (dl_at 128 21 lb_X2_enterSale_4 rfl)
theorem dX2_enterSale_150 : decode cX2_enterSale 150 = .ok (.putfield 68, 3) := dx_181 (a := 0) (b := 68) (dl_at 128 22 lb_X2_enterSale_4 rfl) (dl_at 128 23 lb_X2_enterSale_4 rfl) (dl_at 128 24 lb_X2_enterSale_4 rfl) rfl
theorem dX2_enterSale_153 : decode cX2_enterSale 153 = .ok (.aload 4, 2) := dx_25 (dl_at 128 25 lb_X2_enterSale_4 rfl) (dl_at 128 26 lb_X2_enterSale_4 rfl)
theorem dX2_enterSale_155 : decode cX2_enterSale 155 = .ok (.aload_n 1, 1) := dx_43 (dl_at 128 27 lb_X2_enterSale_4 rfl)
theorem dX2_enterSale_156 : decode cX2_enterSale 156 = .ok (.getfield 22, 3) := dx_180 (a := 0) (b := 22) (dl_at 128 28 lb_X2_enterSale_4 rfl) (dl_at 128 29 lb_X2_enterSale_4 rfl) (dl_at 128 30 lb_X2_enterSale_4 rfl) rfl
theorem dX2_enterSale_159 : decode cX2_enterSale 159 = .ok (.getfield 80, 3) := dx_180 (a := 0) (b := 80) (dl_at 128 31 lb_X2_enterSale_4 rfl) (dl_at 160 0 lb_X2_enterSale_5 rfl) (dl_at 160 1 lb_X2_enterSale_5 rfl) rfl
theorem dX2_enterSale_162 : decode cX2_enterSale 162 = .ok (.putfield 74, 3) := dx_181 (a := 0) (b := 74) (dl_at 160 2 lb_X2_enterSale_5 rfl) (dl_at 160 3 lb_X2_enterSale_5 rfl) (dl_at 160 4 lb_X2_enterSale_5 rfl) rfl
theorem dX2_enterSale_165 : decode cX2_enterSale 165 = .ok (.aload 4, 2) := dx_25 (dl_at 160 5 lb_X2_enterSale_5 rfl) (dl_at 160 6 lb_X2_enterSale_5 rfl)
theorem dX2_enterSale_167 : decode cX2_enterSale 167 = .ok (.dup, 1) := dx_89 (dl_at 160 7 lb_X2_enterSale_5 rfl)
theorem dX2_enterSale_168 : decode cX2_enterSale 168 = .ok (.getfield 83, 3) := dx_180 (a := 0) (b := 83) (dl_at 160 8 lb_X2_enterSale_5 rfl) (dl_at 160 9 lb_X2_enterSale_5 rfl) (dl_at 160 10 lb_X2_enterSale_5 rfl) rfl
theorem dX2_enterSale_171 : decode cX2_enterSale 171 = .ok (.iconst 1, 1) := dx_4 (dl_at 160 11 lb_X2_enterSale_5 rfl)
theorem dX2_enterSale_172 : decode cX2_enterSale 172 = .ok (.iadd, 1) := dx_96 (dl_at 160 12 lb_X2_enterSale_5 rfl)
theorem dX2_enterSale_173 : decode cX2_enterSale 173 = .ok (.putfield 83, 3) := dx_181 (a := 0) (b := 83) (dl_at 160 13 lb_X2_enterSale_5 rfl) (dl_at 160 14 lb_X2_enterSale_5 rfl) (dl_at 160 15 lb_X2_enterSale_5 rfl) rfl
theorem dX2_enterSale_176 : decode cX2_enterSale 176 = .ok (.aload 4, 2) := dx_25 (dl_at 160 16 lb_X2_enterSale_5 rfl) (dl_at 160 17 lb_X2_enterSale_5 rfl)
theorem dX2_enterSale_178 : decode cX2_enterSale 178 = .ok (.iload_n 3, 1) := dx_29 (dl_at 160 18 lb_X2_enterSale_5 rfl)
theorem dX2_enterSale_179 : decode cX2_enterSale 179 = .ok (.aload 4, 2) := dx_25 (dl_at 160 19 lb_X2_enterSale_5 rfl) (dl_at 160 20 lb_X2_enterSale_5 rfl)
theorem dX2_enterSale_181 : decode cX2_enterSale 181 = .ok (.getfield 86, 3) := dx_180 (a := 0) (b := 86) (dl_at 160 21 lb_X2_enterSale_5 rfl) (dl_at 160 22 lb_X2_enterSale_5 rfl) (dl_at 160 23 lb_X2_enterSale_5 rfl) rfl
theorem dX2_enterSale_184 : decode cX2_enterSale 184 = .ok (.if_icmp .ne 7, 3) := dx_160 (a := 0) (b := 7) (dl_at 160 24 lb_X2_enterSale_5 rfl) (dl_at 160 25 lb_X2_enterSale_5 rfl) (dl_at 160 26 lb_X2_enterSale_5 rfl) sg16_7
theorem dX2_enterSale_191 : decode cX2_enterSale 191 = .ok (.iconst 0, 1) := dx_3 (dl_at 160 31 lb_X2_enterSale_5 rfl)
theorem dX2_enterSale_192 : decode cX2_enterSale 192 = .ok (.putfield 89, 3) := dx_181 (a := 0) (b := 89) (dl_at 192 0 lb_X2_enterSale_6 rfl) (dl_at 192 1 lb_X2_enterSale_6 rfl) (dl_at 192 2 lb_X2_enterSale_6 rfl) rfl
theorem dX2_enterSale_195 : decode cX2_enterSale 195 = .ok (.iload 5, 2) := dx_21 (dl_at 192 3 lb_X2_enterSale_6 rfl) (dl_at 192 4 lb_X2_enterSale_6 rfl)
theorem dX2_enterSale_197 : decode cX2_enterSale 197 = .ok (.ireturn, 1) := dx_172 (dl_at 192 5 lb_X2_enterSale_6 rfl)
theorem dX2_enterSale_187 : decode cX2_enterSale 187 = .ok (.iconst 1, 1) := dx_4 (dl_at 160 27 lb_X2_enterSale_5 rfl)
theorem dX2_enterSale_188 : decode cX2_enterSale 188 = .ok (.goto 4, 3) := dx_167 (a := 0) (b := 4) (dl_at 160 28 lb_X2_enterSale_5 rfl) (dl_at 160 29 lb_X2_enterSale_5 rfl) (dl_at 160 30 lb_X2_enterSale_5 rfl) sg16_4
def F_sx_enterSale (mu : Nat → Nat → Int32) (vk : Int32) (vx : Int32) : Int32 × (Nat → Nat → Int32) :=
  LETV (F_sx_priceOf mu (61 + vk.toNatClampNeg) : Int32) fun r2 =>
  LETV (mu 6 1 : Int32) fun y3 =>
  LETV (va_up mu ((77 + y3.toNatClampNeg) + 40) (va_cpy (mu 46) (mu ((77 + y3.toNatClampNeg) + 40)) (0 : Int32).toNatClampNeg (0 : Int32).toNatClampNeg (7 : Int32).toNatClampNeg) : Nat → Nat → Int32) fun nu6 =>
  LETV (va_up nu6 (77 + y3.toNatClampNeg) (upd (nu6 (77 + y3.toNatClampNeg)) 1 vk) : Nat → Nat → Int32) fun nu9 =>
  LETV (nu9 (61 + vk.toNatClampNeg) 5 : Int32) fun y13 =>
  LETV (va_up nu9 (77 + y3.toNatClampNeg) (upd (nu9 (77 + y3.toNatClampNeg)) 2 y13) : Nat → Nat → Int32) fun nu14 =>
  LETV (va_up nu14 (77 + y3.toNatClampNeg) (upd (nu14 (77 + y3.toNatClampNeg)) 3 vx) : Nat → Nat → Int32) fun nu20 =>
  LETV (va_up nu20 (77 + y3.toNatClampNeg) (upd (nu20 (77 + y3.toNatClampNeg)) 4 r2) : Nat → Nat → Int32) fun nu27 =>
  LETV (nu27 (61 + vk.toNatClampNeg) 6 : Int32) fun y35 =>
  LETV (va_up nu27 (77 + y3.toNatClampNeg) (upd (nu27 (77 + y3.toNatClampNeg)) 5 y35) : Nat → Nat → Int32) fun nu36 =>
  LETV (nu36 (61 + vk.toNatClampNeg) 7 : Int32) fun y46 =>
  LETV (va_up nu36 (77 + y3.toNatClampNeg) (upd (nu36 (77 + y3.toNatClampNeg)) 6 y46) : Nat → Nat → Int32) fun nu47 =>
  LETV (y3 + 1 : Int32) fun t59 =>
  LETV (va_up nu47 6 (upd (nu47 6) 1 t59) : Nat → Nat → Int32) fun nu60 =>
  LETV (nu60 46 vx.toNatClampNeg : Int32) fun y72 =>
  LETV (y72 - r2 : Int32) fun t73 =>
  LETV (va_up nu60 46 (upd (nu60 46) vx.toNatClampNeg t73) : Nat → Nat → Int32) fun nu74 =>
  LETV (nu74 46 y13.toNatClampNeg : Int32) fun y86 =>
  LETV (y86 + r2 : Int32) fun t87 =>
  LETV (va_up nu74 46 (upd (nu74 46) y13.toNatClampNeg t87) : Nat → Nat → Int32) fun nu88 =>
  LETV (va_up nu88 (61 + vk.toNatClampNeg) (upd (nu88 (61 + vk.toNatClampNeg)) 5 vx) : Nat → Nat → Int32) fun nu100 =>
  LETV (va_up nu100 (61 + vk.toNatClampNeg) (upd (nu100 (61 + vk.toNatClampNeg)) 6 r2) : Nat → Nat → Int32) fun nu112 =>
  LETV (nu112 5 3 : Int32) fun y124 =>
  LETV (va_up nu112 (61 + vk.toNatClampNeg) (upd (nu112 (61 + vk.toNatClampNeg)) 7 y124) : Nat → Nat → Int32) fun nu125 =>
  LETV (nu125 (61 + vk.toNatClampNeg) 8 : Int32) fun y138 =>
  LETV (y138 + 1 : Int32) fun t139 =>
  LETV (va_up nu125 (61 + vk.toNatClampNeg) (upd (nu125 (61 + vk.toNatClampNeg)) 8 t139) : Nat → Nat → Int32) fun nu140 =>
  LETV (nu140 (61 + vk.toNatClampNeg) 1 : Int32) fun y154 =>
  if vx = y154 then (
    LETV (va_up nu140 (61 + vk.toNatClampNeg) (upd (nu140 (61 + vk.toNatClampNeg)) 9 1) : Nat → Nat → Int32) fun nu172 =>
    ((r2 : Int32), nu172)
  ) else (
    LETV (va_up nu140 (61 + vk.toNatClampNeg) (upd (nu140 (61 + vk.toNatClampNeg)) 9 0) : Nat → Nat → Int32) fun nu156 =>
    ((r2 : Int32), nu156)
  )
