set_option maxHeartbeats 4000000 in
set_option maxRecDepth 100000 in
/-- sx_F_arrive -/
theorem sx_F_arrive (l : Launch) (dC : Nat → ClassId) (dI : Nat → Nat → Nat) (cs : Nat → ClassId) (ad : Nat → Nat) (mu : Nat → Nat → Int32) (ok : okR loX hiX mu) (H : Heap) (hP : va_P (dC, dI) vwCl (wR 157 ad (EX cs ad) mu) H) (hD0 : va_D (fun _ => True) (wR 157 ad (EX cs ad) mu)) (vx : Int32) (vs : Int32) (vu : Int32) (hin0 : 0 ≤ vs.toInt ∧ vs.toInt ≤ 6) : Met l yX1_arrive (wU yX1_arrive cX1_arrive 4 none) ({ frames := 1, cells := 0, slots := 0, locals := 60 }) (va_Pc [.ref (ad 33), .int vx, .int vs, .int vu] (sz_P (dC, dI) vwCl (tyW cs) H)) (va_Qv (fun (xi : Nat → Nat → Int32) => okR loX hiX xi ∧ (True) ∧ (∀ k : Nat, 8 ≤ k → k < 14 → xi k = mu k) ∧ (∀ k f : Nat, Nat.testBit 510 (gpX k f) = true → xi k f = mu k f)) (fun xi t => va_P (dC, dI) vwCl (wR 157 ad (EX cs ad) xi) t.heap) (va_A (wR 157 ad (EX cs ad) mu) H.size)) 0 0 (va_A (wR 157 ad (EX cs ad) mu) H.size) := by
  refine Met.ofW (cc := cX1_arrive) (maxL := 4) (ret := none) (by decide) rfl ?_
  intro p e s m args below meth c s₁ B hml hv
  obtain ⟨rfl, hh, hK, hz⟩ := hv
  have hx := B.exec
  have hb := B.bytes
  have hr := B.returns
  have hts := atoms_spec (ws := (wU yX1_arrive cX1_arrive 4 none)) B.pre
  have hown : s.vm.findClass RX1 = some m.cls := findClass_of_methodNamed B.named
  have hlocks := B.notSynchronized
  subst hh
  have hD := hD0.self (sz := s.heap.size)
  have hA : ∀ q : Nat, s.heap.size ≤ q → (va_A (wR 157 ad (EX cs ad) mu) s.heap.size) q := fun q h => Or.inr h
  have hS : va_S (va_A (wR 157 ad (EX cs ad) mu) s.heap.size) s.heap s.heap [] := va_S.rf
  have hl := lv_entry ([.ref (ad 33), .int vx, .int vs, .int vu]) (n := 4) (Nat.le_of_ble_eq_true rfl)
  rw [lg_entry_eq]
  generalize (lg_sl ([.ref (ad 33), .int vx, .int vs, .int vu]) ++ List.replicate (4 - (lg_sl ([.ref (ad 33), .int vx, .int vs, .int vu])).length) Slot.unset).toArray = ls at hl ⊢
  have hl : lv_has ls 4 [(0, .ref (ad 33)), (1, .int vx), (2, .int vs), (3, .int vu)] := hl
  refine lv_aload_n hx hb dX1_arrive_0 rfl (lv_at hl 0 rfl) ?_
  refine va_get (D := (dC, dI)) (ci := 1) (v := .int (mu 33 2)) (C := RX1) (T := TX1) (N := 5) hx hb hts inG1 hown hK hP 33 (gX_33 cs ad mu) rfl 2 (by decide) (hts _ (List.mem_cons_of_mem _ mw_2_107)) (fun _ h9 => h9) rfl dX1_arrive_1 ?_
  refine lv_topi (fun y1 ey1 => ?_)
  have by1 : y1.toInt = (mu 33 2).toInt := congrArg Int32.toInt ey1
  refine lv_if_ne (tgt := 23) hx hb dX1_arrive_4 (by decide) (fun c_2 => ?_) (fun c_2 => ?_)
  · have c_2 : ¬ y1.toInt = 0 := il_ne c_2
    refine lv_aload_n hx hb dX1_arrive_23 rfl (lv_at hl 0 rfl) ?_
    refine lv_dup hx hb dX1_arrive_24 rfl ?_
    refine va_get (D := (dC, dI)) (ci := 1) (v := .int (mu 33 2)) (C := RX1) (T := TX1) (N := 5) hx hb hts inG1 hown hK hP 33 (gX_33 cs ad mu) rfl 2 (by decide) (hts _ (List.mem_cons_of_mem _ mw_2_107)) (fun _ h9 => h9) rfl dX1_arrive_25 ?_
    refine lq_i y1 ey1.symm ?_
    refine lv_iconst (v := 1) hx hb dX1_arrive_28 (by decide) ?_
    refine lv_iadd hx hb dX1_arrive_29 ?_
    refine lv_topi (fun t3 et3 => ?_)
    refine va_put (D := (dC, dI)) (ci := 1) (v := .int t3) (ty := .int) (C := RX1) (T := TX1) (N := 5) hx hb hts inG1 tyX1 tyX1_ok nmX1 hown hK hP (wR_D mu hD) hS 33 (gX_33 cs ad mu) rfl 2 (by decide) (hts _ (List.mem_cons_of_mem _ mw_2_107)) (fun _ h9 => h9) rfl (by decide +kernel) rfl rfl (Nat.le_of_ble_eq_true rfl) dX1_arrive_30 (fun H locs hP _ hS => ?_)
    simp only [List.set_cons_succ, List.set_cons_zero] at hP
    refine wr_gen (upd (mu 33) 2 t3) hP ((hX_33_2 cs ad _ _)) (fun nu4 hn4 hP => ?_)
    have ok := tX_33_2 ok hn4
    have kp5 : ∀ k : Nat, 8 ≤ k → k < 14 → nu4 k = mu k := fun k h1 h2 => (up_k hn4 (ne_hi (by decide) h2).symm).trans ((fun _ _ _ => rfl) k h1 h2)
    have kp6 : (∀ k f : Nat, Nat.testBit 510 (gpX k f) = true → nu4 k f = mu k f) := kp_c 0 hn4 (fun _ => rfl) (by decide) (fun _ _ _ => rfl)
    have ez7 : t3 = nu4 33 2 := up_v hn4
    refine lv_aload_n hx hb dX1_arrive_33 rfl (lv_at hl 0 rfl) ?_
    refine lv_dup hx hb dX1_arrive_34 rfl ?_
    refine va_get (D := (dC, dI)) (ci := 1) (v := .int (nu4 33 3)) (C := RX1) (T := TX1) (N := 5) hx hb hts inG1 hown hK hP 33 (gX_33 cs ad nu4) rfl 3 (by decide) (hts _ (List.mem_cons_of_mem _ mw_2_109)) (fun _ h9 => h9) rfl dX1_arrive_35 ?_
    refine lv_topi (fun y8 ey8 => ?_)
    have by8 : y8.toInt = (nu4 33 3).toInt := congrArg Int32.toInt ey8
    refine lv_iconst (v := 1) hx hb dX1_arrive_38 (by decide) ?_
    refine lv_iload_n hx hb dX1_arrive_39 rfl (lv_at hl 1 rfl) ?_
    refine lv_ishl hx hb dX1_arrive_40 ?_
    refine lv_topi (fun t9 et9 => ?_)
    refine lv_ior hx hb dX1_arrive_41 ?_
    refine lv_topi (fun t10 et10 => ?_)
    refine va_put (D := (dC, dI)) (ci := 1) (v := .int t10) (ty := .int) (C := RX1) (T := TX1) (N := 5) hx hb hts inG1 tyX1 tyX1_ok nmX1 hown hK hP (wR_D nu4 hD) hS 33 (gX_33 cs ad nu4) rfl 3 (by decide) (hts _ (List.mem_cons_of_mem _ mw_2_109)) (fun _ h9 => h9) rfl (by decide +kernel) rfl rfl (Nat.le_of_ble_eq_true rfl) dX1_arrive_42 (fun H locs hP _ hS => ?_)
    simp only [List.set_cons_succ, List.set_cons_zero] at hP
    refine wr_gen (upd (nu4 33) 3 t10) hP ((hX_33_3 cs ad _ _)) (fun nu11 hn11 hP => ?_)
    have ok := tX_33_3 ok hn11
    have ez12 : t3 = nu11 33 2 := ez7.trans (up_f hn11 (by decide)).symm
    have kp13 : ∀ k : Nat, 8 ≤ k → k < 14 → nu11 k = mu k := fun k h1 h2 => (up_k hn11 (ne_hi (by decide) h2).symm).trans (kp5 k h1 h2)
    have kp14 : (∀ k f : Nat, Nat.testBit 510 (gpX k f) = true → nu11 k f = mu k f) := kp_c 0 hn11 (fun _ => rfl) (by decide) kp6
    have ez15 : t10 = nu11 33 3 := up_v hn11
    refine lv_aload_n hx hb dX1_arrive_45 rfl (lv_at hl 0 rfl) ?_
    refine lv_dup hx hb dX1_arrive_46 rfl ?_
    refine va_get (D := (dC, dI)) (ci := 1) (v := .int (nu11 33 4)) (C := RX1) (T := TX1) (N := 5) hx hb hts inG1 hown hK hP 33 (gX_33 cs ad nu11) rfl 4 (by decide) (hts _ (List.mem_cons_of_mem _ mw_2_111)) (fun _ h9 => h9) rfl dX1_arrive_47 ?_
    refine lv_topi (fun y16 ey16 => ?_)
    have by16 : y16.toInt = (nu11 33 4).toInt := congrArg Int32.toInt ey16
    refine lv_iload_n hx hb dX1_arrive_50 rfl (lv_at hl 3 rfl) ?_
    refine lv_iand hx hb dX1_arrive_51 ?_
    refine lv_topi (fun t17 et17 => ?_)
    refine va_put (D := (dC, dI)) (ci := 1) (v := .int t17) (ty := .int) (C := RX1) (T := TX1) (N := 5) hx hb hts inG1 tyX1 tyX1_ok nmX1 hown hK hP (wR_D nu11 hD) hS 33 (gX_33 cs ad nu11) rfl 4 (by decide) (hts _ (List.mem_cons_of_mem _ mw_2_111)) (fun _ h9 => h9) rfl (by decide +kernel) rfl rfl (Nat.le_of_ble_eq_true rfl) dX1_arrive_52 (fun H locs hP _ hS => ?_)
    simp only [List.set_cons_succ, List.set_cons_zero] at hP
    refine wr_gen (upd (nu11 33) 4 t17) hP ((hX_33_4 cs ad _ _)) (fun nu18 hn18 hP => ?_)
    have ok := tX_33_4 ok hn18
    have ez19 : t3 = nu18 33 2 := ez12.trans (up_f hn18 (by decide)).symm
    have ez20 : t10 = nu18 33 3 := ez15.trans (up_f hn18 (by decide)).symm
    have kp21 : ∀ k : Nat, 8 ≤ k → k < 14 → nu18 k = mu k := fun k h1 h2 => (up_k hn18 (ne_hi (by decide) h2).symm).trans (kp13 k h1 h2)
    have kp22 : (∀ k f : Nat, Nat.testBit 510 (gpX k f) = true → nu18 k f = mu k f) := kp_c 0 hn18 (fun _ => rfl) (by decide) kp14
    have ez23 : t17 = nu18 33 4 := up_v hn18
    exact W.vret hx hb hr (fun t ht hW => ⟨⟨nu18, rfl, ⟨ok, trivial, kp21, kp22⟩, by first | (subst ht; exact hP) | (rw [ht]; exact hP) | (show va_P (dC, dI) vwCl (wR 157 ad (EX cs ad) nu18) t.heap; rw [ht]; exact hP)⟩, hS.F ht⟩) hS.2.2 dX1_arrive_55
  · have c_2 : y1.toInt = 0 := il_eq c_2
    refine lv_aload_n hx hb dX1_arrive_7 rfl (lv_at hl 0 rfl) ?_
    refine va_get (D := (dC, dI)) (ci := 1) (v := .ref (ad 59)) (C := RX1) (T := TX1) (N := 5) hx hb hts inG1 hown hK hP 33 (gX_33 cs ad mu) rfl 0 (by decide) (hts _ (List.mem_cons_of_mem _ mw_2_104)) (fun _ h9 => h9) rfl dX1_arrive_8 ?_
    refine lv_iconst (v := 0) hx hb dX1_arrive_11 (by decide) ?_
    refine lv_aload_n hx hb dX1_arrive_12 rfl (lv_at hl 0 rfl) ?_
    refine va_get (D := (dC, dI)) (ci := 1) (v := .ref (ad 60)) (C := RX1) (T := TX1) (N := 5) hx hb hts inG1 hown hK hP 33 (gX_33 cs ad mu) rfl 1 (by decide) (hts _ (List.mem_cons_of_mem _ mw_2_105)) (fun _ h9 => h9) rfl dX1_arrive_13 ?_
    refine lv_iconst (v := 0) hx hb dX1_arrive_16 (by decide) ?_
    refine lv_iload_n hx hb dX1_arrive_17 rfl (lv_at hl 2 rfl) ?_
    refine lv_iconst (v := 1) hx hb dX1_arrive_18 (by decide) ?_
    refine lv_iadd hx hb dX1_arrive_19 ?_
    refine lv_topi (fun t24 et24 => ?_)
    have at24 : t24.toInt = vs.toInt + 1 := by rw [et24]; exact va1 (by omega)
    refine va_copyi hx hb (hml.trans hl.1.symm) hown (hts _ (List.mem_cons_of_mem _ mw_4_175)) (hts _ (List.mem_cons_of_mem _ mw_3_4)) (hts _ (List.mem_cons_of_mem _ mw_3_3)) (hts _ (List.mem_cons_of_mem _ mw_1_15)) hK hP (wR_D mu hD) hS 59 60 0 0 (gX_59 cs ad mu) (gX_60 cs ad mu) rfl rfl rfl (by decide) (by decide) (nlt_of (by omega)) (by have ua : ((0 : Int32).toNatClampNeg : Int) = 0 := rfl; have ub : ((0 : Int32).toNatClampNeg : Int) = 0 := rfl; have uc : ((t24 : Int32).toNatClampNeg : Int) = t24.toInt := tC_of (by omega); omega) (by have ua : ((0 : Int32).toNatClampNeg : Int) = 0 := rfl; have ub : ((0 : Int32).toNatClampNeg : Int) = 0 := rfl; have uc : ((t24 : Int32).toNatClampNeg : Int) = t24.toInt := tC_of (by omega); omega) (fun _ _ => rfl) (Nat.le_of_ble_eq_true rfl) (Nat.le_of_ble_eq_true rfl) dX1_arrive_20 (fun H locs hP _ hS => ?_)
    refine wr_gen (va_cpy (mu 59) (mu 60) (0 : Int32).toNatClampNeg (0 : Int32).toNatClampNeg (t24 : Int32).toNatClampNeg) hP (rfl) (fun nu25 hn25 hP => ?_)
    have ok := okR_cp ok hn25 (cX_59_60  )
    have ez26 : y1 = nu25 33 2 := ey1.trans (congrFun (up_k hn25 (by decide)) 2).symm
    have kp27 : ∀ k : Nat, 8 ≤ k → k < 14 → nu25 k = mu k := fun k h1 h2 => (up_k hn25 (ne_hi (by decide) h2).symm).trans ((fun _ _ _ => rfl) k h1 h2)
    have kp28 : (∀ k f : Nat, Nat.testBit 510 (gpX k f) = true → nu25 k f = mu k f) := kp_c 0 hn25 (fun _ => rfl) (by decide) (fun _ _ _ => rfl)
    refine lv_aload_n hx hb dX1_arrive_23 rfl (lv_at hl 0 rfl) ?_
    refine lv_dup hx hb dX1_arrive_24 rfl ?_
    refine va_get (D := (dC, dI)) (ci := 1) (v := .int (nu25 33 2)) (C := RX1) (T := TX1) (N := 5) hx hb hts inG1 hown hK hP 33 (gX_33 cs ad nu25) rfl 2 (by decide) (hts _ (List.mem_cons_of_mem _ mw_2_107)) (fun _ h9 => h9) rfl dX1_arrive_25 ?_
    refine lq_i y1 ez26.symm ?_
    refine lv_iconst (v := 1) hx hb dX1_arrive_28 (by decide) ?_
    refine lv_iadd hx hb dX1_arrive_29 ?_
    refine lv_topi (fun t29 et29 => ?_)
    have at29 : t29.toInt = y1.toInt + 1 := by rw [et29]; exact va1 (by omega)
    refine va_put (D := (dC, dI)) (ci := 1) (v := .int t29) (ty := .int) (C := RX1) (T := TX1) (N := 5) hx hb hts inG1 tyX1 tyX1_ok nmX1 hown hK hP (wR_D nu25 hD) hS 33 (gX_33 cs ad nu25) rfl 2 (by decide) (hts _ (List.mem_cons_of_mem _ mw_2_107)) (fun _ h9 => h9) rfl (by decide +kernel) rfl rfl (Nat.le_of_ble_eq_true rfl) dX1_arrive_30 (fun H locs hP _ hS => ?_)
    simp only [List.set_cons_succ, List.set_cons_zero] at hP
    refine wr_gen (upd (nu25 33) 2 t29) hP ((hX_33_2 cs ad _ _)) (fun nu30 hn30 hP => ?_)
    have ok := tX_33_2 ok hn30
    have kp31 : ∀ k : Nat, 8 ≤ k → k < 14 → nu30 k = mu k := fun k h1 h2 => (up_k hn30 (ne_hi (by decide) h2).symm).trans (kp27 k h1 h2)
    have kp32 : (∀ k f : Nat, Nat.testBit 510 (gpX k f) = true → nu30 k f = mu k f) := kp_c 0 hn30 (fun _ => rfl) (by decide) kp28
    have ez33 : t29 = nu30 33 2 := up_v hn30
    refine lv_aload_n hx hb dX1_arrive_33 rfl (lv_at hl 0 rfl) ?_
    refine lv_dup hx hb dX1_arrive_34 rfl ?_
    refine va_get (D := (dC, dI)) (ci := 1) (v := .int (nu30 33 3)) (C := RX1) (T := TX1) (N := 5) hx hb hts inG1 hown hK hP 33 (gX_33 cs ad nu30) rfl 3 (by decide) (hts _ (List.mem_cons_of_mem _ mw_2_109)) (fun _ h9 => h9) rfl dX1_arrive_35 ?_
    refine lv_topi (fun y34 ey34 => ?_)
    have by34 : y34.toInt = (nu30 33 3).toInt := congrArg Int32.toInt ey34
    refine lv_iconst (v := 1) hx hb dX1_arrive_38 (by decide) ?_
    refine lv_iload_n hx hb dX1_arrive_39 rfl (lv_at hl 1 rfl) ?_
    refine lv_ishl hx hb dX1_arrive_40 ?_
    refine lv_topi (fun t35 et35 => ?_)
    refine lv_ior hx hb dX1_arrive_41 ?_
    refine lv_topi (fun t36 et36 => ?_)
    refine va_put (D := (dC, dI)) (ci := 1) (v := .int t36) (ty := .int) (C := RX1) (T := TX1) (N := 5) hx hb hts inG1 tyX1 tyX1_ok nmX1 hown hK hP (wR_D nu30 hD) hS 33 (gX_33 cs ad nu30) rfl 3 (by decide) (hts _ (List.mem_cons_of_mem _ mw_2_109)) (fun _ h9 => h9) rfl (by decide +kernel) rfl rfl (Nat.le_of_ble_eq_true rfl) dX1_arrive_42 (fun H locs hP _ hS => ?_)
    simp only [List.set_cons_succ, List.set_cons_zero] at hP
    refine wr_gen (upd (nu30 33) 3 t36) hP ((hX_33_3 cs ad _ _)) (fun nu37 hn37 hP => ?_)
    have ok := tX_33_3 ok hn37
    have ez38 : t29 = nu37 33 2 := ez33.trans (up_f hn37 (by decide)).symm
    have kp39 : ∀ k : Nat, 8 ≤ k → k < 14 → nu37 k = mu k := fun k h1 h2 => (up_k hn37 (ne_hi (by decide) h2).symm).trans (kp31 k h1 h2)
    have kp40 : (∀ k f : Nat, Nat.testBit 510 (gpX k f) = true → nu37 k f = mu k f) := kp_c 0 hn37 (fun _ => rfl) (by decide) kp32
    have ez41 : t36 = nu37 33 3 := up_v hn37
    refine lv_aload_n hx hb dX1_arrive_45 rfl (lv_at hl 0 rfl) ?_
    refine lv_dup hx hb dX1_arrive_46 rfl ?_
    refine va_get (D := (dC, dI)) (ci := 1) (v := .int (nu37 33 4)) (C := RX1) (T := TX1) (N := 5) hx hb hts inG1 hown hK hP 33 (gX_33 cs ad nu37) rfl 4 (by decide) (hts _ (List.mem_cons_of_mem _ mw_2_111)) (fun _ h9 => h9) rfl dX1_arrive_47 ?_
    refine lv_topi (fun y42 ey42 => ?_)
    have by42 : y42.toInt = (nu37 33 4).toInt := congrArg Int32.toInt ey42
    refine lv_iload_n hx hb dX1_arrive_50 rfl (lv_at hl 3 rfl) ?_
    refine lv_iand hx hb dX1_arrive_51 ?_
    refine lv_topi (fun t43 et43 => ?_)
    refine va_put (D := (dC, dI)) (ci := 1) (v := .int t43) (ty := .int) (C := RX1) (T := TX1) (N := 5) hx hb hts inG1 tyX1 tyX1_ok nmX1 hown hK hP (wR_D nu37 hD) hS 33 (gX_33 cs ad nu37) rfl 4 (by decide) (hts _ (List.mem_cons_of_mem _ mw_2_111)) (fun _ h9 => h9) rfl (by decide +kernel) rfl rfl (Nat.le_of_ble_eq_true rfl) dX1_arrive_52 (fun H locs hP _ hS => ?_)
    simp only [List.set_cons_succ, List.set_cons_zero] at hP
    refine wr_gen (upd (nu37 33) 4 t43) hP ((hX_33_4 cs ad _ _)) (fun nu44 hn44 hP => ?_)
    have ok := tX_33_4 ok hn44
    have ez45 : t29 = nu44 33 2 := ez38.trans (up_f hn44 (by decide)).symm
    have ez46 : t36 = nu44 33 3 := ez41.trans (up_f hn44 (by decide)).symm
    have kp47 : ∀ k : Nat, 8 ≤ k → k < 14 → nu44 k = mu k := fun k h1 h2 => (up_k hn44 (ne_hi (by decide) h2).symm).trans (kp39 k h1 h2)
    have kp48 : (∀ k f : Nat, Nat.testBit 510 (gpX k f) = true → nu44 k f = mu k f) := kp_c 0 hn44 (fun _ => rfl) (by decide) kp40
    have ez49 : t43 = nu44 33 4 := up_v hn44
    exact W.vret hx hb hr (fun t ht hW => ⟨⟨nu44, rfl, ⟨ok, trivial, kp47, kp48⟩, by first | (subst ht; exact hP) | (rw [ht]; exact hP) | (show va_P (dC, dI) vwCl (wR 157 ad (EX cs ad) nu44) t.heap; rw [ht]; exact hP)⟩, hS.F ht⟩) hS.2.2 dX1_arrive_55
set_option maxHeartbeats 4000000 in
set_option maxRecDepth 100000 in
/-- sx_fitOn6 -/
theorem sx_fitOn6 (l : Launch) (dC : Nat → ClassId) (dI : Nat → Nat → Nat) (cs : Nat → ClassId) (ad : Nat → Nat) (mu : Nat → Nat → Int32) (ok : okR loX hiX mu) (H : Heap) (hP : va_P (dC, dI) vwCl (wR 157 ad (EX cs ad) mu) H) (hD0 : va_D (fun _ => True) (wR 157 ad (EX cs ad) mu)) (kr : Nat) (h1kr : 8 ≤ kr) (h2kr : kr < 14) (vu : Int32) (vp : Int32) : Met l yX1_fitOn (wU yX1_fitOn cX1_fitOn 10 none) ({ frames := 2, cells := 0, slots := 0, locals := 83 }) (va_Pc [.ref (ad 33), .ref (ad 4), .ref (ad kr), .int 6, .int vu, .int vp] (sz_P (dC, dI) vwCl (tyW cs) H)) (va_Qv (fun (xi : Nat → Nat → Int32) => okR loX hiX xi ∧ (True) ∧ (∀ k : Nat, 8 ≤ k → k < 14 → xi k = mu k) ∧ (∀ k f : Nat, Nat.testBit 510 (gpX k f) = true → xi k f = mu k f)) (fun xi t => va_P (dC, dI) vwCl (wR 157 ad (EX cs ad) xi) t.heap) (va_A (wR 157 ad (EX cs ad) mu) H.size)) 0 0 (va_A (wR 157 ad (EX cs ad) mu) H.size) := by
  refine Met.ofW (cc := cX1_fitOn) (maxL := 10) (ret := none) (by decide) rfl ?_
  intro p e s m args below meth c s₁ B hml hv
  obtain ⟨rfl, hh, hK, hz⟩ := hv
  have hx := B.exec
  have hb := B.bytes
  have hr := B.returns
  have hts := atoms_spec (ws := (wU yX1_fitOn cX1_fitOn 10 none)) B.pre
  have hown : s.vm.findClass RX1 = some m.cls := findClass_of_methodNamed B.named
  have hlocks := B.notSynchronized
  subst hh
  have hD := hD0.self (sz := s.heap.size)
  have hA : ∀ q : Nat, s.heap.size ≤ q → (va_A (wR 157 ad (EX cs ad) mu) s.heap.size) q := fun q h => Or.inr h
  have hS : va_S (va_A (wR 157 ad (EX cs ad) mu) s.heap.size) s.heap s.heap [] := va_S.rf
  have hl := lv_entry ([.ref (ad 33), .ref (ad 4), .ref (ad kr), .int 6, .int vu, .int vp]) (n := 10) (Nat.le_of_ble_eq_true rfl)
  rw [lg_entry_eq]
  generalize (lg_sl ([.ref (ad 33), .ref (ad 4), .ref (ad kr), .int 6, .int vu, .int vp]) ++ List.replicate (10 - (lg_sl ([.ref (ad 33), .ref (ad 4), .ref (ad kr), .int 6, .int vu, .int vp])).length) Slot.unset).toArray = ls at hl ⊢
  have hl : lv_has ls 10 [(0, .ref (ad 33)), (1, .ref (ad 4)), (2, .ref (ad kr)), (3, .int 6), (4, .int vu), (5, .int vp)] := hl
  refine lv_aload_n hx hb dX1_fitOn_0 rfl (lv_at hl 0 rfl) ?_
  refine va_get (D := (dC, dI)) (ci := 1) (v := .ref (ad 59)) (C := RX1) (T := TX1) (N := 5) hx hb hts inG1 hown hK hP 33 (gX_33 cs ad mu) rfl 0 (by decide) (hts _ (List.mem_cons_of_mem _ mw_2_104)) (fun _ h9 => h9) rfl dX1_fitOn_1 ?_
  refine lv_iload_n hx hb dX1_fitOn_4 rfl (lv_at hl 3 rfl) ?_
  refine va_iald hx hb hK hP 59 0 (gX_59 cs ad mu) rfl (show vp_in 6 7 from (by unfold vp_in; decide)) dX1_fitOn_5 ?_
  refine lv_topi (fun y1 ey1 => ?_)
  have by1 : y1.toInt = (mu 59 (6 : Int32).toNatClampNeg).toInt := congrArg Int32.toInt ey1
  have gy1 : 0 ≤ y1.toInt ∧ y1.toInt ≤ 6 := by rw [ey1]; exact rX_59_s ok (6 : Int32).toNatClampNeg
  refine lv_istore (lv' := [(6, .int y1), (0, .ref (ad 33)), (1, .ref (ad 4)), (2, .ref (ad kr)), (3, .int 6), (4, .int vu), (5, .int vp)]) hx hb dX1_fitOn_6 hl (by decide) rfl (fun ls hl => ?_)
  refine lv_iload_n hx hb dX1_fitOn_8 rfl (lv_at hl 4 rfl) ?_
  refine lv_aload_n hx hb dX1_fitOn_9 rfl (lv_at hl 3 rfl) ?_
  refine va_get (D := (dC, dI)) (ci := 6) (v := .int (mu kr 1)) (C := RX6) (T := TX6) (N := 2) hx hb hts inG6 hown hK hP kr (gX_row cs ad mu kr h1kr h2kr) rfl 1 (by decide) (hts _ (List.mem_cons_of_mem _ mw_2_133)) (fun _ h9 => h9) rfl dX1_fitOn_10 ?_
  refine lv_topi (fun y2 ey2 => ?_)
  have by2 : y2.toInt = (mu kr 1).toInt := congrArg Int32.toInt ey2
  have gy2 : -1 ≤ y2.toInt ∧ y2.toInt ≤ 40 := by rw [ey2]; exact rX_row_1 ok kr h1kr h2kr
  refine lv_icmp_lt (tgt := 26) hx hb dX1_fitOn_13 (by decide) (fun c_3 => ?_) (fun c_3 => ?_)
  · have c_3 : 6 < y2.toInt := il_lt c_3
    refine lv_aload_n hx hb dX1_fitOn_26 rfl (lv_at hl 2 rfl) ?_
    refine va_get (D := (dC, dI)) (ci := 10) (v := .ref (ad 34)) (C := RX10) (T := TX10) (N := 8) hx hb hts inG10 hown hK hP 4 (gX_4 cs ad mu) rfl 0 (by decide) (hts _ (List.mem_cons_of_mem _ mw_1_144)) (fun _ h9 => h9) rfl dX1_fitOn_27 ?_
    refine lv_iload hx hb dX1_fitOn_30 (lv_at hl 0 rfl) ?_
    refine va_iald hx hb hK hP 34 0 (gX_34 cs ad mu) rfl (show vp_in y1 7 from vi_of (by omega) (by omega)) dX1_fitOn_32 ?_
    refine lv_topi (fun y4 ey4 => ?_)
    have by4 : y4.toInt = (mu 34 y1.toNatClampNeg).toInt := congrArg Int32.toInt ey4
    refine lv_iconst (v := 3) hx hb dX1_fitOn_33 (by decide) ?_
    refine lv_icmp_eq (tgt := 58) hx hb dX1_fitOn_34 (by decide) (fun c_5 => ?_) (fun c_5 => ?_)
    · have c_5 : y4.toInt = 3 := il_eq c_5
      exact W.vret hx hb hr (fun t ht hW => ⟨⟨mu, rfl, ⟨ok, trivial, (fun _ _ _ => rfl), (fun _ _ _ => rfl)⟩, by first | (subst ht; exact hP) | (rw [ht]; exact hP) | (show va_P (dC, dI) vwCl (wR 157 ad (EX cs ad) mu) t.heap; rw [ht]; exact hP)⟩, hS.F ht⟩) hS.2.2 dX1_fitOn_58
    · have c_5 : ¬ y4.toInt = 3 := il_ne c_5
      refine lv_aload_n hx hb dX1_fitOn_37 rfl (lv_at hl 3 rfl) ?_
      have hk6 : 21 ≤ kr + 13 ∧ kr + 13 < 27 := add_in 13 h1kr h2kr
      refine va_get (D := (dC, dI)) (ci := 6) (v := .ref (ad (kr + 13))) (C := RX6) (T := TX6) (N := 2) hx hb hts inG6 hown hK hP kr (gX_row cs ad mu kr h1kr h2kr) rfl 0 (by decide) (hts _ (List.mem_cons_of_mem _ mw_2_131)) (fun _ h9 => h9) rfl dX1_fitOn_38 ?_
      refine lv_iload_n hx hb dX1_fitOn_41 rfl (lv_at hl 4 rfl) ?_
      refine va_iald hx hb hK hP (kr + 13) 0 (gX_places cs ad mu (kr + 13) hk6.1 hk6.2) rfl (show vp_in 6 40 from (by unfold vp_in; decide)) dX1_fitOn_42 ?_
      refine lv_topi (fun y7 ey7 => ?_)
      have by7 : y7.toInt = (mu (kr + 13) (6 : Int32).toNatClampNeg).toInt := congrArg Int32.toInt ey7
      refine lv_aload_n hx hb dX1_fitOn_43 rfl (lv_at hl 2 rfl) ?_
      refine va_get (D := (dC, dI)) (ci := 10) (v := .ref (ad 34)) (C := RX10) (T := TX10) (N := 8) hx hb hts inG10 hown hK hP 4 (gX_4 cs ad mu) rfl 0 (by decide) (hts _ (List.mem_cons_of_mem _ mw_1_144)) (fun _ h9 => h9) rfl dX1_fitOn_44 ?_
      refine lv_iload hx hb dX1_fitOn_47 (lv_at hl 0 rfl) ?_
      refine va_iald hx hb hK hP 34 0 (gX_34 cs ad mu) rfl (show vp_in y1 7 from vi_of (by omega) (by omega)) dX1_fitOn_49 ?_
      refine lq_i y4 ey4.symm ?_
      refine lv_iload hx hb dX1_fitOn_50 (lv_at hl 6 rfl) ?_
      refine cr_i (va_runSN (As := [.int y4, .int vp]) (rest := [.int y7]) ⟨hx, hb, hml, hown, hts⟩ (sx_priceAsked l dC dI (tyW cs) s.heap y4 vp) ⟨va_cnB 2 hts (wU_in mw_3_107) rfl rfl rfl (hz.1) (hts _ (List.mem_cons_of_mem _ mw_1_1)) (by decide +kernel) ⟨Nat.le_of_ble_eq_true rfl, Nat.le_of_ble_eq_true rfl⟩, (hts _ (List.mem_cons_of_mem _ mw_3_106)), trivial⟩ ⟨sz_c, sz_m hK hz⟩ rfl rfl hl.1 rfl (lv_room (Nat.le_of_ble_eq_true rfl)) dX1_fitOn_52 ⟨Nat.zero_le _, Nat.zero_le _⟩) hS (fun r8 hw8 locs hS => ?_)
      obtain ⟨hfe8, hw8⟩ := hw8
      refine lv_icmp_eq (tgt := 59) hx hb dX1_fitOn_55 (by decide) (fun c_9 => ?_) (fun c_9 => ?_)
      · have c_9 : y7.toInt = r8.toInt := il_eq c_9
        refine lv_aload_n hx hb dX1_fitOn_59 rfl (lv_at hl 2 rfl) ?_
        refine lv_iload hx hb dX1_fitOn_60 (lv_at hl 0 rfl) ?_
        refine lv_aload_n hx hb dX1_fitOn_62 rfl (lv_at hl 2 rfl) ?_
        refine va_get (D := (dC, dI)) (ci := 10) (v := .ref (ad 5)) (C := RX10) (T := TX10) (N := 8) hx hb hts inG10 hown hK hP 4 (gX_4 cs ad mu) rfl 3 (by decide) (hts _ (List.mem_cons_of_mem _ mw_1_155)) (fun _ h9 => h9) rfl dX1_fitOn_63 ?_
        refine va_get (D := (dC, dI)) (ci := 8) (v := .int (mu 5 2)) (C := RX8) (T := TX8) (N := 6) hx hb hts inG8 hown hK hP 5 (gX_5 cs ad mu) rfl 2 (by decide) (hts _ (List.mem_cons_of_mem _ mw_1_115)) (fun _ h9 => h9) rfl dX1_fitOn_66 ?_
        refine lv_topi (fun y10 ey10 => ?_)
        have by10 : y10.toInt = (mu 5 2).toInt := congrArg Int32.toInt ey10
        refine cr_i (va_runV (As := [.int y1, .int y10]) (rest := []) ⟨hx, hb, hml, hown, hts⟩ (sx_near l dC dI cs ad mu ok s.heap hP y1 y10) (cwV 2 hts (wU_V mw_3_84 mw_4_177 mw_3_82 mw_3_83 mw_1_2) rfl rfl rfl (by decide +kernel) ⟨Nat.le_of_ble_eq_true rfl, Nat.le_of_ble_eq_true rfl⟩) ⟨sz_c, va_recv hK hP (ci := 10) (q0 := 4) rfl (gX_4 cs ad mu), sz_m hK hz⟩ rfl rfl hl.1 rfl (lv_room (Nat.le_of_ble_eq_true rfl)) dX1_fitOn_69 ⟨Nat.zero_le _, Nat.zero_le _⟩) hS (fun r11 hw11 locs hS => ?_)
        obtain ⟨hfe11, hw11⟩ := hw11
        refine lv_iload hx hb dX1_fitOn_72 (lv_at hl 5 rfl) ?_
        refine lv_iconst (v := (-1)) hx hb dX1_fitOn_74 (by decide) ?_
        refine lv_ixor hx hb dX1_fitOn_75 ?_
        refine lv_topi (fun t12 et12 => ?_)
        refine lv_iand hx hb dX1_fitOn_76 ?_
        refine lv_topi (fun t13 et13 => ?_)
        refine lv_istore (lv' := [(7, .int t13), (6, .int y1), (0, .ref (ad 33)), (1, .ref (ad 4)), (2, .ref (ad kr)), (3, .int 6), (4, .int vu), (5, .int vp)]) hx hb dX1_fitOn_77 hl (by decide) rfl (fun ls hl => ?_)
        refine lv_iload_n hx hb dX1_fitOn_79 rfl (lv_at hl 5 rfl) ?_
        refine lv_iconst (v := 1) hx hb dX1_fitOn_80 (by decide) ?_
        refine lv_iadd hx hb dX1_fitOn_81 ?_
        refine lq_i 7 (by decide) ?_
        refine lv_istore (lv' := [(8, .int 7), (7, .int t13), (6, .int y1), (0, .ref (ad 33)), (1, .ref (ad 4)), (2, .ref (ad kr)), (3, .int 6), (4, .int vu), (5, .int vp)]) hx hb dX1_fitOn_82 hl (by decide) rfl (fun ls hl => ?_)
        refine lv_iconst (v := 0) hx hb dX1_fitOn_84 (by decide) ?_
        refine lv_istore (lv' := [(9, .int 0), (8, .int 7), (7, .int t13), (6, .int y1), (0, .ref (ad 33)), (1, .ref (ad 4)), (2, .ref (ad kr)), (3, .int 6), (4, .int vu), (5, .int vp)]) hx hb dX1_fitOn_85 hl (by decide) rfl (fun ls hl => ?_)
        have loop87 : ∀ (n87 : Nat) (v9_87 : Int32) (nu87_ : Nat → Nat → Int32) (H : Heap) (locs : List Loc) (ls : Array Slot), (7 + 1 - v9_87.toInt).toNat < n87 → (0 ≤ v9_87.toInt ∧ v9_87.toInt ≤ 7) → okR loX hiX nu87_ → va_P (dC, dI) vwCl (wR 157 ad (EX cs ad) nu87_) H → (∀ k : Nat, 8 ≤ k → k < 14 → nu87_ k = mu k) → (∀ k f : Nat, Nat.testBit 510 (gpX k f) = true → nu87_ k f = mu k f) → va_S (va_A (wR 157 ad (EX cs ad) mu) s.heap.size) s.heap H locs → lv_has ls 10 [(9, .int v9_87), (8, .int 7), (7, .int t13), (6, .int y1), (0, .ref (ad 33)), (1, .ref (ad 4)), (2, .ref (ad kr)), (3, .int 6), (4, .int vu), (5, .int vp)] → W p l e (headSpec (wU yX1_fitOn cX1_fitOn 10 none) ({ frames := 2, cells := 0, slots := 0, locals := 83 })).room s m ([.ref (ad 33), .ref (ad 4), .ref (ad kr), .int 6, .int vu, .int vp] : List Value).toArray below meth c H locs 0 0 (MQ below (va_Qv (fun (xi : Nat → Nat → Int32) => okR loX hiX xi ∧ (True) ∧ (∀ k : Nat, 8 ≤ k → k < 14 → xi k = mu k) ∧ (∀ k f : Nat, Nat.testBit 510 (gpX k f) = true → xi k f = mu k f)) (fun xi t => va_P (dC, dI) vwCl (wR 157 ad (EX cs ad) xi) t.heap) (va_A (wR 157 ad (EX cs ad) mu) s.heap.size)) ([.ref (ad 33), .ref (ad 4), .ref (ad kr), .int 6, .int vu, .int vp] : List Value).toArray s 0 0 (va_A (wR 157 ad (EX cs ad) mu) s.heap.size)) (F0 m 87 ls []) := by
          intro n87
          induction n87 with
          | zero => intro v9_87 nu87_ H locs ls hm; exact absurd hm (Nat.not_lt_zero _)
          | succ n87 ih87 =>
            intro v9_87 nu87_ H locs ls hm_87 h_v9_87 ok hP kq87_0 kq87_1 hS hl
            refine lv_iload hx hb dX1_fitOn_87 (lv_at hl 0 rfl) ?_
            refine lv_aload_n hx hb dX1_fitOn_89 rfl (lv_at hl 5 rfl) ?_
            refine va_get (D := (dC, dI)) (ci := 10) (v := .int (nu87_ 4 6)) (C := RX10) (T := TX10) (N := 8) hx hb hts inG10 hown hK hP 4 (gX_4 cs ad nu87_) rfl 6 (by decide) (hts _ (List.mem_cons_of_mem _ mw_1_161)) (fun _ h9 => h9) rfl dX1_fitOn_90 ?_
            refine lv_topi (fun y14 ey14 => ?_)
            have by14 : y14.toInt = (nu87_ 4 6).toInt := congrArg Int32.toInt ey14
            have gy14 : 0 ≤ y14.toInt ∧ y14.toInt ≤ 7 := by rw [ey14]; exact rX_4_6 ok
            refine lv_icmp_ge (tgt := 149) hx hb dX1_fitOn_93 (by decide) (fun c_15 => ?_) (fun c_15 => ?_)
            · have c_15 : y14.toInt ≤ v9_87.toInt := il_le c_15
              exact W.vret hx hb hr (fun t ht hW => ⟨⟨nu87_, rfl, ⟨ok, trivial, kq87_0, kq87_1⟩, by first | (subst ht; exact hP) | (rw [ht]; exact hP) | (show va_P (dC, dI) vwCl (wR 157 ad (EX cs ad) nu87_) t.heap; rw [ht]; exact hP)⟩, hS.F ht⟩) hS.2.2 dX1_fitOn_149
            · have c_15 : v9_87.toInt < y14.toInt := il_nle c_15
              refine lv_iload hx hb dX1_fitOn_96 (lv_at hl 1 rfl) ?_
              refine lv_bipush (v := 7) hx hb dX1_fitOn_98 (by decide) ?_
              refine lv_icmp_ge (tgt := 149) hx hb dX1_fitOn_100 (by decide) (fun _ => ?_) (fun c => absurd (by decide) c)
              exact W.vret hx hb hr (fun t ht hW => ⟨⟨nu87_, rfl, ⟨ok, trivial, kq87_0, kq87_1⟩, by first | (subst ht; exact hP) | (rw [ht]; exact hP) | (show va_P (dC, dI) vwCl (wR 157 ad (EX cs ad) nu87_) t.heap; rw [ht]; exact hP)⟩, hS.F ht⟩) hS.2.2 dX1_fitOn_149
        exact loop87 ((7 + 1 - (0 : Int32).toInt).toNat + 1) (0) mu _ _ _ (Nat.lt_succ_self _) (by have h80 : (0 : Int32).toInt = 0 := rfl; exact ⟨by omega, by omega⟩)  ok hP  (fun _ _ _ => rfl) (fun _ _ _ => rfl) hS hl
      · have c_9 : ¬ y7.toInt = r8.toInt := il_ne c_9
        exact W.vret hx hb hr (fun t ht hW => ⟨⟨mu, rfl, ⟨ok, trivial, (fun _ _ _ => rfl), (fun _ _ _ => rfl)⟩, by first | (subst ht; exact hP) | (rw [ht]; exact hP) | (show va_P (dC, dI) vwCl (wR 157 ad (EX cs ad) mu) t.heap; rw [ht]; exact hP)⟩, hS.F ht⟩) hS.2.2 dX1_fitOn_58
  · have c_3 : y2.toInt ≤ 6 := il_nlt c_3
    refine lv_aload_n hx hb dX1_fitOn_16 rfl (lv_at hl 1 rfl) ?_
    refine lv_iload hx hb dX1_fitOn_17 (lv_at hl 0 rfl) ?_
    refine lv_iload_n hx hb dX1_fitOn_19 rfl (lv_at hl 4 rfl) ?_
    refine lv_iload hx hb dX1_fitOn_20 (lv_at hl 5 rfl) ?_
    have hFc := fr_all (wR_D mu hD) hS hA
    refine va_callv (va_runV (As := [.int y1, .int 6, .int vu]) (rest := []) ⟨hx, hb, hml, hown, hts⟩ (sx_F_arrive l dC dI cs ad mu ok s.heap hP ((wR_D mu hD).weaken (fun _ _ _ _ => trivial)) y1 6 vu (by have h51 : (6 : Int32).toInt = 6 := rfl; omega)) (cwV 3 hts (wU_V mw_4_174 mw_4_171 mw_4_173 mw_0_22 mw_1_10) rfl rfl rfl (by decide +kernel) ⟨Nat.le_of_ble_eq_true rfl, Nat.le_of_ble_eq_true rfl⟩) ⟨sz_c, va_recv hK hP (ci := 1) (q0 := 33) rfl (gX_33 cs ad mu), sz_m hK hz⟩ rfl rfl hl.1 rfl (lv_room (Nat.le_of_ble_eq_true rfl)) dX1_fitOn_22 ⟨Nat.zero_le _, Nat.zero_le _⟩) hS (fun q _ h => hFc q h) hFc (fun xi16 t H16 locs ht hvm hw16 hB hz1 hk1 hS => ?_)
    have hP : va_P (dC, dI) vwCl (wR 157 ad (EX cs ad) xi16) H16 := by rw [← ht]; exact hB
    obtain ⟨ok, hw16, hkp16_0, hkp16_1⟩ := hw16
    have ez17 : y2 = xi16 kr 1 := ey2.trans (congrFun (hkp16_0 kr (Nat.le_trans (by decide) h1kr) (Nat.lt_of_lt_of_le h2kr (by decide))) 1).symm
    have kp18 : ∀ k : Nat, 8 ≤ k → k < 14 → xi16 k = mu k := fun k h1 h2 => (hkp16_0 k (Nat.le_trans (by decide) h1) (Nat.lt_of_lt_of_le h2 (by decide))).trans ((fun _ _ _ => rfl) k h1 h2)
    have kp19 : (∀ k f : Nat, Nat.testBit 510 (gpX k f) = true → xi16 k f = mu k f) := kp_t hkp16_1 (by decide) (fun _ _ _ => rfl)
    exact W.vret hx hb hr (fun t ht hW => ⟨⟨xi16, rfl, ⟨ok, trivial, kp18, kp19⟩, by first | (subst ht; exact hP) | (rw [ht]; exact hP) | (show va_P (dC, dI) vwCl (wR 157 ad (EX cs ad) xi16) t.heap; rw [ht]; exact hP)⟩, hS.F ht⟩) hS.2.2 dX1_fitOn_25
set_option maxHeartbeats 4000000 in
set_option maxRecDepth 100000 in
/-- sx_fitOn5 -/
theorem sx_fitOn5 (l : Launch) (dC : Nat → ClassId) (dI : Nat → Nat → Nat) (cs : Nat → ClassId) (ad : Nat → Nat) (mu : Nat → Nat → Int32) (ok : okR loX hiX mu) (H : Heap) (hP : va_P (dC, dI) vwCl (wR 157 ad (EX cs ad) mu) H) (hD0 : va_D (fun _ => True) (wR 157 ad (EX cs ad) mu)) (kr : Nat) (h1kr : 8 ≤ kr) (h2kr : kr < 14) (vu : Int32) (vp : Int32) : Met l yX1_fitOn (wU yX1_fitOn cX1_fitOn 10 none) ({ frames := 3, cells := 0, slots := 0, locals := 112 }) (va_Pc [.ref (ad 33), .ref (ad 4), .ref (ad kr), .int 5, .int vu, .int vp] (sz_P (dC, dI) vwCl (tyW cs) H)) (va_Qv (fun (xi : Nat → Nat → Int32) => okR loX hiX xi ∧ (True) ∧ (∀ k : Nat, 8 ≤ k → k < 14 → xi k = mu k) ∧ (∀ k f : Nat, Nat.testBit 510 (gpX k f) = true → xi k f = mu k f)) (fun xi t => va_P (dC, dI) vwCl (wR 157 ad (EX cs ad) xi) t.heap) (va_A (wR 157 ad (EX cs ad) mu) H.size)) 0 0 (va_A (wR 157 ad (EX cs ad) mu) H.size) := by
  refine Met.ofW (cc := cX1_fitOn) (maxL := 10) (ret := none) (by decide) rfl ?_
  intro p e s m args below meth c s₁ B hml hv
  obtain ⟨rfl, hh, hK, hz⟩ := hv
  have hx := B.exec
  have hb := B.bytes
  have hr := B.returns
  have hts := atoms_spec (ws := (wU yX1_fitOn cX1_fitOn 10 none)) B.pre
  have hown : s.vm.findClass RX1 = some m.cls := findClass_of_methodNamed B.named
  have hlocks := B.notSynchronized
  subst hh
  have hD := hD0.self (sz := s.heap.size)
  have hA : ∀ q : Nat, s.heap.size ≤ q → (va_A (wR 157 ad (EX cs ad) mu) s.heap.size) q := fun q h => Or.inr h
  have hS : va_S (va_A (wR 157 ad (EX cs ad) mu) s.heap.size) s.heap s.heap [] := va_S.rf
  have hl := lv_entry ([.ref (ad 33), .ref (ad 4), .ref (ad kr), .int 5, .int vu, .int vp]) (n := 10) (Nat.le_of_ble_eq_true rfl)
  rw [lg_entry_eq]
  generalize (lg_sl ([.ref (ad 33), .ref (ad 4), .ref (ad kr), .int 5, .int vu, .int vp]) ++ List.replicate (10 - (lg_sl ([.ref (ad 33), .ref (ad 4), .ref (ad kr), .int 5, .int vu, .int vp])).length) Slot.unset).toArray = ls at hl ⊢
  have hl : lv_has ls 10 [(0, .ref (ad 33)), (1, .ref (ad 4)), (2, .ref (ad kr)), (3, .int 5), (4, .int vu), (5, .int vp)] := hl
  refine lv_aload_n hx hb dX1_fitOn_0 rfl (lv_at hl 0 rfl) ?_
  refine va_get (D := (dC, dI)) (ci := 1) (v := .ref (ad 59)) (C := RX1) (T := TX1) (N := 5) hx hb hts inG1 hown hK hP 33 (gX_33 cs ad mu) rfl 0 (by decide) (hts _ (List.mem_cons_of_mem _ mw_2_104)) (fun _ h9 => h9) rfl dX1_fitOn_1 ?_
  refine lv_iload_n hx hb dX1_fitOn_4 rfl (lv_at hl 3 rfl) ?_
  refine va_iald hx hb hK hP 59 0 (gX_59 cs ad mu) rfl (show vp_in 5 7 from (by unfold vp_in; decide)) dX1_fitOn_5 ?_
  refine lv_topi (fun y1 ey1 => ?_)
  have by1 : y1.toInt = (mu 59 (5 : Int32).toNatClampNeg).toInt := congrArg Int32.toInt ey1
  have gy1 : 0 ≤ y1.toInt ∧ y1.toInt ≤ 6 := by rw [ey1]; exact rX_59_s ok (5 : Int32).toNatClampNeg
  refine lv_istore (lv' := [(6, .int y1), (0, .ref (ad 33)), (1, .ref (ad 4)), (2, .ref (ad kr)), (3, .int 5), (4, .int vu), (5, .int vp)]) hx hb dX1_fitOn_6 hl (by decide) rfl (fun ls hl => ?_)
  refine lv_iload_n hx hb dX1_fitOn_8 rfl (lv_at hl 4 rfl) ?_
  refine lv_aload_n hx hb dX1_fitOn_9 rfl (lv_at hl 3 rfl) ?_
  refine va_get (D := (dC, dI)) (ci := 6) (v := .int (mu kr 1)) (C := RX6) (T := TX6) (N := 2) hx hb hts inG6 hown hK hP kr (gX_row cs ad mu kr h1kr h2kr) rfl 1 (by decide) (hts _ (List.mem_cons_of_mem _ mw_2_133)) (fun _ h9 => h9) rfl dX1_fitOn_10 ?_
  refine lv_topi (fun y2 ey2 => ?_)
  have by2 : y2.toInt = (mu kr 1).toInt := congrArg Int32.toInt ey2
  have gy2 : -1 ≤ y2.toInt ∧ y2.toInt ≤ 40 := by rw [ey2]; exact rX_row_1 ok kr h1kr h2kr
  refine lv_icmp_lt (tgt := 26) hx hb dX1_fitOn_13 (by decide) (fun c_3 => ?_) (fun c_3 => ?_)
  · have c_3 : 5 < y2.toInt := il_lt c_3
    refine lv_aload_n hx hb dX1_fitOn_26 rfl (lv_at hl 2 rfl) ?_
    refine va_get (D := (dC, dI)) (ci := 10) (v := .ref (ad 34)) (C := RX10) (T := TX10) (N := 8) hx hb hts inG10 hown hK hP 4 (gX_4 cs ad mu) rfl 0 (by decide) (hts _ (List.mem_cons_of_mem _ mw_1_144)) (fun _ h9 => h9) rfl dX1_fitOn_27 ?_
    refine lv_iload hx hb dX1_fitOn_30 (lv_at hl 0 rfl) ?_
    refine va_iald hx hb hK hP 34 0 (gX_34 cs ad mu) rfl (show vp_in y1 7 from vi_of (by omega) (by omega)) dX1_fitOn_32 ?_
    refine lv_topi (fun y4 ey4 => ?_)
    have by4 : y4.toInt = (mu 34 y1.toNatClampNeg).toInt := congrArg Int32.toInt ey4
    refine lv_iconst (v := 3) hx hb dX1_fitOn_33 (by decide) ?_
    refine lv_icmp_eq (tgt := 58) hx hb dX1_fitOn_34 (by decide) (fun c_5 => ?_) (fun c_5 => ?_)
    · have c_5 : y4.toInt = 3 := il_eq c_5
      exact W.vret hx hb hr (fun t ht hW => ⟨⟨mu, rfl, ⟨ok, trivial, (fun _ _ _ => rfl), (fun _ _ _ => rfl)⟩, by first | (subst ht; exact hP) | (rw [ht]; exact hP) | (show va_P (dC, dI) vwCl (wR 157 ad (EX cs ad) mu) t.heap; rw [ht]; exact hP)⟩, hS.F ht⟩) hS.2.2 dX1_fitOn_58
    · have c_5 : ¬ y4.toInt = 3 := il_ne c_5
      refine lv_aload_n hx hb dX1_fitOn_37 rfl (lv_at hl 3 rfl) ?_
      have hk6 : 21 ≤ kr + 13 ∧ kr + 13 < 27 := add_in 13 h1kr h2kr
      refine va_get (D := (dC, dI)) (ci := 6) (v := .ref (ad (kr + 13))) (C := RX6) (T := TX6) (N := 2) hx hb hts inG6 hown hK hP kr (gX_row cs ad mu kr h1kr h2kr) rfl 0 (by decide) (hts _ (List.mem_cons_of_mem _ mw_2_131)) (fun _ h9 => h9) rfl dX1_fitOn_38 ?_
      refine lv_iload_n hx hb dX1_fitOn_41 rfl (lv_at hl 4 rfl) ?_
      refine va_iald hx hb hK hP (kr + 13) 0 (gX_places cs ad mu (kr + 13) hk6.1 hk6.2) rfl (show vp_in 5 40 from (by unfold vp_in; decide)) dX1_fitOn_42 ?_
      refine lv_topi (fun y7 ey7 => ?_)
      have by7 : y7.toInt = (mu (kr + 13) (5 : Int32).toNatClampNeg).toInt := congrArg Int32.toInt ey7
      refine lv_aload_n hx hb dX1_fitOn_43 rfl (lv_at hl 2 rfl) ?_
      refine va_get (D := (dC, dI)) (ci := 10) (v := .ref (ad 34)) (C := RX10) (T := TX10) (N := 8) hx hb hts inG10 hown hK hP 4 (gX_4 cs ad mu) rfl 0 (by decide) (hts _ (List.mem_cons_of_mem _ mw_1_144)) (fun _ h9 => h9) rfl dX1_fitOn_44 ?_
      refine lv_iload hx hb dX1_fitOn_47 (lv_at hl 0 rfl) ?_
      refine va_iald hx hb hK hP 34 0 (gX_34 cs ad mu) rfl (show vp_in y1 7 from vi_of (by omega) (by omega)) dX1_fitOn_49 ?_
      refine lq_i y4 ey4.symm ?_
      refine lv_iload hx hb dX1_fitOn_50 (lv_at hl 6 rfl) ?_
      refine cr_i (va_runSN (As := [.int y4, .int vp]) (rest := [.int y7]) ⟨hx, hb, hml, hown, hts⟩ (sx_priceAsked l dC dI (tyW cs) s.heap y4 vp) ⟨va_cnB 2 hts (wU_in mw_3_107) rfl rfl rfl (hz.1) (hts _ (List.mem_cons_of_mem _ mw_1_1)) (by decide +kernel) ⟨Nat.le_of_ble_eq_true rfl, Nat.le_of_ble_eq_true rfl⟩, (hts _ (List.mem_cons_of_mem _ mw_3_106)), trivial⟩ ⟨sz_c, sz_m hK hz⟩ rfl rfl hl.1 rfl (lv_room (Nat.le_of_ble_eq_true rfl)) dX1_fitOn_52 ⟨Nat.zero_le _, Nat.zero_le _⟩) hS (fun r8 hw8 locs hS => ?_)
      obtain ⟨hfe8, hw8⟩ := hw8
      refine lv_icmp_eq (tgt := 59) hx hb dX1_fitOn_55 (by decide) (fun c_9 => ?_) (fun c_9 => ?_)
      · have c_9 : y7.toInt = r8.toInt := il_eq c_9
        refine lv_aload_n hx hb dX1_fitOn_59 rfl (lv_at hl 2 rfl) ?_
        refine lv_iload hx hb dX1_fitOn_60 (lv_at hl 0 rfl) ?_
        refine lv_aload_n hx hb dX1_fitOn_62 rfl (lv_at hl 2 rfl) ?_
        refine va_get (D := (dC, dI)) (ci := 10) (v := .ref (ad 5)) (C := RX10) (T := TX10) (N := 8) hx hb hts inG10 hown hK hP 4 (gX_4 cs ad mu) rfl 3 (by decide) (hts _ (List.mem_cons_of_mem _ mw_1_155)) (fun _ h9 => h9) rfl dX1_fitOn_63 ?_
        refine va_get (D := (dC, dI)) (ci := 8) (v := .int (mu 5 2)) (C := RX8) (T := TX8) (N := 6) hx hb hts inG8 hown hK hP 5 (gX_5 cs ad mu) rfl 2 (by decide) (hts _ (List.mem_cons_of_mem _ mw_1_115)) (fun _ h9 => h9) rfl dX1_fitOn_66 ?_
        refine lv_topi (fun y10 ey10 => ?_)
        have by10 : y10.toInt = (mu 5 2).toInt := congrArg Int32.toInt ey10
        refine cr_i (va_runV (As := [.int y1, .int y10]) (rest := []) ⟨hx, hb, hml, hown, hts⟩ (sx_near l dC dI cs ad mu ok s.heap hP y1 y10) (cwV 2 hts (wU_V mw_3_84 mw_4_177 mw_3_82 mw_3_83 mw_1_2) rfl rfl rfl (by decide +kernel) ⟨Nat.le_of_ble_eq_true rfl, Nat.le_of_ble_eq_true rfl⟩) ⟨sz_c, va_recv hK hP (ci := 10) (q0 := 4) rfl (gX_4 cs ad mu), sz_m hK hz⟩ rfl rfl hl.1 rfl (lv_room (Nat.le_of_ble_eq_true rfl)) dX1_fitOn_69 ⟨Nat.zero_le _, Nat.zero_le _⟩) hS (fun r11 hw11 locs hS => ?_)
        obtain ⟨hfe11, hw11⟩ := hw11
        refine lv_iload hx hb dX1_fitOn_72 (lv_at hl 5 rfl) ?_
        refine lv_iconst (v := (-1)) hx hb dX1_fitOn_74 (by decide) ?_
        refine lv_ixor hx hb dX1_fitOn_75 ?_
        refine lv_topi (fun t12 et12 => ?_)
        refine lv_iand hx hb dX1_fitOn_76 ?_
        refine lv_topi (fun t13 et13 => ?_)
        refine lv_istore (lv' := [(7, .int t13), (6, .int y1), (0, .ref (ad 33)), (1, .ref (ad 4)), (2, .ref (ad kr)), (3, .int 5), (4, .int vu), (5, .int vp)]) hx hb dX1_fitOn_77 hl (by decide) rfl (fun ls hl => ?_)
        refine lv_iload_n hx hb dX1_fitOn_79 rfl (lv_at hl 5 rfl) ?_
        refine lv_iconst (v := 1) hx hb dX1_fitOn_80 (by decide) ?_
        refine lv_iadd hx hb dX1_fitOn_81 ?_
        refine lq_i 6 (by decide) ?_
        refine lv_istore (lv' := [(8, .int 6), (7, .int t13), (6, .int y1), (0, .ref (ad 33)), (1, .ref (ad 4)), (2, .ref (ad kr)), (3, .int 5), (4, .int vu), (5, .int vp)]) hx hb dX1_fitOn_82 hl (by decide) rfl (fun ls hl => ?_)
        refine lv_iconst (v := 0) hx hb dX1_fitOn_84 (by decide) ?_
        refine lv_istore (lv' := [(9, .int 0), (8, .int 6), (7, .int t13), (6, .int y1), (0, .ref (ad 33)), (1, .ref (ad 4)), (2, .ref (ad kr)), (3, .int 5), (4, .int vu), (5, .int vp)]) hx hb dX1_fitOn_85 hl (by decide) rfl (fun ls hl => ?_)
        have loop87 : ∀ (n87 : Nat) (v9_87 : Int32) (nu87_ : Nat → Nat → Int32) (H : Heap) (locs : List Loc) (ls : Array Slot), (7 + 1 - v9_87.toInt).toNat < n87 → (0 ≤ v9_87.toInt ∧ v9_87.toInt ≤ 7) → okR loX hiX nu87_ → va_P (dC, dI) vwCl (wR 157 ad (EX cs ad) nu87_) H → (∀ k : Nat, 8 ≤ k → k < 14 → nu87_ k = mu k) → (∀ k f : Nat, Nat.testBit 510 (gpX k f) = true → nu87_ k f = mu k f) → va_S (va_A (wR 157 ad (EX cs ad) mu) s.heap.size) s.heap H locs → lv_has ls 10 [(9, .int v9_87), (8, .int 6), (7, .int t13), (6, .int y1), (0, .ref (ad 33)), (1, .ref (ad 4)), (2, .ref (ad kr)), (3, .int 5), (4, .int vu), (5, .int vp)] → W p l e (headSpec (wU yX1_fitOn cX1_fitOn 10 none) ({ frames := 3, cells := 0, slots := 0, locals := 112 })).room s m ([.ref (ad 33), .ref (ad 4), .ref (ad kr), .int 5, .int vu, .int vp] : List Value).toArray below meth c H locs 0 0 (MQ below (va_Qv (fun (xi : Nat → Nat → Int32) => okR loX hiX xi ∧ (True) ∧ (∀ k : Nat, 8 ≤ k → k < 14 → xi k = mu k) ∧ (∀ k f : Nat, Nat.testBit 510 (gpX k f) = true → xi k f = mu k f)) (fun xi t => va_P (dC, dI) vwCl (wR 157 ad (EX cs ad) xi) t.heap) (va_A (wR 157 ad (EX cs ad) mu) s.heap.size)) ([.ref (ad 33), .ref (ad 4), .ref (ad kr), .int 5, .int vu, .int vp] : List Value).toArray s 0 0 (va_A (wR 157 ad (EX cs ad) mu) s.heap.size)) (F0 m 87 ls []) := by
          intro n87
          induction n87 with
          | zero => intro v9_87 nu87_ H locs ls hm; exact absurd hm (Nat.not_lt_zero _)
          | succ n87 ih87 =>
            intro v9_87 nu87_ H locs ls hm_87 h_v9_87 ok hP kq87_0 kq87_1 hS hl
            refine lv_iload hx hb dX1_fitOn_87 (lv_at hl 0 rfl) ?_
            refine lv_aload_n hx hb dX1_fitOn_89 rfl (lv_at hl 5 rfl) ?_
            refine va_get (D := (dC, dI)) (ci := 10) (v := .int (nu87_ 4 6)) (C := RX10) (T := TX10) (N := 8) hx hb hts inG10 hown hK hP 4 (gX_4 cs ad nu87_) rfl 6 (by decide) (hts _ (List.mem_cons_of_mem _ mw_1_161)) (fun _ h9 => h9) rfl dX1_fitOn_90 ?_
            refine lv_topi (fun y14 ey14 => ?_)
            have by14 : y14.toInt = (nu87_ 4 6).toInt := congrArg Int32.toInt ey14
            have gy14 : 0 ≤ y14.toInt ∧ y14.toInt ≤ 7 := by rw [ey14]; exact rX_4_6 ok
            refine lv_icmp_ge (tgt := 149) hx hb dX1_fitOn_93 (by decide) (fun c_15 => ?_) (fun c_15 => ?_)
            · have c_15 : y14.toInt ≤ v9_87.toInt := il_le c_15
              exact W.vret hx hb hr (fun t ht hW => ⟨⟨nu87_, rfl, ⟨ok, trivial, kq87_0, kq87_1⟩, by first | (subst ht; exact hP) | (rw [ht]; exact hP) | (show va_P (dC, dI) vwCl (wR 157 ad (EX cs ad) nu87_) t.heap; rw [ht]; exact hP)⟩, hS.F ht⟩) hS.2.2 dX1_fitOn_149
            · have c_15 : v9_87.toInt < y14.toInt := il_nle c_15
              refine lv_iload hx hb dX1_fitOn_96 (lv_at hl 1 rfl) ?_
              refine lv_bipush (v := 7) hx hb dX1_fitOn_98 (by decide) ?_
              refine lv_icmp_ge (tgt := 149) hx hb dX1_fitOn_100 (by decide) (fun c => absurd c (by decide)) (fun _ => ?_)
              refine lv_iload hx hb dX1_fitOn_103 (lv_at hl 2 rfl) ?_
              refine lv_iload hx hb dX1_fitOn_105 (lv_at hl 0 rfl) ?_
              refine cr_i (va_runSN (As := [.int t13, .int v9_87]) (rest := []) ⟨hx, hb, hml, hown, hts⟩ (sx_hasBit l dC dI (tyW cs) H t13 v9_87) ⟨va_cnB 2 hts (wU_in mw_3_87) rfl rfl rfl (hz.2.1) (hts _ (List.mem_cons_of_mem _ mw_1_1)) (by decide +kernel) ⟨Nat.le_of_ble_eq_true rfl, Nat.le_of_ble_eq_true rfl⟩, (hts _ (List.mem_cons_of_mem _ mw_3_86)), trivial⟩ ⟨sz_c, sz_m hK hz⟩ rfl rfl hl.1 rfl (lv_room (Nat.le_of_ble_eq_true rfl)) dX1_fitOn_107 ⟨Nat.zero_le _, Nat.zero_le _⟩) hS (fun r16 hw16 locs hS => ?_)
              obtain ⟨hfe16, hw16⟩ := hw16
              have gr16 : 0 ≤ r16.toInt ∧ r16.toInt ≤ 1 := hw16
              refine lv_if_eq (tgt := 143) hx hb dX1_fitOn_110 (by decide) (fun c_17 => ?_) (fun c_17 => ?_)
              · have c_17 : r16.toInt = 0 := il_eq c_17
                refine lv_iinc (v := (v9_87 + 1)) (lv' := [(9, .int (v9_87 + 1)), (8, .int 6), (7, .int t13), (6, .int y1), (0, .ref (ad 33)), (1, .ref (ad 4)), (2, .ref (ad kr)), (3, .int 5), (4, .int vu), (5, .int vp)]) hx hb dX1_fitOn_143 hl (k := 0) rfl rfl (by decide) rfl (fun ls hl => ?_)
                refine loc_gen (P := fun w9 => lv_has ls 10 [(9, .int w9), (8, .int 6), (7, .int t13), (6, .int y1), (0, .ref (ad 33)), (1, .ref (ad 4)), (2, .ref (ad kr)), (3, .int 5), (4, .int vu), (5, .int vp)]) (v9_87 + 1) hl (fun w18 hw18 hl => ?_)
                have hl : lv_has ls 10 [(9, .int w18), (8, .int 6), (7, .int t13), (6, .int y1), (0, .ref (ad 33)), (1, .ref (ad 4)), (2, .ref (ad kr)), (3, .int 5), (4, .int vu), (5, .int vp)] := hl
                have aw18 : w18.toInt = v9_87.toInt + 1 := by rw [← hw18]; first | exact va1 (Int.lt_of_le_of_lt h_v9_87.2 (by decide)) | exact va1 (by omega)
                refine lv_goto (tgt := 87) hx hb dX1_fitOn_146 (by decide) ?_
                exact ih87 (w18) nu87_ _ _ _ (by first | exact ms_up hm_87 aw18 h_v9_87.2 | exact ms_lt hm_87 (by omega) (by omega) | omega) (by first | exact rg_up aw18 h_v9_87 (by omega) | omega)  ok hP  kq87_0 kq87_1 hS (lv_sub hl [0, 1, 2, 3, 4, 5, 6, 7, 8, 9] rfl)
              · have c_17 : ¬ r16.toInt = 0 := il_ne c_17
                refine lv_aload_n hx hb dX1_fitOn_113 rfl (lv_at hl 4 rfl) ?_
                refine va_get (D := (dC, dI)) (ci := 1) (v := .ref (ad 59)) (C := RX1) (T := TX1) (N := 5) hx hb hts inG1 hown hK hP 33 (gX_33 cs ad nu87_) rfl 0 (by decide) (hts _ (List.mem_cons_of_mem _ mw_2_104)) (fun _ h9 => h9) rfl dX1_fitOn_114 ?_
                refine lv_iload hx hb dX1_fitOn_117 (lv_at hl 1 rfl) ?_
                refine lv_iload hx hb dX1_fitOn_119 (lv_at hl 0 rfl) ?_
                refine va_iast hx hb hK hP (wR_D nu87_ hD) hS 59 0 (gX_59 cs ad nu87_) rfl (show vp_in 6 7 from (by unfold vp_in; decide)) dX1_fitOn_121 (fun H locs hP _ hS => ?_)
                refine wr_gen (upd (nu87_ 59) (6 : Int32).toNatClampNeg v9_87) hP (rfl) (fun nu19 hn19 hP => ?_)
                have ok := tX_59_s ok (6 : Int32).toNatClampNeg hn19 (by omega)
                have ez20 : y14 = nu19 4 6 := ey14.trans (congrFun (up_k hn19 (by decide)) 6).symm
                have kp21 : ∀ k : Nat, 8 ≤ k → k < 14 → nu19 k = mu k := fun k h1 h2 => (up_k hn19 (ne_hi (by decide) h2).symm).trans (kq87_0 k h1 h2)
                have kp22 : (∀ k f : Nat, Nat.testBit 510 (gpX k f) = true → nu19 k f = mu k f) := kp_c 0 hn19 (fun _ => rfl) (by decide) kq87_1
                refine lv_aload_n hx hb dX1_fitOn_122 rfl (lv_at hl 4 rfl) ?_
                refine lv_aload_n hx hb dX1_fitOn_123 rfl (lv_at hl 5 rfl) ?_
                refine lv_aload_n hx hb dX1_fitOn_124 rfl (lv_at hl 6 rfl) ?_
                refine lv_iload hx hb dX1_fitOn_125 (lv_at hl 1 rfl) ?_
                refine lv_iload hx hb dX1_fitOn_127 (lv_at hl 8 rfl) ?_
                refine lv_iconst (v := 1) hx hb dX1_fitOn_129 (by decide) ?_
                refine lv_iload hx hb dX1_fitOn_130 (lv_at hl 0 rfl) ?_
                refine lv_ishl hx hb dX1_fitOn_132 ?_
                refine lv_topi (fun t23 et23 => ?_)
                refine lv_ior hx hb dX1_fitOn_133 ?_
                refine lv_topi (fun t24 et24 => ?_)
                refine lv_aload_n hx hb dX1_fitOn_134 rfl (lv_at hl 6 rfl) ?_
                have hk25 : 21 ≤ kr + 13 ∧ kr + 13 < 27 := add_in 13 h1kr h2kr
                refine va_get (D := (dC, dI)) (ci := 6) (v := .ref (ad (kr + 13))) (C := RX6) (T := TX6) (N := 2) hx hb hts inG6 hown hK hP kr (gX_row cs ad nu19 kr h1kr h2kr) rfl 0 (by decide) (hts _ (List.mem_cons_of_mem _ mw_2_131)) (fun _ h9 => h9) rfl dX1_fitOn_135 ?_
                refine lv_iload_n hx hb dX1_fitOn_138 rfl (lv_at hl 7 rfl) ?_
                refine va_iald hx hb hK hP (kr + 13) 0 (gX_places cs ad nu19 (kr + 13) hk25.1 hk25.2) rfl (show vp_in 5 40 from (by unfold vp_in; decide)) dX1_fitOn_139 ?_
                refine lv_topi (fun y26 ey26 => ?_)
                have by26 : y26.toInt = (nu19 (kr + 13) (5 : Int32).toNatClampNeg).toInt := congrArg Int32.toInt ey26
                have hFc := fr_all (wR_D nu19 hD) hS hA
                refine va_callv (va_runV (As := [.ref (ad 4), .ref (ad kr), .int 6, .int t24, .int y26]) (rest := []) ⟨hx, hb, hml, hown, hts⟩ (sx_fitOn6 l dC dI cs ad nu19 ok H hP ((wR_D nu19 hD).weaken (fun _ _ _ _ => trivial)) kr h1kr h2kr t24 y26) (cwV 5 hts (wU_V mw_4_170 mw_4_167 mw_4_169 mw_0_21 mw_1_10) rfl rfl rfl (by decide +kernel) ⟨Nat.le_of_ble_eq_true rfl, Nat.le_of_ble_eq_true rfl⟩) ⟨sz_c, va_recv hK hP (ci := 1) (q0 := 33) rfl (gX_33 cs ad nu19), sz_m hK hz⟩ rfl rfl hl.1 rfl (lv_room (Nat.le_of_ble_eq_true rfl)) dX1_fitOn_140 ⟨Nat.zero_le _, Nat.zero_le _⟩) hS (fun q _ h => hFc q h) hFc (fun xi27 t H27 locs ht hvm hw27 hB hz1 hk1 hS => ?_)
                have hP : va_P (dC, dI) vwCl (wR 157 ad (EX cs ad) xi27) H27 := by rw [← ht]; exact hB
                obtain ⟨ok, hw27, hkp27_0, hkp27_1⟩ := hw27
                have kp28 : ∀ k : Nat, 8 ≤ k → k < 14 → xi27 k = mu k := fun k h1 h2 => (hkp27_0 k (Nat.le_trans (by decide) h1) (Nat.lt_of_lt_of_le h2 (by decide))).trans (kp21 k h1 h2)
                have kp29 : (∀ k f : Nat, Nat.testBit 510 (gpX k f) = true → xi27 k f = mu k f) := kp_t hkp27_1 (by decide) kp22
                refine lv_iinc (v := (v9_87 + 1)) (lv' := [(9, .int (v9_87 + 1)), (8, .int 6), (7, .int t13), (6, .int y1), (0, .ref (ad 33)), (1, .ref (ad 4)), (2, .ref (ad kr)), (3, .int 5), (4, .int vu), (5, .int vp)]) hx hb dX1_fitOn_143 hl (k := 0) rfl rfl (by decide) rfl (fun ls hl => ?_)
                refine loc_gen (P := fun w9 => lv_has ls 10 [(9, .int w9), (8, .int 6), (7, .int t13), (6, .int y1), (0, .ref (ad 33)), (1, .ref (ad 4)), (2, .ref (ad kr)), (3, .int 5), (4, .int vu), (5, .int vp)]) (v9_87 + 1) hl (fun w30 hw30 hl => ?_)
                have hl : lv_has ls 10 [(9, .int w30), (8, .int 6), (7, .int t13), (6, .int y1), (0, .ref (ad 33)), (1, .ref (ad 4)), (2, .ref (ad kr)), (3, .int 5), (4, .int vu), (5, .int vp)] := hl
                have aw30 : w30.toInt = v9_87.toInt + 1 := by rw [← hw30]; first | exact va1 (Int.lt_of_le_of_lt h_v9_87.2 (by decide)) | exact va1 (by omega)
                refine lv_goto (tgt := 87) hx hb dX1_fitOn_146 (by decide) ?_
                exact ih87 (w30) xi27 _ _ _ (by first | exact ms_up hm_87 aw30 h_v9_87.2 | exact ms_lt hm_87 (by omega) (by omega) | omega) (by first | exact rg_up aw30 h_v9_87 (by omega) | omega)  ok hP  kp28 kp29 hS (lv_sub hl [0, 1, 2, 3, 4, 5, 6, 7, 8, 9] rfl)
        exact loop87 ((7 + 1 - (0 : Int32).toInt).toNat + 1) (0) mu _ _ _ (Nat.lt_succ_self _) (by have h80 : (0 : Int32).toInt = 0 := rfl; exact ⟨by omega, by omega⟩)  ok hP  (fun _ _ _ => rfl) (fun _ _ _ => rfl) hS hl
      · have c_9 : ¬ y7.toInt = r8.toInt := il_ne c_9
        exact W.vret hx hb hr (fun t ht hW => ⟨⟨mu, rfl, ⟨ok, trivial, (fun _ _ _ => rfl), (fun _ _ _ => rfl)⟩, by first | (subst ht; exact hP) | (rw [ht]; exact hP) | (show va_P (dC, dI) vwCl (wR 157 ad (EX cs ad) mu) t.heap; rw [ht]; exact hP)⟩, hS.F ht⟩) hS.2.2 dX1_fitOn_58
  · have c_3 : y2.toInt ≤ 5 := il_nlt c_3
    refine lv_aload_n hx hb dX1_fitOn_16 rfl (lv_at hl 1 rfl) ?_
    refine lv_iload hx hb dX1_fitOn_17 (lv_at hl 0 rfl) ?_
    refine lv_iload_n hx hb dX1_fitOn_19 rfl (lv_at hl 4 rfl) ?_
    refine lv_iload hx hb dX1_fitOn_20 (lv_at hl 5 rfl) ?_
    have hFc := fr_all (wR_D mu hD) hS hA
    refine va_callv (va_runV (As := [.int y1, .int 5, .int vu]) (rest := []) ⟨hx, hb, hml, hown, hts⟩ (sx_F_arrive l dC dI cs ad mu ok s.heap hP ((wR_D mu hD).weaken (fun _ _ _ _ => trivial)) y1 5 vu (by have h51 : (5 : Int32).toInt = 5 := rfl; omega)) (cwV 3 hts (wU_V mw_4_174 mw_4_171 mw_4_173 mw_0_22 mw_1_10) rfl rfl rfl (by decide +kernel) ⟨Nat.le_of_ble_eq_true rfl, Nat.le_of_ble_eq_true rfl⟩) ⟨sz_c, va_recv hK hP (ci := 1) (q0 := 33) rfl (gX_33 cs ad mu), sz_m hK hz⟩ rfl rfl hl.1 rfl (lv_room (Nat.le_of_ble_eq_true rfl)) dX1_fitOn_22 ⟨Nat.zero_le _, Nat.zero_le _⟩) hS (fun q _ h => hFc q h) hFc (fun xi31 t H31 locs ht hvm hw31 hB hz1 hk1 hS => ?_)
    have hP : va_P (dC, dI) vwCl (wR 157 ad (EX cs ad) xi31) H31 := by rw [← ht]; exact hB
    obtain ⟨ok, hw31, hkp31_0, hkp31_1⟩ := hw31
    have ez32 : y2 = xi31 kr 1 := ey2.trans (congrFun (hkp31_0 kr (Nat.le_trans (by decide) h1kr) (Nat.lt_of_lt_of_le h2kr (by decide))) 1).symm
    have kp33 : ∀ k : Nat, 8 ≤ k → k < 14 → xi31 k = mu k := fun k h1 h2 => (hkp31_0 k (Nat.le_trans (by decide) h1) (Nat.lt_of_lt_of_le h2 (by decide))).trans ((fun _ _ _ => rfl) k h1 h2)
    have kp34 : (∀ k f : Nat, Nat.testBit 510 (gpX k f) = true → xi31 k f = mu k f) := kp_t hkp31_1 (by decide) (fun _ _ _ => rfl)
    exact W.vret hx hb hr (fun t ht hW => ⟨⟨xi31, rfl, ⟨ok, trivial, kp33, kp34⟩, by first | (subst ht; exact hP) | (rw [ht]; exact hP) | (show va_P (dC, dI) vwCl (wR 157 ad (EX cs ad) xi31) t.heap; rw [ht]; exact hP)⟩, hS.F ht⟩) hS.2.2 dX1_fitOn_25
set_option maxHeartbeats 4000000 in
set_option maxRecDepth 100000 in
/-- sx_fitOn4 -/
theorem sx_fitOn4 (l : Launch) (dC : Nat → ClassId) (dI : Nat → Nat → Nat) (cs : Nat → ClassId) (ad : Nat → Nat) (mu : Nat → Nat → Int32) (ok : okR loX hiX mu) (H : Heap) (hP : va_P (dC, dI) vwCl (wR 157 ad (EX cs ad) mu) H) (hD0 : va_D (fun _ => True) (wR 157 ad (EX cs ad) mu)) (kr : Nat) (h1kr : 8 ≤ kr) (h2kr : kr < 14) (vu : Int32) (vp : Int32) : Met l yX1_fitOn (wU yX1_fitOn cX1_fitOn 10 none) ({ frames := 4, cells := 0, slots := 0, locals := 141 }) (va_Pc [.ref (ad 33), .ref (ad 4), .ref (ad kr), .int 4, .int vu, .int vp] (sz_P (dC, dI) vwCl (tyW cs) H)) (va_Qv (fun (xi : Nat → Nat → Int32) => okR loX hiX xi ∧ (True) ∧ (∀ k : Nat, 8 ≤ k → k < 14 → xi k = mu k) ∧ (∀ k f : Nat, Nat.testBit 510 (gpX k f) = true → xi k f = mu k f)) (fun xi t => va_P (dC, dI) vwCl (wR 157 ad (EX cs ad) xi) t.heap) (va_A (wR 157 ad (EX cs ad) mu) H.size)) 0 0 (va_A (wR 157 ad (EX cs ad) mu) H.size) := by
  refine Met.ofW (cc := cX1_fitOn) (maxL := 10) (ret := none) (by decide) rfl ?_
  intro p e s m args below meth c s₁ B hml hv
  obtain ⟨rfl, hh, hK, hz⟩ := hv
  have hx := B.exec
  have hb := B.bytes
  have hr := B.returns
  have hts := atoms_spec (ws := (wU yX1_fitOn cX1_fitOn 10 none)) B.pre
  have hown : s.vm.findClass RX1 = some m.cls := findClass_of_methodNamed B.named
  have hlocks := B.notSynchronized
  subst hh
  have hD := hD0.self (sz := s.heap.size)
  have hA : ∀ q : Nat, s.heap.size ≤ q → (va_A (wR 157 ad (EX cs ad) mu) s.heap.size) q := fun q h => Or.inr h
  have hS : va_S (va_A (wR 157 ad (EX cs ad) mu) s.heap.size) s.heap s.heap [] := va_S.rf
  have hl := lv_entry ([.ref (ad 33), .ref (ad 4), .ref (ad kr), .int 4, .int vu, .int vp]) (n := 10) (Nat.le_of_ble_eq_true rfl)
  rw [lg_entry_eq]
  generalize (lg_sl ([.ref (ad 33), .ref (ad 4), .ref (ad kr), .int 4, .int vu, .int vp]) ++ List.replicate (10 - (lg_sl ([.ref (ad 33), .ref (ad 4), .ref (ad kr), .int 4, .int vu, .int vp])).length) Slot.unset).toArray = ls at hl ⊢
  have hl : lv_has ls 10 [(0, .ref (ad 33)), (1, .ref (ad 4)), (2, .ref (ad kr)), (3, .int 4), (4, .int vu), (5, .int vp)] := hl
  refine lv_aload_n hx hb dX1_fitOn_0 rfl (lv_at hl 0 rfl) ?_
  refine va_get (D := (dC, dI)) (ci := 1) (v := .ref (ad 59)) (C := RX1) (T := TX1) (N := 5) hx hb hts inG1 hown hK hP 33 (gX_33 cs ad mu) rfl 0 (by decide) (hts _ (List.mem_cons_of_mem _ mw_2_104)) (fun _ h9 => h9) rfl dX1_fitOn_1 ?_
  refine lv_iload_n hx hb dX1_fitOn_4 rfl (lv_at hl 3 rfl) ?_
  refine va_iald hx hb hK hP 59 0 (gX_59 cs ad mu) rfl (show vp_in 4 7 from (by unfold vp_in; decide)) dX1_fitOn_5 ?_
  refine lv_topi (fun y1 ey1 => ?_)
  have by1 : y1.toInt = (mu 59 (4 : Int32).toNatClampNeg).toInt := congrArg Int32.toInt ey1
  have gy1 : 0 ≤ y1.toInt ∧ y1.toInt ≤ 6 := by rw [ey1]; exact rX_59_s ok (4 : Int32).toNatClampNeg
  refine lv_istore (lv' := [(6, .int y1), (0, .ref (ad 33)), (1, .ref (ad 4)), (2, .ref (ad kr)), (3, .int 4), (4, .int vu), (5, .int vp)]) hx hb dX1_fitOn_6 hl (by decide) rfl (fun ls hl => ?_)
  refine lv_iload_n hx hb dX1_fitOn_8 rfl (lv_at hl 4 rfl) ?_
  refine lv_aload_n hx hb dX1_fitOn_9 rfl (lv_at hl 3 rfl) ?_
  refine va_get (D := (dC, dI)) (ci := 6) (v := .int (mu kr 1)) (C := RX6) (T := TX6) (N := 2) hx hb hts inG6 hown hK hP kr (gX_row cs ad mu kr h1kr h2kr) rfl 1 (by decide) (hts _ (List.mem_cons_of_mem _ mw_2_133)) (fun _ h9 => h9) rfl dX1_fitOn_10 ?_
  refine lv_topi (fun y2 ey2 => ?_)
  have by2 : y2.toInt = (mu kr 1).toInt := congrArg Int32.toInt ey2
  have gy2 : -1 ≤ y2.toInt ∧ y2.toInt ≤ 40 := by rw [ey2]; exact rX_row_1 ok kr h1kr h2kr
  refine lv_icmp_lt (tgt := 26) hx hb dX1_fitOn_13 (by decide) (fun c_3 => ?_) (fun c_3 => ?_)
  · have c_3 : 4 < y2.toInt := il_lt c_3
    refine lv_aload_n hx hb dX1_fitOn_26 rfl (lv_at hl 2 rfl) ?_
    refine va_get (D := (dC, dI)) (ci := 10) (v := .ref (ad 34)) (C := RX10) (T := TX10) (N := 8) hx hb hts inG10 hown hK hP 4 (gX_4 cs ad mu) rfl 0 (by decide) (hts _ (List.mem_cons_of_mem _ mw_1_144)) (fun _ h9 => h9) rfl dX1_fitOn_27 ?_
    refine lv_iload hx hb dX1_fitOn_30 (lv_at hl 0 rfl) ?_
    refine va_iald hx hb hK hP 34 0 (gX_34 cs ad mu) rfl (show vp_in y1 7 from vi_of (by omega) (by omega)) dX1_fitOn_32 ?_
    refine lv_topi (fun y4 ey4 => ?_)
    have by4 : y4.toInt = (mu 34 y1.toNatClampNeg).toInt := congrArg Int32.toInt ey4
    refine lv_iconst (v := 3) hx hb dX1_fitOn_33 (by decide) ?_
    refine lv_icmp_eq (tgt := 58) hx hb dX1_fitOn_34 (by decide) (fun c_5 => ?_) (fun c_5 => ?_)
    · have c_5 : y4.toInt = 3 := il_eq c_5
      exact W.vret hx hb hr (fun t ht hW => ⟨⟨mu, rfl, ⟨ok, trivial, (fun _ _ _ => rfl), (fun _ _ _ => rfl)⟩, by first | (subst ht; exact hP) | (rw [ht]; exact hP) | (show va_P (dC, dI) vwCl (wR 157 ad (EX cs ad) mu) t.heap; rw [ht]; exact hP)⟩, hS.F ht⟩) hS.2.2 dX1_fitOn_58
    · have c_5 : ¬ y4.toInt = 3 := il_ne c_5
      refine lv_aload_n hx hb dX1_fitOn_37 rfl (lv_at hl 3 rfl) ?_
      have hk6 : 21 ≤ kr + 13 ∧ kr + 13 < 27 := add_in 13 h1kr h2kr
      refine va_get (D := (dC, dI)) (ci := 6) (v := .ref (ad (kr + 13))) (C := RX6) (T := TX6) (N := 2) hx hb hts inG6 hown hK hP kr (gX_row cs ad mu kr h1kr h2kr) rfl 0 (by decide) (hts _ (List.mem_cons_of_mem _ mw_2_131)) (fun _ h9 => h9) rfl dX1_fitOn_38 ?_
      refine lv_iload_n hx hb dX1_fitOn_41 rfl (lv_at hl 4 rfl) ?_
      refine va_iald hx hb hK hP (kr + 13) 0 (gX_places cs ad mu (kr + 13) hk6.1 hk6.2) rfl (show vp_in 4 40 from (by unfold vp_in; decide)) dX1_fitOn_42 ?_
      refine lv_topi (fun y7 ey7 => ?_)
      have by7 : y7.toInt = (mu (kr + 13) (4 : Int32).toNatClampNeg).toInt := congrArg Int32.toInt ey7
      refine lv_aload_n hx hb dX1_fitOn_43 rfl (lv_at hl 2 rfl) ?_
      refine va_get (D := (dC, dI)) (ci := 10) (v := .ref (ad 34)) (C := RX10) (T := TX10) (N := 8) hx hb hts inG10 hown hK hP 4 (gX_4 cs ad mu) rfl 0 (by decide) (hts _ (List.mem_cons_of_mem _ mw_1_144)) (fun _ h9 => h9) rfl dX1_fitOn_44 ?_
      refine lv_iload hx hb dX1_fitOn_47 (lv_at hl 0 rfl) ?_
      refine va_iald hx hb hK hP 34 0 (gX_34 cs ad mu) rfl (show vp_in y1 7 from vi_of (by omega) (by omega)) dX1_fitOn_49 ?_
      refine lq_i y4 ey4.symm ?_
      refine lv_iload hx hb dX1_fitOn_50 (lv_at hl 6 rfl) ?_
      refine cr_i (va_runSN (As := [.int y4, .int vp]) (rest := [.int y7]) ⟨hx, hb, hml, hown, hts⟩ (sx_priceAsked l dC dI (tyW cs) s.heap y4 vp) ⟨va_cnB 2 hts (wU_in mw_3_107) rfl rfl rfl (hz.1) (hts _ (List.mem_cons_of_mem _ mw_1_1)) (by decide +kernel) ⟨Nat.le_of_ble_eq_true rfl, Nat.le_of_ble_eq_true rfl⟩, (hts _ (List.mem_cons_of_mem _ mw_3_106)), trivial⟩ ⟨sz_c, sz_m hK hz⟩ rfl rfl hl.1 rfl (lv_room (Nat.le_of_ble_eq_true rfl)) dX1_fitOn_52 ⟨Nat.zero_le _, Nat.zero_le _⟩) hS (fun r8 hw8 locs hS => ?_)
      obtain ⟨hfe8, hw8⟩ := hw8
      refine lv_icmp_eq (tgt := 59) hx hb dX1_fitOn_55 (by decide) (fun c_9 => ?_) (fun c_9 => ?_)
      · have c_9 : y7.toInt = r8.toInt := il_eq c_9
        refine lv_aload_n hx hb dX1_fitOn_59 rfl (lv_at hl 2 rfl) ?_
        refine lv_iload hx hb dX1_fitOn_60 (lv_at hl 0 rfl) ?_
        refine lv_aload_n hx hb dX1_fitOn_62 rfl (lv_at hl 2 rfl) ?_
        refine va_get (D := (dC, dI)) (ci := 10) (v := .ref (ad 5)) (C := RX10) (T := TX10) (N := 8) hx hb hts inG10 hown hK hP 4 (gX_4 cs ad mu) rfl 3 (by decide) (hts _ (List.mem_cons_of_mem _ mw_1_155)) (fun _ h9 => h9) rfl dX1_fitOn_63 ?_
        refine va_get (D := (dC, dI)) (ci := 8) (v := .int (mu 5 2)) (C := RX8) (T := TX8) (N := 6) hx hb hts inG8 hown hK hP 5 (gX_5 cs ad mu) rfl 2 (by decide) (hts _ (List.mem_cons_of_mem _ mw_1_115)) (fun _ h9 => h9) rfl dX1_fitOn_66 ?_
        refine lv_topi (fun y10 ey10 => ?_)
        have by10 : y10.toInt = (mu 5 2).toInt := congrArg Int32.toInt ey10
        refine cr_i (va_runV (As := [.int y1, .int y10]) (rest := []) ⟨hx, hb, hml, hown, hts⟩ (sx_near l dC dI cs ad mu ok s.heap hP y1 y10) (cwV 2 hts (wU_V mw_3_84 mw_4_177 mw_3_82 mw_3_83 mw_1_2) rfl rfl rfl (by decide +kernel) ⟨Nat.le_of_ble_eq_true rfl, Nat.le_of_ble_eq_true rfl⟩) ⟨sz_c, va_recv hK hP (ci := 10) (q0 := 4) rfl (gX_4 cs ad mu), sz_m hK hz⟩ rfl rfl hl.1 rfl (lv_room (Nat.le_of_ble_eq_true rfl)) dX1_fitOn_69 ⟨Nat.zero_le _, Nat.zero_le _⟩) hS (fun r11 hw11 locs hS => ?_)
        obtain ⟨hfe11, hw11⟩ := hw11
        refine lv_iload hx hb dX1_fitOn_72 (lv_at hl 5 rfl) ?_
        refine lv_iconst (v := (-1)) hx hb dX1_fitOn_74 (by decide) ?_
        refine lv_ixor hx hb dX1_fitOn_75 ?_
        refine lv_topi (fun t12 et12 => ?_)
        refine lv_iand hx hb dX1_fitOn_76 ?_
        refine lv_topi (fun t13 et13 => ?_)
        refine lv_istore (lv' := [(7, .int t13), (6, .int y1), (0, .ref (ad 33)), (1, .ref (ad 4)), (2, .ref (ad kr)), (3, .int 4), (4, .int vu), (5, .int vp)]) hx hb dX1_fitOn_77 hl (by decide) rfl (fun ls hl => ?_)
        refine lv_iload_n hx hb dX1_fitOn_79 rfl (lv_at hl 5 rfl) ?_
        refine lv_iconst (v := 1) hx hb dX1_fitOn_80 (by decide) ?_
        refine lv_iadd hx hb dX1_fitOn_81 ?_
        refine lq_i 5 (by decide) ?_
        refine lv_istore (lv' := [(8, .int 5), (7, .int t13), (6, .int y1), (0, .ref (ad 33)), (1, .ref (ad 4)), (2, .ref (ad kr)), (3, .int 4), (4, .int vu), (5, .int vp)]) hx hb dX1_fitOn_82 hl (by decide) rfl (fun ls hl => ?_)
        refine lv_iconst (v := 0) hx hb dX1_fitOn_84 (by decide) ?_
        refine lv_istore (lv' := [(9, .int 0), (8, .int 5), (7, .int t13), (6, .int y1), (0, .ref (ad 33)), (1, .ref (ad 4)), (2, .ref (ad kr)), (3, .int 4), (4, .int vu), (5, .int vp)]) hx hb dX1_fitOn_85 hl (by decide) rfl (fun ls hl => ?_)
        have loop87 : ∀ (n87 : Nat) (v9_87 : Int32) (nu87_ : Nat → Nat → Int32) (H : Heap) (locs : List Loc) (ls : Array Slot), (7 + 1 - v9_87.toInt).toNat < n87 → (0 ≤ v9_87.toInt ∧ v9_87.toInt ≤ 7) → okR loX hiX nu87_ → va_P (dC, dI) vwCl (wR 157 ad (EX cs ad) nu87_) H → (∀ k : Nat, 8 ≤ k → k < 14 → nu87_ k = mu k) → (∀ k f : Nat, Nat.testBit 510 (gpX k f) = true → nu87_ k f = mu k f) → va_S (va_A (wR 157 ad (EX cs ad) mu) s.heap.size) s.heap H locs → lv_has ls 10 [(9, .int v9_87), (8, .int 5), (7, .int t13), (6, .int y1), (0, .ref (ad 33)), (1, .ref (ad 4)), (2, .ref (ad kr)), (3, .int 4), (4, .int vu), (5, .int vp)] → W p l e (headSpec (wU yX1_fitOn cX1_fitOn 10 none) ({ frames := 4, cells := 0, slots := 0, locals := 141 })).room s m ([.ref (ad 33), .ref (ad 4), .ref (ad kr), .int 4, .int vu, .int vp] : List Value).toArray below meth c H locs 0 0 (MQ below (va_Qv (fun (xi : Nat → Nat → Int32) => okR loX hiX xi ∧ (True) ∧ (∀ k : Nat, 8 ≤ k → k < 14 → xi k = mu k) ∧ (∀ k f : Nat, Nat.testBit 510 (gpX k f) = true → xi k f = mu k f)) (fun xi t => va_P (dC, dI) vwCl (wR 157 ad (EX cs ad) xi) t.heap) (va_A (wR 157 ad (EX cs ad) mu) s.heap.size)) ([.ref (ad 33), .ref (ad 4), .ref (ad kr), .int 4, .int vu, .int vp] : List Value).toArray s 0 0 (va_A (wR 157 ad (EX cs ad) mu) s.heap.size)) (F0 m 87 ls []) := by
          intro n87
          induction n87 with
          | zero => intro v9_87 nu87_ H locs ls hm; exact absurd hm (Nat.not_lt_zero _)
          | succ n87 ih87 =>
            intro v9_87 nu87_ H locs ls hm_87 h_v9_87 ok hP kq87_0 kq87_1 hS hl
            refine lv_iload hx hb dX1_fitOn_87 (lv_at hl 0 rfl) ?_
            refine lv_aload_n hx hb dX1_fitOn_89 rfl (lv_at hl 5 rfl) ?_
            refine va_get (D := (dC, dI)) (ci := 10) (v := .int (nu87_ 4 6)) (C := RX10) (T := TX10) (N := 8) hx hb hts inG10 hown hK hP 4 (gX_4 cs ad nu87_) rfl 6 (by decide) (hts _ (List.mem_cons_of_mem _ mw_1_161)) (fun _ h9 => h9) rfl dX1_fitOn_90 ?_
            refine lv_topi (fun y14 ey14 => ?_)
            have by14 : y14.toInt = (nu87_ 4 6).toInt := congrArg Int32.toInt ey14
            have gy14 : 0 ≤ y14.toInt ∧ y14.toInt ≤ 7 := by rw [ey14]; exact rX_4_6 ok
            refine lv_icmp_ge (tgt := 149) hx hb dX1_fitOn_93 (by decide) (fun c_15 => ?_) (fun c_15 => ?_)
            · have c_15 : y14.toInt ≤ v9_87.toInt := il_le c_15
              exact W.vret hx hb hr (fun t ht hW => ⟨⟨nu87_, rfl, ⟨ok, trivial, kq87_0, kq87_1⟩, by first | (subst ht; exact hP) | (rw [ht]; exact hP) | (show va_P (dC, dI) vwCl (wR 157 ad (EX cs ad) nu87_) t.heap; rw [ht]; exact hP)⟩, hS.F ht⟩) hS.2.2 dX1_fitOn_149
            · have c_15 : v9_87.toInt < y14.toInt := il_nle c_15
              refine lv_iload hx hb dX1_fitOn_96 (lv_at hl 1 rfl) ?_
              refine lv_bipush (v := 7) hx hb dX1_fitOn_98 (by decide) ?_
              refine lv_icmp_ge (tgt := 149) hx hb dX1_fitOn_100 (by decide) (fun c => absurd c (by decide)) (fun _ => ?_)
              refine lv_iload hx hb dX1_fitOn_103 (lv_at hl 2 rfl) ?_
              refine lv_iload hx hb dX1_fitOn_105 (lv_at hl 0 rfl) ?_
              refine cr_i (va_runSN (As := [.int t13, .int v9_87]) (rest := []) ⟨hx, hb, hml, hown, hts⟩ (sx_hasBit l dC dI (tyW cs) H t13 v9_87) ⟨va_cnB 2 hts (wU_in mw_3_87) rfl rfl rfl (hz.2.1) (hts _ (List.mem_cons_of_mem _ mw_1_1)) (by decide +kernel) ⟨Nat.le_of_ble_eq_true rfl, Nat.le_of_ble_eq_true rfl⟩, (hts _ (List.mem_cons_of_mem _ mw_3_86)), trivial⟩ ⟨sz_c, sz_m hK hz⟩ rfl rfl hl.1 rfl (lv_room (Nat.le_of_ble_eq_true rfl)) dX1_fitOn_107 ⟨Nat.zero_le _, Nat.zero_le _⟩) hS (fun r16 hw16 locs hS => ?_)
              obtain ⟨hfe16, hw16⟩ := hw16
              have gr16 : 0 ≤ r16.toInt ∧ r16.toInt ≤ 1 := hw16
              refine lv_if_eq (tgt := 143) hx hb dX1_fitOn_110 (by decide) (fun c_17 => ?_) (fun c_17 => ?_)
              · have c_17 : r16.toInt = 0 := il_eq c_17
                refine lv_iinc (v := (v9_87 + 1)) (lv' := [(9, .int (v9_87 + 1)), (8, .int 5), (7, .int t13), (6, .int y1), (0, .ref (ad 33)), (1, .ref (ad 4)), (2, .ref (ad kr)), (3, .int 4), (4, .int vu), (5, .int vp)]) hx hb dX1_fitOn_143 hl (k := 0) rfl rfl (by decide) rfl (fun ls hl => ?_)
                refine loc_gen (P := fun w9 => lv_has ls 10 [(9, .int w9), (8, .int 5), (7, .int t13), (6, .int y1), (0, .ref (ad 33)), (1, .ref (ad 4)), (2, .ref (ad kr)), (3, .int 4), (4, .int vu), (5, .int vp)]) (v9_87 + 1) hl (fun w18 hw18 hl => ?_)
                have hl : lv_has ls 10 [(9, .int w18), (8, .int 5), (7, .int t13), (6, .int y1), (0, .ref (ad 33)), (1, .ref (ad 4)), (2, .ref (ad kr)), (3, .int 4), (4, .int vu), (5, .int vp)] := hl
                have aw18 : w18.toInt = v9_87.toInt + 1 := by rw [← hw18]; first | exact va1 (Int.lt_of_le_of_lt h_v9_87.2 (by decide)) | exact va1 (by omega)
                refine lv_goto (tgt := 87) hx hb dX1_fitOn_146 (by decide) ?_
                exact ih87 (w18) nu87_ _ _ _ (by first | exact ms_up hm_87 aw18 h_v9_87.2 | exact ms_lt hm_87 (by omega) (by omega) | omega) (by first | exact rg_up aw18 h_v9_87 (by omega) | omega)  ok hP  kq87_0 kq87_1 hS (lv_sub hl [0, 1, 2, 3, 4, 5, 6, 7, 8, 9] rfl)
              · have c_17 : ¬ r16.toInt = 0 := il_ne c_17
                refine lv_aload_n hx hb dX1_fitOn_113 rfl (lv_at hl 4 rfl) ?_
                refine va_get (D := (dC, dI)) (ci := 1) (v := .ref (ad 59)) (C := RX1) (T := TX1) (N := 5) hx hb hts inG1 hown hK hP 33 (gX_33 cs ad nu87_) rfl 0 (by decide) (hts _ (List.mem_cons_of_mem _ mw_2_104)) (fun _ h9 => h9) rfl dX1_fitOn_114 ?_
                refine lv_iload hx hb dX1_fitOn_117 (lv_at hl 1 rfl) ?_
                refine lv_iload hx hb dX1_fitOn_119 (lv_at hl 0 rfl) ?_
                refine va_iast hx hb hK hP (wR_D nu87_ hD) hS 59 0 (gX_59 cs ad nu87_) rfl (show vp_in 5 7 from (by unfold vp_in; decide)) dX1_fitOn_121 (fun H locs hP _ hS => ?_)
                refine wr_gen (upd (nu87_ 59) (5 : Int32).toNatClampNeg v9_87) hP (rfl) (fun nu19 hn19 hP => ?_)
                have ok := tX_59_s ok (5 : Int32).toNatClampNeg hn19 (by omega)
                have ez20 : y14 = nu19 4 6 := ey14.trans (congrFun (up_k hn19 (by decide)) 6).symm
                have kp21 : ∀ k : Nat, 8 ≤ k → k < 14 → nu19 k = mu k := fun k h1 h2 => (up_k hn19 (ne_hi (by decide) h2).symm).trans (kq87_0 k h1 h2)
                have kp22 : (∀ k f : Nat, Nat.testBit 510 (gpX k f) = true → nu19 k f = mu k f) := kp_c 0 hn19 (fun _ => rfl) (by decide) kq87_1
                refine lv_aload_n hx hb dX1_fitOn_122 rfl (lv_at hl 4 rfl) ?_
                refine lv_aload_n hx hb dX1_fitOn_123 rfl (lv_at hl 5 rfl) ?_
                refine lv_aload_n hx hb dX1_fitOn_124 rfl (lv_at hl 6 rfl) ?_
                refine lv_iload hx hb dX1_fitOn_125 (lv_at hl 1 rfl) ?_
                refine lv_iload hx hb dX1_fitOn_127 (lv_at hl 8 rfl) ?_
                refine lv_iconst (v := 1) hx hb dX1_fitOn_129 (by decide) ?_
                refine lv_iload hx hb dX1_fitOn_130 (lv_at hl 0 rfl) ?_
                refine lv_ishl hx hb dX1_fitOn_132 ?_
                refine lv_topi (fun t23 et23 => ?_)
                refine lv_ior hx hb dX1_fitOn_133 ?_
                refine lv_topi (fun t24 et24 => ?_)
                refine lv_aload_n hx hb dX1_fitOn_134 rfl (lv_at hl 6 rfl) ?_
                have hk25 : 21 ≤ kr + 13 ∧ kr + 13 < 27 := add_in 13 h1kr h2kr
                refine va_get (D := (dC, dI)) (ci := 6) (v := .ref (ad (kr + 13))) (C := RX6) (T := TX6) (N := 2) hx hb hts inG6 hown hK hP kr (gX_row cs ad nu19 kr h1kr h2kr) rfl 0 (by decide) (hts _ (List.mem_cons_of_mem _ mw_2_131)) (fun _ h9 => h9) rfl dX1_fitOn_135 ?_
                refine lv_iload_n hx hb dX1_fitOn_138 rfl (lv_at hl 7 rfl) ?_
                refine va_iald hx hb hK hP (kr + 13) 0 (gX_places cs ad nu19 (kr + 13) hk25.1 hk25.2) rfl (show vp_in 4 40 from (by unfold vp_in; decide)) dX1_fitOn_139 ?_
                refine lv_topi (fun y26 ey26 => ?_)
                have by26 : y26.toInt = (nu19 (kr + 13) (4 : Int32).toNatClampNeg).toInt := congrArg Int32.toInt ey26
                have hFc := fr_all (wR_D nu19 hD) hS hA
                refine va_callv (va_runV (As := [.ref (ad 4), .ref (ad kr), .int 5, .int t24, .int y26]) (rest := []) ⟨hx, hb, hml, hown, hts⟩ (sx_fitOn5 l dC dI cs ad nu19 ok H hP ((wR_D nu19 hD).weaken (fun _ _ _ _ => trivial)) kr h1kr h2kr t24 y26) (cwV 5 hts (wU_V mw_4_170 mw_4_167 mw_4_169 mw_0_21 mw_1_10) rfl rfl rfl (by decide +kernel) ⟨Nat.le_of_ble_eq_true rfl, Nat.le_of_ble_eq_true rfl⟩) ⟨sz_c, va_recv hK hP (ci := 1) (q0 := 33) rfl (gX_33 cs ad nu19), sz_m hK hz⟩ rfl rfl hl.1 rfl (lv_room (Nat.le_of_ble_eq_true rfl)) dX1_fitOn_140 ⟨Nat.zero_le _, Nat.zero_le _⟩) hS (fun q _ h => hFc q h) hFc (fun xi27 t H27 locs ht hvm hw27 hB hz1 hk1 hS => ?_)
                have hP : va_P (dC, dI) vwCl (wR 157 ad (EX cs ad) xi27) H27 := by rw [← ht]; exact hB
                obtain ⟨ok, hw27, hkp27_0, hkp27_1⟩ := hw27
                have kp28 : ∀ k : Nat, 8 ≤ k → k < 14 → xi27 k = mu k := fun k h1 h2 => (hkp27_0 k (Nat.le_trans (by decide) h1) (Nat.lt_of_lt_of_le h2 (by decide))).trans (kp21 k h1 h2)
                have kp29 : (∀ k f : Nat, Nat.testBit 510 (gpX k f) = true → xi27 k f = mu k f) := kp_t hkp27_1 (by decide) kp22
                refine lv_iinc (v := (v9_87 + 1)) (lv' := [(9, .int (v9_87 + 1)), (8, .int 5), (7, .int t13), (6, .int y1), (0, .ref (ad 33)), (1, .ref (ad 4)), (2, .ref (ad kr)), (3, .int 4), (4, .int vu), (5, .int vp)]) hx hb dX1_fitOn_143 hl (k := 0) rfl rfl (by decide) rfl (fun ls hl => ?_)
                refine loc_gen (P := fun w9 => lv_has ls 10 [(9, .int w9), (8, .int 5), (7, .int t13), (6, .int y1), (0, .ref (ad 33)), (1, .ref (ad 4)), (2, .ref (ad kr)), (3, .int 4), (4, .int vu), (5, .int vp)]) (v9_87 + 1) hl (fun w30 hw30 hl => ?_)
                have hl : lv_has ls 10 [(9, .int w30), (8, .int 5), (7, .int t13), (6, .int y1), (0, .ref (ad 33)), (1, .ref (ad 4)), (2, .ref (ad kr)), (3, .int 4), (4, .int vu), (5, .int vp)] := hl
                have aw30 : w30.toInt = v9_87.toInt + 1 := by rw [← hw30]; first | exact va1 (Int.lt_of_le_of_lt h_v9_87.2 (by decide)) | exact va1 (by omega)
                refine lv_goto (tgt := 87) hx hb dX1_fitOn_146 (by decide) ?_
                exact ih87 (w30) xi27 _ _ _ (by first | exact ms_up hm_87 aw30 h_v9_87.2 | exact ms_lt hm_87 (by omega) (by omega) | omega) (by first | exact rg_up aw30 h_v9_87 (by omega) | omega)  ok hP  kp28 kp29 hS (lv_sub hl [0, 1, 2, 3, 4, 5, 6, 7, 8, 9] rfl)
        exact loop87 ((7 + 1 - (0 : Int32).toInt).toNat + 1) (0) mu _ _ _ (Nat.lt_succ_self _) (by have h80 : (0 : Int32).toInt = 0 := rfl; exact ⟨by omega, by omega⟩)  ok hP  (fun _ _ _ => rfl) (fun _ _ _ => rfl) hS hl
      · have c_9 : ¬ y7.toInt = r8.toInt := il_ne c_9
        exact W.vret hx hb hr (fun t ht hW => ⟨⟨mu, rfl, ⟨ok, trivial, (fun _ _ _ => rfl), (fun _ _ _ => rfl)⟩, by first | (subst ht; exact hP) | (rw [ht]; exact hP) | (show va_P (dC, dI) vwCl (wR 157 ad (EX cs ad) mu) t.heap; rw [ht]; exact hP)⟩, hS.F ht⟩) hS.2.2 dX1_fitOn_58
  · have c_3 : y2.toInt ≤ 4 := il_nlt c_3
    refine lv_aload_n hx hb dX1_fitOn_16 rfl (lv_at hl 1 rfl) ?_
    refine lv_iload hx hb dX1_fitOn_17 (lv_at hl 0 rfl) ?_
    refine lv_iload_n hx hb dX1_fitOn_19 rfl (lv_at hl 4 rfl) ?_
    refine lv_iload hx hb dX1_fitOn_20 (lv_at hl 5 rfl) ?_
    have hFc := fr_all (wR_D mu hD) hS hA
    refine va_callv (va_runV (As := [.int y1, .int 4, .int vu]) (rest := []) ⟨hx, hb, hml, hown, hts⟩ (sx_F_arrive l dC dI cs ad mu ok s.heap hP ((wR_D mu hD).weaken (fun _ _ _ _ => trivial)) y1 4 vu (by have h51 : (4 : Int32).toInt = 4 := rfl; omega)) (cwV 3 hts (wU_V mw_4_174 mw_4_171 mw_4_173 mw_0_22 mw_1_10) rfl rfl rfl (by decide +kernel) ⟨Nat.le_of_ble_eq_true rfl, Nat.le_of_ble_eq_true rfl⟩) ⟨sz_c, va_recv hK hP (ci := 1) (q0 := 33) rfl (gX_33 cs ad mu), sz_m hK hz⟩ rfl rfl hl.1 rfl (lv_room (Nat.le_of_ble_eq_true rfl)) dX1_fitOn_22 ⟨Nat.zero_le _, Nat.zero_le _⟩) hS (fun q _ h => hFc q h) hFc (fun xi31 t H31 locs ht hvm hw31 hB hz1 hk1 hS => ?_)
    have hP : va_P (dC, dI) vwCl (wR 157 ad (EX cs ad) xi31) H31 := by rw [← ht]; exact hB
    obtain ⟨ok, hw31, hkp31_0, hkp31_1⟩ := hw31
    have ez32 : y2 = xi31 kr 1 := ey2.trans (congrFun (hkp31_0 kr (Nat.le_trans (by decide) h1kr) (Nat.lt_of_lt_of_le h2kr (by decide))) 1).symm
    have kp33 : ∀ k : Nat, 8 ≤ k → k < 14 → xi31 k = mu k := fun k h1 h2 => (hkp31_0 k (Nat.le_trans (by decide) h1) (Nat.lt_of_lt_of_le h2 (by decide))).trans ((fun _ _ _ => rfl) k h1 h2)
    have kp34 : (∀ k f : Nat, Nat.testBit 510 (gpX k f) = true → xi31 k f = mu k f) := kp_t hkp31_1 (by decide) (fun _ _ _ => rfl)
    exact W.vret hx hb hr (fun t ht hW => ⟨⟨xi31, rfl, ⟨ok, trivial, kp33, kp34⟩, by first | (subst ht; exact hP) | (rw [ht]; exact hP) | (show va_P (dC, dI) vwCl (wR 157 ad (EX cs ad) xi31) t.heap; rw [ht]; exact hP)⟩, hS.F ht⟩) hS.2.2 dX1_fitOn_25
set_option maxHeartbeats 4000000 in
set_option maxRecDepth 100000 in
/-- sx_fitOn3 -/
theorem sx_fitOn3 (l : Launch) (dC : Nat → ClassId) (dI : Nat → Nat → Nat) (cs : Nat → ClassId) (ad : Nat → Nat) (mu : Nat → Nat → Int32) (ok : okR loX hiX mu) (H : Heap) (hP : va_P (dC, dI) vwCl (wR 157 ad (EX cs ad) mu) H) (hD0 : va_D (fun _ => True) (wR 157 ad (EX cs ad) mu)) (kr : Nat) (h1kr : 8 ≤ kr) (h2kr : kr < 14) (vu : Int32) (vp : Int32) : Met l yX1_fitOn (wU yX1_fitOn cX1_fitOn 10 none) ({ frames := 5, cells := 0, slots := 0, locals := 170 }) (va_Pc [.ref (ad 33), .ref (ad 4), .ref (ad kr), .int 3, .int vu, .int vp] (sz_P (dC, dI) vwCl (tyW cs) H)) (va_Qv (fun (xi : Nat → Nat → Int32) => okR loX hiX xi ∧ (True) ∧ (∀ k : Nat, 8 ≤ k → k < 14 → xi k = mu k) ∧ (∀ k f : Nat, Nat.testBit 510 (gpX k f) = true → xi k f = mu k f)) (fun xi t => va_P (dC, dI) vwCl (wR 157 ad (EX cs ad) xi) t.heap) (va_A (wR 157 ad (EX cs ad) mu) H.size)) 0 0 (va_A (wR 157 ad (EX cs ad) mu) H.size) := by
  refine Met.ofW (cc := cX1_fitOn) (maxL := 10) (ret := none) (by decide) rfl ?_
  intro p e s m args below meth c s₁ B hml hv
  obtain ⟨rfl, hh, hK, hz⟩ := hv
  have hx := B.exec
  have hb := B.bytes
  have hr := B.returns
  have hts := atoms_spec (ws := (wU yX1_fitOn cX1_fitOn 10 none)) B.pre
  have hown : s.vm.findClass RX1 = some m.cls := findClass_of_methodNamed B.named
  have hlocks := B.notSynchronized
  subst hh
  have hD := hD0.self (sz := s.heap.size)
  have hA : ∀ q : Nat, s.heap.size ≤ q → (va_A (wR 157 ad (EX cs ad) mu) s.heap.size) q := fun q h => Or.inr h
  have hS : va_S (va_A (wR 157 ad (EX cs ad) mu) s.heap.size) s.heap s.heap [] := va_S.rf
  have hl := lv_entry ([.ref (ad 33), .ref (ad 4), .ref (ad kr), .int 3, .int vu, .int vp]) (n := 10) (Nat.le_of_ble_eq_true rfl)
  rw [lg_entry_eq]
  generalize (lg_sl ([.ref (ad 33), .ref (ad 4), .ref (ad kr), .int 3, .int vu, .int vp]) ++ List.replicate (10 - (lg_sl ([.ref (ad 33), .ref (ad 4), .ref (ad kr), .int 3, .int vu, .int vp])).length) Slot.unset).toArray = ls at hl ⊢
  have hl : lv_has ls 10 [(0, .ref (ad 33)), (1, .ref (ad 4)), (2, .ref (ad kr)), (3, .int 3), (4, .int vu), (5, .int vp)] := hl
  refine lv_aload_n hx hb dX1_fitOn_0 rfl (lv_at hl 0 rfl) ?_
  refine va_get (D := (dC, dI)) (ci := 1) (v := .ref (ad 59)) (C := RX1) (T := TX1) (N := 5) hx hb hts inG1 hown hK hP 33 (gX_33 cs ad mu) rfl 0 (by decide) (hts _ (List.mem_cons_of_mem _ mw_2_104)) (fun _ h9 => h9) rfl dX1_fitOn_1 ?_
  refine lv_iload_n hx hb dX1_fitOn_4 rfl (lv_at hl 3 rfl) ?_
  refine va_iald hx hb hK hP 59 0 (gX_59 cs ad mu) rfl (show vp_in 3 7 from (by unfold vp_in; decide)) dX1_fitOn_5 ?_
  refine lv_topi (fun y1 ey1 => ?_)
  have by1 : y1.toInt = (mu 59 (3 : Int32).toNatClampNeg).toInt := congrArg Int32.toInt ey1
  have gy1 : 0 ≤ y1.toInt ∧ y1.toInt ≤ 6 := by rw [ey1]; exact rX_59_s ok (3 : Int32).toNatClampNeg
  refine lv_istore (lv' := [(6, .int y1), (0, .ref (ad 33)), (1, .ref (ad 4)), (2, .ref (ad kr)), (3, .int 3), (4, .int vu), (5, .int vp)]) hx hb dX1_fitOn_6 hl (by decide) rfl (fun ls hl => ?_)
  refine lv_iload_n hx hb dX1_fitOn_8 rfl (lv_at hl 4 rfl) ?_
  refine lv_aload_n hx hb dX1_fitOn_9 rfl (lv_at hl 3 rfl) ?_
  refine va_get (D := (dC, dI)) (ci := 6) (v := .int (mu kr 1)) (C := RX6) (T := TX6) (N := 2) hx hb hts inG6 hown hK hP kr (gX_row cs ad mu kr h1kr h2kr) rfl 1 (by decide) (hts _ (List.mem_cons_of_mem _ mw_2_133)) (fun _ h9 => h9) rfl dX1_fitOn_10 ?_
  refine lv_topi (fun y2 ey2 => ?_)
  have by2 : y2.toInt = (mu kr 1).toInt := congrArg Int32.toInt ey2
  have gy2 : -1 ≤ y2.toInt ∧ y2.toInt ≤ 40 := by rw [ey2]; exact rX_row_1 ok kr h1kr h2kr
  refine lv_icmp_lt (tgt := 26) hx hb dX1_fitOn_13 (by decide) (fun c_3 => ?_) (fun c_3 => ?_)
  · have c_3 : 3 < y2.toInt := il_lt c_3
    refine lv_aload_n hx hb dX1_fitOn_26 rfl (lv_at hl 2 rfl) ?_
    refine va_get (D := (dC, dI)) (ci := 10) (v := .ref (ad 34)) (C := RX10) (T := TX10) (N := 8) hx hb hts inG10 hown hK hP 4 (gX_4 cs ad mu) rfl 0 (by decide) (hts _ (List.mem_cons_of_mem _ mw_1_144)) (fun _ h9 => h9) rfl dX1_fitOn_27 ?_
    refine lv_iload hx hb dX1_fitOn_30 (lv_at hl 0 rfl) ?_
    refine va_iald hx hb hK hP 34 0 (gX_34 cs ad mu) rfl (show vp_in y1 7 from vi_of (by omega) (by omega)) dX1_fitOn_32 ?_
    refine lv_topi (fun y4 ey4 => ?_)
    have by4 : y4.toInt = (mu 34 y1.toNatClampNeg).toInt := congrArg Int32.toInt ey4
    refine lv_iconst (v := 3) hx hb dX1_fitOn_33 (by decide) ?_
    refine lv_icmp_eq (tgt := 58) hx hb dX1_fitOn_34 (by decide) (fun c_5 => ?_) (fun c_5 => ?_)
    · have c_5 : y4.toInt = 3 := il_eq c_5
      exact W.vret hx hb hr (fun t ht hW => ⟨⟨mu, rfl, ⟨ok, trivial, (fun _ _ _ => rfl), (fun _ _ _ => rfl)⟩, by first | (subst ht; exact hP) | (rw [ht]; exact hP) | (show va_P (dC, dI) vwCl (wR 157 ad (EX cs ad) mu) t.heap; rw [ht]; exact hP)⟩, hS.F ht⟩) hS.2.2 dX1_fitOn_58
    · have c_5 : ¬ y4.toInt = 3 := il_ne c_5
      refine lv_aload_n hx hb dX1_fitOn_37 rfl (lv_at hl 3 rfl) ?_
      have hk6 : 21 ≤ kr + 13 ∧ kr + 13 < 27 := add_in 13 h1kr h2kr
      refine va_get (D := (dC, dI)) (ci := 6) (v := .ref (ad (kr + 13))) (C := RX6) (T := TX6) (N := 2) hx hb hts inG6 hown hK hP kr (gX_row cs ad mu kr h1kr h2kr) rfl 0 (by decide) (hts _ (List.mem_cons_of_mem _ mw_2_131)) (fun _ h9 => h9) rfl dX1_fitOn_38 ?_
      refine lv_iload_n hx hb dX1_fitOn_41 rfl (lv_at hl 4 rfl) ?_
      refine va_iald hx hb hK hP (kr + 13) 0 (gX_places cs ad mu (kr + 13) hk6.1 hk6.2) rfl (show vp_in 3 40 from (by unfold vp_in; decide)) dX1_fitOn_42 ?_
      refine lv_topi (fun y7 ey7 => ?_)
      have by7 : y7.toInt = (mu (kr + 13) (3 : Int32).toNatClampNeg).toInt := congrArg Int32.toInt ey7
      refine lv_aload_n hx hb dX1_fitOn_43 rfl (lv_at hl 2 rfl) ?_
      refine va_get (D := (dC, dI)) (ci := 10) (v := .ref (ad 34)) (C := RX10) (T := TX10) (N := 8) hx hb hts inG10 hown hK hP 4 (gX_4 cs ad mu) rfl 0 (by decide) (hts _ (List.mem_cons_of_mem _ mw_1_144)) (fun _ h9 => h9) rfl dX1_fitOn_44 ?_
      refine lv_iload hx hb dX1_fitOn_47 (lv_at hl 0 rfl) ?_
      refine va_iald hx hb hK hP 34 0 (gX_34 cs ad mu) rfl (show vp_in y1 7 from vi_of (by omega) (by omega)) dX1_fitOn_49 ?_
      refine lq_i y4 ey4.symm ?_
      refine lv_iload hx hb dX1_fitOn_50 (lv_at hl 6 rfl) ?_
      refine cr_i (va_runSN (As := [.int y4, .int vp]) (rest := [.int y7]) ⟨hx, hb, hml, hown, hts⟩ (sx_priceAsked l dC dI (tyW cs) s.heap y4 vp) ⟨va_cnB 2 hts (wU_in mw_3_107) rfl rfl rfl (hz.1) (hts _ (List.mem_cons_of_mem _ mw_1_1)) (by decide +kernel) ⟨Nat.le_of_ble_eq_true rfl, Nat.le_of_ble_eq_true rfl⟩, (hts _ (List.mem_cons_of_mem _ mw_3_106)), trivial⟩ ⟨sz_c, sz_m hK hz⟩ rfl rfl hl.1 rfl (lv_room (Nat.le_of_ble_eq_true rfl)) dX1_fitOn_52 ⟨Nat.zero_le _, Nat.zero_le _⟩) hS (fun r8 hw8 locs hS => ?_)
      obtain ⟨hfe8, hw8⟩ := hw8
      refine lv_icmp_eq (tgt := 59) hx hb dX1_fitOn_55 (by decide) (fun c_9 => ?_) (fun c_9 => ?_)
      · have c_9 : y7.toInt = r8.toInt := il_eq c_9
        refine lv_aload_n hx hb dX1_fitOn_59 rfl (lv_at hl 2 rfl) ?_
        refine lv_iload hx hb dX1_fitOn_60 (lv_at hl 0 rfl) ?_
        refine lv_aload_n hx hb dX1_fitOn_62 rfl (lv_at hl 2 rfl) ?_
        refine va_get (D := (dC, dI)) (ci := 10) (v := .ref (ad 5)) (C := RX10) (T := TX10) (N := 8) hx hb hts inG10 hown hK hP 4 (gX_4 cs ad mu) rfl 3 (by decide) (hts _ (List.mem_cons_of_mem _ mw_1_155)) (fun _ h9 => h9) rfl dX1_fitOn_63 ?_
        refine va_get (D := (dC, dI)) (ci := 8) (v := .int (mu 5 2)) (C := RX8) (T := TX8) (N := 6) hx hb hts inG8 hown hK hP 5 (gX_5 cs ad mu) rfl 2 (by decide) (hts _ (List.mem_cons_of_mem _ mw_1_115)) (fun _ h9 => h9) rfl dX1_fitOn_66 ?_
        refine lv_topi (fun y10 ey10 => ?_)
        have by10 : y10.toInt = (mu 5 2).toInt := congrArg Int32.toInt ey10
        refine cr_i (va_runV (As := [.int y1, .int y10]) (rest := []) ⟨hx, hb, hml, hown, hts⟩ (sx_near l dC dI cs ad mu ok s.heap hP y1 y10) (cwV 2 hts (wU_V mw_3_84 mw_4_177 mw_3_82 mw_3_83 mw_1_2) rfl rfl rfl (by decide +kernel) ⟨Nat.le_of_ble_eq_true rfl, Nat.le_of_ble_eq_true rfl⟩) ⟨sz_c, va_recv hK hP (ci := 10) (q0 := 4) rfl (gX_4 cs ad mu), sz_m hK hz⟩ rfl rfl hl.1 rfl (lv_room (Nat.le_of_ble_eq_true rfl)) dX1_fitOn_69 ⟨Nat.zero_le _, Nat.zero_le _⟩) hS (fun r11 hw11 locs hS => ?_)
        obtain ⟨hfe11, hw11⟩ := hw11
        refine lv_iload hx hb dX1_fitOn_72 (lv_at hl 5 rfl) ?_
        refine lv_iconst (v := (-1)) hx hb dX1_fitOn_74 (by decide) ?_
        refine lv_ixor hx hb dX1_fitOn_75 ?_
        refine lv_topi (fun t12 et12 => ?_)
        refine lv_iand hx hb dX1_fitOn_76 ?_
        refine lv_topi (fun t13 et13 => ?_)
        refine lv_istore (lv' := [(7, .int t13), (6, .int y1), (0, .ref (ad 33)), (1, .ref (ad 4)), (2, .ref (ad kr)), (3, .int 3), (4, .int vu), (5, .int vp)]) hx hb dX1_fitOn_77 hl (by decide) rfl (fun ls hl => ?_)
        refine lv_iload_n hx hb dX1_fitOn_79 rfl (lv_at hl 5 rfl) ?_
        refine lv_iconst (v := 1) hx hb dX1_fitOn_80 (by decide) ?_
        refine lv_iadd hx hb dX1_fitOn_81 ?_
        refine lq_i 4 (by decide) ?_
        refine lv_istore (lv' := [(8, .int 4), (7, .int t13), (6, .int y1), (0, .ref (ad 33)), (1, .ref (ad 4)), (2, .ref (ad kr)), (3, .int 3), (4, .int vu), (5, .int vp)]) hx hb dX1_fitOn_82 hl (by decide) rfl (fun ls hl => ?_)
        refine lv_iconst (v := 0) hx hb dX1_fitOn_84 (by decide) ?_
        refine lv_istore (lv' := [(9, .int 0), (8, .int 4), (7, .int t13), (6, .int y1), (0, .ref (ad 33)), (1, .ref (ad 4)), (2, .ref (ad kr)), (3, .int 3), (4, .int vu), (5, .int vp)]) hx hb dX1_fitOn_85 hl (by decide) rfl (fun ls hl => ?_)
        have loop87 : ∀ (n87 : Nat) (v9_87 : Int32) (nu87_ : Nat → Nat → Int32) (H : Heap) (locs : List Loc) (ls : Array Slot), (7 + 1 - v9_87.toInt).toNat < n87 → (0 ≤ v9_87.toInt ∧ v9_87.toInt ≤ 7) → okR loX hiX nu87_ → va_P (dC, dI) vwCl (wR 157 ad (EX cs ad) nu87_) H → (∀ k : Nat, 8 ≤ k → k < 14 → nu87_ k = mu k) → (∀ k f : Nat, Nat.testBit 510 (gpX k f) = true → nu87_ k f = mu k f) → va_S (va_A (wR 157 ad (EX cs ad) mu) s.heap.size) s.heap H locs → lv_has ls 10 [(9, .int v9_87), (8, .int 4), (7, .int t13), (6, .int y1), (0, .ref (ad 33)), (1, .ref (ad 4)), (2, .ref (ad kr)), (3, .int 3), (4, .int vu), (5, .int vp)] → W p l e (headSpec (wU yX1_fitOn cX1_fitOn 10 none) ({ frames := 5, cells := 0, slots := 0, locals := 170 })).room s m ([.ref (ad 33), .ref (ad 4), .ref (ad kr), .int 3, .int vu, .int vp] : List Value).toArray below meth c H locs 0 0 (MQ below (va_Qv (fun (xi : Nat → Nat → Int32) => okR loX hiX xi ∧ (True) ∧ (∀ k : Nat, 8 ≤ k → k < 14 → xi k = mu k) ∧ (∀ k f : Nat, Nat.testBit 510 (gpX k f) = true → xi k f = mu k f)) (fun xi t => va_P (dC, dI) vwCl (wR 157 ad (EX cs ad) xi) t.heap) (va_A (wR 157 ad (EX cs ad) mu) s.heap.size)) ([.ref (ad 33), .ref (ad 4), .ref (ad kr), .int 3, .int vu, .int vp] : List Value).toArray s 0 0 (va_A (wR 157 ad (EX cs ad) mu) s.heap.size)) (F0 m 87 ls []) := by
          intro n87
          induction n87 with
          | zero => intro v9_87 nu87_ H locs ls hm; exact absurd hm (Nat.not_lt_zero _)
          | succ n87 ih87 =>
            intro v9_87 nu87_ H locs ls hm_87 h_v9_87 ok hP kq87_0 kq87_1 hS hl
            refine lv_iload hx hb dX1_fitOn_87 (lv_at hl 0 rfl) ?_
            refine lv_aload_n hx hb dX1_fitOn_89 rfl (lv_at hl 5 rfl) ?_
            refine va_get (D := (dC, dI)) (ci := 10) (v := .int (nu87_ 4 6)) (C := RX10) (T := TX10) (N := 8) hx hb hts inG10 hown hK hP 4 (gX_4 cs ad nu87_) rfl 6 (by decide) (hts _ (List.mem_cons_of_mem _ mw_1_161)) (fun _ h9 => h9) rfl dX1_fitOn_90 ?_
            refine lv_topi (fun y14 ey14 => ?_)
            have by14 : y14.toInt = (nu87_ 4 6).toInt := congrArg Int32.toInt ey14
            have gy14 : 0 ≤ y14.toInt ∧ y14.toInt ≤ 7 := by rw [ey14]; exact rX_4_6 ok
            refine lv_icmp_ge (tgt := 149) hx hb dX1_fitOn_93 (by decide) (fun c_15 => ?_) (fun c_15 => ?_)
            · have c_15 : y14.toInt ≤ v9_87.toInt := il_le c_15
              exact W.vret hx hb hr (fun t ht hW => ⟨⟨nu87_, rfl, ⟨ok, trivial, kq87_0, kq87_1⟩, by first | (subst ht; exact hP) | (rw [ht]; exact hP) | (show va_P (dC, dI) vwCl (wR 157 ad (EX cs ad) nu87_) t.heap; rw [ht]; exact hP)⟩, hS.F ht⟩) hS.2.2 dX1_fitOn_149
            · have c_15 : v9_87.toInt < y14.toInt := il_nle c_15
              refine lv_iload hx hb dX1_fitOn_96 (lv_at hl 1 rfl) ?_
              refine lv_bipush (v := 7) hx hb dX1_fitOn_98 (by decide) ?_
              refine lv_icmp_ge (tgt := 149) hx hb dX1_fitOn_100 (by decide) (fun c => absurd c (by decide)) (fun _ => ?_)
              refine lv_iload hx hb dX1_fitOn_103 (lv_at hl 2 rfl) ?_
              refine lv_iload hx hb dX1_fitOn_105 (lv_at hl 0 rfl) ?_
              refine cr_i (va_runSN (As := [.int t13, .int v9_87]) (rest := []) ⟨hx, hb, hml, hown, hts⟩ (sx_hasBit l dC dI (tyW cs) H t13 v9_87) ⟨va_cnB 2 hts (wU_in mw_3_87) rfl rfl rfl (hz.2.1) (hts _ (List.mem_cons_of_mem _ mw_1_1)) (by decide +kernel) ⟨Nat.le_of_ble_eq_true rfl, Nat.le_of_ble_eq_true rfl⟩, (hts _ (List.mem_cons_of_mem _ mw_3_86)), trivial⟩ ⟨sz_c, sz_m hK hz⟩ rfl rfl hl.1 rfl (lv_room (Nat.le_of_ble_eq_true rfl)) dX1_fitOn_107 ⟨Nat.zero_le _, Nat.zero_le _⟩) hS (fun r16 hw16 locs hS => ?_)
              obtain ⟨hfe16, hw16⟩ := hw16
              have gr16 : 0 ≤ r16.toInt ∧ r16.toInt ≤ 1 := hw16
              refine lv_if_eq (tgt := 143) hx hb dX1_fitOn_110 (by decide) (fun c_17 => ?_) (fun c_17 => ?_)
              · have c_17 : r16.toInt = 0 := il_eq c_17
                refine lv_iinc (v := (v9_87 + 1)) (lv' := [(9, .int (v9_87 + 1)), (8, .int 4), (7, .int t13), (6, .int y1), (0, .ref (ad 33)), (1, .ref (ad 4)), (2, .ref (ad kr)), (3, .int 3), (4, .int vu), (5, .int vp)]) hx hb dX1_fitOn_143 hl (k := 0) rfl rfl (by decide) rfl (fun ls hl => ?_)
                refine loc_gen (P := fun w9 => lv_has ls 10 [(9, .int w9), (8, .int 4), (7, .int t13), (6, .int y1), (0, .ref (ad 33)), (1, .ref (ad 4)), (2, .ref (ad kr)), (3, .int 3), (4, .int vu), (5, .int vp)]) (v9_87 + 1) hl (fun w18 hw18 hl => ?_)
                have hl : lv_has ls 10 [(9, .int w18), (8, .int 4), (7, .int t13), (6, .int y1), (0, .ref (ad 33)), (1, .ref (ad 4)), (2, .ref (ad kr)), (3, .int 3), (4, .int vu), (5, .int vp)] := hl
                have aw18 : w18.toInt = v9_87.toInt + 1 := by rw [← hw18]; first | exact va1 (Int.lt_of_le_of_lt h_v9_87.2 (by decide)) | exact va1 (by omega)
                refine lv_goto (tgt := 87) hx hb dX1_fitOn_146 (by decide) ?_
                exact ih87 (w18) nu87_ _ _ _ (by first | exact ms_up hm_87 aw18 h_v9_87.2 | exact ms_lt hm_87 (by omega) (by omega) | omega) (by first | exact rg_up aw18 h_v9_87 (by omega) | omega)  ok hP  kq87_0 kq87_1 hS (lv_sub hl [0, 1, 2, 3, 4, 5, 6, 7, 8, 9] rfl)
              · have c_17 : ¬ r16.toInt = 0 := il_ne c_17
                refine lv_aload_n hx hb dX1_fitOn_113 rfl (lv_at hl 4 rfl) ?_
                refine va_get (D := (dC, dI)) (ci := 1) (v := .ref (ad 59)) (C := RX1) (T := TX1) (N := 5) hx hb hts inG1 hown hK hP 33 (gX_33 cs ad nu87_) rfl 0 (by decide) (hts _ (List.mem_cons_of_mem _ mw_2_104)) (fun _ h9 => h9) rfl dX1_fitOn_114 ?_
                refine lv_iload hx hb dX1_fitOn_117 (lv_at hl 1 rfl) ?_
                refine lv_iload hx hb dX1_fitOn_119 (lv_at hl 0 rfl) ?_
                refine va_iast hx hb hK hP (wR_D nu87_ hD) hS 59 0 (gX_59 cs ad nu87_) rfl (show vp_in 4 7 from (by unfold vp_in; decide)) dX1_fitOn_121 (fun H locs hP _ hS => ?_)
                refine wr_gen (upd (nu87_ 59) (4 : Int32).toNatClampNeg v9_87) hP (rfl) (fun nu19 hn19 hP => ?_)
                have ok := tX_59_s ok (4 : Int32).toNatClampNeg hn19 (by omega)
                have ez20 : y14 = nu19 4 6 := ey14.trans (congrFun (up_k hn19 (by decide)) 6).symm
                have kp21 : ∀ k : Nat, 8 ≤ k → k < 14 → nu19 k = mu k := fun k h1 h2 => (up_k hn19 (ne_hi (by decide) h2).symm).trans (kq87_0 k h1 h2)
                have kp22 : (∀ k f : Nat, Nat.testBit 510 (gpX k f) = true → nu19 k f = mu k f) := kp_c 0 hn19 (fun _ => rfl) (by decide) kq87_1
                refine lv_aload_n hx hb dX1_fitOn_122 rfl (lv_at hl 4 rfl) ?_
                refine lv_aload_n hx hb dX1_fitOn_123 rfl (lv_at hl 5 rfl) ?_
                refine lv_aload_n hx hb dX1_fitOn_124 rfl (lv_at hl 6 rfl) ?_
                refine lv_iload hx hb dX1_fitOn_125 (lv_at hl 1 rfl) ?_
                refine lv_iload hx hb dX1_fitOn_127 (lv_at hl 8 rfl) ?_
                refine lv_iconst (v := 1) hx hb dX1_fitOn_129 (by decide) ?_
                refine lv_iload hx hb dX1_fitOn_130 (lv_at hl 0 rfl) ?_
                refine lv_ishl hx hb dX1_fitOn_132 ?_
                refine lv_topi (fun t23 et23 => ?_)
                refine lv_ior hx hb dX1_fitOn_133 ?_
                refine lv_topi (fun t24 et24 => ?_)
                refine lv_aload_n hx hb dX1_fitOn_134 rfl (lv_at hl 6 rfl) ?_
                have hk25 : 21 ≤ kr + 13 ∧ kr + 13 < 27 := add_in 13 h1kr h2kr
                refine va_get (D := (dC, dI)) (ci := 6) (v := .ref (ad (kr + 13))) (C := RX6) (T := TX6) (N := 2) hx hb hts inG6 hown hK hP kr (gX_row cs ad nu19 kr h1kr h2kr) rfl 0 (by decide) (hts _ (List.mem_cons_of_mem _ mw_2_131)) (fun _ h9 => h9) rfl dX1_fitOn_135 ?_
                refine lv_iload_n hx hb dX1_fitOn_138 rfl (lv_at hl 7 rfl) ?_
                refine va_iald hx hb hK hP (kr + 13) 0 (gX_places cs ad nu19 (kr + 13) hk25.1 hk25.2) rfl (show vp_in 3 40 from (by unfold vp_in; decide)) dX1_fitOn_139 ?_
                refine lv_topi (fun y26 ey26 => ?_)
                have by26 : y26.toInt = (nu19 (kr + 13) (3 : Int32).toNatClampNeg).toInt := congrArg Int32.toInt ey26
                have hFc := fr_all (wR_D nu19 hD) hS hA
                refine va_callv (va_runV (As := [.ref (ad 4), .ref (ad kr), .int 4, .int t24, .int y26]) (rest := []) ⟨hx, hb, hml, hown, hts⟩ (sx_fitOn4 l dC dI cs ad nu19 ok H hP ((wR_D nu19 hD).weaken (fun _ _ _ _ => trivial)) kr h1kr h2kr t24 y26) (cwV 5 hts (wU_V mw_4_170 mw_4_167 mw_4_169 mw_0_21 mw_1_10) rfl rfl rfl (by decide +kernel) ⟨Nat.le_of_ble_eq_true rfl, Nat.le_of_ble_eq_true rfl⟩) ⟨sz_c, va_recv hK hP (ci := 1) (q0 := 33) rfl (gX_33 cs ad nu19), sz_m hK hz⟩ rfl rfl hl.1 rfl (lv_room (Nat.le_of_ble_eq_true rfl)) dX1_fitOn_140 ⟨Nat.zero_le _, Nat.zero_le _⟩) hS (fun q _ h => hFc q h) hFc (fun xi27 t H27 locs ht hvm hw27 hB hz1 hk1 hS => ?_)
                have hP : va_P (dC, dI) vwCl (wR 157 ad (EX cs ad) xi27) H27 := by rw [← ht]; exact hB
                obtain ⟨ok, hw27, hkp27_0, hkp27_1⟩ := hw27
                have kp28 : ∀ k : Nat, 8 ≤ k → k < 14 → xi27 k = mu k := fun k h1 h2 => (hkp27_0 k (Nat.le_trans (by decide) h1) (Nat.lt_of_lt_of_le h2 (by decide))).trans (kp21 k h1 h2)
                have kp29 : (∀ k f : Nat, Nat.testBit 510 (gpX k f) = true → xi27 k f = mu k f) := kp_t hkp27_1 (by decide) kp22
                refine lv_iinc (v := (v9_87 + 1)) (lv' := [(9, .int (v9_87 + 1)), (8, .int 4), (7, .int t13), (6, .int y1), (0, .ref (ad 33)), (1, .ref (ad 4)), (2, .ref (ad kr)), (3, .int 3), (4, .int vu), (5, .int vp)]) hx hb dX1_fitOn_143 hl (k := 0) rfl rfl (by decide) rfl (fun ls hl => ?_)
                refine loc_gen (P := fun w9 => lv_has ls 10 [(9, .int w9), (8, .int 4), (7, .int t13), (6, .int y1), (0, .ref (ad 33)), (1, .ref (ad 4)), (2, .ref (ad kr)), (3, .int 3), (4, .int vu), (5, .int vp)]) (v9_87 + 1) hl (fun w30 hw30 hl => ?_)
                have hl : lv_has ls 10 [(9, .int w30), (8, .int 4), (7, .int t13), (6, .int y1), (0, .ref (ad 33)), (1, .ref (ad 4)), (2, .ref (ad kr)), (3, .int 3), (4, .int vu), (5, .int vp)] := hl
                have aw30 : w30.toInt = v9_87.toInt + 1 := by rw [← hw30]; first | exact va1 (Int.lt_of_le_of_lt h_v9_87.2 (by decide)) | exact va1 (by omega)
                refine lv_goto (tgt := 87) hx hb dX1_fitOn_146 (by decide) ?_
                exact ih87 (w30) xi27 _ _ _ (by first | exact ms_up hm_87 aw30 h_v9_87.2 | exact ms_lt hm_87 (by omega) (by omega) | omega) (by first | exact rg_up aw30 h_v9_87 (by omega) | omega)  ok hP  kp28 kp29 hS (lv_sub hl [0, 1, 2, 3, 4, 5, 6, 7, 8, 9] rfl)
        exact loop87 ((7 + 1 - (0 : Int32).toInt).toNat + 1) (0) mu _ _ _ (Nat.lt_succ_self _) (by have h80 : (0 : Int32).toInt = 0 := rfl; exact ⟨by omega, by omega⟩)  ok hP  (fun _ _ _ => rfl) (fun _ _ _ => rfl) hS hl
      · have c_9 : ¬ y7.toInt = r8.toInt := il_ne c_9
        exact W.vret hx hb hr (fun t ht hW => ⟨⟨mu, rfl, ⟨ok, trivial, (fun _ _ _ => rfl), (fun _ _ _ => rfl)⟩, by first | (subst ht; exact hP) | (rw [ht]; exact hP) | (show va_P (dC, dI) vwCl (wR 157 ad (EX cs ad) mu) t.heap; rw [ht]; exact hP)⟩, hS.F ht⟩) hS.2.2 dX1_fitOn_58
  · have c_3 : y2.toInt ≤ 3 := il_nlt c_3
    refine lv_aload_n hx hb dX1_fitOn_16 rfl (lv_at hl 1 rfl) ?_
    refine lv_iload hx hb dX1_fitOn_17 (lv_at hl 0 rfl) ?_
    refine lv_iload_n hx hb dX1_fitOn_19 rfl (lv_at hl 4 rfl) ?_
    refine lv_iload hx hb dX1_fitOn_20 (lv_at hl 5 rfl) ?_
    have hFc := fr_all (wR_D mu hD) hS hA
    refine va_callv (va_runV (As := [.int y1, .int 3, .int vu]) (rest := []) ⟨hx, hb, hml, hown, hts⟩ (sx_F_arrive l dC dI cs ad mu ok s.heap hP ((wR_D mu hD).weaken (fun _ _ _ _ => trivial)) y1 3 vu (by have h51 : (3 : Int32).toInt = 3 := rfl; omega)) (cwV 3 hts (wU_V mw_4_174 mw_4_171 mw_4_173 mw_0_22 mw_1_10) rfl rfl rfl (by decide +kernel) ⟨Nat.le_of_ble_eq_true rfl, Nat.le_of_ble_eq_true rfl⟩) ⟨sz_c, va_recv hK hP (ci := 1) (q0 := 33) rfl (gX_33 cs ad mu), sz_m hK hz⟩ rfl rfl hl.1 rfl (lv_room (Nat.le_of_ble_eq_true rfl)) dX1_fitOn_22 ⟨Nat.zero_le _, Nat.zero_le _⟩) hS (fun q _ h => hFc q h) hFc (fun xi31 t H31 locs ht hvm hw31 hB hz1 hk1 hS => ?_)
    have hP : va_P (dC, dI) vwCl (wR 157 ad (EX cs ad) xi31) H31 := by rw [← ht]; exact hB
    obtain ⟨ok, hw31, hkp31_0, hkp31_1⟩ := hw31
    have ez32 : y2 = xi31 kr 1 := ey2.trans (congrFun (hkp31_0 kr (Nat.le_trans (by decide) h1kr) (Nat.lt_of_lt_of_le h2kr (by decide))) 1).symm
    have kp33 : ∀ k : Nat, 8 ≤ k → k < 14 → xi31 k = mu k := fun k h1 h2 => (hkp31_0 k (Nat.le_trans (by decide) h1) (Nat.lt_of_lt_of_le h2 (by decide))).trans ((fun _ _ _ => rfl) k h1 h2)
    have kp34 : (∀ k f : Nat, Nat.testBit 510 (gpX k f) = true → xi31 k f = mu k f) := kp_t hkp31_1 (by decide) (fun _ _ _ => rfl)
    exact W.vret hx hb hr (fun t ht hW => ⟨⟨xi31, rfl, ⟨ok, trivial, kp33, kp34⟩, by first | (subst ht; exact hP) | (rw [ht]; exact hP) | (show va_P (dC, dI) vwCl (wR 157 ad (EX cs ad) xi31) t.heap; rw [ht]; exact hP)⟩, hS.F ht⟩) hS.2.2 dX1_fitOn_25
set_option maxHeartbeats 4000000 in
set_option maxRecDepth 100000 in
/-- sx_fitOn2 -/
theorem sx_fitOn2 (l : Launch) (dC : Nat → ClassId) (dI : Nat → Nat → Nat) (cs : Nat → ClassId) (ad : Nat → Nat) (mu : Nat → Nat → Int32) (ok : okR loX hiX mu) (H : Heap) (hP : va_P (dC, dI) vwCl (wR 157 ad (EX cs ad) mu) H) (hD0 : va_D (fun _ => True) (wR 157 ad (EX cs ad) mu)) (kr : Nat) (h1kr : 8 ≤ kr) (h2kr : kr < 14) (vu : Int32) (vp : Int32) : Met l yX1_fitOn (wU yX1_fitOn cX1_fitOn 10 none) ({ frames := 6, cells := 0, slots := 0, locals := 199 }) (va_Pc [.ref (ad 33), .ref (ad 4), .ref (ad kr), .int 2, .int vu, .int vp] (sz_P (dC, dI) vwCl (tyW cs) H)) (va_Qv (fun (xi : Nat → Nat → Int32) => okR loX hiX xi ∧ (True) ∧ (∀ k : Nat, 8 ≤ k → k < 14 → xi k = mu k) ∧ (∀ k f : Nat, Nat.testBit 510 (gpX k f) = true → xi k f = mu k f)) (fun xi t => va_P (dC, dI) vwCl (wR 157 ad (EX cs ad) xi) t.heap) (va_A (wR 157 ad (EX cs ad) mu) H.size)) 0 0 (va_A (wR 157 ad (EX cs ad) mu) H.size) := by
  refine Met.ofW (cc := cX1_fitOn) (maxL := 10) (ret := none) (by decide) rfl ?_
  intro p e s m args below meth c s₁ B hml hv
  obtain ⟨rfl, hh, hK, hz⟩ := hv
  have hx := B.exec
  have hb := B.bytes
  have hr := B.returns
  have hts := atoms_spec (ws := (wU yX1_fitOn cX1_fitOn 10 none)) B.pre
  have hown : s.vm.findClass RX1 = some m.cls := findClass_of_methodNamed B.named
  have hlocks := B.notSynchronized
  subst hh
  have hD := hD0.self (sz := s.heap.size)
  have hA : ∀ q : Nat, s.heap.size ≤ q → (va_A (wR 157 ad (EX cs ad) mu) s.heap.size) q := fun q h => Or.inr h
  have hS : va_S (va_A (wR 157 ad (EX cs ad) mu) s.heap.size) s.heap s.heap [] := va_S.rf
  have hl := lv_entry ([.ref (ad 33), .ref (ad 4), .ref (ad kr), .int 2, .int vu, .int vp]) (n := 10) (Nat.le_of_ble_eq_true rfl)
  rw [lg_entry_eq]
  generalize (lg_sl ([.ref (ad 33), .ref (ad 4), .ref (ad kr), .int 2, .int vu, .int vp]) ++ List.replicate (10 - (lg_sl ([.ref (ad 33), .ref (ad 4), .ref (ad kr), .int 2, .int vu, .int vp])).length) Slot.unset).toArray = ls at hl ⊢
  have hl : lv_has ls 10 [(0, .ref (ad 33)), (1, .ref (ad 4)), (2, .ref (ad kr)), (3, .int 2), (4, .int vu), (5, .int vp)] := hl
  refine lv_aload_n hx hb dX1_fitOn_0 rfl (lv_at hl 0 rfl) ?_
  refine va_get (D := (dC, dI)) (ci := 1) (v := .ref (ad 59)) (C := RX1) (T := TX1) (N := 5) hx hb hts inG1 hown hK hP 33 (gX_33 cs ad mu) rfl 0 (by decide) (hts _ (List.mem_cons_of_mem _ mw_2_104)) (fun _ h9 => h9) rfl dX1_fitOn_1 ?_
  refine lv_iload_n hx hb dX1_fitOn_4 rfl (lv_at hl 3 rfl) ?_
  refine va_iald hx hb hK hP 59 0 (gX_59 cs ad mu) rfl (show vp_in 2 7 from (by unfold vp_in; decide)) dX1_fitOn_5 ?_
  refine lv_topi (fun y1 ey1 => ?_)
  have by1 : y1.toInt = (mu 59 (2 : Int32).toNatClampNeg).toInt := congrArg Int32.toInt ey1
  have gy1 : 0 ≤ y1.toInt ∧ y1.toInt ≤ 6 := by rw [ey1]; exact rX_59_s ok (2 : Int32).toNatClampNeg
  refine lv_istore (lv' := [(6, .int y1), (0, .ref (ad 33)), (1, .ref (ad 4)), (2, .ref (ad kr)), (3, .int 2), (4, .int vu), (5, .int vp)]) hx hb dX1_fitOn_6 hl (by decide) rfl (fun ls hl => ?_)
  refine lv_iload_n hx hb dX1_fitOn_8 rfl (lv_at hl 4 rfl) ?_
  refine lv_aload_n hx hb dX1_fitOn_9 rfl (lv_at hl 3 rfl) ?_
  refine va_get (D := (dC, dI)) (ci := 6) (v := .int (mu kr 1)) (C := RX6) (T := TX6) (N := 2) hx hb hts inG6 hown hK hP kr (gX_row cs ad mu kr h1kr h2kr) rfl 1 (by decide) (hts _ (List.mem_cons_of_mem _ mw_2_133)) (fun _ h9 => h9) rfl dX1_fitOn_10 ?_
  refine lv_topi (fun y2 ey2 => ?_)
  have by2 : y2.toInt = (mu kr 1).toInt := congrArg Int32.toInt ey2
  have gy2 : -1 ≤ y2.toInt ∧ y2.toInt ≤ 40 := by rw [ey2]; exact rX_row_1 ok kr h1kr h2kr
  refine lv_icmp_lt (tgt := 26) hx hb dX1_fitOn_13 (by decide) (fun c_3 => ?_) (fun c_3 => ?_)
  · have c_3 : 2 < y2.toInt := il_lt c_3
    refine lv_aload_n hx hb dX1_fitOn_26 rfl (lv_at hl 2 rfl) ?_
    refine va_get (D := (dC, dI)) (ci := 10) (v := .ref (ad 34)) (C := RX10) (T := TX10) (N := 8) hx hb hts inG10 hown hK hP 4 (gX_4 cs ad mu) rfl 0 (by decide) (hts _ (List.mem_cons_of_mem _ mw_1_144)) (fun _ h9 => h9) rfl dX1_fitOn_27 ?_
    refine lv_iload hx hb dX1_fitOn_30 (lv_at hl 0 rfl) ?_
    refine va_iald hx hb hK hP 34 0 (gX_34 cs ad mu) rfl (show vp_in y1 7 from vi_of (by omega) (by omega)) dX1_fitOn_32 ?_
    refine lv_topi (fun y4 ey4 => ?_)
    have by4 : y4.toInt = (mu 34 y1.toNatClampNeg).toInt := congrArg Int32.toInt ey4
    refine lv_iconst (v := 3) hx hb dX1_fitOn_33 (by decide) ?_
    refine lv_icmp_eq (tgt := 58) hx hb dX1_fitOn_34 (by decide) (fun c_5 => ?_) (fun c_5 => ?_)
    · have c_5 : y4.toInt = 3 := il_eq c_5
      exact W.vret hx hb hr (fun t ht hW => ⟨⟨mu, rfl, ⟨ok, trivial, (fun _ _ _ => rfl), (fun _ _ _ => rfl)⟩, by first | (subst ht; exact hP) | (rw [ht]; exact hP) | (show va_P (dC, dI) vwCl (wR 157 ad (EX cs ad) mu) t.heap; rw [ht]; exact hP)⟩, hS.F ht⟩) hS.2.2 dX1_fitOn_58
    · have c_5 : ¬ y4.toInt = 3 := il_ne c_5
      refine lv_aload_n hx hb dX1_fitOn_37 rfl (lv_at hl 3 rfl) ?_
      have hk6 : 21 ≤ kr + 13 ∧ kr + 13 < 27 := add_in 13 h1kr h2kr
      refine va_get (D := (dC, dI)) (ci := 6) (v := .ref (ad (kr + 13))) (C := RX6) (T := TX6) (N := 2) hx hb hts inG6 hown hK hP kr (gX_row cs ad mu kr h1kr h2kr) rfl 0 (by decide) (hts _ (List.mem_cons_of_mem _ mw_2_131)) (fun _ h9 => h9) rfl dX1_fitOn_38 ?_
      refine lv_iload_n hx hb dX1_fitOn_41 rfl (lv_at hl 4 rfl) ?_
      refine va_iald hx hb hK hP (kr + 13) 0 (gX_places cs ad mu (kr + 13) hk6.1 hk6.2) rfl (show vp_in 2 40 from (by unfold vp_in; decide)) dX1_fitOn_42 ?_
      refine lv_topi (fun y7 ey7 => ?_)
      have by7 : y7.toInt = (mu (kr + 13) (2 : Int32).toNatClampNeg).toInt := congrArg Int32.toInt ey7
      refine lv_aload_n hx hb dX1_fitOn_43 rfl (lv_at hl 2 rfl) ?_
      refine va_get (D := (dC, dI)) (ci := 10) (v := .ref (ad 34)) (C := RX10) (T := TX10) (N := 8) hx hb hts inG10 hown hK hP 4 (gX_4 cs ad mu) rfl 0 (by decide) (hts _ (List.mem_cons_of_mem _ mw_1_144)) (fun _ h9 => h9) rfl dX1_fitOn_44 ?_
      refine lv_iload hx hb dX1_fitOn_47 (lv_at hl 0 rfl) ?_
      refine va_iald hx hb hK hP 34 0 (gX_34 cs ad mu) rfl (show vp_in y1 7 from vi_of (by omega) (by omega)) dX1_fitOn_49 ?_
      refine lq_i y4 ey4.symm ?_
      refine lv_iload hx hb dX1_fitOn_50 (lv_at hl 6 rfl) ?_
      refine cr_i (va_runSN (As := [.int y4, .int vp]) (rest := [.int y7]) ⟨hx, hb, hml, hown, hts⟩ (sx_priceAsked l dC dI (tyW cs) s.heap y4 vp) ⟨va_cnB 2 hts (wU_in mw_3_107) rfl rfl rfl (hz.1) (hts _ (List.mem_cons_of_mem _ mw_1_1)) (by decide +kernel) ⟨Nat.le_of_ble_eq_true rfl, Nat.le_of_ble_eq_true rfl⟩, (hts _ (List.mem_cons_of_mem _ mw_3_106)), trivial⟩ ⟨sz_c, sz_m hK hz⟩ rfl rfl hl.1 rfl (lv_room (Nat.le_of_ble_eq_true rfl)) dX1_fitOn_52 ⟨Nat.zero_le _, Nat.zero_le _⟩) hS (fun r8 hw8 locs hS => ?_)
      obtain ⟨hfe8, hw8⟩ := hw8
      refine lv_icmp_eq (tgt := 59) hx hb dX1_fitOn_55 (by decide) (fun c_9 => ?_) (fun c_9 => ?_)
      · have c_9 : y7.toInt = r8.toInt := il_eq c_9
        refine lv_aload_n hx hb dX1_fitOn_59 rfl (lv_at hl 2 rfl) ?_
        refine lv_iload hx hb dX1_fitOn_60 (lv_at hl 0 rfl) ?_
        refine lv_aload_n hx hb dX1_fitOn_62 rfl (lv_at hl 2 rfl) ?_
        refine va_get (D := (dC, dI)) (ci := 10) (v := .ref (ad 5)) (C := RX10) (T := TX10) (N := 8) hx hb hts inG10 hown hK hP 4 (gX_4 cs ad mu) rfl 3 (by decide) (hts _ (List.mem_cons_of_mem _ mw_1_155)) (fun _ h9 => h9) rfl dX1_fitOn_63 ?_
        refine va_get (D := (dC, dI)) (ci := 8) (v := .int (mu 5 2)) (C := RX8) (T := TX8) (N := 6) hx hb hts inG8 hown hK hP 5 (gX_5 cs ad mu) rfl 2 (by decide) (hts _ (List.mem_cons_of_mem _ mw_1_115)) (fun _ h9 => h9) rfl dX1_fitOn_66 ?_
        refine lv_topi (fun y10 ey10 => ?_)
        have by10 : y10.toInt = (mu 5 2).toInt := congrArg Int32.toInt ey10
        refine cr_i (va_runV (As := [.int y1, .int y10]) (rest := []) ⟨hx, hb, hml, hown, hts⟩ (sx_near l dC dI cs ad mu ok s.heap hP y1 y10) (cwV 2 hts (wU_V mw_3_84 mw_4_177 mw_3_82 mw_3_83 mw_1_2) rfl rfl rfl (by decide +kernel) ⟨Nat.le_of_ble_eq_true rfl, Nat.le_of_ble_eq_true rfl⟩) ⟨sz_c, va_recv hK hP (ci := 10) (q0 := 4) rfl (gX_4 cs ad mu), sz_m hK hz⟩ rfl rfl hl.1 rfl (lv_room (Nat.le_of_ble_eq_true rfl)) dX1_fitOn_69 ⟨Nat.zero_le _, Nat.zero_le _⟩) hS (fun r11 hw11 locs hS => ?_)
        obtain ⟨hfe11, hw11⟩ := hw11
        refine lv_iload hx hb dX1_fitOn_72 (lv_at hl 5 rfl) ?_
        refine lv_iconst (v := (-1)) hx hb dX1_fitOn_74 (by decide) ?_
        refine lv_ixor hx hb dX1_fitOn_75 ?_
        refine lv_topi (fun t12 et12 => ?_)
        refine lv_iand hx hb dX1_fitOn_76 ?_
        refine lv_topi (fun t13 et13 => ?_)
        refine lv_istore (lv' := [(7, .int t13), (6, .int y1), (0, .ref (ad 33)), (1, .ref (ad 4)), (2, .ref (ad kr)), (3, .int 2), (4, .int vu), (5, .int vp)]) hx hb dX1_fitOn_77 hl (by decide) rfl (fun ls hl => ?_)
        refine lv_iload_n hx hb dX1_fitOn_79 rfl (lv_at hl 5 rfl) ?_
        refine lv_iconst (v := 1) hx hb dX1_fitOn_80 (by decide) ?_
        refine lv_iadd hx hb dX1_fitOn_81 ?_
        refine lq_i 3 (by decide) ?_
        refine lv_istore (lv' := [(8, .int 3), (7, .int t13), (6, .int y1), (0, .ref (ad 33)), (1, .ref (ad 4)), (2, .ref (ad kr)), (3, .int 2), (4, .int vu), (5, .int vp)]) hx hb dX1_fitOn_82 hl (by decide) rfl (fun ls hl => ?_)
        refine lv_iconst (v := 0) hx hb dX1_fitOn_84 (by decide) ?_
        refine lv_istore (lv' := [(9, .int 0), (8, .int 3), (7, .int t13), (6, .int y1), (0, .ref (ad 33)), (1, .ref (ad 4)), (2, .ref (ad kr)), (3, .int 2), (4, .int vu), (5, .int vp)]) hx hb dX1_fitOn_85 hl (by decide) rfl (fun ls hl => ?_)
        have loop87 : ∀ (n87 : Nat) (v9_87 : Int32) (nu87_ : Nat → Nat → Int32) (H : Heap) (locs : List Loc) (ls : Array Slot), (7 + 1 - v9_87.toInt).toNat < n87 → (0 ≤ v9_87.toInt ∧ v9_87.toInt ≤ 7) → okR loX hiX nu87_ → va_P (dC, dI) vwCl (wR 157 ad (EX cs ad) nu87_) H → (∀ k : Nat, 8 ≤ k → k < 14 → nu87_ k = mu k) → (∀ k f : Nat, Nat.testBit 510 (gpX k f) = true → nu87_ k f = mu k f) → va_S (va_A (wR 157 ad (EX cs ad) mu) s.heap.size) s.heap H locs → lv_has ls 10 [(9, .int v9_87), (8, .int 3), (7, .int t13), (6, .int y1), (0, .ref (ad 33)), (1, .ref (ad 4)), (2, .ref (ad kr)), (3, .int 2), (4, .int vu), (5, .int vp)] → W p l e (headSpec (wU yX1_fitOn cX1_fitOn 10 none) ({ frames := 6, cells := 0, slots := 0, locals := 199 })).room s m ([.ref (ad 33), .ref (ad 4), .ref (ad kr), .int 2, .int vu, .int vp] : List Value).toArray below meth c H locs 0 0 (MQ below (va_Qv (fun (xi : Nat → Nat → Int32) => okR loX hiX xi ∧ (True) ∧ (∀ k : Nat, 8 ≤ k → k < 14 → xi k = mu k) ∧ (∀ k f : Nat, Nat.testBit 510 (gpX k f) = true → xi k f = mu k f)) (fun xi t => va_P (dC, dI) vwCl (wR 157 ad (EX cs ad) xi) t.heap) (va_A (wR 157 ad (EX cs ad) mu) s.heap.size)) ([.ref (ad 33), .ref (ad 4), .ref (ad kr), .int 2, .int vu, .int vp] : List Value).toArray s 0 0 (va_A (wR 157 ad (EX cs ad) mu) s.heap.size)) (F0 m 87 ls []) := by
          intro n87
          induction n87 with
          | zero => intro v9_87 nu87_ H locs ls hm; exact absurd hm (Nat.not_lt_zero _)
          | succ n87 ih87 =>
            intro v9_87 nu87_ H locs ls hm_87 h_v9_87 ok hP kq87_0 kq87_1 hS hl
            refine lv_iload hx hb dX1_fitOn_87 (lv_at hl 0 rfl) ?_
            refine lv_aload_n hx hb dX1_fitOn_89 rfl (lv_at hl 5 rfl) ?_
            refine va_get (D := (dC, dI)) (ci := 10) (v := .int (nu87_ 4 6)) (C := RX10) (T := TX10) (N := 8) hx hb hts inG10 hown hK hP 4 (gX_4 cs ad nu87_) rfl 6 (by decide) (hts _ (List.mem_cons_of_mem _ mw_1_161)) (fun _ h9 => h9) rfl dX1_fitOn_90 ?_
            refine lv_topi (fun y14 ey14 => ?_)
            have by14 : y14.toInt = (nu87_ 4 6).toInt := congrArg Int32.toInt ey14
            have gy14 : 0 ≤ y14.toInt ∧ y14.toInt ≤ 7 := by rw [ey14]; exact rX_4_6 ok
            refine lv_icmp_ge (tgt := 149) hx hb dX1_fitOn_93 (by decide) (fun c_15 => ?_) (fun c_15 => ?_)
            · have c_15 : y14.toInt ≤ v9_87.toInt := il_le c_15
              exact W.vret hx hb hr (fun t ht hW => ⟨⟨nu87_, rfl, ⟨ok, trivial, kq87_0, kq87_1⟩, by first | (subst ht; exact hP) | (rw [ht]; exact hP) | (show va_P (dC, dI) vwCl (wR 157 ad (EX cs ad) nu87_) t.heap; rw [ht]; exact hP)⟩, hS.F ht⟩) hS.2.2 dX1_fitOn_149
            · have c_15 : v9_87.toInt < y14.toInt := il_nle c_15
              refine lv_iload hx hb dX1_fitOn_96 (lv_at hl 1 rfl) ?_
              refine lv_bipush (v := 7) hx hb dX1_fitOn_98 (by decide) ?_
              refine lv_icmp_ge (tgt := 149) hx hb dX1_fitOn_100 (by decide) (fun c => absurd c (by decide)) (fun _ => ?_)
              refine lv_iload hx hb dX1_fitOn_103 (lv_at hl 2 rfl) ?_
              refine lv_iload hx hb dX1_fitOn_105 (lv_at hl 0 rfl) ?_
              refine cr_i (va_runSN (As := [.int t13, .int v9_87]) (rest := []) ⟨hx, hb, hml, hown, hts⟩ (sx_hasBit l dC dI (tyW cs) H t13 v9_87) ⟨va_cnB 2 hts (wU_in mw_3_87) rfl rfl rfl (hz.2.1) (hts _ (List.mem_cons_of_mem _ mw_1_1)) (by decide +kernel) ⟨Nat.le_of_ble_eq_true rfl, Nat.le_of_ble_eq_true rfl⟩, (hts _ (List.mem_cons_of_mem _ mw_3_86)), trivial⟩ ⟨sz_c, sz_m hK hz⟩ rfl rfl hl.1 rfl (lv_room (Nat.le_of_ble_eq_true rfl)) dX1_fitOn_107 ⟨Nat.zero_le _, Nat.zero_le _⟩) hS (fun r16 hw16 locs hS => ?_)
              obtain ⟨hfe16, hw16⟩ := hw16
              have gr16 : 0 ≤ r16.toInt ∧ r16.toInt ≤ 1 := hw16
              refine lv_if_eq (tgt := 143) hx hb dX1_fitOn_110 (by decide) (fun c_17 => ?_) (fun c_17 => ?_)
              · have c_17 : r16.toInt = 0 := il_eq c_17
                refine lv_iinc (v := (v9_87 + 1)) (lv' := [(9, .int (v9_87 + 1)), (8, .int 3), (7, .int t13), (6, .int y1), (0, .ref (ad 33)), (1, .ref (ad 4)), (2, .ref (ad kr)), (3, .int 2), (4, .int vu), (5, .int vp)]) hx hb dX1_fitOn_143 hl (k := 0) rfl rfl (by decide) rfl (fun ls hl => ?_)
                refine loc_gen (P := fun w9 => lv_has ls 10 [(9, .int w9), (8, .int 3), (7, .int t13), (6, .int y1), (0, .ref (ad 33)), (1, .ref (ad 4)), (2, .ref (ad kr)), (3, .int 2), (4, .int vu), (5, .int vp)]) (v9_87 + 1) hl (fun w18 hw18 hl => ?_)
                have hl : lv_has ls 10 [(9, .int w18), (8, .int 3), (7, .int t13), (6, .int y1), (0, .ref (ad 33)), (1, .ref (ad 4)), (2, .ref (ad kr)), (3, .int 2), (4, .int vu), (5, .int vp)] := hl
                have aw18 : w18.toInt = v9_87.toInt + 1 := by rw [← hw18]; first | exact va1 (Int.lt_of_le_of_lt h_v9_87.2 (by decide)) | exact va1 (by omega)
                refine lv_goto (tgt := 87) hx hb dX1_fitOn_146 (by decide) ?_
                exact ih87 (w18) nu87_ _ _ _ (by first | exact ms_up hm_87 aw18 h_v9_87.2 | exact ms_lt hm_87 (by omega) (by omega) | omega) (by first | exact rg_up aw18 h_v9_87 (by omega) | omega)  ok hP  kq87_0 kq87_1 hS (lv_sub hl [0, 1, 2, 3, 4, 5, 6, 7, 8, 9] rfl)
              · have c_17 : ¬ r16.toInt = 0 := il_ne c_17
                refine lv_aload_n hx hb dX1_fitOn_113 rfl (lv_at hl 4 rfl) ?_
                refine va_get (D := (dC, dI)) (ci := 1) (v := .ref (ad 59)) (C := RX1) (T := TX1) (N := 5) hx hb hts inG1 hown hK hP 33 (gX_33 cs ad nu87_) rfl 0 (by decide) (hts _ (List.mem_cons_of_mem _ mw_2_104)) (fun _ h9 => h9) rfl dX1_fitOn_114 ?_
                refine lv_iload hx hb dX1_fitOn_117 (lv_at hl 1 rfl) ?_
                refine lv_iload hx hb dX1_fitOn_119 (lv_at hl 0 rfl) ?_
                refine va_iast hx hb hK hP (wR_D nu87_ hD) hS 59 0 (gX_59 cs ad nu87_) rfl (show vp_in 3 7 from (by unfold vp_in; decide)) dX1_fitOn_121 (fun H locs hP _ hS => ?_)
                refine wr_gen (upd (nu87_ 59) (3 : Int32).toNatClampNeg v9_87) hP (rfl) (fun nu19 hn19 hP => ?_)
                have ok := tX_59_s ok (3 : Int32).toNatClampNeg hn19 (by omega)
                have ez20 : y14 = nu19 4 6 := ey14.trans (congrFun (up_k hn19 (by decide)) 6).symm
                have kp21 : ∀ k : Nat, 8 ≤ k → k < 14 → nu19 k = mu k := fun k h1 h2 => (up_k hn19 (ne_hi (by decide) h2).symm).trans (kq87_0 k h1 h2)
                have kp22 : (∀ k f : Nat, Nat.testBit 510 (gpX k f) = true → nu19 k f = mu k f) := kp_c 0 hn19 (fun _ => rfl) (by decide) kq87_1
                refine lv_aload_n hx hb dX1_fitOn_122 rfl (lv_at hl 4 rfl) ?_
                refine lv_aload_n hx hb dX1_fitOn_123 rfl (lv_at hl 5 rfl) ?_
                refine lv_aload_n hx hb dX1_fitOn_124 rfl (lv_at hl 6 rfl) ?_
                refine lv_iload hx hb dX1_fitOn_125 (lv_at hl 1 rfl) ?_
                refine lv_iload hx hb dX1_fitOn_127 (lv_at hl 8 rfl) ?_
                refine lv_iconst (v := 1) hx hb dX1_fitOn_129 (by decide) ?_
                refine lv_iload hx hb dX1_fitOn_130 (lv_at hl 0 rfl) ?_
                refine lv_ishl hx hb dX1_fitOn_132 ?_
                refine lv_topi (fun t23 et23 => ?_)
                refine lv_ior hx hb dX1_fitOn_133 ?_
                refine lv_topi (fun t24 et24 => ?_)
                refine lv_aload_n hx hb dX1_fitOn_134 rfl (lv_at hl 6 rfl) ?_
                have hk25 : 21 ≤ kr + 13 ∧ kr + 13 < 27 := add_in 13 h1kr h2kr
                refine va_get (D := (dC, dI)) (ci := 6) (v := .ref (ad (kr + 13))) (C := RX6) (T := TX6) (N := 2) hx hb hts inG6 hown hK hP kr (gX_row cs ad nu19 kr h1kr h2kr) rfl 0 (by decide) (hts _ (List.mem_cons_of_mem _ mw_2_131)) (fun _ h9 => h9) rfl dX1_fitOn_135 ?_
                refine lv_iload_n hx hb dX1_fitOn_138 rfl (lv_at hl 7 rfl) ?_
                refine va_iald hx hb hK hP (kr + 13) 0 (gX_places cs ad nu19 (kr + 13) hk25.1 hk25.2) rfl (show vp_in 2 40 from (by unfold vp_in; decide)) dX1_fitOn_139 ?_
                refine lv_topi (fun y26 ey26 => ?_)
                have by26 : y26.toInt = (nu19 (kr + 13) (2 : Int32).toNatClampNeg).toInt := congrArg Int32.toInt ey26
                have hFc := fr_all (wR_D nu19 hD) hS hA
                refine va_callv (va_runV (As := [.ref (ad 4), .ref (ad kr), .int 3, .int t24, .int y26]) (rest := []) ⟨hx, hb, hml, hown, hts⟩ (sx_fitOn3 l dC dI cs ad nu19 ok H hP ((wR_D nu19 hD).weaken (fun _ _ _ _ => trivial)) kr h1kr h2kr t24 y26) (cwV 5 hts (wU_V mw_4_170 mw_4_167 mw_4_169 mw_0_21 mw_1_10) rfl rfl rfl (by decide +kernel) ⟨Nat.le_of_ble_eq_true rfl, Nat.le_of_ble_eq_true rfl⟩) ⟨sz_c, va_recv hK hP (ci := 1) (q0 := 33) rfl (gX_33 cs ad nu19), sz_m hK hz⟩ rfl rfl hl.1 rfl (lv_room (Nat.le_of_ble_eq_true rfl)) dX1_fitOn_140 ⟨Nat.zero_le _, Nat.zero_le _⟩) hS (fun q _ h => hFc q h) hFc (fun xi27 t H27 locs ht hvm hw27 hB hz1 hk1 hS => ?_)
                have hP : va_P (dC, dI) vwCl (wR 157 ad (EX cs ad) xi27) H27 := by rw [← ht]; exact hB
                obtain ⟨ok, hw27, hkp27_0, hkp27_1⟩ := hw27
                have kp28 : ∀ k : Nat, 8 ≤ k → k < 14 → xi27 k = mu k := fun k h1 h2 => (hkp27_0 k (Nat.le_trans (by decide) h1) (Nat.lt_of_lt_of_le h2 (by decide))).trans (kp21 k h1 h2)
                have kp29 : (∀ k f : Nat, Nat.testBit 510 (gpX k f) = true → xi27 k f = mu k f) := kp_t hkp27_1 (by decide) kp22
                refine lv_iinc (v := (v9_87 + 1)) (lv' := [(9, .int (v9_87 + 1)), (8, .int 3), (7, .int t13), (6, .int y1), (0, .ref (ad 33)), (1, .ref (ad 4)), (2, .ref (ad kr)), (3, .int 2), (4, .int vu), (5, .int vp)]) hx hb dX1_fitOn_143 hl (k := 0) rfl rfl (by decide) rfl (fun ls hl => ?_)
                refine loc_gen (P := fun w9 => lv_has ls 10 [(9, .int w9), (8, .int 3), (7, .int t13), (6, .int y1), (0, .ref (ad 33)), (1, .ref (ad 4)), (2, .ref (ad kr)), (3, .int 2), (4, .int vu), (5, .int vp)]) (v9_87 + 1) hl (fun w30 hw30 hl => ?_)
                have hl : lv_has ls 10 [(9, .int w30), (8, .int 3), (7, .int t13), (6, .int y1), (0, .ref (ad 33)), (1, .ref (ad 4)), (2, .ref (ad kr)), (3, .int 2), (4, .int vu), (5, .int vp)] := hl
                have aw30 : w30.toInt = v9_87.toInt + 1 := by rw [← hw30]; first | exact va1 (Int.lt_of_le_of_lt h_v9_87.2 (by decide)) | exact va1 (by omega)
                refine lv_goto (tgt := 87) hx hb dX1_fitOn_146 (by decide) ?_
                exact ih87 (w30) xi27 _ _ _ (by first | exact ms_up hm_87 aw30 h_v9_87.2 | exact ms_lt hm_87 (by omega) (by omega) | omega) (by first | exact rg_up aw30 h_v9_87 (by omega) | omega)  ok hP  kp28 kp29 hS (lv_sub hl [0, 1, 2, 3, 4, 5, 6, 7, 8, 9] rfl)
        exact loop87 ((7 + 1 - (0 : Int32).toInt).toNat + 1) (0) mu _ _ _ (Nat.lt_succ_self _) (by have h80 : (0 : Int32).toInt = 0 := rfl; exact ⟨by omega, by omega⟩)  ok hP  (fun _ _ _ => rfl) (fun _ _ _ => rfl) hS hl
      · have c_9 : ¬ y7.toInt = r8.toInt := il_ne c_9
        exact W.vret hx hb hr (fun t ht hW => ⟨⟨mu, rfl, ⟨ok, trivial, (fun _ _ _ => rfl), (fun _ _ _ => rfl)⟩, by first | (subst ht; exact hP) | (rw [ht]; exact hP) | (show va_P (dC, dI) vwCl (wR 157 ad (EX cs ad) mu) t.heap; rw [ht]; exact hP)⟩, hS.F ht⟩) hS.2.2 dX1_fitOn_58
  · have c_3 : y2.toInt ≤ 2 := il_nlt c_3
    refine lv_aload_n hx hb dX1_fitOn_16 rfl (lv_at hl 1 rfl) ?_
    refine lv_iload hx hb dX1_fitOn_17 (lv_at hl 0 rfl) ?_
    refine lv_iload_n hx hb dX1_fitOn_19 rfl (lv_at hl 4 rfl) ?_
    refine lv_iload hx hb dX1_fitOn_20 (lv_at hl 5 rfl) ?_
    have hFc := fr_all (wR_D mu hD) hS hA
    refine va_callv (va_runV (As := [.int y1, .int 2, .int vu]) (rest := []) ⟨hx, hb, hml, hown, hts⟩ (sx_F_arrive l dC dI cs ad mu ok s.heap hP ((wR_D mu hD).weaken (fun _ _ _ _ => trivial)) y1 2 vu (by have h51 : (2 : Int32).toInt = 2 := rfl; omega)) (cwV 3 hts (wU_V mw_4_174 mw_4_171 mw_4_173 mw_0_22 mw_1_10) rfl rfl rfl (by decide +kernel) ⟨Nat.le_of_ble_eq_true rfl, Nat.le_of_ble_eq_true rfl⟩) ⟨sz_c, va_recv hK hP (ci := 1) (q0 := 33) rfl (gX_33 cs ad mu), sz_m hK hz⟩ rfl rfl hl.1 rfl (lv_room (Nat.le_of_ble_eq_true rfl)) dX1_fitOn_22 ⟨Nat.zero_le _, Nat.zero_le _⟩) hS (fun q _ h => hFc q h) hFc (fun xi31 t H31 locs ht hvm hw31 hB hz1 hk1 hS => ?_)
    have hP : va_P (dC, dI) vwCl (wR 157 ad (EX cs ad) xi31) H31 := by rw [← ht]; exact hB
    obtain ⟨ok, hw31, hkp31_0, hkp31_1⟩ := hw31
    have ez32 : y2 = xi31 kr 1 := ey2.trans (congrFun (hkp31_0 kr (Nat.le_trans (by decide) h1kr) (Nat.lt_of_lt_of_le h2kr (by decide))) 1).symm
    have kp33 : ∀ k : Nat, 8 ≤ k → k < 14 → xi31 k = mu k := fun k h1 h2 => (hkp31_0 k (Nat.le_trans (by decide) h1) (Nat.lt_of_lt_of_le h2 (by decide))).trans ((fun _ _ _ => rfl) k h1 h2)
    have kp34 : (∀ k f : Nat, Nat.testBit 510 (gpX k f) = true → xi31 k f = mu k f) := kp_t hkp31_1 (by decide) (fun _ _ _ => rfl)
    exact W.vret hx hb hr (fun t ht hW => ⟨⟨xi31, rfl, ⟨ok, trivial, kp33, kp34⟩, by first | (subst ht; exact hP) | (rw [ht]; exact hP) | (show va_P (dC, dI) vwCl (wR 157 ad (EX cs ad) xi31) t.heap; rw [ht]; exact hP)⟩, hS.F ht⟩) hS.2.2 dX1_fitOn_25
set_option maxHeartbeats 4000000 in
set_option maxRecDepth 100000 in
/-- sx_fitOn1 -/
theorem sx_fitOn1 (l : Launch) (dC : Nat → ClassId) (dI : Nat → Nat → Nat) (cs : Nat → ClassId) (ad : Nat → Nat) (mu : Nat → Nat → Int32) (ok : okR loX hiX mu) (H : Heap) (hP : va_P (dC, dI) vwCl (wR 157 ad (EX cs ad) mu) H) (hD0 : va_D (fun _ => True) (wR 157 ad (EX cs ad) mu)) (kr : Nat) (h1kr : 8 ≤ kr) (h2kr : kr < 14) (vu : Int32) (vp : Int32) : Met l yX1_fitOn (wU yX1_fitOn cX1_fitOn 10 none) ({ frames := 7, cells := 0, slots := 0, locals := 228 }) (va_Pc [.ref (ad 33), .ref (ad 4), .ref (ad kr), .int 1, .int vu, .int vp] (sz_P (dC, dI) vwCl (tyW cs) H)) (va_Qv (fun (xi : Nat → Nat → Int32) => okR loX hiX xi ∧ (True) ∧ (∀ k : Nat, 8 ≤ k → k < 14 → xi k = mu k) ∧ (∀ k f : Nat, Nat.testBit 510 (gpX k f) = true → xi k f = mu k f)) (fun xi t => va_P (dC, dI) vwCl (wR 157 ad (EX cs ad) xi) t.heap) (va_A (wR 157 ad (EX cs ad) mu) H.size)) 0 0 (va_A (wR 157 ad (EX cs ad) mu) H.size) := by
  refine Met.ofW (cc := cX1_fitOn) (maxL := 10) (ret := none) (by decide) rfl ?_
  intro p e s m args below meth c s₁ B hml hv
  obtain ⟨rfl, hh, hK, hz⟩ := hv
  have hx := B.exec
  have hb := B.bytes
  have hr := B.returns
  have hts := atoms_spec (ws := (wU yX1_fitOn cX1_fitOn 10 none)) B.pre
  have hown : s.vm.findClass RX1 = some m.cls := findClass_of_methodNamed B.named
  have hlocks := B.notSynchronized
  subst hh
  have hD := hD0.self (sz := s.heap.size)
  have hA : ∀ q : Nat, s.heap.size ≤ q → (va_A (wR 157 ad (EX cs ad) mu) s.heap.size) q := fun q h => Or.inr h
  have hS : va_S (va_A (wR 157 ad (EX cs ad) mu) s.heap.size) s.heap s.heap [] := va_S.rf
  have hl := lv_entry ([.ref (ad 33), .ref (ad 4), .ref (ad kr), .int 1, .int vu, .int vp]) (n := 10) (Nat.le_of_ble_eq_true rfl)
  rw [lg_entry_eq]
  generalize (lg_sl ([.ref (ad 33), .ref (ad 4), .ref (ad kr), .int 1, .int vu, .int vp]) ++ List.replicate (10 - (lg_sl ([.ref (ad 33), .ref (ad 4), .ref (ad kr), .int 1, .int vu, .int vp])).length) Slot.unset).toArray = ls at hl ⊢
  have hl : lv_has ls 10 [(0, .ref (ad 33)), (1, .ref (ad 4)), (2, .ref (ad kr)), (3, .int 1), (4, .int vu), (5, .int vp)] := hl
  refine lv_aload_n hx hb dX1_fitOn_0 rfl (lv_at hl 0 rfl) ?_
  refine va_get (D := (dC, dI)) (ci := 1) (v := .ref (ad 59)) (C := RX1) (T := TX1) (N := 5) hx hb hts inG1 hown hK hP 33 (gX_33 cs ad mu) rfl 0 (by decide) (hts _ (List.mem_cons_of_mem _ mw_2_104)) (fun _ h9 => h9) rfl dX1_fitOn_1 ?_
  refine lv_iload_n hx hb dX1_fitOn_4 rfl (lv_at hl 3 rfl) ?_
  refine va_iald hx hb hK hP 59 0 (gX_59 cs ad mu) rfl (show vp_in 1 7 from (by unfold vp_in; decide)) dX1_fitOn_5 ?_
  refine lv_topi (fun y1 ey1 => ?_)
  have by1 : y1.toInt = (mu 59 (1 : Int32).toNatClampNeg).toInt := congrArg Int32.toInt ey1
  have gy1 : 0 ≤ y1.toInt ∧ y1.toInt ≤ 6 := by rw [ey1]; exact rX_59_s ok (1 : Int32).toNatClampNeg
  refine lv_istore (lv' := [(6, .int y1), (0, .ref (ad 33)), (1, .ref (ad 4)), (2, .ref (ad kr)), (3, .int 1), (4, .int vu), (5, .int vp)]) hx hb dX1_fitOn_6 hl (by decide) rfl (fun ls hl => ?_)
  refine lv_iload_n hx hb dX1_fitOn_8 rfl (lv_at hl 4 rfl) ?_
  refine lv_aload_n hx hb dX1_fitOn_9 rfl (lv_at hl 3 rfl) ?_
  refine va_get (D := (dC, dI)) (ci := 6) (v := .int (mu kr 1)) (C := RX6) (T := TX6) (N := 2) hx hb hts inG6 hown hK hP kr (gX_row cs ad mu kr h1kr h2kr) rfl 1 (by decide) (hts _ (List.mem_cons_of_mem _ mw_2_133)) (fun _ h9 => h9) rfl dX1_fitOn_10 ?_
  refine lv_topi (fun y2 ey2 => ?_)
  have by2 : y2.toInt = (mu kr 1).toInt := congrArg Int32.toInt ey2
  have gy2 : -1 ≤ y2.toInt ∧ y2.toInt ≤ 40 := by rw [ey2]; exact rX_row_1 ok kr h1kr h2kr
  refine lv_icmp_lt (tgt := 26) hx hb dX1_fitOn_13 (by decide) (fun c_3 => ?_) (fun c_3 => ?_)
  · have c_3 : 1 < y2.toInt := il_lt c_3
    refine lv_aload_n hx hb dX1_fitOn_26 rfl (lv_at hl 2 rfl) ?_
    refine va_get (D := (dC, dI)) (ci := 10) (v := .ref (ad 34)) (C := RX10) (T := TX10) (N := 8) hx hb hts inG10 hown hK hP 4 (gX_4 cs ad mu) rfl 0 (by decide) (hts _ (List.mem_cons_of_mem _ mw_1_144)) (fun _ h9 => h9) rfl dX1_fitOn_27 ?_
    refine lv_iload hx hb dX1_fitOn_30 (lv_at hl 0 rfl) ?_
    refine va_iald hx hb hK hP 34 0 (gX_34 cs ad mu) rfl (show vp_in y1 7 from vi_of (by omega) (by omega)) dX1_fitOn_32 ?_
    refine lv_topi (fun y4 ey4 => ?_)
    have by4 : y4.toInt = (mu 34 y1.toNatClampNeg).toInt := congrArg Int32.toInt ey4
    refine lv_iconst (v := 3) hx hb dX1_fitOn_33 (by decide) ?_
    refine lv_icmp_eq (tgt := 58) hx hb dX1_fitOn_34 (by decide) (fun c_5 => ?_) (fun c_5 => ?_)
    · have c_5 : y4.toInt = 3 := il_eq c_5
      exact W.vret hx hb hr (fun t ht hW => ⟨⟨mu, rfl, ⟨ok, trivial, (fun _ _ _ => rfl), (fun _ _ _ => rfl)⟩, by first | (subst ht; exact hP) | (rw [ht]; exact hP) | (show va_P (dC, dI) vwCl (wR 157 ad (EX cs ad) mu) t.heap; rw [ht]; exact hP)⟩, hS.F ht⟩) hS.2.2 dX1_fitOn_58
    · have c_5 : ¬ y4.toInt = 3 := il_ne c_5
      refine lv_aload_n hx hb dX1_fitOn_37 rfl (lv_at hl 3 rfl) ?_
      have hk6 : 21 ≤ kr + 13 ∧ kr + 13 < 27 := add_in 13 h1kr h2kr
      refine va_get (D := (dC, dI)) (ci := 6) (v := .ref (ad (kr + 13))) (C := RX6) (T := TX6) (N := 2) hx hb hts inG6 hown hK hP kr (gX_row cs ad mu kr h1kr h2kr) rfl 0 (by decide) (hts _ (List.mem_cons_of_mem _ mw_2_131)) (fun _ h9 => h9) rfl dX1_fitOn_38 ?_
      refine lv_iload_n hx hb dX1_fitOn_41 rfl (lv_at hl 4 rfl) ?_
      refine va_iald hx hb hK hP (kr + 13) 0 (gX_places cs ad mu (kr + 13) hk6.1 hk6.2) rfl (show vp_in 1 40 from (by unfold vp_in; decide)) dX1_fitOn_42 ?_
      refine lv_topi (fun y7 ey7 => ?_)
      have by7 : y7.toInt = (mu (kr + 13) (1 : Int32).toNatClampNeg).toInt := congrArg Int32.toInt ey7
      refine lv_aload_n hx hb dX1_fitOn_43 rfl (lv_at hl 2 rfl) ?_
      refine va_get (D := (dC, dI)) (ci := 10) (v := .ref (ad 34)) (C := RX10) (T := TX10) (N := 8) hx hb hts inG10 hown hK hP 4 (gX_4 cs ad mu) rfl 0 (by decide) (hts _ (List.mem_cons_of_mem _ mw_1_144)) (fun _ h9 => h9) rfl dX1_fitOn_44 ?_
      refine lv_iload hx hb dX1_fitOn_47 (lv_at hl 0 rfl) ?_
      refine va_iald hx hb hK hP 34 0 (gX_34 cs ad mu) rfl (show vp_in y1 7 from vi_of (by omega) (by omega)) dX1_fitOn_49 ?_
      refine lq_i y4 ey4.symm ?_
      refine lv_iload hx hb dX1_fitOn_50 (lv_at hl 6 rfl) ?_
      refine cr_i (va_runSN (As := [.int y4, .int vp]) (rest := [.int y7]) ⟨hx, hb, hml, hown, hts⟩ (sx_priceAsked l dC dI (tyW cs) s.heap y4 vp) ⟨va_cnB 2 hts (wU_in mw_3_107) rfl rfl rfl (hz.1) (hts _ (List.mem_cons_of_mem _ mw_1_1)) (by decide +kernel) ⟨Nat.le_of_ble_eq_true rfl, Nat.le_of_ble_eq_true rfl⟩, (hts _ (List.mem_cons_of_mem _ mw_3_106)), trivial⟩ ⟨sz_c, sz_m hK hz⟩ rfl rfl hl.1 rfl (lv_room (Nat.le_of_ble_eq_true rfl)) dX1_fitOn_52 ⟨Nat.zero_le _, Nat.zero_le _⟩) hS (fun r8 hw8 locs hS => ?_)
      obtain ⟨hfe8, hw8⟩ := hw8
      refine lv_icmp_eq (tgt := 59) hx hb dX1_fitOn_55 (by decide) (fun c_9 => ?_) (fun c_9 => ?_)
      · have c_9 : y7.toInt = r8.toInt := il_eq c_9
        refine lv_aload_n hx hb dX1_fitOn_59 rfl (lv_at hl 2 rfl) ?_
        refine lv_iload hx hb dX1_fitOn_60 (lv_at hl 0 rfl) ?_
        refine lv_aload_n hx hb dX1_fitOn_62 rfl (lv_at hl 2 rfl) ?_
        refine va_get (D := (dC, dI)) (ci := 10) (v := .ref (ad 5)) (C := RX10) (T := TX10) (N := 8) hx hb hts inG10 hown hK hP 4 (gX_4 cs ad mu) rfl 3 (by decide) (hts _ (List.mem_cons_of_mem _ mw_1_155)) (fun _ h9 => h9) rfl dX1_fitOn_63 ?_
        refine va_get (D := (dC, dI)) (ci := 8) (v := .int (mu 5 2)) (C := RX8) (T := TX8) (N := 6) hx hb hts inG8 hown hK hP 5 (gX_5 cs ad mu) rfl 2 (by decide) (hts _ (List.mem_cons_of_mem _ mw_1_115)) (fun _ h9 => h9) rfl dX1_fitOn_66 ?_
        refine lv_topi (fun y10 ey10 => ?_)
        have by10 : y10.toInt = (mu 5 2).toInt := congrArg Int32.toInt ey10
        refine cr_i (va_runV (As := [.int y1, .int y10]) (rest := []) ⟨hx, hb, hml, hown, hts⟩ (sx_near l dC dI cs ad mu ok s.heap hP y1 y10) (cwV 2 hts (wU_V mw_3_84 mw_4_177 mw_3_82 mw_3_83 mw_1_2) rfl rfl rfl (by decide +kernel) ⟨Nat.le_of_ble_eq_true rfl, Nat.le_of_ble_eq_true rfl⟩) ⟨sz_c, va_recv hK hP (ci := 10) (q0 := 4) rfl (gX_4 cs ad mu), sz_m hK hz⟩ rfl rfl hl.1 rfl (lv_room (Nat.le_of_ble_eq_true rfl)) dX1_fitOn_69 ⟨Nat.zero_le _, Nat.zero_le _⟩) hS (fun r11 hw11 locs hS => ?_)
        obtain ⟨hfe11, hw11⟩ := hw11
        refine lv_iload hx hb dX1_fitOn_72 (lv_at hl 5 rfl) ?_
        refine lv_iconst (v := (-1)) hx hb dX1_fitOn_74 (by decide) ?_
        refine lv_ixor hx hb dX1_fitOn_75 ?_
        refine lv_topi (fun t12 et12 => ?_)
        refine lv_iand hx hb dX1_fitOn_76 ?_
        refine lv_topi (fun t13 et13 => ?_)
        refine lv_istore (lv' := [(7, .int t13), (6, .int y1), (0, .ref (ad 33)), (1, .ref (ad 4)), (2, .ref (ad kr)), (3, .int 1), (4, .int vu), (5, .int vp)]) hx hb dX1_fitOn_77 hl (by decide) rfl (fun ls hl => ?_)
        refine lv_iload_n hx hb dX1_fitOn_79 rfl (lv_at hl 5 rfl) ?_
        refine lv_iconst (v := 1) hx hb dX1_fitOn_80 (by decide) ?_
        refine lv_iadd hx hb dX1_fitOn_81 ?_
        refine lq_i 2 (by decide) ?_
        refine lv_istore (lv' := [(8, .int 2), (7, .int t13), (6, .int y1), (0, .ref (ad 33)), (1, .ref (ad 4)), (2, .ref (ad kr)), (3, .int 1), (4, .int vu), (5, .int vp)]) hx hb dX1_fitOn_82 hl (by decide) rfl (fun ls hl => ?_)
        refine lv_iconst (v := 0) hx hb dX1_fitOn_84 (by decide) ?_
        refine lv_istore (lv' := [(9, .int 0), (8, .int 2), (7, .int t13), (6, .int y1), (0, .ref (ad 33)), (1, .ref (ad 4)), (2, .ref (ad kr)), (3, .int 1), (4, .int vu), (5, .int vp)]) hx hb dX1_fitOn_85 hl (by decide) rfl (fun ls hl => ?_)
        have loop87 : ∀ (n87 : Nat) (v9_87 : Int32) (nu87_ : Nat → Nat → Int32) (H : Heap) (locs : List Loc) (ls : Array Slot), (7 + 1 - v9_87.toInt).toNat < n87 → (0 ≤ v9_87.toInt ∧ v9_87.toInt ≤ 7) → okR loX hiX nu87_ → va_P (dC, dI) vwCl (wR 157 ad (EX cs ad) nu87_) H → (∀ k : Nat, 8 ≤ k → k < 14 → nu87_ k = mu k) → (∀ k f : Nat, Nat.testBit 510 (gpX k f) = true → nu87_ k f = mu k f) → va_S (va_A (wR 157 ad (EX cs ad) mu) s.heap.size) s.heap H locs → lv_has ls 10 [(9, .int v9_87), (8, .int 2), (7, .int t13), (6, .int y1), (0, .ref (ad 33)), (1, .ref (ad 4)), (2, .ref (ad kr)), (3, .int 1), (4, .int vu), (5, .int vp)] → W p l e (headSpec (wU yX1_fitOn cX1_fitOn 10 none) ({ frames := 7, cells := 0, slots := 0, locals := 228 })).room s m ([.ref (ad 33), .ref (ad 4), .ref (ad kr), .int 1, .int vu, .int vp] : List Value).toArray below meth c H locs 0 0 (MQ below (va_Qv (fun (xi : Nat → Nat → Int32) => okR loX hiX xi ∧ (True) ∧ (∀ k : Nat, 8 ≤ k → k < 14 → xi k = mu k) ∧ (∀ k f : Nat, Nat.testBit 510 (gpX k f) = true → xi k f = mu k f)) (fun xi t => va_P (dC, dI) vwCl (wR 157 ad (EX cs ad) xi) t.heap) (va_A (wR 157 ad (EX cs ad) mu) s.heap.size)) ([.ref (ad 33), .ref (ad 4), .ref (ad kr), .int 1, .int vu, .int vp] : List Value).toArray s 0 0 (va_A (wR 157 ad (EX cs ad) mu) s.heap.size)) (F0 m 87 ls []) := by
          intro n87
          induction n87 with
          | zero => intro v9_87 nu87_ H locs ls hm; exact absurd hm (Nat.not_lt_zero _)
          | succ n87 ih87 =>
            intro v9_87 nu87_ H locs ls hm_87 h_v9_87 ok hP kq87_0 kq87_1 hS hl
            refine lv_iload hx hb dX1_fitOn_87 (lv_at hl 0 rfl) ?_
            refine lv_aload_n hx hb dX1_fitOn_89 rfl (lv_at hl 5 rfl) ?_
            refine va_get (D := (dC, dI)) (ci := 10) (v := .int (nu87_ 4 6)) (C := RX10) (T := TX10) (N := 8) hx hb hts inG10 hown hK hP 4 (gX_4 cs ad nu87_) rfl 6 (by decide) (hts _ (List.mem_cons_of_mem _ mw_1_161)) (fun _ h9 => h9) rfl dX1_fitOn_90 ?_
            refine lv_topi (fun y14 ey14 => ?_)
            have by14 : y14.toInt = (nu87_ 4 6).toInt := congrArg Int32.toInt ey14
            have gy14 : 0 ≤ y14.toInt ∧ y14.toInt ≤ 7 := by rw [ey14]; exact rX_4_6 ok
            refine lv_icmp_ge (tgt := 149) hx hb dX1_fitOn_93 (by decide) (fun c_15 => ?_) (fun c_15 => ?_)
            · have c_15 : y14.toInt ≤ v9_87.toInt := il_le c_15
              exact W.vret hx hb hr (fun t ht hW => ⟨⟨nu87_, rfl, ⟨ok, trivial, kq87_0, kq87_1⟩, by first | (subst ht; exact hP) | (rw [ht]; exact hP) | (show va_P (dC, dI) vwCl (wR 157 ad (EX cs ad) nu87_) t.heap; rw [ht]; exact hP)⟩, hS.F ht⟩) hS.2.2 dX1_fitOn_149
            · have c_15 : v9_87.toInt < y14.toInt := il_nle c_15
              refine lv_iload hx hb dX1_fitOn_96 (lv_at hl 1 rfl) ?_
              refine lv_bipush (v := 7) hx hb dX1_fitOn_98 (by decide) ?_
              refine lv_icmp_ge (tgt := 149) hx hb dX1_fitOn_100 (by decide) (fun c => absurd c (by decide)) (fun _ => ?_)
              refine lv_iload hx hb dX1_fitOn_103 (lv_at hl 2 rfl) ?_
              refine lv_iload hx hb dX1_fitOn_105 (lv_at hl 0 rfl) ?_
              refine cr_i (va_runSN (As := [.int t13, .int v9_87]) (rest := []) ⟨hx, hb, hml, hown, hts⟩ (sx_hasBit l dC dI (tyW cs) H t13 v9_87) ⟨va_cnB 2 hts (wU_in mw_3_87) rfl rfl rfl (hz.2.1) (hts _ (List.mem_cons_of_mem _ mw_1_1)) (by decide +kernel) ⟨Nat.le_of_ble_eq_true rfl, Nat.le_of_ble_eq_true rfl⟩, (hts _ (List.mem_cons_of_mem _ mw_3_86)), trivial⟩ ⟨sz_c, sz_m hK hz⟩ rfl rfl hl.1 rfl (lv_room (Nat.le_of_ble_eq_true rfl)) dX1_fitOn_107 ⟨Nat.zero_le _, Nat.zero_le _⟩) hS (fun r16 hw16 locs hS => ?_)
              obtain ⟨hfe16, hw16⟩ := hw16
              have gr16 : 0 ≤ r16.toInt ∧ r16.toInt ≤ 1 := hw16
              refine lv_if_eq (tgt := 143) hx hb dX1_fitOn_110 (by decide) (fun c_17 => ?_) (fun c_17 => ?_)
              · have c_17 : r16.toInt = 0 := il_eq c_17
                refine lv_iinc (v := (v9_87 + 1)) (lv' := [(9, .int (v9_87 + 1)), (8, .int 2), (7, .int t13), (6, .int y1), (0, .ref (ad 33)), (1, .ref (ad 4)), (2, .ref (ad kr)), (3, .int 1), (4, .int vu), (5, .int vp)]) hx hb dX1_fitOn_143 hl (k := 0) rfl rfl (by decide) rfl (fun ls hl => ?_)
                refine loc_gen (P := fun w9 => lv_has ls 10 [(9, .int w9), (8, .int 2), (7, .int t13), (6, .int y1), (0, .ref (ad 33)), (1, .ref (ad 4)), (2, .ref (ad kr)), (3, .int 1), (4, .int vu), (5, .int vp)]) (v9_87 + 1) hl (fun w18 hw18 hl => ?_)
                have hl : lv_has ls 10 [(9, .int w18), (8, .int 2), (7, .int t13), (6, .int y1), (0, .ref (ad 33)), (1, .ref (ad 4)), (2, .ref (ad kr)), (3, .int 1), (4, .int vu), (5, .int vp)] := hl
                have aw18 : w18.toInt = v9_87.toInt + 1 := by rw [← hw18]; first | exact va1 (Int.lt_of_le_of_lt h_v9_87.2 (by decide)) | exact va1 (by omega)
                refine lv_goto (tgt := 87) hx hb dX1_fitOn_146 (by decide) ?_
                exact ih87 (w18) nu87_ _ _ _ (by first | exact ms_up hm_87 aw18 h_v9_87.2 | exact ms_lt hm_87 (by omega) (by omega) | omega) (by first | exact rg_up aw18 h_v9_87 (by omega) | omega)  ok hP  kq87_0 kq87_1 hS (lv_sub hl [0, 1, 2, 3, 4, 5, 6, 7, 8, 9] rfl)
              · have c_17 : ¬ r16.toInt = 0 := il_ne c_17
                refine lv_aload_n hx hb dX1_fitOn_113 rfl (lv_at hl 4 rfl) ?_
                refine va_get (D := (dC, dI)) (ci := 1) (v := .ref (ad 59)) (C := RX1) (T := TX1) (N := 5) hx hb hts inG1 hown hK hP 33 (gX_33 cs ad nu87_) rfl 0 (by decide) (hts _ (List.mem_cons_of_mem _ mw_2_104)) (fun _ h9 => h9) rfl dX1_fitOn_114 ?_
                refine lv_iload hx hb dX1_fitOn_117 (lv_at hl 1 rfl) ?_
                refine lv_iload hx hb dX1_fitOn_119 (lv_at hl 0 rfl) ?_
                refine va_iast hx hb hK hP (wR_D nu87_ hD) hS 59 0 (gX_59 cs ad nu87_) rfl (show vp_in 2 7 from (by unfold vp_in; decide)) dX1_fitOn_121 (fun H locs hP _ hS => ?_)
                refine wr_gen (upd (nu87_ 59) (2 : Int32).toNatClampNeg v9_87) hP (rfl) (fun nu19 hn19 hP => ?_)
                have ok := tX_59_s ok (2 : Int32).toNatClampNeg hn19 (by omega)
                have ez20 : y14 = nu19 4 6 := ey14.trans (congrFun (up_k hn19 (by decide)) 6).symm
                have kp21 : ∀ k : Nat, 8 ≤ k → k < 14 → nu19 k = mu k := fun k h1 h2 => (up_k hn19 (ne_hi (by decide) h2).symm).trans (kq87_0 k h1 h2)
                have kp22 : (∀ k f : Nat, Nat.testBit 510 (gpX k f) = true → nu19 k f = mu k f) := kp_c 0 hn19 (fun _ => rfl) (by decide) kq87_1
                refine lv_aload_n hx hb dX1_fitOn_122 rfl (lv_at hl 4 rfl) ?_
                refine lv_aload_n hx hb dX1_fitOn_123 rfl (lv_at hl 5 rfl) ?_
                refine lv_aload_n hx hb dX1_fitOn_124 rfl (lv_at hl 6 rfl) ?_
                refine lv_iload hx hb dX1_fitOn_125 (lv_at hl 1 rfl) ?_
                refine lv_iload hx hb dX1_fitOn_127 (lv_at hl 8 rfl) ?_
                refine lv_iconst (v := 1) hx hb dX1_fitOn_129 (by decide) ?_
                refine lv_iload hx hb dX1_fitOn_130 (lv_at hl 0 rfl) ?_
                refine lv_ishl hx hb dX1_fitOn_132 ?_
                refine lv_topi (fun t23 et23 => ?_)
                refine lv_ior hx hb dX1_fitOn_133 ?_
                refine lv_topi (fun t24 et24 => ?_)
                refine lv_aload_n hx hb dX1_fitOn_134 rfl (lv_at hl 6 rfl) ?_
                have hk25 : 21 ≤ kr + 13 ∧ kr + 13 < 27 := add_in 13 h1kr h2kr
                refine va_get (D := (dC, dI)) (ci := 6) (v := .ref (ad (kr + 13))) (C := RX6) (T := TX6) (N := 2) hx hb hts inG6 hown hK hP kr (gX_row cs ad nu19 kr h1kr h2kr) rfl 0 (by decide) (hts _ (List.mem_cons_of_mem _ mw_2_131)) (fun _ h9 => h9) rfl dX1_fitOn_135 ?_
                refine lv_iload_n hx hb dX1_fitOn_138 rfl (lv_at hl 7 rfl) ?_
                refine va_iald hx hb hK hP (kr + 13) 0 (gX_places cs ad nu19 (kr + 13) hk25.1 hk25.2) rfl (show vp_in 1 40 from (by unfold vp_in; decide)) dX1_fitOn_139 ?_
                refine lv_topi (fun y26 ey26 => ?_)
                have by26 : y26.toInt = (nu19 (kr + 13) (1 : Int32).toNatClampNeg).toInt := congrArg Int32.toInt ey26
                have hFc := fr_all (wR_D nu19 hD) hS hA
                refine va_callv (va_runV (As := [.ref (ad 4), .ref (ad kr), .int 2, .int t24, .int y26]) (rest := []) ⟨hx, hb, hml, hown, hts⟩ (sx_fitOn2 l dC dI cs ad nu19 ok H hP ((wR_D nu19 hD).weaken (fun _ _ _ _ => trivial)) kr h1kr h2kr t24 y26) (cwV 5 hts (wU_V mw_4_170 mw_4_167 mw_4_169 mw_0_21 mw_1_10) rfl rfl rfl (by decide +kernel) ⟨Nat.le_of_ble_eq_true rfl, Nat.le_of_ble_eq_true rfl⟩) ⟨sz_c, va_recv hK hP (ci := 1) (q0 := 33) rfl (gX_33 cs ad nu19), sz_m hK hz⟩ rfl rfl hl.1 rfl (lv_room (Nat.le_of_ble_eq_true rfl)) dX1_fitOn_140 ⟨Nat.zero_le _, Nat.zero_le _⟩) hS (fun q _ h => hFc q h) hFc (fun xi27 t H27 locs ht hvm hw27 hB hz1 hk1 hS => ?_)
                have hP : va_P (dC, dI) vwCl (wR 157 ad (EX cs ad) xi27) H27 := by rw [← ht]; exact hB
                obtain ⟨ok, hw27, hkp27_0, hkp27_1⟩ := hw27
                have kp28 : ∀ k : Nat, 8 ≤ k → k < 14 → xi27 k = mu k := fun k h1 h2 => (hkp27_0 k (Nat.le_trans (by decide) h1) (Nat.lt_of_lt_of_le h2 (by decide))).trans (kp21 k h1 h2)
                have kp29 : (∀ k f : Nat, Nat.testBit 510 (gpX k f) = true → xi27 k f = mu k f) := kp_t hkp27_1 (by decide) kp22
                refine lv_iinc (v := (v9_87 + 1)) (lv' := [(9, .int (v9_87 + 1)), (8, .int 2), (7, .int t13), (6, .int y1), (0, .ref (ad 33)), (1, .ref (ad 4)), (2, .ref (ad kr)), (3, .int 1), (4, .int vu), (5, .int vp)]) hx hb dX1_fitOn_143 hl (k := 0) rfl rfl (by decide) rfl (fun ls hl => ?_)
                refine loc_gen (P := fun w9 => lv_has ls 10 [(9, .int w9), (8, .int 2), (7, .int t13), (6, .int y1), (0, .ref (ad 33)), (1, .ref (ad 4)), (2, .ref (ad kr)), (3, .int 1), (4, .int vu), (5, .int vp)]) (v9_87 + 1) hl (fun w30 hw30 hl => ?_)
                have hl : lv_has ls 10 [(9, .int w30), (8, .int 2), (7, .int t13), (6, .int y1), (0, .ref (ad 33)), (1, .ref (ad 4)), (2, .ref (ad kr)), (3, .int 1), (4, .int vu), (5, .int vp)] := hl
                have aw30 : w30.toInt = v9_87.toInt + 1 := by rw [← hw30]; first | exact va1 (Int.lt_of_le_of_lt h_v9_87.2 (by decide)) | exact va1 (by omega)
                refine lv_goto (tgt := 87) hx hb dX1_fitOn_146 (by decide) ?_
                exact ih87 (w30) xi27 _ _ _ (by first | exact ms_up hm_87 aw30 h_v9_87.2 | exact ms_lt hm_87 (by omega) (by omega) | omega) (by first | exact rg_up aw30 h_v9_87 (by omega) | omega)  ok hP  kp28 kp29 hS (lv_sub hl [0, 1, 2, 3, 4, 5, 6, 7, 8, 9] rfl)
        exact loop87 ((7 + 1 - (0 : Int32).toInt).toNat + 1) (0) mu _ _ _ (Nat.lt_succ_self _) (by have h80 : (0 : Int32).toInt = 0 := rfl; exact ⟨by omega, by omega⟩)  ok hP  (fun _ _ _ => rfl) (fun _ _ _ => rfl) hS hl
      · have c_9 : ¬ y7.toInt = r8.toInt := il_ne c_9
        exact W.vret hx hb hr (fun t ht hW => ⟨⟨mu, rfl, ⟨ok, trivial, (fun _ _ _ => rfl), (fun _ _ _ => rfl)⟩, by first | (subst ht; exact hP) | (rw [ht]; exact hP) | (show va_P (dC, dI) vwCl (wR 157 ad (EX cs ad) mu) t.heap; rw [ht]; exact hP)⟩, hS.F ht⟩) hS.2.2 dX1_fitOn_58
  · have c_3 : y2.toInt ≤ 1 := il_nlt c_3
    refine lv_aload_n hx hb dX1_fitOn_16 rfl (lv_at hl 1 rfl) ?_
    refine lv_iload hx hb dX1_fitOn_17 (lv_at hl 0 rfl) ?_
    refine lv_iload_n hx hb dX1_fitOn_19 rfl (lv_at hl 4 rfl) ?_
    refine lv_iload hx hb dX1_fitOn_20 (lv_at hl 5 rfl) ?_
    have hFc := fr_all (wR_D mu hD) hS hA
    refine va_callv (va_runV (As := [.int y1, .int 1, .int vu]) (rest := []) ⟨hx, hb, hml, hown, hts⟩ (sx_F_arrive l dC dI cs ad mu ok s.heap hP ((wR_D mu hD).weaken (fun _ _ _ _ => trivial)) y1 1 vu (by have h51 : (1 : Int32).toInt = 1 := rfl; omega)) (cwV 3 hts (wU_V mw_4_174 mw_4_171 mw_4_173 mw_0_22 mw_1_10) rfl rfl rfl (by decide +kernel) ⟨Nat.le_of_ble_eq_true rfl, Nat.le_of_ble_eq_true rfl⟩) ⟨sz_c, va_recv hK hP (ci := 1) (q0 := 33) rfl (gX_33 cs ad mu), sz_m hK hz⟩ rfl rfl hl.1 rfl (lv_room (Nat.le_of_ble_eq_true rfl)) dX1_fitOn_22 ⟨Nat.zero_le _, Nat.zero_le _⟩) hS (fun q _ h => hFc q h) hFc (fun xi31 t H31 locs ht hvm hw31 hB hz1 hk1 hS => ?_)
    have hP : va_P (dC, dI) vwCl (wR 157 ad (EX cs ad) xi31) H31 := by rw [← ht]; exact hB
    obtain ⟨ok, hw31, hkp31_0, hkp31_1⟩ := hw31
    have ez32 : y2 = xi31 kr 1 := ey2.trans (congrFun (hkp31_0 kr (Nat.le_trans (by decide) h1kr) (Nat.lt_of_lt_of_le h2kr (by decide))) 1).symm
    have kp33 : ∀ k : Nat, 8 ≤ k → k < 14 → xi31 k = mu k := fun k h1 h2 => (hkp31_0 k (Nat.le_trans (by decide) h1) (Nat.lt_of_lt_of_le h2 (by decide))).trans ((fun _ _ _ => rfl) k h1 h2)
    have kp34 : (∀ k f : Nat, Nat.testBit 510 (gpX k f) = true → xi31 k f = mu k f) := kp_t hkp31_1 (by decide) (fun _ _ _ => rfl)
    exact W.vret hx hb hr (fun t ht hW => ⟨⟨xi31, rfl, ⟨ok, trivial, kp33, kp34⟩, by first | (subst ht; exact hP) | (rw [ht]; exact hP) | (show va_P (dC, dI) vwCl (wR 157 ad (EX cs ad) xi31) t.heap; rw [ht]; exact hP)⟩, hS.F ht⟩) hS.2.2 dX1_fitOn_25
set_option maxHeartbeats 4000000 in
set_option maxRecDepth 100000 in
/-- sx_fitOn0 -/
theorem sx_fitOn0 (l : Launch) (dC : Nat → ClassId) (dI : Nat → Nat → Nat) (cs : Nat → ClassId) (ad : Nat → Nat) (mu : Nat → Nat → Int32) (ok : okR loX hiX mu) (H : Heap) (hP : va_P (dC, dI) vwCl (wR 157 ad (EX cs ad) mu) H) (hD0 : va_D (fun _ => True) (wR 157 ad (EX cs ad) mu)) (kr : Nat) (h1kr : 8 ≤ kr) (h2kr : kr < 14) (vu : Int32) (vp : Int32) : Met l yX1_fitOn (wU yX1_fitOn cX1_fitOn 10 none) ({ frames := 8, cells := 0, slots := 0, locals := 257 }) (va_Pc [.ref (ad 33), .ref (ad 4), .ref (ad kr), .int 0, .int vu, .int vp] (sz_P (dC, dI) vwCl (tyW cs) H)) (va_Qv (fun (xi : Nat → Nat → Int32) => okR loX hiX xi ∧ (True) ∧ (∀ k : Nat, 8 ≤ k → k < 14 → xi k = mu k) ∧ (∀ k f : Nat, Nat.testBit 510 (gpX k f) = true → xi k f = mu k f)) (fun xi t => va_P (dC, dI) vwCl (wR 157 ad (EX cs ad) xi) t.heap) (va_A (wR 157 ad (EX cs ad) mu) H.size)) 0 0 (va_A (wR 157 ad (EX cs ad) mu) H.size) := by
  refine Met.ofW (cc := cX1_fitOn) (maxL := 10) (ret := none) (by decide) rfl ?_
  intro p e s m args below meth c s₁ B hml hv
  obtain ⟨rfl, hh, hK, hz⟩ := hv
  have hx := B.exec
  have hb := B.bytes
  have hr := B.returns
  have hts := atoms_spec (ws := (wU yX1_fitOn cX1_fitOn 10 none)) B.pre
  have hown : s.vm.findClass RX1 = some m.cls := findClass_of_methodNamed B.named
  have hlocks := B.notSynchronized
  subst hh
  have hD := hD0.self (sz := s.heap.size)
  have hA : ∀ q : Nat, s.heap.size ≤ q → (va_A (wR 157 ad (EX cs ad) mu) s.heap.size) q := fun q h => Or.inr h
  have hS : va_S (va_A (wR 157 ad (EX cs ad) mu) s.heap.size) s.heap s.heap [] := va_S.rf
  have hl := lv_entry ([.ref (ad 33), .ref (ad 4), .ref (ad kr), .int 0, .int vu, .int vp]) (n := 10) (Nat.le_of_ble_eq_true rfl)
  rw [lg_entry_eq]
  generalize (lg_sl ([.ref (ad 33), .ref (ad 4), .ref (ad kr), .int 0, .int vu, .int vp]) ++ List.replicate (10 - (lg_sl ([.ref (ad 33), .ref (ad 4), .ref (ad kr), .int 0, .int vu, .int vp])).length) Slot.unset).toArray = ls at hl ⊢
  have hl : lv_has ls 10 [(0, .ref (ad 33)), (1, .ref (ad 4)), (2, .ref (ad kr)), (3, .int 0), (4, .int vu), (5, .int vp)] := hl
  refine lv_aload_n hx hb dX1_fitOn_0 rfl (lv_at hl 0 rfl) ?_
  refine va_get (D := (dC, dI)) (ci := 1) (v := .ref (ad 59)) (C := RX1) (T := TX1) (N := 5) hx hb hts inG1 hown hK hP 33 (gX_33 cs ad mu) rfl 0 (by decide) (hts _ (List.mem_cons_of_mem _ mw_2_104)) (fun _ h9 => h9) rfl dX1_fitOn_1 ?_
  refine lv_iload_n hx hb dX1_fitOn_4 rfl (lv_at hl 3 rfl) ?_
  refine va_iald hx hb hK hP 59 0 (gX_59 cs ad mu) rfl (show vp_in 0 7 from (by unfold vp_in; decide)) dX1_fitOn_5 ?_
  refine lv_topi (fun y1 ey1 => ?_)
  have by1 : y1.toInt = (mu 59 (0 : Int32).toNatClampNeg).toInt := congrArg Int32.toInt ey1
  have gy1 : 0 ≤ y1.toInt ∧ y1.toInt ≤ 6 := by rw [ey1]; exact rX_59_s ok (0 : Int32).toNatClampNeg
  refine lv_istore (lv' := [(6, .int y1), (0, .ref (ad 33)), (1, .ref (ad 4)), (2, .ref (ad kr)), (3, .int 0), (4, .int vu), (5, .int vp)]) hx hb dX1_fitOn_6 hl (by decide) rfl (fun ls hl => ?_)
  refine lv_iload_n hx hb dX1_fitOn_8 rfl (lv_at hl 4 rfl) ?_
  refine lv_aload_n hx hb dX1_fitOn_9 rfl (lv_at hl 3 rfl) ?_
  refine va_get (D := (dC, dI)) (ci := 6) (v := .int (mu kr 1)) (C := RX6) (T := TX6) (N := 2) hx hb hts inG6 hown hK hP kr (gX_row cs ad mu kr h1kr h2kr) rfl 1 (by decide) (hts _ (List.mem_cons_of_mem _ mw_2_133)) (fun _ h9 => h9) rfl dX1_fitOn_10 ?_
  refine lv_topi (fun y2 ey2 => ?_)
  have by2 : y2.toInt = (mu kr 1).toInt := congrArg Int32.toInt ey2
  have gy2 : -1 ≤ y2.toInt ∧ y2.toInt ≤ 40 := by rw [ey2]; exact rX_row_1 ok kr h1kr h2kr
  refine lv_icmp_lt (tgt := 26) hx hb dX1_fitOn_13 (by decide) (fun c_3 => ?_) (fun c_3 => ?_)
  · have c_3 : 0 < y2.toInt := il_lt c_3
    refine lv_aload_n hx hb dX1_fitOn_26 rfl (lv_at hl 2 rfl) ?_
    refine va_get (D := (dC, dI)) (ci := 10) (v := .ref (ad 34)) (C := RX10) (T := TX10) (N := 8) hx hb hts inG10 hown hK hP 4 (gX_4 cs ad mu) rfl 0 (by decide) (hts _ (List.mem_cons_of_mem _ mw_1_144)) (fun _ h9 => h9) rfl dX1_fitOn_27 ?_
    refine lv_iload hx hb dX1_fitOn_30 (lv_at hl 0 rfl) ?_
    refine va_iald hx hb hK hP 34 0 (gX_34 cs ad mu) rfl (show vp_in y1 7 from vi_of (by omega) (by omega)) dX1_fitOn_32 ?_
    refine lv_topi (fun y4 ey4 => ?_)
    have by4 : y4.toInt = (mu 34 y1.toNatClampNeg).toInt := congrArg Int32.toInt ey4
    refine lv_iconst (v := 3) hx hb dX1_fitOn_33 (by decide) ?_
    refine lv_icmp_eq (tgt := 58) hx hb dX1_fitOn_34 (by decide) (fun c_5 => ?_) (fun c_5 => ?_)
    · have c_5 : y4.toInt = 3 := il_eq c_5
      exact W.vret hx hb hr (fun t ht hW => ⟨⟨mu, rfl, ⟨ok, trivial, (fun _ _ _ => rfl), (fun _ _ _ => rfl)⟩, by first | (subst ht; exact hP) | (rw [ht]; exact hP) | (show va_P (dC, dI) vwCl (wR 157 ad (EX cs ad) mu) t.heap; rw [ht]; exact hP)⟩, hS.F ht⟩) hS.2.2 dX1_fitOn_58
    · have c_5 : ¬ y4.toInt = 3 := il_ne c_5
      refine lv_aload_n hx hb dX1_fitOn_37 rfl (lv_at hl 3 rfl) ?_
      have hk6 : 21 ≤ kr + 13 ∧ kr + 13 < 27 := add_in 13 h1kr h2kr
      refine va_get (D := (dC, dI)) (ci := 6) (v := .ref (ad (kr + 13))) (C := RX6) (T := TX6) (N := 2) hx hb hts inG6 hown hK hP kr (gX_row cs ad mu kr h1kr h2kr) rfl 0 (by decide) (hts _ (List.mem_cons_of_mem _ mw_2_131)) (fun _ h9 => h9) rfl dX1_fitOn_38 ?_
      refine lv_iload_n hx hb dX1_fitOn_41 rfl (lv_at hl 4 rfl) ?_
      refine va_iald hx hb hK hP (kr + 13) 0 (gX_places cs ad mu (kr + 13) hk6.1 hk6.2) rfl (show vp_in 0 40 from (by unfold vp_in; decide)) dX1_fitOn_42 ?_
      refine lv_topi (fun y7 ey7 => ?_)
      have by7 : y7.toInt = (mu (kr + 13) (0 : Int32).toNatClampNeg).toInt := congrArg Int32.toInt ey7
      refine lv_aload_n hx hb dX1_fitOn_43 rfl (lv_at hl 2 rfl) ?_
      refine va_get (D := (dC, dI)) (ci := 10) (v := .ref (ad 34)) (C := RX10) (T := TX10) (N := 8) hx hb hts inG10 hown hK hP 4 (gX_4 cs ad mu) rfl 0 (by decide) (hts _ (List.mem_cons_of_mem _ mw_1_144)) (fun _ h9 => h9) rfl dX1_fitOn_44 ?_
      refine lv_iload hx hb dX1_fitOn_47 (lv_at hl 0 rfl) ?_
      refine va_iald hx hb hK hP 34 0 (gX_34 cs ad mu) rfl (show vp_in y1 7 from vi_of (by omega) (by omega)) dX1_fitOn_49 ?_
      refine lq_i y4 ey4.symm ?_
      refine lv_iload hx hb dX1_fitOn_50 (lv_at hl 6 rfl) ?_
      refine cr_i (va_runSN (As := [.int y4, .int vp]) (rest := [.int y7]) ⟨hx, hb, hml, hown, hts⟩ (sx_priceAsked l dC dI (tyW cs) s.heap y4 vp) ⟨va_cnB 2 hts (wU_in mw_3_107) rfl rfl rfl (hz.1) (hts _ (List.mem_cons_of_mem _ mw_1_1)) (by decide +kernel) ⟨Nat.le_of_ble_eq_true rfl, Nat.le_of_ble_eq_true rfl⟩, (hts _ (List.mem_cons_of_mem _ mw_3_106)), trivial⟩ ⟨sz_c, sz_m hK hz⟩ rfl rfl hl.1 rfl (lv_room (Nat.le_of_ble_eq_true rfl)) dX1_fitOn_52 ⟨Nat.zero_le _, Nat.zero_le _⟩) hS (fun r8 hw8 locs hS => ?_)
      obtain ⟨hfe8, hw8⟩ := hw8
      refine lv_icmp_eq (tgt := 59) hx hb dX1_fitOn_55 (by decide) (fun c_9 => ?_) (fun c_9 => ?_)
      · have c_9 : y7.toInt = r8.toInt := il_eq c_9
        refine lv_aload_n hx hb dX1_fitOn_59 rfl (lv_at hl 2 rfl) ?_
        refine lv_iload hx hb dX1_fitOn_60 (lv_at hl 0 rfl) ?_
        refine lv_aload_n hx hb dX1_fitOn_62 rfl (lv_at hl 2 rfl) ?_
        refine va_get (D := (dC, dI)) (ci := 10) (v := .ref (ad 5)) (C := RX10) (T := TX10) (N := 8) hx hb hts inG10 hown hK hP 4 (gX_4 cs ad mu) rfl 3 (by decide) (hts _ (List.mem_cons_of_mem _ mw_1_155)) (fun _ h9 => h9) rfl dX1_fitOn_63 ?_
        refine va_get (D := (dC, dI)) (ci := 8) (v := .int (mu 5 2)) (C := RX8) (T := TX8) (N := 6) hx hb hts inG8 hown hK hP 5 (gX_5 cs ad mu) rfl 2 (by decide) (hts _ (List.mem_cons_of_mem _ mw_1_115)) (fun _ h9 => h9) rfl dX1_fitOn_66 ?_
        refine lv_topi (fun y10 ey10 => ?_)
        have by10 : y10.toInt = (mu 5 2).toInt := congrArg Int32.toInt ey10
        refine cr_i (va_runV (As := [.int y1, .int y10]) (rest := []) ⟨hx, hb, hml, hown, hts⟩ (sx_near l dC dI cs ad mu ok s.heap hP y1 y10) (cwV 2 hts (wU_V mw_3_84 mw_4_177 mw_3_82 mw_3_83 mw_1_2) rfl rfl rfl (by decide +kernel) ⟨Nat.le_of_ble_eq_true rfl, Nat.le_of_ble_eq_true rfl⟩) ⟨sz_c, va_recv hK hP (ci := 10) (q0 := 4) rfl (gX_4 cs ad mu), sz_m hK hz⟩ rfl rfl hl.1 rfl (lv_room (Nat.le_of_ble_eq_true rfl)) dX1_fitOn_69 ⟨Nat.zero_le _, Nat.zero_le _⟩) hS (fun r11 hw11 locs hS => ?_)
        obtain ⟨hfe11, hw11⟩ := hw11
        refine lv_iload hx hb dX1_fitOn_72 (lv_at hl 5 rfl) ?_
        refine lv_iconst (v := (-1)) hx hb dX1_fitOn_74 (by decide) ?_
        refine lv_ixor hx hb dX1_fitOn_75 ?_
        refine lv_topi (fun t12 et12 => ?_)
        refine lv_iand hx hb dX1_fitOn_76 ?_
        refine lv_topi (fun t13 et13 => ?_)
        refine lv_istore (lv' := [(7, .int t13), (6, .int y1), (0, .ref (ad 33)), (1, .ref (ad 4)), (2, .ref (ad kr)), (3, .int 0), (4, .int vu), (5, .int vp)]) hx hb dX1_fitOn_77 hl (by decide) rfl (fun ls hl => ?_)
        refine lv_iload_n hx hb dX1_fitOn_79 rfl (lv_at hl 5 rfl) ?_
        refine lv_iconst (v := 1) hx hb dX1_fitOn_80 (by decide) ?_
        refine lv_iadd hx hb dX1_fitOn_81 ?_
        refine lq_i 1 (by decide) ?_
        refine lv_istore (lv' := [(8, .int 1), (7, .int t13), (6, .int y1), (0, .ref (ad 33)), (1, .ref (ad 4)), (2, .ref (ad kr)), (3, .int 0), (4, .int vu), (5, .int vp)]) hx hb dX1_fitOn_82 hl (by decide) rfl (fun ls hl => ?_)
        refine lv_iconst (v := 0) hx hb dX1_fitOn_84 (by decide) ?_
        refine lv_istore (lv' := [(9, .int 0), (8, .int 1), (7, .int t13), (6, .int y1), (0, .ref (ad 33)), (1, .ref (ad 4)), (2, .ref (ad kr)), (3, .int 0), (4, .int vu), (5, .int vp)]) hx hb dX1_fitOn_85 hl (by decide) rfl (fun ls hl => ?_)
        have loop87 : ∀ (n87 : Nat) (v9_87 : Int32) (nu87_ : Nat → Nat → Int32) (H : Heap) (locs : List Loc) (ls : Array Slot), (7 + 1 - v9_87.toInt).toNat < n87 → (0 ≤ v9_87.toInt ∧ v9_87.toInt ≤ 7) → okR loX hiX nu87_ → va_P (dC, dI) vwCl (wR 157 ad (EX cs ad) nu87_) H → (∀ k : Nat, 8 ≤ k → k < 14 → nu87_ k = mu k) → (∀ k f : Nat, Nat.testBit 510 (gpX k f) = true → nu87_ k f = mu k f) → va_S (va_A (wR 157 ad (EX cs ad) mu) s.heap.size) s.heap H locs → lv_has ls 10 [(9, .int v9_87), (8, .int 1), (7, .int t13), (6, .int y1), (0, .ref (ad 33)), (1, .ref (ad 4)), (2, .ref (ad kr)), (3, .int 0), (4, .int vu), (5, .int vp)] → W p l e (headSpec (wU yX1_fitOn cX1_fitOn 10 none) ({ frames := 8, cells := 0, slots := 0, locals := 257 })).room s m ([.ref (ad 33), .ref (ad 4), .ref (ad kr), .int 0, .int vu, .int vp] : List Value).toArray below meth c H locs 0 0 (MQ below (va_Qv (fun (xi : Nat → Nat → Int32) => okR loX hiX xi ∧ (True) ∧ (∀ k : Nat, 8 ≤ k → k < 14 → xi k = mu k) ∧ (∀ k f : Nat, Nat.testBit 510 (gpX k f) = true → xi k f = mu k f)) (fun xi t => va_P (dC, dI) vwCl (wR 157 ad (EX cs ad) xi) t.heap) (va_A (wR 157 ad (EX cs ad) mu) s.heap.size)) ([.ref (ad 33), .ref (ad 4), .ref (ad kr), .int 0, .int vu, .int vp] : List Value).toArray s 0 0 (va_A (wR 157 ad (EX cs ad) mu) s.heap.size)) (F0 m 87 ls []) := by
          intro n87
          induction n87 with
          | zero => intro v9_87 nu87_ H locs ls hm; exact absurd hm (Nat.not_lt_zero _)
          | succ n87 ih87 =>
            intro v9_87 nu87_ H locs ls hm_87 h_v9_87 ok hP kq87_0 kq87_1 hS hl
            refine lv_iload hx hb dX1_fitOn_87 (lv_at hl 0 rfl) ?_
            refine lv_aload_n hx hb dX1_fitOn_89 rfl (lv_at hl 5 rfl) ?_
            refine va_get (D := (dC, dI)) (ci := 10) (v := .int (nu87_ 4 6)) (C := RX10) (T := TX10) (N := 8) hx hb hts inG10 hown hK hP 4 (gX_4 cs ad nu87_) rfl 6 (by decide) (hts _ (List.mem_cons_of_mem _ mw_1_161)) (fun _ h9 => h9) rfl dX1_fitOn_90 ?_
            refine lv_topi (fun y14 ey14 => ?_)
            have by14 : y14.toInt = (nu87_ 4 6).toInt := congrArg Int32.toInt ey14
            have gy14 : 0 ≤ y14.toInt ∧ y14.toInt ≤ 7 := by rw [ey14]; exact rX_4_6 ok
            refine lv_icmp_ge (tgt := 149) hx hb dX1_fitOn_93 (by decide) (fun c_15 => ?_) (fun c_15 => ?_)
            · have c_15 : y14.toInt ≤ v9_87.toInt := il_le c_15
              exact W.vret hx hb hr (fun t ht hW => ⟨⟨nu87_, rfl, ⟨ok, trivial, kq87_0, kq87_1⟩, by first | (subst ht; exact hP) | (rw [ht]; exact hP) | (show va_P (dC, dI) vwCl (wR 157 ad (EX cs ad) nu87_) t.heap; rw [ht]; exact hP)⟩, hS.F ht⟩) hS.2.2 dX1_fitOn_149
            · have c_15 : v9_87.toInt < y14.toInt := il_nle c_15
              refine lv_iload hx hb dX1_fitOn_96 (lv_at hl 1 rfl) ?_
              refine lv_bipush (v := 7) hx hb dX1_fitOn_98 (by decide) ?_
              refine lv_icmp_ge (tgt := 149) hx hb dX1_fitOn_100 (by decide) (fun c => absurd c (by decide)) (fun _ => ?_)
              refine lv_iload hx hb dX1_fitOn_103 (lv_at hl 2 rfl) ?_
              refine lv_iload hx hb dX1_fitOn_105 (lv_at hl 0 rfl) ?_
              refine cr_i (va_runSN (As := [.int t13, .int v9_87]) (rest := []) ⟨hx, hb, hml, hown, hts⟩ (sx_hasBit l dC dI (tyW cs) H t13 v9_87) ⟨va_cnB 2 hts (wU_in mw_3_87) rfl rfl rfl (hz.2.1) (hts _ (List.mem_cons_of_mem _ mw_1_1)) (by decide +kernel) ⟨Nat.le_of_ble_eq_true rfl, Nat.le_of_ble_eq_true rfl⟩, (hts _ (List.mem_cons_of_mem _ mw_3_86)), trivial⟩ ⟨sz_c, sz_m hK hz⟩ rfl rfl hl.1 rfl (lv_room (Nat.le_of_ble_eq_true rfl)) dX1_fitOn_107 ⟨Nat.zero_le _, Nat.zero_le _⟩) hS (fun r16 hw16 locs hS => ?_)
              obtain ⟨hfe16, hw16⟩ := hw16
              have gr16 : 0 ≤ r16.toInt ∧ r16.toInt ≤ 1 := hw16
              refine lv_if_eq (tgt := 143) hx hb dX1_fitOn_110 (by decide) (fun c_17 => ?_) (fun c_17 => ?_)
              · have c_17 : r16.toInt = 0 := il_eq c_17
                refine lv_iinc (v := (v9_87 + 1)) (lv' := [(9, .int (v9_87 + 1)), (8, .int 1), (7, .int t13), (6, .int y1), (0, .ref (ad 33)), (1, .ref (ad 4)), (2, .ref (ad kr)), (3, .int 0), (4, .int vu), (5, .int vp)]) hx hb dX1_fitOn_143 hl (k := 0) rfl rfl (by decide) rfl (fun ls hl => ?_)
                refine loc_gen (P := fun w9 => lv_has ls 10 [(9, .int w9), (8, .int 1), (7, .int t13), (6, .int y1), (0, .ref (ad 33)), (1, .ref (ad 4)), (2, .ref (ad kr)), (3, .int 0), (4, .int vu), (5, .int vp)]) (v9_87 + 1) hl (fun w18 hw18 hl => ?_)
                have hl : lv_has ls 10 [(9, .int w18), (8, .int 1), (7, .int t13), (6, .int y1), (0, .ref (ad 33)), (1, .ref (ad 4)), (2, .ref (ad kr)), (3, .int 0), (4, .int vu), (5, .int vp)] := hl
                have aw18 : w18.toInt = v9_87.toInt + 1 := by rw [← hw18]; first | exact va1 (Int.lt_of_le_of_lt h_v9_87.2 (by decide)) | exact va1 (by omega)
                refine lv_goto (tgt := 87) hx hb dX1_fitOn_146 (by decide) ?_
                exact ih87 (w18) nu87_ _ _ _ (by first | exact ms_up hm_87 aw18 h_v9_87.2 | exact ms_lt hm_87 (by omega) (by omega) | omega) (by first | exact rg_up aw18 h_v9_87 (by omega) | omega)  ok hP  kq87_0 kq87_1 hS (lv_sub hl [0, 1, 2, 3, 4, 5, 6, 7, 8, 9] rfl)
              · have c_17 : ¬ r16.toInt = 0 := il_ne c_17
                refine lv_aload_n hx hb dX1_fitOn_113 rfl (lv_at hl 4 rfl) ?_
                refine va_get (D := (dC, dI)) (ci := 1) (v := .ref (ad 59)) (C := RX1) (T := TX1) (N := 5) hx hb hts inG1 hown hK hP 33 (gX_33 cs ad nu87_) rfl 0 (by decide) (hts _ (List.mem_cons_of_mem _ mw_2_104)) (fun _ h9 => h9) rfl dX1_fitOn_114 ?_
                refine lv_iload hx hb dX1_fitOn_117 (lv_at hl 1 rfl) ?_
                refine lv_iload hx hb dX1_fitOn_119 (lv_at hl 0 rfl) ?_
                refine va_iast hx hb hK hP (wR_D nu87_ hD) hS 59 0 (gX_59 cs ad nu87_) rfl (show vp_in 1 7 from (by unfold vp_in; decide)) dX1_fitOn_121 (fun H locs hP _ hS => ?_)
                refine wr_gen (upd (nu87_ 59) (1 : Int32).toNatClampNeg v9_87) hP (rfl) (fun nu19 hn19 hP => ?_)
                have ok := tX_59_s ok (1 : Int32).toNatClampNeg hn19 (by omega)
                have ez20 : y14 = nu19 4 6 := ey14.trans (congrFun (up_k hn19 (by decide)) 6).symm
                have kp21 : ∀ k : Nat, 8 ≤ k → k < 14 → nu19 k = mu k := fun k h1 h2 => (up_k hn19 (ne_hi (by decide) h2).symm).trans (kq87_0 k h1 h2)
                have kp22 : (∀ k f : Nat, Nat.testBit 510 (gpX k f) = true → nu19 k f = mu k f) := kp_c 0 hn19 (fun _ => rfl) (by decide) kq87_1
                refine lv_aload_n hx hb dX1_fitOn_122 rfl (lv_at hl 4 rfl) ?_
                refine lv_aload_n hx hb dX1_fitOn_123 rfl (lv_at hl 5 rfl) ?_
                refine lv_aload_n hx hb dX1_fitOn_124 rfl (lv_at hl 6 rfl) ?_
                refine lv_iload hx hb dX1_fitOn_125 (lv_at hl 1 rfl) ?_
                refine lv_iload hx hb dX1_fitOn_127 (lv_at hl 8 rfl) ?_
                refine lv_iconst (v := 1) hx hb dX1_fitOn_129 (by decide) ?_
                refine lv_iload hx hb dX1_fitOn_130 (lv_at hl 0 rfl) ?_
                refine lv_ishl hx hb dX1_fitOn_132 ?_
                refine lv_topi (fun t23 et23 => ?_)
                refine lv_ior hx hb dX1_fitOn_133 ?_
                refine lv_topi (fun t24 et24 => ?_)
                refine lv_aload_n hx hb dX1_fitOn_134 rfl (lv_at hl 6 rfl) ?_
                have hk25 : 21 ≤ kr + 13 ∧ kr + 13 < 27 := add_in 13 h1kr h2kr
                refine va_get (D := (dC, dI)) (ci := 6) (v := .ref (ad (kr + 13))) (C := RX6) (T := TX6) (N := 2) hx hb hts inG6 hown hK hP kr (gX_row cs ad nu19 kr h1kr h2kr) rfl 0 (by decide) (hts _ (List.mem_cons_of_mem _ mw_2_131)) (fun _ h9 => h9) rfl dX1_fitOn_135 ?_
                refine lv_iload_n hx hb dX1_fitOn_138 rfl (lv_at hl 7 rfl) ?_
                refine va_iald hx hb hK hP (kr + 13) 0 (gX_places cs ad nu19 (kr + 13) hk25.1 hk25.2) rfl (show vp_in 0 40 from (by unfold vp_in; decide)) dX1_fitOn_139 ?_
                refine lv_topi (fun y26 ey26 => ?_)
                have by26 : y26.toInt = (nu19 (kr + 13) (0 : Int32).toNatClampNeg).toInt := congrArg Int32.toInt ey26
                have hFc := fr_all (wR_D nu19 hD) hS hA
                refine va_callv (va_runV (As := [.ref (ad 4), .ref (ad kr), .int 1, .int t24, .int y26]) (rest := []) ⟨hx, hb, hml, hown, hts⟩ (sx_fitOn1 l dC dI cs ad nu19 ok H hP ((wR_D nu19 hD).weaken (fun _ _ _ _ => trivial)) kr h1kr h2kr t24 y26) (cwV 5 hts (wU_V mw_4_170 mw_4_167 mw_4_169 mw_0_21 mw_1_10) rfl rfl rfl (by decide +kernel) ⟨Nat.le_of_ble_eq_true rfl, Nat.le_of_ble_eq_true rfl⟩) ⟨sz_c, va_recv hK hP (ci := 1) (q0 := 33) rfl (gX_33 cs ad nu19), sz_m hK hz⟩ rfl rfl hl.1 rfl (lv_room (Nat.le_of_ble_eq_true rfl)) dX1_fitOn_140 ⟨Nat.zero_le _, Nat.zero_le _⟩) hS (fun q _ h => hFc q h) hFc (fun xi27 t H27 locs ht hvm hw27 hB hz1 hk1 hS => ?_)
                have hP : va_P (dC, dI) vwCl (wR 157 ad (EX cs ad) xi27) H27 := by rw [← ht]; exact hB
                obtain ⟨ok, hw27, hkp27_0, hkp27_1⟩ := hw27
                have kp28 : ∀ k : Nat, 8 ≤ k → k < 14 → xi27 k = mu k := fun k h1 h2 => (hkp27_0 k (Nat.le_trans (by decide) h1) (Nat.lt_of_lt_of_le h2 (by decide))).trans (kp21 k h1 h2)
                have kp29 : (∀ k f : Nat, Nat.testBit 510 (gpX k f) = true → xi27 k f = mu k f) := kp_t hkp27_1 (by decide) kp22
                refine lv_iinc (v := (v9_87 + 1)) (lv' := [(9, .int (v9_87 + 1)), (8, .int 1), (7, .int t13), (6, .int y1), (0, .ref (ad 33)), (1, .ref (ad 4)), (2, .ref (ad kr)), (3, .int 0), (4, .int vu), (5, .int vp)]) hx hb dX1_fitOn_143 hl (k := 0) rfl rfl (by decide) rfl (fun ls hl => ?_)
                refine loc_gen (P := fun w9 => lv_has ls 10 [(9, .int w9), (8, .int 1), (7, .int t13), (6, .int y1), (0, .ref (ad 33)), (1, .ref (ad 4)), (2, .ref (ad kr)), (3, .int 0), (4, .int vu), (5, .int vp)]) (v9_87 + 1) hl (fun w30 hw30 hl => ?_)
                have hl : lv_has ls 10 [(9, .int w30), (8, .int 1), (7, .int t13), (6, .int y1), (0, .ref (ad 33)), (1, .ref (ad 4)), (2, .ref (ad kr)), (3, .int 0), (4, .int vu), (5, .int vp)] := hl
                have aw30 : w30.toInt = v9_87.toInt + 1 := by rw [← hw30]; first | exact va1 (Int.lt_of_le_of_lt h_v9_87.2 (by decide)) | exact va1 (by omega)
                refine lv_goto (tgt := 87) hx hb dX1_fitOn_146 (by decide) ?_
                exact ih87 (w30) xi27 _ _ _ (by first | exact ms_up hm_87 aw30 h_v9_87.2 | exact ms_lt hm_87 (by omega) (by omega) | omega) (by first | exact rg_up aw30 h_v9_87 (by omega) | omega)  ok hP  kp28 kp29 hS (lv_sub hl [0, 1, 2, 3, 4, 5, 6, 7, 8, 9] rfl)
        exact loop87 ((7 + 1 - (0 : Int32).toInt).toNat + 1) (0) mu _ _ _ (Nat.lt_succ_self _) (by have h80 : (0 : Int32).toInt = 0 := rfl; exact ⟨by omega, by omega⟩)  ok hP  (fun _ _ _ => rfl) (fun _ _ _ => rfl) hS hl
      · have c_9 : ¬ y7.toInt = r8.toInt := il_ne c_9
        exact W.vret hx hb hr (fun t ht hW => ⟨⟨mu, rfl, ⟨ok, trivial, (fun _ _ _ => rfl), (fun _ _ _ => rfl)⟩, by first | (subst ht; exact hP) | (rw [ht]; exact hP) | (show va_P (dC, dI) vwCl (wR 157 ad (EX cs ad) mu) t.heap; rw [ht]; exact hP)⟩, hS.F ht⟩) hS.2.2 dX1_fitOn_58
  · have c_3 : y2.toInt ≤ 0 := il_nlt c_3
    refine lv_aload_n hx hb dX1_fitOn_16 rfl (lv_at hl 1 rfl) ?_
    refine lv_iload hx hb dX1_fitOn_17 (lv_at hl 0 rfl) ?_
    refine lv_iload_n hx hb dX1_fitOn_19 rfl (lv_at hl 4 rfl) ?_
    refine lv_iload hx hb dX1_fitOn_20 (lv_at hl 5 rfl) ?_
    have hFc := fr_all (wR_D mu hD) hS hA
    refine va_callv (va_runV (As := [.int y1, .int 0, .int vu]) (rest := []) ⟨hx, hb, hml, hown, hts⟩ (sx_F_arrive l dC dI cs ad mu ok s.heap hP ((wR_D mu hD).weaken (fun _ _ _ _ => trivial)) y1 0 vu (by have h51 : (0 : Int32).toInt = 0 := rfl; omega)) (cwV 3 hts (wU_V mw_4_174 mw_4_171 mw_4_173 mw_0_22 mw_1_10) rfl rfl rfl (by decide +kernel) ⟨Nat.le_of_ble_eq_true rfl, Nat.le_of_ble_eq_true rfl⟩) ⟨sz_c, va_recv hK hP (ci := 1) (q0 := 33) rfl (gX_33 cs ad mu), sz_m hK hz⟩ rfl rfl hl.1 rfl (lv_room (Nat.le_of_ble_eq_true rfl)) dX1_fitOn_22 ⟨Nat.zero_le _, Nat.zero_le _⟩) hS (fun q _ h => hFc q h) hFc (fun xi31 t H31 locs ht hvm hw31 hB hz1 hk1 hS => ?_)
    have hP : va_P (dC, dI) vwCl (wR 157 ad (EX cs ad) xi31) H31 := by rw [← ht]; exact hB
    obtain ⟨ok, hw31, hkp31_0, hkp31_1⟩ := hw31
    have ez32 : y2 = xi31 kr 1 := ey2.trans (congrFun (hkp31_0 kr (Nat.le_trans (by decide) h1kr) (Nat.lt_of_lt_of_le h2kr (by decide))) 1).symm
    have kp33 : ∀ k : Nat, 8 ≤ k → k < 14 → xi31 k = mu k := fun k h1 h2 => (hkp31_0 k (Nat.le_trans (by decide) h1) (Nat.lt_of_lt_of_le h2 (by decide))).trans ((fun _ _ _ => rfl) k h1 h2)
    have kp34 : (∀ k f : Nat, Nat.testBit 510 (gpX k f) = true → xi31 k f = mu k f) := kp_t hkp31_1 (by decide) (fun _ _ _ => rfl)
    exact W.vret hx hb hr (fun t ht hW => ⟨⟨xi31, rfl, ⟨ok, trivial, kp33, kp34⟩, by first | (subst ht; exact hP) | (rw [ht]; exact hP) | (show va_P (dC, dI) vwCl (wR 157 ad (EX cs ad) xi31) t.heap; rw [ht]; exact hP)⟩, hS.F ht⟩) hS.2.2 dX1_fitOn_25
set_option maxHeartbeats 4000000 in
set_option maxRecDepth 100000 in
/-- sx_search -/
theorem sx_search (l : Launch) (dC : Nat → ClassId) (dI : Nat → Nat → Nat) (cs : Nat → ClassId) (ad : Nat → Nat) (mu : Nat → Nat → Int32) (ok : okR loX hiX mu) (H : Heap) (hP : va_P (dC, dI) vwCl (wR 157 ad (EX cs ad) mu) H) (hD0 : va_D (fun _ => True) (wR 157 ad (EX cs ad) mu)) (kr : Nat) (h1kr : 8 ≤ kr) (h2kr : kr < 14) (vx : Int32) (hin0 : 0 ≤ vx.toInt ∧ vx.toInt ≤ 6) : Met l yX1_search (wU yX1_search cX1_search 4 none) ({ frames := 9, cells := 0, slots := 0, locals := 286 }) (va_Pc [.ref (ad 33), .ref (ad 4), .int vx, .ref (ad kr)] (sz_P (dC, dI) vwCl (tyW cs) H)) (va_Qv (fun (xi : Nat → Nat → Int32) => okR loX hiX xi ∧ (True) ∧ (∀ k : Nat, 8 ≤ k → k < 14 → xi k = mu k) ∧ (∀ k f : Nat, Nat.testBit 510 (gpX k f) = true → xi k f = mu k f)) (fun xi t => va_P (dC, dI) vwCl (wR 157 ad (EX cs ad) xi) t.heap) (va_A (wR 157 ad (EX cs ad) mu) H.size)) 0 0 (va_A (wR 157 ad (EX cs ad) mu) H.size) := by
  refine Met.ofW (cc := cX1_search) (maxL := 4) (ret := none) (by decide) rfl ?_
  intro p e s m args below meth c s₁ B hml hv
  obtain ⟨rfl, hh, hK, hz⟩ := hv
  have hx := B.exec
  have hb := B.bytes
  have hr := B.returns
  have hts := atoms_spec (ws := (wU yX1_search cX1_search 4 none)) B.pre
  have hown : s.vm.findClass RX1 = some m.cls := findClass_of_methodNamed B.named
  have hlocks := B.notSynchronized
  subst hh
  have hD := hD0.self (sz := s.heap.size)
  have hA : ∀ q : Nat, s.heap.size ≤ q → (va_A (wR 157 ad (EX cs ad) mu) s.heap.size) q := fun q h => Or.inr h
  have hS : va_S (va_A (wR 157 ad (EX cs ad) mu) s.heap.size) s.heap s.heap [] := va_S.rf
  have hl := lv_entry ([.ref (ad 33), .ref (ad 4), .int vx, .ref (ad kr)]) (n := 4) (Nat.le_of_ble_eq_true rfl)
  rw [lg_entry_eq]
  generalize (lg_sl ([.ref (ad 33), .ref (ad 4), .int vx, .ref (ad kr)]) ++ List.replicate (4 - (lg_sl ([.ref (ad 33), .ref (ad 4), .int vx, .ref (ad kr)])).length) Slot.unset).toArray = ls at hl ⊢
  have hl : lv_has ls 4 [(0, .ref (ad 33)), (1, .ref (ad 4)), (2, .int vx), (3, .ref (ad kr))] := hl
  refine lv_aload_n hx hb dX1_search_0 rfl (lv_at hl 0 rfl) ?_
  refine lv_iconst (v := 0) hx hb dX1_search_1 (by decide) ?_
  refine va_put (D := (dC, dI)) (ci := 1) (v := .int 0) (ty := .int) (C := RX1) (T := TX1) (N := 5) hx hb hts inG1 tyX1 tyX1_ok nmX1 hown hK hP (wR_D mu hD) hS 33 (gX_33 cs ad mu) rfl 2 (by decide) (hts _ (List.mem_cons_of_mem _ mw_2_107)) (fun _ h9 => h9) rfl (by decide +kernel) rfl rfl (Nat.le_of_ble_eq_true rfl) dX1_search_2 (fun H locs hP _ hS => ?_)
  simp only [List.set_cons_succ, List.set_cons_zero] at hP
  refine wr_gen (upd (mu 33) 2 0) hP ((hX_33_2 cs ad _ _)) (fun nu1 hn1 hP => ?_)
  have ok := tX_33_2 ok hn1
  have kp2 : ∀ k : Nat, 8 ≤ k → k < 14 → nu1 k = mu k := fun k h1 h2 => (up_k hn1 (ne_hi (by decide) h2).symm).trans ((fun _ _ _ => rfl) k h1 h2)
  have kp3 : (∀ k f : Nat, Nat.testBit 510 (gpX k f) = true → nu1 k f = mu k f) := kp_c 0 hn1 (fun _ => rfl) (by decide) (fun _ _ _ => rfl)
  have ez4 : 0 = nu1 33 2 := up_v hn1
  refine lv_aload_n hx hb dX1_search_5 rfl (lv_at hl 0 rfl) ?_
  refine lv_iconst (v := 0) hx hb dX1_search_6 (by decide) ?_
  refine va_put (D := (dC, dI)) (ci := 1) (v := .int 0) (ty := .int) (C := RX1) (T := TX1) (N := 5) hx hb hts inG1 tyX1 tyX1_ok nmX1 hown hK hP (wR_D nu1 hD) hS 33 (gX_33 cs ad nu1) rfl 3 (by decide) (hts _ (List.mem_cons_of_mem _ mw_2_109)) (fun _ h9 => h9) rfl (by decide +kernel) rfl rfl (Nat.le_of_ble_eq_true rfl) dX1_search_7 (fun H locs hP _ hS => ?_)
  simp only [List.set_cons_succ, List.set_cons_zero] at hP
  refine wr_gen (upd (nu1 33) 3 0) hP ((hX_33_3 cs ad _ _)) (fun nu5 hn5 hP => ?_)
  have ok := tX_33_3 ok hn5
  have ez6 : 0 = nu5 33 2 := ez4.trans (up_f hn5 (by decide)).symm
  have kp7 : ∀ k : Nat, 8 ≤ k → k < 14 → nu5 k = mu k := fun k h1 h2 => (up_k hn5 (ne_hi (by decide) h2).symm).trans (kp2 k h1 h2)
  have kp8 : (∀ k f : Nat, Nat.testBit 510 (gpX k f) = true → nu5 k f = mu k f) := kp_c 0 hn5 (fun _ => rfl) (by decide) kp3
  have ez9 : 0 = nu5 33 3 := up_v hn5
  refine lv_aload_n hx hb dX1_search_10 rfl (lv_at hl 0 rfl) ?_
  refine lv_iconst (v := (-1)) hx hb dX1_search_11 (by decide) ?_
  refine va_put (D := (dC, dI)) (ci := 1) (v := .int (-1)) (ty := .int) (C := RX1) (T := TX1) (N := 5) hx hb hts inG1 tyX1 tyX1_ok nmX1 hown hK hP (wR_D nu5 hD) hS 33 (gX_33 cs ad nu5) rfl 4 (by decide) (hts _ (List.mem_cons_of_mem _ mw_2_111)) (fun _ h9 => h9) rfl (by decide +kernel) rfl rfl (Nat.le_of_ble_eq_true rfl) dX1_search_12 (fun H locs hP _ hS => ?_)
  simp only [List.set_cons_succ, List.set_cons_zero] at hP
  refine wr_gen (upd (nu5 33) 4 (-1)) hP ((hX_33_4 cs ad _ _)) (fun nu10 hn10 hP => ?_)
  have ok := tX_33_4 ok hn10
  have ez11 : 0 = nu10 33 2 := ez6.trans (up_f hn10 (by decide)).symm
  have ez12 : 0 = nu10 33 3 := ez9.trans (up_f hn10 (by decide)).symm
  have kp13 : ∀ k : Nat, 8 ≤ k → k < 14 → nu10 k = mu k := fun k h1 h2 => (up_k hn10 (ne_hi (by decide) h2).symm).trans (kp7 k h1 h2)
  have kp14 : (∀ k f : Nat, Nat.testBit 510 (gpX k f) = true → nu10 k f = mu k f) := kp_c 0 hn10 (fun _ => rfl) (by decide) kp8
  have ez15 : (-1) = nu10 33 4 := up_v hn10
  refine lv_aload_n hx hb dX1_search_15 rfl (lv_at hl 0 rfl) ?_
  refine va_get (D := (dC, dI)) (ci := 1) (v := .ref (ad 59)) (C := RX1) (T := TX1) (N := 5) hx hb hts inG1 hown hK hP 33 (gX_33 cs ad nu10) rfl 0 (by decide) (hts _ (List.mem_cons_of_mem _ mw_2_104)) (fun _ h9 => h9) rfl dX1_search_16 ?_
  refine lv_iconst (v := 0) hx hb dX1_search_19 (by decide) ?_
  refine lv_iload_n hx hb dX1_search_20 rfl (lv_at hl 2 rfl) ?_
  refine va_iast hx hb hK hP (wR_D nu10 hD) hS 59 0 (gX_59 cs ad nu10) rfl (show vp_in 0 7 from (by unfold vp_in; decide)) dX1_search_21 (fun H locs hP _ hS => ?_)
  refine wr_gen (upd (nu10 59) (0 : Int32).toNatClampNeg vx) hP (rfl) (fun nu16 hn16 hP => ?_)
  have ok := tX_59_s ok (0 : Int32).toNatClampNeg hn16 (by omega)
  have ez17 : 0 = nu16 33 2 := ez11.trans (congrFun (up_k hn16 (by decide)) 2).symm
  have ez18 : 0 = nu16 33 3 := ez12.trans (congrFun (up_k hn16 (by decide)) 3).symm
  have ez19 : (-1) = nu16 33 4 := ez15.trans (congrFun (up_k hn16 (by decide)) 4).symm
  have kp20 : ∀ k : Nat, 8 ≤ k → k < 14 → nu16 k = mu k := fun k h1 h2 => (up_k hn16 (ne_hi (by decide) h2).symm).trans (kp13 k h1 h2)
  have kp21 : (∀ k f : Nat, Nat.testBit 510 (gpX k f) = true → nu16 k f = mu k f) := kp_c 0 hn16 (fun _ => rfl) (by decide) kp14
  refine lv_aload_n hx hb dX1_search_22 rfl (lv_at hl 0 rfl) ?_
  refine lv_aload_n hx hb dX1_search_23 rfl (lv_at hl 1 rfl) ?_
  refine lv_aload_n hx hb dX1_search_24 rfl (lv_at hl 3 rfl) ?_
  refine lv_iconst (v := 0) hx hb dX1_search_25 (by decide) ?_
  refine lv_iconst (v := 1) hx hb dX1_search_26 (by decide) ?_
  refine lv_iload_n hx hb dX1_search_27 rfl (lv_at hl 2 rfl) ?_
  refine lv_ishl hx hb dX1_search_28 ?_
  refine lv_topi (fun t22 et22 => ?_)
  refine lv_iconst (v := 0) hx hb dX1_search_29 (by decide) ?_
  have hFc := fr_all (wR_D nu16 hD) hS hA
  refine va_callv (va_runV (As := [.ref (ad 4), .ref (ad kr), .int 0, .int t22, .int 0]) (rest := []) ⟨hx, hb, hml, hown, hts⟩ (sx_fitOn0 l dC dI cs ad nu16 ok H hP ((wR_D nu16 hD).weaken (fun _ _ _ _ => trivial)) kr h1kr h2kr t22 0) (cwV 5 hts (wU_V mw_4_170 mw_4_167 mw_4_169 mw_0_21 mw_1_10) rfl rfl rfl (by decide +kernel) ⟨Nat.le_of_ble_eq_true rfl, Nat.le_of_ble_eq_true rfl⟩) ⟨sz_c, va_recv hK hP (ci := 1) (q0 := 33) rfl (gX_33 cs ad nu16), sz_m hK hz⟩ rfl rfl hl.1 rfl (lv_room (Nat.le_of_ble_eq_true rfl)) dX1_search_30 ⟨Nat.zero_le _, Nat.zero_le _⟩) hS (fun q _ h => hFc q h) hFc (fun xi23 t H23 locs ht hvm hw23 hB hz1 hk1 hS => ?_)
  have hP : va_P (dC, dI) vwCl (wR 157 ad (EX cs ad) xi23) H23 := by rw [← ht]; exact hB
  obtain ⟨ok, hw23, hkp23_0, hkp23_1⟩ := hw23
  have kp24 : ∀ k : Nat, 8 ≤ k → k < 14 → xi23 k = mu k := fun k h1 h2 => (hkp23_0 k (Nat.le_trans (by decide) h1) (Nat.lt_of_lt_of_le h2 (by decide))).trans (kp20 k h1 h2)
  have kp25 : (∀ k f : Nat, Nat.testBit 510 (gpX k f) = true → xi23 k f = mu k f) := kp_t hkp23_1 (by decide) kp21
  exact W.vret hx hb hr (fun t ht hW => ⟨⟨xi23, rfl, ⟨ok, trivial, kp24, kp25⟩, by first | (subst ht; exact hP) | (rw [ht]; exact hP) | (show va_P (dC, dI) vwCl (wR 157 ad (EX cs ad) xi23) t.heap; rw [ht]; exact hP)⟩, hS.F ht⟩) hS.2.2 dX1_search_33
