set_option maxHeartbeats 4000000 in
set_option maxRecDepth 100000 in
/-- sx_take55 -/
theorem sx_take55 (l : Launch) (dC : Nat → ClassId) (dI : Nat → Nat → Nat) (cs : Nat → ClassId) (ad : Nat → Nat) (mu : Nat → Nat → Int32) (ok : okR loX hiX mu) (H : Heap) (hP : va_P (dC, dI) vwCl (wR 157 ad (EX cs ad) mu) H) (hD0 : va_D (fun _ => True) (wR 157 ad (EX cs ad) mu)) (vn : Int32) (vp : Int32) (hin0 : 0 ≤ vn.toInt ∧ vn.toInt ≤ 6) : Met l yX0_take (wU yX0_take cX0_take 4 none) ({ frames := 1, cells := 0, slots := 0, locals := 60 }) (va_Pc [.ref (ad 55), .ref (ad 54), .int vn, .int vp] (sz_P (dC, dI) vwCl (tyW cs) H)) (va_Qv (fun (xi : Nat → Nat → Int32) => xi = F_sx_take55 mu vn vp ∧ okR loX hiX xi ∧ (True) ∧ (∀ k f : Nat, Nat.testBit 510 (gpX k f) = true → xi k f = mu k f)) (fun xi t => va_P (dC, dI) vwCl (wR 157 ad (EX cs ad) xi) t.heap) (va_A (wR 157 ad (EX cs ad) mu) H.size)) 0 0 (va_A (wR 157 ad (EX cs ad) mu) H.size) := by
  refine Met.ofW (cc := cX0_take) (maxL := 4) (ret := none) (by decide) rfl ?_
  intro p e s m args below meth c s₁ B hml hv
  obtain ⟨rfl, hh, hK, hz⟩ := hv
  have hx := B.exec
  have hb := B.bytes
  have hr := B.returns
  have hts := atoms_spec (ws := (wU yX0_take cX0_take 4 none)) B.pre
  have hown : s.vm.findClass RX0 = some m.cls := findClass_of_methodNamed B.named
  have hlocks := B.notSynchronized
  subst hh
  have hD := hD0.self (sz := s.heap.size)
  have hA : ∀ q : Nat, s.heap.size ≤ q → (va_A (wR 157 ad (EX cs ad) mu) s.heap.size) q := fun q h => Or.inr h
  have hS : va_S (va_A (wR 157 ad (EX cs ad) mu) s.heap.size) s.heap s.heap [] := va_S.rf
  have hl := lv_entry ([.ref (ad 55), .ref (ad 54), .int vn, .int vp]) (n := 4) (Nat.le_of_ble_eq_true rfl)
  rw [lg_entry_eq]
  generalize (lg_sl ([.ref (ad 55), .ref (ad 54), .int vn, .int vp]) ++ List.replicate (4 - (lg_sl ([.ref (ad 55), .ref (ad 54), .int vn, .int vp])).length) Slot.unset).toArray = ls at hl ⊢
  have hl : lv_has ls 4 [(0, .ref (ad 55)), (1, .ref (ad 54)), (2, .int vn), (3, .int vp)] := hl
  obtain ⟨fz, hfz⟩ : ∃ z, F_sx_take55 mu vn vp = z := ⟨_, rfl⟩
  have hF := hfz
  unfold F_sx_take55 at hF
  refine lv_aload_n hx hb dX0_take_0 rfl (lv_at hl 1 rfl) ?_
  refine lv_iconst (v := 0) hx hb dX0_take_1 (by decide) ?_
  refine lv_aload_n hx hb dX0_take_2 rfl (lv_at hl 0 rfl) ?_
  refine va_get (D := (dC, dI)) (ci := 0) (v := .ref (ad 57)) (C := RX0) (T := TX0) (N := 4) hx hb hts inG0 hown hK hP 55 (gX_55 cs ad mu) rfl 0 (by decide) (hts _ (List.mem_cons_of_mem _ mw_2_26)) (fun _ h9 => h9) rfl dX0_take_3 ?_
  refine lv_iconst (v := 0) hx hb dX0_take_6 (by decide) ?_
  refine lv_iload_n hx hb dX0_take_7 rfl (lv_at hl 2 rfl) ?_
  refine lv_iconst (v := 1) hx hb dX0_take_8 (by decide) ?_
  refine lv_iadd hx hb dX0_take_9 ?_
  refine lv_topi (fun t1 et1 => ?_)
  have hF := mi_let hF et1
  have at1 : t1.toInt = vn.toInt + 1 := by rw [et1]; exact va1 (by omega)
  refine va_copyi hx hb (hml.trans hl.1.symm) hown (hts _ (List.mem_cons_of_mem _ mw_4_44)) (hts _ (List.mem_cons_of_mem _ mw_3_4)) (hts _ (List.mem_cons_of_mem _ mw_3_3)) (hts _ (List.mem_cons_of_mem _ mw_1_15)) hK hP (wR_D mu hD) hS 54 57 0 0 (gX_54 cs ad mu) (gX_57 cs ad mu) rfl rfl rfl (by decide) (by decide) (nlt_of (by omega)) (by have ua : ((0 : Int32).toNatClampNeg : Int) = 0 := rfl; have ub : ((0 : Int32).toNatClampNeg : Int) = 0 := rfl; have uc : ((t1 : Int32).toNatClampNeg : Int) = t1.toInt := tC_of (by omega); omega) (by have ua : ((0 : Int32).toNatClampNeg : Int) = 0 := rfl; have ub : ((0 : Int32).toNatClampNeg : Int) = 0 := rfl; have uc : ((t1 : Int32).toNatClampNeg : Int) = t1.toInt := tC_of (by omega); omega) (fun _ _ => rfl) (Nat.le_of_ble_eq_true rfl) (Nat.le_of_ble_eq_true rfl) dX0_take_10 (fun H locs hP _ hS => ?_)
  refine wr_gen (va_cpy (mu 54) (mu 57) (0 : Int32).toNatClampNeg (0 : Int32).toNatClampNeg (t1 : Int32).toNatClampNeg) hP (rfl) (fun nu2 hn2 hP => ?_)
  have hF := mi_let hF hn2.symm
  have ok := okR_cp ok hn2 (cX_54_57  )
  have kp3 : (∀ k f : Nat, Nat.testBit 510 (gpX k f) = true → nu2 k f = mu k f) := kp_c 0 hn2 (fun _ => rfl) (by decide) (fun _ _ _ => rfl)
  refine lv_aload_n hx hb dX0_take_13 rfl (lv_at hl 0 rfl) ?_
  refine lv_iload_n hx hb dX0_take_14 rfl (lv_at hl 2 rfl) ?_
  refine va_put (D := (dC, dI)) (ci := 0) (v := .int vn) (ty := .int) (C := RX0) (T := TX0) (N := 4) hx hb hts inG0 tyX0 tyX0_ok nmX0 hown hK hP (wR_D nu2 hD) hS 55 (gX_55 cs ad nu2) rfl 1 (by decide) (hts _ (List.mem_cons_of_mem _ mw_2_28)) (fun _ h9 => h9) rfl (by decide +kernel) rfl rfl (Nat.le_of_ble_eq_true rfl) dX0_take_15 (fun H locs hP _ hS => ?_)
  simp only [List.set_cons_succ, List.set_cons_zero] at hP
  refine wr_gen (upd (nu2 55) 1 vn) hP ((hX_55_1 cs ad _ _)) (fun nu4 hn4 hP => ?_)
  have hF := mi_let hF hn4.symm
  have ok := tX_55_1 ok hn4 (by omega)
  have kp5 : (∀ k f : Nat, Nat.testBit 510 (gpX k f) = true → nu4 k f = mu k f) := kp_c 0 hn4 (fun _ => rfl) (by decide) kp3
  have ez6 : vn = nu4 55 1 := up_v hn4
  refine lv_aload_n hx hb dX0_take_18 rfl (lv_at hl 0 rfl) ?_
  refine lv_iload_n hx hb dX0_take_19 rfl (lv_at hl 3 rfl) ?_
  refine va_put (D := (dC, dI)) (ci := 0) (v := .int vp) (ty := .int) (C := RX0) (T := TX0) (N := 4) hx hb hts inG0 tyX0 tyX0_ok nmX0 hown hK hP (wR_D nu4 hD) hS 55 (gX_55 cs ad nu4) rfl 2 (by decide) (hts _ (List.mem_cons_of_mem _ mw_2_31)) (fun _ h9 => h9) rfl (by decide +kernel) rfl rfl (Nat.le_of_ble_eq_true rfl) dX0_take_20 (fun H locs hP _ hS => ?_)
  simp only [List.set_cons_succ, List.set_cons_zero] at hP
  refine wr_gen (upd (nu4 55) 2 vp) hP ((hX_55_2 cs ad _ _)) (fun nu7 hn7 hP => ?_)
  have hF := mi_let hF hn7.symm
  have ok := tX_55_2 ok hn7
  have ez8 : vn = nu7 55 1 := ez6.trans (up_f hn7 (by decide)).symm
  have kp9 : (∀ k f : Nat, Nat.testBit 510 (gpX k f) = true → nu7 k f = mu k f) := kp_c 0 hn7 (fun _ => rfl) (by decide) kp5
  have ez10 : vp = nu7 55 2 := up_v hn7
  refine lv_aload_n hx hb dX0_take_23 rfl (lv_at hl 0 rfl) ?_
  refine lv_iconst (v := 1) hx hb dX0_take_24 (by decide) ?_
  refine va_put (D := (dC, dI)) (ci := 0) (v := .int 1) (ty := .boolean) (C := RX0) (T := TX0) (N := 4) hx hb hts inG0 tyX0 tyX0_ok nmX0 hown hK hP (wR_D nu7 hD) hS 55 (gX_55 cs ad nu7) rfl 3 (by decide) (hts _ (List.mem_cons_of_mem _ mw_2_34)) (fun _ h9 => h9) rfl (by decide +kernel) (by first | rfl | decide) (by first | rfl | decide) (Nat.le_of_ble_eq_true rfl) dX0_take_25 (fun H locs hP _ hS => ?_)
  simp only [List.set_cons_succ, List.set_cons_zero] at hP
  refine wr_gen (upd (nu7 55) 3 1) hP ((hX_55_3 cs ad _ _)) (fun nu11 hn11 hP => ?_)
  have hF := mi_let hF hn11.symm
  have ok := tX_55_3 ok hn11 (by have h9 : (1 : Int32).toInt = 1 := rfl; exact ⟨by omega, by omega⟩)
  have ez12 : vn = nu11 55 1 := ez8.trans (up_f hn11 (by decide)).symm
  have ez13 : vp = nu11 55 2 := ez10.trans (up_f hn11 (by decide)).symm
  have kp14 : (∀ k f : Nat, Nat.testBit 510 (gpX k f) = true → nu11 k f = mu k f) := kp_c 0 hn11 (fun _ => rfl) (by decide) kp9
  have ez15 : 1 = nu11 55 3 := up_v hn11
  exact W.vret hx hb hr (fun t ht hW => ⟨⟨nu11, rfl, ⟨hF.trans hfz.symm, ok, trivial, kp14⟩, by first | (subst ht; exact hP) | (rw [ht]; exact hP) | (show va_P (dC, dI) vwCl (wR 157 ad (EX cs ad) nu11) t.heap; rw [ht]; exact hP)⟩, hS.F ht⟩) hS.2.2 dX0_take_28
set_option maxHeartbeats 4000000 in
set_option maxRecDepth 100000 in
/-- sx_take56 -/
theorem sx_take56 (l : Launch) (dC : Nat → ClassId) (dI : Nat → Nat → Nat) (cs : Nat → ClassId) (ad : Nat → Nat) (mu : Nat → Nat → Int32) (ok : okR loX hiX mu) (H : Heap) (hP : va_P (dC, dI) vwCl (wR 157 ad (EX cs ad) mu) H) (hD0 : va_D (fun _ => True) (wR 157 ad (EX cs ad) mu)) (vn : Int32) (vp : Int32) (hin0 : 0 ≤ vn.toInt ∧ vn.toInt ≤ 6) : Met l yX0_take (wU yX0_take cX0_take 4 none) ({ frames := 1, cells := 0, slots := 0, locals := 60 }) (va_Pc [.ref (ad 56), .ref (ad 54), .int vn, .int vp] (sz_P (dC, dI) vwCl (tyW cs) H)) (va_Qv (fun (xi : Nat → Nat → Int32) => xi = F_sx_take56 mu vn vp ∧ okR loX hiX xi ∧ (True) ∧ (∀ k f : Nat, Nat.testBit 510 (gpX k f) = true → xi k f = mu k f)) (fun xi t => va_P (dC, dI) vwCl (wR 157 ad (EX cs ad) xi) t.heap) (va_A (wR 157 ad (EX cs ad) mu) H.size)) 0 0 (va_A (wR 157 ad (EX cs ad) mu) H.size) := by
  refine Met.ofW (cc := cX0_take) (maxL := 4) (ret := none) (by decide) rfl ?_
  intro p e s m args below meth c s₁ B hml hv
  obtain ⟨rfl, hh, hK, hz⟩ := hv
  have hx := B.exec
  have hb := B.bytes
  have hr := B.returns
  have hts := atoms_spec (ws := (wU yX0_take cX0_take 4 none)) B.pre
  have hown : s.vm.findClass RX0 = some m.cls := findClass_of_methodNamed B.named
  have hlocks := B.notSynchronized
  subst hh
  have hD := hD0.self (sz := s.heap.size)
  have hA : ∀ q : Nat, s.heap.size ≤ q → (va_A (wR 157 ad (EX cs ad) mu) s.heap.size) q := fun q h => Or.inr h
  have hS : va_S (va_A (wR 157 ad (EX cs ad) mu) s.heap.size) s.heap s.heap [] := va_S.rf
  have hl := lv_entry ([.ref (ad 56), .ref (ad 54), .int vn, .int vp]) (n := 4) (Nat.le_of_ble_eq_true rfl)
  rw [lg_entry_eq]
  generalize (lg_sl ([.ref (ad 56), .ref (ad 54), .int vn, .int vp]) ++ List.replicate (4 - (lg_sl ([.ref (ad 56), .ref (ad 54), .int vn, .int vp])).length) Slot.unset).toArray = ls at hl ⊢
  have hl : lv_has ls 4 [(0, .ref (ad 56)), (1, .ref (ad 54)), (2, .int vn), (3, .int vp)] := hl
  obtain ⟨fz, hfz⟩ : ∃ z, F_sx_take56 mu vn vp = z := ⟨_, rfl⟩
  have hF := hfz
  unfold F_sx_take56 at hF
  refine lv_aload_n hx hb dX0_take_0 rfl (lv_at hl 1 rfl) ?_
  refine lv_iconst (v := 0) hx hb dX0_take_1 (by decide) ?_
  refine lv_aload_n hx hb dX0_take_2 rfl (lv_at hl 0 rfl) ?_
  refine va_get (D := (dC, dI)) (ci := 0) (v := .ref (ad 58)) (C := RX0) (T := TX0) (N := 4) hx hb hts inG0 hown hK hP 56 (gX_56 cs ad mu) rfl 0 (by decide) (hts _ (List.mem_cons_of_mem _ mw_2_26)) (fun _ h9 => h9) rfl dX0_take_3 ?_
  refine lv_iconst (v := 0) hx hb dX0_take_6 (by decide) ?_
  refine lv_iload_n hx hb dX0_take_7 rfl (lv_at hl 2 rfl) ?_
  refine lv_iconst (v := 1) hx hb dX0_take_8 (by decide) ?_
  refine lv_iadd hx hb dX0_take_9 ?_
  refine lv_topi (fun t1 et1 => ?_)
  have hF := mi_let hF et1
  have at1 : t1.toInt = vn.toInt + 1 := by rw [et1]; exact va1 (by omega)
  refine va_copyi hx hb (hml.trans hl.1.symm) hown (hts _ (List.mem_cons_of_mem _ mw_4_44)) (hts _ (List.mem_cons_of_mem _ mw_3_4)) (hts _ (List.mem_cons_of_mem _ mw_3_3)) (hts _ (List.mem_cons_of_mem _ mw_1_15)) hK hP (wR_D mu hD) hS 54 58 0 0 (gX_54 cs ad mu) (gX_58 cs ad mu) rfl rfl rfl (by decide) (by decide) (nlt_of (by omega)) (by have ua : ((0 : Int32).toNatClampNeg : Int) = 0 := rfl; have ub : ((0 : Int32).toNatClampNeg : Int) = 0 := rfl; have uc : ((t1 : Int32).toNatClampNeg : Int) = t1.toInt := tC_of (by omega); omega) (by have ua : ((0 : Int32).toNatClampNeg : Int) = 0 := rfl; have ub : ((0 : Int32).toNatClampNeg : Int) = 0 := rfl; have uc : ((t1 : Int32).toNatClampNeg : Int) = t1.toInt := tC_of (by omega); omega) (fun _ _ => rfl) (Nat.le_of_ble_eq_true rfl) (Nat.le_of_ble_eq_true rfl) dX0_take_10 (fun H locs hP _ hS => ?_)
  refine wr_gen (va_cpy (mu 54) (mu 58) (0 : Int32).toNatClampNeg (0 : Int32).toNatClampNeg (t1 : Int32).toNatClampNeg) hP (rfl) (fun nu2 hn2 hP => ?_)
  have hF := mi_let hF hn2.symm
  have ok := okR_cp ok hn2 (cX_54_58  )
  have kp3 : (∀ k f : Nat, Nat.testBit 510 (gpX k f) = true → nu2 k f = mu k f) := kp_c 0 hn2 (fun _ => rfl) (by decide) (fun _ _ _ => rfl)
  refine lv_aload_n hx hb dX0_take_13 rfl (lv_at hl 0 rfl) ?_
  refine lv_iload_n hx hb dX0_take_14 rfl (lv_at hl 2 rfl) ?_
  refine va_put (D := (dC, dI)) (ci := 0) (v := .int vn) (ty := .int) (C := RX0) (T := TX0) (N := 4) hx hb hts inG0 tyX0 tyX0_ok nmX0 hown hK hP (wR_D nu2 hD) hS 56 (gX_56 cs ad nu2) rfl 1 (by decide) (hts _ (List.mem_cons_of_mem _ mw_2_28)) (fun _ h9 => h9) rfl (by decide +kernel) rfl rfl (Nat.le_of_ble_eq_true rfl) dX0_take_15 (fun H locs hP _ hS => ?_)
  simp only [List.set_cons_succ, List.set_cons_zero] at hP
  refine wr_gen (upd (nu2 56) 1 vn) hP ((hX_56_1 cs ad _ _)) (fun nu4 hn4 hP => ?_)
  have hF := mi_let hF hn4.symm
  have ok := tX_56_1 ok hn4 (by omega)
  have kp5 : (∀ k f : Nat, Nat.testBit 510 (gpX k f) = true → nu4 k f = mu k f) := kp_c 0 hn4 (fun _ => rfl) (by decide) kp3
  have ez6 : vn = nu4 56 1 := up_v hn4
  refine lv_aload_n hx hb dX0_take_18 rfl (lv_at hl 0 rfl) ?_
  refine lv_iload_n hx hb dX0_take_19 rfl (lv_at hl 3 rfl) ?_
  refine va_put (D := (dC, dI)) (ci := 0) (v := .int vp) (ty := .int) (C := RX0) (T := TX0) (N := 4) hx hb hts inG0 tyX0 tyX0_ok nmX0 hown hK hP (wR_D nu4 hD) hS 56 (gX_56 cs ad nu4) rfl 2 (by decide) (hts _ (List.mem_cons_of_mem _ mw_2_31)) (fun _ h9 => h9) rfl (by decide +kernel) rfl rfl (Nat.le_of_ble_eq_true rfl) dX0_take_20 (fun H locs hP _ hS => ?_)
  simp only [List.set_cons_succ, List.set_cons_zero] at hP
  refine wr_gen (upd (nu4 56) 2 vp) hP ((hX_56_2 cs ad _ _)) (fun nu7 hn7 hP => ?_)
  have hF := mi_let hF hn7.symm
  have ok := tX_56_2 ok hn7
  have ez8 : vn = nu7 56 1 := ez6.trans (up_f hn7 (by decide)).symm
  have kp9 : (∀ k f : Nat, Nat.testBit 510 (gpX k f) = true → nu7 k f = mu k f) := kp_c 0 hn7 (fun _ => rfl) (by decide) kp5
  have ez10 : vp = nu7 56 2 := up_v hn7
  refine lv_aload_n hx hb dX0_take_23 rfl (lv_at hl 0 rfl) ?_
  refine lv_iconst (v := 1) hx hb dX0_take_24 (by decide) ?_
  refine va_put (D := (dC, dI)) (ci := 0) (v := .int 1) (ty := .boolean) (C := RX0) (T := TX0) (N := 4) hx hb hts inG0 tyX0 tyX0_ok nmX0 hown hK hP (wR_D nu7 hD) hS 56 (gX_56 cs ad nu7) rfl 3 (by decide) (hts _ (List.mem_cons_of_mem _ mw_2_34)) (fun _ h9 => h9) rfl (by decide +kernel) (by first | rfl | decide) (by first | rfl | decide) (Nat.le_of_ble_eq_true rfl) dX0_take_25 (fun H locs hP _ hS => ?_)
  simp only [List.set_cons_succ, List.set_cons_zero] at hP
  refine wr_gen (upd (nu7 56) 3 1) hP ((hX_56_3 cs ad _ _)) (fun nu11 hn11 hP => ?_)
  have hF := mi_let hF hn11.symm
  have ok := tX_56_3 ok hn11 (by have h9 : (1 : Int32).toInt = 1 := rfl; exact ⟨by omega, by omega⟩)
  have ez12 : vn = nu11 56 1 := ez8.trans (up_f hn11 (by decide)).symm
  have ez13 : vp = nu11 56 2 := ez10.trans (up_f hn11 (by decide)).symm
  have kp14 : (∀ k f : Nat, Nat.testBit 510 (gpX k f) = true → nu11 k f = mu k f) := kp_c 0 hn11 (fun _ => rfl) (by decide) kp9
  have ez15 : 1 = nu11 56 3 := up_v hn11
  exact W.vret hx hb hr (fun t ht hW => ⟨⟨nu11, rfl, ⟨hF.trans hfz.symm, ok, trivial, kp14⟩, by first | (subst ht; exact hP) | (rw [ht]; exact hP) | (show va_P (dC, dI) vwCl (wR 157 ad (EX cs ad) nu11) t.heap; rw [ht]; exact hP)⟩, hS.F ht⟩) hS.2.2 dX0_take_28
set_option maxHeartbeats 4000000 in
set_option maxRecDepth 100000 in
/-- sx_linkUnder -/
theorem sx_linkUnder (l : Launch) (dC : Nat → ClassId) (dI : Nat → Nat → Nat) (cs : Nat → ClassId) (ad : Nat → Nat) (mu : Nat → Nat → Int32) (ok : okR loX hiX mu) (H : Heap) (hP : va_P (dC, dI) vwCl (wR 157 ad (EX cs ad) mu) H) (hD0 : va_D (fun _ => True) (wR 157 ad (EX cs ad) mu)) (vs : Int32) : Met l yX5_linkUnder (wU yX5_linkUnder cX5_linkUnder 4 none) ({ frames := 2, cells := 0, slots := 0, locals := 45 }) (va_Pc [.ref (ad 32), .ref (ad 4), .int vs] (sz_P (dC, dI) vwCl (tyW cs) H)) (va_Qv (fun (xi : Nat → Nat → Int32) => xi = F_sx_linkUnder mu vs ∧ okR loX hiX xi ∧ (True) ∧ (∀ k f : Nat, Nat.testBit 510 (gpX k f) = true → xi k f = mu k f)) (fun xi t => va_P (dC, dI) vwCl (wR 157 ad (EX cs ad) xi) t.heap) (va_A (wR 157 ad (EX cs ad) mu) H.size)) 0 0 (va_A (wR 157 ad (EX cs ad) mu) H.size) := by
  refine Met.ofW (cc := cX5_linkUnder) (maxL := 4) (ret := none) (by decide) rfl ?_
  intro p e s m args below meth c s₁ B hml hv
  obtain ⟨rfl, hh, hK, hz⟩ := hv
  have hx := B.exec
  have hb := B.bytes
  have hr := B.returns
  have hts := atoms_spec (ws := (wU yX5_linkUnder cX5_linkUnder 4 none)) B.pre
  have hown : s.vm.findClass RX5 = some m.cls := findClass_of_methodNamed B.named
  have hlocks := B.notSynchronized
  subst hh
  have hD := hD0.self (sz := s.heap.size)
  have hA : ∀ q : Nat, s.heap.size ≤ q → (va_A (wR 157 ad (EX cs ad) mu) s.heap.size) q := fun q h => Or.inr h
  have hS : va_S (va_A (wR 157 ad (EX cs ad) mu) s.heap.size) s.heap s.heap [] := va_S.rf
  have hl := lv_entry ([.ref (ad 32), .ref (ad 4), .int vs]) (n := 4) (Nat.le_of_ble_eq_true rfl)
  rw [lg_entry_eq]
  generalize (lg_sl ([.ref (ad 32), .ref (ad 4), .int vs]) ++ List.replicate (4 - (lg_sl ([.ref (ad 32), .ref (ad 4), .int vs])).length) Slot.unset).toArray = ls at hl ⊢
  have hl : lv_has ls 4 [(0, .ref (ad 32)), (1, .ref (ad 4)), (2, .int vs)] := hl
  obtain ⟨fz, hfz⟩ : ∃ z, F_sx_linkUnder mu vs = z := ⟨_, rfl⟩
  have hF := hfz
  unfold F_sx_linkUnder at hF
  refine lv_iconst (v := 0) hx hb dX5_linkUnder_0 (by decide) ?_
  refine lv_istore_n (lv' := [(3, .int 0), (0, .ref (ad 32)), (1, .ref (ad 4)), (2, .int vs)]) hx hb dX5_linkUnder_1 rfl hl (by decide) rfl (fun ls hl => ?_)
  have loop2 : ∀ (n2 : Nat) (v3_2 : Int32) (nu2_ : Nat → Nat → Int32) (H : Heap) (locs : List Loc) (ls : Array Slot), (7 + 1 - v3_2.toInt).toNat < n2 → (0 ≤ v3_2.toInt ∧ v3_2.toInt ≤ 7) → okR loX hiX nu2_ → va_P (dC, dI) vwCl (wR 157 ad (EX cs ad) nu2_) H → (∀ k f : Nat, Nat.testBit 510 (gpX k f) = true → nu2_ k f = mu k f) → L_sx_linkUnder_2_0 vs n2 v3_2 nu2_ = fz → va_S (va_A (wR 157 ad (EX cs ad) mu) s.heap.size) s.heap H locs → lv_has ls 4 [(3, .int v3_2), (0, .ref (ad 32)), (1, .ref (ad 4)), (2, .int vs)] → W p l e (headSpec (wU yX5_linkUnder cX5_linkUnder 4 none) ({ frames := 2, cells := 0, slots := 0, locals := 45 })).room s m ([.ref (ad 32), .ref (ad 4), .int vs] : List Value).toArray below meth c H locs 0 0 (MQ below (va_Qv (fun (xi : Nat → Nat → Int32) => xi = F_sx_linkUnder mu vs ∧ okR loX hiX xi ∧ (True) ∧ (∀ k f : Nat, Nat.testBit 510 (gpX k f) = true → xi k f = mu k f)) (fun xi t => va_P (dC, dI) vwCl (wR 157 ad (EX cs ad) xi) t.heap) (va_A (wR 157 ad (EX cs ad) mu) s.heap.size)) ([.ref (ad 32), .ref (ad 4), .int vs] : List Value).toArray s 0 0 (va_A (wR 157 ad (EX cs ad) mu) s.heap.size)) (F0 m 2 ls []) := by
    intro n2
    induction n2 with
    | zero => intro v3_2 nu2_ H locs ls hm; exact absurd hm (Nat.not_lt_zero _)
    | succ n2 ih2 =>
      intro v3_2 nu2_ H locs ls hm_2 h_v3_2 ok hP kq2_0 hF hS hl
      rw [L_sx_linkUnder_2_0] at hF
      refine lv_iload_n hx hb dX5_linkUnder_2 rfl (lv_at hl 0 rfl) ?_
      refine lv_aload_n hx hb dX5_linkUnder_3 rfl (lv_at hl 2 rfl) ?_
      refine va_get (D := (dC, dI)) (ci := 10) (v := .int (nu2_ 4 6)) (C := RX10) (T := TX10) (N := 8) hx hb hts inG10 hown hK hP 4 (gX_4 cs ad nu2_) rfl 6 (by decide) (hts _ (List.mem_cons_of_mem _ mw_1_162)) (fun _ h9 => h9) rfl dX5_linkUnder_4 ?_
      refine lv_topi (fun y1 ey1 => ?_)
      have hF := mi_let hF ey1
      have by1 : y1.toInt = (nu2_ 4 6).toInt := congrArg Int32.toInt ey1
      have gy1 : 0 ≤ y1.toInt ∧ y1.toInt ≤ 7 := by rw [ey1]; exact rX_4_6 ok
      refine lv_icmp_ge (tgt := 28) hx hb dX5_linkUnder_7 (by decide) (fun c_2 => ?_) (fun c_2 => ?_)
      · have hF := (if_pos c_2).symm.trans hF
        have c_2 : y1.toInt ≤ v3_2.toInt := il_le c_2
        exact W.vret hx hb hr (fun t ht hW => ⟨⟨nu2_, rfl, ⟨hF.trans hfz.symm, ok, trivial, kq2_0⟩, by first | (subst ht; exact hP) | (rw [ht]; exact hP) | (show va_P (dC, dI) vwCl (wR 157 ad (EX cs ad) nu2_) t.heap; rw [ht]; exact hP)⟩, hS.F ht⟩) hS.2.2 dX5_linkUnder_28
      · have hF := (if_neg c_2).symm.trans hF
        have c_2 : v3_2.toInt < y1.toInt := il_nle c_2
        refine lv_aload_n hx hb dX5_linkUnder_10 rfl (lv_at hl 1 rfl) ?_
        refine va_get (D := (dC, dI)) (ci := 5) (v := .ref (ad 52)) (C := RX5) (T := TX5) (N := 15) hx hb hts inG5 hown hK hP 32 (gX_32 cs ad nu2_) rfl 0 (by decide) (hts _ (List.mem_cons_of_mem _ mw_2_46)) (fun _ h9 => h9) rfl dX5_linkUnder_11 ?_
        refine lv_iload_n hx hb dX5_linkUnder_14 rfl (lv_at hl 0 rfl) ?_
        refine lv_aload_n hx hb dX5_linkUnder_15 rfl (lv_at hl 2 rfl) ?_
        refine lv_iload_n hx hb dX5_linkUnder_16 rfl (lv_at hl 0 rfl) ?_
        refine lv_iload_n hx hb dX5_linkUnder_17 rfl (lv_at hl 3 rfl) ?_
        refine cr_i (va_runV (As := [.int v3_2, .int vs]) (rest := [.int v3_2, .ref (ad 52)]) ⟨hx, hb, hml, hown, hts⟩ (sx_near l dC dI cs ad nu2_ ok H hP v3_2 vs) (cwV 2 hts (wU_V mw_3_84 mw_4_19 mw_3_82 mw_3_83 mw_1_2) rfl rfl rfl (by decide +kernel) ⟨Nat.le_of_ble_eq_true rfl, Nat.le_of_ble_eq_true rfl⟩) ⟨sz_c, va_recv hK hP (ci := 10) (q0 := 4) rfl (gX_4 cs ad nu2_), sz_m hK hz⟩ rfl rfl hl.1 rfl (lv_room (Nat.le_of_ble_eq_true rfl)) dX5_linkUnder_18 ⟨Nat.zero_le _, Nat.zero_le _⟩) hS (fun r3 hw3 locs hS => ?_)
        obtain ⟨hfe3, hw3⟩ := hw3
        have hF := mi_let hF hfe3
        refine va_iast hx hb hK hP (wR_D nu2_ hD) hS 52 0 (gX_52 cs ad nu2_) rfl (show vp_in v3_2 7 from vi_of (by omega) (by omega)) dX5_linkUnder_21 (fun H locs hP _ hS => ?_)
        refine wr_gen (upd (nu2_ 52) v3_2.toNatClampNeg r3) hP (rfl) (fun nu4 hn4 hP => ?_)
        have hF := mi_let hF hn4.symm
        have ok := tX_52_s ok v3_2.toNatClampNeg hn4
        have ez5 : y1 = nu4 4 6 := ey1.trans (congrFun (up_k hn4 (by decide)) 6).symm
        have kp6 : (∀ k f : Nat, Nat.testBit 510 (gpX k f) = true → nu4 k f = mu k f) := kp_c 0 hn4 (fun _ => rfl) (by decide) kq2_0
        refine lv_iinc (v := (v3_2 + 1)) (lv' := [(3, .int (v3_2 + 1)), (0, .ref (ad 32)), (1, .ref (ad 4)), (2, .int vs)]) hx hb dX5_linkUnder_22 hl (k := 0) rfl rfl (by decide) rfl (fun ls hl => ?_)
        refine loc_gen (P := fun w9 => lv_has ls 4 [(3, .int w9), (0, .ref (ad 32)), (1, .ref (ad 4)), (2, .int vs)]) (v3_2 + 1) hl (fun w7 hw7 hl => ?_)
        have hl : lv_has ls 4 [(3, .int w7), (0, .ref (ad 32)), (1, .ref (ad 4)), (2, .int vs)] := hl
        have hF := mi_let hF hw7.symm
        have aw7 : w7.toInt = v3_2.toInt + 1 := by rw [← hw7]; first | exact va1 (Int.lt_of_le_of_lt h_v3_2.2 (by decide)) | exact va1 (by omega)
        refine lv_goto (tgt := 2) hx hb dX5_linkUnder_25 (by decide) ?_
        exact ih2 (w7) nu4 _ _ _ (by first | exact ms_up hm_2 aw7 h_v3_2.2 | exact ms_lt hm_2 (by omega) (by omega) | omega) (by first | exact rg_up aw7 h_v3_2 (by omega) | omega)  ok hP  kp6 hF hS (lv_sub hl [0, 1, 2, 3] rfl)
  exact loop2 10 (0) mu _ _ _ (by have h80 : (0 : Int32).toInt = 0 := rfl; omega) (by have h80 : (0 : Int32).toInt = 0 := rfl; exact ⟨by omega, by omega⟩)  ok hP  (fun _ _ _ => rfl) hF hS hl
set_option maxHeartbeats 4000000 in
set_option maxRecDepth 100000 in
/-- sx_lookFrom -/
theorem sx_lookFrom (l : Launch) (dC : Nat → ClassId) (dI : Nat → Nat → Nat) (cs : Nat → ClassId) (ad : Nat → Nat) (mu : Nat → Nat → Int32) (ok : okR loX hiX mu) (H : Heap) (hP : va_P (dC, dI) vwCl (wR 157 ad (EX cs ad) mu) H) (hD0 : va_D (fun _ => True) (wR 157 ad (EX cs ad) mu)) (vx : Int32) (vy : Int32) (vp : Int32) (hin0 : 0 ≤ vx.toInt ∧ vx.toInt ≤ 6 ∧ 0 ≤ vy.toInt ∧ vy.toInt ≤ 6) : Met l yX5_lookFrom (wU yX5_lookFrom cX5_lookFrom 5 none) ({ frames := 3, cells := 0, slots := 0, locals := 68 }) (va_Pc [.ref (ad 32), .ref (ad 4), .int vx, .int vy, .int vp] (sz_P (dC, dI) vwCl (tyW cs) H)) (va_Qv (fun (xi : Nat → Nat → Int32) => xi = F_sx_lookFrom mu vx vy vp ∧ okR loX hiX xi ∧ (True) ∧ (∀ k f : Nat, Nat.testBit 510 (gpX k f) = true → xi k f = mu k f)) (fun xi t => va_P (dC, dI) vwCl (wR 157 ad (EX cs ad) xi) t.heap) (va_A (wR 157 ad (EX cs ad) mu) H.size)) 0 0 (va_A (wR 157 ad (EX cs ad) mu) H.size) := by
  refine Met.ofW (cc := cX5_lookFrom) (maxL := 5) (ret := none) (by decide) rfl ?_
  intro p e s m args below meth c s₁ B hml hv
  obtain ⟨rfl, hh, hK, hz⟩ := hv
  have hx := B.exec
  have hb := B.bytes
  have hr := B.returns
  have hts := atoms_spec (ws := (wU yX5_lookFrom cX5_lookFrom 5 none)) B.pre
  have hown : s.vm.findClass RX5 = some m.cls := findClass_of_methodNamed B.named
  have hlocks := B.notSynchronized
  subst hh
  have hD := hD0.self (sz := s.heap.size)
  have hA : ∀ q : Nat, s.heap.size ≤ q → (va_A (wR 157 ad (EX cs ad) mu) s.heap.size) q := fun q h => Or.inr h
  have hS : va_S (va_A (wR 157 ad (EX cs ad) mu) s.heap.size) s.heap s.heap [] := va_S.rf
  have hl := lv_entry ([.ref (ad 32), .ref (ad 4), .int vx, .int vy, .int vp]) (n := 5) (Nat.le_of_ble_eq_true rfl)
  rw [lg_entry_eq]
  generalize (lg_sl ([.ref (ad 32), .ref (ad 4), .int vx, .int vy, .int vp]) ++ List.replicate (5 - (lg_sl ([.ref (ad 32), .ref (ad 4), .int vx, .int vy, .int vp])).length) Slot.unset).toArray = ls at hl ⊢
  have hl : lv_has ls 5 [(0, .ref (ad 32)), (1, .ref (ad 4)), (2, .int vx), (3, .int vy), (4, .int vp)] := hl
  obtain ⟨fz, hfz⟩ : ∃ z, F_sx_lookFrom mu vx vy vp = z := ⟨_, rfl⟩
  have hF := hfz
  unfold F_sx_lookFrom at hF
  refine lv_aload_n hx hb dX5_lookFrom_0 rfl (lv_at hl 0 rfl) ?_
  refine lv_iload_n hx hb dX5_lookFrom_1 rfl (lv_at hl 2 rfl) ?_
  refine va_put (D := (dC, dI)) (ci := 5) (v := .int vx) (ty := .int) (C := RX5) (T := TX5) (N := 15) hx hb hts inG5 tyX5 tyX5_ok nmX5 hown hK hP (wR_D mu hD) hS 32 (gX_32 cs ad mu) rfl 5 (by decide) (hts _ (List.mem_cons_of_mem _ mw_2_53)) (fun _ h9 => h9) rfl (by decide +kernel) rfl rfl (Nat.le_of_ble_eq_true rfl) dX5_lookFrom_2 (fun H locs hP _ hS => ?_)
  simp only [List.set_cons_succ, List.set_cons_zero] at hP
  refine wr_gen (upd (mu 32) 5 vx) hP ((hX_32_5 cs ad _ _)) (fun nu1 hn1 hP => ?_)
  have hF := mi_let hF hn1.symm
  have ok := tX_32_5 ok hn1 (by omega)
  have kp2 : (∀ k f : Nat, Nat.testBit 510 (gpX k f) = true → nu1 k f = mu k f) := kp_c 0 hn1 (fun _ => rfl) (by decide) (fun _ _ _ => rfl)
  have ez3 : vx = nu1 32 5 := up_v hn1
  refine lv_aload_n hx hb dX5_lookFrom_5 rfl (lv_at hl 0 rfl) ?_
  refine lv_iload_n hx hb dX5_lookFrom_6 rfl (lv_at hl 3 rfl) ?_
  refine va_put (D := (dC, dI)) (ci := 5) (v := .int vy) (ty := .int) (C := RX5) (T := TX5) (N := 15) hx hb hts inG5 tyX5 tyX5_ok nmX5 hown hK hP (wR_D nu1 hD) hS 32 (gX_32 cs ad nu1) rfl 6 (by decide) (hts _ (List.mem_cons_of_mem _ mw_2_54)) (fun _ h9 => h9) rfl (by decide +kernel) rfl rfl (Nat.le_of_ble_eq_true rfl) dX5_lookFrom_7 (fun H locs hP _ hS => ?_)
  simp only [List.set_cons_succ, List.set_cons_zero] at hP
  refine wr_gen (upd (nu1 32) 6 vy) hP ((hX_32_6 cs ad _ _)) (fun nu4 hn4 hP => ?_)
  have hF := mi_let hF hn4.symm
  have ok := tX_32_6 ok hn4 (by omega)
  have ez5 : vx = nu4 32 5 := ez3.trans (up_f hn4 (by decide)).symm
  have kp6 : (∀ k f : Nat, Nat.testBit 510 (gpX k f) = true → nu4 k f = mu k f) := kp_c 0 hn4 (fun _ => rfl) (by decide) kp2
  have ez7 : vy = nu4 32 6 := up_v hn4
  refine lv_aload_n hx hb dX5_lookFrom_10 rfl (lv_at hl 0 rfl) ?_
  refine lv_iload hx hb dX5_lookFrom_11 (lv_at hl 4 rfl) ?_
  refine va_put (D := (dC, dI)) (ci := 5) (v := .int vp) (ty := .int) (C := RX5) (T := TX5) (N := 15) hx hb hts inG5 tyX5 tyX5_ok nmX5 hown hK hP (wR_D nu4 hD) hS 32 (gX_32 cs ad nu4) rfl 7 (by decide) (hts _ (List.mem_cons_of_mem _ mw_2_55)) (fun _ h9 => h9) rfl (by decide +kernel) rfl rfl (Nat.le_of_ble_eq_true rfl) dX5_lookFrom_13 (fun H locs hP _ hS => ?_)
  simp only [List.set_cons_succ, List.set_cons_zero] at hP
  refine wr_gen (upd (nu4 32) 7 vp) hP ((hX_32_7 cs ad _ _)) (fun nu8 hn8 hP => ?_)
  have hF := mi_let hF hn8.symm
  have ok := tX_32_7 ok hn8
  have ez9 : vx = nu8 32 5 := ez5.trans (up_f hn8 (by decide)).symm
  have ez10 : vy = nu8 32 6 := ez7.trans (up_f hn8 (by decide)).symm
  have kp11 : (∀ k f : Nat, Nat.testBit 510 (gpX k f) = true → nu8 k f = mu k f) := kp_c 0 hn8 (fun _ => rfl) (by decide) kp6
  have ez12 : vp = nu8 32 7 := up_v hn8
  refine lv_aload_n hx hb dX5_lookFrom_16 rfl (lv_at hl 1 rfl) ?_
  refine va_get (D := (dC, dI)) (ci := 10) (v := .ref (ad 5)) (C := RX10) (T := TX10) (N := 8) hx hb hts inG10 hown hK hP 4 (gX_4 cs ad nu8) rfl 3 (by decide) (hts _ (List.mem_cons_of_mem _ mw_1_153)) (fun _ h9 => h9) rfl dX5_lookFrom_17 ?_
  refine va_get (D := (dC, dI)) (ci := 8) (v := .ref (ad 46)) (C := RX8) (T := TX8) (N := 6) hx hb hts inG8 hown hK hP 5 (gX_5 cs ad nu8) rfl 0 (by decide) (hts _ (List.mem_cons_of_mem _ mw_1_104)) (fun _ h9 => h9) rfl dX5_lookFrom_20 ?_
  refine lv_iconst (v := 0) hx hb dX5_lookFrom_23 (by decide) ?_
  refine lv_aload_n hx hb dX5_lookFrom_24 rfl (lv_at hl 0 rfl) ?_
  refine va_get (D := (dC, dI)) (ci := 5) (v := .ref (ad 53)) (C := RX5) (T := TX5) (N := 15) hx hb hts inG5 hown hK hP 32 (gX_32 cs ad nu8) rfl 1 (by decide) (hts _ (List.mem_cons_of_mem _ mw_2_47)) (fun _ h9 => h9) rfl dX5_lookFrom_25 ?_
  refine lv_iconst (v := 0) hx hb dX5_lookFrom_28 (by decide) ?_
  refine lv_bipush (v := 7) hx hb dX5_lookFrom_29 (by decide) ?_
  refine va_copyi hx hb (hml.trans hl.1.symm) hown (hts _ (List.mem_cons_of_mem _ mw_4_14)) (hts _ (List.mem_cons_of_mem _ mw_3_4)) (hts _ (List.mem_cons_of_mem _ mw_3_3)) (hts _ (List.mem_cons_of_mem _ mw_1_15)) hK hP (wR_D nu8 hD) hS 46 53 0 0 (gX_46 cs ad nu8) (gX_53 cs ad nu8) rfl rfl rfl (by decide) (by decide) (by decide) (by have ua : ((0 : Int32).toNatClampNeg : Int) = 0 := rfl; have ub : ((0 : Int32).toNatClampNeg : Int) = 0 := rfl; have uc : ((7 : Int32).toNatClampNeg : Int) = 7 := rfl; omega) (by have ua : ((0 : Int32).toNatClampNeg : Int) = 0 := rfl; have ub : ((0 : Int32).toNatClampNeg : Int) = 0 := rfl; have uc : ((7 : Int32).toNatClampNeg : Int) = 7 := rfl; omega) (fun _ _ => rfl) (Nat.le_of_ble_eq_true rfl) (Nat.le_of_ble_eq_true rfl) dX5_lookFrom_31 (fun H locs hP _ hS => ?_)
  refine wr_gen (va_cpy (nu8 46) (nu8 53) (0 : Int32).toNatClampNeg (0 : Int32).toNatClampNeg (7 : Int32).toNatClampNeg) hP (rfl) (fun nu13 hn13 hP => ?_)
  have hF := mi_let hF hn13.symm
  have ok := okR_cp ok hn13 (cX_46_53  )
  have ez14 : vx = nu13 32 5 := ez9.trans (congrFun (up_k hn13 (by decide)) 5).symm
  have ez15 : vy = nu13 32 6 := ez10.trans (congrFun (up_k hn13 (by decide)) 6).symm
  have ez16 : vp = nu13 32 7 := ez12.trans (congrFun (up_k hn13 (by decide)) 7).symm
  have kp17 : (∀ k f : Nat, Nat.testBit 510 (gpX k f) = true → nu13 k f = mu k f) := kp_c 0 hn13 (fun _ => rfl) (by decide) kp11
  refine lv_aload_n hx hb dX5_lookFrom_34 rfl (lv_at hl 0 rfl) ?_
  refine lv_aload_n hx hb dX5_lookFrom_35 rfl (lv_at hl 1 rfl) ?_
  refine lv_aload_n hx hb dX5_lookFrom_36 rfl (lv_at hl 1 rfl) ?_
  refine va_get (D := (dC, dI)) (ci := 10) (v := .ref (ad 5)) (C := RX10) (T := TX10) (N := 8) hx hb hts inG10 hown hK hP 4 (gX_4 cs ad nu13) rfl 3 (by decide) (hts _ (List.mem_cons_of_mem _ mw_1_153)) (fun _ h9 => h9) rfl dX5_lookFrom_37 ?_
  refine va_get (D := (dC, dI)) (ci := 8) (v := .int (nu13 5 2)) (C := RX8) (T := TX8) (N := 6) hx hb hts inG8 hown hK hP 5 (gX_5 cs ad nu13) rfl 2 (by decide) (hts _ (List.mem_cons_of_mem _ mw_1_114)) (fun _ h9 => h9) rfl dX5_lookFrom_40 ?_
  refine lv_topi (fun y18 ey18 => ?_)
  have hF := mi_let hF ey18
  have by18 : y18.toInt = (nu13 5 2).toInt := congrArg Int32.toInt ey18
  have hFc := fr_all (wR_D nu13 hD) hS hA
  refine va_callv (va_runV (As := [.ref (ad 4), .int y18]) (rest := []) ⟨hx, hb, hml, hown, hts⟩ (sx_linkUnder l dC dI cs ad nu13 ok H hP ((wR_D nu13 hD).weaken (fun _ _ _ _ => trivial)) y18) (cwV 2 hts (wU_V mw_4_18 mw_4_15 mw_4_17 mw_0_11 mw_1_8) rfl rfl rfl (by decide +kernel) ⟨Nat.le_of_ble_eq_true rfl, Nat.le_of_ble_eq_true rfl⟩) ⟨sz_c, va_recv hK hP (ci := 5) (q0 := 32) rfl (gX_32 cs ad nu13), sz_m hK hz⟩ rfl rfl hl.1 rfl (lv_room (Nat.le_of_ble_eq_true rfl)) dX5_lookFrom_43 ⟨Nat.zero_le _, Nat.zero_le _⟩) hS (fun q _ h => hFc q h) hFc (fun xi19 t H19 locs ht hvm hw19 hB hz1 hk1 hS => ?_)
  have hP : va_P (dC, dI) vwCl (wR 157 ad (EX cs ad) xi19) H19 := by rw [← ht]; exact hB
  obtain ⟨hfe19, ok, hw19, hkp19_0⟩ := hw19
  have hF := mi_let hF hfe19
  have kp20 : (∀ k f : Nat, Nat.testBit 510 (gpX k f) = true → xi19 k f = mu k f) := kp_t hkp19_0 (by decide) kp17
  exact W.vret hx hb hr (fun t ht hW => ⟨⟨xi19, rfl, ⟨hF.trans hfz.symm, ok, trivial, kp20⟩, by first | (subst ht; exact hP) | (rw [ht]; exact hP) | (show va_P (dC, dI) vwCl (wR 157 ad (EX cs ad) xi19) t.heap; rw [ht]; exact hP)⟩, hS.F ht⟩) hS.2.2 dX5_lookFrom_46
set_option maxHeartbeats 4000000 in
set_option maxRecDepth 100000 in
/-- sx_lookAt -/
theorem sx_lookAt (l : Launch) (dC : Nat → ClassId) (dI : Nat → Nat → Nat) (cs : Nat → ClassId) (ad : Nat → Nat) (mu : Nat → Nat → Int32) (ok : okR loX hiX mu) (H : Heap) (hP : va_P (dC, dI) vwCl (wR 157 ad (EX cs ad) mu) H) (hD0 : va_D (fun _ => True) (wR 157 ad (EX cs ad) mu)) (kl : Nat) (h1kl : 61 ≤ kl) (h2kl : kl < 77) : Met l yX5_lookAt (wU yX5_lookAt cX5_lookAt 3 none) ({ frames := 4, cells := 0, slots := 0, locals := 92 }) (va_Pc [.ref (ad 32), .ref (ad 4), .ref (ad kl)] (sz_P (dC, dI) vwCl (tyW cs) H)) (va_Qv (fun (xi : Nat → Nat → Int32) => xi = F_sx_lookAt mu kl ∧ okR loX hiX xi ∧ (True) ∧ (∀ k f : Nat, Nat.testBit 510 (gpX k f) = true → xi k f = mu k f)) (fun xi t => va_P (dC, dI) vwCl (wR 157 ad (EX cs ad) xi) t.heap) (va_A (wR 157 ad (EX cs ad) mu) H.size)) 0 0 (va_A (wR 157 ad (EX cs ad) mu) H.size) := by
  refine Met.ofW (cc := cX5_lookAt) (maxL := 3) (ret := none) (by decide) rfl ?_
  intro p e s m args below meth c s₁ B hml hv
  obtain ⟨rfl, hh, hK, hz⟩ := hv
  have hx := B.exec
  have hb := B.bytes
  have hr := B.returns
  have hts := atoms_spec (ws := (wU yX5_lookAt cX5_lookAt 3 none)) B.pre
  have hown : s.vm.findClass RX5 = some m.cls := findClass_of_methodNamed B.named
  have hlocks := B.notSynchronized
  subst hh
  have hD := hD0.self (sz := s.heap.size)
  have hA : ∀ q : Nat, s.heap.size ≤ q → (va_A (wR 157 ad (EX cs ad) mu) s.heap.size) q := fun q h => Or.inr h
  have hS : va_S (va_A (wR 157 ad (EX cs ad) mu) s.heap.size) s.heap s.heap [] := va_S.rf
  have hl := lv_entry ([.ref (ad 32), .ref (ad 4), .ref (ad kl)]) (n := 3) (Nat.le_of_ble_eq_true rfl)
  rw [lg_entry_eq]
  generalize (lg_sl ([.ref (ad 32), .ref (ad 4), .ref (ad kl)]) ++ List.replicate (3 - (lg_sl ([.ref (ad 32), .ref (ad 4), .ref (ad kl)])).length) Slot.unset).toArray = ls at hl ⊢
  have hl : lv_has ls 3 [(0, .ref (ad 32)), (1, .ref (ad 4)), (2, .ref (ad kl))] := hl
  obtain ⟨fz, hfz⟩ : ∃ z, F_sx_lookAt mu kl = z := ⟨_, rfl⟩
  have hF := hfz
  unfold F_sx_lookAt at hF
  refine lv_aload_n hx hb dX5_lookAt_0 rfl (lv_at hl 0 rfl) ?_
  refine lv_aload_n hx hb dX5_lookAt_1 rfl (lv_at hl 1 rfl) ?_
  refine lv_aload_n hx hb dX5_lookAt_2 rfl (lv_at hl 2 rfl) ?_
  refine va_get (D := (dC, dI)) (ci := 3) (v := .int (mu kl 5)) (C := RX3) (T := TX3) (N := 10) hx hb hts inG3 hown hK hP kl (gX_letter cs ad mu kl h1kl h2kl) rfl 5 (by decide) (hts _ (List.mem_cons_of_mem _ mw_1_61)) (fun _ h9 => h9) rfl dX5_lookAt_3 ?_
  refine lv_topi (fun y1 ey1 => ?_)
  have hF := mi_let hF ey1
  have by1 : y1.toInt = (mu kl 5).toInt := congrArg Int32.toInt ey1
  have gy1 : 0 ≤ y1.toInt ∧ y1.toInt ≤ 6 := by rw [ey1]; exact rX_letter_5 ok kl h1kl h2kl
  refine lv_aload_n hx hb dX5_lookAt_6 rfl (lv_at hl 2 rfl) ?_
  refine va_get (D := (dC, dI)) (ci := 3) (v := .int (mu kl 1)) (C := RX3) (T := TX3) (N := 10) hx hb hts inG3 hown hK hP kl (gX_letter cs ad mu kl h1kl h2kl) rfl 1 (by decide) (hts _ (List.mem_cons_of_mem _ mw_1_53)) (fun _ h9 => h9) rfl dX5_lookAt_7 ?_
  refine lv_topi (fun y2 ey2 => ?_)
  have hF := mi_let hF ey2
  have by2 : y2.toInt = (mu kl 1).toInt := congrArg Int32.toInt ey2
  have gy2 : 0 ≤ y2.toInt ∧ y2.toInt ≤ 6 := by rw [ey2]; exact rX_letter_1 ok kl h1kl h2kl
  refine lv_aload_n hx hb dX5_lookAt_10 rfl (lv_at hl 2 rfl) ?_
  refine va_get (D := (dC, dI)) (ci := 3) (v := .int (mu kl 6)) (C := RX3) (T := TX3) (N := 10) hx hb hts inG3 hown hK hP kl (gX_letter cs ad mu kl h1kl h2kl) rfl 6 (by decide) (hts _ (List.mem_cons_of_mem _ mw_1_66)) (fun _ h9 => h9) rfl dX5_lookAt_11 ?_
  refine lv_topi (fun y3 ey3 => ?_)
  have hF := mi_let hF ey3
  have by3 : y3.toInt = (mu kl 6).toInt := congrArg Int32.toInt ey3
  have hFc := fr_all (wR_D mu hD) hS hA
  refine va_callv (va_runV (As := [.ref (ad 4), .int y1, .int y2, .int y3]) (rest := []) ⟨hx, hb, hml, hown, hts⟩ (sx_lookFrom l dC dI cs ad mu ok s.heap hP ((wR_D mu hD).weaken (fun _ _ _ _ => trivial)) y1 y2 y3 (by omega)) (cwV 4 hts (wU_V mw_4_13 mw_4_10 mw_4_12 mw_0_10 mw_1_8) rfl rfl rfl (by decide +kernel) ⟨Nat.le_of_ble_eq_true rfl, Nat.le_of_ble_eq_true rfl⟩) ⟨sz_c, va_recv hK hP (ci := 5) (q0 := 32) rfl (gX_32 cs ad mu), sz_m hK hz⟩ rfl rfl hl.1 rfl (lv_room (Nat.le_of_ble_eq_true rfl)) dX5_lookAt_14 ⟨Nat.zero_le _, Nat.zero_le _⟩) hS (fun q _ h => hFc q h) hFc (fun xi4 t H4 locs ht hvm hw4 hB hz1 hk1 hS => ?_)
  have hP : va_P (dC, dI) vwCl (wR 157 ad (EX cs ad) xi4) H4 := by rw [← ht]; exact hB
  obtain ⟨hfe4, ok, hw4, hkp4_0⟩ := hw4
  have hF := mi_let hF hfe4
  have kp5 : (∀ k f : Nat, Nat.testBit 510 (gpX k f) = true → xi4 k f = mu k f) := kp_t hkp4_0 (by decide) (fun _ _ _ => rfl)
  refine lv_aload_n hx hb dX5_lookAt_17 rfl (lv_at hl 0 rfl) ?_
  refine lv_aload_n hx hb dX5_lookAt_18 rfl (lv_at hl 2 rfl) ?_
  refine lv_aload_n hx hb dX5_lookAt_19 rfl (lv_at hl 1 rfl) ?_
  refine va_get (D := (dC, dI)) (ci := 10) (v := .ref (ad 5)) (C := RX10) (T := TX10) (N := 8) hx hb hts inG10 hown hK hP 4 (gX_4 cs ad xi4) rfl 3 (by decide) (hts _ (List.mem_cons_of_mem _ mw_1_153)) (fun _ h9 => h9) rfl dX5_lookAt_20 ?_
  refine va_get (D := (dC, dI)) (ci := 8) (v := .int (xi4 5 3)) (C := RX8) (T := TX8) (N := 6) hx hb hts inG8 hown hK hP 5 (gX_5 cs ad xi4) rfl 3 (by decide) (hts _ (List.mem_cons_of_mem _ mw_1_119)) (fun _ h9 => h9) rfl dX5_lookAt_23 ?_
  refine lv_topi (fun y6 ey6 => ?_)
  have hF := mi_let hF ey6
  have by6 : y6.toInt = (xi4 5 3).toInt := congrArg Int32.toInt ey6
  refine cr_i (va_runV (As := [.int y6]) (rest := [.ref (ad 32)]) ⟨hx, hb, hml, hown, hts⟩ (sx_worthOn l dC dI cs ad xi4 ok H4 hP kl h1kl h2kl y6) (cwV 1 hts (wU_V mw_3_170 mw_4_20 mw_3_168 mw_3_169 mw_1_4) rfl rfl rfl (by decide +kernel) ⟨Nat.le_of_ble_eq_true rfl, Nat.le_of_ble_eq_true rfl⟩) ⟨sz_c, va_recv hK hP (ci := 3) (q0 := kl) rfl (gX_letter cs ad xi4 kl h1kl h2kl), sz_m hK hz⟩ rfl rfl hl.1 rfl (lv_room (Nat.le_of_ble_eq_true rfl)) dX5_lookAt_26 ⟨Nat.zero_le _, Nat.zero_le _⟩) hS (fun r7 hw7 locs hS => ?_)
  obtain ⟨hfe7, hw7⟩ := hw7
  have hF := mi_let hF hfe7
  refine va_put (D := (dC, dI)) (ci := 5) (v := .int r7) (ty := .int) (C := RX5) (T := TX5) (N := 15) hx hb hts inG5 tyX5 tyX5_ok nmX5 hown hK hP (wR_D xi4 hD) hS 32 (gX_32 cs ad xi4) rfl 8 (by decide) (hts _ (List.mem_cons_of_mem _ mw_2_56)) (fun _ h9 => h9) rfl (by decide +kernel) rfl rfl (Nat.le_of_ble_eq_true rfl) dX5_lookAt_29 (fun H locs hP _ hS => ?_)
  simp only [List.set_cons_succ, List.set_cons_zero] at hP
  refine wr_gen (upd (xi4 32) 8 r7) hP ((hX_32_8 cs ad _ _)) (fun nu8 hn8 hP => ?_)
  have hF := mi_let hF hn8.symm
  have ok := tX_32_8 ok hn8
  have ez9 : y6 = nu8 5 3 := ey6.trans (congrFun (up_k hn8 (by decide)) 3).symm
  have kp10 : (∀ k f : Nat, Nat.testBit 510 (gpX k f) = true → nu8 k f = mu k f) := kp_c 0 hn8 (fun _ => rfl) (by decide) kp5
  have ez11 : r7 = nu8 32 8 := up_v hn8
  refine lv_aload_n hx hb dX5_lookAt_32 rfl (lv_at hl 0 rfl) ?_
  refine lv_aload_n hx hb dX5_lookAt_33 rfl (lv_at hl 2 rfl) ?_
  refine va_get (D := (dC, dI)) (ci := 3) (v := .int (nu8 kl 3)) (C := RX3) (T := TX3) (N := 10) hx hb hts inG3 hown hK hP kl (gX_letter cs ad nu8 kl h1kl h2kl) rfl 3 (by decide) (hts _ (List.mem_cons_of_mem _ mw_1_59)) (fun _ h9 => h9) rfl dX5_lookAt_34 ?_
  refine lv_topi (fun y12 ey12 => ?_)
  have hF := mi_let hF ey12
  have by12 : y12.toInt = (nu8 kl 3).toInt := congrArg Int32.toInt ey12
  refine va_put (D := (dC, dI)) (ci := 5) (v := .int y12) (ty := .int) (C := RX5) (T := TX5) (N := 15) hx hb hts inG5 tyX5 tyX5_ok nmX5 hown hK hP (wR_D nu8 hD) hS 32 (gX_32 cs ad nu8) rfl 9 (by decide) (hts _ (List.mem_cons_of_mem _ mw_2_57)) (fun _ h9 => h9) rfl (by decide +kernel) rfl rfl (Nat.le_of_ble_eq_true rfl) dX5_lookAt_37 (fun H locs hP _ hS => ?_)
  simp only [List.set_cons_succ, List.set_cons_zero] at hP
  refine wr_gen (upd (nu8 32) 9 y12) hP ((hX_32_9 cs ad _ _)) (fun nu13 hn13 hP => ?_)
  have hF := mi_let hF hn13.symm
  have ok := tX_32_9 ok hn13
  have ez14 : y6 = nu13 5 3 := ez9.trans (congrFun (up_k hn13 (by decide)) 3).symm
  have ez15 : r7 = nu13 32 8 := ez11.trans (up_f hn13 (by decide)).symm
  have ez16 : y12 = nu13 kl 3 := ey12.trans (congrFun (up_k hn13 (ne_lo (by decide) h1kl).symm) 3).symm
  have kp17 : (∀ k f : Nat, Nat.testBit 510 (gpX k f) = true → nu13 k f = mu k f) := kp_c 0 hn13 (fun _ => rfl) (by decide) kp10
  have ez18 : y12 = nu13 32 9 := up_v hn13
  refine lv_aload_n hx hb dX5_lookAt_40 rfl (lv_at hl 0 rfl) ?_
  refine lv_aload_n hx hb dX5_lookAt_41 rfl (lv_at hl 2 rfl) ?_
  refine va_get (D := (dC, dI)) (ci := 3) (v := .int (nu13 kl 7)) (C := RX3) (T := TX3) (N := 10) hx hb hts inG3 hown hK hP kl (gX_letter cs ad nu13 kl h1kl h2kl) rfl 7 (by decide) (hts _ (List.mem_cons_of_mem _ mw_1_72)) (fun _ h9 => h9) rfl dX5_lookAt_42 ?_
  refine lv_topi (fun y19 ey19 => ?_)
  have hF := mi_let hF ey19
  have by19 : y19.toInt = (nu13 kl 7).toInt := congrArg Int32.toInt ey19
  refine lv_aload_n hx hb dX5_lookAt_45 rfl (lv_at hl 1 rfl) ?_
  refine va_get (D := (dC, dI)) (ci := 10) (v := .ref (ad 5)) (C := RX10) (T := TX10) (N := 8) hx hb hts inG10 hown hK hP 4 (gX_4 cs ad nu13) rfl 3 (by decide) (hts _ (List.mem_cons_of_mem _ mw_1_153)) (fun _ h9 => h9) rfl dX5_lookAt_46 ?_
  refine va_get (D := (dC, dI)) (ci := 8) (v := .int (nu13 5 3)) (C := RX8) (T := TX8) (N := 6) hx hb hts inG8 hown hK hP 5 (gX_5 cs ad nu13) rfl 3 (by decide) (hts _ (List.mem_cons_of_mem _ mw_1_119)) (fun _ h9 => h9) rfl dX5_lookAt_49 ?_
  refine lq_i y6 ez14.symm ?_
  refine lv_icmp_ne (tgt := 59) hx hb dX5_lookAt_52 (by decide) (fun c_20 => ?_) (fun c_20 => ?_)
  · have hF := (if_neg c_20).symm.trans hF
    have c_20 : ¬ y19.toInt = y6.toInt := il_ne c_20
    refine lv_iconst (v := 0) hx hb dX5_lookAt_59 (by decide) ?_
    refine va_put (D := (dC, dI)) (ci := 5) (v := .int 0) (ty := .int) (C := RX5) (T := TX5) (N := 15) hx hb hts inG5 tyX5 tyX5_ok nmX5 hown hK hP (wR_D nu13 hD) hS 32 (gX_32 cs ad nu13) rfl 10 (by decide) (hts _ (List.mem_cons_of_mem _ mw_2_58)) (fun _ h9 => h9) rfl (by decide +kernel) rfl rfl (Nat.le_of_ble_eq_true rfl) dX5_lookAt_60 (fun H locs hP _ hS => ?_)
    simp only [List.set_cons_succ, List.set_cons_zero] at hP
    refine wr_gen (upd (nu13 32) 10 0) hP ((hX_32_10 cs ad _ _)) (fun nu21 hn21 hP => ?_)
    have hF := mi_let hF hn21.symm
    have ok := tX_32_10 ok hn21
    have ez22 : y6 = nu21 5 3 := ez14.trans (congrFun (up_k hn21 (by decide)) 3).symm
    have ez23 : r7 = nu21 32 8 := ez15.trans (up_f hn21 (by decide)).symm
    have ez24 : y12 = nu21 kl 3 := ez16.trans (congrFun (up_k hn21 (ne_lo (by decide) h1kl).symm) 3).symm
    have ez25 : y12 = nu21 32 9 := ez18.trans (up_f hn21 (by decide)).symm
    have ez26 : y19 = nu21 kl 7 := ey19.trans (congrFun (up_k hn21 (ne_lo (by decide) h1kl).symm) 7).symm
    have kp27 : (∀ k f : Nat, Nat.testBit 510 (gpX k f) = true → nu21 k f = mu k f) := kp_c 0 hn21 (fun _ => rfl) (by decide) kp17
    have ez28 : 0 = nu21 32 10 := up_v hn21
    exact W.vret hx hb hr (fun t ht hW => ⟨⟨nu21, rfl, ⟨hF.trans hfz.symm, ok, trivial, kp27⟩, by first | (subst ht; exact hP) | (rw [ht]; exact hP) | (show va_P (dC, dI) vwCl (wR 157 ad (EX cs ad) nu21) t.heap; rw [ht]; exact hP)⟩, hS.F ht⟩) hS.2.2 dX5_lookAt_63
  · have hF := (if_pos c_20).symm.trans hF
    have c_20 : y19.toInt = y6.toInt := il_eq c_20
    refine lv_iconst (v := 1) hx hb dX5_lookAt_55 (by decide) ?_
    refine lv_goto (tgt := 60) hx hb dX5_lookAt_56 (by decide) ?_
    refine va_put (D := (dC, dI)) (ci := 5) (v := .int 1) (ty := .int) (C := RX5) (T := TX5) (N := 15) hx hb hts inG5 tyX5 tyX5_ok nmX5 hown hK hP (wR_D nu13 hD) hS 32 (gX_32 cs ad nu13) rfl 10 (by decide) (hts _ (List.mem_cons_of_mem _ mw_2_58)) (fun _ h9 => h9) rfl (by decide +kernel) rfl rfl (Nat.le_of_ble_eq_true rfl) dX5_lookAt_60 (fun H locs hP _ hS => ?_)
    simp only [List.set_cons_succ, List.set_cons_zero] at hP
    refine wr_gen (upd (nu13 32) 10 1) hP ((hX_32_10 cs ad _ _)) (fun nu29 hn29 hP => ?_)
    have hF := mi_let hF hn29.symm
    have ok := tX_32_10 ok hn29
    have ez30 : y6 = nu29 5 3 := ez14.trans (congrFun (up_k hn29 (by decide)) 3).symm
    have ez31 : r7 = nu29 32 8 := ez15.trans (up_f hn29 (by decide)).symm
    have ez32 : y12 = nu29 kl 3 := ez16.trans (congrFun (up_k hn29 (ne_lo (by decide) h1kl).symm) 3).symm
    have ez33 : y12 = nu29 32 9 := ez18.trans (up_f hn29 (by decide)).symm
    have ez34 : y19 = nu29 kl 7 := ey19.trans (congrFun (up_k hn29 (ne_lo (by decide) h1kl).symm) 7).symm
    have kp35 : (∀ k f : Nat, Nat.testBit 510 (gpX k f) = true → nu29 k f = mu k f) := kp_c 0 hn29 (fun _ => rfl) (by decide) kp17
    have ez36 : 1 = nu29 32 10 := up_v hn29
    exact W.vret hx hb hr (fun t ht hW => ⟨⟨nu29, rfl, ⟨hF.trans hfz.symm, ok, trivial, kp35⟩, by first | (subst ht; exact hP) | (rw [ht]; exact hP) | (show va_P (dC, dI) vwCl (wR 157 ad (EX cs ad) nu29) t.heap; rw [ht]; exact hP)⟩, hS.F ht⟩) hS.2.2 dX5_lookAt_63
set_option maxHeartbeats 4000000 in
set_option maxRecDepth 100000 in
/-- sx_buys -/
theorem sx_buys (l : Launch) (dC : Nat → ClassId) (dI : Nat → Nat → Nat) (cs : Nat → ClassId) (ad : Nat → Nat) (mu : Nat → Nat → Int32) (ok : okR loX hiX mu) (H : Heap) (hP : va_P (dC, dI) vwCl (wR 157 ad (EX cs ad) mu) H) (vx : Int32) (vy : Int32) (vu : Int32) (vp : Int32) (hin0 : 0 ≤ vx.toInt ∧ vx.toInt ≤ 6 ∧ 0 ≤ vy.toInt ∧ vy.toInt ≤ 6) : Met l yX5_buys (wU yX5_buys cX5_buys 6 (some .boolean)) ({ frames := 1, cells := 0, slots := 0, locals := 21 }) (va_Pc [.ref (ad 32), .ref (ad 4), .int vx, .int vy, .int vu, .int vp] (sz_P (dC, dI) vwCl (tyW cs) H)) (va_Qi (fun (z : Int32) (_ : Unit) => z = F_sx_buys mu vx vy vu vp ∧ (0 ≤ z.toInt ∧ z.toInt ≤ 1)) (fun _ t => t.heap = H) (fun _ => False)) 0 0 (fun _ => False) := by
  refine Met.ofW (cc := cX5_buys) (maxL := 6) (ret := (some .boolean)) (by decide) rfl ?_
  intro p e s m args below meth c s₁ B hml hv
  obtain ⟨rfl, hh, hK, hz⟩ := hv
  have hx := B.exec
  have hb := B.bytes
  have hr := B.returns
  have hts := atoms_spec (ws := (wU yX5_buys cX5_buys 6 (some .boolean))) B.pre
  have hown : s.vm.findClass RX5 = some m.cls := findClass_of_methodNamed B.named
  have hlocks := B.notSynchronized
  subst hh
  have hS : va_S (fun _ => False) s.heap s.heap [] := va_S.rf
  have hl := lv_entry ([.ref (ad 32), .ref (ad 4), .int vx, .int vy, .int vu, .int vp]) (n := 6) (Nat.le_of_ble_eq_true rfl)
  rw [lg_entry_eq]
  generalize (lg_sl ([.ref (ad 32), .ref (ad 4), .int vx, .int vy, .int vu, .int vp]) ++ List.replicate (6 - (lg_sl ([.ref (ad 32), .ref (ad 4), .int vx, .int vy, .int vu, .int vp])).length) Slot.unset).toArray = ls at hl ⊢
  have hl : lv_has ls 6 [(0, .ref (ad 32)), (1, .ref (ad 4)), (2, .int vx), (3, .int vy), (4, .int vu), (5, .int vp)] := hl
  obtain ⟨fz, hfz⟩ : ∃ z, F_sx_buys mu vx vy vu vp = z := ⟨_, rfl⟩
  have hF := hfz
  unfold F_sx_buys at hF
  refine lv_aload_n hx hb dX5_buys_0 rfl (lv_at hl 0 rfl) ?_
  refine va_get (D := (dC, dI)) (ci := 5) (v := .ref (ad 52)) (C := RX5) (T := TX5) (N := 15) hx hb hts inG5 hown hK hP 32 (gX_32 cs ad mu) rfl 0 (by decide) (hts _ (List.mem_cons_of_mem _ mw_2_46)) (fun _ h9 => h9) rfl dX5_buys_1 ?_
  refine lv_iload_n hx hb dX5_buys_4 rfl (lv_at hl 2 rfl) ?_
  refine va_iald hx hb hK hP 52 0 (gX_52 cs ad mu) rfl (show vp_in vx 7 from vi_of (by omega) (by omega)) dX5_buys_5 ?_
  refine lv_topi (fun y1 ey1 => ?_)
  have hF := mi_let hF ey1
  have by1 : y1.toInt = (mu 52 vx.toNatClampNeg).toInt := congrArg Int32.toInt ey1
  refine lv_iload_n hx hb dX5_buys_6 rfl (lv_at hl 3 rfl) ?_
  refine cr_i (va_runSN (As := [.int y1, .int vy]) (rest := []) ⟨hx, hb, hml, hown, hts⟩ (sx_hasBit l dC dI (tyW cs) s.heap y1 vy) ⟨va_cnB 2 hts (wU_in mw_3_87) rfl rfl rfl (hz.2.2.2.2.2.2.2.2.2.2.2.2.2.2.1) (hts _ (List.mem_cons_of_mem _ mw_1_1)) (by decide +kernel) ⟨Nat.le_of_ble_eq_true rfl, Nat.le_of_ble_eq_true rfl⟩, (hts _ (List.mem_cons_of_mem _ mw_3_86)), trivial⟩ ⟨sz_c, sz_m hK hz⟩ rfl rfl hl.1 rfl (lv_room (Nat.le_of_ble_eq_true rfl)) dX5_buys_7 ⟨Nat.zero_le _, Nat.zero_le _⟩) hS (fun r2 hw2 locs hS => ?_)
  obtain ⟨hfe2, hw2⟩ := hw2
  have hF := mi_let hF hfe2
  have gr2 : 0 ≤ r2.toInt ∧ r2.toInt ≤ 1 := hw2
  refine lv_if_eq (tgt := 55) hx hb dX5_buys_10 (by decide) (fun c_3 => ?_) (fun c_3 => ?_)
  · have hF := (if_pos c_3).symm.trans hF
    have c_3 : r2.toInt = 0 := il_eq c_3
    refine lv_iconst (v := 0) hx hb dX5_buys_55 (by decide) ?_
    exact W.zret (v := 0) (ty := .boolean) hx hb hr (by first | rfl | decide) (fun t ht hW => ⟨⟨0, (), rfl, ⟨hF.trans hfz.symm, (by have h6 : (0 : Int32).toInt = 0 := rfl; omega)⟩, ht⟩, hS.F ht⟩) hS.2.2 dX5_buys_56
  · have hF := (if_neg c_3).symm.trans hF
    have c_3 : ¬ r2.toInt = 0 := il_ne c_3
    refine lv_iload hx hb dX5_buys_13 (lv_at hl 4 rfl) ?_
    refine lv_iload_n hx hb dX5_buys_15 rfl (lv_at hl 3 rfl) ?_
    refine cr_i (va_runSN (As := [.int vu, .int vy]) (rest := []) ⟨hx, hb, hml, hown, hts⟩ (sx_hasBit l dC dI (tyW cs) s.heap vu vy) ⟨va_cnB 2 hts (wU_in mw_3_87) rfl rfl rfl (hz.2.2.2.2.2.2.2.2.2.2.2.2.2.2.1) (hts _ (List.mem_cons_of_mem _ mw_1_1)) (by decide +kernel) ⟨Nat.le_of_ble_eq_true rfl, Nat.le_of_ble_eq_true rfl⟩, (hts _ (List.mem_cons_of_mem _ mw_3_86)), trivial⟩ ⟨sz_c, sz_m hK hz⟩ rfl rfl hl.1 rfl (lv_room (Nat.le_of_ble_eq_true rfl)) dX5_buys_16 ⟨Nat.zero_le _, Nat.zero_le _⟩) hS (fun r4 hw4 locs hS => ?_)
    obtain ⟨hfe4, hw4⟩ := hw4
    have hF := mi_let hF hfe4
    have gr4 : 0 ≤ r4.toInt ∧ r4.toInt ≤ 1 := hw4
    refine lv_if_ne (tgt := 55) hx hb dX5_buys_19 (by decide) (fun c_5 => ?_) (fun c_5 => ?_)
    · have hF := (if_neg c_5).symm.trans hF
      have c_5 : ¬ r4.toInt = 0 := il_ne c_5
      refine lv_iconst (v := 0) hx hb dX5_buys_55 (by decide) ?_
      exact W.zret (v := 0) (ty := .boolean) hx hb hr (by first | rfl | decide) (fun t ht hW => ⟨⟨0, (), rfl, ⟨hF.trans hfz.symm, (by have h6 : (0 : Int32).toInt = 0 := rfl; omega)⟩, ht⟩, hS.F ht⟩) hS.2.2 dX5_buys_56
    · have hF := (if_pos c_5).symm.trans hF
      have c_5 : r4.toInt = 0 := il_eq c_5
      refine lv_aload_n hx hb dX5_buys_22 rfl (lv_at hl 0 rfl) ?_
      refine va_get (D := (dC, dI)) (ci := 5) (v := .ref (ad 53)) (C := RX5) (T := TX5) (N := 15) hx hb hts inG5 hown hK hP 32 (gX_32 cs ad mu) rfl 1 (by decide) (hts _ (List.mem_cons_of_mem _ mw_2_47)) (fun _ h9 => h9) rfl dX5_buys_23 ?_
      refine lv_iload_n hx hb dX5_buys_26 rfl (lv_at hl 3 rfl) ?_
      refine va_iald hx hb hK hP 53 0 (gX_53 cs ad mu) rfl (show vp_in vy 7 from vi_of (by omega) (by omega)) dX5_buys_27 ?_
      refine lv_topi (fun y6 ey6 => ?_)
      have hF := mi_let hF ey6
      have by6 : y6.toInt = (mu 53 vy.toNatClampNeg).toInt := congrArg Int32.toInt ey6
      refine lv_iload hx hb dX5_buys_28 (lv_at hl 5 rfl) ?_
      refine lv_icmp_lt (tgt := 55) hx hb dX5_buys_30 (by decide) (fun c_7 => ?_) (fun c_7 => ?_)
      · have hF := (if_pos c_7).symm.trans hF
        have c_7 : y6.toInt < vp.toInt := il_lt c_7
        refine lv_iconst (v := 0) hx hb dX5_buys_55 (by decide) ?_
        exact W.zret (v := 0) (ty := .boolean) hx hb hr (by first | rfl | decide) (fun t ht hW => ⟨⟨0, (), rfl, ⟨hF.trans hfz.symm, (by have h6 : (0 : Int32).toInt = 0 := rfl; omega)⟩, ht⟩, hS.F ht⟩) hS.2.2 dX5_buys_56
      · have hF := (if_neg c_7).symm.trans hF
        have c_7 : vp.toInt ≤ y6.toInt := il_nlt c_7
        refine lv_iload_n hx hb dX5_buys_33 rfl (lv_at hl 3 rfl) ?_
        refine lv_aload_n hx hb dX5_buys_34 rfl (lv_at hl 0 rfl) ?_
        refine va_get (D := (dC, dI)) (ci := 5) (v := .int (mu 32 6)) (C := RX5) (T := TX5) (N := 15) hx hb hts inG5 hown hK hP 32 (gX_32 cs ad mu) rfl 6 (by decide) (hts _ (List.mem_cons_of_mem _ mw_2_54)) (fun _ h9 => h9) rfl dX5_buys_35 ?_
        refine lv_topi (fun y8 ey8 => ?_)
        have hF := mi_let hF ey8
        have by8 : y8.toInt = (mu 32 6).toInt := congrArg Int32.toInt ey8
        have gy8 : 0 ≤ y8.toInt ∧ y8.toInt ≤ 6 := by rw [ey8]; exact rX_32_6 ok
        refine lv_icmp_eq (tgt := 51) hx hb dX5_buys_38 (by decide) (fun c_9 => ?_) (fun c_9 => ?_)
        · have hF := (if_pos c_9).symm.trans hF
          have c_9 : vy.toInt = y8.toInt := il_eq c_9
          refine lv_iconst (v := 1) hx hb dX5_buys_51 (by decide) ?_
          refine lv_goto (tgt := 56) hx hb dX5_buys_52 (by decide) ?_
          exact W.zret (v := 1) (ty := .boolean) hx hb hr (by first | rfl | decide) (fun t ht hW => ⟨⟨1, (), rfl, ⟨hF.trans hfz.symm, (by have h6 : (1 : Int32).toInt = 1 := rfl; omega)⟩, ht⟩, hS.F ht⟩) hS.2.2 dX5_buys_56
        · have hF := (if_neg c_9).symm.trans hF
          have c_9 : ¬ vy.toInt = y8.toInt := il_ne c_9
          refine lv_aload_n hx hb dX5_buys_41 rfl (lv_at hl 1 rfl) ?_
          refine va_get (D := (dC, dI)) (ci := 10) (v := .ref (ad 34)) (C := RX10) (T := TX10) (N := 8) hx hb hts inG10 hown hK hP 4 (gX_4 cs ad mu) rfl 0 (by decide) (hts _ (List.mem_cons_of_mem _ mw_1_146)) (fun _ h9 => h9) rfl dX5_buys_42 ?_
          refine lv_iload_n hx hb dX5_buys_45 rfl (lv_at hl 3 rfl) ?_
          refine va_iald hx hb hK hP 34 0 (gX_34 cs ad mu) rfl (show vp_in vy 7 from vi_of (by omega) (by omega)) dX5_buys_46 ?_
          refine lv_topi (fun y10 ey10 => ?_)
          have hF := mi_let hF ey10
          have by10 : y10.toInt = (mu 34 vy.toNatClampNeg).toInt := congrArg Int32.toInt ey10
          refine lv_iconst (v := 3) hx hb dX5_buys_47 (by decide) ?_
          refine lv_icmp_eq (tgt := 55) hx hb dX5_buys_48 (by decide) (fun c_11 => ?_) (fun c_11 => ?_)
          · have hF := (if_pos c_11).symm.trans hF
            have c_11 : y10.toInt = 3 := il_eq c_11
            refine lv_iconst (v := 0) hx hb dX5_buys_55 (by decide) ?_
            exact W.zret (v := 0) (ty := .boolean) hx hb hr (by first | rfl | decide) (fun t ht hW => ⟨⟨0, (), rfl, ⟨hF.trans hfz.symm, (by have h6 : (0 : Int32).toInt = 0 := rfl; omega)⟩, ht⟩, hS.F ht⟩) hS.2.2 dX5_buys_56
          · have hF := (if_neg c_11).symm.trans hF
            have c_11 : ¬ y10.toInt = 3 := il_ne c_11
            refine lv_iconst (v := 1) hx hb dX5_buys_51 (by decide) ?_
            refine lv_goto (tgt := 56) hx hb dX5_buys_52 (by decide) ?_
            exact W.zret (v := 1) (ty := .boolean) hx hb hr (by first | rfl | decide) (fun t ht hW => ⟨⟨1, (), rfl, ⟨hF.trans hfz.symm, (by have h6 : (1 : Int32).toInt = 1 := rfl; omega)⟩, ht⟩, hS.F ht⟩) hS.2.2 dX5_buys_56
set_option maxHeartbeats 4000000 in
set_option maxRecDepth 100000 in
/-- sx_needFor -/
theorem sx_needFor (l : Launch) (dC : Nat → ClassId) (dI : Nat → Nat → Nat) (cs : Nat → ClassId) (ad : Nat → Nat) (mu : Nat → Nat → Int32) (ok : okR loX hiX mu) (H : Heap) (hP : va_P (dC, dI) vwCl (wR 157 ad (EX cs ad) mu) H) (vs : Int32) (vp : Int32) : Met l yX5_needFor (wU yX5_needFor cX5_needFor 3 (some .int)) ({ frames := 0, cells := 0, slots := 0, locals := 0 }) (va_Pc [.ref (ad 32), .int vs, .int vp] (sz_P (dC, dI) vwCl (tyW cs) H)) (va_Qi (fun (z : Int32) (_ : Unit) => z = F_sx_needFor mu vs vp ∧ (True)) (fun _ t => t.heap = H) (fun _ => False)) 0 0 (fun _ => False) := by
  refine Met.ofW (cc := cX5_needFor) (maxL := 3) (ret := (some .int)) (by decide) rfl ?_
  intro p e s m args below meth c s₁ B hml hv
  obtain ⟨rfl, hh, hK, hz⟩ := hv
  have hx := B.exec
  have hb := B.bytes
  have hr := B.returns
  have hts := atoms_spec (ws := (wU yX5_needFor cX5_needFor 3 (some .int))) B.pre
  have hown : s.vm.findClass RX5 = some m.cls := findClass_of_methodNamed B.named
  have hlocks := B.notSynchronized
  subst hh
  have hS : va_S (fun _ => False) s.heap s.heap [] := va_S.rf
  have hl := lv_entry ([.ref (ad 32), .int vs, .int vp]) (n := 3) (Nat.le_of_ble_eq_true rfl)
  rw [lg_entry_eq]
  generalize (lg_sl ([.ref (ad 32), .int vs, .int vp]) ++ List.replicate (3 - (lg_sl ([.ref (ad 32), .int vs, .int vp])).length) Slot.unset).toArray = ls at hl ⊢
  have hl : lv_has ls 3 [(0, .ref (ad 32)), (1, .int vs), (2, .int vp)] := hl
  obtain ⟨fz, hfz⟩ : ∃ z, F_sx_needFor mu vs vp = z := ⟨_, rfl⟩
  have hF := hfz
  unfold F_sx_needFor at hF
  refine lv_iload_n hx hb dX5_needFor_0 rfl (lv_at hl 2 rfl) ?_
  refine lv_if_ne (tgt := 8) hx hb dX5_needFor_1 (by decide) (fun c_1 => ?_) (fun c_1 => ?_)
  · have hF := (if_neg c_1).symm.trans hF
    have c_1 : ¬ vp.toInt = 0 := il_ne c_1
    refine lv_iload_n hx hb dX5_needFor_8 rfl (lv_at hl 2 rfl) ?_
    refine lv_aload_n hx hb dX5_needFor_9 rfl (lv_at hl 0 rfl) ?_
    refine va_get (D := (dC, dI)) (ci := 5) (v := .int (mu 32 9)) (C := RX5) (T := TX5) (N := 15) hx hb hts inG5 hown hK hP 32 (gX_32 cs ad mu) rfl 9 (by decide) (hts _ (List.mem_cons_of_mem _ mw_2_57)) (fun _ h9 => h9) rfl dX5_needFor_10 ?_
    refine lv_topi (fun y2 ey2 => ?_)
    have hF := mi_let hF ey2
    have by2 : y2.toInt = (mu 32 9).toInt := congrArg Int32.toInt ey2
    refine lv_aload_n hx hb dX5_needFor_13 rfl (lv_at hl 0 rfl) ?_
    refine va_get (D := (dC, dI)) (ci := 5) (v := .int (mu 32 10)) (C := RX5) (T := TX5) (N := 15) hx hb hts inG5 hown hK hP 32 (gX_32 cs ad mu) rfl 10 (by decide) (hts _ (List.mem_cons_of_mem _ mw_2_58)) (fun _ h9 => h9) rfl dX5_needFor_14 ?_
    refine lv_topi (fun y3 ey3 => ?_)
    have hF := mi_let hF ey3
    have by3 : y3.toInt = (mu 32 10).toInt := congrArg Int32.toInt ey3
    refine lv_iload_n hx hb dX5_needFor_17 rfl (lv_at hl 1 rfl) ?_
    refine lv_iadd hx hb dX5_needFor_18 ?_
    refine lv_topi (fun t4 et4 => ?_)
    have hF := mi_let hF et4
    refine lv_iconst (v := 1) hx hb dX5_needFor_19 (by decide) ?_
    refine lv_isub hx hb dX5_needFor_20 ?_
    refine lv_topi (fun t5 et5 => ?_)
    have hF := mi_let hF et5
    refine lv_imul hx hb dX5_needFor_21 ?_
    refine lv_topi (fun t6 et6 => ?_)
    have hF := mi_let hF et6
    refine lv_iadd hx hb dX5_needFor_22 ?_
    refine lv_topi (fun t7 et7 => ?_)
    have hF := mi_let hF et7
    exact W.iret (v := t7) hx hb hr (fun t ht hW => ⟨⟨t7, (), rfl, ⟨hF.trans hfz.symm, trivial⟩, ht⟩, hS.F ht⟩) hS.2.2 dX5_needFor_23
  · have hF := (if_pos c_1).symm.trans hF
    have c_1 : vp.toInt = 0 := il_eq c_1
    refine lv_iconst (v := 0) hx hb dX5_needFor_4 (by decide) ?_
    refine lv_goto (tgt := 23) hx hb dX5_needFor_5 (by decide) ?_
    exact W.iret (v := 0) hx hb hr (fun t ht hW => ⟨⟨0, (), rfl, ⟨hF.trans hfz.symm, trivial⟩, ht⟩, hS.F ht⟩) hS.2.2 dX5_needFor_23
set_option maxHeartbeats 4000000 in
set_option maxRecDepth 100000 in
/-- sx_R_arrive -/
theorem sx_R_arrive (l : Launch) (dC : Nat → ClassId) (dI : Nat → Nat → Nat) (cs : Nat → ClassId) (ad : Nat → Nat) (mu : Nat → Nat → Int32) (ok : okR loX hiX mu) (H : Heap) (hP : va_P (dC, dI) vwCl (wR 157 ad (EX cs ad) mu) H) (hD0 : va_D (fun _ => True) (wR 157 ad (EX cs ad) mu)) (vs : Int32) (vu : Int32) (vp : Int32) (hin0 : 0 ≤ vs.toInt ∧ vs.toInt ≤ 6) : Met l yX5_arrive (wU yX5_arrive cX5_arrive 5 none) ({ frames := 2, cells := 0, slots := 0, locals := 83 }) (va_Pc [.ref (ad 32), .int vs, .int vu, .int vp] (sz_P (dC, dI) vwCl (tyW cs) H)) (va_Qv (fun (xi : Nat → Nat → Int32) => xi = F_sx_R_arrive mu vs vu vp ∧ okR loX hiX xi ∧ (True) ∧ (∀ k f : Nat, Nat.testBit 510 (gpX k f) = true → xi k f = mu k f)) (fun xi t => va_P (dC, dI) vwCl (wR 157 ad (EX cs ad) xi) t.heap) (va_A (wR 157 ad (EX cs ad) mu) H.size)) 0 0 (va_A (wR 157 ad (EX cs ad) mu) H.size) := by
  refine Met.ofW (cc := cX5_arrive) (maxL := 5) (ret := none) (by decide) rfl ?_
  intro p e s m args below meth c s₁ B hml hv
  obtain ⟨rfl, hh, hK, hz⟩ := hv
  have hx := B.exec
  have hb := B.bytes
  have hr := B.returns
  have hts := atoms_spec (ws := (wU yX5_arrive cX5_arrive 5 none)) B.pre
  have hown : s.vm.findClass RX5 = some m.cls := findClass_of_methodNamed B.named
  have hlocks := B.notSynchronized
  subst hh
  have hD := hD0.self (sz := s.heap.size)
  have hA : ∀ q : Nat, s.heap.size ≤ q → (va_A (wR 157 ad (EX cs ad) mu) s.heap.size) q := fun q h => Or.inr h
  have hS : va_S (va_A (wR 157 ad (EX cs ad) mu) s.heap.size) s.heap s.heap [] := va_S.rf
  have hl := lv_entry ([.ref (ad 32), .int vs, .int vu, .int vp]) (n := 5) (Nat.le_of_ble_eq_true rfl)
  rw [lg_entry_eq]
  generalize (lg_sl ([.ref (ad 32), .int vs, .int vu, .int vp]) ++ List.replicate (5 - (lg_sl ([.ref (ad 32), .int vs, .int vu, .int vp])).length) Slot.unset).toArray = ls at hl ⊢
  have hl : lv_has ls 5 [(0, .ref (ad 32)), (1, .int vs), (2, .int vu), (3, .int vp)] := hl
  obtain ⟨fz, hfz⟩ : ∃ z, F_sx_R_arrive mu vs vu vp = z := ⟨_, rfl⟩
  have hF := hfz
  unfold F_sx_R_arrive at hF
  refine lv_aload_n hx hb dX5_arrive_0 rfl (lv_at hl 0 rfl) ?_
  refine lv_dup hx hb dX5_arrive_1 rfl ?_
  refine va_get (D := (dC, dI)) (ci := 5) (v := .int (mu 32 11)) (C := RX5) (T := TX5) (N := 15) hx hb hts inG5 hown hK hP 32 (gX_32 cs ad mu) rfl 11 (by decide) (hts _ (List.mem_cons_of_mem _ mw_2_59)) (fun _ h9 => h9) rfl dX5_arrive_2 ?_
  refine lv_topi (fun y1 ey1 => ?_)
  have hF := mi_let hF ey1
  have by1 : y1.toInt = (mu 32 11).toInt := congrArg Int32.toInt ey1
  refine lv_iconst (v := 1) hx hb dX5_arrive_5 (by decide) ?_
  refine lv_iadd hx hb dX5_arrive_6 ?_
  refine lv_topi (fun t2 et2 => ?_)
  have hF := mi_let hF et2
  refine va_put (D := (dC, dI)) (ci := 5) (v := .int t2) (ty := .int) (C := RX5) (T := TX5) (N := 15) hx hb hts inG5 tyX5 tyX5_ok nmX5 hown hK hP (wR_D mu hD) hS 32 (gX_32 cs ad mu) rfl 11 (by decide) (hts _ (List.mem_cons_of_mem _ mw_2_59)) (fun _ h9 => h9) rfl (by decide +kernel) rfl rfl (Nat.le_of_ble_eq_true rfl) dX5_arrive_7 (fun H locs hP _ hS => ?_)
  simp only [List.set_cons_succ, List.set_cons_zero] at hP
  refine wr_gen (upd (mu 32) 11 t2) hP ((hX_32_11 cs ad _ _)) (fun nu3 hn3 hP => ?_)
  have hF := mi_let hF hn3.symm
  have ok := tX_32_11 ok hn3
  have kp4 : (∀ k f : Nat, Nat.testBit 510 (gpX k f) = true → nu3 k f = mu k f) := kp_c 0 hn3 (fun _ => rfl) (by decide) (fun _ _ _ => rfl)
  have ez5 : t2 = nu3 32 11 := up_v hn3
  refine lv_aload_n hx hb dX5_arrive_10 rfl (lv_at hl 0 rfl) ?_
  refine va_get (D := (dC, dI)) (ci := 5) (v := .ref (ad 55)) (C := RX5) (T := TX5) (N := 15) hx hb hts inG5 hown hK hP 32 (gX_32 cs ad nu3) rfl 3 (by decide) (hts _ (List.mem_cons_of_mem _ mw_2_49)) (fun _ h9 => h9) rfl dX5_arrive_11 ?_
  refine va_get (D := (dC, dI)) (ci := 0) (v := .int (nu3 55 3)) (C := RX0) (T := TX0) (N := 4) hx hb hts inG0 hown hK hP 55 (gX_55 cs ad nu3) rfl 3 (by decide) (hts _ (List.mem_cons_of_mem _ mw_2_35)) (fun _ h9 => h9) rfl dX5_arrive_14 ?_
  refine lv_topi (fun y6 ey6 => ?_)
  have hF := mi_let hF ey6
  have by6 : y6.toInt = (nu3 55 3).toInt := congrArg Int32.toInt ey6
  have gy6 : 0 ≤ y6.toInt ∧ y6.toInt ≤ 1 := by rw [ey6]; exact rX_55_3 ok
  refine lv_if_eq (tgt := 53) hx hb dX5_arrive_17 (by decide) (fun c_7 => ?_) (fun c_7 => ?_)
  · have hF := (if_pos c_7).symm.trans hF
    have c_7 : y6.toInt = 0 := il_eq c_7
    refine lv_aload_n hx hb dX5_arrive_53 rfl (lv_at hl 0 rfl) ?_
    refine va_get (D := (dC, dI)) (ci := 5) (v := .ref (ad 55)) (C := RX5) (T := TX5) (N := 15) hx hb hts inG5 hown hK hP 32 (gX_32 cs ad nu3) rfl 3 (by decide) (hts _ (List.mem_cons_of_mem _ mw_2_49)) (fun _ h9 => h9) rfl dX5_arrive_54 ?_
    refine lv_aload_n hx hb dX5_arrive_57 rfl (lv_at hl 0 rfl) ?_
    refine va_get (D := (dC, dI)) (ci := 5) (v := .ref (ad 54)) (C := RX5) (T := TX5) (N := 15) hx hb hts inG5 hown hK hP 32 (gX_32 cs ad nu3) rfl 2 (by decide) (hts _ (List.mem_cons_of_mem _ mw_2_48)) (fun _ h9 => h9) rfl dX5_arrive_58 ?_
    refine lv_iload_n hx hb dX5_arrive_61 rfl (lv_at hl 1 rfl) ?_
    refine lv_iload_n hx hb dX5_arrive_62 rfl (lv_at hl 3 rfl) ?_
    have hFc := fr_all (wR_D nu3 hD) hS hA
    refine va_callv (va_runV (As := [.ref (ad 54), .int vs, .int vp]) (rest := []) ⟨hx, hb, hml, hown, hts⟩ (sx_take55 l dC dI cs ad nu3 ok H hP ((wR_D nu3 hD).weaken (fun _ _ _ _ => trivial)) vs vp (by omega)) (cwV 3 hts (wU_V mw_4_43 mw_4_40 mw_4_41 mw_4_42 mw_1_9) rfl rfl rfl (by decide +kernel) ⟨Nat.le_of_ble_eq_true rfl, Nat.le_of_ble_eq_true rfl⟩) ⟨sz_c, va_recv hK hP (ci := 0) (q0 := 55) rfl (gX_55 cs ad nu3), sz_m hK hz⟩ rfl rfl hl.1 rfl (lv_room (Nat.le_of_ble_eq_true rfl)) dX5_arrive_63 ⟨Nat.zero_le _, Nat.zero_le _⟩) hS (fun q _ h => hFc q h) hFc (fun xi8 t H8 locs ht hvm hw8 hB hz1 hk1 hS => ?_)
    have hP : va_P (dC, dI) vwCl (wR 157 ad (EX cs ad) xi8) H8 := by rw [← ht]; exact hB
    obtain ⟨hfe8, ok, hw8, hkp8_0⟩ := hw8
    have hF := mi_let hF hfe8
    have kp9 : (∀ k f : Nat, Nat.testBit 510 (gpX k f) = true → xi8 k f = mu k f) := kp_t hkp8_0 (by decide) kp4
    refine lv_aload_n hx hb dX5_arrive_66 rfl (lv_at hl 0 rfl) ?_
    refine lv_iload_n hx hb dX5_arrive_67 rfl (lv_at hl 1 rfl) ?_
    refine lv_iload_n hx hb dX5_arrive_68 rfl (lv_at hl 3 rfl) ?_
    refine cr_i (va_runV (As := [.int vs, .int vp]) (rest := []) ⟨hx, hb, hml, hown, hts⟩ (sx_needFor l dC dI cs ad xi8 ok H8 hP vs vp) (cwV 2 hts (wU_V mw_4_48 mw_4_45 mw_4_47 mw_0_16 mw_1_8) rfl rfl rfl (by decide +kernel) ⟨Nat.le_of_ble_eq_true rfl, Nat.le_of_ble_eq_true rfl⟩) ⟨sz_c, va_recv hK hP (ci := 5) (q0 := 32) rfl (gX_32 cs ad xi8), sz_m hK hz⟩ rfl rfl hl.1 rfl (lv_room (Nat.le_of_ble_eq_true rfl)) dX5_arrive_69 ⟨Nat.zero_le _, Nat.zero_le _⟩) hS (fun r10 hw10 locs hS => ?_)
    obtain ⟨hfe10, hw10⟩ := hw10
    have hF := mi_let hF hfe10
    refine lv_istore (lv' := [(4, .int r10), (0, .ref (ad 32)), (1, .int vs), (2, .int vu), (3, .int vp)]) hx hb dX5_arrive_72 hl (by decide) rfl (fun ls hl => ?_)
    refine lv_aload_n hx hb dX5_arrive_74 rfl (lv_at hl 1 rfl) ?_
    refine lv_aload_n hx hb dX5_arrive_75 rfl (lv_at hl 1 rfl) ?_
    refine va_get (D := (dC, dI)) (ci := 5) (v := .int (xi8 32 14)) (C := RX5) (T := TX5) (N := 15) hx hb hts inG5 hown hK hP 32 (gX_32 cs ad xi8) rfl 14 (by decide) (hts _ (List.mem_cons_of_mem _ mw_2_65)) (fun _ h9 => h9) rfl dX5_arrive_76 ?_
    refine lv_topi (fun y11 ey11 => ?_)
    have hF := mi_let hF ey11
    have by11 : y11.toInt = (xi8 32 14).toInt := congrArg Int32.toInt ey11
    refine lv_iload hx hb dX5_arrive_79 (lv_at hl 0 rfl) ?_
    refine va_mmin hx hb (hml.trans hl.1.symm) hown (hts _ (List.mem_cons_of_mem _ mw_4_49)) (hts _ (List.mem_cons_of_mem _ mw_4_50)) (hts _ (List.mem_cons_of_mem _ mw_1_17)) (hts _ (List.mem_cons_of_mem _ mw_4_51)) (Nat.le_of_ble_eq_true rfl) (Nat.le_of_ble_eq_true rfl) (Nat.zero_le _) (Nat.zero_le _) dX5_arrive_81 ?_
    refine lv_topi (fun t12 et12 => ?_)
    have hF := mi_let hF et12
    refine va_put (D := (dC, dI)) (ci := 5) (v := .int t12) (ty := .int) (C := RX5) (T := TX5) (N := 15) hx hb hts inG5 tyX5 tyX5_ok nmX5 hown hK hP (wR_D xi8 hD) hS 32 (gX_32 cs ad xi8) rfl 14 (by decide) (hts _ (List.mem_cons_of_mem _ mw_2_65)) (fun _ h9 => h9) rfl (by decide +kernel) rfl rfl (Nat.le_of_ble_eq_true rfl) dX5_arrive_84 (fun H locs hP _ hS => ?_)
    simp only [List.set_cons_succ, List.set_cons_zero] at hP
    refine wr_gen (upd (xi8 32) 14 t12) hP ((hX_32_14 cs ad _ _)) (fun nu13 hn13 hP => ?_)
    have hF := mi_let hF hn13.symm
    have ok := tX_32_14 ok hn13
    have kp14 : (∀ k f : Nat, Nat.testBit 510 (gpX k f) = true → nu13 k f = mu k f) := kp_c 0 hn13 (fun _ => rfl) (by decide) kp9
    have ez15 : t12 = nu13 32 14 := up_v hn13
    refine lv_iload hx hb dX5_arrive_87 (lv_at hl 0 rfl) ?_
    refine lv_aload_n hx hb dX5_arrive_89 rfl (lv_at hl 1 rfl) ?_
    refine va_get (D := (dC, dI)) (ci := 5) (v := .int (nu13 32 8)) (C := RX5) (T := TX5) (N := 15) hx hb hts inG5 hown hK hP 32 (gX_32 cs ad nu13) rfl 8 (by decide) (hts _ (List.mem_cons_of_mem _ mw_2_56)) (fun _ h9 => h9) rfl dX5_arrive_90 ?_
    refine lv_topi (fun y16 ey16 => ?_)
    have hF := mi_let hF ey16
    have by16 : y16.toInt = (nu13 32 8).toInt := congrArg Int32.toInt ey16
    refine lv_icmp_le (tgt := 97) hx hb dX5_arrive_93 (by decide) (fun c_17 => ?_) (fun c_17 => ?_)
    · have hF := (if_pos c_17).symm.trans hF
      have c_17 : r10.toInt ≤ y16.toInt := il_le c_17
      refine lv_aload_n hx hb dX5_arrive_97 rfl (lv_at hl 1 rfl) ?_
      refine lv_dup hx hb dX5_arrive_98 rfl ?_
      refine va_get (D := (dC, dI)) (ci := 5) (v := .int (nu13 32 12)) (C := RX5) (T := TX5) (N := 15) hx hb hts inG5 hown hK hP 32 (gX_32 cs ad nu13) rfl 12 (by decide) (hts _ (List.mem_cons_of_mem _ mw_2_61)) (fun _ h9 => h9) rfl dX5_arrive_99 ?_
      refine lv_topi (fun y18 ey18 => ?_)
      have hF := mi_let hF ey18
      have by18 : y18.toInt = (nu13 32 12).toInt := congrArg Int32.toInt ey18
      refine lv_iconst (v := 1) hx hb dX5_arrive_102 (by decide) ?_
      refine lv_iadd hx hb dX5_arrive_103 ?_
      refine lv_topi (fun t19 et19 => ?_)
      have hF := mi_let hF et19
      refine va_put (D := (dC, dI)) (ci := 5) (v := .int t19) (ty := .int) (C := RX5) (T := TX5) (N := 15) hx hb hts inG5 tyX5 tyX5_ok nmX5 hown hK hP (wR_D nu13 hD) hS 32 (gX_32 cs ad nu13) rfl 12 (by decide) (hts _ (List.mem_cons_of_mem _ mw_2_61)) (fun _ h9 => h9) rfl (by decide +kernel) rfl rfl (Nat.le_of_ble_eq_true rfl) dX5_arrive_104 (fun H locs hP _ hS => ?_)
      simp only [List.set_cons_succ, List.set_cons_zero] at hP
      refine wr_gen (upd (nu13 32) 12 t19) hP ((hX_32_12 cs ad _ _)) (fun nu20 hn20 hP => ?_)
      have hF := mi_let hF hn20.symm
      have ok := tX_32_12 ok hn20
      have ez21 : t12 = nu20 32 14 := ez15.trans (up_f hn20 (by decide)).symm
      have ez22 : y16 = nu20 32 8 := ey16.trans (up_f hn20 (by decide)).symm
      have kp23 : (∀ k f : Nat, Nat.testBit 510 (gpX k f) = true → nu20 k f = mu k f) := kp_c 0 hn20 (fun _ => rfl) (by decide) kp14
      have ez24 : t19 = nu20 32 12 := up_v hn20
      refine lv_aload_n hx hb dX5_arrive_107 rfl (lv_at hl 1 rfl) ?_
      refine lv_dup hx hb dX5_arrive_108 rfl ?_
      refine va_get (D := (dC, dI)) (ci := 5) (v := .int (nu20 32 13)) (C := RX5) (T := TX5) (N := 15) hx hb hts inG5 hown hK hP 32 (gX_32 cs ad nu20) rfl 13 (by decide) (hts _ (List.mem_cons_of_mem _ mw_2_63)) (fun _ h9 => h9) rfl dX5_arrive_109 ?_
      refine lv_topi (fun y25 ey25 => ?_)
      have hF := mi_let hF ey25
      have by25 : y25.toInt = (nu20 32 13).toInt := congrArg Int32.toInt ey25
      refine lv_iload_n hx hb dX5_arrive_112 rfl (lv_at hl 3 rfl) ?_
      refine lv_iconst (v := 1) hx hb dX5_arrive_113 (by decide) ?_
      refine lv_aload_n hx hb dX5_arrive_114 rfl (lv_at hl 1 rfl) ?_
      refine va_get (D := (dC, dI)) (ci := 5) (v := .int (nu20 32 5)) (C := RX5) (T := TX5) (N := 15) hx hb hts inG5 hown hK hP 32 (gX_32 cs ad nu20) rfl 5 (by decide) (hts _ (List.mem_cons_of_mem _ mw_2_53)) (fun _ h9 => h9) rfl dX5_arrive_115 ?_
      refine lv_topi (fun y26 ey26 => ?_)
      have hF := mi_let hF ey26
      have by26 : y26.toInt = (nu20 32 5).toInt := congrArg Int32.toInt ey26
      have gy26 : 0 ≤ y26.toInt ∧ y26.toInt ≤ 6 := by rw [ey26]; exact rX_32_5 ok
      refine lv_ishl hx hb dX5_arrive_118 ?_
      refine lv_topi (fun t27 et27 => ?_)
      have hF := mi_let hF et27
      refine lv_iconst (v := (-1)) hx hb dX5_arrive_119 (by decide) ?_
      refine lv_ixor hx hb dX5_arrive_120 ?_
      refine lv_topi (fun t28 et28 => ?_)
      have hF := mi_let hF et28
      refine lv_iand hx hb dX5_arrive_121 ?_
      refine lv_topi (fun t29 et29 => ?_)
      have hF := mi_let hF et29
      refine lv_iand hx hb dX5_arrive_122 ?_
      refine lv_topi (fun t30 et30 => ?_)
      have hF := mi_let hF et30
      refine va_put (D := (dC, dI)) (ci := 5) (v := .int t30) (ty := .int) (C := RX5) (T := TX5) (N := 15) hx hb hts inG5 tyX5 tyX5_ok nmX5 hown hK hP (wR_D nu20 hD) hS 32 (gX_32 cs ad nu20) rfl 13 (by decide) (hts _ (List.mem_cons_of_mem _ mw_2_63)) (fun _ h9 => h9) rfl (by decide +kernel) rfl rfl (Nat.le_of_ble_eq_true rfl) dX5_arrive_123 (fun H locs hP _ hS => ?_)
      simp only [List.set_cons_succ, List.set_cons_zero] at hP
      refine wr_gen (upd (nu20 32) 13 t30) hP ((hX_32_13 cs ad _ _)) (fun nu31 hn31 hP => ?_)
      have hF := mi_let hF hn31.symm
      have ok := tX_32_13 ok hn31
      have ez32 : t12 = nu31 32 14 := ez21.trans (up_f hn31 (by decide)).symm
      have ez33 : y16 = nu31 32 8 := ez22.trans (up_f hn31 (by decide)).symm
      have ez34 : t19 = nu31 32 12 := ez24.trans (up_f hn31 (by decide)).symm
      have ez35 : y26 = nu31 32 5 := ey26.trans (up_f hn31 (by decide)).symm
      have kp36 : (∀ k f : Nat, Nat.testBit 510 (gpX k f) = true → nu31 k f = mu k f) := kp_c 0 hn31 (fun _ => rfl) (by decide) kp23
      have ez37 : t30 = nu31 32 13 := up_v hn31
      refine lv_aload_n hx hb dX5_arrive_126 rfl (lv_at hl 1 rfl) ?_
      refine va_get (D := (dC, dI)) (ci := 5) (v := .ref (ad 56)) (C := RX5) (T := TX5) (N := 15) hx hb hts inG5 hown hK hP 32 (gX_32 cs ad nu31) rfl 4 (by decide) (hts _ (List.mem_cons_of_mem _ mw_2_51)) (fun _ h9 => h9) rfl dX5_arrive_127 ?_
      refine va_get (D := (dC, dI)) (ci := 0) (v := .int (nu31 56 3)) (C := RX0) (T := TX0) (N := 4) hx hb hts inG0 hown hK hP 56 (gX_56 cs ad nu31) rfl 3 (by decide) (hts _ (List.mem_cons_of_mem _ mw_2_35)) (fun _ h9 => h9) rfl dX5_arrive_130 ?_
      refine lv_topi (fun y38 ey38 => ?_)
      have hF := mi_let hF ey38
      have by38 : y38.toInt = (nu31 56 3).toInt := congrArg Int32.toInt ey38
      have gy38 : 0 ≤ y38.toInt ∧ y38.toInt ≤ 1 := by rw [ey38]; exact rX_56_3 ok
      refine lv_if_eq (tgt := 169) hx hb dX5_arrive_133 (by decide) (fun c_39 => ?_) (fun c_39 => ?_)
      · have hF := (if_pos c_39).symm.trans hF
        have c_39 : y38.toInt = 0 := il_eq c_39
        refine lv_aload_n hx hb dX5_arrive_169 rfl (lv_at hl 1 rfl) ?_
        refine va_get (D := (dC, dI)) (ci := 5) (v := .ref (ad 56)) (C := RX5) (T := TX5) (N := 15) hx hb hts inG5 hown hK hP 32 (gX_32 cs ad nu31) rfl 4 (by decide) (hts _ (List.mem_cons_of_mem _ mw_2_51)) (fun _ h9 => h9) rfl dX5_arrive_170 ?_
        refine lv_aload_n hx hb dX5_arrive_173 rfl (lv_at hl 1 rfl) ?_
        refine va_get (D := (dC, dI)) (ci := 5) (v := .ref (ad 54)) (C := RX5) (T := TX5) (N := 15) hx hb hts inG5 hown hK hP 32 (gX_32 cs ad nu31) rfl 2 (by decide) (hts _ (List.mem_cons_of_mem _ mw_2_48)) (fun _ h9 => h9) rfl dX5_arrive_174 ?_
        refine lv_iload_n hx hb dX5_arrive_177 rfl (lv_at hl 2 rfl) ?_
        refine lv_iload_n hx hb dX5_arrive_178 rfl (lv_at hl 4 rfl) ?_
        have hFc := fr_all (wR_D nu31 hD) hS hA
        refine va_callv (va_runV (As := [.ref (ad 54), .int vs, .int vp]) (rest := []) ⟨hx, hb, hml, hown, hts⟩ (sx_take56 l dC dI cs ad nu31 ok H hP ((wR_D nu31 hD).weaken (fun _ _ _ _ => trivial)) vs vp (by omega)) (cwV 3 hts (wU_V mw_4_43 mw_4_40 mw_4_41 mw_4_42 mw_1_9) rfl rfl rfl (by decide +kernel) ⟨Nat.le_of_ble_eq_true rfl, Nat.le_of_ble_eq_true rfl⟩) ⟨sz_c, va_recv hK hP (ci := 0) (q0 := 56) rfl (gX_56 cs ad nu31), sz_m hK hz⟩ rfl rfl hl.1 rfl (lv_room (Nat.le_of_ble_eq_true rfl)) dX5_arrive_179 ⟨Nat.zero_le _, Nat.zero_le _⟩) hS (fun q _ h => hFc q h) hFc (fun xi40 t H40 locs ht hvm hw40 hB hz1 hk1 hS => ?_)
        have hP : va_P (dC, dI) vwCl (wR 157 ad (EX cs ad) xi40) H40 := by rw [← ht]; exact hB
        obtain ⟨hfe40, ok, hw40, hkp40_0⟩ := hw40
        have hF := mi_let hF hfe40
        have kp41 : (∀ k f : Nat, Nat.testBit 510 (gpX k f) = true → xi40 k f = mu k f) := kp_t hkp40_0 (by decide) kp36
        exact W.vret hx hb hr (fun t ht hW => ⟨⟨xi40, rfl, ⟨hF.trans hfz.symm, ok, trivial, kp41⟩, by first | (subst ht; exact hP) | (rw [ht]; exact hP) | (show va_P (dC, dI) vwCl (wR 157 ad (EX cs ad) xi40) t.heap; rw [ht]; exact hP)⟩, hS.F ht⟩) hS.2.2 dX5_arrive_182
      · have hF := (if_neg c_39).symm.trans hF
        have c_39 : ¬ y38.toInt = 0 := il_ne c_39
        refine lv_iload_n hx hb dX5_arrive_136 rfl (lv_at hl 2 rfl) ?_
        refine lv_aload_n hx hb dX5_arrive_137 rfl (lv_at hl 1 rfl) ?_
        refine va_get (D := (dC, dI)) (ci := 5) (v := .ref (ad 56)) (C := RX5) (T := TX5) (N := 15) hx hb hts inG5 hown hK hP 32 (gX_32 cs ad nu31) rfl 4 (by decide) (hts _ (List.mem_cons_of_mem _ mw_2_51)) (fun _ h9 => h9) rfl dX5_arrive_138 ?_
        refine va_get (D := (dC, dI)) (ci := 0) (v := .int (nu31 56 1)) (C := RX0) (T := TX0) (N := 4) hx hb hts inG0 hown hK hP 56 (gX_56 cs ad nu31) rfl 1 (by decide) (hts _ (List.mem_cons_of_mem _ mw_2_29)) (fun _ h9 => h9) rfl dX5_arrive_141 ?_
        refine lv_topi (fun y42 ey42 => ?_)
        have hF := mi_let hF ey42
        have by42 : y42.toInt = (nu31 56 1).toInt := congrArg Int32.toInt ey42
        have gy42 : 0 ≤ y42.toInt ∧ y42.toInt ≤ 6 := by rw [ey42]; exact rX_56_1 ok
        refine lv_icmp_lt (tgt := 169) hx hb dX5_arrive_144 (by decide) (fun c_43 => ?_) (fun c_43 => ?_)
        · have hF := (if_pos c_43).symm.trans hF
          have c_43 : vs.toInt < y42.toInt := il_lt c_43
          refine lv_aload_n hx hb dX5_arrive_169 rfl (lv_at hl 1 rfl) ?_
          refine va_get (D := (dC, dI)) (ci := 5) (v := .ref (ad 56)) (C := RX5) (T := TX5) (N := 15) hx hb hts inG5 hown hK hP 32 (gX_32 cs ad nu31) rfl 4 (by decide) (hts _ (List.mem_cons_of_mem _ mw_2_51)) (fun _ h9 => h9) rfl dX5_arrive_170 ?_
          refine lv_aload_n hx hb dX5_arrive_173 rfl (lv_at hl 1 rfl) ?_
          refine va_get (D := (dC, dI)) (ci := 5) (v := .ref (ad 54)) (C := RX5) (T := TX5) (N := 15) hx hb hts inG5 hown hK hP 32 (gX_32 cs ad nu31) rfl 2 (by decide) (hts _ (List.mem_cons_of_mem _ mw_2_48)) (fun _ h9 => h9) rfl dX5_arrive_174 ?_
          refine lv_iload_n hx hb dX5_arrive_177 rfl (lv_at hl 2 rfl) ?_
          refine lv_iload_n hx hb dX5_arrive_178 rfl (lv_at hl 4 rfl) ?_
          have hFc := fr_all (wR_D nu31 hD) hS hA
          refine va_callv (va_runV (As := [.ref (ad 54), .int vs, .int vp]) (rest := []) ⟨hx, hb, hml, hown, hts⟩ (sx_take56 l dC dI cs ad nu31 ok H hP ((wR_D nu31 hD).weaken (fun _ _ _ _ => trivial)) vs vp (by omega)) (cwV 3 hts (wU_V mw_4_43 mw_4_40 mw_4_41 mw_4_42 mw_1_9) rfl rfl rfl (by decide +kernel) ⟨Nat.le_of_ble_eq_true rfl, Nat.le_of_ble_eq_true rfl⟩) ⟨sz_c, va_recv hK hP (ci := 0) (q0 := 56) rfl (gX_56 cs ad nu31), sz_m hK hz⟩ rfl rfl hl.1 rfl (lv_room (Nat.le_of_ble_eq_true rfl)) dX5_arrive_179 ⟨Nat.zero_le _, Nat.zero_le _⟩) hS (fun q _ h => hFc q h) hFc (fun xi44 t H44 locs ht hvm hw44 hB hz1 hk1 hS => ?_)
          have hP : va_P (dC, dI) vwCl (wR 157 ad (EX cs ad) xi44) H44 := by rw [← ht]; exact hB
          obtain ⟨hfe44, ok, hw44, hkp44_0⟩ := hw44
          have hF := mi_let hF hfe44
          have kp45 : (∀ k f : Nat, Nat.testBit 510 (gpX k f) = true → xi44 k f = mu k f) := kp_t hkp44_0 (by decide) kp36
          exact W.vret hx hb hr (fun t ht hW => ⟨⟨xi44, rfl, ⟨hF.trans hfz.symm, ok, trivial, kp45⟩, by first | (subst ht; exact hP) | (rw [ht]; exact hP) | (show va_P (dC, dI) vwCl (wR 157 ad (EX cs ad) xi44) t.heap; rw [ht]; exact hP)⟩, hS.F ht⟩) hS.2.2 dX5_arrive_182
        · have hF := (if_neg c_43).symm.trans hF
          have c_43 : y42.toInt ≤ vs.toInt := il_nlt c_43
          refine lv_iload_n hx hb dX5_arrive_147 rfl (lv_at hl 2 rfl) ?_
          refine lv_aload_n hx hb dX5_arrive_148 rfl (lv_at hl 1 rfl) ?_
          refine va_get (D := (dC, dI)) (ci := 5) (v := .ref (ad 56)) (C := RX5) (T := TX5) (N := 15) hx hb hts inG5 hown hK hP 32 (gX_32 cs ad nu31) rfl 4 (by decide) (hts _ (List.mem_cons_of_mem _ mw_2_51)) (fun _ h9 => h9) rfl dX5_arrive_149 ?_
          refine va_get (D := (dC, dI)) (ci := 0) (v := .int (nu31 56 1)) (C := RX0) (T := TX0) (N := 4) hx hb hts inG0 hown hK hP 56 (gX_56 cs ad nu31) rfl 1 (by decide) (hts _ (List.mem_cons_of_mem _ mw_2_29)) (fun _ h9 => h9) rfl dX5_arrive_152 ?_
          refine lq_i y42 ey42.symm ?_
          refine lv_icmp_ne (tgt := 182) hx hb dX5_arrive_155 (by decide) (fun c_46 => ?_) (fun c_46 => ?_)
          · have hF := (if_neg c_46).symm.trans hF
            have c_46 : ¬ vs.toInt = y42.toInt := il_ne c_46
            exact W.vret hx hb hr (fun t ht hW => ⟨⟨nu31, rfl, ⟨hF.trans hfz.symm, ok, trivial, kp36⟩, by first | (subst ht; exact hP) | (rw [ht]; exact hP) | (show va_P (dC, dI) vwCl (wR 157 ad (EX cs ad) nu31) t.heap; rw [ht]; exact hP)⟩, hS.F ht⟩) hS.2.2 dX5_arrive_182
          · have hF := (if_pos c_46).symm.trans hF
            have c_46 : vs.toInt = y42.toInt := il_eq c_46
            refine lv_iload_n hx hb dX5_arrive_158 rfl (lv_at hl 4 rfl) ?_
            refine lv_aload_n hx hb dX5_arrive_159 rfl (lv_at hl 1 rfl) ?_
            refine va_get (D := (dC, dI)) (ci := 5) (v := .ref (ad 56)) (C := RX5) (T := TX5) (N := 15) hx hb hts inG5 hown hK hP 32 (gX_32 cs ad nu31) rfl 4 (by decide) (hts _ (List.mem_cons_of_mem _ mw_2_51)) (fun _ h9 => h9) rfl dX5_arrive_160 ?_
            refine va_get (D := (dC, dI)) (ci := 0) (v := .int (nu31 56 2)) (C := RX0) (T := TX0) (N := 4) hx hb hts inG0 hown hK hP 56 (gX_56 cs ad nu31) rfl 2 (by decide) (hts _ (List.mem_cons_of_mem _ mw_2_32)) (fun _ h9 => h9) rfl dX5_arrive_163 ?_
            refine lv_topi (fun y47 ey47 => ?_)
            have hF := mi_let hF ey47
            have by47 : y47.toInt = (nu31 56 2).toInt := congrArg Int32.toInt ey47
            refine lv_icmp_ge (tgt := 182) hx hb dX5_arrive_166 (by decide) (fun c_48 => ?_) (fun c_48 => ?_)
            · have hF := (if_pos c_48).symm.trans hF
              have c_48 : y47.toInt ≤ vp.toInt := il_le c_48
              exact W.vret hx hb hr (fun t ht hW => ⟨⟨nu31, rfl, ⟨hF.trans hfz.symm, ok, trivial, kp36⟩, by first | (subst ht; exact hP) | (rw [ht]; exact hP) | (show va_P (dC, dI) vwCl (wR 157 ad (EX cs ad) nu31) t.heap; rw [ht]; exact hP)⟩, hS.F ht⟩) hS.2.2 dX5_arrive_182
            · have hF := (if_neg c_48).symm.trans hF
              have c_48 : vp.toInt < y47.toInt := il_nle c_48
              refine lv_aload_n hx hb dX5_arrive_169 rfl (lv_at hl 1 rfl) ?_
              refine va_get (D := (dC, dI)) (ci := 5) (v := .ref (ad 56)) (C := RX5) (T := TX5) (N := 15) hx hb hts inG5 hown hK hP 32 (gX_32 cs ad nu31) rfl 4 (by decide) (hts _ (List.mem_cons_of_mem _ mw_2_51)) (fun _ h9 => h9) rfl dX5_arrive_170 ?_
              refine lv_aload_n hx hb dX5_arrive_173 rfl (lv_at hl 1 rfl) ?_
              refine va_get (D := (dC, dI)) (ci := 5) (v := .ref (ad 54)) (C := RX5) (T := TX5) (N := 15) hx hb hts inG5 hown hK hP 32 (gX_32 cs ad nu31) rfl 2 (by decide) (hts _ (List.mem_cons_of_mem _ mw_2_48)) (fun _ h9 => h9) rfl dX5_arrive_174 ?_
              refine lv_iload_n hx hb dX5_arrive_177 rfl (lv_at hl 2 rfl) ?_
              refine lv_iload_n hx hb dX5_arrive_178 rfl (lv_at hl 4 rfl) ?_
              have hFc := fr_all (wR_D nu31 hD) hS hA
              refine va_callv (va_runV (As := [.ref (ad 54), .int vs, .int vp]) (rest := []) ⟨hx, hb, hml, hown, hts⟩ (sx_take56 l dC dI cs ad nu31 ok H hP ((wR_D nu31 hD).weaken (fun _ _ _ _ => trivial)) vs vp (by omega)) (cwV 3 hts (wU_V mw_4_43 mw_4_40 mw_4_41 mw_4_42 mw_1_9) rfl rfl rfl (by decide +kernel) ⟨Nat.le_of_ble_eq_true rfl, Nat.le_of_ble_eq_true rfl⟩) ⟨sz_c, va_recv hK hP (ci := 0) (q0 := 56) rfl (gX_56 cs ad nu31), sz_m hK hz⟩ rfl rfl hl.1 rfl (lv_room (Nat.le_of_ble_eq_true rfl)) dX5_arrive_179 ⟨Nat.zero_le _, Nat.zero_le _⟩) hS (fun q _ h => hFc q h) hFc (fun xi49 t H49 locs ht hvm hw49 hB hz1 hk1 hS => ?_)
              have hP : va_P (dC, dI) vwCl (wR 157 ad (EX cs ad) xi49) H49 := by rw [← ht]; exact hB
              obtain ⟨hfe49, ok, hw49, hkp49_0⟩ := hw49
              have hF := mi_let hF hfe49
              have kp50 : (∀ k f : Nat, Nat.testBit 510 (gpX k f) = true → xi49 k f = mu k f) := kp_t hkp49_0 (by decide) kp36
              exact W.vret hx hb hr (fun t ht hW => ⟨⟨xi49, rfl, ⟨hF.trans hfz.symm, ok, trivial, kp50⟩, by first | (subst ht; exact hP) | (rw [ht]; exact hP) | (show va_P (dC, dI) vwCl (wR 157 ad (EX cs ad) xi49) t.heap; rw [ht]; exact hP)⟩, hS.F ht⟩) hS.2.2 dX5_arrive_182
    · have hF := (if_neg c_17).symm.trans hF
      have c_17 : y16.toInt < r10.toInt := il_nle c_17
      exact W.vret hx hb hr (fun t ht hW => ⟨⟨nu13, rfl, ⟨hF.trans hfz.symm, ok, trivial, kp14⟩, by first | (subst ht; exact hP) | (rw [ht]; exact hP) | (show va_P (dC, dI) vwCl (wR 157 ad (EX cs ad) nu13) t.heap; rw [ht]; exact hP)⟩, hS.F ht⟩) hS.2.2 dX5_arrive_96
  · have hF := (if_neg c_7).symm.trans hF
    have c_7 : ¬ y6.toInt = 0 := il_ne c_7
    refine lv_iload_n hx hb dX5_arrive_20 rfl (lv_at hl 3 rfl) ?_
    refine lv_aload_n hx hb dX5_arrive_21 rfl (lv_at hl 0 rfl) ?_
    refine va_get (D := (dC, dI)) (ci := 5) (v := .ref (ad 55)) (C := RX5) (T := TX5) (N := 15) hx hb hts inG5 hown hK hP 32 (gX_32 cs ad nu3) rfl 3 (by decide) (hts _ (List.mem_cons_of_mem _ mw_2_49)) (fun _ h9 => h9) rfl dX5_arrive_22 ?_
    refine va_get (D := (dC, dI)) (ci := 0) (v := .int (nu3 55 2)) (C := RX0) (T := TX0) (N := 4) hx hb hts inG0 hown hK hP 55 (gX_55 cs ad nu3) rfl 2 (by decide) (hts _ (List.mem_cons_of_mem _ mw_2_32)) (fun _ h9 => h9) rfl dX5_arrive_25 ?_
    refine lv_topi (fun y51 ey51 => ?_)
    have hF := mi_let hF ey51
    have by51 : y51.toInt = (nu3 55 2).toInt := congrArg Int32.toInt ey51
    refine lv_icmp_lt (tgt := 53) hx hb dX5_arrive_28 (by decide) (fun c_52 => ?_) (fun c_52 => ?_)
    · have hF := (if_pos c_52).symm.trans hF
      have c_52 : vp.toInt < y51.toInt := il_lt c_52
      refine lv_aload_n hx hb dX5_arrive_53 rfl (lv_at hl 0 rfl) ?_
      refine va_get (D := (dC, dI)) (ci := 5) (v := .ref (ad 55)) (C := RX5) (T := TX5) (N := 15) hx hb hts inG5 hown hK hP 32 (gX_32 cs ad nu3) rfl 3 (by decide) (hts _ (List.mem_cons_of_mem _ mw_2_49)) (fun _ h9 => h9) rfl dX5_arrive_54 ?_
      refine lv_aload_n hx hb dX5_arrive_57 rfl (lv_at hl 0 rfl) ?_
      refine va_get (D := (dC, dI)) (ci := 5) (v := .ref (ad 54)) (C := RX5) (T := TX5) (N := 15) hx hb hts inG5 hown hK hP 32 (gX_32 cs ad nu3) rfl 2 (by decide) (hts _ (List.mem_cons_of_mem _ mw_2_48)) (fun _ h9 => h9) rfl dX5_arrive_58 ?_
      refine lv_iload_n hx hb dX5_arrive_61 rfl (lv_at hl 1 rfl) ?_
      refine lv_iload_n hx hb dX5_arrive_62 rfl (lv_at hl 3 rfl) ?_
      have hFc := fr_all (wR_D nu3 hD) hS hA
      refine va_callv (va_runV (As := [.ref (ad 54), .int vs, .int vp]) (rest := []) ⟨hx, hb, hml, hown, hts⟩ (sx_take55 l dC dI cs ad nu3 ok H hP ((wR_D nu3 hD).weaken (fun _ _ _ _ => trivial)) vs vp (by omega)) (cwV 3 hts (wU_V mw_4_43 mw_4_40 mw_4_41 mw_4_42 mw_1_9) rfl rfl rfl (by decide +kernel) ⟨Nat.le_of_ble_eq_true rfl, Nat.le_of_ble_eq_true rfl⟩) ⟨sz_c, va_recv hK hP (ci := 0) (q0 := 55) rfl (gX_55 cs ad nu3), sz_m hK hz⟩ rfl rfl hl.1 rfl (lv_room (Nat.le_of_ble_eq_true rfl)) dX5_arrive_63 ⟨Nat.zero_le _, Nat.zero_le _⟩) hS (fun q _ h => hFc q h) hFc (fun xi53 t H53 locs ht hvm hw53 hB hz1 hk1 hS => ?_)
      have hP : va_P (dC, dI) vwCl (wR 157 ad (EX cs ad) xi53) H53 := by rw [← ht]; exact hB
      obtain ⟨hfe53, ok, hw53, hkp53_0⟩ := hw53
      have hF := mi_let hF hfe53
      have kp54 : (∀ k f : Nat, Nat.testBit 510 (gpX k f) = true → xi53 k f = mu k f) := kp_t hkp53_0 (by decide) kp4
      refine lv_aload_n hx hb dX5_arrive_66 rfl (lv_at hl 0 rfl) ?_
      refine lv_iload_n hx hb dX5_arrive_67 rfl (lv_at hl 1 rfl) ?_
      refine lv_iload_n hx hb dX5_arrive_68 rfl (lv_at hl 3 rfl) ?_
      refine cr_i (va_runV (As := [.int vs, .int vp]) (rest := []) ⟨hx, hb, hml, hown, hts⟩ (sx_needFor l dC dI cs ad xi53 ok H53 hP vs vp) (cwV 2 hts (wU_V mw_4_48 mw_4_45 mw_4_47 mw_0_16 mw_1_8) rfl rfl rfl (by decide +kernel) ⟨Nat.le_of_ble_eq_true rfl, Nat.le_of_ble_eq_true rfl⟩) ⟨sz_c, va_recv hK hP (ci := 5) (q0 := 32) rfl (gX_32 cs ad xi53), sz_m hK hz⟩ rfl rfl hl.1 rfl (lv_room (Nat.le_of_ble_eq_true rfl)) dX5_arrive_69 ⟨Nat.zero_le _, Nat.zero_le _⟩) hS (fun r55 hw55 locs hS => ?_)
      obtain ⟨hfe55, hw55⟩ := hw55
      have hF := mi_let hF hfe55
      refine lv_istore (lv' := [(4, .int r55), (0, .ref (ad 32)), (1, .int vs), (2, .int vu), (3, .int vp)]) hx hb dX5_arrive_72 hl (by decide) rfl (fun ls hl => ?_)
      refine lv_aload_n hx hb dX5_arrive_74 rfl (lv_at hl 1 rfl) ?_
      refine lv_aload_n hx hb dX5_arrive_75 rfl (lv_at hl 1 rfl) ?_
      refine va_get (D := (dC, dI)) (ci := 5) (v := .int (xi53 32 14)) (C := RX5) (T := TX5) (N := 15) hx hb hts inG5 hown hK hP 32 (gX_32 cs ad xi53) rfl 14 (by decide) (hts _ (List.mem_cons_of_mem _ mw_2_65)) (fun _ h9 => h9) rfl dX5_arrive_76 ?_
      refine lv_topi (fun y56 ey56 => ?_)
      have hF := mi_let hF ey56
      have by56 : y56.toInt = (xi53 32 14).toInt := congrArg Int32.toInt ey56
      refine lv_iload hx hb dX5_arrive_79 (lv_at hl 0 rfl) ?_
      refine va_mmin hx hb (hml.trans hl.1.symm) hown (hts _ (List.mem_cons_of_mem _ mw_4_49)) (hts _ (List.mem_cons_of_mem _ mw_4_50)) (hts _ (List.mem_cons_of_mem _ mw_1_17)) (hts _ (List.mem_cons_of_mem _ mw_4_51)) (Nat.le_of_ble_eq_true rfl) (Nat.le_of_ble_eq_true rfl) (Nat.zero_le _) (Nat.zero_le _) dX5_arrive_81 ?_
      refine lv_topi (fun t57 et57 => ?_)
      have hF := mi_let hF et57
      refine va_put (D := (dC, dI)) (ci := 5) (v := .int t57) (ty := .int) (C := RX5) (T := TX5) (N := 15) hx hb hts inG5 tyX5 tyX5_ok nmX5 hown hK hP (wR_D xi53 hD) hS 32 (gX_32 cs ad xi53) rfl 14 (by decide) (hts _ (List.mem_cons_of_mem _ mw_2_65)) (fun _ h9 => h9) rfl (by decide +kernel) rfl rfl (Nat.le_of_ble_eq_true rfl) dX5_arrive_84 (fun H locs hP _ hS => ?_)
      simp only [List.set_cons_succ, List.set_cons_zero] at hP
      refine wr_gen (upd (xi53 32) 14 t57) hP ((hX_32_14 cs ad _ _)) (fun nu58 hn58 hP => ?_)
      have hF := mi_let hF hn58.symm
      have ok := tX_32_14 ok hn58
      have kp59 : (∀ k f : Nat, Nat.testBit 510 (gpX k f) = true → nu58 k f = mu k f) := kp_c 0 hn58 (fun _ => rfl) (by decide) kp54
      have ez60 : t57 = nu58 32 14 := up_v hn58
      refine lv_iload hx hb dX5_arrive_87 (lv_at hl 0 rfl) ?_
      refine lv_aload_n hx hb dX5_arrive_89 rfl (lv_at hl 1 rfl) ?_
      refine va_get (D := (dC, dI)) (ci := 5) (v := .int (nu58 32 8)) (C := RX5) (T := TX5) (N := 15) hx hb hts inG5 hown hK hP 32 (gX_32 cs ad nu58) rfl 8 (by decide) (hts _ (List.mem_cons_of_mem _ mw_2_56)) (fun _ h9 => h9) rfl dX5_arrive_90 ?_
      refine lv_topi (fun y61 ey61 => ?_)
      have hF := mi_let hF ey61
      have by61 : y61.toInt = (nu58 32 8).toInt := congrArg Int32.toInt ey61
      refine lv_icmp_le (tgt := 97) hx hb dX5_arrive_93 (by decide) (fun c_62 => ?_) (fun c_62 => ?_)
      · have hF := (if_pos c_62).symm.trans hF
        have c_62 : r55.toInt ≤ y61.toInt := il_le c_62
        refine lv_aload_n hx hb dX5_arrive_97 rfl (lv_at hl 1 rfl) ?_
        refine lv_dup hx hb dX5_arrive_98 rfl ?_
        refine va_get (D := (dC, dI)) (ci := 5) (v := .int (nu58 32 12)) (C := RX5) (T := TX5) (N := 15) hx hb hts inG5 hown hK hP 32 (gX_32 cs ad nu58) rfl 12 (by decide) (hts _ (List.mem_cons_of_mem _ mw_2_61)) (fun _ h9 => h9) rfl dX5_arrive_99 ?_
        refine lv_topi (fun y63 ey63 => ?_)
        have hF := mi_let hF ey63
        have by63 : y63.toInt = (nu58 32 12).toInt := congrArg Int32.toInt ey63
        refine lv_iconst (v := 1) hx hb dX5_arrive_102 (by decide) ?_
        refine lv_iadd hx hb dX5_arrive_103 ?_
        refine lv_topi (fun t64 et64 => ?_)
        have hF := mi_let hF et64
        refine va_put (D := (dC, dI)) (ci := 5) (v := .int t64) (ty := .int) (C := RX5) (T := TX5) (N := 15) hx hb hts inG5 tyX5 tyX5_ok nmX5 hown hK hP (wR_D nu58 hD) hS 32 (gX_32 cs ad nu58) rfl 12 (by decide) (hts _ (List.mem_cons_of_mem _ mw_2_61)) (fun _ h9 => h9) rfl (by decide +kernel) rfl rfl (Nat.le_of_ble_eq_true rfl) dX5_arrive_104 (fun H locs hP _ hS => ?_)
        simp only [List.set_cons_succ, List.set_cons_zero] at hP
        refine wr_gen (upd (nu58 32) 12 t64) hP ((hX_32_12 cs ad _ _)) (fun nu65 hn65 hP => ?_)
        have hF := mi_let hF hn65.symm
        have ok := tX_32_12 ok hn65
        have ez66 : t57 = nu65 32 14 := ez60.trans (up_f hn65 (by decide)).symm
        have ez67 : y61 = nu65 32 8 := ey61.trans (up_f hn65 (by decide)).symm
        have kp68 : (∀ k f : Nat, Nat.testBit 510 (gpX k f) = true → nu65 k f = mu k f) := kp_c 0 hn65 (fun _ => rfl) (by decide) kp59
        have ez69 : t64 = nu65 32 12 := up_v hn65
        refine lv_aload_n hx hb dX5_arrive_107 rfl (lv_at hl 1 rfl) ?_
        refine lv_dup hx hb dX5_arrive_108 rfl ?_
        refine va_get (D := (dC, dI)) (ci := 5) (v := .int (nu65 32 13)) (C := RX5) (T := TX5) (N := 15) hx hb hts inG5 hown hK hP 32 (gX_32 cs ad nu65) rfl 13 (by decide) (hts _ (List.mem_cons_of_mem _ mw_2_63)) (fun _ h9 => h9) rfl dX5_arrive_109 ?_
        refine lv_topi (fun y70 ey70 => ?_)
        have hF := mi_let hF ey70
        have by70 : y70.toInt = (nu65 32 13).toInt := congrArg Int32.toInt ey70
        refine lv_iload_n hx hb dX5_arrive_112 rfl (lv_at hl 3 rfl) ?_
        refine lv_iconst (v := 1) hx hb dX5_arrive_113 (by decide) ?_
        refine lv_aload_n hx hb dX5_arrive_114 rfl (lv_at hl 1 rfl) ?_
        refine va_get (D := (dC, dI)) (ci := 5) (v := .int (nu65 32 5)) (C := RX5) (T := TX5) (N := 15) hx hb hts inG5 hown hK hP 32 (gX_32 cs ad nu65) rfl 5 (by decide) (hts _ (List.mem_cons_of_mem _ mw_2_53)) (fun _ h9 => h9) rfl dX5_arrive_115 ?_
        refine lv_topi (fun y71 ey71 => ?_)
        have hF := mi_let hF ey71
        have by71 : y71.toInt = (nu65 32 5).toInt := congrArg Int32.toInt ey71
        have gy71 : 0 ≤ y71.toInt ∧ y71.toInt ≤ 6 := by rw [ey71]; exact rX_32_5 ok
        refine lv_ishl hx hb dX5_arrive_118 ?_
        refine lv_topi (fun t72 et72 => ?_)
        have hF := mi_let hF et72
        refine lv_iconst (v := (-1)) hx hb dX5_arrive_119 (by decide) ?_
        refine lv_ixor hx hb dX5_arrive_120 ?_
        refine lv_topi (fun t73 et73 => ?_)
        have hF := mi_let hF et73
        refine lv_iand hx hb dX5_arrive_121 ?_
        refine lv_topi (fun t74 et74 => ?_)
        have hF := mi_let hF et74
        refine lv_iand hx hb dX5_arrive_122 ?_
        refine lv_topi (fun t75 et75 => ?_)
        have hF := mi_let hF et75
        refine va_put (D := (dC, dI)) (ci := 5) (v := .int t75) (ty := .int) (C := RX5) (T := TX5) (N := 15) hx hb hts inG5 tyX5 tyX5_ok nmX5 hown hK hP (wR_D nu65 hD) hS 32 (gX_32 cs ad nu65) rfl 13 (by decide) (hts _ (List.mem_cons_of_mem _ mw_2_63)) (fun _ h9 => h9) rfl (by decide +kernel) rfl rfl (Nat.le_of_ble_eq_true rfl) dX5_arrive_123 (fun H locs hP _ hS => ?_)
        simp only [List.set_cons_succ, List.set_cons_zero] at hP
        refine wr_gen (upd (nu65 32) 13 t75) hP ((hX_32_13 cs ad _ _)) (fun nu76 hn76 hP => ?_)
        have hF := mi_let hF hn76.symm
        have ok := tX_32_13 ok hn76
        have ez77 : t57 = nu76 32 14 := ez66.trans (up_f hn76 (by decide)).symm
        have ez78 : y61 = nu76 32 8 := ez67.trans (up_f hn76 (by decide)).symm
        have ez79 : t64 = nu76 32 12 := ez69.trans (up_f hn76 (by decide)).symm
        have ez80 : y71 = nu76 32 5 := ey71.trans (up_f hn76 (by decide)).symm
        have kp81 : (∀ k f : Nat, Nat.testBit 510 (gpX k f) = true → nu76 k f = mu k f) := kp_c 0 hn76 (fun _ => rfl) (by decide) kp68
        have ez82 : t75 = nu76 32 13 := up_v hn76
        refine lv_aload_n hx hb dX5_arrive_126 rfl (lv_at hl 1 rfl) ?_
        refine va_get (D := (dC, dI)) (ci := 5) (v := .ref (ad 56)) (C := RX5) (T := TX5) (N := 15) hx hb hts inG5 hown hK hP 32 (gX_32 cs ad nu76) rfl 4 (by decide) (hts _ (List.mem_cons_of_mem _ mw_2_51)) (fun _ h9 => h9) rfl dX5_arrive_127 ?_
        refine va_get (D := (dC, dI)) (ci := 0) (v := .int (nu76 56 3)) (C := RX0) (T := TX0) (N := 4) hx hb hts inG0 hown hK hP 56 (gX_56 cs ad nu76) rfl 3 (by decide) (hts _ (List.mem_cons_of_mem _ mw_2_35)) (fun _ h9 => h9) rfl dX5_arrive_130 ?_
        refine lv_topi (fun y83 ey83 => ?_)
        have hF := mi_let hF ey83
        have by83 : y83.toInt = (nu76 56 3).toInt := congrArg Int32.toInt ey83
        have gy83 : 0 ≤ y83.toInt ∧ y83.toInt ≤ 1 := by rw [ey83]; exact rX_56_3 ok
        refine lv_if_eq (tgt := 169) hx hb dX5_arrive_133 (by decide) (fun c_84 => ?_) (fun c_84 => ?_)
        · have hF := (if_pos c_84).symm.trans hF
          have c_84 : y83.toInt = 0 := il_eq c_84
          refine lv_aload_n hx hb dX5_arrive_169 rfl (lv_at hl 1 rfl) ?_
          refine va_get (D := (dC, dI)) (ci := 5) (v := .ref (ad 56)) (C := RX5) (T := TX5) (N := 15) hx hb hts inG5 hown hK hP 32 (gX_32 cs ad nu76) rfl 4 (by decide) (hts _ (List.mem_cons_of_mem _ mw_2_51)) (fun _ h9 => h9) rfl dX5_arrive_170 ?_
          refine lv_aload_n hx hb dX5_arrive_173 rfl (lv_at hl 1 rfl) ?_
          refine va_get (D := (dC, dI)) (ci := 5) (v := .ref (ad 54)) (C := RX5) (T := TX5) (N := 15) hx hb hts inG5 hown hK hP 32 (gX_32 cs ad nu76) rfl 2 (by decide) (hts _ (List.mem_cons_of_mem _ mw_2_48)) (fun _ h9 => h9) rfl dX5_arrive_174 ?_
          refine lv_iload_n hx hb dX5_arrive_177 rfl (lv_at hl 2 rfl) ?_
          refine lv_iload_n hx hb dX5_arrive_178 rfl (lv_at hl 4 rfl) ?_
          have hFc := fr_all (wR_D nu76 hD) hS hA
          refine va_callv (va_runV (As := [.ref (ad 54), .int vs, .int vp]) (rest := []) ⟨hx, hb, hml, hown, hts⟩ (sx_take56 l dC dI cs ad nu76 ok H hP ((wR_D nu76 hD).weaken (fun _ _ _ _ => trivial)) vs vp (by omega)) (cwV 3 hts (wU_V mw_4_43 mw_4_40 mw_4_41 mw_4_42 mw_1_9) rfl rfl rfl (by decide +kernel) ⟨Nat.le_of_ble_eq_true rfl, Nat.le_of_ble_eq_true rfl⟩) ⟨sz_c, va_recv hK hP (ci := 0) (q0 := 56) rfl (gX_56 cs ad nu76), sz_m hK hz⟩ rfl rfl hl.1 rfl (lv_room (Nat.le_of_ble_eq_true rfl)) dX5_arrive_179 ⟨Nat.zero_le _, Nat.zero_le _⟩) hS (fun q _ h => hFc q h) hFc (fun xi85 t H85 locs ht hvm hw85 hB hz1 hk1 hS => ?_)
          have hP : va_P (dC, dI) vwCl (wR 157 ad (EX cs ad) xi85) H85 := by rw [← ht]; exact hB
          obtain ⟨hfe85, ok, hw85, hkp85_0⟩ := hw85
          have hF := mi_let hF hfe85
          have kp86 : (∀ k f : Nat, Nat.testBit 510 (gpX k f) = true → xi85 k f = mu k f) := kp_t hkp85_0 (by decide) kp81
          exact W.vret hx hb hr (fun t ht hW => ⟨⟨xi85, rfl, ⟨hF.trans hfz.symm, ok, trivial, kp86⟩, by first | (subst ht; exact hP) | (rw [ht]; exact hP) | (show va_P (dC, dI) vwCl (wR 157 ad (EX cs ad) xi85) t.heap; rw [ht]; exact hP)⟩, hS.F ht⟩) hS.2.2 dX5_arrive_182
        · have hF := (if_neg c_84).symm.trans hF
          have c_84 : ¬ y83.toInt = 0 := il_ne c_84
          refine lv_iload_n hx hb dX5_arrive_136 rfl (lv_at hl 2 rfl) ?_
          refine lv_aload_n hx hb dX5_arrive_137 rfl (lv_at hl 1 rfl) ?_
          refine va_get (D := (dC, dI)) (ci := 5) (v := .ref (ad 56)) (C := RX5) (T := TX5) (N := 15) hx hb hts inG5 hown hK hP 32 (gX_32 cs ad nu76) rfl 4 (by decide) (hts _ (List.mem_cons_of_mem _ mw_2_51)) (fun _ h9 => h9) rfl dX5_arrive_138 ?_
          refine va_get (D := (dC, dI)) (ci := 0) (v := .int (nu76 56 1)) (C := RX0) (T := TX0) (N := 4) hx hb hts inG0 hown hK hP 56 (gX_56 cs ad nu76) rfl 1 (by decide) (hts _ (List.mem_cons_of_mem _ mw_2_29)) (fun _ h9 => h9) rfl dX5_arrive_141 ?_
          refine lv_topi (fun y87 ey87 => ?_)
          have hF := mi_let hF ey87
          have by87 : y87.toInt = (nu76 56 1).toInt := congrArg Int32.toInt ey87
          have gy87 : 0 ≤ y87.toInt ∧ y87.toInt ≤ 6 := by rw [ey87]; exact rX_56_1 ok
          refine lv_icmp_lt (tgt := 169) hx hb dX5_arrive_144 (by decide) (fun c_88 => ?_) (fun c_88 => ?_)
          · have hF := (if_pos c_88).symm.trans hF
            have c_88 : vs.toInt < y87.toInt := il_lt c_88
            refine lv_aload_n hx hb dX5_arrive_169 rfl (lv_at hl 1 rfl) ?_
            refine va_get (D := (dC, dI)) (ci := 5) (v := .ref (ad 56)) (C := RX5) (T := TX5) (N := 15) hx hb hts inG5 hown hK hP 32 (gX_32 cs ad nu76) rfl 4 (by decide) (hts _ (List.mem_cons_of_mem _ mw_2_51)) (fun _ h9 => h9) rfl dX5_arrive_170 ?_
            refine lv_aload_n hx hb dX5_arrive_173 rfl (lv_at hl 1 rfl) ?_
            refine va_get (D := (dC, dI)) (ci := 5) (v := .ref (ad 54)) (C := RX5) (T := TX5) (N := 15) hx hb hts inG5 hown hK hP 32 (gX_32 cs ad nu76) rfl 2 (by decide) (hts _ (List.mem_cons_of_mem _ mw_2_48)) (fun _ h9 => h9) rfl dX5_arrive_174 ?_
            refine lv_iload_n hx hb dX5_arrive_177 rfl (lv_at hl 2 rfl) ?_
            refine lv_iload_n hx hb dX5_arrive_178 rfl (lv_at hl 4 rfl) ?_
            have hFc := fr_all (wR_D nu76 hD) hS hA
            refine va_callv (va_runV (As := [.ref (ad 54), .int vs, .int vp]) (rest := []) ⟨hx, hb, hml, hown, hts⟩ (sx_take56 l dC dI cs ad nu76 ok H hP ((wR_D nu76 hD).weaken (fun _ _ _ _ => trivial)) vs vp (by omega)) (cwV 3 hts (wU_V mw_4_43 mw_4_40 mw_4_41 mw_4_42 mw_1_9) rfl rfl rfl (by decide +kernel) ⟨Nat.le_of_ble_eq_true rfl, Nat.le_of_ble_eq_true rfl⟩) ⟨sz_c, va_recv hK hP (ci := 0) (q0 := 56) rfl (gX_56 cs ad nu76), sz_m hK hz⟩ rfl rfl hl.1 rfl (lv_room (Nat.le_of_ble_eq_true rfl)) dX5_arrive_179 ⟨Nat.zero_le _, Nat.zero_le _⟩) hS (fun q _ h => hFc q h) hFc (fun xi89 t H89 locs ht hvm hw89 hB hz1 hk1 hS => ?_)
            have hP : va_P (dC, dI) vwCl (wR 157 ad (EX cs ad) xi89) H89 := by rw [← ht]; exact hB
            obtain ⟨hfe89, ok, hw89, hkp89_0⟩ := hw89
            have hF := mi_let hF hfe89
            have kp90 : (∀ k f : Nat, Nat.testBit 510 (gpX k f) = true → xi89 k f = mu k f) := kp_t hkp89_0 (by decide) kp81
            exact W.vret hx hb hr (fun t ht hW => ⟨⟨xi89, rfl, ⟨hF.trans hfz.symm, ok, trivial, kp90⟩, by first | (subst ht; exact hP) | (rw [ht]; exact hP) | (show va_P (dC, dI) vwCl (wR 157 ad (EX cs ad) xi89) t.heap; rw [ht]; exact hP)⟩, hS.F ht⟩) hS.2.2 dX5_arrive_182
          · have hF := (if_neg c_88).symm.trans hF
            have c_88 : y87.toInt ≤ vs.toInt := il_nlt c_88
            refine lv_iload_n hx hb dX5_arrive_147 rfl (lv_at hl 2 rfl) ?_
            refine lv_aload_n hx hb dX5_arrive_148 rfl (lv_at hl 1 rfl) ?_
            refine va_get (D := (dC, dI)) (ci := 5) (v := .ref (ad 56)) (C := RX5) (T := TX5) (N := 15) hx hb hts inG5 hown hK hP 32 (gX_32 cs ad nu76) rfl 4 (by decide) (hts _ (List.mem_cons_of_mem _ mw_2_51)) (fun _ h9 => h9) rfl dX5_arrive_149 ?_
            refine va_get (D := (dC, dI)) (ci := 0) (v := .int (nu76 56 1)) (C := RX0) (T := TX0) (N := 4) hx hb hts inG0 hown hK hP 56 (gX_56 cs ad nu76) rfl 1 (by decide) (hts _ (List.mem_cons_of_mem _ mw_2_29)) (fun _ h9 => h9) rfl dX5_arrive_152 ?_
            refine lq_i y87 ey87.symm ?_
            refine lv_icmp_ne (tgt := 182) hx hb dX5_arrive_155 (by decide) (fun c_91 => ?_) (fun c_91 => ?_)
            · have hF := (if_neg c_91).symm.trans hF
              have c_91 : ¬ vs.toInt = y87.toInt := il_ne c_91
              exact W.vret hx hb hr (fun t ht hW => ⟨⟨nu76, rfl, ⟨hF.trans hfz.symm, ok, trivial, kp81⟩, by first | (subst ht; exact hP) | (rw [ht]; exact hP) | (show va_P (dC, dI) vwCl (wR 157 ad (EX cs ad) nu76) t.heap; rw [ht]; exact hP)⟩, hS.F ht⟩) hS.2.2 dX5_arrive_182
            · have hF := (if_pos c_91).symm.trans hF
              have c_91 : vs.toInt = y87.toInt := il_eq c_91
              refine lv_iload_n hx hb dX5_arrive_158 rfl (lv_at hl 4 rfl) ?_
              refine lv_aload_n hx hb dX5_arrive_159 rfl (lv_at hl 1 rfl) ?_
              refine va_get (D := (dC, dI)) (ci := 5) (v := .ref (ad 56)) (C := RX5) (T := TX5) (N := 15) hx hb hts inG5 hown hK hP 32 (gX_32 cs ad nu76) rfl 4 (by decide) (hts _ (List.mem_cons_of_mem _ mw_2_51)) (fun _ h9 => h9) rfl dX5_arrive_160 ?_
              refine va_get (D := (dC, dI)) (ci := 0) (v := .int (nu76 56 2)) (C := RX0) (T := TX0) (N := 4) hx hb hts inG0 hown hK hP 56 (gX_56 cs ad nu76) rfl 2 (by decide) (hts _ (List.mem_cons_of_mem _ mw_2_32)) (fun _ h9 => h9) rfl dX5_arrive_163 ?_
              refine lv_topi (fun y92 ey92 => ?_)
              have hF := mi_let hF ey92
              have by92 : y92.toInt = (nu76 56 2).toInt := congrArg Int32.toInt ey92
              refine lv_icmp_ge (tgt := 182) hx hb dX5_arrive_166 (by decide) (fun c_93 => ?_) (fun c_93 => ?_)
              · have hF := (if_pos c_93).symm.trans hF
                have c_93 : y92.toInt ≤ vp.toInt := il_le c_93
                exact W.vret hx hb hr (fun t ht hW => ⟨⟨nu76, rfl, ⟨hF.trans hfz.symm, ok, trivial, kp81⟩, by first | (subst ht; exact hP) | (rw [ht]; exact hP) | (show va_P (dC, dI) vwCl (wR 157 ad (EX cs ad) nu76) t.heap; rw [ht]; exact hP)⟩, hS.F ht⟩) hS.2.2 dX5_arrive_182
              · have hF := (if_neg c_93).symm.trans hF
                have c_93 : vp.toInt < y92.toInt := il_nle c_93
                refine lv_aload_n hx hb dX5_arrive_169 rfl (lv_at hl 1 rfl) ?_
                refine va_get (D := (dC, dI)) (ci := 5) (v := .ref (ad 56)) (C := RX5) (T := TX5) (N := 15) hx hb hts inG5 hown hK hP 32 (gX_32 cs ad nu76) rfl 4 (by decide) (hts _ (List.mem_cons_of_mem _ mw_2_51)) (fun _ h9 => h9) rfl dX5_arrive_170 ?_
                refine lv_aload_n hx hb dX5_arrive_173 rfl (lv_at hl 1 rfl) ?_
                refine va_get (D := (dC, dI)) (ci := 5) (v := .ref (ad 54)) (C := RX5) (T := TX5) (N := 15) hx hb hts inG5 hown hK hP 32 (gX_32 cs ad nu76) rfl 2 (by decide) (hts _ (List.mem_cons_of_mem _ mw_2_48)) (fun _ h9 => h9) rfl dX5_arrive_174 ?_
                refine lv_iload_n hx hb dX5_arrive_177 rfl (lv_at hl 2 rfl) ?_
                refine lv_iload_n hx hb dX5_arrive_178 rfl (lv_at hl 4 rfl) ?_
                have hFc := fr_all (wR_D nu76 hD) hS hA
                refine va_callv (va_runV (As := [.ref (ad 54), .int vs, .int vp]) (rest := []) ⟨hx, hb, hml, hown, hts⟩ (sx_take56 l dC dI cs ad nu76 ok H hP ((wR_D nu76 hD).weaken (fun _ _ _ _ => trivial)) vs vp (by omega)) (cwV 3 hts (wU_V mw_4_43 mw_4_40 mw_4_41 mw_4_42 mw_1_9) rfl rfl rfl (by decide +kernel) ⟨Nat.le_of_ble_eq_true rfl, Nat.le_of_ble_eq_true rfl⟩) ⟨sz_c, va_recv hK hP (ci := 0) (q0 := 56) rfl (gX_56 cs ad nu76), sz_m hK hz⟩ rfl rfl hl.1 rfl (lv_room (Nat.le_of_ble_eq_true rfl)) dX5_arrive_179 ⟨Nat.zero_le _, Nat.zero_le _⟩) hS (fun q _ h => hFc q h) hFc (fun xi94 t H94 locs ht hvm hw94 hB hz1 hk1 hS => ?_)
                have hP : va_P (dC, dI) vwCl (wR 157 ad (EX cs ad) xi94) H94 := by rw [← ht]; exact hB
                obtain ⟨hfe94, ok, hw94, hkp94_0⟩ := hw94
                have hF := mi_let hF hfe94
                have kp95 : (∀ k f : Nat, Nat.testBit 510 (gpX k f) = true → xi94 k f = mu k f) := kp_t hkp94_0 (by decide) kp81
                exact W.vret hx hb hr (fun t ht hW => ⟨⟨xi94, rfl, ⟨hF.trans hfz.symm, ok, trivial, kp95⟩, by first | (subst ht; exact hP) | (rw [ht]; exact hP) | (show va_P (dC, dI) vwCl (wR 157 ad (EX cs ad) xi94) t.heap; rw [ht]; exact hP)⟩, hS.F ht⟩) hS.2.2 dX5_arrive_182
      · have hF := (if_neg c_62).symm.trans hF
        have c_62 : y61.toInt < r55.toInt := il_nle c_62
        exact W.vret hx hb hr (fun t ht hW => ⟨⟨nu58, rfl, ⟨hF.trans hfz.symm, ok, trivial, kp59⟩, by first | (subst ht; exact hP) | (rw [ht]; exact hP) | (show va_P (dC, dI) vwCl (wR 157 ad (EX cs ad) nu58) t.heap; rw [ht]; exact hP)⟩, hS.F ht⟩) hS.2.2 dX5_arrive_96
    · have hF := (if_neg c_52).symm.trans hF
      have c_52 : y51.toInt ≤ vp.toInt := il_nlt c_52
      refine lv_iload_n hx hb dX5_arrive_31 rfl (lv_at hl 3 rfl) ?_
      refine lv_aload_n hx hb dX5_arrive_32 rfl (lv_at hl 0 rfl) ?_
      refine va_get (D := (dC, dI)) (ci := 5) (v := .ref (ad 55)) (C := RX5) (T := TX5) (N := 15) hx hb hts inG5 hown hK hP 32 (gX_32 cs ad nu3) rfl 3 (by decide) (hts _ (List.mem_cons_of_mem _ mw_2_49)) (fun _ h9 => h9) rfl dX5_arrive_33 ?_
      refine va_get (D := (dC, dI)) (ci := 0) (v := .int (nu3 55 2)) (C := RX0) (T := TX0) (N := 4) hx hb hts inG0 hown hK hP 55 (gX_55 cs ad nu3) rfl 2 (by decide) (hts _ (List.mem_cons_of_mem _ mw_2_32)) (fun _ h9 => h9) rfl dX5_arrive_36 ?_
      refine lq_i y51 ey51.symm ?_
      refine lv_icmp_ne (tgt := 66) hx hb dX5_arrive_39 (by decide) (fun c_96 => ?_) (fun c_96 => ?_)
      · have hF := (if_neg c_96).symm.trans hF
        have c_96 : ¬ vp.toInt = y51.toInt := il_ne c_96
        refine lv_aload_n hx hb dX5_arrive_66 rfl (lv_at hl 0 rfl) ?_
        refine lv_iload_n hx hb dX5_arrive_67 rfl (lv_at hl 1 rfl) ?_
        refine lv_iload_n hx hb dX5_arrive_68 rfl (lv_at hl 3 rfl) ?_
        refine cr_i (va_runV (As := [.int vs, .int vp]) (rest := []) ⟨hx, hb, hml, hown, hts⟩ (sx_needFor l dC dI cs ad nu3 ok H hP vs vp) (cwV 2 hts (wU_V mw_4_48 mw_4_45 mw_4_47 mw_0_16 mw_1_8) rfl rfl rfl (by decide +kernel) ⟨Nat.le_of_ble_eq_true rfl, Nat.le_of_ble_eq_true rfl⟩) ⟨sz_c, va_recv hK hP (ci := 5) (q0 := 32) rfl (gX_32 cs ad nu3), sz_m hK hz⟩ rfl rfl hl.1 rfl (lv_room (Nat.le_of_ble_eq_true rfl)) dX5_arrive_69 ⟨Nat.zero_le _, Nat.zero_le _⟩) hS (fun r97 hw97 locs hS => ?_)
        obtain ⟨hfe97, hw97⟩ := hw97
        have hF := mi_let hF hfe97
        refine lv_istore (lv' := [(4, .int r97), (0, .ref (ad 32)), (1, .int vs), (2, .int vu), (3, .int vp)]) hx hb dX5_arrive_72 hl (by decide) rfl (fun ls hl => ?_)
        refine lv_aload_n hx hb dX5_arrive_74 rfl (lv_at hl 1 rfl) ?_
        refine lv_aload_n hx hb dX5_arrive_75 rfl (lv_at hl 1 rfl) ?_
        refine va_get (D := (dC, dI)) (ci := 5) (v := .int (nu3 32 14)) (C := RX5) (T := TX5) (N := 15) hx hb hts inG5 hown hK hP 32 (gX_32 cs ad nu3) rfl 14 (by decide) (hts _ (List.mem_cons_of_mem _ mw_2_65)) (fun _ h9 => h9) rfl dX5_arrive_76 ?_
        refine lv_topi (fun y98 ey98 => ?_)
        have hF := mi_let hF ey98
        have by98 : y98.toInt = (nu3 32 14).toInt := congrArg Int32.toInt ey98
        refine lv_iload hx hb dX5_arrive_79 (lv_at hl 0 rfl) ?_
        refine va_mmin hx hb (hml.trans hl.1.symm) hown (hts _ (List.mem_cons_of_mem _ mw_4_49)) (hts _ (List.mem_cons_of_mem _ mw_4_50)) (hts _ (List.mem_cons_of_mem _ mw_1_17)) (hts _ (List.mem_cons_of_mem _ mw_4_51)) (Nat.le_of_ble_eq_true rfl) (Nat.le_of_ble_eq_true rfl) (Nat.zero_le _) (Nat.zero_le _) dX5_arrive_81 ?_
        refine lv_topi (fun t99 et99 => ?_)
        have hF := mi_let hF et99
        refine va_put (D := (dC, dI)) (ci := 5) (v := .int t99) (ty := .int) (C := RX5) (T := TX5) (N := 15) hx hb hts inG5 tyX5 tyX5_ok nmX5 hown hK hP (wR_D nu3 hD) hS 32 (gX_32 cs ad nu3) rfl 14 (by decide) (hts _ (List.mem_cons_of_mem _ mw_2_65)) (fun _ h9 => h9) rfl (by decide +kernel) rfl rfl (Nat.le_of_ble_eq_true rfl) dX5_arrive_84 (fun H locs hP _ hS => ?_)
        simp only [List.set_cons_succ, List.set_cons_zero] at hP
        refine wr_gen (upd (nu3 32) 14 t99) hP ((hX_32_14 cs ad _ _)) (fun nu100 hn100 hP => ?_)
        have hF := mi_let hF hn100.symm
        have ok := tX_32_14 ok hn100
        have ez101 : t2 = nu100 32 11 := ez5.trans (up_f hn100 (by decide)).symm
        have ez102 : y6 = nu100 55 3 := ey6.trans (congrFun (up_k hn100 (by decide)) 3).symm
        have ez103 : y51 = nu100 55 2 := ey51.trans (congrFun (up_k hn100 (by decide)) 2).symm
        have kp104 : (∀ k f : Nat, Nat.testBit 510 (gpX k f) = true → nu100 k f = mu k f) := kp_c 0 hn100 (fun _ => rfl) (by decide) kp4
        have ez105 : t99 = nu100 32 14 := up_v hn100
        refine lv_iload hx hb dX5_arrive_87 (lv_at hl 0 rfl) ?_
        refine lv_aload_n hx hb dX5_arrive_89 rfl (lv_at hl 1 rfl) ?_
        refine va_get (D := (dC, dI)) (ci := 5) (v := .int (nu100 32 8)) (C := RX5) (T := TX5) (N := 15) hx hb hts inG5 hown hK hP 32 (gX_32 cs ad nu100) rfl 8 (by decide) (hts _ (List.mem_cons_of_mem _ mw_2_56)) (fun _ h9 => h9) rfl dX5_arrive_90 ?_
        refine lv_topi (fun y106 ey106 => ?_)
        have hF := mi_let hF ey106
        have by106 : y106.toInt = (nu100 32 8).toInt := congrArg Int32.toInt ey106
        refine lv_icmp_le (tgt := 97) hx hb dX5_arrive_93 (by decide) (fun c_107 => ?_) (fun c_107 => ?_)
        · have hF := (if_pos c_107).symm.trans hF
          have c_107 : r97.toInt ≤ y106.toInt := il_le c_107
          refine lv_aload_n hx hb dX5_arrive_97 rfl (lv_at hl 1 rfl) ?_
          refine lv_dup hx hb dX5_arrive_98 rfl ?_
          refine va_get (D := (dC, dI)) (ci := 5) (v := .int (nu100 32 12)) (C := RX5) (T := TX5) (N := 15) hx hb hts inG5 hown hK hP 32 (gX_32 cs ad nu100) rfl 12 (by decide) (hts _ (List.mem_cons_of_mem _ mw_2_61)) (fun _ h9 => h9) rfl dX5_arrive_99 ?_
          refine lv_topi (fun y108 ey108 => ?_)
          have hF := mi_let hF ey108
          have by108 : y108.toInt = (nu100 32 12).toInt := congrArg Int32.toInt ey108
          refine lv_iconst (v := 1) hx hb dX5_arrive_102 (by decide) ?_
          refine lv_iadd hx hb dX5_arrive_103 ?_
          refine lv_topi (fun t109 et109 => ?_)
          have hF := mi_let hF et109
          refine va_put (D := (dC, dI)) (ci := 5) (v := .int t109) (ty := .int) (C := RX5) (T := TX5) (N := 15) hx hb hts inG5 tyX5 tyX5_ok nmX5 hown hK hP (wR_D nu100 hD) hS 32 (gX_32 cs ad nu100) rfl 12 (by decide) (hts _ (List.mem_cons_of_mem _ mw_2_61)) (fun _ h9 => h9) rfl (by decide +kernel) rfl rfl (Nat.le_of_ble_eq_true rfl) dX5_arrive_104 (fun H locs hP _ hS => ?_)
          simp only [List.set_cons_succ, List.set_cons_zero] at hP
          refine wr_gen (upd (nu100 32) 12 t109) hP ((hX_32_12 cs ad _ _)) (fun nu110 hn110 hP => ?_)
          have hF := mi_let hF hn110.symm
          have ok := tX_32_12 ok hn110
          have ez111 : t2 = nu110 32 11 := ez101.trans (up_f hn110 (by decide)).symm
          have ez112 : y6 = nu110 55 3 := ez102.trans (congrFun (up_k hn110 (by decide)) 3).symm
          have ez113 : y51 = nu110 55 2 := ez103.trans (congrFun (up_k hn110 (by decide)) 2).symm
          have ez114 : t99 = nu110 32 14 := ez105.trans (up_f hn110 (by decide)).symm
          have ez115 : y106 = nu110 32 8 := ey106.trans (up_f hn110 (by decide)).symm
          have kp116 : (∀ k f : Nat, Nat.testBit 510 (gpX k f) = true → nu110 k f = mu k f) := kp_c 0 hn110 (fun _ => rfl) (by decide) kp104
          have ez117 : t109 = nu110 32 12 := up_v hn110
          refine lv_aload_n hx hb dX5_arrive_107 rfl (lv_at hl 1 rfl) ?_
          refine lv_dup hx hb dX5_arrive_108 rfl ?_
          refine va_get (D := (dC, dI)) (ci := 5) (v := .int (nu110 32 13)) (C := RX5) (T := TX5) (N := 15) hx hb hts inG5 hown hK hP 32 (gX_32 cs ad nu110) rfl 13 (by decide) (hts _ (List.mem_cons_of_mem _ mw_2_63)) (fun _ h9 => h9) rfl dX5_arrive_109 ?_
          refine lv_topi (fun y118 ey118 => ?_)
          have hF := mi_let hF ey118
          have by118 : y118.toInt = (nu110 32 13).toInt := congrArg Int32.toInt ey118
          refine lv_iload_n hx hb dX5_arrive_112 rfl (lv_at hl 3 rfl) ?_
          refine lv_iconst (v := 1) hx hb dX5_arrive_113 (by decide) ?_
          refine lv_aload_n hx hb dX5_arrive_114 rfl (lv_at hl 1 rfl) ?_
          refine va_get (D := (dC, dI)) (ci := 5) (v := .int (nu110 32 5)) (C := RX5) (T := TX5) (N := 15) hx hb hts inG5 hown hK hP 32 (gX_32 cs ad nu110) rfl 5 (by decide) (hts _ (List.mem_cons_of_mem _ mw_2_53)) (fun _ h9 => h9) rfl dX5_arrive_115 ?_
          refine lv_topi (fun y119 ey119 => ?_)
          have hF := mi_let hF ey119
          have by119 : y119.toInt = (nu110 32 5).toInt := congrArg Int32.toInt ey119
          have gy119 : 0 ≤ y119.toInt ∧ y119.toInt ≤ 6 := by rw [ey119]; exact rX_32_5 ok
          refine lv_ishl hx hb dX5_arrive_118 ?_
          refine lv_topi (fun t120 et120 => ?_)
          have hF := mi_let hF et120
          refine lv_iconst (v := (-1)) hx hb dX5_arrive_119 (by decide) ?_
          refine lv_ixor hx hb dX5_arrive_120 ?_
          refine lv_topi (fun t121 et121 => ?_)
          have hF := mi_let hF et121
          refine lv_iand hx hb dX5_arrive_121 ?_
          refine lv_topi (fun t122 et122 => ?_)
          have hF := mi_let hF et122
          refine lv_iand hx hb dX5_arrive_122 ?_
          refine lv_topi (fun t123 et123 => ?_)
          have hF := mi_let hF et123
          refine va_put (D := (dC, dI)) (ci := 5) (v := .int t123) (ty := .int) (C := RX5) (T := TX5) (N := 15) hx hb hts inG5 tyX5 tyX5_ok nmX5 hown hK hP (wR_D nu110 hD) hS 32 (gX_32 cs ad nu110) rfl 13 (by decide) (hts _ (List.mem_cons_of_mem _ mw_2_63)) (fun _ h9 => h9) rfl (by decide +kernel) rfl rfl (Nat.le_of_ble_eq_true rfl) dX5_arrive_123 (fun H locs hP _ hS => ?_)
          simp only [List.set_cons_succ, List.set_cons_zero] at hP
          refine wr_gen (upd (nu110 32) 13 t123) hP ((hX_32_13 cs ad _ _)) (fun nu124 hn124 hP => ?_)
          have hF := mi_let hF hn124.symm
          have ok := tX_32_13 ok hn124
          have ez125 : t2 = nu124 32 11 := ez111.trans (up_f hn124 (by decide)).symm
          have ez126 : y6 = nu124 55 3 := ez112.trans (congrFun (up_k hn124 (by decide)) 3).symm
          have ez127 : y51 = nu124 55 2 := ez113.trans (congrFun (up_k hn124 (by decide)) 2).symm
          have ez128 : t99 = nu124 32 14 := ez114.trans (up_f hn124 (by decide)).symm
          have ez129 : y106 = nu124 32 8 := ez115.trans (up_f hn124 (by decide)).symm
          have ez130 : t109 = nu124 32 12 := ez117.trans (up_f hn124 (by decide)).symm
          have ez131 : y119 = nu124 32 5 := ey119.trans (up_f hn124 (by decide)).symm
          have kp132 : (∀ k f : Nat, Nat.testBit 510 (gpX k f) = true → nu124 k f = mu k f) := kp_c 0 hn124 (fun _ => rfl) (by decide) kp116
          have ez133 : t123 = nu124 32 13 := up_v hn124
          refine lv_aload_n hx hb dX5_arrive_126 rfl (lv_at hl 1 rfl) ?_
          refine va_get (D := (dC, dI)) (ci := 5) (v := .ref (ad 56)) (C := RX5) (T := TX5) (N := 15) hx hb hts inG5 hown hK hP 32 (gX_32 cs ad nu124) rfl 4 (by decide) (hts _ (List.mem_cons_of_mem _ mw_2_51)) (fun _ h9 => h9) rfl dX5_arrive_127 ?_
          refine va_get (D := (dC, dI)) (ci := 0) (v := .int (nu124 56 3)) (C := RX0) (T := TX0) (N := 4) hx hb hts inG0 hown hK hP 56 (gX_56 cs ad nu124) rfl 3 (by decide) (hts _ (List.mem_cons_of_mem _ mw_2_35)) (fun _ h9 => h9) rfl dX5_arrive_130 ?_
          refine lv_topi (fun y134 ey134 => ?_)
          have hF := mi_let hF ey134
          have by134 : y134.toInt = (nu124 56 3).toInt := congrArg Int32.toInt ey134
          have gy134 : 0 ≤ y134.toInt ∧ y134.toInt ≤ 1 := by rw [ey134]; exact rX_56_3 ok
          refine lv_if_eq (tgt := 169) hx hb dX5_arrive_133 (by decide) (fun c_135 => ?_) (fun c_135 => ?_)
          · have hF := (if_pos c_135).symm.trans hF
            have c_135 : y134.toInt = 0 := il_eq c_135
            refine lv_aload_n hx hb dX5_arrive_169 rfl (lv_at hl 1 rfl) ?_
            refine va_get (D := (dC, dI)) (ci := 5) (v := .ref (ad 56)) (C := RX5) (T := TX5) (N := 15) hx hb hts inG5 hown hK hP 32 (gX_32 cs ad nu124) rfl 4 (by decide) (hts _ (List.mem_cons_of_mem _ mw_2_51)) (fun _ h9 => h9) rfl dX5_arrive_170 ?_
            refine lv_aload_n hx hb dX5_arrive_173 rfl (lv_at hl 1 rfl) ?_
            refine va_get (D := (dC, dI)) (ci := 5) (v := .ref (ad 54)) (C := RX5) (T := TX5) (N := 15) hx hb hts inG5 hown hK hP 32 (gX_32 cs ad nu124) rfl 2 (by decide) (hts _ (List.mem_cons_of_mem _ mw_2_48)) (fun _ h9 => h9) rfl dX5_arrive_174 ?_
            refine lv_iload_n hx hb dX5_arrive_177 rfl (lv_at hl 2 rfl) ?_
            refine lv_iload_n hx hb dX5_arrive_178 rfl (lv_at hl 4 rfl) ?_
            have hFc := fr_all (wR_D nu124 hD) hS hA
            refine va_callv (va_runV (As := [.ref (ad 54), .int vs, .int vp]) (rest := []) ⟨hx, hb, hml, hown, hts⟩ (sx_take56 l dC dI cs ad nu124 ok H hP ((wR_D nu124 hD).weaken (fun _ _ _ _ => trivial)) vs vp (by omega)) (cwV 3 hts (wU_V mw_4_43 mw_4_40 mw_4_41 mw_4_42 mw_1_9) rfl rfl rfl (by decide +kernel) ⟨Nat.le_of_ble_eq_true rfl, Nat.le_of_ble_eq_true rfl⟩) ⟨sz_c, va_recv hK hP (ci := 0) (q0 := 56) rfl (gX_56 cs ad nu124), sz_m hK hz⟩ rfl rfl hl.1 rfl (lv_room (Nat.le_of_ble_eq_true rfl)) dX5_arrive_179 ⟨Nat.zero_le _, Nat.zero_le _⟩) hS (fun q _ h => hFc q h) hFc (fun xi136 t H136 locs ht hvm hw136 hB hz1 hk1 hS => ?_)
            have hP : va_P (dC, dI) vwCl (wR 157 ad (EX cs ad) xi136) H136 := by rw [← ht]; exact hB
            obtain ⟨hfe136, ok, hw136, hkp136_0⟩ := hw136
            have hF := mi_let hF hfe136
            have kp137 : (∀ k f : Nat, Nat.testBit 510 (gpX k f) = true → xi136 k f = mu k f) := kp_t hkp136_0 (by decide) kp132
            exact W.vret hx hb hr (fun t ht hW => ⟨⟨xi136, rfl, ⟨hF.trans hfz.symm, ok, trivial, kp137⟩, by first | (subst ht; exact hP) | (rw [ht]; exact hP) | (show va_P (dC, dI) vwCl (wR 157 ad (EX cs ad) xi136) t.heap; rw [ht]; exact hP)⟩, hS.F ht⟩) hS.2.2 dX5_arrive_182
          · have hF := (if_neg c_135).symm.trans hF
            have c_135 : ¬ y134.toInt = 0 := il_ne c_135
            refine lv_iload_n hx hb dX5_arrive_136 rfl (lv_at hl 2 rfl) ?_
            refine lv_aload_n hx hb dX5_arrive_137 rfl (lv_at hl 1 rfl) ?_
            refine va_get (D := (dC, dI)) (ci := 5) (v := .ref (ad 56)) (C := RX5) (T := TX5) (N := 15) hx hb hts inG5 hown hK hP 32 (gX_32 cs ad nu124) rfl 4 (by decide) (hts _ (List.mem_cons_of_mem _ mw_2_51)) (fun _ h9 => h9) rfl dX5_arrive_138 ?_
            refine va_get (D := (dC, dI)) (ci := 0) (v := .int (nu124 56 1)) (C := RX0) (T := TX0) (N := 4) hx hb hts inG0 hown hK hP 56 (gX_56 cs ad nu124) rfl 1 (by decide) (hts _ (List.mem_cons_of_mem _ mw_2_29)) (fun _ h9 => h9) rfl dX5_arrive_141 ?_
            refine lv_topi (fun y138 ey138 => ?_)
            have hF := mi_let hF ey138
            have by138 : y138.toInt = (nu124 56 1).toInt := congrArg Int32.toInt ey138
            have gy138 : 0 ≤ y138.toInt ∧ y138.toInt ≤ 6 := by rw [ey138]; exact rX_56_1 ok
            refine lv_icmp_lt (tgt := 169) hx hb dX5_arrive_144 (by decide) (fun c_139 => ?_) (fun c_139 => ?_)
            · have hF := (if_pos c_139).symm.trans hF
              have c_139 : vs.toInt < y138.toInt := il_lt c_139
              refine lv_aload_n hx hb dX5_arrive_169 rfl (lv_at hl 1 rfl) ?_
              refine va_get (D := (dC, dI)) (ci := 5) (v := .ref (ad 56)) (C := RX5) (T := TX5) (N := 15) hx hb hts inG5 hown hK hP 32 (gX_32 cs ad nu124) rfl 4 (by decide) (hts _ (List.mem_cons_of_mem _ mw_2_51)) (fun _ h9 => h9) rfl dX5_arrive_170 ?_
              refine lv_aload_n hx hb dX5_arrive_173 rfl (lv_at hl 1 rfl) ?_
              refine va_get (D := (dC, dI)) (ci := 5) (v := .ref (ad 54)) (C := RX5) (T := TX5) (N := 15) hx hb hts inG5 hown hK hP 32 (gX_32 cs ad nu124) rfl 2 (by decide) (hts _ (List.mem_cons_of_mem _ mw_2_48)) (fun _ h9 => h9) rfl dX5_arrive_174 ?_
              refine lv_iload_n hx hb dX5_arrive_177 rfl (lv_at hl 2 rfl) ?_
              refine lv_iload_n hx hb dX5_arrive_178 rfl (lv_at hl 4 rfl) ?_
              have hFc := fr_all (wR_D nu124 hD) hS hA
              refine va_callv (va_runV (As := [.ref (ad 54), .int vs, .int vp]) (rest := []) ⟨hx, hb, hml, hown, hts⟩ (sx_take56 l dC dI cs ad nu124 ok H hP ((wR_D nu124 hD).weaken (fun _ _ _ _ => trivial)) vs vp (by omega)) (cwV 3 hts (wU_V mw_4_43 mw_4_40 mw_4_41 mw_4_42 mw_1_9) rfl rfl rfl (by decide +kernel) ⟨Nat.le_of_ble_eq_true rfl, Nat.le_of_ble_eq_true rfl⟩) ⟨sz_c, va_recv hK hP (ci := 0) (q0 := 56) rfl (gX_56 cs ad nu124), sz_m hK hz⟩ rfl rfl hl.1 rfl (lv_room (Nat.le_of_ble_eq_true rfl)) dX5_arrive_179 ⟨Nat.zero_le _, Nat.zero_le _⟩) hS (fun q _ h => hFc q h) hFc (fun xi140 t H140 locs ht hvm hw140 hB hz1 hk1 hS => ?_)
              have hP : va_P (dC, dI) vwCl (wR 157 ad (EX cs ad) xi140) H140 := by rw [← ht]; exact hB
              obtain ⟨hfe140, ok, hw140, hkp140_0⟩ := hw140
              have hF := mi_let hF hfe140
              have kp141 : (∀ k f : Nat, Nat.testBit 510 (gpX k f) = true → xi140 k f = mu k f) := kp_t hkp140_0 (by decide) kp132
              exact W.vret hx hb hr (fun t ht hW => ⟨⟨xi140, rfl, ⟨hF.trans hfz.symm, ok, trivial, kp141⟩, by first | (subst ht; exact hP) | (rw [ht]; exact hP) | (show va_P (dC, dI) vwCl (wR 157 ad (EX cs ad) xi140) t.heap; rw [ht]; exact hP)⟩, hS.F ht⟩) hS.2.2 dX5_arrive_182
            · have hF := (if_neg c_139).symm.trans hF
              have c_139 : y138.toInt ≤ vs.toInt := il_nlt c_139
              refine lv_iload_n hx hb dX5_arrive_147 rfl (lv_at hl 2 rfl) ?_
              refine lv_aload_n hx hb dX5_arrive_148 rfl (lv_at hl 1 rfl) ?_
              refine va_get (D := (dC, dI)) (ci := 5) (v := .ref (ad 56)) (C := RX5) (T := TX5) (N := 15) hx hb hts inG5 hown hK hP 32 (gX_32 cs ad nu124) rfl 4 (by decide) (hts _ (List.mem_cons_of_mem _ mw_2_51)) (fun _ h9 => h9) rfl dX5_arrive_149 ?_
              refine va_get (D := (dC, dI)) (ci := 0) (v := .int (nu124 56 1)) (C := RX0) (T := TX0) (N := 4) hx hb hts inG0 hown hK hP 56 (gX_56 cs ad nu124) rfl 1 (by decide) (hts _ (List.mem_cons_of_mem _ mw_2_29)) (fun _ h9 => h9) rfl dX5_arrive_152 ?_
              refine lq_i y138 ey138.symm ?_
              refine lv_icmp_ne (tgt := 182) hx hb dX5_arrive_155 (by decide) (fun c_142 => ?_) (fun c_142 => ?_)
              · have hF := (if_neg c_142).symm.trans hF
                have c_142 : ¬ vs.toInt = y138.toInt := il_ne c_142
                exact W.vret hx hb hr (fun t ht hW => ⟨⟨nu124, rfl, ⟨hF.trans hfz.symm, ok, trivial, kp132⟩, by first | (subst ht; exact hP) | (rw [ht]; exact hP) | (show va_P (dC, dI) vwCl (wR 157 ad (EX cs ad) nu124) t.heap; rw [ht]; exact hP)⟩, hS.F ht⟩) hS.2.2 dX5_arrive_182
              · have hF := (if_pos c_142).symm.trans hF
                have c_142 : vs.toInt = y138.toInt := il_eq c_142
                refine lv_iload_n hx hb dX5_arrive_158 rfl (lv_at hl 4 rfl) ?_
                refine lv_aload_n hx hb dX5_arrive_159 rfl (lv_at hl 1 rfl) ?_
                refine va_get (D := (dC, dI)) (ci := 5) (v := .ref (ad 56)) (C := RX5) (T := TX5) (N := 15) hx hb hts inG5 hown hK hP 32 (gX_32 cs ad nu124) rfl 4 (by decide) (hts _ (List.mem_cons_of_mem _ mw_2_51)) (fun _ h9 => h9) rfl dX5_arrive_160 ?_
                refine va_get (D := (dC, dI)) (ci := 0) (v := .int (nu124 56 2)) (C := RX0) (T := TX0) (N := 4) hx hb hts inG0 hown hK hP 56 (gX_56 cs ad nu124) rfl 2 (by decide) (hts _ (List.mem_cons_of_mem _ mw_2_32)) (fun _ h9 => h9) rfl dX5_arrive_163 ?_
                refine lv_topi (fun y143 ey143 => ?_)
                have hF := mi_let hF ey143
                have by143 : y143.toInt = (nu124 56 2).toInt := congrArg Int32.toInt ey143
                refine lv_icmp_ge (tgt := 182) hx hb dX5_arrive_166 (by decide) (fun c_144 => ?_) (fun c_144 => ?_)
                · have hF := (if_pos c_144).symm.trans hF
                  have c_144 : y143.toInt ≤ vp.toInt := il_le c_144
                  exact W.vret hx hb hr (fun t ht hW => ⟨⟨nu124, rfl, ⟨hF.trans hfz.symm, ok, trivial, kp132⟩, by first | (subst ht; exact hP) | (rw [ht]; exact hP) | (show va_P (dC, dI) vwCl (wR 157 ad (EX cs ad) nu124) t.heap; rw [ht]; exact hP)⟩, hS.F ht⟩) hS.2.2 dX5_arrive_182
                · have hF := (if_neg c_144).symm.trans hF
                  have c_144 : vp.toInt < y143.toInt := il_nle c_144
                  refine lv_aload_n hx hb dX5_arrive_169 rfl (lv_at hl 1 rfl) ?_
                  refine va_get (D := (dC, dI)) (ci := 5) (v := .ref (ad 56)) (C := RX5) (T := TX5) (N := 15) hx hb hts inG5 hown hK hP 32 (gX_32 cs ad nu124) rfl 4 (by decide) (hts _ (List.mem_cons_of_mem _ mw_2_51)) (fun _ h9 => h9) rfl dX5_arrive_170 ?_
                  refine lv_aload_n hx hb dX5_arrive_173 rfl (lv_at hl 1 rfl) ?_
                  refine va_get (D := (dC, dI)) (ci := 5) (v := .ref (ad 54)) (C := RX5) (T := TX5) (N := 15) hx hb hts inG5 hown hK hP 32 (gX_32 cs ad nu124) rfl 2 (by decide) (hts _ (List.mem_cons_of_mem _ mw_2_48)) (fun _ h9 => h9) rfl dX5_arrive_174 ?_
                  refine lv_iload_n hx hb dX5_arrive_177 rfl (lv_at hl 2 rfl) ?_
                  refine lv_iload_n hx hb dX5_arrive_178 rfl (lv_at hl 4 rfl) ?_
                  have hFc := fr_all (wR_D nu124 hD) hS hA
                  refine va_callv (va_runV (As := [.ref (ad 54), .int vs, .int vp]) (rest := []) ⟨hx, hb, hml, hown, hts⟩ (sx_take56 l dC dI cs ad nu124 ok H hP ((wR_D nu124 hD).weaken (fun _ _ _ _ => trivial)) vs vp (by omega)) (cwV 3 hts (wU_V mw_4_43 mw_4_40 mw_4_41 mw_4_42 mw_1_9) rfl rfl rfl (by decide +kernel) ⟨Nat.le_of_ble_eq_true rfl, Nat.le_of_ble_eq_true rfl⟩) ⟨sz_c, va_recv hK hP (ci := 0) (q0 := 56) rfl (gX_56 cs ad nu124), sz_m hK hz⟩ rfl rfl hl.1 rfl (lv_room (Nat.le_of_ble_eq_true rfl)) dX5_arrive_179 ⟨Nat.zero_le _, Nat.zero_le _⟩) hS (fun q _ h => hFc q h) hFc (fun xi145 t H145 locs ht hvm hw145 hB hz1 hk1 hS => ?_)
                  have hP : va_P (dC, dI) vwCl (wR 157 ad (EX cs ad) xi145) H145 := by rw [← ht]; exact hB
                  obtain ⟨hfe145, ok, hw145, hkp145_0⟩ := hw145
                  have hF := mi_let hF hfe145
                  have kp146 : (∀ k f : Nat, Nat.testBit 510 (gpX k f) = true → xi145 k f = mu k f) := kp_t hkp145_0 (by decide) kp132
                  exact W.vret hx hb hr (fun t ht hW => ⟨⟨xi145, rfl, ⟨hF.trans hfz.symm, ok, trivial, kp146⟩, by first | (subst ht; exact hP) | (rw [ht]; exact hP) | (show va_P (dC, dI) vwCl (wR 157 ad (EX cs ad) xi145) t.heap; rw [ht]; exact hP)⟩, hS.F ht⟩) hS.2.2 dX5_arrive_182
        · have hF := (if_neg c_107).symm.trans hF
          have c_107 : y106.toInt < r97.toInt := il_nle c_107
          exact W.vret hx hb hr (fun t ht hW => ⟨⟨nu100, rfl, ⟨hF.trans hfz.symm, ok, trivial, kp104⟩, by first | (subst ht; exact hP) | (rw [ht]; exact hP) | (show va_P (dC, dI) vwCl (wR 157 ad (EX cs ad) nu100) t.heap; rw [ht]; exact hP)⟩, hS.F ht⟩) hS.2.2 dX5_arrive_96
      · have hF := (if_pos c_96).symm.trans hF
        have c_96 : vp.toInt = y51.toInt := il_eq c_96
        refine lv_iload_n hx hb dX5_arrive_42 rfl (lv_at hl 1 rfl) ?_
        refine lv_aload_n hx hb dX5_arrive_43 rfl (lv_at hl 0 rfl) ?_
        refine va_get (D := (dC, dI)) (ci := 5) (v := .ref (ad 55)) (C := RX5) (T := TX5) (N := 15) hx hb hts inG5 hown hK hP 32 (gX_32 cs ad nu3) rfl 3 (by decide) (hts _ (List.mem_cons_of_mem _ mw_2_49)) (fun _ h9 => h9) rfl dX5_arrive_44 ?_
        refine va_get (D := (dC, dI)) (ci := 0) (v := .int (nu3 55 1)) (C := RX0) (T := TX0) (N := 4) hx hb hts inG0 hown hK hP 55 (gX_55 cs ad nu3) rfl 1 (by decide) (hts _ (List.mem_cons_of_mem _ mw_2_29)) (fun _ h9 => h9) rfl dX5_arrive_47 ?_
        refine lv_topi (fun y147 ey147 => ?_)
        have hF := mi_let hF ey147
        have by147 : y147.toInt = (nu3 55 1).toInt := congrArg Int32.toInt ey147
        have gy147 : 0 ≤ y147.toInt ∧ y147.toInt ≤ 6 := by rw [ey147]; exact rX_55_1 ok
        refine lv_icmp_ge (tgt := 66) hx hb dX5_arrive_50 (by decide) (fun c_148 => ?_) (fun c_148 => ?_)
        · have hF := (if_pos c_148).symm.trans hF
          have c_148 : y147.toInt ≤ vs.toInt := il_le c_148
          refine lv_aload_n hx hb dX5_arrive_66 rfl (lv_at hl 0 rfl) ?_
          refine lv_iload_n hx hb dX5_arrive_67 rfl (lv_at hl 1 rfl) ?_
          refine lv_iload_n hx hb dX5_arrive_68 rfl (lv_at hl 3 rfl) ?_
          refine cr_i (va_runV (As := [.int vs, .int vp]) (rest := []) ⟨hx, hb, hml, hown, hts⟩ (sx_needFor l dC dI cs ad nu3 ok H hP vs vp) (cwV 2 hts (wU_V mw_4_48 mw_4_45 mw_4_47 mw_0_16 mw_1_8) rfl rfl rfl (by decide +kernel) ⟨Nat.le_of_ble_eq_true rfl, Nat.le_of_ble_eq_true rfl⟩) ⟨sz_c, va_recv hK hP (ci := 5) (q0 := 32) rfl (gX_32 cs ad nu3), sz_m hK hz⟩ rfl rfl hl.1 rfl (lv_room (Nat.le_of_ble_eq_true rfl)) dX5_arrive_69 ⟨Nat.zero_le _, Nat.zero_le _⟩) hS (fun r149 hw149 locs hS => ?_)
          obtain ⟨hfe149, hw149⟩ := hw149
          have hF := mi_let hF hfe149
          refine lv_istore (lv' := [(4, .int r149), (0, .ref (ad 32)), (1, .int vs), (2, .int vu), (3, .int vp)]) hx hb dX5_arrive_72 hl (by decide) rfl (fun ls hl => ?_)
          refine lv_aload_n hx hb dX5_arrive_74 rfl (lv_at hl 1 rfl) ?_
          refine lv_aload_n hx hb dX5_arrive_75 rfl (lv_at hl 1 rfl) ?_
          refine va_get (D := (dC, dI)) (ci := 5) (v := .int (nu3 32 14)) (C := RX5) (T := TX5) (N := 15) hx hb hts inG5 hown hK hP 32 (gX_32 cs ad nu3) rfl 14 (by decide) (hts _ (List.mem_cons_of_mem _ mw_2_65)) (fun _ h9 => h9) rfl dX5_arrive_76 ?_
          refine lv_topi (fun y150 ey150 => ?_)
          have hF := mi_let hF ey150
          have by150 : y150.toInt = (nu3 32 14).toInt := congrArg Int32.toInt ey150
          refine lv_iload hx hb dX5_arrive_79 (lv_at hl 0 rfl) ?_
          refine va_mmin hx hb (hml.trans hl.1.symm) hown (hts _ (List.mem_cons_of_mem _ mw_4_49)) (hts _ (List.mem_cons_of_mem _ mw_4_50)) (hts _ (List.mem_cons_of_mem _ mw_1_17)) (hts _ (List.mem_cons_of_mem _ mw_4_51)) (Nat.le_of_ble_eq_true rfl) (Nat.le_of_ble_eq_true rfl) (Nat.zero_le _) (Nat.zero_le _) dX5_arrive_81 ?_
          refine lv_topi (fun t151 et151 => ?_)
          have hF := mi_let hF et151
          refine va_put (D := (dC, dI)) (ci := 5) (v := .int t151) (ty := .int) (C := RX5) (T := TX5) (N := 15) hx hb hts inG5 tyX5 tyX5_ok nmX5 hown hK hP (wR_D nu3 hD) hS 32 (gX_32 cs ad nu3) rfl 14 (by decide) (hts _ (List.mem_cons_of_mem _ mw_2_65)) (fun _ h9 => h9) rfl (by decide +kernel) rfl rfl (Nat.le_of_ble_eq_true rfl) dX5_arrive_84 (fun H locs hP _ hS => ?_)
          simp only [List.set_cons_succ, List.set_cons_zero] at hP
          refine wr_gen (upd (nu3 32) 14 t151) hP ((hX_32_14 cs ad _ _)) (fun nu152 hn152 hP => ?_)
          have hF := mi_let hF hn152.symm
          have ok := tX_32_14 ok hn152
          have ez153 : t2 = nu152 32 11 := ez5.trans (up_f hn152 (by decide)).symm
          have ez154 : y6 = nu152 55 3 := ey6.trans (congrFun (up_k hn152 (by decide)) 3).symm
          have ez155 : y51 = nu152 55 2 := ey51.trans (congrFun (up_k hn152 (by decide)) 2).symm
          have ez156 : y147 = nu152 55 1 := ey147.trans (congrFun (up_k hn152 (by decide)) 1).symm
          have kp157 : (∀ k f : Nat, Nat.testBit 510 (gpX k f) = true → nu152 k f = mu k f) := kp_c 0 hn152 (fun _ => rfl) (by decide) kp4
          have ez158 : t151 = nu152 32 14 := up_v hn152
          refine lv_iload hx hb dX5_arrive_87 (lv_at hl 0 rfl) ?_
          refine lv_aload_n hx hb dX5_arrive_89 rfl (lv_at hl 1 rfl) ?_
          refine va_get (D := (dC, dI)) (ci := 5) (v := .int (nu152 32 8)) (C := RX5) (T := TX5) (N := 15) hx hb hts inG5 hown hK hP 32 (gX_32 cs ad nu152) rfl 8 (by decide) (hts _ (List.mem_cons_of_mem _ mw_2_56)) (fun _ h9 => h9) rfl dX5_arrive_90 ?_
          refine lv_topi (fun y159 ey159 => ?_)
          have hF := mi_let hF ey159
          have by159 : y159.toInt = (nu152 32 8).toInt := congrArg Int32.toInt ey159
          refine lv_icmp_le (tgt := 97) hx hb dX5_arrive_93 (by decide) (fun c_160 => ?_) (fun c_160 => ?_)
          · have hF := (if_pos c_160).symm.trans hF
            have c_160 : r149.toInt ≤ y159.toInt := il_le c_160
            refine lv_aload_n hx hb dX5_arrive_97 rfl (lv_at hl 1 rfl) ?_
            refine lv_dup hx hb dX5_arrive_98 rfl ?_
            refine va_get (D := (dC, dI)) (ci := 5) (v := .int (nu152 32 12)) (C := RX5) (T := TX5) (N := 15) hx hb hts inG5 hown hK hP 32 (gX_32 cs ad nu152) rfl 12 (by decide) (hts _ (List.mem_cons_of_mem _ mw_2_61)) (fun _ h9 => h9) rfl dX5_arrive_99 ?_
            refine lv_topi (fun y161 ey161 => ?_)
            have hF := mi_let hF ey161
            have by161 : y161.toInt = (nu152 32 12).toInt := congrArg Int32.toInt ey161
            refine lv_iconst (v := 1) hx hb dX5_arrive_102 (by decide) ?_
            refine lv_iadd hx hb dX5_arrive_103 ?_
            refine lv_topi (fun t162 et162 => ?_)
            have hF := mi_let hF et162
            refine va_put (D := (dC, dI)) (ci := 5) (v := .int t162) (ty := .int) (C := RX5) (T := TX5) (N := 15) hx hb hts inG5 tyX5 tyX5_ok nmX5 hown hK hP (wR_D nu152 hD) hS 32 (gX_32 cs ad nu152) rfl 12 (by decide) (hts _ (List.mem_cons_of_mem _ mw_2_61)) (fun _ h9 => h9) rfl (by decide +kernel) rfl rfl (Nat.le_of_ble_eq_true rfl) dX5_arrive_104 (fun H locs hP _ hS => ?_)
            simp only [List.set_cons_succ, List.set_cons_zero] at hP
            refine wr_gen (upd (nu152 32) 12 t162) hP ((hX_32_12 cs ad _ _)) (fun nu163 hn163 hP => ?_)
            have hF := mi_let hF hn163.symm
            have ok := tX_32_12 ok hn163
            have ez164 : t2 = nu163 32 11 := ez153.trans (up_f hn163 (by decide)).symm
            have ez165 : y6 = nu163 55 3 := ez154.trans (congrFun (up_k hn163 (by decide)) 3).symm
            have ez166 : y51 = nu163 55 2 := ez155.trans (congrFun (up_k hn163 (by decide)) 2).symm
            have ez167 : y147 = nu163 55 1 := ez156.trans (congrFun (up_k hn163 (by decide)) 1).symm
            have ez168 : t151 = nu163 32 14 := ez158.trans (up_f hn163 (by decide)).symm
            have ez169 : y159 = nu163 32 8 := ey159.trans (up_f hn163 (by decide)).symm
            have kp170 : (∀ k f : Nat, Nat.testBit 510 (gpX k f) = true → nu163 k f = mu k f) := kp_c 0 hn163 (fun _ => rfl) (by decide) kp157
            have ez171 : t162 = nu163 32 12 := up_v hn163
            refine lv_aload_n hx hb dX5_arrive_107 rfl (lv_at hl 1 rfl) ?_
            refine lv_dup hx hb dX5_arrive_108 rfl ?_
            refine va_get (D := (dC, dI)) (ci := 5) (v := .int (nu163 32 13)) (C := RX5) (T := TX5) (N := 15) hx hb hts inG5 hown hK hP 32 (gX_32 cs ad nu163) rfl 13 (by decide) (hts _ (List.mem_cons_of_mem _ mw_2_63)) (fun _ h9 => h9) rfl dX5_arrive_109 ?_
            refine lv_topi (fun y172 ey172 => ?_)
            have hF := mi_let hF ey172
            have by172 : y172.toInt = (nu163 32 13).toInt := congrArg Int32.toInt ey172
            refine lv_iload_n hx hb dX5_arrive_112 rfl (lv_at hl 3 rfl) ?_
            refine lv_iconst (v := 1) hx hb dX5_arrive_113 (by decide) ?_
            refine lv_aload_n hx hb dX5_arrive_114 rfl (lv_at hl 1 rfl) ?_
            refine va_get (D := (dC, dI)) (ci := 5) (v := .int (nu163 32 5)) (C := RX5) (T := TX5) (N := 15) hx hb hts inG5 hown hK hP 32 (gX_32 cs ad nu163) rfl 5 (by decide) (hts _ (List.mem_cons_of_mem _ mw_2_53)) (fun _ h9 => h9) rfl dX5_arrive_115 ?_
            refine lv_topi (fun y173 ey173 => ?_)
            have hF := mi_let hF ey173
            have by173 : y173.toInt = (nu163 32 5).toInt := congrArg Int32.toInt ey173
            have gy173 : 0 ≤ y173.toInt ∧ y173.toInt ≤ 6 := by rw [ey173]; exact rX_32_5 ok
            refine lv_ishl hx hb dX5_arrive_118 ?_
            refine lv_topi (fun t174 et174 => ?_)
            have hF := mi_let hF et174
            refine lv_iconst (v := (-1)) hx hb dX5_arrive_119 (by decide) ?_
            refine lv_ixor hx hb dX5_arrive_120 ?_
            refine lv_topi (fun t175 et175 => ?_)
            have hF := mi_let hF et175
            refine lv_iand hx hb dX5_arrive_121 ?_
            refine lv_topi (fun t176 et176 => ?_)
            have hF := mi_let hF et176
            refine lv_iand hx hb dX5_arrive_122 ?_
            refine lv_topi (fun t177 et177 => ?_)
            have hF := mi_let hF et177
            refine va_put (D := (dC, dI)) (ci := 5) (v := .int t177) (ty := .int) (C := RX5) (T := TX5) (N := 15) hx hb hts inG5 tyX5 tyX5_ok nmX5 hown hK hP (wR_D nu163 hD) hS 32 (gX_32 cs ad nu163) rfl 13 (by decide) (hts _ (List.mem_cons_of_mem _ mw_2_63)) (fun _ h9 => h9) rfl (by decide +kernel) rfl rfl (Nat.le_of_ble_eq_true rfl) dX5_arrive_123 (fun H locs hP _ hS => ?_)
            simp only [List.set_cons_succ, List.set_cons_zero] at hP
            refine wr_gen (upd (nu163 32) 13 t177) hP ((hX_32_13 cs ad _ _)) (fun nu178 hn178 hP => ?_)
            have hF := mi_let hF hn178.symm
            have ok := tX_32_13 ok hn178
            have ez179 : t2 = nu178 32 11 := ez164.trans (up_f hn178 (by decide)).symm
            have ez180 : y6 = nu178 55 3 := ez165.trans (congrFun (up_k hn178 (by decide)) 3).symm
            have ez181 : y51 = nu178 55 2 := ez166.trans (congrFun (up_k hn178 (by decide)) 2).symm
            have ez182 : y147 = nu178 55 1 := ez167.trans (congrFun (up_k hn178 (by decide)) 1).symm
            have ez183 : t151 = nu178 32 14 := ez168.trans (up_f hn178 (by decide)).symm
            have ez184 : y159 = nu178 32 8 := ez169.trans (up_f hn178 (by decide)).symm
            have ez185 : t162 = nu178 32 12 := ez171.trans (up_f hn178 (by decide)).symm
            have ez186 : y173 = nu178 32 5 := ey173.trans (up_f hn178 (by decide)).symm
            have kp187 : (∀ k f : Nat, Nat.testBit 510 (gpX k f) = true → nu178 k f = mu k f) := kp_c 0 hn178 (fun _ => rfl) (by decide) kp170
            have ez188 : t177 = nu178 32 13 := up_v hn178
            refine lv_aload_n hx hb dX5_arrive_126 rfl (lv_at hl 1 rfl) ?_
            refine va_get (D := (dC, dI)) (ci := 5) (v := .ref (ad 56)) (C := RX5) (T := TX5) (N := 15) hx hb hts inG5 hown hK hP 32 (gX_32 cs ad nu178) rfl 4 (by decide) (hts _ (List.mem_cons_of_mem _ mw_2_51)) (fun _ h9 => h9) rfl dX5_arrive_127 ?_
            refine va_get (D := (dC, dI)) (ci := 0) (v := .int (nu178 56 3)) (C := RX0) (T := TX0) (N := 4) hx hb hts inG0 hown hK hP 56 (gX_56 cs ad nu178) rfl 3 (by decide) (hts _ (List.mem_cons_of_mem _ mw_2_35)) (fun _ h9 => h9) rfl dX5_arrive_130 ?_
            refine lv_topi (fun y189 ey189 => ?_)
            have hF := mi_let hF ey189
            have by189 : y189.toInt = (nu178 56 3).toInt := congrArg Int32.toInt ey189
            have gy189 : 0 ≤ y189.toInt ∧ y189.toInt ≤ 1 := by rw [ey189]; exact rX_56_3 ok
            refine lv_if_eq (tgt := 169) hx hb dX5_arrive_133 (by decide) (fun c_190 => ?_) (fun c_190 => ?_)
            · have hF := (if_pos c_190).symm.trans hF
              have c_190 : y189.toInt = 0 := il_eq c_190
              refine lv_aload_n hx hb dX5_arrive_169 rfl (lv_at hl 1 rfl) ?_
              refine va_get (D := (dC, dI)) (ci := 5) (v := .ref (ad 56)) (C := RX5) (T := TX5) (N := 15) hx hb hts inG5 hown hK hP 32 (gX_32 cs ad nu178) rfl 4 (by decide) (hts _ (List.mem_cons_of_mem _ mw_2_51)) (fun _ h9 => h9) rfl dX5_arrive_170 ?_
              refine lv_aload_n hx hb dX5_arrive_173 rfl (lv_at hl 1 rfl) ?_
              refine va_get (D := (dC, dI)) (ci := 5) (v := .ref (ad 54)) (C := RX5) (T := TX5) (N := 15) hx hb hts inG5 hown hK hP 32 (gX_32 cs ad nu178) rfl 2 (by decide) (hts _ (List.mem_cons_of_mem _ mw_2_48)) (fun _ h9 => h9) rfl dX5_arrive_174 ?_
              refine lv_iload_n hx hb dX5_arrive_177 rfl (lv_at hl 2 rfl) ?_
              refine lv_iload_n hx hb dX5_arrive_178 rfl (lv_at hl 4 rfl) ?_
              have hFc := fr_all (wR_D nu178 hD) hS hA
              refine va_callv (va_runV (As := [.ref (ad 54), .int vs, .int vp]) (rest := []) ⟨hx, hb, hml, hown, hts⟩ (sx_take56 l dC dI cs ad nu178 ok H hP ((wR_D nu178 hD).weaken (fun _ _ _ _ => trivial)) vs vp (by omega)) (cwV 3 hts (wU_V mw_4_43 mw_4_40 mw_4_41 mw_4_42 mw_1_9) rfl rfl rfl (by decide +kernel) ⟨Nat.le_of_ble_eq_true rfl, Nat.le_of_ble_eq_true rfl⟩) ⟨sz_c, va_recv hK hP (ci := 0) (q0 := 56) rfl (gX_56 cs ad nu178), sz_m hK hz⟩ rfl rfl hl.1 rfl (lv_room (Nat.le_of_ble_eq_true rfl)) dX5_arrive_179 ⟨Nat.zero_le _, Nat.zero_le _⟩) hS (fun q _ h => hFc q h) hFc (fun xi191 t H191 locs ht hvm hw191 hB hz1 hk1 hS => ?_)
              have hP : va_P (dC, dI) vwCl (wR 157 ad (EX cs ad) xi191) H191 := by rw [← ht]; exact hB
              obtain ⟨hfe191, ok, hw191, hkp191_0⟩ := hw191
              have hF := mi_let hF hfe191
              have kp192 : (∀ k f : Nat, Nat.testBit 510 (gpX k f) = true → xi191 k f = mu k f) := kp_t hkp191_0 (by decide) kp187
              exact W.vret hx hb hr (fun t ht hW => ⟨⟨xi191, rfl, ⟨hF.trans hfz.symm, ok, trivial, kp192⟩, by first | (subst ht; exact hP) | (rw [ht]; exact hP) | (show va_P (dC, dI) vwCl (wR 157 ad (EX cs ad) xi191) t.heap; rw [ht]; exact hP)⟩, hS.F ht⟩) hS.2.2 dX5_arrive_182
            · have hF := (if_neg c_190).symm.trans hF
              have c_190 : ¬ y189.toInt = 0 := il_ne c_190
              refine lv_iload_n hx hb dX5_arrive_136 rfl (lv_at hl 2 rfl) ?_
              refine lv_aload_n hx hb dX5_arrive_137 rfl (lv_at hl 1 rfl) ?_
              refine va_get (D := (dC, dI)) (ci := 5) (v := .ref (ad 56)) (C := RX5) (T := TX5) (N := 15) hx hb hts inG5 hown hK hP 32 (gX_32 cs ad nu178) rfl 4 (by decide) (hts _ (List.mem_cons_of_mem _ mw_2_51)) (fun _ h9 => h9) rfl dX5_arrive_138 ?_
              refine va_get (D := (dC, dI)) (ci := 0) (v := .int (nu178 56 1)) (C := RX0) (T := TX0) (N := 4) hx hb hts inG0 hown hK hP 56 (gX_56 cs ad nu178) rfl 1 (by decide) (hts _ (List.mem_cons_of_mem _ mw_2_29)) (fun _ h9 => h9) rfl dX5_arrive_141 ?_
              refine lv_topi (fun y193 ey193 => ?_)
              have hF := mi_let hF ey193
              have by193 : y193.toInt = (nu178 56 1).toInt := congrArg Int32.toInt ey193
              have gy193 : 0 ≤ y193.toInt ∧ y193.toInt ≤ 6 := by rw [ey193]; exact rX_56_1 ok
              refine lv_icmp_lt (tgt := 169) hx hb dX5_arrive_144 (by decide) (fun c_194 => ?_) (fun c_194 => ?_)
              · have hF := (if_pos c_194).symm.trans hF
                have c_194 : vs.toInt < y193.toInt := il_lt c_194
                refine lv_aload_n hx hb dX5_arrive_169 rfl (lv_at hl 1 rfl) ?_
                refine va_get (D := (dC, dI)) (ci := 5) (v := .ref (ad 56)) (C := RX5) (T := TX5) (N := 15) hx hb hts inG5 hown hK hP 32 (gX_32 cs ad nu178) rfl 4 (by decide) (hts _ (List.mem_cons_of_mem _ mw_2_51)) (fun _ h9 => h9) rfl dX5_arrive_170 ?_
                refine lv_aload_n hx hb dX5_arrive_173 rfl (lv_at hl 1 rfl) ?_
                refine va_get (D := (dC, dI)) (ci := 5) (v := .ref (ad 54)) (C := RX5) (T := TX5) (N := 15) hx hb hts inG5 hown hK hP 32 (gX_32 cs ad nu178) rfl 2 (by decide) (hts _ (List.mem_cons_of_mem _ mw_2_48)) (fun _ h9 => h9) rfl dX5_arrive_174 ?_
                refine lv_iload_n hx hb dX5_arrive_177 rfl (lv_at hl 2 rfl) ?_
                refine lv_iload_n hx hb dX5_arrive_178 rfl (lv_at hl 4 rfl) ?_
                have hFc := fr_all (wR_D nu178 hD) hS hA
                refine va_callv (va_runV (As := [.ref (ad 54), .int vs, .int vp]) (rest := []) ⟨hx, hb, hml, hown, hts⟩ (sx_take56 l dC dI cs ad nu178 ok H hP ((wR_D nu178 hD).weaken (fun _ _ _ _ => trivial)) vs vp (by omega)) (cwV 3 hts (wU_V mw_4_43 mw_4_40 mw_4_41 mw_4_42 mw_1_9) rfl rfl rfl (by decide +kernel) ⟨Nat.le_of_ble_eq_true rfl, Nat.le_of_ble_eq_true rfl⟩) ⟨sz_c, va_recv hK hP (ci := 0) (q0 := 56) rfl (gX_56 cs ad nu178), sz_m hK hz⟩ rfl rfl hl.1 rfl (lv_room (Nat.le_of_ble_eq_true rfl)) dX5_arrive_179 ⟨Nat.zero_le _, Nat.zero_le _⟩) hS (fun q _ h => hFc q h) hFc (fun xi195 t H195 locs ht hvm hw195 hB hz1 hk1 hS => ?_)
                have hP : va_P (dC, dI) vwCl (wR 157 ad (EX cs ad) xi195) H195 := by rw [← ht]; exact hB
                obtain ⟨hfe195, ok, hw195, hkp195_0⟩ := hw195
                have hF := mi_let hF hfe195
                have kp196 : (∀ k f : Nat, Nat.testBit 510 (gpX k f) = true → xi195 k f = mu k f) := kp_t hkp195_0 (by decide) kp187
                exact W.vret hx hb hr (fun t ht hW => ⟨⟨xi195, rfl, ⟨hF.trans hfz.symm, ok, trivial, kp196⟩, by first | (subst ht; exact hP) | (rw [ht]; exact hP) | (show va_P (dC, dI) vwCl (wR 157 ad (EX cs ad) xi195) t.heap; rw [ht]; exact hP)⟩, hS.F ht⟩) hS.2.2 dX5_arrive_182
              · have hF := (if_neg c_194).symm.trans hF
                have c_194 : y193.toInt ≤ vs.toInt := il_nlt c_194
                refine lv_iload_n hx hb dX5_arrive_147 rfl (lv_at hl 2 rfl) ?_
                refine lv_aload_n hx hb dX5_arrive_148 rfl (lv_at hl 1 rfl) ?_
                refine va_get (D := (dC, dI)) (ci := 5) (v := .ref (ad 56)) (C := RX5) (T := TX5) (N := 15) hx hb hts inG5 hown hK hP 32 (gX_32 cs ad nu178) rfl 4 (by decide) (hts _ (List.mem_cons_of_mem _ mw_2_51)) (fun _ h9 => h9) rfl dX5_arrive_149 ?_
                refine va_get (D := (dC, dI)) (ci := 0) (v := .int (nu178 56 1)) (C := RX0) (T := TX0) (N := 4) hx hb hts inG0 hown hK hP 56 (gX_56 cs ad nu178) rfl 1 (by decide) (hts _ (List.mem_cons_of_mem _ mw_2_29)) (fun _ h9 => h9) rfl dX5_arrive_152 ?_
                refine lq_i y193 ey193.symm ?_
                refine lv_icmp_ne (tgt := 182) hx hb dX5_arrive_155 (by decide) (fun c_197 => ?_) (fun c_197 => ?_)
                · have hF := (if_neg c_197).symm.trans hF
                  have c_197 : ¬ vs.toInt = y193.toInt := il_ne c_197
                  exact W.vret hx hb hr (fun t ht hW => ⟨⟨nu178, rfl, ⟨hF.trans hfz.symm, ok, trivial, kp187⟩, by first | (subst ht; exact hP) | (rw [ht]; exact hP) | (show va_P (dC, dI) vwCl (wR 157 ad (EX cs ad) nu178) t.heap; rw [ht]; exact hP)⟩, hS.F ht⟩) hS.2.2 dX5_arrive_182
                · have hF := (if_pos c_197).symm.trans hF
                  have c_197 : vs.toInt = y193.toInt := il_eq c_197
                  refine lv_iload_n hx hb dX5_arrive_158 rfl (lv_at hl 4 rfl) ?_
                  refine lv_aload_n hx hb dX5_arrive_159 rfl (lv_at hl 1 rfl) ?_
                  refine va_get (D := (dC, dI)) (ci := 5) (v := .ref (ad 56)) (C := RX5) (T := TX5) (N := 15) hx hb hts inG5 hown hK hP 32 (gX_32 cs ad nu178) rfl 4 (by decide) (hts _ (List.mem_cons_of_mem _ mw_2_51)) (fun _ h9 => h9) rfl dX5_arrive_160 ?_
                  refine va_get (D := (dC, dI)) (ci := 0) (v := .int (nu178 56 2)) (C := RX0) (T := TX0) (N := 4) hx hb hts inG0 hown hK hP 56 (gX_56 cs ad nu178) rfl 2 (by decide) (hts _ (List.mem_cons_of_mem _ mw_2_32)) (fun _ h9 => h9) rfl dX5_arrive_163 ?_
                  refine lv_topi (fun y198 ey198 => ?_)
                  have hF := mi_let hF ey198
                  have by198 : y198.toInt = (nu178 56 2).toInt := congrArg Int32.toInt ey198
                  refine lv_icmp_ge (tgt := 182) hx hb dX5_arrive_166 (by decide) (fun c_199 => ?_) (fun c_199 => ?_)
                  · have hF := (if_pos c_199).symm.trans hF
                    have c_199 : y198.toInt ≤ vp.toInt := il_le c_199
                    exact W.vret hx hb hr (fun t ht hW => ⟨⟨nu178, rfl, ⟨hF.trans hfz.symm, ok, trivial, kp187⟩, by first | (subst ht; exact hP) | (rw [ht]; exact hP) | (show va_P (dC, dI) vwCl (wR 157 ad (EX cs ad) nu178) t.heap; rw [ht]; exact hP)⟩, hS.F ht⟩) hS.2.2 dX5_arrive_182
                  · have hF := (if_neg c_199).symm.trans hF
                    have c_199 : vp.toInt < y198.toInt := il_nle c_199
                    refine lv_aload_n hx hb dX5_arrive_169 rfl (lv_at hl 1 rfl) ?_
                    refine va_get (D := (dC, dI)) (ci := 5) (v := .ref (ad 56)) (C := RX5) (T := TX5) (N := 15) hx hb hts inG5 hown hK hP 32 (gX_32 cs ad nu178) rfl 4 (by decide) (hts _ (List.mem_cons_of_mem _ mw_2_51)) (fun _ h9 => h9) rfl dX5_arrive_170 ?_
                    refine lv_aload_n hx hb dX5_arrive_173 rfl (lv_at hl 1 rfl) ?_
                    refine va_get (D := (dC, dI)) (ci := 5) (v := .ref (ad 54)) (C := RX5) (T := TX5) (N := 15) hx hb hts inG5 hown hK hP 32 (gX_32 cs ad nu178) rfl 2 (by decide) (hts _ (List.mem_cons_of_mem _ mw_2_48)) (fun _ h9 => h9) rfl dX5_arrive_174 ?_
                    refine lv_iload_n hx hb dX5_arrive_177 rfl (lv_at hl 2 rfl) ?_
                    refine lv_iload_n hx hb dX5_arrive_178 rfl (lv_at hl 4 rfl) ?_
                    have hFc := fr_all (wR_D nu178 hD) hS hA
                    refine va_callv (va_runV (As := [.ref (ad 54), .int vs, .int vp]) (rest := []) ⟨hx, hb, hml, hown, hts⟩ (sx_take56 l dC dI cs ad nu178 ok H hP ((wR_D nu178 hD).weaken (fun _ _ _ _ => trivial)) vs vp (by omega)) (cwV 3 hts (wU_V mw_4_43 mw_4_40 mw_4_41 mw_4_42 mw_1_9) rfl rfl rfl (by decide +kernel) ⟨Nat.le_of_ble_eq_true rfl, Nat.le_of_ble_eq_true rfl⟩) ⟨sz_c, va_recv hK hP (ci := 0) (q0 := 56) rfl (gX_56 cs ad nu178), sz_m hK hz⟩ rfl rfl hl.1 rfl (lv_room (Nat.le_of_ble_eq_true rfl)) dX5_arrive_179 ⟨Nat.zero_le _, Nat.zero_le _⟩) hS (fun q _ h => hFc q h) hFc (fun xi200 t H200 locs ht hvm hw200 hB hz1 hk1 hS => ?_)
                    have hP : va_P (dC, dI) vwCl (wR 157 ad (EX cs ad) xi200) H200 := by rw [← ht]; exact hB
                    obtain ⟨hfe200, ok, hw200, hkp200_0⟩ := hw200
                    have hF := mi_let hF hfe200
                    have kp201 : (∀ k f : Nat, Nat.testBit 510 (gpX k f) = true → xi200 k f = mu k f) := kp_t hkp200_0 (by decide) kp187
                    exact W.vret hx hb hr (fun t ht hW => ⟨⟨xi200, rfl, ⟨hF.trans hfz.symm, ok, trivial, kp201⟩, by first | (subst ht; exact hP) | (rw [ht]; exact hP) | (show va_P (dC, dI) vwCl (wR 157 ad (EX cs ad) xi200) t.heap; rw [ht]; exact hP)⟩, hS.F ht⟩) hS.2.2 dX5_arrive_182
          · have hF := (if_neg c_160).symm.trans hF
            have c_160 : y159.toInt < r149.toInt := il_nle c_160
            exact W.vret hx hb hr (fun t ht hW => ⟨⟨nu152, rfl, ⟨hF.trans hfz.symm, ok, trivial, kp157⟩, by first | (subst ht; exact hP) | (rw [ht]; exact hP) | (show va_P (dC, dI) vwCl (wR 157 ad (EX cs ad) nu152) t.heap; rw [ht]; exact hP)⟩, hS.F ht⟩) hS.2.2 dX5_arrive_96
        · have hF := (if_neg c_148).symm.trans hF
          have c_148 : vs.toInt < y147.toInt := il_nle c_148
          refine lv_aload_n hx hb dX5_arrive_53 rfl (lv_at hl 0 rfl) ?_
          refine va_get (D := (dC, dI)) (ci := 5) (v := .ref (ad 55)) (C := RX5) (T := TX5) (N := 15) hx hb hts inG5 hown hK hP 32 (gX_32 cs ad nu3) rfl 3 (by decide) (hts _ (List.mem_cons_of_mem _ mw_2_49)) (fun _ h9 => h9) rfl dX5_arrive_54 ?_
          refine lv_aload_n hx hb dX5_arrive_57 rfl (lv_at hl 0 rfl) ?_
          refine va_get (D := (dC, dI)) (ci := 5) (v := .ref (ad 54)) (C := RX5) (T := TX5) (N := 15) hx hb hts inG5 hown hK hP 32 (gX_32 cs ad nu3) rfl 2 (by decide) (hts _ (List.mem_cons_of_mem _ mw_2_48)) (fun _ h9 => h9) rfl dX5_arrive_58 ?_
          refine lv_iload_n hx hb dX5_arrive_61 rfl (lv_at hl 1 rfl) ?_
          refine lv_iload_n hx hb dX5_arrive_62 rfl (lv_at hl 3 rfl) ?_
          have hFc := fr_all (wR_D nu3 hD) hS hA
          refine va_callv (va_runV (As := [.ref (ad 54), .int vs, .int vp]) (rest := []) ⟨hx, hb, hml, hown, hts⟩ (sx_take55 l dC dI cs ad nu3 ok H hP ((wR_D nu3 hD).weaken (fun _ _ _ _ => trivial)) vs vp (by omega)) (cwV 3 hts (wU_V mw_4_43 mw_4_40 mw_4_41 mw_4_42 mw_1_9) rfl rfl rfl (by decide +kernel) ⟨Nat.le_of_ble_eq_true rfl, Nat.le_of_ble_eq_true rfl⟩) ⟨sz_c, va_recv hK hP (ci := 0) (q0 := 55) rfl (gX_55 cs ad nu3), sz_m hK hz⟩ rfl rfl hl.1 rfl (lv_room (Nat.le_of_ble_eq_true rfl)) dX5_arrive_63 ⟨Nat.zero_le _, Nat.zero_le _⟩) hS (fun q _ h => hFc q h) hFc (fun xi202 t H202 locs ht hvm hw202 hB hz1 hk1 hS => ?_)
          have hP : va_P (dC, dI) vwCl (wR 157 ad (EX cs ad) xi202) H202 := by rw [← ht]; exact hB
          obtain ⟨hfe202, ok, hw202, hkp202_0⟩ := hw202
          have hF := mi_let hF hfe202
          have kp203 : (∀ k f : Nat, Nat.testBit 510 (gpX k f) = true → xi202 k f = mu k f) := kp_t hkp202_0 (by decide) kp4
          refine lv_aload_n hx hb dX5_arrive_66 rfl (lv_at hl 0 rfl) ?_
          refine lv_iload_n hx hb dX5_arrive_67 rfl (lv_at hl 1 rfl) ?_
          refine lv_iload_n hx hb dX5_arrive_68 rfl (lv_at hl 3 rfl) ?_
          refine cr_i (va_runV (As := [.int vs, .int vp]) (rest := []) ⟨hx, hb, hml, hown, hts⟩ (sx_needFor l dC dI cs ad xi202 ok H202 hP vs vp) (cwV 2 hts (wU_V mw_4_48 mw_4_45 mw_4_47 mw_0_16 mw_1_8) rfl rfl rfl (by decide +kernel) ⟨Nat.le_of_ble_eq_true rfl, Nat.le_of_ble_eq_true rfl⟩) ⟨sz_c, va_recv hK hP (ci := 5) (q0 := 32) rfl (gX_32 cs ad xi202), sz_m hK hz⟩ rfl rfl hl.1 rfl (lv_room (Nat.le_of_ble_eq_true rfl)) dX5_arrive_69 ⟨Nat.zero_le _, Nat.zero_le _⟩) hS (fun r204 hw204 locs hS => ?_)
          obtain ⟨hfe204, hw204⟩ := hw204
          have hF := mi_let hF hfe204
          refine lv_istore (lv' := [(4, .int r204), (0, .ref (ad 32)), (1, .int vs), (2, .int vu), (3, .int vp)]) hx hb dX5_arrive_72 hl (by decide) rfl (fun ls hl => ?_)
          refine lv_aload_n hx hb dX5_arrive_74 rfl (lv_at hl 1 rfl) ?_
          refine lv_aload_n hx hb dX5_arrive_75 rfl (lv_at hl 1 rfl) ?_
          refine va_get (D := (dC, dI)) (ci := 5) (v := .int (xi202 32 14)) (C := RX5) (T := TX5) (N := 15) hx hb hts inG5 hown hK hP 32 (gX_32 cs ad xi202) rfl 14 (by decide) (hts _ (List.mem_cons_of_mem _ mw_2_65)) (fun _ h9 => h9) rfl dX5_arrive_76 ?_
          refine lv_topi (fun y205 ey205 => ?_)
          have hF := mi_let hF ey205
          have by205 : y205.toInt = (xi202 32 14).toInt := congrArg Int32.toInt ey205
          refine lv_iload hx hb dX5_arrive_79 (lv_at hl 0 rfl) ?_
          refine va_mmin hx hb (hml.trans hl.1.symm) hown (hts _ (List.mem_cons_of_mem _ mw_4_49)) (hts _ (List.mem_cons_of_mem _ mw_4_50)) (hts _ (List.mem_cons_of_mem _ mw_1_17)) (hts _ (List.mem_cons_of_mem _ mw_4_51)) (Nat.le_of_ble_eq_true rfl) (Nat.le_of_ble_eq_true rfl) (Nat.zero_le _) (Nat.zero_le _) dX5_arrive_81 ?_
          refine lv_topi (fun t206 et206 => ?_)
          have hF := mi_let hF et206
          refine va_put (D := (dC, dI)) (ci := 5) (v := .int t206) (ty := .int) (C := RX5) (T := TX5) (N := 15) hx hb hts inG5 tyX5 tyX5_ok nmX5 hown hK hP (wR_D xi202 hD) hS 32 (gX_32 cs ad xi202) rfl 14 (by decide) (hts _ (List.mem_cons_of_mem _ mw_2_65)) (fun _ h9 => h9) rfl (by decide +kernel) rfl rfl (Nat.le_of_ble_eq_true rfl) dX5_arrive_84 (fun H locs hP _ hS => ?_)
          simp only [List.set_cons_succ, List.set_cons_zero] at hP
          refine wr_gen (upd (xi202 32) 14 t206) hP ((hX_32_14 cs ad _ _)) (fun nu207 hn207 hP => ?_)
          have hF := mi_let hF hn207.symm
          have ok := tX_32_14 ok hn207
          have kp208 : (∀ k f : Nat, Nat.testBit 510 (gpX k f) = true → nu207 k f = mu k f) := kp_c 0 hn207 (fun _ => rfl) (by decide) kp203
          have ez209 : t206 = nu207 32 14 := up_v hn207
          refine lv_iload hx hb dX5_arrive_87 (lv_at hl 0 rfl) ?_
          refine lv_aload_n hx hb dX5_arrive_89 rfl (lv_at hl 1 rfl) ?_
          refine va_get (D := (dC, dI)) (ci := 5) (v := .int (nu207 32 8)) (C := RX5) (T := TX5) (N := 15) hx hb hts inG5 hown hK hP 32 (gX_32 cs ad nu207) rfl 8 (by decide) (hts _ (List.mem_cons_of_mem _ mw_2_56)) (fun _ h9 => h9) rfl dX5_arrive_90 ?_
          refine lv_topi (fun y210 ey210 => ?_)
          have hF := mi_let hF ey210
          have by210 : y210.toInt = (nu207 32 8).toInt := congrArg Int32.toInt ey210
          refine lv_icmp_le (tgt := 97) hx hb dX5_arrive_93 (by decide) (fun c_211 => ?_) (fun c_211 => ?_)
          · have hF := (if_pos c_211).symm.trans hF
            have c_211 : r204.toInt ≤ y210.toInt := il_le c_211
            refine lv_aload_n hx hb dX5_arrive_97 rfl (lv_at hl 1 rfl) ?_
            refine lv_dup hx hb dX5_arrive_98 rfl ?_
            refine va_get (D := (dC, dI)) (ci := 5) (v := .int (nu207 32 12)) (C := RX5) (T := TX5) (N := 15) hx hb hts inG5 hown hK hP 32 (gX_32 cs ad nu207) rfl 12 (by decide) (hts _ (List.mem_cons_of_mem _ mw_2_61)) (fun _ h9 => h9) rfl dX5_arrive_99 ?_
            refine lv_topi (fun y212 ey212 => ?_)
            have hF := mi_let hF ey212
            have by212 : y212.toInt = (nu207 32 12).toInt := congrArg Int32.toInt ey212
            refine lv_iconst (v := 1) hx hb dX5_arrive_102 (by decide) ?_
            refine lv_iadd hx hb dX5_arrive_103 ?_
            refine lv_topi (fun t213 et213 => ?_)
            have hF := mi_let hF et213
            refine va_put (D := (dC, dI)) (ci := 5) (v := .int t213) (ty := .int) (C := RX5) (T := TX5) (N := 15) hx hb hts inG5 tyX5 tyX5_ok nmX5 hown hK hP (wR_D nu207 hD) hS 32 (gX_32 cs ad nu207) rfl 12 (by decide) (hts _ (List.mem_cons_of_mem _ mw_2_61)) (fun _ h9 => h9) rfl (by decide +kernel) rfl rfl (Nat.le_of_ble_eq_true rfl) dX5_arrive_104 (fun H locs hP _ hS => ?_)
            simp only [List.set_cons_succ, List.set_cons_zero] at hP
            refine wr_gen (upd (nu207 32) 12 t213) hP ((hX_32_12 cs ad _ _)) (fun nu214 hn214 hP => ?_)
            have hF := mi_let hF hn214.symm
            have ok := tX_32_12 ok hn214
            have ez215 : t206 = nu214 32 14 := ez209.trans (up_f hn214 (by decide)).symm
            have ez216 : y210 = nu214 32 8 := ey210.trans (up_f hn214 (by decide)).symm
            have kp217 : (∀ k f : Nat, Nat.testBit 510 (gpX k f) = true → nu214 k f = mu k f) := kp_c 0 hn214 (fun _ => rfl) (by decide) kp208
            have ez218 : t213 = nu214 32 12 := up_v hn214
            refine lv_aload_n hx hb dX5_arrive_107 rfl (lv_at hl 1 rfl) ?_
            refine lv_dup hx hb dX5_arrive_108 rfl ?_
            refine va_get (D := (dC, dI)) (ci := 5) (v := .int (nu214 32 13)) (C := RX5) (T := TX5) (N := 15) hx hb hts inG5 hown hK hP 32 (gX_32 cs ad nu214) rfl 13 (by decide) (hts _ (List.mem_cons_of_mem _ mw_2_63)) (fun _ h9 => h9) rfl dX5_arrive_109 ?_
            refine lv_topi (fun y219 ey219 => ?_)
            have hF := mi_let hF ey219
            have by219 : y219.toInt = (nu214 32 13).toInt := congrArg Int32.toInt ey219
            refine lv_iload_n hx hb dX5_arrive_112 rfl (lv_at hl 3 rfl) ?_
            refine lv_iconst (v := 1) hx hb dX5_arrive_113 (by decide) ?_
            refine lv_aload_n hx hb dX5_arrive_114 rfl (lv_at hl 1 rfl) ?_
            refine va_get (D := (dC, dI)) (ci := 5) (v := .int (nu214 32 5)) (C := RX5) (T := TX5) (N := 15) hx hb hts inG5 hown hK hP 32 (gX_32 cs ad nu214) rfl 5 (by decide) (hts _ (List.mem_cons_of_mem _ mw_2_53)) (fun _ h9 => h9) rfl dX5_arrive_115 ?_
            refine lv_topi (fun y220 ey220 => ?_)
            have hF := mi_let hF ey220
            have by220 : y220.toInt = (nu214 32 5).toInt := congrArg Int32.toInt ey220
            have gy220 : 0 ≤ y220.toInt ∧ y220.toInt ≤ 6 := by rw [ey220]; exact rX_32_5 ok
            refine lv_ishl hx hb dX5_arrive_118 ?_
            refine lv_topi (fun t221 et221 => ?_)
            have hF := mi_let hF et221
            refine lv_iconst (v := (-1)) hx hb dX5_arrive_119 (by decide) ?_
            refine lv_ixor hx hb dX5_arrive_120 ?_
            refine lv_topi (fun t222 et222 => ?_)
            have hF := mi_let hF et222
            refine lv_iand hx hb dX5_arrive_121 ?_
            refine lv_topi (fun t223 et223 => ?_)
            have hF := mi_let hF et223
            refine lv_iand hx hb dX5_arrive_122 ?_
            refine lv_topi (fun t224 et224 => ?_)
            have hF := mi_let hF et224
            refine va_put (D := (dC, dI)) (ci := 5) (v := .int t224) (ty := .int) (C := RX5) (T := TX5) (N := 15) hx hb hts inG5 tyX5 tyX5_ok nmX5 hown hK hP (wR_D nu214 hD) hS 32 (gX_32 cs ad nu214) rfl 13 (by decide) (hts _ (List.mem_cons_of_mem _ mw_2_63)) (fun _ h9 => h9) rfl (by decide +kernel) rfl rfl (Nat.le_of_ble_eq_true rfl) dX5_arrive_123 (fun H locs hP _ hS => ?_)
            simp only [List.set_cons_succ, List.set_cons_zero] at hP
            refine wr_gen (upd (nu214 32) 13 t224) hP ((hX_32_13 cs ad _ _)) (fun nu225 hn225 hP => ?_)
            have hF := mi_let hF hn225.symm
            have ok := tX_32_13 ok hn225
            have ez226 : t206 = nu225 32 14 := ez215.trans (up_f hn225 (by decide)).symm
            have ez227 : y210 = nu225 32 8 := ez216.trans (up_f hn225 (by decide)).symm
            have ez228 : t213 = nu225 32 12 := ez218.trans (up_f hn225 (by decide)).symm
            have ez229 : y220 = nu225 32 5 := ey220.trans (up_f hn225 (by decide)).symm
            have kp230 : (∀ k f : Nat, Nat.testBit 510 (gpX k f) = true → nu225 k f = mu k f) := kp_c 0 hn225 (fun _ => rfl) (by decide) kp217
            have ez231 : t224 = nu225 32 13 := up_v hn225
            refine lv_aload_n hx hb dX5_arrive_126 rfl (lv_at hl 1 rfl) ?_
            refine va_get (D := (dC, dI)) (ci := 5) (v := .ref (ad 56)) (C := RX5) (T := TX5) (N := 15) hx hb hts inG5 hown hK hP 32 (gX_32 cs ad nu225) rfl 4 (by decide) (hts _ (List.mem_cons_of_mem _ mw_2_51)) (fun _ h9 => h9) rfl dX5_arrive_127 ?_
            refine va_get (D := (dC, dI)) (ci := 0) (v := .int (nu225 56 3)) (C := RX0) (T := TX0) (N := 4) hx hb hts inG0 hown hK hP 56 (gX_56 cs ad nu225) rfl 3 (by decide) (hts _ (List.mem_cons_of_mem _ mw_2_35)) (fun _ h9 => h9) rfl dX5_arrive_130 ?_
            refine lv_topi (fun y232 ey232 => ?_)
            have hF := mi_let hF ey232
            have by232 : y232.toInt = (nu225 56 3).toInt := congrArg Int32.toInt ey232
            have gy232 : 0 ≤ y232.toInt ∧ y232.toInt ≤ 1 := by rw [ey232]; exact rX_56_3 ok
            refine lv_if_eq (tgt := 169) hx hb dX5_arrive_133 (by decide) (fun c_233 => ?_) (fun c_233 => ?_)
            · have hF := (if_pos c_233).symm.trans hF
              have c_233 : y232.toInt = 0 := il_eq c_233
              refine lv_aload_n hx hb dX5_arrive_169 rfl (lv_at hl 1 rfl) ?_
              refine va_get (D := (dC, dI)) (ci := 5) (v := .ref (ad 56)) (C := RX5) (T := TX5) (N := 15) hx hb hts inG5 hown hK hP 32 (gX_32 cs ad nu225) rfl 4 (by decide) (hts _ (List.mem_cons_of_mem _ mw_2_51)) (fun _ h9 => h9) rfl dX5_arrive_170 ?_
              refine lv_aload_n hx hb dX5_arrive_173 rfl (lv_at hl 1 rfl) ?_
              refine va_get (D := (dC, dI)) (ci := 5) (v := .ref (ad 54)) (C := RX5) (T := TX5) (N := 15) hx hb hts inG5 hown hK hP 32 (gX_32 cs ad nu225) rfl 2 (by decide) (hts _ (List.mem_cons_of_mem _ mw_2_48)) (fun _ h9 => h9) rfl dX5_arrive_174 ?_
              refine lv_iload_n hx hb dX5_arrive_177 rfl (lv_at hl 2 rfl) ?_
              refine lv_iload_n hx hb dX5_arrive_178 rfl (lv_at hl 4 rfl) ?_
              have hFc := fr_all (wR_D nu225 hD) hS hA
              refine va_callv (va_runV (As := [.ref (ad 54), .int vs, .int vp]) (rest := []) ⟨hx, hb, hml, hown, hts⟩ (sx_take56 l dC dI cs ad nu225 ok H hP ((wR_D nu225 hD).weaken (fun _ _ _ _ => trivial)) vs vp (by omega)) (cwV 3 hts (wU_V mw_4_43 mw_4_40 mw_4_41 mw_4_42 mw_1_9) rfl rfl rfl (by decide +kernel) ⟨Nat.le_of_ble_eq_true rfl, Nat.le_of_ble_eq_true rfl⟩) ⟨sz_c, va_recv hK hP (ci := 0) (q0 := 56) rfl (gX_56 cs ad nu225), sz_m hK hz⟩ rfl rfl hl.1 rfl (lv_room (Nat.le_of_ble_eq_true rfl)) dX5_arrive_179 ⟨Nat.zero_le _, Nat.zero_le _⟩) hS (fun q _ h => hFc q h) hFc (fun xi234 t H234 locs ht hvm hw234 hB hz1 hk1 hS => ?_)
              have hP : va_P (dC, dI) vwCl (wR 157 ad (EX cs ad) xi234) H234 := by rw [← ht]; exact hB
              obtain ⟨hfe234, ok, hw234, hkp234_0⟩ := hw234
              have hF := mi_let hF hfe234
              have kp235 : (∀ k f : Nat, Nat.testBit 510 (gpX k f) = true → xi234 k f = mu k f) := kp_t hkp234_0 (by decide) kp230
              exact W.vret hx hb hr (fun t ht hW => ⟨⟨xi234, rfl, ⟨hF.trans hfz.symm, ok, trivial, kp235⟩, by first | (subst ht; exact hP) | (rw [ht]; exact hP) | (show va_P (dC, dI) vwCl (wR 157 ad (EX cs ad) xi234) t.heap; rw [ht]; exact hP)⟩, hS.F ht⟩) hS.2.2 dX5_arrive_182
            · have hF := (if_neg c_233).symm.trans hF
              have c_233 : ¬ y232.toInt = 0 := il_ne c_233
              refine lv_iload_n hx hb dX5_arrive_136 rfl (lv_at hl 2 rfl) ?_
              refine lv_aload_n hx hb dX5_arrive_137 rfl (lv_at hl 1 rfl) ?_
              refine va_get (D := (dC, dI)) (ci := 5) (v := .ref (ad 56)) (C := RX5) (T := TX5) (N := 15) hx hb hts inG5 hown hK hP 32 (gX_32 cs ad nu225) rfl 4 (by decide) (hts _ (List.mem_cons_of_mem _ mw_2_51)) (fun _ h9 => h9) rfl dX5_arrive_138 ?_
              refine va_get (D := (dC, dI)) (ci := 0) (v := .int (nu225 56 1)) (C := RX0) (T := TX0) (N := 4) hx hb hts inG0 hown hK hP 56 (gX_56 cs ad nu225) rfl 1 (by decide) (hts _ (List.mem_cons_of_mem _ mw_2_29)) (fun _ h9 => h9) rfl dX5_arrive_141 ?_
              refine lv_topi (fun y236 ey236 => ?_)
              have hF := mi_let hF ey236
              have by236 : y236.toInt = (nu225 56 1).toInt := congrArg Int32.toInt ey236
              have gy236 : 0 ≤ y236.toInt ∧ y236.toInt ≤ 6 := by rw [ey236]; exact rX_56_1 ok
              refine lv_icmp_lt (tgt := 169) hx hb dX5_arrive_144 (by decide) (fun c_237 => ?_) (fun c_237 => ?_)
              · have hF := (if_pos c_237).symm.trans hF
                have c_237 : vs.toInt < y236.toInt := il_lt c_237
                refine lv_aload_n hx hb dX5_arrive_169 rfl (lv_at hl 1 rfl) ?_
                refine va_get (D := (dC, dI)) (ci := 5) (v := .ref (ad 56)) (C := RX5) (T := TX5) (N := 15) hx hb hts inG5 hown hK hP 32 (gX_32 cs ad nu225) rfl 4 (by decide) (hts _ (List.mem_cons_of_mem _ mw_2_51)) (fun _ h9 => h9) rfl dX5_arrive_170 ?_
                refine lv_aload_n hx hb dX5_arrive_173 rfl (lv_at hl 1 rfl) ?_
                refine va_get (D := (dC, dI)) (ci := 5) (v := .ref (ad 54)) (C := RX5) (T := TX5) (N := 15) hx hb hts inG5 hown hK hP 32 (gX_32 cs ad nu225) rfl 2 (by decide) (hts _ (List.mem_cons_of_mem _ mw_2_48)) (fun _ h9 => h9) rfl dX5_arrive_174 ?_
                refine lv_iload_n hx hb dX5_arrive_177 rfl (lv_at hl 2 rfl) ?_
                refine lv_iload_n hx hb dX5_arrive_178 rfl (lv_at hl 4 rfl) ?_
                have hFc := fr_all (wR_D nu225 hD) hS hA
                refine va_callv (va_runV (As := [.ref (ad 54), .int vs, .int vp]) (rest := []) ⟨hx, hb, hml, hown, hts⟩ (sx_take56 l dC dI cs ad nu225 ok H hP ((wR_D nu225 hD).weaken (fun _ _ _ _ => trivial)) vs vp (by omega)) (cwV 3 hts (wU_V mw_4_43 mw_4_40 mw_4_41 mw_4_42 mw_1_9) rfl rfl rfl (by decide +kernel) ⟨Nat.le_of_ble_eq_true rfl, Nat.le_of_ble_eq_true rfl⟩) ⟨sz_c, va_recv hK hP (ci := 0) (q0 := 56) rfl (gX_56 cs ad nu225), sz_m hK hz⟩ rfl rfl hl.1 rfl (lv_room (Nat.le_of_ble_eq_true rfl)) dX5_arrive_179 ⟨Nat.zero_le _, Nat.zero_le _⟩) hS (fun q _ h => hFc q h) hFc (fun xi238 t H238 locs ht hvm hw238 hB hz1 hk1 hS => ?_)
                have hP : va_P (dC, dI) vwCl (wR 157 ad (EX cs ad) xi238) H238 := by rw [← ht]; exact hB
                obtain ⟨hfe238, ok, hw238, hkp238_0⟩ := hw238
                have hF := mi_let hF hfe238
                have kp239 : (∀ k f : Nat, Nat.testBit 510 (gpX k f) = true → xi238 k f = mu k f) := kp_t hkp238_0 (by decide) kp230
                exact W.vret hx hb hr (fun t ht hW => ⟨⟨xi238, rfl, ⟨hF.trans hfz.symm, ok, trivial, kp239⟩, by first | (subst ht; exact hP) | (rw [ht]; exact hP) | (show va_P (dC, dI) vwCl (wR 157 ad (EX cs ad) xi238) t.heap; rw [ht]; exact hP)⟩, hS.F ht⟩) hS.2.2 dX5_arrive_182
              · have hF := (if_neg c_237).symm.trans hF
                have c_237 : y236.toInt ≤ vs.toInt := il_nlt c_237
                refine lv_iload_n hx hb dX5_arrive_147 rfl (lv_at hl 2 rfl) ?_
                refine lv_aload_n hx hb dX5_arrive_148 rfl (lv_at hl 1 rfl) ?_
                refine va_get (D := (dC, dI)) (ci := 5) (v := .ref (ad 56)) (C := RX5) (T := TX5) (N := 15) hx hb hts inG5 hown hK hP 32 (gX_32 cs ad nu225) rfl 4 (by decide) (hts _ (List.mem_cons_of_mem _ mw_2_51)) (fun _ h9 => h9) rfl dX5_arrive_149 ?_
                refine va_get (D := (dC, dI)) (ci := 0) (v := .int (nu225 56 1)) (C := RX0) (T := TX0) (N := 4) hx hb hts inG0 hown hK hP 56 (gX_56 cs ad nu225) rfl 1 (by decide) (hts _ (List.mem_cons_of_mem _ mw_2_29)) (fun _ h9 => h9) rfl dX5_arrive_152 ?_
                refine lq_i y236 ey236.symm ?_
                refine lv_icmp_ne (tgt := 182) hx hb dX5_arrive_155 (by decide) (fun c_240 => ?_) (fun c_240 => ?_)
                · have hF := (if_neg c_240).symm.trans hF
                  have c_240 : ¬ vs.toInt = y236.toInt := il_ne c_240
                  exact W.vret hx hb hr (fun t ht hW => ⟨⟨nu225, rfl, ⟨hF.trans hfz.symm, ok, trivial, kp230⟩, by first | (subst ht; exact hP) | (rw [ht]; exact hP) | (show va_P (dC, dI) vwCl (wR 157 ad (EX cs ad) nu225) t.heap; rw [ht]; exact hP)⟩, hS.F ht⟩) hS.2.2 dX5_arrive_182
                · have hF := (if_pos c_240).symm.trans hF
                  have c_240 : vs.toInt = y236.toInt := il_eq c_240
                  refine lv_iload_n hx hb dX5_arrive_158 rfl (lv_at hl 4 rfl) ?_
                  refine lv_aload_n hx hb dX5_arrive_159 rfl (lv_at hl 1 rfl) ?_
                  refine va_get (D := (dC, dI)) (ci := 5) (v := .ref (ad 56)) (C := RX5) (T := TX5) (N := 15) hx hb hts inG5 hown hK hP 32 (gX_32 cs ad nu225) rfl 4 (by decide) (hts _ (List.mem_cons_of_mem _ mw_2_51)) (fun _ h9 => h9) rfl dX5_arrive_160 ?_
                  refine va_get (D := (dC, dI)) (ci := 0) (v := .int (nu225 56 2)) (C := RX0) (T := TX0) (N := 4) hx hb hts inG0 hown hK hP 56 (gX_56 cs ad nu225) rfl 2 (by decide) (hts _ (List.mem_cons_of_mem _ mw_2_32)) (fun _ h9 => h9) rfl dX5_arrive_163 ?_
                  refine lv_topi (fun y241 ey241 => ?_)
                  have hF := mi_let hF ey241
                  have by241 : y241.toInt = (nu225 56 2).toInt := congrArg Int32.toInt ey241
                  refine lv_icmp_ge (tgt := 182) hx hb dX5_arrive_166 (by decide) (fun c_242 => ?_) (fun c_242 => ?_)
                  · have hF := (if_pos c_242).symm.trans hF
                    have c_242 : y241.toInt ≤ vp.toInt := il_le c_242
                    exact W.vret hx hb hr (fun t ht hW => ⟨⟨nu225, rfl, ⟨hF.trans hfz.symm, ok, trivial, kp230⟩, by first | (subst ht; exact hP) | (rw [ht]; exact hP) | (show va_P (dC, dI) vwCl (wR 157 ad (EX cs ad) nu225) t.heap; rw [ht]; exact hP)⟩, hS.F ht⟩) hS.2.2 dX5_arrive_182
                  · have hF := (if_neg c_242).symm.trans hF
                    have c_242 : vp.toInt < y241.toInt := il_nle c_242
                    refine lv_aload_n hx hb dX5_arrive_169 rfl (lv_at hl 1 rfl) ?_
                    refine va_get (D := (dC, dI)) (ci := 5) (v := .ref (ad 56)) (C := RX5) (T := TX5) (N := 15) hx hb hts inG5 hown hK hP 32 (gX_32 cs ad nu225) rfl 4 (by decide) (hts _ (List.mem_cons_of_mem _ mw_2_51)) (fun _ h9 => h9) rfl dX5_arrive_170 ?_
                    refine lv_aload_n hx hb dX5_arrive_173 rfl (lv_at hl 1 rfl) ?_
                    refine va_get (D := (dC, dI)) (ci := 5) (v := .ref (ad 54)) (C := RX5) (T := TX5) (N := 15) hx hb hts inG5 hown hK hP 32 (gX_32 cs ad nu225) rfl 2 (by decide) (hts _ (List.mem_cons_of_mem _ mw_2_48)) (fun _ h9 => h9) rfl dX5_arrive_174 ?_
                    refine lv_iload_n hx hb dX5_arrive_177 rfl (lv_at hl 2 rfl) ?_
                    refine lv_iload_n hx hb dX5_arrive_178 rfl (lv_at hl 4 rfl) ?_
                    have hFc := fr_all (wR_D nu225 hD) hS hA
                    refine va_callv (va_runV (As := [.ref (ad 54), .int vs, .int vp]) (rest := []) ⟨hx, hb, hml, hown, hts⟩ (sx_take56 l dC dI cs ad nu225 ok H hP ((wR_D nu225 hD).weaken (fun _ _ _ _ => trivial)) vs vp (by omega)) (cwV 3 hts (wU_V mw_4_43 mw_4_40 mw_4_41 mw_4_42 mw_1_9) rfl rfl rfl (by decide +kernel) ⟨Nat.le_of_ble_eq_true rfl, Nat.le_of_ble_eq_true rfl⟩) ⟨sz_c, va_recv hK hP (ci := 0) (q0 := 56) rfl (gX_56 cs ad nu225), sz_m hK hz⟩ rfl rfl hl.1 rfl (lv_room (Nat.le_of_ble_eq_true rfl)) dX5_arrive_179 ⟨Nat.zero_le _, Nat.zero_le _⟩) hS (fun q _ h => hFc q h) hFc (fun xi243 t H243 locs ht hvm hw243 hB hz1 hk1 hS => ?_)
                    have hP : va_P (dC, dI) vwCl (wR 157 ad (EX cs ad) xi243) H243 := by rw [← ht]; exact hB
                    obtain ⟨hfe243, ok, hw243, hkp243_0⟩ := hw243
                    have hF := mi_let hF hfe243
                    have kp244 : (∀ k f : Nat, Nat.testBit 510 (gpX k f) = true → xi243 k f = mu k f) := kp_t hkp243_0 (by decide) kp230
                    exact W.vret hx hb hr (fun t ht hW => ⟨⟨xi243, rfl, ⟨hF.trans hfz.symm, ok, trivial, kp244⟩, by first | (subst ht; exact hP) | (rw [ht]; exact hP) | (show va_P (dC, dI) vwCl (wR 157 ad (EX cs ad) xi243) t.heap; rw [ht]; exact hP)⟩, hS.F ht⟩) hS.2.2 dX5_arrive_182
          · have hF := (if_neg c_211).symm.trans hF
            have c_211 : y210.toInt < r204.toInt := il_nle c_211
            exact W.vret hx hb hr (fun t ht hW => ⟨⟨nu207, rfl, ⟨hF.trans hfz.symm, ok, trivial, kp208⟩, by first | (subst ht; exact hP) | (rw [ht]; exact hP) | (show va_P (dC, dI) vwCl (wR 157 ad (EX cs ad) nu207) t.heap; rw [ht]; exact hP)⟩, hS.F ht⟩) hS.2.2 dX5_arrive_96
set_option maxHeartbeats 4000000 in
set_option maxRecDepth 100000 in
/-- sx_walkOn6 -/
theorem sx_walkOn6 (l : Launch) (dC : Nat → ClassId) (dI : Nat → Nat → Nat) (cs : Nat → ClassId) (ad : Nat → Nat) (mu : Nat → Nat → Int32) (ok : okR loX hiX mu) (H : Heap) (hP : va_P (dC, dI) vwCl (wR 157 ad (EX cs ad) mu) H) (hD0 : va_D (fun _ => True) (wR 157 ad (EX cs ad) mu)) (vu : Int32) (vp : Int32) : Met l yX5_walkOn (wU yX5_walkOn cX5_walkOn 9 none) ({ frames := 1, cells := 0, slots := 0, locals := 21 }) (va_Pc [.ref (ad 32), .ref (ad 4), .int 6, .int vu, .int vp] (sz_P (dC, dI) vwCl (tyW cs) H)) (va_Qv (fun (xi : Nat → Nat → Int32) => xi = F_sx_walkOn6 mu vu vp ∧ okR loX hiX xi ∧ (True) ∧ (∀ k f : Nat, Nat.testBit 510 (gpX k f) = true → xi k f = mu k f)) (fun xi t => va_P (dC, dI) vwCl (wR 157 ad (EX cs ad) xi) t.heap) (va_A (wR 157 ad (EX cs ad) mu) H.size)) 0 0 (va_A (wR 157 ad (EX cs ad) mu) H.size) := by
  refine Met.ofW (cc := cX5_walkOn) (maxL := 9) (ret := none) (by decide) rfl ?_
  intro p e s m args below meth c s₁ B hml hv
  obtain ⟨rfl, hh, hK, hz⟩ := hv
  have hx := B.exec
  have hb := B.bytes
  have hr := B.returns
  have hts := atoms_spec (ws := (wU yX5_walkOn cX5_walkOn 9 none)) B.pre
  have hown : s.vm.findClass RX5 = some m.cls := findClass_of_methodNamed B.named
  have hlocks := B.notSynchronized
  subst hh
  have hD := hD0.self (sz := s.heap.size)
  have hA : ∀ q : Nat, s.heap.size ≤ q → (va_A (wR 157 ad (EX cs ad) mu) s.heap.size) q := fun q h => Or.inr h
  have hS : va_S (va_A (wR 157 ad (EX cs ad) mu) s.heap.size) s.heap s.heap [] := va_S.rf
  have hl := lv_entry ([.ref (ad 32), .ref (ad 4), .int 6, .int vu, .int vp]) (n := 9) (Nat.le_of_ble_eq_true rfl)
  rw [lg_entry_eq]
  generalize (lg_sl ([.ref (ad 32), .ref (ad 4), .int 6, .int vu, .int vp]) ++ List.replicate (9 - (lg_sl ([.ref (ad 32), .ref (ad 4), .int 6, .int vu, .int vp])).length) Slot.unset).toArray = ls at hl ⊢
  have hl : lv_has ls 9 [(0, .ref (ad 32)), (1, .ref (ad 4)), (2, .int 6), (3, .int vu), (4, .int vp)] := hl
  obtain ⟨fz, hfz⟩ : ∃ z, F_sx_walkOn6 mu vu vp = z := ⟨_, rfl⟩
  have hF := hfz
  unfold F_sx_walkOn6 at hF
  refine lv_aload_n hx hb dX5_walkOn_0 rfl (lv_at hl 0 rfl) ?_
  refine va_get (D := (dC, dI)) (ci := 5) (v := .ref (ad 54)) (C := RX5) (T := TX5) (N := 15) hx hb hts inG5 hown hK hP 32 (gX_32 cs ad mu) rfl 2 (by decide) (hts _ (List.mem_cons_of_mem _ mw_2_48)) (fun _ h9 => h9) rfl dX5_walkOn_1 ?_
  refine lv_iload_n hx hb dX5_walkOn_4 rfl (lv_at hl 2 rfl) ?_
  refine va_iald hx hb hK hP 54 0 (gX_54 cs ad mu) rfl (show vp_in 6 7 from (by unfold vp_in; decide)) dX5_walkOn_5 ?_
  refine lv_topi (fun y1 ey1 => ?_)
  have hF := mi_let hF ey1
  have by1 : y1.toInt = (mu 54 (6 : Int32).toNatClampNeg).toInt := congrArg Int32.toInt ey1
  have gy1 : 0 ≤ y1.toInt ∧ y1.toInt ≤ 6 := by rw [ey1]; exact rX_54_s ok (6 : Int32).toNatClampNeg
  refine lv_istore (lv' := [(5, .int y1), (0, .ref (ad 32)), (1, .ref (ad 4)), (2, .int 6), (3, .int vu), (4, .int vp)]) hx hb dX5_walkOn_6 hl (by decide) rfl (fun ls hl => ?_)
  refine lv_aload_n hx hb dX5_walkOn_8 rfl (lv_at hl 2 rfl) ?_
  refine va_get (D := (dC, dI)) (ci := 10) (v := .ref (ad 34)) (C := RX10) (T := TX10) (N := 8) hx hb hts inG10 hown hK hP 4 (gX_4 cs ad mu) rfl 0 (by decide) (hts _ (List.mem_cons_of_mem _ mw_1_146)) (fun _ h9 => h9) rfl dX5_walkOn_9 ?_
  refine lv_iload hx hb dX5_walkOn_12 (lv_at hl 0 rfl) ?_
  refine va_iald hx hb hK hP 34 0 (gX_34 cs ad mu) rfl (show vp_in y1 7 from vi_of (by omega) (by omega)) dX5_walkOn_14 ?_
  refine lv_topi (fun y2 ey2 => ?_)
  have hF := mi_let hF ey2
  have by2 : y2.toInt = (mu 34 y1.toNatClampNeg).toInt := congrArg Int32.toInt ey2
  refine lv_iload hx hb dX5_walkOn_15 (lv_at hl 5 rfl) ?_
  refine cr_i (va_runSN (As := [.int y2, .int vp]) (rest := []) ⟨hx, hb, hml, hown, hts⟩ (sx_priceAsked l dC dI (tyW cs) s.heap y2 vp) ⟨va_cnB 2 hts (wU_in mw_3_107) rfl rfl rfl (hz.2.2.2.2.2.2.2.2.2.2.2.2.2.1) (hts _ (List.mem_cons_of_mem _ mw_1_1)) (by decide +kernel) ⟨Nat.le_of_ble_eq_true rfl, Nat.le_of_ble_eq_true rfl⟩, (hts _ (List.mem_cons_of_mem _ mw_3_106)), trivial⟩ ⟨sz_c, sz_m hK hz⟩ rfl rfl hl.1 rfl (lv_room (Nat.le_of_ble_eq_true rfl)) dX5_walkOn_17 ⟨Nat.zero_le _, Nat.zero_le _⟩) hS (fun r3 hw3 locs hS => ?_)
  obtain ⟨hfe3, hw3⟩ := hw3
  have hF := mi_let hF hfe3
  refine lv_istore (lv' := [(6, .int r3), (5, .int y1), (0, .ref (ad 32)), (1, .ref (ad 4)), (2, .int 6), (3, .int vu), (4, .int vp)]) hx hb dX5_walkOn_20 hl (by decide) rfl (fun ls hl => ?_)
  refine lv_iload_n hx hb dX5_walkOn_22 rfl (lv_at hl 4 rfl) ?_
  refine lv_iconst (v := 1) hx hb dX5_walkOn_23 (by decide) ?_
  refine lv_iadd hx hb dX5_walkOn_24 ?_
  refine lq_i 7 (by decide) ?_
  refine lv_istore (lv' := [(7, .int 7), (6, .int r3), (5, .int y1), (0, .ref (ad 32)), (1, .ref (ad 4)), (2, .int 6), (3, .int vu), (4, .int vp)]) hx hb dX5_walkOn_25 hl (by decide) rfl (fun ls hl => ?_)
  refine lv_iconst (v := 0) hx hb dX5_walkOn_27 (by decide) ?_
  refine lv_istore (lv' := [(8, .int 0), (7, .int 7), (6, .int r3), (5, .int y1), (0, .ref (ad 32)), (1, .ref (ad 4)), (2, .int 6), (3, .int vu), (4, .int vp)]) hx hb dX5_walkOn_28 hl (by decide) rfl (fun ls hl => ?_)
  have loop30 : ∀ (n30 : Nat) (v8_30 : Int32) (nu30_ : Nat → Nat → Int32) (H : Heap) (locs : List Loc) (ls : Array Slot), (7 + 1 - v8_30.toInt).toNat < n30 → (0 ≤ v8_30.toInt ∧ v8_30.toInt ≤ 7) → okR loX hiX nu30_ → va_P (dC, dI) vwCl (wR 157 ad (EX cs ad) nu30_) H → (∀ k f : Nat, Nat.testBit 510 (gpX k f) = true → nu30_ k f = mu k f) → L_sx_walkOn6_30_0 n30 v8_30 nu30_ = fz → va_S (va_A (wR 157 ad (EX cs ad) mu) s.heap.size) s.heap H locs → lv_has ls 9 [(8, .int v8_30), (7, .int 7), (6, .int r3), (5, .int y1), (0, .ref (ad 32)), (1, .ref (ad 4)), (2, .int 6), (3, .int vu), (4, .int vp)] → W p l e (headSpec (wU yX5_walkOn cX5_walkOn 9 none) ({ frames := 1, cells := 0, slots := 0, locals := 21 })).room s m ([.ref (ad 32), .ref (ad 4), .int 6, .int vu, .int vp] : List Value).toArray below meth c H locs 0 0 (MQ below (va_Qv (fun (xi : Nat → Nat → Int32) => xi = F_sx_walkOn6 mu vu vp ∧ okR loX hiX xi ∧ (True) ∧ (∀ k f : Nat, Nat.testBit 510 (gpX k f) = true → xi k f = mu k f)) (fun xi t => va_P (dC, dI) vwCl (wR 157 ad (EX cs ad) xi) t.heap) (va_A (wR 157 ad (EX cs ad) mu) s.heap.size)) ([.ref (ad 32), .ref (ad 4), .int 6, .int vu, .int vp] : List Value).toArray s 0 0 (va_A (wR 157 ad (EX cs ad) mu) s.heap.size)) (F0 m 30 ls []) := by
    intro n30
    induction n30 with
    | zero => intro v8_30 nu30_ H locs ls hm; exact absurd hm (Nat.not_lt_zero _)
    | succ n30 ih30 =>
      intro v8_30 nu30_ H locs ls hm_30 h_v8_30 ok hP kq30_0 hF hS hl
      rw [L_sx_walkOn6_30_0] at hF
      refine lv_iload hx hb dX5_walkOn_30 (lv_at hl 0 rfl) ?_
      refine lv_aload_n hx hb dX5_walkOn_32 rfl (lv_at hl 5 rfl) ?_
      refine va_get (D := (dC, dI)) (ci := 10) (v := .int (nu30_ 4 6)) (C := RX10) (T := TX10) (N := 8) hx hb hts inG10 hown hK hP 4 (gX_4 cs ad nu30_) rfl 6 (by decide) (hts _ (List.mem_cons_of_mem _ mw_1_162)) (fun _ h9 => h9) rfl dX5_walkOn_33 ?_
      refine lv_topi (fun y4 ey4 => ?_)
      have hF := mi_let hF ey4
      have by4 : y4.toInt = (nu30_ 4 6).toInt := congrArg Int32.toInt ey4
      have gy4 : 0 ≤ y4.toInt ∧ y4.toInt ≤ 7 := by rw [ey4]; exact rX_4_6 ok
      refine lv_icmp_ge (tgt := 115) hx hb dX5_walkOn_36 (by decide) (fun c_5 => ?_) (fun c_5 => ?_)
      · have hF := (if_pos c_5).symm.trans hF
        have c_5 : y4.toInt ≤ v8_30.toInt := il_le c_5
        exact W.vret hx hb hr (fun t ht hW => ⟨⟨nu30_, rfl, ⟨hF.trans hfz.symm, ok, trivial, kq30_0⟩, by first | (subst ht; exact hP) | (rw [ht]; exact hP) | (show va_P (dC, dI) vwCl (wR 157 ad (EX cs ad) nu30_) t.heap; rw [ht]; exact hP)⟩, hS.F ht⟩) hS.2.2 dX5_walkOn_115
      · have hF := (if_neg c_5).symm.trans hF
        have c_5 : v8_30.toInt < y4.toInt := il_nle c_5
        refine lv_iload hx hb dX5_walkOn_39 (lv_at hl 1 rfl) ?_
        refine lv_bipush (v := 7) hx hb dX5_walkOn_41 (by decide) ?_
        refine lv_icmp_ge (tgt := 115) hx hb dX5_walkOn_43 (by decide) (fun _ => ?_) (fun c => absurd (by decide) c)
        exact W.vret hx hb hr (fun t ht hW => ⟨⟨nu30_, rfl, ⟨hF.trans hfz.symm, ok, trivial, kq30_0⟩, by first | (subst ht; exact hP) | (rw [ht]; exact hP) | (show va_P (dC, dI) vwCl (wR 157 ad (EX cs ad) nu30_) t.heap; rw [ht]; exact hP)⟩, hS.F ht⟩) hS.2.2 dX5_walkOn_115
  exact loop30 10 (0) mu _ _ _ (by have h80 : (0 : Int32).toInt = 0 := rfl; omega) (by have h80 : (0 : Int32).toInt = 0 := rfl; exact ⟨by omega, by omega⟩)  ok hP  (fun _ _ _ => rfl) hF hS hl
set_option maxHeartbeats 4000000 in
set_option maxRecDepth 100000 in
/-- sx_walkOn5 -/
theorem sx_walkOn5 (l : Launch) (dC : Nat → ClassId) (dI : Nat → Nat → Nat) (cs : Nat → ClassId) (ad : Nat → Nat) (mu : Nat → Nat → Int32) (ok : okR loX hiX mu) (H : Heap) (hP : va_P (dC, dI) vwCl (wR 157 ad (EX cs ad) mu) H) (hD0 : va_D (fun _ => True) (wR 157 ad (EX cs ad) mu)) (vu : Int32) (vp : Int32) : Met l yX5_walkOn (wU yX5_walkOn cX5_walkOn 9 none) ({ frames := 3, cells := 0, slots := 0, locals := 107 }) (va_Pc [.ref (ad 32), .ref (ad 4), .int 5, .int vu, .int vp] (sz_P (dC, dI) vwCl (tyW cs) H)) (va_Qv (fun (xi : Nat → Nat → Int32) => xi = F_sx_walkOn5 mu vu vp ∧ okR loX hiX xi ∧ (True) ∧ (∀ k f : Nat, Nat.testBit 510 (gpX k f) = true → xi k f = mu k f)) (fun xi t => va_P (dC, dI) vwCl (wR 157 ad (EX cs ad) xi) t.heap) (va_A (wR 157 ad (EX cs ad) mu) H.size)) 0 0 (va_A (wR 157 ad (EX cs ad) mu) H.size) := by
  refine Met.ofW (cc := cX5_walkOn) (maxL := 9) (ret := none) (by decide) rfl ?_
  intro p e s m args below meth c s₁ B hml hv
  obtain ⟨rfl, hh, hK, hz⟩ := hv
  have hx := B.exec
  have hb := B.bytes
  have hr := B.returns
  have hts := atoms_spec (ws := (wU yX5_walkOn cX5_walkOn 9 none)) B.pre
  have hown : s.vm.findClass RX5 = some m.cls := findClass_of_methodNamed B.named
  have hlocks := B.notSynchronized
  subst hh
  have hD := hD0.self (sz := s.heap.size)
  have hA : ∀ q : Nat, s.heap.size ≤ q → (va_A (wR 157 ad (EX cs ad) mu) s.heap.size) q := fun q h => Or.inr h
  have hS : va_S (va_A (wR 157 ad (EX cs ad) mu) s.heap.size) s.heap s.heap [] := va_S.rf
  have hl := lv_entry ([.ref (ad 32), .ref (ad 4), .int 5, .int vu, .int vp]) (n := 9) (Nat.le_of_ble_eq_true rfl)
  rw [lg_entry_eq]
  generalize (lg_sl ([.ref (ad 32), .ref (ad 4), .int 5, .int vu, .int vp]) ++ List.replicate (9 - (lg_sl ([.ref (ad 32), .ref (ad 4), .int 5, .int vu, .int vp])).length) Slot.unset).toArray = ls at hl ⊢
  have hl : lv_has ls 9 [(0, .ref (ad 32)), (1, .ref (ad 4)), (2, .int 5), (3, .int vu), (4, .int vp)] := hl
  obtain ⟨fz, hfz⟩ : ∃ z, F_sx_walkOn5 mu vu vp = z := ⟨_, rfl⟩
  have hF := hfz
  unfold F_sx_walkOn5 at hF
  refine lv_aload_n hx hb dX5_walkOn_0 rfl (lv_at hl 0 rfl) ?_
  refine va_get (D := (dC, dI)) (ci := 5) (v := .ref (ad 54)) (C := RX5) (T := TX5) (N := 15) hx hb hts inG5 hown hK hP 32 (gX_32 cs ad mu) rfl 2 (by decide) (hts _ (List.mem_cons_of_mem _ mw_2_48)) (fun _ h9 => h9) rfl dX5_walkOn_1 ?_
  refine lv_iload_n hx hb dX5_walkOn_4 rfl (lv_at hl 2 rfl) ?_
  refine va_iald hx hb hK hP 54 0 (gX_54 cs ad mu) rfl (show vp_in 5 7 from (by unfold vp_in; decide)) dX5_walkOn_5 ?_
  refine lv_topi (fun y1 ey1 => ?_)
  have hF := mi_let hF ey1
  have by1 : y1.toInt = (mu 54 (5 : Int32).toNatClampNeg).toInt := congrArg Int32.toInt ey1
  have gy1 : 0 ≤ y1.toInt ∧ y1.toInt ≤ 6 := by rw [ey1]; exact rX_54_s ok (5 : Int32).toNatClampNeg
  refine lv_istore (lv' := [(5, .int y1), (0, .ref (ad 32)), (1, .ref (ad 4)), (2, .int 5), (3, .int vu), (4, .int vp)]) hx hb dX5_walkOn_6 hl (by decide) rfl (fun ls hl => ?_)
  refine lv_aload_n hx hb dX5_walkOn_8 rfl (lv_at hl 2 rfl) ?_
  refine va_get (D := (dC, dI)) (ci := 10) (v := .ref (ad 34)) (C := RX10) (T := TX10) (N := 8) hx hb hts inG10 hown hK hP 4 (gX_4 cs ad mu) rfl 0 (by decide) (hts _ (List.mem_cons_of_mem _ mw_1_146)) (fun _ h9 => h9) rfl dX5_walkOn_9 ?_
  refine lv_iload hx hb dX5_walkOn_12 (lv_at hl 0 rfl) ?_
  refine va_iald hx hb hK hP 34 0 (gX_34 cs ad mu) rfl (show vp_in y1 7 from vi_of (by omega) (by omega)) dX5_walkOn_14 ?_
  refine lv_topi (fun y2 ey2 => ?_)
  have hF := mi_let hF ey2
  have by2 : y2.toInt = (mu 34 y1.toNatClampNeg).toInt := congrArg Int32.toInt ey2
  refine lv_iload hx hb dX5_walkOn_15 (lv_at hl 5 rfl) ?_
  refine cr_i (va_runSN (As := [.int y2, .int vp]) (rest := []) ⟨hx, hb, hml, hown, hts⟩ (sx_priceAsked l dC dI (tyW cs) s.heap y2 vp) ⟨va_cnB 2 hts (wU_in mw_3_107) rfl rfl rfl (hz.2.2.2.2.2.2.2.2.2.2.2.2.2.1) (hts _ (List.mem_cons_of_mem _ mw_1_1)) (by decide +kernel) ⟨Nat.le_of_ble_eq_true rfl, Nat.le_of_ble_eq_true rfl⟩, (hts _ (List.mem_cons_of_mem _ mw_3_106)), trivial⟩ ⟨sz_c, sz_m hK hz⟩ rfl rfl hl.1 rfl (lv_room (Nat.le_of_ble_eq_true rfl)) dX5_walkOn_17 ⟨Nat.zero_le _, Nat.zero_le _⟩) hS (fun r3 hw3 locs hS => ?_)
  obtain ⟨hfe3, hw3⟩ := hw3
  have hF := mi_let hF hfe3
  refine lv_istore (lv' := [(6, .int r3), (5, .int y1), (0, .ref (ad 32)), (1, .ref (ad 4)), (2, .int 5), (3, .int vu), (4, .int vp)]) hx hb dX5_walkOn_20 hl (by decide) rfl (fun ls hl => ?_)
  refine lv_iload_n hx hb dX5_walkOn_22 rfl (lv_at hl 4 rfl) ?_
  refine lv_iconst (v := 1) hx hb dX5_walkOn_23 (by decide) ?_
  refine lv_iadd hx hb dX5_walkOn_24 ?_
  refine lq_i 6 (by decide) ?_
  refine lv_istore (lv' := [(7, .int 6), (6, .int r3), (5, .int y1), (0, .ref (ad 32)), (1, .ref (ad 4)), (2, .int 5), (3, .int vu), (4, .int vp)]) hx hb dX5_walkOn_25 hl (by decide) rfl (fun ls hl => ?_)
  refine lv_iconst (v := 0) hx hb dX5_walkOn_27 (by decide) ?_
  refine lv_istore (lv' := [(8, .int 0), (7, .int 6), (6, .int r3), (5, .int y1), (0, .ref (ad 32)), (1, .ref (ad 4)), (2, .int 5), (3, .int vu), (4, .int vp)]) hx hb dX5_walkOn_28 hl (by decide) rfl (fun ls hl => ?_)
  have loop30 : ∀ (n30 : Nat) (v8_30 : Int32) (nu30_ : Nat → Nat → Int32) (H : Heap) (locs : List Loc) (ls : Array Slot), (7 + 1 - v8_30.toInt).toNat < n30 → (0 ≤ v8_30.toInt ∧ v8_30.toInt ≤ 7) → okR loX hiX nu30_ → va_P (dC, dI) vwCl (wR 157 ad (EX cs ad) nu30_) H → (∀ k f : Nat, Nat.testBit 510 (gpX k f) = true → nu30_ k f = mu k f) → L_sx_walkOn5_30_0 r3 vu y1 n30 v8_30 nu30_ = fz → va_S (va_A (wR 157 ad (EX cs ad) mu) s.heap.size) s.heap H locs → lv_has ls 9 [(8, .int v8_30), (7, .int 6), (6, .int r3), (5, .int y1), (0, .ref (ad 32)), (1, .ref (ad 4)), (2, .int 5), (3, .int vu), (4, .int vp)] → W p l e (headSpec (wU yX5_walkOn cX5_walkOn 9 none) ({ frames := 3, cells := 0, slots := 0, locals := 107 })).room s m ([.ref (ad 32), .ref (ad 4), .int 5, .int vu, .int vp] : List Value).toArray below meth c H locs 0 0 (MQ below (va_Qv (fun (xi : Nat → Nat → Int32) => xi = F_sx_walkOn5 mu vu vp ∧ okR loX hiX xi ∧ (True) ∧ (∀ k f : Nat, Nat.testBit 510 (gpX k f) = true → xi k f = mu k f)) (fun xi t => va_P (dC, dI) vwCl (wR 157 ad (EX cs ad) xi) t.heap) (va_A (wR 157 ad (EX cs ad) mu) s.heap.size)) ([.ref (ad 32), .ref (ad 4), .int 5, .int vu, .int vp] : List Value).toArray s 0 0 (va_A (wR 157 ad (EX cs ad) mu) s.heap.size)) (F0 m 30 ls []) := by
    intro n30
    induction n30 with
    | zero => intro v8_30 nu30_ H locs ls hm; exact absurd hm (Nat.not_lt_zero _)
    | succ n30 ih30 =>
      intro v8_30 nu30_ H locs ls hm_30 h_v8_30 ok hP kq30_0 hF hS hl
      rw [L_sx_walkOn5_30_0] at hF
      refine lv_iload hx hb dX5_walkOn_30 (lv_at hl 0 rfl) ?_
      refine lv_aload_n hx hb dX5_walkOn_32 rfl (lv_at hl 5 rfl) ?_
      refine va_get (D := (dC, dI)) (ci := 10) (v := .int (nu30_ 4 6)) (C := RX10) (T := TX10) (N := 8) hx hb hts inG10 hown hK hP 4 (gX_4 cs ad nu30_) rfl 6 (by decide) (hts _ (List.mem_cons_of_mem _ mw_1_162)) (fun _ h9 => h9) rfl dX5_walkOn_33 ?_
      refine lv_topi (fun y4 ey4 => ?_)
      have hF := mi_let hF ey4
      have by4 : y4.toInt = (nu30_ 4 6).toInt := congrArg Int32.toInt ey4
      have gy4 : 0 ≤ y4.toInt ∧ y4.toInt ≤ 7 := by rw [ey4]; exact rX_4_6 ok
      refine lv_icmp_ge (tgt := 115) hx hb dX5_walkOn_36 (by decide) (fun c_5 => ?_) (fun c_5 => ?_)
      · have hF := (if_pos c_5).symm.trans hF
        have c_5 : y4.toInt ≤ v8_30.toInt := il_le c_5
        exact W.vret hx hb hr (fun t ht hW => ⟨⟨nu30_, rfl, ⟨hF.trans hfz.symm, ok, trivial, kq30_0⟩, by first | (subst ht; exact hP) | (rw [ht]; exact hP) | (show va_P (dC, dI) vwCl (wR 157 ad (EX cs ad) nu30_) t.heap; rw [ht]; exact hP)⟩, hS.F ht⟩) hS.2.2 dX5_walkOn_115
      · have hF := (if_neg c_5).symm.trans hF
        have c_5 : v8_30.toInt < y4.toInt := il_nle c_5
        refine lv_iload hx hb dX5_walkOn_39 (lv_at hl 1 rfl) ?_
        refine lv_bipush (v := 7) hx hb dX5_walkOn_41 (by decide) ?_
        refine lv_icmp_ge (tgt := 115) hx hb dX5_walkOn_43 (by decide) (fun c => absurd c (by decide)) (fun _ => ?_)
        refine lv_aload_n hx hb dX5_walkOn_46 rfl (lv_at hl 4 rfl) ?_
        refine lv_aload_n hx hb dX5_walkOn_47 rfl (lv_at hl 5 rfl) ?_
        refine lv_iload hx hb dX5_walkOn_48 (lv_at hl 3 rfl) ?_
        refine lv_iload hx hb dX5_walkOn_50 (lv_at hl 0 rfl) ?_
        refine lv_iload_n hx hb dX5_walkOn_52 rfl (lv_at hl 7 rfl) ?_
        refine lv_iload hx hb dX5_walkOn_53 (lv_at hl 2 rfl) ?_
        refine cr_i (va_runV (As := [.ref (ad 4), .int y1, .int v8_30, .int vu, .int r3]) (rest := []) ⟨hx, hb, hml, hown, hts⟩ (sx_buys l dC dI cs ad nu30_ ok H hP y1 v8_30 vu r3 (by omega)) (cwV 5 hts (wU_V mw_4_34 mw_4_31 mw_4_33 mw_0_14 mw_1_8) rfl rfl rfl (by decide +kernel) ⟨Nat.le_of_ble_eq_true rfl, Nat.le_of_ble_eq_true rfl⟩) ⟨sz_c, va_recv hK hP (ci := 5) (q0 := 32) rfl (gX_32 cs ad nu30_), sz_m hK hz⟩ rfl rfl hl.1 rfl (lv_room (Nat.le_of_ble_eq_true rfl)) dX5_walkOn_55 ⟨Nat.zero_le _, Nat.zero_le _⟩) hS (fun r6 hw6 locs hS => ?_)
        obtain ⟨hfe6, hw6⟩ := hw6
        have hF := mi_let hF hfe6
        have gr6 : 0 ≤ r6.toInt ∧ r6.toInt ≤ 1 := hw6
        refine lv_if_ne (tgt := 64) hx hb dX5_walkOn_58 (by decide) (fun c_7 => ?_) (fun c_7 => ?_)
        · have hF := (if_neg c_7).symm.trans hF
          have c_7 : ¬ r6.toInt = 0 := il_ne c_7
          refine lv_aload_n hx hb dX5_walkOn_64 rfl (lv_at hl 4 rfl) ?_
          refine va_get (D := (dC, dI)) (ci := 5) (v := .ref (ad 54)) (C := RX5) (T := TX5) (N := 15) hx hb hts inG5 hown hK hP 32 (gX_32 cs ad nu30_) rfl 2 (by decide) (hts _ (List.mem_cons_of_mem _ mw_2_48)) (fun _ h9 => h9) rfl dX5_walkOn_65 ?_
          refine lv_iload hx hb dX5_walkOn_68 (lv_at hl 1 rfl) ?_
          refine lv_iload hx hb dX5_walkOn_70 (lv_at hl 0 rfl) ?_
          refine va_iast hx hb hK hP (wR_D nu30_ hD) hS 54 0 (gX_54 cs ad nu30_) rfl (show vp_in 6 7 from (by unfold vp_in; decide)) dX5_walkOn_72 (fun H locs hP _ hS => ?_)
          refine wr_gen (upd (nu30_ 54) (6 : Int32).toNatClampNeg v8_30) hP (rfl) (fun nu8 hn8 hP => ?_)
          have hF := mi_let hF hn8.symm
          have ok := tX_54_s ok (6 : Int32).toNatClampNeg hn8 (by omega)
          have ez9 : y4 = nu8 4 6 := ey4.trans (congrFun (up_k hn8 (by decide)) 6).symm
          have kp10 : (∀ k f : Nat, Nat.testBit 510 (gpX k f) = true → nu8 k f = mu k f) := kp_c 0 hn8 (fun _ => rfl) (by decide) kq30_0
          refine lv_iload hx hb dX5_walkOn_73 (lv_at hl 0 rfl) ?_
          refine lv_aload_n hx hb dX5_walkOn_75 rfl (lv_at hl 4 rfl) ?_
          refine va_get (D := (dC, dI)) (ci := 5) (v := .int (nu8 32 6)) (C := RX5) (T := TX5) (N := 15) hx hb hts inG5 hown hK hP 32 (gX_32 cs ad nu8) rfl 6 (by decide) (hts _ (List.mem_cons_of_mem _ mw_2_54)) (fun _ h9 => h9) rfl dX5_walkOn_76 ?_
          refine lv_topi (fun y11 ey11 => ?_)
          have hF := mi_let hF ey11
          have by11 : y11.toInt = (nu8 32 6).toInt := congrArg Int32.toInt ey11
          have gy11 : 0 ≤ y11.toInt ∧ y11.toInt ≤ 6 := by rw [ey11]; exact rX_32_6 ok
          refine lv_icmp_ne (tgt := 94) hx hb dX5_walkOn_79 (by decide) (fun c_12 => ?_) (fun c_12 => ?_)
          · have hF := (if_neg c_12).symm.trans hF
            have c_12 : ¬ v8_30.toInt = y11.toInt := il_ne c_12
            refine lv_aload_n hx hb dX5_walkOn_94 rfl (lv_at hl 4 rfl) ?_
            refine lv_aload_n hx hb dX5_walkOn_95 rfl (lv_at hl 5 rfl) ?_
            refine lv_iload hx hb dX5_walkOn_96 (lv_at hl 1 rfl) ?_
            refine lv_iload_n hx hb dX5_walkOn_98 rfl (lv_at hl 7 rfl) ?_
            refine lv_iconst (v := 1) hx hb dX5_walkOn_99 (by decide) ?_
            refine lv_iload hx hb dX5_walkOn_100 (lv_at hl 0 rfl) ?_
            refine lv_ishl hx hb dX5_walkOn_102 ?_
            refine lv_topi (fun t13 et13 => ?_)
            have hF := mi_let hF et13
            refine lv_ior hx hb dX5_walkOn_103 ?_
            refine lv_topi (fun t14 et14 => ?_)
            have hF := mi_let hF et14
            refine lv_iload hx hb dX5_walkOn_104 (lv_at hl 2 rfl) ?_
            have hFc := fr_all (wR_D nu8 hD) hS hA
            refine va_callv (va_runV (As := [.ref (ad 4), .int 6, .int t14, .int r3]) (rest := []) ⟨hx, hb, hml, hown, hts⟩ (sx_walkOn6 l dC dI cs ad nu8 ok H hP ((wR_D nu8 hD).weaken (fun _ _ _ _ => trivial)) t14 r3) (cwV 4 hts (wU_V mw_4_29 mw_4_26 mw_4_28 mw_0_13 mw_1_8) rfl rfl rfl (by decide +kernel) ⟨Nat.le_of_ble_eq_true rfl, Nat.le_of_ble_eq_true rfl⟩) ⟨sz_c, va_recv hK hP (ci := 5) (q0 := 32) rfl (gX_32 cs ad nu8), sz_m hK hz⟩ rfl rfl hl.1 rfl (lv_room (Nat.le_of_ble_eq_true rfl)) dX5_walkOn_106 ⟨Nat.zero_le _, Nat.zero_le _⟩) hS (fun q _ h => hFc q h) hFc (fun xi15 t H15 locs ht hvm hw15 hB hz1 hk1 hS => ?_)
            have hP : va_P (dC, dI) vwCl (wR 157 ad (EX cs ad) xi15) H15 := by rw [← ht]; exact hB
            obtain ⟨hfe15, ok, hw15, hkp15_0⟩ := hw15
            have hF := mi_let hF hfe15
            have kp16 : (∀ k f : Nat, Nat.testBit 510 (gpX k f) = true → xi15 k f = mu k f) := kp_t hkp15_0 (by decide) kp10
            refine lv_iinc (v := (v8_30 + 1)) (lv' := [(8, .int (v8_30 + 1)), (7, .int 6), (6, .int r3), (5, .int y1), (0, .ref (ad 32)), (1, .ref (ad 4)), (2, .int 5), (3, .int vu), (4, .int vp)]) hx hb dX5_walkOn_109 hl (k := 0) rfl rfl (by decide) rfl (fun ls hl => ?_)
            refine loc_gen (P := fun w9 => lv_has ls 9 [(8, .int w9), (7, .int 6), (6, .int r3), (5, .int y1), (0, .ref (ad 32)), (1, .ref (ad 4)), (2, .int 5), (3, .int vu), (4, .int vp)]) (v8_30 + 1) hl (fun w17 hw17 hl => ?_)
            have hl : lv_has ls 9 [(8, .int w17), (7, .int 6), (6, .int r3), (5, .int y1), (0, .ref (ad 32)), (1, .ref (ad 4)), (2, .int 5), (3, .int vu), (4, .int vp)] := hl
            have hF := mi_let hF hw17.symm
            have aw17 : w17.toInt = v8_30.toInt + 1 := by rw [← hw17]; first | exact va1 (Int.lt_of_le_of_lt h_v8_30.2 (by decide)) | exact va1 (by omega)
            refine lv_goto (tgt := 30) hx hb dX5_walkOn_112 (by decide) ?_
            exact ih30 (w17) xi15 _ _ _ (by first | exact ms_up hm_30 aw17 h_v8_30.2 | exact ms_lt hm_30 (by omega) (by omega) | omega) (by first | exact rg_up aw17 h_v8_30 (by omega) | omega)  ok hP  kp16 hF hS (lv_sub hl [0, 1, 2, 3, 4, 5, 6, 7, 8] rfl)
          · have hF := (if_pos c_12).symm.trans hF
            have c_12 : v8_30.toInt = y11.toInt := il_eq c_12
            refine lv_aload_n hx hb dX5_walkOn_82 rfl (lv_at hl 4 rfl) ?_
            refine lv_iload hx hb dX5_walkOn_83 (lv_at hl 1 rfl) ?_
            refine lv_iload_n hx hb dX5_walkOn_85 rfl (lv_at hl 7 rfl) ?_
            refine lv_iload hx hb dX5_walkOn_86 (lv_at hl 2 rfl) ?_
            have hFc := fr_all (wR_D nu8 hD) hS hA
            refine va_callv (va_runV (As := [.int 6, .int vu, .int r3]) (rest := []) ⟨hx, hb, hml, hown, hts⟩ (sx_R_arrive l dC dI cs ad nu8 ok H hP ((wR_D nu8 hD).weaken (fun _ _ _ _ => trivial)) 6 vu r3 (by have h50 : (6 : Int32).toInt = 6 := rfl; omega)) (cwV 3 hts (wU_V mw_4_39 mw_4_36 mw_4_38 mw_0_15 mw_1_8) rfl rfl rfl (by decide +kernel) ⟨Nat.le_of_ble_eq_true rfl, Nat.le_of_ble_eq_true rfl⟩) ⟨sz_c, va_recv hK hP (ci := 5) (q0 := 32) rfl (gX_32 cs ad nu8), sz_m hK hz⟩ rfl rfl hl.1 rfl (lv_room (Nat.le_of_ble_eq_true rfl)) dX5_walkOn_88 ⟨Nat.zero_le _, Nat.zero_le _⟩) hS (fun q _ h => hFc q h) hFc (fun xi18 t H18 locs ht hvm hw18 hB hz1 hk1 hS => ?_)
            have hP : va_P (dC, dI) vwCl (wR 157 ad (EX cs ad) xi18) H18 := by rw [← ht]; exact hB
            obtain ⟨hfe18, ok, hw18, hkp18_0⟩ := hw18
            have hF := mi_let hF hfe18
            have kp19 : (∀ k f : Nat, Nat.testBit 510 (gpX k f) = true → xi18 k f = mu k f) := kp_t hkp18_0 (by decide) kp10
            refine lv_goto (tgt := 109) hx hb dX5_walkOn_91 (by decide) ?_
            refine lv_iinc (v := (v8_30 + 1)) (lv' := [(8, .int (v8_30 + 1)), (7, .int 6), (6, .int r3), (5, .int y1), (0, .ref (ad 32)), (1, .ref (ad 4)), (2, .int 5), (3, .int vu), (4, .int vp)]) hx hb dX5_walkOn_109 hl (k := 0) rfl rfl (by decide) rfl (fun ls hl => ?_)
            refine loc_gen (P := fun w9 => lv_has ls 9 [(8, .int w9), (7, .int 6), (6, .int r3), (5, .int y1), (0, .ref (ad 32)), (1, .ref (ad 4)), (2, .int 5), (3, .int vu), (4, .int vp)]) (v8_30 + 1) hl (fun w20 hw20 hl => ?_)
            have hl : lv_has ls 9 [(8, .int w20), (7, .int 6), (6, .int r3), (5, .int y1), (0, .ref (ad 32)), (1, .ref (ad 4)), (2, .int 5), (3, .int vu), (4, .int vp)] := hl
            have hF := mi_let hF hw20.symm
            have aw20 : w20.toInt = v8_30.toInt + 1 := by rw [← hw20]; first | exact va1 (Int.lt_of_le_of_lt h_v8_30.2 (by decide)) | exact va1 (by omega)
            refine lv_goto (tgt := 30) hx hb dX5_walkOn_112 (by decide) ?_
            exact ih30 (w20) xi18 _ _ _ (by first | exact ms_up hm_30 aw20 h_v8_30.2 | exact ms_lt hm_30 (by omega) (by omega) | omega) (by first | exact rg_up aw20 h_v8_30 (by omega) | omega)  ok hP  kp19 hF hS (lv_sub hl [0, 1, 2, 3, 4, 5, 6, 7, 8] rfl)
        · have hF := (if_pos c_7).symm.trans hF
          have c_7 : r6.toInt = 0 := il_eq c_7
          refine lv_goto (tgt := 109) hx hb dX5_walkOn_61 (by decide) ?_
          refine lv_iinc (v := (v8_30 + 1)) (lv' := [(8, .int (v8_30 + 1)), (7, .int 6), (6, .int r3), (5, .int y1), (0, .ref (ad 32)), (1, .ref (ad 4)), (2, .int 5), (3, .int vu), (4, .int vp)]) hx hb dX5_walkOn_109 hl (k := 0) rfl rfl (by decide) rfl (fun ls hl => ?_)
          refine loc_gen (P := fun w9 => lv_has ls 9 [(8, .int w9), (7, .int 6), (6, .int r3), (5, .int y1), (0, .ref (ad 32)), (1, .ref (ad 4)), (2, .int 5), (3, .int vu), (4, .int vp)]) (v8_30 + 1) hl (fun w21 hw21 hl => ?_)
          have hl : lv_has ls 9 [(8, .int w21), (7, .int 6), (6, .int r3), (5, .int y1), (0, .ref (ad 32)), (1, .ref (ad 4)), (2, .int 5), (3, .int vu), (4, .int vp)] := hl
          have hF := mi_let hF hw21.symm
          have aw21 : w21.toInt = v8_30.toInt + 1 := by rw [← hw21]; first | exact va1 (Int.lt_of_le_of_lt h_v8_30.2 (by decide)) | exact va1 (by omega)
          refine lv_goto (tgt := 30) hx hb dX5_walkOn_112 (by decide) ?_
          exact ih30 (w21) nu30_ _ _ _ (by first | exact ms_up hm_30 aw21 h_v8_30.2 | exact ms_lt hm_30 (by omega) (by omega) | omega) (by first | exact rg_up aw21 h_v8_30 (by omega) | omega)  ok hP  kq30_0 hF hS (lv_sub hl [0, 1, 2, 3, 4, 5, 6, 7, 8] rfl)
  exact loop30 10 (0) mu _ _ _ (by have h80 : (0 : Int32).toInt = 0 := rfl; omega) (by have h80 : (0 : Int32).toInt = 0 := rfl; exact ⟨by omega, by omega⟩)  ok hP  (fun _ _ _ => rfl) hF hS hl
set_option maxHeartbeats 4000000 in
set_option maxRecDepth 100000 in
/-- sx_walkOn4 -/
theorem sx_walkOn4 (l : Launch) (dC : Nat → ClassId) (dI : Nat → Nat → Nat) (cs : Nat → ClassId) (ad : Nat → Nat) (mu : Nat → Nat → Int32) (ok : okR loX hiX mu) (H : Heap) (hP : va_P (dC, dI) vwCl (wR 157 ad (EX cs ad) mu) H) (hD0 : va_D (fun _ => True) (wR 157 ad (EX cs ad) mu)) (vu : Int32) (vp : Int32) : Met l yX5_walkOn (wU yX5_walkOn cX5_walkOn 9 none) ({ frames := 4, cells := 0, slots := 0, locals := 135 }) (va_Pc [.ref (ad 32), .ref (ad 4), .int 4, .int vu, .int vp] (sz_P (dC, dI) vwCl (tyW cs) H)) (va_Qv (fun (xi : Nat → Nat → Int32) => xi = F_sx_walkOn4 mu vu vp ∧ okR loX hiX xi ∧ (True) ∧ (∀ k f : Nat, Nat.testBit 510 (gpX k f) = true → xi k f = mu k f)) (fun xi t => va_P (dC, dI) vwCl (wR 157 ad (EX cs ad) xi) t.heap) (va_A (wR 157 ad (EX cs ad) mu) H.size)) 0 0 (va_A (wR 157 ad (EX cs ad) mu) H.size) := by
  refine Met.ofW (cc := cX5_walkOn) (maxL := 9) (ret := none) (by decide) rfl ?_
  intro p e s m args below meth c s₁ B hml hv
  obtain ⟨rfl, hh, hK, hz⟩ := hv
  have hx := B.exec
  have hb := B.bytes
  have hr := B.returns
  have hts := atoms_spec (ws := (wU yX5_walkOn cX5_walkOn 9 none)) B.pre
  have hown : s.vm.findClass RX5 = some m.cls := findClass_of_methodNamed B.named
  have hlocks := B.notSynchronized
  subst hh
  have hD := hD0.self (sz := s.heap.size)
  have hA : ∀ q : Nat, s.heap.size ≤ q → (va_A (wR 157 ad (EX cs ad) mu) s.heap.size) q := fun q h => Or.inr h
  have hS : va_S (va_A (wR 157 ad (EX cs ad) mu) s.heap.size) s.heap s.heap [] := va_S.rf
  have hl := lv_entry ([.ref (ad 32), .ref (ad 4), .int 4, .int vu, .int vp]) (n := 9) (Nat.le_of_ble_eq_true rfl)
  rw [lg_entry_eq]
  generalize (lg_sl ([.ref (ad 32), .ref (ad 4), .int 4, .int vu, .int vp]) ++ List.replicate (9 - (lg_sl ([.ref (ad 32), .ref (ad 4), .int 4, .int vu, .int vp])).length) Slot.unset).toArray = ls at hl ⊢
  have hl : lv_has ls 9 [(0, .ref (ad 32)), (1, .ref (ad 4)), (2, .int 4), (3, .int vu), (4, .int vp)] := hl
  obtain ⟨fz, hfz⟩ : ∃ z, F_sx_walkOn4 mu vu vp = z := ⟨_, rfl⟩
  have hF := hfz
  unfold F_sx_walkOn4 at hF
  refine lv_aload_n hx hb dX5_walkOn_0 rfl (lv_at hl 0 rfl) ?_
  refine va_get (D := (dC, dI)) (ci := 5) (v := .ref (ad 54)) (C := RX5) (T := TX5) (N := 15) hx hb hts inG5 hown hK hP 32 (gX_32 cs ad mu) rfl 2 (by decide) (hts _ (List.mem_cons_of_mem _ mw_2_48)) (fun _ h9 => h9) rfl dX5_walkOn_1 ?_
  refine lv_iload_n hx hb dX5_walkOn_4 rfl (lv_at hl 2 rfl) ?_
  refine va_iald hx hb hK hP 54 0 (gX_54 cs ad mu) rfl (show vp_in 4 7 from (by unfold vp_in; decide)) dX5_walkOn_5 ?_
  refine lv_topi (fun y1 ey1 => ?_)
  have hF := mi_let hF ey1
  have by1 : y1.toInt = (mu 54 (4 : Int32).toNatClampNeg).toInt := congrArg Int32.toInt ey1
  have gy1 : 0 ≤ y1.toInt ∧ y1.toInt ≤ 6 := by rw [ey1]; exact rX_54_s ok (4 : Int32).toNatClampNeg
  refine lv_istore (lv' := [(5, .int y1), (0, .ref (ad 32)), (1, .ref (ad 4)), (2, .int 4), (3, .int vu), (4, .int vp)]) hx hb dX5_walkOn_6 hl (by decide) rfl (fun ls hl => ?_)
  refine lv_aload_n hx hb dX5_walkOn_8 rfl (lv_at hl 2 rfl) ?_
  refine va_get (D := (dC, dI)) (ci := 10) (v := .ref (ad 34)) (C := RX10) (T := TX10) (N := 8) hx hb hts inG10 hown hK hP 4 (gX_4 cs ad mu) rfl 0 (by decide) (hts _ (List.mem_cons_of_mem _ mw_1_146)) (fun _ h9 => h9) rfl dX5_walkOn_9 ?_
  refine lv_iload hx hb dX5_walkOn_12 (lv_at hl 0 rfl) ?_
  refine va_iald hx hb hK hP 34 0 (gX_34 cs ad mu) rfl (show vp_in y1 7 from vi_of (by omega) (by omega)) dX5_walkOn_14 ?_
  refine lv_topi (fun y2 ey2 => ?_)
  have hF := mi_let hF ey2
  have by2 : y2.toInt = (mu 34 y1.toNatClampNeg).toInt := congrArg Int32.toInt ey2
  refine lv_iload hx hb dX5_walkOn_15 (lv_at hl 5 rfl) ?_
  refine cr_i (va_runSN (As := [.int y2, .int vp]) (rest := []) ⟨hx, hb, hml, hown, hts⟩ (sx_priceAsked l dC dI (tyW cs) s.heap y2 vp) ⟨va_cnB 2 hts (wU_in mw_3_107) rfl rfl rfl (hz.2.2.2.2.2.2.2.2.2.2.2.2.2.1) (hts _ (List.mem_cons_of_mem _ mw_1_1)) (by decide +kernel) ⟨Nat.le_of_ble_eq_true rfl, Nat.le_of_ble_eq_true rfl⟩, (hts _ (List.mem_cons_of_mem _ mw_3_106)), trivial⟩ ⟨sz_c, sz_m hK hz⟩ rfl rfl hl.1 rfl (lv_room (Nat.le_of_ble_eq_true rfl)) dX5_walkOn_17 ⟨Nat.zero_le _, Nat.zero_le _⟩) hS (fun r3 hw3 locs hS => ?_)
  obtain ⟨hfe3, hw3⟩ := hw3
  have hF := mi_let hF hfe3
  refine lv_istore (lv' := [(6, .int r3), (5, .int y1), (0, .ref (ad 32)), (1, .ref (ad 4)), (2, .int 4), (3, .int vu), (4, .int vp)]) hx hb dX5_walkOn_20 hl (by decide) rfl (fun ls hl => ?_)
  refine lv_iload_n hx hb dX5_walkOn_22 rfl (lv_at hl 4 rfl) ?_
  refine lv_iconst (v := 1) hx hb dX5_walkOn_23 (by decide) ?_
  refine lv_iadd hx hb dX5_walkOn_24 ?_
  refine lq_i 5 (by decide) ?_
  refine lv_istore (lv' := [(7, .int 5), (6, .int r3), (5, .int y1), (0, .ref (ad 32)), (1, .ref (ad 4)), (2, .int 4), (3, .int vu), (4, .int vp)]) hx hb dX5_walkOn_25 hl (by decide) rfl (fun ls hl => ?_)
  refine lv_iconst (v := 0) hx hb dX5_walkOn_27 (by decide) ?_
  refine lv_istore (lv' := [(8, .int 0), (7, .int 5), (6, .int r3), (5, .int y1), (0, .ref (ad 32)), (1, .ref (ad 4)), (2, .int 4), (3, .int vu), (4, .int vp)]) hx hb dX5_walkOn_28 hl (by decide) rfl (fun ls hl => ?_)
  have loop30 : ∀ (n30 : Nat) (v8_30 : Int32) (nu30_ : Nat → Nat → Int32) (H : Heap) (locs : List Loc) (ls : Array Slot), (7 + 1 - v8_30.toInt).toNat < n30 → (0 ≤ v8_30.toInt ∧ v8_30.toInt ≤ 7) → okR loX hiX nu30_ → va_P (dC, dI) vwCl (wR 157 ad (EX cs ad) nu30_) H → (∀ k f : Nat, Nat.testBit 510 (gpX k f) = true → nu30_ k f = mu k f) → L_sx_walkOn4_30_0 r3 vu y1 n30 v8_30 nu30_ = fz → va_S (va_A (wR 157 ad (EX cs ad) mu) s.heap.size) s.heap H locs → lv_has ls 9 [(8, .int v8_30), (7, .int 5), (6, .int r3), (5, .int y1), (0, .ref (ad 32)), (1, .ref (ad 4)), (2, .int 4), (3, .int vu), (4, .int vp)] → W p l e (headSpec (wU yX5_walkOn cX5_walkOn 9 none) ({ frames := 4, cells := 0, slots := 0, locals := 135 })).room s m ([.ref (ad 32), .ref (ad 4), .int 4, .int vu, .int vp] : List Value).toArray below meth c H locs 0 0 (MQ below (va_Qv (fun (xi : Nat → Nat → Int32) => xi = F_sx_walkOn4 mu vu vp ∧ okR loX hiX xi ∧ (True) ∧ (∀ k f : Nat, Nat.testBit 510 (gpX k f) = true → xi k f = mu k f)) (fun xi t => va_P (dC, dI) vwCl (wR 157 ad (EX cs ad) xi) t.heap) (va_A (wR 157 ad (EX cs ad) mu) s.heap.size)) ([.ref (ad 32), .ref (ad 4), .int 4, .int vu, .int vp] : List Value).toArray s 0 0 (va_A (wR 157 ad (EX cs ad) mu) s.heap.size)) (F0 m 30 ls []) := by
    intro n30
    induction n30 with
    | zero => intro v8_30 nu30_ H locs ls hm; exact absurd hm (Nat.not_lt_zero _)
    | succ n30 ih30 =>
      intro v8_30 nu30_ H locs ls hm_30 h_v8_30 ok hP kq30_0 hF hS hl
      rw [L_sx_walkOn4_30_0] at hF
      refine lv_iload hx hb dX5_walkOn_30 (lv_at hl 0 rfl) ?_
      refine lv_aload_n hx hb dX5_walkOn_32 rfl (lv_at hl 5 rfl) ?_
      refine va_get (D := (dC, dI)) (ci := 10) (v := .int (nu30_ 4 6)) (C := RX10) (T := TX10) (N := 8) hx hb hts inG10 hown hK hP 4 (gX_4 cs ad nu30_) rfl 6 (by decide) (hts _ (List.mem_cons_of_mem _ mw_1_162)) (fun _ h9 => h9) rfl dX5_walkOn_33 ?_
      refine lv_topi (fun y4 ey4 => ?_)
      have hF := mi_let hF ey4
      have by4 : y4.toInt = (nu30_ 4 6).toInt := congrArg Int32.toInt ey4
      have gy4 : 0 ≤ y4.toInt ∧ y4.toInt ≤ 7 := by rw [ey4]; exact rX_4_6 ok
      refine lv_icmp_ge (tgt := 115) hx hb dX5_walkOn_36 (by decide) (fun c_5 => ?_) (fun c_5 => ?_)
      · have hF := (if_pos c_5).symm.trans hF
        have c_5 : y4.toInt ≤ v8_30.toInt := il_le c_5
        exact W.vret hx hb hr (fun t ht hW => ⟨⟨nu30_, rfl, ⟨hF.trans hfz.symm, ok, trivial, kq30_0⟩, by first | (subst ht; exact hP) | (rw [ht]; exact hP) | (show va_P (dC, dI) vwCl (wR 157 ad (EX cs ad) nu30_) t.heap; rw [ht]; exact hP)⟩, hS.F ht⟩) hS.2.2 dX5_walkOn_115
      · have hF := (if_neg c_5).symm.trans hF
        have c_5 : v8_30.toInt < y4.toInt := il_nle c_5
        refine lv_iload hx hb dX5_walkOn_39 (lv_at hl 1 rfl) ?_
        refine lv_bipush (v := 7) hx hb dX5_walkOn_41 (by decide) ?_
        refine lv_icmp_ge (tgt := 115) hx hb dX5_walkOn_43 (by decide) (fun c => absurd c (by decide)) (fun _ => ?_)
        refine lv_aload_n hx hb dX5_walkOn_46 rfl (lv_at hl 4 rfl) ?_
        refine lv_aload_n hx hb dX5_walkOn_47 rfl (lv_at hl 5 rfl) ?_
        refine lv_iload hx hb dX5_walkOn_48 (lv_at hl 3 rfl) ?_
        refine lv_iload hx hb dX5_walkOn_50 (lv_at hl 0 rfl) ?_
        refine lv_iload_n hx hb dX5_walkOn_52 rfl (lv_at hl 7 rfl) ?_
        refine lv_iload hx hb dX5_walkOn_53 (lv_at hl 2 rfl) ?_
        refine cr_i (va_runV (As := [.ref (ad 4), .int y1, .int v8_30, .int vu, .int r3]) (rest := []) ⟨hx, hb, hml, hown, hts⟩ (sx_buys l dC dI cs ad nu30_ ok H hP y1 v8_30 vu r3 (by omega)) (cwV 5 hts (wU_V mw_4_34 mw_4_31 mw_4_33 mw_0_14 mw_1_8) rfl rfl rfl (by decide +kernel) ⟨Nat.le_of_ble_eq_true rfl, Nat.le_of_ble_eq_true rfl⟩) ⟨sz_c, va_recv hK hP (ci := 5) (q0 := 32) rfl (gX_32 cs ad nu30_), sz_m hK hz⟩ rfl rfl hl.1 rfl (lv_room (Nat.le_of_ble_eq_true rfl)) dX5_walkOn_55 ⟨Nat.zero_le _, Nat.zero_le _⟩) hS (fun r6 hw6 locs hS => ?_)
        obtain ⟨hfe6, hw6⟩ := hw6
        have hF := mi_let hF hfe6
        have gr6 : 0 ≤ r6.toInt ∧ r6.toInt ≤ 1 := hw6
        refine lv_if_ne (tgt := 64) hx hb dX5_walkOn_58 (by decide) (fun c_7 => ?_) (fun c_7 => ?_)
        · have hF := (if_neg c_7).symm.trans hF
          have c_7 : ¬ r6.toInt = 0 := il_ne c_7
          refine lv_aload_n hx hb dX5_walkOn_64 rfl (lv_at hl 4 rfl) ?_
          refine va_get (D := (dC, dI)) (ci := 5) (v := .ref (ad 54)) (C := RX5) (T := TX5) (N := 15) hx hb hts inG5 hown hK hP 32 (gX_32 cs ad nu30_) rfl 2 (by decide) (hts _ (List.mem_cons_of_mem _ mw_2_48)) (fun _ h9 => h9) rfl dX5_walkOn_65 ?_
          refine lv_iload hx hb dX5_walkOn_68 (lv_at hl 1 rfl) ?_
          refine lv_iload hx hb dX5_walkOn_70 (lv_at hl 0 rfl) ?_
          refine va_iast hx hb hK hP (wR_D nu30_ hD) hS 54 0 (gX_54 cs ad nu30_) rfl (show vp_in 5 7 from (by unfold vp_in; decide)) dX5_walkOn_72 (fun H locs hP _ hS => ?_)
          refine wr_gen (upd (nu30_ 54) (5 : Int32).toNatClampNeg v8_30) hP (rfl) (fun nu8 hn8 hP => ?_)
          have hF := mi_let hF hn8.symm
          have ok := tX_54_s ok (5 : Int32).toNatClampNeg hn8 (by omega)
          have ez9 : y4 = nu8 4 6 := ey4.trans (congrFun (up_k hn8 (by decide)) 6).symm
          have kp10 : (∀ k f : Nat, Nat.testBit 510 (gpX k f) = true → nu8 k f = mu k f) := kp_c 0 hn8 (fun _ => rfl) (by decide) kq30_0
          refine lv_iload hx hb dX5_walkOn_73 (lv_at hl 0 rfl) ?_
          refine lv_aload_n hx hb dX5_walkOn_75 rfl (lv_at hl 4 rfl) ?_
          refine va_get (D := (dC, dI)) (ci := 5) (v := .int (nu8 32 6)) (C := RX5) (T := TX5) (N := 15) hx hb hts inG5 hown hK hP 32 (gX_32 cs ad nu8) rfl 6 (by decide) (hts _ (List.mem_cons_of_mem _ mw_2_54)) (fun _ h9 => h9) rfl dX5_walkOn_76 ?_
          refine lv_topi (fun y11 ey11 => ?_)
          have hF := mi_let hF ey11
          have by11 : y11.toInt = (nu8 32 6).toInt := congrArg Int32.toInt ey11
          have gy11 : 0 ≤ y11.toInt ∧ y11.toInt ≤ 6 := by rw [ey11]; exact rX_32_6 ok
          refine lv_icmp_ne (tgt := 94) hx hb dX5_walkOn_79 (by decide) (fun c_12 => ?_) (fun c_12 => ?_)
          · have hF := (if_neg c_12).symm.trans hF
            have c_12 : ¬ v8_30.toInt = y11.toInt := il_ne c_12
            refine lv_aload_n hx hb dX5_walkOn_94 rfl (lv_at hl 4 rfl) ?_
            refine lv_aload_n hx hb dX5_walkOn_95 rfl (lv_at hl 5 rfl) ?_
            refine lv_iload hx hb dX5_walkOn_96 (lv_at hl 1 rfl) ?_
            refine lv_iload_n hx hb dX5_walkOn_98 rfl (lv_at hl 7 rfl) ?_
            refine lv_iconst (v := 1) hx hb dX5_walkOn_99 (by decide) ?_
            refine lv_iload hx hb dX5_walkOn_100 (lv_at hl 0 rfl) ?_
            refine lv_ishl hx hb dX5_walkOn_102 ?_
            refine lv_topi (fun t13 et13 => ?_)
            have hF := mi_let hF et13
            refine lv_ior hx hb dX5_walkOn_103 ?_
            refine lv_topi (fun t14 et14 => ?_)
            have hF := mi_let hF et14
            refine lv_iload hx hb dX5_walkOn_104 (lv_at hl 2 rfl) ?_
            have hFc := fr_all (wR_D nu8 hD) hS hA
            refine va_callv (va_runV (As := [.ref (ad 4), .int 5, .int t14, .int r3]) (rest := []) ⟨hx, hb, hml, hown, hts⟩ (sx_walkOn5 l dC dI cs ad nu8 ok H hP ((wR_D nu8 hD).weaken (fun _ _ _ _ => trivial)) t14 r3) (cwV 4 hts (wU_V mw_4_29 mw_4_26 mw_4_28 mw_0_13 mw_1_8) rfl rfl rfl (by decide +kernel) ⟨Nat.le_of_ble_eq_true rfl, Nat.le_of_ble_eq_true rfl⟩) ⟨sz_c, va_recv hK hP (ci := 5) (q0 := 32) rfl (gX_32 cs ad nu8), sz_m hK hz⟩ rfl rfl hl.1 rfl (lv_room (Nat.le_of_ble_eq_true rfl)) dX5_walkOn_106 ⟨Nat.zero_le _, Nat.zero_le _⟩) hS (fun q _ h => hFc q h) hFc (fun xi15 t H15 locs ht hvm hw15 hB hz1 hk1 hS => ?_)
            have hP : va_P (dC, dI) vwCl (wR 157 ad (EX cs ad) xi15) H15 := by rw [← ht]; exact hB
            obtain ⟨hfe15, ok, hw15, hkp15_0⟩ := hw15
            have hF := mi_let hF hfe15
            have kp16 : (∀ k f : Nat, Nat.testBit 510 (gpX k f) = true → xi15 k f = mu k f) := kp_t hkp15_0 (by decide) kp10
            refine lv_iinc (v := (v8_30 + 1)) (lv' := [(8, .int (v8_30 + 1)), (7, .int 5), (6, .int r3), (5, .int y1), (0, .ref (ad 32)), (1, .ref (ad 4)), (2, .int 4), (3, .int vu), (4, .int vp)]) hx hb dX5_walkOn_109 hl (k := 0) rfl rfl (by decide) rfl (fun ls hl => ?_)
            refine loc_gen (P := fun w9 => lv_has ls 9 [(8, .int w9), (7, .int 5), (6, .int r3), (5, .int y1), (0, .ref (ad 32)), (1, .ref (ad 4)), (2, .int 4), (3, .int vu), (4, .int vp)]) (v8_30 + 1) hl (fun w17 hw17 hl => ?_)
            have hl : lv_has ls 9 [(8, .int w17), (7, .int 5), (6, .int r3), (5, .int y1), (0, .ref (ad 32)), (1, .ref (ad 4)), (2, .int 4), (3, .int vu), (4, .int vp)] := hl
            have hF := mi_let hF hw17.symm
            have aw17 : w17.toInt = v8_30.toInt + 1 := by rw [← hw17]; first | exact va1 (Int.lt_of_le_of_lt h_v8_30.2 (by decide)) | exact va1 (by omega)
            refine lv_goto (tgt := 30) hx hb dX5_walkOn_112 (by decide) ?_
            exact ih30 (w17) xi15 _ _ _ (by first | exact ms_up hm_30 aw17 h_v8_30.2 | exact ms_lt hm_30 (by omega) (by omega) | omega) (by first | exact rg_up aw17 h_v8_30 (by omega) | omega)  ok hP  kp16 hF hS (lv_sub hl [0, 1, 2, 3, 4, 5, 6, 7, 8] rfl)
          · have hF := (if_pos c_12).symm.trans hF
            have c_12 : v8_30.toInt = y11.toInt := il_eq c_12
            refine lv_aload_n hx hb dX5_walkOn_82 rfl (lv_at hl 4 rfl) ?_
            refine lv_iload hx hb dX5_walkOn_83 (lv_at hl 1 rfl) ?_
            refine lv_iload_n hx hb dX5_walkOn_85 rfl (lv_at hl 7 rfl) ?_
            refine lv_iload hx hb dX5_walkOn_86 (lv_at hl 2 rfl) ?_
            have hFc := fr_all (wR_D nu8 hD) hS hA
            refine va_callv (va_runV (As := [.int 5, .int vu, .int r3]) (rest := []) ⟨hx, hb, hml, hown, hts⟩ (sx_R_arrive l dC dI cs ad nu8 ok H hP ((wR_D nu8 hD).weaken (fun _ _ _ _ => trivial)) 5 vu r3 (by have h50 : (5 : Int32).toInt = 5 := rfl; omega)) (cwV 3 hts (wU_V mw_4_39 mw_4_36 mw_4_38 mw_0_15 mw_1_8) rfl rfl rfl (by decide +kernel) ⟨Nat.le_of_ble_eq_true rfl, Nat.le_of_ble_eq_true rfl⟩) ⟨sz_c, va_recv hK hP (ci := 5) (q0 := 32) rfl (gX_32 cs ad nu8), sz_m hK hz⟩ rfl rfl hl.1 rfl (lv_room (Nat.le_of_ble_eq_true rfl)) dX5_walkOn_88 ⟨Nat.zero_le _, Nat.zero_le _⟩) hS (fun q _ h => hFc q h) hFc (fun xi18 t H18 locs ht hvm hw18 hB hz1 hk1 hS => ?_)
            have hP : va_P (dC, dI) vwCl (wR 157 ad (EX cs ad) xi18) H18 := by rw [← ht]; exact hB
            obtain ⟨hfe18, ok, hw18, hkp18_0⟩ := hw18
            have hF := mi_let hF hfe18
            have kp19 : (∀ k f : Nat, Nat.testBit 510 (gpX k f) = true → xi18 k f = mu k f) := kp_t hkp18_0 (by decide) kp10
            refine lv_goto (tgt := 109) hx hb dX5_walkOn_91 (by decide) ?_
            refine lv_iinc (v := (v8_30 + 1)) (lv' := [(8, .int (v8_30 + 1)), (7, .int 5), (6, .int r3), (5, .int y1), (0, .ref (ad 32)), (1, .ref (ad 4)), (2, .int 4), (3, .int vu), (4, .int vp)]) hx hb dX5_walkOn_109 hl (k := 0) rfl rfl (by decide) rfl (fun ls hl => ?_)
            refine loc_gen (P := fun w9 => lv_has ls 9 [(8, .int w9), (7, .int 5), (6, .int r3), (5, .int y1), (0, .ref (ad 32)), (1, .ref (ad 4)), (2, .int 4), (3, .int vu), (4, .int vp)]) (v8_30 + 1) hl (fun w20 hw20 hl => ?_)
            have hl : lv_has ls 9 [(8, .int w20), (7, .int 5), (6, .int r3), (5, .int y1), (0, .ref (ad 32)), (1, .ref (ad 4)), (2, .int 4), (3, .int vu), (4, .int vp)] := hl
            have hF := mi_let hF hw20.symm
            have aw20 : w20.toInt = v8_30.toInt + 1 := by rw [← hw20]; first | exact va1 (Int.lt_of_le_of_lt h_v8_30.2 (by decide)) | exact va1 (by omega)
            refine lv_goto (tgt := 30) hx hb dX5_walkOn_112 (by decide) ?_
            exact ih30 (w20) xi18 _ _ _ (by first | exact ms_up hm_30 aw20 h_v8_30.2 | exact ms_lt hm_30 (by omega) (by omega) | omega) (by first | exact rg_up aw20 h_v8_30 (by omega) | omega)  ok hP  kp19 hF hS (lv_sub hl [0, 1, 2, 3, 4, 5, 6, 7, 8] rfl)
        · have hF := (if_pos c_7).symm.trans hF
          have c_7 : r6.toInt = 0 := il_eq c_7
          refine lv_goto (tgt := 109) hx hb dX5_walkOn_61 (by decide) ?_
          refine lv_iinc (v := (v8_30 + 1)) (lv' := [(8, .int (v8_30 + 1)), (7, .int 5), (6, .int r3), (5, .int y1), (0, .ref (ad 32)), (1, .ref (ad 4)), (2, .int 4), (3, .int vu), (4, .int vp)]) hx hb dX5_walkOn_109 hl (k := 0) rfl rfl (by decide) rfl (fun ls hl => ?_)
          refine loc_gen (P := fun w9 => lv_has ls 9 [(8, .int w9), (7, .int 5), (6, .int r3), (5, .int y1), (0, .ref (ad 32)), (1, .ref (ad 4)), (2, .int 4), (3, .int vu), (4, .int vp)]) (v8_30 + 1) hl (fun w21 hw21 hl => ?_)
          have hl : lv_has ls 9 [(8, .int w21), (7, .int 5), (6, .int r3), (5, .int y1), (0, .ref (ad 32)), (1, .ref (ad 4)), (2, .int 4), (3, .int vu), (4, .int vp)] := hl
          have hF := mi_let hF hw21.symm
          have aw21 : w21.toInt = v8_30.toInt + 1 := by rw [← hw21]; first | exact va1 (Int.lt_of_le_of_lt h_v8_30.2 (by decide)) | exact va1 (by omega)
          refine lv_goto (tgt := 30) hx hb dX5_walkOn_112 (by decide) ?_
          exact ih30 (w21) nu30_ _ _ _ (by first | exact ms_up hm_30 aw21 h_v8_30.2 | exact ms_lt hm_30 (by omega) (by omega) | omega) (by first | exact rg_up aw21 h_v8_30 (by omega) | omega)  ok hP  kq30_0 hF hS (lv_sub hl [0, 1, 2, 3, 4, 5, 6, 7, 8] rfl)
  exact loop30 10 (0) mu _ _ _ (by have h80 : (0 : Int32).toInt = 0 := rfl; omega) (by have h80 : (0 : Int32).toInt = 0 := rfl; exact ⟨by omega, by omega⟩)  ok hP  (fun _ _ _ => rfl) hF hS hl
set_option maxHeartbeats 4000000 in
set_option maxRecDepth 100000 in
/-- sx_walkOn3 -/
theorem sx_walkOn3 (l : Launch) (dC : Nat → ClassId) (dI : Nat → Nat → Nat) (cs : Nat → ClassId) (ad : Nat → Nat) (mu : Nat → Nat → Int32) (ok : okR loX hiX mu) (H : Heap) (hP : va_P (dC, dI) vwCl (wR 157 ad (EX cs ad) mu) H) (hD0 : va_D (fun _ => True) (wR 157 ad (EX cs ad) mu)) (vu : Int32) (vp : Int32) : Met l yX5_walkOn (wU yX5_walkOn cX5_walkOn 9 none) ({ frames := 5, cells := 0, slots := 0, locals := 163 }) (va_Pc [.ref (ad 32), .ref (ad 4), .int 3, .int vu, .int vp] (sz_P (dC, dI) vwCl (tyW cs) H)) (va_Qv (fun (xi : Nat → Nat → Int32) => xi = F_sx_walkOn3 mu vu vp ∧ okR loX hiX xi ∧ (True) ∧ (∀ k f : Nat, Nat.testBit 510 (gpX k f) = true → xi k f = mu k f)) (fun xi t => va_P (dC, dI) vwCl (wR 157 ad (EX cs ad) xi) t.heap) (va_A (wR 157 ad (EX cs ad) mu) H.size)) 0 0 (va_A (wR 157 ad (EX cs ad) mu) H.size) := by
  refine Met.ofW (cc := cX5_walkOn) (maxL := 9) (ret := none) (by decide) rfl ?_
  intro p e s m args below meth c s₁ B hml hv
  obtain ⟨rfl, hh, hK, hz⟩ := hv
  have hx := B.exec
  have hb := B.bytes
  have hr := B.returns
  have hts := atoms_spec (ws := (wU yX5_walkOn cX5_walkOn 9 none)) B.pre
  have hown : s.vm.findClass RX5 = some m.cls := findClass_of_methodNamed B.named
  have hlocks := B.notSynchronized
  subst hh
  have hD := hD0.self (sz := s.heap.size)
  have hA : ∀ q : Nat, s.heap.size ≤ q → (va_A (wR 157 ad (EX cs ad) mu) s.heap.size) q := fun q h => Or.inr h
  have hS : va_S (va_A (wR 157 ad (EX cs ad) mu) s.heap.size) s.heap s.heap [] := va_S.rf
  have hl := lv_entry ([.ref (ad 32), .ref (ad 4), .int 3, .int vu, .int vp]) (n := 9) (Nat.le_of_ble_eq_true rfl)
  rw [lg_entry_eq]
  generalize (lg_sl ([.ref (ad 32), .ref (ad 4), .int 3, .int vu, .int vp]) ++ List.replicate (9 - (lg_sl ([.ref (ad 32), .ref (ad 4), .int 3, .int vu, .int vp])).length) Slot.unset).toArray = ls at hl ⊢
  have hl : lv_has ls 9 [(0, .ref (ad 32)), (1, .ref (ad 4)), (2, .int 3), (3, .int vu), (4, .int vp)] := hl
  obtain ⟨fz, hfz⟩ : ∃ z, F_sx_walkOn3 mu vu vp = z := ⟨_, rfl⟩
  have hF := hfz
  unfold F_sx_walkOn3 at hF
  refine lv_aload_n hx hb dX5_walkOn_0 rfl (lv_at hl 0 rfl) ?_
  refine va_get (D := (dC, dI)) (ci := 5) (v := .ref (ad 54)) (C := RX5) (T := TX5) (N := 15) hx hb hts inG5 hown hK hP 32 (gX_32 cs ad mu) rfl 2 (by decide) (hts _ (List.mem_cons_of_mem _ mw_2_48)) (fun _ h9 => h9) rfl dX5_walkOn_1 ?_
  refine lv_iload_n hx hb dX5_walkOn_4 rfl (lv_at hl 2 rfl) ?_
  refine va_iald hx hb hK hP 54 0 (gX_54 cs ad mu) rfl (show vp_in 3 7 from (by unfold vp_in; decide)) dX5_walkOn_5 ?_
  refine lv_topi (fun y1 ey1 => ?_)
  have hF := mi_let hF ey1
  have by1 : y1.toInt = (mu 54 (3 : Int32).toNatClampNeg).toInt := congrArg Int32.toInt ey1
  have gy1 : 0 ≤ y1.toInt ∧ y1.toInt ≤ 6 := by rw [ey1]; exact rX_54_s ok (3 : Int32).toNatClampNeg
  refine lv_istore (lv' := [(5, .int y1), (0, .ref (ad 32)), (1, .ref (ad 4)), (2, .int 3), (3, .int vu), (4, .int vp)]) hx hb dX5_walkOn_6 hl (by decide) rfl (fun ls hl => ?_)
  refine lv_aload_n hx hb dX5_walkOn_8 rfl (lv_at hl 2 rfl) ?_
  refine va_get (D := (dC, dI)) (ci := 10) (v := .ref (ad 34)) (C := RX10) (T := TX10) (N := 8) hx hb hts inG10 hown hK hP 4 (gX_4 cs ad mu) rfl 0 (by decide) (hts _ (List.mem_cons_of_mem _ mw_1_146)) (fun _ h9 => h9) rfl dX5_walkOn_9 ?_
  refine lv_iload hx hb dX5_walkOn_12 (lv_at hl 0 rfl) ?_
  refine va_iald hx hb hK hP 34 0 (gX_34 cs ad mu) rfl (show vp_in y1 7 from vi_of (by omega) (by omega)) dX5_walkOn_14 ?_
  refine lv_topi (fun y2 ey2 => ?_)
  have hF := mi_let hF ey2
  have by2 : y2.toInt = (mu 34 y1.toNatClampNeg).toInt := congrArg Int32.toInt ey2
  refine lv_iload hx hb dX5_walkOn_15 (lv_at hl 5 rfl) ?_
  refine cr_i (va_runSN (As := [.int y2, .int vp]) (rest := []) ⟨hx, hb, hml, hown, hts⟩ (sx_priceAsked l dC dI (tyW cs) s.heap y2 vp) ⟨va_cnB 2 hts (wU_in mw_3_107) rfl rfl rfl (hz.2.2.2.2.2.2.2.2.2.2.2.2.2.1) (hts _ (List.mem_cons_of_mem _ mw_1_1)) (by decide +kernel) ⟨Nat.le_of_ble_eq_true rfl, Nat.le_of_ble_eq_true rfl⟩, (hts _ (List.mem_cons_of_mem _ mw_3_106)), trivial⟩ ⟨sz_c, sz_m hK hz⟩ rfl rfl hl.1 rfl (lv_room (Nat.le_of_ble_eq_true rfl)) dX5_walkOn_17 ⟨Nat.zero_le _, Nat.zero_le _⟩) hS (fun r3 hw3 locs hS => ?_)
  obtain ⟨hfe3, hw3⟩ := hw3
  have hF := mi_let hF hfe3
  refine lv_istore (lv' := [(6, .int r3), (5, .int y1), (0, .ref (ad 32)), (1, .ref (ad 4)), (2, .int 3), (3, .int vu), (4, .int vp)]) hx hb dX5_walkOn_20 hl (by decide) rfl (fun ls hl => ?_)
  refine lv_iload_n hx hb dX5_walkOn_22 rfl (lv_at hl 4 rfl) ?_
  refine lv_iconst (v := 1) hx hb dX5_walkOn_23 (by decide) ?_
  refine lv_iadd hx hb dX5_walkOn_24 ?_
  refine lq_i 4 (by decide) ?_
  refine lv_istore (lv' := [(7, .int 4), (6, .int r3), (5, .int y1), (0, .ref (ad 32)), (1, .ref (ad 4)), (2, .int 3), (3, .int vu), (4, .int vp)]) hx hb dX5_walkOn_25 hl (by decide) rfl (fun ls hl => ?_)
  refine lv_iconst (v := 0) hx hb dX5_walkOn_27 (by decide) ?_
  refine lv_istore (lv' := [(8, .int 0), (7, .int 4), (6, .int r3), (5, .int y1), (0, .ref (ad 32)), (1, .ref (ad 4)), (2, .int 3), (3, .int vu), (4, .int vp)]) hx hb dX5_walkOn_28 hl (by decide) rfl (fun ls hl => ?_)
  have loop30 : ∀ (n30 : Nat) (v8_30 : Int32) (nu30_ : Nat → Nat → Int32) (H : Heap) (locs : List Loc) (ls : Array Slot), (7 + 1 - v8_30.toInt).toNat < n30 → (0 ≤ v8_30.toInt ∧ v8_30.toInt ≤ 7) → okR loX hiX nu30_ → va_P (dC, dI) vwCl (wR 157 ad (EX cs ad) nu30_) H → (∀ k f : Nat, Nat.testBit 510 (gpX k f) = true → nu30_ k f = mu k f) → L_sx_walkOn3_30_0 r3 vu y1 n30 v8_30 nu30_ = fz → va_S (va_A (wR 157 ad (EX cs ad) mu) s.heap.size) s.heap H locs → lv_has ls 9 [(8, .int v8_30), (7, .int 4), (6, .int r3), (5, .int y1), (0, .ref (ad 32)), (1, .ref (ad 4)), (2, .int 3), (3, .int vu), (4, .int vp)] → W p l e (headSpec (wU yX5_walkOn cX5_walkOn 9 none) ({ frames := 5, cells := 0, slots := 0, locals := 163 })).room s m ([.ref (ad 32), .ref (ad 4), .int 3, .int vu, .int vp] : List Value).toArray below meth c H locs 0 0 (MQ below (va_Qv (fun (xi : Nat → Nat → Int32) => xi = F_sx_walkOn3 mu vu vp ∧ okR loX hiX xi ∧ (True) ∧ (∀ k f : Nat, Nat.testBit 510 (gpX k f) = true → xi k f = mu k f)) (fun xi t => va_P (dC, dI) vwCl (wR 157 ad (EX cs ad) xi) t.heap) (va_A (wR 157 ad (EX cs ad) mu) s.heap.size)) ([.ref (ad 32), .ref (ad 4), .int 3, .int vu, .int vp] : List Value).toArray s 0 0 (va_A (wR 157 ad (EX cs ad) mu) s.heap.size)) (F0 m 30 ls []) := by
    intro n30
    induction n30 with
    | zero => intro v8_30 nu30_ H locs ls hm; exact absurd hm (Nat.not_lt_zero _)
    | succ n30 ih30 =>
      intro v8_30 nu30_ H locs ls hm_30 h_v8_30 ok hP kq30_0 hF hS hl
      rw [L_sx_walkOn3_30_0] at hF
      refine lv_iload hx hb dX5_walkOn_30 (lv_at hl 0 rfl) ?_
      refine lv_aload_n hx hb dX5_walkOn_32 rfl (lv_at hl 5 rfl) ?_
      refine va_get (D := (dC, dI)) (ci := 10) (v := .int (nu30_ 4 6)) (C := RX10) (T := TX10) (N := 8) hx hb hts inG10 hown hK hP 4 (gX_4 cs ad nu30_) rfl 6 (by decide) (hts _ (List.mem_cons_of_mem _ mw_1_162)) (fun _ h9 => h9) rfl dX5_walkOn_33 ?_
      refine lv_topi (fun y4 ey4 => ?_)
      have hF := mi_let hF ey4
      have by4 : y4.toInt = (nu30_ 4 6).toInt := congrArg Int32.toInt ey4
      have gy4 : 0 ≤ y4.toInt ∧ y4.toInt ≤ 7 := by rw [ey4]; exact rX_4_6 ok
      refine lv_icmp_ge (tgt := 115) hx hb dX5_walkOn_36 (by decide) (fun c_5 => ?_) (fun c_5 => ?_)
      · have hF := (if_pos c_5).symm.trans hF
        have c_5 : y4.toInt ≤ v8_30.toInt := il_le c_5
        exact W.vret hx hb hr (fun t ht hW => ⟨⟨nu30_, rfl, ⟨hF.trans hfz.symm, ok, trivial, kq30_0⟩, by first | (subst ht; exact hP) | (rw [ht]; exact hP) | (show va_P (dC, dI) vwCl (wR 157 ad (EX cs ad) nu30_) t.heap; rw [ht]; exact hP)⟩, hS.F ht⟩) hS.2.2 dX5_walkOn_115
      · have hF := (if_neg c_5).symm.trans hF
        have c_5 : v8_30.toInt < y4.toInt := il_nle c_5
        refine lv_iload hx hb dX5_walkOn_39 (lv_at hl 1 rfl) ?_
        refine lv_bipush (v := 7) hx hb dX5_walkOn_41 (by decide) ?_
        refine lv_icmp_ge (tgt := 115) hx hb dX5_walkOn_43 (by decide) (fun c => absurd c (by decide)) (fun _ => ?_)
        refine lv_aload_n hx hb dX5_walkOn_46 rfl (lv_at hl 4 rfl) ?_
        refine lv_aload_n hx hb dX5_walkOn_47 rfl (lv_at hl 5 rfl) ?_
        refine lv_iload hx hb dX5_walkOn_48 (lv_at hl 3 rfl) ?_
        refine lv_iload hx hb dX5_walkOn_50 (lv_at hl 0 rfl) ?_
        refine lv_iload_n hx hb dX5_walkOn_52 rfl (lv_at hl 7 rfl) ?_
        refine lv_iload hx hb dX5_walkOn_53 (lv_at hl 2 rfl) ?_
        refine cr_i (va_runV (As := [.ref (ad 4), .int y1, .int v8_30, .int vu, .int r3]) (rest := []) ⟨hx, hb, hml, hown, hts⟩ (sx_buys l dC dI cs ad nu30_ ok H hP y1 v8_30 vu r3 (by omega)) (cwV 5 hts (wU_V mw_4_34 mw_4_31 mw_4_33 mw_0_14 mw_1_8) rfl rfl rfl (by decide +kernel) ⟨Nat.le_of_ble_eq_true rfl, Nat.le_of_ble_eq_true rfl⟩) ⟨sz_c, va_recv hK hP (ci := 5) (q0 := 32) rfl (gX_32 cs ad nu30_), sz_m hK hz⟩ rfl rfl hl.1 rfl (lv_room (Nat.le_of_ble_eq_true rfl)) dX5_walkOn_55 ⟨Nat.zero_le _, Nat.zero_le _⟩) hS (fun r6 hw6 locs hS => ?_)
        obtain ⟨hfe6, hw6⟩ := hw6
        have hF := mi_let hF hfe6
        have gr6 : 0 ≤ r6.toInt ∧ r6.toInt ≤ 1 := hw6
        refine lv_if_ne (tgt := 64) hx hb dX5_walkOn_58 (by decide) (fun c_7 => ?_) (fun c_7 => ?_)
        · have hF := (if_neg c_7).symm.trans hF
          have c_7 : ¬ r6.toInt = 0 := il_ne c_7
          refine lv_aload_n hx hb dX5_walkOn_64 rfl (lv_at hl 4 rfl) ?_
          refine va_get (D := (dC, dI)) (ci := 5) (v := .ref (ad 54)) (C := RX5) (T := TX5) (N := 15) hx hb hts inG5 hown hK hP 32 (gX_32 cs ad nu30_) rfl 2 (by decide) (hts _ (List.mem_cons_of_mem _ mw_2_48)) (fun _ h9 => h9) rfl dX5_walkOn_65 ?_
          refine lv_iload hx hb dX5_walkOn_68 (lv_at hl 1 rfl) ?_
          refine lv_iload hx hb dX5_walkOn_70 (lv_at hl 0 rfl) ?_
          refine va_iast hx hb hK hP (wR_D nu30_ hD) hS 54 0 (gX_54 cs ad nu30_) rfl (show vp_in 4 7 from (by unfold vp_in; decide)) dX5_walkOn_72 (fun H locs hP _ hS => ?_)
          refine wr_gen (upd (nu30_ 54) (4 : Int32).toNatClampNeg v8_30) hP (rfl) (fun nu8 hn8 hP => ?_)
          have hF := mi_let hF hn8.symm
          have ok := tX_54_s ok (4 : Int32).toNatClampNeg hn8 (by omega)
          have ez9 : y4 = nu8 4 6 := ey4.trans (congrFun (up_k hn8 (by decide)) 6).symm
          have kp10 : (∀ k f : Nat, Nat.testBit 510 (gpX k f) = true → nu8 k f = mu k f) := kp_c 0 hn8 (fun _ => rfl) (by decide) kq30_0
          refine lv_iload hx hb dX5_walkOn_73 (lv_at hl 0 rfl) ?_
          refine lv_aload_n hx hb dX5_walkOn_75 rfl (lv_at hl 4 rfl) ?_
          refine va_get (D := (dC, dI)) (ci := 5) (v := .int (nu8 32 6)) (C := RX5) (T := TX5) (N := 15) hx hb hts inG5 hown hK hP 32 (gX_32 cs ad nu8) rfl 6 (by decide) (hts _ (List.mem_cons_of_mem _ mw_2_54)) (fun _ h9 => h9) rfl dX5_walkOn_76 ?_
          refine lv_topi (fun y11 ey11 => ?_)
          have hF := mi_let hF ey11
          have by11 : y11.toInt = (nu8 32 6).toInt := congrArg Int32.toInt ey11
          have gy11 : 0 ≤ y11.toInt ∧ y11.toInt ≤ 6 := by rw [ey11]; exact rX_32_6 ok
          refine lv_icmp_ne (tgt := 94) hx hb dX5_walkOn_79 (by decide) (fun c_12 => ?_) (fun c_12 => ?_)
          · have hF := (if_neg c_12).symm.trans hF
            have c_12 : ¬ v8_30.toInt = y11.toInt := il_ne c_12
            refine lv_aload_n hx hb dX5_walkOn_94 rfl (lv_at hl 4 rfl) ?_
            refine lv_aload_n hx hb dX5_walkOn_95 rfl (lv_at hl 5 rfl) ?_
            refine lv_iload hx hb dX5_walkOn_96 (lv_at hl 1 rfl) ?_
            refine lv_iload_n hx hb dX5_walkOn_98 rfl (lv_at hl 7 rfl) ?_
            refine lv_iconst (v := 1) hx hb dX5_walkOn_99 (by decide) ?_
            refine lv_iload hx hb dX5_walkOn_100 (lv_at hl 0 rfl) ?_
            refine lv_ishl hx hb dX5_walkOn_102 ?_
            refine lv_topi (fun t13 et13 => ?_)
            have hF := mi_let hF et13
            refine lv_ior hx hb dX5_walkOn_103 ?_
            refine lv_topi (fun t14 et14 => ?_)
            have hF := mi_let hF et14
            refine lv_iload hx hb dX5_walkOn_104 (lv_at hl 2 rfl) ?_
            have hFc := fr_all (wR_D nu8 hD) hS hA
            refine va_callv (va_runV (As := [.ref (ad 4), .int 4, .int t14, .int r3]) (rest := []) ⟨hx, hb, hml, hown, hts⟩ (sx_walkOn4 l dC dI cs ad nu8 ok H hP ((wR_D nu8 hD).weaken (fun _ _ _ _ => trivial)) t14 r3) (cwV 4 hts (wU_V mw_4_29 mw_4_26 mw_4_28 mw_0_13 mw_1_8) rfl rfl rfl (by decide +kernel) ⟨Nat.le_of_ble_eq_true rfl, Nat.le_of_ble_eq_true rfl⟩) ⟨sz_c, va_recv hK hP (ci := 5) (q0 := 32) rfl (gX_32 cs ad nu8), sz_m hK hz⟩ rfl rfl hl.1 rfl (lv_room (Nat.le_of_ble_eq_true rfl)) dX5_walkOn_106 ⟨Nat.zero_le _, Nat.zero_le _⟩) hS (fun q _ h => hFc q h) hFc (fun xi15 t H15 locs ht hvm hw15 hB hz1 hk1 hS => ?_)
            have hP : va_P (dC, dI) vwCl (wR 157 ad (EX cs ad) xi15) H15 := by rw [← ht]; exact hB
            obtain ⟨hfe15, ok, hw15, hkp15_0⟩ := hw15
            have hF := mi_let hF hfe15
            have kp16 : (∀ k f : Nat, Nat.testBit 510 (gpX k f) = true → xi15 k f = mu k f) := kp_t hkp15_0 (by decide) kp10
            refine lv_iinc (v := (v8_30 + 1)) (lv' := [(8, .int (v8_30 + 1)), (7, .int 4), (6, .int r3), (5, .int y1), (0, .ref (ad 32)), (1, .ref (ad 4)), (2, .int 3), (3, .int vu), (4, .int vp)]) hx hb dX5_walkOn_109 hl (k := 0) rfl rfl (by decide) rfl (fun ls hl => ?_)
            refine loc_gen (P := fun w9 => lv_has ls 9 [(8, .int w9), (7, .int 4), (6, .int r3), (5, .int y1), (0, .ref (ad 32)), (1, .ref (ad 4)), (2, .int 3), (3, .int vu), (4, .int vp)]) (v8_30 + 1) hl (fun w17 hw17 hl => ?_)
            have hl : lv_has ls 9 [(8, .int w17), (7, .int 4), (6, .int r3), (5, .int y1), (0, .ref (ad 32)), (1, .ref (ad 4)), (2, .int 3), (3, .int vu), (4, .int vp)] := hl
            have hF := mi_let hF hw17.symm
            have aw17 : w17.toInt = v8_30.toInt + 1 := by rw [← hw17]; first | exact va1 (Int.lt_of_le_of_lt h_v8_30.2 (by decide)) | exact va1 (by omega)
            refine lv_goto (tgt := 30) hx hb dX5_walkOn_112 (by decide) ?_
            exact ih30 (w17) xi15 _ _ _ (by first | exact ms_up hm_30 aw17 h_v8_30.2 | exact ms_lt hm_30 (by omega) (by omega) | omega) (by first | exact rg_up aw17 h_v8_30 (by omega) | omega)  ok hP  kp16 hF hS (lv_sub hl [0, 1, 2, 3, 4, 5, 6, 7, 8] rfl)
          · have hF := (if_pos c_12).symm.trans hF
            have c_12 : v8_30.toInt = y11.toInt := il_eq c_12
            refine lv_aload_n hx hb dX5_walkOn_82 rfl (lv_at hl 4 rfl) ?_
            refine lv_iload hx hb dX5_walkOn_83 (lv_at hl 1 rfl) ?_
            refine lv_iload_n hx hb dX5_walkOn_85 rfl (lv_at hl 7 rfl) ?_
            refine lv_iload hx hb dX5_walkOn_86 (lv_at hl 2 rfl) ?_
            have hFc := fr_all (wR_D nu8 hD) hS hA
            refine va_callv (va_runV (As := [.int 4, .int vu, .int r3]) (rest := []) ⟨hx, hb, hml, hown, hts⟩ (sx_R_arrive l dC dI cs ad nu8 ok H hP ((wR_D nu8 hD).weaken (fun _ _ _ _ => trivial)) 4 vu r3 (by have h50 : (4 : Int32).toInt = 4 := rfl; omega)) (cwV 3 hts (wU_V mw_4_39 mw_4_36 mw_4_38 mw_0_15 mw_1_8) rfl rfl rfl (by decide +kernel) ⟨Nat.le_of_ble_eq_true rfl, Nat.le_of_ble_eq_true rfl⟩) ⟨sz_c, va_recv hK hP (ci := 5) (q0 := 32) rfl (gX_32 cs ad nu8), sz_m hK hz⟩ rfl rfl hl.1 rfl (lv_room (Nat.le_of_ble_eq_true rfl)) dX5_walkOn_88 ⟨Nat.zero_le _, Nat.zero_le _⟩) hS (fun q _ h => hFc q h) hFc (fun xi18 t H18 locs ht hvm hw18 hB hz1 hk1 hS => ?_)
            have hP : va_P (dC, dI) vwCl (wR 157 ad (EX cs ad) xi18) H18 := by rw [← ht]; exact hB
            obtain ⟨hfe18, ok, hw18, hkp18_0⟩ := hw18
            have hF := mi_let hF hfe18
            have kp19 : (∀ k f : Nat, Nat.testBit 510 (gpX k f) = true → xi18 k f = mu k f) := kp_t hkp18_0 (by decide) kp10
            refine lv_goto (tgt := 109) hx hb dX5_walkOn_91 (by decide) ?_
            refine lv_iinc (v := (v8_30 + 1)) (lv' := [(8, .int (v8_30 + 1)), (7, .int 4), (6, .int r3), (5, .int y1), (0, .ref (ad 32)), (1, .ref (ad 4)), (2, .int 3), (3, .int vu), (4, .int vp)]) hx hb dX5_walkOn_109 hl (k := 0) rfl rfl (by decide) rfl (fun ls hl => ?_)
            refine loc_gen (P := fun w9 => lv_has ls 9 [(8, .int w9), (7, .int 4), (6, .int r3), (5, .int y1), (0, .ref (ad 32)), (1, .ref (ad 4)), (2, .int 3), (3, .int vu), (4, .int vp)]) (v8_30 + 1) hl (fun w20 hw20 hl => ?_)
            have hl : lv_has ls 9 [(8, .int w20), (7, .int 4), (6, .int r3), (5, .int y1), (0, .ref (ad 32)), (1, .ref (ad 4)), (2, .int 3), (3, .int vu), (4, .int vp)] := hl
            have hF := mi_let hF hw20.symm
            have aw20 : w20.toInt = v8_30.toInt + 1 := by rw [← hw20]; first | exact va1 (Int.lt_of_le_of_lt h_v8_30.2 (by decide)) | exact va1 (by omega)
            refine lv_goto (tgt := 30) hx hb dX5_walkOn_112 (by decide) ?_
            exact ih30 (w20) xi18 _ _ _ (by first | exact ms_up hm_30 aw20 h_v8_30.2 | exact ms_lt hm_30 (by omega) (by omega) | omega) (by first | exact rg_up aw20 h_v8_30 (by omega) | omega)  ok hP  kp19 hF hS (lv_sub hl [0, 1, 2, 3, 4, 5, 6, 7, 8] rfl)
        · have hF := (if_pos c_7).symm.trans hF
          have c_7 : r6.toInt = 0 := il_eq c_7
          refine lv_goto (tgt := 109) hx hb dX5_walkOn_61 (by decide) ?_
          refine lv_iinc (v := (v8_30 + 1)) (lv' := [(8, .int (v8_30 + 1)), (7, .int 4), (6, .int r3), (5, .int y1), (0, .ref (ad 32)), (1, .ref (ad 4)), (2, .int 3), (3, .int vu), (4, .int vp)]) hx hb dX5_walkOn_109 hl (k := 0) rfl rfl (by decide) rfl (fun ls hl => ?_)
          refine loc_gen (P := fun w9 => lv_has ls 9 [(8, .int w9), (7, .int 4), (6, .int r3), (5, .int y1), (0, .ref (ad 32)), (1, .ref (ad 4)), (2, .int 3), (3, .int vu), (4, .int vp)]) (v8_30 + 1) hl (fun w21 hw21 hl => ?_)
          have hl : lv_has ls 9 [(8, .int w21), (7, .int 4), (6, .int r3), (5, .int y1), (0, .ref (ad 32)), (1, .ref (ad 4)), (2, .int 3), (3, .int vu), (4, .int vp)] := hl
          have hF := mi_let hF hw21.symm
          have aw21 : w21.toInt = v8_30.toInt + 1 := by rw [← hw21]; first | exact va1 (Int.lt_of_le_of_lt h_v8_30.2 (by decide)) | exact va1 (by omega)
          refine lv_goto (tgt := 30) hx hb dX5_walkOn_112 (by decide) ?_
          exact ih30 (w21) nu30_ _ _ _ (by first | exact ms_up hm_30 aw21 h_v8_30.2 | exact ms_lt hm_30 (by omega) (by omega) | omega) (by first | exact rg_up aw21 h_v8_30 (by omega) | omega)  ok hP  kq30_0 hF hS (lv_sub hl [0, 1, 2, 3, 4, 5, 6, 7, 8] rfl)
  exact loop30 10 (0) mu _ _ _ (by have h80 : (0 : Int32).toInt = 0 := rfl; omega) (by have h80 : (0 : Int32).toInt = 0 := rfl; exact ⟨by omega, by omega⟩)  ok hP  (fun _ _ _ => rfl) hF hS hl
set_option maxHeartbeats 4000000 in
set_option maxRecDepth 100000 in
/-- sx_walkOn2 -/
theorem sx_walkOn2 (l : Launch) (dC : Nat → ClassId) (dI : Nat → Nat → Nat) (cs : Nat → ClassId) (ad : Nat → Nat) (mu : Nat → Nat → Int32) (ok : okR loX hiX mu) (H : Heap) (hP : va_P (dC, dI) vwCl (wR 157 ad (EX cs ad) mu) H) (hD0 : va_D (fun _ => True) (wR 157 ad (EX cs ad) mu)) (vu : Int32) (vp : Int32) : Met l yX5_walkOn (wU yX5_walkOn cX5_walkOn 9 none) ({ frames := 6, cells := 0, slots := 0, locals := 191 }) (va_Pc [.ref (ad 32), .ref (ad 4), .int 2, .int vu, .int vp] (sz_P (dC, dI) vwCl (tyW cs) H)) (va_Qv (fun (xi : Nat → Nat → Int32) => xi = F_sx_walkOn2 mu vu vp ∧ okR loX hiX xi ∧ (True) ∧ (∀ k f : Nat, Nat.testBit 510 (gpX k f) = true → xi k f = mu k f)) (fun xi t => va_P (dC, dI) vwCl (wR 157 ad (EX cs ad) xi) t.heap) (va_A (wR 157 ad (EX cs ad) mu) H.size)) 0 0 (va_A (wR 157 ad (EX cs ad) mu) H.size) := by
  refine Met.ofW (cc := cX5_walkOn) (maxL := 9) (ret := none) (by decide) rfl ?_
  intro p e s m args below meth c s₁ B hml hv
  obtain ⟨rfl, hh, hK, hz⟩ := hv
  have hx := B.exec
  have hb := B.bytes
  have hr := B.returns
  have hts := atoms_spec (ws := (wU yX5_walkOn cX5_walkOn 9 none)) B.pre
  have hown : s.vm.findClass RX5 = some m.cls := findClass_of_methodNamed B.named
  have hlocks := B.notSynchronized
  subst hh
  have hD := hD0.self (sz := s.heap.size)
  have hA : ∀ q : Nat, s.heap.size ≤ q → (va_A (wR 157 ad (EX cs ad) mu) s.heap.size) q := fun q h => Or.inr h
  have hS : va_S (va_A (wR 157 ad (EX cs ad) mu) s.heap.size) s.heap s.heap [] := va_S.rf
  have hl := lv_entry ([.ref (ad 32), .ref (ad 4), .int 2, .int vu, .int vp]) (n := 9) (Nat.le_of_ble_eq_true rfl)
  rw [lg_entry_eq]
  generalize (lg_sl ([.ref (ad 32), .ref (ad 4), .int 2, .int vu, .int vp]) ++ List.replicate (9 - (lg_sl ([.ref (ad 32), .ref (ad 4), .int 2, .int vu, .int vp])).length) Slot.unset).toArray = ls at hl ⊢
  have hl : lv_has ls 9 [(0, .ref (ad 32)), (1, .ref (ad 4)), (2, .int 2), (3, .int vu), (4, .int vp)] := hl
  obtain ⟨fz, hfz⟩ : ∃ z, F_sx_walkOn2 mu vu vp = z := ⟨_, rfl⟩
  have hF := hfz
  unfold F_sx_walkOn2 at hF
  refine lv_aload_n hx hb dX5_walkOn_0 rfl (lv_at hl 0 rfl) ?_
  refine va_get (D := (dC, dI)) (ci := 5) (v := .ref (ad 54)) (C := RX5) (T := TX5) (N := 15) hx hb hts inG5 hown hK hP 32 (gX_32 cs ad mu) rfl 2 (by decide) (hts _ (List.mem_cons_of_mem _ mw_2_48)) (fun _ h9 => h9) rfl dX5_walkOn_1 ?_
  refine lv_iload_n hx hb dX5_walkOn_4 rfl (lv_at hl 2 rfl) ?_
  refine va_iald hx hb hK hP 54 0 (gX_54 cs ad mu) rfl (show vp_in 2 7 from (by unfold vp_in; decide)) dX5_walkOn_5 ?_
  refine lv_topi (fun y1 ey1 => ?_)
  have hF := mi_let hF ey1
  have by1 : y1.toInt = (mu 54 (2 : Int32).toNatClampNeg).toInt := congrArg Int32.toInt ey1
  have gy1 : 0 ≤ y1.toInt ∧ y1.toInt ≤ 6 := by rw [ey1]; exact rX_54_s ok (2 : Int32).toNatClampNeg
  refine lv_istore (lv' := [(5, .int y1), (0, .ref (ad 32)), (1, .ref (ad 4)), (2, .int 2), (3, .int vu), (4, .int vp)]) hx hb dX5_walkOn_6 hl (by decide) rfl (fun ls hl => ?_)
  refine lv_aload_n hx hb dX5_walkOn_8 rfl (lv_at hl 2 rfl) ?_
  refine va_get (D := (dC, dI)) (ci := 10) (v := .ref (ad 34)) (C := RX10) (T := TX10) (N := 8) hx hb hts inG10 hown hK hP 4 (gX_4 cs ad mu) rfl 0 (by decide) (hts _ (List.mem_cons_of_mem _ mw_1_146)) (fun _ h9 => h9) rfl dX5_walkOn_9 ?_
  refine lv_iload hx hb dX5_walkOn_12 (lv_at hl 0 rfl) ?_
  refine va_iald hx hb hK hP 34 0 (gX_34 cs ad mu) rfl (show vp_in y1 7 from vi_of (by omega) (by omega)) dX5_walkOn_14 ?_
  refine lv_topi (fun y2 ey2 => ?_)
  have hF := mi_let hF ey2
  have by2 : y2.toInt = (mu 34 y1.toNatClampNeg).toInt := congrArg Int32.toInt ey2
  refine lv_iload hx hb dX5_walkOn_15 (lv_at hl 5 rfl) ?_
  refine cr_i (va_runSN (As := [.int y2, .int vp]) (rest := []) ⟨hx, hb, hml, hown, hts⟩ (sx_priceAsked l dC dI (tyW cs) s.heap y2 vp) ⟨va_cnB 2 hts (wU_in mw_3_107) rfl rfl rfl (hz.2.2.2.2.2.2.2.2.2.2.2.2.2.1) (hts _ (List.mem_cons_of_mem _ mw_1_1)) (by decide +kernel) ⟨Nat.le_of_ble_eq_true rfl, Nat.le_of_ble_eq_true rfl⟩, (hts _ (List.mem_cons_of_mem _ mw_3_106)), trivial⟩ ⟨sz_c, sz_m hK hz⟩ rfl rfl hl.1 rfl (lv_room (Nat.le_of_ble_eq_true rfl)) dX5_walkOn_17 ⟨Nat.zero_le _, Nat.zero_le _⟩) hS (fun r3 hw3 locs hS => ?_)
  obtain ⟨hfe3, hw3⟩ := hw3
  have hF := mi_let hF hfe3
  refine lv_istore (lv' := [(6, .int r3), (5, .int y1), (0, .ref (ad 32)), (1, .ref (ad 4)), (2, .int 2), (3, .int vu), (4, .int vp)]) hx hb dX5_walkOn_20 hl (by decide) rfl (fun ls hl => ?_)
  refine lv_iload_n hx hb dX5_walkOn_22 rfl (lv_at hl 4 rfl) ?_
  refine lv_iconst (v := 1) hx hb dX5_walkOn_23 (by decide) ?_
  refine lv_iadd hx hb dX5_walkOn_24 ?_
  refine lq_i 3 (by decide) ?_
  refine lv_istore (lv' := [(7, .int 3), (6, .int r3), (5, .int y1), (0, .ref (ad 32)), (1, .ref (ad 4)), (2, .int 2), (3, .int vu), (4, .int vp)]) hx hb dX5_walkOn_25 hl (by decide) rfl (fun ls hl => ?_)
  refine lv_iconst (v := 0) hx hb dX5_walkOn_27 (by decide) ?_
  refine lv_istore (lv' := [(8, .int 0), (7, .int 3), (6, .int r3), (5, .int y1), (0, .ref (ad 32)), (1, .ref (ad 4)), (2, .int 2), (3, .int vu), (4, .int vp)]) hx hb dX5_walkOn_28 hl (by decide) rfl (fun ls hl => ?_)
  have loop30 : ∀ (n30 : Nat) (v8_30 : Int32) (nu30_ : Nat → Nat → Int32) (H : Heap) (locs : List Loc) (ls : Array Slot), (7 + 1 - v8_30.toInt).toNat < n30 → (0 ≤ v8_30.toInt ∧ v8_30.toInt ≤ 7) → okR loX hiX nu30_ → va_P (dC, dI) vwCl (wR 157 ad (EX cs ad) nu30_) H → (∀ k f : Nat, Nat.testBit 510 (gpX k f) = true → nu30_ k f = mu k f) → L_sx_walkOn2_30_0 r3 vu y1 n30 v8_30 nu30_ = fz → va_S (va_A (wR 157 ad (EX cs ad) mu) s.heap.size) s.heap H locs → lv_has ls 9 [(8, .int v8_30), (7, .int 3), (6, .int r3), (5, .int y1), (0, .ref (ad 32)), (1, .ref (ad 4)), (2, .int 2), (3, .int vu), (4, .int vp)] → W p l e (headSpec (wU yX5_walkOn cX5_walkOn 9 none) ({ frames := 6, cells := 0, slots := 0, locals := 191 })).room s m ([.ref (ad 32), .ref (ad 4), .int 2, .int vu, .int vp] : List Value).toArray below meth c H locs 0 0 (MQ below (va_Qv (fun (xi : Nat → Nat → Int32) => xi = F_sx_walkOn2 mu vu vp ∧ okR loX hiX xi ∧ (True) ∧ (∀ k f : Nat, Nat.testBit 510 (gpX k f) = true → xi k f = mu k f)) (fun xi t => va_P (dC, dI) vwCl (wR 157 ad (EX cs ad) xi) t.heap) (va_A (wR 157 ad (EX cs ad) mu) s.heap.size)) ([.ref (ad 32), .ref (ad 4), .int 2, .int vu, .int vp] : List Value).toArray s 0 0 (va_A (wR 157 ad (EX cs ad) mu) s.heap.size)) (F0 m 30 ls []) := by
    intro n30
    induction n30 with
    | zero => intro v8_30 nu30_ H locs ls hm; exact absurd hm (Nat.not_lt_zero _)
    | succ n30 ih30 =>
      intro v8_30 nu30_ H locs ls hm_30 h_v8_30 ok hP kq30_0 hF hS hl
      rw [L_sx_walkOn2_30_0] at hF
      refine lv_iload hx hb dX5_walkOn_30 (lv_at hl 0 rfl) ?_
      refine lv_aload_n hx hb dX5_walkOn_32 rfl (lv_at hl 5 rfl) ?_
      refine va_get (D := (dC, dI)) (ci := 10) (v := .int (nu30_ 4 6)) (C := RX10) (T := TX10) (N := 8) hx hb hts inG10 hown hK hP 4 (gX_4 cs ad nu30_) rfl 6 (by decide) (hts _ (List.mem_cons_of_mem _ mw_1_162)) (fun _ h9 => h9) rfl dX5_walkOn_33 ?_
      refine lv_topi (fun y4 ey4 => ?_)
      have hF := mi_let hF ey4
      have by4 : y4.toInt = (nu30_ 4 6).toInt := congrArg Int32.toInt ey4
      have gy4 : 0 ≤ y4.toInt ∧ y4.toInt ≤ 7 := by rw [ey4]; exact rX_4_6 ok
      refine lv_icmp_ge (tgt := 115) hx hb dX5_walkOn_36 (by decide) (fun c_5 => ?_) (fun c_5 => ?_)
      · have hF := (if_pos c_5).symm.trans hF
        have c_5 : y4.toInt ≤ v8_30.toInt := il_le c_5
        exact W.vret hx hb hr (fun t ht hW => ⟨⟨nu30_, rfl, ⟨hF.trans hfz.symm, ok, trivial, kq30_0⟩, by first | (subst ht; exact hP) | (rw [ht]; exact hP) | (show va_P (dC, dI) vwCl (wR 157 ad (EX cs ad) nu30_) t.heap; rw [ht]; exact hP)⟩, hS.F ht⟩) hS.2.2 dX5_walkOn_115
      · have hF := (if_neg c_5).symm.trans hF
        have c_5 : v8_30.toInt < y4.toInt := il_nle c_5
        refine lv_iload hx hb dX5_walkOn_39 (lv_at hl 1 rfl) ?_
        refine lv_bipush (v := 7) hx hb dX5_walkOn_41 (by decide) ?_
        refine lv_icmp_ge (tgt := 115) hx hb dX5_walkOn_43 (by decide) (fun c => absurd c (by decide)) (fun _ => ?_)
        refine lv_aload_n hx hb dX5_walkOn_46 rfl (lv_at hl 4 rfl) ?_
        refine lv_aload_n hx hb dX5_walkOn_47 rfl (lv_at hl 5 rfl) ?_
        refine lv_iload hx hb dX5_walkOn_48 (lv_at hl 3 rfl) ?_
        refine lv_iload hx hb dX5_walkOn_50 (lv_at hl 0 rfl) ?_
        refine lv_iload_n hx hb dX5_walkOn_52 rfl (lv_at hl 7 rfl) ?_
        refine lv_iload hx hb dX5_walkOn_53 (lv_at hl 2 rfl) ?_
        refine cr_i (va_runV (As := [.ref (ad 4), .int y1, .int v8_30, .int vu, .int r3]) (rest := []) ⟨hx, hb, hml, hown, hts⟩ (sx_buys l dC dI cs ad nu30_ ok H hP y1 v8_30 vu r3 (by omega)) (cwV 5 hts (wU_V mw_4_34 mw_4_31 mw_4_33 mw_0_14 mw_1_8) rfl rfl rfl (by decide +kernel) ⟨Nat.le_of_ble_eq_true rfl, Nat.le_of_ble_eq_true rfl⟩) ⟨sz_c, va_recv hK hP (ci := 5) (q0 := 32) rfl (gX_32 cs ad nu30_), sz_m hK hz⟩ rfl rfl hl.1 rfl (lv_room (Nat.le_of_ble_eq_true rfl)) dX5_walkOn_55 ⟨Nat.zero_le _, Nat.zero_le _⟩) hS (fun r6 hw6 locs hS => ?_)
        obtain ⟨hfe6, hw6⟩ := hw6
        have hF := mi_let hF hfe6
        have gr6 : 0 ≤ r6.toInt ∧ r6.toInt ≤ 1 := hw6
        refine lv_if_ne (tgt := 64) hx hb dX5_walkOn_58 (by decide) (fun c_7 => ?_) (fun c_7 => ?_)
        · have hF := (if_neg c_7).symm.trans hF
          have c_7 : ¬ r6.toInt = 0 := il_ne c_7
          refine lv_aload_n hx hb dX5_walkOn_64 rfl (lv_at hl 4 rfl) ?_
          refine va_get (D := (dC, dI)) (ci := 5) (v := .ref (ad 54)) (C := RX5) (T := TX5) (N := 15) hx hb hts inG5 hown hK hP 32 (gX_32 cs ad nu30_) rfl 2 (by decide) (hts _ (List.mem_cons_of_mem _ mw_2_48)) (fun _ h9 => h9) rfl dX5_walkOn_65 ?_
          refine lv_iload hx hb dX5_walkOn_68 (lv_at hl 1 rfl) ?_
          refine lv_iload hx hb dX5_walkOn_70 (lv_at hl 0 rfl) ?_
          refine va_iast hx hb hK hP (wR_D nu30_ hD) hS 54 0 (gX_54 cs ad nu30_) rfl (show vp_in 3 7 from (by unfold vp_in; decide)) dX5_walkOn_72 (fun H locs hP _ hS => ?_)
          refine wr_gen (upd (nu30_ 54) (3 : Int32).toNatClampNeg v8_30) hP (rfl) (fun nu8 hn8 hP => ?_)
          have hF := mi_let hF hn8.symm
          have ok := tX_54_s ok (3 : Int32).toNatClampNeg hn8 (by omega)
          have ez9 : y4 = nu8 4 6 := ey4.trans (congrFun (up_k hn8 (by decide)) 6).symm
          have kp10 : (∀ k f : Nat, Nat.testBit 510 (gpX k f) = true → nu8 k f = mu k f) := kp_c 0 hn8 (fun _ => rfl) (by decide) kq30_0
          refine lv_iload hx hb dX5_walkOn_73 (lv_at hl 0 rfl) ?_
          refine lv_aload_n hx hb dX5_walkOn_75 rfl (lv_at hl 4 rfl) ?_
          refine va_get (D := (dC, dI)) (ci := 5) (v := .int (nu8 32 6)) (C := RX5) (T := TX5) (N := 15) hx hb hts inG5 hown hK hP 32 (gX_32 cs ad nu8) rfl 6 (by decide) (hts _ (List.mem_cons_of_mem _ mw_2_54)) (fun _ h9 => h9) rfl dX5_walkOn_76 ?_
          refine lv_topi (fun y11 ey11 => ?_)
          have hF := mi_let hF ey11
          have by11 : y11.toInt = (nu8 32 6).toInt := congrArg Int32.toInt ey11
          have gy11 : 0 ≤ y11.toInt ∧ y11.toInt ≤ 6 := by rw [ey11]; exact rX_32_6 ok
          refine lv_icmp_ne (tgt := 94) hx hb dX5_walkOn_79 (by decide) (fun c_12 => ?_) (fun c_12 => ?_)
          · have hF := (if_neg c_12).symm.trans hF
            have c_12 : ¬ v8_30.toInt = y11.toInt := il_ne c_12
            refine lv_aload_n hx hb dX5_walkOn_94 rfl (lv_at hl 4 rfl) ?_
            refine lv_aload_n hx hb dX5_walkOn_95 rfl (lv_at hl 5 rfl) ?_
            refine lv_iload hx hb dX5_walkOn_96 (lv_at hl 1 rfl) ?_
            refine lv_iload_n hx hb dX5_walkOn_98 rfl (lv_at hl 7 rfl) ?_
            refine lv_iconst (v := 1) hx hb dX5_walkOn_99 (by decide) ?_
            refine lv_iload hx hb dX5_walkOn_100 (lv_at hl 0 rfl) ?_
            refine lv_ishl hx hb dX5_walkOn_102 ?_
            refine lv_topi (fun t13 et13 => ?_)
            have hF := mi_let hF et13
            refine lv_ior hx hb dX5_walkOn_103 ?_
            refine lv_topi (fun t14 et14 => ?_)
            have hF := mi_let hF et14
            refine lv_iload hx hb dX5_walkOn_104 (lv_at hl 2 rfl) ?_
            have hFc := fr_all (wR_D nu8 hD) hS hA
            refine va_callv (va_runV (As := [.ref (ad 4), .int 3, .int t14, .int r3]) (rest := []) ⟨hx, hb, hml, hown, hts⟩ (sx_walkOn3 l dC dI cs ad nu8 ok H hP ((wR_D nu8 hD).weaken (fun _ _ _ _ => trivial)) t14 r3) (cwV 4 hts (wU_V mw_4_29 mw_4_26 mw_4_28 mw_0_13 mw_1_8) rfl rfl rfl (by decide +kernel) ⟨Nat.le_of_ble_eq_true rfl, Nat.le_of_ble_eq_true rfl⟩) ⟨sz_c, va_recv hK hP (ci := 5) (q0 := 32) rfl (gX_32 cs ad nu8), sz_m hK hz⟩ rfl rfl hl.1 rfl (lv_room (Nat.le_of_ble_eq_true rfl)) dX5_walkOn_106 ⟨Nat.zero_le _, Nat.zero_le _⟩) hS (fun q _ h => hFc q h) hFc (fun xi15 t H15 locs ht hvm hw15 hB hz1 hk1 hS => ?_)
            have hP : va_P (dC, dI) vwCl (wR 157 ad (EX cs ad) xi15) H15 := by rw [← ht]; exact hB
            obtain ⟨hfe15, ok, hw15, hkp15_0⟩ := hw15
            have hF := mi_let hF hfe15
            have kp16 : (∀ k f : Nat, Nat.testBit 510 (gpX k f) = true → xi15 k f = mu k f) := kp_t hkp15_0 (by decide) kp10
            refine lv_iinc (v := (v8_30 + 1)) (lv' := [(8, .int (v8_30 + 1)), (7, .int 3), (6, .int r3), (5, .int y1), (0, .ref (ad 32)), (1, .ref (ad 4)), (2, .int 2), (3, .int vu), (4, .int vp)]) hx hb dX5_walkOn_109 hl (k := 0) rfl rfl (by decide) rfl (fun ls hl => ?_)
            refine loc_gen (P := fun w9 => lv_has ls 9 [(8, .int w9), (7, .int 3), (6, .int r3), (5, .int y1), (0, .ref (ad 32)), (1, .ref (ad 4)), (2, .int 2), (3, .int vu), (4, .int vp)]) (v8_30 + 1) hl (fun w17 hw17 hl => ?_)
            have hl : lv_has ls 9 [(8, .int w17), (7, .int 3), (6, .int r3), (5, .int y1), (0, .ref (ad 32)), (1, .ref (ad 4)), (2, .int 2), (3, .int vu), (4, .int vp)] := hl
            have hF := mi_let hF hw17.symm
            have aw17 : w17.toInt = v8_30.toInt + 1 := by rw [← hw17]; first | exact va1 (Int.lt_of_le_of_lt h_v8_30.2 (by decide)) | exact va1 (by omega)
            refine lv_goto (tgt := 30) hx hb dX5_walkOn_112 (by decide) ?_
            exact ih30 (w17) xi15 _ _ _ (by first | exact ms_up hm_30 aw17 h_v8_30.2 | exact ms_lt hm_30 (by omega) (by omega) | omega) (by first | exact rg_up aw17 h_v8_30 (by omega) | omega)  ok hP  kp16 hF hS (lv_sub hl [0, 1, 2, 3, 4, 5, 6, 7, 8] rfl)
          · have hF := (if_pos c_12).symm.trans hF
            have c_12 : v8_30.toInt = y11.toInt := il_eq c_12
            refine lv_aload_n hx hb dX5_walkOn_82 rfl (lv_at hl 4 rfl) ?_
            refine lv_iload hx hb dX5_walkOn_83 (lv_at hl 1 rfl) ?_
            refine lv_iload_n hx hb dX5_walkOn_85 rfl (lv_at hl 7 rfl) ?_
            refine lv_iload hx hb dX5_walkOn_86 (lv_at hl 2 rfl) ?_
            have hFc := fr_all (wR_D nu8 hD) hS hA
            refine va_callv (va_runV (As := [.int 3, .int vu, .int r3]) (rest := []) ⟨hx, hb, hml, hown, hts⟩ (sx_R_arrive l dC dI cs ad nu8 ok H hP ((wR_D nu8 hD).weaken (fun _ _ _ _ => trivial)) 3 vu r3 (by have h50 : (3 : Int32).toInt = 3 := rfl; omega)) (cwV 3 hts (wU_V mw_4_39 mw_4_36 mw_4_38 mw_0_15 mw_1_8) rfl rfl rfl (by decide +kernel) ⟨Nat.le_of_ble_eq_true rfl, Nat.le_of_ble_eq_true rfl⟩) ⟨sz_c, va_recv hK hP (ci := 5) (q0 := 32) rfl (gX_32 cs ad nu8), sz_m hK hz⟩ rfl rfl hl.1 rfl (lv_room (Nat.le_of_ble_eq_true rfl)) dX5_walkOn_88 ⟨Nat.zero_le _, Nat.zero_le _⟩) hS (fun q _ h => hFc q h) hFc (fun xi18 t H18 locs ht hvm hw18 hB hz1 hk1 hS => ?_)
            have hP : va_P (dC, dI) vwCl (wR 157 ad (EX cs ad) xi18) H18 := by rw [← ht]; exact hB
            obtain ⟨hfe18, ok, hw18, hkp18_0⟩ := hw18
            have hF := mi_let hF hfe18
            have kp19 : (∀ k f : Nat, Nat.testBit 510 (gpX k f) = true → xi18 k f = mu k f) := kp_t hkp18_0 (by decide) kp10
            refine lv_goto (tgt := 109) hx hb dX5_walkOn_91 (by decide) ?_
            refine lv_iinc (v := (v8_30 + 1)) (lv' := [(8, .int (v8_30 + 1)), (7, .int 3), (6, .int r3), (5, .int y1), (0, .ref (ad 32)), (1, .ref (ad 4)), (2, .int 2), (3, .int vu), (4, .int vp)]) hx hb dX5_walkOn_109 hl (k := 0) rfl rfl (by decide) rfl (fun ls hl => ?_)
            refine loc_gen (P := fun w9 => lv_has ls 9 [(8, .int w9), (7, .int 3), (6, .int r3), (5, .int y1), (0, .ref (ad 32)), (1, .ref (ad 4)), (2, .int 2), (3, .int vu), (4, .int vp)]) (v8_30 + 1) hl (fun w20 hw20 hl => ?_)
            have hl : lv_has ls 9 [(8, .int w20), (7, .int 3), (6, .int r3), (5, .int y1), (0, .ref (ad 32)), (1, .ref (ad 4)), (2, .int 2), (3, .int vu), (4, .int vp)] := hl
            have hF := mi_let hF hw20.symm
            have aw20 : w20.toInt = v8_30.toInt + 1 := by rw [← hw20]; first | exact va1 (Int.lt_of_le_of_lt h_v8_30.2 (by decide)) | exact va1 (by omega)
            refine lv_goto (tgt := 30) hx hb dX5_walkOn_112 (by decide) ?_
            exact ih30 (w20) xi18 _ _ _ (by first | exact ms_up hm_30 aw20 h_v8_30.2 | exact ms_lt hm_30 (by omega) (by omega) | omega) (by first | exact rg_up aw20 h_v8_30 (by omega) | omega)  ok hP  kp19 hF hS (lv_sub hl [0, 1, 2, 3, 4, 5, 6, 7, 8] rfl)
        · have hF := (if_pos c_7).symm.trans hF
          have c_7 : r6.toInt = 0 := il_eq c_7
          refine lv_goto (tgt := 109) hx hb dX5_walkOn_61 (by decide) ?_
          refine lv_iinc (v := (v8_30 + 1)) (lv' := [(8, .int (v8_30 + 1)), (7, .int 3), (6, .int r3), (5, .int y1), (0, .ref (ad 32)), (1, .ref (ad 4)), (2, .int 2), (3, .int vu), (4, .int vp)]) hx hb dX5_walkOn_109 hl (k := 0) rfl rfl (by decide) rfl (fun ls hl => ?_)
          refine loc_gen (P := fun w9 => lv_has ls 9 [(8, .int w9), (7, .int 3), (6, .int r3), (5, .int y1), (0, .ref (ad 32)), (1, .ref (ad 4)), (2, .int 2), (3, .int vu), (4, .int vp)]) (v8_30 + 1) hl (fun w21 hw21 hl => ?_)
          have hl : lv_has ls 9 [(8, .int w21), (7, .int 3), (6, .int r3), (5, .int y1), (0, .ref (ad 32)), (1, .ref (ad 4)), (2, .int 2), (3, .int vu), (4, .int vp)] := hl
          have hF := mi_let hF hw21.symm
          have aw21 : w21.toInt = v8_30.toInt + 1 := by rw [← hw21]; first | exact va1 (Int.lt_of_le_of_lt h_v8_30.2 (by decide)) | exact va1 (by omega)
          refine lv_goto (tgt := 30) hx hb dX5_walkOn_112 (by decide) ?_
          exact ih30 (w21) nu30_ _ _ _ (by first | exact ms_up hm_30 aw21 h_v8_30.2 | exact ms_lt hm_30 (by omega) (by omega) | omega) (by first | exact rg_up aw21 h_v8_30 (by omega) | omega)  ok hP  kq30_0 hF hS (lv_sub hl [0, 1, 2, 3, 4, 5, 6, 7, 8] rfl)
  exact loop30 10 (0) mu _ _ _ (by have h80 : (0 : Int32).toInt = 0 := rfl; omega) (by have h80 : (0 : Int32).toInt = 0 := rfl; exact ⟨by omega, by omega⟩)  ok hP  (fun _ _ _ => rfl) hF hS hl
set_option maxHeartbeats 4000000 in
set_option maxRecDepth 100000 in
/-- sx_walkOn1 -/
theorem sx_walkOn1 (l : Launch) (dC : Nat → ClassId) (dI : Nat → Nat → Nat) (cs : Nat → ClassId) (ad : Nat → Nat) (mu : Nat → Nat → Int32) (ok : okR loX hiX mu) (H : Heap) (hP : va_P (dC, dI) vwCl (wR 157 ad (EX cs ad) mu) H) (hD0 : va_D (fun _ => True) (wR 157 ad (EX cs ad) mu)) (vu : Int32) (vp : Int32) : Met l yX5_walkOn (wU yX5_walkOn cX5_walkOn 9 none) ({ frames := 7, cells := 0, slots := 0, locals := 219 }) (va_Pc [.ref (ad 32), .ref (ad 4), .int 1, .int vu, .int vp] (sz_P (dC, dI) vwCl (tyW cs) H)) (va_Qv (fun (xi : Nat → Nat → Int32) => xi = F_sx_walkOn1 mu vu vp ∧ okR loX hiX xi ∧ (True) ∧ (∀ k f : Nat, Nat.testBit 510 (gpX k f) = true → xi k f = mu k f)) (fun xi t => va_P (dC, dI) vwCl (wR 157 ad (EX cs ad) xi) t.heap) (va_A (wR 157 ad (EX cs ad) mu) H.size)) 0 0 (va_A (wR 157 ad (EX cs ad) mu) H.size) := by
  refine Met.ofW (cc := cX5_walkOn) (maxL := 9) (ret := none) (by decide) rfl ?_
  intro p e s m args below meth c s₁ B hml hv
  obtain ⟨rfl, hh, hK, hz⟩ := hv
  have hx := B.exec
  have hb := B.bytes
  have hr := B.returns
  have hts := atoms_spec (ws := (wU yX5_walkOn cX5_walkOn 9 none)) B.pre
  have hown : s.vm.findClass RX5 = some m.cls := findClass_of_methodNamed B.named
  have hlocks := B.notSynchronized
  subst hh
  have hD := hD0.self (sz := s.heap.size)
  have hA : ∀ q : Nat, s.heap.size ≤ q → (va_A (wR 157 ad (EX cs ad) mu) s.heap.size) q := fun q h => Or.inr h
  have hS : va_S (va_A (wR 157 ad (EX cs ad) mu) s.heap.size) s.heap s.heap [] := va_S.rf
  have hl := lv_entry ([.ref (ad 32), .ref (ad 4), .int 1, .int vu, .int vp]) (n := 9) (Nat.le_of_ble_eq_true rfl)
  rw [lg_entry_eq]
  generalize (lg_sl ([.ref (ad 32), .ref (ad 4), .int 1, .int vu, .int vp]) ++ List.replicate (9 - (lg_sl ([.ref (ad 32), .ref (ad 4), .int 1, .int vu, .int vp])).length) Slot.unset).toArray = ls at hl ⊢
  have hl : lv_has ls 9 [(0, .ref (ad 32)), (1, .ref (ad 4)), (2, .int 1), (3, .int vu), (4, .int vp)] := hl
  obtain ⟨fz, hfz⟩ : ∃ z, F_sx_walkOn1 mu vu vp = z := ⟨_, rfl⟩
  have hF := hfz
  unfold F_sx_walkOn1 at hF
  refine lv_aload_n hx hb dX5_walkOn_0 rfl (lv_at hl 0 rfl) ?_
  refine va_get (D := (dC, dI)) (ci := 5) (v := .ref (ad 54)) (C := RX5) (T := TX5) (N := 15) hx hb hts inG5 hown hK hP 32 (gX_32 cs ad mu) rfl 2 (by decide) (hts _ (List.mem_cons_of_mem _ mw_2_48)) (fun _ h9 => h9) rfl dX5_walkOn_1 ?_
  refine lv_iload_n hx hb dX5_walkOn_4 rfl (lv_at hl 2 rfl) ?_
  refine va_iald hx hb hK hP 54 0 (gX_54 cs ad mu) rfl (show vp_in 1 7 from (by unfold vp_in; decide)) dX5_walkOn_5 ?_
  refine lv_topi (fun y1 ey1 => ?_)
  have hF := mi_let hF ey1
  have by1 : y1.toInt = (mu 54 (1 : Int32).toNatClampNeg).toInt := congrArg Int32.toInt ey1
  have gy1 : 0 ≤ y1.toInt ∧ y1.toInt ≤ 6 := by rw [ey1]; exact rX_54_s ok (1 : Int32).toNatClampNeg
  refine lv_istore (lv' := [(5, .int y1), (0, .ref (ad 32)), (1, .ref (ad 4)), (2, .int 1), (3, .int vu), (4, .int vp)]) hx hb dX5_walkOn_6 hl (by decide) rfl (fun ls hl => ?_)
  refine lv_aload_n hx hb dX5_walkOn_8 rfl (lv_at hl 2 rfl) ?_
  refine va_get (D := (dC, dI)) (ci := 10) (v := .ref (ad 34)) (C := RX10) (T := TX10) (N := 8) hx hb hts inG10 hown hK hP 4 (gX_4 cs ad mu) rfl 0 (by decide) (hts _ (List.mem_cons_of_mem _ mw_1_146)) (fun _ h9 => h9) rfl dX5_walkOn_9 ?_
  refine lv_iload hx hb dX5_walkOn_12 (lv_at hl 0 rfl) ?_
  refine va_iald hx hb hK hP 34 0 (gX_34 cs ad mu) rfl (show vp_in y1 7 from vi_of (by omega) (by omega)) dX5_walkOn_14 ?_
  refine lv_topi (fun y2 ey2 => ?_)
  have hF := mi_let hF ey2
  have by2 : y2.toInt = (mu 34 y1.toNatClampNeg).toInt := congrArg Int32.toInt ey2
  refine lv_iload hx hb dX5_walkOn_15 (lv_at hl 5 rfl) ?_
  refine cr_i (va_runSN (As := [.int y2, .int vp]) (rest := []) ⟨hx, hb, hml, hown, hts⟩ (sx_priceAsked l dC dI (tyW cs) s.heap y2 vp) ⟨va_cnB 2 hts (wU_in mw_3_107) rfl rfl rfl (hz.2.2.2.2.2.2.2.2.2.2.2.2.2.1) (hts _ (List.mem_cons_of_mem _ mw_1_1)) (by decide +kernel) ⟨Nat.le_of_ble_eq_true rfl, Nat.le_of_ble_eq_true rfl⟩, (hts _ (List.mem_cons_of_mem _ mw_3_106)), trivial⟩ ⟨sz_c, sz_m hK hz⟩ rfl rfl hl.1 rfl (lv_room (Nat.le_of_ble_eq_true rfl)) dX5_walkOn_17 ⟨Nat.zero_le _, Nat.zero_le _⟩) hS (fun r3 hw3 locs hS => ?_)
  obtain ⟨hfe3, hw3⟩ := hw3
  have hF := mi_let hF hfe3
  refine lv_istore (lv' := [(6, .int r3), (5, .int y1), (0, .ref (ad 32)), (1, .ref (ad 4)), (2, .int 1), (3, .int vu), (4, .int vp)]) hx hb dX5_walkOn_20 hl (by decide) rfl (fun ls hl => ?_)
  refine lv_iload_n hx hb dX5_walkOn_22 rfl (lv_at hl 4 rfl) ?_
  refine lv_iconst (v := 1) hx hb dX5_walkOn_23 (by decide) ?_
  refine lv_iadd hx hb dX5_walkOn_24 ?_
  refine lq_i 2 (by decide) ?_
  refine lv_istore (lv' := [(7, .int 2), (6, .int r3), (5, .int y1), (0, .ref (ad 32)), (1, .ref (ad 4)), (2, .int 1), (3, .int vu), (4, .int vp)]) hx hb dX5_walkOn_25 hl (by decide) rfl (fun ls hl => ?_)
  refine lv_iconst (v := 0) hx hb dX5_walkOn_27 (by decide) ?_
  refine lv_istore (lv' := [(8, .int 0), (7, .int 2), (6, .int r3), (5, .int y1), (0, .ref (ad 32)), (1, .ref (ad 4)), (2, .int 1), (3, .int vu), (4, .int vp)]) hx hb dX5_walkOn_28 hl (by decide) rfl (fun ls hl => ?_)
  have loop30 : ∀ (n30 : Nat) (v8_30 : Int32) (nu30_ : Nat → Nat → Int32) (H : Heap) (locs : List Loc) (ls : Array Slot), (7 + 1 - v8_30.toInt).toNat < n30 → (0 ≤ v8_30.toInt ∧ v8_30.toInt ≤ 7) → okR loX hiX nu30_ → va_P (dC, dI) vwCl (wR 157 ad (EX cs ad) nu30_) H → (∀ k f : Nat, Nat.testBit 510 (gpX k f) = true → nu30_ k f = mu k f) → L_sx_walkOn1_30_0 r3 vu y1 n30 v8_30 nu30_ = fz → va_S (va_A (wR 157 ad (EX cs ad) mu) s.heap.size) s.heap H locs → lv_has ls 9 [(8, .int v8_30), (7, .int 2), (6, .int r3), (5, .int y1), (0, .ref (ad 32)), (1, .ref (ad 4)), (2, .int 1), (3, .int vu), (4, .int vp)] → W p l e (headSpec (wU yX5_walkOn cX5_walkOn 9 none) ({ frames := 7, cells := 0, slots := 0, locals := 219 })).room s m ([.ref (ad 32), .ref (ad 4), .int 1, .int vu, .int vp] : List Value).toArray below meth c H locs 0 0 (MQ below (va_Qv (fun (xi : Nat → Nat → Int32) => xi = F_sx_walkOn1 mu vu vp ∧ okR loX hiX xi ∧ (True) ∧ (∀ k f : Nat, Nat.testBit 510 (gpX k f) = true → xi k f = mu k f)) (fun xi t => va_P (dC, dI) vwCl (wR 157 ad (EX cs ad) xi) t.heap) (va_A (wR 157 ad (EX cs ad) mu) s.heap.size)) ([.ref (ad 32), .ref (ad 4), .int 1, .int vu, .int vp] : List Value).toArray s 0 0 (va_A (wR 157 ad (EX cs ad) mu) s.heap.size)) (F0 m 30 ls []) := by
    intro n30
    induction n30 with
    | zero => intro v8_30 nu30_ H locs ls hm; exact absurd hm (Nat.not_lt_zero _)
    | succ n30 ih30 =>
      intro v8_30 nu30_ H locs ls hm_30 h_v8_30 ok hP kq30_0 hF hS hl
      rw [L_sx_walkOn1_30_0] at hF
      refine lv_iload hx hb dX5_walkOn_30 (lv_at hl 0 rfl) ?_
      refine lv_aload_n hx hb dX5_walkOn_32 rfl (lv_at hl 5 rfl) ?_
      refine va_get (D := (dC, dI)) (ci := 10) (v := .int (nu30_ 4 6)) (C := RX10) (T := TX10) (N := 8) hx hb hts inG10 hown hK hP 4 (gX_4 cs ad nu30_) rfl 6 (by decide) (hts _ (List.mem_cons_of_mem _ mw_1_162)) (fun _ h9 => h9) rfl dX5_walkOn_33 ?_
      refine lv_topi (fun y4 ey4 => ?_)
      have hF := mi_let hF ey4
      have by4 : y4.toInt = (nu30_ 4 6).toInt := congrArg Int32.toInt ey4
      have gy4 : 0 ≤ y4.toInt ∧ y4.toInt ≤ 7 := by rw [ey4]; exact rX_4_6 ok
      refine lv_icmp_ge (tgt := 115) hx hb dX5_walkOn_36 (by decide) (fun c_5 => ?_) (fun c_5 => ?_)
      · have hF := (if_pos c_5).symm.trans hF
        have c_5 : y4.toInt ≤ v8_30.toInt := il_le c_5
        exact W.vret hx hb hr (fun t ht hW => ⟨⟨nu30_, rfl, ⟨hF.trans hfz.symm, ok, trivial, kq30_0⟩, by first | (subst ht; exact hP) | (rw [ht]; exact hP) | (show va_P (dC, dI) vwCl (wR 157 ad (EX cs ad) nu30_) t.heap; rw [ht]; exact hP)⟩, hS.F ht⟩) hS.2.2 dX5_walkOn_115
      · have hF := (if_neg c_5).symm.trans hF
        have c_5 : v8_30.toInt < y4.toInt := il_nle c_5
        refine lv_iload hx hb dX5_walkOn_39 (lv_at hl 1 rfl) ?_
        refine lv_bipush (v := 7) hx hb dX5_walkOn_41 (by decide) ?_
        refine lv_icmp_ge (tgt := 115) hx hb dX5_walkOn_43 (by decide) (fun c => absurd c (by decide)) (fun _ => ?_)
        refine lv_aload_n hx hb dX5_walkOn_46 rfl (lv_at hl 4 rfl) ?_
        refine lv_aload_n hx hb dX5_walkOn_47 rfl (lv_at hl 5 rfl) ?_
        refine lv_iload hx hb dX5_walkOn_48 (lv_at hl 3 rfl) ?_
        refine lv_iload hx hb dX5_walkOn_50 (lv_at hl 0 rfl) ?_
        refine lv_iload_n hx hb dX5_walkOn_52 rfl (lv_at hl 7 rfl) ?_
        refine lv_iload hx hb dX5_walkOn_53 (lv_at hl 2 rfl) ?_
        refine cr_i (va_runV (As := [.ref (ad 4), .int y1, .int v8_30, .int vu, .int r3]) (rest := []) ⟨hx, hb, hml, hown, hts⟩ (sx_buys l dC dI cs ad nu30_ ok H hP y1 v8_30 vu r3 (by omega)) (cwV 5 hts (wU_V mw_4_34 mw_4_31 mw_4_33 mw_0_14 mw_1_8) rfl rfl rfl (by decide +kernel) ⟨Nat.le_of_ble_eq_true rfl, Nat.le_of_ble_eq_true rfl⟩) ⟨sz_c, va_recv hK hP (ci := 5) (q0 := 32) rfl (gX_32 cs ad nu30_), sz_m hK hz⟩ rfl rfl hl.1 rfl (lv_room (Nat.le_of_ble_eq_true rfl)) dX5_walkOn_55 ⟨Nat.zero_le _, Nat.zero_le _⟩) hS (fun r6 hw6 locs hS => ?_)
        obtain ⟨hfe6, hw6⟩ := hw6
        have hF := mi_let hF hfe6
        have gr6 : 0 ≤ r6.toInt ∧ r6.toInt ≤ 1 := hw6
        refine lv_if_ne (tgt := 64) hx hb dX5_walkOn_58 (by decide) (fun c_7 => ?_) (fun c_7 => ?_)
        · have hF := (if_neg c_7).symm.trans hF
          have c_7 : ¬ r6.toInt = 0 := il_ne c_7
          refine lv_aload_n hx hb dX5_walkOn_64 rfl (lv_at hl 4 rfl) ?_
          refine va_get (D := (dC, dI)) (ci := 5) (v := .ref (ad 54)) (C := RX5) (T := TX5) (N := 15) hx hb hts inG5 hown hK hP 32 (gX_32 cs ad nu30_) rfl 2 (by decide) (hts _ (List.mem_cons_of_mem _ mw_2_48)) (fun _ h9 => h9) rfl dX5_walkOn_65 ?_
          refine lv_iload hx hb dX5_walkOn_68 (lv_at hl 1 rfl) ?_
          refine lv_iload hx hb dX5_walkOn_70 (lv_at hl 0 rfl) ?_
          refine va_iast hx hb hK hP (wR_D nu30_ hD) hS 54 0 (gX_54 cs ad nu30_) rfl (show vp_in 2 7 from (by unfold vp_in; decide)) dX5_walkOn_72 (fun H locs hP _ hS => ?_)
          refine wr_gen (upd (nu30_ 54) (2 : Int32).toNatClampNeg v8_30) hP (rfl) (fun nu8 hn8 hP => ?_)
          have hF := mi_let hF hn8.symm
          have ok := tX_54_s ok (2 : Int32).toNatClampNeg hn8 (by omega)
          have ez9 : y4 = nu8 4 6 := ey4.trans (congrFun (up_k hn8 (by decide)) 6).symm
          have kp10 : (∀ k f : Nat, Nat.testBit 510 (gpX k f) = true → nu8 k f = mu k f) := kp_c 0 hn8 (fun _ => rfl) (by decide) kq30_0
          refine lv_iload hx hb dX5_walkOn_73 (lv_at hl 0 rfl) ?_
          refine lv_aload_n hx hb dX5_walkOn_75 rfl (lv_at hl 4 rfl) ?_
          refine va_get (D := (dC, dI)) (ci := 5) (v := .int (nu8 32 6)) (C := RX5) (T := TX5) (N := 15) hx hb hts inG5 hown hK hP 32 (gX_32 cs ad nu8) rfl 6 (by decide) (hts _ (List.mem_cons_of_mem _ mw_2_54)) (fun _ h9 => h9) rfl dX5_walkOn_76 ?_
          refine lv_topi (fun y11 ey11 => ?_)
          have hF := mi_let hF ey11
          have by11 : y11.toInt = (nu8 32 6).toInt := congrArg Int32.toInt ey11
          have gy11 : 0 ≤ y11.toInt ∧ y11.toInt ≤ 6 := by rw [ey11]; exact rX_32_6 ok
          refine lv_icmp_ne (tgt := 94) hx hb dX5_walkOn_79 (by decide) (fun c_12 => ?_) (fun c_12 => ?_)
          · have hF := (if_neg c_12).symm.trans hF
            have c_12 : ¬ v8_30.toInt = y11.toInt := il_ne c_12
            refine lv_aload_n hx hb dX5_walkOn_94 rfl (lv_at hl 4 rfl) ?_
            refine lv_aload_n hx hb dX5_walkOn_95 rfl (lv_at hl 5 rfl) ?_
            refine lv_iload hx hb dX5_walkOn_96 (lv_at hl 1 rfl) ?_
            refine lv_iload_n hx hb dX5_walkOn_98 rfl (lv_at hl 7 rfl) ?_
            refine lv_iconst (v := 1) hx hb dX5_walkOn_99 (by decide) ?_
            refine lv_iload hx hb dX5_walkOn_100 (lv_at hl 0 rfl) ?_
            refine lv_ishl hx hb dX5_walkOn_102 ?_
            refine lv_topi (fun t13 et13 => ?_)
            have hF := mi_let hF et13
            refine lv_ior hx hb dX5_walkOn_103 ?_
            refine lv_topi (fun t14 et14 => ?_)
            have hF := mi_let hF et14
            refine lv_iload hx hb dX5_walkOn_104 (lv_at hl 2 rfl) ?_
            have hFc := fr_all (wR_D nu8 hD) hS hA
            refine va_callv (va_runV (As := [.ref (ad 4), .int 2, .int t14, .int r3]) (rest := []) ⟨hx, hb, hml, hown, hts⟩ (sx_walkOn2 l dC dI cs ad nu8 ok H hP ((wR_D nu8 hD).weaken (fun _ _ _ _ => trivial)) t14 r3) (cwV 4 hts (wU_V mw_4_29 mw_4_26 mw_4_28 mw_0_13 mw_1_8) rfl rfl rfl (by decide +kernel) ⟨Nat.le_of_ble_eq_true rfl, Nat.le_of_ble_eq_true rfl⟩) ⟨sz_c, va_recv hK hP (ci := 5) (q0 := 32) rfl (gX_32 cs ad nu8), sz_m hK hz⟩ rfl rfl hl.1 rfl (lv_room (Nat.le_of_ble_eq_true rfl)) dX5_walkOn_106 ⟨Nat.zero_le _, Nat.zero_le _⟩) hS (fun q _ h => hFc q h) hFc (fun xi15 t H15 locs ht hvm hw15 hB hz1 hk1 hS => ?_)
            have hP : va_P (dC, dI) vwCl (wR 157 ad (EX cs ad) xi15) H15 := by rw [← ht]; exact hB
            obtain ⟨hfe15, ok, hw15, hkp15_0⟩ := hw15
            have hF := mi_let hF hfe15
            have kp16 : (∀ k f : Nat, Nat.testBit 510 (gpX k f) = true → xi15 k f = mu k f) := kp_t hkp15_0 (by decide) kp10
            refine lv_iinc (v := (v8_30 + 1)) (lv' := [(8, .int (v8_30 + 1)), (7, .int 2), (6, .int r3), (5, .int y1), (0, .ref (ad 32)), (1, .ref (ad 4)), (2, .int 1), (3, .int vu), (4, .int vp)]) hx hb dX5_walkOn_109 hl (k := 0) rfl rfl (by decide) rfl (fun ls hl => ?_)
            refine loc_gen (P := fun w9 => lv_has ls 9 [(8, .int w9), (7, .int 2), (6, .int r3), (5, .int y1), (0, .ref (ad 32)), (1, .ref (ad 4)), (2, .int 1), (3, .int vu), (4, .int vp)]) (v8_30 + 1) hl (fun w17 hw17 hl => ?_)
            have hl : lv_has ls 9 [(8, .int w17), (7, .int 2), (6, .int r3), (5, .int y1), (0, .ref (ad 32)), (1, .ref (ad 4)), (2, .int 1), (3, .int vu), (4, .int vp)] := hl
            have hF := mi_let hF hw17.symm
            have aw17 : w17.toInt = v8_30.toInt + 1 := by rw [← hw17]; first | exact va1 (Int.lt_of_le_of_lt h_v8_30.2 (by decide)) | exact va1 (by omega)
            refine lv_goto (tgt := 30) hx hb dX5_walkOn_112 (by decide) ?_
            exact ih30 (w17) xi15 _ _ _ (by first | exact ms_up hm_30 aw17 h_v8_30.2 | exact ms_lt hm_30 (by omega) (by omega) | omega) (by first | exact rg_up aw17 h_v8_30 (by omega) | omega)  ok hP  kp16 hF hS (lv_sub hl [0, 1, 2, 3, 4, 5, 6, 7, 8] rfl)
          · have hF := (if_pos c_12).symm.trans hF
            have c_12 : v8_30.toInt = y11.toInt := il_eq c_12
            refine lv_aload_n hx hb dX5_walkOn_82 rfl (lv_at hl 4 rfl) ?_
            refine lv_iload hx hb dX5_walkOn_83 (lv_at hl 1 rfl) ?_
            refine lv_iload_n hx hb dX5_walkOn_85 rfl (lv_at hl 7 rfl) ?_
            refine lv_iload hx hb dX5_walkOn_86 (lv_at hl 2 rfl) ?_
            have hFc := fr_all (wR_D nu8 hD) hS hA
            refine va_callv (va_runV (As := [.int 2, .int vu, .int r3]) (rest := []) ⟨hx, hb, hml, hown, hts⟩ (sx_R_arrive l dC dI cs ad nu8 ok H hP ((wR_D nu8 hD).weaken (fun _ _ _ _ => trivial)) 2 vu r3 (by have h50 : (2 : Int32).toInt = 2 := rfl; omega)) (cwV 3 hts (wU_V mw_4_39 mw_4_36 mw_4_38 mw_0_15 mw_1_8) rfl rfl rfl (by decide +kernel) ⟨Nat.le_of_ble_eq_true rfl, Nat.le_of_ble_eq_true rfl⟩) ⟨sz_c, va_recv hK hP (ci := 5) (q0 := 32) rfl (gX_32 cs ad nu8), sz_m hK hz⟩ rfl rfl hl.1 rfl (lv_room (Nat.le_of_ble_eq_true rfl)) dX5_walkOn_88 ⟨Nat.zero_le _, Nat.zero_le _⟩) hS (fun q _ h => hFc q h) hFc (fun xi18 t H18 locs ht hvm hw18 hB hz1 hk1 hS => ?_)
            have hP : va_P (dC, dI) vwCl (wR 157 ad (EX cs ad) xi18) H18 := by rw [← ht]; exact hB
            obtain ⟨hfe18, ok, hw18, hkp18_0⟩ := hw18
            have hF := mi_let hF hfe18
            have kp19 : (∀ k f : Nat, Nat.testBit 510 (gpX k f) = true → xi18 k f = mu k f) := kp_t hkp18_0 (by decide) kp10
            refine lv_goto (tgt := 109) hx hb dX5_walkOn_91 (by decide) ?_
            refine lv_iinc (v := (v8_30 + 1)) (lv' := [(8, .int (v8_30 + 1)), (7, .int 2), (6, .int r3), (5, .int y1), (0, .ref (ad 32)), (1, .ref (ad 4)), (2, .int 1), (3, .int vu), (4, .int vp)]) hx hb dX5_walkOn_109 hl (k := 0) rfl rfl (by decide) rfl (fun ls hl => ?_)
            refine loc_gen (P := fun w9 => lv_has ls 9 [(8, .int w9), (7, .int 2), (6, .int r3), (5, .int y1), (0, .ref (ad 32)), (1, .ref (ad 4)), (2, .int 1), (3, .int vu), (4, .int vp)]) (v8_30 + 1) hl (fun w20 hw20 hl => ?_)
            have hl : lv_has ls 9 [(8, .int w20), (7, .int 2), (6, .int r3), (5, .int y1), (0, .ref (ad 32)), (1, .ref (ad 4)), (2, .int 1), (3, .int vu), (4, .int vp)] := hl
            have hF := mi_let hF hw20.symm
            have aw20 : w20.toInt = v8_30.toInt + 1 := by rw [← hw20]; first | exact va1 (Int.lt_of_le_of_lt h_v8_30.2 (by decide)) | exact va1 (by omega)
            refine lv_goto (tgt := 30) hx hb dX5_walkOn_112 (by decide) ?_
            exact ih30 (w20) xi18 _ _ _ (by first | exact ms_up hm_30 aw20 h_v8_30.2 | exact ms_lt hm_30 (by omega) (by omega) | omega) (by first | exact rg_up aw20 h_v8_30 (by omega) | omega)  ok hP  kp19 hF hS (lv_sub hl [0, 1, 2, 3, 4, 5, 6, 7, 8] rfl)
        · have hF := (if_pos c_7).symm.trans hF
          have c_7 : r6.toInt = 0 := il_eq c_7
          refine lv_goto (tgt := 109) hx hb dX5_walkOn_61 (by decide) ?_
          refine lv_iinc (v := (v8_30 + 1)) (lv' := [(8, .int (v8_30 + 1)), (7, .int 2), (6, .int r3), (5, .int y1), (0, .ref (ad 32)), (1, .ref (ad 4)), (2, .int 1), (3, .int vu), (4, .int vp)]) hx hb dX5_walkOn_109 hl (k := 0) rfl rfl (by decide) rfl (fun ls hl => ?_)
          refine loc_gen (P := fun w9 => lv_has ls 9 [(8, .int w9), (7, .int 2), (6, .int r3), (5, .int y1), (0, .ref (ad 32)), (1, .ref (ad 4)), (2, .int 1), (3, .int vu), (4, .int vp)]) (v8_30 + 1) hl (fun w21 hw21 hl => ?_)
          have hl : lv_has ls 9 [(8, .int w21), (7, .int 2), (6, .int r3), (5, .int y1), (0, .ref (ad 32)), (1, .ref (ad 4)), (2, .int 1), (3, .int vu), (4, .int vp)] := hl
          have hF := mi_let hF hw21.symm
          have aw21 : w21.toInt = v8_30.toInt + 1 := by rw [← hw21]; first | exact va1 (Int.lt_of_le_of_lt h_v8_30.2 (by decide)) | exact va1 (by omega)
          refine lv_goto (tgt := 30) hx hb dX5_walkOn_112 (by decide) ?_
          exact ih30 (w21) nu30_ _ _ _ (by first | exact ms_up hm_30 aw21 h_v8_30.2 | exact ms_lt hm_30 (by omega) (by omega) | omega) (by first | exact rg_up aw21 h_v8_30 (by omega) | omega)  ok hP  kq30_0 hF hS (lv_sub hl [0, 1, 2, 3, 4, 5, 6, 7, 8] rfl)
  exact loop30 10 (0) mu _ _ _ (by have h80 : (0 : Int32).toInt = 0 := rfl; omega) (by have h80 : (0 : Int32).toInt = 0 := rfl; exact ⟨by omega, by omega⟩)  ok hP  (fun _ _ _ => rfl) hF hS hl
set_option maxHeartbeats 4000000 in
set_option maxRecDepth 100000 in
/-- sx_walkOn0 -/
theorem sx_walkOn0 (l : Launch) (dC : Nat → ClassId) (dI : Nat → Nat → Nat) (cs : Nat → ClassId) (ad : Nat → Nat) (mu : Nat → Nat → Int32) (ok : okR loX hiX mu) (H : Heap) (hP : va_P (dC, dI) vwCl (wR 157 ad (EX cs ad) mu) H) (hD0 : va_D (fun _ => True) (wR 157 ad (EX cs ad) mu)) (vu : Int32) (vp : Int32) : Met l yX5_walkOn (wU yX5_walkOn cX5_walkOn 9 none) ({ frames := 8, cells := 0, slots := 0, locals := 247 }) (va_Pc [.ref (ad 32), .ref (ad 4), .int 0, .int vu, .int vp] (sz_P (dC, dI) vwCl (tyW cs) H)) (va_Qv (fun (xi : Nat → Nat → Int32) => xi = F_sx_walkOn0 mu vu vp ∧ okR loX hiX xi ∧ (True) ∧ (∀ k f : Nat, Nat.testBit 510 (gpX k f) = true → xi k f = mu k f)) (fun xi t => va_P (dC, dI) vwCl (wR 157 ad (EX cs ad) xi) t.heap) (va_A (wR 157 ad (EX cs ad) mu) H.size)) 0 0 (va_A (wR 157 ad (EX cs ad) mu) H.size) := by
  refine Met.ofW (cc := cX5_walkOn) (maxL := 9) (ret := none) (by decide) rfl ?_
  intro p e s m args below meth c s₁ B hml hv
  obtain ⟨rfl, hh, hK, hz⟩ := hv
  have hx := B.exec
  have hb := B.bytes
  have hr := B.returns
  have hts := atoms_spec (ws := (wU yX5_walkOn cX5_walkOn 9 none)) B.pre
  have hown : s.vm.findClass RX5 = some m.cls := findClass_of_methodNamed B.named
  have hlocks := B.notSynchronized
  subst hh
  have hD := hD0.self (sz := s.heap.size)
  have hA : ∀ q : Nat, s.heap.size ≤ q → (va_A (wR 157 ad (EX cs ad) mu) s.heap.size) q := fun q h => Or.inr h
  have hS : va_S (va_A (wR 157 ad (EX cs ad) mu) s.heap.size) s.heap s.heap [] := va_S.rf
  have hl := lv_entry ([.ref (ad 32), .ref (ad 4), .int 0, .int vu, .int vp]) (n := 9) (Nat.le_of_ble_eq_true rfl)
  rw [lg_entry_eq]
  generalize (lg_sl ([.ref (ad 32), .ref (ad 4), .int 0, .int vu, .int vp]) ++ List.replicate (9 - (lg_sl ([.ref (ad 32), .ref (ad 4), .int 0, .int vu, .int vp])).length) Slot.unset).toArray = ls at hl ⊢
  have hl : lv_has ls 9 [(0, .ref (ad 32)), (1, .ref (ad 4)), (2, .int 0), (3, .int vu), (4, .int vp)] := hl
  obtain ⟨fz, hfz⟩ : ∃ z, F_sx_walkOn0 mu vu vp = z := ⟨_, rfl⟩
  have hF := hfz
  unfold F_sx_walkOn0 at hF
  refine lv_aload_n hx hb dX5_walkOn_0 rfl (lv_at hl 0 rfl) ?_
  refine va_get (D := (dC, dI)) (ci := 5) (v := .ref (ad 54)) (C := RX5) (T := TX5) (N := 15) hx hb hts inG5 hown hK hP 32 (gX_32 cs ad mu) rfl 2 (by decide) (hts _ (List.mem_cons_of_mem _ mw_2_48)) (fun _ h9 => h9) rfl dX5_walkOn_1 ?_
  refine lv_iload_n hx hb dX5_walkOn_4 rfl (lv_at hl 2 rfl) ?_
  refine va_iald hx hb hK hP 54 0 (gX_54 cs ad mu) rfl (show vp_in 0 7 from (by unfold vp_in; decide)) dX5_walkOn_5 ?_
  refine lv_topi (fun y1 ey1 => ?_)
  have hF := mi_let hF ey1
  have by1 : y1.toInt = (mu 54 (0 : Int32).toNatClampNeg).toInt := congrArg Int32.toInt ey1
  have gy1 : 0 ≤ y1.toInt ∧ y1.toInt ≤ 6 := by rw [ey1]; exact rX_54_s ok (0 : Int32).toNatClampNeg
  refine lv_istore (lv' := [(5, .int y1), (0, .ref (ad 32)), (1, .ref (ad 4)), (2, .int 0), (3, .int vu), (4, .int vp)]) hx hb dX5_walkOn_6 hl (by decide) rfl (fun ls hl => ?_)
  refine lv_aload_n hx hb dX5_walkOn_8 rfl (lv_at hl 2 rfl) ?_
  refine va_get (D := (dC, dI)) (ci := 10) (v := .ref (ad 34)) (C := RX10) (T := TX10) (N := 8) hx hb hts inG10 hown hK hP 4 (gX_4 cs ad mu) rfl 0 (by decide) (hts _ (List.mem_cons_of_mem _ mw_1_146)) (fun _ h9 => h9) rfl dX5_walkOn_9 ?_
  refine lv_iload hx hb dX5_walkOn_12 (lv_at hl 0 rfl) ?_
  refine va_iald hx hb hK hP 34 0 (gX_34 cs ad mu) rfl (show vp_in y1 7 from vi_of (by omega) (by omega)) dX5_walkOn_14 ?_
  refine lv_topi (fun y2 ey2 => ?_)
  have hF := mi_let hF ey2
  have by2 : y2.toInt = (mu 34 y1.toNatClampNeg).toInt := congrArg Int32.toInt ey2
  refine lv_iload hx hb dX5_walkOn_15 (lv_at hl 5 rfl) ?_
  refine cr_i (va_runSN (As := [.int y2, .int vp]) (rest := []) ⟨hx, hb, hml, hown, hts⟩ (sx_priceAsked l dC dI (tyW cs) s.heap y2 vp) ⟨va_cnB 2 hts (wU_in mw_3_107) rfl rfl rfl (hz.2.2.2.2.2.2.2.2.2.2.2.2.2.1) (hts _ (List.mem_cons_of_mem _ mw_1_1)) (by decide +kernel) ⟨Nat.le_of_ble_eq_true rfl, Nat.le_of_ble_eq_true rfl⟩, (hts _ (List.mem_cons_of_mem _ mw_3_106)), trivial⟩ ⟨sz_c, sz_m hK hz⟩ rfl rfl hl.1 rfl (lv_room (Nat.le_of_ble_eq_true rfl)) dX5_walkOn_17 ⟨Nat.zero_le _, Nat.zero_le _⟩) hS (fun r3 hw3 locs hS => ?_)
  obtain ⟨hfe3, hw3⟩ := hw3
  have hF := mi_let hF hfe3
  refine lv_istore (lv' := [(6, .int r3), (5, .int y1), (0, .ref (ad 32)), (1, .ref (ad 4)), (2, .int 0), (3, .int vu), (4, .int vp)]) hx hb dX5_walkOn_20 hl (by decide) rfl (fun ls hl => ?_)
  refine lv_iload_n hx hb dX5_walkOn_22 rfl (lv_at hl 4 rfl) ?_
  refine lv_iconst (v := 1) hx hb dX5_walkOn_23 (by decide) ?_
  refine lv_iadd hx hb dX5_walkOn_24 ?_
  refine lq_i 1 (by decide) ?_
  refine lv_istore (lv' := [(7, .int 1), (6, .int r3), (5, .int y1), (0, .ref (ad 32)), (1, .ref (ad 4)), (2, .int 0), (3, .int vu), (4, .int vp)]) hx hb dX5_walkOn_25 hl (by decide) rfl (fun ls hl => ?_)
  refine lv_iconst (v := 0) hx hb dX5_walkOn_27 (by decide) ?_
  refine lv_istore (lv' := [(8, .int 0), (7, .int 1), (6, .int r3), (5, .int y1), (0, .ref (ad 32)), (1, .ref (ad 4)), (2, .int 0), (3, .int vu), (4, .int vp)]) hx hb dX5_walkOn_28 hl (by decide) rfl (fun ls hl => ?_)
  have loop30 : ∀ (n30 : Nat) (v8_30 : Int32) (nu30_ : Nat → Nat → Int32) (H : Heap) (locs : List Loc) (ls : Array Slot), (7 + 1 - v8_30.toInt).toNat < n30 → (0 ≤ v8_30.toInt ∧ v8_30.toInt ≤ 7) → okR loX hiX nu30_ → va_P (dC, dI) vwCl (wR 157 ad (EX cs ad) nu30_) H → (∀ k f : Nat, Nat.testBit 510 (gpX k f) = true → nu30_ k f = mu k f) → L_sx_walkOn0_30_0 r3 vu y1 n30 v8_30 nu30_ = fz → va_S (va_A (wR 157 ad (EX cs ad) mu) s.heap.size) s.heap H locs → lv_has ls 9 [(8, .int v8_30), (7, .int 1), (6, .int r3), (5, .int y1), (0, .ref (ad 32)), (1, .ref (ad 4)), (2, .int 0), (3, .int vu), (4, .int vp)] → W p l e (headSpec (wU yX5_walkOn cX5_walkOn 9 none) ({ frames := 8, cells := 0, slots := 0, locals := 247 })).room s m ([.ref (ad 32), .ref (ad 4), .int 0, .int vu, .int vp] : List Value).toArray below meth c H locs 0 0 (MQ below (va_Qv (fun (xi : Nat → Nat → Int32) => xi = F_sx_walkOn0 mu vu vp ∧ okR loX hiX xi ∧ (True) ∧ (∀ k f : Nat, Nat.testBit 510 (gpX k f) = true → xi k f = mu k f)) (fun xi t => va_P (dC, dI) vwCl (wR 157 ad (EX cs ad) xi) t.heap) (va_A (wR 157 ad (EX cs ad) mu) s.heap.size)) ([.ref (ad 32), .ref (ad 4), .int 0, .int vu, .int vp] : List Value).toArray s 0 0 (va_A (wR 157 ad (EX cs ad) mu) s.heap.size)) (F0 m 30 ls []) := by
    intro n30
    induction n30 with
    | zero => intro v8_30 nu30_ H locs ls hm; exact absurd hm (Nat.not_lt_zero _)
    | succ n30 ih30 =>
      intro v8_30 nu30_ H locs ls hm_30 h_v8_30 ok hP kq30_0 hF hS hl
      rw [L_sx_walkOn0_30_0] at hF
      refine lv_iload hx hb dX5_walkOn_30 (lv_at hl 0 rfl) ?_
      refine lv_aload_n hx hb dX5_walkOn_32 rfl (lv_at hl 5 rfl) ?_
      refine va_get (D := (dC, dI)) (ci := 10) (v := .int (nu30_ 4 6)) (C := RX10) (T := TX10) (N := 8) hx hb hts inG10 hown hK hP 4 (gX_4 cs ad nu30_) rfl 6 (by decide) (hts _ (List.mem_cons_of_mem _ mw_1_162)) (fun _ h9 => h9) rfl dX5_walkOn_33 ?_
      refine lv_topi (fun y4 ey4 => ?_)
      have hF := mi_let hF ey4
      have by4 : y4.toInt = (nu30_ 4 6).toInt := congrArg Int32.toInt ey4
      have gy4 : 0 ≤ y4.toInt ∧ y4.toInt ≤ 7 := by rw [ey4]; exact rX_4_6 ok
      refine lv_icmp_ge (tgt := 115) hx hb dX5_walkOn_36 (by decide) (fun c_5 => ?_) (fun c_5 => ?_)
      · have hF := (if_pos c_5).symm.trans hF
        have c_5 : y4.toInt ≤ v8_30.toInt := il_le c_5
        exact W.vret hx hb hr (fun t ht hW => ⟨⟨nu30_, rfl, ⟨hF.trans hfz.symm, ok, trivial, kq30_0⟩, by first | (subst ht; exact hP) | (rw [ht]; exact hP) | (show va_P (dC, dI) vwCl (wR 157 ad (EX cs ad) nu30_) t.heap; rw [ht]; exact hP)⟩, hS.F ht⟩) hS.2.2 dX5_walkOn_115
      · have hF := (if_neg c_5).symm.trans hF
        have c_5 : v8_30.toInt < y4.toInt := il_nle c_5
        refine lv_iload hx hb dX5_walkOn_39 (lv_at hl 1 rfl) ?_
        refine lv_bipush (v := 7) hx hb dX5_walkOn_41 (by decide) ?_
        refine lv_icmp_ge (tgt := 115) hx hb dX5_walkOn_43 (by decide) (fun c => absurd c (by decide)) (fun _ => ?_)
        refine lv_aload_n hx hb dX5_walkOn_46 rfl (lv_at hl 4 rfl) ?_
        refine lv_aload_n hx hb dX5_walkOn_47 rfl (lv_at hl 5 rfl) ?_
        refine lv_iload hx hb dX5_walkOn_48 (lv_at hl 3 rfl) ?_
        refine lv_iload hx hb dX5_walkOn_50 (lv_at hl 0 rfl) ?_
        refine lv_iload_n hx hb dX5_walkOn_52 rfl (lv_at hl 7 rfl) ?_
        refine lv_iload hx hb dX5_walkOn_53 (lv_at hl 2 rfl) ?_
        refine cr_i (va_runV (As := [.ref (ad 4), .int y1, .int v8_30, .int vu, .int r3]) (rest := []) ⟨hx, hb, hml, hown, hts⟩ (sx_buys l dC dI cs ad nu30_ ok H hP y1 v8_30 vu r3 (by omega)) (cwV 5 hts (wU_V mw_4_34 mw_4_31 mw_4_33 mw_0_14 mw_1_8) rfl rfl rfl (by decide +kernel) ⟨Nat.le_of_ble_eq_true rfl, Nat.le_of_ble_eq_true rfl⟩) ⟨sz_c, va_recv hK hP (ci := 5) (q0 := 32) rfl (gX_32 cs ad nu30_), sz_m hK hz⟩ rfl rfl hl.1 rfl (lv_room (Nat.le_of_ble_eq_true rfl)) dX5_walkOn_55 ⟨Nat.zero_le _, Nat.zero_le _⟩) hS (fun r6 hw6 locs hS => ?_)
        obtain ⟨hfe6, hw6⟩ := hw6
        have hF := mi_let hF hfe6
        have gr6 : 0 ≤ r6.toInt ∧ r6.toInt ≤ 1 := hw6
        refine lv_if_ne (tgt := 64) hx hb dX5_walkOn_58 (by decide) (fun c_7 => ?_) (fun c_7 => ?_)
        · have hF := (if_neg c_7).symm.trans hF
          have c_7 : ¬ r6.toInt = 0 := il_ne c_7
          refine lv_aload_n hx hb dX5_walkOn_64 rfl (lv_at hl 4 rfl) ?_
          refine va_get (D := (dC, dI)) (ci := 5) (v := .ref (ad 54)) (C := RX5) (T := TX5) (N := 15) hx hb hts inG5 hown hK hP 32 (gX_32 cs ad nu30_) rfl 2 (by decide) (hts _ (List.mem_cons_of_mem _ mw_2_48)) (fun _ h9 => h9) rfl dX5_walkOn_65 ?_
          refine lv_iload hx hb dX5_walkOn_68 (lv_at hl 1 rfl) ?_
          refine lv_iload hx hb dX5_walkOn_70 (lv_at hl 0 rfl) ?_
          refine va_iast hx hb hK hP (wR_D nu30_ hD) hS 54 0 (gX_54 cs ad nu30_) rfl (show vp_in 1 7 from (by unfold vp_in; decide)) dX5_walkOn_72 (fun H locs hP _ hS => ?_)
          refine wr_gen (upd (nu30_ 54) (1 : Int32).toNatClampNeg v8_30) hP (rfl) (fun nu8 hn8 hP => ?_)
          have hF := mi_let hF hn8.symm
          have ok := tX_54_s ok (1 : Int32).toNatClampNeg hn8 (by omega)
          have ez9 : y4 = nu8 4 6 := ey4.trans (congrFun (up_k hn8 (by decide)) 6).symm
          have kp10 : (∀ k f : Nat, Nat.testBit 510 (gpX k f) = true → nu8 k f = mu k f) := kp_c 0 hn8 (fun _ => rfl) (by decide) kq30_0
          refine lv_iload hx hb dX5_walkOn_73 (lv_at hl 0 rfl) ?_
          refine lv_aload_n hx hb dX5_walkOn_75 rfl (lv_at hl 4 rfl) ?_
          refine va_get (D := (dC, dI)) (ci := 5) (v := .int (nu8 32 6)) (C := RX5) (T := TX5) (N := 15) hx hb hts inG5 hown hK hP 32 (gX_32 cs ad nu8) rfl 6 (by decide) (hts _ (List.mem_cons_of_mem _ mw_2_54)) (fun _ h9 => h9) rfl dX5_walkOn_76 ?_
          refine lv_topi (fun y11 ey11 => ?_)
          have hF := mi_let hF ey11
          have by11 : y11.toInt = (nu8 32 6).toInt := congrArg Int32.toInt ey11
          have gy11 : 0 ≤ y11.toInt ∧ y11.toInt ≤ 6 := by rw [ey11]; exact rX_32_6 ok
          refine lv_icmp_ne (tgt := 94) hx hb dX5_walkOn_79 (by decide) (fun c_12 => ?_) (fun c_12 => ?_)
          · have hF := (if_neg c_12).symm.trans hF
            have c_12 : ¬ v8_30.toInt = y11.toInt := il_ne c_12
            refine lv_aload_n hx hb dX5_walkOn_94 rfl (lv_at hl 4 rfl) ?_
            refine lv_aload_n hx hb dX5_walkOn_95 rfl (lv_at hl 5 rfl) ?_
            refine lv_iload hx hb dX5_walkOn_96 (lv_at hl 1 rfl) ?_
            refine lv_iload_n hx hb dX5_walkOn_98 rfl (lv_at hl 7 rfl) ?_
            refine lv_iconst (v := 1) hx hb dX5_walkOn_99 (by decide) ?_
            refine lv_iload hx hb dX5_walkOn_100 (lv_at hl 0 rfl) ?_
            refine lv_ishl hx hb dX5_walkOn_102 ?_
            refine lv_topi (fun t13 et13 => ?_)
            have hF := mi_let hF et13
            refine lv_ior hx hb dX5_walkOn_103 ?_
            refine lv_topi (fun t14 et14 => ?_)
            have hF := mi_let hF et14
            refine lv_iload hx hb dX5_walkOn_104 (lv_at hl 2 rfl) ?_
            have hFc := fr_all (wR_D nu8 hD) hS hA
            refine va_callv (va_runV (As := [.ref (ad 4), .int 1, .int t14, .int r3]) (rest := []) ⟨hx, hb, hml, hown, hts⟩ (sx_walkOn1 l dC dI cs ad nu8 ok H hP ((wR_D nu8 hD).weaken (fun _ _ _ _ => trivial)) t14 r3) (cwV 4 hts (wU_V mw_4_29 mw_4_26 mw_4_28 mw_0_13 mw_1_8) rfl rfl rfl (by decide +kernel) ⟨Nat.le_of_ble_eq_true rfl, Nat.le_of_ble_eq_true rfl⟩) ⟨sz_c, va_recv hK hP (ci := 5) (q0 := 32) rfl (gX_32 cs ad nu8), sz_m hK hz⟩ rfl rfl hl.1 rfl (lv_room (Nat.le_of_ble_eq_true rfl)) dX5_walkOn_106 ⟨Nat.zero_le _, Nat.zero_le _⟩) hS (fun q _ h => hFc q h) hFc (fun xi15 t H15 locs ht hvm hw15 hB hz1 hk1 hS => ?_)
            have hP : va_P (dC, dI) vwCl (wR 157 ad (EX cs ad) xi15) H15 := by rw [← ht]; exact hB
            obtain ⟨hfe15, ok, hw15, hkp15_0⟩ := hw15
            have hF := mi_let hF hfe15
            have kp16 : (∀ k f : Nat, Nat.testBit 510 (gpX k f) = true → xi15 k f = mu k f) := kp_t hkp15_0 (by decide) kp10
            refine lv_iinc (v := (v8_30 + 1)) (lv' := [(8, .int (v8_30 + 1)), (7, .int 1), (6, .int r3), (5, .int y1), (0, .ref (ad 32)), (1, .ref (ad 4)), (2, .int 0), (3, .int vu), (4, .int vp)]) hx hb dX5_walkOn_109 hl (k := 0) rfl rfl (by decide) rfl (fun ls hl => ?_)
            refine loc_gen (P := fun w9 => lv_has ls 9 [(8, .int w9), (7, .int 1), (6, .int r3), (5, .int y1), (0, .ref (ad 32)), (1, .ref (ad 4)), (2, .int 0), (3, .int vu), (4, .int vp)]) (v8_30 + 1) hl (fun w17 hw17 hl => ?_)
            have hl : lv_has ls 9 [(8, .int w17), (7, .int 1), (6, .int r3), (5, .int y1), (0, .ref (ad 32)), (1, .ref (ad 4)), (2, .int 0), (3, .int vu), (4, .int vp)] := hl
            have hF := mi_let hF hw17.symm
            have aw17 : w17.toInt = v8_30.toInt + 1 := by rw [← hw17]; first | exact va1 (Int.lt_of_le_of_lt h_v8_30.2 (by decide)) | exact va1 (by omega)
            refine lv_goto (tgt := 30) hx hb dX5_walkOn_112 (by decide) ?_
            exact ih30 (w17) xi15 _ _ _ (by first | exact ms_up hm_30 aw17 h_v8_30.2 | exact ms_lt hm_30 (by omega) (by omega) | omega) (by first | exact rg_up aw17 h_v8_30 (by omega) | omega)  ok hP  kp16 hF hS (lv_sub hl [0, 1, 2, 3, 4, 5, 6, 7, 8] rfl)
          · have hF := (if_pos c_12).symm.trans hF
            have c_12 : v8_30.toInt = y11.toInt := il_eq c_12
            refine lv_aload_n hx hb dX5_walkOn_82 rfl (lv_at hl 4 rfl) ?_
            refine lv_iload hx hb dX5_walkOn_83 (lv_at hl 1 rfl) ?_
            refine lv_iload_n hx hb dX5_walkOn_85 rfl (lv_at hl 7 rfl) ?_
            refine lv_iload hx hb dX5_walkOn_86 (lv_at hl 2 rfl) ?_
            have hFc := fr_all (wR_D nu8 hD) hS hA
            refine va_callv (va_runV (As := [.int 1, .int vu, .int r3]) (rest := []) ⟨hx, hb, hml, hown, hts⟩ (sx_R_arrive l dC dI cs ad nu8 ok H hP ((wR_D nu8 hD).weaken (fun _ _ _ _ => trivial)) 1 vu r3 (by have h50 : (1 : Int32).toInt = 1 := rfl; omega)) (cwV 3 hts (wU_V mw_4_39 mw_4_36 mw_4_38 mw_0_15 mw_1_8) rfl rfl rfl (by decide +kernel) ⟨Nat.le_of_ble_eq_true rfl, Nat.le_of_ble_eq_true rfl⟩) ⟨sz_c, va_recv hK hP (ci := 5) (q0 := 32) rfl (gX_32 cs ad nu8), sz_m hK hz⟩ rfl rfl hl.1 rfl (lv_room (Nat.le_of_ble_eq_true rfl)) dX5_walkOn_88 ⟨Nat.zero_le _, Nat.zero_le _⟩) hS (fun q _ h => hFc q h) hFc (fun xi18 t H18 locs ht hvm hw18 hB hz1 hk1 hS => ?_)
            have hP : va_P (dC, dI) vwCl (wR 157 ad (EX cs ad) xi18) H18 := by rw [← ht]; exact hB
            obtain ⟨hfe18, ok, hw18, hkp18_0⟩ := hw18
            have hF := mi_let hF hfe18
            have kp19 : (∀ k f : Nat, Nat.testBit 510 (gpX k f) = true → xi18 k f = mu k f) := kp_t hkp18_0 (by decide) kp10
            refine lv_goto (tgt := 109) hx hb dX5_walkOn_91 (by decide) ?_
            refine lv_iinc (v := (v8_30 + 1)) (lv' := [(8, .int (v8_30 + 1)), (7, .int 1), (6, .int r3), (5, .int y1), (0, .ref (ad 32)), (1, .ref (ad 4)), (2, .int 0), (3, .int vu), (4, .int vp)]) hx hb dX5_walkOn_109 hl (k := 0) rfl rfl (by decide) rfl (fun ls hl => ?_)
            refine loc_gen (P := fun w9 => lv_has ls 9 [(8, .int w9), (7, .int 1), (6, .int r3), (5, .int y1), (0, .ref (ad 32)), (1, .ref (ad 4)), (2, .int 0), (3, .int vu), (4, .int vp)]) (v8_30 + 1) hl (fun w20 hw20 hl => ?_)
            have hl : lv_has ls 9 [(8, .int w20), (7, .int 1), (6, .int r3), (5, .int y1), (0, .ref (ad 32)), (1, .ref (ad 4)), (2, .int 0), (3, .int vu), (4, .int vp)] := hl
            have hF := mi_let hF hw20.symm
            have aw20 : w20.toInt = v8_30.toInt + 1 := by rw [← hw20]; first | exact va1 (Int.lt_of_le_of_lt h_v8_30.2 (by decide)) | exact va1 (by omega)
            refine lv_goto (tgt := 30) hx hb dX5_walkOn_112 (by decide) ?_
            exact ih30 (w20) xi18 _ _ _ (by first | exact ms_up hm_30 aw20 h_v8_30.2 | exact ms_lt hm_30 (by omega) (by omega) | omega) (by first | exact rg_up aw20 h_v8_30 (by omega) | omega)  ok hP  kp19 hF hS (lv_sub hl [0, 1, 2, 3, 4, 5, 6, 7, 8] rfl)
        · have hF := (if_pos c_7).symm.trans hF
          have c_7 : r6.toInt = 0 := il_eq c_7
          refine lv_goto (tgt := 109) hx hb dX5_walkOn_61 (by decide) ?_
          refine lv_iinc (v := (v8_30 + 1)) (lv' := [(8, .int (v8_30 + 1)), (7, .int 1), (6, .int r3), (5, .int y1), (0, .ref (ad 32)), (1, .ref (ad 4)), (2, .int 0), (3, .int vu), (4, .int vp)]) hx hb dX5_walkOn_109 hl (k := 0) rfl rfl (by decide) rfl (fun ls hl => ?_)
          refine loc_gen (P := fun w9 => lv_has ls 9 [(8, .int w9), (7, .int 1), (6, .int r3), (5, .int y1), (0, .ref (ad 32)), (1, .ref (ad 4)), (2, .int 0), (3, .int vu), (4, .int vp)]) (v8_30 + 1) hl (fun w21 hw21 hl => ?_)
          have hl : lv_has ls 9 [(8, .int w21), (7, .int 1), (6, .int r3), (5, .int y1), (0, .ref (ad 32)), (1, .ref (ad 4)), (2, .int 0), (3, .int vu), (4, .int vp)] := hl
          have hF := mi_let hF hw21.symm
          have aw21 : w21.toInt = v8_30.toInt + 1 := by rw [← hw21]; first | exact va1 (Int.lt_of_le_of_lt h_v8_30.2 (by decide)) | exact va1 (by omega)
          refine lv_goto (tgt := 30) hx hb dX5_walkOn_112 (by decide) ?_
          exact ih30 (w21) nu30_ _ _ _ (by first | exact ms_up hm_30 aw21 h_v8_30.2 | exact ms_lt hm_30 (by omega) (by omega) | omega) (by first | exact rg_up aw21 h_v8_30 (by omega) | omega)  ok hP  kq30_0 hF hS (lv_sub hl [0, 1, 2, 3, 4, 5, 6, 7, 8] rfl)
  exact loop30 10 (0) mu _ _ _ (by have h80 : (0 : Int32).toInt = 0 := rfl; omega) (by have h80 : (0 : Int32).toInt = 0 := rfl; exact ⟨by omega, by omega⟩)  ok hP  (fun _ _ _ => rfl) hF hS hl
