set_option maxHeartbeats 4000000 in
set_option maxRecDepth 100000 in
/-- sx_take55 -/
theorem sx_take55 (l : Launch) (dC : Nat → ClassId) (dI : Nat → Nat → Nat) (cs : Nat → ClassId) (ad : Nat → Nat) (mu : Nat → Nat → Int32) (ok : okR loX hiX mu) (H : Heap) (hP : va_P (dC, dI) vwCl (wR 157 ad (EX cs ad) mu) H) (hD0 : va_D (fun _ => True) (wR 157 ad (EX cs ad) mu)) (vn : Int32) (vp : Int32) (hin0 : 0 ≤ vn.toInt ∧ vn.toInt ≤ 6) : Met l yX0_take (wU yX0_take cX0_take 4 none) ({ frames := 1, cells := 0, slots := 0, locals := 60 }) (va_Pc [.ref (ad 55), .ref (ad 54), .int vn, .int vp] (sz_P (dC, dI) vwCl (tyW cs) H)) (va_Qv (fun (xi : Nat → Nat → Int32) => okR loX hiX xi ∧ (True) ∧ True) (fun xi t => va_P (dC, dI) vwCl (wR 157 ad (EX cs ad) xi) t.heap) (va_A (wR 157 ad (EX cs ad) mu) H.size)) 0 0 (va_A (wR 157 ad (EX cs ad) mu) H.size) := by
  refine Met.ofW (cc := cX0_take) (maxL := 4) (ret := none) (by decide) rfl ?_
  intro p e s m args below meth c s₁ B hml hv
  obtain ⟨rfl, hh, hK, hz⟩ := hv
  have hx := B.exec
  have hb := B.bytes
  have hr := B.returns
  have hts := atoms_spec (ws := (wU yX0_take cX0_take 4 none)) B.pre
  have hown : s.vm.findClass RX0 = some m.cls := findClass_of_methodNamed B.named
  have hlocks := B.notSynchronized
  subst hh
  have hD := hD0.self (sz := s.heap.size)
  have hA : ∀ q : Nat, s.heap.size ≤ q → (va_A (wR 157 ad (EX cs ad) mu) s.heap.size) q := fun q h => Or.inr h
  have hS : va_S (va_A (wR 157 ad (EX cs ad) mu) s.heap.size) s.heap s.heap [] := va_S.rf
  have hl := lv_entry ([.ref (ad 55), .ref (ad 54), .int vn, .int vp]) (n := 4) (Nat.le_of_ble_eq_true rfl)
  rw [lg_entry_eq]
  generalize (lg_sl ([.ref (ad 55), .ref (ad 54), .int vn, .int vp]) ++ List.replicate (4 - (lg_sl ([.ref (ad 55), .ref (ad 54), .int vn, .int vp])).length) Slot.unset).toArray = ls at hl ⊢
  have hl : lv_has ls 4 [(0, .ref (ad 55)), (1, .ref (ad 54)), (2, .int vn), (3, .int vp)] := hl
  refine lv_aload_n hx hb dX0_take_0 rfl (lv_at hl 1 rfl) ?_
  refine lv_iconst (v := 0) hx hb dX0_take_1 (by decide) ?_
  refine lv_aload_n hx hb dX0_take_2 rfl (lv_at hl 0 rfl) ?_
  refine va_get (D := (dC, dI)) (ci := 0) (v := .ref (ad 57)) (C := RX0) (T := TX0) (N := 4) hx hb hts inG0 hown hK hP 55 (gX_55 cs ad mu) rfl 0 (by decide) (hts _ (List.mem_cons_of_mem _ mw_2_26)) (fun _ h9 => h9) rfl dX0_take_3 ?_
  refine lv_iconst (v := 0) hx hb dX0_take_6 (by decide) ?_
  refine lv_iload_n hx hb dX0_take_7 rfl (lv_at hl 2 rfl) ?_
  refine lv_iconst (v := 1) hx hb dX0_take_8 (by decide) ?_
  refine lv_iadd hx hb dX0_take_9 ?_
  refine lv_topi (fun t1 et1 => ?_)
  have at1 : t1.toInt = vn.toInt + 1 := by rw [et1]; exact tI_add (rfl : vn.toInt = _) (rfl : (1 : Int32).toInt = 1) (by omega) (by omega)
  refine va_copyi hx hb (hml.trans hl.1.symm) hown (hts _ (List.mem_cons_of_mem _ mw_4_44)) (hts _ (List.mem_cons_of_mem _ mw_3_4)) (hts _ (List.mem_cons_of_mem _ mw_3_3)) (hts _ (List.mem_cons_of_mem _ mw_1_15)) hK hP (wR_D mu hD) hS 54 57 0 0 (gX_54 cs ad mu) (gX_57 cs ad mu) rfl rfl rfl (by decide) (by decide) (nlt_of (by omega)) (by have ua : ((0 : Int32).toNatClampNeg : Int) = 0 := rfl; have ub : ((0 : Int32).toNatClampNeg : Int) = 0 := rfl; have uc : ((t1 : Int32).toNatClampNeg : Int) = t1.toInt := tC_of (by omega); omega) (by have ua : ((0 : Int32).toNatClampNeg : Int) = 0 := rfl; have ub : ((0 : Int32).toNatClampNeg : Int) = 0 := rfl; have uc : ((t1 : Int32).toNatClampNeg : Int) = t1.toInt := tC_of (by omega); omega) (fun _ _ => rfl) (Nat.le_of_ble_eq_true rfl) (Nat.le_of_ble_eq_true rfl) dX0_take_10 (fun H locs hP _ hS => ?_)
  refine wr_gen (va_cpy (mu 54) (mu 57) (0 : Int32).toNatClampNeg (0 : Int32).toNatClampNeg (t1 : Int32).toNatClampNeg) hP (rfl) (fun nu2 hn2 hP => ?_)
  have ok := okR_cp ok hn2 (cX_54_57  )
  refine lv_aload_n hx hb dX0_take_13 rfl (lv_at hl 0 rfl) ?_
  refine lv_iload_n hx hb dX0_take_14 rfl (lv_at hl 2 rfl) ?_
  refine va_put (D := (dC, dI)) (ci := 0) (v := .int vn) (ty := .int) (C := RX0) (T := TX0) (N := 4) hx hb hts inG0 tyX0 tyX0_ok nmX0 hown hK hP (wR_D nu2 hD) hS 55 (gX_55 cs ad nu2) rfl 1 (by decide) (hts _ (List.mem_cons_of_mem _ mw_2_28)) (fun _ h9 => h9) rfl (by decide +kernel) rfl rfl (Nat.le_of_ble_eq_true rfl) dX0_take_15 (fun H locs hP _ hS => ?_)
  simp only [List.set_cons_succ, List.set_cons_zero] at hP
  refine wr_gen (upd (nu2 55) 1 vn) hP ((hX_55_1 cs ad _ _)) (fun nu3 hn3 hP => ?_)
  have ok := tX_55_1 ok hn3 (by exact ⟨by omega, by omega⟩)
  have ez4 : vn = nu3 55 1 := up_v hn3
  refine lv_aload_n hx hb dX0_take_18 rfl (lv_at hl 0 rfl) ?_
  refine lv_iload_n hx hb dX0_take_19 rfl (lv_at hl 3 rfl) ?_
  refine va_put (D := (dC, dI)) (ci := 0) (v := .int vp) (ty := .int) (C := RX0) (T := TX0) (N := 4) hx hb hts inG0 tyX0 tyX0_ok nmX0 hown hK hP (wR_D nu3 hD) hS 55 (gX_55 cs ad nu3) rfl 2 (by decide) (hts _ (List.mem_cons_of_mem _ mw_2_31)) (fun _ h9 => h9) rfl (by decide +kernel) rfl rfl (Nat.le_of_ble_eq_true rfl) dX0_take_20 (fun H locs hP _ hS => ?_)
  simp only [List.set_cons_succ, List.set_cons_zero] at hP
  refine wr_gen (upd (nu3 55) 2 vp) hP ((hX_55_2 cs ad _ _)) (fun nu5 hn5 hP => ?_)
  have ok := tX_55_2 ok hn5
  have ez6 : vn = nu5 55 1 := ez4.trans (up_f hn5 (by decide)).symm
  have ez7 : vp = nu5 55 2 := up_v hn5
  refine lv_aload_n hx hb dX0_take_23 rfl (lv_at hl 0 rfl) ?_
  refine lv_iconst (v := 1) hx hb dX0_take_24 (by decide) ?_
  refine va_put (D := (dC, dI)) (ci := 0) (v := .int 1) (ty := .boolean) (C := RX0) (T := TX0) (N := 4) hx hb hts inG0 tyX0 tyX0_ok nmX0 hown hK hP (wR_D nu5 hD) hS 55 (gX_55 cs ad nu5) rfl 3 (by decide) (hts _ (List.mem_cons_of_mem _ mw_2_34)) (fun _ h9 => h9) rfl (by decide +kernel) (by first | rfl | decide) (by first | rfl | decide) (Nat.le_of_ble_eq_true rfl) dX0_take_25 (fun H locs hP _ hS => ?_)
  simp only [List.set_cons_succ, List.set_cons_zero] at hP
  refine wr_gen (upd (nu5 55) 3 1) hP ((hX_55_3 cs ad _ _)) (fun nu8 hn8 hP => ?_)
  have ok := tX_55_3 ok hn8 (by have h9 : (1 : Int32).toInt = 1 := rfl; exact ⟨by omega, by omega⟩)
  have ez9 : vn = nu8 55 1 := ez6.trans (up_f hn8 (by decide)).symm
  have ez10 : vp = nu8 55 2 := ez7.trans (up_f hn8 (by decide)).symm
  have ez11 : 1 = nu8 55 3 := up_v hn8
  exact W.vret hx hb hr (fun t ht hW => ⟨⟨nu8, rfl, ⟨ok, trivial, trivial⟩, by first | (subst ht; exact hP) | (rw [ht]; exact hP) | (show va_P (dC, dI) vwCl (wR 157 ad (EX cs ad) nu8) t.heap; rw [ht]; exact hP)⟩, hS.F ht⟩) hS.2.2 dX0_take_28
set_option maxHeartbeats 4000000 in
set_option maxRecDepth 100000 in
/-- sx_take56 -/
theorem sx_take56 (l : Launch) (dC : Nat → ClassId) (dI : Nat → Nat → Nat) (cs : Nat → ClassId) (ad : Nat → Nat) (mu : Nat → Nat → Int32) (ok : okR loX hiX mu) (H : Heap) (hP : va_P (dC, dI) vwCl (wR 157 ad (EX cs ad) mu) H) (hD0 : va_D (fun _ => True) (wR 157 ad (EX cs ad) mu)) (vn : Int32) (vp : Int32) (hin0 : 0 ≤ vn.toInt ∧ vn.toInt ≤ 6) : Met l yX0_take (wU yX0_take cX0_take 4 none) ({ frames := 1, cells := 0, slots := 0, locals := 60 }) (va_Pc [.ref (ad 56), .ref (ad 54), .int vn, .int vp] (sz_P (dC, dI) vwCl (tyW cs) H)) (va_Qv (fun (xi : Nat → Nat → Int32) => okR loX hiX xi ∧ (True) ∧ True) (fun xi t => va_P (dC, dI) vwCl (wR 157 ad (EX cs ad) xi) t.heap) (va_A (wR 157 ad (EX cs ad) mu) H.size)) 0 0 (va_A (wR 157 ad (EX cs ad) mu) H.size) := by
  refine Met.ofW (cc := cX0_take) (maxL := 4) (ret := none) (by decide) rfl ?_
  intro p e s m args below meth c s₁ B hml hv
  obtain ⟨rfl, hh, hK, hz⟩ := hv
  have hx := B.exec
  have hb := B.bytes
  have hr := B.returns
  have hts := atoms_spec (ws := (wU yX0_take cX0_take 4 none)) B.pre
  have hown : s.vm.findClass RX0 = some m.cls := findClass_of_methodNamed B.named
  have hlocks := B.notSynchronized
  subst hh
  have hD := hD0.self (sz := s.heap.size)
  have hA : ∀ q : Nat, s.heap.size ≤ q → (va_A (wR 157 ad (EX cs ad) mu) s.heap.size) q := fun q h => Or.inr h
  have hS : va_S (va_A (wR 157 ad (EX cs ad) mu) s.heap.size) s.heap s.heap [] := va_S.rf
  have hl := lv_entry ([.ref (ad 56), .ref (ad 54), .int vn, .int vp]) (n := 4) (Nat.le_of_ble_eq_true rfl)
  rw [lg_entry_eq]
  generalize (lg_sl ([.ref (ad 56), .ref (ad 54), .int vn, .int vp]) ++ List.replicate (4 - (lg_sl ([.ref (ad 56), .ref (ad 54), .int vn, .int vp])).length) Slot.unset).toArray = ls at hl ⊢
  have hl : lv_has ls 4 [(0, .ref (ad 56)), (1, .ref (ad 54)), (2, .int vn), (3, .int vp)] := hl
  refine lv_aload_n hx hb dX0_take_0 rfl (lv_at hl 1 rfl) ?_
  refine lv_iconst (v := 0) hx hb dX0_take_1 (by decide) ?_
  refine lv_aload_n hx hb dX0_take_2 rfl (lv_at hl 0 rfl) ?_
  refine va_get (D := (dC, dI)) (ci := 0) (v := .ref (ad 58)) (C := RX0) (T := TX0) (N := 4) hx hb hts inG0 hown hK hP 56 (gX_56 cs ad mu) rfl 0 (by decide) (hts _ (List.mem_cons_of_mem _ mw_2_26)) (fun _ h9 => h9) rfl dX0_take_3 ?_
  refine lv_iconst (v := 0) hx hb dX0_take_6 (by decide) ?_
  refine lv_iload_n hx hb dX0_take_7 rfl (lv_at hl 2 rfl) ?_
  refine lv_iconst (v := 1) hx hb dX0_take_8 (by decide) ?_
  refine lv_iadd hx hb dX0_take_9 ?_
  refine lv_topi (fun t1 et1 => ?_)
  have at1 : t1.toInt = vn.toInt + 1 := by rw [et1]; exact tI_add (rfl : vn.toInt = _) (rfl : (1 : Int32).toInt = 1) (by omega) (by omega)
  refine va_copyi hx hb (hml.trans hl.1.symm) hown (hts _ (List.mem_cons_of_mem _ mw_4_44)) (hts _ (List.mem_cons_of_mem _ mw_3_4)) (hts _ (List.mem_cons_of_mem _ mw_3_3)) (hts _ (List.mem_cons_of_mem _ mw_1_15)) hK hP (wR_D mu hD) hS 54 58 0 0 (gX_54 cs ad mu) (gX_58 cs ad mu) rfl rfl rfl (by decide) (by decide) (nlt_of (by omega)) (by have ua : ((0 : Int32).toNatClampNeg : Int) = 0 := rfl; have ub : ((0 : Int32).toNatClampNeg : Int) = 0 := rfl; have uc : ((t1 : Int32).toNatClampNeg : Int) = t1.toInt := tC_of (by omega); omega) (by have ua : ((0 : Int32).toNatClampNeg : Int) = 0 := rfl; have ub : ((0 : Int32).toNatClampNeg : Int) = 0 := rfl; have uc : ((t1 : Int32).toNatClampNeg : Int) = t1.toInt := tC_of (by omega); omega) (fun _ _ => rfl) (Nat.le_of_ble_eq_true rfl) (Nat.le_of_ble_eq_true rfl) dX0_take_10 (fun H locs hP _ hS => ?_)
  refine wr_gen (va_cpy (mu 54) (mu 58) (0 : Int32).toNatClampNeg (0 : Int32).toNatClampNeg (t1 : Int32).toNatClampNeg) hP (rfl) (fun nu2 hn2 hP => ?_)
  have ok := okR_cp ok hn2 (cX_54_58  )
  refine lv_aload_n hx hb dX0_take_13 rfl (lv_at hl 0 rfl) ?_
  refine lv_iload_n hx hb dX0_take_14 rfl (lv_at hl 2 rfl) ?_
  refine va_put (D := (dC, dI)) (ci := 0) (v := .int vn) (ty := .int) (C := RX0) (T := TX0) (N := 4) hx hb hts inG0 tyX0 tyX0_ok nmX0 hown hK hP (wR_D nu2 hD) hS 56 (gX_56 cs ad nu2) rfl 1 (by decide) (hts _ (List.mem_cons_of_mem _ mw_2_28)) (fun _ h9 => h9) rfl (by decide +kernel) rfl rfl (Nat.le_of_ble_eq_true rfl) dX0_take_15 (fun H locs hP _ hS => ?_)
  simp only [List.set_cons_succ, List.set_cons_zero] at hP
  refine wr_gen (upd (nu2 56) 1 vn) hP ((hX_56_1 cs ad _ _)) (fun nu3 hn3 hP => ?_)
  have ok := tX_56_1 ok hn3 (by exact ⟨by omega, by omega⟩)
  have ez4 : vn = nu3 56 1 := up_v hn3
  refine lv_aload_n hx hb dX0_take_18 rfl (lv_at hl 0 rfl) ?_
  refine lv_iload_n hx hb dX0_take_19 rfl (lv_at hl 3 rfl) ?_
  refine va_put (D := (dC, dI)) (ci := 0) (v := .int vp) (ty := .int) (C := RX0) (T := TX0) (N := 4) hx hb hts inG0 tyX0 tyX0_ok nmX0 hown hK hP (wR_D nu3 hD) hS 56 (gX_56 cs ad nu3) rfl 2 (by decide) (hts _ (List.mem_cons_of_mem _ mw_2_31)) (fun _ h9 => h9) rfl (by decide +kernel) rfl rfl (Nat.le_of_ble_eq_true rfl) dX0_take_20 (fun H locs hP _ hS => ?_)
  simp only [List.set_cons_succ, List.set_cons_zero] at hP
  refine wr_gen (upd (nu3 56) 2 vp) hP ((hX_56_2 cs ad _ _)) (fun nu5 hn5 hP => ?_)
  have ok := tX_56_2 ok hn5
  have ez6 : vn = nu5 56 1 := ez4.trans (up_f hn5 (by decide)).symm
  have ez7 : vp = nu5 56 2 := up_v hn5
  refine lv_aload_n hx hb dX0_take_23 rfl (lv_at hl 0 rfl) ?_
  refine lv_iconst (v := 1) hx hb dX0_take_24 (by decide) ?_
  refine va_put (D := (dC, dI)) (ci := 0) (v := .int 1) (ty := .boolean) (C := RX0) (T := TX0) (N := 4) hx hb hts inG0 tyX0 tyX0_ok nmX0 hown hK hP (wR_D nu5 hD) hS 56 (gX_56 cs ad nu5) rfl 3 (by decide) (hts _ (List.mem_cons_of_mem _ mw_2_34)) (fun _ h9 => h9) rfl (by decide +kernel) (by first | rfl | decide) (by first | rfl | decide) (Nat.le_of_ble_eq_true rfl) dX0_take_25 (fun H locs hP _ hS => ?_)
  simp only [List.set_cons_succ, List.set_cons_zero] at hP
  refine wr_gen (upd (nu5 56) 3 1) hP ((hX_56_3 cs ad _ _)) (fun nu8 hn8 hP => ?_)
  have ok := tX_56_3 ok hn8 (by have h9 : (1 : Int32).toInt = 1 := rfl; exact ⟨by omega, by omega⟩)
  have ez9 : vn = nu8 56 1 := ez6.trans (up_f hn8 (by decide)).symm
  have ez10 : vp = nu8 56 2 := ez7.trans (up_f hn8 (by decide)).symm
  have ez11 : 1 = nu8 56 3 := up_v hn8
  exact W.vret hx hb hr (fun t ht hW => ⟨⟨nu8, rfl, ⟨ok, trivial, trivial⟩, by first | (subst ht; exact hP) | (rw [ht]; exact hP) | (show va_P (dC, dI) vwCl (wR 157 ad (EX cs ad) nu8) t.heap; rw [ht]; exact hP)⟩, hS.F ht⟩) hS.2.2 dX0_take_28
set_option maxHeartbeats 4000000 in
set_option maxRecDepth 100000 in
/-- sx_linkUnder -/
theorem sx_linkUnder (l : Launch) (dC : Nat → ClassId) (dI : Nat → Nat → Nat) (cs : Nat → ClassId) (ad : Nat → Nat) (mu : Nat → Nat → Int32) (ok : okR loX hiX mu) (H : Heap) (hP : va_P (dC, dI) vwCl (wR 157 ad (EX cs ad) mu) H) (hD0 : va_D (fun _ => True) (wR 157 ad (EX cs ad) mu)) (vs : Int32) : Met l yX5_linkUnder (wU yX5_linkUnder cX5_linkUnder 4 none) ({ frames := 2, cells := 0, slots := 0, locals := 45 }) (va_Pc [.ref (ad 32), .ref (ad 4), .int vs] (sz_P (dC, dI) vwCl (tyW cs) H)) (va_Qv (fun (xi : Nat → Nat → Int32) => okR loX hiX xi ∧ (True) ∧ True) (fun xi t => va_P (dC, dI) vwCl (wR 157 ad (EX cs ad) xi) t.heap) (va_A (wR 157 ad (EX cs ad) mu) H.size)) 0 0 (va_A (wR 157 ad (EX cs ad) mu) H.size) := by
  refine Met.ofW (cc := cX5_linkUnder) (maxL := 4) (ret := none) (by decide) rfl ?_
  intro p e s m args below meth c s₁ B hml hv
  obtain ⟨rfl, hh, hK, hz⟩ := hv
  have hx := B.exec
  have hb := B.bytes
  have hr := B.returns
  have hts := atoms_spec (ws := (wU yX5_linkUnder cX5_linkUnder 4 none)) B.pre
  have hown : s.vm.findClass RX5 = some m.cls := findClass_of_methodNamed B.named
  have hlocks := B.notSynchronized
  subst hh
  have hD := hD0.self (sz := s.heap.size)
  have hA : ∀ q : Nat, s.heap.size ≤ q → (va_A (wR 157 ad (EX cs ad) mu) s.heap.size) q := fun q h => Or.inr h
  have hS : va_S (va_A (wR 157 ad (EX cs ad) mu) s.heap.size) s.heap s.heap [] := va_S.rf
  have hl := lv_entry ([.ref (ad 32), .ref (ad 4), .int vs]) (n := 4) (Nat.le_of_ble_eq_true rfl)
  rw [lg_entry_eq]
  generalize (lg_sl ([.ref (ad 32), .ref (ad 4), .int vs]) ++ List.replicate (4 - (lg_sl ([.ref (ad 32), .ref (ad 4), .int vs])).length) Slot.unset).toArray = ls at hl ⊢
  have hl : lv_has ls 4 [(0, .ref (ad 32)), (1, .ref (ad 4)), (2, .int vs)] := hl
  refine lv_iconst (v := 0) hx hb dX5_linkUnder_0 (by decide) ?_
  refine lv_istore_n (lv' := [(3, .int 0), (0, .ref (ad 32)), (1, .ref (ad 4)), (2, .int vs)]) hx hb dX5_linkUnder_1 rfl hl (by decide) rfl (fun ls hl => ?_)
  have loop2 : ∀ (n2 : Nat) (v3_2 : Int32) (nu2_ : Nat → Nat → Int32) (H : Heap) (locs : List Loc) (ls : Array Slot), (7 + 1 - v3_2.toInt).toNat < n2 → (0 ≤ v3_2.toInt ∧ v3_2.toInt ≤ 7) → okR loX hiX nu2_ → va_P (dC, dI) vwCl (wR 157 ad (EX cs ad) nu2_) H → va_S (va_A (wR 157 ad (EX cs ad) mu) s.heap.size) s.heap H locs → lv_has ls 4 [(3, .int v3_2), (0, .ref (ad 32)), (1, .ref (ad 4)), (2, .int vs)] → W p l e (headSpec (wU yX5_linkUnder cX5_linkUnder 4 none) ({ frames := 2, cells := 0, slots := 0, locals := 45 })).room s m ([.ref (ad 32), .ref (ad 4), .int vs] : List Value).toArray below meth c H locs 0 0 (MQ below (va_Qv (fun (xi : Nat → Nat → Int32) => okR loX hiX xi ∧ (True) ∧ True) (fun xi t => va_P (dC, dI) vwCl (wR 157 ad (EX cs ad) xi) t.heap) (va_A (wR 157 ad (EX cs ad) mu) s.heap.size)) ([.ref (ad 32), .ref (ad 4), .int vs] : List Value).toArray s 0 0 (va_A (wR 157 ad (EX cs ad) mu) s.heap.size)) (F0 m 2 ls []) := by
    intro n2
    induction n2 with
    | zero => intro v3_2 nu2_ H locs ls hm; exact absurd hm (Nat.not_lt_zero _)
    | succ n2 ih2 =>
      intro v3_2 nu2_ H locs ls hm h_v3_2 ok hP hS hl
      refine lv_iload_n hx hb dX5_linkUnder_2 rfl (lv_at hl 0 rfl) ?_
      refine lv_aload_n hx hb dX5_linkUnder_3 rfl (lv_at hl 2 rfl) ?_
      refine va_get (D := (dC, dI)) (ci := 10) (v := .int (nu2_ 4 6)) (C := RX10) (T := TX10) (N := 8) hx hb hts inG10 hown hK hP 4 (gX_4 cs ad nu2_) rfl 6 (by decide) (hts _ (List.mem_cons_of_mem _ mw_1_162)) (fun _ h9 => h9) rfl dX5_linkUnder_4 ?_
      refine lv_topi (fun y1 ey1 => ?_)
      have by1 : y1.toInt = (nu2_ 4 6).toInt := congrArg Int32.toInt ey1
      have gy1 : 0 ≤ y1.toInt ∧ y1.toInt ≤ 7 := by rw [ey1]; exact rX_4_6 ok
      refine lv_icmp_ge (tgt := 28) hx hb dX5_linkUnder_7 (by decide) (fun c_2 => ?_) (fun c_2 => ?_)
      · have c_2 : y1.toInt ≤ v3_2.toInt := il_le c_2
        exact W.vret hx hb hr (fun t ht hW => ⟨⟨nu2_, rfl, ⟨ok, trivial, trivial⟩, by first | (subst ht; exact hP) | (rw [ht]; exact hP) | (show va_P (dC, dI) vwCl (wR 157 ad (EX cs ad) nu2_) t.heap; rw [ht]; exact hP)⟩, hS.F ht⟩) hS.2.2 dX5_linkUnder_28
      · have c_2 : v3_2.toInt < y1.toInt := il_nle c_2
        refine lv_aload_n hx hb dX5_linkUnder_10 rfl (lv_at hl 1 rfl) ?_
        refine va_get (D := (dC, dI)) (ci := 5) (v := .ref (ad 52)) (C := RX5) (T := TX5) (N := 15) hx hb hts inG5 hown hK hP 32 (gX_32 cs ad nu2_) rfl 0 (by decide) (hts _ (List.mem_cons_of_mem _ mw_2_46)) (fun _ h9 => h9) rfl dX5_linkUnder_11 ?_
        refine lv_iload_n hx hb dX5_linkUnder_14 rfl (lv_at hl 0 rfl) ?_
        refine lv_aload_n hx hb dX5_linkUnder_15 rfl (lv_at hl 2 rfl) ?_
        refine lv_iload_n hx hb dX5_linkUnder_16 rfl (lv_at hl 0 rfl) ?_
        refine lv_iload_n hx hb dX5_linkUnder_17 rfl (lv_at hl 3 rfl) ?_
        refine cr_i (va_runV (As := [.int v3_2, .int vs]) (rest := [.int v3_2, .ref (ad 52)]) ⟨hx, hb, hml, hown, hts⟩ (sx_near l dC dI cs ad nu2_ ok H hP v3_2 vs) (cwV 2 hts (wU_V mw_3_84 mw_4_19 mw_3_82 mw_3_83 mw_1_2) rfl rfl rfl (by decide +kernel) ⟨Nat.le_of_ble_eq_true rfl, Nat.le_of_ble_eq_true rfl⟩) ⟨sz_c, va_recv hK hP (ci := 10) (q0 := 4) rfl (gX_4 cs ad nu2_), sz_m hK hz⟩ rfl rfl hl.1 rfl (lv_room (Nat.le_of_ble_eq_true rfl)) dX5_linkUnder_18 ⟨Nat.zero_le _, Nat.zero_le _⟩) hS (fun r3 hw3 locs hS => ?_)
        refine va_iast hx hb hK hP (wR_D nu2_ hD) hS 52 0 (gX_52 cs ad nu2_) rfl (show vp_in v3_2 7 from vi_of (by omega) (by omega)) dX5_linkUnder_21 (fun H locs hP _ hS => ?_)
        refine wr_gen (upd (nu2_ 52) v3_2.toNatClampNeg r3) hP (rfl) (fun nu4 hn4 hP => ?_)
        have ok := tX_52_s ok v3_2.toNatClampNeg hn4
        have ez5 : y1 = nu4 4 6 := ey1.trans (congrFun (up_k hn4 (by decide)) 6).symm
        refine lv_iinc (v := (v3_2 + 1)) (lv' := [(3, .int (v3_2 + 1)), (0, .ref (ad 32)), (1, .ref (ad 4)), (2, .int vs)]) hx hb dX5_linkUnder_22 hl (k := 0) rfl rfl (by decide) rfl (fun ls hl => ?_)
        refine loc_gen (P := fun w9 => lv_has ls 4 [(3, .int w9), (0, .ref (ad 32)), (1, .ref (ad 4)), (2, .int vs)]) (v3_2 + 1) hl (fun w6 hw6 hl => ?_)
        have hl : lv_has ls 4 [(3, .int w6), (0, .ref (ad 32)), (1, .ref (ad 4)), (2, .int vs)] := hl
        have aw6 : w6.toInt = v3_2.toInt + 1 := by rw [← hw6]; exact tI_add (rfl : v3_2.toInt = _) (rfl : (1 : Int32).toInt = 1) (by omega) (by omega)
        refine lv_goto (tgt := 2) hx hb dX5_linkUnder_25 (by decide) ?_
        exact ih2 (w6) nu4 _ _ _ (by omega) (by exact ⟨by omega, by omega⟩)  ok hP   hS (lv_sub hl [0, 1, 2, 3] rfl)
  exact loop2 ((7 + 1 - (0 : Int32).toInt).toNat + 1) (0) mu _ _ _ (Nat.lt_succ_self _) (by have h80 : (0 : Int32).toInt = 0 := rfl; exact ⟨by omega, by omega⟩)  ok hP   hS hl
set_option maxHeartbeats 4000000 in
set_option maxRecDepth 100000 in
/-- sx_lookFrom -/
theorem sx_lookFrom (l : Launch) (dC : Nat → ClassId) (dI : Nat → Nat → Nat) (cs : Nat → ClassId) (ad : Nat → Nat) (mu : Nat → Nat → Int32) (ok : okR loX hiX mu) (H : Heap) (hP : va_P (dC, dI) vwCl (wR 157 ad (EX cs ad) mu) H) (hD0 : va_D (fun _ => True) (wR 157 ad (EX cs ad) mu)) (vx : Int32) (vy : Int32) (vp : Int32) (hin0 : 0 ≤ vx.toInt ∧ vx.toInt ≤ 6 ∧ 0 ≤ vy.toInt ∧ vy.toInt ≤ 6) : Met l yX5_lookFrom (wU yX5_lookFrom cX5_lookFrom 5 none) ({ frames := 3, cells := 0, slots := 0, locals := 68 }) (va_Pc [.ref (ad 32), .ref (ad 4), .int vx, .int vy, .int vp] (sz_P (dC, dI) vwCl (tyW cs) H)) (va_Qv (fun (xi : Nat → Nat → Int32) => okR loX hiX xi ∧ (True) ∧ True) (fun xi t => va_P (dC, dI) vwCl (wR 157 ad (EX cs ad) xi) t.heap) (va_A (wR 157 ad (EX cs ad) mu) H.size)) 0 0 (va_A (wR 157 ad (EX cs ad) mu) H.size) := by
  refine Met.ofW (cc := cX5_lookFrom) (maxL := 5) (ret := none) (by decide) rfl ?_
  intro p e s m args below meth c s₁ B hml hv
  obtain ⟨rfl, hh, hK, hz⟩ := hv
  have hx := B.exec
  have hb := B.bytes
  have hr := B.returns
  have hts := atoms_spec (ws := (wU yX5_lookFrom cX5_lookFrom 5 none)) B.pre
  have hown : s.vm.findClass RX5 = some m.cls := findClass_of_methodNamed B.named
  have hlocks := B.notSynchronized
  subst hh
  have hD := hD0.self (sz := s.heap.size)
  have hA : ∀ q : Nat, s.heap.size ≤ q → (va_A (wR 157 ad (EX cs ad) mu) s.heap.size) q := fun q h => Or.inr h
  have hS : va_S (va_A (wR 157 ad (EX cs ad) mu) s.heap.size) s.heap s.heap [] := va_S.rf
  have hl := lv_entry ([.ref (ad 32), .ref (ad 4), .int vx, .int vy, .int vp]) (n := 5) (Nat.le_of_ble_eq_true rfl)
  rw [lg_entry_eq]
  generalize (lg_sl ([.ref (ad 32), .ref (ad 4), .int vx, .int vy, .int vp]) ++ List.replicate (5 - (lg_sl ([.ref (ad 32), .ref (ad 4), .int vx, .int vy, .int vp])).length) Slot.unset).toArray = ls at hl ⊢
  have hl : lv_has ls 5 [(0, .ref (ad 32)), (1, .ref (ad 4)), (2, .int vx), (3, .int vy), (4, .int vp)] := hl
  refine lv_aload_n hx hb dX5_lookFrom_0 rfl (lv_at hl 0 rfl) ?_
  refine lv_iload_n hx hb dX5_lookFrom_1 rfl (lv_at hl 2 rfl) ?_
  refine va_put (D := (dC, dI)) (ci := 5) (v := .int vx) (ty := .int) (C := RX5) (T := TX5) (N := 15) hx hb hts inG5 tyX5 tyX5_ok nmX5 hown hK hP (wR_D mu hD) hS 32 (gX_32 cs ad mu) rfl 5 (by decide) (hts _ (List.mem_cons_of_mem _ mw_2_53)) (fun _ h9 => h9) rfl (by decide +kernel) rfl rfl (Nat.le_of_ble_eq_true rfl) dX5_lookFrom_2 (fun H locs hP _ hS => ?_)
  simp only [List.set_cons_succ, List.set_cons_zero] at hP
  refine wr_gen (upd (mu 32) 5 vx) hP ((hX_32_5 cs ad _ _)) (fun nu1 hn1 hP => ?_)
  have ok := tX_32_5 ok hn1 (by exact ⟨by omega, by omega⟩)
  have ez2 : vx = nu1 32 5 := up_v hn1
  refine lv_aload_n hx hb dX5_lookFrom_5 rfl (lv_at hl 0 rfl) ?_
  refine lv_iload_n hx hb dX5_lookFrom_6 rfl (lv_at hl 3 rfl) ?_
  refine va_put (D := (dC, dI)) (ci := 5) (v := .int vy) (ty := .int) (C := RX5) (T := TX5) (N := 15) hx hb hts inG5 tyX5 tyX5_ok nmX5 hown hK hP (wR_D nu1 hD) hS 32 (gX_32 cs ad nu1) rfl 6 (by decide) (hts _ (List.mem_cons_of_mem _ mw_2_54)) (fun _ h9 => h9) rfl (by decide +kernel) rfl rfl (Nat.le_of_ble_eq_true rfl) dX5_lookFrom_7 (fun H locs hP _ hS => ?_)
  simp only [List.set_cons_succ, List.set_cons_zero] at hP
  refine wr_gen (upd (nu1 32) 6 vy) hP ((hX_32_6 cs ad _ _)) (fun nu3 hn3 hP => ?_)
  have ok := tX_32_6 ok hn3 (by exact ⟨by omega, by omega⟩)
  have ez4 : vx = nu3 32 5 := ez2.trans (up_f hn3 (by decide)).symm
  have ez5 : vy = nu3 32 6 := up_v hn3
  refine lv_aload_n hx hb dX5_lookFrom_10 rfl (lv_at hl 0 rfl) ?_
  refine lv_iload hx hb dX5_lookFrom_11 (lv_at hl 4 rfl) ?_
  refine va_put (D := (dC, dI)) (ci := 5) (v := .int vp) (ty := .int) (C := RX5) (T := TX5) (N := 15) hx hb hts inG5 tyX5 tyX5_ok nmX5 hown hK hP (wR_D nu3 hD) hS 32 (gX_32 cs ad nu3) rfl 7 (by decide) (hts _ (List.mem_cons_of_mem _ mw_2_55)) (fun _ h9 => h9) rfl (by decide +kernel) rfl rfl (Nat.le_of_ble_eq_true rfl) dX5_lookFrom_13 (fun H locs hP _ hS => ?_)
  simp only [List.set_cons_succ, List.set_cons_zero] at hP
  refine wr_gen (upd (nu3 32) 7 vp) hP ((hX_32_7 cs ad _ _)) (fun nu6 hn6 hP => ?_)
  have ok := tX_32_7 ok hn6
  have ez7 : vx = nu6 32 5 := ez4.trans (up_f hn6 (by decide)).symm
  have ez8 : vy = nu6 32 6 := ez5.trans (up_f hn6 (by decide)).symm
  have ez9 : vp = nu6 32 7 := up_v hn6
  refine lv_aload_n hx hb dX5_lookFrom_16 rfl (lv_at hl 1 rfl) ?_
  refine va_get (D := (dC, dI)) (ci := 10) (v := .ref (ad 5)) (C := RX10) (T := TX10) (N := 8) hx hb hts inG10 hown hK hP 4 (gX_4 cs ad nu6) rfl 3 (by decide) (hts _ (List.mem_cons_of_mem _ mw_1_153)) (fun _ h9 => h9) rfl dX5_lookFrom_17 ?_
  refine va_get (D := (dC, dI)) (ci := 8) (v := .ref (ad 46)) (C := RX8) (T := TX8) (N := 6) hx hb hts inG8 hown hK hP 5 (gX_5 cs ad nu6) rfl 0 (by decide) (hts _ (List.mem_cons_of_mem _ mw_1_104)) (fun _ h9 => h9) rfl dX5_lookFrom_20 ?_
  refine lv_iconst (v := 0) hx hb dX5_lookFrom_23 (by decide) ?_
  refine lv_aload_n hx hb dX5_lookFrom_24 rfl (lv_at hl 0 rfl) ?_
  refine va_get (D := (dC, dI)) (ci := 5) (v := .ref (ad 53)) (C := RX5) (T := TX5) (N := 15) hx hb hts inG5 hown hK hP 32 (gX_32 cs ad nu6) rfl 1 (by decide) (hts _ (List.mem_cons_of_mem _ mw_2_47)) (fun _ h9 => h9) rfl dX5_lookFrom_25 ?_
  refine lv_iconst (v := 0) hx hb dX5_lookFrom_28 (by decide) ?_
  refine lv_bipush (v := 7) hx hb dX5_lookFrom_29 (by decide) ?_
  refine va_copyi hx hb (hml.trans hl.1.symm) hown (hts _ (List.mem_cons_of_mem _ mw_4_14)) (hts _ (List.mem_cons_of_mem _ mw_3_4)) (hts _ (List.mem_cons_of_mem _ mw_3_3)) (hts _ (List.mem_cons_of_mem _ mw_1_15)) hK hP (wR_D nu6 hD) hS 46 53 0 0 (gX_46 cs ad nu6) (gX_53 cs ad nu6) rfl rfl rfl (by decide) (by decide) (by decide) (by have ua : ((0 : Int32).toNatClampNeg : Int) = 0 := rfl; have ub : ((0 : Int32).toNatClampNeg : Int) = 0 := rfl; have uc : ((7 : Int32).toNatClampNeg : Int) = 7 := rfl; omega) (by have ua : ((0 : Int32).toNatClampNeg : Int) = 0 := rfl; have ub : ((0 : Int32).toNatClampNeg : Int) = 0 := rfl; have uc : ((7 : Int32).toNatClampNeg : Int) = 7 := rfl; omega) (fun _ _ => rfl) (Nat.le_of_ble_eq_true rfl) (Nat.le_of_ble_eq_true rfl) dX5_lookFrom_31 (fun H locs hP _ hS => ?_)
  refine wr_gen (va_cpy (nu6 46) (nu6 53) (0 : Int32).toNatClampNeg (0 : Int32).toNatClampNeg (7 : Int32).toNatClampNeg) hP (rfl) (fun nu10 hn10 hP => ?_)
  have ok := okR_cp ok hn10 (cX_46_53  )
  have ez11 : vx = nu10 32 5 := ez7.trans (congrFun (up_k hn10 (by decide)) 5).symm
  have ez12 : vy = nu10 32 6 := ez8.trans (congrFun (up_k hn10 (by decide)) 6).symm
  have ez13 : vp = nu10 32 7 := ez9.trans (congrFun (up_k hn10 (by decide)) 7).symm
  refine lv_aload_n hx hb dX5_lookFrom_34 rfl (lv_at hl 0 rfl) ?_
  refine lv_aload_n hx hb dX5_lookFrom_35 rfl (lv_at hl 1 rfl) ?_
  refine lv_aload_n hx hb dX5_lookFrom_36 rfl (lv_at hl 1 rfl) ?_
  refine va_get (D := (dC, dI)) (ci := 10) (v := .ref (ad 5)) (C := RX10) (T := TX10) (N := 8) hx hb hts inG10 hown hK hP 4 (gX_4 cs ad nu10) rfl 3 (by decide) (hts _ (List.mem_cons_of_mem _ mw_1_153)) (fun _ h9 => h9) rfl dX5_lookFrom_37 ?_
  refine va_get (D := (dC, dI)) (ci := 8) (v := .int (nu10 5 2)) (C := RX8) (T := TX8) (N := 6) hx hb hts inG8 hown hK hP 5 (gX_5 cs ad nu10) rfl 2 (by decide) (hts _ (List.mem_cons_of_mem _ mw_1_114)) (fun _ h9 => h9) rfl dX5_lookFrom_40 ?_
  refine lv_topi (fun y14 ey14 => ?_)
  have by14 : y14.toInt = (nu10 5 2).toInt := congrArg Int32.toInt ey14
  have hFc := fr_all (wR_D nu10 hD) hS hA
  refine va_callv (va_runV (As := [.ref (ad 4), .int y14]) (rest := []) ⟨hx, hb, hml, hown, hts⟩ (sx_linkUnder l dC dI cs ad nu10 ok H hP ((wR_D nu10 hD).weaken (fun _ _ _ _ => trivial)) y14) (cwV 2 hts (wU_V mw_4_18 mw_4_15 mw_4_17 mw_0_11 mw_1_8) rfl rfl rfl (by decide +kernel) ⟨Nat.le_of_ble_eq_true rfl, Nat.le_of_ble_eq_true rfl⟩) ⟨sz_c, va_recv hK hP (ci := 5) (q0 := 32) rfl (gX_32 cs ad nu10), sz_m hK hz⟩ rfl rfl hl.1 rfl (lv_room (Nat.le_of_ble_eq_true rfl)) dX5_lookFrom_43 ⟨Nat.zero_le _, Nat.zero_le _⟩) hS (fun q _ h => hFc q h) hFc (fun xi15 t H15 locs ht hvm hw15 hB hz1 hk1 hS => ?_)
  have hP : va_P (dC, dI) vwCl (wR 157 ad (EX cs ad) xi15) H15 := by rw [← ht]; exact hB
  obtain ⟨ok, hw15, _⟩ := hw15
  exact W.vret hx hb hr (fun t ht hW => ⟨⟨xi15, rfl, ⟨ok, trivial, trivial⟩, by first | (subst ht; exact hP) | (rw [ht]; exact hP) | (show va_P (dC, dI) vwCl (wR 157 ad (EX cs ad) xi15) t.heap; rw [ht]; exact hP)⟩, hS.F ht⟩) hS.2.2 dX5_lookFrom_46
set_option maxHeartbeats 4000000 in
set_option maxRecDepth 100000 in
/-- sx_lookAt -/
theorem sx_lookAt (l : Launch) (dC : Nat → ClassId) (dI : Nat → Nat → Nat) (cs : Nat → ClassId) (ad : Nat → Nat) (mu : Nat → Nat → Int32) (ok : okR loX hiX mu) (H : Heap) (hP : va_P (dC, dI) vwCl (wR 157 ad (EX cs ad) mu) H) (hD0 : va_D (fun _ => True) (wR 157 ad (EX cs ad) mu)) (kl : Nat) (h1kl : 61 ≤ kl) (h2kl : kl < 77) : Met l yX5_lookAt (wU yX5_lookAt cX5_lookAt 3 none) ({ frames := 4, cells := 0, slots := 0, locals := 92 }) (va_Pc [.ref (ad 32), .ref (ad 4), .ref (ad kl)] (sz_P (dC, dI) vwCl (tyW cs) H)) (va_Qv (fun (xi : Nat → Nat → Int32) => okR loX hiX xi ∧ (True) ∧ True) (fun xi t => va_P (dC, dI) vwCl (wR 157 ad (EX cs ad) xi) t.heap) (va_A (wR 157 ad (EX cs ad) mu) H.size)) 0 0 (va_A (wR 157 ad (EX cs ad) mu) H.size) := by
  refine Met.ofW (cc := cX5_lookAt) (maxL := 3) (ret := none) (by decide) rfl ?_
  intro p e s m args below meth c s₁ B hml hv
  obtain ⟨rfl, hh, hK, hz⟩ := hv
  have hx := B.exec
  have hb := B.bytes
  have hr := B.returns
  have hts := atoms_spec (ws := (wU yX5_lookAt cX5_lookAt 3 none)) B.pre
  have hown : s.vm.findClass RX5 = some m.cls := findClass_of_methodNamed B.named
  have hlocks := B.notSynchronized
  subst hh
  have hD := hD0.self (sz := s.heap.size)
  have hA : ∀ q : Nat, s.heap.size ≤ q → (va_A (wR 157 ad (EX cs ad) mu) s.heap.size) q := fun q h => Or.inr h
  have hS : va_S (va_A (wR 157 ad (EX cs ad) mu) s.heap.size) s.heap s.heap [] := va_S.rf
  have hl := lv_entry ([.ref (ad 32), .ref (ad 4), .ref (ad kl)]) (n := 3) (Nat.le_of_ble_eq_true rfl)
  rw [lg_entry_eq]
  generalize (lg_sl ([.ref (ad 32), .ref (ad 4), .ref (ad kl)]) ++ List.replicate (3 - (lg_sl ([.ref (ad 32), .ref (ad 4), .ref (ad kl)])).length) Slot.unset).toArray = ls at hl ⊢
  have hl : lv_has ls 3 [(0, .ref (ad 32)), (1, .ref (ad 4)), (2, .ref (ad kl))] := hl
  refine lv_aload_n hx hb dX5_lookAt_0 rfl (lv_at hl 0 rfl) ?_
  refine lv_aload_n hx hb dX5_lookAt_1 rfl (lv_at hl 1 rfl) ?_
  refine lv_aload_n hx hb dX5_lookAt_2 rfl (lv_at hl 2 rfl) ?_
  refine va_get (D := (dC, dI)) (ci := 3) (v := .int (mu kl 5)) (C := RX3) (T := TX3) (N := 10) hx hb hts inG3 hown hK hP kl (gX_letter cs ad mu kl h1kl h2kl) rfl 5 (by decide) (hts _ (List.mem_cons_of_mem _ mw_1_61)) (fun _ h9 => h9) rfl dX5_lookAt_3 ?_
  refine lv_topi (fun y1 ey1 => ?_)
  have by1 : y1.toInt = (mu kl 5).toInt := congrArg Int32.toInt ey1
  have gy1 : 0 ≤ y1.toInt ∧ y1.toInt ≤ 6 := by rw [ey1]; exact rX_letter_5 ok kl h1kl h2kl
  refine lv_aload_n hx hb dX5_lookAt_6 rfl (lv_at hl 2 rfl) ?_
  refine va_get (D := (dC, dI)) (ci := 3) (v := .int (mu kl 1)) (C := RX3) (T := TX3) (N := 10) hx hb hts inG3 hown hK hP kl (gX_letter cs ad mu kl h1kl h2kl) rfl 1 (by decide) (hts _ (List.mem_cons_of_mem _ mw_1_53)) (fun _ h9 => h9) rfl dX5_lookAt_7 ?_
  refine lv_topi (fun y2 ey2 => ?_)
  have by2 : y2.toInt = (mu kl 1).toInt := congrArg Int32.toInt ey2
  have gy2 : 0 ≤ y2.toInt ∧ y2.toInt ≤ 6 := by rw [ey2]; exact rX_letter_1 ok kl h1kl h2kl
  refine lv_aload_n hx hb dX5_lookAt_10 rfl (lv_at hl 2 rfl) ?_
  refine va_get (D := (dC, dI)) (ci := 3) (v := .int (mu kl 6)) (C := RX3) (T := TX3) (N := 10) hx hb hts inG3 hown hK hP kl (gX_letter cs ad mu kl h1kl h2kl) rfl 6 (by decide) (hts _ (List.mem_cons_of_mem _ mw_1_66)) (fun _ h9 => h9) rfl dX5_lookAt_11 ?_
  refine lv_topi (fun y3 ey3 => ?_)
  have by3 : y3.toInt = (mu kl 6).toInt := congrArg Int32.toInt ey3
  have hFc := fr_all (wR_D mu hD) hS hA
  refine va_callv (va_runV (As := [.ref (ad 4), .int y1, .int y2, .int y3]) (rest := []) ⟨hx, hb, hml, hown, hts⟩ (sx_lookFrom l dC dI cs ad mu ok s.heap hP ((wR_D mu hD).weaken (fun _ _ _ _ => trivial)) y1 y2 y3 (by omega)) (cwV 4 hts (wU_V mw_4_13 mw_4_10 mw_4_12 mw_0_10 mw_1_8) rfl rfl rfl (by decide +kernel) ⟨Nat.le_of_ble_eq_true rfl, Nat.le_of_ble_eq_true rfl⟩) ⟨sz_c, va_recv hK hP (ci := 5) (q0 := 32) rfl (gX_32 cs ad mu), sz_m hK hz⟩ rfl rfl hl.1 rfl (lv_room (Nat.le_of_ble_eq_true rfl)) dX5_lookAt_14 ⟨Nat.zero_le _, Nat.zero_le _⟩) hS (fun q _ h => hFc q h) hFc (fun xi4 t H4 locs ht hvm hw4 hB hz1 hk1 hS => ?_)
  have hP : va_P (dC, dI) vwCl (wR 157 ad (EX cs ad) xi4) H4 := by rw [← ht]; exact hB
  obtain ⟨ok, hw4, _⟩ := hw4
  refine lv_aload_n hx hb dX5_lookAt_17 rfl (lv_at hl 0 rfl) ?_
  refine lv_aload_n hx hb dX5_lookAt_18 rfl (lv_at hl 2 rfl) ?_
  refine lv_aload_n hx hb dX5_lookAt_19 rfl (lv_at hl 1 rfl) ?_
  refine va_get (D := (dC, dI)) (ci := 10) (v := .ref (ad 5)) (C := RX10) (T := TX10) (N := 8) hx hb hts inG10 hown hK hP 4 (gX_4 cs ad xi4) rfl 3 (by decide) (hts _ (List.mem_cons_of_mem _ mw_1_153)) (fun _ h9 => h9) rfl dX5_lookAt_20 ?_
  refine va_get (D := (dC, dI)) (ci := 8) (v := .int (xi4 5 3)) (C := RX8) (T := TX8) (N := 6) hx hb hts inG8 hown hK hP 5 (gX_5 cs ad xi4) rfl 3 (by decide) (hts _ (List.mem_cons_of_mem _ mw_1_119)) (fun _ h9 => h9) rfl dX5_lookAt_23 ?_
  refine lv_topi (fun y5 ey5 => ?_)
  have by5 : y5.toInt = (xi4 5 3).toInt := congrArg Int32.toInt ey5
  refine cr_i (va_runV (As := [.int y5]) (rest := [.ref (ad 32)]) ⟨hx, hb, hml, hown, hts⟩ (sx_worthOn l dC dI cs ad xi4 ok H4 hP kl h1kl h2kl y5) (cwV 1 hts (wU_V mw_3_170 mw_4_20 mw_3_168 mw_3_169 mw_1_4) rfl rfl rfl (by decide +kernel) ⟨Nat.le_of_ble_eq_true rfl, Nat.le_of_ble_eq_true rfl⟩) ⟨sz_c, va_recv hK hP (ci := 3) (q0 := kl) rfl (gX_letter cs ad xi4 kl h1kl h2kl), sz_m hK hz⟩ rfl rfl hl.1 rfl (lv_room (Nat.le_of_ble_eq_true rfl)) dX5_lookAt_26 ⟨Nat.zero_le _, Nat.zero_le _⟩) hS (fun r6 hw6 locs hS => ?_)
  refine va_put (D := (dC, dI)) (ci := 5) (v := .int r6) (ty := .int) (C := RX5) (T := TX5) (N := 15) hx hb hts inG5 tyX5 tyX5_ok nmX5 hown hK hP (wR_D xi4 hD) hS 32 (gX_32 cs ad xi4) rfl 8 (by decide) (hts _ (List.mem_cons_of_mem _ mw_2_56)) (fun _ h9 => h9) rfl (by decide +kernel) rfl rfl (Nat.le_of_ble_eq_true rfl) dX5_lookAt_29 (fun H locs hP _ hS => ?_)
  simp only [List.set_cons_succ, List.set_cons_zero] at hP
  refine wr_gen (upd (xi4 32) 8 r6) hP ((hX_32_8 cs ad _ _)) (fun nu7 hn7 hP => ?_)
  have ok := tX_32_8 ok hn7
  have ez8 : y5 = nu7 5 3 := ey5.trans (congrFun (up_k hn7 (by decide)) 3).symm
  have ez9 : r6 = nu7 32 8 := up_v hn7
  refine lv_aload_n hx hb dX5_lookAt_32 rfl (lv_at hl 0 rfl) ?_
  refine lv_aload_n hx hb dX5_lookAt_33 rfl (lv_at hl 2 rfl) ?_
  refine va_get (D := (dC, dI)) (ci := 3) (v := .int (nu7 kl 3)) (C := RX3) (T := TX3) (N := 10) hx hb hts inG3 hown hK hP kl (gX_letter cs ad nu7 kl h1kl h2kl) rfl 3 (by decide) (hts _ (List.mem_cons_of_mem _ mw_1_59)) (fun _ h9 => h9) rfl dX5_lookAt_34 ?_
  refine lv_topi (fun y10 ey10 => ?_)
  have by10 : y10.toInt = (nu7 kl 3).toInt := congrArg Int32.toInt ey10
  refine va_put (D := (dC, dI)) (ci := 5) (v := .int y10) (ty := .int) (C := RX5) (T := TX5) (N := 15) hx hb hts inG5 tyX5 tyX5_ok nmX5 hown hK hP (wR_D nu7 hD) hS 32 (gX_32 cs ad nu7) rfl 9 (by decide) (hts _ (List.mem_cons_of_mem _ mw_2_57)) (fun _ h9 => h9) rfl (by decide +kernel) rfl rfl (Nat.le_of_ble_eq_true rfl) dX5_lookAt_37 (fun H locs hP _ hS => ?_)
  simp only [List.set_cons_succ, List.set_cons_zero] at hP
  refine wr_gen (upd (nu7 32) 9 y10) hP ((hX_32_9 cs ad _ _)) (fun nu11 hn11 hP => ?_)
  have ok := tX_32_9 ok hn11
  have ez12 : y5 = nu11 5 3 := ez8.trans (congrFun (up_k hn11 (by decide)) 3).symm
  have ez13 : r6 = nu11 32 8 := ez9.trans (up_f hn11 (by decide)).symm
  have ez14 : y10 = nu11 kl 3 := ey10.trans (congrFun (up_k hn11 (ne_lo (by decide) h1kl).symm) 3).symm
  have ez15 : y10 = nu11 32 9 := up_v hn11
  refine lv_aload_n hx hb dX5_lookAt_40 rfl (lv_at hl 0 rfl) ?_
  refine lv_aload_n hx hb dX5_lookAt_41 rfl (lv_at hl 2 rfl) ?_
  refine va_get (D := (dC, dI)) (ci := 3) (v := .int (nu11 kl 7)) (C := RX3) (T := TX3) (N := 10) hx hb hts inG3 hown hK hP kl (gX_letter cs ad nu11 kl h1kl h2kl) rfl 7 (by decide) (hts _ (List.mem_cons_of_mem _ mw_1_72)) (fun _ h9 => h9) rfl dX5_lookAt_42 ?_
  refine lv_topi (fun y16 ey16 => ?_)
  have by16 : y16.toInt = (nu11 kl 7).toInt := congrArg Int32.toInt ey16
  refine lv_aload_n hx hb dX5_lookAt_45 rfl (lv_at hl 1 rfl) ?_
  refine va_get (D := (dC, dI)) (ci := 10) (v := .ref (ad 5)) (C := RX10) (T := TX10) (N := 8) hx hb hts inG10 hown hK hP 4 (gX_4 cs ad nu11) rfl 3 (by decide) (hts _ (List.mem_cons_of_mem _ mw_1_153)) (fun _ h9 => h9) rfl dX5_lookAt_46 ?_
  refine va_get (D := (dC, dI)) (ci := 8) (v := .int (nu11 5 3)) (C := RX8) (T := TX8) (N := 6) hx hb hts inG8 hown hK hP 5 (gX_5 cs ad nu11) rfl 3 (by decide) (hts _ (List.mem_cons_of_mem _ mw_1_119)) (fun _ h9 => h9) rfl dX5_lookAt_49 ?_
  refine lq_i y5 ez12.symm ?_
  refine lv_icmp_ne (tgt := 59) hx hb dX5_lookAt_52 (by decide) (fun c_17 => ?_) (fun c_17 => ?_)
  · have c_17 : ¬ y16.toInt = y5.toInt := il_ne c_17
    refine lv_iconst (v := 0) hx hb dX5_lookAt_59 (by decide) ?_
    refine va_put (D := (dC, dI)) (ci := 5) (v := .int 0) (ty := .int) (C := RX5) (T := TX5) (N := 15) hx hb hts inG5 tyX5 tyX5_ok nmX5 hown hK hP (wR_D nu11 hD) hS 32 (gX_32 cs ad nu11) rfl 10 (by decide) (hts _ (List.mem_cons_of_mem _ mw_2_58)) (fun _ h9 => h9) rfl (by decide +kernel) rfl rfl (Nat.le_of_ble_eq_true rfl) dX5_lookAt_60 (fun H locs hP _ hS => ?_)
    simp only [List.set_cons_succ, List.set_cons_zero] at hP
    refine wr_gen (upd (nu11 32) 10 0) hP ((hX_32_10 cs ad _ _)) (fun nu18 hn18 hP => ?_)
    have ok := tX_32_10 ok hn18
    have ez19 : y5 = nu18 5 3 := ez12.trans (congrFun (up_k hn18 (by decide)) 3).symm
    have ez20 : r6 = nu18 32 8 := ez13.trans (up_f hn18 (by decide)).symm
    have ez21 : y10 = nu18 kl 3 := ez14.trans (congrFun (up_k hn18 (ne_lo (by decide) h1kl).symm) 3).symm
    have ez22 : y10 = nu18 32 9 := ez15.trans (up_f hn18 (by decide)).symm
    have ez23 : y16 = nu18 kl 7 := ey16.trans (congrFun (up_k hn18 (ne_lo (by decide) h1kl).symm) 7).symm
    have ez24 : 0 = nu18 32 10 := up_v hn18
    exact W.vret hx hb hr (fun t ht hW => ⟨⟨nu18, rfl, ⟨ok, trivial, trivial⟩, by first | (subst ht; exact hP) | (rw [ht]; exact hP) | (show va_P (dC, dI) vwCl (wR 157 ad (EX cs ad) nu18) t.heap; rw [ht]; exact hP)⟩, hS.F ht⟩) hS.2.2 dX5_lookAt_63
  · have c_17 : y16.toInt = y5.toInt := il_eq c_17
    refine lv_iconst (v := 1) hx hb dX5_lookAt_55 (by decide) ?_
    refine lv_goto (tgt := 60) hx hb dX5_lookAt_56 (by decide) ?_
    refine va_put (D := (dC, dI)) (ci := 5) (v := .int 1) (ty := .int) (C := RX5) (T := TX5) (N := 15) hx hb hts inG5 tyX5 tyX5_ok nmX5 hown hK hP (wR_D nu11 hD) hS 32 (gX_32 cs ad nu11) rfl 10 (by decide) (hts _ (List.mem_cons_of_mem _ mw_2_58)) (fun _ h9 => h9) rfl (by decide +kernel) rfl rfl (Nat.le_of_ble_eq_true rfl) dX5_lookAt_60 (fun H locs hP _ hS => ?_)
    simp only [List.set_cons_succ, List.set_cons_zero] at hP
    refine wr_gen (upd (nu11 32) 10 1) hP ((hX_32_10 cs ad _ _)) (fun nu25 hn25 hP => ?_)
    have ok := tX_32_10 ok hn25
    have ez26 : y5 = nu25 5 3 := ez12.trans (congrFun (up_k hn25 (by decide)) 3).symm
    have ez27 : r6 = nu25 32 8 := ez13.trans (up_f hn25 (by decide)).symm
    have ez28 : y10 = nu25 kl 3 := ez14.trans (congrFun (up_k hn25 (ne_lo (by decide) h1kl).symm) 3).symm
    have ez29 : y10 = nu25 32 9 := ez15.trans (up_f hn25 (by decide)).symm
    have ez30 : y16 = nu25 kl 7 := ey16.trans (congrFun (up_k hn25 (ne_lo (by decide) h1kl).symm) 7).symm
    have ez31 : 1 = nu25 32 10 := up_v hn25
    exact W.vret hx hb hr (fun t ht hW => ⟨⟨nu25, rfl, ⟨ok, trivial, trivial⟩, by first | (subst ht; exact hP) | (rw [ht]; exact hP) | (show va_P (dC, dI) vwCl (wR 157 ad (EX cs ad) nu25) t.heap; rw [ht]; exact hP)⟩, hS.F ht⟩) hS.2.2 dX5_lookAt_63
set_option maxHeartbeats 4000000 in
set_option maxRecDepth 100000 in
/-- sx_buys -/
theorem sx_buys (l : Launch) (dC : Nat → ClassId) (dI : Nat → Nat → Nat) (cs : Nat → ClassId) (ad : Nat → Nat) (mu : Nat → Nat → Int32) (ok : okR loX hiX mu) (H : Heap) (hP : va_P (dC, dI) vwCl (wR 157 ad (EX cs ad) mu) H) (vx : Int32) (vy : Int32) (vu : Int32) (vp : Int32) (hin0 : 0 ≤ vx.toInt ∧ vx.toInt ≤ 6 ∧ 0 ≤ vy.toInt ∧ vy.toInt ≤ 6) : Met l yX5_buys (wU yX5_buys cX5_buys 6 (some .boolean)) ({ frames := 1, cells := 0, slots := 0, locals := 21 }) (va_Pc [.ref (ad 32), .ref (ad 4), .int vx, .int vy, .int vu, .int vp] (sz_P (dC, dI) vwCl (tyW cs) H)) (va_Qi (fun (z : Int32) (_ : Unit) => 0 ≤ z.toInt ∧ z.toInt ≤ 1) (fun _ t => t.heap = H) (fun _ => False)) 0 0 (fun _ => False) := by
  refine Met.ofW (cc := cX5_buys) (maxL := 6) (ret := (some .boolean)) (by decide) rfl ?_
  intro p e s m args below meth c s₁ B hml hv
  obtain ⟨rfl, hh, hK, hz⟩ := hv
  have hx := B.exec
  have hb := B.bytes
  have hr := B.returns
  have hts := atoms_spec (ws := (wU yX5_buys cX5_buys 6 (some .boolean))) B.pre
  have hown : s.vm.findClass RX5 = some m.cls := findClass_of_methodNamed B.named
  have hlocks := B.notSynchronized
  subst hh
  have hS : va_S (fun _ => False) s.heap s.heap [] := va_S.rf
  have hl := lv_entry ([.ref (ad 32), .ref (ad 4), .int vx, .int vy, .int vu, .int vp]) (n := 6) (Nat.le_of_ble_eq_true rfl)
  rw [lg_entry_eq]
  generalize (lg_sl ([.ref (ad 32), .ref (ad 4), .int vx, .int vy, .int vu, .int vp]) ++ List.replicate (6 - (lg_sl ([.ref (ad 32), .ref (ad 4), .int vx, .int vy, .int vu, .int vp])).length) Slot.unset).toArray = ls at hl ⊢
  have hl : lv_has ls 6 [(0, .ref (ad 32)), (1, .ref (ad 4)), (2, .int vx), (3, .int vy), (4, .int vu), (5, .int vp)] := hl
  refine lv_aload_n hx hb dX5_buys_0 rfl (lv_at hl 0 rfl) ?_
  refine va_get (D := (dC, dI)) (ci := 5) (v := .ref (ad 52)) (C := RX5) (T := TX5) (N := 15) hx hb hts inG5 hown hK hP 32 (gX_32 cs ad mu) rfl 0 (by decide) (hts _ (List.mem_cons_of_mem _ mw_2_46)) (fun _ h9 => h9) rfl dX5_buys_1 ?_
  refine lv_iload_n hx hb dX5_buys_4 rfl (lv_at hl 2 rfl) ?_
  refine va_iald hx hb hK hP 52 0 (gX_52 cs ad mu) rfl (show vp_in vx 7 from vi_of (by omega) (by omega)) dX5_buys_5 ?_
  refine lv_topi (fun y1 ey1 => ?_)
  have by1 : y1.toInt = (mu 52 vx.toNatClampNeg).toInt := congrArg Int32.toInt ey1
  refine lv_iload_n hx hb dX5_buys_6 rfl (lv_at hl 3 rfl) ?_
  refine cr_i (va_runSN (As := [.int y1, .int vy]) (rest := []) ⟨hx, hb, hml, hown, hts⟩ (sx_hasBit l dC dI (tyW cs) s.heap y1 vy) ⟨va_cnB 2 hts (wU_in mw_3_87) rfl rfl rfl (hz.2.2.2.2.2.2.2.2.2.2.2.2.2.2.1) (hts _ (List.mem_cons_of_mem _ mw_1_1)) (by decide +kernel) ⟨Nat.le_of_ble_eq_true rfl, Nat.le_of_ble_eq_true rfl⟩, (hts _ (List.mem_cons_of_mem _ mw_3_86)), trivial⟩ ⟨sz_c, sz_m hK hz⟩ rfl rfl hl.1 rfl (lv_room (Nat.le_of_ble_eq_true rfl)) dX5_buys_7 ⟨Nat.zero_le _, Nat.zero_le _⟩) hS (fun r2 hw2 locs hS => ?_)
  have gr2 : 0 ≤ r2.toInt ∧ r2.toInt ≤ 1 := hw2
  refine lv_if_eq (tgt := 55) hx hb dX5_buys_10 (by decide) (fun c_3 => ?_) (fun c_3 => ?_)
  · have c_3 : r2.toInt = 0 := il_eq c_3
    refine lv_iconst (v := 0) hx hb dX5_buys_55 (by decide) ?_
    exact W.zret (v := 0) (ty := .boolean) hx hb hr (by first | rfl | decide) (fun t ht hW => ⟨⟨0, (), rfl, (by have h6 : (0 : Int32).toInt = 0 := rfl; omega), ht⟩, hS.F ht⟩) hS.2.2 dX5_buys_56
  · have c_3 : ¬ r2.toInt = 0 := il_ne c_3
    refine lv_iload hx hb dX5_buys_13 (lv_at hl 4 rfl) ?_
    refine lv_iload_n hx hb dX5_buys_15 rfl (lv_at hl 3 rfl) ?_
    refine cr_i (va_runSN (As := [.int vu, .int vy]) (rest := []) ⟨hx, hb, hml, hown, hts⟩ (sx_hasBit l dC dI (tyW cs) s.heap vu vy) ⟨va_cnB 2 hts (wU_in mw_3_87) rfl rfl rfl (hz.2.2.2.2.2.2.2.2.2.2.2.2.2.2.1) (hts _ (List.mem_cons_of_mem _ mw_1_1)) (by decide +kernel) ⟨Nat.le_of_ble_eq_true rfl, Nat.le_of_ble_eq_true rfl⟩, (hts _ (List.mem_cons_of_mem _ mw_3_86)), trivial⟩ ⟨sz_c, sz_m hK hz⟩ rfl rfl hl.1 rfl (lv_room (Nat.le_of_ble_eq_true rfl)) dX5_buys_16 ⟨Nat.zero_le _, Nat.zero_le _⟩) hS (fun r4 hw4 locs hS => ?_)
    have gr4 : 0 ≤ r4.toInt ∧ r4.toInt ≤ 1 := hw4
    refine lv_if_ne (tgt := 55) hx hb dX5_buys_19 (by decide) (fun c_5 => ?_) (fun c_5 => ?_)
    · have c_5 : ¬ r4.toInt = 0 := il_ne c_5
      refine lv_iconst (v := 0) hx hb dX5_buys_55 (by decide) ?_
      exact W.zret (v := 0) (ty := .boolean) hx hb hr (by first | rfl | decide) (fun t ht hW => ⟨⟨0, (), rfl, (by have h6 : (0 : Int32).toInt = 0 := rfl; omega), ht⟩, hS.F ht⟩) hS.2.2 dX5_buys_56
    · have c_5 : r4.toInt = 0 := il_eq c_5
      refine lv_aload_n hx hb dX5_buys_22 rfl (lv_at hl 0 rfl) ?_
      refine va_get (D := (dC, dI)) (ci := 5) (v := .ref (ad 53)) (C := RX5) (T := TX5) (N := 15) hx hb hts inG5 hown hK hP 32 (gX_32 cs ad mu) rfl 1 (by decide) (hts _ (List.mem_cons_of_mem _ mw_2_47)) (fun _ h9 => h9) rfl dX5_buys_23 ?_
      refine lv_iload_n hx hb dX5_buys_26 rfl (lv_at hl 3 rfl) ?_
      refine va_iald hx hb hK hP 53 0 (gX_53 cs ad mu) rfl (show vp_in vy 7 from vi_of (by omega) (by omega)) dX5_buys_27 ?_
      refine lv_topi (fun y6 ey6 => ?_)
      have by6 : y6.toInt = (mu 53 vy.toNatClampNeg).toInt := congrArg Int32.toInt ey6
      refine lv_iload hx hb dX5_buys_28 (lv_at hl 5 rfl) ?_
      refine lv_icmp_lt (tgt := 55) hx hb dX5_buys_30 (by decide) (fun c_7 => ?_) (fun c_7 => ?_)
      · have c_7 : y6.toInt < vp.toInt := il_lt c_7
        refine lv_iconst (v := 0) hx hb dX5_buys_55 (by decide) ?_
        exact W.zret (v := 0) (ty := .boolean) hx hb hr (by first | rfl | decide) (fun t ht hW => ⟨⟨0, (), rfl, (by have h6 : (0 : Int32).toInt = 0 := rfl; omega), ht⟩, hS.F ht⟩) hS.2.2 dX5_buys_56
      · have c_7 : vp.toInt ≤ y6.toInt := il_nlt c_7
        refine lv_iload_n hx hb dX5_buys_33 rfl (lv_at hl 3 rfl) ?_
        refine lv_aload_n hx hb dX5_buys_34 rfl (lv_at hl 0 rfl) ?_
        refine va_get (D := (dC, dI)) (ci := 5) (v := .int (mu 32 6)) (C := RX5) (T := TX5) (N := 15) hx hb hts inG5 hown hK hP 32 (gX_32 cs ad mu) rfl 6 (by decide) (hts _ (List.mem_cons_of_mem _ mw_2_54)) (fun _ h9 => h9) rfl dX5_buys_35 ?_
        refine lv_topi (fun y8 ey8 => ?_)
        have by8 : y8.toInt = (mu 32 6).toInt := congrArg Int32.toInt ey8
        have gy8 : 0 ≤ y8.toInt ∧ y8.toInt ≤ 6 := by rw [ey8]; exact rX_32_6 ok
        refine lv_icmp_eq (tgt := 51) hx hb dX5_buys_38 (by decide) (fun c_9 => ?_) (fun c_9 => ?_)
        · have c_9 : vy.toInt = y8.toInt := il_eq c_9
          refine lv_iconst (v := 1) hx hb dX5_buys_51 (by decide) ?_
          refine lv_goto (tgt := 56) hx hb dX5_buys_52 (by decide) ?_
          exact W.zret (v := 1) (ty := .boolean) hx hb hr (by first | rfl | decide) (fun t ht hW => ⟨⟨1, (), rfl, (by have h6 : (1 : Int32).toInt = 1 := rfl; omega), ht⟩, hS.F ht⟩) hS.2.2 dX5_buys_56
        · have c_9 : ¬ vy.toInt = y8.toInt := il_ne c_9
          refine lv_aload_n hx hb dX5_buys_41 rfl (lv_at hl 1 rfl) ?_
          refine va_get (D := (dC, dI)) (ci := 10) (v := .ref (ad 34)) (C := RX10) (T := TX10) (N := 8) hx hb hts inG10 hown hK hP 4 (gX_4 cs ad mu) rfl 0 (by decide) (hts _ (List.mem_cons_of_mem _ mw_1_146)) (fun _ h9 => h9) rfl dX5_buys_42 ?_
          refine lv_iload_n hx hb dX5_buys_45 rfl (lv_at hl 3 rfl) ?_
          refine va_iald hx hb hK hP 34 0 (gX_34 cs ad mu) rfl (show vp_in vy 7 from vi_of (by omega) (by omega)) dX5_buys_46 ?_
          refine lv_topi (fun y10 ey10 => ?_)
          have by10 : y10.toInt = (mu 34 vy.toNatClampNeg).toInt := congrArg Int32.toInt ey10
          refine lv_iconst (v := 3) hx hb dX5_buys_47 (by decide) ?_
          refine lv_icmp_eq (tgt := 55) hx hb dX5_buys_48 (by decide) (fun c_11 => ?_) (fun c_11 => ?_)
          · have c_11 : y10.toInt = 3 := il_eq c_11
            refine lv_iconst (v := 0) hx hb dX5_buys_55 (by decide) ?_
            exact W.zret (v := 0) (ty := .boolean) hx hb hr (by first | rfl | decide) (fun t ht hW => ⟨⟨0, (), rfl, (by have h6 : (0 : Int32).toInt = 0 := rfl; omega), ht⟩, hS.F ht⟩) hS.2.2 dX5_buys_56
          · have c_11 : ¬ y10.toInt = 3 := il_ne c_11
            refine lv_iconst (v := 1) hx hb dX5_buys_51 (by decide) ?_
            refine lv_goto (tgt := 56) hx hb dX5_buys_52 (by decide) ?_
            exact W.zret (v := 1) (ty := .boolean) hx hb hr (by first | rfl | decide) (fun t ht hW => ⟨⟨1, (), rfl, (by have h6 : (1 : Int32).toInt = 1 := rfl; omega), ht⟩, hS.F ht⟩) hS.2.2 dX5_buys_56
set_option maxHeartbeats 4000000 in
set_option maxRecDepth 100000 in
/-- sx_needFor -/
theorem sx_needFor (l : Launch) (dC : Nat → ClassId) (dI : Nat → Nat → Nat) (cs : Nat → ClassId) (ad : Nat → Nat) (mu : Nat → Nat → Int32) (ok : okR loX hiX mu) (H : Heap) (hP : va_P (dC, dI) vwCl (wR 157 ad (EX cs ad) mu) H) (vs : Int32) (vp : Int32) : Met l yX5_needFor (wU yX5_needFor cX5_needFor 3 (some .int)) ({ frames := 0, cells := 0, slots := 0, locals := 0 }) (va_Pc [.ref (ad 32), .int vs, .int vp] (sz_P (dC, dI) vwCl (tyW cs) H)) (va_Qi (fun (z : Int32) (_ : Unit) => True) (fun _ t => t.heap = H) (fun _ => False)) 0 0 (fun _ => False) := by
  refine Met.ofW (cc := cX5_needFor) (maxL := 3) (ret := (some .int)) (by decide) rfl ?_
  intro p e s m args below meth c s₁ B hml hv
  obtain ⟨rfl, hh, hK, hz⟩ := hv
  have hx := B.exec
  have hb := B.bytes
  have hr := B.returns
  have hts := atoms_spec (ws := (wU yX5_needFor cX5_needFor 3 (some .int))) B.pre
  have hown : s.vm.findClass RX5 = some m.cls := findClass_of_methodNamed B.named
  have hlocks := B.notSynchronized
  subst hh
  have hS : va_S (fun _ => False) s.heap s.heap [] := va_S.rf
  have hl := lv_entry ([.ref (ad 32), .int vs, .int vp]) (n := 3) (Nat.le_of_ble_eq_true rfl)
  rw [lg_entry_eq]
  generalize (lg_sl ([.ref (ad 32), .int vs, .int vp]) ++ List.replicate (3 - (lg_sl ([.ref (ad 32), .int vs, .int vp])).length) Slot.unset).toArray = ls at hl ⊢
  have hl : lv_has ls 3 [(0, .ref (ad 32)), (1, .int vs), (2, .int vp)] := hl
  refine lv_iload_n hx hb dX5_needFor_0 rfl (lv_at hl 2 rfl) ?_
  refine lv_if_ne (tgt := 8) hx hb dX5_needFor_1 (by decide) (fun c_1 => ?_) (fun c_1 => ?_)
  · have c_1 : ¬ vp.toInt = 0 := il_ne c_1
    refine lv_iload_n hx hb dX5_needFor_8 rfl (lv_at hl 2 rfl) ?_
    refine lv_aload_n hx hb dX5_needFor_9 rfl (lv_at hl 0 rfl) ?_
    refine va_get (D := (dC, dI)) (ci := 5) (v := .int (mu 32 9)) (C := RX5) (T := TX5) (N := 15) hx hb hts inG5 hown hK hP 32 (gX_32 cs ad mu) rfl 9 (by decide) (hts _ (List.mem_cons_of_mem _ mw_2_57)) (fun _ h9 => h9) rfl dX5_needFor_10 ?_
    refine lv_topi (fun y2 ey2 => ?_)
    have by2 : y2.toInt = (mu 32 9).toInt := congrArg Int32.toInt ey2
    refine lv_aload_n hx hb dX5_needFor_13 rfl (lv_at hl 0 rfl) ?_
    refine va_get (D := (dC, dI)) (ci := 5) (v := .int (mu 32 10)) (C := RX5) (T := TX5) (N := 15) hx hb hts inG5 hown hK hP 32 (gX_32 cs ad mu) rfl 10 (by decide) (hts _ (List.mem_cons_of_mem _ mw_2_58)) (fun _ h9 => h9) rfl dX5_needFor_14 ?_
    refine lv_topi (fun y3 ey3 => ?_)
    have by3 : y3.toInt = (mu 32 10).toInt := congrArg Int32.toInt ey3
    refine lv_iload_n hx hb dX5_needFor_17 rfl (lv_at hl 1 rfl) ?_
    refine lv_iadd hx hb dX5_needFor_18 ?_
    refine lv_topi (fun t4 et4 => ?_)
    refine lv_iconst (v := 1) hx hb dX5_needFor_19 (by decide) ?_
    refine lv_isub hx hb dX5_needFor_20 ?_
    refine lv_topi (fun t5 et5 => ?_)
    refine lv_imul hx hb dX5_needFor_21 ?_
    refine lv_topi (fun t6 et6 => ?_)
    refine lv_iadd hx hb dX5_needFor_22 ?_
    refine lv_topi (fun t7 et7 => ?_)
    exact W.iret (v := t7) hx hb hr (fun t ht hW => ⟨⟨t7, (), rfl, trivial, ht⟩, hS.F ht⟩) hS.2.2 dX5_needFor_23
  · have c_1 : vp.toInt = 0 := il_eq c_1
    refine lv_iconst (v := 0) hx hb dX5_needFor_4 (by decide) ?_
    refine lv_goto (tgt := 23) hx hb dX5_needFor_5 (by decide) ?_
    exact W.iret (v := 0) hx hb hr (fun t ht hW => ⟨⟨0, (), rfl, trivial, ht⟩, hS.F ht⟩) hS.2.2 dX5_needFor_23
set_option maxHeartbeats 4000000 in
set_option maxRecDepth 100000 in
/-- sx_R_arrive -/
theorem sx_R_arrive (l : Launch) (dC : Nat → ClassId) (dI : Nat → Nat → Nat) (cs : Nat → ClassId) (ad : Nat → Nat) (mu : Nat → Nat → Int32) (ok : okR loX hiX mu) (H : Heap) (hP : va_P (dC, dI) vwCl (wR 157 ad (EX cs ad) mu) H) (hD0 : va_D (fun _ => True) (wR 157 ad (EX cs ad) mu)) (vs : Int32) (vu : Int32) (vp : Int32) (hin0 : 0 ≤ vs.toInt ∧ vs.toInt ≤ 6) : Met l yX5_arrive (wU yX5_arrive cX5_arrive 5 none) ({ frames := 2, cells := 0, slots := 0, locals := 83 }) (va_Pc [.ref (ad 32), .int vs, .int vu, .int vp] (sz_P (dC, dI) vwCl (tyW cs) H)) (va_Qv (fun (xi : Nat → Nat → Int32) => okR loX hiX xi ∧ (True) ∧ True) (fun xi t => va_P (dC, dI) vwCl (wR 157 ad (EX cs ad) xi) t.heap) (va_A (wR 157 ad (EX cs ad) mu) H.size)) 0 0 (va_A (wR 157 ad (EX cs ad) mu) H.size) := by
  refine Met.ofW (cc := cX5_arrive) (maxL := 5) (ret := none) (by decide) rfl ?_
  intro p e s m args below meth c s₁ B hml hv
  obtain ⟨rfl, hh, hK, hz⟩ := hv
  have hx := B.exec
  have hb := B.bytes
  have hr := B.returns
  have hts := atoms_spec (ws := (wU yX5_arrive cX5_arrive 5 none)) B.pre
  have hown : s.vm.findClass RX5 = some m.cls := findClass_of_methodNamed B.named
  have hlocks := B.notSynchronized
  subst hh
  have hD := hD0.self (sz := s.heap.size)
  have hA : ∀ q : Nat, s.heap.size ≤ q → (va_A (wR 157 ad (EX cs ad) mu) s.heap.size) q := fun q h => Or.inr h
  have hS : va_S (va_A (wR 157 ad (EX cs ad) mu) s.heap.size) s.heap s.heap [] := va_S.rf
  have hl := lv_entry ([.ref (ad 32), .int vs, .int vu, .int vp]) (n := 5) (Nat.le_of_ble_eq_true rfl)
  rw [lg_entry_eq]
  generalize (lg_sl ([.ref (ad 32), .int vs, .int vu, .int vp]) ++ List.replicate (5 - (lg_sl ([.ref (ad 32), .int vs, .int vu, .int vp])).length) Slot.unset).toArray = ls at hl ⊢
  have hl : lv_has ls 5 [(0, .ref (ad 32)), (1, .int vs), (2, .int vu), (3, .int vp)] := hl
  refine lv_aload_n hx hb dX5_arrive_0 rfl (lv_at hl 0 rfl) ?_
  refine lv_dup hx hb dX5_arrive_1 rfl ?_
  refine va_get (D := (dC, dI)) (ci := 5) (v := .int (mu 32 11)) (C := RX5) (T := TX5) (N := 15) hx hb hts inG5 hown hK hP 32 (gX_32 cs ad mu) rfl 11 (by decide) (hts _ (List.mem_cons_of_mem _ mw_2_59)) (fun _ h9 => h9) rfl dX5_arrive_2 ?_
  refine lv_topi (fun y1 ey1 => ?_)
  have by1 : y1.toInt = (mu 32 11).toInt := congrArg Int32.toInt ey1
  refine lv_iconst (v := 1) hx hb dX5_arrive_5 (by decide) ?_
  refine lv_iadd hx hb dX5_arrive_6 ?_
  refine lv_topi (fun t2 et2 => ?_)
  refine va_put (D := (dC, dI)) (ci := 5) (v := .int t2) (ty := .int) (C := RX5) (T := TX5) (N := 15) hx hb hts inG5 tyX5 tyX5_ok nmX5 hown hK hP (wR_D mu hD) hS 32 (gX_32 cs ad mu) rfl 11 (by decide) (hts _ (List.mem_cons_of_mem _ mw_2_59)) (fun _ h9 => h9) rfl (by decide +kernel) rfl rfl (Nat.le_of_ble_eq_true rfl) dX5_arrive_7 (fun H locs hP _ hS => ?_)
  simp only [List.set_cons_succ, List.set_cons_zero] at hP
  refine wr_gen (upd (mu 32) 11 t2) hP ((hX_32_11 cs ad _ _)) (fun nu3 hn3 hP => ?_)
  have ok := tX_32_11 ok hn3
  have ez4 : t2 = nu3 32 11 := up_v hn3
  refine lv_aload_n hx hb dX5_arrive_10 rfl (lv_at hl 0 rfl) ?_
  refine va_get (D := (dC, dI)) (ci := 5) (v := .ref (ad 55)) (C := RX5) (T := TX5) (N := 15) hx hb hts inG5 hown hK hP 32 (gX_32 cs ad nu3) rfl 3 (by decide) (hts _ (List.mem_cons_of_mem _ mw_2_49)) (fun _ h9 => h9) rfl dX5_arrive_11 ?_
  refine va_get (D := (dC, dI)) (ci := 0) (v := .int (nu3 55 3)) (C := RX0) (T := TX0) (N := 4) hx hb hts inG0 hown hK hP 55 (gX_55 cs ad nu3) rfl 3 (by decide) (hts _ (List.mem_cons_of_mem _ mw_2_35)) (fun _ h9 => h9) rfl dX5_arrive_14 ?_
  refine lv_topi (fun y5 ey5 => ?_)
  have by5 : y5.toInt = (nu3 55 3).toInt := congrArg Int32.toInt ey5
  have gy5 : 0 ≤ y5.toInt ∧ y5.toInt ≤ 1 := by rw [ey5]; exact rX_55_3 ok
  refine lv_if_eq (tgt := 53) hx hb dX5_arrive_17 (by decide) (fun c_6 => ?_) (fun c_6 => ?_)
  · have c_6 : y5.toInt = 0 := il_eq c_6
    refine lv_aload_n hx hb dX5_arrive_53 rfl (lv_at hl 0 rfl) ?_
    refine va_get (D := (dC, dI)) (ci := 5) (v := .ref (ad 55)) (C := RX5) (T := TX5) (N := 15) hx hb hts inG5 hown hK hP 32 (gX_32 cs ad nu3) rfl 3 (by decide) (hts _ (List.mem_cons_of_mem _ mw_2_49)) (fun _ h9 => h9) rfl dX5_arrive_54 ?_
    refine lv_aload_n hx hb dX5_arrive_57 rfl (lv_at hl 0 rfl) ?_
    refine va_get (D := (dC, dI)) (ci := 5) (v := .ref (ad 54)) (C := RX5) (T := TX5) (N := 15) hx hb hts inG5 hown hK hP 32 (gX_32 cs ad nu3) rfl 2 (by decide) (hts _ (List.mem_cons_of_mem _ mw_2_48)) (fun _ h9 => h9) rfl dX5_arrive_58 ?_
    refine lv_iload_n hx hb dX5_arrive_61 rfl (lv_at hl 1 rfl) ?_
    refine lv_iload_n hx hb dX5_arrive_62 rfl (lv_at hl 3 rfl) ?_
    have hFc := fr_all (wR_D nu3 hD) hS hA
    refine va_callv (va_runV (As := [.ref (ad 54), .int vs, .int vp]) (rest := []) ⟨hx, hb, hml, hown, hts⟩ (sx_take55 l dC dI cs ad nu3 ok H hP ((wR_D nu3 hD).weaken (fun _ _ _ _ => trivial)) vs vp (by omega)) (cwV 3 hts (wU_V mw_4_43 mw_4_40 mw_4_41 mw_4_42 mw_1_9) rfl rfl rfl (by decide +kernel) ⟨Nat.le_of_ble_eq_true rfl, Nat.le_of_ble_eq_true rfl⟩) ⟨sz_c, va_recv hK hP (ci := 0) (q0 := 55) rfl (gX_55 cs ad nu3), sz_m hK hz⟩ rfl rfl hl.1 rfl (lv_room (Nat.le_of_ble_eq_true rfl)) dX5_arrive_63 ⟨Nat.zero_le _, Nat.zero_le _⟩) hS (fun q _ h => hFc q h) hFc (fun xi7 t H7 locs ht hvm hw7 hB hz1 hk1 hS => ?_)
    have hP : va_P (dC, dI) vwCl (wR 157 ad (EX cs ad) xi7) H7 := by rw [← ht]; exact hB
    obtain ⟨ok, hw7, _⟩ := hw7
    refine lv_aload_n hx hb dX5_arrive_66 rfl (lv_at hl 0 rfl) ?_
    refine lv_iload_n hx hb dX5_arrive_67 rfl (lv_at hl 1 rfl) ?_
    refine lv_iload_n hx hb dX5_arrive_68 rfl (lv_at hl 3 rfl) ?_
    refine cr_i (va_runV (As := [.int vs, .int vp]) (rest := []) ⟨hx, hb, hml, hown, hts⟩ (sx_needFor l dC dI cs ad xi7 ok H7 hP vs vp) (cwV 2 hts (wU_V mw_4_48 mw_4_45 mw_4_47 mw_0_16 mw_1_8) rfl rfl rfl (by decide +kernel) ⟨Nat.le_of_ble_eq_true rfl, Nat.le_of_ble_eq_true rfl⟩) ⟨sz_c, va_recv hK hP (ci := 5) (q0 := 32) rfl (gX_32 cs ad xi7), sz_m hK hz⟩ rfl rfl hl.1 rfl (lv_room (Nat.le_of_ble_eq_true rfl)) dX5_arrive_69 ⟨Nat.zero_le _, Nat.zero_le _⟩) hS (fun r8 hw8 locs hS => ?_)
    refine lv_istore (lv' := [(4, .int r8), (0, .ref (ad 32)), (1, .int vs), (2, .int vu), (3, .int vp)]) hx hb dX5_arrive_72 hl (by decide) rfl (fun ls hl => ?_)
    refine lv_aload_n hx hb dX5_arrive_74 rfl (lv_at hl 1 rfl) ?_
    refine lv_aload_n hx hb dX5_arrive_75 rfl (lv_at hl 1 rfl) ?_
    refine va_get (D := (dC, dI)) (ci := 5) (v := .int (xi7 32 14)) (C := RX5) (T := TX5) (N := 15) hx hb hts inG5 hown hK hP 32 (gX_32 cs ad xi7) rfl 14 (by decide) (hts _ (List.mem_cons_of_mem _ mw_2_65)) (fun _ h9 => h9) rfl dX5_arrive_76 ?_
    refine lv_topi (fun y9 ey9 => ?_)
    have by9 : y9.toInt = (xi7 32 14).toInt := congrArg Int32.toInt ey9
    refine lv_iload hx hb dX5_arrive_79 (lv_at hl 0 rfl) ?_
    refine va_mmin hx hb (hml.trans hl.1.symm) hown (hts _ (List.mem_cons_of_mem _ mw_4_49)) (hts _ (List.mem_cons_of_mem _ mw_4_50)) (hts _ (List.mem_cons_of_mem _ mw_1_17)) (hts _ (List.mem_cons_of_mem _ mw_4_51)) (Nat.le_of_ble_eq_true rfl) (Nat.le_of_ble_eq_true rfl) (Nat.zero_le _) (Nat.zero_le _) dX5_arrive_81 ?_
    refine lv_topi (fun t10 et10 => ?_)
    refine va_put (D := (dC, dI)) (ci := 5) (v := .int t10) (ty := .int) (C := RX5) (T := TX5) (N := 15) hx hb hts inG5 tyX5 tyX5_ok nmX5 hown hK hP (wR_D xi7 hD) hS 32 (gX_32 cs ad xi7) rfl 14 (by decide) (hts _ (List.mem_cons_of_mem _ mw_2_65)) (fun _ h9 => h9) rfl (by decide +kernel) rfl rfl (Nat.le_of_ble_eq_true rfl) dX5_arrive_84 (fun H locs hP _ hS => ?_)
    simp only [List.set_cons_succ, List.set_cons_zero] at hP
    refine wr_gen (upd (xi7 32) 14 t10) hP ((hX_32_14 cs ad _ _)) (fun nu11 hn11 hP => ?_)
    have ok := tX_32_14 ok hn11
    have ez12 : t10 = nu11 32 14 := up_v hn11
    refine lv_iload hx hb dX5_arrive_87 (lv_at hl 0 rfl) ?_
    refine lv_aload_n hx hb dX5_arrive_89 rfl (lv_at hl 1 rfl) ?_
    refine va_get (D := (dC, dI)) (ci := 5) (v := .int (nu11 32 8)) (C := RX5) (T := TX5) (N := 15) hx hb hts inG5 hown hK hP 32 (gX_32 cs ad nu11) rfl 8 (by decide) (hts _ (List.mem_cons_of_mem _ mw_2_56)) (fun _ h9 => h9) rfl dX5_arrive_90 ?_
    refine lv_topi (fun y13 ey13 => ?_)
    have by13 : y13.toInt = (nu11 32 8).toInt := congrArg Int32.toInt ey13
    refine lv_icmp_le (tgt := 97) hx hb dX5_arrive_93 (by decide) (fun c_14 => ?_) (fun c_14 => ?_)
    · have c_14 : r8.toInt ≤ y13.toInt := il_le c_14
      refine lv_aload_n hx hb dX5_arrive_97 rfl (lv_at hl 1 rfl) ?_
      refine lv_dup hx hb dX5_arrive_98 rfl ?_
      refine va_get (D := (dC, dI)) (ci := 5) (v := .int (nu11 32 12)) (C := RX5) (T := TX5) (N := 15) hx hb hts inG5 hown hK hP 32 (gX_32 cs ad nu11) rfl 12 (by decide) (hts _ (List.mem_cons_of_mem _ mw_2_61)) (fun _ h9 => h9) rfl dX5_arrive_99 ?_
      refine lv_topi (fun y15 ey15 => ?_)
      have by15 : y15.toInt = (nu11 32 12).toInt := congrArg Int32.toInt ey15
      refine lv_iconst (v := 1) hx hb dX5_arrive_102 (by decide) ?_
      refine lv_iadd hx hb dX5_arrive_103 ?_
      refine lv_topi (fun t16 et16 => ?_)
      refine va_put (D := (dC, dI)) (ci := 5) (v := .int t16) (ty := .int) (C := RX5) (T := TX5) (N := 15) hx hb hts inG5 tyX5 tyX5_ok nmX5 hown hK hP (wR_D nu11 hD) hS 32 (gX_32 cs ad nu11) rfl 12 (by decide) (hts _ (List.mem_cons_of_mem _ mw_2_61)) (fun _ h9 => h9) rfl (by decide +kernel) rfl rfl (Nat.le_of_ble_eq_true rfl) dX5_arrive_104 (fun H locs hP _ hS => ?_)
      simp only [List.set_cons_succ, List.set_cons_zero] at hP
      refine wr_gen (upd (nu11 32) 12 t16) hP ((hX_32_12 cs ad _ _)) (fun nu17 hn17 hP => ?_)
      have ok := tX_32_12 ok hn17
      have ez18 : t10 = nu17 32 14 := ez12.trans (up_f hn17 (by decide)).symm
      have ez19 : y13 = nu17 32 8 := ey13.trans (up_f hn17 (by decide)).symm
      have ez20 : t16 = nu17 32 12 := up_v hn17
      refine lv_aload_n hx hb dX5_arrive_107 rfl (lv_at hl 1 rfl) ?_
      refine lv_dup hx hb dX5_arrive_108 rfl ?_
      refine va_get (D := (dC, dI)) (ci := 5) (v := .int (nu17 32 13)) (C := RX5) (T := TX5) (N := 15) hx hb hts inG5 hown hK hP 32 (gX_32 cs ad nu17) rfl 13 (by decide) (hts _ (List.mem_cons_of_mem _ mw_2_63)) (fun _ h9 => h9) rfl dX5_arrive_109 ?_
      refine lv_topi (fun y21 ey21 => ?_)
      have by21 : y21.toInt = (nu17 32 13).toInt := congrArg Int32.toInt ey21
      refine lv_iload_n hx hb dX5_arrive_112 rfl (lv_at hl 3 rfl) ?_
      refine lv_iconst (v := 1) hx hb dX5_arrive_113 (by decide) ?_
      refine lv_aload_n hx hb dX5_arrive_114 rfl (lv_at hl 1 rfl) ?_
      refine va_get (D := (dC, dI)) (ci := 5) (v := .int (nu17 32 5)) (C := RX5) (T := TX5) (N := 15) hx hb hts inG5 hown hK hP 32 (gX_32 cs ad nu17) rfl 5 (by decide) (hts _ (List.mem_cons_of_mem _ mw_2_53)) (fun _ h9 => h9) rfl dX5_arrive_115 ?_
      refine lv_topi (fun y22 ey22 => ?_)
      have by22 : y22.toInt = (nu17 32 5).toInt := congrArg Int32.toInt ey22
      have gy22 : 0 ≤ y22.toInt ∧ y22.toInt ≤ 6 := by rw [ey22]; exact rX_32_5 ok
      refine lv_ishl hx hb dX5_arrive_118 ?_
      refine lv_topi (fun t23 et23 => ?_)
      refine lv_iconst (v := (-1)) hx hb dX5_arrive_119 (by decide) ?_
      refine lv_ixor hx hb dX5_arrive_120 ?_
      refine lv_topi (fun t24 et24 => ?_)
      refine lv_iand hx hb dX5_arrive_121 ?_
      refine lv_topi (fun t25 et25 => ?_)
      refine lv_iand hx hb dX5_arrive_122 ?_
      refine lv_topi (fun t26 et26 => ?_)
      refine va_put (D := (dC, dI)) (ci := 5) (v := .int t26) (ty := .int) (C := RX5) (T := TX5) (N := 15) hx hb hts inG5 tyX5 tyX5_ok nmX5 hown hK hP (wR_D nu17 hD) hS 32 (gX_32 cs ad nu17) rfl 13 (by decide) (hts _ (List.mem_cons_of_mem _ mw_2_63)) (fun _ h9 => h9) rfl (by decide +kernel) rfl rfl (Nat.le_of_ble_eq_true rfl) dX5_arrive_123 (fun H locs hP _ hS => ?_)
      simp only [List.set_cons_succ, List.set_cons_zero] at hP
      refine wr_gen (upd (nu17 32) 13 t26) hP ((hX_32_13 cs ad _ _)) (fun nu27 hn27 hP => ?_)
      have ok := tX_32_13 ok hn27
      have ez28 : t10 = nu27 32 14 := ez18.trans (up_f hn27 (by decide)).symm
      have ez29 : y13 = nu27 32 8 := ez19.trans (up_f hn27 (by decide)).symm
      have ez30 : t16 = nu27 32 12 := ez20.trans (up_f hn27 (by decide)).symm
      have ez31 : y22 = nu27 32 5 := ey22.trans (up_f hn27 (by decide)).symm
      have ez32 : t26 = nu27 32 13 := up_v hn27
      refine lv_aload_n hx hb dX5_arrive_126 rfl (lv_at hl 1 rfl) ?_
      refine va_get (D := (dC, dI)) (ci := 5) (v := .ref (ad 56)) (C := RX5) (T := TX5) (N := 15) hx hb hts inG5 hown hK hP 32 (gX_32 cs ad nu27) rfl 4 (by decide) (hts _ (List.mem_cons_of_mem _ mw_2_51)) (fun _ h9 => h9) rfl dX5_arrive_127 ?_
      refine va_get (D := (dC, dI)) (ci := 0) (v := .int (nu27 56 3)) (C := RX0) (T := TX0) (N := 4) hx hb hts inG0 hown hK hP 56 (gX_56 cs ad nu27) rfl 3 (by decide) (hts _ (List.mem_cons_of_mem _ mw_2_35)) (fun _ h9 => h9) rfl dX5_arrive_130 ?_
      refine lv_topi (fun y33 ey33 => ?_)
      have by33 : y33.toInt = (nu27 56 3).toInt := congrArg Int32.toInt ey33
      have gy33 : 0 ≤ y33.toInt ∧ y33.toInt ≤ 1 := by rw [ey33]; exact rX_56_3 ok
      refine lv_if_eq (tgt := 169) hx hb dX5_arrive_133 (by decide) (fun c_34 => ?_) (fun c_34 => ?_)
      · have c_34 : y33.toInt = 0 := il_eq c_34
        refine lv_aload_n hx hb dX5_arrive_169 rfl (lv_at hl 1 rfl) ?_
        refine va_get (D := (dC, dI)) (ci := 5) (v := .ref (ad 56)) (C := RX5) (T := TX5) (N := 15) hx hb hts inG5 hown hK hP 32 (gX_32 cs ad nu27) rfl 4 (by decide) (hts _ (List.mem_cons_of_mem _ mw_2_51)) (fun _ h9 => h9) rfl dX5_arrive_170 ?_
        refine lv_aload_n hx hb dX5_arrive_173 rfl (lv_at hl 1 rfl) ?_
        refine va_get (D := (dC, dI)) (ci := 5) (v := .ref (ad 54)) (C := RX5) (T := TX5) (N := 15) hx hb hts inG5 hown hK hP 32 (gX_32 cs ad nu27) rfl 2 (by decide) (hts _ (List.mem_cons_of_mem _ mw_2_48)) (fun _ h9 => h9) rfl dX5_arrive_174 ?_
        refine lv_iload_n hx hb dX5_arrive_177 rfl (lv_at hl 2 rfl) ?_
        refine lv_iload_n hx hb dX5_arrive_178 rfl (lv_at hl 4 rfl) ?_
        have hFc := fr_all (wR_D nu27 hD) hS hA
        refine va_callv (va_runV (As := [.ref (ad 54), .int vs, .int vp]) (rest := []) ⟨hx, hb, hml, hown, hts⟩ (sx_take56 l dC dI cs ad nu27 ok H hP ((wR_D nu27 hD).weaken (fun _ _ _ _ => trivial)) vs vp (by omega)) (cwV 3 hts (wU_V mw_4_43 mw_4_40 mw_4_41 mw_4_42 mw_1_9) rfl rfl rfl (by decide +kernel) ⟨Nat.le_of_ble_eq_true rfl, Nat.le_of_ble_eq_true rfl⟩) ⟨sz_c, va_recv hK hP (ci := 0) (q0 := 56) rfl (gX_56 cs ad nu27), sz_m hK hz⟩ rfl rfl hl.1 rfl (lv_room (Nat.le_of_ble_eq_true rfl)) dX5_arrive_179 ⟨Nat.zero_le _, Nat.zero_le _⟩) hS (fun q _ h => hFc q h) hFc (fun xi35 t H35 locs ht hvm hw35 hB hz1 hk1 hS => ?_)
        have hP : va_P (dC, dI) vwCl (wR 157 ad (EX cs ad) xi35) H35 := by rw [← ht]; exact hB
        obtain ⟨ok, hw35, _⟩ := hw35
        exact W.vret hx hb hr (fun t ht hW => ⟨⟨xi35, rfl, ⟨ok, trivial, trivial⟩, by first | (subst ht; exact hP) | (rw [ht]; exact hP) | (show va_P (dC, dI) vwCl (wR 157 ad (EX cs ad) xi35) t.heap; rw [ht]; exact hP)⟩, hS.F ht⟩) hS.2.2 dX5_arrive_182
      · have c_34 : ¬ y33.toInt = 0 := il_ne c_34
        refine lv_iload_n hx hb dX5_arrive_136 rfl (lv_at hl 2 rfl) ?_
        refine lv_aload_n hx hb dX5_arrive_137 rfl (lv_at hl 1 rfl) ?_
        refine va_get (D := (dC, dI)) (ci := 5) (v := .ref (ad 56)) (C := RX5) (T := TX5) (N := 15) hx hb hts inG5 hown hK hP 32 (gX_32 cs ad nu27) rfl 4 (by decide) (hts _ (List.mem_cons_of_mem _ mw_2_51)) (fun _ h9 => h9) rfl dX5_arrive_138 ?_
        refine va_get (D := (dC, dI)) (ci := 0) (v := .int (nu27 56 1)) (C := RX0) (T := TX0) (N := 4) hx hb hts inG0 hown hK hP 56 (gX_56 cs ad nu27) rfl 1 (by decide) (hts _ (List.mem_cons_of_mem _ mw_2_29)) (fun _ h9 => h9) rfl dX5_arrive_141 ?_
        refine lv_topi (fun y36 ey36 => ?_)
        have by36 : y36.toInt = (nu27 56 1).toInt := congrArg Int32.toInt ey36
        have gy36 : 0 ≤ y36.toInt ∧ y36.toInt ≤ 6 := by rw [ey36]; exact rX_56_1 ok
        refine lv_icmp_lt (tgt := 169) hx hb dX5_arrive_144 (by decide) (fun c_37 => ?_) (fun c_37 => ?_)
        · have c_37 : vs.toInt < y36.toInt := il_lt c_37
          refine lv_aload_n hx hb dX5_arrive_169 rfl (lv_at hl 1 rfl) ?_
          refine va_get (D := (dC, dI)) (ci := 5) (v := .ref (ad 56)) (C := RX5) (T := TX5) (N := 15) hx hb hts inG5 hown hK hP 32 (gX_32 cs ad nu27) rfl 4 (by decide) (hts _ (List.mem_cons_of_mem _ mw_2_51)) (fun _ h9 => h9) rfl dX5_arrive_170 ?_
          refine lv_aload_n hx hb dX5_arrive_173 rfl (lv_at hl 1 rfl) ?_
          refine va_get (D := (dC, dI)) (ci := 5) (v := .ref (ad 54)) (C := RX5) (T := TX5) (N := 15) hx hb hts inG5 hown hK hP 32 (gX_32 cs ad nu27) rfl 2 (by decide) (hts _ (List.mem_cons_of_mem _ mw_2_48)) (fun _ h9 => h9) rfl dX5_arrive_174 ?_
          refine lv_iload_n hx hb dX5_arrive_177 rfl (lv_at hl 2 rfl) ?_
          refine lv_iload_n hx hb dX5_arrive_178 rfl (lv_at hl 4 rfl) ?_
          have hFc := fr_all (wR_D nu27 hD) hS hA
          refine va_callv (va_runV (As := [.ref (ad 54), .int vs, .int vp]) (rest := []) ⟨hx, hb, hml, hown, hts⟩ (sx_take56 l dC dI cs ad nu27 ok H hP ((wR_D nu27 hD).weaken (fun _ _ _ _ => trivial)) vs vp (by omega)) (cwV 3 hts (wU_V mw_4_43 mw_4_40 mw_4_41 mw_4_42 mw_1_9) rfl rfl rfl (by decide +kernel) ⟨Nat.le_of_ble_eq_true rfl, Nat.le_of_ble_eq_true rfl⟩) ⟨sz_c, va_recv hK hP (ci := 0) (q0 := 56) rfl (gX_56 cs ad nu27), sz_m hK hz⟩ rfl rfl hl.1 rfl (lv_room (Nat.le_of_ble_eq_true rfl)) dX5_arrive_179 ⟨Nat.zero_le _, Nat.zero_le _⟩) hS (fun q _ h => hFc q h) hFc (fun xi38 t H38 locs ht hvm hw38 hB hz1 hk1 hS => ?_)
          have hP : va_P (dC, dI) vwCl (wR 157 ad (EX cs ad) xi38) H38 := by rw [← ht]; exact hB
          obtain ⟨ok, hw38, _⟩ := hw38
          exact W.vret hx hb hr (fun t ht hW => ⟨⟨xi38, rfl, ⟨ok, trivial, trivial⟩, by first | (subst ht; exact hP) | (rw [ht]; exact hP) | (show va_P (dC, dI) vwCl (wR 157 ad (EX cs ad) xi38) t.heap; rw [ht]; exact hP)⟩, hS.F ht⟩) hS.2.2 dX5_arrive_182
        · have c_37 : y36.toInt ≤ vs.toInt := il_nlt c_37
          refine lv_iload_n hx hb dX5_arrive_147 rfl (lv_at hl 2 rfl) ?_
          refine lv_aload_n hx hb dX5_arrive_148 rfl (lv_at hl 1 rfl) ?_
          refine va_get (D := (dC, dI)) (ci := 5) (v := .ref (ad 56)) (C := RX5) (T := TX5) (N := 15) hx hb hts inG5 hown hK hP 32 (gX_32 cs ad nu27) rfl 4 (by decide) (hts _ (List.mem_cons_of_mem _ mw_2_51)) (fun _ h9 => h9) rfl dX5_arrive_149 ?_
          refine va_get (D := (dC, dI)) (ci := 0) (v := .int (nu27 56 1)) (C := RX0) (T := TX0) (N := 4) hx hb hts inG0 hown hK hP 56 (gX_56 cs ad nu27) rfl 1 (by decide) (hts _ (List.mem_cons_of_mem _ mw_2_29)) (fun _ h9 => h9) rfl dX5_arrive_152 ?_
          refine lq_i y36 ey36.symm ?_
          refine lv_icmp_ne (tgt := 182) hx hb dX5_arrive_155 (by decide) (fun c_39 => ?_) (fun c_39 => ?_)
          · have c_39 : ¬ vs.toInt = y36.toInt := il_ne c_39
            exact W.vret hx hb hr (fun t ht hW => ⟨⟨nu27, rfl, ⟨ok, trivial, trivial⟩, by first | (subst ht; exact hP) | (rw [ht]; exact hP) | (show va_P (dC, dI) vwCl (wR 157 ad (EX cs ad) nu27) t.heap; rw [ht]; exact hP)⟩, hS.F ht⟩) hS.2.2 dX5_arrive_182
          · have c_39 : vs.toInt = y36.toInt := il_eq c_39
            refine lv_iload_n hx hb dX5_arrive_158 rfl (lv_at hl 4 rfl) ?_
            refine lv_aload_n hx hb dX5_arrive_159 rfl (lv_at hl 1 rfl) ?_
            refine va_get (D := (dC, dI)) (ci := 5) (v := .ref (ad 56)) (C := RX5) (T := TX5) (N := 15) hx hb hts inG5 hown hK hP 32 (gX_32 cs ad nu27) rfl 4 (by decide) (hts _ (List.mem_cons_of_mem _ mw_2_51)) (fun _ h9 => h9) rfl dX5_arrive_160 ?_
            refine va_get (D := (dC, dI)) (ci := 0) (v := .int (nu27 56 2)) (C := RX0) (T := TX0) (N := 4) hx hb hts inG0 hown hK hP 56 (gX_56 cs ad nu27) rfl 2 (by decide) (hts _ (List.mem_cons_of_mem _ mw_2_32)) (fun _ h9 => h9) rfl dX5_arrive_163 ?_
            refine lv_topi (fun y40 ey40 => ?_)
            have by40 : y40.toInt = (nu27 56 2).toInt := congrArg Int32.toInt ey40
            refine lv_icmp_ge (tgt := 182) hx hb dX5_arrive_166 (by decide) (fun c_41 => ?_) (fun c_41 => ?_)
            · have c_41 : y40.toInt ≤ vp.toInt := il_le c_41
              exact W.vret hx hb hr (fun t ht hW => ⟨⟨nu27, rfl, ⟨ok, trivial, trivial⟩, by first | (subst ht; exact hP) | (rw [ht]; exact hP) | (show va_P (dC, dI) vwCl (wR 157 ad (EX cs ad) nu27) t.heap; rw [ht]; exact hP)⟩, hS.F ht⟩) hS.2.2 dX5_arrive_182
            · have c_41 : vp.toInt < y40.toInt := il_nle c_41
              refine lv_aload_n hx hb dX5_arrive_169 rfl (lv_at hl 1 rfl) ?_
              refine va_get (D := (dC, dI)) (ci := 5) (v := .ref (ad 56)) (C := RX5) (T := TX5) (N := 15) hx hb hts inG5 hown hK hP 32 (gX_32 cs ad nu27) rfl 4 (by decide) (hts _ (List.mem_cons_of_mem _ mw_2_51)) (fun _ h9 => h9) rfl dX5_arrive_170 ?_
              refine lv_aload_n hx hb dX5_arrive_173 rfl (lv_at hl 1 rfl) ?_
              refine va_get (D := (dC, dI)) (ci := 5) (v := .ref (ad 54)) (C := RX5) (T := TX5) (N := 15) hx hb hts inG5 hown hK hP 32 (gX_32 cs ad nu27) rfl 2 (by decide) (hts _ (List.mem_cons_of_mem _ mw_2_48)) (fun _ h9 => h9) rfl dX5_arrive_174 ?_
              refine lv_iload_n hx hb dX5_arrive_177 rfl (lv_at hl 2 rfl) ?_
              refine lv_iload_n hx hb dX5_arrive_178 rfl (lv_at hl 4 rfl) ?_
              have hFc := fr_all (wR_D nu27 hD) hS hA
              refine va_callv (va_runV (As := [.ref (ad 54), .int vs, .int vp]) (rest := []) ⟨hx, hb, hml, hown, hts⟩ (sx_take56 l dC dI cs ad nu27 ok H hP ((wR_D nu27 hD).weaken (fun _ _ _ _ => trivial)) vs vp (by omega)) (cwV 3 hts (wU_V mw_4_43 mw_4_40 mw_4_41 mw_4_42 mw_1_9) rfl rfl rfl (by decide +kernel) ⟨Nat.le_of_ble_eq_true rfl, Nat.le_of_ble_eq_true rfl⟩) ⟨sz_c, va_recv hK hP (ci := 0) (q0 := 56) rfl (gX_56 cs ad nu27), sz_m hK hz⟩ rfl rfl hl.1 rfl (lv_room (Nat.le_of_ble_eq_true rfl)) dX5_arrive_179 ⟨Nat.zero_le _, Nat.zero_le _⟩) hS (fun q _ h => hFc q h) hFc (fun xi42 t H42 locs ht hvm hw42 hB hz1 hk1 hS => ?_)
              have hP : va_P (dC, dI) vwCl (wR 157 ad (EX cs ad) xi42) H42 := by rw [← ht]; exact hB
              obtain ⟨ok, hw42, _⟩ := hw42
              exact W.vret hx hb hr (fun t ht hW => ⟨⟨xi42, rfl, ⟨ok, trivial, trivial⟩, by first | (subst ht; exact hP) | (rw [ht]; exact hP) | (show va_P (dC, dI) vwCl (wR 157 ad (EX cs ad) xi42) t.heap; rw [ht]; exact hP)⟩, hS.F ht⟩) hS.2.2 dX5_arrive_182
    · have c_14 : y13.toInt < r8.toInt := il_nle c_14
      exact W.vret hx hb hr (fun t ht hW => ⟨⟨nu11, rfl, ⟨ok, trivial, trivial⟩, by first | (subst ht; exact hP) | (rw [ht]; exact hP) | (show va_P (dC, dI) vwCl (wR 157 ad (EX cs ad) nu11) t.heap; rw [ht]; exact hP)⟩, hS.F ht⟩) hS.2.2 dX5_arrive_96
  · have c_6 : ¬ y5.toInt = 0 := il_ne c_6
    refine lv_iload_n hx hb dX5_arrive_20 rfl (lv_at hl 3 rfl) ?_
    refine lv_aload_n hx hb dX5_arrive_21 rfl (lv_at hl 0 rfl) ?_
    refine va_get (D := (dC, dI)) (ci := 5) (v := .ref (ad 55)) (C := RX5) (T := TX5) (N := 15) hx hb hts inG5 hown hK hP 32 (gX_32 cs ad nu3) rfl 3 (by decide) (hts _ (List.mem_cons_of_mem _ mw_2_49)) (fun _ h9 => h9) rfl dX5_arrive_22 ?_
    refine va_get (D := (dC, dI)) (ci := 0) (v := .int (nu3 55 2)) (C := RX0) (T := TX0) (N := 4) hx hb hts inG0 hown hK hP 55 (gX_55 cs ad nu3) rfl 2 (by decide) (hts _ (List.mem_cons_of_mem _ mw_2_32)) (fun _ h9 => h9) rfl dX5_arrive_25 ?_
    refine lv_topi (fun y43 ey43 => ?_)
    have by43 : y43.toInt = (nu3 55 2).toInt := congrArg Int32.toInt ey43
    refine lv_icmp_lt (tgt := 53) hx hb dX5_arrive_28 (by decide) (fun c_44 => ?_) (fun c_44 => ?_)
    · have c_44 : vp.toInt < y43.toInt := il_lt c_44
      refine lv_aload_n hx hb dX5_arrive_53 rfl (lv_at hl 0 rfl) ?_
      refine va_get (D := (dC, dI)) (ci := 5) (v := .ref (ad 55)) (C := RX5) (T := TX5) (N := 15) hx hb hts inG5 hown hK hP 32 (gX_32 cs ad nu3) rfl 3 (by decide) (hts _ (List.mem_cons_of_mem _ mw_2_49)) (fun _ h9 => h9) rfl dX5_arrive_54 ?_
      refine lv_aload_n hx hb dX5_arrive_57 rfl (lv_at hl 0 rfl) ?_
      refine va_get (D := (dC, dI)) (ci := 5) (v := .ref (ad 54)) (C := RX5) (T := TX5) (N := 15) hx hb hts inG5 hown hK hP 32 (gX_32 cs ad nu3) rfl 2 (by decide) (hts _ (List.mem_cons_of_mem _ mw_2_48)) (fun _ h9 => h9) rfl dX5_arrive_58 ?_
      refine lv_iload_n hx hb dX5_arrive_61 rfl (lv_at hl 1 rfl) ?_
      refine lv_iload_n hx hb dX5_arrive_62 rfl (lv_at hl 3 rfl) ?_
      have hFc := fr_all (wR_D nu3 hD) hS hA
      refine va_callv (va_runV (As := [.ref (ad 54), .int vs, .int vp]) (rest := []) ⟨hx, hb, hml, hown, hts⟩ (sx_take55 l dC dI cs ad nu3 ok H hP ((wR_D nu3 hD).weaken (fun _ _ _ _ => trivial)) vs vp (by omega)) (cwV 3 hts (wU_V mw_4_43 mw_4_40 mw_4_41 mw_4_42 mw_1_9) rfl rfl rfl (by decide +kernel) ⟨Nat.le_of_ble_eq_true rfl, Nat.le_of_ble_eq_true rfl⟩) ⟨sz_c, va_recv hK hP (ci := 0) (q0 := 55) rfl (gX_55 cs ad nu3), sz_m hK hz⟩ rfl rfl hl.1 rfl (lv_room (Nat.le_of_ble_eq_true rfl)) dX5_arrive_63 ⟨Nat.zero_le _, Nat.zero_le _⟩) hS (fun q _ h => hFc q h) hFc (fun xi45 t H45 locs ht hvm hw45 hB hz1 hk1 hS => ?_)
      have hP : va_P (dC, dI) vwCl (wR 157 ad (EX cs ad) xi45) H45 := by rw [← ht]; exact hB
      obtain ⟨ok, hw45, _⟩ := hw45
      refine lv_aload_n hx hb dX5_arrive_66 rfl (lv_at hl 0 rfl) ?_
      refine lv_iload_n hx hb dX5_arrive_67 rfl (lv_at hl 1 rfl) ?_
      refine lv_iload_n hx hb dX5_arrive_68 rfl (lv_at hl 3 rfl) ?_
      refine cr_i (va_runV (As := [.int vs, .int vp]) (rest := []) ⟨hx, hb, hml, hown, hts⟩ (sx_needFor l dC dI cs ad xi45 ok H45 hP vs vp) (cwV 2 hts (wU_V mw_4_48 mw_4_45 mw_4_47 mw_0_16 mw_1_8) rfl rfl rfl (by decide +kernel) ⟨Nat.le_of_ble_eq_true rfl, Nat.le_of_ble_eq_true rfl⟩) ⟨sz_c, va_recv hK hP (ci := 5) (q0 := 32) rfl (gX_32 cs ad xi45), sz_m hK hz⟩ rfl rfl hl.1 rfl (lv_room (Nat.le_of_ble_eq_true rfl)) dX5_arrive_69 ⟨Nat.zero_le _, Nat.zero_le _⟩) hS (fun r46 hw46 locs hS => ?_)
      refine lv_istore (lv' := [(4, .int r46), (0, .ref (ad 32)), (1, .int vs), (2, .int vu), (3, .int vp)]) hx hb dX5_arrive_72 hl (by decide) rfl (fun ls hl => ?_)
      refine lv_aload_n hx hb dX5_arrive_74 rfl (lv_at hl 1 rfl) ?_
      refine lv_aload_n hx hb dX5_arrive_75 rfl (lv_at hl 1 rfl) ?_
      refine va_get (D := (dC, dI)) (ci := 5) (v := .int (xi45 32 14)) (C := RX5) (T := TX5) (N := 15) hx hb hts inG5 hown hK hP 32 (gX_32 cs ad xi45) rfl 14 (by decide) (hts _ (List.mem_cons_of_mem _ mw_2_65)) (fun _ h9 => h9) rfl dX5_arrive_76 ?_
      refine lv_topi (fun y47 ey47 => ?_)
      have by47 : y47.toInt = (xi45 32 14).toInt := congrArg Int32.toInt ey47
      refine lv_iload hx hb dX5_arrive_79 (lv_at hl 0 rfl) ?_
      refine va_mmin hx hb (hml.trans hl.1.symm) hown (hts _ (List.mem_cons_of_mem _ mw_4_49)) (hts _ (List.mem_cons_of_mem _ mw_4_50)) (hts _ (List.mem_cons_of_mem _ mw_1_17)) (hts _ (List.mem_cons_of_mem _ mw_4_51)) (Nat.le_of_ble_eq_true rfl) (Nat.le_of_ble_eq_true rfl) (Nat.zero_le _) (Nat.zero_le _) dX5_arrive_81 ?_
      refine lv_topi (fun t48 et48 => ?_)
      refine va_put (D := (dC, dI)) (ci := 5) (v := .int t48) (ty := .int) (C := RX5) (T := TX5) (N := 15) hx hb hts inG5 tyX5 tyX5_ok nmX5 hown hK hP (wR_D xi45 hD) hS 32 (gX_32 cs ad xi45) rfl 14 (by decide) (hts _ (List.mem_cons_of_mem _ mw_2_65)) (fun _ h9 => h9) rfl (by decide +kernel) rfl rfl (Nat.le_of_ble_eq_true rfl) dX5_arrive_84 (fun H locs hP _ hS => ?_)
      simp only [List.set_cons_succ, List.set_cons_zero] at hP
      refine wr_gen (upd (xi45 32) 14 t48) hP ((hX_32_14 cs ad _ _)) (fun nu49 hn49 hP => ?_)
      have ok := tX_32_14 ok hn49
      have ez50 : t48 = nu49 32 14 := up_v hn49
      refine lv_iload hx hb dX5_arrive_87 (lv_at hl 0 rfl) ?_
      refine lv_aload_n hx hb dX5_arrive_89 rfl (lv_at hl 1 rfl) ?_
      refine va_get (D := (dC, dI)) (ci := 5) (v := .int (nu49 32 8)) (C := RX5) (T := TX5) (N := 15) hx hb hts inG5 hown hK hP 32 (gX_32 cs ad nu49) rfl 8 (by decide) (hts _ (List.mem_cons_of_mem _ mw_2_56)) (fun _ h9 => h9) rfl dX5_arrive_90 ?_
      refine lv_topi (fun y51 ey51 => ?_)
      have by51 : y51.toInt = (nu49 32 8).toInt := congrArg Int32.toInt ey51
      refine lv_icmp_le (tgt := 97) hx hb dX5_arrive_93 (by decide) (fun c_52 => ?_) (fun c_52 => ?_)
      · have c_52 : r46.toInt ≤ y51.toInt := il_le c_52
        refine lv_aload_n hx hb dX5_arrive_97 rfl (lv_at hl 1 rfl) ?_
        refine lv_dup hx hb dX5_arrive_98 rfl ?_
        refine va_get (D := (dC, dI)) (ci := 5) (v := .int (nu49 32 12)) (C := RX5) (T := TX5) (N := 15) hx hb hts inG5 hown hK hP 32 (gX_32 cs ad nu49) rfl 12 (by decide) (hts _ (List.mem_cons_of_mem _ mw_2_61)) (fun _ h9 => h9) rfl dX5_arrive_99 ?_
        refine lv_topi (fun y53 ey53 => ?_)
        have by53 : y53.toInt = (nu49 32 12).toInt := congrArg Int32.toInt ey53
        refine lv_iconst (v := 1) hx hb dX5_arrive_102 (by decide) ?_
        refine lv_iadd hx hb dX5_arrive_103 ?_
        refine lv_topi (fun t54 et54 => ?_)
        refine va_put (D := (dC, dI)) (ci := 5) (v := .int t54) (ty := .int) (C := RX5) (T := TX5) (N := 15) hx hb hts inG5 tyX5 tyX5_ok nmX5 hown hK hP (wR_D nu49 hD) hS 32 (gX_32 cs ad nu49) rfl 12 (by decide) (hts _ (List.mem_cons_of_mem _ mw_2_61)) (fun _ h9 => h9) rfl (by decide +kernel) rfl rfl (Nat.le_of_ble_eq_true rfl) dX5_arrive_104 (fun H locs hP _ hS => ?_)
        simp only [List.set_cons_succ, List.set_cons_zero] at hP
        refine wr_gen (upd (nu49 32) 12 t54) hP ((hX_32_12 cs ad _ _)) (fun nu55 hn55 hP => ?_)
        have ok := tX_32_12 ok hn55
        have ez56 : t48 = nu55 32 14 := ez50.trans (up_f hn55 (by decide)).symm
        have ez57 : y51 = nu55 32 8 := ey51.trans (up_f hn55 (by decide)).symm
        have ez58 : t54 = nu55 32 12 := up_v hn55
        refine lv_aload_n hx hb dX5_arrive_107 rfl (lv_at hl 1 rfl) ?_
        refine lv_dup hx hb dX5_arrive_108 rfl ?_
        refine va_get (D := (dC, dI)) (ci := 5) (v := .int (nu55 32 13)) (C := RX5) (T := TX5) (N := 15) hx hb hts inG5 hown hK hP 32 (gX_32 cs ad nu55) rfl 13 (by decide) (hts _ (List.mem_cons_of_mem _ mw_2_63)) (fun _ h9 => h9) rfl dX5_arrive_109 ?_
        refine lv_topi (fun y59 ey59 => ?_)
        have by59 : y59.toInt = (nu55 32 13).toInt := congrArg Int32.toInt ey59
        refine lv_iload_n hx hb dX5_arrive_112 rfl (lv_at hl 3 rfl) ?_
        refine lv_iconst (v := 1) hx hb dX5_arrive_113 (by decide) ?_
        refine lv_aload_n hx hb dX5_arrive_114 rfl (lv_at hl 1 rfl) ?_
        refine va_get (D := (dC, dI)) (ci := 5) (v := .int (nu55 32 5)) (C := RX5) (T := TX5) (N := 15) hx hb hts inG5 hown hK hP 32 (gX_32 cs ad nu55) rfl 5 (by decide) (hts _ (List.mem_cons_of_mem _ mw_2_53)) (fun _ h9 => h9) rfl dX5_arrive_115 ?_
        refine lv_topi (fun y60 ey60 => ?_)
        have by60 : y60.toInt = (nu55 32 5).toInt := congrArg Int32.toInt ey60
        have gy60 : 0 ≤ y60.toInt ∧ y60.toInt ≤ 6 := by rw [ey60]; exact rX_32_5 ok
        refine lv_ishl hx hb dX5_arrive_118 ?_
        refine lv_topi (fun t61 et61 => ?_)
        refine lv_iconst (v := (-1)) hx hb dX5_arrive_119 (by decide) ?_
        refine lv_ixor hx hb dX5_arrive_120 ?_
        refine lv_topi (fun t62 et62 => ?_)
        refine lv_iand hx hb dX5_arrive_121 ?_
        refine lv_topi (fun t63 et63 => ?_)
        refine lv_iand hx hb dX5_arrive_122 ?_
        refine lv_topi (fun t64 et64 => ?_)
        refine va_put (D := (dC, dI)) (ci := 5) (v := .int t64) (ty := .int) (C := RX5) (T := TX5) (N := 15) hx hb hts inG5 tyX5 tyX5_ok nmX5 hown hK hP (wR_D nu55 hD) hS 32 (gX_32 cs ad nu55) rfl 13 (by decide) (hts _ (List.mem_cons_of_mem _ mw_2_63)) (fun _ h9 => h9) rfl (by decide +kernel) rfl rfl (Nat.le_of_ble_eq_true rfl) dX5_arrive_123 (fun H locs hP _ hS => ?_)
        simp only [List.set_cons_succ, List.set_cons_zero] at hP
        refine wr_gen (upd (nu55 32) 13 t64) hP ((hX_32_13 cs ad _ _)) (fun nu65 hn65 hP => ?_)
        have ok := tX_32_13 ok hn65
        have ez66 : t48 = nu65 32 14 := ez56.trans (up_f hn65 (by decide)).symm
        have ez67 : y51 = nu65 32 8 := ez57.trans (up_f hn65 (by decide)).symm
        have ez68 : t54 = nu65 32 12 := ez58.trans (up_f hn65 (by decide)).symm
        have ez69 : y60 = nu65 32 5 := ey60.trans (up_f hn65 (by decide)).symm
        have ez70 : t64 = nu65 32 13 := up_v hn65
        refine lv_aload_n hx hb dX5_arrive_126 rfl (lv_at hl 1 rfl) ?_
        refine va_get (D := (dC, dI)) (ci := 5) (v := .ref (ad 56)) (C := RX5) (T := TX5) (N := 15) hx hb hts inG5 hown hK hP 32 (gX_32 cs ad nu65) rfl 4 (by decide) (hts _ (List.mem_cons_of_mem _ mw_2_51)) (fun _ h9 => h9) rfl dX5_arrive_127 ?_
        refine va_get (D := (dC, dI)) (ci := 0) (v := .int (nu65 56 3)) (C := RX0) (T := TX0) (N := 4) hx hb hts inG0 hown hK hP 56 (gX_56 cs ad nu65) rfl 3 (by decide) (hts _ (List.mem_cons_of_mem _ mw_2_35)) (fun _ h9 => h9) rfl dX5_arrive_130 ?_
        refine lv_topi (fun y71 ey71 => ?_)
        have by71 : y71.toInt = (nu65 56 3).toInt := congrArg Int32.toInt ey71
        have gy71 : 0 ≤ y71.toInt ∧ y71.toInt ≤ 1 := by rw [ey71]; exact rX_56_3 ok
        refine lv_if_eq (tgt := 169) hx hb dX5_arrive_133 (by decide) (fun c_72 => ?_) (fun c_72 => ?_)
        · have c_72 : y71.toInt = 0 := il_eq c_72
          refine lv_aload_n hx hb dX5_arrive_169 rfl (lv_at hl 1 rfl) ?_
          refine va_get (D := (dC, dI)) (ci := 5) (v := .ref (ad 56)) (C := RX5) (T := TX5) (N := 15) hx hb hts inG5 hown hK hP 32 (gX_32 cs ad nu65) rfl 4 (by decide) (hts _ (List.mem_cons_of_mem _ mw_2_51)) (fun _ h9 => h9) rfl dX5_arrive_170 ?_
          refine lv_aload_n hx hb dX5_arrive_173 rfl (lv_at hl 1 rfl) ?_
          refine va_get (D := (dC, dI)) (ci := 5) (v := .ref (ad 54)) (C := RX5) (T := TX5) (N := 15) hx hb hts inG5 hown hK hP 32 (gX_32 cs ad nu65) rfl 2 (by decide) (hts _ (List.mem_cons_of_mem _ mw_2_48)) (fun _ h9 => h9) rfl dX5_arrive_174 ?_
          refine lv_iload_n hx hb dX5_arrive_177 rfl (lv_at hl 2 rfl) ?_
          refine lv_iload_n hx hb dX5_arrive_178 rfl (lv_at hl 4 rfl) ?_
          have hFc := fr_all (wR_D nu65 hD) hS hA
          refine va_callv (va_runV (As := [.ref (ad 54), .int vs, .int vp]) (rest := []) ⟨hx, hb, hml, hown, hts⟩ (sx_take56 l dC dI cs ad nu65 ok H hP ((wR_D nu65 hD).weaken (fun _ _ _ _ => trivial)) vs vp (by omega)) (cwV 3 hts (wU_V mw_4_43 mw_4_40 mw_4_41 mw_4_42 mw_1_9) rfl rfl rfl (by decide +kernel) ⟨Nat.le_of_ble_eq_true rfl, Nat.le_of_ble_eq_true rfl⟩) ⟨sz_c, va_recv hK hP (ci := 0) (q0 := 56) rfl (gX_56 cs ad nu65), sz_m hK hz⟩ rfl rfl hl.1 rfl (lv_room (Nat.le_of_ble_eq_true rfl)) dX5_arrive_179 ⟨Nat.zero_le _, Nat.zero_le _⟩) hS (fun q _ h => hFc q h) hFc (fun xi73 t H73 locs ht hvm hw73 hB hz1 hk1 hS => ?_)
          have hP : va_P (dC, dI) vwCl (wR 157 ad (EX cs ad) xi73) H73 := by rw [← ht]; exact hB
          obtain ⟨ok, hw73, _⟩ := hw73
          exact W.vret hx hb hr (fun t ht hW => ⟨⟨xi73, rfl, ⟨ok, trivial, trivial⟩, by first | (subst ht; exact hP) | (rw [ht]; exact hP) | (show va_P (dC, dI) vwCl (wR 157 ad (EX cs ad) xi73) t.heap; rw [ht]; exact hP)⟩, hS.F ht⟩) hS.2.2 dX5_arrive_182
        · have c_72 : ¬ y71.toInt = 0 := il_ne c_72
          refine lv_iload_n hx hb dX5_arrive_136 rfl (lv_at hl 2 rfl) ?_
          refine lv_aload_n hx hb dX5_arrive_137 rfl (lv_at hl 1 rfl) ?_
          refine va_get (D := (dC, dI)) (ci := 5) (v := .ref (ad 56)) (C := RX5) (T := TX5) (N := 15) hx hb hts inG5 hown hK hP 32 (gX_32 cs ad nu65) rfl 4 (by decide) (hts _ (List.mem_cons_of_mem _ mw_2_51)) (fun _ h9 => h9) rfl dX5_arrive_138 ?_
          refine va_get (D := (dC, dI)) (ci := 0) (v := .int (nu65 56 1)) (C := RX0) (T := TX0) (N := 4) hx hb hts inG0 hown hK hP 56 (gX_56 cs ad nu65) rfl 1 (by decide) (hts _ (List.mem_cons_of_mem _ mw_2_29)) (fun _ h9 => h9) rfl dX5_arrive_141 ?_
          refine lv_topi (fun y74 ey74 => ?_)
          have by74 : y74.toInt = (nu65 56 1).toInt := congrArg Int32.toInt ey74
          have gy74 : 0 ≤ y74.toInt ∧ y74.toInt ≤ 6 := by rw [ey74]; exact rX_56_1 ok
          refine lv_icmp_lt (tgt := 169) hx hb dX5_arrive_144 (by decide) (fun c_75 => ?_) (fun c_75 => ?_)
          · have c_75 : vs.toInt < y74.toInt := il_lt c_75
            refine lv_aload_n hx hb dX5_arrive_169 rfl (lv_at hl 1 rfl) ?_
            refine va_get (D := (dC, dI)) (ci := 5) (v := .ref (ad 56)) (C := RX5) (T := TX5) (N := 15) hx hb hts inG5 hown hK hP 32 (gX_32 cs ad nu65) rfl 4 (by decide) (hts _ (List.mem_cons_of_mem _ mw_2_51)) (fun _ h9 => h9) rfl dX5_arrive_170 ?_
            refine lv_aload_n hx hb dX5_arrive_173 rfl (lv_at hl 1 rfl) ?_
            refine va_get (D := (dC, dI)) (ci := 5) (v := .ref (ad 54)) (C := RX5) (T := TX5) (N := 15) hx hb hts inG5 hown hK hP 32 (gX_32 cs ad nu65) rfl 2 (by decide) (hts _ (List.mem_cons_of_mem _ mw_2_48)) (fun _ h9 => h9) rfl dX5_arrive_174 ?_
            refine lv_iload_n hx hb dX5_arrive_177 rfl (lv_at hl 2 rfl) ?_
            refine lv_iload_n hx hb dX5_arrive_178 rfl (lv_at hl 4 rfl) ?_
            have hFc := fr_all (wR_D nu65 hD) hS hA
            refine va_callv (va_runV (As := [.ref (ad 54), .int vs, .int vp]) (rest := []) ⟨hx, hb, hml, hown, hts⟩ (sx_take56 l dC dI cs ad nu65 ok H hP ((wR_D nu65 hD).weaken (fun _ _ _ _ => trivial)) vs vp (by omega)) (cwV 3 hts (wU_V mw_4_43 mw_4_40 mw_4_41 mw_4_42 mw_1_9) rfl rfl rfl (by decide +kernel) ⟨Nat.le_of_ble_eq_true rfl, Nat.le_of_ble_eq_true rfl⟩) ⟨sz_c, va_recv hK hP (ci := 0) (q0 := 56) rfl (gX_56 cs ad nu65), sz_m hK hz⟩ rfl rfl hl.1 rfl (lv_room (Nat.le_of_ble_eq_true rfl)) dX5_arrive_179 ⟨Nat.zero_le _, Nat.zero_le _⟩) hS (fun q _ h => hFc q h) hFc (fun xi76 t H76 locs ht hvm hw76 hB hz1 hk1 hS => ?_)
            have hP : va_P (dC, dI) vwCl (wR 157 ad (EX cs ad) xi76) H76 := by rw [← ht]; exact hB
            obtain ⟨ok, hw76, _⟩ := hw76
            exact W.vret hx hb hr (fun t ht hW => ⟨⟨xi76, rfl, ⟨ok, trivial, trivial⟩, by first | (subst ht; exact hP) | (rw [ht]; exact hP) | (show va_P (dC, dI) vwCl (wR 157 ad (EX cs ad) xi76) t.heap; rw [ht]; exact hP)⟩, hS.F ht⟩) hS.2.2 dX5_arrive_182
          · have c_75 : y74.toInt ≤ vs.toInt := il_nlt c_75
            refine lv_iload_n hx hb dX5_arrive_147 rfl (lv_at hl 2 rfl) ?_
            refine lv_aload_n hx hb dX5_arrive_148 rfl (lv_at hl 1 rfl) ?_
            refine va_get (D := (dC, dI)) (ci := 5) (v := .ref (ad 56)) (C := RX5) (T := TX5) (N := 15) hx hb hts inG5 hown hK hP 32 (gX_32 cs ad nu65) rfl 4 (by decide) (hts _ (List.mem_cons_of_mem _ mw_2_51)) (fun _ h9 => h9) rfl dX5_arrive_149 ?_
            refine va_get (D := (dC, dI)) (ci := 0) (v := .int (nu65 56 1)) (C := RX0) (T := TX0) (N := 4) hx hb hts inG0 hown hK hP 56 (gX_56 cs ad nu65) rfl 1 (by decide) (hts _ (List.mem_cons_of_mem _ mw_2_29)) (fun _ h9 => h9) rfl dX5_arrive_152 ?_
            refine lq_i y74 ey74.symm ?_
            refine lv_icmp_ne (tgt := 182) hx hb dX5_arrive_155 (by decide) (fun c_77 => ?_) (fun c_77 => ?_)
            · have c_77 : ¬ vs.toInt = y74.toInt := il_ne c_77
              exact W.vret hx hb hr (fun t ht hW => ⟨⟨nu65, rfl, ⟨ok, trivial, trivial⟩, by first | (subst ht; exact hP) | (rw [ht]; exact hP) | (show va_P (dC, dI) vwCl (wR 157 ad (EX cs ad) nu65) t.heap; rw [ht]; exact hP)⟩, hS.F ht⟩) hS.2.2 dX5_arrive_182
            · have c_77 : vs.toInt = y74.toInt := il_eq c_77
              refine lv_iload_n hx hb dX5_arrive_158 rfl (lv_at hl 4 rfl) ?_
              refine lv_aload_n hx hb dX5_arrive_159 rfl (lv_at hl 1 rfl) ?_
              refine va_get (D := (dC, dI)) (ci := 5) (v := .ref (ad 56)) (C := RX5) (T := TX5) (N := 15) hx hb hts inG5 hown hK hP 32 (gX_32 cs ad nu65) rfl 4 (by decide) (hts _ (List.mem_cons_of_mem _ mw_2_51)) (fun _ h9 => h9) rfl dX5_arrive_160 ?_
              refine va_get (D := (dC, dI)) (ci := 0) (v := .int (nu65 56 2)) (C := RX0) (T := TX0) (N := 4) hx hb hts inG0 hown hK hP 56 (gX_56 cs ad nu65) rfl 2 (by decide) (hts _ (List.mem_cons_of_mem _ mw_2_32)) (fun _ h9 => h9) rfl dX5_arrive_163 ?_
              refine lv_topi (fun y78 ey78 => ?_)
              have by78 : y78.toInt = (nu65 56 2).toInt := congrArg Int32.toInt ey78
              refine lv_icmp_ge (tgt := 182) hx hb dX5_arrive_166 (by decide) (fun c_79 => ?_) (fun c_79 => ?_)
              · have c_79 : y78.toInt ≤ vp.toInt := il_le c_79
                exact W.vret hx hb hr (fun t ht hW => ⟨⟨nu65, rfl, ⟨ok, trivial, trivial⟩, by first | (subst ht; exact hP) | (rw [ht]; exact hP) | (show va_P (dC, dI) vwCl (wR 157 ad (EX cs ad) nu65) t.heap; rw [ht]; exact hP)⟩, hS.F ht⟩) hS.2.2 dX5_arrive_182
              · have c_79 : vp.toInt < y78.toInt := il_nle c_79
                refine lv_aload_n hx hb dX5_arrive_169 rfl (lv_at hl 1 rfl) ?_
                refine va_get (D := (dC, dI)) (ci := 5) (v := .ref (ad 56)) (C := RX5) (T := TX5) (N := 15) hx hb hts inG5 hown hK hP 32 (gX_32 cs ad nu65) rfl 4 (by decide) (hts _ (List.mem_cons_of_mem _ mw_2_51)) (fun _ h9 => h9) rfl dX5_arrive_170 ?_
                refine lv_aload_n hx hb dX5_arrive_173 rfl (lv_at hl 1 rfl) ?_
                refine va_get (D := (dC, dI)) (ci := 5) (v := .ref (ad 54)) (C := RX5) (T := TX5) (N := 15) hx hb hts inG5 hown hK hP 32 (gX_32 cs ad nu65) rfl 2 (by decide) (hts _ (List.mem_cons_of_mem _ mw_2_48)) (fun _ h9 => h9) rfl dX5_arrive_174 ?_
                refine lv_iload_n hx hb dX5_arrive_177 rfl (lv_at hl 2 rfl) ?_
                refine lv_iload_n hx hb dX5_arrive_178 rfl (lv_at hl 4 rfl) ?_
                have hFc := fr_all (wR_D nu65 hD) hS hA
                refine va_callv (va_runV (As := [.ref (ad 54), .int vs, .int vp]) (rest := []) ⟨hx, hb, hml, hown, hts⟩ (sx_take56 l dC dI cs ad nu65 ok H hP ((wR_D nu65 hD).weaken (fun _ _ _ _ => trivial)) vs vp (by omega)) (cwV 3 hts (wU_V mw_4_43 mw_4_40 mw_4_41 mw_4_42 mw_1_9) rfl rfl rfl (by decide +kernel) ⟨Nat.le_of_ble_eq_true rfl, Nat.le_of_ble_eq_true rfl⟩) ⟨sz_c, va_recv hK hP (ci := 0) (q0 := 56) rfl (gX_56 cs ad nu65), sz_m hK hz⟩ rfl rfl hl.1 rfl (lv_room (Nat.le_of_ble_eq_true rfl)) dX5_arrive_179 ⟨Nat.zero_le _, Nat.zero_le _⟩) hS (fun q _ h => hFc q h) hFc (fun xi80 t H80 locs ht hvm hw80 hB hz1 hk1 hS => ?_)
                have hP : va_P (dC, dI) vwCl (wR 157 ad (EX cs ad) xi80) H80 := by rw [← ht]; exact hB
                obtain ⟨ok, hw80, _⟩ := hw80
                exact W.vret hx hb hr (fun t ht hW => ⟨⟨xi80, rfl, ⟨ok, trivial, trivial⟩, by first | (subst ht; exact hP) | (rw [ht]; exact hP) | (show va_P (dC, dI) vwCl (wR 157 ad (EX cs ad) xi80) t.heap; rw [ht]; exact hP)⟩, hS.F ht⟩) hS.2.2 dX5_arrive_182
      · have c_52 : y51.toInt < r46.toInt := il_nle c_52
        exact W.vret hx hb hr (fun t ht hW => ⟨⟨nu49, rfl, ⟨ok, trivial, trivial⟩, by first | (subst ht; exact hP) | (rw [ht]; exact hP) | (show va_P (dC, dI) vwCl (wR 157 ad (EX cs ad) nu49) t.heap; rw [ht]; exact hP)⟩, hS.F ht⟩) hS.2.2 dX5_arrive_96
    · have c_44 : y43.toInt ≤ vp.toInt := il_nlt c_44
      refine lv_iload_n hx hb dX5_arrive_31 rfl (lv_at hl 3 rfl) ?_
      refine lv_aload_n hx hb dX5_arrive_32 rfl (lv_at hl 0 rfl) ?_
      refine va_get (D := (dC, dI)) (ci := 5) (v := .ref (ad 55)) (C := RX5) (T := TX5) (N := 15) hx hb hts inG5 hown hK hP 32 (gX_32 cs ad nu3) rfl 3 (by decide) (hts _ (List.mem_cons_of_mem _ mw_2_49)) (fun _ h9 => h9) rfl dX5_arrive_33 ?_
      refine va_get (D := (dC, dI)) (ci := 0) (v := .int (nu3 55 2)) (C := RX0) (T := TX0) (N := 4) hx hb hts inG0 hown hK hP 55 (gX_55 cs ad nu3) rfl 2 (by decide) (hts _ (List.mem_cons_of_mem _ mw_2_32)) (fun _ h9 => h9) rfl dX5_arrive_36 ?_
      refine lq_i y43 ey43.symm ?_
      refine lv_icmp_ne (tgt := 66) hx hb dX5_arrive_39 (by decide) (fun c_81 => ?_) (fun c_81 => ?_)
      · have c_81 : ¬ vp.toInt = y43.toInt := il_ne c_81
        refine lv_aload_n hx hb dX5_arrive_66 rfl (lv_at hl 0 rfl) ?_
        refine lv_iload_n hx hb dX5_arrive_67 rfl (lv_at hl 1 rfl) ?_
        refine lv_iload_n hx hb dX5_arrive_68 rfl (lv_at hl 3 rfl) ?_
        refine cr_i (va_runV (As := [.int vs, .int vp]) (rest := []) ⟨hx, hb, hml, hown, hts⟩ (sx_needFor l dC dI cs ad nu3 ok H hP vs vp) (cwV 2 hts (wU_V mw_4_48 mw_4_45 mw_4_47 mw_0_16 mw_1_8) rfl rfl rfl (by decide +kernel) ⟨Nat.le_of_ble_eq_true rfl, Nat.le_of_ble_eq_true rfl⟩) ⟨sz_c, va_recv hK hP (ci := 5) (q0 := 32) rfl (gX_32 cs ad nu3), sz_m hK hz⟩ rfl rfl hl.1 rfl (lv_room (Nat.le_of_ble_eq_true rfl)) dX5_arrive_69 ⟨Nat.zero_le _, Nat.zero_le _⟩) hS (fun r82 hw82 locs hS => ?_)
        refine lv_istore (lv' := [(4, .int r82), (0, .ref (ad 32)), (1, .int vs), (2, .int vu), (3, .int vp)]) hx hb dX5_arrive_72 hl (by decide) rfl (fun ls hl => ?_)
        refine lv_aload_n hx hb dX5_arrive_74 rfl (lv_at hl 1 rfl) ?_
        refine lv_aload_n hx hb dX5_arrive_75 rfl (lv_at hl 1 rfl) ?_
        refine va_get (D := (dC, dI)) (ci := 5) (v := .int (nu3 32 14)) (C := RX5) (T := TX5) (N := 15) hx hb hts inG5 hown hK hP 32 (gX_32 cs ad nu3) rfl 14 (by decide) (hts _ (List.mem_cons_of_mem _ mw_2_65)) (fun _ h9 => h9) rfl dX5_arrive_76 ?_
        refine lv_topi (fun y83 ey83 => ?_)
        have by83 : y83.toInt = (nu3 32 14).toInt := congrArg Int32.toInt ey83
        refine lv_iload hx hb dX5_arrive_79 (lv_at hl 0 rfl) ?_
        refine va_mmin hx hb (hml.trans hl.1.symm) hown (hts _ (List.mem_cons_of_mem _ mw_4_49)) (hts _ (List.mem_cons_of_mem _ mw_4_50)) (hts _ (List.mem_cons_of_mem _ mw_1_17)) (hts _ (List.mem_cons_of_mem _ mw_4_51)) (Nat.le_of_ble_eq_true rfl) (Nat.le_of_ble_eq_true rfl) (Nat.zero_le _) (Nat.zero_le _) dX5_arrive_81 ?_
        refine lv_topi (fun t84 et84 => ?_)
        refine va_put (D := (dC, dI)) (ci := 5) (v := .int t84) (ty := .int) (C := RX5) (T := TX5) (N := 15) hx hb hts inG5 tyX5 tyX5_ok nmX5 hown hK hP (wR_D nu3 hD) hS 32 (gX_32 cs ad nu3) rfl 14 (by decide) (hts _ (List.mem_cons_of_mem _ mw_2_65)) (fun _ h9 => h9) rfl (by decide +kernel) rfl rfl (Nat.le_of_ble_eq_true rfl) dX5_arrive_84 (fun H locs hP _ hS => ?_)
        simp only [List.set_cons_succ, List.set_cons_zero] at hP
        refine wr_gen (upd (nu3 32) 14 t84) hP ((hX_32_14 cs ad _ _)) (fun nu85 hn85 hP => ?_)
        have ok := tX_32_14 ok hn85
        have ez86 : t2 = nu85 32 11 := ez4.trans (up_f hn85 (by decide)).symm
        have ez87 : y5 = nu85 55 3 := ey5.trans (congrFun (up_k hn85 (by decide)) 3).symm
        have ez88 : y43 = nu85 55 2 := ey43.trans (congrFun (up_k hn85 (by decide)) 2).symm
        have ez89 : t84 = nu85 32 14 := up_v hn85
        refine lv_iload hx hb dX5_arrive_87 (lv_at hl 0 rfl) ?_
        refine lv_aload_n hx hb dX5_arrive_89 rfl (lv_at hl 1 rfl) ?_
        refine va_get (D := (dC, dI)) (ci := 5) (v := .int (nu85 32 8)) (C := RX5) (T := TX5) (N := 15) hx hb hts inG5 hown hK hP 32 (gX_32 cs ad nu85) rfl 8 (by decide) (hts _ (List.mem_cons_of_mem _ mw_2_56)) (fun _ h9 => h9) rfl dX5_arrive_90 ?_
        refine lv_topi (fun y90 ey90 => ?_)
        have by90 : y90.toInt = (nu85 32 8).toInt := congrArg Int32.toInt ey90
        refine lv_icmp_le (tgt := 97) hx hb dX5_arrive_93 (by decide) (fun c_91 => ?_) (fun c_91 => ?_)
        · have c_91 : r82.toInt ≤ y90.toInt := il_le c_91
          refine lv_aload_n hx hb dX5_arrive_97 rfl (lv_at hl 1 rfl) ?_
          refine lv_dup hx hb dX5_arrive_98 rfl ?_
          refine va_get (D := (dC, dI)) (ci := 5) (v := .int (nu85 32 12)) (C := RX5) (T := TX5) (N := 15) hx hb hts inG5 hown hK hP 32 (gX_32 cs ad nu85) rfl 12 (by decide) (hts _ (List.mem_cons_of_mem _ mw_2_61)) (fun _ h9 => h9) rfl dX5_arrive_99 ?_
          refine lv_topi (fun y92 ey92 => ?_)
          have by92 : y92.toInt = (nu85 32 12).toInt := congrArg Int32.toInt ey92
          refine lv_iconst (v := 1) hx hb dX5_arrive_102 (by decide) ?_
          refine lv_iadd hx hb dX5_arrive_103 ?_
          refine lv_topi (fun t93 et93 => ?_)
          refine va_put (D := (dC, dI)) (ci := 5) (v := .int t93) (ty := .int) (C := RX5) (T := TX5) (N := 15) hx hb hts inG5 tyX5 tyX5_ok nmX5 hown hK hP (wR_D nu85 hD) hS 32 (gX_32 cs ad nu85) rfl 12 (by decide) (hts _ (List.mem_cons_of_mem _ mw_2_61)) (fun _ h9 => h9) rfl (by decide +kernel) rfl rfl (Nat.le_of_ble_eq_true rfl) dX5_arrive_104 (fun H locs hP _ hS => ?_)
          simp only [List.set_cons_succ, List.set_cons_zero] at hP
          refine wr_gen (upd (nu85 32) 12 t93) hP ((hX_32_12 cs ad _ _)) (fun nu94 hn94 hP => ?_)
          have ok := tX_32_12 ok hn94
          have ez95 : t2 = nu94 32 11 := ez86.trans (up_f hn94 (by decide)).symm
          have ez96 : y5 = nu94 55 3 := ez87.trans (congrFun (up_k hn94 (by decide)) 3).symm
          have ez97 : y43 = nu94 55 2 := ez88.trans (congrFun (up_k hn94 (by decide)) 2).symm
          have ez98 : t84 = nu94 32 14 := ez89.trans (up_f hn94 (by decide)).symm
          have ez99 : y90 = nu94 32 8 := ey90.trans (up_f hn94 (by decide)).symm
          have ez100 : t93 = nu94 32 12 := up_v hn94
          refine lv_aload_n hx hb dX5_arrive_107 rfl (lv_at hl 1 rfl) ?_
          refine lv_dup hx hb dX5_arrive_108 rfl ?_
          refine va_get (D := (dC, dI)) (ci := 5) (v := .int (nu94 32 13)) (C := RX5) (T := TX5) (N := 15) hx hb hts inG5 hown hK hP 32 (gX_32 cs ad nu94) rfl 13 (by decide) (hts _ (List.mem_cons_of_mem _ mw_2_63)) (fun _ h9 => h9) rfl dX5_arrive_109 ?_
          refine lv_topi (fun y101 ey101 => ?_)
          have by101 : y101.toInt = (nu94 32 13).toInt := congrArg Int32.toInt ey101
          refine lv_iload_n hx hb dX5_arrive_112 rfl (lv_at hl 3 rfl) ?_
          refine lv_iconst (v := 1) hx hb dX5_arrive_113 (by decide) ?_
          refine lv_aload_n hx hb dX5_arrive_114 rfl (lv_at hl 1 rfl) ?_
          refine va_get (D := (dC, dI)) (ci := 5) (v := .int (nu94 32 5)) (C := RX5) (T := TX5) (N := 15) hx hb hts inG5 hown hK hP 32 (gX_32 cs ad nu94) rfl 5 (by decide) (hts _ (List.mem_cons_of_mem _ mw_2_53)) (fun _ h9 => h9) rfl dX5_arrive_115 ?_
          refine lv_topi (fun y102 ey102 => ?_)
          have by102 : y102.toInt = (nu94 32 5).toInt := congrArg Int32.toInt ey102
          have gy102 : 0 ≤ y102.toInt ∧ y102.toInt ≤ 6 := by rw [ey102]; exact rX_32_5 ok
          refine lv_ishl hx hb dX5_arrive_118 ?_
          refine lv_topi (fun t103 et103 => ?_)
          refine lv_iconst (v := (-1)) hx hb dX5_arrive_119 (by decide) ?_
          refine lv_ixor hx hb dX5_arrive_120 ?_
          refine lv_topi (fun t104 et104 => ?_)
          refine lv_iand hx hb dX5_arrive_121 ?_
          refine lv_topi (fun t105 et105 => ?_)
          refine lv_iand hx hb dX5_arrive_122 ?_
          refine lv_topi (fun t106 et106 => ?_)
          refine va_put (D := (dC, dI)) (ci := 5) (v := .int t106) (ty := .int) (C := RX5) (T := TX5) (N := 15) hx hb hts inG5 tyX5 tyX5_ok nmX5 hown hK hP (wR_D nu94 hD) hS 32 (gX_32 cs ad nu94) rfl 13 (by decide) (hts _ (List.mem_cons_of_mem _ mw_2_63)) (fun _ h9 => h9) rfl (by decide +kernel) rfl rfl (Nat.le_of_ble_eq_true rfl) dX5_arrive_123 (fun H locs hP _ hS => ?_)
          simp only [List.set_cons_succ, List.set_cons_zero] at hP
          refine wr_gen (upd (nu94 32) 13 t106) hP ((hX_32_13 cs ad _ _)) (fun nu107 hn107 hP => ?_)
          have ok := tX_32_13 ok hn107
          have ez108 : t2 = nu107 32 11 := ez95.trans (up_f hn107 (by decide)).symm
          have ez109 : y5 = nu107 55 3 := ez96.trans (congrFun (up_k hn107 (by decide)) 3).symm
          have ez110 : y43 = nu107 55 2 := ez97.trans (congrFun (up_k hn107 (by decide)) 2).symm
          have ez111 : t84 = nu107 32 14 := ez98.trans (up_f hn107 (by decide)).symm
          have ez112 : y90 = nu107 32 8 := ez99.trans (up_f hn107 (by decide)).symm
          have ez113 : t93 = nu107 32 12 := ez100.trans (up_f hn107 (by decide)).symm
          have ez114 : y102 = nu107 32 5 := ey102.trans (up_f hn107 (by decide)).symm
          have ez115 : t106 = nu107 32 13 := up_v hn107
          refine lv_aload_n hx hb dX5_arrive_126 rfl (lv_at hl 1 rfl) ?_
          refine va_get (D := (dC, dI)) (ci := 5) (v := .ref (ad 56)) (C := RX5) (T := TX5) (N := 15) hx hb hts inG5 hown hK hP 32 (gX_32 cs ad nu107) rfl 4 (by decide) (hts _ (List.mem_cons_of_mem _ mw_2_51)) (fun _ h9 => h9) rfl dX5_arrive_127 ?_
          refine va_get (D := (dC, dI)) (ci := 0) (v := .int (nu107 56 3)) (C := RX0) (T := TX0) (N := 4) hx hb hts inG0 hown hK hP 56 (gX_56 cs ad nu107) rfl 3 (by decide) (hts _ (List.mem_cons_of_mem _ mw_2_35)) (fun _ h9 => h9) rfl dX5_arrive_130 ?_
          refine lv_topi (fun y116 ey116 => ?_)
          have by116 : y116.toInt = (nu107 56 3).toInt := congrArg Int32.toInt ey116
          have gy116 : 0 ≤ y116.toInt ∧ y116.toInt ≤ 1 := by rw [ey116]; exact rX_56_3 ok
          refine lv_if_eq (tgt := 169) hx hb dX5_arrive_133 (by decide) (fun c_117 => ?_) (fun c_117 => ?_)
          · have c_117 : y116.toInt = 0 := il_eq c_117
            refine lv_aload_n hx hb dX5_arrive_169 rfl (lv_at hl 1 rfl) ?_
            refine va_get (D := (dC, dI)) (ci := 5) (v := .ref (ad 56)) (C := RX5) (T := TX5) (N := 15) hx hb hts inG5 hown hK hP 32 (gX_32 cs ad nu107) rfl 4 (by decide) (hts _ (List.mem_cons_of_mem _ mw_2_51)) (fun _ h9 => h9) rfl dX5_arrive_170 ?_
            refine lv_aload_n hx hb dX5_arrive_173 rfl (lv_at hl 1 rfl) ?_
            refine va_get (D := (dC, dI)) (ci := 5) (v := .ref (ad 54)) (C := RX5) (T := TX5) (N := 15) hx hb hts inG5 hown hK hP 32 (gX_32 cs ad nu107) rfl 2 (by decide) (hts _ (List.mem_cons_of_mem _ mw_2_48)) (fun _ h9 => h9) rfl dX5_arrive_174 ?_
            refine lv_iload_n hx hb dX5_arrive_177 rfl (lv_at hl 2 rfl) ?_
            refine lv_iload_n hx hb dX5_arrive_178 rfl (lv_at hl 4 rfl) ?_
            have hFc := fr_all (wR_D nu107 hD) hS hA
            refine va_callv (va_runV (As := [.ref (ad 54), .int vs, .int vp]) (rest := []) ⟨hx, hb, hml, hown, hts⟩ (sx_take56 l dC dI cs ad nu107 ok H hP ((wR_D nu107 hD).weaken (fun _ _ _ _ => trivial)) vs vp (by omega)) (cwV 3 hts (wU_V mw_4_43 mw_4_40 mw_4_41 mw_4_42 mw_1_9) rfl rfl rfl (by decide +kernel) ⟨Nat.le_of_ble_eq_true rfl, Nat.le_of_ble_eq_true rfl⟩) ⟨sz_c, va_recv hK hP (ci := 0) (q0 := 56) rfl (gX_56 cs ad nu107), sz_m hK hz⟩ rfl rfl hl.1 rfl (lv_room (Nat.le_of_ble_eq_true rfl)) dX5_arrive_179 ⟨Nat.zero_le _, Nat.zero_le _⟩) hS (fun q _ h => hFc q h) hFc (fun xi118 t H118 locs ht hvm hw118 hB hz1 hk1 hS => ?_)
            have hP : va_P (dC, dI) vwCl (wR 157 ad (EX cs ad) xi118) H118 := by rw [← ht]; exact hB
            obtain ⟨ok, hw118, _⟩ := hw118
            exact W.vret hx hb hr (fun t ht hW => ⟨⟨xi118, rfl, ⟨ok, trivial, trivial⟩, by first | (subst ht; exact hP) | (rw [ht]; exact hP) | (show va_P (dC, dI) vwCl (wR 157 ad (EX cs ad) xi118) t.heap; rw [ht]; exact hP)⟩, hS.F ht⟩) hS.2.2 dX5_arrive_182
          · have c_117 : ¬ y116.toInt = 0 := il_ne c_117
            refine lv_iload_n hx hb dX5_arrive_136 rfl (lv_at hl 2 rfl) ?_
            refine lv_aload_n hx hb dX5_arrive_137 rfl (lv_at hl 1 rfl) ?_
            refine va_get (D := (dC, dI)) (ci := 5) (v := .ref (ad 56)) (C := RX5) (T := TX5) (N := 15) hx hb hts inG5 hown hK hP 32 (gX_32 cs ad nu107) rfl 4 (by decide) (hts _ (List.mem_cons_of_mem _ mw_2_51)) (fun _ h9 => h9) rfl dX5_arrive_138 ?_
            refine va_get (D := (dC, dI)) (ci := 0) (v := .int (nu107 56 1)) (C := RX0) (T := TX0) (N := 4) hx hb hts inG0 hown hK hP 56 (gX_56 cs ad nu107) rfl 1 (by decide) (hts _ (List.mem_cons_of_mem _ mw_2_29)) (fun _ h9 => h9) rfl dX5_arrive_141 ?_
            refine lv_topi (fun y119 ey119 => ?_)
            have by119 : y119.toInt = (nu107 56 1).toInt := congrArg Int32.toInt ey119
            have gy119 : 0 ≤ y119.toInt ∧ y119.toInt ≤ 6 := by rw [ey119]; exact rX_56_1 ok
            refine lv_icmp_lt (tgt := 169) hx hb dX5_arrive_144 (by decide) (fun c_120 => ?_) (fun c_120 => ?_)
            · have c_120 : vs.toInt < y119.toInt := il_lt c_120
              refine lv_aload_n hx hb dX5_arrive_169 rfl (lv_at hl 1 rfl) ?_
              refine va_get (D := (dC, dI)) (ci := 5) (v := .ref (ad 56)) (C := RX5) (T := TX5) (N := 15) hx hb hts inG5 hown hK hP 32 (gX_32 cs ad nu107) rfl 4 (by decide) (hts _ (List.mem_cons_of_mem _ mw_2_51)) (fun _ h9 => h9) rfl dX5_arrive_170 ?_
              refine lv_aload_n hx hb dX5_arrive_173 rfl (lv_at hl 1 rfl) ?_
              refine va_get (D := (dC, dI)) (ci := 5) (v := .ref (ad 54)) (C := RX5) (T := TX5) (N := 15) hx hb hts inG5 hown hK hP 32 (gX_32 cs ad nu107) rfl 2 (by decide) (hts _ (List.mem_cons_of_mem _ mw_2_48)) (fun _ h9 => h9) rfl dX5_arrive_174 ?_
              refine lv_iload_n hx hb dX5_arrive_177 rfl (lv_at hl 2 rfl) ?_
              refine lv_iload_n hx hb dX5_arrive_178 rfl (lv_at hl 4 rfl) ?_
              have hFc := fr_all (wR_D nu107 hD) hS hA
              refine va_callv (va_runV (As := [.ref (ad 54), .int vs, .int vp]) (rest := []) ⟨hx, hb, hml, hown, hts⟩ (sx_take56 l dC dI cs ad nu107 ok H hP ((wR_D nu107 hD).weaken (fun _ _ _ _ => trivial)) vs vp (by omega)) (cwV 3 hts (wU_V mw_4_43 mw_4_40 mw_4_41 mw_4_42 mw_1_9) rfl rfl rfl (by decide +kernel) ⟨Nat.le_of_ble_eq_true rfl, Nat.le_of_ble_eq_true rfl⟩) ⟨sz_c, va_recv hK hP (ci := 0) (q0 := 56) rfl (gX_56 cs ad nu107), sz_m hK hz⟩ rfl rfl hl.1 rfl (lv_room (Nat.le_of_ble_eq_true rfl)) dX5_arrive_179 ⟨Nat.zero_le _, Nat.zero_le _⟩) hS (fun q _ h => hFc q h) hFc (fun xi121 t H121 locs ht hvm hw121 hB hz1 hk1 hS => ?_)
              have hP : va_P (dC, dI) vwCl (wR 157 ad (EX cs ad) xi121) H121 := by rw [← ht]; exact hB
              obtain ⟨ok, hw121, _⟩ := hw121
              exact W.vret hx hb hr (fun t ht hW => ⟨⟨xi121, rfl, ⟨ok, trivial, trivial⟩, by first | (subst ht; exact hP) | (rw [ht]; exact hP) | (show va_P (dC, dI) vwCl (wR 157 ad (EX cs ad) xi121) t.heap; rw [ht]; exact hP)⟩, hS.F ht⟩) hS.2.2 dX5_arrive_182
            · have c_120 : y119.toInt ≤ vs.toInt := il_nlt c_120
              refine lv_iload_n hx hb dX5_arrive_147 rfl (lv_at hl 2 rfl) ?_
              refine lv_aload_n hx hb dX5_arrive_148 rfl (lv_at hl 1 rfl) ?_
              refine va_get (D := (dC, dI)) (ci := 5) (v := .ref (ad 56)) (C := RX5) (T := TX5) (N := 15) hx hb hts inG5 hown hK hP 32 (gX_32 cs ad nu107) rfl 4 (by decide) (hts _ (List.mem_cons_of_mem _ mw_2_51)) (fun _ h9 => h9) rfl dX5_arrive_149 ?_
              refine va_get (D := (dC, dI)) (ci := 0) (v := .int (nu107 56 1)) (C := RX0) (T := TX0) (N := 4) hx hb hts inG0 hown hK hP 56 (gX_56 cs ad nu107) rfl 1 (by decide) (hts _ (List.mem_cons_of_mem _ mw_2_29)) (fun _ h9 => h9) rfl dX5_arrive_152 ?_
              refine lq_i y119 ey119.symm ?_
              refine lv_icmp_ne (tgt := 182) hx hb dX5_arrive_155 (by decide) (fun c_122 => ?_) (fun c_122 => ?_)
              · have c_122 : ¬ vs.toInt = y119.toInt := il_ne c_122
                exact W.vret hx hb hr (fun t ht hW => ⟨⟨nu107, rfl, ⟨ok, trivial, trivial⟩, by first | (subst ht; exact hP) | (rw [ht]; exact hP) | (show va_P (dC, dI) vwCl (wR 157 ad (EX cs ad) nu107) t.heap; rw [ht]; exact hP)⟩, hS.F ht⟩) hS.2.2 dX5_arrive_182
              · have c_122 : vs.toInt = y119.toInt := il_eq c_122
                refine lv_iload_n hx hb dX5_arrive_158 rfl (lv_at hl 4 rfl) ?_
                refine lv_aload_n hx hb dX5_arrive_159 rfl (lv_at hl 1 rfl) ?_
                refine va_get (D := (dC, dI)) (ci := 5) (v := .ref (ad 56)) (C := RX5) (T := TX5) (N := 15) hx hb hts inG5 hown hK hP 32 (gX_32 cs ad nu107) rfl 4 (by decide) (hts _ (List.mem_cons_of_mem _ mw_2_51)) (fun _ h9 => h9) rfl dX5_arrive_160 ?_
                refine va_get (D := (dC, dI)) (ci := 0) (v := .int (nu107 56 2)) (C := RX0) (T := TX0) (N := 4) hx hb hts inG0 hown hK hP 56 (gX_56 cs ad nu107) rfl 2 (by decide) (hts _ (List.mem_cons_of_mem _ mw_2_32)) (fun _ h9 => h9) rfl dX5_arrive_163 ?_
                refine lv_topi (fun y123 ey123 => ?_)
                have by123 : y123.toInt = (nu107 56 2).toInt := congrArg Int32.toInt ey123
                refine lv_icmp_ge (tgt := 182) hx hb dX5_arrive_166 (by decide) (fun c_124 => ?_) (fun c_124 => ?_)
                · have c_124 : y123.toInt ≤ vp.toInt := il_le c_124
                  exact W.vret hx hb hr (fun t ht hW => ⟨⟨nu107, rfl, ⟨ok, trivial, trivial⟩, by first | (subst ht; exact hP) | (rw [ht]; exact hP) | (show va_P (dC, dI) vwCl (wR 157 ad (EX cs ad) nu107) t.heap; rw [ht]; exact hP)⟩, hS.F ht⟩) hS.2.2 dX5_arrive_182
                · have c_124 : vp.toInt < y123.toInt := il_nle c_124
                  refine lv_aload_n hx hb dX5_arrive_169 rfl (lv_at hl 1 rfl) ?_
                  refine va_get (D := (dC, dI)) (ci := 5) (v := .ref (ad 56)) (C := RX5) (T := TX5) (N := 15) hx hb hts inG5 hown hK hP 32 (gX_32 cs ad nu107) rfl 4 (by decide) (hts _ (List.mem_cons_of_mem _ mw_2_51)) (fun _ h9 => h9) rfl dX5_arrive_170 ?_
                  refine lv_aload_n hx hb dX5_arrive_173 rfl (lv_at hl 1 rfl) ?_
                  refine va_get (D := (dC, dI)) (ci := 5) (v := .ref (ad 54)) (C := RX5) (T := TX5) (N := 15) hx hb hts inG5 hown hK hP 32 (gX_32 cs ad nu107) rfl 2 (by decide) (hts _ (List.mem_cons_of_mem _ mw_2_48)) (fun _ h9 => h9) rfl dX5_arrive_174 ?_
                  refine lv_iload_n hx hb dX5_arrive_177 rfl (lv_at hl 2 rfl) ?_
                  refine lv_iload_n hx hb dX5_arrive_178 rfl (lv_at hl 4 rfl) ?_
                  have hFc := fr_all (wR_D nu107 hD) hS hA
                  refine va_callv (va_runV (As := [.ref (ad 54), .int vs, .int vp]) (rest := []) ⟨hx, hb, hml, hown, hts⟩ (sx_take56 l dC dI cs ad nu107 ok H hP ((wR_D nu107 hD).weaken (fun _ _ _ _ => trivial)) vs vp (by omega)) (cwV 3 hts (wU_V mw_4_43 mw_4_40 mw_4_41 mw_4_42 mw_1_9) rfl rfl rfl (by decide +kernel) ⟨Nat.le_of_ble_eq_true rfl, Nat.le_of_ble_eq_true rfl⟩) ⟨sz_c, va_recv hK hP (ci := 0) (q0 := 56) rfl (gX_56 cs ad nu107), sz_m hK hz⟩ rfl rfl hl.1 rfl (lv_room (Nat.le_of_ble_eq_true rfl)) dX5_arrive_179 ⟨Nat.zero_le _, Nat.zero_le _⟩) hS (fun q _ h => hFc q h) hFc (fun xi125 t H125 locs ht hvm hw125 hB hz1 hk1 hS => ?_)
                  have hP : va_P (dC, dI) vwCl (wR 157 ad (EX cs ad) xi125) H125 := by rw [← ht]; exact hB
                  obtain ⟨ok, hw125, _⟩ := hw125
                  exact W.vret hx hb hr (fun t ht hW => ⟨⟨xi125, rfl, ⟨ok, trivial, trivial⟩, by first | (subst ht; exact hP) | (rw [ht]; exact hP) | (show va_P (dC, dI) vwCl (wR 157 ad (EX cs ad) xi125) t.heap; rw [ht]; exact hP)⟩, hS.F ht⟩) hS.2.2 dX5_arrive_182
        · have c_91 : y90.toInt < r82.toInt := il_nle c_91
          exact W.vret hx hb hr (fun t ht hW => ⟨⟨nu85, rfl, ⟨ok, trivial, trivial⟩, by first | (subst ht; exact hP) | (rw [ht]; exact hP) | (show va_P (dC, dI) vwCl (wR 157 ad (EX cs ad) nu85) t.heap; rw [ht]; exact hP)⟩, hS.F ht⟩) hS.2.2 dX5_arrive_96
      · have c_81 : vp.toInt = y43.toInt := il_eq c_81
        refine lv_iload_n hx hb dX5_arrive_42 rfl (lv_at hl 1 rfl) ?_
        refine lv_aload_n hx hb dX5_arrive_43 rfl (lv_at hl 0 rfl) ?_
        refine va_get (D := (dC, dI)) (ci := 5) (v := .ref (ad 55)) (C := RX5) (T := TX5) (N := 15) hx hb hts inG5 hown hK hP 32 (gX_32 cs ad nu3) rfl 3 (by decide) (hts _ (List.mem_cons_of_mem _ mw_2_49)) (fun _ h9 => h9) rfl dX5_arrive_44 ?_
        refine va_get (D := (dC, dI)) (ci := 0) (v := .int (nu3 55 1)) (C := RX0) (T := TX0) (N := 4) hx hb hts inG0 hown hK hP 55 (gX_55 cs ad nu3) rfl 1 (by decide) (hts _ (List.mem_cons_of_mem _ mw_2_29)) (fun _ h9 => h9) rfl dX5_arrive_47 ?_
        refine lv_topi (fun y126 ey126 => ?_)
        have by126 : y126.toInt = (nu3 55 1).toInt := congrArg Int32.toInt ey126
        have gy126 : 0 ≤ y126.toInt ∧ y126.toInt ≤ 6 := by rw [ey126]; exact rX_55_1 ok
        refine lv_icmp_ge (tgt := 66) hx hb dX5_arrive_50 (by decide) (fun c_127 => ?_) (fun c_127 => ?_)
        · have c_127 : y126.toInt ≤ vs.toInt := il_le c_127
          refine lv_aload_n hx hb dX5_arrive_66 rfl (lv_at hl 0 rfl) ?_
          refine lv_iload_n hx hb dX5_arrive_67 rfl (lv_at hl 1 rfl) ?_
          refine lv_iload_n hx hb dX5_arrive_68 rfl (lv_at hl 3 rfl) ?_
          refine cr_i (va_runV (As := [.int vs, .int vp]) (rest := []) ⟨hx, hb, hml, hown, hts⟩ (sx_needFor l dC dI cs ad nu3 ok H hP vs vp) (cwV 2 hts (wU_V mw_4_48 mw_4_45 mw_4_47 mw_0_16 mw_1_8) rfl rfl rfl (by decide +kernel) ⟨Nat.le_of_ble_eq_true rfl, Nat.le_of_ble_eq_true rfl⟩) ⟨sz_c, va_recv hK hP (ci := 5) (q0 := 32) rfl (gX_32 cs ad nu3), sz_m hK hz⟩ rfl rfl hl.1 rfl (lv_room (Nat.le_of_ble_eq_true rfl)) dX5_arrive_69 ⟨Nat.zero_le _, Nat.zero_le _⟩) hS (fun r128 hw128 locs hS => ?_)
          refine lv_istore (lv' := [(4, .int r128), (0, .ref (ad 32)), (1, .int vs), (2, .int vu), (3, .int vp)]) hx hb dX5_arrive_72 hl (by decide) rfl (fun ls hl => ?_)
          refine lv_aload_n hx hb dX5_arrive_74 rfl (lv_at hl 1 rfl) ?_
          refine lv_aload_n hx hb dX5_arrive_75 rfl (lv_at hl 1 rfl) ?_
          refine va_get (D := (dC, dI)) (ci := 5) (v := .int (nu3 32 14)) (C := RX5) (T := TX5) (N := 15) hx hb hts inG5 hown hK hP 32 (gX_32 cs ad nu3) rfl 14 (by decide) (hts _ (List.mem_cons_of_mem _ mw_2_65)) (fun _ h9 => h9) rfl dX5_arrive_76 ?_
          refine lv_topi (fun y129 ey129 => ?_)
          have by129 : y129.toInt = (nu3 32 14).toInt := congrArg Int32.toInt ey129
          refine lv_iload hx hb dX5_arrive_79 (lv_at hl 0 rfl) ?_
          refine va_mmin hx hb (hml.trans hl.1.symm) hown (hts _ (List.mem_cons_of_mem _ mw_4_49)) (hts _ (List.mem_cons_of_mem _ mw_4_50)) (hts _ (List.mem_cons_of_mem _ mw_1_17)) (hts _ (List.mem_cons_of_mem _ mw_4_51)) (Nat.le_of_ble_eq_true rfl) (Nat.le_of_ble_eq_true rfl) (Nat.zero_le _) (Nat.zero_le _) dX5_arrive_81 ?_
          refine lv_topi (fun t130 et130 => ?_)
          refine va_put (D := (dC, dI)) (ci := 5) (v := .int t130) (ty := .int) (C := RX5) (T := TX5) (N := 15) hx hb hts inG5 tyX5 tyX5_ok nmX5 hown hK hP (wR_D nu3 hD) hS 32 (gX_32 cs ad nu3) rfl 14 (by decide) (hts _ (List.mem_cons_of_mem _ mw_2_65)) (fun _ h9 => h9) rfl (by decide +kernel) rfl rfl (Nat.le_of_ble_eq_true rfl) dX5_arrive_84 (fun H locs hP _ hS => ?_)
          simp only [List.set_cons_succ, List.set_cons_zero] at hP
          refine wr_gen (upd (nu3 32) 14 t130) hP ((hX_32_14 cs ad _ _)) (fun nu131 hn131 hP => ?_)
          have ok := tX_32_14 ok hn131
          have ez132 : t2 = nu131 32 11 := ez4.trans (up_f hn131 (by decide)).symm
          have ez133 : y5 = nu131 55 3 := ey5.trans (congrFun (up_k hn131 (by decide)) 3).symm
          have ez134 : y43 = nu131 55 2 := ey43.trans (congrFun (up_k hn131 (by decide)) 2).symm
          have ez135 : y126 = nu131 55 1 := ey126.trans (congrFun (up_k hn131 (by decide)) 1).symm
          have ez136 : t130 = nu131 32 14 := up_v hn131
          refine lv_iload hx hb dX5_arrive_87 (lv_at hl 0 rfl) ?_
          refine lv_aload_n hx hb dX5_arrive_89 rfl (lv_at hl 1 rfl) ?_
          refine va_get (D := (dC, dI)) (ci := 5) (v := .int (nu131 32 8)) (C := RX5) (T := TX5) (N := 15) hx hb hts inG5 hown hK hP 32 (gX_32 cs ad nu131) rfl 8 (by decide) (hts _ (List.mem_cons_of_mem _ mw_2_56)) (fun _ h9 => h9) rfl dX5_arrive_90 ?_
          refine lv_topi (fun y137 ey137 => ?_)
          have by137 : y137.toInt = (nu131 32 8).toInt := congrArg Int32.toInt ey137
          refine lv_icmp_le (tgt := 97) hx hb dX5_arrive_93 (by decide) (fun c_138 => ?_) (fun c_138 => ?_)
          · have c_138 : r128.toInt ≤ y137.toInt := il_le c_138
            refine lv_aload_n hx hb dX5_arrive_97 rfl (lv_at hl 1 rfl) ?_
            refine lv_dup hx hb dX5_arrive_98 rfl ?_
            refine va_get (D := (dC, dI)) (ci := 5) (v := .int (nu131 32 12)) (C := RX5) (T := TX5) (N := 15) hx hb hts inG5 hown hK hP 32 (gX_32 cs ad nu131) rfl 12 (by decide) (hts _ (List.mem_cons_of_mem _ mw_2_61)) (fun _ h9 => h9) rfl dX5_arrive_99 ?_
            refine lv_topi (fun y139 ey139 => ?_)
            have by139 : y139.toInt = (nu131 32 12).toInt := congrArg Int32.toInt ey139
            refine lv_iconst (v := 1) hx hb dX5_arrive_102 (by decide) ?_
            refine lv_iadd hx hb dX5_arrive_103 ?_
            refine lv_topi (fun t140 et140 => ?_)
            refine va_put (D := (dC, dI)) (ci := 5) (v := .int t140) (ty := .int) (C := RX5) (T := TX5) (N := 15) hx hb hts inG5 tyX5 tyX5_ok nmX5 hown hK hP (wR_D nu131 hD) hS 32 (gX_32 cs ad nu131) rfl 12 (by decide) (hts _ (List.mem_cons_of_mem _ mw_2_61)) (fun _ h9 => h9) rfl (by decide +kernel) rfl rfl (Nat.le_of_ble_eq_true rfl) dX5_arrive_104 (fun H locs hP _ hS => ?_)
            simp only [List.set_cons_succ, List.set_cons_zero] at hP
            refine wr_gen (upd (nu131 32) 12 t140) hP ((hX_32_12 cs ad _ _)) (fun nu141 hn141 hP => ?_)
            have ok := tX_32_12 ok hn141
            have ez142 : t2 = nu141 32 11 := ez132.trans (up_f hn141 (by decide)).symm
            have ez143 : y5 = nu141 55 3 := ez133.trans (congrFun (up_k hn141 (by decide)) 3).symm
            have ez144 : y43 = nu141 55 2 := ez134.trans (congrFun (up_k hn141 (by decide)) 2).symm
            have ez145 : y126 = nu141 55 1 := ez135.trans (congrFun (up_k hn141 (by decide)) 1).symm
            have ez146 : t130 = nu141 32 14 := ez136.trans (up_f hn141 (by decide)).symm
            have ez147 : y137 = nu141 32 8 := ey137.trans (up_f hn141 (by decide)).symm
            have ez148 : t140 = nu141 32 12 := up_v hn141
            refine lv_aload_n hx hb dX5_arrive_107 rfl (lv_at hl 1 rfl) ?_
            refine lv_dup hx hb dX5_arrive_108 rfl ?_
            refine va_get (D := (dC, dI)) (ci := 5) (v := .int (nu141 32 13)) (C := RX5) (T := TX5) (N := 15) hx hb hts inG5 hown hK hP 32 (gX_32 cs ad nu141) rfl 13 (by decide) (hts _ (List.mem_cons_of_mem _ mw_2_63)) (fun _ h9 => h9) rfl dX5_arrive_109 ?_
            refine lv_topi (fun y149 ey149 => ?_)
            have by149 : y149.toInt = (nu141 32 13).toInt := congrArg Int32.toInt ey149
            refine lv_iload_n hx hb dX5_arrive_112 rfl (lv_at hl 3 rfl) ?_
            refine lv_iconst (v := 1) hx hb dX5_arrive_113 (by decide) ?_
            refine lv_aload_n hx hb dX5_arrive_114 rfl (lv_at hl 1 rfl) ?_
            refine va_get (D := (dC, dI)) (ci := 5) (v := .int (nu141 32 5)) (C := RX5) (T := TX5) (N := 15) hx hb hts inG5 hown hK hP 32 (gX_32 cs ad nu141) rfl 5 (by decide) (hts _ (List.mem_cons_of_mem _ mw_2_53)) (fun _ h9 => h9) rfl dX5_arrive_115 ?_
            refine lv_topi (fun y150 ey150 => ?_)
            have by150 : y150.toInt = (nu141 32 5).toInt := congrArg Int32.toInt ey150
            have gy150 : 0 ≤ y150.toInt ∧ y150.toInt ≤ 6 := by rw [ey150]; exact rX_32_5 ok
            refine lv_ishl hx hb dX5_arrive_118 ?_
            refine lv_topi (fun t151 et151 => ?_)
            refine lv_iconst (v := (-1)) hx hb dX5_arrive_119 (by decide) ?_
            refine lv_ixor hx hb dX5_arrive_120 ?_
            refine lv_topi (fun t152 et152 => ?_)
            refine lv_iand hx hb dX5_arrive_121 ?_
            refine lv_topi (fun t153 et153 => ?_)
            refine lv_iand hx hb dX5_arrive_122 ?_
            refine lv_topi (fun t154 et154 => ?_)
            refine va_put (D := (dC, dI)) (ci := 5) (v := .int t154) (ty := .int) (C := RX5) (T := TX5) (N := 15) hx hb hts inG5 tyX5 tyX5_ok nmX5 hown hK hP (wR_D nu141 hD) hS 32 (gX_32 cs ad nu141) rfl 13 (by decide) (hts _ (List.mem_cons_of_mem _ mw_2_63)) (fun _ h9 => h9) rfl (by decide +kernel) rfl rfl (Nat.le_of_ble_eq_true rfl) dX5_arrive_123 (fun H locs hP _ hS => ?_)
            simp only [List.set_cons_succ, List.set_cons_zero] at hP
            refine wr_gen (upd (nu141 32) 13 t154) hP ((hX_32_13 cs ad _ _)) (fun nu155 hn155 hP => ?_)
            have ok := tX_32_13 ok hn155
            have ez156 : t2 = nu155 32 11 := ez142.trans (up_f hn155 (by decide)).symm
            have ez157 : y5 = nu155 55 3 := ez143.trans (congrFun (up_k hn155 (by decide)) 3).symm
            have ez158 : y43 = nu155 55 2 := ez144.trans (congrFun (up_k hn155 (by decide)) 2).symm
            have ez159 : y126 = nu155 55 1 := ez145.trans (congrFun (up_k hn155 (by decide)) 1).symm
            have ez160 : t130 = nu155 32 14 := ez146.trans (up_f hn155 (by decide)).symm
            have ez161 : y137 = nu155 32 8 := ez147.trans (up_f hn155 (by decide)).symm
            have ez162 : t140 = nu155 32 12 := ez148.trans (up_f hn155 (by decide)).symm
            have ez163 : y150 = nu155 32 5 := ey150.trans (up_f hn155 (by decide)).symm
            have ez164 : t154 = nu155 32 13 := up_v hn155
            refine lv_aload_n hx hb dX5_arrive_126 rfl (lv_at hl 1 rfl) ?_
            refine va_get (D := (dC, dI)) (ci := 5) (v := .ref (ad 56)) (C := RX5) (T := TX5) (N := 15) hx hb hts inG5 hown hK hP 32 (gX_32 cs ad nu155) rfl 4 (by decide) (hts _ (List.mem_cons_of_mem _ mw_2_51)) (fun _ h9 => h9) rfl dX5_arrive_127 ?_
            refine va_get (D := (dC, dI)) (ci := 0) (v := .int (nu155 56 3)) (C := RX0) (T := TX0) (N := 4) hx hb hts inG0 hown hK hP 56 (gX_56 cs ad nu155) rfl 3 (by decide) (hts _ (List.mem_cons_of_mem _ mw_2_35)) (fun _ h9 => h9) rfl dX5_arrive_130 ?_
            refine lv_topi (fun y165 ey165 => ?_)
            have by165 : y165.toInt = (nu155 56 3).toInt := congrArg Int32.toInt ey165
            have gy165 : 0 ≤ y165.toInt ∧ y165.toInt ≤ 1 := by rw [ey165]; exact rX_56_3 ok
            refine lv_if_eq (tgt := 169) hx hb dX5_arrive_133 (by decide) (fun c_166 => ?_) (fun c_166 => ?_)
            · have c_166 : y165.toInt = 0 := il_eq c_166
              refine lv_aload_n hx hb dX5_arrive_169 rfl (lv_at hl 1 rfl) ?_
              refine va_get (D := (dC, dI)) (ci := 5) (v := .ref (ad 56)) (C := RX5) (T := TX5) (N := 15) hx hb hts inG5 hown hK hP 32 (gX_32 cs ad nu155) rfl 4 (by decide) (hts _ (List.mem_cons_of_mem _ mw_2_51)) (fun _ h9 => h9) rfl dX5_arrive_170 ?_
              refine lv_aload_n hx hb dX5_arrive_173 rfl (lv_at hl 1 rfl) ?_
              refine va_get (D := (dC, dI)) (ci := 5) (v := .ref (ad 54)) (C := RX5) (T := TX5) (N := 15) hx hb hts inG5 hown hK hP 32 (gX_32 cs ad nu155) rfl 2 (by decide) (hts _ (List.mem_cons_of_mem _ mw_2_48)) (fun _ h9 => h9) rfl dX5_arrive_174 ?_
              refine lv_iload_n hx hb dX5_arrive_177 rfl (lv_at hl 2 rfl) ?_
              refine lv_iload_n hx hb dX5_arrive_178 rfl (lv_at hl 4 rfl) ?_
              have hFc := fr_all (wR_D nu155 hD) hS hA
              refine va_callv (va_runV (As := [.ref (ad 54), .int vs, .int vp]) (rest := []) ⟨hx, hb, hml, hown, hts⟩ (sx_take56 l dC dI cs ad nu155 ok H hP ((wR_D nu155 hD).weaken (fun _ _ _ _ => trivial)) vs vp (by omega)) (cwV 3 hts (wU_V mw_4_43 mw_4_40 mw_4_41 mw_4_42 mw_1_9) rfl rfl rfl (by decide +kernel) ⟨Nat.le_of_ble_eq_true rfl, Nat.le_of_ble_eq_true rfl⟩) ⟨sz_c, va_recv hK hP (ci := 0) (q0 := 56) rfl (gX_56 cs ad nu155), sz_m hK hz⟩ rfl rfl hl.1 rfl (lv_room (Nat.le_of_ble_eq_true rfl)) dX5_arrive_179 ⟨Nat.zero_le _, Nat.zero_le _⟩) hS (fun q _ h => hFc q h) hFc (fun xi167 t H167 locs ht hvm hw167 hB hz1 hk1 hS => ?_)
              have hP : va_P (dC, dI) vwCl (wR 157 ad (EX cs ad) xi167) H167 := by rw [← ht]; exact hB
              obtain ⟨ok, hw167, _⟩ := hw167
              exact W.vret hx hb hr (fun t ht hW => ⟨⟨xi167, rfl, ⟨ok, trivial, trivial⟩, by first | (subst ht; exact hP) | (rw [ht]; exact hP) | (show va_P (dC, dI) vwCl (wR 157 ad (EX cs ad) xi167) t.heap; rw [ht]; exact hP)⟩, hS.F ht⟩) hS.2.2 dX5_arrive_182
            · have c_166 : ¬ y165.toInt = 0 := il_ne c_166
              refine lv_iload_n hx hb dX5_arrive_136 rfl (lv_at hl 2 rfl) ?_
              refine lv_aload_n hx hb dX5_arrive_137 rfl (lv_at hl 1 rfl) ?_
              refine va_get (D := (dC, dI)) (ci := 5) (v := .ref (ad 56)) (C := RX5) (T := TX5) (N := 15) hx hb hts inG5 hown hK hP 32 (gX_32 cs ad nu155) rfl 4 (by decide) (hts _ (List.mem_cons_of_mem _ mw_2_51)) (fun _ h9 => h9) rfl dX5_arrive_138 ?_
              refine va_get (D := (dC, dI)) (ci := 0) (v := .int (nu155 56 1)) (C := RX0) (T := TX0) (N := 4) hx hb hts inG0 hown hK hP 56 (gX_56 cs ad nu155) rfl 1 (by decide) (hts _ (List.mem_cons_of_mem _ mw_2_29)) (fun _ h9 => h9) rfl dX5_arrive_141 ?_
              refine lv_topi (fun y168 ey168 => ?_)
              have by168 : y168.toInt = (nu155 56 1).toInt := congrArg Int32.toInt ey168
              have gy168 : 0 ≤ y168.toInt ∧ y168.toInt ≤ 6 := by rw [ey168]; exact rX_56_1 ok
              refine lv_icmp_lt (tgt := 169) hx hb dX5_arrive_144 (by decide) (fun c_169 => ?_) (fun c_169 => ?_)
              · have c_169 : vs.toInt < y168.toInt := il_lt c_169
                refine lv_aload_n hx hb dX5_arrive_169 rfl (lv_at hl 1 rfl) ?_
                refine va_get (D := (dC, dI)) (ci := 5) (v := .ref (ad 56)) (C := RX5) (T := TX5) (N := 15) hx hb hts inG5 hown hK hP 32 (gX_32 cs ad nu155) rfl 4 (by decide) (hts _ (List.mem_cons_of_mem _ mw_2_51)) (fun _ h9 => h9) rfl dX5_arrive_170 ?_
                refine lv_aload_n hx hb dX5_arrive_173 rfl (lv_at hl 1 rfl) ?_
                refine va_get (D := (dC, dI)) (ci := 5) (v := .ref (ad 54)) (C := RX5) (T := TX5) (N := 15) hx hb hts inG5 hown hK hP 32 (gX_32 cs ad nu155) rfl 2 (by decide) (hts _ (List.mem_cons_of_mem _ mw_2_48)) (fun _ h9 => h9) rfl dX5_arrive_174 ?_
                refine lv_iload_n hx hb dX5_arrive_177 rfl (lv_at hl 2 rfl) ?_
                refine lv_iload_n hx hb dX5_arrive_178 rfl (lv_at hl 4 rfl) ?_
                have hFc := fr_all (wR_D nu155 hD) hS hA
                refine va_callv (va_runV (As := [.ref (ad 54), .int vs, .int vp]) (rest := []) ⟨hx, hb, hml, hown, hts⟩ (sx_take56 l dC dI cs ad nu155 ok H hP ((wR_D nu155 hD).weaken (fun _ _ _ _ => trivial)) vs vp (by omega)) (cwV 3 hts (wU_V mw_4_43 mw_4_40 mw_4_41 mw_4_42 mw_1_9) rfl rfl rfl (by decide +kernel) ⟨Nat.le_of_ble_eq_true rfl, Nat.le_of_ble_eq_true rfl⟩) ⟨sz_c, va_recv hK hP (ci := 0) (q0 := 56) rfl (gX_56 cs ad nu155), sz_m hK hz⟩ rfl rfl hl.1 rfl (lv_room (Nat.le_of_ble_eq_true rfl)) dX5_arrive_179 ⟨Nat.zero_le _, Nat.zero_le _⟩) hS (fun q _ h => hFc q h) hFc (fun xi170 t H170 locs ht hvm hw170 hB hz1 hk1 hS => ?_)
                have hP : va_P (dC, dI) vwCl (wR 157 ad (EX cs ad) xi170) H170 := by rw [← ht]; exact hB
                obtain ⟨ok, hw170, _⟩ := hw170
                exact W.vret hx hb hr (fun t ht hW => ⟨⟨xi170, rfl, ⟨ok, trivial, trivial⟩, by first | (subst ht; exact hP) | (rw [ht]; exact hP) | (show va_P (dC, dI) vwCl (wR 157 ad (EX cs ad) xi170) t.heap; rw [ht]; exact hP)⟩, hS.F ht⟩) hS.2.2 dX5_arrive_182
              · have c_169 : y168.toInt ≤ vs.toInt := il_nlt c_169
                refine lv_iload_n hx hb dX5_arrive_147 rfl (lv_at hl 2 rfl) ?_
                refine lv_aload_n hx hb dX5_arrive_148 rfl (lv_at hl 1 rfl) ?_
                refine va_get (D := (dC, dI)) (ci := 5) (v := .ref (ad 56)) (C := RX5) (T := TX5) (N := 15) hx hb hts inG5 hown hK hP 32 (gX_32 cs ad nu155) rfl 4 (by decide) (hts _ (List.mem_cons_of_mem _ mw_2_51)) (fun _ h9 => h9) rfl dX5_arrive_149 ?_
                refine va_get (D := (dC, dI)) (ci := 0) (v := .int (nu155 56 1)) (C := RX0) (T := TX0) (N := 4) hx hb hts inG0 hown hK hP 56 (gX_56 cs ad nu155) rfl 1 (by decide) (hts _ (List.mem_cons_of_mem _ mw_2_29)) (fun _ h9 => h9) rfl dX5_arrive_152 ?_
                refine lq_i y168 ey168.symm ?_
                refine lv_icmp_ne (tgt := 182) hx hb dX5_arrive_155 (by decide) (fun c_171 => ?_) (fun c_171 => ?_)
                · have c_171 : ¬ vs.toInt = y168.toInt := il_ne c_171
                  exact W.vret hx hb hr (fun t ht hW => ⟨⟨nu155, rfl, ⟨ok, trivial, trivial⟩, by first | (subst ht; exact hP) | (rw [ht]; exact hP) | (show va_P (dC, dI) vwCl (wR 157 ad (EX cs ad) nu155) t.heap; rw [ht]; exact hP)⟩, hS.F ht⟩) hS.2.2 dX5_arrive_182
                · have c_171 : vs.toInt = y168.toInt := il_eq c_171
                  refine lv_iload_n hx hb dX5_arrive_158 rfl (lv_at hl 4 rfl) ?_
                  refine lv_aload_n hx hb dX5_arrive_159 rfl (lv_at hl 1 rfl) ?_
                  refine va_get (D := (dC, dI)) (ci := 5) (v := .ref (ad 56)) (C := RX5) (T := TX5) (N := 15) hx hb hts inG5 hown hK hP 32 (gX_32 cs ad nu155) rfl 4 (by decide) (hts _ (List.mem_cons_of_mem _ mw_2_51)) (fun _ h9 => h9) rfl dX5_arrive_160 ?_
                  refine va_get (D := (dC, dI)) (ci := 0) (v := .int (nu155 56 2)) (C := RX0) (T := TX0) (N := 4) hx hb hts inG0 hown hK hP 56 (gX_56 cs ad nu155) rfl 2 (by decide) (hts _ (List.mem_cons_of_mem _ mw_2_32)) (fun _ h9 => h9) rfl dX5_arrive_163 ?_
                  refine lv_topi (fun y172 ey172 => ?_)
                  have by172 : y172.toInt = (nu155 56 2).toInt := congrArg Int32.toInt ey172
                  refine lv_icmp_ge (tgt := 182) hx hb dX5_arrive_166 (by decide) (fun c_173 => ?_) (fun c_173 => ?_)
                  · have c_173 : y172.toInt ≤ vp.toInt := il_le c_173
                    exact W.vret hx hb hr (fun t ht hW => ⟨⟨nu155, rfl, ⟨ok, trivial, trivial⟩, by first | (subst ht; exact hP) | (rw [ht]; exact hP) | (show va_P (dC, dI) vwCl (wR 157 ad (EX cs ad) nu155) t.heap; rw [ht]; exact hP)⟩, hS.F ht⟩) hS.2.2 dX5_arrive_182
                  · have c_173 : vp.toInt < y172.toInt := il_nle c_173
                    refine lv_aload_n hx hb dX5_arrive_169 rfl (lv_at hl 1 rfl) ?_
                    refine va_get (D := (dC, dI)) (ci := 5) (v := .ref (ad 56)) (C := RX5) (T := TX5) (N := 15) hx hb hts inG5 hown hK hP 32 (gX_32 cs ad nu155) rfl 4 (by decide) (hts _ (List.mem_cons_of_mem _ mw_2_51)) (fun _ h9 => h9) rfl dX5_arrive_170 ?_
                    refine lv_aload_n hx hb dX5_arrive_173 rfl (lv_at hl 1 rfl) ?_
                    refine va_get (D := (dC, dI)) (ci := 5) (v := .ref (ad 54)) (C := RX5) (T := TX5) (N := 15) hx hb hts inG5 hown hK hP 32 (gX_32 cs ad nu155) rfl 2 (by decide) (hts _ (List.mem_cons_of_mem _ mw_2_48)) (fun _ h9 => h9) rfl dX5_arrive_174 ?_
                    refine lv_iload_n hx hb dX5_arrive_177 rfl (lv_at hl 2 rfl) ?_
                    refine lv_iload_n hx hb dX5_arrive_178 rfl (lv_at hl 4 rfl) ?_
                    have hFc := fr_all (wR_D nu155 hD) hS hA
                    refine va_callv (va_runV (As := [.ref (ad 54), .int vs, .int vp]) (rest := []) ⟨hx, hb, hml, hown, hts⟩ (sx_take56 l dC dI cs ad nu155 ok H hP ((wR_D nu155 hD).weaken (fun _ _ _ _ => trivial)) vs vp (by omega)) (cwV 3 hts (wU_V mw_4_43 mw_4_40 mw_4_41 mw_4_42 mw_1_9) rfl rfl rfl (by decide +kernel) ⟨Nat.le_of_ble_eq_true rfl, Nat.le_of_ble_eq_true rfl⟩) ⟨sz_c, va_recv hK hP (ci := 0) (q0 := 56) rfl (gX_56 cs ad nu155), sz_m hK hz⟩ rfl rfl hl.1 rfl (lv_room (Nat.le_of_ble_eq_true rfl)) dX5_arrive_179 ⟨Nat.zero_le _, Nat.zero_le _⟩) hS (fun q _ h => hFc q h) hFc (fun xi174 t H174 locs ht hvm hw174 hB hz1 hk1 hS => ?_)
                    have hP : va_P (dC, dI) vwCl (wR 157 ad (EX cs ad) xi174) H174 := by rw [← ht]; exact hB
                    obtain ⟨ok, hw174, _⟩ := hw174
                    exact W.vret hx hb hr (fun t ht hW => ⟨⟨xi174, rfl, ⟨ok, trivial, trivial⟩, by first | (subst ht; exact hP) | (rw [ht]; exact hP) | (show va_P (dC, dI) vwCl (wR 157 ad (EX cs ad) xi174) t.heap; rw [ht]; exact hP)⟩, hS.F ht⟩) hS.2.2 dX5_arrive_182
          · have c_138 : y137.toInt < r128.toInt := il_nle c_138
            exact W.vret hx hb hr (fun t ht hW => ⟨⟨nu131, rfl, ⟨ok, trivial, trivial⟩, by first | (subst ht; exact hP) | (rw [ht]; exact hP) | (show va_P (dC, dI) vwCl (wR 157 ad (EX cs ad) nu131) t.heap; rw [ht]; exact hP)⟩, hS.F ht⟩) hS.2.2 dX5_arrive_96
        · have c_127 : vs.toInt < y126.toInt := il_nle c_127
          refine lv_aload_n hx hb dX5_arrive_53 rfl (lv_at hl 0 rfl) ?_
          refine va_get (D := (dC, dI)) (ci := 5) (v := .ref (ad 55)) (C := RX5) (T := TX5) (N := 15) hx hb hts inG5 hown hK hP 32 (gX_32 cs ad nu3) rfl 3 (by decide) (hts _ (List.mem_cons_of_mem _ mw_2_49)) (fun _ h9 => h9) rfl dX5_arrive_54 ?_
          refine lv_aload_n hx hb dX5_arrive_57 rfl (lv_at hl 0 rfl) ?_
          refine va_get (D := (dC, dI)) (ci := 5) (v := .ref (ad 54)) (C := RX5) (T := TX5) (N := 15) hx hb hts inG5 hown hK hP 32 (gX_32 cs ad nu3) rfl 2 (by decide) (hts _ (List.mem_cons_of_mem _ mw_2_48)) (fun _ h9 => h9) rfl dX5_arrive_58 ?_
          refine lv_iload_n hx hb dX5_arrive_61 rfl (lv_at hl 1 rfl) ?_
          refine lv_iload_n hx hb dX5_arrive_62 rfl (lv_at hl 3 rfl) ?_
          have hFc := fr_all (wR_D nu3 hD) hS hA
          refine va_callv (va_runV (As := [.ref (ad 54), .int vs, .int vp]) (rest := []) ⟨hx, hb, hml, hown, hts⟩ (sx_take55 l dC dI cs ad nu3 ok H hP ((wR_D nu3 hD).weaken (fun _ _ _ _ => trivial)) vs vp (by omega)) (cwV 3 hts (wU_V mw_4_43 mw_4_40 mw_4_41 mw_4_42 mw_1_9) rfl rfl rfl (by decide +kernel) ⟨Nat.le_of_ble_eq_true rfl, Nat.le_of_ble_eq_true rfl⟩) ⟨sz_c, va_recv hK hP (ci := 0) (q0 := 55) rfl (gX_55 cs ad nu3), sz_m hK hz⟩ rfl rfl hl.1 rfl (lv_room (Nat.le_of_ble_eq_true rfl)) dX5_arrive_63 ⟨Nat.zero_le _, Nat.zero_le _⟩) hS (fun q _ h => hFc q h) hFc (fun xi175 t H175 locs ht hvm hw175 hB hz1 hk1 hS => ?_)
          have hP : va_P (dC, dI) vwCl (wR 157 ad (EX cs ad) xi175) H175 := by rw [← ht]; exact hB
          obtain ⟨ok, hw175, _⟩ := hw175
          refine lv_aload_n hx hb dX5_arrive_66 rfl (lv_at hl 0 rfl) ?_
          refine lv_iload_n hx hb dX5_arrive_67 rfl (lv_at hl 1 rfl) ?_
          refine lv_iload_n hx hb dX5_arrive_68 rfl (lv_at hl 3 rfl) ?_
          refine cr_i (va_runV (As := [.int vs, .int vp]) (rest := []) ⟨hx, hb, hml, hown, hts⟩ (sx_needFor l dC dI cs ad xi175 ok H175 hP vs vp) (cwV 2 hts (wU_V mw_4_48 mw_4_45 mw_4_47 mw_0_16 mw_1_8) rfl rfl rfl (by decide +kernel) ⟨Nat.le_of_ble_eq_true rfl, Nat.le_of_ble_eq_true rfl⟩) ⟨sz_c, va_recv hK hP (ci := 5) (q0 := 32) rfl (gX_32 cs ad xi175), sz_m hK hz⟩ rfl rfl hl.1 rfl (lv_room (Nat.le_of_ble_eq_true rfl)) dX5_arrive_69 ⟨Nat.zero_le _, Nat.zero_le _⟩) hS (fun r176 hw176 locs hS => ?_)
          refine lv_istore (lv' := [(4, .int r176), (0, .ref (ad 32)), (1, .int vs), (2, .int vu), (3, .int vp)]) hx hb dX5_arrive_72 hl (by decide) rfl (fun ls hl => ?_)
          refine lv_aload_n hx hb dX5_arrive_74 rfl (lv_at hl 1 rfl) ?_
          refine lv_aload_n hx hb dX5_arrive_75 rfl (lv_at hl 1 rfl) ?_
          refine va_get (D := (dC, dI)) (ci := 5) (v := .int (xi175 32 14)) (C := RX5) (T := TX5) (N := 15) hx hb hts inG5 hown hK hP 32 (gX_32 cs ad xi175) rfl 14 (by decide) (hts _ (List.mem_cons_of_mem _ mw_2_65)) (fun _ h9 => h9) rfl dX5_arrive_76 ?_
          refine lv_topi (fun y177 ey177 => ?_)
          have by177 : y177.toInt = (xi175 32 14).toInt := congrArg Int32.toInt ey177
          refine lv_iload hx hb dX5_arrive_79 (lv_at hl 0 rfl) ?_
          refine va_mmin hx hb (hml.trans hl.1.symm) hown (hts _ (List.mem_cons_of_mem _ mw_4_49)) (hts _ (List.mem_cons_of_mem _ mw_4_50)) (hts _ (List.mem_cons_of_mem _ mw_1_17)) (hts _ (List.mem_cons_of_mem _ mw_4_51)) (Nat.le_of_ble_eq_true rfl) (Nat.le_of_ble_eq_true rfl) (Nat.zero_le _) (Nat.zero_le _) dX5_arrive_81 ?_
          refine lv_topi (fun t178 et178 => ?_)
          refine va_put (D := (dC, dI)) (ci := 5) (v := .int t178) (ty := .int) (C := RX5) (T := TX5) (N := 15) hx hb hts inG5 tyX5 tyX5_ok nmX5 hown hK hP (wR_D xi175 hD) hS 32 (gX_32 cs ad xi175) rfl 14 (by decide) (hts _ (List.mem_cons_of_mem _ mw_2_65)) (fun _ h9 => h9) rfl (by decide +kernel) rfl rfl (Nat.le_of_ble_eq_true rfl) dX5_arrive_84 (fun H locs hP _ hS => ?_)
          simp only [List.set_cons_succ, List.set_cons_zero] at hP
          refine wr_gen (upd (xi175 32) 14 t178) hP ((hX_32_14 cs ad _ _)) (fun nu179 hn179 hP => ?_)
          have ok := tX_32_14 ok hn179
          have ez180 : t178 = nu179 32 14 := up_v hn179
          refine lv_iload hx hb dX5_arrive_87 (lv_at hl 0 rfl) ?_
          refine lv_aload_n hx hb dX5_arrive_89 rfl (lv_at hl 1 rfl) ?_
          refine va_get (D := (dC, dI)) (ci := 5) (v := .int (nu179 32 8)) (C := RX5) (T := TX5) (N := 15) hx hb hts inG5 hown hK hP 32 (gX_32 cs ad nu179) rfl 8 (by decide) (hts _ (List.mem_cons_of_mem _ mw_2_56)) (fun _ h9 => h9) rfl dX5_arrive_90 ?_
          refine lv_topi (fun y181 ey181 => ?_)
          have by181 : y181.toInt = (nu179 32 8).toInt := congrArg Int32.toInt ey181
          refine lv_icmp_le (tgt := 97) hx hb dX5_arrive_93 (by decide) (fun c_182 => ?_) (fun c_182 => ?_)
          · have c_182 : r176.toInt ≤ y181.toInt := il_le c_182
            refine lv_aload_n hx hb dX5_arrive_97 rfl (lv_at hl 1 rfl) ?_
            refine lv_dup hx hb dX5_arrive_98 rfl ?_
            refine va_get (D := (dC, dI)) (ci := 5) (v := .int (nu179 32 12)) (C := RX5) (T := TX5) (N := 15) hx hb hts inG5 hown hK hP 32 (gX_32 cs ad nu179) rfl 12 (by decide) (hts _ (List.mem_cons_of_mem _ mw_2_61)) (fun _ h9 => h9) rfl dX5_arrive_99 ?_
            refine lv_topi (fun y183 ey183 => ?_)
            have by183 : y183.toInt = (nu179 32 12).toInt := congrArg Int32.toInt ey183
            refine lv_iconst (v := 1) hx hb dX5_arrive_102 (by decide) ?_
            refine lv_iadd hx hb dX5_arrive_103 ?_
            refine lv_topi (fun t184 et184 => ?_)
            refine va_put (D := (dC, dI)) (ci := 5) (v := .int t184) (ty := .int) (C := RX5) (T := TX5) (N := 15) hx hb hts inG5 tyX5 tyX5_ok nmX5 hown hK hP (wR_D nu179 hD) hS 32 (gX_32 cs ad nu179) rfl 12 (by decide) (hts _ (List.mem_cons_of_mem _ mw_2_61)) (fun _ h9 => h9) rfl (by decide +kernel) rfl rfl (Nat.le_of_ble_eq_true rfl) dX5_arrive_104 (fun H locs hP _ hS => ?_)
            simp only [List.set_cons_succ, List.set_cons_zero] at hP
            refine wr_gen (upd (nu179 32) 12 t184) hP ((hX_32_12 cs ad _ _)) (fun nu185 hn185 hP => ?_)
            have ok := tX_32_12 ok hn185
            have ez186 : t178 = nu185 32 14 := ez180.trans (up_f hn185 (by decide)).symm
            have ez187 : y181 = nu185 32 8 := ey181.trans (up_f hn185 (by decide)).symm
            have ez188 : t184 = nu185 32 12 := up_v hn185
            refine lv_aload_n hx hb dX5_arrive_107 rfl (lv_at hl 1 rfl) ?_
            refine lv_dup hx hb dX5_arrive_108 rfl ?_
            refine va_get (D := (dC, dI)) (ci := 5) (v := .int (nu185 32 13)) (C := RX5) (T := TX5) (N := 15) hx hb hts inG5 hown hK hP 32 (gX_32 cs ad nu185) rfl 13 (by decide) (hts _ (List.mem_cons_of_mem _ mw_2_63)) (fun _ h9 => h9) rfl dX5_arrive_109 ?_
            refine lv_topi (fun y189 ey189 => ?_)
            have by189 : y189.toInt = (nu185 32 13).toInt := congrArg Int32.toInt ey189
            refine lv_iload_n hx hb dX5_arrive_112 rfl (lv_at hl 3 rfl) ?_
            refine lv_iconst (v := 1) hx hb dX5_arrive_113 (by decide) ?_
            refine lv_aload_n hx hb dX5_arrive_114 rfl (lv_at hl 1 rfl) ?_
            refine va_get (D := (dC, dI)) (ci := 5) (v := .int (nu185 32 5)) (C := RX5) (T := TX5) (N := 15) hx hb hts inG5 hown hK hP 32 (gX_32 cs ad nu185) rfl 5 (by decide) (hts _ (List.mem_cons_of_mem _ mw_2_53)) (fun _ h9 => h9) rfl dX5_arrive_115 ?_
            refine lv_topi (fun y190 ey190 => ?_)
            have by190 : y190.toInt = (nu185 32 5).toInt := congrArg Int32.toInt ey190
            have gy190 : 0 ≤ y190.toInt ∧ y190.toInt ≤ 6 := by rw [ey190]; exact rX_32_5 ok
            refine lv_ishl hx hb dX5_arrive_118 ?_
            refine lv_topi (fun t191 et191 => ?_)
            refine lv_iconst (v := (-1)) hx hb dX5_arrive_119 (by decide) ?_
            refine lv_ixor hx hb dX5_arrive_120 ?_
            refine lv_topi (fun t192 et192 => ?_)
            refine lv_iand hx hb dX5_arrive_121 ?_
            refine lv_topi (fun t193 et193 => ?_)
            refine lv_iand hx hb dX5_arrive_122 ?_
            refine lv_topi (fun t194 et194 => ?_)
            refine va_put (D := (dC, dI)) (ci := 5) (v := .int t194) (ty := .int) (C := RX5) (T := TX5) (N := 15) hx hb hts inG5 tyX5 tyX5_ok nmX5 hown hK hP (wR_D nu185 hD) hS 32 (gX_32 cs ad nu185) rfl 13 (by decide) (hts _ (List.mem_cons_of_mem _ mw_2_63)) (fun _ h9 => h9) rfl (by decide +kernel) rfl rfl (Nat.le_of_ble_eq_true rfl) dX5_arrive_123 (fun H locs hP _ hS => ?_)
            simp only [List.set_cons_succ, List.set_cons_zero] at hP
            refine wr_gen (upd (nu185 32) 13 t194) hP ((hX_32_13 cs ad _ _)) (fun nu195 hn195 hP => ?_)
            have ok := tX_32_13 ok hn195
            have ez196 : t178 = nu195 32 14 := ez186.trans (up_f hn195 (by decide)).symm
            have ez197 : y181 = nu195 32 8 := ez187.trans (up_f hn195 (by decide)).symm
            have ez198 : t184 = nu195 32 12 := ez188.trans (up_f hn195 (by decide)).symm
            have ez199 : y190 = nu195 32 5 := ey190.trans (up_f hn195 (by decide)).symm
            have ez200 : t194 = nu195 32 13 := up_v hn195
            refine lv_aload_n hx hb dX5_arrive_126 rfl (lv_at hl 1 rfl) ?_
            refine va_get (D := (dC, dI)) (ci := 5) (v := .ref (ad 56)) (C := RX5) (T := TX5) (N := 15) hx hb hts inG5 hown hK hP 32 (gX_32 cs ad nu195) rfl 4 (by decide) (hts _ (List.mem_cons_of_mem _ mw_2_51)) (fun _ h9 => h9) rfl dX5_arrive_127 ?_
            refine va_get (D := (dC, dI)) (ci := 0) (v := .int (nu195 56 3)) (C := RX0) (T := TX0) (N := 4) hx hb hts inG0 hown hK hP 56 (gX_56 cs ad nu195) rfl 3 (by decide) (hts _ (List.mem_cons_of_mem _ mw_2_35)) (fun _ h9 => h9) rfl dX5_arrive_130 ?_
            refine lv_topi (fun y201 ey201 => ?_)
            have by201 : y201.toInt = (nu195 56 3).toInt := congrArg Int32.toInt ey201
            have gy201 : 0 ≤ y201.toInt ∧ y201.toInt ≤ 1 := by rw [ey201]; exact rX_56_3 ok
            refine lv_if_eq (tgt := 169) hx hb dX5_arrive_133 (by decide) (fun c_202 => ?_) (fun c_202 => ?_)
            · have c_202 : y201.toInt = 0 := il_eq c_202
              refine lv_aload_n hx hb dX5_arrive_169 rfl (lv_at hl 1 rfl) ?_
              refine va_get (D := (dC, dI)) (ci := 5) (v := .ref (ad 56)) (C := RX5) (T := TX5) (N := 15) hx hb hts inG5 hown hK hP 32 (gX_32 cs ad nu195) rfl 4 (by decide) (hts _ (List.mem_cons_of_mem _ mw_2_51)) (fun _ h9 => h9) rfl dX5_arrive_170 ?_
              refine lv_aload_n hx hb dX5_arrive_173 rfl (lv_at hl 1 rfl) ?_
              refine va_get (D := (dC, dI)) (ci := 5) (v := .ref (ad 54)) (C := RX5) (T := TX5) (N := 15) hx hb hts inG5 hown hK hP 32 (gX_32 cs ad nu195) rfl 2 (by decide) (hts _ (List.mem_cons_of_mem _ mw_2_48)) (fun _ h9 => h9) rfl dX5_arrive_174 ?_
              refine lv_iload_n hx hb dX5_arrive_177 rfl (lv_at hl 2 rfl) ?_
              refine lv_iload_n hx hb dX5_arrive_178 rfl (lv_at hl 4 rfl) ?_
              have hFc := fr_all (wR_D nu195 hD) hS hA
              refine va_callv (va_runV (As := [.ref (ad 54), .int vs, .int vp]) (rest := []) ⟨hx, hb, hml, hown, hts⟩ (sx_take56 l dC dI cs ad nu195 ok H hP ((wR_D nu195 hD).weaken (fun _ _ _ _ => trivial)) vs vp (by omega)) (cwV 3 hts (wU_V mw_4_43 mw_4_40 mw_4_41 mw_4_42 mw_1_9) rfl rfl rfl (by decide +kernel) ⟨Nat.le_of_ble_eq_true rfl, Nat.le_of_ble_eq_true rfl⟩) ⟨sz_c, va_recv hK hP (ci := 0) (q0 := 56) rfl (gX_56 cs ad nu195), sz_m hK hz⟩ rfl rfl hl.1 rfl (lv_room (Nat.le_of_ble_eq_true rfl)) dX5_arrive_179 ⟨Nat.zero_le _, Nat.zero_le _⟩) hS (fun q _ h => hFc q h) hFc (fun xi203 t H203 locs ht hvm hw203 hB hz1 hk1 hS => ?_)
              have hP : va_P (dC, dI) vwCl (wR 157 ad (EX cs ad) xi203) H203 := by rw [← ht]; exact hB
              obtain ⟨ok, hw203, _⟩ := hw203
              exact W.vret hx hb hr (fun t ht hW => ⟨⟨xi203, rfl, ⟨ok, trivial, trivial⟩, by first | (subst ht; exact hP) | (rw [ht]; exact hP) | (show va_P (dC, dI) vwCl (wR 157 ad (EX cs ad) xi203) t.heap; rw [ht]; exact hP)⟩, hS.F ht⟩) hS.2.2 dX5_arrive_182
            · have c_202 : ¬ y201.toInt = 0 := il_ne c_202
              refine lv_iload_n hx hb dX5_arrive_136 rfl (lv_at hl 2 rfl) ?_
              refine lv_aload_n hx hb dX5_arrive_137 rfl (lv_at hl 1 rfl) ?_
              refine va_get (D := (dC, dI)) (ci := 5) (v := .ref (ad 56)) (C := RX5) (T := TX5) (N := 15) hx hb hts inG5 hown hK hP 32 (gX_32 cs ad nu195) rfl 4 (by decide) (hts _ (List.mem_cons_of_mem _ mw_2_51)) (fun _ h9 => h9) rfl dX5_arrive_138 ?_
              refine va_get (D := (dC, dI)) (ci := 0) (v := .int (nu195 56 1)) (C := RX0) (T := TX0) (N := 4) hx hb hts inG0 hown hK hP 56 (gX_56 cs ad nu195) rfl 1 (by decide) (hts _ (List.mem_cons_of_mem _ mw_2_29)) (fun _ h9 => h9) rfl dX5_arrive_141 ?_
              refine lv_topi (fun y204 ey204 => ?_)
              have by204 : y204.toInt = (nu195 56 1).toInt := congrArg Int32.toInt ey204
              have gy204 : 0 ≤ y204.toInt ∧ y204.toInt ≤ 6 := by rw [ey204]; exact rX_56_1 ok
              refine lv_icmp_lt (tgt := 169) hx hb dX5_arrive_144 (by decide) (fun c_205 => ?_) (fun c_205 => ?_)
              · have c_205 : vs.toInt < y204.toInt := il_lt c_205
                refine lv_aload_n hx hb dX5_arrive_169 rfl (lv_at hl 1 rfl) ?_
                refine va_get (D := (dC, dI)) (ci := 5) (v := .ref (ad 56)) (C := RX5) (T := TX5) (N := 15) hx hb hts inG5 hown hK hP 32 (gX_32 cs ad nu195) rfl 4 (by decide) (hts _ (List.mem_cons_of_mem _ mw_2_51)) (fun _ h9 => h9) rfl dX5_arrive_170 ?_
                refine lv_aload_n hx hb dX5_arrive_173 rfl (lv_at hl 1 rfl) ?_
                refine va_get (D := (dC, dI)) (ci := 5) (v := .ref (ad 54)) (C := RX5) (T := TX5) (N := 15) hx hb hts inG5 hown hK hP 32 (gX_32 cs ad nu195) rfl 2 (by decide) (hts _ (List.mem_cons_of_mem _ mw_2_48)) (fun _ h9 => h9) rfl dX5_arrive_174 ?_
                refine lv_iload_n hx hb dX5_arrive_177 rfl (lv_at hl 2 rfl) ?_
                refine lv_iload_n hx hb dX5_arrive_178 rfl (lv_at hl 4 rfl) ?_
                have hFc := fr_all (wR_D nu195 hD) hS hA
                refine va_callv (va_runV (As := [.ref (ad 54), .int vs, .int vp]) (rest := []) ⟨hx, hb, hml, hown, hts⟩ (sx_take56 l dC dI cs ad nu195 ok H hP ((wR_D nu195 hD).weaken (fun _ _ _ _ => trivial)) vs vp (by omega)) (cwV 3 hts (wU_V mw_4_43 mw_4_40 mw_4_41 mw_4_42 mw_1_9) rfl rfl rfl (by decide +kernel) ⟨Nat.le_of_ble_eq_true rfl, Nat.le_of_ble_eq_true rfl⟩) ⟨sz_c, va_recv hK hP (ci := 0) (q0 := 56) rfl (gX_56 cs ad nu195), sz_m hK hz⟩ rfl rfl hl.1 rfl (lv_room (Nat.le_of_ble_eq_true rfl)) dX5_arrive_179 ⟨Nat.zero_le _, Nat.zero_le _⟩) hS (fun q _ h => hFc q h) hFc (fun xi206 t H206 locs ht hvm hw206 hB hz1 hk1 hS => ?_)
                have hP : va_P (dC, dI) vwCl (wR 157 ad (EX cs ad) xi206) H206 := by rw [← ht]; exact hB
                obtain ⟨ok, hw206, _⟩ := hw206
                exact W.vret hx hb hr (fun t ht hW => ⟨⟨xi206, rfl, ⟨ok, trivial, trivial⟩, by first | (subst ht; exact hP) | (rw [ht]; exact hP) | (show va_P (dC, dI) vwCl (wR 157 ad (EX cs ad) xi206) t.heap; rw [ht]; exact hP)⟩, hS.F ht⟩) hS.2.2 dX5_arrive_182
              · have c_205 : y204.toInt ≤ vs.toInt := il_nlt c_205
                refine lv_iload_n hx hb dX5_arrive_147 rfl (lv_at hl 2 rfl) ?_
                refine lv_aload_n hx hb dX5_arrive_148 rfl (lv_at hl 1 rfl) ?_
                refine va_get (D := (dC, dI)) (ci := 5) (v := .ref (ad 56)) (C := RX5) (T := TX5) (N := 15) hx hb hts inG5 hown hK hP 32 (gX_32 cs ad nu195) rfl 4 (by decide) (hts _ (List.mem_cons_of_mem _ mw_2_51)) (fun _ h9 => h9) rfl dX5_arrive_149 ?_
                refine va_get (D := (dC, dI)) (ci := 0) (v := .int (nu195 56 1)) (C := RX0) (T := TX0) (N := 4) hx hb hts inG0 hown hK hP 56 (gX_56 cs ad nu195) rfl 1 (by decide) (hts _ (List.mem_cons_of_mem _ mw_2_29)) (fun _ h9 => h9) rfl dX5_arrive_152 ?_
                refine lq_i y204 ey204.symm ?_
                refine lv_icmp_ne (tgt := 182) hx hb dX5_arrive_155 (by decide) (fun c_207 => ?_) (fun c_207 => ?_)
                · have c_207 : ¬ vs.toInt = y204.toInt := il_ne c_207
                  exact W.vret hx hb hr (fun t ht hW => ⟨⟨nu195, rfl, ⟨ok, trivial, trivial⟩, by first | (subst ht; exact hP) | (rw [ht]; exact hP) | (show va_P (dC, dI) vwCl (wR 157 ad (EX cs ad) nu195) t.heap; rw [ht]; exact hP)⟩, hS.F ht⟩) hS.2.2 dX5_arrive_182
                · have c_207 : vs.toInt = y204.toInt := il_eq c_207
                  refine lv_iload_n hx hb dX5_arrive_158 rfl (lv_at hl 4 rfl) ?_
                  refine lv_aload_n hx hb dX5_arrive_159 rfl (lv_at hl 1 rfl) ?_
                  refine va_get (D := (dC, dI)) (ci := 5) (v := .ref (ad 56)) (C := RX5) (T := TX5) (N := 15) hx hb hts inG5 hown hK hP 32 (gX_32 cs ad nu195) rfl 4 (by decide) (hts _ (List.mem_cons_of_mem _ mw_2_51)) (fun _ h9 => h9) rfl dX5_arrive_160 ?_
                  refine va_get (D := (dC, dI)) (ci := 0) (v := .int (nu195 56 2)) (C := RX0) (T := TX0) (N := 4) hx hb hts inG0 hown hK hP 56 (gX_56 cs ad nu195) rfl 2 (by decide) (hts _ (List.mem_cons_of_mem _ mw_2_32)) (fun _ h9 => h9) rfl dX5_arrive_163 ?_
                  refine lv_topi (fun y208 ey208 => ?_)
                  have by208 : y208.toInt = (nu195 56 2).toInt := congrArg Int32.toInt ey208
                  refine lv_icmp_ge (tgt := 182) hx hb dX5_arrive_166 (by decide) (fun c_209 => ?_) (fun c_209 => ?_)
                  · have c_209 : y208.toInt ≤ vp.toInt := il_le c_209
                    exact W.vret hx hb hr (fun t ht hW => ⟨⟨nu195, rfl, ⟨ok, trivial, trivial⟩, by first | (subst ht; exact hP) | (rw [ht]; exact hP) | (show va_P (dC, dI) vwCl (wR 157 ad (EX cs ad) nu195) t.heap; rw [ht]; exact hP)⟩, hS.F ht⟩) hS.2.2 dX5_arrive_182
                  · have c_209 : vp.toInt < y208.toInt := il_nle c_209
                    refine lv_aload_n hx hb dX5_arrive_169 rfl (lv_at hl 1 rfl) ?_
                    refine va_get (D := (dC, dI)) (ci := 5) (v := .ref (ad 56)) (C := RX5) (T := TX5) (N := 15) hx hb hts inG5 hown hK hP 32 (gX_32 cs ad nu195) rfl 4 (by decide) (hts _ (List.mem_cons_of_mem _ mw_2_51)) (fun _ h9 => h9) rfl dX5_arrive_170 ?_
                    refine lv_aload_n hx hb dX5_arrive_173 rfl (lv_at hl 1 rfl) ?_
                    refine va_get (D := (dC, dI)) (ci := 5) (v := .ref (ad 54)) (C := RX5) (T := TX5) (N := 15) hx hb hts inG5 hown hK hP 32 (gX_32 cs ad nu195) rfl 2 (by decide) (hts _ (List.mem_cons_of_mem _ mw_2_48)) (fun _ h9 => h9) rfl dX5_arrive_174 ?_
                    refine lv_iload_n hx hb dX5_arrive_177 rfl (lv_at hl 2 rfl) ?_
                    refine lv_iload_n hx hb dX5_arrive_178 rfl (lv_at hl 4 rfl) ?_
                    have hFc := fr_all (wR_D nu195 hD) hS hA
                    refine va_callv (va_runV (As := [.ref (ad 54), .int vs, .int vp]) (rest := []) ⟨hx, hb, hml, hown, hts⟩ (sx_take56 l dC dI cs ad nu195 ok H hP ((wR_D nu195 hD).weaken (fun _ _ _ _ => trivial)) vs vp (by omega)) (cwV 3 hts (wU_V mw_4_43 mw_4_40 mw_4_41 mw_4_42 mw_1_9) rfl rfl rfl (by decide +kernel) ⟨Nat.le_of_ble_eq_true rfl, Nat.le_of_ble_eq_true rfl⟩) ⟨sz_c, va_recv hK hP (ci := 0) (q0 := 56) rfl (gX_56 cs ad nu195), sz_m hK hz⟩ rfl rfl hl.1 rfl (lv_room (Nat.le_of_ble_eq_true rfl)) dX5_arrive_179 ⟨Nat.zero_le _, Nat.zero_le _⟩) hS (fun q _ h => hFc q h) hFc (fun xi210 t H210 locs ht hvm hw210 hB hz1 hk1 hS => ?_)
                    have hP : va_P (dC, dI) vwCl (wR 157 ad (EX cs ad) xi210) H210 := by rw [← ht]; exact hB
                    obtain ⟨ok, hw210, _⟩ := hw210
                    exact W.vret hx hb hr (fun t ht hW => ⟨⟨xi210, rfl, ⟨ok, trivial, trivial⟩, by first | (subst ht; exact hP) | (rw [ht]; exact hP) | (show va_P (dC, dI) vwCl (wR 157 ad (EX cs ad) xi210) t.heap; rw [ht]; exact hP)⟩, hS.F ht⟩) hS.2.2 dX5_arrive_182
          · have c_182 : y181.toInt < r176.toInt := il_nle c_182
            exact W.vret hx hb hr (fun t ht hW => ⟨⟨nu179, rfl, ⟨ok, trivial, trivial⟩, by first | (subst ht; exact hP) | (rw [ht]; exact hP) | (show va_P (dC, dI) vwCl (wR 157 ad (EX cs ad) nu179) t.heap; rw [ht]; exact hP)⟩, hS.F ht⟩) hS.2.2 dX5_arrive_96
set_option maxHeartbeats 4000000 in
set_option maxRecDepth 100000 in
/-- sx_walkOn6 -/
theorem sx_walkOn6 (l : Launch) (dC : Nat → ClassId) (dI : Nat → Nat → Nat) (cs : Nat → ClassId) (ad : Nat → Nat) (mu : Nat → Nat → Int32) (ok : okR loX hiX mu) (H : Heap) (hP : va_P (dC, dI) vwCl (wR 157 ad (EX cs ad) mu) H) (hD0 : va_D (fun _ => True) (wR 157 ad (EX cs ad) mu)) (vu : Int32) (vp : Int32) : Met l yX5_walkOn (wU yX5_walkOn cX5_walkOn 9 none) ({ frames := 1, cells := 0, slots := 0, locals := 21 }) (va_Pc [.ref (ad 32), .ref (ad 4), .int 6, .int vu, .int vp] (sz_P (dC, dI) vwCl (tyW cs) H)) (va_Qv (fun (xi : Nat → Nat → Int32) => okR loX hiX xi ∧ (True) ∧ True) (fun xi t => va_P (dC, dI) vwCl (wR 157 ad (EX cs ad) xi) t.heap) (va_A (wR 157 ad (EX cs ad) mu) H.size)) 0 0 (va_A (wR 157 ad (EX cs ad) mu) H.size) := by
  refine Met.ofW (cc := cX5_walkOn) (maxL := 9) (ret := none) (by decide) rfl ?_
  intro p e s m args below meth c s₁ B hml hv
  obtain ⟨rfl, hh, hK, hz⟩ := hv
  have hx := B.exec
  have hb := B.bytes
  have hr := B.returns
  have hts := atoms_spec (ws := (wU yX5_walkOn cX5_walkOn 9 none)) B.pre
  have hown : s.vm.findClass RX5 = some m.cls := findClass_of_methodNamed B.named
  have hlocks := B.notSynchronized
  subst hh
  have hD := hD0.self (sz := s.heap.size)
  have hA : ∀ q : Nat, s.heap.size ≤ q → (va_A (wR 157 ad (EX cs ad) mu) s.heap.size) q := fun q h => Or.inr h
  have hS : va_S (va_A (wR 157 ad (EX cs ad) mu) s.heap.size) s.heap s.heap [] := va_S.rf
  have hl := lv_entry ([.ref (ad 32), .ref (ad 4), .int 6, .int vu, .int vp]) (n := 9) (Nat.le_of_ble_eq_true rfl)
  rw [lg_entry_eq]
  generalize (lg_sl ([.ref (ad 32), .ref (ad 4), .int 6, .int vu, .int vp]) ++ List.replicate (9 - (lg_sl ([.ref (ad 32), .ref (ad 4), .int 6, .int vu, .int vp])).length) Slot.unset).toArray = ls at hl ⊢
  have hl : lv_has ls 9 [(0, .ref (ad 32)), (1, .ref (ad 4)), (2, .int 6), (3, .int vu), (4, .int vp)] := hl
  refine lv_aload_n hx hb dX5_walkOn_0 rfl (lv_at hl 0 rfl) ?_
  refine va_get (D := (dC, dI)) (ci := 5) (v := .ref (ad 54)) (C := RX5) (T := TX5) (N := 15) hx hb hts inG5 hown hK hP 32 (gX_32 cs ad mu) rfl 2 (by decide) (hts _ (List.mem_cons_of_mem _ mw_2_48)) (fun _ h9 => h9) rfl dX5_walkOn_1 ?_
  refine lv_iload_n hx hb dX5_walkOn_4 rfl (lv_at hl 2 rfl) ?_
  refine va_iald hx hb hK hP 54 0 (gX_54 cs ad mu) rfl (show vp_in 6 7 from (by unfold vp_in; decide)) dX5_walkOn_5 ?_
  refine lv_topi (fun y1 ey1 => ?_)
  have by1 : y1.toInt = (mu 54 (6 : Int32).toNatClampNeg).toInt := congrArg Int32.toInt ey1
  have gy1 : 0 ≤ y1.toInt ∧ y1.toInt ≤ 6 := by rw [ey1]; exact rX_54_s ok (6 : Int32).toNatClampNeg
  refine lv_istore (lv' := [(5, .int y1), (0, .ref (ad 32)), (1, .ref (ad 4)), (2, .int 6), (3, .int vu), (4, .int vp)]) hx hb dX5_walkOn_6 hl (by decide) rfl (fun ls hl => ?_)
  refine lv_aload_n hx hb dX5_walkOn_8 rfl (lv_at hl 2 rfl) ?_
  refine va_get (D := (dC, dI)) (ci := 10) (v := .ref (ad 34)) (C := RX10) (T := TX10) (N := 8) hx hb hts inG10 hown hK hP 4 (gX_4 cs ad mu) rfl 0 (by decide) (hts _ (List.mem_cons_of_mem _ mw_1_146)) (fun _ h9 => h9) rfl dX5_walkOn_9 ?_
  refine lv_iload hx hb dX5_walkOn_12 (lv_at hl 0 rfl) ?_
  refine va_iald hx hb hK hP 34 0 (gX_34 cs ad mu) rfl (show vp_in y1 7 from vi_of (by omega) (by omega)) dX5_walkOn_14 ?_
  refine lv_topi (fun y2 ey2 => ?_)
  have by2 : y2.toInt = (mu 34 y1.toNatClampNeg).toInt := congrArg Int32.toInt ey2
  refine lv_iload hx hb dX5_walkOn_15 (lv_at hl 5 rfl) ?_
  refine cr_i (va_runSN (As := [.int y2, .int vp]) (rest := []) ⟨hx, hb, hml, hown, hts⟩ (sx_priceAsked l dC dI (tyW cs) s.heap y2 vp) ⟨va_cnB 2 hts (wU_in mw_3_107) rfl rfl rfl (hz.2.2.2.2.2.2.2.2.2.2.2.2.2.1) (hts _ (List.mem_cons_of_mem _ mw_1_1)) (by decide +kernel) ⟨Nat.le_of_ble_eq_true rfl, Nat.le_of_ble_eq_true rfl⟩, (hts _ (List.mem_cons_of_mem _ mw_3_106)), trivial⟩ ⟨sz_c, sz_m hK hz⟩ rfl rfl hl.1 rfl (lv_room (Nat.le_of_ble_eq_true rfl)) dX5_walkOn_17 ⟨Nat.zero_le _, Nat.zero_le _⟩) hS (fun r3 hw3 locs hS => ?_)
  refine lv_istore (lv' := [(6, .int r3), (5, .int y1), (0, .ref (ad 32)), (1, .ref (ad 4)), (2, .int 6), (3, .int vu), (4, .int vp)]) hx hb dX5_walkOn_20 hl (by decide) rfl (fun ls hl => ?_)
  refine lv_iload_n hx hb dX5_walkOn_22 rfl (lv_at hl 4 rfl) ?_
  refine lv_iconst (v := 1) hx hb dX5_walkOn_23 (by decide) ?_
  refine lv_iadd hx hb dX5_walkOn_24 ?_
  refine lq_i 7 (by decide) ?_
  refine lv_istore (lv' := [(7, .int 7), (6, .int r3), (5, .int y1), (0, .ref (ad 32)), (1, .ref (ad 4)), (2, .int 6), (3, .int vu), (4, .int vp)]) hx hb dX5_walkOn_25 hl (by decide) rfl (fun ls hl => ?_)
  refine lv_iconst (v := 0) hx hb dX5_walkOn_27 (by decide) ?_
  refine lv_istore (lv' := [(8, .int 0), (7, .int 7), (6, .int r3), (5, .int y1), (0, .ref (ad 32)), (1, .ref (ad 4)), (2, .int 6), (3, .int vu), (4, .int vp)]) hx hb dX5_walkOn_28 hl (by decide) rfl (fun ls hl => ?_)
  have loop30 : ∀ (n30 : Nat) (v8_30 : Int32) (nu30_ : Nat → Nat → Int32) (H : Heap) (locs : List Loc) (ls : Array Slot), (7 + 1 - v8_30.toInt).toNat < n30 → (0 ≤ v8_30.toInt ∧ v8_30.toInt ≤ 7) → okR loX hiX nu30_ → va_P (dC, dI) vwCl (wR 157 ad (EX cs ad) nu30_) H → va_S (va_A (wR 157 ad (EX cs ad) mu) s.heap.size) s.heap H locs → lv_has ls 9 [(8, .int v8_30), (7, .int 7), (6, .int r3), (5, .int y1), (0, .ref (ad 32)), (1, .ref (ad 4)), (2, .int 6), (3, .int vu), (4, .int vp)] → W p l e (headSpec (wU yX5_walkOn cX5_walkOn 9 none) ({ frames := 1, cells := 0, slots := 0, locals := 21 })).room s m ([.ref (ad 32), .ref (ad 4), .int 6, .int vu, .int vp] : List Value).toArray below meth c H locs 0 0 (MQ below (va_Qv (fun (xi : Nat → Nat → Int32) => okR loX hiX xi ∧ (True) ∧ True) (fun xi t => va_P (dC, dI) vwCl (wR 157 ad (EX cs ad) xi) t.heap) (va_A (wR 157 ad (EX cs ad) mu) s.heap.size)) ([.ref (ad 32), .ref (ad 4), .int 6, .int vu, .int vp] : List Value).toArray s 0 0 (va_A (wR 157 ad (EX cs ad) mu) s.heap.size)) (F0 m 30 ls []) := by
    intro n30
    induction n30 with
    | zero => intro v8_30 nu30_ H locs ls hm; exact absurd hm (Nat.not_lt_zero _)
    | succ n30 ih30 =>
      intro v8_30 nu30_ H locs ls hm h_v8_30 ok hP hS hl
      refine lv_iload hx hb dX5_walkOn_30 (lv_at hl 0 rfl) ?_
      refine lv_aload_n hx hb dX5_walkOn_32 rfl (lv_at hl 5 rfl) ?_
      refine va_get (D := (dC, dI)) (ci := 10) (v := .int (nu30_ 4 6)) (C := RX10) (T := TX10) (N := 8) hx hb hts inG10 hown hK hP 4 (gX_4 cs ad nu30_) rfl 6 (by decide) (hts _ (List.mem_cons_of_mem _ mw_1_162)) (fun _ h9 => h9) rfl dX5_walkOn_33 ?_
      refine lv_topi (fun y4 ey4 => ?_)
      have by4 : y4.toInt = (nu30_ 4 6).toInt := congrArg Int32.toInt ey4
      have gy4 : 0 ≤ y4.toInt ∧ y4.toInt ≤ 7 := by rw [ey4]; exact rX_4_6 ok
      refine lv_icmp_ge (tgt := 115) hx hb dX5_walkOn_36 (by decide) (fun c_5 => ?_) (fun c_5 => ?_)
      · have c_5 : y4.toInt ≤ v8_30.toInt := il_le c_5
        exact W.vret hx hb hr (fun t ht hW => ⟨⟨nu30_, rfl, ⟨ok, trivial, trivial⟩, by first | (subst ht; exact hP) | (rw [ht]; exact hP) | (show va_P (dC, dI) vwCl (wR 157 ad (EX cs ad) nu30_) t.heap; rw [ht]; exact hP)⟩, hS.F ht⟩) hS.2.2 dX5_walkOn_115
      · have c_5 : v8_30.toInt < y4.toInt := il_nle c_5
        refine lv_iload hx hb dX5_walkOn_39 (lv_at hl 1 rfl) ?_
        refine lv_bipush (v := 7) hx hb dX5_walkOn_41 (by decide) ?_
        refine lv_icmp_ge (tgt := 115) hx hb dX5_walkOn_43 (by decide) (fun _ => ?_) (fun c => absurd (by decide) c)
        exact W.vret hx hb hr (fun t ht hW => ⟨⟨nu30_, rfl, ⟨ok, trivial, trivial⟩, by first | (subst ht; exact hP) | (rw [ht]; exact hP) | (show va_P (dC, dI) vwCl (wR 157 ad (EX cs ad) nu30_) t.heap; rw [ht]; exact hP)⟩, hS.F ht⟩) hS.2.2 dX5_walkOn_115
  exact loop30 ((7 + 1 - (0 : Int32).toInt).toNat + 1) (0) mu _ _ _ (Nat.lt_succ_self _) (by have h80 : (0 : Int32).toInt = 0 := rfl; exact ⟨by omega, by omega⟩)  ok hP   hS hl
set_option maxHeartbeats 4000000 in
set_option maxRecDepth 100000 in
/-- sx_walkOn5 -/
theorem sx_walkOn5 (l : Launch) (dC : Nat → ClassId) (dI : Nat → Nat → Nat) (cs : Nat → ClassId) (ad : Nat → Nat) (mu : Nat → Nat → Int32) (ok : okR loX hiX mu) (H : Heap) (hP : va_P (dC, dI) vwCl (wR 157 ad (EX cs ad) mu) H) (hD0 : va_D (fun _ => True) (wR 157 ad (EX cs ad) mu)) (vu : Int32) (vp : Int32) : Met l yX5_walkOn (wU yX5_walkOn cX5_walkOn 9 none) ({ frames := 3, cells := 0, slots := 0, locals := 107 }) (va_Pc [.ref (ad 32), .ref (ad 4), .int 5, .int vu, .int vp] (sz_P (dC, dI) vwCl (tyW cs) H)) (va_Qv (fun (xi : Nat → Nat → Int32) => okR loX hiX xi ∧ (True) ∧ True) (fun xi t => va_P (dC, dI) vwCl (wR 157 ad (EX cs ad) xi) t.heap) (va_A (wR 157 ad (EX cs ad) mu) H.size)) 0 0 (va_A (wR 157 ad (EX cs ad) mu) H.size) := by
  refine Met.ofW (cc := cX5_walkOn) (maxL := 9) (ret := none) (by decide) rfl ?_
  intro p e s m args below meth c s₁ B hml hv
  obtain ⟨rfl, hh, hK, hz⟩ := hv
  have hx := B.exec
  have hb := B.bytes
  have hr := B.returns
  have hts := atoms_spec (ws := (wU yX5_walkOn cX5_walkOn 9 none)) B.pre
  have hown : s.vm.findClass RX5 = some m.cls := findClass_of_methodNamed B.named
  have hlocks := B.notSynchronized
  subst hh
  have hD := hD0.self (sz := s.heap.size)
  have hA : ∀ q : Nat, s.heap.size ≤ q → (va_A (wR 157 ad (EX cs ad) mu) s.heap.size) q := fun q h => Or.inr h
  have hS : va_S (va_A (wR 157 ad (EX cs ad) mu) s.heap.size) s.heap s.heap [] := va_S.rf
  have hl := lv_entry ([.ref (ad 32), .ref (ad 4), .int 5, .int vu, .int vp]) (n := 9) (Nat.le_of_ble_eq_true rfl)
  rw [lg_entry_eq]
  generalize (lg_sl ([.ref (ad 32), .ref (ad 4), .int 5, .int vu, .int vp]) ++ List.replicate (9 - (lg_sl ([.ref (ad 32), .ref (ad 4), .int 5, .int vu, .int vp])).length) Slot.unset).toArray = ls at hl ⊢
  have hl : lv_has ls 9 [(0, .ref (ad 32)), (1, .ref (ad 4)), (2, .int 5), (3, .int vu), (4, .int vp)] := hl
  refine lv_aload_n hx hb dX5_walkOn_0 rfl (lv_at hl 0 rfl) ?_
  refine va_get (D := (dC, dI)) (ci := 5) (v := .ref (ad 54)) (C := RX5) (T := TX5) (N := 15) hx hb hts inG5 hown hK hP 32 (gX_32 cs ad mu) rfl 2 (by decide) (hts _ (List.mem_cons_of_mem _ mw_2_48)) (fun _ h9 => h9) rfl dX5_walkOn_1 ?_
  refine lv_iload_n hx hb dX5_walkOn_4 rfl (lv_at hl 2 rfl) ?_
  refine va_iald hx hb hK hP 54 0 (gX_54 cs ad mu) rfl (show vp_in 5 7 from (by unfold vp_in; decide)) dX5_walkOn_5 ?_
  refine lv_topi (fun y1 ey1 => ?_)
  have by1 : y1.toInt = (mu 54 (5 : Int32).toNatClampNeg).toInt := congrArg Int32.toInt ey1
  have gy1 : 0 ≤ y1.toInt ∧ y1.toInt ≤ 6 := by rw [ey1]; exact rX_54_s ok (5 : Int32).toNatClampNeg
  refine lv_istore (lv' := [(5, .int y1), (0, .ref (ad 32)), (1, .ref (ad 4)), (2, .int 5), (3, .int vu), (4, .int vp)]) hx hb dX5_walkOn_6 hl (by decide) rfl (fun ls hl => ?_)
  refine lv_aload_n hx hb dX5_walkOn_8 rfl (lv_at hl 2 rfl) ?_
  refine va_get (D := (dC, dI)) (ci := 10) (v := .ref (ad 34)) (C := RX10) (T := TX10) (N := 8) hx hb hts inG10 hown hK hP 4 (gX_4 cs ad mu) rfl 0 (by decide) (hts _ (List.mem_cons_of_mem _ mw_1_146)) (fun _ h9 => h9) rfl dX5_walkOn_9 ?_
  refine lv_iload hx hb dX5_walkOn_12 (lv_at hl 0 rfl) ?_
  refine va_iald hx hb hK hP 34 0 (gX_34 cs ad mu) rfl (show vp_in y1 7 from vi_of (by omega) (by omega)) dX5_walkOn_14 ?_
  refine lv_topi (fun y2 ey2 => ?_)
  have by2 : y2.toInt = (mu 34 y1.toNatClampNeg).toInt := congrArg Int32.toInt ey2
  refine lv_iload hx hb dX5_walkOn_15 (lv_at hl 5 rfl) ?_
  refine cr_i (va_runSN (As := [.int y2, .int vp]) (rest := []) ⟨hx, hb, hml, hown, hts⟩ (sx_priceAsked l dC dI (tyW cs) s.heap y2 vp) ⟨va_cnB 2 hts (wU_in mw_3_107) rfl rfl rfl (hz.2.2.2.2.2.2.2.2.2.2.2.2.2.1) (hts _ (List.mem_cons_of_mem _ mw_1_1)) (by decide +kernel) ⟨Nat.le_of_ble_eq_true rfl, Nat.le_of_ble_eq_true rfl⟩, (hts _ (List.mem_cons_of_mem _ mw_3_106)), trivial⟩ ⟨sz_c, sz_m hK hz⟩ rfl rfl hl.1 rfl (lv_room (Nat.le_of_ble_eq_true rfl)) dX5_walkOn_17 ⟨Nat.zero_le _, Nat.zero_le _⟩) hS (fun r3 hw3 locs hS => ?_)
  refine lv_istore (lv' := [(6, .int r3), (5, .int y1), (0, .ref (ad 32)), (1, .ref (ad 4)), (2, .int 5), (3, .int vu), (4, .int vp)]) hx hb dX5_walkOn_20 hl (by decide) rfl (fun ls hl => ?_)
  refine lv_iload_n hx hb dX5_walkOn_22 rfl (lv_at hl 4 rfl) ?_
  refine lv_iconst (v := 1) hx hb dX5_walkOn_23 (by decide) ?_
  refine lv_iadd hx hb dX5_walkOn_24 ?_
  refine lq_i 6 (by decide) ?_
  refine lv_istore (lv' := [(7, .int 6), (6, .int r3), (5, .int y1), (0, .ref (ad 32)), (1, .ref (ad 4)), (2, .int 5), (3, .int vu), (4, .int vp)]) hx hb dX5_walkOn_25 hl (by decide) rfl (fun ls hl => ?_)
  refine lv_iconst (v := 0) hx hb dX5_walkOn_27 (by decide) ?_
  refine lv_istore (lv' := [(8, .int 0), (7, .int 6), (6, .int r3), (5, .int y1), (0, .ref (ad 32)), (1, .ref (ad 4)), (2, .int 5), (3, .int vu), (4, .int vp)]) hx hb dX5_walkOn_28 hl (by decide) rfl (fun ls hl => ?_)
  have loop30 : ∀ (n30 : Nat) (v8_30 : Int32) (nu30_ : Nat → Nat → Int32) (H : Heap) (locs : List Loc) (ls : Array Slot), (7 + 1 - v8_30.toInt).toNat < n30 → (0 ≤ v8_30.toInt ∧ v8_30.toInt ≤ 7) → okR loX hiX nu30_ → va_P (dC, dI) vwCl (wR 157 ad (EX cs ad) nu30_) H → va_S (va_A (wR 157 ad (EX cs ad) mu) s.heap.size) s.heap H locs → lv_has ls 9 [(8, .int v8_30), (7, .int 6), (6, .int r3), (5, .int y1), (0, .ref (ad 32)), (1, .ref (ad 4)), (2, .int 5), (3, .int vu), (4, .int vp)] → W p l e (headSpec (wU yX5_walkOn cX5_walkOn 9 none) ({ frames := 3, cells := 0, slots := 0, locals := 107 })).room s m ([.ref (ad 32), .ref (ad 4), .int 5, .int vu, .int vp] : List Value).toArray below meth c H locs 0 0 (MQ below (va_Qv (fun (xi : Nat → Nat → Int32) => okR loX hiX xi ∧ (True) ∧ True) (fun xi t => va_P (dC, dI) vwCl (wR 157 ad (EX cs ad) xi) t.heap) (va_A (wR 157 ad (EX cs ad) mu) s.heap.size)) ([.ref (ad 32), .ref (ad 4), .int 5, .int vu, .int vp] : List Value).toArray s 0 0 (va_A (wR 157 ad (EX cs ad) mu) s.heap.size)) (F0 m 30 ls []) := by
    intro n30
    induction n30 with
    | zero => intro v8_30 nu30_ H locs ls hm; exact absurd hm (Nat.not_lt_zero _)
    | succ n30 ih30 =>
      intro v8_30 nu30_ H locs ls hm h_v8_30 ok hP hS hl
      refine lv_iload hx hb dX5_walkOn_30 (lv_at hl 0 rfl) ?_
      refine lv_aload_n hx hb dX5_walkOn_32 rfl (lv_at hl 5 rfl) ?_
      refine va_get (D := (dC, dI)) (ci := 10) (v := .int (nu30_ 4 6)) (C := RX10) (T := TX10) (N := 8) hx hb hts inG10 hown hK hP 4 (gX_4 cs ad nu30_) rfl 6 (by decide) (hts _ (List.mem_cons_of_mem _ mw_1_162)) (fun _ h9 => h9) rfl dX5_walkOn_33 ?_
      refine lv_topi (fun y4 ey4 => ?_)
      have by4 : y4.toInt = (nu30_ 4 6).toInt := congrArg Int32.toInt ey4
      have gy4 : 0 ≤ y4.toInt ∧ y4.toInt ≤ 7 := by rw [ey4]; exact rX_4_6 ok
      refine lv_icmp_ge (tgt := 115) hx hb dX5_walkOn_36 (by decide) (fun c_5 => ?_) (fun c_5 => ?_)
      · have c_5 : y4.toInt ≤ v8_30.toInt := il_le c_5
        exact W.vret hx hb hr (fun t ht hW => ⟨⟨nu30_, rfl, ⟨ok, trivial, trivial⟩, by first | (subst ht; exact hP) | (rw [ht]; exact hP) | (show va_P (dC, dI) vwCl (wR 157 ad (EX cs ad) nu30_) t.heap; rw [ht]; exact hP)⟩, hS.F ht⟩) hS.2.2 dX5_walkOn_115
      · have c_5 : v8_30.toInt < y4.toInt := il_nle c_5
        refine lv_iload hx hb dX5_walkOn_39 (lv_at hl 1 rfl) ?_
        refine lv_bipush (v := 7) hx hb dX5_walkOn_41 (by decide) ?_
        refine lv_icmp_ge (tgt := 115) hx hb dX5_walkOn_43 (by decide) (fun c => absurd c (by decide)) (fun _ => ?_)
        refine lv_aload_n hx hb dX5_walkOn_46 rfl (lv_at hl 4 rfl) ?_
        refine lv_aload_n hx hb dX5_walkOn_47 rfl (lv_at hl 5 rfl) ?_
        refine lv_iload hx hb dX5_walkOn_48 (lv_at hl 3 rfl) ?_
        refine lv_iload hx hb dX5_walkOn_50 (lv_at hl 0 rfl) ?_
        refine lv_iload_n hx hb dX5_walkOn_52 rfl (lv_at hl 7 rfl) ?_
        refine lv_iload hx hb dX5_walkOn_53 (lv_at hl 2 rfl) ?_
        refine cr_i (va_runV (As := [.ref (ad 4), .int y1, .int v8_30, .int vu, .int r3]) (rest := []) ⟨hx, hb, hml, hown, hts⟩ (sx_buys l dC dI cs ad nu30_ ok H hP y1 v8_30 vu r3 (by omega)) (cwV 5 hts (wU_V mw_4_34 mw_4_31 mw_4_33 mw_0_14 mw_1_8) rfl rfl rfl (by decide +kernel) ⟨Nat.le_of_ble_eq_true rfl, Nat.le_of_ble_eq_true rfl⟩) ⟨sz_c, va_recv hK hP (ci := 5) (q0 := 32) rfl (gX_32 cs ad nu30_), sz_m hK hz⟩ rfl rfl hl.1 rfl (lv_room (Nat.le_of_ble_eq_true rfl)) dX5_walkOn_55 ⟨Nat.zero_le _, Nat.zero_le _⟩) hS (fun r6 hw6 locs hS => ?_)
        have gr6 : 0 ≤ r6.toInt ∧ r6.toInt ≤ 1 := hw6
        refine lv_if_ne (tgt := 64) hx hb dX5_walkOn_58 (by decide) (fun c_7 => ?_) (fun c_7 => ?_)
        · have c_7 : ¬ r6.toInt = 0 := il_ne c_7
          refine lv_aload_n hx hb dX5_walkOn_64 rfl (lv_at hl 4 rfl) ?_
          refine va_get (D := (dC, dI)) (ci := 5) (v := .ref (ad 54)) (C := RX5) (T := TX5) (N := 15) hx hb hts inG5 hown hK hP 32 (gX_32 cs ad nu30_) rfl 2 (by decide) (hts _ (List.mem_cons_of_mem _ mw_2_48)) (fun _ h9 => h9) rfl dX5_walkOn_65 ?_
          refine lv_iload hx hb dX5_walkOn_68 (lv_at hl 1 rfl) ?_
          refine lv_iload hx hb dX5_walkOn_70 (lv_at hl 0 rfl) ?_
          refine va_iast hx hb hK hP (wR_D nu30_ hD) hS 54 0 (gX_54 cs ad nu30_) rfl (show vp_in 6 7 from (by unfold vp_in; decide)) dX5_walkOn_72 (fun H locs hP _ hS => ?_)
          refine wr_gen (upd (nu30_ 54) (6 : Int32).toNatClampNeg v8_30) hP (rfl) (fun nu8 hn8 hP => ?_)
          have ok := tX_54_s ok (6 : Int32).toNatClampNeg hn8 (by exact ⟨by omega, by omega⟩)
          have ez9 : y4 = nu8 4 6 := ey4.trans (congrFun (up_k hn8 (by decide)) 6).symm
          refine lv_iload hx hb dX5_walkOn_73 (lv_at hl 0 rfl) ?_
          refine lv_aload_n hx hb dX5_walkOn_75 rfl (lv_at hl 4 rfl) ?_
          refine va_get (D := (dC, dI)) (ci := 5) (v := .int (nu8 32 6)) (C := RX5) (T := TX5) (N := 15) hx hb hts inG5 hown hK hP 32 (gX_32 cs ad nu8) rfl 6 (by decide) (hts _ (List.mem_cons_of_mem _ mw_2_54)) (fun _ h9 => h9) rfl dX5_walkOn_76 ?_
          refine lv_topi (fun y10 ey10 => ?_)
          have by10 : y10.toInt = (nu8 32 6).toInt := congrArg Int32.toInt ey10
          have gy10 : 0 ≤ y10.toInt ∧ y10.toInt ≤ 6 := by rw [ey10]; exact rX_32_6 ok
          refine lv_icmp_ne (tgt := 94) hx hb dX5_walkOn_79 (by decide) (fun c_11 => ?_) (fun c_11 => ?_)
          · have c_11 : ¬ v8_30.toInt = y10.toInt := il_ne c_11
            refine lv_aload_n hx hb dX5_walkOn_94 rfl (lv_at hl 4 rfl) ?_
            refine lv_aload_n hx hb dX5_walkOn_95 rfl (lv_at hl 5 rfl) ?_
            refine lv_iload hx hb dX5_walkOn_96 (lv_at hl 1 rfl) ?_
            refine lv_iload_n hx hb dX5_walkOn_98 rfl (lv_at hl 7 rfl) ?_
            refine lv_iconst (v := 1) hx hb dX5_walkOn_99 (by decide) ?_
            refine lv_iload hx hb dX5_walkOn_100 (lv_at hl 0 rfl) ?_
            refine lv_ishl hx hb dX5_walkOn_102 ?_
            refine lv_topi (fun t12 et12 => ?_)
            refine lv_ior hx hb dX5_walkOn_103 ?_
            refine lv_topi (fun t13 et13 => ?_)
            refine lv_iload hx hb dX5_walkOn_104 (lv_at hl 2 rfl) ?_
            have hFc := fr_all (wR_D nu8 hD) hS hA
            refine va_callv (va_runV (As := [.ref (ad 4), .int 6, .int t13, .int r3]) (rest := []) ⟨hx, hb, hml, hown, hts⟩ (sx_walkOn6 l dC dI cs ad nu8 ok H hP ((wR_D nu8 hD).weaken (fun _ _ _ _ => trivial)) t13 r3) (cwV 4 hts (wU_V mw_4_29 mw_4_26 mw_4_28 mw_0_13 mw_1_8) rfl rfl rfl (by decide +kernel) ⟨Nat.le_of_ble_eq_true rfl, Nat.le_of_ble_eq_true rfl⟩) ⟨sz_c, va_recv hK hP (ci := 5) (q0 := 32) rfl (gX_32 cs ad nu8), sz_m hK hz⟩ rfl rfl hl.1 rfl (lv_room (Nat.le_of_ble_eq_true rfl)) dX5_walkOn_106 ⟨Nat.zero_le _, Nat.zero_le _⟩) hS (fun q _ h => hFc q h) hFc (fun xi14 t H14 locs ht hvm hw14 hB hz1 hk1 hS => ?_)
            have hP : va_P (dC, dI) vwCl (wR 157 ad (EX cs ad) xi14) H14 := by rw [← ht]; exact hB
            obtain ⟨ok, hw14, _⟩ := hw14
            refine lv_iinc (v := (v8_30 + 1)) (lv' := [(8, .int (v8_30 + 1)), (7, .int 6), (6, .int r3), (5, .int y1), (0, .ref (ad 32)), (1, .ref (ad 4)), (2, .int 5), (3, .int vu), (4, .int vp)]) hx hb dX5_walkOn_109 hl (k := 0) rfl rfl (by decide) rfl (fun ls hl => ?_)
            refine loc_gen (P := fun w9 => lv_has ls 9 [(8, .int w9), (7, .int 6), (6, .int r3), (5, .int y1), (0, .ref (ad 32)), (1, .ref (ad 4)), (2, .int 5), (3, .int vu), (4, .int vp)]) (v8_30 + 1) hl (fun w15 hw15 hl => ?_)
            have hl : lv_has ls 9 [(8, .int w15), (7, .int 6), (6, .int r3), (5, .int y1), (0, .ref (ad 32)), (1, .ref (ad 4)), (2, .int 5), (3, .int vu), (4, .int vp)] := hl
            have aw15 : w15.toInt = v8_30.toInt + 1 := by rw [← hw15]; exact tI_add (rfl : v8_30.toInt = _) (rfl : (1 : Int32).toInt = 1) (by omega) (by omega)
            refine lv_goto (tgt := 30) hx hb dX5_walkOn_112 (by decide) ?_
            exact ih30 (w15) xi14 _ _ _ (by omega) (by exact ⟨by omega, by omega⟩)  ok hP   hS (lv_sub hl [0, 1, 2, 3, 4, 5, 6, 7, 8] rfl)
          · have c_11 : v8_30.toInt = y10.toInt := il_eq c_11
            refine lv_aload_n hx hb dX5_walkOn_82 rfl (lv_at hl 4 rfl) ?_
            refine lv_iload hx hb dX5_walkOn_83 (lv_at hl 1 rfl) ?_
            refine lv_iload_n hx hb dX5_walkOn_85 rfl (lv_at hl 7 rfl) ?_
            refine lv_iload hx hb dX5_walkOn_86 (lv_at hl 2 rfl) ?_
            have hFc := fr_all (wR_D nu8 hD) hS hA
            refine va_callv (va_runV (As := [.int 6, .int vu, .int r3]) (rest := []) ⟨hx, hb, hml, hown, hts⟩ (sx_R_arrive l dC dI cs ad nu8 ok H hP ((wR_D nu8 hD).weaken (fun _ _ _ _ => trivial)) 6 vu r3 (by have h50 : (6 : Int32).toInt = 6 := rfl; omega)) (cwV 3 hts (wU_V mw_4_39 mw_4_36 mw_4_38 mw_0_15 mw_1_8) rfl rfl rfl (by decide +kernel) ⟨Nat.le_of_ble_eq_true rfl, Nat.le_of_ble_eq_true rfl⟩) ⟨sz_c, va_recv hK hP (ci := 5) (q0 := 32) rfl (gX_32 cs ad nu8), sz_m hK hz⟩ rfl rfl hl.1 rfl (lv_room (Nat.le_of_ble_eq_true rfl)) dX5_walkOn_88 ⟨Nat.zero_le _, Nat.zero_le _⟩) hS (fun q _ h => hFc q h) hFc (fun xi16 t H16 locs ht hvm hw16 hB hz1 hk1 hS => ?_)
            have hP : va_P (dC, dI) vwCl (wR 157 ad (EX cs ad) xi16) H16 := by rw [← ht]; exact hB
            obtain ⟨ok, hw16, _⟩ := hw16
            refine lv_goto (tgt := 109) hx hb dX5_walkOn_91 (by decide) ?_
            refine lv_iinc (v := (v8_30 + 1)) (lv' := [(8, .int (v8_30 + 1)), (7, .int 6), (6, .int r3), (5, .int y1), (0, .ref (ad 32)), (1, .ref (ad 4)), (2, .int 5), (3, .int vu), (4, .int vp)]) hx hb dX5_walkOn_109 hl (k := 0) rfl rfl (by decide) rfl (fun ls hl => ?_)
            refine loc_gen (P := fun w9 => lv_has ls 9 [(8, .int w9), (7, .int 6), (6, .int r3), (5, .int y1), (0, .ref (ad 32)), (1, .ref (ad 4)), (2, .int 5), (3, .int vu), (4, .int vp)]) (v8_30 + 1) hl (fun w17 hw17 hl => ?_)
            have hl : lv_has ls 9 [(8, .int w17), (7, .int 6), (6, .int r3), (5, .int y1), (0, .ref (ad 32)), (1, .ref (ad 4)), (2, .int 5), (3, .int vu), (4, .int vp)] := hl
            have aw17 : w17.toInt = v8_30.toInt + 1 := by rw [← hw17]; exact tI_add (rfl : v8_30.toInt = _) (rfl : (1 : Int32).toInt = 1) (by omega) (by omega)
            refine lv_goto (tgt := 30) hx hb dX5_walkOn_112 (by decide) ?_
            exact ih30 (w17) xi16 _ _ _ (by omega) (by exact ⟨by omega, by omega⟩)  ok hP   hS (lv_sub hl [0, 1, 2, 3, 4, 5, 6, 7, 8] rfl)
        · have c_7 : r6.toInt = 0 := il_eq c_7
          refine lv_goto (tgt := 109) hx hb dX5_walkOn_61 (by decide) ?_
          refine lv_iinc (v := (v8_30 + 1)) (lv' := [(8, .int (v8_30 + 1)), (7, .int 6), (6, .int r3), (5, .int y1), (0, .ref (ad 32)), (1, .ref (ad 4)), (2, .int 5), (3, .int vu), (4, .int vp)]) hx hb dX5_walkOn_109 hl (k := 0) rfl rfl (by decide) rfl (fun ls hl => ?_)
          refine loc_gen (P := fun w9 => lv_has ls 9 [(8, .int w9), (7, .int 6), (6, .int r3), (5, .int y1), (0, .ref (ad 32)), (1, .ref (ad 4)), (2, .int 5), (3, .int vu), (4, .int vp)]) (v8_30 + 1) hl (fun w18 hw18 hl => ?_)
          have hl : lv_has ls 9 [(8, .int w18), (7, .int 6), (6, .int r3), (5, .int y1), (0, .ref (ad 32)), (1, .ref (ad 4)), (2, .int 5), (3, .int vu), (4, .int vp)] := hl
          have aw18 : w18.toInt = v8_30.toInt + 1 := by rw [← hw18]; exact tI_add (rfl : v8_30.toInt = _) (rfl : (1 : Int32).toInt = 1) (by omega) (by omega)
          refine lv_goto (tgt := 30) hx hb dX5_walkOn_112 (by decide) ?_
          exact ih30 (w18) nu30_ _ _ _ (by omega) (by exact ⟨by omega, by omega⟩)  ok hP   hS (lv_sub hl [0, 1, 2, 3, 4, 5, 6, 7, 8] rfl)
  exact loop30 ((7 + 1 - (0 : Int32).toInt).toNat + 1) (0) mu _ _ _ (Nat.lt_succ_self _) (by have h80 : (0 : Int32).toInt = 0 := rfl; exact ⟨by omega, by omega⟩)  ok hP   hS hl
set_option maxHeartbeats 4000000 in
set_option maxRecDepth 100000 in
/-- sx_walkOn4 -/
theorem sx_walkOn4 (l : Launch) (dC : Nat → ClassId) (dI : Nat → Nat → Nat) (cs : Nat → ClassId) (ad : Nat → Nat) (mu : Nat → Nat → Int32) (ok : okR loX hiX mu) (H : Heap) (hP : va_P (dC, dI) vwCl (wR 157 ad (EX cs ad) mu) H) (hD0 : va_D (fun _ => True) (wR 157 ad (EX cs ad) mu)) (vu : Int32) (vp : Int32) : Met l yX5_walkOn (wU yX5_walkOn cX5_walkOn 9 none) ({ frames := 4, cells := 0, slots := 0, locals := 135 }) (va_Pc [.ref (ad 32), .ref (ad 4), .int 4, .int vu, .int vp] (sz_P (dC, dI) vwCl (tyW cs) H)) (va_Qv (fun (xi : Nat → Nat → Int32) => okR loX hiX xi ∧ (True) ∧ True) (fun xi t => va_P (dC, dI) vwCl (wR 157 ad (EX cs ad) xi) t.heap) (va_A (wR 157 ad (EX cs ad) mu) H.size)) 0 0 (va_A (wR 157 ad (EX cs ad) mu) H.size) := by
  refine Met.ofW (cc := cX5_walkOn) (maxL := 9) (ret := none) (by decide) rfl ?_
  intro p e s m args below meth c s₁ B hml hv
  obtain ⟨rfl, hh, hK, hz⟩ := hv
  have hx := B.exec
  have hb := B.bytes
  have hr := B.returns
  have hts := atoms_spec (ws := (wU yX5_walkOn cX5_walkOn 9 none)) B.pre
  have hown : s.vm.findClass RX5 = some m.cls := findClass_of_methodNamed B.named
  have hlocks := B.notSynchronized
  subst hh
  have hD := hD0.self (sz := s.heap.size)
  have hA : ∀ q : Nat, s.heap.size ≤ q → (va_A (wR 157 ad (EX cs ad) mu) s.heap.size) q := fun q h => Or.inr h
  have hS : va_S (va_A (wR 157 ad (EX cs ad) mu) s.heap.size) s.heap s.heap [] := va_S.rf
  have hl := lv_entry ([.ref (ad 32), .ref (ad 4), .int 4, .int vu, .int vp]) (n := 9) (Nat.le_of_ble_eq_true rfl)
  rw [lg_entry_eq]
  generalize (lg_sl ([.ref (ad 32), .ref (ad 4), .int 4, .int vu, .int vp]) ++ List.replicate (9 - (lg_sl ([.ref (ad 32), .ref (ad 4), .int 4, .int vu, .int vp])).length) Slot.unset).toArray = ls at hl ⊢
  have hl : lv_has ls 9 [(0, .ref (ad 32)), (1, .ref (ad 4)), (2, .int 4), (3, .int vu), (4, .int vp)] := hl
  refine lv_aload_n hx hb dX5_walkOn_0 rfl (lv_at hl 0 rfl) ?_
  refine va_get (D := (dC, dI)) (ci := 5) (v := .ref (ad 54)) (C := RX5) (T := TX5) (N := 15) hx hb hts inG5 hown hK hP 32 (gX_32 cs ad mu) rfl 2 (by decide) (hts _ (List.mem_cons_of_mem _ mw_2_48)) (fun _ h9 => h9) rfl dX5_walkOn_1 ?_
  refine lv_iload_n hx hb dX5_walkOn_4 rfl (lv_at hl 2 rfl) ?_
  refine va_iald hx hb hK hP 54 0 (gX_54 cs ad mu) rfl (show vp_in 4 7 from (by unfold vp_in; decide)) dX5_walkOn_5 ?_
  refine lv_topi (fun y1 ey1 => ?_)
  have by1 : y1.toInt = (mu 54 (4 : Int32).toNatClampNeg).toInt := congrArg Int32.toInt ey1
  have gy1 : 0 ≤ y1.toInt ∧ y1.toInt ≤ 6 := by rw [ey1]; exact rX_54_s ok (4 : Int32).toNatClampNeg
  refine lv_istore (lv' := [(5, .int y1), (0, .ref (ad 32)), (1, .ref (ad 4)), (2, .int 4), (3, .int vu), (4, .int vp)]) hx hb dX5_walkOn_6 hl (by decide) rfl (fun ls hl => ?_)
  refine lv_aload_n hx hb dX5_walkOn_8 rfl (lv_at hl 2 rfl) ?_
  refine va_get (D := (dC, dI)) (ci := 10) (v := .ref (ad 34)) (C := RX10) (T := TX10) (N := 8) hx hb hts inG10 hown hK hP 4 (gX_4 cs ad mu) rfl 0 (by decide) (hts _ (List.mem_cons_of_mem _ mw_1_146)) (fun _ h9 => h9) rfl dX5_walkOn_9 ?_
  refine lv_iload hx hb dX5_walkOn_12 (lv_at hl 0 rfl) ?_
  refine va_iald hx hb hK hP 34 0 (gX_34 cs ad mu) rfl (show vp_in y1 7 from vi_of (by omega) (by omega)) dX5_walkOn_14 ?_
  refine lv_topi (fun y2 ey2 => ?_)
  have by2 : y2.toInt = (mu 34 y1.toNatClampNeg).toInt := congrArg Int32.toInt ey2
  refine lv_iload hx hb dX5_walkOn_15 (lv_at hl 5 rfl) ?_
  refine cr_i (va_runSN (As := [.int y2, .int vp]) (rest := []) ⟨hx, hb, hml, hown, hts⟩ (sx_priceAsked l dC dI (tyW cs) s.heap y2 vp) ⟨va_cnB 2 hts (wU_in mw_3_107) rfl rfl rfl (hz.2.2.2.2.2.2.2.2.2.2.2.2.2.1) (hts _ (List.mem_cons_of_mem _ mw_1_1)) (by decide +kernel) ⟨Nat.le_of_ble_eq_true rfl, Nat.le_of_ble_eq_true rfl⟩, (hts _ (List.mem_cons_of_mem _ mw_3_106)), trivial⟩ ⟨sz_c, sz_m hK hz⟩ rfl rfl hl.1 rfl (lv_room (Nat.le_of_ble_eq_true rfl)) dX5_walkOn_17 ⟨Nat.zero_le _, Nat.zero_le _⟩) hS (fun r3 hw3 locs hS => ?_)
  refine lv_istore (lv' := [(6, .int r3), (5, .int y1), (0, .ref (ad 32)), (1, .ref (ad 4)), (2, .int 4), (3, .int vu), (4, .int vp)]) hx hb dX5_walkOn_20 hl (by decide) rfl (fun ls hl => ?_)
  refine lv_iload_n hx hb dX5_walkOn_22 rfl (lv_at hl 4 rfl) ?_
  refine lv_iconst (v := 1) hx hb dX5_walkOn_23 (by decide) ?_
  refine lv_iadd hx hb dX5_walkOn_24 ?_
  refine lq_i 5 (by decide) ?_
  refine lv_istore (lv' := [(7, .int 5), (6, .int r3), (5, .int y1), (0, .ref (ad 32)), (1, .ref (ad 4)), (2, .int 4), (3, .int vu), (4, .int vp)]) hx hb dX5_walkOn_25 hl (by decide) rfl (fun ls hl => ?_)
  refine lv_iconst (v := 0) hx hb dX5_walkOn_27 (by decide) ?_
  refine lv_istore (lv' := [(8, .int 0), (7, .int 5), (6, .int r3), (5, .int y1), (0, .ref (ad 32)), (1, .ref (ad 4)), (2, .int 4), (3, .int vu), (4, .int vp)]) hx hb dX5_walkOn_28 hl (by decide) rfl (fun ls hl => ?_)
  have loop30 : ∀ (n30 : Nat) (v8_30 : Int32) (nu30_ : Nat → Nat → Int32) (H : Heap) (locs : List Loc) (ls : Array Slot), (7 + 1 - v8_30.toInt).toNat < n30 → (0 ≤ v8_30.toInt ∧ v8_30.toInt ≤ 7) → okR loX hiX nu30_ → va_P (dC, dI) vwCl (wR 157 ad (EX cs ad) nu30_) H → va_S (va_A (wR 157 ad (EX cs ad) mu) s.heap.size) s.heap H locs → lv_has ls 9 [(8, .int v8_30), (7, .int 5), (6, .int r3), (5, .int y1), (0, .ref (ad 32)), (1, .ref (ad 4)), (2, .int 4), (3, .int vu), (4, .int vp)] → W p l e (headSpec (wU yX5_walkOn cX5_walkOn 9 none) ({ frames := 4, cells := 0, slots := 0, locals := 135 })).room s m ([.ref (ad 32), .ref (ad 4), .int 4, .int vu, .int vp] : List Value).toArray below meth c H locs 0 0 (MQ below (va_Qv (fun (xi : Nat → Nat → Int32) => okR loX hiX xi ∧ (True) ∧ True) (fun xi t => va_P (dC, dI) vwCl (wR 157 ad (EX cs ad) xi) t.heap) (va_A (wR 157 ad (EX cs ad) mu) s.heap.size)) ([.ref (ad 32), .ref (ad 4), .int 4, .int vu, .int vp] : List Value).toArray s 0 0 (va_A (wR 157 ad (EX cs ad) mu) s.heap.size)) (F0 m 30 ls []) := by
    intro n30
    induction n30 with
    | zero => intro v8_30 nu30_ H locs ls hm; exact absurd hm (Nat.not_lt_zero _)
    | succ n30 ih30 =>
      intro v8_30 nu30_ H locs ls hm h_v8_30 ok hP hS hl
      refine lv_iload hx hb dX5_walkOn_30 (lv_at hl 0 rfl) ?_
      refine lv_aload_n hx hb dX5_walkOn_32 rfl (lv_at hl 5 rfl) ?_
      refine va_get (D := (dC, dI)) (ci := 10) (v := .int (nu30_ 4 6)) (C := RX10) (T := TX10) (N := 8) hx hb hts inG10 hown hK hP 4 (gX_4 cs ad nu30_) rfl 6 (by decide) (hts _ (List.mem_cons_of_mem _ mw_1_162)) (fun _ h9 => h9) rfl dX5_walkOn_33 ?_
      refine lv_topi (fun y4 ey4 => ?_)
      have by4 : y4.toInt = (nu30_ 4 6).toInt := congrArg Int32.toInt ey4
      have gy4 : 0 ≤ y4.toInt ∧ y4.toInt ≤ 7 := by rw [ey4]; exact rX_4_6 ok
      refine lv_icmp_ge (tgt := 115) hx hb dX5_walkOn_36 (by decide) (fun c_5 => ?_) (fun c_5 => ?_)
      · have c_5 : y4.toInt ≤ v8_30.toInt := il_le c_5
        exact W.vret hx hb hr (fun t ht hW => ⟨⟨nu30_, rfl, ⟨ok, trivial, trivial⟩, by first | (subst ht; exact hP) | (rw [ht]; exact hP) | (show va_P (dC, dI) vwCl (wR 157 ad (EX cs ad) nu30_) t.heap; rw [ht]; exact hP)⟩, hS.F ht⟩) hS.2.2 dX5_walkOn_115
      · have c_5 : v8_30.toInt < y4.toInt := il_nle c_5
        refine lv_iload hx hb dX5_walkOn_39 (lv_at hl 1 rfl) ?_
        refine lv_bipush (v := 7) hx hb dX5_walkOn_41 (by decide) ?_
        refine lv_icmp_ge (tgt := 115) hx hb dX5_walkOn_43 (by decide) (fun c => absurd c (by decide)) (fun _ => ?_)
        refine lv_aload_n hx hb dX5_walkOn_46 rfl (lv_at hl 4 rfl) ?_
        refine lv_aload_n hx hb dX5_walkOn_47 rfl (lv_at hl 5 rfl) ?_
        refine lv_iload hx hb dX5_walkOn_48 (lv_at hl 3 rfl) ?_
        refine lv_iload hx hb dX5_walkOn_50 (lv_at hl 0 rfl) ?_
        refine lv_iload_n hx hb dX5_walkOn_52 rfl (lv_at hl 7 rfl) ?_
        refine lv_iload hx hb dX5_walkOn_53 (lv_at hl 2 rfl) ?_
        refine cr_i (va_runV (As := [.ref (ad 4), .int y1, .int v8_30, .int vu, .int r3]) (rest := []) ⟨hx, hb, hml, hown, hts⟩ (sx_buys l dC dI cs ad nu30_ ok H hP y1 v8_30 vu r3 (by omega)) (cwV 5 hts (wU_V mw_4_34 mw_4_31 mw_4_33 mw_0_14 mw_1_8) rfl rfl rfl (by decide +kernel) ⟨Nat.le_of_ble_eq_true rfl, Nat.le_of_ble_eq_true rfl⟩) ⟨sz_c, va_recv hK hP (ci := 5) (q0 := 32) rfl (gX_32 cs ad nu30_), sz_m hK hz⟩ rfl rfl hl.1 rfl (lv_room (Nat.le_of_ble_eq_true rfl)) dX5_walkOn_55 ⟨Nat.zero_le _, Nat.zero_le _⟩) hS (fun r6 hw6 locs hS => ?_)
        have gr6 : 0 ≤ r6.toInt ∧ r6.toInt ≤ 1 := hw6
        refine lv_if_ne (tgt := 64) hx hb dX5_walkOn_58 (by decide) (fun c_7 => ?_) (fun c_7 => ?_)
        · have c_7 : ¬ r6.toInt = 0 := il_ne c_7
          refine lv_aload_n hx hb dX5_walkOn_64 rfl (lv_at hl 4 rfl) ?_
          refine va_get (D := (dC, dI)) (ci := 5) (v := .ref (ad 54)) (C := RX5) (T := TX5) (N := 15) hx hb hts inG5 hown hK hP 32 (gX_32 cs ad nu30_) rfl 2 (by decide) (hts _ (List.mem_cons_of_mem _ mw_2_48)) (fun _ h9 => h9) rfl dX5_walkOn_65 ?_
          refine lv_iload hx hb dX5_walkOn_68 (lv_at hl 1 rfl) ?_
          refine lv_iload hx hb dX5_walkOn_70 (lv_at hl 0 rfl) ?_
          refine va_iast hx hb hK hP (wR_D nu30_ hD) hS 54 0 (gX_54 cs ad nu30_) rfl (show vp_in 5 7 from (by unfold vp_in; decide)) dX5_walkOn_72 (fun H locs hP _ hS => ?_)
          refine wr_gen (upd (nu30_ 54) (5 : Int32).toNatClampNeg v8_30) hP (rfl) (fun nu8 hn8 hP => ?_)
          have ok := tX_54_s ok (5 : Int32).toNatClampNeg hn8 (by exact ⟨by omega, by omega⟩)
          have ez9 : y4 = nu8 4 6 := ey4.trans (congrFun (up_k hn8 (by decide)) 6).symm
          refine lv_iload hx hb dX5_walkOn_73 (lv_at hl 0 rfl) ?_
          refine lv_aload_n hx hb dX5_walkOn_75 rfl (lv_at hl 4 rfl) ?_
          refine va_get (D := (dC, dI)) (ci := 5) (v := .int (nu8 32 6)) (C := RX5) (T := TX5) (N := 15) hx hb hts inG5 hown hK hP 32 (gX_32 cs ad nu8) rfl 6 (by decide) (hts _ (List.mem_cons_of_mem _ mw_2_54)) (fun _ h9 => h9) rfl dX5_walkOn_76 ?_
          refine lv_topi (fun y10 ey10 => ?_)
          have by10 : y10.toInt = (nu8 32 6).toInt := congrArg Int32.toInt ey10
          have gy10 : 0 ≤ y10.toInt ∧ y10.toInt ≤ 6 := by rw [ey10]; exact rX_32_6 ok
          refine lv_icmp_ne (tgt := 94) hx hb dX5_walkOn_79 (by decide) (fun c_11 => ?_) (fun c_11 => ?_)
          · have c_11 : ¬ v8_30.toInt = y10.toInt := il_ne c_11
            refine lv_aload_n hx hb dX5_walkOn_94 rfl (lv_at hl 4 rfl) ?_
            refine lv_aload_n hx hb dX5_walkOn_95 rfl (lv_at hl 5 rfl) ?_
            refine lv_iload hx hb dX5_walkOn_96 (lv_at hl 1 rfl) ?_
            refine lv_iload_n hx hb dX5_walkOn_98 rfl (lv_at hl 7 rfl) ?_
            refine lv_iconst (v := 1) hx hb dX5_walkOn_99 (by decide) ?_
            refine lv_iload hx hb dX5_walkOn_100 (lv_at hl 0 rfl) ?_
            refine lv_ishl hx hb dX5_walkOn_102 ?_
            refine lv_topi (fun t12 et12 => ?_)
            refine lv_ior hx hb dX5_walkOn_103 ?_
            refine lv_topi (fun t13 et13 => ?_)
            refine lv_iload hx hb dX5_walkOn_104 (lv_at hl 2 rfl) ?_
            have hFc := fr_all (wR_D nu8 hD) hS hA
            refine va_callv (va_runV (As := [.ref (ad 4), .int 5, .int t13, .int r3]) (rest := []) ⟨hx, hb, hml, hown, hts⟩ (sx_walkOn5 l dC dI cs ad nu8 ok H hP ((wR_D nu8 hD).weaken (fun _ _ _ _ => trivial)) t13 r3) (cwV 4 hts (wU_V mw_4_29 mw_4_26 mw_4_28 mw_0_13 mw_1_8) rfl rfl rfl (by decide +kernel) ⟨Nat.le_of_ble_eq_true rfl, Nat.le_of_ble_eq_true rfl⟩) ⟨sz_c, va_recv hK hP (ci := 5) (q0 := 32) rfl (gX_32 cs ad nu8), sz_m hK hz⟩ rfl rfl hl.1 rfl (lv_room (Nat.le_of_ble_eq_true rfl)) dX5_walkOn_106 ⟨Nat.zero_le _, Nat.zero_le _⟩) hS (fun q _ h => hFc q h) hFc (fun xi14 t H14 locs ht hvm hw14 hB hz1 hk1 hS => ?_)
            have hP : va_P (dC, dI) vwCl (wR 157 ad (EX cs ad) xi14) H14 := by rw [← ht]; exact hB
            obtain ⟨ok, hw14, _⟩ := hw14
            refine lv_iinc (v := (v8_30 + 1)) (lv' := [(8, .int (v8_30 + 1)), (7, .int 5), (6, .int r3), (5, .int y1), (0, .ref (ad 32)), (1, .ref (ad 4)), (2, .int 4), (3, .int vu), (4, .int vp)]) hx hb dX5_walkOn_109 hl (k := 0) rfl rfl (by decide) rfl (fun ls hl => ?_)
            refine loc_gen (P := fun w9 => lv_has ls 9 [(8, .int w9), (7, .int 5), (6, .int r3), (5, .int y1), (0, .ref (ad 32)), (1, .ref (ad 4)), (2, .int 4), (3, .int vu), (4, .int vp)]) (v8_30 + 1) hl (fun w15 hw15 hl => ?_)
            have hl : lv_has ls 9 [(8, .int w15), (7, .int 5), (6, .int r3), (5, .int y1), (0, .ref (ad 32)), (1, .ref (ad 4)), (2, .int 4), (3, .int vu), (4, .int vp)] := hl
            have aw15 : w15.toInt = v8_30.toInt + 1 := by rw [← hw15]; exact tI_add (rfl : v8_30.toInt = _) (rfl : (1 : Int32).toInt = 1) (by omega) (by omega)
            refine lv_goto (tgt := 30) hx hb dX5_walkOn_112 (by decide) ?_
            exact ih30 (w15) xi14 _ _ _ (by omega) (by exact ⟨by omega, by omega⟩)  ok hP   hS (lv_sub hl [0, 1, 2, 3, 4, 5, 6, 7, 8] rfl)
          · have c_11 : v8_30.toInt = y10.toInt := il_eq c_11
            refine lv_aload_n hx hb dX5_walkOn_82 rfl (lv_at hl 4 rfl) ?_
            refine lv_iload hx hb dX5_walkOn_83 (lv_at hl 1 rfl) ?_
            refine lv_iload_n hx hb dX5_walkOn_85 rfl (lv_at hl 7 rfl) ?_
            refine lv_iload hx hb dX5_walkOn_86 (lv_at hl 2 rfl) ?_
            have hFc := fr_all (wR_D nu8 hD) hS hA
            refine va_callv (va_runV (As := [.int 5, .int vu, .int r3]) (rest := []) ⟨hx, hb, hml, hown, hts⟩ (sx_R_arrive l dC dI cs ad nu8 ok H hP ((wR_D nu8 hD).weaken (fun _ _ _ _ => trivial)) 5 vu r3 (by have h50 : (5 : Int32).toInt = 5 := rfl; omega)) (cwV 3 hts (wU_V mw_4_39 mw_4_36 mw_4_38 mw_0_15 mw_1_8) rfl rfl rfl (by decide +kernel) ⟨Nat.le_of_ble_eq_true rfl, Nat.le_of_ble_eq_true rfl⟩) ⟨sz_c, va_recv hK hP (ci := 5) (q0 := 32) rfl (gX_32 cs ad nu8), sz_m hK hz⟩ rfl rfl hl.1 rfl (lv_room (Nat.le_of_ble_eq_true rfl)) dX5_walkOn_88 ⟨Nat.zero_le _, Nat.zero_le _⟩) hS (fun q _ h => hFc q h) hFc (fun xi16 t H16 locs ht hvm hw16 hB hz1 hk1 hS => ?_)
            have hP : va_P (dC, dI) vwCl (wR 157 ad (EX cs ad) xi16) H16 := by rw [← ht]; exact hB
            obtain ⟨ok, hw16, _⟩ := hw16
            refine lv_goto (tgt := 109) hx hb dX5_walkOn_91 (by decide) ?_
            refine lv_iinc (v := (v8_30 + 1)) (lv' := [(8, .int (v8_30 + 1)), (7, .int 5), (6, .int r3), (5, .int y1), (0, .ref (ad 32)), (1, .ref (ad 4)), (2, .int 4), (3, .int vu), (4, .int vp)]) hx hb dX5_walkOn_109 hl (k := 0) rfl rfl (by decide) rfl (fun ls hl => ?_)
            refine loc_gen (P := fun w9 => lv_has ls 9 [(8, .int w9), (7, .int 5), (6, .int r3), (5, .int y1), (0, .ref (ad 32)), (1, .ref (ad 4)), (2, .int 4), (3, .int vu), (4, .int vp)]) (v8_30 + 1) hl (fun w17 hw17 hl => ?_)
            have hl : lv_has ls 9 [(8, .int w17), (7, .int 5), (6, .int r3), (5, .int y1), (0, .ref (ad 32)), (1, .ref (ad 4)), (2, .int 4), (3, .int vu), (4, .int vp)] := hl
            have aw17 : w17.toInt = v8_30.toInt + 1 := by rw [← hw17]; exact tI_add (rfl : v8_30.toInt = _) (rfl : (1 : Int32).toInt = 1) (by omega) (by omega)
            refine lv_goto (tgt := 30) hx hb dX5_walkOn_112 (by decide) ?_
            exact ih30 (w17) xi16 _ _ _ (by omega) (by exact ⟨by omega, by omega⟩)  ok hP   hS (lv_sub hl [0, 1, 2, 3, 4, 5, 6, 7, 8] rfl)
        · have c_7 : r6.toInt = 0 := il_eq c_7
          refine lv_goto (tgt := 109) hx hb dX5_walkOn_61 (by decide) ?_
          refine lv_iinc (v := (v8_30 + 1)) (lv' := [(8, .int (v8_30 + 1)), (7, .int 5), (6, .int r3), (5, .int y1), (0, .ref (ad 32)), (1, .ref (ad 4)), (2, .int 4), (3, .int vu), (4, .int vp)]) hx hb dX5_walkOn_109 hl (k := 0) rfl rfl (by decide) rfl (fun ls hl => ?_)
          refine loc_gen (P := fun w9 => lv_has ls 9 [(8, .int w9), (7, .int 5), (6, .int r3), (5, .int y1), (0, .ref (ad 32)), (1, .ref (ad 4)), (2, .int 4), (3, .int vu), (4, .int vp)]) (v8_30 + 1) hl (fun w18 hw18 hl => ?_)
          have hl : lv_has ls 9 [(8, .int w18), (7, .int 5), (6, .int r3), (5, .int y1), (0, .ref (ad 32)), (1, .ref (ad 4)), (2, .int 4), (3, .int vu), (4, .int vp)] := hl
          have aw18 : w18.toInt = v8_30.toInt + 1 := by rw [← hw18]; exact tI_add (rfl : v8_30.toInt = _) (rfl : (1 : Int32).toInt = 1) (by omega) (by omega)
          refine lv_goto (tgt := 30) hx hb dX5_walkOn_112 (by decide) ?_
          exact ih30 (w18) nu30_ _ _ _ (by omega) (by exact ⟨by omega, by omega⟩)  ok hP   hS (lv_sub hl [0, 1, 2, 3, 4, 5, 6, 7, 8] rfl)
  exact loop30 ((7 + 1 - (0 : Int32).toInt).toNat + 1) (0) mu _ _ _ (Nat.lt_succ_self _) (by have h80 : (0 : Int32).toInt = 0 := rfl; exact ⟨by omega, by omega⟩)  ok hP   hS hl
set_option maxHeartbeats 4000000 in
set_option maxRecDepth 100000 in
/-- sx_walkOn3 -/
theorem sx_walkOn3 (l : Launch) (dC : Nat → ClassId) (dI : Nat → Nat → Nat) (cs : Nat → ClassId) (ad : Nat → Nat) (mu : Nat → Nat → Int32) (ok : okR loX hiX mu) (H : Heap) (hP : va_P (dC, dI) vwCl (wR 157 ad (EX cs ad) mu) H) (hD0 : va_D (fun _ => True) (wR 157 ad (EX cs ad) mu)) (vu : Int32) (vp : Int32) : Met l yX5_walkOn (wU yX5_walkOn cX5_walkOn 9 none) ({ frames := 5, cells := 0, slots := 0, locals := 163 }) (va_Pc [.ref (ad 32), .ref (ad 4), .int 3, .int vu, .int vp] (sz_P (dC, dI) vwCl (tyW cs) H)) (va_Qv (fun (xi : Nat → Nat → Int32) => okR loX hiX xi ∧ (True) ∧ True) (fun xi t => va_P (dC, dI) vwCl (wR 157 ad (EX cs ad) xi) t.heap) (va_A (wR 157 ad (EX cs ad) mu) H.size)) 0 0 (va_A (wR 157 ad (EX cs ad) mu) H.size) := by
  refine Met.ofW (cc := cX5_walkOn) (maxL := 9) (ret := none) (by decide) rfl ?_
  intro p e s m args below meth c s₁ B hml hv
  obtain ⟨rfl, hh, hK, hz⟩ := hv
  have hx := B.exec
  have hb := B.bytes
  have hr := B.returns
  have hts := atoms_spec (ws := (wU yX5_walkOn cX5_walkOn 9 none)) B.pre
  have hown : s.vm.findClass RX5 = some m.cls := findClass_of_methodNamed B.named
  have hlocks := B.notSynchronized
  subst hh
  have hD := hD0.self (sz := s.heap.size)
  have hA : ∀ q : Nat, s.heap.size ≤ q → (va_A (wR 157 ad (EX cs ad) mu) s.heap.size) q := fun q h => Or.inr h
  have hS : va_S (va_A (wR 157 ad (EX cs ad) mu) s.heap.size) s.heap s.heap [] := va_S.rf
  have hl := lv_entry ([.ref (ad 32), .ref (ad 4), .int 3, .int vu, .int vp]) (n := 9) (Nat.le_of_ble_eq_true rfl)
  rw [lg_entry_eq]
  generalize (lg_sl ([.ref (ad 32), .ref (ad 4), .int 3, .int vu, .int vp]) ++ List.replicate (9 - (lg_sl ([.ref (ad 32), .ref (ad 4), .int 3, .int vu, .int vp])).length) Slot.unset).toArray = ls at hl ⊢
  have hl : lv_has ls 9 [(0, .ref (ad 32)), (1, .ref (ad 4)), (2, .int 3), (3, .int vu), (4, .int vp)] := hl
  refine lv_aload_n hx hb dX5_walkOn_0 rfl (lv_at hl 0 rfl) ?_
  refine va_get (D := (dC, dI)) (ci := 5) (v := .ref (ad 54)) (C := RX5) (T := TX5) (N := 15) hx hb hts inG5 hown hK hP 32 (gX_32 cs ad mu) rfl 2 (by decide) (hts _ (List.mem_cons_of_mem _ mw_2_48)) (fun _ h9 => h9) rfl dX5_walkOn_1 ?_
  refine lv_iload_n hx hb dX5_walkOn_4 rfl (lv_at hl 2 rfl) ?_
  refine va_iald hx hb hK hP 54 0 (gX_54 cs ad mu) rfl (show vp_in 3 7 from (by unfold vp_in; decide)) dX5_walkOn_5 ?_
  refine lv_topi (fun y1 ey1 => ?_)
  have by1 : y1.toInt = (mu 54 (3 : Int32).toNatClampNeg).toInt := congrArg Int32.toInt ey1
  have gy1 : 0 ≤ y1.toInt ∧ y1.toInt ≤ 6 := by rw [ey1]; exact rX_54_s ok (3 : Int32).toNatClampNeg
  refine lv_istore (lv' := [(5, .int y1), (0, .ref (ad 32)), (1, .ref (ad 4)), (2, .int 3), (3, .int vu), (4, .int vp)]) hx hb dX5_walkOn_6 hl (by decide) rfl (fun ls hl => ?_)
  refine lv_aload_n hx hb dX5_walkOn_8 rfl (lv_at hl 2 rfl) ?_
  refine va_get (D := (dC, dI)) (ci := 10) (v := .ref (ad 34)) (C := RX10) (T := TX10) (N := 8) hx hb hts inG10 hown hK hP 4 (gX_4 cs ad mu) rfl 0 (by decide) (hts _ (List.mem_cons_of_mem _ mw_1_146)) (fun _ h9 => h9) rfl dX5_walkOn_9 ?_
  refine lv_iload hx hb dX5_walkOn_12 (lv_at hl 0 rfl) ?_
  refine va_iald hx hb hK hP 34 0 (gX_34 cs ad mu) rfl (show vp_in y1 7 from vi_of (by omega) (by omega)) dX5_walkOn_14 ?_
  refine lv_topi (fun y2 ey2 => ?_)
  have by2 : y2.toInt = (mu 34 y1.toNatClampNeg).toInt := congrArg Int32.toInt ey2
  refine lv_iload hx hb dX5_walkOn_15 (lv_at hl 5 rfl) ?_
  refine cr_i (va_runSN (As := [.int y2, .int vp]) (rest := []) ⟨hx, hb, hml, hown, hts⟩ (sx_priceAsked l dC dI (tyW cs) s.heap y2 vp) ⟨va_cnB 2 hts (wU_in mw_3_107) rfl rfl rfl (hz.2.2.2.2.2.2.2.2.2.2.2.2.2.1) (hts _ (List.mem_cons_of_mem _ mw_1_1)) (by decide +kernel) ⟨Nat.le_of_ble_eq_true rfl, Nat.le_of_ble_eq_true rfl⟩, (hts _ (List.mem_cons_of_mem _ mw_3_106)), trivial⟩ ⟨sz_c, sz_m hK hz⟩ rfl rfl hl.1 rfl (lv_room (Nat.le_of_ble_eq_true rfl)) dX5_walkOn_17 ⟨Nat.zero_le _, Nat.zero_le _⟩) hS (fun r3 hw3 locs hS => ?_)
  refine lv_istore (lv' := [(6, .int r3), (5, .int y1), (0, .ref (ad 32)), (1, .ref (ad 4)), (2, .int 3), (3, .int vu), (4, .int vp)]) hx hb dX5_walkOn_20 hl (by decide) rfl (fun ls hl => ?_)
  refine lv_iload_n hx hb dX5_walkOn_22 rfl (lv_at hl 4 rfl) ?_
  refine lv_iconst (v := 1) hx hb dX5_walkOn_23 (by decide) ?_
  refine lv_iadd hx hb dX5_walkOn_24 ?_
  refine lq_i 4 (by decide) ?_
  refine lv_istore (lv' := [(7, .int 4), (6, .int r3), (5, .int y1), (0, .ref (ad 32)), (1, .ref (ad 4)), (2, .int 3), (3, .int vu), (4, .int vp)]) hx hb dX5_walkOn_25 hl (by decide) rfl (fun ls hl => ?_)
  refine lv_iconst (v := 0) hx hb dX5_walkOn_27 (by decide) ?_
  refine lv_istore (lv' := [(8, .int 0), (7, .int 4), (6, .int r3), (5, .int y1), (0, .ref (ad 32)), (1, .ref (ad 4)), (2, .int 3), (3, .int vu), (4, .int vp)]) hx hb dX5_walkOn_28 hl (by decide) rfl (fun ls hl => ?_)
  have loop30 : ∀ (n30 : Nat) (v8_30 : Int32) (nu30_ : Nat → Nat → Int32) (H : Heap) (locs : List Loc) (ls : Array Slot), (7 + 1 - v8_30.toInt).toNat < n30 → (0 ≤ v8_30.toInt ∧ v8_30.toInt ≤ 7) → okR loX hiX nu30_ → va_P (dC, dI) vwCl (wR 157 ad (EX cs ad) nu30_) H → va_S (va_A (wR 157 ad (EX cs ad) mu) s.heap.size) s.heap H locs → lv_has ls 9 [(8, .int v8_30), (7, .int 4), (6, .int r3), (5, .int y1), (0, .ref (ad 32)), (1, .ref (ad 4)), (2, .int 3), (3, .int vu), (4, .int vp)] → W p l e (headSpec (wU yX5_walkOn cX5_walkOn 9 none) ({ frames := 5, cells := 0, slots := 0, locals := 163 })).room s m ([.ref (ad 32), .ref (ad 4), .int 3, .int vu, .int vp] : List Value).toArray below meth c H locs 0 0 (MQ below (va_Qv (fun (xi : Nat → Nat → Int32) => okR loX hiX xi ∧ (True) ∧ True) (fun xi t => va_P (dC, dI) vwCl (wR 157 ad (EX cs ad) xi) t.heap) (va_A (wR 157 ad (EX cs ad) mu) s.heap.size)) ([.ref (ad 32), .ref (ad 4), .int 3, .int vu, .int vp] : List Value).toArray s 0 0 (va_A (wR 157 ad (EX cs ad) mu) s.heap.size)) (F0 m 30 ls []) := by
    intro n30
    induction n30 with
    | zero => intro v8_30 nu30_ H locs ls hm; exact absurd hm (Nat.not_lt_zero _)
    | succ n30 ih30 =>
      intro v8_30 nu30_ H locs ls hm h_v8_30 ok hP hS hl
      refine lv_iload hx hb dX5_walkOn_30 (lv_at hl 0 rfl) ?_
      refine lv_aload_n hx hb dX5_walkOn_32 rfl (lv_at hl 5 rfl) ?_
      refine va_get (D := (dC, dI)) (ci := 10) (v := .int (nu30_ 4 6)) (C := RX10) (T := TX10) (N := 8) hx hb hts inG10 hown hK hP 4 (gX_4 cs ad nu30_) rfl 6 (by decide) (hts _ (List.mem_cons_of_mem _ mw_1_162)) (fun _ h9 => h9) rfl dX5_walkOn_33 ?_
      refine lv_topi (fun y4 ey4 => ?_)
      have by4 : y4.toInt = (nu30_ 4 6).toInt := congrArg Int32.toInt ey4
      have gy4 : 0 ≤ y4.toInt ∧ y4.toInt ≤ 7 := by rw [ey4]; exact rX_4_6 ok
      refine lv_icmp_ge (tgt := 115) hx hb dX5_walkOn_36 (by decide) (fun c_5 => ?_) (fun c_5 => ?_)
      · have c_5 : y4.toInt ≤ v8_30.toInt := il_le c_5
        exact W.vret hx hb hr (fun t ht hW => ⟨⟨nu30_, rfl, ⟨ok, trivial, trivial⟩, by first | (subst ht; exact hP) | (rw [ht]; exact hP) | (show va_P (dC, dI) vwCl (wR 157 ad (EX cs ad) nu30_) t.heap; rw [ht]; exact hP)⟩, hS.F ht⟩) hS.2.2 dX5_walkOn_115
      · have c_5 : v8_30.toInt < y4.toInt := il_nle c_5
        refine lv_iload hx hb dX5_walkOn_39 (lv_at hl 1 rfl) ?_
        refine lv_bipush (v := 7) hx hb dX5_walkOn_41 (by decide) ?_
        refine lv_icmp_ge (tgt := 115) hx hb dX5_walkOn_43 (by decide) (fun c => absurd c (by decide)) (fun _ => ?_)
        refine lv_aload_n hx hb dX5_walkOn_46 rfl (lv_at hl 4 rfl) ?_
        refine lv_aload_n hx hb dX5_walkOn_47 rfl (lv_at hl 5 rfl) ?_
        refine lv_iload hx hb dX5_walkOn_48 (lv_at hl 3 rfl) ?_
        refine lv_iload hx hb dX5_walkOn_50 (lv_at hl 0 rfl) ?_
        refine lv_iload_n hx hb dX5_walkOn_52 rfl (lv_at hl 7 rfl) ?_
        refine lv_iload hx hb dX5_walkOn_53 (lv_at hl 2 rfl) ?_
        refine cr_i (va_runV (As := [.ref (ad 4), .int y1, .int v8_30, .int vu, .int r3]) (rest := []) ⟨hx, hb, hml, hown, hts⟩ (sx_buys l dC dI cs ad nu30_ ok H hP y1 v8_30 vu r3 (by omega)) (cwV 5 hts (wU_V mw_4_34 mw_4_31 mw_4_33 mw_0_14 mw_1_8) rfl rfl rfl (by decide +kernel) ⟨Nat.le_of_ble_eq_true rfl, Nat.le_of_ble_eq_true rfl⟩) ⟨sz_c, va_recv hK hP (ci := 5) (q0 := 32) rfl (gX_32 cs ad nu30_), sz_m hK hz⟩ rfl rfl hl.1 rfl (lv_room (Nat.le_of_ble_eq_true rfl)) dX5_walkOn_55 ⟨Nat.zero_le _, Nat.zero_le _⟩) hS (fun r6 hw6 locs hS => ?_)
        have gr6 : 0 ≤ r6.toInt ∧ r6.toInt ≤ 1 := hw6
        refine lv_if_ne (tgt := 64) hx hb dX5_walkOn_58 (by decide) (fun c_7 => ?_) (fun c_7 => ?_)
        · have c_7 : ¬ r6.toInt = 0 := il_ne c_7
          refine lv_aload_n hx hb dX5_walkOn_64 rfl (lv_at hl 4 rfl) ?_
          refine va_get (D := (dC, dI)) (ci := 5) (v := .ref (ad 54)) (C := RX5) (T := TX5) (N := 15) hx hb hts inG5 hown hK hP 32 (gX_32 cs ad nu30_) rfl 2 (by decide) (hts _ (List.mem_cons_of_mem _ mw_2_48)) (fun _ h9 => h9) rfl dX5_walkOn_65 ?_
          refine lv_iload hx hb dX5_walkOn_68 (lv_at hl 1 rfl) ?_
          refine lv_iload hx hb dX5_walkOn_70 (lv_at hl 0 rfl) ?_
          refine va_iast hx hb hK hP (wR_D nu30_ hD) hS 54 0 (gX_54 cs ad nu30_) rfl (show vp_in 4 7 from (by unfold vp_in; decide)) dX5_walkOn_72 (fun H locs hP _ hS => ?_)
          refine wr_gen (upd (nu30_ 54) (4 : Int32).toNatClampNeg v8_30) hP (rfl) (fun nu8 hn8 hP => ?_)
          have ok := tX_54_s ok (4 : Int32).toNatClampNeg hn8 (by exact ⟨by omega, by omega⟩)
          have ez9 : y4 = nu8 4 6 := ey4.trans (congrFun (up_k hn8 (by decide)) 6).symm
          refine lv_iload hx hb dX5_walkOn_73 (lv_at hl 0 rfl) ?_
          refine lv_aload_n hx hb dX5_walkOn_75 rfl (lv_at hl 4 rfl) ?_
          refine va_get (D := (dC, dI)) (ci := 5) (v := .int (nu8 32 6)) (C := RX5) (T := TX5) (N := 15) hx hb hts inG5 hown hK hP 32 (gX_32 cs ad nu8) rfl 6 (by decide) (hts _ (List.mem_cons_of_mem _ mw_2_54)) (fun _ h9 => h9) rfl dX5_walkOn_76 ?_
          refine lv_topi (fun y10 ey10 => ?_)
          have by10 : y10.toInt = (nu8 32 6).toInt := congrArg Int32.toInt ey10
          have gy10 : 0 ≤ y10.toInt ∧ y10.toInt ≤ 6 := by rw [ey10]; exact rX_32_6 ok
          refine lv_icmp_ne (tgt := 94) hx hb dX5_walkOn_79 (by decide) (fun c_11 => ?_) (fun c_11 => ?_)
          · have c_11 : ¬ v8_30.toInt = y10.toInt := il_ne c_11
            refine lv_aload_n hx hb dX5_walkOn_94 rfl (lv_at hl 4 rfl) ?_
            refine lv_aload_n hx hb dX5_walkOn_95 rfl (lv_at hl 5 rfl) ?_
            refine lv_iload hx hb dX5_walkOn_96 (lv_at hl 1 rfl) ?_
            refine lv_iload_n hx hb dX5_walkOn_98 rfl (lv_at hl 7 rfl) ?_
            refine lv_iconst (v := 1) hx hb dX5_walkOn_99 (by decide) ?_
            refine lv_iload hx hb dX5_walkOn_100 (lv_at hl 0 rfl) ?_
            refine lv_ishl hx hb dX5_walkOn_102 ?_
            refine lv_topi (fun t12 et12 => ?_)
            refine lv_ior hx hb dX5_walkOn_103 ?_
            refine lv_topi (fun t13 et13 => ?_)
            refine lv_iload hx hb dX5_walkOn_104 (lv_at hl 2 rfl) ?_
            have hFc := fr_all (wR_D nu8 hD) hS hA
            refine va_callv (va_runV (As := [.ref (ad 4), .int 4, .int t13, .int r3]) (rest := []) ⟨hx, hb, hml, hown, hts⟩ (sx_walkOn4 l dC dI cs ad nu8 ok H hP ((wR_D nu8 hD).weaken (fun _ _ _ _ => trivial)) t13 r3) (cwV 4 hts (wU_V mw_4_29 mw_4_26 mw_4_28 mw_0_13 mw_1_8) rfl rfl rfl (by decide +kernel) ⟨Nat.le_of_ble_eq_true rfl, Nat.le_of_ble_eq_true rfl⟩) ⟨sz_c, va_recv hK hP (ci := 5) (q0 := 32) rfl (gX_32 cs ad nu8), sz_m hK hz⟩ rfl rfl hl.1 rfl (lv_room (Nat.le_of_ble_eq_true rfl)) dX5_walkOn_106 ⟨Nat.zero_le _, Nat.zero_le _⟩) hS (fun q _ h => hFc q h) hFc (fun xi14 t H14 locs ht hvm hw14 hB hz1 hk1 hS => ?_)
            have hP : va_P (dC, dI) vwCl (wR 157 ad (EX cs ad) xi14) H14 := by rw [← ht]; exact hB
            obtain ⟨ok, hw14, _⟩ := hw14
            refine lv_iinc (v := (v8_30 + 1)) (lv' := [(8, .int (v8_30 + 1)), (7, .int 4), (6, .int r3), (5, .int y1), (0, .ref (ad 32)), (1, .ref (ad 4)), (2, .int 3), (3, .int vu), (4, .int vp)]) hx hb dX5_walkOn_109 hl (k := 0) rfl rfl (by decide) rfl (fun ls hl => ?_)
            refine loc_gen (P := fun w9 => lv_has ls 9 [(8, .int w9), (7, .int 4), (6, .int r3), (5, .int y1), (0, .ref (ad 32)), (1, .ref (ad 4)), (2, .int 3), (3, .int vu), (4, .int vp)]) (v8_30 + 1) hl (fun w15 hw15 hl => ?_)
            have hl : lv_has ls 9 [(8, .int w15), (7, .int 4), (6, .int r3), (5, .int y1), (0, .ref (ad 32)), (1, .ref (ad 4)), (2, .int 3), (3, .int vu), (4, .int vp)] := hl
            have aw15 : w15.toInt = v8_30.toInt + 1 := by rw [← hw15]; exact tI_add (rfl : v8_30.toInt = _) (rfl : (1 : Int32).toInt = 1) (by omega) (by omega)
            refine lv_goto (tgt := 30) hx hb dX5_walkOn_112 (by decide) ?_
            exact ih30 (w15) xi14 _ _ _ (by omega) (by exact ⟨by omega, by omega⟩)  ok hP   hS (lv_sub hl [0, 1, 2, 3, 4, 5, 6, 7, 8] rfl)
          · have c_11 : v8_30.toInt = y10.toInt := il_eq c_11
            refine lv_aload_n hx hb dX5_walkOn_82 rfl (lv_at hl 4 rfl) ?_
            refine lv_iload hx hb dX5_walkOn_83 (lv_at hl 1 rfl) ?_
            refine lv_iload_n hx hb dX5_walkOn_85 rfl (lv_at hl 7 rfl) ?_
            refine lv_iload hx hb dX5_walkOn_86 (lv_at hl 2 rfl) ?_
            have hFc := fr_all (wR_D nu8 hD) hS hA
            refine va_callv (va_runV (As := [.int 4, .int vu, .int r3]) (rest := []) ⟨hx, hb, hml, hown, hts⟩ (sx_R_arrive l dC dI cs ad nu8 ok H hP ((wR_D nu8 hD).weaken (fun _ _ _ _ => trivial)) 4 vu r3 (by have h50 : (4 : Int32).toInt = 4 := rfl; omega)) (cwV 3 hts (wU_V mw_4_39 mw_4_36 mw_4_38 mw_0_15 mw_1_8) rfl rfl rfl (by decide +kernel) ⟨Nat.le_of_ble_eq_true rfl, Nat.le_of_ble_eq_true rfl⟩) ⟨sz_c, va_recv hK hP (ci := 5) (q0 := 32) rfl (gX_32 cs ad nu8), sz_m hK hz⟩ rfl rfl hl.1 rfl (lv_room (Nat.le_of_ble_eq_true rfl)) dX5_walkOn_88 ⟨Nat.zero_le _, Nat.zero_le _⟩) hS (fun q _ h => hFc q h) hFc (fun xi16 t H16 locs ht hvm hw16 hB hz1 hk1 hS => ?_)
            have hP : va_P (dC, dI) vwCl (wR 157 ad (EX cs ad) xi16) H16 := by rw [← ht]; exact hB
            obtain ⟨ok, hw16, _⟩ := hw16
            refine lv_goto (tgt := 109) hx hb dX5_walkOn_91 (by decide) ?_
            refine lv_iinc (v := (v8_30 + 1)) (lv' := [(8, .int (v8_30 + 1)), (7, .int 4), (6, .int r3), (5, .int y1), (0, .ref (ad 32)), (1, .ref (ad 4)), (2, .int 3), (3, .int vu), (4, .int vp)]) hx hb dX5_walkOn_109 hl (k := 0) rfl rfl (by decide) rfl (fun ls hl => ?_)
            refine loc_gen (P := fun w9 => lv_has ls 9 [(8, .int w9), (7, .int 4), (6, .int r3), (5, .int y1), (0, .ref (ad 32)), (1, .ref (ad 4)), (2, .int 3), (3, .int vu), (4, .int vp)]) (v8_30 + 1) hl (fun w17 hw17 hl => ?_)
            have hl : lv_has ls 9 [(8, .int w17), (7, .int 4), (6, .int r3), (5, .int y1), (0, .ref (ad 32)), (1, .ref (ad 4)), (2, .int 3), (3, .int vu), (4, .int vp)] := hl
            have aw17 : w17.toInt = v8_30.toInt + 1 := by rw [← hw17]; exact tI_add (rfl : v8_30.toInt = _) (rfl : (1 : Int32).toInt = 1) (by omega) (by omega)
            refine lv_goto (tgt := 30) hx hb dX5_walkOn_112 (by decide) ?_
            exact ih30 (w17) xi16 _ _ _ (by omega) (by exact ⟨by omega, by omega⟩)  ok hP   hS (lv_sub hl [0, 1, 2, 3, 4, 5, 6, 7, 8] rfl)
        · have c_7 : r6.toInt = 0 := il_eq c_7
          refine lv_goto (tgt := 109) hx hb dX5_walkOn_61 (by decide) ?_
          refine lv_iinc (v := (v8_30 + 1)) (lv' := [(8, .int (v8_30 + 1)), (7, .int 4), (6, .int r3), (5, .int y1), (0, .ref (ad 32)), (1, .ref (ad 4)), (2, .int 3), (3, .int vu), (4, .int vp)]) hx hb dX5_walkOn_109 hl (k := 0) rfl rfl (by decide) rfl (fun ls hl => ?_)
          refine loc_gen (P := fun w9 => lv_has ls 9 [(8, .int w9), (7, .int 4), (6, .int r3), (5, .int y1), (0, .ref (ad 32)), (1, .ref (ad 4)), (2, .int 3), (3, .int vu), (4, .int vp)]) (v8_30 + 1) hl (fun w18 hw18 hl => ?_)
          have hl : lv_has ls 9 [(8, .int w18), (7, .int 4), (6, .int r3), (5, .int y1), (0, .ref (ad 32)), (1, .ref (ad 4)), (2, .int 3), (3, .int vu), (4, .int vp)] := hl
          have aw18 : w18.toInt = v8_30.toInt + 1 := by rw [← hw18]; exact tI_add (rfl : v8_30.toInt = _) (rfl : (1 : Int32).toInt = 1) (by omega) (by omega)
          refine lv_goto (tgt := 30) hx hb dX5_walkOn_112 (by decide) ?_
          exact ih30 (w18) nu30_ _ _ _ (by omega) (by exact ⟨by omega, by omega⟩)  ok hP   hS (lv_sub hl [0, 1, 2, 3, 4, 5, 6, 7, 8] rfl)
  exact loop30 ((7 + 1 - (0 : Int32).toInt).toNat + 1) (0) mu _ _ _ (Nat.lt_succ_self _) (by have h80 : (0 : Int32).toInt = 0 := rfl; exact ⟨by omega, by omega⟩)  ok hP   hS hl
set_option maxHeartbeats 4000000 in
set_option maxRecDepth 100000 in
/-- sx_walkOn2 -/
theorem sx_walkOn2 (l : Launch) (dC : Nat → ClassId) (dI : Nat → Nat → Nat) (cs : Nat → ClassId) (ad : Nat → Nat) (mu : Nat → Nat → Int32) (ok : okR loX hiX mu) (H : Heap) (hP : va_P (dC, dI) vwCl (wR 157 ad (EX cs ad) mu) H) (hD0 : va_D (fun _ => True) (wR 157 ad (EX cs ad) mu)) (vu : Int32) (vp : Int32) : Met l yX5_walkOn (wU yX5_walkOn cX5_walkOn 9 none) ({ frames := 6, cells := 0, slots := 0, locals := 191 }) (va_Pc [.ref (ad 32), .ref (ad 4), .int 2, .int vu, .int vp] (sz_P (dC, dI) vwCl (tyW cs) H)) (va_Qv (fun (xi : Nat → Nat → Int32) => okR loX hiX xi ∧ (True) ∧ True) (fun xi t => va_P (dC, dI) vwCl (wR 157 ad (EX cs ad) xi) t.heap) (va_A (wR 157 ad (EX cs ad) mu) H.size)) 0 0 (va_A (wR 157 ad (EX cs ad) mu) H.size) := by
  refine Met.ofW (cc := cX5_walkOn) (maxL := 9) (ret := none) (by decide) rfl ?_
  intro p e s m args below meth c s₁ B hml hv
  obtain ⟨rfl, hh, hK, hz⟩ := hv
  have hx := B.exec
  have hb := B.bytes
  have hr := B.returns
  have hts := atoms_spec (ws := (wU yX5_walkOn cX5_walkOn 9 none)) B.pre
  have hown : s.vm.findClass RX5 = some m.cls := findClass_of_methodNamed B.named
  have hlocks := B.notSynchronized
  subst hh
  have hD := hD0.self (sz := s.heap.size)
  have hA : ∀ q : Nat, s.heap.size ≤ q → (va_A (wR 157 ad (EX cs ad) mu) s.heap.size) q := fun q h => Or.inr h
  have hS : va_S (va_A (wR 157 ad (EX cs ad) mu) s.heap.size) s.heap s.heap [] := va_S.rf
  have hl := lv_entry ([.ref (ad 32), .ref (ad 4), .int 2, .int vu, .int vp]) (n := 9) (Nat.le_of_ble_eq_true rfl)
  rw [lg_entry_eq]
  generalize (lg_sl ([.ref (ad 32), .ref (ad 4), .int 2, .int vu, .int vp]) ++ List.replicate (9 - (lg_sl ([.ref (ad 32), .ref (ad 4), .int 2, .int vu, .int vp])).length) Slot.unset).toArray = ls at hl ⊢
  have hl : lv_has ls 9 [(0, .ref (ad 32)), (1, .ref (ad 4)), (2, .int 2), (3, .int vu), (4, .int vp)] := hl
  refine lv_aload_n hx hb dX5_walkOn_0 rfl (lv_at hl 0 rfl) ?_
  refine va_get (D := (dC, dI)) (ci := 5) (v := .ref (ad 54)) (C := RX5) (T := TX5) (N := 15) hx hb hts inG5 hown hK hP 32 (gX_32 cs ad mu) rfl 2 (by decide) (hts _ (List.mem_cons_of_mem _ mw_2_48)) (fun _ h9 => h9) rfl dX5_walkOn_1 ?_
  refine lv_iload_n hx hb dX5_walkOn_4 rfl (lv_at hl 2 rfl) ?_
  refine va_iald hx hb hK hP 54 0 (gX_54 cs ad mu) rfl (show vp_in 2 7 from (by unfold vp_in; decide)) dX5_walkOn_5 ?_
  refine lv_topi (fun y1 ey1 => ?_)
  have by1 : y1.toInt = (mu 54 (2 : Int32).toNatClampNeg).toInt := congrArg Int32.toInt ey1
  have gy1 : 0 ≤ y1.toInt ∧ y1.toInt ≤ 6 := by rw [ey1]; exact rX_54_s ok (2 : Int32).toNatClampNeg
  refine lv_istore (lv' := [(5, .int y1), (0, .ref (ad 32)), (1, .ref (ad 4)), (2, .int 2), (3, .int vu), (4, .int vp)]) hx hb dX5_walkOn_6 hl (by decide) rfl (fun ls hl => ?_)
  refine lv_aload_n hx hb dX5_walkOn_8 rfl (lv_at hl 2 rfl) ?_
  refine va_get (D := (dC, dI)) (ci := 10) (v := .ref (ad 34)) (C := RX10) (T := TX10) (N := 8) hx hb hts inG10 hown hK hP 4 (gX_4 cs ad mu) rfl 0 (by decide) (hts _ (List.mem_cons_of_mem _ mw_1_146)) (fun _ h9 => h9) rfl dX5_walkOn_9 ?_
  refine lv_iload hx hb dX5_walkOn_12 (lv_at hl 0 rfl) ?_
  refine va_iald hx hb hK hP 34 0 (gX_34 cs ad mu) rfl (show vp_in y1 7 from vi_of (by omega) (by omega)) dX5_walkOn_14 ?_
  refine lv_topi (fun y2 ey2 => ?_)
  have by2 : y2.toInt = (mu 34 y1.toNatClampNeg).toInt := congrArg Int32.toInt ey2
  refine lv_iload hx hb dX5_walkOn_15 (lv_at hl 5 rfl) ?_
  refine cr_i (va_runSN (As := [.int y2, .int vp]) (rest := []) ⟨hx, hb, hml, hown, hts⟩ (sx_priceAsked l dC dI (tyW cs) s.heap y2 vp) ⟨va_cnB 2 hts (wU_in mw_3_107) rfl rfl rfl (hz.2.2.2.2.2.2.2.2.2.2.2.2.2.1) (hts _ (List.mem_cons_of_mem _ mw_1_1)) (by decide +kernel) ⟨Nat.le_of_ble_eq_true rfl, Nat.le_of_ble_eq_true rfl⟩, (hts _ (List.mem_cons_of_mem _ mw_3_106)), trivial⟩ ⟨sz_c, sz_m hK hz⟩ rfl rfl hl.1 rfl (lv_room (Nat.le_of_ble_eq_true rfl)) dX5_walkOn_17 ⟨Nat.zero_le _, Nat.zero_le _⟩) hS (fun r3 hw3 locs hS => ?_)
  refine lv_istore (lv' := [(6, .int r3), (5, .int y1), (0, .ref (ad 32)), (1, .ref (ad 4)), (2, .int 2), (3, .int vu), (4, .int vp)]) hx hb dX5_walkOn_20 hl (by decide) rfl (fun ls hl => ?_)
  refine lv_iload_n hx hb dX5_walkOn_22 rfl (lv_at hl 4 rfl) ?_
  refine lv_iconst (v := 1) hx hb dX5_walkOn_23 (by decide) ?_
  refine lv_iadd hx hb dX5_walkOn_24 ?_
  refine lq_i 3 (by decide) ?_
  refine lv_istore (lv' := [(7, .int 3), (6, .int r3), (5, .int y1), (0, .ref (ad 32)), (1, .ref (ad 4)), (2, .int 2), (3, .int vu), (4, .int vp)]) hx hb dX5_walkOn_25 hl (by decide) rfl (fun ls hl => ?_)
  refine lv_iconst (v := 0) hx hb dX5_walkOn_27 (by decide) ?_
  refine lv_istore (lv' := [(8, .int 0), (7, .int 3), (6, .int r3), (5, .int y1), (0, .ref (ad 32)), (1, .ref (ad 4)), (2, .int 2), (3, .int vu), (4, .int vp)]) hx hb dX5_walkOn_28 hl (by decide) rfl (fun ls hl => ?_)
  have loop30 : ∀ (n30 : Nat) (v8_30 : Int32) (nu30_ : Nat → Nat → Int32) (H : Heap) (locs : List Loc) (ls : Array Slot), (7 + 1 - v8_30.toInt).toNat < n30 → (0 ≤ v8_30.toInt ∧ v8_30.toInt ≤ 7) → okR loX hiX nu30_ → va_P (dC, dI) vwCl (wR 157 ad (EX cs ad) nu30_) H → va_S (va_A (wR 157 ad (EX cs ad) mu) s.heap.size) s.heap H locs → lv_has ls 9 [(8, .int v8_30), (7, .int 3), (6, .int r3), (5, .int y1), (0, .ref (ad 32)), (1, .ref (ad 4)), (2, .int 2), (3, .int vu), (4, .int vp)] → W p l e (headSpec (wU yX5_walkOn cX5_walkOn 9 none) ({ frames := 6, cells := 0, slots := 0, locals := 191 })).room s m ([.ref (ad 32), .ref (ad 4), .int 2, .int vu, .int vp] : List Value).toArray below meth c H locs 0 0 (MQ below (va_Qv (fun (xi : Nat → Nat → Int32) => okR loX hiX xi ∧ (True) ∧ True) (fun xi t => va_P (dC, dI) vwCl (wR 157 ad (EX cs ad) xi) t.heap) (va_A (wR 157 ad (EX cs ad) mu) s.heap.size)) ([.ref (ad 32), .ref (ad 4), .int 2, .int vu, .int vp] : List Value).toArray s 0 0 (va_A (wR 157 ad (EX cs ad) mu) s.heap.size)) (F0 m 30 ls []) := by
    intro n30
    induction n30 with
    | zero => intro v8_30 nu30_ H locs ls hm; exact absurd hm (Nat.not_lt_zero _)
    | succ n30 ih30 =>
      intro v8_30 nu30_ H locs ls hm h_v8_30 ok hP hS hl
      refine lv_iload hx hb dX5_walkOn_30 (lv_at hl 0 rfl) ?_
      refine lv_aload_n hx hb dX5_walkOn_32 rfl (lv_at hl 5 rfl) ?_
      refine va_get (D := (dC, dI)) (ci := 10) (v := .int (nu30_ 4 6)) (C := RX10) (T := TX10) (N := 8) hx hb hts inG10 hown hK hP 4 (gX_4 cs ad nu30_) rfl 6 (by decide) (hts _ (List.mem_cons_of_mem _ mw_1_162)) (fun _ h9 => h9) rfl dX5_walkOn_33 ?_
      refine lv_topi (fun y4 ey4 => ?_)
      have by4 : y4.toInt = (nu30_ 4 6).toInt := congrArg Int32.toInt ey4
      have gy4 : 0 ≤ y4.toInt ∧ y4.toInt ≤ 7 := by rw [ey4]; exact rX_4_6 ok
      refine lv_icmp_ge (tgt := 115) hx hb dX5_walkOn_36 (by decide) (fun c_5 => ?_) (fun c_5 => ?_)
      · have c_5 : y4.toInt ≤ v8_30.toInt := il_le c_5
        exact W.vret hx hb hr (fun t ht hW => ⟨⟨nu30_, rfl, ⟨ok, trivial, trivial⟩, by first | (subst ht; exact hP) | (rw [ht]; exact hP) | (show va_P (dC, dI) vwCl (wR 157 ad (EX cs ad) nu30_) t.heap; rw [ht]; exact hP)⟩, hS.F ht⟩) hS.2.2 dX5_walkOn_115
      · have c_5 : v8_30.toInt < y4.toInt := il_nle c_5
        refine lv_iload hx hb dX5_walkOn_39 (lv_at hl 1 rfl) ?_
        refine lv_bipush (v := 7) hx hb dX5_walkOn_41 (by decide) ?_
        refine lv_icmp_ge (tgt := 115) hx hb dX5_walkOn_43 (by decide) (fun c => absurd c (by decide)) (fun _ => ?_)
        refine lv_aload_n hx hb dX5_walkOn_46 rfl (lv_at hl 4 rfl) ?_
        refine lv_aload_n hx hb dX5_walkOn_47 rfl (lv_at hl 5 rfl) ?_
        refine lv_iload hx hb dX5_walkOn_48 (lv_at hl 3 rfl) ?_
        refine lv_iload hx hb dX5_walkOn_50 (lv_at hl 0 rfl) ?_
        refine lv_iload_n hx hb dX5_walkOn_52 rfl (lv_at hl 7 rfl) ?_
        refine lv_iload hx hb dX5_walkOn_53 (lv_at hl 2 rfl) ?_
        refine cr_i (va_runV (As := [.ref (ad 4), .int y1, .int v8_30, .int vu, .int r3]) (rest := []) ⟨hx, hb, hml, hown, hts⟩ (sx_buys l dC dI cs ad nu30_ ok H hP y1 v8_30 vu r3 (by omega)) (cwV 5 hts (wU_V mw_4_34 mw_4_31 mw_4_33 mw_0_14 mw_1_8) rfl rfl rfl (by decide +kernel) ⟨Nat.le_of_ble_eq_true rfl, Nat.le_of_ble_eq_true rfl⟩) ⟨sz_c, va_recv hK hP (ci := 5) (q0 := 32) rfl (gX_32 cs ad nu30_), sz_m hK hz⟩ rfl rfl hl.1 rfl (lv_room (Nat.le_of_ble_eq_true rfl)) dX5_walkOn_55 ⟨Nat.zero_le _, Nat.zero_le _⟩) hS (fun r6 hw6 locs hS => ?_)
        have gr6 : 0 ≤ r6.toInt ∧ r6.toInt ≤ 1 := hw6
        refine lv_if_ne (tgt := 64) hx hb dX5_walkOn_58 (by decide) (fun c_7 => ?_) (fun c_7 => ?_)
        · have c_7 : ¬ r6.toInt = 0 := il_ne c_7
          refine lv_aload_n hx hb dX5_walkOn_64 rfl (lv_at hl 4 rfl) ?_
          refine va_get (D := (dC, dI)) (ci := 5) (v := .ref (ad 54)) (C := RX5) (T := TX5) (N := 15) hx hb hts inG5 hown hK hP 32 (gX_32 cs ad nu30_) rfl 2 (by decide) (hts _ (List.mem_cons_of_mem _ mw_2_48)) (fun _ h9 => h9) rfl dX5_walkOn_65 ?_
          refine lv_iload hx hb dX5_walkOn_68 (lv_at hl 1 rfl) ?_
          refine lv_iload hx hb dX5_walkOn_70 (lv_at hl 0 rfl) ?_
          refine va_iast hx hb hK hP (wR_D nu30_ hD) hS 54 0 (gX_54 cs ad nu30_) rfl (show vp_in 3 7 from (by unfold vp_in; decide)) dX5_walkOn_72 (fun H locs hP _ hS => ?_)
          refine wr_gen (upd (nu30_ 54) (3 : Int32).toNatClampNeg v8_30) hP (rfl) (fun nu8 hn8 hP => ?_)
          have ok := tX_54_s ok (3 : Int32).toNatClampNeg hn8 (by exact ⟨by omega, by omega⟩)
          have ez9 : y4 = nu8 4 6 := ey4.trans (congrFun (up_k hn8 (by decide)) 6).symm
          refine lv_iload hx hb dX5_walkOn_73 (lv_at hl 0 rfl) ?_
          refine lv_aload_n hx hb dX5_walkOn_75 rfl (lv_at hl 4 rfl) ?_
          refine va_get (D := (dC, dI)) (ci := 5) (v := .int (nu8 32 6)) (C := RX5) (T := TX5) (N := 15) hx hb hts inG5 hown hK hP 32 (gX_32 cs ad nu8) rfl 6 (by decide) (hts _ (List.mem_cons_of_mem _ mw_2_54)) (fun _ h9 => h9) rfl dX5_walkOn_76 ?_
          refine lv_topi (fun y10 ey10 => ?_)
          have by10 : y10.toInt = (nu8 32 6).toInt := congrArg Int32.toInt ey10
          have gy10 : 0 ≤ y10.toInt ∧ y10.toInt ≤ 6 := by rw [ey10]; exact rX_32_6 ok
          refine lv_icmp_ne (tgt := 94) hx hb dX5_walkOn_79 (by decide) (fun c_11 => ?_) (fun c_11 => ?_)
          · have c_11 : ¬ v8_30.toInt = y10.toInt := il_ne c_11
            refine lv_aload_n hx hb dX5_walkOn_94 rfl (lv_at hl 4 rfl) ?_
            refine lv_aload_n hx hb dX5_walkOn_95 rfl (lv_at hl 5 rfl) ?_
            refine lv_iload hx hb dX5_walkOn_96 (lv_at hl 1 rfl) ?_
            refine lv_iload_n hx hb dX5_walkOn_98 rfl (lv_at hl 7 rfl) ?_
            refine lv_iconst (v := 1) hx hb dX5_walkOn_99 (by decide) ?_
            refine lv_iload hx hb dX5_walkOn_100 (lv_at hl 0 rfl) ?_
            refine lv_ishl hx hb dX5_walkOn_102 ?_
            refine lv_topi (fun t12 et12 => ?_)
            refine lv_ior hx hb dX5_walkOn_103 ?_
            refine lv_topi (fun t13 et13 => ?_)
            refine lv_iload hx hb dX5_walkOn_104 (lv_at hl 2 rfl) ?_
            have hFc := fr_all (wR_D nu8 hD) hS hA
            refine va_callv (va_runV (As := [.ref (ad 4), .int 3, .int t13, .int r3]) (rest := []) ⟨hx, hb, hml, hown, hts⟩ (sx_walkOn3 l dC dI cs ad nu8 ok H hP ((wR_D nu8 hD).weaken (fun _ _ _ _ => trivial)) t13 r3) (cwV 4 hts (wU_V mw_4_29 mw_4_26 mw_4_28 mw_0_13 mw_1_8) rfl rfl rfl (by decide +kernel) ⟨Nat.le_of_ble_eq_true rfl, Nat.le_of_ble_eq_true rfl⟩) ⟨sz_c, va_recv hK hP (ci := 5) (q0 := 32) rfl (gX_32 cs ad nu8), sz_m hK hz⟩ rfl rfl hl.1 rfl (lv_room (Nat.le_of_ble_eq_true rfl)) dX5_walkOn_106 ⟨Nat.zero_le _, Nat.zero_le _⟩) hS (fun q _ h => hFc q h) hFc (fun xi14 t H14 locs ht hvm hw14 hB hz1 hk1 hS => ?_)
            have hP : va_P (dC, dI) vwCl (wR 157 ad (EX cs ad) xi14) H14 := by rw [← ht]; exact hB
            obtain ⟨ok, hw14, _⟩ := hw14
            refine lv_iinc (v := (v8_30 + 1)) (lv' := [(8, .int (v8_30 + 1)), (7, .int 3), (6, .int r3), (5, .int y1), (0, .ref (ad 32)), (1, .ref (ad 4)), (2, .int 2), (3, .int vu), (4, .int vp)]) hx hb dX5_walkOn_109 hl (k := 0) rfl rfl (by decide) rfl (fun ls hl => ?_)
            refine loc_gen (P := fun w9 => lv_has ls 9 [(8, .int w9), (7, .int 3), (6, .int r3), (5, .int y1), (0, .ref (ad 32)), (1, .ref (ad 4)), (2, .int 2), (3, .int vu), (4, .int vp)]) (v8_30 + 1) hl (fun w15 hw15 hl => ?_)
            have hl : lv_has ls 9 [(8, .int w15), (7, .int 3), (6, .int r3), (5, .int y1), (0, .ref (ad 32)), (1, .ref (ad 4)), (2, .int 2), (3, .int vu), (4, .int vp)] := hl
            have aw15 : w15.toInt = v8_30.toInt + 1 := by rw [← hw15]; exact tI_add (rfl : v8_30.toInt = _) (rfl : (1 : Int32).toInt = 1) (by omega) (by omega)
            refine lv_goto (tgt := 30) hx hb dX5_walkOn_112 (by decide) ?_
            exact ih30 (w15) xi14 _ _ _ (by omega) (by exact ⟨by omega, by omega⟩)  ok hP   hS (lv_sub hl [0, 1, 2, 3, 4, 5, 6, 7, 8] rfl)
          · have c_11 : v8_30.toInt = y10.toInt := il_eq c_11
            refine lv_aload_n hx hb dX5_walkOn_82 rfl (lv_at hl 4 rfl) ?_
            refine lv_iload hx hb dX5_walkOn_83 (lv_at hl 1 rfl) ?_
            refine lv_iload_n hx hb dX5_walkOn_85 rfl (lv_at hl 7 rfl) ?_
            refine lv_iload hx hb dX5_walkOn_86 (lv_at hl 2 rfl) ?_
            have hFc := fr_all (wR_D nu8 hD) hS hA
            refine va_callv (va_runV (As := [.int 3, .int vu, .int r3]) (rest := []) ⟨hx, hb, hml, hown, hts⟩ (sx_R_arrive l dC dI cs ad nu8 ok H hP ((wR_D nu8 hD).weaken (fun _ _ _ _ => trivial)) 3 vu r3 (by have h50 : (3 : Int32).toInt = 3 := rfl; omega)) (cwV 3 hts (wU_V mw_4_39 mw_4_36 mw_4_38 mw_0_15 mw_1_8) rfl rfl rfl (by decide +kernel) ⟨Nat.le_of_ble_eq_true rfl, Nat.le_of_ble_eq_true rfl⟩) ⟨sz_c, va_recv hK hP (ci := 5) (q0 := 32) rfl (gX_32 cs ad nu8), sz_m hK hz⟩ rfl rfl hl.1 rfl (lv_room (Nat.le_of_ble_eq_true rfl)) dX5_walkOn_88 ⟨Nat.zero_le _, Nat.zero_le _⟩) hS (fun q _ h => hFc q h) hFc (fun xi16 t H16 locs ht hvm hw16 hB hz1 hk1 hS => ?_)
            have hP : va_P (dC, dI) vwCl (wR 157 ad (EX cs ad) xi16) H16 := by rw [← ht]; exact hB
            obtain ⟨ok, hw16, _⟩ := hw16
            refine lv_goto (tgt := 109) hx hb dX5_walkOn_91 (by decide) ?_
            refine lv_iinc (v := (v8_30 + 1)) (lv' := [(8, .int (v8_30 + 1)), (7, .int 3), (6, .int r3), (5, .int y1), (0, .ref (ad 32)), (1, .ref (ad 4)), (2, .int 2), (3, .int vu), (4, .int vp)]) hx hb dX5_walkOn_109 hl (k := 0) rfl rfl (by decide) rfl (fun ls hl => ?_)
            refine loc_gen (P := fun w9 => lv_has ls 9 [(8, .int w9), (7, .int 3), (6, .int r3), (5, .int y1), (0, .ref (ad 32)), (1, .ref (ad 4)), (2, .int 2), (3, .int vu), (4, .int vp)]) (v8_30 + 1) hl (fun w17 hw17 hl => ?_)
            have hl : lv_has ls 9 [(8, .int w17), (7, .int 3), (6, .int r3), (5, .int y1), (0, .ref (ad 32)), (1, .ref (ad 4)), (2, .int 2), (3, .int vu), (4, .int vp)] := hl
            have aw17 : w17.toInt = v8_30.toInt + 1 := by rw [← hw17]; exact tI_add (rfl : v8_30.toInt = _) (rfl : (1 : Int32).toInt = 1) (by omega) (by omega)
            refine lv_goto (tgt := 30) hx hb dX5_walkOn_112 (by decide) ?_
            exact ih30 (w17) xi16 _ _ _ (by omega) (by exact ⟨by omega, by omega⟩)  ok hP   hS (lv_sub hl [0, 1, 2, 3, 4, 5, 6, 7, 8] rfl)
        · have c_7 : r6.toInt = 0 := il_eq c_7
          refine lv_goto (tgt := 109) hx hb dX5_walkOn_61 (by decide) ?_
          refine lv_iinc (v := (v8_30 + 1)) (lv' := [(8, .int (v8_30 + 1)), (7, .int 3), (6, .int r3), (5, .int y1), (0, .ref (ad 32)), (1, .ref (ad 4)), (2, .int 2), (3, .int vu), (4, .int vp)]) hx hb dX5_walkOn_109 hl (k := 0) rfl rfl (by decide) rfl (fun ls hl => ?_)
          refine loc_gen (P := fun w9 => lv_has ls 9 [(8, .int w9), (7, .int 3), (6, .int r3), (5, .int y1), (0, .ref (ad 32)), (1, .ref (ad 4)), (2, .int 2), (3, .int vu), (4, .int vp)]) (v8_30 + 1) hl (fun w18 hw18 hl => ?_)
          have hl : lv_has ls 9 [(8, .int w18), (7, .int 3), (6, .int r3), (5, .int y1), (0, .ref (ad 32)), (1, .ref (ad 4)), (2, .int 2), (3, .int vu), (4, .int vp)] := hl
          have aw18 : w18.toInt = v8_30.toInt + 1 := by rw [← hw18]; exact tI_add (rfl : v8_30.toInt = _) (rfl : (1 : Int32).toInt = 1) (by omega) (by omega)
          refine lv_goto (tgt := 30) hx hb dX5_walkOn_112 (by decide) ?_
          exact ih30 (w18) nu30_ _ _ _ (by omega) (by exact ⟨by omega, by omega⟩)  ok hP   hS (lv_sub hl [0, 1, 2, 3, 4, 5, 6, 7, 8] rfl)
  exact loop30 ((7 + 1 - (0 : Int32).toInt).toNat + 1) (0) mu _ _ _ (Nat.lt_succ_self _) (by have h80 : (0 : Int32).toInt = 0 := rfl; exact ⟨by omega, by omega⟩)  ok hP   hS hl
set_option maxHeartbeats 4000000 in
set_option maxRecDepth 100000 in
/-- sx_walkOn1 -/
theorem sx_walkOn1 (l : Launch) (dC : Nat → ClassId) (dI : Nat → Nat → Nat) (cs : Nat → ClassId) (ad : Nat → Nat) (mu : Nat → Nat → Int32) (ok : okR loX hiX mu) (H : Heap) (hP : va_P (dC, dI) vwCl (wR 157 ad (EX cs ad) mu) H) (hD0 : va_D (fun _ => True) (wR 157 ad (EX cs ad) mu)) (vu : Int32) (vp : Int32) : Met l yX5_walkOn (wU yX5_walkOn cX5_walkOn 9 none) ({ frames := 7, cells := 0, slots := 0, locals := 219 }) (va_Pc [.ref (ad 32), .ref (ad 4), .int 1, .int vu, .int vp] (sz_P (dC, dI) vwCl (tyW cs) H)) (va_Qv (fun (xi : Nat → Nat → Int32) => okR loX hiX xi ∧ (True) ∧ True) (fun xi t => va_P (dC, dI) vwCl (wR 157 ad (EX cs ad) xi) t.heap) (va_A (wR 157 ad (EX cs ad) mu) H.size)) 0 0 (va_A (wR 157 ad (EX cs ad) mu) H.size) := by
  refine Met.ofW (cc := cX5_walkOn) (maxL := 9) (ret := none) (by decide) rfl ?_
  intro p e s m args below meth c s₁ B hml hv
  obtain ⟨rfl, hh, hK, hz⟩ := hv
  have hx := B.exec
  have hb := B.bytes
  have hr := B.returns
  have hts := atoms_spec (ws := (wU yX5_walkOn cX5_walkOn 9 none)) B.pre
  have hown : s.vm.findClass RX5 = some m.cls := findClass_of_methodNamed B.named
  have hlocks := B.notSynchronized
  subst hh
  have hD := hD0.self (sz := s.heap.size)
  have hA : ∀ q : Nat, s.heap.size ≤ q → (va_A (wR 157 ad (EX cs ad) mu) s.heap.size) q := fun q h => Or.inr h
  have hS : va_S (va_A (wR 157 ad (EX cs ad) mu) s.heap.size) s.heap s.heap [] := va_S.rf
  have hl := lv_entry ([.ref (ad 32), .ref (ad 4), .int 1, .int vu, .int vp]) (n := 9) (Nat.le_of_ble_eq_true rfl)
  rw [lg_entry_eq]
  generalize (lg_sl ([.ref (ad 32), .ref (ad 4), .int 1, .int vu, .int vp]) ++ List.replicate (9 - (lg_sl ([.ref (ad 32), .ref (ad 4), .int 1, .int vu, .int vp])).length) Slot.unset).toArray = ls at hl ⊢
  have hl : lv_has ls 9 [(0, .ref (ad 32)), (1, .ref (ad 4)), (2, .int 1), (3, .int vu), (4, .int vp)] := hl
  refine lv_aload_n hx hb dX5_walkOn_0 rfl (lv_at hl 0 rfl) ?_
  refine va_get (D := (dC, dI)) (ci := 5) (v := .ref (ad 54)) (C := RX5) (T := TX5) (N := 15) hx hb hts inG5 hown hK hP 32 (gX_32 cs ad mu) rfl 2 (by decide) (hts _ (List.mem_cons_of_mem _ mw_2_48)) (fun _ h9 => h9) rfl dX5_walkOn_1 ?_
  refine lv_iload_n hx hb dX5_walkOn_4 rfl (lv_at hl 2 rfl) ?_
  refine va_iald hx hb hK hP 54 0 (gX_54 cs ad mu) rfl (show vp_in 1 7 from (by unfold vp_in; decide)) dX5_walkOn_5 ?_
  refine lv_topi (fun y1 ey1 => ?_)
  have by1 : y1.toInt = (mu 54 (1 : Int32).toNatClampNeg).toInt := congrArg Int32.toInt ey1
  have gy1 : 0 ≤ y1.toInt ∧ y1.toInt ≤ 6 := by rw [ey1]; exact rX_54_s ok (1 : Int32).toNatClampNeg
  refine lv_istore (lv' := [(5, .int y1), (0, .ref (ad 32)), (1, .ref (ad 4)), (2, .int 1), (3, .int vu), (4, .int vp)]) hx hb dX5_walkOn_6 hl (by decide) rfl (fun ls hl => ?_)
  refine lv_aload_n hx hb dX5_walkOn_8 rfl (lv_at hl 2 rfl) ?_
  refine va_get (D := (dC, dI)) (ci := 10) (v := .ref (ad 34)) (C := RX10) (T := TX10) (N := 8) hx hb hts inG10 hown hK hP 4 (gX_4 cs ad mu) rfl 0 (by decide) (hts _ (List.mem_cons_of_mem _ mw_1_146)) (fun _ h9 => h9) rfl dX5_walkOn_9 ?_
  refine lv_iload hx hb dX5_walkOn_12 (lv_at hl 0 rfl) ?_
  refine va_iald hx hb hK hP 34 0 (gX_34 cs ad mu) rfl (show vp_in y1 7 from vi_of (by omega) (by omega)) dX5_walkOn_14 ?_
  refine lv_topi (fun y2 ey2 => ?_)
  have by2 : y2.toInt = (mu 34 y1.toNatClampNeg).toInt := congrArg Int32.toInt ey2
  refine lv_iload hx hb dX5_walkOn_15 (lv_at hl 5 rfl) ?_
  refine cr_i (va_runSN (As := [.int y2, .int vp]) (rest := []) ⟨hx, hb, hml, hown, hts⟩ (sx_priceAsked l dC dI (tyW cs) s.heap y2 vp) ⟨va_cnB 2 hts (wU_in mw_3_107) rfl rfl rfl (hz.2.2.2.2.2.2.2.2.2.2.2.2.2.1) (hts _ (List.mem_cons_of_mem _ mw_1_1)) (by decide +kernel) ⟨Nat.le_of_ble_eq_true rfl, Nat.le_of_ble_eq_true rfl⟩, (hts _ (List.mem_cons_of_mem _ mw_3_106)), trivial⟩ ⟨sz_c, sz_m hK hz⟩ rfl rfl hl.1 rfl (lv_room (Nat.le_of_ble_eq_true rfl)) dX5_walkOn_17 ⟨Nat.zero_le _, Nat.zero_le _⟩) hS (fun r3 hw3 locs hS => ?_)
  refine lv_istore (lv' := [(6, .int r3), (5, .int y1), (0, .ref (ad 32)), (1, .ref (ad 4)), (2, .int 1), (3, .int vu), (4, .int vp)]) hx hb dX5_walkOn_20 hl (by decide) rfl (fun ls hl => ?_)
  refine lv_iload_n hx hb dX5_walkOn_22 rfl (lv_at hl 4 rfl) ?_
  refine lv_iconst (v := 1) hx hb dX5_walkOn_23 (by decide) ?_
  refine lv_iadd hx hb dX5_walkOn_24 ?_
  refine lq_i 2 (by decide) ?_
  refine lv_istore (lv' := [(7, .int 2), (6, .int r3), (5, .int y1), (0, .ref (ad 32)), (1, .ref (ad 4)), (2, .int 1), (3, .int vu), (4, .int vp)]) hx hb dX5_walkOn_25 hl (by decide) rfl (fun ls hl => ?_)
  refine lv_iconst (v := 0) hx hb dX5_walkOn_27 (by decide) ?_
  refine lv_istore (lv' := [(8, .int 0), (7, .int 2), (6, .int r3), (5, .int y1), (0, .ref (ad 32)), (1, .ref (ad 4)), (2, .int 1), (3, .int vu), (4, .int vp)]) hx hb dX5_walkOn_28 hl (by decide) rfl (fun ls hl => ?_)
  have loop30 : ∀ (n30 : Nat) (v8_30 : Int32) (nu30_ : Nat → Nat → Int32) (H : Heap) (locs : List Loc) (ls : Array Slot), (7 + 1 - v8_30.toInt).toNat < n30 → (0 ≤ v8_30.toInt ∧ v8_30.toInt ≤ 7) → okR loX hiX nu30_ → va_P (dC, dI) vwCl (wR 157 ad (EX cs ad) nu30_) H → va_S (va_A (wR 157 ad (EX cs ad) mu) s.heap.size) s.heap H locs → lv_has ls 9 [(8, .int v8_30), (7, .int 2), (6, .int r3), (5, .int y1), (0, .ref (ad 32)), (1, .ref (ad 4)), (2, .int 1), (3, .int vu), (4, .int vp)] → W p l e (headSpec (wU yX5_walkOn cX5_walkOn 9 none) ({ frames := 7, cells := 0, slots := 0, locals := 219 })).room s m ([.ref (ad 32), .ref (ad 4), .int 1, .int vu, .int vp] : List Value).toArray below meth c H locs 0 0 (MQ below (va_Qv (fun (xi : Nat → Nat → Int32) => okR loX hiX xi ∧ (True) ∧ True) (fun xi t => va_P (dC, dI) vwCl (wR 157 ad (EX cs ad) xi) t.heap) (va_A (wR 157 ad (EX cs ad) mu) s.heap.size)) ([.ref (ad 32), .ref (ad 4), .int 1, .int vu, .int vp] : List Value).toArray s 0 0 (va_A (wR 157 ad (EX cs ad) mu) s.heap.size)) (F0 m 30 ls []) := by
    intro n30
    induction n30 with
    | zero => intro v8_30 nu30_ H locs ls hm; exact absurd hm (Nat.not_lt_zero _)
    | succ n30 ih30 =>
      intro v8_30 nu30_ H locs ls hm h_v8_30 ok hP hS hl
      refine lv_iload hx hb dX5_walkOn_30 (lv_at hl 0 rfl) ?_
      refine lv_aload_n hx hb dX5_walkOn_32 rfl (lv_at hl 5 rfl) ?_
      refine va_get (D := (dC, dI)) (ci := 10) (v := .int (nu30_ 4 6)) (C := RX10) (T := TX10) (N := 8) hx hb hts inG10 hown hK hP 4 (gX_4 cs ad nu30_) rfl 6 (by decide) (hts _ (List.mem_cons_of_mem _ mw_1_162)) (fun _ h9 => h9) rfl dX5_walkOn_33 ?_
      refine lv_topi (fun y4 ey4 => ?_)
      have by4 : y4.toInt = (nu30_ 4 6).toInt := congrArg Int32.toInt ey4
      have gy4 : 0 ≤ y4.toInt ∧ y4.toInt ≤ 7 := by rw [ey4]; exact rX_4_6 ok
      refine lv_icmp_ge (tgt := 115) hx hb dX5_walkOn_36 (by decide) (fun c_5 => ?_) (fun c_5 => ?_)
      · have c_5 : y4.toInt ≤ v8_30.toInt := il_le c_5
        exact W.vret hx hb hr (fun t ht hW => ⟨⟨nu30_, rfl, ⟨ok, trivial, trivial⟩, by first | (subst ht; exact hP) | (rw [ht]; exact hP) | (show va_P (dC, dI) vwCl (wR 157 ad (EX cs ad) nu30_) t.heap; rw [ht]; exact hP)⟩, hS.F ht⟩) hS.2.2 dX5_walkOn_115
      · have c_5 : v8_30.toInt < y4.toInt := il_nle c_5
        refine lv_iload hx hb dX5_walkOn_39 (lv_at hl 1 rfl) ?_
        refine lv_bipush (v := 7) hx hb dX5_walkOn_41 (by decide) ?_
        refine lv_icmp_ge (tgt := 115) hx hb dX5_walkOn_43 (by decide) (fun c => absurd c (by decide)) (fun _ => ?_)
        refine lv_aload_n hx hb dX5_walkOn_46 rfl (lv_at hl 4 rfl) ?_
        refine lv_aload_n hx hb dX5_walkOn_47 rfl (lv_at hl 5 rfl) ?_
        refine lv_iload hx hb dX5_walkOn_48 (lv_at hl 3 rfl) ?_
        refine lv_iload hx hb dX5_walkOn_50 (lv_at hl 0 rfl) ?_
        refine lv_iload_n hx hb dX5_walkOn_52 rfl (lv_at hl 7 rfl) ?_
        refine lv_iload hx hb dX5_walkOn_53 (lv_at hl 2 rfl) ?_
        refine cr_i (va_runV (As := [.ref (ad 4), .int y1, .int v8_30, .int vu, .int r3]) (rest := []) ⟨hx, hb, hml, hown, hts⟩ (sx_buys l dC dI cs ad nu30_ ok H hP y1 v8_30 vu r3 (by omega)) (cwV 5 hts (wU_V mw_4_34 mw_4_31 mw_4_33 mw_0_14 mw_1_8) rfl rfl rfl (by decide +kernel) ⟨Nat.le_of_ble_eq_true rfl, Nat.le_of_ble_eq_true rfl⟩) ⟨sz_c, va_recv hK hP (ci := 5) (q0 := 32) rfl (gX_32 cs ad nu30_), sz_m hK hz⟩ rfl rfl hl.1 rfl (lv_room (Nat.le_of_ble_eq_true rfl)) dX5_walkOn_55 ⟨Nat.zero_le _, Nat.zero_le _⟩) hS (fun r6 hw6 locs hS => ?_)
        have gr6 : 0 ≤ r6.toInt ∧ r6.toInt ≤ 1 := hw6
        refine lv_if_ne (tgt := 64) hx hb dX5_walkOn_58 (by decide) (fun c_7 => ?_) (fun c_7 => ?_)
        · have c_7 : ¬ r6.toInt = 0 := il_ne c_7
          refine lv_aload_n hx hb dX5_walkOn_64 rfl (lv_at hl 4 rfl) ?_
          refine va_get (D := (dC, dI)) (ci := 5) (v := .ref (ad 54)) (C := RX5) (T := TX5) (N := 15) hx hb hts inG5 hown hK hP 32 (gX_32 cs ad nu30_) rfl 2 (by decide) (hts _ (List.mem_cons_of_mem _ mw_2_48)) (fun _ h9 => h9) rfl dX5_walkOn_65 ?_
          refine lv_iload hx hb dX5_walkOn_68 (lv_at hl 1 rfl) ?_
          refine lv_iload hx hb dX5_walkOn_70 (lv_at hl 0 rfl) ?_
          refine va_iast hx hb hK hP (wR_D nu30_ hD) hS 54 0 (gX_54 cs ad nu30_) rfl (show vp_in 2 7 from (by unfold vp_in; decide)) dX5_walkOn_72 (fun H locs hP _ hS => ?_)
          refine wr_gen (upd (nu30_ 54) (2 : Int32).toNatClampNeg v8_30) hP (rfl) (fun nu8 hn8 hP => ?_)
          have ok := tX_54_s ok (2 : Int32).toNatClampNeg hn8 (by exact ⟨by omega, by omega⟩)
          have ez9 : y4 = nu8 4 6 := ey4.trans (congrFun (up_k hn8 (by decide)) 6).symm
          refine lv_iload hx hb dX5_walkOn_73 (lv_at hl 0 rfl) ?_
          refine lv_aload_n hx hb dX5_walkOn_75 rfl (lv_at hl 4 rfl) ?_
          refine va_get (D := (dC, dI)) (ci := 5) (v := .int (nu8 32 6)) (C := RX5) (T := TX5) (N := 15) hx hb hts inG5 hown hK hP 32 (gX_32 cs ad nu8) rfl 6 (by decide) (hts _ (List.mem_cons_of_mem _ mw_2_54)) (fun _ h9 => h9) rfl dX5_walkOn_76 ?_
          refine lv_topi (fun y10 ey10 => ?_)
          have by10 : y10.toInt = (nu8 32 6).toInt := congrArg Int32.toInt ey10
          have gy10 : 0 ≤ y10.toInt ∧ y10.toInt ≤ 6 := by rw [ey10]; exact rX_32_6 ok
          refine lv_icmp_ne (tgt := 94) hx hb dX5_walkOn_79 (by decide) (fun c_11 => ?_) (fun c_11 => ?_)
          · have c_11 : ¬ v8_30.toInt = y10.toInt := il_ne c_11
            refine lv_aload_n hx hb dX5_walkOn_94 rfl (lv_at hl 4 rfl) ?_
            refine lv_aload_n hx hb dX5_walkOn_95 rfl (lv_at hl 5 rfl) ?_
            refine lv_iload hx hb dX5_walkOn_96 (lv_at hl 1 rfl) ?_
            refine lv_iload_n hx hb dX5_walkOn_98 rfl (lv_at hl 7 rfl) ?_
            refine lv_iconst (v := 1) hx hb dX5_walkOn_99 (by decide) ?_
            refine lv_iload hx hb dX5_walkOn_100 (lv_at hl 0 rfl) ?_
            refine lv_ishl hx hb dX5_walkOn_102 ?_
            refine lv_topi (fun t12 et12 => ?_)
            refine lv_ior hx hb dX5_walkOn_103 ?_
            refine lv_topi (fun t13 et13 => ?_)
            refine lv_iload hx hb dX5_walkOn_104 (lv_at hl 2 rfl) ?_
            have hFc := fr_all (wR_D nu8 hD) hS hA
            refine va_callv (va_runV (As := [.ref (ad 4), .int 2, .int t13, .int r3]) (rest := []) ⟨hx, hb, hml, hown, hts⟩ (sx_walkOn2 l dC dI cs ad nu8 ok H hP ((wR_D nu8 hD).weaken (fun _ _ _ _ => trivial)) t13 r3) (cwV 4 hts (wU_V mw_4_29 mw_4_26 mw_4_28 mw_0_13 mw_1_8) rfl rfl rfl (by decide +kernel) ⟨Nat.le_of_ble_eq_true rfl, Nat.le_of_ble_eq_true rfl⟩) ⟨sz_c, va_recv hK hP (ci := 5) (q0 := 32) rfl (gX_32 cs ad nu8), sz_m hK hz⟩ rfl rfl hl.1 rfl (lv_room (Nat.le_of_ble_eq_true rfl)) dX5_walkOn_106 ⟨Nat.zero_le _, Nat.zero_le _⟩) hS (fun q _ h => hFc q h) hFc (fun xi14 t H14 locs ht hvm hw14 hB hz1 hk1 hS => ?_)
            have hP : va_P (dC, dI) vwCl (wR 157 ad (EX cs ad) xi14) H14 := by rw [← ht]; exact hB
            obtain ⟨ok, hw14, _⟩ := hw14
            refine lv_iinc (v := (v8_30 + 1)) (lv' := [(8, .int (v8_30 + 1)), (7, .int 2), (6, .int r3), (5, .int y1), (0, .ref (ad 32)), (1, .ref (ad 4)), (2, .int 1), (3, .int vu), (4, .int vp)]) hx hb dX5_walkOn_109 hl (k := 0) rfl rfl (by decide) rfl (fun ls hl => ?_)
            refine loc_gen (P := fun w9 => lv_has ls 9 [(8, .int w9), (7, .int 2), (6, .int r3), (5, .int y1), (0, .ref (ad 32)), (1, .ref (ad 4)), (2, .int 1), (3, .int vu), (4, .int vp)]) (v8_30 + 1) hl (fun w15 hw15 hl => ?_)
            have hl : lv_has ls 9 [(8, .int w15), (7, .int 2), (6, .int r3), (5, .int y1), (0, .ref (ad 32)), (1, .ref (ad 4)), (2, .int 1), (3, .int vu), (4, .int vp)] := hl
            have aw15 : w15.toInt = v8_30.toInt + 1 := by rw [← hw15]; exact tI_add (rfl : v8_30.toInt = _) (rfl : (1 : Int32).toInt = 1) (by omega) (by omega)
            refine lv_goto (tgt := 30) hx hb dX5_walkOn_112 (by decide) ?_
            exact ih30 (w15) xi14 _ _ _ (by omega) (by exact ⟨by omega, by omega⟩)  ok hP   hS (lv_sub hl [0, 1, 2, 3, 4, 5, 6, 7, 8] rfl)
          · have c_11 : v8_30.toInt = y10.toInt := il_eq c_11
            refine lv_aload_n hx hb dX5_walkOn_82 rfl (lv_at hl 4 rfl) ?_
            refine lv_iload hx hb dX5_walkOn_83 (lv_at hl 1 rfl) ?_
            refine lv_iload_n hx hb dX5_walkOn_85 rfl (lv_at hl 7 rfl) ?_
            refine lv_iload hx hb dX5_walkOn_86 (lv_at hl 2 rfl) ?_
            have hFc := fr_all (wR_D nu8 hD) hS hA
            refine va_callv (va_runV (As := [.int 2, .int vu, .int r3]) (rest := []) ⟨hx, hb, hml, hown, hts⟩ (sx_R_arrive l dC dI cs ad nu8 ok H hP ((wR_D nu8 hD).weaken (fun _ _ _ _ => trivial)) 2 vu r3 (by have h50 : (2 : Int32).toInt = 2 := rfl; omega)) (cwV 3 hts (wU_V mw_4_39 mw_4_36 mw_4_38 mw_0_15 mw_1_8) rfl rfl rfl (by decide +kernel) ⟨Nat.le_of_ble_eq_true rfl, Nat.le_of_ble_eq_true rfl⟩) ⟨sz_c, va_recv hK hP (ci := 5) (q0 := 32) rfl (gX_32 cs ad nu8), sz_m hK hz⟩ rfl rfl hl.1 rfl (lv_room (Nat.le_of_ble_eq_true rfl)) dX5_walkOn_88 ⟨Nat.zero_le _, Nat.zero_le _⟩) hS (fun q _ h => hFc q h) hFc (fun xi16 t H16 locs ht hvm hw16 hB hz1 hk1 hS => ?_)
            have hP : va_P (dC, dI) vwCl (wR 157 ad (EX cs ad) xi16) H16 := by rw [← ht]; exact hB
            obtain ⟨ok, hw16, _⟩ := hw16
            refine lv_goto (tgt := 109) hx hb dX5_walkOn_91 (by decide) ?_
            refine lv_iinc (v := (v8_30 + 1)) (lv' := [(8, .int (v8_30 + 1)), (7, .int 2), (6, .int r3), (5, .int y1), (0, .ref (ad 32)), (1, .ref (ad 4)), (2, .int 1), (3, .int vu), (4, .int vp)]) hx hb dX5_walkOn_109 hl (k := 0) rfl rfl (by decide) rfl (fun ls hl => ?_)
            refine loc_gen (P := fun w9 => lv_has ls 9 [(8, .int w9), (7, .int 2), (6, .int r3), (5, .int y1), (0, .ref (ad 32)), (1, .ref (ad 4)), (2, .int 1), (3, .int vu), (4, .int vp)]) (v8_30 + 1) hl (fun w17 hw17 hl => ?_)
            have hl : lv_has ls 9 [(8, .int w17), (7, .int 2), (6, .int r3), (5, .int y1), (0, .ref (ad 32)), (1, .ref (ad 4)), (2, .int 1), (3, .int vu), (4, .int vp)] := hl
            have aw17 : w17.toInt = v8_30.toInt + 1 := by rw [← hw17]; exact tI_add (rfl : v8_30.toInt = _) (rfl : (1 : Int32).toInt = 1) (by omega) (by omega)
            refine lv_goto (tgt := 30) hx hb dX5_walkOn_112 (by decide) ?_
            exact ih30 (w17) xi16 _ _ _ (by omega) (by exact ⟨by omega, by omega⟩)  ok hP   hS (lv_sub hl [0, 1, 2, 3, 4, 5, 6, 7, 8] rfl)
        · have c_7 : r6.toInt = 0 := il_eq c_7
          refine lv_goto (tgt := 109) hx hb dX5_walkOn_61 (by decide) ?_
          refine lv_iinc (v := (v8_30 + 1)) (lv' := [(8, .int (v8_30 + 1)), (7, .int 2), (6, .int r3), (5, .int y1), (0, .ref (ad 32)), (1, .ref (ad 4)), (2, .int 1), (3, .int vu), (4, .int vp)]) hx hb dX5_walkOn_109 hl (k := 0) rfl rfl (by decide) rfl (fun ls hl => ?_)
          refine loc_gen (P := fun w9 => lv_has ls 9 [(8, .int w9), (7, .int 2), (6, .int r3), (5, .int y1), (0, .ref (ad 32)), (1, .ref (ad 4)), (2, .int 1), (3, .int vu), (4, .int vp)]) (v8_30 + 1) hl (fun w18 hw18 hl => ?_)
          have hl : lv_has ls 9 [(8, .int w18), (7, .int 2), (6, .int r3), (5, .int y1), (0, .ref (ad 32)), (1, .ref (ad 4)), (2, .int 1), (3, .int vu), (4, .int vp)] := hl
          have aw18 : w18.toInt = v8_30.toInt + 1 := by rw [← hw18]; exact tI_add (rfl : v8_30.toInt = _) (rfl : (1 : Int32).toInt = 1) (by omega) (by omega)
          refine lv_goto (tgt := 30) hx hb dX5_walkOn_112 (by decide) ?_
          exact ih30 (w18) nu30_ _ _ _ (by omega) (by exact ⟨by omega, by omega⟩)  ok hP   hS (lv_sub hl [0, 1, 2, 3, 4, 5, 6, 7, 8] rfl)
  exact loop30 ((7 + 1 - (0 : Int32).toInt).toNat + 1) (0) mu _ _ _ (Nat.lt_succ_self _) (by have h80 : (0 : Int32).toInt = 0 := rfl; exact ⟨by omega, by omega⟩)  ok hP   hS hl
set_option maxHeartbeats 4000000 in
set_option maxRecDepth 100000 in
/-- sx_walkOn0 -/
theorem sx_walkOn0 (l : Launch) (dC : Nat → ClassId) (dI : Nat → Nat → Nat) (cs : Nat → ClassId) (ad : Nat → Nat) (mu : Nat → Nat → Int32) (ok : okR loX hiX mu) (H : Heap) (hP : va_P (dC, dI) vwCl (wR 157 ad (EX cs ad) mu) H) (hD0 : va_D (fun _ => True) (wR 157 ad (EX cs ad) mu)) (vu : Int32) (vp : Int32) : Met l yX5_walkOn (wU yX5_walkOn cX5_walkOn 9 none) ({ frames := 8, cells := 0, slots := 0, locals := 247 }) (va_Pc [.ref (ad 32), .ref (ad 4), .int 0, .int vu, .int vp] (sz_P (dC, dI) vwCl (tyW cs) H)) (va_Qv (fun (xi : Nat → Nat → Int32) => okR loX hiX xi ∧ (True) ∧ True) (fun xi t => va_P (dC, dI) vwCl (wR 157 ad (EX cs ad) xi) t.heap) (va_A (wR 157 ad (EX cs ad) mu) H.size)) 0 0 (va_A (wR 157 ad (EX cs ad) mu) H.size) := by
  refine Met.ofW (cc := cX5_walkOn) (maxL := 9) (ret := none) (by decide) rfl ?_
  intro p e s m args below meth c s₁ B hml hv
  obtain ⟨rfl, hh, hK, hz⟩ := hv
  have hx := B.exec
  have hb := B.bytes
  have hr := B.returns
  have hts := atoms_spec (ws := (wU yX5_walkOn cX5_walkOn 9 none)) B.pre
  have hown : s.vm.findClass RX5 = some m.cls := findClass_of_methodNamed B.named
  have hlocks := B.notSynchronized
  subst hh
  have hD := hD0.self (sz := s.heap.size)
  have hA : ∀ q : Nat, s.heap.size ≤ q → (va_A (wR 157 ad (EX cs ad) mu) s.heap.size) q := fun q h => Or.inr h
  have hS : va_S (va_A (wR 157 ad (EX cs ad) mu) s.heap.size) s.heap s.heap [] := va_S.rf
  have hl := lv_entry ([.ref (ad 32), .ref (ad 4), .int 0, .int vu, .int vp]) (n := 9) (Nat.le_of_ble_eq_true rfl)
  rw [lg_entry_eq]
  generalize (lg_sl ([.ref (ad 32), .ref (ad 4), .int 0, .int vu, .int vp]) ++ List.replicate (9 - (lg_sl ([.ref (ad 32), .ref (ad 4), .int 0, .int vu, .int vp])).length) Slot.unset).toArray = ls at hl ⊢
  have hl : lv_has ls 9 [(0, .ref (ad 32)), (1, .ref (ad 4)), (2, .int 0), (3, .int vu), (4, .int vp)] := hl
  refine lv_aload_n hx hb dX5_walkOn_0 rfl (lv_at hl 0 rfl) ?_
  refine va_get (D := (dC, dI)) (ci := 5) (v := .ref (ad 54)) (C := RX5) (T := TX5) (N := 15) hx hb hts inG5 hown hK hP 32 (gX_32 cs ad mu) rfl 2 (by decide) (hts _ (List.mem_cons_of_mem _ mw_2_48)) (fun _ h9 => h9) rfl dX5_walkOn_1 ?_
  refine lv_iload_n hx hb dX5_walkOn_4 rfl (lv_at hl 2 rfl) ?_
  refine va_iald hx hb hK hP 54 0 (gX_54 cs ad mu) rfl (show vp_in 0 7 from (by unfold vp_in; decide)) dX5_walkOn_5 ?_
  refine lv_topi (fun y1 ey1 => ?_)
  have by1 : y1.toInt = (mu 54 (0 : Int32).toNatClampNeg).toInt := congrArg Int32.toInt ey1
  have gy1 : 0 ≤ y1.toInt ∧ y1.toInt ≤ 6 := by rw [ey1]; exact rX_54_s ok (0 : Int32).toNatClampNeg
  refine lv_istore (lv' := [(5, .int y1), (0, .ref (ad 32)), (1, .ref (ad 4)), (2, .int 0), (3, .int vu), (4, .int vp)]) hx hb dX5_walkOn_6 hl (by decide) rfl (fun ls hl => ?_)
  refine lv_aload_n hx hb dX5_walkOn_8 rfl (lv_at hl 2 rfl) ?_
  refine va_get (D := (dC, dI)) (ci := 10) (v := .ref (ad 34)) (C := RX10) (T := TX10) (N := 8) hx hb hts inG10 hown hK hP 4 (gX_4 cs ad mu) rfl 0 (by decide) (hts _ (List.mem_cons_of_mem _ mw_1_146)) (fun _ h9 => h9) rfl dX5_walkOn_9 ?_
  refine lv_iload hx hb dX5_walkOn_12 (lv_at hl 0 rfl) ?_
  refine va_iald hx hb hK hP 34 0 (gX_34 cs ad mu) rfl (show vp_in y1 7 from vi_of (by omega) (by omega)) dX5_walkOn_14 ?_
  refine lv_topi (fun y2 ey2 => ?_)
  have by2 : y2.toInt = (mu 34 y1.toNatClampNeg).toInt := congrArg Int32.toInt ey2
  refine lv_iload hx hb dX5_walkOn_15 (lv_at hl 5 rfl) ?_
  refine cr_i (va_runSN (As := [.int y2, .int vp]) (rest := []) ⟨hx, hb, hml, hown, hts⟩ (sx_priceAsked l dC dI (tyW cs) s.heap y2 vp) ⟨va_cnB 2 hts (wU_in mw_3_107) rfl rfl rfl (hz.2.2.2.2.2.2.2.2.2.2.2.2.2.1) (hts _ (List.mem_cons_of_mem _ mw_1_1)) (by decide +kernel) ⟨Nat.le_of_ble_eq_true rfl, Nat.le_of_ble_eq_true rfl⟩, (hts _ (List.mem_cons_of_mem _ mw_3_106)), trivial⟩ ⟨sz_c, sz_m hK hz⟩ rfl rfl hl.1 rfl (lv_room (Nat.le_of_ble_eq_true rfl)) dX5_walkOn_17 ⟨Nat.zero_le _, Nat.zero_le _⟩) hS (fun r3 hw3 locs hS => ?_)
  refine lv_istore (lv' := [(6, .int r3), (5, .int y1), (0, .ref (ad 32)), (1, .ref (ad 4)), (2, .int 0), (3, .int vu), (4, .int vp)]) hx hb dX5_walkOn_20 hl (by decide) rfl (fun ls hl => ?_)
  refine lv_iload_n hx hb dX5_walkOn_22 rfl (lv_at hl 4 rfl) ?_
  refine lv_iconst (v := 1) hx hb dX5_walkOn_23 (by decide) ?_
  refine lv_iadd hx hb dX5_walkOn_24 ?_
  refine lq_i 1 (by decide) ?_
  refine lv_istore (lv' := [(7, .int 1), (6, .int r3), (5, .int y1), (0, .ref (ad 32)), (1, .ref (ad 4)), (2, .int 0), (3, .int vu), (4, .int vp)]) hx hb dX5_walkOn_25 hl (by decide) rfl (fun ls hl => ?_)
  refine lv_iconst (v := 0) hx hb dX5_walkOn_27 (by decide) ?_
  refine lv_istore (lv' := [(8, .int 0), (7, .int 1), (6, .int r3), (5, .int y1), (0, .ref (ad 32)), (1, .ref (ad 4)), (2, .int 0), (3, .int vu), (4, .int vp)]) hx hb dX5_walkOn_28 hl (by decide) rfl (fun ls hl => ?_)
  have loop30 : ∀ (n30 : Nat) (v8_30 : Int32) (nu30_ : Nat → Nat → Int32) (H : Heap) (locs : List Loc) (ls : Array Slot), (7 + 1 - v8_30.toInt).toNat < n30 → (0 ≤ v8_30.toInt ∧ v8_30.toInt ≤ 7) → okR loX hiX nu30_ → va_P (dC, dI) vwCl (wR 157 ad (EX cs ad) nu30_) H → va_S (va_A (wR 157 ad (EX cs ad) mu) s.heap.size) s.heap H locs → lv_has ls 9 [(8, .int v8_30), (7, .int 1), (6, .int r3), (5, .int y1), (0, .ref (ad 32)), (1, .ref (ad 4)), (2, .int 0), (3, .int vu), (4, .int vp)] → W p l e (headSpec (wU yX5_walkOn cX5_walkOn 9 none) ({ frames := 8, cells := 0, slots := 0, locals := 247 })).room s m ([.ref (ad 32), .ref (ad 4), .int 0, .int vu, .int vp] : List Value).toArray below meth c H locs 0 0 (MQ below (va_Qv (fun (xi : Nat → Nat → Int32) => okR loX hiX xi ∧ (True) ∧ True) (fun xi t => va_P (dC, dI) vwCl (wR 157 ad (EX cs ad) xi) t.heap) (va_A (wR 157 ad (EX cs ad) mu) s.heap.size)) ([.ref (ad 32), .ref (ad 4), .int 0, .int vu, .int vp] : List Value).toArray s 0 0 (va_A (wR 157 ad (EX cs ad) mu) s.heap.size)) (F0 m 30 ls []) := by
    intro n30
    induction n30 with
    | zero => intro v8_30 nu30_ H locs ls hm; exact absurd hm (Nat.not_lt_zero _)
    | succ n30 ih30 =>
      intro v8_30 nu30_ H locs ls hm h_v8_30 ok hP hS hl
      refine lv_iload hx hb dX5_walkOn_30 (lv_at hl 0 rfl) ?_
      refine lv_aload_n hx hb dX5_walkOn_32 rfl (lv_at hl 5 rfl) ?_
      refine va_get (D := (dC, dI)) (ci := 10) (v := .int (nu30_ 4 6)) (C := RX10) (T := TX10) (N := 8) hx hb hts inG10 hown hK hP 4 (gX_4 cs ad nu30_) rfl 6 (by decide) (hts _ (List.mem_cons_of_mem _ mw_1_162)) (fun _ h9 => h9) rfl dX5_walkOn_33 ?_
      refine lv_topi (fun y4 ey4 => ?_)
      have by4 : y4.toInt = (nu30_ 4 6).toInt := congrArg Int32.toInt ey4
      have gy4 : 0 ≤ y4.toInt ∧ y4.toInt ≤ 7 := by rw [ey4]; exact rX_4_6 ok
      refine lv_icmp_ge (tgt := 115) hx hb dX5_walkOn_36 (by decide) (fun c_5 => ?_) (fun c_5 => ?_)
      · have c_5 : y4.toInt ≤ v8_30.toInt := il_le c_5
        exact W.vret hx hb hr (fun t ht hW => ⟨⟨nu30_, rfl, ⟨ok, trivial, trivial⟩, by first | (subst ht; exact hP) | (rw [ht]; exact hP) | (show va_P (dC, dI) vwCl (wR 157 ad (EX cs ad) nu30_) t.heap; rw [ht]; exact hP)⟩, hS.F ht⟩) hS.2.2 dX5_walkOn_115
      · have c_5 : v8_30.toInt < y4.toInt := il_nle c_5
        refine lv_iload hx hb dX5_walkOn_39 (lv_at hl 1 rfl) ?_
        refine lv_bipush (v := 7) hx hb dX5_walkOn_41 (by decide) ?_
        refine lv_icmp_ge (tgt := 115) hx hb dX5_walkOn_43 (by decide) (fun c => absurd c (by decide)) (fun _ => ?_)
        refine lv_aload_n hx hb dX5_walkOn_46 rfl (lv_at hl 4 rfl) ?_
        refine lv_aload_n hx hb dX5_walkOn_47 rfl (lv_at hl 5 rfl) ?_
        refine lv_iload hx hb dX5_walkOn_48 (lv_at hl 3 rfl) ?_
        refine lv_iload hx hb dX5_walkOn_50 (lv_at hl 0 rfl) ?_
        refine lv_iload_n hx hb dX5_walkOn_52 rfl (lv_at hl 7 rfl) ?_
        refine lv_iload hx hb dX5_walkOn_53 (lv_at hl 2 rfl) ?_
        refine cr_i (va_runV (As := [.ref (ad 4), .int y1, .int v8_30, .int vu, .int r3]) (rest := []) ⟨hx, hb, hml, hown, hts⟩ (sx_buys l dC dI cs ad nu30_ ok H hP y1 v8_30 vu r3 (by omega)) (cwV 5 hts (wU_V mw_4_34 mw_4_31 mw_4_33 mw_0_14 mw_1_8) rfl rfl rfl (by decide +kernel) ⟨Nat.le_of_ble_eq_true rfl, Nat.le_of_ble_eq_true rfl⟩) ⟨sz_c, va_recv hK hP (ci := 5) (q0 := 32) rfl (gX_32 cs ad nu30_), sz_m hK hz⟩ rfl rfl hl.1 rfl (lv_room (Nat.le_of_ble_eq_true rfl)) dX5_walkOn_55 ⟨Nat.zero_le _, Nat.zero_le _⟩) hS (fun r6 hw6 locs hS => ?_)
        have gr6 : 0 ≤ r6.toInt ∧ r6.toInt ≤ 1 := hw6
        refine lv_if_ne (tgt := 64) hx hb dX5_walkOn_58 (by decide) (fun c_7 => ?_) (fun c_7 => ?_)
        · have c_7 : ¬ r6.toInt = 0 := il_ne c_7
          refine lv_aload_n hx hb dX5_walkOn_64 rfl (lv_at hl 4 rfl) ?_
          refine va_get (D := (dC, dI)) (ci := 5) (v := .ref (ad 54)) (C := RX5) (T := TX5) (N := 15) hx hb hts inG5 hown hK hP 32 (gX_32 cs ad nu30_) rfl 2 (by decide) (hts _ (List.mem_cons_of_mem _ mw_2_48)) (fun _ h9 => h9) rfl dX5_walkOn_65 ?_
          refine lv_iload hx hb dX5_walkOn_68 (lv_at hl 1 rfl) ?_
          refine lv_iload hx hb dX5_walkOn_70 (lv_at hl 0 rfl) ?_
          refine va_iast hx hb hK hP (wR_D nu30_ hD) hS 54 0 (gX_54 cs ad nu30_) rfl (show vp_in 1 7 from (by unfold vp_in; decide)) dX5_walkOn_72 (fun H locs hP _ hS => ?_)
          refine wr_gen (upd (nu30_ 54) (1 : Int32).toNatClampNeg v8_30) hP (rfl) (fun nu8 hn8 hP => ?_)
          have ok := tX_54_s ok (1 : Int32).toNatClampNeg hn8 (by exact ⟨by omega, by omega⟩)
          have ez9 : y4 = nu8 4 6 := ey4.trans (congrFun (up_k hn8 (by decide)) 6).symm
          refine lv_iload hx hb dX5_walkOn_73 (lv_at hl 0 rfl) ?_
          refine lv_aload_n hx hb dX5_walkOn_75 rfl (lv_at hl 4 rfl) ?_
          refine va_get (D := (dC, dI)) (ci := 5) (v := .int (nu8 32 6)) (C := RX5) (T := TX5) (N := 15) hx hb hts inG5 hown hK hP 32 (gX_32 cs ad nu8) rfl 6 (by decide) (hts _ (List.mem_cons_of_mem _ mw_2_54)) (fun _ h9 => h9) rfl dX5_walkOn_76 ?_
          refine lv_topi (fun y10 ey10 => ?_)
          have by10 : y10.toInt = (nu8 32 6).toInt := congrArg Int32.toInt ey10
          have gy10 : 0 ≤ y10.toInt ∧ y10.toInt ≤ 6 := by rw [ey10]; exact rX_32_6 ok
          refine lv_icmp_ne (tgt := 94) hx hb dX5_walkOn_79 (by decide) (fun c_11 => ?_) (fun c_11 => ?_)
          · have c_11 : ¬ v8_30.toInt = y10.toInt := il_ne c_11
            refine lv_aload_n hx hb dX5_walkOn_94 rfl (lv_at hl 4 rfl) ?_
            refine lv_aload_n hx hb dX5_walkOn_95 rfl (lv_at hl 5 rfl) ?_
            refine lv_iload hx hb dX5_walkOn_96 (lv_at hl 1 rfl) ?_
            refine lv_iload_n hx hb dX5_walkOn_98 rfl (lv_at hl 7 rfl) ?_
            refine lv_iconst (v := 1) hx hb dX5_walkOn_99 (by decide) ?_
            refine lv_iload hx hb dX5_walkOn_100 (lv_at hl 0 rfl) ?_
            refine lv_ishl hx hb dX5_walkOn_102 ?_
            refine lv_topi (fun t12 et12 => ?_)
            refine lv_ior hx hb dX5_walkOn_103 ?_
            refine lv_topi (fun t13 et13 => ?_)
            refine lv_iload hx hb dX5_walkOn_104 (lv_at hl 2 rfl) ?_
            have hFc := fr_all (wR_D nu8 hD) hS hA
            refine va_callv (va_runV (As := [.ref (ad 4), .int 1, .int t13, .int r3]) (rest := []) ⟨hx, hb, hml, hown, hts⟩ (sx_walkOn1 l dC dI cs ad nu8 ok H hP ((wR_D nu8 hD).weaken (fun _ _ _ _ => trivial)) t13 r3) (cwV 4 hts (wU_V mw_4_29 mw_4_26 mw_4_28 mw_0_13 mw_1_8) rfl rfl rfl (by decide +kernel) ⟨Nat.le_of_ble_eq_true rfl, Nat.le_of_ble_eq_true rfl⟩) ⟨sz_c, va_recv hK hP (ci := 5) (q0 := 32) rfl (gX_32 cs ad nu8), sz_m hK hz⟩ rfl rfl hl.1 rfl (lv_room (Nat.le_of_ble_eq_true rfl)) dX5_walkOn_106 ⟨Nat.zero_le _, Nat.zero_le _⟩) hS (fun q _ h => hFc q h) hFc (fun xi14 t H14 locs ht hvm hw14 hB hz1 hk1 hS => ?_)
            have hP : va_P (dC, dI) vwCl (wR 157 ad (EX cs ad) xi14) H14 := by rw [← ht]; exact hB
            obtain ⟨ok, hw14, _⟩ := hw14
            refine lv_iinc (v := (v8_30 + 1)) (lv' := [(8, .int (v8_30 + 1)), (7, .int 1), (6, .int r3), (5, .int y1), (0, .ref (ad 32)), (1, .ref (ad 4)), (2, .int 0), (3, .int vu), (4, .int vp)]) hx hb dX5_walkOn_109 hl (k := 0) rfl rfl (by decide) rfl (fun ls hl => ?_)
            refine loc_gen (P := fun w9 => lv_has ls 9 [(8, .int w9), (7, .int 1), (6, .int r3), (5, .int y1), (0, .ref (ad 32)), (1, .ref (ad 4)), (2, .int 0), (3, .int vu), (4, .int vp)]) (v8_30 + 1) hl (fun w15 hw15 hl => ?_)
            have hl : lv_has ls 9 [(8, .int w15), (7, .int 1), (6, .int r3), (5, .int y1), (0, .ref (ad 32)), (1, .ref (ad 4)), (2, .int 0), (3, .int vu), (4, .int vp)] := hl
            have aw15 : w15.toInt = v8_30.toInt + 1 := by rw [← hw15]; exact tI_add (rfl : v8_30.toInt = _) (rfl : (1 : Int32).toInt = 1) (by omega) (by omega)
            refine lv_goto (tgt := 30) hx hb dX5_walkOn_112 (by decide) ?_
            exact ih30 (w15) xi14 _ _ _ (by omega) (by exact ⟨by omega, by omega⟩)  ok hP   hS (lv_sub hl [0, 1, 2, 3, 4, 5, 6, 7, 8] rfl)
          · have c_11 : v8_30.toInt = y10.toInt := il_eq c_11
            refine lv_aload_n hx hb dX5_walkOn_82 rfl (lv_at hl 4 rfl) ?_
            refine lv_iload hx hb dX5_walkOn_83 (lv_at hl 1 rfl) ?_
            refine lv_iload_n hx hb dX5_walkOn_85 rfl (lv_at hl 7 rfl) ?_
            refine lv_iload hx hb dX5_walkOn_86 (lv_at hl 2 rfl) ?_
            have hFc := fr_all (wR_D nu8 hD) hS hA
            refine va_callv (va_runV (As := [.int 1, .int vu, .int r3]) (rest := []) ⟨hx, hb, hml, hown, hts⟩ (sx_R_arrive l dC dI cs ad nu8 ok H hP ((wR_D nu8 hD).weaken (fun _ _ _ _ => trivial)) 1 vu r3 (by have h50 : (1 : Int32).toInt = 1 := rfl; omega)) (cwV 3 hts (wU_V mw_4_39 mw_4_36 mw_4_38 mw_0_15 mw_1_8) rfl rfl rfl (by decide +kernel) ⟨Nat.le_of_ble_eq_true rfl, Nat.le_of_ble_eq_true rfl⟩) ⟨sz_c, va_recv hK hP (ci := 5) (q0 := 32) rfl (gX_32 cs ad nu8), sz_m hK hz⟩ rfl rfl hl.1 rfl (lv_room (Nat.le_of_ble_eq_true rfl)) dX5_walkOn_88 ⟨Nat.zero_le _, Nat.zero_le _⟩) hS (fun q _ h => hFc q h) hFc (fun xi16 t H16 locs ht hvm hw16 hB hz1 hk1 hS => ?_)
            have hP : va_P (dC, dI) vwCl (wR 157 ad (EX cs ad) xi16) H16 := by rw [← ht]; exact hB
            obtain ⟨ok, hw16, _⟩ := hw16
            refine lv_goto (tgt := 109) hx hb dX5_walkOn_91 (by decide) ?_
            refine lv_iinc (v := (v8_30 + 1)) (lv' := [(8, .int (v8_30 + 1)), (7, .int 1), (6, .int r3), (5, .int y1), (0, .ref (ad 32)), (1, .ref (ad 4)), (2, .int 0), (3, .int vu), (4, .int vp)]) hx hb dX5_walkOn_109 hl (k := 0) rfl rfl (by decide) rfl (fun ls hl => ?_)
            refine loc_gen (P := fun w9 => lv_has ls 9 [(8, .int w9), (7, .int 1), (6, .int r3), (5, .int y1), (0, .ref (ad 32)), (1, .ref (ad 4)), (2, .int 0), (3, .int vu), (4, .int vp)]) (v8_30 + 1) hl (fun w17 hw17 hl => ?_)
            have hl : lv_has ls 9 [(8, .int w17), (7, .int 1), (6, .int r3), (5, .int y1), (0, .ref (ad 32)), (1, .ref (ad 4)), (2, .int 0), (3, .int vu), (4, .int vp)] := hl
            have aw17 : w17.toInt = v8_30.toInt + 1 := by rw [← hw17]; exact tI_add (rfl : v8_30.toInt = _) (rfl : (1 : Int32).toInt = 1) (by omega) (by omega)
            refine lv_goto (tgt := 30) hx hb dX5_walkOn_112 (by decide) ?_
            exact ih30 (w17) xi16 _ _ _ (by omega) (by exact ⟨by omega, by omega⟩)  ok hP   hS (lv_sub hl [0, 1, 2, 3, 4, 5, 6, 7, 8] rfl)
        · have c_7 : r6.toInt = 0 := il_eq c_7
          refine lv_goto (tgt := 109) hx hb dX5_walkOn_61 (by decide) ?_
          refine lv_iinc (v := (v8_30 + 1)) (lv' := [(8, .int (v8_30 + 1)), (7, .int 1), (6, .int r3), (5, .int y1), (0, .ref (ad 32)), (1, .ref (ad 4)), (2, .int 0), (3, .int vu), (4, .int vp)]) hx hb dX5_walkOn_109 hl (k := 0) rfl rfl (by decide) rfl (fun ls hl => ?_)
          refine loc_gen (P := fun w9 => lv_has ls 9 [(8, .int w9), (7, .int 1), (6, .int r3), (5, .int y1), (0, .ref (ad 32)), (1, .ref (ad 4)), (2, .int 0), (3, .int vu), (4, .int vp)]) (v8_30 + 1) hl (fun w18 hw18 hl => ?_)
          have hl : lv_has ls 9 [(8, .int w18), (7, .int 1), (6, .int r3), (5, .int y1), (0, .ref (ad 32)), (1, .ref (ad 4)), (2, .int 0), (3, .int vu), (4, .int vp)] := hl
          have aw18 : w18.toInt = v8_30.toInt + 1 := by rw [← hw18]; exact tI_add (rfl : v8_30.toInt = _) (rfl : (1 : Int32).toInt = 1) (by omega) (by omega)
          refine lv_goto (tgt := 30) hx hb dX5_walkOn_112 (by decide) ?_
          exact ih30 (w18) nu30_ _ _ _ (by omega) (by exact ⟨by omega, by omega⟩)  ok hP   hS (lv_sub hl [0, 1, 2, 3, 4, 5, 6, 7, 8] rfl)
  exact loop30 ((7 + 1 - (0 : Int32).toInt).toNat + 1) (0) mu _ _ _ (Nat.lt_succ_self _) (by have h80 : (0 : Int32).toInt = 0 := rfl; exact ⟨by omega, by omega⟩)  ok hP   hS hl
