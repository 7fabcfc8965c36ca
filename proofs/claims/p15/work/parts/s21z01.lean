set_option maxHeartbeats 4000000 in
set_option maxRecDepth 100000 in
/-- sx_take56 -/
theorem sx_take56 (l : Launch) (dC : Nat → ClassId) (dI : Nat → Nat → Nat) (cs : Nat → ClassId) (ad : Nat → Nat) (mu : Nat → Nat → Int32) (ok : okR loX hiX mu) (H : Heap) (hP : va_P (dC, dI) vwCl (wR 157 ad (EX cs ad) mu) H) (hD0 : va_D (fun _ => True) (wR 157 ad (EX cs ad) mu)) (vn : Int32) (vp : Int32) (hin0 : 0 ≤ vn.toInt ∧ vn.toInt ≤ 6) : Met l yX0_take (wU yX0_take cX0_take 4 none) ({ frames := 1, cells := 0, slots := 0, locals := 60 }) (va_Pc [.ref (ad 56), .ref (ad 54), .int vn, .int vp] (sz_P (dC, dI) vwCl (tyW cs) H)) (va_Qv (fun (xi : Nat → Nat → Int32) => okR loX hiX xi ∧ (True) ∧ (∀ k f : Nat, Nat.testBit 510 (gpX k f) = true → xi k f = mu k f)) (fun xi t => va_P (dC, dI) vwCl (wR 157 ad (EX cs ad) xi) t.heap) (va_A (wR 157 ad (EX cs ad) mu) H.size)) 0 0 (va_A (wR 157 ad (EX cs ad) mu) H.size) := by
  refine Met.ofW (cc := cX0_take) (maxL := 4) (ret := none) (by decide) rfl ?_
  intro p e s m args below meth c s₁ B hml hv
  obtain ⟨rfl, hh, hK, hz⟩ := hv
  have hx := B.exec
  have hb := B.bytes
  have hr := B.returns
  have hts := atoms_spec (ws := (wU yX0_take cX0_take 4 none)) B.pre
  have hown : s.vm.findClass RX0 = some m.cls := findClass_of_methodNamed B.named
  have hlocks := B.notSynchronized
  subst hh
  have hD := hD0.self (sz := s.heap.size)
  have hA : ∀ q : Nat, s.heap.size ≤ q → (va_A (wR 157 ad (EX cs ad) mu) s.heap.size) q := fun q h => Or.inr h
  have hS : va_S (va_A (wR 157 ad (EX cs ad) mu) s.heap.size) s.heap s.heap [] := va_S.rf
  have hl := lv_entry ([.ref (ad 56), .ref (ad 54), .int vn, .int vp]) (n := 4) (Nat.le_of_ble_eq_true rfl)
  rw [lg_entry_eq]
  generalize (lg_sl ([.ref (ad 56), .ref (ad 54), .int vn, .int vp]) ++ List.replicate (4 - (lg_sl ([.ref (ad 56), .ref (ad 54), .int vn, .int vp])).length) Slot.unset).toArray = ls at hl ⊢
  have hl : lv_has ls 4 [(0, .ref (ad 56)), (1, .ref (ad 54)), (2, .int vn), (3, .int vp)] := hl
  refine lv_aload_n hx hb dX0_take_0 rfl (lv_at hl 1 rfl) ?_
  refine lv_iconst (v := 0) hx hb dX0_take_1 (by decide) ?_
  refine lv_aload_n hx hb dX0_take_2 rfl (lv_at hl 0 rfl) ?_
  refine va_get (D := (dC, dI)) (ci := 0) (v := .ref (ad 58)) (C := RX0) (T := TX0) (N := 4) hx hb hts inG0 hown hK hP 56 (gX_56 cs ad mu) rfl 0 (by decide) (hts _ (List.mem_cons_of_mem _ mw_2_26)) (fun _ h9 => h9) rfl dX0_take_3 ?_
  refine lv_iconst (v := 0) hx hb dX0_take_6 (by decide) ?_
  refine lv_iload_n hx hb dX0_take_7 rfl (lv_at hl 2 rfl) ?_
  refine lv_iconst (v := 1) hx hb dX0_take_8 (by decide) ?_
  refine lv_iadd hx hb dX0_take_9 ?_
  refine lv_topi (fun t1 et1 => ?_)
  have at1 : t1.toInt = vn.toInt + 1 := by rw [et1]; exact tI_add (rfl : vn.toInt = _) (rfl : (1 : Int32).toInt = 1) (by omega) (by omega)
  refine va_copyi hx hb (hml.trans hl.1.symm) hown (hts _ (List.mem_cons_of_mem _ mw_4_44)) (hts _ (List.mem_cons_of_mem _ mw_3_4)) (hts _ (List.mem_cons_of_mem _ mw_3_3)) (hts _ (List.mem_cons_of_mem _ mw_1_15)) hK hP (wR_D mu hD) hS 54 58 0 0 (gX_54 cs ad mu) (gX_58 cs ad mu) rfl rfl rfl (by decide) (by decide) (nlt_of (by omega)) (by have ua : ((0 : Int32).toNatClampNeg : Int) = 0 := rfl; have ub : ((0 : Int32).toNatClampNeg : Int) = 0 := rfl; have uc : ((t1 : Int32).toNatClampNeg : Int) = t1.toInt := tC_of (by omega); omega) (by have ua : ((0 : Int32).toNatClampNeg : Int) = 0 := rfl; have ub : ((0 : Int32).toNatClampNeg : Int) = 0 := rfl; have uc : ((t1 : Int32).toNatClampNeg : Int) = t1.toInt := tC_of (by omega); omega) (fun _ _ => rfl) (Nat.le_of_ble_eq_true rfl) (Nat.le_of_ble_eq_true rfl) dX0_take_10 (fun H locs hP _ hS => ?_)
  refine wr_gen (va_cpy (mu 54) (mu 58) (0 : Int32).toNatClampNeg (0 : Int32).toNatClampNeg (t1 : Int32).toNatClampNeg) hP (rfl) (fun nu2 hn2 hP => ?_)
  have ok := okR_cp ok hn2 (cX_54_58  )
  have kp3 : (∀ k f : Nat, Nat.testBit 510 (gpX k f) = true → nu2 k f = mu k f) := kp_c 0 hn2 (fun _ => rfl) (by decide) (fun _ _ _ => rfl)
  refine lv_aload_n hx hb dX0_take_13 rfl (lv_at hl 0 rfl) ?_
  refine lv_iload_n hx hb dX0_take_14 rfl (lv_at hl 2 rfl) ?_
  refine va_put (D := (dC, dI)) (ci := 0) (v := .int vn) (ty := .int) (C := RX0) (T := TX0) (N := 4) hx hb hts inG0 tyX0 tyX0_ok nmX0 hown hK hP (wR_D nu2 hD) hS 56 (gX_56 cs ad nu2) rfl 1 (by decide) (hts _ (List.mem_cons_of_mem _ mw_2_28)) (fun _ h9 => h9) rfl (by decide +kernel) rfl rfl (Nat.le_of_ble_eq_true rfl) dX0_take_15 (fun H locs hP _ hS => ?_)
  simp only [List.set_cons_succ, List.set_cons_zero] at hP
  refine wr_gen (upd (nu2 56) 1 vn) hP ((hX_56_1 cs ad _ _)) (fun nu4 hn4 hP => ?_)
  have ok := tX_56_1 ok hn4 (by exact ⟨by omega, by omega⟩)
  have kp5 : (∀ k f : Nat, Nat.testBit 510 (gpX k f) = true → nu4 k f = mu k f) := kp_c 0 hn4 (fun _ => rfl) (by decide) kp3
  have ez6 : vn = nu4 56 1 := up_v hn4
  refine lv_aload_n hx hb dX0_take_18 rfl (lv_at hl 0 rfl) ?_
  refine lv_iload_n hx hb dX0_take_19 rfl (lv_at hl 3 rfl) ?_
  refine va_put (D := (dC, dI)) (ci := 0) (v := .int vp) (ty := .int) (C := RX0) (T := TX0) (N := 4) hx hb hts inG0 tyX0 tyX0_ok nmX0 hown hK hP (wR_D nu4 hD) hS 56 (gX_56 cs ad nu4) rfl 2 (by decide) (hts _ (List.mem_cons_of_mem _ mw_2_31)) (fun _ h9 => h9) rfl (by decide +kernel) rfl rfl (Nat.le_of_ble_eq_true rfl) dX0_take_20 (fun H locs hP _ hS => ?_)
  simp only [List.set_cons_succ, List.set_cons_zero] at hP
  refine wr_gen (upd (nu4 56) 2 vp) hP ((hX_56_2 cs ad _ _)) (fun nu7 hn7 hP => ?_)
  have ok := tX_56_2 ok hn7
  have ez8 : vn = nu7 56 1 := ez6.trans (up_f hn7 (by decide)).symm
  have kp9 : (∀ k f : Nat, Nat.testBit 510 (gpX k f) = true → nu7 k f = mu k f) := kp_c 0 hn7 (fun _ => rfl) (by decide) kp5
  have ez10 : vp = nu7 56 2 := up_v hn7
  refine lv_aload_n hx hb dX0_take_23 rfl (lv_at hl 0 rfl) ?_
  refine lv_iconst (v := 1) hx hb dX0_take_24 (by decide) ?_
  refine va_put (D := (dC, dI)) (ci := 0) (v := .int 1) (ty := .boolean) (C := RX0) (T := TX0) (N := 4) hx hb hts inG0 tyX0 tyX0_ok nmX0 hown hK hP (wR_D nu7 hD) hS 56 (gX_56 cs ad nu7) rfl 3 (by decide) (hts _ (List.mem_cons_of_mem _ mw_2_34)) (fun _ h9 => h9) rfl (by decide +kernel) (by first | rfl | decide) (by first | rfl | decide) (Nat.le_of_ble_eq_true rfl) dX0_take_25 (fun H locs hP _ hS => ?_)
  simp only [List.set_cons_succ, List.set_cons_zero] at hP
  refine wr_gen (upd (nu7 56) 3 1) hP ((hX_56_3 cs ad _ _)) (fun nu11 hn11 hP => ?_)
  have ok := tX_56_3 ok hn11 (by have h9 : (1 : Int32).toInt = 1 := rfl; exact ⟨by omega, by omega⟩)
  have ez12 : vn = nu11 56 1 := ez8.trans (up_f hn11 (by decide)).symm
  have ez13 : vp = nu11 56 2 := ez10.trans (up_f hn11 (by decide)).symm
  have kp14 : (∀ k f : Nat, Nat.testBit 510 (gpX k f) = true → nu11 k f = mu k f) := kp_c 0 hn11 (fun _ => rfl) (by decide) kp9
  have ez15 : 1 = nu11 56 3 := up_v hn11
  exact W.vret hx hb hr (fun t ht hW => ⟨⟨nu11, rfl, ⟨ok, trivial, kp14⟩, by first | (subst ht; exact hP) | (rw [ht]; exact hP) | (show va_P (dC, dI) vwCl (wR 157 ad (EX cs ad) nu11) t.heap; rw [ht]; exact hP)⟩, hS.F ht⟩) hS.2.2 dX0_take_28
