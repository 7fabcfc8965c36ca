set_option maxHeartbeats 4000000 in
set_option maxRecDepth 100000 in
/-- sm_setRoutes -/
theorem sm_setRoutes (l : Launch) (dC : Nat → ClassId) (dI : Nat → Nat → Nat) (cs : Nat → ClassId) (ad : Nat → Nat) (mu : Nat → Nat → Int32) (ok : okR loM hiM mu) (H : Heap) (hP : va_P (dC, dI) vwCl (wR 21 ad (EM cs ad) mu) H) (hD0 : va_D (fun _ => True) (wR 21 ad (EM cs ad) mu)) (vk : Int32) (vf : Int32) (vg : Int32) (vp : Int32) (hin0 : (vk.toInt = -9 ∨ (0 ≤ vk.toInt ∧ vk.toInt ≤ 3)) ∧ 0 ≤ vf.toInt ∧ vf.toInt ≤ 6) : Met l yX12_setRoutes (wU yX12_setRoutes cX12_setRoutes 5 none) ({ frames := 9, cells := 0, slots := 0, locals := 235 }) (va_Pc [.ref (ad 0), .int vk, .int vf, .int vg, .int vp] (sz_P (dC, dI) vwCl (tyM cs) H)) (va_Qv (fun (xi : Nat → Nat → Int32) => okR loM hiM xi ∧ (((xi 0 39).toInt = -9 ∨ (0 ≤ (xi 0 39).toInt ∧ (xi 0 39).toInt ≤ 3)) ∧ ((xi 0 33).toInt = 0 ∨ (xi 0 35).toInt ≤ 7)) ∧ True) (fun xi t => va_P (dC, dI) vwCl (wR 21 ad (EM cs ad) xi) t.heap) (va_A (wR 21 ad (EM cs ad) mu) H.size)) 0 0 (va_A (wR 21 ad (EM cs ad) mu) H.size) := by
  refine Met.ofW (cc := cX12_setRoutes) (maxL := 5) (ret := none) (by decide) rfl ?_
  intro p e s m args below meth c s₁ B hml hv
  obtain ⟨rfl, hh, hK, hz⟩ := hv
  have hx := B.exec
  have hb := B.bytes
  have hr := B.returns
  have hts := atoms_spec (ws := (wU yX12_setRoutes cX12_setRoutes 5 none)) B.pre
  have hown : s.vm.findClass RX12 = some m.cls := findClass_of_methodNamed B.named
  have hlocks := B.notSynchronized
  subst hh
  have hD := hD0.self (sz := s.heap.size)
  have hA : ∀ q : Nat, s.heap.size ≤ q → (va_A (wR 21 ad (EM cs ad) mu) s.heap.size) q := fun q h => Or.inr h
  have hS : va_S (va_A (wR 21 ad (EM cs ad) mu) s.heap.size) s.heap s.heap [] := va_S.rf
  have hl := lv_entry ([.ref (ad 0), .int vk, .int vf, .int vg, .int vp]) (n := 5) (Nat.le_of_ble_eq_true rfl)
  rw [lg_entry_eq]
  generalize (lg_sl ([.ref (ad 0), .int vk, .int vf, .int vg, .int vp]) ++ List.replicate (5 - (lg_sl ([.ref (ad 0), .int vk, .int vf, .int vg, .int vp])).length) Slot.unset).toArray = ls at hl ⊢
  have hl : lv_has ls 5 [(0, .ref (ad 0)), (1, .int vk), (2, .int vf), (3, .int vg), (4, .int vp)] := hl
  obtain ⟨y1, ey1⟩ : ∃ z : Int32, z = mu 0 39 := ⟨_, rfl⟩
  have by1 : y1.toInt = (mu 0 39).toInt := congrArg Int32.toInt ey1
  have gy1 : -9 ≤ y1.toInt ∧ y1.toInt ≤ 3 := by rw [ey1]; exact rM_0_39 ok
  obtain ⟨y2, ey2⟩ : ∃ z : Int32, z = mu 0 33 := ⟨_, rfl⟩
  have by2 : y2.toInt = (mu 0 33).toInt := congrArg Int32.toInt ey2
  obtain ⟨y3, ey3⟩ : ∃ z : Int32, z = mu 0 35 := ⟨_, rfl⟩
  have by3 : y3.toInt = (mu 0 35).toInt := congrArg Int32.toInt ey3
  refine lv_aload_n hx hb dX12_setRoutes_0 rfl (lv_at hl 0 rfl) ?_
  refine lv_iload_n hx hb dX12_setRoutes_1 rfl (lv_at hl 1 rfl) ?_
  refine va_put (D := (dC, dI)) (ci := 12) (v := .int vk) (ty := .int) (C := RX12) (T := TX12) (N := 46) hx hb hts inG12 tyX12 tyX12_ok nmX12 hown hK hP (wR_D mu hD) hS 0 (gM_0 cs ad mu) rfl 39 (by decide) (hts _ (List.mem_cons_of_mem _ mw_5_80)) (fun _ h9 => h9) rfl (by decide +kernel) rfl rfl (Nat.le_of_ble_eq_true rfl) dX12_setRoutes_2 (fun H locs hP _ hS => ?_)
  simp only [List.set_cons_succ, List.set_cons_zero] at hP
  refine wr_gen (upd (mu 0) 39 vk) hP ((hM_0_39 cs ad _ _)) (fun nu4 hn4 hP => ?_)
  have ok := tM_0_39 ok hn4 (by exact ⟨by omega, by omega⟩)
  have ez5 : y2 = nu4 0 33 := ey2.trans (up_f hn4 (by decide)).symm
  have ez6 : y3 = nu4 0 35 := ey3.trans (up_f hn4 (by decide)).symm
  have ez7 : vk = nu4 0 39 := up_v hn4
  refine lv_aload_n hx hb dX12_setRoutes_5 rfl (lv_at hl 0 rfl) ?_
  refine lv_iload_n hx hb dX12_setRoutes_6 rfl (lv_at hl 3 rfl) ?_
  refine va_put (D := (dC, dI)) (ci := 12) (v := .int vg) (ty := .int) (C := RX12) (T := TX12) (N := 46) hx hb hts inG12 tyX12 tyX12_ok nmX12 hown hK hP (wR_D nu4 hD) hS 0 (gM_0 cs ad nu4) rfl 29 (by decide) (hts _ (List.mem_cons_of_mem _ mw_5_70)) (fun _ h9 => h9) rfl (by decide +kernel) rfl rfl (Nat.le_of_ble_eq_true rfl) dX12_setRoutes_7 (fun H locs hP _ hS => ?_)
  simp only [List.set_cons_succ, List.set_cons_zero] at hP
  refine wr_gen (upd (nu4 0) 29 vg) hP ((hM_0_29 cs ad _ _)) (fun nu8 hn8 hP => ?_)
  have ok := tM_0_29 ok hn8
  have ez9 : y2 = nu8 0 33 := ez5.trans (up_f hn8 (by decide)).symm
  have ez10 : y3 = nu8 0 35 := ez6.trans (up_f hn8 (by decide)).symm
  have ez11 : vk = nu8 0 39 := ez7.trans (up_f hn8 (by decide)).symm
  have ez12 : vg = nu8 0 29 := up_v hn8
  refine lv_aload_n hx hb dX12_setRoutes_10 rfl (lv_at hl 0 rfl) ?_
  refine lv_iconst (v := 0) hx hb dX12_setRoutes_11 (by decide) ?_
  refine va_put (D := (dC, dI)) (ci := 12) (v := .int 0) (ty := .int) (C := RX12) (T := TX12) (N := 46) hx hb hts inG12 tyX12 tyX12_ok nmX12 hown hK hP (wR_D nu8 hD) hS 0 (gM_0 cs ad nu8) rfl 30 (by decide) (hts _ (List.mem_cons_of_mem _ mw_5_71)) (fun _ h9 => h9) rfl (by decide +kernel) rfl rfl (Nat.le_of_ble_eq_true rfl) dX12_setRoutes_12 (fun H locs hP _ hS => ?_)
  simp only [List.set_cons_succ, List.set_cons_zero] at hP
  refine wr_gen (upd (nu8 0) 30 0) hP ((hM_0_30 cs ad _ _)) (fun nu13 hn13 hP => ?_)
  have ok := tM_0_30 ok hn13
  have ez14 : y2 = nu13 0 33 := ez9.trans (up_f hn13 (by decide)).symm
  have ez15 : y3 = nu13 0 35 := ez10.trans (up_f hn13 (by decide)).symm
  have ez16 : vk = nu13 0 39 := ez11.trans (up_f hn13 (by decide)).symm
  have ez17 : vg = nu13 0 29 := ez12.trans (up_f hn13 (by decide)).symm
  have ez18 : 0 = nu13 0 30 := up_v hn13
  refine lv_aload_n hx hb dX12_setRoutes_15 rfl (lv_at hl 0 rfl) ?_
  refine lv_ldc (v := 1048576) hx hb hown (hts _ (List.mem_cons_of_mem _ mw_6_179)) dX12_setRoutes_16 ?_
  refine va_put (D := (dC, dI)) (ci := 12) (v := .int 1048576) (ty := .int) (C := RX12) (T := TX12) (N := 46) hx hb hts inG12 tyX12 tyX12_ok nmX12 hown hK hP (wR_D nu13 hD) hS 0 (gM_0 cs ad nu13) rfl 31 (by decide) (hts _ (List.mem_cons_of_mem _ mw_5_72)) (fun _ h9 => h9) rfl (by decide +kernel) rfl rfl (Nat.le_of_ble_eq_true rfl) dX12_setRoutes_18 (fun H locs hP _ hS => ?_)
  simp only [List.set_cons_succ, List.set_cons_zero] at hP
  refine wr_gen (upd (nu13 0) 31 1048576) hP ((hM_0_31 cs ad _ _)) (fun nu19 hn19 hP => ?_)
  have ok := tM_0_31 ok hn19
  have ez20 : y2 = nu19 0 33 := ez14.trans (up_f hn19 (by decide)).symm
  have ez21 : y3 = nu19 0 35 := ez15.trans (up_f hn19 (by decide)).symm
  have ez22 : vk = nu19 0 39 := ez16.trans (up_f hn19 (by decide)).symm
  have ez23 : vg = nu19 0 29 := ez17.trans (up_f hn19 (by decide)).symm
  have ez24 : 0 = nu19 0 30 := ez18.trans (up_f hn19 (by decide)).symm
  have ez25 : 1048576 = nu19 0 31 := up_v hn19
  refine lv_aload_n hx hb dX12_setRoutes_21 rfl (lv_at hl 0 rfl) ?_
  refine lv_iconst (v := 0) hx hb dX12_setRoutes_22 (by decide) ?_
  refine va_put (D := (dC, dI)) (ci := 12) (v := .int 0) (ty := .int) (C := RX12) (T := TX12) (N := 46) hx hb hts inG12 tyX12 tyX12_ok nmX12 hown hK hP (wR_D nu19 hD) hS 0 (gM_0 cs ad nu19) rfl 32 (by decide) (hts _ (List.mem_cons_of_mem _ mw_5_73)) (fun _ h9 => h9) rfl (by decide +kernel) rfl rfl (Nat.le_of_ble_eq_true rfl) dX12_setRoutes_23 (fun H locs hP _ hS => ?_)
  simp only [List.set_cons_succ, List.set_cons_zero] at hP
  refine wr_gen (upd (nu19 0) 32 0) hP ((hM_0_32 cs ad _ _)) (fun nu26 hn26 hP => ?_)
  have ok := tM_0_32 ok hn26 (by have h9 : (0 : Int32).toInt = 0 := rfl; exact ⟨by omega, by omega⟩)
  have ez27 : y2 = nu26 0 33 := ez20.trans (up_f hn26 (by decide)).symm
  have ez28 : y3 = nu26 0 35 := ez21.trans (up_f hn26 (by decide)).symm
  have ez29 : vk = nu26 0 39 := ez22.trans (up_f hn26 (by decide)).symm
  have ez30 : vg = nu26 0 29 := ez23.trans (up_f hn26 (by decide)).symm
  have ez31 : 0 = nu26 0 30 := ez24.trans (up_f hn26 (by decide)).symm
  have ez32 : 1048576 = nu26 0 31 := ez25.trans (up_f hn26 (by decide)).symm
  have ez33 : 0 = nu26 0 32 := up_v hn26
  refine lv_aload_n hx hb dX12_setRoutes_26 rfl (lv_at hl 0 rfl) ?_
  refine lv_iconst (v := 0) hx hb dX12_setRoutes_27 (by decide) ?_
  refine va_put (D := (dC, dI)) (ci := 12) (v := .int 0) (ty := .int) (C := RX12) (T := TX12) (N := 46) hx hb hts inG12 tyX12 tyX12_ok nmX12 hown hK hP (wR_D nu26 hD) hS 0 (gM_0 cs ad nu26) rfl 33 (by decide) (hts _ (List.mem_cons_of_mem _ mw_5_74)) (fun _ h9 => h9) rfl (by decide +kernel) rfl rfl (Nat.le_of_ble_eq_true rfl) dX12_setRoutes_28 (fun H locs hP _ hS => ?_)
  simp only [List.set_cons_succ, List.set_cons_zero] at hP
  refine wr_gen (upd (nu26 0) 33 0) hP ((hM_0_33 cs ad _ _)) (fun nu34 hn34 hP => ?_)
  have ok := tM_0_33 ok hn34
  have ez35 : y3 = nu34 0 35 := ez28.trans (up_f hn34 (by decide)).symm
  have ez36 : vk = nu34 0 39 := ez29.trans (up_f hn34 (by decide)).symm
  have ez37 : vg = nu34 0 29 := ez30.trans (up_f hn34 (by decide)).symm
  have ez38 : 0 = nu34 0 30 := ez31.trans (up_f hn34 (by decide)).symm
  have ez39 : 1048576 = nu34 0 31 := ez32.trans (up_f hn34 (by decide)).symm
  have ez40 : 0 = nu34 0 32 := ez33.trans (up_f hn34 (by decide)).symm
  have ez41 : 0 = nu34 0 33 := up_v hn34
  refine lv_aload_n hx hb dX12_setRoutes_31 rfl (lv_at hl 0 rfl) ?_
  refine lv_iconst (v := 0) hx hb dX12_setRoutes_32 (by decide) ?_
  refine va_put (D := (dC, dI)) (ci := 12) (v := .int 0) (ty := .int) (C := RX12) (T := TX12) (N := 46) hx hb hts inG12 tyX12 tyX12_ok nmX12 hown hK hP (wR_D nu34 hD) hS 0 (gM_0 cs ad nu34) rfl 34 (by decide) (hts _ (List.mem_cons_of_mem _ mw_5_75)) (fun _ h9 => h9) rfl (by decide +kernel) rfl rfl (Nat.le_of_ble_eq_true rfl) dX12_setRoutes_33 (fun H locs hP _ hS => ?_)
  simp only [List.set_cons_succ, List.set_cons_zero] at hP
  refine wr_gen (upd (nu34 0) 34 0) hP ((hM_0_34 cs ad _ _)) (fun nu42 hn42 hP => ?_)
  have ok := tM_0_34 ok hn42
  have ez43 : y3 = nu42 0 35 := ez35.trans (up_f hn42 (by decide)).symm
  have ez44 : vk = nu42 0 39 := ez36.trans (up_f hn42 (by decide)).symm
  have ez45 : vg = nu42 0 29 := ez37.trans (up_f hn42 (by decide)).symm
  have ez46 : 0 = nu42 0 30 := ez38.trans (up_f hn42 (by decide)).symm
  have ez47 : 1048576 = nu42 0 31 := ez39.trans (up_f hn42 (by decide)).symm
  have ez48 : 0 = nu42 0 32 := ez40.trans (up_f hn42 (by decide)).symm
  have ez49 : 0 = nu42 0 33 := ez41.trans (up_f hn42 (by decide)).symm
  have ez50 : 0 = nu42 0 34 := up_v hn42
  refine lv_aload_n hx hb dX12_setRoutes_36 rfl (lv_at hl 0 rfl) ?_
  refine lv_ldc (v := 1048576) hx hb hown (hts _ (List.mem_cons_of_mem _ mw_6_179)) dX12_setRoutes_37 ?_
  refine va_put (D := (dC, dI)) (ci := 12) (v := .int 1048576) (ty := .int) (C := RX12) (T := TX12) (N := 46) hx hb hts inG12 tyX12 tyX12_ok nmX12 hown hK hP (wR_D nu42 hD) hS 0 (gM_0 cs ad nu42) rfl 35 (by decide) (hts _ (List.mem_cons_of_mem _ mw_5_76)) (fun _ h9 => h9) rfl (by decide +kernel) rfl rfl (Nat.le_of_ble_eq_true rfl) dX12_setRoutes_39 (fun H locs hP _ hS => ?_)
  simp only [List.set_cons_succ, List.set_cons_zero] at hP
  refine wr_gen (upd (nu42 0) 35 1048576) hP ((hM_0_35 cs ad _ _)) (fun nu51 hn51 hP => ?_)
  have ok := tM_0_35 ok hn51
  have ez52 : vk = nu51 0 39 := ez44.trans (up_f hn51 (by decide)).symm
  have ez53 : vg = nu51 0 29 := ez45.trans (up_f hn51 (by decide)).symm
  have ez54 : 0 = nu51 0 30 := ez46.trans (up_f hn51 (by decide)).symm
  have ez55 : 1048576 = nu51 0 31 := ez47.trans (up_f hn51 (by decide)).symm
  have ez56 : 0 = nu51 0 32 := ez48.trans (up_f hn51 (by decide)).symm
  have ez57 : 0 = nu51 0 33 := ez49.trans (up_f hn51 (by decide)).symm
  have ez58 : 0 = nu51 0 34 := ez50.trans (up_f hn51 (by decide)).symm
  have ez59 : 1048576 = nu51 0 35 := up_v hn51
  refine lv_aload_n hx hb dX12_setRoutes_42 rfl (lv_at hl 0 rfl) ?_
  refine lv_bipush (v := 127) hx hb dX12_setRoutes_43 (by decide) ?_
  refine va_put (D := (dC, dI)) (ci := 12) (v := .int 127) (ty := .int) (C := RX12) (T := TX12) (N := 46) hx hb hts inG12 tyX12 tyX12_ok nmX12 hown hK hP (wR_D nu51 hD) hS 0 (gM_0 cs ad nu51) rfl 36 (by decide) (hts _ (List.mem_cons_of_mem _ mw_5_77)) (fun _ h9 => h9) rfl (by decide +kernel) rfl rfl (Nat.le_of_ble_eq_true rfl) dX12_setRoutes_45 (fun H locs hP _ hS => ?_)
  simp only [List.set_cons_succ, List.set_cons_zero] at hP
  refine wr_gen (upd (nu51 0) 36 127) hP ((hM_0_36 cs ad _ _)) (fun nu60 hn60 hP => ?_)
  have ok := tM_0_36 ok hn60
  have ez61 : vk = nu60 0 39 := ez52.trans (up_f hn60 (by decide)).symm
  have ez62 : vg = nu60 0 29 := ez53.trans (up_f hn60 (by decide)).symm
  have ez63 : 0 = nu60 0 30 := ez54.trans (up_f hn60 (by decide)).symm
  have ez64 : 1048576 = nu60 0 31 := ez55.trans (up_f hn60 (by decide)).symm
  have ez65 : 0 = nu60 0 32 := ez56.trans (up_f hn60 (by decide)).symm
  have ez66 : 0 = nu60 0 33 := ez57.trans (up_f hn60 (by decide)).symm
  have ez67 : 0 = nu60 0 34 := ez58.trans (up_f hn60 (by decide)).symm
  have ez68 : 1048576 = nu60 0 35 := ez59.trans (up_f hn60 (by decide)).symm
  have ez69 : 127 = nu60 0 36 := up_v hn60
  refine lv_aload_n hx hb dX12_setRoutes_48 rfl (lv_at hl 0 rfl) ?_
  refine lv_ldc (v := 1048576) hx hb hown (hts _ (List.mem_cons_of_mem _ mw_6_179)) dX12_setRoutes_49 ?_
  refine va_put (D := (dC, dI)) (ci := 12) (v := .int 1048576) (ty := .int) (C := RX12) (T := TX12) (N := 46) hx hb hts inG12 tyX12 tyX12_ok nmX12 hown hK hP (wR_D nu60 hD) hS 0 (gM_0 cs ad nu60) rfl 37 (by decide) (hts _ (List.mem_cons_of_mem _ mw_5_78)) (fun _ h9 => h9) rfl (by decide +kernel) rfl rfl (Nat.le_of_ble_eq_true rfl) dX12_setRoutes_51 (fun H locs hP _ hS => ?_)
  simp only [List.set_cons_succ, List.set_cons_zero] at hP
  refine wr_gen (upd (nu60 0) 37 1048576) hP ((hM_0_37 cs ad _ _)) (fun nu70 hn70 hP => ?_)
  have ok := tM_0_37 ok hn70
  have ez71 : vk = nu70 0 39 := ez61.trans (up_f hn70 (by decide)).symm
  have ez72 : vg = nu70 0 29 := ez62.trans (up_f hn70 (by decide)).symm
  have ez73 : 0 = nu70 0 30 := ez63.trans (up_f hn70 (by decide)).symm
  have ez74 : 1048576 = nu70 0 31 := ez64.trans (up_f hn70 (by decide)).symm
  have ez75 : 0 = nu70 0 32 := ez65.trans (up_f hn70 (by decide)).symm
  have ez76 : 0 = nu70 0 33 := ez66.trans (up_f hn70 (by decide)).symm
  have ez77 : 0 = nu70 0 34 := ez67.trans (up_f hn70 (by decide)).symm
  have ez78 : 1048576 = nu70 0 35 := ez68.trans (up_f hn70 (by decide)).symm
  have ez79 : 127 = nu70 0 36 := ez69.trans (up_f hn70 (by decide)).symm
  have ez80 : 1048576 = nu70 0 37 := up_v hn70
  refine lv_aload_n hx hb dX12_setRoutes_54 rfl (lv_at hl 0 rfl) ?_
  refine va_get (D := (dC, dI)) (ci := 12) (v := .ref (ad 16)) (C := RX12) (T := TX12) (N := 46) hx hb hts inG12 hown hK hP 0 (gM_0 cs ad nu70) rfl 26 (by decide) (hts _ (List.mem_cons_of_mem _ mw_5_67)) (fun _ h9 => h9) rfl dX12_setRoutes_55 ?_
  refine lv_iconst (v := 0) hx hb dX12_setRoutes_58 (by decide) ?_
  refine lv_iload_n hx hb dX12_setRoutes_59 rfl (lv_at hl 2 rfl) ?_
  refine va_iast hx hb hK hP (wR_D nu70 hD) hS 16 0 (gM_16 cs ad nu70) rfl (show vp_in 0 7 from (by unfold vp_in; decide)) dX12_setRoutes_60 (fun H locs hP _ hS => ?_)
  refine wr_gen (upd (nu70 16) (0 : Int32).toNatClampNeg vf) hP (rfl) (fun nu81 hn81 hP => ?_)
  have ok := tM_16_s ok (0 : Int32).toNatClampNeg hn81 (by exact ⟨by omega, by omega⟩)
  have ez82 : vk = nu81 0 39 := ez71.trans (congrFun (up_k hn81 (by decide)) 39).symm
  have ez83 : vg = nu81 0 29 := ez72.trans (congrFun (up_k hn81 (by decide)) 29).symm
  have ez84 : 0 = nu81 0 30 := ez73.trans (congrFun (up_k hn81 (by decide)) 30).symm
  have ez85 : 1048576 = nu81 0 31 := ez74.trans (congrFun (up_k hn81 (by decide)) 31).symm
  have ez86 : 0 = nu81 0 32 := ez75.trans (congrFun (up_k hn81 (by decide)) 32).symm
  have ez87 : 0 = nu81 0 33 := ez76.trans (congrFun (up_k hn81 (by decide)) 33).symm
  have ez88 : 0 = nu81 0 34 := ez77.trans (congrFun (up_k hn81 (by decide)) 34).symm
  have ez89 : 1048576 = nu81 0 35 := ez78.trans (congrFun (up_k hn81 (by decide)) 35).symm
  have ez90 : 127 = nu81 0 36 := ez79.trans (congrFun (up_k hn81 (by decide)) 36).symm
  have ez91 : 1048576 = nu81 0 37 := ez80.trans (congrFun (up_k hn81 (by decide)) 37).symm
  refine lv_aload_n hx hb dX12_setRoutes_61 rfl (lv_at hl 0 rfl) ?_
  refine lv_iconst (v := 1) hx hb dX12_setRoutes_62 (by decide) ?_
  refine lv_iconst (v := 1) hx hb dX12_setRoutes_63 (by decide) ?_
  refine lv_iload_n hx hb dX12_setRoutes_64 rfl (lv_at hl 2 rfl) ?_
  refine lv_ishl hx hb dX12_setRoutes_65 ?_
  refine lv_topi (fun t92 et92 => ?_)
  refine lv_iload hx hb dX12_setRoutes_66 (lv_at hl 4 rfl) ?_
  have hFc := fr_all (wR_D nu81 hD) hS hA
  refine va_callv (va_runV (As := [.int 1, .int t92, .int vp]) (rest := []) ⟨hx, hb, hml, hown, hts⟩ (sm_routeOn1 l dC dI cs ad nu81 ok H hP ((wR_D nu81 hD).weaken (fun _ _ _ _ => trivial)) t92 vp (by have h50 : (1 : Int32).toInt = 1 := rfl; rw [et92]; exact h7_one (by omega) (by omega)) (by have h50 : (1 : Int32).toInt = 1 := rfl; have hb93 := congrArg Int32.toInt ez82; have hb94 : (nu81 0 33).toInt = 0 := (by rw [← ez87]; rfl); have hb95 : (nu81 0 35).toInt = 1048576 := (by rw [← ez89]; rfl); omega)) (cwV 3 hts (wU_V mw_6_183 mw_6_180 mw_6_182 mw_0_55 mw_1_13) rfl rfl rfl (by decide +kernel) ⟨Nat.le_of_ble_eq_true rfl, Nat.le_of_ble_eq_true rfl⟩) ⟨sz_c, va_recv hK hP (ci := 12) (q0 := 0) rfl (gM_0 cs ad nu81), sz_m hK hz⟩ rfl rfl hl.1 rfl (lv_room (Nat.le_of_ble_eq_true rfl)) dX12_setRoutes_68 ⟨Nat.zero_le _, Nat.zero_le _⟩) hS (fun q _ h => hFc q h) hFc (fun xi96 t H96 locs ht hvm hw96 hB hz1 hk1 hS => ?_)
  have hP : va_P (dC, dI) vwCl (wR 21 ad (EM cs ad) xi96) H96 := by rw [← ht]; exact hB
  obtain ⟨ok, hw96, _⟩ := hw96
  obtain ⟨y97, ey97⟩ : ∃ z : Int32, z = xi96 0 39 := ⟨_, rfl⟩
  have by97 : y97.toInt = (xi96 0 39).toInt := congrArg Int32.toInt ey97
  have gy97 : -9 ≤ y97.toInt ∧ y97.toInt ≤ 3 := by rw [ey97]; exact rM_0_39 ok
  obtain ⟨y98, ey98⟩ : ∃ z : Int32, z = xi96 0 33 := ⟨_, rfl⟩
  have by98 : y98.toInt = (xi96 0 33).toInt := congrArg Int32.toInt ey98
  obtain ⟨y99, ey99⟩ : ∃ z : Int32, z = xi96 0 35 := ⟨_, rfl⟩
  have by99 : y99.toInt = (xi96 0 35).toInt := congrArg Int32.toInt ey99
  have gr96 : ((xi96 0 39).toInt = -9 ∨ (0 ≤ (xi96 0 39).toInt ∧ (xi96 0 39).toInt ≤ 3)) ∧ ((xi96 0 33).toInt = 0 ∨ (xi96 0 35).toInt ≤ 7) := hw96
  exact W.vret hx hb hr (fun t ht hW => ⟨⟨xi96, rfl, ⟨ok, (by have hb100 := congrArg Int32.toInt ey97; have hb101 := congrArg Int32.toInt ey98; have hb102 := congrArg Int32.toInt ey99; omega), trivial⟩, by first | (subst ht; exact hP) | (rw [ht]; exact hP) | (show va_P (dC, dI) vwCl (wR 21 ad (EM cs ad) xi96) t.heap; rw [ht]; exact hP)⟩, hS.F ht⟩) hS.2.2 dX12_setRoutes_71
set_option maxHeartbeats 4000000 in
set_option maxRecDepth 100000 in
/-- sm_routesOf -/
theorem sm_routesOf (l : Launch) (dC : Nat → ClassId) (dI : Nat → Nat → Nat) (cs : Nat → ClassId) (ad : Nat → Nat) (mu : Nat → Nat → Int32) (ok : okR loM hiM mu) (H : Heap) (hP : va_P (dC, dI) vwCl (wR 21 ad (EM cs ad) mu) H) (hD0 : va_D (fun _ => True) (wR 21 ad (EM cs ad) mu)) (vk : Int32) (hin0 : 0 ≤ vk.toInt ∧ vk.toInt ≤ 3) : Met l yX12_routesOf (wU yX12_routesOf cX12_routesOf 2 none) ({ frames := 10, cells := 0, slots := 0, locals := 259 }) (va_Pc [.ref (ad 0), .int vk] (sz_P (dC, dI) vwCl (tyM cs) H)) (va_Qv (fun (xi : Nat → Nat → Int32) => okR loM hiM xi ∧ (((xi 0 39).toInt = -9 ∨ (0 ≤ (xi 0 39).toInt ∧ (xi 0 39).toInt ≤ 3)) ∧ ((xi 0 33).toInt = 0 ∨ (xi 0 35).toInt ≤ 7)) ∧ True) (fun xi t => va_P (dC, dI) vwCl (wR 21 ad (EM cs ad) xi) t.heap) (va_A (wR 21 ad (EM cs ad) mu) H.size)) 0 0 (va_A (wR 21 ad (EM cs ad) mu) H.size) := by
  refine Met.ofW (cc := cX12_routesOf) (maxL := 2) (ret := none) (by decide) rfl ?_
  intro p e s m args below meth c s₁ B hml hv
  obtain ⟨rfl, hh, hK, hz⟩ := hv
  have hx := B.exec
  have hb := B.bytes
  have hr := B.returns
  have hts := atoms_spec (ws := (wU yX12_routesOf cX12_routesOf 2 none)) B.pre
  have hown : s.vm.findClass RX12 = some m.cls := findClass_of_methodNamed B.named
  have hlocks := B.notSynchronized
  subst hh
  have hD := hD0.self (sz := s.heap.size)
  have hA : ∀ q : Nat, s.heap.size ≤ q → (va_A (wR 21 ad (EM cs ad) mu) s.heap.size) q := fun q h => Or.inr h
  have hS : va_S (va_A (wR 21 ad (EM cs ad) mu) s.heap.size) s.heap s.heap [] := va_S.rf
  have hl := lv_entry ([.ref (ad 0), .int vk]) (n := 2) (Nat.le_of_ble_eq_true rfl)
  rw [lg_entry_eq]
  generalize (lg_sl ([.ref (ad 0), .int vk]) ++ List.replicate (2 - (lg_sl ([.ref (ad 0), .int vk])).length) Slot.unset).toArray = ls at hl ⊢
  have hl : lv_has ls 2 [(0, .ref (ad 0)), (1, .int vk)] := hl
  obtain ⟨y1, ey1⟩ : ∃ z : Int32, z = mu 0 39 := ⟨_, rfl⟩
  have by1 : y1.toInt = (mu 0 39).toInt := congrArg Int32.toInt ey1
  have gy1 : -9 ≤ y1.toInt ∧ y1.toInt ≤ 3 := by rw [ey1]; exact rM_0_39 ok
  obtain ⟨y2, ey2⟩ : ∃ z : Int32, z = mu 0 33 := ⟨_, rfl⟩
  have by2 : y2.toInt = (mu 0 33).toInt := congrArg Int32.toInt ey2
  obtain ⟨y3, ey3⟩ : ∃ z : Int32, z = mu 0 35 := ⟨_, rfl⟩
  have by3 : y3.toInt = (mu 0 35).toInt := congrArg Int32.toInt ey3
  refine lv_aload_n hx hb dX12_routesOf_0 rfl (lv_at hl 0 rfl) ?_
  refine lv_iload_n hx hb dX12_routesOf_1 rfl (lv_at hl 1 rfl) ?_
  refine lv_aload_n hx hb dX12_routesOf_2 rfl (lv_at hl 0 rfl) ?_
  refine lv_iload_n hx hb dX12_routesOf_3 rfl (lv_at hl 1 rfl) ?_
  refine lv_iconst (v := 5) hx hb dX12_routesOf_4 (by decide) ?_
  refine cr_i (va_runV (As := [.int vk, .int 5]) (rest := [.int vk, .ref (ad 0)]) ⟨hx, hb, hml, hown, hts⟩ (sm_letterOf5 l dC dI cs ad mu ok s.heap hP vk (by have h51 : (5 : Int32).toInt = 5 := rfl; omega)) (cwV 2 hts (wU_V mw_6_48 mw_6_45 mw_6_47 mw_0_38 mw_1_13) rfl rfl rfl (by decide +kernel) ⟨Nat.le_of_ble_eq_true rfl, Nat.le_of_ble_eq_true rfl⟩) ⟨sz_c, va_recv hK hP (ci := 12) (q0 := 0) rfl (gM_0 cs ad mu), sz_m hK hz⟩ rfl rfl hl.1 rfl (lv_room (Nat.le_of_ble_eq_true rfl)) dX12_routesOf_5 ⟨Nat.zero_le _, Nat.zero_le _⟩) hS (fun r4 hw4 locs hS => ?_)
  have gr4 : 0 ≤ r4.toInt ∧ r4.toInt ≤ 6 := hw4
  refine lv_aload_n hx hb dX12_routesOf_8 rfl (lv_at hl 0 rfl) ?_
  refine lv_iload_n hx hb dX12_routesOf_9 rfl (lv_at hl 1 rfl) ?_
  refine lv_iconst (v := 1) hx hb dX12_routesOf_10 (by decide) ?_
  refine cr_i (va_runV (As := [.int vk, .int 1]) (rest := [.int r4, .int vk, .ref (ad 0)]) ⟨hx, hb, hml, hown, hts⟩ (sm_letterOf l dC dI cs ad mu ok s.heap hP vk 1 (by have h51 : (1 : Int32).toInt = 1 := rfl; omega)) (cwV 2 hts (wU_V mw_6_48 mw_6_45 mw_6_47 mw_0_38 mw_1_13) rfl rfl rfl (by decide +kernel) ⟨Nat.le_of_ble_eq_true rfl, Nat.le_of_ble_eq_true rfl⟩) ⟨sz_c, va_recv hK hP (ci := 12) (q0 := 0) rfl (gM_0 cs ad mu), sz_m hK hz⟩ rfl rfl hl.1 rfl (lv_room (Nat.le_of_ble_eq_true rfl)) dX12_routesOf_11 ⟨Nat.zero_le _, Nat.zero_le _⟩) hS (fun r5 hw5 locs hS => ?_)
  refine lv_aload_n hx hb dX12_routesOf_14 rfl (lv_at hl 0 rfl) ?_
  refine lv_iload_n hx hb dX12_routesOf_15 rfl (lv_at hl 1 rfl) ?_
  refine lv_bipush (v := 6) hx hb dX12_routesOf_16 (by decide) ?_
  refine cr_i (va_runV (As := [.int vk, .int 6]) (rest := [.int r5, .int r4, .int vk, .ref (ad 0)]) ⟨hx, hb, hml, hown, hts⟩ (sm_letterOf l dC dI cs ad mu ok s.heap hP vk 6 (by have h51 : (6 : Int32).toInt = 6 := rfl; omega)) (cwV 2 hts (wU_V mw_6_48 mw_6_45 mw_6_47 mw_0_38 mw_1_13) rfl rfl rfl (by decide +kernel) ⟨Nat.le_of_ble_eq_true rfl, Nat.le_of_ble_eq_true rfl⟩) ⟨sz_c, va_recv hK hP (ci := 12) (q0 := 0) rfl (gM_0 cs ad mu), sz_m hK hz⟩ rfl rfl hl.1 rfl (lv_room (Nat.le_of_ble_eq_true rfl)) dX12_routesOf_18 ⟨Nat.zero_le _, Nat.zero_le _⟩) hS (fun r6 hw6 locs hS => ?_)
  have hFc := fr_all (wR_D mu hD) hS hA
  refine va_callv (va_runV (As := [.int vk, .int r4, .int r5, .int r6]) (rest := []) ⟨hx, hb, hml, hown, hts⟩ (sm_setRoutes l dC dI cs ad mu ok s.heap hP ((wR_D mu hD).weaken (fun _ _ _ _ => trivial)) vk r4 r5 r6 (by omega)) (cwV 4 hts (wU_V mw_6_178 mw_6_175 mw_6_177 mw_0_54 mw_1_13) rfl rfl rfl (by decide +kernel) ⟨Nat.le_of_ble_eq_true rfl, Nat.le_of_ble_eq_true rfl⟩) ⟨sz_c, va_recv hK hP (ci := 12) (q0 := 0) rfl (gM_0 cs ad mu), sz_m hK hz⟩ rfl rfl hl.1 rfl (lv_room (Nat.le_of_ble_eq_true rfl)) dX12_routesOf_21 ⟨Nat.zero_le _, Nat.zero_le _⟩) hS (fun q _ h => hFc q h) hFc (fun xi7 t H7 locs ht hvm hw7 hB hz1 hk1 hS => ?_)
  have hP : va_P (dC, dI) vwCl (wR 21 ad (EM cs ad) xi7) H7 := by rw [← ht]; exact hB
  obtain ⟨ok, hw7, _⟩ := hw7
  obtain ⟨y8, ey8⟩ : ∃ z : Int32, z = xi7 0 39 := ⟨_, rfl⟩
  have by8 : y8.toInt = (xi7 0 39).toInt := congrArg Int32.toInt ey8
  have gy8 : -9 ≤ y8.toInt ∧ y8.toInt ≤ 3 := by rw [ey8]; exact rM_0_39 ok
  obtain ⟨y9, ey9⟩ : ∃ z : Int32, z = xi7 0 33 := ⟨_, rfl⟩
  have by9 : y9.toInt = (xi7 0 33).toInt := congrArg Int32.toInt ey9
  obtain ⟨y10, ey10⟩ : ∃ z : Int32, z = xi7 0 35 := ⟨_, rfl⟩
  have by10 : y10.toInt = (xi7 0 35).toInt := congrArg Int32.toInt ey10
  have gr7 : ((xi7 0 39).toInt = -9 ∨ (0 ≤ (xi7 0 39).toInt ∧ (xi7 0 39).toInt ≤ 3)) ∧ ((xi7 0 33).toInt = 0 ∨ (xi7 0 35).toInt ≤ 7) := hw7
  exact W.vret hx hb hr (fun t ht hW => ⟨⟨xi7, rfl, ⟨ok, (by have hb11 := congrArg Int32.toInt ey8; have hb12 := congrArg Int32.toInt ey9; have hb13 := congrArg Int32.toInt ey10; omega), trivial⟩, by first | (subst ht; exact hP) | (rw [ht]; exact hP) | (show va_P (dC, dI) vwCl (wR 21 ad (EM cs ad) xi7) t.heap; rw [ht]; exact hP)⟩, hS.F ht⟩) hS.2.2 dX12_routesOf_24
set_option maxHeartbeats 4000000 in
set_option maxRecDepth 100000 in
/-- sm_askedRoutes -/
theorem sm_askedRoutes (l : Launch) (dC : Nat → ClassId) (dI : Nat → Nat → Nat) (cs : Nat → ClassId) (ad : Nat → Nat) (mu : Nat → Nat → Int32) (ok : okR loM hiM mu) (H : Heap) (hP : va_P (dC, dI) vwCl (wR 21 ad (EM cs ad) mu) H) (hD0 : va_D (fun _ => True) (wR 21 ad (EM cs ad) mu)) (vk : Int32) : Met l yX12_askedRoutes (wU yX12_askedRoutes cX12_askedRoutes 3 (some .int)) ({ frames := 11, cells := 0, slots := 0, locals := 280 }) (va_Pc [.ref (ad 0), .int vk] (sz_P (dC, dI) vwCl (tyM cs) H)) (va_Qi (fun (z : Int32) (xi : Nat → Nat → Int32) => (z = 0 ∧ okR loM hiM xi ∧ (0 ≤ vk.toInt ∧ vk.toInt ≤ 3 ∧ ((xi 0 33).toInt = 0 ∨ (xi 0 35).toInt ≤ 7))) ∨ (z.toInt < 0 ∧ okR loM hiM xi)) (fun xi t => va_P (dC, dI) vwCl (wR 21 ad (EM cs ad) xi) t.heap) (va_A (wR 21 ad (EM cs ad) mu) H.size)) 0 0 (va_A (wR 21 ad (EM cs ad) mu) H.size) := by
  refine Met.ofW (cc := cX12_askedRoutes) (maxL := 3) (ret := (some .int)) (by decide) rfl ?_
  intro p e s m args below meth c s₁ B hml hv
  obtain ⟨rfl, hh, hK, hz⟩ := hv
  have hx := B.exec
  have hb := B.bytes
  have hr := B.returns
  have hts := atoms_spec (ws := (wU yX12_askedRoutes cX12_askedRoutes 3 (some .int))) B.pre
  have hown : s.vm.findClass RX12 = some m.cls := findClass_of_methodNamed B.named
  have hlocks := B.notSynchronized
  subst hh
  have hD := hD0.self (sz := s.heap.size)
  have hA : ∀ q : Nat, s.heap.size ≤ q → (va_A (wR 21 ad (EM cs ad) mu) s.heap.size) q := fun q h => Or.inr h
  have hS : va_S (va_A (wR 21 ad (EM cs ad) mu) s.heap.size) s.heap s.heap [] := va_S.rf
  have hl := lv_entry ([.ref (ad 0), .int vk]) (n := 3) (Nat.le_of_ble_eq_true rfl)
  rw [lg_entry_eq]
  generalize (lg_sl ([.ref (ad 0), .int vk]) ++ List.replicate (3 - (lg_sl ([.ref (ad 0), .int vk])).length) Slot.unset).toArray = ls at hl ⊢
  have hl : lv_has ls 3 [(0, .ref (ad 0)), (1, .int vk)] := hl
  obtain ⟨y1, ey1⟩ : ∃ z : Int32, z = mu 0 39 := ⟨_, rfl⟩
  have by1 : y1.toInt = (mu 0 39).toInt := congrArg Int32.toInt ey1
  have gy1 : -9 ≤ y1.toInt ∧ y1.toInt ≤ 3 := by rw [ey1]; exact rM_0_39 ok
  obtain ⟨y2, ey2⟩ : ∃ z : Int32, z = mu 0 33 := ⟨_, rfl⟩
  have by2 : y2.toInt = (mu 0 33).toInt := congrArg Int32.toInt ey2
  obtain ⟨y3, ey3⟩ : ∃ z : Int32, z = mu 0 35 := ⟨_, rfl⟩
  have by3 : y3.toInt = (mu 0 35).toInt := congrArg Int32.toInt ey3
  refine lv_aload_n hx hb dX12_askedRoutes_0 rfl (lv_at hl 0 rfl) ?_
  refine lv_iload_n hx hb dX12_askedRoutes_1 rfl (lv_at hl 1 rfl) ?_
  have hFc := fr_all (wR_D mu hD) hS hA
  refine va_calli (va_runV (As := [.int vk]) (rest := []) ⟨hx, hb, hml, hown, hts⟩ (sm_askedLetter l dC dI cs ad mu ok s.heap hP ((wR_D mu hD).weaken (fun _ _ _ _ => trivial)) vk) (cwV 1 hts (wU_V mw_6_114 mw_6_111 mw_6_113 mw_0_46 mw_1_13) rfl rfl rfl (by decide +kernel) ⟨Nat.le_of_ble_eq_true rfl, Nat.le_of_ble_eq_true rfl⟩) ⟨sz_c, va_recv hK hP (ci := 12) (q0 := 0) rfl (gM_0 cs ad mu), sz_m hK hz⟩ rfl rfl hl.1 rfl (lv_room (Nat.le_of_ble_eq_true rfl)) dX12_askedRoutes_2 ⟨Nat.zero_le _, Nat.zero_le _⟩) hS (fun q _ h => hFc q h) hFc (fun r4 xi4 t H4 locs ht hvm hw4 hB hz1 hk1 hS => ?_)
  have hP : va_P (dC, dI) vwCl (wR 21 ad (EM cs ad) xi4) H4 := by rw [← ht]; exact hB
  rcases hw4 with ⟨rfl, hxi4, f4⟩ | ⟨z4, ok⟩
  · have hP : va_P (dC, dI) vwCl (wR 21 ad (EM cs ad) mu) H4 := by rw [← hxi4]; exact hP
    have f4 : 0 ≤ vk.toInt ∧ vk.toInt < (mu 0 15).toInt ∧ (mu 0 15).toInt ≤ 4 := f4
    refine lv_istore_n (lv' := [(2, .int 0), (0, .ref (ad 0)), (1, .int vk)]) hx hb dX12_askedRoutes_5 rfl hl (by decide) rfl (fun ls hl => ?_)
    refine lv_iload_n hx hb dX12_askedRoutes_6 rfl (lv_at hl 0 rfl) ?_
    refine lv_if_ge (tgt := 12) hx hb dX12_askedRoutes_7 (by decide) (fun _ => ?_) (fun c => absurd (by decide) c)
    refine lv_aload_n hx hb dX12_askedRoutes_12 rfl (lv_at hl 1 rfl) ?_
    refine lv_iload_n hx hb dX12_askedRoutes_13 rfl (lv_at hl 2 rfl) ?_
    refine cr_i (va_runV (As := [.int vk]) (rest := []) ⟨hx, hb, hml, hown, hts⟩ (sm_isRead l dC dI cs ad mu ok H4 hP vk (by omega)) (cwV 1 hts (wU_V mw_6_52 mw_6_49 mw_6_51 mw_0_39 mw_1_13) rfl rfl rfl (by decide +kernel) ⟨Nat.le_of_ble_eq_true rfl, Nat.le_of_ble_eq_true rfl⟩) ⟨sz_c, va_recv hK hP (ci := 12) (q0 := 0) rfl (gM_0 cs ad mu), sz_m hK hz⟩ rfl rfl hl.1 rfl (lv_room (Nat.le_of_ble_eq_true rfl)) dX12_askedRoutes_14 ⟨Nat.zero_le _, Nat.zero_le _⟩) hS (fun r5 hw5 locs hS => ?_)
    have gr5 : 0 ≤ r5.toInt ∧ r5.toInt ≤ 1 := hw5
    refine lv_if_eq (tgt := 23) hx hb dX12_askedRoutes_17 (by decide) (fun c_6 => ?_) (fun c_6 => ?_)
    · have c_6 : r5.toInt = 0 := il_eq c_6
      refine lv_aload_n hx hb dX12_askedRoutes_23 rfl (lv_at hl 1 rfl) ?_
      refine lv_iconst (v := 1) hx hb dX12_askedRoutes_24 (by decide) ?_
      refine va_put (D := (dC, dI)) (ci := 12) (v := .int 1) (ty := .boolean) (C := RX12) (T := TX12) (N := 46) hx hb hts inG12 tyX12 tyX12_ok nmX12 hown hK hP (wR_D mu hD) hS 0 (gM_0 cs ad mu) rfl 38 (by decide) (hts _ (List.mem_cons_of_mem _ mw_5_79)) (fun _ h9 => h9) rfl (by decide +kernel) (by first | rfl | decide) (by first | rfl | decide) (Nat.le_of_ble_eq_true rfl) dX12_askedRoutes_25 (fun H locs hP _ hS => ?_)
      simp only [List.set_cons_succ, List.set_cons_zero] at hP
      refine wr_gen (upd (mu 0) 38 1) hP ((hM_0_38 cs ad _ _)) (fun nu7 hn7 hP => ?_)
      have ok := tM_0_38 ok hn7 (by have h9 : (1 : Int32).toInt = 1 := rfl; exact ⟨by omega, by omega⟩)
      have ez8 : y1 = nu7 0 39 := ey1.trans (up_f hn7 (by decide)).symm
      have ez9 : y2 = nu7 0 33 := ey2.trans (up_f hn7 (by decide)).symm
      have ez10 : y3 = nu7 0 35 := ey3.trans (up_f hn7 (by decide)).symm
      have ez11 : 1 = nu7 0 38 := up_v hn7
      refine lv_aload_n hx hb dX12_askedRoutes_28 rfl (lv_at hl 1 rfl) ?_
      refine lv_iload_n hx hb dX12_askedRoutes_29 rfl (lv_at hl 2 rfl) ?_
      have hFc := fr_all (wR_D nu7 hD) hS hA
      refine va_callv (va_runV (As := [.int vk]) (rest := []) ⟨hx, hb, hml, hown, hts⟩ (sm_routesOf l dC dI cs ad nu7 ok H hP ((wR_D nu7 hD).weaken (fun _ _ _ _ => trivial)) vk (by omega)) (cwV 1 hts (wU_V mw_6_174 mw_6_171 mw_6_173 mw_0_53 mw_1_13) rfl rfl rfl (by decide +kernel) ⟨Nat.le_of_ble_eq_true rfl, Nat.le_of_ble_eq_true rfl⟩) ⟨sz_c, va_recv hK hP (ci := 12) (q0 := 0) rfl (gM_0 cs ad nu7), sz_m hK hz⟩ rfl rfl hl.1 rfl (lv_room (Nat.le_of_ble_eq_true rfl)) dX12_askedRoutes_30 ⟨Nat.zero_le _, Nat.zero_le _⟩) hS (fun q _ h => hFc q h) hFc (fun xi12 t H12 locs ht hvm hw12 hB hz1 hk1 hS => ?_)
      have hP : va_P (dC, dI) vwCl (wR 21 ad (EM cs ad) xi12) H12 := by rw [← ht]; exact hB
      obtain ⟨ok, hw12, _⟩ := hw12
      obtain ⟨y13, ey13⟩ : ∃ z : Int32, z = xi12 0 39 := ⟨_, rfl⟩
      have by13 : y13.toInt = (xi12 0 39).toInt := congrArg Int32.toInt ey13
      have gy13 : -9 ≤ y13.toInt ∧ y13.toInt ≤ 3 := by rw [ey13]; exact rM_0_39 ok
      obtain ⟨y14, ey14⟩ : ∃ z : Int32, z = xi12 0 33 := ⟨_, rfl⟩
      have by14 : y14.toInt = (xi12 0 33).toInt := congrArg Int32.toInt ey14
      obtain ⟨y15, ey15⟩ : ∃ z : Int32, z = xi12 0 35 := ⟨_, rfl⟩
      have by15 : y15.toInt = (xi12 0 35).toInt := congrArg Int32.toInt ey15
      have gr12 : ((xi12 0 39).toInt = -9 ∨ (0 ≤ (xi12 0 39).toInt ∧ (xi12 0 39).toInt ≤ 3)) ∧ ((xi12 0 33).toInt = 0 ∨ (xi12 0 35).toInt ≤ 7) := hw12
      refine lv_iconst (v := 0) hx hb dX12_askedRoutes_33 (by decide) ?_
      exact W.iret (v := 0) hx hb hr (fun t ht hW => ⟨⟨0, xi12, rfl, Or.inl ⟨rfl, ok, (by have hb16 := congrArg Int32.toInt ey14; have hb17 := congrArg Int32.toInt ey15; omega)⟩, by first | (subst ht; exact hP) | (rw [ht]; exact hP) | (show va_P (dC, dI) vwCl (wR 21 ad (EM cs ad) xi12) t.heap; rw [ht]; exact hP)⟩, hS.F ht⟩) hS.2.2 dX12_askedRoutes_34
    · have c_6 : ¬ r5.toInt = 0 := il_ne c_6
      refine lv_bipush (v := (-4)) hx hb dX12_askedRoutes_20 (by decide) ?_
      exact W.iret (v := (-4)) hx hb hr (fun t ht hW => ⟨⟨(-4), mu, rfl, Or.inr ⟨by decide, ok⟩, by first | (subst ht; exact hP) | (rw [ht]; exact hP) | (show va_P (dC, dI) vwCl (wR 21 ad (EM cs ad) mu) t.heap; rw [ht]; exact hP)⟩, hS.F ht⟩) hS.2.2 dX12_askedRoutes_22
  · skip
    refine lv_istore_n (lv' := [(2, .int r4), (0, .ref (ad 0)), (1, .int vk)]) hx hb dX12_askedRoutes_5 rfl hl (by decide) rfl (fun ls hl => ?_)
    refine lv_iload_n hx hb dX12_askedRoutes_6 rfl (lv_at hl 0 rfl) ?_
    refine lv_if_ge (tgt := 12) hx hb dX12_askedRoutes_7 (by decide) (fun c_18 => by have c_18 : 0 ≤ r4.toInt := il_le c_18; exfalso; omega) (fun c_18 => ?_)
    have c_18 : r4.toInt < 0 := il_nle c_18
    refine lv_iload_n hx hb dX12_askedRoutes_10 rfl (lv_at hl 0 rfl) ?_
    exact W.iret (v := r4) hx hb hr (fun t ht hW => ⟨⟨r4, xi4, rfl, Or.inr ⟨by omega, ok⟩, by first | (subst ht; exact hP) | (rw [ht]; exact hP) | (show va_P (dC, dI) vwCl (wR 21 ad (EM cs ad) xi4) t.heap; rw [ht]; exact hP)⟩, hS.F ht⟩) hS.2.2 dX12_askedRoutes_11
set_option maxHeartbeats 4000000 in
set_option maxRecDepth 100000 in
/-- sm_layRoute17 -/
theorem sm_layRoute17 (l : Launch) (dC : Nat → ClassId) (dI : Nat → Nat → Nat) (cs : Nat → ClassId) (ad : Nat → Nat) (mu : Nat → Nat → Int32) (ok : okR loM hiM mu) (H : Heap) (hP : va_P (dC, dI) vwCl (wR 21 ad (EM cs ad) mu) H) (hD0 : va_D (fun _ => True) (wR 21 ad (EM cs ad) mu)) (vr : Int32) (vn : Int32) (hin0 : 0 ≤ vr.toInt ∧ vr.toInt ≤ 5 ∧ vn.toInt ≤ 7) : Met l yX12_layRoute (wU yX12_layRoute cX12_layRoute 5 none) ({ frames := 3, cells := 0, slots := 0, locals := 65 }) (va_Pc [.ref (ad 0), .int vr, .ref (ad 17), .int vn] (sz_P (dC, dI) vwCl (tyM cs) H)) (va_Qv (fun (xi : Nat → Nat → Int32) => okR loM hiM xi ∧ (True) ∧ True) (fun xi t => va_P (dC, dI) vwCl (wR 21 ad (EM cs ad) xi) t.heap) (va_A (wR 21 ad (EM cs ad) mu) H.size)) 0 0 (va_A (wR 21 ad (EM cs ad) mu) H.size) := by
  refine Met.ofW (cc := cX12_layRoute) (maxL := 5) (ret := none) (by decide) rfl ?_
  intro p e s m args below meth c s₁ B hml hv
  obtain ⟨rfl, hh, hK, hz⟩ := hv
  have hx := B.exec
  have hb := B.bytes
  have hr := B.returns
  have hts := atoms_spec (ws := (wU yX12_layRoute cX12_layRoute 5 none)) B.pre
  have hown : s.vm.findClass RX12 = some m.cls := findClass_of_methodNamed B.named
  have hlocks := B.notSynchronized
  subst hh
  have hD := hD0.self (sz := s.heap.size)
  have hA : ∀ q : Nat, s.heap.size ≤ q → (va_A (wR 21 ad (EM cs ad) mu) s.heap.size) q := fun q h => Or.inr h
  have hS : va_S (va_A (wR 21 ad (EM cs ad) mu) s.heap.size) s.heap s.heap [] := va_S.rf
  have hl := lv_entry ([.ref (ad 0), .int vr, .ref (ad 17), .int vn]) (n := 5) (Nat.le_of_ble_eq_true rfl)
  rw [lg_entry_eq]
  generalize (lg_sl ([.ref (ad 0), .int vr, .ref (ad 17), .int vn]) ++ List.replicate (5 - (lg_sl ([.ref (ad 0), .int vr, .ref (ad 17), .int vn])).length) Slot.unset).toArray = ls at hl ⊢
  have hl : lv_has ls 5 [(0, .ref (ad 0)), (1, .int vr), (2, .ref (ad 17)), (3, .int vn)] := hl
  refine lv_aload_n hx hb dX12_layRoute_0 rfl (lv_at hl 0 rfl) ?_
  refine lv_iload_n hx hb dX12_layRoute_1 rfl (lv_at hl 1 rfl) ?_
  refine lv_iload_n hx hb dX12_layRoute_2 rfl (lv_at hl 3 rfl) ?_
  have hFc := fr_all (wR_D mu hD) hS hA
  refine va_calli (va_runV (As := [.int vr, .int vn]) (rest := []) ⟨hx, hb, hml, hown, hts⟩ (qm_row l dC dI cs ad mu ok s.heap hP ((wR_D mu hD).weaken (fun _ _ _ _ => trivial)) vr vn) (cwV 2 hts (wU_V mw_5_183 mw_6_196 mw_5_181 mw_5_182 mw_1_13) rfl rfl rfl (by decide +kernel) ⟨Nat.le_of_ble_eq_true rfl, Nat.le_of_ble_eq_true rfl⟩) ⟨sz_c, va_recv hK hP (ci := 12) (q0 := 0) rfl (gM_0 cs ad mu), sz_m hK hz⟩ rfl rfl hl.1 rfl (lv_room (Nat.le_of_ble_eq_true rfl)) dX12_layRoute_3 ⟨Nat.zero_le _, Nat.zero_le _⟩) hS (fun q _ h => hFc q h) hFc (fun r1 xi1 t H1 locs ht hvm hw1 hB hz1 hk1 hS => ?_)
  have hP : va_P (dC, dI) vwCl (wR 21 ad (EM cs ad) xi1) H1 := by rw [← ht]; exact hB
  obtain ⟨ok, hw1, _⟩ := hw1
  have gr1 : ((vr.toInt < 0 ∨ 5 < vr.toInt ∨ 40 < vn.toInt) ∧ r1.toInt = -1) ∨ (0 ≤ vr.toInt ∧ vr.toInt ≤ 5 ∧ vn.toInt < 0 ∧ r1.toInt = -3) ∨ (0 ≤ vr.toInt ∧ vr.toInt ≤ 5 ∧ 0 ≤ vn.toInt ∧ vn.toInt ≤ 40 ∧ r1.toInt = vn.toInt) := hw1
  refine lv_pop hx hb dX12_layRoute_6 rfl ?_
  refine lv_iconst (v := 0) hx hb dX12_layRoute_7 (by decide) ?_
  refine lv_istore (lv' := [(4, .int 0), (0, .ref (ad 0)), (1, .int vr), (2, .ref (ad 17)), (3, .int vn)]) hx hb dX12_layRoute_8 hl (by decide) rfl (fun ls hl => ?_)
  have loop10 : ∀ (n10 : Nat) (v4_10 : Int32) (nu10_ : Nat → Nat → Int32) (H : Heap) (locs : List Loc) (ls : Array Slot), (7 + 1 - v4_10.toInt).toNat < n10 → (0 ≤ v4_10.toInt ∧ v4_10.toInt ≤ 7) → okR loM hiM nu10_ → va_P (dC, dI) vwCl (wR 21 ad (EM cs ad) nu10_) H → va_S (va_A (wR 21 ad (EM cs ad) mu) s.heap.size) s.heap H locs → lv_has ls 5 [(4, .int v4_10), (0, .ref (ad 0)), (1, .int vr), (2, .ref (ad 17)), (3, .int vn)] → W p l e (headSpec (wU yX12_layRoute cX12_layRoute 5 none) ({ frames := 3, cells := 0, slots := 0, locals := 65 })).room s m ([.ref (ad 0), .int vr, .ref (ad 17), .int vn] : List Value).toArray below meth c H locs 0 0 (MQ below (va_Qv (fun (xi : Nat → Nat → Int32) => okR loM hiM xi ∧ (True) ∧ True) (fun xi t => va_P (dC, dI) vwCl (wR 21 ad (EM cs ad) xi) t.heap) (va_A (wR 21 ad (EM cs ad) mu) s.heap.size)) ([.ref (ad 0), .int vr, .ref (ad 17), .int vn] : List Value).toArray s 0 0 (va_A (wR 21 ad (EM cs ad) mu) s.heap.size)) (F0 m 10 ls []) := by
    intro n10
    induction n10 with
    | zero => intro v4_10 nu10_ H locs ls hm; exact absurd hm (Nat.not_lt_zero _)
    | succ n10 ih10 =>
      intro v4_10 nu10_ H locs ls hm h_v4_10 ok hP hS hl
      refine lv_iload hx hb dX12_layRoute_10 (lv_at hl 0 rfl) ?_
      refine lv_iload_n hx hb dX12_layRoute_12 rfl (lv_at hl 4 rfl) ?_
      refine lv_icmp_ge (tgt := 33) hx hb dX12_layRoute_13 (by decide) (fun c_2 => ?_) (fun c_2 => ?_)
      · have c_2 : vn.toInt ≤ v4_10.toInt := il_le c_2
        exact W.vret hx hb hr (fun t ht hW => ⟨⟨nu10_, rfl, ⟨ok, trivial, trivial⟩, by first | (subst ht; exact hP) | (rw [ht]; exact hP) | (show va_P (dC, dI) vwCl (wR 21 ad (EM cs ad) nu10_) t.heap; rw [ht]; exact hP)⟩, hS.F ht⟩) hS.2.2 dX12_layRoute_33
      · have c_2 : v4_10.toInt < vn.toInt := il_nle c_2
        refine lv_aload_n hx hb dX12_layRoute_16 rfl (lv_at hl 1 rfl) ?_
        refine lv_iload_n hx hb dX12_layRoute_17 rfl (lv_at hl 2 rfl) ?_
        refine lv_iload hx hb dX12_layRoute_18 (lv_at hl 0 rfl) ?_
        refine lv_aload_n hx hb dX12_layRoute_20 rfl (lv_at hl 3 rfl) ?_
        refine lv_iload hx hb dX12_layRoute_21 (lv_at hl 0 rfl) ?_
        refine va_iald hx hb hK hP 17 0 (gM_17 cs ad nu10_) rfl (show vp_in v4_10 7 from vi_of (by omega) (by omega)) dX12_layRoute_23 ?_
        refine lv_topi (fun y3 ey3 => ?_)
        have by3 : y3.toInt = (nu10_ 17 v4_10.toNatClampNeg).toInt := congrArg Int32.toInt ey3
        have hFc := fr_all (wR_D nu10_ hD) hS hA
        refine va_callv (va_runV (As := [.int vr, .int v4_10, .int y3]) (rest := []) ⟨hx, hb, hml, hown, hts⟩ (sm_setRow l dC dI cs ad nu10_ ok H hP ((wR_D nu10_ hD).weaken (fun _ _ _ _ => trivial)) vr v4_10 y3 (by omega)) (cwV 3 hts (wU_V mw_5_197 mw_5_194 mw_5_196 mw_0_27 mw_1_13) rfl rfl rfl (by decide +kernel) ⟨Nat.le_of_ble_eq_true rfl, Nat.le_of_ble_eq_true rfl⟩) ⟨sz_c, va_recv hK hP (ci := 12) (q0 := 0) rfl (gM_0 cs ad nu10_), sz_m hK hz⟩ rfl rfl hl.1 rfl (lv_room (Nat.le_of_ble_eq_true rfl)) dX12_layRoute_24 ⟨Nat.zero_le _, Nat.zero_le _⟩) hS (fun q _ h => hFc q h) hFc (fun xi4 t H4 locs ht hvm hw4 hB hz1 hk1 hS => ?_)
        have hP : va_P (dC, dI) vwCl (wR 21 ad (EM cs ad) xi4) H4 := by rw [← ht]; exact hB
        obtain ⟨ok, hw4, _⟩ := hw4
        refine lv_iinc (v := (v4_10 + 1)) (lv' := [(4, .int (v4_10 + 1)), (0, .ref (ad 0)), (1, .int vr), (2, .ref (ad 17)), (3, .int vn)]) hx hb dX12_layRoute_27 hl (k := 0) rfl rfl (by decide) rfl (fun ls hl => ?_)
        refine loc_gen (P := fun w9 => lv_has ls 5 [(4, .int w9), (0, .ref (ad 0)), (1, .int vr), (2, .ref (ad 17)), (3, .int vn)]) (v4_10 + 1) hl (fun w5 hw5 hl => ?_)
        have hl : lv_has ls 5 [(4, .int w5), (0, .ref (ad 0)), (1, .int vr), (2, .ref (ad 17)), (3, .int vn)] := hl
        have aw5 : w5.toInt = v4_10.toInt + 1 := by rw [← hw5]; exact tI_add (rfl : v4_10.toInt = _) (rfl : (1 : Int32).toInt = 1) (by omega) (by omega)
        refine lv_goto (tgt := 10) hx hb dX12_layRoute_30 (by decide) ?_
        exact ih10 (w5) xi4 _ _ _ (by omega) (by exact ⟨by omega, by omega⟩)  ok hP   hS (lv_sub hl [0, 1, 2, 3, 4] rfl)
  exact loop10 ((7 + 1 - (0 : Int32).toInt).toNat + 1) (0) xi1 _ _ _ (Nat.lt_succ_self _) (by have h80 : (0 : Int32).toInt = 0 := rfl; exact ⟨by omega, by omega⟩)  ok hP   hS hl
set_option maxHeartbeats 4000000 in
set_option maxRecDepth 100000 in
/-- sm_layRoute18 -/
theorem sm_layRoute18 (l : Launch) (dC : Nat → ClassId) (dI : Nat → Nat → Nat) (cs : Nat → ClassId) (ad : Nat → Nat) (mu : Nat → Nat → Int32) (ok : okR loM hiM mu) (H : Heap) (hP : va_P (dC, dI) vwCl (wR 21 ad (EM cs ad) mu) H) (hD0 : va_D (fun _ => True) (wR 21 ad (EM cs ad) mu)) (vr : Int32) (vn : Int32) (hin0 : 0 ≤ vr.toInt ∧ vr.toInt ≤ 5 ∧ vn.toInt ≤ 7) : Met l yX12_layRoute (wU yX12_layRoute cX12_layRoute 5 none) ({ frames := 3, cells := 0, slots := 0, locals := 65 }) (va_Pc [.ref (ad 0), .int vr, .ref (ad 18), .int vn] (sz_P (dC, dI) vwCl (tyM cs) H)) (va_Qv (fun (xi : Nat → Nat → Int32) => okR loM hiM xi ∧ (True) ∧ True) (fun xi t => va_P (dC, dI) vwCl (wR 21 ad (EM cs ad) xi) t.heap) (va_A (wR 21 ad (EM cs ad) mu) H.size)) 0 0 (va_A (wR 21 ad (EM cs ad) mu) H.size) := by
  refine Met.ofW (cc := cX12_layRoute) (maxL := 5) (ret := none) (by decide) rfl ?_
  intro p e s m args below meth c s₁ B hml hv
  obtain ⟨rfl, hh, hK, hz⟩ := hv
  have hx := B.exec
  have hb := B.bytes
  have hr := B.returns
  have hts := atoms_spec (ws := (wU yX12_layRoute cX12_layRoute 5 none)) B.pre
  have hown : s.vm.findClass RX12 = some m.cls := findClass_of_methodNamed B.named
  have hlocks := B.notSynchronized
  subst hh
  have hD := hD0.self (sz := s.heap.size)
  have hA : ∀ q : Nat, s.heap.size ≤ q → (va_A (wR 21 ad (EM cs ad) mu) s.heap.size) q := fun q h => Or.inr h
  have hS : va_S (va_A (wR 21 ad (EM cs ad) mu) s.heap.size) s.heap s.heap [] := va_S.rf
  have hl := lv_entry ([.ref (ad 0), .int vr, .ref (ad 18), .int vn]) (n := 5) (Nat.le_of_ble_eq_true rfl)
  rw [lg_entry_eq]
  generalize (lg_sl ([.ref (ad 0), .int vr, .ref (ad 18), .int vn]) ++ List.replicate (5 - (lg_sl ([.ref (ad 0), .int vr, .ref (ad 18), .int vn])).length) Slot.unset).toArray = ls at hl ⊢
  have hl : lv_has ls 5 [(0, .ref (ad 0)), (1, .int vr), (2, .ref (ad 18)), (3, .int vn)] := hl
  refine lv_aload_n hx hb dX12_layRoute_0 rfl (lv_at hl 0 rfl) ?_
  refine lv_iload_n hx hb dX12_layRoute_1 rfl (lv_at hl 1 rfl) ?_
  refine lv_iload_n hx hb dX12_layRoute_2 rfl (lv_at hl 3 rfl) ?_
  have hFc := fr_all (wR_D mu hD) hS hA
  refine va_calli (va_runV (As := [.int vr, .int vn]) (rest := []) ⟨hx, hb, hml, hown, hts⟩ (qm_row l dC dI cs ad mu ok s.heap hP ((wR_D mu hD).weaken (fun _ _ _ _ => trivial)) vr vn) (cwV 2 hts (wU_V mw_5_183 mw_6_196 mw_5_181 mw_5_182 mw_1_13) rfl rfl rfl (by decide +kernel) ⟨Nat.le_of_ble_eq_true rfl, Nat.le_of_ble_eq_true rfl⟩) ⟨sz_c, va_recv hK hP (ci := 12) (q0 := 0) rfl (gM_0 cs ad mu), sz_m hK hz⟩ rfl rfl hl.1 rfl (lv_room (Nat.le_of_ble_eq_true rfl)) dX12_layRoute_3 ⟨Nat.zero_le _, Nat.zero_le _⟩) hS (fun q _ h => hFc q h) hFc (fun r1 xi1 t H1 locs ht hvm hw1 hB hz1 hk1 hS => ?_)
  have hP : va_P (dC, dI) vwCl (wR 21 ad (EM cs ad) xi1) H1 := by rw [← ht]; exact hB
  obtain ⟨ok, hw1, _⟩ := hw1
  have gr1 : ((vr.toInt < 0 ∨ 5 < vr.toInt ∨ 40 < vn.toInt) ∧ r1.toInt = -1) ∨ (0 ≤ vr.toInt ∧ vr.toInt ≤ 5 ∧ vn.toInt < 0 ∧ r1.toInt = -3) ∨ (0 ≤ vr.toInt ∧ vr.toInt ≤ 5 ∧ 0 ≤ vn.toInt ∧ vn.toInt ≤ 40 ∧ r1.toInt = vn.toInt) := hw1
  refine lv_pop hx hb dX12_layRoute_6 rfl ?_
  refine lv_iconst (v := 0) hx hb dX12_layRoute_7 (by decide) ?_
  refine lv_istore (lv' := [(4, .int 0), (0, .ref (ad 0)), (1, .int vr), (2, .ref (ad 18)), (3, .int vn)]) hx hb dX12_layRoute_8 hl (by decide) rfl (fun ls hl => ?_)
  have loop10 : ∀ (n10 : Nat) (v4_10 : Int32) (nu10_ : Nat → Nat → Int32) (H : Heap) (locs : List Loc) (ls : Array Slot), (7 + 1 - v4_10.toInt).toNat < n10 → (0 ≤ v4_10.toInt ∧ v4_10.toInt ≤ 7) → okR loM hiM nu10_ → va_P (dC, dI) vwCl (wR 21 ad (EM cs ad) nu10_) H → va_S (va_A (wR 21 ad (EM cs ad) mu) s.heap.size) s.heap H locs → lv_has ls 5 [(4, .int v4_10), (0, .ref (ad 0)), (1, .int vr), (2, .ref (ad 18)), (3, .int vn)] → W p l e (headSpec (wU yX12_layRoute cX12_layRoute 5 none) ({ frames := 3, cells := 0, slots := 0, locals := 65 })).room s m ([.ref (ad 0), .int vr, .ref (ad 18), .int vn] : List Value).toArray below meth c H locs 0 0 (MQ below (va_Qv (fun (xi : Nat → Nat → Int32) => okR loM hiM xi ∧ (True) ∧ True) (fun xi t => va_P (dC, dI) vwCl (wR 21 ad (EM cs ad) xi) t.heap) (va_A (wR 21 ad (EM cs ad) mu) s.heap.size)) ([.ref (ad 0), .int vr, .ref (ad 18), .int vn] : List Value).toArray s 0 0 (va_A (wR 21 ad (EM cs ad) mu) s.heap.size)) (F0 m 10 ls []) := by
    intro n10
    induction n10 with
    | zero => intro v4_10 nu10_ H locs ls hm; exact absurd hm (Nat.not_lt_zero _)
    | succ n10 ih10 =>
      intro v4_10 nu10_ H locs ls hm h_v4_10 ok hP hS hl
      refine lv_iload hx hb dX12_layRoute_10 (lv_at hl 0 rfl) ?_
      refine lv_iload_n hx hb dX12_layRoute_12 rfl (lv_at hl 4 rfl) ?_
      refine lv_icmp_ge (tgt := 33) hx hb dX12_layRoute_13 (by decide) (fun c_2 => ?_) (fun c_2 => ?_)
      · have c_2 : vn.toInt ≤ v4_10.toInt := il_le c_2
        exact W.vret hx hb hr (fun t ht hW => ⟨⟨nu10_, rfl, ⟨ok, trivial, trivial⟩, by first | (subst ht; exact hP) | (rw [ht]; exact hP) | (show va_P (dC, dI) vwCl (wR 21 ad (EM cs ad) nu10_) t.heap; rw [ht]; exact hP)⟩, hS.F ht⟩) hS.2.2 dX12_layRoute_33
      · have c_2 : v4_10.toInt < vn.toInt := il_nle c_2
        refine lv_aload_n hx hb dX12_layRoute_16 rfl (lv_at hl 1 rfl) ?_
        refine lv_iload_n hx hb dX12_layRoute_17 rfl (lv_at hl 2 rfl) ?_
        refine lv_iload hx hb dX12_layRoute_18 (lv_at hl 0 rfl) ?_
        refine lv_aload_n hx hb dX12_layRoute_20 rfl (lv_at hl 3 rfl) ?_
        refine lv_iload hx hb dX12_layRoute_21 (lv_at hl 0 rfl) ?_
        refine va_iald hx hb hK hP 18 0 (gM_18 cs ad nu10_) rfl (show vp_in v4_10 7 from vi_of (by omega) (by omega)) dX12_layRoute_23 ?_
        refine lv_topi (fun y3 ey3 => ?_)
        have by3 : y3.toInt = (nu10_ 18 v4_10.toNatClampNeg).toInt := congrArg Int32.toInt ey3
        have hFc := fr_all (wR_D nu10_ hD) hS hA
        refine va_callv (va_runV (As := [.int vr, .int v4_10, .int y3]) (rest := []) ⟨hx, hb, hml, hown, hts⟩ (sm_setRow l dC dI cs ad nu10_ ok H hP ((wR_D nu10_ hD).weaken (fun _ _ _ _ => trivial)) vr v4_10 y3 (by omega)) (cwV 3 hts (wU_V mw_5_197 mw_5_194 mw_5_196 mw_0_27 mw_1_13) rfl rfl rfl (by decide +kernel) ⟨Nat.le_of_ble_eq_true rfl, Nat.le_of_ble_eq_true rfl⟩) ⟨sz_c, va_recv hK hP (ci := 12) (q0 := 0) rfl (gM_0 cs ad nu10_), sz_m hK hz⟩ rfl rfl hl.1 rfl (lv_room (Nat.le_of_ble_eq_true rfl)) dX12_layRoute_24 ⟨Nat.zero_le _, Nat.zero_le _⟩) hS (fun q _ h => hFc q h) hFc (fun xi4 t H4 locs ht hvm hw4 hB hz1 hk1 hS => ?_)
        have hP : va_P (dC, dI) vwCl (wR 21 ad (EM cs ad) xi4) H4 := by rw [← ht]; exact hB
        obtain ⟨ok, hw4, _⟩ := hw4
        refine lv_iinc (v := (v4_10 + 1)) (lv' := [(4, .int (v4_10 + 1)), (0, .ref (ad 0)), (1, .int vr), (2, .ref (ad 18)), (3, .int vn)]) hx hb dX12_layRoute_27 hl (k := 0) rfl rfl (by decide) rfl (fun ls hl => ?_)
        refine loc_gen (P := fun w9 => lv_has ls 5 [(4, .int w9), (0, .ref (ad 0)), (1, .int vr), (2, .ref (ad 18)), (3, .int vn)]) (v4_10 + 1) hl (fun w5 hw5 hl => ?_)
        have hl : lv_has ls 5 [(4, .int w5), (0, .ref (ad 0)), (1, .int vr), (2, .ref (ad 18)), (3, .int vn)] := hl
        have aw5 : w5.toInt = v4_10.toInt + 1 := by rw [← hw5]; exact tI_add (rfl : v4_10.toInt = _) (rfl : (1 : Int32).toInt = 1) (by omega) (by omega)
        refine lv_goto (tgt := 10) hx hb dX12_layRoute_30 (by decide) ?_
        exact ih10 (w5) xi4 _ _ _ (by omega) (by exact ⟨by omega, by omega⟩)  ok hP   hS (lv_sub hl [0, 1, 2, 3, 4] rfl)
  exact loop10 ((7 + 1 - (0 : Int32).toInt).toNat + 1) (0) xi1 _ _ _ (Nat.lt_succ_self _) (by have h80 : (0 : Int32).toInt = 0 := rfl; exact ⟨by omega, by omega⟩)  ok hP   hS hl
