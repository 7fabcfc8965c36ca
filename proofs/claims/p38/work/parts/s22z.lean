set_option maxHeartbeats 4000000 in
set_option maxRecDepth 100000 in
/-- sx_walkAll -/
theorem sx_walkAll (l : Launch) (dC : Nat → ClassId) (dI : Nat → Nat → Nat) (cs : Nat → ClassId) (ad : Nat → Nat) (mu : Nat → Nat → Int32) (ok : okR loX hiX mu) (H : Heap) (hP : va_P (dC, dI) vwCl (wR 157 ad (EX cs ad) mu) H) (hD0 : va_D (fun _ => True) (wR 157 ad (EX cs ad) mu)) : Met l yX5_walkAll (wU yX5_walkAll cX5_walkAll 2 none) ({ frames := 9, cells := 0, slots := 0, locals := 275 }) (va_Pc [.ref (ad 32), .ref (ad 4)] (sz_P (dC, dI) vwCl (tyW cs) H)) (va_Qv (fun (xi : Nat → Nat → Int32) => xi = F_sx_walkAll mu ∧ okR loX hiX xi ∧ (True) ∧ (∀ k f : Nat, Nat.testBit 510 (gpX k f) = true → xi k f = mu k f)) (fun xi t => va_P (dC, dI) vwCl (wR 157 ad (EX cs ad) xi) t.heap) (va_A (wR 157 ad (EX cs ad) mu) H.size)) 0 0 (va_A (wR 157 ad (EX cs ad) mu) H.size) := by
  refine Met.ofW (cc := cX5_walkAll) (maxL := 2) (ret := none) (by decide) rfl ?_
  intro p e s m args below meth c s₁ B hml hv
  obtain ⟨rfl, hh, hK, hz⟩ := hv
  have hx := B.exec
  have hb := B.bytes
  have hr := B.returns
  have hts := atoms_spec (ws := (wU yX5_walkAll cX5_walkAll 2 none)) B.pre
  have hown : s.vm.findClass RX5 = some m.cls := findClass_of_methodNamed B.named
  have hlocks := B.notSynchronized
  subst hh
  have hD := hD0.self (sz := s.heap.size)
  have hA : ∀ q : Nat, s.heap.size ≤ q → (va_A (wR 157 ad (EX cs ad) mu) s.heap.size) q := fun q h => Or.inr h
  have hS : va_S (va_A (wR 157 ad (EX cs ad) mu) s.heap.size) s.heap s.heap [] := va_S.rf
  have hl := lv_entry ([.ref (ad 32), .ref (ad 4)]) (n := 2) (Nat.le_of_ble_eq_true rfl)
  rw [lg_entry_eq]
  generalize (lg_sl ([.ref (ad 32), .ref (ad 4)]) ++ List.replicate (2 - (lg_sl ([.ref (ad 32), .ref (ad 4)])).length) Slot.unset).toArray = ls at hl ⊢
  have hl : lv_has ls 2 [(0, .ref (ad 32)), (1, .ref (ad 4))] := hl
  obtain ⟨fz, hfz⟩ : ∃ z, F_sx_walkAll mu = z := ⟨_, rfl⟩
  have hF := hfz
  unfold F_sx_walkAll at hF
  refine lv_aload_n hx hb dX5_walkAll_0 rfl (lv_at hl 0 rfl) ?_
  refine lv_iconst (v := 0) hx hb dX5_walkAll_1 (by decide) ?_
  refine va_put (D := (dC, dI)) (ci := 5) (v := .int 0) (ty := .int) (C := RX5) (T := TX5) (N := 15) hx hb hts inG5 tyX5 tyX5_ok nmX5 hown hK hP (wR_D mu hD) hS 32 (gX_32 cs ad mu) rfl 11 (by decide) (hts _ (List.mem_cons_of_mem _ mw_2_59)) (fun _ h9 => h9) rfl (by decide +kernel) rfl rfl (Nat.le_of_ble_eq_true rfl) dX5_walkAll_2 (fun H locs hP _ hS => ?_)
  simp only [List.set_cons_succ, List.set_cons_zero] at hP
  refine wr_gen (upd (mu 32) 11 0) hP ((hX_32_11 cs ad _ _)) (fun nu1 hn1 hP => ?_)
  have hF := mi_let hF hn1.symm
  have ok := tX_32_11 ok hn1
  have kp2 : (∀ k f : Nat, Nat.testBit 510 (gpX k f) = true → nu1 k f = mu k f) := kp_c 0 hn1 (fun _ => rfl) (by decide) (fun _ _ _ => rfl)
  have ez3 : 0 = nu1 32 11 := up_v hn1
  refine lv_aload_n hx hb dX5_walkAll_5 rfl (lv_at hl 0 rfl) ?_
  refine lv_iconst (v := 0) hx hb dX5_walkAll_6 (by decide) ?_
  refine va_put (D := (dC, dI)) (ci := 5) (v := .int 0) (ty := .int) (C := RX5) (T := TX5) (N := 15) hx hb hts inG5 tyX5 tyX5_ok nmX5 hown hK hP (wR_D nu1 hD) hS 32 (gX_32 cs ad nu1) rfl 12 (by decide) (hts _ (List.mem_cons_of_mem _ mw_2_61)) (fun _ h9 => h9) rfl (by decide +kernel) rfl rfl (Nat.le_of_ble_eq_true rfl) dX5_walkAll_7 (fun H locs hP _ hS => ?_)
  simp only [List.set_cons_succ, List.set_cons_zero] at hP
  refine wr_gen (upd (nu1 32) 12 0) hP ((hX_32_12 cs ad _ _)) (fun nu4 hn4 hP => ?_)
  have hF := mi_let hF hn4.symm
  have ok := tX_32_12 ok hn4
  have ez5 : 0 = nu4 32 11 := ez3.trans (up_f hn4 (by decide)).symm
  have kp6 : (∀ k f : Nat, Nat.testBit 510 (gpX k f) = true → nu4 k f = mu k f) := kp_c 0 hn4 (fun _ => rfl) (by decide) kp2
  have ez7 : 0 = nu4 32 12 := up_v hn4
  refine lv_aload_n hx hb dX5_walkAll_10 rfl (lv_at hl 0 rfl) ?_
  refine lv_iconst (v := (-1)) hx hb dX5_walkAll_11 (by decide) ?_
  refine va_put (D := (dC, dI)) (ci := 5) (v := .int (-1)) (ty := .int) (C := RX5) (T := TX5) (N := 15) hx hb hts inG5 tyX5 tyX5_ok nmX5 hown hK hP (wR_D nu4 hD) hS 32 (gX_32 cs ad nu4) rfl 13 (by decide) (hts _ (List.mem_cons_of_mem _ mw_2_63)) (fun _ h9 => h9) rfl (by decide +kernel) rfl rfl (Nat.le_of_ble_eq_true rfl) dX5_walkAll_12 (fun H locs hP _ hS => ?_)
  simp only [List.set_cons_succ, List.set_cons_zero] at hP
  refine wr_gen (upd (nu4 32) 13 (-1)) hP ((hX_32_13 cs ad _ _)) (fun nu8 hn8 hP => ?_)
  have hF := mi_let hF hn8.symm
  have ok := tX_32_13 ok hn8
  have ez9 : 0 = nu8 32 11 := ez5.trans (up_f hn8 (by decide)).symm
  have ez10 : 0 = nu8 32 12 := ez7.trans (up_f hn8 (by decide)).symm
  have kp11 : (∀ k f : Nat, Nat.testBit 510 (gpX k f) = true → nu8 k f = mu k f) := kp_c 0 hn8 (fun _ => rfl) (by decide) kp6
  have ez12 : (-1) = nu8 32 13 := up_v hn8
  refine lv_aload_n hx hb dX5_walkAll_15 rfl (lv_at hl 0 rfl) ?_
  refine lv_ldc (v := 2147483647) hx hb hown (hts _ (List.mem_cons_of_mem _ mw_4_25)) dX5_walkAll_16 ?_
  refine va_put (D := (dC, dI)) (ci := 5) (v := .int 2147483647) (ty := .int) (C := RX5) (T := TX5) (N := 15) hx hb hts inG5 tyX5 tyX5_ok nmX5 hown hK hP (wR_D nu8 hD) hS 32 (gX_32 cs ad nu8) rfl 14 (by decide) (hts _ (List.mem_cons_of_mem _ mw_2_65)) (fun _ h9 => h9) rfl (by decide +kernel) rfl rfl (Nat.le_of_ble_eq_true rfl) dX5_walkAll_18 (fun H locs hP _ hS => ?_)
  simp only [List.set_cons_succ, List.set_cons_zero] at hP
  refine wr_gen (upd (nu8 32) 14 2147483647) hP ((hX_32_14 cs ad _ _)) (fun nu13 hn13 hP => ?_)
  have hF := mi_let hF hn13.symm
  have ok := tX_32_14 ok hn13
  have ez14 : 0 = nu13 32 11 := ez9.trans (up_f hn13 (by decide)).symm
  have ez15 : 0 = nu13 32 12 := ez10.trans (up_f hn13 (by decide)).symm
  have ez16 : (-1) = nu13 32 13 := ez12.trans (up_f hn13 (by decide)).symm
  have kp17 : (∀ k f : Nat, Nat.testBit 510 (gpX k f) = true → nu13 k f = mu k f) := kp_c 0 hn13 (fun _ => rfl) (by decide) kp11
  have ez18 : 2147483647 = nu13 32 14 := up_v hn13
  refine lv_aload_n hx hb dX5_walkAll_21 rfl (lv_at hl 0 rfl) ?_
  refine va_get (D := (dC, dI)) (ci := 5) (v := .ref (ad 55)) (C := RX5) (T := TX5) (N := 15) hx hb hts inG5 hown hK hP 32 (gX_32 cs ad nu13) rfl 3 (by decide) (hts _ (List.mem_cons_of_mem _ mw_2_49)) (fun _ h9 => h9) rfl dX5_walkAll_22 ?_
  refine lv_iconst (v := 0) hx hb dX5_walkAll_25 (by decide) ?_
  refine va_put (D := (dC, dI)) (ci := 0) (v := .int 0) (ty := .boolean) (C := RX0) (T := TX0) (N := 4) hx hb hts inG0 tyX0 tyX0_ok nmX0 hown hK hP (wR_D nu13 hD) hS 55 (gX_55 cs ad nu13) rfl 3 (by decide) (hts _ (List.mem_cons_of_mem _ mw_2_35)) (fun _ h9 => h9) rfl (by decide +kernel) (by first | rfl | decide) (by first | rfl | decide) (Nat.le_of_ble_eq_true rfl) dX5_walkAll_26 (fun H locs hP _ hS => ?_)
  simp only [List.set_cons_succ, List.set_cons_zero] at hP
  refine wr_gen (upd (nu13 55) 3 0) hP ((hX_55_3 cs ad _ _)) (fun nu19 hn19 hP => ?_)
  have hF := mi_let hF hn19.symm
  have ok := tX_55_3 ok hn19 (by have h9 : (0 : Int32).toInt = 0 := rfl; exact ⟨by omega, by omega⟩)
  have ez20 : 0 = nu19 32 11 := ez14.trans (congrFun (up_k hn19 (by decide)) 11).symm
  have ez21 : 0 = nu19 32 12 := ez15.trans (congrFun (up_k hn19 (by decide)) 12).symm
  have ez22 : (-1) = nu19 32 13 := ez16.trans (congrFun (up_k hn19 (by decide)) 13).symm
  have ez23 : 2147483647 = nu19 32 14 := ez18.trans (congrFun (up_k hn19 (by decide)) 14).symm
  have kp24 : (∀ k f : Nat, Nat.testBit 510 (gpX k f) = true → nu19 k f = mu k f) := kp_c 0 hn19 (fun _ => rfl) (by decide) kp17
  have ez25 : 0 = nu19 55 3 := up_v hn19
  refine lv_aload_n hx hb dX5_walkAll_29 rfl (lv_at hl 0 rfl) ?_
  refine va_get (D := (dC, dI)) (ci := 5) (v := .ref (ad 56)) (C := RX5) (T := TX5) (N := 15) hx hb hts inG5 hown hK hP 32 (gX_32 cs ad nu19) rfl 4 (by decide) (hts _ (List.mem_cons_of_mem _ mw_2_51)) (fun _ h9 => h9) rfl dX5_walkAll_30 ?_
  refine lv_iconst (v := 0) hx hb dX5_walkAll_33 (by decide) ?_
  refine va_put (D := (dC, dI)) (ci := 0) (v := .int 0) (ty := .boolean) (C := RX0) (T := TX0) (N := 4) hx hb hts inG0 tyX0 tyX0_ok nmX0 hown hK hP (wR_D nu19 hD) hS 56 (gX_56 cs ad nu19) rfl 3 (by decide) (hts _ (List.mem_cons_of_mem _ mw_2_35)) (fun _ h9 => h9) rfl (by decide +kernel) (by first | rfl | decide) (by first | rfl | decide) (Nat.le_of_ble_eq_true rfl) dX5_walkAll_34 (fun H locs hP _ hS => ?_)
  simp only [List.set_cons_succ, List.set_cons_zero] at hP
  refine wr_gen (upd (nu19 56) 3 0) hP ((hX_56_3 cs ad _ _)) (fun nu26 hn26 hP => ?_)
  have hF := mi_let hF hn26.symm
  have ok := tX_56_3 ok hn26 (by have h9 : (0 : Int32).toInt = 0 := rfl; exact ⟨by omega, by omega⟩)
  have ez27 : 0 = nu26 32 11 := ez20.trans (congrFun (up_k hn26 (by decide)) 11).symm
  have ez28 : 0 = nu26 32 12 := ez21.trans (congrFun (up_k hn26 (by decide)) 12).symm
  have ez29 : (-1) = nu26 32 13 := ez22.trans (congrFun (up_k hn26 (by decide)) 13).symm
  have ez30 : 2147483647 = nu26 32 14 := ez23.trans (congrFun (up_k hn26 (by decide)) 14).symm
  have ez31 : 0 = nu26 55 3 := ez25.trans (congrFun (up_k hn26 (by decide)) 3).symm
  have kp32 : (∀ k f : Nat, Nat.testBit 510 (gpX k f) = true → nu26 k f = mu k f) := kp_c 0 hn26 (fun _ => rfl) (by decide) kp24
  have ez33 : 0 = nu26 56 3 := up_v hn26
  refine lv_aload_n hx hb dX5_walkAll_37 rfl (lv_at hl 0 rfl) ?_
  refine va_get (D := (dC, dI)) (ci := 5) (v := .ref (ad 54)) (C := RX5) (T := TX5) (N := 15) hx hb hts inG5 hown hK hP 32 (gX_32 cs ad nu26) rfl 2 (by decide) (hts _ (List.mem_cons_of_mem _ mw_2_48)) (fun _ h9 => h9) rfl dX5_walkAll_38 ?_
  refine lv_iconst (v := 0) hx hb dX5_walkAll_41 (by decide) ?_
  refine lv_aload_n hx hb dX5_walkAll_42 rfl (lv_at hl 0 rfl) ?_
  refine va_get (D := (dC, dI)) (ci := 5) (v := .int (nu26 32 5)) (C := RX5) (T := TX5) (N := 15) hx hb hts inG5 hown hK hP 32 (gX_32 cs ad nu26) rfl 5 (by decide) (hts _ (List.mem_cons_of_mem _ mw_2_53)) (fun _ h9 => h9) rfl dX5_walkAll_43 ?_
  refine lv_topi (fun y34 ey34 => ?_)
  have hF := mi_let hF ey34
  have by34 : y34.toInt = (nu26 32 5).toInt := congrArg Int32.toInt ey34
  have gy34 : 0 ≤ y34.toInt ∧ y34.toInt ≤ 6 := by rw [ey34]; exact rX_32_5 ok
  refine va_iast hx hb hK hP (wR_D nu26 hD) hS 54 0 (gX_54 cs ad nu26) rfl (show vp_in 0 7 from (by unfold vp_in; decide)) dX5_walkAll_46 (fun H locs hP _ hS => ?_)
  refine wr_gen (upd (nu26 54) (0 : Int32).toNatClampNeg y34) hP (rfl) (fun nu35 hn35 hP => ?_)
  have hF := mi_let hF hn35.symm
  have ok := tX_54_s ok (0 : Int32).toNatClampNeg hn35 (by omega)
  have ez36 : 0 = nu35 32 11 := ez27.trans (congrFun (up_k hn35 (by decide)) 11).symm
  have ez37 : 0 = nu35 32 12 := ez28.trans (congrFun (up_k hn35 (by decide)) 12).symm
  have ez38 : (-1) = nu35 32 13 := ez29.trans (congrFun (up_k hn35 (by decide)) 13).symm
  have ez39 : 2147483647 = nu35 32 14 := ez30.trans (congrFun (up_k hn35 (by decide)) 14).symm
  have ez40 : 0 = nu35 55 3 := ez31.trans (congrFun (up_k hn35 (by decide)) 3).symm
  have ez41 : 0 = nu35 56 3 := ez33.trans (congrFun (up_k hn35 (by decide)) 3).symm
  have ez42 : y34 = nu35 32 5 := ey34.trans (congrFun (up_k hn35 (by decide)) 5).symm
  have kp43 : (∀ k f : Nat, Nat.testBit 510 (gpX k f) = true → nu35 k f = mu k f) := kp_c 0 hn35 (fun _ => rfl) (by decide) kp32
  refine lv_aload_n hx hb dX5_walkAll_47 rfl (lv_at hl 0 rfl) ?_
  refine lv_aload_n hx hb dX5_walkAll_48 rfl (lv_at hl 1 rfl) ?_
  refine lv_iconst (v := 0) hx hb dX5_walkAll_49 (by decide) ?_
  refine lv_iconst (v := 1) hx hb dX5_walkAll_50 (by decide) ?_
  refine lv_aload_n hx hb dX5_walkAll_51 rfl (lv_at hl 0 rfl) ?_
  refine va_get (D := (dC, dI)) (ci := 5) (v := .int (nu35 32 5)) (C := RX5) (T := TX5) (N := 15) hx hb hts inG5 hown hK hP 32 (gX_32 cs ad nu35) rfl 5 (by decide) (hts _ (List.mem_cons_of_mem _ mw_2_53)) (fun _ h9 => h9) rfl dX5_walkAll_52 ?_
  refine lq_i y34 ez42.symm ?_
  refine lv_ishl hx hb dX5_walkAll_55 ?_
  refine lv_topi (fun t44 et44 => ?_)
  have hF := mi_let hF et44
  refine lv_aload_n hx hb dX5_walkAll_56 rfl (lv_at hl 0 rfl) ?_
  refine va_get (D := (dC, dI)) (ci := 5) (v := .int (nu35 32 7)) (C := RX5) (T := TX5) (N := 15) hx hb hts inG5 hown hK hP 32 (gX_32 cs ad nu35) rfl 7 (by decide) (hts _ (List.mem_cons_of_mem _ mw_2_55)) (fun _ h9 => h9) rfl dX5_walkAll_57 ?_
  refine lv_topi (fun y45 ey45 => ?_)
  have hF := mi_let hF ey45
  have by45 : y45.toInt = (nu35 32 7).toInt := congrArg Int32.toInt ey45
  have hFc := fr_all (wR_D nu35 hD) hS hA
  refine va_callv (va_runV (As := [.ref (ad 4), .int 0, .int t44, .int y45]) (rest := []) ⟨hx, hb, hml, hown, hts⟩ (sx_walkOn0 l dC dI cs ad nu35 ok H hP ((wR_D nu35 hD).weaken (fun _ _ _ _ => trivial)) t44 y45) (cwV 4 hts (wU_V mw_4_29 mw_4_26 mw_4_28 mw_0_13 mw_1_8) rfl rfl rfl (by decide +kernel) ⟨Nat.le_of_ble_eq_true rfl, Nat.le_of_ble_eq_true rfl⟩) ⟨sz_c, va_recv hK hP (ci := 5) (q0 := 32) rfl (gX_32 cs ad nu35), sz_m hK hz⟩ rfl rfl hl.1 rfl (lv_room (Nat.le_of_ble_eq_true rfl)) dX5_walkAll_60 ⟨Nat.zero_le _, Nat.zero_le _⟩) hS (fun q _ h => hFc q h) hFc (fun xi46 t H46 locs ht hvm hw46 hB hz1 hk1 hS => ?_)
  have hP : va_P (dC, dI) vwCl (wR 157 ad (EX cs ad) xi46) H46 := by rw [← ht]; exact hB
  obtain ⟨hfe46, ok, hw46, hkp46_0⟩ := hw46
  have hF := mi_let hF hfe46
  have kp47 : (∀ k f : Nat, Nat.testBit 510 (gpX k f) = true → xi46 k f = mu k f) := kp_t hkp46_0 (by decide) kp43
  exact W.vret hx hb hr (fun t ht hW => ⟨⟨xi46, rfl, ⟨hF.trans hfz.symm, ok, trivial, kp47⟩, by first | (subst ht; exact hP) | (rw [ht]; exact hP) | (show va_P (dC, dI) vwCl (wR 157 ad (EX cs ad) xi46) t.heap; rw [ht]; exact hP)⟩, hS.F ht⟩) hS.2.2 dX5_walkAll_63
set_option maxHeartbeats 4000000 in
set_option maxRecDepth 100000 in
/-- sx_walkOf -/
theorem sx_walkOf (l : Launch) (dC : Nat → ClassId) (dI : Nat → Nat → Nat) (cs : Nat → ClassId) (ad : Nat → Nat) (mu : Nat → Nat → Int32) (ok : okR loX hiX mu) (H : Heap) (hP : va_P (dC, dI) vwCl (wR 157 ad (EX cs ad) mu) H) (hD0 : va_D (fun _ => True) (wR 157 ad (EX cs ad) mu)) (kl : Nat) (h1kl : 61 ≤ kl) (h2kl : kl < 77) : Met l yX5_walkOf (wU yX5_walkOf cX5_walkOf 3 none) ({ frames := 10, cells := 0, slots := 0, locals := 296 }) (va_Pc [.ref (ad 32), .ref (ad 4), .ref (ad kl)] (sz_P (dC, dI) vwCl (tyW cs) H)) (va_Qv (fun (xi : Nat → Nat → Int32) => xi = F_sx_walkOf mu kl ∧ okR loX hiX xi ∧ (True) ∧ (∀ k f : Nat, Nat.testBit 510 (gpX k f) = true → xi k f = mu k f)) (fun xi t => va_P (dC, dI) vwCl (wR 157 ad (EX cs ad) xi) t.heap) (va_A (wR 157 ad (EX cs ad) mu) H.size)) 0 0 (va_A (wR 157 ad (EX cs ad) mu) H.size) := by
  refine Met.ofW (cc := cX5_walkOf) (maxL := 3) (ret := none) (by decide) rfl ?_
  intro p e s m args below meth c s₁ B hml hv
  obtain ⟨rfl, hh, hK, hz⟩ := hv
  have hx := B.exec
  have hb := B.bytes
  have hr := B.returns
  have hts := atoms_spec (ws := (wU yX5_walkOf cX5_walkOf 3 none)) B.pre
  have hown : s.vm.findClass RX5 = some m.cls := findClass_of_methodNamed B.named
  have hlocks := B.notSynchronized
  subst hh
  have hD := hD0.self (sz := s.heap.size)
  have hA : ∀ q : Nat, s.heap.size ≤ q → (va_A (wR 157 ad (EX cs ad) mu) s.heap.size) q := fun q h => Or.inr h
  have hS : va_S (va_A (wR 157 ad (EX cs ad) mu) s.heap.size) s.heap s.heap [] := va_S.rf
  have hl := lv_entry ([.ref (ad 32), .ref (ad 4), .ref (ad kl)]) (n := 3) (Nat.le_of_ble_eq_true rfl)
  rw [lg_entry_eq]
  generalize (lg_sl ([.ref (ad 32), .ref (ad 4), .ref (ad kl)]) ++ List.replicate (3 - (lg_sl ([.ref (ad 32), .ref (ad 4), .ref (ad kl)])).length) Slot.unset).toArray = ls at hl ⊢
  have hl : lv_has ls 3 [(0, .ref (ad 32)), (1, .ref (ad 4)), (2, .ref (ad kl))] := hl
  obtain ⟨fz, hfz⟩ : ∃ z, F_sx_walkOf mu kl = z := ⟨_, rfl⟩
  have hF := hfz
  unfold F_sx_walkOf at hF
  refine lv_aload_n hx hb dX5_walkOf_0 rfl (lv_at hl 0 rfl) ?_
  refine lv_aload_n hx hb dX5_walkOf_1 rfl (lv_at hl 1 rfl) ?_
  refine lv_aload_n hx hb dX5_walkOf_2 rfl (lv_at hl 2 rfl) ?_
  have hFc := fr_all (wR_D mu hD) hS hA
  refine va_callv (va_runV (As := [.ref (ad 4), .ref (ad kl)]) (rest := []) ⟨hx, hb, hml, hown, hts⟩ (sx_lookAt l dC dI cs ad mu ok s.heap hP ((wR_D mu hD).weaken (fun _ _ _ _ => trivial)) kl h1kl h2kl) (cwV 2 hts (wU_V mw_4_9 mw_4_6 mw_4_7 mw_4_8 mw_1_8) rfl rfl rfl (by decide +kernel) ⟨Nat.le_of_ble_eq_true rfl, Nat.le_of_ble_eq_true rfl⟩) ⟨sz_c, va_recv hK hP (ci := 5) (q0 := 32) rfl (gX_32 cs ad mu), sz_m hK hz⟩ rfl rfl hl.1 rfl (lv_room (Nat.le_of_ble_eq_true rfl)) dX5_walkOf_3 ⟨Nat.zero_le _, Nat.zero_le _⟩) hS (fun q _ h => hFc q h) hFc (fun xi1 t H1 locs ht hvm hw1 hB hz1 hk1 hS => ?_)
  have hP : va_P (dC, dI) vwCl (wR 157 ad (EX cs ad) xi1) H1 := by rw [← ht]; exact hB
  obtain ⟨hfe1, ok, hw1, hkp1_0⟩ := hw1
  have hF := mi_let hF hfe1
  have kp2 : (∀ k f : Nat, Nat.testBit 510 (gpX k f) = true → xi1 k f = mu k f) := kp_t hkp1_0 (by decide) (fun _ _ _ => rfl)
  refine lv_aload_n hx hb dX5_walkOf_6 rfl (lv_at hl 0 rfl) ?_
  refine lv_aload_n hx hb dX5_walkOf_7 rfl (lv_at hl 1 rfl) ?_
  have hFc := fr_all (wR_D xi1 hD) hS hA
  refine va_callv (va_runV (As := [.ref (ad 4)]) (rest := []) ⟨hx, hb, hml, hown, hts⟩ (sx_walkAll l dC dI cs ad xi1 ok H1 hP ((wR_D xi1 hD).weaken (fun _ _ _ _ => trivial))) (cwV 1 hts (wU_V mw_4_24 mw_4_21 mw_4_23 mw_0_12 mw_1_8) rfl rfl rfl (by decide +kernel) ⟨Nat.le_of_ble_eq_true rfl, Nat.le_of_ble_eq_true rfl⟩) ⟨sz_c, va_recv hK hP (ci := 5) (q0 := 32) rfl (gX_32 cs ad xi1), sz_m hK hz⟩ rfl rfl hl.1 rfl (lv_room (Nat.le_of_ble_eq_true rfl)) dX5_walkOf_8 ⟨Nat.zero_le _, Nat.zero_le _⟩) hS (fun q _ h => hFc q h) hFc (fun xi3 t H3 locs ht hvm hw3 hB hz1 hk1 hS => ?_)
  have hP : va_P (dC, dI) vwCl (wR 157 ad (EX cs ad) xi3) H3 := by rw [← ht]; exact hB
  obtain ⟨hfe3, ok, hw3, hkp3_0⟩ := hw3
  have hF := mi_let hF hfe3
  have kp4 : (∀ k f : Nat, Nat.testBit 510 (gpX k f) = true → xi3 k f = mu k f) := kp_t hkp3_0 (by decide) kp2
  exact W.vret hx hb hr (fun t ht hW => ⟨⟨xi3, rfl, ⟨hF.trans hfz.symm, ok, trivial, kp4⟩, by first | (subst ht; exact hP) | (rw [ht]; exact hP) | (show va_P (dC, dI) vwCl (wR 157 ad (EX cs ad) xi3) t.heap; rw [ht]; exact hP)⟩, hS.F ht⟩) hS.2.2 dX5_walkOf_11
set_option maxHeartbeats 4000000 in
set_option maxRecDepth 100000 in
/-- sx_walkNew -/
theorem sx_walkNew (l : Launch) (dC : Nat → ClassId) (dI : Nat → Nat → Nat) (cs : Nat → ClassId) (ad : Nat → Nat) (mu : Nat → Nat → Int32) (ok : okR loX hiX mu) (H : Heap) (hP : va_P (dC, dI) vwCl (wR 157 ad (EX cs ad) mu) H) (hD0 : va_D (fun _ => True) (wR 157 ad (EX cs ad) mu)) (vx : Int32) (vy : Int32) (hin0 : 0 ≤ vx.toInt ∧ vx.toInt ≤ 6 ∧ 0 ≤ vy.toInt ∧ vy.toInt ≤ 6) : Met l yX5_walkNew (wU yX5_walkNew cX5_walkNew 4 none) ({ frames := 10, cells := 0, slots := 0, locals := 296 }) (va_Pc [.ref (ad 32), .ref (ad 4), .int vx, .int vy] (sz_P (dC, dI) vwCl (tyW cs) H)) (va_Qv (fun (xi : Nat → Nat → Int32) => xi = F_sx_walkNew mu vx vy ∧ okR loX hiX xi ∧ (True) ∧ (∀ k f : Nat, Nat.testBit 510 (gpX k f) = true → xi k f = mu k f)) (fun xi t => va_P (dC, dI) vwCl (wR 157 ad (EX cs ad) xi) t.heap) (va_A (wR 157 ad (EX cs ad) mu) H.size)) 0 0 (va_A (wR 157 ad (EX cs ad) mu) H.size) := by
  refine Met.ofW (cc := cX5_walkNew) (maxL := 4) (ret := none) (by decide) rfl ?_
  intro p e s m args below meth c s₁ B hml hv
  obtain ⟨rfl, hh, hK, hz⟩ := hv
  have hx := B.exec
  have hb := B.bytes
  have hr := B.returns
  have hts := atoms_spec (ws := (wU yX5_walkNew cX5_walkNew 4 none)) B.pre
  have hown : s.vm.findClass RX5 = some m.cls := findClass_of_methodNamed B.named
  have hlocks := B.notSynchronized
  subst hh
  have hD := hD0.self (sz := s.heap.size)
  have hA : ∀ q : Nat, s.heap.size ≤ q → (va_A (wR 157 ad (EX cs ad) mu) s.heap.size) q := fun q h => Or.inr h
  have hS : va_S (va_A (wR 157 ad (EX cs ad) mu) s.heap.size) s.heap s.heap [] := va_S.rf
  have hl := lv_entry ([.ref (ad 32), .ref (ad 4), .int vx, .int vy]) (n := 4) (Nat.le_of_ble_eq_true rfl)
  rw [lg_entry_eq]
  generalize (lg_sl ([.ref (ad 32), .ref (ad 4), .int vx, .int vy]) ++ List.replicate (4 - (lg_sl ([.ref (ad 32), .ref (ad 4), .int vx, .int vy])).length) Slot.unset).toArray = ls at hl ⊢
  have hl : lv_has ls 4 [(0, .ref (ad 32)), (1, .ref (ad 4)), (2, .int vx), (3, .int vy)] := hl
  obtain ⟨fz, hfz⟩ : ∃ z, F_sx_walkNew mu vx vy = z := ⟨_, rfl⟩
  have hF := hfz
  unfold F_sx_walkNew at hF
  refine lv_aload_n hx hb dX5_walkNew_0 rfl (lv_at hl 0 rfl) ?_
  refine lv_aload_n hx hb dX5_walkNew_1 rfl (lv_at hl 1 rfl) ?_
  refine lv_iload_n hx hb dX5_walkNew_2 rfl (lv_at hl 2 rfl) ?_
  refine lv_iload_n hx hb dX5_walkNew_3 rfl (lv_at hl 3 rfl) ?_
  refine lv_iconst (v := 0) hx hb dX5_walkNew_4 (by decide) ?_
  have hFc := fr_all (wR_D mu hD) hS hA
  refine va_callv (va_runV (As := [.ref (ad 4), .int vx, .int vy, .int 0]) (rest := []) ⟨hx, hb, hml, hown, hts⟩ (sx_lookFrom l dC dI cs ad mu ok s.heap hP ((wR_D mu hD).weaken (fun _ _ _ _ => trivial)) vx vy 0 (by have h53 : (0 : Int32).toInt = 0 := rfl; omega)) (cwV 4 hts (wU_V mw_4_13 mw_4_10 mw_4_12 mw_0_10 mw_1_8) rfl rfl rfl (by decide +kernel) ⟨Nat.le_of_ble_eq_true rfl, Nat.le_of_ble_eq_true rfl⟩) ⟨sz_c, va_recv hK hP (ci := 5) (q0 := 32) rfl (gX_32 cs ad mu), sz_m hK hz⟩ rfl rfl hl.1 rfl (lv_room (Nat.le_of_ble_eq_true rfl)) dX5_walkNew_5 ⟨Nat.zero_le _, Nat.zero_le _⟩) hS (fun q _ h => hFc q h) hFc (fun xi1 t H1 locs ht hvm hw1 hB hz1 hk1 hS => ?_)
  have hP : va_P (dC, dI) vwCl (wR 157 ad (EX cs ad) xi1) H1 := by rw [← ht]; exact hB
  obtain ⟨hfe1, ok, hw1, hkp1_0⟩ := hw1
  have hF := mi_let hF hfe1
  have kp2 : (∀ k f : Nat, Nat.testBit 510 (gpX k f) = true → xi1 k f = mu k f) := kp_t hkp1_0 (by decide) (fun _ _ _ => rfl)
  refine lv_aload_n hx hb dX5_walkNew_8 rfl (lv_at hl 0 rfl) ?_
  refine lv_iconst (v := 0) hx hb dX5_walkNew_9 (by decide) ?_
  refine va_put (D := (dC, dI)) (ci := 5) (v := .int 0) (ty := .int) (C := RX5) (T := TX5) (N := 15) hx hb hts inG5 tyX5 tyX5_ok nmX5 hown hK hP (wR_D xi1 hD) hS 32 (gX_32 cs ad xi1) rfl 8 (by decide) (hts _ (List.mem_cons_of_mem _ mw_2_56)) (fun _ h9 => h9) rfl (by decide +kernel) rfl rfl (Nat.le_of_ble_eq_true rfl) dX5_walkNew_10 (fun H locs hP _ hS => ?_)
  simp only [List.set_cons_succ, List.set_cons_zero] at hP
  refine wr_gen (upd (xi1 32) 8 0) hP ((hX_32_8 cs ad _ _)) (fun nu3 hn3 hP => ?_)
  have hF := mi_let hF hn3.symm
  have ok := tX_32_8 ok hn3
  have kp4 : (∀ k f : Nat, Nat.testBit 510 (gpX k f) = true → nu3 k f = mu k f) := kp_c 0 hn3 (fun _ => rfl) (by decide) kp2
  have ez5 : 0 = nu3 32 8 := up_v hn3
  refine lv_aload_n hx hb dX5_walkNew_13 rfl (lv_at hl 0 rfl) ?_
  refine lv_iconst (v := 0) hx hb dX5_walkNew_14 (by decide) ?_
  refine va_put (D := (dC, dI)) (ci := 5) (v := .int 0) (ty := .int) (C := RX5) (T := TX5) (N := 15) hx hb hts inG5 tyX5 tyX5_ok nmX5 hown hK hP (wR_D nu3 hD) hS 32 (gX_32 cs ad nu3) rfl 9 (by decide) (hts _ (List.mem_cons_of_mem _ mw_2_57)) (fun _ h9 => h9) rfl (by decide +kernel) rfl rfl (Nat.le_of_ble_eq_true rfl) dX5_walkNew_15 (fun H locs hP _ hS => ?_)
  simp only [List.set_cons_succ, List.set_cons_zero] at hP
  refine wr_gen (upd (nu3 32) 9 0) hP ((hX_32_9 cs ad _ _)) (fun nu6 hn6 hP => ?_)
  have hF := mi_let hF hn6.symm
  have ok := tX_32_9 ok hn6
  have ez7 : 0 = nu6 32 8 := ez5.trans (up_f hn6 (by decide)).symm
  have kp8 : (∀ k f : Nat, Nat.testBit 510 (gpX k f) = true → nu6 k f = mu k f) := kp_c 0 hn6 (fun _ => rfl) (by decide) kp4
  have ez9 : 0 = nu6 32 9 := up_v hn6
  refine lv_aload_n hx hb dX5_walkNew_18 rfl (lv_at hl 0 rfl) ?_
  refine lv_iconst (v := 0) hx hb dX5_walkNew_19 (by decide) ?_
  refine va_put (D := (dC, dI)) (ci := 5) (v := .int 0) (ty := .int) (C := RX5) (T := TX5) (N := 15) hx hb hts inG5 tyX5 tyX5_ok nmX5 hown hK hP (wR_D nu6 hD) hS 32 (gX_32 cs ad nu6) rfl 10 (by decide) (hts _ (List.mem_cons_of_mem _ mw_2_58)) (fun _ h9 => h9) rfl (by decide +kernel) rfl rfl (Nat.le_of_ble_eq_true rfl) dX5_walkNew_20 (fun H locs hP _ hS => ?_)
  simp only [List.set_cons_succ, List.set_cons_zero] at hP
  refine wr_gen (upd (nu6 32) 10 0) hP ((hX_32_10 cs ad _ _)) (fun nu10 hn10 hP => ?_)
  have hF := mi_let hF hn10.symm
  have ok := tX_32_10 ok hn10
  have ez11 : 0 = nu10 32 8 := ez7.trans (up_f hn10 (by decide)).symm
  have ez12 : 0 = nu10 32 9 := ez9.trans (up_f hn10 (by decide)).symm
  have kp13 : (∀ k f : Nat, Nat.testBit 510 (gpX k f) = true → nu10 k f = mu k f) := kp_c 0 hn10 (fun _ => rfl) (by decide) kp8
  have ez14 : 0 = nu10 32 10 := up_v hn10
  refine lv_aload_n hx hb dX5_walkNew_23 rfl (lv_at hl 0 rfl) ?_
  refine lv_aload_n hx hb dX5_walkNew_24 rfl (lv_at hl 1 rfl) ?_
  have hFc := fr_all (wR_D nu10 hD) hS hA
  refine va_callv (va_runV (As := [.ref (ad 4)]) (rest := []) ⟨hx, hb, hml, hown, hts⟩ (sx_walkAll l dC dI cs ad nu10 ok H hP ((wR_D nu10 hD).weaken (fun _ _ _ _ => trivial))) (cwV 1 hts (wU_V mw_4_24 mw_4_21 mw_4_23 mw_0_12 mw_1_8) rfl rfl rfl (by decide +kernel) ⟨Nat.le_of_ble_eq_true rfl, Nat.le_of_ble_eq_true rfl⟩) ⟨sz_c, va_recv hK hP (ci := 5) (q0 := 32) rfl (gX_32 cs ad nu10), sz_m hK hz⟩ rfl rfl hl.1 rfl (lv_room (Nat.le_of_ble_eq_true rfl)) dX5_walkNew_25 ⟨Nat.zero_le _, Nat.zero_le _⟩) hS (fun q _ h => hFc q h) hFc (fun xi15 t H15 locs ht hvm hw15 hB hz1 hk1 hS => ?_)
  have hP : va_P (dC, dI) vwCl (wR 157 ad (EX cs ad) xi15) H15 := by rw [← ht]; exact hB
  obtain ⟨hfe15, ok, hw15, hkp15_0⟩ := hw15
  have hF := mi_let hF hfe15
  have kp16 : (∀ k f : Nat, Nat.testBit 510 (gpX k f) = true → xi15 k f = mu k f) := kp_t hkp15_0 (by decide) kp13
  exact W.vret hx hb hr (fun t ht hW => ⟨⟨xi15, rfl, ⟨hF.trans hfz.symm, ok, trivial, kp16⟩, by first | (subst ht; exact hP) | (rw [ht]; exact hP) | (show va_P (dC, dI) vwCl (wR 157 ad (EX cs ad) xi15) t.heap; rw [ht]; exact hP)⟩, hS.F ht⟩) hS.2.2 dX5_walkNew_28
set_option maxHeartbeats 4000000 in
set_option maxRecDepth 100000 in
/-- sx_walkWithLoan -/
theorem sx_walkWithLoan (l : Launch) (dC : Nat → ClassId) (dI : Nat → Nat → Nat) (cs : Nat → ClassId) (ad : Nat → Nat) (mu : Nat → Nat → Int32) (ok : okR loX hiX mu) (H : Heap) (hP : va_P (dC, dI) vwCl (wR 157 ad (EX cs ad) mu) H) (hD0 : va_D (fun _ => True) (wR 157 ad (EX cs ad) mu)) (vx : Int32) (vl : Int32) (hin0 : 0 ≤ vx.toInt ∧ vx.toInt ≤ 6) : Met l yX5_walkWithLoan (wU yX5_walkWithLoan cX5_walkWithLoan 5 none) ({ frames := 10, cells := 0, slots := 0, locals := 296 }) (va_Pc [.ref (ad 32), .ref (ad 4), .int vx, .int vl] (sz_P (dC, dI) vwCl (tyW cs) H)) (va_Qv (fun (xi : Nat → Nat → Int32) => xi = F_sx_walkWithLoan mu vx vl ∧ okR loX hiX xi ∧ (True) ∧ (∀ k f : Nat, Nat.testBit 510 (gpX k f) = true → xi k f = mu k f)) (fun xi t => va_P (dC, dI) vwCl (wR 157 ad (EX cs ad) xi) t.heap) (va_A (wR 157 ad (EX cs ad) mu) H.size)) 0 0 (va_A (wR 157 ad (EX cs ad) mu) H.size) := by
  refine Met.ofW (cc := cX5_walkWithLoan) (maxL := 5) (ret := none) (by decide) rfl ?_
  intro p e s m args below meth c s₁ B hml hv
  obtain ⟨rfl, hh, hK, hz⟩ := hv
  have hx := B.exec
  have hb := B.bytes
  have hr := B.returns
  have hts := atoms_spec (ws := (wU yX5_walkWithLoan cX5_walkWithLoan 5 none)) B.pre
  have hown : s.vm.findClass RX5 = some m.cls := findClass_of_methodNamed B.named
  have hlocks := B.notSynchronized
  subst hh
  have hD := hD0.self (sz := s.heap.size)
  have hA : ∀ q : Nat, s.heap.size ≤ q → (va_A (wR 157 ad (EX cs ad) mu) s.heap.size) q := fun q h => Or.inr h
  have hS : va_S (va_A (wR 157 ad (EX cs ad) mu) s.heap.size) s.heap s.heap [] := va_S.rf
  have hl := lv_entry ([.ref (ad 32), .ref (ad 4), .int vx, .int vl]) (n := 5) (Nat.le_of_ble_eq_true rfl)
  rw [lg_entry_eq]
  generalize (lg_sl ([.ref (ad 32), .ref (ad 4), .int vx, .int vl]) ++ List.replicate (5 - (lg_sl ([.ref (ad 32), .ref (ad 4), .int vx, .int vl])).length) Slot.unset).toArray = ls at hl ⊢
  have hl : lv_has ls 5 [(0, .ref (ad 32)), (1, .ref (ad 4)), (2, .int vx), (3, .int vl)] := hl
  obtain ⟨fz, hfz⟩ : ∃ z, F_sx_walkWithLoan mu vx vl = z := ⟨_, rfl⟩
  have hF := hfz
  unfold F_sx_walkWithLoan at hF
  refine lv_aload_n hx hb dX5_walkWithLoan_0 rfl (lv_at hl 0 rfl) ?_
  refine va_get (D := (dC, dI)) (ci := 5) (v := .ref (ad 53)) (C := RX5) (T := TX5) (N := 15) hx hb hts inG5 hown hK hP 32 (gX_32 cs ad mu) rfl 1 (by decide) (hts _ (List.mem_cons_of_mem _ mw_2_47)) (fun _ h9 => h9) rfl dX5_walkWithLoan_1 ?_
  refine lv_iload_n hx hb dX5_walkWithLoan_4 rfl (lv_at hl 2 rfl) ?_
  refine va_iald hx hb hK hP 53 0 (gX_53 cs ad mu) rfl (show vp_in vx 7 from vi_of (by omega) (by omega)) dX5_walkWithLoan_5 ?_
  refine lv_topi (fun y1 ey1 => ?_)
  have hF := mi_let hF ey1
  have by1 : y1.toInt = (mu 53 vx.toNatClampNeg).toInt := congrArg Int32.toInt ey1
  refine lv_istore (lv' := [(4, .int y1), (0, .ref (ad 32)), (1, .ref (ad 4)), (2, .int vx), (3, .int vl)]) hx hb dX5_walkWithLoan_6 hl (by decide) rfl (fun ls hl => ?_)
  refine lv_aload_n hx hb dX5_walkWithLoan_8 rfl (lv_at hl 1 rfl) ?_
  refine va_get (D := (dC, dI)) (ci := 5) (v := .ref (ad 53)) (C := RX5) (T := TX5) (N := 15) hx hb hts inG5 hown hK hP 32 (gX_32 cs ad mu) rfl 1 (by decide) (hts _ (List.mem_cons_of_mem _ mw_2_47)) (fun _ h9 => h9) rfl dX5_walkWithLoan_9 ?_
  refine lv_iload_n hx hb dX5_walkWithLoan_12 rfl (lv_at hl 3 rfl) ?_
  refine lv_iload_n hx hb dX5_walkWithLoan_13 rfl (lv_at hl 4 rfl) ?_
  refine va_iast hx hb hK hP (wR_D mu hD) hS 53 0 (gX_53 cs ad mu) rfl (show vp_in vx 7 from vi_of (by omega) (by omega)) dX5_walkWithLoan_14 (fun H locs hP _ hS => ?_)
  refine wr_gen (upd (mu 53) vx.toNatClampNeg vl) hP (rfl) (fun nu2 hn2 hP => ?_)
  have hF := mi_let hF hn2.symm
  have ok := tX_53_s ok vx.toNatClampNeg hn2
  have kp3 : (∀ k f : Nat, Nat.testBit 510 (gpX k f) = true → nu2 k f = mu k f) := kp_c 0 hn2 (fun _ => rfl) (by decide) (fun _ _ _ => rfl)
  refine lv_aload_n hx hb dX5_walkWithLoan_15 rfl (lv_at hl 1 rfl) ?_
  refine lv_aload_n hx hb dX5_walkWithLoan_16 rfl (lv_at hl 2 rfl) ?_
  have hFc := fr_all (wR_D nu2 hD) hS hA
  refine va_callv (va_runV (As := [.ref (ad 4)]) (rest := []) ⟨hx, hb, hml, hown, hts⟩ (sx_walkAll l dC dI cs ad nu2 ok H hP ((wR_D nu2 hD).weaken (fun _ _ _ _ => trivial))) (cwV 1 hts (wU_V mw_4_24 mw_4_21 mw_4_23 mw_0_12 mw_1_8) rfl rfl rfl (by decide +kernel) ⟨Nat.le_of_ble_eq_true rfl, Nat.le_of_ble_eq_true rfl⟩) ⟨sz_c, va_recv hK hP (ci := 5) (q0 := 32) rfl (gX_32 cs ad nu2), sz_m hK hz⟩ rfl rfl hl.1 rfl (lv_room (Nat.le_of_ble_eq_true rfl)) dX5_walkWithLoan_17 ⟨Nat.zero_le _, Nat.zero_le _⟩) hS (fun q _ h => hFc q h) hFc (fun xi4 t H4 locs ht hvm hw4 hB hz1 hk1 hS => ?_)
  have hP : va_P (dC, dI) vwCl (wR 157 ad (EX cs ad) xi4) H4 := by rw [← ht]; exact hB
  obtain ⟨hfe4, ok, hw4, hkp4_0⟩ := hw4
  have hF := mi_let hF hfe4
  have kp5 : (∀ k f : Nat, Nat.testBit 510 (gpX k f) = true → xi4 k f = mu k f) := kp_t hkp4_0 (by decide) kp3
  refine lv_aload_n hx hb dX5_walkWithLoan_20 rfl (lv_at hl 1 rfl) ?_
  refine va_get (D := (dC, dI)) (ci := 5) (v := .ref (ad 53)) (C := RX5) (T := TX5) (N := 15) hx hb hts inG5 hown hK hP 32 (gX_32 cs ad xi4) rfl 1 (by decide) (hts _ (List.mem_cons_of_mem _ mw_2_47)) (fun _ h9 => h9) rfl dX5_walkWithLoan_21 ?_
  refine lv_iload_n hx hb dX5_walkWithLoan_24 rfl (lv_at hl 3 rfl) ?_
  refine lv_iload hx hb dX5_walkWithLoan_25 (lv_at hl 0 rfl) ?_
  refine va_iast hx hb hK hP (wR_D xi4 hD) hS 53 0 (gX_53 cs ad xi4) rfl (show vp_in vx 7 from vi_of (by omega) (by omega)) dX5_walkWithLoan_27 (fun H locs hP _ hS => ?_)
  refine wr_gen (upd (xi4 53) vx.toNatClampNeg y1) hP (rfl) (fun nu6 hn6 hP => ?_)
  have hF := mi_let hF hn6.symm
  have ok := tX_53_s ok vx.toNatClampNeg hn6
  have kp7 : (∀ k f : Nat, Nat.testBit 510 (gpX k f) = true → nu6 k f = mu k f) := kp_c 0 hn6 (fun _ => rfl) (by decide) kp5
  exact W.vret hx hb hr (fun t ht hW => ⟨⟨nu6, rfl, ⟨hF.trans hfz.symm, ok, trivial, kp7⟩, by first | (subst ht; exact hP) | (rw [ht]; exact hP) | (show va_P (dC, dI) vwCl (wR 157 ad (EX cs ad) nu6) t.heap; rw [ht]; exact hP)⟩, hS.F ht⟩) hS.2.2 dX5_walkWithLoan_28
set_option maxHeartbeats 4000000 in
set_option maxRecDepth 100000 in
/-- sx_comesFrom6 -/
theorem sx_comesFrom6 (l : Launch) (dC : Nat → ClassId) (dI : Nat → Nat → Nat) (cs : Nat → ClassId) (ad : Nat → Nat) (mu : Nat → Nat → Int32) (ok : okR loX hiX mu) (H : Heap) (hP : va_P (dC, dI) vwCl (wR 157 ad (EX cs ad) mu) H) (vx : Int32) (vu : Int32) (vp : Int32) (hin0 : 0 ≤ vx.toInt ∧ vx.toInt ≤ 6) : Met l yX5_comesFrom (wU yX5_comesFrom cX5_comesFrom 9 (some .boolean)) ({ frames := 1, cells := 0, slots := 0, locals := 21 }) (va_Pc [.ref (ad 32), .ref (ad 4), .int vx, .int 6, .int vu, .int vp] (sz_P (dC, dI) vwCl (tyW cs) H)) (va_Qi (fun (z : Int32) (_ : Unit) => z = F_sx_comesFrom6 mu vx vu vp ∧ (0 ≤ z.toInt ∧ z.toInt ≤ 1)) (fun _ t => t.heap = H) (fun _ => False)) 0 0 (fun _ => False) := by
  refine Met.ofW (cc := cX5_comesFrom) (maxL := 9) (ret := (some .boolean)) (by decide) rfl ?_
  intro p e s m args below meth c s₁ B hml hv
  obtain ⟨rfl, hh, hK, hz⟩ := hv
  have hx := B.exec
  have hb := B.bytes
  have hr := B.returns
  have hts := atoms_spec (ws := (wU yX5_comesFrom cX5_comesFrom 9 (some .boolean))) B.pre
  have hown : s.vm.findClass RX5 = some m.cls := findClass_of_methodNamed B.named
  have hlocks := B.notSynchronized
  subst hh
  have hS : va_S (fun _ => False) s.heap s.heap [] := va_S.rf
  have hl := lv_entry ([.ref (ad 32), .ref (ad 4), .int vx, .int 6, .int vu, .int vp]) (n := 9) (Nat.le_of_ble_eq_true rfl)
  rw [lg_entry_eq]
  generalize (lg_sl ([.ref (ad 32), .ref (ad 4), .int vx, .int 6, .int vu, .int vp]) ++ List.replicate (9 - (lg_sl ([.ref (ad 32), .ref (ad 4), .int vx, .int 6, .int vu, .int vp])).length) Slot.unset).toArray = ls at hl ⊢
  have hl : lv_has ls 9 [(0, .ref (ad 32)), (1, .ref (ad 4)), (2, .int vx), (3, .int 6), (4, .int vu), (5, .int vp)] := hl
  obtain ⟨fz, hfz⟩ : ∃ z, F_sx_comesFrom6 mu vx vu vp = z := ⟨_, rfl⟩
  have hF := hfz
  unfold F_sx_comesFrom6 at hF
  refine lv_aload_n hx hb dX5_comesFrom_0 rfl (lv_at hl 1 rfl) ?_
  refine va_get (D := (dC, dI)) (ci := 10) (v := .ref (ad 34)) (C := RX10) (T := TX10) (N := 8) hx hb hts inG10 hown hK hP 4 (gX_4 cs ad mu) rfl 0 (by decide) (hts _ (List.mem_cons_of_mem _ mw_1_146)) (fun _ h9 => h9) rfl dX5_comesFrom_1 ?_
  refine lv_iload_n hx hb dX5_comesFrom_4 rfl (lv_at hl 2 rfl) ?_
  refine va_iald hx hb hK hP 34 0 (gX_34 cs ad mu) rfl (show vp_in vx 7 from vi_of (by omega) (by omega)) dX5_comesFrom_5 ?_
  refine lv_topi (fun y1 ey1 => ?_)
  have hF := mi_let hF ey1
  have by1 : y1.toInt = (mu 34 vx.toNatClampNeg).toInt := congrArg Int32.toInt ey1
  refine lv_iload hx hb dX5_comesFrom_6 (lv_at hl 5 rfl) ?_
  refine cr_i (va_runSN (As := [.int y1, .int vp]) (rest := []) ⟨hx, hb, hml, hown, hts⟩ (sx_priceAsked l dC dI (tyW cs) s.heap y1 vp) ⟨va_cnB 2 hts (wU_in mw_3_107) rfl rfl rfl (hz.2.2.2.2.2.2.2.2.2.2.2.2.2.1) (hts _ (List.mem_cons_of_mem _ mw_1_1)) (by decide +kernel) ⟨Nat.le_of_ble_eq_true rfl, Nat.le_of_ble_eq_true rfl⟩, (hts _ (List.mem_cons_of_mem _ mw_3_106)), trivial⟩ ⟨sz_c, sz_m hK hz⟩ rfl rfl hl.1 rfl (lv_room (Nat.le_of_ble_eq_true rfl)) dX5_comesFrom_8 ⟨Nat.zero_le _, Nat.zero_le _⟩) hS (fun r2 hw2 locs hS => ?_)
  obtain ⟨hfe2, hw2⟩ := hw2
  have hF := mi_let hF hfe2
  refine lv_istore (lv' := [(6, .int r2), (0, .ref (ad 32)), (1, .ref (ad 4)), (2, .int vx), (3, .int 6), (4, .int vu), (5, .int vp)]) hx hb dX5_comesFrom_11 hl (by decide) rfl (fun ls hl => ?_)
  refine lv_iload_n hx hb dX5_comesFrom_13 rfl (lv_at hl 4 rfl) ?_
  refine lv_iconst (v := 1) hx hb dX5_comesFrom_14 (by decide) ?_
  refine lv_iadd hx hb dX5_comesFrom_15 ?_
  refine lq_i 7 (by decide) ?_
  refine lv_istore (lv' := [(7, .int 7), (6, .int r2), (0, .ref (ad 32)), (1, .ref (ad 4)), (2, .int vx), (3, .int 6), (4, .int vu), (5, .int vp)]) hx hb dX5_comesFrom_16 hl (by decide) rfl (fun ls hl => ?_)
  refine lv_iconst (v := 0) hx hb dX5_comesFrom_18 (by decide) ?_
  refine lv_istore (lv' := [(8, .int 0), (7, .int 7), (6, .int r2), (0, .ref (ad 32)), (1, .ref (ad 4)), (2, .int vx), (3, .int 6), (4, .int vu), (5, .int vp)]) hx hb dX5_comesFrom_19 hl (by decide) rfl (fun ls hl => ?_)
  have loop21 : ∀ (n21 : Nat) (v8_21 : Int32) (locs : List Loc) (ls : Array Slot), (7 + 1 - v8_21.toInt).toNat < n21 → (0 ≤ v8_21.toInt ∧ v8_21.toInt ≤ 7) → L_sx_comesFrom6_21_0 mu n21 v8_21 = fz → va_S (fun _ => False) s.heap s.heap locs → lv_has ls 9 [(8, .int v8_21), (7, .int 7), (6, .int r2), (0, .ref (ad 32)), (1, .ref (ad 4)), (2, .int vx), (3, .int 6), (4, .int vu), (5, .int vp)] → W p l e (headSpec (wU yX5_comesFrom cX5_comesFrom 9 (some .boolean)) ({ frames := 1, cells := 0, slots := 0, locals := 21 })).room s m ([.ref (ad 32), .ref (ad 4), .int vx, .int 6, .int vu, .int vp] : List Value).toArray below meth c s.heap locs 0 0 (MQ below (va_Qi (fun (z : Int32) (_ : Unit) => z = F_sx_comesFrom6 mu vx vu vp ∧ (0 ≤ z.toInt ∧ z.toInt ≤ 1)) (fun _ t => t.heap = s.heap) (fun _ => False)) ([.ref (ad 32), .ref (ad 4), .int vx, .int 6, .int vu, .int vp] : List Value).toArray s 0 0 (fun _ => False)) (F0 m 21 ls []) := by
    intro n21
    induction n21 with
    | zero => intro v8_21 locs ls hm; exact absurd hm (Nat.not_lt_zero _)
    | succ n21 ih21 =>
      intro v8_21 locs ls hm_21 h_v8_21 hF hS hl
      rw [L_sx_comesFrom6_21_0] at hF
      refine lv_iload hx hb dX5_comesFrom_21 (lv_at hl 0 rfl) ?_
      refine lv_aload_n hx hb dX5_comesFrom_23 rfl (lv_at hl 4 rfl) ?_
      refine va_get (D := (dC, dI)) (ci := 10) (v := .int (mu 4 6)) (C := RX10) (T := TX10) (N := 8) hx hb hts inG10 hown hK hP 4 (gX_4 cs ad mu) rfl 6 (by decide) (hts _ (List.mem_cons_of_mem _ mw_1_162)) (fun _ h9 => h9) rfl dX5_comesFrom_24 ?_
      refine lv_topi (fun y3 ey3 => ?_)
      have hF := mi_let hF ey3
      have by3 : y3.toInt = (mu 4 6).toInt := congrArg Int32.toInt ey3
      have gy3 : 0 ≤ y3.toInt ∧ y3.toInt ≤ 7 := by rw [ey3]; exact rX_4_6 ok
      refine lv_icmp_ge (tgt := 111) hx hb dX5_comesFrom_27 (by decide) (fun c_4 => ?_) (fun c_4 => ?_)
      · have hF := (if_pos c_4).symm.trans hF
        have c_4 : y3.toInt ≤ v8_21.toInt := il_le c_4
        refine lv_iconst (v := 0) hx hb dX5_comesFrom_111 (by decide) ?_
        exact W.zret (v := 0) (ty := .boolean) hx hb hr (by first | rfl | decide) (fun t ht hW => ⟨⟨0, (), rfl, ⟨hF.trans hfz.symm, (by have h6 : (0 : Int32).toInt = 0 := rfl; omega)⟩, ht⟩, hS.F ht⟩) hS.2.2 dX5_comesFrom_112
      · have hF := (if_neg c_4).symm.trans hF
        have c_4 : v8_21.toInt < y3.toInt := il_nle c_4
        refine lv_iload hx hb dX5_comesFrom_30 (lv_at hl 1 rfl) ?_
        refine lv_bipush (v := 7) hx hb dX5_comesFrom_32 (by decide) ?_
        refine lv_icmp_ge (tgt := 111) hx hb dX5_comesFrom_34 (by decide) (fun _ => ?_) (fun c => absurd (by decide) c)
        refine lv_iconst (v := 0) hx hb dX5_comesFrom_111 (by decide) ?_
        exact W.zret (v := 0) (ty := .boolean) hx hb hr (by first | rfl | decide) (fun t ht hW => ⟨⟨0, (), rfl, ⟨hF.trans hfz.symm, (by have h6 : (0 : Int32).toInt = 0 := rfl; omega)⟩, ht⟩, hS.F ht⟩) hS.2.2 dX5_comesFrom_112
  exact loop21 10 (0)  _ _ (by have h80 : (0 : Int32).toInt = 0 := rfl; omega) (by have h80 : (0 : Int32).toInt = 0 := rfl; exact ⟨by omega, by omega⟩)   hF hS hl
set_option maxHeartbeats 4000000 in
set_option maxRecDepth 100000 in
/-- sx_comesFrom5 -/
theorem sx_comesFrom5 (l : Launch) (dC : Nat → ClassId) (dI : Nat → Nat → Nat) (cs : Nat → ClassId) (ad : Nat → Nat) (mu : Nat → Nat → Int32) (ok : okR loX hiX mu) (H : Heap) (hP : va_P (dC, dI) vwCl (wR 157 ad (EX cs ad) mu) H) (vx : Int32) (vu : Int32) (vp : Int32) (hin0 : 0 ≤ vx.toInt ∧ vx.toInt ≤ 6) : Met l yX5_comesFrom (wU yX5_comesFrom cX5_comesFrom 9 (some .boolean)) ({ frames := 2, cells := 0, slots := 0, locals := 49 }) (va_Pc [.ref (ad 32), .ref (ad 4), .int vx, .int 5, .int vu, .int vp] (sz_P (dC, dI) vwCl (tyW cs) H)) (va_Qi (fun (z : Int32) (_ : Unit) => z = F_sx_comesFrom5 mu vx vu vp ∧ (0 ≤ z.toInt ∧ z.toInt ≤ 1)) (fun _ t => t.heap = H) (fun _ => False)) 0 0 (fun _ => False) := by
  refine Met.ofW (cc := cX5_comesFrom) (maxL := 9) (ret := (some .boolean)) (by decide) rfl ?_
  intro p e s m args below meth c s₁ B hml hv
  obtain ⟨rfl, hh, hK, hz⟩ := hv
  have hx := B.exec
  have hb := B.bytes
  have hr := B.returns
  have hts := atoms_spec (ws := (wU yX5_comesFrom cX5_comesFrom 9 (some .boolean))) B.pre
  have hown : s.vm.findClass RX5 = some m.cls := findClass_of_methodNamed B.named
  have hlocks := B.notSynchronized
  subst hh
  have hS : va_S (fun _ => False) s.heap s.heap [] := va_S.rf
  have hl := lv_entry ([.ref (ad 32), .ref (ad 4), .int vx, .int 5, .int vu, .int vp]) (n := 9) (Nat.le_of_ble_eq_true rfl)
  rw [lg_entry_eq]
  generalize (lg_sl ([.ref (ad 32), .ref (ad 4), .int vx, .int 5, .int vu, .int vp]) ++ List.replicate (9 - (lg_sl ([.ref (ad 32), .ref (ad 4), .int vx, .int 5, .int vu, .int vp])).length) Slot.unset).toArray = ls at hl ⊢
  have hl : lv_has ls 9 [(0, .ref (ad 32)), (1, .ref (ad 4)), (2, .int vx), (3, .int 5), (4, .int vu), (5, .int vp)] := hl
  obtain ⟨fz, hfz⟩ : ∃ z, F_sx_comesFrom5 mu vx vu vp = z := ⟨_, rfl⟩
  have hF := hfz
  unfold F_sx_comesFrom5 at hF
  refine lv_aload_n hx hb dX5_comesFrom_0 rfl (lv_at hl 1 rfl) ?_
  refine va_get (D := (dC, dI)) (ci := 10) (v := .ref (ad 34)) (C := RX10) (T := TX10) (N := 8) hx hb hts inG10 hown hK hP 4 (gX_4 cs ad mu) rfl 0 (by decide) (hts _ (List.mem_cons_of_mem _ mw_1_146)) (fun _ h9 => h9) rfl dX5_comesFrom_1 ?_
  refine lv_iload_n hx hb dX5_comesFrom_4 rfl (lv_at hl 2 rfl) ?_
  refine va_iald hx hb hK hP 34 0 (gX_34 cs ad mu) rfl (show vp_in vx 7 from vi_of (by omega) (by omega)) dX5_comesFrom_5 ?_
  refine lv_topi (fun y1 ey1 => ?_)
  have hF := mi_let hF ey1
  have by1 : y1.toInt = (mu 34 vx.toNatClampNeg).toInt := congrArg Int32.toInt ey1
  refine lv_iload hx hb dX5_comesFrom_6 (lv_at hl 5 rfl) ?_
  refine cr_i (va_runSN (As := [.int y1, .int vp]) (rest := []) ⟨hx, hb, hml, hown, hts⟩ (sx_priceAsked l dC dI (tyW cs) s.heap y1 vp) ⟨va_cnB 2 hts (wU_in mw_3_107) rfl rfl rfl (hz.2.2.2.2.2.2.2.2.2.2.2.2.2.1) (hts _ (List.mem_cons_of_mem _ mw_1_1)) (by decide +kernel) ⟨Nat.le_of_ble_eq_true rfl, Nat.le_of_ble_eq_true rfl⟩, (hts _ (List.mem_cons_of_mem _ mw_3_106)), trivial⟩ ⟨sz_c, sz_m hK hz⟩ rfl rfl hl.1 rfl (lv_room (Nat.le_of_ble_eq_true rfl)) dX5_comesFrom_8 ⟨Nat.zero_le _, Nat.zero_le _⟩) hS (fun r2 hw2 locs hS => ?_)
  obtain ⟨hfe2, hw2⟩ := hw2
  have hF := mi_let hF hfe2
  refine lv_istore (lv' := [(6, .int r2), (0, .ref (ad 32)), (1, .ref (ad 4)), (2, .int vx), (3, .int 5), (4, .int vu), (5, .int vp)]) hx hb dX5_comesFrom_11 hl (by decide) rfl (fun ls hl => ?_)
  refine lv_iload_n hx hb dX5_comesFrom_13 rfl (lv_at hl 4 rfl) ?_
  refine lv_iconst (v := 1) hx hb dX5_comesFrom_14 (by decide) ?_
  refine lv_iadd hx hb dX5_comesFrom_15 ?_
  refine lq_i 6 (by decide) ?_
  refine lv_istore (lv' := [(7, .int 6), (6, .int r2), (0, .ref (ad 32)), (1, .ref (ad 4)), (2, .int vx), (3, .int 5), (4, .int vu), (5, .int vp)]) hx hb dX5_comesFrom_16 hl (by decide) rfl (fun ls hl => ?_)
  refine lv_iconst (v := 0) hx hb dX5_comesFrom_18 (by decide) ?_
  refine lv_istore (lv' := [(8, .int 0), (7, .int 6), (6, .int r2), (0, .ref (ad 32)), (1, .ref (ad 4)), (2, .int vx), (3, .int 5), (4, .int vu), (5, .int vp)]) hx hb dX5_comesFrom_19 hl (by decide) rfl (fun ls hl => ?_)
  have loop21 : ∀ (n21 : Nat) (v8_21 : Int32) (locs : List Loc) (ls : Array Slot), (7 + 1 - v8_21.toInt).toNat < n21 → (0 ≤ v8_21.toInt ∧ v8_21.toInt ≤ 7) → L_sx_comesFrom5_21_0 mu r2 vu vx n21 v8_21 = fz → va_S (fun _ => False) s.heap s.heap locs → lv_has ls 9 [(8, .int v8_21), (7, .int 6), (6, .int r2), (0, .ref (ad 32)), (1, .ref (ad 4)), (2, .int vx), (3, .int 5), (4, .int vu), (5, .int vp)] → W p l e (headSpec (wU yX5_comesFrom cX5_comesFrom 9 (some .boolean)) ({ frames := 2, cells := 0, slots := 0, locals := 49 })).room s m ([.ref (ad 32), .ref (ad 4), .int vx, .int 5, .int vu, .int vp] : List Value).toArray below meth c s.heap locs 0 0 (MQ below (va_Qi (fun (z : Int32) (_ : Unit) => z = F_sx_comesFrom5 mu vx vu vp ∧ (0 ≤ z.toInt ∧ z.toInt ≤ 1)) (fun _ t => t.heap = s.heap) (fun _ => False)) ([.ref (ad 32), .ref (ad 4), .int vx, .int 5, .int vu, .int vp] : List Value).toArray s 0 0 (fun _ => False)) (F0 m 21 ls []) := by
    intro n21
    induction n21 with
    | zero => intro v8_21 locs ls hm; exact absurd hm (Nat.not_lt_zero _)
    | succ n21 ih21 =>
      intro v8_21 locs ls hm_21 h_v8_21 hF hS hl
      rw [L_sx_comesFrom5_21_0] at hF
      refine lv_iload hx hb dX5_comesFrom_21 (lv_at hl 0 rfl) ?_
      refine lv_aload_n hx hb dX5_comesFrom_23 rfl (lv_at hl 4 rfl) ?_
      refine va_get (D := (dC, dI)) (ci := 10) (v := .int (mu 4 6)) (C := RX10) (T := TX10) (N := 8) hx hb hts inG10 hown hK hP 4 (gX_4 cs ad mu) rfl 6 (by decide) (hts _ (List.mem_cons_of_mem _ mw_1_162)) (fun _ h9 => h9) rfl dX5_comesFrom_24 ?_
      refine lv_topi (fun y3 ey3 => ?_)
      have hF := mi_let hF ey3
      have by3 : y3.toInt = (mu 4 6).toInt := congrArg Int32.toInt ey3
      have gy3 : 0 ≤ y3.toInt ∧ y3.toInt ≤ 7 := by rw [ey3]; exact rX_4_6 ok
      refine lv_icmp_ge (tgt := 111) hx hb dX5_comesFrom_27 (by decide) (fun c_4 => ?_) (fun c_4 => ?_)
      · have hF := (if_pos c_4).symm.trans hF
        have c_4 : y3.toInt ≤ v8_21.toInt := il_le c_4
        refine lv_iconst (v := 0) hx hb dX5_comesFrom_111 (by decide) ?_
        exact W.zret (v := 0) (ty := .boolean) hx hb hr (by first | rfl | decide) (fun t ht hW => ⟨⟨0, (), rfl, ⟨hF.trans hfz.symm, (by have h6 : (0 : Int32).toInt = 0 := rfl; omega)⟩, ht⟩, hS.F ht⟩) hS.2.2 dX5_comesFrom_112
      · have hF := (if_neg c_4).symm.trans hF
        have c_4 : v8_21.toInt < y3.toInt := il_nle c_4
        refine lv_iload hx hb dX5_comesFrom_30 (lv_at hl 1 rfl) ?_
        refine lv_bipush (v := 7) hx hb dX5_comesFrom_32 (by decide) ?_
        refine lv_icmp_ge (tgt := 111) hx hb dX5_comesFrom_34 (by decide) (fun c => absurd c (by decide)) (fun _ => ?_)
        refine lv_aload_n hx hb dX5_comesFrom_37 rfl (lv_at hl 3 rfl) ?_
        refine lv_aload_n hx hb dX5_comesFrom_38 rfl (lv_at hl 4 rfl) ?_
        refine lv_iload_n hx hb dX5_comesFrom_39 rfl (lv_at hl 5 rfl) ?_
        refine lv_iload hx hb dX5_comesFrom_40 (lv_at hl 0 rfl) ?_
        refine lv_iload hx hb dX5_comesFrom_42 (lv_at hl 7 rfl) ?_
        refine lv_iload hx hb dX5_comesFrom_44 (lv_at hl 2 rfl) ?_
        refine cr_i (va_runV (As := [.ref (ad 4), .int vx, .int v8_21, .int vu, .int r2]) (rest := []) ⟨hx, hb, hml, hown, hts⟩ (sx_buys l dC dI cs ad mu ok s.heap hP vx v8_21 vu r2 (by omega)) (cwV 5 hts (wU_V mw_4_34 mw_4_31 mw_4_33 mw_0_14 mw_1_8) rfl rfl rfl (by decide +kernel) ⟨Nat.le_of_ble_eq_true rfl, Nat.le_of_ble_eq_true rfl⟩) ⟨sz_c, va_recv hK hP (ci := 5) (q0 := 32) rfl (gX_32 cs ad mu), sz_m hK hz⟩ rfl rfl hl.1 rfl (lv_room (Nat.le_of_ble_eq_true rfl)) dX5_comesFrom_46 ⟨Nat.zero_le _, Nat.zero_le _⟩) hS (fun r5 hw5 locs hS => ?_)
        obtain ⟨hfe5, hw5⟩ := hw5
        have hF := mi_let hF hfe5
        have gr5 : 0 ≤ r5.toInt ∧ r5.toInt ≤ 1 := hw5
        refine lv_if_ne (tgt := 55) hx hb dX5_comesFrom_49 (by decide) (fun c_6 => ?_) (fun c_6 => ?_)
        · have hF := (if_neg c_6).symm.trans hF
          have c_6 : ¬ r5.toInt = 0 := il_ne c_6
          refine lv_iload hx hb dX5_comesFrom_55 (lv_at hl 0 rfl) ?_
          refine lv_aload_n hx hb dX5_comesFrom_57 rfl (lv_at hl 3 rfl) ?_
          refine va_get (D := (dC, dI)) (ci := 5) (v := .int (mu 32 6)) (C := RX5) (T := TX5) (N := 15) hx hb hts inG5 hown hK hP 32 (gX_32 cs ad mu) rfl 6 (by decide) (hts _ (List.mem_cons_of_mem _ mw_2_54)) (fun _ h9 => h9) rfl dX5_comesFrom_58 ?_
          refine lv_topi (fun y7 ey7 => ?_)
          have hF := mi_let hF ey7
          have by7 : y7.toInt = (mu 32 6).toInt := congrArg Int32.toInt ey7
          have gy7 : 0 ≤ y7.toInt ∧ y7.toInt ≤ 6 := by rw [ey7]; exact rX_32_6 ok
          refine lv_icmp_ne (tgt := 82) hx hb dX5_comesFrom_61 (by decide) (fun c_8 => ?_) (fun c_8 => ?_)
          · have hF := (if_neg c_8).symm.trans hF
            have c_8 : ¬ v8_21.toInt = y7.toInt := il_ne c_8
            refine lv_aload_n hx hb dX5_comesFrom_82 rfl (lv_at hl 3 rfl) ?_
            refine lv_aload_n hx hb dX5_comesFrom_83 rfl (lv_at hl 4 rfl) ?_
            refine lv_iload hx hb dX5_comesFrom_84 (lv_at hl 0 rfl) ?_
            refine lv_iload hx hb dX5_comesFrom_86 (lv_at hl 1 rfl) ?_
            refine lv_iload hx hb dX5_comesFrom_88 (lv_at hl 7 rfl) ?_
            refine lv_iconst (v := 1) hx hb dX5_comesFrom_90 (by decide) ?_
            refine lv_iload hx hb dX5_comesFrom_91 (lv_at hl 0 rfl) ?_
            refine lv_ishl hx hb dX5_comesFrom_93 ?_
            refine lv_topi (fun t9 et9 => ?_)
            have hF := mi_let hF et9
            refine lv_ior hx hb dX5_comesFrom_94 ?_
            refine lv_topi (fun t10 et10 => ?_)
            have hF := mi_let hF et10
            refine lv_iload hx hb dX5_comesFrom_95 (lv_at hl 2 rfl) ?_
            refine cr_i (va_runV (As := [.ref (ad 4), .int v8_21, .int 6, .int t10, .int r2]) (rest := []) ⟨hx, hb, hml, hown, hts⟩ (sx_comesFrom6 l dC dI cs ad mu ok s.heap hP v8_21 t10 r2 (by have h52 : (6 : Int32).toInt = 6 := rfl; omega)) (cwV 5 hts (wU_V mw_4_106 mw_4_103 mw_4_105 mw_0_18 mw_1_8) rfl rfl rfl (by decide +kernel) ⟨Nat.le_of_ble_eq_true rfl, Nat.le_of_ble_eq_true rfl⟩) ⟨sz_c, va_recv hK hP (ci := 5) (q0 := 32) rfl (gX_32 cs ad mu), sz_m hK hz⟩ rfl rfl hl.1 rfl (lv_room (Nat.le_of_ble_eq_true rfl)) dX5_comesFrom_97 ⟨Nat.zero_le _, Nat.zero_le _⟩) hS (fun r11 hw11 locs hS => ?_)
            obtain ⟨hfe11, hw11⟩ := hw11
            have hF := mi_let hF hfe11
            have gr11 : 0 ≤ r11.toInt ∧ r11.toInt ≤ 1 := hw11
            refine lv_if_eq (tgt := 105) hx hb dX5_comesFrom_100 (by decide) (fun c_12 => ?_) (fun c_12 => ?_)
            · have hF := (if_pos c_12).symm.trans hF
              have c_12 : r11.toInt = 0 := il_eq c_12
              refine lv_iinc (v := (v8_21 + 1)) (lv' := [(8, .int (v8_21 + 1)), (7, .int 6), (6, .int r2), (0, .ref (ad 32)), (1, .ref (ad 4)), (2, .int vx), (3, .int 5), (4, .int vu), (5, .int vp)]) hx hb dX5_comesFrom_105 hl (k := 0) rfl rfl (by decide) rfl (fun ls hl => ?_)
              refine loc_gen (P := fun w9 => lv_has ls 9 [(8, .int w9), (7, .int 6), (6, .int r2), (0, .ref (ad 32)), (1, .ref (ad 4)), (2, .int vx), (3, .int 5), (4, .int vu), (5, .int vp)]) (v8_21 + 1) hl (fun w13 hw13 hl => ?_)
              have hl : lv_has ls 9 [(8, .int w13), (7, .int 6), (6, .int r2), (0, .ref (ad 32)), (1, .ref (ad 4)), (2, .int vx), (3, .int 5), (4, .int vu), (5, .int vp)] := hl
              have hF := mi_let hF hw13.symm
              have aw13 : w13.toInt = v8_21.toInt + 1 := by rw [← hw13]; first | exact va1 (Int.lt_of_le_of_lt h_v8_21.2 (by decide)) | exact va1 (by omega)
              refine lv_goto (tgt := 21) hx hb dX5_comesFrom_108 (by decide) ?_
              exact ih21 (w13)  _ _ (by first | exact ms_up hm_21 aw13 h_v8_21.2 | exact ms_lt hm_21 (by omega) (by omega) | omega) (by first | exact rg_up aw13 h_v8_21 (by omega) | omega)   hF hS (lv_sub hl [0, 1, 2, 3, 4, 5, 6, 7, 8] rfl)
            · have hF := (if_neg c_12).symm.trans hF
              have c_12 : ¬ r11.toInt = 0 := il_ne c_12
              refine lv_iconst (v := 1) hx hb dX5_comesFrom_103 (by decide) ?_
              exact W.zret (v := 1) (ty := .boolean) hx hb hr (by first | rfl | decide) (fun t ht hW => ⟨⟨1, (), rfl, ⟨hF.trans hfz.symm, (by have h6 : (1 : Int32).toInt = 1 := rfl; omega)⟩, ht⟩, hS.F ht⟩) hS.2.2 dX5_comesFrom_104
          · have hF := (if_pos c_8).symm.trans hF
            have c_8 : v8_21.toInt = y7.toInt := il_eq c_8
            refine lv_aload_n hx hb dX5_comesFrom_64 rfl (lv_at hl 3 rfl) ?_
            refine lv_iload hx hb dX5_comesFrom_65 (lv_at hl 1 rfl) ?_
            refine lv_iload hx hb dX5_comesFrom_67 (lv_at hl 2 rfl) ?_
            refine cr_i (va_runV (As := [.int 6, .int r2]) (rest := []) ⟨hx, hb, hml, hown, hts⟩ (sx_needFor l dC dI cs ad mu ok s.heap hP 6 r2) (cwV 2 hts (wU_V mw_4_48 mw_4_45 mw_4_47 mw_0_16 mw_1_8) rfl rfl rfl (by decide +kernel) ⟨Nat.le_of_ble_eq_true rfl, Nat.le_of_ble_eq_true rfl⟩) ⟨sz_c, va_recv hK hP (ci := 5) (q0 := 32) rfl (gX_32 cs ad mu), sz_m hK hz⟩ rfl rfl hl.1 rfl (lv_room (Nat.le_of_ble_eq_true rfl)) dX5_comesFrom_69 ⟨Nat.zero_le _, Nat.zero_le _⟩) hS (fun r14 hw14 locs hS => ?_)
            obtain ⟨hfe14, hw14⟩ := hw14
            have hF := mi_let hF hfe14
            refine lv_aload_n hx hb dX5_comesFrom_72 rfl (lv_at hl 3 rfl) ?_
            refine va_get (D := (dC, dI)) (ci := 5) (v := .int (mu 32 8)) (C := RX5) (T := TX5) (N := 15) hx hb hts inG5 hown hK hP 32 (gX_32 cs ad mu) rfl 8 (by decide) (hts _ (List.mem_cons_of_mem _ mw_2_56)) (fun _ h9 => h9) rfl dX5_comesFrom_73 ?_
            refine lv_topi (fun y15 ey15 => ?_)
            have hF := mi_let hF ey15
            have by15 : y15.toInt = (mu 32 8).toInt := congrArg Int32.toInt ey15
            refine lv_icmp_gt (tgt := 105) hx hb dX5_comesFrom_76 (by decide) (fun c_16 => ?_) (fun c_16 => ?_)
            · have hF := (if_pos c_16).symm.trans hF
              have c_16 : y15.toInt < r14.toInt := il_lt c_16
              refine lv_iinc (v := (v8_21 + 1)) (lv' := [(8, .int (v8_21 + 1)), (7, .int 6), (6, .int r2), (0, .ref (ad 32)), (1, .ref (ad 4)), (2, .int vx), (3, .int 5), (4, .int vu), (5, .int vp)]) hx hb dX5_comesFrom_105 hl (k := 0) rfl rfl (by decide) rfl (fun ls hl => ?_)
              refine loc_gen (P := fun w9 => lv_has ls 9 [(8, .int w9), (7, .int 6), (6, .int r2), (0, .ref (ad 32)), (1, .ref (ad 4)), (2, .int vx), (3, .int 5), (4, .int vu), (5, .int vp)]) (v8_21 + 1) hl (fun w17 hw17 hl => ?_)
              have hl : lv_has ls 9 [(8, .int w17), (7, .int 6), (6, .int r2), (0, .ref (ad 32)), (1, .ref (ad 4)), (2, .int vx), (3, .int 5), (4, .int vu), (5, .int vp)] := hl
              have hF := mi_let hF hw17.symm
              have aw17 : w17.toInt = v8_21.toInt + 1 := by rw [← hw17]; first | exact va1 (Int.lt_of_le_of_lt h_v8_21.2 (by decide)) | exact va1 (by omega)
              refine lv_goto (tgt := 21) hx hb dX5_comesFrom_108 (by decide) ?_
              exact ih21 (w17)  _ _ (by first | exact ms_up hm_21 aw17 h_v8_21.2 | exact ms_lt hm_21 (by omega) (by omega) | omega) (by first | exact rg_up aw17 h_v8_21 (by omega) | omega)   hF hS (lv_sub hl [0, 1, 2, 3, 4, 5, 6, 7, 8] rfl)
            · have hF := (if_neg c_16).symm.trans hF
              have c_16 : r14.toInt ≤ y15.toInt := il_nlt c_16
              refine lv_goto (tgt := 103) hx hb dX5_comesFrom_79 (by decide) ?_
              refine lv_iconst (v := 1) hx hb dX5_comesFrom_103 (by decide) ?_
              exact W.zret (v := 1) (ty := .boolean) hx hb hr (by first | rfl | decide) (fun t ht hW => ⟨⟨1, (), rfl, ⟨hF.trans hfz.symm, (by have h6 : (1 : Int32).toInt = 1 := rfl; omega)⟩, ht⟩, hS.F ht⟩) hS.2.2 dX5_comesFrom_104
        · have hF := (if_pos c_6).symm.trans hF
          have c_6 : r5.toInt = 0 := il_eq c_6
          refine lv_goto (tgt := 105) hx hb dX5_comesFrom_52 (by decide) ?_
          refine lv_iinc (v := (v8_21 + 1)) (lv' := [(8, .int (v8_21 + 1)), (7, .int 6), (6, .int r2), (0, .ref (ad 32)), (1, .ref (ad 4)), (2, .int vx), (3, .int 5), (4, .int vu), (5, .int vp)]) hx hb dX5_comesFrom_105 hl (k := 0) rfl rfl (by decide) rfl (fun ls hl => ?_)
          refine loc_gen (P := fun w9 => lv_has ls 9 [(8, .int w9), (7, .int 6), (6, .int r2), (0, .ref (ad 32)), (1, .ref (ad 4)), (2, .int vx), (3, .int 5), (4, .int vu), (5, .int vp)]) (v8_21 + 1) hl (fun w18 hw18 hl => ?_)
          have hl : lv_has ls 9 [(8, .int w18), (7, .int 6), (6, .int r2), (0, .ref (ad 32)), (1, .ref (ad 4)), (2, .int vx), (3, .int 5), (4, .int vu), (5, .int vp)] := hl
          have hF := mi_let hF hw18.symm
          have aw18 : w18.toInt = v8_21.toInt + 1 := by rw [← hw18]; first | exact va1 (Int.lt_of_le_of_lt h_v8_21.2 (by decide)) | exact va1 (by omega)
          refine lv_goto (tgt := 21) hx hb dX5_comesFrom_108 (by decide) ?_
          exact ih21 (w18)  _ _ (by first | exact ms_up hm_21 aw18 h_v8_21.2 | exact ms_lt hm_21 (by omega) (by omega) | omega) (by first | exact rg_up aw18 h_v8_21 (by omega) | omega)   hF hS (lv_sub hl [0, 1, 2, 3, 4, 5, 6, 7, 8] rfl)
  exact loop21 10 (0)  _ _ (by have h80 : (0 : Int32).toInt = 0 := rfl; omega) (by have h80 : (0 : Int32).toInt = 0 := rfl; exact ⟨by omega, by omega⟩)   hF hS hl
set_option maxHeartbeats 4000000 in
set_option maxRecDepth 100000 in
/-- sx_comesFrom4 -/
theorem sx_comesFrom4 (l : Launch) (dC : Nat → ClassId) (dI : Nat → Nat → Nat) (cs : Nat → ClassId) (ad : Nat → Nat) (mu : Nat → Nat → Int32) (ok : okR loX hiX mu) (H : Heap) (hP : va_P (dC, dI) vwCl (wR 157 ad (EX cs ad) mu) H) (vx : Int32) (vu : Int32) (vp : Int32) (hin0 : 0 ≤ vx.toInt ∧ vx.toInt ≤ 6) : Met l yX5_comesFrom (wU yX5_comesFrom cX5_comesFrom 9 (some .boolean)) ({ frames := 3, cells := 0, slots := 0, locals := 77 }) (va_Pc [.ref (ad 32), .ref (ad 4), .int vx, .int 4, .int vu, .int vp] (sz_P (dC, dI) vwCl (tyW cs) H)) (va_Qi (fun (z : Int32) (_ : Unit) => z = F_sx_comesFrom4 mu vx vu vp ∧ (0 ≤ z.toInt ∧ z.toInt ≤ 1)) (fun _ t => t.heap = H) (fun _ => False)) 0 0 (fun _ => False) := by
  refine Met.ofW (cc := cX5_comesFrom) (maxL := 9) (ret := (some .boolean)) (by decide) rfl ?_
  intro p e s m args below meth c s₁ B hml hv
  obtain ⟨rfl, hh, hK, hz⟩ := hv
  have hx := B.exec
  have hb := B.bytes
  have hr := B.returns
  have hts := atoms_spec (ws := (wU yX5_comesFrom cX5_comesFrom 9 (some .boolean))) B.pre
  have hown : s.vm.findClass RX5 = some m.cls := findClass_of_methodNamed B.named
  have hlocks := B.notSynchronized
  subst hh
  have hS : va_S (fun _ => False) s.heap s.heap [] := va_S.rf
  have hl := lv_entry ([.ref (ad 32), .ref (ad 4), .int vx, .int 4, .int vu, .int vp]) (n := 9) (Nat.le_of_ble_eq_true rfl)
  rw [lg_entry_eq]
  generalize (lg_sl ([.ref (ad 32), .ref (ad 4), .int vx, .int 4, .int vu, .int vp]) ++ List.replicate (9 - (lg_sl ([.ref (ad 32), .ref (ad 4), .int vx, .int 4, .int vu, .int vp])).length) Slot.unset).toArray = ls at hl ⊢
  have hl : lv_has ls 9 [(0, .ref (ad 32)), (1, .ref (ad 4)), (2, .int vx), (3, .int 4), (4, .int vu), (5, .int vp)] := hl
  obtain ⟨fz, hfz⟩ : ∃ z, F_sx_comesFrom4 mu vx vu vp = z := ⟨_, rfl⟩
  have hF := hfz
  unfold F_sx_comesFrom4 at hF
  refine lv_aload_n hx hb dX5_comesFrom_0 rfl (lv_at hl 1 rfl) ?_
  refine va_get (D := (dC, dI)) (ci := 10) (v := .ref (ad 34)) (C := RX10) (T := TX10) (N := 8) hx hb hts inG10 hown hK hP 4 (gX_4 cs ad mu) rfl 0 (by decide) (hts _ (List.mem_cons_of_mem _ mw_1_146)) (fun _ h9 => h9) rfl dX5_comesFrom_1 ?_
  refine lv_iload_n hx hb dX5_comesFrom_4 rfl (lv_at hl 2 rfl) ?_
  refine va_iald hx hb hK hP 34 0 (gX_34 cs ad mu) rfl (show vp_in vx 7 from vi_of (by omega) (by omega)) dX5_comesFrom_5 ?_
  refine lv_topi (fun y1 ey1 => ?_)
  have hF := mi_let hF ey1
  have by1 : y1.toInt = (mu 34 vx.toNatClampNeg).toInt := congrArg Int32.toInt ey1
  refine lv_iload hx hb dX5_comesFrom_6 (lv_at hl 5 rfl) ?_
  refine cr_i (va_runSN (As := [.int y1, .int vp]) (rest := []) ⟨hx, hb, hml, hown, hts⟩ (sx_priceAsked l dC dI (tyW cs) s.heap y1 vp) ⟨va_cnB 2 hts (wU_in mw_3_107) rfl rfl rfl (hz.2.2.2.2.2.2.2.2.2.2.2.2.2.1) (hts _ (List.mem_cons_of_mem _ mw_1_1)) (by decide +kernel) ⟨Nat.le_of_ble_eq_true rfl, Nat.le_of_ble_eq_true rfl⟩, (hts _ (List.mem_cons_of_mem _ mw_3_106)), trivial⟩ ⟨sz_c, sz_m hK hz⟩ rfl rfl hl.1 rfl (lv_room (Nat.le_of_ble_eq_true rfl)) dX5_comesFrom_8 ⟨Nat.zero_le _, Nat.zero_le _⟩) hS (fun r2 hw2 locs hS => ?_)
  obtain ⟨hfe2, hw2⟩ := hw2
  have hF := mi_let hF hfe2
  refine lv_istore (lv' := [(6, .int r2), (0, .ref (ad 32)), (1, .ref (ad 4)), (2, .int vx), (3, .int 4), (4, .int vu), (5, .int vp)]) hx hb dX5_comesFrom_11 hl (by decide) rfl (fun ls hl => ?_)
  refine lv_iload_n hx hb dX5_comesFrom_13 rfl (lv_at hl 4 rfl) ?_
  refine lv_iconst (v := 1) hx hb dX5_comesFrom_14 (by decide) ?_
  refine lv_iadd hx hb dX5_comesFrom_15 ?_
  refine lq_i 5 (by decide) ?_
  refine lv_istore (lv' := [(7, .int 5), (6, .int r2), (0, .ref (ad 32)), (1, .ref (ad 4)), (2, .int vx), (3, .int 4), (4, .int vu), (5, .int vp)]) hx hb dX5_comesFrom_16 hl (by decide) rfl (fun ls hl => ?_)
  refine lv_iconst (v := 0) hx hb dX5_comesFrom_18 (by decide) ?_
  refine lv_istore (lv' := [(8, .int 0), (7, .int 5), (6, .int r2), (0, .ref (ad 32)), (1, .ref (ad 4)), (2, .int vx), (3, .int 4), (4, .int vu), (5, .int vp)]) hx hb dX5_comesFrom_19 hl (by decide) rfl (fun ls hl => ?_)
  have loop21 : ∀ (n21 : Nat) (v8_21 : Int32) (locs : List Loc) (ls : Array Slot), (7 + 1 - v8_21.toInt).toNat < n21 → (0 ≤ v8_21.toInt ∧ v8_21.toInt ≤ 7) → L_sx_comesFrom4_21_0 mu r2 vu vx n21 v8_21 = fz → va_S (fun _ => False) s.heap s.heap locs → lv_has ls 9 [(8, .int v8_21), (7, .int 5), (6, .int r2), (0, .ref (ad 32)), (1, .ref (ad 4)), (2, .int vx), (3, .int 4), (4, .int vu), (5, .int vp)] → W p l e (headSpec (wU yX5_comesFrom cX5_comesFrom 9 (some .boolean)) ({ frames := 3, cells := 0, slots := 0, locals := 77 })).room s m ([.ref (ad 32), .ref (ad 4), .int vx, .int 4, .int vu, .int vp] : List Value).toArray below meth c s.heap locs 0 0 (MQ below (va_Qi (fun (z : Int32) (_ : Unit) => z = F_sx_comesFrom4 mu vx vu vp ∧ (0 ≤ z.toInt ∧ z.toInt ≤ 1)) (fun _ t => t.heap = s.heap) (fun _ => False)) ([.ref (ad 32), .ref (ad 4), .int vx, .int 4, .int vu, .int vp] : List Value).toArray s 0 0 (fun _ => False)) (F0 m 21 ls []) := by
    intro n21
    induction n21 with
    | zero => intro v8_21 locs ls hm; exact absurd hm (Nat.not_lt_zero _)
    | succ n21 ih21 =>
      intro v8_21 locs ls hm_21 h_v8_21 hF hS hl
      rw [L_sx_comesFrom4_21_0] at hF
      refine lv_iload hx hb dX5_comesFrom_21 (lv_at hl 0 rfl) ?_
      refine lv_aload_n hx hb dX5_comesFrom_23 rfl (lv_at hl 4 rfl) ?_
      refine va_get (D := (dC, dI)) (ci := 10) (v := .int (mu 4 6)) (C := RX10) (T := TX10) (N := 8) hx hb hts inG10 hown hK hP 4 (gX_4 cs ad mu) rfl 6 (by decide) (hts _ (List.mem_cons_of_mem _ mw_1_162)) (fun _ h9 => h9) rfl dX5_comesFrom_24 ?_
      refine lv_topi (fun y3 ey3 => ?_)
      have hF := mi_let hF ey3
      have by3 : y3.toInt = (mu 4 6).toInt := congrArg Int32.toInt ey3
      have gy3 : 0 ≤ y3.toInt ∧ y3.toInt ≤ 7 := by rw [ey3]; exact rX_4_6 ok
      refine lv_icmp_ge (tgt := 111) hx hb dX5_comesFrom_27 (by decide) (fun c_4 => ?_) (fun c_4 => ?_)
      · have hF := (if_pos c_4).symm.trans hF
        have c_4 : y3.toInt ≤ v8_21.toInt := il_le c_4
        refine lv_iconst (v := 0) hx hb dX5_comesFrom_111 (by decide) ?_
        exact W.zret (v := 0) (ty := .boolean) hx hb hr (by first | rfl | decide) (fun t ht hW => ⟨⟨0, (), rfl, ⟨hF.trans hfz.symm, (by have h6 : (0 : Int32).toInt = 0 := rfl; omega)⟩, ht⟩, hS.F ht⟩) hS.2.2 dX5_comesFrom_112
      · have hF := (if_neg c_4).symm.trans hF
        have c_4 : v8_21.toInt < y3.toInt := il_nle c_4
        refine lv_iload hx hb dX5_comesFrom_30 (lv_at hl 1 rfl) ?_
        refine lv_bipush (v := 7) hx hb dX5_comesFrom_32 (by decide) ?_
        refine lv_icmp_ge (tgt := 111) hx hb dX5_comesFrom_34 (by decide) (fun c => absurd c (by decide)) (fun _ => ?_)
        refine lv_aload_n hx hb dX5_comesFrom_37 rfl (lv_at hl 3 rfl) ?_
        refine lv_aload_n hx hb dX5_comesFrom_38 rfl (lv_at hl 4 rfl) ?_
        refine lv_iload_n hx hb dX5_comesFrom_39 rfl (lv_at hl 5 rfl) ?_
        refine lv_iload hx hb dX5_comesFrom_40 (lv_at hl 0 rfl) ?_
        refine lv_iload hx hb dX5_comesFrom_42 (lv_at hl 7 rfl) ?_
        refine lv_iload hx hb dX5_comesFrom_44 (lv_at hl 2 rfl) ?_
        refine cr_i (va_runV (As := [.ref (ad 4), .int vx, .int v8_21, .int vu, .int r2]) (rest := []) ⟨hx, hb, hml, hown, hts⟩ (sx_buys l dC dI cs ad mu ok s.heap hP vx v8_21 vu r2 (by omega)) (cwV 5 hts (wU_V mw_4_34 mw_4_31 mw_4_33 mw_0_14 mw_1_8) rfl rfl rfl (by decide +kernel) ⟨Nat.le_of_ble_eq_true rfl, Nat.le_of_ble_eq_true rfl⟩) ⟨sz_c, va_recv hK hP (ci := 5) (q0 := 32) rfl (gX_32 cs ad mu), sz_m hK hz⟩ rfl rfl hl.1 rfl (lv_room (Nat.le_of_ble_eq_true rfl)) dX5_comesFrom_46 ⟨Nat.zero_le _, Nat.zero_le _⟩) hS (fun r5 hw5 locs hS => ?_)
        obtain ⟨hfe5, hw5⟩ := hw5
        have hF := mi_let hF hfe5
        have gr5 : 0 ≤ r5.toInt ∧ r5.toInt ≤ 1 := hw5
        refine lv_if_ne (tgt := 55) hx hb dX5_comesFrom_49 (by decide) (fun c_6 => ?_) (fun c_6 => ?_)
        · have hF := (if_neg c_6).symm.trans hF
          have c_6 : ¬ r5.toInt = 0 := il_ne c_6
          refine lv_iload hx hb dX5_comesFrom_55 (lv_at hl 0 rfl) ?_
          refine lv_aload_n hx hb dX5_comesFrom_57 rfl (lv_at hl 3 rfl) ?_
          refine va_get (D := (dC, dI)) (ci := 5) (v := .int (mu 32 6)) (C := RX5) (T := TX5) (N := 15) hx hb hts inG5 hown hK hP 32 (gX_32 cs ad mu) rfl 6 (by decide) (hts _ (List.mem_cons_of_mem _ mw_2_54)) (fun _ h9 => h9) rfl dX5_comesFrom_58 ?_
          refine lv_topi (fun y7 ey7 => ?_)
          have hF := mi_let hF ey7
          have by7 : y7.toInt = (mu 32 6).toInt := congrArg Int32.toInt ey7
          have gy7 : 0 ≤ y7.toInt ∧ y7.toInt ≤ 6 := by rw [ey7]; exact rX_32_6 ok
          refine lv_icmp_ne (tgt := 82) hx hb dX5_comesFrom_61 (by decide) (fun c_8 => ?_) (fun c_8 => ?_)
          · have hF := (if_neg c_8).symm.trans hF
            have c_8 : ¬ v8_21.toInt = y7.toInt := il_ne c_8
            refine lv_aload_n hx hb dX5_comesFrom_82 rfl (lv_at hl 3 rfl) ?_
            refine lv_aload_n hx hb dX5_comesFrom_83 rfl (lv_at hl 4 rfl) ?_
            refine lv_iload hx hb dX5_comesFrom_84 (lv_at hl 0 rfl) ?_
            refine lv_iload hx hb dX5_comesFrom_86 (lv_at hl 1 rfl) ?_
            refine lv_iload hx hb dX5_comesFrom_88 (lv_at hl 7 rfl) ?_
            refine lv_iconst (v := 1) hx hb dX5_comesFrom_90 (by decide) ?_
            refine lv_iload hx hb dX5_comesFrom_91 (lv_at hl 0 rfl) ?_
            refine lv_ishl hx hb dX5_comesFrom_93 ?_
            refine lv_topi (fun t9 et9 => ?_)
            have hF := mi_let hF et9
            refine lv_ior hx hb dX5_comesFrom_94 ?_
            refine lv_topi (fun t10 et10 => ?_)
            have hF := mi_let hF et10
            refine lv_iload hx hb dX5_comesFrom_95 (lv_at hl 2 rfl) ?_
            refine cr_i (va_runV (As := [.ref (ad 4), .int v8_21, .int 5, .int t10, .int r2]) (rest := []) ⟨hx, hb, hml, hown, hts⟩ (sx_comesFrom5 l dC dI cs ad mu ok s.heap hP v8_21 t10 r2 (by have h52 : (5 : Int32).toInt = 5 := rfl; omega)) (cwV 5 hts (wU_V mw_4_106 mw_4_103 mw_4_105 mw_0_18 mw_1_8) rfl rfl rfl (by decide +kernel) ⟨Nat.le_of_ble_eq_true rfl, Nat.le_of_ble_eq_true rfl⟩) ⟨sz_c, va_recv hK hP (ci := 5) (q0 := 32) rfl (gX_32 cs ad mu), sz_m hK hz⟩ rfl rfl hl.1 rfl (lv_room (Nat.le_of_ble_eq_true rfl)) dX5_comesFrom_97 ⟨Nat.zero_le _, Nat.zero_le _⟩) hS (fun r11 hw11 locs hS => ?_)
            obtain ⟨hfe11, hw11⟩ := hw11
            have hF := mi_let hF hfe11
            have gr11 : 0 ≤ r11.toInt ∧ r11.toInt ≤ 1 := hw11
            refine lv_if_eq (tgt := 105) hx hb dX5_comesFrom_100 (by decide) (fun c_12 => ?_) (fun c_12 => ?_)
            · have hF := (if_pos c_12).symm.trans hF
              have c_12 : r11.toInt = 0 := il_eq c_12
              refine lv_iinc (v := (v8_21 + 1)) (lv' := [(8, .int (v8_21 + 1)), (7, .int 5), (6, .int r2), (0, .ref (ad 32)), (1, .ref (ad 4)), (2, .int vx), (3, .int 4), (4, .int vu), (5, .int vp)]) hx hb dX5_comesFrom_105 hl (k := 0) rfl rfl (by decide) rfl (fun ls hl => ?_)
              refine loc_gen (P := fun w9 => lv_has ls 9 [(8, .int w9), (7, .int 5), (6, .int r2), (0, .ref (ad 32)), (1, .ref (ad 4)), (2, .int vx), (3, .int 4), (4, .int vu), (5, .int vp)]) (v8_21 + 1) hl (fun w13 hw13 hl => ?_)
              have hl : lv_has ls 9 [(8, .int w13), (7, .int 5), (6, .int r2), (0, .ref (ad 32)), (1, .ref (ad 4)), (2, .int vx), (3, .int 4), (4, .int vu), (5, .int vp)] := hl
              have hF := mi_let hF hw13.symm
              have aw13 : w13.toInt = v8_21.toInt + 1 := by rw [← hw13]; first | exact va1 (Int.lt_of_le_of_lt h_v8_21.2 (by decide)) | exact va1 (by omega)
              refine lv_goto (tgt := 21) hx hb dX5_comesFrom_108 (by decide) ?_
              exact ih21 (w13)  _ _ (by first | exact ms_up hm_21 aw13 h_v8_21.2 | exact ms_lt hm_21 (by omega) (by omega) | omega) (by first | exact rg_up aw13 h_v8_21 (by omega) | omega)   hF hS (lv_sub hl [0, 1, 2, 3, 4, 5, 6, 7, 8] rfl)
            · have hF := (if_neg c_12).symm.trans hF
              have c_12 : ¬ r11.toInt = 0 := il_ne c_12
              refine lv_iconst (v := 1) hx hb dX5_comesFrom_103 (by decide) ?_
              exact W.zret (v := 1) (ty := .boolean) hx hb hr (by first | rfl | decide) (fun t ht hW => ⟨⟨1, (), rfl, ⟨hF.trans hfz.symm, (by have h6 : (1 : Int32).toInt = 1 := rfl; omega)⟩, ht⟩, hS.F ht⟩) hS.2.2 dX5_comesFrom_104
          · have hF := (if_pos c_8).symm.trans hF
            have c_8 : v8_21.toInt = y7.toInt := il_eq c_8
            refine lv_aload_n hx hb dX5_comesFrom_64 rfl (lv_at hl 3 rfl) ?_
            refine lv_iload hx hb dX5_comesFrom_65 (lv_at hl 1 rfl) ?_
            refine lv_iload hx hb dX5_comesFrom_67 (lv_at hl 2 rfl) ?_
            refine cr_i (va_runV (As := [.int 5, .int r2]) (rest := []) ⟨hx, hb, hml, hown, hts⟩ (sx_needFor l dC dI cs ad mu ok s.heap hP 5 r2) (cwV 2 hts (wU_V mw_4_48 mw_4_45 mw_4_47 mw_0_16 mw_1_8) rfl rfl rfl (by decide +kernel) ⟨Nat.le_of_ble_eq_true rfl, Nat.le_of_ble_eq_true rfl⟩) ⟨sz_c, va_recv hK hP (ci := 5) (q0 := 32) rfl (gX_32 cs ad mu), sz_m hK hz⟩ rfl rfl hl.1 rfl (lv_room (Nat.le_of_ble_eq_true rfl)) dX5_comesFrom_69 ⟨Nat.zero_le _, Nat.zero_le _⟩) hS (fun r14 hw14 locs hS => ?_)
            obtain ⟨hfe14, hw14⟩ := hw14
            have hF := mi_let hF hfe14
            refine lv_aload_n hx hb dX5_comesFrom_72 rfl (lv_at hl 3 rfl) ?_
            refine va_get (D := (dC, dI)) (ci := 5) (v := .int (mu 32 8)) (C := RX5) (T := TX5) (N := 15) hx hb hts inG5 hown hK hP 32 (gX_32 cs ad mu) rfl 8 (by decide) (hts _ (List.mem_cons_of_mem _ mw_2_56)) (fun _ h9 => h9) rfl dX5_comesFrom_73 ?_
            refine lv_topi (fun y15 ey15 => ?_)
            have hF := mi_let hF ey15
            have by15 : y15.toInt = (mu 32 8).toInt := congrArg Int32.toInt ey15
            refine lv_icmp_gt (tgt := 105) hx hb dX5_comesFrom_76 (by decide) (fun c_16 => ?_) (fun c_16 => ?_)
            · have hF := (if_pos c_16).symm.trans hF
              have c_16 : y15.toInt < r14.toInt := il_lt c_16
              refine lv_iinc (v := (v8_21 + 1)) (lv' := [(8, .int (v8_21 + 1)), (7, .int 5), (6, .int r2), (0, .ref (ad 32)), (1, .ref (ad 4)), (2, .int vx), (3, .int 4), (4, .int vu), (5, .int vp)]) hx hb dX5_comesFrom_105 hl (k := 0) rfl rfl (by decide) rfl (fun ls hl => ?_)
              refine loc_gen (P := fun w9 => lv_has ls 9 [(8, .int w9), (7, .int 5), (6, .int r2), (0, .ref (ad 32)), (1, .ref (ad 4)), (2, .int vx), (3, .int 4), (4, .int vu), (5, .int vp)]) (v8_21 + 1) hl (fun w17 hw17 hl => ?_)
              have hl : lv_has ls 9 [(8, .int w17), (7, .int 5), (6, .int r2), (0, .ref (ad 32)), (1, .ref (ad 4)), (2, .int vx), (3, .int 4), (4, .int vu), (5, .int vp)] := hl
              have hF := mi_let hF hw17.symm
              have aw17 : w17.toInt = v8_21.toInt + 1 := by rw [← hw17]; first | exact va1 (Int.lt_of_le_of_lt h_v8_21.2 (by decide)) | exact va1 (by omega)
              refine lv_goto (tgt := 21) hx hb dX5_comesFrom_108 (by decide) ?_
              exact ih21 (w17)  _ _ (by first | exact ms_up hm_21 aw17 h_v8_21.2 | exact ms_lt hm_21 (by omega) (by omega) | omega) (by first | exact rg_up aw17 h_v8_21 (by omega) | omega)   hF hS (lv_sub hl [0, 1, 2, 3, 4, 5, 6, 7, 8] rfl)
            · have hF := (if_neg c_16).symm.trans hF
              have c_16 : r14.toInt ≤ y15.toInt := il_nlt c_16
              refine lv_goto (tgt := 103) hx hb dX5_comesFrom_79 (by decide) ?_
              refine lv_iconst (v := 1) hx hb dX5_comesFrom_103 (by decide) ?_
              exact W.zret (v := 1) (ty := .boolean) hx hb hr (by first | rfl | decide) (fun t ht hW => ⟨⟨1, (), rfl, ⟨hF.trans hfz.symm, (by have h6 : (1 : Int32).toInt = 1 := rfl; omega)⟩, ht⟩, hS.F ht⟩) hS.2.2 dX5_comesFrom_104
        · have hF := (if_pos c_6).symm.trans hF
          have c_6 : r5.toInt = 0 := il_eq c_6
          refine lv_goto (tgt := 105) hx hb dX5_comesFrom_52 (by decide) ?_
          refine lv_iinc (v := (v8_21 + 1)) (lv' := [(8, .int (v8_21 + 1)), (7, .int 5), (6, .int r2), (0, .ref (ad 32)), (1, .ref (ad 4)), (2, .int vx), (3, .int 4), (4, .int vu), (5, .int vp)]) hx hb dX5_comesFrom_105 hl (k := 0) rfl rfl (by decide) rfl (fun ls hl => ?_)
          refine loc_gen (P := fun w9 => lv_has ls 9 [(8, .int w9), (7, .int 5), (6, .int r2), (0, .ref (ad 32)), (1, .ref (ad 4)), (2, .int vx), (3, .int 4), (4, .int vu), (5, .int vp)]) (v8_21 + 1) hl (fun w18 hw18 hl => ?_)
          have hl : lv_has ls 9 [(8, .int w18), (7, .int 5), (6, .int r2), (0, .ref (ad 32)), (1, .ref (ad 4)), (2, .int vx), (3, .int 4), (4, .int vu), (5, .int vp)] := hl
          have hF := mi_let hF hw18.symm
          have aw18 : w18.toInt = v8_21.toInt + 1 := by rw [← hw18]; first | exact va1 (Int.lt_of_le_of_lt h_v8_21.2 (by decide)) | exact va1 (by omega)
          refine lv_goto (tgt := 21) hx hb dX5_comesFrom_108 (by decide) ?_
          exact ih21 (w18)  _ _ (by first | exact ms_up hm_21 aw18 h_v8_21.2 | exact ms_lt hm_21 (by omega) (by omega) | omega) (by first | exact rg_up aw18 h_v8_21 (by omega) | omega)   hF hS (lv_sub hl [0, 1, 2, 3, 4, 5, 6, 7, 8] rfl)
  exact loop21 10 (0)  _ _ (by have h80 : (0 : Int32).toInt = 0 := rfl; omega) (by have h80 : (0 : Int32).toInt = 0 := rfl; exact ⟨by omega, by omega⟩)   hF hS hl
set_option maxHeartbeats 4000000 in
set_option maxRecDepth 100000 in
/-- sx_comesFrom3 -/
theorem sx_comesFrom3 (l : Launch) (dC : Nat → ClassId) (dI : Nat → Nat → Nat) (cs : Nat → ClassId) (ad : Nat → Nat) (mu : Nat → Nat → Int32) (ok : okR loX hiX mu) (H : Heap) (hP : va_P (dC, dI) vwCl (wR 157 ad (EX cs ad) mu) H) (vx : Int32) (vu : Int32) (vp : Int32) (hin0 : 0 ≤ vx.toInt ∧ vx.toInt ≤ 6) : Met l yX5_comesFrom (wU yX5_comesFrom cX5_comesFrom 9 (some .boolean)) ({ frames := 4, cells := 0, slots := 0, locals := 105 }) (va_Pc [.ref (ad 32), .ref (ad 4), .int vx, .int 3, .int vu, .int vp] (sz_P (dC, dI) vwCl (tyW cs) H)) (va_Qi (fun (z : Int32) (_ : Unit) => z = F_sx_comesFrom3 mu vx vu vp ∧ (0 ≤ z.toInt ∧ z.toInt ≤ 1)) (fun _ t => t.heap = H) (fun _ => False)) 0 0 (fun _ => False) := by
  refine Met.ofW (cc := cX5_comesFrom) (maxL := 9) (ret := (some .boolean)) (by decide) rfl ?_
  intro p e s m args below meth c s₁ B hml hv
  obtain ⟨rfl, hh, hK, hz⟩ := hv
  have hx := B.exec
  have hb := B.bytes
  have hr := B.returns
  have hts := atoms_spec (ws := (wU yX5_comesFrom cX5_comesFrom 9 (some .boolean))) B.pre
  have hown : s.vm.findClass RX5 = some m.cls := findClass_of_methodNamed B.named
  have hlocks := B.notSynchronized
  subst hh
  have hS : va_S (fun _ => False) s.heap s.heap [] := va_S.rf
  have hl := lv_entry ([.ref (ad 32), .ref (ad 4), .int vx, .int 3, .int vu, .int vp]) (n := 9) (Nat.le_of_ble_eq_true rfl)
  rw [lg_entry_eq]
  generalize (lg_sl ([.ref (ad 32), .ref (ad 4), .int vx, .int 3, .int vu, .int vp]) ++ List.replicate (9 - (lg_sl ([.ref (ad 32), .ref (ad 4), .int vx, .int 3, .int vu, .int vp])).length) Slot.unset).toArray = ls at hl ⊢
  have hl : lv_has ls 9 [(0, .ref (ad 32)), (1, .ref (ad 4)), (2, .int vx), (3, .int 3), (4, .int vu), (5, .int vp)] := hl
  obtain ⟨fz, hfz⟩ : ∃ z, F_sx_comesFrom3 mu vx vu vp = z := ⟨_, rfl⟩
  have hF := hfz
  unfold F_sx_comesFrom3 at hF
  refine lv_aload_n hx hb dX5_comesFrom_0 rfl (lv_at hl 1 rfl) ?_
  refine va_get (D := (dC, dI)) (ci := 10) (v := .ref (ad 34)) (C := RX10) (T := TX10) (N := 8) hx hb hts inG10 hown hK hP 4 (gX_4 cs ad mu) rfl 0 (by decide) (hts _ (List.mem_cons_of_mem _ mw_1_146)) (fun _ h9 => h9) rfl dX5_comesFrom_1 ?_
  refine lv_iload_n hx hb dX5_comesFrom_4 rfl (lv_at hl 2 rfl) ?_
  refine va_iald hx hb hK hP 34 0 (gX_34 cs ad mu) rfl (show vp_in vx 7 from vi_of (by omega) (by omega)) dX5_comesFrom_5 ?_
  refine lv_topi (fun y1 ey1 => ?_)
  have hF := mi_let hF ey1
  have by1 : y1.toInt = (mu 34 vx.toNatClampNeg).toInt := congrArg Int32.toInt ey1
  refine lv_iload hx hb dX5_comesFrom_6 (lv_at hl 5 rfl) ?_
  refine cr_i (va_runSN (As := [.int y1, .int vp]) (rest := []) ⟨hx, hb, hml, hown, hts⟩ (sx_priceAsked l dC dI (tyW cs) s.heap y1 vp) ⟨va_cnB 2 hts (wU_in mw_3_107) rfl rfl rfl (hz.2.2.2.2.2.2.2.2.2.2.2.2.2.1) (hts _ (List.mem_cons_of_mem _ mw_1_1)) (by decide +kernel) ⟨Nat.le_of_ble_eq_true rfl, Nat.le_of_ble_eq_true rfl⟩, (hts _ (List.mem_cons_of_mem _ mw_3_106)), trivial⟩ ⟨sz_c, sz_m hK hz⟩ rfl rfl hl.1 rfl (lv_room (Nat.le_of_ble_eq_true rfl)) dX5_comesFrom_8 ⟨Nat.zero_le _, Nat.zero_le _⟩) hS (fun r2 hw2 locs hS => ?_)
  obtain ⟨hfe2, hw2⟩ := hw2
  have hF := mi_let hF hfe2
  refine lv_istore (lv' := [(6, .int r2), (0, .ref (ad 32)), (1, .ref (ad 4)), (2, .int vx), (3, .int 3), (4, .int vu), (5, .int vp)]) hx hb dX5_comesFrom_11 hl (by decide) rfl (fun ls hl => ?_)
  refine lv_iload_n hx hb dX5_comesFrom_13 rfl (lv_at hl 4 rfl) ?_
  refine lv_iconst (v := 1) hx hb dX5_comesFrom_14 (by decide) ?_
  refine lv_iadd hx hb dX5_comesFrom_15 ?_
  refine lq_i 4 (by decide) ?_
  refine lv_istore (lv' := [(7, .int 4), (6, .int r2), (0, .ref (ad 32)), (1, .ref (ad 4)), (2, .int vx), (3, .int 3), (4, .int vu), (5, .int vp)]) hx hb dX5_comesFrom_16 hl (by decide) rfl (fun ls hl => ?_)
  refine lv_iconst (v := 0) hx hb dX5_comesFrom_18 (by decide) ?_
  refine lv_istore (lv' := [(8, .int 0), (7, .int 4), (6, .int r2), (0, .ref (ad 32)), (1, .ref (ad 4)), (2, .int vx), (3, .int 3), (4, .int vu), (5, .int vp)]) hx hb dX5_comesFrom_19 hl (by decide) rfl (fun ls hl => ?_)
  have loop21 : ∀ (n21 : Nat) (v8_21 : Int32) (locs : List Loc) (ls : Array Slot), (7 + 1 - v8_21.toInt).toNat < n21 → (0 ≤ v8_21.toInt ∧ v8_21.toInt ≤ 7) → L_sx_comesFrom3_21_0 mu r2 vu vx n21 v8_21 = fz → va_S (fun _ => False) s.heap s.heap locs → lv_has ls 9 [(8, .int v8_21), (7, .int 4), (6, .int r2), (0, .ref (ad 32)), (1, .ref (ad 4)), (2, .int vx), (3, .int 3), (4, .int vu), (5, .int vp)] → W p l e (headSpec (wU yX5_comesFrom cX5_comesFrom 9 (some .boolean)) ({ frames := 4, cells := 0, slots := 0, locals := 105 })).room s m ([.ref (ad 32), .ref (ad 4), .int vx, .int 3, .int vu, .int vp] : List Value).toArray below meth c s.heap locs 0 0 (MQ below (va_Qi (fun (z : Int32) (_ : Unit) => z = F_sx_comesFrom3 mu vx vu vp ∧ (0 ≤ z.toInt ∧ z.toInt ≤ 1)) (fun _ t => t.heap = s.heap) (fun _ => False)) ([.ref (ad 32), .ref (ad 4), .int vx, .int 3, .int vu, .int vp] : List Value).toArray s 0 0 (fun _ => False)) (F0 m 21 ls []) := by
    intro n21
    induction n21 with
    | zero => intro v8_21 locs ls hm; exact absurd hm (Nat.not_lt_zero _)
    | succ n21 ih21 =>
      intro v8_21 locs ls hm_21 h_v8_21 hF hS hl
      rw [L_sx_comesFrom3_21_0] at hF
      refine lv_iload hx hb dX5_comesFrom_21 (lv_at hl 0 rfl) ?_
      refine lv_aload_n hx hb dX5_comesFrom_23 rfl (lv_at hl 4 rfl) ?_
      refine va_get (D := (dC, dI)) (ci := 10) (v := .int (mu 4 6)) (C := RX10) (T := TX10) (N := 8) hx hb hts inG10 hown hK hP 4 (gX_4 cs ad mu) rfl 6 (by decide) (hts _ (List.mem_cons_of_mem _ mw_1_162)) (fun _ h9 => h9) rfl dX5_comesFrom_24 ?_
      refine lv_topi (fun y3 ey3 => ?_)
      have hF := mi_let hF ey3
      have by3 : y3.toInt = (mu 4 6).toInt := congrArg Int32.toInt ey3
      have gy3 : 0 ≤ y3.toInt ∧ y3.toInt ≤ 7 := by rw [ey3]; exact rX_4_6 ok
      refine lv_icmp_ge (tgt := 111) hx hb dX5_comesFrom_27 (by decide) (fun c_4 => ?_) (fun c_4 => ?_)
      · have hF := (if_pos c_4).symm.trans hF
        have c_4 : y3.toInt ≤ v8_21.toInt := il_le c_4
        refine lv_iconst (v := 0) hx hb dX5_comesFrom_111 (by decide) ?_
        exact W.zret (v := 0) (ty := .boolean) hx hb hr (by first | rfl | decide) (fun t ht hW => ⟨⟨0, (), rfl, ⟨hF.trans hfz.symm, (by have h6 : (0 : Int32).toInt = 0 := rfl; omega)⟩, ht⟩, hS.F ht⟩) hS.2.2 dX5_comesFrom_112
      · have hF := (if_neg c_4).symm.trans hF
        have c_4 : v8_21.toInt < y3.toInt := il_nle c_4
        refine lv_iload hx hb dX5_comesFrom_30 (lv_at hl 1 rfl) ?_
        refine lv_bipush (v := 7) hx hb dX5_comesFrom_32 (by decide) ?_
        refine lv_icmp_ge (tgt := 111) hx hb dX5_comesFrom_34 (by decide) (fun c => absurd c (by decide)) (fun _ => ?_)
        refine lv_aload_n hx hb dX5_comesFrom_37 rfl (lv_at hl 3 rfl) ?_
        refine lv_aload_n hx hb dX5_comesFrom_38 rfl (lv_at hl 4 rfl) ?_
        refine lv_iload_n hx hb dX5_comesFrom_39 rfl (lv_at hl 5 rfl) ?_
        refine lv_iload hx hb dX5_comesFrom_40 (lv_at hl 0 rfl) ?_
        refine lv_iload hx hb dX5_comesFrom_42 (lv_at hl 7 rfl) ?_
        refine lv_iload hx hb dX5_comesFrom_44 (lv_at hl 2 rfl) ?_
        refine cr_i (va_runV (As := [.ref (ad 4), .int vx, .int v8_21, .int vu, .int r2]) (rest := []) ⟨hx, hb, hml, hown, hts⟩ (sx_buys l dC dI cs ad mu ok s.heap hP vx v8_21 vu r2 (by omega)) (cwV 5 hts (wU_V mw_4_34 mw_4_31 mw_4_33 mw_0_14 mw_1_8) rfl rfl rfl (by decide +kernel) ⟨Nat.le_of_ble_eq_true rfl, Nat.le_of_ble_eq_true rfl⟩) ⟨sz_c, va_recv hK hP (ci := 5) (q0 := 32) rfl (gX_32 cs ad mu), sz_m hK hz⟩ rfl rfl hl.1 rfl (lv_room (Nat.le_of_ble_eq_true rfl)) dX5_comesFrom_46 ⟨Nat.zero_le _, Nat.zero_le _⟩) hS (fun r5 hw5 locs hS => ?_)
        obtain ⟨hfe5, hw5⟩ := hw5
        have hF := mi_let hF hfe5
        have gr5 : 0 ≤ r5.toInt ∧ r5.toInt ≤ 1 := hw5
        refine lv_if_ne (tgt := 55) hx hb dX5_comesFrom_49 (by decide) (fun c_6 => ?_) (fun c_6 => ?_)
        · have hF := (if_neg c_6).symm.trans hF
          have c_6 : ¬ r5.toInt = 0 := il_ne c_6
          refine lv_iload hx hb dX5_comesFrom_55 (lv_at hl 0 rfl) ?_
          refine lv_aload_n hx hb dX5_comesFrom_57 rfl (lv_at hl 3 rfl) ?_
          refine va_get (D := (dC, dI)) (ci := 5) (v := .int (mu 32 6)) (C := RX5) (T := TX5) (N := 15) hx hb hts inG5 hown hK hP 32 (gX_32 cs ad mu) rfl 6 (by decide) (hts _ (List.mem_cons_of_mem _ mw_2_54)) (fun _ h9 => h9) rfl dX5_comesFrom_58 ?_
          refine lv_topi (fun y7 ey7 => ?_)
          have hF := mi_let hF ey7
          have by7 : y7.toInt = (mu 32 6).toInt := congrArg Int32.toInt ey7
          have gy7 : 0 ≤ y7.toInt ∧ y7.toInt ≤ 6 := by rw [ey7]; exact rX_32_6 ok
          refine lv_icmp_ne (tgt := 82) hx hb dX5_comesFrom_61 (by decide) (fun c_8 => ?_) (fun c_8 => ?_)
          · have hF := (if_neg c_8).symm.trans hF
            have c_8 : ¬ v8_21.toInt = y7.toInt := il_ne c_8
            refine lv_aload_n hx hb dX5_comesFrom_82 rfl (lv_at hl 3 rfl) ?_
            refine lv_aload_n hx hb dX5_comesFrom_83 rfl (lv_at hl 4 rfl) ?_
            refine lv_iload hx hb dX5_comesFrom_84 (lv_at hl 0 rfl) ?_
            refine lv_iload hx hb dX5_comesFrom_86 (lv_at hl 1 rfl) ?_
            refine lv_iload hx hb dX5_comesFrom_88 (lv_at hl 7 rfl) ?_
            refine lv_iconst (v := 1) hx hb dX5_comesFrom_90 (by decide) ?_
            refine lv_iload hx hb dX5_comesFrom_91 (lv_at hl 0 rfl) ?_
            refine lv_ishl hx hb dX5_comesFrom_93 ?_
            refine lv_topi (fun t9 et9 => ?_)
            have hF := mi_let hF et9
            refine lv_ior hx hb dX5_comesFrom_94 ?_
            refine lv_topi (fun t10 et10 => ?_)
            have hF := mi_let hF et10
            refine lv_iload hx hb dX5_comesFrom_95 (lv_at hl 2 rfl) ?_
            refine cr_i (va_runV (As := [.ref (ad 4), .int v8_21, .int 4, .int t10, .int r2]) (rest := []) ⟨hx, hb, hml, hown, hts⟩ (sx_comesFrom4 l dC dI cs ad mu ok s.heap hP v8_21 t10 r2 (by have h52 : (4 : Int32).toInt = 4 := rfl; omega)) (cwV 5 hts (wU_V mw_4_106 mw_4_103 mw_4_105 mw_0_18 mw_1_8) rfl rfl rfl (by decide +kernel) ⟨Nat.le_of_ble_eq_true rfl, Nat.le_of_ble_eq_true rfl⟩) ⟨sz_c, va_recv hK hP (ci := 5) (q0 := 32) rfl (gX_32 cs ad mu), sz_m hK hz⟩ rfl rfl hl.1 rfl (lv_room (Nat.le_of_ble_eq_true rfl)) dX5_comesFrom_97 ⟨Nat.zero_le _, Nat.zero_le _⟩) hS (fun r11 hw11 locs hS => ?_)
            obtain ⟨hfe11, hw11⟩ := hw11
            have hF := mi_let hF hfe11
            have gr11 : 0 ≤ r11.toInt ∧ r11.toInt ≤ 1 := hw11
            refine lv_if_eq (tgt := 105) hx hb dX5_comesFrom_100 (by decide) (fun c_12 => ?_) (fun c_12 => ?_)
            · have hF := (if_pos c_12).symm.trans hF
              have c_12 : r11.toInt = 0 := il_eq c_12
              refine lv_iinc (v := (v8_21 + 1)) (lv' := [(8, .int (v8_21 + 1)), (7, .int 4), (6, .int r2), (0, .ref (ad 32)), (1, .ref (ad 4)), (2, .int vx), (3, .int 3), (4, .int vu), (5, .int vp)]) hx hb dX5_comesFrom_105 hl (k := 0) rfl rfl (by decide) rfl (fun ls hl => ?_)
              refine loc_gen (P := fun w9 => lv_has ls 9 [(8, .int w9), (7, .int 4), (6, .int r2), (0, .ref (ad 32)), (1, .ref (ad 4)), (2, .int vx), (3, .int 3), (4, .int vu), (5, .int vp)]) (v8_21 + 1) hl (fun w13 hw13 hl => ?_)
              have hl : lv_has ls 9 [(8, .int w13), (7, .int 4), (6, .int r2), (0, .ref (ad 32)), (1, .ref (ad 4)), (2, .int vx), (3, .int 3), (4, .int vu), (5, .int vp)] := hl
              have hF := mi_let hF hw13.symm
              have aw13 : w13.toInt = v8_21.toInt + 1 := by rw [← hw13]; first | exact va1 (Int.lt_of_le_of_lt h_v8_21.2 (by decide)) | exact va1 (by omega)
              refine lv_goto (tgt := 21) hx hb dX5_comesFrom_108 (by decide) ?_
              exact ih21 (w13)  _ _ (by first | exact ms_up hm_21 aw13 h_v8_21.2 | exact ms_lt hm_21 (by omega) (by omega) | omega) (by first | exact rg_up aw13 h_v8_21 (by omega) | omega)   hF hS (lv_sub hl [0, 1, 2, 3, 4, 5, 6, 7, 8] rfl)
            · have hF := (if_neg c_12).symm.trans hF
              have c_12 : ¬ r11.toInt = 0 := il_ne c_12
              refine lv_iconst (v := 1) hx hb dX5_comesFrom_103 (by decide) ?_
              exact W.zret (v := 1) (ty := .boolean) hx hb hr (by first | rfl | decide) (fun t ht hW => ⟨⟨1, (), rfl, ⟨hF.trans hfz.symm, (by have h6 : (1 : Int32).toInt = 1 := rfl; omega)⟩, ht⟩, hS.F ht⟩) hS.2.2 dX5_comesFrom_104
          · have hF := (if_pos c_8).symm.trans hF
            have c_8 : v8_21.toInt = y7.toInt := il_eq c_8
            refine lv_aload_n hx hb dX5_comesFrom_64 rfl (lv_at hl 3 rfl) ?_
            refine lv_iload hx hb dX5_comesFrom_65 (lv_at hl 1 rfl) ?_
            refine lv_iload hx hb dX5_comesFrom_67 (lv_at hl 2 rfl) ?_
            refine cr_i (va_runV (As := [.int 4, .int r2]) (rest := []) ⟨hx, hb, hml, hown, hts⟩ (sx_needFor l dC dI cs ad mu ok s.heap hP 4 r2) (cwV 2 hts (wU_V mw_4_48 mw_4_45 mw_4_47 mw_0_16 mw_1_8) rfl rfl rfl (by decide +kernel) ⟨Nat.le_of_ble_eq_true rfl, Nat.le_of_ble_eq_true rfl⟩) ⟨sz_c, va_recv hK hP (ci := 5) (q0 := 32) rfl (gX_32 cs ad mu), sz_m hK hz⟩ rfl rfl hl.1 rfl (lv_room (Nat.le_of_ble_eq_true rfl)) dX5_comesFrom_69 ⟨Nat.zero_le _, Nat.zero_le _⟩) hS (fun r14 hw14 locs hS => ?_)
            obtain ⟨hfe14, hw14⟩ := hw14
            have hF := mi_let hF hfe14
            refine lv_aload_n hx hb dX5_comesFrom_72 rfl (lv_at hl 3 rfl) ?_
            refine va_get (D := (dC, dI)) (ci := 5) (v := .int (mu 32 8)) (C := RX5) (T := TX5) (N := 15) hx hb hts inG5 hown hK hP 32 (gX_32 cs ad mu) rfl 8 (by decide) (hts _ (List.mem_cons_of_mem _ mw_2_56)) (fun _ h9 => h9) rfl dX5_comesFrom_73 ?_
            refine lv_topi (fun y15 ey15 => ?_)
            have hF := mi_let hF ey15
            have by15 : y15.toInt = (mu 32 8).toInt := congrArg Int32.toInt ey15
            refine lv_icmp_gt (tgt := 105) hx hb dX5_comesFrom_76 (by decide) (fun c_16 => ?_) (fun c_16 => ?_)
            · have hF := (if_pos c_16).symm.trans hF
              have c_16 : y15.toInt < r14.toInt := il_lt c_16
              refine lv_iinc (v := (v8_21 + 1)) (lv' := [(8, .int (v8_21 + 1)), (7, .int 4), (6, .int r2), (0, .ref (ad 32)), (1, .ref (ad 4)), (2, .int vx), (3, .int 3), (4, .int vu), (5, .int vp)]) hx hb dX5_comesFrom_105 hl (k := 0) rfl rfl (by decide) rfl (fun ls hl => ?_)
              refine loc_gen (P := fun w9 => lv_has ls 9 [(8, .int w9), (7, .int 4), (6, .int r2), (0, .ref (ad 32)), (1, .ref (ad 4)), (2, .int vx), (3, .int 3), (4, .int vu), (5, .int vp)]) (v8_21 + 1) hl (fun w17 hw17 hl => ?_)
              have hl : lv_has ls 9 [(8, .int w17), (7, .int 4), (6, .int r2), (0, .ref (ad 32)), (1, .ref (ad 4)), (2, .int vx), (3, .int 3), (4, .int vu), (5, .int vp)] := hl
              have hF := mi_let hF hw17.symm
              have aw17 : w17.toInt = v8_21.toInt + 1 := by rw [← hw17]; first | exact va1 (Int.lt_of_le_of_lt h_v8_21.2 (by decide)) | exact va1 (by omega)
              refine lv_goto (tgt := 21) hx hb dX5_comesFrom_108 (by decide) ?_
              exact ih21 (w17)  _ _ (by first | exact ms_up hm_21 aw17 h_v8_21.2 | exact ms_lt hm_21 (by omega) (by omega) | omega) (by first | exact rg_up aw17 h_v8_21 (by omega) | omega)   hF hS (lv_sub hl [0, 1, 2, 3, 4, 5, 6, 7, 8] rfl)
            · have hF := (if_neg c_16).symm.trans hF
              have c_16 : r14.toInt ≤ y15.toInt := il_nlt c_16
              refine lv_goto (tgt := 103) hx hb dX5_comesFrom_79 (by decide) ?_
              refine lv_iconst (v := 1) hx hb dX5_comesFrom_103 (by decide) ?_
              exact W.zret (v := 1) (ty := .boolean) hx hb hr (by first | rfl | decide) (fun t ht hW => ⟨⟨1, (), rfl, ⟨hF.trans hfz.symm, (by have h6 : (1 : Int32).toInt = 1 := rfl; omega)⟩, ht⟩, hS.F ht⟩) hS.2.2 dX5_comesFrom_104
        · have hF := (if_pos c_6).symm.trans hF
          have c_6 : r5.toInt = 0 := il_eq c_6
          refine lv_goto (tgt := 105) hx hb dX5_comesFrom_52 (by decide) ?_
          refine lv_iinc (v := (v8_21 + 1)) (lv' := [(8, .int (v8_21 + 1)), (7, .int 4), (6, .int r2), (0, .ref (ad 32)), (1, .ref (ad 4)), (2, .int vx), (3, .int 3), (4, .int vu), (5, .int vp)]) hx hb dX5_comesFrom_105 hl (k := 0) rfl rfl (by decide) rfl (fun ls hl => ?_)
          refine loc_gen (P := fun w9 => lv_has ls 9 [(8, .int w9), (7, .int 4), (6, .int r2), (0, .ref (ad 32)), (1, .ref (ad 4)), (2, .int vx), (3, .int 3), (4, .int vu), (5, .int vp)]) (v8_21 + 1) hl (fun w18 hw18 hl => ?_)
          have hl : lv_has ls 9 [(8, .int w18), (7, .int 4), (6, .int r2), (0, .ref (ad 32)), (1, .ref (ad 4)), (2, .int vx), (3, .int 3), (4, .int vu), (5, .int vp)] := hl
          have hF := mi_let hF hw18.symm
          have aw18 : w18.toInt = v8_21.toInt + 1 := by rw [← hw18]; first | exact va1 (Int.lt_of_le_of_lt h_v8_21.2 (by decide)) | exact va1 (by omega)
          refine lv_goto (tgt := 21) hx hb dX5_comesFrom_108 (by decide) ?_
          exact ih21 (w18)  _ _ (by first | exact ms_up hm_21 aw18 h_v8_21.2 | exact ms_lt hm_21 (by omega) (by omega) | omega) (by first | exact rg_up aw18 h_v8_21 (by omega) | omega)   hF hS (lv_sub hl [0, 1, 2, 3, 4, 5, 6, 7, 8] rfl)
  exact loop21 10 (0)  _ _ (by have h80 : (0 : Int32).toInt = 0 := rfl; omega) (by have h80 : (0 : Int32).toInt = 0 := rfl; exact ⟨by omega, by omega⟩)   hF hS hl
set_option maxHeartbeats 4000000 in
set_option maxRecDepth 100000 in
/-- sx_comesFrom2 -/
theorem sx_comesFrom2 (l : Launch) (dC : Nat → ClassId) (dI : Nat → Nat → Nat) (cs : Nat → ClassId) (ad : Nat → Nat) (mu : Nat → Nat → Int32) (ok : okR loX hiX mu) (H : Heap) (hP : va_P (dC, dI) vwCl (wR 157 ad (EX cs ad) mu) H) (vx : Int32) (vu : Int32) (vp : Int32) (hin0 : 0 ≤ vx.toInt ∧ vx.toInt ≤ 6) : Met l yX5_comesFrom (wU yX5_comesFrom cX5_comesFrom 9 (some .boolean)) ({ frames := 5, cells := 0, slots := 0, locals := 133 }) (va_Pc [.ref (ad 32), .ref (ad 4), .int vx, .int 2, .int vu, .int vp] (sz_P (dC, dI) vwCl (tyW cs) H)) (va_Qi (fun (z : Int32) (_ : Unit) => z = F_sx_comesFrom2 mu vx vu vp ∧ (0 ≤ z.toInt ∧ z.toInt ≤ 1)) (fun _ t => t.heap = H) (fun _ => False)) 0 0 (fun _ => False) := by
  refine Met.ofW (cc := cX5_comesFrom) (maxL := 9) (ret := (some .boolean)) (by decide) rfl ?_
  intro p e s m args below meth c s₁ B hml hv
  obtain ⟨rfl, hh, hK, hz⟩ := hv
  have hx := B.exec
  have hb := B.bytes
  have hr := B.returns
  have hts := atoms_spec (ws := (wU yX5_comesFrom cX5_comesFrom 9 (some .boolean))) B.pre
  have hown : s.vm.findClass RX5 = some m.cls := findClass_of_methodNamed B.named
  have hlocks := B.notSynchronized
  subst hh
  have hS : va_S (fun _ => False) s.heap s.heap [] := va_S.rf
  have hl := lv_entry ([.ref (ad 32), .ref (ad 4), .int vx, .int 2, .int vu, .int vp]) (n := 9) (Nat.le_of_ble_eq_true rfl)
  rw [lg_entry_eq]
  generalize (lg_sl ([.ref (ad 32), .ref (ad 4), .int vx, .int 2, .int vu, .int vp]) ++ List.replicate (9 - (lg_sl ([.ref (ad 32), .ref (ad 4), .int vx, .int 2, .int vu, .int vp])).length) Slot.unset).toArray = ls at hl ⊢
  have hl : lv_has ls 9 [(0, .ref (ad 32)), (1, .ref (ad 4)), (2, .int vx), (3, .int 2), (4, .int vu), (5, .int vp)] := hl
  obtain ⟨fz, hfz⟩ : ∃ z, F_sx_comesFrom2 mu vx vu vp = z := ⟨_, rfl⟩
  have hF := hfz
  unfold F_sx_comesFrom2 at hF
  refine lv_aload_n hx hb dX5_comesFrom_0 rfl (lv_at hl 1 rfl) ?_
  refine va_get (D := (dC, dI)) (ci := 10) (v := .ref (ad 34)) (C := RX10) (T := TX10) (N := 8) hx hb hts inG10 hown hK hP 4 (gX_4 cs ad mu) rfl 0 (by decide) (hts _ (List.mem_cons_of_mem _ mw_1_146)) (fun _ h9 => h9) rfl dX5_comesFrom_1 ?_
  refine lv_iload_n hx hb dX5_comesFrom_4 rfl (lv_at hl 2 rfl) ?_
  refine va_iald hx hb hK hP 34 0 (gX_34 cs ad mu) rfl (show vp_in vx 7 from vi_of (by omega) (by omega)) dX5_comesFrom_5 ?_
  refine lv_topi (fun y1 ey1 => ?_)
  have hF := mi_let hF ey1
  have by1 : y1.toInt = (mu 34 vx.toNatClampNeg).toInt := congrArg Int32.toInt ey1
  refine lv_iload hx hb dX5_comesFrom_6 (lv_at hl 5 rfl) ?_
  refine cr_i (va_runSN (As := [.int y1, .int vp]) (rest := []) ⟨hx, hb, hml, hown, hts⟩ (sx_priceAsked l dC dI (tyW cs) s.heap y1 vp) ⟨va_cnB 2 hts (wU_in mw_3_107) rfl rfl rfl (hz.2.2.2.2.2.2.2.2.2.2.2.2.2.1) (hts _ (List.mem_cons_of_mem _ mw_1_1)) (by decide +kernel) ⟨Nat.le_of_ble_eq_true rfl, Nat.le_of_ble_eq_true rfl⟩, (hts _ (List.mem_cons_of_mem _ mw_3_106)), trivial⟩ ⟨sz_c, sz_m hK hz⟩ rfl rfl hl.1 rfl (lv_room (Nat.le_of_ble_eq_true rfl)) dX5_comesFrom_8 ⟨Nat.zero_le _, Nat.zero_le _⟩) hS (fun r2 hw2 locs hS => ?_)
  obtain ⟨hfe2, hw2⟩ := hw2
  have hF := mi_let hF hfe2
  refine lv_istore (lv' := [(6, .int r2), (0, .ref (ad 32)), (1, .ref (ad 4)), (2, .int vx), (3, .int 2), (4, .int vu), (5, .int vp)]) hx hb dX5_comesFrom_11 hl (by decide) rfl (fun ls hl => ?_)
  refine lv_iload_n hx hb dX5_comesFrom_13 rfl (lv_at hl 4 rfl) ?_
  refine lv_iconst (v := 1) hx hb dX5_comesFrom_14 (by decide) ?_
  refine lv_iadd hx hb dX5_comesFrom_15 ?_
  refine lq_i 3 (by decide) ?_
  refine lv_istore (lv' := [(7, .int 3), (6, .int r2), (0, .ref (ad 32)), (1, .ref (ad 4)), (2, .int vx), (3, .int 2), (4, .int vu), (5, .int vp)]) hx hb dX5_comesFrom_16 hl (by decide) rfl (fun ls hl => ?_)
  refine lv_iconst (v := 0) hx hb dX5_comesFrom_18 (by decide) ?_
  refine lv_istore (lv' := [(8, .int 0), (7, .int 3), (6, .int r2), (0, .ref (ad 32)), (1, .ref (ad 4)), (2, .int vx), (3, .int 2), (4, .int vu), (5, .int vp)]) hx hb dX5_comesFrom_19 hl (by decide) rfl (fun ls hl => ?_)
  have loop21 : ∀ (n21 : Nat) (v8_21 : Int32) (locs : List Loc) (ls : Array Slot), (7 + 1 - v8_21.toInt).toNat < n21 → (0 ≤ v8_21.toInt ∧ v8_21.toInt ≤ 7) → L_sx_comesFrom2_21_0 mu r2 vu vx n21 v8_21 = fz → va_S (fun _ => False) s.heap s.heap locs → lv_has ls 9 [(8, .int v8_21), (7, .int 3), (6, .int r2), (0, .ref (ad 32)), (1, .ref (ad 4)), (2, .int vx), (3, .int 2), (4, .int vu), (5, .int vp)] → W p l e (headSpec (wU yX5_comesFrom cX5_comesFrom 9 (some .boolean)) ({ frames := 5, cells := 0, slots := 0, locals := 133 })).room s m ([.ref (ad 32), .ref (ad 4), .int vx, .int 2, .int vu, .int vp] : List Value).toArray below meth c s.heap locs 0 0 (MQ below (va_Qi (fun (z : Int32) (_ : Unit) => z = F_sx_comesFrom2 mu vx vu vp ∧ (0 ≤ z.toInt ∧ z.toInt ≤ 1)) (fun _ t => t.heap = s.heap) (fun _ => False)) ([.ref (ad 32), .ref (ad 4), .int vx, .int 2, .int vu, .int vp] : List Value).toArray s 0 0 (fun _ => False)) (F0 m 21 ls []) := by
    intro n21
    induction n21 with
    | zero => intro v8_21 locs ls hm; exact absurd hm (Nat.not_lt_zero _)
    | succ n21 ih21 =>
      intro v8_21 locs ls hm_21 h_v8_21 hF hS hl
      rw [L_sx_comesFrom2_21_0] at hF
      refine lv_iload hx hb dX5_comesFrom_21 (lv_at hl 0 rfl) ?_
      refine lv_aload_n hx hb dX5_comesFrom_23 rfl (lv_at hl 4 rfl) ?_
      refine va_get (D := (dC, dI)) (ci := 10) (v := .int (mu 4 6)) (C := RX10) (T := TX10) (N := 8) hx hb hts inG10 hown hK hP 4 (gX_4 cs ad mu) rfl 6 (by decide) (hts _ (List.mem_cons_of_mem _ mw_1_162)) (fun _ h9 => h9) rfl dX5_comesFrom_24 ?_
      refine lv_topi (fun y3 ey3 => ?_)
      have hF := mi_let hF ey3
      have by3 : y3.toInt = (mu 4 6).toInt := congrArg Int32.toInt ey3
      have gy3 : 0 ≤ y3.toInt ∧ y3.toInt ≤ 7 := by rw [ey3]; exact rX_4_6 ok
      refine lv_icmp_ge (tgt := 111) hx hb dX5_comesFrom_27 (by decide) (fun c_4 => ?_) (fun c_4 => ?_)
      · have hF := (if_pos c_4).symm.trans hF
        have c_4 : y3.toInt ≤ v8_21.toInt := il_le c_4
        refine lv_iconst (v := 0) hx hb dX5_comesFrom_111 (by decide) ?_
        exact W.zret (v := 0) (ty := .boolean) hx hb hr (by first | rfl | decide) (fun t ht hW => ⟨⟨0, (), rfl, ⟨hF.trans hfz.symm, (by have h6 : (0 : Int32).toInt = 0 := rfl; omega)⟩, ht⟩, hS.F ht⟩) hS.2.2 dX5_comesFrom_112
      · have hF := (if_neg c_4).symm.trans hF
        have c_4 : v8_21.toInt < y3.toInt := il_nle c_4
        refine lv_iload hx hb dX5_comesFrom_30 (lv_at hl 1 rfl) ?_
        refine lv_bipush (v := 7) hx hb dX5_comesFrom_32 (by decide) ?_
        refine lv_icmp_ge (tgt := 111) hx hb dX5_comesFrom_34 (by decide) (fun c => absurd c (by decide)) (fun _ => ?_)
        refine lv_aload_n hx hb dX5_comesFrom_37 rfl (lv_at hl 3 rfl) ?_
        refine lv_aload_n hx hb dX5_comesFrom_38 rfl (lv_at hl 4 rfl) ?_
        refine lv_iload_n hx hb dX5_comesFrom_39 rfl (lv_at hl 5 rfl) ?_
        refine lv_iload hx hb dX5_comesFrom_40 (lv_at hl 0 rfl) ?_
        refine lv_iload hx hb dX5_comesFrom_42 (lv_at hl 7 rfl) ?_
        refine lv_iload hx hb dX5_comesFrom_44 (lv_at hl 2 rfl) ?_
        refine cr_i (va_runV (As := [.ref (ad 4), .int vx, .int v8_21, .int vu, .int r2]) (rest := []) ⟨hx, hb, hml, hown, hts⟩ (sx_buys l dC dI cs ad mu ok s.heap hP vx v8_21 vu r2 (by omega)) (cwV 5 hts (wU_V mw_4_34 mw_4_31 mw_4_33 mw_0_14 mw_1_8) rfl rfl rfl (by decide +kernel) ⟨Nat.le_of_ble_eq_true rfl, Nat.le_of_ble_eq_true rfl⟩) ⟨sz_c, va_recv hK hP (ci := 5) (q0 := 32) rfl (gX_32 cs ad mu), sz_m hK hz⟩ rfl rfl hl.1 rfl (lv_room (Nat.le_of_ble_eq_true rfl)) dX5_comesFrom_46 ⟨Nat.zero_le _, Nat.zero_le _⟩) hS (fun r5 hw5 locs hS => ?_)
        obtain ⟨hfe5, hw5⟩ := hw5
        have hF := mi_let hF hfe5
        have gr5 : 0 ≤ r5.toInt ∧ r5.toInt ≤ 1 := hw5
        refine lv_if_ne (tgt := 55) hx hb dX5_comesFrom_49 (by decide) (fun c_6 => ?_) (fun c_6 => ?_)
        · have hF := (if_neg c_6).symm.trans hF
          have c_6 : ¬ r5.toInt = 0 := il_ne c_6
          refine lv_iload hx hb dX5_comesFrom_55 (lv_at hl 0 rfl) ?_
          refine lv_aload_n hx hb dX5_comesFrom_57 rfl (lv_at hl 3 rfl) ?_
          refine va_get (D := (dC, dI)) (ci := 5) (v := .int (mu 32 6)) (C := RX5) (T := TX5) (N := 15) hx hb hts inG5 hown hK hP 32 (gX_32 cs ad mu) rfl 6 (by decide) (hts _ (List.mem_cons_of_mem _ mw_2_54)) (fun _ h9 => h9) rfl dX5_comesFrom_58 ?_
          refine lv_topi (fun y7 ey7 => ?_)
          have hF := mi_let hF ey7
          have by7 : y7.toInt = (mu 32 6).toInt := congrArg Int32.toInt ey7
          have gy7 : 0 ≤ y7.toInt ∧ y7.toInt ≤ 6 := by rw [ey7]; exact rX_32_6 ok
          refine lv_icmp_ne (tgt := 82) hx hb dX5_comesFrom_61 (by decide) (fun c_8 => ?_) (fun c_8 => ?_)
          · have hF := (if_neg c_8).symm.trans hF
            have c_8 : ¬ v8_21.toInt = y7.toInt := il_ne c_8
            refine lv_aload_n hx hb dX5_comesFrom_82 rfl (lv_at hl 3 rfl) ?_
            refine lv_aload_n hx hb dX5_comesFrom_83 rfl (lv_at hl 4 rfl) ?_
            refine lv_iload hx hb dX5_comesFrom_84 (lv_at hl 0 rfl) ?_
            refine lv_iload hx hb dX5_comesFrom_86 (lv_at hl 1 rfl) ?_
            refine lv_iload hx hb dX5_comesFrom_88 (lv_at hl 7 rfl) ?_
            refine lv_iconst (v := 1) hx hb dX5_comesFrom_90 (by decide) ?_
            refine lv_iload hx hb dX5_comesFrom_91 (lv_at hl 0 rfl) ?_
            refine lv_ishl hx hb dX5_comesFrom_93 ?_
            refine lv_topi (fun t9 et9 => ?_)
            have hF := mi_let hF et9
            refine lv_ior hx hb dX5_comesFrom_94 ?_
            refine lv_topi (fun t10 et10 => ?_)
            have hF := mi_let hF et10
            refine lv_iload hx hb dX5_comesFrom_95 (lv_at hl 2 rfl) ?_
            refine cr_i (va_runV (As := [.ref (ad 4), .int v8_21, .int 3, .int t10, .int r2]) (rest := []) ⟨hx, hb, hml, hown, hts⟩ (sx_comesFrom3 l dC dI cs ad mu ok s.heap hP v8_21 t10 r2 (by have h52 : (3 : Int32).toInt = 3 := rfl; omega)) (cwV 5 hts (wU_V mw_4_106 mw_4_103 mw_4_105 mw_0_18 mw_1_8) rfl rfl rfl (by decide +kernel) ⟨Nat.le_of_ble_eq_true rfl, Nat.le_of_ble_eq_true rfl⟩) ⟨sz_c, va_recv hK hP (ci := 5) (q0 := 32) rfl (gX_32 cs ad mu), sz_m hK hz⟩ rfl rfl hl.1 rfl (lv_room (Nat.le_of_ble_eq_true rfl)) dX5_comesFrom_97 ⟨Nat.zero_le _, Nat.zero_le _⟩) hS (fun r11 hw11 locs hS => ?_)
            obtain ⟨hfe11, hw11⟩ := hw11
            have hF := mi_let hF hfe11
            have gr11 : 0 ≤ r11.toInt ∧ r11.toInt ≤ 1 := hw11
            refine lv_if_eq (tgt := 105) hx hb dX5_comesFrom_100 (by decide) (fun c_12 => ?_) (fun c_12 => ?_)
            · have hF := (if_pos c_12).symm.trans hF
              have c_12 : r11.toInt = 0 := il_eq c_12
              refine lv_iinc (v := (v8_21 + 1)) (lv' := [(8, .int (v8_21 + 1)), (7, .int 3), (6, .int r2), (0, .ref (ad 32)), (1, .ref (ad 4)), (2, .int vx), (3, .int 2), (4, .int vu), (5, .int vp)]) hx hb dX5_comesFrom_105 hl (k := 0) rfl rfl (by decide) rfl (fun ls hl => ?_)
              refine loc_gen (P := fun w9 => lv_has ls 9 [(8, .int w9), (7, .int 3), (6, .int r2), (0, .ref (ad 32)), (1, .ref (ad 4)), (2, .int vx), (3, .int 2), (4, .int vu), (5, .int vp)]) (v8_21 + 1) hl (fun w13 hw13 hl => ?_)
              have hl : lv_has ls 9 [(8, .int w13), (7, .int 3), (6, .int r2), (0, .ref (ad 32)), (1, .ref (ad 4)), (2, .int vx), (3, .int 2), (4, .int vu), (5, .int vp)] := hl
              have hF := mi_let hF hw13.symm
              have aw13 : w13.toInt = v8_21.toInt + 1 := by rw [← hw13]; first | exact va1 (Int.lt_of_le_of_lt h_v8_21.2 (by decide)) | exact va1 (by omega)
              refine lv_goto (tgt := 21) hx hb dX5_comesFrom_108 (by decide) ?_
              exact ih21 (w13)  _ _ (by first | exact ms_up hm_21 aw13 h_v8_21.2 | exact ms_lt hm_21 (by omega) (by omega) | omega) (by first | exact rg_up aw13 h_v8_21 (by omega) | omega)   hF hS (lv_sub hl [0, 1, 2, 3, 4, 5, 6, 7, 8] rfl)
            · have hF := (if_neg c_12).symm.trans hF
              have c_12 : ¬ r11.toInt = 0 := il_ne c_12
              refine lv_iconst (v := 1) hx hb dX5_comesFrom_103 (by decide) ?_
              exact W.zret (v := 1) (ty := .boolean) hx hb hr (by first | rfl | decide) (fun t ht hW => ⟨⟨1, (), rfl, ⟨hF.trans hfz.symm, (by have h6 : (1 : Int32).toInt = 1 := rfl; omega)⟩, ht⟩, hS.F ht⟩) hS.2.2 dX5_comesFrom_104
          · have hF := (if_pos c_8).symm.trans hF
            have c_8 : v8_21.toInt = y7.toInt := il_eq c_8
            refine lv_aload_n hx hb dX5_comesFrom_64 rfl (lv_at hl 3 rfl) ?_
            refine lv_iload hx hb dX5_comesFrom_65 (lv_at hl 1 rfl) ?_
            refine lv_iload hx hb dX5_comesFrom_67 (lv_at hl 2 rfl) ?_
            refine cr_i (va_runV (As := [.int 3, .int r2]) (rest := []) ⟨hx, hb, hml, hown, hts⟩ (sx_needFor l dC dI cs ad mu ok s.heap hP 3 r2) (cwV 2 hts (wU_V mw_4_48 mw_4_45 mw_4_47 mw_0_16 mw_1_8) rfl rfl rfl (by decide +kernel) ⟨Nat.le_of_ble_eq_true rfl, Nat.le_of_ble_eq_true rfl⟩) ⟨sz_c, va_recv hK hP (ci := 5) (q0 := 32) rfl (gX_32 cs ad mu), sz_m hK hz⟩ rfl rfl hl.1 rfl (lv_room (Nat.le_of_ble_eq_true rfl)) dX5_comesFrom_69 ⟨Nat.zero_le _, Nat.zero_le _⟩) hS (fun r14 hw14 locs hS => ?_)
            obtain ⟨hfe14, hw14⟩ := hw14
            have hF := mi_let hF hfe14
            refine lv_aload_n hx hb dX5_comesFrom_72 rfl (lv_at hl 3 rfl) ?_
            refine va_get (D := (dC, dI)) (ci := 5) (v := .int (mu 32 8)) (C := RX5) (T := TX5) (N := 15) hx hb hts inG5 hown hK hP 32 (gX_32 cs ad mu) rfl 8 (by decide) (hts _ (List.mem_cons_of_mem _ mw_2_56)) (fun _ h9 => h9) rfl dX5_comesFrom_73 ?_
            refine lv_topi (fun y15 ey15 => ?_)
            have hF := mi_let hF ey15
            have by15 : y15.toInt = (mu 32 8).toInt := congrArg Int32.toInt ey15
            refine lv_icmp_gt (tgt := 105) hx hb dX5_comesFrom_76 (by decide) (fun c_16 => ?_) (fun c_16 => ?_)
            · have hF := (if_pos c_16).symm.trans hF
              have c_16 : y15.toInt < r14.toInt := il_lt c_16
              refine lv_iinc (v := (v8_21 + 1)) (lv' := [(8, .int (v8_21 + 1)), (7, .int 3), (6, .int r2), (0, .ref (ad 32)), (1, .ref (ad 4)), (2, .int vx), (3, .int 2), (4, .int vu), (5, .int vp)]) hx hb dX5_comesFrom_105 hl (k := 0) rfl rfl (by decide) rfl (fun ls hl => ?_)
              refine loc_gen (P := fun w9 => lv_has ls 9 [(8, .int w9), (7, .int 3), (6, .int r2), (0, .ref (ad 32)), (1, .ref (ad 4)), (2, .int vx), (3, .int 2), (4, .int vu), (5, .int vp)]) (v8_21 + 1) hl (fun w17 hw17 hl => ?_)
              have hl : lv_has ls 9 [(8, .int w17), (7, .int 3), (6, .int r2), (0, .ref (ad 32)), (1, .ref (ad 4)), (2, .int vx), (3, .int 2), (4, .int vu), (5, .int vp)] := hl
              have hF := mi_let hF hw17.symm
              have aw17 : w17.toInt = v8_21.toInt + 1 := by rw [← hw17]; first | exact va1 (Int.lt_of_le_of_lt h_v8_21.2 (by decide)) | exact va1 (by omega)
              refine lv_goto (tgt := 21) hx hb dX5_comesFrom_108 (by decide) ?_
              exact ih21 (w17)  _ _ (by first | exact ms_up hm_21 aw17 h_v8_21.2 | exact ms_lt hm_21 (by omega) (by omega) | omega) (by first | exact rg_up aw17 h_v8_21 (by omega) | omega)   hF hS (lv_sub hl [0, 1, 2, 3, 4, 5, 6, 7, 8] rfl)
            · have hF := (if_neg c_16).symm.trans hF
              have c_16 : r14.toInt ≤ y15.toInt := il_nlt c_16
              refine lv_goto (tgt := 103) hx hb dX5_comesFrom_79 (by decide) ?_
              refine lv_iconst (v := 1) hx hb dX5_comesFrom_103 (by decide) ?_
              exact W.zret (v := 1) (ty := .boolean) hx hb hr (by first | rfl | decide) (fun t ht hW => ⟨⟨1, (), rfl, ⟨hF.trans hfz.symm, (by have h6 : (1 : Int32).toInt = 1 := rfl; omega)⟩, ht⟩, hS.F ht⟩) hS.2.2 dX5_comesFrom_104
        · have hF := (if_pos c_6).symm.trans hF
          have c_6 : r5.toInt = 0 := il_eq c_6
          refine lv_goto (tgt := 105) hx hb dX5_comesFrom_52 (by decide) ?_
          refine lv_iinc (v := (v8_21 + 1)) (lv' := [(8, .int (v8_21 + 1)), (7, .int 3), (6, .int r2), (0, .ref (ad 32)), (1, .ref (ad 4)), (2, .int vx), (3, .int 2), (4, .int vu), (5, .int vp)]) hx hb dX5_comesFrom_105 hl (k := 0) rfl rfl (by decide) rfl (fun ls hl => ?_)
          refine loc_gen (P := fun w9 => lv_has ls 9 [(8, .int w9), (7, .int 3), (6, .int r2), (0, .ref (ad 32)), (1, .ref (ad 4)), (2, .int vx), (3, .int 2), (4, .int vu), (5, .int vp)]) (v8_21 + 1) hl (fun w18 hw18 hl => ?_)
          have hl : lv_has ls 9 [(8, .int w18), (7, .int 3), (6, .int r2), (0, .ref (ad 32)), (1, .ref (ad 4)), (2, .int vx), (3, .int 2), (4, .int vu), (5, .int vp)] := hl
          have hF := mi_let hF hw18.symm
          have aw18 : w18.toInt = v8_21.toInt + 1 := by rw [← hw18]; first | exact va1 (Int.lt_of_le_of_lt h_v8_21.2 (by decide)) | exact va1 (by omega)
          refine lv_goto (tgt := 21) hx hb dX5_comesFrom_108 (by decide) ?_
          exact ih21 (w18)  _ _ (by first | exact ms_up hm_21 aw18 h_v8_21.2 | exact ms_lt hm_21 (by omega) (by omega) | omega) (by first | exact rg_up aw18 h_v8_21 (by omega) | omega)   hF hS (lv_sub hl [0, 1, 2, 3, 4, 5, 6, 7, 8] rfl)
  exact loop21 10 (0)  _ _ (by have h80 : (0 : Int32).toInt = 0 := rfl; omega) (by have h80 : (0 : Int32).toInt = 0 := rfl; exact ⟨by omega, by omega⟩)   hF hS hl
set_option maxHeartbeats 4000000 in
set_option maxRecDepth 100000 in
/-- sx_comesFrom1 -/
theorem sx_comesFrom1 (l : Launch) (dC : Nat → ClassId) (dI : Nat → Nat → Nat) (cs : Nat → ClassId) (ad : Nat → Nat) (mu : Nat → Nat → Int32) (ok : okR loX hiX mu) (H : Heap) (hP : va_P (dC, dI) vwCl (wR 157 ad (EX cs ad) mu) H) (vx : Int32) (vu : Int32) (vp : Int32) (hin0 : 0 ≤ vx.toInt ∧ vx.toInt ≤ 6) : Met l yX5_comesFrom (wU yX5_comesFrom cX5_comesFrom 9 (some .boolean)) ({ frames := 6, cells := 0, slots := 0, locals := 161 }) (va_Pc [.ref (ad 32), .ref (ad 4), .int vx, .int 1, .int vu, .int vp] (sz_P (dC, dI) vwCl (tyW cs) H)) (va_Qi (fun (z : Int32) (_ : Unit) => z = F_sx_comesFrom1 mu vx vu vp ∧ (0 ≤ z.toInt ∧ z.toInt ≤ 1)) (fun _ t => t.heap = H) (fun _ => False)) 0 0 (fun _ => False) := by
  refine Met.ofW (cc := cX5_comesFrom) (maxL := 9) (ret := (some .boolean)) (by decide) rfl ?_
  intro p e s m args below meth c s₁ B hml hv
  obtain ⟨rfl, hh, hK, hz⟩ := hv
  have hx := B.exec
  have hb := B.bytes
  have hr := B.returns
  have hts := atoms_spec (ws := (wU yX5_comesFrom cX5_comesFrom 9 (some .boolean))) B.pre
  have hown : s.vm.findClass RX5 = some m.cls := findClass_of_methodNamed B.named
  have hlocks := B.notSynchronized
  subst hh
  have hS : va_S (fun _ => False) s.heap s.heap [] := va_S.rf
  have hl := lv_entry ([.ref (ad 32), .ref (ad 4), .int vx, .int 1, .int vu, .int vp]) (n := 9) (Nat.le_of_ble_eq_true rfl)
  rw [lg_entry_eq]
  generalize (lg_sl ([.ref (ad 32), .ref (ad 4), .int vx, .int 1, .int vu, .int vp]) ++ List.replicate (9 - (lg_sl ([.ref (ad 32), .ref (ad 4), .int vx, .int 1, .int vu, .int vp])).length) Slot.unset).toArray = ls at hl ⊢
  have hl : lv_has ls 9 [(0, .ref (ad 32)), (1, .ref (ad 4)), (2, .int vx), (3, .int 1), (4, .int vu), (5, .int vp)] := hl
  obtain ⟨fz, hfz⟩ : ∃ z, F_sx_comesFrom1 mu vx vu vp = z := ⟨_, rfl⟩
  have hF := hfz
  unfold F_sx_comesFrom1 at hF
  refine lv_aload_n hx hb dX5_comesFrom_0 rfl (lv_at hl 1 rfl) ?_
  refine va_get (D := (dC, dI)) (ci := 10) (v := .ref (ad 34)) (C := RX10) (T := TX10) (N := 8) hx hb hts inG10 hown hK hP 4 (gX_4 cs ad mu) rfl 0 (by decide) (hts _ (List.mem_cons_of_mem _ mw_1_146)) (fun _ h9 => h9) rfl dX5_comesFrom_1 ?_
  refine lv_iload_n hx hb dX5_comesFrom_4 rfl (lv_at hl 2 rfl) ?_
  refine va_iald hx hb hK hP 34 0 (gX_34 cs ad mu) rfl (show vp_in vx 7 from vi_of (by omega) (by omega)) dX5_comesFrom_5 ?_
  refine lv_topi (fun y1 ey1 => ?_)
  have hF := mi_let hF ey1
  have by1 : y1.toInt = (mu 34 vx.toNatClampNeg).toInt := congrArg Int32.toInt ey1
  refine lv_iload hx hb dX5_comesFrom_6 (lv_at hl 5 rfl) ?_
  refine cr_i (va_runSN (As := [.int y1, .int vp]) (rest := []) ⟨hx, hb, hml, hown, hts⟩ (sx_priceAsked l dC dI (tyW cs) s.heap y1 vp) ⟨va_cnB 2 hts (wU_in mw_3_107) rfl rfl rfl (hz.2.2.2.2.2.2.2.2.2.2.2.2.2.1) (hts _ (List.mem_cons_of_mem _ mw_1_1)) (by decide +kernel) ⟨Nat.le_of_ble_eq_true rfl, Nat.le_of_ble_eq_true rfl⟩, (hts _ (List.mem_cons_of_mem _ mw_3_106)), trivial⟩ ⟨sz_c, sz_m hK hz⟩ rfl rfl hl.1 rfl (lv_room (Nat.le_of_ble_eq_true rfl)) dX5_comesFrom_8 ⟨Nat.zero_le _, Nat.zero_le _⟩) hS (fun r2 hw2 locs hS => ?_)
  obtain ⟨hfe2, hw2⟩ := hw2
  have hF := mi_let hF hfe2
  refine lv_istore (lv' := [(6, .int r2), (0, .ref (ad 32)), (1, .ref (ad 4)), (2, .int vx), (3, .int 1), (4, .int vu), (5, .int vp)]) hx hb dX5_comesFrom_11 hl (by decide) rfl (fun ls hl => ?_)
  refine lv_iload_n hx hb dX5_comesFrom_13 rfl (lv_at hl 4 rfl) ?_
  refine lv_iconst (v := 1) hx hb dX5_comesFrom_14 (by decide) ?_
  refine lv_iadd hx hb dX5_comesFrom_15 ?_
  refine lq_i 2 (by decide) ?_
  refine lv_istore (lv' := [(7, .int 2), (6, .int r2), (0, .ref (ad 32)), (1, .ref (ad 4)), (2, .int vx), (3, .int 1), (4, .int vu), (5, .int vp)]) hx hb dX5_comesFrom_16 hl (by decide) rfl (fun ls hl => ?_)
  refine lv_iconst (v := 0) hx hb dX5_comesFrom_18 (by decide) ?_
  refine lv_istore (lv' := [(8, .int 0), (7, .int 2), (6, .int r2), (0, .ref (ad 32)), (1, .ref (ad 4)), (2, .int vx), (3, .int 1), (4, .int vu), (5, .int vp)]) hx hb dX5_comesFrom_19 hl (by decide) rfl (fun ls hl => ?_)
  have loop21 : ∀ (n21 : Nat) (v8_21 : Int32) (locs : List Loc) (ls : Array Slot), (7 + 1 - v8_21.toInt).toNat < n21 → (0 ≤ v8_21.toInt ∧ v8_21.toInt ≤ 7) → L_sx_comesFrom1_21_0 mu r2 vu vx n21 v8_21 = fz → va_S (fun _ => False) s.heap s.heap locs → lv_has ls 9 [(8, .int v8_21), (7, .int 2), (6, .int r2), (0, .ref (ad 32)), (1, .ref (ad 4)), (2, .int vx), (3, .int 1), (4, .int vu), (5, .int vp)] → W p l e (headSpec (wU yX5_comesFrom cX5_comesFrom 9 (some .boolean)) ({ frames := 6, cells := 0, slots := 0, locals := 161 })).room s m ([.ref (ad 32), .ref (ad 4), .int vx, .int 1, .int vu, .int vp] : List Value).toArray below meth c s.heap locs 0 0 (MQ below (va_Qi (fun (z : Int32) (_ : Unit) => z = F_sx_comesFrom1 mu vx vu vp ∧ (0 ≤ z.toInt ∧ z.toInt ≤ 1)) (fun _ t => t.heap = s.heap) (fun _ => False)) ([.ref (ad 32), .ref (ad 4), .int vx, .int 1, .int vu, .int vp] : List Value).toArray s 0 0 (fun _ => False)) (F0 m 21 ls []) := by
    intro n21
    induction n21 with
    | zero => intro v8_21 locs ls hm; exact absurd hm (Nat.not_lt_zero _)
    | succ n21 ih21 =>
      intro v8_21 locs ls hm_21 h_v8_21 hF hS hl
      rw [L_sx_comesFrom1_21_0] at hF
      refine lv_iload hx hb dX5_comesFrom_21 (lv_at hl 0 rfl) ?_
      refine lv_aload_n hx hb dX5_comesFrom_23 rfl (lv_at hl 4 rfl) ?_
      refine va_get (D := (dC, dI)) (ci := 10) (v := .int (mu 4 6)) (C := RX10) (T := TX10) (N := 8) hx hb hts inG10 hown hK hP 4 (gX_4 cs ad mu) rfl 6 (by decide) (hts _ (List.mem_cons_of_mem _ mw_1_162)) (fun _ h9 => h9) rfl dX5_comesFrom_24 ?_
      refine lv_topi (fun y3 ey3 => ?_)
      have hF := mi_let hF ey3
      have by3 : y3.toInt = (mu 4 6).toInt := congrArg Int32.toInt ey3
      have gy3 : 0 ≤ y3.toInt ∧ y3.toInt ≤ 7 := by rw [ey3]; exact rX_4_6 ok
      refine lv_icmp_ge (tgt := 111) hx hb dX5_comesFrom_27 (by decide) (fun c_4 => ?_) (fun c_4 => ?_)
      · have hF := (if_pos c_4).symm.trans hF
        have c_4 : y3.toInt ≤ v8_21.toInt := il_le c_4
        refine lv_iconst (v := 0) hx hb dX5_comesFrom_111 (by decide) ?_
        exact W.zret (v := 0) (ty := .boolean) hx hb hr (by first | rfl | decide) (fun t ht hW => ⟨⟨0, (), rfl, ⟨hF.trans hfz.symm, (by have h6 : (0 : Int32).toInt = 0 := rfl; omega)⟩, ht⟩, hS.F ht⟩) hS.2.2 dX5_comesFrom_112
      · have hF := (if_neg c_4).symm.trans hF
        have c_4 : v8_21.toInt < y3.toInt := il_nle c_4
        refine lv_iload hx hb dX5_comesFrom_30 (lv_at hl 1 rfl) ?_
        refine lv_bipush (v := 7) hx hb dX5_comesFrom_32 (by decide) ?_
        refine lv_icmp_ge (tgt := 111) hx hb dX5_comesFrom_34 (by decide) (fun c => absurd c (by decide)) (fun _ => ?_)
        refine lv_aload_n hx hb dX5_comesFrom_37 rfl (lv_at hl 3 rfl) ?_
        refine lv_aload_n hx hb dX5_comesFrom_38 rfl (lv_at hl 4 rfl) ?_
        refine lv_iload_n hx hb dX5_comesFrom_39 rfl (lv_at hl 5 rfl) ?_
        refine lv_iload hx hb dX5_comesFrom_40 (lv_at hl 0 rfl) ?_
        refine lv_iload hx hb dX5_comesFrom_42 (lv_at hl 7 rfl) ?_
        refine lv_iload hx hb dX5_comesFrom_44 (lv_at hl 2 rfl) ?_
        refine cr_i (va_runV (As := [.ref (ad 4), .int vx, .int v8_21, .int vu, .int r2]) (rest := []) ⟨hx, hb, hml, hown, hts⟩ (sx_buys l dC dI cs ad mu ok s.heap hP vx v8_21 vu r2 (by omega)) (cwV 5 hts (wU_V mw_4_34 mw_4_31 mw_4_33 mw_0_14 mw_1_8) rfl rfl rfl (by decide +kernel) ⟨Nat.le_of_ble_eq_true rfl, Nat.le_of_ble_eq_true rfl⟩) ⟨sz_c, va_recv hK hP (ci := 5) (q0 := 32) rfl (gX_32 cs ad mu), sz_m hK hz⟩ rfl rfl hl.1 rfl (lv_room (Nat.le_of_ble_eq_true rfl)) dX5_comesFrom_46 ⟨Nat.zero_le _, Nat.zero_le _⟩) hS (fun r5 hw5 locs hS => ?_)
        obtain ⟨hfe5, hw5⟩ := hw5
        have hF := mi_let hF hfe5
        have gr5 : 0 ≤ r5.toInt ∧ r5.toInt ≤ 1 := hw5
        refine lv_if_ne (tgt := 55) hx hb dX5_comesFrom_49 (by decide) (fun c_6 => ?_) (fun c_6 => ?_)
        · have hF := (if_neg c_6).symm.trans hF
          have c_6 : ¬ r5.toInt = 0 := il_ne c_6
          refine lv_iload hx hb dX5_comesFrom_55 (lv_at hl 0 rfl) ?_
          refine lv_aload_n hx hb dX5_comesFrom_57 rfl (lv_at hl 3 rfl) ?_
          refine va_get (D := (dC, dI)) (ci := 5) (v := .int (mu 32 6)) (C := RX5) (T := TX5) (N := 15) hx hb hts inG5 hown hK hP 32 (gX_32 cs ad mu) rfl 6 (by decide) (hts _ (List.mem_cons_of_mem _ mw_2_54)) (fun _ h9 => h9) rfl dX5_comesFrom_58 ?_
          refine lv_topi (fun y7 ey7 => ?_)
          have hF := mi_let hF ey7
          have by7 : y7.toInt = (mu 32 6).toInt := congrArg Int32.toInt ey7
          have gy7 : 0 ≤ y7.toInt ∧ y7.toInt ≤ 6 := by rw [ey7]; exact rX_32_6 ok
          refine lv_icmp_ne (tgt := 82) hx hb dX5_comesFrom_61 (by decide) (fun c_8 => ?_) (fun c_8 => ?_)
          · have hF := (if_neg c_8).symm.trans hF
            have c_8 : ¬ v8_21.toInt = y7.toInt := il_ne c_8
            refine lv_aload_n hx hb dX5_comesFrom_82 rfl (lv_at hl 3 rfl) ?_
            refine lv_aload_n hx hb dX5_comesFrom_83 rfl (lv_at hl 4 rfl) ?_
            refine lv_iload hx hb dX5_comesFrom_84 (lv_at hl 0 rfl) ?_
            refine lv_iload hx hb dX5_comesFrom_86 (lv_at hl 1 rfl) ?_
            refine lv_iload hx hb dX5_comesFrom_88 (lv_at hl 7 rfl) ?_
            refine lv_iconst (v := 1) hx hb dX5_comesFrom_90 (by decide) ?_
            refine lv_iload hx hb dX5_comesFrom_91 (lv_at hl 0 rfl) ?_
            refine lv_ishl hx hb dX5_comesFrom_93 ?_
            refine lv_topi (fun t9 et9 => ?_)
            have hF := mi_let hF et9
            refine lv_ior hx hb dX5_comesFrom_94 ?_
            refine lv_topi (fun t10 et10 => ?_)
            have hF := mi_let hF et10
            refine lv_iload hx hb dX5_comesFrom_95 (lv_at hl 2 rfl) ?_
            refine cr_i (va_runV (As := [.ref (ad 4), .int v8_21, .int 2, .int t10, .int r2]) (rest := []) ⟨hx, hb, hml, hown, hts⟩ (sx_comesFrom2 l dC dI cs ad mu ok s.heap hP v8_21 t10 r2 (by have h52 : (2 : Int32).toInt = 2 := rfl; omega)) (cwV 5 hts (wU_V mw_4_106 mw_4_103 mw_4_105 mw_0_18 mw_1_8) rfl rfl rfl (by decide +kernel) ⟨Nat.le_of_ble_eq_true rfl, Nat.le_of_ble_eq_true rfl⟩) ⟨sz_c, va_recv hK hP (ci := 5) (q0 := 32) rfl (gX_32 cs ad mu), sz_m hK hz⟩ rfl rfl hl.1 rfl (lv_room (Nat.le_of_ble_eq_true rfl)) dX5_comesFrom_97 ⟨Nat.zero_le _, Nat.zero_le _⟩) hS (fun r11 hw11 locs hS => ?_)
            obtain ⟨hfe11, hw11⟩ := hw11
            have hF := mi_let hF hfe11
            have gr11 : 0 ≤ r11.toInt ∧ r11.toInt ≤ 1 := hw11
            refine lv_if_eq (tgt := 105) hx hb dX5_comesFrom_100 (by decide) (fun c_12 => ?_) (fun c_12 => ?_)
            · have hF := (if_pos c_12).symm.trans hF
              have c_12 : r11.toInt = 0 := il_eq c_12
              refine lv_iinc (v := (v8_21 + 1)) (lv' := [(8, .int (v8_21 + 1)), (7, .int 2), (6, .int r2), (0, .ref (ad 32)), (1, .ref (ad 4)), (2, .int vx), (3, .int 1), (4, .int vu), (5, .int vp)]) hx hb dX5_comesFrom_105 hl (k := 0) rfl rfl (by decide) rfl (fun ls hl => ?_)
              refine loc_gen (P := fun w9 => lv_has ls 9 [(8, .int w9), (7, .int 2), (6, .int r2), (0, .ref (ad 32)), (1, .ref (ad 4)), (2, .int vx), (3, .int 1), (4, .int vu), (5, .int vp)]) (v8_21 + 1) hl (fun w13 hw13 hl => ?_)
              have hl : lv_has ls 9 [(8, .int w13), (7, .int 2), (6, .int r2), (0, .ref (ad 32)), (1, .ref (ad 4)), (2, .int vx), (3, .int 1), (4, .int vu), (5, .int vp)] := hl
              have hF := mi_let hF hw13.symm
              have aw13 : w13.toInt = v8_21.toInt + 1 := by rw [← hw13]; first | exact va1 (Int.lt_of_le_of_lt h_v8_21.2 (by decide)) | exact va1 (by omega)
              refine lv_goto (tgt := 21) hx hb dX5_comesFrom_108 (by decide) ?_
              exact ih21 (w13)  _ _ (by first | exact ms_up hm_21 aw13 h_v8_21.2 | exact ms_lt hm_21 (by omega) (by omega) | omega) (by first | exact rg_up aw13 h_v8_21 (by omega) | omega)   hF hS (lv_sub hl [0, 1, 2, 3, 4, 5, 6, 7, 8] rfl)
            · have hF := (if_neg c_12).symm.trans hF
              have c_12 : ¬ r11.toInt = 0 := il_ne c_12
              refine lv_iconst (v := 1) hx hb dX5_comesFrom_103 (by decide) ?_
              exact W.zret (v := 1) (ty := .boolean) hx hb hr (by first | rfl | decide) (fun t ht hW => ⟨⟨1, (), rfl, ⟨hF.trans hfz.symm, (by have h6 : (1 : Int32).toInt = 1 := rfl; omega)⟩, ht⟩, hS.F ht⟩) hS.2.2 dX5_comesFrom_104
          · have hF := (if_pos c_8).symm.trans hF
            have c_8 : v8_21.toInt = y7.toInt := il_eq c_8
            refine lv_aload_n hx hb dX5_comesFrom_64 rfl (lv_at hl 3 rfl) ?_
            refine lv_iload hx hb dX5_comesFrom_65 (lv_at hl 1 rfl) ?_
            refine lv_iload hx hb dX5_comesFrom_67 (lv_at hl 2 rfl) ?_
            refine cr_i (va_runV (As := [.int 2, .int r2]) (rest := []) ⟨hx, hb, hml, hown, hts⟩ (sx_needFor l dC dI cs ad mu ok s.heap hP 2 r2) (cwV 2 hts (wU_V mw_4_48 mw_4_45 mw_4_47 mw_0_16 mw_1_8) rfl rfl rfl (by decide +kernel) ⟨Nat.le_of_ble_eq_true rfl, Nat.le_of_ble_eq_true rfl⟩) ⟨sz_c, va_recv hK hP (ci := 5) (q0 := 32) rfl (gX_32 cs ad mu), sz_m hK hz⟩ rfl rfl hl.1 rfl (lv_room (Nat.le_of_ble_eq_true rfl)) dX5_comesFrom_69 ⟨Nat.zero_le _, Nat.zero_le _⟩) hS (fun r14 hw14 locs hS => ?_)
            obtain ⟨hfe14, hw14⟩ := hw14
            have hF := mi_let hF hfe14
            refine lv_aload_n hx hb dX5_comesFrom_72 rfl (lv_at hl 3 rfl) ?_
            refine va_get (D := (dC, dI)) (ci := 5) (v := .int (mu 32 8)) (C := RX5) (T := TX5) (N := 15) hx hb hts inG5 hown hK hP 32 (gX_32 cs ad mu) rfl 8 (by decide) (hts _ (List.mem_cons_of_mem _ mw_2_56)) (fun _ h9 => h9) rfl dX5_comesFrom_73 ?_
            refine lv_topi (fun y15 ey15 => ?_)
            have hF := mi_let hF ey15
            have by15 : y15.toInt = (mu 32 8).toInt := congrArg Int32.toInt ey15
            refine lv_icmp_gt (tgt := 105) hx hb dX5_comesFrom_76 (by decide) (fun c_16 => ?_) (fun c_16 => ?_)
            · have hF := (if_pos c_16).symm.trans hF
              have c_16 : y15.toInt < r14.toInt := il_lt c_16
              refine lv_iinc (v := (v8_21 + 1)) (lv' := [(8, .int (v8_21 + 1)), (7, .int 2), (6, .int r2), (0, .ref (ad 32)), (1, .ref (ad 4)), (2, .int vx), (3, .int 1), (4, .int vu), (5, .int vp)]) hx hb dX5_comesFrom_105 hl (k := 0) rfl rfl (by decide) rfl (fun ls hl => ?_)
              refine loc_gen (P := fun w9 => lv_has ls 9 [(8, .int w9), (7, .int 2), (6, .int r2), (0, .ref (ad 32)), (1, .ref (ad 4)), (2, .int vx), (3, .int 1), (4, .int vu), (5, .int vp)]) (v8_21 + 1) hl (fun w17 hw17 hl => ?_)
              have hl : lv_has ls 9 [(8, .int w17), (7, .int 2), (6, .int r2), (0, .ref (ad 32)), (1, .ref (ad 4)), (2, .int vx), (3, .int 1), (4, .int vu), (5, .int vp)] := hl
              have hF := mi_let hF hw17.symm
              have aw17 : w17.toInt = v8_21.toInt + 1 := by rw [← hw17]; first | exact va1 (Int.lt_of_le_of_lt h_v8_21.2 (by decide)) | exact va1 (by omega)
              refine lv_goto (tgt := 21) hx hb dX5_comesFrom_108 (by decide) ?_
              exact ih21 (w17)  _ _ (by first | exact ms_up hm_21 aw17 h_v8_21.2 | exact ms_lt hm_21 (by omega) (by omega) | omega) (by first | exact rg_up aw17 h_v8_21 (by omega) | omega)   hF hS (lv_sub hl [0, 1, 2, 3, 4, 5, 6, 7, 8] rfl)
            · have hF := (if_neg c_16).symm.trans hF
              have c_16 : r14.toInt ≤ y15.toInt := il_nlt c_16
              refine lv_goto (tgt := 103) hx hb dX5_comesFrom_79 (by decide) ?_
              refine lv_iconst (v := 1) hx hb dX5_comesFrom_103 (by decide) ?_
              exact W.zret (v := 1) (ty := .boolean) hx hb hr (by first | rfl | decide) (fun t ht hW => ⟨⟨1, (), rfl, ⟨hF.trans hfz.symm, (by have h6 : (1 : Int32).toInt = 1 := rfl; omega)⟩, ht⟩, hS.F ht⟩) hS.2.2 dX5_comesFrom_104
        · have hF := (if_pos c_6).symm.trans hF
          have c_6 : r5.toInt = 0 := il_eq c_6
          refine lv_goto (tgt := 105) hx hb dX5_comesFrom_52 (by decide) ?_
          refine lv_iinc (v := (v8_21 + 1)) (lv' := [(8, .int (v8_21 + 1)), (7, .int 2), (6, .int r2), (0, .ref (ad 32)), (1, .ref (ad 4)), (2, .int vx), (3, .int 1), (4, .int vu), (5, .int vp)]) hx hb dX5_comesFrom_105 hl (k := 0) rfl rfl (by decide) rfl (fun ls hl => ?_)
          refine loc_gen (P := fun w9 => lv_has ls 9 [(8, .int w9), (7, .int 2), (6, .int r2), (0, .ref (ad 32)), (1, .ref (ad 4)), (2, .int vx), (3, .int 1), (4, .int vu), (5, .int vp)]) (v8_21 + 1) hl (fun w18 hw18 hl => ?_)
          have hl : lv_has ls 9 [(8, .int w18), (7, .int 2), (6, .int r2), (0, .ref (ad 32)), (1, .ref (ad 4)), (2, .int vx), (3, .int 1), (4, .int vu), (5, .int vp)] := hl
          have hF := mi_let hF hw18.symm
          have aw18 : w18.toInt = v8_21.toInt + 1 := by rw [← hw18]; first | exact va1 (Int.lt_of_le_of_lt h_v8_21.2 (by decide)) | exact va1 (by omega)
          refine lv_goto (tgt := 21) hx hb dX5_comesFrom_108 (by decide) ?_
          exact ih21 (w18)  _ _ (by first | exact ms_up hm_21 aw18 h_v8_21.2 | exact ms_lt hm_21 (by omega) (by omega) | omega) (by first | exact rg_up aw18 h_v8_21 (by omega) | omega)   hF hS (lv_sub hl [0, 1, 2, 3, 4, 5, 6, 7, 8] rfl)
  exact loop21 10 (0)  _ _ (by have h80 : (0 : Int32).toInt = 0 := rfl; omega) (by have h80 : (0 : Int32).toInt = 0 := rfl; exact ⟨by omega, by omega⟩)   hF hS hl
set_option maxHeartbeats 4000000 in
set_option maxRecDepth 100000 in
/-- sx_comesFrom0 -/
theorem sx_comesFrom0 (l : Launch) (dC : Nat → ClassId) (dI : Nat → Nat → Nat) (cs : Nat → ClassId) (ad : Nat → Nat) (mu : Nat → Nat → Int32) (ok : okR loX hiX mu) (H : Heap) (hP : va_P (dC, dI) vwCl (wR 157 ad (EX cs ad) mu) H) (vx : Int32) (vu : Int32) (vp : Int32) (hin0 : 0 ≤ vx.toInt ∧ vx.toInt ≤ 6) : Met l yX5_comesFrom (wU yX5_comesFrom cX5_comesFrom 9 (some .boolean)) ({ frames := 7, cells := 0, slots := 0, locals := 189 }) (va_Pc [.ref (ad 32), .ref (ad 4), .int vx, .int 0, .int vu, .int vp] (sz_P (dC, dI) vwCl (tyW cs) H)) (va_Qi (fun (z : Int32) (_ : Unit) => z = F_sx_comesFrom0 mu vx vu vp ∧ (0 ≤ z.toInt ∧ z.toInt ≤ 1)) (fun _ t => t.heap = H) (fun _ => False)) 0 0 (fun _ => False) := by
  refine Met.ofW (cc := cX5_comesFrom) (maxL := 9) (ret := (some .boolean)) (by decide) rfl ?_
  intro p e s m args below meth c s₁ B hml hv
  obtain ⟨rfl, hh, hK, hz⟩ := hv
  have hx := B.exec
  have hb := B.bytes
  have hr := B.returns
  have hts := atoms_spec (ws := (wU yX5_comesFrom cX5_comesFrom 9 (some .boolean))) B.pre
  have hown : s.vm.findClass RX5 = some m.cls := findClass_of_methodNamed B.named
  have hlocks := B.notSynchronized
  subst hh
  have hS : va_S (fun _ => False) s.heap s.heap [] := va_S.rf
  have hl := lv_entry ([.ref (ad 32), .ref (ad 4), .int vx, .int 0, .int vu, .int vp]) (n := 9) (Nat.le_of_ble_eq_true rfl)
  rw [lg_entry_eq]
  generalize (lg_sl ([.ref (ad 32), .ref (ad 4), .int vx, .int 0, .int vu, .int vp]) ++ List.replicate (9 - (lg_sl ([.ref (ad 32), .ref (ad 4), .int vx, .int 0, .int vu, .int vp])).length) Slot.unset).toArray = ls at hl ⊢
  have hl : lv_has ls 9 [(0, .ref (ad 32)), (1, .ref (ad 4)), (2, .int vx), (3, .int 0), (4, .int vu), (5, .int vp)] := hl
  obtain ⟨fz, hfz⟩ : ∃ z, F_sx_comesFrom0 mu vx vu vp = z := ⟨_, rfl⟩
  have hF := hfz
  unfold F_sx_comesFrom0 at hF
  refine lv_aload_n hx hb dX5_comesFrom_0 rfl (lv_at hl 1 rfl) ?_
  refine va_get (D := (dC, dI)) (ci := 10) (v := .ref (ad 34)) (C := RX10) (T := TX10) (N := 8) hx hb hts inG10 hown hK hP 4 (gX_4 cs ad mu) rfl 0 (by decide) (hts _ (List.mem_cons_of_mem _ mw_1_146)) (fun _ h9 => h9) rfl dX5_comesFrom_1 ?_
  refine lv_iload_n hx hb dX5_comesFrom_4 rfl (lv_at hl 2 rfl) ?_
  refine va_iald hx hb hK hP 34 0 (gX_34 cs ad mu) rfl (show vp_in vx 7 from vi_of (by omega) (by omega)) dX5_comesFrom_5 ?_
  refine lv_topi (fun y1 ey1 => ?_)
  have hF := mi_let hF ey1
  have by1 : y1.toInt = (mu 34 vx.toNatClampNeg).toInt := congrArg Int32.toInt ey1
  refine lv_iload hx hb dX5_comesFrom_6 (lv_at hl 5 rfl) ?_
  refine cr_i (va_runSN (As := [.int y1, .int vp]) (rest := []) ⟨hx, hb, hml, hown, hts⟩ (sx_priceAsked l dC dI (tyW cs) s.heap y1 vp) ⟨va_cnB 2 hts (wU_in mw_3_107) rfl rfl rfl (hz.2.2.2.2.2.2.2.2.2.2.2.2.2.1) (hts _ (List.mem_cons_of_mem _ mw_1_1)) (by decide +kernel) ⟨Nat.le_of_ble_eq_true rfl, Nat.le_of_ble_eq_true rfl⟩, (hts _ (List.mem_cons_of_mem _ mw_3_106)), trivial⟩ ⟨sz_c, sz_m hK hz⟩ rfl rfl hl.1 rfl (lv_room (Nat.le_of_ble_eq_true rfl)) dX5_comesFrom_8 ⟨Nat.zero_le _, Nat.zero_le _⟩) hS (fun r2 hw2 locs hS => ?_)
  obtain ⟨hfe2, hw2⟩ := hw2
  have hF := mi_let hF hfe2
  refine lv_istore (lv' := [(6, .int r2), (0, .ref (ad 32)), (1, .ref (ad 4)), (2, .int vx), (3, .int 0), (4, .int vu), (5, .int vp)]) hx hb dX5_comesFrom_11 hl (by decide) rfl (fun ls hl => ?_)
  refine lv_iload_n hx hb dX5_comesFrom_13 rfl (lv_at hl 4 rfl) ?_
  refine lv_iconst (v := 1) hx hb dX5_comesFrom_14 (by decide) ?_
  refine lv_iadd hx hb dX5_comesFrom_15 ?_
  refine lq_i 1 (by decide) ?_
  refine lv_istore (lv' := [(7, .int 1), (6, .int r2), (0, .ref (ad 32)), (1, .ref (ad 4)), (2, .int vx), (3, .int 0), (4, .int vu), (5, .int vp)]) hx hb dX5_comesFrom_16 hl (by decide) rfl (fun ls hl => ?_)
  refine lv_iconst (v := 0) hx hb dX5_comesFrom_18 (by decide) ?_
  refine lv_istore (lv' := [(8, .int 0), (7, .int 1), (6, .int r2), (0, .ref (ad 32)), (1, .ref (ad 4)), (2, .int vx), (3, .int 0), (4, .int vu), (5, .int vp)]) hx hb dX5_comesFrom_19 hl (by decide) rfl (fun ls hl => ?_)
  have loop21 : ∀ (n21 : Nat) (v8_21 : Int32) (locs : List Loc) (ls : Array Slot), (7 + 1 - v8_21.toInt).toNat < n21 → (0 ≤ v8_21.toInt ∧ v8_21.toInt ≤ 7) → L_sx_comesFrom0_21_0 mu r2 vu vx n21 v8_21 = fz → va_S (fun _ => False) s.heap s.heap locs → lv_has ls 9 [(8, .int v8_21), (7, .int 1), (6, .int r2), (0, .ref (ad 32)), (1, .ref (ad 4)), (2, .int vx), (3, .int 0), (4, .int vu), (5, .int vp)] → W p l e (headSpec (wU yX5_comesFrom cX5_comesFrom 9 (some .boolean)) ({ frames := 7, cells := 0, slots := 0, locals := 189 })).room s m ([.ref (ad 32), .ref (ad 4), .int vx, .int 0, .int vu, .int vp] : List Value).toArray below meth c s.heap locs 0 0 (MQ below (va_Qi (fun (z : Int32) (_ : Unit) => z = F_sx_comesFrom0 mu vx vu vp ∧ (0 ≤ z.toInt ∧ z.toInt ≤ 1)) (fun _ t => t.heap = s.heap) (fun _ => False)) ([.ref (ad 32), .ref (ad 4), .int vx, .int 0, .int vu, .int vp] : List Value).toArray s 0 0 (fun _ => False)) (F0 m 21 ls []) := by
    intro n21
    induction n21 with
    | zero => intro v8_21 locs ls hm; exact absurd hm (Nat.not_lt_zero _)
    | succ n21 ih21 =>
      intro v8_21 locs ls hm_21 h_v8_21 hF hS hl
      rw [L_sx_comesFrom0_21_0] at hF
      refine lv_iload hx hb dX5_comesFrom_21 (lv_at hl 0 rfl) ?_
      refine lv_aload_n hx hb dX5_comesFrom_23 rfl (lv_at hl 4 rfl) ?_
      refine va_get (D := (dC, dI)) (ci := 10) (v := .int (mu 4 6)) (C := RX10) (T := TX10) (N := 8) hx hb hts inG10 hown hK hP 4 (gX_4 cs ad mu) rfl 6 (by decide) (hts _ (List.mem_cons_of_mem _ mw_1_162)) (fun _ h9 => h9) rfl dX5_comesFrom_24 ?_
      refine lv_topi (fun y3 ey3 => ?_)
      have hF := mi_let hF ey3
      have by3 : y3.toInt = (mu 4 6).toInt := congrArg Int32.toInt ey3
      have gy3 : 0 ≤ y3.toInt ∧ y3.toInt ≤ 7 := by rw [ey3]; exact rX_4_6 ok
      refine lv_icmp_ge (tgt := 111) hx hb dX5_comesFrom_27 (by decide) (fun c_4 => ?_) (fun c_4 => ?_)
      · have hF := (if_pos c_4).symm.trans hF
        have c_4 : y3.toInt ≤ v8_21.toInt := il_le c_4
        refine lv_iconst (v := 0) hx hb dX5_comesFrom_111 (by decide) ?_
        exact W.zret (v := 0) (ty := .boolean) hx hb hr (by first | rfl | decide) (fun t ht hW => ⟨⟨0, (), rfl, ⟨hF.trans hfz.symm, (by have h6 : (0 : Int32).toInt = 0 := rfl; omega)⟩, ht⟩, hS.F ht⟩) hS.2.2 dX5_comesFrom_112
      · have hF := (if_neg c_4).symm.trans hF
        have c_4 : v8_21.toInt < y3.toInt := il_nle c_4
        refine lv_iload hx hb dX5_comesFrom_30 (lv_at hl 1 rfl) ?_
        refine lv_bipush (v := 7) hx hb dX5_comesFrom_32 (by decide) ?_
        refine lv_icmp_ge (tgt := 111) hx hb dX5_comesFrom_34 (by decide) (fun c => absurd c (by decide)) (fun _ => ?_)
        refine lv_aload_n hx hb dX5_comesFrom_37 rfl (lv_at hl 3 rfl) ?_
        refine lv_aload_n hx hb dX5_comesFrom_38 rfl (lv_at hl 4 rfl) ?_
        refine lv_iload_n hx hb dX5_comesFrom_39 rfl (lv_at hl 5 rfl) ?_
        refine lv_iload hx hb dX5_comesFrom_40 (lv_at hl 0 rfl) ?_
        refine lv_iload hx hb dX5_comesFrom_42 (lv_at hl 7 rfl) ?_
        refine lv_iload hx hb dX5_comesFrom_44 (lv_at hl 2 rfl) ?_
        refine cr_i (va_runV (As := [.ref (ad 4), .int vx, .int v8_21, .int vu, .int r2]) (rest := []) ⟨hx, hb, hml, hown, hts⟩ (sx_buys l dC dI cs ad mu ok s.heap hP vx v8_21 vu r2 (by omega)) (cwV 5 hts (wU_V mw_4_34 mw_4_31 mw_4_33 mw_0_14 mw_1_8) rfl rfl rfl (by decide +kernel) ⟨Nat.le_of_ble_eq_true rfl, Nat.le_of_ble_eq_true rfl⟩) ⟨sz_c, va_recv hK hP (ci := 5) (q0 := 32) rfl (gX_32 cs ad mu), sz_m hK hz⟩ rfl rfl hl.1 rfl (lv_room (Nat.le_of_ble_eq_true rfl)) dX5_comesFrom_46 ⟨Nat.zero_le _, Nat.zero_le _⟩) hS (fun r5 hw5 locs hS => ?_)
        obtain ⟨hfe5, hw5⟩ := hw5
        have hF := mi_let hF hfe5
        have gr5 : 0 ≤ r5.toInt ∧ r5.toInt ≤ 1 := hw5
        refine lv_if_ne (tgt := 55) hx hb dX5_comesFrom_49 (by decide) (fun c_6 => ?_) (fun c_6 => ?_)
        · have hF := (if_neg c_6).symm.trans hF
          have c_6 : ¬ r5.toInt = 0 := il_ne c_6
          refine lv_iload hx hb dX5_comesFrom_55 (lv_at hl 0 rfl) ?_
          refine lv_aload_n hx hb dX5_comesFrom_57 rfl (lv_at hl 3 rfl) ?_
          refine va_get (D := (dC, dI)) (ci := 5) (v := .int (mu 32 6)) (C := RX5) (T := TX5) (N := 15) hx hb hts inG5 hown hK hP 32 (gX_32 cs ad mu) rfl 6 (by decide) (hts _ (List.mem_cons_of_mem _ mw_2_54)) (fun _ h9 => h9) rfl dX5_comesFrom_58 ?_
          refine lv_topi (fun y7 ey7 => ?_)
          have hF := mi_let hF ey7
          have by7 : y7.toInt = (mu 32 6).toInt := congrArg Int32.toInt ey7
          have gy7 : 0 ≤ y7.toInt ∧ y7.toInt ≤ 6 := by rw [ey7]; exact rX_32_6 ok
          refine lv_icmp_ne (tgt := 82) hx hb dX5_comesFrom_61 (by decide) (fun c_8 => ?_) (fun c_8 => ?_)
          · have hF := (if_neg c_8).symm.trans hF
            have c_8 : ¬ v8_21.toInt = y7.toInt := il_ne c_8
            refine lv_aload_n hx hb dX5_comesFrom_82 rfl (lv_at hl 3 rfl) ?_
            refine lv_aload_n hx hb dX5_comesFrom_83 rfl (lv_at hl 4 rfl) ?_
            refine lv_iload hx hb dX5_comesFrom_84 (lv_at hl 0 rfl) ?_
            refine lv_iload hx hb dX5_comesFrom_86 (lv_at hl 1 rfl) ?_
            refine lv_iload hx hb dX5_comesFrom_88 (lv_at hl 7 rfl) ?_
            refine lv_iconst (v := 1) hx hb dX5_comesFrom_90 (by decide) ?_
            refine lv_iload hx hb dX5_comesFrom_91 (lv_at hl 0 rfl) ?_
            refine lv_ishl hx hb dX5_comesFrom_93 ?_
            refine lv_topi (fun t9 et9 => ?_)
            have hF := mi_let hF et9
            refine lv_ior hx hb dX5_comesFrom_94 ?_
            refine lv_topi (fun t10 et10 => ?_)
            have hF := mi_let hF et10
            refine lv_iload hx hb dX5_comesFrom_95 (lv_at hl 2 rfl) ?_
            refine cr_i (va_runV (As := [.ref (ad 4), .int v8_21, .int 1, .int t10, .int r2]) (rest := []) ⟨hx, hb, hml, hown, hts⟩ (sx_comesFrom1 l dC dI cs ad mu ok s.heap hP v8_21 t10 r2 (by have h52 : (1 : Int32).toInt = 1 := rfl; omega)) (cwV 5 hts (wU_V mw_4_106 mw_4_103 mw_4_105 mw_0_18 mw_1_8) rfl rfl rfl (by decide +kernel) ⟨Nat.le_of_ble_eq_true rfl, Nat.le_of_ble_eq_true rfl⟩) ⟨sz_c, va_recv hK hP (ci := 5) (q0 := 32) rfl (gX_32 cs ad mu), sz_m hK hz⟩ rfl rfl hl.1 rfl (lv_room (Nat.le_of_ble_eq_true rfl)) dX5_comesFrom_97 ⟨Nat.zero_le _, Nat.zero_le _⟩) hS (fun r11 hw11 locs hS => ?_)
            obtain ⟨hfe11, hw11⟩ := hw11
            have hF := mi_let hF hfe11
            have gr11 : 0 ≤ r11.toInt ∧ r11.toInt ≤ 1 := hw11
            refine lv_if_eq (tgt := 105) hx hb dX5_comesFrom_100 (by decide) (fun c_12 => ?_) (fun c_12 => ?_)
            · have hF := (if_pos c_12).symm.trans hF
              have c_12 : r11.toInt = 0 := il_eq c_12
              refine lv_iinc (v := (v8_21 + 1)) (lv' := [(8, .int (v8_21 + 1)), (7, .int 1), (6, .int r2), (0, .ref (ad 32)), (1, .ref (ad 4)), (2, .int vx), (3, .int 0), (4, .int vu), (5, .int vp)]) hx hb dX5_comesFrom_105 hl (k := 0) rfl rfl (by decide) rfl (fun ls hl => ?_)
              refine loc_gen (P := fun w9 => lv_has ls 9 [(8, .int w9), (7, .int 1), (6, .int r2), (0, .ref (ad 32)), (1, .ref (ad 4)), (2, .int vx), (3, .int 0), (4, .int vu), (5, .int vp)]) (v8_21 + 1) hl (fun w13 hw13 hl => ?_)
              have hl : lv_has ls 9 [(8, .int w13), (7, .int 1), (6, .int r2), (0, .ref (ad 32)), (1, .ref (ad 4)), (2, .int vx), (3, .int 0), (4, .int vu), (5, .int vp)] := hl
              have hF := mi_let hF hw13.symm
              have aw13 : w13.toInt = v8_21.toInt + 1 := by rw [← hw13]; first | exact va1 (Int.lt_of_le_of_lt h_v8_21.2 (by decide)) | exact va1 (by omega)
              refine lv_goto (tgt := 21) hx hb dX5_comesFrom_108 (by decide) ?_
              exact ih21 (w13)  _ _ (by first | exact ms_up hm_21 aw13 h_v8_21.2 | exact ms_lt hm_21 (by omega) (by omega) | omega) (by first | exact rg_up aw13 h_v8_21 (by omega) | omega)   hF hS (lv_sub hl [0, 1, 2, 3, 4, 5, 6, 7, 8] rfl)
            · have hF := (if_neg c_12).symm.trans hF
              have c_12 : ¬ r11.toInt = 0 := il_ne c_12
              refine lv_iconst (v := 1) hx hb dX5_comesFrom_103 (by decide) ?_
              exact W.zret (v := 1) (ty := .boolean) hx hb hr (by first | rfl | decide) (fun t ht hW => ⟨⟨1, (), rfl, ⟨hF.trans hfz.symm, (by have h6 : (1 : Int32).toInt = 1 := rfl; omega)⟩, ht⟩, hS.F ht⟩) hS.2.2 dX5_comesFrom_104
          · have hF := (if_pos c_8).symm.trans hF
            have c_8 : v8_21.toInt = y7.toInt := il_eq c_8
            refine lv_aload_n hx hb dX5_comesFrom_64 rfl (lv_at hl 3 rfl) ?_
            refine lv_iload hx hb dX5_comesFrom_65 (lv_at hl 1 rfl) ?_
            refine lv_iload hx hb dX5_comesFrom_67 (lv_at hl 2 rfl) ?_
            refine cr_i (va_runV (As := [.int 1, .int r2]) (rest := []) ⟨hx, hb, hml, hown, hts⟩ (sx_needFor l dC dI cs ad mu ok s.heap hP 1 r2) (cwV 2 hts (wU_V mw_4_48 mw_4_45 mw_4_47 mw_0_16 mw_1_8) rfl rfl rfl (by decide +kernel) ⟨Nat.le_of_ble_eq_true rfl, Nat.le_of_ble_eq_true rfl⟩) ⟨sz_c, va_recv hK hP (ci := 5) (q0 := 32) rfl (gX_32 cs ad mu), sz_m hK hz⟩ rfl rfl hl.1 rfl (lv_room (Nat.le_of_ble_eq_true rfl)) dX5_comesFrom_69 ⟨Nat.zero_le _, Nat.zero_le _⟩) hS (fun r14 hw14 locs hS => ?_)
            obtain ⟨hfe14, hw14⟩ := hw14
            have hF := mi_let hF hfe14
            refine lv_aload_n hx hb dX5_comesFrom_72 rfl (lv_at hl 3 rfl) ?_
            refine va_get (D := (dC, dI)) (ci := 5) (v := .int (mu 32 8)) (C := RX5) (T := TX5) (N := 15) hx hb hts inG5 hown hK hP 32 (gX_32 cs ad mu) rfl 8 (by decide) (hts _ (List.mem_cons_of_mem _ mw_2_56)) (fun _ h9 => h9) rfl dX5_comesFrom_73 ?_
            refine lv_topi (fun y15 ey15 => ?_)
            have hF := mi_let hF ey15
            have by15 : y15.toInt = (mu 32 8).toInt := congrArg Int32.toInt ey15
            refine lv_icmp_gt (tgt := 105) hx hb dX5_comesFrom_76 (by decide) (fun c_16 => ?_) (fun c_16 => ?_)
            · have hF := (if_pos c_16).symm.trans hF
              have c_16 : y15.toInt < r14.toInt := il_lt c_16
              refine lv_iinc (v := (v8_21 + 1)) (lv' := [(8, .int (v8_21 + 1)), (7, .int 1), (6, .int r2), (0, .ref (ad 32)), (1, .ref (ad 4)), (2, .int vx), (3, .int 0), (4, .int vu), (5, .int vp)]) hx hb dX5_comesFrom_105 hl (k := 0) rfl rfl (by decide) rfl (fun ls hl => ?_)
              refine loc_gen (P := fun w9 => lv_has ls 9 [(8, .int w9), (7, .int 1), (6, .int r2), (0, .ref (ad 32)), (1, .ref (ad 4)), (2, .int vx), (3, .int 0), (4, .int vu), (5, .int vp)]) (v8_21 + 1) hl (fun w17 hw17 hl => ?_)
              have hl : lv_has ls 9 [(8, .int w17), (7, .int 1), (6, .int r2), (0, .ref (ad 32)), (1, .ref (ad 4)), (2, .int vx), (3, .int 0), (4, .int vu), (5, .int vp)] := hl
              have hF := mi_let hF hw17.symm
              have aw17 : w17.toInt = v8_21.toInt + 1 := by rw [← hw17]; first | exact va1 (Int.lt_of_le_of_lt h_v8_21.2 (by decide)) | exact va1 (by omega)
              refine lv_goto (tgt := 21) hx hb dX5_comesFrom_108 (by decide) ?_
              exact ih21 (w17)  _ _ (by first | exact ms_up hm_21 aw17 h_v8_21.2 | exact ms_lt hm_21 (by omega) (by omega) | omega) (by first | exact rg_up aw17 h_v8_21 (by omega) | omega)   hF hS (lv_sub hl [0, 1, 2, 3, 4, 5, 6, 7, 8] rfl)
            · have hF := (if_neg c_16).symm.trans hF
              have c_16 : r14.toInt ≤ y15.toInt := il_nlt c_16
              refine lv_goto (tgt := 103) hx hb dX5_comesFrom_79 (by decide) ?_
              refine lv_iconst (v := 1) hx hb dX5_comesFrom_103 (by decide) ?_
              exact W.zret (v := 1) (ty := .boolean) hx hb hr (by first | rfl | decide) (fun t ht hW => ⟨⟨1, (), rfl, ⟨hF.trans hfz.symm, (by have h6 : (1 : Int32).toInt = 1 := rfl; omega)⟩, ht⟩, hS.F ht⟩) hS.2.2 dX5_comesFrom_104
        · have hF := (if_pos c_6).symm.trans hF
          have c_6 : r5.toInt = 0 := il_eq c_6
          refine lv_goto (tgt := 105) hx hb dX5_comesFrom_52 (by decide) ?_
          refine lv_iinc (v := (v8_21 + 1)) (lv' := [(8, .int (v8_21 + 1)), (7, .int 1), (6, .int r2), (0, .ref (ad 32)), (1, .ref (ad 4)), (2, .int vx), (3, .int 0), (4, .int vu), (5, .int vp)]) hx hb dX5_comesFrom_105 hl (k := 0) rfl rfl (by decide) rfl (fun ls hl => ?_)
          refine loc_gen (P := fun w9 => lv_has ls 9 [(8, .int w9), (7, .int 1), (6, .int r2), (0, .ref (ad 32)), (1, .ref (ad 4)), (2, .int vx), (3, .int 0), (4, .int vu), (5, .int vp)]) (v8_21 + 1) hl (fun w18 hw18 hl => ?_)
          have hl : lv_has ls 9 [(8, .int w18), (7, .int 1), (6, .int r2), (0, .ref (ad 32)), (1, .ref (ad 4)), (2, .int vx), (3, .int 0), (4, .int vu), (5, .int vp)] := hl
          have hF := mi_let hF hw18.symm
          have aw18 : w18.toInt = v8_21.toInt + 1 := by rw [← hw18]; first | exact va1 (Int.lt_of_le_of_lt h_v8_21.2 (by decide)) | exact va1 (by omega)
          refine lv_goto (tgt := 21) hx hb dX5_comesFrom_108 (by decide) ?_
          exact ih21 (w18)  _ _ (by first | exact ms_up hm_21 aw18 h_v8_21.2 | exact ms_lt hm_21 (by omega) (by omega) | omega) (by first | exact rg_up aw18 h_v8_21 (by omega) | omega)   hF hS (lv_sub hl [0, 1, 2, 3, 4, 5, 6, 7, 8] rfl)
  exact loop21 10 (0)  _ _ (by have h80 : (0 : Int32).toInt = 0 := rfl; omega) (by have h80 : (0 : Int32).toInt = 0 := rfl; exact ⟨by omega, by omega⟩)   hF hS hl
set_option maxHeartbeats 4000000 in
set_option maxRecDepth 100000 in
/-- sx_comesUnder -/
theorem sx_comesUnder (l : Launch) (dC : Nat → ClassId) (dI : Nat → Nat → Nat) (cs : Nat → ClassId) (ad : Nat → Nat) (mu : Nat → Nat → Int32) (ok : okR loX hiX mu) (H : Heap) (hP : va_P (dC, dI) vwCl (wR 157 ad (EX cs ad) mu) H) (hD0 : va_D (fun _ => True) (wR 157 ad (EX cs ad) mu)) (vs : Int32) : Met l yX5_comesUnder (wU yX5_comesUnder cX5_comesUnder 3 (some .boolean)) ({ frames := 8, cells := 0, slots := 0, locals := 217 }) (va_Pc [.ref (ad 32), .ref (ad 4), .int vs] (sz_P (dC, dI) vwCl (tyW cs) H)) (va_Qi (fun (z : Int32) (xi : Nat → Nat → Int32) => (z, xi) = F_sx_comesUnder mu vs ∧ okR loX hiX xi ∧ (0 ≤ z.toInt ∧ z.toInt ≤ 1) ∧ (∀ k f : Nat, Nat.testBit 510 (gpX k f) = true → xi k f = mu k f)) (fun xi t => va_P (dC, dI) vwCl (wR 157 ad (EX cs ad) xi) t.heap) (va_A (wR 157 ad (EX cs ad) mu) H.size)) 0 0 (va_A (wR 157 ad (EX cs ad) mu) H.size) := by
  refine Met.ofW (cc := cX5_comesUnder) (maxL := 3) (ret := (some .boolean)) (by decide) rfl ?_
  intro p e s m args below meth c s₁ B hml hv
  obtain ⟨rfl, hh, hK, hz⟩ := hv
  have hx := B.exec
  have hb := B.bytes
  have hr := B.returns
  have hts := atoms_spec (ws := (wU yX5_comesUnder cX5_comesUnder 3 (some .boolean))) B.pre
  have hown : s.vm.findClass RX5 = some m.cls := findClass_of_methodNamed B.named
  have hlocks := B.notSynchronized
  subst hh
  have hD := hD0.self (sz := s.heap.size)
  have hA : ∀ q : Nat, s.heap.size ≤ q → (va_A (wR 157 ad (EX cs ad) mu) s.heap.size) q := fun q h => Or.inr h
  have hS : va_S (va_A (wR 157 ad (EX cs ad) mu) s.heap.size) s.heap s.heap [] := va_S.rf
  have hl := lv_entry ([.ref (ad 32), .ref (ad 4), .int vs]) (n := 3) (Nat.le_of_ble_eq_true rfl)
  rw [lg_entry_eq]
  generalize (lg_sl ([.ref (ad 32), .ref (ad 4), .int vs]) ++ List.replicate (3 - (lg_sl ([.ref (ad 32), .ref (ad 4), .int vs])).length) Slot.unset).toArray = ls at hl ⊢
  have hl : lv_has ls 3 [(0, .ref (ad 32)), (1, .ref (ad 4)), (2, .int vs)] := hl
  obtain ⟨fz, hfz⟩ : ∃ z, F_sx_comesUnder mu vs = z := ⟨_, rfl⟩
  have hF := hfz
  unfold F_sx_comesUnder at hF
  refine lv_aload_n hx hb dX5_comesUnder_0 rfl (lv_at hl 0 rfl) ?_
  refine lv_aload_n hx hb dX5_comesUnder_1 rfl (lv_at hl 1 rfl) ?_
  refine lv_aload_n hx hb dX5_comesUnder_2 rfl (lv_at hl 1 rfl) ?_
  refine va_get (D := (dC, dI)) (ci := 10) (v := .ref (ad 5)) (C := RX10) (T := TX10) (N := 8) hx hb hts inG10 hown hK hP 4 (gX_4 cs ad mu) rfl 3 (by decide) (hts _ (List.mem_cons_of_mem _ mw_1_153)) (fun _ h9 => h9) rfl dX5_comesUnder_3 ?_
  refine va_get (D := (dC, dI)) (ci := 8) (v := .int (mu 5 2)) (C := RX8) (T := TX8) (N := 6) hx hb hts inG8 hown hK hP 5 (gX_5 cs ad mu) rfl 2 (by decide) (hts _ (List.mem_cons_of_mem _ mw_1_114)) (fun _ h9 => h9) rfl dX5_comesUnder_6 ?_
  refine lv_topi (fun y1 ey1 => ?_)
  have hF := mi_let hF ey1
  have by1 : y1.toInt = (mu 5 2).toInt := congrArg Int32.toInt ey1
  refine lv_iload_n hx hb dX5_comesUnder_9 rfl (lv_at hl 2 rfl) ?_
  refine lv_ior hx hb dX5_comesUnder_10 ?_
  refine lv_topi (fun t2 et2 => ?_)
  have hF := mi_let hF et2
  have hFc := fr_all (wR_D mu hD) hS hA
  refine va_callv (va_runV (As := [.ref (ad 4), .int t2]) (rest := []) ⟨hx, hb, hml, hown, hts⟩ (sx_linkUnder l dC dI cs ad mu ok s.heap hP ((wR_D mu hD).weaken (fun _ _ _ _ => trivial)) t2) (cwV 2 hts (wU_V mw_4_18 mw_4_15 mw_4_17 mw_0_11 mw_1_8) rfl rfl rfl (by decide +kernel) ⟨Nat.le_of_ble_eq_true rfl, Nat.le_of_ble_eq_true rfl⟩) ⟨sz_c, va_recv hK hP (ci := 5) (q0 := 32) rfl (gX_32 cs ad mu), sz_m hK hz⟩ rfl rfl hl.1 rfl (lv_room (Nat.le_of_ble_eq_true rfl)) dX5_comesUnder_11 ⟨Nat.zero_le _, Nat.zero_le _⟩) hS (fun q _ h => hFc q h) hFc (fun xi3 t H3 locs ht hvm hw3 hB hz1 hk1 hS => ?_)
  have hP : va_P (dC, dI) vwCl (wR 157 ad (EX cs ad) xi3) H3 := by rw [← ht]; exact hB
  obtain ⟨hfe3, ok, hw3, hkp3_0⟩ := hw3
  have hF := mi_let hF hfe3
  have kp4 : (∀ k f : Nat, Nat.testBit 510 (gpX k f) = true → xi3 k f = mu k f) := kp_t hkp3_0 (by decide) (fun _ _ _ => rfl)
  refine lv_aload_n hx hb dX5_comesUnder_14 rfl (lv_at hl 0 rfl) ?_
  refine lv_aload_n hx hb dX5_comesUnder_15 rfl (lv_at hl 1 rfl) ?_
  refine lv_aload_n hx hb dX5_comesUnder_16 rfl (lv_at hl 0 rfl) ?_
  refine va_get (D := (dC, dI)) (ci := 5) (v := .int (xi3 32 5)) (C := RX5) (T := TX5) (N := 15) hx hb hts inG5 hown hK hP 32 (gX_32 cs ad xi3) rfl 5 (by decide) (hts _ (List.mem_cons_of_mem _ mw_2_53)) (fun _ h9 => h9) rfl dX5_comesUnder_17 ?_
  refine lv_topi (fun y5 ey5 => ?_)
  have hF := mi_let hF ey5
  have by5 : y5.toInt = (xi3 32 5).toInt := congrArg Int32.toInt ey5
  have gy5 : 0 ≤ y5.toInt ∧ y5.toInt ≤ 6 := by rw [ey5]; exact rX_32_5 ok
  refine lv_iconst (v := 0) hx hb dX5_comesUnder_20 (by decide) ?_
  refine lv_iconst (v := 1) hx hb dX5_comesUnder_21 (by decide) ?_
  refine lv_aload_n hx hb dX5_comesUnder_22 rfl (lv_at hl 0 rfl) ?_
  refine va_get (D := (dC, dI)) (ci := 5) (v := .int (xi3 32 5)) (C := RX5) (T := TX5) (N := 15) hx hb hts inG5 hown hK hP 32 (gX_32 cs ad xi3) rfl 5 (by decide) (hts _ (List.mem_cons_of_mem _ mw_2_53)) (fun _ h9 => h9) rfl dX5_comesUnder_23 ?_
  refine lq_i y5 ey5.symm ?_
  refine lv_ishl hx hb dX5_comesUnder_26 ?_
  refine lv_topi (fun t6 et6 => ?_)
  have hF := mi_let hF et6
  refine lv_aload_n hx hb dX5_comesUnder_27 rfl (lv_at hl 0 rfl) ?_
  refine va_get (D := (dC, dI)) (ci := 5) (v := .int (xi3 32 7)) (C := RX5) (T := TX5) (N := 15) hx hb hts inG5 hown hK hP 32 (gX_32 cs ad xi3) rfl 7 (by decide) (hts _ (List.mem_cons_of_mem _ mw_2_55)) (fun _ h9 => h9) rfl dX5_comesUnder_28 ?_
  refine lv_topi (fun y7 ey7 => ?_)
  have hF := mi_let hF ey7
  have by7 : y7.toInt = (xi3 32 7).toInt := congrArg Int32.toInt ey7
  refine cr_i (va_runV (As := [.ref (ad 4), .int y5, .int 0, .int t6, .int y7]) (rest := []) ⟨hx, hb, hml, hown, hts⟩ (sx_comesFrom0 l dC dI cs ad xi3 ok H3 hP y5 t6 y7 (by have h52 : (0 : Int32).toInt = 0 := rfl; omega)) (cwV 5 hts (wU_V mw_4_106 mw_4_103 mw_4_105 mw_0_18 mw_1_8) rfl rfl rfl (by decide +kernel) ⟨Nat.le_of_ble_eq_true rfl, Nat.le_of_ble_eq_true rfl⟩) ⟨sz_c, va_recv hK hP (ci := 5) (q0 := 32) rfl (gX_32 cs ad xi3), sz_m hK hz⟩ rfl rfl hl.1 rfl (lv_room (Nat.le_of_ble_eq_true rfl)) dX5_comesUnder_31 ⟨Nat.zero_le _, Nat.zero_le _⟩) hS (fun r8 hw8 locs hS => ?_)
  obtain ⟨hfe8, hw8⟩ := hw8
  have hF := mi_let hF hfe8
  have gr8 : 0 ≤ r8.toInt ∧ r8.toInt ≤ 1 := hw8
  exact W.zret (v := r8) (ty := .boolean) hx hb hr (by rcases nb_of (v := r8) ⟨by omega, by omega⟩ with h7 | h7 <;> rw [h7] <;> first | rfl | decide) (fun t ht hW => ⟨⟨r8, xi3, rfl, ⟨hF.trans hfz.symm, ok, (by omega), kp4⟩, by first | (subst ht; exact hP) | (rw [ht]; exact hP) | (show va_P (dC, dI) vwCl (wR 157 ad (EX cs ad) xi3) t.heap; rw [ht]; exact hP)⟩, hS.F ht⟩) hS.2.2 dX5_comesUnder_34
set_option maxHeartbeats 4000000 in
set_option maxRecDepth 100000 in
/-- sx_isLinked -/
theorem sx_isLinked (l : Launch) (dC : Nat → ClassId) (dI : Nat → Nat → Nat) (cs : Nat → ClassId) (ad : Nat → Nat) (mu : Nat → Nat → Int32) (ok : okR loX hiX mu) (H : Heap) (hP : va_P (dC, dI) vwCl (wR 157 ad (EX cs ad) mu) H) : Met l yX5_isLinked (wU yX5_isLinked cX5_isLinked 5 (some .boolean)) ({ frames := 1, cells := 0, slots := 0, locals := 21 }) (va_Pc [.ref (ad 32), .ref (ad 4)] (sz_P (dC, dI) vwCl (tyW cs) H)) (va_Qi (fun (z : Int32) (_ : Unit) => z = F_sx_isLinked mu ∧ (0 ≤ z.toInt ∧ z.toInt ≤ 1)) (fun _ t => t.heap = H) (fun _ => False)) 0 0 (fun _ => False) := by
  refine Met.ofW (cc := cX5_isLinked) (maxL := 5) (ret := (some .boolean)) (by decide) rfl ?_
  intro p e s m args below meth c s₁ B hml hv
  obtain ⟨rfl, hh, hK, hz⟩ := hv
  have hx := B.exec
  have hb := B.bytes
  have hr := B.returns
  have hts := atoms_spec (ws := (wU yX5_isLinked cX5_isLinked 5 (some .boolean))) B.pre
  have hown : s.vm.findClass RX5 = some m.cls := findClass_of_methodNamed B.named
  have hlocks := B.notSynchronized
  subst hh
  have hS : va_S (fun _ => False) s.heap s.heap [] := va_S.rf
  have hl := lv_entry ([.ref (ad 32), .ref (ad 4)]) (n := 5) (Nat.le_of_ble_eq_true rfl)
  rw [lg_entry_eq]
  generalize (lg_sl ([.ref (ad 32), .ref (ad 4)]) ++ List.replicate (5 - (lg_sl ([.ref (ad 32), .ref (ad 4)])).length) Slot.unset).toArray = ls at hl ⊢
  have hl : lv_has ls 5 [(0, .ref (ad 32)), (1, .ref (ad 4))] := hl
  obtain ⟨fz, hfz⟩ : ∃ z, F_sx_isLinked mu = z := ⟨_, rfl⟩
  have hF := hfz
  unfold F_sx_isLinked at hF
  refine lv_iconst (v := 1) hx hb dX5_isLinked_0 (by decide) ?_
  refine lv_aload_n hx hb dX5_isLinked_1 rfl (lv_at hl 0 rfl) ?_
  refine va_get (D := (dC, dI)) (ci := 5) (v := .int (mu 32 5)) (C := RX5) (T := TX5) (N := 15) hx hb hts inG5 hown hK hP 32 (gX_32 cs ad mu) rfl 5 (by decide) (hts _ (List.mem_cons_of_mem _ mw_2_53)) (fun _ h9 => h9) rfl dX5_isLinked_2 ?_
  refine lv_topi (fun y1 ey1 => ?_)
  have hF := mi_let hF ey1
  have by1 : y1.toInt = (mu 32 5).toInt := congrArg Int32.toInt ey1
  have gy1 : 0 ≤ y1.toInt ∧ y1.toInt ≤ 6 := by rw [ey1]; exact rX_32_5 ok
  refine lv_ishl hx hb dX5_isLinked_5 ?_
  refine lv_topi (fun t2 et2 => ?_)
  have hF := mi_let hF et2
  refine lv_istore_n (lv' := [(2, .int t2), (0, .ref (ad 32)), (1, .ref (ad 4))]) hx hb dX5_isLinked_6 rfl hl (by decide) rfl (fun ls hl => ?_)
  refine lv_iconst (v := 0) hx hb dX5_isLinked_7 (by decide) ?_
  refine lv_istore_n (lv' := [(3, .int 0), (2, .int t2), (0, .ref (ad 32)), (1, .ref (ad 4))]) hx hb dX5_isLinked_8 rfl hl (by decide) rfl (fun ls hl => ?_)
  have loop9 : ∀ (n9 : Nat) (v2_9 : Int32) (v3_9 : Int32) (locs : List Loc) (ls : Array Slot), (7 + 1 - v3_9.toInt).toNat < n9 → (0 ≤ v3_9.toInt ∧ v3_9.toInt ≤ 7) → L_sx_isLinked_9_0 mu y1 n9 v2_9 v3_9 = fz → va_S (fun _ => False) s.heap s.heap locs → lv_has ls 5 [(3, .int v3_9), (2, .int v2_9), (0, .ref (ad 32)), (1, .ref (ad 4))] → W p l e (headSpec (wU yX5_isLinked cX5_isLinked 5 (some .boolean)) ({ frames := 1, cells := 0, slots := 0, locals := 21 })).room s m ([.ref (ad 32), .ref (ad 4)] : List Value).toArray below meth c s.heap locs 0 0 (MQ below (va_Qi (fun (z : Int32) (_ : Unit) => z = F_sx_isLinked mu ∧ (0 ≤ z.toInt ∧ z.toInt ≤ 1)) (fun _ t => t.heap = s.heap) (fun _ => False)) ([.ref (ad 32), .ref (ad 4)] : List Value).toArray s 0 0 (fun _ => False)) (F0 m 9 ls []) := by
    intro n9
    induction n9 with
    | zero => intro v2_9 v3_9 locs ls hm; exact absurd hm (Nat.not_lt_zero _)
    | succ n9 ih9 =>
      intro v2_9 v3_9 locs ls hm_9 h_v3_9 hF hS hl
      rw [L_sx_isLinked_9_0] at hF
      refine lv_iload_n hx hb dX5_isLinked_9 rfl (lv_at hl 0 rfl) ?_
      refine lv_bipush (v := 7) hx hb dX5_isLinked_10 (by decide) ?_
      refine lv_icmp_ge (tgt := 78) hx hb dX5_isLinked_12 (by decide) (fun c_3 => ?_) (fun c_3 => ?_)
      · have hF := (if_pos c_3).symm.trans hF
        have c_3 : 7 ≤ v3_9.toInt := il_le c_3
        refine lv_iload_n hx hb dX5_isLinked_78 rfl (lv_at hl 1 rfl) ?_
        refine lv_aload_n hx hb dX5_isLinked_79 rfl (lv_at hl 2 rfl) ?_
        refine va_get (D := (dC, dI)) (ci := 5) (v := .int (mu 32 6)) (C := RX5) (T := TX5) (N := 15) hx hb hts inG5 hown hK hP 32 (gX_32 cs ad mu) rfl 6 (by decide) (hts _ (List.mem_cons_of_mem _ mw_2_54)) (fun _ h9 => h9) rfl dX5_isLinked_80 ?_
        refine lv_topi (fun y4 ey4 => ?_)
        have hF := mi_let hF ey4
        have by4 : y4.toInt = (mu 32 6).toInt := congrArg Int32.toInt ey4
        have gy4 : 0 ≤ y4.toInt ∧ y4.toInt ≤ 6 := by rw [ey4]; exact rX_32_6 ok
        refine cr_i (va_runSN (As := [.int v2_9, .int y4]) (rest := []) ⟨hx, hb, hml, hown, hts⟩ (sx_hasBit l dC dI (tyW cs) s.heap v2_9 y4) ⟨va_cnB 2 hts (wU_in mw_3_87) rfl rfl rfl (hz.2.2.2.2.2.2.2.2.2.2.2.2.2.2.1) (hts _ (List.mem_cons_of_mem _ mw_1_1)) (by decide +kernel) ⟨Nat.le_of_ble_eq_true rfl, Nat.le_of_ble_eq_true rfl⟩, (hts _ (List.mem_cons_of_mem _ mw_3_86)), trivial⟩ ⟨sz_c, sz_m hK hz⟩ rfl rfl hl.1 rfl (lv_room (Nat.le_of_ble_eq_true rfl)) dX5_isLinked_83 ⟨Nat.zero_le _, Nat.zero_le _⟩) hS (fun r5 hw5 locs hS => ?_)
        obtain ⟨hfe5, hw5⟩ := hw5
        have hF := mi_let hF hfe5
        have gr5 : 0 ≤ r5.toInt ∧ r5.toInt ≤ 1 := hw5
        exact W.zret (v := r5) (ty := .boolean) hx hb hr (by rcases nb_of (v := r5) ⟨by omega, by omega⟩ with h7 | h7 <;> rw [h7] <;> first | rfl | decide) (fun t ht hW => ⟨⟨r5, (), rfl, ⟨hF.trans hfz.symm, (by omega)⟩, ht⟩, hS.F ht⟩) hS.2.2 dX5_isLinked_86
      · have hF := (if_neg c_3).symm.trans hF
        have c_3 : v3_9.toInt < 7 := il_nle c_3
        refine lv_iconst (v := 0) hx hb dX5_isLinked_15 (by decide) ?_
        refine lv_istore (lv' := [(4, .int 0), (3, .int v3_9), (2, .int v2_9), (0, .ref (ad 32)), (1, .ref (ad 4))]) hx hb dX5_isLinked_16 hl (by decide) rfl (fun ls hl => ?_)
        have loop18 : ∀ (n18 : Nat) (v2_18 : Int32) (v4_18 : Int32) (locs : List Loc) (ls : Array Slot), (7 + 1 - v4_18.toInt).toNat < n18 → (0 ≤ v4_18.toInt ∧ v4_18.toInt ≤ 7) → L_sx_isLinked_18_1 mu v3_9 y1 (fun z_v2_9 z_v3_9 => L_sx_isLinked_9_0 mu y1 n9 z_v2_9 z_v3_9) n18 v2_18 v4_18 = fz → va_S (fun _ => False) s.heap s.heap locs → lv_has ls 5 [(4, .int v4_18), (3, .int v3_9), (2, .int v2_18), (0, .ref (ad 32)), (1, .ref (ad 4))] → W p l e (headSpec (wU yX5_isLinked cX5_isLinked 5 (some .boolean)) ({ frames := 1, cells := 0, slots := 0, locals := 21 })).room s m ([.ref (ad 32), .ref (ad 4)] : List Value).toArray below meth c s.heap locs 0 0 (MQ below (va_Qi (fun (z : Int32) (_ : Unit) => z = F_sx_isLinked mu ∧ (0 ≤ z.toInt ∧ z.toInt ≤ 1)) (fun _ t => t.heap = s.heap) (fun _ => False)) ([.ref (ad 32), .ref (ad 4)] : List Value).toArray s 0 0 (fun _ => False)) (F0 m 18 ls []) := by
          intro n18
          induction n18 with
          | zero => intro v2_18 v4_18 locs ls hm; exact absurd hm (Nat.not_lt_zero _)
          | succ n18 ih18 =>
            intro v2_18 v4_18 locs ls hm_18 h_v4_18 hF hS hl
            rw [L_sx_isLinked_18_1] at hF
            refine lv_iload hx hb dX5_isLinked_18 (lv_at hl 0 rfl) ?_
            refine lv_aload_n hx hb dX5_isLinked_20 rfl (lv_at hl 4 rfl) ?_
            refine va_get (D := (dC, dI)) (ci := 10) (v := .int (mu 4 6)) (C := RX10) (T := TX10) (N := 8) hx hb hts inG10 hown hK hP 4 (gX_4 cs ad mu) rfl 6 (by decide) (hts _ (List.mem_cons_of_mem _ mw_1_162)) (fun _ h9 => h9) rfl dX5_isLinked_21 ?_
            refine lv_topi (fun y6 ey6 => ?_)
            have hF := mi_let hF ey6
            have by6 : y6.toInt = (mu 4 6).toInt := congrArg Int32.toInt ey6
            have gy6 : 0 ≤ y6.toInt ∧ y6.toInt ≤ 7 := by rw [ey6]; exact rX_4_6 ok
            refine lv_icmp_ge (tgt := 72) hx hb dX5_isLinked_24 (by decide) (fun c_7 => ?_) (fun c_7 => ?_)
            · have hF := (if_pos c_7).symm.trans hF
              have c_7 : y6.toInt ≤ v4_18.toInt := il_le c_7
              refine lv_iinc (v := (v3_9 + 1)) (lv' := [(3, .int (v3_9 + 1)), (4, .int v4_18), (2, .int v2_18), (0, .ref (ad 32)), (1, .ref (ad 4))]) hx hb dX5_isLinked_72 hl (k := 1) rfl rfl (by decide) rfl (fun ls hl => ?_)
              refine loc_gen (P := fun w9 => lv_has ls 5 [(3, .int w9), (4, .int v4_18), (2, .int v2_18), (0, .ref (ad 32)), (1, .ref (ad 4))]) (v3_9 + 1) hl (fun w8 hw8 hl => ?_)
              have hl : lv_has ls 5 [(3, .int w8), (4, .int v4_18), (2, .int v2_18), (0, .ref (ad 32)), (1, .ref (ad 4))] := hl
              have hF := mi_let hF hw8.symm
              have aw8 : w8.toInt = v3_9.toInt + 1 := by rw [← hw8]; first | exact va1 (Int.lt_of_le_of_lt h_v3_9.2 (by decide)) | exact va1 (by omega)
              refine lv_goto (tgt := 9) hx hb dX5_isLinked_75 (by decide) ?_
              exact ih9 (v2_18) (w8)  _ _ (by first | exact ms_up hm_9 aw8 h_v3_9.2 | exact ms_lt hm_9 (by omega) (by omega) | omega) (by first | exact rg_up aw8 h_v3_9 (by omega) | omega)   hF hS (lv_sub hl [0, 2, 3, 4] rfl)
            · have hF := (if_neg c_7).symm.trans hF
              have c_7 : v4_18.toInt < y6.toInt := il_nle c_7
              refine lv_iload_n hx hb dX5_isLinked_27 rfl (lv_at hl 2 rfl) ?_
              refine lv_iload hx hb dX5_isLinked_28 (lv_at hl 0 rfl) ?_
              refine cr_i (va_runSN (As := [.int v2_18, .int v4_18]) (rest := []) ⟨hx, hb, hml, hown, hts⟩ (sx_hasBit l dC dI (tyW cs) s.heap v2_18 v4_18) ⟨va_cnB 2 hts (wU_in mw_3_87) rfl rfl rfl (hz.2.2.2.2.2.2.2.2.2.2.2.2.2.2.1) (hts _ (List.mem_cons_of_mem _ mw_1_1)) (by decide +kernel) ⟨Nat.le_of_ble_eq_true rfl, Nat.le_of_ble_eq_true rfl⟩, (hts _ (List.mem_cons_of_mem _ mw_3_86)), trivial⟩ ⟨sz_c, sz_m hK hz⟩ rfl rfl hl.1 rfl (lv_room (Nat.le_of_ble_eq_true rfl)) dX5_isLinked_30 ⟨Nat.zero_le _, Nat.zero_le _⟩) hS (fun r9 hw9 locs hS => ?_)
              obtain ⟨hfe9, hw9⟩ := hw9
              have hF := mi_let hF hfe9
              have gr9 : 0 ≤ r9.toInt ∧ r9.toInt ≤ 1 := hw9
              refine lv_if_eq (tgt := 66) hx hb dX5_isLinked_33 (by decide) (fun c_10 => ?_) (fun c_10 => ?_)
              · have hF := (if_pos c_10).symm.trans hF
                have c_10 : r9.toInt = 0 := il_eq c_10
                refine lv_iinc (v := (v4_18 + 1)) (lv' := [(4, .int (v4_18 + 1)), (3, .int v3_9), (2, .int v2_18), (0, .ref (ad 32)), (1, .ref (ad 4))]) hx hb dX5_isLinked_66 hl (k := 0) rfl rfl (by decide) rfl (fun ls hl => ?_)
                refine loc_gen (P := fun w9 => lv_has ls 5 [(4, .int w9), (3, .int v3_9), (2, .int v2_18), (0, .ref (ad 32)), (1, .ref (ad 4))]) (v4_18 + 1) hl (fun w11 hw11 hl => ?_)
                have hl : lv_has ls 5 [(4, .int w11), (3, .int v3_9), (2, .int v2_18), (0, .ref (ad 32)), (1, .ref (ad 4))] := hl
                have hF := mi_let hF hw11.symm
                have aw11 : w11.toInt = v4_18.toInt + 1 := by rw [← hw11]; first | exact va1 (Int.lt_of_le_of_lt h_v4_18.2 (by decide)) | exact va1 (by omega)
                refine lv_goto (tgt := 18) hx hb dX5_isLinked_69 (by decide) ?_
                exact ih18 (v2_18) (w11)  _ _ (by first | exact ms_up hm_18 aw11 h_v4_18.2 | exact ms_lt hm_18 (by omega) (by omega) | omega) (by first | exact rg_up aw11 h_v4_18 (by omega) | omega)   hF hS (lv_sub hl [0, 1, 2, 3, 4] rfl)
              · have hF := (if_neg c_10).symm.trans hF
                have c_10 : ¬ r9.toInt = 0 := il_ne c_10
                refine lv_iload hx hb dX5_isLinked_36 (lv_at hl 0 rfl) ?_
                refine lv_aload_n hx hb dX5_isLinked_38 rfl (lv_at hl 3 rfl) ?_
                refine va_get (D := (dC, dI)) (ci := 5) (v := .int (mu 32 5)) (C := RX5) (T := TX5) (N := 15) hx hb hts inG5 hown hK hP 32 (gX_32 cs ad mu) rfl 5 (by decide) (hts _ (List.mem_cons_of_mem _ mw_2_53)) (fun _ h9 => h9) rfl dX5_isLinked_39 ?_
                refine lq_i y1 ey1.symm ?_
                refine lv_icmp_eq (tgt := 56) hx hb dX5_isLinked_42 (by decide) (fun c_12 => ?_) (fun c_12 => ?_)
                · have hF := (if_pos c_12).symm.trans hF
                  have c_12 : v4_18.toInt = y1.toInt := il_eq c_12
                  refine lv_iload_n hx hb dX5_isLinked_56 rfl (lv_at hl 2 rfl) ?_
                  refine lv_aload_n hx hb dX5_isLinked_57 rfl (lv_at hl 3 rfl) ?_
                  refine va_get (D := (dC, dI)) (ci := 5) (v := .ref (ad 52)) (C := RX5) (T := TX5) (N := 15) hx hb hts inG5 hown hK hP 32 (gX_32 cs ad mu) rfl 0 (by decide) (hts _ (List.mem_cons_of_mem _ mw_2_46)) (fun _ h9 => h9) rfl dX5_isLinked_58 ?_
                  refine lv_iload hx hb dX5_isLinked_61 (lv_at hl 0 rfl) ?_
                  refine va_iald hx hb hK hP 52 0 (gX_52 cs ad mu) rfl (show vp_in v4_18 7 from vi_of (by omega) (by omega)) dX5_isLinked_63 ?_
                  refine lv_topi (fun y13 ey13 => ?_)
                  have hF := mi_let hF ey13
                  have by13 : y13.toInt = (mu 52 v4_18.toNatClampNeg).toInt := congrArg Int32.toInt ey13
                  refine lv_ior hx hb dX5_isLinked_64 ?_
                  refine lv_topi (fun t14 et14 => ?_)
                  have hF := mi_let hF et14
                  refine lv_istore_n (lv' := [(2, .int t14), (4, .int v4_18), (3, .int v3_9), (0, .ref (ad 32)), (1, .ref (ad 4))]) hx hb dX5_isLinked_65 rfl hl (by decide) rfl (fun ls hl => ?_)
                  refine lv_iinc (v := (v4_18 + 1)) (lv' := [(4, .int (v4_18 + 1)), (2, .int t14), (3, .int v3_9), (0, .ref (ad 32)), (1, .ref (ad 4))]) hx hb dX5_isLinked_66 hl (k := 1) rfl rfl (by decide) rfl (fun ls hl => ?_)
                  refine loc_gen (P := fun w9 => lv_has ls 5 [(4, .int w9), (2, .int t14), (3, .int v3_9), (0, .ref (ad 32)), (1, .ref (ad 4))]) (v4_18 + 1) hl (fun w15 hw15 hl => ?_)
                  have hl : lv_has ls 5 [(4, .int w15), (2, .int t14), (3, .int v3_9), (0, .ref (ad 32)), (1, .ref (ad 4))] := hl
                  have hF := mi_let hF hw15.symm
                  have aw15 : w15.toInt = v4_18.toInt + 1 := by rw [← hw15]; first | exact va1 (Int.lt_of_le_of_lt h_v4_18.2 (by decide)) | exact va1 (by omega)
                  refine lv_goto (tgt := 18) hx hb dX5_isLinked_69 (by decide) ?_
                  exact ih18 (t14) (w15)  _ _ (by first | exact ms_up hm_18 aw15 h_v4_18.2 | exact ms_lt hm_18 (by omega) (by omega) | omega) (by first | exact rg_up aw15 h_v4_18 (by omega) | omega)   hF hS (lv_sub hl [0, 2, 1, 3, 4] rfl)
                · have hF := (if_neg c_12).symm.trans hF
                  have c_12 : ¬ v4_18.toInt = y1.toInt := il_ne c_12
                  refine lv_aload_n hx hb dX5_isLinked_45 rfl (lv_at hl 4 rfl) ?_
                  refine va_get (D := (dC, dI)) (ci := 10) (v := .ref (ad 34)) (C := RX10) (T := TX10) (N := 8) hx hb hts inG10 hown hK hP 4 (gX_4 cs ad mu) rfl 0 (by decide) (hts _ (List.mem_cons_of_mem _ mw_1_146)) (fun _ h9 => h9) rfl dX5_isLinked_46 ?_
                  refine lv_iload hx hb dX5_isLinked_49 (lv_at hl 0 rfl) ?_
                  refine va_iald hx hb hK hP 34 0 (gX_34 cs ad mu) rfl (show vp_in v4_18 7 from vi_of (by omega) (by omega)) dX5_isLinked_51 ?_
                  refine lv_topi (fun y16 ey16 => ?_)
                  have hF := mi_let hF ey16
                  have by16 : y16.toInt = (mu 34 v4_18.toNatClampNeg).toInt := congrArg Int32.toInt ey16
                  refine lv_iconst (v := 3) hx hb dX5_isLinked_52 (by decide) ?_
                  refine lv_icmp_eq (tgt := 66) hx hb dX5_isLinked_53 (by decide) (fun c_17 => ?_) (fun c_17 => ?_)
                  · have hF := (if_pos c_17).symm.trans hF
                    have c_17 : y16.toInt = 3 := il_eq c_17
                    refine lv_iinc (v := (v4_18 + 1)) (lv' := [(4, .int (v4_18 + 1)), (3, .int v3_9), (2, .int v2_18), (0, .ref (ad 32)), (1, .ref (ad 4))]) hx hb dX5_isLinked_66 hl (k := 0) rfl rfl (by decide) rfl (fun ls hl => ?_)
                    refine loc_gen (P := fun w9 => lv_has ls 5 [(4, .int w9), (3, .int v3_9), (2, .int v2_18), (0, .ref (ad 32)), (1, .ref (ad 4))]) (v4_18 + 1) hl (fun w18 hw18 hl => ?_)
                    have hl : lv_has ls 5 [(4, .int w18), (3, .int v3_9), (2, .int v2_18), (0, .ref (ad 32)), (1, .ref (ad 4))] := hl
                    have hF := mi_let hF hw18.symm
                    have aw18 : w18.toInt = v4_18.toInt + 1 := by rw [← hw18]; first | exact va1 (Int.lt_of_le_of_lt h_v4_18.2 (by decide)) | exact va1 (by omega)
                    refine lv_goto (tgt := 18) hx hb dX5_isLinked_69 (by decide) ?_
                    exact ih18 (v2_18) (w18)  _ _ (by first | exact ms_up hm_18 aw18 h_v4_18.2 | exact ms_lt hm_18 (by omega) (by omega) | omega) (by first | exact rg_up aw18 h_v4_18 (by omega) | omega)   hF hS (lv_sub hl [0, 1, 2, 3, 4] rfl)
                  · have hF := (if_neg c_17).symm.trans hF
                    have c_17 : ¬ y16.toInt = 3 := il_ne c_17
                    refine lv_iload_n hx hb dX5_isLinked_56 rfl (lv_at hl 2 rfl) ?_
                    refine lv_aload_n hx hb dX5_isLinked_57 rfl (lv_at hl 3 rfl) ?_
                    refine va_get (D := (dC, dI)) (ci := 5) (v := .ref (ad 52)) (C := RX5) (T := TX5) (N := 15) hx hb hts inG5 hown hK hP 32 (gX_32 cs ad mu) rfl 0 (by decide) (hts _ (List.mem_cons_of_mem _ mw_2_46)) (fun _ h9 => h9) rfl dX5_isLinked_58 ?_
                    refine lv_iload hx hb dX5_isLinked_61 (lv_at hl 0 rfl) ?_
                    refine va_iald hx hb hK hP 52 0 (gX_52 cs ad mu) rfl (show vp_in v4_18 7 from vi_of (by omega) (by omega)) dX5_isLinked_63 ?_
                    refine lv_topi (fun y19 ey19 => ?_)
                    have hF := mi_let hF ey19
                    have by19 : y19.toInt = (mu 52 v4_18.toNatClampNeg).toInt := congrArg Int32.toInt ey19
                    refine lv_ior hx hb dX5_isLinked_64 ?_
                    refine lv_topi (fun t20 et20 => ?_)
                    have hF := mi_let hF et20
                    refine lv_istore_n (lv' := [(2, .int t20), (4, .int v4_18), (3, .int v3_9), (0, .ref (ad 32)), (1, .ref (ad 4))]) hx hb dX5_isLinked_65 rfl hl (by decide) rfl (fun ls hl => ?_)
                    refine lv_iinc (v := (v4_18 + 1)) (lv' := [(4, .int (v4_18 + 1)), (2, .int t20), (3, .int v3_9), (0, .ref (ad 32)), (1, .ref (ad 4))]) hx hb dX5_isLinked_66 hl (k := 1) rfl rfl (by decide) rfl (fun ls hl => ?_)
                    refine loc_gen (P := fun w9 => lv_has ls 5 [(4, .int w9), (2, .int t20), (3, .int v3_9), (0, .ref (ad 32)), (1, .ref (ad 4))]) (v4_18 + 1) hl (fun w21 hw21 hl => ?_)
                    have hl : lv_has ls 5 [(4, .int w21), (2, .int t20), (3, .int v3_9), (0, .ref (ad 32)), (1, .ref (ad 4))] := hl
                    have hF := mi_let hF hw21.symm
                    have aw21 : w21.toInt = v4_18.toInt + 1 := by rw [← hw21]; first | exact va1 (Int.lt_of_le_of_lt h_v4_18.2 (by decide)) | exact va1 (by omega)
                    refine lv_goto (tgt := 18) hx hb dX5_isLinked_69 (by decide) ?_
                    exact ih18 (t20) (w21)  _ _ (by first | exact ms_up hm_18 aw21 h_v4_18.2 | exact ms_lt hm_18 (by omega) (by omega) | omega) (by first | exact rg_up aw21 h_v4_18 (by omega) | omega)   hF hS (lv_sub hl [0, 2, 1, 3, 4] rfl)
        exact loop18 10 (v2_9) (0)  _ _ (by have h81 : (0 : Int32).toInt = 0 := rfl; omega) (by have h80 : (0 : Int32).toInt = 0 := rfl; exact ⟨by omega, by omega⟩)   hF hS hl
  exact loop9 10 (t2) (0)  _ _ (by have h81 : (0 : Int32).toInt = 0 := rfl; omega) (by have h80 : (0 : Int32).toInt = 0 := rfl; exact ⟨by omega, by omega⟩)   hF hS hl
set_option maxHeartbeats 4000000 in
set_option maxRecDepth 100000 in
/-- sx_leastBlock -/
theorem sx_leastBlock (l : Launch) (dC : Nat → ClassId) (dI : Nat → Nat → Nat) (cs : Nat → ClassId) (ad : Nat → Nat) (mu : Nat → Nat → Int32) (ok : okR loX hiX mu) (H : Heap) (hP : va_P (dC, dI) vwCl (wR 157 ad (EX cs ad) mu) H) (hD0 : va_D (fun _ => True) (wR 157 ad (EX cs ad) mu)) (vo : Int32) (vf : Int32) : Met l yX11_leastBlock (wU yX11_leastBlock cX11_leastBlock 4 (some .int)) ({ frames := 9, cells := 0, slots := 0, locals := 239 }) (va_Pc [.ref (ad 0), .int vo, .int vf] (sz_P (dC, dI) vwCl (tyW cs) H)) (va_Qi (fun (z : Int32) (xi : Nat → Nat → Int32) => (z, xi) = F_sx_leastBlock mu vo vf ∧ okR loX hiX xi ∧ (True) ∧ (∀ k f : Nat, Nat.testBit 510 (gpX k f) = true → xi k f = mu k f)) (fun xi t => va_P (dC, dI) vwCl (wR 157 ad (EX cs ad) xi) t.heap) (va_A (wR 157 ad (EX cs ad) mu) H.size)) 0 0 (va_A (wR 157 ad (EX cs ad) mu) H.size) := by
  refine Met.ofW (cc := cX11_leastBlock) (maxL := 4) (ret := (some .int)) (by decide) rfl ?_
  intro p e s m args below meth c s₁ B hml hv
  obtain ⟨rfl, hh, hK, hz⟩ := hv
  have hx := B.exec
  have hb := B.bytes
  have hr := B.returns
  have hts := atoms_spec (ws := (wU yX11_leastBlock cX11_leastBlock 4 (some .int))) B.pre
  have hown : s.vm.findClass RX11 = some m.cls := findClass_of_methodNamed B.named
  have hlocks := B.notSynchronized
  subst hh
  have hD := hD0.self (sz := s.heap.size)
  have hA : ∀ q : Nat, s.heap.size ≤ q → (va_A (wR 157 ad (EX cs ad) mu) s.heap.size) q := fun q h => Or.inr h
  have hS : va_S (va_A (wR 157 ad (EX cs ad) mu) s.heap.size) s.heap s.heap [] := va_S.rf
  have hl := lv_entry ([.ref (ad 0), .int vo, .int vf]) (n := 4) (Nat.le_of_ble_eq_true rfl)
  rw [lg_entry_eq]
  generalize (lg_sl ([.ref (ad 0), .int vo, .int vf]) ++ List.replicate (4 - (lg_sl ([.ref (ad 0), .int vo, .int vf])).length) Slot.unset).toArray = ls at hl ⊢
  have hl : lv_has ls 4 [(0, .ref (ad 0)), (1, .int vo), (2, .int vf)] := hl
  obtain ⟨fz, hfz⟩ : ∃ z, F_sx_leastBlock mu vo vf = z := ⟨_, rfl⟩
  have hF := hfz
  unfold F_sx_leastBlock at hF
  refine lv_iconst (v := 0) hx hb dX11_leastBlock_0 (by decide) ?_
  refine lv_istore_n (lv' := [(3, .int 0), (0, .ref (ad 0)), (1, .int vo), (2, .int vf)]) hx hb dX11_leastBlock_1 rfl hl (by decide) rfl (fun ls hl => ?_)
  have loop2 : ∀ (n2 : Nat) (v3_2 : Int32) (nu2_ : Nat → Nat → Int32) (H : Heap) (locs : List Loc) (ls : Array Slot), (4096 + 1 - v3_2.toInt).toNat < n2 → (0 ≤ v3_2.toInt ∧ v3_2.toInt ≤ 4096) → okR loX hiX nu2_ → va_P (dC, dI) vwCl (wR 157 ad (EX cs ad) nu2_) H → (∀ k f : Nat, Nat.testBit 510 (gpX k f) = true → nu2_ k f = mu k f) → L_sx_leastBlock_2_0 vf vo n2 v3_2 nu2_ = fz → va_S (va_A (wR 157 ad (EX cs ad) mu) s.heap.size) s.heap H locs → lv_has ls 4 [(3, .int v3_2), (0, .ref (ad 0)), (1, .int vo), (2, .int vf)] → W p l e (headSpec (wU yX11_leastBlock cX11_leastBlock 4 (some .int)) ({ frames := 9, cells := 0, slots := 0, locals := 239 })).room s m ([.ref (ad 0), .int vo, .int vf] : List Value).toArray below meth c H locs 0 0 (MQ below (va_Qi (fun (z : Int32) (xi : Nat → Nat → Int32) => (z, xi) = F_sx_leastBlock mu vo vf ∧ okR loX hiX xi ∧ (True) ∧ (∀ k f : Nat, Nat.testBit 510 (gpX k f) = true → xi k f = mu k f)) (fun xi t => va_P (dC, dI) vwCl (wR 157 ad (EX cs ad) xi) t.heap) (va_A (wR 157 ad (EX cs ad) mu) s.heap.size)) ([.ref (ad 0), .int vo, .int vf] : List Value).toArray s 0 0 (va_A (wR 157 ad (EX cs ad) mu) s.heap.size)) (F0 m 2 ls []) := by
    intro n2
    induction n2 with
    | zero => intro v3_2 nu2_ H locs ls hm; exact absurd hm (Nat.not_lt_zero _)
    | succ n2 ih2 =>
      intro v3_2 nu2_ H locs ls hm_2 h_v3_2 ok hP kq2_0 hF hS hl
      rw [L_sx_leastBlock_2_0] at hF
      refine lv_iload_n hx hb dX11_leastBlock_2 rfl (lv_at hl 0 rfl) ?_
      refine lv_iconst (v := 1) hx hb dX11_leastBlock_3 (by decide) ?_
      refine lv_aload_n hx hb dX11_leastBlock_4 rfl (lv_at hl 1 rfl) ?_
      refine va_get (D := (dC, dI)) (ci := 11) (v := .ref (ad 4)) (C := RX11) (T := TX11) (N := 11) hx hb hts inG11 hown hK hP 0 (gX_0 cs ad nu2_) rfl 3 (by decide) (hts _ (List.mem_cons_of_mem _ mw_2_161)) (fun _ h9 => h9) rfl dX11_leastBlock_5 ?_
      refine va_get (D := (dC, dI)) (ci := 10) (v := .int (nu2_ 4 7)) (C := RX10) (T := TX10) (N := 8) hx hb hts inG10 hown hK hP 4 (gX_4 cs ad nu2_) rfl 7 (by decide) (hts _ (List.mem_cons_of_mem _ mw_1_167)) (fun _ h9 => h9) rfl dX11_leastBlock_8 ?_
      refine lv_topi (fun y1 ey1 => ?_)
      have hF := mi_let hF ey1
      have by1 : y1.toInt = (nu2_ 4 7).toInt := congrArg Int32.toInt ey1
      have gy1 : 0 ≤ y1.toInt ∧ y1.toInt ≤ 12 := by rw [ey1]; exact rX_4_7 ok
      refine lv_ishl hx hb dX11_leastBlock_11 ?_
      refine lv_topi (fun t2 et2 => ?_)
      have hF := mi_let hF et2
      have gt2 : 1 ≤ t2.toInt ∧ t2.toInt ≤ 4096 := by rw [et2]; exact shl12 ⟨by omega, by omega⟩
      refine lv_icmp_ge (tgt := 54) hx hb dX11_leastBlock_12 (by decide) (fun c_3 => ?_) (fun c_3 => ?_)
      · have hF := (if_pos c_3).symm.trans hF
        have c_3 : t2.toInt ≤ v3_2.toInt := il_le c_3
        refine lv_bipush (v := (-9)) hx hb dX11_leastBlock_54 (by decide) ?_
        exact W.iret (v := (-9)) hx hb hr (fun t ht hW => ⟨⟨(-9), nu2_, rfl, ⟨hF.trans hfz.symm, ok, trivial, kq2_0⟩, by first | (subst ht; exact hP) | (rw [ht]; exact hP) | (show va_P (dC, dI) vwCl (wR 157 ad (EX cs ad) nu2_) t.heap; rw [ht]; exact hP)⟩, hS.F ht⟩) hS.2.2 dX11_leastBlock_56
      · have hF := (if_neg c_3).symm.trans hF
        have c_3 : v3_2.toInt < t2.toInt := il_nle c_3
        refine lv_iload_n hx hb dX11_leastBlock_15 rfl (lv_at hl 0 rfl) ?_
        refine lv_iload_n hx hb dX11_leastBlock_16 rfl (lv_at hl 2 rfl) ?_
        refine lv_iconst (v := (-1)) hx hb dX11_leastBlock_17 (by decide) ?_
        refine lv_ixor hx hb dX11_leastBlock_18 ?_
        refine lv_topi (fun t4 et4 => ?_)
        have hF := mi_let hF et4
        refine lv_iand hx hb dX11_leastBlock_19 ?_
        refine lv_topi (fun t5 et5 => ?_)
        have hF := mi_let hF et5
        refine lv_if_ne (tgt := 48) hx hb dX11_leastBlock_20 (by decide) (fun c_6 => ?_) (fun c_6 => ?_)
        · have hF := (if_neg c_6).symm.trans hF
          have c_6 : ¬ t5.toInt = 0 := il_ne c_6
          refine lv_iinc (v := (v3_2 + 1)) (lv' := [(3, .int (v3_2 + 1)), (0, .ref (ad 0)), (1, .int vo), (2, .int vf)]) hx hb dX11_leastBlock_48 hl (k := 0) rfl rfl (by decide) rfl (fun ls hl => ?_)
          refine loc_gen (P := fun w9 => lv_has ls 4 [(3, .int w9), (0, .ref (ad 0)), (1, .int vo), (2, .int vf)]) (v3_2 + 1) hl (fun w7 hw7 hl => ?_)
          have hl : lv_has ls 4 [(3, .int w7), (0, .ref (ad 0)), (1, .int vo), (2, .int vf)] := hl
          have hF := mi_let hF hw7.symm
          have aw7 : w7.toInt = v3_2.toInt + 1 := by rw [← hw7]; first | exact va1 (Int.lt_of_le_of_lt h_v3_2.2 (by decide)) | exact va1 (by omega)
          refine lv_goto (tgt := 2) hx hb dX11_leastBlock_51 (by decide) ?_
          exact ih2 (w7) nu2_ _ _ _ (by first | exact ms_up hm_2 aw7 h_v3_2.2 | exact ms_lt hm_2 (by omega) (by omega) | omega) (by first | exact rg_up aw7 h_v3_2 (by omega) | omega)  ok hP  kq2_0 hF hS (lv_sub hl [0, 1, 2, 3] rfl)
        · have hF := (if_pos c_6).symm.trans hF
          have c_6 : t5.toInt = 0 := il_eq c_6
          refine lv_iload_n hx hb dX11_leastBlock_23 rfl (lv_at hl 0 rfl) ?_
          refine cr_i (va_runS (As := [.int v3_2]) (rest := []) ⟨hx, hb, hml, hown, hts⟩ (sx_bitCount l dC dI (tyW cs) H v3_2) (va_cwS 1 hts (wU_S mw_3_90 mw_4_98 mw_3_89 mw_1_16) rfl rfl rfl (by decide +kernel) ⟨Nat.le_of_ble_eq_true rfl, Nat.le_of_ble_eq_true rfl⟩) ⟨sz_c, sz_m hK hz⟩ rfl rfl hl.1 rfl (lv_room (Nat.le_of_ble_eq_true rfl)) dX11_leastBlock_24 ⟨Nat.zero_le _, Nat.zero_le _⟩) hS (fun r8 hw8 locs hS => ?_)
          obtain ⟨hfe8, hw8⟩ := hw8
          have hF := mi_let hF hfe8
          refine lv_iload_n hx hb dX11_leastBlock_27 rfl (lv_at hl 3 rfl) ?_
          refine lv_icmp_ne (tgt := 48) hx hb dX11_leastBlock_28 (by decide) (fun c_9 => ?_) (fun c_9 => ?_)
          · have hF := (if_neg c_9).symm.trans hF
            have c_9 : ¬ r8.toInt = vf.toInt := il_ne c_9
            refine lv_iinc (v := (v3_2 + 1)) (lv' := [(3, .int (v3_2 + 1)), (0, .ref (ad 0)), (1, .int vo), (2, .int vf)]) hx hb dX11_leastBlock_48 hl (k := 0) rfl rfl (by decide) rfl (fun ls hl => ?_)
            refine loc_gen (P := fun w9 => lv_has ls 4 [(3, .int w9), (0, .ref (ad 0)), (1, .int vo), (2, .int vf)]) (v3_2 + 1) hl (fun w10 hw10 hl => ?_)
            have hl : lv_has ls 4 [(3, .int w10), (0, .ref (ad 0)), (1, .int vo), (2, .int vf)] := hl
            have hF := mi_let hF hw10.symm
            have aw10 : w10.toInt = v3_2.toInt + 1 := by rw [← hw10]; first | exact va1 (Int.lt_of_le_of_lt h_v3_2.2 (by decide)) | exact va1 (by omega)
            refine lv_goto (tgt := 2) hx hb dX11_leastBlock_51 (by decide) ?_
            exact ih2 (w10) nu2_ _ _ _ (by first | exact ms_up hm_2 aw10 h_v3_2.2 | exact ms_lt hm_2 (by omega) (by omega) | omega) (by first | exact rg_up aw10 h_v3_2 (by omega) | omega)  ok hP  kq2_0 hF hS (lv_sub hl [0, 1, 2, 3] rfl)
          · have hF := (if_pos c_9).symm.trans hF
            have c_9 : r8.toInt = vf.toInt := il_eq c_9
            refine lv_aload_n hx hb dX11_leastBlock_31 rfl (lv_at hl 1 rfl) ?_
            refine va_get (D := (dC, dI)) (ci := 11) (v := .ref (ad 32)) (C := RX11) (T := TX11) (N := 11) hx hb hts inG11 hown hK hP 0 (gX_0 cs ad nu2_) rfl 6 (by decide) (hts _ (List.mem_cons_of_mem _ mw_2_164)) (fun _ h9 => h9) rfl dX11_leastBlock_32 ?_
            refine lv_aload_n hx hb dX11_leastBlock_35 rfl (lv_at hl 1 rfl) ?_
            refine va_get (D := (dC, dI)) (ci := 11) (v := .ref (ad 4)) (C := RX11) (T := TX11) (N := 11) hx hb hts inG11 hown hK hP 0 (gX_0 cs ad nu2_) rfl 3 (by decide) (hts _ (List.mem_cons_of_mem _ mw_2_161)) (fun _ h9 => h9) rfl dX11_leastBlock_36 ?_
            refine lv_iload_n hx hb dX11_leastBlock_39 rfl (lv_at hl 0 rfl) ?_
            have hFc := fr_all (wR_D nu2_ hD) hS hA
            refine va_calli (va_runV (As := [.ref (ad 4), .int v3_2]) (rest := []) ⟨hx, hb, hml, hown, hts⟩ (sx_comesUnder l dC dI cs ad nu2_ ok H hP ((wR_D nu2_ hD).weaken (fun _ _ _ _ => trivial)) v3_2) (cwV 2 hts (wU_V mw_4_102 mw_4_99 mw_4_100 mw_4_101 mw_1_8) rfl rfl rfl (by decide +kernel) ⟨Nat.le_of_ble_eq_true rfl, Nat.le_of_ble_eq_true rfl⟩) ⟨sz_c, va_recv hK hP (ci := 5) (q0 := 32) rfl (gX_32 cs ad nu2_), sz_m hK hz⟩ rfl rfl hl.1 rfl (lv_room (Nat.le_of_ble_eq_true rfl)) dX11_leastBlock_40 ⟨Nat.zero_le _, Nat.zero_le _⟩) hS (fun q _ h => hFc q h) hFc (fun r11 xi11 t H11 locs ht hvm hw11 hB hz1 hk1 hS => ?_)
            have hP : va_P (dC, dI) vwCl (wR 157 ad (EX cs ad) xi11) H11 := by rw [← ht]; exact hB
            obtain ⟨hfe11, ok, hw11, hkp11_0⟩ := hw11
            have hF := mi_letp hF hfe11
            have kp12 : (∀ k f : Nat, Nat.testBit 510 (gpX k f) = true → xi11 k f = mu k f) := kp_t hkp11_0 (by decide) kq2_0
            have gr11 : 0 ≤ r11.toInt ∧ r11.toInt ≤ 1 := hw11
            refine lv_if_ne (tgt := 48) hx hb dX11_leastBlock_43 (by decide) (fun c_13 => ?_) (fun c_13 => ?_)
            · have hF := (if_neg c_13).symm.trans hF
              have c_13 : ¬ r11.toInt = 0 := il_ne c_13
              refine lv_iinc (v := (v3_2 + 1)) (lv' := [(3, .int (v3_2 + 1)), (0, .ref (ad 0)), (1, .int vo), (2, .int vf)]) hx hb dX11_leastBlock_48 hl (k := 0) rfl rfl (by decide) rfl (fun ls hl => ?_)
              refine loc_gen (P := fun w9 => lv_has ls 4 [(3, .int w9), (0, .ref (ad 0)), (1, .int vo), (2, .int vf)]) (v3_2 + 1) hl (fun w14 hw14 hl => ?_)
              have hl : lv_has ls 4 [(3, .int w14), (0, .ref (ad 0)), (1, .int vo), (2, .int vf)] := hl
              have hF := mi_let hF hw14.symm
              have aw14 : w14.toInt = v3_2.toInt + 1 := by rw [← hw14]; first | exact va1 (Int.lt_of_le_of_lt h_v3_2.2 (by decide)) | exact va1 (by omega)
              refine lv_goto (tgt := 2) hx hb dX11_leastBlock_51 (by decide) ?_
              exact ih2 (w14) xi11 _ _ _ (by first | exact ms_up hm_2 aw14 h_v3_2.2 | exact ms_lt hm_2 (by omega) (by omega) | omega) (by first | exact rg_up aw14 h_v3_2 (by omega) | omega)  ok hP  kp12 hF hS (lv_sub hl [0, 1, 2, 3] rfl)
            · have hF := (if_pos c_13).symm.trans hF
              have c_13 : r11.toInt = 0 := il_eq c_13
              refine lv_iload_n hx hb dX11_leastBlock_46 rfl (lv_at hl 0 rfl) ?_
              exact W.iret (v := v3_2) hx hb hr (fun t ht hW => ⟨⟨v3_2, xi11, rfl, ⟨hF.trans hfz.symm, ok, trivial, kp12⟩, by first | (subst ht; exact hP) | (rw [ht]; exact hP) | (show va_P (dC, dI) vwCl (wR 157 ad (EX cs ad) xi11) t.heap; rw [ht]; exact hP)⟩, hS.F ht⟩) hS.2.2 dX11_leastBlock_47
  exact loop2 4099 (0) mu _ _ _ (by have h80 : (0 : Int32).toInt = 0 := rfl; omega) (by have h80 : (0 : Int32).toInt = 0 := rfl; exact ⟨by omega, by omega⟩)  ok hP  (fun _ _ _ => rfl) hF hS hl
