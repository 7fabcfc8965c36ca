set_option maxHeartbeats 4000000 in
set_option maxRecDepth 100000 in
/-- sx_lookFrom -/
theorem sx_lookFrom (l : Launch) (dC : Nat → ClassId) (dI : Nat → Nat → Nat) (cs : Nat → ClassId) (ad : Nat → Nat) (mu : Nat → Nat → Int32) (ok : okR loX hiX mu) (H : Heap) (hP : va_P (dC, dI) vwCl (wR 157 ad (EX cs ad) mu) H) (hD0 : va_D (fun _ => True) (wR 157 ad (EX cs ad) mu)) (vx : Int32) (vy : Int32) (vp : Int32) (hin0 : 0 ≤ vx.toInt ∧ vx.toInt ≤ 6 ∧ 0 ≤ vy.toInt ∧ vy.toInt ≤ 6) : Met l yX5_lookFrom (wU yX5_lookFrom cX5_lookFrom 5 none) ({ frames := 3, cells := 0, slots := 0, locals := 68 }) (va_Pc [.ref (ad 32), .ref (ad 4), .int vx, .int vy, .int vp] (sz_P (dC, dI) vwCl (tyW cs) H)) (va_Qv (fun (xi : Nat → Nat → Int32) => okR loX hiX xi ∧ (True) ∧ (∀ k f : Nat, Nat.testBit 510 (gpX k f) = true → xi k f = mu k f)) (fun xi t => va_P (dC, dI) vwCl (wR 157 ad (EX cs ad) xi) t.heap) (va_A (wR 157 ad (EX cs ad) mu) H.size)) 0 0 (va_A (wR 157 ad (EX cs ad) mu) H.size) := by
  refine Met.ofW (cc := cX5_lookFrom) (maxL := 5) (ret := none) (by decide) rfl ?_
  intro p e s m args below meth c s₁ B hml hv
  obtain ⟨rfl, hh, hK, hz⟩ := hv
  have hx := B.exec
  have hb := B.bytes
  have hr := B.returns
  have hts := atoms_spec (ws := (wU yX5_lookFrom cX5_lookFrom 5 none)) B.pre
  have hown : s.vm.findClass RX5 = some m.cls := findClass_of_methodNamed B.named
  have hlocks := B.notSynchronized
  subst hh
  have hD := hD0.self (sz := s.heap.size)
  have hA : ∀ q : Nat, s.heap.size ≤ q → (va_A (wR 157 ad (EX cs ad) mu) s.heap.size) q := fun q h => Or.inr h
  have hS : va_S (va_A (wR 157 ad (EX cs ad) mu) s.heap.size) s.heap s.heap [] := va_S.rf
  have hl := lv_entry ([.ref (ad 32), .ref (ad 4), .int vx, .int vy, .int vp]) (n := 5) (Nat.le_of_ble_eq_true rfl)
  rw [lg_entry_eq]
  generalize (lg_sl ([.ref (ad 32), .ref (ad 4), .int vx, .int vy, .int vp]) ++ List.replicate (5 - (lg_sl ([.ref (ad 32), .ref (ad 4), .int vx, .int vy, .int vp])).length) Slot.unset).toArray = ls at hl ⊢
  have hl : lv_has ls 5 [(0, .ref (ad 32)), (1, .ref (ad 4)), (2, .int vx), (3, .int vy), (4, .int vp)] := hl
  refine lv_aload_n hx hb dX5_lookFrom_0 rfl (lv_at hl 0 rfl) ?_
  refine lv_iload_n hx hb dX5_lookFrom_1 rfl (lv_at hl 2 rfl) ?_
  refine va_put (D := (dC, dI)) (ci := 5) (v := .int vx) (ty := .int) (C := RX5) (T := TX5) (N := 15) hx hb hts inG5 tyX5 tyX5_ok nmX5 hown hK hP (wR_D mu hD) hS 32 (gX_32 cs ad mu) rfl 5 (by decide) (hts _ (List.mem_cons_of_mem _ mw_2_53)) (fun _ h9 => h9) rfl (by decide +kernel) rfl rfl (Nat.le_of_ble_eq_true rfl) dX5_lookFrom_2 (fun H locs hP _ hS => ?_)
  simp only [List.set_cons_succ, List.set_cons_zero] at hP
  refine wr_gen (upd (mu 32) 5 vx) hP ((hX_32_5 cs ad _ _)) (fun nu1 hn1 hP => ?_)
  have ok := tX_32_5 ok hn1 (by exact ⟨by omega, by omega⟩)
  have kp2 : (∀ k f : Nat, Nat.testBit 510 (gpX k f) = true → nu1 k f = mu k f) := kp_c 0 hn1 (fun _ => rfl) (by decide) (fun _ _ _ => rfl)
  have ez3 : vx = nu1 32 5 := up_v hn1
  refine lv_aload_n hx hb dX5_lookFrom_5 rfl (lv_at hl 0 rfl) ?_
  refine lv_iload_n hx hb dX5_lookFrom_6 rfl (lv_at hl 3 rfl) ?_
  refine va_put (D := (dC, dI)) (ci := 5) (v := .int vy) (ty := .int) (C := RX5) (T := TX5) (N := 15) hx hb hts inG5 tyX5 tyX5_ok nmX5 hown hK hP (wR_D nu1 hD) hS 32 (gX_32 cs ad nu1) rfl 6 (by decide) (hts _ (List.mem_cons_of_mem _ mw_2_54)) (fun _ h9 => h9) rfl (by decide +kernel) rfl rfl (Nat.le_of_ble_eq_true rfl) dX5_lookFrom_7 (fun H locs hP _ hS => ?_)
  simp only [List.set_cons_succ, List.set_cons_zero] at hP
  refine wr_gen (upd (nu1 32) 6 vy) hP ((hX_32_6 cs ad _ _)) (fun nu4 hn4 hP => ?_)
  have ok := tX_32_6 ok hn4 (by exact ⟨by omega, by omega⟩)
  have ez5 : vx = nu4 32 5 := ez3.trans (up_f hn4 (by decide)).symm
  have kp6 : (∀ k f : Nat, Nat.testBit 510 (gpX k f) = true → nu4 k f = mu k f) := kp_c 0 hn4 (fun _ => rfl) (by decide) kp2
  have ez7 : vy = nu4 32 6 := up_v hn4
  refine lv_aload_n hx hb dX5_lookFrom_10 rfl (lv_at hl 0 rfl) ?_
  refine lv_iload hx hb dX5_lookFrom_11 (lv_at hl 4 rfl) ?_
  refine va_put (D := (dC, dI)) (ci := 5) (v := .int vp) (ty := .int) (C := RX5) (T := TX5) (N := 15) hx hb hts inG5 tyX5 tyX5_ok nmX5 hown hK hP (wR_D nu4 hD) hS 32 (gX_32 cs ad nu4) rfl 7 (by decide) (hts _ (List.mem_cons_of_mem _ mw_2_55)) (fun _ h9 => h9) rfl (by decide +kernel) rfl rfl (Nat.le_of_ble_eq_true rfl) dX5_lookFrom_13 (fun H locs hP _ hS => ?_)
  simp only [List.set_cons_succ, List.set_cons_zero] at hP
  refine wr_gen (upd (nu4 32) 7 vp) hP ((hX_32_7 cs ad _ _)) (fun nu8 hn8 hP => ?_)
  have ok := tX_32_7 ok hn8
  have ez9 : vx = nu8 32 5 := ez5.trans (up_f hn8 (by decide)).symm
  have ez10 : vy = nu8 32 6 := ez7.trans (up_f hn8 (by decide)).symm
  have kp11 : (∀ k f : Nat, Nat.testBit 510 (gpX k f) = true → nu8 k f = mu k f) := kp_c 0 hn8 (fun _ => rfl) (by decide) kp6
  have ez12 : vp = nu8 32 7 := up_v hn8
  refine lv_aload_n hx hb dX5_lookFrom_16 rfl (lv_at hl 1 rfl) ?_
  refine va_get (D := (dC, dI)) (ci := 10) (v := .ref (ad 5)) (C := RX10) (T := TX10) (N := 8) hx hb hts inG10 hown hK hP 4 (gX_4 cs ad nu8) rfl 3 (by decide) (hts _ (List.mem_cons_of_mem _ mw_1_153)) (fun _ h9 => h9) rfl dX5_lookFrom_17 ?_
  refine va_get (D := (dC, dI)) (ci := 8) (v := .ref (ad 46)) (C := RX8) (T := TX8) (N := 6) hx hb hts inG8 hown hK hP 5 (gX_5 cs ad nu8) rfl 0 (by decide) (hts _ (List.mem_cons_of_mem _ mw_1_104)) (fun _ h9 => h9) rfl dX5_lookFrom_20 ?_
  refine lv_iconst (v := 0) hx hb dX5_lookFrom_23 (by decide) ?_
  refine lv_aload_n hx hb dX5_lookFrom_24 rfl (lv_at hl 0 rfl) ?_
  refine va_get (D := (dC, dI)) (ci := 5) (v := .ref (ad 53)) (C := RX5) (T := TX5) (N := 15) hx hb hts inG5 hown hK hP 32 (gX_32 cs ad nu8) rfl 1 (by decide) (hts _ (List.mem_cons_of_mem _ mw_2_47)) (fun _ h9 => h9) rfl dX5_lookFrom_25 ?_
  refine lv_iconst (v := 0) hx hb dX5_lookFrom_28 (by decide) ?_
  refine lv_bipush (v := 7) hx hb dX5_lookFrom_29 (by decide) ?_
  refine va_copyi hx hb (hml.trans hl.1.symm) hown (hts _ (List.mem_cons_of_mem _ mw_4_14)) (hts _ (List.mem_cons_of_mem _ mw_3_4)) (hts _ (List.mem_cons_of_mem _ mw_3_3)) (hts _ (List.mem_cons_of_mem _ mw_1_15)) hK hP (wR_D nu8 hD) hS 46 53 0 0 (gX_46 cs ad nu8) (gX_53 cs ad nu8) rfl rfl rfl (by decide) (by decide) (by decide) (by have ua : ((0 : Int32).toNatClampNeg : Int) = 0 := rfl; have ub : ((0 : Int32).toNatClampNeg : Int) = 0 := rfl; have uc : ((7 : Int32).toNatClampNeg : Int) = 7 := rfl; omega) (by have ua : ((0 : Int32).toNatClampNeg : Int) = 0 := rfl; have ub : ((0 : Int32).toNatClampNeg : Int) = 0 := rfl; have uc : ((7 : Int32).toNatClampNeg : Int) = 7 := rfl; omega) (fun _ _ => rfl) (Nat.le_of_ble_eq_true rfl) (Nat.le_of_ble_eq_true rfl) dX5_lookFrom_31 (fun H locs hP _ hS => ?_)
  refine wr_gen (va_cpy (nu8 46) (nu8 53) (0 : Int32).toNatClampNeg (0 : Int32).toNatClampNeg (7 : Int32).toNatClampNeg) hP (rfl) (fun nu13 hn13 hP => ?_)
  have ok := okR_cp ok hn13 (cX_46_53  )
  have ez14 : vx = nu13 32 5 := ez9.trans (congrFun (up_k hn13 (by decide)) 5).symm
  have ez15 : vy = nu13 32 6 := ez10.trans (congrFun (up_k hn13 (by decide)) 6).symm
  have ez16 : vp = nu13 32 7 := ez12.trans (congrFun (up_k hn13 (by decide)) 7).symm
  have kp17 : (∀ k f : Nat, Nat.testBit 510 (gpX k f) = true → nu13 k f = mu k f) := kp_c 0 hn13 (fun _ => rfl) (by decide) kp11
  refine lv_aload_n hx hb dX5_lookFrom_34 rfl (lv_at hl 0 rfl) ?_
  refine lv_aload_n hx hb dX5_lookFrom_35 rfl (lv_at hl 1 rfl) ?_
  refine lv_aload_n hx hb dX5_lookFrom_36 rfl (lv_at hl 1 rfl) ?_
  refine va_get (D := (dC, dI)) (ci := 10) (v := .ref (ad 5)) (C := RX10) (T := TX10) (N := 8) hx hb hts inG10 hown hK hP 4 (gX_4 cs ad nu13) rfl 3 (by decide) (hts _ (List.mem_cons_of_mem _ mw_1_153)) (fun _ h9 => h9) rfl dX5_lookFrom_37 ?_
  refine va_get (D := (dC, dI)) (ci := 8) (v := .int (nu13 5 2)) (C := RX8) (T := TX8) (N := 6) hx hb hts inG8 hown hK hP 5 (gX_5 cs ad nu13) rfl 2 (by decide) (hts _ (List.mem_cons_of_mem _ mw_1_114)) (fun _ h9 => h9) rfl dX5_lookFrom_40 ?_
  refine lv_topi (fun y18 ey18 => ?_)
  have by18 : y18.toInt = (nu13 5 2).toInt := congrArg Int32.toInt ey18
  have hFc := fr_all (wR_D nu13 hD) hS hA
  refine va_callv (va_runV (As := [.ref (ad 4), .int y18]) (rest := []) ⟨hx, hb, hml, hown, hts⟩ (sx_linkUnder l dC dI cs ad nu13 ok H hP ((wR_D nu13 hD).weaken (fun _ _ _ _ => trivial)) y18) (cwV 2 hts (wU_V mw_4_18 mw_4_15 mw_4_17 mw_0_11 mw_1_8) rfl rfl rfl (by decide +kernel) ⟨Nat.le_of_ble_eq_true rfl, Nat.le_of_ble_eq_true rfl⟩) ⟨sz_c, va_recv hK hP (ci := 5) (q0 := 32) rfl (gX_32 cs ad nu13), sz_m hK hz⟩ rfl rfl hl.1 rfl (lv_room (Nat.le_of_ble_eq_true rfl)) dX5_lookFrom_43 ⟨Nat.zero_le _, Nat.zero_le _⟩) hS (fun q _ h => hFc q h) hFc (fun xi19 t H19 locs ht hvm hw19 hB hz1 hk1 hS => ?_)
  have hP : va_P (dC, dI) vwCl (wR 157 ad (EX cs ad) xi19) H19 := by rw [← ht]; exact hB
  obtain ⟨ok, hw19, hkp19_0⟩ := hw19
  have kp20 : (∀ k f : Nat, Nat.testBit 510 (gpX k f) = true → xi19 k f = mu k f) := kp_t hkp19_0 (by decide) kp17
  exact W.vret hx hb hr (fun t ht hW => ⟨⟨xi19, rfl, ⟨ok, trivial, kp20⟩, by first | (subst ht; exact hP) | (rw [ht]; exact hP) | (show va_P (dC, dI) vwCl (wR 157 ad (EX cs ad) xi19) t.heap; rw [ht]; exact hP)⟩, hS.F ht⟩) hS.2.2 dX5_lookFrom_46
