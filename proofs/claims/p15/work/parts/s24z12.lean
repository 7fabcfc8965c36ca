set_option maxHeartbeats 4000000 in
set_option maxRecDepth 100000 in
/-- qx_first -/
theorem qx_first (l : Launch) (dC : Nat → ClassId) (dI : Nat → Nat → Nat) (cs : Nat → ClassId) (ad : Nat → Nat) (mu : Nat → Nat → Int32) (ok : okR loX hiX mu) (H : Heap) (hP : va_P (dC, dI) vwCl (wR 157 ad (EX cs ad) mu) H) (hD0 : va_D (fun _ => True) (wR 157 ad (EX cs ad) mu)) (vx : Int32) (vr : Int32) (vt : Int32) : Met l yX11_first (wU yX11_first cX11_first 6 (some .int)) ({ frames := 10, cells := 0, slots := 0, locals := 309 }) (va_Pc [.ref (ad 0), .int vx, .int vr, .int vt] (sz_P (dC, dI) vwCl (tyW cs) H)) (va_Qi (fun (z : Int32) (xi : Nat → Nat → Int32) => okR loX hiX xi ∧ (True) ∧ (∀ k f : Nat, Nat.testBit 510 (gpX k f) = true → xi k f = mu k f)) (fun xi t => va_P (dC, dI) vwCl (wR 157 ad (EX cs ad) xi) t.heap) (va_A (wR 157 ad (EX cs ad) mu) H.size)) 0 0 (va_A (wR 157 ad (EX cs ad) mu) H.size) := by
  refine Met.ofW (cc := cX11_first) (maxL := 6) (ret := (some .int)) (by decide) rfl ?_
  intro p e s m args below meth c s₁ B hml hv
  obtain ⟨rfl, hh, hK, hz⟩ := hv
  have hx := B.exec
  have hb := B.bytes
  have hr := B.returns
  have hts := atoms_spec (ws := (wU yX11_first cX11_first 6 (some .int))) B.pre
  have hown : s.vm.findClass RX11 = some m.cls := findClass_of_methodNamed B.named
  have hlocks := B.notSynchronized
  subst hh
  have hD := hD0.self (sz := s.heap.size)
  have hA : ∀ q : Nat, s.heap.size ≤ q → (va_A (wR 157 ad (EX cs ad) mu) s.heap.size) q := fun q h => Or.inr h
  have hS : va_S (va_A (wR 157 ad (EX cs ad) mu) s.heap.size) s.heap s.heap [] := va_S.rf
  have hl := lv_entry ([.ref (ad 0), .int vx, .int vr, .int vt]) (n := 6) (Nat.le_of_ble_eq_true rfl)
  rw [lg_entry_eq]
  generalize (lg_sl ([.ref (ad 0), .int vx, .int vr, .int vt]) ++ List.replicate (6 - (lg_sl ([.ref (ad 0), .int vx, .int vr, .int vt])).length) Slot.unset).toArray = ls at hl ⊢
  have hl : lv_has ls 6 [(0, .ref (ad 0)), (1, .int vx), (2, .int vr), (3, .int vt)] := hl
  refine lv_aload_n hx hb dX11_first_0 rfl (lv_at hl 0 rfl) ?_
  refine lv_iload_n hx hb dX11_first_1 rfl (lv_at hl 1 rfl) ?_
  refine lv_iload_n hx hb dX11_first_2 rfl (lv_at hl 2 rfl) ?_
  refine lv_iload_n hx hb dX11_first_3 rfl (lv_at hl 3 rfl) ?_
  refine cr_i (va_runS (As := [.int vt]) (rest := [.int vr, .int vx, .ref (ad 0)]) ⟨hx, hb, hml, hown, hts⟩ (sx_isRow l dC dI (tyW cs) s.heap vt) (va_cwS 1 hts (wU_S mw_2_198 mw_2_196 mw_2_197 mw_1_1) rfl rfl rfl (by decide +kernel) ⟨Nat.le_of_ble_eq_true rfl, Nat.le_of_ble_eq_true rfl⟩) ⟨sz_c, sz_m hK hz⟩ rfl rfl hl.1 rfl (lv_room (Nat.le_of_ble_eq_true rfl)) dX11_first_4 ⟨Nat.zero_le _, Nat.zero_le _⟩) hS (fun r1 hw1 locs hS => ?_)
  obtain ⟨hfe1, hw1⟩ := hw1
  rcases hw1 with ⟨rfl, f1⟩ | ⟨rfl, f1⟩
  · have f1 : 0 ≤ vt.toInt ∧ vt.toInt ≤ 5 := f1
    refine lv_if_ne (tgt := 14) hx hb dX11_first_7 (by decide) (fun _ => ?_) (fun c => absurd c (by decide))
    refine lv_iconst (v := 0) hx hb dX11_first_14 (by decide) ?_
    have hFc := fr_all (wR_D mu hD) hS hA
    refine va_calli (va_runV (As := [.int vx, .int vr, .int 0]) (rest := []) ⟨hx, hb, hml, hown, hts⟩ (sx_refusedPrices l dC dI cs ad mu ok s.heap hP ((wR_D mu hD).weaken (fun _ _ _ _ => trivial)) vx vr 0) (cwV 3 hts (wU_V mw_4_162 mw_4_159 mw_4_161 mw_0_20 mw_1_1) rfl rfl rfl (by decide +kernel) ⟨Nat.le_of_ble_eq_true rfl, Nat.le_of_ble_eq_true rfl⟩) ⟨sz_c, va_recv hK hP (ci := 11) (q0 := 0) rfl (gX_0 cs ad mu), sz_m hK hz⟩ rfl rfl hl.1 rfl (lv_room (Nat.le_of_ble_eq_true rfl)) dX11_first_15 ⟨Nat.zero_le _, Nat.zero_le _⟩) hS (fun q _ h => hFc q h) hFc (fun r2 xi2 t H2 locs ht hvm hw2 hB hz1 hk1 hS => ?_)
    have hP : va_P (dC, dI) vwCl (wR 157 ad (EX cs ad) xi2) H2 := by rw [← ht]; exact hB
    rcases hw2 with ⟨rfl, hxi2, f2⟩ | ⟨z2, ok, hkp2_0⟩
    · have hP : va_P (dC, dI) vwCl (wR 157 ad (EX cs ad) mu) H2 := by rw [← hxi2]; exact hP
      have f2 : 0 ≤ vx.toInt ∧ vx.toInt < (mu 4 6).toInt ∧ (mu 4 6).toInt ≤ 7 ∧ 0 ≤ vr.toInt ∧ vr.toInt ≤ 5 ∧ 0 ≤ (mu (8 + vr.toNatClampNeg) 1).toInt ∧ (mu (8 + vr.toNatClampNeg) 1).toInt ≤ 40 ∧ (mu (8 + vr.toNatClampNeg) 1).toInt ≤ 6 ∧ (0 : Int) = 0 := f2
      refine lv_istore (lv' := [(4, .int 0), (0, .ref (ad 0)), (1, .int vx), (2, .int vr), (3, .int vt)]) hx hb dX11_first_18 hl (by decide) rfl (fun ls hl => ?_)
      refine lv_iload hx hb dX11_first_20 (lv_at hl 0 rfl) ?_
      refine lv_if_eq (tgt := 28) hx hb dX11_first_22 (by decide) (fun _ => ?_) (fun c => absurd (by decide) c)
      refine lv_aload_n hx hb dX11_first_28 rfl (lv_at hl 1 rfl) ?_
      refine va_get (D := (dC, dI)) (ci := 11) (v := .ref (ad 33)) (C := RX11) (T := TX11) (N := 11) hx hb hts inG11 hown hK hP 0 (gX_0 cs ad mu) rfl 7 (by decide) (hts _ (List.mem_cons_of_mem _ mw_2_165)) (fun _ h9 => h9) rfl dX11_first_29 ?_
      refine lv_aload_n hx hb dX11_first_32 rfl (lv_at hl 1 rfl) ?_
      refine va_get (D := (dC, dI)) (ci := 11) (v := .ref (ad 4)) (C := RX11) (T := TX11) (N := 11) hx hb hts inG11 hown hK hP 0 (gX_0 cs ad mu) rfl 3 (by decide) (hts _ (List.mem_cons_of_mem _ mw_2_161)) (fun _ h9 => h9) rfl dX11_first_33 ?_
      refine lv_iload_n hx hb dX11_first_36 rfl (lv_at hl 2 rfl) ?_
      refine lv_aload_n hx hb dX11_first_37 rfl (lv_at hl 1 rfl) ?_
      refine va_get (D := (dC, dI)) (ci := 11) (v := .ref (ad 1)) (C := RX11) (T := TX11) (N := 11) hx hb hts inG11 hown hK hP 0 (gX_0 cs ad mu) rfl 0 (by decide) (hts _ (List.mem_cons_of_mem _ mw_2_158)) (fun _ h9 => h9) rfl dX11_first_38 ?_
      refine lv_iload_n hx hb dX11_first_41 rfl (lv_at hl 3 rfl) ?_
      have hx4 : 0 ≤ vr.toInt ∧ vr.toInt < ((6 : Nat) : Int) := ⟨by omega, by omega⟩
      refine va_aldq hx hb hK hP 1 2 (gX_1 cs ad mu) rfl (show vp_in vr 6 from vi_of hx4.1 hx4.2) dX11_first_42 ?_
      have hk4 : 8 ≤ (8 + vr.toNatClampNeg) ∧ (8 + vr.toNatClampNeg) < 14 := ix_of hx4
      refine lq_v (.ref (ad (8 + vr.toNatClampNeg))) rfl ?_
      have hFc := fr_all (wR_D mu hD) hS hA
      refine va_callv (va_runV (As := [.ref (ad 4), .int vx, .ref (ad (8 + vr.toNatClampNeg))]) (rest := []) ⟨hx, hb, hml, hown, hts⟩ (sx_search l dC dI cs ad mu ok H2 hP ((wR_D mu hD).weaken (fun _ _ _ _ => trivial)) (8 + vr.toNatClampNeg) hk4.1 hk4.2 vx (by omega)) (cwV 3 hts (wU_V mw_4_166 mw_4_163 mw_4_164 mw_4_165 mw_1_10) rfl rfl rfl (by decide +kernel) ⟨Nat.le_of_ble_eq_true rfl, Nat.le_of_ble_eq_true rfl⟩) ⟨sz_c, va_recv hK hP (ci := 1) (q0 := 33) rfl (gX_33 cs ad mu), sz_m hK hz⟩ rfl rfl hl.1 rfl (lv_room (Nat.le_of_ble_eq_true rfl)) dX11_first_43 ⟨Nat.zero_le _, Nat.zero_le _⟩) hS (fun q _ h => hFc q h) hFc (fun xi5 t H5 locs ht hvm hw5 hB hz1 hk1 hS => ?_)
      have hP : va_P (dC, dI) vwCl (wR 157 ad (EX cs ad) xi5) H5 := by rw [← ht]; exact hB
      obtain ⟨ok, hw5, hkp5_0, hkp5_1⟩ := hw5
      have kp6 : (∀ k f : Nat, Nat.testBit 510 (gpX k f) = true → xi5 k f = mu k f) := kp_t hkp5_1 (by decide) (fun _ _ _ => rfl)
      have hq5 : (xi5 (8 + vr.toNatClampNeg) 1).toInt = (mu (8 + vr.toNatClampNeg) 1).toInt := congrArg Int32.toInt (congrFun (hkp5_0 (8 + vr.toNatClampNeg) (by omega) (by have h9 := tC_of (v := vr) (by omega); omega)) 1)
      refine lv_aload_n hx hb dX11_first_46 rfl (lv_at hl 1 rfl) ?_
      refine va_get (D := (dC, dI)) (ci := 11) (v := .ref (ad 33)) (C := RX11) (T := TX11) (N := 11) hx hb hts inG11 hown hK hP 0 (gX_0 cs ad xi5) rfl 7 (by decide) (hts _ (List.mem_cons_of_mem _ mw_2_165)) (fun _ h9 => h9) rfl dX11_first_47 ?_
      refine va_get (D := (dC, dI)) (ci := 1) (v := .int (xi5 33 2)) (C := RX1) (T := TX1) (N := 5) hx hb hts inG1 hown hK hP 33 (gX_33 cs ad xi5) rfl 2 (by decide) (hts _ (List.mem_cons_of_mem _ mw_2_108)) (fun _ h9 => h9) rfl dX11_first_50 ?_
      refine lv_topi (fun y7 ey7 => ?_)
      have by7 : y7.toInt = (xi5 33 2).toInt := congrArg Int32.toInt ey7
      refine lv_if_ne (tgt := 59) hx hb dX11_first_53 (by decide) (fun c_8 => ?_) (fun c_8 => ?_)
      · have c_8 : ¬ y7.toInt = 0 := il_ne c_8
        refine lv_aload_n hx hb dX11_first_59 rfl (lv_at hl 1 rfl) ?_
        refine va_get (D := (dC, dI)) (ci := 11) (v := .ref (ad 1)) (C := RX11) (T := TX11) (N := 11) hx hb hts inG11 hown hK hP 0 (gX_0 cs ad xi5) rfl 0 (by decide) (hts _ (List.mem_cons_of_mem _ mw_2_158)) (fun _ h9 => h9) rfl dX11_first_60 ?_
        refine lv_iload_n hx hb dX11_first_63 rfl (lv_at hl 3 rfl) ?_
        have hx9 : 0 ≤ vr.toInt ∧ vr.toInt < ((6 : Nat) : Int) := ⟨by omega, by omega⟩
        refine va_aldq hx hb hK hP 1 2 (gX_1 cs ad xi5) rfl (show vp_in vr 6 from vi_of hx9.1 hx9.2) dX11_first_64 ?_
        have hk9 : 8 ≤ (8 + vr.toNatClampNeg) ∧ (8 + vr.toNatClampNeg) < 14 := ix_of hx9
        refine lq_v (.ref (ad (8 + vr.toNatClampNeg))) rfl ?_
        refine va_get (D := (dC, dI)) (ci := 6) (v := .int (xi5 (8 + vr.toNatClampNeg) 1)) (C := RX6) (T := TX6) (N := 2) hx hb hts inG6 hown hK hP (8 + vr.toNatClampNeg) (gX_row cs ad xi5 (8 + vr.toNatClampNeg) hk9.1 hk9.2) rfl 1 (by decide) (hts _ (List.mem_cons_of_mem _ mw_2_134)) (fun _ h9 => h9) rfl dX11_first_65 ?_
        refine lv_topi (fun y10 ey10 => ?_)
        have by10 : y10.toInt = (xi5 (8 + vr.toNatClampNeg) 1).toInt := congrArg Int32.toInt ey10
        have gy10 : -1 ≤ y10.toInt ∧ y10.toInt ≤ 40 := by rw [ey10]; exact rX_row_1 ok (8 + vr.toNatClampNeg) hk9.1 hk9.2
        refine lv_iconst (v := 1) hx hb dX11_first_68 (by decide) ?_
        refine lv_iadd hx hb dX11_first_69 ?_
        refine lv_topi (fun t11 et11 => ?_)
        have at11 : t11.toInt = y10.toInt + 1 := by rw [et11]; exact tI_add (rfl : y10.toInt = _) (rfl : (1 : Int32).toInt = 1) (by omega) (by omega)
        refine lv_istore (lv' := [(5, .int t11), (4, .int 0), (0, .ref (ad 0)), (1, .int vx), (2, .int vr), (3, .int vt)]) hx hb dX11_first_70 hl (by decide) rfl (fun ls hl => ?_)
        refine lv_aload_n hx hb dX11_first_72 rfl (lv_at hl 2 rfl) ?_
        refine va_get (D := (dC, dI)) (ci := 11) (v := .ref (ad 1)) (C := RX11) (T := TX11) (N := 11) hx hb hts inG11 hown hK hP 0 (gX_0 cs ad xi5) rfl 0 (by decide) (hts _ (List.mem_cons_of_mem _ mw_2_158)) (fun _ h9 => h9) rfl dX11_first_73 ?_
        refine lv_iload_n hx hb dX11_first_76 rfl (lv_at hl 5 rfl) ?_
        have hx12 : 0 ≤ vt.toInt ∧ vt.toInt < ((6 : Nat) : Int) := ⟨by omega, by omega⟩
        refine va_aldq hx hb hK hP 1 2 (gX_1 cs ad xi5) rfl (show vp_in vt 6 from vi_of hx12.1 hx12.2) dX11_first_77 ?_
        have hk12 : 8 ≤ (8 + vt.toNatClampNeg) ∧ (8 + vt.toNatClampNeg) < 14 := ix_of hx12
        refine lq_v (.ref (ad (8 + vt.toNatClampNeg))) rfl ?_
        refine lv_aload_n hx hb dX11_first_78 rfl (lv_at hl 2 rfl) ?_
        refine va_get (D := (dC, dI)) (ci := 11) (v := .ref (ad 33)) (C := RX11) (T := TX11) (N := 11) hx hb hts inG11 hown hK hP 0 (gX_0 cs ad xi5) rfl 7 (by decide) (hts _ (List.mem_cons_of_mem _ mw_2_165)) (fun _ h9 => h9) rfl dX11_first_79 ?_
        refine va_get (D := (dC, dI)) (ci := 1) (v := .ref (ad 60)) (C := RX1) (T := TX1) (N := 5) hx hb hts inG1 hown hK hP 33 (gX_33 cs ad xi5) rfl 1 (by decide) (hts _ (List.mem_cons_of_mem _ mw_2_106)) (fun _ h9 => h9) rfl dX11_first_82 ?_
        refine lv_iload hx hb dX11_first_85 (lv_at hl 0 rfl) ?_
        have hFc := fr_all (wR_D xi5 hD) hS hA
        refine va_callv (va_runV (As := [.ref (ad 60), .int t11]) (rest := []) ⟨hx, hb, hml, hown, hts⟩ (sx_Row_beLike60 l dC dI cs ad xi5 ok H5 hP ((wR_D xi5 hD).weaken (fun _ _ _ _ => trivial)) (8 + vt.toNatClampNeg) hk12.1 hk12.2 t11 (by omega)) (cwV 2 hts (wU_V mw_4_55 mw_4_52 mw_4_53 mw_4_54 mw_1_11) rfl rfl rfl (by decide +kernel) ⟨Nat.le_of_ble_eq_true rfl, Nat.le_of_ble_eq_true rfl⟩) ⟨sz_c, va_recv hK hP (ci := 6) (q0 := (8 + vt.toNatClampNeg)) rfl (gX_row cs ad xi5 (8 + vt.toNatClampNeg) hk12.1 hk12.2), sz_m hK hz⟩ rfl rfl hl.1 rfl (lv_room (Nat.le_of_ble_eq_true rfl)) dX11_first_87 ⟨Nat.zero_le _, Nat.zero_le _⟩) hS (fun q _ h => hFc q h) hFc (fun xi13 t H13 locs ht hvm hw13 hB hz1 hk1 hS => ?_)
        have hP : va_P (dC, dI) vwCl (wR 157 ad (EX cs ad) xi13) H13 := by rw [← ht]; exact hB
        obtain ⟨ok, hw13, hkp13_0⟩ := hw13
        have kp14 : (∀ k f : Nat, Nat.testBit 510 (gpX k f) = true → xi13 k f = mu k f) := kp_t hkp13_0 (by decide) kp6
        refine lv_iload hx hb dX11_first_90 (lv_at hl 0 rfl) ?_
        exact W.iret (v := t11) hx hb hr (fun t ht hW => ⟨⟨t11, xi13, rfl, ⟨ok, trivial, kp14⟩, by first | (subst ht; exact hP) | (rw [ht]; exact hP) | (show va_P (dC, dI) vwCl (wR 157 ad (EX cs ad) xi13) t.heap; rw [ht]; exact hP)⟩, hS.F ht⟩) hS.2.2 dX11_first_92
      · have c_8 : y7.toInt = 0 := il_eq c_8
        refine lv_bipush (v := (-9)) hx hb dX11_first_56 (by decide) ?_
        exact W.iret (v := (-9)) hx hb hr (fun t ht hW => ⟨⟨(-9), xi5, rfl, ⟨ok, trivial, kp6⟩, by first | (subst ht; exact hP) | (rw [ht]; exact hP) | (show va_P (dC, dI) vwCl (wR 157 ad (EX cs ad) xi5) t.heap; rw [ht]; exact hP)⟩, hS.F ht⟩) hS.2.2 dX11_first_58
    · have kp3 : (∀ k f : Nat, Nat.testBit 510 (gpX k f) = true → xi2 k f = mu k f) := kp_t hkp2_0 (by decide) (fun _ _ _ => rfl)
      skip
      refine lv_istore (lv' := [(4, .int r2), (0, .ref (ad 0)), (1, .int vx), (2, .int vr), (3, .int vt)]) hx hb dX11_first_18 hl (by decide) rfl (fun ls hl => ?_)
      refine lv_iload hx hb dX11_first_20 (lv_at hl 0 rfl) ?_
      refine lv_if_eq (tgt := 28) hx hb dX11_first_22 (by decide) (fun c_15 => by have c_15 : r2.toInt = 0 := il_eq c_15; exfalso; omega) (fun c_15 => ?_)
      have c_15 : ¬ r2.toInt = 0 := il_ne c_15
      refine lv_iload hx hb dX11_first_25 (lv_at hl 0 rfl) ?_
      exact W.iret (v := r2) hx hb hr (fun t ht hW => ⟨⟨r2, xi2, rfl, ⟨ok, trivial, kp3⟩, by first | (subst ht; exact hP) | (rw [ht]; exact hP) | (show va_P (dC, dI) vwCl (wR 157 ad (EX cs ad) xi2) t.heap; rw [ht]; exact hP)⟩, hS.F ht⟩) hS.2.2 dX11_first_27
  · have f1 : vt.toInt < 0 ∨ 5 < vt.toInt := f1
    refine lv_if_ne (tgt := 14) hx hb dX11_first_7 (by decide) (fun c => absurd (by decide) c) (fun _ => ?_)
    refine lv_iconst (v := 1) hx hb dX11_first_10 (by decide) ?_
    refine lv_goto (tgt := 15) hx hb dX11_first_11 (by decide) ?_
    have hFc := fr_all (wR_D mu hD) hS hA
    refine va_calli (va_runV (As := [.int vx, .int vr, .int 1]) (rest := []) ⟨hx, hb, hml, hown, hts⟩ (sx_refusedPrices l dC dI cs ad mu ok s.heap hP ((wR_D mu hD).weaken (fun _ _ _ _ => trivial)) vx vr 1) (cwV 3 hts (wU_V mw_4_162 mw_4_159 mw_4_161 mw_0_20 mw_1_1) rfl rfl rfl (by decide +kernel) ⟨Nat.le_of_ble_eq_true rfl, Nat.le_of_ble_eq_true rfl⟩) ⟨sz_c, va_recv hK hP (ci := 11) (q0 := 0) rfl (gX_0 cs ad mu), sz_m hK hz⟩ rfl rfl hl.1 rfl (lv_room (Nat.le_of_ble_eq_true rfl)) dX11_first_15 ⟨Nat.zero_le _, Nat.zero_le _⟩) hS (fun q _ h => hFc q h) hFc (fun r16 xi16 t H16 locs ht hvm hw16 hB hz1 hk1 hS => ?_)
    have hP : va_P (dC, dI) vwCl (wR 157 ad (EX cs ad) xi16) H16 := by rw [← ht]; exact hB
    rcases hw16 with ⟨rfl, hxi16, f16⟩ | ⟨z16, ok, hkp16_0⟩
    · have f16 : 0 ≤ vx.toInt ∧ vx.toInt < (mu 4 6).toInt ∧ (mu 4 6).toInt ≤ 7 ∧ 0 ≤ vr.toInt ∧ vr.toInt ≤ 5 ∧ 0 ≤ (mu (8 + vr.toNatClampNeg) 1).toInt ∧ (mu (8 + vr.toNatClampNeg) 1).toInt ≤ 40 ∧ (mu (8 + vr.toNatClampNeg) 1).toInt ≤ 6 ∧ (1 : Int) = 0 := f16
      exfalso
      have h9 : (1 : Int32).toInt = 1 := rfl
      omega
    · have kp17 : (∀ k f : Nat, Nat.testBit 510 (gpX k f) = true → xi16 k f = mu k f) := kp_t hkp16_0 (by decide) (fun _ _ _ => rfl)
      skip
      refine lv_istore (lv' := [(4, .int r16), (0, .ref (ad 0)), (1, .int vx), (2, .int vr), (3, .int vt)]) hx hb dX11_first_18 hl (by decide) rfl (fun ls hl => ?_)
      refine lv_iload hx hb dX11_first_20 (lv_at hl 0 rfl) ?_
      refine lv_if_eq (tgt := 28) hx hb dX11_first_22 (by decide) (fun c_18 => by have c_18 : r16.toInt = 0 := il_eq c_18; exfalso; omega) (fun c_18 => ?_)
      have c_18 : ¬ r16.toInt = 0 := il_ne c_18
      refine lv_iload hx hb dX11_first_25 (lv_at hl 0 rfl) ?_
      exact W.iret (v := r16) hx hb hr (fun t ht hW => ⟨⟨r16, xi16, rfl, ⟨ok, trivial, kp17⟩, by first | (subst ht; exact hP) | (rw [ht]; exact hP) | (show va_P (dC, dI) vwCl (wR 157 ad (EX cs ad) xi16) t.heap; rw [ht]; exact hP)⟩, hS.F ht⟩) hS.2.2 dX11_first_27

