set_option maxHeartbeats 4000000 in
set_option maxRecDepth 100000 in
/-- qx_cheapest -/
theorem qx_cheapest (l : Launch) (dC : Nat → ClassId) (dI : Nat → Nat → Nat) (cs : Nat → ClassId) (ad : Nat → Nat) (mu : Nat → Nat → Int32) (ok : okR loX hiX mu) (H : Heap) (hP : va_P (dC, dI) vwCl (wR 157 ad (EX cs ad) mu) H) (hD0 : va_D (fun _ => True) (wR 157 ad (EX cs ad) mu)) (vk : Int32) (vr : Int32) : Met l yX11_cheapest (wU yX11_cheapest cX11_cheapest 4 (some .int)) ({ frames := 11, cells := 0, slots := 0, locals := 318 }) (va_Pc [.ref (ad 0), .int vk, .int vr] (sz_P (dC, dI) vwCl (tyW cs) H)) (va_Qi (fun (z : Int32) (xi : Nat → Nat → Int32) => (z, xi) = F_qx_cheapest mu vk vr ∧ okR loX hiX xi ∧ (True) ∧ (∀ k f : Nat, Nat.testBit 510 (gpX k f) = true → xi k f = mu k f)) (fun xi t => va_P (dC, dI) vwCl (wR 157 ad (EX cs ad) xi) t.heap) (va_A (wR 157 ad (EX cs ad) mu) H.size)) 0 0 (va_A (wR 157 ad (EX cs ad) mu) H.size) := by
  refine Met.ofW (cc := cX11_cheapest) (maxL := 4) (ret := (some .int)) (by decide) rfl ?_
  intro p e s m args below meth c s₁ B hml hv
  obtain ⟨rfl, hh, hK, hz⟩ := hv
  have hx := B.exec
  have hb := B.bytes
  have hr := B.returns
  have hts := atoms_spec (ws := (wU yX11_cheapest cX11_cheapest 4 (some .int))) B.pre
  have hown : s.vm.findClass RX11 = some m.cls := findClass_of_methodNamed B.named
  have hlocks := B.notSynchronized
  subst hh
  have hD := hD0.self (sz := s.heap.size)
  have hA : ∀ q : Nat, s.heap.size ≤ q → (va_A (wR 157 ad (EX cs ad) mu) s.heap.size) q := fun q h => Or.inr h
  have hS : va_S (va_A (wR 157 ad (EX cs ad) mu) s.heap.size) s.heap s.heap [] := va_S.rf
  have hl := lv_entry ([.ref (ad 0), .int vk, .int vr]) (n := 4) (Nat.le_of_ble_eq_true rfl)
  rw [lg_entry_eq]
  generalize (lg_sl ([.ref (ad 0), .int vk, .int vr]) ++ List.replicate (4 - (lg_sl ([.ref (ad 0), .int vk, .int vr])).length) Slot.unset).toArray = ls at hl ⊢
  have hl : lv_has ls 4 [(0, .ref (ad 0)), (1, .int vk), (2, .int vr)] := hl
  obtain ⟨fz, hfz⟩ : ∃ z, F_qx_cheapest mu vk vr = z := ⟨_, rfl⟩
  have hF := hfz
  unfold F_qx_cheapest at hF
  refine lv_aload_n hx hb dX11_cheapest_0 rfl (lv_at hl 0 rfl) ?_
  refine lv_iload_n hx hb dX11_cheapest_1 rfl (lv_at hl 1 rfl) ?_
  refine lv_iload_n hx hb dX11_cheapest_2 rfl (lv_at hl 2 rfl) ?_
  refine cr_i (va_runS (As := [.int vr]) (rest := [.int vk, .ref (ad 0)]) ⟨hx, hb, hml, hown, hts⟩ (sx_isRow l dC dI (tyW cs) s.heap vr) (va_cwS 1 hts (wU_S mw_2_198 mw_2_196 mw_2_197 mw_1_1) rfl rfl rfl (by decide +kernel) ⟨Nat.le_of_ble_eq_true rfl, Nat.le_of_ble_eq_true rfl⟩) ⟨sz_c, sz_m hK hz⟩ rfl rfl hl.1 rfl (lv_room (Nat.le_of_ble_eq_true rfl)) dX11_cheapest_3 ⟨Nat.zero_le _, Nat.zero_le _⟩) hS (fun r1 hw1 locs hS => ?_)
  obtain ⟨hfe1, hw1⟩ := hw1
  rcases hw1 with ⟨rfl, f1⟩ | ⟨rfl, f1⟩
  · have hF := (if_pos hfe1.symm).symm.trans hF
    have f1 : 0 ≤ vr.toInt ∧ vr.toInt ≤ 5 := f1
    refine lv_if_ne (tgt := 13) hx hb dX11_cheapest_6 (by decide) (fun _ => ?_) (fun c => absurd c (by decide))
    refine lv_iconst (v := 0) hx hb dX11_cheapest_13 (by decide) ?_
    have hFc := fr_all (wR_D mu hD) hS hA
    refine va_calli (va_runV (As := [.int vk, .int 0]) (rest := []) ⟨hx, hb, hml, hown, hts⟩ (sx_refusedRoute l dC dI cs ad mu ok s.heap hP ((wR_D mu hD).weaken (fun _ _ _ _ => trivial)) vk 0) (cwV 2 hts (wU_V mw_4_1 mw_3_238 mw_4_0 mw_0_9 mw_1_1) rfl rfl rfl (by decide +kernel) ⟨Nat.le_of_ble_eq_true rfl, Nat.le_of_ble_eq_true rfl⟩) ⟨sz_c, va_recv hK hP (ci := 11) (q0 := 0) rfl (gX_0 cs ad mu), sz_m hK hz⟩ rfl rfl hl.1 rfl (lv_room (Nat.le_of_ble_eq_true rfl)) dX11_cheapest_14 ⟨Nat.zero_le _, Nat.zero_le _⟩) hS (fun q _ h => hFc q h) hFc (fun r2 xi2 t H2 locs ht hvm hw2 hB hz1 hk1 hS => ?_)
    have hP : va_P (dC, dI) vwCl (wR 157 ad (EX cs ad) xi2) H2 := by rw [← ht]; exact hB
    obtain ⟨hfe2, hw2⟩ := hw2
    have hF := mi_letp hF hfe2
    rcases hw2 with ⟨rfl, hxi2, f2⟩ | ⟨z2, ok, hkp2_0⟩
    · have hF := (if_pos rfl).symm.trans hF
      have hP : va_P (dC, dI) vwCl (wR 157 ad (EX cs ad) mu) H2 := by rw [← hxi2]; exact hP
      have f2 : 0 ≤ vk.toInt ∧ vk.toInt < (mu 5 4).toInt ∧ (mu 5 4).toInt ≤ 4 ∧ (0 : Int) = 0 := f2
      refine lv_istore_n (lv' := [(3, .int 0), (0, .ref (ad 0)), (1, .int vk), (2, .int vr)]) hx hb dX11_cheapest_17 rfl hl (by decide) rfl (fun ls hl => ?_)
      refine lv_iload_n hx hb dX11_cheapest_18 rfl (lv_at hl 0 rfl) ?_
      refine lv_if_eq (tgt := 24) hx hb dX11_cheapest_19 (by decide) (fun _ => ?_) (fun c => absurd (by decide) c)
      refine lv_aload_n hx hb dX11_cheapest_24 rfl (lv_at hl 1 rfl) ?_
      refine va_get (D := (dC, dI)) (ci := 11) (v := .ref (ad 32)) (C := RX11) (T := TX11) (N := 11) hx hb hts inG11 hown hK hP 0 (gX_0 cs ad mu) rfl 6 (by decide) (hts _ (List.mem_cons_of_mem _ mw_2_164)) (fun _ h9 => h9) rfl dX11_cheapest_25 ?_
      refine lv_aload_n hx hb dX11_cheapest_28 rfl (lv_at hl 1 rfl) ?_
      refine va_get (D := (dC, dI)) (ci := 11) (v := .ref (ad 4)) (C := RX11) (T := TX11) (N := 11) hx hb hts inG11 hown hK hP 0 (gX_0 cs ad mu) rfl 3 (by decide) (hts _ (List.mem_cons_of_mem _ mw_2_161)) (fun _ h9 => h9) rfl dX11_cheapest_29 ?_
      refine lv_aload_n hx hb dX11_cheapest_32 rfl (lv_at hl 1 rfl) ?_
      refine va_get (D := (dC, dI)) (ci := 11) (v := .ref (ad 4)) (C := RX11) (T := TX11) (N := 11) hx hb hts inG11 hown hK hP 0 (gX_0 cs ad mu) rfl 3 (by decide) (hts _ (List.mem_cons_of_mem _ mw_2_161)) (fun _ h9 => h9) rfl dX11_cheapest_33 ?_
      refine va_get (D := (dC, dI)) (ci := 10) (v := .ref (ad 5)) (C := RX10) (T := TX10) (N := 8) hx hb hts inG10 hown hK hP 4 (gX_4 cs ad mu) rfl 3 (by decide) (hts _ (List.mem_cons_of_mem _ mw_1_157)) (fun _ h9 => h9) rfl dX11_cheapest_36 ?_
      refine va_get (D := (dC, dI)) (ci := 8) (v := .ref (ad 47)) (C := RX8) (T := TX8) (N := 6) hx hb hts inG8 hown hK hP 5 (gX_5 cs ad mu) rfl 1 (by decide) (hts _ (List.mem_cons_of_mem _ mw_1_112)) (fun _ h9 => h9) rfl dX11_cheapest_39 ?_
      refine lv_iload_n hx hb dX11_cheapest_42 rfl (lv_at hl 2 rfl) ?_
      have hx4 : 0 ≤ vk.toInt ∧ vk.toInt < ((4 : Nat) : Int) := ⟨by omega, by omega⟩
      refine va_aldq hx hb hK hP 47 5 (gX_47 cs ad mu) rfl (show vp_in vk 4 from vi_of hx4.1 hx4.2) dX11_cheapest_43 ?_
      have hk4 : 61 ≤ (61 + vk.toNatClampNeg) ∧ (61 + vk.toNatClampNeg) < 65 := ix_of hx4
      have hk4 : 61 ≤ (61 + vk.toNatClampNeg) ∧ (61 + vk.toNatClampNeg) < 77 := ⟨Nat.le_trans (by decide) hk4.1, Nat.lt_of_lt_of_le hk4.2 (by decide)⟩
      refine lq_v (.ref (ad (61 + vk.toNatClampNeg))) rfl ?_
      have hFc := fr_all (wR_D mu hD) hS hA
      refine va_callv (va_runV (As := [.ref (ad 4), .ref (ad (61 + vk.toNatClampNeg))]) (rest := []) ⟨hx, hb, hml, hown, hts⟩ (sx_walkOf l dC dI cs ad mu ok H2 hP ((wR_D mu hD).weaken (fun _ _ _ _ => trivial)) (61 + vk.toNatClampNeg) hk4.1 hk4.2) (cwV 2 hts (wU_V mw_4_5 mw_4_2 mw_4_3 mw_4_4 mw_1_8) rfl rfl rfl (by decide +kernel) ⟨Nat.le_of_ble_eq_true rfl, Nat.le_of_ble_eq_true rfl⟩) ⟨sz_c, va_recv hK hP (ci := 5) (q0 := 32) rfl (gX_32 cs ad mu), sz_m hK hz⟩ rfl rfl hl.1 rfl (lv_room (Nat.le_of_ble_eq_true rfl)) dX11_cheapest_44 ⟨Nat.zero_le _, Nat.zero_le _⟩) hS (fun q _ h => hFc q h) hFc (fun xi5 t H5 locs ht hvm hw5 hB hz1 hk1 hS => ?_)
      have hP : va_P (dC, dI) vwCl (wR 157 ad (EX cs ad) xi5) H5 := by rw [← ht]; exact hB
      obtain ⟨hfe5, ok, hw5, hkp5_0⟩ := hw5
      have hF := mi_let hF hfe5
      have kp6 : (∀ k f : Nat, Nat.testBit 510 (gpX k f) = true → xi5 k f = mu k f) := kp_t hkp5_0 (by decide) (fun _ _ _ => rfl)
      refine lv_aload_n hx hb dX11_cheapest_47 rfl (lv_at hl 1 rfl) ?_
      refine va_get (D := (dC, dI)) (ci := 11) (v := .ref (ad 32)) (C := RX11) (T := TX11) (N := 11) hx hb hts inG11 hown hK hP 0 (gX_0 cs ad xi5) rfl 6 (by decide) (hts _ (List.mem_cons_of_mem _ mw_2_164)) (fun _ h9 => h9) rfl dX11_cheapest_48 ?_
      refine va_get (D := (dC, dI)) (ci := 5) (v := .ref (ad 55)) (C := RX5) (T := TX5) (N := 15) hx hb hts inG5 hown hK hP 32 (gX_32 cs ad xi5) rfl 3 (by decide) (hts _ (List.mem_cons_of_mem _ mw_2_50)) (fun _ h9 => h9) rfl dX11_cheapest_51 ?_
      refine va_get (D := (dC, dI)) (ci := 0) (v := .int (xi5 55 3)) (C := RX0) (T := TX0) (N := 4) hx hb hts inG0 hown hK hP 55 (gX_55 cs ad xi5) rfl 3 (by decide) (hts _ (List.mem_cons_of_mem _ mw_2_36)) (fun _ h9 => h9) rfl dX11_cheapest_54 ?_
      refine lv_topi (fun y7 ey7 => ?_)
      have hF := mi_let hF ey7
      have by7 : y7.toInt = (xi5 55 3).toInt := congrArg Int32.toInt ey7
      have gy7 : 0 ≤ y7.toInt ∧ y7.toInt ≤ 1 := by rw [ey7]; exact rX_55_3 ok
      refine lv_if_ne (tgt := 63) hx hb dX11_cheapest_57 (by decide) (fun c_8 => ?_) (fun c_8 => ?_)
      · have hF := (if_neg c_8).symm.trans hF
        have c_8 : ¬ y7.toInt = 0 := il_ne c_8
        refine lv_aload_n hx hb dX11_cheapest_63 rfl (lv_at hl 1 rfl) ?_
        refine va_get (D := (dC, dI)) (ci := 11) (v := .ref (ad 1)) (C := RX11) (T := TX11) (N := 11) hx hb hts inG11 hown hK hP 0 (gX_0 cs ad xi5) rfl 0 (by decide) (hts _ (List.mem_cons_of_mem _ mw_2_158)) (fun _ h9 => h9) rfl dX11_cheapest_64 ?_
        refine lv_iload_n hx hb dX11_cheapest_67 rfl (lv_at hl 3 rfl) ?_
        have hx9 : 0 ≤ vr.toInt ∧ vr.toInt < ((6 : Nat) : Int) := ⟨by omega, by omega⟩
        refine va_aldq hx hb hK hP 1 2 (gX_1 cs ad xi5) rfl (show vp_in vr 6 from vi_of hx9.1 hx9.2) dX11_cheapest_68 ?_
        have hk9 : 8 ≤ (8 + vr.toNatClampNeg) ∧ (8 + vr.toNatClampNeg) < 14 := ix_of hx9
        refine lq_v (.ref (ad (8 + vr.toNatClampNeg))) rfl ?_
        refine lv_aload_n hx hb dX11_cheapest_69 rfl (lv_at hl 1 rfl) ?_
        refine va_get (D := (dC, dI)) (ci := 11) (v := .ref (ad 32)) (C := RX11) (T := TX11) (N := 11) hx hb hts inG11 hown hK hP 0 (gX_0 cs ad xi5) rfl 6 (by decide) (hts _ (List.mem_cons_of_mem _ mw_2_164)) (fun _ h9 => h9) rfl dX11_cheapest_70 ?_
        refine va_get (D := (dC, dI)) (ci := 5) (v := .ref (ad 55)) (C := RX5) (T := TX5) (N := 15) hx hb hts inG5 hown hK hP 32 (gX_32 cs ad xi5) rfl 3 (by decide) (hts _ (List.mem_cons_of_mem _ mw_2_50)) (fun _ h9 => h9) rfl dX11_cheapest_73 ?_
        refine va_get (D := (dC, dI)) (ci := 0) (v := .ref (ad 57)) (C := RX0) (T := TX0) (N := 4) hx hb hts inG0 hown hK hP 55 (gX_55 cs ad xi5) rfl 0 (by decide) (hts _ (List.mem_cons_of_mem _ mw_2_27)) (fun _ h9 => h9) rfl dX11_cheapest_76 ?_
        refine lv_aload_n hx hb dX11_cheapest_79 rfl (lv_at hl 1 rfl) ?_
        refine va_get (D := (dC, dI)) (ci := 11) (v := .ref (ad 32)) (C := RX11) (T := TX11) (N := 11) hx hb hts inG11 hown hK hP 0 (gX_0 cs ad xi5) rfl 6 (by decide) (hts _ (List.mem_cons_of_mem _ mw_2_164)) (fun _ h9 => h9) rfl dX11_cheapest_80 ?_
        refine va_get (D := (dC, dI)) (ci := 5) (v := .ref (ad 55)) (C := RX5) (T := TX5) (N := 15) hx hb hts inG5 hown hK hP 32 (gX_32 cs ad xi5) rfl 3 (by decide) (hts _ (List.mem_cons_of_mem _ mw_2_50)) (fun _ h9 => h9) rfl dX11_cheapest_83 ?_
        refine va_get (D := (dC, dI)) (ci := 0) (v := .int (xi5 55 1)) (C := RX0) (T := TX0) (N := 4) hx hb hts inG0 hown hK hP 55 (gX_55 cs ad xi5) rfl 1 (by decide) (hts _ (List.mem_cons_of_mem _ mw_2_30)) (fun _ h9 => h9) rfl dX11_cheapest_86 ?_
        refine lv_topi (fun y10 ey10 => ?_)
        have hF := mi_let hF ey10
        have by10 : y10.toInt = (xi5 55 1).toInt := congrArg Int32.toInt ey10
        have gy10 : 0 ≤ y10.toInt ∧ y10.toInt ≤ 6 := by rw [ey10]; exact rX_55_1 ok
        refine lv_iconst (v := 1) hx hb dX11_cheapest_89 (by decide) ?_
        refine lv_iadd hx hb dX11_cheapest_90 ?_
        refine lv_topi (fun t11 et11 => ?_)
        have hF := mi_let hF et11
        have at11 : t11.toInt = y10.toInt + 1 := by rw [et11]; exact va1 (by omega)
        have hFc := fr_all (wR_D xi5 hD) hS hA
        refine va_callv (va_runV (As := [.ref (ad 57), .int t11]) (rest := []) ⟨hx, hb, hml, hown, hts⟩ (sx_Row_beLike57 l dC dI cs ad xi5 ok H5 hP ((wR_D xi5 hD).weaken (fun _ _ _ _ => trivial)) (8 + vr.toNatClampNeg) hk9.1 hk9.2 t11 (by omega)) (cwV 2 hts (wU_V mw_4_55 mw_4_52 mw_4_53 mw_4_54 mw_1_11) rfl rfl rfl (by decide +kernel) ⟨Nat.le_of_ble_eq_true rfl, Nat.le_of_ble_eq_true rfl⟩) ⟨sz_c, va_recv hK hP (ci := 6) (q0 := (8 + vr.toNatClampNeg)) rfl (gX_row cs ad xi5 (8 + vr.toNatClampNeg) hk9.1 hk9.2), sz_m hK hz⟩ rfl rfl hl.1 rfl (lv_room (Nat.le_of_ble_eq_true rfl)) dX11_cheapest_91 ⟨Nat.zero_le _, Nat.zero_le _⟩) hS (fun q _ h => hFc q h) hFc (fun xi12 t H12 locs ht hvm hw12 hB hz1 hk1 hS => ?_)
        have hP : va_P (dC, dI) vwCl (wR 157 ad (EX cs ad) xi12) H12 := by rw [← ht]; exact hB
        obtain ⟨hfe12, ok, hw12, hkp12_0⟩ := hw12
        have hF := mi_let hF hfe12
        have kp13 : (∀ k f : Nat, Nat.testBit 510 (gpX k f) = true → xi12 k f = mu k f) := kp_t hkp12_0 (by decide) kp6
        refine lv_aload_n hx hb dX11_cheapest_94 rfl (lv_at hl 1 rfl) ?_
        refine va_get (D := (dC, dI)) (ci := 11) (v := .ref (ad 32)) (C := RX11) (T := TX11) (N := 11) hx hb hts inG11 hown hK hP 0 (gX_0 cs ad xi12) rfl 6 (by decide) (hts _ (List.mem_cons_of_mem _ mw_2_164)) (fun _ h9 => h9) rfl dX11_cheapest_95 ?_
        refine va_get (D := (dC, dI)) (ci := 5) (v := .ref (ad 55)) (C := RX5) (T := TX5) (N := 15) hx hb hts inG5 hown hK hP 32 (gX_32 cs ad xi12) rfl 3 (by decide) (hts _ (List.mem_cons_of_mem _ mw_2_50)) (fun _ h9 => h9) rfl dX11_cheapest_98 ?_
        refine va_get (D := (dC, dI)) (ci := 0) (v := .int (xi12 55 2)) (C := RX0) (T := TX0) (N := 4) hx hb hts inG0 hown hK hP 55 (gX_55 cs ad xi12) rfl 2 (by decide) (hts _ (List.mem_cons_of_mem _ mw_2_33)) (fun _ h9 => h9) rfl dX11_cheapest_101 ?_
        refine lv_topi (fun y14 ey14 => ?_)
        have hF := mi_let hF ey14
        have by14 : y14.toInt = (xi12 55 2).toInt := congrArg Int32.toInt ey14
        exact W.iret (v := y14) hx hb hr (fun t ht hW => ⟨⟨y14, xi12, rfl, ⟨hF.trans hfz.symm, ok, trivial, kp13⟩, by first | (subst ht; exact hP) | (rw [ht]; exact hP) | (show va_P (dC, dI) vwCl (wR 157 ad (EX cs ad) xi12) t.heap; rw [ht]; exact hP)⟩, hS.F ht⟩) hS.2.2 dX11_cheapest_104
      · have hF := (if_pos c_8).symm.trans hF
        have c_8 : y7.toInt = 0 := il_eq c_8
        refine lv_bipush (v := (-9)) hx hb dX11_cheapest_60 (by decide) ?_
        exact W.iret (v := (-9)) hx hb hr (fun t ht hW => ⟨⟨(-9), xi5, rfl, ⟨hF.trans hfz.symm, ok, trivial, kp6⟩, by first | (subst ht; exact hP) | (rw [ht]; exact hP) | (show va_P (dC, dI) vwCl (wR 157 ad (EX cs ad) xi5) t.heap; rw [ht]; exact hP)⟩, hS.F ht⟩) hS.2.2 dX11_cheapest_62
    · have hF := (if_neg (show ¬ r2 = 0 from fun h => by have h9 := congrArg Int32.toInt h; have h8 : (0 : Int32).toInt = 0 := rfl; omega)).symm.trans hF
      have kp3 : (∀ k f : Nat, Nat.testBit 510 (gpX k f) = true → xi2 k f = mu k f) := kp_t hkp2_0 (by decide) (fun _ _ _ => rfl)
      skip
      refine lv_istore_n (lv' := [(3, .int r2), (0, .ref (ad 0)), (1, .int vk), (2, .int vr)]) hx hb dX11_cheapest_17 rfl hl (by decide) rfl (fun ls hl => ?_)
      refine lv_iload_n hx hb dX11_cheapest_18 rfl (lv_at hl 0 rfl) ?_
      refine lv_if_eq (tgt := 24) hx hb dX11_cheapest_19 (by decide) (fun c_15 => by have c_15 : r2.toInt = 0 := il_eq c_15; exfalso; omega) (fun c_15 => ?_)
      have c_15 : ¬ r2.toInt = 0 := il_ne c_15
      refine lv_iload_n hx hb dX11_cheapest_22 rfl (lv_at hl 0 rfl) ?_
      exact W.iret (v := r2) hx hb hr (fun t ht hW => ⟨⟨r2, xi2, rfl, ⟨hF.trans hfz.symm, ok, trivial, kp3⟩, by first | (subst ht; exact hP) | (rw [ht]; exact hP) | (show va_P (dC, dI) vwCl (wR 157 ad (EX cs ad) xi2) t.heap; rw [ht]; exact hP)⟩, hS.F ht⟩) hS.2.2 dX11_cheapest_23
  · have hF := (if_neg (fun h => absurd (hfe1.trans h) (by decide))).symm.trans hF
    have f1 : vr.toInt < 0 ∨ 5 < vr.toInt := f1
    refine lv_if_ne (tgt := 13) hx hb dX11_cheapest_6 (by decide) (fun c => absurd (by decide) c) (fun _ => ?_)
    refine lv_iconst (v := 1) hx hb dX11_cheapest_9 (by decide) ?_
    refine lv_goto (tgt := 14) hx hb dX11_cheapest_10 (by decide) ?_
    have hFc := fr_all (wR_D mu hD) hS hA
    refine va_calli (va_runV (As := [.int vk, .int 1]) (rest := []) ⟨hx, hb, hml, hown, hts⟩ (sx_refusedRoute l dC dI cs ad mu ok s.heap hP ((wR_D mu hD).weaken (fun _ _ _ _ => trivial)) vk 1) (cwV 2 hts (wU_V mw_4_1 mw_3_238 mw_4_0 mw_0_9 mw_1_1) rfl rfl rfl (by decide +kernel) ⟨Nat.le_of_ble_eq_true rfl, Nat.le_of_ble_eq_true rfl⟩) ⟨sz_c, va_recv hK hP (ci := 11) (q0 := 0) rfl (gX_0 cs ad mu), sz_m hK hz⟩ rfl rfl hl.1 rfl (lv_room (Nat.le_of_ble_eq_true rfl)) dX11_cheapest_14 ⟨Nat.zero_le _, Nat.zero_le _⟩) hS (fun q _ h => hFc q h) hFc (fun r16 xi16 t H16 locs ht hvm hw16 hB hz1 hk1 hS => ?_)
    have hP : va_P (dC, dI) vwCl (wR 157 ad (EX cs ad) xi16) H16 := by rw [← ht]; exact hB
    obtain ⟨hfe16, hw16⟩ := hw16
    have hF := mi_letp hF hfe16
    rcases hw16 with ⟨rfl, hxi16, f16⟩ | ⟨z16, ok, hkp16_0⟩
    · have f16 : 0 ≤ vk.toInt ∧ vk.toInt < (mu 5 4).toInt ∧ (mu 5 4).toInt ≤ 4 ∧ (1 : Int) = 0 := f16
      exfalso
      have h9 : (1 : Int32).toInt = 1 := rfl
      omega
    · have hF := (if_neg (show ¬ r16 = 0 from fun h => by have h9 := congrArg Int32.toInt h; have h8 : (0 : Int32).toInt = 0 := rfl; omega)).symm.trans hF
      have kp17 : (∀ k f : Nat, Nat.testBit 510 (gpX k f) = true → xi16 k f = mu k f) := kp_t hkp16_0 (by decide) (fun _ _ _ => rfl)
      skip
      refine lv_istore_n (lv' := [(3, .int r16), (0, .ref (ad 0)), (1, .int vk), (2, .int vr)]) hx hb dX11_cheapest_17 rfl hl (by decide) rfl (fun ls hl => ?_)
      refine lv_iload_n hx hb dX11_cheapest_18 rfl (lv_at hl 0 rfl) ?_
      refine lv_if_eq (tgt := 24) hx hb dX11_cheapest_19 (by decide) (fun c_18 => by have c_18 : r16.toInt = 0 := il_eq c_18; exfalso; omega) (fun c_18 => ?_)
      have c_18 : ¬ r16.toInt = 0 := il_ne c_18
      refine lv_iload_n hx hb dX11_cheapest_22 rfl (lv_at hl 0 rfl) ?_
      exact W.iret (v := r16) hx hb hr (fun t ht hW => ⟨⟨r16, xi16, rfl, ⟨hF.trans hfz.symm, ok, trivial, kp17⟩, by first | (subst ht; exact hP) | (rw [ht]; exact hP) | (show va_P (dC, dI) vwCl (wR 157 ad (EX cs ad) xi16) t.heap; rw [ht]; exact hP)⟩, hS.F ht⟩) hS.2.2 dX11_cheapest_23
set_option maxHeartbeats 4000000 in
set_option maxRecDepth 100000 in
/-- qx_soonest -/
theorem qx_soonest (l : Launch) (dC : Nat → ClassId) (dI : Nat → Nat → Nat) (cs : Nat → ClassId) (ad : Nat → Nat) (mu : Nat → Nat → Int32) (ok : okR loX hiX mu) (H : Heap) (hP : va_P (dC, dI) vwCl (wR 157 ad (EX cs ad) mu) H) (hD0 : va_D (fun _ => True) (wR 157 ad (EX cs ad) mu)) (vk : Int32) (vr : Int32) : Met l yX11_soonest (wU yX11_soonest cX11_soonest 4 (some .int)) ({ frames := 11, cells := 0, slots := 0, locals := 318 }) (va_Pc [.ref (ad 0), .int vk, .int vr] (sz_P (dC, dI) vwCl (tyW cs) H)) (va_Qi (fun (z : Int32) (xi : Nat → Nat → Int32) => (z, xi) = F_qx_soonest mu vk vr ∧ okR loX hiX xi ∧ (True) ∧ (∀ k f : Nat, Nat.testBit 510 (gpX k f) = true → xi k f = mu k f)) (fun xi t => va_P (dC, dI) vwCl (wR 157 ad (EX cs ad) xi) t.heap) (va_A (wR 157 ad (EX cs ad) mu) H.size)) 0 0 (va_A (wR 157 ad (EX cs ad) mu) H.size) := by
  refine Met.ofW (cc := cX11_soonest) (maxL := 4) (ret := (some .int)) (by decide) rfl ?_
  intro p e s m args below meth c s₁ B hml hv
  obtain ⟨rfl, hh, hK, hz⟩ := hv
  have hx := B.exec
  have hb := B.bytes
  have hr := B.returns
  have hts := atoms_spec (ws := (wU yX11_soonest cX11_soonest 4 (some .int))) B.pre
  have hown : s.vm.findClass RX11 = some m.cls := findClass_of_methodNamed B.named
  have hlocks := B.notSynchronized
  subst hh
  have hD := hD0.self (sz := s.heap.size)
  have hA : ∀ q : Nat, s.heap.size ≤ q → (va_A (wR 157 ad (EX cs ad) mu) s.heap.size) q := fun q h => Or.inr h
  have hS : va_S (va_A (wR 157 ad (EX cs ad) mu) s.heap.size) s.heap s.heap [] := va_S.rf
  have hl := lv_entry ([.ref (ad 0), .int vk, .int vr]) (n := 4) (Nat.le_of_ble_eq_true rfl)
  rw [lg_entry_eq]
  generalize (lg_sl ([.ref (ad 0), .int vk, .int vr]) ++ List.replicate (4 - (lg_sl ([.ref (ad 0), .int vk, .int vr])).length) Slot.unset).toArray = ls at hl ⊢
  have hl : lv_has ls 4 [(0, .ref (ad 0)), (1, .int vk), (2, .int vr)] := hl
  obtain ⟨fz, hfz⟩ : ∃ z, F_qx_soonest mu vk vr = z := ⟨_, rfl⟩
  have hF := hfz
  unfold F_qx_soonest at hF
  refine lv_aload_n hx hb dX11_soonest_0 rfl (lv_at hl 0 rfl) ?_
  refine lv_iload_n hx hb dX11_soonest_1 rfl (lv_at hl 1 rfl) ?_
  refine lv_iload_n hx hb dX11_soonest_2 rfl (lv_at hl 2 rfl) ?_
  refine cr_i (va_runS (As := [.int vr]) (rest := [.int vk, .ref (ad 0)]) ⟨hx, hb, hml, hown, hts⟩ (sx_isRow l dC dI (tyW cs) s.heap vr) (va_cwS 1 hts (wU_S mw_2_198 mw_2_196 mw_2_197 mw_1_1) rfl rfl rfl (by decide +kernel) ⟨Nat.le_of_ble_eq_true rfl, Nat.le_of_ble_eq_true rfl⟩) ⟨sz_c, sz_m hK hz⟩ rfl rfl hl.1 rfl (lv_room (Nat.le_of_ble_eq_true rfl)) dX11_soonest_3 ⟨Nat.zero_le _, Nat.zero_le _⟩) hS (fun r1 hw1 locs hS => ?_)
  obtain ⟨hfe1, hw1⟩ := hw1
  rcases hw1 with ⟨rfl, f1⟩ | ⟨rfl, f1⟩
  · have hF := (if_pos hfe1.symm).symm.trans hF
    have f1 : 0 ≤ vr.toInt ∧ vr.toInt ≤ 5 := f1
    refine lv_if_ne (tgt := 13) hx hb dX11_soonest_6 (by decide) (fun _ => ?_) (fun c => absurd c (by decide))
    refine lv_iconst (v := 0) hx hb dX11_soonest_13 (by decide) ?_
    have hFc := fr_all (wR_D mu hD) hS hA
    refine va_calli (va_runV (As := [.int vk, .int 0]) (rest := []) ⟨hx, hb, hml, hown, hts⟩ (sx_refusedRoute l dC dI cs ad mu ok s.heap hP ((wR_D mu hD).weaken (fun _ _ _ _ => trivial)) vk 0) (cwV 2 hts (wU_V mw_4_1 mw_3_238 mw_4_0 mw_0_9 mw_1_1) rfl rfl rfl (by decide +kernel) ⟨Nat.le_of_ble_eq_true rfl, Nat.le_of_ble_eq_true rfl⟩) ⟨sz_c, va_recv hK hP (ci := 11) (q0 := 0) rfl (gX_0 cs ad mu), sz_m hK hz⟩ rfl rfl hl.1 rfl (lv_room (Nat.le_of_ble_eq_true rfl)) dX11_soonest_14 ⟨Nat.zero_le _, Nat.zero_le _⟩) hS (fun q _ h => hFc q h) hFc (fun r2 xi2 t H2 locs ht hvm hw2 hB hz1 hk1 hS => ?_)
    have hP : va_P (dC, dI) vwCl (wR 157 ad (EX cs ad) xi2) H2 := by rw [← ht]; exact hB
    obtain ⟨hfe2, hw2⟩ := hw2
    have hF := mi_letp hF hfe2
    rcases hw2 with ⟨rfl, hxi2, f2⟩ | ⟨z2, ok, hkp2_0⟩
    · have hF := (if_pos rfl).symm.trans hF
      have hP : va_P (dC, dI) vwCl (wR 157 ad (EX cs ad) mu) H2 := by rw [← hxi2]; exact hP
      have f2 : 0 ≤ vk.toInt ∧ vk.toInt < (mu 5 4).toInt ∧ (mu 5 4).toInt ≤ 4 ∧ (0 : Int) = 0 := f2
      refine lv_istore_n (lv' := [(3, .int 0), (0, .ref (ad 0)), (1, .int vk), (2, .int vr)]) hx hb dX11_soonest_17 rfl hl (by decide) rfl (fun ls hl => ?_)
      refine lv_iload_n hx hb dX11_soonest_18 rfl (lv_at hl 0 rfl) ?_
      refine lv_if_eq (tgt := 24) hx hb dX11_soonest_19 (by decide) (fun _ => ?_) (fun c => absurd (by decide) c)
      refine lv_aload_n hx hb dX11_soonest_24 rfl (lv_at hl 1 rfl) ?_
      refine va_get (D := (dC, dI)) (ci := 11) (v := .ref (ad 32)) (C := RX11) (T := TX11) (N := 11) hx hb hts inG11 hown hK hP 0 (gX_0 cs ad mu) rfl 6 (by decide) (hts _ (List.mem_cons_of_mem _ mw_2_164)) (fun _ h9 => h9) rfl dX11_soonest_25 ?_
      refine lv_aload_n hx hb dX11_soonest_28 rfl (lv_at hl 1 rfl) ?_
      refine va_get (D := (dC, dI)) (ci := 11) (v := .ref (ad 4)) (C := RX11) (T := TX11) (N := 11) hx hb hts inG11 hown hK hP 0 (gX_0 cs ad mu) rfl 3 (by decide) (hts _ (List.mem_cons_of_mem _ mw_2_161)) (fun _ h9 => h9) rfl dX11_soonest_29 ?_
      refine lv_aload_n hx hb dX11_soonest_32 rfl (lv_at hl 1 rfl) ?_
      refine va_get (D := (dC, dI)) (ci := 11) (v := .ref (ad 4)) (C := RX11) (T := TX11) (N := 11) hx hb hts inG11 hown hK hP 0 (gX_0 cs ad mu) rfl 3 (by decide) (hts _ (List.mem_cons_of_mem _ mw_2_161)) (fun _ h9 => h9) rfl dX11_soonest_33 ?_
      refine va_get (D := (dC, dI)) (ci := 10) (v := .ref (ad 5)) (C := RX10) (T := TX10) (N := 8) hx hb hts inG10 hown hK hP 4 (gX_4 cs ad mu) rfl 3 (by decide) (hts _ (List.mem_cons_of_mem _ mw_1_157)) (fun _ h9 => h9) rfl dX11_soonest_36 ?_
      refine va_get (D := (dC, dI)) (ci := 8) (v := .ref (ad 47)) (C := RX8) (T := TX8) (N := 6) hx hb hts inG8 hown hK hP 5 (gX_5 cs ad mu) rfl 1 (by decide) (hts _ (List.mem_cons_of_mem _ mw_1_112)) (fun _ h9 => h9) rfl dX11_soonest_39 ?_
      refine lv_iload_n hx hb dX11_soonest_42 rfl (lv_at hl 2 rfl) ?_
      have hx4 : 0 ≤ vk.toInt ∧ vk.toInt < ((4 : Nat) : Int) := ⟨by omega, by omega⟩
      refine va_aldq hx hb hK hP 47 5 (gX_47 cs ad mu) rfl (show vp_in vk 4 from vi_of hx4.1 hx4.2) dX11_soonest_43 ?_
      have hk4 : 61 ≤ (61 + vk.toNatClampNeg) ∧ (61 + vk.toNatClampNeg) < 65 := ix_of hx4
      have hk4 : 61 ≤ (61 + vk.toNatClampNeg) ∧ (61 + vk.toNatClampNeg) < 77 := ⟨Nat.le_trans (by decide) hk4.1, Nat.lt_of_lt_of_le hk4.2 (by decide)⟩
      refine lq_v (.ref (ad (61 + vk.toNatClampNeg))) rfl ?_
      have hFc := fr_all (wR_D mu hD) hS hA
      refine va_callv (va_runV (As := [.ref (ad 4), .ref (ad (61 + vk.toNatClampNeg))]) (rest := []) ⟨hx, hb, hml, hown, hts⟩ (sx_walkOf l dC dI cs ad mu ok H2 hP ((wR_D mu hD).weaken (fun _ _ _ _ => trivial)) (61 + vk.toNatClampNeg) hk4.1 hk4.2) (cwV 2 hts (wU_V mw_4_5 mw_4_2 mw_4_3 mw_4_4 mw_1_8) rfl rfl rfl (by decide +kernel) ⟨Nat.le_of_ble_eq_true rfl, Nat.le_of_ble_eq_true rfl⟩) ⟨sz_c, va_recv hK hP (ci := 5) (q0 := 32) rfl (gX_32 cs ad mu), sz_m hK hz⟩ rfl rfl hl.1 rfl (lv_room (Nat.le_of_ble_eq_true rfl)) dX11_soonest_44 ⟨Nat.zero_le _, Nat.zero_le _⟩) hS (fun q _ h => hFc q h) hFc (fun xi5 t H5 locs ht hvm hw5 hB hz1 hk1 hS => ?_)
      have hP : va_P (dC, dI) vwCl (wR 157 ad (EX cs ad) xi5) H5 := by rw [← ht]; exact hB
      obtain ⟨hfe5, ok, hw5, hkp5_0⟩ := hw5
      have hF := mi_let hF hfe5
      have kp6 : (∀ k f : Nat, Nat.testBit 510 (gpX k f) = true → xi5 k f = mu k f) := kp_t hkp5_0 (by decide) (fun _ _ _ => rfl)
      refine lv_aload_n hx hb dX11_soonest_47 rfl (lv_at hl 1 rfl) ?_
      refine va_get (D := (dC, dI)) (ci := 11) (v := .ref (ad 32)) (C := RX11) (T := TX11) (N := 11) hx hb hts inG11 hown hK hP 0 (gX_0 cs ad xi5) rfl 6 (by decide) (hts _ (List.mem_cons_of_mem _ mw_2_164)) (fun _ h9 => h9) rfl dX11_soonest_48 ?_
      refine va_get (D := (dC, dI)) (ci := 5) (v := .ref (ad 56)) (C := RX5) (T := TX5) (N := 15) hx hb hts inG5 hown hK hP 32 (gX_32 cs ad xi5) rfl 4 (by decide) (hts _ (List.mem_cons_of_mem _ mw_2_52)) (fun _ h9 => h9) rfl dX11_soonest_51 ?_
      refine va_get (D := (dC, dI)) (ci := 0) (v := .int (xi5 56 3)) (C := RX0) (T := TX0) (N := 4) hx hb hts inG0 hown hK hP 56 (gX_56 cs ad xi5) rfl 3 (by decide) (hts _ (List.mem_cons_of_mem _ mw_2_36)) (fun _ h9 => h9) rfl dX11_soonest_54 ?_
      refine lv_topi (fun y7 ey7 => ?_)
      have hF := mi_let hF ey7
      have by7 : y7.toInt = (xi5 56 3).toInt := congrArg Int32.toInt ey7
      have gy7 : 0 ≤ y7.toInt ∧ y7.toInt ≤ 1 := by rw [ey7]; exact rX_56_3 ok
      refine lv_if_ne (tgt := 63) hx hb dX11_soonest_57 (by decide) (fun c_8 => ?_) (fun c_8 => ?_)
      · have hF := (if_neg c_8).symm.trans hF
        have c_8 : ¬ y7.toInt = 0 := il_ne c_8
        refine lv_aload_n hx hb dX11_soonest_63 rfl (lv_at hl 1 rfl) ?_
        refine va_get (D := (dC, dI)) (ci := 11) (v := .ref (ad 1)) (C := RX11) (T := TX11) (N := 11) hx hb hts inG11 hown hK hP 0 (gX_0 cs ad xi5) rfl 0 (by decide) (hts _ (List.mem_cons_of_mem _ mw_2_158)) (fun _ h9 => h9) rfl dX11_soonest_64 ?_
        refine lv_iload_n hx hb dX11_soonest_67 rfl (lv_at hl 3 rfl) ?_
        have hx9 : 0 ≤ vr.toInt ∧ vr.toInt < ((6 : Nat) : Int) := ⟨by omega, by omega⟩
        refine va_aldq hx hb hK hP 1 2 (gX_1 cs ad xi5) rfl (show vp_in vr 6 from vi_of hx9.1 hx9.2) dX11_soonest_68 ?_
        have hk9 : 8 ≤ (8 + vr.toNatClampNeg) ∧ (8 + vr.toNatClampNeg) < 14 := ix_of hx9
        refine lq_v (.ref (ad (8 + vr.toNatClampNeg))) rfl ?_
        refine lv_aload_n hx hb dX11_soonest_69 rfl (lv_at hl 1 rfl) ?_
        refine va_get (D := (dC, dI)) (ci := 11) (v := .ref (ad 32)) (C := RX11) (T := TX11) (N := 11) hx hb hts inG11 hown hK hP 0 (gX_0 cs ad xi5) rfl 6 (by decide) (hts _ (List.mem_cons_of_mem _ mw_2_164)) (fun _ h9 => h9) rfl dX11_soonest_70 ?_
        refine va_get (D := (dC, dI)) (ci := 5) (v := .ref (ad 56)) (C := RX5) (T := TX5) (N := 15) hx hb hts inG5 hown hK hP 32 (gX_32 cs ad xi5) rfl 4 (by decide) (hts _ (List.mem_cons_of_mem _ mw_2_52)) (fun _ h9 => h9) rfl dX11_soonest_73 ?_
        refine va_get (D := (dC, dI)) (ci := 0) (v := .ref (ad 58)) (C := RX0) (T := TX0) (N := 4) hx hb hts inG0 hown hK hP 56 (gX_56 cs ad xi5) rfl 0 (by decide) (hts _ (List.mem_cons_of_mem _ mw_2_27)) (fun _ h9 => h9) rfl dX11_soonest_76 ?_
        refine lv_aload_n hx hb dX11_soonest_79 rfl (lv_at hl 1 rfl) ?_
        refine va_get (D := (dC, dI)) (ci := 11) (v := .ref (ad 32)) (C := RX11) (T := TX11) (N := 11) hx hb hts inG11 hown hK hP 0 (gX_0 cs ad xi5) rfl 6 (by decide) (hts _ (List.mem_cons_of_mem _ mw_2_164)) (fun _ h9 => h9) rfl dX11_soonest_80 ?_
        refine va_get (D := (dC, dI)) (ci := 5) (v := .ref (ad 56)) (C := RX5) (T := TX5) (N := 15) hx hb hts inG5 hown hK hP 32 (gX_32 cs ad xi5) rfl 4 (by decide) (hts _ (List.mem_cons_of_mem _ mw_2_52)) (fun _ h9 => h9) rfl dX11_soonest_83 ?_
        refine va_get (D := (dC, dI)) (ci := 0) (v := .int (xi5 56 1)) (C := RX0) (T := TX0) (N := 4) hx hb hts inG0 hown hK hP 56 (gX_56 cs ad xi5) rfl 1 (by decide) (hts _ (List.mem_cons_of_mem _ mw_2_30)) (fun _ h9 => h9) rfl dX11_soonest_86 ?_
        refine lv_topi (fun y10 ey10 => ?_)
        have hF := mi_let hF ey10
        have by10 : y10.toInt = (xi5 56 1).toInt := congrArg Int32.toInt ey10
        have gy10 : 0 ≤ y10.toInt ∧ y10.toInt ≤ 6 := by rw [ey10]; exact rX_56_1 ok
        refine lv_iconst (v := 1) hx hb dX11_soonest_89 (by decide) ?_
        refine lv_iadd hx hb dX11_soonest_90 ?_
        refine lv_topi (fun t11 et11 => ?_)
        have hF := mi_let hF et11
        have at11 : t11.toInt = y10.toInt + 1 := by rw [et11]; exact va1 (by omega)
        have hFc := fr_all (wR_D xi5 hD) hS hA
        refine va_callv (va_runV (As := [.ref (ad 58), .int t11]) (rest := []) ⟨hx, hb, hml, hown, hts⟩ (sx_Row_beLike58 l dC dI cs ad xi5 ok H5 hP ((wR_D xi5 hD).weaken (fun _ _ _ _ => trivial)) (8 + vr.toNatClampNeg) hk9.1 hk9.2 t11 (by omega)) (cwV 2 hts (wU_V mw_4_55 mw_4_52 mw_4_53 mw_4_54 mw_1_11) rfl rfl rfl (by decide +kernel) ⟨Nat.le_of_ble_eq_true rfl, Nat.le_of_ble_eq_true rfl⟩) ⟨sz_c, va_recv hK hP (ci := 6) (q0 := (8 + vr.toNatClampNeg)) rfl (gX_row cs ad xi5 (8 + vr.toNatClampNeg) hk9.1 hk9.2), sz_m hK hz⟩ rfl rfl hl.1 rfl (lv_room (Nat.le_of_ble_eq_true rfl)) dX11_soonest_91 ⟨Nat.zero_le _, Nat.zero_le _⟩) hS (fun q _ h => hFc q h) hFc (fun xi12 t H12 locs ht hvm hw12 hB hz1 hk1 hS => ?_)
        have hP : va_P (dC, dI) vwCl (wR 157 ad (EX cs ad) xi12) H12 := by rw [← ht]; exact hB
        obtain ⟨hfe12, ok, hw12, hkp12_0⟩ := hw12
        have hF := mi_let hF hfe12
        have kp13 : (∀ k f : Nat, Nat.testBit 510 (gpX k f) = true → xi12 k f = mu k f) := kp_t hkp12_0 (by decide) kp6
        refine lv_aload_n hx hb dX11_soonest_94 rfl (lv_at hl 1 rfl) ?_
        refine lv_aload_n hx hb dX11_soonest_95 rfl (lv_at hl 1 rfl) ?_
        refine va_get (D := (dC, dI)) (ci := 11) (v := .ref (ad 32)) (C := RX11) (T := TX11) (N := 11) hx hb hts inG11 hown hK hP 0 (gX_0 cs ad xi12) rfl 6 (by decide) (hts _ (List.mem_cons_of_mem _ mw_2_164)) (fun _ h9 => h9) rfl dX11_soonest_96 ?_
        refine va_get (D := (dC, dI)) (ci := 5) (v := .ref (ad 56)) (C := RX5) (T := TX5) (N := 15) hx hb hts inG5 hown hK hP 32 (gX_32 cs ad xi12) rfl 4 (by decide) (hts _ (List.mem_cons_of_mem _ mw_2_52)) (fun _ h9 => h9) rfl dX11_soonest_99 ?_
        refine va_get (D := (dC, dI)) (ci := 0) (v := .int (xi12 56 2)) (C := RX0) (T := TX0) (N := 4) hx hb hts inG0 hown hK hP 56 (gX_56 cs ad xi12) rfl 2 (by decide) (hts _ (List.mem_cons_of_mem _ mw_2_33)) (fun _ h9 => h9) rfl dX11_soonest_102 ?_
        refine lv_topi (fun y14 ey14 => ?_)
        have hF := mi_let hF ey14
        have by14 : y14.toInt = (xi12 56 2).toInt := congrArg Int32.toInt ey14
        refine va_put (D := (dC, dI)) (ci := 11) (v := .int y14) (ty := .int) (C := RX11) (T := TX11) (N := 11) hx hb hts inG11 tyX11 tyX11_ok nmX11 hown hK hP (wR_D xi12 hD) hS 0 (gX_0 cs ad xi12) rfl 10 (by decide) (hts _ (List.mem_cons_of_mem _ mw_2_168)) (fun _ h9 => h9) rfl (by decide +kernel) rfl rfl (Nat.le_of_ble_eq_true rfl) dX11_soonest_105 (fun H locs hP _ hS => ?_)
        simp only [List.set_cons_succ, List.set_cons_zero] at hP
        refine wr_gen (upd (xi12 0) 10 y14) hP ((hX_0_10 cs ad _ _)) (fun nu15 hn15 hP => ?_)
        have hF := mi_let hF hn15.symm
        have ok := tX_0_10 ok hn15
        have ez16 : y14 = nu15 56 2 := ey14.trans (congrFun (up_k hn15 (by decide)) 2).symm
        have kp17 : (∀ k f : Nat, Nat.testBit 510 (gpX k f) = true → nu15 k f = mu k f) := kp_c 0 hn15 (fun _ => rfl) (by decide) kp13
        have ez18 : y14 = nu15 0 10 := up_v hn15
        refine lv_aload_n hx hb dX11_soonest_108 rfl (lv_at hl 1 rfl) ?_
        refine va_get (D := (dC, dI)) (ci := 11) (v := .ref (ad 32)) (C := RX11) (T := TX11) (N := 11) hx hb hts inG11 hown hK hP 0 (gX_0 cs ad nu15) rfl 6 (by decide) (hts _ (List.mem_cons_of_mem _ mw_2_164)) (fun _ h9 => h9) rfl dX11_soonest_109 ?_
        refine va_get (D := (dC, dI)) (ci := 5) (v := .ref (ad 56)) (C := RX5) (T := TX5) (N := 15) hx hb hts inG5 hown hK hP 32 (gX_32 cs ad nu15) rfl 4 (by decide) (hts _ (List.mem_cons_of_mem _ mw_2_52)) (fun _ h9 => h9) rfl dX11_soonest_112 ?_
        refine va_get (D := (dC, dI)) (ci := 0) (v := .int (nu15 56 1)) (C := RX0) (T := TX0) (N := 4) hx hb hts inG0 hown hK hP 56 (gX_56 cs ad nu15) rfl 1 (by decide) (hts _ (List.mem_cons_of_mem _ mw_2_30)) (fun _ h9 => h9) rfl dX11_soonest_115 ?_
        refine lv_topi (fun y19 ey19 => ?_)
        have hF := mi_let hF ey19
        have by19 : y19.toInt = (nu15 56 1).toInt := congrArg Int32.toInt ey19
        have gy19 : 0 ≤ y19.toInt ∧ y19.toInt ≤ 6 := by rw [ey19]; exact rX_56_1 ok
        exact W.iret (v := y19) hx hb hr (fun t ht hW => ⟨⟨y19, nu15, rfl, ⟨hF.trans hfz.symm, ok, trivial, kp17⟩, by first | (subst ht; exact hP) | (rw [ht]; exact hP) | (show va_P (dC, dI) vwCl (wR 157 ad (EX cs ad) nu15) t.heap; rw [ht]; exact hP)⟩, hS.F ht⟩) hS.2.2 dX11_soonest_118
      · have hF := (if_pos c_8).symm.trans hF
        have c_8 : y7.toInt = 0 := il_eq c_8
        refine lv_bipush (v := (-9)) hx hb dX11_soonest_60 (by decide) ?_
        exact W.iret (v := (-9)) hx hb hr (fun t ht hW => ⟨⟨(-9), xi5, rfl, ⟨hF.trans hfz.symm, ok, trivial, kp6⟩, by first | (subst ht; exact hP) | (rw [ht]; exact hP) | (show va_P (dC, dI) vwCl (wR 157 ad (EX cs ad) xi5) t.heap; rw [ht]; exact hP)⟩, hS.F ht⟩) hS.2.2 dX11_soonest_62
    · have hF := (if_neg (show ¬ r2 = 0 from fun h => by have h9 := congrArg Int32.toInt h; have h8 : (0 : Int32).toInt = 0 := rfl; omega)).symm.trans hF
      have kp3 : (∀ k f : Nat, Nat.testBit 510 (gpX k f) = true → xi2 k f = mu k f) := kp_t hkp2_0 (by decide) (fun _ _ _ => rfl)
      skip
      refine lv_istore_n (lv' := [(3, .int r2), (0, .ref (ad 0)), (1, .int vk), (2, .int vr)]) hx hb dX11_soonest_17 rfl hl (by decide) rfl (fun ls hl => ?_)
      refine lv_iload_n hx hb dX11_soonest_18 rfl (lv_at hl 0 rfl) ?_
      refine lv_if_eq (tgt := 24) hx hb dX11_soonest_19 (by decide) (fun c_20 => by have c_20 : r2.toInt = 0 := il_eq c_20; exfalso; omega) (fun c_20 => ?_)
      have c_20 : ¬ r2.toInt = 0 := il_ne c_20
      refine lv_iload_n hx hb dX11_soonest_22 rfl (lv_at hl 0 rfl) ?_
      exact W.iret (v := r2) hx hb hr (fun t ht hW => ⟨⟨r2, xi2, rfl, ⟨hF.trans hfz.symm, ok, trivial, kp3⟩, by first | (subst ht; exact hP) | (rw [ht]; exact hP) | (show va_P (dC, dI) vwCl (wR 157 ad (EX cs ad) xi2) t.heap; rw [ht]; exact hP)⟩, hS.F ht⟩) hS.2.2 dX11_soonest_23
  · have hF := (if_neg (fun h => absurd (hfe1.trans h) (by decide))).symm.trans hF
    have f1 : vr.toInt < 0 ∨ 5 < vr.toInt := f1
    refine lv_if_ne (tgt := 13) hx hb dX11_soonest_6 (by decide) (fun c => absurd (by decide) c) (fun _ => ?_)
    refine lv_iconst (v := 1) hx hb dX11_soonest_9 (by decide) ?_
    refine lv_goto (tgt := 14) hx hb dX11_soonest_10 (by decide) ?_
    have hFc := fr_all (wR_D mu hD) hS hA
    refine va_calli (va_runV (As := [.int vk, .int 1]) (rest := []) ⟨hx, hb, hml, hown, hts⟩ (sx_refusedRoute l dC dI cs ad mu ok s.heap hP ((wR_D mu hD).weaken (fun _ _ _ _ => trivial)) vk 1) (cwV 2 hts (wU_V mw_4_1 mw_3_238 mw_4_0 mw_0_9 mw_1_1) rfl rfl rfl (by decide +kernel) ⟨Nat.le_of_ble_eq_true rfl, Nat.le_of_ble_eq_true rfl⟩) ⟨sz_c, va_recv hK hP (ci := 11) (q0 := 0) rfl (gX_0 cs ad mu), sz_m hK hz⟩ rfl rfl hl.1 rfl (lv_room (Nat.le_of_ble_eq_true rfl)) dX11_soonest_14 ⟨Nat.zero_le _, Nat.zero_le _⟩) hS (fun q _ h => hFc q h) hFc (fun r21 xi21 t H21 locs ht hvm hw21 hB hz1 hk1 hS => ?_)
    have hP : va_P (dC, dI) vwCl (wR 157 ad (EX cs ad) xi21) H21 := by rw [← ht]; exact hB
    obtain ⟨hfe21, hw21⟩ := hw21
    have hF := mi_letp hF hfe21
    rcases hw21 with ⟨rfl, hxi21, f21⟩ | ⟨z21, ok, hkp21_0⟩
    · have f21 : 0 ≤ vk.toInt ∧ vk.toInt < (mu 5 4).toInt ∧ (mu 5 4).toInt ≤ 4 ∧ (1 : Int) = 0 := f21
      exfalso
      have h9 : (1 : Int32).toInt = 1 := rfl
      omega
    · have hF := (if_neg (show ¬ r21 = 0 from fun h => by have h9 := congrArg Int32.toInt h; have h8 : (0 : Int32).toInt = 0 := rfl; omega)).symm.trans hF
      have kp22 : (∀ k f : Nat, Nat.testBit 510 (gpX k f) = true → xi21 k f = mu k f) := kp_t hkp21_0 (by decide) (fun _ _ _ => rfl)
      skip
      refine lv_istore_n (lv' := [(3, .int r21), (0, .ref (ad 0)), (1, .int vk), (2, .int vr)]) hx hb dX11_soonest_17 rfl hl (by decide) rfl (fun ls hl => ?_)
      refine lv_iload_n hx hb dX11_soonest_18 rfl (lv_at hl 0 rfl) ?_
      refine lv_if_eq (tgt := 24) hx hb dX11_soonest_19 (by decide) (fun c_23 => by have c_23 : r21.toInt = 0 := il_eq c_23; exfalso; omega) (fun c_23 => ?_)
      have c_23 : ¬ r21.toInt = 0 := il_ne c_23
      refine lv_iload_n hx hb dX11_soonest_22 rfl (lv_at hl 0 rfl) ?_
      exact W.iret (v := r21) hx hb hr (fun t ht hW => ⟨⟨r21, xi21, rfl, ⟨hF.trans hfz.symm, ok, trivial, kp22⟩, by first | (subst ht; exact hP) | (rw [ht]; exact hP) | (show va_P (dC, dI) vwCl (wR 157 ad (EX cs ad) xi21) t.heap; rw [ht]; exact hP)⟩, hS.F ht⟩) hS.2.2 dX11_soonest_23
set_option maxHeartbeats 4000000 in
set_option maxRecDepth 100000 in
/-- qx_comes -/
theorem qx_comes (l : Launch) (dC : Nat → ClassId) (dI : Nat → Nat → Nat) (cs : Nat → ClassId) (ad : Nat → Nat) (mu : Nat → Nat → Int32) (ok : okR loX hiX mu) (H : Heap) (hP : va_P (dC, dI) vwCl (wR 157 ad (EX cs ad) mu) H) (hD0 : va_D (fun _ => True) (wR 157 ad (EX cs ad) mu)) (vk : Int32) : Met l yX11_comes (wU yX11_comes cX11_comes 3 (some .int)) ({ frames := 11, cells := 0, slots := 0, locals := 318 }) (va_Pc [.ref (ad 0), .int vk] (sz_P (dC, dI) vwCl (tyW cs) H)) (va_Qi (fun (z : Int32) (xi : Nat → Nat → Int32) => (z, xi) = F_qx_comes mu vk ∧ okR loX hiX xi ∧ (True) ∧ (∀ k f : Nat, Nat.testBit 510 (gpX k f) = true → xi k f = mu k f)) (fun xi t => va_P (dC, dI) vwCl (wR 157 ad (EX cs ad) xi) t.heap) (va_A (wR 157 ad (EX cs ad) mu) H.size)) 0 0 (va_A (wR 157 ad (EX cs ad) mu) H.size) := by
  refine Met.ofW (cc := cX11_comes) (maxL := 3) (ret := (some .int)) (by decide) rfl ?_
  intro p e s m args below meth c s₁ B hml hv
  obtain ⟨rfl, hh, hK, hz⟩ := hv
  have hx := B.exec
  have hb := B.bytes
  have hr := B.returns
  have hts := atoms_spec (ws := (wU yX11_comes cX11_comes 3 (some .int))) B.pre
  have hown : s.vm.findClass RX11 = some m.cls := findClass_of_methodNamed B.named
  have hlocks := B.notSynchronized
  subst hh
  have hD := hD0.self (sz := s.heap.size)
  have hA : ∀ q : Nat, s.heap.size ≤ q → (va_A (wR 157 ad (EX cs ad) mu) s.heap.size) q := fun q h => Or.inr h
  have hS : va_S (va_A (wR 157 ad (EX cs ad) mu) s.heap.size) s.heap s.heap [] := va_S.rf
  have hl := lv_entry ([.ref (ad 0), .int vk]) (n := 3) (Nat.le_of_ble_eq_true rfl)
  rw [lg_entry_eq]
  generalize (lg_sl ([.ref (ad 0), .int vk]) ++ List.replicate (3 - (lg_sl ([.ref (ad 0), .int vk])).length) Slot.unset).toArray = ls at hl ⊢
  have hl : lv_has ls 3 [(0, .ref (ad 0)), (1, .int vk)] := hl
  obtain ⟨fz, hfz⟩ : ∃ z, F_qx_comes mu vk = z := ⟨_, rfl⟩
  have hF := hfz
  unfold F_qx_comes at hF
  refine lv_aload_n hx hb dX11_comes_0 rfl (lv_at hl 0 rfl) ?_
  refine lv_iload_n hx hb dX11_comes_1 rfl (lv_at hl 1 rfl) ?_
  refine lv_iconst (v := 0) hx hb dX11_comes_2 (by decide) ?_
  have hFc := fr_all (wR_D mu hD) hS hA
  refine va_calli (va_runV (As := [.int vk, .int 0]) (rest := []) ⟨hx, hb, hml, hown, hts⟩ (sx_refusedRoute l dC dI cs ad mu ok s.heap hP ((wR_D mu hD).weaken (fun _ _ _ _ => trivial)) vk 0) (cwV 2 hts (wU_V mw_4_1 mw_3_238 mw_4_0 mw_0_9 mw_1_1) rfl rfl rfl (by decide +kernel) ⟨Nat.le_of_ble_eq_true rfl, Nat.le_of_ble_eq_true rfl⟩) ⟨sz_c, va_recv hK hP (ci := 11) (q0 := 0) rfl (gX_0 cs ad mu), sz_m hK hz⟩ rfl rfl hl.1 rfl (lv_room (Nat.le_of_ble_eq_true rfl)) dX11_comes_3 ⟨Nat.zero_le _, Nat.zero_le _⟩) hS (fun q _ h => hFc q h) hFc (fun r1 xi1 t H1 locs ht hvm hw1 hB hz1 hk1 hS => ?_)
  have hP : va_P (dC, dI) vwCl (wR 157 ad (EX cs ad) xi1) H1 := by rw [← ht]; exact hB
  obtain ⟨hfe1, hw1⟩ := hw1
  have hF := mi_letp hF hfe1
  rcases hw1 with ⟨rfl, hxi1, f1⟩ | ⟨z1, ok, hkp1_0⟩
  · have hF := (if_pos rfl).symm.trans hF
    have hP : va_P (dC, dI) vwCl (wR 157 ad (EX cs ad) mu) H1 := by rw [← hxi1]; exact hP
    have f1 : 0 ≤ vk.toInt ∧ vk.toInt < (mu 5 4).toInt ∧ (mu 5 4).toInt ≤ 4 ∧ (0 : Int) = 0 := f1
    refine lv_istore_n (lv' := [(2, .int 0), (0, .ref (ad 0)), (1, .int vk)]) hx hb dX11_comes_6 rfl hl (by decide) rfl (fun ls hl => ?_)
    refine lv_iload_n hx hb dX11_comes_7 rfl (lv_at hl 0 rfl) ?_
    refine lv_if_eq (tgt := 13) hx hb dX11_comes_8 (by decide) (fun _ => ?_) (fun c => absurd (by decide) c)
    refine lv_aload_n hx hb dX11_comes_13 rfl (lv_at hl 1 rfl) ?_
    refine va_get (D := (dC, dI)) (ci := 11) (v := .ref (ad 32)) (C := RX11) (T := TX11) (N := 11) hx hb hts inG11 hown hK hP 0 (gX_0 cs ad mu) rfl 6 (by decide) (hts _ (List.mem_cons_of_mem _ mw_2_164)) (fun _ h9 => h9) rfl dX11_comes_14 ?_
    refine lv_aload_n hx hb dX11_comes_17 rfl (lv_at hl 1 rfl) ?_
    refine va_get (D := (dC, dI)) (ci := 11) (v := .ref (ad 4)) (C := RX11) (T := TX11) (N := 11) hx hb hts inG11 hown hK hP 0 (gX_0 cs ad mu) rfl 3 (by decide) (hts _ (List.mem_cons_of_mem _ mw_2_161)) (fun _ h9 => h9) rfl dX11_comes_18 ?_
    refine lv_aload_n hx hb dX11_comes_21 rfl (lv_at hl 1 rfl) ?_
    refine va_get (D := (dC, dI)) (ci := 11) (v := .ref (ad 4)) (C := RX11) (T := TX11) (N := 11) hx hb hts inG11 hown hK hP 0 (gX_0 cs ad mu) rfl 3 (by decide) (hts _ (List.mem_cons_of_mem _ mw_2_161)) (fun _ h9 => h9) rfl dX11_comes_22 ?_
    refine va_get (D := (dC, dI)) (ci := 10) (v := .ref (ad 5)) (C := RX10) (T := TX10) (N := 8) hx hb hts inG10 hown hK hP 4 (gX_4 cs ad mu) rfl 3 (by decide) (hts _ (List.mem_cons_of_mem _ mw_1_157)) (fun _ h9 => h9) rfl dX11_comes_25 ?_
    refine va_get (D := (dC, dI)) (ci := 8) (v := .ref (ad 47)) (C := RX8) (T := TX8) (N := 6) hx hb hts inG8 hown hK hP 5 (gX_5 cs ad mu) rfl 1 (by decide) (hts _ (List.mem_cons_of_mem _ mw_1_112)) (fun _ h9 => h9) rfl dX11_comes_28 ?_
    refine lv_iload_n hx hb dX11_comes_31 rfl (lv_at hl 2 rfl) ?_
    have hx3 : 0 ≤ vk.toInt ∧ vk.toInt < ((4 : Nat) : Int) := ⟨by omega, by omega⟩
    refine va_aldq hx hb hK hP 47 5 (gX_47 cs ad mu) rfl (show vp_in vk 4 from vi_of hx3.1 hx3.2) dX11_comes_32 ?_
    have hk3 : 61 ≤ (61 + vk.toNatClampNeg) ∧ (61 + vk.toNatClampNeg) < 65 := ix_of hx3
    have hk3 : 61 ≤ (61 + vk.toNatClampNeg) ∧ (61 + vk.toNatClampNeg) < 77 := ⟨Nat.le_trans (by decide) hk3.1, Nat.lt_of_lt_of_le hk3.2 (by decide)⟩
    refine lq_v (.ref (ad (61 + vk.toNatClampNeg))) rfl ?_
    have hFc := fr_all (wR_D mu hD) hS hA
    refine va_callv (va_runV (As := [.ref (ad 4), .ref (ad (61 + vk.toNatClampNeg))]) (rest := []) ⟨hx, hb, hml, hown, hts⟩ (sx_walkOf l dC dI cs ad mu ok H1 hP ((wR_D mu hD).weaken (fun _ _ _ _ => trivial)) (61 + vk.toNatClampNeg) hk3.1 hk3.2) (cwV 2 hts (wU_V mw_4_5 mw_4_2 mw_4_3 mw_4_4 mw_1_8) rfl rfl rfl (by decide +kernel) ⟨Nat.le_of_ble_eq_true rfl, Nat.le_of_ble_eq_true rfl⟩) ⟨sz_c, va_recv hK hP (ci := 5) (q0 := 32) rfl (gX_32 cs ad mu), sz_m hK hz⟩ rfl rfl hl.1 rfl (lv_room (Nat.le_of_ble_eq_true rfl)) dX11_comes_33 ⟨Nat.zero_le _, Nat.zero_le _⟩) hS (fun q _ h => hFc q h) hFc (fun xi4 t H4 locs ht hvm hw4 hB hz1 hk1 hS => ?_)
    have hP : va_P (dC, dI) vwCl (wR 157 ad (EX cs ad) xi4) H4 := by rw [← ht]; exact hB
    obtain ⟨hfe4, ok, hw4, hkp4_0⟩ := hw4
    have hF := mi_let hF hfe4
    have kp5 : (∀ k f : Nat, Nat.testBit 510 (gpX k f) = true → xi4 k f = mu k f) := kp_t hkp4_0 (by decide) (fun _ _ _ => rfl)
    refine lv_aload_n hx hb dX11_comes_36 rfl (lv_at hl 1 rfl) ?_
    refine lv_aload_n hx hb dX11_comes_37 rfl (lv_at hl 1 rfl) ?_
    refine va_get (D := (dC, dI)) (ci := 11) (v := .ref (ad 32)) (C := RX11) (T := TX11) (N := 11) hx hb hts inG11 hown hK hP 0 (gX_0 cs ad xi4) rfl 6 (by decide) (hts _ (List.mem_cons_of_mem _ mw_2_164)) (fun _ h9 => h9) rfl dX11_comes_38 ?_
    refine va_get (D := (dC, dI)) (ci := 5) (v := .int (xi4 32 11)) (C := RX5) (T := TX5) (N := 15) hx hb hts inG5 hown hK hP 32 (gX_32 cs ad xi4) rfl 11 (by decide) (hts _ (List.mem_cons_of_mem _ mw_2_60)) (fun _ h9 => h9) rfl dX11_comes_41 ?_
    refine lv_topi (fun y6 ey6 => ?_)
    have hF := mi_let hF ey6
    have by6 : y6.toInt = (xi4 32 11).toInt := congrArg Int32.toInt ey6
    refine va_put (D := (dC, dI)) (ci := 11) (v := .int y6) (ty := .int) (C := RX11) (T := TX11) (N := 11) hx hb hts inG11 tyX11 tyX11_ok nmX11 hown hK hP (wR_D xi4 hD) hS 0 (gX_0 cs ad xi4) rfl 10 (by decide) (hts _ (List.mem_cons_of_mem _ mw_2_168)) (fun _ h9 => h9) rfl (by decide +kernel) rfl rfl (Nat.le_of_ble_eq_true rfl) dX11_comes_44 (fun H locs hP _ hS => ?_)
    simp only [List.set_cons_succ, List.set_cons_zero] at hP
    refine wr_gen (upd (xi4 0) 10 y6) hP ((hX_0_10 cs ad _ _)) (fun nu7 hn7 hP => ?_)
    have hF := mi_let hF hn7.symm
    have ok := tX_0_10 ok hn7
    have ez8 : y6 = nu7 32 11 := ey6.trans (congrFun (up_k hn7 (by decide)) 11).symm
    have kp9 : (∀ k f : Nat, Nat.testBit 510 (gpX k f) = true → nu7 k f = mu k f) := kp_c 0 hn7 (fun _ => rfl) (by decide) kp5
    have ez10 : y6 = nu7 0 10 := up_v hn7
    refine lv_aload_n hx hb dX11_comes_47 rfl (lv_at hl 1 rfl) ?_
    refine va_get (D := (dC, dI)) (ci := 11) (v := .ref (ad 32)) (C := RX11) (T := TX11) (N := 11) hx hb hts inG11 hown hK hP 0 (gX_0 cs ad nu7) rfl 6 (by decide) (hts _ (List.mem_cons_of_mem _ mw_2_164)) (fun _ h9 => h9) rfl dX11_comes_48 ?_
    refine va_get (D := (dC, dI)) (ci := 5) (v := .int (nu7 32 12)) (C := RX5) (T := TX5) (N := 15) hx hb hts inG5 hown hK hP 32 (gX_32 cs ad nu7) rfl 12 (by decide) (hts _ (List.mem_cons_of_mem _ mw_2_62)) (fun _ h9 => h9) rfl dX11_comes_51 ?_
    refine lv_topi (fun y11 ey11 => ?_)
    have hF := mi_let hF ey11
    have by11 : y11.toInt = (nu7 32 12).toInt := congrArg Int32.toInt ey11
    exact W.iret (v := y11) hx hb hr (fun t ht hW => ⟨⟨y11, nu7, rfl, ⟨hF.trans hfz.symm, ok, trivial, kp9⟩, by first | (subst ht; exact hP) | (rw [ht]; exact hP) | (show va_P (dC, dI) vwCl (wR 157 ad (EX cs ad) nu7) t.heap; rw [ht]; exact hP)⟩, hS.F ht⟩) hS.2.2 dX11_comes_54
  · have hF := (if_neg (show ¬ r1 = 0 from fun h => by have h9 := congrArg Int32.toInt h; have h8 : (0 : Int32).toInt = 0 := rfl; omega)).symm.trans hF
    have kp2 : (∀ k f : Nat, Nat.testBit 510 (gpX k f) = true → xi1 k f = mu k f) := kp_t hkp1_0 (by decide) (fun _ _ _ => rfl)
    skip
    refine lv_istore_n (lv' := [(2, .int r1), (0, .ref (ad 0)), (1, .int vk)]) hx hb dX11_comes_6 rfl hl (by decide) rfl (fun ls hl => ?_)
    refine lv_iload_n hx hb dX11_comes_7 rfl (lv_at hl 0 rfl) ?_
    refine lv_if_eq (tgt := 13) hx hb dX11_comes_8 (by decide) (fun c_12 => by have c_12 : r1.toInt = 0 := il_eq c_12; exfalso; omega) (fun c_12 => ?_)
    have c_12 : ¬ r1.toInt = 0 := il_ne c_12
    refine lv_iload_n hx hb dX11_comes_11 rfl (lv_at hl 0 rfl) ?_
    exact W.iret (v := r1) hx hb hr (fun t ht hW => ⟨⟨r1, xi1, rfl, ⟨hF.trans hfz.symm, ok, trivial, kp2⟩, by first | (subst ht; exact hP) | (rw [ht]; exact hP) | (show va_P (dC, dI) vwCl (wR 157 ad (EX cs ad) xi1) t.heap; rw [ht]; exact hP)⟩, hS.F ht⟩) hS.2.2 dX11_comes_12
set_option maxHeartbeats 4000000 in
set_option maxRecDepth 100000 in
/-- qx_bars -/
theorem qx_bars (l : Launch) (dC : Nat → ClassId) (dI : Nat → Nat → Nat) (cs : Nat → ClassId) (ad : Nat → Nat) (mu : Nat → Nat → Int32) (ok : okR loX hiX mu) (H : Heap) (hP : va_P (dC, dI) vwCl (wR 157 ad (EX cs ad) mu) H) (hD0 : va_D (fun _ => True) (wR 157 ad (EX cs ad) mu)) (vk : Int32) : Met l yX11_bars (wU yX11_bars cX11_bars 3 (some .int)) ({ frames := 11, cells := 0, slots := 0, locals := 318 }) (va_Pc [.ref (ad 0), .int vk] (sz_P (dC, dI) vwCl (tyW cs) H)) (va_Qi (fun (z : Int32) (xi : Nat → Nat → Int32) => (z, xi) = F_qx_bars mu vk ∧ okR loX hiX xi ∧ (True) ∧ (∀ k f : Nat, Nat.testBit 510 (gpX k f) = true → xi k f = mu k f)) (fun xi t => va_P (dC, dI) vwCl (wR 157 ad (EX cs ad) xi) t.heap) (va_A (wR 157 ad (EX cs ad) mu) H.size)) 0 0 (va_A (wR 157 ad (EX cs ad) mu) H.size) := by
  refine Met.ofW (cc := cX11_bars) (maxL := 3) (ret := (some .int)) (by decide) rfl ?_
  intro p e s m args below meth c s₁ B hml hv
  obtain ⟨rfl, hh, hK, hz⟩ := hv
  have hx := B.exec
  have hb := B.bytes
  have hr := B.returns
  have hts := atoms_spec (ws := (wU yX11_bars cX11_bars 3 (some .int))) B.pre
  have hown : s.vm.findClass RX11 = some m.cls := findClass_of_methodNamed B.named
  have hlocks := B.notSynchronized
  subst hh
  have hD := hD0.self (sz := s.heap.size)
  have hA : ∀ q : Nat, s.heap.size ≤ q → (va_A (wR 157 ad (EX cs ad) mu) s.heap.size) q := fun q h => Or.inr h
  have hS : va_S (va_A (wR 157 ad (EX cs ad) mu) s.heap.size) s.heap s.heap [] := va_S.rf
  have hl := lv_entry ([.ref (ad 0), .int vk]) (n := 3) (Nat.le_of_ble_eq_true rfl)
  rw [lg_entry_eq]
  generalize (lg_sl ([.ref (ad 0), .int vk]) ++ List.replicate (3 - (lg_sl ([.ref (ad 0), .int vk])).length) Slot.unset).toArray = ls at hl ⊢
  have hl : lv_has ls 3 [(0, .ref (ad 0)), (1, .int vk)] := hl
  obtain ⟨fz, hfz⟩ : ∃ z, F_qx_bars mu vk = z := ⟨_, rfl⟩
  have hF := hfz
  unfold F_qx_bars at hF
  refine lv_aload_n hx hb dX11_bars_0 rfl (lv_at hl 0 rfl) ?_
  refine lv_iload_n hx hb dX11_bars_1 rfl (lv_at hl 1 rfl) ?_
  refine lv_iconst (v := 0) hx hb dX11_bars_2 (by decide) ?_
  have hFc := fr_all (wR_D mu hD) hS hA
  refine va_calli (va_runV (As := [.int vk, .int 0]) (rest := []) ⟨hx, hb, hml, hown, hts⟩ (sx_refusedRoute l dC dI cs ad mu ok s.heap hP ((wR_D mu hD).weaken (fun _ _ _ _ => trivial)) vk 0) (cwV 2 hts (wU_V mw_4_1 mw_3_238 mw_4_0 mw_0_9 mw_1_1) rfl rfl rfl (by decide +kernel) ⟨Nat.le_of_ble_eq_true rfl, Nat.le_of_ble_eq_true rfl⟩) ⟨sz_c, va_recv hK hP (ci := 11) (q0 := 0) rfl (gX_0 cs ad mu), sz_m hK hz⟩ rfl rfl hl.1 rfl (lv_room (Nat.le_of_ble_eq_true rfl)) dX11_bars_3 ⟨Nat.zero_le _, Nat.zero_le _⟩) hS (fun q _ h => hFc q h) hFc (fun r1 xi1 t H1 locs ht hvm hw1 hB hz1 hk1 hS => ?_)
  have hP : va_P (dC, dI) vwCl (wR 157 ad (EX cs ad) xi1) H1 := by rw [← ht]; exact hB
  obtain ⟨hfe1, hw1⟩ := hw1
  have hF := mi_letp hF hfe1
  rcases hw1 with ⟨rfl, hxi1, f1⟩ | ⟨z1, ok, hkp1_0⟩
  · have hF := (if_pos rfl).symm.trans hF
    have hP : va_P (dC, dI) vwCl (wR 157 ad (EX cs ad) mu) H1 := by rw [← hxi1]; exact hP
    have f1 : 0 ≤ vk.toInt ∧ vk.toInt < (mu 5 4).toInt ∧ (mu 5 4).toInt ≤ 4 ∧ (0 : Int) = 0 := f1
    refine lv_istore_n (lv' := [(2, .int 0), (0, .ref (ad 0)), (1, .int vk)]) hx hb dX11_bars_6 rfl hl (by decide) rfl (fun ls hl => ?_)
    refine lv_iload_n hx hb dX11_bars_7 rfl (lv_at hl 0 rfl) ?_
    refine lv_if_eq (tgt := 13) hx hb dX11_bars_8 (by decide) (fun _ => ?_) (fun c => absurd (by decide) c)
    refine lv_aload_n hx hb dX11_bars_13 rfl (lv_at hl 1 rfl) ?_
    refine va_get (D := (dC, dI)) (ci := 11) (v := .ref (ad 32)) (C := RX11) (T := TX11) (N := 11) hx hb hts inG11 hown hK hP 0 (gX_0 cs ad mu) rfl 6 (by decide) (hts _ (List.mem_cons_of_mem _ mw_2_164)) (fun _ h9 => h9) rfl dX11_bars_14 ?_
    refine lv_aload_n hx hb dX11_bars_17 rfl (lv_at hl 1 rfl) ?_
    refine va_get (D := (dC, dI)) (ci := 11) (v := .ref (ad 4)) (C := RX11) (T := TX11) (N := 11) hx hb hts inG11 hown hK hP 0 (gX_0 cs ad mu) rfl 3 (by decide) (hts _ (List.mem_cons_of_mem _ mw_2_161)) (fun _ h9 => h9) rfl dX11_bars_18 ?_
    refine lv_aload_n hx hb dX11_bars_21 rfl (lv_at hl 1 rfl) ?_
    refine va_get (D := (dC, dI)) (ci := 11) (v := .ref (ad 4)) (C := RX11) (T := TX11) (N := 11) hx hb hts inG11 hown hK hP 0 (gX_0 cs ad mu) rfl 3 (by decide) (hts _ (List.mem_cons_of_mem _ mw_2_161)) (fun _ h9 => h9) rfl dX11_bars_22 ?_
    refine va_get (D := (dC, dI)) (ci := 10) (v := .ref (ad 5)) (C := RX10) (T := TX10) (N := 8) hx hb hts inG10 hown hK hP 4 (gX_4 cs ad mu) rfl 3 (by decide) (hts _ (List.mem_cons_of_mem _ mw_1_157)) (fun _ h9 => h9) rfl dX11_bars_25 ?_
    refine va_get (D := (dC, dI)) (ci := 8) (v := .ref (ad 47)) (C := RX8) (T := TX8) (N := 6) hx hb hts inG8 hown hK hP 5 (gX_5 cs ad mu) rfl 1 (by decide) (hts _ (List.mem_cons_of_mem _ mw_1_112)) (fun _ h9 => h9) rfl dX11_bars_28 ?_
    refine lv_iload_n hx hb dX11_bars_31 rfl (lv_at hl 2 rfl) ?_
    have hx3 : 0 ≤ vk.toInt ∧ vk.toInt < ((4 : Nat) : Int) := ⟨by omega, by omega⟩
    refine va_aldq hx hb hK hP 47 5 (gX_47 cs ad mu) rfl (show vp_in vk 4 from vi_of hx3.1 hx3.2) dX11_bars_32 ?_
    have hk3 : 61 ≤ (61 + vk.toNatClampNeg) ∧ (61 + vk.toNatClampNeg) < 65 := ix_of hx3
    have hk3 : 61 ≤ (61 + vk.toNatClampNeg) ∧ (61 + vk.toNatClampNeg) < 77 := ⟨Nat.le_trans (by decide) hk3.1, Nat.lt_of_lt_of_le hk3.2 (by decide)⟩
    refine lq_v (.ref (ad (61 + vk.toNatClampNeg))) rfl ?_
    have hFc := fr_all (wR_D mu hD) hS hA
    refine va_callv (va_runV (As := [.ref (ad 4), .ref (ad (61 + vk.toNatClampNeg))]) (rest := []) ⟨hx, hb, hml, hown, hts⟩ (sx_walkOf l dC dI cs ad mu ok H1 hP ((wR_D mu hD).weaken (fun _ _ _ _ => trivial)) (61 + vk.toNatClampNeg) hk3.1 hk3.2) (cwV 2 hts (wU_V mw_4_5 mw_4_2 mw_4_3 mw_4_4 mw_1_8) rfl rfl rfl (by decide +kernel) ⟨Nat.le_of_ble_eq_true rfl, Nat.le_of_ble_eq_true rfl⟩) ⟨sz_c, va_recv hK hP (ci := 5) (q0 := 32) rfl (gX_32 cs ad mu), sz_m hK hz⟩ rfl rfl hl.1 rfl (lv_room (Nat.le_of_ble_eq_true rfl)) dX11_bars_33 ⟨Nat.zero_le _, Nat.zero_le _⟩) hS (fun q _ h => hFc q h) hFc (fun xi4 t H4 locs ht hvm hw4 hB hz1 hk1 hS => ?_)
    have hP : va_P (dC, dI) vwCl (wR 157 ad (EX cs ad) xi4) H4 := by rw [← ht]; exact hB
    obtain ⟨hfe4, ok, hw4, hkp4_0⟩ := hw4
    have hF := mi_let hF hfe4
    have kp5 : (∀ k f : Nat, Nat.testBit 510 (gpX k f) = true → xi4 k f = mu k f) := kp_t hkp4_0 (by decide) (fun _ _ _ => rfl)
    refine lv_aload_n hx hb dX11_bars_36 rfl (lv_at hl 1 rfl) ?_
    refine va_get (D := (dC, dI)) (ci := 11) (v := .ref (ad 32)) (C := RX11) (T := TX11) (N := 11) hx hb hts inG11 hown hK hP 0 (gX_0 cs ad xi4) rfl 6 (by decide) (hts _ (List.mem_cons_of_mem _ mw_2_164)) (fun _ h9 => h9) rfl dX11_bars_37 ?_
    refine va_get (D := (dC, dI)) (ci := 5) (v := .int (xi4 32 12)) (C := RX5) (T := TX5) (N := 15) hx hb hts inG5 hown hK hP 32 (gX_32 cs ad xi4) rfl 12 (by decide) (hts _ (List.mem_cons_of_mem _ mw_2_62)) (fun _ h9 => h9) rfl dX11_bars_40 ?_
    refine lv_topi (fun y6 ey6 => ?_)
    have hF := mi_let hF ey6
    have by6 : y6.toInt = (xi4 32 12).toInt := congrArg Int32.toInt ey6
    refine lv_if_ne (tgt := 50) hx hb dX11_bars_43 (by decide) (fun c_7 => ?_) (fun c_7 => ?_)
    · have hF := (if_neg c_7).symm.trans hF
      have c_7 : ¬ y6.toInt = 0 := il_ne c_7
      refine lv_aload_n hx hb dX11_bars_50 rfl (lv_at hl 1 rfl) ?_
      refine va_get (D := (dC, dI)) (ci := 11) (v := .ref (ad 32)) (C := RX11) (T := TX11) (N := 11) hx hb hts inG11 hown hK hP 0 (gX_0 cs ad xi4) rfl 6 (by decide) (hts _ (List.mem_cons_of_mem _ mw_2_164)) (fun _ h9 => h9) rfl dX11_bars_51 ?_
      refine va_get (D := (dC, dI)) (ci := 5) (v := .int (xi4 32 13)) (C := RX5) (T := TX5) (N := 15) hx hb hts inG5 hown hK hP 32 (gX_32 cs ad xi4) rfl 13 (by decide) (hts _ (List.mem_cons_of_mem _ mw_2_64)) (fun _ h9 => h9) rfl dX11_bars_54 ?_
      refine lv_topi (fun y8 ey8 => ?_)
      have hF := mi_let hF ey8
      have by8 : y8.toInt = (xi4 32 13).toInt := congrArg Int32.toInt ey8
      exact W.iret (v := y8) hx hb hr (fun t ht hW => ⟨⟨y8, xi4, rfl, ⟨hF.trans hfz.symm, ok, trivial, kp5⟩, by first | (subst ht; exact hP) | (rw [ht]; exact hP) | (show va_P (dC, dI) vwCl (wR 157 ad (EX cs ad) xi4) t.heap; rw [ht]; exact hP)⟩, hS.F ht⟩) hS.2.2 dX11_bars_57
    · have hF := (if_pos c_7).symm.trans hF
      have c_7 : y6.toInt = 0 := il_eq c_7
      refine lv_iconst (v := 0) hx hb dX11_bars_46 (by decide) ?_
      refine lv_goto (tgt := 57) hx hb dX11_bars_47 (by decide) ?_
      exact W.iret (v := 0) hx hb hr (fun t ht hW => ⟨⟨0, xi4, rfl, ⟨hF.trans hfz.symm, ok, trivial, kp5⟩, by first | (subst ht; exact hP) | (rw [ht]; exact hP) | (show va_P (dC, dI) vwCl (wR 157 ad (EX cs ad) xi4) t.heap; rw [ht]; exact hP)⟩, hS.F ht⟩) hS.2.2 dX11_bars_57
  · have hF := (if_neg (show ¬ r1 = 0 from fun h => by have h9 := congrArg Int32.toInt h; have h8 : (0 : Int32).toInt = 0 := rfl; omega)).symm.trans hF
    have kp2 : (∀ k f : Nat, Nat.testBit 510 (gpX k f) = true → xi1 k f = mu k f) := kp_t hkp1_0 (by decide) (fun _ _ _ => rfl)
    skip
    refine lv_istore_n (lv' := [(2, .int r1), (0, .ref (ad 0)), (1, .int vk)]) hx hb dX11_bars_6 rfl hl (by decide) rfl (fun ls hl => ?_)
    refine lv_iload_n hx hb dX11_bars_7 rfl (lv_at hl 0 rfl) ?_
    refine lv_if_eq (tgt := 13) hx hb dX11_bars_8 (by decide) (fun c_9 => by have c_9 : r1.toInt = 0 := il_eq c_9; exfalso; omega) (fun c_9 => ?_)
    have c_9 : ¬ r1.toInt = 0 := il_ne c_9
    refine lv_iload_n hx hb dX11_bars_11 rfl (lv_at hl 0 rfl) ?_
    exact W.iret (v := r1) hx hb hr (fun t ht hW => ⟨⟨r1, xi1, rfl, ⟨hF.trans hfz.symm, ok, trivial, kp2⟩, by first | (subst ht; exact hP) | (rw [ht]; exact hP) | (show va_P (dC, dI) vwCl (wR 157 ad (EX cs ad) xi1) t.heap; rw [ht]; exact hP)⟩, hS.F ht⟩) hS.2.2 dX11_bars_12
set_option maxHeartbeats 4000000 in
set_option maxRecDepth 100000 in
/-- qx_why -/
theorem qx_why (l : Launch) (dC : Nat → ClassId) (dI : Nat → Nat → Nat) (cs : Nat → ClassId) (ad : Nat → Nat) (mu : Nat → Nat → Int32) (ok : okR loX hiX mu) (H : Heap) (hP : va_P (dC, dI) vwCl (wR 157 ad (EX cs ad) mu) H) (hD0 : va_D (fun _ => True) (wR 157 ad (EX cs ad) mu)) (vk : Int32) : Met l yX11_why (wU yX11_why cX11_why 3 (some .int)) ({ frames := 11, cells := 0, slots := 0, locals := 318 }) (va_Pc [.ref (ad 0), .int vk] (sz_P (dC, dI) vwCl (tyW cs) H)) (va_Qi (fun (z : Int32) (xi : Nat → Nat → Int32) => (z, xi) = F_qx_why mu vk ∧ okR loX hiX xi ∧ (True) ∧ (∀ k f : Nat, Nat.testBit 510 (gpX k f) = true → xi k f = mu k f)) (fun xi t => va_P (dC, dI) vwCl (wR 157 ad (EX cs ad) xi) t.heap) (va_A (wR 157 ad (EX cs ad) mu) H.size)) 0 0 (va_A (wR 157 ad (EX cs ad) mu) H.size) := by
  refine Met.ofW (cc := cX11_why) (maxL := 3) (ret := (some .int)) (by decide) rfl ?_
  intro p e s m args below meth c s₁ B hml hv
  obtain ⟨rfl, hh, hK, hz⟩ := hv
  have hx := B.exec
  have hb := B.bytes
  have hr := B.returns
  have hts := atoms_spec (ws := (wU yX11_why cX11_why 3 (some .int))) B.pre
  have hown : s.vm.findClass RX11 = some m.cls := findClass_of_methodNamed B.named
  have hlocks := B.notSynchronized
  subst hh
  have hD := hD0.self (sz := s.heap.size)
  have hA : ∀ q : Nat, s.heap.size ≤ q → (va_A (wR 157 ad (EX cs ad) mu) s.heap.size) q := fun q h => Or.inr h
  have hS : va_S (va_A (wR 157 ad (EX cs ad) mu) s.heap.size) s.heap s.heap [] := va_S.rf
  have hl := lv_entry ([.ref (ad 0), .int vk]) (n := 3) (Nat.le_of_ble_eq_true rfl)
  rw [lg_entry_eq]
  generalize (lg_sl ([.ref (ad 0), .int vk]) ++ List.replicate (3 - (lg_sl ([.ref (ad 0), .int vk])).length) Slot.unset).toArray = ls at hl ⊢
  have hl : lv_has ls 3 [(0, .ref (ad 0)), (1, .int vk)] := hl
  obtain ⟨fz, hfz⟩ : ∃ z, F_qx_why mu vk = z := ⟨_, rfl⟩
  have hF := hfz
  unfold F_qx_why at hF
  refine lv_aload_n hx hb dX11_why_0 rfl (lv_at hl 0 rfl) ?_
  refine lv_iload_n hx hb dX11_why_1 rfl (lv_at hl 1 rfl) ?_
  refine lv_iconst (v := 0) hx hb dX11_why_2 (by decide) ?_
  have hFc := fr_all (wR_D mu hD) hS hA
  refine va_calli (va_runV (As := [.int vk, .int 0]) (rest := []) ⟨hx, hb, hml, hown, hts⟩ (sx_refusedRoute l dC dI cs ad mu ok s.heap hP ((wR_D mu hD).weaken (fun _ _ _ _ => trivial)) vk 0) (cwV 2 hts (wU_V mw_4_1 mw_3_238 mw_4_0 mw_0_9 mw_1_1) rfl rfl rfl (by decide +kernel) ⟨Nat.le_of_ble_eq_true rfl, Nat.le_of_ble_eq_true rfl⟩) ⟨sz_c, va_recv hK hP (ci := 11) (q0 := 0) rfl (gX_0 cs ad mu), sz_m hK hz⟩ rfl rfl hl.1 rfl (lv_room (Nat.le_of_ble_eq_true rfl)) dX11_why_3 ⟨Nat.zero_le _, Nat.zero_le _⟩) hS (fun q _ h => hFc q h) hFc (fun r1 xi1 t H1 locs ht hvm hw1 hB hz1 hk1 hS => ?_)
  have hP : va_P (dC, dI) vwCl (wR 157 ad (EX cs ad) xi1) H1 := by rw [← ht]; exact hB
  obtain ⟨hfe1, hw1⟩ := hw1
  have hF := mi_letp hF hfe1
  rcases hw1 with ⟨rfl, hxi1, f1⟩ | ⟨z1, ok, hkp1_0⟩
  · have hF := (if_pos rfl).symm.trans hF
    have hP : va_P (dC, dI) vwCl (wR 157 ad (EX cs ad) mu) H1 := by rw [← hxi1]; exact hP
    have f1 : 0 ≤ vk.toInt ∧ vk.toInt < (mu 5 4).toInt ∧ (mu 5 4).toInt ≤ 4 ∧ (0 : Int) = 0 := f1
    refine lv_istore_n (lv' := [(2, .int 0), (0, .ref (ad 0)), (1, .int vk)]) hx hb dX11_why_6 rfl hl (by decide) rfl (fun ls hl => ?_)
    refine lv_iload_n hx hb dX11_why_7 rfl (lv_at hl 0 rfl) ?_
    refine lv_if_eq (tgt := 13) hx hb dX11_why_8 (by decide) (fun _ => ?_) (fun c => absurd (by decide) c)
    refine lv_aload_n hx hb dX11_why_13 rfl (lv_at hl 1 rfl) ?_
    refine va_get (D := (dC, dI)) (ci := 11) (v := .ref (ad 32)) (C := RX11) (T := TX11) (N := 11) hx hb hts inG11 hown hK hP 0 (gX_0 cs ad mu) rfl 6 (by decide) (hts _ (List.mem_cons_of_mem _ mw_2_164)) (fun _ h9 => h9) rfl dX11_why_14 ?_
    refine lv_aload_n hx hb dX11_why_17 rfl (lv_at hl 1 rfl) ?_
    refine va_get (D := (dC, dI)) (ci := 11) (v := .ref (ad 4)) (C := RX11) (T := TX11) (N := 11) hx hb hts inG11 hown hK hP 0 (gX_0 cs ad mu) rfl 3 (by decide) (hts _ (List.mem_cons_of_mem _ mw_2_161)) (fun _ h9 => h9) rfl dX11_why_18 ?_
    refine lv_aload_n hx hb dX11_why_21 rfl (lv_at hl 1 rfl) ?_
    refine va_get (D := (dC, dI)) (ci := 11) (v := .ref (ad 4)) (C := RX11) (T := TX11) (N := 11) hx hb hts inG11 hown hK hP 0 (gX_0 cs ad mu) rfl 3 (by decide) (hts _ (List.mem_cons_of_mem _ mw_2_161)) (fun _ h9 => h9) rfl dX11_why_22 ?_
    refine va_get (D := (dC, dI)) (ci := 10) (v := .ref (ad 5)) (C := RX10) (T := TX10) (N := 8) hx hb hts inG10 hown hK hP 4 (gX_4 cs ad mu) rfl 3 (by decide) (hts _ (List.mem_cons_of_mem _ mw_1_157)) (fun _ h9 => h9) rfl dX11_why_25 ?_
    refine va_get (D := (dC, dI)) (ci := 8) (v := .ref (ad 47)) (C := RX8) (T := TX8) (N := 6) hx hb hts inG8 hown hK hP 5 (gX_5 cs ad mu) rfl 1 (by decide) (hts _ (List.mem_cons_of_mem _ mw_1_112)) (fun _ h9 => h9) rfl dX11_why_28 ?_
    refine lv_iload_n hx hb dX11_why_31 rfl (lv_at hl 2 rfl) ?_
    have hx3 : 0 ≤ vk.toInt ∧ vk.toInt < ((4 : Nat) : Int) := ⟨by omega, by omega⟩
    refine va_aldq hx hb hK hP 47 5 (gX_47 cs ad mu) rfl (show vp_in vk 4 from vi_of hx3.1 hx3.2) dX11_why_32 ?_
    have hk3 : 61 ≤ (61 + vk.toNatClampNeg) ∧ (61 + vk.toNatClampNeg) < 65 := ix_of hx3
    have hk3 : 61 ≤ (61 + vk.toNatClampNeg) ∧ (61 + vk.toNatClampNeg) < 77 := ⟨Nat.le_trans (by decide) hk3.1, Nat.lt_of_lt_of_le hk3.2 (by decide)⟩
    refine lq_v (.ref (ad (61 + vk.toNatClampNeg))) rfl ?_
    have hFc := fr_all (wR_D mu hD) hS hA
    refine va_callv (va_runV (As := [.ref (ad 4), .ref (ad (61 + vk.toNatClampNeg))]) (rest := []) ⟨hx, hb, hml, hown, hts⟩ (sx_walkOf l dC dI cs ad mu ok H1 hP ((wR_D mu hD).weaken (fun _ _ _ _ => trivial)) (61 + vk.toNatClampNeg) hk3.1 hk3.2) (cwV 2 hts (wU_V mw_4_5 mw_4_2 mw_4_3 mw_4_4 mw_1_8) rfl rfl rfl (by decide +kernel) ⟨Nat.le_of_ble_eq_true rfl, Nat.le_of_ble_eq_true rfl⟩) ⟨sz_c, va_recv hK hP (ci := 5) (q0 := 32) rfl (gX_32 cs ad mu), sz_m hK hz⟩ rfl rfl hl.1 rfl (lv_room (Nat.le_of_ble_eq_true rfl)) dX11_why_33 ⟨Nat.zero_le _, Nat.zero_le _⟩) hS (fun q _ h => hFc q h) hFc (fun xi4 t H4 locs ht hvm hw4 hB hz1 hk1 hS => ?_)
    have hP : va_P (dC, dI) vwCl (wR 157 ad (EX cs ad) xi4) H4 := by rw [← ht]; exact hB
    obtain ⟨hfe4, ok, hw4, hkp4_0⟩ := hw4
    have hF := mi_let hF hfe4
    have kp5 : (∀ k f : Nat, Nat.testBit 510 (gpX k f) = true → xi4 k f = mu k f) := kp_t hkp4_0 (by decide) (fun _ _ _ => rfl)
    refine lv_aload_n hx hb dX11_why_36 rfl (lv_at hl 1 rfl) ?_
    refine va_get (D := (dC, dI)) (ci := 11) (v := .ref (ad 32)) (C := RX11) (T := TX11) (N := 11) hx hb hts inG11 hown hK hP 0 (gX_0 cs ad xi4) rfl 6 (by decide) (hts _ (List.mem_cons_of_mem _ mw_2_164)) (fun _ h9 => h9) rfl dX11_why_37 ?_
    refine va_get (D := (dC, dI)) (ci := 5) (v := .int (xi4 32 12)) (C := RX5) (T := TX5) (N := 15) hx hb hts inG5 hown hK hP 32 (gX_32 cs ad xi4) rfl 12 (by decide) (hts _ (List.mem_cons_of_mem _ mw_2_62)) (fun _ h9 => h9) rfl dX11_why_40 ?_
    refine lv_topi (fun y6 ey6 => ?_)
    have hF := mi_let hF ey6
    have by6 : y6.toInt = (xi4 32 12).toInt := congrArg Int32.toInt ey6
    refine lv_if_le (tgt := 48) hx hb dX11_why_43 (by decide) (fun c_7 => ?_) (fun c_7 => ?_)
    · have hF := (if_pos c_7).symm.trans hF
      have c_7 : y6.toInt ≤ 0 := il_le c_7
      refine lv_aload_n hx hb dX11_why_48 rfl (lv_at hl 1 rfl) ?_
      refine va_get (D := (dC, dI)) (ci := 11) (v := .ref (ad 32)) (C := RX11) (T := TX11) (N := 11) hx hb hts inG11 hown hK hP 0 (gX_0 cs ad xi4) rfl 6 (by decide) (hts _ (List.mem_cons_of_mem _ mw_2_164)) (fun _ h9 => h9) rfl dX11_why_49 ?_
      refine va_get (D := (dC, dI)) (ci := 5) (v := .int (xi4 32 11)) (C := RX5) (T := TX5) (N := 15) hx hb hts inG5 hown hK hP 32 (gX_32 cs ad xi4) rfl 11 (by decide) (hts _ (List.mem_cons_of_mem _ mw_2_60)) (fun _ h9 => h9) rfl dX11_why_52 ?_
      refine lv_topi (fun y8 ey8 => ?_)
      have hF := mi_let hF ey8
      have by8 : y8.toInt = (xi4 32 11).toInt := congrArg Int32.toInt ey8
      refine lv_if_le (tgt := 60) hx hb dX11_why_55 (by decide) (fun c_9 => ?_) (fun c_9 => ?_)
      · have hF := (if_pos c_9).symm.trans hF
        have c_9 : y8.toInt ≤ 0 := il_le c_9
        refine lv_aload_n hx hb dX11_why_60 rfl (lv_at hl 1 rfl) ?_
        refine va_get (D := (dC, dI)) (ci := 11) (v := .ref (ad 32)) (C := RX11) (T := TX11) (N := 11) hx hb hts inG11 hown hK hP 0 (gX_0 cs ad xi4) rfl 6 (by decide) (hts _ (List.mem_cons_of_mem _ mw_2_164)) (fun _ h9 => h9) rfl dX11_why_61 ?_
        refine lv_aload_n hx hb dX11_why_64 rfl (lv_at hl 1 rfl) ?_
        refine va_get (D := (dC, dI)) (ci := 11) (v := .ref (ad 4)) (C := RX11) (T := TX11) (N := 11) hx hb hts inG11 hown hK hP 0 (gX_0 cs ad xi4) rfl 3 (by decide) (hts _ (List.mem_cons_of_mem _ mw_2_161)) (fun _ h9 => h9) rfl dX11_why_65 ?_
        refine cr_i (va_runV (As := [.ref (ad 4)]) (rest := []) ⟨hx, hb, hml, hown, hts⟩ (sx_isLinked l dC dI cs ad xi4 ok H4 hP) (cwV 1 hts (wU_V mw_4_76 mw_4_73 mw_4_74 mw_4_75 mw_1_8) rfl rfl rfl (by decide +kernel) ⟨Nat.le_of_ble_eq_true rfl, Nat.le_of_ble_eq_true rfl⟩) ⟨sz_c, va_recv hK hP (ci := 5) (q0 := 32) rfl (gX_32 cs ad xi4), sz_m hK hz⟩ rfl rfl hl.1 rfl (lv_room (Nat.le_of_ble_eq_true rfl)) dX11_why_68 ⟨Nat.zero_le _, Nat.zero_le _⟩) hS (fun r10 hw10 locs hS => ?_)
        obtain ⟨hfe10, hw10⟩ := hw10
        have hF := mi_let hF hfe10
        have gr10 : 0 ≤ r10.toInt ∧ r10.toInt ≤ 1 := hw10
        refine lv_if_eq (tgt := 78) hx hb dX11_why_71 (by decide) (fun c_11 => ?_) (fun c_11 => ?_)
        · have hF := (if_pos c_11).symm.trans hF
          have c_11 : r10.toInt = 0 := il_eq c_11
          refine lv_iconst (v := 1) hx hb dX11_why_78 (by decide) ?_
          exact W.iret (v := 1) hx hb hr (fun t ht hW => ⟨⟨1, xi4, rfl, ⟨hF.trans hfz.symm, ok, trivial, kp5⟩, by first | (subst ht; exact hP) | (rw [ht]; exact hP) | (show va_P (dC, dI) vwCl (wR 157 ad (EX cs ad) xi4) t.heap; rw [ht]; exact hP)⟩, hS.F ht⟩) hS.2.2 dX11_why_79
        · have hF := (if_neg c_11).symm.trans hF
          have c_11 : ¬ r10.toInt = 0 := il_ne c_11
          refine lv_iconst (v := 2) hx hb dX11_why_74 (by decide) ?_
          refine lv_goto (tgt := 79) hx hb dX11_why_75 (by decide) ?_
          exact W.iret (v := 2) hx hb hr (fun t ht hW => ⟨⟨2, xi4, rfl, ⟨hF.trans hfz.symm, ok, trivial, kp5⟩, by first | (subst ht; exact hP) | (rw [ht]; exact hP) | (show va_P (dC, dI) vwCl (wR 157 ad (EX cs ad) xi4) t.heap; rw [ht]; exact hP)⟩, hS.F ht⟩) hS.2.2 dX11_why_79
      · have hF := (if_neg c_9).symm.trans hF
        have c_9 : 0 < y8.toInt := il_nle c_9
        refine lv_iconst (v := 3) hx hb dX11_why_58 (by decide) ?_
        exact W.iret (v := 3) hx hb hr (fun t ht hW => ⟨⟨3, xi4, rfl, ⟨hF.trans hfz.symm, ok, trivial, kp5⟩, by first | (subst ht; exact hP) | (rw [ht]; exact hP) | (show va_P (dC, dI) vwCl (wR 157 ad (EX cs ad) xi4) t.heap; rw [ht]; exact hP)⟩, hS.F ht⟩) hS.2.2 dX11_why_59
    · have hF := (if_neg c_7).symm.trans hF
      have c_7 : 0 < y6.toInt := il_nle c_7
      refine lv_iconst (v := 0) hx hb dX11_why_46 (by decide) ?_
      exact W.iret (v := 0) hx hb hr (fun t ht hW => ⟨⟨0, xi4, rfl, ⟨hF.trans hfz.symm, ok, trivial, kp5⟩, by first | (subst ht; exact hP) | (rw [ht]; exact hP) | (show va_P (dC, dI) vwCl (wR 157 ad (EX cs ad) xi4) t.heap; rw [ht]; exact hP)⟩, hS.F ht⟩) hS.2.2 dX11_why_47
  · have hF := (if_neg (show ¬ r1 = 0 from fun h => by have h9 := congrArg Int32.toInt h; have h8 : (0 : Int32).toInt = 0 := rfl; omega)).symm.trans hF
    have kp2 : (∀ k f : Nat, Nat.testBit 510 (gpX k f) = true → xi1 k f = mu k f) := kp_t hkp1_0 (by decide) (fun _ _ _ => rfl)
    skip
    refine lv_istore_n (lv' := [(2, .int r1), (0, .ref (ad 0)), (1, .int vk)]) hx hb dX11_why_6 rfl hl (by decide) rfl (fun ls hl => ?_)
    refine lv_iload_n hx hb dX11_why_7 rfl (lv_at hl 0 rfl) ?_
    refine lv_if_eq (tgt := 13) hx hb dX11_why_8 (by decide) (fun c_12 => by have c_12 : r1.toInt = 0 := il_eq c_12; exfalso; omega) (fun c_12 => ?_)
    have c_12 : ¬ r1.toInt = 0 := il_ne c_12
    refine lv_iload_n hx hb dX11_why_11 rfl (lv_at hl 0 rfl) ?_
    exact W.iret (v := r1) hx hb hr (fun t ht hW => ⟨⟨r1, xi1, rfl, ⟨hF.trans hfz.symm, ok, trivial, kp2⟩, by first | (subst ht; exact hP) | (rw [ht]; exact hP) | (show va_P (dC, dI) vwCl (wR 157 ad (EX cs ad) xi1) t.heap; rw [ht]; exact hP)⟩, hS.F ht⟩) hS.2.2 dX11_why_12
set_option maxHeartbeats 4000000 in
set_option maxRecDepth 100000 in
/-- qx_needs -/
theorem qx_needs (l : Launch) (dC : Nat → ClassId) (dI : Nat → Nat → Nat) (cs : Nat → ClassId) (ad : Nat → Nat) (mu : Nat → Nat → Int32) (ok : okR loX hiX mu) (H : Heap) (hP : va_P (dC, dI) vwCl (wR 157 ad (EX cs ad) mu) H) (hD0 : va_D (fun _ => True) (wR 157 ad (EX cs ad) mu)) (vk : Int32) : Met l yX11_needs (wU yX11_needs cX11_needs 3 (some .int)) ({ frames := 11, cells := 0, slots := 0, locals := 318 }) (va_Pc [.ref (ad 0), .int vk] (sz_P (dC, dI) vwCl (tyW cs) H)) (va_Qi (fun (z : Int32) (xi : Nat → Nat → Int32) => (z, xi) = F_qx_needs mu vk ∧ okR loX hiX xi ∧ (True) ∧ (∀ k f : Nat, Nat.testBit 510 (gpX k f) = true → xi k f = mu k f)) (fun xi t => va_P (dC, dI) vwCl (wR 157 ad (EX cs ad) xi) t.heap) (va_A (wR 157 ad (EX cs ad) mu) H.size)) 0 0 (va_A (wR 157 ad (EX cs ad) mu) H.size) := by
  refine Met.ofW (cc := cX11_needs) (maxL := 3) (ret := (some .int)) (by decide) rfl ?_
  intro p e s m args below meth c s₁ B hml hv
  obtain ⟨rfl, hh, hK, hz⟩ := hv
  have hx := B.exec
  have hb := B.bytes
  have hr := B.returns
  have hts := atoms_spec (ws := (wU yX11_needs cX11_needs 3 (some .int))) B.pre
  have hown : s.vm.findClass RX11 = some m.cls := findClass_of_methodNamed B.named
  have hlocks := B.notSynchronized
  subst hh
  have hD := hD0.self (sz := s.heap.size)
  have hA : ∀ q : Nat, s.heap.size ≤ q → (va_A (wR 157 ad (EX cs ad) mu) s.heap.size) q := fun q h => Or.inr h
  have hS : va_S (va_A (wR 157 ad (EX cs ad) mu) s.heap.size) s.heap s.heap [] := va_S.rf
  have hl := lv_entry ([.ref (ad 0), .int vk]) (n := 3) (Nat.le_of_ble_eq_true rfl)
  rw [lg_entry_eq]
  generalize (lg_sl ([.ref (ad 0), .int vk]) ++ List.replicate (3 - (lg_sl ([.ref (ad 0), .int vk])).length) Slot.unset).toArray = ls at hl ⊢
  have hl : lv_has ls 3 [(0, .ref (ad 0)), (1, .int vk)] := hl
  obtain ⟨fz, hfz⟩ : ∃ z, F_qx_needs mu vk = z := ⟨_, rfl⟩
  have hF := hfz
  unfold F_qx_needs at hF
  refine lv_aload_n hx hb dX11_needs_0 rfl (lv_at hl 0 rfl) ?_
  refine lv_iload_n hx hb dX11_needs_1 rfl (lv_at hl 1 rfl) ?_
  refine lv_iconst (v := 0) hx hb dX11_needs_2 (by decide) ?_
  have hFc := fr_all (wR_D mu hD) hS hA
  refine va_calli (va_runV (As := [.int vk, .int 0]) (rest := []) ⟨hx, hb, hml, hown, hts⟩ (sx_refusedRoute l dC dI cs ad mu ok s.heap hP ((wR_D mu hD).weaken (fun _ _ _ _ => trivial)) vk 0) (cwV 2 hts (wU_V mw_4_1 mw_3_238 mw_4_0 mw_0_9 mw_1_1) rfl rfl rfl (by decide +kernel) ⟨Nat.le_of_ble_eq_true rfl, Nat.le_of_ble_eq_true rfl⟩) ⟨sz_c, va_recv hK hP (ci := 11) (q0 := 0) rfl (gX_0 cs ad mu), sz_m hK hz⟩ rfl rfl hl.1 rfl (lv_room (Nat.le_of_ble_eq_true rfl)) dX11_needs_3 ⟨Nat.zero_le _, Nat.zero_le _⟩) hS (fun q _ h => hFc q h) hFc (fun r1 xi1 t H1 locs ht hvm hw1 hB hz1 hk1 hS => ?_)
  have hP : va_P (dC, dI) vwCl (wR 157 ad (EX cs ad) xi1) H1 := by rw [← ht]; exact hB
  obtain ⟨hfe1, hw1⟩ := hw1
  have hF := mi_letp hF hfe1
  rcases hw1 with ⟨rfl, hxi1, f1⟩ | ⟨z1, ok, hkp1_0⟩
  · have hF := (if_pos rfl).symm.trans hF
    have hP : va_P (dC, dI) vwCl (wR 157 ad (EX cs ad) mu) H1 := by rw [← hxi1]; exact hP
    have f1 : 0 ≤ vk.toInt ∧ vk.toInt < (mu 5 4).toInt ∧ (mu 5 4).toInt ≤ 4 ∧ (0 : Int) = 0 := f1
    refine lv_istore_n (lv' := [(2, .int 0), (0, .ref (ad 0)), (1, .int vk)]) hx hb dX11_needs_6 rfl hl (by decide) rfl (fun ls hl => ?_)
    refine lv_iload_n hx hb dX11_needs_7 rfl (lv_at hl 0 rfl) ?_
    refine lv_if_eq (tgt := 13) hx hb dX11_needs_8 (by decide) (fun _ => ?_) (fun c => absurd (by decide) c)
    refine lv_aload_n hx hb dX11_needs_13 rfl (lv_at hl 1 rfl) ?_
    refine va_get (D := (dC, dI)) (ci := 11) (v := .ref (ad 32)) (C := RX11) (T := TX11) (N := 11) hx hb hts inG11 hown hK hP 0 (gX_0 cs ad mu) rfl 6 (by decide) (hts _ (List.mem_cons_of_mem _ mw_2_164)) (fun _ h9 => h9) rfl dX11_needs_14 ?_
    refine lv_aload_n hx hb dX11_needs_17 rfl (lv_at hl 1 rfl) ?_
    refine va_get (D := (dC, dI)) (ci := 11) (v := .ref (ad 4)) (C := RX11) (T := TX11) (N := 11) hx hb hts inG11 hown hK hP 0 (gX_0 cs ad mu) rfl 3 (by decide) (hts _ (List.mem_cons_of_mem _ mw_2_161)) (fun _ h9 => h9) rfl dX11_needs_18 ?_
    refine lv_aload_n hx hb dX11_needs_21 rfl (lv_at hl 1 rfl) ?_
    refine va_get (D := (dC, dI)) (ci := 11) (v := .ref (ad 4)) (C := RX11) (T := TX11) (N := 11) hx hb hts inG11 hown hK hP 0 (gX_0 cs ad mu) rfl 3 (by decide) (hts _ (List.mem_cons_of_mem _ mw_2_161)) (fun _ h9 => h9) rfl dX11_needs_22 ?_
    refine va_get (D := (dC, dI)) (ci := 10) (v := .ref (ad 5)) (C := RX10) (T := TX10) (N := 8) hx hb hts inG10 hown hK hP 4 (gX_4 cs ad mu) rfl 3 (by decide) (hts _ (List.mem_cons_of_mem _ mw_1_157)) (fun _ h9 => h9) rfl dX11_needs_25 ?_
    refine va_get (D := (dC, dI)) (ci := 8) (v := .ref (ad 47)) (C := RX8) (T := TX8) (N := 6) hx hb hts inG8 hown hK hP 5 (gX_5 cs ad mu) rfl 1 (by decide) (hts _ (List.mem_cons_of_mem _ mw_1_112)) (fun _ h9 => h9) rfl dX11_needs_28 ?_
    refine lv_iload_n hx hb dX11_needs_31 rfl (lv_at hl 2 rfl) ?_
    have hx3 : 0 ≤ vk.toInt ∧ vk.toInt < ((4 : Nat) : Int) := ⟨by omega, by omega⟩
    refine va_aldq hx hb hK hP 47 5 (gX_47 cs ad mu) rfl (show vp_in vk 4 from vi_of hx3.1 hx3.2) dX11_needs_32 ?_
    have hk3 : 61 ≤ (61 + vk.toNatClampNeg) ∧ (61 + vk.toNatClampNeg) < 65 := ix_of hx3
    have hk3 : 61 ≤ (61 + vk.toNatClampNeg) ∧ (61 + vk.toNatClampNeg) < 77 := ⟨Nat.le_trans (by decide) hk3.1, Nat.lt_of_lt_of_le hk3.2 (by decide)⟩
    refine lq_v (.ref (ad (61 + vk.toNatClampNeg))) rfl ?_
    have hFc := fr_all (wR_D mu hD) hS hA
    refine va_callv (va_runV (As := [.ref (ad 4), .ref (ad (61 + vk.toNatClampNeg))]) (rest := []) ⟨hx, hb, hml, hown, hts⟩ (sx_walkOf l dC dI cs ad mu ok H1 hP ((wR_D mu hD).weaken (fun _ _ _ _ => trivial)) (61 + vk.toNatClampNeg) hk3.1 hk3.2) (cwV 2 hts (wU_V mw_4_5 mw_4_2 mw_4_3 mw_4_4 mw_1_8) rfl rfl rfl (by decide +kernel) ⟨Nat.le_of_ble_eq_true rfl, Nat.le_of_ble_eq_true rfl⟩) ⟨sz_c, va_recv hK hP (ci := 5) (q0 := 32) rfl (gX_32 cs ad mu), sz_m hK hz⟩ rfl rfl hl.1 rfl (lv_room (Nat.le_of_ble_eq_true rfl)) dX11_needs_33 ⟨Nat.zero_le _, Nat.zero_le _⟩) hS (fun q _ h => hFc q h) hFc (fun xi4 t H4 locs ht hvm hw4 hB hz1 hk1 hS => ?_)
    have hP : va_P (dC, dI) vwCl (wR 157 ad (EX cs ad) xi4) H4 := by rw [← ht]; exact hB
    obtain ⟨hfe4, ok, hw4, hkp4_0⟩ := hw4
    have hF := mi_let hF hfe4
    have kp5 : (∀ k f : Nat, Nat.testBit 510 (gpX k f) = true → xi4 k f = mu k f) := kp_t hkp4_0 (by decide) (fun _ _ _ => rfl)
    refine lv_aload_n hx hb dX11_needs_36 rfl (lv_at hl 1 rfl) ?_
    refine va_get (D := (dC, dI)) (ci := 11) (v := .ref (ad 32)) (C := RX11) (T := TX11) (N := 11) hx hb hts inG11 hown hK hP 0 (gX_0 cs ad xi4) rfl 6 (by decide) (hts _ (List.mem_cons_of_mem _ mw_2_164)) (fun _ h9 => h9) rfl dX11_needs_37 ?_
    refine va_get (D := (dC, dI)) (ci := 5) (v := .int (xi4 32 11)) (C := RX5) (T := TX5) (N := 15) hx hb hts inG5 hown hK hP 32 (gX_32 cs ad xi4) rfl 11 (by decide) (hts _ (List.mem_cons_of_mem _ mw_2_60)) (fun _ h9 => h9) rfl dX11_needs_40 ?_
    refine lv_topi (fun y6 ey6 => ?_)
    have hF := mi_let hF ey6
    have by6 : y6.toInt = (xi4 32 11).toInt := congrArg Int32.toInt ey6
    refine lv_if_eq (tgt := 59) hx hb dX11_needs_43 (by decide) (fun c_7 => ?_) (fun c_7 => ?_)
    · have hF := (if_pos c_7).symm.trans hF
      have c_7 : y6.toInt = 0 := il_eq c_7
      refine lv_bipush (v := (-9)) hx hb dX11_needs_59 (by decide) ?_
      refine lv_goto (tgt := 71) hx hb dX11_needs_61 (by decide) ?_
      exact W.iret (v := (-9)) hx hb hr (fun t ht hW => ⟨⟨(-9), xi4, rfl, ⟨hF.trans hfz.symm, ok, trivial, kp5⟩, by first | (subst ht; exact hP) | (rw [ht]; exact hP) | (show va_P (dC, dI) vwCl (wR 157 ad (EX cs ad) xi4) t.heap; rw [ht]; exact hP)⟩, hS.F ht⟩) hS.2.2 dX11_needs_71
    · have hF := (if_neg c_7).symm.trans hF
      have c_7 : ¬ y6.toInt = 0 := il_ne c_7
      refine lv_aload_n hx hb dX11_needs_46 rfl (lv_at hl 1 rfl) ?_
      refine va_get (D := (dC, dI)) (ci := 11) (v := .ref (ad 32)) (C := RX11) (T := TX11) (N := 11) hx hb hts inG11 hown hK hP 0 (gX_0 cs ad xi4) rfl 6 (by decide) (hts _ (List.mem_cons_of_mem _ mw_2_164)) (fun _ h9 => h9) rfl dX11_needs_47 ?_
      refine va_get (D := (dC, dI)) (ci := 5) (v := .int (xi4 32 14)) (C := RX5) (T := TX5) (N := 15) hx hb hts inG5 hown hK hP 32 (gX_32 cs ad xi4) rfl 14 (by decide) (hts _ (List.mem_cons_of_mem _ mw_2_66)) (fun _ h9 => h9) rfl dX11_needs_50 ?_
      refine lv_topi (fun y8 ey8 => ?_)
      have hF := mi_let hF ey8
      have by8 : y8.toInt = (xi4 32 14).toInt := congrArg Int32.toInt ey8
      refine lv_sipush (v := 999) hx hb dX11_needs_53 (by decide) ?_
      refine lv_icmp_le (tgt := 64) hx hb dX11_needs_56 (by decide) (fun c_9 => ?_) (fun c_9 => ?_)
      · have hF := (if_pos c_9).symm.trans hF
        have c_9 : y8.toInt ≤ 999 := il_le c_9
        refine lv_aload_n hx hb dX11_needs_64 rfl (lv_at hl 1 rfl) ?_
        refine va_get (D := (dC, dI)) (ci := 11) (v := .ref (ad 32)) (C := RX11) (T := TX11) (N := 11) hx hb hts inG11 hown hK hP 0 (gX_0 cs ad xi4) rfl 6 (by decide) (hts _ (List.mem_cons_of_mem _ mw_2_164)) (fun _ h9 => h9) rfl dX11_needs_65 ?_
        refine va_get (D := (dC, dI)) (ci := 5) (v := .int (xi4 32 14)) (C := RX5) (T := TX5) (N := 15) hx hb hts inG5 hown hK hP 32 (gX_32 cs ad xi4) rfl 14 (by decide) (hts _ (List.mem_cons_of_mem _ mw_2_66)) (fun _ h9 => h9) rfl dX11_needs_68 ?_
        refine lq_i y8 ey8.symm ?_
        exact W.iret (v := y8) hx hb hr (fun t ht hW => ⟨⟨y8, xi4, rfl, ⟨hF.trans hfz.symm, ok, trivial, kp5⟩, by first | (subst ht; exact hP) | (rw [ht]; exact hP) | (show va_P (dC, dI) vwCl (wR 157 ad (EX cs ad) xi4) t.heap; rw [ht]; exact hP)⟩, hS.F ht⟩) hS.2.2 dX11_needs_71
      · have hF := (if_neg c_9).symm.trans hF
        have c_9 : 999 < y8.toInt := il_nle c_9
        refine lv_bipush (v := (-9)) hx hb dX11_needs_59 (by decide) ?_
        refine lv_goto (tgt := 71) hx hb dX11_needs_61 (by decide) ?_
        exact W.iret (v := (-9)) hx hb hr (fun t ht hW => ⟨⟨(-9), xi4, rfl, ⟨hF.trans hfz.symm, ok, trivial, kp5⟩, by first | (subst ht; exact hP) | (rw [ht]; exact hP) | (show va_P (dC, dI) vwCl (wR 157 ad (EX cs ad) xi4) t.heap; rw [ht]; exact hP)⟩, hS.F ht⟩) hS.2.2 dX11_needs_71
  · have hF := (if_neg (show ¬ r1 = 0 from fun h => by have h9 := congrArg Int32.toInt h; have h8 : (0 : Int32).toInt = 0 := rfl; omega)).symm.trans hF
    have kp2 : (∀ k f : Nat, Nat.testBit 510 (gpX k f) = true → xi1 k f = mu k f) := kp_t hkp1_0 (by decide) (fun _ _ _ => rfl)
    skip
    refine lv_istore_n (lv' := [(2, .int r1), (0, .ref (ad 0)), (1, .int vk)]) hx hb dX11_needs_6 rfl hl (by decide) rfl (fun ls hl => ?_)
    refine lv_iload_n hx hb dX11_needs_7 rfl (lv_at hl 0 rfl) ?_
    refine lv_if_eq (tgt := 13) hx hb dX11_needs_8 (by decide) (fun c_10 => by have c_10 : r1.toInt = 0 := il_eq c_10; exfalso; omega) (fun c_10 => ?_)
    have c_10 : ¬ r1.toInt = 0 := il_ne c_10
    refine lv_iload_n hx hb dX11_needs_11 rfl (lv_at hl 0 rfl) ?_
    exact W.iret (v := r1) hx hb hr (fun t ht hW => ⟨⟨r1, xi1, rfl, ⟨hF.trans hfz.symm, ok, trivial, kp2⟩, by first | (subst ht; exact hP) | (rw [ht]; exact hP) | (show va_P (dC, dI) vwCl (wR 157 ad (EX cs ad) xi1) t.heap; rw [ht]; exact hP)⟩, hS.F ht⟩) hS.2.2 dX11_needs_12
set_option maxHeartbeats 4000000 in
set_option maxRecDepth 100000 in
/-- qx_lend -/
theorem qx_lend (l : Launch) (dC : Nat → ClassId) (dI : Nat → Nat → Nat) (cs : Nat → ClassId) (ad : Nat → Nat) (mu : Nat → Nat → Int32) (ok : okR loX hiX mu) (H : Heap) (hP : va_P (dC, dI) vwCl (wR 157 ad (EX cs ad) mu) H) (hD0 : va_D (fun _ => True) (wR 157 ad (EX cs ad) mu)) (vk : Int32) : Met l yX11_lend (wU yX11_lend cX11_lend 7 (some .int)) ({ frames := 11, cells := 0, slots := 0, locals := 320 }) (va_Pc [.ref (ad 0), .int vk] (sz_P (dC, dI) vwCl (tyW cs) H)) (va_Qi (fun (z : Int32) (xi : Nat → Nat → Int32) => (z, xi) = F_qx_lend mu vk ∧ okR loX hiX xi ∧ (True) ∧ (∀ k f : Nat, Nat.testBit 510 (gpX k f) = true → xi k f = mu k f)) (fun xi t => va_P (dC, dI) vwCl (wR 157 ad (EX cs ad) xi) t.heap) (va_A (wR 157 ad (EX cs ad) mu) H.size)) 0 0 (va_A (wR 157 ad (EX cs ad) mu) H.size) := by
  refine Met.ofW (cc := cX11_lend) (maxL := 7) (ret := (some .int)) (by decide) rfl ?_
  intro p e s m args below meth c s₁ B hml hv
  obtain ⟨rfl, hh, hK, hz⟩ := hv
  have hx := B.exec
  have hb := B.bytes
  have hr := B.returns
  have hts := atoms_spec (ws := (wU yX11_lend cX11_lend 7 (some .int))) B.pre
  have hown : s.vm.findClass RX11 = some m.cls := findClass_of_methodNamed B.named
  have hlocks := B.notSynchronized
  subst hh
  have hD := hD0.self (sz := s.heap.size)
  have hA : ∀ q : Nat, s.heap.size ≤ q → (va_A (wR 157 ad (EX cs ad) mu) s.heap.size) q := fun q h => Or.inr h
  have hS : va_S (va_A (wR 157 ad (EX cs ad) mu) s.heap.size) s.heap s.heap [] := va_S.rf
  have hl := lv_entry ([.ref (ad 0), .int vk]) (n := 7) (Nat.le_of_ble_eq_true rfl)
  rw [lg_entry_eq]
  generalize (lg_sl ([.ref (ad 0), .int vk]) ++ List.replicate (7 - (lg_sl ([.ref (ad 0), .int vk])).length) Slot.unset).toArray = ls at hl ⊢
  have hl : lv_has ls 7 [(0, .ref (ad 0)), (1, .int vk)] := hl
  obtain ⟨fz, hfz⟩ : ∃ z, F_qx_lend mu vk = z := ⟨_, rfl⟩
  have hF := hfz
  unfold F_qx_lend at hF
  refine lv_aload_n hx hb dX11_lend_0 rfl (lv_at hl 0 rfl) ?_
  refine lv_iload_n hx hb dX11_lend_1 rfl (lv_at hl 1 rfl) ?_
  refine lv_iconst (v := 0) hx hb dX11_lend_2 (by decide) ?_
  have hFc := fr_all (wR_D mu hD) hS hA
  refine va_calli (va_runV (As := [.int vk, .int 0]) (rest := []) ⟨hx, hb, hml, hown, hts⟩ (sx_refusedRoute l dC dI cs ad mu ok s.heap hP ((wR_D mu hD).weaken (fun _ _ _ _ => trivial)) vk 0) (cwV 2 hts (wU_V mw_4_1 mw_3_238 mw_4_0 mw_0_9 mw_1_1) rfl rfl rfl (by decide +kernel) ⟨Nat.le_of_ble_eq_true rfl, Nat.le_of_ble_eq_true rfl⟩) ⟨sz_c, va_recv hK hP (ci := 11) (q0 := 0) rfl (gX_0 cs ad mu), sz_m hK hz⟩ rfl rfl hl.1 rfl (lv_room (Nat.le_of_ble_eq_true rfl)) dX11_lend_3 ⟨Nat.zero_le _, Nat.zero_le _⟩) hS (fun q _ h => hFc q h) hFc (fun r1 xi1 t H1 locs ht hvm hw1 hB hz1 hk1 hS => ?_)
  have hP : va_P (dC, dI) vwCl (wR 157 ad (EX cs ad) xi1) H1 := by rw [← ht]; exact hB
  obtain ⟨hfe1, hw1⟩ := hw1
  have hF := mi_letp hF hfe1
  rcases hw1 with ⟨rfl, hxi1, f1⟩ | ⟨z1, ok, hkp1_0⟩
  · have hF := (if_pos rfl).symm.trans hF
    have hP : va_P (dC, dI) vwCl (wR 157 ad (EX cs ad) mu) H1 := by rw [← hxi1]; exact hP
    have f1 : 0 ≤ vk.toInt ∧ vk.toInt < (mu 5 4).toInt ∧ (mu 5 4).toInt ≤ 4 ∧ (0 : Int) = 0 := f1
    refine lv_istore_n (lv' := [(2, .int 0), (0, .ref (ad 0)), (1, .int vk)]) hx hb dX11_lend_6 rfl hl (by decide) rfl (fun ls hl => ?_)
    refine lv_iload_n hx hb dX11_lend_7 rfl (lv_at hl 0 rfl) ?_
    refine lv_if_eq (tgt := 13) hx hb dX11_lend_8 (by decide) (fun _ => ?_) (fun c => absurd (by decide) c)
    refine lv_aload_n hx hb dX11_lend_13 rfl (lv_at hl 1 rfl) ?_
    refine va_get (D := (dC, dI)) (ci := 11) (v := .ref (ad 4)) (C := RX11) (T := TX11) (N := 11) hx hb hts inG11 hown hK hP 0 (gX_0 cs ad mu) rfl 3 (by decide) (hts _ (List.mem_cons_of_mem _ mw_2_161)) (fun _ h9 => h9) rfl dX11_lend_14 ?_
    refine va_get (D := (dC, dI)) (ci := 10) (v := .ref (ad 5)) (C := RX10) (T := TX10) (N := 8) hx hb hts inG10 hown hK hP 4 (gX_4 cs ad mu) rfl 3 (by decide) (hts _ (List.mem_cons_of_mem _ mw_1_157)) (fun _ h9 => h9) rfl dX11_lend_17 ?_
    refine va_get (D := (dC, dI)) (ci := 8) (v := .ref (ad 47)) (C := RX8) (T := TX8) (N := 6) hx hb hts inG8 hown hK hP 5 (gX_5 cs ad mu) rfl 1 (by decide) (hts _ (List.mem_cons_of_mem _ mw_1_112)) (fun _ h9 => h9) rfl dX11_lend_20 ?_
    refine lv_iload_n hx hb dX11_lend_23 rfl (lv_at hl 2 rfl) ?_
    have hx3 : 0 ≤ vk.toInt ∧ vk.toInt < ((4 : Nat) : Int) := ⟨by omega, by omega⟩
    refine va_aldq hx hb hK hP 47 5 (gX_47 cs ad mu) rfl (show vp_in vk 4 from vi_of hx3.1 hx3.2) dX11_lend_24 ?_
    have hk3 : 61 ≤ (61 + vk.toNatClampNeg) ∧ (61 + vk.toNatClampNeg) < 65 := ix_of hx3
    have hk3 : 61 ≤ (61 + vk.toNatClampNeg) ∧ (61 + vk.toNatClampNeg) < 77 := ⟨Nat.le_trans (by decide) hk3.1, Nat.lt_of_lt_of_le hk3.2 (by decide)⟩
    refine lq_v (.ref (ad (61 + vk.toNatClampNeg))) rfl ?_
    refine lv_astore_n (lv' := [(3, .ref (ad (61 + vk.toNatClampNeg))), (2, .int 0), (0, .ref (ad 0)), (1, .int vk)]) hx hb dX11_lend_25 rfl hl (by decide) rfl (fun ls hl => ?_)
    refine lv_aload_n hx hb dX11_lend_26 rfl (lv_at hl 2 rfl) ?_
    refine va_get (D := (dC, dI)) (ci := 11) (v := .ref (ad 32)) (C := RX11) (T := TX11) (N := 11) hx hb hts inG11 hown hK hP 0 (gX_0 cs ad mu) rfl 6 (by decide) (hts _ (List.mem_cons_of_mem _ mw_2_164)) (fun _ h9 => h9) rfl dX11_lend_27 ?_
    refine lv_aload_n hx hb dX11_lend_30 rfl (lv_at hl 2 rfl) ?_
    refine va_get (D := (dC, dI)) (ci := 11) (v := .ref (ad 4)) (C := RX11) (T := TX11) (N := 11) hx hb hts inG11 hown hK hP 0 (gX_0 cs ad mu) rfl 3 (by decide) (hts _ (List.mem_cons_of_mem _ mw_2_161)) (fun _ h9 => h9) rfl dX11_lend_31 ?_
    refine lv_aload_n hx hb dX11_lend_34 rfl (lv_at hl 0 rfl) ?_
    have hFc := fr_all (wR_D mu hD) hS hA
    refine va_callv (va_runV (As := [.ref (ad 4), .ref (ad (61 + vk.toNatClampNeg))]) (rest := []) ⟨hx, hb, hml, hown, hts⟩ (sx_lookAt l dC dI cs ad mu ok H1 hP ((wR_D mu hD).weaken (fun _ _ _ _ => trivial)) (61 + vk.toNatClampNeg) hk3.1 hk3.2) (cwV 2 hts (wU_V mw_4_9 mw_4_85 mw_4_7 mw_4_8 mw_1_8) rfl rfl rfl (by decide +kernel) ⟨Nat.le_of_ble_eq_true rfl, Nat.le_of_ble_eq_true rfl⟩) ⟨sz_c, va_recv hK hP (ci := 5) (q0 := 32) rfl (gX_32 cs ad mu), sz_m hK hz⟩ rfl rfl hl.1 rfl (lv_room (Nat.le_of_ble_eq_true rfl)) dX11_lend_35 ⟨Nat.zero_le _, Nat.zero_le _⟩) hS (fun q _ h => hFc q h) hFc (fun xi4 t H4 locs ht hvm hw4 hB hz1 hk1 hS => ?_)
    have hP : va_P (dC, dI) vwCl (wR 157 ad (EX cs ad) xi4) H4 := by rw [← ht]; exact hB
    obtain ⟨hfe4, ok, hw4, hkp4_0⟩ := hw4
    have hF := mi_let hF hfe4
    have kp5 : (∀ k f : Nat, Nat.testBit 510 (gpX k f) = true → xi4 k f = mu k f) := kp_t hkp4_0 (by decide) (fun _ _ _ => rfl)
    refine lv_bipush (v := (-9)) hx hb dX11_lend_38 (by decide) ?_
    refine lv_istore (lv' := [(4, .int (-9)), (3, .ref (ad (61 + vk.toNatClampNeg))), (2, .int 0), (0, .ref (ad 0)), (1, .int vk)]) hx hb dX11_lend_40 hl (by decide) rfl (fun ls hl => ?_)
    refine lv_iconst (v := 0) hx hb dX11_lend_42 (by decide) ?_
    refine lv_istore (lv' := [(5, .int 0), (4, .int (-9)), (3, .ref (ad (61 + vk.toNatClampNeg))), (2, .int 0), (0, .ref (ad 0)), (1, .int vk)]) hx hb dX11_lend_43 hl (by decide) rfl (fun ls hl => ?_)
    refine lv_iconst (v := 0) hx hb dX11_lend_45 (by decide) ?_
    refine lv_istore (lv' := [(6, .int 0), (5, .int 0), (4, .int (-9)), (3, .ref (ad (61 + vk.toNatClampNeg))), (2, .int 0), (0, .ref (ad 0)), (1, .int vk)]) hx hb dX11_lend_46 hl (by decide) rfl (fun ls hl => ?_)
    have loop48 : ∀ (n48 : Nat) (v4_48 : Int32) (v5_48 : Int32) (v6_48 : Int32) (nu48_ : Nat → Nat → Int32) (H : Heap) (locs : List Loc) (ls : Array Slot), (7 + 1 - v6_48.toInt).toNat < n48 → (0 ≤ v6_48.toInt ∧ v6_48.toInt ≤ 7) → okR loX hiX nu48_ → va_P (dC, dI) vwCl (wR 157 ad (EX cs ad) nu48_) H → (∀ k f : Nat, Nat.testBit 510 (gpX k f) = true → nu48_ k f = mu k f) → L_qx_lend_48_0 vk n48 v4_48 v5_48 v6_48 nu48_ = fz → va_S (va_A (wR 157 ad (EX cs ad) mu) s.heap.size) s.heap H locs → lv_has ls 7 [(6, .int v6_48), (5, .int v5_48), (4, .int v4_48), (3, .ref (ad (61 + vk.toNatClampNeg))), (2, .int 0), (0, .ref (ad 0)), (1, .int vk)] → W p l e (headSpec (wU yX11_lend cX11_lend 7 (some .int)) ({ frames := 11, cells := 0, slots := 0, locals := 320 })).room s m ([.ref (ad 0), .int vk] : List Value).toArray below meth c H locs 0 0 (MQ below (va_Qi (fun (z : Int32) (xi : Nat → Nat → Int32) => (z, xi) = F_qx_lend mu vk ∧ okR loX hiX xi ∧ (True) ∧ (∀ k f : Nat, Nat.testBit 510 (gpX k f) = true → xi k f = mu k f)) (fun xi t => va_P (dC, dI) vwCl (wR 157 ad (EX cs ad) xi) t.heap) (va_A (wR 157 ad (EX cs ad) mu) s.heap.size)) ([.ref (ad 0), .int vk] : List Value).toArray s 0 0 (va_A (wR 157 ad (EX cs ad) mu) s.heap.size)) (F0 m 48 ls []) := by
      intro n48
      induction n48 with
      | zero => intro v4_48 v5_48 v6_48 nu48_ H locs ls hm; exact absurd hm (Nat.not_lt_zero _)
      | succ n48 ih48 =>
        intro v4_48 v5_48 v6_48 nu48_ H locs ls hm_48 h_v6_48 ok hP kq48_0 hF hS hl
        rw [L_qx_lend_48_0] at hF
        refine lv_iload hx hb dX11_lend_48 (lv_at hl 0 rfl) ?_
        refine lv_aload_n hx hb dX11_lend_50 rfl (lv_at hl 5 rfl) ?_
        refine va_get (D := (dC, dI)) (ci := 11) (v := .ref (ad 4)) (C := RX11) (T := TX11) (N := 11) hx hb hts inG11 hown hK hP 0 (gX_0 cs ad nu48_) rfl 3 (by decide) (hts _ (List.mem_cons_of_mem _ mw_2_161)) (fun _ h9 => h9) rfl dX11_lend_51 ?_
        refine va_get (D := (dC, dI)) (ci := 10) (v := .int (nu48_ 4 6)) (C := RX10) (T := TX10) (N := 8) hx hb hts inG10 hown hK hP 4 (gX_4 cs ad nu48_) rfl 6 (by decide) (hts _ (List.mem_cons_of_mem _ mw_1_164)) (fun _ h9 => h9) rfl dX11_lend_54 ?_
        refine lv_topi (fun y6 ey6 => ?_)
        have hF := mi_let hF ey6
        have by6 : y6.toInt = (nu48_ 4 6).toInt := congrArg Int32.toInt ey6
        have gy6 : 0 ≤ y6.toInt ∧ y6.toInt ≤ 7 := by rw [ey6]; exact rX_4_6 ok
        refine lv_icmp_ge (tgt := 167) hx hb dX11_lend_57 (by decide) (fun c_7 => ?_) (fun c_7 => ?_)
        · have hF := (if_pos c_7).symm.trans hF
          have c_7 : y6.toInt ≤ v6_48.toInt := il_le c_7
          refine lv_iload hx hb dX11_lend_167 (lv_at hl 2 rfl) ?_
          refine lv_bipush (v := (-9)) hx hb dX11_lend_169 (by decide) ?_
          refine lv_icmp_eq (tgt := 180) hx hb dX11_lend_171 (by decide) (fun c_8 => ?_) (fun c_8 => ?_)
          · have hF := (if_pos c_8).symm.trans hF
            have c_8 : v4_48.toInt = -9 := il_eq c_8
            refine lv_iload hx hb dX11_lend_180 (lv_at hl 2 rfl) ?_
            exact W.iret (v := v4_48) hx hb hr (fun t ht hW => ⟨⟨v4_48, nu48_, rfl, ⟨hF.trans hfz.symm, ok, trivial, kq48_0⟩, by first | (subst ht; exact hP) | (rw [ht]; exact hP) | (show va_P (dC, dI) vwCl (wR 157 ad (EX cs ad) nu48_) t.heap; rw [ht]; exact hP)⟩, hS.F ht⟩) hS.2.2 dX11_lend_182
          · have hF := (if_neg c_8).symm.trans hF
            have c_8 : ¬ v4_48.toInt = -9 := il_ne c_8
            refine lv_aload_n hx hb dX11_lend_174 rfl (lv_at hl 5 rfl) ?_
            refine lv_iload hx hb dX11_lend_175 (lv_at hl 1 rfl) ?_
            refine va_put (D := (dC, dI)) (ci := 11) (v := .int v5_48) (ty := .int) (C := RX11) (T := TX11) (N := 11) hx hb hts inG11 tyX11 tyX11_ok nmX11 hown hK hP (wR_D nu48_ hD) hS 0 (gX_0 cs ad nu48_) rfl 10 (by decide) (hts _ (List.mem_cons_of_mem _ mw_2_168)) (fun _ h9 => h9) rfl (by decide +kernel) rfl rfl (Nat.le_of_ble_eq_true rfl) dX11_lend_177 (fun H locs hP _ hS => ?_)
            simp only [List.set_cons_succ, List.set_cons_zero] at hP
            refine wr_gen (upd (nu48_ 0) 10 v5_48) hP ((hX_0_10 cs ad _ _)) (fun nu9 hn9 hP => ?_)
            have hF := mi_let hF hn9.symm
            have ok := tX_0_10 ok hn9
            have ez10 : y6 = nu9 4 6 := ey6.trans (congrFun (up_k hn9 (by decide)) 6).symm
            have kp11 : (∀ k f : Nat, Nat.testBit 510 (gpX k f) = true → nu9 k f = mu k f) := kp_c 0 hn9 (fun _ => rfl) (by decide) kq48_0
            have ez12 : v5_48 = nu9 0 10 := up_v hn9
            refine lv_iload hx hb dX11_lend_180 (lv_at hl 2 rfl) ?_
            exact W.iret (v := v4_48) hx hb hr (fun t ht hW => ⟨⟨v4_48, nu9, rfl, ⟨hF.trans hfz.symm, ok, trivial, kp11⟩, by first | (subst ht; exact hP) | (rw [ht]; exact hP) | (show va_P (dC, dI) vwCl (wR 157 ad (EX cs ad) nu9) t.heap; rw [ht]; exact hP)⟩, hS.F ht⟩) hS.2.2 dX11_lend_182
        · have hF := (if_neg c_7).symm.trans hF
          have c_7 : v6_48.toInt < y6.toInt := il_nle c_7
          refine lv_iload hx hb dX11_lend_60 (lv_at hl 0 rfl) ?_
          refine lv_aload_n hx hb dX11_lend_62 rfl (lv_at hl 3 rfl) ?_
          refine va_get (D := (dC, dI)) (ci := 3) (v := .int (nu48_ (61 + vk.toNatClampNeg) 5)) (C := RX3) (T := TX3) (N := 10) hx hb hts inG3 hown hK hP (61 + vk.toNatClampNeg) (gX_letter cs ad nu48_ (61 + vk.toNatClampNeg) hk3.1 hk3.2) rfl 5 (by decide) (hts _ (List.mem_cons_of_mem _ mw_1_65)) (fun _ h9 => h9) rfl dX11_lend_63 ?_
          refine lv_topi (fun y13 ey13 => ?_)
          have hF := mi_let hF ey13
          have by13 : y13.toInt = (nu48_ (61 + vk.toNatClampNeg) 5).toInt := congrArg Int32.toInt ey13
          have gy13 : 0 ≤ y13.toInt ∧ y13.toInt ≤ 6 := by rw [ey13]; exact rX_letter_5 ok (61 + vk.toNatClampNeg) hk3.1 hk3.2
          refine lv_icmp_eq (tgt := 161) hx hb dX11_lend_66 (by decide) (fun c_14 => ?_) (fun c_14 => ?_)
          · have hF := (if_pos c_14).symm.trans hF
            have c_14 : v6_48.toInt = y13.toInt := il_eq c_14
            refine lv_iinc (v := (v6_48 + 1)) (lv' := [(6, .int (v6_48 + 1)), (5, .int v5_48), (4, .int v4_48), (3, .ref (ad (61 + vk.toNatClampNeg))), (2, .int 0), (0, .ref (ad 0)), (1, .int vk)]) hx hb dX11_lend_161 hl (k := 0) rfl rfl (by decide) rfl (fun ls hl => ?_)
            refine loc_gen (P := fun w9 => lv_has ls 7 [(6, .int w9), (5, .int v5_48), (4, .int v4_48), (3, .ref (ad (61 + vk.toNatClampNeg))), (2, .int 0), (0, .ref (ad 0)), (1, .int vk)]) (v6_48 + 1) hl (fun w15 hw15 hl => ?_)
            have hl : lv_has ls 7 [(6, .int w15), (5, .int v5_48), (4, .int v4_48), (3, .ref (ad (61 + vk.toNatClampNeg))), (2, .int 0), (0, .ref (ad 0)), (1, .int vk)] := hl
            have hF := mi_let hF hw15.symm
            have aw15 : w15.toInt = v6_48.toInt + 1 := by rw [← hw15]; first | exact va1 (Int.lt_of_le_of_lt h_v6_48.2 (by decide)) | exact va1 (by omega)
            refine lv_goto (tgt := 48) hx hb dX11_lend_164 (by decide) ?_
            exact ih48 (v4_48) (v5_48) (w15) nu48_ _ _ _ (by first | exact ms_up hm_48 aw15 h_v6_48.2 | exact ms_lt hm_48 (by omega) (by omega) | omega) (by first | exact rg_up aw15 h_v6_48 (by omega) | omega)  ok hP  kq48_0 hF hS (lv_sub hl [0, 1, 2, 3, 4, 5, 6] rfl)
          · have hF := (if_neg c_14).symm.trans hF
            have c_14 : ¬ v6_48.toInt = y13.toInt := il_ne c_14
            refine lv_aload_n hx hb dX11_lend_69 rfl (lv_at hl 5 rfl) ?_
            refine va_get (D := (dC, dI)) (ci := 11) (v := .ref (ad 4)) (C := RX11) (T := TX11) (N := 11) hx hb hts inG11 hown hK hP 0 (gX_0 cs ad nu48_) rfl 3 (by decide) (hts _ (List.mem_cons_of_mem _ mw_2_161)) (fun _ h9 => h9) rfl dX11_lend_70 ?_
            refine va_get (D := (dC, dI)) (ci := 10) (v := .ref (ad 34)) (C := RX10) (T := TX10) (N := 8) hx hb hts inG10 hown hK hP 4 (gX_4 cs ad nu48_) rfl 0 (by decide) (hts _ (List.mem_cons_of_mem _ mw_1_147)) (fun _ h9 => h9) rfl dX11_lend_73 ?_
            refine lv_iload hx hb dX11_lend_76 (lv_at hl 0 rfl) ?_
            refine va_iald hx hb hK hP 34 0 (gX_34 cs ad nu48_) rfl (show vp_in v6_48 7 from vi_of (by omega) (by omega)) dX11_lend_78 ?_
            refine lv_topi (fun y16 ey16 => ?_)
            have hF := mi_let hF ey16
            have by16 : y16.toInt = (nu48_ 34 v6_48.toNatClampNeg).toInt := congrArg Int32.toInt ey16
            refine lv_iconst (v := 3) hx hb dX11_lend_79 (by decide) ?_
            refine lv_icmp_ne (tgt := 95) hx hb dX11_lend_80 (by decide) (fun c_17 => ?_) (fun c_17 => ?_)
            · have hF := (if_neg c_17).symm.trans hF
              have c_17 : ¬ y16.toInt = 3 := il_ne c_17
              refine lv_aload_n hx hb dX11_lend_95 rfl (lv_at hl 5 rfl) ?_
              refine va_get (D := (dC, dI)) (ci := 11) (v := .ref (ad 32)) (C := RX11) (T := TX11) (N := 11) hx hb hts inG11 hown hK hP 0 (gX_0 cs ad nu48_) rfl 6 (by decide) (hts _ (List.mem_cons_of_mem _ mw_2_164)) (fun _ h9 => h9) rfl dX11_lend_96 ?_
              refine lv_aload_n hx hb dX11_lend_99 rfl (lv_at hl 5 rfl) ?_
              refine va_get (D := (dC, dI)) (ci := 11) (v := .ref (ad 4)) (C := RX11) (T := TX11) (N := 11) hx hb hts inG11 hown hK hP 0 (gX_0 cs ad nu48_) rfl 3 (by decide) (hts _ (List.mem_cons_of_mem _ mw_2_161)) (fun _ h9 => h9) rfl dX11_lend_100 ?_
              refine lv_iload hx hb dX11_lend_103 (lv_at hl 0 rfl) ?_
              refine lv_bipush (v := 99) hx hb dX11_lend_105 (by decide) ?_
              have hFc := fr_all (wR_D nu48_ hD) hS hA
              refine va_callv (va_runV (As := [.ref (ad 4), .int v6_48, .int 99]) (rest := []) ⟨hx, hb, hml, hown, hts⟩ (sx_walkWithLoan l dC dI cs ad nu48_ ok H hP ((wR_D nu48_ hD).weaken (fun _ _ _ _ => trivial)) v6_48 99 (by have h52 : (99 : Int32).toInt = 99 := rfl; omega)) (cwV 3 hts (wU_V mw_4_89 mw_4_86 mw_4_87 mw_4_88 mw_1_8) rfl rfl rfl (by decide +kernel) ⟨Nat.le_of_ble_eq_true rfl, Nat.le_of_ble_eq_true rfl⟩) ⟨sz_c, va_recv hK hP (ci := 5) (q0 := 32) rfl (gX_32 cs ad nu48_), sz_m hK hz⟩ rfl rfl hl.1 rfl (lv_room (Nat.le_of_ble_eq_true rfl)) dX11_lend_107 ⟨Nat.zero_le _, Nat.zero_le _⟩) hS (fun q _ h => hFc q h) hFc (fun xi18 t H18 locs ht hvm hw18 hB hz1 hk1 hS => ?_)
              have hP : va_P (dC, dI) vwCl (wR 157 ad (EX cs ad) xi18) H18 := by rw [← ht]; exact hB
              obtain ⟨hfe18, ok, hw18, hkp18_0⟩ := hw18
              have hF := mi_let hF hfe18
              have kp19 : (∀ k f : Nat, Nat.testBit 510 (gpX k f) = true → xi18 k f = mu k f) := kp_t hkp18_0 (by decide) kq48_0
              refine lv_aload_n hx hb dX11_lend_110 rfl (lv_at hl 5 rfl) ?_
              refine va_get (D := (dC, dI)) (ci := 11) (v := .ref (ad 32)) (C := RX11) (T := TX11) (N := 11) hx hb hts inG11 hown hK hP 0 (gX_0 cs ad xi18) rfl 6 (by decide) (hts _ (List.mem_cons_of_mem _ mw_2_164)) (fun _ h9 => h9) rfl dX11_lend_111 ?_
              refine va_get (D := (dC, dI)) (ci := 5) (v := .ref (ad 55)) (C := RX5) (T := TX5) (N := 15) hx hb hts inG5 hown hK hP 32 (gX_32 cs ad xi18) rfl 3 (by decide) (hts _ (List.mem_cons_of_mem _ mw_2_50)) (fun _ h9 => h9) rfl dX11_lend_114 ?_
              refine va_get (D := (dC, dI)) (ci := 0) (v := .int (xi18 55 3)) (C := RX0) (T := TX0) (N := 4) hx hb hts inG0 hown hK hP 55 (gX_55 cs ad xi18) rfl 3 (by decide) (hts _ (List.mem_cons_of_mem _ mw_2_36)) (fun _ h9 => h9) rfl dX11_lend_117 ?_
              refine lv_topi (fun y20 ey20 => ?_)
              have hF := mi_let hF ey20
              have by20 : y20.toInt = (xi18 55 3).toInt := congrArg Int32.toInt ey20
              have gy20 : 0 ≤ y20.toInt ∧ y20.toInt ≤ 1 := by rw [ey20]; exact rX_55_3 ok
              refine lv_if_eq (tgt := 161) hx hb dX11_lend_120 (by decide) (fun c_21 => ?_) (fun c_21 => ?_)
              · have hF := (if_pos c_21).symm.trans hF
                have c_21 : y20.toInt = 0 := il_eq c_21
                refine lv_iinc (v := (v6_48 + 1)) (lv' := [(6, .int (v6_48 + 1)), (5, .int v5_48), (4, .int v4_48), (3, .ref (ad (61 + vk.toNatClampNeg))), (2, .int 0), (0, .ref (ad 0)), (1, .int vk)]) hx hb dX11_lend_161 hl (k := 0) rfl rfl (by decide) rfl (fun ls hl => ?_)
                refine loc_gen (P := fun w9 => lv_has ls 7 [(6, .int w9), (5, .int v5_48), (4, .int v4_48), (3, .ref (ad (61 + vk.toNatClampNeg))), (2, .int 0), (0, .ref (ad 0)), (1, .int vk)]) (v6_48 + 1) hl (fun w22 hw22 hl => ?_)
                have hl : lv_has ls 7 [(6, .int w22), (5, .int v5_48), (4, .int v4_48), (3, .ref (ad (61 + vk.toNatClampNeg))), (2, .int 0), (0, .ref (ad 0)), (1, .int vk)] := hl
                have hF := mi_let hF hw22.symm
                have aw22 : w22.toInt = v6_48.toInt + 1 := by rw [← hw22]; first | exact va1 (Int.lt_of_le_of_lt h_v6_48.2 (by decide)) | exact va1 (by omega)
                refine lv_goto (tgt := 48) hx hb dX11_lend_164 (by decide) ?_
                exact ih48 (v4_48) (v5_48) (w22) xi18 _ _ _ (by first | exact ms_up hm_48 aw22 h_v6_48.2 | exact ms_lt hm_48 (by omega) (by omega) | omega) (by first | exact rg_up aw22 h_v6_48 (by omega) | omega)  ok hP  kp19 hF hS (lv_sub hl [0, 1, 2, 3, 4, 5, 6] rfl)
              · have hF := (if_neg c_21).symm.trans hF
                have c_21 : ¬ y20.toInt = 0 := il_ne c_21
                refine lv_iload hx hb dX11_lend_123 (lv_at hl 2 rfl) ?_
                refine lv_bipush (v := (-9)) hx hb dX11_lend_125 (by decide) ?_
                refine lv_icmp_eq (tgt := 145) hx hb dX11_lend_127 (by decide) (fun c_23 => ?_) (fun c_23 => ?_)
                · have hF := (if_pos c_23).symm.trans hF
                  have c_23 : v4_48.toInt = -9 := il_eq c_23
                  refine lv_iload hx hb dX11_lend_145 (lv_at hl 0 rfl) ?_
                  refine lv_istore (lv' := [(4, .int v6_48), (6, .int v6_48), (5, .int v5_48), (3, .ref (ad (61 + vk.toNatClampNeg))), (2, .int 0), (0, .ref (ad 0)), (1, .int vk)]) hx hb dX11_lend_147 hl (by decide) rfl (fun ls hl => ?_)
                  refine lv_aload_n hx hb dX11_lend_149 rfl (lv_at hl 5 rfl) ?_
                  refine va_get (D := (dC, dI)) (ci := 11) (v := .ref (ad 32)) (C := RX11) (T := TX11) (N := 11) hx hb hts inG11 hown hK hP 0 (gX_0 cs ad xi18) rfl 6 (by decide) (hts _ (List.mem_cons_of_mem _ mw_2_164)) (fun _ h9 => h9) rfl dX11_lend_150 ?_
                  refine va_get (D := (dC, dI)) (ci := 5) (v := .ref (ad 55)) (C := RX5) (T := TX5) (N := 15) hx hb hts inG5 hown hK hP 32 (gX_32 cs ad xi18) rfl 3 (by decide) (hts _ (List.mem_cons_of_mem _ mw_2_50)) (fun _ h9 => h9) rfl dX11_lend_153 ?_
                  refine va_get (D := (dC, dI)) (ci := 0) (v := .int (xi18 55 2)) (C := RX0) (T := TX0) (N := 4) hx hb hts inG0 hown hK hP 55 (gX_55 cs ad xi18) rfl 2 (by decide) (hts _ (List.mem_cons_of_mem _ mw_2_33)) (fun _ h9 => h9) rfl dX11_lend_156 ?_
                  refine lv_topi (fun y24 ey24 => ?_)
                  have hF := mi_let hF ey24
                  have by24 : y24.toInt = (xi18 55 2).toInt := congrArg Int32.toInt ey24
                  refine lv_istore (lv' := [(5, .int y24), (4, .int v6_48), (6, .int v6_48), (3, .ref (ad (61 + vk.toNatClampNeg))), (2, .int 0), (0, .ref (ad 0)), (1, .int vk)]) hx hb dX11_lend_159 hl (by decide) rfl (fun ls hl => ?_)
                  refine lv_iinc (v := (v6_48 + 1)) (lv' := [(6, .int (v6_48 + 1)), (5, .int y24), (4, .int v6_48), (3, .ref (ad (61 + vk.toNatClampNeg))), (2, .int 0), (0, .ref (ad 0)), (1, .int vk)]) hx hb dX11_lend_161 hl (k := 2) rfl rfl (by decide) rfl (fun ls hl => ?_)
                  refine loc_gen (P := fun w9 => lv_has ls 7 [(6, .int w9), (5, .int y24), (4, .int v6_48), (3, .ref (ad (61 + vk.toNatClampNeg))), (2, .int 0), (0, .ref (ad 0)), (1, .int vk)]) (v6_48 + 1) hl (fun w25 hw25 hl => ?_)
                  have hl : lv_has ls 7 [(6, .int w25), (5, .int y24), (4, .int v6_48), (3, .ref (ad (61 + vk.toNatClampNeg))), (2, .int 0), (0, .ref (ad 0)), (1, .int vk)] := hl
                  have hF := mi_let hF hw25.symm
                  have aw25 : w25.toInt = v6_48.toInt + 1 := by rw [← hw25]; first | exact va1 (Int.lt_of_le_of_lt h_v6_48.2 (by decide)) | exact va1 (by omega)
                  refine lv_goto (tgt := 48) hx hb dX11_lend_164 (by decide) ?_
                  exact ih48 (v6_48) (y24) (w25) xi18 _ _ _ (by first | exact ms_up hm_48 aw25 h_v6_48.2 | exact ms_lt hm_48 (by omega) (by omega) | omega) (by first | exact rg_up aw25 h_v6_48 (by omega) | omega)  ok hP  kp19 hF hS (lv_sub hl [0, 1, 2, 3, 4, 5, 6] rfl)
                · have hF := (if_neg c_23).symm.trans hF
                  have c_23 : ¬ v4_48.toInt = -9 := il_ne c_23
                  refine lv_aload_n hx hb dX11_lend_130 rfl (lv_at hl 5 rfl) ?_
                  refine va_get (D := (dC, dI)) (ci := 11) (v := .ref (ad 32)) (C := RX11) (T := TX11) (N := 11) hx hb hts inG11 hown hK hP 0 (gX_0 cs ad xi18) rfl 6 (by decide) (hts _ (List.mem_cons_of_mem _ mw_2_164)) (fun _ h9 => h9) rfl dX11_lend_131 ?_
                  refine va_get (D := (dC, dI)) (ci := 5) (v := .ref (ad 55)) (C := RX5) (T := TX5) (N := 15) hx hb hts inG5 hown hK hP 32 (gX_32 cs ad xi18) rfl 3 (by decide) (hts _ (List.mem_cons_of_mem _ mw_2_50)) (fun _ h9 => h9) rfl dX11_lend_134 ?_
                  refine va_get (D := (dC, dI)) (ci := 0) (v := .int (xi18 55 2)) (C := RX0) (T := TX0) (N := 4) hx hb hts inG0 hown hK hP 55 (gX_55 cs ad xi18) rfl 2 (by decide) (hts _ (List.mem_cons_of_mem _ mw_2_33)) (fun _ h9 => h9) rfl dX11_lend_137 ?_
                  refine lv_topi (fun y26 ey26 => ?_)
                  have hF := mi_let hF ey26
                  have by26 : y26.toInt = (xi18 55 2).toInt := congrArg Int32.toInt ey26
                  refine lv_iload hx hb dX11_lend_140 (lv_at hl 1 rfl) ?_
                  refine lv_icmp_ge (tgt := 161) hx hb dX11_lend_142 (by decide) (fun c_27 => ?_) (fun c_27 => ?_)
                  · have hF := (if_pos c_27).symm.trans hF
                    have c_27 : v5_48.toInt ≤ y26.toInt := il_le c_27
                    refine lv_iinc (v := (v6_48 + 1)) (lv' := [(6, .int (v6_48 + 1)), (5, .int v5_48), (4, .int v4_48), (3, .ref (ad (61 + vk.toNatClampNeg))), (2, .int 0), (0, .ref (ad 0)), (1, .int vk)]) hx hb dX11_lend_161 hl (k := 0) rfl rfl (by decide) rfl (fun ls hl => ?_)
                    refine loc_gen (P := fun w9 => lv_has ls 7 [(6, .int w9), (5, .int v5_48), (4, .int v4_48), (3, .ref (ad (61 + vk.toNatClampNeg))), (2, .int 0), (0, .ref (ad 0)), (1, .int vk)]) (v6_48 + 1) hl (fun w28 hw28 hl => ?_)
                    have hl : lv_has ls 7 [(6, .int w28), (5, .int v5_48), (4, .int v4_48), (3, .ref (ad (61 + vk.toNatClampNeg))), (2, .int 0), (0, .ref (ad 0)), (1, .int vk)] := hl
                    have hF := mi_let hF hw28.symm
                    have aw28 : w28.toInt = v6_48.toInt + 1 := by rw [← hw28]; first | exact va1 (Int.lt_of_le_of_lt h_v6_48.2 (by decide)) | exact va1 (by omega)
                    refine lv_goto (tgt := 48) hx hb dX11_lend_164 (by decide) ?_
                    exact ih48 (v4_48) (v5_48) (w28) xi18 _ _ _ (by first | exact ms_up hm_48 aw28 h_v6_48.2 | exact ms_lt hm_48 (by omega) (by omega) | omega) (by first | exact rg_up aw28 h_v6_48 (by omega) | omega)  ok hP  kp19 hF hS (lv_sub hl [0, 1, 2, 3, 4, 5, 6] rfl)
                  · have hF := (if_neg c_27).symm.trans hF
                    have c_27 : y26.toInt < v5_48.toInt := il_nle c_27
                    refine lv_iload hx hb dX11_lend_145 (lv_at hl 0 rfl) ?_
                    refine lv_istore (lv' := [(4, .int v6_48), (6, .int v6_48), (5, .int v5_48), (3, .ref (ad (61 + vk.toNatClampNeg))), (2, .int 0), (0, .ref (ad 0)), (1, .int vk)]) hx hb dX11_lend_147 hl (by decide) rfl (fun ls hl => ?_)
                    refine lv_aload_n hx hb dX11_lend_149 rfl (lv_at hl 5 rfl) ?_
                    refine va_get (D := (dC, dI)) (ci := 11) (v := .ref (ad 32)) (C := RX11) (T := TX11) (N := 11) hx hb hts inG11 hown hK hP 0 (gX_0 cs ad xi18) rfl 6 (by decide) (hts _ (List.mem_cons_of_mem _ mw_2_164)) (fun _ h9 => h9) rfl dX11_lend_150 ?_
                    refine va_get (D := (dC, dI)) (ci := 5) (v := .ref (ad 55)) (C := RX5) (T := TX5) (N := 15) hx hb hts inG5 hown hK hP 32 (gX_32 cs ad xi18) rfl 3 (by decide) (hts _ (List.mem_cons_of_mem _ mw_2_50)) (fun _ h9 => h9) rfl dX11_lend_153 ?_
                    refine va_get (D := (dC, dI)) (ci := 0) (v := .int (xi18 55 2)) (C := RX0) (T := TX0) (N := 4) hx hb hts inG0 hown hK hP 55 (gX_55 cs ad xi18) rfl 2 (by decide) (hts _ (List.mem_cons_of_mem _ mw_2_33)) (fun _ h9 => h9) rfl dX11_lend_156 ?_
                    refine lq_i y26 ey26.symm ?_
                    refine lv_istore (lv' := [(5, .int y26), (4, .int v6_48), (6, .int v6_48), (3, .ref (ad (61 + vk.toNatClampNeg))), (2, .int 0), (0, .ref (ad 0)), (1, .int vk)]) hx hb dX11_lend_159 hl (by decide) rfl (fun ls hl => ?_)
                    refine lv_iinc (v := (v6_48 + 1)) (lv' := [(6, .int (v6_48 + 1)), (5, .int y26), (4, .int v6_48), (3, .ref (ad (61 + vk.toNatClampNeg))), (2, .int 0), (0, .ref (ad 0)), (1, .int vk)]) hx hb dX11_lend_161 hl (k := 2) rfl rfl (by decide) rfl (fun ls hl => ?_)
                    refine loc_gen (P := fun w9 => lv_has ls 7 [(6, .int w9), (5, .int y26), (4, .int v6_48), (3, .ref (ad (61 + vk.toNatClampNeg))), (2, .int 0), (0, .ref (ad 0)), (1, .int vk)]) (v6_48 + 1) hl (fun w29 hw29 hl => ?_)
                    have hl : lv_has ls 7 [(6, .int w29), (5, .int y26), (4, .int v6_48), (3, .ref (ad (61 + vk.toNatClampNeg))), (2, .int 0), (0, .ref (ad 0)), (1, .int vk)] := hl
                    have hF := mi_let hF hw29.symm
                    have aw29 : w29.toInt = v6_48.toInt + 1 := by rw [← hw29]; first | exact va1 (Int.lt_of_le_of_lt h_v6_48.2 (by decide)) | exact va1 (by omega)
                    refine lv_goto (tgt := 48) hx hb dX11_lend_164 (by decide) ?_
                    exact ih48 (v6_48) (y26) (w29) xi18 _ _ _ (by first | exact ms_up hm_48 aw29 h_v6_48.2 | exact ms_lt hm_48 (by omega) (by omega) | omega) (by first | exact rg_up aw29 h_v6_48 (by omega) | omega)  ok hP  kp19 hF hS (lv_sub hl [0, 1, 2, 3, 4, 5, 6] rfl)
            · have hF := (if_pos c_17).symm.trans hF
              have c_17 : y16.toInt = 3 := il_eq c_17
              refine lv_iload hx hb dX11_lend_83 (lv_at hl 0 rfl) ?_
              refine lv_aload_n hx hb dX11_lend_85 rfl (lv_at hl 3 rfl) ?_
              refine va_get (D := (dC, dI)) (ci := 3) (v := .int (nu48_ (61 + vk.toNatClampNeg) 1)) (C := RX3) (T := TX3) (N := 10) hx hb hts inG3 hown hK hP (61 + vk.toNatClampNeg) (gX_letter cs ad nu48_ (61 + vk.toNatClampNeg) hk3.1 hk3.2) rfl 1 (by decide) (hts _ (List.mem_cons_of_mem _ mw_1_56)) (fun _ h9 => h9) rfl dX11_lend_86 ?_
              refine lv_topi (fun y30 ey30 => ?_)
              have hF := mi_let hF ey30
              have by30 : y30.toInt = (nu48_ (61 + vk.toNatClampNeg) 1).toInt := congrArg Int32.toInt ey30
              have gy30 : 0 ≤ y30.toInt ∧ y30.toInt ≤ 6 := by rw [ey30]; exact rX_letter_1 ok (61 + vk.toNatClampNeg) hk3.1 hk3.2
              refine lv_icmp_eq (tgt := 95) hx hb dX11_lend_89 (by decide) (fun c_31 => ?_) (fun c_31 => ?_)
              · have hF := (if_pos c_31).symm.trans hF
                have c_31 : v6_48.toInt = y30.toInt := il_eq c_31
                refine lv_aload_n hx hb dX11_lend_95 rfl (lv_at hl 5 rfl) ?_
                refine va_get (D := (dC, dI)) (ci := 11) (v := .ref (ad 32)) (C := RX11) (T := TX11) (N := 11) hx hb hts inG11 hown hK hP 0 (gX_0 cs ad nu48_) rfl 6 (by decide) (hts _ (List.mem_cons_of_mem _ mw_2_164)) (fun _ h9 => h9) rfl dX11_lend_96 ?_
                refine lv_aload_n hx hb dX11_lend_99 rfl (lv_at hl 5 rfl) ?_
                refine va_get (D := (dC, dI)) (ci := 11) (v := .ref (ad 4)) (C := RX11) (T := TX11) (N := 11) hx hb hts inG11 hown hK hP 0 (gX_0 cs ad nu48_) rfl 3 (by decide) (hts _ (List.mem_cons_of_mem _ mw_2_161)) (fun _ h9 => h9) rfl dX11_lend_100 ?_
                refine lv_iload hx hb dX11_lend_103 (lv_at hl 0 rfl) ?_
                refine lv_bipush (v := 99) hx hb dX11_lend_105 (by decide) ?_
                have hFc := fr_all (wR_D nu48_ hD) hS hA
                refine va_callv (va_runV (As := [.ref (ad 4), .int v6_48, .int 99]) (rest := []) ⟨hx, hb, hml, hown, hts⟩ (sx_walkWithLoan l dC dI cs ad nu48_ ok H hP ((wR_D nu48_ hD).weaken (fun _ _ _ _ => trivial)) v6_48 99 (by have h52 : (99 : Int32).toInt = 99 := rfl; omega)) (cwV 3 hts (wU_V mw_4_89 mw_4_86 mw_4_87 mw_4_88 mw_1_8) rfl rfl rfl (by decide +kernel) ⟨Nat.le_of_ble_eq_true rfl, Nat.le_of_ble_eq_true rfl⟩) ⟨sz_c, va_recv hK hP (ci := 5) (q0 := 32) rfl (gX_32 cs ad nu48_), sz_m hK hz⟩ rfl rfl hl.1 rfl (lv_room (Nat.le_of_ble_eq_true rfl)) dX11_lend_107 ⟨Nat.zero_le _, Nat.zero_le _⟩) hS (fun q _ h => hFc q h) hFc (fun xi32 t H32 locs ht hvm hw32 hB hz1 hk1 hS => ?_)
                have hP : va_P (dC, dI) vwCl (wR 157 ad (EX cs ad) xi32) H32 := by rw [← ht]; exact hB
                obtain ⟨hfe32, ok, hw32, hkp32_0⟩ := hw32
                have hF := mi_let hF hfe32
                have kp33 : (∀ k f : Nat, Nat.testBit 510 (gpX k f) = true → xi32 k f = mu k f) := kp_t hkp32_0 (by decide) kq48_0
                refine lv_aload_n hx hb dX11_lend_110 rfl (lv_at hl 5 rfl) ?_
                refine va_get (D := (dC, dI)) (ci := 11) (v := .ref (ad 32)) (C := RX11) (T := TX11) (N := 11) hx hb hts inG11 hown hK hP 0 (gX_0 cs ad xi32) rfl 6 (by decide) (hts _ (List.mem_cons_of_mem _ mw_2_164)) (fun _ h9 => h9) rfl dX11_lend_111 ?_
                refine va_get (D := (dC, dI)) (ci := 5) (v := .ref (ad 55)) (C := RX5) (T := TX5) (N := 15) hx hb hts inG5 hown hK hP 32 (gX_32 cs ad xi32) rfl 3 (by decide) (hts _ (List.mem_cons_of_mem _ mw_2_50)) (fun _ h9 => h9) rfl dX11_lend_114 ?_
                refine va_get (D := (dC, dI)) (ci := 0) (v := .int (xi32 55 3)) (C := RX0) (T := TX0) (N := 4) hx hb hts inG0 hown hK hP 55 (gX_55 cs ad xi32) rfl 3 (by decide) (hts _ (List.mem_cons_of_mem _ mw_2_36)) (fun _ h9 => h9) rfl dX11_lend_117 ?_
                refine lv_topi (fun y34 ey34 => ?_)
                have hF := mi_let hF ey34
                have by34 : y34.toInt = (xi32 55 3).toInt := congrArg Int32.toInt ey34
                have gy34 : 0 ≤ y34.toInt ∧ y34.toInt ≤ 1 := by rw [ey34]; exact rX_55_3 ok
                refine lv_if_eq (tgt := 161) hx hb dX11_lend_120 (by decide) (fun c_35 => ?_) (fun c_35 => ?_)
                · have hF := (if_pos c_35).symm.trans hF
                  have c_35 : y34.toInt = 0 := il_eq c_35
                  refine lv_iinc (v := (v6_48 + 1)) (lv' := [(6, .int (v6_48 + 1)), (5, .int v5_48), (4, .int v4_48), (3, .ref (ad (61 + vk.toNatClampNeg))), (2, .int 0), (0, .ref (ad 0)), (1, .int vk)]) hx hb dX11_lend_161 hl (k := 0) rfl rfl (by decide) rfl (fun ls hl => ?_)
                  refine loc_gen (P := fun w9 => lv_has ls 7 [(6, .int w9), (5, .int v5_48), (4, .int v4_48), (3, .ref (ad (61 + vk.toNatClampNeg))), (2, .int 0), (0, .ref (ad 0)), (1, .int vk)]) (v6_48 + 1) hl (fun w36 hw36 hl => ?_)
                  have hl : lv_has ls 7 [(6, .int w36), (5, .int v5_48), (4, .int v4_48), (3, .ref (ad (61 + vk.toNatClampNeg))), (2, .int 0), (0, .ref (ad 0)), (1, .int vk)] := hl
                  have hF := mi_let hF hw36.symm
                  have aw36 : w36.toInt = v6_48.toInt + 1 := by rw [← hw36]; first | exact va1 (Int.lt_of_le_of_lt h_v6_48.2 (by decide)) | exact va1 (by omega)
                  refine lv_goto (tgt := 48) hx hb dX11_lend_164 (by decide) ?_
                  exact ih48 (v4_48) (v5_48) (w36) xi32 _ _ _ (by first | exact ms_up hm_48 aw36 h_v6_48.2 | exact ms_lt hm_48 (by omega) (by omega) | omega) (by first | exact rg_up aw36 h_v6_48 (by omega) | omega)  ok hP  kp33 hF hS (lv_sub hl [0, 1, 2, 3, 4, 5, 6] rfl)
                · have hF := (if_neg c_35).symm.trans hF
                  have c_35 : ¬ y34.toInt = 0 := il_ne c_35
                  refine lv_iload hx hb dX11_lend_123 (lv_at hl 2 rfl) ?_
                  refine lv_bipush (v := (-9)) hx hb dX11_lend_125 (by decide) ?_
                  refine lv_icmp_eq (tgt := 145) hx hb dX11_lend_127 (by decide) (fun c_37 => ?_) (fun c_37 => ?_)
                  · have hF := (if_pos c_37).symm.trans hF
                    have c_37 : v4_48.toInt = -9 := il_eq c_37
                    refine lv_iload hx hb dX11_lend_145 (lv_at hl 0 rfl) ?_
                    refine lv_istore (lv' := [(4, .int v6_48), (6, .int v6_48), (5, .int v5_48), (3, .ref (ad (61 + vk.toNatClampNeg))), (2, .int 0), (0, .ref (ad 0)), (1, .int vk)]) hx hb dX11_lend_147 hl (by decide) rfl (fun ls hl => ?_)
                    refine lv_aload_n hx hb dX11_lend_149 rfl (lv_at hl 5 rfl) ?_
                    refine va_get (D := (dC, dI)) (ci := 11) (v := .ref (ad 32)) (C := RX11) (T := TX11) (N := 11) hx hb hts inG11 hown hK hP 0 (gX_0 cs ad xi32) rfl 6 (by decide) (hts _ (List.mem_cons_of_mem _ mw_2_164)) (fun _ h9 => h9) rfl dX11_lend_150 ?_
                    refine va_get (D := (dC, dI)) (ci := 5) (v := .ref (ad 55)) (C := RX5) (T := TX5) (N := 15) hx hb hts inG5 hown hK hP 32 (gX_32 cs ad xi32) rfl 3 (by decide) (hts _ (List.mem_cons_of_mem _ mw_2_50)) (fun _ h9 => h9) rfl dX11_lend_153 ?_
                    refine va_get (D := (dC, dI)) (ci := 0) (v := .int (xi32 55 2)) (C := RX0) (T := TX0) (N := 4) hx hb hts inG0 hown hK hP 55 (gX_55 cs ad xi32) rfl 2 (by decide) (hts _ (List.mem_cons_of_mem _ mw_2_33)) (fun _ h9 => h9) rfl dX11_lend_156 ?_
                    refine lv_topi (fun y38 ey38 => ?_)
                    have hF := mi_let hF ey38
                    have by38 : y38.toInt = (xi32 55 2).toInt := congrArg Int32.toInt ey38
                    refine lv_istore (lv' := [(5, .int y38), (4, .int v6_48), (6, .int v6_48), (3, .ref (ad (61 + vk.toNatClampNeg))), (2, .int 0), (0, .ref (ad 0)), (1, .int vk)]) hx hb dX11_lend_159 hl (by decide) rfl (fun ls hl => ?_)
                    refine lv_iinc (v := (v6_48 + 1)) (lv' := [(6, .int (v6_48 + 1)), (5, .int y38), (4, .int v6_48), (3, .ref (ad (61 + vk.toNatClampNeg))), (2, .int 0), (0, .ref (ad 0)), (1, .int vk)]) hx hb dX11_lend_161 hl (k := 2) rfl rfl (by decide) rfl (fun ls hl => ?_)
                    refine loc_gen (P := fun w9 => lv_has ls 7 [(6, .int w9), (5, .int y38), (4, .int v6_48), (3, .ref (ad (61 + vk.toNatClampNeg))), (2, .int 0), (0, .ref (ad 0)), (1, .int vk)]) (v6_48 + 1) hl (fun w39 hw39 hl => ?_)
                    have hl : lv_has ls 7 [(6, .int w39), (5, .int y38), (4, .int v6_48), (3, .ref (ad (61 + vk.toNatClampNeg))), (2, .int 0), (0, .ref (ad 0)), (1, .int vk)] := hl
                    have hF := mi_let hF hw39.symm
                    have aw39 : w39.toInt = v6_48.toInt + 1 := by rw [← hw39]; first | exact va1 (Int.lt_of_le_of_lt h_v6_48.2 (by decide)) | exact va1 (by omega)
                    refine lv_goto (tgt := 48) hx hb dX11_lend_164 (by decide) ?_
                    exact ih48 (v6_48) (y38) (w39) xi32 _ _ _ (by first | exact ms_up hm_48 aw39 h_v6_48.2 | exact ms_lt hm_48 (by omega) (by omega) | omega) (by first | exact rg_up aw39 h_v6_48 (by omega) | omega)  ok hP  kp33 hF hS (lv_sub hl [0, 1, 2, 3, 4, 5, 6] rfl)
                  · have hF := (if_neg c_37).symm.trans hF
                    have c_37 : ¬ v4_48.toInt = -9 := il_ne c_37
                    refine lv_aload_n hx hb dX11_lend_130 rfl (lv_at hl 5 rfl) ?_
                    refine va_get (D := (dC, dI)) (ci := 11) (v := .ref (ad 32)) (C := RX11) (T := TX11) (N := 11) hx hb hts inG11 hown hK hP 0 (gX_0 cs ad xi32) rfl 6 (by decide) (hts _ (List.mem_cons_of_mem _ mw_2_164)) (fun _ h9 => h9) rfl dX11_lend_131 ?_
                    refine va_get (D := (dC, dI)) (ci := 5) (v := .ref (ad 55)) (C := RX5) (T := TX5) (N := 15) hx hb hts inG5 hown hK hP 32 (gX_32 cs ad xi32) rfl 3 (by decide) (hts _ (List.mem_cons_of_mem _ mw_2_50)) (fun _ h9 => h9) rfl dX11_lend_134 ?_
                    refine va_get (D := (dC, dI)) (ci := 0) (v := .int (xi32 55 2)) (C := RX0) (T := TX0) (N := 4) hx hb hts inG0 hown hK hP 55 (gX_55 cs ad xi32) rfl 2 (by decide) (hts _ (List.mem_cons_of_mem _ mw_2_33)) (fun _ h9 => h9) rfl dX11_lend_137 ?_
                    refine lv_topi (fun y40 ey40 => ?_)
                    have hF := mi_let hF ey40
                    have by40 : y40.toInt = (xi32 55 2).toInt := congrArg Int32.toInt ey40
                    refine lv_iload hx hb dX11_lend_140 (lv_at hl 1 rfl) ?_
                    refine lv_icmp_ge (tgt := 161) hx hb dX11_lend_142 (by decide) (fun c_41 => ?_) (fun c_41 => ?_)
                    · have hF := (if_pos c_41).symm.trans hF
                      have c_41 : v5_48.toInt ≤ y40.toInt := il_le c_41
                      refine lv_iinc (v := (v6_48 + 1)) (lv' := [(6, .int (v6_48 + 1)), (5, .int v5_48), (4, .int v4_48), (3, .ref (ad (61 + vk.toNatClampNeg))), (2, .int 0), (0, .ref (ad 0)), (1, .int vk)]) hx hb dX11_lend_161 hl (k := 0) rfl rfl (by decide) rfl (fun ls hl => ?_)
                      refine loc_gen (P := fun w9 => lv_has ls 7 [(6, .int w9), (5, .int v5_48), (4, .int v4_48), (3, .ref (ad (61 + vk.toNatClampNeg))), (2, .int 0), (0, .ref (ad 0)), (1, .int vk)]) (v6_48 + 1) hl (fun w42 hw42 hl => ?_)
                      have hl : lv_has ls 7 [(6, .int w42), (5, .int v5_48), (4, .int v4_48), (3, .ref (ad (61 + vk.toNatClampNeg))), (2, .int 0), (0, .ref (ad 0)), (1, .int vk)] := hl
                      have hF := mi_let hF hw42.symm
                      have aw42 : w42.toInt = v6_48.toInt + 1 := by rw [← hw42]; first | exact va1 (Int.lt_of_le_of_lt h_v6_48.2 (by decide)) | exact va1 (by omega)
                      refine lv_goto (tgt := 48) hx hb dX11_lend_164 (by decide) ?_
                      exact ih48 (v4_48) (v5_48) (w42) xi32 _ _ _ (by first | exact ms_up hm_48 aw42 h_v6_48.2 | exact ms_lt hm_48 (by omega) (by omega) | omega) (by first | exact rg_up aw42 h_v6_48 (by omega) | omega)  ok hP  kp33 hF hS (lv_sub hl [0, 1, 2, 3, 4, 5, 6] rfl)
                    · have hF := (if_neg c_41).symm.trans hF
                      have c_41 : y40.toInt < v5_48.toInt := il_nle c_41
                      refine lv_iload hx hb dX11_lend_145 (lv_at hl 0 rfl) ?_
                      refine lv_istore (lv' := [(4, .int v6_48), (6, .int v6_48), (5, .int v5_48), (3, .ref (ad (61 + vk.toNatClampNeg))), (2, .int 0), (0, .ref (ad 0)), (1, .int vk)]) hx hb dX11_lend_147 hl (by decide) rfl (fun ls hl => ?_)
                      refine lv_aload_n hx hb dX11_lend_149 rfl (lv_at hl 5 rfl) ?_
                      refine va_get (D := (dC, dI)) (ci := 11) (v := .ref (ad 32)) (C := RX11) (T := TX11) (N := 11) hx hb hts inG11 hown hK hP 0 (gX_0 cs ad xi32) rfl 6 (by decide) (hts _ (List.mem_cons_of_mem _ mw_2_164)) (fun _ h9 => h9) rfl dX11_lend_150 ?_
                      refine va_get (D := (dC, dI)) (ci := 5) (v := .ref (ad 55)) (C := RX5) (T := TX5) (N := 15) hx hb hts inG5 hown hK hP 32 (gX_32 cs ad xi32) rfl 3 (by decide) (hts _ (List.mem_cons_of_mem _ mw_2_50)) (fun _ h9 => h9) rfl dX11_lend_153 ?_
                      refine va_get (D := (dC, dI)) (ci := 0) (v := .int (xi32 55 2)) (C := RX0) (T := TX0) (N := 4) hx hb hts inG0 hown hK hP 55 (gX_55 cs ad xi32) rfl 2 (by decide) (hts _ (List.mem_cons_of_mem _ mw_2_33)) (fun _ h9 => h9) rfl dX11_lend_156 ?_
                      refine lq_i y40 ey40.symm ?_
                      refine lv_istore (lv' := [(5, .int y40), (4, .int v6_48), (6, .int v6_48), (3, .ref (ad (61 + vk.toNatClampNeg))), (2, .int 0), (0, .ref (ad 0)), (1, .int vk)]) hx hb dX11_lend_159 hl (by decide) rfl (fun ls hl => ?_)
                      refine lv_iinc (v := (v6_48 + 1)) (lv' := [(6, .int (v6_48 + 1)), (5, .int y40), (4, .int v6_48), (3, .ref (ad (61 + vk.toNatClampNeg))), (2, .int 0), (0, .ref (ad 0)), (1, .int vk)]) hx hb dX11_lend_161 hl (k := 2) rfl rfl (by decide) rfl (fun ls hl => ?_)
                      refine loc_gen (P := fun w9 => lv_has ls 7 [(6, .int w9), (5, .int y40), (4, .int v6_48), (3, .ref (ad (61 + vk.toNatClampNeg))), (2, .int 0), (0, .ref (ad 0)), (1, .int vk)]) (v6_48 + 1) hl (fun w43 hw43 hl => ?_)
                      have hl : lv_has ls 7 [(6, .int w43), (5, .int y40), (4, .int v6_48), (3, .ref (ad (61 + vk.toNatClampNeg))), (2, .int 0), (0, .ref (ad 0)), (1, .int vk)] := hl
                      have hF := mi_let hF hw43.symm
                      have aw43 : w43.toInt = v6_48.toInt + 1 := by rw [← hw43]; first | exact va1 (Int.lt_of_le_of_lt h_v6_48.2 (by decide)) | exact va1 (by omega)
                      refine lv_goto (tgt := 48) hx hb dX11_lend_164 (by decide) ?_
                      exact ih48 (v6_48) (y40) (w43) xi32 _ _ _ (by first | exact ms_up hm_48 aw43 h_v6_48.2 | exact ms_lt hm_48 (by omega) (by omega) | omega) (by first | exact rg_up aw43 h_v6_48 (by omega) | omega)  ok hP  kp33 hF hS (lv_sub hl [0, 1, 2, 3, 4, 5, 6] rfl)
              · have hF := (if_neg c_31).symm.trans hF
                have c_31 : ¬ v6_48.toInt = y30.toInt := il_ne c_31
                refine lv_goto (tgt := 161) hx hb dX11_lend_92 (by decide) ?_
                refine lv_iinc (v := (v6_48 + 1)) (lv' := [(6, .int (v6_48 + 1)), (5, .int v5_48), (4, .int v4_48), (3, .ref (ad (61 + vk.toNatClampNeg))), (2, .int 0), (0, .ref (ad 0)), (1, .int vk)]) hx hb dX11_lend_161 hl (k := 0) rfl rfl (by decide) rfl (fun ls hl => ?_)
                refine loc_gen (P := fun w9 => lv_has ls 7 [(6, .int w9), (5, .int v5_48), (4, .int v4_48), (3, .ref (ad (61 + vk.toNatClampNeg))), (2, .int 0), (0, .ref (ad 0)), (1, .int vk)]) (v6_48 + 1) hl (fun w44 hw44 hl => ?_)
                have hl : lv_has ls 7 [(6, .int w44), (5, .int v5_48), (4, .int v4_48), (3, .ref (ad (61 + vk.toNatClampNeg))), (2, .int 0), (0, .ref (ad 0)), (1, .int vk)] := hl
                have hF := mi_let hF hw44.symm
                have aw44 : w44.toInt = v6_48.toInt + 1 := by rw [← hw44]; first | exact va1 (Int.lt_of_le_of_lt h_v6_48.2 (by decide)) | exact va1 (by omega)
                refine lv_goto (tgt := 48) hx hb dX11_lend_164 (by decide) ?_
                exact ih48 (v4_48) (v5_48) (w44) nu48_ _ _ _ (by first | exact ms_up hm_48 aw44 h_v6_48.2 | exact ms_lt hm_48 (by omega) (by omega) | omega) (by first | exact rg_up aw44 h_v6_48 (by omega) | omega)  ok hP  kq48_0 hF hS (lv_sub hl [0, 1, 2, 3, 4, 5, 6] rfl)
    exact loop48 10 ((-9)) (0) (0) xi4 _ _ _ (by have h80 : ((-9) : Int32).toInt = -9 := rfl; have h81 : (0 : Int32).toInt = 0 := rfl; have h82 : (0 : Int32).toInt = 0 := rfl; omega) (by have h80 : (0 : Int32).toInt = 0 := rfl; exact ⟨by omega, by omega⟩)  ok hP  kp5 hF hS hl
  · have hF := (if_neg (show ¬ r1 = 0 from fun h => by have h9 := congrArg Int32.toInt h; have h8 : (0 : Int32).toInt = 0 := rfl; omega)).symm.trans hF
    have kp2 : (∀ k f : Nat, Nat.testBit 510 (gpX k f) = true → xi1 k f = mu k f) := kp_t hkp1_0 (by decide) (fun _ _ _ => rfl)
    skip
    refine lv_istore_n (lv' := [(2, .int r1), (0, .ref (ad 0)), (1, .int vk)]) hx hb dX11_lend_6 rfl hl (by decide) rfl (fun ls hl => ?_)
    refine lv_iload_n hx hb dX11_lend_7 rfl (lv_at hl 0 rfl) ?_
    refine lv_if_eq (tgt := 13) hx hb dX11_lend_8 (by decide) (fun c_45 => by have c_45 : r1.toInt = 0 := il_eq c_45; exfalso; omega) (fun c_45 => ?_)
    have c_45 : ¬ r1.toInt = 0 := il_ne c_45
    refine lv_iload_n hx hb dX11_lend_11 rfl (lv_at hl 0 rfl) ?_
    exact W.iret (v := r1) hx hb hr (fun t ht hW => ⟨⟨r1, xi1, rfl, ⟨hF.trans hfz.symm, ok, trivial, kp2⟩, by first | (subst ht; exact hP) | (rw [ht]; exact hP) | (show va_P (dC, dI) vwCl (wR 157 ad (EX cs ad) xi1) t.heap; rw [ht]; exact hP)⟩, hS.F ht⟩) hS.2.2 dX11_lend_12
set_option maxHeartbeats 4000000 in
set_option maxRecDepth 100000 in
/-- qx_block -/
theorem qx_block (l : Launch) (dC : Nat → ClassId) (dI : Nat → Nat → Nat) (cs : Nat → ClassId) (ad : Nat → Nat) (mu : Nat → Nat → Int32) (ok : okR loX hiX mu) (H : Heap) (hP : va_P (dC, dI) vwCl (wR 157 ad (EX cs ad) mu) H) (hD0 : va_D (fun _ => True) (wR 157 ad (EX cs ad) mu)) (vk : Int32) : Met l yX11_block (wU yX11_block cX11_block 6 (some .int)) ({ frames := 10, cells := 0, slots := 0, locals := 262 }) (va_Pc [.ref (ad 0), .int vk] (sz_P (dC, dI) vwCl (tyW cs) H)) (va_Qi (fun (z : Int32) (xi : Nat → Nat → Int32) => (z, xi) = F_qx_block mu vk ∧ okR loX hiX xi ∧ (True) ∧ (∀ k f : Nat, Nat.testBit 510 (gpX k f) = true → xi k f = mu k f)) (fun xi t => va_P (dC, dI) vwCl (wR 157 ad (EX cs ad) xi) t.heap) (va_A (wR 157 ad (EX cs ad) mu) H.size)) 0 0 (va_A (wR 157 ad (EX cs ad) mu) H.size) := by
  refine Met.ofW (cc := cX11_block) (maxL := 6) (ret := (some .int)) (by decide) rfl ?_
  intro p e s m args below meth c s₁ B hml hv
  obtain ⟨rfl, hh, hK, hz⟩ := hv
  have hx := B.exec
  have hb := B.bytes
  have hr := B.returns
  have hts := atoms_spec (ws := (wU yX11_block cX11_block 6 (some .int))) B.pre
  have hown : s.vm.findClass RX11 = some m.cls := findClass_of_methodNamed B.named
  have hlocks := B.notSynchronized
  subst hh
  have hD := hD0.self (sz := s.heap.size)
  have hA : ∀ q : Nat, s.heap.size ≤ q → (va_A (wR 157 ad (EX cs ad) mu) s.heap.size) q := fun q h => Or.inr h
  have hS : va_S (va_A (wR 157 ad (EX cs ad) mu) s.heap.size) s.heap s.heap [] := va_S.rf
  have hl := lv_entry ([.ref (ad 0), .int vk]) (n := 6) (Nat.le_of_ble_eq_true rfl)
  rw [lg_entry_eq]
  generalize (lg_sl ([.ref (ad 0), .int vk]) ++ List.replicate (6 - (lg_sl ([.ref (ad 0), .int vk])).length) Slot.unset).toArray = ls at hl ⊢
  have hl : lv_has ls 6 [(0, .ref (ad 0)), (1, .int vk)] := hl
  obtain ⟨fz, hfz⟩ : ∃ z, F_qx_block mu vk = z := ⟨_, rfl⟩
  have hF := hfz
  unfold F_qx_block at hF
  refine lv_aload_n hx hb dX11_block_0 rfl (lv_at hl 0 rfl) ?_
  refine lv_iload_n hx hb dX11_block_1 rfl (lv_at hl 1 rfl) ?_
  refine lv_iconst (v := 0) hx hb dX11_block_2 (by decide) ?_
  have hFc := fr_all (wR_D mu hD) hS hA
  refine va_calli (va_runV (As := [.int vk, .int 0]) (rest := []) ⟨hx, hb, hml, hown, hts⟩ (sx_refusedRoute l dC dI cs ad mu ok s.heap hP ((wR_D mu hD).weaken (fun _ _ _ _ => trivial)) vk 0) (cwV 2 hts (wU_V mw_4_1 mw_3_238 mw_4_0 mw_0_9 mw_1_1) rfl rfl rfl (by decide +kernel) ⟨Nat.le_of_ble_eq_true rfl, Nat.le_of_ble_eq_true rfl⟩) ⟨sz_c, va_recv hK hP (ci := 11) (q0 := 0) rfl (gX_0 cs ad mu), sz_m hK hz⟩ rfl rfl hl.1 rfl (lv_room (Nat.le_of_ble_eq_true rfl)) dX11_block_3 ⟨Nat.zero_le _, Nat.zero_le _⟩) hS (fun q _ h => hFc q h) hFc (fun r1 xi1 t H1 locs ht hvm hw1 hB hz1 hk1 hS => ?_)
  have hP : va_P (dC, dI) vwCl (wR 157 ad (EX cs ad) xi1) H1 := by rw [← ht]; exact hB
  obtain ⟨hfe1, hw1⟩ := hw1
  have hF := mi_letp hF hfe1
  rcases hw1 with ⟨rfl, hxi1, f1⟩ | ⟨z1, ok, hkp1_0⟩
  · have hF := (if_pos rfl).symm.trans hF
    have hP : va_P (dC, dI) vwCl (wR 157 ad (EX cs ad) mu) H1 := by rw [← hxi1]; exact hP
    have f1 : 0 ≤ vk.toInt ∧ vk.toInt < (mu 5 4).toInt ∧ (mu 5 4).toInt ≤ 4 ∧ (0 : Int) = 0 := f1
    refine lv_istore_n (lv' := [(2, .int 0), (0, .ref (ad 0)), (1, .int vk)]) hx hb dX11_block_6 rfl hl (by decide) rfl (fun ls hl => ?_)
    refine lv_iload_n hx hb dX11_block_7 rfl (lv_at hl 0 rfl) ?_
    refine lv_if_eq (tgt := 13) hx hb dX11_block_8 (by decide) (fun _ => ?_) (fun c => absurd (by decide) c)
    refine lv_aload_n hx hb dX11_block_13 rfl (lv_at hl 1 rfl) ?_
    refine va_get (D := (dC, dI)) (ci := 11) (v := .ref (ad 32)) (C := RX11) (T := TX11) (N := 11) hx hb hts inG11 hown hK hP 0 (gX_0 cs ad mu) rfl 6 (by decide) (hts _ (List.mem_cons_of_mem _ mw_2_164)) (fun _ h9 => h9) rfl dX11_block_14 ?_
    refine lv_aload_n hx hb dX11_block_17 rfl (lv_at hl 1 rfl) ?_
    refine va_get (D := (dC, dI)) (ci := 11) (v := .ref (ad 4)) (C := RX11) (T := TX11) (N := 11) hx hb hts inG11 hown hK hP 0 (gX_0 cs ad mu) rfl 3 (by decide) (hts _ (List.mem_cons_of_mem _ mw_2_161)) (fun _ h9 => h9) rfl dX11_block_18 ?_
    refine lv_aload_n hx hb dX11_block_21 rfl (lv_at hl 1 rfl) ?_
    refine va_get (D := (dC, dI)) (ci := 11) (v := .ref (ad 4)) (C := RX11) (T := TX11) (N := 11) hx hb hts inG11 hown hK hP 0 (gX_0 cs ad mu) rfl 3 (by decide) (hts _ (List.mem_cons_of_mem _ mw_2_161)) (fun _ h9 => h9) rfl dX11_block_22 ?_
    refine va_get (D := (dC, dI)) (ci := 10) (v := .ref (ad 5)) (C := RX10) (T := TX10) (N := 8) hx hb hts inG10 hown hK hP 4 (gX_4 cs ad mu) rfl 3 (by decide) (hts _ (List.mem_cons_of_mem _ mw_1_157)) (fun _ h9 => h9) rfl dX11_block_25 ?_
    refine va_get (D := (dC, dI)) (ci := 8) (v := .ref (ad 47)) (C := RX8) (T := TX8) (N := 6) hx hb hts inG8 hown hK hP 5 (gX_5 cs ad mu) rfl 1 (by decide) (hts _ (List.mem_cons_of_mem _ mw_1_112)) (fun _ h9 => h9) rfl dX11_block_28 ?_
    refine lv_iload_n hx hb dX11_block_31 rfl (lv_at hl 2 rfl) ?_
    have hx3 : 0 ≤ vk.toInt ∧ vk.toInt < ((4 : Nat) : Int) := ⟨by omega, by omega⟩
    refine va_aldq hx hb hK hP 47 5 (gX_47 cs ad mu) rfl (show vp_in vk 4 from vi_of hx3.1 hx3.2) dX11_block_32 ?_
    have hk3 : 61 ≤ (61 + vk.toNatClampNeg) ∧ (61 + vk.toNatClampNeg) < 65 := ix_of hx3
    have hk3 : 61 ≤ (61 + vk.toNatClampNeg) ∧ (61 + vk.toNatClampNeg) < 77 := ⟨Nat.le_trans (by decide) hk3.1, Nat.lt_of_lt_of_le hk3.2 (by decide)⟩
    refine lq_v (.ref (ad (61 + vk.toNatClampNeg))) rfl ?_
    have hFc := fr_all (wR_D mu hD) hS hA
    refine va_callv (va_runV (As := [.ref (ad 4), .ref (ad (61 + vk.toNatClampNeg))]) (rest := []) ⟨hx, hb, hml, hown, hts⟩ (sx_lookAt l dC dI cs ad mu ok H1 hP ((wR_D mu hD).weaken (fun _ _ _ _ => trivial)) (61 + vk.toNatClampNeg) hk3.1 hk3.2) (cwV 2 hts (wU_V mw_4_9 mw_4_85 mw_4_7 mw_4_8 mw_1_8) rfl rfl rfl (by decide +kernel) ⟨Nat.le_of_ble_eq_true rfl, Nat.le_of_ble_eq_true rfl⟩) ⟨sz_c, va_recv hK hP (ci := 5) (q0 := 32) rfl (gX_32 cs ad mu), sz_m hK hz⟩ rfl rfl hl.1 rfl (lv_room (Nat.le_of_ble_eq_true rfl)) dX11_block_33 ⟨Nat.zero_le _, Nat.zero_le _⟩) hS (fun q _ h => hFc q h) hFc (fun xi4 t H4 locs ht hvm hw4 hB hz1 hk1 hS => ?_)
    have hP : va_P (dC, dI) vwCl (wR 157 ad (EX cs ad) xi4) H4 := by rw [← ht]; exact hB
    obtain ⟨hfe4, ok, hw4, hkp4_0⟩ := hw4
    have hF := mi_let hF hfe4
    have kp5 : (∀ k f : Nat, Nat.testBit 510 (gpX k f) = true → xi4 k f = mu k f) := kp_t hkp4_0 (by decide) (fun _ _ _ => rfl)
    refine lv_iconst (v := 1) hx hb dX11_block_36 (by decide) ?_
    refine lv_aload_n hx hb dX11_block_37 rfl (lv_at hl 1 rfl) ?_
    refine va_get (D := (dC, dI)) (ci := 11) (v := .ref (ad 4)) (C := RX11) (T := TX11) (N := 11) hx hb hts inG11 hown hK hP 0 (gX_0 cs ad xi4) rfl 3 (by decide) (hts _ (List.mem_cons_of_mem _ mw_2_161)) (fun _ h9 => h9) rfl dX11_block_38 ?_
    refine va_get (D := (dC, dI)) (ci := 10) (v := .int (xi4 4 7)) (C := RX10) (T := TX10) (N := 8) hx hb hts inG10 hown hK hP 4 (gX_4 cs ad xi4) rfl 7 (by decide) (hts _ (List.mem_cons_of_mem _ mw_1_167)) (fun _ h9 => h9) rfl dX11_block_41 ?_
    refine lv_topi (fun y6 ey6 => ?_)
    have hF := mi_let hF ey6
    have by6 : y6.toInt = (xi4 4 7).toInt := congrArg Int32.toInt ey6
    have gy6 : 0 ≤ y6.toInt ∧ y6.toInt ≤ 12 := by rw [ey6]; exact rX_4_7 ok
    refine lv_ishl hx hb dX11_block_44 ?_
    refine lv_topi (fun t7 et7 => ?_)
    have hF := mi_let hF et7
    refine lv_iconst (v := 1) hx hb dX11_block_45 (by decide) ?_
    refine lv_isub hx hb dX11_block_46 ?_
    refine lv_topi (fun t8 et8 => ?_)
    have hF := mi_let hF et8
    refine lv_aload_n hx hb dX11_block_47 rfl (lv_at hl 1 rfl) ?_
    refine va_get (D := (dC, dI)) (ci := 11) (v := .ref (ad 4)) (C := RX11) (T := TX11) (N := 11) hx hb hts inG11 hown hK hP 0 (gX_0 cs ad xi4) rfl 3 (by decide) (hts _ (List.mem_cons_of_mem _ mw_2_161)) (fun _ h9 => h9) rfl dX11_block_48 ?_
    refine va_get (D := (dC, dI)) (ci := 10) (v := .ref (ad 5)) (C := RX10) (T := TX10) (N := 8) hx hb hts inG10 hown hK hP 4 (gX_4 cs ad xi4) rfl 3 (by decide) (hts _ (List.mem_cons_of_mem _ mw_1_157)) (fun _ h9 => h9) rfl dX11_block_51 ?_
    refine va_get (D := (dC, dI)) (ci := 8) (v := .int (xi4 5 2)) (C := RX8) (T := TX8) (N := 6) hx hb hts inG8 hown hK hP 5 (gX_5 cs ad xi4) rfl 2 (by decide) (hts _ (List.mem_cons_of_mem _ mw_1_118)) (fun _ h9 => h9) rfl dX11_block_54 ?_
    refine lv_topi (fun y9 ey9 => ?_)
    have hF := mi_let hF ey9
    have by9 : y9.toInt = (xi4 5 2).toInt := congrArg Int32.toInt ey9
    refine lv_iconst (v := (-1)) hx hb dX11_block_57 (by decide) ?_
    refine lv_ixor hx hb dX11_block_58 ?_
    refine lv_topi (fun t10 et10 => ?_)
    have hF := mi_let hF et10
    refine lv_iand hx hb dX11_block_59 ?_
    refine lv_topi (fun t11 et11 => ?_)
    have hF := mi_let hF et11
    refine lv_istore_n (lv' := [(3, .int t11), (2, .int 0), (0, .ref (ad 0)), (1, .int vk)]) hx hb dX11_block_60 rfl hl (by decide) rfl (fun ls hl => ?_)
    refine lv_iconst (v := 0) hx hb dX11_block_61 (by decide) ?_
    refine lv_istore (lv' := [(4, .int 0), (3, .int t11), (2, .int 0), (0, .ref (ad 0)), (1, .int vk)]) hx hb dX11_block_62 hl (by decide) rfl (fun ls hl => ?_)
    have loop64 : ∀ (n64 : Nat) (v4_64 : Int32) (nu64_ : Nat → Nat → Int32) (H : Heap) (locs : List Loc) (ls : Array Slot), (13 + 1 - v4_64.toInt).toNat < n64 → (0 ≤ v4_64.toInt ∧ v4_64.toInt ≤ 13) → okR loX hiX nu64_ → va_P (dC, dI) vwCl (wR 157 ad (EX cs ad) nu64_) H → (∀ k f : Nat, Nat.testBit 510 (gpX k f) = true → nu64_ k f = mu k f) → L_qx_block_64_0 t11 n64 v4_64 nu64_ = fz → va_S (va_A (wR 157 ad (EX cs ad) mu) s.heap.size) s.heap H locs → lv_has ls 6 [(4, .int v4_64), (3, .int t11), (2, .int 0), (0, .ref (ad 0)), (1, .int vk)] → W p l e (headSpec (wU yX11_block cX11_block 6 (some .int)) ({ frames := 10, cells := 0, slots := 0, locals := 262 })).room s m ([.ref (ad 0), .int vk] : List Value).toArray below meth c H locs 0 0 (MQ below (va_Qi (fun (z : Int32) (xi : Nat → Nat → Int32) => (z, xi) = F_qx_block mu vk ∧ okR loX hiX xi ∧ (True) ∧ (∀ k f : Nat, Nat.testBit 510 (gpX k f) = true → xi k f = mu k f)) (fun xi t => va_P (dC, dI) vwCl (wR 157 ad (EX cs ad) xi) t.heap) (va_A (wR 157 ad (EX cs ad) mu) s.heap.size)) ([.ref (ad 0), .int vk] : List Value).toArray s 0 0 (va_A (wR 157 ad (EX cs ad) mu) s.heap.size)) (F0 m 64 ls []) := by
      intro n64
      induction n64 with
      | zero => intro v4_64 nu64_ H locs ls hm; exact absurd hm (Nat.not_lt_zero _)
      | succ n64 ih64 =>
        intro v4_64 nu64_ H locs ls hm_64 h_v4_64 ok hP kq64_0 hF hS hl
        rw [L_qx_block_64_0] at hF
        refine lv_iload hx hb dX11_block_64 (lv_at hl 0 rfl) ?_
        refine lv_aload_n hx hb dX11_block_66 rfl (lv_at hl 3 rfl) ?_
        refine va_get (D := (dC, dI)) (ci := 11) (v := .ref (ad 4)) (C := RX11) (T := TX11) (N := 11) hx hb hts inG11 hown hK hP 0 (gX_0 cs ad nu64_) rfl 3 (by decide) (hts _ (List.mem_cons_of_mem _ mw_2_161)) (fun _ h9 => h9) rfl dX11_block_67 ?_
        refine va_get (D := (dC, dI)) (ci := 10) (v := .int (nu64_ 4 7)) (C := RX10) (T := TX10) (N := 8) hx hb hts inG10 hown hK hP 4 (gX_4 cs ad nu64_) rfl 7 (by decide) (hts _ (List.mem_cons_of_mem _ mw_1_167)) (fun _ h9 => h9) rfl dX11_block_70 ?_
        refine lv_topi (fun y12 ey12 => ?_)
        have hF := mi_let hF ey12
        have by12 : y12.toInt = (nu64_ 4 7).toInt := congrArg Int32.toInt ey12
        have gy12 : 0 ≤ y12.toInt ∧ y12.toInt ≤ 12 := by rw [ey12]; exact rX_4_7 ok
        refine lv_icmp_gt (tgt := 107) hx hb dX11_block_73 (by decide) (fun c_13 => ?_) (fun c_13 => ?_)
        · have hF := (if_pos c_13).symm.trans hF
          have c_13 : y12.toInt < v4_64.toInt := il_lt c_13
          refine lv_iconst (v := 0) hx hb dX11_block_107 (by decide) ?_
          exact W.iret (v := 0) hx hb hr (fun t ht hW => ⟨⟨0, nu64_, rfl, ⟨hF.trans hfz.symm, ok, trivial, kq64_0⟩, by first | (subst ht; exact hP) | (rw [ht]; exact hP) | (show va_P (dC, dI) vwCl (wR 157 ad (EX cs ad) nu64_) t.heap; rw [ht]; exact hP)⟩, hS.F ht⟩) hS.2.2 dX11_block_108
        · have hF := (if_neg c_13).symm.trans hF
          have c_13 : v4_64.toInt ≤ y12.toInt := il_nlt c_13
          refine lv_aload_n hx hb dX11_block_76 rfl (lv_at hl 3 rfl) ?_
          refine lv_iload_n hx hb dX11_block_77 rfl (lv_at hl 1 rfl) ?_
          refine lv_iload hx hb dX11_block_78 (lv_at hl 0 rfl) ?_
          have hFc := fr_all (wR_D nu64_ hD) hS hA
          refine va_calli (va_runV (As := [.int t11, .int v4_64]) (rest := []) ⟨hx, hb, hml, hown, hts⟩ (sx_leastBlock l dC dI cs ad nu64_ ok H hP ((wR_D nu64_ hD).weaken (fun _ _ _ _ => trivial)) t11 v4_64) (cwV 2 hts (wU_V mw_4_97 mw_4_94 mw_4_96 mw_0_17 mw_1_1) rfl rfl rfl (by decide +kernel) ⟨Nat.le_of_ble_eq_true rfl, Nat.le_of_ble_eq_true rfl⟩) ⟨sz_c, va_recv hK hP (ci := 11) (q0 := 0) rfl (gX_0 cs ad nu64_), sz_m hK hz⟩ rfl rfl hl.1 rfl (lv_room (Nat.le_of_ble_eq_true rfl)) dX11_block_80 ⟨Nat.zero_le _, Nat.zero_le _⟩) hS (fun q _ h => hFc q h) hFc (fun r14 xi14 t H14 locs ht hvm hw14 hB hz1 hk1 hS => ?_)
          have hP : va_P (dC, dI) vwCl (wR 157 ad (EX cs ad) xi14) H14 := by rw [← ht]; exact hB
          obtain ⟨hfe14, ok, hw14, hkp14_0⟩ := hw14
          have hF := mi_letp hF hfe14
          have kp15 : (∀ k f : Nat, Nat.testBit 510 (gpX k f) = true → xi14 k f = mu k f) := kp_t hkp14_0 (by decide) kq64_0
          refine lv_istore (lv' := [(5, .int r14), (4, .int v4_64), (3, .int t11), (2, .int 0), (0, .ref (ad 0)), (1, .int vk)]) hx hb dX11_block_83 hl (by decide) rfl (fun ls hl => ?_)
          refine lv_iload hx hb dX11_block_85 (lv_at hl 0 rfl) ?_
          refine lv_bipush (v := (-9)) hx hb dX11_block_87 (by decide) ?_
          refine lv_icmp_eq (tgt := 101) hx hb dX11_block_89 (by decide) (fun c_16 => ?_) (fun c_16 => ?_)
          · have hF := (if_pos c_16).symm.trans hF
            have c_16 : r14.toInt = -9 := il_eq c_16
            refine lv_iinc (v := (v4_64 + 1)) (lv' := [(4, .int (v4_64 + 1)), (5, .int r14), (3, .int t11), (2, .int 0), (0, .ref (ad 0)), (1, .int vk)]) hx hb dX11_block_101 hl (k := 1) rfl rfl (by decide) rfl (fun ls hl => ?_)
            refine loc_gen (P := fun w9 => lv_has ls 6 [(4, .int w9), (5, .int r14), (3, .int t11), (2, .int 0), (0, .ref (ad 0)), (1, .int vk)]) (v4_64 + 1) hl (fun w17 hw17 hl => ?_)
            have hl : lv_has ls 6 [(4, .int w17), (5, .int r14), (3, .int t11), (2, .int 0), (0, .ref (ad 0)), (1, .int vk)] := hl
            have hF := mi_let hF hw17.symm
            have aw17 : w17.toInt = v4_64.toInt + 1 := by rw [← hw17]; first | exact va1 (Int.lt_of_le_of_lt h_v4_64.2 (by decide)) | exact va1 (by omega)
            refine lv_goto (tgt := 64) hx hb dX11_block_104 (by decide) ?_
            exact ih64 (w17) xi14 _ _ _ (by first | exact ms_up hm_64 aw17 h_v4_64.2 | exact ms_lt hm_64 (by omega) (by omega) | omega) (by first | exact rg_up aw17 h_v4_64 (by omega) | omega)  ok hP  kp15 hF hS (lv_sub hl [0, 2, 3, 4, 5] rfl)
          · have hF := (if_neg c_16).symm.trans hF
            have c_16 : ¬ r14.toInt = -9 := il_ne c_16
            refine lv_aload_n hx hb dX11_block_92 rfl (lv_at hl 4 rfl) ?_
            refine lv_iload hx hb dX11_block_93 (lv_at hl 0 rfl) ?_
            refine va_put (D := (dC, dI)) (ci := 11) (v := .int r14) (ty := .int) (C := RX11) (T := TX11) (N := 11) hx hb hts inG11 tyX11 tyX11_ok nmX11 hown hK hP (wR_D xi14 hD) hS 0 (gX_0 cs ad xi14) rfl 10 (by decide) (hts _ (List.mem_cons_of_mem _ mw_2_168)) (fun _ h9 => h9) rfl (by decide +kernel) rfl rfl (Nat.le_of_ble_eq_true rfl) dX11_block_95 (fun H locs hP _ hS => ?_)
            simp only [List.set_cons_succ, List.set_cons_zero] at hP
            refine wr_gen (upd (xi14 0) 10 r14) hP ((hX_0_10 cs ad _ _)) (fun nu18 hn18 hP => ?_)
            have hF := mi_let hF hn18.symm
            have ok := tX_0_10 ok hn18
            have kp19 : (∀ k f : Nat, Nat.testBit 510 (gpX k f) = true → nu18 k f = mu k f) := kp_c 0 hn18 (fun _ => rfl) (by decide) kp15
            have ez20 : r14 = nu18 0 10 := up_v hn18
            refine lv_iload hx hb dX11_block_98 (lv_at hl 1 rfl) ?_
            exact W.iret (v := v4_64) hx hb hr (fun t ht hW => ⟨⟨v4_64, nu18, rfl, ⟨hF.trans hfz.symm, ok, trivial, kp19⟩, by first | (subst ht; exact hP) | (rw [ht]; exact hP) | (show va_P (dC, dI) vwCl (wR 157 ad (EX cs ad) nu18) t.heap; rw [ht]; exact hP)⟩, hS.F ht⟩) hS.2.2 dX11_block_100
    exact loop64 16 (0) xi4 _ _ _ (by have h80 : (0 : Int32).toInt = 0 := rfl; omega) (by have h80 : (0 : Int32).toInt = 0 := rfl; exact ⟨by omega, by omega⟩)  ok hP  kp5 hF hS hl
  · have hF := (if_neg (show ¬ r1 = 0 from fun h => by have h9 := congrArg Int32.toInt h; have h8 : (0 : Int32).toInt = 0 := rfl; omega)).symm.trans hF
    have kp2 : (∀ k f : Nat, Nat.testBit 510 (gpX k f) = true → xi1 k f = mu k f) := kp_t hkp1_0 (by decide) (fun _ _ _ => rfl)
    skip
    refine lv_istore_n (lv' := [(2, .int r1), (0, .ref (ad 0)), (1, .int vk)]) hx hb dX11_block_6 rfl hl (by decide) rfl (fun ls hl => ?_)
    refine lv_iload_n hx hb dX11_block_7 rfl (lv_at hl 0 rfl) ?_
    refine lv_if_eq (tgt := 13) hx hb dX11_block_8 (by decide) (fun c_21 => by have c_21 : r1.toInt = 0 := il_eq c_21; exfalso; omega) (fun c_21 => ?_)
    have c_21 : ¬ r1.toInt = 0 := il_ne c_21
    refine lv_iload_n hx hb dX11_block_11 rfl (lv_at hl 0 rfl) ?_
    exact W.iret (v := r1) hx hb hr (fun t ht hW => ⟨⟨r1, xi1, rfl, ⟨hF.trans hfz.symm, ok, trivial, kp2⟩, by first | (subst ht; exact hP) | (rw [ht]; exact hP) | (show va_P (dC, dI) vwCl (wR 157 ad (EX cs ad) xi1) t.heap; rw [ht]; exact hP)⟩, hS.F ht⟩) hS.2.2 dX11_block_12
set_option maxHeartbeats 4000000 in
set_option maxRecDepth 100000 in
/-- qx_post -/
theorem qx_post (l : Launch) (dC : Nat → ClassId) (dI : Nat → Nat → Nat) (cs : Nat → ClassId) (ad : Nat → Nat) (mu : Nat → Nat → Int32) (ok : okR loX hiX mu) (H : Heap) (hP : va_P (dC, dI) vwCl (wR 157 ad (EX cs ad) mu) H) (hD0 : va_D (fun _ => True) (wR 157 ad (EX cs ad) mu)) (vv : Int32) : Met l yX11_post (wU yX11_post cX11_post 6 (some .int)) ({ frames := 11, cells := 0, slots := 0, locals := 319 }) (va_Pc [.ref (ad 0), .int vv] (sz_P (dC, dI) vwCl (tyW cs) H)) (va_Qi (fun (z : Int32) (xi : Nat → Nat → Int32) => (z, xi) = F_qx_post mu vv ∧ okR loX hiX xi ∧ (True) ∧ (∀ k f : Nat, Nat.testBit 510 (gpX k f) = true → xi k f = mu k f)) (fun xi t => va_P (dC, dI) vwCl (wR 157 ad (EX cs ad) xi) t.heap) (va_A (wR 157 ad (EX cs ad) mu) H.size)) 0 0 (va_A (wR 157 ad (EX cs ad) mu) H.size) := by
  refine Met.ofW (cc := cX11_post) (maxL := 6) (ret := (some .int)) (by decide) rfl ?_
  intro p e s m args below meth c s₁ B hml hv
  obtain ⟨rfl, hh, hK, hz⟩ := hv
  have hx := B.exec
  have hb := B.bytes
  have hr := B.returns
  have hts := atoms_spec (ws := (wU yX11_post cX11_post 6 (some .int))) B.pre
  have hown : s.vm.findClass RX11 = some m.cls := findClass_of_methodNamed B.named
  have hlocks := B.notSynchronized
  subst hh
  have hD := hD0.self (sz := s.heap.size)
  have hA : ∀ q : Nat, s.heap.size ≤ q → (va_A (wR 157 ad (EX cs ad) mu) s.heap.size) q := fun q h => Or.inr h
  have hS : va_S (va_A (wR 157 ad (EX cs ad) mu) s.heap.size) s.heap s.heap [] := va_S.rf
  have hl := lv_entry ([.ref (ad 0), .int vv]) (n := 6) (Nat.le_of_ble_eq_true rfl)
  rw [lg_entry_eq]
  generalize (lg_sl ([.ref (ad 0), .int vv]) ++ List.replicate (6 - (lg_sl ([.ref (ad 0), .int vv])).length) Slot.unset).toArray = ls at hl ⊢
  have hl : lv_has ls 6 [(0, .ref (ad 0)), (1, .int vv)] := hl
  obtain ⟨fz, hfz⟩ : ∃ z, F_qx_post mu vv = z := ⟨_, rfl⟩
  have hF := hfz
  unfold F_qx_post at hF
  refine lv_iload_n hx hb dX11_post_0 rfl (lv_at hl 1 rfl) ?_
  refine lv_if_lt (tgt := 10) hx hb dX11_post_1 (by decide) (fun c_1 => ?_) (fun c_1 => ?_)
  · have hF := (if_pos c_1).symm.trans hF
    have c_1 : vv.toInt < 0 := il_lt c_1
    refine lv_iconst (v := (-1)) hx hb dX11_post_10 (by decide) ?_
    exact W.iret (v := (-1)) hx hb hr (fun t ht hW => ⟨⟨(-1), mu, rfl, ⟨hF.trans hfz.symm, ok, trivial, (fun _ _ _ => rfl)⟩, by first | (subst ht; exact hP) | (rw [ht]; exact hP) | (show va_P (dC, dI) vwCl (wR 157 ad (EX cs ad) mu) t.heap; rw [ht]; exact hP)⟩, hS.F ht⟩) hS.2.2 dX11_post_11
  · have hF := (if_neg c_1).symm.trans hF
    have c_1 : 0 ≤ vv.toInt := il_nlt c_1
    refine lv_iload_n hx hb dX11_post_4 rfl (lv_at hl 1 rfl) ?_
    refine lv_bipush (v := 99) hx hb dX11_post_5 (by decide) ?_
    refine lv_icmp_le (tgt := 12) hx hb dX11_post_7 (by decide) (fun c_2 => ?_) (fun c_2 => ?_)
    · have hF := (if_pos c_2).symm.trans hF
      have c_2 : vv.toInt ≤ 99 := il_le c_2
      refine lv_iconst (v := 0) hx hb dX11_post_12 (by decide) ?_
      refine lv_istore_n (lv' := [(2, .int 0), (0, .ref (ad 0)), (1, .int vv)]) hx hb dX11_post_13 rfl hl (by decide) rfl (fun ls hl => ?_)
      refine lv_iconst (v := 0) hx hb dX11_post_14 (by decide) ?_
      refine lv_istore_n (lv' := [(3, .int 0), (2, .int 0), (0, .ref (ad 0)), (1, .int vv)]) hx hb dX11_post_15 rfl hl (by decide) rfl (fun ls hl => ?_)
      refine lv_iconst (v := 0) hx hb dX11_post_16 (by decide) ?_
      refine lv_istore (lv' := [(4, .int 0), (3, .int 0), (2, .int 0), (0, .ref (ad 0)), (1, .int vv)]) hx hb dX11_post_17 hl (by decide) rfl (fun ls hl => ?_)
      have loop19 : ∀ (n19 : Nat) (v2_19 : Int32) (v3_19 : Int32) (v4_19 : Int32) (nu19_ : Nat → Nat → Int32) (H : Heap) (locs : List Loc) (ls : Array Slot), (7 + 1 - v4_19.toInt).toNat < n19 → (0 ≤ v4_19.toInt ∧ v4_19.toInt ≤ 7) → okR loX hiX nu19_ → va_P (dC, dI) vwCl (wR 157 ad (EX cs ad) nu19_) H → (∀ k f : Nat, Nat.testBit 510 (gpX k f) = true → nu19_ k f = mu k f) → L_qx_post_19_0 vv n19 v2_19 v3_19 v4_19 nu19_ = fz → va_S (va_A (wR 157 ad (EX cs ad) mu) s.heap.size) s.heap H locs → lv_has ls 6 [(4, .int v4_19), (3, .int v3_19), (2, .int v2_19), (0, .ref (ad 0)), (1, .int vv)] → W p l e (headSpec (wU yX11_post cX11_post 6 (some .int)) ({ frames := 11, cells := 0, slots := 0, locals := 319 })).room s m ([.ref (ad 0), .int vv] : List Value).toArray below meth c H locs 0 0 (MQ below (va_Qi (fun (z : Int32) (xi : Nat → Nat → Int32) => (z, xi) = F_qx_post mu vv ∧ okR loX hiX xi ∧ (True) ∧ (∀ k f : Nat, Nat.testBit 510 (gpX k f) = true → xi k f = mu k f)) (fun xi t => va_P (dC, dI) vwCl (wR 157 ad (EX cs ad) xi) t.heap) (va_A (wR 157 ad (EX cs ad) mu) s.heap.size)) ([.ref (ad 0), .int vv] : List Value).toArray s 0 0 (va_A (wR 157 ad (EX cs ad) mu) s.heap.size)) (F0 m 19 ls []) := by
        intro n19
        induction n19 with
        | zero => intro v2_19 v3_19 v4_19 nu19_ H locs ls hm; exact absurd hm (Nat.not_lt_zero _)
        | succ n19 ih19 =>
          intro v2_19 v3_19 v4_19 nu19_ H locs ls hm_19 h_v4_19 ok hP kq19_0 hF hS hl
          rw [L_qx_post_19_0] at hF
          refine lv_iload hx hb dX11_post_19 (lv_at hl 0 rfl) ?_
          refine lv_aload_n hx hb dX11_post_21 rfl (lv_at hl 3 rfl) ?_
          refine va_get (D := (dC, dI)) (ci := 11) (v := .ref (ad 4)) (C := RX11) (T := TX11) (N := 11) hx hb hts inG11 hown hK hP 0 (gX_0 cs ad nu19_) rfl 3 (by decide) (hts _ (List.mem_cons_of_mem _ mw_2_161)) (fun _ h9 => h9) rfl dX11_post_22 ?_
          refine va_get (D := (dC, dI)) (ci := 10) (v := .int (nu19_ 4 6)) (C := RX10) (T := TX10) (N := 8) hx hb hts inG10 hown hK hP 4 (gX_4 cs ad nu19_) rfl 6 (by decide) (hts _ (List.mem_cons_of_mem _ mw_1_164)) (fun _ h9 => h9) rfl dX11_post_25 ?_
          refine lv_topi (fun y3 ey3 => ?_)
          have hF := mi_let hF ey3
          have by3 : y3.toInt = (nu19_ 4 6).toInt := congrArg Int32.toInt ey3
          have gy3 : 0 ≤ y3.toInt ∧ y3.toInt ≤ 7 := by rw [ey3]; exact rX_4_6 ok
          refine lv_icmp_ge (tgt := 119) hx hb dX11_post_28 (by decide) (fun c_4 => ?_) (fun c_4 => ?_)
          · have hF := (if_pos c_4).symm.trans hF
            have c_4 : y3.toInt ≤ v4_19.toInt := il_le c_4
            refine lv_aload_n hx hb dX11_post_119 rfl (lv_at hl 3 rfl) ?_
            refine lv_iload_n hx hb dX11_post_120 rfl (lv_at hl 1 rfl) ?_
            refine va_put (D := (dC, dI)) (ci := 11) (v := .int v3_19) (ty := .int) (C := RX11) (T := TX11) (N := 11) hx hb hts inG11 tyX11 tyX11_ok nmX11 hown hK hP (wR_D nu19_ hD) hS 0 (gX_0 cs ad nu19_) rfl 10 (by decide) (hts _ (List.mem_cons_of_mem _ mw_2_168)) (fun _ h9 => h9) rfl (by decide +kernel) rfl rfl (Nat.le_of_ble_eq_true rfl) dX11_post_121 (fun H locs hP _ hS => ?_)
            simp only [List.set_cons_succ, List.set_cons_zero] at hP
            refine wr_gen (upd (nu19_ 0) 10 v3_19) hP ((hX_0_10 cs ad _ _)) (fun nu5 hn5 hP => ?_)
            have hF := mi_let hF hn5.symm
            have ok := tX_0_10 ok hn5
            have ez6 : y3 = nu5 4 6 := ey3.trans (congrFun (up_k hn5 (by decide)) 6).symm
            have kp7 : (∀ k f : Nat, Nat.testBit 510 (gpX k f) = true → nu5 k f = mu k f) := kp_c 0 hn5 (fun _ => rfl) (by decide) kq19_0
            have ez8 : v3_19 = nu5 0 10 := up_v hn5
            refine lv_iload_n hx hb dX11_post_124 rfl (lv_at hl 2 rfl) ?_
            refine lv_iload_n hx hb dX11_post_125 rfl (lv_at hl 1 rfl) ?_
            refine lv_iadd hx hb dX11_post_126 ?_
            refine lv_topi (fun t9 et9 => ?_)
            have hF := mi_let hF et9
            exact W.iret (v := t9) hx hb hr (fun t ht hW => ⟨⟨t9, nu5, rfl, ⟨hF.trans hfz.symm, ok, trivial, kp7⟩, by first | (subst ht; exact hP) | (rw [ht]; exact hP) | (show va_P (dC, dI) vwCl (wR 157 ad (EX cs ad) nu5) t.heap; rw [ht]; exact hP)⟩, hS.F ht⟩) hS.2.2 dX11_post_127
          · have hF := (if_neg c_4).symm.trans hF
            have c_4 : v4_19.toInt < y3.toInt := il_nle c_4
            refine lv_iconst (v := 0) hx hb dX11_post_31 (by decide) ?_
            refine lv_istore (lv' := [(5, .int 0), (4, .int v4_19), (3, .int v3_19), (2, .int v2_19), (0, .ref (ad 0)), (1, .int vv)]) hx hb dX11_post_32 hl (by decide) rfl (fun ls hl => ?_)
            have loop34 : ∀ (n34 : Nat) (v2_34 : Int32) (v3_34 : Int32) (v5_34 : Int32) (nu34_ : Nat → Nat → Int32) (H : Heap) (locs : List Loc) (ls : Array Slot), (7 + 1 - v5_34.toInt).toNat < n34 → (0 ≤ v5_34.toInt ∧ v5_34.toInt ≤ 7) → okR loX hiX nu34_ → va_P (dC, dI) vwCl (wR 157 ad (EX cs ad) nu34_) H → (∀ k f : Nat, Nat.testBit 510 (gpX k f) = true → nu34_ k f = mu k f) → L_qx_post_34_1 v4_19 vv (fun z_v2_19 z_v3_19 z_v4_19 z_nu19_ => L_qx_post_19_0 vv n19 z_v2_19 z_v3_19 z_v4_19 z_nu19_) n34 v2_34 v3_34 v5_34 nu34_ = fz → va_S (va_A (wR 157 ad (EX cs ad) mu) s.heap.size) s.heap H locs → lv_has ls 6 [(5, .int v5_34), (4, .int v4_19), (3, .int v3_34), (2, .int v2_34), (0, .ref (ad 0)), (1, .int vv)] → W p l e (headSpec (wU yX11_post cX11_post 6 (some .int)) ({ frames := 11, cells := 0, slots := 0, locals := 319 })).room s m ([.ref (ad 0), .int vv] : List Value).toArray below meth c H locs 0 0 (MQ below (va_Qi (fun (z : Int32) (xi : Nat → Nat → Int32) => (z, xi) = F_qx_post mu vv ∧ okR loX hiX xi ∧ (True) ∧ (∀ k f : Nat, Nat.testBit 510 (gpX k f) = true → xi k f = mu k f)) (fun xi t => va_P (dC, dI) vwCl (wR 157 ad (EX cs ad) xi) t.heap) (va_A (wR 157 ad (EX cs ad) mu) s.heap.size)) ([.ref (ad 0), .int vv] : List Value).toArray s 0 0 (va_A (wR 157 ad (EX cs ad) mu) s.heap.size)) (F0 m 34 ls []) := by
              intro n34
              induction n34 with
              | zero => intro v2_34 v3_34 v5_34 nu34_ H locs ls hm; exact absurd hm (Nat.not_lt_zero _)
              | succ n34 ih34 =>
                intro v2_34 v3_34 v5_34 nu34_ H locs ls hm_34 h_v5_34 ok hP kq34_0 hF hS hl
                rw [L_qx_post_34_1] at hF
                refine lv_iload hx hb dX11_post_34 (lv_at hl 0 rfl) ?_
                refine lv_aload_n hx hb dX11_post_36 rfl (lv_at hl 4 rfl) ?_
                refine va_get (D := (dC, dI)) (ci := 11) (v := .ref (ad 4)) (C := RX11) (T := TX11) (N := 11) hx hb hts inG11 hown hK hP 0 (gX_0 cs ad nu34_) rfl 3 (by decide) (hts _ (List.mem_cons_of_mem _ mw_2_161)) (fun _ h9 => h9) rfl dX11_post_37 ?_
                refine va_get (D := (dC, dI)) (ci := 10) (v := .int (nu34_ 4 6)) (C := RX10) (T := TX10) (N := 8) hx hb hts inG10 hown hK hP 4 (gX_4 cs ad nu34_) rfl 6 (by decide) (hts _ (List.mem_cons_of_mem _ mw_1_164)) (fun _ h9 => h9) rfl dX11_post_40 ?_
                refine lv_topi (fun y10 ey10 => ?_)
                have hF := mi_let hF ey10
                have by10 : y10.toInt = (nu34_ 4 6).toInt := congrArg Int32.toInt ey10
                have gy10 : 0 ≤ y10.toInt ∧ y10.toInt ≤ 7 := by rw [ey10]; exact rX_4_6 ok
                refine lv_icmp_ge (tgt := 113) hx hb dX11_post_43 (by decide) (fun c_11 => ?_) (fun c_11 => ?_)
                · have hF := (if_pos c_11).symm.trans hF
                  have c_11 : y10.toInt ≤ v5_34.toInt := il_le c_11
                  refine lv_iinc (v := (v4_19 + 1)) (lv' := [(4, .int (v4_19 + 1)), (5, .int v5_34), (3, .int v3_34), (2, .int v2_34), (0, .ref (ad 0)), (1, .int vv)]) hx hb dX11_post_113 hl (k := 1) rfl rfl (by decide) rfl (fun ls hl => ?_)
                  refine loc_gen (P := fun w9 => lv_has ls 6 [(4, .int w9), (5, .int v5_34), (3, .int v3_34), (2, .int v2_34), (0, .ref (ad 0)), (1, .int vv)]) (v4_19 + 1) hl (fun w12 hw12 hl => ?_)
                  have hl : lv_has ls 6 [(4, .int w12), (5, .int v5_34), (3, .int v3_34), (2, .int v2_34), (0, .ref (ad 0)), (1, .int vv)] := hl
                  have hF := mi_let hF hw12.symm
                  have aw12 : w12.toInt = v4_19.toInt + 1 := by rw [← hw12]; first | exact va1 (Int.lt_of_le_of_lt h_v4_19.2 (by decide)) | exact va1 (by omega)
                  refine lv_goto (tgt := 19) hx hb dX11_post_116 (by decide) ?_
                  exact ih19 (v2_34) (v3_34) (w12) nu34_ _ _ _ (by first | exact ms_up hm_19 aw12 h_v4_19.2 | exact ms_lt hm_19 (by omega) (by omega) | omega) (by first | exact rg_up aw12 h_v4_19 (by omega) | omega)  ok hP  kq34_0 hF hS (lv_sub hl [0, 2, 3, 4, 5] rfl)
                · have hF := (if_neg c_11).symm.trans hF
                  have c_11 : v5_34.toInt < y10.toInt := il_nle c_11
                  refine lv_iload hx hb dX11_post_46 (lv_at hl 1 rfl) ?_
                  refine lv_iload hx hb dX11_post_48 (lv_at hl 0 rfl) ?_
                  refine lv_icmp_ne (tgt := 56) hx hb dX11_post_50 (by decide) (fun c_13 => ?_) (fun c_13 => ?_)
                  · have hF := (if_neg c_13).symm.trans hF
                    have c_13 : ¬ v4_19.toInt = v5_34.toInt := il_ne c_13
                    refine lv_aload_n hx hb dX11_post_56 rfl (lv_at hl 4 rfl) ?_
                    refine va_get (D := (dC, dI)) (ci := 11) (v := .ref (ad 32)) (C := RX11) (T := TX11) (N := 11) hx hb hts inG11 hown hK hP 0 (gX_0 cs ad nu34_) rfl 6 (by decide) (hts _ (List.mem_cons_of_mem _ mw_2_164)) (fun _ h9 => h9) rfl dX11_post_57 ?_
                    refine lv_aload_n hx hb dX11_post_60 rfl (lv_at hl 4 rfl) ?_
                    refine va_get (D := (dC, dI)) (ci := 11) (v := .ref (ad 4)) (C := RX11) (T := TX11) (N := 11) hx hb hts inG11 hown hK hP 0 (gX_0 cs ad nu34_) rfl 3 (by decide) (hts _ (List.mem_cons_of_mem _ mw_2_161)) (fun _ h9 => h9) rfl dX11_post_61 ?_
                    refine lv_iload hx hb dX11_post_64 (lv_at hl 1 rfl) ?_
                    refine lv_iload hx hb dX11_post_66 (lv_at hl 0 rfl) ?_
                    have hFc := fr_all (wR_D nu34_ hD) hS hA
                    refine va_callv (va_runV (As := [.ref (ad 4), .int v4_19, .int v5_34]) (rest := []) ⟨hx, hb, hml, hown, hts⟩ (sx_walkNew l dC dI cs ad nu34_ ok H hP ((wR_D nu34_ hD).weaken (fun _ _ _ _ => trivial)) v4_19 v5_34 (by omega)) (cwV 3 hts (wU_V mw_4_142 mw_4_139 mw_4_140 mw_4_141 mw_1_8) rfl rfl rfl (by decide +kernel) ⟨Nat.le_of_ble_eq_true rfl, Nat.le_of_ble_eq_true rfl⟩) ⟨sz_c, va_recv hK hP (ci := 5) (q0 := 32) rfl (gX_32 cs ad nu34_), sz_m hK hz⟩ rfl rfl hl.1 rfl (lv_room (Nat.le_of_ble_eq_true rfl)) dX11_post_68 ⟨Nat.zero_le _, Nat.zero_le _⟩) hS (fun q _ h => hFc q h) hFc (fun xi14 t H14 locs ht hvm hw14 hB hz1 hk1 hS => ?_)
                    have hP : va_P (dC, dI) vwCl (wR 157 ad (EX cs ad) xi14) H14 := by rw [← ht]; exact hB
                    obtain ⟨hfe14, ok, hw14, hkp14_0⟩ := hw14
                    have hF := mi_let hF hfe14
                    have kp15 : (∀ k f : Nat, Nat.testBit 510 (gpX k f) = true → xi14 k f = mu k f) := kp_t hkp14_0 (by decide) kq34_0
                    refine lv_aload_n hx hb dX11_post_71 rfl (lv_at hl 4 rfl) ?_
                    refine va_get (D := (dC, dI)) (ci := 11) (v := .ref (ad 32)) (C := RX11) (T := TX11) (N := 11) hx hb hts inG11 hown hK hP 0 (gX_0 cs ad xi14) rfl 6 (by decide) (hts _ (List.mem_cons_of_mem _ mw_2_164)) (fun _ h9 => h9) rfl dX11_post_72 ?_
                    refine va_get (D := (dC, dI)) (ci := 5) (v := .ref (ad 55)) (C := RX5) (T := TX5) (N := 15) hx hb hts inG5 hown hK hP 32 (gX_32 cs ad xi14) rfl 3 (by decide) (hts _ (List.mem_cons_of_mem _ mw_2_50)) (fun _ h9 => h9) rfl dX11_post_75 ?_
                    refine va_get (D := (dC, dI)) (ci := 0) (v := .int (xi14 55 3)) (C := RX0) (T := TX0) (N := 4) hx hb hts inG0 hown hK hP 55 (gX_55 cs ad xi14) rfl 3 (by decide) (hts _ (List.mem_cons_of_mem _ mw_2_36)) (fun _ h9 => h9) rfl dX11_post_78 ?_
                    refine lv_topi (fun y16 ey16 => ?_)
                    have hF := mi_let hF ey16
                    have by16 : y16.toInt = (xi14 55 3).toInt := congrArg Int32.toInt ey16
                    have gy16 : 0 ≤ y16.toInt ∧ y16.toInt ≤ 1 := by rw [ey16]; exact rX_55_3 ok
                    refine lv_if_ne (tgt := 90) hx hb dX11_post_81 (by decide) (fun c_17 => ?_) (fun c_17 => ?_)
                    · have hF := (if_neg c_17).symm.trans hF
                      have c_17 : ¬ y16.toInt = 0 := il_ne c_17
                      refine lv_iload_n hx hb dX11_post_90 rfl (lv_at hl 5 rfl) ?_
                      refine lv_aload_n hx hb dX11_post_91 rfl (lv_at hl 4 rfl) ?_
                      refine va_get (D := (dC, dI)) (ci := 11) (v := .ref (ad 32)) (C := RX11) (T := TX11) (N := 11) hx hb hts inG11 hown hK hP 0 (gX_0 cs ad xi14) rfl 6 (by decide) (hts _ (List.mem_cons_of_mem _ mw_2_164)) (fun _ h9 => h9) rfl dX11_post_92 ?_
                      refine va_get (D := (dC, dI)) (ci := 5) (v := .ref (ad 55)) (C := RX5) (T := TX5) (N := 15) hx hb hts inG5 hown hK hP 32 (gX_32 cs ad xi14) rfl 3 (by decide) (hts _ (List.mem_cons_of_mem _ mw_2_50)) (fun _ h9 => h9) rfl dX11_post_95 ?_
                      refine va_get (D := (dC, dI)) (ci := 0) (v := .int (xi14 55 2)) (C := RX0) (T := TX0) (N := 4) hx hb hts inG0 hown hK hP 55 (gX_55 cs ad xi14) rfl 2 (by decide) (hts _ (List.mem_cons_of_mem _ mw_2_33)) (fun _ h9 => h9) rfl dX11_post_98 ?_
                      refine lv_topi (fun y18 ey18 => ?_)
                      have hF := mi_let hF ey18
                      have by18 : y18.toInt = (xi14 55 2).toInt := congrArg Int32.toInt ey18
                      refine lv_icmp_ge (tgt := 107) hx hb dX11_post_101 (by decide) (fun c_19 => ?_) (fun c_19 => ?_)
                      · have hF := (if_pos c_19).symm.trans hF
                        have c_19 : y18.toInt ≤ vv.toInt := il_le c_19
                        refine lv_iinc (v := (v5_34 + 1)) (lv' := [(5, .int (v5_34 + 1)), (4, .int v4_19), (3, .int v3_34), (2, .int v2_34), (0, .ref (ad 0)), (1, .int vv)]) hx hb dX11_post_107 hl (k := 0) rfl rfl (by decide) rfl (fun ls hl => ?_)
                        refine loc_gen (P := fun w9 => lv_has ls 6 [(5, .int w9), (4, .int v4_19), (3, .int v3_34), (2, .int v2_34), (0, .ref (ad 0)), (1, .int vv)]) (v5_34 + 1) hl (fun w20 hw20 hl => ?_)
                        have hl : lv_has ls 6 [(5, .int w20), (4, .int v4_19), (3, .int v3_34), (2, .int v2_34), (0, .ref (ad 0)), (1, .int vv)] := hl
                        have hF := mi_let hF hw20.symm
                        have aw20 : w20.toInt = v5_34.toInt + 1 := by rw [← hw20]; first | exact va1 (Int.lt_of_le_of_lt h_v5_34.2 (by decide)) | exact va1 (by omega)
                        refine lv_goto (tgt := 34) hx hb dX11_post_110 (by decide) ?_
                        exact ih34 (v2_34) (v3_34) (w20) xi14 _ _ _ (by first | exact ms_up hm_34 aw20 h_v5_34.2 | exact ms_lt hm_34 (by omega) (by omega) | omega) (by first | exact rg_up aw20 h_v5_34 (by omega) | omega)  ok hP  kp15 hF hS (lv_sub hl [0, 1, 2, 3, 4, 5] rfl)
                      · have hF := (if_neg c_19).symm.trans hF
                        have c_19 : vv.toInt < y18.toInt := il_nle c_19
                        refine lv_iinc (v := (v2_34 + 1)) (lv' := [(2, .int (v2_34 + 1)), (5, .int v5_34), (4, .int v4_19), (3, .int v3_34), (0, .ref (ad 0)), (1, .int vv)]) hx hb dX11_post_104 hl (k := 3) rfl rfl (by decide) rfl (fun ls hl => ?_)
                        refine loc_gen (P := fun w9 => lv_has ls 6 [(2, .int w9), (5, .int v5_34), (4, .int v4_19), (3, .int v3_34), (0, .ref (ad 0)), (1, .int vv)]) (v2_34 + 1) hl (fun w21 hw21 hl => ?_)
                        have hl : lv_has ls 6 [(2, .int w21), (5, .int v5_34), (4, .int v4_19), (3, .int v3_34), (0, .ref (ad 0)), (1, .int vv)] := hl
                        have hF := mi_let hF hw21.symm
                        refine lv_iinc (v := (v5_34 + 1)) (lv' := [(5, .int (v5_34 + 1)), (2, .int w21), (4, .int v4_19), (3, .int v3_34), (0, .ref (ad 0)), (1, .int vv)]) hx hb dX11_post_107 hl (k := 1) rfl rfl (by decide) rfl (fun ls hl => ?_)
                        refine loc_gen (P := fun w9 => lv_has ls 6 [(5, .int w9), (2, .int w21), (4, .int v4_19), (3, .int v3_34), (0, .ref (ad 0)), (1, .int vv)]) (v5_34 + 1) hl (fun w22 hw22 hl => ?_)
                        have hl : lv_has ls 6 [(5, .int w22), (2, .int w21), (4, .int v4_19), (3, .int v3_34), (0, .ref (ad 0)), (1, .int vv)] := hl
                        have hF := mi_let hF hw22.symm
                        have aw22 : w22.toInt = v5_34.toInt + 1 := by rw [← hw22]; first | exact va1 (Int.lt_of_le_of_lt h_v5_34.2 (by decide)) | exact va1 (by omega)
                        refine lv_goto (tgt := 34) hx hb dX11_post_110 (by decide) ?_
                        exact ih34 (w21) (v3_34) (w22) xi14 _ _ _ (by first | exact ms_up hm_34 aw22 h_v5_34.2 | exact ms_lt hm_34 (by omega) (by omega) | omega) (by first | exact rg_up aw22 h_v5_34 (by omega) | omega)  ok hP  kp15 hF hS (lv_sub hl [0, 2, 3, 1, 4, 5] rfl)
                    · have hF := (if_pos c_17).symm.trans hF
                      have c_17 : y16.toInt = 0 := il_eq c_17
                      refine lv_iinc (v := (v3_34 + 1)) (lv' := [(3, .int (v3_34 + 1)), (5, .int v5_34), (4, .int v4_19), (2, .int v2_34), (0, .ref (ad 0)), (1, .int vv)]) hx hb dX11_post_84 hl (k := 2) rfl rfl (by decide) rfl (fun ls hl => ?_)
                      refine loc_gen (P := fun w9 => lv_has ls 6 [(3, .int w9), (5, .int v5_34), (4, .int v4_19), (2, .int v2_34), (0, .ref (ad 0)), (1, .int vv)]) (v3_34 + 1) hl (fun w23 hw23 hl => ?_)
                      have hl : lv_has ls 6 [(3, .int w23), (5, .int v5_34), (4, .int v4_19), (2, .int v2_34), (0, .ref (ad 0)), (1, .int vv)] := hl
                      have hF := mi_let hF hw23.symm
                      refine lv_goto (tgt := 107) hx hb dX11_post_87 (by decide) ?_
                      refine lv_iinc (v := (v5_34 + 1)) (lv' := [(5, .int (v5_34 + 1)), (3, .int w23), (4, .int v4_19), (2, .int v2_34), (0, .ref (ad 0)), (1, .int vv)]) hx hb dX11_post_107 hl (k := 1) rfl rfl (by decide) rfl (fun ls hl => ?_)
                      refine loc_gen (P := fun w9 => lv_has ls 6 [(5, .int w9), (3, .int w23), (4, .int v4_19), (2, .int v2_34), (0, .ref (ad 0)), (1, .int vv)]) (v5_34 + 1) hl (fun w24 hw24 hl => ?_)
                      have hl : lv_has ls 6 [(5, .int w24), (3, .int w23), (4, .int v4_19), (2, .int v2_34), (0, .ref (ad 0)), (1, .int vv)] := hl
                      have hF := mi_let hF hw24.symm
                      have aw24 : w24.toInt = v5_34.toInt + 1 := by rw [← hw24]; first | exact va1 (Int.lt_of_le_of_lt h_v5_34.2 (by decide)) | exact va1 (by omega)
                      refine lv_goto (tgt := 34) hx hb dX11_post_110 (by decide) ?_
                      exact ih34 (v2_34) (w23) (w24) xi14 _ _ _ (by first | exact ms_up hm_34 aw24 h_v5_34.2 | exact ms_lt hm_34 (by omega) (by omega) | omega) (by first | exact rg_up aw24 h_v5_34 (by omega) | omega)  ok hP  kp15 hF hS (lv_sub hl [0, 2, 1, 3, 4, 5] rfl)
                  · have hF := (if_pos c_13).symm.trans hF
                    have c_13 : v4_19.toInt = v5_34.toInt := il_eq c_13
                    refine lv_goto (tgt := 107) hx hb dX11_post_53 (by decide) ?_
                    refine lv_iinc (v := (v5_34 + 1)) (lv' := [(5, .int (v5_34 + 1)), (4, .int v4_19), (3, .int v3_34), (2, .int v2_34), (0, .ref (ad 0)), (1, .int vv)]) hx hb dX11_post_107 hl (k := 0) rfl rfl (by decide) rfl (fun ls hl => ?_)
                    refine loc_gen (P := fun w9 => lv_has ls 6 [(5, .int w9), (4, .int v4_19), (3, .int v3_34), (2, .int v2_34), (0, .ref (ad 0)), (1, .int vv)]) (v5_34 + 1) hl (fun w25 hw25 hl => ?_)
                    have hl : lv_has ls 6 [(5, .int w25), (4, .int v4_19), (3, .int v3_34), (2, .int v2_34), (0, .ref (ad 0)), (1, .int vv)] := hl
                    have hF := mi_let hF hw25.symm
                    have aw25 : w25.toInt = v5_34.toInt + 1 := by rw [← hw25]; first | exact va1 (Int.lt_of_le_of_lt h_v5_34.2 (by decide)) | exact va1 (by omega)
                    refine lv_goto (tgt := 34) hx hb dX11_post_110 (by decide) ?_
                    exact ih34 (v2_34) (v3_34) (w25) nu34_ _ _ _ (by first | exact ms_up hm_34 aw25 h_v5_34.2 | exact ms_lt hm_34 (by omega) (by omega) | omega) (by first | exact rg_up aw25 h_v5_34 (by omega) | omega)  ok hP  kq34_0 hF hS (lv_sub hl [0, 1, 2, 3, 4, 5] rfl)
            exact loop34 10 (v2_19) (v3_19) (0) nu19_ _ _ _ (by have h82 : (0 : Int32).toInt = 0 := rfl; omega) (by have h80 : (0 : Int32).toInt = 0 := rfl; exact ⟨by omega, by omega⟩)  ok hP  kq19_0 hF hS hl
      exact loop19 10 (0) (0) (0) mu _ _ _ (by have h80 : (0 : Int32).toInt = 0 := rfl; have h81 : (0 : Int32).toInt = 0 := rfl; have h82 : (0 : Int32).toInt = 0 := rfl; omega) (by have h80 : (0 : Int32).toInt = 0 := rfl; exact ⟨by omega, by omega⟩)  ok hP  (fun _ _ _ => rfl) hF hS hl
    · have hF := (if_neg c_2).symm.trans hF
      have c_2 : 99 < vv.toInt := il_nle c_2
      refine lv_iconst (v := (-1)) hx hb dX11_post_10 (by decide) ?_
      exact W.iret (v := (-1)) hx hb hr (fun t ht hW => ⟨⟨(-1), mu, rfl, ⟨hF.trans hfz.symm, ok, trivial, (fun _ _ _ => rfl)⟩, by first | (subst ht; exact hP) | (rw [ht]; exact hP) | (show va_P (dC, dI) vwCl (wR 157 ad (EX cs ad) mu) t.heap; rw [ht]; exact hP)⟩, hS.F ht⟩) hS.2.2 dX11_post_11
set_option maxHeartbeats 4000000 in
set_option maxRecDepth 100000 in
/-- qx_fake -/
theorem qx_fake (l : Launch) (dC : Nat → ClassId) (dI : Nat → Nat → Nat) (cs : Nat → ClassId) (ad : Nat → Nat) (mu : Nat → Nat → Int32) (ok : okR loX hiX mu) (H : Heap) (hP : va_P (dC, dI) vwCl (wR 157 ad (EX cs ad) mu) H) (hD0 : va_D (fun _ => True) (wR 157 ad (EX cs ad) mu)) (vx : Int32) (vy : Int32) (vw : Int32) : Met l yX11_fake (wU yX11_fake cX11_fake 4 (some .int)) ({ frames := 11, cells := 0, slots := 0, locals := 319 }) (va_Pc [.ref (ad 0), .int vx, .int vy, .int vw] (sz_P (dC, dI) vwCl (tyW cs) H)) (va_Qi (fun (z : Int32) (xi : Nat → Nat → Int32) => (z, xi) = F_qx_fake mu vx vy vw ∧ okR loX hiX xi ∧ (True) ∧ (∀ k f : Nat, Nat.testBit 510 (gpX k f) = true → xi k f = mu k f)) (fun xi t => va_P (dC, dI) vwCl (wR 157 ad (EX cs ad) xi) t.heap) (va_A (wR 157 ad (EX cs ad) mu) H.size)) 0 0 (va_A (wR 157 ad (EX cs ad) mu) H.size) := by
  refine Met.ofW (cc := cX11_fake) (maxL := 4) (ret := (some .int)) (by decide) rfl ?_
  intro p e s m args below meth c s₁ B hml hv
  obtain ⟨rfl, hh, hK, hz⟩ := hv
  have hx := B.exec
  have hb := B.bytes
  have hr := B.returns
  have hts := atoms_spec (ws := (wU yX11_fake cX11_fake 4 (some .int))) B.pre
  have hown : s.vm.findClass RX11 = some m.cls := findClass_of_methodNamed B.named
  have hlocks := B.notSynchronized
  subst hh
  have hD := hD0.self (sz := s.heap.size)
  have hA : ∀ q : Nat, s.heap.size ≤ q → (va_A (wR 157 ad (EX cs ad) mu) s.heap.size) q := fun q h => Or.inr h
  have hS : va_S (va_A (wR 157 ad (EX cs ad) mu) s.heap.size) s.heap s.heap [] := va_S.rf
  have hl := lv_entry ([.ref (ad 0), .int vx, .int vy, .int vw]) (n := 4) (Nat.le_of_ble_eq_true rfl)
  rw [lg_entry_eq]
  generalize (lg_sl ([.ref (ad 0), .int vx, .int vy, .int vw]) ++ List.replicate (4 - (lg_sl ([.ref (ad 0), .int vx, .int vy, .int vw])).length) Slot.unset).toArray = ls at hl ⊢
  have hl : lv_has ls 4 [(0, .ref (ad 0)), (1, .int vx), (2, .int vy), (3, .int vw)] := hl
  obtain ⟨fz, hfz⟩ : ∃ z, F_qx_fake mu vx vy vw = z := ⟨_, rfl⟩
  have hF := hfz
  unfold F_qx_fake at hF
  refine lv_aload_n hx hb dX11_fake_0 rfl (lv_at hl 0 rfl) ?_
  refine lv_iload_n hx hb dX11_fake_1 rfl (lv_at hl 1 rfl) ?_
  refine lv_iload_n hx hb dX11_fake_2 rfl (lv_at hl 2 rfl) ?_
  refine cr_i (va_runV (As := [.int vx, .int vy]) (rest := []) ⟨hx, hb, hml, hown, hts⟩ (sx_isPair l dC dI cs ad mu ok s.heap hP vx vy) (cwV 2 hts (wU_V mw_3_145 mw_3_142 mw_3_144 mw_0_7 mw_1_1) rfl rfl rfl (by decide +kernel) ⟨Nat.le_of_ble_eq_true rfl, Nat.le_of_ble_eq_true rfl⟩) ⟨sz_c, va_recv hK hP (ci := 11) (q0 := 0) rfl (gX_0 cs ad mu), sz_m hK hz⟩ rfl rfl hl.1 rfl (lv_room (Nat.le_of_ble_eq_true rfl)) dX11_fake_3 ⟨Nat.zero_le _, Nat.zero_le _⟩) hS (fun r1 hw1 locs hS => ?_)
  obtain ⟨hfe1, hw1⟩ := hw1
  rcases hw1 with ⟨rfl, f1⟩ | ⟨rfl, f1⟩
  · have hF := (if_pos hfe1.symm).symm.trans hF
    have f1 : 0 ≤ vx.toInt ∧ vx.toInt < (mu 4 6).toInt ∧ 0 ≤ vy.toInt ∧ vy.toInt < (mu 4 6).toInt ∧ (mu 4 6).toInt ≤ 7 := f1
    refine lv_if_eq (tgt := 19) hx hb dX11_fake_6 (by decide) (fun c => absurd c (by decide)) (fun _ => ?_)
    refine lv_iload_n hx hb dX11_fake_9 rfl (lv_at hl 3 rfl) ?_
    refine lv_if_lt (tgt := 19) hx hb dX11_fake_10 (by decide) (fun c_2 => ?_) (fun c_2 => ?_)
    · have hF := (if_pos c_2).symm.trans hF
      have c_2 : vw.toInt < 0 := il_lt c_2
      refine lv_iconst (v := (-1)) hx hb dX11_fake_19 (by decide) ?_
      exact W.iret (v := (-1)) hx hb hr (fun t ht hW => ⟨⟨(-1), mu, rfl, ⟨hF.trans hfz.symm, ok, trivial, (fun _ _ _ => rfl)⟩, by first | (subst ht; exact hP) | (rw [ht]; exact hP) | (show va_P (dC, dI) vwCl (wR 157 ad (EX cs ad) mu) t.heap; rw [ht]; exact hP)⟩, hS.F ht⟩) hS.2.2 dX11_fake_20
    · have hF := (if_neg c_2).symm.trans hF
      have c_2 : 0 ≤ vw.toInt := il_nlt c_2
      refine lv_iload_n hx hb dX11_fake_13 rfl (lv_at hl 3 rfl) ?_
      refine lv_bipush (v := 99) hx hb dX11_fake_14 (by decide) ?_
      refine lv_icmp_le (tgt := 21) hx hb dX11_fake_16 (by decide) (fun c_3 => ?_) (fun c_3 => ?_)
      · have hF := (if_pos c_3).symm.trans hF
        have c_3 : vw.toInt ≤ 99 := il_le c_3
        refine lv_aload_n hx hb dX11_fake_21 rfl (lv_at hl 0 rfl) ?_
        refine va_get (D := (dC, dI)) (ci := 11) (v := .ref (ad 32)) (C := RX11) (T := TX11) (N := 11) hx hb hts inG11 hown hK hP 0 (gX_0 cs ad mu) rfl 6 (by decide) (hts _ (List.mem_cons_of_mem _ mw_2_164)) (fun _ h9 => h9) rfl dX11_fake_22 ?_
        refine lv_aload_n hx hb dX11_fake_25 rfl (lv_at hl 0 rfl) ?_
        refine va_get (D := (dC, dI)) (ci := 11) (v := .ref (ad 4)) (C := RX11) (T := TX11) (N := 11) hx hb hts inG11 hown hK hP 0 (gX_0 cs ad mu) rfl 3 (by decide) (hts _ (List.mem_cons_of_mem _ mw_2_161)) (fun _ h9 => h9) rfl dX11_fake_26 ?_
        refine lv_iload_n hx hb dX11_fake_29 rfl (lv_at hl 1 rfl) ?_
        refine lv_iload_n hx hb dX11_fake_30 rfl (lv_at hl 2 rfl) ?_
        have hFc := fr_all (wR_D mu hD) hS hA
        refine va_callv (va_runV (As := [.ref (ad 4), .int vx, .int vy]) (rest := []) ⟨hx, hb, hml, hown, hts⟩ (sx_walkNew l dC dI cs ad mu ok s.heap hP ((wR_D mu hD).weaken (fun _ _ _ _ => trivial)) vx vy (by omega)) (cwV 3 hts (wU_V mw_4_142 mw_4_139 mw_4_140 mw_4_141 mw_1_8) rfl rfl rfl (by decide +kernel) ⟨Nat.le_of_ble_eq_true rfl, Nat.le_of_ble_eq_true rfl⟩) ⟨sz_c, va_recv hK hP (ci := 5) (q0 := 32) rfl (gX_32 cs ad mu), sz_m hK hz⟩ rfl rfl hl.1 rfl (lv_room (Nat.le_of_ble_eq_true rfl)) dX11_fake_31 ⟨Nat.zero_le _, Nat.zero_le _⟩) hS (fun q _ h => hFc q h) hFc (fun xi4 t H4 locs ht hvm hw4 hB hz1 hk1 hS => ?_)
        have hP : va_P (dC, dI) vwCl (wR 157 ad (EX cs ad) xi4) H4 := by rw [← ht]; exact hB
        obtain ⟨hfe4, ok, hw4, hkp4_0⟩ := hw4
        have hF := mi_let hF hfe4
        have kp5 : (∀ k f : Nat, Nat.testBit 510 (gpX k f) = true → xi4 k f = mu k f) := kp_t hkp4_0 (by decide) (fun _ _ _ => rfl)
        refine lv_aload_n hx hb dX11_fake_34 rfl (lv_at hl 0 rfl) ?_
        refine va_get (D := (dC, dI)) (ci := 11) (v := .ref (ad 32)) (C := RX11) (T := TX11) (N := 11) hx hb hts inG11 hown hK hP 0 (gX_0 cs ad xi4) rfl 6 (by decide) (hts _ (List.mem_cons_of_mem _ mw_2_164)) (fun _ h9 => h9) rfl dX11_fake_35 ?_
        refine va_get (D := (dC, dI)) (ci := 5) (v := .ref (ad 55)) (C := RX5) (T := TX5) (N := 15) hx hb hts inG5 hown hK hP 32 (gX_32 cs ad xi4) rfl 3 (by decide) (hts _ (List.mem_cons_of_mem _ mw_2_50)) (fun _ h9 => h9) rfl dX11_fake_38 ?_
        refine va_get (D := (dC, dI)) (ci := 0) (v := .int (xi4 55 3)) (C := RX0) (T := TX0) (N := 4) hx hb hts inG0 hown hK hP 55 (gX_55 cs ad xi4) rfl 3 (by decide) (hts _ (List.mem_cons_of_mem _ mw_2_36)) (fun _ h9 => h9) rfl dX11_fake_41 ?_
        refine lv_topi (fun y6 ey6 => ?_)
        have hF := mi_let hF ey6
        have by6 : y6.toInt = (xi4 55 3).toInt := congrArg Int32.toInt ey6
        have gy6 : 0 ≤ y6.toInt ∧ y6.toInt ≤ 1 := by rw [ey6]; exact rX_55_3 ok
        refine lv_if_eq (tgt := 74) hx hb dX11_fake_44 (by decide) (fun c_7 => ?_) (fun c_7 => ?_)
        · have hF := (if_pos c_7).symm.trans hF
          have c_7 : y6.toInt = 0 := il_eq c_7
          refine lv_iconst (v := 0) hx hb dX11_fake_74 (by decide) ?_
          exact W.iret (v := 0) hx hb hr (fun t ht hW => ⟨⟨0, xi4, rfl, ⟨hF.trans hfz.symm, ok, trivial, kp5⟩, by first | (subst ht; exact hP) | (rw [ht]; exact hP) | (show va_P (dC, dI) vwCl (wR 157 ad (EX cs ad) xi4) t.heap; rw [ht]; exact hP)⟩, hS.F ht⟩) hS.2.2 dX11_fake_75
        · have hF := (if_neg c_7).symm.trans hF
          have c_7 : ¬ y6.toInt = 0 := il_ne c_7
          refine lv_aload_n hx hb dX11_fake_47 rfl (lv_at hl 0 rfl) ?_
          refine va_get (D := (dC, dI)) (ci := 11) (v := .ref (ad 32)) (C := RX11) (T := TX11) (N := 11) hx hb hts inG11 hown hK hP 0 (gX_0 cs ad xi4) rfl 6 (by decide) (hts _ (List.mem_cons_of_mem _ mw_2_164)) (fun _ h9 => h9) rfl dX11_fake_48 ?_
          refine va_get (D := (dC, dI)) (ci := 5) (v := .ref (ad 55)) (C := RX5) (T := TX5) (N := 15) hx hb hts inG5 hown hK hP 32 (gX_32 cs ad xi4) rfl 3 (by decide) (hts _ (List.mem_cons_of_mem _ mw_2_50)) (fun _ h9 => h9) rfl dX11_fake_51 ?_
          refine va_get (D := (dC, dI)) (ci := 0) (v := .int (xi4 55 2)) (C := RX0) (T := TX0) (N := 4) hx hb hts inG0 hown hK hP 55 (gX_55 cs ad xi4) rfl 2 (by decide) (hts _ (List.mem_cons_of_mem _ mw_2_33)) (fun _ h9 => h9) rfl dX11_fake_54 ?_
          refine lv_topi (fun y8 ey8 => ?_)
          have hF := mi_let hF ey8
          have by8 : y8.toInt = (xi4 55 2).toInt := congrArg Int32.toInt ey8
          refine lv_iload_n hx hb dX11_fake_57 rfl (lv_at hl 3 rfl) ?_
          refine lv_icmp_gt (tgt := 74) hx hb dX11_fake_58 (by decide) (fun c_9 => ?_) (fun c_9 => ?_)
          · have hF := (if_pos c_9).symm.trans hF
            have c_9 : vw.toInt < y8.toInt := il_lt c_9
            refine lv_iconst (v := 0) hx hb dX11_fake_74 (by decide) ?_
            exact W.iret (v := 0) hx hb hr (fun t ht hW => ⟨⟨0, xi4, rfl, ⟨hF.trans hfz.symm, ok, trivial, kp5⟩, by first | (subst ht; exact hP) | (rw [ht]; exact hP) | (show va_P (dC, dI) vwCl (wR 157 ad (EX cs ad) xi4) t.heap; rw [ht]; exact hP)⟩, hS.F ht⟩) hS.2.2 dX11_fake_75
          · have hF := (if_neg c_9).symm.trans hF
            have c_9 : y8.toInt ≤ vw.toInt := il_nlt c_9
            refine lv_aload_n hx hb dX11_fake_61 rfl (lv_at hl 0 rfl) ?_
            refine va_get (D := (dC, dI)) (ci := 11) (v := .ref (ad 32)) (C := RX11) (T := TX11) (N := 11) hx hb hts inG11 hown hK hP 0 (gX_0 cs ad xi4) rfl 6 (by decide) (hts _ (List.mem_cons_of_mem _ mw_2_164)) (fun _ h9 => h9) rfl dX11_fake_62 ?_
            refine va_get (D := (dC, dI)) (ci := 5) (v := .ref (ad 55)) (C := RX5) (T := TX5) (N := 15) hx hb hts inG5 hown hK hP 32 (gX_32 cs ad xi4) rfl 3 (by decide) (hts _ (List.mem_cons_of_mem _ mw_2_50)) (fun _ h9 => h9) rfl dX11_fake_65 ?_
            refine va_get (D := (dC, dI)) (ci := 0) (v := .int (xi4 55 2)) (C := RX0) (T := TX0) (N := 4) hx hb hts inG0 hown hK hP 55 (gX_55 cs ad xi4) rfl 2 (by decide) (hts _ (List.mem_cons_of_mem _ mw_2_33)) (fun _ h9 => h9) rfl dX11_fake_68 ?_
            refine lq_i y8 ey8.symm ?_
            refine lv_goto (tgt := 75) hx hb dX11_fake_71 (by decide) ?_
            exact W.iret (v := y8) hx hb hr (fun t ht hW => ⟨⟨y8, xi4, rfl, ⟨hF.trans hfz.symm, ok, trivial, kp5⟩, by first | (subst ht; exact hP) | (rw [ht]; exact hP) | (show va_P (dC, dI) vwCl (wR 157 ad (EX cs ad) xi4) t.heap; rw [ht]; exact hP)⟩, hS.F ht⟩) hS.2.2 dX11_fake_75
      · have hF := (if_neg c_3).symm.trans hF
        have c_3 : 99 < vw.toInt := il_nle c_3
        refine lv_iconst (v := (-1)) hx hb dX11_fake_19 (by decide) ?_
        exact W.iret (v := (-1)) hx hb hr (fun t ht hW => ⟨⟨(-1), mu, rfl, ⟨hF.trans hfz.symm, ok, trivial, (fun _ _ _ => rfl)⟩, by first | (subst ht; exact hP) | (rw [ht]; exact hP) | (show va_P (dC, dI) vwCl (wR 157 ad (EX cs ad) mu) t.heap; rw [ht]; exact hP)⟩, hS.F ht⟩) hS.2.2 dX11_fake_20
  · have hF := (if_neg (fun h => absurd (hfe1.trans h) (by decide))).symm.trans hF
    have f1 : True := f1
    refine lv_if_eq (tgt := 19) hx hb dX11_fake_6 (by decide) (fun _ => ?_) (fun c => absurd (by decide) c)
    refine lv_iconst (v := (-1)) hx hb dX11_fake_19 (by decide) ?_
    exact W.iret (v := (-1)) hx hb hr (fun t ht hW => ⟨⟨(-1), mu, rfl, ⟨hF.trans hfz.symm, ok, trivial, (fun _ _ _ => rfl)⟩, by first | (subst ht; exact hP) | (rw [ht]; exact hP) | (show va_P (dC, dI) vwCl (wR 157 ad (EX cs ad) mu) t.heap; rw [ht]; exact hP)⟩, hS.F ht⟩) hS.2.2 dX11_fake_20
set_option maxHeartbeats 4000000 in
set_option maxRecDepth 100000 in
/-- qx_had -/
theorem qx_had (l : Launch) (dC : Nat → ClassId) (dI : Nat → Nat → Nat) (cs : Nat → ClassId) (ad : Nat → Nat) (mu : Nat → Nat → Int32) (ok : okR loX hiX mu) (H : Heap) (hP : va_P (dC, dI) vwCl (wR 157 ad (EX cs ad) mu) H) (hD0 : va_D (fun _ => True) (wR 157 ad (EX cs ad) mu)) (vx : Int32) (vr : Int32) : Met l yX11_had (wU yX11_had cX11_had 4 (some .int)) ({ frames := 10, cells := 0, slots := 0, locals := 309 }) (va_Pc [.ref (ad 0), .int vx, .int vr] (sz_P (dC, dI) vwCl (tyW cs) H)) (va_Qi (fun (z : Int32) (xi : Nat → Nat → Int32) => okR loX hiX xi ∧ (True) ∧ (∀ k f : Nat, Nat.testBit 510 (gpX k f) = true → xi k f = mu k f)) (fun xi t => va_P (dC, dI) vwCl (wR 157 ad (EX cs ad) xi) t.heap) (va_A (wR 157 ad (EX cs ad) mu) H.size)) 0 0 (va_A (wR 157 ad (EX cs ad) mu) H.size) := by
  refine Met.ofW (cc := cX11_had) (maxL := 4) (ret := (some .int)) (by decide) rfl ?_
  intro p e s m args below meth c s₁ B hml hv
  obtain ⟨rfl, hh, hK, hz⟩ := hv
  have hx := B.exec
  have hb := B.bytes
  have hr := B.returns
  have hts := atoms_spec (ws := (wU yX11_had cX11_had 4 (some .int))) B.pre
  have hown : s.vm.findClass RX11 = some m.cls := findClass_of_methodNamed B.named
  have hlocks := B.notSynchronized
  subst hh
  have hD := hD0.self (sz := s.heap.size)
  have hA : ∀ q : Nat, s.heap.size ≤ q → (va_A (wR 157 ad (EX cs ad) mu) s.heap.size) q := fun q h => Or.inr h
  have hS : va_S (va_A (wR 157 ad (EX cs ad) mu) s.heap.size) s.heap s.heap [] := va_S.rf
  have hl := lv_entry ([.ref (ad 0), .int vx, .int vr]) (n := 4) (Nat.le_of_ble_eq_true rfl)
  rw [lg_entry_eq]
  generalize (lg_sl ([.ref (ad 0), .int vx, .int vr]) ++ List.replicate (4 - (lg_sl ([.ref (ad 0), .int vx, .int vr])).length) Slot.unset).toArray = ls at hl ⊢
  have hl : lv_has ls 4 [(0, .ref (ad 0)), (1, .int vx), (2, .int vr)] := hl
  refine lv_aload_n hx hb dX11_had_0 rfl (lv_at hl 0 rfl) ?_
  refine lv_iload_n hx hb dX11_had_1 rfl (lv_at hl 1 rfl) ?_
  refine lv_iload_n hx hb dX11_had_2 rfl (lv_at hl 2 rfl) ?_
  refine lv_iconst (v := 0) hx hb dX11_had_3 (by decide) ?_
  have hFc := fr_all (wR_D mu hD) hS hA
  refine va_calli (va_runV (As := [.int vx, .int vr, .int 0]) (rest := []) ⟨hx, hb, hml, hown, hts⟩ (sx_refusedPrices l dC dI cs ad mu ok s.heap hP ((wR_D mu hD).weaken (fun _ _ _ _ => trivial)) vx vr 0) (cwV 3 hts (wU_V mw_4_162 mw_4_159 mw_4_161 mw_0_20 mw_1_1) rfl rfl rfl (by decide +kernel) ⟨Nat.le_of_ble_eq_true rfl, Nat.le_of_ble_eq_true rfl⟩) ⟨sz_c, va_recv hK hP (ci := 11) (q0 := 0) rfl (gX_0 cs ad mu), sz_m hK hz⟩ rfl rfl hl.1 rfl (lv_room (Nat.le_of_ble_eq_true rfl)) dX11_had_4 ⟨Nat.zero_le _, Nat.zero_le _⟩) hS (fun q _ h => hFc q h) hFc (fun r1 xi1 t H1 locs ht hvm hw1 hB hz1 hk1 hS => ?_)
  have hP : va_P (dC, dI) vwCl (wR 157 ad (EX cs ad) xi1) H1 := by rw [← ht]; exact hB
  rcases hw1 with ⟨rfl, hxi1, f1⟩ | ⟨z1, ok, hkp1_0⟩
  · have hP : va_P (dC, dI) vwCl (wR 157 ad (EX cs ad) mu) H1 := by rw [← hxi1]; exact hP
    have f1 : 0 ≤ vx.toInt ∧ vx.toInt < (mu 4 6).toInt ∧ (mu 4 6).toInt ≤ 7 ∧ 0 ≤ vr.toInt ∧ vr.toInt ≤ 5 ∧ 0 ≤ (mu (8 + vr.toNatClampNeg) 1).toInt ∧ (mu (8 + vr.toNatClampNeg) 1).toInt ≤ 40 ∧ (mu (8 + vr.toNatClampNeg) 1).toInt ≤ 6 ∧ (0 : Int) = 0 := f1
    refine lv_istore_n (lv' := [(3, .int 0), (0, .ref (ad 0)), (1, .int vx), (2, .int vr)]) hx hb dX11_had_7 rfl hl (by decide) rfl (fun ls hl => ?_)
    refine lv_iload_n hx hb dX11_had_8 rfl (lv_at hl 0 rfl) ?_
    refine lv_if_eq (tgt := 14) hx hb dX11_had_9 (by decide) (fun _ => ?_) (fun c => absurd (by decide) c)
    refine lv_aload_n hx hb dX11_had_14 rfl (lv_at hl 1 rfl) ?_
    refine va_get (D := (dC, dI)) (ci := 11) (v := .ref (ad 33)) (C := RX11) (T := TX11) (N := 11) hx hb hts inG11 hown hK hP 0 (gX_0 cs ad mu) rfl 7 (by decide) (hts _ (List.mem_cons_of_mem _ mw_2_165)) (fun _ h9 => h9) rfl dX11_had_15 ?_
    refine lv_aload_n hx hb dX11_had_18 rfl (lv_at hl 1 rfl) ?_
    refine va_get (D := (dC, dI)) (ci := 11) (v := .ref (ad 4)) (C := RX11) (T := TX11) (N := 11) hx hb hts inG11 hown hK hP 0 (gX_0 cs ad mu) rfl 3 (by decide) (hts _ (List.mem_cons_of_mem _ mw_2_161)) (fun _ h9 => h9) rfl dX11_had_19 ?_
    refine lv_iload_n hx hb dX11_had_22 rfl (lv_at hl 2 rfl) ?_
    refine lv_aload_n hx hb dX11_had_23 rfl (lv_at hl 1 rfl) ?_
    refine va_get (D := (dC, dI)) (ci := 11) (v := .ref (ad 1)) (C := RX11) (T := TX11) (N := 11) hx hb hts inG11 hown hK hP 0 (gX_0 cs ad mu) rfl 0 (by decide) (hts _ (List.mem_cons_of_mem _ mw_2_158)) (fun _ h9 => h9) rfl dX11_had_24 ?_
    refine lv_iload_n hx hb dX11_had_27 rfl (lv_at hl 3 rfl) ?_
    have hx3 : 0 ≤ vr.toInt ∧ vr.toInt < ((6 : Nat) : Int) := ⟨by omega, by omega⟩
    refine va_aldq hx hb hK hP 1 2 (gX_1 cs ad mu) rfl (show vp_in vr 6 from vi_of hx3.1 hx3.2) dX11_had_28 ?_
    have hk3 : 8 ≤ (8 + vr.toNatClampNeg) ∧ (8 + vr.toNatClampNeg) < 14 := ix_of hx3
    refine lq_v (.ref (ad (8 + vr.toNatClampNeg))) rfl ?_
    have hFc := fr_all (wR_D mu hD) hS hA
    refine va_callv (va_runV (As := [.ref (ad 4), .int vx, .ref (ad (8 + vr.toNatClampNeg))]) (rest := []) ⟨hx, hb, hml, hown, hts⟩ (sx_search l dC dI cs ad mu ok H1 hP ((wR_D mu hD).weaken (fun _ _ _ _ => trivial)) (8 + vr.toNatClampNeg) hk3.1 hk3.2 vx (by omega)) (cwV 3 hts (wU_V mw_4_166 mw_4_163 mw_4_164 mw_4_165 mw_1_10) rfl rfl rfl (by decide +kernel) ⟨Nat.le_of_ble_eq_true rfl, Nat.le_of_ble_eq_true rfl⟩) ⟨sz_c, va_recv hK hP (ci := 1) (q0 := 33) rfl (gX_33 cs ad mu), sz_m hK hz⟩ rfl rfl hl.1 rfl (lv_room (Nat.le_of_ble_eq_true rfl)) dX11_had_29 ⟨Nat.zero_le _, Nat.zero_le _⟩) hS (fun q _ h => hFc q h) hFc (fun xi4 t H4 locs ht hvm hw4 hB hz1 hk1 hS => ?_)
    have hP : va_P (dC, dI) vwCl (wR 157 ad (EX cs ad) xi4) H4 := by rw [← ht]; exact hB
    obtain ⟨ok, hw4, hkp4_0, hkp4_1⟩ := hw4
    have kp5 : (∀ k f : Nat, Nat.testBit 510 (gpX k f) = true → xi4 k f = mu k f) := kp_t hkp4_1 (by decide) (fun _ _ _ => rfl)
    refine lv_aload_n hx hb dX11_had_32 rfl (lv_at hl 1 rfl) ?_
    refine lv_aload_n hx hb dX11_had_33 rfl (lv_at hl 1 rfl) ?_
    refine va_get (D := (dC, dI)) (ci := 11) (v := .ref (ad 33)) (C := RX11) (T := TX11) (N := 11) hx hb hts inG11 hown hK hP 0 (gX_0 cs ad xi4) rfl 7 (by decide) (hts _ (List.mem_cons_of_mem _ mw_2_165)) (fun _ h9 => h9) rfl dX11_had_34 ?_
    refine va_get (D := (dC, dI)) (ci := 1) (v := .int (xi4 33 3)) (C := RX1) (T := TX1) (N := 5) hx hb hts inG1 hown hK hP 33 (gX_33 cs ad xi4) rfl 3 (by decide) (hts _ (List.mem_cons_of_mem _ mw_2_110)) (fun _ h9 => h9) rfl dX11_had_37 ?_
    refine lv_topi (fun y6 ey6 => ?_)
    have by6 : y6.toInt = (xi4 33 3).toInt := congrArg Int32.toInt ey6
    refine va_put (D := (dC, dI)) (ci := 11) (v := .int y6) (ty := .int) (C := RX11) (T := TX11) (N := 11) hx hb hts inG11 tyX11 tyX11_ok nmX11 hown hK hP (wR_D xi4 hD) hS 0 (gX_0 cs ad xi4) rfl 10 (by decide) (hts _ (List.mem_cons_of_mem _ mw_2_168)) (fun _ h9 => h9) rfl (by decide +kernel) rfl rfl (Nat.le_of_ble_eq_true rfl) dX11_had_40 (fun H locs hP _ hS => ?_)
    simp only [List.set_cons_succ, List.set_cons_zero] at hP
    refine wr_gen (upd (xi4 0) 10 y6) hP ((hX_0_10 cs ad _ _)) (fun nu7 hn7 hP => ?_)
    have ok := tX_0_10 ok hn7
    have ez8 : y6 = nu7 33 3 := ey6.trans (congrFun (up_k hn7 (by decide)) 3).symm
    have kp9 : (∀ k f : Nat, Nat.testBit 510 (gpX k f) = true → nu7 k f = mu k f) := kp_c 0 hn7 (fun _ => rfl) (by decide) kp5
    have ez10 : y6 = nu7 0 10 := up_v hn7
    refine lv_aload_n hx hb dX11_had_43 rfl (lv_at hl 1 rfl) ?_
    refine va_get (D := (dC, dI)) (ci := 11) (v := .ref (ad 33)) (C := RX11) (T := TX11) (N := 11) hx hb hts inG11 hown hK hP 0 (gX_0 cs ad nu7) rfl 7 (by decide) (hts _ (List.mem_cons_of_mem _ mw_2_165)) (fun _ h9 => h9) rfl dX11_had_44 ?_
    refine va_get (D := (dC, dI)) (ci := 1) (v := .int (nu7 33 2)) (C := RX1) (T := TX1) (N := 5) hx hb hts inG1 hown hK hP 33 (gX_33 cs ad nu7) rfl 2 (by decide) (hts _ (List.mem_cons_of_mem _ mw_2_108)) (fun _ h9 => h9) rfl dX11_had_47 ?_
    refine lv_topi (fun y11 ey11 => ?_)
    have by11 : y11.toInt = (nu7 33 2).toInt := congrArg Int32.toInt ey11
    exact W.iret (v := y11) hx hb hr (fun t ht hW => ⟨⟨y11, nu7, rfl, ⟨ok, trivial, kp9⟩, by first | (subst ht; exact hP) | (rw [ht]; exact hP) | (show va_P (dC, dI) vwCl (wR 157 ad (EX cs ad) nu7) t.heap; rw [ht]; exact hP)⟩, hS.F ht⟩) hS.2.2 dX11_had_50
  · have kp2 : (∀ k f : Nat, Nat.testBit 510 (gpX k f) = true → xi1 k f = mu k f) := kp_t hkp1_0 (by decide) (fun _ _ _ => rfl)
    skip
    refine lv_istore_n (lv' := [(3, .int r1), (0, .ref (ad 0)), (1, .int vx), (2, .int vr)]) hx hb dX11_had_7 rfl hl (by decide) rfl (fun ls hl => ?_)
    refine lv_iload_n hx hb dX11_had_8 rfl (lv_at hl 0 rfl) ?_
    refine lv_if_eq (tgt := 14) hx hb dX11_had_9 (by decide) (fun c_12 => by have c_12 : r1.toInt = 0 := il_eq c_12; exfalso; omega) (fun c_12 => ?_)
    have c_12 : ¬ r1.toInt = 0 := il_ne c_12
    refine lv_iload_n hx hb dX11_had_12 rfl (lv_at hl 0 rfl) ?_
    exact W.iret (v := r1) hx hb hr (fun t ht hW => ⟨⟨r1, xi1, rfl, ⟨ok, trivial, kp2⟩, by first | (subst ht; exact hP) | (rw [ht]; exact hP) | (show va_P (dC, dI) vwCl (wR 157 ad (EX cs ad) xi1) t.heap; rw [ht]; exact hP)⟩, hS.F ht⟩) hS.2.2 dX11_had_13
set_option maxHeartbeats 4000000 in
set_option maxRecDepth 100000 in
/-- qx_sure -/
theorem qx_sure (l : Launch) (dC : Nat → ClassId) (dI : Nat → Nat → Nat) (cs : Nat → ClassId) (ad : Nat → Nat) (mu : Nat → Nat → Int32) (ok : okR loX hiX mu) (H : Heap) (hP : va_P (dC, dI) vwCl (wR 157 ad (EX cs ad) mu) H) (hD0 : va_D (fun _ => True) (wR 157 ad (EX cs ad) mu)) (vx : Int32) (vr : Int32) : Met l yX11_sure (wU yX11_sure cX11_sure 4 (some .int)) ({ frames := 10, cells := 0, slots := 0, locals := 309 }) (va_Pc [.ref (ad 0), .int vx, .int vr] (sz_P (dC, dI) vwCl (tyW cs) H)) (va_Qi (fun (z : Int32) (xi : Nat → Nat → Int32) => okR loX hiX xi ∧ (True) ∧ (∀ k f : Nat, Nat.testBit 510 (gpX k f) = true → xi k f = mu k f)) (fun xi t => va_P (dC, dI) vwCl (wR 157 ad (EX cs ad) xi) t.heap) (va_A (wR 157 ad (EX cs ad) mu) H.size)) 0 0 (va_A (wR 157 ad (EX cs ad) mu) H.size) := by
  refine Met.ofW (cc := cX11_sure) (maxL := 4) (ret := (some .int)) (by decide) rfl ?_
  intro p e s m args below meth c s₁ B hml hv
  obtain ⟨rfl, hh, hK, hz⟩ := hv
  have hx := B.exec
  have hb := B.bytes
  have hr := B.returns
  have hts := atoms_spec (ws := (wU yX11_sure cX11_sure 4 (some .int))) B.pre
  have hown : s.vm.findClass RX11 = some m.cls := findClass_of_methodNamed B.named
  have hlocks := B.notSynchronized
  subst hh
  have hD := hD0.self (sz := s.heap.size)
  have hA : ∀ q : Nat, s.heap.size ≤ q → (va_A (wR 157 ad (EX cs ad) mu) s.heap.size) q := fun q h => Or.inr h
  have hS : va_S (va_A (wR 157 ad (EX cs ad) mu) s.heap.size) s.heap s.heap [] := va_S.rf
  have hl := lv_entry ([.ref (ad 0), .int vx, .int vr]) (n := 4) (Nat.le_of_ble_eq_true rfl)
  rw [lg_entry_eq]
  generalize (lg_sl ([.ref (ad 0), .int vx, .int vr]) ++ List.replicate (4 - (lg_sl ([.ref (ad 0), .int vx, .int vr])).length) Slot.unset).toArray = ls at hl ⊢
  have hl : lv_has ls 4 [(0, .ref (ad 0)), (1, .int vx), (2, .int vr)] := hl
  refine lv_aload_n hx hb dX11_sure_0 rfl (lv_at hl 0 rfl) ?_
  refine lv_iload_n hx hb dX11_sure_1 rfl (lv_at hl 1 rfl) ?_
  refine lv_iload_n hx hb dX11_sure_2 rfl (lv_at hl 2 rfl) ?_
  refine lv_iconst (v := 0) hx hb dX11_sure_3 (by decide) ?_
  have hFc := fr_all (wR_D mu hD) hS hA
  refine va_calli (va_runV (As := [.int vx, .int vr, .int 0]) (rest := []) ⟨hx, hb, hml, hown, hts⟩ (sx_refusedPrices l dC dI cs ad mu ok s.heap hP ((wR_D mu hD).weaken (fun _ _ _ _ => trivial)) vx vr 0) (cwV 3 hts (wU_V mw_4_162 mw_4_159 mw_4_161 mw_0_20 mw_1_1) rfl rfl rfl (by decide +kernel) ⟨Nat.le_of_ble_eq_true rfl, Nat.le_of_ble_eq_true rfl⟩) ⟨sz_c, va_recv hK hP (ci := 11) (q0 := 0) rfl (gX_0 cs ad mu), sz_m hK hz⟩ rfl rfl hl.1 rfl (lv_room (Nat.le_of_ble_eq_true rfl)) dX11_sure_4 ⟨Nat.zero_le _, Nat.zero_le _⟩) hS (fun q _ h => hFc q h) hFc (fun r1 xi1 t H1 locs ht hvm hw1 hB hz1 hk1 hS => ?_)
  have hP : va_P (dC, dI) vwCl (wR 157 ad (EX cs ad) xi1) H1 := by rw [← ht]; exact hB
  rcases hw1 with ⟨rfl, hxi1, f1⟩ | ⟨z1, ok, hkp1_0⟩
  · have hP : va_P (dC, dI) vwCl (wR 157 ad (EX cs ad) mu) H1 := by rw [← hxi1]; exact hP
    have f1 : 0 ≤ vx.toInt ∧ vx.toInt < (mu 4 6).toInt ∧ (mu 4 6).toInt ≤ 7 ∧ 0 ≤ vr.toInt ∧ vr.toInt ≤ 5 ∧ 0 ≤ (mu (8 + vr.toNatClampNeg) 1).toInt ∧ (mu (8 + vr.toNatClampNeg) 1).toInt ≤ 40 ∧ (mu (8 + vr.toNatClampNeg) 1).toInt ≤ 6 ∧ (0 : Int) = 0 := f1
    refine lv_istore_n (lv' := [(3, .int 0), (0, .ref (ad 0)), (1, .int vx), (2, .int vr)]) hx hb dX11_sure_7 rfl hl (by decide) rfl (fun ls hl => ?_)
    refine lv_iload_n hx hb dX11_sure_8 rfl (lv_at hl 0 rfl) ?_
    refine lv_if_eq (tgt := 14) hx hb dX11_sure_9 (by decide) (fun _ => ?_) (fun c => absurd (by decide) c)
    refine lv_aload_n hx hb dX11_sure_14 rfl (lv_at hl 1 rfl) ?_
    refine va_get (D := (dC, dI)) (ci := 11) (v := .ref (ad 33)) (C := RX11) (T := TX11) (N := 11) hx hb hts inG11 hown hK hP 0 (gX_0 cs ad mu) rfl 7 (by decide) (hts _ (List.mem_cons_of_mem _ mw_2_165)) (fun _ h9 => h9) rfl dX11_sure_15 ?_
    refine lv_aload_n hx hb dX11_sure_18 rfl (lv_at hl 1 rfl) ?_
    refine va_get (D := (dC, dI)) (ci := 11) (v := .ref (ad 4)) (C := RX11) (T := TX11) (N := 11) hx hb hts inG11 hown hK hP 0 (gX_0 cs ad mu) rfl 3 (by decide) (hts _ (List.mem_cons_of_mem _ mw_2_161)) (fun _ h9 => h9) rfl dX11_sure_19 ?_
    refine lv_iload_n hx hb dX11_sure_22 rfl (lv_at hl 2 rfl) ?_
    refine lv_aload_n hx hb dX11_sure_23 rfl (lv_at hl 1 rfl) ?_
    refine va_get (D := (dC, dI)) (ci := 11) (v := .ref (ad 1)) (C := RX11) (T := TX11) (N := 11) hx hb hts inG11 hown hK hP 0 (gX_0 cs ad mu) rfl 0 (by decide) (hts _ (List.mem_cons_of_mem _ mw_2_158)) (fun _ h9 => h9) rfl dX11_sure_24 ?_
    refine lv_iload_n hx hb dX11_sure_27 rfl (lv_at hl 3 rfl) ?_
    have hx3 : 0 ≤ vr.toInt ∧ vr.toInt < ((6 : Nat) : Int) := ⟨by omega, by omega⟩
    refine va_aldq hx hb hK hP 1 2 (gX_1 cs ad mu) rfl (show vp_in vr 6 from vi_of hx3.1 hx3.2) dX11_sure_28 ?_
    have hk3 : 8 ≤ (8 + vr.toNatClampNeg) ∧ (8 + vr.toNatClampNeg) < 14 := ix_of hx3
    refine lq_v (.ref (ad (8 + vr.toNatClampNeg))) rfl ?_
    have hFc := fr_all (wR_D mu hD) hS hA
    refine va_callv (va_runV (As := [.ref (ad 4), .int vx, .ref (ad (8 + vr.toNatClampNeg))]) (rest := []) ⟨hx, hb, hml, hown, hts⟩ (sx_search l dC dI cs ad mu ok H1 hP ((wR_D mu hD).weaken (fun _ _ _ _ => trivial)) (8 + vr.toNatClampNeg) hk3.1 hk3.2 vx (by omega)) (cwV 3 hts (wU_V mw_4_166 mw_4_163 mw_4_164 mw_4_165 mw_1_10) rfl rfl rfl (by decide +kernel) ⟨Nat.le_of_ble_eq_true rfl, Nat.le_of_ble_eq_true rfl⟩) ⟨sz_c, va_recv hK hP (ci := 1) (q0 := 33) rfl (gX_33 cs ad mu), sz_m hK hz⟩ rfl rfl hl.1 rfl (lv_room (Nat.le_of_ble_eq_true rfl)) dX11_sure_29 ⟨Nat.zero_le _, Nat.zero_le _⟩) hS (fun q _ h => hFc q h) hFc (fun xi4 t H4 locs ht hvm hw4 hB hz1 hk1 hS => ?_)
    have hP : va_P (dC, dI) vwCl (wR 157 ad (EX cs ad) xi4) H4 := by rw [← ht]; exact hB
    obtain ⟨ok, hw4, hkp4_0, hkp4_1⟩ := hw4
    have kp5 : (∀ k f : Nat, Nat.testBit 510 (gpX k f) = true → xi4 k f = mu k f) := kp_t hkp4_1 (by decide) (fun _ _ _ => rfl)
    refine lv_aload_n hx hb dX11_sure_32 rfl (lv_at hl 1 rfl) ?_
    refine va_get (D := (dC, dI)) (ci := 11) (v := .ref (ad 33)) (C := RX11) (T := TX11) (N := 11) hx hb hts inG11 hown hK hP 0 (gX_0 cs ad xi4) rfl 7 (by decide) (hts _ (List.mem_cons_of_mem _ mw_2_165)) (fun _ h9 => h9) rfl dX11_sure_33 ?_
    refine va_get (D := (dC, dI)) (ci := 1) (v := .int (xi4 33 2)) (C := RX1) (T := TX1) (N := 5) hx hb hts inG1 hown hK hP 33 (gX_33 cs ad xi4) rfl 2 (by decide) (hts _ (List.mem_cons_of_mem _ mw_2_108)) (fun _ h9 => h9) rfl dX11_sure_36 ?_
    refine lv_topi (fun y6 ey6 => ?_)
    have by6 : y6.toInt = (xi4 33 2).toInt := congrArg Int32.toInt ey6
    refine lv_if_ne (tgt := 46) hx hb dX11_sure_39 (by decide) (fun c_7 => ?_) (fun c_7 => ?_)
    · have c_7 : ¬ y6.toInt = 0 := il_ne c_7
      refine lv_aload_n hx hb dX11_sure_46 rfl (lv_at hl 1 rfl) ?_
      refine va_get (D := (dC, dI)) (ci := 11) (v := .ref (ad 33)) (C := RX11) (T := TX11) (N := 11) hx hb hts inG11 hown hK hP 0 (gX_0 cs ad xi4) rfl 7 (by decide) (hts _ (List.mem_cons_of_mem _ mw_2_165)) (fun _ h9 => h9) rfl dX11_sure_47 ?_
      refine va_get (D := (dC, dI)) (ci := 1) (v := .int (xi4 33 4)) (C := RX1) (T := TX1) (N := 5) hx hb hts inG1 hown hK hP 33 (gX_33 cs ad xi4) rfl 4 (by decide) (hts _ (List.mem_cons_of_mem _ mw_2_112)) (fun _ h9 => h9) rfl dX11_sure_50 ?_
      refine lv_topi (fun y8 ey8 => ?_)
      have by8 : y8.toInt = (xi4 33 4).toInt := congrArg Int32.toInt ey8
      exact W.iret (v := y8) hx hb hr (fun t ht hW => ⟨⟨y8, xi4, rfl, ⟨ok, trivial, kp5⟩, by first | (subst ht; exact hP) | (rw [ht]; exact hP) | (show va_P (dC, dI) vwCl (wR 157 ad (EX cs ad) xi4) t.heap; rw [ht]; exact hP)⟩, hS.F ht⟩) hS.2.2 dX11_sure_53
    · have c_7 : y6.toInt = 0 := il_eq c_7
      refine lv_iconst (v := 0) hx hb dX11_sure_42 (by decide) ?_
      refine lv_goto (tgt := 53) hx hb dX11_sure_43 (by decide) ?_
      exact W.iret (v := 0) hx hb hr (fun t ht hW => ⟨⟨0, xi4, rfl, ⟨ok, trivial, kp5⟩, by first | (subst ht; exact hP) | (rw [ht]; exact hP) | (show va_P (dC, dI) vwCl (wR 157 ad (EX cs ad) xi4) t.heap; rw [ht]; exact hP)⟩, hS.F ht⟩) hS.2.2 dX11_sure_53
  · have kp2 : (∀ k f : Nat, Nat.testBit 510 (gpX k f) = true → xi1 k f = mu k f) := kp_t hkp1_0 (by decide) (fun _ _ _ => rfl)
    skip
    refine lv_istore_n (lv' := [(3, .int r1), (0, .ref (ad 0)), (1, .int vx), (2, .int vr)]) hx hb dX11_sure_7 rfl hl (by decide) rfl (fun ls hl => ?_)
    refine lv_iload_n hx hb dX11_sure_8 rfl (lv_at hl 0 rfl) ?_
    refine lv_if_eq (tgt := 14) hx hb dX11_sure_9 (by decide) (fun c_9 => by have c_9 : r1.toInt = 0 := il_eq c_9; exfalso; omega) (fun c_9 => ?_)
    have c_9 : ¬ r1.toInt = 0 := il_ne c_9
    refine lv_iload_n hx hb dX11_sure_12 rfl (lv_at hl 0 rfl) ?_
    exact W.iret (v := r1) hx hb hr (fun t ht hW => ⟨⟨r1, xi1, rfl, ⟨ok, trivial, kp2⟩, by first | (subst ht; exact hP) | (rw [ht]; exact hP) | (show va_P (dC, dI) vwCl (wR 157 ad (EX cs ad) xi1) t.heap; rw [ht]; exact hP)⟩, hS.F ht⟩) hS.2.2 dX11_sure_13
set_option maxHeartbeats 4000000 in
set_option maxRecDepth 100000 in
/-- qx_first -/
theorem qx_first (l : Launch) (dC : Nat → ClassId) (dI : Nat → Nat → Nat) (cs : Nat → ClassId) (ad : Nat → Nat) (mu : Nat → Nat → Int32) (ok : okR loX hiX mu) (H : Heap) (hP : va_P (dC, dI) vwCl (wR 157 ad (EX cs ad) mu) H) (hD0 : va_D (fun _ => True) (wR 157 ad (EX cs ad) mu)) (vx : Int32) (vr : Int32) (vt : Int32) : Met l yX11_first (wU yX11_first cX11_first 6 (some .int)) ({ frames := 10, cells := 0, slots := 0, locals := 309 }) (va_Pc [.ref (ad 0), .int vx, .int vr, .int vt] (sz_P (dC, dI) vwCl (tyW cs) H)) (va_Qi (fun (z : Int32) (xi : Nat → Nat → Int32) => okR loX hiX xi ∧ (True) ∧ (∀ k f : Nat, Nat.testBit 510 (gpX k f) = true → xi k f = mu k f)) (fun xi t => va_P (dC, dI) vwCl (wR 157 ad (EX cs ad) xi) t.heap) (va_A (wR 157 ad (EX cs ad) mu) H.size)) 0 0 (va_A (wR 157 ad (EX cs ad) mu) H.size) := by
  refine Met.ofW (cc := cX11_first) (maxL := 6) (ret := (some .int)) (by decide) rfl ?_
  intro p e s m args below meth c s₁ B hml hv
  obtain ⟨rfl, hh, hK, hz⟩ := hv
  have hx := B.exec
  have hb := B.bytes
  have hr := B.returns
  have hts := atoms_spec (ws := (wU yX11_first cX11_first 6 (some .int))) B.pre
  have hown : s.vm.findClass RX11 = some m.cls := findClass_of_methodNamed B.named
  have hlocks := B.notSynchronized
  subst hh
  have hD := hD0.self (sz := s.heap.size)
  have hA : ∀ q : Nat, s.heap.size ≤ q → (va_A (wR 157 ad (EX cs ad) mu) s.heap.size) q := fun q h => Or.inr h
  have hS : va_S (va_A (wR 157 ad (EX cs ad) mu) s.heap.size) s.heap s.heap [] := va_S.rf
  have hl := lv_entry ([.ref (ad 0), .int vx, .int vr, .int vt]) (n := 6) (Nat.le_of_ble_eq_true rfl)
  rw [lg_entry_eq]
  generalize (lg_sl ([.ref (ad 0), .int vx, .int vr, .int vt]) ++ List.replicate (6 - (lg_sl ([.ref (ad 0), .int vx, .int vr, .int vt])).length) Slot.unset).toArray = ls at hl ⊢
  have hl : lv_has ls 6 [(0, .ref (ad 0)), (1, .int vx), (2, .int vr), (3, .int vt)] := hl
  refine lv_aload_n hx hb dX11_first_0 rfl (lv_at hl 0 rfl) ?_
  refine lv_iload_n hx hb dX11_first_1 rfl (lv_at hl 1 rfl) ?_
  refine lv_iload_n hx hb dX11_first_2 rfl (lv_at hl 2 rfl) ?_
  refine lv_iload_n hx hb dX11_first_3 rfl (lv_at hl 3 rfl) ?_
  refine cr_i (va_runS (As := [.int vt]) (rest := [.int vr, .int vx, .ref (ad 0)]) ⟨hx, hb, hml, hown, hts⟩ (sx_isRow l dC dI (tyW cs) s.heap vt) (va_cwS 1 hts (wU_S mw_2_198 mw_2_196 mw_2_197 mw_1_1) rfl rfl rfl (by decide +kernel) ⟨Nat.le_of_ble_eq_true rfl, Nat.le_of_ble_eq_true rfl⟩) ⟨sz_c, sz_m hK hz⟩ rfl rfl hl.1 rfl (lv_room (Nat.le_of_ble_eq_true rfl)) dX11_first_4 ⟨Nat.zero_le _, Nat.zero_le _⟩) hS (fun r1 hw1 locs hS => ?_)
  obtain ⟨hfe1, hw1⟩ := hw1
  rcases hw1 with ⟨rfl, f1⟩ | ⟨rfl, f1⟩
  · have f1 : 0 ≤ vt.toInt ∧ vt.toInt ≤ 5 := f1
    refine lv_if_ne (tgt := 14) hx hb dX11_first_7 (by decide) (fun _ => ?_) (fun c => absurd c (by decide))
    refine lv_iconst (v := 0) hx hb dX11_first_14 (by decide) ?_
    have hFc := fr_all (wR_D mu hD) hS hA
    refine va_calli (va_runV (As := [.int vx, .int vr, .int 0]) (rest := []) ⟨hx, hb, hml, hown, hts⟩ (sx_refusedPrices l dC dI cs ad mu ok s.heap hP ((wR_D mu hD).weaken (fun _ _ _ _ => trivial)) vx vr 0) (cwV 3 hts (wU_V mw_4_162 mw_4_159 mw_4_161 mw_0_20 mw_1_1) rfl rfl rfl (by decide +kernel) ⟨Nat.le_of_ble_eq_true rfl, Nat.le_of_ble_eq_true rfl⟩) ⟨sz_c, va_recv hK hP (ci := 11) (q0 := 0) rfl (gX_0 cs ad mu), sz_m hK hz⟩ rfl rfl hl.1 rfl (lv_room (Nat.le_of_ble_eq_true rfl)) dX11_first_15 ⟨Nat.zero_le _, Nat.zero_le _⟩) hS (fun q _ h => hFc q h) hFc (fun r2 xi2 t H2 locs ht hvm hw2 hB hz1 hk1 hS => ?_)
    have hP : va_P (dC, dI) vwCl (wR 157 ad (EX cs ad) xi2) H2 := by rw [← ht]; exact hB
    rcases hw2 with ⟨rfl, hxi2, f2⟩ | ⟨z2, ok, hkp2_0⟩
    · have hP : va_P (dC, dI) vwCl (wR 157 ad (EX cs ad) mu) H2 := by rw [← hxi2]; exact hP
      have f2 : 0 ≤ vx.toInt ∧ vx.toInt < (mu 4 6).toInt ∧ (mu 4 6).toInt ≤ 7 ∧ 0 ≤ vr.toInt ∧ vr.toInt ≤ 5 ∧ 0 ≤ (mu (8 + vr.toNatClampNeg) 1).toInt ∧ (mu (8 + vr.toNatClampNeg) 1).toInt ≤ 40 ∧ (mu (8 + vr.toNatClampNeg) 1).toInt ≤ 6 ∧ (0 : Int) = 0 := f2
      refine lv_istore (lv' := [(4, .int 0), (0, .ref (ad 0)), (1, .int vx), (2, .int vr), (3, .int vt)]) hx hb dX11_first_18 hl (by decide) rfl (fun ls hl => ?_)
      refine lv_iload hx hb dX11_first_20 (lv_at hl 0 rfl) ?_
      refine lv_if_eq (tgt := 28) hx hb dX11_first_22 (by decide) (fun _ => ?_) (fun c => absurd (by decide) c)
      refine lv_aload_n hx hb dX11_first_28 rfl (lv_at hl 1 rfl) ?_
      refine va_get (D := (dC, dI)) (ci := 11) (v := .ref (ad 33)) (C := RX11) (T := TX11) (N := 11) hx hb hts inG11 hown hK hP 0 (gX_0 cs ad mu) rfl 7 (by decide) (hts _ (List.mem_cons_of_mem _ mw_2_165)) (fun _ h9 => h9) rfl dX11_first_29 ?_
      refine lv_aload_n hx hb dX11_first_32 rfl (lv_at hl 1 rfl) ?_
      refine va_get (D := (dC, dI)) (ci := 11) (v := .ref (ad 4)) (C := RX11) (T := TX11) (N := 11) hx hb hts inG11 hown hK hP 0 (gX_0 cs ad mu) rfl 3 (by decide) (hts _ (List.mem_cons_of_mem _ mw_2_161)) (fun _ h9 => h9) rfl dX11_first_33 ?_
      refine lv_iload_n hx hb dX11_first_36 rfl (lv_at hl 2 rfl) ?_
      refine lv_aload_n hx hb dX11_first_37 rfl (lv_at hl 1 rfl) ?_
      refine va_get (D := (dC, dI)) (ci := 11) (v := .ref (ad 1)) (C := RX11) (T := TX11) (N := 11) hx hb hts inG11 hown hK hP 0 (gX_0 cs ad mu) rfl 0 (by decide) (hts _ (List.mem_cons_of_mem _ mw_2_158)) (fun _ h9 => h9) rfl dX11_first_38 ?_
      refine lv_iload_n hx hb dX11_first_41 rfl (lv_at hl 3 rfl) ?_
      have hx4 : 0 ≤ vr.toInt ∧ vr.toInt < ((6 : Nat) : Int) := ⟨by omega, by omega⟩
      refine va_aldq hx hb hK hP 1 2 (gX_1 cs ad mu) rfl (show vp_in vr 6 from vi_of hx4.1 hx4.2) dX11_first_42 ?_
      have hk4 : 8 ≤ (8 + vr.toNatClampNeg) ∧ (8 + vr.toNatClampNeg) < 14 := ix_of hx4
      refine lq_v (.ref (ad (8 + vr.toNatClampNeg))) rfl ?_
      have hFc := fr_all (wR_D mu hD) hS hA
      refine va_callv (va_runV (As := [.ref (ad 4), .int vx, .ref (ad (8 + vr.toNatClampNeg))]) (rest := []) ⟨hx, hb, hml, hown, hts⟩ (sx_search l dC dI cs ad mu ok H2 hP ((wR_D mu hD).weaken (fun _ _ _ _ => trivial)) (8 + vr.toNatClampNeg) hk4.1 hk4.2 vx (by omega)) (cwV 3 hts (wU_V mw_4_166 mw_4_163 mw_4_164 mw_4_165 mw_1_10) rfl rfl rfl (by decide +kernel) ⟨Nat.le_of_ble_eq_true rfl, Nat.le_of_ble_eq_true rfl⟩) ⟨sz_c, va_recv hK hP (ci := 1) (q0 := 33) rfl (gX_33 cs ad mu), sz_m hK hz⟩ rfl rfl hl.1 rfl (lv_room (Nat.le_of_ble_eq_true rfl)) dX11_first_43 ⟨Nat.zero_le _, Nat.zero_le _⟩) hS (fun q _ h => hFc q h) hFc (fun xi5 t H5 locs ht hvm hw5 hB hz1 hk1 hS => ?_)
      have hP : va_P (dC, dI) vwCl (wR 157 ad (EX cs ad) xi5) H5 := by rw [← ht]; exact hB
      obtain ⟨ok, hw5, hkp5_0, hkp5_1⟩ := hw5
      have kp6 : (∀ k f : Nat, Nat.testBit 510 (gpX k f) = true → xi5 k f = mu k f) := kp_t hkp5_1 (by decide) (fun _ _ _ => rfl)
      have hq5 : (xi5 (8 + vr.toNatClampNeg) 1).toInt = (mu (8 + vr.toNatClampNeg) 1).toInt := congrArg Int32.toInt (congrFun (hkp5_0 (8 + vr.toNatClampNeg) (by omega) (by have h9 := tC_of (v := vr) (by omega); omega)) 1)
      refine lv_aload_n hx hb dX11_first_46 rfl (lv_at hl 1 rfl) ?_
      refine va_get (D := (dC, dI)) (ci := 11) (v := .ref (ad 33)) (C := RX11) (T := TX11) (N := 11) hx hb hts inG11 hown hK hP 0 (gX_0 cs ad xi5) rfl 7 (by decide) (hts _ (List.mem_cons_of_mem _ mw_2_165)) (fun _ h9 => h9) rfl dX11_first_47 ?_
      refine va_get (D := (dC, dI)) (ci := 1) (v := .int (xi5 33 2)) (C := RX1) (T := TX1) (N := 5) hx hb hts inG1 hown hK hP 33 (gX_33 cs ad xi5) rfl 2 (by decide) (hts _ (List.mem_cons_of_mem _ mw_2_108)) (fun _ h9 => h9) rfl dX11_first_50 ?_
      refine lv_topi (fun y7 ey7 => ?_)
      have by7 : y7.toInt = (xi5 33 2).toInt := congrArg Int32.toInt ey7
      refine lv_if_ne (tgt := 59) hx hb dX11_first_53 (by decide) (fun c_8 => ?_) (fun c_8 => ?_)
      · have c_8 : ¬ y7.toInt = 0 := il_ne c_8
        refine lv_aload_n hx hb dX11_first_59 rfl (lv_at hl 1 rfl) ?_
        refine va_get (D := (dC, dI)) (ci := 11) (v := .ref (ad 1)) (C := RX11) (T := TX11) (N := 11) hx hb hts inG11 hown hK hP 0 (gX_0 cs ad xi5) rfl 0 (by decide) (hts _ (List.mem_cons_of_mem _ mw_2_158)) (fun _ h9 => h9) rfl dX11_first_60 ?_
        refine lv_iload_n hx hb dX11_first_63 rfl (lv_at hl 3 rfl) ?_
        have hx9 : 0 ≤ vr.toInt ∧ vr.toInt < ((6 : Nat) : Int) := ⟨by omega, by omega⟩
        refine va_aldq hx hb hK hP 1 2 (gX_1 cs ad xi5) rfl (show vp_in vr 6 from vi_of hx9.1 hx9.2) dX11_first_64 ?_
        have hk9 : 8 ≤ (8 + vr.toNatClampNeg) ∧ (8 + vr.toNatClampNeg) < 14 := ix_of hx9
        refine lq_v (.ref (ad (8 + vr.toNatClampNeg))) rfl ?_
        refine va_get (D := (dC, dI)) (ci := 6) (v := .int (xi5 (8 + vr.toNatClampNeg) 1)) (C := RX6) (T := TX6) (N := 2) hx hb hts inG6 hown hK hP (8 + vr.toNatClampNeg) (gX_row cs ad xi5 (8 + vr.toNatClampNeg) hk9.1 hk9.2) rfl 1 (by decide) (hts _ (List.mem_cons_of_mem _ mw_2_134)) (fun _ h9 => h9) rfl dX11_first_65 ?_
        refine lv_topi (fun y10 ey10 => ?_)
        have by10 : y10.toInt = (xi5 (8 + vr.toNatClampNeg) 1).toInt := congrArg Int32.toInt ey10
        have gy10 : -1 ≤ y10.toInt ∧ y10.toInt ≤ 40 := by rw [ey10]; exact rX_row_1 ok (8 + vr.toNatClampNeg) hk9.1 hk9.2
        refine lv_iconst (v := 1) hx hb dX11_first_68 (by decide) ?_
        refine lv_iadd hx hb dX11_first_69 ?_
        refine lv_topi (fun t11 et11 => ?_)
        have at11 : t11.toInt = y10.toInt + 1 := by rw [et11]; exact va1 (by omega)
        refine lv_istore (lv' := [(5, .int t11), (4, .int 0), (0, .ref (ad 0)), (1, .int vx), (2, .int vr), (3, .int vt)]) hx hb dX11_first_70 hl (by decide) rfl (fun ls hl => ?_)
        refine lv_aload_n hx hb dX11_first_72 rfl (lv_at hl 2 rfl) ?_
        refine va_get (D := (dC, dI)) (ci := 11) (v := .ref (ad 1)) (C := RX11) (T := TX11) (N := 11) hx hb hts inG11 hown hK hP 0 (gX_0 cs ad xi5) rfl 0 (by decide) (hts _ (List.mem_cons_of_mem _ mw_2_158)) (fun _ h9 => h9) rfl dX11_first_73 ?_
        refine lv_iload_n hx hb dX11_first_76 rfl (lv_at hl 5 rfl) ?_
        have hx12 : 0 ≤ vt.toInt ∧ vt.toInt < ((6 : Nat) : Int) := ⟨by omega, by omega⟩
        refine va_aldq hx hb hK hP 1 2 (gX_1 cs ad xi5) rfl (show vp_in vt 6 from vi_of hx12.1 hx12.2) dX11_first_77 ?_
        have hk12 : 8 ≤ (8 + vt.toNatClampNeg) ∧ (8 + vt.toNatClampNeg) < 14 := ix_of hx12
        refine lq_v (.ref (ad (8 + vt.toNatClampNeg))) rfl ?_
        refine lv_aload_n hx hb dX11_first_78 rfl (lv_at hl 2 rfl) ?_
        refine va_get (D := (dC, dI)) (ci := 11) (v := .ref (ad 33)) (C := RX11) (T := TX11) (N := 11) hx hb hts inG11 hown hK hP 0 (gX_0 cs ad xi5) rfl 7 (by decide) (hts _ (List.mem_cons_of_mem _ mw_2_165)) (fun _ h9 => h9) rfl dX11_first_79 ?_
        refine va_get (D := (dC, dI)) (ci := 1) (v := .ref (ad 60)) (C := RX1) (T := TX1) (N := 5) hx hb hts inG1 hown hK hP 33 (gX_33 cs ad xi5) rfl 1 (by decide) (hts _ (List.mem_cons_of_mem _ mw_2_106)) (fun _ h9 => h9) rfl dX11_first_82 ?_
        refine lv_iload hx hb dX11_first_85 (lv_at hl 0 rfl) ?_
        have hFc := fr_all (wR_D xi5 hD) hS hA
        refine va_callv (va_runV (As := [.ref (ad 60), .int t11]) (rest := []) ⟨hx, hb, hml, hown, hts⟩ (sx_Row_beLike60 l dC dI cs ad xi5 ok H5 hP ((wR_D xi5 hD).weaken (fun _ _ _ _ => trivial)) (8 + vt.toNatClampNeg) hk12.1 hk12.2 t11 (by omega)) (cwV 2 hts (wU_V mw_4_55 mw_4_52 mw_4_53 mw_4_54 mw_1_11) rfl rfl rfl (by decide +kernel) ⟨Nat.le_of_ble_eq_true rfl, Nat.le_of_ble_eq_true rfl⟩) ⟨sz_c, va_recv hK hP (ci := 6) (q0 := (8 + vt.toNatClampNeg)) rfl (gX_row cs ad xi5 (8 + vt.toNatClampNeg) hk12.1 hk12.2), sz_m hK hz⟩ rfl rfl hl.1 rfl (lv_room (Nat.le_of_ble_eq_true rfl)) dX11_first_87 ⟨Nat.zero_le _, Nat.zero_le _⟩) hS (fun q _ h => hFc q h) hFc (fun xi13 t H13 locs ht hvm hw13 hB hz1 hk1 hS => ?_)
        have hP : va_P (dC, dI) vwCl (wR 157 ad (EX cs ad) xi13) H13 := by rw [← ht]; exact hB
        obtain ⟨hfe13, ok, hw13, hkp13_0⟩ := hw13
        have kp14 : (∀ k f : Nat, Nat.testBit 510 (gpX k f) = true → xi13 k f = mu k f) := kp_t hkp13_0 (by decide) kp6
        refine lv_iload hx hb dX11_first_90 (lv_at hl 0 rfl) ?_
        exact W.iret (v := t11) hx hb hr (fun t ht hW => ⟨⟨t11, xi13, rfl, ⟨ok, trivial, kp14⟩, by first | (subst ht; exact hP) | (rw [ht]; exact hP) | (show va_P (dC, dI) vwCl (wR 157 ad (EX cs ad) xi13) t.heap; rw [ht]; exact hP)⟩, hS.F ht⟩) hS.2.2 dX11_first_92
      · have c_8 : y7.toInt = 0 := il_eq c_8
        refine lv_bipush (v := (-9)) hx hb dX11_first_56 (by decide) ?_
        exact W.iret (v := (-9)) hx hb hr (fun t ht hW => ⟨⟨(-9), xi5, rfl, ⟨ok, trivial, kp6⟩, by first | (subst ht; exact hP) | (rw [ht]; exact hP) | (show va_P (dC, dI) vwCl (wR 157 ad (EX cs ad) xi5) t.heap; rw [ht]; exact hP)⟩, hS.F ht⟩) hS.2.2 dX11_first_58
    · have kp3 : (∀ k f : Nat, Nat.testBit 510 (gpX k f) = true → xi2 k f = mu k f) := kp_t hkp2_0 (by decide) (fun _ _ _ => rfl)
      skip
      refine lv_istore (lv' := [(4, .int r2), (0, .ref (ad 0)), (1, .int vx), (2, .int vr), (3, .int vt)]) hx hb dX11_first_18 hl (by decide) rfl (fun ls hl => ?_)
      refine lv_iload hx hb dX11_first_20 (lv_at hl 0 rfl) ?_
      refine lv_if_eq (tgt := 28) hx hb dX11_first_22 (by decide) (fun c_15 => by have c_15 : r2.toInt = 0 := il_eq c_15; exfalso; omega) (fun c_15 => ?_)
      have c_15 : ¬ r2.toInt = 0 := il_ne c_15
      refine lv_iload hx hb dX11_first_25 (lv_at hl 0 rfl) ?_
      exact W.iret (v := r2) hx hb hr (fun t ht hW => ⟨⟨r2, xi2, rfl, ⟨ok, trivial, kp3⟩, by first | (subst ht; exact hP) | (rw [ht]; exact hP) | (show va_P (dC, dI) vwCl (wR 157 ad (EX cs ad) xi2) t.heap; rw [ht]; exact hP)⟩, hS.F ht⟩) hS.2.2 dX11_first_27
  · have f1 : vt.toInt < 0 ∨ 5 < vt.toInt := f1
    refine lv_if_ne (tgt := 14) hx hb dX11_first_7 (by decide) (fun c => absurd (by decide) c) (fun _ => ?_)
    refine lv_iconst (v := 1) hx hb dX11_first_10 (by decide) ?_
    refine lv_goto (tgt := 15) hx hb dX11_first_11 (by decide) ?_
    have hFc := fr_all (wR_D mu hD) hS hA
    refine va_calli (va_runV (As := [.int vx, .int vr, .int 1]) (rest := []) ⟨hx, hb, hml, hown, hts⟩ (sx_refusedPrices l dC dI cs ad mu ok s.heap hP ((wR_D mu hD).weaken (fun _ _ _ _ => trivial)) vx vr 1) (cwV 3 hts (wU_V mw_4_162 mw_4_159 mw_4_161 mw_0_20 mw_1_1) rfl rfl rfl (by decide +kernel) ⟨Nat.le_of_ble_eq_true rfl, Nat.le_of_ble_eq_true rfl⟩) ⟨sz_c, va_recv hK hP (ci := 11) (q0 := 0) rfl (gX_0 cs ad mu), sz_m hK hz⟩ rfl rfl hl.1 rfl (lv_room (Nat.le_of_ble_eq_true rfl)) dX11_first_15 ⟨Nat.zero_le _, Nat.zero_le _⟩) hS (fun q _ h => hFc q h) hFc (fun r16 xi16 t H16 locs ht hvm hw16 hB hz1 hk1 hS => ?_)
    have hP : va_P (dC, dI) vwCl (wR 157 ad (EX cs ad) xi16) H16 := by rw [← ht]; exact hB
    rcases hw16 with ⟨rfl, hxi16, f16⟩ | ⟨z16, ok, hkp16_0⟩
    · have f16 : 0 ≤ vx.toInt ∧ vx.toInt < (mu 4 6).toInt ∧ (mu 4 6).toInt ≤ 7 ∧ 0 ≤ vr.toInt ∧ vr.toInt ≤ 5 ∧ 0 ≤ (mu (8 + vr.toNatClampNeg) 1).toInt ∧ (mu (8 + vr.toNatClampNeg) 1).toInt ≤ 40 ∧ (mu (8 + vr.toNatClampNeg) 1).toInt ≤ 6 ∧ (1 : Int) = 0 := f16
      exfalso
      have h9 : (1 : Int32).toInt = 1 := rfl
      omega
    · have kp17 : (∀ k f : Nat, Nat.testBit 510 (gpX k f) = true → xi16 k f = mu k f) := kp_t hkp16_0 (by decide) (fun _ _ _ => rfl)
      skip
      refine lv_istore (lv' := [(4, .int r16), (0, .ref (ad 0)), (1, .int vx), (2, .int vr), (3, .int vt)]) hx hb dX11_first_18 hl (by decide) rfl (fun ls hl => ?_)
      refine lv_iload hx hb dX11_first_20 (lv_at hl 0 rfl) ?_
      refine lv_if_eq (tgt := 28) hx hb dX11_first_22 (by decide) (fun c_18 => by have c_18 : r16.toInt = 0 := il_eq c_18; exfalso; omega) (fun c_18 => ?_)
      have c_18 : ¬ r16.toInt = 0 := il_ne c_18
      refine lv_iload hx hb dX11_first_25 (lv_at hl 0 rfl) ?_
      exact W.iret (v := r16) hx hb hr (fun t ht hW => ⟨⟨r16, xi16, rfl, ⟨ok, trivial, kp17⟩, by first | (subst ht; exact hP) | (rw [ht]; exact hP) | (show va_P (dC, dI) vwCl (wR 157 ad (EX cs ad) xi16) t.heap; rw [ht]; exact hP)⟩, hS.F ht⟩) hS.2.2 dX11_first_27
