set_option maxHeartbeats 4000000 in
set_option maxRecDepth 100000 in
/-- qx_soonest -/
theorem qx_soonest (l : Launch) (dC : Nat → ClassId) (dI : Nat → Nat → Nat) (cs : Nat → ClassId) (ad : Nat → Nat) (mu : Nat → Nat → Int32) (ok : okR loX hiX mu) (H : Heap) (hP : va_P (dC, dI) vwCl (wR 157 ad (EX cs ad) mu) H) (hD0 : va_D (fun _ => True) (wR 157 ad (EX cs ad) mu)) (vk : Int32) (vr : Int32) : Met l yX11_soonest (wU yX11_soonest cX11_soonest 4 (some .int)) ({ frames := 11, cells := 0, slots := 0, locals := 318 }) (va_Pc [.ref (ad 0), .int vk, .int vr] (sz_P (dC, dI) vwCl (tyW cs) H)) (va_Qi (fun (z : Int32) (xi : Nat → Nat → Int32) => okR loX hiX xi ∧ (True) ∧ (∀ k f : Nat, Nat.testBit 510 (gpX k f) = true → xi k f = mu k f)) (fun xi t => va_P (dC, dI) vwCl (wR 157 ad (EX cs ad) xi) t.heap) (va_A (wR 157 ad (EX cs ad) mu) H.size)) 0 0 (va_A (wR 157 ad (EX cs ad) mu) H.size) := by
  refine Met.ofW (cc := cX11_soonest) (maxL := 4) (ret := (some .int)) (by decide) rfl ?_
  intro p e s m args below meth c s₁ B hml hv
  obtain ⟨rfl, hh, hK, hz⟩ := hv
  have hx := B.exec
  have hb := B.bytes
  have hr := B.returns
  have hts := atoms_spec (ws := (wU yX11_soonest cX11_soonest 4 (some .int))) B.pre
  have hown : s.vm.findClass RX11 = some m.cls := findClass_of_methodNamed B.named
  have hlocks := B.notSynchronized
  subst hh
  have hD := hD0.self (sz := s.heap.size)
  have hA : ∀ q : Nat, s.heap.size ≤ q → (va_A (wR 157 ad (EX cs ad) mu) s.heap.size) q := fun q h => Or.inr h
  have hS : va_S (va_A (wR 157 ad (EX cs ad) mu) s.heap.size) s.heap s.heap [] := va_S.rf
  have hl := lv_entry ([.ref (ad 0), .int vk, .int vr]) (n := 4) (Nat.le_of_ble_eq_true rfl)
  rw [lg_entry_eq]
  generalize (lg_sl ([.ref (ad 0), .int vk, .int vr]) ++ List.replicate (4 - (lg_sl ([.ref (ad 0), .int vk, .int vr])).length) Slot.unset).toArray = ls at hl ⊢
  have hl : lv_has ls 4 [(0, .ref (ad 0)), (1, .int vk), (2, .int vr)] := hl
  refine lv_aload_n hx hb dX11_soonest_0 rfl (lv_at hl 0 rfl) ?_
  refine lv_iload_n hx hb dX11_soonest_1 rfl (lv_at hl 1 rfl) ?_
  refine lv_iload_n hx hb dX11_soonest_2 rfl (lv_at hl 2 rfl) ?_
  refine cr_i (va_runS (As := [.int vr]) (rest := [.int vk, .ref (ad 0)]) ⟨hx, hb, hml, hown, hts⟩ (sx_isRow l dC dI (tyW cs) s.heap vr) (va_cwS 1 hts (wU_S mw_2_198 mw_2_196 mw_2_197 mw_1_1) rfl rfl rfl (by decide +kernel) ⟨Nat.le_of_ble_eq_true rfl, Nat.le_of_ble_eq_true rfl⟩) ⟨sz_c, sz_m hK hz⟩ rfl rfl hl.1 rfl (lv_room (Nat.le_of_ble_eq_true rfl)) dX11_soonest_3 ⟨Nat.zero_le _, Nat.zero_le _⟩) hS (fun r1 hw1 locs hS => ?_)
  obtain ⟨hfe1, hw1⟩ := hw1
  rcases hw1 with ⟨rfl, f1⟩ | ⟨rfl, f1⟩
  · have f1 : 0 ≤ vr.toInt ∧ vr.toInt ≤ 5 := f1
    refine lv_if_ne (tgt := 13) hx hb dX11_soonest_6 (by decide) (fun _ => ?_) (fun c => absurd c (by decide))
    refine lv_iconst (v := 0) hx hb dX11_soonest_13 (by decide) ?_
    have hFc := fr_all (wR_D mu hD) hS hA
    refine va_calli (va_runV (As := [.int vk, .int 0]) (rest := []) ⟨hx, hb, hml, hown, hts⟩ (sx_refusedRoute l dC dI cs ad mu ok s.heap hP ((wR_D mu hD).weaken (fun _ _ _ _ => trivial)) vk 0) (cwV 2 hts (wU_V mw_4_1 mw_3_238 mw_4_0 mw_0_9 mw_1_1) rfl rfl rfl (by decide +kernel) ⟨Nat.le_of_ble_eq_true rfl, Nat.le_of_ble_eq_true rfl⟩) ⟨sz_c, va_recv hK hP (ci := 11) (q0 := 0) rfl (gX_0 cs ad mu), sz_m hK hz⟩ rfl rfl hl.1 rfl (lv_room (Nat.le_of_ble_eq_true rfl)) dX11_soonest_14 ⟨Nat.zero_le _, Nat.zero_le _⟩) hS (fun q _ h => hFc q h) hFc (fun r2 xi2 t H2 locs ht hvm hw2 hB hz1 hk1 hS => ?_)
    have hP : va_P (dC, dI) vwCl (wR 157 ad (EX cs ad) xi2) H2 := by rw [← ht]; exact hB
    rcases hw2 with ⟨rfl, hxi2, f2⟩ | ⟨z2, ok, hkp2_0⟩
    · have hP : va_P (dC, dI) vwCl (wR 157 ad (EX cs ad) mu) H2 := by rw [← hxi2]; exact hP
      have f2 : 0 ≤ vk.toInt ∧ vk.toInt < (mu 5 4).toInt ∧ (mu 5 4).toInt ≤ 4 ∧ (0 : Int) = 0 := f2
      refine lv_istore_n (lv' := [(3, .int 0), (0, .ref (ad 0)), (1, .int vk), (2, .int vr)]) hx hb dX11_soonest_17 rfl hl (by decide) rfl (fun ls hl => ?_)
      refine lv_iload_n hx hb dX11_soonest_18 rfl (lv_at hl 0 rfl) ?_
      refine lv_if_eq (tgt := 24) hx hb dX11_soonest_19 (by decide) (fun _ => ?_) (fun c => absurd (by decide) c)
      refine lv_aload_n hx hb dX11_soonest_24 rfl (lv_at hl 1 rfl) ?_
      refine va_get (D := (dC, dI)) (ci := 11) (v := .ref (ad 32)) (C := RX11) (T := TX11) (N := 11) hx hb hts inG11 hown hK hP 0 (gX_0 cs ad mu) rfl 6 (by decide) (hts _ (List.mem_cons_of_mem _ mw_2_164)) (fun _ h9 => h9) rfl dX11_soonest_25 ?_
      refine lv_aload_n hx hb dX11_soonest_28 rfl (lv_at hl 1 rfl) ?_
      refine va_get (D := (dC, dI)) (ci := 11) (v := .ref (ad 4)) (C := RX11) (T := TX11) (N := 11) hx hb hts inG11 hown hK hP 0 (gX_0 cs ad mu) rfl 3 (by decide) (hts _ (List.mem_cons_of_mem _ mw_2_161)) (fun _ h9 => h9) rfl dX11_soonest_29 ?_
      refine lv_aload_n hx hb dX11_soonest_32 rfl (lv_at hl 1 rfl) ?_
      refine va_get (D := (dC, dI)) (ci := 11) (v := .ref (ad 4)) (C := RX11) (T := TX11) (N := 11) hx hb hts inG11 hown hK hP 0 (gX_0 cs ad mu) rfl 3 (by decide) (hts _ (List.mem_cons_of_mem _ mw_2_161)) (fun _ h9 => h9) rfl dX11_soonest_33 ?_
      refine va_get (D := (dC, dI)) (ci := 10) (v := .ref (ad 5)) (C := RX10) (T := TX10) (N := 8) hx hb hts inG10 hown hK hP 4 (gX_4 cs ad mu) rfl 3 (by decide) (hts _ (List.mem_cons_of_mem _ mw_1_157)) (fun _ h9 => h9) rfl dX11_soonest_36 ?_
      refine va_get (D := (dC, dI)) (ci := 8) (v := .ref (ad 47)) (C := RX8) (T := TX8) (N := 6) hx hb hts inG8 hown hK hP 5 (gX_5 cs ad mu) rfl 1 (by decide) (hts _ (List.mem_cons_of_mem _ mw_1_112)) (fun _ h9 => h9) rfl dX11_soonest_39 ?_
      refine lv_iload_n hx hb dX11_soonest_42 rfl (lv_at hl 2 rfl) ?_
      have hx4 : 0 ≤ vk.toInt ∧ vk.toInt < ((4 : Nat) : Int) := ⟨by omega, by omega⟩
      refine va_aldq hx hb hK hP 47 5 (gX_47 cs ad mu) rfl (show vp_in vk 4 from vi_of hx4.1 hx4.2) dX11_soonest_43 ?_
      have hk4 : 61 ≤ (61 + vk.toNatClampNeg) ∧ (61 + vk.toNatClampNeg) < 65 := ix_of hx4
      have hk4 : 61 ≤ (61 + vk.toNatClampNeg) ∧ (61 + vk.toNatClampNeg) < 77 := ⟨Nat.le_trans (by decide) hk4.1, Nat.lt_of_lt_of_le hk4.2 (by decide)⟩
      refine lq_v (.ref (ad (61 + vk.toNatClampNeg))) rfl ?_
      have hFc := fr_all (wR_D mu hD) hS hA
      refine va_callv (va_runV (As := [.ref (ad 4), .ref (ad (61 + vk.toNatClampNeg))]) (rest := []) ⟨hx, hb, hml, hown, hts⟩ (sx_walkOf l dC dI cs ad mu ok H2 hP ((wR_D mu hD).weaken (fun _ _ _ _ => trivial)) (61 + vk.toNatClampNeg) hk4.1 hk4.2) (cwV 2 hts (wU_V mw_4_5 mw_4_2 mw_4_3 mw_4_4 mw_1_8) rfl rfl rfl (by decide +kernel) ⟨Nat.le_of_ble_eq_true rfl, Nat.le_of_ble_eq_true rfl⟩) ⟨sz_c, va_recv hK hP (ci := 5) (q0 := 32) rfl (gX_32 cs ad mu), sz_m hK hz⟩ rfl rfl hl.1 rfl (lv_room (Nat.le_of_ble_eq_true rfl)) dX11_soonest_44 ⟨Nat.zero_le _, Nat.zero_le _⟩) hS (fun q _ h => hFc q h) hFc (fun xi5 t H5 locs ht hvm hw5 hB hz1 hk1 hS => ?_)
      have hP : va_P (dC, dI) vwCl (wR 157 ad (EX cs ad) xi5) H5 := by rw [← ht]; exact hB
      obtain ⟨ok, hw5, hkp5_0⟩ := hw5
      have kp6 : (∀ k f : Nat, Nat.testBit 510 (gpX k f) = true → xi5 k f = mu k f) := kp_t hkp5_0 (by decide) (fun _ _ _ => rfl)
      refine lv_aload_n hx hb dX11_soonest_47 rfl (lv_at hl 1 rfl) ?_
      refine va_get (D := (dC, dI)) (ci := 11) (v := .ref (ad 32)) (C := RX11) (T := TX11) (N := 11) hx hb hts inG11 hown hK hP 0 (gX_0 cs ad xi5) rfl 6 (by decide) (hts _ (List.mem_cons_of_mem _ mw_2_164)) (fun _ h9 => h9) rfl dX11_soonest_48 ?_
      refine va_get (D := (dC, dI)) (ci := 5) (v := .ref (ad 56)) (C := RX5) (T := TX5) (N := 15) hx hb hts inG5 hown hK hP 32 (gX_32 cs ad xi5) rfl 4 (by decide) (hts _ (List.mem_cons_of_mem _ mw_2_52)) (fun _ h9 => h9) rfl dX11_soonest_51 ?_
      refine va_get (D := (dC, dI)) (ci := 0) (v := .int (xi5 56 3)) (C := RX0) (T := TX0) (N := 4) hx hb hts inG0 hown hK hP 56 (gX_56 cs ad xi5) rfl 3 (by decide) (hts _ (List.mem_cons_of_mem _ mw_2_36)) (fun _ h9 => h9) rfl dX11_soonest_54 ?_
      refine lv_topi (fun y7 ey7 => ?_)
      have by7 : y7.toInt = (xi5 56 3).toInt := congrArg Int32.toInt ey7
      have gy7 : 0 ≤ y7.toInt ∧ y7.toInt ≤ 1 := by rw [ey7]; exact rX_56_3 ok
      refine lv_if_ne (tgt := 63) hx hb dX11_soonest_57 (by decide) (fun c_8 => ?_) (fun c_8 => ?_)
      · have c_8 : ¬ y7.toInt = 0 := il_ne c_8
        refine lv_aload_n hx hb dX11_soonest_63 rfl (lv_at hl 1 rfl) ?_
        refine va_get (D := (dC, dI)) (ci := 11) (v := .ref (ad 1)) (C := RX11) (T := TX11) (N := 11) hx hb hts inG11 hown hK hP 0 (gX_0 cs ad xi5) rfl 0 (by decide) (hts _ (List.mem_cons_of_mem _ mw_2_158)) (fun _ h9 => h9) rfl dX11_soonest_64 ?_
        refine lv_iload_n hx hb dX11_soonest_67 rfl (lv_at hl 3 rfl) ?_
        have hx9 : 0 ≤ vr.toInt ∧ vr.toInt < ((6 : Nat) : Int) := ⟨by omega, by omega⟩
        refine va_aldq hx hb hK hP 1 2 (gX_1 cs ad xi5) rfl (show vp_in vr 6 from vi_of hx9.1 hx9.2) dX11_soonest_68 ?_
        have hk9 : 8 ≤ (8 + vr.toNatClampNeg) ∧ (8 + vr.toNatClampNeg) < 14 := ix_of hx9
        refine lq_v (.ref (ad (8 + vr.toNatClampNeg))) rfl ?_
        refine lv_aload_n hx hb dX11_soonest_69 rfl (lv_at hl 1 rfl) ?_
        refine va_get (D := (dC, dI)) (ci := 11) (v := .ref (ad 32)) (C := RX11) (T := TX11) (N := 11) hx hb hts inG11 hown hK hP 0 (gX_0 cs ad xi5) rfl 6 (by decide) (hts _ (List.mem_cons_of_mem _ mw_2_164)) (fun _ h9 => h9) rfl dX11_soonest_70 ?_
        refine va_get (D := (dC, dI)) (ci := 5) (v := .ref (ad 56)) (C := RX5) (T := TX5) (N := 15) hx hb hts inG5 hown hK hP 32 (gX_32 cs ad xi5) rfl 4 (by decide) (hts _ (List.mem_cons_of_mem _ mw_2_52)) (fun _ h9 => h9) rfl dX11_soonest_73 ?_
        refine va_get (D := (dC, dI)) (ci := 0) (v := .ref (ad 58)) (C := RX0) (T := TX0) (N := 4) hx hb hts inG0 hown hK hP 56 (gX_56 cs ad xi5) rfl 0 (by decide) (hts _ (List.mem_cons_of_mem _ mw_2_27)) (fun _ h9 => h9) rfl dX11_soonest_76 ?_
        refine lv_aload_n hx hb dX11_soonest_79 rfl (lv_at hl 1 rfl) ?_
        refine va_get (D := (dC, dI)) (ci := 11) (v := .ref (ad 32)) (C := RX11) (T := TX11) (N := 11) hx hb hts inG11 hown hK hP 0 (gX_0 cs ad xi5) rfl 6 (by decide) (hts _ (List.mem_cons_of_mem _ mw_2_164)) (fun _ h9 => h9) rfl dX11_soonest_80 ?_
        refine va_get (D := (dC, dI)) (ci := 5) (v := .ref (ad 56)) (C := RX5) (T := TX5) (N := 15) hx hb hts inG5 hown hK hP 32 (gX_32 cs ad xi5) rfl 4 (by decide) (hts _ (List.mem_cons_of_mem _ mw_2_52)) (fun _ h9 => h9) rfl dX11_soonest_83 ?_
        refine va_get (D := (dC, dI)) (ci := 0) (v := .int (xi5 56 1)) (C := RX0) (T := TX0) (N := 4) hx hb hts inG0 hown hK hP 56 (gX_56 cs ad xi5) rfl 1 (by decide) (hts _ (List.mem_cons_of_mem _ mw_2_30)) (fun _ h9 => h9) rfl dX11_soonest_86 ?_
        refine lv_topi (fun y10 ey10 => ?_)
        have by10 : y10.toInt = (xi5 56 1).toInt := congrArg Int32.toInt ey10
        have gy10 : 0 ≤ y10.toInt ∧ y10.toInt ≤ 6 := by rw [ey10]; exact rX_56_1 ok
        refine lv_iconst (v := 1) hx hb dX11_soonest_89 (by decide) ?_
        refine lv_iadd hx hb dX11_soonest_90 ?_
        refine lv_topi (fun t11 et11 => ?_)
        have at11 : t11.toInt = y10.toInt + 1 := by rw [et11]; exact tI_add (rfl : y10.toInt = _) (rfl : (1 : Int32).toInt = 1) (by omega) (by omega)
        have hFc := fr_all (wR_D xi5 hD) hS hA
        refine va_callv (va_runV (As := [.ref (ad 58), .int t11]) (rest := []) ⟨hx, hb, hml, hown, hts⟩ (sx_Row_beLike58 l dC dI cs ad xi5 ok H5 hP ((wR_D xi5 hD).weaken (fun _ _ _ _ => trivial)) (8 + vr.toNatClampNeg) hk9.1 hk9.2 t11 (by omega)) (cwV 2 hts (wU_V mw_4_55 mw_4_52 mw_4_53 mw_4_54 mw_1_11) rfl rfl rfl (by decide +kernel) ⟨Nat.le_of_ble_eq_true rfl, Nat.le_of_ble_eq_true rfl⟩) ⟨sz_c, va_recv hK hP (ci := 6) (q0 := (8 + vr.toNatClampNeg)) rfl (gX_row cs ad xi5 (8 + vr.toNatClampNeg) hk9.1 hk9.2), sz_m hK hz⟩ rfl rfl hl.1 rfl (lv_room (Nat.le_of_ble_eq_true rfl)) dX11_soonest_91 ⟨Nat.zero_le _, Nat.zero_le _⟩) hS (fun q _ h => hFc q h) hFc (fun xi12 t H12 locs ht hvm hw12 hB hz1 hk1 hS => ?_)
        have hP : va_P (dC, dI) vwCl (wR 157 ad (EX cs ad) xi12) H12 := by rw [← ht]; exact hB
        obtain ⟨ok, hw12, hkp12_0⟩ := hw12
        have kp13 : (∀ k f : Nat, Nat.testBit 510 (gpX k f) = true → xi12 k f = mu k f) := kp_t hkp12_0 (by decide) kp6
        refine lv_aload_n hx hb dX11_soonest_94 rfl (lv_at hl 1 rfl) ?_
        refine lv_aload_n hx hb dX11_soonest_95 rfl (lv_at hl 1 rfl) ?_
        refine va_get (D := (dC, dI)) (ci := 11) (v := .ref (ad 32)) (C := RX11) (T := TX11) (N := 11) hx hb hts inG11 hown hK hP 0 (gX_0 cs ad xi12) rfl 6 (by decide) (hts _ (List.mem_cons_of_mem _ mw_2_164)) (fun _ h9 => h9) rfl dX11_soonest_96 ?_
        refine va_get (D := (dC, dI)) (ci := 5) (v := .ref (ad 56)) (C := RX5) (T := TX5) (N := 15) hx hb hts inG5 hown hK hP 32 (gX_32 cs ad xi12) rfl 4 (by decide) (hts _ (List.mem_cons_of_mem _ mw_2_52)) (fun _ h9 => h9) rfl dX11_soonest_99 ?_
        refine va_get (D := (dC, dI)) (ci := 0) (v := .int (xi12 56 2)) (C := RX0) (T := TX0) (N := 4) hx hb hts inG0 hown hK hP 56 (gX_56 cs ad xi12) rfl 2 (by decide) (hts _ (List.mem_cons_of_mem _ mw_2_33)) (fun _ h9 => h9) rfl dX11_soonest_102 ?_
        refine lv_topi (fun y14 ey14 => ?_)
        have by14 : y14.toInt = (xi12 56 2).toInt := congrArg Int32.toInt ey14
        refine va_put (D := (dC, dI)) (ci := 11) (v := .int y14) (ty := .int) (C := RX11) (T := TX11) (N := 11) hx hb hts inG11 tyX11 tyX11_ok nmX11 hown hK hP (wR_D xi12 hD) hS 0 (gX_0 cs ad xi12) rfl 10 (by decide) (hts _ (List.mem_cons_of_mem _ mw_2_168)) (fun _ h9 => h9) rfl (by decide +kernel) rfl rfl (Nat.le_of_ble_eq_true rfl) dX11_soonest_105 (fun H locs hP _ hS => ?_)
        simp only [List.set_cons_succ, List.set_cons_zero] at hP
        refine wr_gen (upd (xi12 0) 10 y14) hP ((hX_0_10 cs ad _ _)) (fun nu15 hn15 hP => ?_)
        have ok := tX_0_10 ok hn15
        have ez16 : y14 = nu15 56 2 := ey14.trans (congrFun (up_k hn15 (by decide)) 2).symm
        have kp17 : (∀ k f : Nat, Nat.testBit 510 (gpX k f) = true → nu15 k f = mu k f) := kp_c 0 hn15 (fun _ => rfl) (by decide) kp13
        have ez18 : y14 = nu15 0 10 := up_v hn15
        refine lv_aload_n hx hb dX11_soonest_108 rfl (lv_at hl 1 rfl) ?_
        refine va_get (D := (dC, dI)) (ci := 11) (v := .ref (ad 32)) (C := RX11) (T := TX11) (N := 11) hx hb hts inG11 hown hK hP 0 (gX_0 cs ad nu15) rfl 6 (by decide) (hts _ (List.mem_cons_of_mem _ mw_2_164)) (fun _ h9 => h9) rfl dX11_soonest_109 ?_
        refine va_get (D := (dC, dI)) (ci := 5) (v := .ref (ad 56)) (C := RX5) (T := TX5) (N := 15) hx hb hts inG5 hown hK hP 32 (gX_32 cs ad nu15) rfl 4 (by decide) (hts _ (List.mem_cons_of_mem _ mw_2_52)) (fun _ h9 => h9) rfl dX11_soonest_112 ?_
        refine va_get (D := (dC, dI)) (ci := 0) (v := .int (nu15 56 1)) (C := RX0) (T := TX0) (N := 4) hx hb hts inG0 hown hK hP 56 (gX_56 cs ad nu15) rfl 1 (by decide) (hts _ (List.mem_cons_of_mem _ mw_2_30)) (fun _ h9 => h9) rfl dX11_soonest_115 ?_
        refine lv_topi (fun y19 ey19 => ?_)
        have by19 : y19.toInt = (nu15 56 1).toInt := congrArg Int32.toInt ey19
        have gy19 : 0 ≤ y19.toInt ∧ y19.toInt ≤ 6 := by rw [ey19]; exact rX_56_1 ok
        exact W.iret (v := y19) hx hb hr (fun t ht hW => ⟨⟨y19, nu15, rfl, ⟨ok, trivial, kp17⟩, by first | (subst ht; exact hP) | (rw [ht]; exact hP) | (show va_P (dC, dI) vwCl (wR 157 ad (EX cs ad) nu15) t.heap; rw [ht]; exact hP)⟩, hS.F ht⟩) hS.2.2 dX11_soonest_118
      · have c_8 : y7.toInt = 0 := il_eq c_8
        refine lv_bipush (v := (-9)) hx hb dX11_soonest_60 (by decide) ?_
        exact W.iret (v := (-9)) hx hb hr (fun t ht hW => ⟨⟨(-9), xi5, rfl, ⟨ok, trivial, kp6⟩, by first | (subst ht; exact hP) | (rw [ht]; exact hP) | (show va_P (dC, dI) vwCl (wR 157 ad (EX cs ad) xi5) t.heap; rw [ht]; exact hP)⟩, hS.F ht⟩) hS.2.2 dX11_soonest_62
    · have kp3 : (∀ k f : Nat, Nat.testBit 510 (gpX k f) = true → xi2 k f = mu k f) := kp_t hkp2_0 (by decide) (fun _ _ _ => rfl)
      skip
      refine lv_istore_n (lv' := [(3, .int r2), (0, .ref (ad 0)), (1, .int vk), (2, .int vr)]) hx hb dX11_soonest_17 rfl hl (by decide) rfl (fun ls hl => ?_)
      refine lv_iload_n hx hb dX11_soonest_18 rfl (lv_at hl 0 rfl) ?_
      refine lv_if_eq (tgt := 24) hx hb dX11_soonest_19 (by decide) (fun c_20 => by have c_20 : r2.toInt = 0 := il_eq c_20; exfalso; omega) (fun c_20 => ?_)
      have c_20 : ¬ r2.toInt = 0 := il_ne c_20
      refine lv_iload_n hx hb dX11_soonest_22 rfl (lv_at hl 0 rfl) ?_
      exact W.iret (v := r2) hx hb hr (fun t ht hW => ⟨⟨r2, xi2, rfl, ⟨ok, trivial, kp3⟩, by first | (subst ht; exact hP) | (rw [ht]; exact hP) | (show va_P (dC, dI) vwCl (wR 157 ad (EX cs ad) xi2) t.heap; rw [ht]; exact hP)⟩, hS.F ht⟩) hS.2.2 dX11_soonest_23
  · have f1 : vr.toInt < 0 ∨ 5 < vr.toInt := f1
    refine lv_if_ne (tgt := 13) hx hb dX11_soonest_6 (by decide) (fun c => absurd (by decide) c) (fun _ => ?_)
    refine lv_iconst (v := 1) hx hb dX11_soonest_9 (by decide) ?_
    refine lv_goto (tgt := 14) hx hb dX11_soonest_10 (by decide) ?_
    have hFc := fr_all (wR_D mu hD) hS hA
    refine va_calli (va_runV (As := [.int vk, .int 1]) (rest := []) ⟨hx, hb, hml, hown, hts⟩ (sx_refusedRoute l dC dI cs ad mu ok s.heap hP ((wR_D mu hD).weaken (fun _ _ _ _ => trivial)) vk 1) (cwV 2 hts (wU_V mw_4_1 mw_3_238 mw_4_0 mw_0_9 mw_1_1) rfl rfl rfl (by decide +kernel) ⟨Nat.le_of_ble_eq_true rfl, Nat.le_of_ble_eq_true rfl⟩) ⟨sz_c, va_recv hK hP (ci := 11) (q0 := 0) rfl (gX_0 cs ad mu), sz_m hK hz⟩ rfl rfl hl.1 rfl (lv_room (Nat.le_of_ble_eq_true rfl)) dX11_soonest_14 ⟨Nat.zero_le _, Nat.zero_le _⟩) hS (fun q _ h => hFc q h) hFc (fun r21 xi21 t H21 locs ht hvm hw21 hB hz1 hk1 hS => ?_)
    have hP : va_P (dC, dI) vwCl (wR 157 ad (EX cs ad) xi21) H21 := by rw [← ht]; exact hB
    rcases hw21 with ⟨rfl, hxi21, f21⟩ | ⟨z21, ok, hkp21_0⟩
    · have f21 : 0 ≤ vk.toInt ∧ vk.toInt < (mu 5 4).toInt ∧ (mu 5 4).toInt ≤ 4 ∧ (1 : Int) = 0 := f21
      exfalso
      have h9 : (1 : Int32).toInt = 1 := rfl
      omega
    · have kp22 : (∀ k f : Nat, Nat.testBit 510 (gpX k f) = true → xi21 k f = mu k f) := kp_t hkp21_0 (by decide) (fun _ _ _ => rfl)
      skip
      refine lv_istore_n (lv' := [(3, .int r21), (0, .ref (ad 0)), (1, .int vk), (2, .int vr)]) hx hb dX11_soonest_17 rfl hl (by decide) rfl (fun ls hl => ?_)
      refine lv_iload_n hx hb dX11_soonest_18 rfl (lv_at hl 0 rfl) ?_
      refine lv_if_eq (tgt := 24) hx hb dX11_soonest_19 (by decide) (fun c_23 => by have c_23 : r21.toInt = 0 := il_eq c_23; exfalso; omega) (fun c_23 => ?_)
      have c_23 : ¬ r21.toInt = 0 := il_ne c_23
      refine lv_iload_n hx hb dX11_soonest_22 rfl (lv_at hl 0 rfl) ?_
      exact W.iret (v := r21) hx hb hr (fun t ht hW => ⟨⟨r21, xi21, rfl, ⟨ok, trivial, kp22⟩, by first | (subst ht; exact hP) | (rw [ht]; exact hP) | (show va_P (dC, dI) vwCl (wR 157 ad (EX cs ad) xi21) t.heap; rw [ht]; exact hP)⟩, hS.F ht⟩) hS.2.2 dX11_soonest_23
