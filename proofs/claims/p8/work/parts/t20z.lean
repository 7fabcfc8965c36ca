set_option maxHeartbeats 4000000 in
set_option maxRecDepth 100000 in
/-- qm_cheapest -/
theorem qm_cheapest (l : Launch) (dC : Nat → ClassId) (dI : Nat → Nat → Nat) (cs : Nat → ClassId) (ad : Nat → Nat) (mu : Nat → Nat → Int32) (ok : okR loM hiM mu) (H : Heap) (hP : va_P (dC, dI) vwCl (wR 21 ad (EM cs ad) mu) H) (hD0 : va_D (fun _ => True) (wR 21 ad (EM cs ad) mu)) (vk : Int32) (vr : Int32) : Met l yX12_cheapest (wU yX12_cheapest cX12_cheapest 4 (some .int)) ({ frames := 12, cells := 0, slots := 0, locals := 302 }) (va_Pc [.ref (ad 0), .int vk, .int vr] (sz_P (dC, dI) vwCl (tyM cs) H)) (va_Qi (fun (z : Int32) (xi : Nat → Nat → Int32) => okR loM hiM xi ∧ (True) ∧ True) (fun xi t => va_P (dC, dI) vwCl (wR 21 ad (EM cs ad) xi) t.heap) (va_A (wR 21 ad (EM cs ad) mu) H.size)) 0 0 (va_A (wR 21 ad (EM cs ad) mu) H.size) := by
  refine Met.ofW (cc := cX12_cheapest) (maxL := 4) (ret := (some .int)) (by decide) rfl ?_
  intro p e s m args below meth c s₁ B hml hv
  obtain ⟨rfl, hh, hK, hz⟩ := hv
  have hx := B.exec
  have hb := B.bytes
  have hr := B.returns
  have hts := atoms_spec (ws := (wU yX12_cheapest cX12_cheapest 4 (some .int))) B.pre
  have hown : s.vm.findClass RX12 = some m.cls := findClass_of_methodNamed B.named
  have hlocks := B.notSynchronized
  subst hh
  have hD := hD0.self (sz := s.heap.size)
  have hA : ∀ q : Nat, s.heap.size ≤ q → (va_A (wR 21 ad (EM cs ad) mu) s.heap.size) q := fun q h => Or.inr h
  have hS : va_S (va_A (wR 21 ad (EM cs ad) mu) s.heap.size) s.heap s.heap [] := va_S.rf
  have hl := lv_entry ([.ref (ad 0), .int vk, .int vr]) (n := 4) (Nat.le_of_ble_eq_true rfl)
  rw [lg_entry_eq]
  generalize (lg_sl ([.ref (ad 0), .int vk, .int vr]) ++ List.replicate (4 - (lg_sl ([.ref (ad 0), .int vk, .int vr])).length) Slot.unset).toArray = ls at hl ⊢
  have hl : lv_has ls 4 [(0, .ref (ad 0)), (1, .int vk), (2, .int vr)] := hl
  refine lv_iload_n hx hb dX12_cheapest_0 rfl (lv_at hl 2 rfl) ?_
  refine cr_i (va_runS (As := [.int vr]) (rest := []) ⟨hx, hb, hml, hown, hts⟩ (sm_isRow l dC dI (tyM cs) s.heap vr) (va_cwS 1 hts (wU_S mw_5_186 mw_5_184 mw_5_185 mw_1_13) rfl rfl rfl (by decide +kernel) ⟨Nat.le_of_ble_eq_true rfl, Nat.le_of_ble_eq_true rfl⟩) ⟨sz_c, sz_m hK hz⟩ rfl rfl hl.1 rfl (lv_room (Nat.le_of_ble_eq_true rfl)) dX12_cheapest_1 ⟨Nat.zero_le _, Nat.zero_le _⟩) hS (fun r1 hw1 locs hS => ?_)
  rcases hw1 with ⟨rfl, f1⟩ | ⟨rfl, f1⟩
  · have f1 : 0 ≤ vr.toInt ∧ vr.toInt ≤ 5 := f1
    refine lv_if_ne (tgt := 11) hx hb dX12_cheapest_4 (by decide) (fun _ => ?_) (fun c => absurd c (by decide))
    refine lv_aload_n hx hb dX12_cheapest_11 rfl (lv_at hl 0 rfl) ?_
    refine lv_iload_n hx hb dX12_cheapest_12 rfl (lv_at hl 1 rfl) ?_
    have hFc := fr_all (wR_D mu hD) hS hA
    refine va_calli (va_runV (As := [.int vk]) (rest := []) ⟨hx, hb, hml, hown, hts⟩ (sm_askedRoutes l dC dI cs ad mu ok s.heap hP ((wR_D mu hD).weaken (fun _ _ _ _ => trivial)) vk) (cwV 1 hts (wU_V mw_6_170 mw_6_167 mw_6_169 mw_0_52 mw_1_13) rfl rfl rfl (by decide +kernel) ⟨Nat.le_of_ble_eq_true rfl, Nat.le_of_ble_eq_true rfl⟩) ⟨sz_c, va_recv hK hP (ci := 12) (q0 := 0) rfl (gM_0 cs ad mu), sz_m hK hz⟩ rfl rfl hl.1 rfl (lv_room (Nat.le_of_ble_eq_true rfl)) dX12_cheapest_13 ⟨Nat.zero_le _, Nat.zero_le _⟩) hS (fun q _ h => hFc q h) hFc (fun r2 xi2 t H2 locs ht hvm hw2 hB hz1 hk1 hS => ?_)
    have hP : va_P (dC, dI) vwCl (wR 21 ad (EM cs ad) xi2) H2 := by rw [← ht]; exact hB
    rcases hw2 with ⟨rfl, ok, f2⟩ | ⟨z2, ok⟩
    · have f2 : 0 ≤ vk.toInt ∧ vk.toInt ≤ 3 ∧ ((xi2 0 33).toInt = 0 ∨ (xi2 0 35).toInt ≤ 7) := f2
      refine lv_istore_n (lv' := [(3, .int 0), (0, .ref (ad 0)), (1, .int vk), (2, .int vr)]) hx hb dX12_cheapest_16 rfl hl (by decide) rfl (fun ls hl => ?_)
      refine lv_iload_n hx hb dX12_cheapest_17 rfl (lv_at hl 0 rfl) ?_
      refine lv_if_ge (tgt := 23) hx hb dX12_cheapest_18 (by decide) (fun _ => ?_) (fun c => absurd (by decide) c)
      refine lv_aload_n hx hb dX12_cheapest_23 rfl (lv_at hl 1 rfl) ?_
      refine va_get (D := (dC, dI)) (ci := 12) (v := .int (xi2 0 30)) (C := RX12) (T := TX12) (N := 46) hx hb hts inG12 hown hK hP 0 (gM_0 cs ad xi2) rfl 30 (by decide) (hts _ (List.mem_cons_of_mem _ mw_5_71)) (fun _ h9 => h9) rfl dX12_cheapest_24 ?_
      refine lv_topi (fun y3 ey3 => ?_)
      have by3 : y3.toInt = (xi2 0 30).toInt := congrArg Int32.toInt ey3
      refine lv_if_ne (tgt := 33) hx hb dX12_cheapest_27 (by decide) (fun c_4 => ?_) (fun c_4 => ?_)
      · have c_4 : ¬ y3.toInt = 0 := il_ne c_4
        refine lv_aload_n hx hb dX12_cheapest_33 rfl (lv_at hl 1 rfl) ?_
        refine lv_iload_n hx hb dX12_cheapest_34 rfl (lv_at hl 3 rfl) ?_
        refine lv_aload_n hx hb dX12_cheapest_35 rfl (lv_at hl 1 rfl) ?_
        refine va_get (D := (dC, dI)) (ci := 12) (v := .ref (ad 17)) (C := RX12) (T := TX12) (N := 46) hx hb hts inG12 hown hK hP 0 (gM_0 cs ad xi2) rfl 27 (by decide) (hts _ (List.mem_cons_of_mem _ mw_5_68)) (fun _ h9 => h9) rfl dX12_cheapest_36 ?_
        refine lv_aload_n hx hb dX12_cheapest_39 rfl (lv_at hl 1 rfl) ?_
        refine va_get (D := (dC, dI)) (ci := 12) (v := .int (xi2 0 32)) (C := RX12) (T := TX12) (N := 46) hx hb hts inG12 hown hK hP 0 (gM_0 cs ad xi2) rfl 32 (by decide) (hts _ (List.mem_cons_of_mem _ mw_5_73)) (fun _ h9 => h9) rfl dX12_cheapest_40 ?_
        refine lv_topi (fun y5 ey5 => ?_)
        have by5 : y5.toInt = (xi2 0 32).toInt := congrArg Int32.toInt ey5
        have gy5 : 0 ≤ y5.toInt ∧ y5.toInt ≤ 7 := by rw [ey5]; exact rM_0_32 ok
        have hFc := fr_all (wR_D xi2 hD) hS hA
        refine va_callv (va_runV (As := [.int vr, .ref (ad 17), .int y5]) (rest := []) ⟨hx, hb, hml, hown, hts⟩ (sm_layRoute17 l dC dI cs ad xi2 ok H2 hP ((wR_D xi2 hD).weaken (fun _ _ _ _ => trivial)) vr y5 (by omega)) (cwV 3 hts (wU_V mw_6_195 mw_6_192 mw_6_194 mw_0_58 mw_1_13) rfl rfl rfl (by decide +kernel) ⟨Nat.le_of_ble_eq_true rfl, Nat.le_of_ble_eq_true rfl⟩) ⟨sz_c, va_recv hK hP (ci := 12) (q0 := 0) rfl (gM_0 cs ad xi2), sz_m hK hz⟩ rfl rfl hl.1 rfl (lv_room (Nat.le_of_ble_eq_true rfl)) dX12_cheapest_43 ⟨Nat.zero_le _, Nat.zero_le _⟩) hS (fun q _ h => hFc q h) hFc (fun xi6 t H6 locs ht hvm hw6 hB hz1 hk1 hS => ?_)
        have hP : va_P (dC, dI) vwCl (wR 21 ad (EM cs ad) xi6) H6 := by rw [← ht]; exact hB
        obtain ⟨ok, hw6, _⟩ := hw6
        refine lv_aload_n hx hb dX12_cheapest_46 rfl (lv_at hl 1 rfl) ?_
        refine va_get (D := (dC, dI)) (ci := 12) (v := .int (xi6 0 31)) (C := RX12) (T := TX12) (N := 46) hx hb hts inG12 hown hK hP 0 (gM_0 cs ad xi6) rfl 31 (by decide) (hts _ (List.mem_cons_of_mem _ mw_5_72)) (fun _ h9 => h9) rfl dX12_cheapest_47 ?_
        refine lv_topi (fun y7 ey7 => ?_)
        have by7 : y7.toInt = (xi6 0 31).toInt := congrArg Int32.toInt ey7
        exact W.iret (v := y7) hx hb hr (fun t ht hW => ⟨⟨y7, xi6, rfl, ⟨ok, trivial, trivial⟩, by first | (subst ht; exact hP) | (rw [ht]; exact hP) | (show va_P (dC, dI) vwCl (wR 21 ad (EM cs ad) xi6) t.heap; rw [ht]; exact hP)⟩, hS.F ht⟩) hS.2.2 dX12_cheapest_50
      · have c_4 : y3.toInt = 0 := il_eq c_4
        refine lv_bipush (v := (-9)) hx hb dX12_cheapest_30 (by decide) ?_
        exact W.iret (v := (-9)) hx hb hr (fun t ht hW => ⟨⟨(-9), xi2, rfl, ⟨ok, trivial, trivial⟩, by first | (subst ht; exact hP) | (rw [ht]; exact hP) | (show va_P (dC, dI) vwCl (wR 21 ad (EM cs ad) xi2) t.heap; rw [ht]; exact hP)⟩, hS.F ht⟩) hS.2.2 dX12_cheapest_32
    · skip
      refine lv_istore_n (lv' := [(3, .int r2), (0, .ref (ad 0)), (1, .int vk), (2, .int vr)]) hx hb dX12_cheapest_16 rfl hl (by decide) rfl (fun ls hl => ?_)
      refine lv_iload_n hx hb dX12_cheapest_17 rfl (lv_at hl 0 rfl) ?_
      refine lv_if_ge (tgt := 23) hx hb dX12_cheapest_18 (by decide) (fun c_8 => by have c_8 : 0 ≤ r2.toInt := il_le c_8; exfalso; omega) (fun c_8 => ?_)
      have c_8 : r2.toInt < 0 := il_nle c_8
      refine lv_iload_n hx hb dX12_cheapest_21 rfl (lv_at hl 0 rfl) ?_
      exact W.iret (v := r2) hx hb hr (fun t ht hW => ⟨⟨r2, xi2, rfl, ⟨ok, trivial, trivial⟩, by first | (subst ht; exact hP) | (rw [ht]; exact hP) | (show va_P (dC, dI) vwCl (wR 21 ad (EM cs ad) xi2) t.heap; rw [ht]; exact hP)⟩, hS.F ht⟩) hS.2.2 dX12_cheapest_22
  · have f1 : vr.toInt < 0 ∨ 5 < vr.toInt := f1
    refine lv_if_ne (tgt := 11) hx hb dX12_cheapest_4 (by decide) (fun c => absurd (by decide) c) (fun _ => ?_)
    refine lv_iconst (v := (-1)) hx hb dX12_cheapest_7 (by decide) ?_
    refine lv_goto (tgt := 16) hx hb dX12_cheapest_8 (by decide) ?_
    refine lv_istore_n (lv' := [(3, .int (-1)), (0, .ref (ad 0)), (1, .int vk), (2, .int vr)]) hx hb dX12_cheapest_16 rfl hl (by decide) rfl (fun ls hl => ?_)
    refine lv_iload_n hx hb dX12_cheapest_17 rfl (lv_at hl 0 rfl) ?_
    refine lv_if_ge (tgt := 23) hx hb dX12_cheapest_18 (by decide) (fun c => absurd c (by decide)) (fun _ => ?_)
    refine lv_iload_n hx hb dX12_cheapest_21 rfl (lv_at hl 0 rfl) ?_
    exact W.iret (v := (-1)) hx hb hr (fun t ht hW => ⟨⟨(-1), mu, rfl, ⟨ok, trivial, trivial⟩, by first | (subst ht; exact hP) | (rw [ht]; exact hP) | (show va_P (dC, dI) vwCl (wR 21 ad (EM cs ad) mu) t.heap; rw [ht]; exact hP)⟩, hS.F ht⟩) hS.2.2 dX12_cheapest_22
set_option maxHeartbeats 4000000 in
set_option maxRecDepth 100000 in
/-- qm_soonest -/
theorem qm_soonest (l : Launch) (dC : Nat → ClassId) (dI : Nat → Nat → Nat) (cs : Nat → ClassId) (ad : Nat → Nat) (mu : Nat → Nat → Int32) (ok : okR loM hiM mu) (H : Heap) (hP : va_P (dC, dI) vwCl (wR 21 ad (EM cs ad) mu) H) (hD0 : va_D (fun _ => True) (wR 21 ad (EM cs ad) mu)) (vk : Int32) (vr : Int32) : Met l yX12_soonest (wU yX12_soonest cX12_soonest 4 (some .int)) ({ frames := 12, cells := 0, slots := 0, locals := 302 }) (va_Pc [.ref (ad 0), .int vk, .int vr] (sz_P (dC, dI) vwCl (tyM cs) H)) (va_Qi (fun (z : Int32) (xi : Nat → Nat → Int32) => okR loM hiM xi ∧ (True) ∧ True) (fun xi t => va_P (dC, dI) vwCl (wR 21 ad (EM cs ad) xi) t.heap) (va_A (wR 21 ad (EM cs ad) mu) H.size)) 0 0 (va_A (wR 21 ad (EM cs ad) mu) H.size) := by
  refine Met.ofW (cc := cX12_soonest) (maxL := 4) (ret := (some .int)) (by decide) rfl ?_
  intro p e s m args below meth c s₁ B hml hv
  obtain ⟨rfl, hh, hK, hz⟩ := hv
  have hx := B.exec
  have hb := B.bytes
  have hr := B.returns
  have hts := atoms_spec (ws := (wU yX12_soonest cX12_soonest 4 (some .int))) B.pre
  have hown : s.vm.findClass RX12 = some m.cls := findClass_of_methodNamed B.named
  have hlocks := B.notSynchronized
  subst hh
  have hD := hD0.self (sz := s.heap.size)
  have hA : ∀ q : Nat, s.heap.size ≤ q → (va_A (wR 21 ad (EM cs ad) mu) s.heap.size) q := fun q h => Or.inr h
  have hS : va_S (va_A (wR 21 ad (EM cs ad) mu) s.heap.size) s.heap s.heap [] := va_S.rf
  have hl := lv_entry ([.ref (ad 0), .int vk, .int vr]) (n := 4) (Nat.le_of_ble_eq_true rfl)
  rw [lg_entry_eq]
  generalize (lg_sl ([.ref (ad 0), .int vk, .int vr]) ++ List.replicate (4 - (lg_sl ([.ref (ad 0), .int vk, .int vr])).length) Slot.unset).toArray = ls at hl ⊢
  have hl : lv_has ls 4 [(0, .ref (ad 0)), (1, .int vk), (2, .int vr)] := hl
  obtain ⟨y1, ey1⟩ : ∃ z : Int32, z = mu 0 39 := ⟨_, rfl⟩
  have by1 : y1.toInt = (mu 0 39).toInt := congrArg Int32.toInt ey1
  have gy1 : -9 ≤ y1.toInt ∧ y1.toInt ≤ 3 := by rw [ey1]; exact rM_0_39 ok
  obtain ⟨y2, ey2⟩ : ∃ z : Int32, z = mu 0 33 := ⟨_, rfl⟩
  have by2 : y2.toInt = (mu 0 33).toInt := congrArg Int32.toInt ey2
  obtain ⟨y3, ey3⟩ : ∃ z : Int32, z = mu 0 35 := ⟨_, rfl⟩
  have by3 : y3.toInt = (mu 0 35).toInt := congrArg Int32.toInt ey3
  refine lv_iload_n hx hb dX12_soonest_0 rfl (lv_at hl 2 rfl) ?_
  refine cr_i (va_runS (As := [.int vr]) (rest := []) ⟨hx, hb, hml, hown, hts⟩ (sm_isRow l dC dI (tyM cs) s.heap vr) (va_cwS 1 hts (wU_S mw_5_186 mw_5_184 mw_5_185 mw_1_13) rfl rfl rfl (by decide +kernel) ⟨Nat.le_of_ble_eq_true rfl, Nat.le_of_ble_eq_true rfl⟩) ⟨sz_c, sz_m hK hz⟩ rfl rfl hl.1 rfl (lv_room (Nat.le_of_ble_eq_true rfl)) dX12_soonest_1 ⟨Nat.zero_le _, Nat.zero_le _⟩) hS (fun r4 hw4 locs hS => ?_)
  rcases hw4 with ⟨rfl, f4⟩ | ⟨rfl, f4⟩
  · have f4 : 0 ≤ vr.toInt ∧ vr.toInt ≤ 5 := f4
    refine lv_if_ne (tgt := 11) hx hb dX12_soonest_4 (by decide) (fun _ => ?_) (fun c => absurd c (by decide))
    refine lv_aload_n hx hb dX12_soonest_11 rfl (lv_at hl 0 rfl) ?_
    refine lv_iload_n hx hb dX12_soonest_12 rfl (lv_at hl 1 rfl) ?_
    have hFc := fr_all (wR_D mu hD) hS hA
    refine va_calli (va_runV (As := [.int vk]) (rest := []) ⟨hx, hb, hml, hown, hts⟩ (sm_askedRoutes l dC dI cs ad mu ok s.heap hP ((wR_D mu hD).weaken (fun _ _ _ _ => trivial)) vk) (cwV 1 hts (wU_V mw_6_170 mw_6_167 mw_6_169 mw_0_52 mw_1_13) rfl rfl rfl (by decide +kernel) ⟨Nat.le_of_ble_eq_true rfl, Nat.le_of_ble_eq_true rfl⟩) ⟨sz_c, va_recv hK hP (ci := 12) (q0 := 0) rfl (gM_0 cs ad mu), sz_m hK hz⟩ rfl rfl hl.1 rfl (lv_room (Nat.le_of_ble_eq_true rfl)) dX12_soonest_13 ⟨Nat.zero_le _, Nat.zero_le _⟩) hS (fun q _ h => hFc q h) hFc (fun r5 xi5 t H5 locs ht hvm hw5 hB hz1 hk1 hS => ?_)
    have hP : va_P (dC, dI) vwCl (wR 21 ad (EM cs ad) xi5) H5 := by rw [← ht]; exact hB
    rcases hw5 with ⟨rfl, ok, f5⟩ | ⟨z5, ok⟩
    · have f5 : 0 ≤ vk.toInt ∧ vk.toInt ≤ 3 ∧ ((xi5 0 33).toInt = 0 ∨ (xi5 0 35).toInt ≤ 7) := f5
      refine lv_istore_n (lv' := [(3, .int 0), (0, .ref (ad 0)), (1, .int vk), (2, .int vr)]) hx hb dX12_soonest_16 rfl hl (by decide) rfl (fun ls hl => ?_)
      refine lv_iload_n hx hb dX12_soonest_17 rfl (lv_at hl 0 rfl) ?_
      refine lv_if_ge (tgt := 23) hx hb dX12_soonest_18 (by decide) (fun _ => ?_) (fun c => absurd (by decide) c)
      refine lv_aload_n hx hb dX12_soonest_23 rfl (lv_at hl 1 rfl) ?_
      refine va_get (D := (dC, dI)) (ci := 12) (v := .int (xi5 0 33)) (C := RX12) (T := TX12) (N := 46) hx hb hts inG12 hown hK hP 0 (gM_0 cs ad xi5) rfl 33 (by decide) (hts _ (List.mem_cons_of_mem _ mw_5_74)) (fun _ h9 => h9) rfl dX12_soonest_24 ?_
      refine lv_topi (fun y6 ey6 => ?_)
      have by6 : y6.toInt = (xi5 0 33).toInt := congrArg Int32.toInt ey6
      refine lv_if_ne (tgt := 33) hx hb dX12_soonest_27 (by decide) (fun c_7 => ?_) (fun c_7 => ?_)
      · have c_7 : ¬ y6.toInt = 0 := il_ne c_7
        refine lv_aload_n hx hb dX12_soonest_33 rfl (lv_at hl 1 rfl) ?_
        refine lv_iload_n hx hb dX12_soonest_34 rfl (lv_at hl 3 rfl) ?_
        refine lv_aload_n hx hb dX12_soonest_35 rfl (lv_at hl 1 rfl) ?_
        refine va_get (D := (dC, dI)) (ci := 12) (v := .ref (ad 18)) (C := RX12) (T := TX12) (N := 46) hx hb hts inG12 hown hK hP 0 (gM_0 cs ad xi5) rfl 28 (by decide) (hts _ (List.mem_cons_of_mem _ mw_5_69)) (fun _ h9 => h9) rfl dX12_soonest_36 ?_
        refine lv_aload_n hx hb dX12_soonest_39 rfl (lv_at hl 1 rfl) ?_
        refine va_get (D := (dC, dI)) (ci := 12) (v := .int (xi5 0 35)) (C := RX12) (T := TX12) (N := 46) hx hb hts inG12 hown hK hP 0 (gM_0 cs ad xi5) rfl 35 (by decide) (hts _ (List.mem_cons_of_mem _ mw_5_76)) (fun _ h9 => h9) rfl dX12_soonest_40 ?_
        refine lv_topi (fun y8 ey8 => ?_)
        have by8 : y8.toInt = (xi5 0 35).toInt := congrArg Int32.toInt ey8
        have hFc := fr_all (wR_D xi5 hD) hS hA
        refine va_callv (va_runV (As := [.int vr, .ref (ad 18), .int y8]) (rest := []) ⟨hx, hb, hml, hown, hts⟩ (sm_layRoute18 l dC dI cs ad xi5 ok H5 hP ((wR_D xi5 hD).weaken (fun _ _ _ _ => trivial)) vr y8 (by omega)) (cwV 3 hts (wU_V mw_6_195 mw_6_192 mw_6_194 mw_0_58 mw_1_13) rfl rfl rfl (by decide +kernel) ⟨Nat.le_of_ble_eq_true rfl, Nat.le_of_ble_eq_true rfl⟩) ⟨sz_c, va_recv hK hP (ci := 12) (q0 := 0) rfl (gM_0 cs ad xi5), sz_m hK hz⟩ rfl rfl hl.1 rfl (lv_room (Nat.le_of_ble_eq_true rfl)) dX12_soonest_43 ⟨Nat.zero_le _, Nat.zero_le _⟩) hS (fun q _ h => hFc q h) hFc (fun xi9 t H9 locs ht hvm hw9 hB hz1 hk1 hS => ?_)
        have hP : va_P (dC, dI) vwCl (wR 21 ad (EM cs ad) xi9) H9 := by rw [← ht]; exact hB
        obtain ⟨ok, hw9, _⟩ := hw9
        obtain ⟨y10, ey10⟩ : ∃ z : Int32, z = xi9 0 39 := ⟨_, rfl⟩
        have by10 : y10.toInt = (xi9 0 39).toInt := congrArg Int32.toInt ey10
        have gy10 : -9 ≤ y10.toInt ∧ y10.toInt ≤ 3 := by rw [ey10]; exact rM_0_39 ok
        obtain ⟨y11, ey11⟩ : ∃ z : Int32, z = xi9 0 33 := ⟨_, rfl⟩
        have by11 : y11.toInt = (xi9 0 33).toInt := congrArg Int32.toInt ey11
        obtain ⟨y12, ey12⟩ : ∃ z : Int32, z = xi9 0 35 := ⟨_, rfl⟩
        have by12 : y12.toInt = (xi9 0 35).toInt := congrArg Int32.toInt ey12
        refine lv_aload_n hx hb dX12_soonest_46 rfl (lv_at hl 1 rfl) ?_
        refine lv_aload_n hx hb dX12_soonest_47 rfl (lv_at hl 1 rfl) ?_
        refine va_get (D := (dC, dI)) (ci := 12) (v := .int (xi9 0 34)) (C := RX12) (T := TX12) (N := 46) hx hb hts inG12 hown hK hP 0 (gM_0 cs ad xi9) rfl 34 (by decide) (hts _ (List.mem_cons_of_mem _ mw_5_75)) (fun _ h9 => h9) rfl dX12_soonest_48 ?_
        refine lv_topi (fun y13 ey13 => ?_)
        have by13 : y13.toInt = (xi9 0 34).toInt := congrArg Int32.toInt ey13
        refine lv_aload_n hx hb dX12_soonest_51 rfl (lv_at hl 1 rfl) ?_
        refine va_get (D := (dC, dI)) (ci := 12) (v := .int (xi9 0 35)) (C := RX12) (T := TX12) (N := 46) hx hb hts inG12 hown hK hP 0 (gM_0 cs ad xi9) rfl 35 (by decide) (hts _ (List.mem_cons_of_mem _ mw_5_76)) (fun _ h9 => h9) rfl dX12_soonest_52 ?_
        refine lq_i y12 ey12.symm ?_
        refine lv_iconst (v := 1) hx hb dX12_soonest_55 (by decide) ?_
        refine lv_isub hx hb dX12_soonest_56 ?_
        refine lv_topi (fun t14 et14 => ?_)
        have hFc := fr_all (wR_D xi9 hD) hS hA
        refine va_calli (va_runV (As := [.int y13, .int t14]) (rest := []) ⟨hx, hb, hml, hown, hts⟩ (sm_ask l dC dI cs ad xi9 ok H9 hP ((wR_D xi9 hD).weaken (fun _ _ _ _ => trivial)) y13 t14) (cwV 2 hts (wU_V mw_5_213 mw_5_210 mw_5_212 mw_0_30 mw_1_13) rfl rfl rfl (by decide +kernel) ⟨Nat.le_of_ble_eq_true rfl, Nat.le_of_ble_eq_true rfl⟩) ⟨sz_c, va_recv hK hP (ci := 12) (q0 := 0) rfl (gM_0 cs ad xi9), sz_m hK hz⟩ rfl rfl hl.1 rfl (lv_room (Nat.le_of_ble_eq_true rfl)) dX12_soonest_57 ⟨Nat.zero_le _, Nat.zero_le _⟩) hS (fun q _ h => hFc q h) hFc (fun r15 xi15 t H15 locs ht hvm hw15 hB hz1 hk1 hS => ?_)
        have hP : va_P (dC, dI) vwCl (wR 21 ad (EM cs ad) xi15) H15 := by rw [← ht]; exact hB
        obtain ⟨ok, hw15, _⟩ := hw15
        obtain ⟨y16, ey16⟩ : ∃ z : Int32, z = xi15 0 39 := ⟨_, rfl⟩
        have by16 : y16.toInt = (xi15 0 39).toInt := congrArg Int32.toInt ey16
        have gy16 : -9 ≤ y16.toInt ∧ y16.toInt ≤ 3 := by rw [ey16]; exact rM_0_39 ok
        obtain ⟨y17, ey17⟩ : ∃ z : Int32, z = xi15 0 33 := ⟨_, rfl⟩
        have by17 : y17.toInt = (xi15 0 33).toInt := congrArg Int32.toInt ey17
        obtain ⟨y18, ey18⟩ : ∃ z : Int32, z = xi15 0 35 := ⟨_, rfl⟩
        have by18 : y18.toInt = (xi15 0 35).toInt := congrArg Int32.toInt ey18
        have gr15 : r15.toInt = t14.toInt := hw15
        exact W.iret (v := r15) hx hb hr (fun t ht hW => ⟨⟨r15, xi15, rfl, ⟨ok, trivial, trivial⟩, by first | (subst ht; exact hP) | (rw [ht]; exact hP) | (show va_P (dC, dI) vwCl (wR 21 ad (EM cs ad) xi15) t.heap; rw [ht]; exact hP)⟩, hS.F ht⟩) hS.2.2 dX12_soonest_60
      · have c_7 : y6.toInt = 0 := il_eq c_7
        refine lv_bipush (v := (-9)) hx hb dX12_soonest_30 (by decide) ?_
        exact W.iret (v := (-9)) hx hb hr (fun t ht hW => ⟨⟨(-9), xi5, rfl, ⟨ok, trivial, trivial⟩, by first | (subst ht; exact hP) | (rw [ht]; exact hP) | (show va_P (dC, dI) vwCl (wR 21 ad (EM cs ad) xi5) t.heap; rw [ht]; exact hP)⟩, hS.F ht⟩) hS.2.2 dX12_soonest_32
    · skip
      refine lv_istore_n (lv' := [(3, .int r5), (0, .ref (ad 0)), (1, .int vk), (2, .int vr)]) hx hb dX12_soonest_16 rfl hl (by decide) rfl (fun ls hl => ?_)
      refine lv_iload_n hx hb dX12_soonest_17 rfl (lv_at hl 0 rfl) ?_
      refine lv_if_ge (tgt := 23) hx hb dX12_soonest_18 (by decide) (fun c_19 => by have c_19 : 0 ≤ r5.toInt := il_le c_19; exfalso; omega) (fun c_19 => ?_)
      have c_19 : r5.toInt < 0 := il_nle c_19
      refine lv_iload_n hx hb dX12_soonest_21 rfl (lv_at hl 0 rfl) ?_
      exact W.iret (v := r5) hx hb hr (fun t ht hW => ⟨⟨r5, xi5, rfl, ⟨ok, trivial, trivial⟩, by first | (subst ht; exact hP) | (rw [ht]; exact hP) | (show va_P (dC, dI) vwCl (wR 21 ad (EM cs ad) xi5) t.heap; rw [ht]; exact hP)⟩, hS.F ht⟩) hS.2.2 dX12_soonest_22
  · have f4 : vr.toInt < 0 ∨ 5 < vr.toInt := f4
    refine lv_if_ne (tgt := 11) hx hb dX12_soonest_4 (by decide) (fun c => absurd (by decide) c) (fun _ => ?_)
    refine lv_iconst (v := (-1)) hx hb dX12_soonest_7 (by decide) ?_
    refine lv_goto (tgt := 16) hx hb dX12_soonest_8 (by decide) ?_
    refine lv_istore_n (lv' := [(3, .int (-1)), (0, .ref (ad 0)), (1, .int vk), (2, .int vr)]) hx hb dX12_soonest_16 rfl hl (by decide) rfl (fun ls hl => ?_)
    refine lv_iload_n hx hb dX12_soonest_17 rfl (lv_at hl 0 rfl) ?_
    refine lv_if_ge (tgt := 23) hx hb dX12_soonest_18 (by decide) (fun c => absurd c (by decide)) (fun _ => ?_)
    refine lv_iload_n hx hb dX12_soonest_21 rfl (lv_at hl 0 rfl) ?_
    exact W.iret (v := (-1)) hx hb hr (fun t ht hW => ⟨⟨(-1), mu, rfl, ⟨ok, trivial, trivial⟩, by first | (subst ht; exact hP) | (rw [ht]; exact hP) | (show va_P (dC, dI) vwCl (wR 21 ad (EM cs ad) mu) t.heap; rw [ht]; exact hP)⟩, hS.F ht⟩) hS.2.2 dX12_soonest_22
set_option maxHeartbeats 4000000 in
set_option maxRecDepth 100000 in
/-- qm_comes -/
theorem qm_comes (l : Launch) (dC : Nat → ClassId) (dI : Nat → Nat → Nat) (cs : Nat → ClassId) (ad : Nat → Nat) (mu : Nat → Nat → Int32) (ok : okR loM hiM mu) (H : Heap) (hP : va_P (dC, dI) vwCl (wR 21 ad (EM cs ad) mu) H) (hD0 : va_D (fun _ => True) (wR 21 ad (EM cs ad) mu)) (vk : Int32) : Met l yX12_comes (wU yX12_comes cX12_comes 3 (some .int)) ({ frames := 12, cells := 0, slots := 0, locals := 302 }) (va_Pc [.ref (ad 0), .int vk] (sz_P (dC, dI) vwCl (tyM cs) H)) (va_Qi (fun (z : Int32) (xi : Nat → Nat → Int32) => okR loM hiM xi ∧ (True) ∧ True) (fun xi t => va_P (dC, dI) vwCl (wR 21 ad (EM cs ad) xi) t.heap) (va_A (wR 21 ad (EM cs ad) mu) H.size)) 0 0 (va_A (wR 21 ad (EM cs ad) mu) H.size) := by
  refine Met.ofW (cc := cX12_comes) (maxL := 3) (ret := (some .int)) (by decide) rfl ?_
  intro p e s m args below meth c s₁ B hml hv
  obtain ⟨rfl, hh, hK, hz⟩ := hv
  have hx := B.exec
  have hb := B.bytes
  have hr := B.returns
  have hts := atoms_spec (ws := (wU yX12_comes cX12_comes 3 (some .int))) B.pre
  have hown : s.vm.findClass RX12 = some m.cls := findClass_of_methodNamed B.named
  have hlocks := B.notSynchronized
  subst hh
  have hD := hD0.self (sz := s.heap.size)
  have hA : ∀ q : Nat, s.heap.size ≤ q → (va_A (wR 21 ad (EM cs ad) mu) s.heap.size) q := fun q h => Or.inr h
  have hS : va_S (va_A (wR 21 ad (EM cs ad) mu) s.heap.size) s.heap s.heap [] := va_S.rf
  have hl := lv_entry ([.ref (ad 0), .int vk]) (n := 3) (Nat.le_of_ble_eq_true rfl)
  rw [lg_entry_eq]
  generalize (lg_sl ([.ref (ad 0), .int vk]) ++ List.replicate (3 - (lg_sl ([.ref (ad 0), .int vk])).length) Slot.unset).toArray = ls at hl ⊢
  have hl : lv_has ls 3 [(0, .ref (ad 0)), (1, .int vk)] := hl
  refine lv_aload_n hx hb dX12_comes_0 rfl (lv_at hl 0 rfl) ?_
  refine lv_iload_n hx hb dX12_comes_1 rfl (lv_at hl 1 rfl) ?_
  have hFc := fr_all (wR_D mu hD) hS hA
  refine va_calli (va_runV (As := [.int vk]) (rest := []) ⟨hx, hb, hml, hown, hts⟩ (sm_askedRoutes l dC dI cs ad mu ok s.heap hP ((wR_D mu hD).weaken (fun _ _ _ _ => trivial)) vk) (cwV 1 hts (wU_V mw_6_170 mw_6_167 mw_6_169 mw_0_52 mw_1_13) rfl rfl rfl (by decide +kernel) ⟨Nat.le_of_ble_eq_true rfl, Nat.le_of_ble_eq_true rfl⟩) ⟨sz_c, va_recv hK hP (ci := 12) (q0 := 0) rfl (gM_0 cs ad mu), sz_m hK hz⟩ rfl rfl hl.1 rfl (lv_room (Nat.le_of_ble_eq_true rfl)) dX12_comes_2 ⟨Nat.zero_le _, Nat.zero_le _⟩) hS (fun q _ h => hFc q h) hFc (fun r1 xi1 t H1 locs ht hvm hw1 hB hz1 hk1 hS => ?_)
  have hP : va_P (dC, dI) vwCl (wR 21 ad (EM cs ad) xi1) H1 := by rw [← ht]; exact hB
  rcases hw1 with ⟨rfl, ok, f1⟩ | ⟨z1, ok⟩
  · have f1 : 0 ≤ vk.toInt ∧ vk.toInt ≤ 3 ∧ ((xi1 0 33).toInt = 0 ∨ (xi1 0 35).toInt ≤ 7) := f1
    refine lv_istore_n (lv' := [(2, .int 0), (0, .ref (ad 0)), (1, .int vk)]) hx hb dX12_comes_5 rfl hl (by decide) rfl (fun ls hl => ?_)
    refine lv_iload_n hx hb dX12_comes_6 rfl (lv_at hl 0 rfl) ?_
    refine lv_if_ge (tgt := 14) hx hb dX12_comes_7 (by decide) (fun _ => ?_) (fun c => absurd (by decide) c)
    refine lv_aload_n hx hb dX12_comes_14 rfl (lv_at hl 1 rfl) ?_
    refine lv_aload_n hx hb dX12_comes_15 rfl (lv_at hl 1 rfl) ?_
    refine va_get (D := (dC, dI)) (ci := 12) (v := .int (xi1 0 30)) (C := RX12) (T := TX12) (N := 46) hx hb hts inG12 hown hK hP 0 (gM_0 cs ad xi1) rfl 30 (by decide) (hts _ (List.mem_cons_of_mem _ mw_5_71)) (fun _ h9 => h9) rfl dX12_comes_16 ?_
    refine lv_topi (fun y2 ey2 => ?_)
    have by2 : y2.toInt = (xi1 0 30).toInt := congrArg Int32.toInt ey2
    refine lv_aload_n hx hb dX12_comes_19 rfl (lv_at hl 1 rfl) ?_
    refine va_get (D := (dC, dI)) (ci := 12) (v := .int (xi1 0 33)) (C := RX12) (T := TX12) (N := 46) hx hb hts inG12 hown hK hP 0 (gM_0 cs ad xi1) rfl 33 (by decide) (hts _ (List.mem_cons_of_mem _ mw_5_74)) (fun _ h9 => h9) rfl dX12_comes_20 ?_
    refine lv_topi (fun y3 ey3 => ?_)
    have by3 : y3.toInt = (xi1 0 33).toInt := congrArg Int32.toInt ey3
    have hFc := fr_all (wR_D xi1 hD) hS hA
    refine va_calli (va_runV (As := [.int y2, .int y3]) (rest := []) ⟨hx, hb, hml, hown, hts⟩ (sm_ask l dC dI cs ad xi1 ok H1 hP ((wR_D xi1 hD).weaken (fun _ _ _ _ => trivial)) y2 y3) (cwV 2 hts (wU_V mw_5_213 mw_5_210 mw_5_212 mw_0_30 mw_1_13) rfl rfl rfl (by decide +kernel) ⟨Nat.le_of_ble_eq_true rfl, Nat.le_of_ble_eq_true rfl⟩) ⟨sz_c, va_recv hK hP (ci := 12) (q0 := 0) rfl (gM_0 cs ad xi1), sz_m hK hz⟩ rfl rfl hl.1 rfl (lv_room (Nat.le_of_ble_eq_true rfl)) dX12_comes_23 ⟨Nat.zero_le _, Nat.zero_le _⟩) hS (fun q _ h => hFc q h) hFc (fun r4 xi4 t H4 locs ht hvm hw4 hB hz1 hk1 hS => ?_)
    have hP : va_P (dC, dI) vwCl (wR 21 ad (EM cs ad) xi4) H4 := by rw [← ht]; exact hB
    obtain ⟨ok, hw4, _⟩ := hw4
    have gr4 : r4.toInt = y3.toInt := hw4
    exact W.iret (v := r4) hx hb hr (fun t ht hW => ⟨⟨r4, xi4, rfl, ⟨ok, trivial, trivial⟩, by first | (subst ht; exact hP) | (rw [ht]; exact hP) | (show va_P (dC, dI) vwCl (wR 21 ad (EM cs ad) xi4) t.heap; rw [ht]; exact hP)⟩, hS.F ht⟩) hS.2.2 dX12_comes_26
  · skip
    refine lv_istore_n (lv' := [(2, .int r1), (0, .ref (ad 0)), (1, .int vk)]) hx hb dX12_comes_5 rfl hl (by decide) rfl (fun ls hl => ?_)
    refine lv_iload_n hx hb dX12_comes_6 rfl (lv_at hl 0 rfl) ?_
    refine lv_if_ge (tgt := 14) hx hb dX12_comes_7 (by decide) (fun c_5 => by have c_5 : 0 ≤ r1.toInt := il_le c_5; exfalso; omega) (fun c_5 => ?_)
    have c_5 : r1.toInt < 0 := il_nle c_5
    refine lv_iload_n hx hb dX12_comes_10 rfl (lv_at hl 0 rfl) ?_
    refine lv_goto (tgt := 26) hx hb dX12_comes_11 (by decide) ?_
    exact W.iret (v := r1) hx hb hr (fun t ht hW => ⟨⟨r1, xi1, rfl, ⟨ok, trivial, trivial⟩, by first | (subst ht; exact hP) | (rw [ht]; exact hP) | (show va_P (dC, dI) vwCl (wR 21 ad (EM cs ad) xi1) t.heap; rw [ht]; exact hP)⟩, hS.F ht⟩) hS.2.2 dX12_comes_26
set_option maxHeartbeats 4000000 in
set_option maxRecDepth 100000 in
/-- qm_bars -/
theorem qm_bars (l : Launch) (dC : Nat → ClassId) (dI : Nat → Nat → Nat) (cs : Nat → ClassId) (ad : Nat → Nat) (mu : Nat → Nat → Int32) (ok : okR loM hiM mu) (H : Heap) (hP : va_P (dC, dI) vwCl (wR 21 ad (EM cs ad) mu) H) (hD0 : va_D (fun _ => True) (wR 21 ad (EM cs ad) mu)) (vk : Int32) : Met l yX12_bars (wU yX12_bars cX12_bars 3 (some .int)) ({ frames := 12, cells := 0, slots := 0, locals := 302 }) (va_Pc [.ref (ad 0), .int vk] (sz_P (dC, dI) vwCl (tyM cs) H)) (va_Qi (fun (z : Int32) (xi : Nat → Nat → Int32) => okR loM hiM xi ∧ (True) ∧ True) (fun xi t => va_P (dC, dI) vwCl (wR 21 ad (EM cs ad) xi) t.heap) (va_A (wR 21 ad (EM cs ad) mu) H.size)) 0 0 (va_A (wR 21 ad (EM cs ad) mu) H.size) := by
  refine Met.ofW (cc := cX12_bars) (maxL := 3) (ret := (some .int)) (by decide) rfl ?_
  intro p e s m args below meth c s₁ B hml hv
  obtain ⟨rfl, hh, hK, hz⟩ := hv
  have hx := B.exec
  have hb := B.bytes
  have hr := B.returns
  have hts := atoms_spec (ws := (wU yX12_bars cX12_bars 3 (some .int))) B.pre
  have hown : s.vm.findClass RX12 = some m.cls := findClass_of_methodNamed B.named
  have hlocks := B.notSynchronized
  subst hh
  have hD := hD0.self (sz := s.heap.size)
  have hA : ∀ q : Nat, s.heap.size ≤ q → (va_A (wR 21 ad (EM cs ad) mu) s.heap.size) q := fun q h => Or.inr h
  have hS : va_S (va_A (wR 21 ad (EM cs ad) mu) s.heap.size) s.heap s.heap [] := va_S.rf
  have hl := lv_entry ([.ref (ad 0), .int vk]) (n := 3) (Nat.le_of_ble_eq_true rfl)
  rw [lg_entry_eq]
  generalize (lg_sl ([.ref (ad 0), .int vk]) ++ List.replicate (3 - (lg_sl ([.ref (ad 0), .int vk])).length) Slot.unset).toArray = ls at hl ⊢
  have hl : lv_has ls 3 [(0, .ref (ad 0)), (1, .int vk)] := hl
  refine lv_aload_n hx hb dX12_bars_0 rfl (lv_at hl 0 rfl) ?_
  refine lv_iload_n hx hb dX12_bars_1 rfl (lv_at hl 1 rfl) ?_
  have hFc := fr_all (wR_D mu hD) hS hA
  refine va_calli (va_runV (As := [.int vk]) (rest := []) ⟨hx, hb, hml, hown, hts⟩ (sm_askedRoutes l dC dI cs ad mu ok s.heap hP ((wR_D mu hD).weaken (fun _ _ _ _ => trivial)) vk) (cwV 1 hts (wU_V mw_6_170 mw_6_167 mw_6_169 mw_0_52 mw_1_13) rfl rfl rfl (by decide +kernel) ⟨Nat.le_of_ble_eq_true rfl, Nat.le_of_ble_eq_true rfl⟩) ⟨sz_c, va_recv hK hP (ci := 12) (q0 := 0) rfl (gM_0 cs ad mu), sz_m hK hz⟩ rfl rfl hl.1 rfl (lv_room (Nat.le_of_ble_eq_true rfl)) dX12_bars_2 ⟨Nat.zero_le _, Nat.zero_le _⟩) hS (fun q _ h => hFc q h) hFc (fun r1 xi1 t H1 locs ht hvm hw1 hB hz1 hk1 hS => ?_)
  have hP : va_P (dC, dI) vwCl (wR 21 ad (EM cs ad) xi1) H1 := by rw [← ht]; exact hB
  rcases hw1 with ⟨rfl, ok, f1⟩ | ⟨z1, ok⟩
  · have f1 : 0 ≤ vk.toInt ∧ vk.toInt ≤ 3 ∧ ((xi1 0 33).toInt = 0 ∨ (xi1 0 35).toInt ≤ 7) := f1
    refine lv_istore_n (lv' := [(2, .int 0), (0, .ref (ad 0)), (1, .int vk)]) hx hb dX12_bars_5 rfl hl (by decide) rfl (fun ls hl => ?_)
    refine lv_iload_n hx hb dX12_bars_6 rfl (lv_at hl 0 rfl) ?_
    refine lv_if_ge (tgt := 14) hx hb dX12_bars_7 (by decide) (fun _ => ?_) (fun c => absurd (by decide) c)
    refine lv_aload_n hx hb dX12_bars_14 rfl (lv_at hl 1 rfl) ?_
    refine va_get (D := (dC, dI)) (ci := 12) (v := .int (xi1 0 33)) (C := RX12) (T := TX12) (N := 46) hx hb hts inG12 hown hK hP 0 (gM_0 cs ad xi1) rfl 33 (by decide) (hts _ (List.mem_cons_of_mem _ mw_5_74)) (fun _ h9 => h9) rfl dX12_bars_15 ?_
    refine lv_topi (fun y2 ey2 => ?_)
    have by2 : y2.toInt = (xi1 0 33).toInt := congrArg Int32.toInt ey2
    refine lv_if_ne (tgt := 25) hx hb dX12_bars_18 (by decide) (fun c_3 => ?_) (fun c_3 => ?_)
    · have c_3 : ¬ y2.toInt = 0 := il_ne c_3
      refine lv_aload_n hx hb dX12_bars_25 rfl (lv_at hl 1 rfl) ?_
      refine va_get (D := (dC, dI)) (ci := 12) (v := .int (xi1 0 36)) (C := RX12) (T := TX12) (N := 46) hx hb hts inG12 hown hK hP 0 (gM_0 cs ad xi1) rfl 36 (by decide) (hts _ (List.mem_cons_of_mem _ mw_5_77)) (fun _ h9 => h9) rfl dX12_bars_26 ?_
      refine lv_topi (fun y4 ey4 => ?_)
      have by4 : y4.toInt = (xi1 0 36).toInt := congrArg Int32.toInt ey4
      exact W.iret (v := y4) hx hb hr (fun t ht hW => ⟨⟨y4, xi1, rfl, ⟨ok, trivial, trivial⟩, by first | (subst ht; exact hP) | (rw [ht]; exact hP) | (show va_P (dC, dI) vwCl (wR 21 ad (EM cs ad) xi1) t.heap; rw [ht]; exact hP)⟩, hS.F ht⟩) hS.2.2 dX12_bars_29
    · have c_3 : y2.toInt = 0 := il_eq c_3
      refine lv_iconst (v := 0) hx hb dX12_bars_21 (by decide) ?_
      refine lv_goto (tgt := 29) hx hb dX12_bars_22 (by decide) ?_
      exact W.iret (v := 0) hx hb hr (fun t ht hW => ⟨⟨0, xi1, rfl, ⟨ok, trivial, trivial⟩, by first | (subst ht; exact hP) | (rw [ht]; exact hP) | (show va_P (dC, dI) vwCl (wR 21 ad (EM cs ad) xi1) t.heap; rw [ht]; exact hP)⟩, hS.F ht⟩) hS.2.2 dX12_bars_29
  · skip
    refine lv_istore_n (lv' := [(2, .int r1), (0, .ref (ad 0)), (1, .int vk)]) hx hb dX12_bars_5 rfl hl (by decide) rfl (fun ls hl => ?_)
    refine lv_iload_n hx hb dX12_bars_6 rfl (lv_at hl 0 rfl) ?_
    refine lv_if_ge (tgt := 14) hx hb dX12_bars_7 (by decide) (fun c_5 => by have c_5 : 0 ≤ r1.toInt := il_le c_5; exfalso; omega) (fun c_5 => ?_)
    have c_5 : r1.toInt < 0 := il_nle c_5
    refine lv_iload_n hx hb dX12_bars_10 rfl (lv_at hl 0 rfl) ?_
    refine lv_goto (tgt := 29) hx hb dX12_bars_11 (by decide) ?_
    exact W.iret (v := r1) hx hb hr (fun t ht hW => ⟨⟨r1, xi1, rfl, ⟨ok, trivial, trivial⟩, by first | (subst ht; exact hP) | (rw [ht]; exact hP) | (show va_P (dC, dI) vwCl (wR 21 ad (EM cs ad) xi1) t.heap; rw [ht]; exact hP)⟩, hS.F ht⟩) hS.2.2 dX12_bars_29
set_option maxHeartbeats 4000000 in
set_option maxRecDepth 100000 in
/-- qm_why -/
theorem qm_why (l : Launch) (dC : Nat → ClassId) (dI : Nat → Nat → Nat) (cs : Nat → ClassId) (ad : Nat → Nat) (mu : Nat → Nat → Int32) (ok : okR loM hiM mu) (H : Heap) (hP : va_P (dC, dI) vwCl (wR 21 ad (EM cs ad) mu) H) (hD0 : va_D (fun _ => True) (wR 21 ad (EM cs ad) mu)) (vk : Int32) : Met l yX12_why (wU yX12_why cX12_why 3 (some .int)) ({ frames := 12, cells := 0, slots := 0, locals := 302 }) (va_Pc [.ref (ad 0), .int vk] (sz_P (dC, dI) vwCl (tyM cs) H)) (va_Qi (fun (z : Int32) (xi : Nat → Nat → Int32) => okR loM hiM xi ∧ (True) ∧ True) (fun xi t => va_P (dC, dI) vwCl (wR 21 ad (EM cs ad) xi) t.heap) (va_A (wR 21 ad (EM cs ad) mu) H.size)) 0 0 (va_A (wR 21 ad (EM cs ad) mu) H.size) := by
  refine Met.ofW (cc := cX12_why) (maxL := 3) (ret := (some .int)) (by decide) rfl ?_
  intro p e s m args below meth c s₁ B hml hv
  obtain ⟨rfl, hh, hK, hz⟩ := hv
  have hx := B.exec
  have hb := B.bytes
  have hr := B.returns
  have hts := atoms_spec (ws := (wU yX12_why cX12_why 3 (some .int))) B.pre
  have hown : s.vm.findClass RX12 = some m.cls := findClass_of_methodNamed B.named
  have hlocks := B.notSynchronized
  subst hh
  have hD := hD0.self (sz := s.heap.size)
  have hA : ∀ q : Nat, s.heap.size ≤ q → (va_A (wR 21 ad (EM cs ad) mu) s.heap.size) q := fun q h => Or.inr h
  have hS : va_S (va_A (wR 21 ad (EM cs ad) mu) s.heap.size) s.heap s.heap [] := va_S.rf
  have hl := lv_entry ([.ref (ad 0), .int vk]) (n := 3) (Nat.le_of_ble_eq_true rfl)
  rw [lg_entry_eq]
  generalize (lg_sl ([.ref (ad 0), .int vk]) ++ List.replicate (3 - (lg_sl ([.ref (ad 0), .int vk])).length) Slot.unset).toArray = ls at hl ⊢
  have hl : lv_has ls 3 [(0, .ref (ad 0)), (1, .int vk)] := hl
  refine lv_aload_n hx hb dX12_why_0 rfl (lv_at hl 0 rfl) ?_
  refine lv_iload_n hx hb dX12_why_1 rfl (lv_at hl 1 rfl) ?_
  have hFc := fr_all (wR_D mu hD) hS hA
  refine va_calli (va_runV (As := [.int vk]) (rest := []) ⟨hx, hb, hml, hown, hts⟩ (sm_askedRoutes l dC dI cs ad mu ok s.heap hP ((wR_D mu hD).weaken (fun _ _ _ _ => trivial)) vk) (cwV 1 hts (wU_V mw_6_170 mw_6_167 mw_6_169 mw_0_52 mw_1_13) rfl rfl rfl (by decide +kernel) ⟨Nat.le_of_ble_eq_true rfl, Nat.le_of_ble_eq_true rfl⟩) ⟨sz_c, va_recv hK hP (ci := 12) (q0 := 0) rfl (gM_0 cs ad mu), sz_m hK hz⟩ rfl rfl hl.1 rfl (lv_room (Nat.le_of_ble_eq_true rfl)) dX12_why_2 ⟨Nat.zero_le _, Nat.zero_le _⟩) hS (fun q _ h => hFc q h) hFc (fun r1 xi1 t H1 locs ht hvm hw1 hB hz1 hk1 hS => ?_)
  have hP : va_P (dC, dI) vwCl (wR 21 ad (EM cs ad) xi1) H1 := by rw [← ht]; exact hB
  rcases hw1 with ⟨rfl, ok, f1⟩ | ⟨z1, ok⟩
  · have f1 : 0 ≤ vk.toInt ∧ vk.toInt ≤ 3 ∧ ((xi1 0 33).toInt = 0 ∨ (xi1 0 35).toInt ≤ 7) := f1
    refine lv_istore_n (lv' := [(2, .int 0), (0, .ref (ad 0)), (1, .int vk)]) hx hb dX12_why_5 rfl hl (by decide) rfl (fun ls hl => ?_)
    refine lv_iload_n hx hb dX12_why_6 rfl (lv_at hl 0 rfl) ?_
    refine lv_if_ge (tgt := 12) hx hb dX12_why_7 (by decide) (fun _ => ?_) (fun c => absurd (by decide) c)
    refine lv_aload_n hx hb dX12_why_12 rfl (lv_at hl 1 rfl) ?_
    refine va_get (D := (dC, dI)) (ci := 12) (v := .int (xi1 0 33)) (C := RX12) (T := TX12) (N := 46) hx hb hts inG12 hown hK hP 0 (gM_0 cs ad xi1) rfl 33 (by decide) (hts _ (List.mem_cons_of_mem _ mw_5_74)) (fun _ h9 => h9) rfl dX12_why_13 ?_
    refine lv_topi (fun y2 ey2 => ?_)
    have by2 : y2.toInt = (xi1 0 33).toInt := congrArg Int32.toInt ey2
    refine lv_if_le (tgt := 21) hx hb dX12_why_16 (by decide) (fun c_3 => ?_) (fun c_3 => ?_)
    · have c_3 : y2.toInt ≤ 0 := il_le c_3
      refine lv_aload_n hx hb dX12_why_21 rfl (lv_at hl 1 rfl) ?_
      refine va_get (D := (dC, dI)) (ci := 12) (v := .int (xi1 0 30)) (C := RX12) (T := TX12) (N := 46) hx hb hts inG12 hown hK hP 0 (gM_0 cs ad xi1) rfl 30 (by decide) (hts _ (List.mem_cons_of_mem _ mw_5_71)) (fun _ h9 => h9) rfl dX12_why_22 ?_
      refine lv_topi (fun y4 ey4 => ?_)
      have by4 : y4.toInt = (xi1 0 30).toInt := congrArg Int32.toInt ey4
      refine lv_if_le (tgt := 30) hx hb dX12_why_25 (by decide) (fun c_5 => ?_) (fun c_5 => ?_)
      · have c_5 : y4.toInt ≤ 0 := il_le c_5
        refine lv_aload_n hx hb dX12_why_30 rfl (lv_at hl 1 rfl) ?_
        refine lv_iconst (v := 0) hx hb dX12_why_31 (by decide) ?_
        refine va_put (D := (dC, dI)) (ci := 12) (v := .int 0) (ty := .boolean) (C := RX12) (T := TX12) (N := 46) hx hb hts inG12 tyX12 tyX12_ok nmX12 hown hK hP (wR_D xi1 hD) hS 0 (gM_0 cs ad xi1) rfl 38 (by decide) (hts _ (List.mem_cons_of_mem _ mw_5_79)) (fun _ h9 => h9) rfl (by decide +kernel) (by first | rfl | decide) (by first | rfl | decide) (Nat.le_of_ble_eq_true rfl) dX12_why_32 (fun H locs hP _ hS => ?_)
        simp only [List.set_cons_succ, List.set_cons_zero] at hP
        refine wr_gen (upd (xi1 0) 38 0) hP ((hM_0_38 cs ad _ _)) (fun nu6 hn6 hP => ?_)
        have ok := tM_0_38 ok hn6 (by have h9 : (0 : Int32).toInt = 0 := rfl; exact ⟨by omega, by omega⟩)
        have ez7 : y2 = nu6 0 33 := ey2.trans (up_f hn6 (by decide)).symm
        have ez8 : y4 = nu6 0 30 := ey4.trans (up_f hn6 (by decide)).symm
        have ez9 : 0 = nu6 0 38 := up_v hn6
        refine lv_aload_n hx hb dX12_why_35 rfl (lv_at hl 1 rfl) ?_
        refine lv_iload_n hx hb dX12_why_36 rfl (lv_at hl 2 rfl) ?_
        have hFc := fr_all (wR_D nu6 hD) hS hA
        refine va_callv (va_runV (As := [.int vk]) (rest := []) ⟨hx, hb, hml, hown, hts⟩ (sm_routesOf l dC dI cs ad nu6 ok H hP ((wR_D nu6 hD).weaken (fun _ _ _ _ => trivial)) vk (by omega)) (cwV 1 hts (wU_V mw_6_174 mw_6_171 mw_6_173 mw_0_53 mw_1_13) rfl rfl rfl (by decide +kernel) ⟨Nat.le_of_ble_eq_true rfl, Nat.le_of_ble_eq_true rfl⟩) ⟨sz_c, va_recv hK hP (ci := 12) (q0 := 0) rfl (gM_0 cs ad nu6), sz_m hK hz⟩ rfl rfl hl.1 rfl (lv_room (Nat.le_of_ble_eq_true rfl)) dX12_why_37 ⟨Nat.zero_le _, Nat.zero_le _⟩) hS (fun q _ h => hFc q h) hFc (fun xi10 t H10 locs ht hvm hw10 hB hz1 hk1 hS => ?_)
        have hP : va_P (dC, dI) vwCl (wR 21 ad (EM cs ad) xi10) H10 := by rw [← ht]; exact hB
        obtain ⟨ok, hw10, _⟩ := hw10
        have gr10 : ((xi10 0 39).toInt = -9 ∨ (0 ≤ (xi10 0 39).toInt ∧ (xi10 0 39).toInt ≤ 3)) ∧ ((xi10 0 33).toInt = 0 ∨ (xi10 0 35).toInt ≤ 7) := hw10
        refine lv_aload_n hx hb dX12_why_40 rfl (lv_at hl 1 rfl) ?_
        refine va_get (D := (dC, dI)) (ci := 12) (v := .int (xi10 0 30)) (C := RX12) (T := TX12) (N := 46) hx hb hts inG12 hown hK hP 0 (gM_0 cs ad xi10) rfl 30 (by decide) (hts _ (List.mem_cons_of_mem _ mw_5_71)) (fun _ h9 => h9) rfl dX12_why_41 ?_
        refine lv_topi (fun y11 ey11 => ?_)
        have by11 : y11.toInt = (xi10 0 30).toInt := congrArg Int32.toInt ey11
        refine lv_if_le (tgt := 51) hx hb dX12_why_44 (by decide) (fun c_12 => ?_) (fun c_12 => ?_)
        · have c_12 : y11.toInt ≤ 0 := il_le c_12
          refine lv_iconst (v := 1) hx hb dX12_why_51 (by decide) ?_
          exact W.iret (v := 1) hx hb hr (fun t ht hW => ⟨⟨1, xi10, rfl, ⟨ok, trivial, trivial⟩, by first | (subst ht; exact hP) | (rw [ht]; exact hP) | (show va_P (dC, dI) vwCl (wR 21 ad (EM cs ad) xi10) t.heap; rw [ht]; exact hP)⟩, hS.F ht⟩) hS.2.2 dX12_why_52
        · have c_12 : 0 < y11.toInt := il_nle c_12
          refine lv_iconst (v := 2) hx hb dX12_why_47 (by decide) ?_
          refine lv_goto (tgt := 52) hx hb dX12_why_48 (by decide) ?_
          exact W.iret (v := 2) hx hb hr (fun t ht hW => ⟨⟨2, xi10, rfl, ⟨ok, trivial, trivial⟩, by first | (subst ht; exact hP) | (rw [ht]; exact hP) | (show va_P (dC, dI) vwCl (wR 21 ad (EM cs ad) xi10) t.heap; rw [ht]; exact hP)⟩, hS.F ht⟩) hS.2.2 dX12_why_52
      · have c_5 : 0 < y4.toInt := il_nle c_5
        refine lv_iconst (v := 3) hx hb dX12_why_28 (by decide) ?_
        exact W.iret (v := 3) hx hb hr (fun t ht hW => ⟨⟨3, xi1, rfl, ⟨ok, trivial, trivial⟩, by first | (subst ht; exact hP) | (rw [ht]; exact hP) | (show va_P (dC, dI) vwCl (wR 21 ad (EM cs ad) xi1) t.heap; rw [ht]; exact hP)⟩, hS.F ht⟩) hS.2.2 dX12_why_29
    · have c_3 : 0 < y2.toInt := il_nle c_3
      refine lv_iconst (v := 0) hx hb dX12_why_19 (by decide) ?_
      exact W.iret (v := 0) hx hb hr (fun t ht hW => ⟨⟨0, xi1, rfl, ⟨ok, trivial, trivial⟩, by first | (subst ht; exact hP) | (rw [ht]; exact hP) | (show va_P (dC, dI) vwCl (wR 21 ad (EM cs ad) xi1) t.heap; rw [ht]; exact hP)⟩, hS.F ht⟩) hS.2.2 dX12_why_20
  · skip
    refine lv_istore_n (lv' := [(2, .int r1), (0, .ref (ad 0)), (1, .int vk)]) hx hb dX12_why_5 rfl hl (by decide) rfl (fun ls hl => ?_)
    refine lv_iload_n hx hb dX12_why_6 rfl (lv_at hl 0 rfl) ?_
    refine lv_if_ge (tgt := 12) hx hb dX12_why_7 (by decide) (fun c_13 => by have c_13 : 0 ≤ r1.toInt := il_le c_13; exfalso; omega) (fun c_13 => ?_)
    have c_13 : r1.toInt < 0 := il_nle c_13
    refine lv_iload_n hx hb dX12_why_10 rfl (lv_at hl 0 rfl) ?_
    exact W.iret (v := r1) hx hb hr (fun t ht hW => ⟨⟨r1, xi1, rfl, ⟨ok, trivial, trivial⟩, by first | (subst ht; exact hP) | (rw [ht]; exact hP) | (show va_P (dC, dI) vwCl (wR 21 ad (EM cs ad) xi1) t.heap; rw [ht]; exact hP)⟩, hS.F ht⟩) hS.2.2 dX12_why_11
set_option maxHeartbeats 4000000 in
set_option maxRecDepth 100000 in
/-- qm_needs -/
theorem qm_needs (l : Launch) (dC : Nat → ClassId) (dI : Nat → Nat → Nat) (cs : Nat → ClassId) (ad : Nat → Nat) (mu : Nat → Nat → Int32) (ok : okR loM hiM mu) (H : Heap) (hP : va_P (dC, dI) vwCl (wR 21 ad (EM cs ad) mu) H) (hD0 : va_D (fun _ => True) (wR 21 ad (EM cs ad) mu)) (vk : Int32) : Met l yX12_needs (wU yX12_needs cX12_needs 3 (some .int)) ({ frames := 12, cells := 0, slots := 0, locals := 302 }) (va_Pc [.ref (ad 0), .int vk] (sz_P (dC, dI) vwCl (tyM cs) H)) (va_Qi (fun (z : Int32) (xi : Nat → Nat → Int32) => okR loM hiM xi ∧ (True) ∧ True) (fun xi t => va_P (dC, dI) vwCl (wR 21 ad (EM cs ad) xi) t.heap) (va_A (wR 21 ad (EM cs ad) mu) H.size)) 0 0 (va_A (wR 21 ad (EM cs ad) mu) H.size) := by
  refine Met.ofW (cc := cX12_needs) (maxL := 3) (ret := (some .int)) (by decide) rfl ?_
  intro p e s m args below meth c s₁ B hml hv
  obtain ⟨rfl, hh, hK, hz⟩ := hv
  have hx := B.exec
  have hb := B.bytes
  have hr := B.returns
  have hts := atoms_spec (ws := (wU yX12_needs cX12_needs 3 (some .int))) B.pre
  have hown : s.vm.findClass RX12 = some m.cls := findClass_of_methodNamed B.named
  have hlocks := B.notSynchronized
  subst hh
  have hD := hD0.self (sz := s.heap.size)
  have hA : ∀ q : Nat, s.heap.size ≤ q → (va_A (wR 21 ad (EM cs ad) mu) s.heap.size) q := fun q h => Or.inr h
  have hS : va_S (va_A (wR 21 ad (EM cs ad) mu) s.heap.size) s.heap s.heap [] := va_S.rf
  have hl := lv_entry ([.ref (ad 0), .int vk]) (n := 3) (Nat.le_of_ble_eq_true rfl)
  rw [lg_entry_eq]
  generalize (lg_sl ([.ref (ad 0), .int vk]) ++ List.replicate (3 - (lg_sl ([.ref (ad 0), .int vk])).length) Slot.unset).toArray = ls at hl ⊢
  have hl : lv_has ls 3 [(0, .ref (ad 0)), (1, .int vk)] := hl
  refine lv_aload_n hx hb dX12_needs_0 rfl (lv_at hl 0 rfl) ?_
  refine lv_iload_n hx hb dX12_needs_1 rfl (lv_at hl 1 rfl) ?_
  have hFc := fr_all (wR_D mu hD) hS hA
  refine va_calli (va_runV (As := [.int vk]) (rest := []) ⟨hx, hb, hml, hown, hts⟩ (sm_askedRoutes l dC dI cs ad mu ok s.heap hP ((wR_D mu hD).weaken (fun _ _ _ _ => trivial)) vk) (cwV 1 hts (wU_V mw_6_170 mw_6_167 mw_6_169 mw_0_52 mw_1_13) rfl rfl rfl (by decide +kernel) ⟨Nat.le_of_ble_eq_true rfl, Nat.le_of_ble_eq_true rfl⟩) ⟨sz_c, va_recv hK hP (ci := 12) (q0 := 0) rfl (gM_0 cs ad mu), sz_m hK hz⟩ rfl rfl hl.1 rfl (lv_room (Nat.le_of_ble_eq_true rfl)) dX12_needs_2 ⟨Nat.zero_le _, Nat.zero_le _⟩) hS (fun q _ h => hFc q h) hFc (fun r1 xi1 t H1 locs ht hvm hw1 hB hz1 hk1 hS => ?_)
  have hP : va_P (dC, dI) vwCl (wR 21 ad (EM cs ad) xi1) H1 := by rw [← ht]; exact hB
  rcases hw1 with ⟨rfl, ok, f1⟩ | ⟨z1, ok⟩
  · have f1 : 0 ≤ vk.toInt ∧ vk.toInt ≤ 3 ∧ ((xi1 0 33).toInt = 0 ∨ (xi1 0 35).toInt ≤ 7) := f1
    refine lv_istore_n (lv' := [(2, .int 0), (0, .ref (ad 0)), (1, .int vk)]) hx hb dX12_needs_5 rfl hl (by decide) rfl (fun ls hl => ?_)
    refine lv_iload_n hx hb dX12_needs_6 rfl (lv_at hl 0 rfl) ?_
    refine lv_if_ge (tgt := 14) hx hb dX12_needs_7 (by decide) (fun _ => ?_) (fun c => absurd (by decide) c)
    refine lv_aload_n hx hb dX12_needs_14 rfl (lv_at hl 1 rfl) ?_
    refine va_get (D := (dC, dI)) (ci := 12) (v := .int (xi1 0 37)) (C := RX12) (T := TX12) (N := 46) hx hb hts inG12 hown hK hP 0 (gM_0 cs ad xi1) rfl 37 (by decide) (hts _ (List.mem_cons_of_mem _ mw_5_78)) (fun _ h9 => h9) rfl dX12_needs_15 ?_
    refine lv_topi (fun y2 ey2 => ?_)
    have by2 : y2.toInt = (xi1 0 37).toInt := congrArg Int32.toInt ey2
    refine lv_sipush (v := 999) hx hb dX12_needs_18 (by decide) ?_
    refine lv_icmp_le (tgt := 29) hx hb dX12_needs_21 (by decide) (fun c_3 => ?_) (fun c_3 => ?_)
    · have c_3 : y2.toInt ≤ 999 := il_le c_3
      refine lv_aload_n hx hb dX12_needs_29 rfl (lv_at hl 1 rfl) ?_
      refine va_get (D := (dC, dI)) (ci := 12) (v := .int (xi1 0 37)) (C := RX12) (T := TX12) (N := 46) hx hb hts inG12 hown hK hP 0 (gM_0 cs ad xi1) rfl 37 (by decide) (hts _ (List.mem_cons_of_mem _ mw_5_78)) (fun _ h9 => h9) rfl dX12_needs_30 ?_
      refine lq_i y2 ey2.symm ?_
      exact W.iret (v := y2) hx hb hr (fun t ht hW => ⟨⟨y2, xi1, rfl, ⟨ok, trivial, trivial⟩, by first | (subst ht; exact hP) | (rw [ht]; exact hP) | (show va_P (dC, dI) vwCl (wR 21 ad (EM cs ad) xi1) t.heap; rw [ht]; exact hP)⟩, hS.F ht⟩) hS.2.2 dX12_needs_33
    · have c_3 : 999 < y2.toInt := il_nle c_3
      refine lv_bipush (v := (-9)) hx hb dX12_needs_24 (by decide) ?_
      refine lv_goto (tgt := 33) hx hb dX12_needs_26 (by decide) ?_
      exact W.iret (v := (-9)) hx hb hr (fun t ht hW => ⟨⟨(-9), xi1, rfl, ⟨ok, trivial, trivial⟩, by first | (subst ht; exact hP) | (rw [ht]; exact hP) | (show va_P (dC, dI) vwCl (wR 21 ad (EM cs ad) xi1) t.heap; rw [ht]; exact hP)⟩, hS.F ht⟩) hS.2.2 dX12_needs_33
  · skip
    refine lv_istore_n (lv' := [(2, .int r1), (0, .ref (ad 0)), (1, .int vk)]) hx hb dX12_needs_5 rfl hl (by decide) rfl (fun ls hl => ?_)
    refine lv_iload_n hx hb dX12_needs_6 rfl (lv_at hl 0 rfl) ?_
    refine lv_if_ge (tgt := 14) hx hb dX12_needs_7 (by decide) (fun c_4 => by have c_4 : 0 ≤ r1.toInt := il_le c_4; exfalso; omega) (fun c_4 => ?_)
    have c_4 : r1.toInt < 0 := il_nle c_4
    refine lv_iload_n hx hb dX12_needs_10 rfl (lv_at hl 0 rfl) ?_
    refine lv_goto (tgt := 33) hx hb dX12_needs_11 (by decide) ?_
    exact W.iret (v := r1) hx hb hr (fun t ht hW => ⟨⟨r1, xi1, rfl, ⟨ok, trivial, trivial⟩, by first | (subst ht; exact hP) | (rw [ht]; exact hP) | (show va_P (dC, dI) vwCl (wR 21 ad (EM cs ad) xi1) t.heap; rw [ht]; exact hP)⟩, hS.F ht⟩) hS.2.2 dX12_needs_33
set_option maxHeartbeats 4000000 in
set_option maxRecDepth 100000 in
/-- qm_lend -/
theorem qm_lend (l : Launch) (dC : Nat → ClassId) (dI : Nat → Nat → Nat) (cs : Nat → ClassId) (ad : Nat → Nat) (mu : Nat → Nat → Int32) (ok : okR loM hiM mu) (H : Heap) (hP : va_P (dC, dI) vwCl (wR 21 ad (EM cs ad) mu) H) (hD0 : va_D (fun _ => True) (wR 21 ad (EM cs ad) mu)) (vk : Int32) : Met l yX12_lend (wU yX12_lend cX12_lend 9 (some .int)) ({ frames := 12, cells := 0, slots := 0, locals := 302 }) (va_Pc [.ref (ad 0), .int vk] (sz_P (dC, dI) vwCl (tyM cs) H)) (va_Qi (fun (z : Int32) (xi : Nat → Nat → Int32) => okR loM hiM xi ∧ (True) ∧ True) (fun xi t => va_P (dC, dI) vwCl (wR 21 ad (EM cs ad) xi) t.heap) (va_A (wR 21 ad (EM cs ad) mu) H.size)) 0 0 (va_A (wR 21 ad (EM cs ad) mu) H.size) := by
  refine Met.ofW (cc := cX12_lend) (maxL := 9) (ret := (some .int)) (by decide) rfl ?_
  intro p e s m args below meth c s₁ B hml hv
  obtain ⟨rfl, hh, hK, hz⟩ := hv
  have hx := B.exec
  have hb := B.bytes
  have hr := B.returns
  have hts := atoms_spec (ws := (wU yX12_lend cX12_lend 9 (some .int))) B.pre
  have hown : s.vm.findClass RX12 = some m.cls := findClass_of_methodNamed B.named
  have hlocks := B.notSynchronized
  subst hh
  have hD := hD0.self (sz := s.heap.size)
  have hA : ∀ q : Nat, s.heap.size ≤ q → (va_A (wR 21 ad (EM cs ad) mu) s.heap.size) q := fun q h => Or.inr h
  have hS : va_S (va_A (wR 21 ad (EM cs ad) mu) s.heap.size) s.heap s.heap [] := va_S.rf
  have hl := lv_entry ([.ref (ad 0), .int vk]) (n := 9) (Nat.le_of_ble_eq_true rfl)
  rw [lg_entry_eq]
  generalize (lg_sl ([.ref (ad 0), .int vk]) ++ List.replicate (9 - (lg_sl ([.ref (ad 0), .int vk])).length) Slot.unset).toArray = ls at hl ⊢
  have hl : lv_has ls 9 [(0, .ref (ad 0)), (1, .int vk)] := hl
  refine lv_aload_n hx hb dX12_lend_0 rfl (lv_at hl 0 rfl) ?_
  refine lv_iload_n hx hb dX12_lend_1 rfl (lv_at hl 1 rfl) ?_
  have hFc := fr_all (wR_D mu hD) hS hA
  refine va_calli (va_runV (As := [.int vk]) (rest := []) ⟨hx, hb, hml, hown, hts⟩ (sm_askedRoutes l dC dI cs ad mu ok s.heap hP ((wR_D mu hD).weaken (fun _ _ _ _ => trivial)) vk) (cwV 1 hts (wU_V mw_6_170 mw_6_167 mw_6_169 mw_0_52 mw_1_13) rfl rfl rfl (by decide +kernel) ⟨Nat.le_of_ble_eq_true rfl, Nat.le_of_ble_eq_true rfl⟩) ⟨sz_c, va_recv hK hP (ci := 12) (q0 := 0) rfl (gM_0 cs ad mu), sz_m hK hz⟩ rfl rfl hl.1 rfl (lv_room (Nat.le_of_ble_eq_true rfl)) dX12_lend_2 ⟨Nat.zero_le _, Nat.zero_le _⟩) hS (fun q _ h => hFc q h) hFc (fun r1 xi1 t H1 locs ht hvm hw1 hB hz1 hk1 hS => ?_)
  have hP : va_P (dC, dI) vwCl (wR 21 ad (EM cs ad) xi1) H1 := by rw [← ht]; exact hB
  rcases hw1 with ⟨rfl, ok, f1⟩ | ⟨z1, ok⟩
  · have f1 : 0 ≤ vk.toInt ∧ vk.toInt ≤ 3 ∧ ((xi1 0 33).toInt = 0 ∨ (xi1 0 35).toInt ≤ 7) := f1
    refine lv_istore_n (lv' := [(2, .int 0), (0, .ref (ad 0)), (1, .int vk)]) hx hb dX12_lend_5 rfl hl (by decide) rfl (fun ls hl => ?_)
    refine lv_iload_n hx hb dX12_lend_6 rfl (lv_at hl 0 rfl) ?_
    refine lv_if_ge (tgt := 12) hx hb dX12_lend_7 (by decide) (fun _ => ?_) (fun c => absurd (by decide) c)
    refine lv_bipush (v := (-9)) hx hb dX12_lend_12 (by decide) ?_
    refine lv_istore_n (lv' := [(3, .int (-9)), (2, .int 0), (0, .ref (ad 0)), (1, .int vk)]) hx hb dX12_lend_14 rfl hl (by decide) rfl (fun ls hl => ?_)
    refine lv_ldc (v := 1048576) hx hb hown (hts _ (List.mem_cons_of_mem _ mw_6_179)) dX12_lend_15 ?_
    refine lv_istore (lv' := [(4, .int 1048576), (3, .int (-9)), (2, .int 0), (0, .ref (ad 0)), (1, .int vk)]) hx hb dX12_lend_17 hl (by decide) rfl (fun ls hl => ?_)
    refine lv_iconst (v := 0) hx hb dX12_lend_19 (by decide) ?_
    refine lv_istore (lv' := [(5, .int 0), (4, .int 1048576), (3, .int (-9)), (2, .int 0), (0, .ref (ad 0)), (1, .int vk)]) hx hb dX12_lend_20 hl (by decide) rfl (fun ls hl => ?_)
    have loop22 : ∀ (n22 : Nat) (v3_22 : Int32) (v4_22 : Int32) (v5_22 : Int32) (nu22_ : Nat → Nat → Int32) (H : Heap) (locs : List Loc) (ls : Array Slot), (7 + 1 - v5_22.toInt).toNat < n22 → (0 ≤ v5_22.toInt ∧ v5_22.toInt ≤ 7) → okR loM hiM nu22_ → va_P (dC, dI) vwCl (wR 21 ad (EM cs ad) nu22_) H → va_S (va_A (wR 21 ad (EM cs ad) mu) s.heap.size) s.heap H locs → lv_has ls 9 [(5, .int v5_22), (4, .int v4_22), (3, .int v3_22), (2, .int 0), (0, .ref (ad 0)), (1, .int vk)] → W p l e (headSpec (wU yX12_lend cX12_lend 9 (some .int)) ({ frames := 12, cells := 0, slots := 0, locals := 302 })).room s m ([.ref (ad 0), .int vk] : List Value).toArray below meth c H locs 0 0 (MQ below (va_Qi (fun (z : Int32) (xi : Nat → Nat → Int32) => okR loM hiM xi ∧ (True) ∧ True) (fun xi t => va_P (dC, dI) vwCl (wR 21 ad (EM cs ad) xi) t.heap) (va_A (wR 21 ad (EM cs ad) mu) s.heap.size)) ([.ref (ad 0), .int vk] : List Value).toArray s 0 0 (va_A (wR 21 ad (EM cs ad) mu) s.heap.size)) (F0 m 22 ls []) := by
      intro n22
      induction n22 with
      | zero => intro v3_22 v4_22 v5_22 nu22_ H locs ls hm; exact absurd hm (Nat.not_lt_zero _)
      | succ n22 ih22 =>
        intro v3_22 v4_22 v5_22 nu22_ H locs ls hm h_v5_22 ok hP hS hl
        refine lv_iload hx hb dX12_lend_22 (lv_at hl 0 rfl) ?_
        refine lv_aload_n hx hb dX12_lend_24 rfl (lv_at hl 4 rfl) ?_
        refine va_get (D := (dC, dI)) (ci := 12) (v := .int (nu22_ 0 8)) (C := RX12) (T := TX12) (N := 46) hx hb hts inG12 hown hK hP 0 (gM_0 cs ad nu22_) rfl 8 (by decide) (hts _ (List.mem_cons_of_mem _ mw_5_49)) (fun _ h9 => h9) rfl dX12_lend_25 ?_
        refine lv_topi (fun y2 ey2 => ?_)
        have by2 : y2.toInt = (nu22_ 0 8).toInt := congrArg Int32.toInt ey2
        have gy2 : 0 ≤ y2.toInt ∧ y2.toInt ≤ 7 := by rw [ey2]; exact rM_0_8 ok
        refine lv_icmp_ge (tgt := 158) hx hb dX12_lend_28 (by decide) (fun c_3 => ?_) (fun c_3 => ?_)
        · have c_3 : y2.toInt ≤ v5_22.toInt := il_le c_3
          refine lv_iload_n hx hb dX12_lend_158 rfl (lv_at hl 2 rfl) ?_
          refine lv_bipush (v := (-9)) hx hb dX12_lend_159 (by decide) ?_
          refine lv_icmp_ne (tgt := 169) hx hb dX12_lend_161 (by decide) (fun c_4 => ?_) (fun c_4 => ?_)
          · have c_4 : ¬ v3_22.toInt = -9 := il_ne c_4
            refine lv_aload_n hx hb dX12_lend_169 rfl (lv_at hl 4 rfl) ?_
            refine lv_iload hx hb dX12_lend_170 (lv_at hl 1 rfl) ?_
            refine lv_iload_n hx hb dX12_lend_172 rfl (lv_at hl 2 rfl) ?_
            have hFc := fr_all (wR_D nu22_ hD) hS hA
            refine va_calli (va_runV (As := [.int v4_22, .int v3_22]) (rest := []) ⟨hx, hb, hml, hown, hts⟩ (sm_ask l dC dI cs ad nu22_ ok H hP ((wR_D nu22_ hD).weaken (fun _ _ _ _ => trivial)) v4_22 v3_22) (cwV 2 hts (wU_V mw_5_213 mw_5_210 mw_5_212 mw_0_30 mw_1_13) rfl rfl rfl (by decide +kernel) ⟨Nat.le_of_ble_eq_true rfl, Nat.le_of_ble_eq_true rfl⟩) ⟨sz_c, va_recv hK hP (ci := 12) (q0 := 0) rfl (gM_0 cs ad nu22_), sz_m hK hz⟩ rfl rfl hl.1 rfl (lv_room (Nat.le_of_ble_eq_true rfl)) dX12_lend_173 ⟨Nat.zero_le _, Nat.zero_le _⟩) hS (fun q _ h => hFc q h) hFc (fun r5 xi5 t H5 locs ht hvm hw5 hB hz1 hk1 hS => ?_)
            have hP : va_P (dC, dI) vwCl (wR 21 ad (EM cs ad) xi5) H5 := by rw [← ht]; exact hB
            obtain ⟨ok, hw5, _⟩ := hw5
            have gr5 : r5.toInt = v3_22.toInt := hw5
            exact W.iret (v := r5) hx hb hr (fun t ht hW => ⟨⟨r5, xi5, rfl, ⟨ok, trivial, trivial⟩, by first | (subst ht; exact hP) | (rw [ht]; exact hP) | (show va_P (dC, dI) vwCl (wR 21 ad (EM cs ad) xi5) t.heap; rw [ht]; exact hP)⟩, hS.F ht⟩) hS.2.2 dX12_lend_176
          · have c_4 : v3_22.toInt = -9 := il_eq c_4
            refine lv_bipush (v := (-9)) hx hb dX12_lend_164 (by decide) ?_
            refine lv_goto (tgt := 176) hx hb dX12_lend_166 (by decide) ?_
            exact W.iret (v := (-9)) hx hb hr (fun t ht hW => ⟨⟨(-9), nu22_, rfl, ⟨ok, trivial, trivial⟩, by first | (subst ht; exact hP) | (rw [ht]; exact hP) | (show va_P (dC, dI) vwCl (wR 21 ad (EM cs ad) nu22_) t.heap; rw [ht]; exact hP)⟩, hS.F ht⟩) hS.2.2 dX12_lend_176
        · have c_3 : v5_22.toInt < y2.toInt := il_nle c_3
          refine lv_iload hx hb dX12_lend_31 (lv_at hl 0 rfl) ?_
          refine lv_aload_n hx hb dX12_lend_33 rfl (lv_at hl 4 rfl) ?_
          refine lv_iload_n hx hb dX12_lend_34 rfl (lv_at hl 5 rfl) ?_
          refine lv_iconst (v := 5) hx hb dX12_lend_35 (by decide) ?_
          refine cr_i (va_runV (As := [.int vk, .int 5]) (rest := [.int v5_22]) ⟨hx, hb, hml, hown, hts⟩ (sm_letterOf5 l dC dI cs ad nu22_ ok H hP vk (by have h51 : (5 : Int32).toInt = 5 := rfl; omega)) (cwV 2 hts (wU_V mw_6_48 mw_6_45 mw_6_47 mw_0_38 mw_1_13) rfl rfl rfl (by decide +kernel) ⟨Nat.le_of_ble_eq_true rfl, Nat.le_of_ble_eq_true rfl⟩) ⟨sz_c, va_recv hK hP (ci := 12) (q0 := 0) rfl (gM_0 cs ad nu22_), sz_m hK hz⟩ rfl rfl hl.1 rfl (lv_room (Nat.le_of_ble_eq_true rfl)) dX12_lend_36 ⟨Nat.zero_le _, Nat.zero_le _⟩) hS (fun r6 hw6 locs hS => ?_)
          have gr6 : 0 ≤ r6.toInt ∧ r6.toInt ≤ 6 := hw6
          refine lv_icmp_eq (tgt := 68) hx hb dX12_lend_39 (by decide) (fun c_7 => ?_) (fun c_7 => ?_)
          · have c_7 : v5_22.toInt = r6.toInt := il_eq c_7
            refine lv_iconst (v := 0) hx hb dX12_lend_68 (by decide) ?_
            refine lv_istore (lv' := [(6, .int 0), (5, .int v5_22), (4, .int v4_22), (3, .int v3_22), (2, .int 0), (0, .ref (ad 0)), (1, .int vk)]) hx hb dX12_lend_69 hl (by decide) rfl (fun ls hl => ?_)
            refine lv_aload_n hx hb dX12_lend_71 rfl (lv_at hl 5 rfl) ?_
            refine va_get (D := (dC, dI)) (ci := 12) (v := .ref (ad 8)) (C := RX12) (T := TX12) (N := 46) hx hb hts inG12 hown hK hP 0 (gM_0 cs ad nu22_) rfl 10 (by decide) (hts _ (List.mem_cons_of_mem _ mw_5_51)) (fun _ h9 => h9) rfl dX12_lend_72 ?_
            refine lv_iload hx hb dX12_lend_75 (lv_at hl 1 rfl) ?_
            refine va_iald hx hb hK hP 8 0 (gM_8 cs ad nu22_) rfl (show vp_in v5_22 7 from vi_of (by omega) (by omega)) dX12_lend_77 ?_
            refine lv_topi (fun y8 ey8 => ?_)
            have by8 : y8.toInt = (nu22_ 8 v5_22.toNatClampNeg).toInt := congrArg Int32.toInt ey8
            refine lv_istore (lv' := [(7, .int y8), (6, .int 0), (5, .int v5_22), (4, .int v4_22), (3, .int v3_22), (2, .int 0), (0, .ref (ad 0)), (1, .int vk)]) hx hb dX12_lend_78 hl (by decide) rfl (fun ls hl => ?_)
            refine lv_aload_n hx hb dX12_lend_80 rfl (lv_at hl 6 rfl) ?_
            refine va_get (D := (dC, dI)) (ci := 12) (v := .ref (ad 8)) (C := RX12) (T := TX12) (N := 46) hx hb hts inG12 hown hK hP 0 (gM_0 cs ad nu22_) rfl 10 (by decide) (hts _ (List.mem_cons_of_mem _ mw_5_51)) (fun _ h9 => h9) rfl dX12_lend_81 ?_
            refine lv_iload hx hb dX12_lend_84 (lv_at hl 2 rfl) ?_
            refine lv_bipush (v := 99) hx hb dX12_lend_86 (by decide) ?_
            refine va_iast hx hb hK hP (wR_D nu22_ hD) hS 8 0 (gM_8 cs ad nu22_) rfl (show vp_in v5_22 7 from vi_of (by omega) (by omega)) dX12_lend_88 (fun H locs hP _ hS => ?_)
            refine wr_gen (upd (nu22_ 8) v5_22.toNatClampNeg 99) hP (rfl) (fun nu9 hn9 hP => ?_)
            have ok := tM_8_s ok v5_22.toNatClampNeg hn9
            have ez10 : y2 = nu9 0 8 := ey2.trans (congrFun (up_k hn9 (by decide)) 8).symm
            refine lv_aload_n hx hb dX12_lend_89 rfl (lv_at hl 6 rfl) ?_
            refine lv_iload_n hx hb dX12_lend_90 rfl (lv_at hl 7 rfl) ?_
            have hFc := fr_all (wR_D nu9 hD) hS hA
            refine va_callv (va_runV (As := [.int vk]) (rest := []) ⟨hx, hb, hml, hown, hts⟩ (sm_routesOf l dC dI cs ad nu9 ok H hP ((wR_D nu9 hD).weaken (fun _ _ _ _ => trivial)) vk (by omega)) (cwV 1 hts (wU_V mw_6_174 mw_6_171 mw_6_173 mw_0_53 mw_1_13) rfl rfl rfl (by decide +kernel) ⟨Nat.le_of_ble_eq_true rfl, Nat.le_of_ble_eq_true rfl⟩) ⟨sz_c, va_recv hK hP (ci := 12) (q0 := 0) rfl (gM_0 cs ad nu9), sz_m hK hz⟩ rfl rfl hl.1 rfl (lv_room (Nat.le_of_ble_eq_true rfl)) dX12_lend_91 ⟨Nat.zero_le _, Nat.zero_le _⟩) hS (fun q _ h => hFc q h) hFc (fun xi11 t H11 locs ht hvm hw11 hB hz1 hk1 hS => ?_)
            have hP : va_P (dC, dI) vwCl (wR 21 ad (EM cs ad) xi11) H11 := by rw [← ht]; exact hB
            obtain ⟨ok, hw11, _⟩ := hw11
            have gr11 : ((xi11 0 39).toInt = -9 ∨ (0 ≤ (xi11 0 39).toInt ∧ (xi11 0 39).toInt ≤ 3)) ∧ ((xi11 0 33).toInt = 0 ∨ (xi11 0 35).toInt ≤ 7) := hw11
            refine lv_aload_n hx hb dX12_lend_94 rfl (lv_at hl 6 rfl) ?_
            refine va_get (D := (dC, dI)) (ci := 12) (v := .ref (ad 8)) (C := RX12) (T := TX12) (N := 46) hx hb hts inG12 hown hK hP 0 (gM_0 cs ad xi11) rfl 10 (by decide) (hts _ (List.mem_cons_of_mem _ mw_5_51)) (fun _ h9 => h9) rfl dX12_lend_95 ?_
            refine lv_iload hx hb dX12_lend_98 (lv_at hl 2 rfl) ?_
            refine lv_iload hx hb dX12_lend_100 (lv_at hl 0 rfl) ?_
            refine va_iast hx hb hK hP (wR_D xi11 hD) hS 8 0 (gM_8 cs ad xi11) rfl (show vp_in v5_22 7 from vi_of (by omega) (by omega)) dX12_lend_102 (fun H locs hP _ hS => ?_)
            refine wr_gen (upd (xi11 8) v5_22.toNatClampNeg y8) hP (rfl) (fun nu12 hn12 hP => ?_)
            have ok := tM_8_s ok v5_22.toNatClampNeg hn12
            refine lv_iload hx hb dX12_lend_103 (lv_at hl 1 rfl) ?_
            refine lv_if_eq (tgt := 121) hx hb dX12_lend_105 (by decide) (fun _ => ?_) (fun c => absurd (by decide) c)
            refine lv_iconst (v := 0) hx hb dX12_lend_121 (by decide) ?_
            refine lv_istore (lv' := [(8, .int 0), (7, .int y8), (6, .int 0), (5, .int v5_22), (4, .int v4_22), (3, .int v3_22), (2, .int 0), (0, .ref (ad 0)), (1, .int vk)]) hx hb dX12_lend_122 hl (by decide) rfl (fun ls hl => ?_)
            refine lv_iload hx hb dX12_lend_124 (lv_at hl 0 rfl) ?_
            refine lv_if_eq (tgt := 134) hx hb dX12_lend_126 (by decide) (fun _ => ?_) (fun c => absurd (by decide) c)
            refine lv_iload_n hx hb dX12_lend_134 rfl (lv_at hl 5 rfl) ?_
            refine lv_istore_n (lv' := [(3, .int v3_22), (8, .int 0), (7, .int y8), (6, .int 0), (5, .int v5_22), (4, .int v4_22), (2, .int 0), (0, .ref (ad 0)), (1, .int vk)]) hx hb dX12_lend_135 rfl hl (by decide) rfl (fun ls hl => ?_)
            refine lv_iload hx hb dX12_lend_136 (lv_at hl 1 rfl) ?_
            refine lv_if_eq (tgt := 148) hx hb dX12_lend_138 (by decide) (fun _ => ?_) (fun c => absurd (by decide) c)
            refine lv_iload hx hb dX12_lend_148 (lv_at hl 5 rfl) ?_
            refine lv_istore (lv' := [(4, .int v4_22), (3, .int v3_22), (8, .int 0), (7, .int y8), (6, .int 0), (5, .int v5_22), (2, .int 0), (0, .ref (ad 0)), (1, .int vk)]) hx hb dX12_lend_150 hl (by decide) rfl (fun ls hl => ?_)
            refine lv_iinc (v := (v5_22 + 1)) (lv' := [(5, .int (v5_22 + 1)), (4, .int v4_22), (3, .int v3_22), (8, .int 0), (7, .int y8), (6, .int 0), (2, .int 0), (0, .ref (ad 0)), (1, .int vk)]) hx hb dX12_lend_152 hl (k := 5) rfl rfl (by decide) rfl (fun ls hl => ?_)
            refine loc_gen (P := fun w9 => lv_has ls 9 [(5, .int w9), (4, .int v4_22), (3, .int v3_22), (8, .int 0), (7, .int y8), (6, .int 0), (2, .int 0), (0, .ref (ad 0)), (1, .int vk)]) (v5_22 + 1) hl (fun w13 hw13 hl => ?_)
            have hl : lv_has ls 9 [(5, .int w13), (4, .int v4_22), (3, .int v3_22), (8, .int 0), (7, .int y8), (6, .int 0), (2, .int 0), (0, .ref (ad 0)), (1, .int vk)] := hl
            have aw13 : w13.toInt = v5_22.toInt + 1 := by rw [← hw13]; exact tI_add (rfl : v5_22.toInt = _) (rfl : (1 : Int32).toInt = 1) (by omega) (by omega)
            refine lv_goto (tgt := 22) hx hb dX12_lend_155 (by decide) ?_
            exact ih22 (v3_22) (v4_22) (w13) nu12 _ _ _ (by omega) (by exact ⟨by omega, by omega⟩)  ok hP   hS (lv_sub hl [0, 1, 2, 6, 7, 8] rfl)
          · have c_7 : ¬ v5_22.toInt = r6.toInt := il_ne c_7
            refine lv_aload_n hx hb dX12_lend_42 rfl (lv_at hl 4 rfl) ?_
            refine va_get (D := (dC, dI)) (ci := 12) (v := .ref (ad 7)) (C := RX12) (T := TX12) (N := 46) hx hb hts inG12 hown hK hP 0 (gM_0 cs ad nu22_) rfl 9 (by decide) (hts _ (List.mem_cons_of_mem _ mw_5_50)) (fun _ h9 => h9) rfl dX12_lend_43 ?_
            refine lv_iload hx hb dX12_lend_46 (lv_at hl 0 rfl) ?_
            refine va_iald hx hb hK hP 7 0 (gM_7 cs ad nu22_) rfl (show vp_in v5_22 7 from vi_of (by omega) (by omega)) dX12_lend_48 ?_
            refine lv_topi (fun y14 ey14 => ?_)
            have by14 : y14.toInt = (nu22_ 7 v5_22.toNatClampNeg).toInt := congrArg Int32.toInt ey14
            refine lv_iconst (v := 3) hx hb dX12_lend_49 (by decide) ?_
            refine lv_icmp_ne (tgt := 64) hx hb dX12_lend_50 (by decide) (fun c_15 => ?_) (fun c_15 => ?_)
            · have c_15 : ¬ y14.toInt = 3 := il_ne c_15
              refine lv_iconst (v := 1) hx hb dX12_lend_64 (by decide) ?_
              refine lv_goto (tgt := 69) hx hb dX12_lend_65 (by decide) ?_
              refine lv_istore (lv' := [(6, .int 1), (5, .int v5_22), (4, .int v4_22), (3, .int v3_22), (2, .int 0), (0, .ref (ad 0)), (1, .int vk)]) hx hb dX12_lend_69 hl (by decide) rfl (fun ls hl => ?_)
              refine lv_aload_n hx hb dX12_lend_71 rfl (lv_at hl 5 rfl) ?_
              refine va_get (D := (dC, dI)) (ci := 12) (v := .ref (ad 8)) (C := RX12) (T := TX12) (N := 46) hx hb hts inG12 hown hK hP 0 (gM_0 cs ad nu22_) rfl 10 (by decide) (hts _ (List.mem_cons_of_mem _ mw_5_51)) (fun _ h9 => h9) rfl dX12_lend_72 ?_
              refine lv_iload hx hb dX12_lend_75 (lv_at hl 1 rfl) ?_
              refine va_iald hx hb hK hP 8 0 (gM_8 cs ad nu22_) rfl (show vp_in v5_22 7 from vi_of (by omega) (by omega)) dX12_lend_77 ?_
              refine lv_topi (fun y16 ey16 => ?_)
              have by16 : y16.toInt = (nu22_ 8 v5_22.toNatClampNeg).toInt := congrArg Int32.toInt ey16
              refine lv_istore (lv' := [(7, .int y16), (6, .int 1), (5, .int v5_22), (4, .int v4_22), (3, .int v3_22), (2, .int 0), (0, .ref (ad 0)), (1, .int vk)]) hx hb dX12_lend_78 hl (by decide) rfl (fun ls hl => ?_)
              refine lv_aload_n hx hb dX12_lend_80 rfl (lv_at hl 6 rfl) ?_
              refine va_get (D := (dC, dI)) (ci := 12) (v := .ref (ad 8)) (C := RX12) (T := TX12) (N := 46) hx hb hts inG12 hown hK hP 0 (gM_0 cs ad nu22_) rfl 10 (by decide) (hts _ (List.mem_cons_of_mem _ mw_5_51)) (fun _ h9 => h9) rfl dX12_lend_81 ?_
              refine lv_iload hx hb dX12_lend_84 (lv_at hl 2 rfl) ?_
              refine lv_bipush (v := 99) hx hb dX12_lend_86 (by decide) ?_
              refine va_iast hx hb hK hP (wR_D nu22_ hD) hS 8 0 (gM_8 cs ad nu22_) rfl (show vp_in v5_22 7 from vi_of (by omega) (by omega)) dX12_lend_88 (fun H locs hP _ hS => ?_)
              refine wr_gen (upd (nu22_ 8) v5_22.toNatClampNeg 99) hP (rfl) (fun nu17 hn17 hP => ?_)
              have ok := tM_8_s ok v5_22.toNatClampNeg hn17
              have ez18 : y2 = nu17 0 8 := ey2.trans (congrFun (up_k hn17 (by decide)) 8).symm
              have ez19 : y14 = nu17 7 v5_22.toNatClampNeg := ey14.trans (congrFun (up_k hn17 (by decide)) v5_22.toNatClampNeg).symm
              refine lv_aload_n hx hb dX12_lend_89 rfl (lv_at hl 6 rfl) ?_
              refine lv_iload_n hx hb dX12_lend_90 rfl (lv_at hl 7 rfl) ?_
              have hFc := fr_all (wR_D nu17 hD) hS hA
              refine va_callv (va_runV (As := [.int vk]) (rest := []) ⟨hx, hb, hml, hown, hts⟩ (sm_routesOf l dC dI cs ad nu17 ok H hP ((wR_D nu17 hD).weaken (fun _ _ _ _ => trivial)) vk (by omega)) (cwV 1 hts (wU_V mw_6_174 mw_6_171 mw_6_173 mw_0_53 mw_1_13) rfl rfl rfl (by decide +kernel) ⟨Nat.le_of_ble_eq_true rfl, Nat.le_of_ble_eq_true rfl⟩) ⟨sz_c, va_recv hK hP (ci := 12) (q0 := 0) rfl (gM_0 cs ad nu17), sz_m hK hz⟩ rfl rfl hl.1 rfl (lv_room (Nat.le_of_ble_eq_true rfl)) dX12_lend_91 ⟨Nat.zero_le _, Nat.zero_le _⟩) hS (fun q _ h => hFc q h) hFc (fun xi20 t H20 locs ht hvm hw20 hB hz1 hk1 hS => ?_)
              have hP : va_P (dC, dI) vwCl (wR 21 ad (EM cs ad) xi20) H20 := by rw [← ht]; exact hB
              obtain ⟨ok, hw20, _⟩ := hw20
              have gr20 : ((xi20 0 39).toInt = -9 ∨ (0 ≤ (xi20 0 39).toInt ∧ (xi20 0 39).toInt ≤ 3)) ∧ ((xi20 0 33).toInt = 0 ∨ (xi20 0 35).toInt ≤ 7) := hw20
              refine lv_aload_n hx hb dX12_lend_94 rfl (lv_at hl 6 rfl) ?_
              refine va_get (D := (dC, dI)) (ci := 12) (v := .ref (ad 8)) (C := RX12) (T := TX12) (N := 46) hx hb hts inG12 hown hK hP 0 (gM_0 cs ad xi20) rfl 10 (by decide) (hts _ (List.mem_cons_of_mem _ mw_5_51)) (fun _ h9 => h9) rfl dX12_lend_95 ?_
              refine lv_iload hx hb dX12_lend_98 (lv_at hl 2 rfl) ?_
              refine lv_iload hx hb dX12_lend_100 (lv_at hl 0 rfl) ?_
              refine va_iast hx hb hK hP (wR_D xi20 hD) hS 8 0 (gM_8 cs ad xi20) rfl (show vp_in v5_22 7 from vi_of (by omega) (by omega)) dX12_lend_102 (fun H locs hP _ hS => ?_)
              refine wr_gen (upd (xi20 8) v5_22.toNatClampNeg y16) hP (rfl) (fun nu21 hn21 hP => ?_)
              have ok := tM_8_s ok v5_22.toNatClampNeg hn21
              refine lv_iload hx hb dX12_lend_103 (lv_at hl 1 rfl) ?_
              refine lv_if_eq (tgt := 121) hx hb dX12_lend_105 (by decide) (fun c => absurd c (by decide)) (fun _ => ?_)
              refine lv_aload_n hx hb dX12_lend_108 rfl (lv_at hl 6 rfl) ?_
              refine va_get (D := (dC, dI)) (ci := 12) (v := .int (nu21 0 31)) (C := RX12) (T := TX12) (N := 46) hx hb hts inG12 hown hK hP 0 (gM_0 cs ad nu21) rfl 31 (by decide) (hts _ (List.mem_cons_of_mem _ mw_5_72)) (fun _ h9 => h9) rfl dX12_lend_109 ?_
              refine lv_topi (fun y22 ey22 => ?_)
              have by22 : y22.toInt = (nu21 0 31).toInt := congrArg Int32.toInt ey22
              refine lv_iload hx hb dX12_lend_112 (lv_at hl 3 rfl) ?_
              refine lv_icmp_ge (tgt := 121) hx hb dX12_lend_114 (by decide) (fun c_23 => ?_) (fun c_23 => ?_)
              · have c_23 : v4_22.toInt ≤ y22.toInt := il_le c_23
                refine lv_iconst (v := 0) hx hb dX12_lend_121 (by decide) ?_
                refine lv_istore (lv' := [(8, .int 0), (7, .int y16), (6, .int 1), (5, .int v5_22), (4, .int v4_22), (3, .int v3_22), (2, .int 0), (0, .ref (ad 0)), (1, .int vk)]) hx hb dX12_lend_122 hl (by decide) rfl (fun ls hl => ?_)
                refine lv_iload hx hb dX12_lend_124 (lv_at hl 0 rfl) ?_
                refine lv_if_eq (tgt := 134) hx hb dX12_lend_126 (by decide) (fun _ => ?_) (fun c => absurd (by decide) c)
                refine lv_iload_n hx hb dX12_lend_134 rfl (lv_at hl 5 rfl) ?_
                refine lv_istore_n (lv' := [(3, .int v3_22), (8, .int 0), (7, .int y16), (6, .int 1), (5, .int v5_22), (4, .int v4_22), (2, .int 0), (0, .ref (ad 0)), (1, .int vk)]) hx hb dX12_lend_135 rfl hl (by decide) rfl (fun ls hl => ?_)
                refine lv_iload hx hb dX12_lend_136 (lv_at hl 1 rfl) ?_
                refine lv_if_eq (tgt := 148) hx hb dX12_lend_138 (by decide) (fun _ => ?_) (fun c => absurd (by decide) c)
                refine lv_iload hx hb dX12_lend_148 (lv_at hl 5 rfl) ?_
                refine lv_istore (lv' := [(4, .int v4_22), (3, .int v3_22), (8, .int 0), (7, .int y16), (6, .int 1), (5, .int v5_22), (2, .int 0), (0, .ref (ad 0)), (1, .int vk)]) hx hb dX12_lend_150 hl (by decide) rfl (fun ls hl => ?_)
                refine lv_iinc (v := (v5_22 + 1)) (lv' := [(5, .int (v5_22 + 1)), (4, .int v4_22), (3, .int v3_22), (8, .int 0), (7, .int y16), (6, .int 1), (2, .int 0), (0, .ref (ad 0)), (1, .int vk)]) hx hb dX12_lend_152 hl (k := 5) rfl rfl (by decide) rfl (fun ls hl => ?_)
                refine loc_gen (P := fun w9 => lv_has ls 9 [(5, .int w9), (4, .int v4_22), (3, .int v3_22), (8, .int 0), (7, .int y16), (6, .int 1), (2, .int 0), (0, .ref (ad 0)), (1, .int vk)]) (v5_22 + 1) hl (fun w24 hw24 hl => ?_)
                have hl : lv_has ls 9 [(5, .int w24), (4, .int v4_22), (3, .int v3_22), (8, .int 0), (7, .int y16), (6, .int 1), (2, .int 0), (0, .ref (ad 0)), (1, .int vk)] := hl
                have aw24 : w24.toInt = v5_22.toInt + 1 := by rw [← hw24]; exact tI_add (rfl : v5_22.toInt = _) (rfl : (1 : Int32).toInt = 1) (by omega) (by omega)
                refine lv_goto (tgt := 22) hx hb dX12_lend_155 (by decide) ?_
                exact ih22 (v3_22) (v4_22) (w24) nu21 _ _ _ (by omega) (by exact ⟨by omega, by omega⟩)  ok hP   hS (lv_sub hl [0, 1, 2, 6, 7, 8] rfl)
              · have c_23 : y22.toInt < v4_22.toInt := il_nle c_23
                refine lv_iconst (v := 1) hx hb dX12_lend_117 (by decide) ?_
                refine lv_goto (tgt := 122) hx hb dX12_lend_118 (by decide) ?_
                refine lv_istore (lv' := [(8, .int 1), (7, .int y16), (6, .int 1), (5, .int v5_22), (4, .int v4_22), (3, .int v3_22), (2, .int 0), (0, .ref (ad 0)), (1, .int vk)]) hx hb dX12_lend_122 hl (by decide) rfl (fun ls hl => ?_)
                refine lv_iload hx hb dX12_lend_124 (lv_at hl 0 rfl) ?_
                refine lv_if_eq (tgt := 134) hx hb dX12_lend_126 (by decide) (fun c => absurd c (by decide)) (fun _ => ?_)
                refine lv_iload hx hb dX12_lend_129 (lv_at hl 3 rfl) ?_
                refine lv_goto (tgt := 135) hx hb dX12_lend_131 (by decide) ?_
                refine lv_istore_n (lv' := [(3, .int v5_22), (8, .int 1), (7, .int y16), (6, .int 1), (5, .int v5_22), (4, .int v4_22), (2, .int 0), (0, .ref (ad 0)), (1, .int vk)]) hx hb dX12_lend_135 rfl hl (by decide) rfl (fun ls hl => ?_)
                refine lv_iload hx hb dX12_lend_136 (lv_at hl 1 rfl) ?_
                refine lv_if_eq (tgt := 148) hx hb dX12_lend_138 (by decide) (fun c => absurd c (by decide)) (fun _ => ?_)
                refine lv_aload_n hx hb dX12_lend_141 rfl (lv_at hl 7 rfl) ?_
                refine va_get (D := (dC, dI)) (ci := 12) (v := .int (nu21 0 31)) (C := RX12) (T := TX12) (N := 46) hx hb hts inG12 hown hK hP 0 (gM_0 cs ad nu21) rfl 31 (by decide) (hts _ (List.mem_cons_of_mem _ mw_5_72)) (fun _ h9 => h9) rfl dX12_lend_142 ?_
                refine lq_i y22 ey22.symm ?_
                refine lv_goto (tgt := 150) hx hb dX12_lend_145 (by decide) ?_
                refine lv_istore (lv' := [(4, .int y22), (3, .int v5_22), (8, .int 1), (7, .int y16), (6, .int 1), (5, .int v5_22), (2, .int 0), (0, .ref (ad 0)), (1, .int vk)]) hx hb dX12_lend_150 hl (by decide) rfl (fun ls hl => ?_)
                refine lv_iinc (v := (v5_22 + 1)) (lv' := [(5, .int (v5_22 + 1)), (4, .int y22), (3, .int v5_22), (8, .int 1), (7, .int y16), (6, .int 1), (2, .int 0), (0, .ref (ad 0)), (1, .int vk)]) hx hb dX12_lend_152 hl (k := 5) rfl rfl (by decide) rfl (fun ls hl => ?_)
                refine loc_gen (P := fun w9 => lv_has ls 9 [(5, .int w9), (4, .int y22), (3, .int v5_22), (8, .int 1), (7, .int y16), (6, .int 1), (2, .int 0), (0, .ref (ad 0)), (1, .int vk)]) (v5_22 + 1) hl (fun w25 hw25 hl => ?_)
                have hl : lv_has ls 9 [(5, .int w25), (4, .int y22), (3, .int v5_22), (8, .int 1), (7, .int y16), (6, .int 1), (2, .int 0), (0, .ref (ad 0)), (1, .int vk)] := hl
                have aw25 : w25.toInt = v5_22.toInt + 1 := by rw [← hw25]; exact tI_add (rfl : v5_22.toInt = _) (rfl : (1 : Int32).toInt = 1) (by omega) (by omega)
                refine lv_goto (tgt := 22) hx hb dX12_lend_155 (by decide) ?_
                exact ih22 (v5_22) (y22) (w25) nu21 _ _ _ (by omega) (by exact ⟨by omega, by omega⟩)  ok hP   hS (lv_sub hl [0, 1, 2, 6, 7, 8] rfl)
            · have c_15 : y14.toInt = 3 := il_eq c_15
              refine lv_iload hx hb dX12_lend_53 (lv_at hl 0 rfl) ?_
              refine lv_aload_n hx hb dX12_lend_55 rfl (lv_at hl 4 rfl) ?_
              refine lv_iload_n hx hb dX12_lend_56 rfl (lv_at hl 5 rfl) ?_
              refine lv_iconst (v := 1) hx hb dX12_lend_57 (by decide) ?_
              refine cr_i (va_runV (As := [.int vk, .int 1]) (rest := [.int v5_22]) ⟨hx, hb, hml, hown, hts⟩ (sm_letterOf l dC dI cs ad nu22_ ok H hP vk 1 (by have h51 : (1 : Int32).toInt = 1 := rfl; omega)) (cwV 2 hts (wU_V mw_6_48 mw_6_45 mw_6_47 mw_0_38 mw_1_13) rfl rfl rfl (by decide +kernel) ⟨Nat.le_of_ble_eq_true rfl, Nat.le_of_ble_eq_true rfl⟩) ⟨sz_c, va_recv hK hP (ci := 12) (q0 := 0) rfl (gM_0 cs ad nu22_), sz_m hK hz⟩ rfl rfl hl.1 rfl (lv_room (Nat.le_of_ble_eq_true rfl)) dX12_lend_58 ⟨Nat.zero_le _, Nat.zero_le _⟩) hS (fun r26 hw26 locs hS => ?_)
              refine lv_icmp_ne (tgt := 68) hx hb dX12_lend_61 (by decide) (fun c_27 => ?_) (fun c_27 => ?_)
              · have c_27 : ¬ v5_22.toInt = r26.toInt := il_ne c_27
                refine lv_iconst (v := 0) hx hb dX12_lend_68 (by decide) ?_
                refine lv_istore (lv' := [(6, .int 0), (5, .int v5_22), (4, .int v4_22), (3, .int v3_22), (2, .int 0), (0, .ref (ad 0)), (1, .int vk)]) hx hb dX12_lend_69 hl (by decide) rfl (fun ls hl => ?_)
                refine lv_aload_n hx hb dX12_lend_71 rfl (lv_at hl 5 rfl) ?_
                refine va_get (D := (dC, dI)) (ci := 12) (v := .ref (ad 8)) (C := RX12) (T := TX12) (N := 46) hx hb hts inG12 hown hK hP 0 (gM_0 cs ad nu22_) rfl 10 (by decide) (hts _ (List.mem_cons_of_mem _ mw_5_51)) (fun _ h9 => h9) rfl dX12_lend_72 ?_
                refine lv_iload hx hb dX12_lend_75 (lv_at hl 1 rfl) ?_
                refine va_iald hx hb hK hP 8 0 (gM_8 cs ad nu22_) rfl (show vp_in v5_22 7 from vi_of (by omega) (by omega)) dX12_lend_77 ?_
                refine lv_topi (fun y28 ey28 => ?_)
                have by28 : y28.toInt = (nu22_ 8 v5_22.toNatClampNeg).toInt := congrArg Int32.toInt ey28
                refine lv_istore (lv' := [(7, .int y28), (6, .int 0), (5, .int v5_22), (4, .int v4_22), (3, .int v3_22), (2, .int 0), (0, .ref (ad 0)), (1, .int vk)]) hx hb dX12_lend_78 hl (by decide) rfl (fun ls hl => ?_)
                refine lv_aload_n hx hb dX12_lend_80 rfl (lv_at hl 6 rfl) ?_
                refine va_get (D := (dC, dI)) (ci := 12) (v := .ref (ad 8)) (C := RX12) (T := TX12) (N := 46) hx hb hts inG12 hown hK hP 0 (gM_0 cs ad nu22_) rfl 10 (by decide) (hts _ (List.mem_cons_of_mem _ mw_5_51)) (fun _ h9 => h9) rfl dX12_lend_81 ?_
                refine lv_iload hx hb dX12_lend_84 (lv_at hl 2 rfl) ?_
                refine lv_bipush (v := 99) hx hb dX12_lend_86 (by decide) ?_
                refine va_iast hx hb hK hP (wR_D nu22_ hD) hS 8 0 (gM_8 cs ad nu22_) rfl (show vp_in v5_22 7 from vi_of (by omega) (by omega)) dX12_lend_88 (fun H locs hP _ hS => ?_)
                refine wr_gen (upd (nu22_ 8) v5_22.toNatClampNeg 99) hP (rfl) (fun nu29 hn29 hP => ?_)
                have ok := tM_8_s ok v5_22.toNatClampNeg hn29
                have ez30 : y2 = nu29 0 8 := ey2.trans (congrFun (up_k hn29 (by decide)) 8).symm
                have ez31 : y14 = nu29 7 v5_22.toNatClampNeg := ey14.trans (congrFun (up_k hn29 (by decide)) v5_22.toNatClampNeg).symm
                refine lv_aload_n hx hb dX12_lend_89 rfl (lv_at hl 6 rfl) ?_
                refine lv_iload_n hx hb dX12_lend_90 rfl (lv_at hl 7 rfl) ?_
                have hFc := fr_all (wR_D nu29 hD) hS hA
                refine va_callv (va_runV (As := [.int vk]) (rest := []) ⟨hx, hb, hml, hown, hts⟩ (sm_routesOf l dC dI cs ad nu29 ok H hP ((wR_D nu29 hD).weaken (fun _ _ _ _ => trivial)) vk (by omega)) (cwV 1 hts (wU_V mw_6_174 mw_6_171 mw_6_173 mw_0_53 mw_1_13) rfl rfl rfl (by decide +kernel) ⟨Nat.le_of_ble_eq_true rfl, Nat.le_of_ble_eq_true rfl⟩) ⟨sz_c, va_recv hK hP (ci := 12) (q0 := 0) rfl (gM_0 cs ad nu29), sz_m hK hz⟩ rfl rfl hl.1 rfl (lv_room (Nat.le_of_ble_eq_true rfl)) dX12_lend_91 ⟨Nat.zero_le _, Nat.zero_le _⟩) hS (fun q _ h => hFc q h) hFc (fun xi32 t H32 locs ht hvm hw32 hB hz1 hk1 hS => ?_)
                have hP : va_P (dC, dI) vwCl (wR 21 ad (EM cs ad) xi32) H32 := by rw [← ht]; exact hB
                obtain ⟨ok, hw32, _⟩ := hw32
                have gr32 : ((xi32 0 39).toInt = -9 ∨ (0 ≤ (xi32 0 39).toInt ∧ (xi32 0 39).toInt ≤ 3)) ∧ ((xi32 0 33).toInt = 0 ∨ (xi32 0 35).toInt ≤ 7) := hw32
                refine lv_aload_n hx hb dX12_lend_94 rfl (lv_at hl 6 rfl) ?_
                refine va_get (D := (dC, dI)) (ci := 12) (v := .ref (ad 8)) (C := RX12) (T := TX12) (N := 46) hx hb hts inG12 hown hK hP 0 (gM_0 cs ad xi32) rfl 10 (by decide) (hts _ (List.mem_cons_of_mem _ mw_5_51)) (fun _ h9 => h9) rfl dX12_lend_95 ?_
                refine lv_iload hx hb dX12_lend_98 (lv_at hl 2 rfl) ?_
                refine lv_iload hx hb dX12_lend_100 (lv_at hl 0 rfl) ?_
                refine va_iast hx hb hK hP (wR_D xi32 hD) hS 8 0 (gM_8 cs ad xi32) rfl (show vp_in v5_22 7 from vi_of (by omega) (by omega)) dX12_lend_102 (fun H locs hP _ hS => ?_)
                refine wr_gen (upd (xi32 8) v5_22.toNatClampNeg y28) hP (rfl) (fun nu33 hn33 hP => ?_)
                have ok := tM_8_s ok v5_22.toNatClampNeg hn33
                refine lv_iload hx hb dX12_lend_103 (lv_at hl 1 rfl) ?_
                refine lv_if_eq (tgt := 121) hx hb dX12_lend_105 (by decide) (fun _ => ?_) (fun c => absurd (by decide) c)
                refine lv_iconst (v := 0) hx hb dX12_lend_121 (by decide) ?_
                refine lv_istore (lv' := [(8, .int 0), (7, .int y28), (6, .int 0), (5, .int v5_22), (4, .int v4_22), (3, .int v3_22), (2, .int 0), (0, .ref (ad 0)), (1, .int vk)]) hx hb dX12_lend_122 hl (by decide) rfl (fun ls hl => ?_)
                refine lv_iload hx hb dX12_lend_124 (lv_at hl 0 rfl) ?_
                refine lv_if_eq (tgt := 134) hx hb dX12_lend_126 (by decide) (fun _ => ?_) (fun c => absurd (by decide) c)
                refine lv_iload_n hx hb dX12_lend_134 rfl (lv_at hl 5 rfl) ?_
                refine lv_istore_n (lv' := [(3, .int v3_22), (8, .int 0), (7, .int y28), (6, .int 0), (5, .int v5_22), (4, .int v4_22), (2, .int 0), (0, .ref (ad 0)), (1, .int vk)]) hx hb dX12_lend_135 rfl hl (by decide) rfl (fun ls hl => ?_)
                refine lv_iload hx hb dX12_lend_136 (lv_at hl 1 rfl) ?_
                refine lv_if_eq (tgt := 148) hx hb dX12_lend_138 (by decide) (fun _ => ?_) (fun c => absurd (by decide) c)
                refine lv_iload hx hb dX12_lend_148 (lv_at hl 5 rfl) ?_
                refine lv_istore (lv' := [(4, .int v4_22), (3, .int v3_22), (8, .int 0), (7, .int y28), (6, .int 0), (5, .int v5_22), (2, .int 0), (0, .ref (ad 0)), (1, .int vk)]) hx hb dX12_lend_150 hl (by decide) rfl (fun ls hl => ?_)
                refine lv_iinc (v := (v5_22 + 1)) (lv' := [(5, .int (v5_22 + 1)), (4, .int v4_22), (3, .int v3_22), (8, .int 0), (7, .int y28), (6, .int 0), (2, .int 0), (0, .ref (ad 0)), (1, .int vk)]) hx hb dX12_lend_152 hl (k := 5) rfl rfl (by decide) rfl (fun ls hl => ?_)
                refine loc_gen (P := fun w9 => lv_has ls 9 [(5, .int w9), (4, .int v4_22), (3, .int v3_22), (8, .int 0), (7, .int y28), (6, .int 0), (2, .int 0), (0, .ref (ad 0)), (1, .int vk)]) (v5_22 + 1) hl (fun w34 hw34 hl => ?_)
                have hl : lv_has ls 9 [(5, .int w34), (4, .int v4_22), (3, .int v3_22), (8, .int 0), (7, .int y28), (6, .int 0), (2, .int 0), (0, .ref (ad 0)), (1, .int vk)] := hl
                have aw34 : w34.toInt = v5_22.toInt + 1 := by rw [← hw34]; exact tI_add (rfl : v5_22.toInt = _) (rfl : (1 : Int32).toInt = 1) (by omega) (by omega)
                refine lv_goto (tgt := 22) hx hb dX12_lend_155 (by decide) ?_
                exact ih22 (v3_22) (v4_22) (w34) nu33 _ _ _ (by omega) (by exact ⟨by omega, by omega⟩)  ok hP   hS (lv_sub hl [0, 1, 2, 6, 7, 8] rfl)
              · have c_27 : v5_22.toInt = r26.toInt := il_eq c_27
                refine lv_iconst (v := 1) hx hb dX12_lend_64 (by decide) ?_
                refine lv_goto (tgt := 69) hx hb dX12_lend_65 (by decide) ?_
                refine lv_istore (lv' := [(6, .int 1), (5, .int v5_22), (4, .int v4_22), (3, .int v3_22), (2, .int 0), (0, .ref (ad 0)), (1, .int vk)]) hx hb dX12_lend_69 hl (by decide) rfl (fun ls hl => ?_)
                refine lv_aload_n hx hb dX12_lend_71 rfl (lv_at hl 5 rfl) ?_
                refine va_get (D := (dC, dI)) (ci := 12) (v := .ref (ad 8)) (C := RX12) (T := TX12) (N := 46) hx hb hts inG12 hown hK hP 0 (gM_0 cs ad nu22_) rfl 10 (by decide) (hts _ (List.mem_cons_of_mem _ mw_5_51)) (fun _ h9 => h9) rfl dX12_lend_72 ?_
                refine lv_iload hx hb dX12_lend_75 (lv_at hl 1 rfl) ?_
                refine va_iald hx hb hK hP 8 0 (gM_8 cs ad nu22_) rfl (show vp_in v5_22 7 from vi_of (by omega) (by omega)) dX12_lend_77 ?_
                refine lv_topi (fun y35 ey35 => ?_)
                have by35 : y35.toInt = (nu22_ 8 v5_22.toNatClampNeg).toInt := congrArg Int32.toInt ey35
                refine lv_istore (lv' := [(7, .int y35), (6, .int 1), (5, .int v5_22), (4, .int v4_22), (3, .int v3_22), (2, .int 0), (0, .ref (ad 0)), (1, .int vk)]) hx hb dX12_lend_78 hl (by decide) rfl (fun ls hl => ?_)
                refine lv_aload_n hx hb dX12_lend_80 rfl (lv_at hl 6 rfl) ?_
                refine va_get (D := (dC, dI)) (ci := 12) (v := .ref (ad 8)) (C := RX12) (T := TX12) (N := 46) hx hb hts inG12 hown hK hP 0 (gM_0 cs ad nu22_) rfl 10 (by decide) (hts _ (List.mem_cons_of_mem _ mw_5_51)) (fun _ h9 => h9) rfl dX12_lend_81 ?_
                refine lv_iload hx hb dX12_lend_84 (lv_at hl 2 rfl) ?_
                refine lv_bipush (v := 99) hx hb dX12_lend_86 (by decide) ?_
                refine va_iast hx hb hK hP (wR_D nu22_ hD) hS 8 0 (gM_8 cs ad nu22_) rfl (show vp_in v5_22 7 from vi_of (by omega) (by omega)) dX12_lend_88 (fun H locs hP _ hS => ?_)
                refine wr_gen (upd (nu22_ 8) v5_22.toNatClampNeg 99) hP (rfl) (fun nu36 hn36 hP => ?_)
                have ok := tM_8_s ok v5_22.toNatClampNeg hn36
                have ez37 : y2 = nu36 0 8 := ey2.trans (congrFun (up_k hn36 (by decide)) 8).symm
                have ez38 : y14 = nu36 7 v5_22.toNatClampNeg := ey14.trans (congrFun (up_k hn36 (by decide)) v5_22.toNatClampNeg).symm
                refine lv_aload_n hx hb dX12_lend_89 rfl (lv_at hl 6 rfl) ?_
                refine lv_iload_n hx hb dX12_lend_90 rfl (lv_at hl 7 rfl) ?_
                have hFc := fr_all (wR_D nu36 hD) hS hA
                refine va_callv (va_runV (As := [.int vk]) (rest := []) ⟨hx, hb, hml, hown, hts⟩ (sm_routesOf l dC dI cs ad nu36 ok H hP ((wR_D nu36 hD).weaken (fun _ _ _ _ => trivial)) vk (by omega)) (cwV 1 hts (wU_V mw_6_174 mw_6_171 mw_6_173 mw_0_53 mw_1_13) rfl rfl rfl (by decide +kernel) ⟨Nat.le_of_ble_eq_true rfl, Nat.le_of_ble_eq_true rfl⟩) ⟨sz_c, va_recv hK hP (ci := 12) (q0 := 0) rfl (gM_0 cs ad nu36), sz_m hK hz⟩ rfl rfl hl.1 rfl (lv_room (Nat.le_of_ble_eq_true rfl)) dX12_lend_91 ⟨Nat.zero_le _, Nat.zero_le _⟩) hS (fun q _ h => hFc q h) hFc (fun xi39 t H39 locs ht hvm hw39 hB hz1 hk1 hS => ?_)
                have hP : va_P (dC, dI) vwCl (wR 21 ad (EM cs ad) xi39) H39 := by rw [← ht]; exact hB
                obtain ⟨ok, hw39, _⟩ := hw39
                have gr39 : ((xi39 0 39).toInt = -9 ∨ (0 ≤ (xi39 0 39).toInt ∧ (xi39 0 39).toInt ≤ 3)) ∧ ((xi39 0 33).toInt = 0 ∨ (xi39 0 35).toInt ≤ 7) := hw39
                refine lv_aload_n hx hb dX12_lend_94 rfl (lv_at hl 6 rfl) ?_
                refine va_get (D := (dC, dI)) (ci := 12) (v := .ref (ad 8)) (C := RX12) (T := TX12) (N := 46) hx hb hts inG12 hown hK hP 0 (gM_0 cs ad xi39) rfl 10 (by decide) (hts _ (List.mem_cons_of_mem _ mw_5_51)) (fun _ h9 => h9) rfl dX12_lend_95 ?_
                refine lv_iload hx hb dX12_lend_98 (lv_at hl 2 rfl) ?_
                refine lv_iload hx hb dX12_lend_100 (lv_at hl 0 rfl) ?_
                refine va_iast hx hb hK hP (wR_D xi39 hD) hS 8 0 (gM_8 cs ad xi39) rfl (show vp_in v5_22 7 from vi_of (by omega) (by omega)) dX12_lend_102 (fun H locs hP _ hS => ?_)
                refine wr_gen (upd (xi39 8) v5_22.toNatClampNeg y35) hP (rfl) (fun nu40 hn40 hP => ?_)
                have ok := tM_8_s ok v5_22.toNatClampNeg hn40
                refine lv_iload hx hb dX12_lend_103 (lv_at hl 1 rfl) ?_
                refine lv_if_eq (tgt := 121) hx hb dX12_lend_105 (by decide) (fun c => absurd c (by decide)) (fun _ => ?_)
                refine lv_aload_n hx hb dX12_lend_108 rfl (lv_at hl 6 rfl) ?_
                refine va_get (D := (dC, dI)) (ci := 12) (v := .int (nu40 0 31)) (C := RX12) (T := TX12) (N := 46) hx hb hts inG12 hown hK hP 0 (gM_0 cs ad nu40) rfl 31 (by decide) (hts _ (List.mem_cons_of_mem _ mw_5_72)) (fun _ h9 => h9) rfl dX12_lend_109 ?_
                refine lv_topi (fun y41 ey41 => ?_)
                have by41 : y41.toInt = (nu40 0 31).toInt := congrArg Int32.toInt ey41
                refine lv_iload hx hb dX12_lend_112 (lv_at hl 3 rfl) ?_
                refine lv_icmp_ge (tgt := 121) hx hb dX12_lend_114 (by decide) (fun c_42 => ?_) (fun c_42 => ?_)
                · have c_42 : v4_22.toInt ≤ y41.toInt := il_le c_42
                  refine lv_iconst (v := 0) hx hb dX12_lend_121 (by decide) ?_
                  refine lv_istore (lv' := [(8, .int 0), (7, .int y35), (6, .int 1), (5, .int v5_22), (4, .int v4_22), (3, .int v3_22), (2, .int 0), (0, .ref (ad 0)), (1, .int vk)]) hx hb dX12_lend_122 hl (by decide) rfl (fun ls hl => ?_)
                  refine lv_iload hx hb dX12_lend_124 (lv_at hl 0 rfl) ?_
                  refine lv_if_eq (tgt := 134) hx hb dX12_lend_126 (by decide) (fun _ => ?_) (fun c => absurd (by decide) c)
                  refine lv_iload_n hx hb dX12_lend_134 rfl (lv_at hl 5 rfl) ?_
                  refine lv_istore_n (lv' := [(3, .int v3_22), (8, .int 0), (7, .int y35), (6, .int 1), (5, .int v5_22), (4, .int v4_22), (2, .int 0), (0, .ref (ad 0)), (1, .int vk)]) hx hb dX12_lend_135 rfl hl (by decide) rfl (fun ls hl => ?_)
                  refine lv_iload hx hb dX12_lend_136 (lv_at hl 1 rfl) ?_
                  refine lv_if_eq (tgt := 148) hx hb dX12_lend_138 (by decide) (fun _ => ?_) (fun c => absurd (by decide) c)
                  refine lv_iload hx hb dX12_lend_148 (lv_at hl 5 rfl) ?_
                  refine lv_istore (lv' := [(4, .int v4_22), (3, .int v3_22), (8, .int 0), (7, .int y35), (6, .int 1), (5, .int v5_22), (2, .int 0), (0, .ref (ad 0)), (1, .int vk)]) hx hb dX12_lend_150 hl (by decide) rfl (fun ls hl => ?_)
                  refine lv_iinc (v := (v5_22 + 1)) (lv' := [(5, .int (v5_22 + 1)), (4, .int v4_22), (3, .int v3_22), (8, .int 0), (7, .int y35), (6, .int 1), (2, .int 0), (0, .ref (ad 0)), (1, .int vk)]) hx hb dX12_lend_152 hl (k := 5) rfl rfl (by decide) rfl (fun ls hl => ?_)
                  refine loc_gen (P := fun w9 => lv_has ls 9 [(5, .int w9), (4, .int v4_22), (3, .int v3_22), (8, .int 0), (7, .int y35), (6, .int 1), (2, .int 0), (0, .ref (ad 0)), (1, .int vk)]) (v5_22 + 1) hl (fun w43 hw43 hl => ?_)
                  have hl : lv_has ls 9 [(5, .int w43), (4, .int v4_22), (3, .int v3_22), (8, .int 0), (7, .int y35), (6, .int 1), (2, .int 0), (0, .ref (ad 0)), (1, .int vk)] := hl
                  have aw43 : w43.toInt = v5_22.toInt + 1 := by rw [← hw43]; exact tI_add (rfl : v5_22.toInt = _) (rfl : (1 : Int32).toInt = 1) (by omega) (by omega)
                  refine lv_goto (tgt := 22) hx hb dX12_lend_155 (by decide) ?_
                  exact ih22 (v3_22) (v4_22) (w43) nu40 _ _ _ (by omega) (by exact ⟨by omega, by omega⟩)  ok hP   hS (lv_sub hl [0, 1, 2, 6, 7, 8] rfl)
                · have c_42 : y41.toInt < v4_22.toInt := il_nle c_42
                  refine lv_iconst (v := 1) hx hb dX12_lend_117 (by decide) ?_
                  refine lv_goto (tgt := 122) hx hb dX12_lend_118 (by decide) ?_
                  refine lv_istore (lv' := [(8, .int 1), (7, .int y35), (6, .int 1), (5, .int v5_22), (4, .int v4_22), (3, .int v3_22), (2, .int 0), (0, .ref (ad 0)), (1, .int vk)]) hx hb dX12_lend_122 hl (by decide) rfl (fun ls hl => ?_)
                  refine lv_iload hx hb dX12_lend_124 (lv_at hl 0 rfl) ?_
                  refine lv_if_eq (tgt := 134) hx hb dX12_lend_126 (by decide) (fun c => absurd c (by decide)) (fun _ => ?_)
                  refine lv_iload hx hb dX12_lend_129 (lv_at hl 3 rfl) ?_
                  refine lv_goto (tgt := 135) hx hb dX12_lend_131 (by decide) ?_
                  refine lv_istore_n (lv' := [(3, .int v5_22), (8, .int 1), (7, .int y35), (6, .int 1), (5, .int v5_22), (4, .int v4_22), (2, .int 0), (0, .ref (ad 0)), (1, .int vk)]) hx hb dX12_lend_135 rfl hl (by decide) rfl (fun ls hl => ?_)
                  refine lv_iload hx hb dX12_lend_136 (lv_at hl 1 rfl) ?_
                  refine lv_if_eq (tgt := 148) hx hb dX12_lend_138 (by decide) (fun c => absurd c (by decide)) (fun _ => ?_)
                  refine lv_aload_n hx hb dX12_lend_141 rfl (lv_at hl 7 rfl) ?_
                  refine va_get (D := (dC, dI)) (ci := 12) (v := .int (nu40 0 31)) (C := RX12) (T := TX12) (N := 46) hx hb hts inG12 hown hK hP 0 (gM_0 cs ad nu40) rfl 31 (by decide) (hts _ (List.mem_cons_of_mem _ mw_5_72)) (fun _ h9 => h9) rfl dX12_lend_142 ?_
                  refine lq_i y41 ey41.symm ?_
                  refine lv_goto (tgt := 150) hx hb dX12_lend_145 (by decide) ?_
                  refine lv_istore (lv' := [(4, .int y41), (3, .int v5_22), (8, .int 1), (7, .int y35), (6, .int 1), (5, .int v5_22), (2, .int 0), (0, .ref (ad 0)), (1, .int vk)]) hx hb dX12_lend_150 hl (by decide) rfl (fun ls hl => ?_)
                  refine lv_iinc (v := (v5_22 + 1)) (lv' := [(5, .int (v5_22 + 1)), (4, .int y41), (3, .int v5_22), (8, .int 1), (7, .int y35), (6, .int 1), (2, .int 0), (0, .ref (ad 0)), (1, .int vk)]) hx hb dX12_lend_152 hl (k := 5) rfl rfl (by decide) rfl (fun ls hl => ?_)
                  refine loc_gen (P := fun w9 => lv_has ls 9 [(5, .int w9), (4, .int y41), (3, .int v5_22), (8, .int 1), (7, .int y35), (6, .int 1), (2, .int 0), (0, .ref (ad 0)), (1, .int vk)]) (v5_22 + 1) hl (fun w44 hw44 hl => ?_)
                  have hl : lv_has ls 9 [(5, .int w44), (4, .int y41), (3, .int v5_22), (8, .int 1), (7, .int y35), (6, .int 1), (2, .int 0), (0, .ref (ad 0)), (1, .int vk)] := hl
                  have aw44 : w44.toInt = v5_22.toInt + 1 := by rw [← hw44]; exact tI_add (rfl : v5_22.toInt = _) (rfl : (1 : Int32).toInt = 1) (by omega) (by omega)
                  refine lv_goto (tgt := 22) hx hb dX12_lend_155 (by decide) ?_
                  exact ih22 (v5_22) (y41) (w44) nu40 _ _ _ (by omega) (by exact ⟨by omega, by omega⟩)  ok hP   hS (lv_sub hl [0, 1, 2, 6, 7, 8] rfl)
    exact loop22 ((7 + 1 - (0 : Int32).toInt).toNat + 1) ((-9)) (1048576) (0) xi1 _ _ _ (Nat.lt_succ_self _) (by have h80 : (0 : Int32).toInt = 0 := rfl; exact ⟨by omega, by omega⟩)  ok hP   hS hl
  · skip
    refine lv_istore_n (lv' := [(2, .int r1), (0, .ref (ad 0)), (1, .int vk)]) hx hb dX12_lend_5 rfl hl (by decide) rfl (fun ls hl => ?_)
    refine lv_iload_n hx hb dX12_lend_6 rfl (lv_at hl 0 rfl) ?_
    refine lv_if_ge (tgt := 12) hx hb dX12_lend_7 (by decide) (fun c_45 => by have c_45 : 0 ≤ r1.toInt := il_le c_45; exfalso; omega) (fun c_45 => ?_)
    have c_45 : r1.toInt < 0 := il_nle c_45
    refine lv_iload_n hx hb dX12_lend_10 rfl (lv_at hl 0 rfl) ?_
    exact W.iret (v := r1) hx hb hr (fun t ht hW => ⟨⟨r1, xi1, rfl, ⟨ok, trivial, trivial⟩, by first | (subst ht; exact hP) | (rw [ht]; exact hP) | (show va_P (dC, dI) vwCl (wR 21 ad (EM cs ad) xi1) t.heap; rw [ht]; exact hP)⟩, hS.F ht⟩) hS.2.2 dX12_lend_11
