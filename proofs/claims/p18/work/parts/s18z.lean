set_option maxHeartbeats 4000000 in
set_option maxRecDepth 100000 in
/-- qx_fault -/
theorem qx_fault (l : Launch) (dC : Nat → ClassId) (dI : Nat → Nat → Nat) (cs : Nat → ClassId) (ad : Nat → Nat) (mu : Nat → Nat → Int32) (ok : okR loX hiX mu) (H : Heap) (hP : va_P (dC, dI) vwCl (wR 157 ad (EX cs ad) mu) H) (hD0 : va_D (fun _ => True) (wR 157 ad (EX cs ad) mu)) (tt : Nat) (vt : Int32) : Met l yX11_fault (wU yX11_fault cX11_fault 3 (some .int)) ({ frames := 3, cells := 0, slots := 0, locals := 69 }) (va_Pc [.ref (ad 0), .int vt] (sy_P (dC, dI) vwCl (tyW cs) (va_A (wR 157 ad (EX cs ad) mu) H.size) tt H)) (va_Qi (fun (z : Int32) (xi : Nat → Nat → Int32) => (z, xi) = F_qx_fault mu vt ∧ okR loX hiX xi ∧ (True) ∧ (∀ k f : Nat, Nat.testBit 510 (gpX k f) = true → xi k f = mu k f)) (fun xi t => va_P (dC, dI) vwCl (wR 157 ad (EX cs ad) xi) t.heap) (va_A (wR 157 ad (EX cs ad) mu) H.size)) 0 0 (va_A (wR 157 ad (EX cs ad) mu) H.size) := by
  refine Met.ofW (cc := cX11_fault) (maxL := 3) (ret := (some .int)) (by decide) rfl ?_
  intro p e s m args below meth c s₁ B hml hv
  obtain ⟨rfl, hh, hK, hz, hks⟩ := hv
  have hx := B.exec
  have hb := B.bytes
  have hr := B.returns
  have hts := atoms_spec (ws := (wU yX11_fault cX11_fault 3 (some .int))) B.pre
  have hown : s.vm.findClass RX11 = some m.cls := findClass_of_methodNamed B.named
  have hlocks := B.notSynchronized
  subst hh
  have hD := hD0.self (sz := s.heap.size)
  have hA : ∀ q : Nat, s.heap.size ≤ q → (va_A (wR 157 ad (EX cs ad) mu) s.heap.size) q := fun q h => Or.inr h
  have hS : va_S (va_A (wR 157 ad (EX cs ad) mu) s.heap.size) s.heap s.heap [] := va_S.rf
  have hl := lv_entry ([.ref (ad 0), .int vt]) (n := 3) (Nat.le_of_ble_eq_true rfl)
  rw [lg_entry_eq]
  generalize (lg_sl ([.ref (ad 0), .int vt]) ++ List.replicate (3 - (lg_sl ([.ref (ad 0), .int vt])).length) Slot.unset).toArray = ls at hl ⊢
  have hl : lv_has ls 3 [(0, .ref (ad 0)), (1, .int vt)] := hl
  obtain ⟨fz, hfz⟩ : ∃ z, F_qx_fault mu vt = z := ⟨_, rfl⟩
  have hF := hfz
  unfold F_qx_fault at hF
  refine lv_aload_n hx hb dX11_fault_0 rfl (lv_at hl 0 rfl) ?_
  refine lv_iload_n hx hb dX11_fault_1 rfl (lv_at hl 1 rfl) ?_
  have hFc := fr_all (wR_D mu hD) hS hA
  refine va_calli (va_runV (As := [.int vt]) (rest := []) ⟨hx, hb, hml, hown, hts⟩ (sx_refusedText l dC dI cs ad mu ok s.heap hP ((wR_D mu hD).weaken (fun _ _ _ _ => trivial)) vt) (cwV 1 hts (wU_V mw_3_30 mw_3_27 mw_3_29 mw_0_3 mw_1_1) rfl rfl rfl (by decide +kernel) ⟨Nat.le_of_ble_eq_true rfl, Nat.le_of_ble_eq_true rfl⟩) ⟨sz_c, va_recv hK hP (ci := 11) (q0 := 0) rfl (gX_0 cs ad mu), sz_m hK hz⟩ rfl rfl hl.1 rfl (lv_room (Nat.le_of_ble_eq_true rfl)) dX11_fault_2 ⟨Nat.zero_le _, Nat.zero_le _⟩) hS (fun q _ h => hFc q h) hFc (fun r1 xi1 t H1 locs ht hvm hw1 hB hz1 hk1 hS => ?_)
  have hP : va_P (dC, dI) vwCl (wR 157 ad (EX cs ad) xi1) H1 := by rw [← ht]; exact hB
  obtain ⟨hfe1, hw1⟩ := hw1
  have hF := mi_letp hF hfe1
  rcases hw1 with ⟨rfl, hxi1, f1⟩ | ⟨z1, ok, hkp1_0⟩
  · have hF := (if_pos rfl).symm.trans hF
    have hP : va_P (dC, dI) vwCl (wR 157 ad (EX cs ad) mu) H1 := by rw [← hxi1]; exact hP
    have f1 : 0 ≤ vt.toInt ∧ vt.toInt ≤ 3 ∧ 0 ≤ (mu (14 + vt.toNatClampNeg) 1).toInt := f1
    refine lv_istore_n (lv' := [(2, .int 0), (0, .ref (ad 0)), (1, .int vt)]) hx hb dX11_fault_5 rfl hl (by decide) rfl (fun ls hl => ?_)
    refine lv_iload_n hx hb dX11_fault_6 rfl (lv_at hl 0 rfl) ?_
    refine lv_if_eq (tgt := 12) hx hb dX11_fault_7 (by decide) (fun _ => ?_) (fun c => absurd (by decide) c)
    refine lv_aload_n hx hb dX11_fault_12 rfl (lv_at hl 1 rfl) ?_
    refine va_get (D := (dC, dI)) (ci := 11) (v := .ref (ad 31)) (C := RX11) (T := TX11) (N := 11) hx hb hts inG11 hown hK hP 0 (gX_0 cs ad mu) rfl 4 (by decide) (hts _ (List.mem_cons_of_mem _ mw_2_162)) (fun _ h9 => h9) rfl dX11_fault_13 ?_
    refine lv_aload_n hx hb dX11_fault_16 rfl (lv_at hl 1 rfl) ?_
    refine va_get (D := (dC, dI)) (ci := 11) (v := .ref (ad 2)) (C := RX11) (T := TX11) (N := 11) hx hb hts inG11 hown hK hP 0 (gX_0 cs ad mu) rfl 1 (by decide) (hts _ (List.mem_cons_of_mem _ mw_2_159)) (fun _ h9 => h9) rfl dX11_fault_17 ?_
    refine lv_iload_n hx hb dX11_fault_20 rfl (lv_at hl 2 rfl) ?_
    have hx3 : 0 ≤ vt.toInt ∧ vt.toInt < ((4 : Nat) : Int) := ⟨by omega, by omega⟩
    refine va_aldq hx hb hK hP 2 3 (gX_2 cs ad mu) rfl (show vp_in vt 4 from vi_of hx3.1 hx3.2) dX11_fault_21 ?_
    have hk3 : 14 ≤ (14 + vt.toNatClampNeg) ∧ (14 + vt.toNatClampNeg) < 18 := ix_of hx3
    refine lq_v (.ref (ad (14 + vt.toNatClampNeg))) rfl ?_
    have hFc := fr_all (wR_D mu hD) hS hA
    refine va_calli (va_runV (As := [.ref (ad (14 + vt.toNatClampNeg))]) (rest := []) ⟨hx, hb, hml, hown, hts⟩ (sx_faultIn l dC dI cs ad mu ok H1 hP ((wR_D mu hD).weaken (fun _ _ _ _ => trivial)) tt (14 + vt.toNatClampNeg) hk3.1 hk3.2) (cwV 1 hts (wU_V mw_3_42 mw_3_39 mw_3_40 mw_3_41 mw_1_5) rfl rfl rfl (by decide +kernel) ⟨Nat.le_of_ble_eq_true rfl, Nat.le_of_ble_eq_true rfl⟩) ⟨sy_c, va_recv hK hP (ci := 4) (q0 := 31) rfl (gX_31 cs ad mu), sy_m hK hz (hks.on hS hFc)⟩ rfl rfl hl.1 rfl (lv_room (Nat.le_of_ble_eq_true rfl)) dX11_fault_22 ⟨Nat.zero_le _, Nat.zero_le _⟩) hS (fun q _ h => hFc q h) hFc (fun r4 xi4 t H4 locs ht hvm hw4 hB hz1 hk1 hS => ?_)
    have hP : va_P (dC, dI) vwCl (wR 157 ad (EX cs ad) xi4) H4 := by rw [← ht]; exact hB
    obtain ⟨hfe4, ok, hw4, hkp4_0⟩ := hw4
    have hF := mi_letp hF hfe4
    have kp5 : (∀ k f : Nat, Nat.testBit 510 (gpX k f) = true → xi4 k f = mu k f) := kp_t hkp4_0 (by decide) (fun _ _ _ => rfl)
    exact W.iret (v := r4) hx hb hr (fun t ht hW => ⟨⟨r4, xi4, rfl, ⟨hF.trans hfz.symm, ok, trivial, kp5⟩, by first | (subst ht; exact hP) | (rw [ht]; exact hP) | (show va_P (dC, dI) vwCl (wR 157 ad (EX cs ad) xi4) t.heap; rw [ht]; exact hP)⟩, hS.F ht⟩) hS.2.2 dX11_fault_25
  · have hF := (if_neg (show ¬ r1 = 0 from fun h => by have h9 := congrArg Int32.toInt h; have h8 : (0 : Int32).toInt = 0 := rfl; omega)).symm.trans hF
    have kp2 : (∀ k f : Nat, Nat.testBit 510 (gpX k f) = true → xi1 k f = mu k f) := kp_t hkp1_0 (by decide) (fun _ _ _ => rfl)
    skip
    refine lv_istore_n (lv' := [(2, .int r1), (0, .ref (ad 0)), (1, .int vt)]) hx hb dX11_fault_5 rfl hl (by decide) rfl (fun ls hl => ?_)
    refine lv_iload_n hx hb dX11_fault_6 rfl (lv_at hl 0 rfl) ?_
    refine lv_if_eq (tgt := 12) hx hb dX11_fault_7 (by decide) (fun c_6 => by have c_6 : r1.toInt = 0 := il_eq c_6; exfalso; omega) (fun c_6 => ?_)
    have c_6 : ¬ r1.toInt = 0 := il_ne c_6
    refine lv_iload_n hx hb dX11_fault_10 rfl (lv_at hl 0 rfl) ?_
    exact W.iret (v := r1) hx hb hr (fun t ht hW => ⟨⟨r1, xi1, rfl, ⟨hF.trans hfz.symm, ok, trivial, kp2⟩, by first | (subst ht; exact hP) | (rw [ht]; exact hP) | (show va_P (dC, dI) vwCl (wR 157 ad (EX cs ad) xi1) t.heap; rw [ht]; exact hP)⟩, hS.F ht⟩) hS.2.2 dX11_fault_11
set_option maxHeartbeats 4000000 in
set_option maxRecDepth 100000 in
/-- qx_town -/
theorem qx_town (l : Launch) (dC : Nat → ClassId) (dI : Nat → Nat → Nat) (cs : Nat → ClassId) (ad : Nat → Nat) (mu : Nat → Nat → Int32) (ok : okR loX hiX mu) (H : Heap) (hP : va_P (dC, dI) vwCl (wR 157 ad (EX cs ad) mu) H) (hD0 : va_D (fun _ => True) (wR 157 ad (EX cs ad) mu)) (tt : Nat) (vt : Int32) : Met l yX11_town (wU yX11_town cX11_town 4 (some .int)) ({ frames := 3, cells := 0, slots := 0, locals := 81 }) (va_Pc [.ref (ad 0), .int vt] (sy_P (dC, dI) vwCl (tyW cs) (va_A (wR 157 ad (EX cs ad) mu) H.size) tt H)) (va_Qi (fun (z : Int32) (xi : Nat → Nat → Int32) => (z, xi) = F_qx_town mu vt ∧ okR loX hiX xi ∧ (True) ∧ (∀ k f : Nat, Nat.testBit 2 (gpX k f) = true → xi k f = mu k f)) (fun xi t => va_P (dC, dI) vwCl (wR 157 ad (EX cs ad) xi) t.heap) (va_A (wR 157 ad (EX cs ad) mu) H.size)) 0 0 (va_A (wR 157 ad (EX cs ad) mu) H.size) := by
  refine Met.ofW (cc := cX11_town) (maxL := 4) (ret := (some .int)) (by decide) rfl ?_
  intro p e s m args below meth c s₁ B hml hv
  obtain ⟨rfl, hh, hK, hz, hks⟩ := hv
  have hx := B.exec
  have hb := B.bytes
  have hr := B.returns
  have hts := atoms_spec (ws := (wU yX11_town cX11_town 4 (some .int))) B.pre
  have hown : s.vm.findClass RX11 = some m.cls := findClass_of_methodNamed B.named
  have hlocks := B.notSynchronized
  subst hh
  have hD := hD0.self (sz := s.heap.size)
  have hA : ∀ q : Nat, s.heap.size ≤ q → (va_A (wR 157 ad (EX cs ad) mu) s.heap.size) q := fun q h => Or.inr h
  have hS : va_S (va_A (wR 157 ad (EX cs ad) mu) s.heap.size) s.heap s.heap [] := va_S.rf
  have hl := lv_entry ([.ref (ad 0), .int vt]) (n := 4) (Nat.le_of_ble_eq_true rfl)
  rw [lg_entry_eq]
  generalize (lg_sl ([.ref (ad 0), .int vt]) ++ List.replicate (4 - (lg_sl ([.ref (ad 0), .int vt])).length) Slot.unset).toArray = ls at hl ⊢
  have hl : lv_has ls 4 [(0, .ref (ad 0)), (1, .int vt)] := hl
  obtain ⟨fz, hfz⟩ : ∃ z, F_qx_town mu vt = z := ⟨_, rfl⟩
  have hF := hfz
  unfold F_qx_town at hF
  refine lv_aload_n hx hb dX11_town_0 rfl (lv_at hl 0 rfl) ?_
  refine lv_iload_n hx hb dX11_town_1 rfl (lv_at hl 1 rfl) ?_
  have hFc := fr_all (wR_D mu hD) hS hA
  refine va_calli (va_runV (As := [.int vt]) (rest := []) ⟨hx, hb, hml, hown, hts⟩ (sx_refusedText l dC dI cs ad mu ok s.heap hP ((wR_D mu hD).weaken (fun _ _ _ _ => trivial)) vt) (cwV 1 hts (wU_V mw_3_30 mw_3_27 mw_3_29 mw_0_3 mw_1_1) rfl rfl rfl (by decide +kernel) ⟨Nat.le_of_ble_eq_true rfl, Nat.le_of_ble_eq_true rfl⟩) ⟨sz_c, va_recv hK hP (ci := 11) (q0 := 0) rfl (gX_0 cs ad mu), sz_m hK hz⟩ rfl rfl hl.1 rfl (lv_room (Nat.le_of_ble_eq_true rfl)) dX11_town_2 ⟨Nat.zero_le _, Nat.zero_le _⟩) hS (fun q _ h => hFc q h) hFc (fun r1 xi1 t H1 locs ht hvm hw1 hB hz1 hk1 hS => ?_)
  have hP : va_P (dC, dI) vwCl (wR 157 ad (EX cs ad) xi1) H1 := by rw [← ht]; exact hB
  obtain ⟨hfe1, hw1⟩ := hw1
  have hF := mi_letp hF hfe1
  rcases hw1 with ⟨rfl, hxi1, f1⟩ | ⟨z1, ok, hkp1_0⟩
  · have hF := (if_pos rfl).symm.trans hF
    have hP : va_P (dC, dI) vwCl (wR 157 ad (EX cs ad) mu) H1 := by rw [← hxi1]; exact hP
    have f1 : 0 ≤ vt.toInt ∧ vt.toInt ≤ 3 ∧ 0 ≤ (mu (14 + vt.toNatClampNeg) 1).toInt := f1
    refine lv_istore_n (lv' := [(2, .int 0), (0, .ref (ad 0)), (1, .int vt)]) hx hb dX11_town_5 rfl hl (by decide) rfl (fun ls hl => ?_)
    refine lv_iload_n hx hb dX11_town_6 rfl (lv_at hl 0 rfl) ?_
    refine lv_if_eq (tgt := 12) hx hb dX11_town_7 (by decide) (fun _ => ?_) (fun c => absurd (by decide) c)
    refine lv_aload_n hx hb dX11_town_12 rfl (lv_at hl 1 rfl) ?_
    refine va_get (D := (dC, dI)) (ci := 11) (v := .ref (ad 31)) (C := RX11) (T := TX11) (N := 11) hx hb hts inG11 hown hK hP 0 (gX_0 cs ad mu) rfl 4 (by decide) (hts _ (List.mem_cons_of_mem _ mw_2_162)) (fun _ h9 => h9) rfl dX11_town_13 ?_
    refine lv_aload_n hx hb dX11_town_16 rfl (lv_at hl 1 rfl) ?_
    refine va_get (D := (dC, dI)) (ci := 11) (v := .ref (ad 2)) (C := RX11) (T := TX11) (N := 11) hx hb hts inG11 hown hK hP 0 (gX_0 cs ad mu) rfl 1 (by decide) (hts _ (List.mem_cons_of_mem _ mw_2_159)) (fun _ h9 => h9) rfl dX11_town_17 ?_
    refine lv_iload_n hx hb dX11_town_20 rfl (lv_at hl 2 rfl) ?_
    have hx3 : 0 ≤ vt.toInt ∧ vt.toInt < ((4 : Nat) : Int) := ⟨by omega, by omega⟩
    refine va_aldq hx hb hK hP 2 3 (gX_2 cs ad mu) rfl (show vp_in vt 4 from vi_of hx3.1 hx3.2) dX11_town_21 ?_
    have hk3 : 14 ≤ (14 + vt.toNatClampNeg) ∧ (14 + vt.toNatClampNeg) < 18 := ix_of hx3
    refine lq_v (.ref (ad (14 + vt.toNatClampNeg))) rfl ?_
    have hFc := fr_all (wR_D mu hD) hS hA
    refine va_calli (va_runV (As := [.ref (ad (14 + vt.toNatClampNeg))]) (rest := []) ⟨hx, hb, hml, hown, hts⟩ (sx_faultIn l dC dI cs ad mu ok H1 hP ((wR_D mu hD).weaken (fun _ _ _ _ => trivial)) tt (14 + vt.toNatClampNeg) hk3.1 hk3.2) (cwV 1 hts (wU_V mw_3_42 mw_3_39 mw_3_40 mw_3_41 mw_1_5) rfl rfl rfl (by decide +kernel) ⟨Nat.le_of_ble_eq_true rfl, Nat.le_of_ble_eq_true rfl⟩) ⟨sy_c, va_recv hK hP (ci := 4) (q0 := 31) rfl (gX_31 cs ad mu), sy_m hK hz (hks.on hS hFc)⟩ rfl rfl hl.1 rfl (lv_room (Nat.le_of_ble_eq_true rfl)) dX11_town_22 ⟨Nat.zero_le _, Nat.zero_le _⟩) hS (fun q _ h => hFc q h) hFc (fun r4 xi4 t H4 locs ht hvm hw4 hB hz1 hk1 hS => ?_)
    have hP : va_P (dC, dI) vwCl (wR 157 ad (EX cs ad) xi4) H4 := by rw [← ht]; exact hB
    obtain ⟨hfe4, ok, hw4, hkp4_0⟩ := hw4
    have hF := mi_letp hF hfe4
    have kp5 : (∀ k f : Nat, Nat.testBit 2 (gpX k f) = true → xi4 k f = mu k f) := kp_t hkp4_0 (by decide) (fun _ _ _ => rfl)
    refine lv_bipush (v := (-9)) hx hb dX11_town_25 (by decide) ?_
    refine lv_icmp_eq (tgt := 33) hx hb dX11_town_27 (by decide) (fun c_6 => ?_) (fun c_6 => ?_)
    · have hF := (if_pos c_6).symm.trans hF
      have c_6 : r4.toInt = -9 := il_eq c_6
      refine lv_aload_n hx hb dX11_town_33 rfl (lv_at hl 1 rfl) ?_
      refine va_get (D := (dC, dI)) (ci := 11) (v := .ref (ad 31)) (C := RX11) (T := TX11) (N := 11) hx hb hts inG11 hown hK hP 0 (gX_0 cs ad xi4) rfl 4 (by decide) (hts _ (List.mem_cons_of_mem _ mw_2_162)) (fun _ h9 => h9) rfl dX11_town_34 ?_
      refine lv_aload_n hx hb dX11_town_37 rfl (lv_at hl 1 rfl) ?_
      refine va_get (D := (dC, dI)) (ci := 11) (v := .ref (ad 4)) (C := RX11) (T := TX11) (N := 11) hx hb hts inG11 hown hK hP 0 (gX_0 cs ad xi4) rfl 3 (by decide) (hts _ (List.mem_cons_of_mem _ mw_2_161)) (fun _ h9 => h9) rfl dX11_town_38 ?_
      have hFc := fr_all (wR_D xi4 hD) hS hA
      refine va_callv (va_runV (As := [.ref (ad 4)]) (rest := []) ⟨hx, hb, hml, hown, hts⟩ (sx_build l dC dI cs ad xi4 ok H4 hP ((wR_D xi4 hD).weaken (fun _ _ _ _ => trivial))) (cwV 1 hts (wU_V mw_3_67 mw_3_64 mw_3_65 mw_3_66 mw_1_5) rfl rfl rfl (by decide +kernel) ⟨Nat.le_of_ble_eq_true rfl, Nat.le_of_ble_eq_true rfl⟩) ⟨sz_c, va_recv hK hP (ci := 4) (q0 := 31) rfl (gX_31 cs ad xi4), sz_m hK hz⟩ rfl rfl hl.1 rfl (lv_room (Nat.le_of_ble_eq_true rfl)) dX11_town_41 ⟨Nat.zero_le _, Nat.zero_le _⟩) hS (fun q _ h => hFc q h) hFc (fun xi7 t H7 locs ht hvm hw7 hB hz1 hk1 hS => ?_)
      have hP : va_P (dC, dI) vwCl (wR 157 ad (EX cs ad) xi7) H7 := by rw [← ht]; exact hB
      obtain ⟨hfe7, ok, hw7, hkp7_0⟩ := hw7
      have hF := mi_let hF hfe7
      have kp8 : (∀ k f : Nat, Nat.testBit 2 (gpX k f) = true → xi7 k f = mu k f) := kp_t hkp7_0 (by decide) kp5
      refine lv_aload_n hx hb dX11_town_44 rfl (lv_at hl 1 rfl) ?_
      refine va_get (D := (dC, dI)) (ci := 11) (v := .ref (ad 6)) (C := RX11) (T := TX11) (N := 11) hx hb hts inG11 hown hK hP 0 (gX_0 cs ad xi7) rfl 5 (by decide) (hts _ (List.mem_cons_of_mem _ mw_2_163)) (fun _ h9 => h9) rfl dX11_town_45 ?_
      refine lv_iconst (v := 0) hx hb dX11_town_48 (by decide) ?_
      refine va_put (D := (dC, dI)) (ci := 2) (v := .int 0) (ty := .int) (C := RX2) (T := TX2) (N := 2) hx hb hts inG2 tyX2 tyX2_ok nmX2 hown hK hP (wR_D xi7 hD) hS 6 (gX_6 cs ad xi7) rfl 1 (by decide) (hts _ (List.mem_cons_of_mem _ mw_2_8)) (fun _ h9 => h9) rfl (by decide +kernel) rfl rfl (Nat.le_of_ble_eq_true rfl) dX11_town_49 (fun H locs hP _ hS => ?_)
      simp only [List.set_cons_succ, List.set_cons_zero] at hP
      refine wr_gen (upd (xi7 6) 1 0) hP ((hX_6_1 cs ad _ _)) (fun nu9 hn9 hP => ?_)
      have hF := mi_let hF hn9.symm
      have ok := tX_6_1 ok hn9 (by have h9 : (0 : Int32).toInt = 0 := rfl; exact ⟨by omega, by omega⟩)
      have kp10 : (∀ k f : Nat, Nat.testBit 2 (gpX k f) = true → nu9 k f = mu k f) := kp_c 4 hn9 (fun _ => rfl) (by decide) kp8
      have ez11 : 0 = nu9 6 1 := up_v hn9
      refine lv_iconst (v := 0) hx hb dX11_town_52 (by decide) ?_
      refine lv_istore_n (lv' := [(3, .int 0), (2, .int 0), (0, .ref (ad 0)), (1, .int vt)]) hx hb dX11_town_53 rfl hl (by decide) rfl (fun ls hl => ?_)
      have loop54 : ∀ (n54 : Nat) (v3_54 : Int32) (nu54_ : Nat → Nat → Int32) (H : Heap) (locs : List Loc) (ls : Array Slot), (3 + 1 - v3_54.toInt).toNat < n54 → (0 ≤ v3_54.toInt ∧ v3_54.toInt ≤ 3) → okR loX hiX nu54_ → va_P (dC, dI) vwCl (wR 157 ad (EX cs ad) nu54_) H → (∀ k f : Nat, Nat.testBit 2 (gpX k f) = true → nu54_ k f = mu k f) → L_qx_town_54_0 n54 v3_54 nu54_ = fz → va_S (va_A (wR 157 ad (EX cs ad) mu) s.heap.size) s.heap H locs → lv_has ls 4 [(3, .int v3_54), (2, .int 0), (0, .ref (ad 0)), (1, .int vt)] → W p l e (headSpec (wU yX11_town cX11_town 4 (some .int)) ({ frames := 3, cells := 0, slots := 0, locals := 81 })).room s m ([.ref (ad 0), .int vt] : List Value).toArray below meth c H locs 0 0 (MQ below (va_Qi (fun (z : Int32) (xi : Nat → Nat → Int32) => (z, xi) = F_qx_town mu vt ∧ okR loX hiX xi ∧ (True) ∧ (∀ k f : Nat, Nat.testBit 2 (gpX k f) = true → xi k f = mu k f)) (fun xi t => va_P (dC, dI) vwCl (wR 157 ad (EX cs ad) xi) t.heap) (va_A (wR 157 ad (EX cs ad) mu) s.heap.size)) ([.ref (ad 0), .int vt] : List Value).toArray s 0 0 (va_A (wR 157 ad (EX cs ad) mu) s.heap.size)) (F0 m 54 ls []) := by
        intro n54
        induction n54 with
        | zero => intro v3_54 nu54_ H locs ls hm; exact absurd hm (Nat.not_lt_zero _)
        | succ n54 ih54 =>
          intro v3_54 nu54_ H locs ls hm h_v3_54 ok hP kq54_0 hF hS hl
          rw [L_qx_town_54_0] at hF
          refine lv_iload_n hx hb dX11_town_54 rfl (lv_at hl 0 rfl) ?_
          refine lv_iconst (v := 3) hx hb dX11_town_55 (by decide) ?_
          refine lv_icmp_ge (tgt := 75) hx hb dX11_town_56 (by decide) (fun c_12 => ?_) (fun c_12 => ?_)
          · have hF := (if_pos c_12).symm.trans hF
            have c_12 : 3 ≤ v3_54.toInt := il_le c_12
            refine lv_aload_n hx hb dX11_town_75 rfl (lv_at hl 2 rfl) ?_
            refine va_get (D := (dC, dI)) (ci := 11) (v := .ref (ad 4)) (C := RX11) (T := TX11) (N := 11) hx hb hts inG11 hown hK hP 0 (gX_0 cs ad nu54_) rfl 3 (by decide) (hts _ (List.mem_cons_of_mem _ mw_2_161)) (fun _ h9 => h9) rfl dX11_town_76 ?_
            refine va_get (D := (dC, dI)) (ci := 10) (v := .int (nu54_ 4 6)) (C := RX10) (T := TX10) (N := 8) hx hb hts inG10 hown hK hP 4 (gX_4 cs ad nu54_) rfl 6 (by decide) (hts _ (List.mem_cons_of_mem _ mw_1_164)) (fun _ h9 => h9) rfl dX11_town_79 ?_
            refine lv_topi (fun y13 ey13 => ?_)
            have hF := mi_let hF ey13
            have by13 : y13.toInt = (nu54_ 4 6).toInt := congrArg Int32.toInt ey13
            have gy13 : 0 ≤ y13.toInt ∧ y13.toInt ≤ 7 := by rw [ey13]; exact rX_4_6 ok
            exact W.iret (v := y13) hx hb hr (fun t ht hW => ⟨⟨y13, nu54_, rfl, ⟨hF.trans hfz.symm, ok, trivial, kq54_0⟩, by first | (subst ht; exact hP) | (rw [ht]; exact hP) | (show va_P (dC, dI) vwCl (wR 157 ad (EX cs ad) nu54_) t.heap; rw [ht]; exact hP)⟩, hS.F ht⟩) hS.2.2 dX11_town_82
          · have hF := (if_neg c_12).symm.trans hF
            have c_12 : v3_54.toInt < 3 := il_nle c_12
            refine lv_aload_n hx hb dX11_town_59 rfl (lv_at hl 2 rfl) ?_
            refine va_get (D := (dC, dI)) (ci := 11) (v := .ref (ad 3)) (C := RX11) (T := TX11) (N := 11) hx hb hts inG11 hown hK hP 0 (gX_0 cs ad nu54_) rfl 2 (by decide) (hts _ (List.mem_cons_of_mem _ mw_2_160)) (fun _ h9 => h9) rfl dX11_town_60 ?_
            refine lv_iload_n hx hb dX11_town_63 rfl (lv_at hl 0 rfl) ?_
            have hx14 : 0 ≤ v3_54.toInt ∧ v3_54.toInt < ((3 : Nat) : Int) := ⟨by omega, by omega⟩
            refine va_aldq hx hb hK hP 3 4 (gX_3 cs ad nu54_) rfl (show vp_in v3_54 3 from vi_of hx14.1 hx14.2) dX11_town_64 ?_
            have hk14 : 18 ≤ (18 + v3_54.toNatClampNeg) ∧ (18 + v3_54.toNatClampNeg) < 21 := ix_of hx14
            refine lq_v (.ref (ad (18 + v3_54.toNatClampNeg))) rfl ?_
            refine lv_iconst (v := 0) hx hb dX11_town_65 (by decide) ?_
            refine va_put (D := (dC, dI)) (ci := 8) (v := .int 0) (ty := .boolean) (C := RX8) (T := TX8) (N := 6) hx hb hts inG8 tyX8 tyX8_ok nmX8 hown hK hP (wR_D nu54_ hD) hS (18 + v3_54.toNatClampNeg) (gX_kept cs ad nu54_ (18 + v3_54.toNatClampNeg) hk14.1 hk14.2) rfl 5 (by decide) (hts _ (List.mem_cons_of_mem _ mw_1_129)) (fun _ h9 => h9) rfl (by decide +kernel) (by first | rfl | decide) (by first | rfl | decide) (Nat.le_of_ble_eq_true rfl) dX11_town_66 (fun H locs hP _ hS => ?_)
            simp only [List.set_cons_succ, List.set_cons_zero] at hP
            refine wr_gen (upd (nu54_ (18 + v3_54.toNatClampNeg)) 5 0) hP ((hX_kept_5 cs ad _ _ (18 + v3_54.toNatClampNeg) hk14.1 hk14.2)) (fun nu15 hn15 hP => ?_)
            have hF := mi_let hF hn15.symm
            have ok := tX_kept_5 ok (18 + v3_54.toNatClampNeg) hk14.1 hk14.2 hn15 (by have h9 : (0 : Int32).toInt = 0 := rfl; exact ⟨by omega, by omega⟩)
            have kp16 : (∀ k f : Nat, Nat.testBit 2 (gpX k f) = true → nu15 k f = mu k f) := kp_c 5 hn15 (fun _ => gpX_kept hk14.1 hk14.2) (by decide) kq54_0
            have ez17 : 0 = nu15 (18 + v3_54.toNatClampNeg) 5 := up_v hn15
            refine lv_iinc (v := (v3_54 + 1)) (lv' := [(3, .int (v3_54 + 1)), (2, .int 0), (0, .ref (ad 0)), (1, .int vt)]) hx hb dX11_town_69 hl (k := 0) rfl rfl (by decide) rfl (fun ls hl => ?_)
            refine loc_gen (P := fun w9 => lv_has ls 4 [(3, .int w9), (2, .int 0), (0, .ref (ad 0)), (1, .int vt)]) (v3_54 + 1) hl (fun w18 hw18 hl => ?_)
            have hl : lv_has ls 4 [(3, .int w18), (2, .int 0), (0, .ref (ad 0)), (1, .int vt)] := hl
            have hF := mi_let hF hw18.symm
            have aw18 : w18.toInt = v3_54.toInt + 1 := by rw [← hw18]; exact va1 (by omega)
            refine lv_goto (tgt := 54) hx hb dX11_town_72 (by decide) ?_
            exact ih54 (w18) nu15 _ _ _ (by omega) (by omega)  ok hP  kp16 hF hS (lv_sub hl [0, 1, 2, 3] rfl)
      exact loop54 6 (0) nu9 _ _ _ (by have h80 : (0 : Int32).toInt = 0 := rfl; omega) (by have h80 : (0 : Int32).toInt = 0 := rfl; exact ⟨by omega, by omega⟩)  ok hP  kp10 hF hS hl
    · have hF := (if_neg c_6).symm.trans hF
      have c_6 : ¬ r4.toInt = -9 := il_ne c_6
      refine lv_bipush (v := (-4)) hx hb dX11_town_30 (by decide) ?_
      exact W.iret (v := (-4)) hx hb hr (fun t ht hW => ⟨⟨(-4), xi4, rfl, ⟨hF.trans hfz.symm, ok, trivial, kp5⟩, by first | (subst ht; exact hP) | (rw [ht]; exact hP) | (show va_P (dC, dI) vwCl (wR 157 ad (EX cs ad) xi4) t.heap; rw [ht]; exact hP)⟩, hS.F ht⟩) hS.2.2 dX11_town_32
  · have hF := (if_neg (show ¬ r1 = 0 from fun h => by have h9 := congrArg Int32.toInt h; have h8 : (0 : Int32).toInt = 0 := rfl; omega)).symm.trans hF
    have kp2 : (∀ k f : Nat, Nat.testBit 2 (gpX k f) = true → xi1 k f = mu k f) := kp_t hkp1_0 (by decide) (fun _ _ _ => rfl)
    skip
    refine lv_istore_n (lv' := [(2, .int r1), (0, .ref (ad 0)), (1, .int vt)]) hx hb dX11_town_5 rfl hl (by decide) rfl (fun ls hl => ?_)
    refine lv_iload_n hx hb dX11_town_6 rfl (lv_at hl 0 rfl) ?_
    refine lv_if_eq (tgt := 12) hx hb dX11_town_7 (by decide) (fun c_19 => by have c_19 : r1.toInt = 0 := il_eq c_19; exfalso; omega) (fun c_19 => ?_)
    have c_19 : ¬ r1.toInt = 0 := il_ne c_19
    refine lv_iload_n hx hb dX11_town_10 rfl (lv_at hl 0 rfl) ?_
    exact W.iret (v := r1) hx hb hr (fun t ht hW => ⟨⟨r1, xi1, rfl, ⟨hF.trans hfz.symm, ok, trivial, kp2⟩, by first | (subst ht; exact hP) | (rw [ht]; exact hP) | (show va_P (dC, dI) vwCl (wR 157 ad (EX cs ad) xi1) t.heap; rw [ht]; exact hP)⟩, hS.F ht⟩) hS.2.2 dX11_town_11
