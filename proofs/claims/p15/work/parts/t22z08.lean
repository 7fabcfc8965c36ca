set_option maxHeartbeats 4000000 in
set_option maxRecDepth 100000 in
/-- qm_had -/
theorem qm_had (l : Launch) (dC : Nat → ClassId) (dI : Nat → Nat → Nat) (cs : Nat → ClassId) (ad : Nat → Nat) (mu : Nat → Nat → Int32) (ok : okR loM hiM mu) (H : Heap) (hP : va_P (dC, dI) vwCl (wR 21 ad (EM cs ad) mu) H) (hD0 : va_D (fun _ => True) (wR 21 ad (EM cs ad) mu)) (vx : Int32) (vr : Int32) : Met l yX12_had (wU yX12_had cX12_had 4 (some .int)) ({ frames := 9, cells := 0, slots := 0, locals := 249 }) (va_Pc [.ref (ad 0), .int vx, .int vr] (sz_P (dC, dI) vwCl (tyM cs) H)) (va_Qi (fun (z : Int32) (xi : Nat → Nat → Int32) => okR loM hiM xi ∧ (True) ∧ (∀ k f : Nat, Nat.testBit 510 (gpM k f) = true → xi k f = mu k f)) (fun xi t => va_P (dC, dI) vwCl (wR 21 ad (EM cs ad) xi) t.heap) (va_A (wR 21 ad (EM cs ad) mu) H.size)) 0 0 (va_A (wR 21 ad (EM cs ad) mu) H.size) := by
  refine Met.ofW (cc := cX12_had) (maxL := 4) (ret := (some .int)) (by decide) rfl ?_
  intro p e s m args below meth c s₁ B hml hv
  obtain ⟨rfl, hh, hK, hz⟩ := hv
  have hx := B.exec
  have hb := B.bytes
  have hr := B.returns
  have hts := atoms_spec (ws := (wU yX12_had cX12_had 4 (some .int))) B.pre
  have hown : s.vm.findClass RX12 = some m.cls := findClass_of_methodNamed B.named
  have hlocks := B.notSynchronized
  subst hh
  have hD := hD0.self (sz := s.heap.size)
  have hA : ∀ q : Nat, s.heap.size ≤ q → (va_A (wR 21 ad (EM cs ad) mu) s.heap.size) q := fun q h => Or.inr h
  have hS : va_S (va_A (wR 21 ad (EM cs ad) mu) s.heap.size) s.heap s.heap [] := va_S.rf
  have hl := lv_entry ([.ref (ad 0), .int vx, .int vr]) (n := 4) (Nat.le_of_ble_eq_true rfl)
  rw [lg_entry_eq]
  generalize (lg_sl ([.ref (ad 0), .int vx, .int vr]) ++ List.replicate (4 - (lg_sl ([.ref (ad 0), .int vx, .int vr])).length) Slot.unset).toArray = ls at hl ⊢
  have hl : lv_has ls 4 [(0, .ref (ad 0)), (1, .int vx), (2, .int vr)] := hl
  refine lv_aload_n hx hb dX12_had_0 rfl (lv_at hl 0 rfl) ?_
  refine lv_iload_n hx hb dX12_had_1 rfl (lv_at hl 1 rfl) ?_
  refine lv_iload_n hx hb dX12_had_2 rfl (lv_at hl 2 rfl) ?_
  have hFc := fr_all (wR_D mu hD) hS hA
  refine va_calli (va_runV (As := [.int vx, .int vr]) (rest := []) ⟨hx, hb, hml, hown, hts⟩ (sm_askedHad l dC dI cs ad mu ok s.heap hP ((wR_D mu hD).weaken (fun _ _ _ _ => trivial)) vx vr) (cwV 2 hts (wU_V mw_7_20 mw_7_17 mw_7_19 mw_0_61 mw_1_13) rfl rfl rfl (by decide +kernel) ⟨Nat.le_of_ble_eq_true rfl, Nat.le_of_ble_eq_true rfl⟩) ⟨sz_c, va_recv hK hP (ci := 12) (q0 := 0) rfl (gM_0 cs ad mu), sz_m hK hz⟩ rfl rfl hl.1 rfl (lv_room (Nat.le_of_ble_eq_true rfl)) dX12_had_3 ⟨Nat.zero_le _, Nat.zero_le _⟩) hS (fun q _ h => hFc q h) hFc (fun r1 xi1 t H1 locs ht hvm hw1 hB hz1 hk1 hS => ?_)
  have hP : va_P (dC, dI) vwCl (wR 21 ad (EM cs ad) xi1) H1 := by rw [← ht]; exact hB
  rcases hw1 with ⟨rfl, ok, f1, hkp1_0⟩ | ⟨z1, ok, hkp1_0⟩
  · have kp2 : (∀ k f : Nat, Nat.testBit 510 (gpM k f) = true → xi1 k f = mu k f) := kp_t hkp1_0 (by decide) (fun _ _ _ => rfl)
    have f1 : 0 ≤ vx.toInt ∧ vx.toInt ≤ 6 ∧ 0 ≤ vr.toInt ∧ vr.toInt ≤ 5 ∧ 0 ≤ (xi1 2 vr.toNatClampNeg).toInt ∧ (xi1 2 vr.toNatClampNeg).toInt ≤ 6 := f1
    refine lv_istore_n (lv' := [(3, .int 0), (0, .ref (ad 0)), (1, .int vx), (2, .int vr)]) hx hb dX12_had_6 rfl hl (by decide) rfl (fun ls hl => ?_)
    refine lv_iload_n hx hb dX12_had_7 rfl (lv_at hl 0 rfl) ?_
    refine lv_if_ge (tgt := 15) hx hb dX12_had_8 (by decide) (fun _ => ?_) (fun c => absurd (by decide) c)
    refine lv_aload_n hx hb dX12_had_15 rfl (lv_at hl 1 rfl) ?_
    refine lv_aload_n hx hb dX12_had_16 rfl (lv_at hl 1 rfl) ?_
    refine va_get (D := (dC, dI)) (ci := 12) (v := .int (xi1 0 43)) (C := RX12) (T := TX12) (N := 46) hx hb hts inG12 hown hK hP 0 (gM_0 cs ad xi1) rfl 43 (by decide) (hts _ (List.mem_cons_of_mem _ mw_5_84)) (fun _ h9 => h9) rfl dX12_had_17 ?_
    refine lv_topi (fun y4 ey4 => ?_)
    have by4 : y4.toInt = (xi1 0 43).toInt := congrArg Int32.toInt ey4
    refine lv_aload_n hx hb dX12_had_20 rfl (lv_at hl 1 rfl) ?_
    refine va_get (D := (dC, dI)) (ci := 12) (v := .int (xi1 0 42)) (C := RX12) (T := TX12) (N := 46) hx hb hts inG12 hown hK hP 0 (gM_0 cs ad xi1) rfl 42 (by decide) (hts _ (List.mem_cons_of_mem _ mw_5_83)) (fun _ h9 => h9) rfl dX12_had_21 ?_
    refine lv_topi (fun y5 ey5 => ?_)
    have by5 : y5.toInt = (xi1 0 42).toInt := congrArg Int32.toInt ey5
    have hFc := fr_all (wR_D xi1 hD) hS hA
    refine va_calli (va_runV (As := [.int y4, .int y5]) (rest := []) ⟨hx, hb, hml, hown, hts⟩ (sm_ask l dC dI cs ad xi1 ok H1 hP ((wR_D xi1 hD).weaken (fun _ _ _ _ => trivial)) y4 y5) (cwV 2 hts (wU_V mw_5_213 mw_5_210 mw_5_212 mw_0_30 mw_1_13) rfl rfl rfl (by decide +kernel) ⟨Nat.le_of_ble_eq_true rfl, Nat.le_of_ble_eq_true rfl⟩) ⟨sz_c, va_recv hK hP (ci := 12) (q0 := 0) rfl (gM_0 cs ad xi1), sz_m hK hz⟩ rfl rfl hl.1 rfl (lv_room (Nat.le_of_ble_eq_true rfl)) dX12_had_24 ⟨Nat.zero_le _, Nat.zero_le _⟩) hS (fun q _ h => hFc q h) hFc (fun r6 xi6 t H6 locs ht hvm hw6 hB hz1 hk1 hS => ?_)
    have hP : va_P (dC, dI) vwCl (wR 21 ad (EM cs ad) xi6) H6 := by rw [← ht]; exact hB
    obtain ⟨hfe6, ok, hw6, hkp6_0⟩ := hw6
    have kp7 : (∀ k f : Nat, Nat.testBit 510 (gpM k f) = true → xi6 k f = mu k f) := kp_t hkp6_0 (by decide) kp2
    have gr6 : r6.toInt = y5.toInt := hw6
    exact W.iret (v := r6) hx hb hr (fun t ht hW => ⟨⟨r6, xi6, rfl, ⟨ok, trivial, kp7⟩, by first | (subst ht; exact hP) | (rw [ht]; exact hP) | (show va_P (dC, dI) vwCl (wR 21 ad (EM cs ad) xi6) t.heap; rw [ht]; exact hP)⟩, hS.F ht⟩) hS.2.2 dX12_had_27
  · have kp3 : (∀ k f : Nat, Nat.testBit 510 (gpM k f) = true → xi1 k f = mu k f) := kp_t hkp1_0 (by decide) (fun _ _ _ => rfl)
    skip
    refine lv_istore_n (lv' := [(3, .int r1), (0, .ref (ad 0)), (1, .int vx), (2, .int vr)]) hx hb dX12_had_6 rfl hl (by decide) rfl (fun ls hl => ?_)
    refine lv_iload_n hx hb dX12_had_7 rfl (lv_at hl 0 rfl) ?_
    refine lv_if_ge (tgt := 15) hx hb dX12_had_8 (by decide) (fun c_8 => by have c_8 : 0 ≤ r1.toInt := il_le c_8; exfalso; omega) (fun c_8 => ?_)
    have c_8 : r1.toInt < 0 := il_nle c_8
    refine lv_iload_n hx hb dX12_had_11 rfl (lv_at hl 0 rfl) ?_
    refine lv_goto (tgt := 27) hx hb dX12_had_12 (by decide) ?_
    exact W.iret (v := r1) hx hb hr (fun t ht hW => ⟨⟨r1, xi1, rfl, ⟨ok, trivial, kp3⟩, by first | (subst ht; exact hP) | (rw [ht]; exact hP) | (show va_P (dC, dI) vwCl (wR 21 ad (EM cs ad) xi1) t.heap; rw [ht]; exact hP)⟩, hS.F ht⟩) hS.2.2 dX12_had_27
