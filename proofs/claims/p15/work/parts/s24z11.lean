set_option maxHeartbeats 4000000 in
set_option maxRecDepth 100000 in
/-- qx_sure -/
theorem qx_sure (l : Launch) (dC : Nat → ClassId) (dI : Nat → Nat → Nat) (cs : Nat → ClassId) (ad : Nat → Nat) (mu : Nat → Nat → Int32) (ok : okR loX hiX mu) (H : Heap) (hP : va_P (dC, dI) vwCl (wR 157 ad (EX cs ad) mu) H) (hD0 : va_D (fun _ => True) (wR 157 ad (EX cs ad) mu)) (vx : Int32) (vr : Int32) : Met l yX11_sure (wU yX11_sure cX11_sure 4 (some .int)) ({ frames := 10, cells := 0, slots := 0, locals := 309 }) (va_Pc [.ref (ad 0), .int vx, .int vr] (sz_P (dC, dI) vwCl (tyW cs) H)) (va_Qi (fun (z : Int32) (xi : Nat → Nat → Int32) => okR loX hiX xi ∧ (True) ∧ (∀ k f : Nat, Nat.testBit 510 (gpX k f) = true → xi k f = mu k f)) (fun xi t => va_P (dC, dI) vwCl (wR 157 ad (EX cs ad) xi) t.heap) (va_A (wR 157 ad (EX cs ad) mu) H.size)) 0 0 (va_A (wR 157 ad (EX cs ad) mu) H.size) := by
  refine Met.ofW (cc := cX11_sure) (maxL := 4) (ret := (some .int)) (by decide) rfl ?_
  intro p e s m args below meth c s₁ B hml hv
  obtain ⟨rfl, hh, hK, hz⟩ := hv
  have hx := B.exec
  have hb := B.bytes
  have hr := B.returns
  have hts := atoms_spec (ws := (wU yX11_sure cX11_sure 4 (some .int))) B.pre
  have hown : s.vm.findClass RX11 = some m.cls := findClass_of_methodNamed B.named
  have hlocks := B.notSynchronized
  subst hh
  have hD := hD0.self (sz := s.heap.size)
  have hA : ∀ q : Nat, s.heap.size ≤ q → (va_A (wR 157 ad (EX cs ad) mu) s.heap.size) q := fun q h => Or.inr h
  have hS : va_S (va_A (wR 157 ad (EX cs ad) mu) s.heap.size) s.heap s.heap [] := va_S.rf
  have hl := lv_entry ([.ref (ad 0), .int vx, .int vr]) (n := 4) (Nat.le_of_ble_eq_true rfl)
  rw [lg_entry_eq]
  generalize (lg_sl ([.ref (ad 0), .int vx, .int vr]) ++ List.replicate (4 - (lg_sl ([.ref (ad 0), .int vx, .int vr])).length) Slot.unset).toArray = ls at hl ⊢
  have hl : lv_has ls 4 [(0, .ref (ad 0)), (1, .int vx), (2, .int vr)] := hl
  refine lv_aload_n hx hb dX11_sure_0 rfl (lv_at hl 0 rfl) ?_
  refine lv_iload_n hx hb dX11_sure_1 rfl (lv_at hl 1 rfl) ?_
  refine lv_iload_n hx hb dX11_sure_2 rfl (lv_at hl 2 rfl) ?_
  refine lv_iconst (v := 0) hx hb dX11_sure_3 (by decide) ?_
  have hFc := fr_all (wR_D mu hD) hS hA
  refine va_calli (va_runV (As := [.int vx, .int vr, .int 0]) (rest := []) ⟨hx, hb, hml, hown, hts⟩ (sx_refusedPrices l dC dI cs ad mu ok s.heap hP ((wR_D mu hD).weaken (fun _ _ _ _ => trivial)) vx vr 0) (cwV 3 hts (wU_V mw_4_162 mw_4_159 mw_4_161 mw_0_20 mw_1_1) rfl rfl rfl (by decide +kernel) ⟨Nat.le_of_ble_eq_true rfl, Nat.le_of_ble_eq_true rfl⟩) ⟨sz_c, va_recv hK hP (ci := 11) (q0 := 0) rfl (gX_0 cs ad mu), sz_m hK hz⟩ rfl rfl hl.1 rfl (lv_room (Nat.le_of_ble_eq_true rfl)) dX11_sure_4 ⟨Nat.zero_le _, Nat.zero_le _⟩) hS (fun q _ h => hFc q h) hFc (fun r1 xi1 t H1 locs ht hvm hw1 hB hz1 hk1 hS => ?_)
  have hP : va_P (dC, dI) vwCl (wR 157 ad (EX cs ad) xi1) H1 := by rw [← ht]; exact hB
  rcases hw1 with ⟨rfl, hxi1, f1⟩ | ⟨z1, ok, hkp1_0⟩
  · have hP : va_P (dC, dI) vwCl (wR 157 ad (EX cs ad) mu) H1 := by rw [← hxi1]; exact hP
    have f1 : 0 ≤ vx.toInt ∧ vx.toInt < (mu 4 6).toInt ∧ (mu 4 6).toInt ≤ 7 ∧ 0 ≤ vr.toInt ∧ vr.toInt ≤ 5 ∧ 0 ≤ (mu (8 + vr.toNatClampNeg) 1).toInt ∧ (mu (8 + vr.toNatClampNeg) 1).toInt ≤ 40 ∧ (mu (8 + vr.toNatClampNeg) 1).toInt ≤ 6 ∧ (0 : Int) = 0 := f1
    refine lv_istore_n (lv' := [(3, .int 0), (0, .ref (ad 0)), (1, .int vx), (2, .int vr)]) hx hb dX11_sure_7 rfl hl (by decide) rfl (fun ls hl => ?_)
    refine lv_iload_n hx hb dX11_sure_8 rfl (lv_at hl 0 rfl) ?_
    refine lv_if_eq (tgt := 14) hx hb dX11_sure_9 (by decide) (fun _ => ?_) (fun c => absurd (by decide) c)
    refine lv_aload_n hx hb dX11_sure_14 rfl (lv_at hl 1 rfl) ?_
    refine va_get (D := (dC, dI)) (ci := 11) (v := .ref (ad 33)) (C := RX11) (T := TX11) (N := 11) hx hb hts inG11 hown hK hP 0 (gX_0 cs ad mu) rfl 7 (by decide) (hts _ (List.mem_cons_of_mem _ mw_2_165)) (fun _ h9 => h9) rfl dX11_sure_15 ?_
    refine lv_aload_n hx hb dX11_sure_18 rfl (lv_at hl 1 rfl) ?_
    refine va_get (D := (dC, dI)) (ci := 11) (v := .ref (ad 4)) (C := RX11) (T := TX11) (N := 11) hx hb hts inG11 hown hK hP 0 (gX_0 cs ad mu) rfl 3 (by decide) (hts _ (List.mem_cons_of_mem _ mw_2_161)) (fun _ h9 => h9) rfl dX11_sure_19 ?_
    refine lv_iload_n hx hb dX11_sure_22 rfl (lv_at hl 2 rfl) ?_
    refine lv_aload_n hx hb dX11_sure_23 rfl (lv_at hl 1 rfl) ?_
    refine va_get (D := (dC, dI)) (ci := 11) (v := .ref (ad 1)) (C := RX11) (T := TX11) (N := 11) hx hb hts inG11 hown hK hP 0 (gX_0 cs ad mu) rfl 0 (by decide) (hts _ (List.mem_cons_of_mem _ mw_2_158)) (fun _ h9 => h9) rfl dX11_sure_24 ?_
    refine lv_iload_n hx hb dX11_sure_27 rfl (lv_at hl 3 rfl) ?_
    have hx3 : 0 ≤ vr.toInt ∧ vr.toInt < ((6 : Nat) : Int) := ⟨by omega, by omega⟩
    refine va_aldq hx hb hK hP 1 2 (gX_1 cs ad mu) rfl (show vp_in vr 6 from vi_of hx3.1 hx3.2) dX11_sure_28 ?_
    have hk3 : 8 ≤ (8 + vr.toNatClampNeg) ∧ (8 + vr.toNatClampNeg) < 14 := ix_of hx3
    refine lq_v (.ref (ad (8 + vr.toNatClampNeg))) rfl ?_
    have hFc := fr_all (wR_D mu hD) hS hA
    refine va_callv (va_runV (As := [.ref (ad 4), .int vx, .ref (ad (8 + vr.toNatClampNeg))]) (rest := []) ⟨hx, hb, hml, hown, hts⟩ (sx_search l dC dI cs ad mu ok H1 hP ((wR_D mu hD).weaken (fun _ _ _ _ => trivial)) (8 + vr.toNatClampNeg) hk3.1 hk3.2 vx (by omega)) (cwV 3 hts (wU_V mw_4_166 mw_4_163 mw_4_164 mw_4_165 mw_1_10) rfl rfl rfl (by decide +kernel) ⟨Nat.le_of_ble_eq_true rfl, Nat.le_of_ble_eq_true rfl⟩) ⟨sz_c, va_recv hK hP (ci := 1) (q0 := 33) rfl (gX_33 cs ad mu), sz_m hK hz⟩ rfl rfl hl.1 rfl (lv_room (Nat.le_of_ble_eq_true rfl)) dX11_sure_29 ⟨Nat.zero_le _, Nat.zero_le _⟩) hS (fun q _ h => hFc q h) hFc (fun xi4 t H4 locs ht hvm hw4 hB hz1 hk1 hS => ?_)
    have hP : va_P (dC, dI) vwCl (wR 157 ad (EX cs ad) xi4) H4 := by rw [← ht]; exact hB
    obtain ⟨ok, hw4, hkp4_0, hkp4_1⟩ := hw4
    have kp5 : (∀ k f : Nat, Nat.testBit 510 (gpX k f) = true → xi4 k f = mu k f) := kp_t hkp4_1 (by decide) (fun _ _ _ => rfl)
    refine lv_aload_n hx hb dX11_sure_32 rfl (lv_at hl 1 rfl) ?_
    refine va_get (D := (dC, dI)) (ci := 11) (v := .ref (ad 33)) (C := RX11) (T := TX11) (N := 11) hx hb hts inG11 hown hK hP 0 (gX_0 cs ad xi4) rfl 7 (by decide) (hts _ (List.mem_cons_of_mem _ mw_2_165)) (fun _ h9 => h9) rfl dX11_sure_33 ?_
    refine va_get (D := (dC, dI)) (ci := 1) (v := .int (xi4 33 2)) (C := RX1) (T := TX1) (N := 5) hx hb hts inG1 hown hK hP 33 (gX_33 cs ad xi4) rfl 2 (by decide) (hts _ (List.mem_cons_of_mem _ mw_2_108)) (fun _ h9 => h9) rfl dX11_sure_36 ?_
    refine lv_topi (fun y6 ey6 => ?_)
    have by6 : y6.toInt = (xi4 33 2).toInt := congrArg Int32.toInt ey6
    refine lv_if_ne (tgt := 46) hx hb dX11_sure_39 (by decide) (fun c_7 => ?_) (fun c_7 => ?_)
    · have c_7 : ¬ y6.toInt = 0 := il_ne c_7
      refine lv_aload_n hx hb dX11_sure_46 rfl (lv_at hl 1 rfl) ?_
      refine va_get (D := (dC, dI)) (ci := 11) (v := .ref (ad 33)) (C := RX11) (T := TX11) (N := 11) hx hb hts inG11 hown hK hP 0 (gX_0 cs ad xi4) rfl 7 (by decide) (hts _ (List.mem_cons_of_mem _ mw_2_165)) (fun _ h9 => h9) rfl dX11_sure_47 ?_
      refine va_get (D := (dC, dI)) (ci := 1) (v := .int (xi4 33 4)) (C := RX1) (T := TX1) (N := 5) hx hb hts inG1 hown hK hP 33 (gX_33 cs ad xi4) rfl 4 (by decide) (hts _ (List.mem_cons_of_mem _ mw_2_112)) (fun _ h9 => h9) rfl dX11_sure_50 ?_
      refine lv_topi (fun y8 ey8 => ?_)
      have by8 : y8.toInt = (xi4 33 4).toInt := congrArg Int32.toInt ey8
      exact W.iret (v := y8) hx hb hr (fun t ht hW => ⟨⟨y8, xi4, rfl, ⟨ok, trivial, kp5⟩, by first | (subst ht; exact hP) | (rw [ht]; exact hP) | (show va_P (dC, dI) vwCl (wR 157 ad (EX cs ad) xi4) t.heap; rw [ht]; exact hP)⟩, hS.F ht⟩) hS.2.2 dX11_sure_53
    · have c_7 : y6.toInt = 0 := il_eq c_7
      refine lv_iconst (v := 0) hx hb dX11_sure_42 (by decide) ?_
      refine lv_goto (tgt := 53) hx hb dX11_sure_43 (by decide) ?_
      exact W.iret (v := 0) hx hb hr (fun t ht hW => ⟨⟨0, xi4, rfl, ⟨ok, trivial, kp5⟩, by first | (subst ht; exact hP) | (rw [ht]; exact hP) | (show va_P (dC, dI) vwCl (wR 157 ad (EX cs ad) xi4) t.heap; rw [ht]; exact hP)⟩, hS.F ht⟩) hS.2.2 dX11_sure_53
  · have kp2 : (∀ k f : Nat, Nat.testBit 510 (gpX k f) = true → xi1 k f = mu k f) := kp_t hkp1_0 (by decide) (fun _ _ _ => rfl)
    skip
    refine lv_istore_n (lv' := [(3, .int r1), (0, .ref (ad 0)), (1, .int vx), (2, .int vr)]) hx hb dX11_sure_7 rfl hl (by decide) rfl (fun ls hl => ?_)
    refine lv_iload_n hx hb dX11_sure_8 rfl (lv_at hl 0 rfl) ?_
    refine lv_if_eq (tgt := 14) hx hb dX11_sure_9 (by decide) (fun c_9 => by have c_9 : r1.toInt = 0 := il_eq c_9; exfalso; omega) (fun c_9 => ?_)
    have c_9 : ¬ r1.toInt = 0 := il_ne c_9
    refine lv_iload_n hx hb dX11_sure_12 rfl (lv_at hl 0 rfl) ?_
    exact W.iret (v := r1) hx hb hr (fun t ht hW => ⟨⟨r1, xi1, rfl, ⟨ok, trivial, kp2⟩, by first | (subst ht; exact hP) | (rw [ht]; exact hP) | (show va_P (dC, dI) vwCl (wR 157 ad (EX cs ad) xi1) t.heap; rw [ht]; exact hP)⟩, hS.F ht⟩) hS.2.2 dX11_sure_13
