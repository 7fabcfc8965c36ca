set_option maxHeartbeats 4000000 in
set_option maxRecDepth 100000 in
/-- sx_refusedPlace -/
theorem sx_refusedPlace (l : Launch) (dC : Nat → ClassId) (dI : Nat → Nat → Nat) (cs : Nat → ClassId) (ad : Nat → Nat) (mu : Nat → Nat → Int32) (ok : okR loX hiX mu) (H : Heap) (hP : va_P (dC, dI) vwCl (wR 157 ad (EX cs ad) mu) H) (hD0 : va_D (fun _ => True) (wR 157 ad (EX cs ad) mu)) (vr : Int32) (vi : Int32) : Met l yX11_refusedPlace (wU yX11_refusedPlace cX11_refusedPlace 4 (some .int)) ({ frames := 2, cells := 0, slots := 0, locals := 42 }) (va_Pc [.ref (ad 0), .int vr, .int vi] (sz_P (dC, dI) vwCl (tyW cs) H)) (va_Qi (fun (z : Int32) (xi : Nat → Nat → Int32) => (z = 0 ∧ xi = mu ∧ (0 ≤ vr.toInt ∧ vr.toInt ≤ 5 ∧ 0 ≤ (mu (8 + vr.toNatClampNeg) 1).toInt ∧ (mu (8 + vr.toNatClampNeg) 1).toInt ≤ 40 ∧ 0 ≤ vi.toInt ∧ vi.toInt < (mu (8 + vr.toNatClampNeg) 1).toInt)) ∨ (z.toInt < 0 ∧ okR loX hiX xi ∧ (∀ k f : Nat, Nat.testBit 510 (gpX k f) = true → xi k f = mu k f))) (fun xi t => va_P (dC, dI) vwCl (wR 157 ad (EX cs ad) xi) t.heap) (va_A (wR 157 ad (EX cs ad) mu) H.size)) 0 0 (va_A (wR 157 ad (EX cs ad) mu) H.size) := by
  refine Met.ofW (cc := cX11_refusedPlace) (maxL := 4) (ret := (some .int)) (by decide) rfl ?_
  intro p e s m args below meth c s₁ B hml hv
  obtain ⟨rfl, hh, hK, hz⟩ := hv
  have hx := B.exec
  have hb := B.bytes
  have hr := B.returns
  have hts := atoms_spec (ws := (wU yX11_refusedPlace cX11_refusedPlace 4 (some .int))) B.pre
  have hown : s.vm.findClass RX11 = some m.cls := findClass_of_methodNamed B.named
  have hlocks := B.notSynchronized
  subst hh
  have hD := hD0.self (sz := s.heap.size)
  have hA : ∀ q : Nat, s.heap.size ≤ q → (va_A (wR 157 ad (EX cs ad) mu) s.heap.size) q := fun q h => Or.inr h
  have hS : va_S (va_A (wR 157 ad (EX cs ad) mu) s.heap.size) s.heap s.heap [] := va_S.rf
  have hl := lv_entry ([.ref (ad 0), .int vr, .int vi]) (n := 4) (Nat.le_of_ble_eq_true rfl)
  rw [lg_entry_eq]
  generalize (lg_sl ([.ref (ad 0), .int vr, .int vi]) ++ List.replicate (4 - (lg_sl ([.ref (ad 0), .int vr, .int vi])).length) Slot.unset).toArray = ls at hl ⊢
  have hl : lv_has ls 4 [(0, .ref (ad 0)), (1, .int vr), (2, .int vi)] := hl
  refine lv_aload_n hx hb dX11_refusedPlace_0 rfl (lv_at hl 0 rfl) ?_
  refine lv_iload_n hx hb dX11_refusedPlace_1 rfl (lv_at hl 1 rfl) ?_
  have hFc := fr_all (wR_D mu hD) hS hA
  refine va_calli (va_runV (As := [.int vr]) (rest := []) ⟨hx, hb, hml, hown, hts⟩ (sx_refusedRow l dC dI cs ad mu ok s.heap hP ((wR_D mu hD).weaken (fun _ _ _ _ => trivial)) vr) (cwV 1 hts (wU_V mw_2_221 mw_2_218 mw_2_220 mw_0_2 mw_1_1) rfl rfl rfl (by decide +kernel) ⟨Nat.le_of_ble_eq_true rfl, Nat.le_of_ble_eq_true rfl⟩) ⟨sz_c, va_recv hK hP (ci := 11) (q0 := 0) rfl (gX_0 cs ad mu), sz_m hK hz⟩ rfl rfl hl.1 rfl (lv_room (Nat.le_of_ble_eq_true rfl)) dX11_refusedPlace_2 ⟨Nat.zero_le _, Nat.zero_le _⟩) hS (fun q _ h => hFc q h) hFc (fun r1 xi1 t H1 locs ht hvm hw1 hB hz1 hk1 hS => ?_)
  have hP : va_P (dC, dI) vwCl (wR 157 ad (EX cs ad) xi1) H1 := by rw [← ht]; exact hB
  obtain ⟨hfe1, hw1⟩ := hw1
  rcases hw1 with ⟨rfl, hxi1, f1⟩ | ⟨z1, ok, hkp1_0⟩
  · have hP : va_P (dC, dI) vwCl (wR 157 ad (EX cs ad) mu) H1 := by rw [← hxi1]; exact hP
    have f1 : 0 ≤ vr.toInt ∧ vr.toInt ≤ 5 ∧ 0 ≤ (mu (8 + vr.toNatClampNeg) 1).toInt := f1
    refine lv_istore_n (lv' := [(3, .int 0), (0, .ref (ad 0)), (1, .int vr), (2, .int vi)]) hx hb dX11_refusedPlace_5 rfl hl (by decide) rfl (fun ls hl => ?_)
    refine lv_iload_n hx hb dX11_refusedPlace_6 rfl (lv_at hl 0 rfl) ?_
    refine lv_if_eq (tgt := 12) hx hb dX11_refusedPlace_7 (by decide) (fun _ => ?_) (fun c => absurd (by decide) c)
    refine lv_iload_n hx hb dX11_refusedPlace_12 rfl (lv_at hl 3 rfl) ?_
    refine lv_if_lt (tgt := 29) hx hb dX11_refusedPlace_13 (by decide) (fun c_3 => ?_) (fun c_3 => ?_)
    · have c_3 : vi.toInt < 0 := il_lt c_3
      refine lv_aload_n hx hb dX11_refusedPlace_29 rfl (lv_at hl 1 rfl) ?_
      refine lv_iconst (v := 2) hx hb dX11_refusedPlace_30 (by decide) ?_
      have hFc := fr_all (wR_D mu hD) hS hA
      refine va_calli (va_runV (As := [.int 2]) (rest := []) ⟨hx, hb, hml, hown, hts⟩ (sx_found l dC dI cs ad mu ok H1 hP ((wR_D mu hD).weaken (fun _ _ _ _ => trivial)) 2 (by have h50 : (2 : Int32).toInt = 2 := rfl; omega)) (cwV 1 hts (wU_V mw_2_202 mw_2_199 mw_2_201 mw_0_0 mw_1_1) rfl rfl rfl (by decide +kernel) ⟨Nat.le_of_ble_eq_true rfl, Nat.le_of_ble_eq_true rfl⟩) ⟨sz_c, va_recv hK hP (ci := 11) (q0 := 0) rfl (gX_0 cs ad mu), sz_m hK hz⟩ rfl rfl hl.1 rfl (lv_room (Nat.le_of_ble_eq_true rfl)) dX11_refusedPlace_31 ⟨Nat.zero_le _, Nat.zero_le _⟩) hS (fun q _ h => hFc q h) hFc (fun r4 xi4 t H4 locs ht hvm hw4 hB hz1 hk1 hS => ?_)
      have hP : va_P (dC, dI) vwCl (wR 157 ad (EX cs ad) xi4) H4 := by rw [← ht]; exact hB
      obtain ⟨hfe4, ok, hw4, hkp4_0⟩ := hw4
      have kp5 : (∀ k f : Nat, Nat.testBit 510 (gpX k f) = true → xi4 k f = mu k f) := kp_t hkp4_0 (by decide) (fun _ _ _ => rfl)
      have gr4 : -3 ≤ r4.toInt ∧ r4.toInt ≤ -3 := hw4
      refine lv_goto (tgt := 38) hx hb dX11_refusedPlace_34 (by decide) ?_
      exact W.iret (v := r4) hx hb hr (fun t ht hW => ⟨⟨r4, xi4, rfl, Or.inr ⟨by omega, ok, kp5⟩, by first | (subst ht; exact hP) | (rw [ht]; exact hP) | (show va_P (dC, dI) vwCl (wR 157 ad (EX cs ad) xi4) t.heap; rw [ht]; exact hP)⟩, hS.F ht⟩) hS.2.2 dX11_refusedPlace_38
    · have c_3 : 0 ≤ vi.toInt := il_nlt c_3
      refine lv_iload_n hx hb dX11_refusedPlace_16 rfl (lv_at hl 3 rfl) ?_
      refine lv_aload_n hx hb dX11_refusedPlace_17 rfl (lv_at hl 1 rfl) ?_
      refine va_get (D := (dC, dI)) (ci := 11) (v := .ref (ad 1)) (C := RX11) (T := TX11) (N := 11) hx hb hts inG11 hown hK hP 0 (gX_0 cs ad mu) rfl 0 (by decide) (hts _ (List.mem_cons_of_mem _ mw_2_158)) (fun _ h9 => h9) rfl dX11_refusedPlace_18 ?_
      refine lv_iload_n hx hb dX11_refusedPlace_21 rfl (lv_at hl 2 rfl) ?_
      have hx6 : 0 ≤ vr.toInt ∧ vr.toInt < ((6 : Nat) : Int) := ⟨by omega, by omega⟩
      refine va_aldq hx hb hK hP 1 2 (gX_1 cs ad mu) rfl (show vp_in vr 6 from vi_of hx6.1 hx6.2) dX11_refusedPlace_22 ?_
      have hk6 : 8 ≤ (8 + vr.toNatClampNeg) ∧ (8 + vr.toNatClampNeg) < 14 := ix_of hx6
      refine lq_v (.ref (ad (8 + vr.toNatClampNeg))) rfl ?_
      refine va_get (D := (dC, dI)) (ci := 6) (v := .int (mu (8 + vr.toNatClampNeg) 1)) (C := RX6) (T := TX6) (N := 2) hx hb hts inG6 hown hK hP (8 + vr.toNatClampNeg) (gX_row cs ad mu (8 + vr.toNatClampNeg) hk6.1 hk6.2) rfl 1 (by decide) (hts _ (List.mem_cons_of_mem _ mw_2_134)) (fun _ h9 => h9) rfl dX11_refusedPlace_23 ?_
      refine lv_topi (fun y7 ey7 => ?_)
      have by7 : y7.toInt = (mu (8 + vr.toNatClampNeg) 1).toInt := congrArg Int32.toInt ey7
      have gy7 : -1 ≤ y7.toInt ∧ y7.toInt ≤ 40 := by rw [ey7]; exact rX_row_1 ok (8 + vr.toNatClampNeg) hk6.1 hk6.2
      refine lv_icmp_lt (tgt := 37) hx hb dX11_refusedPlace_26 (by decide) (fun c_8 => ?_) (fun c_8 => ?_)
      · have c_8 : vi.toInt < y7.toInt := il_lt c_8
        refine lv_iconst (v := 0) hx hb dX11_refusedPlace_37 (by decide) ?_
        exact W.iret (v := 0) hx hb hr (fun t ht hW => ⟨⟨0, mu, rfl, Or.inl ⟨rfl, rfl, (by first | assumption | (have hb9 := congrArg Int32.toInt ey7; omega))⟩, by first | (subst ht; exact hP) | (rw [ht]; exact hP) | (show va_P (dC, dI) vwCl (wR 157 ad (EX cs ad) mu) t.heap; rw [ht]; exact hP)⟩, hS.F ht⟩) hS.2.2 dX11_refusedPlace_38
      · have c_8 : y7.toInt ≤ vi.toInt := il_nlt c_8
        refine lv_aload_n hx hb dX11_refusedPlace_29 rfl (lv_at hl 1 rfl) ?_
        refine lv_iconst (v := 2) hx hb dX11_refusedPlace_30 (by decide) ?_
        have hFc := fr_all (wR_D mu hD) hS hA
        refine va_calli (va_runV (As := [.int 2]) (rest := []) ⟨hx, hb, hml, hown, hts⟩ (sx_found l dC dI cs ad mu ok H1 hP ((wR_D mu hD).weaken (fun _ _ _ _ => trivial)) 2 (by have h50 : (2 : Int32).toInt = 2 := rfl; omega)) (cwV 1 hts (wU_V mw_2_202 mw_2_199 mw_2_201 mw_0_0 mw_1_1) rfl rfl rfl (by decide +kernel) ⟨Nat.le_of_ble_eq_true rfl, Nat.le_of_ble_eq_true rfl⟩) ⟨sz_c, va_recv hK hP (ci := 11) (q0 := 0) rfl (gX_0 cs ad mu), sz_m hK hz⟩ rfl rfl hl.1 rfl (lv_room (Nat.le_of_ble_eq_true rfl)) dX11_refusedPlace_31 ⟨Nat.zero_le _, Nat.zero_le _⟩) hS (fun q _ h => hFc q h) hFc (fun r10 xi10 t H10 locs ht hvm hw10 hB hz1 hk1 hS => ?_)
        have hP : va_P (dC, dI) vwCl (wR 157 ad (EX cs ad) xi10) H10 := by rw [← ht]; exact hB
        obtain ⟨hfe10, ok, hw10, hkp10_0⟩ := hw10
        have kp11 : (∀ k f : Nat, Nat.testBit 510 (gpX k f) = true → xi10 k f = mu k f) := kp_t hkp10_0 (by decide) (fun _ _ _ => rfl)
        have gr10 : -3 ≤ r10.toInt ∧ r10.toInt ≤ -3 := hw10
        refine lv_goto (tgt := 38) hx hb dX11_refusedPlace_34 (by decide) ?_
        exact W.iret (v := r10) hx hb hr (fun t ht hW => ⟨⟨r10, xi10, rfl, Or.inr ⟨by omega, ok, kp11⟩, by first | (subst ht; exact hP) | (rw [ht]; exact hP) | (show va_P (dC, dI) vwCl (wR 157 ad (EX cs ad) xi10) t.heap; rw [ht]; exact hP)⟩, hS.F ht⟩) hS.2.2 dX11_refusedPlace_38
  · have kp2 : (∀ k f : Nat, Nat.testBit 510 (gpX k f) = true → xi1 k f = mu k f) := kp_t hkp1_0 (by decide) (fun _ _ _ => rfl)
    skip
    refine lv_istore_n (lv' := [(3, .int r1), (0, .ref (ad 0)), (1, .int vr), (2, .int vi)]) hx hb dX11_refusedPlace_5 rfl hl (by decide) rfl (fun ls hl => ?_)
    refine lv_iload_n hx hb dX11_refusedPlace_6 rfl (lv_at hl 0 rfl) ?_
    refine lv_if_eq (tgt := 12) hx hb dX11_refusedPlace_7 (by decide) (fun c_12 => by have c_12 : r1.toInt = 0 := il_eq c_12; exfalso; omega) (fun c_12 => ?_)
    have c_12 : ¬ r1.toInt = 0 := il_ne c_12
    refine lv_iload_n hx hb dX11_refusedPlace_10 rfl (lv_at hl 0 rfl) ?_
    exact W.iret (v := r1) hx hb hr (fun t ht hW => ⟨⟨r1, xi1, rfl, Or.inr ⟨by omega, ok, kp2⟩, by first | (subst ht; exact hP) | (rw [ht]; exact hP) | (show va_P (dC, dI) vwCl (wR 157 ad (EX cs ad) xi1) t.heap; rw [ht]; exact hP)⟩, hS.F ht⟩) hS.2.2 dX11_refusedPlace_11
set_option maxHeartbeats 4000000 in
set_option maxRecDepth 100000 in
/-- sx_refusedLetter -/
theorem sx_refusedLetter (l : Launch) (dC : Nat → ClassId) (dI : Nat → Nat → Nat) (cs : Nat → ClassId) (ad : Nat → Nat) (mu : Nat → Nat → Int32) (ok : okR loX hiX mu) (H : Heap) (hP : va_P (dC, dI) vwCl (wR 157 ad (EX cs ad) mu) H) (hD0 : va_D (fun _ => True) (wR 157 ad (EX cs ad) mu)) (vk : Int32) (vb : Int32) : Met l yX11_refusedLetter (wU yX11_refusedLetter cX11_refusedLetter 3 (some .int)) ({ frames := 1, cells := 0, slots := 0, locals := 21 }) (va_Pc [.ref (ad 0), .int vk, .int vb] (sz_P (dC, dI) vwCl (tyW cs) H)) (va_Qi (fun (z : Int32) (xi : Nat → Nat → Int32) => (z, xi) = F_sx_refusedLetter mu vk vb ∧ ((z = 0 ∧ xi = mu ∧ (0 ≤ vk.toInt ∧ vk.toInt < (mu 5 4).toInt ∧ (mu 5 4).toInt ≤ 4 ∧ vb.toInt = 0)) ∨ (z.toInt < 0 ∧ okR loX hiX xi ∧ (∀ k f : Nat, Nat.testBit 510 (gpX k f) = true → xi k f = mu k f)))) (fun xi t => va_P (dC, dI) vwCl (wR 157 ad (EX cs ad) xi) t.heap) (va_A (wR 157 ad (EX cs ad) mu) H.size)) 0 0 (va_A (wR 157 ad (EX cs ad) mu) H.size) := by
  refine Met.ofW (cc := cX11_refusedLetter) (maxL := 3) (ret := (some .int)) (by decide) rfl ?_
  intro p e s m args below meth c s₁ B hml hv
  obtain ⟨rfl, hh, hK, hz⟩ := hv
  have hx := B.exec
  have hb := B.bytes
  have hr := B.returns
  have hts := atoms_spec (ws := (wU yX11_refusedLetter cX11_refusedLetter 3 (some .int))) B.pre
  have hown : s.vm.findClass RX11 = some m.cls := findClass_of_methodNamed B.named
  have hlocks := B.notSynchronized
  subst hh
  have hD := hD0.self (sz := s.heap.size)
  have hA : ∀ q : Nat, s.heap.size ≤ q → (va_A (wR 157 ad (EX cs ad) mu) s.heap.size) q := fun q h => Or.inr h
  have hS : va_S (va_A (wR 157 ad (EX cs ad) mu) s.heap.size) s.heap s.heap [] := va_S.rf
  have hl := lv_entry ([.ref (ad 0), .int vk, .int vb]) (n := 3) (Nat.le_of_ble_eq_true rfl)
  rw [lg_entry_eq]
  generalize (lg_sl ([.ref (ad 0), .int vk, .int vb]) ++ List.replicate (3 - (lg_sl ([.ref (ad 0), .int vk, .int vb])).length) Slot.unset).toArray = ls at hl ⊢
  have hl : lv_has ls 3 [(0, .ref (ad 0)), (1, .int vk), (2, .int vb)] := hl
  obtain ⟨fz, hfz⟩ : ∃ z, F_sx_refusedLetter mu vk vb = z := ⟨_, rfl⟩
  have hF := hfz
  unfold F_sx_refusedLetter at hF
  refine lv_iload_n hx hb dX11_refusedLetter_0 rfl (lv_at hl 1 rfl) ?_
  refine lv_if_lt (tgt := 8) hx hb dX11_refusedLetter_1 (by decide) (fun c_1 => ?_) (fun c_1 => ?_)
  · have hF := (if_pos c_1).symm.trans hF
    have c_1 : vk.toInt < 0 := il_lt c_1
    refine lv_iconst (v := (-1)) hx hb dX11_refusedLetter_8 (by decide) ?_
    exact W.iret (v := (-1)) hx hb hr (fun t ht hW => ⟨⟨(-1), mu, rfl, ⟨hF.trans hfz.symm, Or.inr ⟨by decide, ok, (fun _ _ _ => rfl)⟩⟩, by first | (subst ht; exact hP) | (rw [ht]; exact hP) | (show va_P (dC, dI) vwCl (wR 157 ad (EX cs ad) mu) t.heap; rw [ht]; exact hP)⟩, hS.F ht⟩) hS.2.2 dX11_refusedLetter_9
  · have hF := (if_neg c_1).symm.trans hF
    have c_1 : 0 ≤ vk.toInt := il_nlt c_1
    refine lv_iload_n hx hb dX11_refusedLetter_4 rfl (lv_at hl 2 rfl) ?_
    refine lv_if_eq (tgt := 10) hx hb dX11_refusedLetter_5 (by decide) (fun c_2 => ?_) (fun c_2 => ?_)
    · have hF := (if_pos c_2).symm.trans hF
      have c_2 : vb.toInt = 0 := il_eq c_2
      refine lv_iload_n hx hb dX11_refusedLetter_10 rfl (lv_at hl 1 rfl) ?_
      refine lv_aload_n hx hb dX11_refusedLetter_11 rfl (lv_at hl 0 rfl) ?_
      refine va_get (D := (dC, dI)) (ci := 11) (v := .ref (ad 4)) (C := RX11) (T := TX11) (N := 11) hx hb hts inG11 hown hK hP 0 (gX_0 cs ad mu) rfl 3 (by decide) (hts _ (List.mem_cons_of_mem _ mw_2_161)) (fun _ h9 => h9) rfl dX11_refusedLetter_12 ?_
      refine va_get (D := (dC, dI)) (ci := 10) (v := .ref (ad 5)) (C := RX10) (T := TX10) (N := 8) hx hb hts inG10 hown hK hP 4 (gX_4 cs ad mu) rfl 3 (by decide) (hts _ (List.mem_cons_of_mem _ mw_1_157)) (fun _ h9 => h9) rfl dX11_refusedLetter_15 ?_
      refine va_get (D := (dC, dI)) (ci := 8) (v := .int (mu 5 4)) (C := RX8) (T := TX8) (N := 6) hx hb hts inG8 hown hK hP 5 (gX_5 cs ad mu) rfl 4 (by decide) (hts _ (List.mem_cons_of_mem _ mw_1_128)) (fun _ h9 => h9) rfl dX11_refusedLetter_18 ?_
      refine lv_topi (fun y3 ey3 => ?_)
      have hF := mi_let hF ey3
      have by3 : y3.toInt = (mu 5 4).toInt := congrArg Int32.toInt ey3
      have gy3 : 0 ≤ y3.toInt ∧ y3.toInt ≤ 4 := by rw [ey3]; exact rX_5_4 ok
      refine lv_icmp_lt (tgt := 32) hx hb dX11_refusedLetter_21 (by decide) (fun c_4 => ?_) (fun c_4 => ?_)
      · have hF := (if_pos c_4).symm.trans hF
        have c_4 : vk.toInt < y3.toInt := il_lt c_4
        refine lv_iconst (v := 0) hx hb dX11_refusedLetter_32 (by decide) ?_
        exact W.iret (v := 0) hx hb hr (fun t ht hW => ⟨⟨0, mu, rfl, ⟨hF.trans hfz.symm, Or.inl ⟨rfl, rfl, (by first | assumption | (have hb5 := congrArg Int32.toInt ey3; omega))⟩⟩, by first | (subst ht; exact hP) | (rw [ht]; exact hP) | (show va_P (dC, dI) vwCl (wR 157 ad (EX cs ad) mu) t.heap; rw [ht]; exact hP)⟩, hS.F ht⟩) hS.2.2 dX11_refusedLetter_33
      · have hF := (if_neg c_4).symm.trans hF
        have c_4 : y3.toInt ≤ vk.toInt := il_nlt c_4
        refine lv_aload_n hx hb dX11_refusedLetter_24 rfl (lv_at hl 0 rfl) ?_
        refine lv_iconst (v := 2) hx hb dX11_refusedLetter_25 (by decide) ?_
        have hFc := fr_all (wR_D mu hD) hS hA
        refine va_calli (va_runV (As := [.int 2]) (rest := []) ⟨hx, hb, hml, hown, hts⟩ (sx_found l dC dI cs ad mu ok s.heap hP ((wR_D mu hD).weaken (fun _ _ _ _ => trivial)) 2 (by have h50 : (2 : Int32).toInt = 2 := rfl; omega)) (cwV 1 hts (wU_V mw_2_202 mw_2_199 mw_2_201 mw_0_0 mw_1_1) rfl rfl rfl (by decide +kernel) ⟨Nat.le_of_ble_eq_true rfl, Nat.le_of_ble_eq_true rfl⟩) ⟨sz_c, va_recv hK hP (ci := 11) (q0 := 0) rfl (gX_0 cs ad mu), sz_m hK hz⟩ rfl rfl hl.1 rfl (lv_room (Nat.le_of_ble_eq_true rfl)) dX11_refusedLetter_26 ⟨Nat.zero_le _, Nat.zero_le _⟩) hS (fun q _ h => hFc q h) hFc (fun r6 xi6 t H6 locs ht hvm hw6 hB hz1 hk1 hS => ?_)
        have hP : va_P (dC, dI) vwCl (wR 157 ad (EX cs ad) xi6) H6 := by rw [← ht]; exact hB
        obtain ⟨hfe6, ok, hw6, hkp6_0⟩ := hw6
        have hF := mi_letp hF hfe6
        have kp7 : (∀ k f : Nat, Nat.testBit 510 (gpX k f) = true → xi6 k f = mu k f) := kp_t hkp6_0 (by decide) (fun _ _ _ => rfl)
        have gr6 : -3 ≤ r6.toInt ∧ r6.toInt ≤ -3 := hw6
        refine lv_goto (tgt := 33) hx hb dX11_refusedLetter_29 (by decide) ?_
        exact W.iret (v := r6) hx hb hr (fun t ht hW => ⟨⟨r6, xi6, rfl, ⟨hF.trans hfz.symm, Or.inr ⟨by omega, ok, kp7⟩⟩, by first | (subst ht; exact hP) | (rw [ht]; exact hP) | (show va_P (dC, dI) vwCl (wR 157 ad (EX cs ad) xi6) t.heap; rw [ht]; exact hP)⟩, hS.F ht⟩) hS.2.2 dX11_refusedLetter_33
    · have hF := (if_neg c_2).symm.trans hF
      have c_2 : ¬ vb.toInt = 0 := il_ne c_2
      refine lv_iconst (v := (-1)) hx hb dX11_refusedLetter_8 (by decide) ?_
      exact W.iret (v := (-1)) hx hb hr (fun t ht hW => ⟨⟨(-1), mu, rfl, ⟨hF.trans hfz.symm, Or.inr ⟨by decide, ok, (fun _ _ _ => rfl)⟩⟩, by first | (subst ht; exact hP) | (rw [ht]; exact hP) | (show va_P (dC, dI) vwCl (wR 157 ad (EX cs ad) mu) t.heap; rw [ht]; exact hP)⟩, hS.F ht⟩) hS.2.2 dX11_refusedLetter_9
set_option maxHeartbeats 4000000 in
set_option maxRecDepth 100000 in
/-- sx_refusedRoute -/
theorem sx_refusedRoute (l : Launch) (dC : Nat → ClassId) (dI : Nat → Nat → Nat) (cs : Nat → ClassId) (ad : Nat → Nat) (mu : Nat → Nat → Int32) (ok : okR loX hiX mu) (H : Heap) (hP : va_P (dC, dI) vwCl (wR 157 ad (EX cs ad) mu) H) (hD0 : va_D (fun _ => True) (wR 157 ad (EX cs ad) mu)) (vk : Int32) (vb : Int32) : Met l yX11_refusedRoute (wU yX11_refusedRoute cX11_refusedRoute 4 (some .int)) ({ frames := 2, cells := 0, slots := 0, locals := 43 }) (va_Pc [.ref (ad 0), .int vk, .int vb] (sz_P (dC, dI) vwCl (tyW cs) H)) (va_Qi (fun (z : Int32) (xi : Nat → Nat → Int32) => (z, xi) = F_sx_refusedRoute mu vk vb ∧ ((z = 0 ∧ xi = mu ∧ (0 ≤ vk.toInt ∧ vk.toInt < (mu 5 4).toInt ∧ (mu 5 4).toInt ≤ 4 ∧ vb.toInt = 0)) ∨ (z.toInt < 0 ∧ okR loX hiX xi ∧ (∀ k f : Nat, Nat.testBit 510 (gpX k f) = true → xi k f = mu k f)))) (fun xi t => va_P (dC, dI) vwCl (wR 157 ad (EX cs ad) xi) t.heap) (va_A (wR 157 ad (EX cs ad) mu) H.size)) 0 0 (va_A (wR 157 ad (EX cs ad) mu) H.size) := by
  refine Met.ofW (cc := cX11_refusedRoute) (maxL := 4) (ret := (some .int)) (by decide) rfl ?_
  intro p e s m args below meth c s₁ B hml hv
  obtain ⟨rfl, hh, hK, hz⟩ := hv
  have hx := B.exec
  have hb := B.bytes
  have hr := B.returns
  have hts := atoms_spec (ws := (wU yX11_refusedRoute cX11_refusedRoute 4 (some .int))) B.pre
  have hown : s.vm.findClass RX11 = some m.cls := findClass_of_methodNamed B.named
  have hlocks := B.notSynchronized
  subst hh
  have hD := hD0.self (sz := s.heap.size)
  have hA : ∀ q : Nat, s.heap.size ≤ q → (va_A (wR 157 ad (EX cs ad) mu) s.heap.size) q := fun q h => Or.inr h
  have hS : va_S (va_A (wR 157 ad (EX cs ad) mu) s.heap.size) s.heap s.heap [] := va_S.rf
  have hl := lv_entry ([.ref (ad 0), .int vk, .int vb]) (n := 4) (Nat.le_of_ble_eq_true rfl)
  rw [lg_entry_eq]
  generalize (lg_sl ([.ref (ad 0), .int vk, .int vb]) ++ List.replicate (4 - (lg_sl ([.ref (ad 0), .int vk, .int vb])).length) Slot.unset).toArray = ls at hl ⊢
  have hl : lv_has ls 4 [(0, .ref (ad 0)), (1, .int vk), (2, .int vb)] := hl
  obtain ⟨fz, hfz⟩ : ∃ z, F_sx_refusedRoute mu vk vb = z := ⟨_, rfl⟩
  have hF := hfz
  unfold F_sx_refusedRoute at hF
  refine lv_aload_n hx hb dX11_refusedRoute_0 rfl (lv_at hl 0 rfl) ?_
  refine lv_iload_n hx hb dX11_refusedRoute_1 rfl (lv_at hl 1 rfl) ?_
  refine lv_iload_n hx hb dX11_refusedRoute_2 rfl (lv_at hl 2 rfl) ?_
  have hFc := fr_all (wR_D mu hD) hS hA
  refine va_calli (va_runV (As := [.int vk, .int vb]) (rest := []) ⟨hx, hb, hml, hown, hts⟩ (sx_refusedLetter l dC dI cs ad mu ok s.heap hP ((wR_D mu hD).weaken (fun _ _ _ _ => trivial)) vk vb) (cwV 2 hts (wU_V mw_3_157 mw_3_154 mw_3_156 mw_0_8 mw_1_1) rfl rfl rfl (by decide +kernel) ⟨Nat.le_of_ble_eq_true rfl, Nat.le_of_ble_eq_true rfl⟩) ⟨sz_c, va_recv hK hP (ci := 11) (q0 := 0) rfl (gX_0 cs ad mu), sz_m hK hz⟩ rfl rfl hl.1 rfl (lv_room (Nat.le_of_ble_eq_true rfl)) dX11_refusedRoute_3 ⟨Nat.zero_le _, Nat.zero_le _⟩) hS (fun q _ h => hFc q h) hFc (fun r1 xi1 t H1 locs ht hvm hw1 hB hz1 hk1 hS => ?_)
  have hP : va_P (dC, dI) vwCl (wR 157 ad (EX cs ad) xi1) H1 := by rw [← ht]; exact hB
  obtain ⟨hfe1, hw1⟩ := hw1
  have hF := mi_letp hF hfe1
  rcases hw1 with ⟨rfl, hxi1, f1⟩ | ⟨z1, ok, hkp1_0⟩
  · have hF := (if_pos rfl).symm.trans hF
    have hP : va_P (dC, dI) vwCl (wR 157 ad (EX cs ad) mu) H1 := by rw [← hxi1]; exact hP
    have f1 : 0 ≤ vk.toInt ∧ vk.toInt < (mu 5 4).toInt ∧ (mu 5 4).toInt ≤ 4 ∧ vb.toInt = 0 := f1
    refine lv_istore_n (lv' := [(3, .int 0), (0, .ref (ad 0)), (1, .int vk), (2, .int vb)]) hx hb dX11_refusedRoute_6 rfl hl (by decide) rfl (fun ls hl => ?_)
    refine lv_iload_n hx hb dX11_refusedRoute_7 rfl (lv_at hl 0 rfl) ?_
    refine lv_if_eq (tgt := 13) hx hb dX11_refusedRoute_8 (by decide) (fun _ => ?_) (fun c => absurd (by decide) c)
    refine lv_aload_n hx hb dX11_refusedRoute_13 rfl (lv_at hl 1 rfl) ?_
    refine va_get (D := (dC, dI)) (ci := 11) (v := .ref (ad 4)) (C := RX11) (T := TX11) (N := 11) hx hb hts inG11 hown hK hP 0 (gX_0 cs ad mu) rfl 3 (by decide) (hts _ (List.mem_cons_of_mem _ mw_2_161)) (fun _ h9 => h9) rfl dX11_refusedRoute_14 ?_
    refine va_get (D := (dC, dI)) (ci := 10) (v := .ref (ad 5)) (C := RX10) (T := TX10) (N := 8) hx hb hts inG10 hown hK hP 4 (gX_4 cs ad mu) rfl 3 (by decide) (hts _ (List.mem_cons_of_mem _ mw_1_157)) (fun _ h9 => h9) rfl dX11_refusedRoute_17 ?_
    refine va_get (D := (dC, dI)) (ci := 8) (v := .ref (ad 47)) (C := RX8) (T := TX8) (N := 6) hx hb hts inG8 hown hK hP 5 (gX_5 cs ad mu) rfl 1 (by decide) (hts _ (List.mem_cons_of_mem _ mw_1_112)) (fun _ h9 => h9) rfl dX11_refusedRoute_20 ?_
    refine lv_iload_n hx hb dX11_refusedRoute_23 rfl (lv_at hl 2 rfl) ?_
    have hx3 : 0 ≤ vk.toInt ∧ vk.toInt < ((4 : Nat) : Int) := ⟨by omega, by omega⟩
    refine va_aldq hx hb hK hP 47 5 (gX_47 cs ad mu) rfl (show vp_in vk 4 from vi_of hx3.1 hx3.2) dX11_refusedRoute_24 ?_
    have hk3 : 61 ≤ (61 + vk.toNatClampNeg) ∧ (61 + vk.toNatClampNeg) < 65 := ix_of hx3
    have hk3 : 61 ≤ (61 + vk.toNatClampNeg) ∧ (61 + vk.toNatClampNeg) < 77 := ⟨Nat.le_trans (by decide) hk3.1, Nat.lt_of_lt_of_le hk3.2 (by decide)⟩
    refine lq_v (.ref (ad (61 + vk.toNatClampNeg))) rfl ?_
    refine va_get (D := (dC, dI)) (ci := 3) (v := .int (mu (61 + vk.toNatClampNeg) 9)) (C := RX3) (T := TX3) (N := 10) hx hb hts inG3 hown hK hP (61 + vk.toNatClampNeg) (gX_letter cs ad mu (61 + vk.toNatClampNeg) hk3.1 hk3.2) rfl 9 (by decide) (hts _ (List.mem_cons_of_mem _ mw_1_80)) (fun _ h9 => h9) rfl dX11_refusedRoute_25 ?_
    refine lv_topi (fun y4 ey4 => ?_)
    have hF := mi_let hF ey4
    have by4 : y4.toInt = (mu (61 + vk.toNatClampNeg) 9).toInt := congrArg Int32.toInt ey4
    have gy4 : 0 ≤ y4.toInt ∧ y4.toInt ≤ 1 := by rw [ey4]; exact rX_letter_9 ok (61 + vk.toNatClampNeg) hk3.1 hk3.2
    refine lv_if_eq (tgt := 36) hx hb dX11_refusedRoute_28 (by decide) (fun c_5 => ?_) (fun c_5 => ?_)
    · have hF := (if_pos c_5).symm.trans hF
      have c_5 : y4.toInt = 0 := il_eq c_5
      refine lv_iconst (v := 0) hx hb dX11_refusedRoute_36 (by decide) ?_
      exact W.iret (v := 0) hx hb hr (fun t ht hW => ⟨⟨0, mu, rfl, ⟨hF.trans hfz.symm, Or.inl ⟨rfl, rfl, (by omega)⟩⟩, by first | (subst ht; exact hP) | (rw [ht]; exact hP) | (show va_P (dC, dI) vwCl (wR 157 ad (EX cs ad) mu) t.heap; rw [ht]; exact hP)⟩, hS.F ht⟩) hS.2.2 dX11_refusedRoute_37
    · have hF := (if_neg c_5).symm.trans hF
      have c_5 : ¬ y4.toInt = 0 := il_ne c_5
      refine lv_bipush (v := (-4)) hx hb dX11_refusedRoute_31 (by decide) ?_
      refine lv_goto (tgt := 37) hx hb dX11_refusedRoute_33 (by decide) ?_
      exact W.iret (v := (-4)) hx hb hr (fun t ht hW => ⟨⟨(-4), mu, rfl, ⟨hF.trans hfz.symm, Or.inr ⟨by decide, ok, (fun _ _ _ => rfl)⟩⟩, by first | (subst ht; exact hP) | (rw [ht]; exact hP) | (show va_P (dC, dI) vwCl (wR 157 ad (EX cs ad) mu) t.heap; rw [ht]; exact hP)⟩, hS.F ht⟩) hS.2.2 dX11_refusedRoute_37
  · have hF := (if_neg (show ¬ r1 = 0 from fun h => by have h9 := congrArg Int32.toInt h; have h8 : (0 : Int32).toInt = 0 := rfl; omega)).symm.trans hF
    have kp2 : (∀ k f : Nat, Nat.testBit 510 (gpX k f) = true → xi1 k f = mu k f) := kp_t hkp1_0 (by decide) (fun _ _ _ => rfl)
    skip
    refine lv_istore_n (lv' := [(3, .int r1), (0, .ref (ad 0)), (1, .int vk), (2, .int vb)]) hx hb dX11_refusedRoute_6 rfl hl (by decide) rfl (fun ls hl => ?_)
    refine lv_iload_n hx hb dX11_refusedRoute_7 rfl (lv_at hl 0 rfl) ?_
    refine lv_if_eq (tgt := 13) hx hb dX11_refusedRoute_8 (by decide) (fun c_6 => by have c_6 : r1.toInt = 0 := il_eq c_6; exfalso; omega) (fun c_6 => ?_)
    have c_6 : ¬ r1.toInt = 0 := il_ne c_6
    refine lv_iload_n hx hb dX11_refusedRoute_11 rfl (lv_at hl 0 rfl) ?_
    exact W.iret (v := r1) hx hb hr (fun t ht hW => ⟨⟨r1, xi1, rfl, ⟨hF.trans hfz.symm, Or.inr ⟨by omega, ok, kp2⟩⟩, by first | (subst ht; exact hP) | (rw [ht]; exact hP) | (show va_P (dC, dI) vwCl (wR 157 ad (EX cs ad) xi1) t.heap; rw [ht]; exact hP)⟩, hS.F ht⟩) hS.2.2 dX11_refusedRoute_12
set_option maxHeartbeats 4000000 in
set_option maxRecDepth 100000 in
/-- sx_refusedPrices -/
theorem sx_refusedPrices (l : Launch) (dC : Nat → ClassId) (dI : Nat → Nat → Nat) (cs : Nat → ClassId) (ad : Nat → Nat) (mu : Nat → Nat → Int32) (ok : okR loX hiX mu) (H : Heap) (hP : va_P (dC, dI) vwCl (wR 157 ad (EX cs ad) mu) H) (hD0 : va_D (fun _ => True) (wR 157 ad (EX cs ad) mu)) (vx : Int32) (vr : Int32) (vb : Int32) : Met l yX11_refusedPrices (wU yX11_refusedPrices cX11_refusedPrices 5 (some .int)) ({ frames := 2, cells := 0, slots := 0, locals := 42 }) (va_Pc [.ref (ad 0), .int vx, .int vr, .int vb] (sz_P (dC, dI) vwCl (tyW cs) H)) (va_Qi (fun (z : Int32) (xi : Nat → Nat → Int32) => (z = 0 ∧ xi = mu ∧ (0 ≤ vx.toInt ∧ vx.toInt < (mu 4 6).toInt ∧ (mu 4 6).toInt ≤ 7 ∧ 0 ≤ vr.toInt ∧ vr.toInt ≤ 5 ∧ 0 ≤ (mu (8 + vr.toNatClampNeg) 1).toInt ∧ (mu (8 + vr.toNatClampNeg) 1).toInt ≤ 40 ∧ (mu (8 + vr.toNatClampNeg) 1).toInt ≤ 6 ∧ vb.toInt = 0)) ∨ (z.toInt < 0 ∧ okR loX hiX xi ∧ (∀ k f : Nat, Nat.testBit 510 (gpX k f) = true → xi k f = mu k f))) (fun xi t => va_P (dC, dI) vwCl (wR 157 ad (EX cs ad) xi) t.heap) (va_A (wR 157 ad (EX cs ad) mu) H.size)) 0 0 (va_A (wR 157 ad (EX cs ad) mu) H.size) := by
  refine Met.ofW (cc := cX11_refusedPrices) (maxL := 5) (ret := (some .int)) (by decide) rfl ?_
  intro p e s m args below meth c s₁ B hml hv
  obtain ⟨rfl, hh, hK, hz⟩ := hv
  have hx := B.exec
  have hb := B.bytes
  have hr := B.returns
  have hts := atoms_spec (ws := (wU yX11_refusedPrices cX11_refusedPrices 5 (some .int))) B.pre
  have hown : s.vm.findClass RX11 = some m.cls := findClass_of_methodNamed B.named
  have hlocks := B.notSynchronized
  subst hh
  have hD := hD0.self (sz := s.heap.size)
  have hA : ∀ q : Nat, s.heap.size ≤ q → (va_A (wR 157 ad (EX cs ad) mu) s.heap.size) q := fun q h => Or.inr h
  have hS : va_S (va_A (wR 157 ad (EX cs ad) mu) s.heap.size) s.heap s.heap [] := va_S.rf
  have hl := lv_entry ([.ref (ad 0), .int vx, .int vr, .int vb]) (n := 5) (Nat.le_of_ble_eq_true rfl)
  rw [lg_entry_eq]
  generalize (lg_sl ([.ref (ad 0), .int vx, .int vr, .int vb]) ++ List.replicate (5 - (lg_sl ([.ref (ad 0), .int vx, .int vr, .int vb])).length) Slot.unset).toArray = ls at hl ⊢
  have hl : lv_has ls 5 [(0, .ref (ad 0)), (1, .int vx), (2, .int vr), (3, .int vb)] := hl
  refine lv_aload_n hx hb dX11_refusedPrices_0 rfl (lv_at hl 0 rfl) ?_
  refine va_get (D := (dC, dI)) (ci := 11) (v := .ref (ad 4)) (C := RX11) (T := TX11) (N := 11) hx hb hts inG11 hown hK hP 0 (gX_0 cs ad mu) rfl 3 (by decide) (hts _ (List.mem_cons_of_mem _ mw_2_161)) (fun _ h9 => h9) rfl dX11_refusedPrices_1 ?_
  refine lv_iload_n hx hb dX11_refusedPrices_4 rfl (lv_at hl 1 rfl) ?_
  refine cr_i (va_runV (As := [.int vx]) (rest := []) ⟨hx, hb, hml, hown, hts⟩ (sx_has l dC dI cs ad mu ok s.heap hP vx) (cwV 1 hts (wU_V mw_3_76 mw_3_73 mw_3_74 mw_3_75 mw_1_2) rfl rfl rfl (by decide +kernel) ⟨Nat.le_of_ble_eq_true rfl, Nat.le_of_ble_eq_true rfl⟩) ⟨sz_c, va_recv hK hP (ci := 10) (q0 := 4) rfl (gX_4 cs ad mu), sz_m hK hz⟩ rfl rfl hl.1 rfl (lv_room (Nat.le_of_ble_eq_true rfl)) dX11_refusedPrices_5 ⟨Nat.zero_le _, Nat.zero_le _⟩) hS (fun r1 hw1 locs hS => ?_)
  obtain ⟨hfe1, hw1⟩ := hw1
  rcases hw1 with ⟨rfl, f1⟩ | ⟨rfl, f1⟩
  · have f1 : 0 ≤ vx.toInt ∧ vx.toInt < (mu 4 6).toInt ∧ (mu 4 6).toInt ≤ 7 := f1
    refine lv_if_eq (tgt := 15) hx hb dX11_refusedPrices_8 (by decide) (fun c => absurd c (by decide)) (fun _ => ?_)
    refine lv_iload_n hx hb dX11_refusedPrices_11 rfl (lv_at hl 3 rfl) ?_
    refine lv_if_eq (tgt := 17) hx hb dX11_refusedPrices_12 (by decide) (fun c_2 => ?_) (fun c_2 => ?_)
    · have c_2 : vb.toInt = 0 := il_eq c_2
      refine lv_aload_n hx hb dX11_refusedPrices_17 rfl (lv_at hl 0 rfl) ?_
      refine lv_iload_n hx hb dX11_refusedPrices_18 rfl (lv_at hl 2 rfl) ?_
      have hFc := fr_all (wR_D mu hD) hS hA
      refine va_calli (va_runV (As := [.int vr]) (rest := []) ⟨hx, hb, hml, hown, hts⟩ (sx_refusedRow l dC dI cs ad mu ok s.heap hP ((wR_D mu hD).weaken (fun _ _ _ _ => trivial)) vr) (cwV 1 hts (wU_V mw_2_221 mw_2_218 mw_2_220 mw_0_2 mw_1_1) rfl rfl rfl (by decide +kernel) ⟨Nat.le_of_ble_eq_true rfl, Nat.le_of_ble_eq_true rfl⟩) ⟨sz_c, va_recv hK hP (ci := 11) (q0 := 0) rfl (gX_0 cs ad mu), sz_m hK hz⟩ rfl rfl hl.1 rfl (lv_room (Nat.le_of_ble_eq_true rfl)) dX11_refusedPrices_19 ⟨Nat.zero_le _, Nat.zero_le _⟩) hS (fun q _ h => hFc q h) hFc (fun r3 xi3 t H3 locs ht hvm hw3 hB hz1 hk1 hS => ?_)
      have hP : va_P (dC, dI) vwCl (wR 157 ad (EX cs ad) xi3) H3 := by rw [← ht]; exact hB
      obtain ⟨hfe3, hw3⟩ := hw3
      rcases hw3 with ⟨rfl, hxi3, f3⟩ | ⟨z3, ok, hkp3_0⟩
      · have hP : va_P (dC, dI) vwCl (wR 157 ad (EX cs ad) mu) H3 := by rw [← hxi3]; exact hP
        have f3 : 0 ≤ vr.toInt ∧ vr.toInt ≤ 5 ∧ 0 ≤ (mu (8 + vr.toNatClampNeg) 1).toInt := f3
        refine lv_istore (lv' := [(4, .int 0), (0, .ref (ad 0)), (1, .int vx), (2, .int vr), (3, .int vb)]) hx hb dX11_refusedPrices_22 hl (by decide) rfl (fun ls hl => ?_)
        refine lv_iload hx hb dX11_refusedPrices_24 (lv_at hl 0 rfl) ?_
        refine lv_if_eq (tgt := 32) hx hb dX11_refusedPrices_26 (by decide) (fun _ => ?_) (fun c => absurd (by decide) c)
        refine lv_aload_n hx hb dX11_refusedPrices_32 rfl (lv_at hl 1 rfl) ?_
        refine va_get (D := (dC, dI)) (ci := 11) (v := .ref (ad 1)) (C := RX11) (T := TX11) (N := 11) hx hb hts inG11 hown hK hP 0 (gX_0 cs ad mu) rfl 0 (by decide) (hts _ (List.mem_cons_of_mem _ mw_2_158)) (fun _ h9 => h9) rfl dX11_refusedPrices_33 ?_
        refine lv_iload_n hx hb dX11_refusedPrices_36 rfl (lv_at hl 3 rfl) ?_
        have hx5 : 0 ≤ vr.toInt ∧ vr.toInt < ((6 : Nat) : Int) := ⟨by omega, by omega⟩
        refine va_aldq hx hb hK hP 1 2 (gX_1 cs ad mu) rfl (show vp_in vr 6 from vi_of hx5.1 hx5.2) dX11_refusedPrices_37 ?_
        have hk5 : 8 ≤ (8 + vr.toNatClampNeg) ∧ (8 + vr.toNatClampNeg) < 14 := ix_of hx5
        refine lq_v (.ref (ad (8 + vr.toNatClampNeg))) rfl ?_
        refine va_get (D := (dC, dI)) (ci := 6) (v := .int (mu (8 + vr.toNatClampNeg) 1)) (C := RX6) (T := TX6) (N := 2) hx hb hts inG6 hown hK hP (8 + vr.toNatClampNeg) (gX_row cs ad mu (8 + vr.toNatClampNeg) hk5.1 hk5.2) rfl 1 (by decide) (hts _ (List.mem_cons_of_mem _ mw_2_134)) (fun _ h9 => h9) rfl dX11_refusedPrices_38 ?_
        refine lv_topi (fun y6 ey6 => ?_)
        have by6 : y6.toInt = (mu (8 + vr.toNatClampNeg) 1).toInt := congrArg Int32.toInt ey6
        have gy6 : -1 ≤ y6.toInt ∧ y6.toInt ≤ 40 := by rw [ey6]; exact rX_row_1 ok (8 + vr.toNatClampNeg) hk5.1 hk5.2
        refine lv_bipush (v := 6) hx hb dX11_refusedPrices_41 (by decide) ?_
        refine lv_icmp_le (tgt := 54) hx hb dX11_refusedPrices_43 (by decide) (fun c_7 => ?_) (fun c_7 => ?_)
        · have c_7 : y6.toInt ≤ 6 := il_le c_7
          refine lv_iconst (v := 0) hx hb dX11_refusedPrices_54 (by decide) ?_
          exact W.iret (v := 0) hx hb hr (fun t ht hW => ⟨⟨0, mu, rfl, Or.inl ⟨rfl, rfl, (by first | assumption | (have hb8 := congrArg Int32.toInt ey6; omega))⟩, by first | (subst ht; exact hP) | (rw [ht]; exact hP) | (show va_P (dC, dI) vwCl (wR 157 ad (EX cs ad) mu) t.heap; rw [ht]; exact hP)⟩, hS.F ht⟩) hS.2.2 dX11_refusedPrices_55
        · have c_7 : 6 < y6.toInt := il_nle c_7
          refine lv_aload_n hx hb dX11_refusedPrices_46 rfl (lv_at hl 1 rfl) ?_
          refine lv_iconst (v := 5) hx hb dX11_refusedPrices_47 (by decide) ?_
          have hFc := fr_all (wR_D mu hD) hS hA
          refine va_calli (va_runV (As := [.int 5]) (rest := []) ⟨hx, hb, hml, hown, hts⟩ (sx_found l dC dI cs ad mu ok H3 hP ((wR_D mu hD).weaken (fun _ _ _ _ => trivial)) 5 (by have h50 : (5 : Int32).toInt = 5 := rfl; omega)) (cwV 1 hts (wU_V mw_2_202 mw_2_199 mw_2_201 mw_0_0 mw_1_1) rfl rfl rfl (by decide +kernel) ⟨Nat.le_of_ble_eq_true rfl, Nat.le_of_ble_eq_true rfl⟩) ⟨sz_c, va_recv hK hP (ci := 11) (q0 := 0) rfl (gX_0 cs ad mu), sz_m hK hz⟩ rfl rfl hl.1 rfl (lv_room (Nat.le_of_ble_eq_true rfl)) dX11_refusedPrices_48 ⟨Nat.zero_le _, Nat.zero_le _⟩) hS (fun q _ h => hFc q h) hFc (fun r9 xi9 t H9 locs ht hvm hw9 hB hz1 hk1 hS => ?_)
          have hP : va_P (dC, dI) vwCl (wR 157 ad (EX cs ad) xi9) H9 := by rw [← ht]; exact hB
          obtain ⟨hfe9, ok, hw9, hkp9_0⟩ := hw9
          have kp10 : (∀ k f : Nat, Nat.testBit 510 (gpX k f) = true → xi9 k f = mu k f) := kp_t hkp9_0 (by decide) (fun _ _ _ => rfl)
          have gr9 : -3 ≤ r9.toInt ∧ r9.toInt ≤ -3 := hw9
          refine lv_goto (tgt := 55) hx hb dX11_refusedPrices_51 (by decide) ?_
          exact W.iret (v := r9) hx hb hr (fun t ht hW => ⟨⟨r9, xi9, rfl, Or.inr ⟨by omega, ok, kp10⟩, by first | (subst ht; exact hP) | (rw [ht]; exact hP) | (show va_P (dC, dI) vwCl (wR 157 ad (EX cs ad) xi9) t.heap; rw [ht]; exact hP)⟩, hS.F ht⟩) hS.2.2 dX11_refusedPrices_55
      · have kp4 : (∀ k f : Nat, Nat.testBit 510 (gpX k f) = true → xi3 k f = mu k f) := kp_t hkp3_0 (by decide) (fun _ _ _ => rfl)
        skip
        refine lv_istore (lv' := [(4, .int r3), (0, .ref (ad 0)), (1, .int vx), (2, .int vr), (3, .int vb)]) hx hb dX11_refusedPrices_22 hl (by decide) rfl (fun ls hl => ?_)
        refine lv_iload hx hb dX11_refusedPrices_24 (lv_at hl 0 rfl) ?_
        refine lv_if_eq (tgt := 32) hx hb dX11_refusedPrices_26 (by decide) (fun c_11 => by have c_11 : r3.toInt = 0 := il_eq c_11; exfalso; omega) (fun c_11 => ?_)
        have c_11 : ¬ r3.toInt = 0 := il_ne c_11
        refine lv_iload hx hb dX11_refusedPrices_29 (lv_at hl 0 rfl) ?_
        exact W.iret (v := r3) hx hb hr (fun t ht hW => ⟨⟨r3, xi3, rfl, Or.inr ⟨by omega, ok, kp4⟩, by first | (subst ht; exact hP) | (rw [ht]; exact hP) | (show va_P (dC, dI) vwCl (wR 157 ad (EX cs ad) xi3) t.heap; rw [ht]; exact hP)⟩, hS.F ht⟩) hS.2.2 dX11_refusedPrices_31
    · have c_2 : ¬ vb.toInt = 0 := il_ne c_2
      refine lv_iconst (v := (-1)) hx hb dX11_refusedPrices_15 (by decide) ?_
      exact W.iret (v := (-1)) hx hb hr (fun t ht hW => ⟨⟨(-1), mu, rfl, Or.inr ⟨by decide, ok, (fun _ _ _ => rfl)⟩, by first | (subst ht; exact hP) | (rw [ht]; exact hP) | (show va_P (dC, dI) vwCl (wR 157 ad (EX cs ad) mu) t.heap; rw [ht]; exact hP)⟩, hS.F ht⟩) hS.2.2 dX11_refusedPrices_16
  · have f1 : vx.toInt < 0 ∨ (mu 4 6).toInt ≤ vx.toInt := f1
    refine lv_if_eq (tgt := 15) hx hb dX11_refusedPrices_8 (by decide) (fun _ => ?_) (fun c => absurd (by decide) c)
    refine lv_iconst (v := (-1)) hx hb dX11_refusedPrices_15 (by decide) ?_
    exact W.iret (v := (-1)) hx hb hr (fun t ht hW => ⟨⟨(-1), mu, rfl, Or.inr ⟨by decide, ok, (fun _ _ _ => rfl)⟩, by first | (subst ht; exact hP) | (rw [ht]; exact hP) | (show va_P (dC, dI) vwCl (wR 157 ad (EX cs ad) mu) t.heap; rw [ht]; exact hP)⟩, hS.F ht⟩) hS.2.2 dX11_refusedPrices_16
set_option maxHeartbeats 4000000 in
set_option maxRecDepth 100000 in
/-- sx_isPair -/
theorem sx_isPair (l : Launch) (dC : Nat → ClassId) (dI : Nat → Nat → Nat) (cs : Nat → ClassId) (ad : Nat → Nat) (mu : Nat → Nat → Int32) (ok : okR loX hiX mu) (H : Heap) (hP : va_P (dC, dI) vwCl (wR 157 ad (EX cs ad) mu) H) (vx : Int32) (vy : Int32) : Met l yX11_isPair (wU yX11_isPair cX11_isPair 3 (some .boolean)) ({ frames := 1, cells := 0, slots := 0, locals := 21 }) (va_Pc [.ref (ad 0), .int vx, .int vy] (sz_P (dC, dI) vwCl (tyW cs) H)) (va_Qi (fun (z : Int32) (_ : Unit) => z = F_sx_isPair mu vx vy ∧ ((z = 1 ∧ (0 ≤ vx.toInt ∧ vx.toInt < (mu 4 6).toInt ∧ 0 ≤ vy.toInt ∧ vy.toInt < (mu 4 6).toInt ∧ (mu 4 6).toInt ≤ 7)) ∨ (z = 0 ∧ (True)))) (fun _ t => t.heap = H) (fun _ => False)) 0 0 (fun _ => False) := by
  refine Met.ofW (cc := cX11_isPair) (maxL := 3) (ret := (some .boolean)) (by decide) rfl ?_
  intro p e s m args below meth c s₁ B hml hv
  obtain ⟨rfl, hh, hK, hz⟩ := hv
  have hx := B.exec
  have hb := B.bytes
  have hr := B.returns
  have hts := atoms_spec (ws := (wU yX11_isPair cX11_isPair 3 (some .boolean))) B.pre
  have hown : s.vm.findClass RX11 = some m.cls := findClass_of_methodNamed B.named
  have hlocks := B.notSynchronized
  subst hh
  have hS : va_S (fun _ => False) s.heap s.heap [] := va_S.rf
  have hl := lv_entry ([.ref (ad 0), .int vx, .int vy]) (n := 3) (Nat.le_of_ble_eq_true rfl)
  rw [lg_entry_eq]
  generalize (lg_sl ([.ref (ad 0), .int vx, .int vy]) ++ List.replicate (3 - (lg_sl ([.ref (ad 0), .int vx, .int vy])).length) Slot.unset).toArray = ls at hl ⊢
  have hl : lv_has ls 3 [(0, .ref (ad 0)), (1, .int vx), (2, .int vy)] := hl
  obtain ⟨fz, hfz⟩ : ∃ z, F_sx_isPair mu vx vy = z := ⟨_, rfl⟩
  have hF := hfz
  unfold F_sx_isPair at hF
  refine lv_aload_n hx hb dX11_isPair_0 rfl (lv_at hl 0 rfl) ?_
  refine va_get (D := (dC, dI)) (ci := 11) (v := .ref (ad 4)) (C := RX11) (T := TX11) (N := 11) hx hb hts inG11 hown hK hP 0 (gX_0 cs ad mu) rfl 3 (by decide) (hts _ (List.mem_cons_of_mem _ mw_2_161)) (fun _ h9 => h9) rfl dX11_isPair_1 ?_
  refine lv_iload_n hx hb dX11_isPair_4 rfl (lv_at hl 1 rfl) ?_
  refine cr_i (va_runV (As := [.int vx]) (rest := []) ⟨hx, hb, hml, hown, hts⟩ (sx_has l dC dI cs ad mu ok s.heap hP vx) (cwV 1 hts (wU_V mw_3_76 mw_3_73 mw_3_74 mw_3_75 mw_1_2) rfl rfl rfl (by decide +kernel) ⟨Nat.le_of_ble_eq_true rfl, Nat.le_of_ble_eq_true rfl⟩) ⟨sz_c, va_recv hK hP (ci := 10) (q0 := 4) rfl (gX_4 cs ad mu), sz_m hK hz⟩ rfl rfl hl.1 rfl (lv_room (Nat.le_of_ble_eq_true rfl)) dX11_isPair_5 ⟨Nat.zero_le _, Nat.zero_le _⟩) hS (fun r1 hw1 locs hS => ?_)
  obtain ⟨hfe1, hw1⟩ := hw1
  rcases hw1 with ⟨rfl, f1⟩ | ⟨rfl, f1⟩
  · have hF := (if_pos hfe1.symm).symm.trans hF
    have f1 : 0 ≤ vx.toInt ∧ vx.toInt < (mu 4 6).toInt ∧ (mu 4 6).toInt ≤ 7 := f1
    refine lv_if_eq (tgt := 31) hx hb dX11_isPair_8 (by decide) (fun c => absurd c (by decide)) (fun _ => ?_)
    refine lv_aload_n hx hb dX11_isPair_11 rfl (lv_at hl 0 rfl) ?_
    refine va_get (D := (dC, dI)) (ci := 11) (v := .ref (ad 4)) (C := RX11) (T := TX11) (N := 11) hx hb hts inG11 hown hK hP 0 (gX_0 cs ad mu) rfl 3 (by decide) (hts _ (List.mem_cons_of_mem _ mw_2_161)) (fun _ h9 => h9) rfl dX11_isPair_12 ?_
    refine lv_iload_n hx hb dX11_isPair_15 rfl (lv_at hl 2 rfl) ?_
    refine cr_i (va_runV (As := [.int vy]) (rest := []) ⟨hx, hb, hml, hown, hts⟩ (sx_has l dC dI cs ad mu ok s.heap hP vy) (cwV 1 hts (wU_V mw_3_76 mw_3_73 mw_3_74 mw_3_75 mw_1_2) rfl rfl rfl (by decide +kernel) ⟨Nat.le_of_ble_eq_true rfl, Nat.le_of_ble_eq_true rfl⟩) ⟨sz_c, va_recv hK hP (ci := 10) (q0 := 4) rfl (gX_4 cs ad mu), sz_m hK hz⟩ rfl rfl hl.1 rfl (lv_room (Nat.le_of_ble_eq_true rfl)) dX11_isPair_16 ⟨Nat.zero_le _, Nat.zero_le _⟩) hS (fun r2 hw2 locs hS => ?_)
    obtain ⟨hfe2, hw2⟩ := hw2
    rcases hw2 with ⟨rfl, f2⟩ | ⟨rfl, f2⟩
    · have hF := (if_pos hfe2.symm).symm.trans hF
      have f2 : 0 ≤ vy.toInt ∧ vy.toInt < (mu 4 6).toInt ∧ (mu 4 6).toInt ≤ 7 := f2
      refine lv_if_eq (tgt := 31) hx hb dX11_isPair_19 (by decide) (fun c => absurd c (by decide)) (fun _ => ?_)
      refine lv_iload_n hx hb dX11_isPair_22 rfl (lv_at hl 1 rfl) ?_
      refine lv_iload_n hx hb dX11_isPair_23 rfl (lv_at hl 2 rfl) ?_
      refine lv_icmp_eq (tgt := 31) hx hb dX11_isPair_24 (by decide) (fun c_3 => ?_) (fun c_3 => ?_)
      · have hF := (if_pos c_3).symm.trans hF
        have c_3 : vx.toInt = vy.toInt := il_eq c_3
        refine lv_iconst (v := 0) hx hb dX11_isPair_31 (by decide) ?_
        exact W.zret (v := 0) (ty := .boolean) hx hb hr (by first | rfl | decide) (fun t ht hW => ⟨⟨0, (), rfl, ⟨hF.trans hfz.symm, (Or.inr ⟨rfl, by trivial⟩)⟩, ht⟩, hS.F ht⟩) hS.2.2 dX11_isPair_32
      · have hF := (if_neg c_3).symm.trans hF
        have c_3 : ¬ vx.toInt = vy.toInt := il_ne c_3
        refine lv_iconst (v := 1) hx hb dX11_isPair_27 (by decide) ?_
        refine lv_goto (tgt := 32) hx hb dX11_isPair_28 (by decide) ?_
        exact W.zret (v := 1) (ty := .boolean) hx hb hr (by first | rfl | decide) (fun t ht hW => ⟨⟨1, (), rfl, ⟨hF.trans hfz.symm, (Or.inl ⟨rfl, by omega⟩)⟩, ht⟩, hS.F ht⟩) hS.2.2 dX11_isPair_32
    · have hF := (if_neg (fun h => absurd (hfe2.trans h) (by decide))).symm.trans hF
      have f2 : vy.toInt < 0 ∨ (mu 4 6).toInt ≤ vy.toInt := f2
      refine lv_if_eq (tgt := 31) hx hb dX11_isPair_19 (by decide) (fun _ => ?_) (fun c => absurd (by decide) c)
      refine lv_iconst (v := 0) hx hb dX11_isPair_31 (by decide) ?_
      exact W.zret (v := 0) (ty := .boolean) hx hb hr (by first | rfl | decide) (fun t ht hW => ⟨⟨0, (), rfl, ⟨hF.trans hfz.symm, (Or.inr ⟨rfl, by trivial⟩)⟩, ht⟩, hS.F ht⟩) hS.2.2 dX11_isPair_32
  · have hF := (if_neg (fun h => absurd (hfe1.trans h) (by decide))).symm.trans hF
    have f1 : vx.toInt < 0 ∨ (mu 4 6).toInt ≤ vx.toInt := f1
    refine lv_if_eq (tgt := 31) hx hb dX11_isPair_8 (by decide) (fun _ => ?_) (fun c => absurd (by decide) c)
    refine lv_iconst (v := 0) hx hb dX11_isPair_31 (by decide) ?_
    exact W.zret (v := 0) (ty := .boolean) hx hb hr (by first | rfl | decide) (fun t ht hW => ⟨⟨0, (), rfl, ⟨hF.trans hfz.symm, (Or.inr ⟨rfl, by trivial⟩)⟩, ht⟩, hS.F ht⟩) hS.2.2 dX11_isPair_32
theorem mw_2_217 : (Cond.code yX11_refusedPlace cX11_refusedPlace 4 (some .int) : Cond) ∈ lw_good := lg_at 2 217 rfl rfl
theorem mw_2_214 : (Cond.methodLink RX11 81 yX11_refusedPlace : Cond) ∈ lw_good := lg_at 2 214 rfl rfl
theorem mw_2_216 : (Cond.instanceMethod yX11_refusedPlace : Cond) ∈ lw_good := lg_at 2 216 rfl rfl
theorem mw_0_1 : (Cond.selects RX11 yX11_refusedPlace yX11_refusedPlace : Cond) ∈ lw_good := lg_at 0 1 rfl rfl
theorem mw_2_130 : (Cond.fieldLink RX11 85 "DearLetters$Row" "places" "[I" : Cond) ∈ lw_good := lg_at 2 130 rfl rfl
theorem mw_2_168 : (Cond.fieldLink RX11 88 "DearLetters" "told" "I" : Cond) ∈ lw_good := lg_at 2 168 rfl rfl
theorem mw_3_30 : (Cond.code yX11_refusedText cX11_refusedText 2 (some .int) : Cond) ∈ lw_good := lg_at 3 30 rfl rfl
theorem mw_3_27 : (Cond.methodLink RX11 118 yX11_refusedText : Cond) ∈ lw_good := lg_at 3 27 rfl rfl
theorem mw_3_29 : (Cond.instanceMethod yX11_refusedText : Cond) ∈ lw_good := lg_at 3 29 rfl rfl
theorem mw_0_3 : (Cond.selects RX11 yX11_refusedText yX11_refusedText : Cond) ∈ lw_good := lg_at 0 3 rfl rfl
theorem mw_2_150 : (Cond.fieldLink RX11 121 "DearLetters$Text" "size" "I" : Cond) ∈ lw_good := lg_at 2 150 rfl rfl
theorem mw_2_147 : (Cond.fieldLink RX11 122 "DearLetters$Text" "bytes" "[B" : Cond) ∈ lw_good := lg_at 2 147 rfl rfl
theorem mw_1_108 : (Cond.fieldLink RX11 170 "DearLetters$Standing" "purses" "[I" : Cond) ∈ lw_good := lg_at 1 108 rfl rfl
theorem mw_1_124 : (Cond.fieldLink RX11 192 "DearLetters$Standing" "day" "I" : Cond) ∈ lw_good := lg_at 1 124 rfl rfl
theorem mw_1_118 : (Cond.fieldLink RX11 176 "DearLetters$Standing" "snow" "I" : Cond) ∈ lw_good := lg_at 1 118 rfl rfl
theorem mw_3_84 : (Cond.code yX10_near cX10_near 5 (some .int) : Cond) ∈ lw_good := lg_at 3 84 rfl rfl
theorem mw_3_137 : (Cond.methodLink RX11 179 yX10_near : Cond) ∈ lw_good := lg_at 3 137 rfl rfl
theorem mw_3_82 : (Cond.instanceMethod yX10_near : Cond) ∈ lw_good := lg_at 3 82 rfl rfl
theorem mw_3_83 : (Cond.selects RX10 yX10_near yX10_near : Cond) ∈ lw_good := lg_at 3 83 rfl rfl
theorem mw_1_147 : (Cond.fieldLink RX11 148 "DearLetters$Town" "kinds" "[I" : Cond) ∈ lw_good := lg_at 1 147 rfl rfl
theorem mw_3_107 : (Cond.code yX11_priceAsked cX11_priceAsked 2 (some .int) : Cond) ∈ lw_good := lg_at 3 107 rfl rfl
theorem mw_3_105 : (Cond.methodLink RX11 154 yX11_priceAsked : Cond) ∈ lw_good := lg_at 3 105 rfl rfl
theorem mw_3_106 : (Cond.static yX11_priceAsked : Cond) ∈ lw_good := lg_at 3 106 rfl rfl
theorem mw_1_70 : (Cond.fieldLink RX11 222 "DearLetters$Letter" "paid" "I" : Cond) ∈ lw_good := lg_at 1 70 rfl rfl
theorem mw_1_65 : (Cond.fieldLink RX11 225 "DearLetters$Letter" "holder" "I" : Cond) ∈ lw_good := lg_at 1 65 rfl rfl
theorem mw_1_167 : (Cond.fieldLink RX11 173 "DearLetters$Town" "paths" "I" : Cond) ∈ lw_good := lg_at 1 167 rfl rfl
theorem hX_0_10 (cs : Nat → ClassId) (ad : Nat → Nat) (g : Nat → Int32) (v : Int32) : EX cs ad 0 (upd g 10 v) = .inr (11, [.ref (ad 1), .ref (ad 2), .ref (ad 3), .ref (ad 4), .ref (ad 31), .ref (ad 6), .ref (ad 32), .ref (ad 33), .ref (ad 7), .int (g 9), .int v]) := by
  rfl
theorem tX_0_10 {mu : Nat → Nat → Int32} (ok : okR loX hiX mu) {nu : Nat → Nat → Int32} {v : Int32} (hn : va_up mu 0 (upd (mu 0) 10 v) = nu) : okR loX hiX nu := by
  subst hn
  exact okR_up ok 0 10 v (tI_lo v) (tI_hi v)
theorem tX_places_s {mu : Nat → Nat → Int32} (ok : okR loX hiX mu) {nu : Nat → Nat → Int32} {v : Int32} (k : Nat) (h1 : 21 ≤ k) (h2 : k < 27) (f : Nat) (hn : va_up mu k (upd (mu k) f v) = nu) : okR loX hiX nu := by
  subst hn
  exact okR_up ok k f v (by unfold loX; rw [clX_places k h1 h2]; exact tI_lo v) (by unfold hiX; rw [clX_places k h1 h2]; exact tI_hi v)
theorem hX_row_1 (cs : Nat → ClassId) (ad : Nat → Nat) (g : Nat → Int32) (v : Int32) (k : Nat) (h1 : 8 ≤ k) (h2 : k < 14) : EX cs ad k (upd g 1 v) = .inr (6, [.ref (ad (k + 13)), .int v]) := by
  rw [EX_row cs ad _ _ h1 h2]; rfl
theorem tX_row_1 {mu : Nat → Nat → Int32} (ok : okR loX hiX mu) {nu : Nat → Nat → Int32} {v : Int32} (k : Nat) (h1 : 8 ≤ k) (h2 : k < 14) (hn : va_up mu k (upd (mu k) 1 v) = nu) (hv : -1 ≤ v.toInt ∧ v.toInt ≤ 40) : okR loX hiX nu := by
  subst hn
  exact okR_up ok k 1 v (by unfold loX; rw [clX_row k h1 h2]; exact hv.1) (by unfold hiX; rw [clX_row k h1 h2]; exact hv.2)
theorem rX_bytes_s {mu : Nat → Nat → Int32} (ok : okR loX hiX mu) (k : Nat) (h1 : 27 ≤ k) (h2 : k < 31) (f : Nat) : -128 ≤ (mu k f).toInt ∧ (mu k f).toInt ≤ 127 := by
  have h := ok k f
  unfold loX hiX at h
  rw [clX_bytes k h1 h2] at h
  exact h
theorem tX_bytes_s {mu : Nat → Nat → Int32} (ok : okR loX hiX mu) {nu : Nat → Nat → Int32} {v : Int32} (k : Nat) (h1 : 27 ≤ k) (h2 : k < 31) (f : Nat) (hn : va_up mu k (upd (mu k) f v) = nu) (hv : -128 ≤ v.toInt ∧ v.toInt ≤ 127) : okR loX hiX nu := by
  subst hn
  exact okR_up ok k f v (by unfold loX; rw [clX_bytes k h1 h2]; exact hv.1) (by unfold hiX; rw [clX_bytes k h1 h2]; exact hv.2)
theorem tX_46_s {mu : Nat → Nat → Int32} (ok : okR loX hiX mu) {nu : Nat → Nat → Int32} {v : Int32} (f : Nat) (hn : va_up mu 46 (upd (mu 46) f v) = nu) : okR loX hiX nu := by
  subst hn
  exact okR_up ok 46 f v (tI_lo v) (tI_hi v)
theorem hX_5_3 (cs : Nat → ClassId) (ad : Nat → Nat) (g : Nat → Int32) (v : Int32) : EX cs ad 5 (upd g 3 v) = .inr (8, [.ref (ad 46), .ref (ad 47), .int (g 2), .int v, .int (g 4), .int (g 5)]) := by
  rfl
theorem tX_5_3 {mu : Nat → Nat → Int32} (ok : okR loX hiX mu) {nu : Nat → Nat → Int32} {v : Int32} (hn : va_up mu 5 (upd (mu 5) 3 v) = nu) : okR loX hiX nu := by
  subst hn
  exact okR_up ok 5 3 v (tI_lo v) (tI_hi v)
theorem rX_letter_5 {mu : Nat → Nat → Int32} (ok : okR loX hiX mu) (k : Nat) (h1 : 61 ≤ k) (h2 : k < 77) : 0 ≤ (mu k 5).toInt ∧ (mu k 5).toInt ≤ 6 := by
  have h := ok k 5
  unfold loX hiX at h
  rw [clX_letter k h1 h2] at h
  exact h
theorem hX_5_2 (cs : Nat → ClassId) (ad : Nat → Nat) (g : Nat → Int32) (v : Int32) : EX cs ad 5 (upd g 2 v) = .inr (8, [.ref (ad 46), .ref (ad 47), .int v, .int (g 3), .int (g 4), .int (g 5)]) := by
  rfl
theorem tX_5_2 {mu : Nat → Nat → Int32} (ok : okR loX hiX mu) {nu : Nat → Nat → Int32} {v : Int32} (hn : va_up mu 5 (upd (mu 5) 2 v) = nu) : okR loX hiX nu := by
  subst hn
  exact okR_up ok 5 2 v (tI_lo v) (tI_hi v)
theorem lb_X11_lay_0 : dl_ck (cX11_lay.data.toList.drop 0) [42, 27, 28, 182, 0, 81, 54, 4, 21, 4, 153, 0, 6, 21, 4, 172, 42, 42, 180, 0, 11, 27, 50, 180, 0, 85, 28, 46, 181, 0, 88, 42] = true := by decide +kernel
theorem lb_X11_lay_1 : dl_ck (cX11_lay.data.toList.drop 32) [180, 0, 11, 27, 50, 180, 0, 85, 28, 29, 79, 4, 172] = true := by decide +kernel
theorem dX11_lay_0 : decode cX11_lay 0 = .ok (.aload_n 0, 1) := dx_42 (dl_at 0 0 lb_X11_lay_0 rfl)
theorem dX11_lay_1 : decode cX11_lay 1 = .ok (.iload_n 1, 1) := dx_27 (dl_at 0 1 lb_X11_lay_0 rfl)
theorem dX11_lay_2 : decode cX11_lay 2 = .ok (.iload_n 2, 1) := dx_28 (dl_at 0 2 lb_X11_lay_0 rfl)
theorem dX11_lay_3 : decode cX11_lay 3 = .ok (.invokevirtual 81, 3) := dx_182 (a := 0) (b := 81) (dl_at 0 3 lb_X11_lay_0 rfl) (dl_at 0 4 lb_X11_lay_0 rfl) (dl_at 0 5 lb_X11_lay_0 rfl) rfl
theorem dX11_lay_6 : decode cX11_lay 6 = .ok (.istore 4, 2) := dx_54 (dl_at 0 6 lb_X11_lay_0 rfl) (dl_at 0 7 lb_X11_lay_0 rfl)
theorem dX11_lay_8 : decode cX11_lay 8 = .ok (.iload 4, 2) := dx_21 (dl_at 0 8 lb_X11_lay_0 rfl) (dl_at 0 9 lb_X11_lay_0 rfl)
theorem dX11_lay_10 : decode cX11_lay 10 = .ok (.ifCond .eq 6, 3) := dx_153 (a := 0) (b := 6) (dl_at 0 10 lb_X11_lay_0 rfl) (dl_at 0 11 lb_X11_lay_0 rfl) (dl_at 0 12 lb_X11_lay_0 rfl) sg16_6
theorem dX11_lay_16 : decode cX11_lay 16 = .ok (.aload_n 0, 1) := dx_42 (dl_at 0 16 lb_X11_lay_0 rfl)
theorem dX11_lay_17 : decode cX11_lay 17 = .ok (.aload_n 0, 1) := dx_42 (dl_at 0 17 lb_X11_lay_0 rfl)
theorem dX11_lay_18 : decode cX11_lay 18 = .ok (.getfield 11, 3) := dx_180 (a := 0) (b := 11) (dl_at 0 18 lb_X11_lay_0 rfl) (dl_at 0 19 lb_X11_lay_0 rfl) (dl_at 0 20 lb_X11_lay_0 rfl) rfl
theorem dX11_lay_21 : decode cX11_lay 21 = .ok (.iload_n 1, 1) := dx_27 (dl_at 0 21 lb_X11_lay_0 rfl)
theorem dX11_lay_22 : decode cX11_lay 22 = .ok (.aaload, 1) := dx_50 (dl_at 0 22 lb_X11_lay_0 rfl)
theorem dX11_lay_23 : decode cX11_lay 23 = .ok (.getfield 85, 3) := dx_180 (a := 0) (b := 85) (dl_at 0 23 lb_X11_lay_0 rfl) (dl_at 0 24 lb_X11_lay_0 rfl) (dl_at 0 25 lb_X11_lay_0 rfl) rfl
theorem dX11_lay_26 : decode cX11_lay 26 = .ok (.iload_n 2, 1) := dx_28 (dl_at 0 26 lb_X11_lay_0 rfl)
theorem dX11_lay_27 : decode cX11_lay 27 = .ok (.iaload, 1) := dx_46 (dl_at 0 27 lb_X11_lay_0 rfl)
theorem dX11_lay_28 : decode cX11_lay 28 = .ok (.putfield 88, 3) := dx_181 (a := 0) (b := 88) (dl_at 0 28 lb_X11_lay_0 rfl) (dl_at 0 29 lb_X11_lay_0 rfl) (dl_at 0 30 lb_X11_lay_0 rfl) rfl
theorem dX11_lay_31 : decode cX11_lay 31 = .ok (.aload_n 0, 1) := dx_42 (dl_at 0 31 lb_X11_lay_0 rfl)
theorem dX11_lay_32 : decode cX11_lay 32 = .ok (.getfield 11, 3) := dx_180 (a := 0) (b := 11) (dl_at 32 0 lb_X11_lay_1 rfl) (dl_at 32 1 lb_X11_lay_1 rfl) (dl_at 32 2 lb_X11_lay_1 rfl) rfl
theorem dX11_lay_35 : decode cX11_lay 35 = .ok (.iload_n 1, 1) := dx_27 (dl_at 32 3 lb_X11_lay_1 rfl)
theorem dX11_lay_36 : decode cX11_lay 36 = .ok (.aaload, 1) := dx_50 (dl_at 32 4 lb_X11_lay_1 rfl)
theorem dX11_lay_37 : decode cX11_lay 37 = .ok (.getfield 85, 3) := dx_180 (a := 0) (b := 85) (dl_at 32 5 lb_X11_lay_1 rfl) (dl_at 32 6 lb_X11_lay_1 rfl) (dl_at 32 7 lb_X11_lay_1 rfl) rfl
theorem dX11_lay_40 : decode cX11_lay 40 = .ok (.iload_n 2, 1) := dx_28 (dl_at 32 8 lb_X11_lay_1 rfl)
theorem dX11_lay_41 : decode cX11_lay 41 = .ok (.iload_n 3, 1) := dx_29 (dl_at 32 9 lb_X11_lay_1 rfl)
theorem dX11_lay_42 : decode cX11_lay 42 = .ok (.iastore, 1) := dx_79 (dl_at 32 10 lb_X11_lay_1 rfl)
theorem dX11_lay_43 : decode cX11_lay 43 = .ok (.iconst 1, 1) := dx_4 (dl_at 32 11 lb_X11_lay_1 rfl)
theorem dX11_lay_44 : decode cX11_lay 44 = .ok (.ireturn, 1) := dx_172 (dl_at 32 12 lb_X11_lay_1 rfl)
theorem dX11_lay_13 : decode cX11_lay 13 = .ok (.iload 4, 2) := dx_21 (dl_at 0 13 lb_X11_lay_0 rfl) (dl_at 0 14 lb_X11_lay_0 rfl)
theorem dX11_lay_15 : decode cX11_lay 15 = .ok (.ireturn, 1) := dx_172 (dl_at 0 15 lb_X11_lay_0 rfl)
theorem lb_X11_at_0 : dl_ck (cX11_at.data.toList.drop 0) [42, 27, 28, 182, 0, 81, 62, 29, 153, 0, 5, 29, 172, 42, 42, 180, 0, 11, 27, 50, 180, 0, 85, 28, 46, 181, 0, 88, 4, 172] = true := by decide +kernel
theorem dX11_at_0 : decode cX11_at 0 = .ok (.aload_n 0, 1) := dx_42 (dl_at 0 0 lb_X11_at_0 rfl)
theorem dX11_at_1 : decode cX11_at 1 = .ok (.iload_n 1, 1) := dx_27 (dl_at 0 1 lb_X11_at_0 rfl)
theorem dX11_at_2 : decode cX11_at 2 = .ok (.iload_n 2, 1) := dx_28 (dl_at 0 2 lb_X11_at_0 rfl)
theorem dX11_at_3 : decode cX11_at 3 = .ok (.invokevirtual 81, 3) := dx_182 (a := 0) (b := 81) (dl_at 0 3 lb_X11_at_0 rfl) (dl_at 0 4 lb_X11_at_0 rfl) (dl_at 0 5 lb_X11_at_0 rfl) rfl
theorem dX11_at_6 : decode cX11_at 6 = .ok (.istore_n 3, 1) := dx_62 (dl_at 0 6 lb_X11_at_0 rfl)
theorem dX11_at_7 : decode cX11_at 7 = .ok (.iload_n 3, 1) := dx_29 (dl_at 0 7 lb_X11_at_0 rfl)
theorem dX11_at_8 : decode cX11_at 8 = .ok (.ifCond .eq 5, 3) := dx_153 (a := 0) (b := 5) (dl_at 0 8 lb_X11_at_0 rfl) (dl_at 0 9 lb_X11_at_0 rfl) (dl_at 0 10 lb_X11_at_0 rfl) sg16_5
theorem dX11_at_13 : decode cX11_at 13 = .ok (.aload_n 0, 1) := dx_42 (dl_at 0 13 lb_X11_at_0 rfl)
theorem dX11_at_14 : decode cX11_at 14 = .ok (.aload_n 0, 1) := dx_42 (dl_at 0 14 lb_X11_at_0 rfl)
theorem dX11_at_15 : decode cX11_at 15 = .ok (.getfield 11, 3) := dx_180 (a := 0) (b := 11) (dl_at 0 15 lb_X11_at_0 rfl) (dl_at 0 16 lb_X11_at_0 rfl) (dl_at 0 17 lb_X11_at_0 rfl) rfl
theorem dX11_at_18 : decode cX11_at 18 = .ok (.iload_n 1, 1) := dx_27 (dl_at 0 18 lb_X11_at_0 rfl)
theorem dX11_at_19 : decode cX11_at 19 = .ok (.aaload, 1) := dx_50 (dl_at 0 19 lb_X11_at_0 rfl)
theorem dX11_at_20 : decode cX11_at 20 = .ok (.getfield 85, 3) := dx_180 (a := 0) (b := 85) (dl_at 0 20 lb_X11_at_0 rfl) (dl_at 0 21 lb_X11_at_0 rfl) (dl_at 0 22 lb_X11_at_0 rfl) rfl
theorem dX11_at_23 : decode cX11_at 23 = .ok (.iload_n 2, 1) := dx_28 (dl_at 0 23 lb_X11_at_0 rfl)
theorem dX11_at_24 : decode cX11_at 24 = .ok (.iaload, 1) := dx_46 (dl_at 0 24 lb_X11_at_0 rfl)
theorem dX11_at_25 : decode cX11_at 25 = .ok (.putfield 88, 3) := dx_181 (a := 0) (b := 88) (dl_at 0 25 lb_X11_at_0 rfl) (dl_at 0 26 lb_X11_at_0 rfl) (dl_at 0 27 lb_X11_at_0 rfl) rfl
theorem dX11_at_28 : decode cX11_at 28 = .ok (.iconst 1, 1) := dx_4 (dl_at 0 28 lb_X11_at_0 rfl)
theorem dX11_at_29 : decode cX11_at 29 = .ok (.ireturn, 1) := dx_172 (dl_at 0 29 lb_X11_at_0 rfl)
theorem dX11_at_11 : decode cX11_at 11 = .ok (.iload_n 3, 1) := dx_29 (dl_at 0 11 lb_X11_at_0 rfl)
theorem dX11_at_12 : decode cX11_at 12 = .ok (.ireturn, 1) := dx_172 (dl_at 0 12 lb_X11_at_0 rfl)
theorem lb_X11_tear_0 : dl_ck (cX11_tear.data.toList.drop 0) [42, 27, 182, 0, 92, 61, 28, 153, 0, 5, 28, 172, 42, 180, 0, 11, 27, 50, 2, 181, 0, 95, 4, 172] = true := by decide +kernel
theorem dX11_tear_0 : decode cX11_tear 0 = .ok (.aload_n 0, 1) := dx_42 (dl_at 0 0 lb_X11_tear_0 rfl)
theorem dX11_tear_1 : decode cX11_tear 1 = .ok (.iload_n 1, 1) := dx_27 (dl_at 0 1 lb_X11_tear_0 rfl)
theorem dX11_tear_2 : decode cX11_tear 2 = .ok (.invokevirtual 92, 3) := dx_182 (a := 0) (b := 92) (dl_at 0 2 lb_X11_tear_0 rfl) (dl_at 0 3 lb_X11_tear_0 rfl) (dl_at 0 4 lb_X11_tear_0 rfl) rfl
theorem dX11_tear_5 : decode cX11_tear 5 = .ok (.istore_n 2, 1) := dx_61 (dl_at 0 5 lb_X11_tear_0 rfl)
theorem dX11_tear_6 : decode cX11_tear 6 = .ok (.iload_n 2, 1) := dx_28 (dl_at 0 6 lb_X11_tear_0 rfl)
theorem dX11_tear_7 : decode cX11_tear 7 = .ok (.ifCond .eq 5, 3) := dx_153 (a := 0) (b := 5) (dl_at 0 7 lb_X11_tear_0 rfl) (dl_at 0 8 lb_X11_tear_0 rfl) (dl_at 0 9 lb_X11_tear_0 rfl) sg16_5
theorem dX11_tear_12 : decode cX11_tear 12 = .ok (.aload_n 0, 1) := dx_42 (dl_at 0 12 lb_X11_tear_0 rfl)
theorem dX11_tear_13 : decode cX11_tear 13 = .ok (.getfield 11, 3) := dx_180 (a := 0) (b := 11) (dl_at 0 13 lb_X11_tear_0 rfl) (dl_at 0 14 lb_X11_tear_0 rfl) (dl_at 0 15 lb_X11_tear_0 rfl) rfl
theorem dX11_tear_16 : decode cX11_tear 16 = .ok (.iload_n 1, 1) := dx_27 (dl_at 0 16 lb_X11_tear_0 rfl)
theorem dX11_tear_17 : decode cX11_tear 17 = .ok (.aaload, 1) := dx_50 (dl_at 0 17 lb_X11_tear_0 rfl)
theorem dX11_tear_18 : decode cX11_tear 18 = .ok (.iconst (-1), 1) := dx_2 (dl_at 0 18 lb_X11_tear_0 rfl)
theorem dX11_tear_19 : decode cX11_tear 19 = .ok (.putfield 95, 3) := dx_181 (a := 0) (b := 95) (dl_at 0 19 lb_X11_tear_0 rfl) (dl_at 0 20 lb_X11_tear_0 rfl) (dl_at 0 21 lb_X11_tear_0 rfl) rfl
theorem dX11_tear_22 : decode cX11_tear 22 = .ok (.iconst 1, 1) := dx_4 (dl_at 0 22 lb_X11_tear_0 rfl)
theorem dX11_tear_23 : decode cX11_tear 23 = .ok (.ireturn, 1) := dx_172 (dl_at 0 23 lb_X11_tear_0 rfl)
theorem dX11_tear_10 : decode cX11_tear 10 = .ok (.iload_n 2, 1) := dx_28 (dl_at 0 10 lb_X11_tear_0 rfl)
theorem dX11_tear_11 : decode cX11_tear 11 = .ok (.ireturn, 1) := dx_172 (dl_at 0 11 lb_X11_tear_0 rfl)
theorem lb_X11_put_0 : dl_ck (cX11_put.data.toList.drop 0) [42, 27, 182, 0, 118, 54, 4, 21, 4, 153, 0, 6, 21, 4, 172, 28, 155, 0, 16, 28, 42, 180, 0, 17, 27, 50, 180, 0, 121, 161, 0, 9] = true := by decide +kernel
theorem lb_X11_put_1 : dl_ck (cX11_put.data.toList.drop 32) [42, 5, 182, 0, 73, 172, 42, 180, 0, 17, 27, 50, 180, 0, 122, 28, 51, 54, 5, 42, 180, 0, 17, 27, 50, 180, 0, 122, 28, 29, 145, 84] = true := by decide +kernel
theorem lb_X11_put_2 : dl_ck (cX11_put.data.toList.drop 64) [21, 5, 17, 3, 232, 96, 172] = true := by decide +kernel
theorem dX11_put_0 : decode cX11_put 0 = .ok (.aload_n 0, 1) := dx_42 (dl_at 0 0 lb_X11_put_0 rfl)
theorem dX11_put_1 : decode cX11_put 1 = .ok (.iload_n 1, 1) := dx_27 (dl_at 0 1 lb_X11_put_0 rfl)
theorem dX11_put_2 : decode cX11_put 2 = .ok (.invokevirtual 118, 3) := dx_182 (a := 0) (b := 118) (dl_at 0 2 lb_X11_put_0 rfl) (dl_at 0 3 lb_X11_put_0 rfl) (dl_at 0 4 lb_X11_put_0 rfl) rfl
theorem dX11_put_5 : decode cX11_put 5 = .ok (.istore 4, 2) := dx_54 (dl_at 0 5 lb_X11_put_0 rfl) (dl_at 0 6 lb_X11_put_0 rfl)
theorem dX11_put_7 : decode cX11_put 7 = .ok (.iload 4, 2) := dx_21 (dl_at 0 7 lb_X11_put_0 rfl) (dl_at 0 8 lb_X11_put_0 rfl)
theorem dX11_put_9 : decode cX11_put 9 = .ok (.ifCond .eq 6, 3) := dx_153 (a := 0) (b := 6) (dl_at 0 9 lb_X11_put_0 rfl) (dl_at 0 10 lb_X11_put_0 rfl) (dl_at 0 11 lb_X11_put_0 rfl) sg16_6
theorem dX11_put_15 : decode cX11_put 15 = .ok (.iload_n 2, 1) := dx_28 (dl_at 0 15 lb_X11_put_0 rfl)
theorem dX11_put_16 : decode cX11_put 16 = .ok (.ifCond .lt 16, 3) := dx_155 (a := 0) (b := 16) (dl_at 0 16 lb_X11_put_0 rfl) (dl_at 0 17 lb_X11_put_0 rfl) (dl_at 0 18 lb_X11_put_0 rfl) sg16_16
theorem dX11_put_32 : decode cX11_put 32 = .ok (.aload_n 0, 1) := dx_42 (dl_at 32 0 lb_X11_put_1 rfl)
theorem dX11_put_33 : decode cX11_put 33 = .ok (.iconst 2, 1) := dx_5 (dl_at 32 1 lb_X11_put_1 rfl)
theorem dX11_put_34 : decode cX11_put 34 = .ok (.invokevirtual 73, 3) := dx_182 (a := 0) (b := 73) (dl_at 32 2 lb_X11_put_1 rfl) (dl_at 32 3 lb_X11_put_1 rfl) (dl_at 32 4 lb_X11_put_1 rfl) rfl
theorem dX11_put_37 : decode cX11_put 37 = .ok (.ireturn, 1) := dx_172 (dl_at 32 5 lb_X11_put_1 rfl)
theorem dX11_put_19 : decode cX11_put 19 = .ok (.iload_n 2, 1) := dx_28 (dl_at 0 19 lb_X11_put_0 rfl)
theorem dX11_put_20 : decode cX11_put 20 = .ok (.aload_n 0, 1) := dx_42 (dl_at 0 20 lb_X11_put_0 rfl)
theorem dX11_put_21 : decode cX11_put 21 = .ok (.getfield 17, 3) := dx_180 (a := 0) (b := 17) (dl_at 0 21 lb_X11_put_0 rfl) (dl_at 0 22 lb_X11_put_0 rfl) (dl_at 0 23 lb_X11_put_0 rfl) rfl
theorem dX11_put_24 : decode cX11_put 24 = .ok (.iload_n 1, 1) := dx_27 (dl_at 0 24 lb_X11_put_0 rfl)
theorem dX11_put_25 : decode cX11_put 25 = .ok (.aaload, 1) := dx_50 (dl_at 0 25 lb_X11_put_0 rfl)
theorem dX11_put_26 : decode cX11_put 26 = .ok (.getfield 121, 3) := dx_180 (a := 0) (b := 121) (dl_at 0 26 lb_X11_put_0 rfl) (dl_at 0 27 lb_X11_put_0 rfl) (dl_at 0 28 lb_X11_put_0 rfl) rfl
theorem dX11_put_29 : decode cX11_put 29 = .ok (.if_icmp .lt 9, 3) := dx_161 (a := 0) (b := 9) (dl_at 0 29 lb_X11_put_0 rfl) (dl_at 0 30 lb_X11_put_0 rfl) (dl_at 0 31 lb_X11_put_0 rfl) sg16_9
theorem dX11_put_38 : decode cX11_put 38 = .ok (.aload_n 0, 1) := dx_42 (dl_at 32 6 lb_X11_put_1 rfl)
theorem dX11_put_39 : decode cX11_put 39 = .ok (.getfield 17, 3) := dx_180 (a := 0) (b := 17) (dl_at 32 7 lb_X11_put_1 rfl) (dl_at 32 8 lb_X11_put_1 rfl) (dl_at 32 9 lb_X11_put_1 rfl) rfl
theorem dX11_put_42 : decode cX11_put 42 = .ok (.iload_n 1, 1) := dx_27 (dl_at 32 10 lb_X11_put_1 rfl)
theorem dX11_put_43 : decode cX11_put 43 = .ok (.aaload, 1) := dx_50 (dl_at 32 11 lb_X11_put_1 rfl)
theorem dX11_put_44 : decode cX11_put 44 = .ok (.getfield 122, 3) := dx_180 (a := 0) (b := 122) (dl_at 32 12 lb_X11_put_1 rfl) (dl_at 32 13 lb_X11_put_1 rfl) (dl_at 32 14 lb_X11_put_1 rfl) rfl
theorem dX11_put_47 : decode cX11_put 47 = .ok (.iload_n 2, 1) := dx_28 (dl_at 32 15 lb_X11_put_1 rfl)
theorem dX11_put_48 : decode cX11_put 48 = .ok (.baload, 1) := dx_51 (dl_at 32 16 lb_X11_put_1 rfl)
theorem dX11_put_49 : decode cX11_put 49 = .ok (.istore 5, 2) := dx_54 (dl_at 32 17 lb_X11_put_1 rfl) (dl_at 32 18 lb_X11_put_1 rfl)
theorem dX11_put_51 : decode cX11_put 51 = .ok (.aload_n 0, 1) := dx_42 (dl_at 32 19 lb_X11_put_1 rfl)
theorem dX11_put_52 : decode cX11_put 52 = .ok (.getfield 17, 3) := dx_180 (a := 0) (b := 17) (dl_at 32 20 lb_X11_put_1 rfl) (dl_at 32 21 lb_X11_put_1 rfl) (dl_at 32 22 lb_X11_put_1 rfl) rfl
theorem dX11_put_55 : decode cX11_put 55 = .ok (.iload_n 1, 1) := dx_27 (dl_at 32 23 lb_X11_put_1 rfl)
theorem dX11_put_56 : decode cX11_put 56 = .ok (.aaload, 1) := dx_50 (dl_at 32 24 lb_X11_put_1 rfl)
theorem dX11_put_57 : decode cX11_put 57 = .ok (.getfield 122, 3) := dx_180 (a := 0) (b := 122) (dl_at 32 25 lb_X11_put_1 rfl) (dl_at 32 26 lb_X11_put_1 rfl) (dl_at 32 27 lb_X11_put_1 rfl) rfl
theorem dX11_put_60 : decode cX11_put 60 = .ok (.iload_n 2, 1) := dx_28 (dl_at 32 28 lb_X11_put_1 rfl)
theorem dX11_put_61 : decode cX11_put 61 = .ok (.iload_n 3, 1) := dx_29 (dl_at 32 29 lb_X11_put_1 rfl)
theorem dX11_put_62 : decode cX11_put 62 = .ok (.i2b, 1) := dx_145 (dl_at 32 30 lb_X11_put_1 rfl)
theorem dX11_put_63 : decode cX11_put 63 = .ok (.bastore, 1) := dx_84 (dl_at 32 31 lb_X11_put_1 rfl)
theorem dX11_put_64 : decode cX11_put 64 = .ok (.iload 5, 2) := dx_21 (dl_at 64 0 lb_X11_put_2 rfl) (dl_at 64 1 lb_X11_put_2 rfl)
theorem dX11_put_66 : decode cX11_put 66 = .ok (.sipush 1000, 3) := dx_17 (a := 3) (b := 232) (dl_at 64 2 lb_X11_put_2 rfl) (dl_at 64 3 lb_X11_put_2 rfl) (dl_at 64 4 lb_X11_put_2 rfl) sg16_1000
theorem dX11_put_69 : decode cX11_put 69 = .ok (.iadd, 1) := dx_96 (dl_at 64 5 lb_X11_put_2 rfl)
theorem dX11_put_70 : decode cX11_put 70 = .ok (.ireturn, 1) := dx_172 (dl_at 64 6 lb_X11_put_2 rfl)
theorem dX11_put_12 : decode cX11_put 12 = .ok (.iload 4, 2) := dx_21 (dl_at 0 12 lb_X11_put_0 rfl) (dl_at 0 13 lb_X11_put_0 rfl)
theorem dX11_put_14 : decode cX11_put 14 = .ok (.ireturn, 1) := dx_172 (dl_at 0 14 lb_X11_put_0 rfl)
theorem lb_X11_purse_0 : dl_ck (cX11_purse.data.toList.drop 0) [42, 180, 0, 30, 27, 182, 0, 142, 153, 0, 14, 28, 155, 0, 10, 28, 17, 3, 231, 164, 0, 5, 2, 172, 42, 180, 0, 30, 180, 0, 166, 180] = true := by decide +kernel
theorem lb_X11_purse_1 : dl_ck (cX11_purse.data.toList.drop 32) [0, 170, 27, 46, 62, 42, 180, 0, 30, 180, 0, 166, 180, 0, 170, 27, 28, 79, 29, 172] = true := by decide +kernel
theorem dX11_purse_0 : decode cX11_purse 0 = .ok (.aload_n 0, 1) := dx_42 (dl_at 0 0 lb_X11_purse_0 rfl)
theorem dX11_purse_1 : decode cX11_purse 1 = .ok (.getfield 30, 3) := dx_180 (a := 0) (b := 30) (dl_at 0 1 lb_X11_purse_0 rfl) (dl_at 0 2 lb_X11_purse_0 rfl) (dl_at 0 3 lb_X11_purse_0 rfl) rfl
theorem dX11_purse_4 : decode cX11_purse 4 = .ok (.iload_n 1, 1) := dx_27 (dl_at 0 4 lb_X11_purse_0 rfl)
theorem dX11_purse_5 : decode cX11_purse 5 = .ok (.invokevirtual 142, 3) := dx_182 (a := 0) (b := 142) (dl_at 0 5 lb_X11_purse_0 rfl) (dl_at 0 6 lb_X11_purse_0 rfl) (dl_at 0 7 lb_X11_purse_0 rfl) rfl
theorem dX11_purse_8 : decode cX11_purse 8 = .ok (.ifCond .eq 14, 3) := dx_153 (a := 0) (b := 14) (dl_at 0 8 lb_X11_purse_0 rfl) (dl_at 0 9 lb_X11_purse_0 rfl) (dl_at 0 10 lb_X11_purse_0 rfl) sg16_14
theorem dX11_purse_11 : decode cX11_purse 11 = .ok (.iload_n 2, 1) := dx_28 (dl_at 0 11 lb_X11_purse_0 rfl)
theorem dX11_purse_12 : decode cX11_purse 12 = .ok (.ifCond .lt 10, 3) := dx_155 (a := 0) (b := 10) (dl_at 0 12 lb_X11_purse_0 rfl) (dl_at 0 13 lb_X11_purse_0 rfl) (dl_at 0 14 lb_X11_purse_0 rfl) sg16_10
theorem dX11_purse_22 : decode cX11_purse 22 = .ok (.iconst (-1), 1) := dx_2 (dl_at 0 22 lb_X11_purse_0 rfl)
theorem dX11_purse_23 : decode cX11_purse 23 = .ok (.ireturn, 1) := dx_172 (dl_at 0 23 lb_X11_purse_0 rfl)
theorem dX11_purse_15 : decode cX11_purse 15 = .ok (.iload_n 2, 1) := dx_28 (dl_at 0 15 lb_X11_purse_0 rfl)
theorem dX11_purse_16 : decode cX11_purse 16 = .ok (.sipush 999, 3) := dx_17 (a := 3) (b := 231) (dl_at 0 16 lb_X11_purse_0 rfl) (dl_at 0 17 lb_X11_purse_0 rfl) (dl_at 0 18 lb_X11_purse_0 rfl) sg16_999
theorem dX11_purse_19 : decode cX11_purse 19 = .ok (.if_icmp .le 5, 3) := dx_164 (a := 0) (b := 5) (dl_at 0 19 lb_X11_purse_0 rfl) (dl_at 0 20 lb_X11_purse_0 rfl) (dl_at 0 21 lb_X11_purse_0 rfl) sg16_5
theorem dX11_purse_24 : decode cX11_purse 24 = .ok (.aload_n 0, 1) := dx_42 (dl_at 0 24 lb_X11_purse_0 rfl)
theorem dX11_purse_25 : decode cX11_purse 25 = .ok (.getfield 30, 3) := dx_180 (a := 0) (b := 30) (dl_at 0 25 lb_X11_purse_0 rfl) (dl_at 0 26 lb_X11_purse_0 rfl) (dl_at 0 27 lb_X11_purse_0 rfl) rfl
theorem dX11_purse_28 : decode cX11_purse 28 = .ok (.getfield 166, 3) := dx_180 (a := 0) (b := 166) (dl_at 0 28 lb_X11_purse_0 rfl) (dl_at 0 29 lb_X11_purse_0 rfl) (dl_at 0 30 lb_X11_purse_0 rfl) rfl
theorem dX11_purse_31 : decode cX11_purse 31 = .ok (.getfield 170, 3) := dx_180 (a := 0) (b := 170) (dl_at 0 31 lb_X11_purse_0 rfl) (dl_at 32 0 lb_X11_purse_1 rfl) (dl_at 32 1 lb_X11_purse_1 rfl) rfl
theorem dX11_purse_34 : decode cX11_purse 34 = .ok (.iload_n 1, 1) := dx_27 (dl_at 32 2 lb_X11_purse_1 rfl)
theorem dX11_purse_35 : decode cX11_purse 35 = .ok (.iaload, 1) := dx_46 (dl_at 32 3 lb_X11_purse_1 rfl)
theorem dX11_purse_36 : decode cX11_purse 36 = .ok (.istore_n 3, 1) := dx_62 (dl_at 32 4 lb_X11_purse_1 rfl)
theorem dX11_purse_37 : decode cX11_purse 37 = .ok (.aload_n 0, 1) := dx_42 (dl_at 32 5 lb_X11_purse_1 rfl)
theorem dX11_purse_38 : decode cX11_purse 38 = .ok (.getfield 30, 3) := dx_180 (a := 0) (b := 30) (dl_at 32 6 lb_X11_purse_1 rfl) (dl_at 32 7 lb_X11_purse_1 rfl) (dl_at 32 8 lb_X11_purse_1 rfl) rfl
theorem dX11_purse_41 : decode cX11_purse 41 = .ok (.getfield 166, 3) := dx_180 (a := 0) (b := 166) (dl_at 32 9 lb_X11_purse_1 rfl) (dl_at 32 10 lb_X11_purse_1 rfl) (dl_at 32 11 lb_X11_purse_1 rfl) rfl
theorem dX11_purse_44 : decode cX11_purse 44 = .ok (.getfield 170, 3) := dx_180 (a := 0) (b := 170) (dl_at 32 12 lb_X11_purse_1 rfl) (dl_at 32 13 lb_X11_purse_1 rfl) (dl_at 32 14 lb_X11_purse_1 rfl) rfl
theorem dX11_purse_47 : decode cX11_purse 47 = .ok (.iload_n 1, 1) := dx_27 (dl_at 32 15 lb_X11_purse_1 rfl)
theorem dX11_purse_48 : decode cX11_purse 48 = .ok (.iload_n 2, 1) := dx_28 (dl_at 32 16 lb_X11_purse_1 rfl)
theorem dX11_purse_49 : decode cX11_purse 49 = .ok (.iastore, 1) := dx_79 (dl_at 32 17 lb_X11_purse_1 rfl)
theorem dX11_purse_50 : decode cX11_purse 50 = .ok (.iload_n 3, 1) := dx_29 (dl_at 32 18 lb_X11_purse_1 rfl)
theorem dX11_purse_51 : decode cX11_purse 51 = .ok (.ireturn, 1) := dx_172 (dl_at 32 19 lb_X11_purse_1 rfl)
theorem lb_X11_days_0 : dl_ck (cX11_days.data.toList.drop 0) [27, 155, 0, 9, 27, 16, 20, 164, 0, 5, 2, 172, 42, 180, 0, 30, 180, 0, 166, 180, 0, 192, 27, 96, 16, 99, 164, 0, 6, 16, 254, 172] = true := by decide +kernel
theorem lb_X11_days_1 : dl_ck (cX11_days.data.toList.drop 32) [42, 180, 0, 30, 180, 0, 166, 89, 180, 0, 192, 27, 96, 181, 0, 192, 42, 180, 0, 30, 180, 0, 166, 180, 0, 192, 172] = true := by decide +kernel
theorem dX11_days_0 : decode cX11_days 0 = .ok (.iload_n 1, 1) := dx_27 (dl_at 0 0 lb_X11_days_0 rfl)
theorem dX11_days_1 : decode cX11_days 1 = .ok (.ifCond .lt 9, 3) := dx_155 (a := 0) (b := 9) (dl_at 0 1 lb_X11_days_0 rfl) (dl_at 0 2 lb_X11_days_0 rfl) (dl_at 0 3 lb_X11_days_0 rfl) sg16_9
theorem dX11_days_10 : decode cX11_days 10 = .ok (.iconst (-1), 1) := dx_2 (dl_at 0 10 lb_X11_days_0 rfl)
theorem dX11_days_11 : decode cX11_days 11 = .ok (.ireturn, 1) := dx_172 (dl_at 0 11 lb_X11_days_0 rfl)
theorem dX11_days_4 : decode cX11_days 4 = .ok (.iload_n 1, 1) := dx_27 (dl_at 0 4 lb_X11_days_0 rfl)
theorem dX11_days_5 : decode cX11_days 5 = .ok (.bipush 20, 2) := dx_16 (dl_at 0 5 lb_X11_days_0 rfl) (dl_at 0 6 lb_X11_days_0 rfl) sg8_20
theorem dX11_days_7 : decode cX11_days 7 = .ok (.if_icmp .le 5, 3) := dx_164 (a := 0) (b := 5) (dl_at 0 7 lb_X11_days_0 rfl) (dl_at 0 8 lb_X11_days_0 rfl) (dl_at 0 9 lb_X11_days_0 rfl) sg16_5
theorem dX11_days_12 : decode cX11_days 12 = .ok (.aload_n 0, 1) := dx_42 (dl_at 0 12 lb_X11_days_0 rfl)
theorem dX11_days_13 : decode cX11_days 13 = .ok (.getfield 30, 3) := dx_180 (a := 0) (b := 30) (dl_at 0 13 lb_X11_days_0 rfl) (dl_at 0 14 lb_X11_days_0 rfl) (dl_at 0 15 lb_X11_days_0 rfl) rfl
theorem dX11_days_16 : decode cX11_days 16 = .ok (.getfield 166, 3) := dx_180 (a := 0) (b := 166) (dl_at 0 16 lb_X11_days_0 rfl) (dl_at 0 17 lb_X11_days_0 rfl) (dl_at 0 18 lb_X11_days_0 rfl) rfl
theorem dX11_days_19 : decode cX11_days 19 = .ok (.getfield 192, 3) := dx_180 (a := 0) (b := 192) (dl_at 0 19 lb_X11_days_0 rfl) (dl_at 0 20 lb_X11_days_0 rfl) (dl_at 0 21 lb_X11_days_0 rfl) rfl
theorem dX11_days_22 : decode cX11_days 22 = .ok (.iload_n 1, 1) := dx_27 (dl_at 0 22 lb_X11_days_0 rfl)
theorem dX11_days_23 : decode cX11_days 23 = .ok (.iadd, 1) := dx_96 (dl_at 0 23 lb_X11_days_0 rfl)
theorem dX11_days_24 : decode cX11_days 24 = .ok (.bipush 99, 2) := dx_16 (dl_at 0 24 lb_X11_days_0 rfl) (dl_at 0 25 lb_X11_days_0 rfl) sg8_99
theorem dX11_days_26 : decode cX11_days 26 = .ok (.if_icmp .le 6, 3) := dx_164 (a := 0) (b := 6) (dl_at 0 26 lb_X11_days_0 rfl) (dl_at 0 27 lb_X11_days_0 rfl) (dl_at 0 28 lb_X11_days_0 rfl) sg16_6
theorem dX11_days_32 : decode cX11_days 32 = .ok (.aload_n 0, 1) := dx_42 (dl_at 32 0 lb_X11_days_1 rfl)
theorem dX11_days_33 : decode cX11_days 33 = .ok (.getfield 30, 3) := dx_180 (a := 0) (b := 30) (dl_at 32 1 lb_X11_days_1 rfl) (dl_at 32 2 lb_X11_days_1 rfl) (dl_at 32 3 lb_X11_days_1 rfl) rfl
theorem dX11_days_36 : decode cX11_days 36 = .ok (.getfield 166, 3) := dx_180 (a := 0) (b := 166) (dl_at 32 4 lb_X11_days_1 rfl) (dl_at 32 5 lb_X11_days_1 rfl) (dl_at 32 6 lb_X11_days_1 rfl) rfl
theorem dX11_days_39 : decode cX11_days 39 = .ok (.dup, 1) := dx_89 (dl_at 32 7 lb_X11_days_1 rfl)
theorem dX11_days_40 : decode cX11_days 40 = .ok (.getfield 192, 3) := dx_180 (a := 0) (b := 192) (dl_at 32 8 lb_X11_days_1 rfl) (dl_at 32 9 lb_X11_days_1 rfl) (dl_at 32 10 lb_X11_days_1 rfl) rfl
theorem dX11_days_43 : decode cX11_days 43 = .ok (.iload_n 1, 1) := dx_27 (dl_at 32 11 lb_X11_days_1 rfl)
theorem dX11_days_44 : decode cX11_days 44 = .ok (.iadd, 1) := dx_96 (dl_at 32 12 lb_X11_days_1 rfl)
theorem dX11_days_45 : decode cX11_days 45 = .ok (.putfield 192, 3) := dx_181 (a := 0) (b := 192) (dl_at 32 13 lb_X11_days_1 rfl) (dl_at 32 14 lb_X11_days_1 rfl) (dl_at 32 15 lb_X11_days_1 rfl) rfl
theorem dX11_days_48 : decode cX11_days 48 = .ok (.aload_n 0, 1) := dx_42 (dl_at 32 16 lb_X11_days_1 rfl)
theorem dX11_days_49 : decode cX11_days 49 = .ok (.getfield 30, 3) := dx_180 (a := 0) (b := 30) (dl_at 32 17 lb_X11_days_1 rfl) (dl_at 32 18 lb_X11_days_1 rfl) (dl_at 32 19 lb_X11_days_1 rfl) rfl
theorem dX11_days_52 : decode cX11_days 52 = .ok (.getfield 166, 3) := dx_180 (a := 0) (b := 166) (dl_at 32 20 lb_X11_days_1 rfl) (dl_at 32 21 lb_X11_days_1 rfl) (dl_at 32 22 lb_X11_days_1 rfl) rfl
theorem dX11_days_55 : decode cX11_days 55 = .ok (.getfield 192, 3) := dx_180 (a := 0) (b := 192) (dl_at 32 23 lb_X11_days_1 rfl) (dl_at 32 24 lb_X11_days_1 rfl) (dl_at 32 25 lb_X11_days_1 rfl) rfl
theorem dX11_days_58 : decode cX11_days 58 = .ok (.ireturn, 1) := dx_172 (dl_at 32 26 lb_X11_days_1 rfl)
theorem dX11_days_29 : decode cX11_days 29 = .ok (.bipush (-2), 2) := dx_16 (dl_at 0 29 lb_X11_days_0 rfl) (dl_at 0 30 lb_X11_days_0 rfl) sg8_254
theorem dX11_days_31 : decode cX11_days 31 = .ok (.ireturn, 1) := dx_172 (dl_at 0 31 lb_X11_days_0 rfl)
theorem lb_X11_beside_0 : dl_ck (cX11_beside.data.toList.drop 0) [42, 180, 0, 30, 27, 182, 0, 142, 154, 0, 5, 2, 172, 42, 180, 0, 30, 27, 42, 180, 0, 30, 180, 0, 166, 180, 0, 176, 182, 0, 179, 172] = true := by decide +kernel
theorem dX11_beside_0 : decode cX11_beside 0 = .ok (.aload_n 0, 1) := dx_42 (dl_at 0 0 lb_X11_beside_0 rfl)
theorem dX11_beside_1 : decode cX11_beside 1 = .ok (.getfield 30, 3) := dx_180 (a := 0) (b := 30) (dl_at 0 1 lb_X11_beside_0 rfl) (dl_at 0 2 lb_X11_beside_0 rfl) (dl_at 0 3 lb_X11_beside_0 rfl) rfl
theorem dX11_beside_4 : decode cX11_beside 4 = .ok (.iload_n 1, 1) := dx_27 (dl_at 0 4 lb_X11_beside_0 rfl)
theorem dX11_beside_5 : decode cX11_beside 5 = .ok (.invokevirtual 142, 3) := dx_182 (a := 0) (b := 142) (dl_at 0 5 lb_X11_beside_0 rfl) (dl_at 0 6 lb_X11_beside_0 rfl) (dl_at 0 7 lb_X11_beside_0 rfl) rfl
theorem dX11_beside_8 : decode cX11_beside 8 = .ok (.ifCond .ne 5, 3) := dx_154 (a := 0) (b := 5) (dl_at 0 8 lb_X11_beside_0 rfl) (dl_at 0 9 lb_X11_beside_0 rfl) (dl_at 0 10 lb_X11_beside_0 rfl) sg16_5
theorem dX11_beside_13 : decode cX11_beside 13 = .ok (.aload_n 0, 1) := dx_42 (dl_at 0 13 lb_X11_beside_0 rfl)
theorem dX11_beside_14 : decode cX11_beside 14 = .ok (.getfield 30, 3) := dx_180 (a := 0) (b := 30) (dl_at 0 14 lb_X11_beside_0 rfl) (dl_at 0 15 lb_X11_beside_0 rfl) (dl_at 0 16 lb_X11_beside_0 rfl) rfl
theorem dX11_beside_17 : decode cX11_beside 17 = .ok (.iload_n 1, 1) := dx_27 (dl_at 0 17 lb_X11_beside_0 rfl)
theorem dX11_beside_18 : decode cX11_beside 18 = .ok (.aload_n 0, 1) := dx_42 (dl_at 0 18 lb_X11_beside_0 rfl)
theorem dX11_beside_19 : decode cX11_beside 19 = .ok (.getfield 30, 3) := dx_180 (a := 0) (b := 30) (dl_at 0 19 lb_X11_beside_0 rfl) (dl_at 0 20 lb_X11_beside_0 rfl) (dl_at 0 21 lb_X11_beside_0 rfl) rfl
theorem dX11_beside_22 : decode cX11_beside 22 = .ok (.getfield 166, 3) := dx_180 (a := 0) (b := 166) (dl_at 0 22 lb_X11_beside_0 rfl) (dl_at 0 23 lb_X11_beside_0 rfl) (dl_at 0 24 lb_X11_beside_0 rfl) rfl
theorem dX11_beside_25 : decode cX11_beside 25 = .ok (.getfield 176, 3) := dx_180 (a := 0) (b := 176) (dl_at 0 25 lb_X11_beside_0 rfl) (dl_at 0 26 lb_X11_beside_0 rfl) (dl_at 0 27 lb_X11_beside_0 rfl) rfl
theorem dX11_beside_28 : decode cX11_beside 28 = .ok (.invokevirtual 179, 3) := dx_182 (a := 0) (b := 179) (dl_at 0 28 lb_X11_beside_0 rfl) (dl_at 0 29 lb_X11_beside_0 rfl) (dl_at 0 30 lb_X11_beside_0 rfl) rfl
theorem dX11_beside_31 : decode cX11_beside 31 = .ok (.ireturn, 1) := dx_172 (dl_at 0 31 lb_X11_beside_0 rfl)
theorem dX11_beside_11 : decode cX11_beside 11 = .ok (.iconst (-1), 1) := dx_2 (dl_at 0 11 lb_X11_beside_0 rfl)
theorem dX11_beside_12 : decode cX11_beside 12 = .ok (.ireturn, 1) := dx_172 (dl_at 0 12 lb_X11_beside_0 rfl)
theorem lb_X11_asks_0 : dl_ck (cX11_asks.data.toList.drop 0) [42, 180, 0, 30, 27, 182, 0, 142, 153, 0, 14, 28, 155, 0, 10, 28, 17, 3, 231, 164, 0, 5, 2, 172, 42, 180, 0, 30, 180, 0, 148, 27] = true := by decide +kernel
theorem lb_X11_asks_1 : dl_ck (cX11_asks.data.toList.drop 32) [46, 28, 184, 0, 154, 172] = true := by decide +kernel
theorem dX11_asks_0 : decode cX11_asks 0 = .ok (.aload_n 0, 1) := dx_42 (dl_at 0 0 lb_X11_asks_0 rfl)
theorem dX11_asks_1 : decode cX11_asks 1 = .ok (.getfield 30, 3) := dx_180 (a := 0) (b := 30) (dl_at 0 1 lb_X11_asks_0 rfl) (dl_at 0 2 lb_X11_asks_0 rfl) (dl_at 0 3 lb_X11_asks_0 rfl) rfl
theorem dX11_asks_4 : decode cX11_asks 4 = .ok (.iload_n 1, 1) := dx_27 (dl_at 0 4 lb_X11_asks_0 rfl)
theorem dX11_asks_5 : decode cX11_asks 5 = .ok (.invokevirtual 142, 3) := dx_182 (a := 0) (b := 142) (dl_at 0 5 lb_X11_asks_0 rfl) (dl_at 0 6 lb_X11_asks_0 rfl) (dl_at 0 7 lb_X11_asks_0 rfl) rfl
theorem dX11_asks_8 : decode cX11_asks 8 = .ok (.ifCond .eq 14, 3) := dx_153 (a := 0) (b := 14) (dl_at 0 8 lb_X11_asks_0 rfl) (dl_at 0 9 lb_X11_asks_0 rfl) (dl_at 0 10 lb_X11_asks_0 rfl) sg16_14
theorem dX11_asks_11 : decode cX11_asks 11 = .ok (.iload_n 2, 1) := dx_28 (dl_at 0 11 lb_X11_asks_0 rfl)
theorem dX11_asks_12 : decode cX11_asks 12 = .ok (.ifCond .lt 10, 3) := dx_155 (a := 0) (b := 10) (dl_at 0 12 lb_X11_asks_0 rfl) (dl_at 0 13 lb_X11_asks_0 rfl) (dl_at 0 14 lb_X11_asks_0 rfl) sg16_10
theorem dX11_asks_22 : decode cX11_asks 22 = .ok (.iconst (-1), 1) := dx_2 (dl_at 0 22 lb_X11_asks_0 rfl)
theorem dX11_asks_23 : decode cX11_asks 23 = .ok (.ireturn, 1) := dx_172 (dl_at 0 23 lb_X11_asks_0 rfl)
theorem dX11_asks_15 : decode cX11_asks 15 = .ok (.iload_n 2, 1) := dx_28 (dl_at 0 15 lb_X11_asks_0 rfl)
theorem dX11_asks_16 : decode cX11_asks 16 = .ok (.sipush 999, 3) := dx_17 (a := 3) (b := 231) (dl_at 0 16 lb_X11_asks_0 rfl) (dl_at 0 17 lb_X11_asks_0 rfl) (dl_at 0 18 lb_X11_asks_0 rfl) sg16_999
theorem dX11_asks_19 : decode cX11_asks 19 = .ok (.if_icmp .le 5, 3) := dx_164 (a := 0) (b := 5) (dl_at 0 19 lb_X11_asks_0 rfl) (dl_at 0 20 lb_X11_asks_0 rfl) (dl_at 0 21 lb_X11_asks_0 rfl) sg16_5
theorem dX11_asks_24 : decode cX11_asks 24 = .ok (.aload_n 0, 1) := dx_42 (dl_at 0 24 lb_X11_asks_0 rfl)
theorem dX11_asks_25 : decode cX11_asks 25 = .ok (.getfield 30, 3) := dx_180 (a := 0) (b := 30) (dl_at 0 25 lb_X11_asks_0 rfl) (dl_at 0 26 lb_X11_asks_0 rfl) (dl_at 0 27 lb_X11_asks_0 rfl) rfl
theorem dX11_asks_28 : decode cX11_asks 28 = .ok (.getfield 148, 3) := dx_180 (a := 0) (b := 148) (dl_at 0 28 lb_X11_asks_0 rfl) (dl_at 0 29 lb_X11_asks_0 rfl) (dl_at 0 30 lb_X11_asks_0 rfl) rfl
theorem dX11_asks_31 : decode cX11_asks 31 = .ok (.iload_n 1, 1) := dx_27 (dl_at 0 31 lb_X11_asks_0 rfl)
theorem dX11_asks_32 : decode cX11_asks 32 = .ok (.iaload, 1) := dx_46 (dl_at 32 0 lb_X11_asks_1 rfl)
theorem dX11_asks_33 : decode cX11_asks 33 = .ok (.iload_n 2, 1) := dx_28 (dl_at 32 1 lb_X11_asks_1 rfl)
theorem dX11_asks_34 : decode cX11_asks 34 = .ok (.invokestatic 154, 3) := dx_184 (a := 0) (b := 154) (dl_at 32 2 lb_X11_asks_1 rfl) (dl_at 32 3 lb_X11_asks_1 rfl) (dl_at 32 4 lb_X11_asks_1 rfl) rfl
theorem dX11_asks_37 : decode cX11_asks 37 = .ok (.ireturn, 1) := dx_172 (dl_at 32 5 lb_X11_asks_1 rfl)
theorem lb_X11_where_0 : dl_ck (cX11_where.data.toList.drop 0) [42, 27, 3, 182, 0, 201, 61, 28, 153, 0, 5, 28, 172, 42, 42, 180, 0, 30, 180, 0, 166, 180, 0, 188, 27, 50, 180, 0, 222, 181, 0, 88] = true := by decide +kernel
theorem lb_X11_where_1 : dl_ck (cX11_where.data.toList.drop 32) [42, 180, 0, 30, 180, 0, 166, 180, 0, 188, 27, 50, 180, 0, 225, 172] = true := by decide +kernel
theorem dX11_where_0 : decode cX11_where 0 = .ok (.aload_n 0, 1) := dx_42 (dl_at 0 0 lb_X11_where_0 rfl)
theorem dX11_where_1 : decode cX11_where 1 = .ok (.iload_n 1, 1) := dx_27 (dl_at 0 1 lb_X11_where_0 rfl)
theorem dX11_where_2 : decode cX11_where 2 = .ok (.iconst 0, 1) := dx_3 (dl_at 0 2 lb_X11_where_0 rfl)
theorem dX11_where_3 : decode cX11_where 3 = .ok (.invokevirtual 201, 3) := dx_182 (a := 0) (b := 201) (dl_at 0 3 lb_X11_where_0 rfl) (dl_at 0 4 lb_X11_where_0 rfl) (dl_at 0 5 lb_X11_where_0 rfl) rfl
theorem dX11_where_6 : decode cX11_where 6 = .ok (.istore_n 2, 1) := dx_61 (dl_at 0 6 lb_X11_where_0 rfl)
theorem dX11_where_7 : decode cX11_where 7 = .ok (.iload_n 2, 1) := dx_28 (dl_at 0 7 lb_X11_where_0 rfl)
theorem dX11_where_8 : decode cX11_where 8 = .ok (.ifCond .eq 5, 3) := dx_153 (a := 0) (b := 5) (dl_at 0 8 lb_X11_where_0 rfl) (dl_at 0 9 lb_X11_where_0 rfl) (dl_at 0 10 lb_X11_where_0 rfl) sg16_5
theorem dX11_where_13 : decode cX11_where 13 = .ok (.aload_n 0, 1) := dx_42 (dl_at 0 13 lb_X11_where_0 rfl)
theorem dX11_where_14 : decode cX11_where 14 = .ok (.aload_n 0, 1) := dx_42 (dl_at 0 14 lb_X11_where_0 rfl)
theorem dX11_where_15 : decode cX11_where 15 = .ok (.getfield 30, 3) := dx_180 (a := 0) (b := 30) (dl_at 0 15 lb_X11_where_0 rfl) (dl_at 0 16 lb_X11_where_0 rfl) (dl_at 0 17 lb_X11_where_0 rfl) rfl
theorem dX11_where_18 : decode cX11_where 18 = .ok (.getfield 166, 3) := dx_180 (a := 0) (b := 166) (dl_at 0 18 lb_X11_where_0 rfl) (dl_at 0 19 lb_X11_where_0 rfl) (dl_at 0 20 lb_X11_where_0 rfl) rfl
theorem dX11_where_21 : decode cX11_where 21 = .ok (.getfield 188, 3) := dx_180 (a := 0) (b := 188) (dl_at 0 21 lb_X11_where_0 rfl) (dl_at 0 22 lb_X11_where_0 rfl) (dl_at 0 23 lb_X11_where_0 rfl) rfl
theorem dX11_where_24 : decode cX11_where 24 = .ok (.iload_n 1, 1) := dx_27 (dl_at 0 24 lb_X11_where_0 rfl)
theorem dX11_where_25 : decode cX11_where 25 = .ok (.aaload, 1) := dx_50 (dl_at 0 25 lb_X11_where_0 rfl)
theorem dX11_where_26 : decode cX11_where 26 = .ok (.getfield 222, 3) := dx_180 (a := 0) (b := 222) (dl_at 0 26 lb_X11_where_0 rfl) (dl_at 0 27 lb_X11_where_0 rfl) (dl_at 0 28 lb_X11_where_0 rfl) rfl
theorem dX11_where_29 : decode cX11_where 29 = .ok (.putfield 88, 3) := dx_181 (a := 0) (b := 88) (dl_at 0 29 lb_X11_where_0 rfl) (dl_at 0 30 lb_X11_where_0 rfl) (dl_at 0 31 lb_X11_where_0 rfl) rfl
theorem dX11_where_32 : decode cX11_where 32 = .ok (.aload_n 0, 1) := dx_42 (dl_at 32 0 lb_X11_where_1 rfl)
theorem dX11_where_33 : decode cX11_where 33 = .ok (.getfield 30, 3) := dx_180 (a := 0) (b := 30) (dl_at 32 1 lb_X11_where_1 rfl) (dl_at 32 2 lb_X11_where_1 rfl) (dl_at 32 3 lb_X11_where_1 rfl) rfl
theorem dX11_where_36 : decode cX11_where 36 = .ok (.getfield 166, 3) := dx_180 (a := 0) (b := 166) (dl_at 32 4 lb_X11_where_1 rfl) (dl_at 32 5 lb_X11_where_1 rfl) (dl_at 32 6 lb_X11_where_1 rfl) rfl
theorem dX11_where_39 : decode cX11_where 39 = .ok (.getfield 188, 3) := dx_180 (a := 0) (b := 188) (dl_at 32 7 lb_X11_where_1 rfl) (dl_at 32 8 lb_X11_where_1 rfl) (dl_at 32 9 lb_X11_where_1 rfl) rfl
theorem dX11_where_42 : decode cX11_where 42 = .ok (.iload_n 1, 1) := dx_27 (dl_at 32 10 lb_X11_where_1 rfl)
theorem dX11_where_43 : decode cX11_where 43 = .ok (.aaload, 1) := dx_50 (dl_at 32 11 lb_X11_where_1 rfl)
theorem dX11_where_44 : decode cX11_where 44 = .ok (.getfield 225, 3) := dx_180 (a := 0) (b := 225) (dl_at 32 12 lb_X11_where_1 rfl) (dl_at 32 13 lb_X11_where_1 rfl) (dl_at 32 14 lb_X11_where_1 rfl) rfl
theorem dX11_where_47 : decode cX11_where 47 = .ok (.ireturn, 1) := dx_172 (dl_at 32 15 lb_X11_where_1 rfl)
theorem dX11_where_11 : decode cX11_where 11 = .ok (.iload_n 2, 1) := dx_28 (dl_at 0 11 lb_X11_where_0 rfl)
theorem dX11_where_12 : decode cX11_where 12 = .ok (.ireturn, 1) := dx_172 (dl_at 0 12 lb_X11_where_0 rfl)
theorem lb_X11_asked_0 : dl_ck (cX11_asked.data.toList.drop 0) [42, 180, 0, 88, 172] = true := by decide +kernel
theorem dX11_asked_0 : decode cX11_asked 0 = .ok (.aload_n 0, 1) := dx_42 (dl_at 0 0 lb_X11_asked_0 rfl)
theorem dX11_asked_1 : decode cX11_asked 1 = .ok (.getfield 88, 3) := dx_180 (a := 0) (b := 88) (dl_at 0 1 lb_X11_asked_0 rfl) (dl_at 0 2 lb_X11_asked_0 rfl) (dl_at 0 3 lb_X11_asked_0 rfl) rfl
theorem dX11_asked_4 : decode cX11_asked 4 = .ok (.ireturn, 1) := dx_172 (dl_at 0 4 lb_X11_asked_0 rfl)
theorem lb_X11_finding_0 : dl_ck (cX11_finding.data.toList.drop 0) [42, 180, 1, 110, 172] = true := by decide +kernel
theorem dX11_finding_0 : decode cX11_finding 0 = .ok (.aload_n 0, 1) := dx_42 (dl_at 0 0 lb_X11_finding_0 rfl)
theorem dX11_finding_1 : decode cX11_finding 1 = .ok (.getfield 366, 3) := dx_180 (a := 1) (b := 110) (dl_at 0 1 lb_X11_finding_0 rfl) (dl_at 0 2 lb_X11_finding_0 rfl) (dl_at 0 3 lb_X11_finding_0 rfl) rfl
theorem dX11_finding_4 : decode cX11_finding 4 = .ok (.ireturn, 1) := dx_172 (dl_at 0 4 lb_X11_finding_0 rfl)
theorem lb_X11_findings_0 : dl_ck (cX11_findings.data.toList.drop 0) [27, 4, 161, 0, 8, 27, 8, 164, 0, 5, 2, 172, 42, 180, 0, 62, 27, 46, 172] = true := by decide +kernel
theorem dX11_findings_0 : decode cX11_findings 0 = .ok (.iload_n 1, 1) := dx_27 (dl_at 0 0 lb_X11_findings_0 rfl)
theorem dX11_findings_1 : decode cX11_findings 1 = .ok (.iconst 1, 1) := dx_4 (dl_at 0 1 lb_X11_findings_0 rfl)
theorem dX11_findings_2 : decode cX11_findings 2 = .ok (.if_icmp .lt 8, 3) := dx_161 (a := 0) (b := 8) (dl_at 0 2 lb_X11_findings_0 rfl) (dl_at 0 3 lb_X11_findings_0 rfl) (dl_at 0 4 lb_X11_findings_0 rfl) sg16_8
theorem dX11_findings_10 : decode cX11_findings 10 = .ok (.iconst (-1), 1) := dx_2 (dl_at 0 10 lb_X11_findings_0 rfl)
theorem dX11_findings_11 : decode cX11_findings 11 = .ok (.ireturn, 1) := dx_172 (dl_at 0 11 lb_X11_findings_0 rfl)
theorem dX11_findings_5 : decode cX11_findings 5 = .ok (.iload_n 1, 1) := dx_27 (dl_at 0 5 lb_X11_findings_0 rfl)
theorem dX11_findings_6 : decode cX11_findings 6 = .ok (.iconst 5, 1) := dx_8 (dl_at 0 6 lb_X11_findings_0 rfl)
theorem dX11_findings_7 : decode cX11_findings 7 = .ok (.if_icmp .le 5, 3) := dx_164 (a := 0) (b := 5) (dl_at 0 7 lb_X11_findings_0 rfl) (dl_at 0 8 lb_X11_findings_0 rfl) (dl_at 0 9 lb_X11_findings_0 rfl) sg16_5
theorem dX11_findings_12 : decode cX11_findings 12 = .ok (.aload_n 0, 1) := dx_42 (dl_at 0 12 lb_X11_findings_0 rfl)
theorem dX11_findings_13 : decode cX11_findings 13 = .ok (.getfield 62, 3) := dx_180 (a := 0) (b := 62) (dl_at 0 13 lb_X11_findings_0 rfl) (dl_at 0 14 lb_X11_findings_0 rfl) (dl_at 0 15 lb_X11_findings_0 rfl) rfl
theorem dX11_findings_16 : decode cX11_findings 16 = .ok (.iload_n 1, 1) := dx_27 (dl_at 0 16 lb_X11_findings_0 rfl)
theorem dX11_findings_17 : decode cX11_findings 17 = .ok (.iaload, 1) := dx_46 (dl_at 0 17 lb_X11_findings_0 rfl)
theorem dX11_findings_18 : decode cX11_findings 18 = .ok (.ireturn, 1) := dx_172 (dl_at 0 18 lb_X11_findings_0 rfl)
theorem lb_X11_snow_0 : dl_ck (cX11_snow.data.toList.drop 0) [27, 155, 0, 23, 27, 42, 180, 0, 30, 180, 0, 173, 162, 0, 12, 28, 155, 0, 8, 28, 4, 164, 0, 5, 2, 172, 42, 180, 0, 30, 180, 0] = true := by decide +kernel
theorem lb_X11_snow_1 : dl_ck (cX11_snow.data.toList.drop 32) [166, 180, 0, 176, 27, 122, 4, 126, 62, 42, 180, 0, 30, 180, 0, 166, 42, 180, 0, 30, 180, 0, 166, 180, 0, 176, 4, 27, 120, 2, 130, 126] = true := by decide +kernel
theorem lb_X11_snow_2 : dl_ck (cX11_snow.data.toList.drop 64) [28, 27, 120, 128, 181, 0, 176, 29, 172] = true := by decide +kernel
theorem dX11_snow_0 : decode cX11_snow 0 = .ok (.iload_n 1, 1) := dx_27 (dl_at 0 0 lb_X11_snow_0 rfl)
theorem dX11_snow_1 : decode cX11_snow 1 = .ok (.ifCond .lt 23, 3) := dx_155 (a := 0) (b := 23) (dl_at 0 1 lb_X11_snow_0 rfl) (dl_at 0 2 lb_X11_snow_0 rfl) (dl_at 0 3 lb_X11_snow_0 rfl) sg16_23
theorem dX11_snow_24 : decode cX11_snow 24 = .ok (.iconst (-1), 1) := dx_2 (dl_at 0 24 lb_X11_snow_0 rfl)
theorem dX11_snow_25 : decode cX11_snow 25 = .ok (.ireturn, 1) := dx_172 (dl_at 0 25 lb_X11_snow_0 rfl)
theorem dX11_snow_4 : decode cX11_snow 4 = .ok (.iload_n 1, 1) := dx_27 (dl_at 0 4 lb_X11_snow_0 rfl)
theorem dX11_snow_5 : decode cX11_snow 5 = .ok (.aload_n 0, 1) := dx_42 (dl_at 0 5 lb_X11_snow_0 rfl)
theorem dX11_snow_6 : decode cX11_snow 6 = .ok (.getfield 30, 3) := dx_180 (a := 0) (b := 30) (dl_at 0 6 lb_X11_snow_0 rfl) (dl_at 0 7 lb_X11_snow_0 rfl) (dl_at 0 8 lb_X11_snow_0 rfl) rfl
theorem dX11_snow_9 : decode cX11_snow 9 = .ok (.getfield 173, 3) := dx_180 (a := 0) (b := 173) (dl_at 0 9 lb_X11_snow_0 rfl) (dl_at 0 10 lb_X11_snow_0 rfl) (dl_at 0 11 lb_X11_snow_0 rfl) rfl
theorem dX11_snow_12 : decode cX11_snow 12 = .ok (.if_icmp .ge 12, 3) := dx_162 (a := 0) (b := 12) (dl_at 0 12 lb_X11_snow_0 rfl) (dl_at 0 13 lb_X11_snow_0 rfl) (dl_at 0 14 lb_X11_snow_0 rfl) sg16_12
theorem dX11_snow_15 : decode cX11_snow 15 = .ok (.iload_n 2, 1) := dx_28 (dl_at 0 15 lb_X11_snow_0 rfl)
theorem dX11_snow_16 : decode cX11_snow 16 = .ok (.ifCond .lt 8, 3) := dx_155 (a := 0) (b := 8) (dl_at 0 16 lb_X11_snow_0 rfl) (dl_at 0 17 lb_X11_snow_0 rfl) (dl_at 0 18 lb_X11_snow_0 rfl) sg16_8
theorem dX11_snow_19 : decode cX11_snow 19 = .ok (.iload_n 2, 1) := dx_28 (dl_at 0 19 lb_X11_snow_0 rfl)
theorem dX11_snow_20 : decode cX11_snow 20 = .ok (.iconst 1, 1) := dx_4 (dl_at 0 20 lb_X11_snow_0 rfl)
theorem dX11_snow_21 : decode cX11_snow 21 = .ok (.if_icmp .le 5, 3) := dx_164 (a := 0) (b := 5) (dl_at 0 21 lb_X11_snow_0 rfl) (dl_at 0 22 lb_X11_snow_0 rfl) (dl_at 0 23 lb_X11_snow_0 rfl) sg16_5
theorem dX11_snow_26 : decode cX11_snow 26 = .ok (.aload_n 0, 1) := dx_42 (dl_at 0 26 lb_X11_snow_0 rfl)
theorem dX11_snow_27 : decode cX11_snow 27 = .ok (.getfield 30, 3) := dx_180 (a := 0) (b := 30) (dl_at 0 27 lb_X11_snow_0 rfl) (dl_at 0 28 lb_X11_snow_0 rfl) (dl_at 0 29 lb_X11_snow_0 rfl) rfl
theorem dX11_snow_30 : decode cX11_snow 30 = .ok (.getfield 166, 3) := dx_180 (a := 0) (b := 166) (dl_at 0 30 lb_X11_snow_0 rfl) (dl_at 0 31 lb_X11_snow_0 rfl) (dl_at 32 0 lb_X11_snow_1 rfl) rfl
theorem dX11_snow_33 : decode cX11_snow 33 = .ok (.getfield 176, 3) := dx_180 (a := 0) (b := 176) (dl_at 32 1 lb_X11_snow_1 rfl) (dl_at 32 2 lb_X11_snow_1 rfl) (dl_at 32 3 lb_X11_snow_1 rfl) rfl
theorem dX11_snow_36 : decode cX11_snow 36 = .ok (.iload_n 1, 1) := dx_27 (dl_at 32 4 lb_X11_snow_1 rfl)
theorem dX11_snow_37 : decode cX11_snow 37 = .ok (.ishr, 1) := dx_122 (dl_at 32 5 lb_X11_snow_1 rfl)
theorem dX11_snow_38 : decode cX11_snow 38 = .ok (.iconst 1, 1) := dx_4 (dl_at 32 6 lb_X11_snow_1 rfl)
theorem dX11_snow_39 : decode cX11_snow 39 = .ok (.iand, 1) := dx_126 (dl_at 32 7 lb_X11_snow_1 rfl)
theorem dX11_snow_40 : decode cX11_snow 40 = .ok (.istore_n 3, 1) := dx_62 (dl_at 32 8 lb_X11_snow_1 rfl)
theorem dX11_snow_41 : decode cX11_snow 41 = .ok (.aload_n 0, 1) := dx_42 (dl_at 32 9 lb_X11_snow_1 rfl)
theorem dX11_snow_42 : decode cX11_snow 42 = .ok (.getfield 30, 3) := dx_180 (a := 0) (b := 30) (dl_at 32 10 lb_X11_snow_1 rfl) (dl_at 32 11 lb_X11_snow_1 rfl) (dl_at 32 12 lb_X11_snow_1 rfl) rfl
theorem dX11_snow_45 : decode cX11_snow 45 = .ok (.getfield 166, 3) := dx_180 (a := 0) (b := 166) (dl_at 32 13 lb_X11_snow_1 rfl) (dl_at 32 14 lb_X11_snow_1 rfl) (dl_at 32 15 lb_X11_snow_1 rfl) rfl
theorem dX11_snow_48 : decode cX11_snow 48 = .ok (.aload_n 0, 1) := dx_42 (dl_at 32 16 lb_X11_snow_1 rfl)
theorem dX11_snow_49 : decode cX11_snow 49 = .ok (.getfield 30, 3) := dx_180 (a := 0) (b := 30) (dl_at 32 17 lb_X11_snow_1 rfl) (dl_at 32 18 lb_X11_snow_1 rfl) (dl_at 32 19 lb_X11_snow_1 rfl) rfl
theorem dX11_snow_52 : decode cX11_snow 52 = .ok (.getfield 166, 3) := dx_180 (a := 0) (b := 166) (dl_at 32 20 lb_X11_snow_1 rfl) (dl_at 32 21 lb_X11_snow_1 rfl) (dl_at 32 22 lb_X11_snow_1 rfl) rfl
theorem dX11_snow_55 : decode cX11_snow 55 = .ok (.getfield 176, 3) := dx_180 (a := 0) (b := 176) (dl_at 32 23 lb_X11_snow_1 rfl) (dl_at 32 24 lb_X11_snow_1 rfl) (dl_at 32 25 lb_X11_snow_1 rfl) rfl
theorem dX11_snow_58 : decode cX11_snow 58 = .ok (.iconst 1, 1) := dx_4 (dl_at 32 26 lb_X11_snow_1 rfl)
theorem dX11_snow_59 : decode cX11_snow 59 = .ok (.iload_n 1, 1) := dx_27 (dl_at 32 27 lb_X11_snow_1 rfl)
theorem dX11_snow_60 : decode cX11_snow 60 = .ok (.ishl, 1) := dx_120 (dl_at 32 28 lb_X11_snow_1 rfl)
theorem dX11_snow_61 : decode cX11_snow 61 = .ok (.iconst (-1), 1) := dx_2 (dl_at 32 29 lb_X11_snow_1 rfl)
theorem dX11_snow_62 : decode cX11_snow 62 = .ok (.ixor, 1) := dx_130 (dl_at 32 30 lb_X11_snow_1 rfl)
theorem dX11_snow_63 : decode cX11_snow 63 = .ok (.iand, 1) := dx_126 (dl_at 32 31 lb_X11_snow_1 rfl)
theorem dX11_snow_64 : decode cX11_snow 64 = .ok (.iload_n 2, 1) := dx_28 (dl_at 64 0 lb_X11_snow_2 rfl)
theorem dX11_snow_65 : decode cX11_snow 65 = .ok (.iload_n 1, 1) := dx_27 (dl_at 64 1 lb_X11_snow_2 rfl)
theorem dX11_snow_66 : decode cX11_snow 66 = .ok (.ishl, 1) := dx_120 (dl_at 64 2 lb_X11_snow_2 rfl)
theorem dX11_snow_67 : decode cX11_snow 67 = .ok (.ior, 1) := dx_128 (dl_at 64 3 lb_X11_snow_2 rfl)
theorem dX11_snow_68 : decode cX11_snow 68 = .ok (.putfield 176, 3) := dx_181 (a := 0) (b := 176) (dl_at 64 4 lb_X11_snow_2 rfl) (dl_at 64 5 lb_X11_snow_2 rfl) (dl_at 64 6 lb_X11_snow_2 rfl) rfl
theorem dX11_snow_71 : decode cX11_snow 71 = .ok (.iload_n 3, 1) := dx_29 (dl_at 64 7 lb_X11_snow_2 rfl)
theorem dX11_snow_72 : decode cX11_snow 72 = .ok (.ireturn, 1) := dx_172 (dl_at 64 8 lb_X11_snow_2 rfl)
def F_qx_put (mu : Nat → Nat → Int32) (vt : Int32) (vi : Int32) (vv : Int32) : Int32 × (Nat → Nat → Int32) :=
  LETP (F_sx_refusedText mu (vt : Int32)) fun r1 xi1 =>
  if r1 = 0 then (
    if vi < (0 : Int32) then (
      LETP (F_sx_found mu (2 : Int32)) fun r4 xi4 =>
      ((r4 : Int32), xi4)
    ) else (
      LETV (mu (14 + vt.toNatClampNeg) 1 : Int32) fun y7 =>
      if vi < y7 then (
        LETV (mu ((14 + vt.toNatClampNeg) + 13) vi.toNatClampNeg : Int32) fun y11 =>
        LETV ((vv : Int32).toInt8.toInt32 : Int32) fun t14 =>
        LETV (va_up mu ((14 + vt.toNatClampNeg) + 13) (upd (mu ((14 + vt.toNatClampNeg) + 13)) vi.toNatClampNeg (vp_nar .byte t14)) : Nat → Nat → Int32) fun nu16 =>
        LETV (y11 + 1000 : Int32) fun t19 =>
        ((t19 : Int32), nu16)
      ) else (
        LETP (F_sx_found mu (2 : Int32)) fun r20 xi20 =>
        ((r20 : Int32), xi20)
      )
    )
  ) else (
    ((r1 : Int32), xi1)
  )
def F_qx_purse (mu : Nat → Nat → Int32) (vx : Int32) (vv : Int32) : Int32 × (Nat → Nat → Int32) :=
  if F_sx_has mu (vx : Int32) = 1 then (
    if vv < (0 : Int32) then (
      (((-1) : Int32), mu)
    ) else (
      if vv ≤ (999 : Int32) then (
        LETV (mu 46 vx.toNatClampNeg : Int32) fun y4 =>
        LETV (va_up mu 46 (upd (mu 46) vx.toNatClampNeg vv) : Nat → Nat → Int32) fun nu5 =>
        ((y4 : Int32), nu5)
      ) else (
        (((-1) : Int32), mu)
      )
    )
  ) else (
    (((-1) : Int32), mu)
  )
def F_qx_days (mu : Nat → Nat → Int32) (vn : Int32) : Int32 × (Nat → Nat → Int32) :=
  if vn < (0 : Int32) then (
    (((-1) : Int32), mu)
  ) else (
    if vn ≤ (20 : Int32) then (
      LETV (mu 5 3 : Int32) fun y3 =>
      LETV (y3 + vn : Int32) fun t4 =>
      if t4 ≤ (99 : Int32) then (
        LETV (y3 + vn : Int32) fun t6 =>
        LETV (va_up mu 5 (upd (mu 5) 3 t6) : Nat → Nat → Int32) fun nu7 =>
        ((t6 : Int32), nu7)
      ) else (
        (((-2) : Int32), mu)
      )
    ) else (
      (((-1) : Int32), mu)
    )
  )
def F_qx_beside (mu : Nat → Nat → Int32) (vx : Int32) : Int32 × (Nat → Nat → Int32) :=
  if F_sx_has mu (vx : Int32) = 1 then (
    LETV (mu 5 2 : Int32) fun y2 =>
    LETV (F_sx_near mu (vx : Int32) (y2 : Int32) : Int32) fun r3 =>
    ((r3 : Int32), mu)
  ) else (
    (((-1) : Int32), mu)
  )
def F_qx_asks (mu : Nat → Nat → Int32) (vx : Int32) (vp : Int32) : Int32 × (Nat → Nat → Int32) :=
  if F_sx_has mu (vx : Int32) = 1 then (
    if vp < (0 : Int32) then (
      (((-1) : Int32), mu)
    ) else (
      if vp ≤ (999 : Int32) then (
        LETV (mu 34 vx.toNatClampNeg : Int32) fun y4 =>
        LETV (F_sx_priceAsked (y4 : Int32) (vp : Int32) : Int32) fun r5 =>
        ((r5 : Int32), mu)
      ) else (
        (((-1) : Int32), mu)
      )
    )
  ) else (
    (((-1) : Int32), mu)
  )
def F_qx_where (mu : Nat → Nat → Int32) (vk : Int32) : Int32 × (Nat → Nat → Int32) :=
  LETP (F_sx_refusedLetter mu (vk : Int32) (0 : Int32)) fun r1 xi1 =>
  if r1 = 0 then (
    LETV (mu (61 + vk.toNatClampNeg) 6 : Int32) fun y4 =>
    LETV (va_up mu 0 (upd (mu 0) 10 y4) : Nat → Nat → Int32) fun nu5 =>
    LETV (nu5 (61 + vk.toNatClampNeg) 5 : Int32) fun y10 =>
    ((y10 : Int32), nu5)
  ) else (
    ((r1 : Int32), xi1)
  )
def F_qx_snow (mu : Nat → Nat → Int32) (vi : Int32) (vs : Int32) : Int32 × (Nat → Nat → Int32) :=
  if vi < (0 : Int32) then (
    (((-1) : Int32), mu)
  ) else (
    LETV (mu 4 7 : Int32) fun y2 =>
    if vi ≥ y2 then (
      (((-1) : Int32), mu)
    ) else (
      if vs < (0 : Int32) then (
        (((-1) : Int32), mu)
      ) else (
        if vs ≤ (1 : Int32) then (
          LETV (mu 5 2 : Int32) fun y6 =>
          LETV (y6 >>> (vi &&& 31) : Int32) fun t7 =>
          LETV (t7 &&& 1 : Int32) fun t8 =>
          LETV (1 <<< (vi &&& 31) : Int32) fun t9 =>
          LETV (t9 ^^^ (-1) : Int32) fun t10 =>
          LETV (y6 &&& t10 : Int32) fun t11 =>
          LETV (vs <<< (vi &&& 31) : Int32) fun t12 =>
          LETV (t11 ||| t12 : Int32) fun t13 =>
          LETV (va_up mu 5 (upd (mu 5) 2 t13) : Nat → Nat → Int32) fun nu14 =>
          ((t8 : Int32), nu14)
        ) else (
          (((-1) : Int32), mu)
        )
      )
    )
  )
