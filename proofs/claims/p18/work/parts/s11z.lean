set_option maxHeartbeats 4000000 in
set_option maxRecDepth 100000 in
/-- sx_refusedPlace -/
theorem sx_refusedPlace (l : Launch) (dC : Nat → ClassId) (dI : Nat → Nat → Nat) (cs : Nat → ClassId) (ad : Nat → Nat) (mu : Nat → Nat → Int32) (ok : okR loX hiX mu) (H : Heap) (hP : va_P (dC, dI) vwCl (wR 157 ad (EX cs ad) mu) H) (hD0 : va_D (fun _ => True) (wR 157 ad (EX cs ad) mu)) (vr : Int32) (vi : Int32) : Met l yX11_refusedPlace (wU yX11_refusedPlace cX11_refusedPlace 4 (some .int)) ({ frames := 2, cells := 0, slots := 0, locals := 42 }) (va_Pc [.ref (ad 0), .int vr, .int vi] (sz_P (dC, dI) vwCl (tyW cs) H)) (va_Qi (fun (z : Int32) (xi : Nat → Nat → Int32) => (z = 0 ∧ xi = mu ∧ (0 ≤ vr.toInt ∧ vr.toInt ≤ 5 ∧ 0 ≤ (mu (8 + vr.toNatClampNeg) 1).toInt ∧ (mu (8 + vr.toNatClampNeg) 1).toInt ≤ 40 ∧ 0 ≤ vi.toInt ∧ vi.toInt < (mu (8 + vr.toNatClampNeg) 1).toInt)) ∨ (z.toInt < 0 ∧ okR loX hiX xi ∧ (∀ k f : Nat, Nat.testBit 510 (gpX k f) = true → xi k f = mu k f))) (fun xi t => va_P (dC, dI) vwCl (wR 157 ad (EX cs ad) xi) t.heap) (va_A (wR 157 ad (EX cs ad) mu) H.size)) 0 0 (va_A (wR 157 ad (EX cs ad) mu) H.size) := by
  refine Met.ofW (cc := cX11_refusedPlace) (maxL := 4) (ret := (some .int)) (by decide) rfl ?_
  intro p e s m args below meth c s₁ B hml hv
  obtain ⟨rfl, hh, hK, hz⟩ := hv
  have hx := B.exec
  have hb := B.bytes
  have hr := B.returns
  have hts := atoms_spec (ws := (wU yX11_refusedPlace cX11_refusedPlace 4 (some .int))) B.pre
  have hown : s.vm.findClass RX11 = some m.cls := findClass_of_methodNamed B.named
  have hlocks := B.notSynchronized
  subst hh
  have hD := hD0.self (sz := s.heap.size)
  have hA : ∀ q : Nat, s.heap.size ≤ q → (va_A (wR 157 ad (EX cs ad) mu) s.heap.size) q := fun q h => Or.inr h
  have hS : va_S (va_A (wR 157 ad (EX cs ad) mu) s.heap.size) s.heap s.heap [] := va_S.rf
  have hl := lv_entry ([.ref (ad 0), .int vr, .int vi]) (n := 4) (Nat.le_of_ble_eq_true rfl)
  rw [lg_entry_eq]
  generalize (lg_sl ([.ref (ad 0), .int vr, .int vi]) ++ List.replicate (4 - (lg_sl ([.ref (ad 0), .int vr, .int vi])).length) Slot.unset).toArray = ls at hl ⊢
  have hl : lv_has ls 4 [(0, .ref (ad 0)), (1, .int vr), (2, .int vi)] := hl
  refine lv_aload_n hx hb dX11_refusedPlace_0 rfl (lv_at hl 0 rfl) ?_
  refine lv_iload_n hx hb dX11_refusedPlace_1 rfl (lv_at hl 1 rfl) ?_
  have hFc := fr_all (wR_D mu hD) hS hA
  refine va_calli (va_runV (As := [.int vr]) (rest := []) ⟨hx, hb, hml, hown, hts⟩ (sx_refusedRow l dC dI cs ad mu ok s.heap hP ((wR_D mu hD).weaken (fun _ _ _ _ => trivial)) vr) (cwV 1 hts (wU_V mw_2_221 mw_2_218 mw_2_220 mw_0_2 mw_1_1) rfl rfl rfl (by decide +kernel) ⟨Nat.le_of_ble_eq_true rfl, Nat.le_of_ble_eq_true rfl⟩) ⟨sz_c, va_recv hK hP (ci := 11) (q0 := 0) rfl (gX_0 cs ad mu), sz_m hK hz⟩ rfl rfl hl.1 rfl (lv_room (Nat.le_of_ble_eq_true rfl)) dX11_refusedPlace_2 ⟨Nat.zero_le _, Nat.zero_le _⟩) hS (fun q _ h => hFc q h) hFc (fun r1 xi1 t H1 locs ht hvm hw1 hB hz1 hk1 hS => ?_)
  have hP : va_P (dC, dI) vwCl (wR 157 ad (EX cs ad) xi1) H1 := by rw [← ht]; exact hB
  obtain ⟨hfe1, hw1⟩ := hw1
  rcases hw1 with ⟨rfl, hxi1, f1⟩ | ⟨z1, ok, hkp1_0⟩
  · have hP : va_P (dC, dI) vwCl (wR 157 ad (EX cs ad) mu) H1 := by rw [← hxi1]; exact hP
    have f1 : 0 ≤ vr.toInt ∧ vr.toInt ≤ 5 ∧ 0 ≤ (mu (8 + vr.toNatClampNeg) 1).toInt := f1
    refine lv_istore_n (lv' := [(3, .int 0), (0, .ref (ad 0)), (1, .int vr), (2, .int vi)]) hx hb dX11_refusedPlace_5 rfl hl (by decide) rfl (fun ls hl => ?_)
    refine lv_iload_n hx hb dX11_refusedPlace_6 rfl (lv_at hl 0 rfl) ?_
    refine lv_if_eq (tgt := 12) hx hb dX11_refusedPlace_7 (by decide) (fun _ => ?_) (fun c => absurd (by decide) c)
    refine lv_iload_n hx hb dX11_refusedPlace_12 rfl (lv_at hl 3 rfl) ?_
    refine lv_if_lt (tgt := 29) hx hb dX11_refusedPlace_13 (by decide) (fun c_3 => ?_) (fun c_3 => ?_)
    · have c_3 : vi.toInt < 0 := il_lt c_3
      refine lv_aload_n hx hb dX11_refusedPlace_29 rfl (lv_at hl 1 rfl) ?_
      refine lv_iconst (v := 2) hx hb dX11_refusedPlace_30 (by decide) ?_
      have hFc := fr_all (wR_D mu hD) hS hA
      refine va_calli (va_runV (As := [.int 2]) (rest := []) ⟨hx, hb, hml, hown, hts⟩ (sx_found l dC dI cs ad mu ok H1 hP ((wR_D mu hD).weaken (fun _ _ _ _ => trivial)) 2 (by have h50 : (2 : Int32).toInt = 2 := rfl; omega)) (cwV 1 hts (wU_V mw_2_202 mw_2_199 mw_2_201 mw_0_0 mw_1_1) rfl rfl rfl (by decide +kernel) ⟨Nat.le_of_ble_eq_true rfl, Nat.le_of_ble_eq_true rfl⟩) ⟨sz_c, va_recv hK hP (ci := 11) (q0 := 0) rfl (gX_0 cs ad mu), sz_m hK hz⟩ rfl rfl hl.1 rfl (lv_room (Nat.le_of_ble_eq_true rfl)) dX11_refusedPlace_31 ⟨Nat.zero_le _, Nat.zero_le _⟩) hS (fun q _ h => hFc q h) hFc (fun r4 xi4 t H4 locs ht hvm hw4 hB hz1 hk1 hS => ?_)
      have hP : va_P (dC, dI) vwCl (wR 157 ad (EX cs ad) xi4) H4 := by rw [← ht]; exact hB
      obtain ⟨hfe4, ok, hw4, hkp4_0⟩ := hw4
      have kp5 : (∀ k f : Nat, Nat.testBit 510 (gpX k f) = true → xi4 k f = mu k f) := kp_t hkp4_0 (by decide) (fun _ _ _ => rfl)
      have gr4 : -3 ≤ r4.toInt ∧ r4.toInt ≤ -3 := hw4
      refine lv_goto (tgt := 38) hx hb dX11_refusedPlace_34 (by decide) ?_
      exact W.iret (v := r4) hx hb hr (fun t ht hW => ⟨⟨r4, xi4, rfl, Or.inr ⟨by omega, ok, kp5⟩, by first | (subst ht; exact hP) | (rw [ht]; exact hP) | (show va_P (dC, dI) vwCl (wR 157 ad (EX cs ad) xi4) t.heap; rw [ht]; exact hP)⟩, hS.F ht⟩) hS.2.2 dX11_refusedPlace_38
    · have c_3 : 0 ≤ vi.toInt := il_nlt c_3
      refine lv_iload_n hx hb dX11_refusedPlace_16 rfl (lv_at hl 3 rfl) ?_
      refine lv_aload_n hx hb dX11_refusedPlace_17 rfl (lv_at hl 1 rfl) ?_
      refine va_get (D := (dC, dI)) (ci := 11) (v := .ref (ad 1)) (C := RX11) (T := TX11) (N := 11) hx hb hts inG11 hown hK hP 0 (gX_0 cs ad mu) rfl 0 (by decide) (hts _ (List.mem_cons_of_mem _ mw_2_158)) (fun _ h9 => h9) rfl dX11_refusedPlace_18 ?_
      refine lv_iload_n hx hb dX11_refusedPlace_21 rfl (lv_at hl 2 rfl) ?_
      have hx6 : 0 ≤ vr.toInt ∧ vr.toInt < ((6 : Nat) : Int) := ⟨by omega, by omega⟩
      refine va_aldq hx hb hK hP 1 2 (gX_1 cs ad mu) rfl (show vp_in vr 6 from vi_of hx6.1 hx6.2) dX11_refusedPlace_22 ?_
      have hk6 : 8 ≤ (8 + vr.toNatClampNeg) ∧ (8 + vr.toNatClampNeg) < 14 := ix_of hx6
      refine lq_v (.ref (ad (8 + vr.toNatClampNeg))) rfl ?_
      refine va_get (D := (dC, dI)) (ci := 6) (v := .int (mu (8 + vr.toNatClampNeg) 1)) (C := RX6) (T := TX6) (N := 2) hx hb hts inG6 hown hK hP (8 + vr.toNatClampNeg) (gX_row cs ad mu (8 + vr.toNatClampNeg) hk6.1 hk6.2) rfl 1 (by decide) (hts _ (List.mem_cons_of_mem _ mw_2_134)) (fun _ h9 => h9) rfl dX11_refusedPlace_23 ?_
      refine lv_topi (fun y7 ey7 => ?_)
      have by7 : y7.toInt = (mu (8 + vr.toNatClampNeg) 1).toInt := congrArg Int32.toInt ey7
      have gy7 : -1 ≤ y7.toInt ∧ y7.toInt ≤ 40 := by rw [ey7]; exact rX_row_1 ok (8 + vr.toNatClampNeg) hk6.1 hk6.2
      refine lv_icmp_lt (tgt := 37) hx hb dX11_refusedPlace_26 (by decide) (fun c_8 => ?_) (fun c_8 => ?_)
      · have c_8 : vi.toInt < y7.toInt := il_lt c_8
        refine lv_iconst (v := 0) hx hb dX11_refusedPlace_37 (by decide) ?_
        exact W.iret (v := 0) hx hb hr (fun t ht hW => ⟨⟨0, mu, rfl, Or.inl ⟨rfl, rfl, (by have hb9 := congrArg Int32.toInt ey7; omega)⟩, by first | (subst ht; exact hP) | (rw [ht]; exact hP) | (show va_P (dC, dI) vwCl (wR 157 ad (EX cs ad) mu) t.heap; rw [ht]; exact hP)⟩, hS.F ht⟩) hS.2.2 dX11_refusedPlace_38
      · have c_8 : y7.toInt ≤ vi.toInt := il_nlt c_8
        refine lv_aload_n hx hb dX11_refusedPlace_29 rfl (lv_at hl 1 rfl) ?_
        refine lv_iconst (v := 2) hx hb dX11_refusedPlace_30 (by decide) ?_
        have hFc := fr_all (wR_D mu hD) hS hA
        refine va_calli (va_runV (As := [.int 2]) (rest := []) ⟨hx, hb, hml, hown, hts⟩ (sx_found l dC dI cs ad mu ok H1 hP ((wR_D mu hD).weaken (fun _ _ _ _ => trivial)) 2 (by have h50 : (2 : Int32).toInt = 2 := rfl; omega)) (cwV 1 hts (wU_V mw_2_202 mw_2_199 mw_2_201 mw_0_0 mw_1_1) rfl rfl rfl (by decide +kernel) ⟨Nat.le_of_ble_eq_true rfl, Nat.le_of_ble_eq_true rfl⟩) ⟨sz_c, va_recv hK hP (ci := 11) (q0 := 0) rfl (gX_0 cs ad mu), sz_m hK hz⟩ rfl rfl hl.1 rfl (lv_room (Nat.le_of_ble_eq_true rfl)) dX11_refusedPlace_31 ⟨Nat.zero_le _, Nat.zero_le _⟩) hS (fun q _ h => hFc q h) hFc (fun r10 xi10 t H10 locs ht hvm hw10 hB hz1 hk1 hS => ?_)
        have hP : va_P (dC, dI) vwCl (wR 157 ad (EX cs ad) xi10) H10 := by rw [← ht]; exact hB
        obtain ⟨hfe10, ok, hw10, hkp10_0⟩ := hw10
        have kp11 : (∀ k f : Nat, Nat.testBit 510 (gpX k f) = true → xi10 k f = mu k f) := kp_t hkp10_0 (by decide) (fun _ _ _ => rfl)
        have gr10 : -3 ≤ r10.toInt ∧ r10.toInt ≤ -3 := hw10
        refine lv_goto (tgt := 38) hx hb dX11_refusedPlace_34 (by decide) ?_
        exact W.iret (v := r10) hx hb hr (fun t ht hW => ⟨⟨r10, xi10, rfl, Or.inr ⟨by omega, ok, kp11⟩, by first | (subst ht; exact hP) | (rw [ht]; exact hP) | (show va_P (dC, dI) vwCl (wR 157 ad (EX cs ad) xi10) t.heap; rw [ht]; exact hP)⟩, hS.F ht⟩) hS.2.2 dX11_refusedPlace_38
  · have kp2 : (∀ k f : Nat, Nat.testBit 510 (gpX k f) = true → xi1 k f = mu k f) := kp_t hkp1_0 (by decide) (fun _ _ _ => rfl)
    skip
    refine lv_istore_n (lv' := [(3, .int r1), (0, .ref (ad 0)), (1, .int vr), (2, .int vi)]) hx hb dX11_refusedPlace_5 rfl hl (by decide) rfl (fun ls hl => ?_)
    refine lv_iload_n hx hb dX11_refusedPlace_6 rfl (lv_at hl 0 rfl) ?_
    refine lv_if_eq (tgt := 12) hx hb dX11_refusedPlace_7 (by decide) (fun c_12 => by have c_12 : r1.toInt = 0 := il_eq c_12; exfalso; omega) (fun c_12 => ?_)
    have c_12 : ¬ r1.toInt = 0 := il_ne c_12
    refine lv_iload_n hx hb dX11_refusedPlace_10 rfl (lv_at hl 0 rfl) ?_
    exact W.iret (v := r1) hx hb hr (fun t ht hW => ⟨⟨r1, xi1, rfl, Or.inr ⟨by omega, ok, kp2⟩, by first | (subst ht; exact hP) | (rw [ht]; exact hP) | (show va_P (dC, dI) vwCl (wR 157 ad (EX cs ad) xi1) t.heap; rw [ht]; exact hP)⟩, hS.F ht⟩) hS.2.2 dX11_refusedPlace_11
set_option maxHeartbeats 4000000 in
set_option maxRecDepth 100000 in
/-- sx_refusedLetter -/
theorem sx_refusedLetter (l : Launch) (dC : Nat → ClassId) (dI : Nat → Nat → Nat) (cs : Nat → ClassId) (ad : Nat → Nat) (mu : Nat → Nat → Int32) (ok : okR loX hiX mu) (H : Heap) (hP : va_P (dC, dI) vwCl (wR 157 ad (EX cs ad) mu) H) (hD0 : va_D (fun _ => True) (wR 157 ad (EX cs ad) mu)) (vk : Int32) (vb : Int32) : Met l yX11_refusedLetter (wU yX11_refusedLetter cX11_refusedLetter 3 (some .int)) ({ frames := 1, cells := 0, slots := 0, locals := 21 }) (va_Pc [.ref (ad 0), .int vk, .int vb] (sz_P (dC, dI) vwCl (tyW cs) H)) (va_Qi (fun (z : Int32) (xi : Nat → Nat → Int32) => (z, xi) = F_sx_refusedLetter mu vk vb ∧ ((z = 0 ∧ xi = mu ∧ (0 ≤ vk.toInt ∧ vk.toInt < (mu 5 4).toInt ∧ (mu 5 4).toInt ≤ 4 ∧ vb.toInt = 0)) ∨ (z.toInt < 0 ∧ okR loX hiX xi ∧ (∀ k f : Nat, Nat.testBit 510 (gpX k f) = true → xi k f = mu k f)))) (fun xi t => va_P (dC, dI) vwCl (wR 157 ad (EX cs ad) xi) t.heap) (va_A (wR 157 ad (EX cs ad) mu) H.size)) 0 0 (va_A (wR 157 ad (EX cs ad) mu) H.size) := by
  refine Met.ofW (cc := cX11_refusedLetter) (maxL := 3) (ret := (some .int)) (by decide) rfl ?_
  intro p e s m args below meth c s₁ B hml hv
  obtain ⟨rfl, hh, hK, hz⟩ := hv
  have hx := B.exec
  have hb := B.bytes
  have hr := B.returns
  have hts := atoms_spec (ws := (wU yX11_refusedLetter cX11_refusedLetter 3 (some .int))) B.pre
  have hown : s.vm.findClass RX11 = some m.cls := findClass_of_methodNamed B.named
  have hlocks := B.notSynchronized
  subst hh
  have hD := hD0.self (sz := s.heap.size)
  have hA : ∀ q : Nat, s.heap.size ≤ q → (va_A (wR 157 ad (EX cs ad) mu) s.heap.size) q := fun q h => Or.inr h
  have hS : va_S (va_A (wR 157 ad (EX cs ad) mu) s.heap.size) s.heap s.heap [] := va_S.rf
  have hl := lv_entry ([.ref (ad 0), .int vk, .int vb]) (n := 3) (Nat.le_of_ble_eq_true rfl)
  rw [lg_entry_eq]
  generalize (lg_sl ([.ref (ad 0), .int vk, .int vb]) ++ List.replicate (3 - (lg_sl ([.ref (ad 0), .int vk, .int vb])).length) Slot.unset).toArray = ls at hl ⊢
  have hl : lv_has ls 3 [(0, .ref (ad 0)), (1, .int vk), (2, .int vb)] := hl
  obtain ⟨fz, hfz⟩ : ∃ z, F_sx_refusedLetter mu vk vb = z := ⟨_, rfl⟩
  have hF := hfz
  unfold F_sx_refusedLetter at hF
  refine lv_iload_n hx hb dX11_refusedLetter_0 rfl (lv_at hl 1 rfl) ?_
  refine lv_if_lt (tgt := 8) hx hb dX11_refusedLetter_1 (by decide) (fun c_1 => ?_) (fun c_1 => ?_)
  · have hF := (if_pos c_1).symm.trans hF
    have c_1 : vk.toInt < 0 := il_lt c_1
    refine lv_iconst (v := (-1)) hx hb dX11_refusedLetter_8 (by decide) ?_
    exact W.iret (v := (-1)) hx hb hr (fun t ht hW => ⟨⟨(-1), mu, rfl, ⟨hF.trans hfz.symm, Or.inr ⟨by decide, ok, (fun _ _ _ => rfl)⟩⟩, by first | (subst ht; exact hP) | (rw [ht]; exact hP) | (show va_P (dC, dI) vwCl (wR 157 ad (EX cs ad) mu) t.heap; rw [ht]; exact hP)⟩, hS.F ht⟩) hS.2.2 dX11_refusedLetter_9
  · have hF := (if_neg c_1).symm.trans hF
    have c_1 : 0 ≤ vk.toInt := il_nlt c_1
    refine lv_iload_n hx hb dX11_refusedLetter_4 rfl (lv_at hl 2 rfl) ?_
    refine lv_if_eq (tgt := 10) hx hb dX11_refusedLetter_5 (by decide) (fun c_2 => ?_) (fun c_2 => ?_)
    · have hF := (if_pos c_2).symm.trans hF
      have c_2 : vb.toInt = 0 := il_eq c_2
      refine lv_iload_n hx hb dX11_refusedLetter_10 rfl (lv_at hl 1 rfl) ?_
      refine lv_aload_n hx hb dX11_refusedLetter_11 rfl (lv_at hl 0 rfl) ?_
      refine va_get (D := (dC, dI)) (ci := 11) (v := .ref (ad 4)) (C := RX11) (T := TX11) (N := 11) hx hb hts inG11 hown hK hP 0 (gX_0 cs ad mu) rfl 3 (by decide) (hts _ (List.mem_cons_of_mem _ mw_2_161)) (fun _ h9 => h9) rfl dX11_refusedLetter_12 ?_
      refine va_get (D := (dC, dI)) (ci := 10) (v := .ref (ad 5)) (C := RX10) (T := TX10) (N := 8) hx hb hts inG10 hown hK hP 4 (gX_4 cs ad mu) rfl 3 (by decide) (hts _ (List.mem_cons_of_mem _ mw_1_157)) (fun _ h9 => h9) rfl dX11_refusedLetter_15 ?_
      refine va_get (D := (dC, dI)) (ci := 8) (v := .int (mu 5 4)) (C := RX8) (T := TX8) (N := 6) hx hb hts inG8 hown hK hP 5 (gX_5 cs ad mu) rfl 4 (by decide) (hts _ (List.mem_cons_of_mem _ mw_1_128)) (fun _ h9 => h9) rfl dX11_refusedLetter_18 ?_
      refine lv_topi (fun y3 ey3 => ?_)
      have hF := mi_let hF ey3
      have by3 : y3.toInt = (mu 5 4).toInt := congrArg Int32.toInt ey3
      have gy3 : 0 ≤ y3.toInt ∧ y3.toInt ≤ 4 := by rw [ey3]; exact rX_5_4 ok
      refine lv_icmp_lt (tgt := 32) hx hb dX11_refusedLetter_21 (by decide) (fun c_4 => ?_) (fun c_4 => ?_)
      · have hF := (if_pos c_4).symm.trans hF
        have c_4 : vk.toInt < y3.toInt := il_lt c_4
        refine lv_iconst (v := 0) hx hb dX11_refusedLetter_32 (by decide) ?_
        exact W.iret (v := 0) hx hb hr (fun t ht hW => ⟨⟨0, mu, rfl, ⟨hF.trans hfz.symm, Or.inl ⟨rfl, rfl, (by have hb5 := congrArg Int32.toInt ey3; omega)⟩⟩, by first | (subst ht; exact hP) | (rw [ht]; exact hP) | (show va_P (dC, dI) vwCl (wR 157 ad (EX cs ad) mu) t.heap; rw [ht]; exact hP)⟩, hS.F ht⟩) hS.2.2 dX11_refusedLetter_33
      · have hF := (if_neg c_4).symm.trans hF
        have c_4 : y3.toInt ≤ vk.toInt := il_nlt c_4
        refine lv_aload_n hx hb dX11_refusedLetter_24 rfl (lv_at hl 0 rfl) ?_
        refine lv_iconst (v := 2) hx hb dX11_refusedLetter_25 (by decide) ?_
        have hFc := fr_all (wR_D mu hD) hS hA
        refine va_calli (va_runV (As := [.int 2]) (rest := []) ⟨hx, hb, hml, hown, hts⟩ (sx_found l dC dI cs ad mu ok s.heap hP ((wR_D mu hD).weaken (fun _ _ _ _ => trivial)) 2 (by have h50 : (2 : Int32).toInt = 2 := rfl; omega)) (cwV 1 hts (wU_V mw_2_202 mw_2_199 mw_2_201 mw_0_0 mw_1_1) rfl rfl rfl (by decide +kernel) ⟨Nat.le_of_ble_eq_true rfl, Nat.le_of_ble_eq_true rfl⟩) ⟨sz_c, va_recv hK hP (ci := 11) (q0 := 0) rfl (gX_0 cs ad mu), sz_m hK hz⟩ rfl rfl hl.1 rfl (lv_room (Nat.le_of_ble_eq_true rfl)) dX11_refusedLetter_26 ⟨Nat.zero_le _, Nat.zero_le _⟩) hS (fun q _ h => hFc q h) hFc (fun r6 xi6 t H6 locs ht hvm hw6 hB hz1 hk1 hS => ?_)
        have hP : va_P (dC, dI) vwCl (wR 157 ad (EX cs ad) xi6) H6 := by rw [← ht]; exact hB
        obtain ⟨hfe6, ok, hw6, hkp6_0⟩ := hw6
        have hF := mi_letp hF hfe6
        have kp7 : (∀ k f : Nat, Nat.testBit 510 (gpX k f) = true → xi6 k f = mu k f) := kp_t hkp6_0 (by decide) (fun _ _ _ => rfl)
        have gr6 : -3 ≤ r6.toInt ∧ r6.toInt ≤ -3 := hw6
        refine lv_goto (tgt := 33) hx hb dX11_refusedLetter_29 (by decide) ?_
        exact W.iret (v := r6) hx hb hr (fun t ht hW => ⟨⟨r6, xi6, rfl, ⟨hF.trans hfz.symm, Or.inr ⟨by omega, ok, kp7⟩⟩, by first | (subst ht; exact hP) | (rw [ht]; exact hP) | (show va_P (dC, dI) vwCl (wR 157 ad (EX cs ad) xi6) t.heap; rw [ht]; exact hP)⟩, hS.F ht⟩) hS.2.2 dX11_refusedLetter_33
    · have hF := (if_neg c_2).symm.trans hF
      have c_2 : ¬ vb.toInt = 0 := il_ne c_2
      refine lv_iconst (v := (-1)) hx hb dX11_refusedLetter_8 (by decide) ?_
      exact W.iret (v := (-1)) hx hb hr (fun t ht hW => ⟨⟨(-1), mu, rfl, ⟨hF.trans hfz.symm, Or.inr ⟨by decide, ok, (fun _ _ _ => rfl)⟩⟩, by first | (subst ht; exact hP) | (rw [ht]; exact hP) | (show va_P (dC, dI) vwCl (wR 157 ad (EX cs ad) mu) t.heap; rw [ht]; exact hP)⟩, hS.F ht⟩) hS.2.2 dX11_refusedLetter_9
set_option maxHeartbeats 4000000 in
set_option maxRecDepth 100000 in
/-- sx_refusedRoute -/
theorem sx_refusedRoute (l : Launch) (dC : Nat → ClassId) (dI : Nat → Nat → Nat) (cs : Nat → ClassId) (ad : Nat → Nat) (mu : Nat → Nat → Int32) (ok : okR loX hiX mu) (H : Heap) (hP : va_P (dC, dI) vwCl (wR 157 ad (EX cs ad) mu) H) (hD0 : va_D (fun _ => True) (wR 157 ad (EX cs ad) mu)) (vk : Int32) (vb : Int32) : Met l yX11_refusedRoute (wU yX11_refusedRoute cX11_refusedRoute 4 (some .int)) ({ frames := 2, cells := 0, slots := 0, locals := 43 }) (va_Pc [.ref (ad 0), .int vk, .int vb] (sz_P (dC, dI) vwCl (tyW cs) H)) (va_Qi (fun (z : Int32) (xi : Nat → Nat → Int32) => (z = 0 ∧ xi = mu ∧ (0 ≤ vk.toInt ∧ vk.toInt < (mu 5 4).toInt ∧ (mu 5 4).toInt ≤ 4 ∧ vb.toInt = 0)) ∨ (z.toInt < 0 ∧ okR loX hiX xi ∧ (∀ k f : Nat, Nat.testBit 510 (gpX k f) = true → xi k f = mu k f))) (fun xi t => va_P (dC, dI) vwCl (wR 157 ad (EX cs ad) xi) t.heap) (va_A (wR 157 ad (EX cs ad) mu) H.size)) 0 0 (va_A (wR 157 ad (EX cs ad) mu) H.size) := by
  refine Met.ofW (cc := cX11_refusedRoute) (maxL := 4) (ret := (some .int)) (by decide) rfl ?_
  intro p e s m args below meth c s₁ B hml hv
  obtain ⟨rfl, hh, hK, hz⟩ := hv
  have hx := B.exec
  have hb := B.bytes
  have hr := B.returns
  have hts := atoms_spec (ws := (wU yX11_refusedRoute cX11_refusedRoute 4 (some .int))) B.pre
  have hown : s.vm.findClass RX11 = some m.cls := findClass_of_methodNamed B.named
  have hlocks := B.notSynchronized
  subst hh
  have hD := hD0.self (sz := s.heap.size)
  have hA : ∀ q : Nat, s.heap.size ≤ q → (va_A (wR 157 ad (EX cs ad) mu) s.heap.size) q := fun q h => Or.inr h
  have hS : va_S (va_A (wR 157 ad (EX cs ad) mu) s.heap.size) s.heap s.heap [] := va_S.rf
  have hl := lv_entry ([.ref (ad 0), .int vk, .int vb]) (n := 4) (Nat.le_of_ble_eq_true rfl)
  rw [lg_entry_eq]
  generalize (lg_sl ([.ref (ad 0), .int vk, .int vb]) ++ List.replicate (4 - (lg_sl ([.ref (ad 0), .int vk, .int vb])).length) Slot.unset).toArray = ls at hl ⊢
  have hl : lv_has ls 4 [(0, .ref (ad 0)), (1, .int vk), (2, .int vb)] := hl
  refine lv_aload_n hx hb dX11_refusedRoute_0 rfl (lv_at hl 0 rfl) ?_
  refine lv_iload_n hx hb dX11_refusedRoute_1 rfl (lv_at hl 1 rfl) ?_
  refine lv_iload_n hx hb dX11_refusedRoute_2 rfl (lv_at hl 2 rfl) ?_
  have hFc := fr_all (wR_D mu hD) hS hA
  refine va_calli (va_runV (As := [.int vk, .int vb]) (rest := []) ⟨hx, hb, hml, hown, hts⟩ (sx_refusedLetter l dC dI cs ad mu ok s.heap hP ((wR_D mu hD).weaken (fun _ _ _ _ => trivial)) vk vb) (cwV 2 hts (wU_V mw_3_157 mw_3_154 mw_3_156 mw_0_8 mw_1_1) rfl rfl rfl (by decide +kernel) ⟨Nat.le_of_ble_eq_true rfl, Nat.le_of_ble_eq_true rfl⟩) ⟨sz_c, va_recv hK hP (ci := 11) (q0 := 0) rfl (gX_0 cs ad mu), sz_m hK hz⟩ rfl rfl hl.1 rfl (lv_room (Nat.le_of_ble_eq_true rfl)) dX11_refusedRoute_3 ⟨Nat.zero_le _, Nat.zero_le _⟩) hS (fun q _ h => hFc q h) hFc (fun r1 xi1 t H1 locs ht hvm hw1 hB hz1 hk1 hS => ?_)
  have hP : va_P (dC, dI) vwCl (wR 157 ad (EX cs ad) xi1) H1 := by rw [← ht]; exact hB
  obtain ⟨hfe1, hw1⟩ := hw1
  rcases hw1 with ⟨rfl, hxi1, f1⟩ | ⟨z1, ok, hkp1_0⟩
  · have hP : va_P (dC, dI) vwCl (wR 157 ad (EX cs ad) mu) H1 := by rw [← hxi1]; exact hP
    have f1 : 0 ≤ vk.toInt ∧ vk.toInt < (mu 5 4).toInt ∧ (mu 5 4).toInt ≤ 4 ∧ vb.toInt = 0 := f1
    refine lv_istore_n (lv' := [(3, .int 0), (0, .ref (ad 0)), (1, .int vk), (2, .int vb)]) hx hb dX11_refusedRoute_6 rfl hl (by decide) rfl (fun ls hl => ?_)
    refine lv_iload_n hx hb dX11_refusedRoute_7 rfl (lv_at hl 0 rfl) ?_
    refine lv_if_eq (tgt := 13) hx hb dX11_refusedRoute_8 (by decide) (fun _ => ?_) (fun c => absurd (by decide) c)
    refine lv_aload_n hx hb dX11_refusedRoute_13 rfl (lv_at hl 1 rfl) ?_
    refine va_get (D := (dC, dI)) (ci := 11) (v := .ref (ad 4)) (C := RX11) (T := TX11) (N := 11) hx hb hts inG11 hown hK hP 0 (gX_0 cs ad mu) rfl 3 (by decide) (hts _ (List.mem_cons_of_mem _ mw_2_161)) (fun _ h9 => h9) rfl dX11_refusedRoute_14 ?_
    refine va_get (D := (dC, dI)) (ci := 10) (v := .ref (ad 5)) (C := RX10) (T := TX10) (N := 8) hx hb hts inG10 hown hK hP 4 (gX_4 cs ad mu) rfl 3 (by decide) (hts _ (List.mem_cons_of_mem _ mw_1_157)) (fun _ h9 => h9) rfl dX11_refusedRoute_17 ?_
    refine va_get (D := (dC, dI)) (ci := 8) (v := .ref (ad 47)) (C := RX8) (T := TX8) (N := 6) hx hb hts inG8 hown hK hP 5 (gX_5 cs ad mu) rfl 1 (by decide) (hts _ (List.mem_cons_of_mem _ mw_1_112)) (fun _ h9 => h9) rfl dX11_refusedRoute_20 ?_
    refine lv_iload_n hx hb dX11_refusedRoute_23 rfl (lv_at hl 2 rfl) ?_
    have hx3 : 0 ≤ vk.toInt ∧ vk.toInt < ((4 : Nat) : Int) := ⟨by omega, by omega⟩
    refine va_aldq hx hb hK hP 47 5 (gX_47 cs ad mu) rfl (show vp_in vk 4 from vi_of hx3.1 hx3.2) dX11_refusedRoute_24 ?_
    have hk3 : 61 ≤ (61 + vk.toNatClampNeg) ∧ (61 + vk.toNatClampNeg) < 65 := ix_of hx3
    have hk3 : 61 ≤ (61 + vk.toNatClampNeg) ∧ (61 + vk.toNatClampNeg) < 77 := ⟨Nat.le_trans (by decide) hk3.1, Nat.lt_of_lt_of_le hk3.2 (by decide)⟩
    refine lq_v (.ref (ad (61 + vk.toNatClampNeg))) rfl ?_
    refine va_get (D := (dC, dI)) (ci := 3) (v := .int (mu (61 + vk.toNatClampNeg) 9)) (C := RX3) (T := TX3) (N := 10) hx hb hts inG3 hown hK hP (61 + vk.toNatClampNeg) (gX_letter cs ad mu (61 + vk.toNatClampNeg) hk3.1 hk3.2) rfl 9 (by decide) (hts _ (List.mem_cons_of_mem _ mw_1_80)) (fun _ h9 => h9) rfl dX11_refusedRoute_25 ?_
    refine lv_topi (fun y4 ey4 => ?_)
    have by4 : y4.toInt = (mu (61 + vk.toNatClampNeg) 9).toInt := congrArg Int32.toInt ey4
    have gy4 : 0 ≤ y4.toInt ∧ y4.toInt ≤ 1 := by rw [ey4]; exact rX_letter_9 ok (61 + vk.toNatClampNeg) hk3.1 hk3.2
    refine lv_if_eq (tgt := 36) hx hb dX11_refusedRoute_28 (by decide) (fun c_5 => ?_) (fun c_5 => ?_)
    · have c_5 : y4.toInt = 0 := il_eq c_5
      refine lv_iconst (v := 0) hx hb dX11_refusedRoute_36 (by decide) ?_
      exact W.iret (v := 0) hx hb hr (fun t ht hW => ⟨⟨0, mu, rfl, Or.inl ⟨rfl, rfl, (by omega)⟩, by first | (subst ht; exact hP) | (rw [ht]; exact hP) | (show va_P (dC, dI) vwCl (wR 157 ad (EX cs ad) mu) t.heap; rw [ht]; exact hP)⟩, hS.F ht⟩) hS.2.2 dX11_refusedRoute_37
    · have c_5 : ¬ y4.toInt = 0 := il_ne c_5
      refine lv_bipush (v := (-4)) hx hb dX11_refusedRoute_31 (by decide) ?_
      refine lv_goto (tgt := 37) hx hb dX11_refusedRoute_33 (by decide) ?_
      exact W.iret (v := (-4)) hx hb hr (fun t ht hW => ⟨⟨(-4), mu, rfl, Or.inr ⟨by decide, ok, (fun _ _ _ => rfl)⟩, by first | (subst ht; exact hP) | (rw [ht]; exact hP) | (show va_P (dC, dI) vwCl (wR 157 ad (EX cs ad) mu) t.heap; rw [ht]; exact hP)⟩, hS.F ht⟩) hS.2.2 dX11_refusedRoute_37
  · have kp2 : (∀ k f : Nat, Nat.testBit 510 (gpX k f) = true → xi1 k f = mu k f) := kp_t hkp1_0 (by decide) (fun _ _ _ => rfl)
    skip
    refine lv_istore_n (lv' := [(3, .int r1), (0, .ref (ad 0)), (1, .int vk), (2, .int vb)]) hx hb dX11_refusedRoute_6 rfl hl (by decide) rfl (fun ls hl => ?_)
    refine lv_iload_n hx hb dX11_refusedRoute_7 rfl (lv_at hl 0 rfl) ?_
    refine lv_if_eq (tgt := 13) hx hb dX11_refusedRoute_8 (by decide) (fun c_6 => by have c_6 : r1.toInt = 0 := il_eq c_6; exfalso; omega) (fun c_6 => ?_)
    have c_6 : ¬ r1.toInt = 0 := il_ne c_6
    refine lv_iload_n hx hb dX11_refusedRoute_11 rfl (lv_at hl 0 rfl) ?_
    exact W.iret (v := r1) hx hb hr (fun t ht hW => ⟨⟨r1, xi1, rfl, Or.inr ⟨by omega, ok, kp2⟩, by first | (subst ht; exact hP) | (rw [ht]; exact hP) | (show va_P (dC, dI) vwCl (wR 157 ad (EX cs ad) xi1) t.heap; rw [ht]; exact hP)⟩, hS.F ht⟩) hS.2.2 dX11_refusedRoute_12
set_option maxHeartbeats 4000000 in
set_option maxRecDepth 100000 in
/-- sx_refusedPrices -/
theorem sx_refusedPrices (l : Launch) (dC : Nat → ClassId) (dI : Nat → Nat → Nat) (cs : Nat → ClassId) (ad : Nat → Nat) (mu : Nat → Nat → Int32) (ok : okR loX hiX mu) (H : Heap) (hP : va_P (dC, dI) vwCl (wR 157 ad (EX cs ad) mu) H) (hD0 : va_D (fun _ => True) (wR 157 ad (EX cs ad) mu)) (vx : Int32) (vr : Int32) (vb : Int32) : Met l yX11_refusedPrices (wU yX11_refusedPrices cX11_refusedPrices 5 (some .int)) ({ frames := 2, cells := 0, slots := 0, locals := 42 }) (va_Pc [.ref (ad 0), .int vx, .int vr, .int vb] (sz_P (dC, dI) vwCl (tyW cs) H)) (va_Qi (fun (z : Int32) (xi : Nat → Nat → Int32) => (z = 0 ∧ xi = mu ∧ (0 ≤ vx.toInt ∧ vx.toInt < (mu 4 6).toInt ∧ (mu 4 6).toInt ≤ 7 ∧ 0 ≤ vr.toInt ∧ vr.toInt ≤ 5 ∧ 0 ≤ (mu (8 + vr.toNatClampNeg) 1).toInt ∧ (mu (8 + vr.toNatClampNeg) 1).toInt ≤ 40 ∧ (mu (8 + vr.toNatClampNeg) 1).toInt ≤ 6 ∧ vb.toInt = 0)) ∨ (z.toInt < 0 ∧ okR loX hiX xi ∧ (∀ k f : Nat, Nat.testBit 510 (gpX k f) = true → xi k f = mu k f))) (fun xi t => va_P (dC, dI) vwCl (wR 157 ad (EX cs ad) xi) t.heap) (va_A (wR 157 ad (EX cs ad) mu) H.size)) 0 0 (va_A (wR 157 ad (EX cs ad) mu) H.size) := by
  refine Met.ofW (cc := cX11_refusedPrices) (maxL := 5) (ret := (some .int)) (by decide) rfl ?_
  intro p e s m args below meth c s₁ B hml hv
  obtain ⟨rfl, hh, hK, hz⟩ := hv
  have hx := B.exec
  have hb := B.bytes
  have hr := B.returns
  have hts := atoms_spec (ws := (wU yX11_refusedPrices cX11_refusedPrices 5 (some .int))) B.pre
  have hown : s.vm.findClass RX11 = some m.cls := findClass_of_methodNamed B.named
  have hlocks := B.notSynchronized
  subst hh
  have hD := hD0.self (sz := s.heap.size)
  have hA : ∀ q : Nat, s.heap.size ≤ q → (va_A (wR 157 ad (EX cs ad) mu) s.heap.size) q := fun q h => Or.inr h
  have hS : va_S (va_A (wR 157 ad (EX cs ad) mu) s.heap.size) s.heap s.heap [] := va_S.rf
  have hl := lv_entry ([.ref (ad 0), .int vx, .int vr, .int vb]) (n := 5) (Nat.le_of_ble_eq_true rfl)
  rw [lg_entry_eq]
  generalize (lg_sl ([.ref (ad 0), .int vx, .int vr, .int vb]) ++ List.replicate (5 - (lg_sl ([.ref (ad 0), .int vx, .int vr, .int vb])).length) Slot.unset).toArray = ls at hl ⊢
  have hl : lv_has ls 5 [(0, .ref (ad 0)), (1, .int vx), (2, .int vr), (3, .int vb)] := hl
  refine lv_aload_n hx hb dX11_refusedPrices_0 rfl (lv_at hl 0 rfl) ?_
  refine va_get (D := (dC, dI)) (ci := 11) (v := .ref (ad 4)) (C := RX11) (T := TX11) (N := 11) hx hb hts inG11 hown hK hP 0 (gX_0 cs ad mu) rfl 3 (by decide) (hts _ (List.mem_cons_of_mem _ mw_2_161)) (fun _ h9 => h9) rfl dX11_refusedPrices_1 ?_
  refine lv_iload_n hx hb dX11_refusedPrices_4 rfl (lv_at hl 1 rfl) ?_
  refine cr_i (va_runV (As := [.int vx]) (rest := []) ⟨hx, hb, hml, hown, hts⟩ (sx_has l dC dI cs ad mu ok s.heap hP vx) (cwV 1 hts (wU_V mw_3_76 mw_3_73 mw_3_74 mw_3_75 mw_1_2) rfl rfl rfl (by decide +kernel) ⟨Nat.le_of_ble_eq_true rfl, Nat.le_of_ble_eq_true rfl⟩) ⟨sz_c, va_recv hK hP (ci := 10) (q0 := 4) rfl (gX_4 cs ad mu), sz_m hK hz⟩ rfl rfl hl.1 rfl (lv_room (Nat.le_of_ble_eq_true rfl)) dX11_refusedPrices_5 ⟨Nat.zero_le _, Nat.zero_le _⟩) hS (fun r1 hw1 locs hS => ?_)
  obtain ⟨hfe1, hw1⟩ := hw1
  rcases hw1 with ⟨rfl, f1⟩ | ⟨rfl, f1⟩
  · have f1 : 0 ≤ vx.toInt ∧ vx.toInt < (mu 4 6).toInt ∧ (mu 4 6).toInt ≤ 7 := f1
    refine lv_if_eq (tgt := 15) hx hb dX11_refusedPrices_8 (by decide) (fun c => absurd c (by decide)) (fun _ => ?_)
    refine lv_iload_n hx hb dX11_refusedPrices_11 rfl (lv_at hl 3 rfl) ?_
    refine lv_if_eq (tgt := 17) hx hb dX11_refusedPrices_12 (by decide) (fun c_2 => ?_) (fun c_2 => ?_)
    · have c_2 : vb.toInt = 0 := il_eq c_2
      refine lv_aload_n hx hb dX11_refusedPrices_17 rfl (lv_at hl 0 rfl) ?_
      refine lv_iload_n hx hb dX11_refusedPrices_18 rfl (lv_at hl 2 rfl) ?_
      have hFc := fr_all (wR_D mu hD) hS hA
      refine va_calli (va_runV (As := [.int vr]) (rest := []) ⟨hx, hb, hml, hown, hts⟩ (sx_refusedRow l dC dI cs ad mu ok s.heap hP ((wR_D mu hD).weaken (fun _ _ _ _ => trivial)) vr) (cwV 1 hts (wU_V mw_2_221 mw_2_218 mw_2_220 mw_0_2 mw_1_1) rfl rfl rfl (by decide +kernel) ⟨Nat.le_of_ble_eq_true rfl, Nat.le_of_ble_eq_true rfl⟩) ⟨sz_c, va_recv hK hP (ci := 11) (q0 := 0) rfl (gX_0 cs ad mu), sz_m hK hz⟩ rfl rfl hl.1 rfl (lv_room (Nat.le_of_ble_eq_true rfl)) dX11_refusedPrices_19 ⟨Nat.zero_le _, Nat.zero_le _⟩) hS (fun q _ h => hFc q h) hFc (fun r3 xi3 t H3 locs ht hvm hw3 hB hz1 hk1 hS => ?_)
      have hP : va_P (dC, dI) vwCl (wR 157 ad (EX cs ad) xi3) H3 := by rw [← ht]; exact hB
      obtain ⟨hfe3, hw3⟩ := hw3
      rcases hw3 with ⟨rfl, hxi3, f3⟩ | ⟨z3, ok, hkp3_0⟩
      · have hP : va_P (dC, dI) vwCl (wR 157 ad (EX cs ad) mu) H3 := by rw [← hxi3]; exact hP
        have f3 : 0 ≤ vr.toInt ∧ vr.toInt ≤ 5 ∧ 0 ≤ (mu (8 + vr.toNatClampNeg) 1).toInt := f3
        refine lv_istore (lv' := [(4, .int 0), (0, .ref (ad 0)), (1, .int vx), (2, .int vr), (3, .int vb)]) hx hb dX11_refusedPrices_22 hl (by decide) rfl (fun ls hl => ?_)
        refine lv_iload hx hb dX11_refusedPrices_24 (lv_at hl 0 rfl) ?_
        refine lv_if_eq (tgt := 32) hx hb dX11_refusedPrices_26 (by decide) (fun _ => ?_) (fun c => absurd (by decide) c)
        refine lv_aload_n hx hb dX11_refusedPrices_32 rfl (lv_at hl 1 rfl) ?_
        refine va_get (D := (dC, dI)) (ci := 11) (v := .ref (ad 1)) (C := RX11) (T := TX11) (N := 11) hx hb hts inG11 hown hK hP 0 (gX_0 cs ad mu) rfl 0 (by decide) (hts _ (List.mem_cons_of_mem _ mw_2_158)) (fun _ h9 => h9) rfl dX11_refusedPrices_33 ?_
        refine lv_iload_n hx hb dX11_refusedPrices_36 rfl (lv_at hl 3 rfl) ?_
        have hx5 : 0 ≤ vr.toInt ∧ vr.toInt < ((6 : Nat) : Int) := ⟨by omega, by omega⟩
        refine va_aldq hx hb hK hP 1 2 (gX_1 cs ad mu) rfl (show vp_in vr 6 from vi_of hx5.1 hx5.2) dX11_refusedPrices_37 ?_
        have hk5 : 8 ≤ (8 + vr.toNatClampNeg) ∧ (8 + vr.toNatClampNeg) < 14 := ix_of hx5
        refine lq_v (.ref (ad (8 + vr.toNatClampNeg))) rfl ?_
        refine va_get (D := (dC, dI)) (ci := 6) (v := .int (mu (8 + vr.toNatClampNeg) 1)) (C := RX6) (T := TX6) (N := 2) hx hb hts inG6 hown hK hP (8 + vr.toNatClampNeg) (gX_row cs ad mu (8 + vr.toNatClampNeg) hk5.1 hk5.2) rfl 1 (by decide) (hts _ (List.mem_cons_of_mem _ mw_2_134)) (fun _ h9 => h9) rfl dX11_refusedPrices_38 ?_
        refine lv_topi (fun y6 ey6 => ?_)
        have by6 : y6.toInt = (mu (8 + vr.toNatClampNeg) 1).toInt := congrArg Int32.toInt ey6
        have gy6 : -1 ≤ y6.toInt ∧ y6.toInt ≤ 40 := by rw [ey6]; exact rX_row_1 ok (8 + vr.toNatClampNeg) hk5.1 hk5.2
        refine lv_bipush (v := 6) hx hb dX11_refusedPrices_41 (by decide) ?_
        refine lv_icmp_le (tgt := 54) hx hb dX11_refusedPrices_43 (by decide) (fun c_7 => ?_) (fun c_7 => ?_)
        · have c_7 : y6.toInt ≤ 6 := il_le c_7
          refine lv_iconst (v := 0) hx hb dX11_refusedPrices_54 (by decide) ?_
          exact W.iret (v := 0) hx hb hr (fun t ht hW => ⟨⟨0, mu, rfl, Or.inl ⟨rfl, rfl, (by have hb8 := congrArg Int32.toInt ey6; omega)⟩, by first | (subst ht; exact hP) | (rw [ht]; exact hP) | (show va_P (dC, dI) vwCl (wR 157 ad (EX cs ad) mu) t.heap; rw [ht]; exact hP)⟩, hS.F ht⟩) hS.2.2 dX11_refusedPrices_55
        · have c_7 : 6 < y6.toInt := il_nle c_7
          refine lv_aload_n hx hb dX11_refusedPrices_46 rfl (lv_at hl 1 rfl) ?_
          refine lv_iconst (v := 5) hx hb dX11_refusedPrices_47 (by decide) ?_
          have hFc := fr_all (wR_D mu hD) hS hA
          refine va_calli (va_runV (As := [.int 5]) (rest := []) ⟨hx, hb, hml, hown, hts⟩ (sx_found l dC dI cs ad mu ok H3 hP ((wR_D mu hD).weaken (fun _ _ _ _ => trivial)) 5 (by have h50 : (5 : Int32).toInt = 5 := rfl; omega)) (cwV 1 hts (wU_V mw_2_202 mw_2_199 mw_2_201 mw_0_0 mw_1_1) rfl rfl rfl (by decide +kernel) ⟨Nat.le_of_ble_eq_true rfl, Nat.le_of_ble_eq_true rfl⟩) ⟨sz_c, va_recv hK hP (ci := 11) (q0 := 0) rfl (gX_0 cs ad mu), sz_m hK hz⟩ rfl rfl hl.1 rfl (lv_room (Nat.le_of_ble_eq_true rfl)) dX11_refusedPrices_48 ⟨Nat.zero_le _, Nat.zero_le _⟩) hS (fun q _ h => hFc q h) hFc (fun r9 xi9 t H9 locs ht hvm hw9 hB hz1 hk1 hS => ?_)
          have hP : va_P (dC, dI) vwCl (wR 157 ad (EX cs ad) xi9) H9 := by rw [← ht]; exact hB
          obtain ⟨hfe9, ok, hw9, hkp9_0⟩ := hw9
          have kp10 : (∀ k f : Nat, Nat.testBit 510 (gpX k f) = true → xi9 k f = mu k f) := kp_t hkp9_0 (by decide) (fun _ _ _ => rfl)
          have gr9 : -3 ≤ r9.toInt ∧ r9.toInt ≤ -3 := hw9
          refine lv_goto (tgt := 55) hx hb dX11_refusedPrices_51 (by decide) ?_
          exact W.iret (v := r9) hx hb hr (fun t ht hW => ⟨⟨r9, xi9, rfl, Or.inr ⟨by omega, ok, kp10⟩, by first | (subst ht; exact hP) | (rw [ht]; exact hP) | (show va_P (dC, dI) vwCl (wR 157 ad (EX cs ad) xi9) t.heap; rw [ht]; exact hP)⟩, hS.F ht⟩) hS.2.2 dX11_refusedPrices_55
      · have kp4 : (∀ k f : Nat, Nat.testBit 510 (gpX k f) = true → xi3 k f = mu k f) := kp_t hkp3_0 (by decide) (fun _ _ _ => rfl)
        skip
        refine lv_istore (lv' := [(4, .int r3), (0, .ref (ad 0)), (1, .int vx), (2, .int vr), (3, .int vb)]) hx hb dX11_refusedPrices_22 hl (by decide) rfl (fun ls hl => ?_)
        refine lv_iload hx hb dX11_refusedPrices_24 (lv_at hl 0 rfl) ?_
        refine lv_if_eq (tgt := 32) hx hb dX11_refusedPrices_26 (by decide) (fun c_11 => by have c_11 : r3.toInt = 0 := il_eq c_11; exfalso; omega) (fun c_11 => ?_)
        have c_11 : ¬ r3.toInt = 0 := il_ne c_11
        refine lv_iload hx hb dX11_refusedPrices_29 (lv_at hl 0 rfl) ?_
        exact W.iret (v := r3) hx hb hr (fun t ht hW => ⟨⟨r3, xi3, rfl, Or.inr ⟨by omega, ok, kp4⟩, by first | (subst ht; exact hP) | (rw [ht]; exact hP) | (show va_P (dC, dI) vwCl (wR 157 ad (EX cs ad) xi3) t.heap; rw [ht]; exact hP)⟩, hS.F ht⟩) hS.2.2 dX11_refusedPrices_31
    · have c_2 : ¬ vb.toInt = 0 := il_ne c_2
      refine lv_iconst (v := (-1)) hx hb dX11_refusedPrices_15 (by decide) ?_
      exact W.iret (v := (-1)) hx hb hr (fun t ht hW => ⟨⟨(-1), mu, rfl, Or.inr ⟨by decide, ok, (fun _ _ _ => rfl)⟩, by first | (subst ht; exact hP) | (rw [ht]; exact hP) | (show va_P (dC, dI) vwCl (wR 157 ad (EX cs ad) mu) t.heap; rw [ht]; exact hP)⟩, hS.F ht⟩) hS.2.2 dX11_refusedPrices_16
  · have f1 : vx.toInt < 0 ∨ (mu 4 6).toInt ≤ vx.toInt := f1
    refine lv_if_eq (tgt := 15) hx hb dX11_refusedPrices_8 (by decide) (fun _ => ?_) (fun c => absurd (by decide) c)
    refine lv_iconst (v := (-1)) hx hb dX11_refusedPrices_15 (by decide) ?_
    exact W.iret (v := (-1)) hx hb hr (fun t ht hW => ⟨⟨(-1), mu, rfl, Or.inr ⟨by decide, ok, (fun _ _ _ => rfl)⟩, by first | (subst ht; exact hP) | (rw [ht]; exact hP) | (show va_P (dC, dI) vwCl (wR 157 ad (EX cs ad) mu) t.heap; rw [ht]; exact hP)⟩, hS.F ht⟩) hS.2.2 dX11_refusedPrices_16
set_option maxHeartbeats 4000000 in
set_option maxRecDepth 100000 in
/-- sx_isPair -/
theorem sx_isPair (l : Launch) (dC : Nat → ClassId) (dI : Nat → Nat → Nat) (cs : Nat → ClassId) (ad : Nat → Nat) (mu : Nat → Nat → Int32) (ok : okR loX hiX mu) (H : Heap) (hP : va_P (dC, dI) vwCl (wR 157 ad (EX cs ad) mu) H) (vx : Int32) (vy : Int32) : Met l yX11_isPair (wU yX11_isPair cX11_isPair 3 (some .boolean)) ({ frames := 1, cells := 0, slots := 0, locals := 21 }) (va_Pc [.ref (ad 0), .int vx, .int vy] (sz_P (dC, dI) vwCl (tyW cs) H)) (va_Qi (fun (z : Int32) (_ : Unit) => z = F_sx_isPair mu vx vy ∧ ((z = 1 ∧ (0 ≤ vx.toInt ∧ vx.toInt < (mu 4 6).toInt ∧ 0 ≤ vy.toInt ∧ vy.toInt < (mu 4 6).toInt ∧ (mu 4 6).toInt ≤ 7)) ∨ (z = 0 ∧ (True)))) (fun _ t => t.heap = H) (fun _ => False)) 0 0 (fun _ => False) := by
  refine Met.ofW (cc := cX11_isPair) (maxL := 3) (ret := (some .boolean)) (by decide) rfl ?_
  intro p e s m args below meth c s₁ B hml hv
  obtain ⟨rfl, hh, hK, hz⟩ := hv
  have hx := B.exec
  have hb := B.bytes
  have hr := B.returns
  have hts := atoms_spec (ws := (wU yX11_isPair cX11_isPair 3 (some .boolean))) B.pre
  have hown : s.vm.findClass RX11 = some m.cls := findClass_of_methodNamed B.named
  have hlocks := B.notSynchronized
  subst hh
  have hS : va_S (fun _ => False) s.heap s.heap [] := va_S.rf
  have hl := lv_entry ([.ref (ad 0), .int vx, .int vy]) (n := 3) (Nat.le_of_ble_eq_true rfl)
  rw [lg_entry_eq]
  generalize (lg_sl ([.ref (ad 0), .int vx, .int vy]) ++ List.replicate (3 - (lg_sl ([.ref (ad 0), .int vx, .int vy])).length) Slot.unset).toArray = ls at hl ⊢
  have hl : lv_has ls 3 [(0, .ref (ad 0)), (1, .int vx), (2, .int vy)] := hl
  obtain ⟨fz, hfz⟩ : ∃ z, F_sx_isPair mu vx vy = z := ⟨_, rfl⟩
  have hF := hfz
  unfold F_sx_isPair at hF
  refine lv_aload_n hx hb dX11_isPair_0 rfl (lv_at hl 0 rfl) ?_
  refine va_get (D := (dC, dI)) (ci := 11) (v := .ref (ad 4)) (C := RX11) (T := TX11) (N := 11) hx hb hts inG11 hown hK hP 0 (gX_0 cs ad mu) rfl 3 (by decide) (hts _ (List.mem_cons_of_mem _ mw_2_161)) (fun _ h9 => h9) rfl dX11_isPair_1 ?_
  refine lv_iload_n hx hb dX11_isPair_4 rfl (lv_at hl 1 rfl) ?_
  refine cr_i (va_runV (As := [.int vx]) (rest := []) ⟨hx, hb, hml, hown, hts⟩ (sx_has l dC dI cs ad mu ok s.heap hP vx) (cwV 1 hts (wU_V mw_3_76 mw_3_73 mw_3_74 mw_3_75 mw_1_2) rfl rfl rfl (by decide +kernel) ⟨Nat.le_of_ble_eq_true rfl, Nat.le_of_ble_eq_true rfl⟩) ⟨sz_c, va_recv hK hP (ci := 10) (q0 := 4) rfl (gX_4 cs ad mu), sz_m hK hz⟩ rfl rfl hl.1 rfl (lv_room (Nat.le_of_ble_eq_true rfl)) dX11_isPair_5 ⟨Nat.zero_le _, Nat.zero_le _⟩) hS (fun r1 hw1 locs hS => ?_)
  obtain ⟨hfe1, hw1⟩ := hw1
  rcases hw1 with ⟨rfl, f1⟩ | ⟨rfl, f1⟩
  · have hF := (if_pos hfe1.symm).symm.trans hF
    have f1 : 0 ≤ vx.toInt ∧ vx.toInt < (mu 4 6).toInt ∧ (mu 4 6).toInt ≤ 7 := f1
    refine lv_if_eq (tgt := 31) hx hb dX11_isPair_8 (by decide) (fun c => absurd c (by decide)) (fun _ => ?_)
    refine lv_aload_n hx hb dX11_isPair_11 rfl (lv_at hl 0 rfl) ?_
    refine va_get (D := (dC, dI)) (ci := 11) (v := .ref (ad 4)) (C := RX11) (T := TX11) (N := 11) hx hb hts inG11 hown hK hP 0 (gX_0 cs ad mu) rfl 3 (by decide) (hts _ (List.mem_cons_of_mem _ mw_2_161)) (fun _ h9 => h9) rfl dX11_isPair_12 ?_
    refine lv_iload_n hx hb dX11_isPair_15 rfl (lv_at hl 2 rfl) ?_
    refine cr_i (va_runV (As := [.int vy]) (rest := []) ⟨hx, hb, hml, hown, hts⟩ (sx_has l dC dI cs ad mu ok s.heap hP vy) (cwV 1 hts (wU_V mw_3_76 mw_3_73 mw_3_74 mw_3_75 mw_1_2) rfl rfl rfl (by decide +kernel) ⟨Nat.le_of_ble_eq_true rfl, Nat.le_of_ble_eq_true rfl⟩) ⟨sz_c, va_recv hK hP (ci := 10) (q0 := 4) rfl (gX_4 cs ad mu), sz_m hK hz⟩ rfl rfl hl.1 rfl (lv_room (Nat.le_of_ble_eq_true rfl)) dX11_isPair_16 ⟨Nat.zero_le _, Nat.zero_le _⟩) hS (fun r2 hw2 locs hS => ?_)
    obtain ⟨hfe2, hw2⟩ := hw2
    rcases hw2 with ⟨rfl, f2⟩ | ⟨rfl, f2⟩
    · have hF := (if_pos hfe2.symm).symm.trans hF
      have f2 : 0 ≤ vy.toInt ∧ vy.toInt < (mu 4 6).toInt ∧ (mu 4 6).toInt ≤ 7 := f2
      refine lv_if_eq (tgt := 31) hx hb dX11_isPair_19 (by decide) (fun c => absurd c (by decide)) (fun _ => ?_)
      refine lv_iload_n hx hb dX11_isPair_22 rfl (lv_at hl 1 rfl) ?_
      refine lv_iload_n hx hb dX11_isPair_23 rfl (lv_at hl 2 rfl) ?_
      refine lv_icmp_eq (tgt := 31) hx hb dX11_isPair_24 (by decide) (fun c_3 => ?_) (fun c_3 => ?_)
      · have hF := (if_pos c_3).symm.trans hF
        have c_3 : vx.toInt = vy.toInt := il_eq c_3
        refine lv_iconst (v := 0) hx hb dX11_isPair_31 (by decide) ?_
        exact W.zret (v := 0) (ty := .boolean) hx hb hr (by first | rfl | decide) (fun t ht hW => ⟨⟨0, (), rfl, ⟨hF.trans hfz.symm, (Or.inr ⟨rfl, by trivial⟩)⟩, ht⟩, hS.F ht⟩) hS.2.2 dX11_isPair_32
      · have hF := (if_neg c_3).symm.trans hF
        have c_3 : ¬ vx.toInt = vy.toInt := il_ne c_3
        refine lv_iconst (v := 1) hx hb dX11_isPair_27 (by decide) ?_
        refine lv_goto (tgt := 32) hx hb dX11_isPair_28 (by decide) ?_
        exact W.zret (v := 1) (ty := .boolean) hx hb hr (by first | rfl | decide) (fun t ht hW => ⟨⟨1, (), rfl, ⟨hF.trans hfz.symm, (Or.inl ⟨rfl, by omega⟩)⟩, ht⟩, hS.F ht⟩) hS.2.2 dX11_isPair_32
    · have hF := (if_neg (fun h => absurd (hfe2.trans h) (by decide))).symm.trans hF
      have f2 : vy.toInt < 0 ∨ (mu 4 6).toInt ≤ vy.toInt := f2
      refine lv_if_eq (tgt := 31) hx hb dX11_isPair_19 (by decide) (fun _ => ?_) (fun c => absurd (by decide) c)
      refine lv_iconst (v := 0) hx hb dX11_isPair_31 (by decide) ?_
      exact W.zret (v := 0) (ty := .boolean) hx hb hr (by first | rfl | decide) (fun t ht hW => ⟨⟨0, (), rfl, ⟨hF.trans hfz.symm, (Or.inr ⟨rfl, by trivial⟩)⟩, ht⟩, hS.F ht⟩) hS.2.2 dX11_isPair_32
  · have hF := (if_neg (fun h => absurd (hfe1.trans h) (by decide))).symm.trans hF
    have f1 : vx.toInt < 0 ∨ (mu 4 6).toInt ≤ vx.toInt := f1
    refine lv_if_eq (tgt := 31) hx hb dX11_isPair_8 (by decide) (fun _ => ?_) (fun c => absurd (by decide) c)
    refine lv_iconst (v := 0) hx hb dX11_isPair_31 (by decide) ?_
    exact W.zret (v := 0) (ty := .boolean) hx hb hr (by first | rfl | decide) (fun t ht hW => ⟨⟨0, (), rfl, ⟨hF.trans hfz.symm, (Or.inr ⟨rfl, by trivial⟩)⟩, ht⟩, hS.F ht⟩) hS.2.2 dX11_isPair_32
