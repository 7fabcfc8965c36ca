set_option maxHeartbeats 4000000 in
set_option maxRecDepth 100000 in
/-- qx_worth -/
theorem qx_worth (l : Launch) (dC : Nat → ClassId) (dI : Nat → Nat → Nat) (cs : Nat → ClassId) (ad : Nat → Nat) (mu : Nat → Nat → Int32) (ok : okR loX hiX mu) (H : Heap) (hP : va_P (dC, dI) vwCl (wR 157 ad (EX cs ad) mu) H) (hD0 : va_D (fun _ => True) (wR 157 ad (EX cs ad) mu)) (vk : Int32) (vx : Int32) (vd : Int32) : Met l yX11_worth (wU yX11_worth cX11_worth 5 (some .int)) ({ frames := 4, cells := 0, slots := 0, locals := 95 }) (va_Pc [.ref (ad 0), .int vk, .int vx, .int vd] (sz_P (dC, dI) vwCl (tyW cs) H)) (va_Qi (fun (z : Int32) (xi : Nat → Nat → Int32) => okR loX hiX xi ∧ (True) ∧ (∀ k f : Nat, Nat.testBit 510 (gpX k f) = true → xi k f = mu k f)) (fun xi t => va_P (dC, dI) vwCl (wR 157 ad (EX cs ad) xi) t.heap) (va_A (wR 157 ad (EX cs ad) mu) H.size)) 0 0 (va_A (wR 157 ad (EX cs ad) mu) H.size) := by
  refine Met.ofW (cc := cX11_worth) (maxL := 5) (ret := (some .int)) (by decide) rfl ?_
  intro p e s m args below meth c s₁ B hml hv
  obtain ⟨rfl, hh, hK, hz⟩ := hv
  have hx := B.exec
  have hb := B.bytes
  have hr := B.returns
  have hts := atoms_spec (ws := (wU yX11_worth cX11_worth 5 (some .int))) B.pre
  have hown : s.vm.findClass RX11 = some m.cls := findClass_of_methodNamed B.named
  have hlocks := B.notSynchronized
  subst hh
  have hD := hD0.self (sz := s.heap.size)
  have hA : ∀ q : Nat, s.heap.size ≤ q → (va_A (wR 157 ad (EX cs ad) mu) s.heap.size) q := fun q h => Or.inr h
  have hS : va_S (va_A (wR 157 ad (EX cs ad) mu) s.heap.size) s.heap s.heap [] := va_S.rf
  have hl := lv_entry ([.ref (ad 0), .int vk, .int vx, .int vd]) (n := 5) (Nat.le_of_ble_eq_true rfl)
  rw [lg_entry_eq]
  generalize (lg_sl ([.ref (ad 0), .int vk, .int vx, .int vd]) ++ List.replicate (5 - (lg_sl ([.ref (ad 0), .int vk, .int vx, .int vd])).length) Slot.unset).toArray = ls at hl ⊢
  have hl : lv_has ls 5 [(0, .ref (ad 0)), (1, .int vk), (2, .int vx), (3, .int vd)] := hl
  refine lv_aload_n hx hb dX11_worth_0 rfl (lv_at hl 0 rfl) ?_
  refine lv_iload_n hx hb dX11_worth_1 rfl (lv_at hl 1 rfl) ?_
  refine lv_aload_n hx hb dX11_worth_2 rfl (lv_at hl 0 rfl) ?_
  refine va_get (D := (dC, dI)) (ci := 11) (v := .ref (ad 4)) (C := RX11) (T := TX11) (N := 11) hx hb hts inG11 hown hK hP 0 (gX_0 cs ad mu) rfl 3 (by decide) (hts _ (List.mem_cons_of_mem _ mw_2_161)) (fun _ h9 => h9) rfl dX11_worth_3 ?_
  refine lv_iload_n hx hb dX11_worth_6 rfl (lv_at hl 2 rfl) ?_
  refine cr_i (va_runV (As := [.int vx]) (rest := [.int vk, .ref (ad 0)]) ⟨hx, hb, hml, hown, hts⟩ (sx_has l dC dI cs ad mu ok s.heap hP vx) (cwV 1 hts (wU_V mw_3_76 mw_3_73 mw_3_74 mw_3_75 mw_1_2) rfl rfl rfl (by decide +kernel) ⟨Nat.le_of_ble_eq_true rfl, Nat.le_of_ble_eq_true rfl⟩) ⟨sz_c, va_recv hK hP (ci := 10) (q0 := 4) rfl (gX_4 cs ad mu), sz_m hK hz⟩ rfl rfl hl.1 rfl (lv_room (Nat.le_of_ble_eq_true rfl)) dX11_worth_7 ⟨Nat.zero_le _, Nat.zero_le _⟩) hS (fun r1 hw1 locs hS => ?_)
  obtain ⟨hfe1, hw1⟩ := hw1
  rcases hw1 with ⟨rfl, f1⟩ | ⟨rfl, f1⟩
  · have f1 : 0 ≤ vx.toInt ∧ vx.toInt < (mu 4 6).toInt ∧ (mu 4 6).toInt ≤ 7 := f1
    refine lv_if_eq (tgt := 23) hx hb dX11_worth_10 (by decide) (fun c => absurd c (by decide)) (fun _ => ?_)
    refine lv_iload_n hx hb dX11_worth_13 rfl (lv_at hl 3 rfl) ?_
    refine lv_if_lt (tgt := 23) hx hb dX11_worth_14 (by decide) (fun c_2 => ?_) (fun c_2 => ?_)
    · have c_2 : vd.toInt < 0 := il_lt c_2
      refine lv_iconst (v := 1) hx hb dX11_worth_23 (by decide) ?_
      refine lv_goto (tgt := 28) hx hb dX11_worth_24 (by decide) ?_
      have hFc := fr_all (wR_D mu hD) hS hA
      refine va_calli (va_runV (As := [.int vk, .int 1]) (rest := []) ⟨hx, hb, hml, hown, hts⟩ (sx_refusedRoute l dC dI cs ad mu ok s.heap hP ((wR_D mu hD).weaken (fun _ _ _ _ => trivial)) vk 1) (cwV 2 hts (wU_V mw_4_1 mw_3_238 mw_4_0 mw_0_9 mw_1_1) rfl rfl rfl (by decide +kernel) ⟨Nat.le_of_ble_eq_true rfl, Nat.le_of_ble_eq_true rfl⟩) ⟨sz_c, va_recv hK hP (ci := 11) (q0 := 0) rfl (gX_0 cs ad mu), sz_m hK hz⟩ rfl rfl hl.1 rfl (lv_room (Nat.le_of_ble_eq_true rfl)) dX11_worth_28 ⟨Nat.zero_le _, Nat.zero_le _⟩) hS (fun q _ h => hFc q h) hFc (fun r3 xi3 t H3 locs ht hvm hw3 hB hz1 hk1 hS => ?_)
      have hP : va_P (dC, dI) vwCl (wR 157 ad (EX cs ad) xi3) H3 := by rw [← ht]; exact hB
      rcases hw3 with ⟨rfl, hxi3, f3⟩ | ⟨z3, ok, hkp3_0⟩
      · have f3 : 0 ≤ vk.toInt ∧ vk.toInt < (mu 5 4).toInt ∧ (mu 5 4).toInt ≤ 4 ∧ (1 : Int) = 0 := f3
        exfalso
        have h9 : (1 : Int32).toInt = 1 := rfl
        omega
      · have kp4 : (∀ k f : Nat, Nat.testBit 510 (gpX k f) = true → xi3 k f = mu k f) := kp_t hkp3_0 (by decide) (fun _ _ _ => rfl)
        skip
        refine lv_istore (lv' := [(4, .int r3), (0, .ref (ad 0)), (1, .int vk), (2, .int vx), (3, .int vd)]) hx hb dX11_worth_31 hl (by decide) rfl (fun ls hl => ?_)
        refine lv_iload hx hb dX11_worth_33 (lv_at hl 0 rfl) ?_
        refine lv_if_eq (tgt := 41) hx hb dX11_worth_35 (by decide) (fun c_5 => by have c_5 : r3.toInt = 0 := il_eq c_5; exfalso; omega) (fun c_5 => ?_)
        have c_5 : ¬ r3.toInt = 0 := il_ne c_5
        refine lv_iload hx hb dX11_worth_38 (lv_at hl 0 rfl) ?_
        exact W.iret (v := r3) hx hb hr (fun t ht hW => ⟨⟨r3, xi3, rfl, ⟨ok, trivial, kp4⟩, by first | (subst ht; exact hP) | (rw [ht]; exact hP) | (show va_P (dC, dI) vwCl (wR 157 ad (EX cs ad) xi3) t.heap; rw [ht]; exact hP)⟩, hS.F ht⟩) hS.2.2 dX11_worth_40
    · have c_2 : 0 ≤ vd.toInt := il_nlt c_2
      refine lv_iload_n hx hb dX11_worth_17 rfl (lv_at hl 3 rfl) ?_
      refine lv_bipush (v := 20) hx hb dX11_worth_18 (by decide) ?_
      refine lv_icmp_le (tgt := 27) hx hb dX11_worth_20 (by decide) (fun c_6 => ?_) (fun c_6 => ?_)
      · have c_6 : vd.toInt ≤ 20 := il_le c_6
        refine lv_iconst (v := 0) hx hb dX11_worth_27 (by decide) ?_
        have hFc := fr_all (wR_D mu hD) hS hA
        refine va_calli (va_runV (As := [.int vk, .int 0]) (rest := []) ⟨hx, hb, hml, hown, hts⟩ (sx_refusedRoute l dC dI cs ad mu ok s.heap hP ((wR_D mu hD).weaken (fun _ _ _ _ => trivial)) vk 0) (cwV 2 hts (wU_V mw_4_1 mw_3_238 mw_4_0 mw_0_9 mw_1_1) rfl rfl rfl (by decide +kernel) ⟨Nat.le_of_ble_eq_true rfl, Nat.le_of_ble_eq_true rfl⟩) ⟨sz_c, va_recv hK hP (ci := 11) (q0 := 0) rfl (gX_0 cs ad mu), sz_m hK hz⟩ rfl rfl hl.1 rfl (lv_room (Nat.le_of_ble_eq_true rfl)) dX11_worth_28 ⟨Nat.zero_le _, Nat.zero_le _⟩) hS (fun q _ h => hFc q h) hFc (fun r7 xi7 t H7 locs ht hvm hw7 hB hz1 hk1 hS => ?_)
        have hP : va_P (dC, dI) vwCl (wR 157 ad (EX cs ad) xi7) H7 := by rw [← ht]; exact hB
        rcases hw7 with ⟨rfl, hxi7, f7⟩ | ⟨z7, ok, hkp7_0⟩
        · have hP : va_P (dC, dI) vwCl (wR 157 ad (EX cs ad) mu) H7 := by rw [← hxi7]; exact hP
          have f7 : 0 ≤ vk.toInt ∧ vk.toInt < (mu 5 4).toInt ∧ (mu 5 4).toInt ≤ 4 ∧ (0 : Int) = 0 := f7
          refine lv_istore (lv' := [(4, .int 0), (0, .ref (ad 0)), (1, .int vk), (2, .int vx), (3, .int vd)]) hx hb dX11_worth_31 hl (by decide) rfl (fun ls hl => ?_)
          refine lv_iload hx hb dX11_worth_33 (lv_at hl 0 rfl) ?_
          refine lv_if_eq (tgt := 41) hx hb dX11_worth_35 (by decide) (fun _ => ?_) (fun c => absurd (by decide) c)
          refine lv_aload_n hx hb dX11_worth_41 rfl (lv_at hl 1 rfl) ?_
          refine va_get (D := (dC, dI)) (ci := 11) (v := .ref (ad 4)) (C := RX11) (T := TX11) (N := 11) hx hb hts inG11 hown hK hP 0 (gX_0 cs ad mu) rfl 3 (by decide) (hts _ (List.mem_cons_of_mem _ mw_2_161)) (fun _ h9 => h9) rfl dX11_worth_42 ?_
          refine lv_aload_n hx hb dX11_worth_45 rfl (lv_at hl 1 rfl) ?_
          refine va_get (D := (dC, dI)) (ci := 11) (v := .ref (ad 4)) (C := RX11) (T := TX11) (N := 11) hx hb hts inG11 hown hK hP 0 (gX_0 cs ad mu) rfl 3 (by decide) (hts _ (List.mem_cons_of_mem _ mw_2_161)) (fun _ h9 => h9) rfl dX11_worth_46 ?_
          refine va_get (D := (dC, dI)) (ci := 10) (v := .ref (ad 5)) (C := RX10) (T := TX10) (N := 8) hx hb hts inG10 hown hK hP 4 (gX_4 cs ad mu) rfl 3 (by decide) (hts _ (List.mem_cons_of_mem _ mw_1_157)) (fun _ h9 => h9) rfl dX11_worth_49 ?_
          refine va_get (D := (dC, dI)) (ci := 8) (v := .ref (ad 47)) (C := RX8) (T := TX8) (N := 6) hx hb hts inG8 hown hK hP 5 (gX_5 cs ad mu) rfl 1 (by decide) (hts _ (List.mem_cons_of_mem _ mw_1_112)) (fun _ h9 => h9) rfl dX11_worth_52 ?_
          refine lv_iload_n hx hb dX11_worth_55 rfl (lv_at hl 2 rfl) ?_
          have hx9 : 0 ≤ vk.toInt ∧ vk.toInt < ((4 : Nat) : Int) := ⟨by omega, by omega⟩
          refine va_aldq hx hb hK hP 47 5 (gX_47 cs ad mu) rfl (show vp_in vk 4 from vi_of hx9.1 hx9.2) dX11_worth_56 ?_
          have hk9 : 61 ≤ (61 + vk.toNatClampNeg) ∧ (61 + vk.toNatClampNeg) < 65 := ix_of hx9
          have hk9 : 61 ≤ (61 + vk.toNatClampNeg) ∧ (61 + vk.toNatClampNeg) < 77 := ⟨Nat.le_trans (by decide) hk9.1, Nat.lt_of_lt_of_le hk9.2 (by decide)⟩
          refine lq_v (.ref (ad (61 + vk.toNatClampNeg))) rfl ?_
          refine lv_iload_n hx hb dX11_worth_57 rfl (lv_at hl 3 rfl) ?_
          refine lv_iload_n hx hb dX11_worth_58 rfl (lv_at hl 4 rfl) ?_
          have hFc := fr_all (wR_D mu hD) hS hA
          refine va_calli (va_runV (As := [.ref (ad (61 + vk.toNatClampNeg)), .int vx, .int vd]) (rest := []) ⟨hx, hb, hml, hown, hts⟩ (sx_worthTo l dC dI cs ad mu ok H7 hP ((wR_D mu hD).weaken (fun _ _ _ _ => trivial)) (61 + vk.toNatClampNeg) hk9.1 hk9.2 vx vd (by omega) (by omega)) (cwV 3 hts (wU_V mw_4_114 mw_4_111 mw_4_112 mw_4_113 mw_1_2) rfl rfl rfl (by decide +kernel) ⟨Nat.le_of_ble_eq_true rfl, Nat.le_of_ble_eq_true rfl⟩) ⟨sz_c, va_recv hK hP (ci := 10) (q0 := 4) rfl (gX_4 cs ad mu), sz_m hK hz⟩ rfl rfl hl.1 rfl (lv_room (Nat.le_of_ble_eq_true rfl)) dX11_worth_59 ⟨Nat.zero_le _, Nat.zero_le _⟩) hS (fun q _ h => hFc q h) hFc (fun r10 xi10 t H10 locs ht hvm hw10 hB hz1 hk1 hS => ?_)
          have hP : va_P (dC, dI) vwCl (wR 157 ad (EX cs ad) xi10) H10 := by rw [← ht]; exact hB
          obtain ⟨ok, hw10, hkp10_0⟩ := hw10
          have kp11 : (∀ k f : Nat, Nat.testBit 510 (gpX k f) = true → xi10 k f = mu k f) := kp_t hkp10_0 (by decide) (fun _ _ _ => rfl)
          exact W.iret (v := r10) hx hb hr (fun t ht hW => ⟨⟨r10, xi10, rfl, ⟨ok, trivial, kp11⟩, by first | (subst ht; exact hP) | (rw [ht]; exact hP) | (show va_P (dC, dI) vwCl (wR 157 ad (EX cs ad) xi10) t.heap; rw [ht]; exact hP)⟩, hS.F ht⟩) hS.2.2 dX11_worth_62
        · have kp8 : (∀ k f : Nat, Nat.testBit 510 (gpX k f) = true → xi7 k f = mu k f) := kp_t hkp7_0 (by decide) (fun _ _ _ => rfl)
          skip
          refine lv_istore (lv' := [(4, .int r7), (0, .ref (ad 0)), (1, .int vk), (2, .int vx), (3, .int vd)]) hx hb dX11_worth_31 hl (by decide) rfl (fun ls hl => ?_)
          refine lv_iload hx hb dX11_worth_33 (lv_at hl 0 rfl) ?_
          refine lv_if_eq (tgt := 41) hx hb dX11_worth_35 (by decide) (fun c_12 => by have c_12 : r7.toInt = 0 := il_eq c_12; exfalso; omega) (fun c_12 => ?_)
          have c_12 : ¬ r7.toInt = 0 := il_ne c_12
          refine lv_iload hx hb dX11_worth_38 (lv_at hl 0 rfl) ?_
          exact W.iret (v := r7) hx hb hr (fun t ht hW => ⟨⟨r7, xi7, rfl, ⟨ok, trivial, kp8⟩, by first | (subst ht; exact hP) | (rw [ht]; exact hP) | (show va_P (dC, dI) vwCl (wR 157 ad (EX cs ad) xi7) t.heap; rw [ht]; exact hP)⟩, hS.F ht⟩) hS.2.2 dX11_worth_40
      · have c_6 : 20 < vd.toInt := il_nle c_6
        refine lv_iconst (v := 1) hx hb dX11_worth_23 (by decide) ?_
        refine lv_goto (tgt := 28) hx hb dX11_worth_24 (by decide) ?_
        have hFc := fr_all (wR_D mu hD) hS hA
        refine va_calli (va_runV (As := [.int vk, .int 1]) (rest := []) ⟨hx, hb, hml, hown, hts⟩ (sx_refusedRoute l dC dI cs ad mu ok s.heap hP ((wR_D mu hD).weaken (fun _ _ _ _ => trivial)) vk 1) (cwV 2 hts (wU_V mw_4_1 mw_3_238 mw_4_0 mw_0_9 mw_1_1) rfl rfl rfl (by decide +kernel) ⟨Nat.le_of_ble_eq_true rfl, Nat.le_of_ble_eq_true rfl⟩) ⟨sz_c, va_recv hK hP (ci := 11) (q0 := 0) rfl (gX_0 cs ad mu), sz_m hK hz⟩ rfl rfl hl.1 rfl (lv_room (Nat.le_of_ble_eq_true rfl)) dX11_worth_28 ⟨Nat.zero_le _, Nat.zero_le _⟩) hS (fun q _ h => hFc q h) hFc (fun r13 xi13 t H13 locs ht hvm hw13 hB hz1 hk1 hS => ?_)
        have hP : va_P (dC, dI) vwCl (wR 157 ad (EX cs ad) xi13) H13 := by rw [← ht]; exact hB
        rcases hw13 with ⟨rfl, hxi13, f13⟩ | ⟨z13, ok, hkp13_0⟩
        · have f13 : 0 ≤ vk.toInt ∧ vk.toInt < (mu 5 4).toInt ∧ (mu 5 4).toInt ≤ 4 ∧ (1 : Int) = 0 := f13
          exfalso
          have h9 : (1 : Int32).toInt = 1 := rfl
          omega
        · have kp14 : (∀ k f : Nat, Nat.testBit 510 (gpX k f) = true → xi13 k f = mu k f) := kp_t hkp13_0 (by decide) (fun _ _ _ => rfl)
          skip
          refine lv_istore (lv' := [(4, .int r13), (0, .ref (ad 0)), (1, .int vk), (2, .int vx), (3, .int vd)]) hx hb dX11_worth_31 hl (by decide) rfl (fun ls hl => ?_)
          refine lv_iload hx hb dX11_worth_33 (lv_at hl 0 rfl) ?_
          refine lv_if_eq (tgt := 41) hx hb dX11_worth_35 (by decide) (fun c_15 => by have c_15 : r13.toInt = 0 := il_eq c_15; exfalso; omega) (fun c_15 => ?_)
          have c_15 : ¬ r13.toInt = 0 := il_ne c_15
          refine lv_iload hx hb dX11_worth_38 (lv_at hl 0 rfl) ?_
          exact W.iret (v := r13) hx hb hr (fun t ht hW => ⟨⟨r13, xi13, rfl, ⟨ok, trivial, kp14⟩, by first | (subst ht; exact hP) | (rw [ht]; exact hP) | (show va_P (dC, dI) vwCl (wR 157 ad (EX cs ad) xi13) t.heap; rw [ht]; exact hP)⟩, hS.F ht⟩) hS.2.2 dX11_worth_40
  · have f1 : vx.toInt < 0 ∨ (mu 4 6).toInt ≤ vx.toInt := f1
    refine lv_if_eq (tgt := 23) hx hb dX11_worth_10 (by decide) (fun _ => ?_) (fun c => absurd (by decide) c)
    refine lv_iconst (v := 1) hx hb dX11_worth_23 (by decide) ?_
    refine lv_goto (tgt := 28) hx hb dX11_worth_24 (by decide) ?_
    have hFc := fr_all (wR_D mu hD) hS hA
    refine va_calli (va_runV (As := [.int vk, .int 1]) (rest := []) ⟨hx, hb, hml, hown, hts⟩ (sx_refusedRoute l dC dI cs ad mu ok s.heap hP ((wR_D mu hD).weaken (fun _ _ _ _ => trivial)) vk 1) (cwV 2 hts (wU_V mw_4_1 mw_3_238 mw_4_0 mw_0_9 mw_1_1) rfl rfl rfl (by decide +kernel) ⟨Nat.le_of_ble_eq_true rfl, Nat.le_of_ble_eq_true rfl⟩) ⟨sz_c, va_recv hK hP (ci := 11) (q0 := 0) rfl (gX_0 cs ad mu), sz_m hK hz⟩ rfl rfl hl.1 rfl (lv_room (Nat.le_of_ble_eq_true rfl)) dX11_worth_28 ⟨Nat.zero_le _, Nat.zero_le _⟩) hS (fun q _ h => hFc q h) hFc (fun r16 xi16 t H16 locs ht hvm hw16 hB hz1 hk1 hS => ?_)
    have hP : va_P (dC, dI) vwCl (wR 157 ad (EX cs ad) xi16) H16 := by rw [← ht]; exact hB
    rcases hw16 with ⟨rfl, hxi16, f16⟩ | ⟨z16, ok, hkp16_0⟩
    · have f16 : 0 ≤ vk.toInt ∧ vk.toInt < (mu 5 4).toInt ∧ (mu 5 4).toInt ≤ 4 ∧ (1 : Int) = 0 := f16
      exfalso
      have h9 : (1 : Int32).toInt = 1 := rfl
      omega
    · have kp17 : (∀ k f : Nat, Nat.testBit 510 (gpX k f) = true → xi16 k f = mu k f) := kp_t hkp16_0 (by decide) (fun _ _ _ => rfl)
      skip
      refine lv_istore (lv' := [(4, .int r16), (0, .ref (ad 0)), (1, .int vk), (2, .int vx), (3, .int vd)]) hx hb dX11_worth_31 hl (by decide) rfl (fun ls hl => ?_)
      refine lv_iload hx hb dX11_worth_33 (lv_at hl 0 rfl) ?_
      refine lv_if_eq (tgt := 41) hx hb dX11_worth_35 (by decide) (fun c_18 => by have c_18 : r16.toInt = 0 := il_eq c_18; exfalso; omega) (fun c_18 => ?_)
      have c_18 : ¬ r16.toInt = 0 := il_ne c_18
      refine lv_iload hx hb dX11_worth_38 (lv_at hl 0 rfl) ?_
      exact W.iret (v := r16) hx hb hr (fun t ht hW => ⟨⟨r16, xi16, rfl, ⟨ok, trivial, kp17⟩, by first | (subst ht; exact hP) | (rw [ht]; exact hP) | (show va_P (dC, dI) vwCl (wR 157 ad (EX cs ad) xi16) t.heap; rw [ht]; exact hP)⟩, hS.F ht⟩) hS.2.2 dX11_worth_40
