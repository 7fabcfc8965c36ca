set_option maxHeartbeats 4000000 in
set_option maxRecDepth 100000 in
/-- qx_letter -/
theorem qx_letter (l : Launch) (dC : Nat → ClassId) (dI : Nat → Nat → Nat) (cs : Nat → ClassId) (ad : Nat → Nat) (mu : Nat → Nat → Int32) (ok : okR loX hiX mu) (H : Heap) (hP : va_P (dC, dI) vwCl (wR 157 ad (EX cs ad) mu) H) (hD0 : va_D (fun _ => True) (wR 157 ad (EX cs ad) mu)) (vk : Int32) (vw : Int32) : Met l yX11_letter (wU yX11_letter cX11_letter 4 (some .int)) ({ frames := 3, cells := 0, slots := 0, locals := 73 }) (va_Pc [.ref (ad 0), .int vk, .int vw] (sz_P (dC, dI) vwCl (tyW cs) H)) (va_Qi (fun (z : Int32) (xi : Nat → Nat → Int32) => (z, xi) = F_qx_letter mu vk vw ∧ okR loX hiX xi ∧ (True) ∧ (∀ k f : Nat, Nat.testBit 510 (gpX k f) = true → xi k f = mu k f)) (fun xi t => va_P (dC, dI) vwCl (wR 157 ad (EX cs ad) xi) t.heap) (va_A (wR 157 ad (EX cs ad) mu) H.size)) 0 0 (va_A (wR 157 ad (EX cs ad) mu) H.size) := by
  refine Met.ofW (cc := cX11_letter) (maxL := 4) (ret := (some .int)) (by decide) rfl ?_
  intro p e s m args below meth c s₁ B hml hv
  obtain ⟨rfl, hh, hK, hz⟩ := hv
  have hx := B.exec
  have hb := B.bytes
  have hr := B.returns
  have hts := atoms_spec (ws := (wU yX11_letter cX11_letter 4 (some .int))) B.pre
  have hown : s.vm.findClass RX11 = some m.cls := findClass_of_methodNamed B.named
  have hlocks := B.notSynchronized
  subst hh
  have hD := hD0.self (sz := s.heap.size)
  have hA : ∀ q : Nat, s.heap.size ≤ q → (va_A (wR 157 ad (EX cs ad) mu) s.heap.size) q := fun q h => Or.inr h
  have hS : va_S (va_A (wR 157 ad (EX cs ad) mu) s.heap.size) s.heap s.heap [] := va_S.rf
  have hl := lv_entry ([.ref (ad 0), .int vk, .int vw]) (n := 4) (Nat.le_of_ble_eq_true rfl)
  rw [lg_entry_eq]
  generalize (lg_sl ([.ref (ad 0), .int vk, .int vw]) ++ List.replicate (4 - (lg_sl ([.ref (ad 0), .int vk, .int vw])).length) Slot.unset).toArray = ls at hl ⊢
  have hl : lv_has ls 4 [(0, .ref (ad 0)), (1, .int vk), (2, .int vw)] := hl
  obtain ⟨fz, hfz⟩ : ∃ z, F_qx_letter mu vk vw = z := ⟨_, rfl⟩
  have hF := hfz
  unfold F_qx_letter at hF
  refine lv_aload_n hx hb dX11_letter_0 rfl (lv_at hl 0 rfl) ?_
  refine lv_iload_n hx hb dX11_letter_1 rfl (lv_at hl 1 rfl) ?_
  refine lv_iload_n hx hb dX11_letter_2 rfl (lv_at hl 2 rfl) ?_
  refine lv_if_lt (tgt := 11) hx hb dX11_letter_3 (by decide) (fun c_1 => ?_) (fun c_1 => ?_)
  · have hF := (if_pos c_1).symm.trans hF
    have c_1 : vw.toInt < 0 := il_lt c_1
    refine lv_iconst (v := 1) hx hb dX11_letter_11 (by decide) ?_
    refine lv_goto (tgt := 16) hx hb dX11_letter_12 (by decide) ?_
    have hFc := fr_all (wR_D mu hD) hS hA
    refine va_calli (va_runV (As := [.int vk, .int 1]) (rest := []) ⟨hx, hb, hml, hown, hts⟩ (sx_refusedLetter l dC dI cs ad mu ok s.heap hP ((wR_D mu hD).weaken (fun _ _ _ _ => trivial)) vk 1) (cwV 2 hts (wU_V mw_3_157 mw_3_154 mw_3_156 mw_0_8 mw_1_1) rfl rfl rfl (by decide +kernel) ⟨Nat.le_of_ble_eq_true rfl, Nat.le_of_ble_eq_true rfl⟩) ⟨sz_c, va_recv hK hP (ci := 11) (q0 := 0) rfl (gX_0 cs ad mu), sz_m hK hz⟩ rfl rfl hl.1 rfl (lv_room (Nat.le_of_ble_eq_true rfl)) dX11_letter_16 ⟨Nat.zero_le _, Nat.zero_le _⟩) hS (fun q _ h => hFc q h) hFc (fun r2 xi2 t H2 locs ht hvm hw2 hB hz1 hk1 hS => ?_)
    have hP : va_P (dC, dI) vwCl (wR 157 ad (EX cs ad) xi2) H2 := by rw [← ht]; exact hB
    obtain ⟨hfe2, hw2⟩ := hw2
    have hF := mi_letp hF hfe2
    rcases hw2 with ⟨rfl, hxi2, f2⟩ | ⟨z2, ok, hkp2_0⟩
    · have f2 : 0 ≤ vk.toInt ∧ vk.toInt < (mu 5 4).toInt ∧ (mu 5 4).toInt ≤ 4 ∧ (1 : Int) = 0 := f2
      exfalso
      have h9 : (1 : Int32).toInt = 1 := rfl
      omega
    · have hF := (if_neg (show ¬ r2 = 0 from fun h => by have h9 := congrArg Int32.toInt h; have h8 : (0 : Int32).toInt = 0 := rfl; omega)).symm.trans hF
      have kp3 : (∀ k f : Nat, Nat.testBit 510 (gpX k f) = true → xi2 k f = mu k f) := kp_t hkp2_0 (by decide) (fun _ _ _ => rfl)
      skip
      refine lv_istore_n (lv' := [(3, .int r2), (0, .ref (ad 0)), (1, .int vk), (2, .int vw)]) hx hb dX11_letter_19 rfl hl (by decide) rfl (fun ls hl => ?_)
      refine lv_iload_n hx hb dX11_letter_20 rfl (lv_at hl 0 rfl) ?_
      refine lv_if_eq (tgt := 26) hx hb dX11_letter_21 (by decide) (fun c_4 => by have c_4 : r2.toInt = 0 := il_eq c_4; exfalso; omega) (fun c_4 => ?_)
      have c_4 : ¬ r2.toInt = 0 := il_ne c_4
      refine lv_iload_n hx hb dX11_letter_24 rfl (lv_at hl 0 rfl) ?_
      exact W.iret (v := r2) hx hb hr (fun t ht hW => ⟨⟨r2, xi2, rfl, ⟨hF.trans hfz.symm, ok, trivial, kp3⟩, by first | (subst ht; exact hP) | (rw [ht]; exact hP) | (show va_P (dC, dI) vwCl (wR 157 ad (EX cs ad) xi2) t.heap; rw [ht]; exact hP)⟩, hS.F ht⟩) hS.2.2 dX11_letter_25
  · have hF := (if_neg c_1).symm.trans hF
    have c_1 : 0 ≤ vw.toInt := il_nlt c_1
    refine lv_iload_n hx hb dX11_letter_6 rfl (lv_at hl 2 rfl) ?_
    refine lv_iconst (v := 5) hx hb dX11_letter_7 (by decide) ?_
    refine lv_icmp_lt (tgt := 15) hx hb dX11_letter_8 (by decide) (fun c_5 => ?_) (fun c_5 => ?_)
    · have hF := (if_pos c_5).symm.trans hF
      have c_5 : vw.toInt < 5 := il_lt c_5
      refine lv_iconst (v := 0) hx hb dX11_letter_15 (by decide) ?_
      have hFc := fr_all (wR_D mu hD) hS hA
      refine va_calli (va_runV (As := [.int vk, .int 0]) (rest := []) ⟨hx, hb, hml, hown, hts⟩ (sx_refusedLetter l dC dI cs ad mu ok s.heap hP ((wR_D mu hD).weaken (fun _ _ _ _ => trivial)) vk 0) (cwV 2 hts (wU_V mw_3_157 mw_3_154 mw_3_156 mw_0_8 mw_1_1) rfl rfl rfl (by decide +kernel) ⟨Nat.le_of_ble_eq_true rfl, Nat.le_of_ble_eq_true rfl⟩) ⟨sz_c, va_recv hK hP (ci := 11) (q0 := 0) rfl (gX_0 cs ad mu), sz_m hK hz⟩ rfl rfl hl.1 rfl (lv_room (Nat.le_of_ble_eq_true rfl)) dX11_letter_16 ⟨Nat.zero_le _, Nat.zero_le _⟩) hS (fun q _ h => hFc q h) hFc (fun r6 xi6 t H6 locs ht hvm hw6 hB hz1 hk1 hS => ?_)
      have hP : va_P (dC, dI) vwCl (wR 157 ad (EX cs ad) xi6) H6 := by rw [← ht]; exact hB
      obtain ⟨hfe6, hw6⟩ := hw6
      have hF := mi_letp hF hfe6
      rcases hw6 with ⟨rfl, hxi6, f6⟩ | ⟨z6, ok, hkp6_0⟩
      · have hF := (if_pos rfl).symm.trans hF
        have hP : va_P (dC, dI) vwCl (wR 157 ad (EX cs ad) mu) H6 := by rw [← hxi6]; exact hP
        have f6 : 0 ≤ vk.toInt ∧ vk.toInt < (mu 5 4).toInt ∧ (mu 5 4).toInt ≤ 4 ∧ (0 : Int) = 0 := f6
        refine lv_istore_n (lv' := [(3, .int 0), (0, .ref (ad 0)), (1, .int vk), (2, .int vw)]) hx hb dX11_letter_19 rfl hl (by decide) rfl (fun ls hl => ?_)
        refine lv_iload_n hx hb dX11_letter_20 rfl (lv_at hl 0 rfl) ?_
        refine lv_if_eq (tgt := 26) hx hb dX11_letter_21 (by decide) (fun _ => ?_) (fun c => absurd (by decide) c)
        refine lv_aload_n hx hb dX11_letter_26 rfl (lv_at hl 1 rfl) ?_
        refine lv_aload_n hx hb dX11_letter_27 rfl (lv_at hl 1 rfl) ?_
        refine va_get (D := (dC, dI)) (ci := 11) (v := .ref (ad 4)) (C := RX11) (T := TX11) (N := 11) hx hb hts inG11 hown hK hP 0 (gX_0 cs ad mu) rfl 3 (by decide) (hts _ (List.mem_cons_of_mem _ mw_2_161)) (fun _ h9 => h9) rfl dX11_letter_28 ?_
        refine va_get (D := (dC, dI)) (ci := 10) (v := .ref (ad 5)) (C := RX10) (T := TX10) (N := 8) hx hb hts inG10 hown hK hP 4 (gX_4 cs ad mu) rfl 3 (by decide) (hts _ (List.mem_cons_of_mem _ mw_1_157)) (fun _ h9 => h9) rfl dX11_letter_31 ?_
        refine va_get (D := (dC, dI)) (ci := 8) (v := .ref (ad 47)) (C := RX8) (T := TX8) (N := 6) hx hb hts inG8 hown hK hP 5 (gX_5 cs ad mu) rfl 1 (by decide) (hts _ (List.mem_cons_of_mem _ mw_1_112)) (fun _ h9 => h9) rfl dX11_letter_34 ?_
        refine lv_iload_n hx hb dX11_letter_37 rfl (lv_at hl 2 rfl) ?_
        have hx8 : 0 ≤ vk.toInt ∧ vk.toInt < ((4 : Nat) : Int) := ⟨by omega, by omega⟩
        refine va_aldq hx hb hK hP 47 5 (gX_47 cs ad mu) rfl (show vp_in vk 4 from vi_of hx8.1 hx8.2) dX11_letter_38 ?_
        have hk8 : 61 ≤ (61 + vk.toNatClampNeg) ∧ (61 + vk.toNatClampNeg) < 65 := ix_of hx8
        have hk8 : 61 ≤ (61 + vk.toNatClampNeg) ∧ (61 + vk.toNatClampNeg) < 77 := ⟨Nat.le_trans (by decide) hk8.1, Nat.lt_of_lt_of_le hk8.2 (by decide)⟩
        refine lq_v (.ref (ad (61 + vk.toNatClampNeg))) rfl ?_
        refine lv_iload_n hx hb dX11_letter_39 rfl (lv_at hl 3 rfl) ?_
        refine lv_aload_n hx hb dX11_letter_40 rfl (lv_at hl 1 rfl) ?_
        refine va_get (D := (dC, dI)) (ci := 11) (v := .ref (ad 4)) (C := RX11) (T := TX11) (N := 11) hx hb hts inG11 hown hK hP 0 (gX_0 cs ad mu) rfl 3 (by decide) (hts _ (List.mem_cons_of_mem _ mw_2_161)) (fun _ h9 => h9) rfl dX11_letter_41 ?_
        refine va_get (D := (dC, dI)) (ci := 10) (v := .ref (ad 5)) (C := RX10) (T := TX10) (N := 8) hx hb hts inG10 hown hK hP 4 (gX_4 cs ad mu) rfl 3 (by decide) (hts _ (List.mem_cons_of_mem _ mw_1_157)) (fun _ h9 => h9) rfl dX11_letter_44 ?_
        refine va_get (D := (dC, dI)) (ci := 8) (v := .int (mu 5 3)) (C := RX8) (T := TX8) (N := 6) hx hb hts inG8 hown hK hP 5 (gX_5 cs ad mu) rfl 3 (by decide) (hts _ (List.mem_cons_of_mem _ mw_1_124)) (fun _ h9 => h9) rfl dX11_letter_47 ?_
        refine lv_topi (fun y9 ey9 => ?_)
        have hF := mi_let hF ey9
        have by9 : y9.toInt = (mu 5 3).toInt := congrArg Int32.toInt ey9
        refine cr_i (va_runV (As := [.int vw, .int y9]) (rest := [.ref (ad 0)]) ⟨hx, hb, hml, hown, hts⟩ (sx_fact l dC dI cs ad mu ok H6 hP (61 + vk.toNatClampNeg) hk8.1 hk8.2 vw y9) (cwV 2 hts (wU_V mw_3_200 mw_3_197 mw_3_198 mw_3_199 mw_1_4) rfl rfl rfl (by decide +kernel) ⟨Nat.le_of_ble_eq_true rfl, Nat.le_of_ble_eq_true rfl⟩) ⟨sz_c, va_recv hK hP (ci := 3) (q0 := (61 + vk.toNatClampNeg)) rfl (gX_letter cs ad mu (61 + vk.toNatClampNeg) hk8.1 hk8.2), sz_m hK hz⟩ rfl rfl hl.1 rfl (lv_room (Nat.le_of_ble_eq_true rfl)) dX11_letter_50 ⟨Nat.zero_le _, Nat.zero_le _⟩) hS (fun r10 hw10 locs hS => ?_)
        obtain ⟨hfe10, hw10⟩ := hw10
        have hF := mi_let hF hfe10
        refine va_put (D := (dC, dI)) (ci := 11) (v := .int r10) (ty := .int) (C := RX11) (T := TX11) (N := 11) hx hb hts inG11 tyX11 tyX11_ok nmX11 hown hK hP (wR_D mu hD) hS 0 (gX_0 cs ad mu) rfl 10 (by decide) (hts _ (List.mem_cons_of_mem _ mw_2_168)) (fun _ h9 => h9) rfl (by decide +kernel) rfl rfl (Nat.le_of_ble_eq_true rfl) dX11_letter_53 (fun H locs hP _ hS => ?_)
        simp only [List.set_cons_succ, List.set_cons_zero] at hP
        refine wr_gen (upd (mu 0) 10 r10) hP ((hX_0_10 cs ad _ _)) (fun nu11 hn11 hP => ?_)
        have hF := mi_let hF hn11.symm
        have ok := tX_0_10 ok hn11
        have ez12 : y9 = nu11 5 3 := ey9.trans (congrFun (up_k hn11 (by decide)) 3).symm
        have kp13 : (∀ k f : Nat, Nat.testBit 510 (gpX k f) = true → nu11 k f = mu k f) := kp_c 0 hn11 (fun _ => rfl) (by decide) (fun _ _ _ => rfl)
        have ez14 : r10 = nu11 0 10 := up_v hn11
        refine lv_iconst (v := 1) hx hb dX11_letter_56 (by decide) ?_
        exact W.iret (v := 1) hx hb hr (fun t ht hW => ⟨⟨1, nu11, rfl, ⟨hF.trans hfz.symm, ok, trivial, kp13⟩, by first | (subst ht; exact hP) | (rw [ht]; exact hP) | (show va_P (dC, dI) vwCl (wR 157 ad (EX cs ad) nu11) t.heap; rw [ht]; exact hP)⟩, hS.F ht⟩) hS.2.2 dX11_letter_57
      · have hF := (if_neg (show ¬ r6 = 0 from fun h => by have h9 := congrArg Int32.toInt h; have h8 : (0 : Int32).toInt = 0 := rfl; omega)).symm.trans hF
        have kp7 : (∀ k f : Nat, Nat.testBit 510 (gpX k f) = true → xi6 k f = mu k f) := kp_t hkp6_0 (by decide) (fun _ _ _ => rfl)
        skip
        refine lv_istore_n (lv' := [(3, .int r6), (0, .ref (ad 0)), (1, .int vk), (2, .int vw)]) hx hb dX11_letter_19 rfl hl (by decide) rfl (fun ls hl => ?_)
        refine lv_iload_n hx hb dX11_letter_20 rfl (lv_at hl 0 rfl) ?_
        refine lv_if_eq (tgt := 26) hx hb dX11_letter_21 (by decide) (fun c_15 => by have c_15 : r6.toInt = 0 := il_eq c_15; exfalso; omega) (fun c_15 => ?_)
        have c_15 : ¬ r6.toInt = 0 := il_ne c_15
        refine lv_iload_n hx hb dX11_letter_24 rfl (lv_at hl 0 rfl) ?_
        exact W.iret (v := r6) hx hb hr (fun t ht hW => ⟨⟨r6, xi6, rfl, ⟨hF.trans hfz.symm, ok, trivial, kp7⟩, by first | (subst ht; exact hP) | (rw [ht]; exact hP) | (show va_P (dC, dI) vwCl (wR 157 ad (EX cs ad) xi6) t.heap; rw [ht]; exact hP)⟩, hS.F ht⟩) hS.2.2 dX11_letter_25
    · have hF := (if_neg c_5).symm.trans hF
      have c_5 : 5 ≤ vw.toInt := il_nlt c_5
      refine lv_iconst (v := 1) hx hb dX11_letter_11 (by decide) ?_
      refine lv_goto (tgt := 16) hx hb dX11_letter_12 (by decide) ?_
      have hFc := fr_all (wR_D mu hD) hS hA
      refine va_calli (va_runV (As := [.int vk, .int 1]) (rest := []) ⟨hx, hb, hml, hown, hts⟩ (sx_refusedLetter l dC dI cs ad mu ok s.heap hP ((wR_D mu hD).weaken (fun _ _ _ _ => trivial)) vk 1) (cwV 2 hts (wU_V mw_3_157 mw_3_154 mw_3_156 mw_0_8 mw_1_1) rfl rfl rfl (by decide +kernel) ⟨Nat.le_of_ble_eq_true rfl, Nat.le_of_ble_eq_true rfl⟩) ⟨sz_c, va_recv hK hP (ci := 11) (q0 := 0) rfl (gX_0 cs ad mu), sz_m hK hz⟩ rfl rfl hl.1 rfl (lv_room (Nat.le_of_ble_eq_true rfl)) dX11_letter_16 ⟨Nat.zero_le _, Nat.zero_le _⟩) hS (fun q _ h => hFc q h) hFc (fun r16 xi16 t H16 locs ht hvm hw16 hB hz1 hk1 hS => ?_)
      have hP : va_P (dC, dI) vwCl (wR 157 ad (EX cs ad) xi16) H16 := by rw [← ht]; exact hB
      obtain ⟨hfe16, hw16⟩ := hw16
      have hF := mi_letp hF hfe16
      rcases hw16 with ⟨rfl, hxi16, f16⟩ | ⟨z16, ok, hkp16_0⟩
      · have f16 : 0 ≤ vk.toInt ∧ vk.toInt < (mu 5 4).toInt ∧ (mu 5 4).toInt ≤ 4 ∧ (1 : Int) = 0 := f16
        exfalso
        have h9 : (1 : Int32).toInt = 1 := rfl
        omega
      · have hF := (if_neg (show ¬ r16 = 0 from fun h => by have h9 := congrArg Int32.toInt h; have h8 : (0 : Int32).toInt = 0 := rfl; omega)).symm.trans hF
        have kp17 : (∀ k f : Nat, Nat.testBit 510 (gpX k f) = true → xi16 k f = mu k f) := kp_t hkp16_0 (by decide) (fun _ _ _ => rfl)
        skip
        refine lv_istore_n (lv' := [(3, .int r16), (0, .ref (ad 0)), (1, .int vk), (2, .int vw)]) hx hb dX11_letter_19 rfl hl (by decide) rfl (fun ls hl => ?_)
        refine lv_iload_n hx hb dX11_letter_20 rfl (lv_at hl 0 rfl) ?_
        refine lv_if_eq (tgt := 26) hx hb dX11_letter_21 (by decide) (fun c_18 => by have c_18 : r16.toInt = 0 := il_eq c_18; exfalso; omega) (fun c_18 => ?_)
        have c_18 : ¬ r16.toInt = 0 := il_ne c_18
        refine lv_iload_n hx hb dX11_letter_24 rfl (lv_at hl 0 rfl) ?_
        exact W.iret (v := r16) hx hb hr (fun t ht hW => ⟨⟨r16, xi16, rfl, ⟨hF.trans hfz.symm, ok, trivial, kp17⟩, by first | (subst ht; exact hP) | (rw [ht]; exact hP) | (show va_P (dC, dI) vwCl (wR 157 ad (EX cs ad) xi16) t.heap; rw [ht]; exact hP)⟩, hS.F ht⟩) hS.2.2 dX11_letter_25
