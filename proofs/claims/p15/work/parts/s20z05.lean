set_option maxHeartbeats 4000000 in
set_option maxRecDepth 100000 in
/-- qx_keep -/
theorem qx_keep (l : Launch) (dC : Nat → ClassId) (dI : Nat → Nat → Nat) (cs : Nat → ClassId) (ad : Nat → Nat) (mu : Nat → Nat → Int32) (ok : okR loX hiX mu) (H : Heap) (hP : va_P (dC, dI) vwCl (wR 157 ad (EX cs ad) mu) H) (hD0 : va_D (fun _ => True) (wR 157 ad (EX cs ad) mu)) (vk : Int32) : Met l yX11_keep (wU yX11_keep cX11_keep 2 (some .int)) ({ frames := 2, cells := 0, slots := 0, locals := 82 }) (va_Pc [.ref (ad 0), .int vk] (sz_P (dC, dI) vwCl (tyW cs) H)) (va_Qi (fun (z : Int32) (xi : Nat → Nat → Int32) => (z, xi) = F_qx_keep mu vk ∧ okR loX hiX xi ∧ (True) ∧ (∀ k f : Nat, Nat.testBit 470 (gpX k f) = true → xi k f = mu k f)) (fun xi t => va_P (dC, dI) vwCl (wR 157 ad (EX cs ad) xi) t.heap) (va_A (wR 157 ad (EX cs ad) mu) H.size)) 0 0 (va_A (wR 157 ad (EX cs ad) mu) H.size) := by
  refine Met.ofW (cc := cX11_keep) (maxL := 2) (ret := (some .int)) (by decide) rfl ?_
  intro p e s m args below meth c s₁ B hml hv
  obtain ⟨rfl, hh, hK, hz⟩ := hv
  have hx := B.exec
  have hb := B.bytes
  have hr := B.returns
  have hts := atoms_spec (ws := (wU yX11_keep cX11_keep 2 (some .int))) B.pre
  have hown : s.vm.findClass RX11 = some m.cls := findClass_of_methodNamed B.named
  have hlocks := B.notSynchronized
  subst hh
  have hD := hD0.self (sz := s.heap.size)
  have hA : ∀ q : Nat, s.heap.size ≤ q → (va_A (wR 157 ad (EX cs ad) mu) s.heap.size) q := fun q h => Or.inr h
  have hS : va_S (va_A (wR 157 ad (EX cs ad) mu) s.heap.size) s.heap s.heap [] := va_S.rf
  have hl := lv_entry ([.ref (ad 0), .int vk]) (n := 2) (Nat.le_of_ble_eq_true rfl)
  rw [lg_entry_eq]
  generalize (lg_sl ([.ref (ad 0), .int vk]) ++ List.replicate (2 - (lg_sl ([.ref (ad 0), .int vk])).length) Slot.unset).toArray = ls at hl ⊢
  have hl : lv_has ls 2 [(0, .ref (ad 0)), (1, .int vk)] := hl
  obtain ⟨fz, hfz⟩ : ∃ z, F_qx_keep mu vk = z := ⟨_, rfl⟩
  have hF := hfz
  unfold F_qx_keep at hF
  refine lv_iload_n hx hb dX11_keep_0 rfl (lv_at hl 1 rfl) ?_
  refine cr_i (va_runS (As := [.int vk]) (rest := []) ⟨hx, hb, hml, hown, hts⟩ (sx_isPlace l dC dI (tyW cs) s.heap vk) (va_cwS 1 hts (wU_S mw_3_220 mw_3_218 mw_3_219 mw_1_1) rfl rfl rfl (by decide +kernel) ⟨Nat.le_of_ble_eq_true rfl, Nat.le_of_ble_eq_true rfl⟩) ⟨sz_c, sz_m hK hz⟩ rfl rfl hl.1 rfl (lv_room (Nat.le_of_ble_eq_true rfl)) dX11_keep_1 ⟨Nat.zero_le _, Nat.zero_le _⟩) hS (fun r1 hw1 locs hS => ?_)
  obtain ⟨hfe1, hw1⟩ := hw1
  rcases hw1 with ⟨rfl, f1⟩ | ⟨rfl, f1⟩
  · have hF := (if_pos hfe1.symm).symm.trans hF
    have f1 : 0 ≤ vk.toInt ∧ vk.toInt ≤ 2 := f1
    refine lv_if_ne (tgt := 9) hx hb dX11_keep_4 (by decide) (fun _ => ?_) (fun c => absurd c (by decide))
    refine lv_aload_n hx hb dX11_keep_9 rfl (lv_at hl 0 rfl) ?_
    refine va_get (D := (dC, dI)) (ci := 11) (v := .ref (ad 4)) (C := RX11) (T := TX11) (N := 11) hx hb hts inG11 hown hK hP 0 (gX_0 cs ad mu) rfl 3 (by decide) (hts _ (List.mem_cons_of_mem _ mw_2_161)) (fun _ h9 => h9) rfl dX11_keep_10 ?_
    refine va_get (D := (dC, dI)) (ci := 10) (v := .int (mu 4 6)) (C := RX10) (T := TX10) (N := 8) hx hb hts inG10 hown hK hP 4 (gX_4 cs ad mu) rfl 6 (by decide) (hts _ (List.mem_cons_of_mem _ mw_1_164)) (fun _ h9 => h9) rfl dX11_keep_13 ?_
    refine lv_topi (fun y2 ey2 => ?_)
    have hF := mi_let hF ey2
    have by2 : y2.toInt = (mu 4 6).toInt := congrArg Int32.toInt ey2
    have gy2 : 0 ≤ y2.toInt ∧ y2.toInt ≤ 7 := by rw [ey2]; exact rX_4_6 ok
    refine lv_if_ne (tgt := 22) hx hb dX11_keep_16 (by decide) (fun c_3 => ?_) (fun c_3 => ?_)
    · have hF := (if_neg c_3).symm.trans hF
      have c_3 : ¬ y2.toInt = 0 := il_ne c_3
      rcases (show vk.toInt = 0 ∨ vk.toInt = 1 ∨ vk.toInt = 2 by omega) with hs4 | hs4 | hs4
      · have hs4 : vk = 0 := Int32.toInt_inj.mp (hs4.trans (by decide))
        rw [if_pos hs4] at hF
        have hG4 := hF
        subst hs4
        have hF := hG4
        refine lv_aload_n hx hb dX11_keep_22 rfl (lv_at hl 0 rfl) ?_
        refine va_get (D := (dC, dI)) (ci := 11) (v := .ref (ad 3)) (C := RX11) (T := TX11) (N := 11) hx hb hts inG11 hown hK hP 0 (gX_0 cs ad mu) rfl 2 (by decide) (hts _ (List.mem_cons_of_mem _ mw_2_160)) (fun _ h9 => h9) rfl dX11_keep_23 ?_
        refine lv_iload_n hx hb dX11_keep_26 rfl (lv_at hl 1 rfl) ?_
        refine va_aldq hx hb hK hP 3 4 (gX_3 cs ad mu) rfl (show vp_in 0 3 from (by unfold vp_in; decide)) dX11_keep_27 ?_
        refine lq_v (.ref (ad 18)) rfl ?_
        refine lv_aload_n hx hb dX11_keep_28 rfl (lv_at hl 0 rfl) ?_
        refine va_get (D := (dC, dI)) (ci := 11) (v := .ref (ad 4)) (C := RX11) (T := TX11) (N := 11) hx hb hts inG11 hown hK hP 0 (gX_0 cs ad mu) rfl 3 (by decide) (hts _ (List.mem_cons_of_mem _ mw_2_161)) (fun _ h9 => h9) rfl dX11_keep_29 ?_
        refine va_get (D := (dC, dI)) (ci := 10) (v := .ref (ad 5)) (C := RX10) (T := TX10) (N := 8) hx hb hts inG10 hown hK hP 4 (gX_4 cs ad mu) rfl 3 (by decide) (hts _ (List.mem_cons_of_mem _ mw_1_157)) (fun _ h9 => h9) rfl dX11_keep_32 ?_
        have hFc := fr_all (wR_D mu hD) hS hA
        refine va_callv (va_runV (As := [.ref (ad 5)]) (rest := []) ⟨hx, hb, hml, hown, hts⟩ (sx_Standing_beLike_18_5 l dC dI cs ad mu ok s.heap hP ((wR_D mu hD).weaken (fun _ _ _ _ => trivial))) (cwV 1 hts (wU_V mw_3_224 mw_3_221 mw_3_222 mw_3_223 mw_1_3) rfl rfl rfl (by decide +kernel) ⟨Nat.le_of_ble_eq_true rfl, Nat.le_of_ble_eq_true rfl⟩) ⟨sz_c, va_recv hK hP (ci := 8) (q0 := 18) rfl (gX_18 cs ad mu), sz_m hK hz⟩ rfl rfl hl.1 rfl (lv_room (Nat.le_of_ble_eq_true rfl)) dX11_keep_35 ⟨Nat.zero_le _, Nat.zero_le _⟩) hS (fun q _ h => hFc q h) hFc (fun xi5 t H5 locs ht hvm hw5 hB hz1 hk1 hS => ?_)
        have hP : va_P (dC, dI) vwCl (wR 157 ad (EX cs ad) xi5) H5 := by rw [← ht]; exact hB
        obtain ⟨hfe5, ok, hw5, hkp5_0⟩ := hw5
        have hF := mi_let hF hfe5
        have kp6 : (∀ k f : Nat, Nat.testBit 470 (gpX k f) = true → xi5 k f = mu k f) := kp_t hkp5_0 (by decide) (fun _ _ _ => rfl)
        refine lv_aload_n hx hb dX11_keep_38 rfl (lv_at hl 0 rfl) ?_
        refine va_get (D := (dC, dI)) (ci := 11) (v := .ref (ad 3)) (C := RX11) (T := TX11) (N := 11) hx hb hts inG11 hown hK hP 0 (gX_0 cs ad xi5) rfl 2 (by decide) (hts _ (List.mem_cons_of_mem _ mw_2_160)) (fun _ h9 => h9) rfl dX11_keep_39 ?_
        refine lv_iload_n hx hb dX11_keep_42 rfl (lv_at hl 1 rfl) ?_
        refine va_aldq hx hb hK hP 3 4 (gX_3 cs ad xi5) rfl (show vp_in 0 3 from (by unfold vp_in; decide)) dX11_keep_43 ?_
        refine lq_v (.ref (ad 18)) rfl ?_
        refine lv_iconst (v := 1) hx hb dX11_keep_44 (by decide) ?_
        refine va_put (D := (dC, dI)) (ci := 8) (v := .int 1) (ty := .boolean) (C := RX8) (T := TX8) (N := 6) hx hb hts inG8 tyX8 tyX8_ok nmX8 hown hK hP (wR_D xi5 hD) hS 18 (gX_18 cs ad xi5) rfl 5 (by decide) (hts _ (List.mem_cons_of_mem _ mw_1_129)) (fun _ h9 => h9) rfl (by decide +kernel) (by first | rfl | decide) (by first | rfl | decide) (Nat.le_of_ble_eq_true rfl) dX11_keep_45 (fun H locs hP _ hS => ?_)
        simp only [List.set_cons_succ, List.set_cons_zero] at hP
        refine wr_gen (upd (xi5 18) 5 1) hP ((hX_18_5 cs ad _ _)) (fun nu7 hn7 hP => ?_)
        have hF := mi_let hF hn7.symm
        have ok := tX_18_5 ok hn7 (by have h9 : (1 : Int32).toInt = 1 := rfl; exact ⟨by omega, by omega⟩)
        have kp8 : (∀ k f : Nat, Nat.testBit 470 (gpX k f) = true → nu7 k f = mu k f) := kp_c 5 hn7 (fun _ => rfl) (by decide) kp6
        have ez9 : 1 = nu7 18 5 := up_v hn7
        refine lv_aload_n hx hb dX11_keep_48 rfl (lv_at hl 0 rfl) ?_
        refine va_get (D := (dC, dI)) (ci := 11) (v := .ref (ad 4)) (C := RX11) (T := TX11) (N := 11) hx hb hts inG11 hown hK hP 0 (gX_0 cs ad nu7) rfl 3 (by decide) (hts _ (List.mem_cons_of_mem _ mw_2_161)) (fun _ h9 => h9) rfl dX11_keep_49 ?_
        refine va_get (D := (dC, dI)) (ci := 10) (v := .ref (ad 5)) (C := RX10) (T := TX10) (N := 8) hx hb hts inG10 hown hK hP 4 (gX_4 cs ad nu7) rfl 3 (by decide) (hts _ (List.mem_cons_of_mem _ mw_1_157)) (fun _ h9 => h9) rfl dX11_keep_52 ?_
        refine va_get (D := (dC, dI)) (ci := 8) (v := .int (nu7 5 3)) (C := RX8) (T := TX8) (N := 6) hx hb hts inG8 hown hK hP 5 (gX_5 cs ad nu7) rfl 3 (by decide) (hts _ (List.mem_cons_of_mem _ mw_1_124)) (fun _ h9 => h9) rfl dX11_keep_55 ?_
        refine lv_topi (fun y10 ey10 => ?_)
        have hF := mi_let hF ey10
        have by10 : y10.toInt = (nu7 5 3).toInt := congrArg Int32.toInt ey10
        exact W.iret (v := y10) hx hb hr (fun t ht hW => ⟨⟨y10, nu7, rfl, ⟨hF.trans hfz.symm, ok, trivial, kp8⟩, by first | (subst ht; exact hP) | (rw [ht]; exact hP) | (show va_P (dC, dI) vwCl (wR 157 ad (EX cs ad) nu7) t.heap; rw [ht]; exact hP)⟩, hS.F ht⟩) hS.2.2 dX11_keep_58
      · have hs4 : vk = 1 := Int32.toInt_inj.mp (hs4.trans (by decide))
        rw [if_neg (show ¬ vk = 0 by rw [hs4]; decide)] at hF
        rw [if_pos hs4] at hF
        have hG4 := hF
        subst hs4
        have hF := hG4
        refine lv_aload_n hx hb dX11_keep_22 rfl (lv_at hl 0 rfl) ?_
        refine va_get (D := (dC, dI)) (ci := 11) (v := .ref (ad 3)) (C := RX11) (T := TX11) (N := 11) hx hb hts inG11 hown hK hP 0 (gX_0 cs ad mu) rfl 2 (by decide) (hts _ (List.mem_cons_of_mem _ mw_2_160)) (fun _ h9 => h9) rfl dX11_keep_23 ?_
        refine lv_iload_n hx hb dX11_keep_26 rfl (lv_at hl 1 rfl) ?_
        refine va_aldq hx hb hK hP 3 4 (gX_3 cs ad mu) rfl (show vp_in 1 3 from (by unfold vp_in; decide)) dX11_keep_27 ?_
        refine lq_v (.ref (ad 19)) rfl ?_
        refine lv_aload_n hx hb dX11_keep_28 rfl (lv_at hl 0 rfl) ?_
        refine va_get (D := (dC, dI)) (ci := 11) (v := .ref (ad 4)) (C := RX11) (T := TX11) (N := 11) hx hb hts inG11 hown hK hP 0 (gX_0 cs ad mu) rfl 3 (by decide) (hts _ (List.mem_cons_of_mem _ mw_2_161)) (fun _ h9 => h9) rfl dX11_keep_29 ?_
        refine va_get (D := (dC, dI)) (ci := 10) (v := .ref (ad 5)) (C := RX10) (T := TX10) (N := 8) hx hb hts inG10 hown hK hP 4 (gX_4 cs ad mu) rfl 3 (by decide) (hts _ (List.mem_cons_of_mem _ mw_1_157)) (fun _ h9 => h9) rfl dX11_keep_32 ?_
        have hFc := fr_all (wR_D mu hD) hS hA
        refine va_callv (va_runV (As := [.ref (ad 5)]) (rest := []) ⟨hx, hb, hml, hown, hts⟩ (sx_Standing_beLike_19_5 l dC dI cs ad mu ok s.heap hP ((wR_D mu hD).weaken (fun _ _ _ _ => trivial))) (cwV 1 hts (wU_V mw_3_224 mw_3_221 mw_3_222 mw_3_223 mw_1_3) rfl rfl rfl (by decide +kernel) ⟨Nat.le_of_ble_eq_true rfl, Nat.le_of_ble_eq_true rfl⟩) ⟨sz_c, va_recv hK hP (ci := 8) (q0 := 19) rfl (gX_19 cs ad mu), sz_m hK hz⟩ rfl rfl hl.1 rfl (lv_room (Nat.le_of_ble_eq_true rfl)) dX11_keep_35 ⟨Nat.zero_le _, Nat.zero_le _⟩) hS (fun q _ h => hFc q h) hFc (fun xi11 t H11 locs ht hvm hw11 hB hz1 hk1 hS => ?_)
        have hP : va_P (dC, dI) vwCl (wR 157 ad (EX cs ad) xi11) H11 := by rw [← ht]; exact hB
        obtain ⟨hfe11, ok, hw11, hkp11_0⟩ := hw11
        have hF := mi_let hF hfe11
        have kp12 : (∀ k f : Nat, Nat.testBit 470 (gpX k f) = true → xi11 k f = mu k f) := kp_t hkp11_0 (by decide) (fun _ _ _ => rfl)
        refine lv_aload_n hx hb dX11_keep_38 rfl (lv_at hl 0 rfl) ?_
        refine va_get (D := (dC, dI)) (ci := 11) (v := .ref (ad 3)) (C := RX11) (T := TX11) (N := 11) hx hb hts inG11 hown hK hP 0 (gX_0 cs ad xi11) rfl 2 (by decide) (hts _ (List.mem_cons_of_mem _ mw_2_160)) (fun _ h9 => h9) rfl dX11_keep_39 ?_
        refine lv_iload_n hx hb dX11_keep_42 rfl (lv_at hl 1 rfl) ?_
        refine va_aldq hx hb hK hP 3 4 (gX_3 cs ad xi11) rfl (show vp_in 1 3 from (by unfold vp_in; decide)) dX11_keep_43 ?_
        refine lq_v (.ref (ad 19)) rfl ?_
        refine lv_iconst (v := 1) hx hb dX11_keep_44 (by decide) ?_
        refine va_put (D := (dC, dI)) (ci := 8) (v := .int 1) (ty := .boolean) (C := RX8) (T := TX8) (N := 6) hx hb hts inG8 tyX8 tyX8_ok nmX8 hown hK hP (wR_D xi11 hD) hS 19 (gX_19 cs ad xi11) rfl 5 (by decide) (hts _ (List.mem_cons_of_mem _ mw_1_129)) (fun _ h9 => h9) rfl (by decide +kernel) (by first | rfl | decide) (by first | rfl | decide) (Nat.le_of_ble_eq_true rfl) dX11_keep_45 (fun H locs hP _ hS => ?_)
        simp only [List.set_cons_succ, List.set_cons_zero] at hP
        refine wr_gen (upd (xi11 19) 5 1) hP ((hX_19_5 cs ad _ _)) (fun nu13 hn13 hP => ?_)
        have hF := mi_let hF hn13.symm
        have ok := tX_19_5 ok hn13 (by have h9 : (1 : Int32).toInt = 1 := rfl; exact ⟨by omega, by omega⟩)
        have kp14 : (∀ k f : Nat, Nat.testBit 470 (gpX k f) = true → nu13 k f = mu k f) := kp_c 5 hn13 (fun _ => rfl) (by decide) kp12
        have ez15 : 1 = nu13 19 5 := up_v hn13
        refine lv_aload_n hx hb dX11_keep_48 rfl (lv_at hl 0 rfl) ?_
        refine va_get (D := (dC, dI)) (ci := 11) (v := .ref (ad 4)) (C := RX11) (T := TX11) (N := 11) hx hb hts inG11 hown hK hP 0 (gX_0 cs ad nu13) rfl 3 (by decide) (hts _ (List.mem_cons_of_mem _ mw_2_161)) (fun _ h9 => h9) rfl dX11_keep_49 ?_
        refine va_get (D := (dC, dI)) (ci := 10) (v := .ref (ad 5)) (C := RX10) (T := TX10) (N := 8) hx hb hts inG10 hown hK hP 4 (gX_4 cs ad nu13) rfl 3 (by decide) (hts _ (List.mem_cons_of_mem _ mw_1_157)) (fun _ h9 => h9) rfl dX11_keep_52 ?_
        refine va_get (D := (dC, dI)) (ci := 8) (v := .int (nu13 5 3)) (C := RX8) (T := TX8) (N := 6) hx hb hts inG8 hown hK hP 5 (gX_5 cs ad nu13) rfl 3 (by decide) (hts _ (List.mem_cons_of_mem _ mw_1_124)) (fun _ h9 => h9) rfl dX11_keep_55 ?_
        refine lv_topi (fun y16 ey16 => ?_)
        have hF := mi_let hF ey16
        have by16 : y16.toInt = (nu13 5 3).toInt := congrArg Int32.toInt ey16
        exact W.iret (v := y16) hx hb hr (fun t ht hW => ⟨⟨y16, nu13, rfl, ⟨hF.trans hfz.symm, ok, trivial, kp14⟩, by first | (subst ht; exact hP) | (rw [ht]; exact hP) | (show va_P (dC, dI) vwCl (wR 157 ad (EX cs ad) nu13) t.heap; rw [ht]; exact hP)⟩, hS.F ht⟩) hS.2.2 dX11_keep_58
      · have hs4 : vk = 2 := Int32.toInt_inj.mp (hs4.trans (by decide))
        rw [if_neg (show ¬ vk = 0 by rw [hs4]; decide)] at hF
        rw [if_neg (show ¬ vk = 1 by rw [hs4]; decide)] at hF
        have hG4 := hF
        subst hs4
        have hF := hG4
        refine lv_aload_n hx hb dX11_keep_22 rfl (lv_at hl 0 rfl) ?_
        refine va_get (D := (dC, dI)) (ci := 11) (v := .ref (ad 3)) (C := RX11) (T := TX11) (N := 11) hx hb hts inG11 hown hK hP 0 (gX_0 cs ad mu) rfl 2 (by decide) (hts _ (List.mem_cons_of_mem _ mw_2_160)) (fun _ h9 => h9) rfl dX11_keep_23 ?_
        refine lv_iload_n hx hb dX11_keep_26 rfl (lv_at hl 1 rfl) ?_
        refine va_aldq hx hb hK hP 3 4 (gX_3 cs ad mu) rfl (show vp_in 2 3 from (by unfold vp_in; decide)) dX11_keep_27 ?_
        refine lq_v (.ref (ad 20)) rfl ?_
        refine lv_aload_n hx hb dX11_keep_28 rfl (lv_at hl 0 rfl) ?_
        refine va_get (D := (dC, dI)) (ci := 11) (v := .ref (ad 4)) (C := RX11) (T := TX11) (N := 11) hx hb hts inG11 hown hK hP 0 (gX_0 cs ad mu) rfl 3 (by decide) (hts _ (List.mem_cons_of_mem _ mw_2_161)) (fun _ h9 => h9) rfl dX11_keep_29 ?_
        refine va_get (D := (dC, dI)) (ci := 10) (v := .ref (ad 5)) (C := RX10) (T := TX10) (N := 8) hx hb hts inG10 hown hK hP 4 (gX_4 cs ad mu) rfl 3 (by decide) (hts _ (List.mem_cons_of_mem _ mw_1_157)) (fun _ h9 => h9) rfl dX11_keep_32 ?_
        have hFc := fr_all (wR_D mu hD) hS hA
        refine va_callv (va_runV (As := [.ref (ad 5)]) (rest := []) ⟨hx, hb, hml, hown, hts⟩ (sx_Standing_beLike_20_5 l dC dI cs ad mu ok s.heap hP ((wR_D mu hD).weaken (fun _ _ _ _ => trivial))) (cwV 1 hts (wU_V mw_3_224 mw_3_221 mw_3_222 mw_3_223 mw_1_3) rfl rfl rfl (by decide +kernel) ⟨Nat.le_of_ble_eq_true rfl, Nat.le_of_ble_eq_true rfl⟩) ⟨sz_c, va_recv hK hP (ci := 8) (q0 := 20) rfl (gX_20 cs ad mu), sz_m hK hz⟩ rfl rfl hl.1 rfl (lv_room (Nat.le_of_ble_eq_true rfl)) dX11_keep_35 ⟨Nat.zero_le _, Nat.zero_le _⟩) hS (fun q _ h => hFc q h) hFc (fun xi17 t H17 locs ht hvm hw17 hB hz1 hk1 hS => ?_)
        have hP : va_P (dC, dI) vwCl (wR 157 ad (EX cs ad) xi17) H17 := by rw [← ht]; exact hB
        obtain ⟨hfe17, ok, hw17, hkp17_0⟩ := hw17
        have hF := mi_let hF hfe17
        have kp18 : (∀ k f : Nat, Nat.testBit 470 (gpX k f) = true → xi17 k f = mu k f) := kp_t hkp17_0 (by decide) (fun _ _ _ => rfl)
        refine lv_aload_n hx hb dX11_keep_38 rfl (lv_at hl 0 rfl) ?_
        refine va_get (D := (dC, dI)) (ci := 11) (v := .ref (ad 3)) (C := RX11) (T := TX11) (N := 11) hx hb hts inG11 hown hK hP 0 (gX_0 cs ad xi17) rfl 2 (by decide) (hts _ (List.mem_cons_of_mem _ mw_2_160)) (fun _ h9 => h9) rfl dX11_keep_39 ?_
        refine lv_iload_n hx hb dX11_keep_42 rfl (lv_at hl 1 rfl) ?_
        refine va_aldq hx hb hK hP 3 4 (gX_3 cs ad xi17) rfl (show vp_in 2 3 from (by unfold vp_in; decide)) dX11_keep_43 ?_
        refine lq_v (.ref (ad 20)) rfl ?_
        refine lv_iconst (v := 1) hx hb dX11_keep_44 (by decide) ?_
        refine va_put (D := (dC, dI)) (ci := 8) (v := .int 1) (ty := .boolean) (C := RX8) (T := TX8) (N := 6) hx hb hts inG8 tyX8 tyX8_ok nmX8 hown hK hP (wR_D xi17 hD) hS 20 (gX_20 cs ad xi17) rfl 5 (by decide) (hts _ (List.mem_cons_of_mem _ mw_1_129)) (fun _ h9 => h9) rfl (by decide +kernel) (by first | rfl | decide) (by first | rfl | decide) (Nat.le_of_ble_eq_true rfl) dX11_keep_45 (fun H locs hP _ hS => ?_)
        simp only [List.set_cons_succ, List.set_cons_zero] at hP
        refine wr_gen (upd (xi17 20) 5 1) hP ((hX_20_5 cs ad _ _)) (fun nu19 hn19 hP => ?_)
        have hF := mi_let hF hn19.symm
        have ok := tX_20_5 ok hn19 (by have h9 : (1 : Int32).toInt = 1 := rfl; exact ⟨by omega, by omega⟩)
        have kp20 : (∀ k f : Nat, Nat.testBit 470 (gpX k f) = true → nu19 k f = mu k f) := kp_c 5 hn19 (fun _ => rfl) (by decide) kp18
        have ez21 : 1 = nu19 20 5 := up_v hn19
        refine lv_aload_n hx hb dX11_keep_48 rfl (lv_at hl 0 rfl) ?_
        refine va_get (D := (dC, dI)) (ci := 11) (v := .ref (ad 4)) (C := RX11) (T := TX11) (N := 11) hx hb hts inG11 hown hK hP 0 (gX_0 cs ad nu19) rfl 3 (by decide) (hts _ (List.mem_cons_of_mem _ mw_2_161)) (fun _ h9 => h9) rfl dX11_keep_49 ?_
        refine va_get (D := (dC, dI)) (ci := 10) (v := .ref (ad 5)) (C := RX10) (T := TX10) (N := 8) hx hb hts inG10 hown hK hP 4 (gX_4 cs ad nu19) rfl 3 (by decide) (hts _ (List.mem_cons_of_mem _ mw_1_157)) (fun _ h9 => h9) rfl dX11_keep_52 ?_
        refine va_get (D := (dC, dI)) (ci := 8) (v := .int (nu19 5 3)) (C := RX8) (T := TX8) (N := 6) hx hb hts inG8 hown hK hP 5 (gX_5 cs ad nu19) rfl 3 (by decide) (hts _ (List.mem_cons_of_mem _ mw_1_124)) (fun _ h9 => h9) rfl dX11_keep_55 ?_
        refine lv_topi (fun y22 ey22 => ?_)
        have hF := mi_let hF ey22
        have by22 : y22.toInt = (nu19 5 3).toInt := congrArg Int32.toInt ey22
        exact W.iret (v := y22) hx hb hr (fun t ht hW => ⟨⟨y22, nu19, rfl, ⟨hF.trans hfz.symm, ok, trivial, kp20⟩, by first | (subst ht; exact hP) | (rw [ht]; exact hP) | (show va_P (dC, dI) vwCl (wR 157 ad (EX cs ad) nu19) t.heap; rw [ht]; exact hP)⟩, hS.F ht⟩) hS.2.2 dX11_keep_58
    · have hF := (if_pos c_3).symm.trans hF
      have c_3 : y2.toInt = 0 := il_eq c_3
      refine lv_bipush (v := (-4)) hx hb dX11_keep_19 (by decide) ?_
      exact W.iret (v := (-4)) hx hb hr (fun t ht hW => ⟨⟨(-4), mu, rfl, ⟨hF.trans hfz.symm, ok, trivial, (fun _ _ _ => rfl)⟩, by first | (subst ht; exact hP) | (rw [ht]; exact hP) | (show va_P (dC, dI) vwCl (wR 157 ad (EX cs ad) mu) t.heap; rw [ht]; exact hP)⟩, hS.F ht⟩) hS.2.2 dX11_keep_21
  · have hF := (if_neg (fun h => absurd (hfe1.trans h) (by decide))).symm.trans hF
    have f1 : vk.toInt < 0 ∨ 2 < vk.toInt := f1
    refine lv_if_ne (tgt := 9) hx hb dX11_keep_4 (by decide) (fun c => absurd (by decide) c) (fun _ => ?_)
    refine lv_iconst (v := (-1)) hx hb dX11_keep_7 (by decide) ?_
    exact W.iret (v := (-1)) hx hb hr (fun t ht hW => ⟨⟨(-1), mu, rfl, ⟨hF.trans hfz.symm, ok, trivial, (fun _ _ _ => rfl)⟩, by first | (subst ht; exact hP) | (rw [ht]; exact hP) | (show va_P (dC, dI) vwCl (wR 157 ad (EX cs ad) mu) t.heap; rw [ht]; exact hP)⟩, hS.F ht⟩) hS.2.2 dX11_keep_8
