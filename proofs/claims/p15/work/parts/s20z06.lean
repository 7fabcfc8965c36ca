set_option maxHeartbeats 4000000 in
set_option maxRecDepth 100000 in
/-- qx_on -/
theorem qx_on (l : Launch) (dC : Nat → ClassId) (dI : Nat → Nat → Nat) (cs : Nat → ClassId) (ad : Nat → Nat) (mu : Nat → Nat → Int32) (ok : okR loX hiX mu) (H : Heap) (hP : va_P (dC, dI) vwCl (wR 157 ad (EX cs ad) mu) H) (hD0 : va_D (fun _ => True) (wR 157 ad (EX cs ad) mu)) (vk : Int32) : Met l yX11_on (wU yX11_on cX11_on 2 (some .int)) ({ frames := 2, cells := 0, slots := 0, locals := 82 }) (va_Pc [.ref (ad 0), .int vk] (sz_P (dC, dI) vwCl (tyW cs) H)) (va_Qi (fun (z : Int32) (xi : Nat → Nat → Int32) => (z, xi) = F_qx_on mu vk ∧ okR loX hiX xi ∧ (True) ∧ (∀ k f : Nat, Nat.testBit 38 (gpX k f) = true → xi k f = mu k f)) (fun xi t => va_P (dC, dI) vwCl (wR 157 ad (EX cs ad) xi) t.heap) (va_A (wR 157 ad (EX cs ad) mu) H.size)) 0 0 (va_A (wR 157 ad (EX cs ad) mu) H.size) := by
  refine Met.ofW (cc := cX11_on) (maxL := 2) (ret := (some .int)) (by decide) rfl ?_
  intro p e s m args below meth c s₁ B hml hv
  obtain ⟨rfl, hh, hK, hz⟩ := hv
  have hx := B.exec
  have hb := B.bytes
  have hr := B.returns
  have hts := atoms_spec (ws := (wU yX11_on cX11_on 2 (some .int))) B.pre
  have hown : s.vm.findClass RX11 = some m.cls := findClass_of_methodNamed B.named
  have hlocks := B.notSynchronized
  subst hh
  have hD := hD0.self (sz := s.heap.size)
  have hA : ∀ q : Nat, s.heap.size ≤ q → (va_A (wR 157 ad (EX cs ad) mu) s.heap.size) q := fun q h => Or.inr h
  have hS : va_S (va_A (wR 157 ad (EX cs ad) mu) s.heap.size) s.heap s.heap [] := va_S.rf
  have hl := lv_entry ([.ref (ad 0), .int vk]) (n := 2) (Nat.le_of_ble_eq_true rfl)
  rw [lg_entry_eq]
  generalize (lg_sl ([.ref (ad 0), .int vk]) ++ List.replicate (2 - (lg_sl ([.ref (ad 0), .int vk])).length) Slot.unset).toArray = ls at hl ⊢
  have hl : lv_has ls 2 [(0, .ref (ad 0)), (1, .int vk)] := hl
  obtain ⟨fz, hfz⟩ : ∃ z, F_qx_on mu vk = z := ⟨_, rfl⟩
  have hF := hfz
  unfold F_qx_on at hF
  refine lv_iload_n hx hb dX11_on_0 rfl (lv_at hl 1 rfl) ?_
  refine cr_i (va_runS (As := [.int vk]) (rest := []) ⟨hx, hb, hml, hown, hts⟩ (sx_isPlace l dC dI (tyW cs) s.heap vk) (va_cwS 1 hts (wU_S mw_3_220 mw_3_218 mw_3_219 mw_1_1) rfl rfl rfl (by decide +kernel) ⟨Nat.le_of_ble_eq_true rfl, Nat.le_of_ble_eq_true rfl⟩) ⟨sz_c, sz_m hK hz⟩ rfl rfl hl.1 rfl (lv_room (Nat.le_of_ble_eq_true rfl)) dX11_on_1 ⟨Nat.zero_le _, Nat.zero_le _⟩) hS (fun r1 hw1 locs hS => ?_)
  obtain ⟨hfe1, hw1⟩ := hw1
  rcases hw1 with ⟨rfl, f1⟩ | ⟨rfl, f1⟩
  · have hF := (if_pos hfe1.symm).symm.trans hF
    have f1 : 0 ≤ vk.toInt ∧ vk.toInt ≤ 2 := f1
    refine lv_if_ne (tgt := 9) hx hb dX11_on_4 (by decide) (fun _ => ?_) (fun c => absurd c (by decide))
    rcases (show vk.toInt = 0 ∨ vk.toInt = 1 ∨ vk.toInt = 2 by omega) with hs2 | hs2 | hs2
    · have hs2 : vk = 0 := Int32.toInt_inj.mp (hs2.trans (by decide))
      rw [if_pos hs2] at hF
      have hG2 := hF
      subst hs2
      have hF := hG2
      refine lv_aload_n hx hb dX11_on_9 rfl (lv_at hl 0 rfl) ?_
      refine va_get (D := (dC, dI)) (ci := 11) (v := .ref (ad 3)) (C := RX11) (T := TX11) (N := 11) hx hb hts inG11 hown hK hP 0 (gX_0 cs ad mu) rfl 2 (by decide) (hts _ (List.mem_cons_of_mem _ mw_2_160)) (fun _ h9 => h9) rfl dX11_on_10 ?_
      refine lv_iload_n hx hb dX11_on_13 rfl (lv_at hl 1 rfl) ?_
      refine va_aldq hx hb hK hP 3 4 (gX_3 cs ad mu) rfl (show vp_in 0 3 from (by unfold vp_in; decide)) dX11_on_14 ?_
      refine lq_v (.ref (ad 18)) rfl ?_
      refine va_get (D := (dC, dI)) (ci := 8) (v := .int (mu 18 5)) (C := RX8) (T := TX8) (N := 6) hx hb hts inG8 hown hK hP 18 (gX_18 cs ad mu) rfl 5 (by decide) (hts _ (List.mem_cons_of_mem _ mw_1_129)) (fun _ h9 => h9) rfl dX11_on_15 ?_
      refine lv_topi (fun y3 ey3 => ?_)
      have hF := mi_let hF ey3
      have by3 : y3.toInt = (mu 18 5).toInt := congrArg Int32.toInt ey3
      have gy3 : 0 ≤ y3.toInt ∧ y3.toInt ≤ 1 := by rw [ey3]; exact rX_18_5 ok
      refine lv_if_ne (tgt := 27) hx hb dX11_on_18 (by decide) (fun c_4 => ?_) (fun c_4 => ?_)
      · have hF := (if_neg c_4).symm.trans hF
        have c_4 : ¬ y3.toInt = 0 := il_ne c_4
        refine lv_aload_n hx hb dX11_on_27 rfl (lv_at hl 0 rfl) ?_
        refine va_get (D := (dC, dI)) (ci := 11) (v := .ref (ad 4)) (C := RX11) (T := TX11) (N := 11) hx hb hts inG11 hown hK hP 0 (gX_0 cs ad mu) rfl 3 (by decide) (hts _ (List.mem_cons_of_mem _ mw_2_161)) (fun _ h9 => h9) rfl dX11_on_28 ?_
        refine va_get (D := (dC, dI)) (ci := 10) (v := .ref (ad 5)) (C := RX10) (T := TX10) (N := 8) hx hb hts inG10 hown hK hP 4 (gX_4 cs ad mu) rfl 3 (by decide) (hts _ (List.mem_cons_of_mem _ mw_1_157)) (fun _ h9 => h9) rfl dX11_on_31 ?_
        refine lv_aload_n hx hb dX11_on_34 rfl (lv_at hl 0 rfl) ?_
        refine va_get (D := (dC, dI)) (ci := 11) (v := .ref (ad 3)) (C := RX11) (T := TX11) (N := 11) hx hb hts inG11 hown hK hP 0 (gX_0 cs ad mu) rfl 2 (by decide) (hts _ (List.mem_cons_of_mem _ mw_2_160)) (fun _ h9 => h9) rfl dX11_on_35 ?_
        refine lv_iload_n hx hb dX11_on_38 rfl (lv_at hl 1 rfl) ?_
        refine va_aldq hx hb hK hP 3 4 (gX_3 cs ad mu) rfl (show vp_in 0 3 from (by unfold vp_in; decide)) dX11_on_39 ?_
        refine lq_v (.ref (ad 18)) rfl ?_
        have hFc := fr_all (wR_D mu hD) hS hA
        refine va_callv (va_runV (As := [.ref (ad 18)]) (rest := []) ⟨hx, hb, hml, hown, hts⟩ (sx_Standing_beLike_5_18 l dC dI cs ad mu ok s.heap hP ((wR_D mu hD).weaken (fun _ _ _ _ => trivial))) (cwV 1 hts (wU_V mw_3_224 mw_3_221 mw_3_222 mw_3_223 mw_1_3) rfl rfl rfl (by decide +kernel) ⟨Nat.le_of_ble_eq_true rfl, Nat.le_of_ble_eq_true rfl⟩) ⟨sz_c, va_recv hK hP (ci := 8) (q0 := 5) rfl (gX_5 cs ad mu), sz_m hK hz⟩ rfl rfl hl.1 rfl (lv_room (Nat.le_of_ble_eq_true rfl)) dX11_on_40 ⟨Nat.zero_le _, Nat.zero_le _⟩) hS (fun q _ h => hFc q h) hFc (fun xi5 t H5 locs ht hvm hw5 hB hz1 hk1 hS => ?_)
        have hP : va_P (dC, dI) vwCl (wR 157 ad (EX cs ad) xi5) H5 := by rw [← ht]; exact hB
        obtain ⟨hfe5, ok, hw5, hkp5_0⟩ := hw5
        have hF := mi_let hF hfe5
        have kp6 : (∀ k f : Nat, Nat.testBit 38 (gpX k f) = true → xi5 k f = mu k f) := kp_t hkp5_0 (by decide) (fun _ _ _ => rfl)
        refine lv_aload_n hx hb dX11_on_43 rfl (lv_at hl 0 rfl) ?_
        refine va_get (D := (dC, dI)) (ci := 11) (v := .ref (ad 6)) (C := RX11) (T := TX11) (N := 11) hx hb hts inG11 hown hK hP 0 (gX_0 cs ad xi5) rfl 5 (by decide) (hts _ (List.mem_cons_of_mem _ mw_2_163)) (fun _ h9 => h9) rfl dX11_on_44 ?_
        refine lv_iconst (v := 0) hx hb dX11_on_47 (by decide) ?_
        refine va_put (D := (dC, dI)) (ci := 2) (v := .int 0) (ty := .int) (C := RX2) (T := TX2) (N := 2) hx hb hts inG2 tyX2 tyX2_ok nmX2 hown hK hP (wR_D xi5 hD) hS 6 (gX_6 cs ad xi5) rfl 1 (by decide) (hts _ (List.mem_cons_of_mem _ mw_2_8)) (fun _ h9 => h9) rfl (by decide +kernel) rfl rfl (Nat.le_of_ble_eq_true rfl) dX11_on_48 (fun H locs hP _ hS => ?_)
        simp only [List.set_cons_succ, List.set_cons_zero] at hP
        refine wr_gen (upd (xi5 6) 1 0) hP ((hX_6_1 cs ad _ _)) (fun nu7 hn7 hP => ?_)
        have hF := mi_let hF hn7.symm
        have ok := tX_6_1 ok hn7 (by have h9 : (0 : Int32).toInt = 0 := rfl; exact ⟨by omega, by omega⟩)
        have kp8 : (∀ k f : Nat, Nat.testBit 38 (gpX k f) = true → nu7 k f = mu k f) := kp_c 4 hn7 (fun _ => rfl) (by decide) kp6
        have ez9 : 0 = nu7 6 1 := up_v hn7
        refine lv_aload_n hx hb dX11_on_51 rfl (lv_at hl 0 rfl) ?_
        refine va_get (D := (dC, dI)) (ci := 11) (v := .ref (ad 4)) (C := RX11) (T := TX11) (N := 11) hx hb hts inG11 hown hK hP 0 (gX_0 cs ad nu7) rfl 3 (by decide) (hts _ (List.mem_cons_of_mem _ mw_2_161)) (fun _ h9 => h9) rfl dX11_on_52 ?_
        refine va_get (D := (dC, dI)) (ci := 10) (v := .ref (ad 5)) (C := RX10) (T := TX10) (N := 8) hx hb hts inG10 hown hK hP 4 (gX_4 cs ad nu7) rfl 3 (by decide) (hts _ (List.mem_cons_of_mem _ mw_1_157)) (fun _ h9 => h9) rfl dX11_on_55 ?_
        refine va_get (D := (dC, dI)) (ci := 8) (v := .int (nu7 5 3)) (C := RX8) (T := TX8) (N := 6) hx hb hts inG8 hown hK hP 5 (gX_5 cs ad nu7) rfl 3 (by decide) (hts _ (List.mem_cons_of_mem _ mw_1_124)) (fun _ h9 => h9) rfl dX11_on_58 ?_
        refine lv_topi (fun y10 ey10 => ?_)
        have hF := mi_let hF ey10
        have by10 : y10.toInt = (nu7 5 3).toInt := congrArg Int32.toInt ey10
        exact W.iret (v := y10) hx hb hr (fun t ht hW => ⟨⟨y10, nu7, rfl, ⟨hF.trans hfz.symm, ok, trivial, kp8⟩, by first | (subst ht; exact hP) | (rw [ht]; exact hP) | (show va_P (dC, dI) vwCl (wR 157 ad (EX cs ad) nu7) t.heap; rw [ht]; exact hP)⟩, hS.F ht⟩) hS.2.2 dX11_on_61
      · have hF := (if_pos c_4).symm.trans hF
        have c_4 : y3.toInt = 0 := il_eq c_4
        refine lv_aload_n hx hb dX11_on_21 rfl (lv_at hl 0 rfl) ?_
        refine lv_iconst (v := 1) hx hb dX11_on_22 (by decide) ?_
        have hFc := fr_all (wR_D mu hD) hS hA
        refine va_calli (va_runV (As := [.int 1]) (rest := []) ⟨hx, hb, hml, hown, hts⟩ (sx_found l dC dI cs ad mu ok s.heap hP ((wR_D mu hD).weaken (fun _ _ _ _ => trivial)) 1 (by have h50 : (1 : Int32).toInt = 1 := rfl; omega)) (cwV 1 hts (wU_V mw_2_202 mw_2_199 mw_2_201 mw_0_0 mw_1_1) rfl rfl rfl (by decide +kernel) ⟨Nat.le_of_ble_eq_true rfl, Nat.le_of_ble_eq_true rfl⟩) ⟨sz_c, va_recv hK hP (ci := 11) (q0 := 0) rfl (gX_0 cs ad mu), sz_m hK hz⟩ rfl rfl hl.1 rfl (lv_room (Nat.le_of_ble_eq_true rfl)) dX11_on_23 ⟨Nat.zero_le _, Nat.zero_le _⟩) hS (fun q _ h => hFc q h) hFc (fun r11 xi11 t H11 locs ht hvm hw11 hB hz1 hk1 hS => ?_)
        have hP : va_P (dC, dI) vwCl (wR 157 ad (EX cs ad) xi11) H11 := by rw [← ht]; exact hB
        obtain ⟨hfe11, ok, hw11, hkp11_0⟩ := hw11
        have hF := mi_letp hF hfe11
        have kp12 : (∀ k f : Nat, Nat.testBit 38 (gpX k f) = true → xi11 k f = mu k f) := kp_t hkp11_0 (by decide) (fun _ _ _ => rfl)
        have gr11 : -3 ≤ r11.toInt ∧ r11.toInt ≤ -3 := hw11
        exact W.iret (v := r11) hx hb hr (fun t ht hW => ⟨⟨r11, xi11, rfl, ⟨hF.trans hfz.symm, ok, trivial, kp12⟩, by first | (subst ht; exact hP) | (rw [ht]; exact hP) | (show va_P (dC, dI) vwCl (wR 157 ad (EX cs ad) xi11) t.heap; rw [ht]; exact hP)⟩, hS.F ht⟩) hS.2.2 dX11_on_26
    · have hs2 : vk = 1 := Int32.toInt_inj.mp (hs2.trans (by decide))
      rw [if_neg (show ¬ vk = 0 by rw [hs2]; decide)] at hF
      rw [if_pos hs2] at hF
      have hG2 := hF
      subst hs2
      have hF := hG2
      refine lv_aload_n hx hb dX11_on_9 rfl (lv_at hl 0 rfl) ?_
      refine va_get (D := (dC, dI)) (ci := 11) (v := .ref (ad 3)) (C := RX11) (T := TX11) (N := 11) hx hb hts inG11 hown hK hP 0 (gX_0 cs ad mu) rfl 2 (by decide) (hts _ (List.mem_cons_of_mem _ mw_2_160)) (fun _ h9 => h9) rfl dX11_on_10 ?_
      refine lv_iload_n hx hb dX11_on_13 rfl (lv_at hl 1 rfl) ?_
      refine va_aldq hx hb hK hP 3 4 (gX_3 cs ad mu) rfl (show vp_in 1 3 from (by unfold vp_in; decide)) dX11_on_14 ?_
      refine lq_v (.ref (ad 19)) rfl ?_
      refine va_get (D := (dC, dI)) (ci := 8) (v := .int (mu 19 5)) (C := RX8) (T := TX8) (N := 6) hx hb hts inG8 hown hK hP 19 (gX_19 cs ad mu) rfl 5 (by decide) (hts _ (List.mem_cons_of_mem _ mw_1_129)) (fun _ h9 => h9) rfl dX11_on_15 ?_
      refine lv_topi (fun y13 ey13 => ?_)
      have hF := mi_let hF ey13
      have by13 : y13.toInt = (mu 19 5).toInt := congrArg Int32.toInt ey13
      have gy13 : 0 ≤ y13.toInt ∧ y13.toInt ≤ 1 := by rw [ey13]; exact rX_19_5 ok
      refine lv_if_ne (tgt := 27) hx hb dX11_on_18 (by decide) (fun c_14 => ?_) (fun c_14 => ?_)
      · have hF := (if_neg c_14).symm.trans hF
        have c_14 : ¬ y13.toInt = 0 := il_ne c_14
        refine lv_aload_n hx hb dX11_on_27 rfl (lv_at hl 0 rfl) ?_
        refine va_get (D := (dC, dI)) (ci := 11) (v := .ref (ad 4)) (C := RX11) (T := TX11) (N := 11) hx hb hts inG11 hown hK hP 0 (gX_0 cs ad mu) rfl 3 (by decide) (hts _ (List.mem_cons_of_mem _ mw_2_161)) (fun _ h9 => h9) rfl dX11_on_28 ?_
        refine va_get (D := (dC, dI)) (ci := 10) (v := .ref (ad 5)) (C := RX10) (T := TX10) (N := 8) hx hb hts inG10 hown hK hP 4 (gX_4 cs ad mu) rfl 3 (by decide) (hts _ (List.mem_cons_of_mem _ mw_1_157)) (fun _ h9 => h9) rfl dX11_on_31 ?_
        refine lv_aload_n hx hb dX11_on_34 rfl (lv_at hl 0 rfl) ?_
        refine va_get (D := (dC, dI)) (ci := 11) (v := .ref (ad 3)) (C := RX11) (T := TX11) (N := 11) hx hb hts inG11 hown hK hP 0 (gX_0 cs ad mu) rfl 2 (by decide) (hts _ (List.mem_cons_of_mem _ mw_2_160)) (fun _ h9 => h9) rfl dX11_on_35 ?_
        refine lv_iload_n hx hb dX11_on_38 rfl (lv_at hl 1 rfl) ?_
        refine va_aldq hx hb hK hP 3 4 (gX_3 cs ad mu) rfl (show vp_in 1 3 from (by unfold vp_in; decide)) dX11_on_39 ?_
        refine lq_v (.ref (ad 19)) rfl ?_
        have hFc := fr_all (wR_D mu hD) hS hA
        refine va_callv (va_runV (As := [.ref (ad 19)]) (rest := []) ⟨hx, hb, hml, hown, hts⟩ (sx_Standing_beLike_5_19 l dC dI cs ad mu ok s.heap hP ((wR_D mu hD).weaken (fun _ _ _ _ => trivial))) (cwV 1 hts (wU_V mw_3_224 mw_3_221 mw_3_222 mw_3_223 mw_1_3) rfl rfl rfl (by decide +kernel) ⟨Nat.le_of_ble_eq_true rfl, Nat.le_of_ble_eq_true rfl⟩) ⟨sz_c, va_recv hK hP (ci := 8) (q0 := 5) rfl (gX_5 cs ad mu), sz_m hK hz⟩ rfl rfl hl.1 rfl (lv_room (Nat.le_of_ble_eq_true rfl)) dX11_on_40 ⟨Nat.zero_le _, Nat.zero_le _⟩) hS (fun q _ h => hFc q h) hFc (fun xi15 t H15 locs ht hvm hw15 hB hz1 hk1 hS => ?_)
        have hP : va_P (dC, dI) vwCl (wR 157 ad (EX cs ad) xi15) H15 := by rw [← ht]; exact hB
        obtain ⟨hfe15, ok, hw15, hkp15_0⟩ := hw15
        have hF := mi_let hF hfe15
        have kp16 : (∀ k f : Nat, Nat.testBit 38 (gpX k f) = true → xi15 k f = mu k f) := kp_t hkp15_0 (by decide) (fun _ _ _ => rfl)
        refine lv_aload_n hx hb dX11_on_43 rfl (lv_at hl 0 rfl) ?_
        refine va_get (D := (dC, dI)) (ci := 11) (v := .ref (ad 6)) (C := RX11) (T := TX11) (N := 11) hx hb hts inG11 hown hK hP 0 (gX_0 cs ad xi15) rfl 5 (by decide) (hts _ (List.mem_cons_of_mem _ mw_2_163)) (fun _ h9 => h9) rfl dX11_on_44 ?_
        refine lv_iconst (v := 0) hx hb dX11_on_47 (by decide) ?_
        refine va_put (D := (dC, dI)) (ci := 2) (v := .int 0) (ty := .int) (C := RX2) (T := TX2) (N := 2) hx hb hts inG2 tyX2 tyX2_ok nmX2 hown hK hP (wR_D xi15 hD) hS 6 (gX_6 cs ad xi15) rfl 1 (by decide) (hts _ (List.mem_cons_of_mem _ mw_2_8)) (fun _ h9 => h9) rfl (by decide +kernel) rfl rfl (Nat.le_of_ble_eq_true rfl) dX11_on_48 (fun H locs hP _ hS => ?_)
        simp only [List.set_cons_succ, List.set_cons_zero] at hP
        refine wr_gen (upd (xi15 6) 1 0) hP ((hX_6_1 cs ad _ _)) (fun nu17 hn17 hP => ?_)
        have hF := mi_let hF hn17.symm
        have ok := tX_6_1 ok hn17 (by have h9 : (0 : Int32).toInt = 0 := rfl; exact ⟨by omega, by omega⟩)
        have kp18 : (∀ k f : Nat, Nat.testBit 38 (gpX k f) = true → nu17 k f = mu k f) := kp_c 4 hn17 (fun _ => rfl) (by decide) kp16
        have ez19 : 0 = nu17 6 1 := up_v hn17
        refine lv_aload_n hx hb dX11_on_51 rfl (lv_at hl 0 rfl) ?_
        refine va_get (D := (dC, dI)) (ci := 11) (v := .ref (ad 4)) (C := RX11) (T := TX11) (N := 11) hx hb hts inG11 hown hK hP 0 (gX_0 cs ad nu17) rfl 3 (by decide) (hts _ (List.mem_cons_of_mem _ mw_2_161)) (fun _ h9 => h9) rfl dX11_on_52 ?_
        refine va_get (D := (dC, dI)) (ci := 10) (v := .ref (ad 5)) (C := RX10) (T := TX10) (N := 8) hx hb hts inG10 hown hK hP 4 (gX_4 cs ad nu17) rfl 3 (by decide) (hts _ (List.mem_cons_of_mem _ mw_1_157)) (fun _ h9 => h9) rfl dX11_on_55 ?_
        refine va_get (D := (dC, dI)) (ci := 8) (v := .int (nu17 5 3)) (C := RX8) (T := TX8) (N := 6) hx hb hts inG8 hown hK hP 5 (gX_5 cs ad nu17) rfl 3 (by decide) (hts _ (List.mem_cons_of_mem _ mw_1_124)) (fun _ h9 => h9) rfl dX11_on_58 ?_
        refine lv_topi (fun y20 ey20 => ?_)
        have hF := mi_let hF ey20
        have by20 : y20.toInt = (nu17 5 3).toInt := congrArg Int32.toInt ey20
        exact W.iret (v := y20) hx hb hr (fun t ht hW => ⟨⟨y20, nu17, rfl, ⟨hF.trans hfz.symm, ok, trivial, kp18⟩, by first | (subst ht; exact hP) | (rw [ht]; exact hP) | (show va_P (dC, dI) vwCl (wR 157 ad (EX cs ad) nu17) t.heap; rw [ht]; exact hP)⟩, hS.F ht⟩) hS.2.2 dX11_on_61
      · have hF := (if_pos c_14).symm.trans hF
        have c_14 : y13.toInt = 0 := il_eq c_14
        refine lv_aload_n hx hb dX11_on_21 rfl (lv_at hl 0 rfl) ?_
        refine lv_iconst (v := 1) hx hb dX11_on_22 (by decide) ?_
        have hFc := fr_all (wR_D mu hD) hS hA
        refine va_calli (va_runV (As := [.int 1]) (rest := []) ⟨hx, hb, hml, hown, hts⟩ (sx_found l dC dI cs ad mu ok s.heap hP ((wR_D mu hD).weaken (fun _ _ _ _ => trivial)) 1 (by have h50 : (1 : Int32).toInt = 1 := rfl; omega)) (cwV 1 hts (wU_V mw_2_202 mw_2_199 mw_2_201 mw_0_0 mw_1_1) rfl rfl rfl (by decide +kernel) ⟨Nat.le_of_ble_eq_true rfl, Nat.le_of_ble_eq_true rfl⟩) ⟨sz_c, va_recv hK hP (ci := 11) (q0 := 0) rfl (gX_0 cs ad mu), sz_m hK hz⟩ rfl rfl hl.1 rfl (lv_room (Nat.le_of_ble_eq_true rfl)) dX11_on_23 ⟨Nat.zero_le _, Nat.zero_le _⟩) hS (fun q _ h => hFc q h) hFc (fun r21 xi21 t H21 locs ht hvm hw21 hB hz1 hk1 hS => ?_)
        have hP : va_P (dC, dI) vwCl (wR 157 ad (EX cs ad) xi21) H21 := by rw [← ht]; exact hB
        obtain ⟨hfe21, ok, hw21, hkp21_0⟩ := hw21
        have hF := mi_letp hF hfe21
        have kp22 : (∀ k f : Nat, Nat.testBit 38 (gpX k f) = true → xi21 k f = mu k f) := kp_t hkp21_0 (by decide) (fun _ _ _ => rfl)
        have gr21 : -3 ≤ r21.toInt ∧ r21.toInt ≤ -3 := hw21
        exact W.iret (v := r21) hx hb hr (fun t ht hW => ⟨⟨r21, xi21, rfl, ⟨hF.trans hfz.symm, ok, trivial, kp22⟩, by first | (subst ht; exact hP) | (rw [ht]; exact hP) | (show va_P (dC, dI) vwCl (wR 157 ad (EX cs ad) xi21) t.heap; rw [ht]; exact hP)⟩, hS.F ht⟩) hS.2.2 dX11_on_26
    · have hs2 : vk = 2 := Int32.toInt_inj.mp (hs2.trans (by decide))
      rw [if_neg (show ¬ vk = 0 by rw [hs2]; decide)] at hF
      rw [if_neg (show ¬ vk = 1 by rw [hs2]; decide)] at hF
      have hG2 := hF
      subst hs2
      have hF := hG2
      refine lv_aload_n hx hb dX11_on_9 rfl (lv_at hl 0 rfl) ?_
      refine va_get (D := (dC, dI)) (ci := 11) (v := .ref (ad 3)) (C := RX11) (T := TX11) (N := 11) hx hb hts inG11 hown hK hP 0 (gX_0 cs ad mu) rfl 2 (by decide) (hts _ (List.mem_cons_of_mem _ mw_2_160)) (fun _ h9 => h9) rfl dX11_on_10 ?_
      refine lv_iload_n hx hb dX11_on_13 rfl (lv_at hl 1 rfl) ?_
      refine va_aldq hx hb hK hP 3 4 (gX_3 cs ad mu) rfl (show vp_in 2 3 from (by unfold vp_in; decide)) dX11_on_14 ?_
      refine lq_v (.ref (ad 20)) rfl ?_
      refine va_get (D := (dC, dI)) (ci := 8) (v := .int (mu 20 5)) (C := RX8) (T := TX8) (N := 6) hx hb hts inG8 hown hK hP 20 (gX_20 cs ad mu) rfl 5 (by decide) (hts _ (List.mem_cons_of_mem _ mw_1_129)) (fun _ h9 => h9) rfl dX11_on_15 ?_
      refine lv_topi (fun y23 ey23 => ?_)
      have hF := mi_let hF ey23
      have by23 : y23.toInt = (mu 20 5).toInt := congrArg Int32.toInt ey23
      have gy23 : 0 ≤ y23.toInt ∧ y23.toInt ≤ 1 := by rw [ey23]; exact rX_20_5 ok
      refine lv_if_ne (tgt := 27) hx hb dX11_on_18 (by decide) (fun c_24 => ?_) (fun c_24 => ?_)
      · have hF := (if_neg c_24).symm.trans hF
        have c_24 : ¬ y23.toInt = 0 := il_ne c_24
        refine lv_aload_n hx hb dX11_on_27 rfl (lv_at hl 0 rfl) ?_
        refine va_get (D := (dC, dI)) (ci := 11) (v := .ref (ad 4)) (C := RX11) (T := TX11) (N := 11) hx hb hts inG11 hown hK hP 0 (gX_0 cs ad mu) rfl 3 (by decide) (hts _ (List.mem_cons_of_mem _ mw_2_161)) (fun _ h9 => h9) rfl dX11_on_28 ?_
        refine va_get (D := (dC, dI)) (ci := 10) (v := .ref (ad 5)) (C := RX10) (T := TX10) (N := 8) hx hb hts inG10 hown hK hP 4 (gX_4 cs ad mu) rfl 3 (by decide) (hts _ (List.mem_cons_of_mem _ mw_1_157)) (fun _ h9 => h9) rfl dX11_on_31 ?_
        refine lv_aload_n hx hb dX11_on_34 rfl (lv_at hl 0 rfl) ?_
        refine va_get (D := (dC, dI)) (ci := 11) (v := .ref (ad 3)) (C := RX11) (T := TX11) (N := 11) hx hb hts inG11 hown hK hP 0 (gX_0 cs ad mu) rfl 2 (by decide) (hts _ (List.mem_cons_of_mem _ mw_2_160)) (fun _ h9 => h9) rfl dX11_on_35 ?_
        refine lv_iload_n hx hb dX11_on_38 rfl (lv_at hl 1 rfl) ?_
        refine va_aldq hx hb hK hP 3 4 (gX_3 cs ad mu) rfl (show vp_in 2 3 from (by unfold vp_in; decide)) dX11_on_39 ?_
        refine lq_v (.ref (ad 20)) rfl ?_
        have hFc := fr_all (wR_D mu hD) hS hA
        refine va_callv (va_runV (As := [.ref (ad 20)]) (rest := []) ⟨hx, hb, hml, hown, hts⟩ (sx_Standing_beLike_5_20 l dC dI cs ad mu ok s.heap hP ((wR_D mu hD).weaken (fun _ _ _ _ => trivial))) (cwV 1 hts (wU_V mw_3_224 mw_3_221 mw_3_222 mw_3_223 mw_1_3) rfl rfl rfl (by decide +kernel) ⟨Nat.le_of_ble_eq_true rfl, Nat.le_of_ble_eq_true rfl⟩) ⟨sz_c, va_recv hK hP (ci := 8) (q0 := 5) rfl (gX_5 cs ad mu), sz_m hK hz⟩ rfl rfl hl.1 rfl (lv_room (Nat.le_of_ble_eq_true rfl)) dX11_on_40 ⟨Nat.zero_le _, Nat.zero_le _⟩) hS (fun q _ h => hFc q h) hFc (fun xi25 t H25 locs ht hvm hw25 hB hz1 hk1 hS => ?_)
        have hP : va_P (dC, dI) vwCl (wR 157 ad (EX cs ad) xi25) H25 := by rw [← ht]; exact hB
        obtain ⟨hfe25, ok, hw25, hkp25_0⟩ := hw25
        have hF := mi_let hF hfe25
        have kp26 : (∀ k f : Nat, Nat.testBit 38 (gpX k f) = true → xi25 k f = mu k f) := kp_t hkp25_0 (by decide) (fun _ _ _ => rfl)
        refine lv_aload_n hx hb dX11_on_43 rfl (lv_at hl 0 rfl) ?_
        refine va_get (D := (dC, dI)) (ci := 11) (v := .ref (ad 6)) (C := RX11) (T := TX11) (N := 11) hx hb hts inG11 hown hK hP 0 (gX_0 cs ad xi25) rfl 5 (by decide) (hts _ (List.mem_cons_of_mem _ mw_2_163)) (fun _ h9 => h9) rfl dX11_on_44 ?_
        refine lv_iconst (v := 0) hx hb dX11_on_47 (by decide) ?_
        refine va_put (D := (dC, dI)) (ci := 2) (v := .int 0) (ty := .int) (C := RX2) (T := TX2) (N := 2) hx hb hts inG2 tyX2 tyX2_ok nmX2 hown hK hP (wR_D xi25 hD) hS 6 (gX_6 cs ad xi25) rfl 1 (by decide) (hts _ (List.mem_cons_of_mem _ mw_2_8)) (fun _ h9 => h9) rfl (by decide +kernel) rfl rfl (Nat.le_of_ble_eq_true rfl) dX11_on_48 (fun H locs hP _ hS => ?_)
        simp only [List.set_cons_succ, List.set_cons_zero] at hP
        refine wr_gen (upd (xi25 6) 1 0) hP ((hX_6_1 cs ad _ _)) (fun nu27 hn27 hP => ?_)
        have hF := mi_let hF hn27.symm
        have ok := tX_6_1 ok hn27 (by have h9 : (0 : Int32).toInt = 0 := rfl; exact ⟨by omega, by omega⟩)
        have kp28 : (∀ k f : Nat, Nat.testBit 38 (gpX k f) = true → nu27 k f = mu k f) := kp_c 4 hn27 (fun _ => rfl) (by decide) kp26
        have ez29 : 0 = nu27 6 1 := up_v hn27
        refine lv_aload_n hx hb dX11_on_51 rfl (lv_at hl 0 rfl) ?_
        refine va_get (D := (dC, dI)) (ci := 11) (v := .ref (ad 4)) (C := RX11) (T := TX11) (N := 11) hx hb hts inG11 hown hK hP 0 (gX_0 cs ad nu27) rfl 3 (by decide) (hts _ (List.mem_cons_of_mem _ mw_2_161)) (fun _ h9 => h9) rfl dX11_on_52 ?_
        refine va_get (D := (dC, dI)) (ci := 10) (v := .ref (ad 5)) (C := RX10) (T := TX10) (N := 8) hx hb hts inG10 hown hK hP 4 (gX_4 cs ad nu27) rfl 3 (by decide) (hts _ (List.mem_cons_of_mem _ mw_1_157)) (fun _ h9 => h9) rfl dX11_on_55 ?_
        refine va_get (D := (dC, dI)) (ci := 8) (v := .int (nu27 5 3)) (C := RX8) (T := TX8) (N := 6) hx hb hts inG8 hown hK hP 5 (gX_5 cs ad nu27) rfl 3 (by decide) (hts _ (List.mem_cons_of_mem _ mw_1_124)) (fun _ h9 => h9) rfl dX11_on_58 ?_
        refine lv_topi (fun y30 ey30 => ?_)
        have hF := mi_let hF ey30
        have by30 : y30.toInt = (nu27 5 3).toInt := congrArg Int32.toInt ey30
        exact W.iret (v := y30) hx hb hr (fun t ht hW => ⟨⟨y30, nu27, rfl, ⟨hF.trans hfz.symm, ok, trivial, kp28⟩, by first | (subst ht; exact hP) | (rw [ht]; exact hP) | (show va_P (dC, dI) vwCl (wR 157 ad (EX cs ad) nu27) t.heap; rw [ht]; exact hP)⟩, hS.F ht⟩) hS.2.2 dX11_on_61
      · have hF := (if_pos c_24).symm.trans hF
        have c_24 : y23.toInt = 0 := il_eq c_24
        refine lv_aload_n hx hb dX11_on_21 rfl (lv_at hl 0 rfl) ?_
        refine lv_iconst (v := 1) hx hb dX11_on_22 (by decide) ?_
        have hFc := fr_all (wR_D mu hD) hS hA
        refine va_calli (va_runV (As := [.int 1]) (rest := []) ⟨hx, hb, hml, hown, hts⟩ (sx_found l dC dI cs ad mu ok s.heap hP ((wR_D mu hD).weaken (fun _ _ _ _ => trivial)) 1 (by have h50 : (1 : Int32).toInt = 1 := rfl; omega)) (cwV 1 hts (wU_V mw_2_202 mw_2_199 mw_2_201 mw_0_0 mw_1_1) rfl rfl rfl (by decide +kernel) ⟨Nat.le_of_ble_eq_true rfl, Nat.le_of_ble_eq_true rfl⟩) ⟨sz_c, va_recv hK hP (ci := 11) (q0 := 0) rfl (gX_0 cs ad mu), sz_m hK hz⟩ rfl rfl hl.1 rfl (lv_room (Nat.le_of_ble_eq_true rfl)) dX11_on_23 ⟨Nat.zero_le _, Nat.zero_le _⟩) hS (fun q _ h => hFc q h) hFc (fun r31 xi31 t H31 locs ht hvm hw31 hB hz1 hk1 hS => ?_)
        have hP : va_P (dC, dI) vwCl (wR 157 ad (EX cs ad) xi31) H31 := by rw [← ht]; exact hB
        obtain ⟨hfe31, ok, hw31, hkp31_0⟩ := hw31
        have hF := mi_letp hF hfe31
        have kp32 : (∀ k f : Nat, Nat.testBit 38 (gpX k f) = true → xi31 k f = mu k f) := kp_t hkp31_0 (by decide) (fun _ _ _ => rfl)
        have gr31 : -3 ≤ r31.toInt ∧ r31.toInt ≤ -3 := hw31
        exact W.iret (v := r31) hx hb hr (fun t ht hW => ⟨⟨r31, xi31, rfl, ⟨hF.trans hfz.symm, ok, trivial, kp32⟩, by first | (subst ht; exact hP) | (rw [ht]; exact hP) | (show va_P (dC, dI) vwCl (wR 157 ad (EX cs ad) xi31) t.heap; rw [ht]; exact hP)⟩, hS.F ht⟩) hS.2.2 dX11_on_26
  · have hF := (if_neg (fun h => absurd (hfe1.trans h) (by decide))).symm.trans hF
    have f1 : vk.toInt < 0 ∨ 2 < vk.toInt := f1
    refine lv_if_ne (tgt := 9) hx hb dX11_on_4 (by decide) (fun c => absurd (by decide) c) (fun _ => ?_)
    refine lv_iconst (v := (-1)) hx hb dX11_on_7 (by decide) ?_
    exact W.iret (v := (-1)) hx hb hr (fun t ht hW => ⟨⟨(-1), mu, rfl, ⟨hF.trans hfz.symm, ok, trivial, (fun _ _ _ => rfl)⟩, by first | (subst ht; exact hP) | (rw [ht]; exact hP) | (show va_P (dC, dI) vwCl (wR 157 ad (EX cs ad) mu) t.heap; rw [ht]; exact hP)⟩, hS.F ht⟩) hS.2.2 dX11_on_8
