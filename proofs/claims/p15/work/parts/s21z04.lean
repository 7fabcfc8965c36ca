set_option maxHeartbeats 4000000 in
set_option maxRecDepth 100000 in
/-- sx_lookAt -/
theorem sx_lookAt (l : Launch) (dC : Nat → ClassId) (dI : Nat → Nat → Nat) (cs : Nat → ClassId) (ad : Nat → Nat) (mu : Nat → Nat → Int32) (ok : okR loX hiX mu) (H : Heap) (hP : va_P (dC, dI) vwCl (wR 157 ad (EX cs ad) mu) H) (hD0 : va_D (fun _ => True) (wR 157 ad (EX cs ad) mu)) (kl : Nat) (h1kl : 61 ≤ kl) (h2kl : kl < 77) : Met l yX5_lookAt (wU yX5_lookAt cX5_lookAt 3 none) ({ frames := 4, cells := 0, slots := 0, locals := 92 }) (va_Pc [.ref (ad 32), .ref (ad 4), .ref (ad kl)] (sz_P (dC, dI) vwCl (tyW cs) H)) (va_Qv (fun (xi : Nat → Nat → Int32) => okR loX hiX xi ∧ (True) ∧ (∀ k f : Nat, Nat.testBit 510 (gpX k f) = true → xi k f = mu k f)) (fun xi t => va_P (dC, dI) vwCl (wR 157 ad (EX cs ad) xi) t.heap) (va_A (wR 157 ad (EX cs ad) mu) H.size)) 0 0 (va_A (wR 157 ad (EX cs ad) mu) H.size) := by
  refine Met.ofW (cc := cX5_lookAt) (maxL := 3) (ret := none) (by decide) rfl ?_
  intro p e s m args below meth c s₁ B hml hv
  obtain ⟨rfl, hh, hK, hz⟩ := hv
  have hx := B.exec
  have hb := B.bytes
  have hr := B.returns
  have hts := atoms_spec (ws := (wU yX5_lookAt cX5_lookAt 3 none)) B.pre
  have hown : s.vm.findClass RX5 = some m.cls := findClass_of_methodNamed B.named
  have hlocks := B.notSynchronized
  subst hh
  have hD := hD0.self (sz := s.heap.size)
  have hA : ∀ q : Nat, s.heap.size ≤ q → (va_A (wR 157 ad (EX cs ad) mu) s.heap.size) q := fun q h => Or.inr h
  have hS : va_S (va_A (wR 157 ad (EX cs ad) mu) s.heap.size) s.heap s.heap [] := va_S.rf
  have hl := lv_entry ([.ref (ad 32), .ref (ad 4), .ref (ad kl)]) (n := 3) (Nat.le_of_ble_eq_true rfl)
  rw [lg_entry_eq]
  generalize (lg_sl ([.ref (ad 32), .ref (ad 4), .ref (ad kl)]) ++ List.replicate (3 - (lg_sl ([.ref (ad 32), .ref (ad 4), .ref (ad kl)])).length) Slot.unset).toArray = ls at hl ⊢
  have hl : lv_has ls 3 [(0, .ref (ad 32)), (1, .ref (ad 4)), (2, .ref (ad kl))] := hl
  refine lv_aload_n hx hb dX5_lookAt_0 rfl (lv_at hl 0 rfl) ?_
  refine lv_aload_n hx hb dX5_lookAt_1 rfl (lv_at hl 1 rfl) ?_
  refine lv_aload_n hx hb dX5_lookAt_2 rfl (lv_at hl 2 rfl) ?_
  refine va_get (D := (dC, dI)) (ci := 3) (v := .int (mu kl 5)) (C := RX3) (T := TX3) (N := 10) hx hb hts inG3 hown hK hP kl (gX_letter cs ad mu kl h1kl h2kl) rfl 5 (by decide) (hts _ (List.mem_cons_of_mem _ mw_1_61)) (fun _ h9 => h9) rfl dX5_lookAt_3 ?_
  refine lv_topi (fun y1 ey1 => ?_)
  have by1 : y1.toInt = (mu kl 5).toInt := congrArg Int32.toInt ey1
  have gy1 : 0 ≤ y1.toInt ∧ y1.toInt ≤ 6 := by rw [ey1]; exact rX_letter_5 ok kl h1kl h2kl
  refine lv_aload_n hx hb dX5_lookAt_6 rfl (lv_at hl 2 rfl) ?_
  refine va_get (D := (dC, dI)) (ci := 3) (v := .int (mu kl 1)) (C := RX3) (T := TX3) (N := 10) hx hb hts inG3 hown hK hP kl (gX_letter cs ad mu kl h1kl h2kl) rfl 1 (by decide) (hts _ (List.mem_cons_of_mem _ mw_1_53)) (fun _ h9 => h9) rfl dX5_lookAt_7 ?_
  refine lv_topi (fun y2 ey2 => ?_)
  have by2 : y2.toInt = (mu kl 1).toInt := congrArg Int32.toInt ey2
  have gy2 : 0 ≤ y2.toInt ∧ y2.toInt ≤ 6 := by rw [ey2]; exact rX_letter_1 ok kl h1kl h2kl
  refine lv_aload_n hx hb dX5_lookAt_10 rfl (lv_at hl 2 rfl) ?_
  refine va_get (D := (dC, dI)) (ci := 3) (v := .int (mu kl 6)) (C := RX3) (T := TX3) (N := 10) hx hb hts inG3 hown hK hP kl (gX_letter cs ad mu kl h1kl h2kl) rfl 6 (by decide) (hts _ (List.mem_cons_of_mem _ mw_1_66)) (fun _ h9 => h9) rfl dX5_lookAt_11 ?_
  refine lv_topi (fun y3 ey3 => ?_)
  have by3 : y3.toInt = (mu kl 6).toInt := congrArg Int32.toInt ey3
  have hFc := fr_all (wR_D mu hD) hS hA
  refine va_callv (va_runV (As := [.ref (ad 4), .int y1, .int y2, .int y3]) (rest := []) ⟨hx, hb, hml, hown, hts⟩ (sx_lookFrom l dC dI cs ad mu ok s.heap hP ((wR_D mu hD).weaken (fun _ _ _ _ => trivial)) y1 y2 y3 (by omega)) (cwV 4 hts (wU_V mw_4_13 mw_4_10 mw_4_12 mw_0_10 mw_1_8) rfl rfl rfl (by decide +kernel) ⟨Nat.le_of_ble_eq_true rfl, Nat.le_of_ble_eq_true rfl⟩) ⟨sz_c, va_recv hK hP (ci := 5) (q0 := 32) rfl (gX_32 cs ad mu), sz_m hK hz⟩ rfl rfl hl.1 rfl (lv_room (Nat.le_of_ble_eq_true rfl)) dX5_lookAt_14 ⟨Nat.zero_le _, Nat.zero_le _⟩) hS (fun q _ h => hFc q h) hFc (fun xi4 t H4 locs ht hvm hw4 hB hz1 hk1 hS => ?_)
  have hP : va_P (dC, dI) vwCl (wR 157 ad (EX cs ad) xi4) H4 := by rw [← ht]; exact hB
  obtain ⟨ok, hw4, hkp4_0⟩ := hw4
  have kp5 : (∀ k f : Nat, Nat.testBit 510 (gpX k f) = true → xi4 k f = mu k f) := kp_t hkp4_0 (by decide) (fun _ _ _ => rfl)
  refine lv_aload_n hx hb dX5_lookAt_17 rfl (lv_at hl 0 rfl) ?_
  refine lv_aload_n hx hb dX5_lookAt_18 rfl (lv_at hl 2 rfl) ?_
  refine lv_aload_n hx hb dX5_lookAt_19 rfl (lv_at hl 1 rfl) ?_
  refine va_get (D := (dC, dI)) (ci := 10) (v := .ref (ad 5)) (C := RX10) (T := TX10) (N := 8) hx hb hts inG10 hown hK hP 4 (gX_4 cs ad xi4) rfl 3 (by decide) (hts _ (List.mem_cons_of_mem _ mw_1_153)) (fun _ h9 => h9) rfl dX5_lookAt_20 ?_
  refine va_get (D := (dC, dI)) (ci := 8) (v := .int (xi4 5 3)) (C := RX8) (T := TX8) (N := 6) hx hb hts inG8 hown hK hP 5 (gX_5 cs ad xi4) rfl 3 (by decide) (hts _ (List.mem_cons_of_mem _ mw_1_119)) (fun _ h9 => h9) rfl dX5_lookAt_23 ?_
  refine lv_topi (fun y6 ey6 => ?_)
  have by6 : y6.toInt = (xi4 5 3).toInt := congrArg Int32.toInt ey6
  refine cr_i (va_runV (As := [.int y6]) (rest := [.ref (ad 32)]) ⟨hx, hb, hml, hown, hts⟩ (sx_worthOn l dC dI cs ad xi4 ok H4 hP kl h1kl h2kl y6) (cwV 1 hts (wU_V mw_3_170 mw_4_20 mw_3_168 mw_3_169 mw_1_4) rfl rfl rfl (by decide +kernel) ⟨Nat.le_of_ble_eq_true rfl, Nat.le_of_ble_eq_true rfl⟩) ⟨sz_c, va_recv hK hP (ci := 3) (q0 := kl) rfl (gX_letter cs ad xi4 kl h1kl h2kl), sz_m hK hz⟩ rfl rfl hl.1 rfl (lv_room (Nat.le_of_ble_eq_true rfl)) dX5_lookAt_26 ⟨Nat.zero_le _, Nat.zero_le _⟩) hS (fun r7 hw7 locs hS => ?_)
  obtain ⟨hfe7, hw7⟩ := hw7
  refine va_put (D := (dC, dI)) (ci := 5) (v := .int r7) (ty := .int) (C := RX5) (T := TX5) (N := 15) hx hb hts inG5 tyX5 tyX5_ok nmX5 hown hK hP (wR_D xi4 hD) hS 32 (gX_32 cs ad xi4) rfl 8 (by decide) (hts _ (List.mem_cons_of_mem _ mw_2_56)) (fun _ h9 => h9) rfl (by decide +kernel) rfl rfl (Nat.le_of_ble_eq_true rfl) dX5_lookAt_29 (fun H locs hP _ hS => ?_)
  simp only [List.set_cons_succ, List.set_cons_zero] at hP
  refine wr_gen (upd (xi4 32) 8 r7) hP ((hX_32_8 cs ad _ _)) (fun nu8 hn8 hP => ?_)
  have ok := tX_32_8 ok hn8
  have ez9 : y6 = nu8 5 3 := ey6.trans (congrFun (up_k hn8 (by decide)) 3).symm
  have kp10 : (∀ k f : Nat, Nat.testBit 510 (gpX k f) = true → nu8 k f = mu k f) := kp_c 0 hn8 (fun _ => rfl) (by decide) kp5
  have ez11 : r7 = nu8 32 8 := up_v hn8
  refine lv_aload_n hx hb dX5_lookAt_32 rfl (lv_at hl 0 rfl) ?_
  refine lv_aload_n hx hb dX5_lookAt_33 rfl (lv_at hl 2 rfl) ?_
  refine va_get (D := (dC, dI)) (ci := 3) (v := .int (nu8 kl 3)) (C := RX3) (T := TX3) (N := 10) hx hb hts inG3 hown hK hP kl (gX_letter cs ad nu8 kl h1kl h2kl) rfl 3 (by decide) (hts _ (List.mem_cons_of_mem _ mw_1_59)) (fun _ h9 => h9) rfl dX5_lookAt_34 ?_
  refine lv_topi (fun y12 ey12 => ?_)
  have by12 : y12.toInt = (nu8 kl 3).toInt := congrArg Int32.toInt ey12
  refine va_put (D := (dC, dI)) (ci := 5) (v := .int y12) (ty := .int) (C := RX5) (T := TX5) (N := 15) hx hb hts inG5 tyX5 tyX5_ok nmX5 hown hK hP (wR_D nu8 hD) hS 32 (gX_32 cs ad nu8) rfl 9 (by decide) (hts _ (List.mem_cons_of_mem _ mw_2_57)) (fun _ h9 => h9) rfl (by decide +kernel) rfl rfl (Nat.le_of_ble_eq_true rfl) dX5_lookAt_37 (fun H locs hP _ hS => ?_)
  simp only [List.set_cons_succ, List.set_cons_zero] at hP
  refine wr_gen (upd (nu8 32) 9 y12) hP ((hX_32_9 cs ad _ _)) (fun nu13 hn13 hP => ?_)
  have ok := tX_32_9 ok hn13
  have ez14 : y6 = nu13 5 3 := ez9.trans (congrFun (up_k hn13 (by decide)) 3).symm
  have ez15 : r7 = nu13 32 8 := ez11.trans (up_f hn13 (by decide)).symm
  have ez16 : y12 = nu13 kl 3 := ey12.trans (congrFun (up_k hn13 (ne_lo (by decide) h1kl).symm) 3).symm
  have kp17 : (∀ k f : Nat, Nat.testBit 510 (gpX k f) = true → nu13 k f = mu k f) := kp_c 0 hn13 (fun _ => rfl) (by decide) kp10
  have ez18 : y12 = nu13 32 9 := up_v hn13
  refine lv_aload_n hx hb dX5_lookAt_40 rfl (lv_at hl 0 rfl) ?_
  refine lv_aload_n hx hb dX5_lookAt_41 rfl (lv_at hl 2 rfl) ?_
  refine va_get (D := (dC, dI)) (ci := 3) (v := .int (nu13 kl 7)) (C := RX3) (T := TX3) (N := 10) hx hb hts inG3 hown hK hP kl (gX_letter cs ad nu13 kl h1kl h2kl) rfl 7 (by decide) (hts _ (List.mem_cons_of_mem _ mw_1_72)) (fun _ h9 => h9) rfl dX5_lookAt_42 ?_
  refine lv_topi (fun y19 ey19 => ?_)
  have by19 : y19.toInt = (nu13 kl 7).toInt := congrArg Int32.toInt ey19
  refine lv_aload_n hx hb dX5_lookAt_45 rfl (lv_at hl 1 rfl) ?_
  refine va_get (D := (dC, dI)) (ci := 10) (v := .ref (ad 5)) (C := RX10) (T := TX10) (N := 8) hx hb hts inG10 hown hK hP 4 (gX_4 cs ad nu13) rfl 3 (by decide) (hts _ (List.mem_cons_of_mem _ mw_1_153)) (fun _ h9 => h9) rfl dX5_lookAt_46 ?_
  refine va_get (D := (dC, dI)) (ci := 8) (v := .int (nu13 5 3)) (C := RX8) (T := TX8) (N := 6) hx hb hts inG8 hown hK hP 5 (gX_5 cs ad nu13) rfl 3 (by decide) (hts _ (List.mem_cons_of_mem _ mw_1_119)) (fun _ h9 => h9) rfl dX5_lookAt_49 ?_
  refine lq_i y6 ez14.symm ?_
  refine lv_icmp_ne (tgt := 59) hx hb dX5_lookAt_52 (by decide) (fun c_20 => ?_) (fun c_20 => ?_)
  · have c_20 : ¬ y19.toInt = y6.toInt := il_ne c_20
    refine lv_iconst (v := 0) hx hb dX5_lookAt_59 (by decide) ?_
    refine va_put (D := (dC, dI)) (ci := 5) (v := .int 0) (ty := .int) (C := RX5) (T := TX5) (N := 15) hx hb hts inG5 tyX5 tyX5_ok nmX5 hown hK hP (wR_D nu13 hD) hS 32 (gX_32 cs ad nu13) rfl 10 (by decide) (hts _ (List.mem_cons_of_mem _ mw_2_58)) (fun _ h9 => h9) rfl (by decide +kernel) rfl rfl (Nat.le_of_ble_eq_true rfl) dX5_lookAt_60 (fun H locs hP _ hS => ?_)
    simp only [List.set_cons_succ, List.set_cons_zero] at hP
    refine wr_gen (upd (nu13 32) 10 0) hP ((hX_32_10 cs ad _ _)) (fun nu21 hn21 hP => ?_)
    have ok := tX_32_10 ok hn21
    have ez22 : y6 = nu21 5 3 := ez14.trans (congrFun (up_k hn21 (by decide)) 3).symm
    have ez23 : r7 = nu21 32 8 := ez15.trans (up_f hn21 (by decide)).symm
    have ez24 : y12 = nu21 kl 3 := ez16.trans (congrFun (up_k hn21 (ne_lo (by decide) h1kl).symm) 3).symm
    have ez25 : y12 = nu21 32 9 := ez18.trans (up_f hn21 (by decide)).symm
    have ez26 : y19 = nu21 kl 7 := ey19.trans (congrFun (up_k hn21 (ne_lo (by decide) h1kl).symm) 7).symm
    have kp27 : (∀ k f : Nat, Nat.testBit 510 (gpX k f) = true → nu21 k f = mu k f) := kp_c 0 hn21 (fun _ => rfl) (by decide) kp17
    have ez28 : 0 = nu21 32 10 := up_v hn21
    exact W.vret hx hb hr (fun t ht hW => ⟨⟨nu21, rfl, ⟨ok, trivial, kp27⟩, by first | (subst ht; exact hP) | (rw [ht]; exact hP) | (show va_P (dC, dI) vwCl (wR 157 ad (EX cs ad) nu21) t.heap; rw [ht]; exact hP)⟩, hS.F ht⟩) hS.2.2 dX5_lookAt_63
  · have c_20 : y19.toInt = y6.toInt := il_eq c_20
    refine lv_iconst (v := 1) hx hb dX5_lookAt_55 (by decide) ?_
    refine lv_goto (tgt := 60) hx hb dX5_lookAt_56 (by decide) ?_
    refine va_put (D := (dC, dI)) (ci := 5) (v := .int 1) (ty := .int) (C := RX5) (T := TX5) (N := 15) hx hb hts inG5 tyX5 tyX5_ok nmX5 hown hK hP (wR_D nu13 hD) hS 32 (gX_32 cs ad nu13) rfl 10 (by decide) (hts _ (List.mem_cons_of_mem _ mw_2_58)) (fun _ h9 => h9) rfl (by decide +kernel) rfl rfl (Nat.le_of_ble_eq_true rfl) dX5_lookAt_60 (fun H locs hP _ hS => ?_)
    simp only [List.set_cons_succ, List.set_cons_zero] at hP
    refine wr_gen (upd (nu13 32) 10 1) hP ((hX_32_10 cs ad _ _)) (fun nu29 hn29 hP => ?_)
    have ok := tX_32_10 ok hn29
    have ez30 : y6 = nu29 5 3 := ez14.trans (congrFun (up_k hn29 (by decide)) 3).symm
    have ez31 : r7 = nu29 32 8 := ez15.trans (up_f hn29 (by decide)).symm
    have ez32 : y12 = nu29 kl 3 := ez16.trans (congrFun (up_k hn29 (ne_lo (by decide) h1kl).symm) 3).symm
    have ez33 : y12 = nu29 32 9 := ez18.trans (up_f hn29 (by decide)).symm
    have ez34 : y19 = nu29 kl 7 := ey19.trans (congrFun (up_k hn29 (ne_lo (by decide) h1kl).symm) 7).symm
    have kp35 : (∀ k f : Nat, Nat.testBit 510 (gpX k f) = true → nu29 k f = mu k f) := kp_c 0 hn29 (fun _ => rfl) (by decide) kp17
    have ez36 : 1 = nu29 32 10 := up_v hn29
    exact W.vret hx hb hr (fun t ht hW => ⟨⟨nu29, rfl, ⟨ok, trivial, kp35⟩, by first | (subst ht; exact hP) | (rw [ht]; exact hP) | (show va_P (dC, dI) vwCl (wR 157 ad (EX cs ad) nu29) t.heap; rw [ht]; exact hP)⟩, hS.F ht⟩) hS.2.2 dX5_lookAt_63
