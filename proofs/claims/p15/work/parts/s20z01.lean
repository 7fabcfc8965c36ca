set_option maxHeartbeats 4000000 in
set_option maxRecDepth 100000 in
/-- qx_sell -/
theorem qx_sell (l : Launch) (dC : Nat → ClassId) (dI : Nat → Nat → Nat) (cs : Nat → ClassId) (ad : Nat → Nat) (mu : Nat → Nat → Int32) (ok : okR loX hiX mu) (H : Heap) (hP : va_P (dC, dI) vwCl (wR 157 ad (EX cs ad) mu) H) (hD0 : va_D (fun _ => True) (wR 157 ad (EX cs ad) mu)) (vk : Int32) (vx : Int32) : Met l yX11_sell (wU yX11_sell cX11_sell 6 (some .int)) ({ frames := 3, cells := 0, slots := 0, locals := 86 }) (va_Pc [.ref (ad 0), .int vk, .int vx] (sz_P (dC, dI) vwCl (tyW cs) H)) (va_Qi (fun (z : Int32) (xi : Nat → Nat → Int32) => (z, xi) = F_qx_sell mu vk vx ∧ okR loX hiX xi ∧ (True) ∧ (∀ k f : Nat, Nat.testBit 486 (gpX k f) = true → xi k f = mu k f)) (fun xi t => va_P (dC, dI) vwCl (wR 157 ad (EX cs ad) xi) t.heap) (va_A (wR 157 ad (EX cs ad) mu) H.size)) 0 0 (va_A (wR 157 ad (EX cs ad) mu) H.size) := by
  refine Met.ofW (cc := cX11_sell) (maxL := 6) (ret := (some .int)) (by decide) rfl ?_
  intro p e s m args below meth c s₁ B hml hv
  obtain ⟨rfl, hh, hK, hz⟩ := hv
  have hx := B.exec
  have hb := B.bytes
  have hr := B.returns
  have hts := atoms_spec (ws := (wU yX11_sell cX11_sell 6 (some .int))) B.pre
  have hown : s.vm.findClass RX11 = some m.cls := findClass_of_methodNamed B.named
  have hlocks := B.notSynchronized
  subst hh
  have hD := hD0.self (sz := s.heap.size)
  have hA : ∀ q : Nat, s.heap.size ≤ q → (va_A (wR 157 ad (EX cs ad) mu) s.heap.size) q := fun q h => Or.inr h
  have hS : va_S (va_A (wR 157 ad (EX cs ad) mu) s.heap.size) s.heap s.heap [] := va_S.rf
  have hl := lv_entry ([.ref (ad 0), .int vk, .int vx]) (n := 6) (Nat.le_of_ble_eq_true rfl)
  rw [lg_entry_eq]
  generalize (lg_sl ([.ref (ad 0), .int vk, .int vx]) ++ List.replicate (6 - (lg_sl ([.ref (ad 0), .int vk, .int vx])).length) Slot.unset).toArray = ls at hl ⊢
  have hl : lv_has ls 6 [(0, .ref (ad 0)), (1, .int vk), (2, .int vx)] := hl
  obtain ⟨fz, hfz⟩ : ∃ z, F_qx_sell mu vk vx = z := ⟨_, rfl⟩
  have hF := hfz
  unfold F_qx_sell at hF
  refine lv_aload_n hx hb dX11_sell_0 rfl (lv_at hl 0 rfl) ?_
  refine lv_iload_n hx hb dX11_sell_1 rfl (lv_at hl 1 rfl) ?_
  refine lv_aload_n hx hb dX11_sell_2 rfl (lv_at hl 0 rfl) ?_
  refine va_get (D := (dC, dI)) (ci := 11) (v := .ref (ad 4)) (C := RX11) (T := TX11) (N := 11) hx hb hts inG11 hown hK hP 0 (gX_0 cs ad mu) rfl 3 (by decide) (hts _ (List.mem_cons_of_mem _ mw_2_161)) (fun _ h9 => h9) rfl dX11_sell_3 ?_
  refine lv_iload_n hx hb dX11_sell_6 rfl (lv_at hl 2 rfl) ?_
  refine cr_i (va_runV (As := [.int vx]) (rest := [.int vk, .ref (ad 0)]) ⟨hx, hb, hml, hown, hts⟩ (sx_has l dC dI cs ad mu ok s.heap hP vx) (cwV 1 hts (wU_V mw_3_76 mw_3_73 mw_3_74 mw_3_75 mw_1_2) rfl rfl rfl (by decide +kernel) ⟨Nat.le_of_ble_eq_true rfl, Nat.le_of_ble_eq_true rfl⟩) ⟨sz_c, va_recv hK hP (ci := 10) (q0 := 4) rfl (gX_4 cs ad mu), sz_m hK hz⟩ rfl rfl hl.1 rfl (lv_room (Nat.le_of_ble_eq_true rfl)) dX11_sell_7 ⟨Nat.zero_le _, Nat.zero_le _⟩) hS (fun r1 hw1 locs hS => ?_)
  obtain ⟨hfe1, hw1⟩ := hw1
  rcases hw1 with ⟨rfl, f1⟩ | ⟨rfl, f1⟩
  · have hF := (if_pos hfe1.symm).symm.trans hF
    have f1 : 0 ≤ vx.toInt ∧ vx.toInt < (mu 4 6).toInt ∧ (mu 4 6).toInt ≤ 7 := f1
    refine lv_if_ne (tgt := 17) hx hb dX11_sell_10 (by decide) (fun _ => ?_) (fun c => absurd c (by decide))
    refine lv_iconst (v := 0) hx hb dX11_sell_17 (by decide) ?_
    have hFc := fr_all (wR_D mu hD) hS hA
    refine va_calli (va_runV (As := [.int vk, .int 0]) (rest := []) ⟨hx, hb, hml, hown, hts⟩ (sx_refusedLetter l dC dI cs ad mu ok s.heap hP ((wR_D mu hD).weaken (fun _ _ _ _ => trivial)) vk 0) (cwV 2 hts (wU_V mw_3_157 mw_3_154 mw_3_156 mw_0_8 mw_1_1) rfl rfl rfl (by decide +kernel) ⟨Nat.le_of_ble_eq_true rfl, Nat.le_of_ble_eq_true rfl⟩) ⟨sz_c, va_recv hK hP (ci := 11) (q0 := 0) rfl (gX_0 cs ad mu), sz_m hK hz⟩ rfl rfl hl.1 rfl (lv_room (Nat.le_of_ble_eq_true rfl)) dX11_sell_18 ⟨Nat.zero_le _, Nat.zero_le _⟩) hS (fun q _ h => hFc q h) hFc (fun r2 xi2 t H2 locs ht hvm hw2 hB hz1 hk1 hS => ?_)
    have hP : va_P (dC, dI) vwCl (wR 157 ad (EX cs ad) xi2) H2 := by rw [← ht]; exact hB
    obtain ⟨hfe2, hw2⟩ := hw2
    have hF := mi_letp hF hfe2
    rcases hw2 with ⟨rfl, hxi2, f2⟩ | ⟨z2, ok, hkp2_0⟩
    · have hF := (if_pos rfl).symm.trans hF
      have hP : va_P (dC, dI) vwCl (wR 157 ad (EX cs ad) mu) H2 := by rw [← hxi2]; exact hP
      have f2 : 0 ≤ vk.toInt ∧ vk.toInt < (mu 5 4).toInt ∧ (mu 5 4).toInt ≤ 4 ∧ (0 : Int) = 0 := f2
      refine lv_istore_n (lv' := [(3, .int 0), (0, .ref (ad 0)), (1, .int vk), (2, .int vx)]) hx hb dX11_sell_21 rfl hl (by decide) rfl (fun ls hl => ?_)
      refine lv_iload_n hx hb dX11_sell_22 rfl (lv_at hl 0 rfl) ?_
      refine lv_if_eq (tgt := 28) hx hb dX11_sell_23 (by decide) (fun _ => ?_) (fun c => absurd (by decide) c)
      refine lv_aload_n hx hb dX11_sell_28 rfl (lv_at hl 1 rfl) ?_
      refine va_get (D := (dC, dI)) (ci := 11) (v := .ref (ad 4)) (C := RX11) (T := TX11) (N := 11) hx hb hts inG11 hown hK hP 0 (gX_0 cs ad mu) rfl 3 (by decide) (hts _ (List.mem_cons_of_mem _ mw_2_161)) (fun _ h9 => h9) rfl dX11_sell_29 ?_
      refine va_get (D := (dC, dI)) (ci := 10) (v := .ref (ad 5)) (C := RX10) (T := TX10) (N := 8) hx hb hts inG10 hown hK hP 4 (gX_4 cs ad mu) rfl 3 (by decide) (hts _ (List.mem_cons_of_mem _ mw_1_157)) (fun _ h9 => h9) rfl dX11_sell_32 ?_
      refine va_get (D := (dC, dI)) (ci := 8) (v := .ref (ad 47)) (C := RX8) (T := TX8) (N := 6) hx hb hts inG8 hown hK hP 5 (gX_5 cs ad mu) rfl 1 (by decide) (hts _ (List.mem_cons_of_mem _ mw_1_112)) (fun _ h9 => h9) rfl dX11_sell_35 ?_
      refine lv_iload_n hx hb dX11_sell_38 rfl (lv_at hl 2 rfl) ?_
      have hx4 : 0 ≤ vk.toInt ∧ vk.toInt < ((4 : Nat) : Int) := ⟨by omega, by omega⟩
      refine va_aldq hx hb hK hP 47 5 (gX_47 cs ad mu) rfl (show vp_in vk 4 from vi_of hx4.1 hx4.2) dX11_sell_39 ?_
      have hk4 : 61 ≤ (61 + vk.toNatClampNeg) ∧ (61 + vk.toNatClampNeg) < 65 := ix_of hx4
      have hk4 : 61 ≤ (61 + vk.toNatClampNeg) ∧ (61 + vk.toNatClampNeg) < 77 := ⟨Nat.le_trans (by decide) hk4.1, Nat.lt_of_lt_of_le hk4.2 (by decide)⟩
      refine lq_v (.ref (ad (61 + vk.toNatClampNeg))) rfl ?_
      refine lv_astore (lv' := [(4, .ref (ad (61 + vk.toNatClampNeg))), (3, .int 0), (0, .ref (ad 0)), (1, .int vk), (2, .int vx)]) hx hb dX11_sell_40 hl (by decide) rfl (fun ls hl => ?_)
      refine lv_aload_n hx hb dX11_sell_42 rfl (lv_at hl 2 rfl) ?_
      refine va_get (D := (dC, dI)) (ci := 11) (v := .ref (ad 4)) (C := RX11) (T := TX11) (N := 11) hx hb hts inG11 hown hK hP 0 (gX_0 cs ad mu) rfl 3 (by decide) (hts _ (List.mem_cons_of_mem _ mw_2_161)) (fun _ h9 => h9) rfl dX11_sell_43 ?_
      refine lv_aload hx hb dX11_sell_46 (lv_at hl 0 rfl) ?_
      refine cr_i (va_runV (As := [.ref (ad (61 + vk.toNatClampNeg))]) (rest := []) ⟨hx, hb, hml, hown, hts⟩ (sx_buyersOf l dC dI cs ad mu ok H2 hP (61 + vk.toNatClampNeg) hk4.1 hk4.2) (cwV 1 hts (wU_V mw_3_161 mw_3_158 mw_3_159 mw_3_160 mw_1_2) rfl rfl rfl (by decide +kernel) ⟨Nat.le_of_ble_eq_true rfl, Nat.le_of_ble_eq_true rfl⟩) ⟨sz_c, va_recv hK hP (ci := 10) (q0 := 4) rfl (gX_4 cs ad mu), sz_m hK hz⟩ rfl rfl hl.1 rfl (lv_room (Nat.le_of_ble_eq_true rfl)) dX11_sell_48 ⟨Nat.zero_le _, Nat.zero_le _⟩) hS (fun r5 hw5 locs hS => ?_)
      obtain ⟨hfe5, hw5⟩ := hw5
      have hF := mi_let hF hfe5
      refine lv_iload_n hx hb dX11_sell_51 rfl (lv_at hl 4 rfl) ?_
      refine cr_i (va_runS (As := [.int r5, .int vx]) (rest := []) ⟨hx, hb, hml, hown, hts⟩ (sx_hasBit l dC dI (tyW cs) H2 r5 vx) (va_cwS 2 hts (wU_S mw_3_87 mw_3_174 mw_3_86 mw_1_1) rfl rfl rfl (by decide +kernel) ⟨Nat.le_of_ble_eq_true rfl, Nat.le_of_ble_eq_true rfl⟩) ⟨sz_c, sz_m hK hz⟩ rfl rfl hl.1 rfl (lv_room (Nat.le_of_ble_eq_true rfl)) dX11_sell_52 ⟨Nat.zero_le _, Nat.zero_le _⟩) hS (fun r6 hw6 locs hS => ?_)
      obtain ⟨hfe6, hw6⟩ := hw6
      have hF := mi_let hF hfe6
      have gr6 : 0 ≤ r6.toInt ∧ r6.toInt ≤ 1 := hw6
      refine lv_if_ne (tgt := 61) hx hb dX11_sell_55 (by decide) (fun c_7 => ?_) (fun c_7 => ?_)
      · have hF := (if_neg c_7).symm.trans hF
        have c_7 : ¬ r6.toInt = 0 := il_ne c_7
        refine lv_aload_n hx hb dX11_sell_61 rfl (lv_at hl 2 rfl) ?_
        refine va_get (D := (dC, dI)) (ci := 11) (v := .ref (ad 6)) (C := RX11) (T := TX11) (N := 11) hx hb hts inG11 hown hK hP 0 (gX_0 cs ad mu) rfl 5 (by decide) (hts _ (List.mem_cons_of_mem _ mw_2_163)) (fun _ h9 => h9) rfl dX11_sell_62 ?_
        refine cr_i (va_runV (As := []) (rest := []) ⟨hx, hb, hml, hown, hts⟩ (sx_isFull l dC dI cs ad mu ok H2 hP) (cwV 0 hts (wU_V mw_3_178 mw_3_175 mw_3_176 mw_3_177 mw_1_6) rfl rfl rfl (by decide +kernel) ⟨Nat.le_of_ble_eq_true rfl, Nat.le_of_ble_eq_true rfl⟩) ⟨sz_c, va_recv hK hP (ci := 2) (q0 := 6) rfl (gX_6 cs ad mu), sz_m hK hz⟩ rfl rfl hl.1 rfl (lv_room (Nat.le_of_ble_eq_true rfl)) dX11_sell_65 ⟨Nat.zero_le _, Nat.zero_le _⟩) hS (fun r8 hw8 locs hS => ?_)
        obtain ⟨hfe8, hw8⟩ := hw8
        rcases hw8 with ⟨rfl, f8⟩ | ⟨rfl, f8⟩
        · have hF := (if_pos hfe8.symm).symm.trans hF
          have f8 : 40 ≤ (mu 6 1).toInt := f8
          refine lv_if_eq (tgt := 74) hx hb dX11_sell_68 (by decide) (fun c => absurd c (by decide)) (fun _ => ?_)
          refine lv_bipush (v := (-2)) hx hb dX11_sell_71 (by decide) ?_
          exact W.iret (v := (-2)) hx hb hr (fun t ht hW => ⟨⟨(-2), mu, rfl, ⟨hF.trans hfz.symm, ok, trivial, (fun _ _ _ => rfl)⟩, by first | (subst ht; exact hP) | (rw [ht]; exact hP) | (show va_P (dC, dI) vwCl (wR 157 ad (EX cs ad) mu) t.heap; rw [ht]; exact hP)⟩, hS.F ht⟩) hS.2.2 dX11_sell_73
        · have hF := (if_neg (fun h => absurd (hfe8.trans h) (by decide))).symm.trans hF
          have f8 : (mu 6 1).toInt ≤ 39 := f8
          refine lv_if_eq (tgt := 74) hx hb dX11_sell_68 (by decide) (fun _ => ?_) (fun c => absurd (by decide) c)
          refine lv_aload_n hx hb dX11_sell_74 rfl (lv_at hl 2 rfl) ?_
          refine va_get (D := (dC, dI)) (ci := 11) (v := .ref (ad 6)) (C := RX11) (T := TX11) (N := 11) hx hb hts inG11 hown hK hP 0 (gX_0 cs ad mu) rfl 5 (by decide) (hts _ (List.mem_cons_of_mem _ mw_2_163)) (fun _ h9 => h9) rfl dX11_sell_75 ?_
          refine lv_aload_n hx hb dX11_sell_78 rfl (lv_at hl 2 rfl) ?_
          refine va_get (D := (dC, dI)) (ci := 11) (v := .ref (ad 4)) (C := RX11) (T := TX11) (N := 11) hx hb hts inG11 hown hK hP 0 (gX_0 cs ad mu) rfl 3 (by decide) (hts _ (List.mem_cons_of_mem _ mw_2_161)) (fun _ h9 => h9) rfl dX11_sell_79 ?_
          refine lv_iload_n hx hb dX11_sell_82 rfl (lv_at hl 3 rfl) ?_
          refine lv_iload_n hx hb dX11_sell_83 rfl (lv_at hl 4 rfl) ?_
          have hFc := fr_all (wR_D mu hD) hS hA
          refine va_calli (va_runV (As := [.ref (ad 4), .int vk, .int vx]) (rest := []) ⟨hx, hb, hml, hown, hts⟩ (sx_enterSale l dC dI cs ad mu ok H2 hP ((wR_D mu hD).weaken (fun _ _ _ _ => trivial)) vk vx (by omega) (by omega)) (cwV 3 hts (wU_V mw_3_182 mw_3_179 mw_3_180 mw_3_181 mw_1_6) rfl rfl rfl (by decide +kernel) ⟨Nat.le_of_ble_eq_true rfl, Nat.le_of_ble_eq_true rfl⟩) ⟨sz_c, va_recv hK hP (ci := 2) (q0 := 6) rfl (gX_6 cs ad mu), sz_m hK hz⟩ rfl rfl hl.1 rfl (lv_room (Nat.le_of_ble_eq_true rfl)) dX11_sell_84 ⟨Nat.zero_le _, Nat.zero_le _⟩) hS (fun q _ h => hFc q h) hFc (fun r9 xi9 t H9 locs ht hvm hw9 hB hz1 hk1 hS => ?_)
          have hP : va_P (dC, dI) vwCl (wR 157 ad (EX cs ad) xi9) H9 := by rw [← ht]; exact hB
          obtain ⟨hfe9, ok, hw9, hkp9_0⟩ := hw9
          have hF := mi_letp hF hfe9
          have kp10 : (∀ k f : Nat, Nat.testBit 486 (gpX k f) = true → xi9 k f = mu k f) := kp_t hkp9_0 (by decide) (fun _ _ _ => rfl)
          refine lv_istore (lv' := [(5, .int r9), (4, .ref (ad (61 + vk.toNatClampNeg))), (3, .int 0), (0, .ref (ad 0)), (1, .int vk), (2, .int vx)]) hx hb dX11_sell_87 hl (by decide) rfl (fun ls hl => ?_)
          refine lv_aload hx hb dX11_sell_89 (lv_at hl 1 rfl) ?_
          refine va_get (D := (dC, dI)) (ci := 3) (v := .int (xi9 (61 + vk.toNatClampNeg) 9)) (C := RX3) (T := TX3) (N := 10) hx hb hts inG3 hown hK hP (61 + vk.toNatClampNeg) (gX_letter cs ad xi9 (61 + vk.toNatClampNeg) hk4.1 hk4.2) rfl 9 (by decide) (hts _ (List.mem_cons_of_mem _ mw_1_80)) (fun _ h9 => h9) rfl dX11_sell_91 ?_
          refine lv_topi (fun y11 ey11 => ?_)
          have hF := mi_let hF ey11
          have by11 : y11.toInt = (xi9 (61 + vk.toNatClampNeg) 9).toInt := congrArg Int32.toInt ey11
          have gy11 : 0 ≤ y11.toInt ∧ y11.toInt ≤ 1 := by rw [ey11]; exact rX_letter_9 ok (61 + vk.toNatClampNeg) hk4.1 hk4.2
          refine lv_if_eq (tgt := 106) hx hb dX11_sell_94 (by decide) (fun c_12 => ?_) (fun c_12 => ?_)
          · have hF := (if_pos c_12).symm.trans hF
            have c_12 : y11.toInt = 0 := il_eq c_12
            refine lv_iload hx hb dX11_sell_106 (lv_at hl 0 rfl) ?_
            exact W.iret (v := r9) hx hb hr (fun t ht hW => ⟨⟨r9, xi9, rfl, ⟨hF.trans hfz.symm, ok, trivial, kp10⟩, by first | (subst ht; exact hP) | (rw [ht]; exact hP) | (show va_P (dC, dI) vwCl (wR 157 ad (EX cs ad) xi9) t.heap; rw [ht]; exact hP)⟩, hS.F ht⟩) hS.2.2 dX11_sell_108
          · have hF := (if_neg c_12).symm.trans hF
            have c_12 : ¬ y11.toInt = 0 := il_ne c_12
            refine lv_iload hx hb dX11_sell_97 (lv_at hl 0 rfl) ?_
            refine lv_sipush (v := 1000) hx hb dX11_sell_99 (by decide) ?_
            refine lv_iadd hx hb dX11_sell_102 ?_
            refine lv_topi (fun t13 et13 => ?_)
            have hF := mi_let hF et13
            refine lv_goto (tgt := 108) hx hb dX11_sell_103 (by decide) ?_
            exact W.iret (v := t13) hx hb hr (fun t ht hW => ⟨⟨t13, xi9, rfl, ⟨hF.trans hfz.symm, ok, trivial, kp10⟩, by first | (subst ht; exact hP) | (rw [ht]; exact hP) | (show va_P (dC, dI) vwCl (wR 157 ad (EX cs ad) xi9) t.heap; rw [ht]; exact hP)⟩, hS.F ht⟩) hS.2.2 dX11_sell_108
      · have hF := (if_pos c_7).symm.trans hF
        have c_7 : r6.toInt = 0 := il_eq c_7
        refine lv_bipush (v := (-4)) hx hb dX11_sell_58 (by decide) ?_
        exact W.iret (v := (-4)) hx hb hr (fun t ht hW => ⟨⟨(-4), mu, rfl, ⟨hF.trans hfz.symm, ok, trivial, (fun _ _ _ => rfl)⟩, by first | (subst ht; exact hP) | (rw [ht]; exact hP) | (show va_P (dC, dI) vwCl (wR 157 ad (EX cs ad) mu) t.heap; rw [ht]; exact hP)⟩, hS.F ht⟩) hS.2.2 dX11_sell_60
    · have hF := (if_neg (show ¬ r2 = 0 from fun h => by have h9 := congrArg Int32.toInt h; have h8 : (0 : Int32).toInt = 0 := rfl; omega)).symm.trans hF
      have kp3 : (∀ k f : Nat, Nat.testBit 486 (gpX k f) = true → xi2 k f = mu k f) := kp_t hkp2_0 (by decide) (fun _ _ _ => rfl)
      skip
      refine lv_istore_n (lv' := [(3, .int r2), (0, .ref (ad 0)), (1, .int vk), (2, .int vx)]) hx hb dX11_sell_21 rfl hl (by decide) rfl (fun ls hl => ?_)
      refine lv_iload_n hx hb dX11_sell_22 rfl (lv_at hl 0 rfl) ?_
      refine lv_if_eq (tgt := 28) hx hb dX11_sell_23 (by decide) (fun c_14 => by have c_14 : r2.toInt = 0 := il_eq c_14; exfalso; omega) (fun c_14 => ?_)
      have c_14 : ¬ r2.toInt = 0 := il_ne c_14
      refine lv_iload_n hx hb dX11_sell_26 rfl (lv_at hl 0 rfl) ?_
      exact W.iret (v := r2) hx hb hr (fun t ht hW => ⟨⟨r2, xi2, rfl, ⟨hF.trans hfz.symm, ok, trivial, kp3⟩, by first | (subst ht; exact hP) | (rw [ht]; exact hP) | (show va_P (dC, dI) vwCl (wR 157 ad (EX cs ad) xi2) t.heap; rw [ht]; exact hP)⟩, hS.F ht⟩) hS.2.2 dX11_sell_27
  · have hF := (if_neg (fun h => absurd (hfe1.trans h) (by decide))).symm.trans hF
    have f1 : vx.toInt < 0 ∨ (mu 4 6).toInt ≤ vx.toInt := f1
    refine lv_if_ne (tgt := 17) hx hb dX11_sell_10 (by decide) (fun c => absurd (by decide) c) (fun _ => ?_)
    refine lv_iconst (v := 1) hx hb dX11_sell_13 (by decide) ?_
    refine lv_goto (tgt := 18) hx hb dX11_sell_14 (by decide) ?_
    have hFc := fr_all (wR_D mu hD) hS hA
    refine va_calli (va_runV (As := [.int vk, .int 1]) (rest := []) ⟨hx, hb, hml, hown, hts⟩ (sx_refusedLetter l dC dI cs ad mu ok s.heap hP ((wR_D mu hD).weaken (fun _ _ _ _ => trivial)) vk 1) (cwV 2 hts (wU_V mw_3_157 mw_3_154 mw_3_156 mw_0_8 mw_1_1) rfl rfl rfl (by decide +kernel) ⟨Nat.le_of_ble_eq_true rfl, Nat.le_of_ble_eq_true rfl⟩) ⟨sz_c, va_recv hK hP (ci := 11) (q0 := 0) rfl (gX_0 cs ad mu), sz_m hK hz⟩ rfl rfl hl.1 rfl (lv_room (Nat.le_of_ble_eq_true rfl)) dX11_sell_18 ⟨Nat.zero_le _, Nat.zero_le _⟩) hS (fun q _ h => hFc q h) hFc (fun r15 xi15 t H15 locs ht hvm hw15 hB hz1 hk1 hS => ?_)
    have hP : va_P (dC, dI) vwCl (wR 157 ad (EX cs ad) xi15) H15 := by rw [← ht]; exact hB
    obtain ⟨hfe15, hw15⟩ := hw15
    have hF := mi_letp hF hfe15
    rcases hw15 with ⟨rfl, hxi15, f15⟩ | ⟨z15, ok, hkp15_0⟩
    · have f15 : 0 ≤ vk.toInt ∧ vk.toInt < (mu 5 4).toInt ∧ (mu 5 4).toInt ≤ 4 ∧ (1 : Int) = 0 := f15
      exfalso
      have h9 : (1 : Int32).toInt = 1 := rfl
      omega
    · have hF := (if_neg (show ¬ r15 = 0 from fun h => by have h9 := congrArg Int32.toInt h; have h8 : (0 : Int32).toInt = 0 := rfl; omega)).symm.trans hF
      have kp16 : (∀ k f : Nat, Nat.testBit 486 (gpX k f) = true → xi15 k f = mu k f) := kp_t hkp15_0 (by decide) (fun _ _ _ => rfl)
      skip
      refine lv_istore_n (lv' := [(3, .int r15), (0, .ref (ad 0)), (1, .int vk), (2, .int vx)]) hx hb dX11_sell_21 rfl hl (by decide) rfl (fun ls hl => ?_)
      refine lv_iload_n hx hb dX11_sell_22 rfl (lv_at hl 0 rfl) ?_
      refine lv_if_eq (tgt := 28) hx hb dX11_sell_23 (by decide) (fun c_17 => by have c_17 : r15.toInt = 0 := il_eq c_17; exfalso; omega) (fun c_17 => ?_)
      have c_17 : ¬ r15.toInt = 0 := il_ne c_17
      refine lv_iload_n hx hb dX11_sell_26 rfl (lv_at hl 0 rfl) ?_
      exact W.iret (v := r15) hx hb hr (fun t ht hW => ⟨⟨r15, xi15, rfl, ⟨hF.trans hfz.symm, ok, trivial, kp16⟩, by first | (subst ht; exact hP) | (rw [ht]; exact hP) | (show va_P (dC, dI) vwCl (wR 157 ad (EX cs ad) xi15) t.heap; rw [ht]; exact hP)⟩, hS.F ht⟩) hS.2.2 dX11_sell_27
