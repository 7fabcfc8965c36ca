set_option maxHeartbeats 4000000 in
set_option maxRecDepth 100000 in
/-- sm_canSell -/
theorem sm_canSell (l : Launch) (dC : Nat → ClassId) (dI : Nat → Nat → Nat) (cs : Nat → ClassId) (ad : Nat → Nat) (mu : Nat → Nat → Int32) (ok : okR loM hiM mu) (H : Heap) (hP : va_P (dC, dI) vwCl (wR 21 ad (EM cs ad) mu) H) (vk : Int32) (hin0 : 0 ≤ vk.toInt ∧ vk.toInt ≤ 3) : Met l yX12_canSell (wU yX12_canSell cX12_canSell 8 (some .int)) ({ frames := 2, cells := 0, slots := 0, locals := 46 }) (va_Pc [.ref (ad 0), .int vk] (sz_P (dC, dI) vwCl (tyM cs) H)) (va_Qi (fun (z : Int32) (_ : Unit) => z = F_sm_canSell mu vk ∧ (0 ≤ z.toInt ∧ z.toInt ≤ 127)) (fun _ t => t.heap = H) (fun _ => False)) 0 0 (fun _ => False) := by
  refine Met.ofW (cc := cX12_canSell) (maxL := 8) (ret := (some .int)) (by decide) rfl ?_
  intro p e s m args below meth c s₁ B hml hv
  obtain ⟨rfl, hh, hK, hz⟩ := hv
  have hx := B.exec
  have hb := B.bytes
  have hr := B.returns
  have hts := atoms_spec (ws := (wU yX12_canSell cX12_canSell 8 (some .int))) B.pre
  have hown : s.vm.findClass RX12 = some m.cls := findClass_of_methodNamed B.named
  have hlocks := B.notSynchronized
  subst hh
  have hS : va_S (fun _ => False) s.heap s.heap [] := va_S.rf
  have hl := lv_entry ([.ref (ad 0), .int vk]) (n := 8) (Nat.le_of_ble_eq_true rfl)
  rw [lg_entry_eq]
  generalize (lg_sl ([.ref (ad 0), .int vk]) ++ List.replicate (8 - (lg_sl ([.ref (ad 0), .int vk])).length) Slot.unset).toArray = ls at hl ⊢
  have hl : lv_has ls 8 [(0, .ref (ad 0)), (1, .int vk)] := hl
  obtain ⟨fz, hfz⟩ : ∃ z, F_sm_canSell mu vk = z := ⟨_, rfl⟩
  have hF := hfz
  unfold F_sm_canSell at hF
  refine lv_aload_n hx hb dX12_canSell_0 rfl (lv_at hl 0 rfl) ?_
  refine lv_iload_n hx hb dX12_canSell_1 rfl (lv_at hl 1 rfl) ?_
  refine cr_i (va_runV (As := [.int vk]) (rest := []) ⟨hx, hb, hml, hown, hts⟩ (sm_isRead l dC dI cs ad mu ok s.heap hP vk (by omega)) (cwV 1 hts (wU_V mw_6_52 mw_6_49 mw_6_51 mw_0_39 mw_1_13) rfl rfl rfl (by decide +kernel) ⟨Nat.le_of_ble_eq_true rfl, Nat.le_of_ble_eq_true rfl⟩) ⟨sz_c, va_recv hK hP (ci := 12) (q0 := 0) rfl (gM_0 cs ad mu), sz_m hK hz⟩ rfl rfl hl.1 rfl (lv_room (Nat.le_of_ble_eq_true rfl)) dX12_canSell_2 ⟨Nat.zero_le _, Nat.zero_le _⟩) hS (fun r1 hw1 locs hS => ?_)
  obtain ⟨hfe1, hw1⟩ := hw1
  have hF := mi_let hF hfe1
  have gr1 : 0 ≤ r1.toInt ∧ r1.toInt ≤ 1 := hw1
  refine lv_if_ne (tgt := 22) hx hb dX12_canSell_5 (by decide) (fun c_2 => ?_) (fun c_2 => ?_)
  · have hF := (if_neg c_2).symm.trans hF
    have c_2 : ¬ r1.toInt = 0 := il_ne c_2
    refine lv_iconst (v := 0) hx hb dX12_canSell_22 (by decide) ?_
    exact W.iret (v := 0) hx hb hr (fun t ht hW => ⟨⟨0, (), rfl, ⟨hF.trans hfz.symm, (by have h6 : (0 : Int32).toInt = 0 := rfl; omega)⟩, ht⟩, hS.F ht⟩) hS.2.2 dX12_canSell_23
  · have hF := (if_pos c_2).symm.trans hF
    have c_2 : r1.toInt = 0 := il_eq c_2
    refine lv_aload_n hx hb dX12_canSell_8 rfl (lv_at hl 0 rfl) ?_
    refine lv_iload_n hx hb dX12_canSell_9 rfl (lv_at hl 1 rfl) ?_
    refine lv_bipush (v := 8) hx hb dX12_canSell_10 (by decide) ?_
    refine cr_i (va_runV (As := [.int vk, .int 8]) (rest := []) ⟨hx, hb, hml, hown, hts⟩ (sm_letterOf l dC dI cs ad mu ok s.heap hP vk 8 (by have h51 : (8 : Int32).toInt = 8 := rfl; omega)) (cwV 2 hts (wU_V mw_6_48 mw_6_45 mw_6_47 mw_0_38 mw_1_13) rfl rfl rfl (by decide +kernel) ⟨Nat.le_of_ble_eq_true rfl, Nat.le_of_ble_eq_true rfl⟩) ⟨sz_c, va_recv hK hP (ci := 12) (q0 := 0) rfl (gM_0 cs ad mu), sz_m hK hz⟩ rfl rfl hl.1 rfl (lv_room (Nat.le_of_ble_eq_true rfl)) dX12_canSell_12 ⟨Nat.zero_le _, Nat.zero_le _⟩) hS (fun r3 hw3 locs hS => ?_)
    obtain ⟨hfe3, hw3⟩ := hw3
    have hF := mi_let hF hfe3
    refine lv_aload_n hx hb dX12_canSell_15 rfl (lv_at hl 0 rfl) ?_
    refine va_get (D := (dC, dI)) (ci := 12) (v := .int (mu 0 14)) (C := RX12) (T := TX12) (N := 46) hx hb hts inG12 hown hK hP 0 (gM_0 cs ad mu) rfl 14 (by decide) (hts _ (List.mem_cons_of_mem _ mw_5_55)) (fun _ h9 => h9) rfl dX12_canSell_16 ?_
    refine lv_topi (fun y4 ey4 => ?_)
    have hF := mi_let hF ey4
    have by4 : y4.toInt = (mu 0 14).toInt := congrArg Int32.toInt ey4
    refine lv_icmp_ne (tgt := 24) hx hb dX12_canSell_19 (by decide) (fun c_5 => ?_) (fun c_5 => ?_)
    · have hF := (if_neg c_5).symm.trans hF
      have c_5 : ¬ r3.toInt = y4.toInt := il_ne c_5
      refine lv_aload_n hx hb dX12_canSell_24 rfl (lv_at hl 0 rfl) ?_
      refine lv_aload_n hx hb dX12_canSell_25 rfl (lv_at hl 0 rfl) ?_
      refine lv_iload_n hx hb dX12_canSell_26 rfl (lv_at hl 1 rfl) ?_
      refine lv_iconst (v := 5) hx hb dX12_canSell_27 (by decide) ?_
      refine cr_i (va_runV (As := [.int vk, .int 5]) (rest := [.ref (ad 0)]) ⟨hx, hb, hml, hown, hts⟩ (sm_letterOf5 l dC dI cs ad mu ok s.heap hP vk (by have h51 : (5 : Int32).toInt = 5 := rfl; omega)) (cwV 2 hts (wU_V mw_6_48 mw_6_45 mw_6_47 mw_0_38 mw_1_13) rfl rfl rfl (by decide +kernel) ⟨Nat.le_of_ble_eq_true rfl, Nat.le_of_ble_eq_true rfl⟩) ⟨sz_c, va_recv hK hP (ci := 12) (q0 := 0) rfl (gM_0 cs ad mu), sz_m hK hz⟩ rfl rfl hl.1 rfl (lv_room (Nat.le_of_ble_eq_true rfl)) dX12_canSell_28 ⟨Nat.zero_le _, Nat.zero_le _⟩) hS (fun r6 hw6 locs hS => ?_)
      obtain ⟨hfe6, hw6⟩ := hw6
      have hF := mi_let hF hfe6
      have gr6 : 0 ≤ r6.toInt ∧ r6.toInt ≤ 6 := hw6
      refine cr_i (va_runV (As := [.int r6]) (rest := []) ⟨hx, hb, hml, hown, hts⟩ (sm_besideOf l dC dI cs ad mu ok s.heap hP r6) (cwV 1 hts (wU_V mw_6_56 mw_6_53 mw_6_55 mw_0_40 mw_1_13) rfl rfl rfl (by decide +kernel) ⟨Nat.le_of_ble_eq_true rfl, Nat.le_of_ble_eq_true rfl⟩) ⟨sz_c, va_recv hK hP (ci := 12) (q0 := 0) rfl (gM_0 cs ad mu), sz_m hK hz⟩ rfl rfl hl.1 rfl (lv_room (Nat.le_of_ble_eq_true rfl)) dX12_canSell_31 ⟨Nat.zero_le _, Nat.zero_le _⟩) hS (fun r7 hw7 locs hS => ?_)
      obtain ⟨hfe7, hw7⟩ := hw7
      have hF := mi_let hF hfe7
      refine lv_istore_n (lv' := [(2, .int r7), (0, .ref (ad 0)), (1, .int vk)]) hx hb dX12_canSell_34 rfl hl (by decide) rfl (fun ls hl => ?_)
      refine lv_aload_n hx hb dX12_canSell_35 rfl (lv_at hl 1 rfl) ?_
      refine lv_iload_n hx hb dX12_canSell_36 rfl (lv_at hl 2 rfl) ?_
      refine cr_i (va_runV (As := [.int vk]) (rest := []) ⟨hx, hb, hml, hown, hts⟩ (sm_priceOf l dC dI cs ad mu ok s.heap hP vk (by omega)) (cwV 1 hts (wU_V mw_6_122 mw_6_119 mw_6_121 mw_0_48 mw_1_13) rfl rfl rfl (by decide +kernel) ⟨Nat.le_of_ble_eq_true rfl, Nat.le_of_ble_eq_true rfl⟩) ⟨sz_c, va_recv hK hP (ci := 12) (q0 := 0) rfl (gM_0 cs ad mu), sz_m hK hz⟩ rfl rfl hl.1 rfl (lv_room (Nat.le_of_ble_eq_true rfl)) dX12_canSell_37 ⟨Nat.zero_le _, Nat.zero_le _⟩) hS (fun r8 hw8 locs hS => ?_)
      obtain ⟨hfe8, hw8⟩ := hw8
      have hF := mi_let hF hfe8
      refine lv_istore_n (lv' := [(3, .int r8), (2, .int r7), (0, .ref (ad 0)), (1, .int vk)]) hx hb dX12_canSell_40 rfl hl (by decide) rfl (fun ls hl => ?_)
      refine lv_iconst (v := 0) hx hb dX12_canSell_41 (by decide) ?_
      refine lv_istore (lv' := [(4, .int 0), (3, .int r8), (2, .int r7), (0, .ref (ad 0)), (1, .int vk)]) hx hb dX12_canSell_42 hl (by decide) rfl (fun ls hl => ?_)
      refine lv_iconst (v := 0) hx hb dX12_canSell_44 (by decide) ?_
      refine lv_istore (lv' := [(5, .int 0), (4, .int 0), (3, .int r8), (2, .int r7), (0, .ref (ad 0)), (1, .int vk)]) hx hb dX12_canSell_45 hl (by decide) rfl (fun ls hl => ?_)
      have loop47 : ∀ (n47 : Nat) (v4_47 : Int32) (v5_47 : Int32) (locs : List Loc) (ls : Array Slot), (7 + 1 - v5_47.toInt).toNat < n47 → (0 ≤ v4_47.toInt ∧ v4_47.toInt ≤ 127) → (0 ≤ v5_47.toInt ∧ v5_47.toInt ≤ 7) → L_sm_canSell_47_0 mu r7 r8 vk n47 v4_47 v5_47 = fz → va_S (fun _ => False) s.heap s.heap locs → lv_has ls 8 [(5, .int v5_47), (4, .int v4_47), (3, .int r8), (2, .int r7), (0, .ref (ad 0)), (1, .int vk)] → W p l e (headSpec (wU yX12_canSell cX12_canSell 8 (some .int)) ({ frames := 2, cells := 0, slots := 0, locals := 46 })).room s m ([.ref (ad 0), .int vk] : List Value).toArray below meth c s.heap locs 0 0 (MQ below (va_Qi (fun (z : Int32) (_ : Unit) => z = F_sm_canSell mu vk ∧ (0 ≤ z.toInt ∧ z.toInt ≤ 127)) (fun _ t => t.heap = s.heap) (fun _ => False)) ([.ref (ad 0), .int vk] : List Value).toArray s 0 0 (fun _ => False)) (F0 m 47 ls []) := by
        intro n47
        induction n47 with
        | zero => intro v4_47 v5_47 locs ls hm; exact absurd hm (Nat.not_lt_zero _)
        | succ n47 ih47 =>
          intro v4_47 v5_47 locs ls hm h_v4_47 h_v5_47 hF hS hl
          rw [L_sm_canSell_47_0] at hF
          refine lv_iload hx hb dX12_canSell_47 (lv_at hl 0 rfl) ?_
          refine lv_aload_n hx hb dX12_canSell_49 rfl (lv_at hl 4 rfl) ?_
          refine va_get (D := (dC, dI)) (ci := 12) (v := .int (mu 0 8)) (C := RX12) (T := TX12) (N := 46) hx hb hts inG12 hown hK hP 0 (gM_0 cs ad mu) rfl 8 (by decide) (hts _ (List.mem_cons_of_mem _ mw_5_49)) (fun _ h9 => h9) rfl dX12_canSell_50 ?_
          refine lv_topi (fun y9 ey9 => ?_)
          have hF := mi_let hF ey9
          have by9 : y9.toInt = (mu 0 8).toInt := congrArg Int32.toInt ey9
          have gy9 : 0 ≤ y9.toInt ∧ y9.toInt ≤ 7 := by rw [ey9]; exact rM_0_8 ok
          refine lv_icmp_ge (tgt := 159) hx hb dX12_canSell_53 (by decide) (fun c_10 => ?_) (fun c_10 => ?_)
          · have hF := (if_pos c_10).symm.trans hF
            have c_10 : y9.toInt ≤ v5_47.toInt := il_le c_10
            refine lv_iload hx hb dX12_canSell_159 (lv_at hl 1 rfl) ?_
            exact W.iret (v := v4_47) hx hb hr (fun t ht hW => ⟨⟨v4_47, (), rfl, ⟨hF.trans hfz.symm, (by omega)⟩, ht⟩, hS.F ht⟩) hS.2.2 dX12_canSell_161
          · have hF := (if_neg c_10).symm.trans hF
            have c_10 : v5_47.toInt < y9.toInt := il_nle c_10
            refine lv_iload hx hb dX12_canSell_56 (lv_at hl 0 rfl) ?_
            refine lv_aload_n hx hb dX12_canSell_58 rfl (lv_at hl 4 rfl) ?_
            refine lv_iload_n hx hb dX12_canSell_59 rfl (lv_at hl 5 rfl) ?_
            refine lv_iconst (v := 1) hx hb dX12_canSell_60 (by decide) ?_
            refine cr_i (va_runV (As := [.int vk, .int 1]) (rest := [.int v5_47]) ⟨hx, hb, hml, hown, hts⟩ (sm_letterOf l dC dI cs ad mu ok s.heap hP vk 1 (by have h51 : (1 : Int32).toInt = 1 := rfl; omega)) (cwV 2 hts (wU_V mw_6_48 mw_6_45 mw_6_47 mw_0_38 mw_1_13) rfl rfl rfl (by decide +kernel) ⟨Nat.le_of_ble_eq_true rfl, Nat.le_of_ble_eq_true rfl⟩) ⟨sz_c, va_recv hK hP (ci := 12) (q0 := 0) rfl (gM_0 cs ad mu), sz_m hK hz⟩ rfl rfl hl.1 rfl (lv_room (Nat.le_of_ble_eq_true rfl)) dX12_canSell_61 ⟨Nat.zero_le _, Nat.zero_le _⟩) hS (fun r11 hw11 locs hS => ?_)
            obtain ⟨hfe11, hw11⟩ := hw11
            have hF := mi_let hF hfe11
            refine lv_icmp_ne (tgt := 71) hx hb dX12_canSell_64 (by decide) (fun c_12 => ?_) (fun c_12 => ?_)
            · have hF := (if_neg c_12).symm.trans hF
              have c_12 : ¬ v5_47.toInt = r11.toInt := il_ne c_12
              refine lv_iconst (v := 0) hx hb dX12_canSell_71 (by decide) ?_
              refine lv_istore (lv' := [(6, .int 0), (5, .int v5_47), (4, .int v4_47), (3, .int r8), (2, .int r7), (0, .ref (ad 0)), (1, .int vk)]) hx hb dX12_canSell_72 hl (by decide) rfl (fun ls hl => ?_)
              refine lv_iload hx hb dX12_canSell_74 (lv_at hl 0 rfl) ?_
              refine lv_if_eq (tgt := 97) hx hb dX12_canSell_76 (by decide) (fun _ => ?_) (fun c => absurd (by decide) c)
              refine lv_aload_n hx hb dX12_canSell_97 rfl (lv_at hl 5 rfl) ?_
              refine va_get (D := (dC, dI)) (ci := 12) (v := .ref (ad 7)) (C := RX12) (T := TX12) (N := 46) hx hb hts inG12 hown hK hP 0 (gM_0 cs ad mu) rfl 9 (by decide) (hts _ (List.mem_cons_of_mem _ mw_5_50)) (fun _ h9 => h9) rfl dX12_canSell_98 ?_
              refine lv_iload hx hb dX12_canSell_101 (lv_at hl 1 rfl) ?_
              refine va_iald hx hb hK hP 7 0 (gM_7 cs ad mu) rfl (show vp_in v5_47 7 from vi_of (by omega) (by omega)) dX12_canSell_103 ?_
              refine lv_topi (fun y13 ey13 => ?_)
              have hF := mi_let hF ey13
              have by13 : y13.toInt = (mu 7 v5_47.toNatClampNeg).toInt := congrArg Int32.toInt ey13
              refine lv_iconst (v := 3) hx hb dX12_canSell_104 (by decide) ?_
              refine lv_icmp_eq (tgt := 112) hx hb dX12_canSell_105 (by decide) (fun c_14 => ?_) (fun c_14 => ?_)
              · have hF := (if_pos c_14).symm.trans hF
                have c_14 : y13.toInt = 3 := il_eq c_14
                refine lv_iconst (v := 0) hx hb dX12_canSell_112 (by decide) ?_
                refine lv_istore (lv' := [(7, .int 0), (6, .int 0), (5, .int v5_47), (4, .int v4_47), (3, .int r8), (2, .int r7), (0, .ref (ad 0)), (1, .int vk)]) hx hb dX12_canSell_113 hl (by decide) rfl (fun ls hl => ?_)
                refine lv_iload hx hb dX12_canSell_115 (lv_at hl 3 rfl) ?_
                refine lv_iload_n hx hb dX12_canSell_117 rfl (lv_at hl 5 rfl) ?_
                refine lv_iload hx hb dX12_canSell_118 (lv_at hl 2 rfl) ?_
                refine cr_i (va_runS (As := [.int r7, .int v5_47]) (rest := [.int v4_47]) ⟨hx, hb, hml, hown, hts⟩ (sm_has l dC dI (tyM cs) s.heap r7 v5_47) (va_cwS 2 hts (wU_S mw_6_59 mw_6_57 mw_6_58 mw_1_13) rfl rfl rfl (by decide +kernel) ⟨Nat.le_of_ble_eq_true rfl, Nat.le_of_ble_eq_true rfl⟩) ⟨sz_c, sz_m hK hz⟩ rfl rfl hl.1 rfl (lv_room (Nat.le_of_ble_eq_true rfl)) dX12_canSell_120 ⟨Nat.zero_le _, Nat.zero_le _⟩) hS (fun r15 hw15 locs hS => ?_)
                obtain ⟨hfe15, hw15⟩ := hw15
                rcases hw15 with ⟨rfl, f15⟩ | ⟨rfl, f15⟩
                · have hF := (if_pos hfe15.symm).symm.trans hF
                  have f15 : rb r7 v5_47 = 1 := f15
                  refine lv_if_eq (tgt := 149) hx hb dX12_canSell_123 (by decide) (fun c => absurd c (by decide)) (fun _ => ?_)
                  refine lv_iload hx hb dX12_canSell_126 (lv_at hl 0 rfl) ?_
                  refine lv_if_eq (tgt := 149) hx hb dX12_canSell_128 (by decide) (fun _ => ?_) (fun c => absurd (by decide) c)
                  refine lv_iconst (v := 0) hx hb dX12_canSell_149 (by decide) ?_
                  refine lv_ior hx hb dX12_canSell_150 ?_
                  refine lv_topi (fun t16 et16 => ?_)
                  have hF := mi_let hF et16
                  have gt16 : 0 ≤ t16.toInt ∧ t16.toInt ≤ 127 := by rw [et16, show (v4_47 ||| 0 : Int32) = v4_47 by simp]; exact ⟨by omega, by omega⟩
                  refine lv_istore (lv' := [(4, .int t16), (7, .int 0), (6, .int 0), (5, .int v5_47), (3, .int r8), (2, .int r7), (0, .ref (ad 0)), (1, .int vk)]) hx hb dX12_canSell_151 hl (by decide) rfl (fun ls hl => ?_)
                  refine lv_iinc (v := (v5_47 + 1)) (lv' := [(5, .int (v5_47 + 1)), (4, .int t16), (7, .int 0), (6, .int 0), (3, .int r8), (2, .int r7), (0, .ref (ad 0)), (1, .int vk)]) hx hb dX12_canSell_153 hl (k := 3) rfl rfl (by decide) rfl (fun ls hl => ?_)
                  refine loc_gen (P := fun w9 => lv_has ls 8 [(5, .int w9), (4, .int t16), (7, .int 0), (6, .int 0), (3, .int r8), (2, .int r7), (0, .ref (ad 0)), (1, .int vk)]) (v5_47 + 1) hl (fun w17 hw17 hl => ?_)
                  have hl : lv_has ls 8 [(5, .int w17), (4, .int t16), (7, .int 0), (6, .int 0), (3, .int r8), (2, .int r7), (0, .ref (ad 0)), (1, .int vk)] := hl
                  have hF := mi_let hF hw17.symm
                  have aw17 : w17.toInt = v5_47.toInt + 1 := by rw [← hw17]; exact tI_add (rfl : v5_47.toInt = _) (rfl : (1 : Int32).toInt = 1) (by omega) (by omega)
                  refine lv_goto (tgt := 47) hx hb dX12_canSell_156 (by decide) ?_
                  exact ih47 (t16) (w17)  _ _ (by omega) (by exact ⟨by omega, by omega⟩) (by exact ⟨by omega, by omega⟩)   hF hS (lv_sub hl [0, 1, 4, 5, 6, 7] rfl)
                · have hF := (if_neg (fun h => absurd (hfe15.trans h) (by decide))).symm.trans hF
                  have f15 : ¬ rb r7 v5_47 = 1 := f15
                  refine lv_if_eq (tgt := 149) hx hb dX12_canSell_123 (by decide) (fun _ => ?_) (fun c => absurd (by decide) c)
                  refine lv_iconst (v := 0) hx hb dX12_canSell_149 (by decide) ?_
                  refine lv_ior hx hb dX12_canSell_150 ?_
                  refine lv_topi (fun t18 et18 => ?_)
                  have hF := mi_let hF et18
                  have gt18 : 0 ≤ t18.toInt ∧ t18.toInt ≤ 127 := by rw [et18, show (v4_47 ||| 0 : Int32) = v4_47 by simp]; exact ⟨by omega, by omega⟩
                  refine lv_istore (lv' := [(4, .int t18), (7, .int 0), (6, .int 0), (5, .int v5_47), (3, .int r8), (2, .int r7), (0, .ref (ad 0)), (1, .int vk)]) hx hb dX12_canSell_151 hl (by decide) rfl (fun ls hl => ?_)
                  refine lv_iinc (v := (v5_47 + 1)) (lv' := [(5, .int (v5_47 + 1)), (4, .int t18), (7, .int 0), (6, .int 0), (3, .int r8), (2, .int r7), (0, .ref (ad 0)), (1, .int vk)]) hx hb dX12_canSell_153 hl (k := 3) rfl rfl (by decide) rfl (fun ls hl => ?_)
                  refine loc_gen (P := fun w9 => lv_has ls 8 [(5, .int w9), (4, .int t18), (7, .int 0), (6, .int 0), (3, .int r8), (2, .int r7), (0, .ref (ad 0)), (1, .int vk)]) (v5_47 + 1) hl (fun w19 hw19 hl => ?_)
                  have hl : lv_has ls 8 [(5, .int w19), (4, .int t18), (7, .int 0), (6, .int 0), (3, .int r8), (2, .int r7), (0, .ref (ad 0)), (1, .int vk)] := hl
                  have hF := mi_let hF hw19.symm
                  have aw19 : w19.toInt = v5_47.toInt + 1 := by rw [← hw19]; exact tI_add (rfl : v5_47.toInt = _) (rfl : (1 : Int32).toInt = 1) (by omega) (by omega)
                  refine lv_goto (tgt := 47) hx hb dX12_canSell_156 (by decide) ?_
                  exact ih47 (t18) (w19)  _ _ (by omega) (by exact ⟨by omega, by omega⟩) (by exact ⟨by omega, by omega⟩)   hF hS (lv_sub hl [0, 1, 4, 5, 6, 7] rfl)
              · have hF := (if_neg c_14).symm.trans hF
                have c_14 : ¬ y13.toInt = 3 := il_ne c_14
                refine lv_iconst (v := 1) hx hb dX12_canSell_108 (by decide) ?_
                refine lv_goto (tgt := 113) hx hb dX12_canSell_109 (by decide) ?_
                refine lv_istore (lv' := [(7, .int 1), (6, .int 0), (5, .int v5_47), (4, .int v4_47), (3, .int r8), (2, .int r7), (0, .ref (ad 0)), (1, .int vk)]) hx hb dX12_canSell_113 hl (by decide) rfl (fun ls hl => ?_)
                refine lv_iload hx hb dX12_canSell_115 (lv_at hl 3 rfl) ?_
                refine lv_iload_n hx hb dX12_canSell_117 rfl (lv_at hl 5 rfl) ?_
                refine lv_iload hx hb dX12_canSell_118 (lv_at hl 2 rfl) ?_
                refine cr_i (va_runS (As := [.int r7, .int v5_47]) (rest := [.int v4_47]) ⟨hx, hb, hml, hown, hts⟩ (sm_has l dC dI (tyM cs) s.heap r7 v5_47) (va_cwS 2 hts (wU_S mw_6_59 mw_6_57 mw_6_58 mw_1_13) rfl rfl rfl (by decide +kernel) ⟨Nat.le_of_ble_eq_true rfl, Nat.le_of_ble_eq_true rfl⟩) ⟨sz_c, sz_m hK hz⟩ rfl rfl hl.1 rfl (lv_room (Nat.le_of_ble_eq_true rfl)) dX12_canSell_120 ⟨Nat.zero_le _, Nat.zero_le _⟩) hS (fun r20 hw20 locs hS => ?_)
                obtain ⟨hfe20, hw20⟩ := hw20
                rcases hw20 with ⟨rfl, f20⟩ | ⟨rfl, f20⟩
                · have hF := (if_pos hfe20.symm).symm.trans hF
                  have f20 : rb r7 v5_47 = 1 := f20
                  refine lv_if_eq (tgt := 149) hx hb dX12_canSell_123 (by decide) (fun c => absurd c (by decide)) (fun _ => ?_)
                  refine lv_iload hx hb dX12_canSell_126 (lv_at hl 0 rfl) ?_
                  refine lv_if_eq (tgt := 149) hx hb dX12_canSell_128 (by decide) (fun c => absurd c (by decide)) (fun _ => ?_)
                  refine lv_aload_n hx hb dX12_canSell_131 rfl (lv_at hl 6 rfl) ?_
                  refine va_get (D := (dC, dI)) (ci := 12) (v := .ref (ad 8)) (C := RX12) (T := TX12) (N := 46) hx hb hts inG12 hown hK hP 0 (gM_0 cs ad mu) rfl 10 (by decide) (hts _ (List.mem_cons_of_mem _ mw_5_51)) (fun _ h9 => h9) rfl dX12_canSell_132 ?_
                  refine lv_iload hx hb dX12_canSell_135 (lv_at hl 2 rfl) ?_
                  refine va_iald hx hb hK hP 8 0 (gM_8 cs ad mu) rfl (show vp_in v5_47 7 from vi_of (by omega) (by omega)) dX12_canSell_137 ?_
                  refine lv_topi (fun y21 ey21 => ?_)
                  have hF := mi_let hF ey21
                  have by21 : y21.toInt = (mu 8 v5_47.toNatClampNeg).toInt := congrArg Int32.toInt ey21
                  refine lv_iload_n hx hb dX12_canSell_138 rfl (lv_at hl 4 rfl) ?_
                  refine lv_icmp_lt (tgt := 149) hx hb dX12_canSell_139 (by decide) (fun c_22 => ?_) (fun c_22 => ?_)
                  · have hF := (if_pos c_22).symm.trans hF
                    have c_22 : y21.toInt < r8.toInt := il_lt c_22
                    refine lv_iconst (v := 0) hx hb dX12_canSell_149 (by decide) ?_
                    refine lv_ior hx hb dX12_canSell_150 ?_
                    refine lv_topi (fun t23 et23 => ?_)
                    have hF := mi_let hF et23
                    have gt23 : 0 ≤ t23.toInt ∧ t23.toInt ≤ 127 := by rw [et23, show (v4_47 ||| 0 : Int32) = v4_47 by simp]; exact ⟨by omega, by omega⟩
                    refine lv_istore (lv' := [(4, .int t23), (7, .int 1), (6, .int 0), (5, .int v5_47), (3, .int r8), (2, .int r7), (0, .ref (ad 0)), (1, .int vk)]) hx hb dX12_canSell_151 hl (by decide) rfl (fun ls hl => ?_)
                    refine lv_iinc (v := (v5_47 + 1)) (lv' := [(5, .int (v5_47 + 1)), (4, .int t23), (7, .int 1), (6, .int 0), (3, .int r8), (2, .int r7), (0, .ref (ad 0)), (1, .int vk)]) hx hb dX12_canSell_153 hl (k := 3) rfl rfl (by decide) rfl (fun ls hl => ?_)
                    refine loc_gen (P := fun w9 => lv_has ls 8 [(5, .int w9), (4, .int t23), (7, .int 1), (6, .int 0), (3, .int r8), (2, .int r7), (0, .ref (ad 0)), (1, .int vk)]) (v5_47 + 1) hl (fun w24 hw24 hl => ?_)
                    have hl : lv_has ls 8 [(5, .int w24), (4, .int t23), (7, .int 1), (6, .int 0), (3, .int r8), (2, .int r7), (0, .ref (ad 0)), (1, .int vk)] := hl
                    have hF := mi_let hF hw24.symm
                    have aw24 : w24.toInt = v5_47.toInt + 1 := by rw [← hw24]; exact tI_add (rfl : v5_47.toInt = _) (rfl : (1 : Int32).toInt = 1) (by omega) (by omega)
                    refine lv_goto (tgt := 47) hx hb dX12_canSell_156 (by decide) ?_
                    exact ih47 (t23) (w24)  _ _ (by omega) (by exact ⟨by omega, by omega⟩) (by exact ⟨by omega, by omega⟩)   hF hS (lv_sub hl [0, 1, 4, 5, 6, 7] rfl)
                  · have hF := (if_neg c_22).symm.trans hF
                    have c_22 : r8.toInt ≤ y21.toInt := il_nlt c_22
                    refine lv_iconst (v := 1) hx hb dX12_canSell_142 (by decide) ?_
                    refine lv_iload hx hb dX12_canSell_143 (lv_at hl 2 rfl) ?_
                    refine lv_ishl hx hb dX12_canSell_145 ?_
                    refine lv_topi (fun t25 et25 => ?_)
                    have hF := mi_let hF et25
                    refine lv_goto (tgt := 150) hx hb dX12_canSell_146 (by decide) ?_
                    refine lv_ior hx hb dX12_canSell_150 ?_
                    refine lv_topi (fun t26 et26 => ?_)
                    have hF := mi_let hF et26
                    have gt26 : 0 ≤ t26.toInt ∧ t26.toInt ≤ 127 := by rw [et26, et25]; exact o7 (by omega) (by omega) (by omega) (by omega)
                    refine lv_istore (lv' := [(4, .int t26), (7, .int 1), (6, .int 0), (5, .int v5_47), (3, .int r8), (2, .int r7), (0, .ref (ad 0)), (1, .int vk)]) hx hb dX12_canSell_151 hl (by decide) rfl (fun ls hl => ?_)
                    refine lv_iinc (v := (v5_47 + 1)) (lv' := [(5, .int (v5_47 + 1)), (4, .int t26), (7, .int 1), (6, .int 0), (3, .int r8), (2, .int r7), (0, .ref (ad 0)), (1, .int vk)]) hx hb dX12_canSell_153 hl (k := 3) rfl rfl (by decide) rfl (fun ls hl => ?_)
                    refine loc_gen (P := fun w9 => lv_has ls 8 [(5, .int w9), (4, .int t26), (7, .int 1), (6, .int 0), (3, .int r8), (2, .int r7), (0, .ref (ad 0)), (1, .int vk)]) (v5_47 + 1) hl (fun w27 hw27 hl => ?_)
                    have hl : lv_has ls 8 [(5, .int w27), (4, .int t26), (7, .int 1), (6, .int 0), (3, .int r8), (2, .int r7), (0, .ref (ad 0)), (1, .int vk)] := hl
                    have hF := mi_let hF hw27.symm
                    have aw27 : w27.toInt = v5_47.toInt + 1 := by rw [← hw27]; exact tI_add (rfl : v5_47.toInt = _) (rfl : (1 : Int32).toInt = 1) (by omega) (by omega)
                    refine lv_goto (tgt := 47) hx hb dX12_canSell_156 (by decide) ?_
                    exact ih47 (t26) (w27)  _ _ (by omega) (by exact ⟨by omega, by omega⟩) (by exact ⟨by omega, by omega⟩)   hF hS (lv_sub hl [0, 1, 4, 5, 6, 7] rfl)
                · have hF := (if_neg (fun h => absurd (hfe20.trans h) (by decide))).symm.trans hF
                  have f20 : ¬ rb r7 v5_47 = 1 := f20
                  refine lv_if_eq (tgt := 149) hx hb dX12_canSell_123 (by decide) (fun _ => ?_) (fun c => absurd (by decide) c)
                  refine lv_iconst (v := 0) hx hb dX12_canSell_149 (by decide) ?_
                  refine lv_ior hx hb dX12_canSell_150 ?_
                  refine lv_topi (fun t28 et28 => ?_)
                  have hF := mi_let hF et28
                  have gt28 : 0 ≤ t28.toInt ∧ t28.toInt ≤ 127 := by rw [et28, show (v4_47 ||| 0 : Int32) = v4_47 by simp]; exact ⟨by omega, by omega⟩
                  refine lv_istore (lv' := [(4, .int t28), (7, .int 1), (6, .int 0), (5, .int v5_47), (3, .int r8), (2, .int r7), (0, .ref (ad 0)), (1, .int vk)]) hx hb dX12_canSell_151 hl (by decide) rfl (fun ls hl => ?_)
                  refine lv_iinc (v := (v5_47 + 1)) (lv' := [(5, .int (v5_47 + 1)), (4, .int t28), (7, .int 1), (6, .int 0), (3, .int r8), (2, .int r7), (0, .ref (ad 0)), (1, .int vk)]) hx hb dX12_canSell_153 hl (k := 3) rfl rfl (by decide) rfl (fun ls hl => ?_)
                  refine loc_gen (P := fun w9 => lv_has ls 8 [(5, .int w9), (4, .int t28), (7, .int 1), (6, .int 0), (3, .int r8), (2, .int r7), (0, .ref (ad 0)), (1, .int vk)]) (v5_47 + 1) hl (fun w29 hw29 hl => ?_)
                  have hl : lv_has ls 8 [(5, .int w29), (4, .int t28), (7, .int 1), (6, .int 0), (3, .int r8), (2, .int r7), (0, .ref (ad 0)), (1, .int vk)] := hl
                  have hF := mi_let hF hw29.symm
                  have aw29 : w29.toInt = v5_47.toInt + 1 := by rw [← hw29]; exact tI_add (rfl : v5_47.toInt = _) (rfl : (1 : Int32).toInt = 1) (by omega) (by omega)
                  refine lv_goto (tgt := 47) hx hb dX12_canSell_156 (by decide) ?_
                  exact ih47 (t28) (w29)  _ _ (by omega) (by exact ⟨by omega, by omega⟩) (by exact ⟨by omega, by omega⟩)   hF hS (lv_sub hl [0, 1, 4, 5, 6, 7] rfl)
            · have hF := (if_pos c_12).symm.trans hF
              have c_12 : v5_47.toInt = r11.toInt := il_eq c_12
              refine lv_iconst (v := 1) hx hb dX12_canSell_67 (by decide) ?_
              refine lv_goto (tgt := 72) hx hb dX12_canSell_68 (by decide) ?_
              refine lv_istore (lv' := [(6, .int 1), (5, .int v5_47), (4, .int v4_47), (3, .int r8), (2, .int r7), (0, .ref (ad 0)), (1, .int vk)]) hx hb dX12_canSell_72 hl (by decide) rfl (fun ls hl => ?_)
              refine lv_iload hx hb dX12_canSell_74 (lv_at hl 0 rfl) ?_
              refine lv_if_eq (tgt := 97) hx hb dX12_canSell_76 (by decide) (fun c => absurd c (by decide)) (fun _ => ?_)
              refine lv_aload_n hx hb dX12_canSell_79 rfl (lv_at hl 5 rfl) ?_
              refine lv_iload_n hx hb dX12_canSell_80 rfl (lv_at hl 6 rfl) ?_
              refine lv_iconst (v := 0) hx hb dX12_canSell_81 (by decide) ?_
              refine cr_i (va_runV (As := [.int vk, .int 0]) (rest := []) ⟨hx, hb, hml, hown, hts⟩ (sm_worthIn l dC dI cs ad mu ok s.heap hP vk 0 (by have h51 : (0 : Int32).toInt = 0 := rfl; omega)) (cwV 2 hts (wU_V mw_6_126 mw_6_123 mw_6_125 mw_0_49 mw_1_13) rfl rfl rfl (by decide +kernel) ⟨Nat.le_of_ble_eq_true rfl, Nat.le_of_ble_eq_true rfl⟩) ⟨sz_c, va_recv hK hP (ci := 12) (q0 := 0) rfl (gM_0 cs ad mu), sz_m hK hz⟩ rfl rfl hl.1 rfl (lv_room (Nat.le_of_ble_eq_true rfl)) dX12_canSell_82 ⟨Nat.zero_le _, Nat.zero_le _⟩) hS (fun r30 hw30 locs hS => ?_)
              obtain ⟨hfe30, hw30⟩ := hw30
              have hF := mi_let hF hfe30
              refine lv_iload_n hx hb dX12_canSell_85 rfl (lv_at hl 3 rfl) ?_
              refine lv_icmp_lt (tgt := 93) hx hb dX12_canSell_86 (by decide) (fun c_31 => ?_) (fun c_31 => ?_)
              · have hF := (if_pos c_31).symm.trans hF
                have c_31 : r30.toInt < r8.toInt := il_lt c_31
                refine lv_iconst (v := 0) hx hb dX12_canSell_93 (by decide) ?_
                refine lv_goto (tgt := 113) hx hb dX12_canSell_94 (by decide) ?_
                refine lv_istore (lv' := [(7, .int 0), (6, .int 1), (5, .int v5_47), (4, .int v4_47), (3, .int r8), (2, .int r7), (0, .ref (ad 0)), (1, .int vk)]) hx hb dX12_canSell_113 hl (by decide) rfl (fun ls hl => ?_)
                refine lv_iload hx hb dX12_canSell_115 (lv_at hl 3 rfl) ?_
                refine lv_iload_n hx hb dX12_canSell_117 rfl (lv_at hl 5 rfl) ?_
                refine lv_iload hx hb dX12_canSell_118 (lv_at hl 2 rfl) ?_
                refine cr_i (va_runS (As := [.int r7, .int v5_47]) (rest := [.int v4_47]) ⟨hx, hb, hml, hown, hts⟩ (sm_has l dC dI (tyM cs) s.heap r7 v5_47) (va_cwS 2 hts (wU_S mw_6_59 mw_6_57 mw_6_58 mw_1_13) rfl rfl rfl (by decide +kernel) ⟨Nat.le_of_ble_eq_true rfl, Nat.le_of_ble_eq_true rfl⟩) ⟨sz_c, sz_m hK hz⟩ rfl rfl hl.1 rfl (lv_room (Nat.le_of_ble_eq_true rfl)) dX12_canSell_120 ⟨Nat.zero_le _, Nat.zero_le _⟩) hS (fun r32 hw32 locs hS => ?_)
                obtain ⟨hfe32, hw32⟩ := hw32
                rcases hw32 with ⟨rfl, f32⟩ | ⟨rfl, f32⟩
                · have hF := (if_pos hfe32.symm).symm.trans hF
                  have f32 : rb r7 v5_47 = 1 := f32
                  refine lv_if_eq (tgt := 149) hx hb dX12_canSell_123 (by decide) (fun c => absurd c (by decide)) (fun _ => ?_)
                  refine lv_iload hx hb dX12_canSell_126 (lv_at hl 0 rfl) ?_
                  refine lv_if_eq (tgt := 149) hx hb dX12_canSell_128 (by decide) (fun _ => ?_) (fun c => absurd (by decide) c)
                  refine lv_iconst (v := 0) hx hb dX12_canSell_149 (by decide) ?_
                  refine lv_ior hx hb dX12_canSell_150 ?_
                  refine lv_topi (fun t33 et33 => ?_)
                  have hF := mi_let hF et33
                  have gt33 : 0 ≤ t33.toInt ∧ t33.toInt ≤ 127 := by rw [et33, show (v4_47 ||| 0 : Int32) = v4_47 by simp]; exact ⟨by omega, by omega⟩
                  refine lv_istore (lv' := [(4, .int t33), (7, .int 0), (6, .int 1), (5, .int v5_47), (3, .int r8), (2, .int r7), (0, .ref (ad 0)), (1, .int vk)]) hx hb dX12_canSell_151 hl (by decide) rfl (fun ls hl => ?_)
                  refine lv_iinc (v := (v5_47 + 1)) (lv' := [(5, .int (v5_47 + 1)), (4, .int t33), (7, .int 0), (6, .int 1), (3, .int r8), (2, .int r7), (0, .ref (ad 0)), (1, .int vk)]) hx hb dX12_canSell_153 hl (k := 3) rfl rfl (by decide) rfl (fun ls hl => ?_)
                  refine loc_gen (P := fun w9 => lv_has ls 8 [(5, .int w9), (4, .int t33), (7, .int 0), (6, .int 1), (3, .int r8), (2, .int r7), (0, .ref (ad 0)), (1, .int vk)]) (v5_47 + 1) hl (fun w34 hw34 hl => ?_)
                  have hl : lv_has ls 8 [(5, .int w34), (4, .int t33), (7, .int 0), (6, .int 1), (3, .int r8), (2, .int r7), (0, .ref (ad 0)), (1, .int vk)] := hl
                  have hF := mi_let hF hw34.symm
                  have aw34 : w34.toInt = v5_47.toInt + 1 := by rw [← hw34]; exact tI_add (rfl : v5_47.toInt = _) (rfl : (1 : Int32).toInt = 1) (by omega) (by omega)
                  refine lv_goto (tgt := 47) hx hb dX12_canSell_156 (by decide) ?_
                  exact ih47 (t33) (w34)  _ _ (by omega) (by exact ⟨by omega, by omega⟩) (by exact ⟨by omega, by omega⟩)   hF hS (lv_sub hl [0, 1, 4, 5, 6, 7] rfl)
                · have hF := (if_neg (fun h => absurd (hfe32.trans h) (by decide))).symm.trans hF
                  have f32 : ¬ rb r7 v5_47 = 1 := f32
                  refine lv_if_eq (tgt := 149) hx hb dX12_canSell_123 (by decide) (fun _ => ?_) (fun c => absurd (by decide) c)
                  refine lv_iconst (v := 0) hx hb dX12_canSell_149 (by decide) ?_
                  refine lv_ior hx hb dX12_canSell_150 ?_
                  refine lv_topi (fun t35 et35 => ?_)
                  have hF := mi_let hF et35
                  have gt35 : 0 ≤ t35.toInt ∧ t35.toInt ≤ 127 := by rw [et35, show (v4_47 ||| 0 : Int32) = v4_47 by simp]; exact ⟨by omega, by omega⟩
                  refine lv_istore (lv' := [(4, .int t35), (7, .int 0), (6, .int 1), (5, .int v5_47), (3, .int r8), (2, .int r7), (0, .ref (ad 0)), (1, .int vk)]) hx hb dX12_canSell_151 hl (by decide) rfl (fun ls hl => ?_)
                  refine lv_iinc (v := (v5_47 + 1)) (lv' := [(5, .int (v5_47 + 1)), (4, .int t35), (7, .int 0), (6, .int 1), (3, .int r8), (2, .int r7), (0, .ref (ad 0)), (1, .int vk)]) hx hb dX12_canSell_153 hl (k := 3) rfl rfl (by decide) rfl (fun ls hl => ?_)
                  refine loc_gen (P := fun w9 => lv_has ls 8 [(5, .int w9), (4, .int t35), (7, .int 0), (6, .int 1), (3, .int r8), (2, .int r7), (0, .ref (ad 0)), (1, .int vk)]) (v5_47 + 1) hl (fun w36 hw36 hl => ?_)
                  have hl : lv_has ls 8 [(5, .int w36), (4, .int t35), (7, .int 0), (6, .int 1), (3, .int r8), (2, .int r7), (0, .ref (ad 0)), (1, .int vk)] := hl
                  have hF := mi_let hF hw36.symm
                  have aw36 : w36.toInt = v5_47.toInt + 1 := by rw [← hw36]; exact tI_add (rfl : v5_47.toInt = _) (rfl : (1 : Int32).toInt = 1) (by omega) (by omega)
                  refine lv_goto (tgt := 47) hx hb dX12_canSell_156 (by decide) ?_
                  exact ih47 (t35) (w36)  _ _ (by omega) (by exact ⟨by omega, by omega⟩) (by exact ⟨by omega, by omega⟩)   hF hS (lv_sub hl [0, 1, 4, 5, 6, 7] rfl)
              · have hF := (if_neg c_31).symm.trans hF
                have c_31 : r8.toInt ≤ r30.toInt := il_nlt c_31
                refine lv_iconst (v := 1) hx hb dX12_canSell_89 (by decide) ?_
                refine lv_goto (tgt := 113) hx hb dX12_canSell_90 (by decide) ?_
                refine lv_istore (lv' := [(7, .int 1), (6, .int 1), (5, .int v5_47), (4, .int v4_47), (3, .int r8), (2, .int r7), (0, .ref (ad 0)), (1, .int vk)]) hx hb dX12_canSell_113 hl (by decide) rfl (fun ls hl => ?_)
                refine lv_iload hx hb dX12_canSell_115 (lv_at hl 3 rfl) ?_
                refine lv_iload_n hx hb dX12_canSell_117 rfl (lv_at hl 5 rfl) ?_
                refine lv_iload hx hb dX12_canSell_118 (lv_at hl 2 rfl) ?_
                refine cr_i (va_runS (As := [.int r7, .int v5_47]) (rest := [.int v4_47]) ⟨hx, hb, hml, hown, hts⟩ (sm_has l dC dI (tyM cs) s.heap r7 v5_47) (va_cwS 2 hts (wU_S mw_6_59 mw_6_57 mw_6_58 mw_1_13) rfl rfl rfl (by decide +kernel) ⟨Nat.le_of_ble_eq_true rfl, Nat.le_of_ble_eq_true rfl⟩) ⟨sz_c, sz_m hK hz⟩ rfl rfl hl.1 rfl (lv_room (Nat.le_of_ble_eq_true rfl)) dX12_canSell_120 ⟨Nat.zero_le _, Nat.zero_le _⟩) hS (fun r37 hw37 locs hS => ?_)
                obtain ⟨hfe37, hw37⟩ := hw37
                rcases hw37 with ⟨rfl, f37⟩ | ⟨rfl, f37⟩
                · have hF := (if_pos hfe37.symm).symm.trans hF
                  have f37 : rb r7 v5_47 = 1 := f37
                  refine lv_if_eq (tgt := 149) hx hb dX12_canSell_123 (by decide) (fun c => absurd c (by decide)) (fun _ => ?_)
                  refine lv_iload hx hb dX12_canSell_126 (lv_at hl 0 rfl) ?_
                  refine lv_if_eq (tgt := 149) hx hb dX12_canSell_128 (by decide) (fun c => absurd c (by decide)) (fun _ => ?_)
                  refine lv_aload_n hx hb dX12_canSell_131 rfl (lv_at hl 6 rfl) ?_
                  refine va_get (D := (dC, dI)) (ci := 12) (v := .ref (ad 8)) (C := RX12) (T := TX12) (N := 46) hx hb hts inG12 hown hK hP 0 (gM_0 cs ad mu) rfl 10 (by decide) (hts _ (List.mem_cons_of_mem _ mw_5_51)) (fun _ h9 => h9) rfl dX12_canSell_132 ?_
                  refine lv_iload hx hb dX12_canSell_135 (lv_at hl 2 rfl) ?_
                  refine va_iald hx hb hK hP 8 0 (gM_8 cs ad mu) rfl (show vp_in v5_47 7 from vi_of (by omega) (by omega)) dX12_canSell_137 ?_
                  refine lv_topi (fun y38 ey38 => ?_)
                  have hF := mi_let hF ey38
                  have by38 : y38.toInt = (mu 8 v5_47.toNatClampNeg).toInt := congrArg Int32.toInt ey38
                  refine lv_iload_n hx hb dX12_canSell_138 rfl (lv_at hl 4 rfl) ?_
                  refine lv_icmp_lt (tgt := 149) hx hb dX12_canSell_139 (by decide) (fun c_39 => ?_) (fun c_39 => ?_)
                  · have hF := (if_pos c_39).symm.trans hF
                    have c_39 : y38.toInt < r8.toInt := il_lt c_39
                    refine lv_iconst (v := 0) hx hb dX12_canSell_149 (by decide) ?_
                    refine lv_ior hx hb dX12_canSell_150 ?_
                    refine lv_topi (fun t40 et40 => ?_)
                    have hF := mi_let hF et40
                    have gt40 : 0 ≤ t40.toInt ∧ t40.toInt ≤ 127 := by rw [et40, show (v4_47 ||| 0 : Int32) = v4_47 by simp]; exact ⟨by omega, by omega⟩
                    refine lv_istore (lv' := [(4, .int t40), (7, .int 1), (6, .int 1), (5, .int v5_47), (3, .int r8), (2, .int r7), (0, .ref (ad 0)), (1, .int vk)]) hx hb dX12_canSell_151 hl (by decide) rfl (fun ls hl => ?_)
                    refine lv_iinc (v := (v5_47 + 1)) (lv' := [(5, .int (v5_47 + 1)), (4, .int t40), (7, .int 1), (6, .int 1), (3, .int r8), (2, .int r7), (0, .ref (ad 0)), (1, .int vk)]) hx hb dX12_canSell_153 hl (k := 3) rfl rfl (by decide) rfl (fun ls hl => ?_)
                    refine loc_gen (P := fun w9 => lv_has ls 8 [(5, .int w9), (4, .int t40), (7, .int 1), (6, .int 1), (3, .int r8), (2, .int r7), (0, .ref (ad 0)), (1, .int vk)]) (v5_47 + 1) hl (fun w41 hw41 hl => ?_)
                    have hl : lv_has ls 8 [(5, .int w41), (4, .int t40), (7, .int 1), (6, .int 1), (3, .int r8), (2, .int r7), (0, .ref (ad 0)), (1, .int vk)] := hl
                    have hF := mi_let hF hw41.symm
                    have aw41 : w41.toInt = v5_47.toInt + 1 := by rw [← hw41]; exact tI_add (rfl : v5_47.toInt = _) (rfl : (1 : Int32).toInt = 1) (by omega) (by omega)
                    refine lv_goto (tgt := 47) hx hb dX12_canSell_156 (by decide) ?_
                    exact ih47 (t40) (w41)  _ _ (by omega) (by exact ⟨by omega, by omega⟩) (by exact ⟨by omega, by omega⟩)   hF hS (lv_sub hl [0, 1, 4, 5, 6, 7] rfl)
                  · have hF := (if_neg c_39).symm.trans hF
                    have c_39 : r8.toInt ≤ y38.toInt := il_nlt c_39
                    refine lv_iconst (v := 1) hx hb dX12_canSell_142 (by decide) ?_
                    refine lv_iload hx hb dX12_canSell_143 (lv_at hl 2 rfl) ?_
                    refine lv_ishl hx hb dX12_canSell_145 ?_
                    refine lv_topi (fun t42 et42 => ?_)
                    have hF := mi_let hF et42
                    refine lv_goto (tgt := 150) hx hb dX12_canSell_146 (by decide) ?_
                    refine lv_ior hx hb dX12_canSell_150 ?_
                    refine lv_topi (fun t43 et43 => ?_)
                    have hF := mi_let hF et43
                    have gt43 : 0 ≤ t43.toInt ∧ t43.toInt ≤ 127 := by rw [et43, et42]; exact o7 (by omega) (by omega) (by omega) (by omega)
                    refine lv_istore (lv' := [(4, .int t43), (7, .int 1), (6, .int 1), (5, .int v5_47), (3, .int r8), (2, .int r7), (0, .ref (ad 0)), (1, .int vk)]) hx hb dX12_canSell_151 hl (by decide) rfl (fun ls hl => ?_)
                    refine lv_iinc (v := (v5_47 + 1)) (lv' := [(5, .int (v5_47 + 1)), (4, .int t43), (7, .int 1), (6, .int 1), (3, .int r8), (2, .int r7), (0, .ref (ad 0)), (1, .int vk)]) hx hb dX12_canSell_153 hl (k := 3) rfl rfl (by decide) rfl (fun ls hl => ?_)
                    refine loc_gen (P := fun w9 => lv_has ls 8 [(5, .int w9), (4, .int t43), (7, .int 1), (6, .int 1), (3, .int r8), (2, .int r7), (0, .ref (ad 0)), (1, .int vk)]) (v5_47 + 1) hl (fun w44 hw44 hl => ?_)
                    have hl : lv_has ls 8 [(5, .int w44), (4, .int t43), (7, .int 1), (6, .int 1), (3, .int r8), (2, .int r7), (0, .ref (ad 0)), (1, .int vk)] := hl
                    have hF := mi_let hF hw44.symm
                    have aw44 : w44.toInt = v5_47.toInt + 1 := by rw [← hw44]; exact tI_add (rfl : v5_47.toInt = _) (rfl : (1 : Int32).toInt = 1) (by omega) (by omega)
                    refine lv_goto (tgt := 47) hx hb dX12_canSell_156 (by decide) ?_
                    exact ih47 (t43) (w44)  _ _ (by omega) (by exact ⟨by omega, by omega⟩) (by exact ⟨by omega, by omega⟩)   hF hS (lv_sub hl [0, 1, 4, 5, 6, 7] rfl)
                · have hF := (if_neg (fun h => absurd (hfe37.trans h) (by decide))).symm.trans hF
                  have f37 : ¬ rb r7 v5_47 = 1 := f37
                  refine lv_if_eq (tgt := 149) hx hb dX12_canSell_123 (by decide) (fun _ => ?_) (fun c => absurd (by decide) c)
                  refine lv_iconst (v := 0) hx hb dX12_canSell_149 (by decide) ?_
                  refine lv_ior hx hb dX12_canSell_150 ?_
                  refine lv_topi (fun t45 et45 => ?_)
                  have hF := mi_let hF et45
                  have gt45 : 0 ≤ t45.toInt ∧ t45.toInt ≤ 127 := by rw [et45, show (v4_47 ||| 0 : Int32) = v4_47 by simp]; exact ⟨by omega, by omega⟩
                  refine lv_istore (lv' := [(4, .int t45), (7, .int 1), (6, .int 1), (5, .int v5_47), (3, .int r8), (2, .int r7), (0, .ref (ad 0)), (1, .int vk)]) hx hb dX12_canSell_151 hl (by decide) rfl (fun ls hl => ?_)
                  refine lv_iinc (v := (v5_47 + 1)) (lv' := [(5, .int (v5_47 + 1)), (4, .int t45), (7, .int 1), (6, .int 1), (3, .int r8), (2, .int r7), (0, .ref (ad 0)), (1, .int vk)]) hx hb dX12_canSell_153 hl (k := 3) rfl rfl (by decide) rfl (fun ls hl => ?_)
                  refine loc_gen (P := fun w9 => lv_has ls 8 [(5, .int w9), (4, .int t45), (7, .int 1), (6, .int 1), (3, .int r8), (2, .int r7), (0, .ref (ad 0)), (1, .int vk)]) (v5_47 + 1) hl (fun w46 hw46 hl => ?_)
                  have hl : lv_has ls 8 [(5, .int w46), (4, .int t45), (7, .int 1), (6, .int 1), (3, .int r8), (2, .int r7), (0, .ref (ad 0)), (1, .int vk)] := hl
                  have hF := mi_let hF hw46.symm
                  have aw46 : w46.toInt = v5_47.toInt + 1 := by rw [← hw46]; exact tI_add (rfl : v5_47.toInt = _) (rfl : (1 : Int32).toInt = 1) (by omega) (by omega)
                  refine lv_goto (tgt := 47) hx hb dX12_canSell_156 (by decide) ?_
                  exact ih47 (t45) (w46)  _ _ (by omega) (by exact ⟨by omega, by omega⟩) (by exact ⟨by omega, by omega⟩)   hF hS (lv_sub hl [0, 1, 4, 5, 6, 7] rfl)
      exact loop47 10 (0) (0)  _ _ (by have h80 : (0 : Int32).toInt = 0 := rfl; have h81 : (0 : Int32).toInt = 0 := rfl; omega) (by have h80 : (0 : Int32).toInt = 0 := rfl; exact ⟨by omega, by omega⟩) (by have h80 : (0 : Int32).toInt = 0 := rfl; exact ⟨by omega, by omega⟩)   hF hS hl
    · have hF := (if_pos c_5).symm.trans hF
      have c_5 : r3.toInt = y4.toInt := il_eq c_5
      refine lv_iconst (v := 0) hx hb dX12_canSell_22 (by decide) ?_
      exact W.iret (v := 0) hx hb hr (fun t ht hW => ⟨⟨0, (), rfl, ⟨hF.trans hfz.symm, (by have h6 : (0 : Int32).toInt = 0 := rfl; omega)⟩, ht⟩, hS.F ht⟩) hS.2.2 dX12_canSell_23

