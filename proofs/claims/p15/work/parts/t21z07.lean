set_option maxHeartbeats 4000000 in
set_option maxRecDepth 100000 in
/-- qm_gain -/
theorem qm_gain (l : Launch) (dC : Nat → ClassId) (dI : Nat → Nat → Nat) (cs : Nat → ClassId) (ad : Nat → Nat) (mu : Nat → Nat → Int32) (ok : okR loM hiM mu) (H : Heap) (hP : va_P (dC, dI) vwCl (wR 21 ad (EM cs ad) mu) H) (hD0 : va_D (fun _ => True) (wR 21 ad (EM cs ad) mu)) (vx : Int32) : Met l yX12_gain (wU yX12_gain cX12_gain 4 (some .int)) ({ frames := 2, cells := 0, slots := 0, locals := 44 }) (va_Pc [.ref (ad 0), .int vx] (sz_P (dC, dI) vwCl (tyM cs) H)) (va_Qi (fun (z : Int32) (xi : Nat → Nat → Int32) => (z, xi) = F_qm_gain mu vx ∧ okR loM hiM xi ∧ (True) ∧ (∀ k f : Nat, Nat.testBit 510 (gpM k f) = true → xi k f = mu k f)) (fun xi t => va_P (dC, dI) vwCl (wR 21 ad (EM cs ad) xi) t.heap) (va_A (wR 21 ad (EM cs ad) mu) H.size)) 0 0 (va_A (wR 21 ad (EM cs ad) mu) H.size) := by
  refine Met.ofW (cc := cX12_gain) (maxL := 4) (ret := (some .int)) (by decide) rfl ?_
  intro p e s m args below meth c s₁ B hml hv
  obtain ⟨rfl, hh, hK, hz⟩ := hv
  have hx := B.exec
  have hb := B.bytes
  have hr := B.returns
  have hts := atoms_spec (ws := (wU yX12_gain cX12_gain 4 (some .int))) B.pre
  have hown : s.vm.findClass RX12 = some m.cls := findClass_of_methodNamed B.named
  have hlocks := B.notSynchronized
  subst hh
  have hD := hD0.self (sz := s.heap.size)
  have hA : ∀ q : Nat, s.heap.size ≤ q → (va_A (wR 21 ad (EM cs ad) mu) s.heap.size) q := fun q h => Or.inr h
  have hS : va_S (va_A (wR 21 ad (EM cs ad) mu) s.heap.size) s.heap s.heap [] := va_S.rf
  have hl := lv_entry ([.ref (ad 0), .int vx]) (n := 4) (Nat.le_of_ble_eq_true rfl)
  rw [lg_entry_eq]
  generalize (lg_sl ([.ref (ad 0), .int vx]) ++ List.replicate (4 - (lg_sl ([.ref (ad 0), .int vx])).length) Slot.unset).toArray = ls at hl ⊢
  have hl : lv_has ls 4 [(0, .ref (ad 0)), (1, .int vx)] := hl
  obtain ⟨fz, hfz⟩ : ∃ z, F_qm_gain mu vx = z := ⟨_, rfl⟩
  have hF := hfz
  unfold F_qm_gain at hF
  refine lv_aload_n hx hb dX12_gain_0 rfl (lv_at hl 0 rfl) ?_
  refine lv_iload_n hx hb dX12_gain_1 rfl (lv_at hl 1 rfl) ?_
  refine cr_i (va_runV (As := [.int vx]) (rest := []) ⟨hx, hb, hml, hown, hts⟩ (sm_isOne l dC dI cs ad mu ok s.heap hP vx) (cwV 1 hts (wU_V mw_6_40 mw_6_37 mw_6_39 mw_0_36 mw_1_13) rfl rfl rfl (by decide +kernel) ⟨Nat.le_of_ble_eq_true rfl, Nat.le_of_ble_eq_true rfl⟩) ⟨sz_c, va_recv hK hP (ci := 12) (q0 := 0) rfl (gM_0 cs ad mu), sz_m hK hz⟩ rfl rfl hl.1 rfl (lv_room (Nat.le_of_ble_eq_true rfl)) dX12_gain_2 ⟨Nat.zero_le _, Nat.zero_le _⟩) hS (fun r1 hw1 locs hS => ?_)
  obtain ⟨hfe1, hw1⟩ := hw1
  rcases hw1 with ⟨rfl, f1⟩ | ⟨rfl, f1⟩
  · have hF := (if_pos hfe1.symm).symm.trans hF
    have f1 : 0 ≤ vx.toInt ∧ vx.toInt < (mu 0 8).toInt ∧ (mu 0 8).toInt ≤ 7 := f1
    refine lv_if_ne (tgt := 10) hx hb dX12_gain_5 (by decide) (fun _ => ?_) (fun c => absurd c (by decide))
    refine lv_iconst (v := 0) hx hb dX12_gain_10 (by decide) ?_
    refine lv_istore_n (lv' := [(2, .int 0), (0, .ref (ad 0)), (1, .int vx)]) hx hb dX12_gain_11 rfl hl (by decide) rfl (fun ls hl => ?_)
    refine lv_iconst (v := 0) hx hb dX12_gain_12 (by decide) ?_
    refine lv_istore_n (lv' := [(3, .int 0), (2, .int 0), (0, .ref (ad 0)), (1, .int vx)]) hx hb dX12_gain_13 rfl hl (by decide) rfl (fun ls hl => ?_)
    have loop14 : ∀ (n14 : Nat) (v2_14 : Int32) (v3_14 : Int32) (nu14_ : Nat → Nat → Int32) (H : Heap) (locs : List Loc) (ls : Array Slot), (40 + 1 - v3_14.toInt).toNat < n14 → (0 ≤ v3_14.toInt ∧ v3_14.toInt ≤ 40) → okR loM hiM nu14_ → va_P (dC, dI) vwCl (wR 21 ad (EM cs ad) nu14_) H → (∀ k f : Nat, Nat.testBit 510 (gpM k f) = true → nu14_ k f = mu k f) → L_qm_gain_14_0 vx n14 v2_14 v3_14 nu14_ = fz → va_S (va_A (wR 21 ad (EM cs ad) mu) s.heap.size) s.heap H locs → lv_has ls 4 [(3, .int v3_14), (2, .int v2_14), (0, .ref (ad 0)), (1, .int vx)] → W p l e (headSpec (wU yX12_gain cX12_gain 4 (some .int)) ({ frames := 2, cells := 0, slots := 0, locals := 44 })).room s m ([.ref (ad 0), .int vx] : List Value).toArray below meth c H locs 0 0 (MQ below (va_Qi (fun (z : Int32) (xi : Nat → Nat → Int32) => (z, xi) = F_qm_gain mu vx ∧ okR loM hiM xi ∧ (True) ∧ (∀ k f : Nat, Nat.testBit 510 (gpM k f) = true → xi k f = mu k f)) (fun xi t => va_P (dC, dI) vwCl (wR 21 ad (EM cs ad) xi) t.heap) (va_A (wR 21 ad (EM cs ad) mu) s.heap.size)) ([.ref (ad 0), .int vx] : List Value).toArray s 0 0 (va_A (wR 21 ad (EM cs ad) mu) s.heap.size)) (F0 m 14 ls []) := by
      intro n14
      induction n14 with
      | zero => intro v2_14 v3_14 nu14_ H locs ls hm; exact absurd hm (Nat.not_lt_zero _)
      | succ n14 ih14 =>
        intro v2_14 v3_14 nu14_ H locs ls hm h_v3_14 ok hP kq14_0 hF hS hl
        rw [L_qm_gain_14_0] at hF
        refine lv_iload_n hx hb dX12_gain_14 rfl (lv_at hl 0 rfl) ?_
        refine lv_aload_n hx hb dX12_gain_15 rfl (lv_at hl 2 rfl) ?_
        refine va_get (D := (dC, dI)) (ci := 12) (v := .int (nu14_ 0 17)) (C := RX12) (T := TX12) (N := 46) hx hb hts inG12 hown hK hP 0 (gM_0 cs ad nu14_) rfl 17 (by decide) (hts _ (List.mem_cons_of_mem _ mw_5_58)) (fun _ h9 => h9) rfl dX12_gain_16 ?_
        refine lv_topi (fun y2 ey2 => ?_)
        have hF := mi_let hF ey2
        have by2 : y2.toInt = (nu14_ 0 17).toInt := congrArg Int32.toInt ey2
        have gy2 : 0 ≤ y2.toInt ∧ y2.toInt ≤ 40 := by rw [ey2]; exact rM_0_17 ok
        refine lv_icmp_ge (tgt := 88) hx hb dX12_gain_19 (by decide) (fun c_3 => ?_) (fun c_3 => ?_)
        · have hF := (if_pos c_3).symm.trans hF
          have c_3 : y2.toInt ≤ v3_14.toInt := il_le c_3
          refine lv_aload_n hx hb dX12_gain_88 rfl (lv_at hl 2 rfl) ?_
          refine lv_iload_n hx hb dX12_gain_89 rfl (lv_at hl 1 rfl) ?_
          refine lv_iconst (v := 1) hx hb dX12_gain_90 (by decide) ?_
          have hFc := fr_all (wR_D nu14_ hD) hS hA
          refine va_calli (va_runV (As := [.int v2_14, .int 1]) (rest := []) ⟨hx, hb, hml, hown, hts⟩ (sm_ask l dC dI cs ad nu14_ ok H hP ((wR_D nu14_ hD).weaken (fun _ _ _ _ => trivial)) v2_14 1) (cwV 2 hts (wU_V mw_5_213 mw_5_210 mw_5_212 mw_0_30 mw_1_13) rfl rfl rfl (by decide +kernel) ⟨Nat.le_of_ble_eq_true rfl, Nat.le_of_ble_eq_true rfl⟩) ⟨sz_c, va_recv hK hP (ci := 12) (q0 := 0) rfl (gM_0 cs ad nu14_), sz_m hK hz⟩ rfl rfl hl.1 rfl (lv_room (Nat.le_of_ble_eq_true rfl)) dX12_gain_91 ⟨Nat.zero_le _, Nat.zero_le _⟩) hS (fun q _ h => hFc q h) hFc (fun r4 xi4 t H4 locs ht hvm hw4 hB hz1 hk1 hS => ?_)
          have hP : va_P (dC, dI) vwCl (wR 21 ad (EM cs ad) xi4) H4 := by rw [← ht]; exact hB
          obtain ⟨hfe4, ok, hw4, hkp4_0⟩ := hw4
          have hF := mi_letp hF hfe4
          have kp5 : (∀ k f : Nat, Nat.testBit 510 (gpM k f) = true → xi4 k f = mu k f) := kp_t hkp4_0 (by decide) kq14_0
          have gr4 : r4.toInt = (1 : Int) := hw4
          exact W.iret (v := r4) hx hb hr (fun t ht hW => ⟨⟨r4, xi4, rfl, ⟨hF.trans hfz.symm, ok, trivial, kp5⟩, by first | (subst ht; exact hP) | (rw [ht]; exact hP) | (show va_P (dC, dI) vwCl (wR 21 ad (EM cs ad) xi4) t.heap; rw [ht]; exact hP)⟩, hS.F ht⟩) hS.2.2 dX12_gain_94
        · have hF := (if_neg c_3).symm.trans hF
          have c_3 : v3_14.toInt < y2.toInt := il_nle c_3
          refine lv_iload_n hx hb dX12_gain_22 rfl (lv_at hl 1 rfl) ?_
          refine lv_aload_n hx hb dX12_gain_23 rfl (lv_at hl 2 rfl) ?_
          refine va_get (D := (dC, dI)) (ci := 12) (v := .ref (ad 14)) (C := RX12) (T := TX12) (N := 46) hx hb hts inG12 hown hK hP 0 (gM_0 cs ad nu14_) rfl 24 (by decide) (hts _ (List.mem_cons_of_mem _ mw_5_65)) (fun _ h9 => h9) rfl dX12_gain_24 ?_
          refine lv_bipush (v := 12) hx hb dX12_gain_27 (by decide) ?_
          refine lv_iload_n hx hb dX12_gain_29 rfl (lv_at hl 0 rfl) ?_
          refine lv_imul hx hb dX12_gain_30 ?_
          refine lv_topi (fun t6 et6 => ?_)
          have hF := mi_let hF et6
          have at6 : t6.toInt = 12 * v3_14.toInt := by rw [et6]; exact tI_mul (rfl : (12 : Int32).toInt = 12) (rfl : v3_14.toInt = _) (by omega) (by omega)
          refine lv_iconst (v := 1) hx hb dX12_gain_31 (by decide) ?_
          refine lv_iadd hx hb dX12_gain_32 ?_
          refine lv_topi (fun t7 et7 => ?_)
          have hF := mi_let hF et7
          have at7 : t7.toInt = t6.toInt + 1 := by rw [et7]; exact tI_add (rfl : t6.toInt = _) (rfl : (1 : Int32).toInt = 1) (by omega) (by omega)
          refine va_iald hx hb hK hP 14 0 (gM_14 cs ad nu14_) rfl (show vp_in t7 480 from vi_of (by omega) (by omega)) dX12_gain_33 ?_
          have hc8 : ((t7 : Int32).toNatClampNeg : Int) = t7.toInt := tC_of (by omega)
          refine lv_topi (fun y9 ey9 => ?_)
          have hF := mi_let hF ey9
          have by9 : y9.toInt = (nu14_ 14 t7.toNatClampNeg).toInt := congrArg Int32.toInt ey9
          refine lv_iload_n hx hb dX12_gain_34 rfl (lv_at hl 3 rfl) ?_
          refine lv_icmp_ne (tgt := 52) hx hb dX12_gain_35 (by decide) (fun c_10 => ?_) (fun c_10 => ?_)
          · have hF := (if_neg c_10).symm.trans hF
            have c_10 : ¬ y9.toInt = vx.toInt := il_ne c_10
            refine lv_iconst (v := 0) hx hb dX12_gain_52 (by decide) ?_
            refine lv_iadd hx hb dX12_gain_53 ?_
            refine lv_topi (fun t11 et11 => ?_)
            have hF := mi_let hF et11
            refine lv_istore_n (lv' := [(2, .int t11), (3, .int v3_14), (0, .ref (ad 0)), (1, .int vx)]) hx hb dX12_gain_54 rfl hl (by decide) rfl (fun ls hl => ?_)
            refine lv_iload_n hx hb dX12_gain_55 rfl (lv_at hl 0 rfl) ?_
            refine lv_aload_n hx hb dX12_gain_56 rfl (lv_at hl 2 rfl) ?_
            refine lv_iload_n hx hb dX12_gain_57 rfl (lv_at hl 1 rfl) ?_
            refine cr_i (va_runV (As := [.int v3_14]) (rest := [.int t11]) ⟨hx, hb, hml, hown, hts⟩ (sm_buyerAt l dC dI cs ad nu14_ ok H hP v3_14 (by omega)) (cwV 1 hts (wU_V mw_7_12 mw_7_9 mw_7_11 mw_0_60 mw_1_13) rfl rfl rfl (by decide +kernel) ⟨Nat.le_of_ble_eq_true rfl, Nat.le_of_ble_eq_true rfl⟩) ⟨sz_c, va_recv hK hP (ci := 12) (q0 := 0) rfl (gM_0 cs ad nu14_), sz_m hK hz⟩ rfl rfl hl.1 rfl (lv_room (Nat.le_of_ble_eq_true rfl)) dX12_gain_58 ⟨Nat.zero_le _, Nat.zero_le _⟩) hS (fun r12 hw12 locs hS => ?_)
            obtain ⟨hfe12, hw12⟩ := hw12
            have hF := mi_let hF hfe12
            refine lv_iload_n hx hb dX12_gain_61 rfl (lv_at hl 3 rfl) ?_
            refine lv_icmp_ne (tgt := 79) hx hb dX12_gain_62 (by decide) (fun c_13 => ?_) (fun c_13 => ?_)
            · have hF := (if_neg c_13).symm.trans hF
              have c_13 : ¬ r12.toInt = vx.toInt := il_ne c_13
              refine lv_iconst (v := 0) hx hb dX12_gain_79 (by decide) ?_
              refine lv_isub hx hb dX12_gain_80 ?_
              refine lv_topi (fun t14 et14 => ?_)
              have hF := mi_let hF et14
              refine lv_istore_n (lv' := [(2, .int t14), (3, .int v3_14), (0, .ref (ad 0)), (1, .int vx)]) hx hb dX12_gain_81 rfl hl (by decide) rfl (fun ls hl => ?_)
              refine lv_iinc (v := (v3_14 + 1)) (lv' := [(3, .int (v3_14 + 1)), (2, .int t14), (0, .ref (ad 0)), (1, .int vx)]) hx hb dX12_gain_82 hl (k := 1) rfl rfl (by decide) rfl (fun ls hl => ?_)
              refine loc_gen (P := fun w9 => lv_has ls 4 [(3, .int w9), (2, .int t14), (0, .ref (ad 0)), (1, .int vx)]) (v3_14 + 1) hl (fun w15 hw15 hl => ?_)
              have hl : lv_has ls 4 [(3, .int w15), (2, .int t14), (0, .ref (ad 0)), (1, .int vx)] := hl
              have hF := mi_let hF hw15.symm
              have aw15 : w15.toInt = v3_14.toInt + 1 := by rw [← hw15]; exact tI_add (rfl : v3_14.toInt = _) (rfl : (1 : Int32).toInt = 1) (by omega) (by omega)
              refine lv_goto (tgt := 14) hx hb dX12_gain_85 (by decide) ?_
              exact ih14 (t14) (w15) nu14_ _ _ _ (by omega) (by exact ⟨by omega, by omega⟩)  ok hP  kq14_0 hF hS (lv_sub hl [0, 1, 2, 3] rfl)
            · have hF := (if_pos c_13).symm.trans hF
              have c_13 : r12.toInt = vx.toInt := il_eq c_13
              refine lv_aload_n hx hb dX12_gain_65 rfl (lv_at hl 2 rfl) ?_
              refine va_get (D := (dC, dI)) (ci := 12) (v := .ref (ad 14)) (C := RX12) (T := TX12) (N := 46) hx hb hts inG12 hown hK hP 0 (gM_0 cs ad nu14_) rfl 24 (by decide) (hts _ (List.mem_cons_of_mem _ mw_5_65)) (fun _ h9 => h9) rfl dX12_gain_66 ?_
              refine lv_bipush (v := 12) hx hb dX12_gain_69 (by decide) ?_
              refine lv_iload_n hx hb dX12_gain_71 rfl (lv_at hl 1 rfl) ?_
              refine lv_imul hx hb dX12_gain_72 ?_
              refine lv_topi (fun t16 et16 => ?_)
              have hF := mi_let hF et16
              have at16 : t16.toInt = 12 * v3_14.toInt := by rw [et16]; exact tI_mul (rfl : (12 : Int32).toInt = 12) (rfl : v3_14.toInt = _) (by omega) (by omega)
              refine lv_iconst (v := 4) hx hb dX12_gain_73 (by decide) ?_
              refine lv_iadd hx hb dX12_gain_74 ?_
              refine lv_topi (fun t17 et17 => ?_)
              have hF := mi_let hF et17
              have at17 : t17.toInt = t16.toInt + 4 := by rw [et17]; exact tI_add (rfl : t16.toInt = _) (rfl : (4 : Int32).toInt = 4) (by omega) (by omega)
              refine va_iald hx hb hK hP 14 0 (gM_14 cs ad nu14_) rfl (show vp_in t17 480 from vi_of (by omega) (by omega)) dX12_gain_75 ?_
              have hc18 : ((t17 : Int32).toNatClampNeg : Int) = t17.toInt := tC_of (by omega)
              refine lv_topi (fun y19 ey19 => ?_)
              have hF := mi_let hF ey19
              have by19 : y19.toInt = (nu14_ 14 t17.toNatClampNeg).toInt := congrArg Int32.toInt ey19
              refine lv_goto (tgt := 80) hx hb dX12_gain_76 (by decide) ?_
              refine lv_isub hx hb dX12_gain_80 ?_
              refine lv_topi (fun t20 et20 => ?_)
              have hF := mi_let hF et20
              refine lv_istore_n (lv' := [(2, .int t20), (3, .int v3_14), (0, .ref (ad 0)), (1, .int vx)]) hx hb dX12_gain_81 rfl hl (by decide) rfl (fun ls hl => ?_)
              refine lv_iinc (v := (v3_14 + 1)) (lv' := [(3, .int (v3_14 + 1)), (2, .int t20), (0, .ref (ad 0)), (1, .int vx)]) hx hb dX12_gain_82 hl (k := 1) rfl rfl (by decide) rfl (fun ls hl => ?_)
              refine loc_gen (P := fun w9 => lv_has ls 4 [(3, .int w9), (2, .int t20), (0, .ref (ad 0)), (1, .int vx)]) (v3_14 + 1) hl (fun w21 hw21 hl => ?_)
              have hl : lv_has ls 4 [(3, .int w21), (2, .int t20), (0, .ref (ad 0)), (1, .int vx)] := hl
              have hF := mi_let hF hw21.symm
              have aw21 : w21.toInt = v3_14.toInt + 1 := by rw [← hw21]; exact tI_add (rfl : v3_14.toInt = _) (rfl : (1 : Int32).toInt = 1) (by omega) (by omega)
              refine lv_goto (tgt := 14) hx hb dX12_gain_85 (by decide) ?_
              exact ih14 (t20) (w21) nu14_ _ _ _ (by omega) (by exact ⟨by omega, by omega⟩)  ok hP  kq14_0 hF hS (lv_sub hl [0, 1, 2, 3] rfl)
          · have hF := (if_pos c_10).symm.trans hF
            have c_10 : y9.toInt = vx.toInt := il_eq c_10
            refine lv_aload_n hx hb dX12_gain_38 rfl (lv_at hl 2 rfl) ?_
            refine va_get (D := (dC, dI)) (ci := 12) (v := .ref (ad 14)) (C := RX12) (T := TX12) (N := 46) hx hb hts inG12 hown hK hP 0 (gM_0 cs ad nu14_) rfl 24 (by decide) (hts _ (List.mem_cons_of_mem _ mw_5_65)) (fun _ h9 => h9) rfl dX12_gain_39 ?_
            refine lv_bipush (v := 12) hx hb dX12_gain_42 (by decide) ?_
            refine lv_iload_n hx hb dX12_gain_44 rfl (lv_at hl 0 rfl) ?_
            refine lv_imul hx hb dX12_gain_45 ?_
            refine lv_topi (fun t22 et22 => ?_)
            have hF := mi_let hF et22
            have at22 : t22.toInt = 12 * v3_14.toInt := by rw [et22]; exact tI_mul (rfl : (12 : Int32).toInt = 12) (rfl : v3_14.toInt = _) (by omega) (by omega)
            refine lv_iconst (v := 4) hx hb dX12_gain_46 (by decide) ?_
            refine lv_iadd hx hb dX12_gain_47 ?_
            refine lv_topi (fun t23 et23 => ?_)
            have hF := mi_let hF et23
            have at23 : t23.toInt = t22.toInt + 4 := by rw [et23]; exact tI_add (rfl : t22.toInt = _) (rfl : (4 : Int32).toInt = 4) (by omega) (by omega)
            refine va_iald hx hb hK hP 14 0 (gM_14 cs ad nu14_) rfl (show vp_in t23 480 from vi_of (by omega) (by omega)) dX12_gain_48 ?_
            have hc24 : ((t23 : Int32).toNatClampNeg : Int) = t23.toInt := tC_of (by omega)
            refine lv_topi (fun y25 ey25 => ?_)
            have hF := mi_let hF ey25
            have by25 : y25.toInt = (nu14_ 14 t23.toNatClampNeg).toInt := congrArg Int32.toInt ey25
            refine lv_goto (tgt := 53) hx hb dX12_gain_49 (by decide) ?_
            refine lv_iadd hx hb dX12_gain_53 ?_
            refine lv_topi (fun t26 et26 => ?_)
            have hF := mi_let hF et26
            refine lv_istore_n (lv' := [(2, .int t26), (3, .int v3_14), (0, .ref (ad 0)), (1, .int vx)]) hx hb dX12_gain_54 rfl hl (by decide) rfl (fun ls hl => ?_)
            refine lv_iload_n hx hb dX12_gain_55 rfl (lv_at hl 0 rfl) ?_
            refine lv_aload_n hx hb dX12_gain_56 rfl (lv_at hl 2 rfl) ?_
            refine lv_iload_n hx hb dX12_gain_57 rfl (lv_at hl 1 rfl) ?_
            refine cr_i (va_runV (As := [.int v3_14]) (rest := [.int t26]) ⟨hx, hb, hml, hown, hts⟩ (sm_buyerAt l dC dI cs ad nu14_ ok H hP v3_14 (by omega)) (cwV 1 hts (wU_V mw_7_12 mw_7_9 mw_7_11 mw_0_60 mw_1_13) rfl rfl rfl (by decide +kernel) ⟨Nat.le_of_ble_eq_true rfl, Nat.le_of_ble_eq_true rfl⟩) ⟨sz_c, va_recv hK hP (ci := 12) (q0 := 0) rfl (gM_0 cs ad nu14_), sz_m hK hz⟩ rfl rfl hl.1 rfl (lv_room (Nat.le_of_ble_eq_true rfl)) dX12_gain_58 ⟨Nat.zero_le _, Nat.zero_le _⟩) hS (fun r27 hw27 locs hS => ?_)
            obtain ⟨hfe27, hw27⟩ := hw27
            have hF := mi_let hF hfe27
            refine lv_iload_n hx hb dX12_gain_61 rfl (lv_at hl 3 rfl) ?_
            refine lv_icmp_ne (tgt := 79) hx hb dX12_gain_62 (by decide) (fun c_28 => ?_) (fun c_28 => ?_)
            · have hF := (if_neg c_28).symm.trans hF
              have c_28 : ¬ r27.toInt = vx.toInt := il_ne c_28
              refine lv_iconst (v := 0) hx hb dX12_gain_79 (by decide) ?_
              refine lv_isub hx hb dX12_gain_80 ?_
              refine lv_topi (fun t29 et29 => ?_)
              have hF := mi_let hF et29
              refine lv_istore_n (lv' := [(2, .int t29), (3, .int v3_14), (0, .ref (ad 0)), (1, .int vx)]) hx hb dX12_gain_81 rfl hl (by decide) rfl (fun ls hl => ?_)
              refine lv_iinc (v := (v3_14 + 1)) (lv' := [(3, .int (v3_14 + 1)), (2, .int t29), (0, .ref (ad 0)), (1, .int vx)]) hx hb dX12_gain_82 hl (k := 1) rfl rfl (by decide) rfl (fun ls hl => ?_)
              refine loc_gen (P := fun w9 => lv_has ls 4 [(3, .int w9), (2, .int t29), (0, .ref (ad 0)), (1, .int vx)]) (v3_14 + 1) hl (fun w30 hw30 hl => ?_)
              have hl : lv_has ls 4 [(3, .int w30), (2, .int t29), (0, .ref (ad 0)), (1, .int vx)] := hl
              have hF := mi_let hF hw30.symm
              have aw30 : w30.toInt = v3_14.toInt + 1 := by rw [← hw30]; exact tI_add (rfl : v3_14.toInt = _) (rfl : (1 : Int32).toInt = 1) (by omega) (by omega)
              refine lv_goto (tgt := 14) hx hb dX12_gain_85 (by decide) ?_
              exact ih14 (t29) (w30) nu14_ _ _ _ (by omega) (by exact ⟨by omega, by omega⟩)  ok hP  kq14_0 hF hS (lv_sub hl [0, 1, 2, 3] rfl)
            · have hF := (if_pos c_28).symm.trans hF
              have c_28 : r27.toInt = vx.toInt := il_eq c_28
              refine lv_aload_n hx hb dX12_gain_65 rfl (lv_at hl 2 rfl) ?_
              refine va_get (D := (dC, dI)) (ci := 12) (v := .ref (ad 14)) (C := RX12) (T := TX12) (N := 46) hx hb hts inG12 hown hK hP 0 (gM_0 cs ad nu14_) rfl 24 (by decide) (hts _ (List.mem_cons_of_mem _ mw_5_65)) (fun _ h9 => h9) rfl dX12_gain_66 ?_
              refine lv_bipush (v := 12) hx hb dX12_gain_69 (by decide) ?_
              refine lv_iload_n hx hb dX12_gain_71 rfl (lv_at hl 1 rfl) ?_
              refine lv_imul hx hb dX12_gain_72 ?_
              refine lv_topi (fun t31 et31 => ?_)
              have hF := mi_let hF et31
              have at31 : t31.toInt = 12 * v3_14.toInt := by rw [et31]; exact tI_mul (rfl : (12 : Int32).toInt = 12) (rfl : v3_14.toInt = _) (by omega) (by omega)
              refine lv_iconst (v := 4) hx hb dX12_gain_73 (by decide) ?_
              refine lv_iadd hx hb dX12_gain_74 ?_
              refine lv_topi (fun t32 et32 => ?_)
              have hF := mi_let hF et32
              have at32 : t32.toInt = t31.toInt + 4 := by rw [et32]; exact tI_add (rfl : t31.toInt = _) (rfl : (4 : Int32).toInt = 4) (by omega) (by omega)
              refine va_iald hx hb hK hP 14 0 (gM_14 cs ad nu14_) rfl (show vp_in t32 480 from vi_of (by omega) (by omega)) dX12_gain_75 ?_
              have hc33 : ((t32 : Int32).toNatClampNeg : Int) = t32.toInt := tC_of (by omega)
              refine lv_topi (fun y34 ey34 => ?_)
              have hF := mi_let hF ey34
              have by34 : y34.toInt = (nu14_ 14 t32.toNatClampNeg).toInt := congrArg Int32.toInt ey34
              refine lv_goto (tgt := 80) hx hb dX12_gain_76 (by decide) ?_
              refine lv_isub hx hb dX12_gain_80 ?_
              refine lv_topi (fun t35 et35 => ?_)
              have hF := mi_let hF et35
              refine lv_istore_n (lv' := [(2, .int t35), (3, .int v3_14), (0, .ref (ad 0)), (1, .int vx)]) hx hb dX12_gain_81 rfl hl (by decide) rfl (fun ls hl => ?_)
              refine lv_iinc (v := (v3_14 + 1)) (lv' := [(3, .int (v3_14 + 1)), (2, .int t35), (0, .ref (ad 0)), (1, .int vx)]) hx hb dX12_gain_82 hl (k := 1) rfl rfl (by decide) rfl (fun ls hl => ?_)
              refine loc_gen (P := fun w9 => lv_has ls 4 [(3, .int w9), (2, .int t35), (0, .ref (ad 0)), (1, .int vx)]) (v3_14 + 1) hl (fun w36 hw36 hl => ?_)
              have hl : lv_has ls 4 [(3, .int w36), (2, .int t35), (0, .ref (ad 0)), (1, .int vx)] := hl
              have hF := mi_let hF hw36.symm
              have aw36 : w36.toInt = v3_14.toInt + 1 := by rw [← hw36]; exact tI_add (rfl : v3_14.toInt = _) (rfl : (1 : Int32).toInt = 1) (by omega) (by omega)
              refine lv_goto (tgt := 14) hx hb dX12_gain_85 (by decide) ?_
              exact ih14 (t35) (w36) nu14_ _ _ _ (by omega) (by exact ⟨by omega, by omega⟩)  ok hP  kq14_0 hF hS (lv_sub hl [0, 1, 2, 3] rfl)
    exact loop14 43 (0) (0) mu _ _ _ (by have h80 : (0 : Int32).toInt = 0 := rfl; have h81 : (0 : Int32).toInt = 0 := rfl; omega) (by have h80 : (0 : Int32).toInt = 0 := rfl; exact ⟨by omega, by omega⟩)  ok hP  (fun _ _ _ => rfl) hF hS hl
  · have hF := (if_neg (fun h => absurd (hfe1.trans h) (by decide))).symm.trans hF
    have f1 : vx.toInt < 0 ∨ (mu 0 8).toInt ≤ vx.toInt := f1
    refine lv_if_ne (tgt := 10) hx hb dX12_gain_5 (by decide) (fun c => absurd (by decide) c) (fun _ => ?_)
    refine lv_iconst (v := (-1)) hx hb dX12_gain_8 (by decide) ?_
    exact W.iret (v := (-1)) hx hb hr (fun t ht hW => ⟨⟨(-1), mu, rfl, ⟨hF.trans hfz.symm, ok, trivial, (fun _ _ _ => rfl)⟩, by first | (subst ht; exact hP) | (rw [ht]; exact hP) | (show va_P (dC, dI) vwCl (wR 21 ad (EM cs ad) mu) t.heap; rw [ht]; exact hP)⟩, hS.F ht⟩) hS.2.2 dX12_gain_9

