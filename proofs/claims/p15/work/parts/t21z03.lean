set_option maxHeartbeats 4000000 in
set_option maxRecDepth 100000 in
/-- qm_bundle -/
theorem qm_bundle (l : Launch) (dC : Nat → ClassId) (dI : Nat → Nat → Nat) (cs : Nat → ClassId) (ad : Nat → Nat) (mu : Nat → Nat → Int32) (ok : okR loM hiM mu) (H : Heap) (hP : va_P (dC, dI) vwCl (wR 21 ad (EM cs ad) mu) H) (hD0 : va_D (fun _ => True) (wR 21 ad (EM cs ad) mu)) (vx : Int32) : Met l yX12_bundle (wU yX12_bundle cX12_bundle 7 (some .int)) ({ frames := 3, cells := 0, slots := 0, locals := 73 }) (va_Pc [.ref (ad 0), .int vx] (sz_P (dC, dI) vwCl (tyM cs) H)) (va_Qi (fun (z : Int32) (xi : Nat → Nat → Int32) => (z, xi) = F_qm_bundle mu vx ∧ okR loM hiM xi ∧ (True) ∧ (∀ k f : Nat, Nat.testBit 510 (gpM k f) = true → xi k f = mu k f)) (fun xi t => va_P (dC, dI) vwCl (wR 21 ad (EM cs ad) xi) t.heap) (va_A (wR 21 ad (EM cs ad) mu) H.size)) 0 0 (va_A (wR 21 ad (EM cs ad) mu) H.size) := by
  refine Met.ofW (cc := cX12_bundle) (maxL := 7) (ret := (some .int)) (by decide) rfl ?_
  intro p e s m args below meth c s₁ B hml hv
  obtain ⟨rfl, hh, hK, hz⟩ := hv
  have hx := B.exec
  have hb := B.bytes
  have hr := B.returns
  have hts := atoms_spec (ws := (wU yX12_bundle cX12_bundle 7 (some .int))) B.pre
  have hown : s.vm.findClass RX12 = some m.cls := findClass_of_methodNamed B.named
  have hlocks := B.notSynchronized
  subst hh
  have hD := hD0.self (sz := s.heap.size)
  have hA : ∀ q : Nat, s.heap.size ≤ q → (va_A (wR 21 ad (EM cs ad) mu) s.heap.size) q := fun q h => Or.inr h
  have hS : va_S (va_A (wR 21 ad (EM cs ad) mu) s.heap.size) s.heap s.heap [] := va_S.rf
  have hl := lv_entry ([.ref (ad 0), .int vx]) (n := 7) (Nat.le_of_ble_eq_true rfl)
  rw [lg_entry_eq]
  generalize (lg_sl ([.ref (ad 0), .int vx]) ++ List.replicate (7 - (lg_sl ([.ref (ad 0), .int vx])).length) Slot.unset).toArray = ls at hl ⊢
  have hl : lv_has ls 7 [(0, .ref (ad 0)), (1, .int vx)] := hl
  obtain ⟨fz, hfz⟩ : ∃ z, F_qm_bundle mu vx = z := ⟨_, rfl⟩
  have hF := hfz
  unfold F_qm_bundle at hF
  refine lv_aload_n hx hb dX12_bundle_0 rfl (lv_at hl 0 rfl) ?_
  refine lv_iload_n hx hb dX12_bundle_1 rfl (lv_at hl 1 rfl) ?_
  refine cr_i (va_runV (As := [.int vx]) (rest := []) ⟨hx, hb, hml, hown, hts⟩ (sm_isOne l dC dI cs ad mu ok s.heap hP vx) (cwV 1 hts (wU_V mw_6_40 mw_6_37 mw_6_39 mw_0_36 mw_1_13) rfl rfl rfl (by decide +kernel) ⟨Nat.le_of_ble_eq_true rfl, Nat.le_of_ble_eq_true rfl⟩) ⟨sz_c, va_recv hK hP (ci := 12) (q0 := 0) rfl (gM_0 cs ad mu), sz_m hK hz⟩ rfl rfl hl.1 rfl (lv_room (Nat.le_of_ble_eq_true rfl)) dX12_bundle_2 ⟨Nat.zero_le _, Nat.zero_le _⟩) hS (fun r1 hw1 locs hS => ?_)
  obtain ⟨hfe1, hw1⟩ := hw1
  rcases hw1 with ⟨rfl, f1⟩ | ⟨rfl, f1⟩
  · have hF := (if_pos hfe1.symm).symm.trans hF
    have f1 : 0 ≤ vx.toInt ∧ vx.toInt < (mu 0 8).toInt ∧ (mu 0 8).toInt ≤ 7 := f1
    refine lv_if_ne (tgt := 10) hx hb dX12_bundle_5 (by decide) (fun _ => ?_) (fun c => absurd c (by decide))
    refine lv_iconst (v := 0) hx hb dX12_bundle_10 (by decide) ?_
    refine lv_istore_n (lv' := [(2, .int 0), (0, .ref (ad 0)), (1, .int vx)]) hx hb dX12_bundle_11 rfl hl (by decide) rfl (fun ls hl => ?_)
    refine lv_iconst (v := 1) hx hb dX12_bundle_12 (by decide) ?_
    refine lv_istore_n (lv' := [(3, .int 1), (2, .int 0), (0, .ref (ad 0)), (1, .int vx)]) hx hb dX12_bundle_13 rfl hl (by decide) rfl (fun ls hl => ?_)
    have loop14 : ∀ (n14 : Nat) (v2_14 : Int32) (v3_14 : Int32) (nu14_ : Nat → Nat → Int32) (H : Heap) (locs : List Loc) (ls : Array Slot), (4096 + 1 - v3_14.toInt).toNat < n14 → (0 ≤ v3_14.toInt ∧ v3_14.toInt ≤ 4096) → okR loM hiM nu14_ → va_P (dC, dI) vwCl (wR 21 ad (EM cs ad) nu14_) H → (∀ k f : Nat, Nat.testBit 510 (gpM k f) = true → nu14_ k f = mu k f) → L_qm_bundle_14_0 mu vx n14 v2_14 v3_14 nu14_ = fz → va_S (va_A (wR 21 ad (EM cs ad) mu) s.heap.size) s.heap H locs → lv_has ls 7 [(3, .int v3_14), (2, .int v2_14), (0, .ref (ad 0)), (1, .int vx)] → W p l e (headSpec (wU yX12_bundle cX12_bundle 7 (some .int)) ({ frames := 3, cells := 0, slots := 0, locals := 73 })).room s m ([.ref (ad 0), .int vx] : List Value).toArray below meth c H locs 0 0 (MQ below (va_Qi (fun (z : Int32) (xi : Nat → Nat → Int32) => (z, xi) = F_qm_bundle mu vx ∧ okR loM hiM xi ∧ (True) ∧ (∀ k f : Nat, Nat.testBit 510 (gpM k f) = true → xi k f = mu k f)) (fun xi t => va_P (dC, dI) vwCl (wR 21 ad (EM cs ad) xi) t.heap) (va_A (wR 21 ad (EM cs ad) mu) s.heap.size)) ([.ref (ad 0), .int vx] : List Value).toArray s 0 0 (va_A (wR 21 ad (EM cs ad) mu) s.heap.size)) (F0 m 14 ls []) := by
      intro n14
      induction n14 with
      | zero => intro v2_14 v3_14 nu14_ H locs ls hm; exact absurd hm (Nat.not_lt_zero _)
      | succ n14 ih14 =>
        intro v2_14 v3_14 nu14_ H locs ls hm h_v3_14 ok hP kq14_0 hF hS hl
        rw [L_qm_bundle_14_0] at hF
        refine lv_iload_n hx hb dX12_bundle_14 rfl (lv_at hl 0 rfl) ?_
        refine lv_iconst (v := 1) hx hb dX12_bundle_15 (by decide) ?_
        refine lv_aload_n hx hb dX12_bundle_16 rfl (lv_at hl 2 rfl) ?_
        refine va_get (D := (dC, dI)) (ci := 12) (v := .int (nu14_ 0 15)) (C := RX12) (T := TX12) (N := 46) hx hb hts inG12 hown hK hP 0 (gM_0 cs ad nu14_) rfl 15 (by decide) (hts _ (List.mem_cons_of_mem _ mw_5_56)) (fun _ h9 => h9) rfl dX12_bundle_17 ?_
        refine lv_topi (fun y2 ey2 => ?_)
        have hF := mi_let hF ey2
        have by2 : y2.toInt = (nu14_ 0 15).toInt := congrArg Int32.toInt ey2
        have gy2 : 0 ≤ y2.toInt ∧ y2.toInt ≤ 4 := by rw [ey2]; exact rM_0_15 ok
        refine lv_ishl hx hb dX12_bundle_20 ?_
        refine lv_topi (fun t3 et3 => ?_)
        have hF := mi_let hF et3
        have gt3 : 1 ≤ t3.toInt ∧ t3.toInt ≤ 4096 := by rw [et3]; exact shl12 ⟨by omega, by omega⟩
        refine lv_icmp_ge (tgt := 145) hx hb dX12_bundle_21 (by decide) (fun c_4 => ?_) (fun c_4 => ?_)
        · have hF := (if_pos c_4).symm.trans hF
          have c_4 : t3.toInt ≤ v3_14.toInt := il_le c_4
          refine lv_aload_n hx hb dX12_bundle_145 rfl (lv_at hl 2 rfl) ?_
          refine lv_iload_n hx hb dX12_bundle_146 rfl (lv_at hl 1 rfl) ?_
          refine lv_iload_n hx hb dX12_bundle_147 rfl (lv_at hl 1 rfl) ?_
          refine cr_i (va_runS (As := [.int v2_14]) (rest := [.int v2_14, .ref (ad 0)]) ⟨hx, hb, hml, hown, hts⟩ (sm_sizeOf l dC dI (tyM cs) H v2_14) (va_cwS 1 hts (wU_S mw_6_62 mw_6_60 mw_6_61 mw_1_13) rfl rfl rfl (by decide +kernel) ⟨Nat.le_of_ble_eq_true rfl, Nat.le_of_ble_eq_true rfl⟩) ⟨sz_c, sz_m hK hz⟩ rfl rfl hl.1 rfl (lv_room (Nat.le_of_ble_eq_true rfl)) dX12_bundle_148 ⟨Nat.zero_le _, Nat.zero_le _⟩) hS (fun r5 hw5 locs hS => ?_)
          obtain ⟨hfe5, hw5⟩ := hw5
          have hF := mi_let hF hfe5
          have gr5 : r5 = so v2_14 ∧ (0 ≤ v2_14.toInt → v2_14.toInt ≤ 127 → r5.toInt = (pp v2_14.toNatClampNeg : Int) ∧ pp v2_14.toNatClampNeg ≤ 7 ∧ (v2_14.toInt = 0 ∨ 1 ≤ pp v2_14.toNatClampNeg)) := hw5
          have hFc := fr_all (wR_D nu14_ hD) hS hA
          refine va_calli (va_runV (As := [.int v2_14, .int r5]) (rest := []) ⟨hx, hb, hml, hown, hts⟩ (sm_ask l dC dI cs ad nu14_ ok H hP ((wR_D nu14_ hD).weaken (fun _ _ _ _ => trivial)) v2_14 r5) (cwV 2 hts (wU_V mw_5_213 mw_5_210 mw_5_212 mw_0_30 mw_1_13) rfl rfl rfl (by decide +kernel) ⟨Nat.le_of_ble_eq_true rfl, Nat.le_of_ble_eq_true rfl⟩) ⟨sz_c, va_recv hK hP (ci := 12) (q0 := 0) rfl (gM_0 cs ad nu14_), sz_m hK hz⟩ rfl rfl hl.1 rfl (lv_room (Nat.le_of_ble_eq_true rfl)) dX12_bundle_151 ⟨Nat.zero_le _, Nat.zero_le _⟩) hS (fun q _ h => hFc q h) hFc (fun r6 xi6 t H6 locs ht hvm hw6 hB hz1 hk1 hS => ?_)
          have hP : va_P (dC, dI) vwCl (wR 21 ad (EM cs ad) xi6) H6 := by rw [← ht]; exact hB
          obtain ⟨hfe6, ok, hw6, hkp6_0⟩ := hw6
          have hF := mi_letp hF hfe6
          have kp7 : (∀ k f : Nat, Nat.testBit 510 (gpM k f) = true → xi6 k f = mu k f) := kp_t hkp6_0 (by decide) kq14_0
          have gr6 : r6.toInt = r5.toInt := hw6
          exact W.iret (v := r6) hx hb hr (fun t ht hW => ⟨⟨r6, xi6, rfl, ⟨hF.trans hfz.symm, ok, trivial, kp7⟩, by first | (subst ht; exact hP) | (rw [ht]; exact hP) | (show va_P (dC, dI) vwCl (wR 21 ad (EM cs ad) xi6) t.heap; rw [ht]; exact hP)⟩, hS.F ht⟩) hS.2.2 dX12_bundle_154
        · have hF := (if_neg c_4).symm.trans hF
          have c_4 : v3_14.toInt < t3.toInt := il_nle c_4
          refine lv_iconst (v := 0) hx hb dX12_bundle_24 (by decide) ?_
          refine lv_istore (lv' := [(4, .int 0), (3, .int v3_14), (2, .int v2_14), (0, .ref (ad 0)), (1, .int vx)]) hx hb dX12_bundle_25 hl (by decide) rfl (fun ls hl => ?_)
          refine lv_iconst (v := 1) hx hb dX12_bundle_27 (by decide) ?_
          refine lv_istore (lv' := [(5, .int 1), (4, .int 0), (3, .int v3_14), (2, .int v2_14), (0, .ref (ad 0)), (1, .int vx)]) hx hb dX12_bundle_28 hl (by decide) rfl (fun ls hl => ?_)
          refine lv_iconst (v := 0) hx hb dX12_bundle_30 (by decide) ?_
          refine lv_istore (lv' := [(6, .int 0), (5, .int 1), (4, .int 0), (3, .int v3_14), (2, .int v2_14), (0, .ref (ad 0)), (1, .int vx)]) hx hb dX12_bundle_31 hl (by decide) rfl (fun ls hl => ?_)
          have loop33 : ∀ (n33 : Nat) (v4_33 : Int32) (v5_33 : Int32) (v6_33 : Int32) (nu33_ : Nat → Nat → Int32) (H : Heap) (locs : List Loc) (ls : Array Slot), (4 + 1 - v6_33.toInt).toNat < n33 → (0 ≤ v6_33.toInt ∧ v6_33.toInt ≤ 4) → okR loM hiM nu33_ → va_P (dC, dI) vwCl (wR 21 ad (EM cs ad) nu33_) H → (∀ k f : Nat, Nat.testBit 510 (gpM k f) = true → nu33_ k f = mu k f) → L_qm_bundle_33_1 mu v2_14 v3_14 vx (fun z_v2_14 z_v3_14 z_nu14_ => L_qm_bundle_14_0 mu vx n14 z_v2_14 z_v3_14 z_nu14_) n33 v4_33 v5_33 v6_33 nu33_ = fz → va_S (va_A (wR 21 ad (EM cs ad) mu) s.heap.size) s.heap H locs → lv_has ls 7 [(6, .int v6_33), (5, .int v5_33), (4, .int v4_33), (3, .int v3_14), (2, .int v2_14), (0, .ref (ad 0)), (1, .int vx)] → W p l e (headSpec (wU yX12_bundle cX12_bundle 7 (some .int)) ({ frames := 3, cells := 0, slots := 0, locals := 73 })).room s m ([.ref (ad 0), .int vx] : List Value).toArray below meth c H locs 0 0 (MQ below (va_Qi (fun (z : Int32) (xi : Nat → Nat → Int32) => (z, xi) = F_qm_bundle mu vx ∧ okR loM hiM xi ∧ (True) ∧ (∀ k f : Nat, Nat.testBit 510 (gpM k f) = true → xi k f = mu k f)) (fun xi t => va_P (dC, dI) vwCl (wR 21 ad (EM cs ad) xi) t.heap) (va_A (wR 21 ad (EM cs ad) mu) s.heap.size)) ([.ref (ad 0), .int vx] : List Value).toArray s 0 0 (va_A (wR 21 ad (EM cs ad) mu) s.heap.size)) (F0 m 33 ls []) := by
            intro n33
            induction n33 with
            | zero => intro v4_33 v5_33 v6_33 nu33_ H locs ls hm; exact absurd hm (Nat.not_lt_zero _)
            | succ n33 ih33 =>
              intro v4_33 v5_33 v6_33 nu33_ H locs ls hm h_v6_33 ok hP kq33_0 hF hS hl
              rw [L_qm_bundle_33_1] at hF
              refine lv_iload hx hb dX12_bundle_33 (lv_at hl 0 rfl) ?_
              refine lv_aload_n hx hb dX12_bundle_35 rfl (lv_at hl 5 rfl) ?_
              refine va_get (D := (dC, dI)) (ci := 12) (v := .int (nu33_ 0 15)) (C := RX12) (T := TX12) (N := 46) hx hb hts inG12 hown hK hP 0 (gM_0 cs ad nu33_) rfl 15 (by decide) (hts _ (List.mem_cons_of_mem _ mw_5_56)) (fun _ h9 => h9) rfl dX12_bundle_36 ?_
              refine lv_topi (fun y8 ey8 => ?_)
              have hF := mi_let hF ey8
              have by8 : y8.toInt = (nu33_ 0 15).toInt := congrArg Int32.toInt ey8
              have gy8 : 0 ≤ y8.toInt ∧ y8.toInt ≤ 4 := by rw [ey8]; exact rM_0_15 ok
              refine lv_icmp_ge (tgt := 106) hx hb dX12_bundle_39 (by decide) (fun c_9 => ?_) (fun c_9 => ?_)
              · have hF := (if_pos c_9).symm.trans hF
                have c_9 : y8.toInt ≤ v6_33.toInt := il_le c_9
                refine lv_iload hx hb dX12_bundle_106 (lv_at hl 1 rfl) ?_
                refine lv_if_eq (tgt := 137) hx hb dX12_bundle_108 (by decide) (fun c_10 => ?_) (fun c_10 => ?_)
                · have hF := (if_pos c_10).symm.trans hF
                  have c_10 : v5_33.toInt = 0 := il_eq c_10
                  refine lv_iload_n hx hb dX12_bundle_137 rfl (lv_at hl 4 rfl) ?_
                  refine lv_istore_n (lv' := [(2, .int v2_14), (6, .int v6_33), (5, .int v5_33), (4, .int v4_33), (3, .int v3_14), (0, .ref (ad 0)), (1, .int vx)]) hx hb dX12_bundle_138 rfl hl (by decide) rfl (fun ls hl => ?_)
                  refine lv_iinc (v := (v3_14 + 1)) (lv' := [(3, .int (v3_14 + 1)), (2, .int v2_14), (6, .int v6_33), (5, .int v5_33), (4, .int v4_33), (0, .ref (ad 0)), (1, .int vx)]) hx hb dX12_bundle_139 hl (k := 4) rfl rfl (by decide) rfl (fun ls hl => ?_)
                  refine loc_gen (P := fun w9 => lv_has ls 7 [(3, .int w9), (2, .int v2_14), (6, .int v6_33), (5, .int v5_33), (4, .int v4_33), (0, .ref (ad 0)), (1, .int vx)]) (v3_14 + 1) hl (fun w11 hw11 hl => ?_)
                  have hl : lv_has ls 7 [(3, .int w11), (2, .int v2_14), (6, .int v6_33), (5, .int v5_33), (4, .int v4_33), (0, .ref (ad 0)), (1, .int vx)] := hl
                  have hF := mi_let hF hw11.symm
                  have aw11 : w11.toInt = v3_14.toInt + 1 := by rw [← hw11]; exact tI_add (rfl : v3_14.toInt = _) (rfl : (1 : Int32).toInt = 1) (by omega) (by omega)
                  refine lv_goto (tgt := 14) hx hb dX12_bundle_142 (by decide) ?_
                  exact ih14 (v2_14) (w11) nu33_ _ _ _ (by omega) (by exact ⟨by omega, by omega⟩)  ok hP  kq33_0 hF hS (lv_sub hl [0, 1, 5, 6] rfl)
                · have hF := (if_neg c_10).symm.trans hF
                  have c_10 : ¬ v5_33.toInt = 0 := il_ne c_10
                  refine lv_iload hx hb dX12_bundle_111 (lv_at hl 2 rfl) ?_
                  refine lv_aload_n hx hb dX12_bundle_113 rfl (lv_at hl 5 rfl) ?_
                  refine va_get (D := (dC, dI)) (ci := 12) (v := .ref (ad 8)) (C := RX12) (T := TX12) (N := 46) hx hb hts inG12 hown hK hP 0 (gM_0 cs ad nu33_) rfl 10 (by decide) (hts _ (List.mem_cons_of_mem _ mw_5_51)) (fun _ h9 => h9) rfl dX12_bundle_114 ?_
                  refine lv_iload_n hx hb dX12_bundle_117 rfl (lv_at hl 6 rfl) ?_
                  refine va_iald hx hb hK hP 8 0 (gM_8 cs ad nu33_) rfl (show vp_in vx 7 from vi_of (by omega) (by omega)) dX12_bundle_118 ?_
                  refine lv_topi (fun y12 ey12 => ?_)
                  have hF := mi_let hF ey12
                  have by12 : y12.toInt = (nu33_ 8 vx.toNatClampNeg).toInt := congrArg Int32.toInt ey12
                  refine lv_icmp_gt (tgt := 137) hx hb dX12_bundle_119 (by decide) (fun c_13 => ?_) (fun c_13 => ?_)
                  · have hF := (if_pos c_13).symm.trans hF
                    have c_13 : y12.toInt < v4_33.toInt := il_lt c_13
                    refine lv_iload_n hx hb dX12_bundle_137 rfl (lv_at hl 4 rfl) ?_
                    refine lv_istore_n (lv' := [(2, .int v2_14), (6, .int v6_33), (5, .int v5_33), (4, .int v4_33), (3, .int v3_14), (0, .ref (ad 0)), (1, .int vx)]) hx hb dX12_bundle_138 rfl hl (by decide) rfl (fun ls hl => ?_)
                    refine lv_iinc (v := (v3_14 + 1)) (lv' := [(3, .int (v3_14 + 1)), (2, .int v2_14), (6, .int v6_33), (5, .int v5_33), (4, .int v4_33), (0, .ref (ad 0)), (1, .int vx)]) hx hb dX12_bundle_139 hl (k := 4) rfl rfl (by decide) rfl (fun ls hl => ?_)
                    refine loc_gen (P := fun w9 => lv_has ls 7 [(3, .int w9), (2, .int v2_14), (6, .int v6_33), (5, .int v5_33), (4, .int v4_33), (0, .ref (ad 0)), (1, .int vx)]) (v3_14 + 1) hl (fun w14 hw14 hl => ?_)
                    have hl : lv_has ls 7 [(3, .int w14), (2, .int v2_14), (6, .int v6_33), (5, .int v5_33), (4, .int v4_33), (0, .ref (ad 0)), (1, .int vx)] := hl
                    have hF := mi_let hF hw14.symm
                    have aw14 : w14.toInt = v3_14.toInt + 1 := by rw [← hw14]; exact tI_add (rfl : v3_14.toInt = _) (rfl : (1 : Int32).toInt = 1) (by omega) (by omega)
                    refine lv_goto (tgt := 14) hx hb dX12_bundle_142 (by decide) ?_
                    exact ih14 (v2_14) (w14) nu33_ _ _ _ (by omega) (by exact ⟨by omega, by omega⟩)  ok hP  kq33_0 hF hS (lv_sub hl [0, 1, 5, 6] rfl)
                  · have hF := (if_neg c_13).symm.trans hF
                    have c_13 : v4_33.toInt ≤ y12.toInt := il_nlt c_13
                    refine lv_iload_n hx hb dX12_bundle_122 rfl (lv_at hl 3 rfl) ?_
                    refine cr_i (va_runS (As := [.int v3_14]) (rest := []) ⟨hx, hb, hml, hown, hts⟩ (sm_sizeOf l dC dI (tyM cs) H v3_14) (va_cwS 1 hts (wU_S mw_6_62 mw_6_60 mw_6_61 mw_1_13) rfl rfl rfl (by decide +kernel) ⟨Nat.le_of_ble_eq_true rfl, Nat.le_of_ble_eq_true rfl⟩) ⟨sz_c, sz_m hK hz⟩ rfl rfl hl.1 rfl (lv_room (Nat.le_of_ble_eq_true rfl)) dX12_bundle_123 ⟨Nat.zero_le _, Nat.zero_le _⟩) hS (fun r15 hw15 locs hS => ?_)
                    obtain ⟨hfe15, hw15⟩ := hw15
                    have hF := mi_let hF hfe15
                    have gr15 : r15 = so v3_14 ∧ (0 ≤ v3_14.toInt → v3_14.toInt ≤ 127 → r15.toInt = (pp v3_14.toNatClampNeg : Int) ∧ pp v3_14.toNatClampNeg ≤ 7 ∧ (v3_14.toInt = 0 ∨ 1 ≤ pp v3_14.toNatClampNeg)) := hw15
                    refine lv_iload_n hx hb dX12_bundle_126 rfl (lv_at hl 4 rfl) ?_
                    refine cr_i (va_runS (As := [.int v2_14]) (rest := [.int r15]) ⟨hx, hb, hml, hown, hts⟩ (sm_sizeOf l dC dI (tyM cs) H v2_14) (va_cwS 1 hts (wU_S mw_6_62 mw_6_60 mw_6_61 mw_1_13) rfl rfl rfl (by decide +kernel) ⟨Nat.le_of_ble_eq_true rfl, Nat.le_of_ble_eq_true rfl⟩) ⟨sz_c, sz_m hK hz⟩ rfl rfl hl.1 rfl (lv_room (Nat.le_of_ble_eq_true rfl)) dX12_bundle_127 ⟨Nat.zero_le _, Nat.zero_le _⟩) hS (fun r16 hw16 locs hS => ?_)
                    obtain ⟨hfe16, hw16⟩ := hw16
                    have hF := mi_let hF hfe16
                    have gr16 : r16 = so v2_14 ∧ (0 ≤ v2_14.toInt → v2_14.toInt ≤ 127 → r16.toInt = (pp v2_14.toNatClampNeg : Int) ∧ pp v2_14.toNatClampNeg ≤ 7 ∧ (v2_14.toInt = 0 ∨ 1 ≤ pp v2_14.toNatClampNeg)) := hw16
                    refine lv_icmp_le (tgt := 137) hx hb dX12_bundle_130 (by decide) (fun c_17 => ?_) (fun c_17 => ?_)
                    · have hF := (if_pos c_17).symm.trans hF
                      have c_17 : r15.toInt ≤ r16.toInt := il_le c_17
                      refine lv_iload_n hx hb dX12_bundle_137 rfl (lv_at hl 4 rfl) ?_
                      refine lv_istore_n (lv' := [(2, .int v2_14), (6, .int v6_33), (5, .int v5_33), (4, .int v4_33), (3, .int v3_14), (0, .ref (ad 0)), (1, .int vx)]) hx hb dX12_bundle_138 rfl hl (by decide) rfl (fun ls hl => ?_)
                      refine lv_iinc (v := (v3_14 + 1)) (lv' := [(3, .int (v3_14 + 1)), (2, .int v2_14), (6, .int v6_33), (5, .int v5_33), (4, .int v4_33), (0, .ref (ad 0)), (1, .int vx)]) hx hb dX12_bundle_139 hl (k := 4) rfl rfl (by decide) rfl (fun ls hl => ?_)
                      refine loc_gen (P := fun w9 => lv_has ls 7 [(3, .int w9), (2, .int v2_14), (6, .int v6_33), (5, .int v5_33), (4, .int v4_33), (0, .ref (ad 0)), (1, .int vx)]) (v3_14 + 1) hl (fun w18 hw18 hl => ?_)
                      have hl : lv_has ls 7 [(3, .int w18), (2, .int v2_14), (6, .int v6_33), (5, .int v5_33), (4, .int v4_33), (0, .ref (ad 0)), (1, .int vx)] := hl
                      have hF := mi_let hF hw18.symm
                      have aw18 : w18.toInt = v3_14.toInt + 1 := by rw [← hw18]; exact tI_add (rfl : v3_14.toInt = _) (rfl : (1 : Int32).toInt = 1) (by omega) (by omega)
                      refine lv_goto (tgt := 14) hx hb dX12_bundle_142 (by decide) ?_
                      exact ih14 (v2_14) (w18) nu33_ _ _ _ (by omega) (by exact ⟨by omega, by omega⟩)  ok hP  kq33_0 hF hS (lv_sub hl [0, 1, 5, 6] rfl)
                    · have hF := (if_neg c_17).symm.trans hF
                      have c_17 : r16.toInt < r15.toInt := il_nle c_17
                      refine lv_iload_n hx hb dX12_bundle_133 rfl (lv_at hl 3 rfl) ?_
                      refine lv_goto (tgt := 138) hx hb dX12_bundle_134 (by decide) ?_
                      refine lv_istore_n (lv' := [(2, .int v3_14), (6, .int v6_33), (5, .int v5_33), (4, .int v4_33), (3, .int v3_14), (0, .ref (ad 0)), (1, .int vx)]) hx hb dX12_bundle_138 rfl hl (by decide) rfl (fun ls hl => ?_)
                      refine lv_iinc (v := (v3_14 + 1)) (lv' := [(3, .int (v3_14 + 1)), (2, .int v3_14), (6, .int v6_33), (5, .int v5_33), (4, .int v4_33), (0, .ref (ad 0)), (1, .int vx)]) hx hb dX12_bundle_139 hl (k := 4) rfl rfl (by decide) rfl (fun ls hl => ?_)
                      refine loc_gen (P := fun w9 => lv_has ls 7 [(3, .int w9), (2, .int v3_14), (6, .int v6_33), (5, .int v5_33), (4, .int v4_33), (0, .ref (ad 0)), (1, .int vx)]) (v3_14 + 1) hl (fun w19 hw19 hl => ?_)
                      have hl : lv_has ls 7 [(3, .int w19), (2, .int v3_14), (6, .int v6_33), (5, .int v5_33), (4, .int v4_33), (0, .ref (ad 0)), (1, .int vx)] := hl
                      have hF := mi_let hF hw19.symm
                      have aw19 : w19.toInt = v3_14.toInt + 1 := by rw [← hw19]; exact tI_add (rfl : v3_14.toInt = _) (rfl : (1 : Int32).toInt = 1) (by omega) (by omega)
                      refine lv_goto (tgt := 14) hx hb dX12_bundle_142 (by decide) ?_
                      exact ih14 (v3_14) (w19) nu33_ _ _ _ (by omega) (by exact ⟨by omega, by omega⟩)  ok hP  kq33_0 hF hS (lv_sub hl [0, 1, 5, 6] rfl)
              · have hF := (if_neg c_9).symm.trans hF
                have c_9 : v6_33.toInt < y8.toInt := il_nle c_9
                refine lv_iload hx hb dX12_bundle_42 (lv_at hl 1 rfl) ?_
                refine lv_if_eq (tgt := 73) hx hb dX12_bundle_44 (by decide) (fun c_20 => ?_) (fun c_20 => ?_)
                · have hF := (if_pos c_20).symm.trans hF
                  have c_20 : v5_33.toInt = 0 := il_eq c_20
                  refine lv_iconst (v := 0) hx hb dX12_bundle_73 (by decide) ?_
                  refine lv_istore (lv' := [(5, .int 0), (6, .int v6_33), (4, .int v4_33), (3, .int v3_14), (2, .int v2_14), (0, .ref (ad 0)), (1, .int vx)]) hx hb dX12_bundle_74 hl (by decide) rfl (fun ls hl => ?_)
                  refine lv_iload hx hb dX12_bundle_76 (lv_at hl 2 rfl) ?_
                  refine lv_iload_n hx hb dX12_bundle_78 rfl (lv_at hl 3 rfl) ?_
                  refine lv_iload hx hb dX12_bundle_79 (lv_at hl 1 rfl) ?_
                  refine cr_i (va_runS (As := [.int v3_14, .int v6_33]) (rest := [.int v4_33]) ⟨hx, hb, hml, hown, hts⟩ (sm_has l dC dI (tyM cs) H v3_14 v6_33) (va_cwS 2 hts (wU_S mw_6_59 mw_6_57 mw_6_58 mw_1_13) rfl rfl rfl (by decide +kernel) ⟨Nat.le_of_ble_eq_true rfl, Nat.le_of_ble_eq_true rfl⟩) ⟨sz_c, sz_m hK hz⟩ rfl rfl hl.1 rfl (lv_room (Nat.le_of_ble_eq_true rfl)) dX12_bundle_81 ⟨Nat.zero_le _, Nat.zero_le _⟩) hS (fun r21 hw21 locs hS => ?_)
                  obtain ⟨hfe21, hw21⟩ := hw21
                  rcases hw21 with ⟨rfl, f21⟩ | ⟨rfl, f21⟩
                  · have hF := (if_pos hfe21.symm).symm.trans hF
                    have f21 : rb v3_14 v6_33 = 1 := f21
                    refine lv_if_eq (tgt := 96) hx hb dX12_bundle_84 (by decide) (fun c => absurd c (by decide)) (fun _ => ?_)
                    refine lv_aload_n hx hb dX12_bundle_87 rfl (lv_at hl 5 rfl) ?_
                    refine lv_iload hx hb dX12_bundle_88 (lv_at hl 1 rfl) ?_
                    refine cr_i (va_runV (As := [.int v6_33]) (rest := [.int v4_33]) ⟨hx, hb, hml, hown, hts⟩ (sm_priceOf l dC dI cs ad nu33_ ok H hP v6_33 (by omega)) (cwV 1 hts (wU_V mw_6_122 mw_6_119 mw_6_121 mw_0_48 mw_1_13) rfl rfl rfl (by decide +kernel) ⟨Nat.le_of_ble_eq_true rfl, Nat.le_of_ble_eq_true rfl⟩) ⟨sz_c, va_recv hK hP (ci := 12) (q0 := 0) rfl (gM_0 cs ad nu33_), sz_m hK hz⟩ rfl rfl hl.1 rfl (lv_room (Nat.le_of_ble_eq_true rfl)) dX12_bundle_90 ⟨Nat.zero_le _, Nat.zero_le _⟩) hS (fun r22 hw22 locs hS => ?_)
                    obtain ⟨hfe22, hw22⟩ := hw22
                    have hF := mi_let hF hfe22
                    refine lv_goto (tgt := 97) hx hb dX12_bundle_93 (by decide) ?_
                    refine lv_iadd hx hb dX12_bundle_97 ?_
                    refine lv_topi (fun t23 et23 => ?_)
                    have hF := mi_let hF et23
                    refine lv_istore (lv' := [(4, .int t23), (5, .int 0), (6, .int v6_33), (3, .int v3_14), (2, .int v2_14), (0, .ref (ad 0)), (1, .int vx)]) hx hb dX12_bundle_98 hl (by decide) rfl (fun ls hl => ?_)
                    refine lv_iinc (v := (v6_33 + 1)) (lv' := [(6, .int (v6_33 + 1)), (4, .int t23), (5, .int 0), (3, .int v3_14), (2, .int v2_14), (0, .ref (ad 0)), (1, .int vx)]) hx hb dX12_bundle_100 hl (k := 2) rfl rfl (by decide) rfl (fun ls hl => ?_)
                    refine loc_gen (P := fun w9 => lv_has ls 7 [(6, .int w9), (4, .int t23), (5, .int 0), (3, .int v3_14), (2, .int v2_14), (0, .ref (ad 0)), (1, .int vx)]) (v6_33 + 1) hl (fun w24 hw24 hl => ?_)
                    have hl : lv_has ls 7 [(6, .int w24), (4, .int t23), (5, .int 0), (3, .int v3_14), (2, .int v2_14), (0, .ref (ad 0)), (1, .int vx)] := hl
                    have hF := mi_let hF hw24.symm
                    have aw24 : w24.toInt = v6_33.toInt + 1 := by rw [← hw24]; exact tI_add (rfl : v6_33.toInt = _) (rfl : (1 : Int32).toInt = 1) (by omega) (by omega)
                    refine lv_goto (tgt := 33) hx hb dX12_bundle_103 (by decide) ?_
                    exact ih33 (t23) (0) (w24) nu33_ _ _ _ (by have h81 : (0 : Int32).toInt = 0 := rfl; omega) (by exact ⟨by omega, by omega⟩)  ok hP  kq33_0 hF hS (lv_sub hl [0, 2, 1, 3, 4, 5, 6] rfl)
                  · have hF := (if_neg (fun h => absurd (hfe21.trans h) (by decide))).symm.trans hF
                    have f21 : ¬ rb v3_14 v6_33 = 1 := f21
                    refine lv_if_eq (tgt := 96) hx hb dX12_bundle_84 (by decide) (fun _ => ?_) (fun c => absurd (by decide) c)
                    refine lv_iconst (v := 0) hx hb dX12_bundle_96 (by decide) ?_
                    refine lv_iadd hx hb dX12_bundle_97 ?_
                    refine lv_topi (fun t25 et25 => ?_)
                    have hF := mi_let hF et25
                    refine lv_istore (lv' := [(4, .int t25), (5, .int 0), (6, .int v6_33), (3, .int v3_14), (2, .int v2_14), (0, .ref (ad 0)), (1, .int vx)]) hx hb dX12_bundle_98 hl (by decide) rfl (fun ls hl => ?_)
                    refine lv_iinc (v := (v6_33 + 1)) (lv' := [(6, .int (v6_33 + 1)), (4, .int t25), (5, .int 0), (3, .int v3_14), (2, .int v2_14), (0, .ref (ad 0)), (1, .int vx)]) hx hb dX12_bundle_100 hl (k := 2) rfl rfl (by decide) rfl (fun ls hl => ?_)
                    refine loc_gen (P := fun w9 => lv_has ls 7 [(6, .int w9), (4, .int t25), (5, .int 0), (3, .int v3_14), (2, .int v2_14), (0, .ref (ad 0)), (1, .int vx)]) (v6_33 + 1) hl (fun w26 hw26 hl => ?_)
                    have hl : lv_has ls 7 [(6, .int w26), (4, .int t25), (5, .int 0), (3, .int v3_14), (2, .int v2_14), (0, .ref (ad 0)), (1, .int vx)] := hl
                    have hF := mi_let hF hw26.symm
                    have aw26 : w26.toInt = v6_33.toInt + 1 := by rw [← hw26]; exact tI_add (rfl : v6_33.toInt = _) (rfl : (1 : Int32).toInt = 1) (by omega) (by omega)
                    refine lv_goto (tgt := 33) hx hb dX12_bundle_103 (by decide) ?_
                    exact ih33 (t25) (0) (w26) nu33_ _ _ _ (by have h81 : (0 : Int32).toInt = 0 := rfl; omega) (by exact ⟨by omega, by omega⟩)  ok hP  kq33_0 hF hS (lv_sub hl [0, 2, 1, 3, 4, 5, 6] rfl)
                · have hF := (if_neg c_20).symm.trans hF
                  have c_20 : ¬ v5_33.toInt = 0 := il_ne c_20
                  refine lv_iload_n hx hb dX12_bundle_47 rfl (lv_at hl 3 rfl) ?_
                  refine lv_iload hx hb dX12_bundle_48 (lv_at hl 0 rfl) ?_
                  refine cr_i (va_runS (As := [.int v3_14, .int v6_33]) (rest := []) ⟨hx, hb, hml, hown, hts⟩ (sm_has l dC dI (tyM cs) H v3_14 v6_33) (va_cwS 2 hts (wU_S mw_6_59 mw_6_57 mw_6_58 mw_1_13) rfl rfl rfl (by decide +kernel) ⟨Nat.le_of_ble_eq_true rfl, Nat.le_of_ble_eq_true rfl⟩) ⟨sz_c, sz_m hK hz⟩ rfl rfl hl.1 rfl (lv_room (Nat.le_of_ble_eq_true rfl)) dX12_bundle_50 ⟨Nat.zero_le _, Nat.zero_le _⟩) hS (fun r27 hw27 locs hS => ?_)
                  obtain ⟨hfe27, hw27⟩ := hw27
                  rcases hw27 with ⟨rfl, f27⟩ | ⟨rfl, f27⟩
                  · have hF := (if_pos hfe27.symm).symm.trans hF
                    have f27 : rb v3_14 v6_33 = 1 := f27
                    refine lv_if_eq (tgt := 69) hx hb dX12_bundle_53 (by decide) (fun c => absurd c (by decide)) (fun _ => ?_)
                    refine lv_aload_n hx hb dX12_bundle_56 rfl (lv_at hl 5 rfl) ?_
                    refine lv_iload hx hb dX12_bundle_57 (lv_at hl 0 rfl) ?_
                    refine cr_i (va_runV (As := [.int v6_33]) (rest := []) ⟨hx, hb, hml, hown, hts⟩ (sm_canSell l dC dI cs ad nu33_ ok H hP v6_33 (by omega)) (cwV 1 hts (wU_V mw_6_118 mw_6_115 mw_6_117 mw_0_47 mw_1_13) rfl rfl rfl (by decide +kernel) ⟨Nat.le_of_ble_eq_true rfl, Nat.le_of_ble_eq_true rfl⟩) ⟨sz_c, va_recv hK hP (ci := 12) (q0 := 0) rfl (gM_0 cs ad nu33_), sz_m hK hz⟩ rfl rfl hl.1 rfl (lv_room (Nat.le_of_ble_eq_true rfl)) dX12_bundle_59 ⟨Nat.zero_le _, Nat.zero_le _⟩) hS (fun r28 hw28 locs hS => ?_)
                    obtain ⟨hfe28, hw28⟩ := hw28
                    have hF := mi_let hF hfe28
                    have gr28 : 0 ≤ r28.toInt ∧ r28.toInt ≤ 127 := hw28
                    refine lv_iload_n hx hb dX12_bundle_62 rfl (lv_at hl 6 rfl) ?_
                    refine cr_i (va_runS (As := [.int r28, .int vx]) (rest := []) ⟨hx, hb, hml, hown, hts⟩ (sm_has l dC dI (tyM cs) H r28 vx) (va_cwS 2 hts (wU_S mw_6_59 mw_6_57 mw_6_58 mw_1_13) rfl rfl rfl (by decide +kernel) ⟨Nat.le_of_ble_eq_true rfl, Nat.le_of_ble_eq_true rfl⟩) ⟨sz_c, sz_m hK hz⟩ rfl rfl hl.1 rfl (lv_room (Nat.le_of_ble_eq_true rfl)) dX12_bundle_63 ⟨Nat.zero_le _, Nat.zero_le _⟩) hS (fun r29 hw29 locs hS => ?_)
                    obtain ⟨hfe29, hw29⟩ := hw29
                    rcases hw29 with ⟨rfl, f29⟩ | ⟨rfl, f29⟩
                    · have hF := (if_pos hfe29.symm).symm.trans hF
                      have f29 : rb r28 vx = 1 := f29
                      refine lv_if_eq (tgt := 73) hx hb dX12_bundle_66 (by decide) (fun c => absurd c (by decide)) (fun _ => ?_)
                      refine lv_iconst (v := 1) hx hb dX12_bundle_69 (by decide) ?_
                      refine lv_goto (tgt := 74) hx hb dX12_bundle_70 (by decide) ?_
                      refine lv_istore (lv' := [(5, .int 1), (6, .int v6_33), (4, .int v4_33), (3, .int v3_14), (2, .int v2_14), (0, .ref (ad 0)), (1, .int vx)]) hx hb dX12_bundle_74 hl (by decide) rfl (fun ls hl => ?_)
                      refine lv_iload hx hb dX12_bundle_76 (lv_at hl 2 rfl) ?_
                      refine lv_iload_n hx hb dX12_bundle_78 rfl (lv_at hl 3 rfl) ?_
                      refine lv_iload hx hb dX12_bundle_79 (lv_at hl 1 rfl) ?_
                      refine cr_i (va_runS (As := [.int v3_14, .int v6_33]) (rest := [.int v4_33]) ⟨hx, hb, hml, hown, hts⟩ (sm_has l dC dI (tyM cs) H v3_14 v6_33) (va_cwS 2 hts (wU_S mw_6_59 mw_6_57 mw_6_58 mw_1_13) rfl rfl rfl (by decide +kernel) ⟨Nat.le_of_ble_eq_true rfl, Nat.le_of_ble_eq_true rfl⟩) ⟨sz_c, sz_m hK hz⟩ rfl rfl hl.1 rfl (lv_room (Nat.le_of_ble_eq_true rfl)) dX12_bundle_81 ⟨Nat.zero_le _, Nat.zero_le _⟩) hS (fun r30 hw30 locs hS => ?_)
                      obtain ⟨hfe30, hw30⟩ := hw30
                      rcases hw30 with ⟨rfl, f30⟩ | ⟨rfl, f30⟩
                      · have hF := (if_pos hfe30.symm).symm.trans hF
                        have f30 : rb v3_14 v6_33 = 1 := f30
                        refine lv_if_eq (tgt := 96) hx hb dX12_bundle_84 (by decide) (fun c => absurd c (by decide)) (fun _ => ?_)
                        refine lv_aload_n hx hb dX12_bundle_87 rfl (lv_at hl 5 rfl) ?_
                        refine lv_iload hx hb dX12_bundle_88 (lv_at hl 1 rfl) ?_
                        refine cr_i (va_runV (As := [.int v6_33]) (rest := [.int v4_33]) ⟨hx, hb, hml, hown, hts⟩ (sm_priceOf l dC dI cs ad nu33_ ok H hP v6_33 (by omega)) (cwV 1 hts (wU_V mw_6_122 mw_6_119 mw_6_121 mw_0_48 mw_1_13) rfl rfl rfl (by decide +kernel) ⟨Nat.le_of_ble_eq_true rfl, Nat.le_of_ble_eq_true rfl⟩) ⟨sz_c, va_recv hK hP (ci := 12) (q0 := 0) rfl (gM_0 cs ad nu33_), sz_m hK hz⟩ rfl rfl hl.1 rfl (lv_room (Nat.le_of_ble_eq_true rfl)) dX12_bundle_90 ⟨Nat.zero_le _, Nat.zero_le _⟩) hS (fun r31 hw31 locs hS => ?_)
                        obtain ⟨hfe31, hw31⟩ := hw31
                        have hF := mi_let hF hfe31
                        refine lv_goto (tgt := 97) hx hb dX12_bundle_93 (by decide) ?_
                        refine lv_iadd hx hb dX12_bundle_97 ?_
                        refine lv_topi (fun t32 et32 => ?_)
                        have hF := mi_let hF et32
                        refine lv_istore (lv' := [(4, .int t32), (5, .int 1), (6, .int v6_33), (3, .int v3_14), (2, .int v2_14), (0, .ref (ad 0)), (1, .int vx)]) hx hb dX12_bundle_98 hl (by decide) rfl (fun ls hl => ?_)
                        refine lv_iinc (v := (v6_33 + 1)) (lv' := [(6, .int (v6_33 + 1)), (4, .int t32), (5, .int 1), (3, .int v3_14), (2, .int v2_14), (0, .ref (ad 0)), (1, .int vx)]) hx hb dX12_bundle_100 hl (k := 2) rfl rfl (by decide) rfl (fun ls hl => ?_)
                        refine loc_gen (P := fun w9 => lv_has ls 7 [(6, .int w9), (4, .int t32), (5, .int 1), (3, .int v3_14), (2, .int v2_14), (0, .ref (ad 0)), (1, .int vx)]) (v6_33 + 1) hl (fun w33 hw33 hl => ?_)
                        have hl : lv_has ls 7 [(6, .int w33), (4, .int t32), (5, .int 1), (3, .int v3_14), (2, .int v2_14), (0, .ref (ad 0)), (1, .int vx)] := hl
                        have hF := mi_let hF hw33.symm
                        have aw33 : w33.toInt = v6_33.toInt + 1 := by rw [← hw33]; exact tI_add (rfl : v6_33.toInt = _) (rfl : (1 : Int32).toInt = 1) (by omega) (by omega)
                        refine lv_goto (tgt := 33) hx hb dX12_bundle_103 (by decide) ?_
                        exact ih33 (t32) (1) (w33) nu33_ _ _ _ (by have h81 : (1 : Int32).toInt = 1 := rfl; omega) (by exact ⟨by omega, by omega⟩)  ok hP  kq33_0 hF hS (lv_sub hl [0, 2, 1, 3, 4, 5, 6] rfl)
                      · exact absurd f27 f30
                    · have hF := (if_neg (fun h => absurd (hfe29.trans h) (by decide))).symm.trans hF
                      have f29 : ¬ rb r28 vx = 1 := f29
                      refine lv_if_eq (tgt := 73) hx hb dX12_bundle_66 (by decide) (fun _ => ?_) (fun c => absurd (by decide) c)
                      refine lv_iconst (v := 0) hx hb dX12_bundle_73 (by decide) ?_
                      refine lv_istore (lv' := [(5, .int 0), (6, .int v6_33), (4, .int v4_33), (3, .int v3_14), (2, .int v2_14), (0, .ref (ad 0)), (1, .int vx)]) hx hb dX12_bundle_74 hl (by decide) rfl (fun ls hl => ?_)
                      refine lv_iload hx hb dX12_bundle_76 (lv_at hl 2 rfl) ?_
                      refine lv_iload_n hx hb dX12_bundle_78 rfl (lv_at hl 3 rfl) ?_
                      refine lv_iload hx hb dX12_bundle_79 (lv_at hl 1 rfl) ?_
                      refine cr_i (va_runS (As := [.int v3_14, .int v6_33]) (rest := [.int v4_33]) ⟨hx, hb, hml, hown, hts⟩ (sm_has l dC dI (tyM cs) H v3_14 v6_33) (va_cwS 2 hts (wU_S mw_6_59 mw_6_57 mw_6_58 mw_1_13) rfl rfl rfl (by decide +kernel) ⟨Nat.le_of_ble_eq_true rfl, Nat.le_of_ble_eq_true rfl⟩) ⟨sz_c, sz_m hK hz⟩ rfl rfl hl.1 rfl (lv_room (Nat.le_of_ble_eq_true rfl)) dX12_bundle_81 ⟨Nat.zero_le _, Nat.zero_le _⟩) hS (fun r34 hw34 locs hS => ?_)
                      obtain ⟨hfe34, hw34⟩ := hw34
                      rcases hw34 with ⟨rfl, f34⟩ | ⟨rfl, f34⟩
                      · have hF := (if_pos hfe34.symm).symm.trans hF
                        have f34 : rb v3_14 v6_33 = 1 := f34
                        refine lv_if_eq (tgt := 96) hx hb dX12_bundle_84 (by decide) (fun c => absurd c (by decide)) (fun _ => ?_)
                        refine lv_aload_n hx hb dX12_bundle_87 rfl (lv_at hl 5 rfl) ?_
                        refine lv_iload hx hb dX12_bundle_88 (lv_at hl 1 rfl) ?_
                        refine cr_i (va_runV (As := [.int v6_33]) (rest := [.int v4_33]) ⟨hx, hb, hml, hown, hts⟩ (sm_priceOf l dC dI cs ad nu33_ ok H hP v6_33 (by omega)) (cwV 1 hts (wU_V mw_6_122 mw_6_119 mw_6_121 mw_0_48 mw_1_13) rfl rfl rfl (by decide +kernel) ⟨Nat.le_of_ble_eq_true rfl, Nat.le_of_ble_eq_true rfl⟩) ⟨sz_c, va_recv hK hP (ci := 12) (q0 := 0) rfl (gM_0 cs ad nu33_), sz_m hK hz⟩ rfl rfl hl.1 rfl (lv_room (Nat.le_of_ble_eq_true rfl)) dX12_bundle_90 ⟨Nat.zero_le _, Nat.zero_le _⟩) hS (fun r35 hw35 locs hS => ?_)
                        obtain ⟨hfe35, hw35⟩ := hw35
                        have hF := mi_let hF hfe35
                        refine lv_goto (tgt := 97) hx hb dX12_bundle_93 (by decide) ?_
                        refine lv_iadd hx hb dX12_bundle_97 ?_
                        refine lv_topi (fun t36 et36 => ?_)
                        have hF := mi_let hF et36
                        refine lv_istore (lv' := [(4, .int t36), (5, .int 0), (6, .int v6_33), (3, .int v3_14), (2, .int v2_14), (0, .ref (ad 0)), (1, .int vx)]) hx hb dX12_bundle_98 hl (by decide) rfl (fun ls hl => ?_)
                        refine lv_iinc (v := (v6_33 + 1)) (lv' := [(6, .int (v6_33 + 1)), (4, .int t36), (5, .int 0), (3, .int v3_14), (2, .int v2_14), (0, .ref (ad 0)), (1, .int vx)]) hx hb dX12_bundle_100 hl (k := 2) rfl rfl (by decide) rfl (fun ls hl => ?_)
                        refine loc_gen (P := fun w9 => lv_has ls 7 [(6, .int w9), (4, .int t36), (5, .int 0), (3, .int v3_14), (2, .int v2_14), (0, .ref (ad 0)), (1, .int vx)]) (v6_33 + 1) hl (fun w37 hw37 hl => ?_)
                        have hl : lv_has ls 7 [(6, .int w37), (4, .int t36), (5, .int 0), (3, .int v3_14), (2, .int v2_14), (0, .ref (ad 0)), (1, .int vx)] := hl
                        have hF := mi_let hF hw37.symm
                        have aw37 : w37.toInt = v6_33.toInt + 1 := by rw [← hw37]; exact tI_add (rfl : v6_33.toInt = _) (rfl : (1 : Int32).toInt = 1) (by omega) (by omega)
                        refine lv_goto (tgt := 33) hx hb dX12_bundle_103 (by decide) ?_
                        exact ih33 (t36) (0) (w37) nu33_ _ _ _ (by have h81 : (0 : Int32).toInt = 0 := rfl; omega) (by exact ⟨by omega, by omega⟩)  ok hP  kq33_0 hF hS (lv_sub hl [0, 2, 1, 3, 4, 5, 6] rfl)
                      · exact absurd f27 f34
                  · have hF := (if_neg (fun h => absurd (hfe27.trans h) (by decide))).symm.trans hF
                    have f27 : ¬ rb v3_14 v6_33 = 1 := f27
                    refine lv_if_eq (tgt := 69) hx hb dX12_bundle_53 (by decide) (fun _ => ?_) (fun c => absurd (by decide) c)
                    refine lv_iconst (v := 1) hx hb dX12_bundle_69 (by decide) ?_
                    refine lv_goto (tgt := 74) hx hb dX12_bundle_70 (by decide) ?_
                    refine lv_istore (lv' := [(5, .int 1), (6, .int v6_33), (4, .int v4_33), (3, .int v3_14), (2, .int v2_14), (0, .ref (ad 0)), (1, .int vx)]) hx hb dX12_bundle_74 hl (by decide) rfl (fun ls hl => ?_)
                    refine lv_iload hx hb dX12_bundle_76 (lv_at hl 2 rfl) ?_
                    refine lv_iload_n hx hb dX12_bundle_78 rfl (lv_at hl 3 rfl) ?_
                    refine lv_iload hx hb dX12_bundle_79 (lv_at hl 1 rfl) ?_
                    refine cr_i (va_runS (As := [.int v3_14, .int v6_33]) (rest := [.int v4_33]) ⟨hx, hb, hml, hown, hts⟩ (sm_has l dC dI (tyM cs) H v3_14 v6_33) (va_cwS 2 hts (wU_S mw_6_59 mw_6_57 mw_6_58 mw_1_13) rfl rfl rfl (by decide +kernel) ⟨Nat.le_of_ble_eq_true rfl, Nat.le_of_ble_eq_true rfl⟩) ⟨sz_c, sz_m hK hz⟩ rfl rfl hl.1 rfl (lv_room (Nat.le_of_ble_eq_true rfl)) dX12_bundle_81 ⟨Nat.zero_le _, Nat.zero_le _⟩) hS (fun r38 hw38 locs hS => ?_)
                    obtain ⟨hfe38, hw38⟩ := hw38
                    rcases hw38 with ⟨rfl, f38⟩ | ⟨rfl, f38⟩
                    · exact absurd f38 f27
                    · have hF := (if_neg (fun h => absurd (hfe38.trans h) (by decide))).symm.trans hF
                      have f38 : ¬ rb v3_14 v6_33 = 1 := f38
                      refine lv_if_eq (tgt := 96) hx hb dX12_bundle_84 (by decide) (fun _ => ?_) (fun c => absurd (by decide) c)
                      refine lv_iconst (v := 0) hx hb dX12_bundle_96 (by decide) ?_
                      refine lv_iadd hx hb dX12_bundle_97 ?_
                      refine lv_topi (fun t39 et39 => ?_)
                      have hF := mi_let hF et39
                      refine lv_istore (lv' := [(4, .int t39), (5, .int 1), (6, .int v6_33), (3, .int v3_14), (2, .int v2_14), (0, .ref (ad 0)), (1, .int vx)]) hx hb dX12_bundle_98 hl (by decide) rfl (fun ls hl => ?_)
                      refine lv_iinc (v := (v6_33 + 1)) (lv' := [(6, .int (v6_33 + 1)), (4, .int t39), (5, .int 1), (3, .int v3_14), (2, .int v2_14), (0, .ref (ad 0)), (1, .int vx)]) hx hb dX12_bundle_100 hl (k := 2) rfl rfl (by decide) rfl (fun ls hl => ?_)
                      refine loc_gen (P := fun w9 => lv_has ls 7 [(6, .int w9), (4, .int t39), (5, .int 1), (3, .int v3_14), (2, .int v2_14), (0, .ref (ad 0)), (1, .int vx)]) (v6_33 + 1) hl (fun w40 hw40 hl => ?_)
                      have hl : lv_has ls 7 [(6, .int w40), (4, .int t39), (5, .int 1), (3, .int v3_14), (2, .int v2_14), (0, .ref (ad 0)), (1, .int vx)] := hl
                      have hF := mi_let hF hw40.symm
                      have aw40 : w40.toInt = v6_33.toInt + 1 := by rw [← hw40]; exact tI_add (rfl : v6_33.toInt = _) (rfl : (1 : Int32).toInt = 1) (by omega) (by omega)
                      refine lv_goto (tgt := 33) hx hb dX12_bundle_103 (by decide) ?_
                      exact ih33 (t39) (1) (w40) nu33_ _ _ _ (by have h81 : (1 : Int32).toInt = 1 := rfl; omega) (by exact ⟨by omega, by omega⟩)  ok hP  kq33_0 hF hS (lv_sub hl [0, 2, 1, 3, 4, 5, 6] rfl)
          exact loop33 7 (0) (1) (0) nu14_ _ _ _ (by have h80 : (0 : Int32).toInt = 0 := rfl; have h81 : (1 : Int32).toInt = 1 := rfl; have h82 : (0 : Int32).toInt = 0 := rfl; omega) (by have h80 : (0 : Int32).toInt = 0 := rfl; exact ⟨by omega, by omega⟩)  ok hP  kq14_0 hF hS hl
    exact loop14 4099 (0) (1) mu _ _ _ (by have h80 : (0 : Int32).toInt = 0 := rfl; have h81 : (1 : Int32).toInt = 1 := rfl; omega) (by have h80 : (1 : Int32).toInt = 1 := rfl; exact ⟨by omega, by omega⟩)  ok hP  (fun _ _ _ => rfl) hF hS hl
  · have hF := (if_neg (fun h => absurd (hfe1.trans h) (by decide))).symm.trans hF
    have f1 : vx.toInt < 0 ∨ (mu 0 8).toInt ≤ vx.toInt := f1
    refine lv_if_ne (tgt := 10) hx hb dX12_bundle_5 (by decide) (fun c => absurd (by decide) c) (fun _ => ?_)
    refine lv_iconst (v := (-1)) hx hb dX12_bundle_8 (by decide) ?_
    exact W.iret (v := (-1)) hx hb hr (fun t ht hW => ⟨⟨(-1), mu, rfl, ⟨hF.trans hfz.symm, ok, trivial, (fun _ _ _ => rfl)⟩, by first | (subst ht; exact hP) | (rw [ht]; exact hP) | (show va_P (dC, dI) vwCl (wR 21 ad (EM cs ad) mu) t.heap; rw [ht]; exact hP)⟩, hS.F ht⟩) hS.2.2 dX12_bundle_9
