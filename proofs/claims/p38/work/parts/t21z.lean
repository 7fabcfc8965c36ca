set_option maxHeartbeats 4000000 in
set_option maxRecDepth 100000 in
/-- qm_block -/
theorem qm_block (l : Launch) (dC : Nat → ClassId) (dI : Nat → Nat → Nat) (cs : Nat → ClassId) (ad : Nat → Nat) (mu : Nat → Nat → Int32) (ok : okR loM hiM mu) (H : Heap) (hP : va_P (dC, dI) vwCl (wR 21 ad (EM cs ad) mu) H) (hD0 : va_D (fun _ => True) (wR 21 ad (EM cs ad) mu)) (vk : Int32) : Met l yX12_block (wU yX12_block cX12_block 6 (some .int)) ({ frames := 12, cells := 0, slots := 0, locals := 302 }) (va_Pc [.ref (ad 0), .int vk] (sz_P (dC, dI) vwCl (tyM cs) H)) (va_Qi (fun (z : Int32) (xi : Nat → Nat → Int32) => (z, xi) = F_qm_block mu vk ∧ okR loM hiM xi ∧ (True) ∧ (∀ k f : Nat, Nat.testBit 510 (gpM k f) = true → xi k f = mu k f)) (fun xi t => va_P (dC, dI) vwCl (wR 21 ad (EM cs ad) xi) t.heap) (va_A (wR 21 ad (EM cs ad) mu) H.size)) 0 0 (va_A (wR 21 ad (EM cs ad) mu) H.size) := by
  refine Met.ofW (cc := cX12_block) (maxL := 6) (ret := (some .int)) (by decide) rfl ?_
  intro p e s m args below meth c s₁ B hml hv
  obtain ⟨rfl, hh, hK, hz⟩ := hv
  have hx := B.exec
  have hb := B.bytes
  have hr := B.returns
  have hts := atoms_spec (ws := (wU yX12_block cX12_block 6 (some .int))) B.pre
  have hown : s.vm.findClass RX12 = some m.cls := findClass_of_methodNamed B.named
  have hlocks := B.notSynchronized
  subst hh
  have hD := hD0.self (sz := s.heap.size)
  have hA : ∀ q : Nat, s.heap.size ≤ q → (va_A (wR 21 ad (EM cs ad) mu) s.heap.size) q := fun q h => Or.inr h
  have hS : va_S (va_A (wR 21 ad (EM cs ad) mu) s.heap.size) s.heap s.heap [] := va_S.rf
  have hl := lv_entry ([.ref (ad 0), .int vk]) (n := 6) (Nat.le_of_ble_eq_true rfl)
  rw [lg_entry_eq]
  generalize (lg_sl ([.ref (ad 0), .int vk]) ++ List.replicate (6 - (lg_sl ([.ref (ad 0), .int vk])).length) Slot.unset).toArray = ls at hl ⊢
  have hl : lv_has ls 6 [(0, .ref (ad 0)), (1, .int vk)] := hl
  obtain ⟨fz, hfz⟩ : ∃ z, F_qm_block mu vk = z := ⟨_, rfl⟩
  have hF := hfz
  unfold F_qm_block at hF
  refine lv_aload_n hx hb dX12_block_0 rfl (lv_at hl 0 rfl) ?_
  refine lv_iload_n hx hb dX12_block_1 rfl (lv_at hl 1 rfl) ?_
  have hFc := fr_all (wR_D mu hD) hS hA
  refine va_calli (va_runV (As := [.int vk]) (rest := []) ⟨hx, hb, hml, hown, hts⟩ (sm_askedRoutes l dC dI cs ad mu ok s.heap hP ((wR_D mu hD).weaken (fun _ _ _ _ => trivial)) vk) (cwV 1 hts (wU_V mw_6_170 mw_6_167 mw_6_169 mw_0_52 mw_1_13) rfl rfl rfl (by decide +kernel) ⟨Nat.le_of_ble_eq_true rfl, Nat.le_of_ble_eq_true rfl⟩) ⟨sz_c, va_recv hK hP (ci := 12) (q0 := 0) rfl (gM_0 cs ad mu), sz_m hK hz⟩ rfl rfl hl.1 rfl (lv_room (Nat.le_of_ble_eq_true rfl)) dX12_block_2 ⟨Nat.zero_le _, Nat.zero_le _⟩) hS (fun q _ h => hFc q h) hFc (fun r1 xi1 t H1 locs ht hvm hw1 hB hz1 hk1 hS => ?_)
  have hP : va_P (dC, dI) vwCl (wR 21 ad (EM cs ad) xi1) H1 := by rw [← ht]; exact hB
  obtain ⟨hfe1, hw1⟩ := hw1
  have hF := mi_letp hF hfe1
  rcases hw1 with ⟨rfl, ok, f1, hkp1_0⟩ | ⟨z1, ok, hkp1_0⟩
  · have hF := (if_pos rfl).symm.trans hF
    have kp2 : (∀ k f : Nat, Nat.testBit 510 (gpM k f) = true → xi1 k f = mu k f) := kp_t hkp1_0 (by decide) (fun _ _ _ => rfl)
    have f1 : 0 ≤ vk.toInt ∧ vk.toInt ≤ 3 ∧ ((xi1 0 33).toInt = 0 ∨ (xi1 0 35).toInt ≤ 7) := f1
    refine lv_istore_n (lv' := [(2, .int 0), (0, .ref (ad 0)), (1, .int vk)]) hx hb dX12_block_5 rfl hl (by decide) rfl (fun ls hl => ?_)
    refine lv_iload_n hx hb dX12_block_6 rfl (lv_at hl 0 rfl) ?_
    refine lv_if_ge (tgt := 12) hx hb dX12_block_7 (by decide) (fun _ => ?_) (fun c => absurd (by decide) c)
    refine lv_aload_n hx hb dX12_block_12 rfl (lv_at hl 1 rfl) ?_
    refine va_get (D := (dC, dI)) (ci := 12) (v := .int (xi1 0 33)) (C := RX12) (T := TX12) (N := 46) hx hb hts inG12 hown hK hP 0 (gM_0 cs ad xi1) rfl 33 (by decide) (hts _ (List.mem_cons_of_mem _ mw_5_74)) (fun _ h9 => h9) rfl dX12_block_13 ?_
    refine lv_topi (fun y4 ey4 => ?_)
    have hF := mi_let hF ey4
    have by4 : y4.toInt = (xi1 0 33).toInt := congrArg Int32.toInt ey4
    refine lv_if_ne (tgt := 26) hx hb dX12_block_16 (by decide) (fun c_5 => ?_) (fun c_5 => ?_)
    · have hF := (if_neg c_5).symm.trans hF
      have c_5 : ¬ y4.toInt = 0 := il_ne c_5
      refine lv_aload_n hx hb dX12_block_26 rfl (lv_at hl 1 rfl) ?_
      refine va_get (D := (dC, dI)) (ci := 12) (v := .int (xi1 0 13)) (C := RX12) (T := TX12) (N := 46) hx hb hts inG12 hown hK hP 0 (gM_0 cs ad xi1) rfl 13 (by decide) (hts _ (List.mem_cons_of_mem _ mw_5_54)) (fun _ h9 => h9) rfl dX12_block_27 ?_
      refine lv_topi (fun y6 ey6 => ?_)
      have hF := mi_let hF ey6
      have by6 : y6.toInt = (xi1 0 13).toInt := congrArg Int32.toInt ey6
      refine lv_istore_n (lv' := [(3, .int y6), (2, .int 0), (0, .ref (ad 0)), (1, .int vk)]) hx hb dX12_block_30 rfl hl (by decide) rfl (fun ls hl => ?_)
      have hyb7 : y6 = mu 0 13 := ey6.trans (kp2 0 13 (by decide))
      have kp8 : (∀ k f : Nat, Nat.testBit 446 (gpM k f) = true → xi1 k f = mu k f) := kp_sub (by decide) kp2
      refine lv_bipush (v := (-9)) hx hb dX12_block_31 (by decide) ?_
      refine lv_istore (lv' := [(4, .int (-9)), (3, .int y6), (2, .int 0), (0, .ref (ad 0)), (1, .int vk)]) hx hb dX12_block_33 hl (by decide) rfl (fun ls hl => ?_)
      refine lv_iconst (v := 1) hx hb dX12_block_35 (by decide) ?_
      refine lv_istore (lv' := [(5, .int 1), (4, .int (-9)), (3, .int y6), (2, .int 0), (0, .ref (ad 0)), (1, .int vk)]) hx hb dX12_block_36 hl (by decide) rfl (fun ls hl => ?_)
      have loop38 : ∀ (n38 : Nat) (v4_38 : Int32) (v5_38 : Int32) (nu38_ : Nat → Nat → Int32) (H : Heap) (locs : List Loc) (ls : Array Slot), (4096 + 1 - v5_38.toInt).toNat < n38 → (0 ≤ v5_38.toInt ∧ v5_38.toInt ≤ 4096) → okR loM hiM nu38_ → va_P (dC, dI) vwCl (wR 21 ad (EM cs ad) nu38_) H → (∀ k f : Nat, Nat.testBit 446 (gpM k f) = true → nu38_ k f = mu k f) → L_qm_block_38_0 vk y6 n38 v4_38 v5_38 nu38_ = fz → va_S (va_A (wR 21 ad (EM cs ad) mu) s.heap.size) s.heap H locs → lv_has ls 6 [(5, .int v5_38), (4, .int v4_38), (3, .int y6), (2, .int 0), (0, .ref (ad 0)), (1, .int vk)] → W p l e (headSpec (wU yX12_block cX12_block 6 (some .int)) ({ frames := 12, cells := 0, slots := 0, locals := 302 })).room s m ([.ref (ad 0), .int vk] : List Value).toArray below meth c H locs 0 0 (MQ below (va_Qi (fun (z : Int32) (xi : Nat → Nat → Int32) => (z, xi) = F_qm_block mu vk ∧ okR loM hiM xi ∧ (True) ∧ (∀ k f : Nat, Nat.testBit 510 (gpM k f) = true → xi k f = mu k f)) (fun xi t => va_P (dC, dI) vwCl (wR 21 ad (EM cs ad) xi) t.heap) (va_A (wR 21 ad (EM cs ad) mu) s.heap.size)) ([.ref (ad 0), .int vk] : List Value).toArray s 0 0 (va_A (wR 21 ad (EM cs ad) mu) s.heap.size)) (F0 m 38 ls []) := by
        intro n38
        induction n38 with
        | zero => intro v4_38 v5_38 nu38_ H locs ls hm; exact absurd hm (Nat.not_lt_zero _)
        | succ n38 ih38 =>
          intro v4_38 v5_38 nu38_ H locs ls hm_38 h_v5_38 ok hP kq38_0 hF hS hl
          rw [L_qm_block_38_0] at hF
          refine lv_iload hx hb dX12_block_38 (lv_at hl 0 rfl) ?_
          refine lv_iconst (v := 1) hx hb dX12_block_40 (by decide) ?_
          refine lv_aload_n hx hb dX12_block_41 rfl (lv_at hl 4 rfl) ?_
          refine va_get (D := (dC, dI)) (ci := 12) (v := .int (nu38_ 0 11)) (C := RX12) (T := TX12) (N := 46) hx hb hts inG12 hown hK hP 0 (gM_0 cs ad nu38_) rfl 11 (by decide) (hts _ (List.mem_cons_of_mem _ mw_5_52)) (fun _ h9 => h9) rfl dX12_block_42 ?_
          refine lv_topi (fun y9 ey9 => ?_)
          have hF := mi_let hF ey9
          have by9 : y9.toInt = (nu38_ 0 11).toInt := congrArg Int32.toInt ey9
          have gy9 : 0 ≤ y9.toInt ∧ y9.toInt ≤ 12 := by rw [ey9]; exact rM_0_11 ok
          refine lv_ishl hx hb dX12_block_45 ?_
          refine lv_topi (fun t10 et10 => ?_)
          have hF := mi_let hF et10
          have gt10 : 1 ≤ t10.toInt ∧ t10.toInt ≤ 4096 := by rw [et10]; exact shl12 ⟨by omega, by omega⟩
          refine lv_icmp_ge (tgt := 111) hx hb dX12_block_46 (by decide) (fun c_11 => ?_) (fun c_11 => ?_)
          · have hF := (if_pos c_11).symm.trans hF
            have c_11 : t10.toInt ≤ v5_38.toInt := il_le c_11
            refine lv_aload_n hx hb dX12_block_111 rfl (lv_at hl 4 rfl) ?_
            refine lv_iload_n hx hb dX12_block_112 rfl (lv_at hl 2 rfl) ?_
            refine va_put (D := (dC, dI)) (ci := 12) (v := .int y6) (ty := .int) (C := RX12) (T := TX12) (N := 46) hx hb hts inG12 tyX12 tyX12_ok nmX12 hown hK hP (wR_D nu38_ hD) hS 0 (gM_0 cs ad nu38_) rfl 13 (by decide) (hts _ (List.mem_cons_of_mem _ mw_5_54)) (fun _ h9 => h9) rfl (by decide +kernel) rfl rfl (Nat.le_of_ble_eq_true rfl) dX12_block_113 (fun H locs hP _ hS => ?_)
            simp only [List.set_cons_succ, List.set_cons_zero] at hP
            refine wr_gen (upd (nu38_ 0) 13 y6) hP ((hM_0_13 cs ad _ _)) (fun nu12 hn12 hP => ?_)
            have hF := mi_let hF hn12.symm
            have ok := tM_0_13 ok hn12
            have ez13 : y9 = nu12 0 11 := ey9.trans (up_f hn12 (by decide)).symm
            have kp14 : (∀ k f : Nat, Nat.testBit 446 (gpM k f) = true → nu12 k f = mu k f) := kp_f hn12 (by decide) kq38_0
            have kp15 : (∀ k f : Nat, Nat.testBit 510 (gpM k f) = true → nu12 k f = mu k f) := kp_fix hn12 hyb7 kp14
            have ez16 : y6 = nu12 0 13 := up_v hn12
            refine lv_aload_n hx hb dX12_block_116 rfl (lv_at hl 4 rfl) ?_
            refine lv_iload hx hb dX12_block_117 (lv_at hl 1 rfl) ?_
            refine lv_iload hx hb dX12_block_119 (lv_at hl 1 rfl) ?_
            refine cr_i (va_runS (As := [.int v4_38]) (rest := [.int v4_38, .ref (ad 0)]) ⟨hx, hb, hml, hown, hts⟩ (sm_sizeOf l dC dI (tyM cs) H v4_38) (va_cwS 1 hts (wU_S mw_6_62 mw_6_60 mw_6_61 mw_1_13) rfl rfl rfl (by decide +kernel) ⟨Nat.le_of_ble_eq_true rfl, Nat.le_of_ble_eq_true rfl⟩) ⟨sz_c, sz_m hK hz⟩ rfl rfl hl.1 rfl (lv_room (Nat.le_of_ble_eq_true rfl)) dX12_block_121 ⟨Nat.zero_le _, Nat.zero_le _⟩) hS (fun r17 hw17 locs hS => ?_)
            obtain ⟨hfe17, hw17⟩ := hw17
            have hF := mi_let hF hfe17
            have gr17 : r17 = so v4_38 ∧ (0 ≤ v4_38.toInt → v4_38.toInt ≤ 127 → r17.toInt = (pp v4_38.toNatClampNeg : Int) ∧ pp v4_38.toNatClampNeg ≤ 7 ∧ (v4_38.toInt = 0 ∨ 1 ≤ pp v4_38.toNatClampNeg)) := hw17
            have hFc := fr_all (wR_D nu12 hD) hS hA
            refine va_calli (va_runV (As := [.int v4_38, .int r17]) (rest := []) ⟨hx, hb, hml, hown, hts⟩ (sm_ask l dC dI cs ad nu12 ok H hP ((wR_D nu12 hD).weaken (fun _ _ _ _ => trivial)) v4_38 r17) (cwV 2 hts (wU_V mw_5_213 mw_5_210 mw_5_212 mw_0_30 mw_1_13) rfl rfl rfl (by decide +kernel) ⟨Nat.le_of_ble_eq_true rfl, Nat.le_of_ble_eq_true rfl⟩) ⟨sz_c, va_recv hK hP (ci := 12) (q0 := 0) rfl (gM_0 cs ad nu12), sz_m hK hz⟩ rfl rfl hl.1 rfl (lv_room (Nat.le_of_ble_eq_true rfl)) dX12_block_124 ⟨Nat.zero_le _, Nat.zero_le _⟩) hS (fun q _ h => hFc q h) hFc (fun r18 xi18 t H18 locs ht hvm hw18 hB hz1 hk1 hS => ?_)
            have hP : va_P (dC, dI) vwCl (wR 21 ad (EM cs ad) xi18) H18 := by rw [← ht]; exact hB
            obtain ⟨hfe18, ok, hw18, hkp18_0⟩ := hw18
            have hF := mi_letp hF hfe18
            have kp19 : (∀ k f : Nat, Nat.testBit 510 (gpM k f) = true → xi18 k f = mu k f) := kp_t hkp18_0 (by decide) kp15
            have gr18 : r18.toInt = r17.toInt := hw18
            exact W.iret (v := r18) hx hb hr (fun t ht hW => ⟨⟨r18, xi18, rfl, ⟨hF.trans hfz.symm, ok, trivial, kp19⟩, by first | (subst ht; exact hP) | (rw [ht]; exact hP) | (show va_P (dC, dI) vwCl (wR 21 ad (EM cs ad) xi18) t.heap; rw [ht]; exact hP)⟩, hS.F ht⟩) hS.2.2 dX12_block_127
          · have hF := (if_neg c_11).symm.trans hF
            have c_11 : v5_38.toInt < t10.toInt := il_nle c_11
            refine lv_iload hx hb dX12_block_49 (lv_at hl 0 rfl) ?_
            refine lv_iload_n hx hb dX12_block_51 rfl (lv_at hl 2 rfl) ?_
            refine lv_iand hx hb dX12_block_52 ?_
            refine lv_topi (fun t20 et20 => ?_)
            have hF := mi_let hF et20
            refine lv_if_ne (tgt := 105) hx hb dX12_block_53 (by decide) (fun c_21 => ?_) (fun c_21 => ?_)
            · have hF := (if_neg c_21).symm.trans hF
              have c_21 : ¬ t20.toInt = 0 := il_ne c_21
              refine lv_iinc (v := (v5_38 + 1)) (lv' := [(5, .int (v5_38 + 1)), (4, .int v4_38), (3, .int y6), (2, .int 0), (0, .ref (ad 0)), (1, .int vk)]) hx hb dX12_block_105 hl (k := 0) rfl rfl (by decide) rfl (fun ls hl => ?_)
              refine loc_gen (P := fun w9 => lv_has ls 6 [(5, .int w9), (4, .int v4_38), (3, .int y6), (2, .int 0), (0, .ref (ad 0)), (1, .int vk)]) (v5_38 + 1) hl (fun w22 hw22 hl => ?_)
              have hl : lv_has ls 6 [(5, .int w22), (4, .int v4_38), (3, .int y6), (2, .int 0), (0, .ref (ad 0)), (1, .int vk)] := hl
              have hF := mi_let hF hw22.symm
              have aw22 : w22.toInt = v5_38.toInt + 1 := by rw [← hw22]; first | exact va1 (Int.lt_of_le_of_lt h_v5_38.2 (by decide)) | exact va1 (by omega)
              refine lv_goto (tgt := 38) hx hb dX12_block_108 (by decide) ?_
              exact ih38 (v4_38) (w22) nu38_ _ _ _ (by first | exact ms_up hm_38 aw22 h_v5_38.2 | exact ms_lt hm_38 (by omega) (by omega) | omega) (by first | exact rg_up aw22 h_v5_38 (by omega) | omega)  ok hP  kq38_0 hF hS (lv_sub hl [0, 1, 2, 3, 4, 5] rfl)
            · have hF := (if_pos c_21).symm.trans hF
              have c_21 : t20.toInt = 0 := il_eq c_21
              refine lv_iload hx hb dX12_block_56 (lv_at hl 1 rfl) ?_
              refine lv_bipush (v := (-9)) hx hb dX12_block_58 (by decide) ?_
              refine lv_icmp_eq (tgt := 76) hx hb dX12_block_60 (by decide) (fun c_23 => ?_) (fun c_23 => ?_)
              · have hF := (if_pos c_23).symm.trans hF
                have c_23 : v4_38.toInt = -9 := il_eq c_23
                refine lv_aload_n hx hb dX12_block_76 rfl (lv_at hl 4 rfl) ?_
                refine lv_iload_n hx hb dX12_block_77 rfl (lv_at hl 2 rfl) ?_
                refine lv_iload hx hb dX12_block_78 (lv_at hl 0 rfl) ?_
                refine lv_ior hx hb dX12_block_80 ?_
                refine lv_topi (fun t24 et24 => ?_)
                have hF := mi_let hF et24
                refine va_put (D := (dC, dI)) (ci := 12) (v := .int t24) (ty := .int) (C := RX12) (T := TX12) (N := 46) hx hb hts inG12 tyX12 tyX12_ok nmX12 hown hK hP (wR_D nu38_ hD) hS 0 (gM_0 cs ad nu38_) rfl 13 (by decide) (hts _ (List.mem_cons_of_mem _ mw_5_54)) (fun _ h9 => h9) rfl (by decide +kernel) rfl rfl (Nat.le_of_ble_eq_true rfl) dX12_block_81 (fun H locs hP _ hS => ?_)
                simp only [List.set_cons_succ, List.set_cons_zero] at hP
                refine wr_gen (upd (nu38_ 0) 13 t24) hP ((hM_0_13 cs ad _ _)) (fun nu25 hn25 hP => ?_)
                have hF := mi_let hF hn25.symm
                have ok := tM_0_13 ok hn25
                have ez26 : y9 = nu25 0 11 := ey9.trans (up_f hn25 (by decide)).symm
                have kp27 : (∀ k f : Nat, Nat.testBit 446 (gpM k f) = true → nu25 k f = mu k f) := kp_f hn25 (by decide) kq38_0
                have ez28 : t24 = nu25 0 13 := up_v hn25
                refine lv_aload_n hx hb dX12_block_84 rfl (lv_at hl 4 rfl) ?_
                refine lv_iload_n hx hb dX12_block_85 rfl (lv_at hl 5 rfl) ?_
                have hFc := fr_all (wR_D nu25 hD) hS hA
                refine va_callv (va_runV (As := [.int vk]) (rest := []) ⟨hx, hb, hml, hown, hts⟩ (sm_routesOf l dC dI cs ad nu25 ok H hP ((wR_D nu25 hD).weaken (fun _ _ _ _ => trivial)) vk (by omega)) (cwV 1 hts (wU_V mw_6_174 mw_6_171 mw_6_173 mw_0_53 mw_1_13) rfl rfl rfl (by decide +kernel) ⟨Nat.le_of_ble_eq_true rfl, Nat.le_of_ble_eq_true rfl⟩) ⟨sz_c, va_recv hK hP (ci := 12) (q0 := 0) rfl (gM_0 cs ad nu25), sz_m hK hz⟩ rfl rfl hl.1 rfl (lv_room (Nat.le_of_ble_eq_true rfl)) dX12_block_86 ⟨Nat.zero_le _, Nat.zero_le _⟩) hS (fun q _ h => hFc q h) hFc (fun xi29 t H29 locs ht hvm hw29 hB hz1 hk1 hS => ?_)
                have hP : va_P (dC, dI) vwCl (wR 21 ad (EM cs ad) xi29) H29 := by rw [← ht]; exact hB
                obtain ⟨hfe29, ok, hw29, hkp29_0⟩ := hw29
                have hF := mi_let hF hfe29
                have kp30 : (∀ k f : Nat, Nat.testBit 446 (gpM k f) = true → xi29 k f = mu k f) := kp_t hkp29_0 (by decide) kp27
                have gr29 : ((xi29 0 39).toInt = -9 ∨ (0 ≤ (xi29 0 39).toInt ∧ (xi29 0 39).toInt ≤ 3)) ∧ ((xi29 0 33).toInt = 0 ∨ (xi29 0 35).toInt ≤ 7) := hw29
                refine lv_aload_n hx hb dX12_block_89 rfl (lv_at hl 4 rfl) ?_
                refine va_get (D := (dC, dI)) (ci := 12) (v := .int (xi29 0 33)) (C := RX12) (T := TX12) (N := 46) hx hb hts inG12 hown hK hP 0 (gM_0 cs ad xi29) rfl 33 (by decide) (hts _ (List.mem_cons_of_mem _ mw_5_74)) (fun _ h9 => h9) rfl dX12_block_90 ?_
                refine lv_topi (fun y31 ey31 => ?_)
                have hF := mi_let hF ey31
                have by31 : y31.toInt = (xi29 0 33).toInt := congrArg Int32.toInt ey31
                refine lv_if_ne (tgt := 101) hx hb dX12_block_93 (by decide) (fun c_32 => ?_) (fun c_32 => ?_)
                · have hF := (if_neg c_32).symm.trans hF
                  have c_32 : ¬ y31.toInt = 0 := il_ne c_32
                  refine lv_iload hx hb dX12_block_101 (lv_at hl 1 rfl) ?_
                  refine lv_istore (lv' := [(4, .int v4_38), (5, .int v5_38), (3, .int y6), (2, .int 0), (0, .ref (ad 0)), (1, .int vk)]) hx hb dX12_block_103 hl (by decide) rfl (fun ls hl => ?_)
                  refine lv_iinc (v := (v5_38 + 1)) (lv' := [(5, .int (v5_38 + 1)), (4, .int v4_38), (3, .int y6), (2, .int 0), (0, .ref (ad 0)), (1, .int vk)]) hx hb dX12_block_105 hl (k := 1) rfl rfl (by decide) rfl (fun ls hl => ?_)
                  refine loc_gen (P := fun w9 => lv_has ls 6 [(5, .int w9), (4, .int v4_38), (3, .int y6), (2, .int 0), (0, .ref (ad 0)), (1, .int vk)]) (v5_38 + 1) hl (fun w33 hw33 hl => ?_)
                  have hl : lv_has ls 6 [(5, .int w33), (4, .int v4_38), (3, .int y6), (2, .int 0), (0, .ref (ad 0)), (1, .int vk)] := hl
                  have hF := mi_let hF hw33.symm
                  have aw33 : w33.toInt = v5_38.toInt + 1 := by rw [← hw33]; first | exact va1 (Int.lt_of_le_of_lt h_v5_38.2 (by decide)) | exact va1 (by omega)
                  refine lv_goto (tgt := 38) hx hb dX12_block_108 (by decide) ?_
                  exact ih38 (v4_38) (w33) xi29 _ _ _ (by first | exact ms_up hm_38 aw33 h_v5_38.2 | exact ms_lt hm_38 (by omega) (by omega) | omega) (by first | exact rg_up aw33 h_v5_38 (by omega) | omega)  ok hP  kp30 hF hS (lv_sub hl [0, 1, 2, 3, 4, 5] rfl)
                · have hF := (if_pos c_32).symm.trans hF
                  have c_32 : y31.toInt = 0 := il_eq c_32
                  refine lv_iload hx hb dX12_block_96 (lv_at hl 0 rfl) ?_
                  refine lv_goto (tgt := 103) hx hb dX12_block_98 (by decide) ?_
                  refine lv_istore (lv' := [(4, .int v5_38), (5, .int v5_38), (3, .int y6), (2, .int 0), (0, .ref (ad 0)), (1, .int vk)]) hx hb dX12_block_103 hl (by decide) rfl (fun ls hl => ?_)
                  refine lv_iinc (v := (v5_38 + 1)) (lv' := [(5, .int (v5_38 + 1)), (4, .int v5_38), (3, .int y6), (2, .int 0), (0, .ref (ad 0)), (1, .int vk)]) hx hb dX12_block_105 hl (k := 1) rfl rfl (by decide) rfl (fun ls hl => ?_)
                  refine loc_gen (P := fun w9 => lv_has ls 6 [(5, .int w9), (4, .int v5_38), (3, .int y6), (2, .int 0), (0, .ref (ad 0)), (1, .int vk)]) (v5_38 + 1) hl (fun w34 hw34 hl => ?_)
                  have hl : lv_has ls 6 [(5, .int w34), (4, .int v5_38), (3, .int y6), (2, .int 0), (0, .ref (ad 0)), (1, .int vk)] := hl
                  have hF := mi_let hF hw34.symm
                  have aw34 : w34.toInt = v5_38.toInt + 1 := by rw [← hw34]; first | exact va1 (Int.lt_of_le_of_lt h_v5_38.2 (by decide)) | exact va1 (by omega)
                  refine lv_goto (tgt := 38) hx hb dX12_block_108 (by decide) ?_
                  exact ih38 (v5_38) (w34) xi29 _ _ _ (by first | exact ms_up hm_38 aw34 h_v5_38.2 | exact ms_lt hm_38 (by omega) (by omega) | omega) (by first | exact rg_up aw34 h_v5_38 (by omega) | omega)  ok hP  kp30 hF hS (lv_sub hl [0, 1, 2, 3, 4, 5] rfl)
              · have hF := (if_neg c_23).symm.trans hF
                have c_23 : ¬ v4_38.toInt = -9 := il_ne c_23
                refine lv_iload hx hb dX12_block_63 (lv_at hl 0 rfl) ?_
                refine cr_i (va_runS (As := [.int v5_38]) (rest := []) ⟨hx, hb, hml, hown, hts⟩ (sm_sizeOf l dC dI (tyM cs) H v5_38) (va_cwS 1 hts (wU_S mw_6_62 mw_6_60 mw_6_61 mw_1_13) rfl rfl rfl (by decide +kernel) ⟨Nat.le_of_ble_eq_true rfl, Nat.le_of_ble_eq_true rfl⟩) ⟨sz_c, sz_m hK hz⟩ rfl rfl hl.1 rfl (lv_room (Nat.le_of_ble_eq_true rfl)) dX12_block_65 ⟨Nat.zero_le _, Nat.zero_le _⟩) hS (fun r35 hw35 locs hS => ?_)
                obtain ⟨hfe35, hw35⟩ := hw35
                have hF := mi_let hF hfe35
                have gr35 : r35 = so v5_38 ∧ (0 ≤ v5_38.toInt → v5_38.toInt ≤ 127 → r35.toInt = (pp v5_38.toNatClampNeg : Int) ∧ pp v5_38.toNatClampNeg ≤ 7 ∧ (v5_38.toInt = 0 ∨ 1 ≤ pp v5_38.toNatClampNeg)) := hw35
                refine lv_iload hx hb dX12_block_68 (lv_at hl 1 rfl) ?_
                refine cr_i (va_runS (As := [.int v4_38]) (rest := [.int r35]) ⟨hx, hb, hml, hown, hts⟩ (sm_sizeOf l dC dI (tyM cs) H v4_38) (va_cwS 1 hts (wU_S mw_6_62 mw_6_60 mw_6_61 mw_1_13) rfl rfl rfl (by decide +kernel) ⟨Nat.le_of_ble_eq_true rfl, Nat.le_of_ble_eq_true rfl⟩) ⟨sz_c, sz_m hK hz⟩ rfl rfl hl.1 rfl (lv_room (Nat.le_of_ble_eq_true rfl)) dX12_block_70 ⟨Nat.zero_le _, Nat.zero_le _⟩) hS (fun r36 hw36 locs hS => ?_)
                obtain ⟨hfe36, hw36⟩ := hw36
                have hF := mi_let hF hfe36
                have gr36 : r36 = so v4_38 ∧ (0 ≤ v4_38.toInt → v4_38.toInt ≤ 127 → r36.toInt = (pp v4_38.toNatClampNeg : Int) ∧ pp v4_38.toNatClampNeg ≤ 7 ∧ (v4_38.toInt = 0 ∨ 1 ≤ pp v4_38.toNatClampNeg)) := hw36
                refine lv_icmp_ge (tgt := 105) hx hb dX12_block_73 (by decide) (fun c_37 => ?_) (fun c_37 => ?_)
                · have hF := (if_pos c_37).symm.trans hF
                  have c_37 : r36.toInt ≤ r35.toInt := il_le c_37
                  refine lv_iinc (v := (v5_38 + 1)) (lv' := [(5, .int (v5_38 + 1)), (4, .int v4_38), (3, .int y6), (2, .int 0), (0, .ref (ad 0)), (1, .int vk)]) hx hb dX12_block_105 hl (k := 0) rfl rfl (by decide) rfl (fun ls hl => ?_)
                  refine loc_gen (P := fun w9 => lv_has ls 6 [(5, .int w9), (4, .int v4_38), (3, .int y6), (2, .int 0), (0, .ref (ad 0)), (1, .int vk)]) (v5_38 + 1) hl (fun w38 hw38 hl => ?_)
                  have hl : lv_has ls 6 [(5, .int w38), (4, .int v4_38), (3, .int y6), (2, .int 0), (0, .ref (ad 0)), (1, .int vk)] := hl
                  have hF := mi_let hF hw38.symm
                  have aw38 : w38.toInt = v5_38.toInt + 1 := by rw [← hw38]; first | exact va1 (Int.lt_of_le_of_lt h_v5_38.2 (by decide)) | exact va1 (by omega)
                  refine lv_goto (tgt := 38) hx hb dX12_block_108 (by decide) ?_
                  exact ih38 (v4_38) (w38) nu38_ _ _ _ (by first | exact ms_up hm_38 aw38 h_v5_38.2 | exact ms_lt hm_38 (by omega) (by omega) | omega) (by first | exact rg_up aw38 h_v5_38 (by omega) | omega)  ok hP  kq38_0 hF hS (lv_sub hl [0, 1, 2, 3, 4, 5] rfl)
                · have hF := (if_neg c_37).symm.trans hF
                  have c_37 : r35.toInt < r36.toInt := il_nle c_37
                  refine lv_aload_n hx hb dX12_block_76 rfl (lv_at hl 4 rfl) ?_
                  refine lv_iload_n hx hb dX12_block_77 rfl (lv_at hl 2 rfl) ?_
                  refine lv_iload hx hb dX12_block_78 (lv_at hl 0 rfl) ?_
                  refine lv_ior hx hb dX12_block_80 ?_
                  refine lv_topi (fun t39 et39 => ?_)
                  have hF := mi_let hF et39
                  refine va_put (D := (dC, dI)) (ci := 12) (v := .int t39) (ty := .int) (C := RX12) (T := TX12) (N := 46) hx hb hts inG12 tyX12 tyX12_ok nmX12 hown hK hP (wR_D nu38_ hD) hS 0 (gM_0 cs ad nu38_) rfl 13 (by decide) (hts _ (List.mem_cons_of_mem _ mw_5_54)) (fun _ h9 => h9) rfl (by decide +kernel) rfl rfl (Nat.le_of_ble_eq_true rfl) dX12_block_81 (fun H locs hP _ hS => ?_)
                  simp only [List.set_cons_succ, List.set_cons_zero] at hP
                  refine wr_gen (upd (nu38_ 0) 13 t39) hP ((hM_0_13 cs ad _ _)) (fun nu40 hn40 hP => ?_)
                  have hF := mi_let hF hn40.symm
                  have ok := tM_0_13 ok hn40
                  have ez41 : y9 = nu40 0 11 := ey9.trans (up_f hn40 (by decide)).symm
                  have kp42 : (∀ k f : Nat, Nat.testBit 446 (gpM k f) = true → nu40 k f = mu k f) := kp_f hn40 (by decide) kq38_0
                  have ez43 : t39 = nu40 0 13 := up_v hn40
                  refine lv_aload_n hx hb dX12_block_84 rfl (lv_at hl 4 rfl) ?_
                  refine lv_iload_n hx hb dX12_block_85 rfl (lv_at hl 5 rfl) ?_
                  have hFc := fr_all (wR_D nu40 hD) hS hA
                  refine va_callv (va_runV (As := [.int vk]) (rest := []) ⟨hx, hb, hml, hown, hts⟩ (sm_routesOf l dC dI cs ad nu40 ok H hP ((wR_D nu40 hD).weaken (fun _ _ _ _ => trivial)) vk (by omega)) (cwV 1 hts (wU_V mw_6_174 mw_6_171 mw_6_173 mw_0_53 mw_1_13) rfl rfl rfl (by decide +kernel) ⟨Nat.le_of_ble_eq_true rfl, Nat.le_of_ble_eq_true rfl⟩) ⟨sz_c, va_recv hK hP (ci := 12) (q0 := 0) rfl (gM_0 cs ad nu40), sz_m hK hz⟩ rfl rfl hl.1 rfl (lv_room (Nat.le_of_ble_eq_true rfl)) dX12_block_86 ⟨Nat.zero_le _, Nat.zero_le _⟩) hS (fun q _ h => hFc q h) hFc (fun xi44 t H44 locs ht hvm hw44 hB hz1 hk1 hS => ?_)
                  have hP : va_P (dC, dI) vwCl (wR 21 ad (EM cs ad) xi44) H44 := by rw [← ht]; exact hB
                  obtain ⟨hfe44, ok, hw44, hkp44_0⟩ := hw44
                  have hF := mi_let hF hfe44
                  have kp45 : (∀ k f : Nat, Nat.testBit 446 (gpM k f) = true → xi44 k f = mu k f) := kp_t hkp44_0 (by decide) kp42
                  have gr44 : ((xi44 0 39).toInt = -9 ∨ (0 ≤ (xi44 0 39).toInt ∧ (xi44 0 39).toInt ≤ 3)) ∧ ((xi44 0 33).toInt = 0 ∨ (xi44 0 35).toInt ≤ 7) := hw44
                  refine lv_aload_n hx hb dX12_block_89 rfl (lv_at hl 4 rfl) ?_
                  refine va_get (D := (dC, dI)) (ci := 12) (v := .int (xi44 0 33)) (C := RX12) (T := TX12) (N := 46) hx hb hts inG12 hown hK hP 0 (gM_0 cs ad xi44) rfl 33 (by decide) (hts _ (List.mem_cons_of_mem _ mw_5_74)) (fun _ h9 => h9) rfl dX12_block_90 ?_
                  refine lv_topi (fun y46 ey46 => ?_)
                  have hF := mi_let hF ey46
                  have by46 : y46.toInt = (xi44 0 33).toInt := congrArg Int32.toInt ey46
                  refine lv_if_ne (tgt := 101) hx hb dX12_block_93 (by decide) (fun c_47 => ?_) (fun c_47 => ?_)
                  · have hF := (if_neg c_47).symm.trans hF
                    have c_47 : ¬ y46.toInt = 0 := il_ne c_47
                    refine lv_iload hx hb dX12_block_101 (lv_at hl 1 rfl) ?_
                    refine lv_istore (lv' := [(4, .int v4_38), (5, .int v5_38), (3, .int y6), (2, .int 0), (0, .ref (ad 0)), (1, .int vk)]) hx hb dX12_block_103 hl (by decide) rfl (fun ls hl => ?_)
                    refine lv_iinc (v := (v5_38 + 1)) (lv' := [(5, .int (v5_38 + 1)), (4, .int v4_38), (3, .int y6), (2, .int 0), (0, .ref (ad 0)), (1, .int vk)]) hx hb dX12_block_105 hl (k := 1) rfl rfl (by decide) rfl (fun ls hl => ?_)
                    refine loc_gen (P := fun w9 => lv_has ls 6 [(5, .int w9), (4, .int v4_38), (3, .int y6), (2, .int 0), (0, .ref (ad 0)), (1, .int vk)]) (v5_38 + 1) hl (fun w48 hw48 hl => ?_)
                    have hl : lv_has ls 6 [(5, .int w48), (4, .int v4_38), (3, .int y6), (2, .int 0), (0, .ref (ad 0)), (1, .int vk)] := hl
                    have hF := mi_let hF hw48.symm
                    have aw48 : w48.toInt = v5_38.toInt + 1 := by rw [← hw48]; first | exact va1 (Int.lt_of_le_of_lt h_v5_38.2 (by decide)) | exact va1 (by omega)
                    refine lv_goto (tgt := 38) hx hb dX12_block_108 (by decide) ?_
                    exact ih38 (v4_38) (w48) xi44 _ _ _ (by first | exact ms_up hm_38 aw48 h_v5_38.2 | exact ms_lt hm_38 (by omega) (by omega) | omega) (by first | exact rg_up aw48 h_v5_38 (by omega) | omega)  ok hP  kp45 hF hS (lv_sub hl [0, 1, 2, 3, 4, 5] rfl)
                  · have hF := (if_pos c_47).symm.trans hF
                    have c_47 : y46.toInt = 0 := il_eq c_47
                    refine lv_iload hx hb dX12_block_96 (lv_at hl 0 rfl) ?_
                    refine lv_goto (tgt := 103) hx hb dX12_block_98 (by decide) ?_
                    refine lv_istore (lv' := [(4, .int v5_38), (5, .int v5_38), (3, .int y6), (2, .int 0), (0, .ref (ad 0)), (1, .int vk)]) hx hb dX12_block_103 hl (by decide) rfl (fun ls hl => ?_)
                    refine lv_iinc (v := (v5_38 + 1)) (lv' := [(5, .int (v5_38 + 1)), (4, .int v5_38), (3, .int y6), (2, .int 0), (0, .ref (ad 0)), (1, .int vk)]) hx hb dX12_block_105 hl (k := 1) rfl rfl (by decide) rfl (fun ls hl => ?_)
                    refine loc_gen (P := fun w9 => lv_has ls 6 [(5, .int w9), (4, .int v5_38), (3, .int y6), (2, .int 0), (0, .ref (ad 0)), (1, .int vk)]) (v5_38 + 1) hl (fun w49 hw49 hl => ?_)
                    have hl : lv_has ls 6 [(5, .int w49), (4, .int v5_38), (3, .int y6), (2, .int 0), (0, .ref (ad 0)), (1, .int vk)] := hl
                    have hF := mi_let hF hw49.symm
                    have aw49 : w49.toInt = v5_38.toInt + 1 := by rw [← hw49]; first | exact va1 (Int.lt_of_le_of_lt h_v5_38.2 (by decide)) | exact va1 (by omega)
                    refine lv_goto (tgt := 38) hx hb dX12_block_108 (by decide) ?_
                    exact ih38 (v5_38) (w49) xi44 _ _ _ (by first | exact ms_up hm_38 aw49 h_v5_38.2 | exact ms_lt hm_38 (by omega) (by omega) | omega) (by first | exact rg_up aw49 h_v5_38 (by omega) | omega)  ok hP  kp45 hF hS (lv_sub hl [0, 1, 2, 3, 4, 5] rfl)
      exact loop38 4099 ((-9)) (1) xi1 _ _ _ (by have h80 : ((-9) : Int32).toInt = -9 := rfl; have h81 : (1 : Int32).toInt = 1 := rfl; omega) (by have h80 : (1 : Int32).toInt = 1 := rfl; exact ⟨by omega, by omega⟩)  ok hP  kp8 hF hS hl
    · have hF := (if_pos c_5).symm.trans hF
      have c_5 : y4.toInt = 0 := il_eq c_5
      refine lv_aload_n hx hb dX12_block_19 rfl (lv_at hl 1 rfl) ?_
      refine lv_iconst (v := 0) hx hb dX12_block_20 (by decide) ?_
      refine lv_iconst (v := 0) hx hb dX12_block_21 (by decide) ?_
      have hFc := fr_all (wR_D xi1 hD) hS hA
      refine va_calli (va_runV (As := [.int 0, .int 0]) (rest := []) ⟨hx, hb, hml, hown, hts⟩ (sm_ask l dC dI cs ad xi1 ok H1 hP ((wR_D xi1 hD).weaken (fun _ _ _ _ => trivial)) 0 0) (cwV 2 hts (wU_V mw_5_213 mw_5_210 mw_5_212 mw_0_30 mw_1_13) rfl rfl rfl (by decide +kernel) ⟨Nat.le_of_ble_eq_true rfl, Nat.le_of_ble_eq_true rfl⟩) ⟨sz_c, va_recv hK hP (ci := 12) (q0 := 0) rfl (gM_0 cs ad xi1), sz_m hK hz⟩ rfl rfl hl.1 rfl (lv_room (Nat.le_of_ble_eq_true rfl)) dX12_block_22 ⟨Nat.zero_le _, Nat.zero_le _⟩) hS (fun q _ h => hFc q h) hFc (fun r50 xi50 t H50 locs ht hvm hw50 hB hz1 hk1 hS => ?_)
      have hP : va_P (dC, dI) vwCl (wR 21 ad (EM cs ad) xi50) H50 := by rw [← ht]; exact hB
      obtain ⟨hfe50, ok, hw50, hkp50_0⟩ := hw50
      have hF := mi_letp hF hfe50
      have kp51 : (∀ k f : Nat, Nat.testBit 510 (gpM k f) = true → xi50 k f = mu k f) := kp_t hkp50_0 (by decide) kp2
      have gr50 : r50.toInt = (0 : Int) := hw50
      exact W.iret (v := r50) hx hb hr (fun t ht hW => ⟨⟨r50, xi50, rfl, ⟨hF.trans hfz.symm, ok, trivial, kp51⟩, by first | (subst ht; exact hP) | (rw [ht]; exact hP) | (show va_P (dC, dI) vwCl (wR 21 ad (EM cs ad) xi50) t.heap; rw [ht]; exact hP)⟩, hS.F ht⟩) hS.2.2 dX12_block_25
  · have hF := (if_neg (show ¬ r1 = 0 from fun h => by have h9 := congrArg Int32.toInt h; have h8 : (0 : Int32).toInt = 0 := rfl; omega)).symm.trans hF
    have kp3 : (∀ k f : Nat, Nat.testBit 510 (gpM k f) = true → xi1 k f = mu k f) := kp_t hkp1_0 (by decide) (fun _ _ _ => rfl)
    skip
    refine lv_istore_n (lv' := [(2, .int r1), (0, .ref (ad 0)), (1, .int vk)]) hx hb dX12_block_5 rfl hl (by decide) rfl (fun ls hl => ?_)
    refine lv_iload_n hx hb dX12_block_6 rfl (lv_at hl 0 rfl) ?_
    refine lv_if_ge (tgt := 12) hx hb dX12_block_7 (by decide) (fun c_52 => by have c_52 : 0 ≤ r1.toInt := il_le c_52; exfalso; omega) (fun c_52 => ?_)
    have c_52 : r1.toInt < 0 := il_nle c_52
    refine lv_iload_n hx hb dX12_block_10 rfl (lv_at hl 0 rfl) ?_
    exact W.iret (v := r1) hx hb hr (fun t ht hW => ⟨⟨r1, xi1, rfl, ⟨hF.trans hfz.symm, ok, trivial, kp3⟩, by first | (subst ht; exact hP) | (rw [ht]; exact hP) | (show va_P (dC, dI) vwCl (wR 21 ad (EM cs ad) xi1) t.heap; rw [ht]; exact hP)⟩, hS.F ht⟩) hS.2.2 dX12_block_11
set_option maxHeartbeats 4000000 in
set_option maxRecDepth 100000 in
/-- sm_bestOf -/
theorem sm_bestOf (l : Launch) (dC : Nat → ClassId) (dI : Nat → Nat → Nat) (cs : Nat → ClassId) (ad : Nat → Nat) (mu : Nat → Nat → Int32) (ok : okR loM hiM mu) (H : Heap) (hP : va_P (dC, dI) vwCl (wR 21 ad (EM cs ad) mu) H) (vy : Int32) (vg : Int32) : Met l yX12_bestOf (wU yX12_bestOf cX12_bestOf 6 (some .int)) ({ frames := 2, cells := 0, slots := 0, locals := 46 }) (va_Pc [.ref (ad 0), .int vy, .int vg] (sz_P (dC, dI) vwCl (tyM cs) H)) (va_Qi (fun (z : Int32) (_ : Unit) => True) (fun _ t => t.heap = H) (fun _ => False)) 0 0 (fun _ => False) := by
  refine Met.ofW (cc := cX12_bestOf) (maxL := 6) (ret := (some .int)) (by decide) rfl ?_
  intro p e s m args below meth c s₁ B hml hv
  obtain ⟨rfl, hh, hK, hz⟩ := hv
  have hx := B.exec
  have hb := B.bytes
  have hr := B.returns
  have hts := atoms_spec (ws := (wU yX12_bestOf cX12_bestOf 6 (some .int))) B.pre
  have hown : s.vm.findClass RX12 = some m.cls := findClass_of_methodNamed B.named
  have hlocks := B.notSynchronized
  subst hh
  have hS : va_S (fun _ => False) s.heap s.heap [] := va_S.rf
  have hl := lv_entry ([.ref (ad 0), .int vy, .int vg]) (n := 6) (Nat.le_of_ble_eq_true rfl)
  rw [lg_entry_eq]
  generalize (lg_sl ([.ref (ad 0), .int vy, .int vg]) ++ List.replicate (6 - (lg_sl ([.ref (ad 0), .int vy, .int vg])).length) Slot.unset).toArray = ls at hl ⊢
  have hl : lv_has ls 6 [(0, .ref (ad 0)), (1, .int vy), (2, .int vg)] := hl
  refine lv_iconst (v := 0) hx hb dX12_bestOf_0 (by decide) ?_
  refine lv_istore_n (lv' := [(3, .int 0), (0, .ref (ad 0)), (1, .int vy), (2, .int vg)]) hx hb dX12_bestOf_1 rfl hl (by decide) rfl (fun ls hl => ?_)
  refine lv_iconst (v := 0) hx hb dX12_bestOf_2 (by decide) ?_
  refine lv_istore (lv' := [(4, .int 0), (3, .int 0), (0, .ref (ad 0)), (1, .int vy), (2, .int vg)]) hx hb dX12_bestOf_3 hl (by decide) rfl (fun ls hl => ?_)
  have loop5 : ∀ (n5 : Nat) (v3_5 : Int32) (v4_5 : Int32) (locs : List Loc) (ls : Array Slot), (7 + 1 - v4_5.toInt).toNat < n5 → (0 ≤ v4_5.toInt ∧ v4_5.toInt ≤ 7) → va_S (fun _ => False) s.heap s.heap locs → lv_has ls 6 [(4, .int v4_5), (3, .int v3_5), (0, .ref (ad 0)), (1, .int vy), (2, .int vg)] → W p l e (headSpec (wU yX12_bestOf cX12_bestOf 6 (some .int)) ({ frames := 2, cells := 0, slots := 0, locals := 46 })).room s m ([.ref (ad 0), .int vy, .int vg] : List Value).toArray below meth c s.heap locs 0 0 (MQ below (va_Qi (fun (z : Int32) (_ : Unit) => True) (fun _ t => t.heap = s.heap) (fun _ => False)) ([.ref (ad 0), .int vy, .int vg] : List Value).toArray s 0 0 (fun _ => False)) (F0 m 5 ls []) := by
    intro n5
    induction n5 with
    | zero => intro v3_5 v4_5 locs ls hm; exact absurd hm (Nat.not_lt_zero _)
    | succ n5 ih5 =>
      intro v3_5 v4_5 locs ls hm_5 h_v4_5 hS hl
      refine lv_iload hx hb dX12_bestOf_5 (lv_at hl 0 rfl) ?_
      refine lv_aload_n hx hb dX12_bestOf_7 rfl (lv_at hl 2 rfl) ?_
      refine va_get (D := (dC, dI)) (ci := 12) (v := .int (mu 0 8)) (C := RX12) (T := TX12) (N := 46) hx hb hts inG12 hown hK hP 0 (gM_0 cs ad mu) rfl 8 (by decide) (hts _ (List.mem_cons_of_mem _ mw_5_49)) (fun _ h9 => h9) rfl dX12_bestOf_8 ?_
      refine lv_topi (fun y1 ey1 => ?_)
      have by1 : y1.toInt = (mu 0 8).toInt := congrArg Int32.toInt ey1
      have gy1 : 0 ≤ y1.toInt ∧ y1.toInt ≤ 7 := by rw [ey1]; exact rM_0_8 ok
      refine lv_icmp_ge (tgt := 89) hx hb dX12_bestOf_11 (by decide) (fun c_2 => ?_) (fun c_2 => ?_)
      · have c_2 : y1.toInt ≤ v4_5.toInt := il_le c_2
        refine lv_iload_n hx hb dX12_bestOf_89 rfl (lv_at hl 1 rfl) ?_
        exact W.iret (v := v3_5) hx hb hr (fun t ht hW => ⟨⟨v3_5, (), rfl, trivial, ht⟩, hS.F ht⟩) hS.2.2 dX12_bestOf_90
      · have c_2 : v4_5.toInt < y1.toInt := il_nle c_2
        refine lv_aload_n hx hb dX12_bestOf_14 rfl (lv_at hl 2 rfl) ?_
        refine lv_iload_n hx hb dX12_bestOf_15 rfl (lv_at hl 3 rfl) ?_
        refine cr_i (va_runV (As := [.int vy]) (rest := []) ⟨hx, hb, hml, hown, hts⟩ (sm_besideOf l dC dI cs ad mu ok s.heap hP vy) (cwV 1 hts (wU_V mw_6_56 mw_6_53 mw_6_55 mw_0_40 mw_1_13) rfl rfl rfl (by decide +kernel) ⟨Nat.le_of_ble_eq_true rfl, Nat.le_of_ble_eq_true rfl⟩) ⟨sz_c, va_recv hK hP (ci := 12) (q0 := 0) rfl (gM_0 cs ad mu), sz_m hK hz⟩ rfl rfl hl.1 rfl (lv_room (Nat.le_of_ble_eq_true rfl)) dX12_bestOf_16 ⟨Nat.zero_le _, Nat.zero_le _⟩) hS (fun r3 hw3 locs hS => ?_)
        obtain ⟨hfe3, hw3⟩ := hw3
        refine lv_iload hx hb dX12_bestOf_19 (lv_at hl 0 rfl) ?_
        refine cr_i (va_runS (As := [.int r3, .int v4_5]) (rest := []) ⟨hx, hb, hml, hown, hts⟩ (sm_has l dC dI (tyM cs) s.heap r3 v4_5) (va_cwS 2 hts (wU_S mw_6_59 mw_6_57 mw_6_58 mw_1_13) rfl rfl rfl (by decide +kernel) ⟨Nat.le_of_ble_eq_true rfl, Nat.le_of_ble_eq_true rfl⟩) ⟨sz_c, sz_m hK hz⟩ rfl rfl hl.1 rfl (lv_room (Nat.le_of_ble_eq_true rfl)) dX12_bestOf_21 ⟨Nat.zero_le _, Nat.zero_le _⟩) hS (fun r4 hw4 locs hS => ?_)
        obtain ⟨hfe4, hw4⟩ := hw4
        rcases hw4 with ⟨rfl, f4⟩ | ⟨rfl, f4⟩
        · have f4 : rb r3 v4_5 = 1 := f4
          refine lv_if_eq (tgt := 48) hx hb dX12_bestOf_24 (by decide) (fun c => absurd c (by decide)) (fun _ => ?_)
          refine lv_aload_n hx hb dX12_bestOf_27 rfl (lv_at hl 2 rfl) ?_
          refine va_get (D := (dC, dI)) (ci := 12) (v := .ref (ad 7)) (C := RX12) (T := TX12) (N := 46) hx hb hts inG12 hown hK hP 0 (gM_0 cs ad mu) rfl 9 (by decide) (hts _ (List.mem_cons_of_mem _ mw_5_50)) (fun _ h9 => h9) rfl dX12_bestOf_28 ?_
          refine lv_iload hx hb dX12_bestOf_31 (lv_at hl 0 rfl) ?_
          refine va_iald hx hb hK hP 7 0 (gM_7 cs ad mu) rfl (show vp_in v4_5 7 from vi_of (by omega) (by omega)) dX12_bestOf_33 ?_
          refine lv_topi (fun y5 ey5 => ?_)
          have by5 : y5.toInt = (mu 7 v4_5.toNatClampNeg).toInt := congrArg Int32.toInt ey5
          refine lv_iconst (v := 3) hx hb dX12_bestOf_34 (by decide) ?_
          refine lv_icmp_ne (tgt := 44) hx hb dX12_bestOf_35 (by decide) (fun c_6 => ?_) (fun c_6 => ?_)
          · have c_6 : ¬ y5.toInt = 3 := il_ne c_6
            refine lv_iconst (v := 1) hx hb dX12_bestOf_44 (by decide) ?_
            refine lv_goto (tgt := 49) hx hb dX12_bestOf_45 (by decide) ?_
            refine lv_istore (lv' := [(5, .int 1), (4, .int v4_5), (3, .int v3_5), (0, .ref (ad 0)), (1, .int vy), (2, .int vg)]) hx hb dX12_bestOf_49 hl (by decide) rfl (fun ls hl => ?_)
            refine lv_iload hx hb dX12_bestOf_51 (lv_at hl 0 rfl) ?_
            refine lv_if_eq (tgt := 81) hx hb dX12_bestOf_53 (by decide) (fun c => absurd c (by decide)) (fun _ => ?_)
            refine lv_aload_n hx hb dX12_bestOf_56 rfl (lv_at hl 3 rfl) ?_
            refine va_get (D := (dC, dI)) (ci := 12) (v := .ref (ad 20)) (C := RX12) (T := TX12) (N := 46) hx hb hts inG12 hown hK hP 0 (gM_0 cs ad mu) rfl 41 (by decide) (hts _ (List.mem_cons_of_mem _ mw_5_82)) (fun _ h9 => h9) rfl dX12_bestOf_57 ?_
            refine lv_iload hx hb dX12_bestOf_60 (lv_at hl 1 rfl) ?_
            refine va_iald hx hb hK hP 20 0 (gM_20 cs ad mu) rfl (show vp_in v4_5 7 from vi_of (by omega) (by omega)) dX12_bestOf_62 ?_
            refine lv_topi (fun y7 ey7 => ?_)
            have by7 : y7.toInt = (mu 20 v4_5.toNatClampNeg).toInt := congrArg Int32.toInt ey7
            refine lv_iconst (v := 1) hx hb dX12_bestOf_63 (by decide) ?_
            refine lv_isub hx hb dX12_bestOf_64 ?_
            refine lv_topi (fun t8 et8 => ?_)
            refine lv_iload_n hx hb dX12_bestOf_65 rfl (lv_at hl 2 rfl) ?_
            refine lv_icmp_le (tgt := 81) hx hb dX12_bestOf_66 (by decide) (fun c_9 => ?_) (fun c_9 => ?_)
            · have c_9 : t8.toInt ≤ v3_5.toInt := il_le c_9
              refine lv_iload_n hx hb dX12_bestOf_81 rfl (lv_at hl 2 rfl) ?_
              refine lv_istore_n (lv' := [(3, .int v3_5), (5, .int 1), (4, .int v4_5), (0, .ref (ad 0)), (1, .int vy), (2, .int vg)]) hx hb dX12_bestOf_82 rfl hl (by decide) rfl (fun ls hl => ?_)
              refine lv_iinc (v := (v4_5 + 1)) (lv' := [(4, .int (v4_5 + 1)), (3, .int v3_5), (5, .int 1), (0, .ref (ad 0)), (1, .int vy), (2, .int vg)]) hx hb dX12_bestOf_83 hl (k := 2) rfl rfl (by decide) rfl (fun ls hl => ?_)
              refine loc_gen (P := fun w9 => lv_has ls 6 [(4, .int w9), (3, .int v3_5), (5, .int 1), (0, .ref (ad 0)), (1, .int vy), (2, .int vg)]) (v4_5 + 1) hl (fun w10 hw10 hl => ?_)
              have hl : lv_has ls 6 [(4, .int w10), (3, .int v3_5), (5, .int 1), (0, .ref (ad 0)), (1, .int vy), (2, .int vg)] := hl
              have aw10 : w10.toInt = v4_5.toInt + 1 := by rw [← hw10]; first | exact va1 (Int.lt_of_le_of_lt h_v4_5.2 (by decide)) | exact va1 (by omega)
              refine lv_goto (tgt := 5) hx hb dX12_bestOf_86 (by decide) ?_
              exact ih5 (v3_5) (w10)  _ _ (by first | exact ms_up hm_5 aw10 h_v4_5.2 | exact ms_lt hm_5 (by omega) (by omega) | omega) (by first | exact rg_up aw10 h_v4_5 (by omega) | omega)   hS (lv_sub hl [0, 1, 3, 4, 5] rfl)
            · have c_9 : v3_5.toInt < t8.toInt := il_nle c_9
              refine lv_aload_n hx hb dX12_bestOf_69 rfl (lv_at hl 3 rfl) ?_
              refine va_get (D := (dC, dI)) (ci := 12) (v := .ref (ad 20)) (C := RX12) (T := TX12) (N := 46) hx hb hts inG12 hown hK hP 0 (gM_0 cs ad mu) rfl 41 (by decide) (hts _ (List.mem_cons_of_mem _ mw_5_82)) (fun _ h9 => h9) rfl dX12_bestOf_70 ?_
              refine lv_iload hx hb dX12_bestOf_73 (lv_at hl 1 rfl) ?_
              refine va_iald hx hb hK hP 20 0 (gM_20 cs ad mu) rfl (show vp_in v4_5 7 from vi_of (by omega) (by omega)) dX12_bestOf_75 ?_
              refine lq_i y7 ey7.symm ?_
              refine lv_iconst (v := 1) hx hb dX12_bestOf_76 (by decide) ?_
              refine lv_isub hx hb dX12_bestOf_77 ?_
              refine lv_topi (fun t11 et11 => ?_)
              refine lv_goto (tgt := 82) hx hb dX12_bestOf_78 (by decide) ?_
              refine lv_istore_n (lv' := [(3, .int t11), (5, .int 1), (4, .int v4_5), (0, .ref (ad 0)), (1, .int vy), (2, .int vg)]) hx hb dX12_bestOf_82 rfl hl (by decide) rfl (fun ls hl => ?_)
              refine lv_iinc (v := (v4_5 + 1)) (lv' := [(4, .int (v4_5 + 1)), (3, .int t11), (5, .int 1), (0, .ref (ad 0)), (1, .int vy), (2, .int vg)]) hx hb dX12_bestOf_83 hl (k := 2) rfl rfl (by decide) rfl (fun ls hl => ?_)
              refine loc_gen (P := fun w9 => lv_has ls 6 [(4, .int w9), (3, .int t11), (5, .int 1), (0, .ref (ad 0)), (1, .int vy), (2, .int vg)]) (v4_5 + 1) hl (fun w12 hw12 hl => ?_)
              have hl : lv_has ls 6 [(4, .int w12), (3, .int t11), (5, .int 1), (0, .ref (ad 0)), (1, .int vy), (2, .int vg)] := hl
              have aw12 : w12.toInt = v4_5.toInt + 1 := by rw [← hw12]; first | exact va1 (Int.lt_of_le_of_lt h_v4_5.2 (by decide)) | exact va1 (by omega)
              refine lv_goto (tgt := 5) hx hb dX12_bestOf_86 (by decide) ?_
              exact ih5 (t11) (w12)  _ _ (by first | exact ms_up hm_5 aw12 h_v4_5.2 | exact ms_lt hm_5 (by omega) (by omega) | omega) (by first | exact rg_up aw12 h_v4_5 (by omega) | omega)   hS (lv_sub hl [0, 1, 3, 4, 5] rfl)
          · have c_6 : y5.toInt = 3 := il_eq c_6
            refine lv_iload hx hb dX12_bestOf_38 (lv_at hl 0 rfl) ?_
            refine lv_iload_n hx hb dX12_bestOf_40 rfl (lv_at hl 4 rfl) ?_
            refine lv_icmp_ne (tgt := 48) hx hb dX12_bestOf_41 (by decide) (fun c_13 => ?_) (fun c_13 => ?_)
            · have c_13 : ¬ v4_5.toInt = vg.toInt := il_ne c_13
              refine lv_iconst (v := 0) hx hb dX12_bestOf_48 (by decide) ?_
              refine lv_istore (lv' := [(5, .int 0), (4, .int v4_5), (3, .int v3_5), (0, .ref (ad 0)), (1, .int vy), (2, .int vg)]) hx hb dX12_bestOf_49 hl (by decide) rfl (fun ls hl => ?_)
              refine lv_iload hx hb dX12_bestOf_51 (lv_at hl 0 rfl) ?_
              refine lv_if_eq (tgt := 81) hx hb dX12_bestOf_53 (by decide) (fun _ => ?_) (fun c => absurd (by decide) c)
              refine lv_iload_n hx hb dX12_bestOf_81 rfl (lv_at hl 2 rfl) ?_
              refine lv_istore_n (lv' := [(3, .int v3_5), (5, .int 0), (4, .int v4_5), (0, .ref (ad 0)), (1, .int vy), (2, .int vg)]) hx hb dX12_bestOf_82 rfl hl (by decide) rfl (fun ls hl => ?_)
              refine lv_iinc (v := (v4_5 + 1)) (lv' := [(4, .int (v4_5 + 1)), (3, .int v3_5), (5, .int 0), (0, .ref (ad 0)), (1, .int vy), (2, .int vg)]) hx hb dX12_bestOf_83 hl (k := 2) rfl rfl (by decide) rfl (fun ls hl => ?_)
              refine loc_gen (P := fun w9 => lv_has ls 6 [(4, .int w9), (3, .int v3_5), (5, .int 0), (0, .ref (ad 0)), (1, .int vy), (2, .int vg)]) (v4_5 + 1) hl (fun w14 hw14 hl => ?_)
              have hl : lv_has ls 6 [(4, .int w14), (3, .int v3_5), (5, .int 0), (0, .ref (ad 0)), (1, .int vy), (2, .int vg)] := hl
              have aw14 : w14.toInt = v4_5.toInt + 1 := by rw [← hw14]; first | exact va1 (Int.lt_of_le_of_lt h_v4_5.2 (by decide)) | exact va1 (by omega)
              refine lv_goto (tgt := 5) hx hb dX12_bestOf_86 (by decide) ?_
              exact ih5 (v3_5) (w14)  _ _ (by first | exact ms_up hm_5 aw14 h_v4_5.2 | exact ms_lt hm_5 (by omega) (by omega) | omega) (by first | exact rg_up aw14 h_v4_5 (by omega) | omega)   hS (lv_sub hl [0, 1, 3, 4, 5] rfl)
            · have c_13 : v4_5.toInt = vg.toInt := il_eq c_13
              refine lv_iconst (v := 1) hx hb dX12_bestOf_44 (by decide) ?_
              refine lv_goto (tgt := 49) hx hb dX12_bestOf_45 (by decide) ?_
              refine lv_istore (lv' := [(5, .int 1), (4, .int v4_5), (3, .int v3_5), (0, .ref (ad 0)), (1, .int vy), (2, .int vg)]) hx hb dX12_bestOf_49 hl (by decide) rfl (fun ls hl => ?_)
              refine lv_iload hx hb dX12_bestOf_51 (lv_at hl 0 rfl) ?_
              refine lv_if_eq (tgt := 81) hx hb dX12_bestOf_53 (by decide) (fun c => absurd c (by decide)) (fun _ => ?_)
              refine lv_aload_n hx hb dX12_bestOf_56 rfl (lv_at hl 3 rfl) ?_
              refine va_get (D := (dC, dI)) (ci := 12) (v := .ref (ad 20)) (C := RX12) (T := TX12) (N := 46) hx hb hts inG12 hown hK hP 0 (gM_0 cs ad mu) rfl 41 (by decide) (hts _ (List.mem_cons_of_mem _ mw_5_82)) (fun _ h9 => h9) rfl dX12_bestOf_57 ?_
              refine lv_iload hx hb dX12_bestOf_60 (lv_at hl 1 rfl) ?_
              refine va_iald hx hb hK hP 20 0 (gM_20 cs ad mu) rfl (show vp_in v4_5 7 from vi_of (by omega) (by omega)) dX12_bestOf_62 ?_
              refine lv_topi (fun y15 ey15 => ?_)
              have by15 : y15.toInt = (mu 20 v4_5.toNatClampNeg).toInt := congrArg Int32.toInt ey15
              refine lv_iconst (v := 1) hx hb dX12_bestOf_63 (by decide) ?_
              refine lv_isub hx hb dX12_bestOf_64 ?_
              refine lv_topi (fun t16 et16 => ?_)
              refine lv_iload_n hx hb dX12_bestOf_65 rfl (lv_at hl 2 rfl) ?_
              refine lv_icmp_le (tgt := 81) hx hb dX12_bestOf_66 (by decide) (fun c_17 => ?_) (fun c_17 => ?_)
              · have c_17 : t16.toInt ≤ v3_5.toInt := il_le c_17
                refine lv_iload_n hx hb dX12_bestOf_81 rfl (lv_at hl 2 rfl) ?_
                refine lv_istore_n (lv' := [(3, .int v3_5), (5, .int 1), (4, .int v4_5), (0, .ref (ad 0)), (1, .int vy), (2, .int vg)]) hx hb dX12_bestOf_82 rfl hl (by decide) rfl (fun ls hl => ?_)
                refine lv_iinc (v := (v4_5 + 1)) (lv' := [(4, .int (v4_5 + 1)), (3, .int v3_5), (5, .int 1), (0, .ref (ad 0)), (1, .int vy), (2, .int vg)]) hx hb dX12_bestOf_83 hl (k := 2) rfl rfl (by decide) rfl (fun ls hl => ?_)
                refine loc_gen (P := fun w9 => lv_has ls 6 [(4, .int w9), (3, .int v3_5), (5, .int 1), (0, .ref (ad 0)), (1, .int vy), (2, .int vg)]) (v4_5 + 1) hl (fun w18 hw18 hl => ?_)
                have hl : lv_has ls 6 [(4, .int w18), (3, .int v3_5), (5, .int 1), (0, .ref (ad 0)), (1, .int vy), (2, .int vg)] := hl
                have aw18 : w18.toInt = v4_5.toInt + 1 := by rw [← hw18]; first | exact va1 (Int.lt_of_le_of_lt h_v4_5.2 (by decide)) | exact va1 (by omega)
                refine lv_goto (tgt := 5) hx hb dX12_bestOf_86 (by decide) ?_
                exact ih5 (v3_5) (w18)  _ _ (by first | exact ms_up hm_5 aw18 h_v4_5.2 | exact ms_lt hm_5 (by omega) (by omega) | omega) (by first | exact rg_up aw18 h_v4_5 (by omega) | omega)   hS (lv_sub hl [0, 1, 3, 4, 5] rfl)
              · have c_17 : v3_5.toInt < t16.toInt := il_nle c_17
                refine lv_aload_n hx hb dX12_bestOf_69 rfl (lv_at hl 3 rfl) ?_
                refine va_get (D := (dC, dI)) (ci := 12) (v := .ref (ad 20)) (C := RX12) (T := TX12) (N := 46) hx hb hts inG12 hown hK hP 0 (gM_0 cs ad mu) rfl 41 (by decide) (hts _ (List.mem_cons_of_mem _ mw_5_82)) (fun _ h9 => h9) rfl dX12_bestOf_70 ?_
                refine lv_iload hx hb dX12_bestOf_73 (lv_at hl 1 rfl) ?_
                refine va_iald hx hb hK hP 20 0 (gM_20 cs ad mu) rfl (show vp_in v4_5 7 from vi_of (by omega) (by omega)) dX12_bestOf_75 ?_
                refine lq_i y15 ey15.symm ?_
                refine lv_iconst (v := 1) hx hb dX12_bestOf_76 (by decide) ?_
                refine lv_isub hx hb dX12_bestOf_77 ?_
                refine lv_topi (fun t19 et19 => ?_)
                refine lv_goto (tgt := 82) hx hb dX12_bestOf_78 (by decide) ?_
                refine lv_istore_n (lv' := [(3, .int t19), (5, .int 1), (4, .int v4_5), (0, .ref (ad 0)), (1, .int vy), (2, .int vg)]) hx hb dX12_bestOf_82 rfl hl (by decide) rfl (fun ls hl => ?_)
                refine lv_iinc (v := (v4_5 + 1)) (lv' := [(4, .int (v4_5 + 1)), (3, .int t19), (5, .int 1), (0, .ref (ad 0)), (1, .int vy), (2, .int vg)]) hx hb dX12_bestOf_83 hl (k := 2) rfl rfl (by decide) rfl (fun ls hl => ?_)
                refine loc_gen (P := fun w9 => lv_has ls 6 [(4, .int w9), (3, .int t19), (5, .int 1), (0, .ref (ad 0)), (1, .int vy), (2, .int vg)]) (v4_5 + 1) hl (fun w20 hw20 hl => ?_)
                have hl : lv_has ls 6 [(4, .int w20), (3, .int t19), (5, .int 1), (0, .ref (ad 0)), (1, .int vy), (2, .int vg)] := hl
                have aw20 : w20.toInt = v4_5.toInt + 1 := by rw [← hw20]; first | exact va1 (Int.lt_of_le_of_lt h_v4_5.2 (by decide)) | exact va1 (by omega)
                refine lv_goto (tgt := 5) hx hb dX12_bestOf_86 (by decide) ?_
                exact ih5 (t19) (w20)  _ _ (by first | exact ms_up hm_5 aw20 h_v4_5.2 | exact ms_lt hm_5 (by omega) (by omega) | omega) (by first | exact rg_up aw20 h_v4_5 (by omega) | omega)   hS (lv_sub hl [0, 1, 3, 4, 5] rfl)
        · have f4 : ¬ rb r3 v4_5 = 1 := f4
          refine lv_if_eq (tgt := 48) hx hb dX12_bestOf_24 (by decide) (fun _ => ?_) (fun c => absurd (by decide) c)
          refine lv_iconst (v := 0) hx hb dX12_bestOf_48 (by decide) ?_
          refine lv_istore (lv' := [(5, .int 0), (4, .int v4_5), (3, .int v3_5), (0, .ref (ad 0)), (1, .int vy), (2, .int vg)]) hx hb dX12_bestOf_49 hl (by decide) rfl (fun ls hl => ?_)
          refine lv_iload hx hb dX12_bestOf_51 (lv_at hl 0 rfl) ?_
          refine lv_if_eq (tgt := 81) hx hb dX12_bestOf_53 (by decide) (fun _ => ?_) (fun c => absurd (by decide) c)
          refine lv_iload_n hx hb dX12_bestOf_81 rfl (lv_at hl 2 rfl) ?_
          refine lv_istore_n (lv' := [(3, .int v3_5), (5, .int 0), (4, .int v4_5), (0, .ref (ad 0)), (1, .int vy), (2, .int vg)]) hx hb dX12_bestOf_82 rfl hl (by decide) rfl (fun ls hl => ?_)
          refine lv_iinc (v := (v4_5 + 1)) (lv' := [(4, .int (v4_5 + 1)), (3, .int v3_5), (5, .int 0), (0, .ref (ad 0)), (1, .int vy), (2, .int vg)]) hx hb dX12_bestOf_83 hl (k := 2) rfl rfl (by decide) rfl (fun ls hl => ?_)
          refine loc_gen (P := fun w9 => lv_has ls 6 [(4, .int w9), (3, .int v3_5), (5, .int 0), (0, .ref (ad 0)), (1, .int vy), (2, .int vg)]) (v4_5 + 1) hl (fun w21 hw21 hl => ?_)
          have hl : lv_has ls 6 [(4, .int w21), (3, .int v3_5), (5, .int 0), (0, .ref (ad 0)), (1, .int vy), (2, .int vg)] := hl
          have aw21 : w21.toInt = v4_5.toInt + 1 := by rw [← hw21]; first | exact va1 (Int.lt_of_le_of_lt h_v4_5.2 (by decide)) | exact va1 (by omega)
          refine lv_goto (tgt := 5) hx hb dX12_bestOf_86 (by decide) ?_
          exact ih5 (v3_5) (w21)  _ _ (by first | exact ms_up hm_5 aw21 h_v4_5.2 | exact ms_lt hm_5 (by omega) (by omega) | omega) (by first | exact rg_up aw21 h_v4_5 (by omega) | omega)   hS (lv_sub hl [0, 1, 3, 4, 5] rfl)
  exact loop5 ((7 + 1 - (0 : Int32).toInt).toNat + 1) (0) (0)  _ _ (Nat.lt_succ_self _) (by have h80 : (0 : Int32).toInt = 0 := rfl; exact ⟨by omega, by omega⟩)   hS hl
set_option maxHeartbeats 4000000 in
set_option maxRecDepth 100000 in
/-- qm_worth -/
theorem qm_worth (l : Launch) (dC : Nat → ClassId) (dI : Nat → Nat → Nat) (cs : Nat → ClassId) (ad : Nat → Nat) (mu : Nat → Nat → Int32) (ok : okR loM hiM mu) (H : Heap) (hP : va_P (dC, dI) vwCl (wR 21 ad (EM cs ad) mu) H) (hD0 : va_D (fun _ => True) (wR 21 ad (EM cs ad) mu)) (vk : Int32) (vx : Int32) (vd : Int32) : Met l yX12_worth (wU yX12_worth cX12_worth 8 (some .int)) ({ frames := 3, cells := 0, slots := 0, locals := 71 }) (va_Pc [.ref (ad 0), .int vk, .int vx, .int vd] (sz_P (dC, dI) vwCl (tyM cs) H)) (va_Qi (fun (z : Int32) (xi : Nat → Nat → Int32) => okR loM hiM xi ∧ (True) ∧ (∀ k f : Nat, Nat.testBit 510 (gpM k f) = true → xi k f = mu k f)) (fun xi t => va_P (dC, dI) vwCl (wR 21 ad (EM cs ad) xi) t.heap) (va_A (wR 21 ad (EM cs ad) mu) H.size)) 0 0 (va_A (wR 21 ad (EM cs ad) mu) H.size) := by
  refine Met.ofW (cc := cX12_worth) (maxL := 8) (ret := (some .int)) (by decide) rfl ?_
  intro p e s m args below meth c s₁ B hml hv
  obtain ⟨rfl, hh, hK, hz⟩ := hv
  have hx := B.exec
  have hb := B.bytes
  have hr := B.returns
  have hts := atoms_spec (ws := (wU yX12_worth cX12_worth 8 (some .int))) B.pre
  have hown : s.vm.findClass RX12 = some m.cls := findClass_of_methodNamed B.named
  have hlocks := B.notSynchronized
  subst hh
  have hD := hD0.self (sz := s.heap.size)
  have hA : ∀ q : Nat, s.heap.size ≤ q → (va_A (wR 21 ad (EM cs ad) mu) s.heap.size) q := fun q h => Or.inr h
  have hS : va_S (va_A (wR 21 ad (EM cs ad) mu) s.heap.size) s.heap s.heap [] := va_S.rf
  have hl := lv_entry ([.ref (ad 0), .int vk, .int vx, .int vd]) (n := 8) (Nat.le_of_ble_eq_true rfl)
  rw [lg_entry_eq]
  generalize (lg_sl ([.ref (ad 0), .int vk, .int vx, .int vd]) ++ List.replicate (8 - (lg_sl ([.ref (ad 0), .int vk, .int vx, .int vd])).length) Slot.unset).toArray = ls at hl ⊢
  have hl : lv_has ls 8 [(0, .ref (ad 0)), (1, .int vk), (2, .int vx), (3, .int vd)] := hl
  refine lv_aload_n hx hb dX12_worth_0 rfl (lv_at hl 0 rfl) ?_
  refine lv_iload_n hx hb dX12_worth_1 rfl (lv_at hl 2 rfl) ?_
  refine cr_i (va_runV (As := [.int vx]) (rest := []) ⟨hx, hb, hml, hown, hts⟩ (sm_isOne l dC dI cs ad mu ok s.heap hP vx) (cwV 1 hts (wU_V mw_6_40 mw_6_37 mw_6_39 mw_0_36 mw_1_13) rfl rfl rfl (by decide +kernel) ⟨Nat.le_of_ble_eq_true rfl, Nat.le_of_ble_eq_true rfl⟩) ⟨sz_c, va_recv hK hP (ci := 12) (q0 := 0) rfl (gM_0 cs ad mu), sz_m hK hz⟩ rfl rfl hl.1 rfl (lv_room (Nat.le_of_ble_eq_true rfl)) dX12_worth_2 ⟨Nat.zero_le _, Nat.zero_le _⟩) hS (fun r1 hw1 locs hS => ?_)
  obtain ⟨hfe1, hw1⟩ := hw1
  rcases hw1 with ⟨rfl, f1⟩ | ⟨rfl, f1⟩
  · have f1 : 0 ≤ vx.toInt ∧ vx.toInt < (mu 0 8).toInt ∧ (mu 0 8).toInt ≤ 7 := f1
    refine lv_if_eq (tgt := 18) hx hb dX12_worth_5 (by decide) (fun c => absurd c (by decide)) (fun _ => ?_)
    refine lv_iload_n hx hb dX12_worth_8 rfl (lv_at hl 3 rfl) ?_
    refine lv_iconst (v := 0) hx hb dX12_worth_9 (by decide) ?_
    refine lv_bipush (v := 20) hx hb dX12_worth_10 (by decide) ?_
    refine cr_i (va_runS (As := [.int vd, .int 0, .int 20]) (rest := []) ⟨hx, hb, hml, hown, hts⟩ (sm_in l dC dI (tyM cs) s.heap vd 0 20) (va_cwS 3 hts (wU_S mw_5_189 mw_5_187 mw_5_188 mw_1_13) rfl rfl rfl (by decide +kernel) ⟨Nat.le_of_ble_eq_true rfl, Nat.le_of_ble_eq_true rfl⟩) ⟨sz_c, sz_m hK hz⟩ rfl rfl hl.1 rfl (lv_room (Nat.le_of_ble_eq_true rfl)) dX12_worth_12 ⟨Nat.zero_le _, Nat.zero_le _⟩) hS (fun r2 hw2 locs hS => ?_)
    obtain ⟨hfe2, hw2⟩ := hw2
    rcases hw2 with ⟨rfl, f2⟩ | ⟨rfl, f2⟩
    · have f2 : (0 : Int) ≤ vd.toInt ∧ vd.toInt ≤ (20 : Int) := f2
      refine lv_if_ne (tgt := 22) hx hb dX12_worth_15 (by decide) (fun _ => ?_) (fun c => absurd c (by decide))
      refine lv_aload_n hx hb dX12_worth_22 rfl (lv_at hl 0 rfl) ?_
      refine lv_iload_n hx hb dX12_worth_23 rfl (lv_at hl 1 rfl) ?_
      have hFc := fr_all (wR_D mu hD) hS hA
      refine va_calli (va_runV (As := [.int vk]) (rest := []) ⟨hx, hb, hml, hown, hts⟩ (sm_askedLetter l dC dI cs ad mu ok s.heap hP ((wR_D mu hD).weaken (fun _ _ _ _ => trivial)) vk) (cwV 1 hts (wU_V mw_6_114 mw_6_111 mw_6_113 mw_0_46 mw_1_13) rfl rfl rfl (by decide +kernel) ⟨Nat.le_of_ble_eq_true rfl, Nat.le_of_ble_eq_true rfl⟩) ⟨sz_c, va_recv hK hP (ci := 12) (q0 := 0) rfl (gM_0 cs ad mu), sz_m hK hz⟩ rfl rfl hl.1 rfl (lv_room (Nat.le_of_ble_eq_true rfl)) dX12_worth_24 ⟨Nat.zero_le _, Nat.zero_le _⟩) hS (fun q _ h => hFc q h) hFc (fun r3 xi3 t H3 locs ht hvm hw3 hB hz1 hk1 hS => ?_)
      have hP : va_P (dC, dI) vwCl (wR 21 ad (EM cs ad) xi3) H3 := by rw [← ht]; exact hB
      obtain ⟨hfe3, hw3⟩ := hw3
      rcases hw3 with ⟨rfl, hxi3, f3⟩ | ⟨z3, ok, hkp3_0⟩
      · have hP : va_P (dC, dI) vwCl (wR 21 ad (EM cs ad) mu) H3 := by rw [← hxi3]; exact hP
        have f3 : 0 ≤ vk.toInt ∧ vk.toInt < (mu 0 15).toInt ∧ (mu 0 15).toInt ≤ 4 := f3
        refine lv_istore (lv' := [(4, .int 0), (0, .ref (ad 0)), (1, .int vk), (2, .int vx), (3, .int vd)]) hx hb dX12_worth_27 hl (by decide) rfl (fun ls hl => ?_)
        refine lv_iload hx hb dX12_worth_29 (lv_at hl 0 rfl) ?_
        refine lv_if_ge (tgt := 37) hx hb dX12_worth_31 (by decide) (fun _ => ?_) (fun c => absurd (by decide) c)
        refine lv_aload_n hx hb dX12_worth_37 rfl (lv_at hl 1 rfl) ?_
        refine lv_iload_n hx hb dX12_worth_38 rfl (lv_at hl 2 rfl) ?_
        refine cr_i (va_runV (As := [.int vk]) (rest := []) ⟨hx, hb, hml, hown, hts⟩ (sm_isRead l dC dI cs ad mu ok H3 hP vk (by omega)) (cwV 1 hts (wU_V mw_6_52 mw_6_49 mw_6_51 mw_0_39 mw_1_13) rfl rfl rfl (by decide +kernel) ⟨Nat.le_of_ble_eq_true rfl, Nat.le_of_ble_eq_true rfl⟩) ⟨sz_c, va_recv hK hP (ci := 12) (q0 := 0) rfl (gM_0 cs ad mu), sz_m hK hz⟩ rfl rfl hl.1 rfl (lv_room (Nat.le_of_ble_eq_true rfl)) dX12_worth_39 ⟨Nat.zero_le _, Nat.zero_le _⟩) hS (fun r5 hw5 locs hS => ?_)
        obtain ⟨hfe5, hw5⟩ := hw5
        have gr5 : 0 ≤ r5.toInt ∧ r5.toInt ≤ 1 := hw5
        refine lv_if_eq (tgt := 48) hx hb dX12_worth_42 (by decide) (fun c_6 => ?_) (fun c_6 => ?_)
        · have c_6 : r5.toInt = 0 := il_eq c_6
          refine lv_aload_n hx hb dX12_worth_48 rfl (lv_at hl 1 rfl) ?_
          refine lv_iload_n hx hb dX12_worth_49 rfl (lv_at hl 2 rfl) ?_
          refine lv_iconst (v := 1) hx hb dX12_worth_50 (by decide) ?_
          refine cr_i (va_runV (As := [.int vk, .int 1]) (rest := []) ⟨hx, hb, hml, hown, hts⟩ (sm_letterOf l dC dI cs ad mu ok H3 hP vk 1 (by have h51 : (1 : Int32).toInt = 1 := rfl; omega)) (cwV 2 hts (wU_V mw_6_48 mw_6_45 mw_6_47 mw_0_38 mw_1_13) rfl rfl rfl (by decide +kernel) ⟨Nat.le_of_ble_eq_true rfl, Nat.le_of_ble_eq_true rfl⟩) ⟨sz_c, va_recv hK hP (ci := 12) (q0 := 0) rfl (gM_0 cs ad mu), sz_m hK hz⟩ rfl rfl hl.1 rfl (lv_room (Nat.le_of_ble_eq_true rfl)) dX12_worth_51 ⟨Nat.zero_le _, Nat.zero_le _⟩) hS (fun r7 hw7 locs hS => ?_)
          obtain ⟨hfe7, hw7⟩ := hw7
          refine lv_istore (lv' := [(5, .int r7), (4, .int 0), (0, .ref (ad 0)), (1, .int vk), (2, .int vx), (3, .int vd)]) hx hb dX12_worth_54 hl (by decide) rfl (fun ls hl => ?_)
          refine lv_bipush (v := 20) hx hb dX12_worth_56 (by decide) ?_
          refine lv_istore (lv' := [(6, .int 20), (5, .int r7), (4, .int 0), (0, .ref (ad 0)), (1, .int vk), (2, .int vx), (3, .int vd)]) hx hb dX12_worth_58 hl (by decide) rfl (fun ls hl => ?_)
          have loop60 : ∀ (n60 : Nat) (v6_60 : Int32) (nu60_ : Nat → Nat → Int32) (H : Heap) (locs : List Loc) (ls : Array Slot), (v6_60.toInt + 1 - -1).toNat < n60 → (-1 ≤ v6_60.toInt ∧ v6_60.toInt ≤ 20) → okR loM hiM nu60_ → va_P (dC, dI) vwCl (wR 21 ad (EM cs ad) nu60_) H → (∀ k f : Nat, Nat.testBit 510 (gpM k f) = true → nu60_ k f = mu k f) → va_S (va_A (wR 21 ad (EM cs ad) mu) s.heap.size) s.heap H locs → lv_has ls 8 [(6, .int v6_60), (5, .int r7), (4, .int 0), (0, .ref (ad 0)), (1, .int vk), (2, .int vx), (3, .int vd)] → W p l e (headSpec (wU yX12_worth cX12_worth 8 (some .int)) ({ frames := 3, cells := 0, slots := 0, locals := 71 })).room s m ([.ref (ad 0), .int vk, .int vx, .int vd] : List Value).toArray below meth c H locs 0 0 (MQ below (va_Qi (fun (z : Int32) (xi : Nat → Nat → Int32) => okR loM hiM xi ∧ (True) ∧ (∀ k f : Nat, Nat.testBit 510 (gpM k f) = true → xi k f = mu k f)) (fun xi t => va_P (dC, dI) vwCl (wR 21 ad (EM cs ad) xi) t.heap) (va_A (wR 21 ad (EM cs ad) mu) s.heap.size)) ([.ref (ad 0), .int vk, .int vx, .int vd] : List Value).toArray s 0 0 (va_A (wR 21 ad (EM cs ad) mu) s.heap.size)) (F0 m 60 ls []) := by
            intro n60
            induction n60 with
            | zero => intro v6_60 nu60_ H locs ls hm; exact absurd hm (Nat.not_lt_zero _)
            | succ n60 ih60 =>
              intro v6_60 nu60_ H locs ls hm_60 h_v6_60 ok hP kq60_0 hS hl
              refine lv_iload hx hb dX12_worth_60 (lv_at hl 0 rfl) ?_
              refine lv_iload_n hx hb dX12_worth_62 rfl (lv_at hl 6 rfl) ?_
              refine lv_icmp_lt (tgt := 165) hx hb dX12_worth_63 (by decide) (fun c_8 => ?_) (fun c_8 => ?_)
              · have c_8 : v6_60.toInt < vd.toInt := il_lt c_8
                refine lv_aload_n hx hb dX12_worth_165 rfl (lv_at hl 3 rfl) ?_
                refine va_get (D := (dC, dI)) (ci := 12) (v := .ref (ad 19)) (C := RX12) (T := TX12) (N := 46) hx hb hts inG12 hown hK hP 0 (gM_0 cs ad nu60_) rfl 40 (by decide) (hts _ (List.mem_cons_of_mem _ mw_5_81)) (fun _ h9 => h9) rfl dX12_worth_166 ?_
                refine lv_iload_n hx hb dX12_worth_169 rfl (lv_at hl 5 rfl) ?_
                refine va_iald hx hb hK hP 19 0 (gM_19 cs ad nu60_) rfl (show vp_in vx 7 from vi_of (by omega) (by omega)) dX12_worth_170 ?_
                refine lv_topi (fun y9 ey9 => ?_)
                have by9 : y9.toInt = (nu60_ 19 vx.toNatClampNeg).toInt := congrArg Int32.toInt ey9
                exact W.iret (v := y9) hx hb hr (fun t ht hW => ⟨⟨y9, nu60_, rfl, ⟨ok, trivial, kq60_0⟩, by first | (subst ht; exact hP) | (rw [ht]; exact hP) | (show va_P (dC, dI) vwCl (wR 21 ad (EM cs ad) nu60_) t.heap; rw [ht]; exact hP)⟩, hS.F ht⟩) hS.2.2 dX12_worth_171
              · have c_8 : vd.toInt ≤ v6_60.toInt := il_nlt c_8
                refine lv_iconst (v := 0) hx hb dX12_worth_66 (by decide) ?_
                refine lv_istore (lv' := [(7, .int 0), (6, .int v6_60), (5, .int r7), (4, .int 0), (0, .ref (ad 0)), (1, .int vk), (2, .int vx), (3, .int vd)]) hx hb dX12_worth_67 hl (by decide) rfl (fun ls hl => ?_)
                have loop69 : ∀ (n69 : Nat) (v7_69 : Int32) (nu69_ : Nat → Nat → Int32) (H : Heap) (locs : List Loc) (ls : Array Slot), (7 + 1 - v7_69.toInt).toNat < n69 → (0 ≤ v7_69.toInt ∧ v7_69.toInt ≤ 7) → okR loM hiM nu69_ → va_P (dC, dI) vwCl (wR 21 ad (EM cs ad) nu69_) H → (∀ k f : Nat, Nat.testBit 510 (gpM k f) = true → nu69_ k f = mu k f) → va_S (va_A (wR 21 ad (EM cs ad) mu) s.heap.size) s.heap H locs → lv_has ls 8 [(7, .int v7_69), (6, .int v6_60), (5, .int r7), (4, .int 0), (0, .ref (ad 0)), (1, .int vk), (2, .int vx), (3, .int vd)] → W p l e (headSpec (wU yX12_worth cX12_worth 8 (some .int)) ({ frames := 3, cells := 0, slots := 0, locals := 71 })).room s m ([.ref (ad 0), .int vk, .int vx, .int vd] : List Value).toArray below meth c H locs 0 0 (MQ below (va_Qi (fun (z : Int32) (xi : Nat → Nat → Int32) => okR loM hiM xi ∧ (True) ∧ (∀ k f : Nat, Nat.testBit 510 (gpM k f) = true → xi k f = mu k f)) (fun xi t => va_P (dC, dI) vwCl (wR 21 ad (EM cs ad) xi) t.heap) (va_A (wR 21 ad (EM cs ad) mu) s.heap.size)) ([.ref (ad 0), .int vk, .int vx, .int vd] : List Value).toArray s 0 0 (va_A (wR 21 ad (EM cs ad) mu) s.heap.size)) (F0 m 69 ls []) := by
                  intro n69
                  induction n69 with
                  | zero => intro v7_69 nu69_ H locs ls hm; exact absurd hm (Nat.not_lt_zero _)
                  | succ n69 ih69 =>
                    intro v7_69 nu69_ H locs ls hm_69 h_v7_69 ok hP kq69_0 hS hl
                    refine lv_iload hx hb dX12_worth_69 (lv_at hl 0 rfl) ?_
                    refine lv_aload_n hx hb dX12_worth_71 rfl (lv_at hl 4 rfl) ?_
                    refine va_get (D := (dC, dI)) (ci := 12) (v := .int (nu69_ 0 8)) (C := RX12) (T := TX12) (N := 46) hx hb hts inG12 hown hK hP 0 (gM_0 cs ad nu69_) rfl 8 (by decide) (hts _ (List.mem_cons_of_mem _ mw_5_49)) (fun _ h9 => h9) rfl dX12_worth_72 ?_
                    refine lv_topi (fun y10 ey10 => ?_)
                    have by10 : y10.toInt = (nu69_ 0 8).toInt := congrArg Int32.toInt ey10
                    have gy10 : 0 ≤ y10.toInt ∧ y10.toInt ≤ 7 := by rw [ey10]; exact rM_0_8 ok
                    refine lv_icmp_ge (tgt := 98) hx hb dX12_worth_75 (by decide) (fun c_11 => ?_) (fun c_11 => ?_)
                    · have c_11 : y10.toInt ≤ v7_69.toInt := il_le c_11
                      refine lv_iconst (v := 0) hx hb dX12_worth_98 (by decide) ?_
                      refine lv_istore (lv' := [(7, .int 0), (6, .int v6_60), (5, .int r7), (4, .int 0), (0, .ref (ad 0)), (1, .int vk), (2, .int vx), (3, .int vd)]) hx hb dX12_worth_99 hl (by decide) rfl (fun ls hl => ?_)
                      have loop101 : ∀ (n101 : Nat) (v7_101 : Int32) (nu101_ : Nat → Nat → Int32) (H : Heap) (locs : List Loc) (ls : Array Slot), (7 + 1 - v7_101.toInt).toNat < n101 → (0 ≤ v7_101.toInt ∧ v7_101.toInt ≤ 7) → okR loM hiM nu101_ → va_P (dC, dI) vwCl (wR 21 ad (EM cs ad) nu101_) H → (∀ k f : Nat, Nat.testBit 510 (gpM k f) = true → nu101_ k f = mu k f) → va_S (va_A (wR 21 ad (EM cs ad) mu) s.heap.size) s.heap H locs → lv_has ls 8 [(7, .int v7_101), (6, .int v6_60), (5, .int r7), (4, .int 0), (0, .ref (ad 0)), (1, .int vk), (2, .int vx), (3, .int vd)] → W p l e (headSpec (wU yX12_worth cX12_worth 8 (some .int)) ({ frames := 3, cells := 0, slots := 0, locals := 71 })).room s m ([.ref (ad 0), .int vk, .int vx, .int vd] : List Value).toArray below meth c H locs 0 0 (MQ below (va_Qi (fun (z : Int32) (xi : Nat → Nat → Int32) => okR loM hiM xi ∧ (True) ∧ (∀ k f : Nat, Nat.testBit 510 (gpM k f) = true → xi k f = mu k f)) (fun xi t => va_P (dC, dI) vwCl (wR 21 ad (EM cs ad) xi) t.heap) (va_A (wR 21 ad (EM cs ad) mu) s.heap.size)) ([.ref (ad 0), .int vk, .int vx, .int vd] : List Value).toArray s 0 0 (va_A (wR 21 ad (EM cs ad) mu) s.heap.size)) (F0 m 101 ls []) := by
                        intro n101
                        induction n101 with
                        | zero => intro v7_101 nu101_ H locs ls hm; exact absurd hm (Nat.not_lt_zero _)
                        | succ n101 ih101 =>
                          intro v7_101 nu101_ H locs ls hm_101 h_v7_101 ok hP kq101_0 hS hl
                          refine lv_iload hx hb dX12_worth_101 (lv_at hl 0 rfl) ?_
                          refine lv_aload_n hx hb dX12_worth_103 rfl (lv_at hl 4 rfl) ?_
                          refine va_get (D := (dC, dI)) (ci := 12) (v := .int (nu101_ 0 8)) (C := RX12) (T := TX12) (N := 46) hx hb hts inG12 hown hK hP 0 (gM_0 cs ad nu101_) rfl 8 (by decide) (hts _ (List.mem_cons_of_mem _ mw_5_49)) (fun _ h9 => h9) rfl dX12_worth_104 ?_
                          refine lv_topi (fun y12 ey12 => ?_)
                          have by12 : y12.toInt = (nu101_ 0 8).toInt := congrArg Int32.toInt ey12
                          have gy12 : 0 ≤ y12.toInt ∧ y12.toInt ≤ 7 := by rw [ey12]; exact rM_0_8 ok
                          refine lv_icmp_ge (tgt := 159) hx hb dX12_worth_107 (by decide) (fun c_13 => ?_) (fun c_13 => ?_)
                          · have c_13 : y12.toInt ≤ v7_101.toInt := il_le c_13
                            refine lv_iinc (v := (v6_60 + (-1))) (lv' := [(6, .int (v6_60 + (-1))), (7, .int v7_101), (5, .int r7), (4, .int 0), (0, .ref (ad 0)), (1, .int vk), (2, .int vx), (3, .int vd)]) hx hb dX12_worth_159 hl (k := 1) rfl rfl (by decide) rfl (fun ls hl => ?_)
                            refine loc_gen (P := fun w9 => lv_has ls 8 [(6, .int w9), (7, .int v7_101), (5, .int r7), (4, .int 0), (0, .ref (ad 0)), (1, .int vk), (2, .int vx), (3, .int vd)]) (v6_60 + (-1)) hl (fun w14 hw14 hl => ?_)
                            have hl : lv_has ls 8 [(6, .int w14), (7, .int v7_101), (5, .int r7), (4, .int 0), (0, .ref (ad 0)), (1, .int vk), (2, .int vx), (3, .int vd)] := hl
                            have aw14 : w14.toInt = v6_60.toInt + (-1) := by rw [← hw14]; exact tI_add (rfl : v6_60.toInt = _) (rfl : ((-1) : Int32).toInt = -1) (by omega) (by omega)
                            refine lv_goto (tgt := 60) hx hb dX12_worth_162 (by decide) ?_
                            exact ih60 (w14) nu101_ _ _ _ (by first | exact ms_lt hm_60 (by omega) (by omega) | omega) (by omega)  ok hP  kq101_0 hS (lv_sub hl [0, 2, 3, 4, 5, 6, 7] rfl)
                          · have c_13 : v7_101.toInt < y12.toInt := il_nle c_13
                            refine lv_aload_n hx hb dX12_worth_110 rfl (lv_at hl 4 rfl) ?_
                            refine va_get (D := (dC, dI)) (ci := 12) (v := .ref (ad 19)) (C := RX12) (T := TX12) (N := 46) hx hb hts inG12 hown hK hP 0 (gM_0 cs ad nu101_) rfl 40 (by decide) (hts _ (List.mem_cons_of_mem _ mw_5_81)) (fun _ h9 => h9) rfl dX12_worth_111 ?_
                            refine lv_iload hx hb dX12_worth_114 (lv_at hl 0 rfl) ?_
                            refine lv_iload hx hb dX12_worth_116 (lv_at hl 0 rfl) ?_
                            refine lv_iload hx hb dX12_worth_118 (lv_at hl 2 rfl) ?_
                            refine lv_icmp_ne (tgt := 133) hx hb dX12_worth_120 (by decide) (fun c_15 => ?_) (fun c_15 => ?_)
                            · have c_15 : ¬ v7_101.toInt = r7.toInt := il_ne c_15
                              refine lv_iload hx hb dX12_worth_133 (lv_at hl 1 rfl) ?_
                              refine lv_bipush (v := 20) hx hb dX12_worth_135 (by decide) ?_
                              refine lv_icmp_ne (tgt := 144) hx hb dX12_worth_137 (by decide) (fun c_16 => ?_) (fun c_16 => ?_)
                              · have c_16 : ¬ v6_60.toInt = 20 := il_ne c_16
                                refine lv_aload_n hx hb dX12_worth_144 rfl (lv_at hl 4 rfl) ?_
                                refine lv_iload hx hb dX12_worth_145 (lv_at hl 0 rfl) ?_
                                refine lv_iload hx hb dX12_worth_147 (lv_at hl 2 rfl) ?_
                                refine cr_i (va_runV (As := [.int v7_101, .int r7]) (rest := [.int v7_101, .ref (ad 19)]) ⟨hx, hb, hml, hown, hts⟩ (sm_bestOf l dC dI cs ad nu101_ ok H hP v7_101 r7) (cwV 2 hts (wU_V mw_6_232 mw_6_229 mw_6_231 mw_0_59 mw_1_13) rfl rfl rfl (by decide +kernel) ⟨Nat.le_of_ble_eq_true rfl, Nat.le_of_ble_eq_true rfl⟩) ⟨sz_c, va_recv hK hP (ci := 12) (q0 := 0) rfl (gM_0 cs ad nu101_), sz_m hK hz⟩ rfl rfl hl.1 rfl (lv_room (Nat.le_of_ble_eq_true rfl)) dX12_worth_149 ⟨Nat.zero_le _, Nat.zero_le _⟩) hS (fun r17 hw17 locs hS => ?_)
                                refine va_iast hx hb hK hP (wR_D nu101_ hD) hS 19 0 (gM_19 cs ad nu101_) rfl (show vp_in v7_101 7 from vi_of (by omega) (by omega)) dX12_worth_152 (fun H locs hP _ hS => ?_)
                                refine wr_gen (upd (nu101_ 19) v7_101.toNatClampNeg r17) hP (rfl) (fun nu18 hn18 hP => ?_)
                                have ok := tM_19_s ok v7_101.toNatClampNeg hn18
                                have ez19 : y12 = nu18 0 8 := ey12.trans (congrFun (up_k hn18 (by decide)) 8).symm
                                have kp20 : (∀ k f : Nat, Nat.testBit 510 (gpM k f) = true → nu18 k f = mu k f) := kp_c 0 hn18 (fun _ => rfl) (by decide) kq101_0
                                refine lv_iinc (v := (v7_101 + 1)) (lv' := [(7, .int (v7_101 + 1)), (6, .int v6_60), (5, .int r7), (4, .int 0), (0, .ref (ad 0)), (1, .int vk), (2, .int vx), (3, .int vd)]) hx hb dX12_worth_153 hl (k := 0) rfl rfl (by decide) rfl (fun ls hl => ?_)
                                refine loc_gen (P := fun w9 => lv_has ls 8 [(7, .int w9), (6, .int v6_60), (5, .int r7), (4, .int 0), (0, .ref (ad 0)), (1, .int vk), (2, .int vx), (3, .int vd)]) (v7_101 + 1) hl (fun w21 hw21 hl => ?_)
                                have hl : lv_has ls 8 [(7, .int w21), (6, .int v6_60), (5, .int r7), (4, .int 0), (0, .ref (ad 0)), (1, .int vk), (2, .int vx), (3, .int vd)] := hl
                                have aw21 : w21.toInt = v7_101.toInt + 1 := by rw [← hw21]; first | exact va1 (Int.lt_of_le_of_lt h_v7_101.2 (by decide)) | exact va1 (by omega)
                                refine lv_goto (tgt := 101) hx hb dX12_worth_156 (by decide) ?_
                                exact ih101 (w21) nu18 _ _ _ (by first | exact ms_up hm_101 aw21 h_v7_101.2 | exact ms_lt hm_101 (by omega) (by omega) | omega) (by first | exact rg_up aw21 h_v7_101 (by omega) | omega)  ok hP  kp20 hS (lv_sub hl [0, 1, 2, 3, 4, 5, 6, 7] rfl)
                              · have c_16 : v6_60.toInt = 20 := il_eq c_16
                                refine lv_iconst (v := 0) hx hb dX12_worth_140 (by decide) ?_
                                refine lv_goto (tgt := 152) hx hb dX12_worth_141 (by decide) ?_
                                refine va_iast hx hb hK hP (wR_D nu101_ hD) hS 19 0 (gM_19 cs ad nu101_) rfl (show vp_in v7_101 7 from vi_of (by omega) (by omega)) dX12_worth_152 (fun H locs hP _ hS => ?_)
                                refine wr_gen (upd (nu101_ 19) v7_101.toNatClampNeg 0) hP (rfl) (fun nu22 hn22 hP => ?_)
                                have ok := tM_19_s ok v7_101.toNatClampNeg hn22
                                have ez23 : y12 = nu22 0 8 := ey12.trans (congrFun (up_k hn22 (by decide)) 8).symm
                                have kp24 : (∀ k f : Nat, Nat.testBit 510 (gpM k f) = true → nu22 k f = mu k f) := kp_c 0 hn22 (fun _ => rfl) (by decide) kq101_0
                                refine lv_iinc (v := (v7_101 + 1)) (lv' := [(7, .int (v7_101 + 1)), (6, .int v6_60), (5, .int r7), (4, .int 0), (0, .ref (ad 0)), (1, .int vk), (2, .int vx), (3, .int vd)]) hx hb dX12_worth_153 hl (k := 0) rfl rfl (by decide) rfl (fun ls hl => ?_)
                                refine loc_gen (P := fun w9 => lv_has ls 8 [(7, .int w9), (6, .int v6_60), (5, .int r7), (4, .int 0), (0, .ref (ad 0)), (1, .int vk), (2, .int vx), (3, .int vd)]) (v7_101 + 1) hl (fun w25 hw25 hl => ?_)
                                have hl : lv_has ls 8 [(7, .int w25), (6, .int v6_60), (5, .int r7), (4, .int 0), (0, .ref (ad 0)), (1, .int vk), (2, .int vx), (3, .int vd)] := hl
                                have aw25 : w25.toInt = v7_101.toInt + 1 := by rw [← hw25]; first | exact va1 (Int.lt_of_le_of_lt h_v7_101.2 (by decide)) | exact va1 (by omega)
                                refine lv_goto (tgt := 101) hx hb dX12_worth_156 (by decide) ?_
                                exact ih101 (w25) nu22 _ _ _ (by first | exact ms_up hm_101 aw25 h_v7_101.2 | exact ms_lt hm_101 (by omega) (by omega) | omega) (by first | exact rg_up aw25 h_v7_101 (by omega) | omega)  ok hP  kp24 hS (lv_sub hl [0, 1, 2, 3, 4, 5, 6, 7] rfl)
                            · have c_15 : v7_101.toInt = r7.toInt := il_eq c_15
                              refine lv_aload_n hx hb dX12_worth_123 rfl (lv_at hl 4 rfl) ?_
                              refine lv_iload_n hx hb dX12_worth_124 rfl (lv_at hl 5 rfl) ?_
                              refine lv_iload hx hb dX12_worth_125 (lv_at hl 1 rfl) ?_
                              refine cr_i (va_runV (As := [.int vk, .int v6_60]) (rest := [.int v7_101, .ref (ad 19)]) ⟨hx, hb, hml, hown, hts⟩ (sm_worthIn l dC dI cs ad nu101_ ok H hP vk v6_60 (by omega)) (cwV 2 hts (wU_V mw_6_126 mw_6_123 mw_6_125 mw_0_49 mw_1_13) rfl rfl rfl (by decide +kernel) ⟨Nat.le_of_ble_eq_true rfl, Nat.le_of_ble_eq_true rfl⟩) ⟨sz_c, va_recv hK hP (ci := 12) (q0 := 0) rfl (gM_0 cs ad nu101_), sz_m hK hz⟩ rfl rfl hl.1 rfl (lv_room (Nat.le_of_ble_eq_true rfl)) dX12_worth_127 ⟨Nat.zero_le _, Nat.zero_le _⟩) hS (fun r26 hw26 locs hS => ?_)
                              obtain ⟨hfe26, hw26⟩ := hw26
                              refine lv_goto (tgt := 152) hx hb dX12_worth_130 (by decide) ?_
                              refine va_iast hx hb hK hP (wR_D nu101_ hD) hS 19 0 (gM_19 cs ad nu101_) rfl (show vp_in v7_101 7 from vi_of (by omega) (by omega)) dX12_worth_152 (fun H locs hP _ hS => ?_)
                              refine wr_gen (upd (nu101_ 19) v7_101.toNatClampNeg r26) hP (rfl) (fun nu27 hn27 hP => ?_)
                              have ok := tM_19_s ok v7_101.toNatClampNeg hn27
                              have ez28 : y12 = nu27 0 8 := ey12.trans (congrFun (up_k hn27 (by decide)) 8).symm
                              have kp29 : (∀ k f : Nat, Nat.testBit 510 (gpM k f) = true → nu27 k f = mu k f) := kp_c 0 hn27 (fun _ => rfl) (by decide) kq101_0
                              refine lv_iinc (v := (v7_101 + 1)) (lv' := [(7, .int (v7_101 + 1)), (6, .int v6_60), (5, .int r7), (4, .int 0), (0, .ref (ad 0)), (1, .int vk), (2, .int vx), (3, .int vd)]) hx hb dX12_worth_153 hl (k := 0) rfl rfl (by decide) rfl (fun ls hl => ?_)
                              refine loc_gen (P := fun w9 => lv_has ls 8 [(7, .int w9), (6, .int v6_60), (5, .int r7), (4, .int 0), (0, .ref (ad 0)), (1, .int vk), (2, .int vx), (3, .int vd)]) (v7_101 + 1) hl (fun w30 hw30 hl => ?_)
                              have hl : lv_has ls 8 [(7, .int w30), (6, .int v6_60), (5, .int r7), (4, .int 0), (0, .ref (ad 0)), (1, .int vk), (2, .int vx), (3, .int vd)] := hl
                              have aw30 : w30.toInt = v7_101.toInt + 1 := by rw [← hw30]; first | exact va1 (Int.lt_of_le_of_lt h_v7_101.2 (by decide)) | exact va1 (by omega)
                              refine lv_goto (tgt := 101) hx hb dX12_worth_156 (by decide) ?_
                              exact ih101 (w30) nu27 _ _ _ (by first | exact ms_up hm_101 aw30 h_v7_101.2 | exact ms_lt hm_101 (by omega) (by omega) | omega) (by first | exact rg_up aw30 h_v7_101 (by omega) | omega)  ok hP  kp29 hS (lv_sub hl [0, 1, 2, 3, 4, 5, 6, 7] rfl)
                      exact loop101 ((7 + 1 - (0 : Int32).toInt).toNat + 1) (0) nu69_ _ _ _ (Nat.lt_succ_self _) (by have h80 : (0 : Int32).toInt = 0 := rfl; exact ⟨by omega, by omega⟩)  ok hP  kq69_0 hS hl
                    · have c_11 : v7_69.toInt < y10.toInt := il_nle c_11
                      refine lv_aload_n hx hb dX12_worth_78 rfl (lv_at hl 4 rfl) ?_
                      refine va_get (D := (dC, dI)) (ci := 12) (v := .ref (ad 20)) (C := RX12) (T := TX12) (N := 46) hx hb hts inG12 hown hK hP 0 (gM_0 cs ad nu69_) rfl 41 (by decide) (hts _ (List.mem_cons_of_mem _ mw_5_82)) (fun _ h9 => h9) rfl dX12_worth_79 ?_
                      refine lv_iload hx hb dX12_worth_82 (lv_at hl 0 rfl) ?_
                      refine lv_aload_n hx hb dX12_worth_84 rfl (lv_at hl 4 rfl) ?_
                      refine va_get (D := (dC, dI)) (ci := 12) (v := .ref (ad 19)) (C := RX12) (T := TX12) (N := 46) hx hb hts inG12 hown hK hP 0 (gM_0 cs ad nu69_) rfl 40 (by decide) (hts _ (List.mem_cons_of_mem _ mw_5_81)) (fun _ h9 => h9) rfl dX12_worth_85 ?_
                      refine lv_iload hx hb dX12_worth_88 (lv_at hl 0 rfl) ?_
                      refine va_iald hx hb hK hP 19 0 (gM_19 cs ad nu69_) rfl (show vp_in v7_69 7 from vi_of (by omega) (by omega)) dX12_worth_90 ?_
                      refine lv_topi (fun y31 ey31 => ?_)
                      have by31 : y31.toInt = (nu69_ 19 v7_69.toNatClampNeg).toInt := congrArg Int32.toInt ey31
                      refine va_iast hx hb hK hP (wR_D nu69_ hD) hS 20 0 (gM_20 cs ad nu69_) rfl (show vp_in v7_69 7 from vi_of (by omega) (by omega)) dX12_worth_91 (fun H locs hP _ hS => ?_)
                      refine wr_gen (upd (nu69_ 20) v7_69.toNatClampNeg y31) hP (rfl) (fun nu32 hn32 hP => ?_)
                      have ok := tM_20_s ok v7_69.toNatClampNeg hn32
                      have ez33 : y10 = nu32 0 8 := ey10.trans (congrFun (up_k hn32 (by decide)) 8).symm
                      have ez34 : y31 = nu32 19 v7_69.toNatClampNeg := ey31.trans (congrFun (up_k hn32 (by decide)) v7_69.toNatClampNeg).symm
                      have kp35 : (∀ k f : Nat, Nat.testBit 510 (gpM k f) = true → nu32 k f = mu k f) := kp_c 0 hn32 (fun _ => rfl) (by decide) kq69_0
                      refine lv_iinc (v := (v7_69 + 1)) (lv' := [(7, .int (v7_69 + 1)), (6, .int v6_60), (5, .int r7), (4, .int 0), (0, .ref (ad 0)), (1, .int vk), (2, .int vx), (3, .int vd)]) hx hb dX12_worth_92 hl (k := 0) rfl rfl (by decide) rfl (fun ls hl => ?_)
                      refine loc_gen (P := fun w9 => lv_has ls 8 [(7, .int w9), (6, .int v6_60), (5, .int r7), (4, .int 0), (0, .ref (ad 0)), (1, .int vk), (2, .int vx), (3, .int vd)]) (v7_69 + 1) hl (fun w36 hw36 hl => ?_)
                      have hl : lv_has ls 8 [(7, .int w36), (6, .int v6_60), (5, .int r7), (4, .int 0), (0, .ref (ad 0)), (1, .int vk), (2, .int vx), (3, .int vd)] := hl
                      have aw36 : w36.toInt = v7_69.toInt + 1 := by rw [← hw36]; first | exact va1 (Int.lt_of_le_of_lt h_v7_69.2 (by decide)) | exact va1 (by omega)
                      refine lv_goto (tgt := 69) hx hb dX12_worth_95 (by decide) ?_
                      exact ih69 (w36) nu32 _ _ _ (by first | exact ms_up hm_69 aw36 h_v7_69.2 | exact ms_lt hm_69 (by omega) (by omega) | omega) (by first | exact rg_up aw36 h_v7_69 (by omega) | omega)  ok hP  kp35 hS (lv_sub hl [0, 1, 2, 3, 4, 5, 6, 7] rfl)
                exact loop69 ((7 + 1 - (0 : Int32).toInt).toNat + 1) (0) nu60_ _ _ _ (Nat.lt_succ_self _) (by have h80 : (0 : Int32).toInt = 0 := rfl; exact ⟨by omega, by omega⟩)  ok hP  kq60_0 hS hl
          exact loop60 (((20 : Int32).toInt + 1 - -1).toNat + 1) (20) mu _ _ _ (Nat.lt_succ_self _) (by have h80 : (20 : Int32).toInt = 20 := rfl; exact ⟨by omega, by omega⟩)  ok hP  (fun _ _ _ => rfl) hS hl
        · have c_6 : ¬ r5.toInt = 0 := il_ne c_6
          refine lv_bipush (v := (-4)) hx hb dX12_worth_45 (by decide) ?_
          exact W.iret (v := (-4)) hx hb hr (fun t ht hW => ⟨⟨(-4), mu, rfl, ⟨ok, trivial, (fun _ _ _ => rfl)⟩, by first | (subst ht; exact hP) | (rw [ht]; exact hP) | (show va_P (dC, dI) vwCl (wR 21 ad (EM cs ad) mu) t.heap; rw [ht]; exact hP)⟩, hS.F ht⟩) hS.2.2 dX12_worth_47
      · have kp4 : (∀ k f : Nat, Nat.testBit 510 (gpM k f) = true → xi3 k f = mu k f) := kp_t hkp3_0 (by decide) (fun _ _ _ => rfl)
        skip
        refine lv_istore (lv' := [(4, .int r3), (0, .ref (ad 0)), (1, .int vk), (2, .int vx), (3, .int vd)]) hx hb dX12_worth_27 hl (by decide) rfl (fun ls hl => ?_)
        refine lv_iload hx hb dX12_worth_29 (lv_at hl 0 rfl) ?_
        refine lv_if_ge (tgt := 37) hx hb dX12_worth_31 (by decide) (fun c_37 => by have c_37 : 0 ≤ r3.toInt := il_le c_37; exfalso; omega) (fun c_37 => ?_)
        have c_37 : r3.toInt < 0 := il_nle c_37
        refine lv_iload hx hb dX12_worth_34 (lv_at hl 0 rfl) ?_
        exact W.iret (v := r3) hx hb hr (fun t ht hW => ⟨⟨r3, xi3, rfl, ⟨ok, trivial, kp4⟩, by first | (subst ht; exact hP) | (rw [ht]; exact hP) | (show va_P (dC, dI) vwCl (wR 21 ad (EM cs ad) xi3) t.heap; rw [ht]; exact hP)⟩, hS.F ht⟩) hS.2.2 dX12_worth_36
    · have f2 : vd.toInt < (0 : Int) ∨ (20 : Int) < vd.toInt := f2
      refine lv_if_ne (tgt := 22) hx hb dX12_worth_15 (by decide) (fun c => absurd (by decide) c) (fun _ => ?_)
      refine lv_iconst (v := (-1)) hx hb dX12_worth_18 (by decide) ?_
      refine lv_goto (tgt := 27) hx hb dX12_worth_19 (by decide) ?_
      refine lv_istore (lv' := [(4, .int (-1)), (0, .ref (ad 0)), (1, .int vk), (2, .int vx), (3, .int vd)]) hx hb dX12_worth_27 hl (by decide) rfl (fun ls hl => ?_)
      refine lv_iload hx hb dX12_worth_29 (lv_at hl 0 rfl) ?_
      refine lv_if_ge (tgt := 37) hx hb dX12_worth_31 (by decide) (fun c => absurd c (by decide)) (fun _ => ?_)
      refine lv_iload hx hb dX12_worth_34 (lv_at hl 0 rfl) ?_
      exact W.iret (v := (-1)) hx hb hr (fun t ht hW => ⟨⟨(-1), mu, rfl, ⟨ok, trivial, (fun _ _ _ => rfl)⟩, by first | (subst ht; exact hP) | (rw [ht]; exact hP) | (show va_P (dC, dI) vwCl (wR 21 ad (EM cs ad) mu) t.heap; rw [ht]; exact hP)⟩, hS.F ht⟩) hS.2.2 dX12_worth_36
  · have f1 : vx.toInt < 0 ∨ (mu 0 8).toInt ≤ vx.toInt := f1
    refine lv_if_eq (tgt := 18) hx hb dX12_worth_5 (by decide) (fun _ => ?_) (fun c => absurd (by decide) c)
    refine lv_iconst (v := (-1)) hx hb dX12_worth_18 (by decide) ?_
    refine lv_goto (tgt := 27) hx hb dX12_worth_19 (by decide) ?_
    refine lv_istore (lv' := [(4, .int (-1)), (0, .ref (ad 0)), (1, .int vk), (2, .int vx), (3, .int vd)]) hx hb dX12_worth_27 hl (by decide) rfl (fun ls hl => ?_)
    refine lv_iload hx hb dX12_worth_29 (lv_at hl 0 rfl) ?_
    refine lv_if_ge (tgt := 37) hx hb dX12_worth_31 (by decide) (fun c => absurd c (by decide)) (fun _ => ?_)
    refine lv_iload hx hb dX12_worth_34 (lv_at hl 0 rfl) ?_
    exact W.iret (v := (-1)) hx hb hr (fun t ht hW => ⟨⟨(-1), mu, rfl, ⟨ok, trivial, (fun _ _ _ => rfl)⟩, by first | (subst ht; exact hP) | (rw [ht]; exact hP) | (show va_P (dC, dI) vwCl (wR 21 ad (EM cs ad) mu) t.heap; rw [ht]; exact hP)⟩, hS.F ht⟩) hS.2.2 dX12_worth_36
set_option maxHeartbeats 4000000 in
set_option maxRecDepth 100000 in
/-- qm_bundle -/
theorem qm_bundle (l : Launch) (dC : Nat → ClassId) (dI : Nat → Nat → Nat) (cs : Nat → ClassId) (ad : Nat → Nat) (mu : Nat → Nat → Int32) (ok : okR loM hiM mu) (H : Heap) (hP : va_P (dC, dI) vwCl (wR 21 ad (EM cs ad) mu) H) (hD0 : va_D (fun _ => True) (wR 21 ad (EM cs ad) mu)) (vx : Int32) : Met l yX12_bundle (wU yX12_bundle cX12_bundle 7 (some .int)) ({ frames := 3, cells := 0, slots := 0, locals := 73 }) (va_Pc [.ref (ad 0), .int vx] (sz_P (dC, dI) vwCl (tyM cs) H)) (va_Qi (fun (z : Int32) (xi : Nat → Nat → Int32) => (z, xi) = F_qm_bundle mu vx ∧ okR loM hiM xi ∧ (True) ∧ (∀ k f : Nat, Nat.testBit 510 (gpM k f) = true → xi k f = mu k f)) (fun xi t => va_P (dC, dI) vwCl (wR 21 ad (EM cs ad) xi) t.heap) (va_A (wR 21 ad (EM cs ad) mu) H.size)) 0 0 (va_A (wR 21 ad (EM cs ad) mu) H.size) := by
  refine Met.ofW (cc := cX12_bundle) (maxL := 7) (ret := (some .int)) (by decide) rfl ?_
  intro p e s m args below meth c s₁ B hml hv
  obtain ⟨rfl, hh, hK, hz⟩ := hv
  have hx := B.exec
  have hb := B.bytes
  have hr := B.returns
  have hts := atoms_spec (ws := (wU yX12_bundle cX12_bundle 7 (some .int))) B.pre
  have hown : s.vm.findClass RX12 = some m.cls := findClass_of_methodNamed B.named
  have hlocks := B.notSynchronized
  subst hh
  have hD := hD0.self (sz := s.heap.size)
  have hA : ∀ q : Nat, s.heap.size ≤ q → (va_A (wR 21 ad (EM cs ad) mu) s.heap.size) q := fun q h => Or.inr h
  have hS : va_S (va_A (wR 21 ad (EM cs ad) mu) s.heap.size) s.heap s.heap [] := va_S.rf
  have hl := lv_entry ([.ref (ad 0), .int vx]) (n := 7) (Nat.le_of_ble_eq_true rfl)
  rw [lg_entry_eq]
  generalize (lg_sl ([.ref (ad 0), .int vx]) ++ List.replicate (7 - (lg_sl ([.ref (ad 0), .int vx])).length) Slot.unset).toArray = ls at hl ⊢
  have hl : lv_has ls 7 [(0, .ref (ad 0)), (1, .int vx)] := hl
  obtain ⟨fz, hfz⟩ : ∃ z, F_qm_bundle mu vx = z := ⟨_, rfl⟩
  have hF := hfz
  unfold F_qm_bundle at hF
  refine lv_aload_n hx hb dX12_bundle_0 rfl (lv_at hl 0 rfl) ?_
  refine lv_iload_n hx hb dX12_bundle_1 rfl (lv_at hl 1 rfl) ?_
  refine cr_i (va_runV (As := [.int vx]) (rest := []) ⟨hx, hb, hml, hown, hts⟩ (sm_isOne l dC dI cs ad mu ok s.heap hP vx) (cwV 1 hts (wU_V mw_6_40 mw_6_37 mw_6_39 mw_0_36 mw_1_13) rfl rfl rfl (by decide +kernel) ⟨Nat.le_of_ble_eq_true rfl, Nat.le_of_ble_eq_true rfl⟩) ⟨sz_c, va_recv hK hP (ci := 12) (q0 := 0) rfl (gM_0 cs ad mu), sz_m hK hz⟩ rfl rfl hl.1 rfl (lv_room (Nat.le_of_ble_eq_true rfl)) dX12_bundle_2 ⟨Nat.zero_le _, Nat.zero_le _⟩) hS (fun r1 hw1 locs hS => ?_)
  obtain ⟨hfe1, hw1⟩ := hw1
  rcases hw1 with ⟨rfl, f1⟩ | ⟨rfl, f1⟩
  · have hF := (if_pos hfe1.symm).symm.trans hF
    have f1 : 0 ≤ vx.toInt ∧ vx.toInt < (mu 0 8).toInt ∧ (mu 0 8).toInt ≤ 7 := f1
    refine lv_if_ne (tgt := 10) hx hb dX12_bundle_5 (by decide) (fun _ => ?_) (fun c => absurd c (by decide))
    refine lv_iconst (v := 0) hx hb dX12_bundle_10 (by decide) ?_
    refine lv_istore_n (lv' := [(2, .int 0), (0, .ref (ad 0)), (1, .int vx)]) hx hb dX12_bundle_11 rfl hl (by decide) rfl (fun ls hl => ?_)
    refine lv_iconst (v := 1) hx hb dX12_bundle_12 (by decide) ?_
    refine lv_istore_n (lv' := [(3, .int 1), (2, .int 0), (0, .ref (ad 0)), (1, .int vx)]) hx hb dX12_bundle_13 rfl hl (by decide) rfl (fun ls hl => ?_)
    have loop14 : ∀ (n14 : Nat) (v2_14 : Int32) (v3_14 : Int32) (nu14_ : Nat → Nat → Int32) (H : Heap) (locs : List Loc) (ls : Array Slot), (4096 + 1 - v3_14.toInt).toNat < n14 → (0 ≤ v3_14.toInt ∧ v3_14.toInt ≤ 4096) → okR loM hiM nu14_ → va_P (dC, dI) vwCl (wR 21 ad (EM cs ad) nu14_) H → (∀ k f : Nat, Nat.testBit 510 (gpM k f) = true → nu14_ k f = mu k f) → L_qm_bundle_14_0 mu vx n14 v2_14 v3_14 nu14_ = fz → va_S (va_A (wR 21 ad (EM cs ad) mu) s.heap.size) s.heap H locs → lv_has ls 7 [(3, .int v3_14), (2, .int v2_14), (0, .ref (ad 0)), (1, .int vx)] → W p l e (headSpec (wU yX12_bundle cX12_bundle 7 (some .int)) ({ frames := 3, cells := 0, slots := 0, locals := 73 })).room s m ([.ref (ad 0), .int vx] : List Value).toArray below meth c H locs 0 0 (MQ below (va_Qi (fun (z : Int32) (xi : Nat → Nat → Int32) => (z, xi) = F_qm_bundle mu vx ∧ okR loM hiM xi ∧ (True) ∧ (∀ k f : Nat, Nat.testBit 510 (gpM k f) = true → xi k f = mu k f)) (fun xi t => va_P (dC, dI) vwCl (wR 21 ad (EM cs ad) xi) t.heap) (va_A (wR 21 ad (EM cs ad) mu) s.heap.size)) ([.ref (ad 0), .int vx] : List Value).toArray s 0 0 (va_A (wR 21 ad (EM cs ad) mu) s.heap.size)) (F0 m 14 ls []) := by
      intro n14
      induction n14 with
      | zero => intro v2_14 v3_14 nu14_ H locs ls hm; exact absurd hm (Nat.not_lt_zero _)
      | succ n14 ih14 =>
        intro v2_14 v3_14 nu14_ H locs ls hm_14 h_v3_14 ok hP kq14_0 hF hS hl
        rw [L_qm_bundle_14_0] at hF
        refine lv_iload_n hx hb dX12_bundle_14 rfl (lv_at hl 0 rfl) ?_
        refine lv_iconst (v := 1) hx hb dX12_bundle_15 (by decide) ?_
        refine lv_aload_n hx hb dX12_bundle_16 rfl (lv_at hl 2 rfl) ?_
        refine va_get (D := (dC, dI)) (ci := 12) (v := .int (nu14_ 0 15)) (C := RX12) (T := TX12) (N := 46) hx hb hts inG12 hown hK hP 0 (gM_0 cs ad nu14_) rfl 15 (by decide) (hts _ (List.mem_cons_of_mem _ mw_5_56)) (fun _ h9 => h9) rfl dX12_bundle_17 ?_
        refine lv_topi (fun y2 ey2 => ?_)
        have hF := mi_let hF ey2
        have by2 : y2.toInt = (nu14_ 0 15).toInt := congrArg Int32.toInt ey2
        have gy2 : 0 ≤ y2.toInt ∧ y2.toInt ≤ 4 := by rw [ey2]; exact rM_0_15 ok
        refine lv_ishl hx hb dX12_bundle_20 ?_
        refine lv_topi (fun t3 et3 => ?_)
        have hF := mi_let hF et3
        have gt3 : 1 ≤ t3.toInt ∧ t3.toInt ≤ 4096 := by rw [et3]; exact shl12 ⟨by omega, by omega⟩
        refine lv_icmp_ge (tgt := 145) hx hb dX12_bundle_21 (by decide) (fun c_4 => ?_) (fun c_4 => ?_)
        · have hF := (if_pos c_4).symm.trans hF
          have c_4 : t3.toInt ≤ v3_14.toInt := il_le c_4
          refine lv_aload_n hx hb dX12_bundle_145 rfl (lv_at hl 2 rfl) ?_
          refine lv_iload_n hx hb dX12_bundle_146 rfl (lv_at hl 1 rfl) ?_
          refine lv_iload_n hx hb dX12_bundle_147 rfl (lv_at hl 1 rfl) ?_
          refine cr_i (va_runS (As := [.int v2_14]) (rest := [.int v2_14, .ref (ad 0)]) ⟨hx, hb, hml, hown, hts⟩ (sm_sizeOf l dC dI (tyM cs) H v2_14) (va_cwS 1 hts (wU_S mw_6_62 mw_6_60 mw_6_61 mw_1_13) rfl rfl rfl (by decide +kernel) ⟨Nat.le_of_ble_eq_true rfl, Nat.le_of_ble_eq_true rfl⟩) ⟨sz_c, sz_m hK hz⟩ rfl rfl hl.1 rfl (lv_room (Nat.le_of_ble_eq_true rfl)) dX12_bundle_148 ⟨Nat.zero_le _, Nat.zero_le _⟩) hS (fun r5 hw5 locs hS => ?_)
          obtain ⟨hfe5, hw5⟩ := hw5
          have hF := mi_let hF hfe5
          have gr5 : r5 = so v2_14 ∧ (0 ≤ v2_14.toInt → v2_14.toInt ≤ 127 → r5.toInt = (pp v2_14.toNatClampNeg : Int) ∧ pp v2_14.toNatClampNeg ≤ 7 ∧ (v2_14.toInt = 0 ∨ 1 ≤ pp v2_14.toNatClampNeg)) := hw5
          have hFc := fr_all (wR_D nu14_ hD) hS hA
          refine va_calli (va_runV (As := [.int v2_14, .int r5]) (rest := []) ⟨hx, hb, hml, hown, hts⟩ (sm_ask l dC dI cs ad nu14_ ok H hP ((wR_D nu14_ hD).weaken (fun _ _ _ _ => trivial)) v2_14 r5) (cwV 2 hts (wU_V mw_5_213 mw_5_210 mw_5_212 mw_0_30 mw_1_13) rfl rfl rfl (by decide +kernel) ⟨Nat.le_of_ble_eq_true rfl, Nat.le_of_ble_eq_true rfl⟩) ⟨sz_c, va_recv hK hP (ci := 12) (q0 := 0) rfl (gM_0 cs ad nu14_), sz_m hK hz⟩ rfl rfl hl.1 rfl (lv_room (Nat.le_of_ble_eq_true rfl)) dX12_bundle_151 ⟨Nat.zero_le _, Nat.zero_le _⟩) hS (fun q _ h => hFc q h) hFc (fun r6 xi6 t H6 locs ht hvm hw6 hB hz1 hk1 hS => ?_)
          have hP : va_P (dC, dI) vwCl (wR 21 ad (EM cs ad) xi6) H6 := by rw [← ht]; exact hB
          obtain ⟨hfe6, ok, hw6, hkp6_0⟩ := hw6
          have hF := mi_letp hF hfe6
          have kp7 : (∀ k f : Nat, Nat.testBit 510 (gpM k f) = true → xi6 k f = mu k f) := kp_t hkp6_0 (by decide) kq14_0
          have gr6 : r6.toInt = r5.toInt := hw6
          exact W.iret (v := r6) hx hb hr (fun t ht hW => ⟨⟨r6, xi6, rfl, ⟨hF.trans hfz.symm, ok, trivial, kp7⟩, by first | (subst ht; exact hP) | (rw [ht]; exact hP) | (show va_P (dC, dI) vwCl (wR 21 ad (EM cs ad) xi6) t.heap; rw [ht]; exact hP)⟩, hS.F ht⟩) hS.2.2 dX12_bundle_154
        · have hF := (if_neg c_4).symm.trans hF
          have c_4 : v3_14.toInt < t3.toInt := il_nle c_4
          refine lv_iconst (v := 0) hx hb dX12_bundle_24 (by decide) ?_
          refine lv_istore (lv' := [(4, .int 0), (3, .int v3_14), (2, .int v2_14), (0, .ref (ad 0)), (1, .int vx)]) hx hb dX12_bundle_25 hl (by decide) rfl (fun ls hl => ?_)
          refine lv_iconst (v := 1) hx hb dX12_bundle_27 (by decide) ?_
          refine lv_istore (lv' := [(5, .int 1), (4, .int 0), (3, .int v3_14), (2, .int v2_14), (0, .ref (ad 0)), (1, .int vx)]) hx hb dX12_bundle_28 hl (by decide) rfl (fun ls hl => ?_)
          refine lv_iconst (v := 0) hx hb dX12_bundle_30 (by decide) ?_
          refine lv_istore (lv' := [(6, .int 0), (5, .int 1), (4, .int 0), (3, .int v3_14), (2, .int v2_14), (0, .ref (ad 0)), (1, .int vx)]) hx hb dX12_bundle_31 hl (by decide) rfl (fun ls hl => ?_)
          have loop33 : ∀ (n33 : Nat) (v4_33 : Int32) (v5_33 : Int32) (v6_33 : Int32) (nu33_ : Nat → Nat → Int32) (H : Heap) (locs : List Loc) (ls : Array Slot), (4 + 1 - v6_33.toInt).toNat < n33 → (0 ≤ v6_33.toInt ∧ v6_33.toInt ≤ 4) → okR loM hiM nu33_ → va_P (dC, dI) vwCl (wR 21 ad (EM cs ad) nu33_) H → (∀ k f : Nat, Nat.testBit 510 (gpM k f) = true → nu33_ k f = mu k f) → L_qm_bundle_33_1 mu v2_14 v3_14 vx (fun z_v2_14 z_v3_14 z_nu14_ => L_qm_bundle_14_0 mu vx n14 z_v2_14 z_v3_14 z_nu14_) n33 v4_33 v5_33 v6_33 nu33_ = fz → va_S (va_A (wR 21 ad (EM cs ad) mu) s.heap.size) s.heap H locs → lv_has ls 7 [(6, .int v6_33), (5, .int v5_33), (4, .int v4_33), (3, .int v3_14), (2, .int v2_14), (0, .ref (ad 0)), (1, .int vx)] → W p l e (headSpec (wU yX12_bundle cX12_bundle 7 (some .int)) ({ frames := 3, cells := 0, slots := 0, locals := 73 })).room s m ([.ref (ad 0), .int vx] : List Value).toArray below meth c H locs 0 0 (MQ below (va_Qi (fun (z : Int32) (xi : Nat → Nat → Int32) => (z, xi) = F_qm_bundle mu vx ∧ okR loM hiM xi ∧ (True) ∧ (∀ k f : Nat, Nat.testBit 510 (gpM k f) = true → xi k f = mu k f)) (fun xi t => va_P (dC, dI) vwCl (wR 21 ad (EM cs ad) xi) t.heap) (va_A (wR 21 ad (EM cs ad) mu) s.heap.size)) ([.ref (ad 0), .int vx] : List Value).toArray s 0 0 (va_A (wR 21 ad (EM cs ad) mu) s.heap.size)) (F0 m 33 ls []) := by
            intro n33
            induction n33 with
            | zero => intro v4_33 v5_33 v6_33 nu33_ H locs ls hm; exact absurd hm (Nat.not_lt_zero _)
            | succ n33 ih33 =>
              intro v4_33 v5_33 v6_33 nu33_ H locs ls hm_33 h_v6_33 ok hP kq33_0 hF hS hl
              rw [L_qm_bundle_33_1] at hF
              refine lv_iload hx hb dX12_bundle_33 (lv_at hl 0 rfl) ?_
              refine lv_aload_n hx hb dX12_bundle_35 rfl (lv_at hl 5 rfl) ?_
              refine va_get (D := (dC, dI)) (ci := 12) (v := .int (nu33_ 0 15)) (C := RX12) (T := TX12) (N := 46) hx hb hts inG12 hown hK hP 0 (gM_0 cs ad nu33_) rfl 15 (by decide) (hts _ (List.mem_cons_of_mem _ mw_5_56)) (fun _ h9 => h9) rfl dX12_bundle_36 ?_
              refine lv_topi (fun y8 ey8 => ?_)
              have hF := mi_let hF ey8
              have by8 : y8.toInt = (nu33_ 0 15).toInt := congrArg Int32.toInt ey8
              have gy8 : 0 ≤ y8.toInt ∧ y8.toInt ≤ 4 := by rw [ey8]; exact rM_0_15 ok
              refine lv_icmp_ge (tgt := 106) hx hb dX12_bundle_39 (by decide) (fun c_9 => ?_) (fun c_9 => ?_)
              · have hF := (if_pos c_9).symm.trans hF
                have c_9 : y8.toInt ≤ v6_33.toInt := il_le c_9
                refine lv_iload hx hb dX12_bundle_106 (lv_at hl 1 rfl) ?_
                refine lv_if_eq (tgt := 137) hx hb dX12_bundle_108 (by decide) (fun c_10 => ?_) (fun c_10 => ?_)
                · have hF := (if_pos c_10).symm.trans hF
                  have c_10 : v5_33.toInt = 0 := il_eq c_10
                  refine lv_iload_n hx hb dX12_bundle_137 rfl (lv_at hl 4 rfl) ?_
                  refine lv_istore_n (lv' := [(2, .int v2_14), (6, .int v6_33), (5, .int v5_33), (4, .int v4_33), (3, .int v3_14), (0, .ref (ad 0)), (1, .int vx)]) hx hb dX12_bundle_138 rfl hl (by decide) rfl (fun ls hl => ?_)
                  refine lv_iinc (v := (v3_14 + 1)) (lv' := [(3, .int (v3_14 + 1)), (2, .int v2_14), (6, .int v6_33), (5, .int v5_33), (4, .int v4_33), (0, .ref (ad 0)), (1, .int vx)]) hx hb dX12_bundle_139 hl (k := 4) rfl rfl (by decide) rfl (fun ls hl => ?_)
                  refine loc_gen (P := fun w9 => lv_has ls 7 [(3, .int w9), (2, .int v2_14), (6, .int v6_33), (5, .int v5_33), (4, .int v4_33), (0, .ref (ad 0)), (1, .int vx)]) (v3_14 + 1) hl (fun w11 hw11 hl => ?_)
                  have hl : lv_has ls 7 [(3, .int w11), (2, .int v2_14), (6, .int v6_33), (5, .int v5_33), (4, .int v4_33), (0, .ref (ad 0)), (1, .int vx)] := hl
                  have hF := mi_let hF hw11.symm
                  have aw11 : w11.toInt = v3_14.toInt + 1 := by rw [← hw11]; first | exact va1 (Int.lt_of_le_of_lt h_v3_14.2 (by decide)) | exact va1 (by omega)
                  refine lv_goto (tgt := 14) hx hb dX12_bundle_142 (by decide) ?_
                  exact ih14 (v2_14) (w11) nu33_ _ _ _ (by first | exact ms_up hm_14 aw11 h_v3_14.2 | exact ms_lt hm_14 (by omega) (by omega) | omega) (by first | exact rg_up aw11 h_v3_14 (by omega) | omega)  ok hP  kq33_0 hF hS (lv_sub hl [0, 1, 5, 6] rfl)
                · have hF := (if_neg c_10).symm.trans hF
                  have c_10 : ¬ v5_33.toInt = 0 := il_ne c_10
                  refine lv_iload hx hb dX12_bundle_111 (lv_at hl 2 rfl) ?_
                  refine lv_aload_n hx hb dX12_bundle_113 rfl (lv_at hl 5 rfl) ?_
                  refine va_get (D := (dC, dI)) (ci := 12) (v := .ref (ad 8)) (C := RX12) (T := TX12) (N := 46) hx hb hts inG12 hown hK hP 0 (gM_0 cs ad nu33_) rfl 10 (by decide) (hts _ (List.mem_cons_of_mem _ mw_5_51)) (fun _ h9 => h9) rfl dX12_bundle_114 ?_
                  refine lv_iload_n hx hb dX12_bundle_117 rfl (lv_at hl 6 rfl) ?_
                  refine va_iald hx hb hK hP 8 0 (gM_8 cs ad nu33_) rfl (show vp_in vx 7 from vi_of (by omega) (by omega)) dX12_bundle_118 ?_
                  refine lv_topi (fun y12 ey12 => ?_)
                  have hF := mi_let hF ey12
                  have by12 : y12.toInt = (nu33_ 8 vx.toNatClampNeg).toInt := congrArg Int32.toInt ey12
                  refine lv_icmp_gt (tgt := 137) hx hb dX12_bundle_119 (by decide) (fun c_13 => ?_) (fun c_13 => ?_)
                  · have hF := (if_pos c_13).symm.trans hF
                    have c_13 : y12.toInt < v4_33.toInt := il_lt c_13
                    refine lv_iload_n hx hb dX12_bundle_137 rfl (lv_at hl 4 rfl) ?_
                    refine lv_istore_n (lv' := [(2, .int v2_14), (6, .int v6_33), (5, .int v5_33), (4, .int v4_33), (3, .int v3_14), (0, .ref (ad 0)), (1, .int vx)]) hx hb dX12_bundle_138 rfl hl (by decide) rfl (fun ls hl => ?_)
                    refine lv_iinc (v := (v3_14 + 1)) (lv' := [(3, .int (v3_14 + 1)), (2, .int v2_14), (6, .int v6_33), (5, .int v5_33), (4, .int v4_33), (0, .ref (ad 0)), (1, .int vx)]) hx hb dX12_bundle_139 hl (k := 4) rfl rfl (by decide) rfl (fun ls hl => ?_)
                    refine loc_gen (P := fun w9 => lv_has ls 7 [(3, .int w9), (2, .int v2_14), (6, .int v6_33), (5, .int v5_33), (4, .int v4_33), (0, .ref (ad 0)), (1, .int vx)]) (v3_14 + 1) hl (fun w14 hw14 hl => ?_)
                    have hl : lv_has ls 7 [(3, .int w14), (2, .int v2_14), (6, .int v6_33), (5, .int v5_33), (4, .int v4_33), (0, .ref (ad 0)), (1, .int vx)] := hl
                    have hF := mi_let hF hw14.symm
                    have aw14 : w14.toInt = v3_14.toInt + 1 := by rw [← hw14]; first | exact va1 (Int.lt_of_le_of_lt h_v3_14.2 (by decide)) | exact va1 (by omega)
                    refine lv_goto (tgt := 14) hx hb dX12_bundle_142 (by decide) ?_
                    exact ih14 (v2_14) (w14) nu33_ _ _ _ (by first | exact ms_up hm_14 aw14 h_v3_14.2 | exact ms_lt hm_14 (by omega) (by omega) | omega) (by first | exact rg_up aw14 h_v3_14 (by omega) | omega)  ok hP  kq33_0 hF hS (lv_sub hl [0, 1, 5, 6] rfl)
                  · have hF := (if_neg c_13).symm.trans hF
                    have c_13 : v4_33.toInt ≤ y12.toInt := il_nlt c_13
                    refine lv_iload_n hx hb dX12_bundle_122 rfl (lv_at hl 3 rfl) ?_
                    refine cr_i (va_runS (As := [.int v3_14]) (rest := []) ⟨hx, hb, hml, hown, hts⟩ (sm_sizeOf l dC dI (tyM cs) H v3_14) (va_cwS 1 hts (wU_S mw_6_62 mw_6_60 mw_6_61 mw_1_13) rfl rfl rfl (by decide +kernel) ⟨Nat.le_of_ble_eq_true rfl, Nat.le_of_ble_eq_true rfl⟩) ⟨sz_c, sz_m hK hz⟩ rfl rfl hl.1 rfl (lv_room (Nat.le_of_ble_eq_true rfl)) dX12_bundle_123 ⟨Nat.zero_le _, Nat.zero_le _⟩) hS (fun r15 hw15 locs hS => ?_)
                    obtain ⟨hfe15, hw15⟩ := hw15
                    have hF := mi_let hF hfe15
                    have gr15 : r15 = so v3_14 ∧ (0 ≤ v3_14.toInt → v3_14.toInt ≤ 127 → r15.toInt = (pp v3_14.toNatClampNeg : Int) ∧ pp v3_14.toNatClampNeg ≤ 7 ∧ (v3_14.toInt = 0 ∨ 1 ≤ pp v3_14.toNatClampNeg)) := hw15
                    refine lv_iload_n hx hb dX12_bundle_126 rfl (lv_at hl 4 rfl) ?_
                    refine cr_i (va_runS (As := [.int v2_14]) (rest := [.int r15]) ⟨hx, hb, hml, hown, hts⟩ (sm_sizeOf l dC dI (tyM cs) H v2_14) (va_cwS 1 hts (wU_S mw_6_62 mw_6_60 mw_6_61 mw_1_13) rfl rfl rfl (by decide +kernel) ⟨Nat.le_of_ble_eq_true rfl, Nat.le_of_ble_eq_true rfl⟩) ⟨sz_c, sz_m hK hz⟩ rfl rfl hl.1 rfl (lv_room (Nat.le_of_ble_eq_true rfl)) dX12_bundle_127 ⟨Nat.zero_le _, Nat.zero_le _⟩) hS (fun r16 hw16 locs hS => ?_)
                    obtain ⟨hfe16, hw16⟩ := hw16
                    have hF := mi_let hF hfe16
                    have gr16 : r16 = so v2_14 ∧ (0 ≤ v2_14.toInt → v2_14.toInt ≤ 127 → r16.toInt = (pp v2_14.toNatClampNeg : Int) ∧ pp v2_14.toNatClampNeg ≤ 7 ∧ (v2_14.toInt = 0 ∨ 1 ≤ pp v2_14.toNatClampNeg)) := hw16
                    refine lv_icmp_le (tgt := 137) hx hb dX12_bundle_130 (by decide) (fun c_17 => ?_) (fun c_17 => ?_)
                    · have hF := (if_pos c_17).symm.trans hF
                      have c_17 : r15.toInt ≤ r16.toInt := il_le c_17
                      refine lv_iload_n hx hb dX12_bundle_137 rfl (lv_at hl 4 rfl) ?_
                      refine lv_istore_n (lv' := [(2, .int v2_14), (6, .int v6_33), (5, .int v5_33), (4, .int v4_33), (3, .int v3_14), (0, .ref (ad 0)), (1, .int vx)]) hx hb dX12_bundle_138 rfl hl (by decide) rfl (fun ls hl => ?_)
                      refine lv_iinc (v := (v3_14 + 1)) (lv' := [(3, .int (v3_14 + 1)), (2, .int v2_14), (6, .int v6_33), (5, .int v5_33), (4, .int v4_33), (0, .ref (ad 0)), (1, .int vx)]) hx hb dX12_bundle_139 hl (k := 4) rfl rfl (by decide) rfl (fun ls hl => ?_)
                      refine loc_gen (P := fun w9 => lv_has ls 7 [(3, .int w9), (2, .int v2_14), (6, .int v6_33), (5, .int v5_33), (4, .int v4_33), (0, .ref (ad 0)), (1, .int vx)]) (v3_14 + 1) hl (fun w18 hw18 hl => ?_)
                      have hl : lv_has ls 7 [(3, .int w18), (2, .int v2_14), (6, .int v6_33), (5, .int v5_33), (4, .int v4_33), (0, .ref (ad 0)), (1, .int vx)] := hl
                      have hF := mi_let hF hw18.symm
                      have aw18 : w18.toInt = v3_14.toInt + 1 := by rw [← hw18]; first | exact va1 (Int.lt_of_le_of_lt h_v3_14.2 (by decide)) | exact va1 (by omega)
                      refine lv_goto (tgt := 14) hx hb dX12_bundle_142 (by decide) ?_
                      exact ih14 (v2_14) (w18) nu33_ _ _ _ (by first | exact ms_up hm_14 aw18 h_v3_14.2 | exact ms_lt hm_14 (by omega) (by omega) | omega) (by first | exact rg_up aw18 h_v3_14 (by omega) | omega)  ok hP  kq33_0 hF hS (lv_sub hl [0, 1, 5, 6] rfl)
                    · have hF := (if_neg c_17).symm.trans hF
                      have c_17 : r16.toInt < r15.toInt := il_nle c_17
                      refine lv_iload_n hx hb dX12_bundle_133 rfl (lv_at hl 3 rfl) ?_
                      refine lv_goto (tgt := 138) hx hb dX12_bundle_134 (by decide) ?_
                      refine lv_istore_n (lv' := [(2, .int v3_14), (6, .int v6_33), (5, .int v5_33), (4, .int v4_33), (3, .int v3_14), (0, .ref (ad 0)), (1, .int vx)]) hx hb dX12_bundle_138 rfl hl (by decide) rfl (fun ls hl => ?_)
                      refine lv_iinc (v := (v3_14 + 1)) (lv' := [(3, .int (v3_14 + 1)), (2, .int v3_14), (6, .int v6_33), (5, .int v5_33), (4, .int v4_33), (0, .ref (ad 0)), (1, .int vx)]) hx hb dX12_bundle_139 hl (k := 4) rfl rfl (by decide) rfl (fun ls hl => ?_)
                      refine loc_gen (P := fun w9 => lv_has ls 7 [(3, .int w9), (2, .int v3_14), (6, .int v6_33), (5, .int v5_33), (4, .int v4_33), (0, .ref (ad 0)), (1, .int vx)]) (v3_14 + 1) hl (fun w19 hw19 hl => ?_)
                      have hl : lv_has ls 7 [(3, .int w19), (2, .int v3_14), (6, .int v6_33), (5, .int v5_33), (4, .int v4_33), (0, .ref (ad 0)), (1, .int vx)] := hl
                      have hF := mi_let hF hw19.symm
                      have aw19 : w19.toInt = v3_14.toInt + 1 := by rw [← hw19]; first | exact va1 (Int.lt_of_le_of_lt h_v3_14.2 (by decide)) | exact va1 (by omega)
                      refine lv_goto (tgt := 14) hx hb dX12_bundle_142 (by decide) ?_
                      exact ih14 (v3_14) (w19) nu33_ _ _ _ (by first | exact ms_up hm_14 aw19 h_v3_14.2 | exact ms_lt hm_14 (by omega) (by omega) | omega) (by first | exact rg_up aw19 h_v3_14 (by omega) | omega)  ok hP  kq33_0 hF hS (lv_sub hl [0, 1, 5, 6] rfl)
              · have hF := (if_neg c_9).symm.trans hF
                have c_9 : v6_33.toInt < y8.toInt := il_nle c_9
                refine lv_iload hx hb dX12_bundle_42 (lv_at hl 1 rfl) ?_
                refine lv_if_eq (tgt := 73) hx hb dX12_bundle_44 (by decide) (fun c_20 => ?_) (fun c_20 => ?_)
                · have hF := (if_pos c_20).symm.trans hF
                  have c_20 : v5_33.toInt = 0 := il_eq c_20
                  refine lv_iconst (v := 0) hx hb dX12_bundle_73 (by decide) ?_
                  refine lv_istore (lv' := [(5, .int 0), (6, .int v6_33), (4, .int v4_33), (3, .int v3_14), (2, .int v2_14), (0, .ref (ad 0)), (1, .int vx)]) hx hb dX12_bundle_74 hl (by decide) rfl (fun ls hl => ?_)
                  refine lv_iload hx hb dX12_bundle_76 (lv_at hl 2 rfl) ?_
                  refine lv_iload_n hx hb dX12_bundle_78 rfl (lv_at hl 3 rfl) ?_
                  refine lv_iload hx hb dX12_bundle_79 (lv_at hl 1 rfl) ?_
                  refine cr_i (va_runS (As := [.int v3_14, .int v6_33]) (rest := [.int v4_33]) ⟨hx, hb, hml, hown, hts⟩ (sm_has l dC dI (tyM cs) H v3_14 v6_33) (va_cwS 2 hts (wU_S mw_6_59 mw_6_57 mw_6_58 mw_1_13) rfl rfl rfl (by decide +kernel) ⟨Nat.le_of_ble_eq_true rfl, Nat.le_of_ble_eq_true rfl⟩) ⟨sz_c, sz_m hK hz⟩ rfl rfl hl.1 rfl (lv_room (Nat.le_of_ble_eq_true rfl)) dX12_bundle_81 ⟨Nat.zero_le _, Nat.zero_le _⟩) hS (fun r21 hw21 locs hS => ?_)
                  obtain ⟨hfe21, hw21⟩ := hw21
                  rcases hw21 with ⟨rfl, f21⟩ | ⟨rfl, f21⟩
                  · have hF := (if_pos hfe21.symm).symm.trans hF
                    have f21 : rb v3_14 v6_33 = 1 := f21
                    refine lv_if_eq (tgt := 96) hx hb dX12_bundle_84 (by decide) (fun c => absurd c (by decide)) (fun _ => ?_)
                    refine lv_aload_n hx hb dX12_bundle_87 rfl (lv_at hl 5 rfl) ?_
                    refine lv_iload hx hb dX12_bundle_88 (lv_at hl 1 rfl) ?_
                    refine cr_i (va_runV (As := [.int v6_33]) (rest := [.int v4_33]) ⟨hx, hb, hml, hown, hts⟩ (sm_priceOf l dC dI cs ad nu33_ ok H hP v6_33 (by omega)) (cwV 1 hts (wU_V mw_6_122 mw_6_119 mw_6_121 mw_0_48 mw_1_13) rfl rfl rfl (by decide +kernel) ⟨Nat.le_of_ble_eq_true rfl, Nat.le_of_ble_eq_true rfl⟩) ⟨sz_c, va_recv hK hP (ci := 12) (q0 := 0) rfl (gM_0 cs ad nu33_), sz_m hK hz⟩ rfl rfl hl.1 rfl (lv_room (Nat.le_of_ble_eq_true rfl)) dX12_bundle_90 ⟨Nat.zero_le _, Nat.zero_le _⟩) hS (fun r22 hw22 locs hS => ?_)
                    obtain ⟨hfe22, hw22⟩ := hw22
                    have hF := mi_let hF hfe22
                    refine lv_goto (tgt := 97) hx hb dX12_bundle_93 (by decide) ?_
                    refine lv_iadd hx hb dX12_bundle_97 ?_
                    refine lv_topi (fun t23 et23 => ?_)
                    have hF := mi_let hF et23
                    refine lv_istore (lv' := [(4, .int t23), (5, .int 0), (6, .int v6_33), (3, .int v3_14), (2, .int v2_14), (0, .ref (ad 0)), (1, .int vx)]) hx hb dX12_bundle_98 hl (by decide) rfl (fun ls hl => ?_)
                    refine lv_iinc (v := (v6_33 + 1)) (lv' := [(6, .int (v6_33 + 1)), (4, .int t23), (5, .int 0), (3, .int v3_14), (2, .int v2_14), (0, .ref (ad 0)), (1, .int vx)]) hx hb dX12_bundle_100 hl (k := 2) rfl rfl (by decide) rfl (fun ls hl => ?_)
                    refine loc_gen (P := fun w9 => lv_has ls 7 [(6, .int w9), (4, .int t23), (5, .int 0), (3, .int v3_14), (2, .int v2_14), (0, .ref (ad 0)), (1, .int vx)]) (v6_33 + 1) hl (fun w24 hw24 hl => ?_)
                    have hl : lv_has ls 7 [(6, .int w24), (4, .int t23), (5, .int 0), (3, .int v3_14), (2, .int v2_14), (0, .ref (ad 0)), (1, .int vx)] := hl
                    have hF := mi_let hF hw24.symm
                    have aw24 : w24.toInt = v6_33.toInt + 1 := by rw [← hw24]; first | exact va1 (Int.lt_of_le_of_lt h_v6_33.2 (by decide)) | exact va1 (by omega)
                    refine lv_goto (tgt := 33) hx hb dX12_bundle_103 (by decide) ?_
                    exact ih33 (t23) (0) (w24) nu33_ _ _ _ (by have h81 : (0 : Int32).toInt = 0 := rfl; first | exact ms_up hm_33 aw24 h_v6_33.2 | exact ms_lt hm_33 (by omega) (by omega) | omega) (by first | exact rg_up aw24 h_v6_33 (by omega) | omega)  ok hP  kq33_0 hF hS (lv_sub hl [0, 2, 1, 3, 4, 5, 6] rfl)
                  · have hF := (if_neg (fun h => absurd (hfe21.trans h) (by decide))).symm.trans hF
                    have f21 : ¬ rb v3_14 v6_33 = 1 := f21
                    refine lv_if_eq (tgt := 96) hx hb dX12_bundle_84 (by decide) (fun _ => ?_) (fun c => absurd (by decide) c)
                    refine lv_iconst (v := 0) hx hb dX12_bundle_96 (by decide) ?_
                    refine lv_iadd hx hb dX12_bundle_97 ?_
                    refine lv_topi (fun t25 et25 => ?_)
                    have hF := mi_let hF et25
                    refine lv_istore (lv' := [(4, .int t25), (5, .int 0), (6, .int v6_33), (3, .int v3_14), (2, .int v2_14), (0, .ref (ad 0)), (1, .int vx)]) hx hb dX12_bundle_98 hl (by decide) rfl (fun ls hl => ?_)
                    refine lv_iinc (v := (v6_33 + 1)) (lv' := [(6, .int (v6_33 + 1)), (4, .int t25), (5, .int 0), (3, .int v3_14), (2, .int v2_14), (0, .ref (ad 0)), (1, .int vx)]) hx hb dX12_bundle_100 hl (k := 2) rfl rfl (by decide) rfl (fun ls hl => ?_)
                    refine loc_gen (P := fun w9 => lv_has ls 7 [(6, .int w9), (4, .int t25), (5, .int 0), (3, .int v3_14), (2, .int v2_14), (0, .ref (ad 0)), (1, .int vx)]) (v6_33 + 1) hl (fun w26 hw26 hl => ?_)
                    have hl : lv_has ls 7 [(6, .int w26), (4, .int t25), (5, .int 0), (3, .int v3_14), (2, .int v2_14), (0, .ref (ad 0)), (1, .int vx)] := hl
                    have hF := mi_let hF hw26.symm
                    have aw26 : w26.toInt = v6_33.toInt + 1 := by rw [← hw26]; first | exact va1 (Int.lt_of_le_of_lt h_v6_33.2 (by decide)) | exact va1 (by omega)
                    refine lv_goto (tgt := 33) hx hb dX12_bundle_103 (by decide) ?_
                    exact ih33 (t25) (0) (w26) nu33_ _ _ _ (by have h81 : (0 : Int32).toInt = 0 := rfl; first | exact ms_up hm_33 aw26 h_v6_33.2 | exact ms_lt hm_33 (by omega) (by omega) | omega) (by first | exact rg_up aw26 h_v6_33 (by omega) | omega)  ok hP  kq33_0 hF hS (lv_sub hl [0, 2, 1, 3, 4, 5, 6] rfl)
                · have hF := (if_neg c_20).symm.trans hF
                  have c_20 : ¬ v5_33.toInt = 0 := il_ne c_20
                  refine lv_iload_n hx hb dX12_bundle_47 rfl (lv_at hl 3 rfl) ?_
                  refine lv_iload hx hb dX12_bundle_48 (lv_at hl 0 rfl) ?_
                  refine cr_i (va_runS (As := [.int v3_14, .int v6_33]) (rest := []) ⟨hx, hb, hml, hown, hts⟩ (sm_has l dC dI (tyM cs) H v3_14 v6_33) (va_cwS 2 hts (wU_S mw_6_59 mw_6_57 mw_6_58 mw_1_13) rfl rfl rfl (by decide +kernel) ⟨Nat.le_of_ble_eq_true rfl, Nat.le_of_ble_eq_true rfl⟩) ⟨sz_c, sz_m hK hz⟩ rfl rfl hl.1 rfl (lv_room (Nat.le_of_ble_eq_true rfl)) dX12_bundle_50 ⟨Nat.zero_le _, Nat.zero_le _⟩) hS (fun r27 hw27 locs hS => ?_)
                  obtain ⟨hfe27, hw27⟩ := hw27
                  rcases hw27 with ⟨rfl, f27⟩ | ⟨rfl, f27⟩
                  · have hF := (if_pos hfe27.symm).symm.trans hF
                    have f27 : rb v3_14 v6_33 = 1 := f27
                    refine lv_if_eq (tgt := 69) hx hb dX12_bundle_53 (by decide) (fun c => absurd c (by decide)) (fun _ => ?_)
                    refine lv_aload_n hx hb dX12_bundle_56 rfl (lv_at hl 5 rfl) ?_
                    refine lv_iload hx hb dX12_bundle_57 (lv_at hl 0 rfl) ?_
                    refine cr_i (va_runV (As := [.int v6_33]) (rest := []) ⟨hx, hb, hml, hown, hts⟩ (sm_canSell l dC dI cs ad nu33_ ok H hP v6_33 (by omega)) (cwV 1 hts (wU_V mw_6_118 mw_6_115 mw_6_117 mw_0_47 mw_1_13) rfl rfl rfl (by decide +kernel) ⟨Nat.le_of_ble_eq_true rfl, Nat.le_of_ble_eq_true rfl⟩) ⟨sz_c, va_recv hK hP (ci := 12) (q0 := 0) rfl (gM_0 cs ad nu33_), sz_m hK hz⟩ rfl rfl hl.1 rfl (lv_room (Nat.le_of_ble_eq_true rfl)) dX12_bundle_59 ⟨Nat.zero_le _, Nat.zero_le _⟩) hS (fun r28 hw28 locs hS => ?_)
                    obtain ⟨hfe28, hw28⟩ := hw28
                    have hF := mi_let hF hfe28
                    have gr28 : 0 ≤ r28.toInt ∧ r28.toInt ≤ 127 := hw28
                    refine lv_iload_n hx hb dX12_bundle_62 rfl (lv_at hl 6 rfl) ?_
                    refine cr_i (va_runS (As := [.int r28, .int vx]) (rest := []) ⟨hx, hb, hml, hown, hts⟩ (sm_has l dC dI (tyM cs) H r28 vx) (va_cwS 2 hts (wU_S mw_6_59 mw_6_57 mw_6_58 mw_1_13) rfl rfl rfl (by decide +kernel) ⟨Nat.le_of_ble_eq_true rfl, Nat.le_of_ble_eq_true rfl⟩) ⟨sz_c, sz_m hK hz⟩ rfl rfl hl.1 rfl (lv_room (Nat.le_of_ble_eq_true rfl)) dX12_bundle_63 ⟨Nat.zero_le _, Nat.zero_le _⟩) hS (fun r29 hw29 locs hS => ?_)
                    obtain ⟨hfe29, hw29⟩ := hw29
                    rcases hw29 with ⟨rfl, f29⟩ | ⟨rfl, f29⟩
                    · have hF := (if_pos hfe29.symm).symm.trans hF
                      have f29 : rb r28 vx = 1 := f29
                      refine lv_if_eq (tgt := 73) hx hb dX12_bundle_66 (by decide) (fun c => absurd c (by decide)) (fun _ => ?_)
                      refine lv_iconst (v := 1) hx hb dX12_bundle_69 (by decide) ?_
                      refine lv_goto (tgt := 74) hx hb dX12_bundle_70 (by decide) ?_
                      refine lv_istore (lv' := [(5, .int 1), (6, .int v6_33), (4, .int v4_33), (3, .int v3_14), (2, .int v2_14), (0, .ref (ad 0)), (1, .int vx)]) hx hb dX12_bundle_74 hl (by decide) rfl (fun ls hl => ?_)
                      refine lv_iload hx hb dX12_bundle_76 (lv_at hl 2 rfl) ?_
                      refine lv_iload_n hx hb dX12_bundle_78 rfl (lv_at hl 3 rfl) ?_
                      refine lv_iload hx hb dX12_bundle_79 (lv_at hl 1 rfl) ?_
                      refine cr_i (va_runS (As := [.int v3_14, .int v6_33]) (rest := [.int v4_33]) ⟨hx, hb, hml, hown, hts⟩ (sm_has l dC dI (tyM cs) H v3_14 v6_33) (va_cwS 2 hts (wU_S mw_6_59 mw_6_57 mw_6_58 mw_1_13) rfl rfl rfl (by decide +kernel) ⟨Nat.le_of_ble_eq_true rfl, Nat.le_of_ble_eq_true rfl⟩) ⟨sz_c, sz_m hK hz⟩ rfl rfl hl.1 rfl (lv_room (Nat.le_of_ble_eq_true rfl)) dX12_bundle_81 ⟨Nat.zero_le _, Nat.zero_le _⟩) hS (fun r30 hw30 locs hS => ?_)
                      obtain ⟨hfe30, hw30⟩ := hw30
                      rcases hw30 with ⟨rfl, f30⟩ | ⟨rfl, f30⟩
                      · have hF := (if_pos hfe30.symm).symm.trans hF
                        have f30 : rb v3_14 v6_33 = 1 := f30
                        refine lv_if_eq (tgt := 96) hx hb dX12_bundle_84 (by decide) (fun c => absurd c (by decide)) (fun _ => ?_)
                        refine lv_aload_n hx hb dX12_bundle_87 rfl (lv_at hl 5 rfl) ?_
                        refine lv_iload hx hb dX12_bundle_88 (lv_at hl 1 rfl) ?_
                        refine cr_i (va_runV (As := [.int v6_33]) (rest := [.int v4_33]) ⟨hx, hb, hml, hown, hts⟩ (sm_priceOf l dC dI cs ad nu33_ ok H hP v6_33 (by omega)) (cwV 1 hts (wU_V mw_6_122 mw_6_119 mw_6_121 mw_0_48 mw_1_13) rfl rfl rfl (by decide +kernel) ⟨Nat.le_of_ble_eq_true rfl, Nat.le_of_ble_eq_true rfl⟩) ⟨sz_c, va_recv hK hP (ci := 12) (q0 := 0) rfl (gM_0 cs ad nu33_), sz_m hK hz⟩ rfl rfl hl.1 rfl (lv_room (Nat.le_of_ble_eq_true rfl)) dX12_bundle_90 ⟨Nat.zero_le _, Nat.zero_le _⟩) hS (fun r31 hw31 locs hS => ?_)
                        obtain ⟨hfe31, hw31⟩ := hw31
                        have hF := mi_let hF hfe31
                        refine lv_goto (tgt := 97) hx hb dX12_bundle_93 (by decide) ?_
                        refine lv_iadd hx hb dX12_bundle_97 ?_
                        refine lv_topi (fun t32 et32 => ?_)
                        have hF := mi_let hF et32
                        refine lv_istore (lv' := [(4, .int t32), (5, .int 1), (6, .int v6_33), (3, .int v3_14), (2, .int v2_14), (0, .ref (ad 0)), (1, .int vx)]) hx hb dX12_bundle_98 hl (by decide) rfl (fun ls hl => ?_)
                        refine lv_iinc (v := (v6_33 + 1)) (lv' := [(6, .int (v6_33 + 1)), (4, .int t32), (5, .int 1), (3, .int v3_14), (2, .int v2_14), (0, .ref (ad 0)), (1, .int vx)]) hx hb dX12_bundle_100 hl (k := 2) rfl rfl (by decide) rfl (fun ls hl => ?_)
                        refine loc_gen (P := fun w9 => lv_has ls 7 [(6, .int w9), (4, .int t32), (5, .int 1), (3, .int v3_14), (2, .int v2_14), (0, .ref (ad 0)), (1, .int vx)]) (v6_33 + 1) hl (fun w33 hw33 hl => ?_)
                        have hl : lv_has ls 7 [(6, .int w33), (4, .int t32), (5, .int 1), (3, .int v3_14), (2, .int v2_14), (0, .ref (ad 0)), (1, .int vx)] := hl
                        have hF := mi_let hF hw33.symm
                        have aw33 : w33.toInt = v6_33.toInt + 1 := by rw [← hw33]; first | exact va1 (Int.lt_of_le_of_lt h_v6_33.2 (by decide)) | exact va1 (by omega)
                        refine lv_goto (tgt := 33) hx hb dX12_bundle_103 (by decide) ?_
                        exact ih33 (t32) (1) (w33) nu33_ _ _ _ (by have h81 : (1 : Int32).toInt = 1 := rfl; first | exact ms_up hm_33 aw33 h_v6_33.2 | exact ms_lt hm_33 (by omega) (by omega) | omega) (by first | exact rg_up aw33 h_v6_33 (by omega) | omega)  ok hP  kq33_0 hF hS (lv_sub hl [0, 2, 1, 3, 4, 5, 6] rfl)
                      · exact absurd f27 f30
                    · have hF := (if_neg (fun h => absurd (hfe29.trans h) (by decide))).symm.trans hF
                      have f29 : ¬ rb r28 vx = 1 := f29
                      refine lv_if_eq (tgt := 73) hx hb dX12_bundle_66 (by decide) (fun _ => ?_) (fun c => absurd (by decide) c)
                      refine lv_iconst (v := 0) hx hb dX12_bundle_73 (by decide) ?_
                      refine lv_istore (lv' := [(5, .int 0), (6, .int v6_33), (4, .int v4_33), (3, .int v3_14), (2, .int v2_14), (0, .ref (ad 0)), (1, .int vx)]) hx hb dX12_bundle_74 hl (by decide) rfl (fun ls hl => ?_)
                      refine lv_iload hx hb dX12_bundle_76 (lv_at hl 2 rfl) ?_
                      refine lv_iload_n hx hb dX12_bundle_78 rfl (lv_at hl 3 rfl) ?_
                      refine lv_iload hx hb dX12_bundle_79 (lv_at hl 1 rfl) ?_
                      refine cr_i (va_runS (As := [.int v3_14, .int v6_33]) (rest := [.int v4_33]) ⟨hx, hb, hml, hown, hts⟩ (sm_has l dC dI (tyM cs) H v3_14 v6_33) (va_cwS 2 hts (wU_S mw_6_59 mw_6_57 mw_6_58 mw_1_13) rfl rfl rfl (by decide +kernel) ⟨Nat.le_of_ble_eq_true rfl, Nat.le_of_ble_eq_true rfl⟩) ⟨sz_c, sz_m hK hz⟩ rfl rfl hl.1 rfl (lv_room (Nat.le_of_ble_eq_true rfl)) dX12_bundle_81 ⟨Nat.zero_le _, Nat.zero_le _⟩) hS (fun r34 hw34 locs hS => ?_)
                      obtain ⟨hfe34, hw34⟩ := hw34
                      rcases hw34 with ⟨rfl, f34⟩ | ⟨rfl, f34⟩
                      · have hF := (if_pos hfe34.symm).symm.trans hF
                        have f34 : rb v3_14 v6_33 = 1 := f34
                        refine lv_if_eq (tgt := 96) hx hb dX12_bundle_84 (by decide) (fun c => absurd c (by decide)) (fun _ => ?_)
                        refine lv_aload_n hx hb dX12_bundle_87 rfl (lv_at hl 5 rfl) ?_
                        refine lv_iload hx hb dX12_bundle_88 (lv_at hl 1 rfl) ?_
                        refine cr_i (va_runV (As := [.int v6_33]) (rest := [.int v4_33]) ⟨hx, hb, hml, hown, hts⟩ (sm_priceOf l dC dI cs ad nu33_ ok H hP v6_33 (by omega)) (cwV 1 hts (wU_V mw_6_122 mw_6_119 mw_6_121 mw_0_48 mw_1_13) rfl rfl rfl (by decide +kernel) ⟨Nat.le_of_ble_eq_true rfl, Nat.le_of_ble_eq_true rfl⟩) ⟨sz_c, va_recv hK hP (ci := 12) (q0 := 0) rfl (gM_0 cs ad nu33_), sz_m hK hz⟩ rfl rfl hl.1 rfl (lv_room (Nat.le_of_ble_eq_true rfl)) dX12_bundle_90 ⟨Nat.zero_le _, Nat.zero_le _⟩) hS (fun r35 hw35 locs hS => ?_)
                        obtain ⟨hfe35, hw35⟩ := hw35
                        have hF := mi_let hF hfe35
                        refine lv_goto (tgt := 97) hx hb dX12_bundle_93 (by decide) ?_
                        refine lv_iadd hx hb dX12_bundle_97 ?_
                        refine lv_topi (fun t36 et36 => ?_)
                        have hF := mi_let hF et36
                        refine lv_istore (lv' := [(4, .int t36), (5, .int 0), (6, .int v6_33), (3, .int v3_14), (2, .int v2_14), (0, .ref (ad 0)), (1, .int vx)]) hx hb dX12_bundle_98 hl (by decide) rfl (fun ls hl => ?_)
                        refine lv_iinc (v := (v6_33 + 1)) (lv' := [(6, .int (v6_33 + 1)), (4, .int t36), (5, .int 0), (3, .int v3_14), (2, .int v2_14), (0, .ref (ad 0)), (1, .int vx)]) hx hb dX12_bundle_100 hl (k := 2) rfl rfl (by decide) rfl (fun ls hl => ?_)
                        refine loc_gen (P := fun w9 => lv_has ls 7 [(6, .int w9), (4, .int t36), (5, .int 0), (3, .int v3_14), (2, .int v2_14), (0, .ref (ad 0)), (1, .int vx)]) (v6_33 + 1) hl (fun w37 hw37 hl => ?_)
                        have hl : lv_has ls 7 [(6, .int w37), (4, .int t36), (5, .int 0), (3, .int v3_14), (2, .int v2_14), (0, .ref (ad 0)), (1, .int vx)] := hl
                        have hF := mi_let hF hw37.symm
                        have aw37 : w37.toInt = v6_33.toInt + 1 := by rw [← hw37]; first | exact va1 (Int.lt_of_le_of_lt h_v6_33.2 (by decide)) | exact va1 (by omega)
                        refine lv_goto (tgt := 33) hx hb dX12_bundle_103 (by decide) ?_
                        exact ih33 (t36) (0) (w37) nu33_ _ _ _ (by have h81 : (0 : Int32).toInt = 0 := rfl; first | exact ms_up hm_33 aw37 h_v6_33.2 | exact ms_lt hm_33 (by omega) (by omega) | omega) (by first | exact rg_up aw37 h_v6_33 (by omega) | omega)  ok hP  kq33_0 hF hS (lv_sub hl [0, 2, 1, 3, 4, 5, 6] rfl)
                      · exact absurd f27 f34
                  · have hF := (if_neg (fun h => absurd (hfe27.trans h) (by decide))).symm.trans hF
                    have f27 : ¬ rb v3_14 v6_33 = 1 := f27
                    refine lv_if_eq (tgt := 69) hx hb dX12_bundle_53 (by decide) (fun _ => ?_) (fun c => absurd (by decide) c)
                    refine lv_iconst (v := 1) hx hb dX12_bundle_69 (by decide) ?_
                    refine lv_goto (tgt := 74) hx hb dX12_bundle_70 (by decide) ?_
                    refine lv_istore (lv' := [(5, .int 1), (6, .int v6_33), (4, .int v4_33), (3, .int v3_14), (2, .int v2_14), (0, .ref (ad 0)), (1, .int vx)]) hx hb dX12_bundle_74 hl (by decide) rfl (fun ls hl => ?_)
                    refine lv_iload hx hb dX12_bundle_76 (lv_at hl 2 rfl) ?_
                    refine lv_iload_n hx hb dX12_bundle_78 rfl (lv_at hl 3 rfl) ?_
                    refine lv_iload hx hb dX12_bundle_79 (lv_at hl 1 rfl) ?_
                    refine cr_i (va_runS (As := [.int v3_14, .int v6_33]) (rest := [.int v4_33]) ⟨hx, hb, hml, hown, hts⟩ (sm_has l dC dI (tyM cs) H v3_14 v6_33) (va_cwS 2 hts (wU_S mw_6_59 mw_6_57 mw_6_58 mw_1_13) rfl rfl rfl (by decide +kernel) ⟨Nat.le_of_ble_eq_true rfl, Nat.le_of_ble_eq_true rfl⟩) ⟨sz_c, sz_m hK hz⟩ rfl rfl hl.1 rfl (lv_room (Nat.le_of_ble_eq_true rfl)) dX12_bundle_81 ⟨Nat.zero_le _, Nat.zero_le _⟩) hS (fun r38 hw38 locs hS => ?_)
                    obtain ⟨hfe38, hw38⟩ := hw38
                    rcases hw38 with ⟨rfl, f38⟩ | ⟨rfl, f38⟩
                    · exact absurd f38 f27
                    · have hF := (if_neg (fun h => absurd (hfe38.trans h) (by decide))).symm.trans hF
                      have f38 : ¬ rb v3_14 v6_33 = 1 := f38
                      refine lv_if_eq (tgt := 96) hx hb dX12_bundle_84 (by decide) (fun _ => ?_) (fun c => absurd (by decide) c)
                      refine lv_iconst (v := 0) hx hb dX12_bundle_96 (by decide) ?_
                      refine lv_iadd hx hb dX12_bundle_97 ?_
                      refine lv_topi (fun t39 et39 => ?_)
                      have hF := mi_let hF et39
                      refine lv_istore (lv' := [(4, .int t39), (5, .int 1), (6, .int v6_33), (3, .int v3_14), (2, .int v2_14), (0, .ref (ad 0)), (1, .int vx)]) hx hb dX12_bundle_98 hl (by decide) rfl (fun ls hl => ?_)
                      refine lv_iinc (v := (v6_33 + 1)) (lv' := [(6, .int (v6_33 + 1)), (4, .int t39), (5, .int 1), (3, .int v3_14), (2, .int v2_14), (0, .ref (ad 0)), (1, .int vx)]) hx hb dX12_bundle_100 hl (k := 2) rfl rfl (by decide) rfl (fun ls hl => ?_)
                      refine loc_gen (P := fun w9 => lv_has ls 7 [(6, .int w9), (4, .int t39), (5, .int 1), (3, .int v3_14), (2, .int v2_14), (0, .ref (ad 0)), (1, .int vx)]) (v6_33 + 1) hl (fun w40 hw40 hl => ?_)
                      have hl : lv_has ls 7 [(6, .int w40), (4, .int t39), (5, .int 1), (3, .int v3_14), (2, .int v2_14), (0, .ref (ad 0)), (1, .int vx)] := hl
                      have hF := mi_let hF hw40.symm
                      have aw40 : w40.toInt = v6_33.toInt + 1 := by rw [← hw40]; first | exact va1 (Int.lt_of_le_of_lt h_v6_33.2 (by decide)) | exact va1 (by omega)
                      refine lv_goto (tgt := 33) hx hb dX12_bundle_103 (by decide) ?_
                      exact ih33 (t39) (1) (w40) nu33_ _ _ _ (by have h81 : (1 : Int32).toInt = 1 := rfl; first | exact ms_up hm_33 aw40 h_v6_33.2 | exact ms_lt hm_33 (by omega) (by omega) | omega) (by first | exact rg_up aw40 h_v6_33 (by omega) | omega)  ok hP  kq33_0 hF hS (lv_sub hl [0, 2, 1, 3, 4, 5, 6] rfl)
          exact loop33 7 (0) (1) (0) nu14_ _ _ _ (by have h80 : (0 : Int32).toInt = 0 := rfl; have h81 : (1 : Int32).toInt = 1 := rfl; have h82 : (0 : Int32).toInt = 0 := rfl; omega) (by have h80 : (0 : Int32).toInt = 0 := rfl; exact ⟨by omega, by omega⟩)  ok hP  kq14_0 hF hS hl
    exact loop14 4099 (0) (1) mu _ _ _ (by have h80 : (0 : Int32).toInt = 0 := rfl; have h81 : (1 : Int32).toInt = 1 := rfl; omega) (by have h80 : (1 : Int32).toInt = 1 := rfl; exact ⟨by omega, by omega⟩)  ok hP  (fun _ _ _ => rfl) hF hS hl
  · have hF := (if_neg (fun h => absurd (hfe1.trans h) (by decide))).symm.trans hF
    have f1 : vx.toInt < 0 ∨ (mu 0 8).toInt ≤ vx.toInt := f1
    refine lv_if_ne (tgt := 10) hx hb dX12_bundle_5 (by decide) (fun c => absurd (by decide) c) (fun _ => ?_)
    refine lv_iconst (v := (-1)) hx hb dX12_bundle_8 (by decide) ?_
    exact W.iret (v := (-1)) hx hb hr (fun t ht hW => ⟨⟨(-1), mu, rfl, ⟨hF.trans hfz.symm, ok, trivial, (fun _ _ _ => rfl)⟩, by first | (subst ht; exact hP) | (rw [ht]; exact hP) | (show va_P (dC, dI) vwCl (wR 21 ad (EM cs ad) mu) t.heap; rw [ht]; exact hP)⟩, hS.F ht⟩) hS.2.2 dX12_bundle_9
set_option maxHeartbeats 4000000 in
set_option maxRecDepth 100000 in
/-- qm_post -/
theorem qm_post (l : Launch) (dC : Nat → ClassId) (dI : Nat → Nat → Nat) (cs : Nat → ClassId) (ad : Nat → Nat) (mu : Nat → Nat → Int32) (ok : okR loM hiM mu) (H : Heap) (hP : va_P (dC, dI) vwCl (wR 21 ad (EM cs ad) mu) H) (hD0 : va_D (fun _ => True) (wR 21 ad (EM cs ad) mu)) (vv : Int32) : Met l yX12_post (wU yX12_post cX12_post 6 (some .int)) ({ frames := 10, cells := 0, slots := 0, locals := 259 }) (va_Pc [.ref (ad 0), .int vv] (sz_P (dC, dI) vwCl (tyM cs) H)) (va_Qi (fun (z : Int32) (xi : Nat → Nat → Int32) => (z, xi) = F_qm_post mu vv ∧ okR loM hiM xi ∧ (True) ∧ (∀ k f : Nat, Nat.testBit 510 (gpM k f) = true → xi k f = mu k f)) (fun xi t => va_P (dC, dI) vwCl (wR 21 ad (EM cs ad) xi) t.heap) (va_A (wR 21 ad (EM cs ad) mu) H.size)) 0 0 (va_A (wR 21 ad (EM cs ad) mu) H.size) := by
  refine Met.ofW (cc := cX12_post) (maxL := 6) (ret := (some .int)) (by decide) rfl ?_
  intro p e s m args below meth c s₁ B hml hv
  obtain ⟨rfl, hh, hK, hz⟩ := hv
  have hx := B.exec
  have hb := B.bytes
  have hr := B.returns
  have hts := atoms_spec (ws := (wU yX12_post cX12_post 6 (some .int))) B.pre
  have hown : s.vm.findClass RX12 = some m.cls := findClass_of_methodNamed B.named
  have hlocks := B.notSynchronized
  subst hh
  have hD := hD0.self (sz := s.heap.size)
  have hA : ∀ q : Nat, s.heap.size ≤ q → (va_A (wR 21 ad (EM cs ad) mu) s.heap.size) q := fun q h => Or.inr h
  have hS : va_S (va_A (wR 21 ad (EM cs ad) mu) s.heap.size) s.heap s.heap [] := va_S.rf
  have hl := lv_entry ([.ref (ad 0), .int vv]) (n := 6) (Nat.le_of_ble_eq_true rfl)
  rw [lg_entry_eq]
  generalize (lg_sl ([.ref (ad 0), .int vv]) ++ List.replicate (6 - (lg_sl ([.ref (ad 0), .int vv])).length) Slot.unset).toArray = ls at hl ⊢
  have hl : lv_has ls 6 [(0, .ref (ad 0)), (1, .int vv)] := hl
  obtain ⟨fz, hfz⟩ : ∃ z, F_qm_post mu vv = z := ⟨_, rfl⟩
  have hF := hfz
  unfold F_qm_post at hF
  refine lv_iload_n hx hb dX12_post_0 rfl (lv_at hl 1 rfl) ?_
  refine lv_iconst (v := 0) hx hb dX12_post_1 (by decide) ?_
  refine lv_bipush (v := 99) hx hb dX12_post_2 (by decide) ?_
  refine cr_i (va_runS (As := [.int vv, .int 0, .int 99]) (rest := []) ⟨hx, hb, hml, hown, hts⟩ (sm_in l dC dI (tyM cs) s.heap vv 0 99) (va_cwS 3 hts (wU_S mw_5_189 mw_5_187 mw_5_188 mw_1_13) rfl rfl rfl (by decide +kernel) ⟨Nat.le_of_ble_eq_true rfl, Nat.le_of_ble_eq_true rfl⟩) ⟨sz_c, sz_m hK hz⟩ rfl rfl hl.1 rfl (lv_room (Nat.le_of_ble_eq_true rfl)) dX12_post_4 ⟨Nat.zero_le _, Nat.zero_le _⟩) hS (fun r1 hw1 locs hS => ?_)
  obtain ⟨hfe1, hw1⟩ := hw1
  rcases hw1 with ⟨rfl, f1⟩ | ⟨rfl, f1⟩
  · have hF := (if_pos hfe1.symm).symm.trans hF
    have f1 : (0 : Int) ≤ vv.toInt ∧ vv.toInt ≤ (99 : Int) := f1
    refine lv_if_ne (tgt := 12) hx hb dX12_post_7 (by decide) (fun _ => ?_) (fun c => absurd c (by decide))
    refine lv_aload_n hx hb dX12_post_12 rfl (lv_at hl 0 rfl) ?_
    refine lv_iconst (v := 1) hx hb dX12_post_13 (by decide) ?_
    refine va_put (D := (dC, dI)) (ci := 12) (v := .int 1) (ty := .boolean) (C := RX12) (T := TX12) (N := 46) hx hb hts inG12 tyX12 tyX12_ok nmX12 hown hK hP (wR_D mu hD) hS 0 (gM_0 cs ad mu) rfl 38 (by decide) (hts _ (List.mem_cons_of_mem _ mw_5_79)) (fun _ h9 => h9) rfl (by decide +kernel) (by first | rfl | decide) (by first | rfl | decide) (Nat.le_of_ble_eq_true rfl) dX12_post_14 (fun H locs hP _ hS => ?_)
    simp only [List.set_cons_succ, List.set_cons_zero] at hP
    refine wr_gen (upd (mu 0) 38 1) hP ((hM_0_38 cs ad _ _)) (fun nu2 hn2 hP => ?_)
    have hF := mi_let hF hn2.symm
    have ok := tM_0_38 ok hn2 (by have h9 : (1 : Int32).toInt = 1 := rfl; exact ⟨by omega, by omega⟩)
    have kp3 : (∀ k f : Nat, Nat.testBit 510 (gpM k f) = true → nu2 k f = mu k f) := kp_f hn2 (by decide) (fun _ _ _ => rfl)
    have ez4 : 1 = nu2 0 38 := up_v hn2
    refine lv_iconst (v := 0) hx hb dX12_post_17 (by decide) ?_
    refine lv_istore_n (lv' := [(2, .int 0), (0, .ref (ad 0)), (1, .int vv)]) hx hb dX12_post_18 rfl hl (by decide) rfl (fun ls hl => ?_)
    refine lv_iconst (v := 0) hx hb dX12_post_19 (by decide) ?_
    refine lv_istore_n (lv' := [(3, .int 0), (2, .int 0), (0, .ref (ad 0)), (1, .int vv)]) hx hb dX12_post_20 rfl hl (by decide) rfl (fun ls hl => ?_)
    refine lv_iconst (v := 0) hx hb dX12_post_21 (by decide) ?_
    refine lv_istore (lv' := [(4, .int 0), (3, .int 0), (2, .int 0), (0, .ref (ad 0)), (1, .int vv)]) hx hb dX12_post_22 hl (by decide) rfl (fun ls hl => ?_)
    have loop24 : ∀ (n24 : Nat) (v2_24 : Int32) (v3_24 : Int32) (v4_24 : Int32) (nu24_ : Nat → Nat → Int32) (H : Heap) (locs : List Loc) (ls : Array Slot), (7 + 1 - v4_24.toInt).toNat < n24 → (0 ≤ v4_24.toInt ∧ v4_24.toInt ≤ 7) → okR loM hiM nu24_ → va_P (dC, dI) vwCl (wR 21 ad (EM cs ad) nu24_) H → (∀ k f : Nat, Nat.testBit 510 (gpM k f) = true → nu24_ k f = mu k f) → L_qm_post_24_0 vv n24 v2_24 v3_24 v4_24 nu24_ = fz → va_S (va_A (wR 21 ad (EM cs ad) mu) s.heap.size) s.heap H locs → lv_has ls 6 [(4, .int v4_24), (3, .int v3_24), (2, .int v2_24), (0, .ref (ad 0)), (1, .int vv)] → W p l e (headSpec (wU yX12_post cX12_post 6 (some .int)) ({ frames := 10, cells := 0, slots := 0, locals := 259 })).room s m ([.ref (ad 0), .int vv] : List Value).toArray below meth c H locs 0 0 (MQ below (va_Qi (fun (z : Int32) (xi : Nat → Nat → Int32) => (z, xi) = F_qm_post mu vv ∧ okR loM hiM xi ∧ (True) ∧ (∀ k f : Nat, Nat.testBit 510 (gpM k f) = true → xi k f = mu k f)) (fun xi t => va_P (dC, dI) vwCl (wR 21 ad (EM cs ad) xi) t.heap) (va_A (wR 21 ad (EM cs ad) mu) s.heap.size)) ([.ref (ad 0), .int vv] : List Value).toArray s 0 0 (va_A (wR 21 ad (EM cs ad) mu) s.heap.size)) (F0 m 24 ls []) := by
      intro n24
      induction n24 with
      | zero => intro v2_24 v3_24 v4_24 nu24_ H locs ls hm; exact absurd hm (Nat.not_lt_zero _)
      | succ n24 ih24 =>
        intro v2_24 v3_24 v4_24 nu24_ H locs ls hm_24 h_v4_24 ok hP kq24_0 hF hS hl
        rw [L_qm_post_24_0] at hF
        refine lv_iload hx hb dX12_post_24 (lv_at hl 0 rfl) ?_
        refine lv_aload_n hx hb dX12_post_26 rfl (lv_at hl 3 rfl) ?_
        refine va_get (D := (dC, dI)) (ci := 12) (v := .int (nu24_ 0 8)) (C := RX12) (T := TX12) (N := 46) hx hb hts inG12 hown hK hP 0 (gM_0 cs ad nu24_) rfl 8 (by decide) (hts _ (List.mem_cons_of_mem _ mw_5_49)) (fun _ h9 => h9) rfl dX12_post_27 ?_
        refine lv_topi (fun y5 ey5 => ?_)
        have hF := mi_let hF ey5
        have by5 : y5.toInt = (nu24_ 0 8).toInt := congrArg Int32.toInt ey5
        have gy5 : 0 ≤ y5.toInt ∧ y5.toInt ≤ 7 := by rw [ey5]; exact rM_0_8 ok
        refine lv_icmp_ge (tgt := 106) hx hb dX12_post_30 (by decide) (fun c_6 => ?_) (fun c_6 => ?_)
        · have hF := (if_pos c_6).symm.trans hF
          have c_6 : y5.toInt ≤ v4_24.toInt := il_le c_6
          refine lv_aload_n hx hb dX12_post_106 rfl (lv_at hl 3 rfl) ?_
          refine lv_iload_n hx hb dX12_post_107 rfl (lv_at hl 1 rfl) ?_
          refine lv_iload_n hx hb dX12_post_108 rfl (lv_at hl 2 rfl) ?_
          have hFc := fr_all (wR_D nu24_ hD) hS hA
          refine va_calli (va_runV (As := [.int v3_24, .int v2_24]) (rest := []) ⟨hx, hb, hml, hown, hts⟩ (sm_ask l dC dI cs ad nu24_ ok H hP ((wR_D nu24_ hD).weaken (fun _ _ _ _ => trivial)) v3_24 v2_24) (cwV 2 hts (wU_V mw_5_213 mw_5_210 mw_5_212 mw_0_30 mw_1_13) rfl rfl rfl (by decide +kernel) ⟨Nat.le_of_ble_eq_true rfl, Nat.le_of_ble_eq_true rfl⟩) ⟨sz_c, va_recv hK hP (ci := 12) (q0 := 0) rfl (gM_0 cs ad nu24_), sz_m hK hz⟩ rfl rfl hl.1 rfl (lv_room (Nat.le_of_ble_eq_true rfl)) dX12_post_109 ⟨Nat.zero_le _, Nat.zero_le _⟩) hS (fun q _ h => hFc q h) hFc (fun r7 xi7 t H7 locs ht hvm hw7 hB hz1 hk1 hS => ?_)
          have hP : va_P (dC, dI) vwCl (wR 21 ad (EM cs ad) xi7) H7 := by rw [← ht]; exact hB
          obtain ⟨hfe7, ok, hw7, hkp7_0⟩ := hw7
          have hF := mi_letp hF hfe7
          have kp8 : (∀ k f : Nat, Nat.testBit 510 (gpM k f) = true → xi7 k f = mu k f) := kp_t hkp7_0 (by decide) kq24_0
          have gr7 : r7.toInt = v2_24.toInt := hw7
          exact W.iret (v := r7) hx hb hr (fun t ht hW => ⟨⟨r7, xi7, rfl, ⟨hF.trans hfz.symm, ok, trivial, kp8⟩, by first | (subst ht; exact hP) | (rw [ht]; exact hP) | (show va_P (dC, dI) vwCl (wR 21 ad (EM cs ad) xi7) t.heap; rw [ht]; exact hP)⟩, hS.F ht⟩) hS.2.2 dX12_post_112
        · have hF := (if_neg c_6).symm.trans hF
          have c_6 : v4_24.toInt < y5.toInt := il_nle c_6
          refine lv_iconst (v := 0) hx hb dX12_post_33 (by decide) ?_
          refine lv_istore (lv' := [(5, .int 0), (4, .int v4_24), (3, .int v3_24), (2, .int v2_24), (0, .ref (ad 0)), (1, .int vv)]) hx hb dX12_post_34 hl (by decide) rfl (fun ls hl => ?_)
          have loop36 : ∀ (n36 : Nat) (v2_36 : Int32) (v3_36 : Int32) (v5_36 : Int32) (nu36_ : Nat → Nat → Int32) (H : Heap) (locs : List Loc) (ls : Array Slot), (7 + 1 - v5_36.toInt).toNat < n36 → (0 ≤ v5_36.toInt ∧ v5_36.toInt ≤ 7) → okR loM hiM nu36_ → va_P (dC, dI) vwCl (wR 21 ad (EM cs ad) nu36_) H → (∀ k f : Nat, Nat.testBit 510 (gpM k f) = true → nu36_ k f = mu k f) → L_qm_post_36_1 v4_24 vv (fun z_v2_24 z_v3_24 z_v4_24 z_nu24_ => L_qm_post_24_0 vv n24 z_v2_24 z_v3_24 z_v4_24 z_nu24_) n36 v2_36 v3_36 v5_36 nu36_ = fz → va_S (va_A (wR 21 ad (EM cs ad) mu) s.heap.size) s.heap H locs → lv_has ls 6 [(5, .int v5_36), (4, .int v4_24), (3, .int v3_36), (2, .int v2_36), (0, .ref (ad 0)), (1, .int vv)] → W p l e (headSpec (wU yX12_post cX12_post 6 (some .int)) ({ frames := 10, cells := 0, slots := 0, locals := 259 })).room s m ([.ref (ad 0), .int vv] : List Value).toArray below meth c H locs 0 0 (MQ below (va_Qi (fun (z : Int32) (xi : Nat → Nat → Int32) => (z, xi) = F_qm_post mu vv ∧ okR loM hiM xi ∧ (True) ∧ (∀ k f : Nat, Nat.testBit 510 (gpM k f) = true → xi k f = mu k f)) (fun xi t => va_P (dC, dI) vwCl (wR 21 ad (EM cs ad) xi) t.heap) (va_A (wR 21 ad (EM cs ad) mu) s.heap.size)) ([.ref (ad 0), .int vv] : List Value).toArray s 0 0 (va_A (wR 21 ad (EM cs ad) mu) s.heap.size)) (F0 m 36 ls []) := by
            intro n36
            induction n36 with
            | zero => intro v2_36 v3_36 v5_36 nu36_ H locs ls hm; exact absurd hm (Nat.not_lt_zero _)
            | succ n36 ih36 =>
              intro v2_36 v3_36 v5_36 nu36_ H locs ls hm_36 h_v5_36 ok hP kq36_0 hF hS hl
              rw [L_qm_post_36_1] at hF
              refine lv_iload hx hb dX12_post_36 (lv_at hl 0 rfl) ?_
              refine lv_aload_n hx hb dX12_post_38 rfl (lv_at hl 4 rfl) ?_
              refine va_get (D := (dC, dI)) (ci := 12) (v := .int (nu36_ 0 8)) (C := RX12) (T := TX12) (N := 46) hx hb hts inG12 hown hK hP 0 (gM_0 cs ad nu36_) rfl 8 (by decide) (hts _ (List.mem_cons_of_mem _ mw_5_49)) (fun _ h9 => h9) rfl dX12_post_39 ?_
              refine lv_topi (fun y9 ey9 => ?_)
              have hF := mi_let hF ey9
              have by9 : y9.toInt = (nu36_ 0 8).toInt := congrArg Int32.toInt ey9
              have gy9 : 0 ≤ y9.toInt ∧ y9.toInt ≤ 7 := by rw [ey9]; exact rM_0_8 ok
              refine lv_icmp_ge (tgt := 100) hx hb dX12_post_42 (by decide) (fun c_10 => ?_) (fun c_10 => ?_)
              · have hF := (if_pos c_10).symm.trans hF
                have c_10 : y9.toInt ≤ v5_36.toInt := il_le c_10
                refine lv_iinc (v := (v4_24 + 1)) (lv' := [(4, .int (v4_24 + 1)), (5, .int v5_36), (3, .int v3_36), (2, .int v2_36), (0, .ref (ad 0)), (1, .int vv)]) hx hb dX12_post_100 hl (k := 1) rfl rfl (by decide) rfl (fun ls hl => ?_)
                refine loc_gen (P := fun w9 => lv_has ls 6 [(4, .int w9), (5, .int v5_36), (3, .int v3_36), (2, .int v2_36), (0, .ref (ad 0)), (1, .int vv)]) (v4_24 + 1) hl (fun w11 hw11 hl => ?_)
                have hl : lv_has ls 6 [(4, .int w11), (5, .int v5_36), (3, .int v3_36), (2, .int v2_36), (0, .ref (ad 0)), (1, .int vv)] := hl
                have hF := mi_let hF hw11.symm
                have aw11 : w11.toInt = v4_24.toInt + 1 := by rw [← hw11]; first | exact va1 (Int.lt_of_le_of_lt h_v4_24.2 (by decide)) | exact va1 (by omega)
                refine lv_goto (tgt := 24) hx hb dX12_post_103 (by decide) ?_
                exact ih24 (v2_36) (v3_36) (w11) nu36_ _ _ _ (by first | exact ms_up hm_24 aw11 h_v4_24.2 | exact ms_lt hm_24 (by omega) (by omega) | omega) (by first | exact rg_up aw11 h_v4_24 (by omega) | omega)  ok hP  kq36_0 hF hS (lv_sub hl [0, 2, 3, 4, 5] rfl)
              · have hF := (if_neg c_10).symm.trans hF
                have c_10 : v5_36.toInt < y9.toInt := il_nle c_10
                refine lv_iload hx hb dX12_post_45 (lv_at hl 1 rfl) ?_
                refine lv_iload hx hb dX12_post_47 (lv_at hl 0 rfl) ?_
                refine lv_icmp_eq (tgt := 94) hx hb dX12_post_49 (by decide) (fun c_12 => ?_) (fun c_12 => ?_)
                · have hF := (if_pos c_12).symm.trans hF
                  have c_12 : v4_24.toInt = v5_36.toInt := il_eq c_12
                  refine lv_iinc (v := (v5_36 + 1)) (lv' := [(5, .int (v5_36 + 1)), (4, .int v4_24), (3, .int v3_36), (2, .int v2_36), (0, .ref (ad 0)), (1, .int vv)]) hx hb dX12_post_94 hl (k := 0) rfl rfl (by decide) rfl (fun ls hl => ?_)
                  refine loc_gen (P := fun w9 => lv_has ls 6 [(5, .int w9), (4, .int v4_24), (3, .int v3_36), (2, .int v2_36), (0, .ref (ad 0)), (1, .int vv)]) (v5_36 + 1) hl (fun w13 hw13 hl => ?_)
                  have hl : lv_has ls 6 [(5, .int w13), (4, .int v4_24), (3, .int v3_36), (2, .int v2_36), (0, .ref (ad 0)), (1, .int vv)] := hl
                  have hF := mi_let hF hw13.symm
                  have aw13 : w13.toInt = v5_36.toInt + 1 := by rw [← hw13]; first | exact va1 (Int.lt_of_le_of_lt h_v5_36.2 (by decide)) | exact va1 (by omega)
                  refine lv_goto (tgt := 36) hx hb dX12_post_97 (by decide) ?_
                  exact ih36 (v2_36) (v3_36) (w13) nu36_ _ _ _ (by first | exact ms_up hm_36 aw13 h_v5_36.2 | exact ms_lt hm_36 (by omega) (by omega) | omega) (by first | exact rg_up aw13 h_v5_36 (by omega) | omega)  ok hP  kq36_0 hF hS (lv_sub hl [0, 1, 2, 3, 4, 5] rfl)
                · have hF := (if_neg c_12).symm.trans hF
                  have c_12 : ¬ v4_24.toInt = v5_36.toInt := il_ne c_12
                  refine lv_aload_n hx hb dX12_post_52 rfl (lv_at hl 4 rfl) ?_
                  refine lv_bipush (v := (-9)) hx hb dX12_post_53 (by decide) ?_
                  refine lv_iload hx hb dX12_post_55 (lv_at hl 1 rfl) ?_
                  refine lv_iload hx hb dX12_post_57 (lv_at hl 0 rfl) ?_
                  refine lv_iconst (v := 0) hx hb dX12_post_59 (by decide) ?_
                  have hFc := fr_all (wR_D nu36_ hD) hS hA
                  refine va_callv (va_runV (As := [.int (-9), .int v4_24, .int v5_36, .int 0]) (rest := []) ⟨hx, hb, hml, hown, hts⟩ (sm_setRoutes l dC dI cs ad nu36_ ok H hP ((wR_D nu36_ hD).weaken (fun _ _ _ _ => trivial)) (-9) v4_24 v5_36 0 (by have h50 : ((-9) : Int32).toInt = -9 := rfl; have h53 : (0 : Int32).toInt = 0 := rfl; omega)) (cwV 4 hts (wU_V mw_6_178 mw_6_175 mw_6_177 mw_0_54 mw_1_13) rfl rfl rfl (by decide +kernel) ⟨Nat.le_of_ble_eq_true rfl, Nat.le_of_ble_eq_true rfl⟩) ⟨sz_c, va_recv hK hP (ci := 12) (q0 := 0) rfl (gM_0 cs ad nu36_), sz_m hK hz⟩ rfl rfl hl.1 rfl (lv_room (Nat.le_of_ble_eq_true rfl)) dX12_post_60 ⟨Nat.zero_le _, Nat.zero_le _⟩) hS (fun q _ h => hFc q h) hFc (fun xi14 t H14 locs ht hvm hw14 hB hz1 hk1 hS => ?_)
                  have hP : va_P (dC, dI) vwCl (wR 21 ad (EM cs ad) xi14) H14 := by rw [← ht]; exact hB
                  obtain ⟨hfe14, ok, hw14, hkp14_0⟩ := hw14
                  have hF := mi_let hF hfe14
                  have kp15 : (∀ k f : Nat, Nat.testBit 510 (gpM k f) = true → xi14 k f = mu k f) := kp_t hkp14_0 (by decide) kq36_0
                  have gr14 : ((xi14 0 39).toInt = -9 ∨ (0 ≤ (xi14 0 39).toInt ∧ (xi14 0 39).toInt ≤ 3)) ∧ ((xi14 0 33).toInt = 0 ∨ (xi14 0 35).toInt ≤ 7) := hw14
                  refine lv_iload_n hx hb dX12_post_63 rfl (lv_at hl 2 rfl) ?_
                  refine lv_aload_n hx hb dX12_post_64 rfl (lv_at hl 4 rfl) ?_
                  refine va_get (D := (dC, dI)) (ci := 12) (v := .int (xi14 0 30)) (C := RX12) (T := TX12) (N := 46) hx hb hts inG12 hown hK hP 0 (gM_0 cs ad xi14) rfl 30 (by decide) (hts _ (List.mem_cons_of_mem _ mw_5_71)) (fun _ h9 => h9) rfl dX12_post_65 ?_
                  refine lv_topi (fun y16 ey16 => ?_)
                  have hF := mi_let hF ey16
                  have by16 : y16.toInt = (xi14 0 30).toInt := congrArg Int32.toInt ey16
                  refine lv_if_ne (tgt := 75) hx hb dX12_post_68 (by decide) (fun c_17 => ?_) (fun c_17 => ?_)
                  · have hF := (if_neg c_17).symm.trans hF
                    have c_17 : ¬ y16.toInt = 0 := il_ne c_17
                    refine lv_iconst (v := 0) hx hb dX12_post_75 (by decide) ?_
                    refine lv_iadd hx hb dX12_post_76 ?_
                    refine lv_topi (fun t18 et18 => ?_)
                    have hF := mi_let hF et18
                    refine lv_istore_n (lv' := [(3, .int t18), (5, .int v5_36), (4, .int v4_24), (2, .int v2_36), (0, .ref (ad 0)), (1, .int vv)]) hx hb dX12_post_77 rfl hl (by decide) rfl (fun ls hl => ?_)
                    refine lv_iload_n hx hb dX12_post_78 rfl (lv_at hl 3 rfl) ?_
                    refine lv_iload_n hx hb dX12_post_79 rfl (lv_at hl 5 rfl) ?_
                    refine lv_aload_n hx hb dX12_post_80 rfl (lv_at hl 4 rfl) ?_
                    refine va_get (D := (dC, dI)) (ci := 12) (v := .int (xi14 0 31)) (C := RX12) (T := TX12) (N := 46) hx hb hts inG12 hown hK hP 0 (gM_0 cs ad xi14) rfl 31 (by decide) (hts _ (List.mem_cons_of_mem _ mw_5_72)) (fun _ h9 => h9) rfl dX12_post_81 ?_
                    refine lv_topi (fun y19 ey19 => ?_)
                    have hF := mi_let hF ey19
                    have by19 : y19.toInt = (xi14 0 31).toInt := congrArg Int32.toInt ey19
                    refine lv_icmp_ge (tgt := 91) hx hb dX12_post_84 (by decide) (fun c_20 => ?_) (fun c_20 => ?_)
                    · have hF := (if_pos c_20).symm.trans hF
                      have c_20 : y19.toInt ≤ vv.toInt := il_le c_20
                      refine lv_iconst (v := 0) hx hb dX12_post_91 (by decide) ?_
                      refine lv_iadd hx hb dX12_post_92 ?_
                      refine lv_topi (fun t21 et21 => ?_)
                      have hF := mi_let hF et21
                      refine lv_istore_n (lv' := [(2, .int t21), (3, .int t18), (5, .int v5_36), (4, .int v4_24), (0, .ref (ad 0)), (1, .int vv)]) hx hb dX12_post_93 rfl hl (by decide) rfl (fun ls hl => ?_)
                      refine lv_iinc (v := (v5_36 + 1)) (lv' := [(5, .int (v5_36 + 1)), (2, .int t21), (3, .int t18), (4, .int v4_24), (0, .ref (ad 0)), (1, .int vv)]) hx hb dX12_post_94 hl (k := 2) rfl rfl (by decide) rfl (fun ls hl => ?_)
                      refine loc_gen (P := fun w9 => lv_has ls 6 [(5, .int w9), (2, .int t21), (3, .int t18), (4, .int v4_24), (0, .ref (ad 0)), (1, .int vv)]) (v5_36 + 1) hl (fun w22 hw22 hl => ?_)
                      have hl : lv_has ls 6 [(5, .int w22), (2, .int t21), (3, .int t18), (4, .int v4_24), (0, .ref (ad 0)), (1, .int vv)] := hl
                      have hF := mi_let hF hw22.symm
                      have aw22 : w22.toInt = v5_36.toInt + 1 := by rw [← hw22]; first | exact va1 (Int.lt_of_le_of_lt h_v5_36.2 (by decide)) | exact va1 (by omega)
                      refine lv_goto (tgt := 36) hx hb dX12_post_97 (by decide) ?_
                      exact ih36 (t21) (t18) (w22) xi14 _ _ _ (by first | exact ms_up hm_36 aw22 h_v5_36.2 | exact ms_lt hm_36 (by omega) (by omega) | omega) (by first | exact rg_up aw22 h_v5_36 (by omega) | omega)  ok hP  kp15 hF hS (lv_sub hl [0, 3, 2, 1, 4, 5] rfl)
                    · have hF := (if_neg c_20).symm.trans hF
                      have c_20 : vv.toInt < y19.toInt := il_nle c_20
                      refine lv_iconst (v := 1) hx hb dX12_post_87 (by decide) ?_
                      refine lv_goto (tgt := 92) hx hb dX12_post_88 (by decide) ?_
                      refine lv_iadd hx hb dX12_post_92 ?_
                      refine lv_topi (fun t23 et23 => ?_)
                      have hF := mi_let hF et23
                      refine lv_istore_n (lv' := [(2, .int t23), (3, .int t18), (5, .int v5_36), (4, .int v4_24), (0, .ref (ad 0)), (1, .int vv)]) hx hb dX12_post_93 rfl hl (by decide) rfl (fun ls hl => ?_)
                      refine lv_iinc (v := (v5_36 + 1)) (lv' := [(5, .int (v5_36 + 1)), (2, .int t23), (3, .int t18), (4, .int v4_24), (0, .ref (ad 0)), (1, .int vv)]) hx hb dX12_post_94 hl (k := 2) rfl rfl (by decide) rfl (fun ls hl => ?_)
                      refine loc_gen (P := fun w9 => lv_has ls 6 [(5, .int w9), (2, .int t23), (3, .int t18), (4, .int v4_24), (0, .ref (ad 0)), (1, .int vv)]) (v5_36 + 1) hl (fun w24 hw24 hl => ?_)
                      have hl : lv_has ls 6 [(5, .int w24), (2, .int t23), (3, .int t18), (4, .int v4_24), (0, .ref (ad 0)), (1, .int vv)] := hl
                      have hF := mi_let hF hw24.symm
                      have aw24 : w24.toInt = v5_36.toInt + 1 := by rw [← hw24]; first | exact va1 (Int.lt_of_le_of_lt h_v5_36.2 (by decide)) | exact va1 (by omega)
                      refine lv_goto (tgt := 36) hx hb dX12_post_97 (by decide) ?_
                      exact ih36 (t23) (t18) (w24) xi14 _ _ _ (by first | exact ms_up hm_36 aw24 h_v5_36.2 | exact ms_lt hm_36 (by omega) (by omega) | omega) (by first | exact rg_up aw24 h_v5_36 (by omega) | omega)  ok hP  kp15 hF hS (lv_sub hl [0, 3, 2, 1, 4, 5] rfl)
                  · have hF := (if_pos c_17).symm.trans hF
                    have c_17 : y16.toInt = 0 := il_eq c_17
                    refine lv_iconst (v := 1) hx hb dX12_post_71 (by decide) ?_
                    refine lv_goto (tgt := 76) hx hb dX12_post_72 (by decide) ?_
                    refine lv_iadd hx hb dX12_post_76 ?_
                    refine lv_topi (fun t25 et25 => ?_)
                    have hF := mi_let hF et25
                    refine lv_istore_n (lv' := [(3, .int t25), (5, .int v5_36), (4, .int v4_24), (2, .int v2_36), (0, .ref (ad 0)), (1, .int vv)]) hx hb dX12_post_77 rfl hl (by decide) rfl (fun ls hl => ?_)
                    refine lv_iload_n hx hb dX12_post_78 rfl (lv_at hl 3 rfl) ?_
                    refine lv_iload_n hx hb dX12_post_79 rfl (lv_at hl 5 rfl) ?_
                    refine lv_aload_n hx hb dX12_post_80 rfl (lv_at hl 4 rfl) ?_
                    refine va_get (D := (dC, dI)) (ci := 12) (v := .int (xi14 0 31)) (C := RX12) (T := TX12) (N := 46) hx hb hts inG12 hown hK hP 0 (gM_0 cs ad xi14) rfl 31 (by decide) (hts _ (List.mem_cons_of_mem _ mw_5_72)) (fun _ h9 => h9) rfl dX12_post_81 ?_
                    refine lv_topi (fun y26 ey26 => ?_)
                    have hF := mi_let hF ey26
                    have by26 : y26.toInt = (xi14 0 31).toInt := congrArg Int32.toInt ey26
                    refine lv_icmp_ge (tgt := 91) hx hb dX12_post_84 (by decide) (fun c_27 => ?_) (fun c_27 => ?_)
                    · have hF := (if_pos c_27).symm.trans hF
                      have c_27 : y26.toInt ≤ vv.toInt := il_le c_27
                      refine lv_iconst (v := 0) hx hb dX12_post_91 (by decide) ?_
                      refine lv_iadd hx hb dX12_post_92 ?_
                      refine lv_topi (fun t28 et28 => ?_)
                      have hF := mi_let hF et28
                      refine lv_istore_n (lv' := [(2, .int t28), (3, .int t25), (5, .int v5_36), (4, .int v4_24), (0, .ref (ad 0)), (1, .int vv)]) hx hb dX12_post_93 rfl hl (by decide) rfl (fun ls hl => ?_)
                      refine lv_iinc (v := (v5_36 + 1)) (lv' := [(5, .int (v5_36 + 1)), (2, .int t28), (3, .int t25), (4, .int v4_24), (0, .ref (ad 0)), (1, .int vv)]) hx hb dX12_post_94 hl (k := 2) rfl rfl (by decide) rfl (fun ls hl => ?_)
                      refine loc_gen (P := fun w9 => lv_has ls 6 [(5, .int w9), (2, .int t28), (3, .int t25), (4, .int v4_24), (0, .ref (ad 0)), (1, .int vv)]) (v5_36 + 1) hl (fun w29 hw29 hl => ?_)
                      have hl : lv_has ls 6 [(5, .int w29), (2, .int t28), (3, .int t25), (4, .int v4_24), (0, .ref (ad 0)), (1, .int vv)] := hl
                      have hF := mi_let hF hw29.symm
                      have aw29 : w29.toInt = v5_36.toInt + 1 := by rw [← hw29]; first | exact va1 (Int.lt_of_le_of_lt h_v5_36.2 (by decide)) | exact va1 (by omega)
                      refine lv_goto (tgt := 36) hx hb dX12_post_97 (by decide) ?_
                      exact ih36 (t28) (t25) (w29) xi14 _ _ _ (by first | exact ms_up hm_36 aw29 h_v5_36.2 | exact ms_lt hm_36 (by omega) (by omega) | omega) (by first | exact rg_up aw29 h_v5_36 (by omega) | omega)  ok hP  kp15 hF hS (lv_sub hl [0, 3, 2, 1, 4, 5] rfl)
                    · have hF := (if_neg c_27).symm.trans hF
                      have c_27 : vv.toInt < y26.toInt := il_nle c_27
                      refine lv_iconst (v := 1) hx hb dX12_post_87 (by decide) ?_
                      refine lv_goto (tgt := 92) hx hb dX12_post_88 (by decide) ?_
                      refine lv_iadd hx hb dX12_post_92 ?_
                      refine lv_topi (fun t30 et30 => ?_)
                      have hF := mi_let hF et30
                      refine lv_istore_n (lv' := [(2, .int t30), (3, .int t25), (5, .int v5_36), (4, .int v4_24), (0, .ref (ad 0)), (1, .int vv)]) hx hb dX12_post_93 rfl hl (by decide) rfl (fun ls hl => ?_)
                      refine lv_iinc (v := (v5_36 + 1)) (lv' := [(5, .int (v5_36 + 1)), (2, .int t30), (3, .int t25), (4, .int v4_24), (0, .ref (ad 0)), (1, .int vv)]) hx hb dX12_post_94 hl (k := 2) rfl rfl (by decide) rfl (fun ls hl => ?_)
                      refine loc_gen (P := fun w9 => lv_has ls 6 [(5, .int w9), (2, .int t30), (3, .int t25), (4, .int v4_24), (0, .ref (ad 0)), (1, .int vv)]) (v5_36 + 1) hl (fun w31 hw31 hl => ?_)
                      have hl : lv_has ls 6 [(5, .int w31), (2, .int t30), (3, .int t25), (4, .int v4_24), (0, .ref (ad 0)), (1, .int vv)] := hl
                      have hF := mi_let hF hw31.symm
                      have aw31 : w31.toInt = v5_36.toInt + 1 := by rw [← hw31]; first | exact va1 (Int.lt_of_le_of_lt h_v5_36.2 (by decide)) | exact va1 (by omega)
                      refine lv_goto (tgt := 36) hx hb dX12_post_97 (by decide) ?_
                      exact ih36 (t30) (t25) (w31) xi14 _ _ _ (by first | exact ms_up hm_36 aw31 h_v5_36.2 | exact ms_lt hm_36 (by omega) (by omega) | omega) (by first | exact rg_up aw31 h_v5_36 (by omega) | omega)  ok hP  kp15 hF hS (lv_sub hl [0, 3, 2, 1, 4, 5] rfl)
          exact loop36 10 (v2_24) (v3_24) (0) nu24_ _ _ _ (by have h82 : (0 : Int32).toInt = 0 := rfl; omega) (by have h80 : (0 : Int32).toInt = 0 := rfl; exact ⟨by omega, by omega⟩)  ok hP  kq24_0 hF hS hl
    exact loop24 10 (0) (0) (0) nu2 _ _ _ (by have h80 : (0 : Int32).toInt = 0 := rfl; have h81 : (0 : Int32).toInt = 0 := rfl; have h82 : (0 : Int32).toInt = 0 := rfl; omega) (by have h80 : (0 : Int32).toInt = 0 := rfl; exact ⟨by omega, by omega⟩)  ok hP  kp3 hF hS hl
  · have hF := (if_neg (fun h => absurd (hfe1.trans h) (by decide))).symm.trans hF
    have f1 : vv.toInt < (0 : Int) ∨ (99 : Int) < vv.toInt := f1
    refine lv_if_ne (tgt := 12) hx hb dX12_post_7 (by decide) (fun c => absurd (by decide) c) (fun _ => ?_)
    refine lv_iconst (v := (-1)) hx hb dX12_post_10 (by decide) ?_
    exact W.iret (v := (-1)) hx hb hr (fun t ht hW => ⟨⟨(-1), mu, rfl, ⟨hF.trans hfz.symm, ok, trivial, (fun _ _ _ => rfl)⟩, by first | (subst ht; exact hP) | (rw [ht]; exact hP) | (show va_P (dC, dI) vwCl (wR 21 ad (EM cs ad) mu) t.heap; rw [ht]; exact hP)⟩, hS.F ht⟩) hS.2.2 dX12_post_11
set_option maxHeartbeats 4000000 in
set_option maxRecDepth 100000 in
/-- qm_fake -/
theorem qm_fake (l : Launch) (dC : Nat → ClassId) (dI : Nat → Nat → Nat) (cs : Nat → ClassId) (ad : Nat → Nat) (mu : Nat → Nat → Int32) (ok : okR loM hiM mu) (H : Heap) (hP : va_P (dC, dI) vwCl (wR 21 ad (EM cs ad) mu) H) (hD0 : va_D (fun _ => True) (wR 21 ad (EM cs ad) mu)) (vx : Int32) (vy : Int32) (vw : Int32) : Met l yX12_fake (wU yX12_fake cX12_fake 4 (some .int)) ({ frames := 10, cells := 0, slots := 0, locals := 259 }) (va_Pc [.ref (ad 0), .int vx, .int vy, .int vw] (sz_P (dC, dI) vwCl (tyM cs) H)) (va_Qi (fun (z : Int32) (xi : Nat → Nat → Int32) => (z, xi) = F_qm_fake mu vx vy vw ∧ okR loM hiM xi ∧ (True) ∧ (∀ k f : Nat, Nat.testBit 510 (gpM k f) = true → xi k f = mu k f)) (fun xi t => va_P (dC, dI) vwCl (wR 21 ad (EM cs ad) xi) t.heap) (va_A (wR 21 ad (EM cs ad) mu) H.size)) 0 0 (va_A (wR 21 ad (EM cs ad) mu) H.size) := by
  refine Met.ofW (cc := cX12_fake) (maxL := 4) (ret := (some .int)) (by decide) rfl ?_
  intro p e s m args below meth c s₁ B hml hv
  obtain ⟨rfl, hh, hK, hz⟩ := hv
  have hx := B.exec
  have hb := B.bytes
  have hr := B.returns
  have hts := atoms_spec (ws := (wU yX12_fake cX12_fake 4 (some .int))) B.pre
  have hown : s.vm.findClass RX12 = some m.cls := findClass_of_methodNamed B.named
  have hlocks := B.notSynchronized
  subst hh
  have hD := hD0.self (sz := s.heap.size)
  have hA : ∀ q : Nat, s.heap.size ≤ q → (va_A (wR 21 ad (EM cs ad) mu) s.heap.size) q := fun q h => Or.inr h
  have hS : va_S (va_A (wR 21 ad (EM cs ad) mu) s.heap.size) s.heap s.heap [] := va_S.rf
  have hl := lv_entry ([.ref (ad 0), .int vx, .int vy, .int vw]) (n := 4) (Nat.le_of_ble_eq_true rfl)
  rw [lg_entry_eq]
  generalize (lg_sl ([.ref (ad 0), .int vx, .int vy, .int vw]) ++ List.replicate (4 - (lg_sl ([.ref (ad 0), .int vx, .int vy, .int vw])).length) Slot.unset).toArray = ls at hl ⊢
  have hl : lv_has ls 4 [(0, .ref (ad 0)), (1, .int vx), (2, .int vy), (3, .int vw)] := hl
  obtain ⟨fz, hfz⟩ : ∃ z, F_qm_fake mu vx vy vw = z := ⟨_, rfl⟩
  have hF := hfz
  unfold F_qm_fake at hF
  refine lv_aload_n hx hb dX12_fake_0 rfl (lv_at hl 0 rfl) ?_
  refine lv_iload_n hx hb dX12_fake_1 rfl (lv_at hl 1 rfl) ?_
  refine lv_iload_n hx hb dX12_fake_2 rfl (lv_at hl 2 rfl) ?_
  refine cr_i (va_runV (As := [.int vx, .int vy]) (rest := []) ⟨hx, hb, hml, hown, hts⟩ (sm_areTwo l dC dI cs ad mu ok s.heap hP vx vy) (cwV 2 hts (wU_V mw_6_102 mw_6_99 mw_6_101 mw_0_44 mw_1_13) rfl rfl rfl (by decide +kernel) ⟨Nat.le_of_ble_eq_true rfl, Nat.le_of_ble_eq_true rfl⟩) ⟨sz_c, va_recv hK hP (ci := 12) (q0 := 0) rfl (gM_0 cs ad mu), sz_m hK hz⟩ rfl rfl hl.1 rfl (lv_room (Nat.le_of_ble_eq_true rfl)) dX12_fake_3 ⟨Nat.zero_le _, Nat.zero_le _⟩) hS (fun r1 hw1 locs hS => ?_)
  obtain ⟨hfe1, hw1⟩ := hw1
  rcases hw1 with ⟨rfl, f1⟩ | ⟨rfl, f1⟩
  · have hF := (if_pos hfe1.symm).symm.trans hF
    have f1 : 0 ≤ vx.toInt ∧ vx.toInt < (mu 0 8).toInt ∧ 0 ≤ vy.toInt ∧ vy.toInt < (mu 0 8).toInt ∧ (mu 0 8).toInt ≤ 7 := f1
    refine lv_if_eq (tgt := 19) hx hb dX12_fake_6 (by decide) (fun c => absurd c (by decide)) (fun _ => ?_)
    refine lv_iload_n hx hb dX12_fake_9 rfl (lv_at hl 3 rfl) ?_
    refine lv_iconst (v := 0) hx hb dX12_fake_10 (by decide) ?_
    refine lv_bipush (v := 99) hx hb dX12_fake_11 (by decide) ?_
    refine cr_i (va_runS (As := [.int vw, .int 0, .int 99]) (rest := []) ⟨hx, hb, hml, hown, hts⟩ (sm_in l dC dI (tyM cs) s.heap vw 0 99) (va_cwS 3 hts (wU_S mw_5_189 mw_5_187 mw_5_188 mw_1_13) rfl rfl rfl (by decide +kernel) ⟨Nat.le_of_ble_eq_true rfl, Nat.le_of_ble_eq_true rfl⟩) ⟨sz_c, sz_m hK hz⟩ rfl rfl hl.1 rfl (lv_room (Nat.le_of_ble_eq_true rfl)) dX12_fake_13 ⟨Nat.zero_le _, Nat.zero_le _⟩) hS (fun r2 hw2 locs hS => ?_)
    obtain ⟨hfe2, hw2⟩ := hw2
    rcases hw2 with ⟨rfl, f2⟩ | ⟨rfl, f2⟩
    · have hF := (if_pos hfe2.symm).symm.trans hF
      have f2 : (0 : Int) ≤ vw.toInt ∧ vw.toInt ≤ (99 : Int) := f2
      refine lv_if_ne (tgt := 21) hx hb dX12_fake_16 (by decide) (fun _ => ?_) (fun c => absurd c (by decide))
      refine lv_aload_n hx hb dX12_fake_21 rfl (lv_at hl 0 rfl) ?_
      refine lv_iconst (v := 1) hx hb dX12_fake_22 (by decide) ?_
      refine va_put (D := (dC, dI)) (ci := 12) (v := .int 1) (ty := .boolean) (C := RX12) (T := TX12) (N := 46) hx hb hts inG12 tyX12 tyX12_ok nmX12 hown hK hP (wR_D mu hD) hS 0 (gM_0 cs ad mu) rfl 38 (by decide) (hts _ (List.mem_cons_of_mem _ mw_5_79)) (fun _ h9 => h9) rfl (by decide +kernel) (by first | rfl | decide) (by first | rfl | decide) (Nat.le_of_ble_eq_true rfl) dX12_fake_23 (fun H locs hP _ hS => ?_)
      simp only [List.set_cons_succ, List.set_cons_zero] at hP
      refine wr_gen (upd (mu 0) 38 1) hP ((hM_0_38 cs ad _ _)) (fun nu3 hn3 hP => ?_)
      have hF := mi_let hF hn3.symm
      have ok := tM_0_38 ok hn3 (by have h9 : (1 : Int32).toInt = 1 := rfl; exact ⟨by omega, by omega⟩)
      have kp4 : (∀ k f : Nat, Nat.testBit 510 (gpM k f) = true → nu3 k f = mu k f) := kp_f hn3 (by decide) (fun _ _ _ => rfl)
      have ez5 : 1 = nu3 0 38 := up_v hn3
      refine lv_aload_n hx hb dX12_fake_26 rfl (lv_at hl 0 rfl) ?_
      refine lv_bipush (v := (-9)) hx hb dX12_fake_27 (by decide) ?_
      refine lv_iload_n hx hb dX12_fake_29 rfl (lv_at hl 1 rfl) ?_
      refine lv_iload_n hx hb dX12_fake_30 rfl (lv_at hl 2 rfl) ?_
      refine lv_iconst (v := 0) hx hb dX12_fake_31 (by decide) ?_
      have hFc := fr_all (wR_D nu3 hD) hS hA
      refine va_callv (va_runV (As := [.int (-9), .int vx, .int vy, .int 0]) (rest := []) ⟨hx, hb, hml, hown, hts⟩ (sm_setRoutes l dC dI cs ad nu3 ok H hP ((wR_D nu3 hD).weaken (fun _ _ _ _ => trivial)) (-9) vx vy 0 (by have h50 : ((-9) : Int32).toInt = -9 := rfl; have h53 : (0 : Int32).toInt = 0 := rfl; omega)) (cwV 4 hts (wU_V mw_6_178 mw_6_175 mw_6_177 mw_0_54 mw_1_13) rfl rfl rfl (by decide +kernel) ⟨Nat.le_of_ble_eq_true rfl, Nat.le_of_ble_eq_true rfl⟩) ⟨sz_c, va_recv hK hP (ci := 12) (q0 := 0) rfl (gM_0 cs ad nu3), sz_m hK hz⟩ rfl rfl hl.1 rfl (lv_room (Nat.le_of_ble_eq_true rfl)) dX12_fake_32 ⟨Nat.zero_le _, Nat.zero_le _⟩) hS (fun q _ h => hFc q h) hFc (fun xi6 t H6 locs ht hvm hw6 hB hz1 hk1 hS => ?_)
      have hP : va_P (dC, dI) vwCl (wR 21 ad (EM cs ad) xi6) H6 := by rw [← ht]; exact hB
      obtain ⟨hfe6, ok, hw6, hkp6_0⟩ := hw6
      have hF := mi_let hF hfe6
      have kp7 : (∀ k f : Nat, Nat.testBit 510 (gpM k f) = true → xi6 k f = mu k f) := kp_t hkp6_0 (by decide) kp4
      have gr6 : ((xi6 0 39).toInt = -9 ∨ (0 ≤ (xi6 0 39).toInt ∧ (xi6 0 39).toInt ≤ 3)) ∧ ((xi6 0 33).toInt = 0 ∨ (xi6 0 35).toInt ≤ 7) := hw6
      refine lv_aload_n hx hb dX12_fake_35 rfl (lv_at hl 0 rfl) ?_
      refine va_get (D := (dC, dI)) (ci := 12) (v := .int (xi6 0 31)) (C := RX12) (T := TX12) (N := 46) hx hb hts inG12 hown hK hP 0 (gM_0 cs ad xi6) rfl 31 (by decide) (hts _ (List.mem_cons_of_mem _ mw_5_72)) (fun _ h9 => h9) rfl dX12_fake_36 ?_
      refine lv_topi (fun y8 ey8 => ?_)
      have hF := mi_let hF ey8
      have by8 : y8.toInt = (xi6 0 31).toInt := congrArg Int32.toInt ey8
      refine lv_iload_n hx hb dX12_fake_39 rfl (lv_at hl 3 rfl) ?_
      refine lv_icmp_gt (tgt := 50) hx hb dX12_fake_40 (by decide) (fun c_9 => ?_) (fun c_9 => ?_)
      · have hF := (if_pos c_9).symm.trans hF
        have c_9 : vw.toInt < y8.toInt := il_lt c_9
        refine lv_iconst (v := 0) hx hb dX12_fake_50 (by decide) ?_
        exact W.iret (v := 0) hx hb hr (fun t ht hW => ⟨⟨0, xi6, rfl, ⟨hF.trans hfz.symm, ok, trivial, kp7⟩, by first | (subst ht; exact hP) | (rw [ht]; exact hP) | (show va_P (dC, dI) vwCl (wR 21 ad (EM cs ad) xi6) t.heap; rw [ht]; exact hP)⟩, hS.F ht⟩) hS.2.2 dX12_fake_51
      · have hF := (if_neg c_9).symm.trans hF
        have c_9 : y8.toInt ≤ vw.toInt := il_nlt c_9
        refine lv_aload_n hx hb dX12_fake_43 rfl (lv_at hl 0 rfl) ?_
        refine va_get (D := (dC, dI)) (ci := 12) (v := .int (xi6 0 31)) (C := RX12) (T := TX12) (N := 46) hx hb hts inG12 hown hK hP 0 (gM_0 cs ad xi6) rfl 31 (by decide) (hts _ (List.mem_cons_of_mem _ mw_5_72)) (fun _ h9 => h9) rfl dX12_fake_44 ?_
        refine lq_i y8 ey8.symm ?_
        refine lv_goto (tgt := 51) hx hb dX12_fake_47 (by decide) ?_
        exact W.iret (v := y8) hx hb hr (fun t ht hW => ⟨⟨y8, xi6, rfl, ⟨hF.trans hfz.symm, ok, trivial, kp7⟩, by first | (subst ht; exact hP) | (rw [ht]; exact hP) | (show va_P (dC, dI) vwCl (wR 21 ad (EM cs ad) xi6) t.heap; rw [ht]; exact hP)⟩, hS.F ht⟩) hS.2.2 dX12_fake_51
    · have hF := (if_neg (fun h => absurd (hfe2.trans h) (by decide))).symm.trans hF
      have f2 : vw.toInt < (0 : Int) ∨ (99 : Int) < vw.toInt := f2
      refine lv_if_ne (tgt := 21) hx hb dX12_fake_16 (by decide) (fun c => absurd (by decide) c) (fun _ => ?_)
      refine lv_iconst (v := (-1)) hx hb dX12_fake_19 (by decide) ?_
      exact W.iret (v := (-1)) hx hb hr (fun t ht hW => ⟨⟨(-1), mu, rfl, ⟨hF.trans hfz.symm, ok, trivial, (fun _ _ _ => rfl)⟩, by first | (subst ht; exact hP) | (rw [ht]; exact hP) | (show va_P (dC, dI) vwCl (wR 21 ad (EM cs ad) mu) t.heap; rw [ht]; exact hP)⟩, hS.F ht⟩) hS.2.2 dX12_fake_20
  · have hF := (if_neg (fun h => absurd (hfe1.trans h) (by decide))).symm.trans hF
    have f1 : True := f1
    refine lv_if_eq (tgt := 19) hx hb dX12_fake_6 (by decide) (fun _ => ?_) (fun c => absurd (by decide) c)
    refine lv_iconst (v := (-1)) hx hb dX12_fake_19 (by decide) ?_
    exact W.iret (v := (-1)) hx hb hr (fun t ht hW => ⟨⟨(-1), mu, rfl, ⟨hF.trans hfz.symm, ok, trivial, (fun _ _ _ => rfl)⟩, by first | (subst ht; exact hP) | (rw [ht]; exact hP) | (show va_P (dC, dI) vwCl (wR 21 ad (EM cs ad) mu) t.heap; rw [ht]; exact hP)⟩, hS.F ht⟩) hS.2.2 dX12_fake_20
set_option maxHeartbeats 4000000 in
set_option maxRecDepth 100000 in
/-- sm_buyerAt -/
theorem sm_buyerAt (l : Launch) (dC : Nat → ClassId) (dI : Nat → Nat → Nat) (cs : Nat → ClassId) (ad : Nat → Nat) (mu : Nat → Nat → Int32) (ok : okR loM hiM mu) (H : Heap) (hP : va_P (dC, dI) vwCl (wR 21 ad (EM cs ad) mu) H) (vs : Int32) (hin0 : 0 ≤ vs.toInt ∧ vs.toInt ≤ 39) : Met l yX12_buyerAt (wU yX12_buyerAt cX12_buyerAt 3 (some .int)) ({ frames := 1, cells := 0, slots := 0, locals := 22 }) (va_Pc [.ref (ad 0), .int vs] (sz_P (dC, dI) vwCl (tyM cs) H)) (va_Qi (fun (z : Int32) (_ : Unit) => z = F_sm_buyerAt mu vs ∧ (True)) (fun _ t => t.heap = H) (fun _ => False)) 0 0 (fun _ => False) := by
  refine Met.ofW (cc := cX12_buyerAt) (maxL := 3) (ret := (some .int)) (by decide) rfl ?_
  intro p e s m args below meth c s₁ B hml hv
  obtain ⟨rfl, hh, hK, hz⟩ := hv
  have hx := B.exec
  have hb := B.bytes
  have hr := B.returns
  have hts := atoms_spec (ws := (wU yX12_buyerAt cX12_buyerAt 3 (some .int))) B.pre
  have hown : s.vm.findClass RX12 = some m.cls := findClass_of_methodNamed B.named
  have hlocks := B.notSynchronized
  subst hh
  have hS : va_S (fun _ => False) s.heap s.heap [] := va_S.rf
  have hl := lv_entry ([.ref (ad 0), .int vs]) (n := 3) (Nat.le_of_ble_eq_true rfl)
  rw [lg_entry_eq]
  generalize (lg_sl ([.ref (ad 0), .int vs]) ++ List.replicate (3 - (lg_sl ([.ref (ad 0), .int vs])).length) Slot.unset).toArray = ls at hl ⊢
  have hl : lv_has ls 3 [(0, .ref (ad 0)), (1, .int vs)] := hl
  obtain ⟨fz, hfz⟩ : ∃ z, F_sm_buyerAt mu vs = z := ⟨_, rfl⟩
  have hF := hfz
  unfold F_sm_buyerAt at hF
  refine lv_iload_n hx hb dX12_buyerAt_0 rfl (lv_at hl 1 rfl) ?_
  refine lv_iconst (v := 1) hx hb dX12_buyerAt_1 (by decide) ?_
  refine lv_iadd hx hb dX12_buyerAt_2 ?_
  refine lv_topi (fun t1 et1 => ?_)
  have hF := mi_let hF et1
  have at1 : t1.toInt = vs.toInt + 1 := by rw [et1]; exact va1 (by omega)
  refine lv_istore_n (lv' := [(2, .int t1), (0, .ref (ad 0)), (1, .int vs)]) hx hb dX12_buyerAt_3 rfl hl (by decide) rfl (fun ls hl => ?_)
  have loop4 : ∀ (n4 : Nat) (v2_4 : Int32) (locs : List Loc) (ls : Array Slot), (40 + 1 - v2_4.toInt).toNat < n4 → (0 ≤ v2_4.toInt ∧ v2_4.toInt ≤ 40) → L_sm_buyerAt_4_0 mu vs n4 v2_4 = fz → va_S (fun _ => False) s.heap s.heap locs → lv_has ls 3 [(2, .int v2_4), (0, .ref (ad 0)), (1, .int vs)] → W p l e (headSpec (wU yX12_buyerAt cX12_buyerAt 3 (some .int)) ({ frames := 1, cells := 0, slots := 0, locals := 22 })).room s m ([.ref (ad 0), .int vs] : List Value).toArray below meth c s.heap locs 0 0 (MQ below (va_Qi (fun (z : Int32) (_ : Unit) => z = F_sm_buyerAt mu vs ∧ (True)) (fun _ t => t.heap = s.heap) (fun _ => False)) ([.ref (ad 0), .int vs] : List Value).toArray s 0 0 (fun _ => False)) (F0 m 4 ls []) := by
    intro n4
    induction n4 with
    | zero => intro v2_4 locs ls hm; exact absurd hm (Nat.not_lt_zero _)
    | succ n4 ih4 =>
      intro v2_4 locs ls hm_4 h_v2_4 hF hS hl
      rw [L_sm_buyerAt_4_0] at hF
      refine lv_iload_n hx hb dX12_buyerAt_4 rfl (lv_at hl 0 rfl) ?_
      refine lv_aload_n hx hb dX12_buyerAt_5 rfl (lv_at hl 1 rfl) ?_
      refine va_get (D := (dC, dI)) (ci := 12) (v := .int (mu 0 17)) (C := RX12) (T := TX12) (N := 46) hx hb hts inG12 hown hK hP 0 (gM_0 cs ad mu) rfl 17 (by decide) (hts _ (List.mem_cons_of_mem _ mw_5_58)) (fun _ h9 => h9) rfl dX12_buyerAt_6 ?_
      refine lv_topi (fun y2 ey2 => ?_)
      have hF := mi_let hF ey2
      have by2 : y2.toInt = (mu 0 17).toInt := congrArg Int32.toInt ey2
      have gy2 : 0 ≤ y2.toInt ∧ y2.toInt ≤ 40 := by rw [ey2]; exact rM_0_17 ok
      refine lv_icmp_ge (tgt := 51) hx hb dX12_buyerAt_9 (by decide) (fun c_3 => ?_) (fun c_3 => ?_)
      · have hF := (if_pos c_3).symm.trans hF
        have c_3 : y2.toInt ≤ v2_4.toInt := il_le c_3
        refine lv_aload_n hx hb dX12_buyerAt_51 rfl (lv_at hl 1 rfl) ?_
        refine lv_aload_n hx hb dX12_buyerAt_52 rfl (lv_at hl 1 rfl) ?_
        refine va_get (D := (dC, dI)) (ci := 12) (v := .ref (ad 14)) (C := RX12) (T := TX12) (N := 46) hx hb hts inG12 hown hK hP 0 (gM_0 cs ad mu) rfl 24 (by decide) (hts _ (List.mem_cons_of_mem _ mw_5_65)) (fun _ h9 => h9) rfl dX12_buyerAt_53 ?_
        refine lv_bipush (v := 12) hx hb dX12_buyerAt_56 (by decide) ?_
        refine lv_iload_n hx hb dX12_buyerAt_58 rfl (lv_at hl 2 rfl) ?_
        refine lv_imul hx hb dX12_buyerAt_59 ?_
        refine lv_topi (fun t4 et4 => ?_)
        have hF := mi_let hF et4
        have at4 : t4.toInt = 12 * vs.toInt := by rw [et4]; exact tI_mul (rfl : (12 : Int32).toInt = 12) (rfl : vs.toInt = _) (by omega) (by omega)
        refine va_iald hx hb hK hP 14 0 (gM_14 cs ad mu) rfl (show vp_in t4 480 from vi_of (by omega) (by omega)) dX12_buyerAt_60 ?_
        have hc5 : ((t4 : Int32).toNatClampNeg : Int) = t4.toInt := tC_of (by omega)
        refine lv_topi (fun y6 ey6 => ?_)
        have hF := mi_let hF ey6
        have by6 : y6.toInt = (mu 14 t4.toNatClampNeg).toInt := congrArg Int32.toInt ey6
        have gy6 : 0 ≤ y6.toInt ∧ y6.toInt ≤ 3 := by rw [ey6]; exact (rM_14_s ok t4.toNatClampNeg).1 (by omega)
        refine lv_iconst (v := 5) hx hb dX12_buyerAt_61 (by decide) ?_
        refine cr_i (va_runV (As := [.int y6, .int 5]) (rest := []) ⟨hx, hb, hml, hown, hts⟩ (sm_letterOf5 l dC dI cs ad mu ok s.heap hP y6 (by have h51 : (5 : Int32).toInt = 5 := rfl; omega)) (cwV 2 hts (wU_V mw_6_48 mw_6_45 mw_6_47 mw_0_38 mw_1_13) rfl rfl rfl (by decide +kernel) ⟨Nat.le_of_ble_eq_true rfl, Nat.le_of_ble_eq_true rfl⟩) ⟨sz_c, va_recv hK hP (ci := 12) (q0 := 0) rfl (gM_0 cs ad mu), sz_m hK hz⟩ rfl rfl hl.1 rfl (lv_room (Nat.le_of_ble_eq_true rfl)) dX12_buyerAt_62 ⟨Nat.zero_le _, Nat.zero_le _⟩) hS (fun r7 hw7 locs hS => ?_)
        obtain ⟨hfe7, hw7⟩ := hw7
        have hF := mi_let hF hfe7
        have gr7 : 0 ≤ r7.toInt ∧ r7.toInt ≤ 6 := hw7
        exact W.iret (v := r7) hx hb hr (fun t ht hW => ⟨⟨r7, (), rfl, ⟨hF.trans hfz.symm, trivial⟩, ht⟩, hS.F ht⟩) hS.2.2 dX12_buyerAt_65
      · have hF := (if_neg c_3).symm.trans hF
        have c_3 : v2_4.toInt < y2.toInt := il_nle c_3
        refine lv_aload_n hx hb dX12_buyerAt_12 rfl (lv_at hl 1 rfl) ?_
        refine va_get (D := (dC, dI)) (ci := 12) (v := .ref (ad 14)) (C := RX12) (T := TX12) (N := 46) hx hb hts inG12 hown hK hP 0 (gM_0 cs ad mu) rfl 24 (by decide) (hts _ (List.mem_cons_of_mem _ mw_5_65)) (fun _ h9 => h9) rfl dX12_buyerAt_13 ?_
        refine lv_bipush (v := 12) hx hb dX12_buyerAt_16 (by decide) ?_
        refine lv_iload_n hx hb dX12_buyerAt_18 rfl (lv_at hl 0 rfl) ?_
        refine lv_imul hx hb dX12_buyerAt_19 ?_
        refine lv_topi (fun t8 et8 => ?_)
        have hF := mi_let hF et8
        have at8 : t8.toInt = 12 * v2_4.toInt := by rw [et8]; exact tI_mul (rfl : (12 : Int32).toInt = 12) (rfl : v2_4.toInt = _) (by omega) (by omega)
        refine va_iald hx hb hK hP 14 0 (gM_14 cs ad mu) rfl (show vp_in t8 480 from vi_of (by omega) (by omega)) dX12_buyerAt_20 ?_
        have hc9 : ((t8 : Int32).toNatClampNeg : Int) = t8.toInt := tC_of (by omega)
        refine lv_topi (fun y10 ey10 => ?_)
        have hF := mi_let hF ey10
        have by10 : y10.toInt = (mu 14 t8.toNatClampNeg).toInt := congrArg Int32.toInt ey10
        refine lv_aload_n hx hb dX12_buyerAt_21 rfl (lv_at hl 1 rfl) ?_
        refine va_get (D := (dC, dI)) (ci := 12) (v := .ref (ad 14)) (C := RX12) (T := TX12) (N := 46) hx hb hts inG12 hown hK hP 0 (gM_0 cs ad mu) rfl 24 (by decide) (hts _ (List.mem_cons_of_mem _ mw_5_65)) (fun _ h9 => h9) rfl dX12_buyerAt_22 ?_
        refine lv_bipush (v := 12) hx hb dX12_buyerAt_25 (by decide) ?_
        refine lv_iload_n hx hb dX12_buyerAt_27 rfl (lv_at hl 2 rfl) ?_
        refine lv_imul hx hb dX12_buyerAt_28 ?_
        refine lv_topi (fun t11 et11 => ?_)
        have hF := mi_let hF et11
        have at11 : t11.toInt = 12 * vs.toInt := by rw [et11]; exact tI_mul (rfl : (12 : Int32).toInt = 12) (rfl : vs.toInt = _) (by omega) (by omega)
        refine va_iald hx hb hK hP 14 0 (gM_14 cs ad mu) rfl (show vp_in t11 480 from vi_of (by omega) (by omega)) dX12_buyerAt_29 ?_
        have hc12 : ((t11 : Int32).toNatClampNeg : Int) = t11.toInt := tC_of (by omega)
        refine lv_topi (fun y13 ey13 => ?_)
        have hF := mi_let hF ey13
        have by13 : y13.toInt = (mu 14 t11.toNatClampNeg).toInt := congrArg Int32.toInt ey13
        refine lv_icmp_ne (tgt := 45) hx hb dX12_buyerAt_30 (by decide) (fun c_14 => ?_) (fun c_14 => ?_)
        · have hF := (if_neg c_14).symm.trans hF
          have c_14 : ¬ y10.toInt = y13.toInt := il_ne c_14
          refine lv_iinc (v := (v2_4 + 1)) (lv' := [(2, .int (v2_4 + 1)), (0, .ref (ad 0)), (1, .int vs)]) hx hb dX12_buyerAt_45 hl (k := 0) rfl rfl (by decide) rfl (fun ls hl => ?_)
          refine loc_gen (P := fun w9 => lv_has ls 3 [(2, .int w9), (0, .ref (ad 0)), (1, .int vs)]) (v2_4 + 1) hl (fun w15 hw15 hl => ?_)
          have hl : lv_has ls 3 [(2, .int w15), (0, .ref (ad 0)), (1, .int vs)] := hl
          have hF := mi_let hF hw15.symm
          have aw15 : w15.toInt = v2_4.toInt + 1 := by rw [← hw15]; first | exact va1 (Int.lt_of_le_of_lt h_v2_4.2 (by decide)) | exact va1 (by omega)
          refine lv_goto (tgt := 4) hx hb dX12_buyerAt_48 (by decide) ?_
          exact ih4 (w15)  _ _ (by first | exact ms_up hm_4 aw15 h_v2_4.2 | exact ms_lt hm_4 (by omega) (by omega) | omega) (by first | exact rg_up aw15 h_v2_4 (by omega) | omega)   hF hS (lv_sub hl [0, 1, 2] rfl)
        · have hF := (if_pos c_14).symm.trans hF
          have c_14 : y10.toInt = y13.toInt := il_eq c_14
          refine lv_aload_n hx hb dX12_buyerAt_33 rfl (lv_at hl 1 rfl) ?_
          refine va_get (D := (dC, dI)) (ci := 12) (v := .ref (ad 14)) (C := RX12) (T := TX12) (N := 46) hx hb hts inG12 hown hK hP 0 (gM_0 cs ad mu) rfl 24 (by decide) (hts _ (List.mem_cons_of_mem _ mw_5_65)) (fun _ h9 => h9) rfl dX12_buyerAt_34 ?_
          refine lv_bipush (v := 12) hx hb dX12_buyerAt_37 (by decide) ?_
          refine lv_iload_n hx hb dX12_buyerAt_39 rfl (lv_at hl 0 rfl) ?_
          refine lv_imul hx hb dX12_buyerAt_40 ?_
          refine lv_topi (fun t16 et16 => ?_)
          have hF := mi_let hF et16
          have at16 : t16.toInt = 12 * v2_4.toInt := by rw [et16]; exact tI_mul (rfl : (12 : Int32).toInt = 12) (rfl : v2_4.toInt = _) (by omega) (by omega)
          refine lv_iconst (v := 1) hx hb dX12_buyerAt_41 (by decide) ?_
          refine lv_iadd hx hb dX12_buyerAt_42 ?_
          refine lv_topi (fun t17 et17 => ?_)
          have hF := mi_let hF et17
          have at17 : t17.toInt = t16.toInt + 1 := by rw [et17]; exact va1 (by omega)
          refine va_iald hx hb hK hP 14 0 (gM_14 cs ad mu) rfl (show vp_in t17 480 from vi_of (by omega) (by omega)) dX12_buyerAt_43 ?_
          have hc18 : ((t17 : Int32).toNatClampNeg : Int) = t17.toInt := tC_of (by omega)
          refine lv_topi (fun y19 ey19 => ?_)
          have hF := mi_let hF ey19
          have by19 : y19.toInt = (mu 14 t17.toNatClampNeg).toInt := congrArg Int32.toInt ey19
          exact W.iret (v := y19) hx hb hr (fun t ht hW => ⟨⟨y19, (), rfl, ⟨hF.trans hfz.symm, trivial⟩, ht⟩, hS.F ht⟩) hS.2.2 dX12_buyerAt_44
  exact loop4 43 (t1)  _ _ (by omega) (by omega)   hF hS hl
set_option maxHeartbeats 4000000 in
set_option maxRecDepth 100000 in
/-- qm_gain -/
theorem qm_gain (l : Launch) (dC : Nat → ClassId) (dI : Nat → Nat → Nat) (cs : Nat → ClassId) (ad : Nat → Nat) (mu : Nat → Nat → Int32) (ok : okR loM hiM mu) (H : Heap) (hP : va_P (dC, dI) vwCl (wR 21 ad (EM cs ad) mu) H) (hD0 : va_D (fun _ => True) (wR 21 ad (EM cs ad) mu)) (vx : Int32) : Met l yX12_gain (wU yX12_gain cX12_gain 4 (some .int)) ({ frames := 2, cells := 0, slots := 0, locals := 44 }) (va_Pc [.ref (ad 0), .int vx] (sz_P (dC, dI) vwCl (tyM cs) H)) (va_Qi (fun (z : Int32) (xi : Nat → Nat → Int32) => (z, xi) = F_qm_gain mu vx ∧ okR loM hiM xi ∧ (True) ∧ (∀ k f : Nat, Nat.testBit 510 (gpM k f) = true → xi k f = mu k f)) (fun xi t => va_P (dC, dI) vwCl (wR 21 ad (EM cs ad) xi) t.heap) (va_A (wR 21 ad (EM cs ad) mu) H.size)) 0 0 (va_A (wR 21 ad (EM cs ad) mu) H.size) := by
  refine Met.ofW (cc := cX12_gain) (maxL := 4) (ret := (some .int)) (by decide) rfl ?_
  intro p e s m args below meth c s₁ B hml hv
  obtain ⟨rfl, hh, hK, hz⟩ := hv
  have hx := B.exec
  have hb := B.bytes
  have hr := B.returns
  have hts := atoms_spec (ws := (wU yX12_gain cX12_gain 4 (some .int))) B.pre
  have hown : s.vm.findClass RX12 = some m.cls := findClass_of_methodNamed B.named
  have hlocks := B.notSynchronized
  subst hh
  have hD := hD0.self (sz := s.heap.size)
  have hA : ∀ q : Nat, s.heap.size ≤ q → (va_A (wR 21 ad (EM cs ad) mu) s.heap.size) q := fun q h => Or.inr h
  have hS : va_S (va_A (wR 21 ad (EM cs ad) mu) s.heap.size) s.heap s.heap [] := va_S.rf
  have hl := lv_entry ([.ref (ad 0), .int vx]) (n := 4) (Nat.le_of_ble_eq_true rfl)
  rw [lg_entry_eq]
  generalize (lg_sl ([.ref (ad 0), .int vx]) ++ List.replicate (4 - (lg_sl ([.ref (ad 0), .int vx])).length) Slot.unset).toArray = ls at hl ⊢
  have hl : lv_has ls 4 [(0, .ref (ad 0)), (1, .int vx)] := hl
  obtain ⟨fz, hfz⟩ : ∃ z, F_qm_gain mu vx = z := ⟨_, rfl⟩
  have hF := hfz
  unfold F_qm_gain at hF
  refine lv_aload_n hx hb dX12_gain_0 rfl (lv_at hl 0 rfl) ?_
  refine lv_iload_n hx hb dX12_gain_1 rfl (lv_at hl 1 rfl) ?_
  refine cr_i (va_runV (As := [.int vx]) (rest := []) ⟨hx, hb, hml, hown, hts⟩ (sm_isOne l dC dI cs ad mu ok s.heap hP vx) (cwV 1 hts (wU_V mw_6_40 mw_6_37 mw_6_39 mw_0_36 mw_1_13) rfl rfl rfl (by decide +kernel) ⟨Nat.le_of_ble_eq_true rfl, Nat.le_of_ble_eq_true rfl⟩) ⟨sz_c, va_recv hK hP (ci := 12) (q0 := 0) rfl (gM_0 cs ad mu), sz_m hK hz⟩ rfl rfl hl.1 rfl (lv_room (Nat.le_of_ble_eq_true rfl)) dX12_gain_2 ⟨Nat.zero_le _, Nat.zero_le _⟩) hS (fun r1 hw1 locs hS => ?_)
  obtain ⟨hfe1, hw1⟩ := hw1
  rcases hw1 with ⟨rfl, f1⟩ | ⟨rfl, f1⟩
  · have hF := (if_pos hfe1.symm).symm.trans hF
    have f1 : 0 ≤ vx.toInt ∧ vx.toInt < (mu 0 8).toInt ∧ (mu 0 8).toInt ≤ 7 := f1
    refine lv_if_ne (tgt := 10) hx hb dX12_gain_5 (by decide) (fun _ => ?_) (fun c => absurd c (by decide))
    refine lv_iconst (v := 0) hx hb dX12_gain_10 (by decide) ?_
    refine lv_istore_n (lv' := [(2, .int 0), (0, .ref (ad 0)), (1, .int vx)]) hx hb dX12_gain_11 rfl hl (by decide) rfl (fun ls hl => ?_)
    refine lv_iconst (v := 0) hx hb dX12_gain_12 (by decide) ?_
    refine lv_istore_n (lv' := [(3, .int 0), (2, .int 0), (0, .ref (ad 0)), (1, .int vx)]) hx hb dX12_gain_13 rfl hl (by decide) rfl (fun ls hl => ?_)
    have loop14 : ∀ (n14 : Nat) (v2_14 : Int32) (v3_14 : Int32) (nu14_ : Nat → Nat → Int32) (H : Heap) (locs : List Loc) (ls : Array Slot), (40 + 1 - v3_14.toInt).toNat < n14 → (0 ≤ v3_14.toInt ∧ v3_14.toInt ≤ 40) → okR loM hiM nu14_ → va_P (dC, dI) vwCl (wR 21 ad (EM cs ad) nu14_) H → (∀ k f : Nat, Nat.testBit 510 (gpM k f) = true → nu14_ k f = mu k f) → L_qm_gain_14_0 vx n14 v2_14 v3_14 nu14_ = fz → va_S (va_A (wR 21 ad (EM cs ad) mu) s.heap.size) s.heap H locs → lv_has ls 4 [(3, .int v3_14), (2, .int v2_14), (0, .ref (ad 0)), (1, .int vx)] → W p l e (headSpec (wU yX12_gain cX12_gain 4 (some .int)) ({ frames := 2, cells := 0, slots := 0, locals := 44 })).room s m ([.ref (ad 0), .int vx] : List Value).toArray below meth c H locs 0 0 (MQ below (va_Qi (fun (z : Int32) (xi : Nat → Nat → Int32) => (z, xi) = F_qm_gain mu vx ∧ okR loM hiM xi ∧ (True) ∧ (∀ k f : Nat, Nat.testBit 510 (gpM k f) = true → xi k f = mu k f)) (fun xi t => va_P (dC, dI) vwCl (wR 21 ad (EM cs ad) xi) t.heap) (va_A (wR 21 ad (EM cs ad) mu) s.heap.size)) ([.ref (ad 0), .int vx] : List Value).toArray s 0 0 (va_A (wR 21 ad (EM cs ad) mu) s.heap.size)) (F0 m 14 ls []) := by
      intro n14
      induction n14 with
      | zero => intro v2_14 v3_14 nu14_ H locs ls hm; exact absurd hm (Nat.not_lt_zero _)
      | succ n14 ih14 =>
        intro v2_14 v3_14 nu14_ H locs ls hm_14 h_v3_14 ok hP kq14_0 hF hS hl
        rw [L_qm_gain_14_0] at hF
        refine lv_iload_n hx hb dX12_gain_14 rfl (lv_at hl 0 rfl) ?_
        refine lv_aload_n hx hb dX12_gain_15 rfl (lv_at hl 2 rfl) ?_
        refine va_get (D := (dC, dI)) (ci := 12) (v := .int (nu14_ 0 17)) (C := RX12) (T := TX12) (N := 46) hx hb hts inG12 hown hK hP 0 (gM_0 cs ad nu14_) rfl 17 (by decide) (hts _ (List.mem_cons_of_mem _ mw_5_58)) (fun _ h9 => h9) rfl dX12_gain_16 ?_
        refine lv_topi (fun y2 ey2 => ?_)
        have hF := mi_let hF ey2
        have by2 : y2.toInt = (nu14_ 0 17).toInt := congrArg Int32.toInt ey2
        have gy2 : 0 ≤ y2.toInt ∧ y2.toInt ≤ 40 := by rw [ey2]; exact rM_0_17 ok
        refine lv_icmp_ge (tgt := 88) hx hb dX12_gain_19 (by decide) (fun c_3 => ?_) (fun c_3 => ?_)
        · have hF := (if_pos c_3).symm.trans hF
          have c_3 : y2.toInt ≤ v3_14.toInt := il_le c_3
          refine lv_aload_n hx hb dX12_gain_88 rfl (lv_at hl 2 rfl) ?_
          refine lv_iload_n hx hb dX12_gain_89 rfl (lv_at hl 1 rfl) ?_
          refine lv_iconst (v := 1) hx hb dX12_gain_90 (by decide) ?_
          have hFc := fr_all (wR_D nu14_ hD) hS hA
          refine va_calli (va_runV (As := [.int v2_14, .int 1]) (rest := []) ⟨hx, hb, hml, hown, hts⟩ (sm_ask l dC dI cs ad nu14_ ok H hP ((wR_D nu14_ hD).weaken (fun _ _ _ _ => trivial)) v2_14 1) (cwV 2 hts (wU_V mw_5_213 mw_5_210 mw_5_212 mw_0_30 mw_1_13) rfl rfl rfl (by decide +kernel) ⟨Nat.le_of_ble_eq_true rfl, Nat.le_of_ble_eq_true rfl⟩) ⟨sz_c, va_recv hK hP (ci := 12) (q0 := 0) rfl (gM_0 cs ad nu14_), sz_m hK hz⟩ rfl rfl hl.1 rfl (lv_room (Nat.le_of_ble_eq_true rfl)) dX12_gain_91 ⟨Nat.zero_le _, Nat.zero_le _⟩) hS (fun q _ h => hFc q h) hFc (fun r4 xi4 t H4 locs ht hvm hw4 hB hz1 hk1 hS => ?_)
          have hP : va_P (dC, dI) vwCl (wR 21 ad (EM cs ad) xi4) H4 := by rw [← ht]; exact hB
          obtain ⟨hfe4, ok, hw4, hkp4_0⟩ := hw4
          have hF := mi_letp hF hfe4
          have kp5 : (∀ k f : Nat, Nat.testBit 510 (gpM k f) = true → xi4 k f = mu k f) := kp_t hkp4_0 (by decide) kq14_0
          have gr4 : r4.toInt = (1 : Int) := hw4
          exact W.iret (v := r4) hx hb hr (fun t ht hW => ⟨⟨r4, xi4, rfl, ⟨hF.trans hfz.symm, ok, trivial, kp5⟩, by first | (subst ht; exact hP) | (rw [ht]; exact hP) | (show va_P (dC, dI) vwCl (wR 21 ad (EM cs ad) xi4) t.heap; rw [ht]; exact hP)⟩, hS.F ht⟩) hS.2.2 dX12_gain_94
        · have hF := (if_neg c_3).symm.trans hF
          have c_3 : v3_14.toInt < y2.toInt := il_nle c_3
          refine lv_iload_n hx hb dX12_gain_22 rfl (lv_at hl 1 rfl) ?_
          refine lv_aload_n hx hb dX12_gain_23 rfl (lv_at hl 2 rfl) ?_
          refine va_get (D := (dC, dI)) (ci := 12) (v := .ref (ad 14)) (C := RX12) (T := TX12) (N := 46) hx hb hts inG12 hown hK hP 0 (gM_0 cs ad nu14_) rfl 24 (by decide) (hts _ (List.mem_cons_of_mem _ mw_5_65)) (fun _ h9 => h9) rfl dX12_gain_24 ?_
          refine lv_bipush (v := 12) hx hb dX12_gain_27 (by decide) ?_
          refine lv_iload_n hx hb dX12_gain_29 rfl (lv_at hl 0 rfl) ?_
          refine lv_imul hx hb dX12_gain_30 ?_
          refine lv_topi (fun t6 et6 => ?_)
          have hF := mi_let hF et6
          have at6 : t6.toInt = 12 * v3_14.toInt := by rw [et6]; exact tI_mul (rfl : (12 : Int32).toInt = 12) (rfl : v3_14.toInt = _) (by omega) (by omega)
          refine lv_iconst (v := 1) hx hb dX12_gain_31 (by decide) ?_
          refine lv_iadd hx hb dX12_gain_32 ?_
          refine lv_topi (fun t7 et7 => ?_)
          have hF := mi_let hF et7
          have at7 : t7.toInt = t6.toInt + 1 := by rw [et7]; exact va1 (by omega)
          refine va_iald hx hb hK hP 14 0 (gM_14 cs ad nu14_) rfl (show vp_in t7 480 from vi_of (by omega) (by omega)) dX12_gain_33 ?_
          have hc8 : ((t7 : Int32).toNatClampNeg : Int) = t7.toInt := tC_of (by omega)
          refine lv_topi (fun y9 ey9 => ?_)
          have hF := mi_let hF ey9
          have by9 : y9.toInt = (nu14_ 14 t7.toNatClampNeg).toInt := congrArg Int32.toInt ey9
          refine lv_iload_n hx hb dX12_gain_34 rfl (lv_at hl 3 rfl) ?_
          refine lv_icmp_ne (tgt := 52) hx hb dX12_gain_35 (by decide) (fun c_10 => ?_) (fun c_10 => ?_)
          · have hF := (if_neg c_10).symm.trans hF
            have c_10 : ¬ y9.toInt = vx.toInt := il_ne c_10
            refine lv_iconst (v := 0) hx hb dX12_gain_52 (by decide) ?_
            refine lv_iadd hx hb dX12_gain_53 ?_
            refine lv_topi (fun t11 et11 => ?_)
            have hF := mi_let hF et11
            refine lv_istore_n (lv' := [(2, .int t11), (3, .int v3_14), (0, .ref (ad 0)), (1, .int vx)]) hx hb dX12_gain_54 rfl hl (by decide) rfl (fun ls hl => ?_)
            refine lv_iload_n hx hb dX12_gain_55 rfl (lv_at hl 0 rfl) ?_
            refine lv_aload_n hx hb dX12_gain_56 rfl (lv_at hl 2 rfl) ?_
            refine lv_iload_n hx hb dX12_gain_57 rfl (lv_at hl 1 rfl) ?_
            refine cr_i (va_runV (As := [.int v3_14]) (rest := [.int t11]) ⟨hx, hb, hml, hown, hts⟩ (sm_buyerAt l dC dI cs ad nu14_ ok H hP v3_14 (by omega)) (cwV 1 hts (wU_V mw_7_12 mw_7_9 mw_7_11 mw_0_60 mw_1_13) rfl rfl rfl (by decide +kernel) ⟨Nat.le_of_ble_eq_true rfl, Nat.le_of_ble_eq_true rfl⟩) ⟨sz_c, va_recv hK hP (ci := 12) (q0 := 0) rfl (gM_0 cs ad nu14_), sz_m hK hz⟩ rfl rfl hl.1 rfl (lv_room (Nat.le_of_ble_eq_true rfl)) dX12_gain_58 ⟨Nat.zero_le _, Nat.zero_le _⟩) hS (fun r12 hw12 locs hS => ?_)
            obtain ⟨hfe12, hw12⟩ := hw12
            have hF := mi_let hF hfe12
            refine lv_iload_n hx hb dX12_gain_61 rfl (lv_at hl 3 rfl) ?_
            refine lv_icmp_ne (tgt := 79) hx hb dX12_gain_62 (by decide) (fun c_13 => ?_) (fun c_13 => ?_)
            · have hF := (if_neg c_13).symm.trans hF
              have c_13 : ¬ r12.toInt = vx.toInt := il_ne c_13
              refine lv_iconst (v := 0) hx hb dX12_gain_79 (by decide) ?_
              refine lv_isub hx hb dX12_gain_80 ?_
              refine lv_topi (fun t14 et14 => ?_)
              have hF := mi_let hF et14
              refine lv_istore_n (lv' := [(2, .int t14), (3, .int v3_14), (0, .ref (ad 0)), (1, .int vx)]) hx hb dX12_gain_81 rfl hl (by decide) rfl (fun ls hl => ?_)
              refine lv_iinc (v := (v3_14 + 1)) (lv' := [(3, .int (v3_14 + 1)), (2, .int t14), (0, .ref (ad 0)), (1, .int vx)]) hx hb dX12_gain_82 hl (k := 1) rfl rfl (by decide) rfl (fun ls hl => ?_)
              refine loc_gen (P := fun w9 => lv_has ls 4 [(3, .int w9), (2, .int t14), (0, .ref (ad 0)), (1, .int vx)]) (v3_14 + 1) hl (fun w15 hw15 hl => ?_)
              have hl : lv_has ls 4 [(3, .int w15), (2, .int t14), (0, .ref (ad 0)), (1, .int vx)] := hl
              have hF := mi_let hF hw15.symm
              have aw15 : w15.toInt = v3_14.toInt + 1 := by rw [← hw15]; first | exact va1 (Int.lt_of_le_of_lt h_v3_14.2 (by decide)) | exact va1 (by omega)
              refine lv_goto (tgt := 14) hx hb dX12_gain_85 (by decide) ?_
              exact ih14 (t14) (w15) nu14_ _ _ _ (by first | exact ms_up hm_14 aw15 h_v3_14.2 | exact ms_lt hm_14 (by omega) (by omega) | omega) (by first | exact rg_up aw15 h_v3_14 (by omega) | omega)  ok hP  kq14_0 hF hS (lv_sub hl [0, 1, 2, 3] rfl)
            · have hF := (if_pos c_13).symm.trans hF
              have c_13 : r12.toInt = vx.toInt := il_eq c_13
              refine lv_aload_n hx hb dX12_gain_65 rfl (lv_at hl 2 rfl) ?_
              refine va_get (D := (dC, dI)) (ci := 12) (v := .ref (ad 14)) (C := RX12) (T := TX12) (N := 46) hx hb hts inG12 hown hK hP 0 (gM_0 cs ad nu14_) rfl 24 (by decide) (hts _ (List.mem_cons_of_mem _ mw_5_65)) (fun _ h9 => h9) rfl dX12_gain_66 ?_
              refine lv_bipush (v := 12) hx hb dX12_gain_69 (by decide) ?_
              refine lv_iload_n hx hb dX12_gain_71 rfl (lv_at hl 1 rfl) ?_
              refine lv_imul hx hb dX12_gain_72 ?_
              refine lv_topi (fun t16 et16 => ?_)
              have hF := mi_let hF et16
              have at16 : t16.toInt = 12 * v3_14.toInt := by rw [et16]; exact tI_mul (rfl : (12 : Int32).toInt = 12) (rfl : v3_14.toInt = _) (by omega) (by omega)
              refine lv_iconst (v := 4) hx hb dX12_gain_73 (by decide) ?_
              refine lv_iadd hx hb dX12_gain_74 ?_
              refine lv_topi (fun t17 et17 => ?_)
              have hF := mi_let hF et17
              have at17 : t17.toInt = t16.toInt + 4 := by rw [et17]; exact tI_add (rfl : t16.toInt = _) (rfl : (4 : Int32).toInt = 4) (by omega) (by omega)
              refine va_iald hx hb hK hP 14 0 (gM_14 cs ad nu14_) rfl (show vp_in t17 480 from vi_of (by omega) (by omega)) dX12_gain_75 ?_
              have hc18 : ((t17 : Int32).toNatClampNeg : Int) = t17.toInt := tC_of (by omega)
              refine lv_topi (fun y19 ey19 => ?_)
              have hF := mi_let hF ey19
              have by19 : y19.toInt = (nu14_ 14 t17.toNatClampNeg).toInt := congrArg Int32.toInt ey19
              refine lv_goto (tgt := 80) hx hb dX12_gain_76 (by decide) ?_
              refine lv_isub hx hb dX12_gain_80 ?_
              refine lv_topi (fun t20 et20 => ?_)
              have hF := mi_let hF et20
              refine lv_istore_n (lv' := [(2, .int t20), (3, .int v3_14), (0, .ref (ad 0)), (1, .int vx)]) hx hb dX12_gain_81 rfl hl (by decide) rfl (fun ls hl => ?_)
              refine lv_iinc (v := (v3_14 + 1)) (lv' := [(3, .int (v3_14 + 1)), (2, .int t20), (0, .ref (ad 0)), (1, .int vx)]) hx hb dX12_gain_82 hl (k := 1) rfl rfl (by decide) rfl (fun ls hl => ?_)
              refine loc_gen (P := fun w9 => lv_has ls 4 [(3, .int w9), (2, .int t20), (0, .ref (ad 0)), (1, .int vx)]) (v3_14 + 1) hl (fun w21 hw21 hl => ?_)
              have hl : lv_has ls 4 [(3, .int w21), (2, .int t20), (0, .ref (ad 0)), (1, .int vx)] := hl
              have hF := mi_let hF hw21.symm
              have aw21 : w21.toInt = v3_14.toInt + 1 := by rw [← hw21]; first | exact va1 (Int.lt_of_le_of_lt h_v3_14.2 (by decide)) | exact va1 (by omega)
              refine lv_goto (tgt := 14) hx hb dX12_gain_85 (by decide) ?_
              exact ih14 (t20) (w21) nu14_ _ _ _ (by first | exact ms_up hm_14 aw21 h_v3_14.2 | exact ms_lt hm_14 (by omega) (by omega) | omega) (by first | exact rg_up aw21 h_v3_14 (by omega) | omega)  ok hP  kq14_0 hF hS (lv_sub hl [0, 1, 2, 3] rfl)
          · have hF := (if_pos c_10).symm.trans hF
            have c_10 : y9.toInt = vx.toInt := il_eq c_10
            refine lv_aload_n hx hb dX12_gain_38 rfl (lv_at hl 2 rfl) ?_
            refine va_get (D := (dC, dI)) (ci := 12) (v := .ref (ad 14)) (C := RX12) (T := TX12) (N := 46) hx hb hts inG12 hown hK hP 0 (gM_0 cs ad nu14_) rfl 24 (by decide) (hts _ (List.mem_cons_of_mem _ mw_5_65)) (fun _ h9 => h9) rfl dX12_gain_39 ?_
            refine lv_bipush (v := 12) hx hb dX12_gain_42 (by decide) ?_
            refine lv_iload_n hx hb dX12_gain_44 rfl (lv_at hl 0 rfl) ?_
            refine lv_imul hx hb dX12_gain_45 ?_
            refine lv_topi (fun t22 et22 => ?_)
            have hF := mi_let hF et22
            have at22 : t22.toInt = 12 * v3_14.toInt := by rw [et22]; exact tI_mul (rfl : (12 : Int32).toInt = 12) (rfl : v3_14.toInt = _) (by omega) (by omega)
            refine lv_iconst (v := 4) hx hb dX12_gain_46 (by decide) ?_
            refine lv_iadd hx hb dX12_gain_47 ?_
            refine lv_topi (fun t23 et23 => ?_)
            have hF := mi_let hF et23
            have at23 : t23.toInt = t22.toInt + 4 := by rw [et23]; exact tI_add (rfl : t22.toInt = _) (rfl : (4 : Int32).toInt = 4) (by omega) (by omega)
            refine va_iald hx hb hK hP 14 0 (gM_14 cs ad nu14_) rfl (show vp_in t23 480 from vi_of (by omega) (by omega)) dX12_gain_48 ?_
            have hc24 : ((t23 : Int32).toNatClampNeg : Int) = t23.toInt := tC_of (by omega)
            refine lv_topi (fun y25 ey25 => ?_)
            have hF := mi_let hF ey25
            have by25 : y25.toInt = (nu14_ 14 t23.toNatClampNeg).toInt := congrArg Int32.toInt ey25
            refine lv_goto (tgt := 53) hx hb dX12_gain_49 (by decide) ?_
            refine lv_iadd hx hb dX12_gain_53 ?_
            refine lv_topi (fun t26 et26 => ?_)
            have hF := mi_let hF et26
            refine lv_istore_n (lv' := [(2, .int t26), (3, .int v3_14), (0, .ref (ad 0)), (1, .int vx)]) hx hb dX12_gain_54 rfl hl (by decide) rfl (fun ls hl => ?_)
            refine lv_iload_n hx hb dX12_gain_55 rfl (lv_at hl 0 rfl) ?_
            refine lv_aload_n hx hb dX12_gain_56 rfl (lv_at hl 2 rfl) ?_
            refine lv_iload_n hx hb dX12_gain_57 rfl (lv_at hl 1 rfl) ?_
            refine cr_i (va_runV (As := [.int v3_14]) (rest := [.int t26]) ⟨hx, hb, hml, hown, hts⟩ (sm_buyerAt l dC dI cs ad nu14_ ok H hP v3_14 (by omega)) (cwV 1 hts (wU_V mw_7_12 mw_7_9 mw_7_11 mw_0_60 mw_1_13) rfl rfl rfl (by decide +kernel) ⟨Nat.le_of_ble_eq_true rfl, Nat.le_of_ble_eq_true rfl⟩) ⟨sz_c, va_recv hK hP (ci := 12) (q0 := 0) rfl (gM_0 cs ad nu14_), sz_m hK hz⟩ rfl rfl hl.1 rfl (lv_room (Nat.le_of_ble_eq_true rfl)) dX12_gain_58 ⟨Nat.zero_le _, Nat.zero_le _⟩) hS (fun r27 hw27 locs hS => ?_)
            obtain ⟨hfe27, hw27⟩ := hw27
            have hF := mi_let hF hfe27
            refine lv_iload_n hx hb dX12_gain_61 rfl (lv_at hl 3 rfl) ?_
            refine lv_icmp_ne (tgt := 79) hx hb dX12_gain_62 (by decide) (fun c_28 => ?_) (fun c_28 => ?_)
            · have hF := (if_neg c_28).symm.trans hF
              have c_28 : ¬ r27.toInt = vx.toInt := il_ne c_28
              refine lv_iconst (v := 0) hx hb dX12_gain_79 (by decide) ?_
              refine lv_isub hx hb dX12_gain_80 ?_
              refine lv_topi (fun t29 et29 => ?_)
              have hF := mi_let hF et29
              refine lv_istore_n (lv' := [(2, .int t29), (3, .int v3_14), (0, .ref (ad 0)), (1, .int vx)]) hx hb dX12_gain_81 rfl hl (by decide) rfl (fun ls hl => ?_)
              refine lv_iinc (v := (v3_14 + 1)) (lv' := [(3, .int (v3_14 + 1)), (2, .int t29), (0, .ref (ad 0)), (1, .int vx)]) hx hb dX12_gain_82 hl (k := 1) rfl rfl (by decide) rfl (fun ls hl => ?_)
              refine loc_gen (P := fun w9 => lv_has ls 4 [(3, .int w9), (2, .int t29), (0, .ref (ad 0)), (1, .int vx)]) (v3_14 + 1) hl (fun w30 hw30 hl => ?_)
              have hl : lv_has ls 4 [(3, .int w30), (2, .int t29), (0, .ref (ad 0)), (1, .int vx)] := hl
              have hF := mi_let hF hw30.symm
              have aw30 : w30.toInt = v3_14.toInt + 1 := by rw [← hw30]; first | exact va1 (Int.lt_of_le_of_lt h_v3_14.2 (by decide)) | exact va1 (by omega)
              refine lv_goto (tgt := 14) hx hb dX12_gain_85 (by decide) ?_
              exact ih14 (t29) (w30) nu14_ _ _ _ (by first | exact ms_up hm_14 aw30 h_v3_14.2 | exact ms_lt hm_14 (by omega) (by omega) | omega) (by first | exact rg_up aw30 h_v3_14 (by omega) | omega)  ok hP  kq14_0 hF hS (lv_sub hl [0, 1, 2, 3] rfl)
            · have hF := (if_pos c_28).symm.trans hF
              have c_28 : r27.toInt = vx.toInt := il_eq c_28
              refine lv_aload_n hx hb dX12_gain_65 rfl (lv_at hl 2 rfl) ?_
              refine va_get (D := (dC, dI)) (ci := 12) (v := .ref (ad 14)) (C := RX12) (T := TX12) (N := 46) hx hb hts inG12 hown hK hP 0 (gM_0 cs ad nu14_) rfl 24 (by decide) (hts _ (List.mem_cons_of_mem _ mw_5_65)) (fun _ h9 => h9) rfl dX12_gain_66 ?_
              refine lv_bipush (v := 12) hx hb dX12_gain_69 (by decide) ?_
              refine lv_iload_n hx hb dX12_gain_71 rfl (lv_at hl 1 rfl) ?_
              refine lv_imul hx hb dX12_gain_72 ?_
              refine lv_topi (fun t31 et31 => ?_)
              have hF := mi_let hF et31
              have at31 : t31.toInt = 12 * v3_14.toInt := by rw [et31]; exact tI_mul (rfl : (12 : Int32).toInt = 12) (rfl : v3_14.toInt = _) (by omega) (by omega)
              refine lv_iconst (v := 4) hx hb dX12_gain_73 (by decide) ?_
              refine lv_iadd hx hb dX12_gain_74 ?_
              refine lv_topi (fun t32 et32 => ?_)
              have hF := mi_let hF et32
              have at32 : t32.toInt = t31.toInt + 4 := by rw [et32]; exact tI_add (rfl : t31.toInt = _) (rfl : (4 : Int32).toInt = 4) (by omega) (by omega)
              refine va_iald hx hb hK hP 14 0 (gM_14 cs ad nu14_) rfl (show vp_in t32 480 from vi_of (by omega) (by omega)) dX12_gain_75 ?_
              have hc33 : ((t32 : Int32).toNatClampNeg : Int) = t32.toInt := tC_of (by omega)
              refine lv_topi (fun y34 ey34 => ?_)
              have hF := mi_let hF ey34
              have by34 : y34.toInt = (nu14_ 14 t32.toNatClampNeg).toInt := congrArg Int32.toInt ey34
              refine lv_goto (tgt := 80) hx hb dX12_gain_76 (by decide) ?_
              refine lv_isub hx hb dX12_gain_80 ?_
              refine lv_topi (fun t35 et35 => ?_)
              have hF := mi_let hF et35
              refine lv_istore_n (lv' := [(2, .int t35), (3, .int v3_14), (0, .ref (ad 0)), (1, .int vx)]) hx hb dX12_gain_81 rfl hl (by decide) rfl (fun ls hl => ?_)
              refine lv_iinc (v := (v3_14 + 1)) (lv' := [(3, .int (v3_14 + 1)), (2, .int t35), (0, .ref (ad 0)), (1, .int vx)]) hx hb dX12_gain_82 hl (k := 1) rfl rfl (by decide) rfl (fun ls hl => ?_)
              refine loc_gen (P := fun w9 => lv_has ls 4 [(3, .int w9), (2, .int t35), (0, .ref (ad 0)), (1, .int vx)]) (v3_14 + 1) hl (fun w36 hw36 hl => ?_)
              have hl : lv_has ls 4 [(3, .int w36), (2, .int t35), (0, .ref (ad 0)), (1, .int vx)] := hl
              have hF := mi_let hF hw36.symm
              have aw36 : w36.toInt = v3_14.toInt + 1 := by rw [← hw36]; first | exact va1 (Int.lt_of_le_of_lt h_v3_14.2 (by decide)) | exact va1 (by omega)
              refine lv_goto (tgt := 14) hx hb dX12_gain_85 (by decide) ?_
              exact ih14 (t35) (w36) nu14_ _ _ _ (by first | exact ms_up hm_14 aw36 h_v3_14.2 | exact ms_lt hm_14 (by omega) (by omega) | omega) (by first | exact rg_up aw36 h_v3_14 (by omega) | omega)  ok hP  kq14_0 hF hS (lv_sub hl [0, 1, 2, 3] rfl)
    exact loop14 43 (0) (0) mu _ _ _ (by have h80 : (0 : Int32).toInt = 0 := rfl; have h81 : (0 : Int32).toInt = 0 := rfl; omega) (by have h80 : (0 : Int32).toInt = 0 := rfl; exact ⟨by omega, by omega⟩)  ok hP  (fun _ _ _ => rfl) hF hS hl
  · have hF := (if_neg (fun h => absurd (hfe1.trans h) (by decide))).symm.trans hF
    have f1 : vx.toInt < 0 ∨ (mu 0 8).toInt ≤ vx.toInt := f1
    refine lv_if_ne (tgt := 10) hx hb dX12_gain_5 (by decide) (fun c => absurd (by decide) c) (fun _ => ?_)
    refine lv_iconst (v := (-1)) hx hb dX12_gain_8 (by decide) ?_
    exact W.iret (v := (-1)) hx hb hr (fun t ht hW => ⟨⟨(-1), mu, rfl, ⟨hF.trans hfz.symm, ok, trivial, (fun _ _ _ => rfl)⟩, by first | (subst ht; exact hP) | (rw [ht]; exact hP) | (show va_P (dC, dI) vwCl (wR 21 ad (EM cs ad) mu) t.heap; rw [ht]; exact hP)⟩, hS.F ht⟩) hS.2.2 dX12_gain_9
