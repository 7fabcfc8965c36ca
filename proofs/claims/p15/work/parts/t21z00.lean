set_option maxHeartbeats 4000000 in
set_option maxRecDepth 100000 in
/-- qm_block -/
theorem qm_block (l : Launch) (dC : Nat → ClassId) (dI : Nat → Nat → Nat) (cs : Nat → ClassId) (ad : Nat → Nat) (mu : Nat → Nat → Int32) (ok : okR loM hiM mu) (H : Heap) (hP : va_P (dC, dI) vwCl (wR 21 ad (EM cs ad) mu) H) (hD0 : va_D (fun _ => True) (wR 21 ad (EM cs ad) mu)) (vk : Int32) : Met l yX12_block (wU yX12_block cX12_block 6 (some .int)) ({ frames := 12, cells := 0, slots := 0, locals := 302 }) (va_Pc [.ref (ad 0), .int vk] (sz_P (dC, dI) vwCl (tyM cs) H)) (va_Qi (fun (z : Int32) (xi : Nat → Nat → Int32) => okR loM hiM xi ∧ (True) ∧ (∀ k f : Nat, Nat.testBit 510 (gpM k f) = true → xi k f = mu k f)) (fun xi t => va_P (dC, dI) vwCl (wR 21 ad (EM cs ad) xi) t.heap) (va_A (wR 21 ad (EM cs ad) mu) H.size)) 0 0 (va_A (wR 21 ad (EM cs ad) mu) H.size) := by
  refine Met.ofW (cc := cX12_block) (maxL := 6) (ret := (some .int)) (by decide) rfl ?_
  intro p e s m args below meth c s₁ B hml hv
  obtain ⟨rfl, hh, hK, hz⟩ := hv
  have hx := B.exec
  have hb := B.bytes
  have hr := B.returns
  have hts := atoms_spec (ws := (wU yX12_block cX12_block 6 (some .int))) B.pre
  have hown : s.vm.findClass RX12 = some m.cls := findClass_of_methodNamed B.named
  have hlocks := B.notSynchronized
  subst hh
  have hD := hD0.self (sz := s.heap.size)
  have hA : ∀ q : Nat, s.heap.size ≤ q → (va_A (wR 21 ad (EM cs ad) mu) s.heap.size) q := fun q h => Or.inr h
  have hS : va_S (va_A (wR 21 ad (EM cs ad) mu) s.heap.size) s.heap s.heap [] := va_S.rf
  have hl := lv_entry ([.ref (ad 0), .int vk]) (n := 6) (Nat.le_of_ble_eq_true rfl)
  rw [lg_entry_eq]
  generalize (lg_sl ([.ref (ad 0), .int vk]) ++ List.replicate (6 - (lg_sl ([.ref (ad 0), .int vk])).length) Slot.unset).toArray = ls at hl ⊢
  have hl : lv_has ls 6 [(0, .ref (ad 0)), (1, .int vk)] := hl
  refine lv_aload_n hx hb dX12_block_0 rfl (lv_at hl 0 rfl) ?_
  refine lv_iload_n hx hb dX12_block_1 rfl (lv_at hl 1 rfl) ?_
  have hFc := fr_all (wR_D mu hD) hS hA
  refine va_calli (va_runV (As := [.int vk]) (rest := []) ⟨hx, hb, hml, hown, hts⟩ (sm_askedRoutes l dC dI cs ad mu ok s.heap hP ((wR_D mu hD).weaken (fun _ _ _ _ => trivial)) vk) (cwV 1 hts (wU_V mw_6_170 mw_6_167 mw_6_169 mw_0_52 mw_1_13) rfl rfl rfl (by decide +kernel) ⟨Nat.le_of_ble_eq_true rfl, Nat.le_of_ble_eq_true rfl⟩) ⟨sz_c, va_recv hK hP (ci := 12) (q0 := 0) rfl (gM_0 cs ad mu), sz_m hK hz⟩ rfl rfl hl.1 rfl (lv_room (Nat.le_of_ble_eq_true rfl)) dX12_block_2 ⟨Nat.zero_le _, Nat.zero_le _⟩) hS (fun q _ h => hFc q h) hFc (fun r1 xi1 t H1 locs ht hvm hw1 hB hz1 hk1 hS => ?_)
  have hP : va_P (dC, dI) vwCl (wR 21 ad (EM cs ad) xi1) H1 := by rw [← ht]; exact hB
  rcases hw1 with ⟨rfl, ok, f1, hkp1_0⟩ | ⟨z1, ok, hkp1_0⟩
  · have kp2 : (∀ k f : Nat, Nat.testBit 510 (gpM k f) = true → xi1 k f = mu k f) := kp_t hkp1_0 (by decide) (fun _ _ _ => rfl)
    have f1 : 0 ≤ vk.toInt ∧ vk.toInt ≤ 3 ∧ ((xi1 0 33).toInt = 0 ∨ (xi1 0 35).toInt ≤ 7) := f1
    refine lv_istore_n (lv' := [(2, .int 0), (0, .ref (ad 0)), (1, .int vk)]) hx hb dX12_block_5 rfl hl (by decide) rfl (fun ls hl => ?_)
    refine lv_iload_n hx hb dX12_block_6 rfl (lv_at hl 0 rfl) ?_
    refine lv_if_ge (tgt := 12) hx hb dX12_block_7 (by decide) (fun _ => ?_) (fun c => absurd (by decide) c)
    refine lv_aload_n hx hb dX12_block_12 rfl (lv_at hl 1 rfl) ?_
    refine va_get (D := (dC, dI)) (ci := 12) (v := .int (xi1 0 33)) (C := RX12) (T := TX12) (N := 46) hx hb hts inG12 hown hK hP 0 (gM_0 cs ad xi1) rfl 33 (by decide) (hts _ (List.mem_cons_of_mem _ mw_5_74)) (fun _ h9 => h9) rfl dX12_block_13 ?_
    refine lv_topi (fun y4 ey4 => ?_)
    have by4 : y4.toInt = (xi1 0 33).toInt := congrArg Int32.toInt ey4
    refine lv_if_ne (tgt := 26) hx hb dX12_block_16 (by decide) (fun c_5 => ?_) (fun c_5 => ?_)
    · have c_5 : ¬ y4.toInt = 0 := il_ne c_5
      refine lv_aload_n hx hb dX12_block_26 rfl (lv_at hl 1 rfl) ?_
      refine va_get (D := (dC, dI)) (ci := 12) (v := .int (xi1 0 13)) (C := RX12) (T := TX12) (N := 46) hx hb hts inG12 hown hK hP 0 (gM_0 cs ad xi1) rfl 13 (by decide) (hts _ (List.mem_cons_of_mem _ mw_5_54)) (fun _ h9 => h9) rfl dX12_block_27 ?_
      refine lv_topi (fun y6 ey6 => ?_)
      have by6 : y6.toInt = (xi1 0 13).toInt := congrArg Int32.toInt ey6
      refine lv_istore_n (lv' := [(3, .int y6), (2, .int 0), (0, .ref (ad 0)), (1, .int vk)]) hx hb dX12_block_30 rfl hl (by decide) rfl (fun ls hl => ?_)
      have hyb7 : y6 = mu 0 13 := ey6.trans (kp2 0 13 (by decide))
      have kp8 : (∀ k f : Nat, Nat.testBit 446 (gpM k f) = true → xi1 k f = mu k f) := kp_sub (by decide) kp2
      refine lv_bipush (v := (-9)) hx hb dX12_block_31 (by decide) ?_
      refine lv_istore (lv' := [(4, .int (-9)), (3, .int y6), (2, .int 0), (0, .ref (ad 0)), (1, .int vk)]) hx hb dX12_block_33 hl (by decide) rfl (fun ls hl => ?_)
      refine lv_iconst (v := 1) hx hb dX12_block_35 (by decide) ?_
      refine lv_istore (lv' := [(5, .int 1), (4, .int (-9)), (3, .int y6), (2, .int 0), (0, .ref (ad 0)), (1, .int vk)]) hx hb dX12_block_36 hl (by decide) rfl (fun ls hl => ?_)
      have loop38 : ∀ (n38 : Nat) (v4_38 : Int32) (v5_38 : Int32) (nu38_ : Nat → Nat → Int32) (H : Heap) (locs : List Loc) (ls : Array Slot), (4096 + 1 - v5_38.toInt).toNat < n38 → (0 ≤ v5_38.toInt ∧ v5_38.toInt ≤ 4096) → okR loM hiM nu38_ → va_P (dC, dI) vwCl (wR 21 ad (EM cs ad) nu38_) H → (∀ k f : Nat, Nat.testBit 446 (gpM k f) = true → nu38_ k f = mu k f) → va_S (va_A (wR 21 ad (EM cs ad) mu) s.heap.size) s.heap H locs → lv_has ls 6 [(5, .int v5_38), (4, .int v4_38), (3, .int y6), (2, .int 0), (0, .ref (ad 0)), (1, .int vk)] → W p l e (headSpec (wU yX12_block cX12_block 6 (some .int)) ({ frames := 12, cells := 0, slots := 0, locals := 302 })).room s m ([.ref (ad 0), .int vk] : List Value).toArray below meth c H locs 0 0 (MQ below (va_Qi (fun (z : Int32) (xi : Nat → Nat → Int32) => okR loM hiM xi ∧ (True) ∧ (∀ k f : Nat, Nat.testBit 510 (gpM k f) = true → xi k f = mu k f)) (fun xi t => va_P (dC, dI) vwCl (wR 21 ad (EM cs ad) xi) t.heap) (va_A (wR 21 ad (EM cs ad) mu) s.heap.size)) ([.ref (ad 0), .int vk] : List Value).toArray s 0 0 (va_A (wR 21 ad (EM cs ad) mu) s.heap.size)) (F0 m 38 ls []) := by
        intro n38
        induction n38 with
        | zero => intro v4_38 v5_38 nu38_ H locs ls hm; exact absurd hm (Nat.not_lt_zero _)
        | succ n38 ih38 =>
          intro v4_38 v5_38 nu38_ H locs ls hm h_v5_38 ok hP kq38_0 hS hl
          refine lv_iload hx hb dX12_block_38 (lv_at hl 0 rfl) ?_
          refine lv_iconst (v := 1) hx hb dX12_block_40 (by decide) ?_
          refine lv_aload_n hx hb dX12_block_41 rfl (lv_at hl 4 rfl) ?_
          refine va_get (D := (dC, dI)) (ci := 12) (v := .int (nu38_ 0 11)) (C := RX12) (T := TX12) (N := 46) hx hb hts inG12 hown hK hP 0 (gM_0 cs ad nu38_) rfl 11 (by decide) (hts _ (List.mem_cons_of_mem _ mw_5_52)) (fun _ h9 => h9) rfl dX12_block_42 ?_
          refine lv_topi (fun y9 ey9 => ?_)
          have by9 : y9.toInt = (nu38_ 0 11).toInt := congrArg Int32.toInt ey9
          have gy9 : 0 ≤ y9.toInt ∧ y9.toInt ≤ 12 := by rw [ey9]; exact rM_0_11 ok
          refine lv_ishl hx hb dX12_block_45 ?_
          refine lv_topi (fun t10 et10 => ?_)
          have gt10 : 1 ≤ t10.toInt ∧ t10.toInt ≤ 4096 := by rw [et10]; exact shl12 ⟨by omega, by omega⟩
          refine lv_icmp_ge (tgt := 111) hx hb dX12_block_46 (by decide) (fun c_11 => ?_) (fun c_11 => ?_)
          · have c_11 : t10.toInt ≤ v5_38.toInt := il_le c_11
            refine lv_aload_n hx hb dX12_block_111 rfl (lv_at hl 4 rfl) ?_
            refine lv_iload_n hx hb dX12_block_112 rfl (lv_at hl 2 rfl) ?_
            refine va_put (D := (dC, dI)) (ci := 12) (v := .int y6) (ty := .int) (C := RX12) (T := TX12) (N := 46) hx hb hts inG12 tyX12 tyX12_ok nmX12 hown hK hP (wR_D nu38_ hD) hS 0 (gM_0 cs ad nu38_) rfl 13 (by decide) (hts _ (List.mem_cons_of_mem _ mw_5_54)) (fun _ h9 => h9) rfl (by decide +kernel) rfl rfl (Nat.le_of_ble_eq_true rfl) dX12_block_113 (fun H locs hP _ hS => ?_)
            simp only [List.set_cons_succ, List.set_cons_zero] at hP
            refine wr_gen (upd (nu38_ 0) 13 y6) hP ((hM_0_13 cs ad _ _)) (fun nu12 hn12 hP => ?_)
            have ok := tM_0_13 ok hn12
            have ez13 : y9 = nu12 0 11 := ey9.trans (up_f hn12 (by decide)).symm
            have kp14 : (∀ k f : Nat, Nat.testBit 446 (gpM k f) = true → nu12 k f = mu k f) := kp_f hn12 (by decide) kq38_0
            have kp15 : (∀ k f : Nat, Nat.testBit 510 (gpM k f) = true → nu12 k f = mu k f) := kp_fix hn12 hyb7 kp14
            have ez16 : y6 = nu12 0 13 := up_v hn12
            refine lv_aload_n hx hb dX12_block_116 rfl (lv_at hl 4 rfl) ?_
            refine lv_iload hx hb dX12_block_117 (lv_at hl 1 rfl) ?_
            refine lv_iload hx hb dX12_block_119 (lv_at hl 1 rfl) ?_
            refine cr_i (va_runS (As := [.int v4_38]) (rest := [.int v4_38, .ref (ad 0)]) ⟨hx, hb, hml, hown, hts⟩ (sm_sizeOf l dC dI (tyM cs) H v4_38) (va_cwS 1 hts (wU_S mw_6_62 mw_6_60 mw_6_61 mw_1_13) rfl rfl rfl (by decide +kernel) ⟨Nat.le_of_ble_eq_true rfl, Nat.le_of_ble_eq_true rfl⟩) ⟨sz_c, sz_m hK hz⟩ rfl rfl hl.1 rfl (lv_room (Nat.le_of_ble_eq_true rfl)) dX12_block_121 ⟨Nat.zero_le _, Nat.zero_le _⟩) hS (fun r17 hw17 locs hS => ?_)
            obtain ⟨hfe17, hw17⟩ := hw17
            have gr17 : r17 = so v4_38 ∧ (0 ≤ v4_38.toInt → v4_38.toInt ≤ 127 → r17.toInt = (pp v4_38.toNatClampNeg : Int) ∧ pp v4_38.toNatClampNeg ≤ 7 ∧ (v4_38.toInt = 0 ∨ 1 ≤ pp v4_38.toNatClampNeg)) := hw17
            have hFc := fr_all (wR_D nu12 hD) hS hA
            refine va_calli (va_runV (As := [.int v4_38, .int r17]) (rest := []) ⟨hx, hb, hml, hown, hts⟩ (sm_ask l dC dI cs ad nu12 ok H hP ((wR_D nu12 hD).weaken (fun _ _ _ _ => trivial)) v4_38 r17) (cwV 2 hts (wU_V mw_5_213 mw_5_210 mw_5_212 mw_0_30 mw_1_13) rfl rfl rfl (by decide +kernel) ⟨Nat.le_of_ble_eq_true rfl, Nat.le_of_ble_eq_true rfl⟩) ⟨sz_c, va_recv hK hP (ci := 12) (q0 := 0) rfl (gM_0 cs ad nu12), sz_m hK hz⟩ rfl rfl hl.1 rfl (lv_room (Nat.le_of_ble_eq_true rfl)) dX12_block_124 ⟨Nat.zero_le _, Nat.zero_le _⟩) hS (fun q _ h => hFc q h) hFc (fun r18 xi18 t H18 locs ht hvm hw18 hB hz1 hk1 hS => ?_)
            have hP : va_P (dC, dI) vwCl (wR 21 ad (EM cs ad) xi18) H18 := by rw [← ht]; exact hB
            obtain ⟨hfe18, ok, hw18, hkp18_0⟩ := hw18
            have kp19 : (∀ k f : Nat, Nat.testBit 510 (gpM k f) = true → xi18 k f = mu k f) := kp_t hkp18_0 (by decide) kp15
            have gr18 : r18.toInt = r17.toInt := hw18
            exact W.iret (v := r18) hx hb hr (fun t ht hW => ⟨⟨r18, xi18, rfl, ⟨ok, trivial, kp19⟩, by first | (subst ht; exact hP) | (rw [ht]; exact hP) | (show va_P (dC, dI) vwCl (wR 21 ad (EM cs ad) xi18) t.heap; rw [ht]; exact hP)⟩, hS.F ht⟩) hS.2.2 dX12_block_127
          · have c_11 : v5_38.toInt < t10.toInt := il_nle c_11
            refine lv_iload hx hb dX12_block_49 (lv_at hl 0 rfl) ?_
            refine lv_iload_n hx hb dX12_block_51 rfl (lv_at hl 2 rfl) ?_
            refine lv_iand hx hb dX12_block_52 ?_
            refine lv_topi (fun t20 et20 => ?_)
            refine lv_if_ne (tgt := 105) hx hb dX12_block_53 (by decide) (fun c_21 => ?_) (fun c_21 => ?_)
            · have c_21 : ¬ t20.toInt = 0 := il_ne c_21
              refine lv_iinc (v := (v5_38 + 1)) (lv' := [(5, .int (v5_38 + 1)), (4, .int v4_38), (3, .int y6), (2, .int 0), (0, .ref (ad 0)), (1, .int vk)]) hx hb dX12_block_105 hl (k := 0) rfl rfl (by decide) rfl (fun ls hl => ?_)
              refine loc_gen (P := fun w9 => lv_has ls 6 [(5, .int w9), (4, .int v4_38), (3, .int y6), (2, .int 0), (0, .ref (ad 0)), (1, .int vk)]) (v5_38 + 1) hl (fun w22 hw22 hl => ?_)
              have hl : lv_has ls 6 [(5, .int w22), (4, .int v4_38), (3, .int y6), (2, .int 0), (0, .ref (ad 0)), (1, .int vk)] := hl
              have aw22 : w22.toInt = v5_38.toInt + 1 := by rw [← hw22]; exact tI_add (rfl : v5_38.toInt = _) (rfl : (1 : Int32).toInt = 1) (by omega) (by omega)
              refine lv_goto (tgt := 38) hx hb dX12_block_108 (by decide) ?_
              exact ih38 (v4_38) (w22) nu38_ _ _ _ (by omega) (by exact ⟨by omega, by omega⟩)  ok hP  kq38_0 hS (lv_sub hl [0, 1, 2, 3, 4, 5] rfl)
            · have c_21 : t20.toInt = 0 := il_eq c_21
              refine lv_iload hx hb dX12_block_56 (lv_at hl 1 rfl) ?_
              refine lv_bipush (v := (-9)) hx hb dX12_block_58 (by decide) ?_
              refine lv_icmp_eq (tgt := 76) hx hb dX12_block_60 (by decide) (fun c_23 => ?_) (fun c_23 => ?_)
              · have c_23 : v4_38.toInt = -9 := il_eq c_23
                refine lv_aload_n hx hb dX12_block_76 rfl (lv_at hl 4 rfl) ?_
                refine lv_iload_n hx hb dX12_block_77 rfl (lv_at hl 2 rfl) ?_
                refine lv_iload hx hb dX12_block_78 (lv_at hl 0 rfl) ?_
                refine lv_ior hx hb dX12_block_80 ?_
                refine lv_topi (fun t24 et24 => ?_)
                refine va_put (D := (dC, dI)) (ci := 12) (v := .int t24) (ty := .int) (C := RX12) (T := TX12) (N := 46) hx hb hts inG12 tyX12 tyX12_ok nmX12 hown hK hP (wR_D nu38_ hD) hS 0 (gM_0 cs ad nu38_) rfl 13 (by decide) (hts _ (List.mem_cons_of_mem _ mw_5_54)) (fun _ h9 => h9) rfl (by decide +kernel) rfl rfl (Nat.le_of_ble_eq_true rfl) dX12_block_81 (fun H locs hP _ hS => ?_)
                simp only [List.set_cons_succ, List.set_cons_zero] at hP
                refine wr_gen (upd (nu38_ 0) 13 t24) hP ((hM_0_13 cs ad _ _)) (fun nu25 hn25 hP => ?_)
                have ok := tM_0_13 ok hn25
                have ez26 : y9 = nu25 0 11 := ey9.trans (up_f hn25 (by decide)).symm
                have kp27 : (∀ k f : Nat, Nat.testBit 446 (gpM k f) = true → nu25 k f = mu k f) := kp_f hn25 (by decide) kq38_0
                have ez28 : t24 = nu25 0 13 := up_v hn25
                refine lv_aload_n hx hb dX12_block_84 rfl (lv_at hl 4 rfl) ?_
                refine lv_iload_n hx hb dX12_block_85 rfl (lv_at hl 5 rfl) ?_
                have hFc := fr_all (wR_D nu25 hD) hS hA
                refine va_callv (va_runV (As := [.int vk]) (rest := []) ⟨hx, hb, hml, hown, hts⟩ (sm_routesOf l dC dI cs ad nu25 ok H hP ((wR_D nu25 hD).weaken (fun _ _ _ _ => trivial)) vk (by omega)) (cwV 1 hts (wU_V mw_6_174 mw_6_171 mw_6_173 mw_0_53 mw_1_13) rfl rfl rfl (by decide +kernel) ⟨Nat.le_of_ble_eq_true rfl, Nat.le_of_ble_eq_true rfl⟩) ⟨sz_c, va_recv hK hP (ci := 12) (q0 := 0) rfl (gM_0 cs ad nu25), sz_m hK hz⟩ rfl rfl hl.1 rfl (lv_room (Nat.le_of_ble_eq_true rfl)) dX12_block_86 ⟨Nat.zero_le _, Nat.zero_le _⟩) hS (fun q _ h => hFc q h) hFc (fun xi29 t H29 locs ht hvm hw29 hB hz1 hk1 hS => ?_)
                have hP : va_P (dC, dI) vwCl (wR 21 ad (EM cs ad) xi29) H29 := by rw [← ht]; exact hB
                obtain ⟨ok, hw29, hkp29_0⟩ := hw29
                have kp30 : (∀ k f : Nat, Nat.testBit 446 (gpM k f) = true → xi29 k f = mu k f) := kp_t hkp29_0 (by decide) kp27
                have gr29 : ((xi29 0 39).toInt = -9 ∨ (0 ≤ (xi29 0 39).toInt ∧ (xi29 0 39).toInt ≤ 3)) ∧ ((xi29 0 33).toInt = 0 ∨ (xi29 0 35).toInt ≤ 7) := hw29
                refine lv_aload_n hx hb dX12_block_89 rfl (lv_at hl 4 rfl) ?_
                refine va_get (D := (dC, dI)) (ci := 12) (v := .int (xi29 0 33)) (C := RX12) (T := TX12) (N := 46) hx hb hts inG12 hown hK hP 0 (gM_0 cs ad xi29) rfl 33 (by decide) (hts _ (List.mem_cons_of_mem _ mw_5_74)) (fun _ h9 => h9) rfl dX12_block_90 ?_
                refine lv_topi (fun y31 ey31 => ?_)
                have by31 : y31.toInt = (xi29 0 33).toInt := congrArg Int32.toInt ey31
                refine lv_if_ne (tgt := 101) hx hb dX12_block_93 (by decide) (fun c_32 => ?_) (fun c_32 => ?_)
                · have c_32 : ¬ y31.toInt = 0 := il_ne c_32
                  refine lv_iload hx hb dX12_block_101 (lv_at hl 1 rfl) ?_
                  refine lv_istore (lv' := [(4, .int v4_38), (5, .int v5_38), (3, .int y6), (2, .int 0), (0, .ref (ad 0)), (1, .int vk)]) hx hb dX12_block_103 hl (by decide) rfl (fun ls hl => ?_)
                  refine lv_iinc (v := (v5_38 + 1)) (lv' := [(5, .int (v5_38 + 1)), (4, .int v4_38), (3, .int y6), (2, .int 0), (0, .ref (ad 0)), (1, .int vk)]) hx hb dX12_block_105 hl (k := 1) rfl rfl (by decide) rfl (fun ls hl => ?_)
                  refine loc_gen (P := fun w9 => lv_has ls 6 [(5, .int w9), (4, .int v4_38), (3, .int y6), (2, .int 0), (0, .ref (ad 0)), (1, .int vk)]) (v5_38 + 1) hl (fun w33 hw33 hl => ?_)
                  have hl : lv_has ls 6 [(5, .int w33), (4, .int v4_38), (3, .int y6), (2, .int 0), (0, .ref (ad 0)), (1, .int vk)] := hl
                  have aw33 : w33.toInt = v5_38.toInt + 1 := by rw [← hw33]; exact tI_add (rfl : v5_38.toInt = _) (rfl : (1 : Int32).toInt = 1) (by omega) (by omega)
                  refine lv_goto (tgt := 38) hx hb dX12_block_108 (by decide) ?_
                  exact ih38 (v4_38) (w33) xi29 _ _ _ (by omega) (by exact ⟨by omega, by omega⟩)  ok hP  kp30 hS (lv_sub hl [0, 1, 2, 3, 4, 5] rfl)
                · have c_32 : y31.toInt = 0 := il_eq c_32
                  refine lv_iload hx hb dX12_block_96 (lv_at hl 0 rfl) ?_
                  refine lv_goto (tgt := 103) hx hb dX12_block_98 (by decide) ?_
                  refine lv_istore (lv' := [(4, .int v5_38), (5, .int v5_38), (3, .int y6), (2, .int 0), (0, .ref (ad 0)), (1, .int vk)]) hx hb dX12_block_103 hl (by decide) rfl (fun ls hl => ?_)
                  refine lv_iinc (v := (v5_38 + 1)) (lv' := [(5, .int (v5_38 + 1)), (4, .int v5_38), (3, .int y6), (2, .int 0), (0, .ref (ad 0)), (1, .int vk)]) hx hb dX12_block_105 hl (k := 1) rfl rfl (by decide) rfl (fun ls hl => ?_)
                  refine loc_gen (P := fun w9 => lv_has ls 6 [(5, .int w9), (4, .int v5_38), (3, .int y6), (2, .int 0), (0, .ref (ad 0)), (1, .int vk)]) (v5_38 + 1) hl (fun w34 hw34 hl => ?_)
                  have hl : lv_has ls 6 [(5, .int w34), (4, .int v5_38), (3, .int y6), (2, .int 0), (0, .ref (ad 0)), (1, .int vk)] := hl
                  have aw34 : w34.toInt = v5_38.toInt + 1 := by rw [← hw34]; exact tI_add (rfl : v5_38.toInt = _) (rfl : (1 : Int32).toInt = 1) (by omega) (by omega)
                  refine lv_goto (tgt := 38) hx hb dX12_block_108 (by decide) ?_
                  exact ih38 (v5_38) (w34) xi29 _ _ _ (by omega) (by exact ⟨by omega, by omega⟩)  ok hP  kp30 hS (lv_sub hl [0, 1, 2, 3, 4, 5] rfl)
              · have c_23 : ¬ v4_38.toInt = -9 := il_ne c_23
                refine lv_iload hx hb dX12_block_63 (lv_at hl 0 rfl) ?_
                refine cr_i (va_runS (As := [.int v5_38]) (rest := []) ⟨hx, hb, hml, hown, hts⟩ (sm_sizeOf l dC dI (tyM cs) H v5_38) (va_cwS 1 hts (wU_S mw_6_62 mw_6_60 mw_6_61 mw_1_13) rfl rfl rfl (by decide +kernel) ⟨Nat.le_of_ble_eq_true rfl, Nat.le_of_ble_eq_true rfl⟩) ⟨sz_c, sz_m hK hz⟩ rfl rfl hl.1 rfl (lv_room (Nat.le_of_ble_eq_true rfl)) dX12_block_65 ⟨Nat.zero_le _, Nat.zero_le _⟩) hS (fun r35 hw35 locs hS => ?_)
                obtain ⟨hfe35, hw35⟩ := hw35
                have gr35 : r35 = so v5_38 ∧ (0 ≤ v5_38.toInt → v5_38.toInt ≤ 127 → r35.toInt = (pp v5_38.toNatClampNeg : Int) ∧ pp v5_38.toNatClampNeg ≤ 7 ∧ (v5_38.toInt = 0 ∨ 1 ≤ pp v5_38.toNatClampNeg)) := hw35
                refine lv_iload hx hb dX12_block_68 (lv_at hl 1 rfl) ?_
                refine cr_i (va_runS (As := [.int v4_38]) (rest := [.int r35]) ⟨hx, hb, hml, hown, hts⟩ (sm_sizeOf l dC dI (tyM cs) H v4_38) (va_cwS 1 hts (wU_S mw_6_62 mw_6_60 mw_6_61 mw_1_13) rfl rfl rfl (by decide +kernel) ⟨Nat.le_of_ble_eq_true rfl, Nat.le_of_ble_eq_true rfl⟩) ⟨sz_c, sz_m hK hz⟩ rfl rfl hl.1 rfl (lv_room (Nat.le_of_ble_eq_true rfl)) dX12_block_70 ⟨Nat.zero_le _, Nat.zero_le _⟩) hS (fun r36 hw36 locs hS => ?_)
                obtain ⟨hfe36, hw36⟩ := hw36
                have gr36 : r36 = so v4_38 ∧ (0 ≤ v4_38.toInt → v4_38.toInt ≤ 127 → r36.toInt = (pp v4_38.toNatClampNeg : Int) ∧ pp v4_38.toNatClampNeg ≤ 7 ∧ (v4_38.toInt = 0 ∨ 1 ≤ pp v4_38.toNatClampNeg)) := hw36
                refine lv_icmp_ge (tgt := 105) hx hb dX12_block_73 (by decide) (fun c_37 => ?_) (fun c_37 => ?_)
                · have c_37 : r36.toInt ≤ r35.toInt := il_le c_37
                  refine lv_iinc (v := (v5_38 + 1)) (lv' := [(5, .int (v5_38 + 1)), (4, .int v4_38), (3, .int y6), (2, .int 0), (0, .ref (ad 0)), (1, .int vk)]) hx hb dX12_block_105 hl (k := 0) rfl rfl (by decide) rfl (fun ls hl => ?_)
                  refine loc_gen (P := fun w9 => lv_has ls 6 [(5, .int w9), (4, .int v4_38), (3, .int y6), (2, .int 0), (0, .ref (ad 0)), (1, .int vk)]) (v5_38 + 1) hl (fun w38 hw38 hl => ?_)
                  have hl : lv_has ls 6 [(5, .int w38), (4, .int v4_38), (3, .int y6), (2, .int 0), (0, .ref (ad 0)), (1, .int vk)] := hl
                  have aw38 : w38.toInt = v5_38.toInt + 1 := by rw [← hw38]; exact tI_add (rfl : v5_38.toInt = _) (rfl : (1 : Int32).toInt = 1) (by omega) (by omega)
                  refine lv_goto (tgt := 38) hx hb dX12_block_108 (by decide) ?_
                  exact ih38 (v4_38) (w38) nu38_ _ _ _ (by omega) (by exact ⟨by omega, by omega⟩)  ok hP  kq38_0 hS (lv_sub hl [0, 1, 2, 3, 4, 5] rfl)
                · have c_37 : r35.toInt < r36.toInt := il_nle c_37
                  refine lv_aload_n hx hb dX12_block_76 rfl (lv_at hl 4 rfl) ?_
                  refine lv_iload_n hx hb dX12_block_77 rfl (lv_at hl 2 rfl) ?_
                  refine lv_iload hx hb dX12_block_78 (lv_at hl 0 rfl) ?_
                  refine lv_ior hx hb dX12_block_80 ?_
                  refine lv_topi (fun t39 et39 => ?_)
                  refine va_put (D := (dC, dI)) (ci := 12) (v := .int t39) (ty := .int) (C := RX12) (T := TX12) (N := 46) hx hb hts inG12 tyX12 tyX12_ok nmX12 hown hK hP (wR_D nu38_ hD) hS 0 (gM_0 cs ad nu38_) rfl 13 (by decide) (hts _ (List.mem_cons_of_mem _ mw_5_54)) (fun _ h9 => h9) rfl (by decide +kernel) rfl rfl (Nat.le_of_ble_eq_true rfl) dX12_block_81 (fun H locs hP _ hS => ?_)
                  simp only [List.set_cons_succ, List.set_cons_zero] at hP
                  refine wr_gen (upd (nu38_ 0) 13 t39) hP ((hM_0_13 cs ad _ _)) (fun nu40 hn40 hP => ?_)
                  have ok := tM_0_13 ok hn40
                  have ez41 : y9 = nu40 0 11 := ey9.trans (up_f hn40 (by decide)).symm
                  have kp42 : (∀ k f : Nat, Nat.testBit 446 (gpM k f) = true → nu40 k f = mu k f) := kp_f hn40 (by decide) kq38_0
                  have ez43 : t39 = nu40 0 13 := up_v hn40
                  refine lv_aload_n hx hb dX12_block_84 rfl (lv_at hl 4 rfl) ?_
                  refine lv_iload_n hx hb dX12_block_85 rfl (lv_at hl 5 rfl) ?_
                  have hFc := fr_all (wR_D nu40 hD) hS hA
                  refine va_callv (va_runV (As := [.int vk]) (rest := []) ⟨hx, hb, hml, hown, hts⟩ (sm_routesOf l dC dI cs ad nu40 ok H hP ((wR_D nu40 hD).weaken (fun _ _ _ _ => trivial)) vk (by omega)) (cwV 1 hts (wU_V mw_6_174 mw_6_171 mw_6_173 mw_0_53 mw_1_13) rfl rfl rfl (by decide +kernel) ⟨Nat.le_of_ble_eq_true rfl, Nat.le_of_ble_eq_true rfl⟩) ⟨sz_c, va_recv hK hP (ci := 12) (q0 := 0) rfl (gM_0 cs ad nu40), sz_m hK hz⟩ rfl rfl hl.1 rfl (lv_room (Nat.le_of_ble_eq_true rfl)) dX12_block_86 ⟨Nat.zero_le _, Nat.zero_le _⟩) hS (fun q _ h => hFc q h) hFc (fun xi44 t H44 locs ht hvm hw44 hB hz1 hk1 hS => ?_)
                  have hP : va_P (dC, dI) vwCl (wR 21 ad (EM cs ad) xi44) H44 := by rw [← ht]; exact hB
                  obtain ⟨ok, hw44, hkp44_0⟩ := hw44
                  have kp45 : (∀ k f : Nat, Nat.testBit 446 (gpM k f) = true → xi44 k f = mu k f) := kp_t hkp44_0 (by decide) kp42
                  have gr44 : ((xi44 0 39).toInt = -9 ∨ (0 ≤ (xi44 0 39).toInt ∧ (xi44 0 39).toInt ≤ 3)) ∧ ((xi44 0 33).toInt = 0 ∨ (xi44 0 35).toInt ≤ 7) := hw44
                  refine lv_aload_n hx hb dX12_block_89 rfl (lv_at hl 4 rfl) ?_
                  refine va_get (D := (dC, dI)) (ci := 12) (v := .int (xi44 0 33)) (C := RX12) (T := TX12) (N := 46) hx hb hts inG12 hown hK hP 0 (gM_0 cs ad xi44) rfl 33 (by decide) (hts _ (List.mem_cons_of_mem _ mw_5_74)) (fun _ h9 => h9) rfl dX12_block_90 ?_
                  refine lv_topi (fun y46 ey46 => ?_)
                  have by46 : y46.toInt = (xi44 0 33).toInt := congrArg Int32.toInt ey46
                  refine lv_if_ne (tgt := 101) hx hb dX12_block_93 (by decide) (fun c_47 => ?_) (fun c_47 => ?_)
                  · have c_47 : ¬ y46.toInt = 0 := il_ne c_47
                    refine lv_iload hx hb dX12_block_101 (lv_at hl 1 rfl) ?_
                    refine lv_istore (lv' := [(4, .int v4_38), (5, .int v5_38), (3, .int y6), (2, .int 0), (0, .ref (ad 0)), (1, .int vk)]) hx hb dX12_block_103 hl (by decide) rfl (fun ls hl => ?_)
                    refine lv_iinc (v := (v5_38 + 1)) (lv' := [(5, .int (v5_38 + 1)), (4, .int v4_38), (3, .int y6), (2, .int 0), (0, .ref (ad 0)), (1, .int vk)]) hx hb dX12_block_105 hl (k := 1) rfl rfl (by decide) rfl (fun ls hl => ?_)
                    refine loc_gen (P := fun w9 => lv_has ls 6 [(5, .int w9), (4, .int v4_38), (3, .int y6), (2, .int 0), (0, .ref (ad 0)), (1, .int vk)]) (v5_38 + 1) hl (fun w48 hw48 hl => ?_)
                    have hl : lv_has ls 6 [(5, .int w48), (4, .int v4_38), (3, .int y6), (2, .int 0), (0, .ref (ad 0)), (1, .int vk)] := hl
                    have aw48 : w48.toInt = v5_38.toInt + 1 := by rw [← hw48]; exact tI_add (rfl : v5_38.toInt = _) (rfl : (1 : Int32).toInt = 1) (by omega) (by omega)
                    refine lv_goto (tgt := 38) hx hb dX12_block_108 (by decide) ?_
                    exact ih38 (v4_38) (w48) xi44 _ _ _ (by omega) (by exact ⟨by omega, by omega⟩)  ok hP  kp45 hS (lv_sub hl [0, 1, 2, 3, 4, 5] rfl)
                  · have c_47 : y46.toInt = 0 := il_eq c_47
                    refine lv_iload hx hb dX12_block_96 (lv_at hl 0 rfl) ?_
                    refine lv_goto (tgt := 103) hx hb dX12_block_98 (by decide) ?_
                    refine lv_istore (lv' := [(4, .int v5_38), (5, .int v5_38), (3, .int y6), (2, .int 0), (0, .ref (ad 0)), (1, .int vk)]) hx hb dX12_block_103 hl (by decide) rfl (fun ls hl => ?_)
                    refine lv_iinc (v := (v5_38 + 1)) (lv' := [(5, .int (v5_38 + 1)), (4, .int v5_38), (3, .int y6), (2, .int 0), (0, .ref (ad 0)), (1, .int vk)]) hx hb dX12_block_105 hl (k := 1) rfl rfl (by decide) rfl (fun ls hl => ?_)
                    refine loc_gen (P := fun w9 => lv_has ls 6 [(5, .int w9), (4, .int v5_38), (3, .int y6), (2, .int 0), (0, .ref (ad 0)), (1, .int vk)]) (v5_38 + 1) hl (fun w49 hw49 hl => ?_)
                    have hl : lv_has ls 6 [(5, .int w49), (4, .int v5_38), (3, .int y6), (2, .int 0), (0, .ref (ad 0)), (1, .int vk)] := hl
                    have aw49 : w49.toInt = v5_38.toInt + 1 := by rw [← hw49]; exact tI_add (rfl : v5_38.toInt = _) (rfl : (1 : Int32).toInt = 1) (by omega) (by omega)
                    refine lv_goto (tgt := 38) hx hb dX12_block_108 (by decide) ?_
                    exact ih38 (v5_38) (w49) xi44 _ _ _ (by omega) (by exact ⟨by omega, by omega⟩)  ok hP  kp45 hS (lv_sub hl [0, 1, 2, 3, 4, 5] rfl)
      exact loop38 ((4096 + 1 - (1 : Int32).toInt).toNat + 1) ((-9)) (1) xi1 _ _ _ (Nat.lt_succ_self _) (by have h80 : (1 : Int32).toInt = 1 := rfl; exact ⟨by omega, by omega⟩)  ok hP  kp8 hS hl
    · have c_5 : y4.toInt = 0 := il_eq c_5
      refine lv_aload_n hx hb dX12_block_19 rfl (lv_at hl 1 rfl) ?_
      refine lv_iconst (v := 0) hx hb dX12_block_20 (by decide) ?_
      refine lv_iconst (v := 0) hx hb dX12_block_21 (by decide) ?_
      have hFc := fr_all (wR_D xi1 hD) hS hA
      refine va_calli (va_runV (As := [.int 0, .int 0]) (rest := []) ⟨hx, hb, hml, hown, hts⟩ (sm_ask l dC dI cs ad xi1 ok H1 hP ((wR_D xi1 hD).weaken (fun _ _ _ _ => trivial)) 0 0) (cwV 2 hts (wU_V mw_5_213 mw_5_210 mw_5_212 mw_0_30 mw_1_13) rfl rfl rfl (by decide +kernel) ⟨Nat.le_of_ble_eq_true rfl, Nat.le_of_ble_eq_true rfl⟩) ⟨sz_c, va_recv hK hP (ci := 12) (q0 := 0) rfl (gM_0 cs ad xi1), sz_m hK hz⟩ rfl rfl hl.1 rfl (lv_room (Nat.le_of_ble_eq_true rfl)) dX12_block_22 ⟨Nat.zero_le _, Nat.zero_le _⟩) hS (fun q _ h => hFc q h) hFc (fun r50 xi50 t H50 locs ht hvm hw50 hB hz1 hk1 hS => ?_)
      have hP : va_P (dC, dI) vwCl (wR 21 ad (EM cs ad) xi50) H50 := by rw [← ht]; exact hB
      obtain ⟨hfe50, ok, hw50, hkp50_0⟩ := hw50
      have kp51 : (∀ k f : Nat, Nat.testBit 510 (gpM k f) = true → xi50 k f = mu k f) := kp_t hkp50_0 (by decide) kp2
      have gr50 : r50.toInt = (0 : Int) := hw50
      exact W.iret (v := r50) hx hb hr (fun t ht hW => ⟨⟨r50, xi50, rfl, ⟨ok, trivial, kp51⟩, by first | (subst ht; exact hP) | (rw [ht]; exact hP) | (show va_P (dC, dI) vwCl (wR 21 ad (EM cs ad) xi50) t.heap; rw [ht]; exact hP)⟩, hS.F ht⟩) hS.2.2 dX12_block_25
  · have kp3 : (∀ k f : Nat, Nat.testBit 510 (gpM k f) = true → xi1 k f = mu k f) := kp_t hkp1_0 (by decide) (fun _ _ _ => rfl)
    skip
    refine lv_istore_n (lv' := [(2, .int r1), (0, .ref (ad 0)), (1, .int vk)]) hx hb dX12_block_5 rfl hl (by decide) rfl (fun ls hl => ?_)
    refine lv_iload_n hx hb dX12_block_6 rfl (lv_at hl 0 rfl) ?_
    refine lv_if_ge (tgt := 12) hx hb dX12_block_7 (by decide) (fun c_52 => by have c_52 : 0 ≤ r1.toInt := il_le c_52; exfalso; omega) (fun c_52 => ?_)
    have c_52 : r1.toInt < 0 := il_nle c_52
    refine lv_iload_n hx hb dX12_block_10 rfl (lv_at hl 0 rfl) ?_
    exact W.iret (v := r1) hx hb hr (fun t ht hW => ⟨⟨r1, xi1, rfl, ⟨ok, trivial, kp3⟩, by first | (subst ht; exact hP) | (rw [ht]; exact hP) | (show va_P (dC, dI) vwCl (wR 21 ad (EM cs ad) xi1) t.heap; rw [ht]; exact hP)⟩, hS.F ht⟩) hS.2.2 dX12_block_11
