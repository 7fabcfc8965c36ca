set_option maxHeartbeats 4000000 in
set_option maxRecDepth 100000 in
/-- qm_worth -/
theorem qm_worth (l : Launch) (dC : Nat → ClassId) (dI : Nat → Nat → Nat) (cs : Nat → ClassId) (ad : Nat → Nat) (mu : Nat → Nat → Int32) (ok : okR loM hiM mu) (H : Heap) (hP : va_P (dC, dI) vwCl (wR 21 ad (EM cs ad) mu) H) (hD0 : va_D (fun _ => True) (wR 21 ad (EM cs ad) mu)) (vk : Int32) (vx : Int32) (vd : Int32) : Met l yX12_worth (wU yX12_worth cX12_worth 8 (some .int)) ({ frames := 3, cells := 0, slots := 0, locals := 71 }) (va_Pc [.ref (ad 0), .int vk, .int vx, .int vd] (sz_P (dC, dI) vwCl (tyM cs) H)) (va_Qi (fun (z : Int32) (xi : Nat → Nat → Int32) => okR loM hiM xi ∧ (True) ∧ (∀ k f : Nat, Nat.testBit 510 (gpM k f) = true → xi k f = mu k f)) (fun xi t => va_P (dC, dI) vwCl (wR 21 ad (EM cs ad) xi) t.heap) (va_A (wR 21 ad (EM cs ad) mu) H.size)) 0 0 (va_A (wR 21 ad (EM cs ad) mu) H.size) := by
  refine Met.ofW (cc := cX12_worth) (maxL := 8) (ret := (some .int)) (by decide) rfl ?_
  intro p e s m args below meth c s₁ B hml hv
  obtain ⟨rfl, hh, hK, hz⟩ := hv
  have hx := B.exec
  have hb := B.bytes
  have hr := B.returns
  have hts := atoms_spec (ws := (wU yX12_worth cX12_worth 8 (some .int))) B.pre
  have hown : s.vm.findClass RX12 = some m.cls := findClass_of_methodNamed B.named
  have hlocks := B.notSynchronized
  subst hh
  have hD := hD0.self (sz := s.heap.size)
  have hA : ∀ q : Nat, s.heap.size ≤ q → (va_A (wR 21 ad (EM cs ad) mu) s.heap.size) q := fun q h => Or.inr h
  have hS : va_S (va_A (wR 21 ad (EM cs ad) mu) s.heap.size) s.heap s.heap [] := va_S.rf
  have hl := lv_entry ([.ref (ad 0), .int vk, .int vx, .int vd]) (n := 8) (Nat.le_of_ble_eq_true rfl)
  rw [lg_entry_eq]
  generalize (lg_sl ([.ref (ad 0), .int vk, .int vx, .int vd]) ++ List.replicate (8 - (lg_sl ([.ref (ad 0), .int vk, .int vx, .int vd])).length) Slot.unset).toArray = ls at hl ⊢
  have hl : lv_has ls 8 [(0, .ref (ad 0)), (1, .int vk), (2, .int vx), (3, .int vd)] := hl
  refine lv_aload_n hx hb dX12_worth_0 rfl (lv_at hl 0 rfl) ?_
  refine lv_iload_n hx hb dX12_worth_1 rfl (lv_at hl 2 rfl) ?_
  refine cr_i (va_runV (As := [.int vx]) (rest := []) ⟨hx, hb, hml, hown, hts⟩ (sm_isOne l dC dI cs ad mu ok s.heap hP vx) (cwV 1 hts (wU_V mw_6_40 mw_6_37 mw_6_39 mw_0_36 mw_1_13) rfl rfl rfl (by decide +kernel) ⟨Nat.le_of_ble_eq_true rfl, Nat.le_of_ble_eq_true rfl⟩) ⟨sz_c, va_recv hK hP (ci := 12) (q0 := 0) rfl (gM_0 cs ad mu), sz_m hK hz⟩ rfl rfl hl.1 rfl (lv_room (Nat.le_of_ble_eq_true rfl)) dX12_worth_2 ⟨Nat.zero_le _, Nat.zero_le _⟩) hS (fun r1 hw1 locs hS => ?_)
  obtain ⟨hfe1, hw1⟩ := hw1
  rcases hw1 with ⟨rfl, f1⟩ | ⟨rfl, f1⟩
  · have f1 : 0 ≤ vx.toInt ∧ vx.toInt < (mu 0 8).toInt ∧ (mu 0 8).toInt ≤ 7 := f1
    refine lv_if_eq (tgt := 18) hx hb dX12_worth_5 (by decide) (fun c => absurd c (by decide)) (fun _ => ?_)
    refine lv_iload_n hx hb dX12_worth_8 rfl (lv_at hl 3 rfl) ?_
    refine lv_iconst (v := 0) hx hb dX12_worth_9 (by decide) ?_
    refine lv_bipush (v := 20) hx hb dX12_worth_10 (by decide) ?_
    refine cr_i (va_runS (As := [.int vd, .int 0, .int 20]) (rest := []) ⟨hx, hb, hml, hown, hts⟩ (sm_in l dC dI (tyM cs) s.heap vd 0 20) (va_cwS 3 hts (wU_S mw_5_189 mw_5_187 mw_5_188 mw_1_13) rfl rfl rfl (by decide +kernel) ⟨Nat.le_of_ble_eq_true rfl, Nat.le_of_ble_eq_true rfl⟩) ⟨sz_c, sz_m hK hz⟩ rfl rfl hl.1 rfl (lv_room (Nat.le_of_ble_eq_true rfl)) dX12_worth_12 ⟨Nat.zero_le _, Nat.zero_le _⟩) hS (fun r2 hw2 locs hS => ?_)
    obtain ⟨hfe2, hw2⟩ := hw2
    rcases hw2 with ⟨rfl, f2⟩ | ⟨rfl, f2⟩
    · have f2 : (0 : Int) ≤ vd.toInt ∧ vd.toInt ≤ (20 : Int) := f2
      refine lv_if_ne (tgt := 22) hx hb dX12_worth_15 (by decide) (fun _ => ?_) (fun c => absurd c (by decide))
      refine lv_aload_n hx hb dX12_worth_22 rfl (lv_at hl 0 rfl) ?_
      refine lv_iload_n hx hb dX12_worth_23 rfl (lv_at hl 1 rfl) ?_
      have hFc := fr_all (wR_D mu hD) hS hA
      refine va_calli (va_runV (As := [.int vk]) (rest := []) ⟨hx, hb, hml, hown, hts⟩ (sm_askedLetter l dC dI cs ad mu ok s.heap hP ((wR_D mu hD).weaken (fun _ _ _ _ => trivial)) vk) (cwV 1 hts (wU_V mw_6_114 mw_6_111 mw_6_113 mw_0_46 mw_1_13) rfl rfl rfl (by decide +kernel) ⟨Nat.le_of_ble_eq_true rfl, Nat.le_of_ble_eq_true rfl⟩) ⟨sz_c, va_recv hK hP (ci := 12) (q0 := 0) rfl (gM_0 cs ad mu), sz_m hK hz⟩ rfl rfl hl.1 rfl (lv_room (Nat.le_of_ble_eq_true rfl)) dX12_worth_24 ⟨Nat.zero_le _, Nat.zero_le _⟩) hS (fun q _ h => hFc q h) hFc (fun r3 xi3 t H3 locs ht hvm hw3 hB hz1 hk1 hS => ?_)
      have hP : va_P (dC, dI) vwCl (wR 21 ad (EM cs ad) xi3) H3 := by rw [← ht]; exact hB
      obtain ⟨hfe3, hw3⟩ := hw3
      rcases hw3 with ⟨rfl, hxi3, f3⟩ | ⟨z3, ok, hkp3_0⟩
      · have hP : va_P (dC, dI) vwCl (wR 21 ad (EM cs ad) mu) H3 := by rw [← hxi3]; exact hP
        have f3 : 0 ≤ vk.toInt ∧ vk.toInt < (mu 0 15).toInt ∧ (mu 0 15).toInt ≤ 4 := f3
        refine lv_istore (lv' := [(4, .int 0), (0, .ref (ad 0)), (1, .int vk), (2, .int vx), (3, .int vd)]) hx hb dX12_worth_27 hl (by decide) rfl (fun ls hl => ?_)
        refine lv_iload hx hb dX12_worth_29 (lv_at hl 0 rfl) ?_
        refine lv_if_ge (tgt := 37) hx hb dX12_worth_31 (by decide) (fun _ => ?_) (fun c => absurd (by decide) c)
        refine lv_aload_n hx hb dX12_worth_37 rfl (lv_at hl 1 rfl) ?_
        refine lv_iload_n hx hb dX12_worth_38 rfl (lv_at hl 2 rfl) ?_
        refine cr_i (va_runV (As := [.int vk]) (rest := []) ⟨hx, hb, hml, hown, hts⟩ (sm_isRead l dC dI cs ad mu ok H3 hP vk (by omega)) (cwV 1 hts (wU_V mw_6_52 mw_6_49 mw_6_51 mw_0_39 mw_1_13) rfl rfl rfl (by decide +kernel) ⟨Nat.le_of_ble_eq_true rfl, Nat.le_of_ble_eq_true rfl⟩) ⟨sz_c, va_recv hK hP (ci := 12) (q0 := 0) rfl (gM_0 cs ad mu), sz_m hK hz⟩ rfl rfl hl.1 rfl (lv_room (Nat.le_of_ble_eq_true rfl)) dX12_worth_39 ⟨Nat.zero_le _, Nat.zero_le _⟩) hS (fun r5 hw5 locs hS => ?_)
        obtain ⟨hfe5, hw5⟩ := hw5
        have gr5 : 0 ≤ r5.toInt ∧ r5.toInt ≤ 1 := hw5
        refine lv_if_eq (tgt := 48) hx hb dX12_worth_42 (by decide) (fun c_6 => ?_) (fun c_6 => ?_)
        · have c_6 : r5.toInt = 0 := il_eq c_6
          refine lv_aload_n hx hb dX12_worth_48 rfl (lv_at hl 1 rfl) ?_
          refine lv_iload_n hx hb dX12_worth_49 rfl (lv_at hl 2 rfl) ?_
          refine lv_iconst (v := 1) hx hb dX12_worth_50 (by decide) ?_
          refine cr_i (va_runV (As := [.int vk, .int 1]) (rest := []) ⟨hx, hb, hml, hown, hts⟩ (sm_letterOf l dC dI cs ad mu ok H3 hP vk 1 (by have h51 : (1 : Int32).toInt = 1 := rfl; omega)) (cwV 2 hts (wU_V mw_6_48 mw_6_45 mw_6_47 mw_0_38 mw_1_13) rfl rfl rfl (by decide +kernel) ⟨Nat.le_of_ble_eq_true rfl, Nat.le_of_ble_eq_true rfl⟩) ⟨sz_c, va_recv hK hP (ci := 12) (q0 := 0) rfl (gM_0 cs ad mu), sz_m hK hz⟩ rfl rfl hl.1 rfl (lv_room (Nat.le_of_ble_eq_true rfl)) dX12_worth_51 ⟨Nat.zero_le _, Nat.zero_le _⟩) hS (fun r7 hw7 locs hS => ?_)
          obtain ⟨hfe7, hw7⟩ := hw7
          refine lv_istore (lv' := [(5, .int r7), (4, .int 0), (0, .ref (ad 0)), (1, .int vk), (2, .int vx), (3, .int vd)]) hx hb dX12_worth_54 hl (by decide) rfl (fun ls hl => ?_)
          refine lv_bipush (v := 20) hx hb dX12_worth_56 (by decide) ?_
          refine lv_istore (lv' := [(6, .int 20), (5, .int r7), (4, .int 0), (0, .ref (ad 0)), (1, .int vk), (2, .int vx), (3, .int vd)]) hx hb dX12_worth_58 hl (by decide) rfl (fun ls hl => ?_)
          have loop60 : ∀ (n60 : Nat) (v6_60 : Int32) (nu60_ : Nat → Nat → Int32) (H : Heap) (locs : List Loc) (ls : Array Slot), (v6_60.toInt + 1 - -1).toNat < n60 → (-1 ≤ v6_60.toInt ∧ v6_60.toInt ≤ 20) → okR loM hiM nu60_ → va_P (dC, dI) vwCl (wR 21 ad (EM cs ad) nu60_) H → (∀ k f : Nat, Nat.testBit 510 (gpM k f) = true → nu60_ k f = mu k f) → va_S (va_A (wR 21 ad (EM cs ad) mu) s.heap.size) s.heap H locs → lv_has ls 8 [(6, .int v6_60), (5, .int r7), (4, .int 0), (0, .ref (ad 0)), (1, .int vk), (2, .int vx), (3, .int vd)] → W p l e (headSpec (wU yX12_worth cX12_worth 8 (some .int)) ({ frames := 3, cells := 0, slots := 0, locals := 71 })).room s m ([.ref (ad 0), .int vk, .int vx, .int vd] : List Value).toArray below meth c H locs 0 0 (MQ below (va_Qi (fun (z : Int32) (xi : Nat → Nat → Int32) => okR loM hiM xi ∧ (True) ∧ (∀ k f : Nat, Nat.testBit 510 (gpM k f) = true → xi k f = mu k f)) (fun xi t => va_P (dC, dI) vwCl (wR 21 ad (EM cs ad) xi) t.heap) (va_A (wR 21 ad (EM cs ad) mu) s.heap.size)) ([.ref (ad 0), .int vk, .int vx, .int vd] : List Value).toArray s 0 0 (va_A (wR 21 ad (EM cs ad) mu) s.heap.size)) (F0 m 60 ls []) := by
            intro n60
            induction n60 with
            | zero => intro v6_60 nu60_ H locs ls hm; exact absurd hm (Nat.not_lt_zero _)
            | succ n60 ih60 =>
              intro v6_60 nu60_ H locs ls hm h_v6_60 ok hP kq60_0 hS hl
              refine lv_iload hx hb dX12_worth_60 (lv_at hl 0 rfl) ?_
              refine lv_iload_n hx hb dX12_worth_62 rfl (lv_at hl 6 rfl) ?_
              refine lv_icmp_lt (tgt := 165) hx hb dX12_worth_63 (by decide) (fun c_8 => ?_) (fun c_8 => ?_)
              · have c_8 : v6_60.toInt < vd.toInt := il_lt c_8
                refine lv_aload_n hx hb dX12_worth_165 rfl (lv_at hl 3 rfl) ?_
                refine va_get (D := (dC, dI)) (ci := 12) (v := .ref (ad 19)) (C := RX12) (T := TX12) (N := 46) hx hb hts inG12 hown hK hP 0 (gM_0 cs ad nu60_) rfl 40 (by decide) (hts _ (List.mem_cons_of_mem _ mw_5_81)) (fun _ h9 => h9) rfl dX12_worth_166 ?_
                refine lv_iload_n hx hb dX12_worth_169 rfl (lv_at hl 5 rfl) ?_
                refine va_iald hx hb hK hP 19 0 (gM_19 cs ad nu60_) rfl (show vp_in vx 7 from vi_of (by omega) (by omega)) dX12_worth_170 ?_
                refine lv_topi (fun y9 ey9 => ?_)
                have by9 : y9.toInt = (nu60_ 19 vx.toNatClampNeg).toInt := congrArg Int32.toInt ey9
                exact W.iret (v := y9) hx hb hr (fun t ht hW => ⟨⟨y9, nu60_, rfl, ⟨ok, trivial, kq60_0⟩, by first | (subst ht; exact hP) | (rw [ht]; exact hP) | (show va_P (dC, dI) vwCl (wR 21 ad (EM cs ad) nu60_) t.heap; rw [ht]; exact hP)⟩, hS.F ht⟩) hS.2.2 dX12_worth_171
              · have c_8 : vd.toInt ≤ v6_60.toInt := il_nlt c_8
                refine lv_iconst (v := 0) hx hb dX12_worth_66 (by decide) ?_
                refine lv_istore (lv' := [(7, .int 0), (6, .int v6_60), (5, .int r7), (4, .int 0), (0, .ref (ad 0)), (1, .int vk), (2, .int vx), (3, .int vd)]) hx hb dX12_worth_67 hl (by decide) rfl (fun ls hl => ?_)
                have loop69 : ∀ (n69 : Nat) (v7_69 : Int32) (nu69_ : Nat → Nat → Int32) (H : Heap) (locs : List Loc) (ls : Array Slot), (7 + 1 - v7_69.toInt).toNat < n69 → (0 ≤ v7_69.toInt ∧ v7_69.toInt ≤ 7) → okR loM hiM nu69_ → va_P (dC, dI) vwCl (wR 21 ad (EM cs ad) nu69_) H → (∀ k f : Nat, Nat.testBit 510 (gpM k f) = true → nu69_ k f = mu k f) → va_S (va_A (wR 21 ad (EM cs ad) mu) s.heap.size) s.heap H locs → lv_has ls 8 [(7, .int v7_69), (6, .int v6_60), (5, .int r7), (4, .int 0), (0, .ref (ad 0)), (1, .int vk), (2, .int vx), (3, .int vd)] → W p l e (headSpec (wU yX12_worth cX12_worth 8 (some .int)) ({ frames := 3, cells := 0, slots := 0, locals := 71 })).room s m ([.ref (ad 0), .int vk, .int vx, .int vd] : List Value).toArray below meth c H locs 0 0 (MQ below (va_Qi (fun (z : Int32) (xi : Nat → Nat → Int32) => okR loM hiM xi ∧ (True) ∧ (∀ k f : Nat, Nat.testBit 510 (gpM k f) = true → xi k f = mu k f)) (fun xi t => va_P (dC, dI) vwCl (wR 21 ad (EM cs ad) xi) t.heap) (va_A (wR 21 ad (EM cs ad) mu) s.heap.size)) ([.ref (ad 0), .int vk, .int vx, .int vd] : List Value).toArray s 0 0 (va_A (wR 21 ad (EM cs ad) mu) s.heap.size)) (F0 m 69 ls []) := by
                  intro n69
                  induction n69 with
                  | zero => intro v7_69 nu69_ H locs ls hm; exact absurd hm (Nat.not_lt_zero _)
                  | succ n69 ih69 =>
                    intro v7_69 nu69_ H locs ls hm h_v7_69 ok hP kq69_0 hS hl
                    refine lv_iload hx hb dX12_worth_69 (lv_at hl 0 rfl) ?_
                    refine lv_aload_n hx hb dX12_worth_71 rfl (lv_at hl 4 rfl) ?_
                    refine va_get (D := (dC, dI)) (ci := 12) (v := .int (nu69_ 0 8)) (C := RX12) (T := TX12) (N := 46) hx hb hts inG12 hown hK hP 0 (gM_0 cs ad nu69_) rfl 8 (by decide) (hts _ (List.mem_cons_of_mem _ mw_5_49)) (fun _ h9 => h9) rfl dX12_worth_72 ?_
                    refine lv_topi (fun y10 ey10 => ?_)
                    have by10 : y10.toInt = (nu69_ 0 8).toInt := congrArg Int32.toInt ey10
                    have gy10 : 0 ≤ y10.toInt ∧ y10.toInt ≤ 7 := by rw [ey10]; exact rM_0_8 ok
                    refine lv_icmp_ge (tgt := 98) hx hb dX12_worth_75 (by decide) (fun c_11 => ?_) (fun c_11 => ?_)
                    · have c_11 : y10.toInt ≤ v7_69.toInt := il_le c_11
                      refine lv_iconst (v := 0) hx hb dX12_worth_98 (by decide) ?_
                      refine lv_istore (lv' := [(7, .int 0), (6, .int v6_60), (5, .int r7), (4, .int 0), (0, .ref (ad 0)), (1, .int vk), (2, .int vx), (3, .int vd)]) hx hb dX12_worth_99 hl (by decide) rfl (fun ls hl => ?_)
                      have loop101 : ∀ (n101 : Nat) (v7_101 : Int32) (nu101_ : Nat → Nat → Int32) (H : Heap) (locs : List Loc) (ls : Array Slot), (7 + 1 - v7_101.toInt).toNat < n101 → (0 ≤ v7_101.toInt ∧ v7_101.toInt ≤ 7) → okR loM hiM nu101_ → va_P (dC, dI) vwCl (wR 21 ad (EM cs ad) nu101_) H → (∀ k f : Nat, Nat.testBit 510 (gpM k f) = true → nu101_ k f = mu k f) → va_S (va_A (wR 21 ad (EM cs ad) mu) s.heap.size) s.heap H locs → lv_has ls 8 [(7, .int v7_101), (6, .int v6_60), (5, .int r7), (4, .int 0), (0, .ref (ad 0)), (1, .int vk), (2, .int vx), (3, .int vd)] → W p l e (headSpec (wU yX12_worth cX12_worth 8 (some .int)) ({ frames := 3, cells := 0, slots := 0, locals := 71 })).room s m ([.ref (ad 0), .int vk, .int vx, .int vd] : List Value).toArray below meth c H locs 0 0 (MQ below (va_Qi (fun (z : Int32) (xi : Nat → Nat → Int32) => okR loM hiM xi ∧ (True) ∧ (∀ k f : Nat, Nat.testBit 510 (gpM k f) = true → xi k f = mu k f)) (fun xi t => va_P (dC, dI) vwCl (wR 21 ad (EM cs ad) xi) t.heap) (va_A (wR 21 ad (EM cs ad) mu) s.heap.size)) ([.ref (ad 0), .int vk, .int vx, .int vd] : List Value).toArray s 0 0 (va_A (wR 21 ad (EM cs ad) mu) s.heap.size)) (F0 m 101 ls []) := by
                        intro n101
                        induction n101 with
                        | zero => intro v7_101 nu101_ H locs ls hm; exact absurd hm (Nat.not_lt_zero _)
                        | succ n101 ih101 =>
                          intro v7_101 nu101_ H locs ls hm h_v7_101 ok hP kq101_0 hS hl
                          refine lv_iload hx hb dX12_worth_101 (lv_at hl 0 rfl) ?_
                          refine lv_aload_n hx hb dX12_worth_103 rfl (lv_at hl 4 rfl) ?_
                          refine va_get (D := (dC, dI)) (ci := 12) (v := .int (nu101_ 0 8)) (C := RX12) (T := TX12) (N := 46) hx hb hts inG12 hown hK hP 0 (gM_0 cs ad nu101_) rfl 8 (by decide) (hts _ (List.mem_cons_of_mem _ mw_5_49)) (fun _ h9 => h9) rfl dX12_worth_104 ?_
                          refine lv_topi (fun y12 ey12 => ?_)
                          have by12 : y12.toInt = (nu101_ 0 8).toInt := congrArg Int32.toInt ey12
                          have gy12 : 0 ≤ y12.toInt ∧ y12.toInt ≤ 7 := by rw [ey12]; exact rM_0_8 ok
                          refine lv_icmp_ge (tgt := 159) hx hb dX12_worth_107 (by decide) (fun c_13 => ?_) (fun c_13 => ?_)
                          · have c_13 : y12.toInt ≤ v7_101.toInt := il_le c_13
                            refine lv_iinc (v := (v6_60 + (-1))) (lv' := [(6, .int (v6_60 + (-1))), (7, .int v7_101), (5, .int r7), (4, .int 0), (0, .ref (ad 0)), (1, .int vk), (2, .int vx), (3, .int vd)]) hx hb dX12_worth_159 hl (k := 1) rfl rfl (by decide) rfl (fun ls hl => ?_)
                            refine loc_gen (P := fun w9 => lv_has ls 8 [(6, .int w9), (7, .int v7_101), (5, .int r7), (4, .int 0), (0, .ref (ad 0)), (1, .int vk), (2, .int vx), (3, .int vd)]) (v6_60 + (-1)) hl (fun w14 hw14 hl => ?_)
                            have hl : lv_has ls 8 [(6, .int w14), (7, .int v7_101), (5, .int r7), (4, .int 0), (0, .ref (ad 0)), (1, .int vk), (2, .int vx), (3, .int vd)] := hl
                            have aw14 : w14.toInt = v6_60.toInt + (-1) := by rw [← hw14]; exact tI_add (rfl : v6_60.toInt = _) (rfl : ((-1) : Int32).toInt = -1) (by omega) (by omega)
                            refine lv_goto (tgt := 60) hx hb dX12_worth_162 (by decide) ?_
                            exact ih60 (w14) nu101_ _ _ _ (by omega) (by exact ⟨by omega, by omega⟩)  ok hP  kq101_0 hS (lv_sub hl [0, 2, 3, 4, 5, 6, 7] rfl)
                          · have c_13 : v7_101.toInt < y12.toInt := il_nle c_13
                            refine lv_aload_n hx hb dX12_worth_110 rfl (lv_at hl 4 rfl) ?_
                            refine va_get (D := (dC, dI)) (ci := 12) (v := .ref (ad 19)) (C := RX12) (T := TX12) (N := 46) hx hb hts inG12 hown hK hP 0 (gM_0 cs ad nu101_) rfl 40 (by decide) (hts _ (List.mem_cons_of_mem _ mw_5_81)) (fun _ h9 => h9) rfl dX12_worth_111 ?_
                            refine lv_iload hx hb dX12_worth_114 (lv_at hl 0 rfl) ?_
                            refine lv_iload hx hb dX12_worth_116 (lv_at hl 0 rfl) ?_
                            refine lv_iload hx hb dX12_worth_118 (lv_at hl 2 rfl) ?_
                            refine lv_icmp_ne (tgt := 133) hx hb dX12_worth_120 (by decide) (fun c_15 => ?_) (fun c_15 => ?_)
                            · have c_15 : ¬ v7_101.toInt = r7.toInt := il_ne c_15
                              refine lv_iload hx hb dX12_worth_133 (lv_at hl 1 rfl) ?_
                              refine lv_bipush (v := 20) hx hb dX12_worth_135 (by decide) ?_
                              refine lv_icmp_ne (tgt := 144) hx hb dX12_worth_137 (by decide) (fun c_16 => ?_) (fun c_16 => ?_)
                              · have c_16 : ¬ v6_60.toInt = 20 := il_ne c_16
                                refine lv_aload_n hx hb dX12_worth_144 rfl (lv_at hl 4 rfl) ?_
                                refine lv_iload hx hb dX12_worth_145 (lv_at hl 0 rfl) ?_
                                refine lv_iload hx hb dX12_worth_147 (lv_at hl 2 rfl) ?_
                                refine cr_i (va_runV (As := [.int v7_101, .int r7]) (rest := [.int v7_101, .ref (ad 19)]) ⟨hx, hb, hml, hown, hts⟩ (sm_bestOf l dC dI cs ad nu101_ ok H hP v7_101 r7) (cwV 2 hts (wU_V mw_6_232 mw_6_229 mw_6_231 mw_0_59 mw_1_13) rfl rfl rfl (by decide +kernel) ⟨Nat.le_of_ble_eq_true rfl, Nat.le_of_ble_eq_true rfl⟩) ⟨sz_c, va_recv hK hP (ci := 12) (q0 := 0) rfl (gM_0 cs ad nu101_), sz_m hK hz⟩ rfl rfl hl.1 rfl (lv_room (Nat.le_of_ble_eq_true rfl)) dX12_worth_149 ⟨Nat.zero_le _, Nat.zero_le _⟩) hS (fun r17 hw17 locs hS => ?_)
                                refine va_iast hx hb hK hP (wR_D nu101_ hD) hS 19 0 (gM_19 cs ad nu101_) rfl (show vp_in v7_101 7 from vi_of (by omega) (by omega)) dX12_worth_152 (fun H locs hP _ hS => ?_)
                                refine wr_gen (upd (nu101_ 19) v7_101.toNatClampNeg r17) hP (rfl) (fun nu18 hn18 hP => ?_)
                                have ok := tM_19_s ok v7_101.toNatClampNeg hn18
                                have ez19 : y12 = nu18 0 8 := ey12.trans (congrFun (up_k hn18 (by decide)) 8).symm
                                have kp20 : (∀ k f : Nat, Nat.testBit 510 (gpM k f) = true → nu18 k f = mu k f) := kp_c 0 hn18 (fun _ => rfl) (by decide) kq101_0
                                refine lv_iinc (v := (v7_101 + 1)) (lv' := [(7, .int (v7_101 + 1)), (6, .int v6_60), (5, .int r7), (4, .int 0), (0, .ref (ad 0)), (1, .int vk), (2, .int vx), (3, .int vd)]) hx hb dX12_worth_153 hl (k := 0) rfl rfl (by decide) rfl (fun ls hl => ?_)
                                refine loc_gen (P := fun w9 => lv_has ls 8 [(7, .int w9), (6, .int v6_60), (5, .int r7), (4, .int 0), (0, .ref (ad 0)), (1, .int vk), (2, .int vx), (3, .int vd)]) (v7_101 + 1) hl (fun w21 hw21 hl => ?_)
                                have hl : lv_has ls 8 [(7, .int w21), (6, .int v6_60), (5, .int r7), (4, .int 0), (0, .ref (ad 0)), (1, .int vk), (2, .int vx), (3, .int vd)] := hl
                                have aw21 : w21.toInt = v7_101.toInt + 1 := by rw [← hw21]; exact tI_add (rfl : v7_101.toInt = _) (rfl : (1 : Int32).toInt = 1) (by omega) (by omega)
                                refine lv_goto (tgt := 101) hx hb dX12_worth_156 (by decide) ?_
                                exact ih101 (w21) nu18 _ _ _ (by omega) (by exact ⟨by omega, by omega⟩)  ok hP  kp20 hS (lv_sub hl [0, 1, 2, 3, 4, 5, 6, 7] rfl)
                              · have c_16 : v6_60.toInt = 20 := il_eq c_16
                                refine lv_iconst (v := 0) hx hb dX12_worth_140 (by decide) ?_
                                refine lv_goto (tgt := 152) hx hb dX12_worth_141 (by decide) ?_
                                refine va_iast hx hb hK hP (wR_D nu101_ hD) hS 19 0 (gM_19 cs ad nu101_) rfl (show vp_in v7_101 7 from vi_of (by omega) (by omega)) dX12_worth_152 (fun H locs hP _ hS => ?_)
                                refine wr_gen (upd (nu101_ 19) v7_101.toNatClampNeg 0) hP (rfl) (fun nu22 hn22 hP => ?_)
                                have ok := tM_19_s ok v7_101.toNatClampNeg hn22
                                have ez23 : y12 = nu22 0 8 := ey12.trans (congrFun (up_k hn22 (by decide)) 8).symm
                                have kp24 : (∀ k f : Nat, Nat.testBit 510 (gpM k f) = true → nu22 k f = mu k f) := kp_c 0 hn22 (fun _ => rfl) (by decide) kq101_0
                                refine lv_iinc (v := (v7_101 + 1)) (lv' := [(7, .int (v7_101 + 1)), (6, .int v6_60), (5, .int r7), (4, .int 0), (0, .ref (ad 0)), (1, .int vk), (2, .int vx), (3, .int vd)]) hx hb dX12_worth_153 hl (k := 0) rfl rfl (by decide) rfl (fun ls hl => ?_)
                                refine loc_gen (P := fun w9 => lv_has ls 8 [(7, .int w9), (6, .int v6_60), (5, .int r7), (4, .int 0), (0, .ref (ad 0)), (1, .int vk), (2, .int vx), (3, .int vd)]) (v7_101 + 1) hl (fun w25 hw25 hl => ?_)
                                have hl : lv_has ls 8 [(7, .int w25), (6, .int v6_60), (5, .int r7), (4, .int 0), (0, .ref (ad 0)), (1, .int vk), (2, .int vx), (3, .int vd)] := hl
                                have aw25 : w25.toInt = v7_101.toInt + 1 := by rw [← hw25]; exact tI_add (rfl : v7_101.toInt = _) (rfl : (1 : Int32).toInt = 1) (by omega) (by omega)
                                refine lv_goto (tgt := 101) hx hb dX12_worth_156 (by decide) ?_
                                exact ih101 (w25) nu22 _ _ _ (by omega) (by exact ⟨by omega, by omega⟩)  ok hP  kp24 hS (lv_sub hl [0, 1, 2, 3, 4, 5, 6, 7] rfl)
                            · have c_15 : v7_101.toInt = r7.toInt := il_eq c_15
                              refine lv_aload_n hx hb dX12_worth_123 rfl (lv_at hl 4 rfl) ?_
                              refine lv_iload_n hx hb dX12_worth_124 rfl (lv_at hl 5 rfl) ?_
                              refine lv_iload hx hb dX12_worth_125 (lv_at hl 1 rfl) ?_
                              refine cr_i (va_runV (As := [.int vk, .int v6_60]) (rest := [.int v7_101, .ref (ad 19)]) ⟨hx, hb, hml, hown, hts⟩ (sm_worthIn l dC dI cs ad nu101_ ok H hP vk v6_60 (by omega)) (cwV 2 hts (wU_V mw_6_126 mw_6_123 mw_6_125 mw_0_49 mw_1_13) rfl rfl rfl (by decide +kernel) ⟨Nat.le_of_ble_eq_true rfl, Nat.le_of_ble_eq_true rfl⟩) ⟨sz_c, va_recv hK hP (ci := 12) (q0 := 0) rfl (gM_0 cs ad nu101_), sz_m hK hz⟩ rfl rfl hl.1 rfl (lv_room (Nat.le_of_ble_eq_true rfl)) dX12_worth_127 ⟨Nat.zero_le _, Nat.zero_le _⟩) hS (fun r26 hw26 locs hS => ?_)
                              obtain ⟨hfe26, hw26⟩ := hw26
                              refine lv_goto (tgt := 152) hx hb dX12_worth_130 (by decide) ?_
                              refine va_iast hx hb hK hP (wR_D nu101_ hD) hS 19 0 (gM_19 cs ad nu101_) rfl (show vp_in v7_101 7 from vi_of (by omega) (by omega)) dX12_worth_152 (fun H locs hP _ hS => ?_)
                              refine wr_gen (upd (nu101_ 19) v7_101.toNatClampNeg r26) hP (rfl) (fun nu27 hn27 hP => ?_)
                              have ok := tM_19_s ok v7_101.toNatClampNeg hn27
                              have ez28 : y12 = nu27 0 8 := ey12.trans (congrFun (up_k hn27 (by decide)) 8).symm
                              have kp29 : (∀ k f : Nat, Nat.testBit 510 (gpM k f) = true → nu27 k f = mu k f) := kp_c 0 hn27 (fun _ => rfl) (by decide) kq101_0
                              refine lv_iinc (v := (v7_101 + 1)) (lv' := [(7, .int (v7_101 + 1)), (6, .int v6_60), (5, .int r7), (4, .int 0), (0, .ref (ad 0)), (1, .int vk), (2, .int vx), (3, .int vd)]) hx hb dX12_worth_153 hl (k := 0) rfl rfl (by decide) rfl (fun ls hl => ?_)
                              refine loc_gen (P := fun w9 => lv_has ls 8 [(7, .int w9), (6, .int v6_60), (5, .int r7), (4, .int 0), (0, .ref (ad 0)), (1, .int vk), (2, .int vx), (3, .int vd)]) (v7_101 + 1) hl (fun w30 hw30 hl => ?_)
                              have hl : lv_has ls 8 [(7, .int w30), (6, .int v6_60), (5, .int r7), (4, .int 0), (0, .ref (ad 0)), (1, .int vk), (2, .int vx), (3, .int vd)] := hl
                              have aw30 : w30.toInt = v7_101.toInt + 1 := by rw [← hw30]; exact tI_add (rfl : v7_101.toInt = _) (rfl : (1 : Int32).toInt = 1) (by omega) (by omega)
                              refine lv_goto (tgt := 101) hx hb dX12_worth_156 (by decide) ?_
                              exact ih101 (w30) nu27 _ _ _ (by omega) (by exact ⟨by omega, by omega⟩)  ok hP  kp29 hS (lv_sub hl [0, 1, 2, 3, 4, 5, 6, 7] rfl)
                      exact loop101 ((7 + 1 - (0 : Int32).toInt).toNat + 1) (0) nu69_ _ _ _ (Nat.lt_succ_self _) (by have h80 : (0 : Int32).toInt = 0 := rfl; exact ⟨by omega, by omega⟩)  ok hP  kq69_0 hS hl
                    · have c_11 : v7_69.toInt < y10.toInt := il_nle c_11
                      refine lv_aload_n hx hb dX12_worth_78 rfl (lv_at hl 4 rfl) ?_
                      refine va_get (D := (dC, dI)) (ci := 12) (v := .ref (ad 20)) (C := RX12) (T := TX12) (N := 46) hx hb hts inG12 hown hK hP 0 (gM_0 cs ad nu69_) rfl 41 (by decide) (hts _ (List.mem_cons_of_mem _ mw_5_82)) (fun _ h9 => h9) rfl dX12_worth_79 ?_
                      refine lv_iload hx hb dX12_worth_82 (lv_at hl 0 rfl) ?_
                      refine lv_aload_n hx hb dX12_worth_84 rfl (lv_at hl 4 rfl) ?_
                      refine va_get (D := (dC, dI)) (ci := 12) (v := .ref (ad 19)) (C := RX12) (T := TX12) (N := 46) hx hb hts inG12 hown hK hP 0 (gM_0 cs ad nu69_) rfl 40 (by decide) (hts _ (List.mem_cons_of_mem _ mw_5_81)) (fun _ h9 => h9) rfl dX12_worth_85 ?_
                      refine lv_iload hx hb dX12_worth_88 (lv_at hl 0 rfl) ?_
                      refine va_iald hx hb hK hP 19 0 (gM_19 cs ad nu69_) rfl (show vp_in v7_69 7 from vi_of (by omega) (by omega)) dX12_worth_90 ?_
                      refine lv_topi (fun y31 ey31 => ?_)
                      have by31 : y31.toInt = (nu69_ 19 v7_69.toNatClampNeg).toInt := congrArg Int32.toInt ey31
                      refine va_iast hx hb hK hP (wR_D nu69_ hD) hS 20 0 (gM_20 cs ad nu69_) rfl (show vp_in v7_69 7 from vi_of (by omega) (by omega)) dX12_worth_91 (fun H locs hP _ hS => ?_)
                      refine wr_gen (upd (nu69_ 20) v7_69.toNatClampNeg y31) hP (rfl) (fun nu32 hn32 hP => ?_)
                      have ok := tM_20_s ok v7_69.toNatClampNeg hn32
                      have ez33 : y10 = nu32 0 8 := ey10.trans (congrFun (up_k hn32 (by decide)) 8).symm
                      have ez34 : y31 = nu32 19 v7_69.toNatClampNeg := ey31.trans (congrFun (up_k hn32 (by decide)) v7_69.toNatClampNeg).symm
                      have kp35 : (∀ k f : Nat, Nat.testBit 510 (gpM k f) = true → nu32 k f = mu k f) := kp_c 0 hn32 (fun _ => rfl) (by decide) kq69_0
                      refine lv_iinc (v := (v7_69 + 1)) (lv' := [(7, .int (v7_69 + 1)), (6, .int v6_60), (5, .int r7), (4, .int 0), (0, .ref (ad 0)), (1, .int vk), (2, .int vx), (3, .int vd)]) hx hb dX12_worth_92 hl (k := 0) rfl rfl (by decide) rfl (fun ls hl => ?_)
                      refine loc_gen (P := fun w9 => lv_has ls 8 [(7, .int w9), (6, .int v6_60), (5, .int r7), (4, .int 0), (0, .ref (ad 0)), (1, .int vk), (2, .int vx), (3, .int vd)]) (v7_69 + 1) hl (fun w36 hw36 hl => ?_)
                      have hl : lv_has ls 8 [(7, .int w36), (6, .int v6_60), (5, .int r7), (4, .int 0), (0, .ref (ad 0)), (1, .int vk), (2, .int vx), (3, .int vd)] := hl
                      have aw36 : w36.toInt = v7_69.toInt + 1 := by rw [← hw36]; exact tI_add (rfl : v7_69.toInt = _) (rfl : (1 : Int32).toInt = 1) (by omega) (by omega)
                      refine lv_goto (tgt := 69) hx hb dX12_worth_95 (by decide) ?_
                      exact ih69 (w36) nu32 _ _ _ (by omega) (by exact ⟨by omega, by omega⟩)  ok hP  kp35 hS (lv_sub hl [0, 1, 2, 3, 4, 5, 6, 7] rfl)
                exact loop69 ((7 + 1 - (0 : Int32).toInt).toNat + 1) (0) nu60_ _ _ _ (Nat.lt_succ_self _) (by have h80 : (0 : Int32).toInt = 0 := rfl; exact ⟨by omega, by omega⟩)  ok hP  kq60_0 hS hl
          exact loop60 (((20 : Int32).toInt + 1 - -1).toNat + 1) (20) mu _ _ _ (Nat.lt_succ_self _) (by have h80 : (20 : Int32).toInt = 20 := rfl; exact ⟨by omega, by omega⟩)  ok hP  (fun _ _ _ => rfl) hS hl
        · have c_6 : ¬ r5.toInt = 0 := il_ne c_6
          refine lv_bipush (v := (-4)) hx hb dX12_worth_45 (by decide) ?_
          exact W.iret (v := (-4)) hx hb hr (fun t ht hW => ⟨⟨(-4), mu, rfl, ⟨ok, trivial, (fun _ _ _ => rfl)⟩, by first | (subst ht; exact hP) | (rw [ht]; exact hP) | (show va_P (dC, dI) vwCl (wR 21 ad (EM cs ad) mu) t.heap; rw [ht]; exact hP)⟩, hS.F ht⟩) hS.2.2 dX12_worth_47
      · have kp4 : (∀ k f : Nat, Nat.testBit 510 (gpM k f) = true → xi3 k f = mu k f) := kp_t hkp3_0 (by decide) (fun _ _ _ => rfl)
        skip
        refine lv_istore (lv' := [(4, .int r3), (0, .ref (ad 0)), (1, .int vk), (2, .int vx), (3, .int vd)]) hx hb dX12_worth_27 hl (by decide) rfl (fun ls hl => ?_)
        refine lv_iload hx hb dX12_worth_29 (lv_at hl 0 rfl) ?_
        refine lv_if_ge (tgt := 37) hx hb dX12_worth_31 (by decide) (fun c_37 => by have c_37 : 0 ≤ r3.toInt := il_le c_37; exfalso; omega) (fun c_37 => ?_)
        have c_37 : r3.toInt < 0 := il_nle c_37
        refine lv_iload hx hb dX12_worth_34 (lv_at hl 0 rfl) ?_
        exact W.iret (v := r3) hx hb hr (fun t ht hW => ⟨⟨r3, xi3, rfl, ⟨ok, trivial, kp4⟩, by first | (subst ht; exact hP) | (rw [ht]; exact hP) | (show va_P (dC, dI) vwCl (wR 21 ad (EM cs ad) xi3) t.heap; rw [ht]; exact hP)⟩, hS.F ht⟩) hS.2.2 dX12_worth_36
    · have f2 : vd.toInt < (0 : Int) ∨ (20 : Int) < vd.toInt := f2
      refine lv_if_ne (tgt := 22) hx hb dX12_worth_15 (by decide) (fun c => absurd (by decide) c) (fun _ => ?_)
      refine lv_iconst (v := (-1)) hx hb dX12_worth_18 (by decide) ?_
      refine lv_goto (tgt := 27) hx hb dX12_worth_19 (by decide) ?_
      refine lv_istore (lv' := [(4, .int (-1)), (0, .ref (ad 0)), (1, .int vk), (2, .int vx), (3, .int vd)]) hx hb dX12_worth_27 hl (by decide) rfl (fun ls hl => ?_)
      refine lv_iload hx hb dX12_worth_29 (lv_at hl 0 rfl) ?_
      refine lv_if_ge (tgt := 37) hx hb dX12_worth_31 (by decide) (fun c => absurd c (by decide)) (fun _ => ?_)
      refine lv_iload hx hb dX12_worth_34 (lv_at hl 0 rfl) ?_
      exact W.iret (v := (-1)) hx hb hr (fun t ht hW => ⟨⟨(-1), mu, rfl, ⟨ok, trivial, (fun _ _ _ => rfl)⟩, by first | (subst ht; exact hP) | (rw [ht]; exact hP) | (show va_P (dC, dI) vwCl (wR 21 ad (EM cs ad) mu) t.heap; rw [ht]; exact hP)⟩, hS.F ht⟩) hS.2.2 dX12_worth_36
  · have f1 : vx.toInt < 0 ∨ (mu 0 8).toInt ≤ vx.toInt := f1
    refine lv_if_eq (tgt := 18) hx hb dX12_worth_5 (by decide) (fun _ => ?_) (fun c => absurd (by decide) c)
    refine lv_iconst (v := (-1)) hx hb dX12_worth_18 (by decide) ?_
    refine lv_goto (tgt := 27) hx hb dX12_worth_19 (by decide) ?_
    refine lv_istore (lv' := [(4, .int (-1)), (0, .ref (ad 0)), (1, .int vk), (2, .int vx), (3, .int vd)]) hx hb dX12_worth_27 hl (by decide) rfl (fun ls hl => ?_)
    refine lv_iload hx hb dX12_worth_29 (lv_at hl 0 rfl) ?_
    refine lv_if_ge (tgt := 37) hx hb dX12_worth_31 (by decide) (fun c => absurd c (by decide)) (fun _ => ?_)
    refine lv_iload hx hb dX12_worth_34 (lv_at hl 0 rfl) ?_
    exact W.iret (v := (-1)) hx hb hr (fun t ht hW => ⟨⟨(-1), mu, rfl, ⟨ok, trivial, (fun _ _ _ => rfl)⟩, by first | (subst ht; exact hP) | (rw [ht]; exact hP) | (show va_P (dC, dI) vwCl (wR 21 ad (EM cs ad) mu) t.heap; rw [ht]; exact hP)⟩, hS.F ht⟩) hS.2.2 dX12_worth_36
