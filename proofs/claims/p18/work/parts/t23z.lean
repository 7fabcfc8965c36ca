set_option maxHeartbeats 4000000 in
set_option maxRecDepth 100000 in
/-- qm_luck -/
theorem qm_luck (l : Launch) (dC : Nat → ClassId) (dI : Nat → Nat → Nat) (cs : Nat → ClassId) (ad : Nat → Nat) (mu : Nat → Nat → Int32) (ok : okR loM hiM mu) (H : Heap) (hP : va_P (dC, dI) vwCl (wR 21 ad (EM cs ad) mu) H) (hD0 : va_D (fun _ => True) (wR 21 ad (EM cs ad) mu)) (vn : Int32) (vs : Int32) : Met l yX12_luck (wU yX12_luck cX12_luck 11 (some .int)) ({ frames := 3, cells := 0, slots := 0, locals := 73 }) (va_Pc [.ref (ad 0), .int vn, .int vs] (sz_P (dC, dI) vwCl (tyM cs) H)) (va_Qi (fun (z : Int32) (xi : Nat → Nat → Int32) => (z, xi) = F_qm_luck mu vn vs ∧ okR loM hiM xi ∧ (True) ∧ (∀ k f : Nat, Nat.testBit 358 (gpM k f) = true → xi k f = mu k f)) (fun xi t => va_P (dC, dI) vwCl (wR 21 ad (EM cs ad) xi) t.heap) (va_A (wR 21 ad (EM cs ad) mu) H.size)) 0 0 (va_A (wR 21 ad (EM cs ad) mu) H.size) := by
  refine Met.ofW (cc := cX12_luck) (maxL := 11) (ret := (some .int)) (by decide) rfl ?_
  intro p e s m args below meth c s₁ B hml hv
  obtain ⟨rfl, hh, hK, hz⟩ := hv
  have hx := B.exec
  have hb := B.bytes
  have hr := B.returns
  have hts := atoms_spec (ws := (wU yX12_luck cX12_luck 11 (some .int))) B.pre
  have hown : s.vm.findClass RX12 = some m.cls := findClass_of_methodNamed B.named
  have hlocks := B.notSynchronized
  subst hh
  have hD := hD0.self (sz := s.heap.size)
  have hA : ∀ q : Nat, s.heap.size ≤ q → (va_A (wR 21 ad (EM cs ad) mu) s.heap.size) q := fun q h => Or.inr h
  have hS : va_S (va_A (wR 21 ad (EM cs ad) mu) s.heap.size) s.heap s.heap [] := va_S.rf
  have hl := lv_entry ([.ref (ad 0), .int vn, .int vs]) (n := 11) (Nat.le_of_ble_eq_true rfl)
  rw [lg_entry_eq]
  generalize (lg_sl ([.ref (ad 0), .int vn, .int vs]) ++ List.replicate (11 - (lg_sl ([.ref (ad 0), .int vn, .int vs])).length) Slot.unset).toArray = ls at hl ⊢
  have hl : lv_has ls 11 [(0, .ref (ad 0)), (1, .int vn), (2, .int vs)] := hl
  obtain ⟨fz, hfz⟩ : ∃ z, F_qm_luck mu vn vs = z := ⟨_, rfl⟩
  have hF := hfz
  unfold F_qm_luck at hF
  refine lv_iload_n hx hb dX12_luck_0 rfl (lv_at hl 1 rfl) ?_
  refine lv_iconst (v := 1) hx hb dX12_luck_1 (by decide) ?_
  refine lv_bipush (v := 40) hx hb dX12_luck_2 (by decide) ?_
  refine cr_i (va_runS (As := [.int vn, .int 1, .int 40]) (rest := []) ⟨hx, hb, hml, hown, hts⟩ (sm_in l dC dI (tyM cs) s.heap vn 1 40) (va_cwS 3 hts (wU_S mw_5_189 mw_5_187 mw_5_188 mw_1_13) rfl rfl rfl (by decide +kernel) ⟨Nat.le_of_ble_eq_true rfl, Nat.le_of_ble_eq_true rfl⟩) ⟨sz_c, sz_m hK hz⟩ rfl rfl hl.1 rfl (lv_room (Nat.le_of_ble_eq_true rfl)) dX12_luck_4 ⟨Nat.zero_le _, Nat.zero_le _⟩) hS (fun r1 hw1 locs hS => ?_)
  obtain ⟨hfe1, hw1⟩ := hw1
  rcases hw1 with ⟨rfl, f1⟩ | ⟨rfl, f1⟩
  · have hF := (if_pos hfe1.symm).symm.trans hF
    have f1 : (1 : Int) ≤ vn.toInt ∧ vn.toInt ≤ (40 : Int) := f1
    refine lv_if_eq (tgt := 21) hx hb dX12_luck_7 (by decide) (fun c => absurd c (by decide)) (fun _ => ?_)
    refine lv_iload_n hx hb dX12_luck_10 rfl (lv_at hl 2 rfl) ?_
    refine lv_iconst (v := 1) hx hb dX12_luck_11 (by decide) ?_
    refine lv_ldcw (v := 2147483646) hx hb hown (hts _ (List.mem_cons_of_mem _ mw_7_37)) dX12_luck_12 ?_
    refine cr_i (va_runS (As := [.int vs, .int 1, .int 2147483646]) (rest := []) ⟨hx, hb, hml, hown, hts⟩ (sm_in l dC dI (tyM cs) s.heap vs 1 2147483646) (va_cwS 3 hts (wU_S mw_5_189 mw_5_187 mw_5_188 mw_1_13) rfl rfl rfl (by decide +kernel) ⟨Nat.le_of_ble_eq_true rfl, Nat.le_of_ble_eq_true rfl⟩) ⟨sz_c, sz_m hK hz⟩ rfl rfl hl.1 rfl (lv_room (Nat.le_of_ble_eq_true rfl)) dX12_luck_15 ⟨Nat.zero_le _, Nat.zero_le _⟩) hS (fun r2 hw2 locs hS => ?_)
    obtain ⟨hfe2, hw2⟩ := hw2
    rcases hw2 with ⟨rfl, f2⟩ | ⟨rfl, f2⟩
    · have hF := (if_pos hfe2.symm).symm.trans hF
      have f2 : (1 : Int) ≤ vs.toInt ∧ vs.toInt ≤ (2147483646 : Int) := f2
      refine lv_if_ne (tgt := 23) hx hb dX12_luck_18 (by decide) (fun _ => ?_) (fun c => absurd c (by decide))
      refine lv_aload_n hx hb dX12_luck_23 rfl (lv_at hl 0 rfl) ?_
      refine va_get (D := (dC, dI)) (ci := 12) (v := .int (mu 0 8)) (C := RX12) (T := TX12) (N := 46) hx hb hts inG12 hown hK hP 0 (gM_0 cs ad mu) rfl 8 (by decide) (hts _ (List.mem_cons_of_mem _ mw_5_49)) (fun _ h9 => h9) rfl dX12_luck_24 ?_
      refine lv_topi (fun y3 ey3 => ?_)
      have hF := mi_let hF ey3
      have by3 : y3.toInt = (mu 0 8).toInt := congrArg Int32.toInt ey3
      have gy3 : 0 ≤ y3.toInt ∧ y3.toInt ≤ 7 := by rw [ey3]; exact rM_0_8 ok
      refine lv_if_ne (tgt := 33) hx hb dX12_luck_27 (by decide) (fun c_4 => ?_) (fun c_4 => ?_)
      · have hF := (if_neg c_4).symm.trans hF
        have c_4 : ¬ y3.toInt = 0 := il_ne c_4
        refine lv_aload_n hx hb dX12_luck_33 rfl (lv_at hl 0 rfl) ?_
        refine va_get (D := (dC, dI)) (ci := 12) (v := .int (mu 0 14)) (C := RX12) (T := TX12) (N := 46) hx hb hts inG12 hown hK hP 0 (gM_0 cs ad mu) rfl 14 (by decide) (hts _ (List.mem_cons_of_mem _ mw_5_55)) (fun _ h9 => h9) rfl dX12_luck_34 ?_
        refine lv_topi (fun y5 ey5 => ?_)
        have hF := mi_let hF ey5
        have by5 : y5.toInt = (mu 0 14).toInt := congrArg Int32.toInt ey5
        refine lv_iload_n hx hb dX12_luck_37 rfl (lv_at hl 1 rfl) ?_
        refine lv_iadd hx hb dX12_luck_38 ?_
        refine lv_topi (fun t6 et6 => ?_)
        have hF := mi_let hF et6
        refine lv_bipush (v := 99) hx hb dX12_luck_39 (by decide) ?_
        refine lv_icmp_le (tgt := 47) hx hb dX12_luck_41 (by decide) (fun c_7 => ?_) (fun c_7 => ?_)
        · have hF := (if_pos c_7).symm.trans hF
          have c_7 : t6.toInt ≤ 99 := il_le c_7
          refine lv_iload_n hx hb dX12_luck_47 rfl (lv_at hl 2 rfl) ?_
          refine lv_i2l hx hb dX12_luck_48 rfl ?_
          refine lv_topl (fun l8 el8 => ?_)
          have hF := mi_let hF el8
          have al8 : l8.toInt = vs.toInt := by rw [el8]; exact Int32.toInt_toInt64 _
          refine lv_lstore_n (lv' := [(3, .long l8), (0, .ref (ad 0)), (1, .int vn), (2, .int vs)]) hx hb dX12_luck_49 rfl hl (by decide) rfl (fun ls hl => ?_)
          refine lv_iconst (v := 0) hx hb dX12_luck_50 (by decide) ?_
          refine lv_istore (lv' := [(5, .int 0), (3, .long l8), (0, .ref (ad 0)), (1, .int vn), (2, .int vs)]) hx hb dX12_luck_51 hl (by decide) rfl (fun ls hl => ?_)
          refine lv_iconst (v := 0) hx hb dX12_luck_53 (by decide) ?_
          refine lv_istore (lv' := [(6, .int 0), (5, .int 0), (3, .long l8), (0, .ref (ad 0)), (1, .int vn), (2, .int vs)]) hx hb dX12_luck_54 hl (by decide) rfl (fun ls hl => ?_)
          have loop56 : ∀ (n56 : Nat) (v3_56 : Int64) (v5_56 : Int32) (v6_56 : Int32) (nu56_ : Nat → Nat → Int32) (H : Heap) (locs : List Loc) (ls : Array Slot), (40 + 1 - v6_56.toInt).toNat < n56 → (0 ≤ v3_56.toInt ∧ v3_56.toInt ≤ 2147483646) → (0 ≤ v6_56.toInt ∧ v6_56.toInt ≤ 40) → okR loM hiM nu56_ → va_P (dC, dI) vwCl (wR 21 ad (EM cs ad) nu56_) H → (∀ k f : Nat, Nat.testBit 358 (gpM k f) = true → nu56_ k f = mu k f) → L_qm_luck_56_0 mu vn n56 v3_56 v5_56 v6_56 nu56_ = fz → va_S (va_A (wR 21 ad (EM cs ad) mu) s.heap.size) s.heap H locs → lv_has ls 11 [(6, .int v6_56), (5, .int v5_56), (3, .long v3_56), (0, .ref (ad 0)), (1, .int vn), (2, .int vs)] → W p l e (headSpec (wU yX12_luck cX12_luck 11 (some .int)) ({ frames := 3, cells := 0, slots := 0, locals := 73 })).room s m ([.ref (ad 0), .int vn, .int vs] : List Value).toArray below meth c H locs 0 0 (MQ below (va_Qi (fun (z : Int32) (xi : Nat → Nat → Int32) => (z, xi) = F_qm_luck mu vn vs ∧ okR loM hiM xi ∧ (True) ∧ (∀ k f : Nat, Nat.testBit 358 (gpM k f) = true → xi k f = mu k f)) (fun xi t => va_P (dC, dI) vwCl (wR 21 ad (EM cs ad) xi) t.heap) (va_A (wR 21 ad (EM cs ad) mu) s.heap.size)) ([.ref (ad 0), .int vn, .int vs] : List Value).toArray s 0 0 (va_A (wR 21 ad (EM cs ad) mu) s.heap.size)) (F0 m 56 ls []) := by
            intro n56
            induction n56 with
            | zero => intro v3_56 v5_56 v6_56 nu56_ H locs ls hm; exact absurd hm (Nat.not_lt_zero _)
            | succ n56 ih56 =>
              intro v3_56 v5_56 v6_56 nu56_ H locs ls hm h_v3_56 h_v6_56 ok hP kq56_0 hF hS hl
              rw [L_qm_luck_56_0] at hF
              refine lv_iload hx hb dX12_luck_56 (lv_at hl 0 rfl) ?_
              refine lv_iload_n hx hb dX12_luck_58 rfl (lv_at hl 4 rfl) ?_
              refine lv_icmp_ge (tgt := 212) hx hb dX12_luck_59 (by decide) (fun c_9 => ?_) (fun c_9 => ?_)
              · have hF := (if_pos c_9).symm.trans hF
                have c_9 : vn.toInt ≤ v6_56.toInt := il_le c_9
                refine lv_iload hx hb dX12_luck_212 (lv_at hl 1 rfl) ?_
                exact W.iret (v := v5_56) hx hb hr (fun t ht hW => ⟨⟨v5_56, nu56_, rfl, ⟨hF.trans hfz.symm, ok, trivial, kq56_0⟩, by first | (subst ht; exact hP) | (rw [ht]; exact hP) | (show va_P (dC, dI) vwCl (wR 21 ad (EM cs ad) nu56_) t.heap; rw [ht]; exact hP)⟩, hS.F ht⟩) hS.2.2 dX12_luck_214
              · have hF := (if_neg c_9).symm.trans hF
                have c_9 : v6_56.toInt < vn.toInt := il_nle c_9
                refine lv_iconst (v := 0) hx hb dX12_luck_62 (by decide) ?_
                refine lv_istore (lv' := [(7, .int 0), (6, .int v6_56), (5, .int v5_56), (3, .long v3_56), (0, .ref (ad 0)), (1, .int vn), (2, .int vs)]) hx hb dX12_luck_63 hl (by decide) rfl (fun ls hl => ?_)
                have loop65 : ∀ (n65 : Nat) (v3_65 : Int64) (v5_65 : Int32) (v7_65 : Int32) (nu65_ : Nat → Nat → Int32) (H : Heap) (locs : List Loc) (ls : Array Slot), (4 + 1 - v7_65.toInt).toNat < n65 → (0 ≤ v3_65.toInt ∧ v3_65.toInt ≤ 2147483646) → (0 ≤ v7_65.toInt ∧ v7_65.toInt ≤ 4) → okR loM hiM nu65_ → va_P (dC, dI) vwCl (wR 21 ad (EM cs ad) nu65_) H → (∀ k f : Nat, Nat.testBit 358 (gpM k f) = true → nu65_ k f = mu k f) → L_qm_luck_65_1 mu v6_56 (fun z_v3_56 z_v5_56 z_v6_56 z_nu56_ => L_qm_luck_56_0 mu vn n56 z_v3_56 z_v5_56 z_v6_56 z_nu56_) n65 v3_65 v5_65 v7_65 nu65_ = fz → va_S (va_A (wR 21 ad (EM cs ad) mu) s.heap.size) s.heap H locs → lv_has ls 11 [(7, .int v7_65), (6, .int v6_56), (5, .int v5_65), (3, .long v3_65), (0, .ref (ad 0)), (1, .int vn), (2, .int vs)] → W p l e (headSpec (wU yX12_luck cX12_luck 11 (some .int)) ({ frames := 3, cells := 0, slots := 0, locals := 73 })).room s m ([.ref (ad 0), .int vn, .int vs] : List Value).toArray below meth c H locs 0 0 (MQ below (va_Qi (fun (z : Int32) (xi : Nat → Nat → Int32) => (z, xi) = F_qm_luck mu vn vs ∧ okR loM hiM xi ∧ (True) ∧ (∀ k f : Nat, Nat.testBit 358 (gpM k f) = true → xi k f = mu k f)) (fun xi t => va_P (dC, dI) vwCl (wR 21 ad (EM cs ad) xi) t.heap) (va_A (wR 21 ad (EM cs ad) mu) s.heap.size)) ([.ref (ad 0), .int vn, .int vs] : List Value).toArray s 0 0 (va_A (wR 21 ad (EM cs ad) mu) s.heap.size)) (F0 m 65 ls []) := by
                  intro n65
                  induction n65 with
                  | zero => intro v3_65 v5_65 v7_65 nu65_ H locs ls hm; exact absurd hm (Nat.not_lt_zero _)
                  | succ n65 ih65 =>
                    intro v3_65 v5_65 v7_65 nu65_ H locs ls hm h_v3_65 h_v7_65 ok hP kq65_0 hF hS hl
                    rw [L_qm_luck_65_1] at hF
                    refine lv_iload hx hb dX12_luck_65 (lv_at hl 0 rfl) ?_
                    refine lv_aload_n hx hb dX12_luck_67 rfl (lv_at hl 4 rfl) ?_
                    refine va_get (D := (dC, dI)) (ci := 12) (v := .int (nu65_ 0 15)) (C := RX12) (T := TX12) (N := 46) hx hb hts inG12 hown hK hP 0 (gM_0 cs ad nu65_) rfl 15 (by decide) (hts _ (List.mem_cons_of_mem _ mw_5_56)) (fun _ h9 => h9) rfl dX12_luck_68 ?_
                    refine lv_topi (fun y10 ey10 => ?_)
                    have hF := mi_let hF ey10
                    have by10 : y10.toInt = (nu65_ 0 15).toInt := congrArg Int32.toInt ey10
                    have gy10 : 0 ≤ y10.toInt ∧ y10.toInt ≤ 4 := by rw [ey10]; exact rM_0_15 ok
                    refine lv_icmp_ge (tgt := 196) hx hb dX12_luck_71 (by decide) (fun c_11 => ?_) (fun c_11 => ?_)
                    · have hF := (if_pos c_11).symm.trans hF
                      have c_11 : y10.toInt ≤ v7_65.toInt := il_le c_11
                      refine lv_aload_n hx hb dX12_luck_196 rfl (lv_at hl 4 rfl) ?_
                      refine lv_dup hx hb dX12_luck_197 rfl ?_
                      refine va_get (D := (dC, dI)) (ci := 12) (v := .int (nu65_ 0 14)) (C := RX12) (T := TX12) (N := 46) hx hb hts inG12 hown hK hP 0 (gM_0 cs ad nu65_) rfl 14 (by decide) (hts _ (List.mem_cons_of_mem _ mw_5_55)) (fun _ h9 => h9) rfl dX12_luck_198 ?_
                      refine lv_topi (fun y12 ey12 => ?_)
                      have hF := mi_let hF ey12
                      have by12 : y12.toInt = (nu65_ 0 14).toInt := congrArg Int32.toInt ey12
                      refine lv_iconst (v := 1) hx hb dX12_luck_201 (by decide) ?_
                      refine lv_iadd hx hb dX12_luck_202 ?_
                      refine lv_topi (fun t13 et13 => ?_)
                      have hF := mi_let hF et13
                      refine va_put (D := (dC, dI)) (ci := 12) (v := .int t13) (ty := .int) (C := RX12) (T := TX12) (N := 46) hx hb hts inG12 tyX12 tyX12_ok nmX12 hown hK hP (wR_D nu65_ hD) hS 0 (gM_0 cs ad nu65_) rfl 14 (by decide) (hts _ (List.mem_cons_of_mem _ mw_5_55)) (fun _ h9 => h9) rfl (by decide +kernel) rfl rfl (Nat.le_of_ble_eq_true rfl) dX12_luck_203 (fun H locs hP _ hS => ?_)
                      simp only [List.set_cons_succ, List.set_cons_zero] at hP
                      refine wr_gen (upd (nu65_ 0) 14 t13) hP ((hM_0_14 cs ad _ _)) (fun nu14 hn14 hP => ?_)
                      have hF := mi_let hF hn14.symm
                      have ok := tM_0_14 ok hn14
                      have ez15 : y10 = nu14 0 15 := ey10.trans (up_f hn14 (by decide)).symm
                      have kp16 : (∀ k f : Nat, Nat.testBit 358 (gpM k f) = true → nu14 k f = mu k f) := kp_f hn14 (by decide) kq65_0
                      have ez17 : t13 = nu14 0 14 := up_v hn14
                      refine lv_iinc (v := (v6_56 + 1)) (lv' := [(6, .int (v6_56 + 1)), (7, .int v7_65), (5, .int v5_65), (3, .long v3_65), (0, .ref (ad 0)), (1, .int vn), (2, .int vs)]) hx hb dX12_luck_206 hl (k := 1) rfl rfl (by decide) rfl (fun ls hl => ?_)
                      refine loc_gen (P := fun w9 => lv_has ls 11 [(6, .int w9), (7, .int v7_65), (5, .int v5_65), (3, .long v3_65), (0, .ref (ad 0)), (1, .int vn), (2, .int vs)]) (v6_56 + 1) hl (fun w18 hw18 hl => ?_)
                      have hl : lv_has ls 11 [(6, .int w18), (7, .int v7_65), (5, .int v5_65), (3, .long v3_65), (0, .ref (ad 0)), (1, .int vn), (2, .int vs)] := hl
                      have hF := mi_let hF hw18.symm
                      have aw18 : w18.toInt = v6_56.toInt + 1 := by rw [← hw18]; exact va1 (by omega)
                      refine lv_goto (tgt := 56) hx hb dX12_luck_209 (by decide) ?_
                      exact ih56 (v3_65) (v5_65) (w18) nu14 _ _ _ (by omega) (by omega) (by omega)  ok hP  kp16 hF hS (lv_sub hl [0, 2, 3, 4, 5, 6] rfl)
                    · have hF := (if_neg c_11).symm.trans hF
                      have c_11 : v7_65.toInt < y10.toInt := il_nle c_11
                      refine lv_aload_n hx hb dX12_luck_74 rfl (lv_at hl 4 rfl) ?_
                      refine lv_iload hx hb dX12_luck_75 (lv_at hl 0 rfl) ?_
                      refine cr_i (va_runV (As := [.int v7_65]) (rest := []) ⟨hx, hb, hml, hown, hts⟩ (sm_canSell l dC dI cs ad nu65_ ok H hP v7_65 (by omega)) (cwV 1 hts (wU_V mw_6_118 mw_6_115 mw_6_117 mw_0_47 mw_1_13) rfl rfl rfl (by decide +kernel) ⟨Nat.le_of_ble_eq_true rfl, Nat.le_of_ble_eq_true rfl⟩) ⟨sz_c, va_recv hK hP (ci := 12) (q0 := 0) rfl (gM_0 cs ad nu65_), sz_m hK hz⟩ rfl rfl hl.1 rfl (lv_room (Nat.le_of_ble_eq_true rfl)) dX12_luck_77 ⟨Nat.zero_le _, Nat.zero_le _⟩) hS (fun r19 hw19 locs hS => ?_)
                      obtain ⟨hfe19, hw19⟩ := hw19
                      have hF := mi_let hF hfe19
                      have gr19 : 0 ≤ r19.toInt ∧ r19.toInt ≤ 127 := hw19
                      refine lv_istore (lv' := [(8, .int r19), (7, .int v7_65), (6, .int v6_56), (5, .int v5_65), (3, .long v3_65), (0, .ref (ad 0)), (1, .int vn), (2, .int vs)]) hx hb dX12_luck_80 hl (by decide) rfl (fun ls hl => ?_)
                      refine lv_iload hx hb dX12_luck_82 (lv_at hl 0 rfl) ?_
                      refine lv_if_eq (tgt := 99) hx hb dX12_luck_84 (by decide) (fun c_20 => ?_) (fun c_20 => ?_)
                      · have hF := (if_pos c_20).symm.trans hF
                        have c_20 : r19.toInt = 0 := il_eq c_20
                        refine lv_iload hx hb dX12_luck_99 (lv_at hl 0 rfl) ?_
                        refine lv_if_eq (tgt := 190) hx hb dX12_luck_101 (by decide) (fun c_21 => ?_) (fun c_21 => by have c_21 : ¬ r19.toInt = 0 := il_ne c_21; exfalso; omega)
                        have c_21 : r19.toInt = 0 := il_eq c_21
                        refine lv_iinc (v := (v7_65 + 1)) (lv' := [(7, .int (v7_65 + 1)), (8, .int r19), (6, .int v6_56), (5, .int v5_65), (3, .long v3_65), (0, .ref (ad 0)), (1, .int vn), (2, .int vs)]) hx hb dX12_luck_190 hl (k := 1) rfl rfl (by decide) rfl (fun ls hl => ?_)
                        refine loc_gen (P := fun w9 => lv_has ls 11 [(7, .int w9), (8, .int r19), (6, .int v6_56), (5, .int v5_65), (3, .long v3_65), (0, .ref (ad 0)), (1, .int vn), (2, .int vs)]) (v7_65 + 1) hl (fun w22 hw22 hl => ?_)
                        have hl : lv_has ls 11 [(7, .int w22), (8, .int r19), (6, .int v6_56), (5, .int v5_65), (3, .long v3_65), (0, .ref (ad 0)), (1, .int vn), (2, .int vs)] := hl
                        have hF := mi_let hF hw22.symm
                        have aw22 : w22.toInt = v7_65.toInt + 1 := by rw [← hw22]; exact va1 (by omega)
                        refine lv_goto (tgt := 65) hx hb dX12_luck_193 (by decide) ?_
                        exact ih65 (v3_65) (v5_65) (w22) nu65_ _ _ _ (by omega) (by omega) (by omega)  ok hP  kq65_0 hF hS (lv_sub hl [0, 2, 3, 4, 5, 6, 7] rfl)
                      · have hF := (if_neg c_20).symm.trans hF
                        have c_20 : ¬ r19.toInt = 0 := il_ne c_20
                        refine lv_aload_n hx hb dX12_luck_87 rfl (lv_at hl 5 rfl) ?_
                        refine va_get (D := (dC, dI)) (ci := 12) (v := .int (nu65_ 0 17)) (C := RX12) (T := TX12) (N := 46) hx hb hts inG12 hown hK hP 0 (gM_0 cs ad nu65_) rfl 17 (by decide) (hts _ (List.mem_cons_of_mem _ mw_5_58)) (fun _ h9 => h9) rfl dX12_luck_88 ?_
                        refine lv_topi (fun y23 ey23 => ?_)
                        have hF := mi_let hF ey23
                        have by23 : y23.toInt = (nu65_ 0 17).toInt := congrArg Int32.toInt ey23
                        have gy23 : 0 ≤ y23.toInt ∧ y23.toInt ≤ 40 := by rw [ey23]; exact rM_0_17 ok
                        refine lv_bipush (v := 40) hx hb dX12_luck_91 (by decide) ?_
                        refine lv_icmp_ne (tgt := 99) hx hb dX12_luck_93 (by decide) (fun c_24 => ?_) (fun c_24 => ?_)
                        · have hF := (if_neg c_24).symm.trans hF
                          have c_24 : ¬ y23.toInt = 40 := il_ne c_24
                          refine lv_iload hx hb dX12_luck_99 (lv_at hl 0 rfl) ?_
                          refine lv_if_eq (tgt := 190) hx hb dX12_luck_101 (by decide) (fun c_25 => by have c_25 : r19.toInt = 0 := il_eq c_25; exfalso; omega) (fun c_25 => ?_)
                          have c_25 : ¬ r19.toInt = 0 := il_ne c_25
                          refine lv_ldc2 (v := 48271) hx hb hown (hts _ (List.mem_cons_of_mem _ mw_7_38)) dX12_luck_104 ?_
                          refine lv_lload_n hx hb dX12_luck_107 rfl (lv_at hl 4 rfl) ?_
                          refine lv_lmul hx hb dX12_luck_108 ?_
                          refine lv_topl (fun l26 el26 => ?_)
                          have hF := mi_let hF el26
                          refine lv_ldc2 (v := 2147483647) hx hb hown (hts _ (List.mem_cons_of_mem _ mw_7_39)) dX12_luck_109 ?_
                          refine lv_lrem hx hb dX12_luck_112 (by decide) ?_
                          refine lv_topl (fun l27 el27 => ?_)
                          have hF := mi_let hF el27
                          have gl27 : 0 ≤ l27.toInt ∧ l27.toInt ≤ 2147483646 := lot_rng (n := v3_65) ⟨by omega, by omega⟩ el26 (el27.trans (lrem_eq _ _))
                          refine lv_lstore_n (lv' := [(3, .long l27), (8, .int r19), (7, .int v7_65), (6, .int v6_56), (5, .int v5_65), (0, .ref (ad 0)), (1, .int vn), (2, .int vs)]) hx hb dX12_luck_113 rfl hl (by decide) rfl (fun ls hl => ?_)
                          refine lv_lload_n hx hb dX12_luck_114 rfl (lv_at hl 0 rfl) ?_
                          refine lv_iload hx hb dX12_luck_115 (lv_at hl 1 rfl) ?_
                          refine cr_i (va_runS (As := [.int r19]) (rest := [.long l27]) ⟨hx, hb, hml, hown, hts⟩ (sm_sizeOf l dC dI (tyM cs) H r19) (va_cwS 1 hts (wU_S mw_6_62 mw_6_60 mw_6_61 mw_1_13) rfl rfl rfl (by decide +kernel) ⟨Nat.le_of_ble_eq_true rfl, Nat.le_of_ble_eq_true rfl⟩) ⟨sz_c, sz_m hK hz⟩ rfl rfl hl.1 rfl (lv_room (Nat.le_of_ble_eq_true rfl)) dX12_luck_117 ⟨Nat.zero_le _, Nat.zero_le _⟩) hS (fun r28 hw28 locs hS => ?_)
                          obtain ⟨hfe28, hw28⟩ := hw28
                          have hF := mi_let hF hfe28
                          have gr28 : r28 = so r19 ∧ (0 ≤ r19.toInt → r19.toInt ≤ 127 → r28.toInt = (pp r19.toNatClampNeg : Int) ∧ pp r19.toNatClampNeg ≤ 7 ∧ (r19.toInt = 0 ∨ 1 ≤ pp r19.toNatClampNeg)) := hw28
                          refine lv_i2l hx hb dX12_luck_120 rfl ?_
                          refine lv_topl (fun l29 el29 => ?_)
                          have hF := mi_let hF el29
                          have al29 : l29.toInt = r28.toInt := by rw [el29]; exact Int32.toInt_toInt64 _
                          refine lv_lrem hx hb dX12_luck_121 (by rw [el29]; exact l_ne (by omega)) ?_
                          refine lv_topl (fun l30 el30 => ?_)
                          have hF := mi_let hF el30
                          have gl30 : 0 ≤ l30.toInt ∧ l30.toInt < r28.toInt := by rw [el30, lrem_eq]; exact lrem_rng (by omega) al29 (by omega)
                          refine lv_l2i hx hb dX12_luck_122 rfl ?_
                          refine lv_topi (fun t31 et31 => ?_)
                          have hF := mi_let hF et31
                          have at31 : t31.toInt = l30.toInt := l2i_of et31 (by omega) (by omega)
                          refine lv_istore (lv' := [(9, .int t31), (3, .long l27), (8, .int r19), (7, .int v7_65), (6, .int v6_56), (5, .int v5_65), (0, .ref (ad 0)), (1, .int vn), (2, .int vs)]) hx hb dX12_luck_123 hl (by decide) rfl (fun ls hl => ?_)
                          refine lv_iconst (v := 0) hx hb dX12_luck_125 (by decide) ?_
                          refine lv_istore (lv' := [(10, .int 0), (9, .int t31), (3, .long l27), (8, .int r19), (7, .int v7_65), (6, .int v6_56), (5, .int v5_65), (0, .ref (ad 0)), (1, .int vn), (2, .int vs)]) hx hb dX12_luck_126 hl (by decide) rfl (fun ls hl => ?_)
                          have loop128 : ∀ (n128 : Nat) (v9_128 : Int32) (v10_128 : Int32) (nu128_ : Nat → Nat → Int32) (H : Heap) (locs : List Loc) (ls : Array Slot), (7 + 1 - v10_128.toInt).toNat < n128 → (0 ≤ v9_128.toInt ∧ v9_128.toInt ≤ 6) → (0 ≤ v10_128.toInt ∧ v10_128.toInt ≤ 7) → (v9_128.toInt < (ab (r19 : Int32).toNatClampNeg v10_128.toNatClampNeg : Int)) → okR loM hiM nu128_ → va_P (dC, dI) vwCl (wR 21 ad (EM cs ad) nu128_) H → y23 = nu128_ 0 17 → (∀ k f : Nat, Nat.testBit 358 (gpM k f) = true → nu128_ k f = mu k f) → L_qm_luck_128_2 l27 mu r19 v5_65 v7_65 (fun z_v3_65 z_v5_65 z_v7_65 z_nu65_ => L_qm_luck_65_1 mu v6_56 (fun z_v3_56 z_v5_56 z_v6_56 z_nu56_ => L_qm_luck_56_0 mu vn n56 z_v3_56 z_v5_56 z_v6_56 z_nu56_) n65 z_v3_65 z_v5_65 z_v7_65 z_nu65_) n128 v9_128 v10_128 nu128_ = fz → va_S (va_A (wR 21 ad (EM cs ad) mu) s.heap.size) s.heap H locs → lv_has ls 11 [(10, .int v10_128), (9, .int v9_128), (3, .long l27), (8, .int r19), (7, .int v7_65), (6, .int v6_56), (5, .int v5_65), (0, .ref (ad 0)), (1, .int vn), (2, .int vs)] → W p l e (headSpec (wU yX12_luck cX12_luck 11 (some .int)) ({ frames := 3, cells := 0, slots := 0, locals := 73 })).room s m ([.ref (ad 0), .int vn, .int vs] : List Value).toArray below meth c H locs 0 0 (MQ below (va_Qi (fun (z : Int32) (xi : Nat → Nat → Int32) => (z, xi) = F_qm_luck mu vn vs ∧ okR loM hiM xi ∧ (True) ∧ (∀ k f : Nat, Nat.testBit 358 (gpM k f) = true → xi k f = mu k f)) (fun xi t => va_P (dC, dI) vwCl (wR 21 ad (EM cs ad) xi) t.heap) (va_A (wR 21 ad (EM cs ad) mu) s.heap.size)) ([.ref (ad 0), .int vn, .int vs] : List Value).toArray s 0 0 (va_A (wR 21 ad (EM cs ad) mu) s.heap.size)) (F0 m 128 ls []) := by
                            intro n128
                            induction n128 with
                            | zero => intro v9_128 v10_128 nu128_ H locs ls hm; exact absurd hm (Nat.not_lt_zero _)
                            | succ n128 ih128 =>
                              intro v9_128 v10_128 nu128_ H locs ls hm h_v9_128 h_v10_128 hi128_0 ok hP ek128_0 kq128_0 hF hS hl
                              rw [L_qm_luck_128_2] at hF
                              have h10_6 : v10_128.toInt ≤ 6 := by
                                rcases Int.lt_or_le v10_128.toInt 7 with h7 | h7
                                · omega
                                · exfalso
                                  have u1 := tC_of (v := v10_128) (by omega)
                                  have u2 := tC_of (v := (r19 : Int32)) (by omega)
                                  rw [show v10_128.toNatClampNeg = 7 by omega, ab_7 _ (by omega)] at hi128_0
                                  omega
                              refine lv_iload hx hb dX12_luck_128 (lv_at hl 3 rfl) ?_
                              refine lv_iload hx hb dX12_luck_130 (lv_at hl 0 rfl) ?_
                              refine cr_i (va_runS (As := [.int r19, .int v10_128]) (rest := []) ⟨hx, hb, hml, hown, hts⟩ (sm_has l dC dI (tyM cs) H r19 v10_128) (va_cwS 2 hts (wU_S mw_6_59 mw_6_57 mw_6_58 mw_1_13) rfl rfl rfl (by decide +kernel) ⟨Nat.le_of_ble_eq_true rfl, Nat.le_of_ble_eq_true rfl⟩) ⟨sz_c, sz_m hK hz⟩ rfl rfl hl.1 rfl (lv_room (Nat.le_of_ble_eq_true rfl)) dX12_luck_132 ⟨Nat.zero_le _, Nat.zero_le _⟩) hS (fun r32 hw32 locs hS => ?_)
                              obtain ⟨hfe32, hw32⟩ := hw32
                              rcases hw32 with ⟨rfl, f32⟩ | ⟨rfl, f32⟩
                              · have hF := (if_pos hfe32.symm).symm.trans hF
                                have f32 : rb r19 v10_128 = 1 := f32
                                refine lv_if_eq (tgt := 143) hx hb dX12_luck_135 (by decide) (fun c => absurd c (by decide)) (fun _ => ?_)
                                refine lv_iload hx hb dX12_luck_138 (lv_at hl 1 rfl) ?_
                                refine lv_if_le (tgt := 169) hx hb dX12_luck_140 (by decide) (fun c_33 => ?_) (fun c_33 => ?_)
                                · have hF := (if_pos c_33).symm.trans hF
                                  have c_33 : v9_128.toInt ≤ 0 := il_le c_33
                                  refine lv_aload_n hx hb dX12_luck_169 rfl (lv_at hl 7 rfl) ?_
                                  refine lv_iload hx hb dX12_luck_170 (lv_at hl 4 rfl) ?_
                                  refine lv_iload hx hb dX12_luck_172 (lv_at hl 0 rfl) ?_
                                  have hFc := fr_all (wR_D nu128_ hD) hS hA
                                  refine va_callv (va_runV (As := [.int v7_65, .int v10_128]) (rest := []) ⟨hx, hb, hml, hown, hts⟩ (sm_sellTo l dC dI cs ad nu128_ ok H hP ((wR_D nu128_ hD).weaken (fun _ _ _ _ => trivial)) v7_65 v10_128 (by omega) (by have hb34 := congrArg Int32.toInt ek128_0; omega)) (cwV 2 hts (wU_V mw_6_130 mw_6_127 mw_6_129 mw_0_50 mw_1_13) rfl rfl rfl (by decide +kernel) ⟨Nat.le_of_ble_eq_true rfl, Nat.le_of_ble_eq_true rfl⟩) ⟨sz_c, va_recv hK hP (ci := 12) (q0 := 0) rfl (gM_0 cs ad nu128_), sz_m hK hz⟩ rfl rfl hl.1 rfl (lv_room (Nat.le_of_ble_eq_true rfl)) dX12_luck_174 ⟨Nat.zero_le _, Nat.zero_le _⟩) hS (fun q _ h => hFc q h) hFc (fun xi35 t H35 locs ht hvm hw35 hB hz1 hk1 hS => ?_)
                                  have hP : va_P (dC, dI) vwCl (wR 21 ad (EM cs ad) xi35) H35 := by rw [← ht]; exact hB
                                  obtain ⟨hfe35, ok, hw35, hkp35_0⟩ := hw35
                                  have hF := mi_let hF hfe35
                                  have kp36 : (∀ k f : Nat, Nat.testBit 358 (gpM k f) = true → xi35 k f = mu k f) := kp_t hkp35_0 (by decide) kq128_0
                                  refine lv_iload hx hb dX12_luck_177 (lv_at hl 6 rfl) ?_
                                  refine lv_aload_n hx hb dX12_luck_179 rfl (lv_at hl 7 rfl) ?_
                                  refine lv_iload hx hb dX12_luck_180 (lv_at hl 4 rfl) ?_
                                  refine lv_bipush (v := 9) hx hb dX12_luck_182 (by decide) ?_
                                  refine cr_i (va_runV (As := [.int v7_65, .int 9]) (rest := [.int v5_65]) ⟨hx, hb, hml, hown, hts⟩ (sm_letterOf l dC dI cs ad xi35 ok H35 hP v7_65 9 (by have h51 : (9 : Int32).toInt = 9 := rfl; omega)) (cwV 2 hts (wU_V mw_6_48 mw_6_45 mw_6_47 mw_0_38 mw_1_13) rfl rfl rfl (by decide +kernel) ⟨Nat.le_of_ble_eq_true rfl, Nat.le_of_ble_eq_true rfl⟩) ⟨sz_c, va_recv hK hP (ci := 12) (q0 := 0) rfl (gM_0 cs ad xi35), sz_m hK hz⟩ rfl rfl hl.1 rfl (lv_room (Nat.le_of_ble_eq_true rfl)) dX12_luck_184 ⟨Nat.zero_le _, Nat.zero_le _⟩) hS (fun r37 hw37 locs hS => ?_)
                                  obtain ⟨hfe37, hw37⟩ := hw37
                                  have hF := mi_let hF hfe37
                                  refine lv_iadd hx hb dX12_luck_187 ?_
                                  refine lv_topi (fun t38 et38 => ?_)
                                  have hF := mi_let hF et38
                                  refine lv_istore (lv' := [(5, .int t38), (10, .int v10_128), (9, .int v9_128), (3, .long l27), (8, .int r19), (7, .int v7_65), (6, .int v6_56), (0, .ref (ad 0)), (1, .int vn), (2, .int vs)]) hx hb dX12_luck_188 hl (by decide) rfl (fun ls hl => ?_)
                                  refine lv_iinc (v := (v7_65 + 1)) (lv' := [(7, .int (v7_65 + 1)), (5, .int t38), (10, .int v10_128), (9, .int v9_128), (3, .long l27), (8, .int r19), (6, .int v6_56), (0, .ref (ad 0)), (1, .int vn), (2, .int vs)]) hx hb dX12_luck_190 hl (k := 5) rfl rfl (by decide) rfl (fun ls hl => ?_)
                                  refine loc_gen (P := fun w9 => lv_has ls 11 [(7, .int w9), (5, .int t38), (10, .int v10_128), (9, .int v9_128), (3, .long l27), (8, .int r19), (6, .int v6_56), (0, .ref (ad 0)), (1, .int vn), (2, .int vs)]) (v7_65 + 1) hl (fun w39 hw39 hl => ?_)
                                  have hl : lv_has ls 11 [(7, .int w39), (5, .int t38), (10, .int v10_128), (9, .int v9_128), (3, .long l27), (8, .int r19), (6, .int v6_56), (0, .ref (ad 0)), (1, .int vn), (2, .int vs)] := hl
                                  have hF := mi_let hF hw39.symm
                                  have aw39 : w39.toInt = v7_65.toInt + 1 := by rw [← hw39]; exact va1 (by omega)
                                  refine lv_goto (tgt := 65) hx hb dX12_luck_193 (by decide) ?_
                                  exact ih65 (l27) (t38) (w39) xi35 _ _ _ (by omega) (by omega) (by omega)  ok hP  kp36 hF hS (lv_sub hl [0, 6, 1, 4, 7, 8, 9] rfl)
                                · have hF := (if_neg c_33).symm.trans hF
                                  have c_33 : 0 < v9_128.toInt := il_nle c_33
                                  refine lv_iload hx hb dX12_luck_143 (lv_at hl 1 rfl) ?_
                                  refine lv_iload hx hb dX12_luck_145 (lv_at hl 3 rfl) ?_
                                  refine lv_iload hx hb dX12_luck_147 (lv_at hl 0 rfl) ?_
                                  refine cr_i (va_runS (As := [.int r19, .int v10_128]) (rest := [.int v9_128]) ⟨hx, hb, hml, hown, hts⟩ (sm_has l dC dI (tyM cs) H r19 v10_128) (va_cwS 2 hts (wU_S mw_6_59 mw_6_57 mw_6_58 mw_1_13) rfl rfl rfl (by decide +kernel) ⟨Nat.le_of_ble_eq_true rfl, Nat.le_of_ble_eq_true rfl⟩) ⟨sz_c, sz_m hK hz⟩ rfl rfl hl.1 rfl (lv_room (Nat.le_of_ble_eq_true rfl)) dX12_luck_149 ⟨Nat.zero_le _, Nat.zero_le _⟩) hS (fun r40 hw40 locs hS => ?_)
                                  obtain ⟨hfe40, hw40⟩ := hw40
                                  rcases hw40 with ⟨rfl, f40⟩ | ⟨rfl, f40⟩
                                  · have hF := (if_pos hfe40.symm).symm.trans hF
                                    have f40 : rb r19 v10_128 = 1 := f40
                                    refine lv_if_eq (tgt := 159) hx hb dX12_luck_152 (by decide) (fun c => absurd c (by decide)) (fun _ => ?_)
                                    refine lv_iconst (v := 1) hx hb dX12_luck_155 (by decide) ?_
                                    refine lv_goto (tgt := 160) hx hb dX12_luck_156 (by decide) ?_
                                    refine lv_isub hx hb dX12_luck_160 ?_
                                    refine lv_topi (fun t41 et41 => ?_)
                                    have hF := mi_let hF et41
                                    have at41 : t41.toInt = v9_128.toInt - 1 := by rw [et41]; exact tI_sub (rfl : v9_128.toInt = _) (rfl : (1 : Int32).toInt = 1) (by omega) (by omega)
                                    refine lv_istore (lv' := [(9, .int t41), (10, .int v10_128), (3, .long l27), (8, .int r19), (7, .int v7_65), (6, .int v6_56), (5, .int v5_65), (0, .ref (ad 0)), (1, .int vn), (2, .int vs)]) hx hb dX12_luck_161 hl (by decide) rfl (fun ls hl => ?_)
                                    refine lv_iinc (v := (v10_128 + 1)) (lv' := [(10, .int (v10_128 + 1)), (9, .int t41), (3, .long l27), (8, .int r19), (7, .int v7_65), (6, .int v6_56), (5, .int v5_65), (0, .ref (ad 0)), (1, .int vn), (2, .int vs)]) hx hb dX12_luck_163 hl (k := 1) rfl rfl (by decide) rfl (fun ls hl => ?_)
                                    refine loc_gen (P := fun w9 => lv_has ls 11 [(10, .int w9), (9, .int t41), (3, .long l27), (8, .int r19), (7, .int v7_65), (6, .int v6_56), (5, .int v5_65), (0, .ref (ad 0)), (1, .int vn), (2, .int vs)]) (v10_128 + 1) hl (fun w42 hw42 hl => ?_)
                                    have hl : lv_has ls 11 [(10, .int w42), (9, .int t41), (3, .long l27), (8, .int r19), (7, .int v7_65), (6, .int v6_56), (5, .int v5_65), (0, .ref (ad 0)), (1, .int vn), (2, .int vs)] := hl
                                    have hF := mi_let hF hw42.symm
                                    have aw42 : w42.toInt = v10_128.toInt + 1 := by rw [← hw42]; exact va1 (by omega)
                                    refine lv_goto (tgt := 128) hx hb dX12_luck_166 (by decide) ?_
                                    exact ih128 (t41) (w42) nu128_ _ _ _ (by omega) (by omega) (by omega) (by have h7 := ab_step (v := r19) (x := v10_128) (by omega) (by omega) (by omega) (by omega); have h6 : w42.toNatClampNeg = v10_128.toNatClampNeg + 1 := (by have u1 := tC_of (v := w42) (by omega); have u2 := tC_of (v := v10_128) (by omega); omega); rw [h6]; by_cases h5 : rb r19 v10_128 = 1; (have h4 := h7.1 h5; first | exact absurd h5 f32 | exact absurd f32 h5 | omega | contradiction); (have h4 := h7.2 h5; first | exact absurd h5 f32 | exact absurd f32 h5 | omega | contradiction)) ok hP ek128_0 kq128_0 hF hS (lv_sub hl [0, 1, 2, 3, 4, 5, 6, 7, 8, 9] rfl)
                                  · exact absurd f32 f40
                              · have hF := (if_neg (fun h => absurd (hfe32.trans h) (by decide))).symm.trans hF
                                have f32 : ¬ rb r19 v10_128 = 1 := f32
                                refine lv_if_eq (tgt := 143) hx hb dX12_luck_135 (by decide) (fun _ => ?_) (fun c => absurd (by decide) c)
                                refine lv_iload hx hb dX12_luck_143 (lv_at hl 1 rfl) ?_
                                refine lv_iload hx hb dX12_luck_145 (lv_at hl 3 rfl) ?_
                                refine lv_iload hx hb dX12_luck_147 (lv_at hl 0 rfl) ?_
                                refine cr_i (va_runS (As := [.int r19, .int v10_128]) (rest := [.int v9_128]) ⟨hx, hb, hml, hown, hts⟩ (sm_has l dC dI (tyM cs) H r19 v10_128) (va_cwS 2 hts (wU_S mw_6_59 mw_6_57 mw_6_58 mw_1_13) rfl rfl rfl (by decide +kernel) ⟨Nat.le_of_ble_eq_true rfl, Nat.le_of_ble_eq_true rfl⟩) ⟨sz_c, sz_m hK hz⟩ rfl rfl hl.1 rfl (lv_room (Nat.le_of_ble_eq_true rfl)) dX12_luck_149 ⟨Nat.zero_le _, Nat.zero_le _⟩) hS (fun r43 hw43 locs hS => ?_)
                                obtain ⟨hfe43, hw43⟩ := hw43
                                rcases hw43 with ⟨rfl, f43⟩ | ⟨rfl, f43⟩
                                · exact absurd f43 f32
                                · have hF := (if_neg (fun h => absurd (hfe43.trans h) (by decide))).symm.trans hF
                                  have f43 : ¬ rb r19 v10_128 = 1 := f43
                                  refine lv_if_eq (tgt := 159) hx hb dX12_luck_152 (by decide) (fun _ => ?_) (fun c => absurd (by decide) c)
                                  refine lv_iconst (v := 0) hx hb dX12_luck_159 (by decide) ?_
                                  refine lv_isub hx hb dX12_luck_160 ?_
                                  refine lv_topi (fun t44 et44 => ?_)
                                  have hF := mi_let hF et44
                                  have at44 : t44.toInt = v9_128.toInt - 0 := by rw [et44]; exact tI_sub (rfl : v9_128.toInt = _) (rfl : (0 : Int32).toInt = 0) (by omega) (by omega)
                                  refine lv_istore (lv' := [(9, .int t44), (10, .int v10_128), (3, .long l27), (8, .int r19), (7, .int v7_65), (6, .int v6_56), (5, .int v5_65), (0, .ref (ad 0)), (1, .int vn), (2, .int vs)]) hx hb dX12_luck_161 hl (by decide) rfl (fun ls hl => ?_)
                                  refine lv_iinc (v := (v10_128 + 1)) (lv' := [(10, .int (v10_128 + 1)), (9, .int t44), (3, .long l27), (8, .int r19), (7, .int v7_65), (6, .int v6_56), (5, .int v5_65), (0, .ref (ad 0)), (1, .int vn), (2, .int vs)]) hx hb dX12_luck_163 hl (k := 1) rfl rfl (by decide) rfl (fun ls hl => ?_)
                                  refine loc_gen (P := fun w9 => lv_has ls 11 [(10, .int w9), (9, .int t44), (3, .long l27), (8, .int r19), (7, .int v7_65), (6, .int v6_56), (5, .int v5_65), (0, .ref (ad 0)), (1, .int vn), (2, .int vs)]) (v10_128 + 1) hl (fun w45 hw45 hl => ?_)
                                  have hl : lv_has ls 11 [(10, .int w45), (9, .int t44), (3, .long l27), (8, .int r19), (7, .int v7_65), (6, .int v6_56), (5, .int v5_65), (0, .ref (ad 0)), (1, .int vn), (2, .int vs)] := hl
                                  have hF := mi_let hF hw45.symm
                                  have aw45 : w45.toInt = v10_128.toInt + 1 := by rw [← hw45]; exact va1 (by omega)
                                  refine lv_goto (tgt := 128) hx hb dX12_luck_166 (by decide) ?_
                                  exact ih128 (t44) (w45) nu128_ _ _ _ (by omega) (by omega) (by omega) (by have h7 := ab_step (v := r19) (x := v10_128) (by omega) (by omega) (by omega) (by omega); have h6 : w45.toNatClampNeg = v10_128.toNatClampNeg + 1 := (by have u1 := tC_of (v := w45) (by omega); have u2 := tC_of (v := v10_128) (by omega); omega); rw [h6]; by_cases h5 : rb r19 v10_128 = 1; (have h4 := h7.1 h5; first | exact absurd h5 f32 | exact absurd f32 h5 | omega | contradiction); (have h4 := h7.2 h5; first | exact absurd h5 f32 | exact absurd f32 h5 | omega | contradiction)) ok hP ek128_0 kq128_0 hF hS (lv_sub hl [0, 1, 2, 3, 4, 5, 6, 7, 8, 9] rfl)
                          exact loop128 10 (t31) (0) nu65_ _ _ _ (by have h81 : (0 : Int32).toInt = 0 := rfl; omega) (by omega) (by have h80 : (0 : Int32).toInt = 0 := rfl; exact ⟨by omega, by omega⟩) (by have h81 : (0 : Int32).toInt = 0 := rfl; have h8 := ab_0 r19.toNatClampNeg; have h9 : (0 : Int32).toNatClampNeg = 0 := rfl; rw [h9, h8]; omega) ok hP ey23 kq65_0 hF hS hl
                        · have hF := (if_pos c_24).symm.trans hF
                          have c_24 : y23.toInt = 40 := il_eq c_24
                          refine lv_iload hx hb dX12_luck_96 (lv_at hl 3 rfl) ?_
                          exact W.iret (v := v5_65) hx hb hr (fun t ht hW => ⟨⟨v5_65, nu65_, rfl, ⟨hF.trans hfz.symm, ok, trivial, kq65_0⟩, by first | (subst ht; exact hP) | (rw [ht]; exact hP) | (show va_P (dC, dI) vwCl (wR 21 ad (EM cs ad) nu65_) t.heap; rw [ht]; exact hP)⟩, hS.F ht⟩) hS.2.2 dX12_luck_98
                exact loop65 7 (v3_56) (v5_56) (0) nu56_ _ _ _ (by have h82 : (0 : Int32).toInt = 0 := rfl; omega) (by omega) (by have h80 : (0 : Int32).toInt = 0 := rfl; exact ⟨by omega, by omega⟩)  ok hP  kq56_0 hF hS hl
          exact loop56 43 (l8) (0) (0) mu _ _ _ (by have h81 : (0 : Int32).toInt = 0 := rfl; have h82 : (0 : Int32).toInt = 0 := rfl; omega) (by omega) (by have h80 : (0 : Int32).toInt = 0 := rfl; exact ⟨by omega, by omega⟩)  ok hP  (fun _ _ _ => rfl) hF hS hl
        · have hF := (if_neg c_7).symm.trans hF
          have c_7 : 99 < t6.toInt := il_nle c_7
          refine lv_bipush (v := (-2)) hx hb dX12_luck_44 (by decide) ?_
          exact W.iret (v := (-2)) hx hb hr (fun t ht hW => ⟨⟨(-2), mu, rfl, ⟨hF.trans hfz.symm, ok, trivial, (fun _ _ _ => rfl)⟩, by first | (subst ht; exact hP) | (rw [ht]; exact hP) | (show va_P (dC, dI) vwCl (wR 21 ad (EM cs ad) mu) t.heap; rw [ht]; exact hP)⟩, hS.F ht⟩) hS.2.2 dX12_luck_46
      · have hF := (if_pos c_4).symm.trans hF
        have c_4 : y3.toInt = 0 := il_eq c_4
        refine lv_bipush (v := (-4)) hx hb dX12_luck_30 (by decide) ?_
        exact W.iret (v := (-4)) hx hb hr (fun t ht hW => ⟨⟨(-4), mu, rfl, ⟨hF.trans hfz.symm, ok, trivial, (fun _ _ _ => rfl)⟩, by first | (subst ht; exact hP) | (rw [ht]; exact hP) | (show va_P (dC, dI) vwCl (wR 21 ad (EM cs ad) mu) t.heap; rw [ht]; exact hP)⟩, hS.F ht⟩) hS.2.2 dX12_luck_32
    · have hF := (if_neg (fun h => absurd (hfe2.trans h) (by decide))).symm.trans hF
      have f2 : vs.toInt < (1 : Int) ∨ (2147483646 : Int) < vs.toInt := f2
      refine lv_if_ne (tgt := 23) hx hb dX12_luck_18 (by decide) (fun c => absurd (by decide) c) (fun _ => ?_)
      refine lv_iconst (v := (-1)) hx hb dX12_luck_21 (by decide) ?_
      exact W.iret (v := (-1)) hx hb hr (fun t ht hW => ⟨⟨(-1), mu, rfl, ⟨hF.trans hfz.symm, ok, trivial, (fun _ _ _ => rfl)⟩, by first | (subst ht; exact hP) | (rw [ht]; exact hP) | (show va_P (dC, dI) vwCl (wR 21 ad (EM cs ad) mu) t.heap; rw [ht]; exact hP)⟩, hS.F ht⟩) hS.2.2 dX12_luck_22
  · have hF := (if_neg (fun h => absurd (hfe1.trans h) (by decide))).symm.trans hF
    have f1 : vn.toInt < (1 : Int) ∨ (40 : Int) < vn.toInt := f1
    refine lv_if_eq (tgt := 21) hx hb dX12_luck_7 (by decide) (fun _ => ?_) (fun c => absurd (by decide) c)
    refine lv_iconst (v := (-1)) hx hb dX12_luck_21 (by decide) ?_
    exact W.iret (v := (-1)) hx hb hr (fun t ht hW => ⟨⟨(-1), mu, rfl, ⟨hF.trans hfz.symm, ok, trivial, (fun _ _ _ => rfl)⟩, by first | (subst ht; exact hP) | (rw [ht]; exact hP) | (show va_P (dC, dI) vwCl (wR 21 ad (EM cs ad) mu) t.heap; rw [ht]; exact hP)⟩, hS.F ht⟩) hS.2.2 dX12_luck_22
