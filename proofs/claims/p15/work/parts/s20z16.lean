set_option maxHeartbeats 4000000 in
set_option maxRecDepth 100000 in
/-- qx_luck -/
theorem qx_luck (l : Launch) (dC : Nat → ClassId) (dI : Nat → Nat → Nat) (cs : Nat → ClassId) (ad : Nat → Nat) (mu : Nat → Nat → Int32) (ok : okR loX hiX mu) (H : Heap) (hP : va_P (dC, dI) vwCl (wR 157 ad (EX cs ad) mu) H) (hD0 : va_D (fun _ => True) (wR 157 ad (EX cs ad) mu)) (vn : Int32) (vs : Int32) : Met l yX11_luck (wU yX11_luck cX11_luck 10 (some .int)) ({ frames := 3, cells := 0, slots := 0, locals := 86 }) (va_Pc [.ref (ad 0), .int vn, .int vs] (sz_P (dC, dI) vwCl (tyW cs) H)) (va_Qi (fun (z : Int32) (xi : Nat → Nat → Int32) => (z, xi) = F_qx_luck mu vn vs ∧ okR loX hiX xi ∧ (True) ∧ (∀ k f : Nat, Nat.testBit 358 (gpX k f) = true → xi k f = mu k f)) (fun xi t => va_P (dC, dI) vwCl (wR 157 ad (EX cs ad) xi) t.heap) (va_A (wR 157 ad (EX cs ad) mu) H.size)) 0 0 (va_A (wR 157 ad (EX cs ad) mu) H.size) := by
  refine Met.ofW (cc := cX11_luck) (maxL := 10) (ret := (some .int)) (by decide) rfl ?_
  intro p e s m args below meth c s₁ B hml hv
  obtain ⟨rfl, hh, hK, hz⟩ := hv
  have hx := B.exec
  have hb := B.bytes
  have hr := B.returns
  have hts := atoms_spec (ws := (wU yX11_luck cX11_luck 10 (some .int))) B.pre
  have hown : s.vm.findClass RX11 = some m.cls := findClass_of_methodNamed B.named
  have hlocks := B.notSynchronized
  subst hh
  have hD := hD0.self (sz := s.heap.size)
  have hA : ∀ q : Nat, s.heap.size ≤ q → (va_A (wR 157 ad (EX cs ad) mu) s.heap.size) q := fun q h => Or.inr h
  have hS : va_S (va_A (wR 157 ad (EX cs ad) mu) s.heap.size) s.heap s.heap [] := va_S.rf
  have hl := lv_entry ([.ref (ad 0), .int vn, .int vs]) (n := 10) (Nat.le_of_ble_eq_true rfl)
  rw [lg_entry_eq]
  generalize (lg_sl ([.ref (ad 0), .int vn, .int vs]) ++ List.replicate (10 - (lg_sl ([.ref (ad 0), .int vn, .int vs])).length) Slot.unset).toArray = ls at hl ⊢
  have hl : lv_has ls 10 [(0, .ref (ad 0)), (1, .int vn), (2, .int vs)] := hl
  obtain ⟨fz, hfz⟩ : ∃ z, F_qx_luck mu vn vs = z := ⟨_, rfl⟩
  have hF := hfz
  unfold F_qx_luck at hF
  refine lv_iload_n hx hb dX11_luck_0 rfl (lv_at hl 1 rfl) ?_
  refine lv_iconst (v := 1) hx hb dX11_luck_1 (by decide) ?_
  refine lv_icmp_lt (tgt := 25) hx hb dX11_luck_2 (by decide) (fun c_1 => ?_) (fun c_1 => ?_)
  · have hF := (if_pos c_1).symm.trans hF
    have c_1 : vn.toInt < 1 := il_lt c_1
    refine lv_iconst (v := (-1)) hx hb dX11_luck_25 (by decide) ?_
    exact W.iret (v := (-1)) hx hb hr (fun t ht hW => ⟨⟨(-1), mu, rfl, ⟨hF.trans hfz.symm, ok, trivial, (fun _ _ _ => rfl)⟩, by first | (subst ht; exact hP) | (rw [ht]; exact hP) | (show va_P (dC, dI) vwCl (wR 157 ad (EX cs ad) mu) t.heap; rw [ht]; exact hP)⟩, hS.F ht⟩) hS.2.2 dX11_luck_26
  · have hF := (if_neg c_1).symm.trans hF
    have c_1 : 1 ≤ vn.toInt := il_nlt c_1
    refine lv_iload_n hx hb dX11_luck_5 rfl (lv_at hl 1 rfl) ?_
    refine lv_bipush (v := 40) hx hb dX11_luck_6 (by decide) ?_
    refine lv_icmp_gt (tgt := 25) hx hb dX11_luck_8 (by decide) (fun c_2 => ?_) (fun c_2 => ?_)
    · have hF := (if_pos c_2).symm.trans hF
      have c_2 : 40 < vn.toInt := il_lt c_2
      refine lv_iconst (v := (-1)) hx hb dX11_luck_25 (by decide) ?_
      exact W.iret (v := (-1)) hx hb hr (fun t ht hW => ⟨⟨(-1), mu, rfl, ⟨hF.trans hfz.symm, ok, trivial, (fun _ _ _ => rfl)⟩, by first | (subst ht; exact hP) | (rw [ht]; exact hP) | (show va_P (dC, dI) vwCl (wR 157 ad (EX cs ad) mu) t.heap; rw [ht]; exact hP)⟩, hS.F ht⟩) hS.2.2 dX11_luck_26
    · have hF := (if_neg c_2).symm.trans hF
      have c_2 : vn.toInt ≤ 40 := il_nlt c_2
      refine lv_iload_n hx hb dX11_luck_11 rfl (lv_at hl 2 rfl) ?_
      refine lv_iconst (v := 1) hx hb dX11_luck_12 (by decide) ?_
      refine lv_icmp_lt (tgt := 25) hx hb dX11_luck_13 (by decide) (fun c_3 => ?_) (fun c_3 => ?_)
      · have hF := (if_pos c_3).symm.trans hF
        have c_3 : vs.toInt < 1 := il_lt c_3
        refine lv_iconst (v := (-1)) hx hb dX11_luck_25 (by decide) ?_
        exact W.iret (v := (-1)) hx hb hr (fun t ht hW => ⟨⟨(-1), mu, rfl, ⟨hF.trans hfz.symm, ok, trivial, (fun _ _ _ => rfl)⟩, by first | (subst ht; exact hP) | (rw [ht]; exact hP) | (show va_P (dC, dI) vwCl (wR 157 ad (EX cs ad) mu) t.heap; rw [ht]; exact hP)⟩, hS.F ht⟩) hS.2.2 dX11_luck_26
      · have hF := (if_neg c_3).symm.trans hF
        have c_3 : 1 ≤ vs.toInt := il_nlt c_3
        refine lv_iload_n hx hb dX11_luck_16 rfl (lv_at hl 2 rfl) ?_
        refine lv_i2l hx hb dX11_luck_17 rfl ?_
        refine lv_topl (fun l4 el4 => ?_)
        have hF := mi_let hF el4
        refine lv_ldc2 (v := 2147483647) hx hb hown (hts _ (List.mem_cons_of_mem _ mw_4_191)) dX11_luck_18 ?_
        refine W.lcmp hx hb dX11_luck_21 ?_
        refine lv_topi (fun t5 et5 => ?_)
        have hF := mi_let hF et5
        refine lv_if_lt (tgt := 27) hx hb dX11_luck_22 (by decide) (fun c_6 => ?_) (fun c_6 => ?_)
        · have hF := (if_pos c_6).symm.trans hF
          have c_6 : t5.toInt < 0 := il_lt c_6
          refine lv_aload_n hx hb dX11_luck_27 rfl (lv_at hl 0 rfl) ?_
          refine va_get (D := (dC, dI)) (ci := 11) (v := .ref (ad 4)) (C := RX11) (T := TX11) (N := 11) hx hb hts inG11 hown hK hP 0 (gX_0 cs ad mu) rfl 3 (by decide) (hts _ (List.mem_cons_of_mem _ mw_2_161)) (fun _ h9 => h9) rfl dX11_luck_28 ?_
          refine va_get (D := (dC, dI)) (ci := 10) (v := .int (mu 4 6)) (C := RX10) (T := TX10) (N := 8) hx hb hts inG10 hown hK hP 4 (gX_4 cs ad mu) rfl 6 (by decide) (hts _ (List.mem_cons_of_mem _ mw_1_164)) (fun _ h9 => h9) rfl dX11_luck_31 ?_
          refine lv_topi (fun y7 ey7 => ?_)
          have hF := mi_let hF ey7
          have by7 : y7.toInt = (mu 4 6).toInt := congrArg Int32.toInt ey7
          have gy7 : 0 ≤ y7.toInt ∧ y7.toInt ≤ 7 := by rw [ey7]; exact rX_4_6 ok
          refine lv_if_ne (tgt := 40) hx hb dX11_luck_34 (by decide) (fun c_8 => ?_) (fun c_8 => ?_)
          · have hF := (if_neg c_8).symm.trans hF
            have c_8 : ¬ y7.toInt = 0 := il_ne c_8
            refine lv_aload_n hx hb dX11_luck_40 rfl (lv_at hl 0 rfl) ?_
            refine va_get (D := (dC, dI)) (ci := 11) (v := .ref (ad 4)) (C := RX11) (T := TX11) (N := 11) hx hb hts inG11 hown hK hP 0 (gX_0 cs ad mu) rfl 3 (by decide) (hts _ (List.mem_cons_of_mem _ mw_2_161)) (fun _ h9 => h9) rfl dX11_luck_41 ?_
            refine va_get (D := (dC, dI)) (ci := 10) (v := .ref (ad 5)) (C := RX10) (T := TX10) (N := 8) hx hb hts inG10 hown hK hP 4 (gX_4 cs ad mu) rfl 3 (by decide) (hts _ (List.mem_cons_of_mem _ mw_1_157)) (fun _ h9 => h9) rfl dX11_luck_44 ?_
            refine va_get (D := (dC, dI)) (ci := 8) (v := .int (mu 5 3)) (C := RX8) (T := TX8) (N := 6) hx hb hts inG8 hown hK hP 5 (gX_5 cs ad mu) rfl 3 (by decide) (hts _ (List.mem_cons_of_mem _ mw_1_124)) (fun _ h9 => h9) rfl dX11_luck_47 ?_
            refine lv_topi (fun y9 ey9 => ?_)
            have hF := mi_let hF ey9
            have by9 : y9.toInt = (mu 5 3).toInt := congrArg Int32.toInt ey9
            refine lv_iload_n hx hb dX11_luck_50 rfl (lv_at hl 1 rfl) ?_
            refine lv_iadd hx hb dX11_luck_51 ?_
            refine lv_topi (fun t10 et10 => ?_)
            have hF := mi_let hF et10
            refine lv_bipush (v := 99) hx hb dX11_luck_52 (by decide) ?_
            refine lv_icmp_le (tgt := 60) hx hb dX11_luck_54 (by decide) (fun c_11 => ?_) (fun c_11 => ?_)
            · have hF := (if_pos c_11).symm.trans hF
              have c_11 : t10.toInt ≤ 99 := il_le c_11
              refine lv_iload_n hx hb dX11_luck_60 rfl (lv_at hl 2 rfl) ?_
              refine lv_i2l hx hb dX11_luck_61 rfl ?_
              refine lv_topl (fun l12 el12 => ?_)
              have hF := mi_let hF el12
              refine lv_lstore_n (lv' := [(3, .long l12), (0, .ref (ad 0)), (1, .int vn), (2, .int vs)]) hx hb dX11_luck_62 rfl hl (by decide) rfl (fun ls hl => ?_)
              refine lv_iconst (v := 0) hx hb dX11_luck_63 (by decide) ?_
              refine lv_istore (lv' := [(5, .int 0), (3, .long l12), (0, .ref (ad 0)), (1, .int vn), (2, .int vs)]) hx hb dX11_luck_64 hl (by decide) rfl (fun ls hl => ?_)
              refine lv_iconst (v := 0) hx hb dX11_luck_66 (by decide) ?_
              refine lv_istore (lv' := [(6, .int 0), (5, .int 0), (3, .long l12), (0, .ref (ad 0)), (1, .int vn), (2, .int vs)]) hx hb dX11_luck_67 hl (by decide) rfl (fun ls hl => ?_)
              have loop69 : ∀ (n69 : Nat) (v3_69 : Int64) (v5_69 : Int32) (v6_69 : Int32) (nu69_ : Nat → Nat → Int32) (H : Heap) (locs : List Loc) (ls : Array Slot), (40 + 1 - v6_69.toInt).toNat < n69 → (0 ≤ v6_69.toInt ∧ v6_69.toInt ≤ 40) → okR loX hiX nu69_ → va_P (dC, dI) vwCl (wR 157 ad (EX cs ad) nu69_) H → (∀ k f : Nat, Nat.testBit 358 (gpX k f) = true → nu69_ k f = mu k f) → L_qx_luck_69_0 vn n69 v3_69 v5_69 v6_69 nu69_ = fz → va_S (va_A (wR 157 ad (EX cs ad) mu) s.heap.size) s.heap H locs → lv_has ls 10 [(6, .int v6_69), (5, .int v5_69), (3, .long v3_69), (0, .ref (ad 0)), (1, .int vn), (2, .int vs)] → W p l e (headSpec (wU yX11_luck cX11_luck 10 (some .int)) ({ frames := 3, cells := 0, slots := 0, locals := 86 })).room s m ([.ref (ad 0), .int vn, .int vs] : List Value).toArray below meth c H locs 0 0 (MQ below (va_Qi (fun (z : Int32) (xi : Nat → Nat → Int32) => (z, xi) = F_qx_luck mu vn vs ∧ okR loX hiX xi ∧ (True) ∧ (∀ k f : Nat, Nat.testBit 358 (gpX k f) = true → xi k f = mu k f)) (fun xi t => va_P (dC, dI) vwCl (wR 157 ad (EX cs ad) xi) t.heap) (va_A (wR 157 ad (EX cs ad) mu) s.heap.size)) ([.ref (ad 0), .int vn, .int vs] : List Value).toArray s 0 0 (va_A (wR 157 ad (EX cs ad) mu) s.heap.size)) (F0 m 69 ls []) := by
                intro n69
                induction n69 with
                | zero => intro v3_69 v5_69 v6_69 nu69_ H locs ls hm; exact absurd hm (Nat.not_lt_zero _)
                | succ n69 ih69 =>
                  intro v3_69 v5_69 v6_69 nu69_ H locs ls hm h_v6_69 ok hP kq69_0 hF hS hl
                  rw [L_qx_luck_69_0] at hF
                  refine lv_iload hx hb dX11_luck_69 (lv_at hl 0 rfl) ?_
                  refine lv_iload_n hx hb dX11_luck_71 rfl (lv_at hl 4 rfl) ?_
                  refine lv_icmp_ge (tgt := 235) hx hb dX11_luck_72 (by decide) (fun c_13 => ?_) (fun c_13 => ?_)
                  · have hF := (if_pos c_13).symm.trans hF
                    have c_13 : vn.toInt ≤ v6_69.toInt := il_le c_13
                    refine lv_iload hx hb dX11_luck_235 (lv_at hl 1 rfl) ?_
                    exact W.iret (v := v5_69) hx hb hr (fun t ht hW => ⟨⟨v5_69, nu69_, rfl, ⟨hF.trans hfz.symm, ok, trivial, kq69_0⟩, by first | (subst ht; exact hP) | (rw [ht]; exact hP) | (show va_P (dC, dI) vwCl (wR 157 ad (EX cs ad) nu69_) t.heap; rw [ht]; exact hP)⟩, hS.F ht⟩) hS.2.2 dX11_luck_237
                  · have hF := (if_neg c_13).symm.trans hF
                    have c_13 : v6_69.toInt < vn.toInt := il_nle c_13
                    refine lv_iconst (v := 0) hx hb dX11_luck_75 (by decide) ?_
                    refine lv_istore (lv' := [(7, .int 0), (6, .int v6_69), (5, .int v5_69), (3, .long v3_69), (0, .ref (ad 0)), (1, .int vn), (2, .int vs)]) hx hb dX11_luck_76 hl (by decide) rfl (fun ls hl => ?_)
                    have loop78 : ∀ (n78 : Nat) (v3_78 : Int64) (v5_78 : Int32) (v7_78 : Int32) (nu78_ : Nat → Nat → Int32) (H : Heap) (locs : List Loc) (ls : Array Slot), (4 + 1 - v7_78.toInt).toNat < n78 → (0 ≤ v7_78.toInt ∧ v7_78.toInt ≤ 4) → okR loX hiX nu78_ → va_P (dC, dI) vwCl (wR 157 ad (EX cs ad) nu78_) H → (∀ k f : Nat, Nat.testBit 358 (gpX k f) = true → nu78_ k f = mu k f) → L_qx_luck_78_1 v6_69 (fun z_v3_69 z_v5_69 z_v6_69 z_nu69_ => L_qx_luck_69_0 vn n69 z_v3_69 z_v5_69 z_v6_69 z_nu69_) n78 v3_78 v5_78 v7_78 nu78_ = fz → va_S (va_A (wR 157 ad (EX cs ad) mu) s.heap.size) s.heap H locs → lv_has ls 10 [(7, .int v7_78), (6, .int v6_69), (5, .int v5_78), (3, .long v3_78), (0, .ref (ad 0)), (1, .int vn), (2, .int vs)] → W p l e (headSpec (wU yX11_luck cX11_luck 10 (some .int)) ({ frames := 3, cells := 0, slots := 0, locals := 86 })).room s m ([.ref (ad 0), .int vn, .int vs] : List Value).toArray below meth c H locs 0 0 (MQ below (va_Qi (fun (z : Int32) (xi : Nat → Nat → Int32) => (z, xi) = F_qx_luck mu vn vs ∧ okR loX hiX xi ∧ (True) ∧ (∀ k f : Nat, Nat.testBit 358 (gpX k f) = true → xi k f = mu k f)) (fun xi t => va_P (dC, dI) vwCl (wR 157 ad (EX cs ad) xi) t.heap) (va_A (wR 157 ad (EX cs ad) mu) s.heap.size)) ([.ref (ad 0), .int vn, .int vs] : List Value).toArray s 0 0 (va_A (wR 157 ad (EX cs ad) mu) s.heap.size)) (F0 m 78 ls []) := by
                      intro n78
                      induction n78 with
                      | zero => intro v3_78 v5_78 v7_78 nu78_ H locs ls hm; exact absurd hm (Nat.not_lt_zero _)
                      | succ n78 ih78 =>
                        intro v3_78 v5_78 v7_78 nu78_ H locs ls hm h_v7_78 ok hP kq78_0 hF hS hl
                        rw [L_qx_luck_78_1] at hF
                        refine lv_iload hx hb dX11_luck_78 (lv_at hl 0 rfl) ?_
                        refine lv_aload_n hx hb dX11_luck_80 rfl (lv_at hl 4 rfl) ?_
                        refine va_get (D := (dC, dI)) (ci := 11) (v := .ref (ad 4)) (C := RX11) (T := TX11) (N := 11) hx hb hts inG11 hown hK hP 0 (gX_0 cs ad nu78_) rfl 3 (by decide) (hts _ (List.mem_cons_of_mem _ mw_2_161)) (fun _ h9 => h9) rfl dX11_luck_81 ?_
                        refine va_get (D := (dC, dI)) (ci := 10) (v := .ref (ad 5)) (C := RX10) (T := TX10) (N := 8) hx hb hts inG10 hown hK hP 4 (gX_4 cs ad nu78_) rfl 3 (by decide) (hts _ (List.mem_cons_of_mem _ mw_1_157)) (fun _ h9 => h9) rfl dX11_luck_84 ?_
                        refine va_get (D := (dC, dI)) (ci := 8) (v := .int (nu78_ 5 4)) (C := RX8) (T := TX8) (N := 6) hx hb hts inG8 hown hK hP 5 (gX_5 cs ad nu78_) rfl 4 (by decide) (hts _ (List.mem_cons_of_mem _ mw_1_128)) (fun _ h9 => h9) rfl dX11_luck_87 ?_
                        refine lv_topi (fun y14 ey14 => ?_)
                        have hF := mi_let hF ey14
                        have by14 : y14.toInt = (nu78_ 5 4).toInt := congrArg Int32.toInt ey14
                        have gy14 : 0 ≤ y14.toInt ∧ y14.toInt ≤ 4 := by rw [ey14]; exact rX_5_4 ok
                        refine lv_icmp_ge (tgt := 213) hx hb dX11_luck_90 (by decide) (fun c_15 => ?_) (fun c_15 => ?_)
                        · have hF := (if_pos c_15).symm.trans hF
                          have c_15 : y14.toInt ≤ v7_78.toInt := il_le c_15
                          refine lv_aload_n hx hb dX11_luck_213 rfl (lv_at hl 4 rfl) ?_
                          refine va_get (D := (dC, dI)) (ci := 11) (v := .ref (ad 4)) (C := RX11) (T := TX11) (N := 11) hx hb hts inG11 hown hK hP 0 (gX_0 cs ad nu78_) rfl 3 (by decide) (hts _ (List.mem_cons_of_mem _ mw_2_161)) (fun _ h9 => h9) rfl dX11_luck_214 ?_
                          refine va_get (D := (dC, dI)) (ci := 10) (v := .ref (ad 5)) (C := RX10) (T := TX10) (N := 8) hx hb hts inG10 hown hK hP 4 (gX_4 cs ad nu78_) rfl 3 (by decide) (hts _ (List.mem_cons_of_mem _ mw_1_157)) (fun _ h9 => h9) rfl dX11_luck_217 ?_
                          refine lv_dup hx hb dX11_luck_220 rfl ?_
                          refine va_get (D := (dC, dI)) (ci := 8) (v := .int (nu78_ 5 3)) (C := RX8) (T := TX8) (N := 6) hx hb hts inG8 hown hK hP 5 (gX_5 cs ad nu78_) rfl 3 (by decide) (hts _ (List.mem_cons_of_mem _ mw_1_124)) (fun _ h9 => h9) rfl dX11_luck_221 ?_
                          refine lv_topi (fun y16 ey16 => ?_)
                          have hF := mi_let hF ey16
                          have by16 : y16.toInt = (nu78_ 5 3).toInt := congrArg Int32.toInt ey16
                          refine lv_iconst (v := 1) hx hb dX11_luck_224 (by decide) ?_
                          refine lv_iadd hx hb dX11_luck_225 ?_
                          refine lv_topi (fun t17 et17 => ?_)
                          have hF := mi_let hF et17
                          refine va_put (D := (dC, dI)) (ci := 8) (v := .int t17) (ty := .int) (C := RX8) (T := TX8) (N := 6) hx hb hts inG8 tyX8 tyX8_ok nmX8 hown hK hP (wR_D nu78_ hD) hS 5 (gX_5 cs ad nu78_) rfl 3 (by decide) (hts _ (List.mem_cons_of_mem _ mw_1_124)) (fun _ h9 => h9) rfl (by decide +kernel) rfl rfl (Nat.le_of_ble_eq_true rfl) dX11_luck_226 (fun H locs hP _ hS => ?_)
                          simp only [List.set_cons_succ, List.set_cons_zero] at hP
                          refine wr_gen (upd (nu78_ 5) 3 t17) hP ((hX_5_3 cs ad _ _)) (fun nu18 hn18 hP => ?_)
                          have hF := mi_let hF hn18.symm
                          have ok := tX_5_3 ok hn18
                          have ez19 : y14 = nu18 5 4 := ey14.trans (up_f hn18 (by decide)).symm
                          have kp20 : (∀ k f : Nat, Nat.testBit 358 (gpX k f) = true → nu18 k f = mu k f) := kp_f hn18 (by decide) kq78_0
                          have ez21 : t17 = nu18 5 3 := up_v hn18
                          refine lv_iinc (v := (v6_69 + 1)) (lv' := [(6, .int (v6_69 + 1)), (7, .int v7_78), (5, .int v5_78), (3, .long v3_78), (0, .ref (ad 0)), (1, .int vn), (2, .int vs)]) hx hb dX11_luck_229 hl (k := 1) rfl rfl (by decide) rfl (fun ls hl => ?_)
                          refine loc_gen (P := fun w9 => lv_has ls 10 [(6, .int w9), (7, .int v7_78), (5, .int v5_78), (3, .long v3_78), (0, .ref (ad 0)), (1, .int vn), (2, .int vs)]) (v6_69 + 1) hl (fun w22 hw22 hl => ?_)
                          have hl : lv_has ls 10 [(6, .int w22), (7, .int v7_78), (5, .int v5_78), (3, .long v3_78), (0, .ref (ad 0)), (1, .int vn), (2, .int vs)] := hl
                          have hF := mi_let hF hw22.symm
                          have aw22 : w22.toInt = v6_69.toInt + 1 := by rw [← hw22]; exact tI_add (rfl : v6_69.toInt = _) (rfl : (1 : Int32).toInt = 1) (by omega) (by omega)
                          refine lv_goto (tgt := 69) hx hb dX11_luck_232 (by decide) ?_
                          exact ih69 (v3_78) (v5_78) (w22) nu18 _ _ _ (by omega) (by exact ⟨by omega, by omega⟩)  ok hP  kp20 hF hS (lv_sub hl [0, 2, 3, 4, 5, 6] rfl)
                        · have hF := (if_neg c_15).symm.trans hF
                          have c_15 : v7_78.toInt < y14.toInt := il_nle c_15
                          refine lv_aload_n hx hb dX11_luck_93 rfl (lv_at hl 4 rfl) ?_
                          refine va_get (D := (dC, dI)) (ci := 11) (v := .ref (ad 4)) (C := RX11) (T := TX11) (N := 11) hx hb hts inG11 hown hK hP 0 (gX_0 cs ad nu78_) rfl 3 (by decide) (hts _ (List.mem_cons_of_mem _ mw_2_161)) (fun _ h9 => h9) rfl dX11_luck_94 ?_
                          refine lv_aload_n hx hb dX11_luck_97 rfl (lv_at hl 4 rfl) ?_
                          refine va_get (D := (dC, dI)) (ci := 11) (v := .ref (ad 4)) (C := RX11) (T := TX11) (N := 11) hx hb hts inG11 hown hK hP 0 (gX_0 cs ad nu78_) rfl 3 (by decide) (hts _ (List.mem_cons_of_mem _ mw_2_161)) (fun _ h9 => h9) rfl dX11_luck_98 ?_
                          refine va_get (D := (dC, dI)) (ci := 10) (v := .ref (ad 5)) (C := RX10) (T := TX10) (N := 8) hx hb hts inG10 hown hK hP 4 (gX_4 cs ad nu78_) rfl 3 (by decide) (hts _ (List.mem_cons_of_mem _ mw_1_157)) (fun _ h9 => h9) rfl dX11_luck_101 ?_
                          refine va_get (D := (dC, dI)) (ci := 8) (v := .ref (ad 47)) (C := RX8) (T := TX8) (N := 6) hx hb hts inG8 hown hK hP 5 (gX_5 cs ad nu78_) rfl 1 (by decide) (hts _ (List.mem_cons_of_mem _ mw_1_112)) (fun _ h9 => h9) rfl dX11_luck_104 ?_
                          refine lv_iload hx hb dX11_luck_107 (lv_at hl 0 rfl) ?_
                          have hx23 : 0 ≤ v7_78.toInt ∧ v7_78.toInt < ((4 : Nat) : Int) := ⟨by omega, by omega⟩
                          refine va_aldq hx hb hK hP 47 5 (gX_47 cs ad nu78_) rfl (show vp_in v7_78 4 from vi_of hx23.1 hx23.2) dX11_luck_109 ?_
                          have hk23 : 61 ≤ (61 + v7_78.toNatClampNeg) ∧ (61 + v7_78.toNatClampNeg) < 65 := ix_of hx23
                          have hk23 : 61 ≤ (61 + v7_78.toNatClampNeg) ∧ (61 + v7_78.toNatClampNeg) < 77 := ⟨Nat.le_trans (by decide) hk23.1, Nat.lt_of_lt_of_le hk23.2 (by decide)⟩
                          refine lq_v (.ref (ad (61 + v7_78.toNatClampNeg))) rfl ?_
                          refine cr_i (va_runV (As := [.ref (ad (61 + v7_78.toNatClampNeg))]) (rest := []) ⟨hx, hb, hml, hown, hts⟩ (sx_buyersOf l dC dI cs ad nu78_ ok H hP (61 + v7_78.toNatClampNeg) hk23.1 hk23.2) (cwV 1 hts (wU_V mw_3_161 mw_3_158 mw_3_159 mw_3_160 mw_1_2) rfl rfl rfl (by decide +kernel) ⟨Nat.le_of_ble_eq_true rfl, Nat.le_of_ble_eq_true rfl⟩) ⟨sz_c, va_recv hK hP (ci := 10) (q0 := 4) rfl (gX_4 cs ad nu78_), sz_m hK hz⟩ rfl rfl hl.1 rfl (lv_room (Nat.le_of_ble_eq_true rfl)) dX11_luck_110 ⟨Nat.zero_le _, Nat.zero_le _⟩) hS (fun r24 hw24 locs hS => ?_)
                          obtain ⟨hfe24, hw24⟩ := hw24
                          have hF := mi_let hF hfe24
                          refine lv_istore (lv' := [(8, .int r24), (7, .int v7_78), (6, .int v6_69), (5, .int v5_78), (3, .long v3_78), (0, .ref (ad 0)), (1, .int vn), (2, .int vs)]) hx hb dX11_luck_113 hl (by decide) rfl (fun ls hl => ?_)
                          refine lv_iload hx hb dX11_luck_115 (lv_at hl 0 rfl) ?_
                          refine cr_i (va_runS (As := [.int r24]) (rest := []) ⟨hx, hb, hml, hown, hts⟩ (sx_bitCount l dC dI (tyW cs) H r24) (va_cwS 1 hts (wU_S mw_3_90 mw_4_98 mw_3_89 mw_1_16) rfl rfl rfl (by decide +kernel) ⟨Nat.le_of_ble_eq_true rfl, Nat.le_of_ble_eq_true rfl⟩) ⟨sz_c, sz_m hK hz⟩ rfl rfl hl.1 rfl (lv_room (Nat.le_of_ble_eq_true rfl)) dX11_luck_117 ⟨Nat.zero_le _, Nat.zero_le _⟩) hS (fun r25 hw25 locs hS => ?_)
                          obtain ⟨hfe25, hw25⟩ := hw25
                          have hF := mi_let hF hfe25
                          refine lv_istore (lv' := [(9, .int r25), (8, .int r24), (7, .int v7_78), (6, .int v6_69), (5, .int v5_78), (3, .long v3_78), (0, .ref (ad 0)), (1, .int vn), (2, .int vs)]) hx hb dX11_luck_120 hl (by decide) rfl (fun ls hl => ?_)
                          refine lv_iload hx hb dX11_luck_122 (lv_at hl 0 rfl) ?_
                          refine lv_if_ne (tgt := 130) hx hb dX11_luck_124 (by decide) (fun c_26 => ?_) (fun c_26 => ?_)
                          · have hF := (if_neg c_26).symm.trans hF
                            have c_26 : ¬ r25.toInt = 0 := il_ne c_26
                            refine lv_aload_n hx hb dX11_luck_130 rfl (lv_at hl 6 rfl) ?_
                            refine va_get (D := (dC, dI)) (ci := 11) (v := .ref (ad 6)) (C := RX11) (T := TX11) (N := 11) hx hb hts inG11 hown hK hP 0 (gX_0 cs ad nu78_) rfl 5 (by decide) (hts _ (List.mem_cons_of_mem _ mw_2_163)) (fun _ h9 => h9) rfl dX11_luck_131 ?_
                            refine cr_i (va_runV (As := []) (rest := []) ⟨hx, hb, hml, hown, hts⟩ (sx_isFull l dC dI cs ad nu78_ ok H hP) (cwV 0 hts (wU_V mw_3_178 mw_3_175 mw_3_176 mw_3_177 mw_1_6) rfl rfl rfl (by decide +kernel) ⟨Nat.le_of_ble_eq_true rfl, Nat.le_of_ble_eq_true rfl⟩) ⟨sz_c, va_recv hK hP (ci := 2) (q0 := 6) rfl (gX_6 cs ad nu78_), sz_m hK hz⟩ rfl rfl hl.1 rfl (lv_room (Nat.le_of_ble_eq_true rfl)) dX11_luck_134 ⟨Nat.zero_le _, Nat.zero_le _⟩) hS (fun r27 hw27 locs hS => ?_)
                            obtain ⟨hfe27, hw27⟩ := hw27
                            rcases hw27 with ⟨rfl, f27⟩ | ⟨rfl, f27⟩
                            · have hF := (if_pos hfe27.symm).symm.trans hF
                              have f27 : 40 ≤ (nu78_ 6 1).toInt := f27
                              refine lv_if_eq (tgt := 143) hx hb dX11_luck_137 (by decide) (fun c => absurd c (by decide)) (fun _ => ?_)
                              refine lv_iload hx hb dX11_luck_140 (lv_at hl 4 rfl) ?_
                              exact W.iret (v := v5_78) hx hb hr (fun t ht hW => ⟨⟨v5_78, nu78_, rfl, ⟨hF.trans hfz.symm, ok, trivial, kq78_0⟩, by first | (subst ht; exact hP) | (rw [ht]; exact hP) | (show va_P (dC, dI) vwCl (wR 157 ad (EX cs ad) nu78_) t.heap; rw [ht]; exact hP)⟩, hS.F ht⟩) hS.2.2 dX11_luck_142
                            · have hF := (if_neg (fun h => absurd (hfe27.trans h) (by decide))).symm.trans hF
                              have f27 : (nu78_ 6 1).toInt ≤ 39 := f27
                              refine lv_if_eq (tgt := 143) hx hb dX11_luck_137 (by decide) (fun _ => ?_) (fun c => absurd (by decide) c)
                              refine lv_lload_n hx hb dX11_luck_143 rfl (lv_at hl 5 rfl) ?_
                              refine lv_ldc2 (v := 48271) hx hb hown (hts _ (List.mem_cons_of_mem _ mw_4_192)) dX11_luck_144 ?_
                              refine lv_lmul hx hb dX11_luck_147 ?_
                              refine lv_topl (fun l28 el28 => ?_)
                              have hF := mi_let hF el28
                              refine lv_ldc2 (v := 2147483647) hx hb hown (hts _ (List.mem_cons_of_mem _ mw_4_191)) dX11_luck_148 ?_
                              refine lv_lrem hx hb dX11_luck_151 (by decide) ?_
                              refine lv_topl (fun l29 el29 => ?_)
                              have hF := mi_let hF el29
                              refine lv_lstore_n (lv' := [(3, .long l29), (9, .int r25), (8, .int r24), (7, .int v7_78), (6, .int v6_69), (5, .int v5_78), (0, .ref (ad 0)), (1, .int vn), (2, .int vs)]) hx hb dX11_luck_152 rfl hl (by decide) rfl (fun ls hl => ?_)
                              refine lv_aload_n hx hb dX11_luck_153 rfl (lv_at hl 6 rfl) ?_
                              refine va_get (D := (dC, dI)) (ci := 11) (v := .ref (ad 6)) (C := RX11) (T := TX11) (N := 11) hx hb hts inG11 hown hK hP 0 (gX_0 cs ad nu78_) rfl 5 (by decide) (hts _ (List.mem_cons_of_mem _ mw_2_163)) (fun _ h9 => h9) rfl dX11_luck_154 ?_
                              refine lv_aload_n hx hb dX11_luck_157 rfl (lv_at hl 6 rfl) ?_
                              refine va_get (D := (dC, dI)) (ci := 11) (v := .ref (ad 4)) (C := RX11) (T := TX11) (N := 11) hx hb hts inG11 hown hK hP 0 (gX_0 cs ad nu78_) rfl 3 (by decide) (hts _ (List.mem_cons_of_mem _ mw_2_161)) (fun _ h9 => h9) rfl dX11_luck_158 ?_
                              refine lv_iload hx hb dX11_luck_161 (lv_at hl 3 rfl) ?_
                              refine lv_iload hx hb dX11_luck_163 (lv_at hl 2 rfl) ?_
                              refine lv_lload_n hx hb dX11_luck_165 rfl (lv_at hl 0 rfl) ?_
                              refine lv_iload hx hb dX11_luck_166 (lv_at hl 1 rfl) ?_
                              refine lv_i2l hx hb dX11_luck_168 rfl ?_
                              refine lv_topl (fun l30 el30 => ?_)
                              have hF := mi_let hF el30
                              refine lv_lrem hx hb dX11_luck_169 (by rw [el30]; exact l_ne (by omega)) ?_
                              refine lv_topl (fun l31 el31 => ?_)
                              have hF := mi_let hF el31
                              refine lv_l2i hx hb dX11_luck_170 rfl ?_
                              refine lv_topi (fun t32 et32 => ?_)
                              have hF := mi_let hF et32
                              refine cr_i (va_runS (As := [.int r24, .int t32]) (rest := [.int v7_78, .ref (ad 4), .ref (ad 6)]) ⟨hx, hb, hml, hown, hts⟩ (sx_bitAt l dC dI (tyW cs) H r24 t32) (va_cwS 2 hts (wU_S mw_4_195 mw_4_193 mw_4_194 mw_1_1) rfl rfl rfl (by decide +kernel) ⟨Nat.le_of_ble_eq_true rfl, Nat.le_of_ble_eq_true rfl⟩) ⟨sz_c, sz_m hK hz⟩ rfl rfl hl.1 rfl (lv_room (Nat.le_of_ble_eq_true rfl)) dX11_luck_171 ⟨Nat.zero_le _, Nat.zero_le _⟩) hS (fun r33 hw33 locs hS => ?_)
                              obtain ⟨hfe33, hw33⟩ := hw33
                              have hF := mi_let hF hfe33
                              have gr33 : 0 ≤ r33.toInt ∧ r33.toInt ≤ 6 := hw33
                              have hFc := fr_all (wR_D nu78_ hD) hS hA
                              refine va_calli (va_runV (As := [.ref (ad 4), .int v7_78, .int r33]) (rest := []) ⟨hx, hb, hml, hown, hts⟩ (sx_enterSale l dC dI cs ad nu78_ ok H hP ((wR_D nu78_ hD).weaken (fun _ _ _ _ => trivial)) v7_78 r33 (by omega) (by omega)) (cwV 3 hts (wU_V mw_3_182 mw_3_179 mw_3_180 mw_3_181 mw_1_6) rfl rfl rfl (by decide +kernel) ⟨Nat.le_of_ble_eq_true rfl, Nat.le_of_ble_eq_true rfl⟩) ⟨sz_c, va_recv hK hP (ci := 2) (q0 := 6) rfl (gX_6 cs ad nu78_), sz_m hK hz⟩ rfl rfl hl.1 rfl (lv_room (Nat.le_of_ble_eq_true rfl)) dX11_luck_174 ⟨Nat.zero_le _, Nat.zero_le _⟩) hS (fun q _ h => hFc q h) hFc (fun r34 xi34 t H34 locs ht hvm hw34 hB hz1 hk1 hS => ?_)
                              have hP : va_P (dC, dI) vwCl (wR 157 ad (EX cs ad) xi34) H34 := by rw [← ht]; exact hB
                              obtain ⟨hfe34, ok, hw34, hkp34_0⟩ := hw34
                              have hF := mi_letp hF hfe34
                              have kp35 : (∀ k f : Nat, Nat.testBit 358 (gpX k f) = true → xi34 k f = mu k f) := kp_t hkp34_0 (by decide) kq78_0
                              refine lv_pop hx hb dX11_luck_177 rfl ?_
                              refine lv_iload hx hb dX11_luck_178 (lv_at hl 5 rfl) ?_
                              refine lv_aload_n hx hb dX11_luck_180 rfl (lv_at hl 6 rfl) ?_
                              refine va_get (D := (dC, dI)) (ci := 11) (v := .ref (ad 4)) (C := RX11) (T := TX11) (N := 11) hx hb hts inG11 hown hK hP 0 (gX_0 cs ad xi34) rfl 3 (by decide) (hts _ (List.mem_cons_of_mem _ mw_2_161)) (fun _ h9 => h9) rfl dX11_luck_181 ?_
                              refine va_get (D := (dC, dI)) (ci := 10) (v := .ref (ad 5)) (C := RX10) (T := TX10) (N := 8) hx hb hts inG10 hown hK hP 4 (gX_4 cs ad xi34) rfl 3 (by decide) (hts _ (List.mem_cons_of_mem _ mw_1_157)) (fun _ h9 => h9) rfl dX11_luck_184 ?_
                              refine va_get (D := (dC, dI)) (ci := 8) (v := .ref (ad 47)) (C := RX8) (T := TX8) (N := 6) hx hb hts inG8 hown hK hP 5 (gX_5 cs ad xi34) rfl 1 (by decide) (hts _ (List.mem_cons_of_mem _ mw_1_112)) (fun _ h9 => h9) rfl dX11_luck_187 ?_
                              refine lv_iload hx hb dX11_luck_190 (lv_at hl 3 rfl) ?_
                              have hx36 : 0 ≤ v7_78.toInt ∧ v7_78.toInt < ((4 : Nat) : Int) := ⟨by omega, by omega⟩
                              refine va_aldq hx hb hK hP 47 5 (gX_47 cs ad xi34) rfl (show vp_in v7_78 4 from vi_of hx36.1 hx36.2) dX11_luck_192 ?_
                              have hk36 : 61 ≤ (61 + v7_78.toNatClampNeg) ∧ (61 + v7_78.toNatClampNeg) < 65 := ix_of hx36
                              have hk36 : 61 ≤ (61 + v7_78.toNatClampNeg) ∧ (61 + v7_78.toNatClampNeg) < 77 := ⟨Nat.le_trans (by decide) hk36.1, Nat.lt_of_lt_of_le hk36.2 (by decide)⟩
                              refine lq_v (.ref (ad (61 + v7_78.toNatClampNeg))) rfl ?_
                              refine va_get (D := (dC, dI)) (ci := 3) (v := .int (xi34 (61 + v7_78.toNatClampNeg) 9)) (C := RX3) (T := TX3) (N := 10) hx hb hts inG3 hown hK hP (61 + v7_78.toNatClampNeg) (gX_letter cs ad xi34 (61 + v7_78.toNatClampNeg) hk36.1 hk36.2) rfl 9 (by decide) (hts _ (List.mem_cons_of_mem _ mw_1_80)) (fun _ h9 => h9) rfl dX11_luck_193 ?_
                              refine lv_topi (fun y37 ey37 => ?_)
                              have hF := mi_let hF ey37
                              have by37 : y37.toInt = (xi34 (61 + v7_78.toNatClampNeg) 9).toInt := congrArg Int32.toInt ey37
                              have gy37 : 0 ≤ y37.toInt ∧ y37.toInt ≤ 1 := by rw [ey37]; exact rX_letter_9 ok (61 + v7_78.toNatClampNeg) hk36.1 hk36.2
                              refine lv_if_eq (tgt := 203) hx hb dX11_luck_196 (by decide) (fun c_38 => ?_) (fun c_38 => ?_)
                              · have hF := (if_pos c_38).symm.trans hF
                                have c_38 : y37.toInt = 0 := il_eq c_38
                                refine lv_iconst (v := 0) hx hb dX11_luck_203 (by decide) ?_
                                refine lv_iadd hx hb dX11_luck_204 ?_
                                refine lv_topi (fun t39 et39 => ?_)
                                have hF := mi_let hF et39
                                refine lv_istore (lv' := [(5, .int t39), (3, .long l29), (9, .int r25), (8, .int r24), (7, .int v7_78), (6, .int v6_69), (0, .ref (ad 0)), (1, .int vn), (2, .int vs)]) hx hb dX11_luck_205 hl (by decide) rfl (fun ls hl => ?_)
                                refine lv_iinc (v := (v7_78 + 1)) (lv' := [(7, .int (v7_78 + 1)), (5, .int t39), (3, .long l29), (9, .int r25), (8, .int r24), (6, .int v6_69), (0, .ref (ad 0)), (1, .int vn), (2, .int vs)]) hx hb dX11_luck_207 hl (k := 4) rfl rfl (by decide) rfl (fun ls hl => ?_)
                                refine loc_gen (P := fun w9 => lv_has ls 10 [(7, .int w9), (5, .int t39), (3, .long l29), (9, .int r25), (8, .int r24), (6, .int v6_69), (0, .ref (ad 0)), (1, .int vn), (2, .int vs)]) (v7_78 + 1) hl (fun w40 hw40 hl => ?_)
                                have hl : lv_has ls 10 [(7, .int w40), (5, .int t39), (3, .long l29), (9, .int r25), (8, .int r24), (6, .int v6_69), (0, .ref (ad 0)), (1, .int vn), (2, .int vs)] := hl
                                have hF := mi_let hF hw40.symm
                                have aw40 : w40.toInt = v7_78.toInt + 1 := by rw [← hw40]; exact tI_add (rfl : v7_78.toInt = _) (rfl : (1 : Int32).toInt = 1) (by omega) (by omega)
                                refine lv_goto (tgt := 78) hx hb dX11_luck_210 (by decide) ?_
                                exact ih78 (l29) (t39) (w40) xi34 _ _ _ (by omega) (by exact ⟨by omega, by omega⟩)  ok hP  kp35 hF hS (lv_sub hl [0, 5, 1, 2, 6, 7, 8] rfl)
                              · have hF := (if_neg c_38).symm.trans hF
                                have c_38 : ¬ y37.toInt = 0 := il_ne c_38
                                refine lv_iconst (v := 1) hx hb dX11_luck_199 (by decide) ?_
                                refine lv_goto (tgt := 204) hx hb dX11_luck_200 (by decide) ?_
                                refine lv_iadd hx hb dX11_luck_204 ?_
                                refine lv_topi (fun t41 et41 => ?_)
                                have hF := mi_let hF et41
                                refine lv_istore (lv' := [(5, .int t41), (3, .long l29), (9, .int r25), (8, .int r24), (7, .int v7_78), (6, .int v6_69), (0, .ref (ad 0)), (1, .int vn), (2, .int vs)]) hx hb dX11_luck_205 hl (by decide) rfl (fun ls hl => ?_)
                                refine lv_iinc (v := (v7_78 + 1)) (lv' := [(7, .int (v7_78 + 1)), (5, .int t41), (3, .long l29), (9, .int r25), (8, .int r24), (6, .int v6_69), (0, .ref (ad 0)), (1, .int vn), (2, .int vs)]) hx hb dX11_luck_207 hl (k := 4) rfl rfl (by decide) rfl (fun ls hl => ?_)
                                refine loc_gen (P := fun w9 => lv_has ls 10 [(7, .int w9), (5, .int t41), (3, .long l29), (9, .int r25), (8, .int r24), (6, .int v6_69), (0, .ref (ad 0)), (1, .int vn), (2, .int vs)]) (v7_78 + 1) hl (fun w42 hw42 hl => ?_)
                                have hl : lv_has ls 10 [(7, .int w42), (5, .int t41), (3, .long l29), (9, .int r25), (8, .int r24), (6, .int v6_69), (0, .ref (ad 0)), (1, .int vn), (2, .int vs)] := hl
                                have hF := mi_let hF hw42.symm
                                have aw42 : w42.toInt = v7_78.toInt + 1 := by rw [← hw42]; exact tI_add (rfl : v7_78.toInt = _) (rfl : (1 : Int32).toInt = 1) (by omega) (by omega)
                                refine lv_goto (tgt := 78) hx hb dX11_luck_210 (by decide) ?_
                                exact ih78 (l29) (t41) (w42) xi34 _ _ _ (by omega) (by exact ⟨by omega, by omega⟩)  ok hP  kp35 hF hS (lv_sub hl [0, 5, 1, 2, 6, 7, 8] rfl)
                          · have hF := (if_pos c_26).symm.trans hF
                            have c_26 : r25.toInt = 0 := il_eq c_26
                            refine lv_goto (tgt := 207) hx hb dX11_luck_127 (by decide) ?_
                            refine lv_iinc (v := (v7_78 + 1)) (lv' := [(7, .int (v7_78 + 1)), (9, .int r25), (8, .int r24), (6, .int v6_69), (5, .int v5_78), (3, .long v3_78), (0, .ref (ad 0)), (1, .int vn), (2, .int vs)]) hx hb dX11_luck_207 hl (k := 2) rfl rfl (by decide) rfl (fun ls hl => ?_)
                            refine loc_gen (P := fun w9 => lv_has ls 10 [(7, .int w9), (9, .int r25), (8, .int r24), (6, .int v6_69), (5, .int v5_78), (3, .long v3_78), (0, .ref (ad 0)), (1, .int vn), (2, .int vs)]) (v7_78 + 1) hl (fun w43 hw43 hl => ?_)
                            have hl : lv_has ls 10 [(7, .int w43), (9, .int r25), (8, .int r24), (6, .int v6_69), (5, .int v5_78), (3, .long v3_78), (0, .ref (ad 0)), (1, .int vn), (2, .int vs)] := hl
                            have hF := mi_let hF hw43.symm
                            have aw43 : w43.toInt = v7_78.toInt + 1 := by rw [← hw43]; exact tI_add (rfl : v7_78.toInt = _) (rfl : (1 : Int32).toInt = 1) (by omega) (by omega)
                            refine lv_goto (tgt := 78) hx hb dX11_luck_210 (by decide) ?_
                            exact ih78 (v3_78) (v5_78) (w43) nu78_ _ _ _ (by omega) (by exact ⟨by omega, by omega⟩)  ok hP  kq78_0 hF hS (lv_sub hl [0, 3, 4, 5, 6, 7, 8] rfl)
                    exact loop78 7 (v3_69) (v5_69) (0) nu69_ _ _ _ (by have h82 : (0 : Int32).toInt = 0 := rfl; omega) (by have h80 : (0 : Int32).toInt = 0 := rfl; exact ⟨by omega, by omega⟩)  ok hP  kq69_0 hF hS hl
              exact loop69 43 (l12) (0) (0) mu _ _ _ (by have h81 : (0 : Int32).toInt = 0 := rfl; have h82 : (0 : Int32).toInt = 0 := rfl; omega) (by have h80 : (0 : Int32).toInt = 0 := rfl; exact ⟨by omega, by omega⟩)  ok hP  (fun _ _ _ => rfl) hF hS hl
            · have hF := (if_neg c_11).symm.trans hF
              have c_11 : 99 < t10.toInt := il_nle c_11
              refine lv_bipush (v := (-2)) hx hb dX11_luck_57 (by decide) ?_
              exact W.iret (v := (-2)) hx hb hr (fun t ht hW => ⟨⟨(-2), mu, rfl, ⟨hF.trans hfz.symm, ok, trivial, (fun _ _ _ => rfl)⟩, by first | (subst ht; exact hP) | (rw [ht]; exact hP) | (show va_P (dC, dI) vwCl (wR 157 ad (EX cs ad) mu) t.heap; rw [ht]; exact hP)⟩, hS.F ht⟩) hS.2.2 dX11_luck_59
          · have hF := (if_pos c_8).symm.trans hF
            have c_8 : y7.toInt = 0 := il_eq c_8
            refine lv_bipush (v := (-4)) hx hb dX11_luck_37 (by decide) ?_
            exact W.iret (v := (-4)) hx hb hr (fun t ht hW => ⟨⟨(-4), mu, rfl, ⟨hF.trans hfz.symm, ok, trivial, (fun _ _ _ => rfl)⟩, by first | (subst ht; exact hP) | (rw [ht]; exact hP) | (show va_P (dC, dI) vwCl (wR 157 ad (EX cs ad) mu) t.heap; rw [ht]; exact hP)⟩, hS.F ht⟩) hS.2.2 dX11_luck_39
        · have hF := (if_neg c_6).symm.trans hF
          have c_6 : 0 ≤ t5.toInt := il_nlt c_6
          refine lv_iconst (v := (-1)) hx hb dX11_luck_25 (by decide) ?_
          exact W.iret (v := (-1)) hx hb hr (fun t ht hW => ⟨⟨(-1), mu, rfl, ⟨hF.trans hfz.symm, ok, trivial, (fun _ _ _ => rfl)⟩, by first | (subst ht; exact hP) | (rw [ht]; exact hP) | (show va_P (dC, dI) vwCl (wR 157 ad (EX cs ad) mu) t.heap; rw [ht]; exact hP)⟩, hS.F ht⟩) hS.2.2 dX11_luck_26

