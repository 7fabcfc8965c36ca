set_option maxHeartbeats 4000000 in
set_option maxRecDepth 100000 in
/-- sm_tells -/
theorem sm_tells (l : Launch) (dC : Nat → ClassId) (dI : Nat → Nat → Nat) (cs : Nat → ClassId) (ad : Nat → Nat) (mu : Nat → Nat → Int32) (ok : okR loM hiM mu) (H : Heap) (hP : va_P (dC, dI) vwCl (wR 21 ad (EM cs ad) mu) H) (vw : Int32) : Met l yX12_tells (wU yX12_tells cX12_tells 4 (some .int)) ({ frames := 1, cells := 0, slots := 0, locals := 22 }) (va_Pc [.ref (ad 0), .int vw] (sz_P (dC, dI) vwCl (tyM cs) H)) (va_Qi (fun (z : Int32) (_ : Unit) => True) (fun _ t => t.heap = H) (fun _ => False)) 0 0 (fun _ => False) := by
  refine Met.ofW (cc := cX12_tells) (maxL := 4) (ret := (some .int)) (by decide) rfl ?_
  intro p e s m args below meth c s₁ B hml hv
  obtain ⟨rfl, hh, hK, hz⟩ := hv
  have hx := B.exec
  have hb := B.bytes
  have hr := B.returns
  have hts := atoms_spec (ws := (wU yX12_tells cX12_tells 4 (some .int))) B.pre
  have hown : s.vm.findClass RX12 = some m.cls := findClass_of_methodNamed B.named
  have hlocks := B.notSynchronized
  subst hh
  have hS : va_S (fun _ => False) s.heap s.heap [] := va_S.rf
  have hl := lv_entry ([.ref (ad 0), .int vw]) (n := 4) (Nat.le_of_ble_eq_true rfl)
  rw [lg_entry_eq]
  generalize (lg_sl ([.ref (ad 0), .int vw]) ++ List.replicate (4 - (lg_sl ([.ref (ad 0), .int vw])).length) Slot.unset).toArray = ls at hl ⊢
  have hl : lv_has ls 4 [(0, .ref (ad 0)), (1, .int vw)] := hl
  refine lv_iconst (v := 0) hx hb dX12_tells_0 (by decide) ?_
  refine lv_istore_n (lv' := [(2, .int 0), (0, .ref (ad 0)), (1, .int vw)]) hx hb dX12_tells_1 rfl hl (by decide) rfl (fun ls hl => ?_)
  refine lv_iconst (v := 0) hx hb dX12_tells_2 (by decide) ?_
  refine lv_istore_n (lv' := [(3, .int 0), (2, .int 0), (0, .ref (ad 0)), (1, .int vw)]) hx hb dX12_tells_3 rfl hl (by decide) rfl (fun ls hl => ?_)
  have loop4 : ∀ (n4 : Nat) (v2_4 : Int32) (v3_4 : Int32) (locs : List Loc) (ls : Array Slot), (6 + 1 - v3_4.toInt).toNat < n4 → (0 ≤ v3_4.toInt ∧ v3_4.toInt ≤ 6) → va_S (fun _ => False) s.heap s.heap locs → lv_has ls 4 [(3, .int v3_4), (2, .int v2_4), (0, .ref (ad 0)), (1, .int vw)] → W p l e (headSpec (wU yX12_tells cX12_tells 4 (some .int)) ({ frames := 1, cells := 0, slots := 0, locals := 22 })).room s m ([.ref (ad 0), .int vw] : List Value).toArray below meth c s.heap locs 0 0 (MQ below (va_Qi (fun (z : Int32) (_ : Unit) => True) (fun _ t => t.heap = s.heap) (fun _ => False)) ([.ref (ad 0), .int vw] : List Value).toArray s 0 0 (fun _ => False)) (F0 m 4 ls []) := by
    intro n4
    induction n4 with
    | zero => intro v2_4 v3_4 locs ls hm; exact absurd hm (Nat.not_lt_zero _)
    | succ n4 ih4 =>
      intro v2_4 v3_4 locs ls hm h_v3_4 hS hl
      refine lv_iload_n hx hb dX12_tells_4 rfl (lv_at hl 0 rfl) ?_
      refine lv_bipush (v := 6) hx hb dX12_tells_5 (by decide) ?_
      refine lv_icmp_ge (tgt := 84) hx hb dX12_tells_7 (by decide) (fun c_1 => ?_) (fun c_1 => ?_)
      · have c_1 : 6 ≤ v3_4.toInt := il_le c_1
        refine lv_iload_n hx hb dX12_tells_84 rfl (lv_at hl 3 rfl) ?_
        by_cases w2 : vw.toInt < 0 ∨ 5 < vw.toInt
        · refine lv_tableOut (tgt := 157) hx hb dX12_tells_85 w2 (by decide) ?_
          refine lv_iload_n hx hb dX12_tells_157 rfl (lv_at hl 1 rfl) ?_
          exact W.iret (v := v2_4) hx hb hr (fun t ht hW => ⟨⟨v2_4, (), rfl, trivial, ht⟩, hS.F ht⟩) hS.2.2 dX12_tells_158
        by_cases w2_0 : vw.toInt = 0
        · refine lv_tableIn (off := 39) (tgt := 124) hx hb dX12_tells_85 (by omega) (by omega) (by rw [w2_0]; rfl) (by decide) ?_
          refine lv_aload_n hx hb dX12_tells_124 rfl (lv_at hl 2 rfl) ?_
          refine va_get (D := (dC, dI)) (ci := 12) (v := .int (mu 0 8)) (C := RX12) (T := TX12) (N := 46) hx hb hts inG12 hown hK hP 0 (gM_0 cs ad mu) rfl 8 (by decide) (hts _ (List.mem_cons_of_mem _ mw_5_49)) (fun _ h9 => h9) rfl dX12_tells_125 ?_
          refine lv_topi (fun y3 ey3 => ?_)
          have by3 : y3.toInt = (mu 0 8).toInt := congrArg Int32.toInt ey3
          have gy3 : 0 ≤ y3.toInt ∧ y3.toInt ≤ 7 := by rw [ey3]; exact rM_0_8 ok
          exact W.iret (v := y3) hx hb hr (fun t ht hW => ⟨⟨y3, (), rfl, trivial, ht⟩, hS.F ht⟩) hS.2.2 dX12_tells_128
        by_cases w2_1 : vw.toInt = 1
        · refine lv_tableIn (off := 44) (tgt := 129) hx hb dX12_tells_85 (by omega) (by omega) (by rw [w2_1]; rfl) (by decide) ?_
          refine lv_aload_n hx hb dX12_tells_129 rfl (lv_at hl 2 rfl) ?_
          refine va_get (D := (dC, dI)) (ci := 12) (v := .int (mu 0 11)) (C := RX12) (T := TX12) (N := 46) hx hb hts inG12 hown hK hP 0 (gM_0 cs ad mu) rfl 11 (by decide) (hts _ (List.mem_cons_of_mem _ mw_5_52)) (fun _ h9 => h9) rfl dX12_tells_130 ?_
          refine lv_topi (fun y4 ey4 => ?_)
          have by4 : y4.toInt = (mu 0 11).toInt := congrArg Int32.toInt ey4
          have gy4 : 0 ≤ y4.toInt ∧ y4.toInt ≤ 12 := by rw [ey4]; exact rM_0_11 ok
          exact W.iret (v := y4) hx hb hr (fun t ht hW => ⟨⟨y4, (), rfl, trivial, ht⟩, hS.F ht⟩) hS.2.2 dX12_tells_133
        by_cases w2_2 : vw.toInt = 2
        · refine lv_tableIn (off := 49) (tgt := 134) hx hb dX12_tells_85 (by omega) (by omega) (by rw [w2_2]; rfl) (by decide) ?_
          refine lv_aload_n hx hb dX12_tells_134 rfl (lv_at hl 2 rfl) ?_
          refine va_get (D := (dC, dI)) (ci := 12) (v := .int (mu 0 14)) (C := RX12) (T := TX12) (N := 46) hx hb hts inG12 hown hK hP 0 (gM_0 cs ad mu) rfl 14 (by decide) (hts _ (List.mem_cons_of_mem _ mw_5_55)) (fun _ h9 => h9) rfl dX12_tells_135 ?_
          refine lv_topi (fun y5 ey5 => ?_)
          have by5 : y5.toInt = (mu 0 14).toInt := congrArg Int32.toInt ey5
          exact W.iret (v := y5) hx hb hr (fun t ht hW => ⟨⟨y5, (), rfl, trivial, ht⟩, hS.F ht⟩) hS.2.2 dX12_tells_138
        by_cases w2_3 : vw.toInt = 3
        · refine lv_tableIn (off := 54) (tgt := 139) hx hb dX12_tells_85 (by omega) (by omega) (by rw [w2_3]; rfl) (by decide) ?_
          refine lv_aload_n hx hb dX12_tells_139 rfl (lv_at hl 2 rfl) ?_
          refine va_get (D := (dC, dI)) (ci := 12) (v := .int (mu 0 15)) (C := RX12) (T := TX12) (N := 46) hx hb hts inG12 hown hK hP 0 (gM_0 cs ad mu) rfl 15 (by decide) (hts _ (List.mem_cons_of_mem _ mw_5_56)) (fun _ h9 => h9) rfl dX12_tells_140 ?_
          refine lv_topi (fun y6 ey6 => ?_)
          have by6 : y6.toInt = (mu 0 15).toInt := congrArg Int32.toInt ey6
          have gy6 : 0 ≤ y6.toInt ∧ y6.toInt ≤ 4 := by rw [ey6]; exact rM_0_15 ok
          exact W.iret (v := y6) hx hb hr (fun t ht hW => ⟨⟨y6, (), rfl, trivial, ht⟩, hS.F ht⟩) hS.2.2 dX12_tells_143
        by_cases w2_4 : vw.toInt = 4
        · refine lv_tableIn (off := 59) (tgt := 144) hx hb dX12_tells_85 (by omega) (by omega) (by rw [w2_4]; rfl) (by decide) ?_
          refine lv_aload_n hx hb dX12_tells_144 rfl (lv_at hl 2 rfl) ?_
          refine va_get (D := (dC, dI)) (ci := 12) (v := .int (mu 0 17)) (C := RX12) (T := TX12) (N := 46) hx hb hts inG12 hown hK hP 0 (gM_0 cs ad mu) rfl 17 (by decide) (hts _ (List.mem_cons_of_mem _ mw_5_58)) (fun _ h9 => h9) rfl dX12_tells_145 ?_
          refine lv_topi (fun y7 ey7 => ?_)
          have by7 : y7.toInt = (mu 0 17).toInt := congrArg Int32.toInt ey7
          have gy7 : 0 ≤ y7.toInt ∧ y7.toInt ≤ 40 := by rw [ey7]; exact rM_0_17 ok
          exact W.iret (v := y7) hx hb hr (fun t ht hW => ⟨⟨y7, (), rfl, trivial, ht⟩, hS.F ht⟩) hS.2.2 dX12_tells_148
        have w2_5 : vw.toInt = 5 := by omega
        refine lv_tableIn (off := 64) (tgt := 149) hx hb dX12_tells_85 (by omega) (by omega) (by rw [w2_5]; rfl) (by decide) ?_
        refine lv_aload_n hx hb dX12_tells_149 rfl (lv_at hl 2 rfl) ?_
        refine va_get (D := (dC, dI)) (ci := 12) (v := .int (mu 0 13)) (C := RX12) (T := TX12) (N := 46) hx hb hts inG12 hown hK hP 0 (gM_0 cs ad mu) rfl 13 (by decide) (hts _ (List.mem_cons_of_mem _ mw_5_54)) (fun _ h9 => h9) rfl dX12_tells_150 ?_
        refine lv_topi (fun y8 ey8 => ?_)
        have by8 : y8.toInt = (mu 0 13).toInt := congrArg Int32.toInt ey8
        refine cr_i (va_runS (As := [.int y8]) (rest := []) ⟨hx, hb, hml, hown, hts⟩ (sm_sizeOf l dC dI (tyM cs) s.heap y8) (va_cwS 1 hts (wU_S mw_6_62 mw_6_60 mw_6_61 mw_1_13) rfl rfl rfl (by decide +kernel) ⟨Nat.le_of_ble_eq_true rfl, Nat.le_of_ble_eq_true rfl⟩) ⟨sz_c, sz_m hK hz⟩ rfl rfl hl.1 rfl (lv_room (Nat.le_of_ble_eq_true rfl)) dX12_tells_153 ⟨Nat.zero_le _, Nat.zero_le _⟩) hS (fun r9 hw9 locs hS => ?_)
        obtain ⟨hfe9, hw9⟩ := hw9
        have gr9 : r9 = so y8 ∧ (0 ≤ y8.toInt → y8.toInt ≤ 127 → r9.toInt = (pp y8.toNatClampNeg : Int) ∧ pp y8.toNatClampNeg ≤ 7 ∧ (y8.toInt = 0 ∨ 1 ≤ pp y8.toNatClampNeg)) := hw9
        exact W.iret (v := r9) hx hb hr (fun t ht hW => ⟨⟨r9, (), rfl, trivial, ht⟩, hS.F ht⟩) hS.2.2 dX12_tells_156
      · have c_1 : v3_4.toInt < 6 := il_nle c_1
        refine lv_iload_n hx hb dX12_tells_10 rfl (lv_at hl 1 rfl) ?_
        refine lv_iload_n hx hb dX12_tells_11 rfl (lv_at hl 3 rfl) ?_
        refine lv_bipush (v := 6) hx hb dX12_tells_12 (by decide) ?_
        refine lv_icmp_ne (tgt := 26) hx hb dX12_tells_14 (by decide) (fun c_10 => ?_) (fun c_10 => ?_)
        · have c_10 : ¬ vw.toInt = 6 := il_ne c_10
          refine lv_iload_n hx hb dX12_tells_26 rfl (lv_at hl 3 rfl) ?_
          refine lv_bipush (v := 7) hx hb dX12_tells_27 (by decide) ?_
          refine lv_icmp_ne (tgt := 46) hx hb dX12_tells_29 (by decide) (fun c_11 => ?_) (fun c_11 => ?_)
          · have c_11 : ¬ vw.toInt = 7 := il_ne c_11
            refine lv_iload_n hx hb dX12_tells_46 rfl (lv_at hl 3 rfl) ?_
            refine lv_bipush (v := 8) hx hb dX12_tells_47 (by decide) ?_
            refine lv_icmp_ne (tgt := 75) hx hb dX12_tells_49 (by decide) (fun c_12 => ?_) (fun c_12 => ?_)
            · have c_12 : ¬ vw.toInt = 8 := il_ne c_12
              refine lv_iconst (v := 0) hx hb dX12_tells_75 (by decide) ?_
              refine lv_iadd hx hb dX12_tells_76 ?_
              refine lv_topi (fun t13 et13 => ?_)
              refine lv_istore_n (lv' := [(2, .int t13), (3, .int v3_4), (0, .ref (ad 0)), (1, .int vw)]) hx hb dX12_tells_77 rfl hl (by decide) rfl (fun ls hl => ?_)
              refine lv_iinc (v := (v3_4 + 1)) (lv' := [(3, .int (v3_4 + 1)), (2, .int t13), (0, .ref (ad 0)), (1, .int vw)]) hx hb dX12_tells_78 hl (k := 1) rfl rfl (by decide) rfl (fun ls hl => ?_)
              refine loc_gen (P := fun w9 => lv_has ls 4 [(3, .int w9), (2, .int t13), (0, .ref (ad 0)), (1, .int vw)]) (v3_4 + 1) hl (fun w14 hw14 hl => ?_)
              have hl : lv_has ls 4 [(3, .int w14), (2, .int t13), (0, .ref (ad 0)), (1, .int vw)] := hl
              have aw14 : w14.toInt = v3_4.toInt + 1 := by rw [← hw14]; exact tI_add (rfl : v3_4.toInt = _) (rfl : (1 : Int32).toInt = 1) (by omega) (by omega)
              refine lv_goto (tgt := 4) hx hb dX12_tells_81 (by decide) ?_
              exact ih4 (t13) (w14)  _ _ (by omega) (by exact ⟨by omega, by omega⟩)   hS (lv_sub hl [0, 1, 2, 3] rfl)
            · have c_12 : vw.toInt = 8 := il_eq c_12
              refine lv_iload_n hx hb dX12_tells_52 rfl (lv_at hl 0 rfl) ?_
              refine lv_iconst (v := 3) hx hb dX12_tells_53 (by decide) ?_
              refine lv_icmp_ge (tgt := 75) hx hb dX12_tells_54 (by decide) (fun c_15 => ?_) (fun c_15 => ?_)
              · have c_15 : 3 ≤ v3_4.toInt := il_le c_15
                refine lv_iconst (v := 0) hx hb dX12_tells_75 (by decide) ?_
                refine lv_iadd hx hb dX12_tells_76 ?_
                refine lv_topi (fun t16 et16 => ?_)
                refine lv_istore_n (lv' := [(2, .int t16), (3, .int v3_4), (0, .ref (ad 0)), (1, .int vw)]) hx hb dX12_tells_77 rfl hl (by decide) rfl (fun ls hl => ?_)
                refine lv_iinc (v := (v3_4 + 1)) (lv' := [(3, .int (v3_4 + 1)), (2, .int t16), (0, .ref (ad 0)), (1, .int vw)]) hx hb dX12_tells_78 hl (k := 1) rfl rfl (by decide) rfl (fun ls hl => ?_)
                refine loc_gen (P := fun w9 => lv_has ls 4 [(3, .int w9), (2, .int t16), (0, .ref (ad 0)), (1, .int vw)]) (v3_4 + 1) hl (fun w17 hw17 hl => ?_)
                have hl : lv_has ls 4 [(3, .int w17), (2, .int t16), (0, .ref (ad 0)), (1, .int vw)] := hl
                have aw17 : w17.toInt = v3_4.toInt + 1 := by rw [← hw17]; exact tI_add (rfl : v3_4.toInt = _) (rfl : (1 : Int32).toInt = 1) (by omega) (by omega)
                refine lv_goto (tgt := 4) hx hb dX12_tells_81 (by decide) ?_
                exact ih4 (t16) (w17)  _ _ (by omega) (by exact ⟨by omega, by omega⟩)   hS (lv_sub hl [0, 1, 2, 3] rfl)
              · have c_15 : v3_4.toInt < 3 := il_nle c_15
                refine lv_aload_n hx hb dX12_tells_57 rfl (lv_at hl 2 rfl) ?_
                refine va_get (D := (dC, dI)) (ci := 12) (v := .ref (ad 15)) (C := RX12) (T := TX12) (N := 46) hx hb hts inG12 hown hK hP 0 (gM_0 cs ad mu) rfl 25 (by decide) (hts _ (List.mem_cons_of_mem _ mw_5_66)) (fun _ h9 => h9) rfl dX12_tells_58 ?_
                refine lv_bipush (v := 64) hx hb dX12_tells_61 (by decide) ?_
                refine lv_iload_n hx hb dX12_tells_63 rfl (lv_at hl 0 rfl) ?_
                refine lv_imul hx hb dX12_tells_64 ?_
                refine lv_topi (fun t18 et18 => ?_)
                have at18 : t18.toInt = 64 * v3_4.toInt := by rw [et18]; exact tI_mul (rfl : (64 : Int32).toInt = 64) (rfl : v3_4.toInt = _) (by omega) (by omega)
                refine va_iald hx hb hK hP 15 0 (gM_15 cs ad mu) rfl (show vp_in t18 192 from vi_of (by omega) (by omega)) dX12_tells_65 ?_
                have hc19 : ((t18 : Int32).toNatClampNeg : Int) = t18.toInt := tC_of (by omega)
                refine lv_topi (fun y20 ey20 => ?_)
                have by20 : y20.toInt = (mu 15 t18.toNatClampNeg).toInt := congrArg Int32.toInt ey20
                refine lv_bipush (v := (-9)) hx hb dX12_tells_66 (by decide) ?_
                refine lv_icmp_eq (tgt := 75) hx hb dX12_tells_68 (by decide) (fun c_21 => ?_) (fun c_21 => ?_)
                · have c_21 : y20.toInt = -9 := il_eq c_21
                  refine lv_iconst (v := 0) hx hb dX12_tells_75 (by decide) ?_
                  refine lv_iadd hx hb dX12_tells_76 ?_
                  refine lv_topi (fun t22 et22 => ?_)
                  refine lv_istore_n (lv' := [(2, .int t22), (3, .int v3_4), (0, .ref (ad 0)), (1, .int vw)]) hx hb dX12_tells_77 rfl hl (by decide) rfl (fun ls hl => ?_)
                  refine lv_iinc (v := (v3_4 + 1)) (lv' := [(3, .int (v3_4 + 1)), (2, .int t22), (0, .ref (ad 0)), (1, .int vw)]) hx hb dX12_tells_78 hl (k := 1) rfl rfl (by decide) rfl (fun ls hl => ?_)
                  refine loc_gen (P := fun w9 => lv_has ls 4 [(3, .int w9), (2, .int t22), (0, .ref (ad 0)), (1, .int vw)]) (v3_4 + 1) hl (fun w23 hw23 hl => ?_)
                  have hl : lv_has ls 4 [(3, .int w23), (2, .int t22), (0, .ref (ad 0)), (1, .int vw)] := hl
                  have aw23 : w23.toInt = v3_4.toInt + 1 := by rw [← hw23]; exact tI_add (rfl : v3_4.toInt = _) (rfl : (1 : Int32).toInt = 1) (by omega) (by omega)
                  refine lv_goto (tgt := 4) hx hb dX12_tells_81 (by decide) ?_
                  exact ih4 (t22) (w23)  _ _ (by omega) (by exact ⟨by omega, by omega⟩)   hS (lv_sub hl [0, 1, 2, 3] rfl)
                · have c_21 : ¬ y20.toInt = -9 := il_ne c_21
                  refine lv_iconst (v := 1) hx hb dX12_tells_71 (by decide) ?_
                  refine lv_goto (tgt := 76) hx hb dX12_tells_72 (by decide) ?_
                  refine lv_iadd hx hb dX12_tells_76 ?_
                  refine lv_topi (fun t24 et24 => ?_)
                  refine lv_istore_n (lv' := [(2, .int t24), (3, .int v3_4), (0, .ref (ad 0)), (1, .int vw)]) hx hb dX12_tells_77 rfl hl (by decide) rfl (fun ls hl => ?_)
                  refine lv_iinc (v := (v3_4 + 1)) (lv' := [(3, .int (v3_4 + 1)), (2, .int t24), (0, .ref (ad 0)), (1, .int vw)]) hx hb dX12_tells_78 hl (k := 1) rfl rfl (by decide) rfl (fun ls hl => ?_)
                  refine loc_gen (P := fun w9 => lv_has ls 4 [(3, .int w9), (2, .int t24), (0, .ref (ad 0)), (1, .int vw)]) (v3_4 + 1) hl (fun w25 hw25 hl => ?_)
                  have hl : lv_has ls 4 [(3, .int w25), (2, .int t24), (0, .ref (ad 0)), (1, .int vw)] := hl
                  have aw25 : w25.toInt = v3_4.toInt + 1 := by rw [← hw25]; exact tI_add (rfl : v3_4.toInt = _) (rfl : (1 : Int32).toInt = 1) (by omega) (by omega)
                  refine lv_goto (tgt := 4) hx hb dX12_tells_81 (by decide) ?_
                  exact ih4 (t24) (w25)  _ _ (by omega) (by exact ⟨by omega, by omega⟩)   hS (lv_sub hl [0, 1, 2, 3] rfl)
          · have c_11 : vw.toInt = 7 := il_eq c_11
            refine lv_iload_n hx hb dX12_tells_32 rfl (lv_at hl 0 rfl) ?_
            refine lv_iconst (v := 4) hx hb dX12_tells_33 (by decide) ?_
            refine lv_icmp_ge (tgt := 46) hx hb dX12_tells_34 (by decide) (fun c_26 => ?_) (fun c_26 => ?_)
            · have c_26 : 4 ≤ v3_4.toInt := il_le c_26
              refine lv_iload_n hx hb dX12_tells_46 rfl (lv_at hl 3 rfl) ?_
              refine lv_bipush (v := 8) hx hb dX12_tells_47 (by decide) ?_
              refine lv_icmp_ne (tgt := 75) hx hb dX12_tells_49 (by decide) (fun c_27 => ?_) (fun c_27 => by have c_27 : vw.toInt = 8 := il_eq c_27; exfalso; omega)
              have c_27 : ¬ vw.toInt = 8 := il_ne c_27
              refine lv_iconst (v := 0) hx hb dX12_tells_75 (by decide) ?_
              refine lv_iadd hx hb dX12_tells_76 ?_
              refine lv_topi (fun t28 et28 => ?_)
              refine lv_istore_n (lv' := [(2, .int t28), (3, .int v3_4), (0, .ref (ad 0)), (1, .int vw)]) hx hb dX12_tells_77 rfl hl (by decide) rfl (fun ls hl => ?_)
              refine lv_iinc (v := (v3_4 + 1)) (lv' := [(3, .int (v3_4 + 1)), (2, .int t28), (0, .ref (ad 0)), (1, .int vw)]) hx hb dX12_tells_78 hl (k := 1) rfl rfl (by decide) rfl (fun ls hl => ?_)
              refine loc_gen (P := fun w9 => lv_has ls 4 [(3, .int w9), (2, .int t28), (0, .ref (ad 0)), (1, .int vw)]) (v3_4 + 1) hl (fun w29 hw29 hl => ?_)
              have hl : lv_has ls 4 [(3, .int w29), (2, .int t28), (0, .ref (ad 0)), (1, .int vw)] := hl
              have aw29 : w29.toInt = v3_4.toInt + 1 := by rw [← hw29]; exact tI_add (rfl : v3_4.toInt = _) (rfl : (1 : Int32).toInt = 1) (by omega) (by omega)
              refine lv_goto (tgt := 4) hx hb dX12_tells_81 (by decide) ?_
              exact ih4 (t28) (w29)  _ _ (by omega) (by exact ⟨by omega, by omega⟩)   hS (lv_sub hl [0, 1, 2, 3] rfl)
            · have c_26 : v3_4.toInt < 4 := il_nle c_26
              refine lv_aload_n hx hb dX12_tells_37 rfl (lv_at hl 2 rfl) ?_
              refine va_get (D := (dC, dI)) (ci := 12) (v := .ref (ad 5)) (C := RX12) (T := TX12) (N := 46) hx hb hts inG12 hown hK hP 0 (gM_0 cs ad mu) rfl 6 (by decide) (hts _ (List.mem_cons_of_mem _ mw_5_47)) (fun _ h9 => h9) rfl dX12_tells_38 ?_
              refine lv_iload_n hx hb dX12_tells_41 rfl (lv_at hl 0 rfl) ?_
              refine va_iald hx hb hK hP 5 0 (gM_5 cs ad mu) rfl (show vp_in v3_4 4 from vi_of (by omega) (by omega)) dX12_tells_42 ?_
              refine lv_topi (fun y30 ey30 => ?_)
              have by30 : y30.toInt = (mu 5 v3_4.toNatClampNeg).toInt := congrArg Int32.toInt ey30
              have gy30 : -9 ≤ y30.toInt ∧ y30.toInt ≤ 80 := by rw [ey30]; exact rM_5_s ok v3_4.toNatClampNeg
              refine lv_if_ge (tgt := 71) hx hb dX12_tells_43 (by decide) (fun c_31 => ?_) (fun c_31 => ?_)
              · have c_31 : 0 ≤ y30.toInt := il_le c_31
                refine lv_iconst (v := 1) hx hb dX12_tells_71 (by decide) ?_
                refine lv_goto (tgt := 76) hx hb dX12_tells_72 (by decide) ?_
                refine lv_iadd hx hb dX12_tells_76 ?_
                refine lv_topi (fun t32 et32 => ?_)
                refine lv_istore_n (lv' := [(2, .int t32), (3, .int v3_4), (0, .ref (ad 0)), (1, .int vw)]) hx hb dX12_tells_77 rfl hl (by decide) rfl (fun ls hl => ?_)
                refine lv_iinc (v := (v3_4 + 1)) (lv' := [(3, .int (v3_4 + 1)), (2, .int t32), (0, .ref (ad 0)), (1, .int vw)]) hx hb dX12_tells_78 hl (k := 1) rfl rfl (by decide) rfl (fun ls hl => ?_)
                refine loc_gen (P := fun w9 => lv_has ls 4 [(3, .int w9), (2, .int t32), (0, .ref (ad 0)), (1, .int vw)]) (v3_4 + 1) hl (fun w33 hw33 hl => ?_)
                have hl : lv_has ls 4 [(3, .int w33), (2, .int t32), (0, .ref (ad 0)), (1, .int vw)] := hl
                have aw33 : w33.toInt = v3_4.toInt + 1 := by rw [← hw33]; exact tI_add (rfl : v3_4.toInt = _) (rfl : (1 : Int32).toInt = 1) (by omega) (by omega)
                refine lv_goto (tgt := 4) hx hb dX12_tells_81 (by decide) ?_
                exact ih4 (t32) (w33)  _ _ (by omega) (by exact ⟨by omega, by omega⟩)   hS (lv_sub hl [0, 1, 2, 3] rfl)
              · have c_31 : y30.toInt < 0 := il_nle c_31
                refine lv_iload_n hx hb dX12_tells_46 rfl (lv_at hl 3 rfl) ?_
                refine lv_bipush (v := 8) hx hb dX12_tells_47 (by decide) ?_
                refine lv_icmp_ne (tgt := 75) hx hb dX12_tells_49 (by decide) (fun c_34 => ?_) (fun c_34 => by have c_34 : vw.toInt = 8 := il_eq c_34; exfalso; omega)
                have c_34 : ¬ vw.toInt = 8 := il_ne c_34
                refine lv_iconst (v := 0) hx hb dX12_tells_75 (by decide) ?_
                refine lv_iadd hx hb dX12_tells_76 ?_
                refine lv_topi (fun t35 et35 => ?_)
                refine lv_istore_n (lv' := [(2, .int t35), (3, .int v3_4), (0, .ref (ad 0)), (1, .int vw)]) hx hb dX12_tells_77 rfl hl (by decide) rfl (fun ls hl => ?_)
                refine lv_iinc (v := (v3_4 + 1)) (lv' := [(3, .int (v3_4 + 1)), (2, .int t35), (0, .ref (ad 0)), (1, .int vw)]) hx hb dX12_tells_78 hl (k := 1) rfl rfl (by decide) rfl (fun ls hl => ?_)
                refine loc_gen (P := fun w9 => lv_has ls 4 [(3, .int w9), (2, .int t35), (0, .ref (ad 0)), (1, .int vw)]) (v3_4 + 1) hl (fun w36 hw36 hl => ?_)
                have hl : lv_has ls 4 [(3, .int w36), (2, .int t35), (0, .ref (ad 0)), (1, .int vw)] := hl
                have aw36 : w36.toInt = v3_4.toInt + 1 := by rw [← hw36]; exact tI_add (rfl : v3_4.toInt = _) (rfl : (1 : Int32).toInt = 1) (by omega) (by omega)
                refine lv_goto (tgt := 4) hx hb dX12_tells_81 (by decide) ?_
                exact ih4 (t35) (w36)  _ _ (by omega) (by exact ⟨by omega, by omega⟩)   hS (lv_sub hl [0, 1, 2, 3] rfl)
        · have c_10 : vw.toInt = 6 := il_eq c_10
          refine lv_aload_n hx hb dX12_tells_17 rfl (lv_at hl 2 rfl) ?_
          refine va_get (D := (dC, dI)) (ci := 12) (v := .ref (ad 2)) (C := RX12) (T := TX12) (N := 46) hx hb hts inG12 hown hK hP 0 (gM_0 cs ad mu) rfl 3 (by decide) (hts _ (List.mem_cons_of_mem _ mw_5_44)) (fun _ h9 => h9) rfl dX12_tells_18 ?_
          refine lv_iload_n hx hb dX12_tells_21 rfl (lv_at hl 0 rfl) ?_
          refine va_iald hx hb hK hP 2 0 (gM_2 cs ad mu) rfl (show vp_in v3_4 6 from vi_of (by omega) (by omega)) dX12_tells_22 ?_
          refine lv_topi (fun y37 ey37 => ?_)
          have by37 : y37.toInt = (mu 2 v3_4.toNatClampNeg).toInt := congrArg Int32.toInt ey37
          have gy37 : -9 ≤ y37.toInt ∧ y37.toInt ≤ 40 := by rw [ey37]; exact rM_2_s ok v3_4.toNatClampNeg
          refine lv_if_ge (tgt := 71) hx hb dX12_tells_23 (by decide) (fun c_38 => ?_) (fun c_38 => ?_)
          · have c_38 : 0 ≤ y37.toInt := il_le c_38
            refine lv_iconst (v := 1) hx hb dX12_tells_71 (by decide) ?_
            refine lv_goto (tgt := 76) hx hb dX12_tells_72 (by decide) ?_
            refine lv_iadd hx hb dX12_tells_76 ?_
            refine lv_topi (fun t39 et39 => ?_)
            refine lv_istore_n (lv' := [(2, .int t39), (3, .int v3_4), (0, .ref (ad 0)), (1, .int vw)]) hx hb dX12_tells_77 rfl hl (by decide) rfl (fun ls hl => ?_)
            refine lv_iinc (v := (v3_4 + 1)) (lv' := [(3, .int (v3_4 + 1)), (2, .int t39), (0, .ref (ad 0)), (1, .int vw)]) hx hb dX12_tells_78 hl (k := 1) rfl rfl (by decide) rfl (fun ls hl => ?_)
            refine loc_gen (P := fun w9 => lv_has ls 4 [(3, .int w9), (2, .int t39), (0, .ref (ad 0)), (1, .int vw)]) (v3_4 + 1) hl (fun w40 hw40 hl => ?_)
            have hl : lv_has ls 4 [(3, .int w40), (2, .int t39), (0, .ref (ad 0)), (1, .int vw)] := hl
            have aw40 : w40.toInt = v3_4.toInt + 1 := by rw [← hw40]; exact tI_add (rfl : v3_4.toInt = _) (rfl : (1 : Int32).toInt = 1) (by omega) (by omega)
            refine lv_goto (tgt := 4) hx hb dX12_tells_81 (by decide) ?_
            exact ih4 (t39) (w40)  _ _ (by omega) (by exact ⟨by omega, by omega⟩)   hS (lv_sub hl [0, 1, 2, 3] rfl)
          · have c_38 : y37.toInt < 0 := il_nle c_38
            refine lv_iload_n hx hb dX12_tells_26 rfl (lv_at hl 3 rfl) ?_
            refine lv_bipush (v := 7) hx hb dX12_tells_27 (by decide) ?_
            refine lv_icmp_ne (tgt := 46) hx hb dX12_tells_29 (by decide) (fun c_41 => ?_) (fun c_41 => by have c_41 : vw.toInt = 7 := il_eq c_41; exfalso; omega)
            have c_41 : ¬ vw.toInt = 7 := il_ne c_41
            refine lv_iload_n hx hb dX12_tells_46 rfl (lv_at hl 3 rfl) ?_
            refine lv_bipush (v := 8) hx hb dX12_tells_47 (by decide) ?_
            refine lv_icmp_ne (tgt := 75) hx hb dX12_tells_49 (by decide) (fun c_42 => ?_) (fun c_42 => by have c_42 : vw.toInt = 8 := il_eq c_42; exfalso; omega)
            have c_42 : ¬ vw.toInt = 8 := il_ne c_42
            refine lv_iconst (v := 0) hx hb dX12_tells_75 (by decide) ?_
            refine lv_iadd hx hb dX12_tells_76 ?_
            refine lv_topi (fun t43 et43 => ?_)
            refine lv_istore_n (lv' := [(2, .int t43), (3, .int v3_4), (0, .ref (ad 0)), (1, .int vw)]) hx hb dX12_tells_77 rfl hl (by decide) rfl (fun ls hl => ?_)
            refine lv_iinc (v := (v3_4 + 1)) (lv' := [(3, .int (v3_4 + 1)), (2, .int t43), (0, .ref (ad 0)), (1, .int vw)]) hx hb dX12_tells_78 hl (k := 1) rfl rfl (by decide) rfl (fun ls hl => ?_)
            refine loc_gen (P := fun w9 => lv_has ls 4 [(3, .int w9), (2, .int t43), (0, .ref (ad 0)), (1, .int vw)]) (v3_4 + 1) hl (fun w44 hw44 hl => ?_)
            have hl : lv_has ls 4 [(3, .int w44), (2, .int t43), (0, .ref (ad 0)), (1, .int vw)] := hl
            have aw44 : w44.toInt = v3_4.toInt + 1 := by rw [← hw44]; exact tI_add (rfl : v3_4.toInt = _) (rfl : (1 : Int32).toInt = 1) (by omega) (by omega)
            refine lv_goto (tgt := 4) hx hb dX12_tells_81 (by decide) ?_
            exact ih4 (t43) (w44)  _ _ (by omega) (by exact ⟨by omega, by omega⟩)   hS (lv_sub hl [0, 1, 2, 3] rfl)
  exact loop4 ((6 + 1 - (0 : Int32).toInt).toNat + 1) (0) (0)  _ _ (Nat.lt_succ_self _) (by have h80 : (0 : Int32).toInt = 0 := rfl; exact ⟨by omega, by omega⟩)   hS hl
