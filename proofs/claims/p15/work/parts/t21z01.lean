set_option maxHeartbeats 4000000 in
set_option maxRecDepth 100000 in
/-- sm_bestOf -/
theorem sm_bestOf (l : Launch) (dC : Nat → ClassId) (dI : Nat → Nat → Nat) (cs : Nat → ClassId) (ad : Nat → Nat) (mu : Nat → Nat → Int32) (ok : okR loM hiM mu) (H : Heap) (hP : va_P (dC, dI) vwCl (wR 21 ad (EM cs ad) mu) H) (vy : Int32) (vg : Int32) : Met l yX12_bestOf (wU yX12_bestOf cX12_bestOf 6 (some .int)) ({ frames := 2, cells := 0, slots := 0, locals := 46 }) (va_Pc [.ref (ad 0), .int vy, .int vg] (sz_P (dC, dI) vwCl (tyM cs) H)) (va_Qi (fun (z : Int32) (_ : Unit) => True) (fun _ t => t.heap = H) (fun _ => False)) 0 0 (fun _ => False) := by
  refine Met.ofW (cc := cX12_bestOf) (maxL := 6) (ret := (some .int)) (by decide) rfl ?_
  intro p e s m args below meth c s₁ B hml hv
  obtain ⟨rfl, hh, hK, hz⟩ := hv
  have hx := B.exec
  have hb := B.bytes
  have hr := B.returns
  have hts := atoms_spec (ws := (wU yX12_bestOf cX12_bestOf 6 (some .int))) B.pre
  have hown : s.vm.findClass RX12 = some m.cls := findClass_of_methodNamed B.named
  have hlocks := B.notSynchronized
  subst hh
  have hS : va_S (fun _ => False) s.heap s.heap [] := va_S.rf
  have hl := lv_entry ([.ref (ad 0), .int vy, .int vg]) (n := 6) (Nat.le_of_ble_eq_true rfl)
  rw [lg_entry_eq]
  generalize (lg_sl ([.ref (ad 0), .int vy, .int vg]) ++ List.replicate (6 - (lg_sl ([.ref (ad 0), .int vy, .int vg])).length) Slot.unset).toArray = ls at hl ⊢
  have hl : lv_has ls 6 [(0, .ref (ad 0)), (1, .int vy), (2, .int vg)] := hl
  refine lv_iconst (v := 0) hx hb dX12_bestOf_0 (by decide) ?_
  refine lv_istore_n (lv' := [(3, .int 0), (0, .ref (ad 0)), (1, .int vy), (2, .int vg)]) hx hb dX12_bestOf_1 rfl hl (by decide) rfl (fun ls hl => ?_)
  refine lv_iconst (v := 0) hx hb dX12_bestOf_2 (by decide) ?_
  refine lv_istore (lv' := [(4, .int 0), (3, .int 0), (0, .ref (ad 0)), (1, .int vy), (2, .int vg)]) hx hb dX12_bestOf_3 hl (by decide) rfl (fun ls hl => ?_)
  have loop5 : ∀ (n5 : Nat) (v3_5 : Int32) (v4_5 : Int32) (locs : List Loc) (ls : Array Slot), (7 + 1 - v4_5.toInt).toNat < n5 → (0 ≤ v4_5.toInt ∧ v4_5.toInt ≤ 7) → va_S (fun _ => False) s.heap s.heap locs → lv_has ls 6 [(4, .int v4_5), (3, .int v3_5), (0, .ref (ad 0)), (1, .int vy), (2, .int vg)] → W p l e (headSpec (wU yX12_bestOf cX12_bestOf 6 (some .int)) ({ frames := 2, cells := 0, slots := 0, locals := 46 })).room s m ([.ref (ad 0), .int vy, .int vg] : List Value).toArray below meth c s.heap locs 0 0 (MQ below (va_Qi (fun (z : Int32) (_ : Unit) => True) (fun _ t => t.heap = s.heap) (fun _ => False)) ([.ref (ad 0), .int vy, .int vg] : List Value).toArray s 0 0 (fun _ => False)) (F0 m 5 ls []) := by
    intro n5
    induction n5 with
    | zero => intro v3_5 v4_5 locs ls hm; exact absurd hm (Nat.not_lt_zero _)
    | succ n5 ih5 =>
      intro v3_5 v4_5 locs ls hm h_v4_5 hS hl
      refine lv_iload hx hb dX12_bestOf_5 (lv_at hl 0 rfl) ?_
      refine lv_aload_n hx hb dX12_bestOf_7 rfl (lv_at hl 2 rfl) ?_
      refine va_get (D := (dC, dI)) (ci := 12) (v := .int (mu 0 8)) (C := RX12) (T := TX12) (N := 46) hx hb hts inG12 hown hK hP 0 (gM_0 cs ad mu) rfl 8 (by decide) (hts _ (List.mem_cons_of_mem _ mw_5_49)) (fun _ h9 => h9) rfl dX12_bestOf_8 ?_
      refine lv_topi (fun y1 ey1 => ?_)
      have by1 : y1.toInt = (mu 0 8).toInt := congrArg Int32.toInt ey1
      have gy1 : 0 ≤ y1.toInt ∧ y1.toInt ≤ 7 := by rw [ey1]; exact rM_0_8 ok
      refine lv_icmp_ge (tgt := 89) hx hb dX12_bestOf_11 (by decide) (fun c_2 => ?_) (fun c_2 => ?_)
      · have c_2 : y1.toInt ≤ v4_5.toInt := il_le c_2
        refine lv_iload_n hx hb dX12_bestOf_89 rfl (lv_at hl 1 rfl) ?_
        exact W.iret (v := v3_5) hx hb hr (fun t ht hW => ⟨⟨v3_5, (), rfl, trivial, ht⟩, hS.F ht⟩) hS.2.2 dX12_bestOf_90
      · have c_2 : v4_5.toInt < y1.toInt := il_nle c_2
        refine lv_aload_n hx hb dX12_bestOf_14 rfl (lv_at hl 2 rfl) ?_
        refine lv_iload_n hx hb dX12_bestOf_15 rfl (lv_at hl 3 rfl) ?_
        refine cr_i (va_runV (As := [.int vy]) (rest := []) ⟨hx, hb, hml, hown, hts⟩ (sm_besideOf l dC dI cs ad mu ok s.heap hP vy) (cwV 1 hts (wU_V mw_6_56 mw_6_53 mw_6_55 mw_0_40 mw_1_13) rfl rfl rfl (by decide +kernel) ⟨Nat.le_of_ble_eq_true rfl, Nat.le_of_ble_eq_true rfl⟩) ⟨sz_c, va_recv hK hP (ci := 12) (q0 := 0) rfl (gM_0 cs ad mu), sz_m hK hz⟩ rfl rfl hl.1 rfl (lv_room (Nat.le_of_ble_eq_true rfl)) dX12_bestOf_16 ⟨Nat.zero_le _, Nat.zero_le _⟩) hS (fun r3 hw3 locs hS => ?_)
        obtain ⟨hfe3, hw3⟩ := hw3
        refine lv_iload hx hb dX12_bestOf_19 (lv_at hl 0 rfl) ?_
        refine cr_i (va_runS (As := [.int r3, .int v4_5]) (rest := []) ⟨hx, hb, hml, hown, hts⟩ (sm_has l dC dI (tyM cs) s.heap r3 v4_5) (va_cwS 2 hts (wU_S mw_6_59 mw_6_57 mw_6_58 mw_1_13) rfl rfl rfl (by decide +kernel) ⟨Nat.le_of_ble_eq_true rfl, Nat.le_of_ble_eq_true rfl⟩) ⟨sz_c, sz_m hK hz⟩ rfl rfl hl.1 rfl (lv_room (Nat.le_of_ble_eq_true rfl)) dX12_bestOf_21 ⟨Nat.zero_le _, Nat.zero_le _⟩) hS (fun r4 hw4 locs hS => ?_)
        obtain ⟨hfe4, hw4⟩ := hw4
        rcases hw4 with ⟨rfl, f4⟩ | ⟨rfl, f4⟩
        · have f4 : rb r3 v4_5 = 1 := f4
          refine lv_if_eq (tgt := 48) hx hb dX12_bestOf_24 (by decide) (fun c => absurd c (by decide)) (fun _ => ?_)
          refine lv_aload_n hx hb dX12_bestOf_27 rfl (lv_at hl 2 rfl) ?_
          refine va_get (D := (dC, dI)) (ci := 12) (v := .ref (ad 7)) (C := RX12) (T := TX12) (N := 46) hx hb hts inG12 hown hK hP 0 (gM_0 cs ad mu) rfl 9 (by decide) (hts _ (List.mem_cons_of_mem _ mw_5_50)) (fun _ h9 => h9) rfl dX12_bestOf_28 ?_
          refine lv_iload hx hb dX12_bestOf_31 (lv_at hl 0 rfl) ?_
          refine va_iald hx hb hK hP 7 0 (gM_7 cs ad mu) rfl (show vp_in v4_5 7 from vi_of (by omega) (by omega)) dX12_bestOf_33 ?_
          refine lv_topi (fun y5 ey5 => ?_)
          have by5 : y5.toInt = (mu 7 v4_5.toNatClampNeg).toInt := congrArg Int32.toInt ey5
          refine lv_iconst (v := 3) hx hb dX12_bestOf_34 (by decide) ?_
          refine lv_icmp_ne (tgt := 44) hx hb dX12_bestOf_35 (by decide) (fun c_6 => ?_) (fun c_6 => ?_)
          · have c_6 : ¬ y5.toInt = 3 := il_ne c_6
            refine lv_iconst (v := 1) hx hb dX12_bestOf_44 (by decide) ?_
            refine lv_goto (tgt := 49) hx hb dX12_bestOf_45 (by decide) ?_
            refine lv_istore (lv' := [(5, .int 1), (4, .int v4_5), (3, .int v3_5), (0, .ref (ad 0)), (1, .int vy), (2, .int vg)]) hx hb dX12_bestOf_49 hl (by decide) rfl (fun ls hl => ?_)
            refine lv_iload hx hb dX12_bestOf_51 (lv_at hl 0 rfl) ?_
            refine lv_if_eq (tgt := 81) hx hb dX12_bestOf_53 (by decide) (fun c => absurd c (by decide)) (fun _ => ?_)
            refine lv_aload_n hx hb dX12_bestOf_56 rfl (lv_at hl 3 rfl) ?_
            refine va_get (D := (dC, dI)) (ci := 12) (v := .ref (ad 20)) (C := RX12) (T := TX12) (N := 46) hx hb hts inG12 hown hK hP 0 (gM_0 cs ad mu) rfl 41 (by decide) (hts _ (List.mem_cons_of_mem _ mw_5_82)) (fun _ h9 => h9) rfl dX12_bestOf_57 ?_
            refine lv_iload hx hb dX12_bestOf_60 (lv_at hl 1 rfl) ?_
            refine va_iald hx hb hK hP 20 0 (gM_20 cs ad mu) rfl (show vp_in v4_5 7 from vi_of (by omega) (by omega)) dX12_bestOf_62 ?_
            refine lv_topi (fun y7 ey7 => ?_)
            have by7 : y7.toInt = (mu 20 v4_5.toNatClampNeg).toInt := congrArg Int32.toInt ey7
            refine lv_iconst (v := 1) hx hb dX12_bestOf_63 (by decide) ?_
            refine lv_isub hx hb dX12_bestOf_64 ?_
            refine lv_topi (fun t8 et8 => ?_)
            refine lv_iload_n hx hb dX12_bestOf_65 rfl (lv_at hl 2 rfl) ?_
            refine lv_icmp_le (tgt := 81) hx hb dX12_bestOf_66 (by decide) (fun c_9 => ?_) (fun c_9 => ?_)
            · have c_9 : t8.toInt ≤ v3_5.toInt := il_le c_9
              refine lv_iload_n hx hb dX12_bestOf_81 rfl (lv_at hl 2 rfl) ?_
              refine lv_istore_n (lv' := [(3, .int v3_5), (5, .int 1), (4, .int v4_5), (0, .ref (ad 0)), (1, .int vy), (2, .int vg)]) hx hb dX12_bestOf_82 rfl hl (by decide) rfl (fun ls hl => ?_)
              refine lv_iinc (v := (v4_5 + 1)) (lv' := [(4, .int (v4_5 + 1)), (3, .int v3_5), (5, .int 1), (0, .ref (ad 0)), (1, .int vy), (2, .int vg)]) hx hb dX12_bestOf_83 hl (k := 2) rfl rfl (by decide) rfl (fun ls hl => ?_)
              refine loc_gen (P := fun w9 => lv_has ls 6 [(4, .int w9), (3, .int v3_5), (5, .int 1), (0, .ref (ad 0)), (1, .int vy), (2, .int vg)]) (v4_5 + 1) hl (fun w10 hw10 hl => ?_)
              have hl : lv_has ls 6 [(4, .int w10), (3, .int v3_5), (5, .int 1), (0, .ref (ad 0)), (1, .int vy), (2, .int vg)] := hl
              have aw10 : w10.toInt = v4_5.toInt + 1 := by rw [← hw10]; exact tI_add (rfl : v4_5.toInt = _) (rfl : (1 : Int32).toInt = 1) (by omega) (by omega)
              refine lv_goto (tgt := 5) hx hb dX12_bestOf_86 (by decide) ?_
              exact ih5 (v3_5) (w10)  _ _ (by omega) (by exact ⟨by omega, by omega⟩)   hS (lv_sub hl [0, 1, 3, 4, 5] rfl)
            · have c_9 : v3_5.toInt < t8.toInt := il_nle c_9
              refine lv_aload_n hx hb dX12_bestOf_69 rfl (lv_at hl 3 rfl) ?_
              refine va_get (D := (dC, dI)) (ci := 12) (v := .ref (ad 20)) (C := RX12) (T := TX12) (N := 46) hx hb hts inG12 hown hK hP 0 (gM_0 cs ad mu) rfl 41 (by decide) (hts _ (List.mem_cons_of_mem _ mw_5_82)) (fun _ h9 => h9) rfl dX12_bestOf_70 ?_
              refine lv_iload hx hb dX12_bestOf_73 (lv_at hl 1 rfl) ?_
              refine va_iald hx hb hK hP 20 0 (gM_20 cs ad mu) rfl (show vp_in v4_5 7 from vi_of (by omega) (by omega)) dX12_bestOf_75 ?_
              refine lq_i y7 ey7.symm ?_
              refine lv_iconst (v := 1) hx hb dX12_bestOf_76 (by decide) ?_
              refine lv_isub hx hb dX12_bestOf_77 ?_
              refine lv_topi (fun t11 et11 => ?_)
              refine lv_goto (tgt := 82) hx hb dX12_bestOf_78 (by decide) ?_
              refine lv_istore_n (lv' := [(3, .int t11), (5, .int 1), (4, .int v4_5), (0, .ref (ad 0)), (1, .int vy), (2, .int vg)]) hx hb dX12_bestOf_82 rfl hl (by decide) rfl (fun ls hl => ?_)
              refine lv_iinc (v := (v4_5 + 1)) (lv' := [(4, .int (v4_5 + 1)), (3, .int t11), (5, .int 1), (0, .ref (ad 0)), (1, .int vy), (2, .int vg)]) hx hb dX12_bestOf_83 hl (k := 2) rfl rfl (by decide) rfl (fun ls hl => ?_)
              refine loc_gen (P := fun w9 => lv_has ls 6 [(4, .int w9), (3, .int t11), (5, .int 1), (0, .ref (ad 0)), (1, .int vy), (2, .int vg)]) (v4_5 + 1) hl (fun w12 hw12 hl => ?_)
              have hl : lv_has ls 6 [(4, .int w12), (3, .int t11), (5, .int 1), (0, .ref (ad 0)), (1, .int vy), (2, .int vg)] := hl
              have aw12 : w12.toInt = v4_5.toInt + 1 := by rw [← hw12]; exact tI_add (rfl : v4_5.toInt = _) (rfl : (1 : Int32).toInt = 1) (by omega) (by omega)
              refine lv_goto (tgt := 5) hx hb dX12_bestOf_86 (by decide) ?_
              exact ih5 (t11) (w12)  _ _ (by omega) (by exact ⟨by omega, by omega⟩)   hS (lv_sub hl [0, 1, 3, 4, 5] rfl)
          · have c_6 : y5.toInt = 3 := il_eq c_6
            refine lv_iload hx hb dX12_bestOf_38 (lv_at hl 0 rfl) ?_
            refine lv_iload_n hx hb dX12_bestOf_40 rfl (lv_at hl 4 rfl) ?_
            refine lv_icmp_ne (tgt := 48) hx hb dX12_bestOf_41 (by decide) (fun c_13 => ?_) (fun c_13 => ?_)
            · have c_13 : ¬ v4_5.toInt = vg.toInt := il_ne c_13
              refine lv_iconst (v := 0) hx hb dX12_bestOf_48 (by decide) ?_
              refine lv_istore (lv' := [(5, .int 0), (4, .int v4_5), (3, .int v3_5), (0, .ref (ad 0)), (1, .int vy), (2, .int vg)]) hx hb dX12_bestOf_49 hl (by decide) rfl (fun ls hl => ?_)
              refine lv_iload hx hb dX12_bestOf_51 (lv_at hl 0 rfl) ?_
              refine lv_if_eq (tgt := 81) hx hb dX12_bestOf_53 (by decide) (fun _ => ?_) (fun c => absurd (by decide) c)
              refine lv_iload_n hx hb dX12_bestOf_81 rfl (lv_at hl 2 rfl) ?_
              refine lv_istore_n (lv' := [(3, .int v3_5), (5, .int 0), (4, .int v4_5), (0, .ref (ad 0)), (1, .int vy), (2, .int vg)]) hx hb dX12_bestOf_82 rfl hl (by decide) rfl (fun ls hl => ?_)
              refine lv_iinc (v := (v4_5 + 1)) (lv' := [(4, .int (v4_5 + 1)), (3, .int v3_5), (5, .int 0), (0, .ref (ad 0)), (1, .int vy), (2, .int vg)]) hx hb dX12_bestOf_83 hl (k := 2) rfl rfl (by decide) rfl (fun ls hl => ?_)
              refine loc_gen (P := fun w9 => lv_has ls 6 [(4, .int w9), (3, .int v3_5), (5, .int 0), (0, .ref (ad 0)), (1, .int vy), (2, .int vg)]) (v4_5 + 1) hl (fun w14 hw14 hl => ?_)
              have hl : lv_has ls 6 [(4, .int w14), (3, .int v3_5), (5, .int 0), (0, .ref (ad 0)), (1, .int vy), (2, .int vg)] := hl
              have aw14 : w14.toInt = v4_5.toInt + 1 := by rw [← hw14]; exact tI_add (rfl : v4_5.toInt = _) (rfl : (1 : Int32).toInt = 1) (by omega) (by omega)
              refine lv_goto (tgt := 5) hx hb dX12_bestOf_86 (by decide) ?_
              exact ih5 (v3_5) (w14)  _ _ (by omega) (by exact ⟨by omega, by omega⟩)   hS (lv_sub hl [0, 1, 3, 4, 5] rfl)
            · have c_13 : v4_5.toInt = vg.toInt := il_eq c_13
              refine lv_iconst (v := 1) hx hb dX12_bestOf_44 (by decide) ?_
              refine lv_goto (tgt := 49) hx hb dX12_bestOf_45 (by decide) ?_
              refine lv_istore (lv' := [(5, .int 1), (4, .int v4_5), (3, .int v3_5), (0, .ref (ad 0)), (1, .int vy), (2, .int vg)]) hx hb dX12_bestOf_49 hl (by decide) rfl (fun ls hl => ?_)
              refine lv_iload hx hb dX12_bestOf_51 (lv_at hl 0 rfl) ?_
              refine lv_if_eq (tgt := 81) hx hb dX12_bestOf_53 (by decide) (fun c => absurd c (by decide)) (fun _ => ?_)
              refine lv_aload_n hx hb dX12_bestOf_56 rfl (lv_at hl 3 rfl) ?_
              refine va_get (D := (dC, dI)) (ci := 12) (v := .ref (ad 20)) (C := RX12) (T := TX12) (N := 46) hx hb hts inG12 hown hK hP 0 (gM_0 cs ad mu) rfl 41 (by decide) (hts _ (List.mem_cons_of_mem _ mw_5_82)) (fun _ h9 => h9) rfl dX12_bestOf_57 ?_
              refine lv_iload hx hb dX12_bestOf_60 (lv_at hl 1 rfl) ?_
              refine va_iald hx hb hK hP 20 0 (gM_20 cs ad mu) rfl (show vp_in v4_5 7 from vi_of (by omega) (by omega)) dX12_bestOf_62 ?_
              refine lv_topi (fun y15 ey15 => ?_)
              have by15 : y15.toInt = (mu 20 v4_5.toNatClampNeg).toInt := congrArg Int32.toInt ey15
              refine lv_iconst (v := 1) hx hb dX12_bestOf_63 (by decide) ?_
              refine lv_isub hx hb dX12_bestOf_64 ?_
              refine lv_topi (fun t16 et16 => ?_)
              refine lv_iload_n hx hb dX12_bestOf_65 rfl (lv_at hl 2 rfl) ?_
              refine lv_icmp_le (tgt := 81) hx hb dX12_bestOf_66 (by decide) (fun c_17 => ?_) (fun c_17 => ?_)
              · have c_17 : t16.toInt ≤ v3_5.toInt := il_le c_17
                refine lv_iload_n hx hb dX12_bestOf_81 rfl (lv_at hl 2 rfl) ?_
                refine lv_istore_n (lv' := [(3, .int v3_5), (5, .int 1), (4, .int v4_5), (0, .ref (ad 0)), (1, .int vy), (2, .int vg)]) hx hb dX12_bestOf_82 rfl hl (by decide) rfl (fun ls hl => ?_)
                refine lv_iinc (v := (v4_5 + 1)) (lv' := [(4, .int (v4_5 + 1)), (3, .int v3_5), (5, .int 1), (0, .ref (ad 0)), (1, .int vy), (2, .int vg)]) hx hb dX12_bestOf_83 hl (k := 2) rfl rfl (by decide) rfl (fun ls hl => ?_)
                refine loc_gen (P := fun w9 => lv_has ls 6 [(4, .int w9), (3, .int v3_5), (5, .int 1), (0, .ref (ad 0)), (1, .int vy), (2, .int vg)]) (v4_5 + 1) hl (fun w18 hw18 hl => ?_)
                have hl : lv_has ls 6 [(4, .int w18), (3, .int v3_5), (5, .int 1), (0, .ref (ad 0)), (1, .int vy), (2, .int vg)] := hl
                have aw18 : w18.toInt = v4_5.toInt + 1 := by rw [← hw18]; exact tI_add (rfl : v4_5.toInt = _) (rfl : (1 : Int32).toInt = 1) (by omega) (by omega)
                refine lv_goto (tgt := 5) hx hb dX12_bestOf_86 (by decide) ?_
                exact ih5 (v3_5) (w18)  _ _ (by omega) (by exact ⟨by omega, by omega⟩)   hS (lv_sub hl [0, 1, 3, 4, 5] rfl)
              · have c_17 : v3_5.toInt < t16.toInt := il_nle c_17
                refine lv_aload_n hx hb dX12_bestOf_69 rfl (lv_at hl 3 rfl) ?_
                refine va_get (D := (dC, dI)) (ci := 12) (v := .ref (ad 20)) (C := RX12) (T := TX12) (N := 46) hx hb hts inG12 hown hK hP 0 (gM_0 cs ad mu) rfl 41 (by decide) (hts _ (List.mem_cons_of_mem _ mw_5_82)) (fun _ h9 => h9) rfl dX12_bestOf_70 ?_
                refine lv_iload hx hb dX12_bestOf_73 (lv_at hl 1 rfl) ?_
                refine va_iald hx hb hK hP 20 0 (gM_20 cs ad mu) rfl (show vp_in v4_5 7 from vi_of (by omega) (by omega)) dX12_bestOf_75 ?_
                refine lq_i y15 ey15.symm ?_
                refine lv_iconst (v := 1) hx hb dX12_bestOf_76 (by decide) ?_
                refine lv_isub hx hb dX12_bestOf_77 ?_
                refine lv_topi (fun t19 et19 => ?_)
                refine lv_goto (tgt := 82) hx hb dX12_bestOf_78 (by decide) ?_
                refine lv_istore_n (lv' := [(3, .int t19), (5, .int 1), (4, .int v4_5), (0, .ref (ad 0)), (1, .int vy), (2, .int vg)]) hx hb dX12_bestOf_82 rfl hl (by decide) rfl (fun ls hl => ?_)
                refine lv_iinc (v := (v4_5 + 1)) (lv' := [(4, .int (v4_5 + 1)), (3, .int t19), (5, .int 1), (0, .ref (ad 0)), (1, .int vy), (2, .int vg)]) hx hb dX12_bestOf_83 hl (k := 2) rfl rfl (by decide) rfl (fun ls hl => ?_)
                refine loc_gen (P := fun w9 => lv_has ls 6 [(4, .int w9), (3, .int t19), (5, .int 1), (0, .ref (ad 0)), (1, .int vy), (2, .int vg)]) (v4_5 + 1) hl (fun w20 hw20 hl => ?_)
                have hl : lv_has ls 6 [(4, .int w20), (3, .int t19), (5, .int 1), (0, .ref (ad 0)), (1, .int vy), (2, .int vg)] := hl
                have aw20 : w20.toInt = v4_5.toInt + 1 := by rw [← hw20]; exact tI_add (rfl : v4_5.toInt = _) (rfl : (1 : Int32).toInt = 1) (by omega) (by omega)
                refine lv_goto (tgt := 5) hx hb dX12_bestOf_86 (by decide) ?_
                exact ih5 (t19) (w20)  _ _ (by omega) (by exact ⟨by omega, by omega⟩)   hS (lv_sub hl [0, 1, 3, 4, 5] rfl)
        · have f4 : ¬ rb r3 v4_5 = 1 := f4
          refine lv_if_eq (tgt := 48) hx hb dX12_bestOf_24 (by decide) (fun _ => ?_) (fun c => absurd (by decide) c)
          refine lv_iconst (v := 0) hx hb dX12_bestOf_48 (by decide) ?_
          refine lv_istore (lv' := [(5, .int 0), (4, .int v4_5), (3, .int v3_5), (0, .ref (ad 0)), (1, .int vy), (2, .int vg)]) hx hb dX12_bestOf_49 hl (by decide) rfl (fun ls hl => ?_)
          refine lv_iload hx hb dX12_bestOf_51 (lv_at hl 0 rfl) ?_
          refine lv_if_eq (tgt := 81) hx hb dX12_bestOf_53 (by decide) (fun _ => ?_) (fun c => absurd (by decide) c)
          refine lv_iload_n hx hb dX12_bestOf_81 rfl (lv_at hl 2 rfl) ?_
          refine lv_istore_n (lv' := [(3, .int v3_5), (5, .int 0), (4, .int v4_5), (0, .ref (ad 0)), (1, .int vy), (2, .int vg)]) hx hb dX12_bestOf_82 rfl hl (by decide) rfl (fun ls hl => ?_)
          refine lv_iinc (v := (v4_5 + 1)) (lv' := [(4, .int (v4_5 + 1)), (3, .int v3_5), (5, .int 0), (0, .ref (ad 0)), (1, .int vy), (2, .int vg)]) hx hb dX12_bestOf_83 hl (k := 2) rfl rfl (by decide) rfl (fun ls hl => ?_)
          refine loc_gen (P := fun w9 => lv_has ls 6 [(4, .int w9), (3, .int v3_5), (5, .int 0), (0, .ref (ad 0)), (1, .int vy), (2, .int vg)]) (v4_5 + 1) hl (fun w21 hw21 hl => ?_)
          have hl : lv_has ls 6 [(4, .int w21), (3, .int v3_5), (5, .int 0), (0, .ref (ad 0)), (1, .int vy), (2, .int vg)] := hl
          have aw21 : w21.toInt = v4_5.toInt + 1 := by rw [← hw21]; exact tI_add (rfl : v4_5.toInt = _) (rfl : (1 : Int32).toInt = 1) (by omega) (by omega)
          refine lv_goto (tgt := 5) hx hb dX12_bestOf_86 (by decide) ?_
          exact ih5 (v3_5) (w21)  _ _ (by omega) (by exact ⟨by omega, by omega⟩)   hS (lv_sub hl [0, 1, 3, 4, 5] rfl)
  exact loop5 ((7 + 1 - (0 : Int32).toInt).toNat + 1) (0) (0)  _ _ (Nat.lt_succ_self _) (by have h80 : (0 : Int32).toInt = 0 := rfl; exact ⟨by omega, by omega⟩)   hS hl
