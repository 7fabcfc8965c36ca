set_option maxHeartbeats 4000000 in
set_option maxRecDepth 100000 in
/-- sm_buyerAt -/
theorem sm_buyerAt (l : Launch) (dC : Nat → ClassId) (dI : Nat → Nat → Nat) (cs : Nat → ClassId) (ad : Nat → Nat) (mu : Nat → Nat → Int32) (ok : okR loM hiM mu) (H : Heap) (hP : va_P (dC, dI) vwCl (wR 21 ad (EM cs ad) mu) H) (vs : Int32) (hin0 : 0 ≤ vs.toInt ∧ vs.toInt ≤ 39) : Met l yX12_buyerAt (wU yX12_buyerAt cX12_buyerAt 3 (some .int)) ({ frames := 1, cells := 0, slots := 0, locals := 22 }) (va_Pc [.ref (ad 0), .int vs] (sz_P (dC, dI) vwCl (tyM cs) H)) (va_Qi (fun (z : Int32) (_ : Unit) => z = F_sm_buyerAt mu vs ∧ (True)) (fun _ t => t.heap = H) (fun _ => False)) 0 0 (fun _ => False) := by
  refine Met.ofW (cc := cX12_buyerAt) (maxL := 3) (ret := (some .int)) (by decide) rfl ?_
  intro p e s m args below meth c s₁ B hml hv
  obtain ⟨rfl, hh, hK, hz⟩ := hv
  have hx := B.exec
  have hb := B.bytes
  have hr := B.returns
  have hts := atoms_spec (ws := (wU yX12_buyerAt cX12_buyerAt 3 (some .int))) B.pre
  have hown : s.vm.findClass RX12 = some m.cls := findClass_of_methodNamed B.named
  have hlocks := B.notSynchronized
  subst hh
  have hS : va_S (fun _ => False) s.heap s.heap [] := va_S.rf
  have hl := lv_entry ([.ref (ad 0), .int vs]) (n := 3) (Nat.le_of_ble_eq_true rfl)
  rw [lg_entry_eq]
  generalize (lg_sl ([.ref (ad 0), .int vs]) ++ List.replicate (3 - (lg_sl ([.ref (ad 0), .int vs])).length) Slot.unset).toArray = ls at hl ⊢
  have hl : lv_has ls 3 [(0, .ref (ad 0)), (1, .int vs)] := hl
  obtain ⟨fz, hfz⟩ : ∃ z, F_sm_buyerAt mu vs = z := ⟨_, rfl⟩
  have hF := hfz
  unfold F_sm_buyerAt at hF
  refine lv_iload_n hx hb dX12_buyerAt_0 rfl (lv_at hl 1 rfl) ?_
  refine lv_iconst (v := 1) hx hb dX12_buyerAt_1 (by decide) ?_
  refine lv_iadd hx hb dX12_buyerAt_2 ?_
  refine lv_topi (fun t1 et1 => ?_)
  have hF := mi_let hF et1
  have at1 : t1.toInt = vs.toInt + 1 := by rw [et1]; exact tI_add (rfl : vs.toInt = _) (rfl : (1 : Int32).toInt = 1) (by omega) (by omega)
  refine lv_istore_n (lv' := [(2, .int t1), (0, .ref (ad 0)), (1, .int vs)]) hx hb dX12_buyerAt_3 rfl hl (by decide) rfl (fun ls hl => ?_)
  have loop4 : ∀ (n4 : Nat) (v2_4 : Int32) (locs : List Loc) (ls : Array Slot), (40 + 1 - v2_4.toInt).toNat < n4 → (0 ≤ v2_4.toInt ∧ v2_4.toInt ≤ 40) → L_sm_buyerAt_4_0 mu vs n4 v2_4 = fz → va_S (fun _ => False) s.heap s.heap locs → lv_has ls 3 [(2, .int v2_4), (0, .ref (ad 0)), (1, .int vs)] → W p l e (headSpec (wU yX12_buyerAt cX12_buyerAt 3 (some .int)) ({ frames := 1, cells := 0, slots := 0, locals := 22 })).room s m ([.ref (ad 0), .int vs] : List Value).toArray below meth c s.heap locs 0 0 (MQ below (va_Qi (fun (z : Int32) (_ : Unit) => z = F_sm_buyerAt mu vs ∧ (True)) (fun _ t => t.heap = s.heap) (fun _ => False)) ([.ref (ad 0), .int vs] : List Value).toArray s 0 0 (fun _ => False)) (F0 m 4 ls []) := by
    intro n4
    induction n4 with
    | zero => intro v2_4 locs ls hm; exact absurd hm (Nat.not_lt_zero _)
    | succ n4 ih4 =>
      intro v2_4 locs ls hm h_v2_4 hF hS hl
      rw [L_sm_buyerAt_4_0] at hF
      refine lv_iload_n hx hb dX12_buyerAt_4 rfl (lv_at hl 0 rfl) ?_
      refine lv_aload_n hx hb dX12_buyerAt_5 rfl (lv_at hl 1 rfl) ?_
      refine va_get (D := (dC, dI)) (ci := 12) (v := .int (mu 0 17)) (C := RX12) (T := TX12) (N := 46) hx hb hts inG12 hown hK hP 0 (gM_0 cs ad mu) rfl 17 (by decide) (hts _ (List.mem_cons_of_mem _ mw_5_58)) (fun _ h9 => h9) rfl dX12_buyerAt_6 ?_
      refine lv_topi (fun y2 ey2 => ?_)
      have hF := mi_let hF ey2
      have by2 : y2.toInt = (mu 0 17).toInt := congrArg Int32.toInt ey2
      have gy2 : 0 ≤ y2.toInt ∧ y2.toInt ≤ 40 := by rw [ey2]; exact rM_0_17 ok
      refine lv_icmp_ge (tgt := 51) hx hb dX12_buyerAt_9 (by decide) (fun c_3 => ?_) (fun c_3 => ?_)
      · have hF := (if_pos c_3).symm.trans hF
        have c_3 : y2.toInt ≤ v2_4.toInt := il_le c_3
        refine lv_aload_n hx hb dX12_buyerAt_51 rfl (lv_at hl 1 rfl) ?_
        refine lv_aload_n hx hb dX12_buyerAt_52 rfl (lv_at hl 1 rfl) ?_
        refine va_get (D := (dC, dI)) (ci := 12) (v := .ref (ad 14)) (C := RX12) (T := TX12) (N := 46) hx hb hts inG12 hown hK hP 0 (gM_0 cs ad mu) rfl 24 (by decide) (hts _ (List.mem_cons_of_mem _ mw_5_65)) (fun _ h9 => h9) rfl dX12_buyerAt_53 ?_
        refine lv_bipush (v := 12) hx hb dX12_buyerAt_56 (by decide) ?_
        refine lv_iload_n hx hb dX12_buyerAt_58 rfl (lv_at hl 2 rfl) ?_
        refine lv_imul hx hb dX12_buyerAt_59 ?_
        refine lv_topi (fun t4 et4 => ?_)
        have hF := mi_let hF et4
        have at4 : t4.toInt = 12 * vs.toInt := by rw [et4]; exact tI_mul (rfl : (12 : Int32).toInt = 12) (rfl : vs.toInt = _) (by omega) (by omega)
        refine va_iald hx hb hK hP 14 0 (gM_14 cs ad mu) rfl (show vp_in t4 480 from vi_of (by omega) (by omega)) dX12_buyerAt_60 ?_
        have hc5 : ((t4 : Int32).toNatClampNeg : Int) = t4.toInt := tC_of (by omega)
        refine lv_topi (fun y6 ey6 => ?_)
        have hF := mi_let hF ey6
        have by6 : y6.toInt = (mu 14 t4.toNatClampNeg).toInt := congrArg Int32.toInt ey6
        have gy6 : 0 ≤ y6.toInt ∧ y6.toInt ≤ 3 := by rw [ey6]; exact (rM_14_s ok t4.toNatClampNeg).1 (by omega)
        refine lv_iconst (v := 5) hx hb dX12_buyerAt_61 (by decide) ?_
        refine cr_i (va_runV (As := [.int y6, .int 5]) (rest := []) ⟨hx, hb, hml, hown, hts⟩ (sm_letterOf5 l dC dI cs ad mu ok s.heap hP y6 (by have h51 : (5 : Int32).toInt = 5 := rfl; omega)) (cwV 2 hts (wU_V mw_6_48 mw_6_45 mw_6_47 mw_0_38 mw_1_13) rfl rfl rfl (by decide +kernel) ⟨Nat.le_of_ble_eq_true rfl, Nat.le_of_ble_eq_true rfl⟩) ⟨sz_c, va_recv hK hP (ci := 12) (q0 := 0) rfl (gM_0 cs ad mu), sz_m hK hz⟩ rfl rfl hl.1 rfl (lv_room (Nat.le_of_ble_eq_true rfl)) dX12_buyerAt_62 ⟨Nat.zero_le _, Nat.zero_le _⟩) hS (fun r7 hw7 locs hS => ?_)
        obtain ⟨hfe7, hw7⟩ := hw7
        have hF := mi_let hF hfe7
        have gr7 : 0 ≤ r7.toInt ∧ r7.toInt ≤ 6 := hw7
        exact W.iret (v := r7) hx hb hr (fun t ht hW => ⟨⟨r7, (), rfl, ⟨hF.trans hfz.symm, trivial⟩, ht⟩, hS.F ht⟩) hS.2.2 dX12_buyerAt_65
      · have hF := (if_neg c_3).symm.trans hF
        have c_3 : v2_4.toInt < y2.toInt := il_nle c_3
        refine lv_aload_n hx hb dX12_buyerAt_12 rfl (lv_at hl 1 rfl) ?_
        refine va_get (D := (dC, dI)) (ci := 12) (v := .ref (ad 14)) (C := RX12) (T := TX12) (N := 46) hx hb hts inG12 hown hK hP 0 (gM_0 cs ad mu) rfl 24 (by decide) (hts _ (List.mem_cons_of_mem _ mw_5_65)) (fun _ h9 => h9) rfl dX12_buyerAt_13 ?_
        refine lv_bipush (v := 12) hx hb dX12_buyerAt_16 (by decide) ?_
        refine lv_iload_n hx hb dX12_buyerAt_18 rfl (lv_at hl 0 rfl) ?_
        refine lv_imul hx hb dX12_buyerAt_19 ?_
        refine lv_topi (fun t8 et8 => ?_)
        have hF := mi_let hF et8
        have at8 : t8.toInt = 12 * v2_4.toInt := by rw [et8]; exact tI_mul (rfl : (12 : Int32).toInt = 12) (rfl : v2_4.toInt = _) (by omega) (by omega)
        refine va_iald hx hb hK hP 14 0 (gM_14 cs ad mu) rfl (show vp_in t8 480 from vi_of (by omega) (by omega)) dX12_buyerAt_20 ?_
        have hc9 : ((t8 : Int32).toNatClampNeg : Int) = t8.toInt := tC_of (by omega)
        refine lv_topi (fun y10 ey10 => ?_)
        have hF := mi_let hF ey10
        have by10 : y10.toInt = (mu 14 t8.toNatClampNeg).toInt := congrArg Int32.toInt ey10
        refine lv_aload_n hx hb dX12_buyerAt_21 rfl (lv_at hl 1 rfl) ?_
        refine va_get (D := (dC, dI)) (ci := 12) (v := .ref (ad 14)) (C := RX12) (T := TX12) (N := 46) hx hb hts inG12 hown hK hP 0 (gM_0 cs ad mu) rfl 24 (by decide) (hts _ (List.mem_cons_of_mem _ mw_5_65)) (fun _ h9 => h9) rfl dX12_buyerAt_22 ?_
        refine lv_bipush (v := 12) hx hb dX12_buyerAt_25 (by decide) ?_
        refine lv_iload_n hx hb dX12_buyerAt_27 rfl (lv_at hl 2 rfl) ?_
        refine lv_imul hx hb dX12_buyerAt_28 ?_
        refine lv_topi (fun t11 et11 => ?_)
        have hF := mi_let hF et11
        have at11 : t11.toInt = 12 * vs.toInt := by rw [et11]; exact tI_mul (rfl : (12 : Int32).toInt = 12) (rfl : vs.toInt = _) (by omega) (by omega)
        refine va_iald hx hb hK hP 14 0 (gM_14 cs ad mu) rfl (show vp_in t11 480 from vi_of (by omega) (by omega)) dX12_buyerAt_29 ?_
        have hc12 : ((t11 : Int32).toNatClampNeg : Int) = t11.toInt := tC_of (by omega)
        refine lv_topi (fun y13 ey13 => ?_)
        have hF := mi_let hF ey13
        have by13 : y13.toInt = (mu 14 t11.toNatClampNeg).toInt := congrArg Int32.toInt ey13
        refine lv_icmp_ne (tgt := 45) hx hb dX12_buyerAt_30 (by decide) (fun c_14 => ?_) (fun c_14 => ?_)
        · have hF := (if_neg c_14).symm.trans hF
          have c_14 : ¬ y10.toInt = y13.toInt := il_ne c_14
          refine lv_iinc (v := (v2_4 + 1)) (lv' := [(2, .int (v2_4 + 1)), (0, .ref (ad 0)), (1, .int vs)]) hx hb dX12_buyerAt_45 hl (k := 0) rfl rfl (by decide) rfl (fun ls hl => ?_)
          refine loc_gen (P := fun w9 => lv_has ls 3 [(2, .int w9), (0, .ref (ad 0)), (1, .int vs)]) (v2_4 + 1) hl (fun w15 hw15 hl => ?_)
          have hl : lv_has ls 3 [(2, .int w15), (0, .ref (ad 0)), (1, .int vs)] := hl
          have hF := mi_let hF hw15.symm
          have aw15 : w15.toInt = v2_4.toInt + 1 := by rw [← hw15]; exact tI_add (rfl : v2_4.toInt = _) (rfl : (1 : Int32).toInt = 1) (by omega) (by omega)
          refine lv_goto (tgt := 4) hx hb dX12_buyerAt_48 (by decide) ?_
          exact ih4 (w15)  _ _ (by omega) (by exact ⟨by omega, by omega⟩)   hF hS (lv_sub hl [0, 1, 2] rfl)
        · have hF := (if_pos c_14).symm.trans hF
          have c_14 : y10.toInt = y13.toInt := il_eq c_14
          refine lv_aload_n hx hb dX12_buyerAt_33 rfl (lv_at hl 1 rfl) ?_
          refine va_get (D := (dC, dI)) (ci := 12) (v := .ref (ad 14)) (C := RX12) (T := TX12) (N := 46) hx hb hts inG12 hown hK hP 0 (gM_0 cs ad mu) rfl 24 (by decide) (hts _ (List.mem_cons_of_mem _ mw_5_65)) (fun _ h9 => h9) rfl dX12_buyerAt_34 ?_
          refine lv_bipush (v := 12) hx hb dX12_buyerAt_37 (by decide) ?_
          refine lv_iload_n hx hb dX12_buyerAt_39 rfl (lv_at hl 0 rfl) ?_
          refine lv_imul hx hb dX12_buyerAt_40 ?_
          refine lv_topi (fun t16 et16 => ?_)
          have hF := mi_let hF et16
          have at16 : t16.toInt = 12 * v2_4.toInt := by rw [et16]; exact tI_mul (rfl : (12 : Int32).toInt = 12) (rfl : v2_4.toInt = _) (by omega) (by omega)
          refine lv_iconst (v := 1) hx hb dX12_buyerAt_41 (by decide) ?_
          refine lv_iadd hx hb dX12_buyerAt_42 ?_
          refine lv_topi (fun t17 et17 => ?_)
          have hF := mi_let hF et17
          have at17 : t17.toInt = t16.toInt + 1 := by rw [et17]; exact tI_add (rfl : t16.toInt = _) (rfl : (1 : Int32).toInt = 1) (by omega) (by omega)
          refine va_iald hx hb hK hP 14 0 (gM_14 cs ad mu) rfl (show vp_in t17 480 from vi_of (by omega) (by omega)) dX12_buyerAt_43 ?_
          have hc18 : ((t17 : Int32).toNatClampNeg : Int) = t17.toInt := tC_of (by omega)
          refine lv_topi (fun y19 ey19 => ?_)
          have hF := mi_let hF ey19
          have by19 : y19.toInt = (mu 14 t17.toNatClampNeg).toInt := congrArg Int32.toInt ey19
          exact W.iret (v := y19) hx hb hr (fun t ht hW => ⟨⟨y19, (), rfl, ⟨hF.trans hfz.symm, trivial⟩, ht⟩, hS.F ht⟩) hS.2.2 dX12_buyerAt_44
  exact loop4 43 (t1)  _ _ (by omega) (by exact ⟨by omega, by omega⟩)   hF hS hl
