set_option maxHeartbeats 4000000 in
set_option maxRecDepth 100000 in
/-- sx_worthBeside -/
theorem sx_worthBeside (l : Launch) (dC : Nat → ClassId) (dI : Nat → Nat → Nat) (cs : Nat → ClassId) (ad : Nat → Nat) (mu : Nat → Nat → Int32) (ok : okR loX hiX mu) (H : Heap) (hP : va_P (dC, dI) vwCl (wR 157 ad (EX cs ad) mu) H) (kl : Nat) (h1kl : 61 ≤ kl) (h2kl : kl < 77) (vx : Int32) : Met l yX10_worthBeside (wU yX10_worthBeside cX10_worthBeside 6 (some .int)) ({ frames := 2, cells := 0, slots := 0, locals := 45 }) (va_Pc [.ref (ad 4), .ref (ad kl), .int vx] (sz_P (dC, dI) vwCl (tyW cs) H)) (va_Qi (fun (z : Int32) (_ : Unit) => True) (fun _ t => t.heap = H) (fun _ => False)) 0 0 (fun _ => False) := by
  refine Met.ofW (cc := cX10_worthBeside) (maxL := 6) (ret := (some .int)) (by decide) rfl ?_
  intro p e s m args below meth c s₁ B hml hv
  obtain ⟨rfl, hh, hK, hz⟩ := hv
  have hx := B.exec
  have hb := B.bytes
  have hr := B.returns
  have hts := atoms_spec (ws := (wU yX10_worthBeside cX10_worthBeside 6 (some .int))) B.pre
  have hown : s.vm.findClass RX10 = some m.cls := findClass_of_methodNamed B.named
  have hlocks := B.notSynchronized
  subst hh
  have hS : va_S (fun _ => False) s.heap s.heap [] := va_S.rf
  have hl := lv_entry ([.ref (ad 4), .ref (ad kl), .int vx]) (n := 6) (Nat.le_of_ble_eq_true rfl)
  rw [lg_entry_eq]
  generalize (lg_sl ([.ref (ad 4), .ref (ad kl), .int vx]) ++ List.replicate (6 - (lg_sl ([.ref (ad 4), .ref (ad kl), .int vx])).length) Slot.unset).toArray = ls at hl ⊢
  have hl : lv_has ls 6 [(0, .ref (ad 4)), (1, .ref (ad kl)), (2, .int vx)] := hl
  refine lv_aload_n hx hb dX10_worthBeside_0 rfl (lv_at hl 0 rfl) ?_
  refine lv_iload_n hx hb dX10_worthBeside_1 rfl (lv_at hl 2 rfl) ?_
  refine lv_aload_n hx hb dX10_worthBeside_2 rfl (lv_at hl 0 rfl) ?_
  refine va_get (D := (dC, dI)) (ci := 10) (v := .ref (ad 5)) (C := RX10) (T := TX10) (N := 8) hx hb hts inG10 hown hK hP 4 (gX_4 cs ad mu) rfl 3 (by decide) (hts _ (List.mem_cons_of_mem _ mw_1_152)) (fun _ h9 => h9) rfl dX10_worthBeside_3 ?_
  refine va_get (D := (dC, dI)) (ci := 8) (v := .int (mu 5 2)) (C := RX8) (T := TX8) (N := 6) hx hb hts inG8 hown hK hP 5 (gX_5 cs ad mu) rfl 2 (by decide) (hts _ (List.mem_cons_of_mem _ mw_1_116)) (fun _ h9 => h9) rfl dX10_worthBeside_6 ?_
  refine lv_topi (fun y1 ey1 => ?_)
  have by1 : y1.toInt = (mu 5 2).toInt := congrArg Int32.toInt ey1
  refine cr_i (va_runV (As := [.int vx, .int y1]) (rest := []) ⟨hx, hb, hml, hown, hts⟩ (sx_near l dC dI cs ad mu ok s.heap hP vx y1) (cwV 2 hts (wU_V mw_3_84 mw_3_81 mw_3_82 mw_3_83 mw_1_2) rfl rfl rfl (by decide +kernel) ⟨Nat.le_of_ble_eq_true rfl, Nat.le_of_ble_eq_true rfl⟩) ⟨sz_c, va_recv hK hP (ci := 10) (q0 := 4) rfl (gX_4 cs ad mu), sz_m hK hz⟩ rfl rfl hl.1 rfl (lv_room (Nat.le_of_ble_eq_true rfl)) dX10_worthBeside_9 ⟨Nat.zero_le _, Nat.zero_le _⟩) hS (fun r2 hw2 locs hS => ?_)
  obtain ⟨hfe2, hw2⟩ := hw2
  refine lv_istore_n (lv' := [(3, .int r2), (0, .ref (ad 4)), (1, .ref (ad kl)), (2, .int vx)]) hx hb dX10_worthBeside_12 rfl hl (by decide) rfl (fun ls hl => ?_)
  refine lv_iconst (v := 0) hx hb dX10_worthBeside_13 (by decide) ?_
  refine lv_istore (lv' := [(4, .int 0), (3, .int r2), (0, .ref (ad 4)), (1, .ref (ad kl)), (2, .int vx)]) hx hb dX10_worthBeside_14 hl (by decide) rfl (fun ls hl => ?_)
  refine lv_iconst (v := 0) hx hb dX10_worthBeside_16 (by decide) ?_
  refine lv_istore (lv' := [(5, .int 0), (4, .int 0), (3, .int r2), (0, .ref (ad 4)), (1, .ref (ad kl)), (2, .int vx)]) hx hb dX10_worthBeside_17 hl (by decide) rfl (fun ls hl => ?_)
  have loop19 : ∀ (n19 : Nat) (v4_19 : Int32) (v5_19 : Int32) (locs : List Loc) (ls : Array Slot), (7 + 1 - v5_19.toInt).toNat < n19 → (0 ≤ v5_19.toInt ∧ v5_19.toInt ≤ 7) → va_S (fun _ => False) s.heap s.heap locs → lv_has ls 6 [(5, .int v5_19), (4, .int v4_19), (3, .int r2), (0, .ref (ad 4)), (1, .ref (ad kl)), (2, .int vx)] → W p l e (headSpec (wU yX10_worthBeside cX10_worthBeside 6 (some .int)) ({ frames := 2, cells := 0, slots := 0, locals := 45 })).room s m ([.ref (ad 4), .ref (ad kl), .int vx] : List Value).toArray below meth c s.heap locs 0 0 (MQ below (va_Qi (fun (z : Int32) (_ : Unit) => True) (fun _ t => t.heap = s.heap) (fun _ => False)) ([.ref (ad 4), .ref (ad kl), .int vx] : List Value).toArray s 0 0 (fun _ => False)) (F0 m 19 ls []) := by
    intro n19
    induction n19 with
    | zero => intro v4_19 v5_19 locs ls hm; exact absurd hm (Nat.not_lt_zero _)
    | succ n19 ih19 =>
      intro v4_19 v5_19 locs ls hm h_v5_19 hS hl
      refine lv_iload hx hb dX10_worthBeside_19 (lv_at hl 0 rfl) ?_
      refine lv_aload_n hx hb dX10_worthBeside_21 rfl (lv_at hl 3 rfl) ?_
      refine va_get (D := (dC, dI)) (ci := 10) (v := .int (mu 4 6)) (C := RX10) (T := TX10) (N := 8) hx hb hts inG10 hown hK hP 4 (gX_4 cs ad mu) rfl 6 (by decide) (hts _ (List.mem_cons_of_mem _ mw_1_160)) (fun _ h9 => h9) rfl dX10_worthBeside_22 ?_
      refine lv_topi (fun y3 ey3 => ?_)
      have by3 : y3.toInt = (mu 4 6).toInt := congrArg Int32.toInt ey3
      have gy3 : 0 ≤ y3.toInt ∧ y3.toInt ≤ 7 := by rw [ey3]; exact rX_4_6 ok
      refine lv_icmp_ge (tgt := 77) hx hb dX10_worthBeside_25 (by decide) (fun c_4 => ?_) (fun c_4 => ?_)
      · have c_4 : y3.toInt ≤ v5_19.toInt := il_le c_4
        refine lv_iconst (v := 0) hx hb dX10_worthBeside_77 (by decide) ?_
        refine lv_iload hx hb dX10_worthBeside_78 (lv_at hl 1 rfl) ?_
        refine lv_iconst (v := 1) hx hb dX10_worthBeside_80 (by decide) ?_
        refine lv_isub hx hb dX10_worthBeside_81 ?_
        refine lv_topi (fun t5 et5 => ?_)
        refine va_mmax hx hb (hml.trans hl.1.symm) hown (hts _ (List.mem_cons_of_mem _ mw_4_121)) (hts _ (List.mem_cons_of_mem _ mw_3_172)) (hts _ (List.mem_cons_of_mem _ mw_1_17)) (hts _ (List.mem_cons_of_mem _ mw_3_173)) (Nat.le_of_ble_eq_true rfl) (Nat.le_of_ble_eq_true rfl) (Nat.zero_le _) (Nat.zero_le _) dX10_worthBeside_82 ?_
        refine lv_topi (fun t6 et6 => ?_)
        exact W.iret (v := t6) hx hb hr (fun t ht hW => ⟨⟨t6, (), rfl, trivial, ht⟩, hS.F ht⟩) hS.2.2 dX10_worthBeside_85
      · have c_4 : v5_19.toInt < y3.toInt := il_nle c_4
        refine lv_iload_n hx hb dX10_worthBeside_28 rfl (lv_at hl 2 rfl) ?_
        refine lv_iload hx hb dX10_worthBeside_29 (lv_at hl 0 rfl) ?_
        refine cr_i (va_runSN (As := [.int r2, .int v5_19]) (rest := []) ⟨hx, hb, hml, hown, hts⟩ (sx_hasBit l dC dI (tyW cs) s.heap r2 v5_19) ⟨va_cnB 2 hts (wU_in mw_3_87) rfl rfl rfl (hz.2.2.1) (hts _ (List.mem_cons_of_mem _ mw_1_1)) (by decide +kernel) ⟨Nat.le_of_ble_eq_true rfl, Nat.le_of_ble_eq_true rfl⟩, (hts _ (List.mem_cons_of_mem _ mw_3_86)), trivial⟩ ⟨sz_c, sz_m hK hz⟩ rfl rfl hl.1 rfl (lv_room (Nat.le_of_ble_eq_true rfl)) dX10_worthBeside_31 ⟨Nat.zero_le _, Nat.zero_le _⟩) hS (fun r7 hw7 locs hS => ?_)
        obtain ⟨hfe7, hw7⟩ := hw7
        have gr7 : 0 ≤ r7.toInt ∧ r7.toInt ≤ 1 := hw7
        refine lv_if_eq (tgt := 71) hx hb dX10_worthBeside_34 (by decide) (fun c_8 => ?_) (fun c_8 => ?_)
        · have c_8 : r7.toInt = 0 := il_eq c_8
          refine lv_iinc (v := (v5_19 + 1)) (lv' := [(5, .int (v5_19 + 1)), (4, .int v4_19), (3, .int r2), (0, .ref (ad 4)), (1, .ref (ad kl)), (2, .int vx)]) hx hb dX10_worthBeside_71 hl (k := 0) rfl rfl (by decide) rfl (fun ls hl => ?_)
          refine loc_gen (P := fun w9 => lv_has ls 6 [(5, .int w9), (4, .int v4_19), (3, .int r2), (0, .ref (ad 4)), (1, .ref (ad kl)), (2, .int vx)]) (v5_19 + 1) hl (fun w9 hw9 hl => ?_)
          have hl : lv_has ls 6 [(5, .int w9), (4, .int v4_19), (3, .int r2), (0, .ref (ad 4)), (1, .ref (ad kl)), (2, .int vx)] := hl
          have aw9 : w9.toInt = v5_19.toInt + 1 := by rw [← hw9]; exact va1 (by omega)
          refine lv_goto (tgt := 19) hx hb dX10_worthBeside_74 (by decide) ?_
          exact ih19 (v4_19) (w9)  _ _ (by omega) (by omega)   hS (lv_sub hl [0, 1, 2, 3, 4, 5] rfl)
        · have c_8 : ¬ r7.toInt = 0 := il_ne c_8
          refine lv_iload hx hb dX10_worthBeside_37 (lv_at hl 0 rfl) ?_
          refine lv_aload_n hx hb dX10_worthBeside_39 rfl (lv_at hl 4 rfl) ?_
          refine va_get (D := (dC, dI)) (ci := 3) (v := .int (mu kl 1)) (C := RX3) (T := TX3) (N := 10) hx hb hts inG3 hown hK hP kl (gX_letter cs ad mu kl h1kl h2kl) rfl 1 (by decide) (hts _ (List.mem_cons_of_mem _ mw_1_55)) (fun _ h9 => h9) rfl dX10_worthBeside_40 ?_
          refine lv_topi (fun y10 ey10 => ?_)
          have by10 : y10.toInt = (mu kl 1).toInt := congrArg Int32.toInt ey10
          have gy10 : 0 ≤ y10.toInt ∧ y10.toInt ≤ 6 := by rw [ey10]; exact rX_letter_1 ok kl h1kl h2kl
          refine lv_icmp_eq (tgt := 57) hx hb dX10_worthBeside_43 (by decide) (fun c_11 => ?_) (fun c_11 => ?_)
          · have c_11 : v5_19.toInt = y10.toInt := il_eq c_11
            refine lv_iload hx hb dX10_worthBeside_57 (lv_at hl 1 rfl) ?_
            refine lv_aload_n hx hb dX10_worthBeside_59 rfl (lv_at hl 3 rfl) ?_
            refine va_get (D := (dC, dI)) (ci := 10) (v := .ref (ad 38)) (C := RX10) (T := TX10) (N := 8) hx hb hts inG10 hown hK hP 4 (gX_4 cs ad mu) rfl 5 (by decide) (hts _ (List.mem_cons_of_mem _ mw_1_159)) (fun _ h9 => h9) rfl dX10_worthBeside_60 ?_
            refine lv_iload hx hb dX10_worthBeside_63 (lv_at hl 0 rfl) ?_
            refine va_iald hx hb hK hP 38 0 (gX_38 cs ad mu) rfl (show vp_in v5_19 7 from vi_of (by omega) (by omega)) dX10_worthBeside_65 ?_
            refine lv_topi (fun y12 ey12 => ?_)
            have by12 : y12.toInt = (mu 38 v5_19.toNatClampNeg).toInt := congrArg Int32.toInt ey12
            refine va_mmax hx hb (hml.trans hl.1.symm) hown (hts _ (List.mem_cons_of_mem _ mw_4_121)) (hts _ (List.mem_cons_of_mem _ mw_3_172)) (hts _ (List.mem_cons_of_mem _ mw_1_17)) (hts _ (List.mem_cons_of_mem _ mw_3_173)) (Nat.le_of_ble_eq_true rfl) (Nat.le_of_ble_eq_true rfl) (Nat.zero_le _) (Nat.zero_le _) dX10_worthBeside_66 ?_
            refine lv_topi (fun t13 et13 => ?_)
            refine lv_istore (lv' := [(4, .int t13), (5, .int v5_19), (3, .int r2), (0, .ref (ad 4)), (1, .ref (ad kl)), (2, .int vx)]) hx hb dX10_worthBeside_69 hl (by decide) rfl (fun ls hl => ?_)
            refine lv_iinc (v := (v5_19 + 1)) (lv' := [(5, .int (v5_19 + 1)), (4, .int t13), (3, .int r2), (0, .ref (ad 4)), (1, .ref (ad kl)), (2, .int vx)]) hx hb dX10_worthBeside_71 hl (k := 1) rfl rfl (by decide) rfl (fun ls hl => ?_)
            refine loc_gen (P := fun w9 => lv_has ls 6 [(5, .int w9), (4, .int t13), (3, .int r2), (0, .ref (ad 4)), (1, .ref (ad kl)), (2, .int vx)]) (v5_19 + 1) hl (fun w14 hw14 hl => ?_)
            have hl : lv_has ls 6 [(5, .int w14), (4, .int t13), (3, .int r2), (0, .ref (ad 4)), (1, .ref (ad kl)), (2, .int vx)] := hl
            have aw14 : w14.toInt = v5_19.toInt + 1 := by rw [← hw14]; exact va1 (by omega)
            refine lv_goto (tgt := 19) hx hb dX10_worthBeside_74 (by decide) ?_
            exact ih19 (t13) (w14)  _ _ (by omega) (by omega)   hS (lv_sub hl [0, 1, 2, 3, 4, 5] rfl)
          · have c_11 : ¬ v5_19.toInt = y10.toInt := il_ne c_11
            refine lv_aload_n hx hb dX10_worthBeside_46 rfl (lv_at hl 3 rfl) ?_
            refine va_get (D := (dC, dI)) (ci := 10) (v := .ref (ad 34)) (C := RX10) (T := TX10) (N := 8) hx hb hts inG10 hown hK hP 4 (gX_4 cs ad mu) rfl 0 (by decide) (hts _ (List.mem_cons_of_mem _ mw_1_143)) (fun _ h9 => h9) rfl dX10_worthBeside_47 ?_
            refine lv_iload hx hb dX10_worthBeside_50 (lv_at hl 0 rfl) ?_
            refine va_iald hx hb hK hP 34 0 (gX_34 cs ad mu) rfl (show vp_in v5_19 7 from vi_of (by omega) (by omega)) dX10_worthBeside_52 ?_
            refine lv_topi (fun y15 ey15 => ?_)
            have by15 : y15.toInt = (mu 34 v5_19.toNatClampNeg).toInt := congrArg Int32.toInt ey15
            refine lv_iconst (v := 3) hx hb dX10_worthBeside_53 (by decide) ?_
            refine lv_icmp_eq (tgt := 71) hx hb dX10_worthBeside_54 (by decide) (fun c_16 => ?_) (fun c_16 => ?_)
            · have c_16 : y15.toInt = 3 := il_eq c_16
              refine lv_iinc (v := (v5_19 + 1)) (lv' := [(5, .int (v5_19 + 1)), (4, .int v4_19), (3, .int r2), (0, .ref (ad 4)), (1, .ref (ad kl)), (2, .int vx)]) hx hb dX10_worthBeside_71 hl (k := 0) rfl rfl (by decide) rfl (fun ls hl => ?_)
              refine loc_gen (P := fun w9 => lv_has ls 6 [(5, .int w9), (4, .int v4_19), (3, .int r2), (0, .ref (ad 4)), (1, .ref (ad kl)), (2, .int vx)]) (v5_19 + 1) hl (fun w17 hw17 hl => ?_)
              have hl : lv_has ls 6 [(5, .int w17), (4, .int v4_19), (3, .int r2), (0, .ref (ad 4)), (1, .ref (ad kl)), (2, .int vx)] := hl
              have aw17 : w17.toInt = v5_19.toInt + 1 := by rw [← hw17]; exact va1 (by omega)
              refine lv_goto (tgt := 19) hx hb dX10_worthBeside_74 (by decide) ?_
              exact ih19 (v4_19) (w17)  _ _ (by omega) (by omega)   hS (lv_sub hl [0, 1, 2, 3, 4, 5] rfl)
            · have c_16 : ¬ y15.toInt = 3 := il_ne c_16
              refine lv_iload hx hb dX10_worthBeside_57 (lv_at hl 1 rfl) ?_
              refine lv_aload_n hx hb dX10_worthBeside_59 rfl (lv_at hl 3 rfl) ?_
              refine va_get (D := (dC, dI)) (ci := 10) (v := .ref (ad 38)) (C := RX10) (T := TX10) (N := 8) hx hb hts inG10 hown hK hP 4 (gX_4 cs ad mu) rfl 5 (by decide) (hts _ (List.mem_cons_of_mem _ mw_1_159)) (fun _ h9 => h9) rfl dX10_worthBeside_60 ?_
              refine lv_iload hx hb dX10_worthBeside_63 (lv_at hl 0 rfl) ?_
              refine va_iald hx hb hK hP 38 0 (gX_38 cs ad mu) rfl (show vp_in v5_19 7 from vi_of (by omega) (by omega)) dX10_worthBeside_65 ?_
              refine lv_topi (fun y18 ey18 => ?_)
              have by18 : y18.toInt = (mu 38 v5_19.toNatClampNeg).toInt := congrArg Int32.toInt ey18
              refine va_mmax hx hb (hml.trans hl.1.symm) hown (hts _ (List.mem_cons_of_mem _ mw_4_121)) (hts _ (List.mem_cons_of_mem _ mw_3_172)) (hts _ (List.mem_cons_of_mem _ mw_1_17)) (hts _ (List.mem_cons_of_mem _ mw_3_173)) (Nat.le_of_ble_eq_true rfl) (Nat.le_of_ble_eq_true rfl) (Nat.zero_le _) (Nat.zero_le _) dX10_worthBeside_66 ?_
              refine lv_topi (fun t19 et19 => ?_)
              refine lv_istore (lv' := [(4, .int t19), (5, .int v5_19), (3, .int r2), (0, .ref (ad 4)), (1, .ref (ad kl)), (2, .int vx)]) hx hb dX10_worthBeside_69 hl (by decide) rfl (fun ls hl => ?_)
              refine lv_iinc (v := (v5_19 + 1)) (lv' := [(5, .int (v5_19 + 1)), (4, .int t19), (3, .int r2), (0, .ref (ad 4)), (1, .ref (ad kl)), (2, .int vx)]) hx hb dX10_worthBeside_71 hl (k := 1) rfl rfl (by decide) rfl (fun ls hl => ?_)
              refine loc_gen (P := fun w9 => lv_has ls 6 [(5, .int w9), (4, .int t19), (3, .int r2), (0, .ref (ad 4)), (1, .ref (ad kl)), (2, .int vx)]) (v5_19 + 1) hl (fun w20 hw20 hl => ?_)
              have hl : lv_has ls 6 [(5, .int w20), (4, .int t19), (3, .int r2), (0, .ref (ad 4)), (1, .ref (ad kl)), (2, .int vx)] := hl
              have aw20 : w20.toInt = v5_19.toInt + 1 := by rw [← hw20]; exact va1 (by omega)
              refine lv_goto (tgt := 19) hx hb dX10_worthBeside_74 (by decide) ?_
              exact ih19 (t19) (w20)  _ _ (by omega) (by omega)   hS (lv_sub hl [0, 1, 2, 3, 4, 5] rfl)
  exact loop19 ((7 + 1 - (0 : Int32).toInt).toNat + 1) (0) (0)  _ _ (Nat.lt_succ_self _) (by have h80 : (0 : Int32).toInt = 0 := rfl; exact ⟨by omega, by omega⟩)   hS hl
