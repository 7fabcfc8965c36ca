set_option maxHeartbeats 4000000 in
set_option maxRecDepth 100000 in
/-- sm_friendsBeside -/
theorem sm_friendsBeside (l : Launch) (dC : Nat → ClassId) (dI : Nat → Nat → Nat) (cs : Nat → ClassId) (ad : Nat → Nat) (mu : Nat → Nat → Int32) (ok : okR loM hiM mu) (H : Heap) (hP : va_P (dC, dI) vwCl (wR 21 ad (EM cs ad) mu) H) (vx : Int32) : Met l yX12_friendsBeside (wU yX12_friendsBeside cX12_friendsBeside 4 (some .int)) ({ frames := 2, cells := 0, slots := 0, locals := 46 }) (va_Pc [.ref (ad 0), .int vx] (sz_P (dC, dI) vwCl (tyM cs) H)) (va_Qi (fun (z : Int32) (_ : Unit) => z = F_sm_friendsBeside mu vx ∧ (True)) (fun _ t => t.heap = H) (fun _ => False)) 0 0 (fun _ => False) := by
  refine Met.ofW (cc := cX12_friendsBeside) (maxL := 4) (ret := (some .int)) (by decide) rfl ?_
  intro p e s m args below meth c s₁ B hml hv
  obtain ⟨rfl, hh, hK, hz⟩ := hv
  have hx := B.exec
  have hb := B.bytes
  have hr := B.returns
  have hts := atoms_spec (ws := (wU yX12_friendsBeside cX12_friendsBeside 4 (some .int))) B.pre
  have hown : s.vm.findClass RX12 = some m.cls := findClass_of_methodNamed B.named
  have hlocks := B.notSynchronized
  subst hh
  have hS : va_S (fun _ => False) s.heap s.heap [] := va_S.rf
  have hl := lv_entry ([.ref (ad 0), .int vx]) (n := 4) (Nat.le_of_ble_eq_true rfl)
  rw [lg_entry_eq]
  generalize (lg_sl ([.ref (ad 0), .int vx]) ++ List.replicate (4 - (lg_sl ([.ref (ad 0), .int vx])).length) Slot.unset).toArray = ls at hl ⊢
  have hl : lv_has ls 4 [(0, .ref (ad 0)), (1, .int vx)] := hl
  obtain ⟨fz, hfz⟩ : ∃ z, F_sm_friendsBeside mu vx = z := ⟨_, rfl⟩
  have hF := hfz
  unfold F_sm_friendsBeside at hF
  refine lv_iconst (v := 0) hx hb dX12_friendsBeside_0 (by decide) ?_
  refine lv_istore_n (lv' := [(2, .int 0), (0, .ref (ad 0)), (1, .int vx)]) hx hb dX12_friendsBeside_1 rfl hl (by decide) rfl (fun ls hl => ?_)
  refine lv_iconst (v := 0) hx hb dX12_friendsBeside_2 (by decide) ?_
  refine lv_istore_n (lv' := [(3, .int 0), (2, .int 0), (0, .ref (ad 0)), (1, .int vx)]) hx hb dX12_friendsBeside_3 rfl hl (by decide) rfl (fun ls hl => ?_)
  have loop4 : ∀ (n4 : Nat) (v2_4 : Int32) (v3_4 : Int32) (locs : List Loc) (ls : Array Slot), (7 + 1 - v3_4.toInt).toNat < n4 → (0 ≤ v3_4.toInt ∧ v3_4.toInt ≤ 7) → L_sm_friendsBeside_4_0 mu vx n4 v2_4 v3_4 = fz → va_S (fun _ => False) s.heap s.heap locs → lv_has ls 4 [(3, .int v3_4), (2, .int v2_4), (0, .ref (ad 0)), (1, .int vx)] → W p l e (headSpec (wU yX12_friendsBeside cX12_friendsBeside 4 (some .int)) ({ frames := 2, cells := 0, slots := 0, locals := 46 })).room s m ([.ref (ad 0), .int vx] : List Value).toArray below meth c s.heap locs 0 0 (MQ below (va_Qi (fun (z : Int32) (_ : Unit) => z = F_sm_friendsBeside mu vx ∧ (True)) (fun _ t => t.heap = s.heap) (fun _ => False)) ([.ref (ad 0), .int vx] : List Value).toArray s 0 0 (fun _ => False)) (F0 m 4 ls []) := by
    intro n4
    induction n4 with
    | zero => intro v2_4 v3_4 locs ls hm; exact absurd hm (Nat.not_lt_zero _)
    | succ n4 ih4 =>
      intro v2_4 v3_4 locs ls hm h_v3_4 hF hS hl
      rw [L_sm_friendsBeside_4_0] at hF
      refine lv_iload_n hx hb dX12_friendsBeside_4 rfl (lv_at hl 0 rfl) ?_
      refine lv_aload_n hx hb dX12_friendsBeside_5 rfl (lv_at hl 2 rfl) ?_
      refine va_get (D := (dC, dI)) (ci := 12) (v := .int (mu 0 8)) (C := RX12) (T := TX12) (N := 46) hx hb hts inG12 hown hK hP 0 (gM_0 cs ad mu) rfl 8 (by decide) (hts _ (List.mem_cons_of_mem _ mw_5_49)) (fun _ h9 => h9) rfl dX12_friendsBeside_6 ?_
      refine lv_topi (fun y1 ey1 => ?_)
      have hF := mi_let hF ey1
      have by1 : y1.toInt = (mu 0 8).toInt := congrArg Int32.toInt ey1
      have gy1 : 0 ≤ y1.toInt ∧ y1.toInt ≤ 7 := by rw [ey1]; exact rM_0_8 ok
      refine lv_icmp_ge (tgt := 47) hx hb dX12_friendsBeside_9 (by decide) (fun c_2 => ?_) (fun c_2 => ?_)
      · have hF := (if_pos c_2).symm.trans hF
        have c_2 : y1.toInt ≤ v3_4.toInt := il_le c_2
        refine lv_iload_n hx hb dX12_friendsBeside_47 rfl (lv_at hl 1 rfl) ?_
        exact W.iret (v := v2_4) hx hb hr (fun t ht hW => ⟨⟨v2_4, (), rfl, ⟨hF.trans hfz.symm, trivial⟩, ht⟩, hS.F ht⟩) hS.2.2 dX12_friendsBeside_48
      · have hF := (if_neg c_2).symm.trans hF
        have c_2 : v3_4.toInt < y1.toInt := il_nle c_2
        refine lv_iload_n hx hb dX12_friendsBeside_12 rfl (lv_at hl 1 rfl) ?_
        refine lv_aload_n hx hb dX12_friendsBeside_13 rfl (lv_at hl 2 rfl) ?_
        refine lv_iload_n hx hb dX12_friendsBeside_14 rfl (lv_at hl 3 rfl) ?_
        refine cr_i (va_runV (As := [.int vx]) (rest := [.int v2_4]) ⟨hx, hb, hml, hown, hts⟩ (sm_besideOf l dC dI cs ad mu ok s.heap hP vx) (cwV 1 hts (wU_V mw_6_56 mw_6_53 mw_6_55 mw_0_40 mw_1_13) rfl rfl rfl (by decide +kernel) ⟨Nat.le_of_ble_eq_true rfl, Nat.le_of_ble_eq_true rfl⟩) ⟨sz_c, va_recv hK hP (ci := 12) (q0 := 0) rfl (gM_0 cs ad mu), sz_m hK hz⟩ rfl rfl hl.1 rfl (lv_room (Nat.le_of_ble_eq_true rfl)) dX12_friendsBeside_15 ⟨Nat.zero_le _, Nat.zero_le _⟩) hS (fun r3 hw3 locs hS => ?_)
        obtain ⟨hfe3, hw3⟩ := hw3
        have hF := mi_let hF hfe3
        refine lv_iload_n hx hb dX12_friendsBeside_18 rfl (lv_at hl 0 rfl) ?_
        refine cr_i (va_runS (As := [.int r3, .int v3_4]) (rest := [.int v2_4]) ⟨hx, hb, hml, hown, hts⟩ (sm_has l dC dI (tyM cs) s.heap r3 v3_4) (va_cwS 2 hts (wU_S mw_6_59 mw_6_57 mw_6_58 mw_1_13) rfl rfl rfl (by decide +kernel) ⟨Nat.le_of_ble_eq_true rfl, Nat.le_of_ble_eq_true rfl⟩) ⟨sz_c, sz_m hK hz⟩ rfl rfl hl.1 rfl (lv_room (Nat.le_of_ble_eq_true rfl)) dX12_friendsBeside_19 ⟨Nat.zero_le _, Nat.zero_le _⟩) hS (fun r4 hw4 locs hS => ?_)
        obtain ⟨hfe4, hw4⟩ := hw4
        rcases hw4 with ⟨rfl, f4⟩ | ⟨rfl, f4⟩
        · have hF := (if_pos hfe4.symm).symm.trans hF
          have f4 : rb r3 v3_4 = 1 := f4
          refine lv_if_eq (tgt := 38) hx hb dX12_friendsBeside_22 (by decide) (fun c => absurd c (by decide)) (fun _ => ?_)
          refine lv_aload_n hx hb dX12_friendsBeside_25 rfl (lv_at hl 2 rfl) ?_
          refine lv_iload_n hx hb dX12_friendsBeside_26 rfl (lv_at hl 0 rfl) ?_
          refine lv_iconst (v := 2) hx hb dX12_friendsBeside_27 (by decide) ?_
          refine cr_i (va_runV (As := [.int v3_4, .int 2]) (rest := [.int v2_4]) ⟨hx, hb, hml, hown, hts⟩ (sm_isA l dC dI cs ad mu ok s.heap hP v3_4 2 (by have h51 : (2 : Int32).toInt = 2 := rfl; omega)) (cwV 2 hts (wU_V mw_6_70 mw_6_67 mw_6_69 mw_0_41 mw_1_13) rfl rfl rfl (by decide +kernel) ⟨Nat.le_of_ble_eq_true rfl, Nat.le_of_ble_eq_true rfl⟩) ⟨sz_c, va_recv hK hP (ci := 12) (q0 := 0) rfl (gM_0 cs ad mu), sz_m hK hz⟩ rfl rfl hl.1 rfl (lv_room (Nat.le_of_ble_eq_true rfl)) dX12_friendsBeside_28 ⟨Nat.zero_le _, Nat.zero_le _⟩) hS (fun r5 hw5 locs hS => ?_)
          obtain ⟨hfe5, hw5⟩ := hw5
          have hF := mi_let hF hfe5
          have gr5 : 0 ≤ r5.toInt ∧ r5.toInt ≤ 1 := hw5
          refine lv_if_eq (tgt := 38) hx hb dX12_friendsBeside_31 (by decide) (fun c_6 => ?_) (fun c_6 => ?_)
          · have hF := (if_pos c_6).symm.trans hF
            have c_6 : r5.toInt = 0 := il_eq c_6
            refine lv_iconst (v := 0) hx hb dX12_friendsBeside_38 (by decide) ?_
            refine lv_iadd hx hb dX12_friendsBeside_39 ?_
            refine lv_topi (fun t7 et7 => ?_)
            have hF := mi_let hF et7
            refine lv_istore_n (lv' := [(2, .int t7), (3, .int v3_4), (0, .ref (ad 0)), (1, .int vx)]) hx hb dX12_friendsBeside_40 rfl hl (by decide) rfl (fun ls hl => ?_)
            refine lv_iinc (v := (v3_4 + 1)) (lv' := [(3, .int (v3_4 + 1)), (2, .int t7), (0, .ref (ad 0)), (1, .int vx)]) hx hb dX12_friendsBeside_41 hl (k := 1) rfl rfl (by decide) rfl (fun ls hl => ?_)
            refine loc_gen (P := fun w9 => lv_has ls 4 [(3, .int w9), (2, .int t7), (0, .ref (ad 0)), (1, .int vx)]) (v3_4 + 1) hl (fun w8 hw8 hl => ?_)
            have hl : lv_has ls 4 [(3, .int w8), (2, .int t7), (0, .ref (ad 0)), (1, .int vx)] := hl
            have hF := mi_let hF hw8.symm
            have aw8 : w8.toInt = v3_4.toInt + 1 := by rw [← hw8]; exact tI_add (rfl : v3_4.toInt = _) (rfl : (1 : Int32).toInt = 1) (by omega) (by omega)
            refine lv_goto (tgt := 4) hx hb dX12_friendsBeside_44 (by decide) ?_
            exact ih4 (t7) (w8)  _ _ (by omega) (by exact ⟨by omega, by omega⟩)   hF hS (lv_sub hl [0, 1, 2, 3] rfl)
          · have hF := (if_neg c_6).symm.trans hF
            have c_6 : ¬ r5.toInt = 0 := il_ne c_6
            refine lv_iconst (v := 1) hx hb dX12_friendsBeside_34 (by decide) ?_
            refine lv_goto (tgt := 39) hx hb dX12_friendsBeside_35 (by decide) ?_
            refine lv_iadd hx hb dX12_friendsBeside_39 ?_
            refine lv_topi (fun t9 et9 => ?_)
            have hF := mi_let hF et9
            refine lv_istore_n (lv' := [(2, .int t9), (3, .int v3_4), (0, .ref (ad 0)), (1, .int vx)]) hx hb dX12_friendsBeside_40 rfl hl (by decide) rfl (fun ls hl => ?_)
            refine lv_iinc (v := (v3_4 + 1)) (lv' := [(3, .int (v3_4 + 1)), (2, .int t9), (0, .ref (ad 0)), (1, .int vx)]) hx hb dX12_friendsBeside_41 hl (k := 1) rfl rfl (by decide) rfl (fun ls hl => ?_)
            refine loc_gen (P := fun w9 => lv_has ls 4 [(3, .int w9), (2, .int t9), (0, .ref (ad 0)), (1, .int vx)]) (v3_4 + 1) hl (fun w10 hw10 hl => ?_)
            have hl : lv_has ls 4 [(3, .int w10), (2, .int t9), (0, .ref (ad 0)), (1, .int vx)] := hl
            have hF := mi_let hF hw10.symm
            have aw10 : w10.toInt = v3_4.toInt + 1 := by rw [← hw10]; exact tI_add (rfl : v3_4.toInt = _) (rfl : (1 : Int32).toInt = 1) (by omega) (by omega)
            refine lv_goto (tgt := 4) hx hb dX12_friendsBeside_44 (by decide) ?_
            exact ih4 (t9) (w10)  _ _ (by omega) (by exact ⟨by omega, by omega⟩)   hF hS (lv_sub hl [0, 1, 2, 3] rfl)
        · have hF := (if_neg (fun h => absurd (hfe4.trans h) (by decide))).symm.trans hF
          have f4 : ¬ rb r3 v3_4 = 1 := f4
          refine lv_if_eq (tgt := 38) hx hb dX12_friendsBeside_22 (by decide) (fun _ => ?_) (fun c => absurd (by decide) c)
          refine lv_iconst (v := 0) hx hb dX12_friendsBeside_38 (by decide) ?_
          refine lv_iadd hx hb dX12_friendsBeside_39 ?_
          refine lv_topi (fun t11 et11 => ?_)
          have hF := mi_let hF et11
          refine lv_istore_n (lv' := [(2, .int t11), (3, .int v3_4), (0, .ref (ad 0)), (1, .int vx)]) hx hb dX12_friendsBeside_40 rfl hl (by decide) rfl (fun ls hl => ?_)
          refine lv_iinc (v := (v3_4 + 1)) (lv' := [(3, .int (v3_4 + 1)), (2, .int t11), (0, .ref (ad 0)), (1, .int vx)]) hx hb dX12_friendsBeside_41 hl (k := 1) rfl rfl (by decide) rfl (fun ls hl => ?_)
          refine loc_gen (P := fun w9 => lv_has ls 4 [(3, .int w9), (2, .int t11), (0, .ref (ad 0)), (1, .int vx)]) (v3_4 + 1) hl (fun w12 hw12 hl => ?_)
          have hl : lv_has ls 4 [(3, .int w12), (2, .int t11), (0, .ref (ad 0)), (1, .int vx)] := hl
          have hF := mi_let hF hw12.symm
          have aw12 : w12.toInt = v3_4.toInt + 1 := by rw [← hw12]; exact tI_add (rfl : v3_4.toInt = _) (rfl : (1 : Int32).toInt = 1) (by omega) (by omega)
          refine lv_goto (tgt := 4) hx hb dX12_friendsBeside_44 (by decide) ?_
          exact ih4 (t11) (w12)  _ _ (by omega) (by exact ⟨by omega, by omega⟩)   hF hS (lv_sub hl [0, 1, 2, 3] rfl)
  exact loop4 10 (0) (0)  _ _ (by have h80 : (0 : Int32).toInt = 0 := rfl; have h81 : (0 : Int32).toInt = 0 := rfl; omega) (by have h80 : (0 : Int32).toInt = 0 := rfl; exact ⟨by omega, by omega⟩)   hF hS hl
