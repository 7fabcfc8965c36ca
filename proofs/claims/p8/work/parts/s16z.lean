set_option maxHeartbeats 4000000 in
set_option maxRecDepth 100000 in
/-- sx_kindSigned -/
theorem sx_kindSigned (l : Launch) (dC : Nat → ClassId) (dI : Nat → Nat → Nat) (tys : List (ClassId × FieldType)) (H : Heap) (tt : Nat) (vs : Int32) : Met l yX4_kindSigned (wU yX4_kindSigned cX4_kindSigned 2 (some .int)) ({ frames := 0, cells := 0, slots := 0, locals := 0 }) (va_Pc [.int vs] (sy_P (dC, dI) vwCl tys (fun _ => False) tt H)) (va_Qi (fun (z : Int32) (_ : Unit) => -9 ≤ z.toInt ∧ z.toInt ≤ 5) (fun _ t => t.heap = H) (fun _ => False)) 0 0 (fun _ => False) := by
  refine Met.ofW (cc := cX4_kindSigned) (maxL := 2) (ret := (some .int)) (by decide) rfl ?_
  intro p e s m args below meth c s₁ B hml hv
  obtain ⟨rfl, hh, hK, hz, hks⟩ := hv
  have hx := B.exec
  have hb := B.bytes
  have hr := B.returns
  have hts := atoms_spec (ws := (wU yX4_kindSigned cX4_kindSigned 2 (some .int))) B.pre
  have hown : s.vm.findClass RX4 = some m.cls := findClass_of_methodNamed B.named
  have hlocks := B.notSynchronized
  subst hh
  have hS : va_S (fun _ => False) s.heap s.heap [] := va_S.rf
  have hl := lv_entry ([.int vs]) (n := 2) (Nat.le_of_ble_eq_true rfl)
  rw [lg_entry_eq]
  generalize (lg_sl ([.int vs]) ++ List.replicate (2 - (lg_sl ([.int vs])).length) Slot.unset).toArray = ls at hl ⊢
  have hl : lv_has ls 2 [(0, .int vs)] := hl
  refine lv_iconst (v := 0) hx hb dX4_kindSigned_0 (by decide) ?_
  refine lv_istore_n (lv' := [(1, .int 0), (0, .int vs)]) hx hb dX4_kindSigned_1 rfl hl (by decide) rfl (fun ls hl => ?_)
  have loop2 : ∀ (n2 : Nat) (v1_2 : Int32) (locs : List Loc) (ls : Array Slot), (6 + 1 - v1_2.toInt).toNat < n2 → (0 ≤ v1_2.toInt ∧ v1_2.toInt ≤ 6) → va_S (fun _ => False) s.heap s.heap locs → lv_has ls 2 [(1, .int v1_2), (0, .int vs)] → W p l e (headSpec (wU yX4_kindSigned cX4_kindSigned 2 (some .int)) ({ frames := 0, cells := 0, slots := 0, locals := 0 })).room s m ([.int vs] : List Value).toArray below meth c s.heap locs 0 0 (MQ below (va_Qi (fun (z : Int32) (_ : Unit) => -9 ≤ z.toInt ∧ z.toInt ≤ 5) (fun _ t => t.heap = s.heap) (fun _ => False)) ([.int vs] : List Value).toArray s 0 0 (fun _ => False)) (F0 m 2 ls []) := by
    intro n2
    induction n2 with
    | zero => intro v1_2 locs ls hm; exact absurd hm (Nat.not_lt_zero _)
    | succ n2 ih2 =>
      intro v1_2 locs ls hm h_v1_2 hS hl
      refine lv_iload_n hx hb dX4_kindSigned_2 rfl (lv_at hl 0 rfl) ?_
      refine va_getsN hx hb hks.1 hS hown (va_Nw.use rfl hz.2.2.2.2.2.2.2.2.2.2.2.2.2.2.2.2) (fun _ h9 => h9) dX4_kindSigned_3 ?_
      refine va_tlen hx hb hks.2 hS (v := 6) rfl dX4_kindSigned_6 ?_
      refine lv_icmp_ge (tgt := 27) hx hb dX4_kindSigned_7 (by decide) (fun c_2 => ?_) (fun c_2 => ?_)
      · have c_2 : 6 ≤ v1_2.toInt := il_le c_2
        refine lv_bipush (v := (-9)) hx hb dX4_kindSigned_27 (by decide) ?_
        exact W.iret (v := (-9)) hx hb hr (fun t ht hW => ⟨⟨(-9), (), rfl, (by have h6 : ((-9) : Int32).toInt = -9 := rfl; omega), ht⟩, hS.F ht⟩) hS.2.2 dX4_kindSigned_29
      · have c_2 : v1_2.toInt < 6 := il_nle c_2
        refine va_getsN hx hb hks.1 hS hown (va_Nw.use rfl hz.2.2.2.2.2.2.2.2.2.2.2.2.2.2.2.2) (fun _ h9 => h9) dX4_kindSigned_10 ?_
        refine lv_iload_n hx hb dX4_kindSigned_13 rfl (lv_at hl 0 rfl) ?_
        refine va_tc hx hb hks.2 hS (show vp_in v1_2 6 from vi_of (by omega) (by omega)) rfl dX4_kindSigned_14 ?_
        refine lv_topi (fun t4 et4 => ?_)
        refine lv_iload_n hx hb dX4_kindSigned_15 rfl (lv_at hl 1 rfl) ?_
        refine lv_icmp_ne (tgt := 21) hx hb dX4_kindSigned_16 (by decide) (fun c_5 => ?_) (fun c_5 => ?_)
        · have c_5 : ¬ t4.toInt = vs.toInt := il_ne c_5
          refine lv_iinc (v := (v1_2 + 1)) (lv' := [(1, .int (v1_2 + 1)), (0, .int vs)]) hx hb dX4_kindSigned_21 hl (k := 0) rfl rfl (by decide) rfl (fun ls hl => ?_)
          refine loc_gen (P := fun w9 => lv_has ls 2 [(1, .int w9), (0, .int vs)]) (v1_2 + 1) hl (fun w6 hw6 hl => ?_)
          have hl : lv_has ls 2 [(1, .int w6), (0, .int vs)] := hl
          have aw6 : w6.toInt = v1_2.toInt + 1 := by rw [← hw6]; exact tI_add (rfl : v1_2.toInt = _) (rfl : (1 : Int32).toInt = 1) (by omega) (by omega)
          refine lv_goto (tgt := 2) hx hb dX4_kindSigned_24 (by decide) ?_
          exact ih2 (w6)  _ _ (by omega) (by exact ⟨by omega, by omega⟩)   hS (lv_sub hl [0, 1] rfl)
        · have c_5 : t4.toInt = vs.toInt := il_eq c_5
          refine lv_iload_n hx hb dX4_kindSigned_19 rfl (lv_at hl 0 rfl) ?_
          exact W.iret (v := v1_2) hx hb hr (fun t ht hW => ⟨⟨v1_2, (), rfl, (by omega), ht⟩, hS.F ht⟩) hS.2.2 dX4_kindSigned_20
  exact loop2 ((6 + 1 - (0 : Int32).toInt).toNat + 1) (0)  _ _ (Nat.lt_succ_self _) (by have h80 : (0 : Int32).toInt = 0 := rfl; exact ⟨by omega, by omega⟩)   hS hl
set_option maxHeartbeats 4000000 in
set_option maxRecDepth 100000 in
/-- sx_faultInBearer -/
theorem sx_faultInBearer (l : Launch) (dC : Nat → ClassId) (dI : Nat → Nat → Nat) (cs : Nat → ClassId) (ad : Nat → Nat) (mu : Nat → Nat → Int32) (ok : okR loX hiX mu) (H : Heap) (hP : va_P (dC, dI) vwCl (wR 157 ad (EX cs ad) mu) H) (hD0 : va_D (fun _ => True) (wR 157 ad (EX cs ad) mu)) (tt : Nat) (kx : Nat) (h1kx : 14 ≤ kx) (h2kx : kx < 18) (vi : Int32) (hin0 : 0 ≤ vi.toInt ∧ vi.toInt ≤ 79) : Met l yX4_faultInBearer (wU yX4_faultInBearer cX4_faultInBearer 6 (some .int)) ({ frames := 1, cells := 0, slots := 0, locals := 21 }) (va_Pc [.ref (ad 31), .ref (ad kx), .int vi] (sy_P (dC, dI) vwCl (tyW cs) (va_A (wR 157 ad (EX cs ad) mu) H.size) tt H)) (va_Qi (fun (z : Int32) (xi : Nat → Nat → Int32) => okR loX hiX xi ∧ (True) ∧ True) (fun xi t => va_P (dC, dI) vwCl (wR 157 ad (EX cs ad) xi) t.heap) (va_A (wR 157 ad (EX cs ad) mu) H.size)) 0 0 (va_A (wR 157 ad (EX cs ad) mu) H.size) := by
  refine Met.ofW (cc := cX4_faultInBearer) (maxL := 6) (ret := (some .int)) (by decide) rfl ?_
  intro p e s m args below meth c s₁ B hml hv
  obtain ⟨rfl, hh, hK, hz, hks⟩ := hv
  have hx := B.exec
  have hb := B.bytes
  have hr := B.returns
  have hts := atoms_spec (ws := (wU yX4_faultInBearer cX4_faultInBearer 6 (some .int))) B.pre
  have hown : s.vm.findClass RX4 = some m.cls := findClass_of_methodNamed B.named
  have hlocks := B.notSynchronized
  subst hh
  have hD := hD0.self (sz := s.heap.size)
  have hA : ∀ q : Nat, s.heap.size ≤ q → (va_A (wR 157 ad (EX cs ad) mu) s.heap.size) q := fun q h => Or.inr h
  have hS : va_S (va_A (wR 157 ad (EX cs ad) mu) s.heap.size) s.heap s.heap [] := va_S.rf
  have hl := lv_entry ([.ref (ad 31), .ref (ad kx), .int vi]) (n := 6) (Nat.le_of_ble_eq_true rfl)
  rw [lg_entry_eq]
  generalize (lg_sl ([.ref (ad 31), .ref (ad kx), .int vi]) ++ List.replicate (6 - (lg_sl ([.ref (ad 31), .ref (ad kx), .int vi])).length) Slot.unset).toArray = ls at hl ⊢
  have hl : lv_has ls 6 [(0, .ref (ad 31)), (1, .ref (ad kx)), (2, .int vi)] := hl
  refine lv_aload_n hx hb dX4_faultInBearer_0 rfl (lv_at hl 1 rfl) ?_
  have hk1 : 27 ≤ kx + 13 ∧ kx + 13 < 31 := add_in 13 h1kx h2kx
  refine va_get (D := (dC, dI)) (ci := 9) (v := .ref (ad (kx + 13))) (C := RX9) (T := TX9) (N := 2) hx hb hts inG9 hown hK hP kx (gX_text cs ad mu kx h1kx h2kx) rfl 0 (by decide) (hts _ (List.mem_cons_of_mem _ mw_2_146)) (fun _ h9 => h9) rfl dX4_faultInBearer_1 ?_
  refine lv_iload_n hx hb dX4_faultInBearer_4 rfl (lv_at hl 2 rfl) ?_
  refine va_bald hx hb hK hP (kx + 13) 1 (gX_bytes cs ad mu (kx + 13) hk1.1 hk1.2) rfl (show vp_in vi 80 from vi_of (by omega) (by omega)) dX4_faultInBearer_5 ?_
  refine lv_topi (fun y2 ey2 => ?_)
  have by2 : y2.toInt = (mu (kx + 13) vi.toNatClampNeg).toInt := congrArg Int32.toInt ey2
  have gy2 : -128 ≤ y2.toInt ∧ y2.toInt ≤ 127 := by rw [ey2]; exact rX_bytes_s ok (kx + 13) hk1.1 hk1.2 vi.toNatClampNeg
  refine cr_i (va_runS (As := [.int y2]) (rest := []) ⟨hx, hb, hml, hown, hts⟩ (sx_kindSigned l dC dI (tyW cs) s.heap tt y2) (va_cwS 1 hts (wU_S mw_3_57 mw_3_55 mw_3_56 mw_1_5) rfl rfl rfl (by decide +kernel) ⟨Nat.le_of_ble_eq_true rfl, Nat.le_of_ble_eq_true rfl⟩) ⟨sy_c, sy_m hK hz (hks.on hS (fun _ h => h.elim))⟩ rfl rfl hl.1 rfl (lv_room (Nat.le_of_ble_eq_true rfl)) dX4_faultInBearer_6 ⟨Nat.zero_le _, Nat.zero_le _⟩) hS (fun r3 hw3 locs hS => ?_)
  have gr3 : -9 ≤ r3.toInt ∧ r3.toInt ≤ 5 := hw3
  refine lv_istore_n (lv' := [(3, .int r3), (0, .ref (ad 31)), (1, .ref (ad kx)), (2, .int vi)]) hx hb dX4_faultInBearer_9 rfl hl (by decide) rfl (fun ls hl => ?_)
  refine lv_iload_n hx hb dX4_faultInBearer_10 rfl (lv_at hl 0 rfl) ?_
  refine lv_bipush (v := (-9)) hx hb dX4_faultInBearer_11 (by decide) ?_
  refine lv_icmp_eq (tgt := 32) hx hb dX4_faultInBearer_13 (by decide) (fun c_4 => ?_) (fun c_4 => ?_)
  · have c_4 : r3.toInt = -9 := il_eq c_4
    refine lv_iload_n hx hb dX4_faultInBearer_32 rfl (lv_at hl 3 rfl) ?_
    exact W.iret (v := vi) hx hb hr (fun t ht hW => ⟨⟨vi, mu, rfl, ⟨ok, trivial, trivial⟩, by first | (subst ht; exact hP) | (rw [ht]; exact hP) | (show va_P (dC, dI) vwCl (wR 157 ad (EX cs ad) mu) t.heap; rw [ht]; exact hP)⟩, hS.F ht⟩) hS.2.2 dX4_faultInBearer_33
  · have c_4 : ¬ r3.toInt = -9 := il_ne c_4
    refine lv_aload_n hx hb dX4_faultInBearer_16 rfl (lv_at hl 1 rfl) ?_
    refine va_get (D := (dC, dI)) (ci := 4) (v := .int (mu 31 5)) (C := RX4) (T := TX4) (N := 6) hx hb hts inG4 hown hK hP 31 (gX_31 cs ad mu) rfl 5 (by decide) (hts _ (List.mem_cons_of_mem _ mw_1_196)) (fun _ h9 => h9) rfl dX4_faultInBearer_17 ?_
    refine lv_topi (fun y5 ey5 => ?_)
    have by5 : y5.toInt = (mu 31 5).toInt := congrArg Int32.toInt ey5
    have gy5 : 0 ≤ y5.toInt ∧ y5.toInt ≤ 12 := by rw [ey5]; exact rX_31_5 ok
    refine lv_if_gt (tgt := 32) hx hb dX4_faultInBearer_20 (by decide) (fun c_6 => ?_) (fun c_6 => ?_)
    · have c_6 : 0 < y5.toInt := il_lt c_6
      refine lv_iload_n hx hb dX4_faultInBearer_32 rfl (lv_at hl 3 rfl) ?_
      exact W.iret (v := vi) hx hb hr (fun t ht hW => ⟨⟨vi, mu, rfl, ⟨ok, trivial, trivial⟩, by first | (subst ht; exact hP) | (rw [ht]; exact hP) | (show va_P (dC, dI) vwCl (wR 157 ad (EX cs ad) mu) t.heap; rw [ht]; exact hP)⟩, hS.F ht⟩) hS.2.2 dX4_faultInBearer_33
    · have c_6 : y5.toInt ≤ 0 := il_nlt c_6
      refine lv_aload_n hx hb dX4_faultInBearer_23 rfl (lv_at hl 1 rfl) ?_
      refine va_get (D := (dC, dI)) (ci := 4) (v := .int (mu 31 4)) (C := RX4) (T := TX4) (N := 6) hx hb hts inG4 hown hK hP 31 (gX_31 cs ad mu) rfl 4 (by decide) (hts _ (List.mem_cons_of_mem _ mw_1_195)) (fun _ h9 => h9) rfl dX4_faultInBearer_24 ?_
      refine lv_topi (fun y7 ey7 => ?_)
      have by7 : y7.toInt = (mu 31 4).toInt := congrArg Int32.toInt ey7
      have gy7 : 0 ≤ y7.toInt ∧ y7.toInt ≤ 7 := by rw [ey7]; exact rX_31_4 ok
      refine lv_bipush (v := 7) hx hb dX4_faultInBearer_27 (by decide) ?_
      refine lv_icmp_lt (tgt := 34) hx hb dX4_faultInBearer_29 (by decide) (fun c_8 => ?_) (fun c_8 => ?_)
      · have c_8 : y7.toInt < 7 := il_lt c_8
        refine lv_aload_n hx hb dX4_faultInBearer_34 rfl (lv_at hl 2 rfl) ?_
        refine lv_iload_n hx hb dX4_faultInBearer_35 rfl (lv_at hl 3 rfl) ?_
        refine lv_iconst (v := 1) hx hb dX4_faultInBearer_36 (by decide) ?_
        refine lv_iadd hx hb dX4_faultInBearer_37 ?_
        refine lv_topi (fun t9 et9 => ?_)
        have at9 : t9.toInt = vi.toInt + 1 := by rw [et9]; exact tI_add (rfl : vi.toInt = _) (rfl : (1 : Int32).toInt = 1) (by omega) (by omega)
        refine cr_i (va_runV (As := [.int t9]) (rest := []) ⟨hx, hb, hml, hown, hts⟩ (sx_figureAt l dC dI cs ad mu ok s.heap hP kx h1kx h2kx t9) (cwV 1 hts (wU_V mw_3_50 mw_3_47 mw_3_48 mw_3_49 mw_1_12) rfl rfl rfl (by decide +kernel) ⟨Nat.le_of_ble_eq_true rfl, Nat.le_of_ble_eq_true rfl⟩) ⟨sz_c, va_recv hK hP (ci := 9) (q0 := kx) rfl (gX_text cs ad mu kx h1kx h2kx), sz_m hK hz⟩ rfl rfl hl.1 rfl (lv_room (Nat.le_of_ble_eq_true rfl)) dX4_faultInBearer_38 ⟨Nat.zero_le _, Nat.zero_le _⟩) hS (fun r10 hw10 locs hS => ?_)
        have gr10 : (r10.toInt = -9 ∨ 0 ≤ r10.toInt) ∧ -9 ≤ r10.toInt ∧ r10.toInt ≤ 9 := hw10
        refine lv_istore (lv' := [(4, .int r10), (3, .int r3), (0, .ref (ad 31)), (1, .ref (ad kx)), (2, .int vi)]) hx hb dX4_faultInBearer_41 hl (by decide) rfl (fun ls hl => ?_)
        refine lv_iload hx hb dX4_faultInBearer_43 (lv_at hl 0 rfl) ?_
        refine lv_bipush (v := (-9)) hx hb dX4_faultInBearer_45 (by decide) ?_
        refine lv_icmp_ne (tgt := 54) hx hb dX4_faultInBearer_47 (by decide) (fun c_11 => ?_) (fun c_11 => ?_)
        · have c_11 : ¬ r10.toInt = -9 := il_ne c_11
          refine lv_aload_n hx hb dX4_faultInBearer_54 rfl (lv_at hl 3 rfl) ?_
          refine lv_iload_n hx hb dX4_faultInBearer_55 rfl (lv_at hl 4 rfl) ?_
          refine lv_iconst (v := 2) hx hb dX4_faultInBearer_56 (by decide) ?_
          refine lv_iadd hx hb dX4_faultInBearer_57 ?_
          refine lv_topi (fun t12 et12 => ?_)
          have at12 : t12.toInt = vi.toInt + 2 := by rw [et12]; exact tI_add (rfl : vi.toInt = _) (rfl : (2 : Int32).toInt = 2) (by omega) (by omega)
          refine cr_i (va_runV (As := [.int t12]) (rest := []) ⟨hx, hb, hml, hown, hts⟩ (sx_figureAt l dC dI cs ad mu ok s.heap hP kx h1kx h2kx t12) (cwV 1 hts (wU_V mw_3_50 mw_3_47 mw_3_48 mw_3_49 mw_1_12) rfl rfl rfl (by decide +kernel) ⟨Nat.le_of_ble_eq_true rfl, Nat.le_of_ble_eq_true rfl⟩) ⟨sz_c, va_recv hK hP (ci := 9) (q0 := kx) rfl (gX_text cs ad mu kx h1kx h2kx), sz_m hK hz⟩ rfl rfl hl.1 rfl (lv_room (Nat.le_of_ble_eq_true rfl)) dX4_faultInBearer_58 ⟨Nat.zero_le _, Nat.zero_le _⟩) hS (fun r13 hw13 locs hS => ?_)
          have gr13 : (r13.toInt = -9 ∨ 0 ≤ r13.toInt) ∧ -9 ≤ r13.toInt ∧ r13.toInt ≤ 9 := hw13
          refine lv_istore (lv' := [(5, .int r13), (4, .int r10), (3, .int r3), (0, .ref (ad 31)), (1, .ref (ad kx)), (2, .int vi)]) hx hb dX4_faultInBearer_61 hl (by decide) rfl (fun ls hl => ?_)
          refine lv_iload hx hb dX4_faultInBearer_63 (lv_at hl 0 rfl) ?_
          refine lv_bipush (v := (-9)) hx hb dX4_faultInBearer_65 (by decide) ?_
          refine lv_icmp_ne (tgt := 74) hx hb dX4_faultInBearer_67 (by decide) (fun c_14 => ?_) (fun c_14 => ?_)
          · have c_14 : ¬ r13.toInt = -9 := il_ne c_14
            refine lv_aload_n hx hb dX4_faultInBearer_74 rfl (lv_at hl 3 rfl) ?_
            refine va_get (D := (dC, dI)) (ci := 4) (v := .ref (ad 48)) (C := RX4) (T := TX4) (N := 6) hx hb hts inG4 hown hK hP 31 (gX_31 cs ad mu) rfl 0 (by decide) (hts _ (List.mem_cons_of_mem _ mw_1_191)) (fun _ h9 => h9) rfl dX4_faultInBearer_75 ?_
            refine lv_aload_n hx hb dX4_faultInBearer_78 rfl (lv_at hl 3 rfl) ?_
            refine va_get (D := (dC, dI)) (ci := 4) (v := .int (mu 31 4)) (C := RX4) (T := TX4) (N := 6) hx hb hts inG4 hown hK hP 31 (gX_31 cs ad mu) rfl 4 (by decide) (hts _ (List.mem_cons_of_mem _ mw_1_195)) (fun _ h9 => h9) rfl dX4_faultInBearer_79 ?_
            refine lq_i y7 ey7.symm ?_
            refine lv_iload_n hx hb dX4_faultInBearer_82 rfl (lv_at hl 2 rfl) ?_
            refine va_iast hx hb hK hP (wR_D mu hD) hS 48 0 (gX_48 cs ad mu) rfl (show vp_in y7 7 from vi_of (by omega) (by omega)) dX4_faultInBearer_83 (fun H locs hP _ hS => ?_)
            refine wr_gen (upd (mu 48) y7.toNatClampNeg r3) hP (rfl) (fun nu15 hn15 hP => ?_)
            have ok := tX_48_s ok y7.toNatClampNeg hn15
            have ez16 : y2 = nu15 (kx + 13) vi.toNatClampNeg := ey2.trans (congrFun (up_k hn15 (ne_hi (by decide) hk1.2).symm) vi.toNatClampNeg).symm
            have ez17 : y5 = nu15 31 5 := ey5.trans (congrFun (up_k hn15 (by decide)) 5).symm
            have ez18 : y7 = nu15 31 4 := ey7.trans (congrFun (up_k hn15 (by decide)) 4).symm
            refine lv_aload_n hx hb dX4_faultInBearer_84 rfl (lv_at hl 3 rfl) ?_
            refine va_get (D := (dC, dI)) (ci := 4) (v := .ref (ad 49)) (C := RX4) (T := TX4) (N := 6) hx hb hts inG4 hown hK hP 31 (gX_31 cs ad nu15) rfl 1 (by decide) (hts _ (List.mem_cons_of_mem _ mw_1_192)) (fun _ h9 => h9) rfl dX4_faultInBearer_85 ?_
            refine lv_aload_n hx hb dX4_faultInBearer_88 rfl (lv_at hl 3 rfl) ?_
            refine va_get (D := (dC, dI)) (ci := 4) (v := .int (nu15 31 4)) (C := RX4) (T := TX4) (N := 6) hx hb hts inG4 hown hK hP 31 (gX_31 cs ad nu15) rfl 4 (by decide) (hts _ (List.mem_cons_of_mem _ mw_1_195)) (fun _ h9 => h9) rfl dX4_faultInBearer_89 ?_
            refine lq_i y7 ez18.symm ?_
            refine lv_bipush (v := 10) hx hb dX4_faultInBearer_92 (by decide) ?_
            refine lv_iload hx hb dX4_faultInBearer_94 (lv_at hl 1 rfl) ?_
            refine lv_imul hx hb dX4_faultInBearer_96 ?_
            refine lv_topi (fun t19 et19 => ?_)
            have at19 : t19.toInt = 10 * r10.toInt := by rw [et19]; exact tI_mul (rfl : (10 : Int32).toInt = 10) (rfl : r10.toInt = _) (by omega) (by omega)
            refine lv_iload hx hb dX4_faultInBearer_97 (lv_at hl 0 rfl) ?_
            refine lv_iadd hx hb dX4_faultInBearer_99 ?_
            refine lv_topi (fun t20 et20 => ?_)
            have at20 : t20.toInt = t19.toInt + r13.toInt := by rw [et20]; exact tI_add (rfl : t19.toInt = _) (rfl : r13.toInt = _) (by omega) (by omega)
            refine va_iast hx hb hK hP (wR_D nu15 hD) hS 49 0 (gX_49 cs ad nu15) rfl (show vp_in y7 7 from vi_of (by omega) (by omega)) dX4_faultInBearer_100 (fun H locs hP _ hS => ?_)
            refine wr_gen (upd (nu15 49) y7.toNatClampNeg t20) hP (rfl) (fun nu21 hn21 hP => ?_)
            have ok := tX_49_s ok y7.toNatClampNeg hn21
            have ez22 : y2 = nu21 (kx + 13) vi.toNatClampNeg := ez16.trans (congrFun (up_k hn21 (ne_hi (by decide) hk1.2).symm) vi.toNatClampNeg).symm
            have ez23 : y5 = nu21 31 5 := ez17.trans (congrFun (up_k hn21 (by decide)) 5).symm
            have ez24 : y7 = nu21 31 4 := ez18.trans (congrFun (up_k hn21 (by decide)) 4).symm
            refine lv_aload_n hx hb dX4_faultInBearer_101 rfl (lv_at hl 3 rfl) ?_
            refine lv_dup hx hb dX4_faultInBearer_102 rfl ?_
            refine va_get (D := (dC, dI)) (ci := 4) (v := .int (nu21 31 4)) (C := RX4) (T := TX4) (N := 6) hx hb hts inG4 hown hK hP 31 (gX_31 cs ad nu21) rfl 4 (by decide) (hts _ (List.mem_cons_of_mem _ mw_1_195)) (fun _ h9 => h9) rfl dX4_faultInBearer_103 ?_
            refine lq_i y7 ez24.symm ?_
            refine lv_iconst (v := 1) hx hb dX4_faultInBearer_106 (by decide) ?_
            refine lv_iadd hx hb dX4_faultInBearer_107 ?_
            refine lv_topi (fun t25 et25 => ?_)
            have at25 : t25.toInt = y7.toInt + 1 := by rw [et25]; exact tI_add (rfl : y7.toInt = _) (rfl : (1 : Int32).toInt = 1) (by omega) (by omega)
            refine va_put (D := (dC, dI)) (ci := 4) (v := .int t25) (ty := .int) (C := RX4) (T := TX4) (N := 6) hx hb hts inG4 tyX4 tyX4_ok nmX4 hown hK hP (wR_D nu21 hD) hS 31 (gX_31 cs ad nu21) rfl 4 (by decide) (hts _ (List.mem_cons_of_mem _ mw_1_195)) (fun _ h9 => h9) rfl (by decide +kernel) rfl rfl (Nat.le_of_ble_eq_true rfl) dX4_faultInBearer_108 (fun H locs hP _ hS => ?_)
            simp only [List.set_cons_succ, List.set_cons_zero] at hP
            refine wr_gen (upd (nu21 31) 4 t25) hP ((hX_31_4 cs ad _ _)) (fun nu26 hn26 hP => ?_)
            have ok := tX_31_4 ok hn26 (by exact ⟨by omega, by omega⟩)
            have ez27 : y2 = nu26 (kx + 13) vi.toNatClampNeg := ez22.trans (congrFun (up_k hn26 (ne_hi (by decide) hk1.2).symm) vi.toNatClampNeg).symm
            have ez28 : y5 = nu26 31 5 := ez23.trans (up_f hn26 (by decide)).symm
            have ez29 : t25 = nu26 31 4 := up_v hn26
            refine lv_bipush (v := (-9)) hx hb dX4_faultInBearer_111 (by decide) ?_
            exact W.iret (v := (-9)) hx hb hr (fun t ht hW => ⟨⟨(-9), nu26, rfl, ⟨ok, trivial, trivial⟩, by first | (subst ht; exact hP) | (rw [ht]; exact hP) | (show va_P (dC, dI) vwCl (wR 157 ad (EX cs ad) nu26) t.heap; rw [ht]; exact hP)⟩, hS.F ht⟩) hS.2.2 dX4_faultInBearer_113
          · have c_14 : r13.toInt = -9 := il_eq c_14
            refine lv_iload_n hx hb dX4_faultInBearer_70 rfl (lv_at hl 5 rfl) ?_
            refine lv_iconst (v := 2) hx hb dX4_faultInBearer_71 (by decide) ?_
            refine lv_iadd hx hb dX4_faultInBearer_72 ?_
            refine lv_topi (fun t30 et30 => ?_)
            have at30 : t30.toInt = vi.toInt + 2 := by rw [et30]; exact tI_add (rfl : vi.toInt = _) (rfl : (2 : Int32).toInt = 2) (by omega) (by omega)
            exact W.iret (v := t30) hx hb hr (fun t ht hW => ⟨⟨t30, mu, rfl, ⟨ok, trivial, trivial⟩, by first | (subst ht; exact hP) | (rw [ht]; exact hP) | (show va_P (dC, dI) vwCl (wR 157 ad (EX cs ad) mu) t.heap; rw [ht]; exact hP)⟩, hS.F ht⟩) hS.2.2 dX4_faultInBearer_73
        · have c_11 : r10.toInt = -9 := il_eq c_11
          refine lv_iload_n hx hb dX4_faultInBearer_50 rfl (lv_at hl 4 rfl) ?_
          refine lv_iconst (v := 1) hx hb dX4_faultInBearer_51 (by decide) ?_
          refine lv_iadd hx hb dX4_faultInBearer_52 ?_
          refine lv_topi (fun t31 et31 => ?_)
          have at31 : t31.toInt = vi.toInt + 1 := by rw [et31]; exact tI_add (rfl : vi.toInt = _) (rfl : (1 : Int32).toInt = 1) (by omega) (by omega)
          exact W.iret (v := t31) hx hb hr (fun t ht hW => ⟨⟨t31, mu, rfl, ⟨ok, trivial, trivial⟩, by first | (subst ht; exact hP) | (rw [ht]; exact hP) | (show va_P (dC, dI) vwCl (wR 157 ad (EX cs ad) mu) t.heap; rw [ht]; exact hP)⟩, hS.F ht⟩) hS.2.2 dX4_faultInBearer_53
      · have c_8 : 7 ≤ y7.toInt := il_nlt c_8
        refine lv_iload_n hx hb dX4_faultInBearer_32 rfl (lv_at hl 3 rfl) ?_
        exact W.iret (v := vi) hx hb hr (fun t ht hW => ⟨⟨vi, mu, rfl, ⟨ok, trivial, trivial⟩, by first | (subst ht; exact hP) | (rw [ht]; exact hP) | (show va_P (dC, dI) vwCl (wR 157 ad (EX cs ad) mu) t.heap; rw [ht]; exact hP)⟩, hS.F ht⟩) hS.2.2 dX4_faultInBearer_33
set_option maxHeartbeats 4000000 in
set_option maxRecDepth 100000 in
/-- sx_faultInPath -/
theorem sx_faultInPath (l : Launch) (dC : Nat → ClassId) (dI : Nat → Nat → Nat) (cs : Nat → ClassId) (ad : Nat → Nat) (mu : Nat → Nat → Int32) (ok : okR loX hiX mu) (H : Heap) (hP : va_P (dC, dI) vwCl (wR 157 ad (EX cs ad) mu) H) (hD0 : va_D (fun _ => True) (wR 157 ad (EX cs ad) mu)) (kx : Nat) (h1kx : 14 ≤ kx) (h2kx : kx < 18) (vi : Int32) (hin0 : 0 ≤ vi.toInt ∧ vi.toInt ≤ 79) : Met l yX4_faultInPath (wU yX4_faultInPath cX4_faultInPath 5 (some .int)) ({ frames := 1, cells := 0, slots := 0, locals := 21 }) (va_Pc [.ref (ad 31), .ref (ad kx), .int vi] (sz_P (dC, dI) vwCl (tyW cs) H)) (va_Qi (fun (z : Int32) (xi : Nat → Nat → Int32) => okR loX hiX xi ∧ (True) ∧ True) (fun xi t => va_P (dC, dI) vwCl (wR 157 ad (EX cs ad) xi) t.heap) (va_A (wR 157 ad (EX cs ad) mu) H.size)) 0 0 (va_A (wR 157 ad (EX cs ad) mu) H.size) := by
  refine Met.ofW (cc := cX4_faultInPath) (maxL := 5) (ret := (some .int)) (by decide) rfl ?_
  intro p e s m args below meth c s₁ B hml hv
  obtain ⟨rfl, hh, hK, hz⟩ := hv
  have hx := B.exec
  have hb := B.bytes
  have hr := B.returns
  have hts := atoms_spec (ws := (wU yX4_faultInPath cX4_faultInPath 5 (some .int))) B.pre
  have hown : s.vm.findClass RX4 = some m.cls := findClass_of_methodNamed B.named
  have hlocks := B.notSynchronized
  subst hh
  have hD := hD0.self (sz := s.heap.size)
  have hA : ∀ q : Nat, s.heap.size ≤ q → (va_A (wR 157 ad (EX cs ad) mu) s.heap.size) q := fun q h => Or.inr h
  have hS : va_S (va_A (wR 157 ad (EX cs ad) mu) s.heap.size) s.heap s.heap [] := va_S.rf
  have hl := lv_entry ([.ref (ad 31), .ref (ad kx), .int vi]) (n := 5) (Nat.le_of_ble_eq_true rfl)
  rw [lg_entry_eq]
  generalize (lg_sl ([.ref (ad 31), .ref (ad kx), .int vi]) ++ List.replicate (5 - (lg_sl ([.ref (ad 31), .ref (ad kx), .int vi])).length) Slot.unset).toArray = ls at hl ⊢
  have hl : lv_has ls 5 [(0, .ref (ad 31)), (1, .ref (ad kx)), (2, .int vi)] := hl
  refine lv_aload_n hx hb dX4_faultInPath_0 rfl (lv_at hl 0 rfl) ?_
  refine va_get (D := (dC, dI)) (ci := 4) (v := .int (mu 31 5)) (C := RX4) (T := TX4) (N := 6) hx hb hts inG4 hown hK hP 31 (gX_31 cs ad mu) rfl 5 (by decide) (hts _ (List.mem_cons_of_mem _ mw_1_196)) (fun _ h9 => h9) rfl dX4_faultInPath_1 ?_
  refine lv_topi (fun y1 ey1 => ?_)
  have by1 : y1.toInt = (mu 31 5).toInt := congrArg Int32.toInt ey1
  have gy1 : 0 ≤ y1.toInt ∧ y1.toInt ≤ 12 := by rw [ey1]; exact rX_31_5 ok
  refine lv_bipush (v := 12) hx hb dX4_faultInPath_4 (by decide) ?_
  refine lv_icmp_lt (tgt := 11) hx hb dX4_faultInPath_6 (by decide) (fun c_2 => ?_) (fun c_2 => ?_)
  · have c_2 : y1.toInt < 12 := il_lt c_2
    refine lv_aload_n hx hb dX4_faultInPath_11 rfl (lv_at hl 1 rfl) ?_
    refine lv_iload_n hx hb dX4_faultInPath_12 rfl (lv_at hl 2 rfl) ?_
    refine lv_iconst (v := 1) hx hb dX4_faultInPath_13 (by decide) ?_
    refine lv_iadd hx hb dX4_faultInPath_14 ?_
    refine lv_topi (fun t3 et3 => ?_)
    have at3 : t3.toInt = vi.toInt + 1 := by rw [et3]; exact tI_add (rfl : vi.toInt = _) (rfl : (1 : Int32).toInt = 1) (by omega) (by omega)
    refine cr_i (va_runV (As := [.int t3]) (rest := []) ⟨hx, hb, hml, hown, hts⟩ (sx_figureAt l dC dI cs ad mu ok s.heap hP kx h1kx h2kx t3) (cwV 1 hts (wU_V mw_3_50 mw_3_47 mw_3_48 mw_3_49 mw_1_12) rfl rfl rfl (by decide +kernel) ⟨Nat.le_of_ble_eq_true rfl, Nat.le_of_ble_eq_true rfl⟩) ⟨sz_c, va_recv hK hP (ci := 9) (q0 := kx) rfl (gX_text cs ad mu kx h1kx h2kx), sz_m hK hz⟩ rfl rfl hl.1 rfl (lv_room (Nat.le_of_ble_eq_true rfl)) dX4_faultInPath_15 ⟨Nat.zero_le _, Nat.zero_le _⟩) hS (fun r4 hw4 locs hS => ?_)
    have gr4 : (r4.toInt = -9 ∨ 0 ≤ r4.toInt) ∧ -9 ≤ r4.toInt ∧ r4.toInt ≤ 9 := hw4
    refine lv_istore_n (lv' := [(3, .int r4), (0, .ref (ad 31)), (1, .ref (ad kx)), (2, .int vi)]) hx hb dX4_faultInPath_18 rfl hl (by decide) rfl (fun ls hl => ?_)
    refine lv_iload_n hx hb dX4_faultInPath_19 rfl (lv_at hl 0 rfl) ?_
    refine lv_bipush (v := (-9)) hx hb dX4_faultInPath_20 (by decide) ?_
    refine lv_icmp_eq (tgt := 33) hx hb dX4_faultInPath_22 (by decide) (fun c_5 => ?_) (fun c_5 => ?_)
    · have c_5 : r4.toInt = -9 := il_eq c_5
      refine lv_iload_n hx hb dX4_faultInPath_33 rfl (lv_at hl 3 rfl) ?_
      refine lv_iconst (v := 1) hx hb dX4_faultInPath_34 (by decide) ?_
      refine lv_iadd hx hb dX4_faultInPath_35 ?_
      refine lv_topi (fun t6 et6 => ?_)
      have at6 : t6.toInt = vi.toInt + 1 := by rw [et6]; exact tI_add (rfl : vi.toInt = _) (rfl : (1 : Int32).toInt = 1) (by omega) (by omega)
      exact W.iret (v := t6) hx hb hr (fun t ht hW => ⟨⟨t6, mu, rfl, ⟨ok, trivial, trivial⟩, by first | (subst ht; exact hP) | (rw [ht]; exact hP) | (show va_P (dC, dI) vwCl (wR 157 ad (EX cs ad) mu) t.heap; rw [ht]; exact hP)⟩, hS.F ht⟩) hS.2.2 dX4_faultInPath_36
    · have c_5 : ¬ r4.toInt = -9 := il_ne c_5
      refine lv_iload_n hx hb dX4_faultInPath_25 rfl (lv_at hl 0 rfl) ?_
      refine lv_aload_n hx hb dX4_faultInPath_26 rfl (lv_at hl 1 rfl) ?_
      refine va_get (D := (dC, dI)) (ci := 4) (v := .int (mu 31 4)) (C := RX4) (T := TX4) (N := 6) hx hb hts inG4 hown hK hP 31 (gX_31 cs ad mu) rfl 4 (by decide) (hts _ (List.mem_cons_of_mem _ mw_1_195)) (fun _ h9 => h9) rfl dX4_faultInPath_27 ?_
      refine lv_topi (fun y7 ey7 => ?_)
      have by7 : y7.toInt = (mu 31 4).toInt := congrArg Int32.toInt ey7
      have gy7 : 0 ≤ y7.toInt ∧ y7.toInt ≤ 7 := by rw [ey7]; exact rX_31_4 ok
      refine lv_icmp_lt (tgt := 37) hx hb dX4_faultInPath_30 (by decide) (fun c_8 => ?_) (fun c_8 => ?_)
      · have c_8 : r4.toInt < y7.toInt := il_lt c_8
        refine lv_aload_n hx hb dX4_faultInPath_37 rfl (lv_at hl 2 rfl) ?_
        refine lv_iload_n hx hb dX4_faultInPath_38 rfl (lv_at hl 3 rfl) ?_
        refine lv_iconst (v := 2) hx hb dX4_faultInPath_39 (by decide) ?_
        refine lv_iadd hx hb dX4_faultInPath_40 ?_
        refine lv_topi (fun t9 et9 => ?_)
        have at9 : t9.toInt = vi.toInt + 2 := by rw [et9]; exact tI_add (rfl : vi.toInt = _) (rfl : (2 : Int32).toInt = 2) (by omega) (by omega)
        refine cr_i (va_runV (As := [.int t9]) (rest := []) ⟨hx, hb, hml, hown, hts⟩ (sx_figureAt l dC dI cs ad mu ok s.heap hP kx h1kx h2kx t9) (cwV 1 hts (wU_V mw_3_50 mw_3_47 mw_3_48 mw_3_49 mw_1_12) rfl rfl rfl (by decide +kernel) ⟨Nat.le_of_ble_eq_true rfl, Nat.le_of_ble_eq_true rfl⟩) ⟨sz_c, va_recv hK hP (ci := 9) (q0 := kx) rfl (gX_text cs ad mu kx h1kx h2kx), sz_m hK hz⟩ rfl rfl hl.1 rfl (lv_room (Nat.le_of_ble_eq_true rfl)) dX4_faultInPath_41 ⟨Nat.zero_le _, Nat.zero_le _⟩) hS (fun r10 hw10 locs hS => ?_)
        have gr10 : (r10.toInt = -9 ∨ 0 ≤ r10.toInt) ∧ -9 ≤ r10.toInt ∧ r10.toInt ≤ 9 := hw10
        refine lv_istore (lv' := [(4, .int r10), (3, .int r4), (0, .ref (ad 31)), (1, .ref (ad kx)), (2, .int vi)]) hx hb dX4_faultInPath_44 hl (by decide) rfl (fun ls hl => ?_)
        refine lv_iload hx hb dX4_faultInPath_46 (lv_at hl 0 rfl) ?_
        refine lv_bipush (v := (-9)) hx hb dX4_faultInPath_48 (by decide) ?_
        refine lv_icmp_eq (tgt := 68) hx hb dX4_faultInPath_50 (by decide) (fun c_11 => ?_) (fun c_11 => ?_)
        · have c_11 : r10.toInt = -9 := il_eq c_11
          refine lv_iload_n hx hb dX4_faultInPath_68 rfl (lv_at hl 4 rfl) ?_
          refine lv_iconst (v := 2) hx hb dX4_faultInPath_69 (by decide) ?_
          refine lv_iadd hx hb dX4_faultInPath_70 ?_
          refine lv_topi (fun t12 et12 => ?_)
          have at12 : t12.toInt = vi.toInt + 2 := by rw [et12]; exact tI_add (rfl : vi.toInt = _) (rfl : (2 : Int32).toInt = 2) (by omega) (by omega)
          exact W.iret (v := t12) hx hb hr (fun t ht hW => ⟨⟨t12, mu, rfl, ⟨ok, trivial, trivial⟩, by first | (subst ht; exact hP) | (rw [ht]; exact hP) | (show va_P (dC, dI) vwCl (wR 157 ad (EX cs ad) mu) t.heap; rw [ht]; exact hP)⟩, hS.F ht⟩) hS.2.2 dX4_faultInPath_71
        · have c_11 : ¬ r10.toInt = -9 := il_ne c_11
          refine lv_iload hx hb dX4_faultInPath_53 (lv_at hl 0 rfl) ?_
          refine lv_aload_n hx hb dX4_faultInPath_55 rfl (lv_at hl 2 rfl) ?_
          refine va_get (D := (dC, dI)) (ci := 4) (v := .int (mu 31 4)) (C := RX4) (T := TX4) (N := 6) hx hb hts inG4 hown hK hP 31 (gX_31 cs ad mu) rfl 4 (by decide) (hts _ (List.mem_cons_of_mem _ mw_1_195)) (fun _ h9 => h9) rfl dX4_faultInPath_56 ?_
          refine lq_i y7 ey7.symm ?_
          refine lv_icmp_ge (tgt := 68) hx hb dX4_faultInPath_59 (by decide) (fun c_13 => ?_) (fun c_13 => ?_)
          · have c_13 : y7.toInt ≤ r10.toInt := il_le c_13
            refine lv_iload_n hx hb dX4_faultInPath_68 rfl (lv_at hl 4 rfl) ?_
            refine lv_iconst (v := 2) hx hb dX4_faultInPath_69 (by decide) ?_
            refine lv_iadd hx hb dX4_faultInPath_70 ?_
            refine lv_topi (fun t14 et14 => ?_)
            have at14 : t14.toInt = vi.toInt + 2 := by rw [et14]; exact tI_add (rfl : vi.toInt = _) (rfl : (2 : Int32).toInt = 2) (by omega) (by omega)
            exact W.iret (v := t14) hx hb hr (fun t ht hW => ⟨⟨t14, mu, rfl, ⟨ok, trivial, trivial⟩, by first | (subst ht; exact hP) | (rw [ht]; exact hP) | (show va_P (dC, dI) vwCl (wR 157 ad (EX cs ad) mu) t.heap; rw [ht]; exact hP)⟩, hS.F ht⟩) hS.2.2 dX4_faultInPath_71
          · have c_13 : r10.toInt < y7.toInt := il_nle c_13
            refine lv_iload hx hb dX4_faultInPath_62 (lv_at hl 0 rfl) ?_
            refine lv_iload_n hx hb dX4_faultInPath_64 rfl (lv_at hl 1 rfl) ?_
            refine lv_icmp_ne (tgt := 72) hx hb dX4_faultInPath_65 (by decide) (fun c_15 => ?_) (fun c_15 => ?_)
            · have c_15 : ¬ r10.toInt = r4.toInt := il_ne c_15
              refine lv_aload_n hx hb dX4_faultInPath_72 rfl (lv_at hl 2 rfl) ?_
              refine va_get (D := (dC, dI)) (ci := 4) (v := .ref (ad 50)) (C := RX4) (T := TX4) (N := 6) hx hb hts inG4 hown hK hP 31 (gX_31 cs ad mu) rfl 2 (by decide) (hts _ (List.mem_cons_of_mem _ mw_1_193)) (fun _ h9 => h9) rfl dX4_faultInPath_73 ?_
              refine lv_aload_n hx hb dX4_faultInPath_76 rfl (lv_at hl 2 rfl) ?_
              refine va_get (D := (dC, dI)) (ci := 4) (v := .int (mu 31 5)) (C := RX4) (T := TX4) (N := 6) hx hb hts inG4 hown hK hP 31 (gX_31 cs ad mu) rfl 5 (by decide) (hts _ (List.mem_cons_of_mem _ mw_1_196)) (fun _ h9 => h9) rfl dX4_faultInPath_77 ?_
              refine lq_i y1 ey1.symm ?_
              refine lv_iload_n hx hb dX4_faultInPath_80 rfl (lv_at hl 1 rfl) ?_
              refine va_iast hx hb hK hP (wR_D mu hD) hS 50 0 (gX_50 cs ad mu) rfl (show vp_in y1 12 from vi_of (by omega) (by omega)) dX4_faultInPath_81 (fun H locs hP _ hS => ?_)
              refine wr_gen (upd (mu 50) y1.toNatClampNeg r4) hP (rfl) (fun nu16 hn16 hP => ?_)
              have ok := tX_50_s ok y1.toNatClampNeg hn16 (by exact ⟨by omega, by omega⟩)
              have ez17 : y1 = nu16 31 5 := ey1.trans (congrFun (up_k hn16 (by decide)) 5).symm
              have ez18 : y7 = nu16 31 4 := ey7.trans (congrFun (up_k hn16 (by decide)) 4).symm
              refine lv_aload_n hx hb dX4_faultInPath_82 rfl (lv_at hl 2 rfl) ?_
              refine va_get (D := (dC, dI)) (ci := 4) (v := .ref (ad 51)) (C := RX4) (T := TX4) (N := 6) hx hb hts inG4 hown hK hP 31 (gX_31 cs ad nu16) rfl 3 (by decide) (hts _ (List.mem_cons_of_mem _ mw_1_194)) (fun _ h9 => h9) rfl dX4_faultInPath_83 ?_
              refine lv_aload_n hx hb dX4_faultInPath_86 rfl (lv_at hl 2 rfl) ?_
              refine va_get (D := (dC, dI)) (ci := 4) (v := .int (nu16 31 5)) (C := RX4) (T := TX4) (N := 6) hx hb hts inG4 hown hK hP 31 (gX_31 cs ad nu16) rfl 5 (by decide) (hts _ (List.mem_cons_of_mem _ mw_1_196)) (fun _ h9 => h9) rfl dX4_faultInPath_87 ?_
              refine lq_i y1 ez17.symm ?_
              refine lv_iload hx hb dX4_faultInPath_90 (lv_at hl 0 rfl) ?_
              refine va_iast hx hb hK hP (wR_D nu16 hD) hS 51 0 (gX_51 cs ad nu16) rfl (show vp_in y1 12 from vi_of (by omega) (by omega)) dX4_faultInPath_92 (fun H locs hP _ hS => ?_)
              refine wr_gen (upd (nu16 51) y1.toNatClampNeg r10) hP (rfl) (fun nu19 hn19 hP => ?_)
              have ok := tX_51_s ok y1.toNatClampNeg hn19 (by exact ⟨by omega, by omega⟩)
              have ez20 : y1 = nu19 31 5 := ez17.trans (congrFun (up_k hn19 (by decide)) 5).symm
              have ez21 : y7 = nu19 31 4 := ez18.trans (congrFun (up_k hn19 (by decide)) 4).symm
              refine lv_aload_n hx hb dX4_faultInPath_93 rfl (lv_at hl 2 rfl) ?_
              refine lv_dup hx hb dX4_faultInPath_94 rfl ?_
              refine va_get (D := (dC, dI)) (ci := 4) (v := .int (nu19 31 5)) (C := RX4) (T := TX4) (N := 6) hx hb hts inG4 hown hK hP 31 (gX_31 cs ad nu19) rfl 5 (by decide) (hts _ (List.mem_cons_of_mem _ mw_1_196)) (fun _ h9 => h9) rfl dX4_faultInPath_95 ?_
              refine lq_i y1 ez20.symm ?_
              refine lv_iconst (v := 1) hx hb dX4_faultInPath_98 (by decide) ?_
              refine lv_iadd hx hb dX4_faultInPath_99 ?_
              refine lv_topi (fun t22 et22 => ?_)
              have at22 : t22.toInt = y1.toInt + 1 := by rw [et22]; exact tI_add (rfl : y1.toInt = _) (rfl : (1 : Int32).toInt = 1) (by omega) (by omega)
              refine va_put (D := (dC, dI)) (ci := 4) (v := .int t22) (ty := .int) (C := RX4) (T := TX4) (N := 6) hx hb hts inG4 tyX4 tyX4_ok nmX4 hown hK hP (wR_D nu19 hD) hS 31 (gX_31 cs ad nu19) rfl 5 (by decide) (hts _ (List.mem_cons_of_mem _ mw_1_196)) (fun _ h9 => h9) rfl (by decide +kernel) rfl rfl (Nat.le_of_ble_eq_true rfl) dX4_faultInPath_100 (fun H locs hP _ hS => ?_)
              simp only [List.set_cons_succ, List.set_cons_zero] at hP
              refine wr_gen (upd (nu19 31) 5 t22) hP ((hX_31_5 cs ad _ _)) (fun nu23 hn23 hP => ?_)
              have ok := tX_31_5 ok hn23 (by exact ⟨by omega, by omega⟩)
              have ez24 : y7 = nu23 31 4 := ez21.trans (up_f hn23 (by decide)).symm
              have ez25 : t22 = nu23 31 5 := up_v hn23
              refine lv_bipush (v := (-9)) hx hb dX4_faultInPath_103 (by decide) ?_
              exact W.iret (v := (-9)) hx hb hr (fun t ht hW => ⟨⟨(-9), nu23, rfl, ⟨ok, trivial, trivial⟩, by first | (subst ht; exact hP) | (rw [ht]; exact hP) | (show va_P (dC, dI) vwCl (wR 157 ad (EX cs ad) nu23) t.heap; rw [ht]; exact hP)⟩, hS.F ht⟩) hS.2.2 dX4_faultInPath_105
            · have c_15 : r10.toInt = r4.toInt := il_eq c_15
              refine lv_iload_n hx hb dX4_faultInPath_68 rfl (lv_at hl 4 rfl) ?_
              refine lv_iconst (v := 2) hx hb dX4_faultInPath_69 (by decide) ?_
              refine lv_iadd hx hb dX4_faultInPath_70 ?_
              refine lv_topi (fun t26 et26 => ?_)
              have at26 : t26.toInt = vi.toInt + 2 := by rw [et26]; exact tI_add (rfl : vi.toInt = _) (rfl : (2 : Int32).toInt = 2) (by omega) (by omega)
              exact W.iret (v := t26) hx hb hr (fun t ht hW => ⟨⟨t26, mu, rfl, ⟨ok, trivial, trivial⟩, by first | (subst ht; exact hP) | (rw [ht]; exact hP) | (show va_P (dC, dI) vwCl (wR 157 ad (EX cs ad) mu) t.heap; rw [ht]; exact hP)⟩, hS.F ht⟩) hS.2.2 dX4_faultInPath_71
      · have c_8 : y7.toInt ≤ r4.toInt := il_nlt c_8
        refine lv_iload_n hx hb dX4_faultInPath_33 rfl (lv_at hl 3 rfl) ?_
        refine lv_iconst (v := 1) hx hb dX4_faultInPath_34 (by decide) ?_
        refine lv_iadd hx hb dX4_faultInPath_35 ?_
        refine lv_topi (fun t27 et27 => ?_)
        have at27 : t27.toInt = vi.toInt + 1 := by rw [et27]; exact tI_add (rfl : vi.toInt = _) (rfl : (1 : Int32).toInt = 1) (by omega) (by omega)
        exact W.iret (v := t27) hx hb hr (fun t ht hW => ⟨⟨t27, mu, rfl, ⟨ok, trivial, trivial⟩, by first | (subst ht; exact hP) | (rw [ht]; exact hP) | (show va_P (dC, dI) vwCl (wR 157 ad (EX cs ad) mu) t.heap; rw [ht]; exact hP)⟩, hS.F ht⟩) hS.2.2 dX4_faultInPath_36
  · have c_2 : 12 ≤ y1.toInt := il_nlt c_2
    refine lv_iload_n hx hb dX4_faultInPath_9 rfl (lv_at hl 2 rfl) ?_
    exact W.iret (v := vi) hx hb hr (fun t ht hW => ⟨⟨vi, mu, rfl, ⟨ok, trivial, trivial⟩, by first | (subst ht; exact hP) | (rw [ht]; exact hP) | (show va_P (dC, dI) vwCl (wR 157 ad (EX cs ad) mu) t.heap; rw [ht]; exact hP)⟩, hS.F ht⟩) hS.2.2 dX4_faultInPath_10
set_option maxHeartbeats 4000000 in
set_option maxRecDepth 100000 in
/-- sx_faultIn -/
theorem sx_faultIn (l : Launch) (dC : Nat → ClassId) (dI : Nat → Nat → Nat) (cs : Nat → ClassId) (ad : Nat → Nat) (mu : Nat → Nat → Int32) (ok : okR loX hiX mu) (H : Heap) (hP : va_P (dC, dI) vwCl (wR 157 ad (EX cs ad) mu) H) (hD0 : va_D (fun _ => True) (wR 157 ad (EX cs ad) mu)) (tt : Nat) (kx : Nat) (h1kx : 14 ≤ kx) (h2kx : kx < 18) : Met l yX4_faultIn (wU yX4_faultIn cX4_faultIn 4 (some .int)) ({ frames := 2, cells := 0, slots := 0, locals := 46 }) (va_Pc [.ref (ad 31), .ref (ad kx)] (sy_P (dC, dI) vwCl (tyW cs) (va_A (wR 157 ad (EX cs ad) mu) H.size) tt H)) (va_Qi (fun (z : Int32) (xi : Nat → Nat → Int32) => okR loX hiX xi ∧ (True) ∧ True) (fun xi t => va_P (dC, dI) vwCl (wR 157 ad (EX cs ad) xi) t.heap) (va_A (wR 157 ad (EX cs ad) mu) H.size)) 0 0 (va_A (wR 157 ad (EX cs ad) mu) H.size) := by
  refine Met.ofW (cc := cX4_faultIn) (maxL := 4) (ret := (some .int)) (by decide) rfl ?_
  intro p e s m args below meth c s₁ B hml hv
  obtain ⟨rfl, hh, hK, hz, hks⟩ := hv
  have hx := B.exec
  have hb := B.bytes
  have hr := B.returns
  have hts := atoms_spec (ws := (wU yX4_faultIn cX4_faultIn 4 (some .int))) B.pre
  have hown : s.vm.findClass RX4 = some m.cls := findClass_of_methodNamed B.named
  have hlocks := B.notSynchronized
  subst hh
  have hD := hD0.self (sz := s.heap.size)
  have hA : ∀ q : Nat, s.heap.size ≤ q → (va_A (wR 157 ad (EX cs ad) mu) s.heap.size) q := fun q h => Or.inr h
  have hS : va_S (va_A (wR 157 ad (EX cs ad) mu) s.heap.size) s.heap s.heap [] := va_S.rf
  have hl := lv_entry ([.ref (ad 31), .ref (ad kx)]) (n := 4) (Nat.le_of_ble_eq_true rfl)
  rw [lg_entry_eq]
  generalize (lg_sl ([.ref (ad 31), .ref (ad kx)]) ++ List.replicate (4 - (lg_sl ([.ref (ad 31), .ref (ad kx)])).length) Slot.unset).toArray = ls at hl ⊢
  have hl : lv_has ls 4 [(0, .ref (ad 31)), (1, .ref (ad kx))] := hl
  refine lv_aload_n hx hb dX4_faultIn_0 rfl (lv_at hl 0 rfl) ?_
  refine lv_iconst (v := 0) hx hb dX4_faultIn_1 (by decide) ?_
  refine va_put (D := (dC, dI)) (ci := 4) (v := .int 0) (ty := .int) (C := RX4) (T := TX4) (N := 6) hx hb hts inG4 tyX4 tyX4_ok nmX4 hown hK hP (wR_D mu hD) hS 31 (gX_31 cs ad mu) rfl 4 (by decide) (hts _ (List.mem_cons_of_mem _ mw_1_195)) (fun _ h9 => h9) rfl (by decide +kernel) rfl rfl (Nat.le_of_ble_eq_true rfl) dX4_faultIn_2 (fun H locs hP _ hS => ?_)
  simp only [List.set_cons_succ, List.set_cons_zero] at hP
  refine wr_gen (upd (mu 31) 4 0) hP ((hX_31_4 cs ad _ _)) (fun nu1 hn1 hP => ?_)
  have ok := tX_31_4 ok hn1 (by have h9 : (0 : Int32).toInt = 0 := rfl; exact ⟨by omega, by omega⟩)
  have ez2 : 0 = nu1 31 4 := up_v hn1
  refine lv_aload_n hx hb dX4_faultIn_5 rfl (lv_at hl 0 rfl) ?_
  refine lv_iconst (v := 0) hx hb dX4_faultIn_6 (by decide) ?_
  refine va_put (D := (dC, dI)) (ci := 4) (v := .int 0) (ty := .int) (C := RX4) (T := TX4) (N := 6) hx hb hts inG4 tyX4 tyX4_ok nmX4 hown hK hP (wR_D nu1 hD) hS 31 (gX_31 cs ad nu1) rfl 5 (by decide) (hts _ (List.mem_cons_of_mem _ mw_1_196)) (fun _ h9 => h9) rfl (by decide +kernel) rfl rfl (Nat.le_of_ble_eq_true rfl) dX4_faultIn_7 (fun H locs hP _ hS => ?_)
  simp only [List.set_cons_succ, List.set_cons_zero] at hP
  refine wr_gen (upd (nu1 31) 5 0) hP ((hX_31_5 cs ad _ _)) (fun nu3 hn3 hP => ?_)
  have ok := tX_31_5 ok hn3 (by have h9 : (0 : Int32).toInt = 0 := rfl; exact ⟨by omega, by omega⟩)
  have ez4 : 0 = nu3 31 4 := ez2.trans (up_f hn3 (by decide)).symm
  have ez5 : 0 = nu3 31 5 := up_v hn3
  refine lv_iconst (v := 0) hx hb dX4_faultIn_10 (by decide) ?_
  refine lv_istore_n (lv' := [(2, .int 0), (0, .ref (ad 31)), (1, .ref (ad kx))]) hx hb dX4_faultIn_11 rfl hl (by decide) rfl (fun ls hl => ?_)
  have loop12 : ∀ (n12 : Nat) (v2_12 : Int32) (nu12_ : Nat → Nat → Int32) (H : Heap) (locs : List Loc) (ls : Array Slot), (82 + 1 - v2_12.toInt).toNat < n12 → (0 ≤ v2_12.toInt ∧ v2_12.toInt ≤ 82) → okR loX hiX nu12_ → va_P (dC, dI) vwCl (wR 157 ad (EX cs ad) nu12_) H → va_S (va_A (wR 157 ad (EX cs ad) mu) s.heap.size) s.heap H locs → lv_has ls 4 [(2, .int v2_12), (0, .ref (ad 31)), (1, .ref (ad kx))] → W p l e (headSpec (wU yX4_faultIn cX4_faultIn 4 (some .int)) ({ frames := 2, cells := 0, slots := 0, locals := 46 })).room s m ([.ref (ad 31), .ref (ad kx)] : List Value).toArray below meth c H locs 0 0 (MQ below (va_Qi (fun (z : Int32) (xi : Nat → Nat → Int32) => okR loX hiX xi ∧ (True) ∧ True) (fun xi t => va_P (dC, dI) vwCl (wR 157 ad (EX cs ad) xi) t.heap) (va_A (wR 157 ad (EX cs ad) mu) s.heap.size)) ([.ref (ad 31), .ref (ad kx)] : List Value).toArray s 0 0 (va_A (wR 157 ad (EX cs ad) mu) s.heap.size)) (F0 m 12 ls []) := by
    intro n12
    induction n12 with
    | zero => intro v2_12 nu12_ H locs ls hm; exact absurd hm (Nat.not_lt_zero _)
    | succ n12 ih12 =>
      intro v2_12 nu12_ H locs ls hm h_v2_12 ok hP hS hl
      refine lv_iload_n hx hb dX4_faultIn_12 rfl (lv_at hl 0 rfl) ?_
      refine lv_aload_n hx hb dX4_faultIn_13 rfl (lv_at hl 2 rfl) ?_
      refine va_get (D := (dC, dI)) (ci := 9) (v := .int (nu12_ kx 1)) (C := RX9) (T := TX9) (N := 2) hx hb hts inG9 hown hK hP kx (gX_text cs ad nu12_ kx h1kx h2kx) rfl 1 (by decide) (hts _ (List.mem_cons_of_mem _ mw_2_149)) (fun _ h9 => h9) rfl dX4_faultIn_14 ?_
      refine lv_topi (fun y6 ey6 => ?_)
      have by6 : y6.toInt = (nu12_ kx 1).toInt := congrArg Int32.toInt ey6
      have gy6 : -1 ≤ y6.toInt ∧ y6.toInt ≤ 80 := by rw [ey6]; exact rX_text_1 ok kx h1kx h2kx
      refine lv_icmp_ge (tgt := 78) hx hb dX4_faultIn_17 (by decide) (fun c_7 => ?_) (fun c_7 => ?_)
      · have c_7 : y6.toInt ≤ v2_12.toInt := il_le c_7
        refine lv_bipush (v := (-9)) hx hb dX4_faultIn_78 (by decide) ?_
        exact W.iret (v := (-9)) hx hb hr (fun t ht hW => ⟨⟨(-9), nu12_, rfl, ⟨ok, trivial, trivial⟩, by first | (subst ht; exact hP) | (rw [ht]; exact hP) | (show va_P (dC, dI) vwCl (wR 157 ad (EX cs ad) nu12_) t.heap; rw [ht]; exact hP)⟩, hS.F ht⟩) hS.2.2 dX4_faultIn_80
      · have c_7 : v2_12.toInt < y6.toInt := il_nle c_7
        refine lv_aload_n hx hb dX4_faultIn_20 rfl (lv_at hl 2 rfl) ?_
        have hk8 : 27 ≤ kx + 13 ∧ kx + 13 < 31 := add_in 13 h1kx h2kx
        refine va_get (D := (dC, dI)) (ci := 9) (v := .ref (ad (kx + 13))) (C := RX9) (T := TX9) (N := 2) hx hb hts inG9 hown hK hP kx (gX_text cs ad nu12_ kx h1kx h2kx) rfl 0 (by decide) (hts _ (List.mem_cons_of_mem _ mw_2_146)) (fun _ h9 => h9) rfl dX4_faultIn_21 ?_
        refine lv_iload_n hx hb dX4_faultIn_24 rfl (lv_at hl 0 rfl) ?_
        refine va_bald hx hb hK hP (kx + 13) 1 (gX_bytes cs ad nu12_ (kx + 13) hk8.1 hk8.2) rfl (show vp_in v2_12 80 from vi_of (by omega) (by omega)) dX4_faultIn_25 ?_
        refine lv_topi (fun y9 ey9 => ?_)
        have by9 : y9.toInt = (nu12_ (kx + 13) v2_12.toNatClampNeg).toInt := congrArg Int32.toInt ey9
        have gy9 : -128 ≤ y9.toInt ∧ y9.toInt ≤ 127 := by rw [ey9]; exact rX_bytes_s ok (kx + 13) hk8.1 hk8.2 v2_12.toNatClampNeg
        refine lv_bipush (v := 32) hx hb dX4_faultIn_26 (by decide) ?_
        refine lv_icmp_ne (tgt := 34) hx hb dX4_faultIn_28 (by decide) (fun c_10 => ?_) (fun c_10 => ?_)
        · have c_10 : ¬ y9.toInt = 32 := il_ne c_10
          refine lv_aload_n hx hb dX4_faultIn_34 rfl (lv_at hl 2 rfl) ?_
          have hk11 : 27 ≤ kx + 13 ∧ kx + 13 < 31 := add_in 13 h1kx h2kx
          refine va_get (D := (dC, dI)) (ci := 9) (v := .ref (ad (kx + 13))) (C := RX9) (T := TX9) (N := 2) hx hb hts inG9 hown hK hP kx (gX_text cs ad nu12_ kx h1kx h2kx) rfl 0 (by decide) (hts _ (List.mem_cons_of_mem _ mw_2_146)) (fun _ h9 => h9) rfl dX4_faultIn_35 ?_
          refine lv_iload_n hx hb dX4_faultIn_38 rfl (lv_at hl 0 rfl) ?_
          refine va_bald hx hb hK hP (kx + 13) 1 (gX_bytes cs ad nu12_ (kx + 13) hk11.1 hk11.2) rfl (show vp_in v2_12 80 from vi_of (by omega) (by omega)) dX4_faultIn_39 ?_
          refine lq_i y9 ey9.symm ?_
          refine lv_bipush (v := 119) hx hb dX4_faultIn_40 (by decide) ?_
          refine lv_icmp_ne (tgt := 54) hx hb dX4_faultIn_42 (by decide) (fun c_12 => ?_) (fun c_12 => ?_)
          · have c_12 : ¬ y9.toInt = 119 := il_ne c_12
            refine lv_aload_n hx hb dX4_faultIn_54 rfl (lv_at hl 1 rfl) ?_
            refine lv_aload_n hx hb dX4_faultIn_55 rfl (lv_at hl 2 rfl) ?_
            refine lv_iload_n hx hb dX4_faultIn_56 rfl (lv_at hl 0 rfl) ?_
            have hFc := fr_all (wR_D nu12_ hD) hS hA
            refine va_calli (va_runV (As := [.ref (ad kx), .int v2_12]) (rest := []) ⟨hx, hb, hml, hown, hts⟩ (sx_faultInBearer l dC dI cs ad nu12_ ok H hP ((wR_D nu12_ hD).weaken (fun _ _ _ _ => trivial)) tt kx h1kx h2kx v2_12 (by omega)) (cwV 2 hts (wU_V mw_3_54 mw_3_51 mw_3_53 mw_0_5 mw_1_5) rfl rfl rfl (by decide +kernel) ⟨Nat.le_of_ble_eq_true rfl, Nat.le_of_ble_eq_true rfl⟩) ⟨sy_c, va_recv hK hP (ci := 4) (q0 := 31) rfl (gX_31 cs ad nu12_), sy_m hK hz (hks.on hS hFc)⟩ rfl rfl hl.1 rfl (lv_room (Nat.le_of_ble_eq_true rfl)) dX4_faultIn_57 ⟨Nat.zero_le _, Nat.zero_le _⟩) hS (fun q _ h => hFc q h) hFc (fun r13 xi13 t H13 locs ht hvm hw13 hB hz1 hk1 hS => ?_)
            have hP : va_P (dC, dI) vwCl (wR 157 ad (EX cs ad) xi13) H13 := by rw [← ht]; exact hB
            obtain ⟨ok, hw13, _⟩ := hw13
            refine lv_istore_n (lv' := [(3, .int r13), (2, .int v2_12), (0, .ref (ad 31)), (1, .ref (ad kx))]) hx hb dX4_faultIn_60 rfl hl (by decide) rfl (fun ls hl => ?_)
            refine lv_iload_n hx hb dX4_faultIn_61 rfl (lv_at hl 0 rfl) ?_
            refine lv_bipush (v := (-9)) hx hb dX4_faultIn_62 (by decide) ?_
            refine lv_icmp_eq (tgt := 69) hx hb dX4_faultIn_64 (by decide) (fun c_14 => ?_) (fun c_14 => ?_)
            · have c_14 : r13.toInt = -9 := il_eq c_14
              refine lv_iinc (v := (v2_12 + 2)) (lv' := [(2, .int (v2_12 + 2)), (3, .int r13), (0, .ref (ad 31)), (1, .ref (ad kx))]) hx hb dX4_faultIn_69 hl (k := 1) rfl rfl (by decide) rfl (fun ls hl => ?_)
              refine loc_gen (P := fun w9 => lv_has ls 4 [(2, .int w9), (3, .int r13), (0, .ref (ad 31)), (1, .ref (ad kx))]) (v2_12 + 2) hl (fun w15 hw15 hl => ?_)
              have hl : lv_has ls 4 [(2, .int w15), (3, .int r13), (0, .ref (ad 31)), (1, .ref (ad kx))] := hl
              have aw15 : w15.toInt = v2_12.toInt + 2 := by rw [← hw15]; exact tI_add (rfl : v2_12.toInt = _) (rfl : (2 : Int32).toInt = 2) (by omega) (by omega)
              refine lv_iinc (v := (w15 + 1)) (lv' := [(2, .int (w15 + 1)), (3, .int r13), (0, .ref (ad 31)), (1, .ref (ad kx))]) hx hb dX4_faultIn_72 hl (k := 0) rfl rfl (by decide) rfl (fun ls hl => ?_)
              refine loc_gen (P := fun w9 => lv_has ls 4 [(2, .int w9), (3, .int r13), (0, .ref (ad 31)), (1, .ref (ad kx))]) (w15 + 1) hl (fun w16 hw16 hl => ?_)
              have hl : lv_has ls 4 [(2, .int w16), (3, .int r13), (0, .ref (ad 31)), (1, .ref (ad kx))] := hl
              have aw16 : w16.toInt = w15.toInt + 1 := by rw [← hw16]; exact tI_add (rfl : w15.toInt = _) (rfl : (1 : Int32).toInt = 1) (by omega) (by omega)
              refine lv_goto (tgt := 12) hx hb dX4_faultIn_75 (by decide) ?_
              exact ih12 (w16) xi13 _ _ _ (by omega) (by exact ⟨by omega, by omega⟩)  ok hP   hS (lv_sub hl [0, 2, 3] rfl)
            · have c_14 : ¬ r13.toInt = -9 := il_ne c_14
              refine lv_iload_n hx hb dX4_faultIn_67 rfl (lv_at hl 0 rfl) ?_
              exact W.iret (v := r13) hx hb hr (fun t ht hW => ⟨⟨r13, xi13, rfl, ⟨ok, trivial, trivial⟩, by first | (subst ht; exact hP) | (rw [ht]; exact hP) | (show va_P (dC, dI) vwCl (wR 157 ad (EX cs ad) xi13) t.heap; rw [ht]; exact hP)⟩, hS.F ht⟩) hS.2.2 dX4_faultIn_68
          · have c_12 : y9.toInt = 119 := il_eq c_12
            refine lv_aload_n hx hb dX4_faultIn_45 rfl (lv_at hl 1 rfl) ?_
            refine lv_aload_n hx hb dX4_faultIn_46 rfl (lv_at hl 2 rfl) ?_
            refine lv_iload_n hx hb dX4_faultIn_47 rfl (lv_at hl 0 rfl) ?_
            have hFc := fr_all (wR_D nu12_ hD) hS hA
            refine va_calli (va_runV (As := [.ref (ad kx), .int v2_12]) (rest := []) ⟨hx, hb, hml, hown, hts⟩ (sx_faultInPath l dC dI cs ad nu12_ ok H hP ((wR_D nu12_ hD).weaken (fun _ _ _ _ => trivial)) kx h1kx h2kx v2_12 (by omega)) (cwV 2 hts (wU_V mw_3_46 mw_3_43 mw_3_45 mw_0_4 mw_1_5) rfl rfl rfl (by decide +kernel) ⟨Nat.le_of_ble_eq_true rfl, Nat.le_of_ble_eq_true rfl⟩) ⟨sz_c, va_recv hK hP (ci := 4) (q0 := 31) rfl (gX_31 cs ad nu12_), sz_m hK hz⟩ rfl rfl hl.1 rfl (lv_room (Nat.le_of_ble_eq_true rfl)) dX4_faultIn_48 ⟨Nat.zero_le _, Nat.zero_le _⟩) hS (fun q _ h => hFc q h) hFc (fun r17 xi17 t H17 locs ht hvm hw17 hB hz1 hk1 hS => ?_)
            have hP : va_P (dC, dI) vwCl (wR 157 ad (EX cs ad) xi17) H17 := by rw [← ht]; exact hB
            obtain ⟨ok, hw17, _⟩ := hw17
            refine lv_goto (tgt := 60) hx hb dX4_faultIn_51 (by decide) ?_
            refine lv_istore_n (lv' := [(3, .int r17), (2, .int v2_12), (0, .ref (ad 31)), (1, .ref (ad kx))]) hx hb dX4_faultIn_60 rfl hl (by decide) rfl (fun ls hl => ?_)
            refine lv_iload_n hx hb dX4_faultIn_61 rfl (lv_at hl 0 rfl) ?_
            refine lv_bipush (v := (-9)) hx hb dX4_faultIn_62 (by decide) ?_
            refine lv_icmp_eq (tgt := 69) hx hb dX4_faultIn_64 (by decide) (fun c_18 => ?_) (fun c_18 => ?_)
            · have c_18 : r17.toInt = -9 := il_eq c_18
              refine lv_iinc (v := (v2_12 + 2)) (lv' := [(2, .int (v2_12 + 2)), (3, .int r17), (0, .ref (ad 31)), (1, .ref (ad kx))]) hx hb dX4_faultIn_69 hl (k := 1) rfl rfl (by decide) rfl (fun ls hl => ?_)
              refine loc_gen (P := fun w9 => lv_has ls 4 [(2, .int w9), (3, .int r17), (0, .ref (ad 31)), (1, .ref (ad kx))]) (v2_12 + 2) hl (fun w19 hw19 hl => ?_)
              have hl : lv_has ls 4 [(2, .int w19), (3, .int r17), (0, .ref (ad 31)), (1, .ref (ad kx))] := hl
              have aw19 : w19.toInt = v2_12.toInt + 2 := by rw [← hw19]; exact tI_add (rfl : v2_12.toInt = _) (rfl : (2 : Int32).toInt = 2) (by omega) (by omega)
              refine lv_iinc (v := (w19 + 1)) (lv' := [(2, .int (w19 + 1)), (3, .int r17), (0, .ref (ad 31)), (1, .ref (ad kx))]) hx hb dX4_faultIn_72 hl (k := 0) rfl rfl (by decide) rfl (fun ls hl => ?_)
              refine loc_gen (P := fun w9 => lv_has ls 4 [(2, .int w9), (3, .int r17), (0, .ref (ad 31)), (1, .ref (ad kx))]) (w19 + 1) hl (fun w20 hw20 hl => ?_)
              have hl : lv_has ls 4 [(2, .int w20), (3, .int r17), (0, .ref (ad 31)), (1, .ref (ad kx))] := hl
              have aw20 : w20.toInt = w19.toInt + 1 := by rw [← hw20]; exact tI_add (rfl : w19.toInt = _) (rfl : (1 : Int32).toInt = 1) (by omega) (by omega)
              refine lv_goto (tgt := 12) hx hb dX4_faultIn_75 (by decide) ?_
              exact ih12 (w20) xi17 _ _ _ (by omega) (by exact ⟨by omega, by omega⟩)  ok hP   hS (lv_sub hl [0, 2, 3] rfl)
            · have c_18 : ¬ r17.toInt = -9 := il_ne c_18
              refine lv_iload_n hx hb dX4_faultIn_67 rfl (lv_at hl 0 rfl) ?_
              exact W.iret (v := r17) hx hb hr (fun t ht hW => ⟨⟨r17, xi17, rfl, ⟨ok, trivial, trivial⟩, by first | (subst ht; exact hP) | (rw [ht]; exact hP) | (show va_P (dC, dI) vwCl (wR 157 ad (EX cs ad) xi17) t.heap; rw [ht]; exact hP)⟩, hS.F ht⟩) hS.2.2 dX4_faultIn_68
        · have c_10 : y9.toInt = 32 := il_eq c_10
          refine lv_goto (tgt := 72) hx hb dX4_faultIn_31 (by decide) ?_
          refine lv_iinc (v := (v2_12 + 1)) (lv' := [(2, .int (v2_12 + 1)), (0, .ref (ad 31)), (1, .ref (ad kx))]) hx hb dX4_faultIn_72 hl (k := 0) rfl rfl (by decide) rfl (fun ls hl => ?_)
          refine loc_gen (P := fun w9 => lv_has ls 4 [(2, .int w9), (0, .ref (ad 31)), (1, .ref (ad kx))]) (v2_12 + 1) hl (fun w21 hw21 hl => ?_)
          have hl : lv_has ls 4 [(2, .int w21), (0, .ref (ad 31)), (1, .ref (ad kx))] := hl
          have aw21 : w21.toInt = v2_12.toInt + 1 := by rw [← hw21]; exact tI_add (rfl : v2_12.toInt = _) (rfl : (1 : Int32).toInt = 1) (by omega) (by omega)
          refine lv_goto (tgt := 12) hx hb dX4_faultIn_75 (by decide) ?_
          exact ih12 (w21) nu12_ _ _ _ (by omega) (by exact ⟨by omega, by omega⟩)  ok hP   hS (lv_sub hl [0, 1, 2] rfl)
  exact loop12 ((82 + 1 - (0 : Int32).toInt).toNat + 1) (0) nu3 _ _ _ (Nat.lt_succ_self _) (by have h80 : (0 : Int32).toInt = 0 := rfl; exact ⟨by omega, by omega⟩)  ok hP   hS hl
