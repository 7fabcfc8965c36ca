set_option maxHeartbeats 4000000 in
set_option maxRecDepth 100000 in
/-- sm_routeOn7 -/
theorem sm_routeOn7 (l : Launch) (dC : Nat → ClassId) (dI : Nat → Nat → Nat) (cs : Nat → ClassId) (ad : Nat → Nat) (mu : Nat → Nat → Int32) (ok : okR loM hiM mu) (H : Heap) (hP : va_P (dC, dI) vwCl (wR 21 ad (EM cs ad) mu) H) (hD0 : va_D (fun _ => True) (wR 21 ad (EM cs ad) mu)) (vh : Int32) (vp : Int32) (hin0 : h7 7 vh) (hin1 : ((mu 0 39).toInt = -9 ∨ (0 ≤ (mu 0 39).toInt ∧ (mu 0 39).toInt ≤ 3)) ∧ ((mu 0 33).toInt = 0 ∨ (mu 0 35).toInt ≤ 7)) : Met l yX12_routeOn (wU yX12_routeOn cX12_routeOn 8 none) ({ frames := 2, cells := 0, slots := 0, locals := 46 }) (va_Pc [.ref (ad 0), .int 7, .int vh, .int vp] (sz_P (dC, dI) vwCl (tyM cs) H)) (va_Qv (fun (xi : Nat → Nat → Int32) => okR loM hiM xi ∧ (((xi 0 39).toInt = -9 ∨ (0 ≤ (xi 0 39).toInt ∧ (xi 0 39).toInt ≤ 3)) ∧ ((xi 0 33).toInt = 0 ∨ (xi 0 35).toInt ≤ 7)) ∧ True) (fun xi t => va_P (dC, dI) vwCl (wR 21 ad (EM cs ad) xi) t.heap) (va_A (wR 21 ad (EM cs ad) mu) H.size)) 0 0 (va_A (wR 21 ad (EM cs ad) mu) H.size) := by
  refine Met.ofW (cc := cX12_routeOn) (maxL := 8) (ret := none) (by decide) rfl ?_
  intro p e s m args below meth c s₁ B hml hv
  obtain ⟨rfl, hh, hK, hz⟩ := hv
  have hx := B.exec
  have hb := B.bytes
  have hr := B.returns
  have hts := atoms_spec (ws := (wU yX12_routeOn cX12_routeOn 8 none)) B.pre
  have hown : s.vm.findClass RX12 = some m.cls := findClass_of_methodNamed B.named
  have hlocks := B.notSynchronized
  subst hh
  have hD := hD0.self (sz := s.heap.size)
  have hA : ∀ q : Nat, s.heap.size ≤ q → (va_A (wR 21 ad (EM cs ad) mu) s.heap.size) q := fun q h => Or.inr h
  have hS : va_S (va_A (wR 21 ad (EM cs ad) mu) s.heap.size) s.heap s.heap [] := va_S.rf
  have hl := lv_entry ([.ref (ad 0), .int 7, .int vh, .int vp]) (n := 8) (Nat.le_of_ble_eq_true rfl)
  rw [lg_entry_eq]
  generalize (lg_sl ([.ref (ad 0), .int 7, .int vh, .int vp]) ++ List.replicate (8 - (lg_sl ([.ref (ad 0), .int 7, .int vh, .int vp])).length) Slot.unset).toArray = ls at hl ⊢
  have hl : lv_has ls 8 [(0, .ref (ad 0)), (1, .int 7), (2, .int vh), (3, .int vp)] := hl
  obtain ⟨y1, ey1⟩ : ∃ z : Int32, z = mu 0 39 := ⟨_, rfl⟩
  have by1 : y1.toInt = (mu 0 39).toInt := congrArg Int32.toInt ey1
  have gy1 : -9 ≤ y1.toInt ∧ y1.toInt ≤ 3 := by rw [ey1]; exact rM_0_39 ok
  obtain ⟨y2, ey2⟩ : ∃ z : Int32, z = mu 0 33 := ⟨_, rfl⟩
  have by2 : y2.toInt = (mu 0 33).toInt := congrArg Int32.toInt ey2
  obtain ⟨y3, ey3⟩ : ∃ z : Int32, z = mu 0 35 := ⟨_, rfl⟩
  have by3 : y3.toInt = (mu 0 35).toInt := congrArg Int32.toInt ey3
  refine lv_aload_n hx hb dX12_routeOn_0 rfl (lv_at hl 0 rfl) ?_
  refine va_get (D := (dC, dI)) (ci := 12) (v := .ref (ad 16)) (C := RX12) (T := TX12) (N := 46) hx hb hts inG12 hown hK hP 0 (gM_0 cs ad mu) rfl 26 (by decide) (hts _ (List.mem_cons_of_mem _ mw_5_67)) (fun _ h9 => h9) rfl dX12_routeOn_1 ?_
  refine lv_iload_n hx hb dX12_routeOn_4 rfl (lv_at hl 1 rfl) ?_
  refine lv_iconst (v := 1) hx hb dX12_routeOn_5 (by decide) ?_
  refine lv_isub hx hb dX12_routeOn_6 ?_
  refine lq_i 6 (by decide) ?_
  refine va_iald hx hb hK hP 16 0 (gM_16 cs ad mu) rfl (show vp_in 6 7 from (by unfold vp_in; decide)) dX12_routeOn_7 ?_
  refine lv_topi (fun y4 ey4 => ?_)
  have by4 : y4.toInt = (mu 16 (6 : Int32).toNatClampNeg).toInt := congrArg Int32.toInt ey4
  have gy4 : 0 ≤ y4.toInt ∧ y4.toInt ≤ 6 := by rw [ey4]; exact rM_16_s ok (6 : Int32).toNatClampNeg
  refine lv_istore (lv' := [(4, .int y4), (0, .ref (ad 0)), (1, .int 7), (2, .int vh), (3, .int vp)]) hx hb dX12_routeOn_8 hl (by decide) rfl (fun ls hl => ?_)
  refine lv_aload_n hx hb dX12_routeOn_10 rfl (lv_at hl 1 rfl) ?_
  refine lv_iload hx hb dX12_routeOn_11 (lv_at hl 0 rfl) ?_
  refine lv_iload_n hx hb dX12_routeOn_13 rfl (lv_at hl 4 rfl) ?_
  refine cr_i (va_runV (As := [.int y4, .int vp]) (rest := []) ⟨hx, hb, hml, hown, hts⟩ (sm_asksOf l dC dI cs ad mu ok s.heap hP y4 vp (by omega)) (cwV 2 hts (wU_V mw_6_74 mw_6_71 mw_6_73 mw_0_42 mw_1_13) rfl rfl rfl (by decide +kernel) ⟨Nat.le_of_ble_eq_true rfl, Nat.le_of_ble_eq_true rfl⟩) ⟨sz_c, va_recv hK hP (ci := 12) (q0 := 0) rfl (gM_0 cs ad mu), sz_m hK hz⟩ rfl rfl hl.1 rfl (lv_room (Nat.le_of_ble_eq_true rfl)) dX12_routeOn_14 ⟨Nat.zero_le _, Nat.zero_le _⟩) hS (fun r5 hw5 locs hS => ?_)
  refine lv_istore (lv' := [(5, .int r5), (4, .int y4), (0, .ref (ad 0)), (1, .int 7), (2, .int vh), (3, .int vp)]) hx hb dX12_routeOn_17 hl (by decide) rfl (fun ls hl => ?_)
  refine lv_aload_n hx hb dX12_routeOn_19 rfl (lv_at hl 2 rfl) ?_
  refine lv_iload hx hb dX12_routeOn_20 (lv_at hl 1 rfl) ?_
  refine cr_i (va_runV (As := [.int y4]) (rest := []) ⟨hx, hb, hml, hown, hts⟩ (sm_besideOf l dC dI cs ad mu ok s.heap hP y4) (cwV 1 hts (wU_V mw_6_56 mw_6_53 mw_6_55 mw_0_40 mw_1_13) rfl rfl rfl (by decide +kernel) ⟨Nat.le_of_ble_eq_true rfl, Nat.le_of_ble_eq_true rfl⟩) ⟨sz_c, va_recv hK hP (ci := 12) (q0 := 0) rfl (gM_0 cs ad mu), sz_m hK hz⟩ rfl rfl hl.1 rfl (lv_room (Nat.le_of_ble_eq_true rfl)) dX12_routeOn_22 ⟨Nat.zero_le _, Nat.zero_le _⟩) hS (fun r6 hw6 locs hS => ?_)
  refine lv_iload_n hx hb dX12_routeOn_25 rfl (lv_at hl 4 rfl) ?_
  refine lv_iconst (v := (-1)) hx hb dX12_routeOn_26 (by decide) ?_
  refine lv_ixor hx hb dX12_routeOn_27 ?_
  refine lv_topi (fun t7 et7 => ?_)
  refine lv_iand hx hb dX12_routeOn_28 ?_
  refine lv_topi (fun t8 et8 => ?_)
  refine lv_istore (lv' := [(6, .int t8), (5, .int r5), (4, .int y4), (0, .ref (ad 0)), (1, .int 7), (2, .int vh), (3, .int vp)]) hx hb dX12_routeOn_29 hl (by decide) rfl (fun ls hl => ?_)
  refine lv_iconst (v := 0) hx hb dX12_routeOn_31 (by decide) ?_
  refine lv_istore (lv' := [(7, .int 0), (6, .int t8), (5, .int r5), (4, .int y4), (0, .ref (ad 0)), (1, .int 7), (2, .int vh), (3, .int vp)]) hx hb dX12_routeOn_32 hl (by decide) rfl (fun ls hl => ?_)
  have loop34 : ∀ (n34 : Nat) (v7_34 : Int32) (nu34_ : Nat → Nat → Int32) (H : Heap) (locs : List Loc) (ls : Array Slot), (7 + 1 - v7_34.toInt).toNat < n34 → (0 ≤ v7_34.toInt ∧ v7_34.toInt ≤ 7) → (((nu34_ 0 39).toInt = -9 ∨ (0 ≤ (nu34_ 0 39).toInt ∧ (nu34_ 0 39).toInt ≤ 3)) ∧ ((nu34_ 0 33).toInt = 0 ∨ (nu34_ 0 35).toInt ≤ 7)) → okR loM hiM nu34_ → va_P (dC, dI) vwCl (wR 21 ad (EM cs ad) nu34_) H → va_S (va_A (wR 21 ad (EM cs ad) mu) s.heap.size) s.heap H locs → lv_has ls 8 [(7, .int v7_34), (6, .int t8), (5, .int r5), (4, .int y4), (0, .ref (ad 0)), (1, .int 7), (2, .int vh), (3, .int vp)] → W p l e (headSpec (wU yX12_routeOn cX12_routeOn 8 none) ({ frames := 2, cells := 0, slots := 0, locals := 46 })).room s m ([.ref (ad 0), .int 7, .int vh, .int vp] : List Value).toArray below meth c H locs 0 0 (MQ below (va_Qv (fun (xi : Nat → Nat → Int32) => okR loM hiM xi ∧ (((xi 0 39).toInt = -9 ∨ (0 ≤ (xi 0 39).toInt ∧ (xi 0 39).toInt ≤ 3)) ∧ ((xi 0 33).toInt = 0 ∨ (xi 0 35).toInt ≤ 7)) ∧ True) (fun xi t => va_P (dC, dI) vwCl (wR 21 ad (EM cs ad) xi) t.heap) (va_A (wR 21 ad (EM cs ad) mu) s.heap.size)) ([.ref (ad 0), .int 7, .int vh, .int vp] : List Value).toArray s 0 0 (va_A (wR 21 ad (EM cs ad) mu) s.heap.size)) (F0 m 34 ls []) := by
    intro n34
    induction n34 with
    | zero => intro v7_34 nu34_ H locs ls hm; exact absurd hm (Nat.not_lt_zero _)
    | succ n34 ih34 =>
      intro v7_34 nu34_ H locs ls hm h_v7_34 hi34_0 ok hP hS hl
      obtain ⟨y9, ey9⟩ : ∃ z : Int32, z = nu34_ 0 39 := ⟨_, rfl⟩
      have by9 : y9.toInt = (nu34_ 0 39).toInt := congrArg Int32.toInt ey9
      have gy9 : -9 ≤ y9.toInt ∧ y9.toInt ≤ 3 := by rw [ey9]; exact rM_0_39 ok
      obtain ⟨y10, ey10⟩ : ∃ z : Int32, z = nu34_ 0 33 := ⟨_, rfl⟩
      have by10 : y10.toInt = (nu34_ 0 33).toInt := congrArg Int32.toInt ey10
      obtain ⟨y11, ey11⟩ : ∃ z : Int32, z = nu34_ 0 35 := ⟨_, rfl⟩
      have by11 : y11.toInt = (nu34_ 0 35).toInt := congrArg Int32.toInt ey11
      refine lv_iload hx hb dX12_routeOn_34 (lv_at hl 0 rfl) ?_
      refine lv_aload_n hx hb dX12_routeOn_36 rfl (lv_at hl 4 rfl) ?_
      refine va_get (D := (dC, dI)) (ci := 12) (v := .int (nu34_ 0 8)) (C := RX12) (T := TX12) (N := 46) hx hb hts inG12 hown hK hP 0 (gM_0 cs ad nu34_) rfl 8 (by decide) (hts _ (List.mem_cons_of_mem _ mw_5_49)) (fun _ h9 => h9) rfl dX12_routeOn_37 ?_
      refine lv_topi (fun y12 ey12 => ?_)
      have by12 : y12.toInt = (nu34_ 0 8).toInt := congrArg Int32.toInt ey12
      have gy12 : 0 ≤ y12.toInt ∧ y12.toInt ≤ 7 := by rw [ey12]; exact rM_0_8 ok
      refine lv_icmp_ge (tgt := 145) hx hb dX12_routeOn_40 (by decide) (fun c_13 => ?_) (fun c_13 => ?_)
      · have c_13 : y12.toInt ≤ v7_34.toInt := il_le c_13
        exact W.vret hx hb hr (fun t ht hW => ⟨⟨nu34_, rfl, ⟨ok, (by have hb14 := congrArg Int32.toInt ey9; have hb15 := congrArg Int32.toInt ey10; have hb16 := congrArg Int32.toInt ey11; omega), trivial⟩, by first | (subst ht; exact hP) | (rw [ht]; exact hP) | (show va_P (dC, dI) vwCl (wR 21 ad (EM cs ad) nu34_) t.heap; rw [ht]; exact hP)⟩, hS.F ht⟩) hS.2.2 dX12_routeOn_145
      · have c_13 : v7_34.toInt < y12.toInt := il_nle c_13
        refine lv_iload hx hb dX12_routeOn_43 (lv_at hl 1 rfl) ?_
        refine lv_iload hx hb dX12_routeOn_45 (lv_at hl 0 rfl) ?_
        refine cr_i (va_runS (As := [.int t8, .int v7_34]) (rest := []) ⟨hx, hb, hml, hown, hts⟩ (sm_has l dC dI (tyM cs) H t8 v7_34) (va_cwS 2 hts (wU_S mw_6_59 mw_6_57 mw_6_58 mw_1_13) rfl rfl rfl (by decide +kernel) ⟨Nat.le_of_ble_eq_true rfl, Nat.le_of_ble_eq_true rfl⟩) ⟨sz_c, sz_m hK hz⟩ rfl rfl hl.1 rfl (lv_room (Nat.le_of_ble_eq_true rfl)) dX12_routeOn_47 ⟨Nat.zero_le _, Nat.zero_le _⟩) hS (fun r17 hw17 locs hS => ?_)
        rcases hw17 with ⟨rfl, f17⟩ | ⟨rfl, f17⟩
        · have f17 : rb t8 v7_34 = 1 := f17
          refine lv_if_eq (tgt := 139) hx hb dX12_routeOn_50 (by decide) (fun c => absurd c (by decide)) (fun _ => ?_)
          exact absurd (h7_full hin0 (by rw [et8, et7]) (x := v7_34) (by omega) (by omega) f17) (by decide)
        · have f17 : ¬ rb t8 v7_34 = 1 := f17
          refine lv_if_eq (tgt := 139) hx hb dX12_routeOn_50 (by decide) (fun _ => ?_) (fun c => absurd (by decide) c)
          refine lv_iinc (v := (v7_34 + 1)) (lv' := [(7, .int (v7_34 + 1)), (6, .int t8), (5, .int r5), (4, .int y4), (0, .ref (ad 0)), (1, .int 7), (2, .int vh), (3, .int vp)]) hx hb dX12_routeOn_139 hl (k := 0) rfl rfl (by decide) rfl (fun ls hl => ?_)
          refine loc_gen (P := fun w9 => lv_has ls 8 [(7, .int w9), (6, .int t8), (5, .int r5), (4, .int y4), (0, .ref (ad 0)), (1, .int 7), (2, .int vh), (3, .int vp)]) (v7_34 + 1) hl (fun w18 hw18 hl => ?_)
          have hl : lv_has ls 8 [(7, .int w18), (6, .int t8), (5, .int r5), (4, .int y4), (0, .ref (ad 0)), (1, .int 7), (2, .int vh), (3, .int vp)] := hl
          have aw18 : w18.toInt = v7_34.toInt + 1 := by rw [← hw18]; exact tI_add (rfl : v7_34.toInt = _) (rfl : (1 : Int32).toInt = 1) (by omega) (by omega)
          refine lv_goto (tgt := 34) hx hb dX12_routeOn_142 (by decide) ?_
          exact ih34 (w18) nu34_ _ _ _ (by omega) (by exact ⟨by omega, by omega⟩) (by have hb19 := congrArg Int32.toInt ey9; have hb20 := congrArg Int32.toInt ey10; have hb21 := congrArg Int32.toInt ey11; omega) ok hP   hS (lv_sub hl [0, 1, 2, 3, 4, 5, 6, 7] rfl)
  exact loop34 ((7 + 1 - (0 : Int32).toInt).toNat + 1) (0) mu _ _ _ (Nat.lt_succ_self _) (by have h80 : (0 : Int32).toInt = 0 := rfl; exact ⟨by omega, by omega⟩) (by have h80 : (0 : Int32).toInt = 0 := rfl; have hb22 := congrArg Int32.toInt ey1; have hb23 := congrArg Int32.toInt ey2; have hb24 := congrArg Int32.toInt ey3; omega) ok hP   hS hl
set_option maxHeartbeats 4000000 in
set_option maxRecDepth 100000 in
/-- sm_routeOn6 -/
theorem sm_routeOn6 (l : Launch) (dC : Nat → ClassId) (dI : Nat → Nat → Nat) (cs : Nat → ClassId) (ad : Nat → Nat) (mu : Nat → Nat → Int32) (ok : okR loM hiM mu) (H : Heap) (hP : va_P (dC, dI) vwCl (wR 21 ad (EM cs ad) mu) H) (hD0 : va_D (fun _ => True) (wR 21 ad (EM cs ad) mu)) (vh : Int32) (vp : Int32) (hin0 : h7 6 vh) (hin1 : ((mu 0 39).toInt = -9 ∨ (0 ≤ (mu 0 39).toInt ∧ (mu 0 39).toInt ≤ 3)) ∧ ((mu 0 33).toInt = 0 ∨ (mu 0 35).toInt ≤ 7)) : Met l yX12_routeOn (wU yX12_routeOn cX12_routeOn 8 none) ({ frames := 3, cells := 0, slots := 0, locals := 73 }) (va_Pc [.ref (ad 0), .int 6, .int vh, .int vp] (sz_P (dC, dI) vwCl (tyM cs) H)) (va_Qv (fun (xi : Nat → Nat → Int32) => okR loM hiM xi ∧ (((xi 0 39).toInt = -9 ∨ (0 ≤ (xi 0 39).toInt ∧ (xi 0 39).toInt ≤ 3)) ∧ ((xi 0 33).toInt = 0 ∨ (xi 0 35).toInt ≤ 7)) ∧ True) (fun xi t => va_P (dC, dI) vwCl (wR 21 ad (EM cs ad) xi) t.heap) (va_A (wR 21 ad (EM cs ad) mu) H.size)) 0 0 (va_A (wR 21 ad (EM cs ad) mu) H.size) := by
  refine Met.ofW (cc := cX12_routeOn) (maxL := 8) (ret := none) (by decide) rfl ?_
  intro p e s m args below meth c s₁ B hml hv
  obtain ⟨rfl, hh, hK, hz⟩ := hv
  have hx := B.exec
  have hb := B.bytes
  have hr := B.returns
  have hts := atoms_spec (ws := (wU yX12_routeOn cX12_routeOn 8 none)) B.pre
  have hown : s.vm.findClass RX12 = some m.cls := findClass_of_methodNamed B.named
  have hlocks := B.notSynchronized
  subst hh
  have hD := hD0.self (sz := s.heap.size)
  have hA : ∀ q : Nat, s.heap.size ≤ q → (va_A (wR 21 ad (EM cs ad) mu) s.heap.size) q := fun q h => Or.inr h
  have hS : va_S (va_A (wR 21 ad (EM cs ad) mu) s.heap.size) s.heap s.heap [] := va_S.rf
  have hl := lv_entry ([.ref (ad 0), .int 6, .int vh, .int vp]) (n := 8) (Nat.le_of_ble_eq_true rfl)
  rw [lg_entry_eq]
  generalize (lg_sl ([.ref (ad 0), .int 6, .int vh, .int vp]) ++ List.replicate (8 - (lg_sl ([.ref (ad 0), .int 6, .int vh, .int vp])).length) Slot.unset).toArray = ls at hl ⊢
  have hl : lv_has ls 8 [(0, .ref (ad 0)), (1, .int 6), (2, .int vh), (3, .int vp)] := hl
  obtain ⟨y1, ey1⟩ : ∃ z : Int32, z = mu 0 39 := ⟨_, rfl⟩
  have by1 : y1.toInt = (mu 0 39).toInt := congrArg Int32.toInt ey1
  have gy1 : -9 ≤ y1.toInt ∧ y1.toInt ≤ 3 := by rw [ey1]; exact rM_0_39 ok
  obtain ⟨y2, ey2⟩ : ∃ z : Int32, z = mu 0 33 := ⟨_, rfl⟩
  have by2 : y2.toInt = (mu 0 33).toInt := congrArg Int32.toInt ey2
  obtain ⟨y3, ey3⟩ : ∃ z : Int32, z = mu 0 35 := ⟨_, rfl⟩
  have by3 : y3.toInt = (mu 0 35).toInt := congrArg Int32.toInt ey3
  refine lv_aload_n hx hb dX12_routeOn_0 rfl (lv_at hl 0 rfl) ?_
  refine va_get (D := (dC, dI)) (ci := 12) (v := .ref (ad 16)) (C := RX12) (T := TX12) (N := 46) hx hb hts inG12 hown hK hP 0 (gM_0 cs ad mu) rfl 26 (by decide) (hts _ (List.mem_cons_of_mem _ mw_5_67)) (fun _ h9 => h9) rfl dX12_routeOn_1 ?_
  refine lv_iload_n hx hb dX12_routeOn_4 rfl (lv_at hl 1 rfl) ?_
  refine lv_iconst (v := 1) hx hb dX12_routeOn_5 (by decide) ?_
  refine lv_isub hx hb dX12_routeOn_6 ?_
  refine lq_i 5 (by decide) ?_
  refine va_iald hx hb hK hP 16 0 (gM_16 cs ad mu) rfl (show vp_in 5 7 from (by unfold vp_in; decide)) dX12_routeOn_7 ?_
  refine lv_topi (fun y4 ey4 => ?_)
  have by4 : y4.toInt = (mu 16 (5 : Int32).toNatClampNeg).toInt := congrArg Int32.toInt ey4
  have gy4 : 0 ≤ y4.toInt ∧ y4.toInt ≤ 6 := by rw [ey4]; exact rM_16_s ok (5 : Int32).toNatClampNeg
  refine lv_istore (lv' := [(4, .int y4), (0, .ref (ad 0)), (1, .int 6), (2, .int vh), (3, .int vp)]) hx hb dX12_routeOn_8 hl (by decide) rfl (fun ls hl => ?_)
  refine lv_aload_n hx hb dX12_routeOn_10 rfl (lv_at hl 1 rfl) ?_
  refine lv_iload hx hb dX12_routeOn_11 (lv_at hl 0 rfl) ?_
  refine lv_iload_n hx hb dX12_routeOn_13 rfl (lv_at hl 4 rfl) ?_
  refine cr_i (va_runV (As := [.int y4, .int vp]) (rest := []) ⟨hx, hb, hml, hown, hts⟩ (sm_asksOf l dC dI cs ad mu ok s.heap hP y4 vp (by omega)) (cwV 2 hts (wU_V mw_6_74 mw_6_71 mw_6_73 mw_0_42 mw_1_13) rfl rfl rfl (by decide +kernel) ⟨Nat.le_of_ble_eq_true rfl, Nat.le_of_ble_eq_true rfl⟩) ⟨sz_c, va_recv hK hP (ci := 12) (q0 := 0) rfl (gM_0 cs ad mu), sz_m hK hz⟩ rfl rfl hl.1 rfl (lv_room (Nat.le_of_ble_eq_true rfl)) dX12_routeOn_14 ⟨Nat.zero_le _, Nat.zero_le _⟩) hS (fun r5 hw5 locs hS => ?_)
  refine lv_istore (lv' := [(5, .int r5), (4, .int y4), (0, .ref (ad 0)), (1, .int 6), (2, .int vh), (3, .int vp)]) hx hb dX12_routeOn_17 hl (by decide) rfl (fun ls hl => ?_)
  refine lv_aload_n hx hb dX12_routeOn_19 rfl (lv_at hl 2 rfl) ?_
  refine lv_iload hx hb dX12_routeOn_20 (lv_at hl 1 rfl) ?_
  refine cr_i (va_runV (As := [.int y4]) (rest := []) ⟨hx, hb, hml, hown, hts⟩ (sm_besideOf l dC dI cs ad mu ok s.heap hP y4) (cwV 1 hts (wU_V mw_6_56 mw_6_53 mw_6_55 mw_0_40 mw_1_13) rfl rfl rfl (by decide +kernel) ⟨Nat.le_of_ble_eq_true rfl, Nat.le_of_ble_eq_true rfl⟩) ⟨sz_c, va_recv hK hP (ci := 12) (q0 := 0) rfl (gM_0 cs ad mu), sz_m hK hz⟩ rfl rfl hl.1 rfl (lv_room (Nat.le_of_ble_eq_true rfl)) dX12_routeOn_22 ⟨Nat.zero_le _, Nat.zero_le _⟩) hS (fun r6 hw6 locs hS => ?_)
  refine lv_iload_n hx hb dX12_routeOn_25 rfl (lv_at hl 4 rfl) ?_
  refine lv_iconst (v := (-1)) hx hb dX12_routeOn_26 (by decide) ?_
  refine lv_ixor hx hb dX12_routeOn_27 ?_
  refine lv_topi (fun t7 et7 => ?_)
  refine lv_iand hx hb dX12_routeOn_28 ?_
  refine lv_topi (fun t8 et8 => ?_)
  refine lv_istore (lv' := [(6, .int t8), (5, .int r5), (4, .int y4), (0, .ref (ad 0)), (1, .int 6), (2, .int vh), (3, .int vp)]) hx hb dX12_routeOn_29 hl (by decide) rfl (fun ls hl => ?_)
  refine lv_iconst (v := 0) hx hb dX12_routeOn_31 (by decide) ?_
  refine lv_istore (lv' := [(7, .int 0), (6, .int t8), (5, .int r5), (4, .int y4), (0, .ref (ad 0)), (1, .int 6), (2, .int vh), (3, .int vp)]) hx hb dX12_routeOn_32 hl (by decide) rfl (fun ls hl => ?_)
  have loop34 : ∀ (n34 : Nat) (v7_34 : Int32) (nu34_ : Nat → Nat → Int32) (H : Heap) (locs : List Loc) (ls : Array Slot), (7 + 1 - v7_34.toInt).toNat < n34 → (0 ≤ v7_34.toInt ∧ v7_34.toInt ≤ 7) → (((nu34_ 0 39).toInt = -9 ∨ (0 ≤ (nu34_ 0 39).toInt ∧ (nu34_ 0 39).toInt ≤ 3)) ∧ ((nu34_ 0 33).toInt = 0 ∨ (nu34_ 0 35).toInt ≤ 7)) → okR loM hiM nu34_ → va_P (dC, dI) vwCl (wR 21 ad (EM cs ad) nu34_) H → va_S (va_A (wR 21 ad (EM cs ad) mu) s.heap.size) s.heap H locs → lv_has ls 8 [(7, .int v7_34), (6, .int t8), (5, .int r5), (4, .int y4), (0, .ref (ad 0)), (1, .int 6), (2, .int vh), (3, .int vp)] → W p l e (headSpec (wU yX12_routeOn cX12_routeOn 8 none) ({ frames := 3, cells := 0, slots := 0, locals := 73 })).room s m ([.ref (ad 0), .int 6, .int vh, .int vp] : List Value).toArray below meth c H locs 0 0 (MQ below (va_Qv (fun (xi : Nat → Nat → Int32) => okR loM hiM xi ∧ (((xi 0 39).toInt = -9 ∨ (0 ≤ (xi 0 39).toInt ∧ (xi 0 39).toInt ≤ 3)) ∧ ((xi 0 33).toInt = 0 ∨ (xi 0 35).toInt ≤ 7)) ∧ True) (fun xi t => va_P (dC, dI) vwCl (wR 21 ad (EM cs ad) xi) t.heap) (va_A (wR 21 ad (EM cs ad) mu) s.heap.size)) ([.ref (ad 0), .int 6, .int vh, .int vp] : List Value).toArray s 0 0 (va_A (wR 21 ad (EM cs ad) mu) s.heap.size)) (F0 m 34 ls []) := by
    intro n34
    induction n34 with
    | zero => intro v7_34 nu34_ H locs ls hm; exact absurd hm (Nat.not_lt_zero _)
    | succ n34 ih34 =>
      intro v7_34 nu34_ H locs ls hm h_v7_34 hi34_0 ok hP hS hl
      obtain ⟨y9, ey9⟩ : ∃ z : Int32, z = nu34_ 0 39 := ⟨_, rfl⟩
      have by9 : y9.toInt = (nu34_ 0 39).toInt := congrArg Int32.toInt ey9
      have gy9 : -9 ≤ y9.toInt ∧ y9.toInt ≤ 3 := by rw [ey9]; exact rM_0_39 ok
      obtain ⟨y10, ey10⟩ : ∃ z : Int32, z = nu34_ 0 33 := ⟨_, rfl⟩
      have by10 : y10.toInt = (nu34_ 0 33).toInt := congrArg Int32.toInt ey10
      obtain ⟨y11, ey11⟩ : ∃ z : Int32, z = nu34_ 0 35 := ⟨_, rfl⟩
      have by11 : y11.toInt = (nu34_ 0 35).toInt := congrArg Int32.toInt ey11
      refine lv_iload hx hb dX12_routeOn_34 (lv_at hl 0 rfl) ?_
      refine lv_aload_n hx hb dX12_routeOn_36 rfl (lv_at hl 4 rfl) ?_
      refine va_get (D := (dC, dI)) (ci := 12) (v := .int (nu34_ 0 8)) (C := RX12) (T := TX12) (N := 46) hx hb hts inG12 hown hK hP 0 (gM_0 cs ad nu34_) rfl 8 (by decide) (hts _ (List.mem_cons_of_mem _ mw_5_49)) (fun _ h9 => h9) rfl dX12_routeOn_37 ?_
      refine lv_topi (fun y12 ey12 => ?_)
      have by12 : y12.toInt = (nu34_ 0 8).toInt := congrArg Int32.toInt ey12
      have gy12 : 0 ≤ y12.toInt ∧ y12.toInt ≤ 7 := by rw [ey12]; exact rM_0_8 ok
      refine lv_icmp_ge (tgt := 145) hx hb dX12_routeOn_40 (by decide) (fun c_13 => ?_) (fun c_13 => ?_)
      · have c_13 : y12.toInt ≤ v7_34.toInt := il_le c_13
        exact W.vret hx hb hr (fun t ht hW => ⟨⟨nu34_, rfl, ⟨ok, (by have hb14 := congrArg Int32.toInt ey9; have hb15 := congrArg Int32.toInt ey10; have hb16 := congrArg Int32.toInt ey11; omega), trivial⟩, by first | (subst ht; exact hP) | (rw [ht]; exact hP) | (show va_P (dC, dI) vwCl (wR 21 ad (EM cs ad) nu34_) t.heap; rw [ht]; exact hP)⟩, hS.F ht⟩) hS.2.2 dX12_routeOn_145
      · have c_13 : v7_34.toInt < y12.toInt := il_nle c_13
        refine lv_iload hx hb dX12_routeOn_43 (lv_at hl 1 rfl) ?_
        refine lv_iload hx hb dX12_routeOn_45 (lv_at hl 0 rfl) ?_
        refine cr_i (va_runS (As := [.int t8, .int v7_34]) (rest := []) ⟨hx, hb, hml, hown, hts⟩ (sm_has l dC dI (tyM cs) H t8 v7_34) (va_cwS 2 hts (wU_S mw_6_59 mw_6_57 mw_6_58 mw_1_13) rfl rfl rfl (by decide +kernel) ⟨Nat.le_of_ble_eq_true rfl, Nat.le_of_ble_eq_true rfl⟩) ⟨sz_c, sz_m hK hz⟩ rfl rfl hl.1 rfl (lv_room (Nat.le_of_ble_eq_true rfl)) dX12_routeOn_47 ⟨Nat.zero_le _, Nat.zero_le _⟩) hS (fun r17 hw17 locs hS => ?_)
        rcases hw17 with ⟨rfl, f17⟩ | ⟨rfl, f17⟩
        · have f17 : rb t8 v7_34 = 1 := f17
          refine lv_if_eq (tgt := 139) hx hb dX12_routeOn_50 (by decide) (fun c => absurd c (by decide)) (fun _ => ?_)
          refine lv_aload_n hx hb dX12_routeOn_53 rfl (lv_at hl 4 rfl) ?_
          refine va_get (D := (dC, dI)) (ci := 12) (v := .int (nu34_ 0 38)) (C := RX12) (T := TX12) (N := 46) hx hb hts inG12 hown hK hP 0 (gM_0 cs ad nu34_) rfl 38 (by decide) (hts _ (List.mem_cons_of_mem _ mw_5_79)) (fun _ h9 => h9) rfl dX12_routeOn_54 ?_
          refine lv_topi (fun y18 ey18 => ?_)
          have by18 : y18.toInt = (nu34_ 0 38).toInt := congrArg Int32.toInt ey18
          have gy18 : 0 ≤ y18.toInt ∧ y18.toInt ≤ 1 := by rw [ey18]; exact rM_0_38 ok
          refine lv_if_eq (tgt := 72) hx hb dX12_routeOn_57 (by decide) (fun c_19 => ?_) (fun c_19 => ?_)
          · have c_19 : y18.toInt = 0 := il_eq c_19
            refine lv_aload_n hx hb dX12_routeOn_72 rfl (lv_at hl 4 rfl) ?_
            refine va_get (D := (dC, dI)) (ci := 12) (v := .ref (ad 16)) (C := RX12) (T := TX12) (N := 46) hx hb hts inG12 hown hK hP 0 (gM_0 cs ad nu34_) rfl 26 (by decide) (hts _ (List.mem_cons_of_mem _ mw_5_67)) (fun _ h9 => h9) rfl dX12_routeOn_73 ?_
            refine lv_iload_n hx hb dX12_routeOn_76 rfl (lv_at hl 5 rfl) ?_
            refine lv_iload hx hb dX12_routeOn_77 (lv_at hl 0 rfl) ?_
            refine va_iast hx hb hK hP (wR_D nu34_ hD) hS 16 0 (gM_16 cs ad nu34_) rfl (show vp_in 6 7 from (by unfold vp_in; decide)) dX12_routeOn_79 (fun H locs hP _ hS => ?_)
            refine wr_gen (upd (nu34_ 16) (6 : Int32).toNatClampNeg v7_34) hP (rfl) (fun nu20 hn20 hP => ?_)
            have ok := tM_16_s ok (6 : Int32).toNatClampNeg hn20 (by exact ⟨by omega, by omega⟩)
            have ez21 : y9 = nu20 0 39 := ey9.trans (congrFun (up_k hn20 (by decide)) 39).symm
            have ez22 : y10 = nu20 0 33 := ey10.trans (congrFun (up_k hn20 (by decide)) 33).symm
            have ez23 : y11 = nu20 0 35 := ey11.trans (congrFun (up_k hn20 (by decide)) 35).symm
            have ez24 : y12 = nu20 0 8 := ey12.trans (congrFun (up_k hn20 (by decide)) 8).symm
            have ez25 : y18 = nu20 0 38 := ey18.trans (congrFun (up_k hn20 (by decide)) 38).symm
            refine lv_iload hx hb dX12_routeOn_80 (lv_at hl 0 rfl) ?_
            refine lv_aload_n hx hb dX12_routeOn_82 rfl (lv_at hl 4 rfl) ?_
            refine va_get (D := (dC, dI)) (ci := 12) (v := .int (nu20 0 29)) (C := RX12) (T := TX12) (N := 46) hx hb hts inG12 hown hK hP 0 (gM_0 cs ad nu20) rfl 29 (by decide) (hts _ (List.mem_cons_of_mem _ mw_5_70)) (fun _ h9 => h9) rfl dX12_routeOn_83 ?_
            refine lv_topi (fun y26 ey26 => ?_)
            have by26 : y26.toInt = (nu20 0 29).toInt := congrArg Int32.toInt ey26
            refine lv_icmp_ne (tgt := 113) hx hb dX12_routeOn_86 (by decide) (fun c_27 => ?_) (fun c_27 => ?_)
            · have c_27 : ¬ v7_34.toInt = y26.toInt := il_ne c_27
              refine lv_aload_n hx hb dX12_routeOn_113 rfl (lv_at hl 4 rfl) ?_
              refine va_get (D := (dC, dI)) (ci := 12) (v := .ref (ad 7)) (C := RX12) (T := TX12) (N := 46) hx hb hts inG12 hown hK hP 0 (gM_0 cs ad nu20) rfl 9 (by decide) (hts _ (List.mem_cons_of_mem _ mw_5_50)) (fun _ h9 => h9) rfl dX12_routeOn_114 ?_
              refine lv_iload hx hb dX12_routeOn_117 (lv_at hl 0 rfl) ?_
              refine va_iald hx hb hK hP 7 0 (gM_7 cs ad nu20) rfl (show vp_in v7_34 7 from vi_of (by omega) (by omega)) dX12_routeOn_119 ?_
              refine lv_topi (fun y28 ey28 => ?_)
              have by28 : y28.toInt = (nu20 7 v7_34.toNatClampNeg).toInt := congrArg Int32.toInt ey28
              refine lv_iconst (v := 3) hx hb dX12_routeOn_120 (by decide) ?_
              refine lv_icmp_eq (tgt := 139) hx hb dX12_routeOn_121 (by decide) (fun c_29 => ?_) (fun c_29 => ?_)
              · have c_29 : y28.toInt = 3 := il_eq c_29
                refine lv_iinc (v := (v7_34 + 1)) (lv' := [(7, .int (v7_34 + 1)), (6, .int t8), (5, .int r5), (4, .int y4), (0, .ref (ad 0)), (1, .int 6), (2, .int vh), (3, .int vp)]) hx hb dX12_routeOn_139 hl (k := 0) rfl rfl (by decide) rfl (fun ls hl => ?_)
                refine loc_gen (P := fun w9 => lv_has ls 8 [(7, .int w9), (6, .int t8), (5, .int r5), (4, .int y4), (0, .ref (ad 0)), (1, .int 6), (2, .int vh), (3, .int vp)]) (v7_34 + 1) hl (fun w30 hw30 hl => ?_)
                have hl : lv_has ls 8 [(7, .int w30), (6, .int t8), (5, .int r5), (4, .int y4), (0, .ref (ad 0)), (1, .int 6), (2, .int vh), (3, .int vp)] := hl
                have aw30 : w30.toInt = v7_34.toInt + 1 := by rw [← hw30]; exact tI_add (rfl : v7_34.toInt = _) (rfl : (1 : Int32).toInt = 1) (by omega) (by omega)
                refine lv_goto (tgt := 34) hx hb dX12_routeOn_142 (by decide) ?_
                exact ih34 (w30) nu20 _ _ _ (by omega) (by exact ⟨by omega, by omega⟩) (by have hb31 := congrArg Int32.toInt ez21; have hb32 := congrArg Int32.toInt ez22; have hb33 := congrArg Int32.toInt ez23; omega) ok hP   hS (lv_sub hl [0, 1, 2, 3, 4, 5, 6, 7] rfl)
              · have c_29 : ¬ y28.toInt = 3 := il_ne c_29
                refine lv_aload_n hx hb dX12_routeOn_124 rfl (lv_at hl 4 rfl) ?_
                refine lv_iload_n hx hb dX12_routeOn_125 rfl (lv_at hl 5 rfl) ?_
                refine lv_iconst (v := 1) hx hb dX12_routeOn_126 (by decide) ?_
                refine lv_iadd hx hb dX12_routeOn_127 ?_
                refine lq_i 7 (by decide) ?_
                refine lv_iload_n hx hb dX12_routeOn_128 rfl (lv_at hl 6 rfl) ?_
                refine lv_iconst (v := 1) hx hb dX12_routeOn_129 (by decide) ?_
                refine lv_iload hx hb dX12_routeOn_130 (lv_at hl 0 rfl) ?_
                refine lv_ishl hx hb dX12_routeOn_132 ?_
                refine lv_topi (fun t34 et34 => ?_)
                refine lv_ior hx hb dX12_routeOn_133 ?_
                refine lv_topi (fun t35 et35 => ?_)
                refine lv_iload hx hb dX12_routeOn_134 (lv_at hl 2 rfl) ?_
                have hFc := fr_all (wR_D nu20 hD) hS hA
                refine va_callv (va_runV (As := [.int 7, .int t35, .int r5]) (rest := []) ⟨hx, hb, hml, hown, hts⟩ (sm_routeOn7 l dC dI cs ad nu20 ok H hP ((wR_D nu20 hD).weaken (fun _ _ _ _ => trivial)) t35 r5 (by have h50 : (7 : Int32).toInt = 7 := rfl; rw [et35, et34]; exact h7_next hin0 (by rw [et8, et7]) (by omega) (by omega) f17) (by have h50 : (7 : Int32).toInt = 7 := rfl; have hb36 := congrArg Int32.toInt ez21; have hb37 := congrArg Int32.toInt ez22; have hb38 := congrArg Int32.toInt ez23; omega)) (cwV 3 hts (wU_V mw_6_183 mw_6_180 mw_6_182 mw_0_55 mw_1_13) rfl rfl rfl (by decide +kernel) ⟨Nat.le_of_ble_eq_true rfl, Nat.le_of_ble_eq_true rfl⟩) ⟨sz_c, va_recv hK hP (ci := 12) (q0 := 0) rfl (gM_0 cs ad nu20), sz_m hK hz⟩ rfl rfl hl.1 rfl (lv_room (Nat.le_of_ble_eq_true rfl)) dX12_routeOn_136 ⟨Nat.zero_le _, Nat.zero_le _⟩) hS (fun q _ h => hFc q h) hFc (fun xi39 t H39 locs ht hvm hw39 hB hz1 hk1 hS => ?_)
                have hP : va_P (dC, dI) vwCl (wR 21 ad (EM cs ad) xi39) H39 := by rw [← ht]; exact hB
                obtain ⟨ok, hw39, _⟩ := hw39
                obtain ⟨y40, ey40⟩ : ∃ z : Int32, z = xi39 0 39 := ⟨_, rfl⟩
                have by40 : y40.toInt = (xi39 0 39).toInt := congrArg Int32.toInt ey40
                have gy40 : -9 ≤ y40.toInt ∧ y40.toInt ≤ 3 := by rw [ey40]; exact rM_0_39 ok
                obtain ⟨y41, ey41⟩ : ∃ z : Int32, z = xi39 0 33 := ⟨_, rfl⟩
                have by41 : y41.toInt = (xi39 0 33).toInt := congrArg Int32.toInt ey41
                obtain ⟨y42, ey42⟩ : ∃ z : Int32, z = xi39 0 35 := ⟨_, rfl⟩
                have by42 : y42.toInt = (xi39 0 35).toInt := congrArg Int32.toInt ey42
                have gr39 : ((xi39 0 39).toInt = -9 ∨ (0 ≤ (xi39 0 39).toInt ∧ (xi39 0 39).toInt ≤ 3)) ∧ ((xi39 0 33).toInt = 0 ∨ (xi39 0 35).toInt ≤ 7) := hw39
                refine lv_iinc (v := (v7_34 + 1)) (lv' := [(7, .int (v7_34 + 1)), (6, .int t8), (5, .int r5), (4, .int y4), (0, .ref (ad 0)), (1, .int 6), (2, .int vh), (3, .int vp)]) hx hb dX12_routeOn_139 hl (k := 0) rfl rfl (by decide) rfl (fun ls hl => ?_)
                refine loc_gen (P := fun w9 => lv_has ls 8 [(7, .int w9), (6, .int t8), (5, .int r5), (4, .int y4), (0, .ref (ad 0)), (1, .int 6), (2, .int vh), (3, .int vp)]) (v7_34 + 1) hl (fun w43 hw43 hl => ?_)
                have hl : lv_has ls 8 [(7, .int w43), (6, .int t8), (5, .int r5), (4, .int y4), (0, .ref (ad 0)), (1, .int 6), (2, .int vh), (3, .int vp)] := hl
                have aw43 : w43.toInt = v7_34.toInt + 1 := by rw [← hw43]; exact tI_add (rfl : v7_34.toInt = _) (rfl : (1 : Int32).toInt = 1) (by omega) (by omega)
                refine lv_goto (tgt := 34) hx hb dX12_routeOn_142 (by decide) ?_
                exact ih34 (w43) xi39 _ _ _ (by omega) (by exact ⟨by omega, by omega⟩) (by have hb44 := congrArg Int32.toInt ey40; have hb45 := congrArg Int32.toInt ey41; have hb46 := congrArg Int32.toInt ey42; omega) ok hP   hS (lv_sub hl [0, 1, 2, 3, 4, 5, 6, 7] rfl)
            · have c_27 : v7_34.toInt = y26.toInt := il_eq c_27
              refine lv_aload_n hx hb dX12_routeOn_89 rfl (lv_at hl 4 rfl) ?_
              refine lv_iload_n hx hb dX12_routeOn_90 rfl (lv_at hl 5 rfl) ?_
              refine lv_iconst (v := 1) hx hb dX12_routeOn_91 (by decide) ?_
              refine lv_iadd hx hb dX12_routeOn_92 ?_
              refine lq_i 7 (by decide) ?_
              refine lv_iload_n hx hb dX12_routeOn_93 rfl (lv_at hl 6 rfl) ?_
              refine lv_iconst (v := 1) hx hb dX12_routeOn_94 (by decide) ?_
              refine lv_aload_n hx hb dX12_routeOn_95 rfl (lv_at hl 4 rfl) ?_
              refine va_get (D := (dC, dI)) (ci := 12) (v := .ref (ad 16)) (C := RX12) (T := TX12) (N := 46) hx hb hts inG12 hown hK hP 0 (gM_0 cs ad nu20) rfl 26 (by decide) (hts _ (List.mem_cons_of_mem _ mw_5_67)) (fun _ h9 => h9) rfl dX12_routeOn_96 ?_
              refine lv_iconst (v := 0) hx hb dX12_routeOn_99 (by decide) ?_
              refine va_iald hx hb hK hP 16 0 (gM_16 cs ad nu20) rfl (show vp_in 0 7 from (by unfold vp_in; decide)) dX12_routeOn_100 ?_
              refine lv_topi (fun y47 ey47 => ?_)
              have by47 : y47.toInt = (nu20 16 (0 : Int32).toNatClampNeg).toInt := congrArg Int32.toInt ey47
              have gy47 : 0 ≤ y47.toInt ∧ y47.toInt ≤ 6 := by rw [ey47]; exact rM_16_s ok (0 : Int32).toNatClampNeg
              refine lv_ishl hx hb dX12_routeOn_101 ?_
              refine lv_topi (fun t48 et48 => ?_)
              refine lv_iconst (v := (-1)) hx hb dX12_routeOn_102 (by decide) ?_
              refine lv_ixor hx hb dX12_routeOn_103 ?_
              refine lv_topi (fun t49 et49 => ?_)
              refine lv_iand hx hb dX12_routeOn_104 ?_
              refine lv_topi (fun t50 et50 => ?_)
              refine lv_iload hx hb dX12_routeOn_105 (lv_at hl 2 rfl) ?_
              have hFc := fr_all (wR_D nu20 hD) hS hA
              refine va_callv (va_runV (As := [.int 7, .int t50, .int r5]) (rest := []) ⟨hx, hb, hml, hown, hts⟩ (sm_meetRoute l dC dI cs ad nu20 ok H hP ((wR_D nu20 hD).weaken (fun _ _ _ _ => trivial)) 7 t50 r5 (by have h50 : (7 : Int32).toInt = 7 := rfl; omega) (by have h50 : (7 : Int32).toInt = 7 := rfl; have hb51 := congrArg Int32.toInt ez21; have hb52 := congrArg Int32.toInt ez22; have hb53 := congrArg Int32.toInt ez23; omega)) (cwV 3 hts (wU_V mw_6_187 mw_6_184 mw_6_186 mw_0_56 mw_1_13) rfl rfl rfl (by decide +kernel) ⟨Nat.le_of_ble_eq_true rfl, Nat.le_of_ble_eq_true rfl⟩) ⟨sz_c, va_recv hK hP (ci := 12) (q0 := 0) rfl (gM_0 cs ad nu20), sz_m hK hz⟩ rfl rfl hl.1 rfl (lv_room (Nat.le_of_ble_eq_true rfl)) dX12_routeOn_107 ⟨Nat.zero_le _, Nat.zero_le _⟩) hS (fun q _ h => hFc q h) hFc (fun xi54 t H54 locs ht hvm hw54 hB hz1 hk1 hS => ?_)
              have hP : va_P (dC, dI) vwCl (wR 21 ad (EM cs ad) xi54) H54 := by rw [← ht]; exact hB
              obtain ⟨ok, hw54, _⟩ := hw54
              obtain ⟨y55, ey55⟩ : ∃ z : Int32, z = xi54 0 39 := ⟨_, rfl⟩
              have by55 : y55.toInt = (xi54 0 39).toInt := congrArg Int32.toInt ey55
              have gy55 : -9 ≤ y55.toInt ∧ y55.toInt ≤ 3 := by rw [ey55]; exact rM_0_39 ok
              obtain ⟨y56, ey56⟩ : ∃ z : Int32, z = xi54 0 33 := ⟨_, rfl⟩
              have by56 : y56.toInt = (xi54 0 33).toInt := congrArg Int32.toInt ey56
              obtain ⟨y57, ey57⟩ : ∃ z : Int32, z = xi54 0 35 := ⟨_, rfl⟩
              have by57 : y57.toInt = (xi54 0 35).toInt := congrArg Int32.toInt ey57
              have gr54 : ((xi54 0 39).toInt = -9 ∨ (0 ≤ (xi54 0 39).toInt ∧ (xi54 0 39).toInt ≤ 3)) ∧ ((xi54 0 33).toInt = 0 ∨ (xi54 0 35).toInt ≤ 7) := hw54
              refine lv_goto (tgt := 139) hx hb dX12_routeOn_110 (by decide) ?_
              refine lv_iinc (v := (v7_34 + 1)) (lv' := [(7, .int (v7_34 + 1)), (6, .int t8), (5, .int r5), (4, .int y4), (0, .ref (ad 0)), (1, .int 6), (2, .int vh), (3, .int vp)]) hx hb dX12_routeOn_139 hl (k := 0) rfl rfl (by decide) rfl (fun ls hl => ?_)
              refine loc_gen (P := fun w9 => lv_has ls 8 [(7, .int w9), (6, .int t8), (5, .int r5), (4, .int y4), (0, .ref (ad 0)), (1, .int 6), (2, .int vh), (3, .int vp)]) (v7_34 + 1) hl (fun w58 hw58 hl => ?_)
              have hl : lv_has ls 8 [(7, .int w58), (6, .int t8), (5, .int r5), (4, .int y4), (0, .ref (ad 0)), (1, .int 6), (2, .int vh), (3, .int vp)] := hl
              have aw58 : w58.toInt = v7_34.toInt + 1 := by rw [← hw58]; exact tI_add (rfl : v7_34.toInt = _) (rfl : (1 : Int32).toInt = 1) (by omega) (by omega)
              refine lv_goto (tgt := 34) hx hb dX12_routeOn_142 (by decide) ?_
              exact ih34 (w58) xi54 _ _ _ (by omega) (by exact ⟨by omega, by omega⟩) (by have hb59 := congrArg Int32.toInt ey55; have hb60 := congrArg Int32.toInt ey56; have hb61 := congrArg Int32.toInt ey57; omega) ok hP   hS (lv_sub hl [0, 1, 2, 3, 4, 5, 6, 7] rfl)
          · have c_19 : ¬ y18.toInt = 0 := il_ne c_19
            refine lv_aload_n hx hb dX12_routeOn_60 rfl (lv_at hl 4 rfl) ?_
            refine va_get (D := (dC, dI)) (ci := 12) (v := .ref (ad 8)) (C := RX12) (T := TX12) (N := 46) hx hb hts inG12 hown hK hP 0 (gM_0 cs ad nu34_) rfl 10 (by decide) (hts _ (List.mem_cons_of_mem _ mw_5_51)) (fun _ h9 => h9) rfl dX12_routeOn_61 ?_
            refine lv_iload hx hb dX12_routeOn_64 (lv_at hl 0 rfl) ?_
            refine va_iald hx hb hK hP 8 0 (gM_8 cs ad nu34_) rfl (show vp_in v7_34 7 from vi_of (by omega) (by omega)) dX12_routeOn_66 ?_
            refine lv_topi (fun y62 ey62 => ?_)
            have by62 : y62.toInt = (nu34_ 8 v7_34.toNatClampNeg).toInt := congrArg Int32.toInt ey62
            refine lv_iload hx hb dX12_routeOn_67 (lv_at hl 2 rfl) ?_
            refine lv_icmp_lt (tgt := 139) hx hb dX12_routeOn_69 (by decide) (fun c_63 => ?_) (fun c_63 => ?_)
            · have c_63 : y62.toInt < r5.toInt := il_lt c_63
              refine lv_iinc (v := (v7_34 + 1)) (lv' := [(7, .int (v7_34 + 1)), (6, .int t8), (5, .int r5), (4, .int y4), (0, .ref (ad 0)), (1, .int 6), (2, .int vh), (3, .int vp)]) hx hb dX12_routeOn_139 hl (k := 0) rfl rfl (by decide) rfl (fun ls hl => ?_)
              refine loc_gen (P := fun w9 => lv_has ls 8 [(7, .int w9), (6, .int t8), (5, .int r5), (4, .int y4), (0, .ref (ad 0)), (1, .int 6), (2, .int vh), (3, .int vp)]) (v7_34 + 1) hl (fun w64 hw64 hl => ?_)
              have hl : lv_has ls 8 [(7, .int w64), (6, .int t8), (5, .int r5), (4, .int y4), (0, .ref (ad 0)), (1, .int 6), (2, .int vh), (3, .int vp)] := hl
              have aw64 : w64.toInt = v7_34.toInt + 1 := by rw [← hw64]; exact tI_add (rfl : v7_34.toInt = _) (rfl : (1 : Int32).toInt = 1) (by omega) (by omega)
              refine lv_goto (tgt := 34) hx hb dX12_routeOn_142 (by decide) ?_
              exact ih34 (w64) nu34_ _ _ _ (by omega) (by exact ⟨by omega, by omega⟩) (by have hb65 := congrArg Int32.toInt ey9; have hb66 := congrArg Int32.toInt ey10; have hb67 := congrArg Int32.toInt ey11; omega) ok hP   hS (lv_sub hl [0, 1, 2, 3, 4, 5, 6, 7] rfl)
            · have c_63 : r5.toInt ≤ y62.toInt := il_nlt c_63
              refine lv_aload_n hx hb dX12_routeOn_72 rfl (lv_at hl 4 rfl) ?_
              refine va_get (D := (dC, dI)) (ci := 12) (v := .ref (ad 16)) (C := RX12) (T := TX12) (N := 46) hx hb hts inG12 hown hK hP 0 (gM_0 cs ad nu34_) rfl 26 (by decide) (hts _ (List.mem_cons_of_mem _ mw_5_67)) (fun _ h9 => h9) rfl dX12_routeOn_73 ?_
              refine lv_iload_n hx hb dX12_routeOn_76 rfl (lv_at hl 5 rfl) ?_
              refine lv_iload hx hb dX12_routeOn_77 (lv_at hl 0 rfl) ?_
              refine va_iast hx hb hK hP (wR_D nu34_ hD) hS 16 0 (gM_16 cs ad nu34_) rfl (show vp_in 6 7 from (by unfold vp_in; decide)) dX12_routeOn_79 (fun H locs hP _ hS => ?_)
              refine wr_gen (upd (nu34_ 16) (6 : Int32).toNatClampNeg v7_34) hP (rfl) (fun nu68 hn68 hP => ?_)
              have ok := tM_16_s ok (6 : Int32).toNatClampNeg hn68 (by exact ⟨by omega, by omega⟩)
              have ez69 : y9 = nu68 0 39 := ey9.trans (congrFun (up_k hn68 (by decide)) 39).symm
              have ez70 : y10 = nu68 0 33 := ey10.trans (congrFun (up_k hn68 (by decide)) 33).symm
              have ez71 : y11 = nu68 0 35 := ey11.trans (congrFun (up_k hn68 (by decide)) 35).symm
              have ez72 : y12 = nu68 0 8 := ey12.trans (congrFun (up_k hn68 (by decide)) 8).symm
              have ez73 : y18 = nu68 0 38 := ey18.trans (congrFun (up_k hn68 (by decide)) 38).symm
              have ez74 : y62 = nu68 8 v7_34.toNatClampNeg := ey62.trans (congrFun (up_k hn68 (by decide)) v7_34.toNatClampNeg).symm
              refine lv_iload hx hb dX12_routeOn_80 (lv_at hl 0 rfl) ?_
              refine lv_aload_n hx hb dX12_routeOn_82 rfl (lv_at hl 4 rfl) ?_
              refine va_get (D := (dC, dI)) (ci := 12) (v := .int (nu68 0 29)) (C := RX12) (T := TX12) (N := 46) hx hb hts inG12 hown hK hP 0 (gM_0 cs ad nu68) rfl 29 (by decide) (hts _ (List.mem_cons_of_mem _ mw_5_70)) (fun _ h9 => h9) rfl dX12_routeOn_83 ?_
              refine lv_topi (fun y75 ey75 => ?_)
              have by75 : y75.toInt = (nu68 0 29).toInt := congrArg Int32.toInt ey75
              refine lv_icmp_ne (tgt := 113) hx hb dX12_routeOn_86 (by decide) (fun c_76 => ?_) (fun c_76 => ?_)
              · have c_76 : ¬ v7_34.toInt = y75.toInt := il_ne c_76
                refine lv_aload_n hx hb dX12_routeOn_113 rfl (lv_at hl 4 rfl) ?_
                refine va_get (D := (dC, dI)) (ci := 12) (v := .ref (ad 7)) (C := RX12) (T := TX12) (N := 46) hx hb hts inG12 hown hK hP 0 (gM_0 cs ad nu68) rfl 9 (by decide) (hts _ (List.mem_cons_of_mem _ mw_5_50)) (fun _ h9 => h9) rfl dX12_routeOn_114 ?_
                refine lv_iload hx hb dX12_routeOn_117 (lv_at hl 0 rfl) ?_
                refine va_iald hx hb hK hP 7 0 (gM_7 cs ad nu68) rfl (show vp_in v7_34 7 from vi_of (by omega) (by omega)) dX12_routeOn_119 ?_
                refine lv_topi (fun y77 ey77 => ?_)
                have by77 : y77.toInt = (nu68 7 v7_34.toNatClampNeg).toInt := congrArg Int32.toInt ey77
                refine lv_iconst (v := 3) hx hb dX12_routeOn_120 (by decide) ?_
                refine lv_icmp_eq (tgt := 139) hx hb dX12_routeOn_121 (by decide) (fun c_78 => ?_) (fun c_78 => ?_)
                · have c_78 : y77.toInt = 3 := il_eq c_78
                  refine lv_iinc (v := (v7_34 + 1)) (lv' := [(7, .int (v7_34 + 1)), (6, .int t8), (5, .int r5), (4, .int y4), (0, .ref (ad 0)), (1, .int 6), (2, .int vh), (3, .int vp)]) hx hb dX12_routeOn_139 hl (k := 0) rfl rfl (by decide) rfl (fun ls hl => ?_)
                  refine loc_gen (P := fun w9 => lv_has ls 8 [(7, .int w9), (6, .int t8), (5, .int r5), (4, .int y4), (0, .ref (ad 0)), (1, .int 6), (2, .int vh), (3, .int vp)]) (v7_34 + 1) hl (fun w79 hw79 hl => ?_)
                  have hl : lv_has ls 8 [(7, .int w79), (6, .int t8), (5, .int r5), (4, .int y4), (0, .ref (ad 0)), (1, .int 6), (2, .int vh), (3, .int vp)] := hl
                  have aw79 : w79.toInt = v7_34.toInt + 1 := by rw [← hw79]; exact tI_add (rfl : v7_34.toInt = _) (rfl : (1 : Int32).toInt = 1) (by omega) (by omega)
                  refine lv_goto (tgt := 34) hx hb dX12_routeOn_142 (by decide) ?_
                  exact ih34 (w79) nu68 _ _ _ (by omega) (by exact ⟨by omega, by omega⟩) (by have hb80 := congrArg Int32.toInt ez69; have hb81 := congrArg Int32.toInt ez70; have hb82 := congrArg Int32.toInt ez71; omega) ok hP   hS (lv_sub hl [0, 1, 2, 3, 4, 5, 6, 7] rfl)
                · have c_78 : ¬ y77.toInt = 3 := il_ne c_78
                  refine lv_aload_n hx hb dX12_routeOn_124 rfl (lv_at hl 4 rfl) ?_
                  refine lv_iload_n hx hb dX12_routeOn_125 rfl (lv_at hl 5 rfl) ?_
                  refine lv_iconst (v := 1) hx hb dX12_routeOn_126 (by decide) ?_
                  refine lv_iadd hx hb dX12_routeOn_127 ?_
                  refine lq_i 7 (by decide) ?_
                  refine lv_iload_n hx hb dX12_routeOn_128 rfl (lv_at hl 6 rfl) ?_
                  refine lv_iconst (v := 1) hx hb dX12_routeOn_129 (by decide) ?_
                  refine lv_iload hx hb dX12_routeOn_130 (lv_at hl 0 rfl) ?_
                  refine lv_ishl hx hb dX12_routeOn_132 ?_
                  refine lv_topi (fun t83 et83 => ?_)
                  refine lv_ior hx hb dX12_routeOn_133 ?_
                  refine lv_topi (fun t84 et84 => ?_)
                  refine lv_iload hx hb dX12_routeOn_134 (lv_at hl 2 rfl) ?_
                  have hFc := fr_all (wR_D nu68 hD) hS hA
                  refine va_callv (va_runV (As := [.int 7, .int t84, .int r5]) (rest := []) ⟨hx, hb, hml, hown, hts⟩ (sm_routeOn7 l dC dI cs ad nu68 ok H hP ((wR_D nu68 hD).weaken (fun _ _ _ _ => trivial)) t84 r5 (by have h50 : (7 : Int32).toInt = 7 := rfl; rw [et84, et83]; exact h7_next hin0 (by rw [et8, et7]) (by omega) (by omega) f17) (by have h50 : (7 : Int32).toInt = 7 := rfl; have hb85 := congrArg Int32.toInt ez69; have hb86 := congrArg Int32.toInt ez70; have hb87 := congrArg Int32.toInt ez71; omega)) (cwV 3 hts (wU_V mw_6_183 mw_6_180 mw_6_182 mw_0_55 mw_1_13) rfl rfl rfl (by decide +kernel) ⟨Nat.le_of_ble_eq_true rfl, Nat.le_of_ble_eq_true rfl⟩) ⟨sz_c, va_recv hK hP (ci := 12) (q0 := 0) rfl (gM_0 cs ad nu68), sz_m hK hz⟩ rfl rfl hl.1 rfl (lv_room (Nat.le_of_ble_eq_true rfl)) dX12_routeOn_136 ⟨Nat.zero_le _, Nat.zero_le _⟩) hS (fun q _ h => hFc q h) hFc (fun xi88 t H88 locs ht hvm hw88 hB hz1 hk1 hS => ?_)
                  have hP : va_P (dC, dI) vwCl (wR 21 ad (EM cs ad) xi88) H88 := by rw [← ht]; exact hB
                  obtain ⟨ok, hw88, _⟩ := hw88
                  obtain ⟨y89, ey89⟩ : ∃ z : Int32, z = xi88 0 39 := ⟨_, rfl⟩
                  have by89 : y89.toInt = (xi88 0 39).toInt := congrArg Int32.toInt ey89
                  have gy89 : -9 ≤ y89.toInt ∧ y89.toInt ≤ 3 := by rw [ey89]; exact rM_0_39 ok
                  obtain ⟨y90, ey90⟩ : ∃ z : Int32, z = xi88 0 33 := ⟨_, rfl⟩
                  have by90 : y90.toInt = (xi88 0 33).toInt := congrArg Int32.toInt ey90
                  obtain ⟨y91, ey91⟩ : ∃ z : Int32, z = xi88 0 35 := ⟨_, rfl⟩
                  have by91 : y91.toInt = (xi88 0 35).toInt := congrArg Int32.toInt ey91
                  have gr88 : ((xi88 0 39).toInt = -9 ∨ (0 ≤ (xi88 0 39).toInt ∧ (xi88 0 39).toInt ≤ 3)) ∧ ((xi88 0 33).toInt = 0 ∨ (xi88 0 35).toInt ≤ 7) := hw88
                  refine lv_iinc (v := (v7_34 + 1)) (lv' := [(7, .int (v7_34 + 1)), (6, .int t8), (5, .int r5), (4, .int y4), (0, .ref (ad 0)), (1, .int 6), (2, .int vh), (3, .int vp)]) hx hb dX12_routeOn_139 hl (k := 0) rfl rfl (by decide) rfl (fun ls hl => ?_)
                  refine loc_gen (P := fun w9 => lv_has ls 8 [(7, .int w9), (6, .int t8), (5, .int r5), (4, .int y4), (0, .ref (ad 0)), (1, .int 6), (2, .int vh), (3, .int vp)]) (v7_34 + 1) hl (fun w92 hw92 hl => ?_)
                  have hl : lv_has ls 8 [(7, .int w92), (6, .int t8), (5, .int r5), (4, .int y4), (0, .ref (ad 0)), (1, .int 6), (2, .int vh), (3, .int vp)] := hl
                  have aw92 : w92.toInt = v7_34.toInt + 1 := by rw [← hw92]; exact tI_add (rfl : v7_34.toInt = _) (rfl : (1 : Int32).toInt = 1) (by omega) (by omega)
                  refine lv_goto (tgt := 34) hx hb dX12_routeOn_142 (by decide) ?_
                  exact ih34 (w92) xi88 _ _ _ (by omega) (by exact ⟨by omega, by omega⟩) (by have hb93 := congrArg Int32.toInt ey89; have hb94 := congrArg Int32.toInt ey90; have hb95 := congrArg Int32.toInt ey91; omega) ok hP   hS (lv_sub hl [0, 1, 2, 3, 4, 5, 6, 7] rfl)
              · have c_76 : v7_34.toInt = y75.toInt := il_eq c_76
                refine lv_aload_n hx hb dX12_routeOn_89 rfl (lv_at hl 4 rfl) ?_
                refine lv_iload_n hx hb dX12_routeOn_90 rfl (lv_at hl 5 rfl) ?_
                refine lv_iconst (v := 1) hx hb dX12_routeOn_91 (by decide) ?_
                refine lv_iadd hx hb dX12_routeOn_92 ?_
                refine lq_i 7 (by decide) ?_
                refine lv_iload_n hx hb dX12_routeOn_93 rfl (lv_at hl 6 rfl) ?_
                refine lv_iconst (v := 1) hx hb dX12_routeOn_94 (by decide) ?_
                refine lv_aload_n hx hb dX12_routeOn_95 rfl (lv_at hl 4 rfl) ?_
                refine va_get (D := (dC, dI)) (ci := 12) (v := .ref (ad 16)) (C := RX12) (T := TX12) (N := 46) hx hb hts inG12 hown hK hP 0 (gM_0 cs ad nu68) rfl 26 (by decide) (hts _ (List.mem_cons_of_mem _ mw_5_67)) (fun _ h9 => h9) rfl dX12_routeOn_96 ?_
                refine lv_iconst (v := 0) hx hb dX12_routeOn_99 (by decide) ?_
                refine va_iald hx hb hK hP 16 0 (gM_16 cs ad nu68) rfl (show vp_in 0 7 from (by unfold vp_in; decide)) dX12_routeOn_100 ?_
                refine lv_topi (fun y96 ey96 => ?_)
                have by96 : y96.toInt = (nu68 16 (0 : Int32).toNatClampNeg).toInt := congrArg Int32.toInt ey96
                have gy96 : 0 ≤ y96.toInt ∧ y96.toInt ≤ 6 := by rw [ey96]; exact rM_16_s ok (0 : Int32).toNatClampNeg
                refine lv_ishl hx hb dX12_routeOn_101 ?_
                refine lv_topi (fun t97 et97 => ?_)
                refine lv_iconst (v := (-1)) hx hb dX12_routeOn_102 (by decide) ?_
                refine lv_ixor hx hb dX12_routeOn_103 ?_
                refine lv_topi (fun t98 et98 => ?_)
                refine lv_iand hx hb dX12_routeOn_104 ?_
                refine lv_topi (fun t99 et99 => ?_)
                refine lv_iload hx hb dX12_routeOn_105 (lv_at hl 2 rfl) ?_
                have hFc := fr_all (wR_D nu68 hD) hS hA
                refine va_callv (va_runV (As := [.int 7, .int t99, .int r5]) (rest := []) ⟨hx, hb, hml, hown, hts⟩ (sm_meetRoute l dC dI cs ad nu68 ok H hP ((wR_D nu68 hD).weaken (fun _ _ _ _ => trivial)) 7 t99 r5 (by have h50 : (7 : Int32).toInt = 7 := rfl; omega) (by have h50 : (7 : Int32).toInt = 7 := rfl; have hb100 := congrArg Int32.toInt ez69; have hb101 := congrArg Int32.toInt ez70; have hb102 := congrArg Int32.toInt ez71; omega)) (cwV 3 hts (wU_V mw_6_187 mw_6_184 mw_6_186 mw_0_56 mw_1_13) rfl rfl rfl (by decide +kernel) ⟨Nat.le_of_ble_eq_true rfl, Nat.le_of_ble_eq_true rfl⟩) ⟨sz_c, va_recv hK hP (ci := 12) (q0 := 0) rfl (gM_0 cs ad nu68), sz_m hK hz⟩ rfl rfl hl.1 rfl (lv_room (Nat.le_of_ble_eq_true rfl)) dX12_routeOn_107 ⟨Nat.zero_le _, Nat.zero_le _⟩) hS (fun q _ h => hFc q h) hFc (fun xi103 t H103 locs ht hvm hw103 hB hz1 hk1 hS => ?_)
                have hP : va_P (dC, dI) vwCl (wR 21 ad (EM cs ad) xi103) H103 := by rw [← ht]; exact hB
                obtain ⟨ok, hw103, _⟩ := hw103
                obtain ⟨y104, ey104⟩ : ∃ z : Int32, z = xi103 0 39 := ⟨_, rfl⟩
                have by104 : y104.toInt = (xi103 0 39).toInt := congrArg Int32.toInt ey104
                have gy104 : -9 ≤ y104.toInt ∧ y104.toInt ≤ 3 := by rw [ey104]; exact rM_0_39 ok
                obtain ⟨y105, ey105⟩ : ∃ z : Int32, z = xi103 0 33 := ⟨_, rfl⟩
                have by105 : y105.toInt = (xi103 0 33).toInt := congrArg Int32.toInt ey105
                obtain ⟨y106, ey106⟩ : ∃ z : Int32, z = xi103 0 35 := ⟨_, rfl⟩
                have by106 : y106.toInt = (xi103 0 35).toInt := congrArg Int32.toInt ey106
                have gr103 : ((xi103 0 39).toInt = -9 ∨ (0 ≤ (xi103 0 39).toInt ∧ (xi103 0 39).toInt ≤ 3)) ∧ ((xi103 0 33).toInt = 0 ∨ (xi103 0 35).toInt ≤ 7) := hw103
                refine lv_goto (tgt := 139) hx hb dX12_routeOn_110 (by decide) ?_
                refine lv_iinc (v := (v7_34 + 1)) (lv' := [(7, .int (v7_34 + 1)), (6, .int t8), (5, .int r5), (4, .int y4), (0, .ref (ad 0)), (1, .int 6), (2, .int vh), (3, .int vp)]) hx hb dX12_routeOn_139 hl (k := 0) rfl rfl (by decide) rfl (fun ls hl => ?_)
                refine loc_gen (P := fun w9 => lv_has ls 8 [(7, .int w9), (6, .int t8), (5, .int r5), (4, .int y4), (0, .ref (ad 0)), (1, .int 6), (2, .int vh), (3, .int vp)]) (v7_34 + 1) hl (fun w107 hw107 hl => ?_)
                have hl : lv_has ls 8 [(7, .int w107), (6, .int t8), (5, .int r5), (4, .int y4), (0, .ref (ad 0)), (1, .int 6), (2, .int vh), (3, .int vp)] := hl
                have aw107 : w107.toInt = v7_34.toInt + 1 := by rw [← hw107]; exact tI_add (rfl : v7_34.toInt = _) (rfl : (1 : Int32).toInt = 1) (by omega) (by omega)
                refine lv_goto (tgt := 34) hx hb dX12_routeOn_142 (by decide) ?_
                exact ih34 (w107) xi103 _ _ _ (by omega) (by exact ⟨by omega, by omega⟩) (by have hb108 := congrArg Int32.toInt ey104; have hb109 := congrArg Int32.toInt ey105; have hb110 := congrArg Int32.toInt ey106; omega) ok hP   hS (lv_sub hl [0, 1, 2, 3, 4, 5, 6, 7] rfl)
        · have f17 : ¬ rb t8 v7_34 = 1 := f17
          refine lv_if_eq (tgt := 139) hx hb dX12_routeOn_50 (by decide) (fun _ => ?_) (fun c => absurd (by decide) c)
          refine lv_iinc (v := (v7_34 + 1)) (lv' := [(7, .int (v7_34 + 1)), (6, .int t8), (5, .int r5), (4, .int y4), (0, .ref (ad 0)), (1, .int 6), (2, .int vh), (3, .int vp)]) hx hb dX12_routeOn_139 hl (k := 0) rfl rfl (by decide) rfl (fun ls hl => ?_)
          refine loc_gen (P := fun w9 => lv_has ls 8 [(7, .int w9), (6, .int t8), (5, .int r5), (4, .int y4), (0, .ref (ad 0)), (1, .int 6), (2, .int vh), (3, .int vp)]) (v7_34 + 1) hl (fun w111 hw111 hl => ?_)
          have hl : lv_has ls 8 [(7, .int w111), (6, .int t8), (5, .int r5), (4, .int y4), (0, .ref (ad 0)), (1, .int 6), (2, .int vh), (3, .int vp)] := hl
          have aw111 : w111.toInt = v7_34.toInt + 1 := by rw [← hw111]; exact tI_add (rfl : v7_34.toInt = _) (rfl : (1 : Int32).toInt = 1) (by omega) (by omega)
          refine lv_goto (tgt := 34) hx hb dX12_routeOn_142 (by decide) ?_
          exact ih34 (w111) nu34_ _ _ _ (by omega) (by exact ⟨by omega, by omega⟩) (by have hb112 := congrArg Int32.toInt ey9; have hb113 := congrArg Int32.toInt ey10; have hb114 := congrArg Int32.toInt ey11; omega) ok hP   hS (lv_sub hl [0, 1, 2, 3, 4, 5, 6, 7] rfl)
  exact loop34 ((7 + 1 - (0 : Int32).toInt).toNat + 1) (0) mu _ _ _ (Nat.lt_succ_self _) (by have h80 : (0 : Int32).toInt = 0 := rfl; exact ⟨by omega, by omega⟩) (by have h80 : (0 : Int32).toInt = 0 := rfl; have hb115 := congrArg Int32.toInt ey1; have hb116 := congrArg Int32.toInt ey2; have hb117 := congrArg Int32.toInt ey3; omega) ok hP   hS hl
set_option maxHeartbeats 4000000 in
set_option maxRecDepth 100000 in
/-- sm_routeOn5 -/
theorem sm_routeOn5 (l : Launch) (dC : Nat → ClassId) (dI : Nat → Nat → Nat) (cs : Nat → ClassId) (ad : Nat → Nat) (mu : Nat → Nat → Int32) (ok : okR loM hiM mu) (H : Heap) (hP : va_P (dC, dI) vwCl (wR 21 ad (EM cs ad) mu) H) (hD0 : va_D (fun _ => True) (wR 21 ad (EM cs ad) mu)) (vh : Int32) (vp : Int32) (hin0 : h7 5 vh) (hin1 : ((mu 0 39).toInt = -9 ∨ (0 ≤ (mu 0 39).toInt ∧ (mu 0 39).toInt ≤ 3)) ∧ ((mu 0 33).toInt = 0 ∨ (mu 0 35).toInt ≤ 7)) : Met l yX12_routeOn (wU yX12_routeOn cX12_routeOn 8 none) ({ frames := 4, cells := 0, slots := 0, locals := 100 }) (va_Pc [.ref (ad 0), .int 5, .int vh, .int vp] (sz_P (dC, dI) vwCl (tyM cs) H)) (va_Qv (fun (xi : Nat → Nat → Int32) => okR loM hiM xi ∧ (((xi 0 39).toInt = -9 ∨ (0 ≤ (xi 0 39).toInt ∧ (xi 0 39).toInt ≤ 3)) ∧ ((xi 0 33).toInt = 0 ∨ (xi 0 35).toInt ≤ 7)) ∧ True) (fun xi t => va_P (dC, dI) vwCl (wR 21 ad (EM cs ad) xi) t.heap) (va_A (wR 21 ad (EM cs ad) mu) H.size)) 0 0 (va_A (wR 21 ad (EM cs ad) mu) H.size) := by
  refine Met.ofW (cc := cX12_routeOn) (maxL := 8) (ret := none) (by decide) rfl ?_
  intro p e s m args below meth c s₁ B hml hv
  obtain ⟨rfl, hh, hK, hz⟩ := hv
  have hx := B.exec
  have hb := B.bytes
  have hr := B.returns
  have hts := atoms_spec (ws := (wU yX12_routeOn cX12_routeOn 8 none)) B.pre
  have hown : s.vm.findClass RX12 = some m.cls := findClass_of_methodNamed B.named
  have hlocks := B.notSynchronized
  subst hh
  have hD := hD0.self (sz := s.heap.size)
  have hA : ∀ q : Nat, s.heap.size ≤ q → (va_A (wR 21 ad (EM cs ad) mu) s.heap.size) q := fun q h => Or.inr h
  have hS : va_S (va_A (wR 21 ad (EM cs ad) mu) s.heap.size) s.heap s.heap [] := va_S.rf
  have hl := lv_entry ([.ref (ad 0), .int 5, .int vh, .int vp]) (n := 8) (Nat.le_of_ble_eq_true rfl)
  rw [lg_entry_eq]
  generalize (lg_sl ([.ref (ad 0), .int 5, .int vh, .int vp]) ++ List.replicate (8 - (lg_sl ([.ref (ad 0), .int 5, .int vh, .int vp])).length) Slot.unset).toArray = ls at hl ⊢
  have hl : lv_has ls 8 [(0, .ref (ad 0)), (1, .int 5), (2, .int vh), (3, .int vp)] := hl
  obtain ⟨y1, ey1⟩ : ∃ z : Int32, z = mu 0 39 := ⟨_, rfl⟩
  have by1 : y1.toInt = (mu 0 39).toInt := congrArg Int32.toInt ey1
  have gy1 : -9 ≤ y1.toInt ∧ y1.toInt ≤ 3 := by rw [ey1]; exact rM_0_39 ok
  obtain ⟨y2, ey2⟩ : ∃ z : Int32, z = mu 0 33 := ⟨_, rfl⟩
  have by2 : y2.toInt = (mu 0 33).toInt := congrArg Int32.toInt ey2
  obtain ⟨y3, ey3⟩ : ∃ z : Int32, z = mu 0 35 := ⟨_, rfl⟩
  have by3 : y3.toInt = (mu 0 35).toInt := congrArg Int32.toInt ey3
  refine lv_aload_n hx hb dX12_routeOn_0 rfl (lv_at hl 0 rfl) ?_
  refine va_get (D := (dC, dI)) (ci := 12) (v := .ref (ad 16)) (C := RX12) (T := TX12) (N := 46) hx hb hts inG12 hown hK hP 0 (gM_0 cs ad mu) rfl 26 (by decide) (hts _ (List.mem_cons_of_mem _ mw_5_67)) (fun _ h9 => h9) rfl dX12_routeOn_1 ?_
  refine lv_iload_n hx hb dX12_routeOn_4 rfl (lv_at hl 1 rfl) ?_
  refine lv_iconst (v := 1) hx hb dX12_routeOn_5 (by decide) ?_
  refine lv_isub hx hb dX12_routeOn_6 ?_
  refine lq_i 4 (by decide) ?_
  refine va_iald hx hb hK hP 16 0 (gM_16 cs ad mu) rfl (show vp_in 4 7 from (by unfold vp_in; decide)) dX12_routeOn_7 ?_
  refine lv_topi (fun y4 ey4 => ?_)
  have by4 : y4.toInt = (mu 16 (4 : Int32).toNatClampNeg).toInt := congrArg Int32.toInt ey4
  have gy4 : 0 ≤ y4.toInt ∧ y4.toInt ≤ 6 := by rw [ey4]; exact rM_16_s ok (4 : Int32).toNatClampNeg
  refine lv_istore (lv' := [(4, .int y4), (0, .ref (ad 0)), (1, .int 5), (2, .int vh), (3, .int vp)]) hx hb dX12_routeOn_8 hl (by decide) rfl (fun ls hl => ?_)
  refine lv_aload_n hx hb dX12_routeOn_10 rfl (lv_at hl 1 rfl) ?_
  refine lv_iload hx hb dX12_routeOn_11 (lv_at hl 0 rfl) ?_
  refine lv_iload_n hx hb dX12_routeOn_13 rfl (lv_at hl 4 rfl) ?_
  refine cr_i (va_runV (As := [.int y4, .int vp]) (rest := []) ⟨hx, hb, hml, hown, hts⟩ (sm_asksOf l dC dI cs ad mu ok s.heap hP y4 vp (by omega)) (cwV 2 hts (wU_V mw_6_74 mw_6_71 mw_6_73 mw_0_42 mw_1_13) rfl rfl rfl (by decide +kernel) ⟨Nat.le_of_ble_eq_true rfl, Nat.le_of_ble_eq_true rfl⟩) ⟨sz_c, va_recv hK hP (ci := 12) (q0 := 0) rfl (gM_0 cs ad mu), sz_m hK hz⟩ rfl rfl hl.1 rfl (lv_room (Nat.le_of_ble_eq_true rfl)) dX12_routeOn_14 ⟨Nat.zero_le _, Nat.zero_le _⟩) hS (fun r5 hw5 locs hS => ?_)
  refine lv_istore (lv' := [(5, .int r5), (4, .int y4), (0, .ref (ad 0)), (1, .int 5), (2, .int vh), (3, .int vp)]) hx hb dX12_routeOn_17 hl (by decide) rfl (fun ls hl => ?_)
  refine lv_aload_n hx hb dX12_routeOn_19 rfl (lv_at hl 2 rfl) ?_
  refine lv_iload hx hb dX12_routeOn_20 (lv_at hl 1 rfl) ?_
  refine cr_i (va_runV (As := [.int y4]) (rest := []) ⟨hx, hb, hml, hown, hts⟩ (sm_besideOf l dC dI cs ad mu ok s.heap hP y4) (cwV 1 hts (wU_V mw_6_56 mw_6_53 mw_6_55 mw_0_40 mw_1_13) rfl rfl rfl (by decide +kernel) ⟨Nat.le_of_ble_eq_true rfl, Nat.le_of_ble_eq_true rfl⟩) ⟨sz_c, va_recv hK hP (ci := 12) (q0 := 0) rfl (gM_0 cs ad mu), sz_m hK hz⟩ rfl rfl hl.1 rfl (lv_room (Nat.le_of_ble_eq_true rfl)) dX12_routeOn_22 ⟨Nat.zero_le _, Nat.zero_le _⟩) hS (fun r6 hw6 locs hS => ?_)
  refine lv_iload_n hx hb dX12_routeOn_25 rfl (lv_at hl 4 rfl) ?_
  refine lv_iconst (v := (-1)) hx hb dX12_routeOn_26 (by decide) ?_
  refine lv_ixor hx hb dX12_routeOn_27 ?_
  refine lv_topi (fun t7 et7 => ?_)
  refine lv_iand hx hb dX12_routeOn_28 ?_
  refine lv_topi (fun t8 et8 => ?_)
  refine lv_istore (lv' := [(6, .int t8), (5, .int r5), (4, .int y4), (0, .ref (ad 0)), (1, .int 5), (2, .int vh), (3, .int vp)]) hx hb dX12_routeOn_29 hl (by decide) rfl (fun ls hl => ?_)
  refine lv_iconst (v := 0) hx hb dX12_routeOn_31 (by decide) ?_
  refine lv_istore (lv' := [(7, .int 0), (6, .int t8), (5, .int r5), (4, .int y4), (0, .ref (ad 0)), (1, .int 5), (2, .int vh), (3, .int vp)]) hx hb dX12_routeOn_32 hl (by decide) rfl (fun ls hl => ?_)
  have loop34 : ∀ (n34 : Nat) (v7_34 : Int32) (nu34_ : Nat → Nat → Int32) (H : Heap) (locs : List Loc) (ls : Array Slot), (7 + 1 - v7_34.toInt).toNat < n34 → (0 ≤ v7_34.toInt ∧ v7_34.toInt ≤ 7) → (((nu34_ 0 39).toInt = -9 ∨ (0 ≤ (nu34_ 0 39).toInt ∧ (nu34_ 0 39).toInt ≤ 3)) ∧ ((nu34_ 0 33).toInt = 0 ∨ (nu34_ 0 35).toInt ≤ 7)) → okR loM hiM nu34_ → va_P (dC, dI) vwCl (wR 21 ad (EM cs ad) nu34_) H → va_S (va_A (wR 21 ad (EM cs ad) mu) s.heap.size) s.heap H locs → lv_has ls 8 [(7, .int v7_34), (6, .int t8), (5, .int r5), (4, .int y4), (0, .ref (ad 0)), (1, .int 5), (2, .int vh), (3, .int vp)] → W p l e (headSpec (wU yX12_routeOn cX12_routeOn 8 none) ({ frames := 4, cells := 0, slots := 0, locals := 100 })).room s m ([.ref (ad 0), .int 5, .int vh, .int vp] : List Value).toArray below meth c H locs 0 0 (MQ below (va_Qv (fun (xi : Nat → Nat → Int32) => okR loM hiM xi ∧ (((xi 0 39).toInt = -9 ∨ (0 ≤ (xi 0 39).toInt ∧ (xi 0 39).toInt ≤ 3)) ∧ ((xi 0 33).toInt = 0 ∨ (xi 0 35).toInt ≤ 7)) ∧ True) (fun xi t => va_P (dC, dI) vwCl (wR 21 ad (EM cs ad) xi) t.heap) (va_A (wR 21 ad (EM cs ad) mu) s.heap.size)) ([.ref (ad 0), .int 5, .int vh, .int vp] : List Value).toArray s 0 0 (va_A (wR 21 ad (EM cs ad) mu) s.heap.size)) (F0 m 34 ls []) := by
    intro n34
    induction n34 with
    | zero => intro v7_34 nu34_ H locs ls hm; exact absurd hm (Nat.not_lt_zero _)
    | succ n34 ih34 =>
      intro v7_34 nu34_ H locs ls hm h_v7_34 hi34_0 ok hP hS hl
      obtain ⟨y9, ey9⟩ : ∃ z : Int32, z = nu34_ 0 39 := ⟨_, rfl⟩
      have by9 : y9.toInt = (nu34_ 0 39).toInt := congrArg Int32.toInt ey9
      have gy9 : -9 ≤ y9.toInt ∧ y9.toInt ≤ 3 := by rw [ey9]; exact rM_0_39 ok
      obtain ⟨y10, ey10⟩ : ∃ z : Int32, z = nu34_ 0 33 := ⟨_, rfl⟩
      have by10 : y10.toInt = (nu34_ 0 33).toInt := congrArg Int32.toInt ey10
      obtain ⟨y11, ey11⟩ : ∃ z : Int32, z = nu34_ 0 35 := ⟨_, rfl⟩
      have by11 : y11.toInt = (nu34_ 0 35).toInt := congrArg Int32.toInt ey11
      refine lv_iload hx hb dX12_routeOn_34 (lv_at hl 0 rfl) ?_
      refine lv_aload_n hx hb dX12_routeOn_36 rfl (lv_at hl 4 rfl) ?_
      refine va_get (D := (dC, dI)) (ci := 12) (v := .int (nu34_ 0 8)) (C := RX12) (T := TX12) (N := 46) hx hb hts inG12 hown hK hP 0 (gM_0 cs ad nu34_) rfl 8 (by decide) (hts _ (List.mem_cons_of_mem _ mw_5_49)) (fun _ h9 => h9) rfl dX12_routeOn_37 ?_
      refine lv_topi (fun y12 ey12 => ?_)
      have by12 : y12.toInt = (nu34_ 0 8).toInt := congrArg Int32.toInt ey12
      have gy12 : 0 ≤ y12.toInt ∧ y12.toInt ≤ 7 := by rw [ey12]; exact rM_0_8 ok
      refine lv_icmp_ge (tgt := 145) hx hb dX12_routeOn_40 (by decide) (fun c_13 => ?_) (fun c_13 => ?_)
      · have c_13 : y12.toInt ≤ v7_34.toInt := il_le c_13
        exact W.vret hx hb hr (fun t ht hW => ⟨⟨nu34_, rfl, ⟨ok, (by have hb14 := congrArg Int32.toInt ey9; have hb15 := congrArg Int32.toInt ey10; have hb16 := congrArg Int32.toInt ey11; omega), trivial⟩, by first | (subst ht; exact hP) | (rw [ht]; exact hP) | (show va_P (dC, dI) vwCl (wR 21 ad (EM cs ad) nu34_) t.heap; rw [ht]; exact hP)⟩, hS.F ht⟩) hS.2.2 dX12_routeOn_145
      · have c_13 : v7_34.toInt < y12.toInt := il_nle c_13
        refine lv_iload hx hb dX12_routeOn_43 (lv_at hl 1 rfl) ?_
        refine lv_iload hx hb dX12_routeOn_45 (lv_at hl 0 rfl) ?_
        refine cr_i (va_runS (As := [.int t8, .int v7_34]) (rest := []) ⟨hx, hb, hml, hown, hts⟩ (sm_has l dC dI (tyM cs) H t8 v7_34) (va_cwS 2 hts (wU_S mw_6_59 mw_6_57 mw_6_58 mw_1_13) rfl rfl rfl (by decide +kernel) ⟨Nat.le_of_ble_eq_true rfl, Nat.le_of_ble_eq_true rfl⟩) ⟨sz_c, sz_m hK hz⟩ rfl rfl hl.1 rfl (lv_room (Nat.le_of_ble_eq_true rfl)) dX12_routeOn_47 ⟨Nat.zero_le _, Nat.zero_le _⟩) hS (fun r17 hw17 locs hS => ?_)
        rcases hw17 with ⟨rfl, f17⟩ | ⟨rfl, f17⟩
        · have f17 : rb t8 v7_34 = 1 := f17
          refine lv_if_eq (tgt := 139) hx hb dX12_routeOn_50 (by decide) (fun c => absurd c (by decide)) (fun _ => ?_)
          refine lv_aload_n hx hb dX12_routeOn_53 rfl (lv_at hl 4 rfl) ?_
          refine va_get (D := (dC, dI)) (ci := 12) (v := .int (nu34_ 0 38)) (C := RX12) (T := TX12) (N := 46) hx hb hts inG12 hown hK hP 0 (gM_0 cs ad nu34_) rfl 38 (by decide) (hts _ (List.mem_cons_of_mem _ mw_5_79)) (fun _ h9 => h9) rfl dX12_routeOn_54 ?_
          refine lv_topi (fun y18 ey18 => ?_)
          have by18 : y18.toInt = (nu34_ 0 38).toInt := congrArg Int32.toInt ey18
          have gy18 : 0 ≤ y18.toInt ∧ y18.toInt ≤ 1 := by rw [ey18]; exact rM_0_38 ok
          refine lv_if_eq (tgt := 72) hx hb dX12_routeOn_57 (by decide) (fun c_19 => ?_) (fun c_19 => ?_)
          · have c_19 : y18.toInt = 0 := il_eq c_19
            refine lv_aload_n hx hb dX12_routeOn_72 rfl (lv_at hl 4 rfl) ?_
            refine va_get (D := (dC, dI)) (ci := 12) (v := .ref (ad 16)) (C := RX12) (T := TX12) (N := 46) hx hb hts inG12 hown hK hP 0 (gM_0 cs ad nu34_) rfl 26 (by decide) (hts _ (List.mem_cons_of_mem _ mw_5_67)) (fun _ h9 => h9) rfl dX12_routeOn_73 ?_
            refine lv_iload_n hx hb dX12_routeOn_76 rfl (lv_at hl 5 rfl) ?_
            refine lv_iload hx hb dX12_routeOn_77 (lv_at hl 0 rfl) ?_
            refine va_iast hx hb hK hP (wR_D nu34_ hD) hS 16 0 (gM_16 cs ad nu34_) rfl (show vp_in 5 7 from (by unfold vp_in; decide)) dX12_routeOn_79 (fun H locs hP _ hS => ?_)
            refine wr_gen (upd (nu34_ 16) (5 : Int32).toNatClampNeg v7_34) hP (rfl) (fun nu20 hn20 hP => ?_)
            have ok := tM_16_s ok (5 : Int32).toNatClampNeg hn20 (by exact ⟨by omega, by omega⟩)
            have ez21 : y9 = nu20 0 39 := ey9.trans (congrFun (up_k hn20 (by decide)) 39).symm
            have ez22 : y10 = nu20 0 33 := ey10.trans (congrFun (up_k hn20 (by decide)) 33).symm
            have ez23 : y11 = nu20 0 35 := ey11.trans (congrFun (up_k hn20 (by decide)) 35).symm
            have ez24 : y12 = nu20 0 8 := ey12.trans (congrFun (up_k hn20 (by decide)) 8).symm
            have ez25 : y18 = nu20 0 38 := ey18.trans (congrFun (up_k hn20 (by decide)) 38).symm
            refine lv_iload hx hb dX12_routeOn_80 (lv_at hl 0 rfl) ?_
            refine lv_aload_n hx hb dX12_routeOn_82 rfl (lv_at hl 4 rfl) ?_
            refine va_get (D := (dC, dI)) (ci := 12) (v := .int (nu20 0 29)) (C := RX12) (T := TX12) (N := 46) hx hb hts inG12 hown hK hP 0 (gM_0 cs ad nu20) rfl 29 (by decide) (hts _ (List.mem_cons_of_mem _ mw_5_70)) (fun _ h9 => h9) rfl dX12_routeOn_83 ?_
            refine lv_topi (fun y26 ey26 => ?_)
            have by26 : y26.toInt = (nu20 0 29).toInt := congrArg Int32.toInt ey26
            refine lv_icmp_ne (tgt := 113) hx hb dX12_routeOn_86 (by decide) (fun c_27 => ?_) (fun c_27 => ?_)
            · have c_27 : ¬ v7_34.toInt = y26.toInt := il_ne c_27
              refine lv_aload_n hx hb dX12_routeOn_113 rfl (lv_at hl 4 rfl) ?_
              refine va_get (D := (dC, dI)) (ci := 12) (v := .ref (ad 7)) (C := RX12) (T := TX12) (N := 46) hx hb hts inG12 hown hK hP 0 (gM_0 cs ad nu20) rfl 9 (by decide) (hts _ (List.mem_cons_of_mem _ mw_5_50)) (fun _ h9 => h9) rfl dX12_routeOn_114 ?_
              refine lv_iload hx hb dX12_routeOn_117 (lv_at hl 0 rfl) ?_
              refine va_iald hx hb hK hP 7 0 (gM_7 cs ad nu20) rfl (show vp_in v7_34 7 from vi_of (by omega) (by omega)) dX12_routeOn_119 ?_
              refine lv_topi (fun y28 ey28 => ?_)
              have by28 : y28.toInt = (nu20 7 v7_34.toNatClampNeg).toInt := congrArg Int32.toInt ey28
              refine lv_iconst (v := 3) hx hb dX12_routeOn_120 (by decide) ?_
              refine lv_icmp_eq (tgt := 139) hx hb dX12_routeOn_121 (by decide) (fun c_29 => ?_) (fun c_29 => ?_)
              · have c_29 : y28.toInt = 3 := il_eq c_29
                refine lv_iinc (v := (v7_34 + 1)) (lv' := [(7, .int (v7_34 + 1)), (6, .int t8), (5, .int r5), (4, .int y4), (0, .ref (ad 0)), (1, .int 5), (2, .int vh), (3, .int vp)]) hx hb dX12_routeOn_139 hl (k := 0) rfl rfl (by decide) rfl (fun ls hl => ?_)
                refine loc_gen (P := fun w9 => lv_has ls 8 [(7, .int w9), (6, .int t8), (5, .int r5), (4, .int y4), (0, .ref (ad 0)), (1, .int 5), (2, .int vh), (3, .int vp)]) (v7_34 + 1) hl (fun w30 hw30 hl => ?_)
                have hl : lv_has ls 8 [(7, .int w30), (6, .int t8), (5, .int r5), (4, .int y4), (0, .ref (ad 0)), (1, .int 5), (2, .int vh), (3, .int vp)] := hl
                have aw30 : w30.toInt = v7_34.toInt + 1 := by rw [← hw30]; exact tI_add (rfl : v7_34.toInt = _) (rfl : (1 : Int32).toInt = 1) (by omega) (by omega)
                refine lv_goto (tgt := 34) hx hb dX12_routeOn_142 (by decide) ?_
                exact ih34 (w30) nu20 _ _ _ (by omega) (by exact ⟨by omega, by omega⟩) (by have hb31 := congrArg Int32.toInt ez21; have hb32 := congrArg Int32.toInt ez22; have hb33 := congrArg Int32.toInt ez23; omega) ok hP   hS (lv_sub hl [0, 1, 2, 3, 4, 5, 6, 7] rfl)
              · have c_29 : ¬ y28.toInt = 3 := il_ne c_29
                refine lv_aload_n hx hb dX12_routeOn_124 rfl (lv_at hl 4 rfl) ?_
                refine lv_iload_n hx hb dX12_routeOn_125 rfl (lv_at hl 5 rfl) ?_
                refine lv_iconst (v := 1) hx hb dX12_routeOn_126 (by decide) ?_
                refine lv_iadd hx hb dX12_routeOn_127 ?_
                refine lq_i 6 (by decide) ?_
                refine lv_iload_n hx hb dX12_routeOn_128 rfl (lv_at hl 6 rfl) ?_
                refine lv_iconst (v := 1) hx hb dX12_routeOn_129 (by decide) ?_
                refine lv_iload hx hb dX12_routeOn_130 (lv_at hl 0 rfl) ?_
                refine lv_ishl hx hb dX12_routeOn_132 ?_
                refine lv_topi (fun t34 et34 => ?_)
                refine lv_ior hx hb dX12_routeOn_133 ?_
                refine lv_topi (fun t35 et35 => ?_)
                refine lv_iload hx hb dX12_routeOn_134 (lv_at hl 2 rfl) ?_
                have hFc := fr_all (wR_D nu20 hD) hS hA
                refine va_callv (va_runV (As := [.int 6, .int t35, .int r5]) (rest := []) ⟨hx, hb, hml, hown, hts⟩ (sm_routeOn6 l dC dI cs ad nu20 ok H hP ((wR_D nu20 hD).weaken (fun _ _ _ _ => trivial)) t35 r5 (by have h50 : (6 : Int32).toInt = 6 := rfl; rw [et35, et34]; exact h7_next hin0 (by rw [et8, et7]) (by omega) (by omega) f17) (by have h50 : (6 : Int32).toInt = 6 := rfl; have hb36 := congrArg Int32.toInt ez21; have hb37 := congrArg Int32.toInt ez22; have hb38 := congrArg Int32.toInt ez23; omega)) (cwV 3 hts (wU_V mw_6_183 mw_6_180 mw_6_182 mw_0_55 mw_1_13) rfl rfl rfl (by decide +kernel) ⟨Nat.le_of_ble_eq_true rfl, Nat.le_of_ble_eq_true rfl⟩) ⟨sz_c, va_recv hK hP (ci := 12) (q0 := 0) rfl (gM_0 cs ad nu20), sz_m hK hz⟩ rfl rfl hl.1 rfl (lv_room (Nat.le_of_ble_eq_true rfl)) dX12_routeOn_136 ⟨Nat.zero_le _, Nat.zero_le _⟩) hS (fun q _ h => hFc q h) hFc (fun xi39 t H39 locs ht hvm hw39 hB hz1 hk1 hS => ?_)
                have hP : va_P (dC, dI) vwCl (wR 21 ad (EM cs ad) xi39) H39 := by rw [← ht]; exact hB
                obtain ⟨ok, hw39, _⟩ := hw39
                obtain ⟨y40, ey40⟩ : ∃ z : Int32, z = xi39 0 39 := ⟨_, rfl⟩
                have by40 : y40.toInt = (xi39 0 39).toInt := congrArg Int32.toInt ey40
                have gy40 : -9 ≤ y40.toInt ∧ y40.toInt ≤ 3 := by rw [ey40]; exact rM_0_39 ok
                obtain ⟨y41, ey41⟩ : ∃ z : Int32, z = xi39 0 33 := ⟨_, rfl⟩
                have by41 : y41.toInt = (xi39 0 33).toInt := congrArg Int32.toInt ey41
                obtain ⟨y42, ey42⟩ : ∃ z : Int32, z = xi39 0 35 := ⟨_, rfl⟩
                have by42 : y42.toInt = (xi39 0 35).toInt := congrArg Int32.toInt ey42
                have gr39 : ((xi39 0 39).toInt = -9 ∨ (0 ≤ (xi39 0 39).toInt ∧ (xi39 0 39).toInt ≤ 3)) ∧ ((xi39 0 33).toInt = 0 ∨ (xi39 0 35).toInt ≤ 7) := hw39
                refine lv_iinc (v := (v7_34 + 1)) (lv' := [(7, .int (v7_34 + 1)), (6, .int t8), (5, .int r5), (4, .int y4), (0, .ref (ad 0)), (1, .int 5), (2, .int vh), (3, .int vp)]) hx hb dX12_routeOn_139 hl (k := 0) rfl rfl (by decide) rfl (fun ls hl => ?_)
                refine loc_gen (P := fun w9 => lv_has ls 8 [(7, .int w9), (6, .int t8), (5, .int r5), (4, .int y4), (0, .ref (ad 0)), (1, .int 5), (2, .int vh), (3, .int vp)]) (v7_34 + 1) hl (fun w43 hw43 hl => ?_)
                have hl : lv_has ls 8 [(7, .int w43), (6, .int t8), (5, .int r5), (4, .int y4), (0, .ref (ad 0)), (1, .int 5), (2, .int vh), (3, .int vp)] := hl
                have aw43 : w43.toInt = v7_34.toInt + 1 := by rw [← hw43]; exact tI_add (rfl : v7_34.toInt = _) (rfl : (1 : Int32).toInt = 1) (by omega) (by omega)
                refine lv_goto (tgt := 34) hx hb dX12_routeOn_142 (by decide) ?_
                exact ih34 (w43) xi39 _ _ _ (by omega) (by exact ⟨by omega, by omega⟩) (by have hb44 := congrArg Int32.toInt ey40; have hb45 := congrArg Int32.toInt ey41; have hb46 := congrArg Int32.toInt ey42; omega) ok hP   hS (lv_sub hl [0, 1, 2, 3, 4, 5, 6, 7] rfl)
            · have c_27 : v7_34.toInt = y26.toInt := il_eq c_27
              refine lv_aload_n hx hb dX12_routeOn_89 rfl (lv_at hl 4 rfl) ?_
              refine lv_iload_n hx hb dX12_routeOn_90 rfl (lv_at hl 5 rfl) ?_
              refine lv_iconst (v := 1) hx hb dX12_routeOn_91 (by decide) ?_
              refine lv_iadd hx hb dX12_routeOn_92 ?_
              refine lq_i 6 (by decide) ?_
              refine lv_iload_n hx hb dX12_routeOn_93 rfl (lv_at hl 6 rfl) ?_
              refine lv_iconst (v := 1) hx hb dX12_routeOn_94 (by decide) ?_
              refine lv_aload_n hx hb dX12_routeOn_95 rfl (lv_at hl 4 rfl) ?_
              refine va_get (D := (dC, dI)) (ci := 12) (v := .ref (ad 16)) (C := RX12) (T := TX12) (N := 46) hx hb hts inG12 hown hK hP 0 (gM_0 cs ad nu20) rfl 26 (by decide) (hts _ (List.mem_cons_of_mem _ mw_5_67)) (fun _ h9 => h9) rfl dX12_routeOn_96 ?_
              refine lv_iconst (v := 0) hx hb dX12_routeOn_99 (by decide) ?_
              refine va_iald hx hb hK hP 16 0 (gM_16 cs ad nu20) rfl (show vp_in 0 7 from (by unfold vp_in; decide)) dX12_routeOn_100 ?_
              refine lv_topi (fun y47 ey47 => ?_)
              have by47 : y47.toInt = (nu20 16 (0 : Int32).toNatClampNeg).toInt := congrArg Int32.toInt ey47
              have gy47 : 0 ≤ y47.toInt ∧ y47.toInt ≤ 6 := by rw [ey47]; exact rM_16_s ok (0 : Int32).toNatClampNeg
              refine lv_ishl hx hb dX12_routeOn_101 ?_
              refine lv_topi (fun t48 et48 => ?_)
              refine lv_iconst (v := (-1)) hx hb dX12_routeOn_102 (by decide) ?_
              refine lv_ixor hx hb dX12_routeOn_103 ?_
              refine lv_topi (fun t49 et49 => ?_)
              refine lv_iand hx hb dX12_routeOn_104 ?_
              refine lv_topi (fun t50 et50 => ?_)
              refine lv_iload hx hb dX12_routeOn_105 (lv_at hl 2 rfl) ?_
              have hFc := fr_all (wR_D nu20 hD) hS hA
              refine va_callv (va_runV (As := [.int 6, .int t50, .int r5]) (rest := []) ⟨hx, hb, hml, hown, hts⟩ (sm_meetRoute l dC dI cs ad nu20 ok H hP ((wR_D nu20 hD).weaken (fun _ _ _ _ => trivial)) 6 t50 r5 (by have h50 : (6 : Int32).toInt = 6 := rfl; omega) (by have h50 : (6 : Int32).toInt = 6 := rfl; have hb51 := congrArg Int32.toInt ez21; have hb52 := congrArg Int32.toInt ez22; have hb53 := congrArg Int32.toInt ez23; omega)) (cwV 3 hts (wU_V mw_6_187 mw_6_184 mw_6_186 mw_0_56 mw_1_13) rfl rfl rfl (by decide +kernel) ⟨Nat.le_of_ble_eq_true rfl, Nat.le_of_ble_eq_true rfl⟩) ⟨sz_c, va_recv hK hP (ci := 12) (q0 := 0) rfl (gM_0 cs ad nu20), sz_m hK hz⟩ rfl rfl hl.1 rfl (lv_room (Nat.le_of_ble_eq_true rfl)) dX12_routeOn_107 ⟨Nat.zero_le _, Nat.zero_le _⟩) hS (fun q _ h => hFc q h) hFc (fun xi54 t H54 locs ht hvm hw54 hB hz1 hk1 hS => ?_)
              have hP : va_P (dC, dI) vwCl (wR 21 ad (EM cs ad) xi54) H54 := by rw [← ht]; exact hB
              obtain ⟨ok, hw54, _⟩ := hw54
              obtain ⟨y55, ey55⟩ : ∃ z : Int32, z = xi54 0 39 := ⟨_, rfl⟩
              have by55 : y55.toInt = (xi54 0 39).toInt := congrArg Int32.toInt ey55
              have gy55 : -9 ≤ y55.toInt ∧ y55.toInt ≤ 3 := by rw [ey55]; exact rM_0_39 ok
              obtain ⟨y56, ey56⟩ : ∃ z : Int32, z = xi54 0 33 := ⟨_, rfl⟩
              have by56 : y56.toInt = (xi54 0 33).toInt := congrArg Int32.toInt ey56
              obtain ⟨y57, ey57⟩ : ∃ z : Int32, z = xi54 0 35 := ⟨_, rfl⟩
              have by57 : y57.toInt = (xi54 0 35).toInt := congrArg Int32.toInt ey57
              have gr54 : ((xi54 0 39).toInt = -9 ∨ (0 ≤ (xi54 0 39).toInt ∧ (xi54 0 39).toInt ≤ 3)) ∧ ((xi54 0 33).toInt = 0 ∨ (xi54 0 35).toInt ≤ 7) := hw54
              refine lv_goto (tgt := 139) hx hb dX12_routeOn_110 (by decide) ?_
              refine lv_iinc (v := (v7_34 + 1)) (lv' := [(7, .int (v7_34 + 1)), (6, .int t8), (5, .int r5), (4, .int y4), (0, .ref (ad 0)), (1, .int 5), (2, .int vh), (3, .int vp)]) hx hb dX12_routeOn_139 hl (k := 0) rfl rfl (by decide) rfl (fun ls hl => ?_)
              refine loc_gen (P := fun w9 => lv_has ls 8 [(7, .int w9), (6, .int t8), (5, .int r5), (4, .int y4), (0, .ref (ad 0)), (1, .int 5), (2, .int vh), (3, .int vp)]) (v7_34 + 1) hl (fun w58 hw58 hl => ?_)
              have hl : lv_has ls 8 [(7, .int w58), (6, .int t8), (5, .int r5), (4, .int y4), (0, .ref (ad 0)), (1, .int 5), (2, .int vh), (3, .int vp)] := hl
              have aw58 : w58.toInt = v7_34.toInt + 1 := by rw [← hw58]; exact tI_add (rfl : v7_34.toInt = _) (rfl : (1 : Int32).toInt = 1) (by omega) (by omega)
              refine lv_goto (tgt := 34) hx hb dX12_routeOn_142 (by decide) ?_
              exact ih34 (w58) xi54 _ _ _ (by omega) (by exact ⟨by omega, by omega⟩) (by have hb59 := congrArg Int32.toInt ey55; have hb60 := congrArg Int32.toInt ey56; have hb61 := congrArg Int32.toInt ey57; omega) ok hP   hS (lv_sub hl [0, 1, 2, 3, 4, 5, 6, 7] rfl)
          · have c_19 : ¬ y18.toInt = 0 := il_ne c_19
            refine lv_aload_n hx hb dX12_routeOn_60 rfl (lv_at hl 4 rfl) ?_
            refine va_get (D := (dC, dI)) (ci := 12) (v := .ref (ad 8)) (C := RX12) (T := TX12) (N := 46) hx hb hts inG12 hown hK hP 0 (gM_0 cs ad nu34_) rfl 10 (by decide) (hts _ (List.mem_cons_of_mem _ mw_5_51)) (fun _ h9 => h9) rfl dX12_routeOn_61 ?_
            refine lv_iload hx hb dX12_routeOn_64 (lv_at hl 0 rfl) ?_
            refine va_iald hx hb hK hP 8 0 (gM_8 cs ad nu34_) rfl (show vp_in v7_34 7 from vi_of (by omega) (by omega)) dX12_routeOn_66 ?_
            refine lv_topi (fun y62 ey62 => ?_)
            have by62 : y62.toInt = (nu34_ 8 v7_34.toNatClampNeg).toInt := congrArg Int32.toInt ey62
            refine lv_iload hx hb dX12_routeOn_67 (lv_at hl 2 rfl) ?_
            refine lv_icmp_lt (tgt := 139) hx hb dX12_routeOn_69 (by decide) (fun c_63 => ?_) (fun c_63 => ?_)
            · have c_63 : y62.toInt < r5.toInt := il_lt c_63
              refine lv_iinc (v := (v7_34 + 1)) (lv' := [(7, .int (v7_34 + 1)), (6, .int t8), (5, .int r5), (4, .int y4), (0, .ref (ad 0)), (1, .int 5), (2, .int vh), (3, .int vp)]) hx hb dX12_routeOn_139 hl (k := 0) rfl rfl (by decide) rfl (fun ls hl => ?_)
              refine loc_gen (P := fun w9 => lv_has ls 8 [(7, .int w9), (6, .int t8), (5, .int r5), (4, .int y4), (0, .ref (ad 0)), (1, .int 5), (2, .int vh), (3, .int vp)]) (v7_34 + 1) hl (fun w64 hw64 hl => ?_)
              have hl : lv_has ls 8 [(7, .int w64), (6, .int t8), (5, .int r5), (4, .int y4), (0, .ref (ad 0)), (1, .int 5), (2, .int vh), (3, .int vp)] := hl
              have aw64 : w64.toInt = v7_34.toInt + 1 := by rw [← hw64]; exact tI_add (rfl : v7_34.toInt = _) (rfl : (1 : Int32).toInt = 1) (by omega) (by omega)
              refine lv_goto (tgt := 34) hx hb dX12_routeOn_142 (by decide) ?_
              exact ih34 (w64) nu34_ _ _ _ (by omega) (by exact ⟨by omega, by omega⟩) (by have hb65 := congrArg Int32.toInt ey9; have hb66 := congrArg Int32.toInt ey10; have hb67 := congrArg Int32.toInt ey11; omega) ok hP   hS (lv_sub hl [0, 1, 2, 3, 4, 5, 6, 7] rfl)
            · have c_63 : r5.toInt ≤ y62.toInt := il_nlt c_63
              refine lv_aload_n hx hb dX12_routeOn_72 rfl (lv_at hl 4 rfl) ?_
              refine va_get (D := (dC, dI)) (ci := 12) (v := .ref (ad 16)) (C := RX12) (T := TX12) (N := 46) hx hb hts inG12 hown hK hP 0 (gM_0 cs ad nu34_) rfl 26 (by decide) (hts _ (List.mem_cons_of_mem _ mw_5_67)) (fun _ h9 => h9) rfl dX12_routeOn_73 ?_
              refine lv_iload_n hx hb dX12_routeOn_76 rfl (lv_at hl 5 rfl) ?_
              refine lv_iload hx hb dX12_routeOn_77 (lv_at hl 0 rfl) ?_
              refine va_iast hx hb hK hP (wR_D nu34_ hD) hS 16 0 (gM_16 cs ad nu34_) rfl (show vp_in 5 7 from (by unfold vp_in; decide)) dX12_routeOn_79 (fun H locs hP _ hS => ?_)
              refine wr_gen (upd (nu34_ 16) (5 : Int32).toNatClampNeg v7_34) hP (rfl) (fun nu68 hn68 hP => ?_)
              have ok := tM_16_s ok (5 : Int32).toNatClampNeg hn68 (by exact ⟨by omega, by omega⟩)
              have ez69 : y9 = nu68 0 39 := ey9.trans (congrFun (up_k hn68 (by decide)) 39).symm
              have ez70 : y10 = nu68 0 33 := ey10.trans (congrFun (up_k hn68 (by decide)) 33).symm
              have ez71 : y11 = nu68 0 35 := ey11.trans (congrFun (up_k hn68 (by decide)) 35).symm
              have ez72 : y12 = nu68 0 8 := ey12.trans (congrFun (up_k hn68 (by decide)) 8).symm
              have ez73 : y18 = nu68 0 38 := ey18.trans (congrFun (up_k hn68 (by decide)) 38).symm
              have ez74 : y62 = nu68 8 v7_34.toNatClampNeg := ey62.trans (congrFun (up_k hn68 (by decide)) v7_34.toNatClampNeg).symm
              refine lv_iload hx hb dX12_routeOn_80 (lv_at hl 0 rfl) ?_
              refine lv_aload_n hx hb dX12_routeOn_82 rfl (lv_at hl 4 rfl) ?_
              refine va_get (D := (dC, dI)) (ci := 12) (v := .int (nu68 0 29)) (C := RX12) (T := TX12) (N := 46) hx hb hts inG12 hown hK hP 0 (gM_0 cs ad nu68) rfl 29 (by decide) (hts _ (List.mem_cons_of_mem _ mw_5_70)) (fun _ h9 => h9) rfl dX12_routeOn_83 ?_
              refine lv_topi (fun y75 ey75 => ?_)
              have by75 : y75.toInt = (nu68 0 29).toInt := congrArg Int32.toInt ey75
              refine lv_icmp_ne (tgt := 113) hx hb dX12_routeOn_86 (by decide) (fun c_76 => ?_) (fun c_76 => ?_)
              · have c_76 : ¬ v7_34.toInt = y75.toInt := il_ne c_76
                refine lv_aload_n hx hb dX12_routeOn_113 rfl (lv_at hl 4 rfl) ?_
                refine va_get (D := (dC, dI)) (ci := 12) (v := .ref (ad 7)) (C := RX12) (T := TX12) (N := 46) hx hb hts inG12 hown hK hP 0 (gM_0 cs ad nu68) rfl 9 (by decide) (hts _ (List.mem_cons_of_mem _ mw_5_50)) (fun _ h9 => h9) rfl dX12_routeOn_114 ?_
                refine lv_iload hx hb dX12_routeOn_117 (lv_at hl 0 rfl) ?_
                refine va_iald hx hb hK hP 7 0 (gM_7 cs ad nu68) rfl (show vp_in v7_34 7 from vi_of (by omega) (by omega)) dX12_routeOn_119 ?_
                refine lv_topi (fun y77 ey77 => ?_)
                have by77 : y77.toInt = (nu68 7 v7_34.toNatClampNeg).toInt := congrArg Int32.toInt ey77
                refine lv_iconst (v := 3) hx hb dX12_routeOn_120 (by decide) ?_
                refine lv_icmp_eq (tgt := 139) hx hb dX12_routeOn_121 (by decide) (fun c_78 => ?_) (fun c_78 => ?_)
                · have c_78 : y77.toInt = 3 := il_eq c_78
                  refine lv_iinc (v := (v7_34 + 1)) (lv' := [(7, .int (v7_34 + 1)), (6, .int t8), (5, .int r5), (4, .int y4), (0, .ref (ad 0)), (1, .int 5), (2, .int vh), (3, .int vp)]) hx hb dX12_routeOn_139 hl (k := 0) rfl rfl (by decide) rfl (fun ls hl => ?_)
                  refine loc_gen (P := fun w9 => lv_has ls 8 [(7, .int w9), (6, .int t8), (5, .int r5), (4, .int y4), (0, .ref (ad 0)), (1, .int 5), (2, .int vh), (3, .int vp)]) (v7_34 + 1) hl (fun w79 hw79 hl => ?_)
                  have hl : lv_has ls 8 [(7, .int w79), (6, .int t8), (5, .int r5), (4, .int y4), (0, .ref (ad 0)), (1, .int 5), (2, .int vh), (3, .int vp)] := hl
                  have aw79 : w79.toInt = v7_34.toInt + 1 := by rw [← hw79]; exact tI_add (rfl : v7_34.toInt = _) (rfl : (1 : Int32).toInt = 1) (by omega) (by omega)
                  refine lv_goto (tgt := 34) hx hb dX12_routeOn_142 (by decide) ?_
                  exact ih34 (w79) nu68 _ _ _ (by omega) (by exact ⟨by omega, by omega⟩) (by have hb80 := congrArg Int32.toInt ez69; have hb81 := congrArg Int32.toInt ez70; have hb82 := congrArg Int32.toInt ez71; omega) ok hP   hS (lv_sub hl [0, 1, 2, 3, 4, 5, 6, 7] rfl)
                · have c_78 : ¬ y77.toInt = 3 := il_ne c_78
                  refine lv_aload_n hx hb dX12_routeOn_124 rfl (lv_at hl 4 rfl) ?_
                  refine lv_iload_n hx hb dX12_routeOn_125 rfl (lv_at hl 5 rfl) ?_
                  refine lv_iconst (v := 1) hx hb dX12_routeOn_126 (by decide) ?_
                  refine lv_iadd hx hb dX12_routeOn_127 ?_
                  refine lq_i 6 (by decide) ?_
                  refine lv_iload_n hx hb dX12_routeOn_128 rfl (lv_at hl 6 rfl) ?_
                  refine lv_iconst (v := 1) hx hb dX12_routeOn_129 (by decide) ?_
                  refine lv_iload hx hb dX12_routeOn_130 (lv_at hl 0 rfl) ?_
                  refine lv_ishl hx hb dX12_routeOn_132 ?_
                  refine lv_topi (fun t83 et83 => ?_)
                  refine lv_ior hx hb dX12_routeOn_133 ?_
                  refine lv_topi (fun t84 et84 => ?_)
                  refine lv_iload hx hb dX12_routeOn_134 (lv_at hl 2 rfl) ?_
                  have hFc := fr_all (wR_D nu68 hD) hS hA
                  refine va_callv (va_runV (As := [.int 6, .int t84, .int r5]) (rest := []) ⟨hx, hb, hml, hown, hts⟩ (sm_routeOn6 l dC dI cs ad nu68 ok H hP ((wR_D nu68 hD).weaken (fun _ _ _ _ => trivial)) t84 r5 (by have h50 : (6 : Int32).toInt = 6 := rfl; rw [et84, et83]; exact h7_next hin0 (by rw [et8, et7]) (by omega) (by omega) f17) (by have h50 : (6 : Int32).toInt = 6 := rfl; have hb85 := congrArg Int32.toInt ez69; have hb86 := congrArg Int32.toInt ez70; have hb87 := congrArg Int32.toInt ez71; omega)) (cwV 3 hts (wU_V mw_6_183 mw_6_180 mw_6_182 mw_0_55 mw_1_13) rfl rfl rfl (by decide +kernel) ⟨Nat.le_of_ble_eq_true rfl, Nat.le_of_ble_eq_true rfl⟩) ⟨sz_c, va_recv hK hP (ci := 12) (q0 := 0) rfl (gM_0 cs ad nu68), sz_m hK hz⟩ rfl rfl hl.1 rfl (lv_room (Nat.le_of_ble_eq_true rfl)) dX12_routeOn_136 ⟨Nat.zero_le _, Nat.zero_le _⟩) hS (fun q _ h => hFc q h) hFc (fun xi88 t H88 locs ht hvm hw88 hB hz1 hk1 hS => ?_)
                  have hP : va_P (dC, dI) vwCl (wR 21 ad (EM cs ad) xi88) H88 := by rw [← ht]; exact hB
                  obtain ⟨ok, hw88, _⟩ := hw88
                  obtain ⟨y89, ey89⟩ : ∃ z : Int32, z = xi88 0 39 := ⟨_, rfl⟩
                  have by89 : y89.toInt = (xi88 0 39).toInt := congrArg Int32.toInt ey89
                  have gy89 : -9 ≤ y89.toInt ∧ y89.toInt ≤ 3 := by rw [ey89]; exact rM_0_39 ok
                  obtain ⟨y90, ey90⟩ : ∃ z : Int32, z = xi88 0 33 := ⟨_, rfl⟩
                  have by90 : y90.toInt = (xi88 0 33).toInt := congrArg Int32.toInt ey90
                  obtain ⟨y91, ey91⟩ : ∃ z : Int32, z = xi88 0 35 := ⟨_, rfl⟩
                  have by91 : y91.toInt = (xi88 0 35).toInt := congrArg Int32.toInt ey91
                  have gr88 : ((xi88 0 39).toInt = -9 ∨ (0 ≤ (xi88 0 39).toInt ∧ (xi88 0 39).toInt ≤ 3)) ∧ ((xi88 0 33).toInt = 0 ∨ (xi88 0 35).toInt ≤ 7) := hw88
                  refine lv_iinc (v := (v7_34 + 1)) (lv' := [(7, .int (v7_34 + 1)), (6, .int t8), (5, .int r5), (4, .int y4), (0, .ref (ad 0)), (1, .int 5), (2, .int vh), (3, .int vp)]) hx hb dX12_routeOn_139 hl (k := 0) rfl rfl (by decide) rfl (fun ls hl => ?_)
                  refine loc_gen (P := fun w9 => lv_has ls 8 [(7, .int w9), (6, .int t8), (5, .int r5), (4, .int y4), (0, .ref (ad 0)), (1, .int 5), (2, .int vh), (3, .int vp)]) (v7_34 + 1) hl (fun w92 hw92 hl => ?_)
                  have hl : lv_has ls 8 [(7, .int w92), (6, .int t8), (5, .int r5), (4, .int y4), (0, .ref (ad 0)), (1, .int 5), (2, .int vh), (3, .int vp)] := hl
                  have aw92 : w92.toInt = v7_34.toInt + 1 := by rw [← hw92]; exact tI_add (rfl : v7_34.toInt = _) (rfl : (1 : Int32).toInt = 1) (by omega) (by omega)
                  refine lv_goto (tgt := 34) hx hb dX12_routeOn_142 (by decide) ?_
                  exact ih34 (w92) xi88 _ _ _ (by omega) (by exact ⟨by omega, by omega⟩) (by have hb93 := congrArg Int32.toInt ey89; have hb94 := congrArg Int32.toInt ey90; have hb95 := congrArg Int32.toInt ey91; omega) ok hP   hS (lv_sub hl [0, 1, 2, 3, 4, 5, 6, 7] rfl)
              · have c_76 : v7_34.toInt = y75.toInt := il_eq c_76
                refine lv_aload_n hx hb dX12_routeOn_89 rfl (lv_at hl 4 rfl) ?_
                refine lv_iload_n hx hb dX12_routeOn_90 rfl (lv_at hl 5 rfl) ?_
                refine lv_iconst (v := 1) hx hb dX12_routeOn_91 (by decide) ?_
                refine lv_iadd hx hb dX12_routeOn_92 ?_
                refine lq_i 6 (by decide) ?_
                refine lv_iload_n hx hb dX12_routeOn_93 rfl (lv_at hl 6 rfl) ?_
                refine lv_iconst (v := 1) hx hb dX12_routeOn_94 (by decide) ?_
                refine lv_aload_n hx hb dX12_routeOn_95 rfl (lv_at hl 4 rfl) ?_
                refine va_get (D := (dC, dI)) (ci := 12) (v := .ref (ad 16)) (C := RX12) (T := TX12) (N := 46) hx hb hts inG12 hown hK hP 0 (gM_0 cs ad nu68) rfl 26 (by decide) (hts _ (List.mem_cons_of_mem _ mw_5_67)) (fun _ h9 => h9) rfl dX12_routeOn_96 ?_
                refine lv_iconst (v := 0) hx hb dX12_routeOn_99 (by decide) ?_
                refine va_iald hx hb hK hP 16 0 (gM_16 cs ad nu68) rfl (show vp_in 0 7 from (by unfold vp_in; decide)) dX12_routeOn_100 ?_
                refine lv_topi (fun y96 ey96 => ?_)
                have by96 : y96.toInt = (nu68 16 (0 : Int32).toNatClampNeg).toInt := congrArg Int32.toInt ey96
                have gy96 : 0 ≤ y96.toInt ∧ y96.toInt ≤ 6 := by rw [ey96]; exact rM_16_s ok (0 : Int32).toNatClampNeg
                refine lv_ishl hx hb dX12_routeOn_101 ?_
                refine lv_topi (fun t97 et97 => ?_)
                refine lv_iconst (v := (-1)) hx hb dX12_routeOn_102 (by decide) ?_
                refine lv_ixor hx hb dX12_routeOn_103 ?_
                refine lv_topi (fun t98 et98 => ?_)
                refine lv_iand hx hb dX12_routeOn_104 ?_
                refine lv_topi (fun t99 et99 => ?_)
                refine lv_iload hx hb dX12_routeOn_105 (lv_at hl 2 rfl) ?_
                have hFc := fr_all (wR_D nu68 hD) hS hA
                refine va_callv (va_runV (As := [.int 6, .int t99, .int r5]) (rest := []) ⟨hx, hb, hml, hown, hts⟩ (sm_meetRoute l dC dI cs ad nu68 ok H hP ((wR_D nu68 hD).weaken (fun _ _ _ _ => trivial)) 6 t99 r5 (by have h50 : (6 : Int32).toInt = 6 := rfl; omega) (by have h50 : (6 : Int32).toInt = 6 := rfl; have hb100 := congrArg Int32.toInt ez69; have hb101 := congrArg Int32.toInt ez70; have hb102 := congrArg Int32.toInt ez71; omega)) (cwV 3 hts (wU_V mw_6_187 mw_6_184 mw_6_186 mw_0_56 mw_1_13) rfl rfl rfl (by decide +kernel) ⟨Nat.le_of_ble_eq_true rfl, Nat.le_of_ble_eq_true rfl⟩) ⟨sz_c, va_recv hK hP (ci := 12) (q0 := 0) rfl (gM_0 cs ad nu68), sz_m hK hz⟩ rfl rfl hl.1 rfl (lv_room (Nat.le_of_ble_eq_true rfl)) dX12_routeOn_107 ⟨Nat.zero_le _, Nat.zero_le _⟩) hS (fun q _ h => hFc q h) hFc (fun xi103 t H103 locs ht hvm hw103 hB hz1 hk1 hS => ?_)
                have hP : va_P (dC, dI) vwCl (wR 21 ad (EM cs ad) xi103) H103 := by rw [← ht]; exact hB
                obtain ⟨ok, hw103, _⟩ := hw103
                obtain ⟨y104, ey104⟩ : ∃ z : Int32, z = xi103 0 39 := ⟨_, rfl⟩
                have by104 : y104.toInt = (xi103 0 39).toInt := congrArg Int32.toInt ey104
                have gy104 : -9 ≤ y104.toInt ∧ y104.toInt ≤ 3 := by rw [ey104]; exact rM_0_39 ok
                obtain ⟨y105, ey105⟩ : ∃ z : Int32, z = xi103 0 33 := ⟨_, rfl⟩
                have by105 : y105.toInt = (xi103 0 33).toInt := congrArg Int32.toInt ey105
                obtain ⟨y106, ey106⟩ : ∃ z : Int32, z = xi103 0 35 := ⟨_, rfl⟩
                have by106 : y106.toInt = (xi103 0 35).toInt := congrArg Int32.toInt ey106
                have gr103 : ((xi103 0 39).toInt = -9 ∨ (0 ≤ (xi103 0 39).toInt ∧ (xi103 0 39).toInt ≤ 3)) ∧ ((xi103 0 33).toInt = 0 ∨ (xi103 0 35).toInt ≤ 7) := hw103
                refine lv_goto (tgt := 139) hx hb dX12_routeOn_110 (by decide) ?_
                refine lv_iinc (v := (v7_34 + 1)) (lv' := [(7, .int (v7_34 + 1)), (6, .int t8), (5, .int r5), (4, .int y4), (0, .ref (ad 0)), (1, .int 5), (2, .int vh), (3, .int vp)]) hx hb dX12_routeOn_139 hl (k := 0) rfl rfl (by decide) rfl (fun ls hl => ?_)
                refine loc_gen (P := fun w9 => lv_has ls 8 [(7, .int w9), (6, .int t8), (5, .int r5), (4, .int y4), (0, .ref (ad 0)), (1, .int 5), (2, .int vh), (3, .int vp)]) (v7_34 + 1) hl (fun w107 hw107 hl => ?_)
                have hl : lv_has ls 8 [(7, .int w107), (6, .int t8), (5, .int r5), (4, .int y4), (0, .ref (ad 0)), (1, .int 5), (2, .int vh), (3, .int vp)] := hl
                have aw107 : w107.toInt = v7_34.toInt + 1 := by rw [← hw107]; exact tI_add (rfl : v7_34.toInt = _) (rfl : (1 : Int32).toInt = 1) (by omega) (by omega)
                refine lv_goto (tgt := 34) hx hb dX12_routeOn_142 (by decide) ?_
                exact ih34 (w107) xi103 _ _ _ (by omega) (by exact ⟨by omega, by omega⟩) (by have hb108 := congrArg Int32.toInt ey104; have hb109 := congrArg Int32.toInt ey105; have hb110 := congrArg Int32.toInt ey106; omega) ok hP   hS (lv_sub hl [0, 1, 2, 3, 4, 5, 6, 7] rfl)
        · have f17 : ¬ rb t8 v7_34 = 1 := f17
          refine lv_if_eq (tgt := 139) hx hb dX12_routeOn_50 (by decide) (fun _ => ?_) (fun c => absurd (by decide) c)
          refine lv_iinc (v := (v7_34 + 1)) (lv' := [(7, .int (v7_34 + 1)), (6, .int t8), (5, .int r5), (4, .int y4), (0, .ref (ad 0)), (1, .int 5), (2, .int vh), (3, .int vp)]) hx hb dX12_routeOn_139 hl (k := 0) rfl rfl (by decide) rfl (fun ls hl => ?_)
          refine loc_gen (P := fun w9 => lv_has ls 8 [(7, .int w9), (6, .int t8), (5, .int r5), (4, .int y4), (0, .ref (ad 0)), (1, .int 5), (2, .int vh), (3, .int vp)]) (v7_34 + 1) hl (fun w111 hw111 hl => ?_)
          have hl : lv_has ls 8 [(7, .int w111), (6, .int t8), (5, .int r5), (4, .int y4), (0, .ref (ad 0)), (1, .int 5), (2, .int vh), (3, .int vp)] := hl
          have aw111 : w111.toInt = v7_34.toInt + 1 := by rw [← hw111]; exact tI_add (rfl : v7_34.toInt = _) (rfl : (1 : Int32).toInt = 1) (by omega) (by omega)
          refine lv_goto (tgt := 34) hx hb dX12_routeOn_142 (by decide) ?_
          exact ih34 (w111) nu34_ _ _ _ (by omega) (by exact ⟨by omega, by omega⟩) (by have hb112 := congrArg Int32.toInt ey9; have hb113 := congrArg Int32.toInt ey10; have hb114 := congrArg Int32.toInt ey11; omega) ok hP   hS (lv_sub hl [0, 1, 2, 3, 4, 5, 6, 7] rfl)
  exact loop34 ((7 + 1 - (0 : Int32).toInt).toNat + 1) (0) mu _ _ _ (Nat.lt_succ_self _) (by have h80 : (0 : Int32).toInt = 0 := rfl; exact ⟨by omega, by omega⟩) (by have h80 : (0 : Int32).toInt = 0 := rfl; have hb115 := congrArg Int32.toInt ey1; have hb116 := congrArg Int32.toInt ey2; have hb117 := congrArg Int32.toInt ey3; omega) ok hP   hS hl
set_option maxHeartbeats 4000000 in
set_option maxRecDepth 100000 in
/-- sm_routeOn4 -/
theorem sm_routeOn4 (l : Launch) (dC : Nat → ClassId) (dI : Nat → Nat → Nat) (cs : Nat → ClassId) (ad : Nat → Nat) (mu : Nat → Nat → Int32) (ok : okR loM hiM mu) (H : Heap) (hP : va_P (dC, dI) vwCl (wR 21 ad (EM cs ad) mu) H) (hD0 : va_D (fun _ => True) (wR 21 ad (EM cs ad) mu)) (vh : Int32) (vp : Int32) (hin0 : h7 4 vh) (hin1 : ((mu 0 39).toInt = -9 ∨ (0 ≤ (mu 0 39).toInt ∧ (mu 0 39).toInt ≤ 3)) ∧ ((mu 0 33).toInt = 0 ∨ (mu 0 35).toInt ≤ 7)) : Met l yX12_routeOn (wU yX12_routeOn cX12_routeOn 8 none) ({ frames := 5, cells := 0, slots := 0, locals := 127 }) (va_Pc [.ref (ad 0), .int 4, .int vh, .int vp] (sz_P (dC, dI) vwCl (tyM cs) H)) (va_Qv (fun (xi : Nat → Nat → Int32) => okR loM hiM xi ∧ (((xi 0 39).toInt = -9 ∨ (0 ≤ (xi 0 39).toInt ∧ (xi 0 39).toInt ≤ 3)) ∧ ((xi 0 33).toInt = 0 ∨ (xi 0 35).toInt ≤ 7)) ∧ True) (fun xi t => va_P (dC, dI) vwCl (wR 21 ad (EM cs ad) xi) t.heap) (va_A (wR 21 ad (EM cs ad) mu) H.size)) 0 0 (va_A (wR 21 ad (EM cs ad) mu) H.size) := by
  refine Met.ofW (cc := cX12_routeOn) (maxL := 8) (ret := none) (by decide) rfl ?_
  intro p e s m args below meth c s₁ B hml hv
  obtain ⟨rfl, hh, hK, hz⟩ := hv
  have hx := B.exec
  have hb := B.bytes
  have hr := B.returns
  have hts := atoms_spec (ws := (wU yX12_routeOn cX12_routeOn 8 none)) B.pre
  have hown : s.vm.findClass RX12 = some m.cls := findClass_of_methodNamed B.named
  have hlocks := B.notSynchronized
  subst hh
  have hD := hD0.self (sz := s.heap.size)
  have hA : ∀ q : Nat, s.heap.size ≤ q → (va_A (wR 21 ad (EM cs ad) mu) s.heap.size) q := fun q h => Or.inr h
  have hS : va_S (va_A (wR 21 ad (EM cs ad) mu) s.heap.size) s.heap s.heap [] := va_S.rf
  have hl := lv_entry ([.ref (ad 0), .int 4, .int vh, .int vp]) (n := 8) (Nat.le_of_ble_eq_true rfl)
  rw [lg_entry_eq]
  generalize (lg_sl ([.ref (ad 0), .int 4, .int vh, .int vp]) ++ List.replicate (8 - (lg_sl ([.ref (ad 0), .int 4, .int vh, .int vp])).length) Slot.unset).toArray = ls at hl ⊢
  have hl : lv_has ls 8 [(0, .ref (ad 0)), (1, .int 4), (2, .int vh), (3, .int vp)] := hl
  obtain ⟨y1, ey1⟩ : ∃ z : Int32, z = mu 0 39 := ⟨_, rfl⟩
  have by1 : y1.toInt = (mu 0 39).toInt := congrArg Int32.toInt ey1
  have gy1 : -9 ≤ y1.toInt ∧ y1.toInt ≤ 3 := by rw [ey1]; exact rM_0_39 ok
  obtain ⟨y2, ey2⟩ : ∃ z : Int32, z = mu 0 33 := ⟨_, rfl⟩
  have by2 : y2.toInt = (mu 0 33).toInt := congrArg Int32.toInt ey2
  obtain ⟨y3, ey3⟩ : ∃ z : Int32, z = mu 0 35 := ⟨_, rfl⟩
  have by3 : y3.toInt = (mu 0 35).toInt := congrArg Int32.toInt ey3
  refine lv_aload_n hx hb dX12_routeOn_0 rfl (lv_at hl 0 rfl) ?_
  refine va_get (D := (dC, dI)) (ci := 12) (v := .ref (ad 16)) (C := RX12) (T := TX12) (N := 46) hx hb hts inG12 hown hK hP 0 (gM_0 cs ad mu) rfl 26 (by decide) (hts _ (List.mem_cons_of_mem _ mw_5_67)) (fun _ h9 => h9) rfl dX12_routeOn_1 ?_
  refine lv_iload_n hx hb dX12_routeOn_4 rfl (lv_at hl 1 rfl) ?_
  refine lv_iconst (v := 1) hx hb dX12_routeOn_5 (by decide) ?_
  refine lv_isub hx hb dX12_routeOn_6 ?_
  refine lq_i 3 (by decide) ?_
  refine va_iald hx hb hK hP 16 0 (gM_16 cs ad mu) rfl (show vp_in 3 7 from (by unfold vp_in; decide)) dX12_routeOn_7 ?_
  refine lv_topi (fun y4 ey4 => ?_)
  have by4 : y4.toInt = (mu 16 (3 : Int32).toNatClampNeg).toInt := congrArg Int32.toInt ey4
  have gy4 : 0 ≤ y4.toInt ∧ y4.toInt ≤ 6 := by rw [ey4]; exact rM_16_s ok (3 : Int32).toNatClampNeg
  refine lv_istore (lv' := [(4, .int y4), (0, .ref (ad 0)), (1, .int 4), (2, .int vh), (3, .int vp)]) hx hb dX12_routeOn_8 hl (by decide) rfl (fun ls hl => ?_)
  refine lv_aload_n hx hb dX12_routeOn_10 rfl (lv_at hl 1 rfl) ?_
  refine lv_iload hx hb dX12_routeOn_11 (lv_at hl 0 rfl) ?_
  refine lv_iload_n hx hb dX12_routeOn_13 rfl (lv_at hl 4 rfl) ?_
  refine cr_i (va_runV (As := [.int y4, .int vp]) (rest := []) ⟨hx, hb, hml, hown, hts⟩ (sm_asksOf l dC dI cs ad mu ok s.heap hP y4 vp (by omega)) (cwV 2 hts (wU_V mw_6_74 mw_6_71 mw_6_73 mw_0_42 mw_1_13) rfl rfl rfl (by decide +kernel) ⟨Nat.le_of_ble_eq_true rfl, Nat.le_of_ble_eq_true rfl⟩) ⟨sz_c, va_recv hK hP (ci := 12) (q0 := 0) rfl (gM_0 cs ad mu), sz_m hK hz⟩ rfl rfl hl.1 rfl (lv_room (Nat.le_of_ble_eq_true rfl)) dX12_routeOn_14 ⟨Nat.zero_le _, Nat.zero_le _⟩) hS (fun r5 hw5 locs hS => ?_)
  refine lv_istore (lv' := [(5, .int r5), (4, .int y4), (0, .ref (ad 0)), (1, .int 4), (2, .int vh), (3, .int vp)]) hx hb dX12_routeOn_17 hl (by decide) rfl (fun ls hl => ?_)
  refine lv_aload_n hx hb dX12_routeOn_19 rfl (lv_at hl 2 rfl) ?_
  refine lv_iload hx hb dX12_routeOn_20 (lv_at hl 1 rfl) ?_
  refine cr_i (va_runV (As := [.int y4]) (rest := []) ⟨hx, hb, hml, hown, hts⟩ (sm_besideOf l dC dI cs ad mu ok s.heap hP y4) (cwV 1 hts (wU_V mw_6_56 mw_6_53 mw_6_55 mw_0_40 mw_1_13) rfl rfl rfl (by decide +kernel) ⟨Nat.le_of_ble_eq_true rfl, Nat.le_of_ble_eq_true rfl⟩) ⟨sz_c, va_recv hK hP (ci := 12) (q0 := 0) rfl (gM_0 cs ad mu), sz_m hK hz⟩ rfl rfl hl.1 rfl (lv_room (Nat.le_of_ble_eq_true rfl)) dX12_routeOn_22 ⟨Nat.zero_le _, Nat.zero_le _⟩) hS (fun r6 hw6 locs hS => ?_)
  refine lv_iload_n hx hb dX12_routeOn_25 rfl (lv_at hl 4 rfl) ?_
  refine lv_iconst (v := (-1)) hx hb dX12_routeOn_26 (by decide) ?_
  refine lv_ixor hx hb dX12_routeOn_27 ?_
  refine lv_topi (fun t7 et7 => ?_)
  refine lv_iand hx hb dX12_routeOn_28 ?_
  refine lv_topi (fun t8 et8 => ?_)
  refine lv_istore (lv' := [(6, .int t8), (5, .int r5), (4, .int y4), (0, .ref (ad 0)), (1, .int 4), (2, .int vh), (3, .int vp)]) hx hb dX12_routeOn_29 hl (by decide) rfl (fun ls hl => ?_)
  refine lv_iconst (v := 0) hx hb dX12_routeOn_31 (by decide) ?_
  refine lv_istore (lv' := [(7, .int 0), (6, .int t8), (5, .int r5), (4, .int y4), (0, .ref (ad 0)), (1, .int 4), (2, .int vh), (3, .int vp)]) hx hb dX12_routeOn_32 hl (by decide) rfl (fun ls hl => ?_)
  have loop34 : ∀ (n34 : Nat) (v7_34 : Int32) (nu34_ : Nat → Nat → Int32) (H : Heap) (locs : List Loc) (ls : Array Slot), (7 + 1 - v7_34.toInt).toNat < n34 → (0 ≤ v7_34.toInt ∧ v7_34.toInt ≤ 7) → (((nu34_ 0 39).toInt = -9 ∨ (0 ≤ (nu34_ 0 39).toInt ∧ (nu34_ 0 39).toInt ≤ 3)) ∧ ((nu34_ 0 33).toInt = 0 ∨ (nu34_ 0 35).toInt ≤ 7)) → okR loM hiM nu34_ → va_P (dC, dI) vwCl (wR 21 ad (EM cs ad) nu34_) H → va_S (va_A (wR 21 ad (EM cs ad) mu) s.heap.size) s.heap H locs → lv_has ls 8 [(7, .int v7_34), (6, .int t8), (5, .int r5), (4, .int y4), (0, .ref (ad 0)), (1, .int 4), (2, .int vh), (3, .int vp)] → W p l e (headSpec (wU yX12_routeOn cX12_routeOn 8 none) ({ frames := 5, cells := 0, slots := 0, locals := 127 })).room s m ([.ref (ad 0), .int 4, .int vh, .int vp] : List Value).toArray below meth c H locs 0 0 (MQ below (va_Qv (fun (xi : Nat → Nat → Int32) => okR loM hiM xi ∧ (((xi 0 39).toInt = -9 ∨ (0 ≤ (xi 0 39).toInt ∧ (xi 0 39).toInt ≤ 3)) ∧ ((xi 0 33).toInt = 0 ∨ (xi 0 35).toInt ≤ 7)) ∧ True) (fun xi t => va_P (dC, dI) vwCl (wR 21 ad (EM cs ad) xi) t.heap) (va_A (wR 21 ad (EM cs ad) mu) s.heap.size)) ([.ref (ad 0), .int 4, .int vh, .int vp] : List Value).toArray s 0 0 (va_A (wR 21 ad (EM cs ad) mu) s.heap.size)) (F0 m 34 ls []) := by
    intro n34
    induction n34 with
    | zero => intro v7_34 nu34_ H locs ls hm; exact absurd hm (Nat.not_lt_zero _)
    | succ n34 ih34 =>
      intro v7_34 nu34_ H locs ls hm h_v7_34 hi34_0 ok hP hS hl
      obtain ⟨y9, ey9⟩ : ∃ z : Int32, z = nu34_ 0 39 := ⟨_, rfl⟩
      have by9 : y9.toInt = (nu34_ 0 39).toInt := congrArg Int32.toInt ey9
      have gy9 : -9 ≤ y9.toInt ∧ y9.toInt ≤ 3 := by rw [ey9]; exact rM_0_39 ok
      obtain ⟨y10, ey10⟩ : ∃ z : Int32, z = nu34_ 0 33 := ⟨_, rfl⟩
      have by10 : y10.toInt = (nu34_ 0 33).toInt := congrArg Int32.toInt ey10
      obtain ⟨y11, ey11⟩ : ∃ z : Int32, z = nu34_ 0 35 := ⟨_, rfl⟩
      have by11 : y11.toInt = (nu34_ 0 35).toInt := congrArg Int32.toInt ey11
      refine lv_iload hx hb dX12_routeOn_34 (lv_at hl 0 rfl) ?_
      refine lv_aload_n hx hb dX12_routeOn_36 rfl (lv_at hl 4 rfl) ?_
      refine va_get (D := (dC, dI)) (ci := 12) (v := .int (nu34_ 0 8)) (C := RX12) (T := TX12) (N := 46) hx hb hts inG12 hown hK hP 0 (gM_0 cs ad nu34_) rfl 8 (by decide) (hts _ (List.mem_cons_of_mem _ mw_5_49)) (fun _ h9 => h9) rfl dX12_routeOn_37 ?_
      refine lv_topi (fun y12 ey12 => ?_)
      have by12 : y12.toInt = (nu34_ 0 8).toInt := congrArg Int32.toInt ey12
      have gy12 : 0 ≤ y12.toInt ∧ y12.toInt ≤ 7 := by rw [ey12]; exact rM_0_8 ok
      refine lv_icmp_ge (tgt := 145) hx hb dX12_routeOn_40 (by decide) (fun c_13 => ?_) (fun c_13 => ?_)
      · have c_13 : y12.toInt ≤ v7_34.toInt := il_le c_13
        exact W.vret hx hb hr (fun t ht hW => ⟨⟨nu34_, rfl, ⟨ok, (by have hb14 := congrArg Int32.toInt ey9; have hb15 := congrArg Int32.toInt ey10; have hb16 := congrArg Int32.toInt ey11; omega), trivial⟩, by first | (subst ht; exact hP) | (rw [ht]; exact hP) | (show va_P (dC, dI) vwCl (wR 21 ad (EM cs ad) nu34_) t.heap; rw [ht]; exact hP)⟩, hS.F ht⟩) hS.2.2 dX12_routeOn_145
      · have c_13 : v7_34.toInt < y12.toInt := il_nle c_13
        refine lv_iload hx hb dX12_routeOn_43 (lv_at hl 1 rfl) ?_
        refine lv_iload hx hb dX12_routeOn_45 (lv_at hl 0 rfl) ?_
        refine cr_i (va_runS (As := [.int t8, .int v7_34]) (rest := []) ⟨hx, hb, hml, hown, hts⟩ (sm_has l dC dI (tyM cs) H t8 v7_34) (va_cwS 2 hts (wU_S mw_6_59 mw_6_57 mw_6_58 mw_1_13) rfl rfl rfl (by decide +kernel) ⟨Nat.le_of_ble_eq_true rfl, Nat.le_of_ble_eq_true rfl⟩) ⟨sz_c, sz_m hK hz⟩ rfl rfl hl.1 rfl (lv_room (Nat.le_of_ble_eq_true rfl)) dX12_routeOn_47 ⟨Nat.zero_le _, Nat.zero_le _⟩) hS (fun r17 hw17 locs hS => ?_)
        rcases hw17 with ⟨rfl, f17⟩ | ⟨rfl, f17⟩
        · have f17 : rb t8 v7_34 = 1 := f17
          refine lv_if_eq (tgt := 139) hx hb dX12_routeOn_50 (by decide) (fun c => absurd c (by decide)) (fun _ => ?_)
          refine lv_aload_n hx hb dX12_routeOn_53 rfl (lv_at hl 4 rfl) ?_
          refine va_get (D := (dC, dI)) (ci := 12) (v := .int (nu34_ 0 38)) (C := RX12) (T := TX12) (N := 46) hx hb hts inG12 hown hK hP 0 (gM_0 cs ad nu34_) rfl 38 (by decide) (hts _ (List.mem_cons_of_mem _ mw_5_79)) (fun _ h9 => h9) rfl dX12_routeOn_54 ?_
          refine lv_topi (fun y18 ey18 => ?_)
          have by18 : y18.toInt = (nu34_ 0 38).toInt := congrArg Int32.toInt ey18
          have gy18 : 0 ≤ y18.toInt ∧ y18.toInt ≤ 1 := by rw [ey18]; exact rM_0_38 ok
          refine lv_if_eq (tgt := 72) hx hb dX12_routeOn_57 (by decide) (fun c_19 => ?_) (fun c_19 => ?_)
          · have c_19 : y18.toInt = 0 := il_eq c_19
            refine lv_aload_n hx hb dX12_routeOn_72 rfl (lv_at hl 4 rfl) ?_
            refine va_get (D := (dC, dI)) (ci := 12) (v := .ref (ad 16)) (C := RX12) (T := TX12) (N := 46) hx hb hts inG12 hown hK hP 0 (gM_0 cs ad nu34_) rfl 26 (by decide) (hts _ (List.mem_cons_of_mem _ mw_5_67)) (fun _ h9 => h9) rfl dX12_routeOn_73 ?_
            refine lv_iload_n hx hb dX12_routeOn_76 rfl (lv_at hl 5 rfl) ?_
            refine lv_iload hx hb dX12_routeOn_77 (lv_at hl 0 rfl) ?_
            refine va_iast hx hb hK hP (wR_D nu34_ hD) hS 16 0 (gM_16 cs ad nu34_) rfl (show vp_in 4 7 from (by unfold vp_in; decide)) dX12_routeOn_79 (fun H locs hP _ hS => ?_)
            refine wr_gen (upd (nu34_ 16) (4 : Int32).toNatClampNeg v7_34) hP (rfl) (fun nu20 hn20 hP => ?_)
            have ok := tM_16_s ok (4 : Int32).toNatClampNeg hn20 (by exact ⟨by omega, by omega⟩)
            have ez21 : y9 = nu20 0 39 := ey9.trans (congrFun (up_k hn20 (by decide)) 39).symm
            have ez22 : y10 = nu20 0 33 := ey10.trans (congrFun (up_k hn20 (by decide)) 33).symm
            have ez23 : y11 = nu20 0 35 := ey11.trans (congrFun (up_k hn20 (by decide)) 35).symm
            have ez24 : y12 = nu20 0 8 := ey12.trans (congrFun (up_k hn20 (by decide)) 8).symm
            have ez25 : y18 = nu20 0 38 := ey18.trans (congrFun (up_k hn20 (by decide)) 38).symm
            refine lv_iload hx hb dX12_routeOn_80 (lv_at hl 0 rfl) ?_
            refine lv_aload_n hx hb dX12_routeOn_82 rfl (lv_at hl 4 rfl) ?_
            refine va_get (D := (dC, dI)) (ci := 12) (v := .int (nu20 0 29)) (C := RX12) (T := TX12) (N := 46) hx hb hts inG12 hown hK hP 0 (gM_0 cs ad nu20) rfl 29 (by decide) (hts _ (List.mem_cons_of_mem _ mw_5_70)) (fun _ h9 => h9) rfl dX12_routeOn_83 ?_
            refine lv_topi (fun y26 ey26 => ?_)
            have by26 : y26.toInt = (nu20 0 29).toInt := congrArg Int32.toInt ey26
            refine lv_icmp_ne (tgt := 113) hx hb dX12_routeOn_86 (by decide) (fun c_27 => ?_) (fun c_27 => ?_)
            · have c_27 : ¬ v7_34.toInt = y26.toInt := il_ne c_27
              refine lv_aload_n hx hb dX12_routeOn_113 rfl (lv_at hl 4 rfl) ?_
              refine va_get (D := (dC, dI)) (ci := 12) (v := .ref (ad 7)) (C := RX12) (T := TX12) (N := 46) hx hb hts inG12 hown hK hP 0 (gM_0 cs ad nu20) rfl 9 (by decide) (hts _ (List.mem_cons_of_mem _ mw_5_50)) (fun _ h9 => h9) rfl dX12_routeOn_114 ?_
              refine lv_iload hx hb dX12_routeOn_117 (lv_at hl 0 rfl) ?_
              refine va_iald hx hb hK hP 7 0 (gM_7 cs ad nu20) rfl (show vp_in v7_34 7 from vi_of (by omega) (by omega)) dX12_routeOn_119 ?_
              refine lv_topi (fun y28 ey28 => ?_)
              have by28 : y28.toInt = (nu20 7 v7_34.toNatClampNeg).toInt := congrArg Int32.toInt ey28
              refine lv_iconst (v := 3) hx hb dX12_routeOn_120 (by decide) ?_
              refine lv_icmp_eq (tgt := 139) hx hb dX12_routeOn_121 (by decide) (fun c_29 => ?_) (fun c_29 => ?_)
              · have c_29 : y28.toInt = 3 := il_eq c_29
                refine lv_iinc (v := (v7_34 + 1)) (lv' := [(7, .int (v7_34 + 1)), (6, .int t8), (5, .int r5), (4, .int y4), (0, .ref (ad 0)), (1, .int 4), (2, .int vh), (3, .int vp)]) hx hb dX12_routeOn_139 hl (k := 0) rfl rfl (by decide) rfl (fun ls hl => ?_)
                refine loc_gen (P := fun w9 => lv_has ls 8 [(7, .int w9), (6, .int t8), (5, .int r5), (4, .int y4), (0, .ref (ad 0)), (1, .int 4), (2, .int vh), (3, .int vp)]) (v7_34 + 1) hl (fun w30 hw30 hl => ?_)
                have hl : lv_has ls 8 [(7, .int w30), (6, .int t8), (5, .int r5), (4, .int y4), (0, .ref (ad 0)), (1, .int 4), (2, .int vh), (3, .int vp)] := hl
                have aw30 : w30.toInt = v7_34.toInt + 1 := by rw [← hw30]; exact tI_add (rfl : v7_34.toInt = _) (rfl : (1 : Int32).toInt = 1) (by omega) (by omega)
                refine lv_goto (tgt := 34) hx hb dX12_routeOn_142 (by decide) ?_
                exact ih34 (w30) nu20 _ _ _ (by omega) (by exact ⟨by omega, by omega⟩) (by have hb31 := congrArg Int32.toInt ez21; have hb32 := congrArg Int32.toInt ez22; have hb33 := congrArg Int32.toInt ez23; omega) ok hP   hS (lv_sub hl [0, 1, 2, 3, 4, 5, 6, 7] rfl)
              · have c_29 : ¬ y28.toInt = 3 := il_ne c_29
                refine lv_aload_n hx hb dX12_routeOn_124 rfl (lv_at hl 4 rfl) ?_
                refine lv_iload_n hx hb dX12_routeOn_125 rfl (lv_at hl 5 rfl) ?_
                refine lv_iconst (v := 1) hx hb dX12_routeOn_126 (by decide) ?_
                refine lv_iadd hx hb dX12_routeOn_127 ?_
                refine lq_i 5 (by decide) ?_
                refine lv_iload_n hx hb dX12_routeOn_128 rfl (lv_at hl 6 rfl) ?_
                refine lv_iconst (v := 1) hx hb dX12_routeOn_129 (by decide) ?_
                refine lv_iload hx hb dX12_routeOn_130 (lv_at hl 0 rfl) ?_
                refine lv_ishl hx hb dX12_routeOn_132 ?_
                refine lv_topi (fun t34 et34 => ?_)
                refine lv_ior hx hb dX12_routeOn_133 ?_
                refine lv_topi (fun t35 et35 => ?_)
                refine lv_iload hx hb dX12_routeOn_134 (lv_at hl 2 rfl) ?_
                have hFc := fr_all (wR_D nu20 hD) hS hA
                refine va_callv (va_runV (As := [.int 5, .int t35, .int r5]) (rest := []) ⟨hx, hb, hml, hown, hts⟩ (sm_routeOn5 l dC dI cs ad nu20 ok H hP ((wR_D nu20 hD).weaken (fun _ _ _ _ => trivial)) t35 r5 (by have h50 : (5 : Int32).toInt = 5 := rfl; rw [et35, et34]; exact h7_next hin0 (by rw [et8, et7]) (by omega) (by omega) f17) (by have h50 : (5 : Int32).toInt = 5 := rfl; have hb36 := congrArg Int32.toInt ez21; have hb37 := congrArg Int32.toInt ez22; have hb38 := congrArg Int32.toInt ez23; omega)) (cwV 3 hts (wU_V mw_6_183 mw_6_180 mw_6_182 mw_0_55 mw_1_13) rfl rfl rfl (by decide +kernel) ⟨Nat.le_of_ble_eq_true rfl, Nat.le_of_ble_eq_true rfl⟩) ⟨sz_c, va_recv hK hP (ci := 12) (q0 := 0) rfl (gM_0 cs ad nu20), sz_m hK hz⟩ rfl rfl hl.1 rfl (lv_room (Nat.le_of_ble_eq_true rfl)) dX12_routeOn_136 ⟨Nat.zero_le _, Nat.zero_le _⟩) hS (fun q _ h => hFc q h) hFc (fun xi39 t H39 locs ht hvm hw39 hB hz1 hk1 hS => ?_)
                have hP : va_P (dC, dI) vwCl (wR 21 ad (EM cs ad) xi39) H39 := by rw [← ht]; exact hB
                obtain ⟨ok, hw39, _⟩ := hw39
                obtain ⟨y40, ey40⟩ : ∃ z : Int32, z = xi39 0 39 := ⟨_, rfl⟩
                have by40 : y40.toInt = (xi39 0 39).toInt := congrArg Int32.toInt ey40
                have gy40 : -9 ≤ y40.toInt ∧ y40.toInt ≤ 3 := by rw [ey40]; exact rM_0_39 ok
                obtain ⟨y41, ey41⟩ : ∃ z : Int32, z = xi39 0 33 := ⟨_, rfl⟩
                have by41 : y41.toInt = (xi39 0 33).toInt := congrArg Int32.toInt ey41
                obtain ⟨y42, ey42⟩ : ∃ z : Int32, z = xi39 0 35 := ⟨_, rfl⟩
                have by42 : y42.toInt = (xi39 0 35).toInt := congrArg Int32.toInt ey42
                have gr39 : ((xi39 0 39).toInt = -9 ∨ (0 ≤ (xi39 0 39).toInt ∧ (xi39 0 39).toInt ≤ 3)) ∧ ((xi39 0 33).toInt = 0 ∨ (xi39 0 35).toInt ≤ 7) := hw39
                refine lv_iinc (v := (v7_34 + 1)) (lv' := [(7, .int (v7_34 + 1)), (6, .int t8), (5, .int r5), (4, .int y4), (0, .ref (ad 0)), (1, .int 4), (2, .int vh), (3, .int vp)]) hx hb dX12_routeOn_139 hl (k := 0) rfl rfl (by decide) rfl (fun ls hl => ?_)
                refine loc_gen (P := fun w9 => lv_has ls 8 [(7, .int w9), (6, .int t8), (5, .int r5), (4, .int y4), (0, .ref (ad 0)), (1, .int 4), (2, .int vh), (3, .int vp)]) (v7_34 + 1) hl (fun w43 hw43 hl => ?_)
                have hl : lv_has ls 8 [(7, .int w43), (6, .int t8), (5, .int r5), (4, .int y4), (0, .ref (ad 0)), (1, .int 4), (2, .int vh), (3, .int vp)] := hl
                have aw43 : w43.toInt = v7_34.toInt + 1 := by rw [← hw43]; exact tI_add (rfl : v7_34.toInt = _) (rfl : (1 : Int32).toInt = 1) (by omega) (by omega)
                refine lv_goto (tgt := 34) hx hb dX12_routeOn_142 (by decide) ?_
                exact ih34 (w43) xi39 _ _ _ (by omega) (by exact ⟨by omega, by omega⟩) (by have hb44 := congrArg Int32.toInt ey40; have hb45 := congrArg Int32.toInt ey41; have hb46 := congrArg Int32.toInt ey42; omega) ok hP   hS (lv_sub hl [0, 1, 2, 3, 4, 5, 6, 7] rfl)
            · have c_27 : v7_34.toInt = y26.toInt := il_eq c_27
              refine lv_aload_n hx hb dX12_routeOn_89 rfl (lv_at hl 4 rfl) ?_
              refine lv_iload_n hx hb dX12_routeOn_90 rfl (lv_at hl 5 rfl) ?_
              refine lv_iconst (v := 1) hx hb dX12_routeOn_91 (by decide) ?_
              refine lv_iadd hx hb dX12_routeOn_92 ?_
              refine lq_i 5 (by decide) ?_
              refine lv_iload_n hx hb dX12_routeOn_93 rfl (lv_at hl 6 rfl) ?_
              refine lv_iconst (v := 1) hx hb dX12_routeOn_94 (by decide) ?_
              refine lv_aload_n hx hb dX12_routeOn_95 rfl (lv_at hl 4 rfl) ?_
              refine va_get (D := (dC, dI)) (ci := 12) (v := .ref (ad 16)) (C := RX12) (T := TX12) (N := 46) hx hb hts inG12 hown hK hP 0 (gM_0 cs ad nu20) rfl 26 (by decide) (hts _ (List.mem_cons_of_mem _ mw_5_67)) (fun _ h9 => h9) rfl dX12_routeOn_96 ?_
              refine lv_iconst (v := 0) hx hb dX12_routeOn_99 (by decide) ?_
              refine va_iald hx hb hK hP 16 0 (gM_16 cs ad nu20) rfl (show vp_in 0 7 from (by unfold vp_in; decide)) dX12_routeOn_100 ?_
              refine lv_topi (fun y47 ey47 => ?_)
              have by47 : y47.toInt = (nu20 16 (0 : Int32).toNatClampNeg).toInt := congrArg Int32.toInt ey47
              have gy47 : 0 ≤ y47.toInt ∧ y47.toInt ≤ 6 := by rw [ey47]; exact rM_16_s ok (0 : Int32).toNatClampNeg
              refine lv_ishl hx hb dX12_routeOn_101 ?_
              refine lv_topi (fun t48 et48 => ?_)
              refine lv_iconst (v := (-1)) hx hb dX12_routeOn_102 (by decide) ?_
              refine lv_ixor hx hb dX12_routeOn_103 ?_
              refine lv_topi (fun t49 et49 => ?_)
              refine lv_iand hx hb dX12_routeOn_104 ?_
              refine lv_topi (fun t50 et50 => ?_)
              refine lv_iload hx hb dX12_routeOn_105 (lv_at hl 2 rfl) ?_
              have hFc := fr_all (wR_D nu20 hD) hS hA
              refine va_callv (va_runV (As := [.int 5, .int t50, .int r5]) (rest := []) ⟨hx, hb, hml, hown, hts⟩ (sm_meetRoute l dC dI cs ad nu20 ok H hP ((wR_D nu20 hD).weaken (fun _ _ _ _ => trivial)) 5 t50 r5 (by have h50 : (5 : Int32).toInt = 5 := rfl; omega) (by have h50 : (5 : Int32).toInt = 5 := rfl; have hb51 := congrArg Int32.toInt ez21; have hb52 := congrArg Int32.toInt ez22; have hb53 := congrArg Int32.toInt ez23; omega)) (cwV 3 hts (wU_V mw_6_187 mw_6_184 mw_6_186 mw_0_56 mw_1_13) rfl rfl rfl (by decide +kernel) ⟨Nat.le_of_ble_eq_true rfl, Nat.le_of_ble_eq_true rfl⟩) ⟨sz_c, va_recv hK hP (ci := 12) (q0 := 0) rfl (gM_0 cs ad nu20), sz_m hK hz⟩ rfl rfl hl.1 rfl (lv_room (Nat.le_of_ble_eq_true rfl)) dX12_routeOn_107 ⟨Nat.zero_le _, Nat.zero_le _⟩) hS (fun q _ h => hFc q h) hFc (fun xi54 t H54 locs ht hvm hw54 hB hz1 hk1 hS => ?_)
              have hP : va_P (dC, dI) vwCl (wR 21 ad (EM cs ad) xi54) H54 := by rw [← ht]; exact hB
              obtain ⟨ok, hw54, _⟩ := hw54
              obtain ⟨y55, ey55⟩ : ∃ z : Int32, z = xi54 0 39 := ⟨_, rfl⟩
              have by55 : y55.toInt = (xi54 0 39).toInt := congrArg Int32.toInt ey55
              have gy55 : -9 ≤ y55.toInt ∧ y55.toInt ≤ 3 := by rw [ey55]; exact rM_0_39 ok
              obtain ⟨y56, ey56⟩ : ∃ z : Int32, z = xi54 0 33 := ⟨_, rfl⟩
              have by56 : y56.toInt = (xi54 0 33).toInt := congrArg Int32.toInt ey56
              obtain ⟨y57, ey57⟩ : ∃ z : Int32, z = xi54 0 35 := ⟨_, rfl⟩
              have by57 : y57.toInt = (xi54 0 35).toInt := congrArg Int32.toInt ey57
              have gr54 : ((xi54 0 39).toInt = -9 ∨ (0 ≤ (xi54 0 39).toInt ∧ (xi54 0 39).toInt ≤ 3)) ∧ ((xi54 0 33).toInt = 0 ∨ (xi54 0 35).toInt ≤ 7) := hw54
              refine lv_goto (tgt := 139) hx hb dX12_routeOn_110 (by decide) ?_
              refine lv_iinc (v := (v7_34 + 1)) (lv' := [(7, .int (v7_34 + 1)), (6, .int t8), (5, .int r5), (4, .int y4), (0, .ref (ad 0)), (1, .int 4), (2, .int vh), (3, .int vp)]) hx hb dX12_routeOn_139 hl (k := 0) rfl rfl (by decide) rfl (fun ls hl => ?_)
              refine loc_gen (P := fun w9 => lv_has ls 8 [(7, .int w9), (6, .int t8), (5, .int r5), (4, .int y4), (0, .ref (ad 0)), (1, .int 4), (2, .int vh), (3, .int vp)]) (v7_34 + 1) hl (fun w58 hw58 hl => ?_)
              have hl : lv_has ls 8 [(7, .int w58), (6, .int t8), (5, .int r5), (4, .int y4), (0, .ref (ad 0)), (1, .int 4), (2, .int vh), (3, .int vp)] := hl
              have aw58 : w58.toInt = v7_34.toInt + 1 := by rw [← hw58]; exact tI_add (rfl : v7_34.toInt = _) (rfl : (1 : Int32).toInt = 1) (by omega) (by omega)
              refine lv_goto (tgt := 34) hx hb dX12_routeOn_142 (by decide) ?_
              exact ih34 (w58) xi54 _ _ _ (by omega) (by exact ⟨by omega, by omega⟩) (by have hb59 := congrArg Int32.toInt ey55; have hb60 := congrArg Int32.toInt ey56; have hb61 := congrArg Int32.toInt ey57; omega) ok hP   hS (lv_sub hl [0, 1, 2, 3, 4, 5, 6, 7] rfl)
          · have c_19 : ¬ y18.toInt = 0 := il_ne c_19
            refine lv_aload_n hx hb dX12_routeOn_60 rfl (lv_at hl 4 rfl) ?_
            refine va_get (D := (dC, dI)) (ci := 12) (v := .ref (ad 8)) (C := RX12) (T := TX12) (N := 46) hx hb hts inG12 hown hK hP 0 (gM_0 cs ad nu34_) rfl 10 (by decide) (hts _ (List.mem_cons_of_mem _ mw_5_51)) (fun _ h9 => h9) rfl dX12_routeOn_61 ?_
            refine lv_iload hx hb dX12_routeOn_64 (lv_at hl 0 rfl) ?_
            refine va_iald hx hb hK hP 8 0 (gM_8 cs ad nu34_) rfl (show vp_in v7_34 7 from vi_of (by omega) (by omega)) dX12_routeOn_66 ?_
            refine lv_topi (fun y62 ey62 => ?_)
            have by62 : y62.toInt = (nu34_ 8 v7_34.toNatClampNeg).toInt := congrArg Int32.toInt ey62
            refine lv_iload hx hb dX12_routeOn_67 (lv_at hl 2 rfl) ?_
            refine lv_icmp_lt (tgt := 139) hx hb dX12_routeOn_69 (by decide) (fun c_63 => ?_) (fun c_63 => ?_)
            · have c_63 : y62.toInt < r5.toInt := il_lt c_63
              refine lv_iinc (v := (v7_34 + 1)) (lv' := [(7, .int (v7_34 + 1)), (6, .int t8), (5, .int r5), (4, .int y4), (0, .ref (ad 0)), (1, .int 4), (2, .int vh), (3, .int vp)]) hx hb dX12_routeOn_139 hl (k := 0) rfl rfl (by decide) rfl (fun ls hl => ?_)
              refine loc_gen (P := fun w9 => lv_has ls 8 [(7, .int w9), (6, .int t8), (5, .int r5), (4, .int y4), (0, .ref (ad 0)), (1, .int 4), (2, .int vh), (3, .int vp)]) (v7_34 + 1) hl (fun w64 hw64 hl => ?_)
              have hl : lv_has ls 8 [(7, .int w64), (6, .int t8), (5, .int r5), (4, .int y4), (0, .ref (ad 0)), (1, .int 4), (2, .int vh), (3, .int vp)] := hl
              have aw64 : w64.toInt = v7_34.toInt + 1 := by rw [← hw64]; exact tI_add (rfl : v7_34.toInt = _) (rfl : (1 : Int32).toInt = 1) (by omega) (by omega)
              refine lv_goto (tgt := 34) hx hb dX12_routeOn_142 (by decide) ?_
              exact ih34 (w64) nu34_ _ _ _ (by omega) (by exact ⟨by omega, by omega⟩) (by have hb65 := congrArg Int32.toInt ey9; have hb66 := congrArg Int32.toInt ey10; have hb67 := congrArg Int32.toInt ey11; omega) ok hP   hS (lv_sub hl [0, 1, 2, 3, 4, 5, 6, 7] rfl)
            · have c_63 : r5.toInt ≤ y62.toInt := il_nlt c_63
              refine lv_aload_n hx hb dX12_routeOn_72 rfl (lv_at hl 4 rfl) ?_
              refine va_get (D := (dC, dI)) (ci := 12) (v := .ref (ad 16)) (C := RX12) (T := TX12) (N := 46) hx hb hts inG12 hown hK hP 0 (gM_0 cs ad nu34_) rfl 26 (by decide) (hts _ (List.mem_cons_of_mem _ mw_5_67)) (fun _ h9 => h9) rfl dX12_routeOn_73 ?_
              refine lv_iload_n hx hb dX12_routeOn_76 rfl (lv_at hl 5 rfl) ?_
              refine lv_iload hx hb dX12_routeOn_77 (lv_at hl 0 rfl) ?_
              refine va_iast hx hb hK hP (wR_D nu34_ hD) hS 16 0 (gM_16 cs ad nu34_) rfl (show vp_in 4 7 from (by unfold vp_in; decide)) dX12_routeOn_79 (fun H locs hP _ hS => ?_)
              refine wr_gen (upd (nu34_ 16) (4 : Int32).toNatClampNeg v7_34) hP (rfl) (fun nu68 hn68 hP => ?_)
              have ok := tM_16_s ok (4 : Int32).toNatClampNeg hn68 (by exact ⟨by omega, by omega⟩)
              have ez69 : y9 = nu68 0 39 := ey9.trans (congrFun (up_k hn68 (by decide)) 39).symm
              have ez70 : y10 = nu68 0 33 := ey10.trans (congrFun (up_k hn68 (by decide)) 33).symm
              have ez71 : y11 = nu68 0 35 := ey11.trans (congrFun (up_k hn68 (by decide)) 35).symm
              have ez72 : y12 = nu68 0 8 := ey12.trans (congrFun (up_k hn68 (by decide)) 8).symm
              have ez73 : y18 = nu68 0 38 := ey18.trans (congrFun (up_k hn68 (by decide)) 38).symm
              have ez74 : y62 = nu68 8 v7_34.toNatClampNeg := ey62.trans (congrFun (up_k hn68 (by decide)) v7_34.toNatClampNeg).symm
              refine lv_iload hx hb dX12_routeOn_80 (lv_at hl 0 rfl) ?_
              refine lv_aload_n hx hb dX12_routeOn_82 rfl (lv_at hl 4 rfl) ?_
              refine va_get (D := (dC, dI)) (ci := 12) (v := .int (nu68 0 29)) (C := RX12) (T := TX12) (N := 46) hx hb hts inG12 hown hK hP 0 (gM_0 cs ad nu68) rfl 29 (by decide) (hts _ (List.mem_cons_of_mem _ mw_5_70)) (fun _ h9 => h9) rfl dX12_routeOn_83 ?_
              refine lv_topi (fun y75 ey75 => ?_)
              have by75 : y75.toInt = (nu68 0 29).toInt := congrArg Int32.toInt ey75
              refine lv_icmp_ne (tgt := 113) hx hb dX12_routeOn_86 (by decide) (fun c_76 => ?_) (fun c_76 => ?_)
              · have c_76 : ¬ v7_34.toInt = y75.toInt := il_ne c_76
                refine lv_aload_n hx hb dX12_routeOn_113 rfl (lv_at hl 4 rfl) ?_
                refine va_get (D := (dC, dI)) (ci := 12) (v := .ref (ad 7)) (C := RX12) (T := TX12) (N := 46) hx hb hts inG12 hown hK hP 0 (gM_0 cs ad nu68) rfl 9 (by decide) (hts _ (List.mem_cons_of_mem _ mw_5_50)) (fun _ h9 => h9) rfl dX12_routeOn_114 ?_
                refine lv_iload hx hb dX12_routeOn_117 (lv_at hl 0 rfl) ?_
                refine va_iald hx hb hK hP 7 0 (gM_7 cs ad nu68) rfl (show vp_in v7_34 7 from vi_of (by omega) (by omega)) dX12_routeOn_119 ?_
                refine lv_topi (fun y77 ey77 => ?_)
                have by77 : y77.toInt = (nu68 7 v7_34.toNatClampNeg).toInt := congrArg Int32.toInt ey77
                refine lv_iconst (v := 3) hx hb dX12_routeOn_120 (by decide) ?_
                refine lv_icmp_eq (tgt := 139) hx hb dX12_routeOn_121 (by decide) (fun c_78 => ?_) (fun c_78 => ?_)
                · have c_78 : y77.toInt = 3 := il_eq c_78
                  refine lv_iinc (v := (v7_34 + 1)) (lv' := [(7, .int (v7_34 + 1)), (6, .int t8), (5, .int r5), (4, .int y4), (0, .ref (ad 0)), (1, .int 4), (2, .int vh), (3, .int vp)]) hx hb dX12_routeOn_139 hl (k := 0) rfl rfl (by decide) rfl (fun ls hl => ?_)
                  refine loc_gen (P := fun w9 => lv_has ls 8 [(7, .int w9), (6, .int t8), (5, .int r5), (4, .int y4), (0, .ref (ad 0)), (1, .int 4), (2, .int vh), (3, .int vp)]) (v7_34 + 1) hl (fun w79 hw79 hl => ?_)
                  have hl : lv_has ls 8 [(7, .int w79), (6, .int t8), (5, .int r5), (4, .int y4), (0, .ref (ad 0)), (1, .int 4), (2, .int vh), (3, .int vp)] := hl
                  have aw79 : w79.toInt = v7_34.toInt + 1 := by rw [← hw79]; exact tI_add (rfl : v7_34.toInt = _) (rfl : (1 : Int32).toInt = 1) (by omega) (by omega)
                  refine lv_goto (tgt := 34) hx hb dX12_routeOn_142 (by decide) ?_
                  exact ih34 (w79) nu68 _ _ _ (by omega) (by exact ⟨by omega, by omega⟩) (by have hb80 := congrArg Int32.toInt ez69; have hb81 := congrArg Int32.toInt ez70; have hb82 := congrArg Int32.toInt ez71; omega) ok hP   hS (lv_sub hl [0, 1, 2, 3, 4, 5, 6, 7] rfl)
                · have c_78 : ¬ y77.toInt = 3 := il_ne c_78
                  refine lv_aload_n hx hb dX12_routeOn_124 rfl (lv_at hl 4 rfl) ?_
                  refine lv_iload_n hx hb dX12_routeOn_125 rfl (lv_at hl 5 rfl) ?_
                  refine lv_iconst (v := 1) hx hb dX12_routeOn_126 (by decide) ?_
                  refine lv_iadd hx hb dX12_routeOn_127 ?_
                  refine lq_i 5 (by decide) ?_
                  refine lv_iload_n hx hb dX12_routeOn_128 rfl (lv_at hl 6 rfl) ?_
                  refine lv_iconst (v := 1) hx hb dX12_routeOn_129 (by decide) ?_
                  refine lv_iload hx hb dX12_routeOn_130 (lv_at hl 0 rfl) ?_
                  refine lv_ishl hx hb dX12_routeOn_132 ?_
                  refine lv_topi (fun t83 et83 => ?_)
                  refine lv_ior hx hb dX12_routeOn_133 ?_
                  refine lv_topi (fun t84 et84 => ?_)
                  refine lv_iload hx hb dX12_routeOn_134 (lv_at hl 2 rfl) ?_
                  have hFc := fr_all (wR_D nu68 hD) hS hA
                  refine va_callv (va_runV (As := [.int 5, .int t84, .int r5]) (rest := []) ⟨hx, hb, hml, hown, hts⟩ (sm_routeOn5 l dC dI cs ad nu68 ok H hP ((wR_D nu68 hD).weaken (fun _ _ _ _ => trivial)) t84 r5 (by have h50 : (5 : Int32).toInt = 5 := rfl; rw [et84, et83]; exact h7_next hin0 (by rw [et8, et7]) (by omega) (by omega) f17) (by have h50 : (5 : Int32).toInt = 5 := rfl; have hb85 := congrArg Int32.toInt ez69; have hb86 := congrArg Int32.toInt ez70; have hb87 := congrArg Int32.toInt ez71; omega)) (cwV 3 hts (wU_V mw_6_183 mw_6_180 mw_6_182 mw_0_55 mw_1_13) rfl rfl rfl (by decide +kernel) ⟨Nat.le_of_ble_eq_true rfl, Nat.le_of_ble_eq_true rfl⟩) ⟨sz_c, va_recv hK hP (ci := 12) (q0 := 0) rfl (gM_0 cs ad nu68), sz_m hK hz⟩ rfl rfl hl.1 rfl (lv_room (Nat.le_of_ble_eq_true rfl)) dX12_routeOn_136 ⟨Nat.zero_le _, Nat.zero_le _⟩) hS (fun q _ h => hFc q h) hFc (fun xi88 t H88 locs ht hvm hw88 hB hz1 hk1 hS => ?_)
                  have hP : va_P (dC, dI) vwCl (wR 21 ad (EM cs ad) xi88) H88 := by rw [← ht]; exact hB
                  obtain ⟨ok, hw88, _⟩ := hw88
                  obtain ⟨y89, ey89⟩ : ∃ z : Int32, z = xi88 0 39 := ⟨_, rfl⟩
                  have by89 : y89.toInt = (xi88 0 39).toInt := congrArg Int32.toInt ey89
                  have gy89 : -9 ≤ y89.toInt ∧ y89.toInt ≤ 3 := by rw [ey89]; exact rM_0_39 ok
                  obtain ⟨y90, ey90⟩ : ∃ z : Int32, z = xi88 0 33 := ⟨_, rfl⟩
                  have by90 : y90.toInt = (xi88 0 33).toInt := congrArg Int32.toInt ey90
                  obtain ⟨y91, ey91⟩ : ∃ z : Int32, z = xi88 0 35 := ⟨_, rfl⟩
                  have by91 : y91.toInt = (xi88 0 35).toInt := congrArg Int32.toInt ey91
                  have gr88 : ((xi88 0 39).toInt = -9 ∨ (0 ≤ (xi88 0 39).toInt ∧ (xi88 0 39).toInt ≤ 3)) ∧ ((xi88 0 33).toInt = 0 ∨ (xi88 0 35).toInt ≤ 7) := hw88
                  refine lv_iinc (v := (v7_34 + 1)) (lv' := [(7, .int (v7_34 + 1)), (6, .int t8), (5, .int r5), (4, .int y4), (0, .ref (ad 0)), (1, .int 4), (2, .int vh), (3, .int vp)]) hx hb dX12_routeOn_139 hl (k := 0) rfl rfl (by decide) rfl (fun ls hl => ?_)
                  refine loc_gen (P := fun w9 => lv_has ls 8 [(7, .int w9), (6, .int t8), (5, .int r5), (4, .int y4), (0, .ref (ad 0)), (1, .int 4), (2, .int vh), (3, .int vp)]) (v7_34 + 1) hl (fun w92 hw92 hl => ?_)
                  have hl : lv_has ls 8 [(7, .int w92), (6, .int t8), (5, .int r5), (4, .int y4), (0, .ref (ad 0)), (1, .int 4), (2, .int vh), (3, .int vp)] := hl
                  have aw92 : w92.toInt = v7_34.toInt + 1 := by rw [← hw92]; exact tI_add (rfl : v7_34.toInt = _) (rfl : (1 : Int32).toInt = 1) (by omega) (by omega)
                  refine lv_goto (tgt := 34) hx hb dX12_routeOn_142 (by decide) ?_
                  exact ih34 (w92) xi88 _ _ _ (by omega) (by exact ⟨by omega, by omega⟩) (by have hb93 := congrArg Int32.toInt ey89; have hb94 := congrArg Int32.toInt ey90; have hb95 := congrArg Int32.toInt ey91; omega) ok hP   hS (lv_sub hl [0, 1, 2, 3, 4, 5, 6, 7] rfl)
              · have c_76 : v7_34.toInt = y75.toInt := il_eq c_76
                refine lv_aload_n hx hb dX12_routeOn_89 rfl (lv_at hl 4 rfl) ?_
                refine lv_iload_n hx hb dX12_routeOn_90 rfl (lv_at hl 5 rfl) ?_
                refine lv_iconst (v := 1) hx hb dX12_routeOn_91 (by decide) ?_
                refine lv_iadd hx hb dX12_routeOn_92 ?_
                refine lq_i 5 (by decide) ?_
                refine lv_iload_n hx hb dX12_routeOn_93 rfl (lv_at hl 6 rfl) ?_
                refine lv_iconst (v := 1) hx hb dX12_routeOn_94 (by decide) ?_
                refine lv_aload_n hx hb dX12_routeOn_95 rfl (lv_at hl 4 rfl) ?_
                refine va_get (D := (dC, dI)) (ci := 12) (v := .ref (ad 16)) (C := RX12) (T := TX12) (N := 46) hx hb hts inG12 hown hK hP 0 (gM_0 cs ad nu68) rfl 26 (by decide) (hts _ (List.mem_cons_of_mem _ mw_5_67)) (fun _ h9 => h9) rfl dX12_routeOn_96 ?_
                refine lv_iconst (v := 0) hx hb dX12_routeOn_99 (by decide) ?_
                refine va_iald hx hb hK hP 16 0 (gM_16 cs ad nu68) rfl (show vp_in 0 7 from (by unfold vp_in; decide)) dX12_routeOn_100 ?_
                refine lv_topi (fun y96 ey96 => ?_)
                have by96 : y96.toInt = (nu68 16 (0 : Int32).toNatClampNeg).toInt := congrArg Int32.toInt ey96
                have gy96 : 0 ≤ y96.toInt ∧ y96.toInt ≤ 6 := by rw [ey96]; exact rM_16_s ok (0 : Int32).toNatClampNeg
                refine lv_ishl hx hb dX12_routeOn_101 ?_
                refine lv_topi (fun t97 et97 => ?_)
                refine lv_iconst (v := (-1)) hx hb dX12_routeOn_102 (by decide) ?_
                refine lv_ixor hx hb dX12_routeOn_103 ?_
                refine lv_topi (fun t98 et98 => ?_)
                refine lv_iand hx hb dX12_routeOn_104 ?_
                refine lv_topi (fun t99 et99 => ?_)
                refine lv_iload hx hb dX12_routeOn_105 (lv_at hl 2 rfl) ?_
                have hFc := fr_all (wR_D nu68 hD) hS hA
                refine va_callv (va_runV (As := [.int 5, .int t99, .int r5]) (rest := []) ⟨hx, hb, hml, hown, hts⟩ (sm_meetRoute l dC dI cs ad nu68 ok H hP ((wR_D nu68 hD).weaken (fun _ _ _ _ => trivial)) 5 t99 r5 (by have h50 : (5 : Int32).toInt = 5 := rfl; omega) (by have h50 : (5 : Int32).toInt = 5 := rfl; have hb100 := congrArg Int32.toInt ez69; have hb101 := congrArg Int32.toInt ez70; have hb102 := congrArg Int32.toInt ez71; omega)) (cwV 3 hts (wU_V mw_6_187 mw_6_184 mw_6_186 mw_0_56 mw_1_13) rfl rfl rfl (by decide +kernel) ⟨Nat.le_of_ble_eq_true rfl, Nat.le_of_ble_eq_true rfl⟩) ⟨sz_c, va_recv hK hP (ci := 12) (q0 := 0) rfl (gM_0 cs ad nu68), sz_m hK hz⟩ rfl rfl hl.1 rfl (lv_room (Nat.le_of_ble_eq_true rfl)) dX12_routeOn_107 ⟨Nat.zero_le _, Nat.zero_le _⟩) hS (fun q _ h => hFc q h) hFc (fun xi103 t H103 locs ht hvm hw103 hB hz1 hk1 hS => ?_)
                have hP : va_P (dC, dI) vwCl (wR 21 ad (EM cs ad) xi103) H103 := by rw [← ht]; exact hB
                obtain ⟨ok, hw103, _⟩ := hw103
                obtain ⟨y104, ey104⟩ : ∃ z : Int32, z = xi103 0 39 := ⟨_, rfl⟩
                have by104 : y104.toInt = (xi103 0 39).toInt := congrArg Int32.toInt ey104
                have gy104 : -9 ≤ y104.toInt ∧ y104.toInt ≤ 3 := by rw [ey104]; exact rM_0_39 ok
                obtain ⟨y105, ey105⟩ : ∃ z : Int32, z = xi103 0 33 := ⟨_, rfl⟩
                have by105 : y105.toInt = (xi103 0 33).toInt := congrArg Int32.toInt ey105
                obtain ⟨y106, ey106⟩ : ∃ z : Int32, z = xi103 0 35 := ⟨_, rfl⟩
                have by106 : y106.toInt = (xi103 0 35).toInt := congrArg Int32.toInt ey106
                have gr103 : ((xi103 0 39).toInt = -9 ∨ (0 ≤ (xi103 0 39).toInt ∧ (xi103 0 39).toInt ≤ 3)) ∧ ((xi103 0 33).toInt = 0 ∨ (xi103 0 35).toInt ≤ 7) := hw103
                refine lv_goto (tgt := 139) hx hb dX12_routeOn_110 (by decide) ?_
                refine lv_iinc (v := (v7_34 + 1)) (lv' := [(7, .int (v7_34 + 1)), (6, .int t8), (5, .int r5), (4, .int y4), (0, .ref (ad 0)), (1, .int 4), (2, .int vh), (3, .int vp)]) hx hb dX12_routeOn_139 hl (k := 0) rfl rfl (by decide) rfl (fun ls hl => ?_)
                refine loc_gen (P := fun w9 => lv_has ls 8 [(7, .int w9), (6, .int t8), (5, .int r5), (4, .int y4), (0, .ref (ad 0)), (1, .int 4), (2, .int vh), (3, .int vp)]) (v7_34 + 1) hl (fun w107 hw107 hl => ?_)
                have hl : lv_has ls 8 [(7, .int w107), (6, .int t8), (5, .int r5), (4, .int y4), (0, .ref (ad 0)), (1, .int 4), (2, .int vh), (3, .int vp)] := hl
                have aw107 : w107.toInt = v7_34.toInt + 1 := by rw [← hw107]; exact tI_add (rfl : v7_34.toInt = _) (rfl : (1 : Int32).toInt = 1) (by omega) (by omega)
                refine lv_goto (tgt := 34) hx hb dX12_routeOn_142 (by decide) ?_
                exact ih34 (w107) xi103 _ _ _ (by omega) (by exact ⟨by omega, by omega⟩) (by have hb108 := congrArg Int32.toInt ey104; have hb109 := congrArg Int32.toInt ey105; have hb110 := congrArg Int32.toInt ey106; omega) ok hP   hS (lv_sub hl [0, 1, 2, 3, 4, 5, 6, 7] rfl)
        · have f17 : ¬ rb t8 v7_34 = 1 := f17
          refine lv_if_eq (tgt := 139) hx hb dX12_routeOn_50 (by decide) (fun _ => ?_) (fun c => absurd (by decide) c)
          refine lv_iinc (v := (v7_34 + 1)) (lv' := [(7, .int (v7_34 + 1)), (6, .int t8), (5, .int r5), (4, .int y4), (0, .ref (ad 0)), (1, .int 4), (2, .int vh), (3, .int vp)]) hx hb dX12_routeOn_139 hl (k := 0) rfl rfl (by decide) rfl (fun ls hl => ?_)
          refine loc_gen (P := fun w9 => lv_has ls 8 [(7, .int w9), (6, .int t8), (5, .int r5), (4, .int y4), (0, .ref (ad 0)), (1, .int 4), (2, .int vh), (3, .int vp)]) (v7_34 + 1) hl (fun w111 hw111 hl => ?_)
          have hl : lv_has ls 8 [(7, .int w111), (6, .int t8), (5, .int r5), (4, .int y4), (0, .ref (ad 0)), (1, .int 4), (2, .int vh), (3, .int vp)] := hl
          have aw111 : w111.toInt = v7_34.toInt + 1 := by rw [← hw111]; exact tI_add (rfl : v7_34.toInt = _) (rfl : (1 : Int32).toInt = 1) (by omega) (by omega)
          refine lv_goto (tgt := 34) hx hb dX12_routeOn_142 (by decide) ?_
          exact ih34 (w111) nu34_ _ _ _ (by omega) (by exact ⟨by omega, by omega⟩) (by have hb112 := congrArg Int32.toInt ey9; have hb113 := congrArg Int32.toInt ey10; have hb114 := congrArg Int32.toInt ey11; omega) ok hP   hS (lv_sub hl [0, 1, 2, 3, 4, 5, 6, 7] rfl)
  exact loop34 ((7 + 1 - (0 : Int32).toInt).toNat + 1) (0) mu _ _ _ (Nat.lt_succ_self _) (by have h80 : (0 : Int32).toInt = 0 := rfl; exact ⟨by omega, by omega⟩) (by have h80 : (0 : Int32).toInt = 0 := rfl; have hb115 := congrArg Int32.toInt ey1; have hb116 := congrArg Int32.toInt ey2; have hb117 := congrArg Int32.toInt ey3; omega) ok hP   hS hl
set_option maxHeartbeats 4000000 in
set_option maxRecDepth 100000 in
/-- sm_routeOn3 -/
theorem sm_routeOn3 (l : Launch) (dC : Nat → ClassId) (dI : Nat → Nat → Nat) (cs : Nat → ClassId) (ad : Nat → Nat) (mu : Nat → Nat → Int32) (ok : okR loM hiM mu) (H : Heap) (hP : va_P (dC, dI) vwCl (wR 21 ad (EM cs ad) mu) H) (hD0 : va_D (fun _ => True) (wR 21 ad (EM cs ad) mu)) (vh : Int32) (vp : Int32) (hin0 : h7 3 vh) (hin1 : ((mu 0 39).toInt = -9 ∨ (0 ≤ (mu 0 39).toInt ∧ (mu 0 39).toInt ≤ 3)) ∧ ((mu 0 33).toInt = 0 ∨ (mu 0 35).toInt ≤ 7)) : Met l yX12_routeOn (wU yX12_routeOn cX12_routeOn 8 none) ({ frames := 6, cells := 0, slots := 0, locals := 154 }) (va_Pc [.ref (ad 0), .int 3, .int vh, .int vp] (sz_P (dC, dI) vwCl (tyM cs) H)) (va_Qv (fun (xi : Nat → Nat → Int32) => okR loM hiM xi ∧ (((xi 0 39).toInt = -9 ∨ (0 ≤ (xi 0 39).toInt ∧ (xi 0 39).toInt ≤ 3)) ∧ ((xi 0 33).toInt = 0 ∨ (xi 0 35).toInt ≤ 7)) ∧ True) (fun xi t => va_P (dC, dI) vwCl (wR 21 ad (EM cs ad) xi) t.heap) (va_A (wR 21 ad (EM cs ad) mu) H.size)) 0 0 (va_A (wR 21 ad (EM cs ad) mu) H.size) := by
  refine Met.ofW (cc := cX12_routeOn) (maxL := 8) (ret := none) (by decide) rfl ?_
  intro p e s m args below meth c s₁ B hml hv
  obtain ⟨rfl, hh, hK, hz⟩ := hv
  have hx := B.exec
  have hb := B.bytes
  have hr := B.returns
  have hts := atoms_spec (ws := (wU yX12_routeOn cX12_routeOn 8 none)) B.pre
  have hown : s.vm.findClass RX12 = some m.cls := findClass_of_methodNamed B.named
  have hlocks := B.notSynchronized
  subst hh
  have hD := hD0.self (sz := s.heap.size)
  have hA : ∀ q : Nat, s.heap.size ≤ q → (va_A (wR 21 ad (EM cs ad) mu) s.heap.size) q := fun q h => Or.inr h
  have hS : va_S (va_A (wR 21 ad (EM cs ad) mu) s.heap.size) s.heap s.heap [] := va_S.rf
  have hl := lv_entry ([.ref (ad 0), .int 3, .int vh, .int vp]) (n := 8) (Nat.le_of_ble_eq_true rfl)
  rw [lg_entry_eq]
  generalize (lg_sl ([.ref (ad 0), .int 3, .int vh, .int vp]) ++ List.replicate (8 - (lg_sl ([.ref (ad 0), .int 3, .int vh, .int vp])).length) Slot.unset).toArray = ls at hl ⊢
  have hl : lv_has ls 8 [(0, .ref (ad 0)), (1, .int 3), (2, .int vh), (3, .int vp)] := hl
  obtain ⟨y1, ey1⟩ : ∃ z : Int32, z = mu 0 39 := ⟨_, rfl⟩
  have by1 : y1.toInt = (mu 0 39).toInt := congrArg Int32.toInt ey1
  have gy1 : -9 ≤ y1.toInt ∧ y1.toInt ≤ 3 := by rw [ey1]; exact rM_0_39 ok
  obtain ⟨y2, ey2⟩ : ∃ z : Int32, z = mu 0 33 := ⟨_, rfl⟩
  have by2 : y2.toInt = (mu 0 33).toInt := congrArg Int32.toInt ey2
  obtain ⟨y3, ey3⟩ : ∃ z : Int32, z = mu 0 35 := ⟨_, rfl⟩
  have by3 : y3.toInt = (mu 0 35).toInt := congrArg Int32.toInt ey3
  refine lv_aload_n hx hb dX12_routeOn_0 rfl (lv_at hl 0 rfl) ?_
  refine va_get (D := (dC, dI)) (ci := 12) (v := .ref (ad 16)) (C := RX12) (T := TX12) (N := 46) hx hb hts inG12 hown hK hP 0 (gM_0 cs ad mu) rfl 26 (by decide) (hts _ (List.mem_cons_of_mem _ mw_5_67)) (fun _ h9 => h9) rfl dX12_routeOn_1 ?_
  refine lv_iload_n hx hb dX12_routeOn_4 rfl (lv_at hl 1 rfl) ?_
  refine lv_iconst (v := 1) hx hb dX12_routeOn_5 (by decide) ?_
  refine lv_isub hx hb dX12_routeOn_6 ?_
  refine lq_i 2 (by decide) ?_
  refine va_iald hx hb hK hP 16 0 (gM_16 cs ad mu) rfl (show vp_in 2 7 from (by unfold vp_in; decide)) dX12_routeOn_7 ?_
  refine lv_topi (fun y4 ey4 => ?_)
  have by4 : y4.toInt = (mu 16 (2 : Int32).toNatClampNeg).toInt := congrArg Int32.toInt ey4
  have gy4 : 0 ≤ y4.toInt ∧ y4.toInt ≤ 6 := by rw [ey4]; exact rM_16_s ok (2 : Int32).toNatClampNeg
  refine lv_istore (lv' := [(4, .int y4), (0, .ref (ad 0)), (1, .int 3), (2, .int vh), (3, .int vp)]) hx hb dX12_routeOn_8 hl (by decide) rfl (fun ls hl => ?_)
  refine lv_aload_n hx hb dX12_routeOn_10 rfl (lv_at hl 1 rfl) ?_
  refine lv_iload hx hb dX12_routeOn_11 (lv_at hl 0 rfl) ?_
  refine lv_iload_n hx hb dX12_routeOn_13 rfl (lv_at hl 4 rfl) ?_
  refine cr_i (va_runV (As := [.int y4, .int vp]) (rest := []) ⟨hx, hb, hml, hown, hts⟩ (sm_asksOf l dC dI cs ad mu ok s.heap hP y4 vp (by omega)) (cwV 2 hts (wU_V mw_6_74 mw_6_71 mw_6_73 mw_0_42 mw_1_13) rfl rfl rfl (by decide +kernel) ⟨Nat.le_of_ble_eq_true rfl, Nat.le_of_ble_eq_true rfl⟩) ⟨sz_c, va_recv hK hP (ci := 12) (q0 := 0) rfl (gM_0 cs ad mu), sz_m hK hz⟩ rfl rfl hl.1 rfl (lv_room (Nat.le_of_ble_eq_true rfl)) dX12_routeOn_14 ⟨Nat.zero_le _, Nat.zero_le _⟩) hS (fun r5 hw5 locs hS => ?_)
  refine lv_istore (lv' := [(5, .int r5), (4, .int y4), (0, .ref (ad 0)), (1, .int 3), (2, .int vh), (3, .int vp)]) hx hb dX12_routeOn_17 hl (by decide) rfl (fun ls hl => ?_)
  refine lv_aload_n hx hb dX12_routeOn_19 rfl (lv_at hl 2 rfl) ?_
  refine lv_iload hx hb dX12_routeOn_20 (lv_at hl 1 rfl) ?_
  refine cr_i (va_runV (As := [.int y4]) (rest := []) ⟨hx, hb, hml, hown, hts⟩ (sm_besideOf l dC dI cs ad mu ok s.heap hP y4) (cwV 1 hts (wU_V mw_6_56 mw_6_53 mw_6_55 mw_0_40 mw_1_13) rfl rfl rfl (by decide +kernel) ⟨Nat.le_of_ble_eq_true rfl, Nat.le_of_ble_eq_true rfl⟩) ⟨sz_c, va_recv hK hP (ci := 12) (q0 := 0) rfl (gM_0 cs ad mu), sz_m hK hz⟩ rfl rfl hl.1 rfl (lv_room (Nat.le_of_ble_eq_true rfl)) dX12_routeOn_22 ⟨Nat.zero_le _, Nat.zero_le _⟩) hS (fun r6 hw6 locs hS => ?_)
  refine lv_iload_n hx hb dX12_routeOn_25 rfl (lv_at hl 4 rfl) ?_
  refine lv_iconst (v := (-1)) hx hb dX12_routeOn_26 (by decide) ?_
  refine lv_ixor hx hb dX12_routeOn_27 ?_
  refine lv_topi (fun t7 et7 => ?_)
  refine lv_iand hx hb dX12_routeOn_28 ?_
  refine lv_topi (fun t8 et8 => ?_)
  refine lv_istore (lv' := [(6, .int t8), (5, .int r5), (4, .int y4), (0, .ref (ad 0)), (1, .int 3), (2, .int vh), (3, .int vp)]) hx hb dX12_routeOn_29 hl (by decide) rfl (fun ls hl => ?_)
  refine lv_iconst (v := 0) hx hb dX12_routeOn_31 (by decide) ?_
  refine lv_istore (lv' := [(7, .int 0), (6, .int t8), (5, .int r5), (4, .int y4), (0, .ref (ad 0)), (1, .int 3), (2, .int vh), (3, .int vp)]) hx hb dX12_routeOn_32 hl (by decide) rfl (fun ls hl => ?_)
  have loop34 : ∀ (n34 : Nat) (v7_34 : Int32) (nu34_ : Nat → Nat → Int32) (H : Heap) (locs : List Loc) (ls : Array Slot), (7 + 1 - v7_34.toInt).toNat < n34 → (0 ≤ v7_34.toInt ∧ v7_34.toInt ≤ 7) → (((nu34_ 0 39).toInt = -9 ∨ (0 ≤ (nu34_ 0 39).toInt ∧ (nu34_ 0 39).toInt ≤ 3)) ∧ ((nu34_ 0 33).toInt = 0 ∨ (nu34_ 0 35).toInt ≤ 7)) → okR loM hiM nu34_ → va_P (dC, dI) vwCl (wR 21 ad (EM cs ad) nu34_) H → va_S (va_A (wR 21 ad (EM cs ad) mu) s.heap.size) s.heap H locs → lv_has ls 8 [(7, .int v7_34), (6, .int t8), (5, .int r5), (4, .int y4), (0, .ref (ad 0)), (1, .int 3), (2, .int vh), (3, .int vp)] → W p l e (headSpec (wU yX12_routeOn cX12_routeOn 8 none) ({ frames := 6, cells := 0, slots := 0, locals := 154 })).room s m ([.ref (ad 0), .int 3, .int vh, .int vp] : List Value).toArray below meth c H locs 0 0 (MQ below (va_Qv (fun (xi : Nat → Nat → Int32) => okR loM hiM xi ∧ (((xi 0 39).toInt = -9 ∨ (0 ≤ (xi 0 39).toInt ∧ (xi 0 39).toInt ≤ 3)) ∧ ((xi 0 33).toInt = 0 ∨ (xi 0 35).toInt ≤ 7)) ∧ True) (fun xi t => va_P (dC, dI) vwCl (wR 21 ad (EM cs ad) xi) t.heap) (va_A (wR 21 ad (EM cs ad) mu) s.heap.size)) ([.ref (ad 0), .int 3, .int vh, .int vp] : List Value).toArray s 0 0 (va_A (wR 21 ad (EM cs ad) mu) s.heap.size)) (F0 m 34 ls []) := by
    intro n34
    induction n34 with
    | zero => intro v7_34 nu34_ H locs ls hm; exact absurd hm (Nat.not_lt_zero _)
    | succ n34 ih34 =>
      intro v7_34 nu34_ H locs ls hm h_v7_34 hi34_0 ok hP hS hl
      obtain ⟨y9, ey9⟩ : ∃ z : Int32, z = nu34_ 0 39 := ⟨_, rfl⟩
      have by9 : y9.toInt = (nu34_ 0 39).toInt := congrArg Int32.toInt ey9
      have gy9 : -9 ≤ y9.toInt ∧ y9.toInt ≤ 3 := by rw [ey9]; exact rM_0_39 ok
      obtain ⟨y10, ey10⟩ : ∃ z : Int32, z = nu34_ 0 33 := ⟨_, rfl⟩
      have by10 : y10.toInt = (nu34_ 0 33).toInt := congrArg Int32.toInt ey10
      obtain ⟨y11, ey11⟩ : ∃ z : Int32, z = nu34_ 0 35 := ⟨_, rfl⟩
      have by11 : y11.toInt = (nu34_ 0 35).toInt := congrArg Int32.toInt ey11
      refine lv_iload hx hb dX12_routeOn_34 (lv_at hl 0 rfl) ?_
      refine lv_aload_n hx hb dX12_routeOn_36 rfl (lv_at hl 4 rfl) ?_
      refine va_get (D := (dC, dI)) (ci := 12) (v := .int (nu34_ 0 8)) (C := RX12) (T := TX12) (N := 46) hx hb hts inG12 hown hK hP 0 (gM_0 cs ad nu34_) rfl 8 (by decide) (hts _ (List.mem_cons_of_mem _ mw_5_49)) (fun _ h9 => h9) rfl dX12_routeOn_37 ?_
      refine lv_topi (fun y12 ey12 => ?_)
      have by12 : y12.toInt = (nu34_ 0 8).toInt := congrArg Int32.toInt ey12
      have gy12 : 0 ≤ y12.toInt ∧ y12.toInt ≤ 7 := by rw [ey12]; exact rM_0_8 ok
      refine lv_icmp_ge (tgt := 145) hx hb dX12_routeOn_40 (by decide) (fun c_13 => ?_) (fun c_13 => ?_)
      · have c_13 : y12.toInt ≤ v7_34.toInt := il_le c_13
        exact W.vret hx hb hr (fun t ht hW => ⟨⟨nu34_, rfl, ⟨ok, (by have hb14 := congrArg Int32.toInt ey9; have hb15 := congrArg Int32.toInt ey10; have hb16 := congrArg Int32.toInt ey11; omega), trivial⟩, by first | (subst ht; exact hP) | (rw [ht]; exact hP) | (show va_P (dC, dI) vwCl (wR 21 ad (EM cs ad) nu34_) t.heap; rw [ht]; exact hP)⟩, hS.F ht⟩) hS.2.2 dX12_routeOn_145
      · have c_13 : v7_34.toInt < y12.toInt := il_nle c_13
        refine lv_iload hx hb dX12_routeOn_43 (lv_at hl 1 rfl) ?_
        refine lv_iload hx hb dX12_routeOn_45 (lv_at hl 0 rfl) ?_
        refine cr_i (va_runS (As := [.int t8, .int v7_34]) (rest := []) ⟨hx, hb, hml, hown, hts⟩ (sm_has l dC dI (tyM cs) H t8 v7_34) (va_cwS 2 hts (wU_S mw_6_59 mw_6_57 mw_6_58 mw_1_13) rfl rfl rfl (by decide +kernel) ⟨Nat.le_of_ble_eq_true rfl, Nat.le_of_ble_eq_true rfl⟩) ⟨sz_c, sz_m hK hz⟩ rfl rfl hl.1 rfl (lv_room (Nat.le_of_ble_eq_true rfl)) dX12_routeOn_47 ⟨Nat.zero_le _, Nat.zero_le _⟩) hS (fun r17 hw17 locs hS => ?_)
        rcases hw17 with ⟨rfl, f17⟩ | ⟨rfl, f17⟩
        · have f17 : rb t8 v7_34 = 1 := f17
          refine lv_if_eq (tgt := 139) hx hb dX12_routeOn_50 (by decide) (fun c => absurd c (by decide)) (fun _ => ?_)
          refine lv_aload_n hx hb dX12_routeOn_53 rfl (lv_at hl 4 rfl) ?_
          refine va_get (D := (dC, dI)) (ci := 12) (v := .int (nu34_ 0 38)) (C := RX12) (T := TX12) (N := 46) hx hb hts inG12 hown hK hP 0 (gM_0 cs ad nu34_) rfl 38 (by decide) (hts _ (List.mem_cons_of_mem _ mw_5_79)) (fun _ h9 => h9) rfl dX12_routeOn_54 ?_
          refine lv_topi (fun y18 ey18 => ?_)
          have by18 : y18.toInt = (nu34_ 0 38).toInt := congrArg Int32.toInt ey18
          have gy18 : 0 ≤ y18.toInt ∧ y18.toInt ≤ 1 := by rw [ey18]; exact rM_0_38 ok
          refine lv_if_eq (tgt := 72) hx hb dX12_routeOn_57 (by decide) (fun c_19 => ?_) (fun c_19 => ?_)
          · have c_19 : y18.toInt = 0 := il_eq c_19
            refine lv_aload_n hx hb dX12_routeOn_72 rfl (lv_at hl 4 rfl) ?_
            refine va_get (D := (dC, dI)) (ci := 12) (v := .ref (ad 16)) (C := RX12) (T := TX12) (N := 46) hx hb hts inG12 hown hK hP 0 (gM_0 cs ad nu34_) rfl 26 (by decide) (hts _ (List.mem_cons_of_mem _ mw_5_67)) (fun _ h9 => h9) rfl dX12_routeOn_73 ?_
            refine lv_iload_n hx hb dX12_routeOn_76 rfl (lv_at hl 5 rfl) ?_
            refine lv_iload hx hb dX12_routeOn_77 (lv_at hl 0 rfl) ?_
            refine va_iast hx hb hK hP (wR_D nu34_ hD) hS 16 0 (gM_16 cs ad nu34_) rfl (show vp_in 3 7 from (by unfold vp_in; decide)) dX12_routeOn_79 (fun H locs hP _ hS => ?_)
            refine wr_gen (upd (nu34_ 16) (3 : Int32).toNatClampNeg v7_34) hP (rfl) (fun nu20 hn20 hP => ?_)
            have ok := tM_16_s ok (3 : Int32).toNatClampNeg hn20 (by exact ⟨by omega, by omega⟩)
            have ez21 : y9 = nu20 0 39 := ey9.trans (congrFun (up_k hn20 (by decide)) 39).symm
            have ez22 : y10 = nu20 0 33 := ey10.trans (congrFun (up_k hn20 (by decide)) 33).symm
            have ez23 : y11 = nu20 0 35 := ey11.trans (congrFun (up_k hn20 (by decide)) 35).symm
            have ez24 : y12 = nu20 0 8 := ey12.trans (congrFun (up_k hn20 (by decide)) 8).symm
            have ez25 : y18 = nu20 0 38 := ey18.trans (congrFun (up_k hn20 (by decide)) 38).symm
            refine lv_iload hx hb dX12_routeOn_80 (lv_at hl 0 rfl) ?_
            refine lv_aload_n hx hb dX12_routeOn_82 rfl (lv_at hl 4 rfl) ?_
            refine va_get (D := (dC, dI)) (ci := 12) (v := .int (nu20 0 29)) (C := RX12) (T := TX12) (N := 46) hx hb hts inG12 hown hK hP 0 (gM_0 cs ad nu20) rfl 29 (by decide) (hts _ (List.mem_cons_of_mem _ mw_5_70)) (fun _ h9 => h9) rfl dX12_routeOn_83 ?_
            refine lv_topi (fun y26 ey26 => ?_)
            have by26 : y26.toInt = (nu20 0 29).toInt := congrArg Int32.toInt ey26
            refine lv_icmp_ne (tgt := 113) hx hb dX12_routeOn_86 (by decide) (fun c_27 => ?_) (fun c_27 => ?_)
            · have c_27 : ¬ v7_34.toInt = y26.toInt := il_ne c_27
              refine lv_aload_n hx hb dX12_routeOn_113 rfl (lv_at hl 4 rfl) ?_
              refine va_get (D := (dC, dI)) (ci := 12) (v := .ref (ad 7)) (C := RX12) (T := TX12) (N := 46) hx hb hts inG12 hown hK hP 0 (gM_0 cs ad nu20) rfl 9 (by decide) (hts _ (List.mem_cons_of_mem _ mw_5_50)) (fun _ h9 => h9) rfl dX12_routeOn_114 ?_
              refine lv_iload hx hb dX12_routeOn_117 (lv_at hl 0 rfl) ?_
              refine va_iald hx hb hK hP 7 0 (gM_7 cs ad nu20) rfl (show vp_in v7_34 7 from vi_of (by omega) (by omega)) dX12_routeOn_119 ?_
              refine lv_topi (fun y28 ey28 => ?_)
              have by28 : y28.toInt = (nu20 7 v7_34.toNatClampNeg).toInt := congrArg Int32.toInt ey28
              refine lv_iconst (v := 3) hx hb dX12_routeOn_120 (by decide) ?_
              refine lv_icmp_eq (tgt := 139) hx hb dX12_routeOn_121 (by decide) (fun c_29 => ?_) (fun c_29 => ?_)
              · have c_29 : y28.toInt = 3 := il_eq c_29
                refine lv_iinc (v := (v7_34 + 1)) (lv' := [(7, .int (v7_34 + 1)), (6, .int t8), (5, .int r5), (4, .int y4), (0, .ref (ad 0)), (1, .int 3), (2, .int vh), (3, .int vp)]) hx hb dX12_routeOn_139 hl (k := 0) rfl rfl (by decide) rfl (fun ls hl => ?_)
                refine loc_gen (P := fun w9 => lv_has ls 8 [(7, .int w9), (6, .int t8), (5, .int r5), (4, .int y4), (0, .ref (ad 0)), (1, .int 3), (2, .int vh), (3, .int vp)]) (v7_34 + 1) hl (fun w30 hw30 hl => ?_)
                have hl : lv_has ls 8 [(7, .int w30), (6, .int t8), (5, .int r5), (4, .int y4), (0, .ref (ad 0)), (1, .int 3), (2, .int vh), (3, .int vp)] := hl
                have aw30 : w30.toInt = v7_34.toInt + 1 := by rw [← hw30]; exact tI_add (rfl : v7_34.toInt = _) (rfl : (1 : Int32).toInt = 1) (by omega) (by omega)
                refine lv_goto (tgt := 34) hx hb dX12_routeOn_142 (by decide) ?_
                exact ih34 (w30) nu20 _ _ _ (by omega) (by exact ⟨by omega, by omega⟩) (by have hb31 := congrArg Int32.toInt ez21; have hb32 := congrArg Int32.toInt ez22; have hb33 := congrArg Int32.toInt ez23; omega) ok hP   hS (lv_sub hl [0, 1, 2, 3, 4, 5, 6, 7] rfl)
              · have c_29 : ¬ y28.toInt = 3 := il_ne c_29
                refine lv_aload_n hx hb dX12_routeOn_124 rfl (lv_at hl 4 rfl) ?_
                refine lv_iload_n hx hb dX12_routeOn_125 rfl (lv_at hl 5 rfl) ?_
                refine lv_iconst (v := 1) hx hb dX12_routeOn_126 (by decide) ?_
                refine lv_iadd hx hb dX12_routeOn_127 ?_
                refine lq_i 4 (by decide) ?_
                refine lv_iload_n hx hb dX12_routeOn_128 rfl (lv_at hl 6 rfl) ?_
                refine lv_iconst (v := 1) hx hb dX12_routeOn_129 (by decide) ?_
                refine lv_iload hx hb dX12_routeOn_130 (lv_at hl 0 rfl) ?_
                refine lv_ishl hx hb dX12_routeOn_132 ?_
                refine lv_topi (fun t34 et34 => ?_)
                refine lv_ior hx hb dX12_routeOn_133 ?_
                refine lv_topi (fun t35 et35 => ?_)
                refine lv_iload hx hb dX12_routeOn_134 (lv_at hl 2 rfl) ?_
                have hFc := fr_all (wR_D nu20 hD) hS hA
                refine va_callv (va_runV (As := [.int 4, .int t35, .int r5]) (rest := []) ⟨hx, hb, hml, hown, hts⟩ (sm_routeOn4 l dC dI cs ad nu20 ok H hP ((wR_D nu20 hD).weaken (fun _ _ _ _ => trivial)) t35 r5 (by have h50 : (4 : Int32).toInt = 4 := rfl; rw [et35, et34]; exact h7_next hin0 (by rw [et8, et7]) (by omega) (by omega) f17) (by have h50 : (4 : Int32).toInt = 4 := rfl; have hb36 := congrArg Int32.toInt ez21; have hb37 := congrArg Int32.toInt ez22; have hb38 := congrArg Int32.toInt ez23; omega)) (cwV 3 hts (wU_V mw_6_183 mw_6_180 mw_6_182 mw_0_55 mw_1_13) rfl rfl rfl (by decide +kernel) ⟨Nat.le_of_ble_eq_true rfl, Nat.le_of_ble_eq_true rfl⟩) ⟨sz_c, va_recv hK hP (ci := 12) (q0 := 0) rfl (gM_0 cs ad nu20), sz_m hK hz⟩ rfl rfl hl.1 rfl (lv_room (Nat.le_of_ble_eq_true rfl)) dX12_routeOn_136 ⟨Nat.zero_le _, Nat.zero_le _⟩) hS (fun q _ h => hFc q h) hFc (fun xi39 t H39 locs ht hvm hw39 hB hz1 hk1 hS => ?_)
                have hP : va_P (dC, dI) vwCl (wR 21 ad (EM cs ad) xi39) H39 := by rw [← ht]; exact hB
                obtain ⟨ok, hw39, _⟩ := hw39
                obtain ⟨y40, ey40⟩ : ∃ z : Int32, z = xi39 0 39 := ⟨_, rfl⟩
                have by40 : y40.toInt = (xi39 0 39).toInt := congrArg Int32.toInt ey40
                have gy40 : -9 ≤ y40.toInt ∧ y40.toInt ≤ 3 := by rw [ey40]; exact rM_0_39 ok
                obtain ⟨y41, ey41⟩ : ∃ z : Int32, z = xi39 0 33 := ⟨_, rfl⟩
                have by41 : y41.toInt = (xi39 0 33).toInt := congrArg Int32.toInt ey41
                obtain ⟨y42, ey42⟩ : ∃ z : Int32, z = xi39 0 35 := ⟨_, rfl⟩
                have by42 : y42.toInt = (xi39 0 35).toInt := congrArg Int32.toInt ey42
                have gr39 : ((xi39 0 39).toInt = -9 ∨ (0 ≤ (xi39 0 39).toInt ∧ (xi39 0 39).toInt ≤ 3)) ∧ ((xi39 0 33).toInt = 0 ∨ (xi39 0 35).toInt ≤ 7) := hw39
                refine lv_iinc (v := (v7_34 + 1)) (lv' := [(7, .int (v7_34 + 1)), (6, .int t8), (5, .int r5), (4, .int y4), (0, .ref (ad 0)), (1, .int 3), (2, .int vh), (3, .int vp)]) hx hb dX12_routeOn_139 hl (k := 0) rfl rfl (by decide) rfl (fun ls hl => ?_)
                refine loc_gen (P := fun w9 => lv_has ls 8 [(7, .int w9), (6, .int t8), (5, .int r5), (4, .int y4), (0, .ref (ad 0)), (1, .int 3), (2, .int vh), (3, .int vp)]) (v7_34 + 1) hl (fun w43 hw43 hl => ?_)
                have hl : lv_has ls 8 [(7, .int w43), (6, .int t8), (5, .int r5), (4, .int y4), (0, .ref (ad 0)), (1, .int 3), (2, .int vh), (3, .int vp)] := hl
                have aw43 : w43.toInt = v7_34.toInt + 1 := by rw [← hw43]; exact tI_add (rfl : v7_34.toInt = _) (rfl : (1 : Int32).toInt = 1) (by omega) (by omega)
                refine lv_goto (tgt := 34) hx hb dX12_routeOn_142 (by decide) ?_
                exact ih34 (w43) xi39 _ _ _ (by omega) (by exact ⟨by omega, by omega⟩) (by have hb44 := congrArg Int32.toInt ey40; have hb45 := congrArg Int32.toInt ey41; have hb46 := congrArg Int32.toInt ey42; omega) ok hP   hS (lv_sub hl [0, 1, 2, 3, 4, 5, 6, 7] rfl)
            · have c_27 : v7_34.toInt = y26.toInt := il_eq c_27
              refine lv_aload_n hx hb dX12_routeOn_89 rfl (lv_at hl 4 rfl) ?_
              refine lv_iload_n hx hb dX12_routeOn_90 rfl (lv_at hl 5 rfl) ?_
              refine lv_iconst (v := 1) hx hb dX12_routeOn_91 (by decide) ?_
              refine lv_iadd hx hb dX12_routeOn_92 ?_
              refine lq_i 4 (by decide) ?_
              refine lv_iload_n hx hb dX12_routeOn_93 rfl (lv_at hl 6 rfl) ?_
              refine lv_iconst (v := 1) hx hb dX12_routeOn_94 (by decide) ?_
              refine lv_aload_n hx hb dX12_routeOn_95 rfl (lv_at hl 4 rfl) ?_
              refine va_get (D := (dC, dI)) (ci := 12) (v := .ref (ad 16)) (C := RX12) (T := TX12) (N := 46) hx hb hts inG12 hown hK hP 0 (gM_0 cs ad nu20) rfl 26 (by decide) (hts _ (List.mem_cons_of_mem _ mw_5_67)) (fun _ h9 => h9) rfl dX12_routeOn_96 ?_
              refine lv_iconst (v := 0) hx hb dX12_routeOn_99 (by decide) ?_
              refine va_iald hx hb hK hP 16 0 (gM_16 cs ad nu20) rfl (show vp_in 0 7 from (by unfold vp_in; decide)) dX12_routeOn_100 ?_
              refine lv_topi (fun y47 ey47 => ?_)
              have by47 : y47.toInt = (nu20 16 (0 : Int32).toNatClampNeg).toInt := congrArg Int32.toInt ey47
              have gy47 : 0 ≤ y47.toInt ∧ y47.toInt ≤ 6 := by rw [ey47]; exact rM_16_s ok (0 : Int32).toNatClampNeg
              refine lv_ishl hx hb dX12_routeOn_101 ?_
              refine lv_topi (fun t48 et48 => ?_)
              refine lv_iconst (v := (-1)) hx hb dX12_routeOn_102 (by decide) ?_
              refine lv_ixor hx hb dX12_routeOn_103 ?_
              refine lv_topi (fun t49 et49 => ?_)
              refine lv_iand hx hb dX12_routeOn_104 ?_
              refine lv_topi (fun t50 et50 => ?_)
              refine lv_iload hx hb dX12_routeOn_105 (lv_at hl 2 rfl) ?_
              have hFc := fr_all (wR_D nu20 hD) hS hA
              refine va_callv (va_runV (As := [.int 4, .int t50, .int r5]) (rest := []) ⟨hx, hb, hml, hown, hts⟩ (sm_meetRoute l dC dI cs ad nu20 ok H hP ((wR_D nu20 hD).weaken (fun _ _ _ _ => trivial)) 4 t50 r5 (by have h50 : (4 : Int32).toInt = 4 := rfl; omega) (by have h50 : (4 : Int32).toInt = 4 := rfl; have hb51 := congrArg Int32.toInt ez21; have hb52 := congrArg Int32.toInt ez22; have hb53 := congrArg Int32.toInt ez23; omega)) (cwV 3 hts (wU_V mw_6_187 mw_6_184 mw_6_186 mw_0_56 mw_1_13) rfl rfl rfl (by decide +kernel) ⟨Nat.le_of_ble_eq_true rfl, Nat.le_of_ble_eq_true rfl⟩) ⟨sz_c, va_recv hK hP (ci := 12) (q0 := 0) rfl (gM_0 cs ad nu20), sz_m hK hz⟩ rfl rfl hl.1 rfl (lv_room (Nat.le_of_ble_eq_true rfl)) dX12_routeOn_107 ⟨Nat.zero_le _, Nat.zero_le _⟩) hS (fun q _ h => hFc q h) hFc (fun xi54 t H54 locs ht hvm hw54 hB hz1 hk1 hS => ?_)
              have hP : va_P (dC, dI) vwCl (wR 21 ad (EM cs ad) xi54) H54 := by rw [← ht]; exact hB
              obtain ⟨ok, hw54, _⟩ := hw54
              obtain ⟨y55, ey55⟩ : ∃ z : Int32, z = xi54 0 39 := ⟨_, rfl⟩
              have by55 : y55.toInt = (xi54 0 39).toInt := congrArg Int32.toInt ey55
              have gy55 : -9 ≤ y55.toInt ∧ y55.toInt ≤ 3 := by rw [ey55]; exact rM_0_39 ok
              obtain ⟨y56, ey56⟩ : ∃ z : Int32, z = xi54 0 33 := ⟨_, rfl⟩
              have by56 : y56.toInt = (xi54 0 33).toInt := congrArg Int32.toInt ey56
              obtain ⟨y57, ey57⟩ : ∃ z : Int32, z = xi54 0 35 := ⟨_, rfl⟩
              have by57 : y57.toInt = (xi54 0 35).toInt := congrArg Int32.toInt ey57
              have gr54 : ((xi54 0 39).toInt = -9 ∨ (0 ≤ (xi54 0 39).toInt ∧ (xi54 0 39).toInt ≤ 3)) ∧ ((xi54 0 33).toInt = 0 ∨ (xi54 0 35).toInt ≤ 7) := hw54
              refine lv_goto (tgt := 139) hx hb dX12_routeOn_110 (by decide) ?_
              refine lv_iinc (v := (v7_34 + 1)) (lv' := [(7, .int (v7_34 + 1)), (6, .int t8), (5, .int r5), (4, .int y4), (0, .ref (ad 0)), (1, .int 3), (2, .int vh), (3, .int vp)]) hx hb dX12_routeOn_139 hl (k := 0) rfl rfl (by decide) rfl (fun ls hl => ?_)
              refine loc_gen (P := fun w9 => lv_has ls 8 [(7, .int w9), (6, .int t8), (5, .int r5), (4, .int y4), (0, .ref (ad 0)), (1, .int 3), (2, .int vh), (3, .int vp)]) (v7_34 + 1) hl (fun w58 hw58 hl => ?_)
              have hl : lv_has ls 8 [(7, .int w58), (6, .int t8), (5, .int r5), (4, .int y4), (0, .ref (ad 0)), (1, .int 3), (2, .int vh), (3, .int vp)] := hl
              have aw58 : w58.toInt = v7_34.toInt + 1 := by rw [← hw58]; exact tI_add (rfl : v7_34.toInt = _) (rfl : (1 : Int32).toInt = 1) (by omega) (by omega)
              refine lv_goto (tgt := 34) hx hb dX12_routeOn_142 (by decide) ?_
              exact ih34 (w58) xi54 _ _ _ (by omega) (by exact ⟨by omega, by omega⟩) (by have hb59 := congrArg Int32.toInt ey55; have hb60 := congrArg Int32.toInt ey56; have hb61 := congrArg Int32.toInt ey57; omega) ok hP   hS (lv_sub hl [0, 1, 2, 3, 4, 5, 6, 7] rfl)
          · have c_19 : ¬ y18.toInt = 0 := il_ne c_19
            refine lv_aload_n hx hb dX12_routeOn_60 rfl (lv_at hl 4 rfl) ?_
            refine va_get (D := (dC, dI)) (ci := 12) (v := .ref (ad 8)) (C := RX12) (T := TX12) (N := 46) hx hb hts inG12 hown hK hP 0 (gM_0 cs ad nu34_) rfl 10 (by decide) (hts _ (List.mem_cons_of_mem _ mw_5_51)) (fun _ h9 => h9) rfl dX12_routeOn_61 ?_
            refine lv_iload hx hb dX12_routeOn_64 (lv_at hl 0 rfl) ?_
            refine va_iald hx hb hK hP 8 0 (gM_8 cs ad nu34_) rfl (show vp_in v7_34 7 from vi_of (by omega) (by omega)) dX12_routeOn_66 ?_
            refine lv_topi (fun y62 ey62 => ?_)
            have by62 : y62.toInt = (nu34_ 8 v7_34.toNatClampNeg).toInt := congrArg Int32.toInt ey62
            refine lv_iload hx hb dX12_routeOn_67 (lv_at hl 2 rfl) ?_
            refine lv_icmp_lt (tgt := 139) hx hb dX12_routeOn_69 (by decide) (fun c_63 => ?_) (fun c_63 => ?_)
            · have c_63 : y62.toInt < r5.toInt := il_lt c_63
              refine lv_iinc (v := (v7_34 + 1)) (lv' := [(7, .int (v7_34 + 1)), (6, .int t8), (5, .int r5), (4, .int y4), (0, .ref (ad 0)), (1, .int 3), (2, .int vh), (3, .int vp)]) hx hb dX12_routeOn_139 hl (k := 0) rfl rfl (by decide) rfl (fun ls hl => ?_)
              refine loc_gen (P := fun w9 => lv_has ls 8 [(7, .int w9), (6, .int t8), (5, .int r5), (4, .int y4), (0, .ref (ad 0)), (1, .int 3), (2, .int vh), (3, .int vp)]) (v7_34 + 1) hl (fun w64 hw64 hl => ?_)
              have hl : lv_has ls 8 [(7, .int w64), (6, .int t8), (5, .int r5), (4, .int y4), (0, .ref (ad 0)), (1, .int 3), (2, .int vh), (3, .int vp)] := hl
              have aw64 : w64.toInt = v7_34.toInt + 1 := by rw [← hw64]; exact tI_add (rfl : v7_34.toInt = _) (rfl : (1 : Int32).toInt = 1) (by omega) (by omega)
              refine lv_goto (tgt := 34) hx hb dX12_routeOn_142 (by decide) ?_
              exact ih34 (w64) nu34_ _ _ _ (by omega) (by exact ⟨by omega, by omega⟩) (by have hb65 := congrArg Int32.toInt ey9; have hb66 := congrArg Int32.toInt ey10; have hb67 := congrArg Int32.toInt ey11; omega) ok hP   hS (lv_sub hl [0, 1, 2, 3, 4, 5, 6, 7] rfl)
            · have c_63 : r5.toInt ≤ y62.toInt := il_nlt c_63
              refine lv_aload_n hx hb dX12_routeOn_72 rfl (lv_at hl 4 rfl) ?_
              refine va_get (D := (dC, dI)) (ci := 12) (v := .ref (ad 16)) (C := RX12) (T := TX12) (N := 46) hx hb hts inG12 hown hK hP 0 (gM_0 cs ad nu34_) rfl 26 (by decide) (hts _ (List.mem_cons_of_mem _ mw_5_67)) (fun _ h9 => h9) rfl dX12_routeOn_73 ?_
              refine lv_iload_n hx hb dX12_routeOn_76 rfl (lv_at hl 5 rfl) ?_
              refine lv_iload hx hb dX12_routeOn_77 (lv_at hl 0 rfl) ?_
              refine va_iast hx hb hK hP (wR_D nu34_ hD) hS 16 0 (gM_16 cs ad nu34_) rfl (show vp_in 3 7 from (by unfold vp_in; decide)) dX12_routeOn_79 (fun H locs hP _ hS => ?_)
              refine wr_gen (upd (nu34_ 16) (3 : Int32).toNatClampNeg v7_34) hP (rfl) (fun nu68 hn68 hP => ?_)
              have ok := tM_16_s ok (3 : Int32).toNatClampNeg hn68 (by exact ⟨by omega, by omega⟩)
              have ez69 : y9 = nu68 0 39 := ey9.trans (congrFun (up_k hn68 (by decide)) 39).symm
              have ez70 : y10 = nu68 0 33 := ey10.trans (congrFun (up_k hn68 (by decide)) 33).symm
              have ez71 : y11 = nu68 0 35 := ey11.trans (congrFun (up_k hn68 (by decide)) 35).symm
              have ez72 : y12 = nu68 0 8 := ey12.trans (congrFun (up_k hn68 (by decide)) 8).symm
              have ez73 : y18 = nu68 0 38 := ey18.trans (congrFun (up_k hn68 (by decide)) 38).symm
              have ez74 : y62 = nu68 8 v7_34.toNatClampNeg := ey62.trans (congrFun (up_k hn68 (by decide)) v7_34.toNatClampNeg).symm
              refine lv_iload hx hb dX12_routeOn_80 (lv_at hl 0 rfl) ?_
              refine lv_aload_n hx hb dX12_routeOn_82 rfl (lv_at hl 4 rfl) ?_
              refine va_get (D := (dC, dI)) (ci := 12) (v := .int (nu68 0 29)) (C := RX12) (T := TX12) (N := 46) hx hb hts inG12 hown hK hP 0 (gM_0 cs ad nu68) rfl 29 (by decide) (hts _ (List.mem_cons_of_mem _ mw_5_70)) (fun _ h9 => h9) rfl dX12_routeOn_83 ?_
              refine lv_topi (fun y75 ey75 => ?_)
              have by75 : y75.toInt = (nu68 0 29).toInt := congrArg Int32.toInt ey75
              refine lv_icmp_ne (tgt := 113) hx hb dX12_routeOn_86 (by decide) (fun c_76 => ?_) (fun c_76 => ?_)
              · have c_76 : ¬ v7_34.toInt = y75.toInt := il_ne c_76
                refine lv_aload_n hx hb dX12_routeOn_113 rfl (lv_at hl 4 rfl) ?_
                refine va_get (D := (dC, dI)) (ci := 12) (v := .ref (ad 7)) (C := RX12) (T := TX12) (N := 46) hx hb hts inG12 hown hK hP 0 (gM_0 cs ad nu68) rfl 9 (by decide) (hts _ (List.mem_cons_of_mem _ mw_5_50)) (fun _ h9 => h9) rfl dX12_routeOn_114 ?_
                refine lv_iload hx hb dX12_routeOn_117 (lv_at hl 0 rfl) ?_
                refine va_iald hx hb hK hP 7 0 (gM_7 cs ad nu68) rfl (show vp_in v7_34 7 from vi_of (by omega) (by omega)) dX12_routeOn_119 ?_
                refine lv_topi (fun y77 ey77 => ?_)
                have by77 : y77.toInt = (nu68 7 v7_34.toNatClampNeg).toInt := congrArg Int32.toInt ey77
                refine lv_iconst (v := 3) hx hb dX12_routeOn_120 (by decide) ?_
                refine lv_icmp_eq (tgt := 139) hx hb dX12_routeOn_121 (by decide) (fun c_78 => ?_) (fun c_78 => ?_)
                · have c_78 : y77.toInt = 3 := il_eq c_78
                  refine lv_iinc (v := (v7_34 + 1)) (lv' := [(7, .int (v7_34 + 1)), (6, .int t8), (5, .int r5), (4, .int y4), (0, .ref (ad 0)), (1, .int 3), (2, .int vh), (3, .int vp)]) hx hb dX12_routeOn_139 hl (k := 0) rfl rfl (by decide) rfl (fun ls hl => ?_)
                  refine loc_gen (P := fun w9 => lv_has ls 8 [(7, .int w9), (6, .int t8), (5, .int r5), (4, .int y4), (0, .ref (ad 0)), (1, .int 3), (2, .int vh), (3, .int vp)]) (v7_34 + 1) hl (fun w79 hw79 hl => ?_)
                  have hl : lv_has ls 8 [(7, .int w79), (6, .int t8), (5, .int r5), (4, .int y4), (0, .ref (ad 0)), (1, .int 3), (2, .int vh), (3, .int vp)] := hl
                  have aw79 : w79.toInt = v7_34.toInt + 1 := by rw [← hw79]; exact tI_add (rfl : v7_34.toInt = _) (rfl : (1 : Int32).toInt = 1) (by omega) (by omega)
                  refine lv_goto (tgt := 34) hx hb dX12_routeOn_142 (by decide) ?_
                  exact ih34 (w79) nu68 _ _ _ (by omega) (by exact ⟨by omega, by omega⟩) (by have hb80 := congrArg Int32.toInt ez69; have hb81 := congrArg Int32.toInt ez70; have hb82 := congrArg Int32.toInt ez71; omega) ok hP   hS (lv_sub hl [0, 1, 2, 3, 4, 5, 6, 7] rfl)
                · have c_78 : ¬ y77.toInt = 3 := il_ne c_78
                  refine lv_aload_n hx hb dX12_routeOn_124 rfl (lv_at hl 4 rfl) ?_
                  refine lv_iload_n hx hb dX12_routeOn_125 rfl (lv_at hl 5 rfl) ?_
                  refine lv_iconst (v := 1) hx hb dX12_routeOn_126 (by decide) ?_
                  refine lv_iadd hx hb dX12_routeOn_127 ?_
                  refine lq_i 4 (by decide) ?_
                  refine lv_iload_n hx hb dX12_routeOn_128 rfl (lv_at hl 6 rfl) ?_
                  refine lv_iconst (v := 1) hx hb dX12_routeOn_129 (by decide) ?_
                  refine lv_iload hx hb dX12_routeOn_130 (lv_at hl 0 rfl) ?_
                  refine lv_ishl hx hb dX12_routeOn_132 ?_
                  refine lv_topi (fun t83 et83 => ?_)
                  refine lv_ior hx hb dX12_routeOn_133 ?_
                  refine lv_topi (fun t84 et84 => ?_)
                  refine lv_iload hx hb dX12_routeOn_134 (lv_at hl 2 rfl) ?_
                  have hFc := fr_all (wR_D nu68 hD) hS hA
                  refine va_callv (va_runV (As := [.int 4, .int t84, .int r5]) (rest := []) ⟨hx, hb, hml, hown, hts⟩ (sm_routeOn4 l dC dI cs ad nu68 ok H hP ((wR_D nu68 hD).weaken (fun _ _ _ _ => trivial)) t84 r5 (by have h50 : (4 : Int32).toInt = 4 := rfl; rw [et84, et83]; exact h7_next hin0 (by rw [et8, et7]) (by omega) (by omega) f17) (by have h50 : (4 : Int32).toInt = 4 := rfl; have hb85 := congrArg Int32.toInt ez69; have hb86 := congrArg Int32.toInt ez70; have hb87 := congrArg Int32.toInt ez71; omega)) (cwV 3 hts (wU_V mw_6_183 mw_6_180 mw_6_182 mw_0_55 mw_1_13) rfl rfl rfl (by decide +kernel) ⟨Nat.le_of_ble_eq_true rfl, Nat.le_of_ble_eq_true rfl⟩) ⟨sz_c, va_recv hK hP (ci := 12) (q0 := 0) rfl (gM_0 cs ad nu68), sz_m hK hz⟩ rfl rfl hl.1 rfl (lv_room (Nat.le_of_ble_eq_true rfl)) dX12_routeOn_136 ⟨Nat.zero_le _, Nat.zero_le _⟩) hS (fun q _ h => hFc q h) hFc (fun xi88 t H88 locs ht hvm hw88 hB hz1 hk1 hS => ?_)
                  have hP : va_P (dC, dI) vwCl (wR 21 ad (EM cs ad) xi88) H88 := by rw [← ht]; exact hB
                  obtain ⟨ok, hw88, _⟩ := hw88
                  obtain ⟨y89, ey89⟩ : ∃ z : Int32, z = xi88 0 39 := ⟨_, rfl⟩
                  have by89 : y89.toInt = (xi88 0 39).toInt := congrArg Int32.toInt ey89
                  have gy89 : -9 ≤ y89.toInt ∧ y89.toInt ≤ 3 := by rw [ey89]; exact rM_0_39 ok
                  obtain ⟨y90, ey90⟩ : ∃ z : Int32, z = xi88 0 33 := ⟨_, rfl⟩
                  have by90 : y90.toInt = (xi88 0 33).toInt := congrArg Int32.toInt ey90
                  obtain ⟨y91, ey91⟩ : ∃ z : Int32, z = xi88 0 35 := ⟨_, rfl⟩
                  have by91 : y91.toInt = (xi88 0 35).toInt := congrArg Int32.toInt ey91
                  have gr88 : ((xi88 0 39).toInt = -9 ∨ (0 ≤ (xi88 0 39).toInt ∧ (xi88 0 39).toInt ≤ 3)) ∧ ((xi88 0 33).toInt = 0 ∨ (xi88 0 35).toInt ≤ 7) := hw88
                  refine lv_iinc (v := (v7_34 + 1)) (lv' := [(7, .int (v7_34 + 1)), (6, .int t8), (5, .int r5), (4, .int y4), (0, .ref (ad 0)), (1, .int 3), (2, .int vh), (3, .int vp)]) hx hb dX12_routeOn_139 hl (k := 0) rfl rfl (by decide) rfl (fun ls hl => ?_)
                  refine loc_gen (P := fun w9 => lv_has ls 8 [(7, .int w9), (6, .int t8), (5, .int r5), (4, .int y4), (0, .ref (ad 0)), (1, .int 3), (2, .int vh), (3, .int vp)]) (v7_34 + 1) hl (fun w92 hw92 hl => ?_)
                  have hl : lv_has ls 8 [(7, .int w92), (6, .int t8), (5, .int r5), (4, .int y4), (0, .ref (ad 0)), (1, .int 3), (2, .int vh), (3, .int vp)] := hl
                  have aw92 : w92.toInt = v7_34.toInt + 1 := by rw [← hw92]; exact tI_add (rfl : v7_34.toInt = _) (rfl : (1 : Int32).toInt = 1) (by omega) (by omega)
                  refine lv_goto (tgt := 34) hx hb dX12_routeOn_142 (by decide) ?_
                  exact ih34 (w92) xi88 _ _ _ (by omega) (by exact ⟨by omega, by omega⟩) (by have hb93 := congrArg Int32.toInt ey89; have hb94 := congrArg Int32.toInt ey90; have hb95 := congrArg Int32.toInt ey91; omega) ok hP   hS (lv_sub hl [0, 1, 2, 3, 4, 5, 6, 7] rfl)
              · have c_76 : v7_34.toInt = y75.toInt := il_eq c_76
                refine lv_aload_n hx hb dX12_routeOn_89 rfl (lv_at hl 4 rfl) ?_
                refine lv_iload_n hx hb dX12_routeOn_90 rfl (lv_at hl 5 rfl) ?_
                refine lv_iconst (v := 1) hx hb dX12_routeOn_91 (by decide) ?_
                refine lv_iadd hx hb dX12_routeOn_92 ?_
                refine lq_i 4 (by decide) ?_
                refine lv_iload_n hx hb dX12_routeOn_93 rfl (lv_at hl 6 rfl) ?_
                refine lv_iconst (v := 1) hx hb dX12_routeOn_94 (by decide) ?_
                refine lv_aload_n hx hb dX12_routeOn_95 rfl (lv_at hl 4 rfl) ?_
                refine va_get (D := (dC, dI)) (ci := 12) (v := .ref (ad 16)) (C := RX12) (T := TX12) (N := 46) hx hb hts inG12 hown hK hP 0 (gM_0 cs ad nu68) rfl 26 (by decide) (hts _ (List.mem_cons_of_mem _ mw_5_67)) (fun _ h9 => h9) rfl dX12_routeOn_96 ?_
                refine lv_iconst (v := 0) hx hb dX12_routeOn_99 (by decide) ?_
                refine va_iald hx hb hK hP 16 0 (gM_16 cs ad nu68) rfl (show vp_in 0 7 from (by unfold vp_in; decide)) dX12_routeOn_100 ?_
                refine lv_topi (fun y96 ey96 => ?_)
                have by96 : y96.toInt = (nu68 16 (0 : Int32).toNatClampNeg).toInt := congrArg Int32.toInt ey96
                have gy96 : 0 ≤ y96.toInt ∧ y96.toInt ≤ 6 := by rw [ey96]; exact rM_16_s ok (0 : Int32).toNatClampNeg
                refine lv_ishl hx hb dX12_routeOn_101 ?_
                refine lv_topi (fun t97 et97 => ?_)
                refine lv_iconst (v := (-1)) hx hb dX12_routeOn_102 (by decide) ?_
                refine lv_ixor hx hb dX12_routeOn_103 ?_
                refine lv_topi (fun t98 et98 => ?_)
                refine lv_iand hx hb dX12_routeOn_104 ?_
                refine lv_topi (fun t99 et99 => ?_)
                refine lv_iload hx hb dX12_routeOn_105 (lv_at hl 2 rfl) ?_
                have hFc := fr_all (wR_D nu68 hD) hS hA
                refine va_callv (va_runV (As := [.int 4, .int t99, .int r5]) (rest := []) ⟨hx, hb, hml, hown, hts⟩ (sm_meetRoute l dC dI cs ad nu68 ok H hP ((wR_D nu68 hD).weaken (fun _ _ _ _ => trivial)) 4 t99 r5 (by have h50 : (4 : Int32).toInt = 4 := rfl; omega) (by have h50 : (4 : Int32).toInt = 4 := rfl; have hb100 := congrArg Int32.toInt ez69; have hb101 := congrArg Int32.toInt ez70; have hb102 := congrArg Int32.toInt ez71; omega)) (cwV 3 hts (wU_V mw_6_187 mw_6_184 mw_6_186 mw_0_56 mw_1_13) rfl rfl rfl (by decide +kernel) ⟨Nat.le_of_ble_eq_true rfl, Nat.le_of_ble_eq_true rfl⟩) ⟨sz_c, va_recv hK hP (ci := 12) (q0 := 0) rfl (gM_0 cs ad nu68), sz_m hK hz⟩ rfl rfl hl.1 rfl (lv_room (Nat.le_of_ble_eq_true rfl)) dX12_routeOn_107 ⟨Nat.zero_le _, Nat.zero_le _⟩) hS (fun q _ h => hFc q h) hFc (fun xi103 t H103 locs ht hvm hw103 hB hz1 hk1 hS => ?_)
                have hP : va_P (dC, dI) vwCl (wR 21 ad (EM cs ad) xi103) H103 := by rw [← ht]; exact hB
                obtain ⟨ok, hw103, _⟩ := hw103
                obtain ⟨y104, ey104⟩ : ∃ z : Int32, z = xi103 0 39 := ⟨_, rfl⟩
                have by104 : y104.toInt = (xi103 0 39).toInt := congrArg Int32.toInt ey104
                have gy104 : -9 ≤ y104.toInt ∧ y104.toInt ≤ 3 := by rw [ey104]; exact rM_0_39 ok
                obtain ⟨y105, ey105⟩ : ∃ z : Int32, z = xi103 0 33 := ⟨_, rfl⟩
                have by105 : y105.toInt = (xi103 0 33).toInt := congrArg Int32.toInt ey105
                obtain ⟨y106, ey106⟩ : ∃ z : Int32, z = xi103 0 35 := ⟨_, rfl⟩
                have by106 : y106.toInt = (xi103 0 35).toInt := congrArg Int32.toInt ey106
                have gr103 : ((xi103 0 39).toInt = -9 ∨ (0 ≤ (xi103 0 39).toInt ∧ (xi103 0 39).toInt ≤ 3)) ∧ ((xi103 0 33).toInt = 0 ∨ (xi103 0 35).toInt ≤ 7) := hw103
                refine lv_goto (tgt := 139) hx hb dX12_routeOn_110 (by decide) ?_
                refine lv_iinc (v := (v7_34 + 1)) (lv' := [(7, .int (v7_34 + 1)), (6, .int t8), (5, .int r5), (4, .int y4), (0, .ref (ad 0)), (1, .int 3), (2, .int vh), (3, .int vp)]) hx hb dX12_routeOn_139 hl (k := 0) rfl rfl (by decide) rfl (fun ls hl => ?_)
                refine loc_gen (P := fun w9 => lv_has ls 8 [(7, .int w9), (6, .int t8), (5, .int r5), (4, .int y4), (0, .ref (ad 0)), (1, .int 3), (2, .int vh), (3, .int vp)]) (v7_34 + 1) hl (fun w107 hw107 hl => ?_)
                have hl : lv_has ls 8 [(7, .int w107), (6, .int t8), (5, .int r5), (4, .int y4), (0, .ref (ad 0)), (1, .int 3), (2, .int vh), (3, .int vp)] := hl
                have aw107 : w107.toInt = v7_34.toInt + 1 := by rw [← hw107]; exact tI_add (rfl : v7_34.toInt = _) (rfl : (1 : Int32).toInt = 1) (by omega) (by omega)
                refine lv_goto (tgt := 34) hx hb dX12_routeOn_142 (by decide) ?_
                exact ih34 (w107) xi103 _ _ _ (by omega) (by exact ⟨by omega, by omega⟩) (by have hb108 := congrArg Int32.toInt ey104; have hb109 := congrArg Int32.toInt ey105; have hb110 := congrArg Int32.toInt ey106; omega) ok hP   hS (lv_sub hl [0, 1, 2, 3, 4, 5, 6, 7] rfl)
        · have f17 : ¬ rb t8 v7_34 = 1 := f17
          refine lv_if_eq (tgt := 139) hx hb dX12_routeOn_50 (by decide) (fun _ => ?_) (fun c => absurd (by decide) c)
          refine lv_iinc (v := (v7_34 + 1)) (lv' := [(7, .int (v7_34 + 1)), (6, .int t8), (5, .int r5), (4, .int y4), (0, .ref (ad 0)), (1, .int 3), (2, .int vh), (3, .int vp)]) hx hb dX12_routeOn_139 hl (k := 0) rfl rfl (by decide) rfl (fun ls hl => ?_)
          refine loc_gen (P := fun w9 => lv_has ls 8 [(7, .int w9), (6, .int t8), (5, .int r5), (4, .int y4), (0, .ref (ad 0)), (1, .int 3), (2, .int vh), (3, .int vp)]) (v7_34 + 1) hl (fun w111 hw111 hl => ?_)
          have hl : lv_has ls 8 [(7, .int w111), (6, .int t8), (5, .int r5), (4, .int y4), (0, .ref (ad 0)), (1, .int 3), (2, .int vh), (3, .int vp)] := hl
          have aw111 : w111.toInt = v7_34.toInt + 1 := by rw [← hw111]; exact tI_add (rfl : v7_34.toInt = _) (rfl : (1 : Int32).toInt = 1) (by omega) (by omega)
          refine lv_goto (tgt := 34) hx hb dX12_routeOn_142 (by decide) ?_
          exact ih34 (w111) nu34_ _ _ _ (by omega) (by exact ⟨by omega, by omega⟩) (by have hb112 := congrArg Int32.toInt ey9; have hb113 := congrArg Int32.toInt ey10; have hb114 := congrArg Int32.toInt ey11; omega) ok hP   hS (lv_sub hl [0, 1, 2, 3, 4, 5, 6, 7] rfl)
  exact loop34 ((7 + 1 - (0 : Int32).toInt).toNat + 1) (0) mu _ _ _ (Nat.lt_succ_self _) (by have h80 : (0 : Int32).toInt = 0 := rfl; exact ⟨by omega, by omega⟩) (by have h80 : (0 : Int32).toInt = 0 := rfl; have hb115 := congrArg Int32.toInt ey1; have hb116 := congrArg Int32.toInt ey2; have hb117 := congrArg Int32.toInt ey3; omega) ok hP   hS hl
set_option maxHeartbeats 4000000 in
set_option maxRecDepth 100000 in
/-- sm_routeOn2 -/
theorem sm_routeOn2 (l : Launch) (dC : Nat → ClassId) (dI : Nat → Nat → Nat) (cs : Nat → ClassId) (ad : Nat → Nat) (mu : Nat → Nat → Int32) (ok : okR loM hiM mu) (H : Heap) (hP : va_P (dC, dI) vwCl (wR 21 ad (EM cs ad) mu) H) (hD0 : va_D (fun _ => True) (wR 21 ad (EM cs ad) mu)) (vh : Int32) (vp : Int32) (hin0 : h7 2 vh) (hin1 : ((mu 0 39).toInt = -9 ∨ (0 ≤ (mu 0 39).toInt ∧ (mu 0 39).toInt ≤ 3)) ∧ ((mu 0 33).toInt = 0 ∨ (mu 0 35).toInt ≤ 7)) : Met l yX12_routeOn (wU yX12_routeOn cX12_routeOn 8 none) ({ frames := 7, cells := 0, slots := 0, locals := 181 }) (va_Pc [.ref (ad 0), .int 2, .int vh, .int vp] (sz_P (dC, dI) vwCl (tyM cs) H)) (va_Qv (fun (xi : Nat → Nat → Int32) => okR loM hiM xi ∧ (((xi 0 39).toInt = -9 ∨ (0 ≤ (xi 0 39).toInt ∧ (xi 0 39).toInt ≤ 3)) ∧ ((xi 0 33).toInt = 0 ∨ (xi 0 35).toInt ≤ 7)) ∧ True) (fun xi t => va_P (dC, dI) vwCl (wR 21 ad (EM cs ad) xi) t.heap) (va_A (wR 21 ad (EM cs ad) mu) H.size)) 0 0 (va_A (wR 21 ad (EM cs ad) mu) H.size) := by
  refine Met.ofW (cc := cX12_routeOn) (maxL := 8) (ret := none) (by decide) rfl ?_
  intro p e s m args below meth c s₁ B hml hv
  obtain ⟨rfl, hh, hK, hz⟩ := hv
  have hx := B.exec
  have hb := B.bytes
  have hr := B.returns
  have hts := atoms_spec (ws := (wU yX12_routeOn cX12_routeOn 8 none)) B.pre
  have hown : s.vm.findClass RX12 = some m.cls := findClass_of_methodNamed B.named
  have hlocks := B.notSynchronized
  subst hh
  have hD := hD0.self (sz := s.heap.size)
  have hA : ∀ q : Nat, s.heap.size ≤ q → (va_A (wR 21 ad (EM cs ad) mu) s.heap.size) q := fun q h => Or.inr h
  have hS : va_S (va_A (wR 21 ad (EM cs ad) mu) s.heap.size) s.heap s.heap [] := va_S.rf
  have hl := lv_entry ([.ref (ad 0), .int 2, .int vh, .int vp]) (n := 8) (Nat.le_of_ble_eq_true rfl)
  rw [lg_entry_eq]
  generalize (lg_sl ([.ref (ad 0), .int 2, .int vh, .int vp]) ++ List.replicate (8 - (lg_sl ([.ref (ad 0), .int 2, .int vh, .int vp])).length) Slot.unset).toArray = ls at hl ⊢
  have hl : lv_has ls 8 [(0, .ref (ad 0)), (1, .int 2), (2, .int vh), (3, .int vp)] := hl
  obtain ⟨y1, ey1⟩ : ∃ z : Int32, z = mu 0 39 := ⟨_, rfl⟩
  have by1 : y1.toInt = (mu 0 39).toInt := congrArg Int32.toInt ey1
  have gy1 : -9 ≤ y1.toInt ∧ y1.toInt ≤ 3 := by rw [ey1]; exact rM_0_39 ok
  obtain ⟨y2, ey2⟩ : ∃ z : Int32, z = mu 0 33 := ⟨_, rfl⟩
  have by2 : y2.toInt = (mu 0 33).toInt := congrArg Int32.toInt ey2
  obtain ⟨y3, ey3⟩ : ∃ z : Int32, z = mu 0 35 := ⟨_, rfl⟩
  have by3 : y3.toInt = (mu 0 35).toInt := congrArg Int32.toInt ey3
  refine lv_aload_n hx hb dX12_routeOn_0 rfl (lv_at hl 0 rfl) ?_
  refine va_get (D := (dC, dI)) (ci := 12) (v := .ref (ad 16)) (C := RX12) (T := TX12) (N := 46) hx hb hts inG12 hown hK hP 0 (gM_0 cs ad mu) rfl 26 (by decide) (hts _ (List.mem_cons_of_mem _ mw_5_67)) (fun _ h9 => h9) rfl dX12_routeOn_1 ?_
  refine lv_iload_n hx hb dX12_routeOn_4 rfl (lv_at hl 1 rfl) ?_
  refine lv_iconst (v := 1) hx hb dX12_routeOn_5 (by decide) ?_
  refine lv_isub hx hb dX12_routeOn_6 ?_
  refine lq_i 1 (by decide) ?_
  refine va_iald hx hb hK hP 16 0 (gM_16 cs ad mu) rfl (show vp_in 1 7 from (by unfold vp_in; decide)) dX12_routeOn_7 ?_
  refine lv_topi (fun y4 ey4 => ?_)
  have by4 : y4.toInt = (mu 16 (1 : Int32).toNatClampNeg).toInt := congrArg Int32.toInt ey4
  have gy4 : 0 ≤ y4.toInt ∧ y4.toInt ≤ 6 := by rw [ey4]; exact rM_16_s ok (1 : Int32).toNatClampNeg
  refine lv_istore (lv' := [(4, .int y4), (0, .ref (ad 0)), (1, .int 2), (2, .int vh), (3, .int vp)]) hx hb dX12_routeOn_8 hl (by decide) rfl (fun ls hl => ?_)
  refine lv_aload_n hx hb dX12_routeOn_10 rfl (lv_at hl 1 rfl) ?_
  refine lv_iload hx hb dX12_routeOn_11 (lv_at hl 0 rfl) ?_
  refine lv_iload_n hx hb dX12_routeOn_13 rfl (lv_at hl 4 rfl) ?_
  refine cr_i (va_runV (As := [.int y4, .int vp]) (rest := []) ⟨hx, hb, hml, hown, hts⟩ (sm_asksOf l dC dI cs ad mu ok s.heap hP y4 vp (by omega)) (cwV 2 hts (wU_V mw_6_74 mw_6_71 mw_6_73 mw_0_42 mw_1_13) rfl rfl rfl (by decide +kernel) ⟨Nat.le_of_ble_eq_true rfl, Nat.le_of_ble_eq_true rfl⟩) ⟨sz_c, va_recv hK hP (ci := 12) (q0 := 0) rfl (gM_0 cs ad mu), sz_m hK hz⟩ rfl rfl hl.1 rfl (lv_room (Nat.le_of_ble_eq_true rfl)) dX12_routeOn_14 ⟨Nat.zero_le _, Nat.zero_le _⟩) hS (fun r5 hw5 locs hS => ?_)
  refine lv_istore (lv' := [(5, .int r5), (4, .int y4), (0, .ref (ad 0)), (1, .int 2), (2, .int vh), (3, .int vp)]) hx hb dX12_routeOn_17 hl (by decide) rfl (fun ls hl => ?_)
  refine lv_aload_n hx hb dX12_routeOn_19 rfl (lv_at hl 2 rfl) ?_
  refine lv_iload hx hb dX12_routeOn_20 (lv_at hl 1 rfl) ?_
  refine cr_i (va_runV (As := [.int y4]) (rest := []) ⟨hx, hb, hml, hown, hts⟩ (sm_besideOf l dC dI cs ad mu ok s.heap hP y4) (cwV 1 hts (wU_V mw_6_56 mw_6_53 mw_6_55 mw_0_40 mw_1_13) rfl rfl rfl (by decide +kernel) ⟨Nat.le_of_ble_eq_true rfl, Nat.le_of_ble_eq_true rfl⟩) ⟨sz_c, va_recv hK hP (ci := 12) (q0 := 0) rfl (gM_0 cs ad mu), sz_m hK hz⟩ rfl rfl hl.1 rfl (lv_room (Nat.le_of_ble_eq_true rfl)) dX12_routeOn_22 ⟨Nat.zero_le _, Nat.zero_le _⟩) hS (fun r6 hw6 locs hS => ?_)
  refine lv_iload_n hx hb dX12_routeOn_25 rfl (lv_at hl 4 rfl) ?_
  refine lv_iconst (v := (-1)) hx hb dX12_routeOn_26 (by decide) ?_
  refine lv_ixor hx hb dX12_routeOn_27 ?_
  refine lv_topi (fun t7 et7 => ?_)
  refine lv_iand hx hb dX12_routeOn_28 ?_
  refine lv_topi (fun t8 et8 => ?_)
  refine lv_istore (lv' := [(6, .int t8), (5, .int r5), (4, .int y4), (0, .ref (ad 0)), (1, .int 2), (2, .int vh), (3, .int vp)]) hx hb dX12_routeOn_29 hl (by decide) rfl (fun ls hl => ?_)
  refine lv_iconst (v := 0) hx hb dX12_routeOn_31 (by decide) ?_
  refine lv_istore (lv' := [(7, .int 0), (6, .int t8), (5, .int r5), (4, .int y4), (0, .ref (ad 0)), (1, .int 2), (2, .int vh), (3, .int vp)]) hx hb dX12_routeOn_32 hl (by decide) rfl (fun ls hl => ?_)
  have loop34 : ∀ (n34 : Nat) (v7_34 : Int32) (nu34_ : Nat → Nat → Int32) (H : Heap) (locs : List Loc) (ls : Array Slot), (7 + 1 - v7_34.toInt).toNat < n34 → (0 ≤ v7_34.toInt ∧ v7_34.toInt ≤ 7) → (((nu34_ 0 39).toInt = -9 ∨ (0 ≤ (nu34_ 0 39).toInt ∧ (nu34_ 0 39).toInt ≤ 3)) ∧ ((nu34_ 0 33).toInt = 0 ∨ (nu34_ 0 35).toInt ≤ 7)) → okR loM hiM nu34_ → va_P (dC, dI) vwCl (wR 21 ad (EM cs ad) nu34_) H → va_S (va_A (wR 21 ad (EM cs ad) mu) s.heap.size) s.heap H locs → lv_has ls 8 [(7, .int v7_34), (6, .int t8), (5, .int r5), (4, .int y4), (0, .ref (ad 0)), (1, .int 2), (2, .int vh), (3, .int vp)] → W p l e (headSpec (wU yX12_routeOn cX12_routeOn 8 none) ({ frames := 7, cells := 0, slots := 0, locals := 181 })).room s m ([.ref (ad 0), .int 2, .int vh, .int vp] : List Value).toArray below meth c H locs 0 0 (MQ below (va_Qv (fun (xi : Nat → Nat → Int32) => okR loM hiM xi ∧ (((xi 0 39).toInt = -9 ∨ (0 ≤ (xi 0 39).toInt ∧ (xi 0 39).toInt ≤ 3)) ∧ ((xi 0 33).toInt = 0 ∨ (xi 0 35).toInt ≤ 7)) ∧ True) (fun xi t => va_P (dC, dI) vwCl (wR 21 ad (EM cs ad) xi) t.heap) (va_A (wR 21 ad (EM cs ad) mu) s.heap.size)) ([.ref (ad 0), .int 2, .int vh, .int vp] : List Value).toArray s 0 0 (va_A (wR 21 ad (EM cs ad) mu) s.heap.size)) (F0 m 34 ls []) := by
    intro n34
    induction n34 with
    | zero => intro v7_34 nu34_ H locs ls hm; exact absurd hm (Nat.not_lt_zero _)
    | succ n34 ih34 =>
      intro v7_34 nu34_ H locs ls hm h_v7_34 hi34_0 ok hP hS hl
      obtain ⟨y9, ey9⟩ : ∃ z : Int32, z = nu34_ 0 39 := ⟨_, rfl⟩
      have by9 : y9.toInt = (nu34_ 0 39).toInt := congrArg Int32.toInt ey9
      have gy9 : -9 ≤ y9.toInt ∧ y9.toInt ≤ 3 := by rw [ey9]; exact rM_0_39 ok
      obtain ⟨y10, ey10⟩ : ∃ z : Int32, z = nu34_ 0 33 := ⟨_, rfl⟩
      have by10 : y10.toInt = (nu34_ 0 33).toInt := congrArg Int32.toInt ey10
      obtain ⟨y11, ey11⟩ : ∃ z : Int32, z = nu34_ 0 35 := ⟨_, rfl⟩
      have by11 : y11.toInt = (nu34_ 0 35).toInt := congrArg Int32.toInt ey11
      refine lv_iload hx hb dX12_routeOn_34 (lv_at hl 0 rfl) ?_
      refine lv_aload_n hx hb dX12_routeOn_36 rfl (lv_at hl 4 rfl) ?_
      refine va_get (D := (dC, dI)) (ci := 12) (v := .int (nu34_ 0 8)) (C := RX12) (T := TX12) (N := 46) hx hb hts inG12 hown hK hP 0 (gM_0 cs ad nu34_) rfl 8 (by decide) (hts _ (List.mem_cons_of_mem _ mw_5_49)) (fun _ h9 => h9) rfl dX12_routeOn_37 ?_
      refine lv_topi (fun y12 ey12 => ?_)
      have by12 : y12.toInt = (nu34_ 0 8).toInt := congrArg Int32.toInt ey12
      have gy12 : 0 ≤ y12.toInt ∧ y12.toInt ≤ 7 := by rw [ey12]; exact rM_0_8 ok
      refine lv_icmp_ge (tgt := 145) hx hb dX12_routeOn_40 (by decide) (fun c_13 => ?_) (fun c_13 => ?_)
      · have c_13 : y12.toInt ≤ v7_34.toInt := il_le c_13
        exact W.vret hx hb hr (fun t ht hW => ⟨⟨nu34_, rfl, ⟨ok, (by have hb14 := congrArg Int32.toInt ey9; have hb15 := congrArg Int32.toInt ey10; have hb16 := congrArg Int32.toInt ey11; omega), trivial⟩, by first | (subst ht; exact hP) | (rw [ht]; exact hP) | (show va_P (dC, dI) vwCl (wR 21 ad (EM cs ad) nu34_) t.heap; rw [ht]; exact hP)⟩, hS.F ht⟩) hS.2.2 dX12_routeOn_145
      · have c_13 : v7_34.toInt < y12.toInt := il_nle c_13
        refine lv_iload hx hb dX12_routeOn_43 (lv_at hl 1 rfl) ?_
        refine lv_iload hx hb dX12_routeOn_45 (lv_at hl 0 rfl) ?_
        refine cr_i (va_runS (As := [.int t8, .int v7_34]) (rest := []) ⟨hx, hb, hml, hown, hts⟩ (sm_has l dC dI (tyM cs) H t8 v7_34) (va_cwS 2 hts (wU_S mw_6_59 mw_6_57 mw_6_58 mw_1_13) rfl rfl rfl (by decide +kernel) ⟨Nat.le_of_ble_eq_true rfl, Nat.le_of_ble_eq_true rfl⟩) ⟨sz_c, sz_m hK hz⟩ rfl rfl hl.1 rfl (lv_room (Nat.le_of_ble_eq_true rfl)) dX12_routeOn_47 ⟨Nat.zero_le _, Nat.zero_le _⟩) hS (fun r17 hw17 locs hS => ?_)
        rcases hw17 with ⟨rfl, f17⟩ | ⟨rfl, f17⟩
        · have f17 : rb t8 v7_34 = 1 := f17
          refine lv_if_eq (tgt := 139) hx hb dX12_routeOn_50 (by decide) (fun c => absurd c (by decide)) (fun _ => ?_)
          refine lv_aload_n hx hb dX12_routeOn_53 rfl (lv_at hl 4 rfl) ?_
          refine va_get (D := (dC, dI)) (ci := 12) (v := .int (nu34_ 0 38)) (C := RX12) (T := TX12) (N := 46) hx hb hts inG12 hown hK hP 0 (gM_0 cs ad nu34_) rfl 38 (by decide) (hts _ (List.mem_cons_of_mem _ mw_5_79)) (fun _ h9 => h9) rfl dX12_routeOn_54 ?_
          refine lv_topi (fun y18 ey18 => ?_)
          have by18 : y18.toInt = (nu34_ 0 38).toInt := congrArg Int32.toInt ey18
          have gy18 : 0 ≤ y18.toInt ∧ y18.toInt ≤ 1 := by rw [ey18]; exact rM_0_38 ok
          refine lv_if_eq (tgt := 72) hx hb dX12_routeOn_57 (by decide) (fun c_19 => ?_) (fun c_19 => ?_)
          · have c_19 : y18.toInt = 0 := il_eq c_19
            refine lv_aload_n hx hb dX12_routeOn_72 rfl (lv_at hl 4 rfl) ?_
            refine va_get (D := (dC, dI)) (ci := 12) (v := .ref (ad 16)) (C := RX12) (T := TX12) (N := 46) hx hb hts inG12 hown hK hP 0 (gM_0 cs ad nu34_) rfl 26 (by decide) (hts _ (List.mem_cons_of_mem _ mw_5_67)) (fun _ h9 => h9) rfl dX12_routeOn_73 ?_
            refine lv_iload_n hx hb dX12_routeOn_76 rfl (lv_at hl 5 rfl) ?_
            refine lv_iload hx hb dX12_routeOn_77 (lv_at hl 0 rfl) ?_
            refine va_iast hx hb hK hP (wR_D nu34_ hD) hS 16 0 (gM_16 cs ad nu34_) rfl (show vp_in 2 7 from (by unfold vp_in; decide)) dX12_routeOn_79 (fun H locs hP _ hS => ?_)
            refine wr_gen (upd (nu34_ 16) (2 : Int32).toNatClampNeg v7_34) hP (rfl) (fun nu20 hn20 hP => ?_)
            have ok := tM_16_s ok (2 : Int32).toNatClampNeg hn20 (by exact ⟨by omega, by omega⟩)
            have ez21 : y9 = nu20 0 39 := ey9.trans (congrFun (up_k hn20 (by decide)) 39).symm
            have ez22 : y10 = nu20 0 33 := ey10.trans (congrFun (up_k hn20 (by decide)) 33).symm
            have ez23 : y11 = nu20 0 35 := ey11.trans (congrFun (up_k hn20 (by decide)) 35).symm
            have ez24 : y12 = nu20 0 8 := ey12.trans (congrFun (up_k hn20 (by decide)) 8).symm
            have ez25 : y18 = nu20 0 38 := ey18.trans (congrFun (up_k hn20 (by decide)) 38).symm
            refine lv_iload hx hb dX12_routeOn_80 (lv_at hl 0 rfl) ?_
            refine lv_aload_n hx hb dX12_routeOn_82 rfl (lv_at hl 4 rfl) ?_
            refine va_get (D := (dC, dI)) (ci := 12) (v := .int (nu20 0 29)) (C := RX12) (T := TX12) (N := 46) hx hb hts inG12 hown hK hP 0 (gM_0 cs ad nu20) rfl 29 (by decide) (hts _ (List.mem_cons_of_mem _ mw_5_70)) (fun _ h9 => h9) rfl dX12_routeOn_83 ?_
            refine lv_topi (fun y26 ey26 => ?_)
            have by26 : y26.toInt = (nu20 0 29).toInt := congrArg Int32.toInt ey26
            refine lv_icmp_ne (tgt := 113) hx hb dX12_routeOn_86 (by decide) (fun c_27 => ?_) (fun c_27 => ?_)
            · have c_27 : ¬ v7_34.toInt = y26.toInt := il_ne c_27
              refine lv_aload_n hx hb dX12_routeOn_113 rfl (lv_at hl 4 rfl) ?_
              refine va_get (D := (dC, dI)) (ci := 12) (v := .ref (ad 7)) (C := RX12) (T := TX12) (N := 46) hx hb hts inG12 hown hK hP 0 (gM_0 cs ad nu20) rfl 9 (by decide) (hts _ (List.mem_cons_of_mem _ mw_5_50)) (fun _ h9 => h9) rfl dX12_routeOn_114 ?_
              refine lv_iload hx hb dX12_routeOn_117 (lv_at hl 0 rfl) ?_
              refine va_iald hx hb hK hP 7 0 (gM_7 cs ad nu20) rfl (show vp_in v7_34 7 from vi_of (by omega) (by omega)) dX12_routeOn_119 ?_
              refine lv_topi (fun y28 ey28 => ?_)
              have by28 : y28.toInt = (nu20 7 v7_34.toNatClampNeg).toInt := congrArg Int32.toInt ey28
              refine lv_iconst (v := 3) hx hb dX12_routeOn_120 (by decide) ?_
              refine lv_icmp_eq (tgt := 139) hx hb dX12_routeOn_121 (by decide) (fun c_29 => ?_) (fun c_29 => ?_)
              · have c_29 : y28.toInt = 3 := il_eq c_29
                refine lv_iinc (v := (v7_34 + 1)) (lv' := [(7, .int (v7_34 + 1)), (6, .int t8), (5, .int r5), (4, .int y4), (0, .ref (ad 0)), (1, .int 2), (2, .int vh), (3, .int vp)]) hx hb dX12_routeOn_139 hl (k := 0) rfl rfl (by decide) rfl (fun ls hl => ?_)
                refine loc_gen (P := fun w9 => lv_has ls 8 [(7, .int w9), (6, .int t8), (5, .int r5), (4, .int y4), (0, .ref (ad 0)), (1, .int 2), (2, .int vh), (3, .int vp)]) (v7_34 + 1) hl (fun w30 hw30 hl => ?_)
                have hl : lv_has ls 8 [(7, .int w30), (6, .int t8), (5, .int r5), (4, .int y4), (0, .ref (ad 0)), (1, .int 2), (2, .int vh), (3, .int vp)] := hl
                have aw30 : w30.toInt = v7_34.toInt + 1 := by rw [← hw30]; exact tI_add (rfl : v7_34.toInt = _) (rfl : (1 : Int32).toInt = 1) (by omega) (by omega)
                refine lv_goto (tgt := 34) hx hb dX12_routeOn_142 (by decide) ?_
                exact ih34 (w30) nu20 _ _ _ (by omega) (by exact ⟨by omega, by omega⟩) (by have hb31 := congrArg Int32.toInt ez21; have hb32 := congrArg Int32.toInt ez22; have hb33 := congrArg Int32.toInt ez23; omega) ok hP   hS (lv_sub hl [0, 1, 2, 3, 4, 5, 6, 7] rfl)
              · have c_29 : ¬ y28.toInt = 3 := il_ne c_29
                refine lv_aload_n hx hb dX12_routeOn_124 rfl (lv_at hl 4 rfl) ?_
                refine lv_iload_n hx hb dX12_routeOn_125 rfl (lv_at hl 5 rfl) ?_
                refine lv_iconst (v := 1) hx hb dX12_routeOn_126 (by decide) ?_
                refine lv_iadd hx hb dX12_routeOn_127 ?_
                refine lq_i 3 (by decide) ?_
                refine lv_iload_n hx hb dX12_routeOn_128 rfl (lv_at hl 6 rfl) ?_
                refine lv_iconst (v := 1) hx hb dX12_routeOn_129 (by decide) ?_
                refine lv_iload hx hb dX12_routeOn_130 (lv_at hl 0 rfl) ?_
                refine lv_ishl hx hb dX12_routeOn_132 ?_
                refine lv_topi (fun t34 et34 => ?_)
                refine lv_ior hx hb dX12_routeOn_133 ?_
                refine lv_topi (fun t35 et35 => ?_)
                refine lv_iload hx hb dX12_routeOn_134 (lv_at hl 2 rfl) ?_
                have hFc := fr_all (wR_D nu20 hD) hS hA
                refine va_callv (va_runV (As := [.int 3, .int t35, .int r5]) (rest := []) ⟨hx, hb, hml, hown, hts⟩ (sm_routeOn3 l dC dI cs ad nu20 ok H hP ((wR_D nu20 hD).weaken (fun _ _ _ _ => trivial)) t35 r5 (by have h50 : (3 : Int32).toInt = 3 := rfl; rw [et35, et34]; exact h7_next hin0 (by rw [et8, et7]) (by omega) (by omega) f17) (by have h50 : (3 : Int32).toInt = 3 := rfl; have hb36 := congrArg Int32.toInt ez21; have hb37 := congrArg Int32.toInt ez22; have hb38 := congrArg Int32.toInt ez23; omega)) (cwV 3 hts (wU_V mw_6_183 mw_6_180 mw_6_182 mw_0_55 mw_1_13) rfl rfl rfl (by decide +kernel) ⟨Nat.le_of_ble_eq_true rfl, Nat.le_of_ble_eq_true rfl⟩) ⟨sz_c, va_recv hK hP (ci := 12) (q0 := 0) rfl (gM_0 cs ad nu20), sz_m hK hz⟩ rfl rfl hl.1 rfl (lv_room (Nat.le_of_ble_eq_true rfl)) dX12_routeOn_136 ⟨Nat.zero_le _, Nat.zero_le _⟩) hS (fun q _ h => hFc q h) hFc (fun xi39 t H39 locs ht hvm hw39 hB hz1 hk1 hS => ?_)
                have hP : va_P (dC, dI) vwCl (wR 21 ad (EM cs ad) xi39) H39 := by rw [← ht]; exact hB
                obtain ⟨ok, hw39, _⟩ := hw39
                obtain ⟨y40, ey40⟩ : ∃ z : Int32, z = xi39 0 39 := ⟨_, rfl⟩
                have by40 : y40.toInt = (xi39 0 39).toInt := congrArg Int32.toInt ey40
                have gy40 : -9 ≤ y40.toInt ∧ y40.toInt ≤ 3 := by rw [ey40]; exact rM_0_39 ok
                obtain ⟨y41, ey41⟩ : ∃ z : Int32, z = xi39 0 33 := ⟨_, rfl⟩
                have by41 : y41.toInt = (xi39 0 33).toInt := congrArg Int32.toInt ey41
                obtain ⟨y42, ey42⟩ : ∃ z : Int32, z = xi39 0 35 := ⟨_, rfl⟩
                have by42 : y42.toInt = (xi39 0 35).toInt := congrArg Int32.toInt ey42
                have gr39 : ((xi39 0 39).toInt = -9 ∨ (0 ≤ (xi39 0 39).toInt ∧ (xi39 0 39).toInt ≤ 3)) ∧ ((xi39 0 33).toInt = 0 ∨ (xi39 0 35).toInt ≤ 7) := hw39
                refine lv_iinc (v := (v7_34 + 1)) (lv' := [(7, .int (v7_34 + 1)), (6, .int t8), (5, .int r5), (4, .int y4), (0, .ref (ad 0)), (1, .int 2), (2, .int vh), (3, .int vp)]) hx hb dX12_routeOn_139 hl (k := 0) rfl rfl (by decide) rfl (fun ls hl => ?_)
                refine loc_gen (P := fun w9 => lv_has ls 8 [(7, .int w9), (6, .int t8), (5, .int r5), (4, .int y4), (0, .ref (ad 0)), (1, .int 2), (2, .int vh), (3, .int vp)]) (v7_34 + 1) hl (fun w43 hw43 hl => ?_)
                have hl : lv_has ls 8 [(7, .int w43), (6, .int t8), (5, .int r5), (4, .int y4), (0, .ref (ad 0)), (1, .int 2), (2, .int vh), (3, .int vp)] := hl
                have aw43 : w43.toInt = v7_34.toInt + 1 := by rw [← hw43]; exact tI_add (rfl : v7_34.toInt = _) (rfl : (1 : Int32).toInt = 1) (by omega) (by omega)
                refine lv_goto (tgt := 34) hx hb dX12_routeOn_142 (by decide) ?_
                exact ih34 (w43) xi39 _ _ _ (by omega) (by exact ⟨by omega, by omega⟩) (by have hb44 := congrArg Int32.toInt ey40; have hb45 := congrArg Int32.toInt ey41; have hb46 := congrArg Int32.toInt ey42; omega) ok hP   hS (lv_sub hl [0, 1, 2, 3, 4, 5, 6, 7] rfl)
            · have c_27 : v7_34.toInt = y26.toInt := il_eq c_27
              refine lv_aload_n hx hb dX12_routeOn_89 rfl (lv_at hl 4 rfl) ?_
              refine lv_iload_n hx hb dX12_routeOn_90 rfl (lv_at hl 5 rfl) ?_
              refine lv_iconst (v := 1) hx hb dX12_routeOn_91 (by decide) ?_
              refine lv_iadd hx hb dX12_routeOn_92 ?_
              refine lq_i 3 (by decide) ?_
              refine lv_iload_n hx hb dX12_routeOn_93 rfl (lv_at hl 6 rfl) ?_
              refine lv_iconst (v := 1) hx hb dX12_routeOn_94 (by decide) ?_
              refine lv_aload_n hx hb dX12_routeOn_95 rfl (lv_at hl 4 rfl) ?_
              refine va_get (D := (dC, dI)) (ci := 12) (v := .ref (ad 16)) (C := RX12) (T := TX12) (N := 46) hx hb hts inG12 hown hK hP 0 (gM_0 cs ad nu20) rfl 26 (by decide) (hts _ (List.mem_cons_of_mem _ mw_5_67)) (fun _ h9 => h9) rfl dX12_routeOn_96 ?_
              refine lv_iconst (v := 0) hx hb dX12_routeOn_99 (by decide) ?_
              refine va_iald hx hb hK hP 16 0 (gM_16 cs ad nu20) rfl (show vp_in 0 7 from (by unfold vp_in; decide)) dX12_routeOn_100 ?_
              refine lv_topi (fun y47 ey47 => ?_)
              have by47 : y47.toInt = (nu20 16 (0 : Int32).toNatClampNeg).toInt := congrArg Int32.toInt ey47
              have gy47 : 0 ≤ y47.toInt ∧ y47.toInt ≤ 6 := by rw [ey47]; exact rM_16_s ok (0 : Int32).toNatClampNeg
              refine lv_ishl hx hb dX12_routeOn_101 ?_
              refine lv_topi (fun t48 et48 => ?_)
              refine lv_iconst (v := (-1)) hx hb dX12_routeOn_102 (by decide) ?_
              refine lv_ixor hx hb dX12_routeOn_103 ?_
              refine lv_topi (fun t49 et49 => ?_)
              refine lv_iand hx hb dX12_routeOn_104 ?_
              refine lv_topi (fun t50 et50 => ?_)
              refine lv_iload hx hb dX12_routeOn_105 (lv_at hl 2 rfl) ?_
              have hFc := fr_all (wR_D nu20 hD) hS hA
              refine va_callv (va_runV (As := [.int 3, .int t50, .int r5]) (rest := []) ⟨hx, hb, hml, hown, hts⟩ (sm_meetRoute l dC dI cs ad nu20 ok H hP ((wR_D nu20 hD).weaken (fun _ _ _ _ => trivial)) 3 t50 r5 (by have h50 : (3 : Int32).toInt = 3 := rfl; omega) (by have h50 : (3 : Int32).toInt = 3 := rfl; have hb51 := congrArg Int32.toInt ez21; have hb52 := congrArg Int32.toInt ez22; have hb53 := congrArg Int32.toInt ez23; omega)) (cwV 3 hts (wU_V mw_6_187 mw_6_184 mw_6_186 mw_0_56 mw_1_13) rfl rfl rfl (by decide +kernel) ⟨Nat.le_of_ble_eq_true rfl, Nat.le_of_ble_eq_true rfl⟩) ⟨sz_c, va_recv hK hP (ci := 12) (q0 := 0) rfl (gM_0 cs ad nu20), sz_m hK hz⟩ rfl rfl hl.1 rfl (lv_room (Nat.le_of_ble_eq_true rfl)) dX12_routeOn_107 ⟨Nat.zero_le _, Nat.zero_le _⟩) hS (fun q _ h => hFc q h) hFc (fun xi54 t H54 locs ht hvm hw54 hB hz1 hk1 hS => ?_)
              have hP : va_P (dC, dI) vwCl (wR 21 ad (EM cs ad) xi54) H54 := by rw [← ht]; exact hB
              obtain ⟨ok, hw54, _⟩ := hw54
              obtain ⟨y55, ey55⟩ : ∃ z : Int32, z = xi54 0 39 := ⟨_, rfl⟩
              have by55 : y55.toInt = (xi54 0 39).toInt := congrArg Int32.toInt ey55
              have gy55 : -9 ≤ y55.toInt ∧ y55.toInt ≤ 3 := by rw [ey55]; exact rM_0_39 ok
              obtain ⟨y56, ey56⟩ : ∃ z : Int32, z = xi54 0 33 := ⟨_, rfl⟩
              have by56 : y56.toInt = (xi54 0 33).toInt := congrArg Int32.toInt ey56
              obtain ⟨y57, ey57⟩ : ∃ z : Int32, z = xi54 0 35 := ⟨_, rfl⟩
              have by57 : y57.toInt = (xi54 0 35).toInt := congrArg Int32.toInt ey57
              have gr54 : ((xi54 0 39).toInt = -9 ∨ (0 ≤ (xi54 0 39).toInt ∧ (xi54 0 39).toInt ≤ 3)) ∧ ((xi54 0 33).toInt = 0 ∨ (xi54 0 35).toInt ≤ 7) := hw54
              refine lv_goto (tgt := 139) hx hb dX12_routeOn_110 (by decide) ?_
              refine lv_iinc (v := (v7_34 + 1)) (lv' := [(7, .int (v7_34 + 1)), (6, .int t8), (5, .int r5), (4, .int y4), (0, .ref (ad 0)), (1, .int 2), (2, .int vh), (3, .int vp)]) hx hb dX12_routeOn_139 hl (k := 0) rfl rfl (by decide) rfl (fun ls hl => ?_)
              refine loc_gen (P := fun w9 => lv_has ls 8 [(7, .int w9), (6, .int t8), (5, .int r5), (4, .int y4), (0, .ref (ad 0)), (1, .int 2), (2, .int vh), (3, .int vp)]) (v7_34 + 1) hl (fun w58 hw58 hl => ?_)
              have hl : lv_has ls 8 [(7, .int w58), (6, .int t8), (5, .int r5), (4, .int y4), (0, .ref (ad 0)), (1, .int 2), (2, .int vh), (3, .int vp)] := hl
              have aw58 : w58.toInt = v7_34.toInt + 1 := by rw [← hw58]; exact tI_add (rfl : v7_34.toInt = _) (rfl : (1 : Int32).toInt = 1) (by omega) (by omega)
              refine lv_goto (tgt := 34) hx hb dX12_routeOn_142 (by decide) ?_
              exact ih34 (w58) xi54 _ _ _ (by omega) (by exact ⟨by omega, by omega⟩) (by have hb59 := congrArg Int32.toInt ey55; have hb60 := congrArg Int32.toInt ey56; have hb61 := congrArg Int32.toInt ey57; omega) ok hP   hS (lv_sub hl [0, 1, 2, 3, 4, 5, 6, 7] rfl)
          · have c_19 : ¬ y18.toInt = 0 := il_ne c_19
            refine lv_aload_n hx hb dX12_routeOn_60 rfl (lv_at hl 4 rfl) ?_
            refine va_get (D := (dC, dI)) (ci := 12) (v := .ref (ad 8)) (C := RX12) (T := TX12) (N := 46) hx hb hts inG12 hown hK hP 0 (gM_0 cs ad nu34_) rfl 10 (by decide) (hts _ (List.mem_cons_of_mem _ mw_5_51)) (fun _ h9 => h9) rfl dX12_routeOn_61 ?_
            refine lv_iload hx hb dX12_routeOn_64 (lv_at hl 0 rfl) ?_
            refine va_iald hx hb hK hP 8 0 (gM_8 cs ad nu34_) rfl (show vp_in v7_34 7 from vi_of (by omega) (by omega)) dX12_routeOn_66 ?_
            refine lv_topi (fun y62 ey62 => ?_)
            have by62 : y62.toInt = (nu34_ 8 v7_34.toNatClampNeg).toInt := congrArg Int32.toInt ey62
            refine lv_iload hx hb dX12_routeOn_67 (lv_at hl 2 rfl) ?_
            refine lv_icmp_lt (tgt := 139) hx hb dX12_routeOn_69 (by decide) (fun c_63 => ?_) (fun c_63 => ?_)
            · have c_63 : y62.toInt < r5.toInt := il_lt c_63
              refine lv_iinc (v := (v7_34 + 1)) (lv' := [(7, .int (v7_34 + 1)), (6, .int t8), (5, .int r5), (4, .int y4), (0, .ref (ad 0)), (1, .int 2), (2, .int vh), (3, .int vp)]) hx hb dX12_routeOn_139 hl (k := 0) rfl rfl (by decide) rfl (fun ls hl => ?_)
              refine loc_gen (P := fun w9 => lv_has ls 8 [(7, .int w9), (6, .int t8), (5, .int r5), (4, .int y4), (0, .ref (ad 0)), (1, .int 2), (2, .int vh), (3, .int vp)]) (v7_34 + 1) hl (fun w64 hw64 hl => ?_)
              have hl : lv_has ls 8 [(7, .int w64), (6, .int t8), (5, .int r5), (4, .int y4), (0, .ref (ad 0)), (1, .int 2), (2, .int vh), (3, .int vp)] := hl
              have aw64 : w64.toInt = v7_34.toInt + 1 := by rw [← hw64]; exact tI_add (rfl : v7_34.toInt = _) (rfl : (1 : Int32).toInt = 1) (by omega) (by omega)
              refine lv_goto (tgt := 34) hx hb dX12_routeOn_142 (by decide) ?_
              exact ih34 (w64) nu34_ _ _ _ (by omega) (by exact ⟨by omega, by omega⟩) (by have hb65 := congrArg Int32.toInt ey9; have hb66 := congrArg Int32.toInt ey10; have hb67 := congrArg Int32.toInt ey11; omega) ok hP   hS (lv_sub hl [0, 1, 2, 3, 4, 5, 6, 7] rfl)
            · have c_63 : r5.toInt ≤ y62.toInt := il_nlt c_63
              refine lv_aload_n hx hb dX12_routeOn_72 rfl (lv_at hl 4 rfl) ?_
              refine va_get (D := (dC, dI)) (ci := 12) (v := .ref (ad 16)) (C := RX12) (T := TX12) (N := 46) hx hb hts inG12 hown hK hP 0 (gM_0 cs ad nu34_) rfl 26 (by decide) (hts _ (List.mem_cons_of_mem _ mw_5_67)) (fun _ h9 => h9) rfl dX12_routeOn_73 ?_
              refine lv_iload_n hx hb dX12_routeOn_76 rfl (lv_at hl 5 rfl) ?_
              refine lv_iload hx hb dX12_routeOn_77 (lv_at hl 0 rfl) ?_
              refine va_iast hx hb hK hP (wR_D nu34_ hD) hS 16 0 (gM_16 cs ad nu34_) rfl (show vp_in 2 7 from (by unfold vp_in; decide)) dX12_routeOn_79 (fun H locs hP _ hS => ?_)
              refine wr_gen (upd (nu34_ 16) (2 : Int32).toNatClampNeg v7_34) hP (rfl) (fun nu68 hn68 hP => ?_)
              have ok := tM_16_s ok (2 : Int32).toNatClampNeg hn68 (by exact ⟨by omega, by omega⟩)
              have ez69 : y9 = nu68 0 39 := ey9.trans (congrFun (up_k hn68 (by decide)) 39).symm
              have ez70 : y10 = nu68 0 33 := ey10.trans (congrFun (up_k hn68 (by decide)) 33).symm
              have ez71 : y11 = nu68 0 35 := ey11.trans (congrFun (up_k hn68 (by decide)) 35).symm
              have ez72 : y12 = nu68 0 8 := ey12.trans (congrFun (up_k hn68 (by decide)) 8).symm
              have ez73 : y18 = nu68 0 38 := ey18.trans (congrFun (up_k hn68 (by decide)) 38).symm
              have ez74 : y62 = nu68 8 v7_34.toNatClampNeg := ey62.trans (congrFun (up_k hn68 (by decide)) v7_34.toNatClampNeg).symm
              refine lv_iload hx hb dX12_routeOn_80 (lv_at hl 0 rfl) ?_
              refine lv_aload_n hx hb dX12_routeOn_82 rfl (lv_at hl 4 rfl) ?_
              refine va_get (D := (dC, dI)) (ci := 12) (v := .int (nu68 0 29)) (C := RX12) (T := TX12) (N := 46) hx hb hts inG12 hown hK hP 0 (gM_0 cs ad nu68) rfl 29 (by decide) (hts _ (List.mem_cons_of_mem _ mw_5_70)) (fun _ h9 => h9) rfl dX12_routeOn_83 ?_
              refine lv_topi (fun y75 ey75 => ?_)
              have by75 : y75.toInt = (nu68 0 29).toInt := congrArg Int32.toInt ey75
              refine lv_icmp_ne (tgt := 113) hx hb dX12_routeOn_86 (by decide) (fun c_76 => ?_) (fun c_76 => ?_)
              · have c_76 : ¬ v7_34.toInt = y75.toInt := il_ne c_76
                refine lv_aload_n hx hb dX12_routeOn_113 rfl (lv_at hl 4 rfl) ?_
                refine va_get (D := (dC, dI)) (ci := 12) (v := .ref (ad 7)) (C := RX12) (T := TX12) (N := 46) hx hb hts inG12 hown hK hP 0 (gM_0 cs ad nu68) rfl 9 (by decide) (hts _ (List.mem_cons_of_mem _ mw_5_50)) (fun _ h9 => h9) rfl dX12_routeOn_114 ?_
                refine lv_iload hx hb dX12_routeOn_117 (lv_at hl 0 rfl) ?_
                refine va_iald hx hb hK hP 7 0 (gM_7 cs ad nu68) rfl (show vp_in v7_34 7 from vi_of (by omega) (by omega)) dX12_routeOn_119 ?_
                refine lv_topi (fun y77 ey77 => ?_)
                have by77 : y77.toInt = (nu68 7 v7_34.toNatClampNeg).toInt := congrArg Int32.toInt ey77
                refine lv_iconst (v := 3) hx hb dX12_routeOn_120 (by decide) ?_
                refine lv_icmp_eq (tgt := 139) hx hb dX12_routeOn_121 (by decide) (fun c_78 => ?_) (fun c_78 => ?_)
                · have c_78 : y77.toInt = 3 := il_eq c_78
                  refine lv_iinc (v := (v7_34 + 1)) (lv' := [(7, .int (v7_34 + 1)), (6, .int t8), (5, .int r5), (4, .int y4), (0, .ref (ad 0)), (1, .int 2), (2, .int vh), (3, .int vp)]) hx hb dX12_routeOn_139 hl (k := 0) rfl rfl (by decide) rfl (fun ls hl => ?_)
                  refine loc_gen (P := fun w9 => lv_has ls 8 [(7, .int w9), (6, .int t8), (5, .int r5), (4, .int y4), (0, .ref (ad 0)), (1, .int 2), (2, .int vh), (3, .int vp)]) (v7_34 + 1) hl (fun w79 hw79 hl => ?_)
                  have hl : lv_has ls 8 [(7, .int w79), (6, .int t8), (5, .int r5), (4, .int y4), (0, .ref (ad 0)), (1, .int 2), (2, .int vh), (3, .int vp)] := hl
                  have aw79 : w79.toInt = v7_34.toInt + 1 := by rw [← hw79]; exact tI_add (rfl : v7_34.toInt = _) (rfl : (1 : Int32).toInt = 1) (by omega) (by omega)
                  refine lv_goto (tgt := 34) hx hb dX12_routeOn_142 (by decide) ?_
                  exact ih34 (w79) nu68 _ _ _ (by omega) (by exact ⟨by omega, by omega⟩) (by have hb80 := congrArg Int32.toInt ez69; have hb81 := congrArg Int32.toInt ez70; have hb82 := congrArg Int32.toInt ez71; omega) ok hP   hS (lv_sub hl [0, 1, 2, 3, 4, 5, 6, 7] rfl)
                · have c_78 : ¬ y77.toInt = 3 := il_ne c_78
                  refine lv_aload_n hx hb dX12_routeOn_124 rfl (lv_at hl 4 rfl) ?_
                  refine lv_iload_n hx hb dX12_routeOn_125 rfl (lv_at hl 5 rfl) ?_
                  refine lv_iconst (v := 1) hx hb dX12_routeOn_126 (by decide) ?_
                  refine lv_iadd hx hb dX12_routeOn_127 ?_
                  refine lq_i 3 (by decide) ?_
                  refine lv_iload_n hx hb dX12_routeOn_128 rfl (lv_at hl 6 rfl) ?_
                  refine lv_iconst (v := 1) hx hb dX12_routeOn_129 (by decide) ?_
                  refine lv_iload hx hb dX12_routeOn_130 (lv_at hl 0 rfl) ?_
                  refine lv_ishl hx hb dX12_routeOn_132 ?_
                  refine lv_topi (fun t83 et83 => ?_)
                  refine lv_ior hx hb dX12_routeOn_133 ?_
                  refine lv_topi (fun t84 et84 => ?_)
                  refine lv_iload hx hb dX12_routeOn_134 (lv_at hl 2 rfl) ?_
                  have hFc := fr_all (wR_D nu68 hD) hS hA
                  refine va_callv (va_runV (As := [.int 3, .int t84, .int r5]) (rest := []) ⟨hx, hb, hml, hown, hts⟩ (sm_routeOn3 l dC dI cs ad nu68 ok H hP ((wR_D nu68 hD).weaken (fun _ _ _ _ => trivial)) t84 r5 (by have h50 : (3 : Int32).toInt = 3 := rfl; rw [et84, et83]; exact h7_next hin0 (by rw [et8, et7]) (by omega) (by omega) f17) (by have h50 : (3 : Int32).toInt = 3 := rfl; have hb85 := congrArg Int32.toInt ez69; have hb86 := congrArg Int32.toInt ez70; have hb87 := congrArg Int32.toInt ez71; omega)) (cwV 3 hts (wU_V mw_6_183 mw_6_180 mw_6_182 mw_0_55 mw_1_13) rfl rfl rfl (by decide +kernel) ⟨Nat.le_of_ble_eq_true rfl, Nat.le_of_ble_eq_true rfl⟩) ⟨sz_c, va_recv hK hP (ci := 12) (q0 := 0) rfl (gM_0 cs ad nu68), sz_m hK hz⟩ rfl rfl hl.1 rfl (lv_room (Nat.le_of_ble_eq_true rfl)) dX12_routeOn_136 ⟨Nat.zero_le _, Nat.zero_le _⟩) hS (fun q _ h => hFc q h) hFc (fun xi88 t H88 locs ht hvm hw88 hB hz1 hk1 hS => ?_)
                  have hP : va_P (dC, dI) vwCl (wR 21 ad (EM cs ad) xi88) H88 := by rw [← ht]; exact hB
                  obtain ⟨ok, hw88, _⟩ := hw88
                  obtain ⟨y89, ey89⟩ : ∃ z : Int32, z = xi88 0 39 := ⟨_, rfl⟩
                  have by89 : y89.toInt = (xi88 0 39).toInt := congrArg Int32.toInt ey89
                  have gy89 : -9 ≤ y89.toInt ∧ y89.toInt ≤ 3 := by rw [ey89]; exact rM_0_39 ok
                  obtain ⟨y90, ey90⟩ : ∃ z : Int32, z = xi88 0 33 := ⟨_, rfl⟩
                  have by90 : y90.toInt = (xi88 0 33).toInt := congrArg Int32.toInt ey90
                  obtain ⟨y91, ey91⟩ : ∃ z : Int32, z = xi88 0 35 := ⟨_, rfl⟩
                  have by91 : y91.toInt = (xi88 0 35).toInt := congrArg Int32.toInt ey91
                  have gr88 : ((xi88 0 39).toInt = -9 ∨ (0 ≤ (xi88 0 39).toInt ∧ (xi88 0 39).toInt ≤ 3)) ∧ ((xi88 0 33).toInt = 0 ∨ (xi88 0 35).toInt ≤ 7) := hw88
                  refine lv_iinc (v := (v7_34 + 1)) (lv' := [(7, .int (v7_34 + 1)), (6, .int t8), (5, .int r5), (4, .int y4), (0, .ref (ad 0)), (1, .int 2), (2, .int vh), (3, .int vp)]) hx hb dX12_routeOn_139 hl (k := 0) rfl rfl (by decide) rfl (fun ls hl => ?_)
                  refine loc_gen (P := fun w9 => lv_has ls 8 [(7, .int w9), (6, .int t8), (5, .int r5), (4, .int y4), (0, .ref (ad 0)), (1, .int 2), (2, .int vh), (3, .int vp)]) (v7_34 + 1) hl (fun w92 hw92 hl => ?_)
                  have hl : lv_has ls 8 [(7, .int w92), (6, .int t8), (5, .int r5), (4, .int y4), (0, .ref (ad 0)), (1, .int 2), (2, .int vh), (3, .int vp)] := hl
                  have aw92 : w92.toInt = v7_34.toInt + 1 := by rw [← hw92]; exact tI_add (rfl : v7_34.toInt = _) (rfl : (1 : Int32).toInt = 1) (by omega) (by omega)
                  refine lv_goto (tgt := 34) hx hb dX12_routeOn_142 (by decide) ?_
                  exact ih34 (w92) xi88 _ _ _ (by omega) (by exact ⟨by omega, by omega⟩) (by have hb93 := congrArg Int32.toInt ey89; have hb94 := congrArg Int32.toInt ey90; have hb95 := congrArg Int32.toInt ey91; omega) ok hP   hS (lv_sub hl [0, 1, 2, 3, 4, 5, 6, 7] rfl)
              · have c_76 : v7_34.toInt = y75.toInt := il_eq c_76
                refine lv_aload_n hx hb dX12_routeOn_89 rfl (lv_at hl 4 rfl) ?_
                refine lv_iload_n hx hb dX12_routeOn_90 rfl (lv_at hl 5 rfl) ?_
                refine lv_iconst (v := 1) hx hb dX12_routeOn_91 (by decide) ?_
                refine lv_iadd hx hb dX12_routeOn_92 ?_
                refine lq_i 3 (by decide) ?_
                refine lv_iload_n hx hb dX12_routeOn_93 rfl (lv_at hl 6 rfl) ?_
                refine lv_iconst (v := 1) hx hb dX12_routeOn_94 (by decide) ?_
                refine lv_aload_n hx hb dX12_routeOn_95 rfl (lv_at hl 4 rfl) ?_
                refine va_get (D := (dC, dI)) (ci := 12) (v := .ref (ad 16)) (C := RX12) (T := TX12) (N := 46) hx hb hts inG12 hown hK hP 0 (gM_0 cs ad nu68) rfl 26 (by decide) (hts _ (List.mem_cons_of_mem _ mw_5_67)) (fun _ h9 => h9) rfl dX12_routeOn_96 ?_
                refine lv_iconst (v := 0) hx hb dX12_routeOn_99 (by decide) ?_
                refine va_iald hx hb hK hP 16 0 (gM_16 cs ad nu68) rfl (show vp_in 0 7 from (by unfold vp_in; decide)) dX12_routeOn_100 ?_
                refine lv_topi (fun y96 ey96 => ?_)
                have by96 : y96.toInt = (nu68 16 (0 : Int32).toNatClampNeg).toInt := congrArg Int32.toInt ey96
                have gy96 : 0 ≤ y96.toInt ∧ y96.toInt ≤ 6 := by rw [ey96]; exact rM_16_s ok (0 : Int32).toNatClampNeg
                refine lv_ishl hx hb dX12_routeOn_101 ?_
                refine lv_topi (fun t97 et97 => ?_)
                refine lv_iconst (v := (-1)) hx hb dX12_routeOn_102 (by decide) ?_
                refine lv_ixor hx hb dX12_routeOn_103 ?_
                refine lv_topi (fun t98 et98 => ?_)
                refine lv_iand hx hb dX12_routeOn_104 ?_
                refine lv_topi (fun t99 et99 => ?_)
                refine lv_iload hx hb dX12_routeOn_105 (lv_at hl 2 rfl) ?_
                have hFc := fr_all (wR_D nu68 hD) hS hA
                refine va_callv (va_runV (As := [.int 3, .int t99, .int r5]) (rest := []) ⟨hx, hb, hml, hown, hts⟩ (sm_meetRoute l dC dI cs ad nu68 ok H hP ((wR_D nu68 hD).weaken (fun _ _ _ _ => trivial)) 3 t99 r5 (by have h50 : (3 : Int32).toInt = 3 := rfl; omega) (by have h50 : (3 : Int32).toInt = 3 := rfl; have hb100 := congrArg Int32.toInt ez69; have hb101 := congrArg Int32.toInt ez70; have hb102 := congrArg Int32.toInt ez71; omega)) (cwV 3 hts (wU_V mw_6_187 mw_6_184 mw_6_186 mw_0_56 mw_1_13) rfl rfl rfl (by decide +kernel) ⟨Nat.le_of_ble_eq_true rfl, Nat.le_of_ble_eq_true rfl⟩) ⟨sz_c, va_recv hK hP (ci := 12) (q0 := 0) rfl (gM_0 cs ad nu68), sz_m hK hz⟩ rfl rfl hl.1 rfl (lv_room (Nat.le_of_ble_eq_true rfl)) dX12_routeOn_107 ⟨Nat.zero_le _, Nat.zero_le _⟩) hS (fun q _ h => hFc q h) hFc (fun xi103 t H103 locs ht hvm hw103 hB hz1 hk1 hS => ?_)
                have hP : va_P (dC, dI) vwCl (wR 21 ad (EM cs ad) xi103) H103 := by rw [← ht]; exact hB
                obtain ⟨ok, hw103, _⟩ := hw103
                obtain ⟨y104, ey104⟩ : ∃ z : Int32, z = xi103 0 39 := ⟨_, rfl⟩
                have by104 : y104.toInt = (xi103 0 39).toInt := congrArg Int32.toInt ey104
                have gy104 : -9 ≤ y104.toInt ∧ y104.toInt ≤ 3 := by rw [ey104]; exact rM_0_39 ok
                obtain ⟨y105, ey105⟩ : ∃ z : Int32, z = xi103 0 33 := ⟨_, rfl⟩
                have by105 : y105.toInt = (xi103 0 33).toInt := congrArg Int32.toInt ey105
                obtain ⟨y106, ey106⟩ : ∃ z : Int32, z = xi103 0 35 := ⟨_, rfl⟩
                have by106 : y106.toInt = (xi103 0 35).toInt := congrArg Int32.toInt ey106
                have gr103 : ((xi103 0 39).toInt = -9 ∨ (0 ≤ (xi103 0 39).toInt ∧ (xi103 0 39).toInt ≤ 3)) ∧ ((xi103 0 33).toInt = 0 ∨ (xi103 0 35).toInt ≤ 7) := hw103
                refine lv_goto (tgt := 139) hx hb dX12_routeOn_110 (by decide) ?_
                refine lv_iinc (v := (v7_34 + 1)) (lv' := [(7, .int (v7_34 + 1)), (6, .int t8), (5, .int r5), (4, .int y4), (0, .ref (ad 0)), (1, .int 2), (2, .int vh), (3, .int vp)]) hx hb dX12_routeOn_139 hl (k := 0) rfl rfl (by decide) rfl (fun ls hl => ?_)
                refine loc_gen (P := fun w9 => lv_has ls 8 [(7, .int w9), (6, .int t8), (5, .int r5), (4, .int y4), (0, .ref (ad 0)), (1, .int 2), (2, .int vh), (3, .int vp)]) (v7_34 + 1) hl (fun w107 hw107 hl => ?_)
                have hl : lv_has ls 8 [(7, .int w107), (6, .int t8), (5, .int r5), (4, .int y4), (0, .ref (ad 0)), (1, .int 2), (2, .int vh), (3, .int vp)] := hl
                have aw107 : w107.toInt = v7_34.toInt + 1 := by rw [← hw107]; exact tI_add (rfl : v7_34.toInt = _) (rfl : (1 : Int32).toInt = 1) (by omega) (by omega)
                refine lv_goto (tgt := 34) hx hb dX12_routeOn_142 (by decide) ?_
                exact ih34 (w107) xi103 _ _ _ (by omega) (by exact ⟨by omega, by omega⟩) (by have hb108 := congrArg Int32.toInt ey104; have hb109 := congrArg Int32.toInt ey105; have hb110 := congrArg Int32.toInt ey106; omega) ok hP   hS (lv_sub hl [0, 1, 2, 3, 4, 5, 6, 7] rfl)
        · have f17 : ¬ rb t8 v7_34 = 1 := f17
          refine lv_if_eq (tgt := 139) hx hb dX12_routeOn_50 (by decide) (fun _ => ?_) (fun c => absurd (by decide) c)
          refine lv_iinc (v := (v7_34 + 1)) (lv' := [(7, .int (v7_34 + 1)), (6, .int t8), (5, .int r5), (4, .int y4), (0, .ref (ad 0)), (1, .int 2), (2, .int vh), (3, .int vp)]) hx hb dX12_routeOn_139 hl (k := 0) rfl rfl (by decide) rfl (fun ls hl => ?_)
          refine loc_gen (P := fun w9 => lv_has ls 8 [(7, .int w9), (6, .int t8), (5, .int r5), (4, .int y4), (0, .ref (ad 0)), (1, .int 2), (2, .int vh), (3, .int vp)]) (v7_34 + 1) hl (fun w111 hw111 hl => ?_)
          have hl : lv_has ls 8 [(7, .int w111), (6, .int t8), (5, .int r5), (4, .int y4), (0, .ref (ad 0)), (1, .int 2), (2, .int vh), (3, .int vp)] := hl
          have aw111 : w111.toInt = v7_34.toInt + 1 := by rw [← hw111]; exact tI_add (rfl : v7_34.toInt = _) (rfl : (1 : Int32).toInt = 1) (by omega) (by omega)
          refine lv_goto (tgt := 34) hx hb dX12_routeOn_142 (by decide) ?_
          exact ih34 (w111) nu34_ _ _ _ (by omega) (by exact ⟨by omega, by omega⟩) (by have hb112 := congrArg Int32.toInt ey9; have hb113 := congrArg Int32.toInt ey10; have hb114 := congrArg Int32.toInt ey11; omega) ok hP   hS (lv_sub hl [0, 1, 2, 3, 4, 5, 6, 7] rfl)
  exact loop34 ((7 + 1 - (0 : Int32).toInt).toNat + 1) (0) mu _ _ _ (Nat.lt_succ_self _) (by have h80 : (0 : Int32).toInt = 0 := rfl; exact ⟨by omega, by omega⟩) (by have h80 : (0 : Int32).toInt = 0 := rfl; have hb115 := congrArg Int32.toInt ey1; have hb116 := congrArg Int32.toInt ey2; have hb117 := congrArg Int32.toInt ey3; omega) ok hP   hS hl
set_option maxHeartbeats 4000000 in
set_option maxRecDepth 100000 in
/-- sm_routeOn1 -/
theorem sm_routeOn1 (l : Launch) (dC : Nat → ClassId) (dI : Nat → Nat → Nat) (cs : Nat → ClassId) (ad : Nat → Nat) (mu : Nat → Nat → Int32) (ok : okR loM hiM mu) (H : Heap) (hP : va_P (dC, dI) vwCl (wR 21 ad (EM cs ad) mu) H) (hD0 : va_D (fun _ => True) (wR 21 ad (EM cs ad) mu)) (vh : Int32) (vp : Int32) (hin0 : h7 1 vh) (hin1 : ((mu 0 39).toInt = -9 ∨ (0 ≤ (mu 0 39).toInt ∧ (mu 0 39).toInt ≤ 3)) ∧ ((mu 0 33).toInt = 0 ∨ (mu 0 35).toInt ≤ 7)) : Met l yX12_routeOn (wU yX12_routeOn cX12_routeOn 8 none) ({ frames := 8, cells := 0, slots := 0, locals := 208 }) (va_Pc [.ref (ad 0), .int 1, .int vh, .int vp] (sz_P (dC, dI) vwCl (tyM cs) H)) (va_Qv (fun (xi : Nat → Nat → Int32) => okR loM hiM xi ∧ (((xi 0 39).toInt = -9 ∨ (0 ≤ (xi 0 39).toInt ∧ (xi 0 39).toInt ≤ 3)) ∧ ((xi 0 33).toInt = 0 ∨ (xi 0 35).toInt ≤ 7)) ∧ True) (fun xi t => va_P (dC, dI) vwCl (wR 21 ad (EM cs ad) xi) t.heap) (va_A (wR 21 ad (EM cs ad) mu) H.size)) 0 0 (va_A (wR 21 ad (EM cs ad) mu) H.size) := by
  refine Met.ofW (cc := cX12_routeOn) (maxL := 8) (ret := none) (by decide) rfl ?_
  intro p e s m args below meth c s₁ B hml hv
  obtain ⟨rfl, hh, hK, hz⟩ := hv
  have hx := B.exec
  have hb := B.bytes
  have hr := B.returns
  have hts := atoms_spec (ws := (wU yX12_routeOn cX12_routeOn 8 none)) B.pre
  have hown : s.vm.findClass RX12 = some m.cls := findClass_of_methodNamed B.named
  have hlocks := B.notSynchronized
  subst hh
  have hD := hD0.self (sz := s.heap.size)
  have hA : ∀ q : Nat, s.heap.size ≤ q → (va_A (wR 21 ad (EM cs ad) mu) s.heap.size) q := fun q h => Or.inr h
  have hS : va_S (va_A (wR 21 ad (EM cs ad) mu) s.heap.size) s.heap s.heap [] := va_S.rf
  have hl := lv_entry ([.ref (ad 0), .int 1, .int vh, .int vp]) (n := 8) (Nat.le_of_ble_eq_true rfl)
  rw [lg_entry_eq]
  generalize (lg_sl ([.ref (ad 0), .int 1, .int vh, .int vp]) ++ List.replicate (8 - (lg_sl ([.ref (ad 0), .int 1, .int vh, .int vp])).length) Slot.unset).toArray = ls at hl ⊢
  have hl : lv_has ls 8 [(0, .ref (ad 0)), (1, .int 1), (2, .int vh), (3, .int vp)] := hl
  obtain ⟨y1, ey1⟩ : ∃ z : Int32, z = mu 0 39 := ⟨_, rfl⟩
  have by1 : y1.toInt = (mu 0 39).toInt := congrArg Int32.toInt ey1
  have gy1 : -9 ≤ y1.toInt ∧ y1.toInt ≤ 3 := by rw [ey1]; exact rM_0_39 ok
  obtain ⟨y2, ey2⟩ : ∃ z : Int32, z = mu 0 33 := ⟨_, rfl⟩
  have by2 : y2.toInt = (mu 0 33).toInt := congrArg Int32.toInt ey2
  obtain ⟨y3, ey3⟩ : ∃ z : Int32, z = mu 0 35 := ⟨_, rfl⟩
  have by3 : y3.toInt = (mu 0 35).toInt := congrArg Int32.toInt ey3
  refine lv_aload_n hx hb dX12_routeOn_0 rfl (lv_at hl 0 rfl) ?_
  refine va_get (D := (dC, dI)) (ci := 12) (v := .ref (ad 16)) (C := RX12) (T := TX12) (N := 46) hx hb hts inG12 hown hK hP 0 (gM_0 cs ad mu) rfl 26 (by decide) (hts _ (List.mem_cons_of_mem _ mw_5_67)) (fun _ h9 => h9) rfl dX12_routeOn_1 ?_
  refine lv_iload_n hx hb dX12_routeOn_4 rfl (lv_at hl 1 rfl) ?_
  refine lv_iconst (v := 1) hx hb dX12_routeOn_5 (by decide) ?_
  refine lv_isub hx hb dX12_routeOn_6 ?_
  refine lq_i 0 (by decide) ?_
  refine va_iald hx hb hK hP 16 0 (gM_16 cs ad mu) rfl (show vp_in 0 7 from (by unfold vp_in; decide)) dX12_routeOn_7 ?_
  refine lv_topi (fun y4 ey4 => ?_)
  have by4 : y4.toInt = (mu 16 (0 : Int32).toNatClampNeg).toInt := congrArg Int32.toInt ey4
  have gy4 : 0 ≤ y4.toInt ∧ y4.toInt ≤ 6 := by rw [ey4]; exact rM_16_s ok (0 : Int32).toNatClampNeg
  refine lv_istore (lv' := [(4, .int y4), (0, .ref (ad 0)), (1, .int 1), (2, .int vh), (3, .int vp)]) hx hb dX12_routeOn_8 hl (by decide) rfl (fun ls hl => ?_)
  refine lv_aload_n hx hb dX12_routeOn_10 rfl (lv_at hl 1 rfl) ?_
  refine lv_iload hx hb dX12_routeOn_11 (lv_at hl 0 rfl) ?_
  refine lv_iload_n hx hb dX12_routeOn_13 rfl (lv_at hl 4 rfl) ?_
  refine cr_i (va_runV (As := [.int y4, .int vp]) (rest := []) ⟨hx, hb, hml, hown, hts⟩ (sm_asksOf l dC dI cs ad mu ok s.heap hP y4 vp (by omega)) (cwV 2 hts (wU_V mw_6_74 mw_6_71 mw_6_73 mw_0_42 mw_1_13) rfl rfl rfl (by decide +kernel) ⟨Nat.le_of_ble_eq_true rfl, Nat.le_of_ble_eq_true rfl⟩) ⟨sz_c, va_recv hK hP (ci := 12) (q0 := 0) rfl (gM_0 cs ad mu), sz_m hK hz⟩ rfl rfl hl.1 rfl (lv_room (Nat.le_of_ble_eq_true rfl)) dX12_routeOn_14 ⟨Nat.zero_le _, Nat.zero_le _⟩) hS (fun r5 hw5 locs hS => ?_)
  refine lv_istore (lv' := [(5, .int r5), (4, .int y4), (0, .ref (ad 0)), (1, .int 1), (2, .int vh), (3, .int vp)]) hx hb dX12_routeOn_17 hl (by decide) rfl (fun ls hl => ?_)
  refine lv_aload_n hx hb dX12_routeOn_19 rfl (lv_at hl 2 rfl) ?_
  refine lv_iload hx hb dX12_routeOn_20 (lv_at hl 1 rfl) ?_
  refine cr_i (va_runV (As := [.int y4]) (rest := []) ⟨hx, hb, hml, hown, hts⟩ (sm_besideOf l dC dI cs ad mu ok s.heap hP y4) (cwV 1 hts (wU_V mw_6_56 mw_6_53 mw_6_55 mw_0_40 mw_1_13) rfl rfl rfl (by decide +kernel) ⟨Nat.le_of_ble_eq_true rfl, Nat.le_of_ble_eq_true rfl⟩) ⟨sz_c, va_recv hK hP (ci := 12) (q0 := 0) rfl (gM_0 cs ad mu), sz_m hK hz⟩ rfl rfl hl.1 rfl (lv_room (Nat.le_of_ble_eq_true rfl)) dX12_routeOn_22 ⟨Nat.zero_le _, Nat.zero_le _⟩) hS (fun r6 hw6 locs hS => ?_)
  refine lv_iload_n hx hb dX12_routeOn_25 rfl (lv_at hl 4 rfl) ?_
  refine lv_iconst (v := (-1)) hx hb dX12_routeOn_26 (by decide) ?_
  refine lv_ixor hx hb dX12_routeOn_27 ?_
  refine lv_topi (fun t7 et7 => ?_)
  refine lv_iand hx hb dX12_routeOn_28 ?_
  refine lv_topi (fun t8 et8 => ?_)
  refine lv_istore (lv' := [(6, .int t8), (5, .int r5), (4, .int y4), (0, .ref (ad 0)), (1, .int 1), (2, .int vh), (3, .int vp)]) hx hb dX12_routeOn_29 hl (by decide) rfl (fun ls hl => ?_)
  refine lv_iconst (v := 0) hx hb dX12_routeOn_31 (by decide) ?_
  refine lv_istore (lv' := [(7, .int 0), (6, .int t8), (5, .int r5), (4, .int y4), (0, .ref (ad 0)), (1, .int 1), (2, .int vh), (3, .int vp)]) hx hb dX12_routeOn_32 hl (by decide) rfl (fun ls hl => ?_)
  have loop34 : ∀ (n34 : Nat) (v7_34 : Int32) (nu34_ : Nat → Nat → Int32) (H : Heap) (locs : List Loc) (ls : Array Slot), (7 + 1 - v7_34.toInt).toNat < n34 → (0 ≤ v7_34.toInt ∧ v7_34.toInt ≤ 7) → (((nu34_ 0 39).toInt = -9 ∨ (0 ≤ (nu34_ 0 39).toInt ∧ (nu34_ 0 39).toInt ≤ 3)) ∧ ((nu34_ 0 33).toInt = 0 ∨ (nu34_ 0 35).toInt ≤ 7)) → okR loM hiM nu34_ → va_P (dC, dI) vwCl (wR 21 ad (EM cs ad) nu34_) H → va_S (va_A (wR 21 ad (EM cs ad) mu) s.heap.size) s.heap H locs → lv_has ls 8 [(7, .int v7_34), (6, .int t8), (5, .int r5), (4, .int y4), (0, .ref (ad 0)), (1, .int 1), (2, .int vh), (3, .int vp)] → W p l e (headSpec (wU yX12_routeOn cX12_routeOn 8 none) ({ frames := 8, cells := 0, slots := 0, locals := 208 })).room s m ([.ref (ad 0), .int 1, .int vh, .int vp] : List Value).toArray below meth c H locs 0 0 (MQ below (va_Qv (fun (xi : Nat → Nat → Int32) => okR loM hiM xi ∧ (((xi 0 39).toInt = -9 ∨ (0 ≤ (xi 0 39).toInt ∧ (xi 0 39).toInt ≤ 3)) ∧ ((xi 0 33).toInt = 0 ∨ (xi 0 35).toInt ≤ 7)) ∧ True) (fun xi t => va_P (dC, dI) vwCl (wR 21 ad (EM cs ad) xi) t.heap) (va_A (wR 21 ad (EM cs ad) mu) s.heap.size)) ([.ref (ad 0), .int 1, .int vh, .int vp] : List Value).toArray s 0 0 (va_A (wR 21 ad (EM cs ad) mu) s.heap.size)) (F0 m 34 ls []) := by
    intro n34
    induction n34 with
    | zero => intro v7_34 nu34_ H locs ls hm; exact absurd hm (Nat.not_lt_zero _)
    | succ n34 ih34 =>
      intro v7_34 nu34_ H locs ls hm h_v7_34 hi34_0 ok hP hS hl
      obtain ⟨y9, ey9⟩ : ∃ z : Int32, z = nu34_ 0 39 := ⟨_, rfl⟩
      have by9 : y9.toInt = (nu34_ 0 39).toInt := congrArg Int32.toInt ey9
      have gy9 : -9 ≤ y9.toInt ∧ y9.toInt ≤ 3 := by rw [ey9]; exact rM_0_39 ok
      obtain ⟨y10, ey10⟩ : ∃ z : Int32, z = nu34_ 0 33 := ⟨_, rfl⟩
      have by10 : y10.toInt = (nu34_ 0 33).toInt := congrArg Int32.toInt ey10
      obtain ⟨y11, ey11⟩ : ∃ z : Int32, z = nu34_ 0 35 := ⟨_, rfl⟩
      have by11 : y11.toInt = (nu34_ 0 35).toInt := congrArg Int32.toInt ey11
      refine lv_iload hx hb dX12_routeOn_34 (lv_at hl 0 rfl) ?_
      refine lv_aload_n hx hb dX12_routeOn_36 rfl (lv_at hl 4 rfl) ?_
      refine va_get (D := (dC, dI)) (ci := 12) (v := .int (nu34_ 0 8)) (C := RX12) (T := TX12) (N := 46) hx hb hts inG12 hown hK hP 0 (gM_0 cs ad nu34_) rfl 8 (by decide) (hts _ (List.mem_cons_of_mem _ mw_5_49)) (fun _ h9 => h9) rfl dX12_routeOn_37 ?_
      refine lv_topi (fun y12 ey12 => ?_)
      have by12 : y12.toInt = (nu34_ 0 8).toInt := congrArg Int32.toInt ey12
      have gy12 : 0 ≤ y12.toInt ∧ y12.toInt ≤ 7 := by rw [ey12]; exact rM_0_8 ok
      refine lv_icmp_ge (tgt := 145) hx hb dX12_routeOn_40 (by decide) (fun c_13 => ?_) (fun c_13 => ?_)
      · have c_13 : y12.toInt ≤ v7_34.toInt := il_le c_13
        exact W.vret hx hb hr (fun t ht hW => ⟨⟨nu34_, rfl, ⟨ok, (by have hb14 := congrArg Int32.toInt ey9; have hb15 := congrArg Int32.toInt ey10; have hb16 := congrArg Int32.toInt ey11; omega), trivial⟩, by first | (subst ht; exact hP) | (rw [ht]; exact hP) | (show va_P (dC, dI) vwCl (wR 21 ad (EM cs ad) nu34_) t.heap; rw [ht]; exact hP)⟩, hS.F ht⟩) hS.2.2 dX12_routeOn_145
      · have c_13 : v7_34.toInt < y12.toInt := il_nle c_13
        refine lv_iload hx hb dX12_routeOn_43 (lv_at hl 1 rfl) ?_
        refine lv_iload hx hb dX12_routeOn_45 (lv_at hl 0 rfl) ?_
        refine cr_i (va_runS (As := [.int t8, .int v7_34]) (rest := []) ⟨hx, hb, hml, hown, hts⟩ (sm_has l dC dI (tyM cs) H t8 v7_34) (va_cwS 2 hts (wU_S mw_6_59 mw_6_57 mw_6_58 mw_1_13) rfl rfl rfl (by decide +kernel) ⟨Nat.le_of_ble_eq_true rfl, Nat.le_of_ble_eq_true rfl⟩) ⟨sz_c, sz_m hK hz⟩ rfl rfl hl.1 rfl (lv_room (Nat.le_of_ble_eq_true rfl)) dX12_routeOn_47 ⟨Nat.zero_le _, Nat.zero_le _⟩) hS (fun r17 hw17 locs hS => ?_)
        rcases hw17 with ⟨rfl, f17⟩ | ⟨rfl, f17⟩
        · have f17 : rb t8 v7_34 = 1 := f17
          refine lv_if_eq (tgt := 139) hx hb dX12_routeOn_50 (by decide) (fun c => absurd c (by decide)) (fun _ => ?_)
          refine lv_aload_n hx hb dX12_routeOn_53 rfl (lv_at hl 4 rfl) ?_
          refine va_get (D := (dC, dI)) (ci := 12) (v := .int (nu34_ 0 38)) (C := RX12) (T := TX12) (N := 46) hx hb hts inG12 hown hK hP 0 (gM_0 cs ad nu34_) rfl 38 (by decide) (hts _ (List.mem_cons_of_mem _ mw_5_79)) (fun _ h9 => h9) rfl dX12_routeOn_54 ?_
          refine lv_topi (fun y18 ey18 => ?_)
          have by18 : y18.toInt = (nu34_ 0 38).toInt := congrArg Int32.toInt ey18
          have gy18 : 0 ≤ y18.toInt ∧ y18.toInt ≤ 1 := by rw [ey18]; exact rM_0_38 ok
          refine lv_if_eq (tgt := 72) hx hb dX12_routeOn_57 (by decide) (fun c_19 => ?_) (fun c_19 => ?_)
          · have c_19 : y18.toInt = 0 := il_eq c_19
            refine lv_aload_n hx hb dX12_routeOn_72 rfl (lv_at hl 4 rfl) ?_
            refine va_get (D := (dC, dI)) (ci := 12) (v := .ref (ad 16)) (C := RX12) (T := TX12) (N := 46) hx hb hts inG12 hown hK hP 0 (gM_0 cs ad nu34_) rfl 26 (by decide) (hts _ (List.mem_cons_of_mem _ mw_5_67)) (fun _ h9 => h9) rfl dX12_routeOn_73 ?_
            refine lv_iload_n hx hb dX12_routeOn_76 rfl (lv_at hl 5 rfl) ?_
            refine lv_iload hx hb dX12_routeOn_77 (lv_at hl 0 rfl) ?_
            refine va_iast hx hb hK hP (wR_D nu34_ hD) hS 16 0 (gM_16 cs ad nu34_) rfl (show vp_in 1 7 from (by unfold vp_in; decide)) dX12_routeOn_79 (fun H locs hP _ hS => ?_)
            refine wr_gen (upd (nu34_ 16) (1 : Int32).toNatClampNeg v7_34) hP (rfl) (fun nu20 hn20 hP => ?_)
            have ok := tM_16_s ok (1 : Int32).toNatClampNeg hn20 (by exact ⟨by omega, by omega⟩)
            have ez21 : y9 = nu20 0 39 := ey9.trans (congrFun (up_k hn20 (by decide)) 39).symm
            have ez22 : y10 = nu20 0 33 := ey10.trans (congrFun (up_k hn20 (by decide)) 33).symm
            have ez23 : y11 = nu20 0 35 := ey11.trans (congrFun (up_k hn20 (by decide)) 35).symm
            have ez24 : y12 = nu20 0 8 := ey12.trans (congrFun (up_k hn20 (by decide)) 8).symm
            have ez25 : y18 = nu20 0 38 := ey18.trans (congrFun (up_k hn20 (by decide)) 38).symm
            refine lv_iload hx hb dX12_routeOn_80 (lv_at hl 0 rfl) ?_
            refine lv_aload_n hx hb dX12_routeOn_82 rfl (lv_at hl 4 rfl) ?_
            refine va_get (D := (dC, dI)) (ci := 12) (v := .int (nu20 0 29)) (C := RX12) (T := TX12) (N := 46) hx hb hts inG12 hown hK hP 0 (gM_0 cs ad nu20) rfl 29 (by decide) (hts _ (List.mem_cons_of_mem _ mw_5_70)) (fun _ h9 => h9) rfl dX12_routeOn_83 ?_
            refine lv_topi (fun y26 ey26 => ?_)
            have by26 : y26.toInt = (nu20 0 29).toInt := congrArg Int32.toInt ey26
            refine lv_icmp_ne (tgt := 113) hx hb dX12_routeOn_86 (by decide) (fun c_27 => ?_) (fun c_27 => ?_)
            · have c_27 : ¬ v7_34.toInt = y26.toInt := il_ne c_27
              refine lv_aload_n hx hb dX12_routeOn_113 rfl (lv_at hl 4 rfl) ?_
              refine va_get (D := (dC, dI)) (ci := 12) (v := .ref (ad 7)) (C := RX12) (T := TX12) (N := 46) hx hb hts inG12 hown hK hP 0 (gM_0 cs ad nu20) rfl 9 (by decide) (hts _ (List.mem_cons_of_mem _ mw_5_50)) (fun _ h9 => h9) rfl dX12_routeOn_114 ?_
              refine lv_iload hx hb dX12_routeOn_117 (lv_at hl 0 rfl) ?_
              refine va_iald hx hb hK hP 7 0 (gM_7 cs ad nu20) rfl (show vp_in v7_34 7 from vi_of (by omega) (by omega)) dX12_routeOn_119 ?_
              refine lv_topi (fun y28 ey28 => ?_)
              have by28 : y28.toInt = (nu20 7 v7_34.toNatClampNeg).toInt := congrArg Int32.toInt ey28
              refine lv_iconst (v := 3) hx hb dX12_routeOn_120 (by decide) ?_
              refine lv_icmp_eq (tgt := 139) hx hb dX12_routeOn_121 (by decide) (fun c_29 => ?_) (fun c_29 => ?_)
              · have c_29 : y28.toInt = 3 := il_eq c_29
                refine lv_iinc (v := (v7_34 + 1)) (lv' := [(7, .int (v7_34 + 1)), (6, .int t8), (5, .int r5), (4, .int y4), (0, .ref (ad 0)), (1, .int 1), (2, .int vh), (3, .int vp)]) hx hb dX12_routeOn_139 hl (k := 0) rfl rfl (by decide) rfl (fun ls hl => ?_)
                refine loc_gen (P := fun w9 => lv_has ls 8 [(7, .int w9), (6, .int t8), (5, .int r5), (4, .int y4), (0, .ref (ad 0)), (1, .int 1), (2, .int vh), (3, .int vp)]) (v7_34 + 1) hl (fun w30 hw30 hl => ?_)
                have hl : lv_has ls 8 [(7, .int w30), (6, .int t8), (5, .int r5), (4, .int y4), (0, .ref (ad 0)), (1, .int 1), (2, .int vh), (3, .int vp)] := hl
                have aw30 : w30.toInt = v7_34.toInt + 1 := by rw [← hw30]; exact tI_add (rfl : v7_34.toInt = _) (rfl : (1 : Int32).toInt = 1) (by omega) (by omega)
                refine lv_goto (tgt := 34) hx hb dX12_routeOn_142 (by decide) ?_
                exact ih34 (w30) nu20 _ _ _ (by omega) (by exact ⟨by omega, by omega⟩) (by have hb31 := congrArg Int32.toInt ez21; have hb32 := congrArg Int32.toInt ez22; have hb33 := congrArg Int32.toInt ez23; omega) ok hP   hS (lv_sub hl [0, 1, 2, 3, 4, 5, 6, 7] rfl)
              · have c_29 : ¬ y28.toInt = 3 := il_ne c_29
                refine lv_aload_n hx hb dX12_routeOn_124 rfl (lv_at hl 4 rfl) ?_
                refine lv_iload_n hx hb dX12_routeOn_125 rfl (lv_at hl 5 rfl) ?_
                refine lv_iconst (v := 1) hx hb dX12_routeOn_126 (by decide) ?_
                refine lv_iadd hx hb dX12_routeOn_127 ?_
                refine lq_i 2 (by decide) ?_
                refine lv_iload_n hx hb dX12_routeOn_128 rfl (lv_at hl 6 rfl) ?_
                refine lv_iconst (v := 1) hx hb dX12_routeOn_129 (by decide) ?_
                refine lv_iload hx hb dX12_routeOn_130 (lv_at hl 0 rfl) ?_
                refine lv_ishl hx hb dX12_routeOn_132 ?_
                refine lv_topi (fun t34 et34 => ?_)
                refine lv_ior hx hb dX12_routeOn_133 ?_
                refine lv_topi (fun t35 et35 => ?_)
                refine lv_iload hx hb dX12_routeOn_134 (lv_at hl 2 rfl) ?_
                have hFc := fr_all (wR_D nu20 hD) hS hA
                refine va_callv (va_runV (As := [.int 2, .int t35, .int r5]) (rest := []) ⟨hx, hb, hml, hown, hts⟩ (sm_routeOn2 l dC dI cs ad nu20 ok H hP ((wR_D nu20 hD).weaken (fun _ _ _ _ => trivial)) t35 r5 (by have h50 : (2 : Int32).toInt = 2 := rfl; rw [et35, et34]; exact h7_next hin0 (by rw [et8, et7]) (by omega) (by omega) f17) (by have h50 : (2 : Int32).toInt = 2 := rfl; have hb36 := congrArg Int32.toInt ez21; have hb37 := congrArg Int32.toInt ez22; have hb38 := congrArg Int32.toInt ez23; omega)) (cwV 3 hts (wU_V mw_6_183 mw_6_180 mw_6_182 mw_0_55 mw_1_13) rfl rfl rfl (by decide +kernel) ⟨Nat.le_of_ble_eq_true rfl, Nat.le_of_ble_eq_true rfl⟩) ⟨sz_c, va_recv hK hP (ci := 12) (q0 := 0) rfl (gM_0 cs ad nu20), sz_m hK hz⟩ rfl rfl hl.1 rfl (lv_room (Nat.le_of_ble_eq_true rfl)) dX12_routeOn_136 ⟨Nat.zero_le _, Nat.zero_le _⟩) hS (fun q _ h => hFc q h) hFc (fun xi39 t H39 locs ht hvm hw39 hB hz1 hk1 hS => ?_)
                have hP : va_P (dC, dI) vwCl (wR 21 ad (EM cs ad) xi39) H39 := by rw [← ht]; exact hB
                obtain ⟨ok, hw39, _⟩ := hw39
                obtain ⟨y40, ey40⟩ : ∃ z : Int32, z = xi39 0 39 := ⟨_, rfl⟩
                have by40 : y40.toInt = (xi39 0 39).toInt := congrArg Int32.toInt ey40
                have gy40 : -9 ≤ y40.toInt ∧ y40.toInt ≤ 3 := by rw [ey40]; exact rM_0_39 ok
                obtain ⟨y41, ey41⟩ : ∃ z : Int32, z = xi39 0 33 := ⟨_, rfl⟩
                have by41 : y41.toInt = (xi39 0 33).toInt := congrArg Int32.toInt ey41
                obtain ⟨y42, ey42⟩ : ∃ z : Int32, z = xi39 0 35 := ⟨_, rfl⟩
                have by42 : y42.toInt = (xi39 0 35).toInt := congrArg Int32.toInt ey42
                have gr39 : ((xi39 0 39).toInt = -9 ∨ (0 ≤ (xi39 0 39).toInt ∧ (xi39 0 39).toInt ≤ 3)) ∧ ((xi39 0 33).toInt = 0 ∨ (xi39 0 35).toInt ≤ 7) := hw39
                refine lv_iinc (v := (v7_34 + 1)) (lv' := [(7, .int (v7_34 + 1)), (6, .int t8), (5, .int r5), (4, .int y4), (0, .ref (ad 0)), (1, .int 1), (2, .int vh), (3, .int vp)]) hx hb dX12_routeOn_139 hl (k := 0) rfl rfl (by decide) rfl (fun ls hl => ?_)
                refine loc_gen (P := fun w9 => lv_has ls 8 [(7, .int w9), (6, .int t8), (5, .int r5), (4, .int y4), (0, .ref (ad 0)), (1, .int 1), (2, .int vh), (3, .int vp)]) (v7_34 + 1) hl (fun w43 hw43 hl => ?_)
                have hl : lv_has ls 8 [(7, .int w43), (6, .int t8), (5, .int r5), (4, .int y4), (0, .ref (ad 0)), (1, .int 1), (2, .int vh), (3, .int vp)] := hl
                have aw43 : w43.toInt = v7_34.toInt + 1 := by rw [← hw43]; exact tI_add (rfl : v7_34.toInt = _) (rfl : (1 : Int32).toInt = 1) (by omega) (by omega)
                refine lv_goto (tgt := 34) hx hb dX12_routeOn_142 (by decide) ?_
                exact ih34 (w43) xi39 _ _ _ (by omega) (by exact ⟨by omega, by omega⟩) (by have hb44 := congrArg Int32.toInt ey40; have hb45 := congrArg Int32.toInt ey41; have hb46 := congrArg Int32.toInt ey42; omega) ok hP   hS (lv_sub hl [0, 1, 2, 3, 4, 5, 6, 7] rfl)
            · have c_27 : v7_34.toInt = y26.toInt := il_eq c_27
              refine lv_aload_n hx hb dX12_routeOn_89 rfl (lv_at hl 4 rfl) ?_
              refine lv_iload_n hx hb dX12_routeOn_90 rfl (lv_at hl 5 rfl) ?_
              refine lv_iconst (v := 1) hx hb dX12_routeOn_91 (by decide) ?_
              refine lv_iadd hx hb dX12_routeOn_92 ?_
              refine lq_i 2 (by decide) ?_
              refine lv_iload_n hx hb dX12_routeOn_93 rfl (lv_at hl 6 rfl) ?_
              refine lv_iconst (v := 1) hx hb dX12_routeOn_94 (by decide) ?_
              refine lv_aload_n hx hb dX12_routeOn_95 rfl (lv_at hl 4 rfl) ?_
              refine va_get (D := (dC, dI)) (ci := 12) (v := .ref (ad 16)) (C := RX12) (T := TX12) (N := 46) hx hb hts inG12 hown hK hP 0 (gM_0 cs ad nu20) rfl 26 (by decide) (hts _ (List.mem_cons_of_mem _ mw_5_67)) (fun _ h9 => h9) rfl dX12_routeOn_96 ?_
              refine lv_iconst (v := 0) hx hb dX12_routeOn_99 (by decide) ?_
              refine va_iald hx hb hK hP 16 0 (gM_16 cs ad nu20) rfl (show vp_in 0 7 from (by unfold vp_in; decide)) dX12_routeOn_100 ?_
              refine lv_topi (fun y47 ey47 => ?_)
              have by47 : y47.toInt = (nu20 16 (0 : Int32).toNatClampNeg).toInt := congrArg Int32.toInt ey47
              have gy47 : 0 ≤ y47.toInt ∧ y47.toInt ≤ 6 := by rw [ey47]; exact rM_16_s ok (0 : Int32).toNatClampNeg
              refine lv_ishl hx hb dX12_routeOn_101 ?_
              refine lv_topi (fun t48 et48 => ?_)
              refine lv_iconst (v := (-1)) hx hb dX12_routeOn_102 (by decide) ?_
              refine lv_ixor hx hb dX12_routeOn_103 ?_
              refine lv_topi (fun t49 et49 => ?_)
              refine lv_iand hx hb dX12_routeOn_104 ?_
              refine lv_topi (fun t50 et50 => ?_)
              refine lv_iload hx hb dX12_routeOn_105 (lv_at hl 2 rfl) ?_
              have hFc := fr_all (wR_D nu20 hD) hS hA
              refine va_callv (va_runV (As := [.int 2, .int t50, .int r5]) (rest := []) ⟨hx, hb, hml, hown, hts⟩ (sm_meetRoute l dC dI cs ad nu20 ok H hP ((wR_D nu20 hD).weaken (fun _ _ _ _ => trivial)) 2 t50 r5 (by have h50 : (2 : Int32).toInt = 2 := rfl; omega) (by have h50 : (2 : Int32).toInt = 2 := rfl; have hb51 := congrArg Int32.toInt ez21; have hb52 := congrArg Int32.toInt ez22; have hb53 := congrArg Int32.toInt ez23; omega)) (cwV 3 hts (wU_V mw_6_187 mw_6_184 mw_6_186 mw_0_56 mw_1_13) rfl rfl rfl (by decide +kernel) ⟨Nat.le_of_ble_eq_true rfl, Nat.le_of_ble_eq_true rfl⟩) ⟨sz_c, va_recv hK hP (ci := 12) (q0 := 0) rfl (gM_0 cs ad nu20), sz_m hK hz⟩ rfl rfl hl.1 rfl (lv_room (Nat.le_of_ble_eq_true rfl)) dX12_routeOn_107 ⟨Nat.zero_le _, Nat.zero_le _⟩) hS (fun q _ h => hFc q h) hFc (fun xi54 t H54 locs ht hvm hw54 hB hz1 hk1 hS => ?_)
              have hP : va_P (dC, dI) vwCl (wR 21 ad (EM cs ad) xi54) H54 := by rw [← ht]; exact hB
              obtain ⟨ok, hw54, _⟩ := hw54
              obtain ⟨y55, ey55⟩ : ∃ z : Int32, z = xi54 0 39 := ⟨_, rfl⟩
              have by55 : y55.toInt = (xi54 0 39).toInt := congrArg Int32.toInt ey55
              have gy55 : -9 ≤ y55.toInt ∧ y55.toInt ≤ 3 := by rw [ey55]; exact rM_0_39 ok
              obtain ⟨y56, ey56⟩ : ∃ z : Int32, z = xi54 0 33 := ⟨_, rfl⟩
              have by56 : y56.toInt = (xi54 0 33).toInt := congrArg Int32.toInt ey56
              obtain ⟨y57, ey57⟩ : ∃ z : Int32, z = xi54 0 35 := ⟨_, rfl⟩
              have by57 : y57.toInt = (xi54 0 35).toInt := congrArg Int32.toInt ey57
              have gr54 : ((xi54 0 39).toInt = -9 ∨ (0 ≤ (xi54 0 39).toInt ∧ (xi54 0 39).toInt ≤ 3)) ∧ ((xi54 0 33).toInt = 0 ∨ (xi54 0 35).toInt ≤ 7) := hw54
              refine lv_goto (tgt := 139) hx hb dX12_routeOn_110 (by decide) ?_
              refine lv_iinc (v := (v7_34 + 1)) (lv' := [(7, .int (v7_34 + 1)), (6, .int t8), (5, .int r5), (4, .int y4), (0, .ref (ad 0)), (1, .int 1), (2, .int vh), (3, .int vp)]) hx hb dX12_routeOn_139 hl (k := 0) rfl rfl (by decide) rfl (fun ls hl => ?_)
              refine loc_gen (P := fun w9 => lv_has ls 8 [(7, .int w9), (6, .int t8), (5, .int r5), (4, .int y4), (0, .ref (ad 0)), (1, .int 1), (2, .int vh), (3, .int vp)]) (v7_34 + 1) hl (fun w58 hw58 hl => ?_)
              have hl : lv_has ls 8 [(7, .int w58), (6, .int t8), (5, .int r5), (4, .int y4), (0, .ref (ad 0)), (1, .int 1), (2, .int vh), (3, .int vp)] := hl
              have aw58 : w58.toInt = v7_34.toInt + 1 := by rw [← hw58]; exact tI_add (rfl : v7_34.toInt = _) (rfl : (1 : Int32).toInt = 1) (by omega) (by omega)
              refine lv_goto (tgt := 34) hx hb dX12_routeOn_142 (by decide) ?_
              exact ih34 (w58) xi54 _ _ _ (by omega) (by exact ⟨by omega, by omega⟩) (by have hb59 := congrArg Int32.toInt ey55; have hb60 := congrArg Int32.toInt ey56; have hb61 := congrArg Int32.toInt ey57; omega) ok hP   hS (lv_sub hl [0, 1, 2, 3, 4, 5, 6, 7] rfl)
          · have c_19 : ¬ y18.toInt = 0 := il_ne c_19
            refine lv_aload_n hx hb dX12_routeOn_60 rfl (lv_at hl 4 rfl) ?_
            refine va_get (D := (dC, dI)) (ci := 12) (v := .ref (ad 8)) (C := RX12) (T := TX12) (N := 46) hx hb hts inG12 hown hK hP 0 (gM_0 cs ad nu34_) rfl 10 (by decide) (hts _ (List.mem_cons_of_mem _ mw_5_51)) (fun _ h9 => h9) rfl dX12_routeOn_61 ?_
            refine lv_iload hx hb dX12_routeOn_64 (lv_at hl 0 rfl) ?_
            refine va_iald hx hb hK hP 8 0 (gM_8 cs ad nu34_) rfl (show vp_in v7_34 7 from vi_of (by omega) (by omega)) dX12_routeOn_66 ?_
            refine lv_topi (fun y62 ey62 => ?_)
            have by62 : y62.toInt = (nu34_ 8 v7_34.toNatClampNeg).toInt := congrArg Int32.toInt ey62
            refine lv_iload hx hb dX12_routeOn_67 (lv_at hl 2 rfl) ?_
            refine lv_icmp_lt (tgt := 139) hx hb dX12_routeOn_69 (by decide) (fun c_63 => ?_) (fun c_63 => ?_)
            · have c_63 : y62.toInt < r5.toInt := il_lt c_63
              refine lv_iinc (v := (v7_34 + 1)) (lv' := [(7, .int (v7_34 + 1)), (6, .int t8), (5, .int r5), (4, .int y4), (0, .ref (ad 0)), (1, .int 1), (2, .int vh), (3, .int vp)]) hx hb dX12_routeOn_139 hl (k := 0) rfl rfl (by decide) rfl (fun ls hl => ?_)
              refine loc_gen (P := fun w9 => lv_has ls 8 [(7, .int w9), (6, .int t8), (5, .int r5), (4, .int y4), (0, .ref (ad 0)), (1, .int 1), (2, .int vh), (3, .int vp)]) (v7_34 + 1) hl (fun w64 hw64 hl => ?_)
              have hl : lv_has ls 8 [(7, .int w64), (6, .int t8), (5, .int r5), (4, .int y4), (0, .ref (ad 0)), (1, .int 1), (2, .int vh), (3, .int vp)] := hl
              have aw64 : w64.toInt = v7_34.toInt + 1 := by rw [← hw64]; exact tI_add (rfl : v7_34.toInt = _) (rfl : (1 : Int32).toInt = 1) (by omega) (by omega)
              refine lv_goto (tgt := 34) hx hb dX12_routeOn_142 (by decide) ?_
              exact ih34 (w64) nu34_ _ _ _ (by omega) (by exact ⟨by omega, by omega⟩) (by have hb65 := congrArg Int32.toInt ey9; have hb66 := congrArg Int32.toInt ey10; have hb67 := congrArg Int32.toInt ey11; omega) ok hP   hS (lv_sub hl [0, 1, 2, 3, 4, 5, 6, 7] rfl)
            · have c_63 : r5.toInt ≤ y62.toInt := il_nlt c_63
              refine lv_aload_n hx hb dX12_routeOn_72 rfl (lv_at hl 4 rfl) ?_
              refine va_get (D := (dC, dI)) (ci := 12) (v := .ref (ad 16)) (C := RX12) (T := TX12) (N := 46) hx hb hts inG12 hown hK hP 0 (gM_0 cs ad nu34_) rfl 26 (by decide) (hts _ (List.mem_cons_of_mem _ mw_5_67)) (fun _ h9 => h9) rfl dX12_routeOn_73 ?_
              refine lv_iload_n hx hb dX12_routeOn_76 rfl (lv_at hl 5 rfl) ?_
              refine lv_iload hx hb dX12_routeOn_77 (lv_at hl 0 rfl) ?_
              refine va_iast hx hb hK hP (wR_D nu34_ hD) hS 16 0 (gM_16 cs ad nu34_) rfl (show vp_in 1 7 from (by unfold vp_in; decide)) dX12_routeOn_79 (fun H locs hP _ hS => ?_)
              refine wr_gen (upd (nu34_ 16) (1 : Int32).toNatClampNeg v7_34) hP (rfl) (fun nu68 hn68 hP => ?_)
              have ok := tM_16_s ok (1 : Int32).toNatClampNeg hn68 (by exact ⟨by omega, by omega⟩)
              have ez69 : y9 = nu68 0 39 := ey9.trans (congrFun (up_k hn68 (by decide)) 39).symm
              have ez70 : y10 = nu68 0 33 := ey10.trans (congrFun (up_k hn68 (by decide)) 33).symm
              have ez71 : y11 = nu68 0 35 := ey11.trans (congrFun (up_k hn68 (by decide)) 35).symm
              have ez72 : y12 = nu68 0 8 := ey12.trans (congrFun (up_k hn68 (by decide)) 8).symm
              have ez73 : y18 = nu68 0 38 := ey18.trans (congrFun (up_k hn68 (by decide)) 38).symm
              have ez74 : y62 = nu68 8 v7_34.toNatClampNeg := ey62.trans (congrFun (up_k hn68 (by decide)) v7_34.toNatClampNeg).symm
              refine lv_iload hx hb dX12_routeOn_80 (lv_at hl 0 rfl) ?_
              refine lv_aload_n hx hb dX12_routeOn_82 rfl (lv_at hl 4 rfl) ?_
              refine va_get (D := (dC, dI)) (ci := 12) (v := .int (nu68 0 29)) (C := RX12) (T := TX12) (N := 46) hx hb hts inG12 hown hK hP 0 (gM_0 cs ad nu68) rfl 29 (by decide) (hts _ (List.mem_cons_of_mem _ mw_5_70)) (fun _ h9 => h9) rfl dX12_routeOn_83 ?_
              refine lv_topi (fun y75 ey75 => ?_)
              have by75 : y75.toInt = (nu68 0 29).toInt := congrArg Int32.toInt ey75
              refine lv_icmp_ne (tgt := 113) hx hb dX12_routeOn_86 (by decide) (fun c_76 => ?_) (fun c_76 => ?_)
              · have c_76 : ¬ v7_34.toInt = y75.toInt := il_ne c_76
                refine lv_aload_n hx hb dX12_routeOn_113 rfl (lv_at hl 4 rfl) ?_
                refine va_get (D := (dC, dI)) (ci := 12) (v := .ref (ad 7)) (C := RX12) (T := TX12) (N := 46) hx hb hts inG12 hown hK hP 0 (gM_0 cs ad nu68) rfl 9 (by decide) (hts _ (List.mem_cons_of_mem _ mw_5_50)) (fun _ h9 => h9) rfl dX12_routeOn_114 ?_
                refine lv_iload hx hb dX12_routeOn_117 (lv_at hl 0 rfl) ?_
                refine va_iald hx hb hK hP 7 0 (gM_7 cs ad nu68) rfl (show vp_in v7_34 7 from vi_of (by omega) (by omega)) dX12_routeOn_119 ?_
                refine lv_topi (fun y77 ey77 => ?_)
                have by77 : y77.toInt = (nu68 7 v7_34.toNatClampNeg).toInt := congrArg Int32.toInt ey77
                refine lv_iconst (v := 3) hx hb dX12_routeOn_120 (by decide) ?_
                refine lv_icmp_eq (tgt := 139) hx hb dX12_routeOn_121 (by decide) (fun c_78 => ?_) (fun c_78 => ?_)
                · have c_78 : y77.toInt = 3 := il_eq c_78
                  refine lv_iinc (v := (v7_34 + 1)) (lv' := [(7, .int (v7_34 + 1)), (6, .int t8), (5, .int r5), (4, .int y4), (0, .ref (ad 0)), (1, .int 1), (2, .int vh), (3, .int vp)]) hx hb dX12_routeOn_139 hl (k := 0) rfl rfl (by decide) rfl (fun ls hl => ?_)
                  refine loc_gen (P := fun w9 => lv_has ls 8 [(7, .int w9), (6, .int t8), (5, .int r5), (4, .int y4), (0, .ref (ad 0)), (1, .int 1), (2, .int vh), (3, .int vp)]) (v7_34 + 1) hl (fun w79 hw79 hl => ?_)
                  have hl : lv_has ls 8 [(7, .int w79), (6, .int t8), (5, .int r5), (4, .int y4), (0, .ref (ad 0)), (1, .int 1), (2, .int vh), (3, .int vp)] := hl
                  have aw79 : w79.toInt = v7_34.toInt + 1 := by rw [← hw79]; exact tI_add (rfl : v7_34.toInt = _) (rfl : (1 : Int32).toInt = 1) (by omega) (by omega)
                  refine lv_goto (tgt := 34) hx hb dX12_routeOn_142 (by decide) ?_
                  exact ih34 (w79) nu68 _ _ _ (by omega) (by exact ⟨by omega, by omega⟩) (by have hb80 := congrArg Int32.toInt ez69; have hb81 := congrArg Int32.toInt ez70; have hb82 := congrArg Int32.toInt ez71; omega) ok hP   hS (lv_sub hl [0, 1, 2, 3, 4, 5, 6, 7] rfl)
                · have c_78 : ¬ y77.toInt = 3 := il_ne c_78
                  refine lv_aload_n hx hb dX12_routeOn_124 rfl (lv_at hl 4 rfl) ?_
                  refine lv_iload_n hx hb dX12_routeOn_125 rfl (lv_at hl 5 rfl) ?_
                  refine lv_iconst (v := 1) hx hb dX12_routeOn_126 (by decide) ?_
                  refine lv_iadd hx hb dX12_routeOn_127 ?_
                  refine lq_i 2 (by decide) ?_
                  refine lv_iload_n hx hb dX12_routeOn_128 rfl (lv_at hl 6 rfl) ?_
                  refine lv_iconst (v := 1) hx hb dX12_routeOn_129 (by decide) ?_
                  refine lv_iload hx hb dX12_routeOn_130 (lv_at hl 0 rfl) ?_
                  refine lv_ishl hx hb dX12_routeOn_132 ?_
                  refine lv_topi (fun t83 et83 => ?_)
                  refine lv_ior hx hb dX12_routeOn_133 ?_
                  refine lv_topi (fun t84 et84 => ?_)
                  refine lv_iload hx hb dX12_routeOn_134 (lv_at hl 2 rfl) ?_
                  have hFc := fr_all (wR_D nu68 hD) hS hA
                  refine va_callv (va_runV (As := [.int 2, .int t84, .int r5]) (rest := []) ⟨hx, hb, hml, hown, hts⟩ (sm_routeOn2 l dC dI cs ad nu68 ok H hP ((wR_D nu68 hD).weaken (fun _ _ _ _ => trivial)) t84 r5 (by have h50 : (2 : Int32).toInt = 2 := rfl; rw [et84, et83]; exact h7_next hin0 (by rw [et8, et7]) (by omega) (by omega) f17) (by have h50 : (2 : Int32).toInt = 2 := rfl; have hb85 := congrArg Int32.toInt ez69; have hb86 := congrArg Int32.toInt ez70; have hb87 := congrArg Int32.toInt ez71; omega)) (cwV 3 hts (wU_V mw_6_183 mw_6_180 mw_6_182 mw_0_55 mw_1_13) rfl rfl rfl (by decide +kernel) ⟨Nat.le_of_ble_eq_true rfl, Nat.le_of_ble_eq_true rfl⟩) ⟨sz_c, va_recv hK hP (ci := 12) (q0 := 0) rfl (gM_0 cs ad nu68), sz_m hK hz⟩ rfl rfl hl.1 rfl (lv_room (Nat.le_of_ble_eq_true rfl)) dX12_routeOn_136 ⟨Nat.zero_le _, Nat.zero_le _⟩) hS (fun q _ h => hFc q h) hFc (fun xi88 t H88 locs ht hvm hw88 hB hz1 hk1 hS => ?_)
                  have hP : va_P (dC, dI) vwCl (wR 21 ad (EM cs ad) xi88) H88 := by rw [← ht]; exact hB
                  obtain ⟨ok, hw88, _⟩ := hw88
                  obtain ⟨y89, ey89⟩ : ∃ z : Int32, z = xi88 0 39 := ⟨_, rfl⟩
                  have by89 : y89.toInt = (xi88 0 39).toInt := congrArg Int32.toInt ey89
                  have gy89 : -9 ≤ y89.toInt ∧ y89.toInt ≤ 3 := by rw [ey89]; exact rM_0_39 ok
                  obtain ⟨y90, ey90⟩ : ∃ z : Int32, z = xi88 0 33 := ⟨_, rfl⟩
                  have by90 : y90.toInt = (xi88 0 33).toInt := congrArg Int32.toInt ey90
                  obtain ⟨y91, ey91⟩ : ∃ z : Int32, z = xi88 0 35 := ⟨_, rfl⟩
                  have by91 : y91.toInt = (xi88 0 35).toInt := congrArg Int32.toInt ey91
                  have gr88 : ((xi88 0 39).toInt = -9 ∨ (0 ≤ (xi88 0 39).toInt ∧ (xi88 0 39).toInt ≤ 3)) ∧ ((xi88 0 33).toInt = 0 ∨ (xi88 0 35).toInt ≤ 7) := hw88
                  refine lv_iinc (v := (v7_34 + 1)) (lv' := [(7, .int (v7_34 + 1)), (6, .int t8), (5, .int r5), (4, .int y4), (0, .ref (ad 0)), (1, .int 1), (2, .int vh), (3, .int vp)]) hx hb dX12_routeOn_139 hl (k := 0) rfl rfl (by decide) rfl (fun ls hl => ?_)
                  refine loc_gen (P := fun w9 => lv_has ls 8 [(7, .int w9), (6, .int t8), (5, .int r5), (4, .int y4), (0, .ref (ad 0)), (1, .int 1), (2, .int vh), (3, .int vp)]) (v7_34 + 1) hl (fun w92 hw92 hl => ?_)
                  have hl : lv_has ls 8 [(7, .int w92), (6, .int t8), (5, .int r5), (4, .int y4), (0, .ref (ad 0)), (1, .int 1), (2, .int vh), (3, .int vp)] := hl
                  have aw92 : w92.toInt = v7_34.toInt + 1 := by rw [← hw92]; exact tI_add (rfl : v7_34.toInt = _) (rfl : (1 : Int32).toInt = 1) (by omega) (by omega)
                  refine lv_goto (tgt := 34) hx hb dX12_routeOn_142 (by decide) ?_
                  exact ih34 (w92) xi88 _ _ _ (by omega) (by exact ⟨by omega, by omega⟩) (by have hb93 := congrArg Int32.toInt ey89; have hb94 := congrArg Int32.toInt ey90; have hb95 := congrArg Int32.toInt ey91; omega) ok hP   hS (lv_sub hl [0, 1, 2, 3, 4, 5, 6, 7] rfl)
              · have c_76 : v7_34.toInt = y75.toInt := il_eq c_76
                refine lv_aload_n hx hb dX12_routeOn_89 rfl (lv_at hl 4 rfl) ?_
                refine lv_iload_n hx hb dX12_routeOn_90 rfl (lv_at hl 5 rfl) ?_
                refine lv_iconst (v := 1) hx hb dX12_routeOn_91 (by decide) ?_
                refine lv_iadd hx hb dX12_routeOn_92 ?_
                refine lq_i 2 (by decide) ?_
                refine lv_iload_n hx hb dX12_routeOn_93 rfl (lv_at hl 6 rfl) ?_
                refine lv_iconst (v := 1) hx hb dX12_routeOn_94 (by decide) ?_
                refine lv_aload_n hx hb dX12_routeOn_95 rfl (lv_at hl 4 rfl) ?_
                refine va_get (D := (dC, dI)) (ci := 12) (v := .ref (ad 16)) (C := RX12) (T := TX12) (N := 46) hx hb hts inG12 hown hK hP 0 (gM_0 cs ad nu68) rfl 26 (by decide) (hts _ (List.mem_cons_of_mem _ mw_5_67)) (fun _ h9 => h9) rfl dX12_routeOn_96 ?_
                refine lv_iconst (v := 0) hx hb dX12_routeOn_99 (by decide) ?_
                refine va_iald hx hb hK hP 16 0 (gM_16 cs ad nu68) rfl (show vp_in 0 7 from (by unfold vp_in; decide)) dX12_routeOn_100 ?_
                refine lv_topi (fun y96 ey96 => ?_)
                have by96 : y96.toInt = (nu68 16 (0 : Int32).toNatClampNeg).toInt := congrArg Int32.toInt ey96
                have gy96 : 0 ≤ y96.toInt ∧ y96.toInt ≤ 6 := by rw [ey96]; exact rM_16_s ok (0 : Int32).toNatClampNeg
                refine lv_ishl hx hb dX12_routeOn_101 ?_
                refine lv_topi (fun t97 et97 => ?_)
                refine lv_iconst (v := (-1)) hx hb dX12_routeOn_102 (by decide) ?_
                refine lv_ixor hx hb dX12_routeOn_103 ?_
                refine lv_topi (fun t98 et98 => ?_)
                refine lv_iand hx hb dX12_routeOn_104 ?_
                refine lv_topi (fun t99 et99 => ?_)
                refine lv_iload hx hb dX12_routeOn_105 (lv_at hl 2 rfl) ?_
                have hFc := fr_all (wR_D nu68 hD) hS hA
                refine va_callv (va_runV (As := [.int 2, .int t99, .int r5]) (rest := []) ⟨hx, hb, hml, hown, hts⟩ (sm_meetRoute l dC dI cs ad nu68 ok H hP ((wR_D nu68 hD).weaken (fun _ _ _ _ => trivial)) 2 t99 r5 (by have h50 : (2 : Int32).toInt = 2 := rfl; omega) (by have h50 : (2 : Int32).toInt = 2 := rfl; have hb100 := congrArg Int32.toInt ez69; have hb101 := congrArg Int32.toInt ez70; have hb102 := congrArg Int32.toInt ez71; omega)) (cwV 3 hts (wU_V mw_6_187 mw_6_184 mw_6_186 mw_0_56 mw_1_13) rfl rfl rfl (by decide +kernel) ⟨Nat.le_of_ble_eq_true rfl, Nat.le_of_ble_eq_true rfl⟩) ⟨sz_c, va_recv hK hP (ci := 12) (q0 := 0) rfl (gM_0 cs ad nu68), sz_m hK hz⟩ rfl rfl hl.1 rfl (lv_room (Nat.le_of_ble_eq_true rfl)) dX12_routeOn_107 ⟨Nat.zero_le _, Nat.zero_le _⟩) hS (fun q _ h => hFc q h) hFc (fun xi103 t H103 locs ht hvm hw103 hB hz1 hk1 hS => ?_)
                have hP : va_P (dC, dI) vwCl (wR 21 ad (EM cs ad) xi103) H103 := by rw [← ht]; exact hB
                obtain ⟨ok, hw103, _⟩ := hw103
                obtain ⟨y104, ey104⟩ : ∃ z : Int32, z = xi103 0 39 := ⟨_, rfl⟩
                have by104 : y104.toInt = (xi103 0 39).toInt := congrArg Int32.toInt ey104
                have gy104 : -9 ≤ y104.toInt ∧ y104.toInt ≤ 3 := by rw [ey104]; exact rM_0_39 ok
                obtain ⟨y105, ey105⟩ : ∃ z : Int32, z = xi103 0 33 := ⟨_, rfl⟩
                have by105 : y105.toInt = (xi103 0 33).toInt := congrArg Int32.toInt ey105
                obtain ⟨y106, ey106⟩ : ∃ z : Int32, z = xi103 0 35 := ⟨_, rfl⟩
                have by106 : y106.toInt = (xi103 0 35).toInt := congrArg Int32.toInt ey106
                have gr103 : ((xi103 0 39).toInt = -9 ∨ (0 ≤ (xi103 0 39).toInt ∧ (xi103 0 39).toInt ≤ 3)) ∧ ((xi103 0 33).toInt = 0 ∨ (xi103 0 35).toInt ≤ 7) := hw103
                refine lv_goto (tgt := 139) hx hb dX12_routeOn_110 (by decide) ?_
                refine lv_iinc (v := (v7_34 + 1)) (lv' := [(7, .int (v7_34 + 1)), (6, .int t8), (5, .int r5), (4, .int y4), (0, .ref (ad 0)), (1, .int 1), (2, .int vh), (3, .int vp)]) hx hb dX12_routeOn_139 hl (k := 0) rfl rfl (by decide) rfl (fun ls hl => ?_)
                refine loc_gen (P := fun w9 => lv_has ls 8 [(7, .int w9), (6, .int t8), (5, .int r5), (4, .int y4), (0, .ref (ad 0)), (1, .int 1), (2, .int vh), (3, .int vp)]) (v7_34 + 1) hl (fun w107 hw107 hl => ?_)
                have hl : lv_has ls 8 [(7, .int w107), (6, .int t8), (5, .int r5), (4, .int y4), (0, .ref (ad 0)), (1, .int 1), (2, .int vh), (3, .int vp)] := hl
                have aw107 : w107.toInt = v7_34.toInt + 1 := by rw [← hw107]; exact tI_add (rfl : v7_34.toInt = _) (rfl : (1 : Int32).toInt = 1) (by omega) (by omega)
                refine lv_goto (tgt := 34) hx hb dX12_routeOn_142 (by decide) ?_
                exact ih34 (w107) xi103 _ _ _ (by omega) (by exact ⟨by omega, by omega⟩) (by have hb108 := congrArg Int32.toInt ey104; have hb109 := congrArg Int32.toInt ey105; have hb110 := congrArg Int32.toInt ey106; omega) ok hP   hS (lv_sub hl [0, 1, 2, 3, 4, 5, 6, 7] rfl)
        · have f17 : ¬ rb t8 v7_34 = 1 := f17
          refine lv_if_eq (tgt := 139) hx hb dX12_routeOn_50 (by decide) (fun _ => ?_) (fun c => absurd (by decide) c)
          refine lv_iinc (v := (v7_34 + 1)) (lv' := [(7, .int (v7_34 + 1)), (6, .int t8), (5, .int r5), (4, .int y4), (0, .ref (ad 0)), (1, .int 1), (2, .int vh), (3, .int vp)]) hx hb dX12_routeOn_139 hl (k := 0) rfl rfl (by decide) rfl (fun ls hl => ?_)
          refine loc_gen (P := fun w9 => lv_has ls 8 [(7, .int w9), (6, .int t8), (5, .int r5), (4, .int y4), (0, .ref (ad 0)), (1, .int 1), (2, .int vh), (3, .int vp)]) (v7_34 + 1) hl (fun w111 hw111 hl => ?_)
          have hl : lv_has ls 8 [(7, .int w111), (6, .int t8), (5, .int r5), (4, .int y4), (0, .ref (ad 0)), (1, .int 1), (2, .int vh), (3, .int vp)] := hl
          have aw111 : w111.toInt = v7_34.toInt + 1 := by rw [← hw111]; exact tI_add (rfl : v7_34.toInt = _) (rfl : (1 : Int32).toInt = 1) (by omega) (by omega)
          refine lv_goto (tgt := 34) hx hb dX12_routeOn_142 (by decide) ?_
          exact ih34 (w111) nu34_ _ _ _ (by omega) (by exact ⟨by omega, by omega⟩) (by have hb112 := congrArg Int32.toInt ey9; have hb113 := congrArg Int32.toInt ey10; have hb114 := congrArg Int32.toInt ey11; omega) ok hP   hS (lv_sub hl [0, 1, 2, 3, 4, 5, 6, 7] rfl)
  exact loop34 ((7 + 1 - (0 : Int32).toInt).toNat + 1) (0) mu _ _ _ (Nat.lt_succ_self _) (by have h80 : (0 : Int32).toInt = 0 := rfl; exact ⟨by omega, by omega⟩) (by have h80 : (0 : Int32).toInt = 0 := rfl; have hb115 := congrArg Int32.toInt ey1; have hb116 := congrArg Int32.toInt ey2; have hb117 := congrArg Int32.toInt ey3; omega) ok hP   hS hl
