set_option maxHeartbeats 4000000 in
set_option maxRecDepth 100000 in
/-- sm_routeOn7 -/
theorem sm_routeOn7 (l : Launch) (dC : Nat → ClassId) (dI : Nat → Nat → Nat) (cs : Nat → ClassId) (ad : Nat → Nat) (mu : Nat → Nat → Int32) (ok : okR loM hiM mu) (H : Heap) (hP : va_P (dC, dI) vwCl (wR 21 ad (EM cs ad) mu) H) (hD0 : va_D (fun _ => True) (wR 21 ad (EM cs ad) mu)) (vh : Int32) (vp : Int32) (hin0 : h7 7 vh) (hin1 : ((mu 0 39).toInt = -9 ∨ (0 ≤ (mu 0 39).toInt ∧ (mu 0 39).toInt ≤ 3)) ∧ ((mu 0 33).toInt = 0 ∨ (mu 0 35).toInt ≤ 7)) : Met l yX12_routeOn (wU yX12_routeOn cX12_routeOn 8 none) ({ frames := 2, cells := 0, slots := 0, locals := 46 }) (va_Pc [.ref (ad 0), .int 7, .int vh, .int vp] (sz_P (dC, dI) vwCl (tyM cs) H)) (va_Qv (fun (xi : Nat → Nat → Int32) => okR loM hiM xi ∧ (((xi 0 39).toInt = -9 ∨ (0 ≤ (xi 0 39).toInt ∧ (xi 0 39).toInt ≤ 3)) ∧ ((xi 0 33).toInt = 0 ∨ (xi 0 35).toInt ≤ 7)) ∧ (∀ k f : Nat, Nat.testBit 510 (gpM k f) = true → xi k f = mu k f)) (fun xi t => va_P (dC, dI) vwCl (wR 21 ad (EM cs ad) xi) t.heap) (va_A (wR 21 ad (EM cs ad) mu) H.size)) 0 0 (va_A (wR 21 ad (EM cs ad) mu) H.size) := by
  refine Met.ofW (cc := cX12_routeOn) (maxL := 8) (ret := none) (by decide) rfl ?_
  intro p e s m args below meth c s₁ B hml hv
  obtain ⟨rfl, hh, hK, hz⟩ := hv
  have hx := B.exec
  have hb := B.bytes
  have hr := B.returns
  have hts := atoms_spec (ws := (wU yX12_routeOn cX12_routeOn 8 none)) B.pre
  have hown : s.vm.findClass RX12 = some m.cls := findClass_of_methodNamed B.named
  have hlocks := B.notSynchronized
  subst hh
  have hD := hD0.self (sz := s.heap.size)
  have hA : ∀ q : Nat, s.heap.size ≤ q → (va_A (wR 21 ad (EM cs ad) mu) s.heap.size) q := fun q h => Or.inr h
  have hS : va_S (va_A (wR 21 ad (EM cs ad) mu) s.heap.size) s.heap s.heap [] := va_S.rf
  have hl := lv_entry ([.ref (ad 0), .int 7, .int vh, .int vp]) (n := 8) (Nat.le_of_ble_eq_true rfl)
  rw [lg_entry_eq]
  generalize (lg_sl ([.ref (ad 0), .int 7, .int vh, .int vp]) ++ List.replicate (8 - (lg_sl ([.ref (ad 0), .int 7, .int vh, .int vp])).length) Slot.unset).toArray = ls at hl ⊢
  have hl : lv_has ls 8 [(0, .ref (ad 0)), (1, .int 7), (2, .int vh), (3, .int vp)] := hl
  obtain ⟨y1, ey1⟩ : ∃ z : Int32, z = mu 0 39 := ⟨_, rfl⟩
  have by1 : y1.toInt = (mu 0 39).toInt := congrArg Int32.toInt ey1
  have gy1 : -9 ≤ y1.toInt ∧ y1.toInt ≤ 3 := by rw [ey1]; exact rM_0_39 ok
  obtain ⟨y2, ey2⟩ : ∃ z : Int32, z = mu 0 33 := ⟨_, rfl⟩
  have by2 : y2.toInt = (mu 0 33).toInt := congrArg Int32.toInt ey2
  obtain ⟨y3, ey3⟩ : ∃ z : Int32, z = mu 0 35 := ⟨_, rfl⟩
  have by3 : y3.toInt = (mu 0 35).toInt := congrArg Int32.toInt ey3
  refine lv_aload_n hx hb dX12_routeOn_0 rfl (lv_at hl 0 rfl) ?_
  refine va_get (D := (dC, dI)) (ci := 12) (v := .ref (ad 16)) (C := RX12) (T := TX12) (N := 46) hx hb hts inG12 hown hK hP 0 (gM_0 cs ad mu) rfl 26 (by decide) (hts _ (List.mem_cons_of_mem _ mw_5_67)) (fun _ h9 => h9) rfl dX12_routeOn_1 ?_
  refine lv_iload_n hx hb dX12_routeOn_4 rfl (lv_at hl 1 rfl) ?_
  refine lv_iconst (v := 1) hx hb dX12_routeOn_5 (by decide) ?_
  refine lv_isub hx hb dX12_routeOn_6 ?_
  refine lq_i 6 (by decide) ?_
  refine va_iald hx hb hK hP 16 0 (gM_16 cs ad mu) rfl (show vp_in 6 7 from (by unfold vp_in; decide)) dX12_routeOn_7 ?_
  refine lv_topi (fun y4 ey4 => ?_)
  have by4 : y4.toInt = (mu 16 (6 : Int32).toNatClampNeg).toInt := congrArg Int32.toInt ey4
  have gy4 : 0 ≤ y4.toInt ∧ y4.toInt ≤ 6 := by rw [ey4]; exact rM_16_s ok (6 : Int32).toNatClampNeg
  refine lv_istore (lv' := [(4, .int y4), (0, .ref (ad 0)), (1, .int 7), (2, .int vh), (3, .int vp)]) hx hb dX12_routeOn_8 hl (by decide) rfl (fun ls hl => ?_)
  refine lv_aload_n hx hb dX12_routeOn_10 rfl (lv_at hl 1 rfl) ?_
  refine lv_iload hx hb dX12_routeOn_11 (lv_at hl 0 rfl) ?_
  refine lv_iload_n hx hb dX12_routeOn_13 rfl (lv_at hl 4 rfl) ?_
  refine cr_i (va_runV (As := [.int y4, .int vp]) (rest := []) ⟨hx, hb, hml, hown, hts⟩ (sm_asksOf l dC dI cs ad mu ok s.heap hP y4 vp (by omega)) (cwV 2 hts (wU_V mw_6_74 mw_6_71 mw_6_73 mw_0_42 mw_1_13) rfl rfl rfl (by decide +kernel) ⟨Nat.le_of_ble_eq_true rfl, Nat.le_of_ble_eq_true rfl⟩) ⟨sz_c, va_recv hK hP (ci := 12) (q0 := 0) rfl (gM_0 cs ad mu), sz_m hK hz⟩ rfl rfl hl.1 rfl (lv_room (Nat.le_of_ble_eq_true rfl)) dX12_routeOn_14 ⟨Nat.zero_le _, Nat.zero_le _⟩) hS (fun r5 hw5 locs hS => ?_)
  obtain ⟨hfe5, hw5⟩ := hw5
  refine lv_istore (lv' := [(5, .int r5), (4, .int y4), (0, .ref (ad 0)), (1, .int 7), (2, .int vh), (3, .int vp)]) hx hb dX12_routeOn_17 hl (by decide) rfl (fun ls hl => ?_)
  refine lv_aload_n hx hb dX12_routeOn_19 rfl (lv_at hl 2 rfl) ?_
  refine lv_iload hx hb dX12_routeOn_20 (lv_at hl 1 rfl) ?_
  refine cr_i (va_runV (As := [.int y4]) (rest := []) ⟨hx, hb, hml, hown, hts⟩ (sm_besideOf l dC dI cs ad mu ok s.heap hP y4) (cwV 1 hts (wU_V mw_6_56 mw_6_53 mw_6_55 mw_0_40 mw_1_13) rfl rfl rfl (by decide +kernel) ⟨Nat.le_of_ble_eq_true rfl, Nat.le_of_ble_eq_true rfl⟩) ⟨sz_c, va_recv hK hP (ci := 12) (q0 := 0) rfl (gM_0 cs ad mu), sz_m hK hz⟩ rfl rfl hl.1 rfl (lv_room (Nat.le_of_ble_eq_true rfl)) dX12_routeOn_22 ⟨Nat.zero_le _, Nat.zero_le _⟩) hS (fun r6 hw6 locs hS => ?_)
  obtain ⟨hfe6, hw6⟩ := hw6
  refine lv_iload_n hx hb dX12_routeOn_25 rfl (lv_at hl 4 rfl) ?_
  refine lv_iconst (v := (-1)) hx hb dX12_routeOn_26 (by decide) ?_
  refine lv_ixor hx hb dX12_routeOn_27 ?_
  refine lv_topi (fun t7 et7 => ?_)
  refine lv_iand hx hb dX12_routeOn_28 ?_
  refine lv_topi (fun t8 et8 => ?_)
  refine lv_istore (lv' := [(6, .int t8), (5, .int r5), (4, .int y4), (0, .ref (ad 0)), (1, .int 7), (2, .int vh), (3, .int vp)]) hx hb dX12_routeOn_29 hl (by decide) rfl (fun ls hl => ?_)
  refine lv_iconst (v := 0) hx hb dX12_routeOn_31 (by decide) ?_
  refine lv_istore (lv' := [(7, .int 0), (6, .int t8), (5, .int r5), (4, .int y4), (0, .ref (ad 0)), (1, .int 7), (2, .int vh), (3, .int vp)]) hx hb dX12_routeOn_32 hl (by decide) rfl (fun ls hl => ?_)
  have loop34 : ∀ (n34 : Nat) (v7_34 : Int32) (nu34_ : Nat → Nat → Int32) (H : Heap) (locs : List Loc) (ls : Array Slot), (7 + 1 - v7_34.toInt).toNat < n34 → (0 ≤ v7_34.toInt ∧ v7_34.toInt ≤ 7) → (((nu34_ 0 39).toInt = -9 ∨ (0 ≤ (nu34_ 0 39).toInt ∧ (nu34_ 0 39).toInt ≤ 3)) ∧ ((nu34_ 0 33).toInt = 0 ∨ (nu34_ 0 35).toInt ≤ 7)) → okR loM hiM nu34_ → va_P (dC, dI) vwCl (wR 21 ad (EM cs ad) nu34_) H → (∀ k f : Nat, Nat.testBit 510 (gpM k f) = true → nu34_ k f = mu k f) → va_S (va_A (wR 21 ad (EM cs ad) mu) s.heap.size) s.heap H locs → lv_has ls 8 [(7, .int v7_34), (6, .int t8), (5, .int r5), (4, .int y4), (0, .ref (ad 0)), (1, .int 7), (2, .int vh), (3, .int vp)] → W p l e (headSpec (wU yX12_routeOn cX12_routeOn 8 none) ({ frames := 2, cells := 0, slots := 0, locals := 46 })).room s m ([.ref (ad 0), .int 7, .int vh, .int vp] : List Value).toArray below meth c H locs 0 0 (MQ below (va_Qv (fun (xi : Nat → Nat → Int32) => okR loM hiM xi ∧ (((xi 0 39).toInt = -9 ∨ (0 ≤ (xi 0 39).toInt ∧ (xi 0 39).toInt ≤ 3)) ∧ ((xi 0 33).toInt = 0 ∨ (xi 0 35).toInt ≤ 7)) ∧ (∀ k f : Nat, Nat.testBit 510 (gpM k f) = true → xi k f = mu k f)) (fun xi t => va_P (dC, dI) vwCl (wR 21 ad (EM cs ad) xi) t.heap) (va_A (wR 21 ad (EM cs ad) mu) s.heap.size)) ([.ref (ad 0), .int 7, .int vh, .int vp] : List Value).toArray s 0 0 (va_A (wR 21 ad (EM cs ad) mu) s.heap.size)) (F0 m 34 ls []) := by
    intro n34
    induction n34 with
    | zero => intro v7_34 nu34_ H locs ls hm; exact absurd hm (Nat.not_lt_zero _)
    | succ n34 ih34 =>
      intro v7_34 nu34_ H locs ls hm h_v7_34 hi34_0 ok hP kq34_0 hS hl
      obtain ⟨y9, ey9⟩ : ∃ z : Int32, z = nu34_ 0 39 := ⟨_, rfl⟩
      have by9 : y9.toInt = (nu34_ 0 39).toInt := congrArg Int32.toInt ey9
      have gy9 : -9 ≤ y9.toInt ∧ y9.toInt ≤ 3 := by rw [ey9]; exact rM_0_39 ok
      obtain ⟨y10, ey10⟩ : ∃ z : Int32, z = nu34_ 0 33 := ⟨_, rfl⟩
      have by10 : y10.toInt = (nu34_ 0 33).toInt := congrArg Int32.toInt ey10
      obtain ⟨y11, ey11⟩ : ∃ z : Int32, z = nu34_ 0 35 := ⟨_, rfl⟩
      have by11 : y11.toInt = (nu34_ 0 35).toInt := congrArg Int32.toInt ey11
      refine lv_iload hx hb dX12_routeOn_34 (lv_at hl 0 rfl) ?_
      refine lv_aload_n hx hb dX12_routeOn_36 rfl (lv_at hl 4 rfl) ?_
      refine va_get (D := (dC, dI)) (ci := 12) (v := .int (nu34_ 0 8)) (C := RX12) (T := TX12) (N := 46) hx hb hts inG12 hown hK hP 0 (gM_0 cs ad nu34_) rfl 8 (by decide) (hts _ (List.mem_cons_of_mem _ mw_5_49)) (fun _ h9 => h9) rfl dX12_routeOn_37 ?_
      refine lv_topi (fun y12 ey12 => ?_)
      have by12 : y12.toInt = (nu34_ 0 8).toInt := congrArg Int32.toInt ey12
      have gy12 : 0 ≤ y12.toInt ∧ y12.toInt ≤ 7 := by rw [ey12]; exact rM_0_8 ok
      refine lv_icmp_ge (tgt := 145) hx hb dX12_routeOn_40 (by decide) (fun c_13 => ?_) (fun c_13 => ?_)
      · have c_13 : y12.toInt ≤ v7_34.toInt := il_le c_13
        exact W.vret hx hb hr (fun t ht hW => ⟨⟨nu34_, rfl, ⟨ok, (by have hb14 := congrArg Int32.toInt ey9; have hb15 := congrArg Int32.toInt ey10; have hb16 := congrArg Int32.toInt ey11; omega), kq34_0⟩, by first | (subst ht; exact hP) | (rw [ht]; exact hP) | (show va_P (dC, dI) vwCl (wR 21 ad (EM cs ad) nu34_) t.heap; rw [ht]; exact hP)⟩, hS.F ht⟩) hS.2.2 dX12_routeOn_145
      · have c_13 : v7_34.toInt < y12.toInt := il_nle c_13
        refine lv_iload hx hb dX12_routeOn_43 (lv_at hl 1 rfl) ?_
        refine lv_iload hx hb dX12_routeOn_45 (lv_at hl 0 rfl) ?_
        refine cr_i (va_runS (As := [.int t8, .int v7_34]) (rest := []) ⟨hx, hb, hml, hown, hts⟩ (sm_has l dC dI (tyM cs) H t8 v7_34) (va_cwS 2 hts (wU_S mw_6_59 mw_6_57 mw_6_58 mw_1_13) rfl rfl rfl (by decide +kernel) ⟨Nat.le_of_ble_eq_true rfl, Nat.le_of_ble_eq_true rfl⟩) ⟨sz_c, sz_m hK hz⟩ rfl rfl hl.1 rfl (lv_room (Nat.le_of_ble_eq_true rfl)) dX12_routeOn_47 ⟨Nat.zero_le _, Nat.zero_le _⟩) hS (fun r17 hw17 locs hS => ?_)
        obtain ⟨hfe17, hw17⟩ := hw17
        rcases hw17 with ⟨rfl, f17⟩ | ⟨rfl, f17⟩
        · have f17 : rb t8 v7_34 = 1 := f17
          refine lv_if_eq (tgt := 139) hx hb dX12_routeOn_50 (by decide) (fun c => absurd c (by decide)) (fun _ => ?_)
          exact absurd (h7_full hin0 (by rw [et8, et7]) (x := v7_34) (by omega) (by omega) f17) (by decide)
        · have f17 : ¬ rb t8 v7_34 = 1 := f17
          refine lv_if_eq (tgt := 139) hx hb dX12_routeOn_50 (by decide) (fun _ => ?_) (fun c => absurd (by decide) c)
          refine lv_iinc (v := (v7_34 + 1)) (lv' := [(7, .int (v7_34 + 1)), (6, .int t8), (5, .int r5), (4, .int y4), (0, .ref (ad 0)), (1, .int 7), (2, .int vh), (3, .int vp)]) hx hb dX12_routeOn_139 hl (k := 0) rfl rfl (by decide) rfl (fun ls hl => ?_)
          refine loc_gen (P := fun w9 => lv_has ls 8 [(7, .int w9), (6, .int t8), (5, .int r5), (4, .int y4), (0, .ref (ad 0)), (1, .int 7), (2, .int vh), (3, .int vp)]) (v7_34 + 1) hl (fun w18 hw18 hl => ?_)
          have hl : lv_has ls 8 [(7, .int w18), (6, .int t8), (5, .int r5), (4, .int y4), (0, .ref (ad 0)), (1, .int 7), (2, .int vh), (3, .int vp)] := hl
          have aw18 : w18.toInt = v7_34.toInt + 1 := by rw [← hw18]; exact tI_add (rfl : v7_34.toInt = _) (rfl : (1 : Int32).toInt = 1) (by omega) (by omega)
          refine lv_goto (tgt := 34) hx hb dX12_routeOn_142 (by decide) ?_
          exact ih34 (w18) nu34_ _ _ _ (by omega) (by exact ⟨by omega, by omega⟩) (by have hb19 := congrArg Int32.toInt ey9; have hb20 := congrArg Int32.toInt ey10; have hb21 := congrArg Int32.toInt ey11; omega) ok hP  kq34_0 hS (lv_sub hl [0, 1, 2, 3, 4, 5, 6, 7] rfl)
  exact loop34 ((7 + 1 - (0 : Int32).toInt).toNat + 1) (0) mu _ _ _ (Nat.lt_succ_self _) (by have h80 : (0 : Int32).toInt = 0 := rfl; exact ⟨by omega, by omega⟩) (by have h80 : (0 : Int32).toInt = 0 := rfl; have hb22 := congrArg Int32.toInt ey1; have hb23 := congrArg Int32.toInt ey2; have hb24 := congrArg Int32.toInt ey3; omega) ok hP  (fun _ _ _ => rfl) hS hl
