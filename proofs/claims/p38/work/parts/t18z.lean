set_option maxHeartbeats 4000000 in
set_option maxRecDepth 100000 in
/-- sm_routeOn7 -/
theorem sm_routeOn7 (l : Launch) (dC : Nat → ClassId) (dI : Nat → Nat → Nat) (cs : Nat → ClassId) (ad : Nat → Nat) (mu : Nat → Nat → Int32) (ok : okR loM hiM mu) (H : Heap) (hP : va_P (dC, dI) vwCl (wR 21 ad (EM cs ad) mu) H) (hD0 : va_D (fun _ => True) (wR 21 ad (EM cs ad) mu)) (vh : Int32) (vp : Int32) (hin0 : h7 7 vh) (hin1 : ((mu 0 39).toInt = -9 ∨ (0 ≤ (mu 0 39).toInt ∧ (mu 0 39).toInt ≤ 3)) ∧ ((mu 0 33).toInt = 0 ∨ (mu 0 35).toInt ≤ 7)) : Met l yX12_routeOn (wU yX12_routeOn cX12_routeOn 8 none) ({ frames := 2, cells := 0, slots := 0, locals := 46 }) (va_Pc [.ref (ad 0), .int 7, .int vh, .int vp] (sz_P (dC, dI) vwCl (tyM cs) H)) (va_Qv (fun (xi : Nat → Nat → Int32) => xi = F_sm_routeOn7 mu vh vp ∧ okR loM hiM xi ∧ (((xi 0 39).toInt = -9 ∨ (0 ≤ (xi 0 39).toInt ∧ (xi 0 39).toInt ≤ 3)) ∧ ((xi 0 33).toInt = 0 ∨ (xi 0 35).toInt ≤ 7)) ∧ (∀ k f : Nat, Nat.testBit 510 (gpM k f) = true → xi k f = mu k f)) (fun xi t => va_P (dC, dI) vwCl (wR 21 ad (EM cs ad) xi) t.heap) (va_A (wR 21 ad (EM cs ad) mu) H.size)) 0 0 (va_A (wR 21 ad (EM cs ad) mu) H.size) := by
  refine Met.ofW (cc := cX12_routeOn) (maxL := 8) (ret := none) (by decide) rfl ?_
  intro p e s m args below meth c s₁ B hml hv
  obtain ⟨rfl, hh, hK, hz⟩ := hv
  have hx := B.exec
  have hb := B.bytes
  have hr := B.returns
  have hts := atoms_spec (ws := (wU yX12_routeOn cX12_routeOn 8 none)) B.pre
  have hown : s.vm.findClass RX12 = some m.cls := findClass_of_methodNamed B.named
  have hlocks := B.notSynchronized
  subst hh
  have hD := hD0.self (sz := s.heap.size)
  have hA : ∀ q : Nat, s.heap.size ≤ q → (va_A (wR 21 ad (EM cs ad) mu) s.heap.size) q := fun q h => Or.inr h
  have hS : va_S (va_A (wR 21 ad (EM cs ad) mu) s.heap.size) s.heap s.heap [] := va_S.rf
  have hl := lv_entry ([.ref (ad 0), .int 7, .int vh, .int vp]) (n := 8) (Nat.le_of_ble_eq_true rfl)
  rw [lg_entry_eq]
  generalize (lg_sl ([.ref (ad 0), .int 7, .int vh, .int vp]) ++ List.replicate (8 - (lg_sl ([.ref (ad 0), .int 7, .int vh, .int vp])).length) Slot.unset).toArray = ls at hl ⊢
  have hl : lv_has ls 8 [(0, .ref (ad 0)), (1, .int 7), (2, .int vh), (3, .int vp)] := hl
  obtain ⟨fz, hfz⟩ : ∃ z, F_sm_routeOn7 mu vh vp = z := ⟨_, rfl⟩
  have hF := hfz
  unfold F_sm_routeOn7 at hF
  obtain ⟨y1, ey1⟩ : ∃ z : Int32, z = mu 0 39 := ⟨_, rfl⟩
  have hF := mi_let hF ey1
  have by1 : y1.toInt = (mu 0 39).toInt := congrArg Int32.toInt ey1
  have gy1 : -9 ≤ y1.toInt ∧ y1.toInt ≤ 3 := by rw [ey1]; exact rM_0_39 ok
  obtain ⟨y2, ey2⟩ : ∃ z : Int32, z = mu 0 33 := ⟨_, rfl⟩
  have hF := mi_let hF ey2
  have by2 : y2.toInt = (mu 0 33).toInt := congrArg Int32.toInt ey2
  obtain ⟨y3, ey3⟩ : ∃ z : Int32, z = mu 0 35 := ⟨_, rfl⟩
  have hF := mi_let hF ey3
  have by3 : y3.toInt = (mu 0 35).toInt := congrArg Int32.toInt ey3
  refine lv_aload_n hx hb dX12_routeOn_0 rfl (lv_at hl 0 rfl) ?_
  refine va_get (D := (dC, dI)) (ci := 12) (v := .ref (ad 16)) (C := RX12) (T := TX12) (N := 46) hx hb hts inG12 hown hK hP 0 (gM_0 cs ad mu) rfl 26 (by decide) (hts _ (List.mem_cons_of_mem _ mw_5_67)) (fun _ h9 => h9) rfl dX12_routeOn_1 ?_
  refine lv_iload_n hx hb dX12_routeOn_4 rfl (lv_at hl 1 rfl) ?_
  refine lv_iconst (v := 1) hx hb dX12_routeOn_5 (by decide) ?_
  refine lv_isub hx hb dX12_routeOn_6 ?_
  refine lq_i 6 (by decide) ?_
  refine va_iald hx hb hK hP 16 0 (gM_16 cs ad mu) rfl (show vp_in 6 7 from (by unfold vp_in; decide)) dX12_routeOn_7 ?_
  refine lv_topi (fun y4 ey4 => ?_)
  have hF := mi_let hF ey4
  have by4 : y4.toInt = (mu 16 (6 : Int32).toNatClampNeg).toInt := congrArg Int32.toInt ey4
  have gy4 : 0 ≤ y4.toInt ∧ y4.toInt ≤ 6 := by rw [ey4]; exact rM_16_s ok (6 : Int32).toNatClampNeg
  refine lv_istore (lv' := [(4, .int y4), (0, .ref (ad 0)), (1, .int 7), (2, .int vh), (3, .int vp)]) hx hb dX12_routeOn_8 hl (by decide) rfl (fun ls hl => ?_)
  refine lv_aload_n hx hb dX12_routeOn_10 rfl (lv_at hl 1 rfl) ?_
  refine lv_iload hx hb dX12_routeOn_11 (lv_at hl 0 rfl) ?_
  refine lv_iload_n hx hb dX12_routeOn_13 rfl (lv_at hl 4 rfl) ?_
  refine cr_i (va_runV (As := [.int y4, .int vp]) (rest := []) ⟨hx, hb, hml, hown, hts⟩ (sm_asksOf l dC dI cs ad mu ok s.heap hP y4 vp (by omega)) (cwV 2 hts (wU_V mw_6_74 mw_6_71 mw_6_73 mw_0_42 mw_1_13) rfl rfl rfl (by decide +kernel) ⟨Nat.le_of_ble_eq_true rfl, Nat.le_of_ble_eq_true rfl⟩) ⟨sz_c, va_recv hK hP (ci := 12) (q0 := 0) rfl (gM_0 cs ad mu), sz_m hK hz⟩ rfl rfl hl.1 rfl (lv_room (Nat.le_of_ble_eq_true rfl)) dX12_routeOn_14 ⟨Nat.zero_le _, Nat.zero_le _⟩) hS (fun r5 hw5 locs hS => ?_)
  obtain ⟨hfe5, hw5⟩ := hw5
  have hF := mi_let hF hfe5
  refine lv_istore (lv' := [(5, .int r5), (4, .int y4), (0, .ref (ad 0)), (1, .int 7), (2, .int vh), (3, .int vp)]) hx hb dX12_routeOn_17 hl (by decide) rfl (fun ls hl => ?_)
  refine lv_aload_n hx hb dX12_routeOn_19 rfl (lv_at hl 2 rfl) ?_
  refine lv_iload hx hb dX12_routeOn_20 (lv_at hl 1 rfl) ?_
  refine cr_i (va_runV (As := [.int y4]) (rest := []) ⟨hx, hb, hml, hown, hts⟩ (sm_besideOf l dC dI cs ad mu ok s.heap hP y4) (cwV 1 hts (wU_V mw_6_56 mw_6_53 mw_6_55 mw_0_40 mw_1_13) rfl rfl rfl (by decide +kernel) ⟨Nat.le_of_ble_eq_true rfl, Nat.le_of_ble_eq_true rfl⟩) ⟨sz_c, va_recv hK hP (ci := 12) (q0 := 0) rfl (gM_0 cs ad mu), sz_m hK hz⟩ rfl rfl hl.1 rfl (lv_room (Nat.le_of_ble_eq_true rfl)) dX12_routeOn_22 ⟨Nat.zero_le _, Nat.zero_le _⟩) hS (fun r6 hw6 locs hS => ?_)
  obtain ⟨hfe6, hw6⟩ := hw6
  have hF := mi_let hF hfe6
  refine lv_iload_n hx hb dX12_routeOn_25 rfl (lv_at hl 4 rfl) ?_
  refine lv_iconst (v := (-1)) hx hb dX12_routeOn_26 (by decide) ?_
  refine lv_ixor hx hb dX12_routeOn_27 ?_
  refine lv_topi (fun t7 et7 => ?_)
  have hF := mi_let hF et7
  refine lv_iand hx hb dX12_routeOn_28 ?_
  refine lv_topi (fun t8 et8 => ?_)
  have hF := mi_let hF et8
  refine lv_istore (lv' := [(6, .int t8), (5, .int r5), (4, .int y4), (0, .ref (ad 0)), (1, .int 7), (2, .int vh), (3, .int vp)]) hx hb dX12_routeOn_29 hl (by decide) rfl (fun ls hl => ?_)
  refine lv_iconst (v := 0) hx hb dX12_routeOn_31 (by decide) ?_
  refine lv_istore (lv' := [(7, .int 0), (6, .int t8), (5, .int r5), (4, .int y4), (0, .ref (ad 0)), (1, .int 7), (2, .int vh), (3, .int vp)]) hx hb dX12_routeOn_32 hl (by decide) rfl (fun ls hl => ?_)
  have loop34 : ∀ (n34 : Nat) (v7_34 : Int32) (nu34_ : Nat → Nat → Int32) (H : Heap) (locs : List Loc) (ls : Array Slot), (7 + 1 - v7_34.toInt).toNat < n34 → (0 ≤ v7_34.toInt ∧ v7_34.toInt ≤ 7) → (((nu34_ 0 39).toInt = -9 ∨ (0 ≤ (nu34_ 0 39).toInt ∧ (nu34_ 0 39).toInt ≤ 3)) ∧ ((nu34_ 0 33).toInt = 0 ∨ (nu34_ 0 35).toInt ≤ 7)) → okR loM hiM nu34_ → va_P (dC, dI) vwCl (wR 21 ad (EM cs ad) nu34_) H → (∀ k f : Nat, Nat.testBit 510 (gpM k f) = true → nu34_ k f = mu k f) → L_sm_routeOn7_34_0 mu t8 n34 v7_34 nu34_ = fz → va_S (va_A (wR 21 ad (EM cs ad) mu) s.heap.size) s.heap H locs → lv_has ls 8 [(7, .int v7_34), (6, .int t8), (5, .int r5), (4, .int y4), (0, .ref (ad 0)), (1, .int 7), (2, .int vh), (3, .int vp)] → W p l e (headSpec (wU yX12_routeOn cX12_routeOn 8 none) ({ frames := 2, cells := 0, slots := 0, locals := 46 })).room s m ([.ref (ad 0), .int 7, .int vh, .int vp] : List Value).toArray below meth c H locs 0 0 (MQ below (va_Qv (fun (xi : Nat → Nat → Int32) => xi = F_sm_routeOn7 mu vh vp ∧ okR loM hiM xi ∧ (((xi 0 39).toInt = -9 ∨ (0 ≤ (xi 0 39).toInt ∧ (xi 0 39).toInt ≤ 3)) ∧ ((xi 0 33).toInt = 0 ∨ (xi 0 35).toInt ≤ 7)) ∧ (∀ k f : Nat, Nat.testBit 510 (gpM k f) = true → xi k f = mu k f)) (fun xi t => va_P (dC, dI) vwCl (wR 21 ad (EM cs ad) xi) t.heap) (va_A (wR 21 ad (EM cs ad) mu) s.heap.size)) ([.ref (ad 0), .int 7, .int vh, .int vp] : List Value).toArray s 0 0 (va_A (wR 21 ad (EM cs ad) mu) s.heap.size)) (F0 m 34 ls []) := by
    intro n34
    induction n34 with
    | zero => intro v7_34 nu34_ H locs ls hm; exact absurd hm (Nat.not_lt_zero _)
    | succ n34 ih34 =>
      intro v7_34 nu34_ H locs ls hm_34 h_v7_34 hi34_0 ok hP kq34_0 hF hS hl
      rw [L_sm_routeOn7_34_0] at hF
      obtain ⟨y9, ey9⟩ : ∃ z : Int32, z = nu34_ 0 39 := ⟨_, rfl⟩
      have hF := mi_let hF ey9
      have by9 : y9.toInt = (nu34_ 0 39).toInt := congrArg Int32.toInt ey9
      have gy9 : -9 ≤ y9.toInt ∧ y9.toInt ≤ 3 := by rw [ey9]; exact rM_0_39 ok
      obtain ⟨y10, ey10⟩ : ∃ z : Int32, z = nu34_ 0 33 := ⟨_, rfl⟩
      have hF := mi_let hF ey10
      have by10 : y10.toInt = (nu34_ 0 33).toInt := congrArg Int32.toInt ey10
      obtain ⟨y11, ey11⟩ : ∃ z : Int32, z = nu34_ 0 35 := ⟨_, rfl⟩
      have hF := mi_let hF ey11
      have by11 : y11.toInt = (nu34_ 0 35).toInt := congrArg Int32.toInt ey11
      refine lv_iload hx hb dX12_routeOn_34 (lv_at hl 0 rfl) ?_
      refine lv_aload_n hx hb dX12_routeOn_36 rfl (lv_at hl 4 rfl) ?_
      refine va_get (D := (dC, dI)) (ci := 12) (v := .int (nu34_ 0 8)) (C := RX12) (T := TX12) (N := 46) hx hb hts inG12 hown hK hP 0 (gM_0 cs ad nu34_) rfl 8 (by decide) (hts _ (List.mem_cons_of_mem _ mw_5_49)) (fun _ h9 => h9) rfl dX12_routeOn_37 ?_
      refine lv_topi (fun y12 ey12 => ?_)
      have hF := mi_let hF ey12
      have by12 : y12.toInt = (nu34_ 0 8).toInt := congrArg Int32.toInt ey12
      have gy12 : 0 ≤ y12.toInt ∧ y12.toInt ≤ 7 := by rw [ey12]; exact rM_0_8 ok
      refine lv_icmp_ge (tgt := 145) hx hb dX12_routeOn_40 (by decide) (fun c_13 => ?_) (fun c_13 => ?_)
      · have hF := (if_pos c_13).symm.trans hF
        have c_13 : y12.toInt ≤ v7_34.toInt := il_le c_13
        exact W.vret hx hb hr (fun t ht hW => ⟨⟨nu34_, rfl, ⟨hF.trans hfz.symm, ok, (by first | assumption | (have hb14 := congrArg Int32.toInt ey9; have hb15 := congrArg Int32.toInt ey10; have hb16 := congrArg Int32.toInt ey11; omega)), kq34_0⟩, by first | (subst ht; exact hP) | (rw [ht]; exact hP) | (show va_P (dC, dI) vwCl (wR 21 ad (EM cs ad) nu34_) t.heap; rw [ht]; exact hP)⟩, hS.F ht⟩) hS.2.2 dX12_routeOn_145
      · have hF := (if_neg c_13).symm.trans hF
        have c_13 : v7_34.toInt < y12.toInt := il_nle c_13
        refine lv_iload hx hb dX12_routeOn_43 (lv_at hl 1 rfl) ?_
        refine lv_iload hx hb dX12_routeOn_45 (lv_at hl 0 rfl) ?_
        refine cr_i (va_runS (As := [.int t8, .int v7_34]) (rest := []) ⟨hx, hb, hml, hown, hts⟩ (sm_has l dC dI (tyM cs) H t8 v7_34) (va_cwS 2 hts (wU_S mw_6_59 mw_6_57 mw_6_58 mw_1_13) rfl rfl rfl (by decide +kernel) ⟨Nat.le_of_ble_eq_true rfl, Nat.le_of_ble_eq_true rfl⟩) ⟨sz_c, sz_m hK hz⟩ rfl rfl hl.1 rfl (lv_room (Nat.le_of_ble_eq_true rfl)) dX12_routeOn_47 ⟨Nat.zero_le _, Nat.zero_le _⟩) hS (fun r17 hw17 locs hS => ?_)
        obtain ⟨hfe17, hw17⟩ := hw17
        rcases hw17 with ⟨rfl, f17⟩ | ⟨rfl, f17⟩
        · have hF := (if_pos hfe17.symm).symm.trans hF
          have f17 : rb t8 v7_34 = 1 := f17
          refine lv_if_eq (tgt := 139) hx hb dX12_routeOn_50 (by decide) (fun c => absurd c (by decide)) (fun _ => ?_)
          exact absurd (h7_full hin0 (by rw [et8, et7]) (x := v7_34) (by omega) (by omega) f17) (by decide)
        · have hF := (if_neg (fun h => absurd (hfe17.trans h) (by decide))).symm.trans hF
          have f17 : ¬ rb t8 v7_34 = 1 := f17
          refine lv_if_eq (tgt := 139) hx hb dX12_routeOn_50 (by decide) (fun _ => ?_) (fun c => absurd (by decide) c)
          refine lv_iinc (v := (v7_34 + 1)) (lv' := [(7, .int (v7_34 + 1)), (6, .int t8), (5, .int r5), (4, .int y4), (0, .ref (ad 0)), (1, .int 7), (2, .int vh), (3, .int vp)]) hx hb dX12_routeOn_139 hl (k := 0) rfl rfl (by decide) rfl (fun ls hl => ?_)
          refine loc_gen (P := fun w9 => lv_has ls 8 [(7, .int w9), (6, .int t8), (5, .int r5), (4, .int y4), (0, .ref (ad 0)), (1, .int 7), (2, .int vh), (3, .int vp)]) (v7_34 + 1) hl (fun w18 hw18 hl => ?_)
          have hl : lv_has ls 8 [(7, .int w18), (6, .int t8), (5, .int r5), (4, .int y4), (0, .ref (ad 0)), (1, .int 7), (2, .int vh), (3, .int vp)] := hl
          have hF := mi_let hF hw18.symm
          have aw18 : w18.toInt = v7_34.toInt + 1 := by rw [← hw18]; first | exact va1 (Int.lt_of_le_of_lt h_v7_34.2 (by decide)) | exact va1 (by omega)
          refine lv_goto (tgt := 34) hx hb dX12_routeOn_142 (by decide) ?_
          exact ih34 (w18) nu34_ _ _ _ (by first | exact ms_up hm_34 aw18 h_v7_34.2 | exact ms_lt hm_34 (by omega) (by omega) | omega) (by first | exact rg_up aw18 h_v7_34 (by omega) | omega) (by first | assumption | (have hb19 := congrArg Int32.toInt ey9; have hb20 := congrArg Int32.toInt ey10; have hb21 := congrArg Int32.toInt ey11; omega)) ok hP  kq34_0 hF hS (lv_sub hl [0, 1, 2, 3, 4, 5, 6, 7] rfl)
  exact loop34 10 (0) mu _ _ _ (by have h80 : (0 : Int32).toInt = 0 := rfl; omega) (by have h80 : (0 : Int32).toInt = 0 := rfl; exact ⟨by omega, by omega⟩) (by have h80 : (0 : Int32).toInt = 0 := rfl; have hb22 := congrArg Int32.toInt ey1; have hb23 := congrArg Int32.toInt ey2; have hb24 := congrArg Int32.toInt ey3; omega) ok hP  (fun _ _ _ => rfl) hF hS hl
set_option maxHeartbeats 4000000 in
set_option maxRecDepth 100000 in
/-- sm_routeOn6 -/
theorem sm_routeOn6 (l : Launch) (dC : Nat → ClassId) (dI : Nat → Nat → Nat) (cs : Nat → ClassId) (ad : Nat → Nat) (mu : Nat → Nat → Int32) (ok : okR loM hiM mu) (H : Heap) (hP : va_P (dC, dI) vwCl (wR 21 ad (EM cs ad) mu) H) (hD0 : va_D (fun _ => True) (wR 21 ad (EM cs ad) mu)) (vh : Int32) (vp : Int32) (hin0 : h7 6 vh) (hin1 : ((mu 0 39).toInt = -9 ∨ (0 ≤ (mu 0 39).toInt ∧ (mu 0 39).toInt ≤ 3)) ∧ ((mu 0 33).toInt = 0 ∨ (mu 0 35).toInt ≤ 7)) : Met l yX12_routeOn (wU yX12_routeOn cX12_routeOn 8 none) ({ frames := 3, cells := 0, slots := 0, locals := 73 }) (va_Pc [.ref (ad 0), .int 6, .int vh, .int vp] (sz_P (dC, dI) vwCl (tyM cs) H)) (va_Qv (fun (xi : Nat → Nat → Int32) => xi = F_sm_routeOn6 mu vh vp ∧ okR loM hiM xi ∧ (((xi 0 39).toInt = -9 ∨ (0 ≤ (xi 0 39).toInt ∧ (xi 0 39).toInt ≤ 3)) ∧ ((xi 0 33).toInt = 0 ∨ (xi 0 35).toInt ≤ 7)) ∧ (∀ k f : Nat, Nat.testBit 510 (gpM k f) = true → xi k f = mu k f)) (fun xi t => va_P (dC, dI) vwCl (wR 21 ad (EM cs ad) xi) t.heap) (va_A (wR 21 ad (EM cs ad) mu) H.size)) 0 0 (va_A (wR 21 ad (EM cs ad) mu) H.size) := by
  refine Met.ofW (cc := cX12_routeOn) (maxL := 8) (ret := none) (by decide) rfl ?_
  intro p e s m args below meth c s₁ B hml hv
  obtain ⟨rfl, hh, hK, hz⟩ := hv
  have hx := B.exec
  have hb := B.bytes
  have hr := B.returns
  have hts := atoms_spec (ws := (wU yX12_routeOn cX12_routeOn 8 none)) B.pre
  have hown : s.vm.findClass RX12 = some m.cls := findClass_of_methodNamed B.named
  have hlocks := B.notSynchronized
  subst hh
  have hD := hD0.self (sz := s.heap.size)
  have hA : ∀ q : Nat, s.heap.size ≤ q → (va_A (wR 21 ad (EM cs ad) mu) s.heap.size) q := fun q h => Or.inr h
  have hS : va_S (va_A (wR 21 ad (EM cs ad) mu) s.heap.size) s.heap s.heap [] := va_S.rf
  have hl := lv_entry ([.ref (ad 0), .int 6, .int vh, .int vp]) (n := 8) (Nat.le_of_ble_eq_true rfl)
  rw [lg_entry_eq]
  generalize (lg_sl ([.ref (ad 0), .int 6, .int vh, .int vp]) ++ List.replicate (8 - (lg_sl ([.ref (ad 0), .int 6, .int vh, .int vp])).length) Slot.unset).toArray = ls at hl ⊢
  have hl : lv_has ls 8 [(0, .ref (ad 0)), (1, .int 6), (2, .int vh), (3, .int vp)] := hl
  obtain ⟨fz, hfz⟩ : ∃ z, F_sm_routeOn6 mu vh vp = z := ⟨_, rfl⟩
  have hF := hfz
  unfold F_sm_routeOn6 at hF
  obtain ⟨y1, ey1⟩ : ∃ z : Int32, z = mu 0 39 := ⟨_, rfl⟩
  have hF := mi_let hF ey1
  have by1 : y1.toInt = (mu 0 39).toInt := congrArg Int32.toInt ey1
  have gy1 : -9 ≤ y1.toInt ∧ y1.toInt ≤ 3 := by rw [ey1]; exact rM_0_39 ok
  obtain ⟨y2, ey2⟩ : ∃ z : Int32, z = mu 0 33 := ⟨_, rfl⟩
  have hF := mi_let hF ey2
  have by2 : y2.toInt = (mu 0 33).toInt := congrArg Int32.toInt ey2
  obtain ⟨y3, ey3⟩ : ∃ z : Int32, z = mu 0 35 := ⟨_, rfl⟩
  have hF := mi_let hF ey3
  have by3 : y3.toInt = (mu 0 35).toInt := congrArg Int32.toInt ey3
  refine lv_aload_n hx hb dX12_routeOn_0 rfl (lv_at hl 0 rfl) ?_
  refine va_get (D := (dC, dI)) (ci := 12) (v := .ref (ad 16)) (C := RX12) (T := TX12) (N := 46) hx hb hts inG12 hown hK hP 0 (gM_0 cs ad mu) rfl 26 (by decide) (hts _ (List.mem_cons_of_mem _ mw_5_67)) (fun _ h9 => h9) rfl dX12_routeOn_1 ?_
  refine lv_iload_n hx hb dX12_routeOn_4 rfl (lv_at hl 1 rfl) ?_
  refine lv_iconst (v := 1) hx hb dX12_routeOn_5 (by decide) ?_
  refine lv_isub hx hb dX12_routeOn_6 ?_
  refine lq_i 5 (by decide) ?_
  refine va_iald hx hb hK hP 16 0 (gM_16 cs ad mu) rfl (show vp_in 5 7 from (by unfold vp_in; decide)) dX12_routeOn_7 ?_
  refine lv_topi (fun y4 ey4 => ?_)
  have hF := mi_let hF ey4
  have by4 : y4.toInt = (mu 16 (5 : Int32).toNatClampNeg).toInt := congrArg Int32.toInt ey4
  have gy4 : 0 ≤ y4.toInt ∧ y4.toInt ≤ 6 := by rw [ey4]; exact rM_16_s ok (5 : Int32).toNatClampNeg
  refine lv_istore (lv' := [(4, .int y4), (0, .ref (ad 0)), (1, .int 6), (2, .int vh), (3, .int vp)]) hx hb dX12_routeOn_8 hl (by decide) rfl (fun ls hl => ?_)
  refine lv_aload_n hx hb dX12_routeOn_10 rfl (lv_at hl 1 rfl) ?_
  refine lv_iload hx hb dX12_routeOn_11 (lv_at hl 0 rfl) ?_
  refine lv_iload_n hx hb dX12_routeOn_13 rfl (lv_at hl 4 rfl) ?_
  refine cr_i (va_runV (As := [.int y4, .int vp]) (rest := []) ⟨hx, hb, hml, hown, hts⟩ (sm_asksOf l dC dI cs ad mu ok s.heap hP y4 vp (by omega)) (cwV 2 hts (wU_V mw_6_74 mw_6_71 mw_6_73 mw_0_42 mw_1_13) rfl rfl rfl (by decide +kernel) ⟨Nat.le_of_ble_eq_true rfl, Nat.le_of_ble_eq_true rfl⟩) ⟨sz_c, va_recv hK hP (ci := 12) (q0 := 0) rfl (gM_0 cs ad mu), sz_m hK hz⟩ rfl rfl hl.1 rfl (lv_room (Nat.le_of_ble_eq_true rfl)) dX12_routeOn_14 ⟨Nat.zero_le _, Nat.zero_le _⟩) hS (fun r5 hw5 locs hS => ?_)
  obtain ⟨hfe5, hw5⟩ := hw5
  have hF := mi_let hF hfe5
  refine lv_istore (lv' := [(5, .int r5), (4, .int y4), (0, .ref (ad 0)), (1, .int 6), (2, .int vh), (3, .int vp)]) hx hb dX12_routeOn_17 hl (by decide) rfl (fun ls hl => ?_)
  refine lv_aload_n hx hb dX12_routeOn_19 rfl (lv_at hl 2 rfl) ?_
  refine lv_iload hx hb dX12_routeOn_20 (lv_at hl 1 rfl) ?_
  refine cr_i (va_runV (As := [.int y4]) (rest := []) ⟨hx, hb, hml, hown, hts⟩ (sm_besideOf l dC dI cs ad mu ok s.heap hP y4) (cwV 1 hts (wU_V mw_6_56 mw_6_53 mw_6_55 mw_0_40 mw_1_13) rfl rfl rfl (by decide +kernel) ⟨Nat.le_of_ble_eq_true rfl, Nat.le_of_ble_eq_true rfl⟩) ⟨sz_c, va_recv hK hP (ci := 12) (q0 := 0) rfl (gM_0 cs ad mu), sz_m hK hz⟩ rfl rfl hl.1 rfl (lv_room (Nat.le_of_ble_eq_true rfl)) dX12_routeOn_22 ⟨Nat.zero_le _, Nat.zero_le _⟩) hS (fun r6 hw6 locs hS => ?_)
  obtain ⟨hfe6, hw6⟩ := hw6
  have hF := mi_let hF hfe6
  refine lv_iload_n hx hb dX12_routeOn_25 rfl (lv_at hl 4 rfl) ?_
  refine lv_iconst (v := (-1)) hx hb dX12_routeOn_26 (by decide) ?_
  refine lv_ixor hx hb dX12_routeOn_27 ?_
  refine lv_topi (fun t7 et7 => ?_)
  have hF := mi_let hF et7
  refine lv_iand hx hb dX12_routeOn_28 ?_
  refine lv_topi (fun t8 et8 => ?_)
  have hF := mi_let hF et8
  refine lv_istore (lv' := [(6, .int t8), (5, .int r5), (4, .int y4), (0, .ref (ad 0)), (1, .int 6), (2, .int vh), (3, .int vp)]) hx hb dX12_routeOn_29 hl (by decide) rfl (fun ls hl => ?_)
  refine lv_iconst (v := 0) hx hb dX12_routeOn_31 (by decide) ?_
  refine lv_istore (lv' := [(7, .int 0), (6, .int t8), (5, .int r5), (4, .int y4), (0, .ref (ad 0)), (1, .int 6), (2, .int vh), (3, .int vp)]) hx hb dX12_routeOn_32 hl (by decide) rfl (fun ls hl => ?_)
  have loop34 : ∀ (n34 : Nat) (v7_34 : Int32) (nu34_ : Nat → Nat → Int32) (H : Heap) (locs : List Loc) (ls : Array Slot), (7 + 1 - v7_34.toInt).toNat < n34 → (0 ≤ v7_34.toInt ∧ v7_34.toInt ≤ 7) → (((nu34_ 0 39).toInt = -9 ∨ (0 ≤ (nu34_ 0 39).toInt ∧ (nu34_ 0 39).toInt ≤ 3)) ∧ ((nu34_ 0 33).toInt = 0 ∨ (nu34_ 0 35).toInt ≤ 7)) → okR loM hiM nu34_ → va_P (dC, dI) vwCl (wR 21 ad (EM cs ad) nu34_) H → (∀ k f : Nat, Nat.testBit 510 (gpM k f) = true → nu34_ k f = mu k f) → L_sm_routeOn6_34_0 r5 t8 vh n34 v7_34 nu34_ = fz → va_S (va_A (wR 21 ad (EM cs ad) mu) s.heap.size) s.heap H locs → lv_has ls 8 [(7, .int v7_34), (6, .int t8), (5, .int r5), (4, .int y4), (0, .ref (ad 0)), (1, .int 6), (2, .int vh), (3, .int vp)] → W p l e (headSpec (wU yX12_routeOn cX12_routeOn 8 none) ({ frames := 3, cells := 0, slots := 0, locals := 73 })).room s m ([.ref (ad 0), .int 6, .int vh, .int vp] : List Value).toArray below meth c H locs 0 0 (MQ below (va_Qv (fun (xi : Nat → Nat → Int32) => xi = F_sm_routeOn6 mu vh vp ∧ okR loM hiM xi ∧ (((xi 0 39).toInt = -9 ∨ (0 ≤ (xi 0 39).toInt ∧ (xi 0 39).toInt ≤ 3)) ∧ ((xi 0 33).toInt = 0 ∨ (xi 0 35).toInt ≤ 7)) ∧ (∀ k f : Nat, Nat.testBit 510 (gpM k f) = true → xi k f = mu k f)) (fun xi t => va_P (dC, dI) vwCl (wR 21 ad (EM cs ad) xi) t.heap) (va_A (wR 21 ad (EM cs ad) mu) s.heap.size)) ([.ref (ad 0), .int 6, .int vh, .int vp] : List Value).toArray s 0 0 (va_A (wR 21 ad (EM cs ad) mu) s.heap.size)) (F0 m 34 ls []) := by
    intro n34
    induction n34 with
    | zero => intro v7_34 nu34_ H locs ls hm; exact absurd hm (Nat.not_lt_zero _)
    | succ n34 ih34 =>
      intro v7_34 nu34_ H locs ls hm_34 h_v7_34 hi34_0 ok hP kq34_0 hF hS hl
      rw [L_sm_routeOn6_34_0] at hF
      obtain ⟨y9, ey9⟩ : ∃ z : Int32, z = nu34_ 0 39 := ⟨_, rfl⟩
      have hF := mi_let hF ey9
      have by9 : y9.toInt = (nu34_ 0 39).toInt := congrArg Int32.toInt ey9
      have gy9 : -9 ≤ y9.toInt ∧ y9.toInt ≤ 3 := by rw [ey9]; exact rM_0_39 ok
      obtain ⟨y10, ey10⟩ : ∃ z : Int32, z = nu34_ 0 33 := ⟨_, rfl⟩
      have hF := mi_let hF ey10
      have by10 : y10.toInt = (nu34_ 0 33).toInt := congrArg Int32.toInt ey10
      obtain ⟨y11, ey11⟩ : ∃ z : Int32, z = nu34_ 0 35 := ⟨_, rfl⟩
      have hF := mi_let hF ey11
      have by11 : y11.toInt = (nu34_ 0 35).toInt := congrArg Int32.toInt ey11
      refine lv_iload hx hb dX12_routeOn_34 (lv_at hl 0 rfl) ?_
      refine lv_aload_n hx hb dX12_routeOn_36 rfl (lv_at hl 4 rfl) ?_
      refine va_get (D := (dC, dI)) (ci := 12) (v := .int (nu34_ 0 8)) (C := RX12) (T := TX12) (N := 46) hx hb hts inG12 hown hK hP 0 (gM_0 cs ad nu34_) rfl 8 (by decide) (hts _ (List.mem_cons_of_mem _ mw_5_49)) (fun _ h9 => h9) rfl dX12_routeOn_37 ?_
      refine lv_topi (fun y12 ey12 => ?_)
      have hF := mi_let hF ey12
      have by12 : y12.toInt = (nu34_ 0 8).toInt := congrArg Int32.toInt ey12
      have gy12 : 0 ≤ y12.toInt ∧ y12.toInt ≤ 7 := by rw [ey12]; exact rM_0_8 ok
      refine lv_icmp_ge (tgt := 145) hx hb dX12_routeOn_40 (by decide) (fun c_13 => ?_) (fun c_13 => ?_)
      · have hF := (if_pos c_13).symm.trans hF
        have c_13 : y12.toInt ≤ v7_34.toInt := il_le c_13
        exact W.vret hx hb hr (fun t ht hW => ⟨⟨nu34_, rfl, ⟨hF.trans hfz.symm, ok, (by first | assumption | (have hb14 := congrArg Int32.toInt ey9; have hb15 := congrArg Int32.toInt ey10; have hb16 := congrArg Int32.toInt ey11; omega)), kq34_0⟩, by first | (subst ht; exact hP) | (rw [ht]; exact hP) | (show va_P (dC, dI) vwCl (wR 21 ad (EM cs ad) nu34_) t.heap; rw [ht]; exact hP)⟩, hS.F ht⟩) hS.2.2 dX12_routeOn_145
      · have hF := (if_neg c_13).symm.trans hF
        have c_13 : v7_34.toInt < y12.toInt := il_nle c_13
        refine lv_iload hx hb dX12_routeOn_43 (lv_at hl 1 rfl) ?_
        refine lv_iload hx hb dX12_routeOn_45 (lv_at hl 0 rfl) ?_
        refine cr_i (va_runS (As := [.int t8, .int v7_34]) (rest := []) ⟨hx, hb, hml, hown, hts⟩ (sm_has l dC dI (tyM cs) H t8 v7_34) (va_cwS 2 hts (wU_S mw_6_59 mw_6_57 mw_6_58 mw_1_13) rfl rfl rfl (by decide +kernel) ⟨Nat.le_of_ble_eq_true rfl, Nat.le_of_ble_eq_true rfl⟩) ⟨sz_c, sz_m hK hz⟩ rfl rfl hl.1 rfl (lv_room (Nat.le_of_ble_eq_true rfl)) dX12_routeOn_47 ⟨Nat.zero_le _, Nat.zero_le _⟩) hS (fun r17 hw17 locs hS => ?_)
        obtain ⟨hfe17, hw17⟩ := hw17
        rcases hw17 with ⟨rfl, f17⟩ | ⟨rfl, f17⟩
        · have hF := (if_pos hfe17.symm).symm.trans hF
          have f17 : rb t8 v7_34 = 1 := f17
          refine lv_if_eq (tgt := 139) hx hb dX12_routeOn_50 (by decide) (fun c => absurd c (by decide)) (fun _ => ?_)
          refine lv_aload_n hx hb dX12_routeOn_53 rfl (lv_at hl 4 rfl) ?_
          refine va_get (D := (dC, dI)) (ci := 12) (v := .int (nu34_ 0 38)) (C := RX12) (T := TX12) (N := 46) hx hb hts inG12 hown hK hP 0 (gM_0 cs ad nu34_) rfl 38 (by decide) (hts _ (List.mem_cons_of_mem _ mw_5_79)) (fun _ h9 => h9) rfl dX12_routeOn_54 ?_
          refine lv_topi (fun y18 ey18 => ?_)
          have hF := mi_let hF ey18
          have by18 : y18.toInt = (nu34_ 0 38).toInt := congrArg Int32.toInt ey18
          have gy18 : 0 ≤ y18.toInt ∧ y18.toInt ≤ 1 := by rw [ey18]; exact rM_0_38 ok
          refine lv_if_eq (tgt := 72) hx hb dX12_routeOn_57 (by decide) (fun c_19 => ?_) (fun c_19 => ?_)
          · have hF := (if_pos c_19).symm.trans hF
            have c_19 : y18.toInt = 0 := il_eq c_19
            refine lv_aload_n hx hb dX12_routeOn_72 rfl (lv_at hl 4 rfl) ?_
            refine va_get (D := (dC, dI)) (ci := 12) (v := .ref (ad 16)) (C := RX12) (T := TX12) (N := 46) hx hb hts inG12 hown hK hP 0 (gM_0 cs ad nu34_) rfl 26 (by decide) (hts _ (List.mem_cons_of_mem _ mw_5_67)) (fun _ h9 => h9) rfl dX12_routeOn_73 ?_
            refine lv_iload_n hx hb dX12_routeOn_76 rfl (lv_at hl 5 rfl) ?_
            refine lv_iload hx hb dX12_routeOn_77 (lv_at hl 0 rfl) ?_
            refine va_iast hx hb hK hP (wR_D nu34_ hD) hS 16 0 (gM_16 cs ad nu34_) rfl (show vp_in 6 7 from (by unfold vp_in; decide)) dX12_routeOn_79 (fun H locs hP _ hS => ?_)
            refine wr_gen (upd (nu34_ 16) (6 : Int32).toNatClampNeg v7_34) hP (rfl) (fun nu20 hn20 hP => ?_)
            have hF := mi_let hF hn20.symm
            have ok := tM_16_s ok (6 : Int32).toNatClampNeg hn20 (by omega)
            have ez21 : y9 = nu20 0 39 := ey9.trans (congrFun (up_k hn20 (by decide)) 39).symm
            have ez22 : y10 = nu20 0 33 := ey10.trans (congrFun (up_k hn20 (by decide)) 33).symm
            have ez23 : y11 = nu20 0 35 := ey11.trans (congrFun (up_k hn20 (by decide)) 35).symm
            have ez24 : y12 = nu20 0 8 := ey12.trans (congrFun (up_k hn20 (by decide)) 8).symm
            have ez25 : y18 = nu20 0 38 := ey18.trans (congrFun (up_k hn20 (by decide)) 38).symm
            have kp26 : (∀ k f : Nat, Nat.testBit 510 (gpM k f) = true → nu20 k f = mu k f) := kp_c 0 hn20 (fun _ => rfl) (by decide) kq34_0
            refine lv_iload hx hb dX12_routeOn_80 (lv_at hl 0 rfl) ?_
            refine lv_aload_n hx hb dX12_routeOn_82 rfl (lv_at hl 4 rfl) ?_
            refine va_get (D := (dC, dI)) (ci := 12) (v := .int (nu20 0 29)) (C := RX12) (T := TX12) (N := 46) hx hb hts inG12 hown hK hP 0 (gM_0 cs ad nu20) rfl 29 (by decide) (hts _ (List.mem_cons_of_mem _ mw_5_70)) (fun _ h9 => h9) rfl dX12_routeOn_83 ?_
            refine lv_topi (fun y27 ey27 => ?_)
            have hF := mi_let hF ey27
            have by27 : y27.toInt = (nu20 0 29).toInt := congrArg Int32.toInt ey27
            refine lv_icmp_ne (tgt := 113) hx hb dX12_routeOn_86 (by decide) (fun c_28 => ?_) (fun c_28 => ?_)
            · have hF := (if_neg c_28).symm.trans hF
              have c_28 : ¬ v7_34.toInt = y27.toInt := il_ne c_28
              refine lv_aload_n hx hb dX12_routeOn_113 rfl (lv_at hl 4 rfl) ?_
              refine va_get (D := (dC, dI)) (ci := 12) (v := .ref (ad 7)) (C := RX12) (T := TX12) (N := 46) hx hb hts inG12 hown hK hP 0 (gM_0 cs ad nu20) rfl 9 (by decide) (hts _ (List.mem_cons_of_mem _ mw_5_50)) (fun _ h9 => h9) rfl dX12_routeOn_114 ?_
              refine lv_iload hx hb dX12_routeOn_117 (lv_at hl 0 rfl) ?_
              refine va_iald hx hb hK hP 7 0 (gM_7 cs ad nu20) rfl (show vp_in v7_34 7 from vi_of (by omega) (by omega)) dX12_routeOn_119 ?_
              refine lv_topi (fun y29 ey29 => ?_)
              have hF := mi_let hF ey29
              have by29 : y29.toInt = (nu20 7 v7_34.toNatClampNeg).toInt := congrArg Int32.toInt ey29
              refine lv_iconst (v := 3) hx hb dX12_routeOn_120 (by decide) ?_
              refine lv_icmp_eq (tgt := 139) hx hb dX12_routeOn_121 (by decide) (fun c_30 => ?_) (fun c_30 => ?_)
              · have hF := (if_pos c_30).symm.trans hF
                have c_30 : y29.toInt = 3 := il_eq c_30
                refine lv_iinc (v := (v7_34 + 1)) (lv' := [(7, .int (v7_34 + 1)), (6, .int t8), (5, .int r5), (4, .int y4), (0, .ref (ad 0)), (1, .int 6), (2, .int vh), (3, .int vp)]) hx hb dX12_routeOn_139 hl (k := 0) rfl rfl (by decide) rfl (fun ls hl => ?_)
                refine loc_gen (P := fun w9 => lv_has ls 8 [(7, .int w9), (6, .int t8), (5, .int r5), (4, .int y4), (0, .ref (ad 0)), (1, .int 6), (2, .int vh), (3, .int vp)]) (v7_34 + 1) hl (fun w31 hw31 hl => ?_)
                have hl : lv_has ls 8 [(7, .int w31), (6, .int t8), (5, .int r5), (4, .int y4), (0, .ref (ad 0)), (1, .int 6), (2, .int vh), (3, .int vp)] := hl
                have hF := mi_let hF hw31.symm
                have aw31 : w31.toInt = v7_34.toInt + 1 := by rw [← hw31]; first | exact va1 (Int.lt_of_le_of_lt h_v7_34.2 (by decide)) | exact va1 (by omega)
                refine lv_goto (tgt := 34) hx hb dX12_routeOn_142 (by decide) ?_
                exact ih34 (w31) nu20 _ _ _ (by first | exact ms_up hm_34 aw31 h_v7_34.2 | exact ms_lt hm_34 (by omega) (by omega) | omega) (by first | exact rg_up aw31 h_v7_34 (by omega) | omega) (by first | assumption | (rw [← ez21, ← ez22, ← ez23, ey9, ey10, ey11]; assumption) | (have hb32 := congrArg Int32.toInt ez21; have hb33 := congrArg Int32.toInt ez22; have hb34 := congrArg Int32.toInt ez23; omega)) ok hP  kp26 hF hS (lv_sub hl [0, 1, 2, 3, 4, 5, 6, 7] rfl)
              · have hF := (if_neg c_30).symm.trans hF
                have c_30 : ¬ y29.toInt = 3 := il_ne c_30
                refine lv_aload_n hx hb dX12_routeOn_124 rfl (lv_at hl 4 rfl) ?_
                refine lv_iload_n hx hb dX12_routeOn_125 rfl (lv_at hl 5 rfl) ?_
                refine lv_iconst (v := 1) hx hb dX12_routeOn_126 (by decide) ?_
                refine lv_iadd hx hb dX12_routeOn_127 ?_
                refine lq_i 7 (by decide) ?_
                refine lv_iload_n hx hb dX12_routeOn_128 rfl (lv_at hl 6 rfl) ?_
                refine lv_iconst (v := 1) hx hb dX12_routeOn_129 (by decide) ?_
                refine lv_iload hx hb dX12_routeOn_130 (lv_at hl 0 rfl) ?_
                refine lv_ishl hx hb dX12_routeOn_132 ?_
                refine lv_topi (fun t35 et35 => ?_)
                have hF := mi_let hF et35
                refine lv_ior hx hb dX12_routeOn_133 ?_
                refine lv_topi (fun t36 et36 => ?_)
                have hF := mi_let hF et36
                refine lv_iload hx hb dX12_routeOn_134 (lv_at hl 2 rfl) ?_
                have hFc := fr_all (wR_D nu20 hD) hS hA
                refine va_callv (va_runV (As := [.int 7, .int t36, .int r5]) (rest := []) ⟨hx, hb, hml, hown, hts⟩ (sm_routeOn7 l dC dI cs ad nu20 ok H hP ((wR_D nu20 hD).weaken (fun _ _ _ _ => trivial)) t36 r5 (by have h50 : (7 : Int32).toInt = 7 := rfl; rw [et36, et35]; exact h7_next hin0 (by rw [et8, et7]) (by omega) (by omega) f17) (by have h50 : (7 : Int32).toInt = 7 := rfl; have hb37 := congrArg Int32.toInt ez21; have hb38 := congrArg Int32.toInt ez22; have hb39 := congrArg Int32.toInt ez23; omega)) (cwV 3 hts (wU_V mw_6_183 mw_6_180 mw_6_182 mw_0_55 mw_1_13) rfl rfl rfl (by decide +kernel) ⟨Nat.le_of_ble_eq_true rfl, Nat.le_of_ble_eq_true rfl⟩) ⟨sz_c, va_recv hK hP (ci := 12) (q0 := 0) rfl (gM_0 cs ad nu20), sz_m hK hz⟩ rfl rfl hl.1 rfl (lv_room (Nat.le_of_ble_eq_true rfl)) dX12_routeOn_136 ⟨Nat.zero_le _, Nat.zero_le _⟩) hS (fun q _ h => hFc q h) hFc (fun xi40 t H40 locs ht hvm hw40 hB hz1 hk1 hS => ?_)
                have hP : va_P (dC, dI) vwCl (wR 21 ad (EM cs ad) xi40) H40 := by rw [← ht]; exact hB
                obtain ⟨hfe40, ok, hw40, hkp40_0⟩ := hw40
                have hF := mi_let hF hfe40
                have kp41 : (∀ k f : Nat, Nat.testBit 510 (gpM k f) = true → xi40 k f = mu k f) := kp_t hkp40_0 (by decide) kp26
                obtain ⟨y42, ey42⟩ : ∃ z : Int32, z = xi40 0 39 := ⟨_, rfl⟩
                have hF := mi_let hF ey42
                have by42 : y42.toInt = (xi40 0 39).toInt := congrArg Int32.toInt ey42
                have gy42 : -9 ≤ y42.toInt ∧ y42.toInt ≤ 3 := by rw [ey42]; exact rM_0_39 ok
                obtain ⟨y43, ey43⟩ : ∃ z : Int32, z = xi40 0 33 := ⟨_, rfl⟩
                have hF := mi_let hF ey43
                have by43 : y43.toInt = (xi40 0 33).toInt := congrArg Int32.toInt ey43
                obtain ⟨y44, ey44⟩ : ∃ z : Int32, z = xi40 0 35 := ⟨_, rfl⟩
                have hF := mi_let hF ey44
                have by44 : y44.toInt = (xi40 0 35).toInt := congrArg Int32.toInt ey44
                have gr40 : ((xi40 0 39).toInt = -9 ∨ (0 ≤ (xi40 0 39).toInt ∧ (xi40 0 39).toInt ≤ 3)) ∧ ((xi40 0 33).toInt = 0 ∨ (xi40 0 35).toInt ≤ 7) := hw40
                refine lv_iinc (v := (v7_34 + 1)) (lv' := [(7, .int (v7_34 + 1)), (6, .int t8), (5, .int r5), (4, .int y4), (0, .ref (ad 0)), (1, .int 6), (2, .int vh), (3, .int vp)]) hx hb dX12_routeOn_139 hl (k := 0) rfl rfl (by decide) rfl (fun ls hl => ?_)
                refine loc_gen (P := fun w9 => lv_has ls 8 [(7, .int w9), (6, .int t8), (5, .int r5), (4, .int y4), (0, .ref (ad 0)), (1, .int 6), (2, .int vh), (3, .int vp)]) (v7_34 + 1) hl (fun w45 hw45 hl => ?_)
                have hl : lv_has ls 8 [(7, .int w45), (6, .int t8), (5, .int r5), (4, .int y4), (0, .ref (ad 0)), (1, .int 6), (2, .int vh), (3, .int vp)] := hl
                have hF := mi_let hF hw45.symm
                have aw45 : w45.toInt = v7_34.toInt + 1 := by rw [← hw45]; first | exact va1 (Int.lt_of_le_of_lt h_v7_34.2 (by decide)) | exact va1 (by omega)
                refine lv_goto (tgt := 34) hx hb dX12_routeOn_142 (by decide) ?_
                exact ih34 (w45) xi40 _ _ _ (by first | exact ms_up hm_34 aw45 h_v7_34.2 | exact ms_lt hm_34 (by omega) (by omega) | omega) (by first | exact rg_up aw45 h_v7_34 (by omega) | omega) (by first | assumption | (have hb46 := congrArg Int32.toInt ey42; have hb47 := congrArg Int32.toInt ey43; have hb48 := congrArg Int32.toInt ey44; omega)) ok hP  kp41 hF hS (lv_sub hl [0, 1, 2, 3, 4, 5, 6, 7] rfl)
            · have hF := (if_pos c_28).symm.trans hF
              have c_28 : v7_34.toInt = y27.toInt := il_eq c_28
              refine lv_aload_n hx hb dX12_routeOn_89 rfl (lv_at hl 4 rfl) ?_
              refine lv_iload_n hx hb dX12_routeOn_90 rfl (lv_at hl 5 rfl) ?_
              refine lv_iconst (v := 1) hx hb dX12_routeOn_91 (by decide) ?_
              refine lv_iadd hx hb dX12_routeOn_92 ?_
              refine lq_i 7 (by decide) ?_
              refine lv_iload_n hx hb dX12_routeOn_93 rfl (lv_at hl 6 rfl) ?_
              refine lv_iconst (v := 1) hx hb dX12_routeOn_94 (by decide) ?_
              refine lv_aload_n hx hb dX12_routeOn_95 rfl (lv_at hl 4 rfl) ?_
              refine va_get (D := (dC, dI)) (ci := 12) (v := .ref (ad 16)) (C := RX12) (T := TX12) (N := 46) hx hb hts inG12 hown hK hP 0 (gM_0 cs ad nu20) rfl 26 (by decide) (hts _ (List.mem_cons_of_mem _ mw_5_67)) (fun _ h9 => h9) rfl dX12_routeOn_96 ?_
              refine lv_iconst (v := 0) hx hb dX12_routeOn_99 (by decide) ?_
              refine va_iald hx hb hK hP 16 0 (gM_16 cs ad nu20) rfl (show vp_in 0 7 from (by unfold vp_in; decide)) dX12_routeOn_100 ?_
              refine lv_topi (fun y49 ey49 => ?_)
              have hF := mi_let hF ey49
              have by49 : y49.toInt = (nu20 16 (0 : Int32).toNatClampNeg).toInt := congrArg Int32.toInt ey49
              have gy49 : 0 ≤ y49.toInt ∧ y49.toInt ≤ 6 := by rw [ey49]; exact rM_16_s ok (0 : Int32).toNatClampNeg
              refine lv_ishl hx hb dX12_routeOn_101 ?_
              refine lv_topi (fun t50 et50 => ?_)
              have hF := mi_let hF et50
              refine lv_iconst (v := (-1)) hx hb dX12_routeOn_102 (by decide) ?_
              refine lv_ixor hx hb dX12_routeOn_103 ?_
              refine lv_topi (fun t51 et51 => ?_)
              have hF := mi_let hF et51
              refine lv_iand hx hb dX12_routeOn_104 ?_
              refine lv_topi (fun t52 et52 => ?_)
              have hF := mi_let hF et52
              refine lv_iload hx hb dX12_routeOn_105 (lv_at hl 2 rfl) ?_
              have hFc := fr_all (wR_D nu20 hD) hS hA
              refine va_callv (va_runV (As := [.int 7, .int t52, .int r5]) (rest := []) ⟨hx, hb, hml, hown, hts⟩ (sm_meetRoute l dC dI cs ad nu20 ok H hP ((wR_D nu20 hD).weaken (fun _ _ _ _ => trivial)) 7 t52 r5 (by have h50 : (7 : Int32).toInt = 7 := rfl; omega) (by have h50 : (7 : Int32).toInt = 7 := rfl; have hb53 := congrArg Int32.toInt ez21; have hb54 := congrArg Int32.toInt ez22; have hb55 := congrArg Int32.toInt ez23; omega)) (cwV 3 hts (wU_V mw_6_187 mw_6_184 mw_6_186 mw_0_56 mw_1_13) rfl rfl rfl (by decide +kernel) ⟨Nat.le_of_ble_eq_true rfl, Nat.le_of_ble_eq_true rfl⟩) ⟨sz_c, va_recv hK hP (ci := 12) (q0 := 0) rfl (gM_0 cs ad nu20), sz_m hK hz⟩ rfl rfl hl.1 rfl (lv_room (Nat.le_of_ble_eq_true rfl)) dX12_routeOn_107 ⟨Nat.zero_le _, Nat.zero_le _⟩) hS (fun q _ h => hFc q h) hFc (fun xi56 t H56 locs ht hvm hw56 hB hz1 hk1 hS => ?_)
              have hP : va_P (dC, dI) vwCl (wR 21 ad (EM cs ad) xi56) H56 := by rw [← ht]; exact hB
              obtain ⟨hfe56, ok, hw56, hkp56_0⟩ := hw56
              have hF := mi_let hF hfe56
              have kp57 : (∀ k f : Nat, Nat.testBit 510 (gpM k f) = true → xi56 k f = mu k f) := kp_t hkp56_0 (by decide) kp26
              obtain ⟨y58, ey58⟩ : ∃ z : Int32, z = xi56 0 39 := ⟨_, rfl⟩
              have hF := mi_let hF ey58
              have by58 : y58.toInt = (xi56 0 39).toInt := congrArg Int32.toInt ey58
              have gy58 : -9 ≤ y58.toInt ∧ y58.toInt ≤ 3 := by rw [ey58]; exact rM_0_39 ok
              obtain ⟨y59, ey59⟩ : ∃ z : Int32, z = xi56 0 33 := ⟨_, rfl⟩
              have hF := mi_let hF ey59
              have by59 : y59.toInt = (xi56 0 33).toInt := congrArg Int32.toInt ey59
              obtain ⟨y60, ey60⟩ : ∃ z : Int32, z = xi56 0 35 := ⟨_, rfl⟩
              have hF := mi_let hF ey60
              have by60 : y60.toInt = (xi56 0 35).toInt := congrArg Int32.toInt ey60
              have gr56 : ((xi56 0 39).toInt = -9 ∨ (0 ≤ (xi56 0 39).toInt ∧ (xi56 0 39).toInt ≤ 3)) ∧ ((xi56 0 33).toInt = 0 ∨ (xi56 0 35).toInt ≤ 7) := hw56
              refine lv_goto (tgt := 139) hx hb dX12_routeOn_110 (by decide) ?_
              refine lv_iinc (v := (v7_34 + 1)) (lv' := [(7, .int (v7_34 + 1)), (6, .int t8), (5, .int r5), (4, .int y4), (0, .ref (ad 0)), (1, .int 6), (2, .int vh), (3, .int vp)]) hx hb dX12_routeOn_139 hl (k := 0) rfl rfl (by decide) rfl (fun ls hl => ?_)
              refine loc_gen (P := fun w9 => lv_has ls 8 [(7, .int w9), (6, .int t8), (5, .int r5), (4, .int y4), (0, .ref (ad 0)), (1, .int 6), (2, .int vh), (3, .int vp)]) (v7_34 + 1) hl (fun w61 hw61 hl => ?_)
              have hl : lv_has ls 8 [(7, .int w61), (6, .int t8), (5, .int r5), (4, .int y4), (0, .ref (ad 0)), (1, .int 6), (2, .int vh), (3, .int vp)] := hl
              have hF := mi_let hF hw61.symm
              have aw61 : w61.toInt = v7_34.toInt + 1 := by rw [← hw61]; first | exact va1 (Int.lt_of_le_of_lt h_v7_34.2 (by decide)) | exact va1 (by omega)
              refine lv_goto (tgt := 34) hx hb dX12_routeOn_142 (by decide) ?_
              exact ih34 (w61) xi56 _ _ _ (by first | exact ms_up hm_34 aw61 h_v7_34.2 | exact ms_lt hm_34 (by omega) (by omega) | omega) (by first | exact rg_up aw61 h_v7_34 (by omega) | omega) (by first | assumption | (have hb62 := congrArg Int32.toInt ey58; have hb63 := congrArg Int32.toInt ey59; have hb64 := congrArg Int32.toInt ey60; omega)) ok hP  kp57 hF hS (lv_sub hl [0, 1, 2, 3, 4, 5, 6, 7] rfl)
          · have hF := (if_neg c_19).symm.trans hF
            have c_19 : ¬ y18.toInt = 0 := il_ne c_19
            refine lv_aload_n hx hb dX12_routeOn_60 rfl (lv_at hl 4 rfl) ?_
            refine va_get (D := (dC, dI)) (ci := 12) (v := .ref (ad 8)) (C := RX12) (T := TX12) (N := 46) hx hb hts inG12 hown hK hP 0 (gM_0 cs ad nu34_) rfl 10 (by decide) (hts _ (List.mem_cons_of_mem _ mw_5_51)) (fun _ h9 => h9) rfl dX12_routeOn_61 ?_
            refine lv_iload hx hb dX12_routeOn_64 (lv_at hl 0 rfl) ?_
            refine va_iald hx hb hK hP 8 0 (gM_8 cs ad nu34_) rfl (show vp_in v7_34 7 from vi_of (by omega) (by omega)) dX12_routeOn_66 ?_
            refine lv_topi (fun y65 ey65 => ?_)
            have hF := mi_let hF ey65
            have by65 : y65.toInt = (nu34_ 8 v7_34.toNatClampNeg).toInt := congrArg Int32.toInt ey65
            refine lv_iload hx hb dX12_routeOn_67 (lv_at hl 2 rfl) ?_
            refine lv_icmp_lt (tgt := 139) hx hb dX12_routeOn_69 (by decide) (fun c_66 => ?_) (fun c_66 => ?_)
            · have hF := (if_pos c_66).symm.trans hF
              have c_66 : y65.toInt < r5.toInt := il_lt c_66
              refine lv_iinc (v := (v7_34 + 1)) (lv' := [(7, .int (v7_34 + 1)), (6, .int t8), (5, .int r5), (4, .int y4), (0, .ref (ad 0)), (1, .int 6), (2, .int vh), (3, .int vp)]) hx hb dX12_routeOn_139 hl (k := 0) rfl rfl (by decide) rfl (fun ls hl => ?_)
              refine loc_gen (P := fun w9 => lv_has ls 8 [(7, .int w9), (6, .int t8), (5, .int r5), (4, .int y4), (0, .ref (ad 0)), (1, .int 6), (2, .int vh), (3, .int vp)]) (v7_34 + 1) hl (fun w67 hw67 hl => ?_)
              have hl : lv_has ls 8 [(7, .int w67), (6, .int t8), (5, .int r5), (4, .int y4), (0, .ref (ad 0)), (1, .int 6), (2, .int vh), (3, .int vp)] := hl
              have hF := mi_let hF hw67.symm
              have aw67 : w67.toInt = v7_34.toInt + 1 := by rw [← hw67]; first | exact va1 (Int.lt_of_le_of_lt h_v7_34.2 (by decide)) | exact va1 (by omega)
              refine lv_goto (tgt := 34) hx hb dX12_routeOn_142 (by decide) ?_
              exact ih34 (w67) nu34_ _ _ _ (by first | exact ms_up hm_34 aw67 h_v7_34.2 | exact ms_lt hm_34 (by omega) (by omega) | omega) (by first | exact rg_up aw67 h_v7_34 (by omega) | omega) (by first | assumption | (have hb68 := congrArg Int32.toInt ey9; have hb69 := congrArg Int32.toInt ey10; have hb70 := congrArg Int32.toInt ey11; omega)) ok hP  kq34_0 hF hS (lv_sub hl [0, 1, 2, 3, 4, 5, 6, 7] rfl)
            · have hF := (if_neg c_66).symm.trans hF
              have c_66 : r5.toInt ≤ y65.toInt := il_nlt c_66
              refine lv_aload_n hx hb dX12_routeOn_72 rfl (lv_at hl 4 rfl) ?_
              refine va_get (D := (dC, dI)) (ci := 12) (v := .ref (ad 16)) (C := RX12) (T := TX12) (N := 46) hx hb hts inG12 hown hK hP 0 (gM_0 cs ad nu34_) rfl 26 (by decide) (hts _ (List.mem_cons_of_mem _ mw_5_67)) (fun _ h9 => h9) rfl dX12_routeOn_73 ?_
              refine lv_iload_n hx hb dX12_routeOn_76 rfl (lv_at hl 5 rfl) ?_
              refine lv_iload hx hb dX12_routeOn_77 (lv_at hl 0 rfl) ?_
              refine va_iast hx hb hK hP (wR_D nu34_ hD) hS 16 0 (gM_16 cs ad nu34_) rfl (show vp_in 6 7 from (by unfold vp_in; decide)) dX12_routeOn_79 (fun H locs hP _ hS => ?_)
              refine wr_gen (upd (nu34_ 16) (6 : Int32).toNatClampNeg v7_34) hP (rfl) (fun nu71 hn71 hP => ?_)
              have hF := mi_let hF hn71.symm
              have ok := tM_16_s ok (6 : Int32).toNatClampNeg hn71 (by omega)
              have ez72 : y9 = nu71 0 39 := ey9.trans (congrFun (up_k hn71 (by decide)) 39).symm
              have ez73 : y10 = nu71 0 33 := ey10.trans (congrFun (up_k hn71 (by decide)) 33).symm
              have ez74 : y11 = nu71 0 35 := ey11.trans (congrFun (up_k hn71 (by decide)) 35).symm
              have ez75 : y12 = nu71 0 8 := ey12.trans (congrFun (up_k hn71 (by decide)) 8).symm
              have ez76 : y18 = nu71 0 38 := ey18.trans (congrFun (up_k hn71 (by decide)) 38).symm
              have ez77 : y65 = nu71 8 v7_34.toNatClampNeg := ey65.trans (congrFun (up_k hn71 (by decide)) v7_34.toNatClampNeg).symm
              have kp78 : (∀ k f : Nat, Nat.testBit 510 (gpM k f) = true → nu71 k f = mu k f) := kp_c 0 hn71 (fun _ => rfl) (by decide) kq34_0
              refine lv_iload hx hb dX12_routeOn_80 (lv_at hl 0 rfl) ?_
              refine lv_aload_n hx hb dX12_routeOn_82 rfl (lv_at hl 4 rfl) ?_
              refine va_get (D := (dC, dI)) (ci := 12) (v := .int (nu71 0 29)) (C := RX12) (T := TX12) (N := 46) hx hb hts inG12 hown hK hP 0 (gM_0 cs ad nu71) rfl 29 (by decide) (hts _ (List.mem_cons_of_mem _ mw_5_70)) (fun _ h9 => h9) rfl dX12_routeOn_83 ?_
              refine lv_topi (fun y79 ey79 => ?_)
              have hF := mi_let hF ey79
              have by79 : y79.toInt = (nu71 0 29).toInt := congrArg Int32.toInt ey79
              refine lv_icmp_ne (tgt := 113) hx hb dX12_routeOn_86 (by decide) (fun c_80 => ?_) (fun c_80 => ?_)
              · have hF := (if_neg c_80).symm.trans hF
                have c_80 : ¬ v7_34.toInt = y79.toInt := il_ne c_80
                refine lv_aload_n hx hb dX12_routeOn_113 rfl (lv_at hl 4 rfl) ?_
                refine va_get (D := (dC, dI)) (ci := 12) (v := .ref (ad 7)) (C := RX12) (T := TX12) (N := 46) hx hb hts inG12 hown hK hP 0 (gM_0 cs ad nu71) rfl 9 (by decide) (hts _ (List.mem_cons_of_mem _ mw_5_50)) (fun _ h9 => h9) rfl dX12_routeOn_114 ?_
                refine lv_iload hx hb dX12_routeOn_117 (lv_at hl 0 rfl) ?_
                refine va_iald hx hb hK hP 7 0 (gM_7 cs ad nu71) rfl (show vp_in v7_34 7 from vi_of (by omega) (by omega)) dX12_routeOn_119 ?_
                refine lv_topi (fun y81 ey81 => ?_)
                have hF := mi_let hF ey81
                have by81 : y81.toInt = (nu71 7 v7_34.toNatClampNeg).toInt := congrArg Int32.toInt ey81
                refine lv_iconst (v := 3) hx hb dX12_routeOn_120 (by decide) ?_
                refine lv_icmp_eq (tgt := 139) hx hb dX12_routeOn_121 (by decide) (fun c_82 => ?_) (fun c_82 => ?_)
                · have hF := (if_pos c_82).symm.trans hF
                  have c_82 : y81.toInt = 3 := il_eq c_82
                  refine lv_iinc (v := (v7_34 + 1)) (lv' := [(7, .int (v7_34 + 1)), (6, .int t8), (5, .int r5), (4, .int y4), (0, .ref (ad 0)), (1, .int 6), (2, .int vh), (3, .int vp)]) hx hb dX12_routeOn_139 hl (k := 0) rfl rfl (by decide) rfl (fun ls hl => ?_)
                  refine loc_gen (P := fun w9 => lv_has ls 8 [(7, .int w9), (6, .int t8), (5, .int r5), (4, .int y4), (0, .ref (ad 0)), (1, .int 6), (2, .int vh), (3, .int vp)]) (v7_34 + 1) hl (fun w83 hw83 hl => ?_)
                  have hl : lv_has ls 8 [(7, .int w83), (6, .int t8), (5, .int r5), (4, .int y4), (0, .ref (ad 0)), (1, .int 6), (2, .int vh), (3, .int vp)] := hl
                  have hF := mi_let hF hw83.symm
                  have aw83 : w83.toInt = v7_34.toInt + 1 := by rw [← hw83]; first | exact va1 (Int.lt_of_le_of_lt h_v7_34.2 (by decide)) | exact va1 (by omega)
                  refine lv_goto (tgt := 34) hx hb dX12_routeOn_142 (by decide) ?_
                  exact ih34 (w83) nu71 _ _ _ (by first | exact ms_up hm_34 aw83 h_v7_34.2 | exact ms_lt hm_34 (by omega) (by omega) | omega) (by first | exact rg_up aw83 h_v7_34 (by omega) | omega) (by first | assumption | (rw [← ez72, ← ez73, ← ez74, ey9, ey10, ey11]; assumption) | (have hb84 := congrArg Int32.toInt ez72; have hb85 := congrArg Int32.toInt ez73; have hb86 := congrArg Int32.toInt ez74; omega)) ok hP  kp78 hF hS (lv_sub hl [0, 1, 2, 3, 4, 5, 6, 7] rfl)
                · have hF := (if_neg c_82).symm.trans hF
                  have c_82 : ¬ y81.toInt = 3 := il_ne c_82
                  refine lv_aload_n hx hb dX12_routeOn_124 rfl (lv_at hl 4 rfl) ?_
                  refine lv_iload_n hx hb dX12_routeOn_125 rfl (lv_at hl 5 rfl) ?_
                  refine lv_iconst (v := 1) hx hb dX12_routeOn_126 (by decide) ?_
                  refine lv_iadd hx hb dX12_routeOn_127 ?_
                  refine lq_i 7 (by decide) ?_
                  refine lv_iload_n hx hb dX12_routeOn_128 rfl (lv_at hl 6 rfl) ?_
                  refine lv_iconst (v := 1) hx hb dX12_routeOn_129 (by decide) ?_
                  refine lv_iload hx hb dX12_routeOn_130 (lv_at hl 0 rfl) ?_
                  refine lv_ishl hx hb dX12_routeOn_132 ?_
                  refine lv_topi (fun t87 et87 => ?_)
                  have hF := mi_let hF et87
                  refine lv_ior hx hb dX12_routeOn_133 ?_
                  refine lv_topi (fun t88 et88 => ?_)
                  have hF := mi_let hF et88
                  refine lv_iload hx hb dX12_routeOn_134 (lv_at hl 2 rfl) ?_
                  have hFc := fr_all (wR_D nu71 hD) hS hA
                  refine va_callv (va_runV (As := [.int 7, .int t88, .int r5]) (rest := []) ⟨hx, hb, hml, hown, hts⟩ (sm_routeOn7 l dC dI cs ad nu71 ok H hP ((wR_D nu71 hD).weaken (fun _ _ _ _ => trivial)) t88 r5 (by have h50 : (7 : Int32).toInt = 7 := rfl; rw [et88, et87]; exact h7_next hin0 (by rw [et8, et7]) (by omega) (by omega) f17) (by have h50 : (7 : Int32).toInt = 7 := rfl; have hb89 := congrArg Int32.toInt ez72; have hb90 := congrArg Int32.toInt ez73; have hb91 := congrArg Int32.toInt ez74; omega)) (cwV 3 hts (wU_V mw_6_183 mw_6_180 mw_6_182 mw_0_55 mw_1_13) rfl rfl rfl (by decide +kernel) ⟨Nat.le_of_ble_eq_true rfl, Nat.le_of_ble_eq_true rfl⟩) ⟨sz_c, va_recv hK hP (ci := 12) (q0 := 0) rfl (gM_0 cs ad nu71), sz_m hK hz⟩ rfl rfl hl.1 rfl (lv_room (Nat.le_of_ble_eq_true rfl)) dX12_routeOn_136 ⟨Nat.zero_le _, Nat.zero_le _⟩) hS (fun q _ h => hFc q h) hFc (fun xi92 t H92 locs ht hvm hw92 hB hz1 hk1 hS => ?_)
                  have hP : va_P (dC, dI) vwCl (wR 21 ad (EM cs ad) xi92) H92 := by rw [← ht]; exact hB
                  obtain ⟨hfe92, ok, hw92, hkp92_0⟩ := hw92
                  have hF := mi_let hF hfe92
                  have kp93 : (∀ k f : Nat, Nat.testBit 510 (gpM k f) = true → xi92 k f = mu k f) := kp_t hkp92_0 (by decide) kp78
                  obtain ⟨y94, ey94⟩ : ∃ z : Int32, z = xi92 0 39 := ⟨_, rfl⟩
                  have hF := mi_let hF ey94
                  have by94 : y94.toInt = (xi92 0 39).toInt := congrArg Int32.toInt ey94
                  have gy94 : -9 ≤ y94.toInt ∧ y94.toInt ≤ 3 := by rw [ey94]; exact rM_0_39 ok
                  obtain ⟨y95, ey95⟩ : ∃ z : Int32, z = xi92 0 33 := ⟨_, rfl⟩
                  have hF := mi_let hF ey95
                  have by95 : y95.toInt = (xi92 0 33).toInt := congrArg Int32.toInt ey95
                  obtain ⟨y96, ey96⟩ : ∃ z : Int32, z = xi92 0 35 := ⟨_, rfl⟩
                  have hF := mi_let hF ey96
                  have by96 : y96.toInt = (xi92 0 35).toInt := congrArg Int32.toInt ey96
                  have gr92 : ((xi92 0 39).toInt = -9 ∨ (0 ≤ (xi92 0 39).toInt ∧ (xi92 0 39).toInt ≤ 3)) ∧ ((xi92 0 33).toInt = 0 ∨ (xi92 0 35).toInt ≤ 7) := hw92
                  refine lv_iinc (v := (v7_34 + 1)) (lv' := [(7, .int (v7_34 + 1)), (6, .int t8), (5, .int r5), (4, .int y4), (0, .ref (ad 0)), (1, .int 6), (2, .int vh), (3, .int vp)]) hx hb dX12_routeOn_139 hl (k := 0) rfl rfl (by decide) rfl (fun ls hl => ?_)
                  refine loc_gen (P := fun w9 => lv_has ls 8 [(7, .int w9), (6, .int t8), (5, .int r5), (4, .int y4), (0, .ref (ad 0)), (1, .int 6), (2, .int vh), (3, .int vp)]) (v7_34 + 1) hl (fun w97 hw97 hl => ?_)
                  have hl : lv_has ls 8 [(7, .int w97), (6, .int t8), (5, .int r5), (4, .int y4), (0, .ref (ad 0)), (1, .int 6), (2, .int vh), (3, .int vp)] := hl
                  have hF := mi_let hF hw97.symm
                  have aw97 : w97.toInt = v7_34.toInt + 1 := by rw [← hw97]; first | exact va1 (Int.lt_of_le_of_lt h_v7_34.2 (by decide)) | exact va1 (by omega)
                  refine lv_goto (tgt := 34) hx hb dX12_routeOn_142 (by decide) ?_
                  exact ih34 (w97) xi92 _ _ _ (by first | exact ms_up hm_34 aw97 h_v7_34.2 | exact ms_lt hm_34 (by omega) (by omega) | omega) (by first | exact rg_up aw97 h_v7_34 (by omega) | omega) (by first | assumption | (have hb98 := congrArg Int32.toInt ey94; have hb99 := congrArg Int32.toInt ey95; have hb100 := congrArg Int32.toInt ey96; omega)) ok hP  kp93 hF hS (lv_sub hl [0, 1, 2, 3, 4, 5, 6, 7] rfl)
              · have hF := (if_pos c_80).symm.trans hF
                have c_80 : v7_34.toInt = y79.toInt := il_eq c_80
                refine lv_aload_n hx hb dX12_routeOn_89 rfl (lv_at hl 4 rfl) ?_
                refine lv_iload_n hx hb dX12_routeOn_90 rfl (lv_at hl 5 rfl) ?_
                refine lv_iconst (v := 1) hx hb dX12_routeOn_91 (by decide) ?_
                refine lv_iadd hx hb dX12_routeOn_92 ?_
                refine lq_i 7 (by decide) ?_
                refine lv_iload_n hx hb dX12_routeOn_93 rfl (lv_at hl 6 rfl) ?_
                refine lv_iconst (v := 1) hx hb dX12_routeOn_94 (by decide) ?_
                refine lv_aload_n hx hb dX12_routeOn_95 rfl (lv_at hl 4 rfl) ?_
                refine va_get (D := (dC, dI)) (ci := 12) (v := .ref (ad 16)) (C := RX12) (T := TX12) (N := 46) hx hb hts inG12 hown hK hP 0 (gM_0 cs ad nu71) rfl 26 (by decide) (hts _ (List.mem_cons_of_mem _ mw_5_67)) (fun _ h9 => h9) rfl dX12_routeOn_96 ?_
                refine lv_iconst (v := 0) hx hb dX12_routeOn_99 (by decide) ?_
                refine va_iald hx hb hK hP 16 0 (gM_16 cs ad nu71) rfl (show vp_in 0 7 from (by unfold vp_in; decide)) dX12_routeOn_100 ?_
                refine lv_topi (fun y101 ey101 => ?_)
                have hF := mi_let hF ey101
                have by101 : y101.toInt = (nu71 16 (0 : Int32).toNatClampNeg).toInt := congrArg Int32.toInt ey101
                have gy101 : 0 ≤ y101.toInt ∧ y101.toInt ≤ 6 := by rw [ey101]; exact rM_16_s ok (0 : Int32).toNatClampNeg
                refine lv_ishl hx hb dX12_routeOn_101 ?_
                refine lv_topi (fun t102 et102 => ?_)
                have hF := mi_let hF et102
                refine lv_iconst (v := (-1)) hx hb dX12_routeOn_102 (by decide) ?_
                refine lv_ixor hx hb dX12_routeOn_103 ?_
                refine lv_topi (fun t103 et103 => ?_)
                have hF := mi_let hF et103
                refine lv_iand hx hb dX12_routeOn_104 ?_
                refine lv_topi (fun t104 et104 => ?_)
                have hF := mi_let hF et104
                refine lv_iload hx hb dX12_routeOn_105 (lv_at hl 2 rfl) ?_
                have hFc := fr_all (wR_D nu71 hD) hS hA
                refine va_callv (va_runV (As := [.int 7, .int t104, .int r5]) (rest := []) ⟨hx, hb, hml, hown, hts⟩ (sm_meetRoute l dC dI cs ad nu71 ok H hP ((wR_D nu71 hD).weaken (fun _ _ _ _ => trivial)) 7 t104 r5 (by have h50 : (7 : Int32).toInt = 7 := rfl; omega) (by have h50 : (7 : Int32).toInt = 7 := rfl; have hb105 := congrArg Int32.toInt ez72; have hb106 := congrArg Int32.toInt ez73; have hb107 := congrArg Int32.toInt ez74; omega)) (cwV 3 hts (wU_V mw_6_187 mw_6_184 mw_6_186 mw_0_56 mw_1_13) rfl rfl rfl (by decide +kernel) ⟨Nat.le_of_ble_eq_true rfl, Nat.le_of_ble_eq_true rfl⟩) ⟨sz_c, va_recv hK hP (ci := 12) (q0 := 0) rfl (gM_0 cs ad nu71), sz_m hK hz⟩ rfl rfl hl.1 rfl (lv_room (Nat.le_of_ble_eq_true rfl)) dX12_routeOn_107 ⟨Nat.zero_le _, Nat.zero_le _⟩) hS (fun q _ h => hFc q h) hFc (fun xi108 t H108 locs ht hvm hw108 hB hz1 hk1 hS => ?_)
                have hP : va_P (dC, dI) vwCl (wR 21 ad (EM cs ad) xi108) H108 := by rw [← ht]; exact hB
                obtain ⟨hfe108, ok, hw108, hkp108_0⟩ := hw108
                have hF := mi_let hF hfe108
                have kp109 : (∀ k f : Nat, Nat.testBit 510 (gpM k f) = true → xi108 k f = mu k f) := kp_t hkp108_0 (by decide) kp78
                obtain ⟨y110, ey110⟩ : ∃ z : Int32, z = xi108 0 39 := ⟨_, rfl⟩
                have hF := mi_let hF ey110
                have by110 : y110.toInt = (xi108 0 39).toInt := congrArg Int32.toInt ey110
                have gy110 : -9 ≤ y110.toInt ∧ y110.toInt ≤ 3 := by rw [ey110]; exact rM_0_39 ok
                obtain ⟨y111, ey111⟩ : ∃ z : Int32, z = xi108 0 33 := ⟨_, rfl⟩
                have hF := mi_let hF ey111
                have by111 : y111.toInt = (xi108 0 33).toInt := congrArg Int32.toInt ey111
                obtain ⟨y112, ey112⟩ : ∃ z : Int32, z = xi108 0 35 := ⟨_, rfl⟩
                have hF := mi_let hF ey112
                have by112 : y112.toInt = (xi108 0 35).toInt := congrArg Int32.toInt ey112
                have gr108 : ((xi108 0 39).toInt = -9 ∨ (0 ≤ (xi108 0 39).toInt ∧ (xi108 0 39).toInt ≤ 3)) ∧ ((xi108 0 33).toInt = 0 ∨ (xi108 0 35).toInt ≤ 7) := hw108
                refine lv_goto (tgt := 139) hx hb dX12_routeOn_110 (by decide) ?_
                refine lv_iinc (v := (v7_34 + 1)) (lv' := [(7, .int (v7_34 + 1)), (6, .int t8), (5, .int r5), (4, .int y4), (0, .ref (ad 0)), (1, .int 6), (2, .int vh), (3, .int vp)]) hx hb dX12_routeOn_139 hl (k := 0) rfl rfl (by decide) rfl (fun ls hl => ?_)
                refine loc_gen (P := fun w9 => lv_has ls 8 [(7, .int w9), (6, .int t8), (5, .int r5), (4, .int y4), (0, .ref (ad 0)), (1, .int 6), (2, .int vh), (3, .int vp)]) (v7_34 + 1) hl (fun w113 hw113 hl => ?_)
                have hl : lv_has ls 8 [(7, .int w113), (6, .int t8), (5, .int r5), (4, .int y4), (0, .ref (ad 0)), (1, .int 6), (2, .int vh), (3, .int vp)] := hl
                have hF := mi_let hF hw113.symm
                have aw113 : w113.toInt = v7_34.toInt + 1 := by rw [← hw113]; first | exact va1 (Int.lt_of_le_of_lt h_v7_34.2 (by decide)) | exact va1 (by omega)
                refine lv_goto (tgt := 34) hx hb dX12_routeOn_142 (by decide) ?_
                exact ih34 (w113) xi108 _ _ _ (by first | exact ms_up hm_34 aw113 h_v7_34.2 | exact ms_lt hm_34 (by omega) (by omega) | omega) (by first | exact rg_up aw113 h_v7_34 (by omega) | omega) (by first | assumption | (have hb114 := congrArg Int32.toInt ey110; have hb115 := congrArg Int32.toInt ey111; have hb116 := congrArg Int32.toInt ey112; omega)) ok hP  kp109 hF hS (lv_sub hl [0, 1, 2, 3, 4, 5, 6, 7] rfl)
        · have hF := (if_neg (fun h => absurd (hfe17.trans h) (by decide))).symm.trans hF
          have f17 : ¬ rb t8 v7_34 = 1 := f17
          refine lv_if_eq (tgt := 139) hx hb dX12_routeOn_50 (by decide) (fun _ => ?_) (fun c => absurd (by decide) c)
          refine lv_iinc (v := (v7_34 + 1)) (lv' := [(7, .int (v7_34 + 1)), (6, .int t8), (5, .int r5), (4, .int y4), (0, .ref (ad 0)), (1, .int 6), (2, .int vh), (3, .int vp)]) hx hb dX12_routeOn_139 hl (k := 0) rfl rfl (by decide) rfl (fun ls hl => ?_)
          refine loc_gen (P := fun w9 => lv_has ls 8 [(7, .int w9), (6, .int t8), (5, .int r5), (4, .int y4), (0, .ref (ad 0)), (1, .int 6), (2, .int vh), (3, .int vp)]) (v7_34 + 1) hl (fun w117 hw117 hl => ?_)
          have hl : lv_has ls 8 [(7, .int w117), (6, .int t8), (5, .int r5), (4, .int y4), (0, .ref (ad 0)), (1, .int 6), (2, .int vh), (3, .int vp)] := hl
          have hF := mi_let hF hw117.symm
          have aw117 : w117.toInt = v7_34.toInt + 1 := by rw [← hw117]; first | exact va1 (Int.lt_of_le_of_lt h_v7_34.2 (by decide)) | exact va1 (by omega)
          refine lv_goto (tgt := 34) hx hb dX12_routeOn_142 (by decide) ?_
          exact ih34 (w117) nu34_ _ _ _ (by first | exact ms_up hm_34 aw117 h_v7_34.2 | exact ms_lt hm_34 (by omega) (by omega) | omega) (by first | exact rg_up aw117 h_v7_34 (by omega) | omega) (by first | assumption | (have hb118 := congrArg Int32.toInt ey9; have hb119 := congrArg Int32.toInt ey10; have hb120 := congrArg Int32.toInt ey11; omega)) ok hP  kq34_0 hF hS (lv_sub hl [0, 1, 2, 3, 4, 5, 6, 7] rfl)
  exact loop34 10 (0) mu _ _ _ (by have h80 : (0 : Int32).toInt = 0 := rfl; omega) (by have h80 : (0 : Int32).toInt = 0 := rfl; exact ⟨by omega, by omega⟩) (by have h80 : (0 : Int32).toInt = 0 := rfl; have hb121 := congrArg Int32.toInt ey1; have hb122 := congrArg Int32.toInt ey2; have hb123 := congrArg Int32.toInt ey3; omega) ok hP  (fun _ _ _ => rfl) hF hS hl
set_option maxHeartbeats 4000000 in
set_option maxRecDepth 100000 in
/-- sm_routeOn5 -/
theorem sm_routeOn5 (l : Launch) (dC : Nat → ClassId) (dI : Nat → Nat → Nat) (cs : Nat → ClassId) (ad : Nat → Nat) (mu : Nat → Nat → Int32) (ok : okR loM hiM mu) (H : Heap) (hP : va_P (dC, dI) vwCl (wR 21 ad (EM cs ad) mu) H) (hD0 : va_D (fun _ => True) (wR 21 ad (EM cs ad) mu)) (vh : Int32) (vp : Int32) (hin0 : h7 5 vh) (hin1 : ((mu 0 39).toInt = -9 ∨ (0 ≤ (mu 0 39).toInt ∧ (mu 0 39).toInt ≤ 3)) ∧ ((mu 0 33).toInt = 0 ∨ (mu 0 35).toInt ≤ 7)) : Met l yX12_routeOn (wU yX12_routeOn cX12_routeOn 8 none) ({ frames := 4, cells := 0, slots := 0, locals := 100 }) (va_Pc [.ref (ad 0), .int 5, .int vh, .int vp] (sz_P (dC, dI) vwCl (tyM cs) H)) (va_Qv (fun (xi : Nat → Nat → Int32) => xi = F_sm_routeOn5 mu vh vp ∧ okR loM hiM xi ∧ (((xi 0 39).toInt = -9 ∨ (0 ≤ (xi 0 39).toInt ∧ (xi 0 39).toInt ≤ 3)) ∧ ((xi 0 33).toInt = 0 ∨ (xi 0 35).toInt ≤ 7)) ∧ (∀ k f : Nat, Nat.testBit 510 (gpM k f) = true → xi k f = mu k f)) (fun xi t => va_P (dC, dI) vwCl (wR 21 ad (EM cs ad) xi) t.heap) (va_A (wR 21 ad (EM cs ad) mu) H.size)) 0 0 (va_A (wR 21 ad (EM cs ad) mu) H.size) := by
  refine Met.ofW (cc := cX12_routeOn) (maxL := 8) (ret := none) (by decide) rfl ?_
  intro p e s m args below meth c s₁ B hml hv
  obtain ⟨rfl, hh, hK, hz⟩ := hv
  have hx := B.exec
  have hb := B.bytes
  have hr := B.returns
  have hts := atoms_spec (ws := (wU yX12_routeOn cX12_routeOn 8 none)) B.pre
  have hown : s.vm.findClass RX12 = some m.cls := findClass_of_methodNamed B.named
  have hlocks := B.notSynchronized
  subst hh
  have hD := hD0.self (sz := s.heap.size)
  have hA : ∀ q : Nat, s.heap.size ≤ q → (va_A (wR 21 ad (EM cs ad) mu) s.heap.size) q := fun q h => Or.inr h
  have hS : va_S (va_A (wR 21 ad (EM cs ad) mu) s.heap.size) s.heap s.heap [] := va_S.rf
  have hl := lv_entry ([.ref (ad 0), .int 5, .int vh, .int vp]) (n := 8) (Nat.le_of_ble_eq_true rfl)
  rw [lg_entry_eq]
  generalize (lg_sl ([.ref (ad 0), .int 5, .int vh, .int vp]) ++ List.replicate (8 - (lg_sl ([.ref (ad 0), .int 5, .int vh, .int vp])).length) Slot.unset).toArray = ls at hl ⊢
  have hl : lv_has ls 8 [(0, .ref (ad 0)), (1, .int 5), (2, .int vh), (3, .int vp)] := hl
  obtain ⟨fz, hfz⟩ : ∃ z, F_sm_routeOn5 mu vh vp = z := ⟨_, rfl⟩
  have hF := hfz
  unfold F_sm_routeOn5 at hF
  obtain ⟨y1, ey1⟩ : ∃ z : Int32, z = mu 0 39 := ⟨_, rfl⟩
  have hF := mi_let hF ey1
  have by1 : y1.toInt = (mu 0 39).toInt := congrArg Int32.toInt ey1
  have gy1 : -9 ≤ y1.toInt ∧ y1.toInt ≤ 3 := by rw [ey1]; exact rM_0_39 ok
  obtain ⟨y2, ey2⟩ : ∃ z : Int32, z = mu 0 33 := ⟨_, rfl⟩
  have hF := mi_let hF ey2
  have by2 : y2.toInt = (mu 0 33).toInt := congrArg Int32.toInt ey2
  obtain ⟨y3, ey3⟩ : ∃ z : Int32, z = mu 0 35 := ⟨_, rfl⟩
  have hF := mi_let hF ey3
  have by3 : y3.toInt = (mu 0 35).toInt := congrArg Int32.toInt ey3
  refine lv_aload_n hx hb dX12_routeOn_0 rfl (lv_at hl 0 rfl) ?_
  refine va_get (D := (dC, dI)) (ci := 12) (v := .ref (ad 16)) (C := RX12) (T := TX12) (N := 46) hx hb hts inG12 hown hK hP 0 (gM_0 cs ad mu) rfl 26 (by decide) (hts _ (List.mem_cons_of_mem _ mw_5_67)) (fun _ h9 => h9) rfl dX12_routeOn_1 ?_
  refine lv_iload_n hx hb dX12_routeOn_4 rfl (lv_at hl 1 rfl) ?_
  refine lv_iconst (v := 1) hx hb dX12_routeOn_5 (by decide) ?_
  refine lv_isub hx hb dX12_routeOn_6 ?_
  refine lq_i 4 (by decide) ?_
  refine va_iald hx hb hK hP 16 0 (gM_16 cs ad mu) rfl (show vp_in 4 7 from (by unfold vp_in; decide)) dX12_routeOn_7 ?_
  refine lv_topi (fun y4 ey4 => ?_)
  have hF := mi_let hF ey4
  have by4 : y4.toInt = (mu 16 (4 : Int32).toNatClampNeg).toInt := congrArg Int32.toInt ey4
  have gy4 : 0 ≤ y4.toInt ∧ y4.toInt ≤ 6 := by rw [ey4]; exact rM_16_s ok (4 : Int32).toNatClampNeg
  refine lv_istore (lv' := [(4, .int y4), (0, .ref (ad 0)), (1, .int 5), (2, .int vh), (3, .int vp)]) hx hb dX12_routeOn_8 hl (by decide) rfl (fun ls hl => ?_)
  refine lv_aload_n hx hb dX12_routeOn_10 rfl (lv_at hl 1 rfl) ?_
  refine lv_iload hx hb dX12_routeOn_11 (lv_at hl 0 rfl) ?_
  refine lv_iload_n hx hb dX12_routeOn_13 rfl (lv_at hl 4 rfl) ?_
  refine cr_i (va_runV (As := [.int y4, .int vp]) (rest := []) ⟨hx, hb, hml, hown, hts⟩ (sm_asksOf l dC dI cs ad mu ok s.heap hP y4 vp (by omega)) (cwV 2 hts (wU_V mw_6_74 mw_6_71 mw_6_73 mw_0_42 mw_1_13) rfl rfl rfl (by decide +kernel) ⟨Nat.le_of_ble_eq_true rfl, Nat.le_of_ble_eq_true rfl⟩) ⟨sz_c, va_recv hK hP (ci := 12) (q0 := 0) rfl (gM_0 cs ad mu), sz_m hK hz⟩ rfl rfl hl.1 rfl (lv_room (Nat.le_of_ble_eq_true rfl)) dX12_routeOn_14 ⟨Nat.zero_le _, Nat.zero_le _⟩) hS (fun r5 hw5 locs hS => ?_)
  obtain ⟨hfe5, hw5⟩ := hw5
  have hF := mi_let hF hfe5
  refine lv_istore (lv' := [(5, .int r5), (4, .int y4), (0, .ref (ad 0)), (1, .int 5), (2, .int vh), (3, .int vp)]) hx hb dX12_routeOn_17 hl (by decide) rfl (fun ls hl => ?_)
  refine lv_aload_n hx hb dX12_routeOn_19 rfl (lv_at hl 2 rfl) ?_
  refine lv_iload hx hb dX12_routeOn_20 (lv_at hl 1 rfl) ?_
  refine cr_i (va_runV (As := [.int y4]) (rest := []) ⟨hx, hb, hml, hown, hts⟩ (sm_besideOf l dC dI cs ad mu ok s.heap hP y4) (cwV 1 hts (wU_V mw_6_56 mw_6_53 mw_6_55 mw_0_40 mw_1_13) rfl rfl rfl (by decide +kernel) ⟨Nat.le_of_ble_eq_true rfl, Nat.le_of_ble_eq_true rfl⟩) ⟨sz_c, va_recv hK hP (ci := 12) (q0 := 0) rfl (gM_0 cs ad mu), sz_m hK hz⟩ rfl rfl hl.1 rfl (lv_room (Nat.le_of_ble_eq_true rfl)) dX12_routeOn_22 ⟨Nat.zero_le _, Nat.zero_le _⟩) hS (fun r6 hw6 locs hS => ?_)
  obtain ⟨hfe6, hw6⟩ := hw6
  have hF := mi_let hF hfe6
  refine lv_iload_n hx hb dX12_routeOn_25 rfl (lv_at hl 4 rfl) ?_
  refine lv_iconst (v := (-1)) hx hb dX12_routeOn_26 (by decide) ?_
  refine lv_ixor hx hb dX12_routeOn_27 ?_
  refine lv_topi (fun t7 et7 => ?_)
  have hF := mi_let hF et7
  refine lv_iand hx hb dX12_routeOn_28 ?_
  refine lv_topi (fun t8 et8 => ?_)
  have hF := mi_let hF et8
  refine lv_istore (lv' := [(6, .int t8), (5, .int r5), (4, .int y4), (0, .ref (ad 0)), (1, .int 5), (2, .int vh), (3, .int vp)]) hx hb dX12_routeOn_29 hl (by decide) rfl (fun ls hl => ?_)
  refine lv_iconst (v := 0) hx hb dX12_routeOn_31 (by decide) ?_
  refine lv_istore (lv' := [(7, .int 0), (6, .int t8), (5, .int r5), (4, .int y4), (0, .ref (ad 0)), (1, .int 5), (2, .int vh), (3, .int vp)]) hx hb dX12_routeOn_32 hl (by decide) rfl (fun ls hl => ?_)
  have loop34 : ∀ (n34 : Nat) (v7_34 : Int32) (nu34_ : Nat → Nat → Int32) (H : Heap) (locs : List Loc) (ls : Array Slot), (7 + 1 - v7_34.toInt).toNat < n34 → (0 ≤ v7_34.toInt ∧ v7_34.toInt ≤ 7) → (((nu34_ 0 39).toInt = -9 ∨ (0 ≤ (nu34_ 0 39).toInt ∧ (nu34_ 0 39).toInt ≤ 3)) ∧ ((nu34_ 0 33).toInt = 0 ∨ (nu34_ 0 35).toInt ≤ 7)) → okR loM hiM nu34_ → va_P (dC, dI) vwCl (wR 21 ad (EM cs ad) nu34_) H → (∀ k f : Nat, Nat.testBit 510 (gpM k f) = true → nu34_ k f = mu k f) → L_sm_routeOn5_34_0 r5 t8 vh n34 v7_34 nu34_ = fz → va_S (va_A (wR 21 ad (EM cs ad) mu) s.heap.size) s.heap H locs → lv_has ls 8 [(7, .int v7_34), (6, .int t8), (5, .int r5), (4, .int y4), (0, .ref (ad 0)), (1, .int 5), (2, .int vh), (3, .int vp)] → W p l e (headSpec (wU yX12_routeOn cX12_routeOn 8 none) ({ frames := 4, cells := 0, slots := 0, locals := 100 })).room s m ([.ref (ad 0), .int 5, .int vh, .int vp] : List Value).toArray below meth c H locs 0 0 (MQ below (va_Qv (fun (xi : Nat → Nat → Int32) => xi = F_sm_routeOn5 mu vh vp ∧ okR loM hiM xi ∧ (((xi 0 39).toInt = -9 ∨ (0 ≤ (xi 0 39).toInt ∧ (xi 0 39).toInt ≤ 3)) ∧ ((xi 0 33).toInt = 0 ∨ (xi 0 35).toInt ≤ 7)) ∧ (∀ k f : Nat, Nat.testBit 510 (gpM k f) = true → xi k f = mu k f)) (fun xi t => va_P (dC, dI) vwCl (wR 21 ad (EM cs ad) xi) t.heap) (va_A (wR 21 ad (EM cs ad) mu) s.heap.size)) ([.ref (ad 0), .int 5, .int vh, .int vp] : List Value).toArray s 0 0 (va_A (wR 21 ad (EM cs ad) mu) s.heap.size)) (F0 m 34 ls []) := by
    intro n34
    induction n34 with
    | zero => intro v7_34 nu34_ H locs ls hm; exact absurd hm (Nat.not_lt_zero _)
    | succ n34 ih34 =>
      intro v7_34 nu34_ H locs ls hm_34 h_v7_34 hi34_0 ok hP kq34_0 hF hS hl
      rw [L_sm_routeOn5_34_0] at hF
      obtain ⟨y9, ey9⟩ : ∃ z : Int32, z = nu34_ 0 39 := ⟨_, rfl⟩
      have hF := mi_let hF ey9
      have by9 : y9.toInt = (nu34_ 0 39).toInt := congrArg Int32.toInt ey9
      have gy9 : -9 ≤ y9.toInt ∧ y9.toInt ≤ 3 := by rw [ey9]; exact rM_0_39 ok
      obtain ⟨y10, ey10⟩ : ∃ z : Int32, z = nu34_ 0 33 := ⟨_, rfl⟩
      have hF := mi_let hF ey10
      have by10 : y10.toInt = (nu34_ 0 33).toInt := congrArg Int32.toInt ey10
      obtain ⟨y11, ey11⟩ : ∃ z : Int32, z = nu34_ 0 35 := ⟨_, rfl⟩
      have hF := mi_let hF ey11
      have by11 : y11.toInt = (nu34_ 0 35).toInt := congrArg Int32.toInt ey11
      refine lv_iload hx hb dX12_routeOn_34 (lv_at hl 0 rfl) ?_
      refine lv_aload_n hx hb dX12_routeOn_36 rfl (lv_at hl 4 rfl) ?_
      refine va_get (D := (dC, dI)) (ci := 12) (v := .int (nu34_ 0 8)) (C := RX12) (T := TX12) (N := 46) hx hb hts inG12 hown hK hP 0 (gM_0 cs ad nu34_) rfl 8 (by decide) (hts _ (List.mem_cons_of_mem _ mw_5_49)) (fun _ h9 => h9) rfl dX12_routeOn_37 ?_
      refine lv_topi (fun y12 ey12 => ?_)
      have hF := mi_let hF ey12
      have by12 : y12.toInt = (nu34_ 0 8).toInt := congrArg Int32.toInt ey12
      have gy12 : 0 ≤ y12.toInt ∧ y12.toInt ≤ 7 := by rw [ey12]; exact rM_0_8 ok
      refine lv_icmp_ge (tgt := 145) hx hb dX12_routeOn_40 (by decide) (fun c_13 => ?_) (fun c_13 => ?_)
      · have hF := (if_pos c_13).symm.trans hF
        have c_13 : y12.toInt ≤ v7_34.toInt := il_le c_13
        exact W.vret hx hb hr (fun t ht hW => ⟨⟨nu34_, rfl, ⟨hF.trans hfz.symm, ok, (by first | assumption | (have hb14 := congrArg Int32.toInt ey9; have hb15 := congrArg Int32.toInt ey10; have hb16 := congrArg Int32.toInt ey11; omega)), kq34_0⟩, by first | (subst ht; exact hP) | (rw [ht]; exact hP) | (show va_P (dC, dI) vwCl (wR 21 ad (EM cs ad) nu34_) t.heap; rw [ht]; exact hP)⟩, hS.F ht⟩) hS.2.2 dX12_routeOn_145
      · have hF := (if_neg c_13).symm.trans hF
        have c_13 : v7_34.toInt < y12.toInt := il_nle c_13
        refine lv_iload hx hb dX12_routeOn_43 (lv_at hl 1 rfl) ?_
        refine lv_iload hx hb dX12_routeOn_45 (lv_at hl 0 rfl) ?_
        refine cr_i (va_runS (As := [.int t8, .int v7_34]) (rest := []) ⟨hx, hb, hml, hown, hts⟩ (sm_has l dC dI (tyM cs) H t8 v7_34) (va_cwS 2 hts (wU_S mw_6_59 mw_6_57 mw_6_58 mw_1_13) rfl rfl rfl (by decide +kernel) ⟨Nat.le_of_ble_eq_true rfl, Nat.le_of_ble_eq_true rfl⟩) ⟨sz_c, sz_m hK hz⟩ rfl rfl hl.1 rfl (lv_room (Nat.le_of_ble_eq_true rfl)) dX12_routeOn_47 ⟨Nat.zero_le _, Nat.zero_le _⟩) hS (fun r17 hw17 locs hS => ?_)
        obtain ⟨hfe17, hw17⟩ := hw17
        rcases hw17 with ⟨rfl, f17⟩ | ⟨rfl, f17⟩
        · have hF := (if_pos hfe17.symm).symm.trans hF
          have f17 : rb t8 v7_34 = 1 := f17
          refine lv_if_eq (tgt := 139) hx hb dX12_routeOn_50 (by decide) (fun c => absurd c (by decide)) (fun _ => ?_)
          refine lv_aload_n hx hb dX12_routeOn_53 rfl (lv_at hl 4 rfl) ?_
          refine va_get (D := (dC, dI)) (ci := 12) (v := .int (nu34_ 0 38)) (C := RX12) (T := TX12) (N := 46) hx hb hts inG12 hown hK hP 0 (gM_0 cs ad nu34_) rfl 38 (by decide) (hts _ (List.mem_cons_of_mem _ mw_5_79)) (fun _ h9 => h9) rfl dX12_routeOn_54 ?_
          refine lv_topi (fun y18 ey18 => ?_)
          have hF := mi_let hF ey18
          have by18 : y18.toInt = (nu34_ 0 38).toInt := congrArg Int32.toInt ey18
          have gy18 : 0 ≤ y18.toInt ∧ y18.toInt ≤ 1 := by rw [ey18]; exact rM_0_38 ok
          refine lv_if_eq (tgt := 72) hx hb dX12_routeOn_57 (by decide) (fun c_19 => ?_) (fun c_19 => ?_)
          · have hF := (if_pos c_19).symm.trans hF
            have c_19 : y18.toInt = 0 := il_eq c_19
            refine lv_aload_n hx hb dX12_routeOn_72 rfl (lv_at hl 4 rfl) ?_
            refine va_get (D := (dC, dI)) (ci := 12) (v := .ref (ad 16)) (C := RX12) (T := TX12) (N := 46) hx hb hts inG12 hown hK hP 0 (gM_0 cs ad nu34_) rfl 26 (by decide) (hts _ (List.mem_cons_of_mem _ mw_5_67)) (fun _ h9 => h9) rfl dX12_routeOn_73 ?_
            refine lv_iload_n hx hb dX12_routeOn_76 rfl (lv_at hl 5 rfl) ?_
            refine lv_iload hx hb dX12_routeOn_77 (lv_at hl 0 rfl) ?_
            refine va_iast hx hb hK hP (wR_D nu34_ hD) hS 16 0 (gM_16 cs ad nu34_) rfl (show vp_in 5 7 from (by unfold vp_in; decide)) dX12_routeOn_79 (fun H locs hP _ hS => ?_)
            refine wr_gen (upd (nu34_ 16) (5 : Int32).toNatClampNeg v7_34) hP (rfl) (fun nu20 hn20 hP => ?_)
            have hF := mi_let hF hn20.symm
            have ok := tM_16_s ok (5 : Int32).toNatClampNeg hn20 (by omega)
            have ez21 : y9 = nu20 0 39 := ey9.trans (congrFun (up_k hn20 (by decide)) 39).symm
            have ez22 : y10 = nu20 0 33 := ey10.trans (congrFun (up_k hn20 (by decide)) 33).symm
            have ez23 : y11 = nu20 0 35 := ey11.trans (congrFun (up_k hn20 (by decide)) 35).symm
            have ez24 : y12 = nu20 0 8 := ey12.trans (congrFun (up_k hn20 (by decide)) 8).symm
            have ez25 : y18 = nu20 0 38 := ey18.trans (congrFun (up_k hn20 (by decide)) 38).symm
            have kp26 : (∀ k f : Nat, Nat.testBit 510 (gpM k f) = true → nu20 k f = mu k f) := kp_c 0 hn20 (fun _ => rfl) (by decide) kq34_0
            refine lv_iload hx hb dX12_routeOn_80 (lv_at hl 0 rfl) ?_
            refine lv_aload_n hx hb dX12_routeOn_82 rfl (lv_at hl 4 rfl) ?_
            refine va_get (D := (dC, dI)) (ci := 12) (v := .int (nu20 0 29)) (C := RX12) (T := TX12) (N := 46) hx hb hts inG12 hown hK hP 0 (gM_0 cs ad nu20) rfl 29 (by decide) (hts _ (List.mem_cons_of_mem _ mw_5_70)) (fun _ h9 => h9) rfl dX12_routeOn_83 ?_
            refine lv_topi (fun y27 ey27 => ?_)
            have hF := mi_let hF ey27
            have by27 : y27.toInt = (nu20 0 29).toInt := congrArg Int32.toInt ey27
            refine lv_icmp_ne (tgt := 113) hx hb dX12_routeOn_86 (by decide) (fun c_28 => ?_) (fun c_28 => ?_)
            · have hF := (if_neg c_28).symm.trans hF
              have c_28 : ¬ v7_34.toInt = y27.toInt := il_ne c_28
              refine lv_aload_n hx hb dX12_routeOn_113 rfl (lv_at hl 4 rfl) ?_
              refine va_get (D := (dC, dI)) (ci := 12) (v := .ref (ad 7)) (C := RX12) (T := TX12) (N := 46) hx hb hts inG12 hown hK hP 0 (gM_0 cs ad nu20) rfl 9 (by decide) (hts _ (List.mem_cons_of_mem _ mw_5_50)) (fun _ h9 => h9) rfl dX12_routeOn_114 ?_
              refine lv_iload hx hb dX12_routeOn_117 (lv_at hl 0 rfl) ?_
              refine va_iald hx hb hK hP 7 0 (gM_7 cs ad nu20) rfl (show vp_in v7_34 7 from vi_of (by omega) (by omega)) dX12_routeOn_119 ?_
              refine lv_topi (fun y29 ey29 => ?_)
              have hF := mi_let hF ey29
              have by29 : y29.toInt = (nu20 7 v7_34.toNatClampNeg).toInt := congrArg Int32.toInt ey29
              refine lv_iconst (v := 3) hx hb dX12_routeOn_120 (by decide) ?_
              refine lv_icmp_eq (tgt := 139) hx hb dX12_routeOn_121 (by decide) (fun c_30 => ?_) (fun c_30 => ?_)
              · have hF := (if_pos c_30).symm.trans hF
                have c_30 : y29.toInt = 3 := il_eq c_30
                refine lv_iinc (v := (v7_34 + 1)) (lv' := [(7, .int (v7_34 + 1)), (6, .int t8), (5, .int r5), (4, .int y4), (0, .ref (ad 0)), (1, .int 5), (2, .int vh), (3, .int vp)]) hx hb dX12_routeOn_139 hl (k := 0) rfl rfl (by decide) rfl (fun ls hl => ?_)
                refine loc_gen (P := fun w9 => lv_has ls 8 [(7, .int w9), (6, .int t8), (5, .int r5), (4, .int y4), (0, .ref (ad 0)), (1, .int 5), (2, .int vh), (3, .int vp)]) (v7_34 + 1) hl (fun w31 hw31 hl => ?_)
                have hl : lv_has ls 8 [(7, .int w31), (6, .int t8), (5, .int r5), (4, .int y4), (0, .ref (ad 0)), (1, .int 5), (2, .int vh), (3, .int vp)] := hl
                have hF := mi_let hF hw31.symm
                have aw31 : w31.toInt = v7_34.toInt + 1 := by rw [← hw31]; first | exact va1 (Int.lt_of_le_of_lt h_v7_34.2 (by decide)) | exact va1 (by omega)
                refine lv_goto (tgt := 34) hx hb dX12_routeOn_142 (by decide) ?_
                exact ih34 (w31) nu20 _ _ _ (by first | exact ms_up hm_34 aw31 h_v7_34.2 | exact ms_lt hm_34 (by omega) (by omega) | omega) (by first | exact rg_up aw31 h_v7_34 (by omega) | omega) (by first | assumption | (rw [← ez21, ← ez22, ← ez23, ey9, ey10, ey11]; assumption) | (have hb32 := congrArg Int32.toInt ez21; have hb33 := congrArg Int32.toInt ez22; have hb34 := congrArg Int32.toInt ez23; omega)) ok hP  kp26 hF hS (lv_sub hl [0, 1, 2, 3, 4, 5, 6, 7] rfl)
              · have hF := (if_neg c_30).symm.trans hF
                have c_30 : ¬ y29.toInt = 3 := il_ne c_30
                refine lv_aload_n hx hb dX12_routeOn_124 rfl (lv_at hl 4 rfl) ?_
                refine lv_iload_n hx hb dX12_routeOn_125 rfl (lv_at hl 5 rfl) ?_
                refine lv_iconst (v := 1) hx hb dX12_routeOn_126 (by decide) ?_
                refine lv_iadd hx hb dX12_routeOn_127 ?_
                refine lq_i 6 (by decide) ?_
                refine lv_iload_n hx hb dX12_routeOn_128 rfl (lv_at hl 6 rfl) ?_
                refine lv_iconst (v := 1) hx hb dX12_routeOn_129 (by decide) ?_
                refine lv_iload hx hb dX12_routeOn_130 (lv_at hl 0 rfl) ?_
                refine lv_ishl hx hb dX12_routeOn_132 ?_
                refine lv_topi (fun t35 et35 => ?_)
                have hF := mi_let hF et35
                refine lv_ior hx hb dX12_routeOn_133 ?_
                refine lv_topi (fun t36 et36 => ?_)
                have hF := mi_let hF et36
                refine lv_iload hx hb dX12_routeOn_134 (lv_at hl 2 rfl) ?_
                have hFc := fr_all (wR_D nu20 hD) hS hA
                refine va_callv (va_runV (As := [.int 6, .int t36, .int r5]) (rest := []) ⟨hx, hb, hml, hown, hts⟩ (sm_routeOn6 l dC dI cs ad nu20 ok H hP ((wR_D nu20 hD).weaken (fun _ _ _ _ => trivial)) t36 r5 (by have h50 : (6 : Int32).toInt = 6 := rfl; rw [et36, et35]; exact h7_next hin0 (by rw [et8, et7]) (by omega) (by omega) f17) (by have h50 : (6 : Int32).toInt = 6 := rfl; have hb37 := congrArg Int32.toInt ez21; have hb38 := congrArg Int32.toInt ez22; have hb39 := congrArg Int32.toInt ez23; omega)) (cwV 3 hts (wU_V mw_6_183 mw_6_180 mw_6_182 mw_0_55 mw_1_13) rfl rfl rfl (by decide +kernel) ⟨Nat.le_of_ble_eq_true rfl, Nat.le_of_ble_eq_true rfl⟩) ⟨sz_c, va_recv hK hP (ci := 12) (q0 := 0) rfl (gM_0 cs ad nu20), sz_m hK hz⟩ rfl rfl hl.1 rfl (lv_room (Nat.le_of_ble_eq_true rfl)) dX12_routeOn_136 ⟨Nat.zero_le _, Nat.zero_le _⟩) hS (fun q _ h => hFc q h) hFc (fun xi40 t H40 locs ht hvm hw40 hB hz1 hk1 hS => ?_)
                have hP : va_P (dC, dI) vwCl (wR 21 ad (EM cs ad) xi40) H40 := by rw [← ht]; exact hB
                obtain ⟨hfe40, ok, hw40, hkp40_0⟩ := hw40
                have hF := mi_let hF hfe40
                have kp41 : (∀ k f : Nat, Nat.testBit 510 (gpM k f) = true → xi40 k f = mu k f) := kp_t hkp40_0 (by decide) kp26
                obtain ⟨y42, ey42⟩ : ∃ z : Int32, z = xi40 0 39 := ⟨_, rfl⟩
                have hF := mi_let hF ey42
                have by42 : y42.toInt = (xi40 0 39).toInt := congrArg Int32.toInt ey42
                have gy42 : -9 ≤ y42.toInt ∧ y42.toInt ≤ 3 := by rw [ey42]; exact rM_0_39 ok
                obtain ⟨y43, ey43⟩ : ∃ z : Int32, z = xi40 0 33 := ⟨_, rfl⟩
                have hF := mi_let hF ey43
                have by43 : y43.toInt = (xi40 0 33).toInt := congrArg Int32.toInt ey43
                obtain ⟨y44, ey44⟩ : ∃ z : Int32, z = xi40 0 35 := ⟨_, rfl⟩
                have hF := mi_let hF ey44
                have by44 : y44.toInt = (xi40 0 35).toInt := congrArg Int32.toInt ey44
                have gr40 : ((xi40 0 39).toInt = -9 ∨ (0 ≤ (xi40 0 39).toInt ∧ (xi40 0 39).toInt ≤ 3)) ∧ ((xi40 0 33).toInt = 0 ∨ (xi40 0 35).toInt ≤ 7) := hw40
                refine lv_iinc (v := (v7_34 + 1)) (lv' := [(7, .int (v7_34 + 1)), (6, .int t8), (5, .int r5), (4, .int y4), (0, .ref (ad 0)), (1, .int 5), (2, .int vh), (3, .int vp)]) hx hb dX12_routeOn_139 hl (k := 0) rfl rfl (by decide) rfl (fun ls hl => ?_)
                refine loc_gen (P := fun w9 => lv_has ls 8 [(7, .int w9), (6, .int t8), (5, .int r5), (4, .int y4), (0, .ref (ad 0)), (1, .int 5), (2, .int vh), (3, .int vp)]) (v7_34 + 1) hl (fun w45 hw45 hl => ?_)
                have hl : lv_has ls 8 [(7, .int w45), (6, .int t8), (5, .int r5), (4, .int y4), (0, .ref (ad 0)), (1, .int 5), (2, .int vh), (3, .int vp)] := hl
                have hF := mi_let hF hw45.symm
                have aw45 : w45.toInt = v7_34.toInt + 1 := by rw [← hw45]; first | exact va1 (Int.lt_of_le_of_lt h_v7_34.2 (by decide)) | exact va1 (by omega)
                refine lv_goto (tgt := 34) hx hb dX12_routeOn_142 (by decide) ?_
                exact ih34 (w45) xi40 _ _ _ (by first | exact ms_up hm_34 aw45 h_v7_34.2 | exact ms_lt hm_34 (by omega) (by omega) | omega) (by first | exact rg_up aw45 h_v7_34 (by omega) | omega) (by first | assumption | (have hb46 := congrArg Int32.toInt ey42; have hb47 := congrArg Int32.toInt ey43; have hb48 := congrArg Int32.toInt ey44; omega)) ok hP  kp41 hF hS (lv_sub hl [0, 1, 2, 3, 4, 5, 6, 7] rfl)
            · have hF := (if_pos c_28).symm.trans hF
              have c_28 : v7_34.toInt = y27.toInt := il_eq c_28
              refine lv_aload_n hx hb dX12_routeOn_89 rfl (lv_at hl 4 rfl) ?_
              refine lv_iload_n hx hb dX12_routeOn_90 rfl (lv_at hl 5 rfl) ?_
              refine lv_iconst (v := 1) hx hb dX12_routeOn_91 (by decide) ?_
              refine lv_iadd hx hb dX12_routeOn_92 ?_
              refine lq_i 6 (by decide) ?_
              refine lv_iload_n hx hb dX12_routeOn_93 rfl (lv_at hl 6 rfl) ?_
              refine lv_iconst (v := 1) hx hb dX12_routeOn_94 (by decide) ?_
              refine lv_aload_n hx hb dX12_routeOn_95 rfl (lv_at hl 4 rfl) ?_
              refine va_get (D := (dC, dI)) (ci := 12) (v := .ref (ad 16)) (C := RX12) (T := TX12) (N := 46) hx hb hts inG12 hown hK hP 0 (gM_0 cs ad nu20) rfl 26 (by decide) (hts _ (List.mem_cons_of_mem _ mw_5_67)) (fun _ h9 => h9) rfl dX12_routeOn_96 ?_
              refine lv_iconst (v := 0) hx hb dX12_routeOn_99 (by decide) ?_
              refine va_iald hx hb hK hP 16 0 (gM_16 cs ad nu20) rfl (show vp_in 0 7 from (by unfold vp_in; decide)) dX12_routeOn_100 ?_
              refine lv_topi (fun y49 ey49 => ?_)
              have hF := mi_let hF ey49
              have by49 : y49.toInt = (nu20 16 (0 : Int32).toNatClampNeg).toInt := congrArg Int32.toInt ey49
              have gy49 : 0 ≤ y49.toInt ∧ y49.toInt ≤ 6 := by rw [ey49]; exact rM_16_s ok (0 : Int32).toNatClampNeg
              refine lv_ishl hx hb dX12_routeOn_101 ?_
              refine lv_topi (fun t50 et50 => ?_)
              have hF := mi_let hF et50
              refine lv_iconst (v := (-1)) hx hb dX12_routeOn_102 (by decide) ?_
              refine lv_ixor hx hb dX12_routeOn_103 ?_
              refine lv_topi (fun t51 et51 => ?_)
              have hF := mi_let hF et51
              refine lv_iand hx hb dX12_routeOn_104 ?_
              refine lv_topi (fun t52 et52 => ?_)
              have hF := mi_let hF et52
              refine lv_iload hx hb dX12_routeOn_105 (lv_at hl 2 rfl) ?_
              have hFc := fr_all (wR_D nu20 hD) hS hA
              refine va_callv (va_runV (As := [.int 6, .int t52, .int r5]) (rest := []) ⟨hx, hb, hml, hown, hts⟩ (sm_meetRoute l dC dI cs ad nu20 ok H hP ((wR_D nu20 hD).weaken (fun _ _ _ _ => trivial)) 6 t52 r5 (by have h50 : (6 : Int32).toInt = 6 := rfl; omega) (by have h50 : (6 : Int32).toInt = 6 := rfl; have hb53 := congrArg Int32.toInt ez21; have hb54 := congrArg Int32.toInt ez22; have hb55 := congrArg Int32.toInt ez23; omega)) (cwV 3 hts (wU_V mw_6_187 mw_6_184 mw_6_186 mw_0_56 mw_1_13) rfl rfl rfl (by decide +kernel) ⟨Nat.le_of_ble_eq_true rfl, Nat.le_of_ble_eq_true rfl⟩) ⟨sz_c, va_recv hK hP (ci := 12) (q0 := 0) rfl (gM_0 cs ad nu20), sz_m hK hz⟩ rfl rfl hl.1 rfl (lv_room (Nat.le_of_ble_eq_true rfl)) dX12_routeOn_107 ⟨Nat.zero_le _, Nat.zero_le _⟩) hS (fun q _ h => hFc q h) hFc (fun xi56 t H56 locs ht hvm hw56 hB hz1 hk1 hS => ?_)
              have hP : va_P (dC, dI) vwCl (wR 21 ad (EM cs ad) xi56) H56 := by rw [← ht]; exact hB
              obtain ⟨hfe56, ok, hw56, hkp56_0⟩ := hw56
              have hF := mi_let hF hfe56
              have kp57 : (∀ k f : Nat, Nat.testBit 510 (gpM k f) = true → xi56 k f = mu k f) := kp_t hkp56_0 (by decide) kp26
              obtain ⟨y58, ey58⟩ : ∃ z : Int32, z = xi56 0 39 := ⟨_, rfl⟩
              have hF := mi_let hF ey58
              have by58 : y58.toInt = (xi56 0 39).toInt := congrArg Int32.toInt ey58
              have gy58 : -9 ≤ y58.toInt ∧ y58.toInt ≤ 3 := by rw [ey58]; exact rM_0_39 ok
              obtain ⟨y59, ey59⟩ : ∃ z : Int32, z = xi56 0 33 := ⟨_, rfl⟩
              have hF := mi_let hF ey59
              have by59 : y59.toInt = (xi56 0 33).toInt := congrArg Int32.toInt ey59
              obtain ⟨y60, ey60⟩ : ∃ z : Int32, z = xi56 0 35 := ⟨_, rfl⟩
              have hF := mi_let hF ey60
              have by60 : y60.toInt = (xi56 0 35).toInt := congrArg Int32.toInt ey60
              have gr56 : ((xi56 0 39).toInt = -9 ∨ (0 ≤ (xi56 0 39).toInt ∧ (xi56 0 39).toInt ≤ 3)) ∧ ((xi56 0 33).toInt = 0 ∨ (xi56 0 35).toInt ≤ 7) := hw56
              refine lv_goto (tgt := 139) hx hb dX12_routeOn_110 (by decide) ?_
              refine lv_iinc (v := (v7_34 + 1)) (lv' := [(7, .int (v7_34 + 1)), (6, .int t8), (5, .int r5), (4, .int y4), (0, .ref (ad 0)), (1, .int 5), (2, .int vh), (3, .int vp)]) hx hb dX12_routeOn_139 hl (k := 0) rfl rfl (by decide) rfl (fun ls hl => ?_)
              refine loc_gen (P := fun w9 => lv_has ls 8 [(7, .int w9), (6, .int t8), (5, .int r5), (4, .int y4), (0, .ref (ad 0)), (1, .int 5), (2, .int vh), (3, .int vp)]) (v7_34 + 1) hl (fun w61 hw61 hl => ?_)
              have hl : lv_has ls 8 [(7, .int w61), (6, .int t8), (5, .int r5), (4, .int y4), (0, .ref (ad 0)), (1, .int 5), (2, .int vh), (3, .int vp)] := hl
              have hF := mi_let hF hw61.symm
              have aw61 : w61.toInt = v7_34.toInt + 1 := by rw [← hw61]; first | exact va1 (Int.lt_of_le_of_lt h_v7_34.2 (by decide)) | exact va1 (by omega)
              refine lv_goto (tgt := 34) hx hb dX12_routeOn_142 (by decide) ?_
              exact ih34 (w61) xi56 _ _ _ (by first | exact ms_up hm_34 aw61 h_v7_34.2 | exact ms_lt hm_34 (by omega) (by omega) | omega) (by first | exact rg_up aw61 h_v7_34 (by omega) | omega) (by first | assumption | (have hb62 := congrArg Int32.toInt ey58; have hb63 := congrArg Int32.toInt ey59; have hb64 := congrArg Int32.toInt ey60; omega)) ok hP  kp57 hF hS (lv_sub hl [0, 1, 2, 3, 4, 5, 6, 7] rfl)
          · have hF := (if_neg c_19).symm.trans hF
            have c_19 : ¬ y18.toInt = 0 := il_ne c_19
            refine lv_aload_n hx hb dX12_routeOn_60 rfl (lv_at hl 4 rfl) ?_
            refine va_get (D := (dC, dI)) (ci := 12) (v := .ref (ad 8)) (C := RX12) (T := TX12) (N := 46) hx hb hts inG12 hown hK hP 0 (gM_0 cs ad nu34_) rfl 10 (by decide) (hts _ (List.mem_cons_of_mem _ mw_5_51)) (fun _ h9 => h9) rfl dX12_routeOn_61 ?_
            refine lv_iload hx hb dX12_routeOn_64 (lv_at hl 0 rfl) ?_
            refine va_iald hx hb hK hP 8 0 (gM_8 cs ad nu34_) rfl (show vp_in v7_34 7 from vi_of (by omega) (by omega)) dX12_routeOn_66 ?_
            refine lv_topi (fun y65 ey65 => ?_)
            have hF := mi_let hF ey65
            have by65 : y65.toInt = (nu34_ 8 v7_34.toNatClampNeg).toInt := congrArg Int32.toInt ey65
            refine lv_iload hx hb dX12_routeOn_67 (lv_at hl 2 rfl) ?_
            refine lv_icmp_lt (tgt := 139) hx hb dX12_routeOn_69 (by decide) (fun c_66 => ?_) (fun c_66 => ?_)
            · have hF := (if_pos c_66).symm.trans hF
              have c_66 : y65.toInt < r5.toInt := il_lt c_66
              refine lv_iinc (v := (v7_34 + 1)) (lv' := [(7, .int (v7_34 + 1)), (6, .int t8), (5, .int r5), (4, .int y4), (0, .ref (ad 0)), (1, .int 5), (2, .int vh), (3, .int vp)]) hx hb dX12_routeOn_139 hl (k := 0) rfl rfl (by decide) rfl (fun ls hl => ?_)
              refine loc_gen (P := fun w9 => lv_has ls 8 [(7, .int w9), (6, .int t8), (5, .int r5), (4, .int y4), (0, .ref (ad 0)), (1, .int 5), (2, .int vh), (3, .int vp)]) (v7_34 + 1) hl (fun w67 hw67 hl => ?_)
              have hl : lv_has ls 8 [(7, .int w67), (6, .int t8), (5, .int r5), (4, .int y4), (0, .ref (ad 0)), (1, .int 5), (2, .int vh), (3, .int vp)] := hl
              have hF := mi_let hF hw67.symm
              have aw67 : w67.toInt = v7_34.toInt + 1 := by rw [← hw67]; first | exact va1 (Int.lt_of_le_of_lt h_v7_34.2 (by decide)) | exact va1 (by omega)
              refine lv_goto (tgt := 34) hx hb dX12_routeOn_142 (by decide) ?_
              exact ih34 (w67) nu34_ _ _ _ (by first | exact ms_up hm_34 aw67 h_v7_34.2 | exact ms_lt hm_34 (by omega) (by omega) | omega) (by first | exact rg_up aw67 h_v7_34 (by omega) | omega) (by first | assumption | (have hb68 := congrArg Int32.toInt ey9; have hb69 := congrArg Int32.toInt ey10; have hb70 := congrArg Int32.toInt ey11; omega)) ok hP  kq34_0 hF hS (lv_sub hl [0, 1, 2, 3, 4, 5, 6, 7] rfl)
            · have hF := (if_neg c_66).symm.trans hF
              have c_66 : r5.toInt ≤ y65.toInt := il_nlt c_66
              refine lv_aload_n hx hb dX12_routeOn_72 rfl (lv_at hl 4 rfl) ?_
              refine va_get (D := (dC, dI)) (ci := 12) (v := .ref (ad 16)) (C := RX12) (T := TX12) (N := 46) hx hb hts inG12 hown hK hP 0 (gM_0 cs ad nu34_) rfl 26 (by decide) (hts _ (List.mem_cons_of_mem _ mw_5_67)) (fun _ h9 => h9) rfl dX12_routeOn_73 ?_
              refine lv_iload_n hx hb dX12_routeOn_76 rfl (lv_at hl 5 rfl) ?_
              refine lv_iload hx hb dX12_routeOn_77 (lv_at hl 0 rfl) ?_
              refine va_iast hx hb hK hP (wR_D nu34_ hD) hS 16 0 (gM_16 cs ad nu34_) rfl (show vp_in 5 7 from (by unfold vp_in; decide)) dX12_routeOn_79 (fun H locs hP _ hS => ?_)
              refine wr_gen (upd (nu34_ 16) (5 : Int32).toNatClampNeg v7_34) hP (rfl) (fun nu71 hn71 hP => ?_)
              have hF := mi_let hF hn71.symm
              have ok := tM_16_s ok (5 : Int32).toNatClampNeg hn71 (by omega)
              have ez72 : y9 = nu71 0 39 := ey9.trans (congrFun (up_k hn71 (by decide)) 39).symm
              have ez73 : y10 = nu71 0 33 := ey10.trans (congrFun (up_k hn71 (by decide)) 33).symm
              have ez74 : y11 = nu71 0 35 := ey11.trans (congrFun (up_k hn71 (by decide)) 35).symm
              have ez75 : y12 = nu71 0 8 := ey12.trans (congrFun (up_k hn71 (by decide)) 8).symm
              have ez76 : y18 = nu71 0 38 := ey18.trans (congrFun (up_k hn71 (by decide)) 38).symm
              have ez77 : y65 = nu71 8 v7_34.toNatClampNeg := ey65.trans (congrFun (up_k hn71 (by decide)) v7_34.toNatClampNeg).symm
              have kp78 : (∀ k f : Nat, Nat.testBit 510 (gpM k f) = true → nu71 k f = mu k f) := kp_c 0 hn71 (fun _ => rfl) (by decide) kq34_0
              refine lv_iload hx hb dX12_routeOn_80 (lv_at hl 0 rfl) ?_
              refine lv_aload_n hx hb dX12_routeOn_82 rfl (lv_at hl 4 rfl) ?_
              refine va_get (D := (dC, dI)) (ci := 12) (v := .int (nu71 0 29)) (C := RX12) (T := TX12) (N := 46) hx hb hts inG12 hown hK hP 0 (gM_0 cs ad nu71) rfl 29 (by decide) (hts _ (List.mem_cons_of_mem _ mw_5_70)) (fun _ h9 => h9) rfl dX12_routeOn_83 ?_
              refine lv_topi (fun y79 ey79 => ?_)
              have hF := mi_let hF ey79
              have by79 : y79.toInt = (nu71 0 29).toInt := congrArg Int32.toInt ey79
              refine lv_icmp_ne (tgt := 113) hx hb dX12_routeOn_86 (by decide) (fun c_80 => ?_) (fun c_80 => ?_)
              · have hF := (if_neg c_80).symm.trans hF
                have c_80 : ¬ v7_34.toInt = y79.toInt := il_ne c_80
                refine lv_aload_n hx hb dX12_routeOn_113 rfl (lv_at hl 4 rfl) ?_
                refine va_get (D := (dC, dI)) (ci := 12) (v := .ref (ad 7)) (C := RX12) (T := TX12) (N := 46) hx hb hts inG12 hown hK hP 0 (gM_0 cs ad nu71) rfl 9 (by decide) (hts _ (List.mem_cons_of_mem _ mw_5_50)) (fun _ h9 => h9) rfl dX12_routeOn_114 ?_
                refine lv_iload hx hb dX12_routeOn_117 (lv_at hl 0 rfl) ?_
                refine va_iald hx hb hK hP 7 0 (gM_7 cs ad nu71) rfl (show vp_in v7_34 7 from vi_of (by omega) (by omega)) dX12_routeOn_119 ?_
                refine lv_topi (fun y81 ey81 => ?_)
                have hF := mi_let hF ey81
                have by81 : y81.toInt = (nu71 7 v7_34.toNatClampNeg).toInt := congrArg Int32.toInt ey81
                refine lv_iconst (v := 3) hx hb dX12_routeOn_120 (by decide) ?_
                refine lv_icmp_eq (tgt := 139) hx hb dX12_routeOn_121 (by decide) (fun c_82 => ?_) (fun c_82 => ?_)
                · have hF := (if_pos c_82).symm.trans hF
                  have c_82 : y81.toInt = 3 := il_eq c_82
                  refine lv_iinc (v := (v7_34 + 1)) (lv' := [(7, .int (v7_34 + 1)), (6, .int t8), (5, .int r5), (4, .int y4), (0, .ref (ad 0)), (1, .int 5), (2, .int vh), (3, .int vp)]) hx hb dX12_routeOn_139 hl (k := 0) rfl rfl (by decide) rfl (fun ls hl => ?_)
                  refine loc_gen (P := fun w9 => lv_has ls 8 [(7, .int w9), (6, .int t8), (5, .int r5), (4, .int y4), (0, .ref (ad 0)), (1, .int 5), (2, .int vh), (3, .int vp)]) (v7_34 + 1) hl (fun w83 hw83 hl => ?_)
                  have hl : lv_has ls 8 [(7, .int w83), (6, .int t8), (5, .int r5), (4, .int y4), (0, .ref (ad 0)), (1, .int 5), (2, .int vh), (3, .int vp)] := hl
                  have hF := mi_let hF hw83.symm
                  have aw83 : w83.toInt = v7_34.toInt + 1 := by rw [← hw83]; first | exact va1 (Int.lt_of_le_of_lt h_v7_34.2 (by decide)) | exact va1 (by omega)
                  refine lv_goto (tgt := 34) hx hb dX12_routeOn_142 (by decide) ?_
                  exact ih34 (w83) nu71 _ _ _ (by first | exact ms_up hm_34 aw83 h_v7_34.2 | exact ms_lt hm_34 (by omega) (by omega) | omega) (by first | exact rg_up aw83 h_v7_34 (by omega) | omega) (by first | assumption | (rw [← ez72, ← ez73, ← ez74, ey9, ey10, ey11]; assumption) | (have hb84 := congrArg Int32.toInt ez72; have hb85 := congrArg Int32.toInt ez73; have hb86 := congrArg Int32.toInt ez74; omega)) ok hP  kp78 hF hS (lv_sub hl [0, 1, 2, 3, 4, 5, 6, 7] rfl)
                · have hF := (if_neg c_82).symm.trans hF
                  have c_82 : ¬ y81.toInt = 3 := il_ne c_82
                  refine lv_aload_n hx hb dX12_routeOn_124 rfl (lv_at hl 4 rfl) ?_
                  refine lv_iload_n hx hb dX12_routeOn_125 rfl (lv_at hl 5 rfl) ?_
                  refine lv_iconst (v := 1) hx hb dX12_routeOn_126 (by decide) ?_
                  refine lv_iadd hx hb dX12_routeOn_127 ?_
                  refine lq_i 6 (by decide) ?_
                  refine lv_iload_n hx hb dX12_routeOn_128 rfl (lv_at hl 6 rfl) ?_
                  refine lv_iconst (v := 1) hx hb dX12_routeOn_129 (by decide) ?_
                  refine lv_iload hx hb dX12_routeOn_130 (lv_at hl 0 rfl) ?_
                  refine lv_ishl hx hb dX12_routeOn_132 ?_
                  refine lv_topi (fun t87 et87 => ?_)
                  have hF := mi_let hF et87
                  refine lv_ior hx hb dX12_routeOn_133 ?_
                  refine lv_topi (fun t88 et88 => ?_)
                  have hF := mi_let hF et88
                  refine lv_iload hx hb dX12_routeOn_134 (lv_at hl 2 rfl) ?_
                  have hFc := fr_all (wR_D nu71 hD) hS hA
                  refine va_callv (va_runV (As := [.int 6, .int t88, .int r5]) (rest := []) ⟨hx, hb, hml, hown, hts⟩ (sm_routeOn6 l dC dI cs ad nu71 ok H hP ((wR_D nu71 hD).weaken (fun _ _ _ _ => trivial)) t88 r5 (by have h50 : (6 : Int32).toInt = 6 := rfl; rw [et88, et87]; exact h7_next hin0 (by rw [et8, et7]) (by omega) (by omega) f17) (by have h50 : (6 : Int32).toInt = 6 := rfl; have hb89 := congrArg Int32.toInt ez72; have hb90 := congrArg Int32.toInt ez73; have hb91 := congrArg Int32.toInt ez74; omega)) (cwV 3 hts (wU_V mw_6_183 mw_6_180 mw_6_182 mw_0_55 mw_1_13) rfl rfl rfl (by decide +kernel) ⟨Nat.le_of_ble_eq_true rfl, Nat.le_of_ble_eq_true rfl⟩) ⟨sz_c, va_recv hK hP (ci := 12) (q0 := 0) rfl (gM_0 cs ad nu71), sz_m hK hz⟩ rfl rfl hl.1 rfl (lv_room (Nat.le_of_ble_eq_true rfl)) dX12_routeOn_136 ⟨Nat.zero_le _, Nat.zero_le _⟩) hS (fun q _ h => hFc q h) hFc (fun xi92 t H92 locs ht hvm hw92 hB hz1 hk1 hS => ?_)
                  have hP : va_P (dC, dI) vwCl (wR 21 ad (EM cs ad) xi92) H92 := by rw [← ht]; exact hB
                  obtain ⟨hfe92, ok, hw92, hkp92_0⟩ := hw92
                  have hF := mi_let hF hfe92
                  have kp93 : (∀ k f : Nat, Nat.testBit 510 (gpM k f) = true → xi92 k f = mu k f) := kp_t hkp92_0 (by decide) kp78
                  obtain ⟨y94, ey94⟩ : ∃ z : Int32, z = xi92 0 39 := ⟨_, rfl⟩
                  have hF := mi_let hF ey94
                  have by94 : y94.toInt = (xi92 0 39).toInt := congrArg Int32.toInt ey94
                  have gy94 : -9 ≤ y94.toInt ∧ y94.toInt ≤ 3 := by rw [ey94]; exact rM_0_39 ok
                  obtain ⟨y95, ey95⟩ : ∃ z : Int32, z = xi92 0 33 := ⟨_, rfl⟩
                  have hF := mi_let hF ey95
                  have by95 : y95.toInt = (xi92 0 33).toInt := congrArg Int32.toInt ey95
                  obtain ⟨y96, ey96⟩ : ∃ z : Int32, z = xi92 0 35 := ⟨_, rfl⟩
                  have hF := mi_let hF ey96
                  have by96 : y96.toInt = (xi92 0 35).toInt := congrArg Int32.toInt ey96
                  have gr92 : ((xi92 0 39).toInt = -9 ∨ (0 ≤ (xi92 0 39).toInt ∧ (xi92 0 39).toInt ≤ 3)) ∧ ((xi92 0 33).toInt = 0 ∨ (xi92 0 35).toInt ≤ 7) := hw92
                  refine lv_iinc (v := (v7_34 + 1)) (lv' := [(7, .int (v7_34 + 1)), (6, .int t8), (5, .int r5), (4, .int y4), (0, .ref (ad 0)), (1, .int 5), (2, .int vh), (3, .int vp)]) hx hb dX12_routeOn_139 hl (k := 0) rfl rfl (by decide) rfl (fun ls hl => ?_)
                  refine loc_gen (P := fun w9 => lv_has ls 8 [(7, .int w9), (6, .int t8), (5, .int r5), (4, .int y4), (0, .ref (ad 0)), (1, .int 5), (2, .int vh), (3, .int vp)]) (v7_34 + 1) hl (fun w97 hw97 hl => ?_)
                  have hl : lv_has ls 8 [(7, .int w97), (6, .int t8), (5, .int r5), (4, .int y4), (0, .ref (ad 0)), (1, .int 5), (2, .int vh), (3, .int vp)] := hl
                  have hF := mi_let hF hw97.symm
                  have aw97 : w97.toInt = v7_34.toInt + 1 := by rw [← hw97]; first | exact va1 (Int.lt_of_le_of_lt h_v7_34.2 (by decide)) | exact va1 (by omega)
                  refine lv_goto (tgt := 34) hx hb dX12_routeOn_142 (by decide) ?_
                  exact ih34 (w97) xi92 _ _ _ (by first | exact ms_up hm_34 aw97 h_v7_34.2 | exact ms_lt hm_34 (by omega) (by omega) | omega) (by first | exact rg_up aw97 h_v7_34 (by omega) | omega) (by first | assumption | (have hb98 := congrArg Int32.toInt ey94; have hb99 := congrArg Int32.toInt ey95; have hb100 := congrArg Int32.toInt ey96; omega)) ok hP  kp93 hF hS (lv_sub hl [0, 1, 2, 3, 4, 5, 6, 7] rfl)
              · have hF := (if_pos c_80).symm.trans hF
                have c_80 : v7_34.toInt = y79.toInt := il_eq c_80
                refine lv_aload_n hx hb dX12_routeOn_89 rfl (lv_at hl 4 rfl) ?_
                refine lv_iload_n hx hb dX12_routeOn_90 rfl (lv_at hl 5 rfl) ?_
                refine lv_iconst (v := 1) hx hb dX12_routeOn_91 (by decide) ?_
                refine lv_iadd hx hb dX12_routeOn_92 ?_
                refine lq_i 6 (by decide) ?_
                refine lv_iload_n hx hb dX12_routeOn_93 rfl (lv_at hl 6 rfl) ?_
                refine lv_iconst (v := 1) hx hb dX12_routeOn_94 (by decide) ?_
                refine lv_aload_n hx hb dX12_routeOn_95 rfl (lv_at hl 4 rfl) ?_
                refine va_get (D := (dC, dI)) (ci := 12) (v := .ref (ad 16)) (C := RX12) (T := TX12) (N := 46) hx hb hts inG12 hown hK hP 0 (gM_0 cs ad nu71) rfl 26 (by decide) (hts _ (List.mem_cons_of_mem _ mw_5_67)) (fun _ h9 => h9) rfl dX12_routeOn_96 ?_
                refine lv_iconst (v := 0) hx hb dX12_routeOn_99 (by decide) ?_
                refine va_iald hx hb hK hP 16 0 (gM_16 cs ad nu71) rfl (show vp_in 0 7 from (by unfold vp_in; decide)) dX12_routeOn_100 ?_
                refine lv_topi (fun y101 ey101 => ?_)
                have hF := mi_let hF ey101
                have by101 : y101.toInt = (nu71 16 (0 : Int32).toNatClampNeg).toInt := congrArg Int32.toInt ey101
                have gy101 : 0 ≤ y101.toInt ∧ y101.toInt ≤ 6 := by rw [ey101]; exact rM_16_s ok (0 : Int32).toNatClampNeg
                refine lv_ishl hx hb dX12_routeOn_101 ?_
                refine lv_topi (fun t102 et102 => ?_)
                have hF := mi_let hF et102
                refine lv_iconst (v := (-1)) hx hb dX12_routeOn_102 (by decide) ?_
                refine lv_ixor hx hb dX12_routeOn_103 ?_
                refine lv_topi (fun t103 et103 => ?_)
                have hF := mi_let hF et103
                refine lv_iand hx hb dX12_routeOn_104 ?_
                refine lv_topi (fun t104 et104 => ?_)
                have hF := mi_let hF et104
                refine lv_iload hx hb dX12_routeOn_105 (lv_at hl 2 rfl) ?_
                have hFc := fr_all (wR_D nu71 hD) hS hA
                refine va_callv (va_runV (As := [.int 6, .int t104, .int r5]) (rest := []) ⟨hx, hb, hml, hown, hts⟩ (sm_meetRoute l dC dI cs ad nu71 ok H hP ((wR_D nu71 hD).weaken (fun _ _ _ _ => trivial)) 6 t104 r5 (by have h50 : (6 : Int32).toInt = 6 := rfl; omega) (by have h50 : (6 : Int32).toInt = 6 := rfl; have hb105 := congrArg Int32.toInt ez72; have hb106 := congrArg Int32.toInt ez73; have hb107 := congrArg Int32.toInt ez74; omega)) (cwV 3 hts (wU_V mw_6_187 mw_6_184 mw_6_186 mw_0_56 mw_1_13) rfl rfl rfl (by decide +kernel) ⟨Nat.le_of_ble_eq_true rfl, Nat.le_of_ble_eq_true rfl⟩) ⟨sz_c, va_recv hK hP (ci := 12) (q0 := 0) rfl (gM_0 cs ad nu71), sz_m hK hz⟩ rfl rfl hl.1 rfl (lv_room (Nat.le_of_ble_eq_true rfl)) dX12_routeOn_107 ⟨Nat.zero_le _, Nat.zero_le _⟩) hS (fun q _ h => hFc q h) hFc (fun xi108 t H108 locs ht hvm hw108 hB hz1 hk1 hS => ?_)
                have hP : va_P (dC, dI) vwCl (wR 21 ad (EM cs ad) xi108) H108 := by rw [← ht]; exact hB
                obtain ⟨hfe108, ok, hw108, hkp108_0⟩ := hw108
                have hF := mi_let hF hfe108
                have kp109 : (∀ k f : Nat, Nat.testBit 510 (gpM k f) = true → xi108 k f = mu k f) := kp_t hkp108_0 (by decide) kp78
                obtain ⟨y110, ey110⟩ : ∃ z : Int32, z = xi108 0 39 := ⟨_, rfl⟩
                have hF := mi_let hF ey110
                have by110 : y110.toInt = (xi108 0 39).toInt := congrArg Int32.toInt ey110
                have gy110 : -9 ≤ y110.toInt ∧ y110.toInt ≤ 3 := by rw [ey110]; exact rM_0_39 ok
                obtain ⟨y111, ey111⟩ : ∃ z : Int32, z = xi108 0 33 := ⟨_, rfl⟩
                have hF := mi_let hF ey111
                have by111 : y111.toInt = (xi108 0 33).toInt := congrArg Int32.toInt ey111
                obtain ⟨y112, ey112⟩ : ∃ z : Int32, z = xi108 0 35 := ⟨_, rfl⟩
                have hF := mi_let hF ey112
                have by112 : y112.toInt = (xi108 0 35).toInt := congrArg Int32.toInt ey112
                have gr108 : ((xi108 0 39).toInt = -9 ∨ (0 ≤ (xi108 0 39).toInt ∧ (xi108 0 39).toInt ≤ 3)) ∧ ((xi108 0 33).toInt = 0 ∨ (xi108 0 35).toInt ≤ 7) := hw108
                refine lv_goto (tgt := 139) hx hb dX12_routeOn_110 (by decide) ?_
                refine lv_iinc (v := (v7_34 + 1)) (lv' := [(7, .int (v7_34 + 1)), (6, .int t8), (5, .int r5), (4, .int y4), (0, .ref (ad 0)), (1, .int 5), (2, .int vh), (3, .int vp)]) hx hb dX12_routeOn_139 hl (k := 0) rfl rfl (by decide) rfl (fun ls hl => ?_)
                refine loc_gen (P := fun w9 => lv_has ls 8 [(7, .int w9), (6, .int t8), (5, .int r5), (4, .int y4), (0, .ref (ad 0)), (1, .int 5), (2, .int vh), (3, .int vp)]) (v7_34 + 1) hl (fun w113 hw113 hl => ?_)
                have hl : lv_has ls 8 [(7, .int w113), (6, .int t8), (5, .int r5), (4, .int y4), (0, .ref (ad 0)), (1, .int 5), (2, .int vh), (3, .int vp)] := hl
                have hF := mi_let hF hw113.symm
                have aw113 : w113.toInt = v7_34.toInt + 1 := by rw [← hw113]; first | exact va1 (Int.lt_of_le_of_lt h_v7_34.2 (by decide)) | exact va1 (by omega)
                refine lv_goto (tgt := 34) hx hb dX12_routeOn_142 (by decide) ?_
                exact ih34 (w113) xi108 _ _ _ (by first | exact ms_up hm_34 aw113 h_v7_34.2 | exact ms_lt hm_34 (by omega) (by omega) | omega) (by first | exact rg_up aw113 h_v7_34 (by omega) | omega) (by first | assumption | (have hb114 := congrArg Int32.toInt ey110; have hb115 := congrArg Int32.toInt ey111; have hb116 := congrArg Int32.toInt ey112; omega)) ok hP  kp109 hF hS (lv_sub hl [0, 1, 2, 3, 4, 5, 6, 7] rfl)
        · have hF := (if_neg (fun h => absurd (hfe17.trans h) (by decide))).symm.trans hF
          have f17 : ¬ rb t8 v7_34 = 1 := f17
          refine lv_if_eq (tgt := 139) hx hb dX12_routeOn_50 (by decide) (fun _ => ?_) (fun c => absurd (by decide) c)
          refine lv_iinc (v := (v7_34 + 1)) (lv' := [(7, .int (v7_34 + 1)), (6, .int t8), (5, .int r5), (4, .int y4), (0, .ref (ad 0)), (1, .int 5), (2, .int vh), (3, .int vp)]) hx hb dX12_routeOn_139 hl (k := 0) rfl rfl (by decide) rfl (fun ls hl => ?_)
          refine loc_gen (P := fun w9 => lv_has ls 8 [(7, .int w9), (6, .int t8), (5, .int r5), (4, .int y4), (0, .ref (ad 0)), (1, .int 5), (2, .int vh), (3, .int vp)]) (v7_34 + 1) hl (fun w117 hw117 hl => ?_)
          have hl : lv_has ls 8 [(7, .int w117), (6, .int t8), (5, .int r5), (4, .int y4), (0, .ref (ad 0)), (1, .int 5), (2, .int vh), (3, .int vp)] := hl
          have hF := mi_let hF hw117.symm
          have aw117 : w117.toInt = v7_34.toInt + 1 := by rw [← hw117]; first | exact va1 (Int.lt_of_le_of_lt h_v7_34.2 (by decide)) | exact va1 (by omega)
          refine lv_goto (tgt := 34) hx hb dX12_routeOn_142 (by decide) ?_
          exact ih34 (w117) nu34_ _ _ _ (by first | exact ms_up hm_34 aw117 h_v7_34.2 | exact ms_lt hm_34 (by omega) (by omega) | omega) (by first | exact rg_up aw117 h_v7_34 (by omega) | omega) (by first | assumption | (have hb118 := congrArg Int32.toInt ey9; have hb119 := congrArg Int32.toInt ey10; have hb120 := congrArg Int32.toInt ey11; omega)) ok hP  kq34_0 hF hS (lv_sub hl [0, 1, 2, 3, 4, 5, 6, 7] rfl)
  exact loop34 10 (0) mu _ _ _ (by have h80 : (0 : Int32).toInt = 0 := rfl; omega) (by have h80 : (0 : Int32).toInt = 0 := rfl; exact ⟨by omega, by omega⟩) (by have h80 : (0 : Int32).toInt = 0 := rfl; have hb121 := congrArg Int32.toInt ey1; have hb122 := congrArg Int32.toInt ey2; have hb123 := congrArg Int32.toInt ey3; omega) ok hP  (fun _ _ _ => rfl) hF hS hl
set_option maxHeartbeats 4000000 in
set_option maxRecDepth 100000 in
/-- sm_routeOn4 -/
theorem sm_routeOn4 (l : Launch) (dC : Nat → ClassId) (dI : Nat → Nat → Nat) (cs : Nat → ClassId) (ad : Nat → Nat) (mu : Nat → Nat → Int32) (ok : okR loM hiM mu) (H : Heap) (hP : va_P (dC, dI) vwCl (wR 21 ad (EM cs ad) mu) H) (hD0 : va_D (fun _ => True) (wR 21 ad (EM cs ad) mu)) (vh : Int32) (vp : Int32) (hin0 : h7 4 vh) (hin1 : ((mu 0 39).toInt = -9 ∨ (0 ≤ (mu 0 39).toInt ∧ (mu 0 39).toInt ≤ 3)) ∧ ((mu 0 33).toInt = 0 ∨ (mu 0 35).toInt ≤ 7)) : Met l yX12_routeOn (wU yX12_routeOn cX12_routeOn 8 none) ({ frames := 5, cells := 0, slots := 0, locals := 127 }) (va_Pc [.ref (ad 0), .int 4, .int vh, .int vp] (sz_P (dC, dI) vwCl (tyM cs) H)) (va_Qv (fun (xi : Nat → Nat → Int32) => xi = F_sm_routeOn4 mu vh vp ∧ okR loM hiM xi ∧ (((xi 0 39).toInt = -9 ∨ (0 ≤ (xi 0 39).toInt ∧ (xi 0 39).toInt ≤ 3)) ∧ ((xi 0 33).toInt = 0 ∨ (xi 0 35).toInt ≤ 7)) ∧ (∀ k f : Nat, Nat.testBit 510 (gpM k f) = true → xi k f = mu k f)) (fun xi t => va_P (dC, dI) vwCl (wR 21 ad (EM cs ad) xi) t.heap) (va_A (wR 21 ad (EM cs ad) mu) H.size)) 0 0 (va_A (wR 21 ad (EM cs ad) mu) H.size) := by
  refine Met.ofW (cc := cX12_routeOn) (maxL := 8) (ret := none) (by decide) rfl ?_
  intro p e s m args below meth c s₁ B hml hv
  obtain ⟨rfl, hh, hK, hz⟩ := hv
  have hx := B.exec
  have hb := B.bytes
  have hr := B.returns
  have hts := atoms_spec (ws := (wU yX12_routeOn cX12_routeOn 8 none)) B.pre
  have hown : s.vm.findClass RX12 = some m.cls := findClass_of_methodNamed B.named
  have hlocks := B.notSynchronized
  subst hh
  have hD := hD0.self (sz := s.heap.size)
  have hA : ∀ q : Nat, s.heap.size ≤ q → (va_A (wR 21 ad (EM cs ad) mu) s.heap.size) q := fun q h => Or.inr h
  have hS : va_S (va_A (wR 21 ad (EM cs ad) mu) s.heap.size) s.heap s.heap [] := va_S.rf
  have hl := lv_entry ([.ref (ad 0), .int 4, .int vh, .int vp]) (n := 8) (Nat.le_of_ble_eq_true rfl)
  rw [lg_entry_eq]
  generalize (lg_sl ([.ref (ad 0), .int 4, .int vh, .int vp]) ++ List.replicate (8 - (lg_sl ([.ref (ad 0), .int 4, .int vh, .int vp])).length) Slot.unset).toArray = ls at hl ⊢
  have hl : lv_has ls 8 [(0, .ref (ad 0)), (1, .int 4), (2, .int vh), (3, .int vp)] := hl
  obtain ⟨fz, hfz⟩ : ∃ z, F_sm_routeOn4 mu vh vp = z := ⟨_, rfl⟩
  have hF := hfz
  unfold F_sm_routeOn4 at hF
  obtain ⟨y1, ey1⟩ : ∃ z : Int32, z = mu 0 39 := ⟨_, rfl⟩
  have hF := mi_let hF ey1
  have by1 : y1.toInt = (mu 0 39).toInt := congrArg Int32.toInt ey1
  have gy1 : -9 ≤ y1.toInt ∧ y1.toInt ≤ 3 := by rw [ey1]; exact rM_0_39 ok
  obtain ⟨y2, ey2⟩ : ∃ z : Int32, z = mu 0 33 := ⟨_, rfl⟩
  have hF := mi_let hF ey2
  have by2 : y2.toInt = (mu 0 33).toInt := congrArg Int32.toInt ey2
  obtain ⟨y3, ey3⟩ : ∃ z : Int32, z = mu 0 35 := ⟨_, rfl⟩
  have hF := mi_let hF ey3
  have by3 : y3.toInt = (mu 0 35).toInt := congrArg Int32.toInt ey3
  refine lv_aload_n hx hb dX12_routeOn_0 rfl (lv_at hl 0 rfl) ?_
  refine va_get (D := (dC, dI)) (ci := 12) (v := .ref (ad 16)) (C := RX12) (T := TX12) (N := 46) hx hb hts inG12 hown hK hP 0 (gM_0 cs ad mu) rfl 26 (by decide) (hts _ (List.mem_cons_of_mem _ mw_5_67)) (fun _ h9 => h9) rfl dX12_routeOn_1 ?_
  refine lv_iload_n hx hb dX12_routeOn_4 rfl (lv_at hl 1 rfl) ?_
  refine lv_iconst (v := 1) hx hb dX12_routeOn_5 (by decide) ?_
  refine lv_isub hx hb dX12_routeOn_6 ?_
  refine lq_i 3 (by decide) ?_
  refine va_iald hx hb hK hP 16 0 (gM_16 cs ad mu) rfl (show vp_in 3 7 from (by unfold vp_in; decide)) dX12_routeOn_7 ?_
  refine lv_topi (fun y4 ey4 => ?_)
  have hF := mi_let hF ey4
  have by4 : y4.toInt = (mu 16 (3 : Int32).toNatClampNeg).toInt := congrArg Int32.toInt ey4
  have gy4 : 0 ≤ y4.toInt ∧ y4.toInt ≤ 6 := by rw [ey4]; exact rM_16_s ok (3 : Int32).toNatClampNeg
  refine lv_istore (lv' := [(4, .int y4), (0, .ref (ad 0)), (1, .int 4), (2, .int vh), (3, .int vp)]) hx hb dX12_routeOn_8 hl (by decide) rfl (fun ls hl => ?_)
  refine lv_aload_n hx hb dX12_routeOn_10 rfl (lv_at hl 1 rfl) ?_
  refine lv_iload hx hb dX12_routeOn_11 (lv_at hl 0 rfl) ?_
  refine lv_iload_n hx hb dX12_routeOn_13 rfl (lv_at hl 4 rfl) ?_
  refine cr_i (va_runV (As := [.int y4, .int vp]) (rest := []) ⟨hx, hb, hml, hown, hts⟩ (sm_asksOf l dC dI cs ad mu ok s.heap hP y4 vp (by omega)) (cwV 2 hts (wU_V mw_6_74 mw_6_71 mw_6_73 mw_0_42 mw_1_13) rfl rfl rfl (by decide +kernel) ⟨Nat.le_of_ble_eq_true rfl, Nat.le_of_ble_eq_true rfl⟩) ⟨sz_c, va_recv hK hP (ci := 12) (q0 := 0) rfl (gM_0 cs ad mu), sz_m hK hz⟩ rfl rfl hl.1 rfl (lv_room (Nat.le_of_ble_eq_true rfl)) dX12_routeOn_14 ⟨Nat.zero_le _, Nat.zero_le _⟩) hS (fun r5 hw5 locs hS => ?_)
  obtain ⟨hfe5, hw5⟩ := hw5
  have hF := mi_let hF hfe5
  refine lv_istore (lv' := [(5, .int r5), (4, .int y4), (0, .ref (ad 0)), (1, .int 4), (2, .int vh), (3, .int vp)]) hx hb dX12_routeOn_17 hl (by decide) rfl (fun ls hl => ?_)
  refine lv_aload_n hx hb dX12_routeOn_19 rfl (lv_at hl 2 rfl) ?_
  refine lv_iload hx hb dX12_routeOn_20 (lv_at hl 1 rfl) ?_
  refine cr_i (va_runV (As := [.int y4]) (rest := []) ⟨hx, hb, hml, hown, hts⟩ (sm_besideOf l dC dI cs ad mu ok s.heap hP y4) (cwV 1 hts (wU_V mw_6_56 mw_6_53 mw_6_55 mw_0_40 mw_1_13) rfl rfl rfl (by decide +kernel) ⟨Nat.le_of_ble_eq_true rfl, Nat.le_of_ble_eq_true rfl⟩) ⟨sz_c, va_recv hK hP (ci := 12) (q0 := 0) rfl (gM_0 cs ad mu), sz_m hK hz⟩ rfl rfl hl.1 rfl (lv_room (Nat.le_of_ble_eq_true rfl)) dX12_routeOn_22 ⟨Nat.zero_le _, Nat.zero_le _⟩) hS (fun r6 hw6 locs hS => ?_)
  obtain ⟨hfe6, hw6⟩ := hw6
  have hF := mi_let hF hfe6
  refine lv_iload_n hx hb dX12_routeOn_25 rfl (lv_at hl 4 rfl) ?_
  refine lv_iconst (v := (-1)) hx hb dX12_routeOn_26 (by decide) ?_
  refine lv_ixor hx hb dX12_routeOn_27 ?_
  refine lv_topi (fun t7 et7 => ?_)
  have hF := mi_let hF et7
  refine lv_iand hx hb dX12_routeOn_28 ?_
  refine lv_topi (fun t8 et8 => ?_)
  have hF := mi_let hF et8
  refine lv_istore (lv' := [(6, .int t8), (5, .int r5), (4, .int y4), (0, .ref (ad 0)), (1, .int 4), (2, .int vh), (3, .int vp)]) hx hb dX12_routeOn_29 hl (by decide) rfl (fun ls hl => ?_)
  refine lv_iconst (v := 0) hx hb dX12_routeOn_31 (by decide) ?_
  refine lv_istore (lv' := [(7, .int 0), (6, .int t8), (5, .int r5), (4, .int y4), (0, .ref (ad 0)), (1, .int 4), (2, .int vh), (3, .int vp)]) hx hb dX12_routeOn_32 hl (by decide) rfl (fun ls hl => ?_)
  have loop34 : ∀ (n34 : Nat) (v7_34 : Int32) (nu34_ : Nat → Nat → Int32) (H : Heap) (locs : List Loc) (ls : Array Slot), (7 + 1 - v7_34.toInt).toNat < n34 → (0 ≤ v7_34.toInt ∧ v7_34.toInt ≤ 7) → (((nu34_ 0 39).toInt = -9 ∨ (0 ≤ (nu34_ 0 39).toInt ∧ (nu34_ 0 39).toInt ≤ 3)) ∧ ((nu34_ 0 33).toInt = 0 ∨ (nu34_ 0 35).toInt ≤ 7)) → okR loM hiM nu34_ → va_P (dC, dI) vwCl (wR 21 ad (EM cs ad) nu34_) H → (∀ k f : Nat, Nat.testBit 510 (gpM k f) = true → nu34_ k f = mu k f) → L_sm_routeOn4_34_0 r5 t8 vh n34 v7_34 nu34_ = fz → va_S (va_A (wR 21 ad (EM cs ad) mu) s.heap.size) s.heap H locs → lv_has ls 8 [(7, .int v7_34), (6, .int t8), (5, .int r5), (4, .int y4), (0, .ref (ad 0)), (1, .int 4), (2, .int vh), (3, .int vp)] → W p l e (headSpec (wU yX12_routeOn cX12_routeOn 8 none) ({ frames := 5, cells := 0, slots := 0, locals := 127 })).room s m ([.ref (ad 0), .int 4, .int vh, .int vp] : List Value).toArray below meth c H locs 0 0 (MQ below (va_Qv (fun (xi : Nat → Nat → Int32) => xi = F_sm_routeOn4 mu vh vp ∧ okR loM hiM xi ∧ (((xi 0 39).toInt = -9 ∨ (0 ≤ (xi 0 39).toInt ∧ (xi 0 39).toInt ≤ 3)) ∧ ((xi 0 33).toInt = 0 ∨ (xi 0 35).toInt ≤ 7)) ∧ (∀ k f : Nat, Nat.testBit 510 (gpM k f) = true → xi k f = mu k f)) (fun xi t => va_P (dC, dI) vwCl (wR 21 ad (EM cs ad) xi) t.heap) (va_A (wR 21 ad (EM cs ad) mu) s.heap.size)) ([.ref (ad 0), .int 4, .int vh, .int vp] : List Value).toArray s 0 0 (va_A (wR 21 ad (EM cs ad) mu) s.heap.size)) (F0 m 34 ls []) := by
    intro n34
    induction n34 with
    | zero => intro v7_34 nu34_ H locs ls hm; exact absurd hm (Nat.not_lt_zero _)
    | succ n34 ih34 =>
      intro v7_34 nu34_ H locs ls hm_34 h_v7_34 hi34_0 ok hP kq34_0 hF hS hl
      rw [L_sm_routeOn4_34_0] at hF
      obtain ⟨y9, ey9⟩ : ∃ z : Int32, z = nu34_ 0 39 := ⟨_, rfl⟩
      have hF := mi_let hF ey9
      have by9 : y9.toInt = (nu34_ 0 39).toInt := congrArg Int32.toInt ey9
      have gy9 : -9 ≤ y9.toInt ∧ y9.toInt ≤ 3 := by rw [ey9]; exact rM_0_39 ok
      obtain ⟨y10, ey10⟩ : ∃ z : Int32, z = nu34_ 0 33 := ⟨_, rfl⟩
      have hF := mi_let hF ey10
      have by10 : y10.toInt = (nu34_ 0 33).toInt := congrArg Int32.toInt ey10
      obtain ⟨y11, ey11⟩ : ∃ z : Int32, z = nu34_ 0 35 := ⟨_, rfl⟩
      have hF := mi_let hF ey11
      have by11 : y11.toInt = (nu34_ 0 35).toInt := congrArg Int32.toInt ey11
      refine lv_iload hx hb dX12_routeOn_34 (lv_at hl 0 rfl) ?_
      refine lv_aload_n hx hb dX12_routeOn_36 rfl (lv_at hl 4 rfl) ?_
      refine va_get (D := (dC, dI)) (ci := 12) (v := .int (nu34_ 0 8)) (C := RX12) (T := TX12) (N := 46) hx hb hts inG12 hown hK hP 0 (gM_0 cs ad nu34_) rfl 8 (by decide) (hts _ (List.mem_cons_of_mem _ mw_5_49)) (fun _ h9 => h9) rfl dX12_routeOn_37 ?_
      refine lv_topi (fun y12 ey12 => ?_)
      have hF := mi_let hF ey12
      have by12 : y12.toInt = (nu34_ 0 8).toInt := congrArg Int32.toInt ey12
      have gy12 : 0 ≤ y12.toInt ∧ y12.toInt ≤ 7 := by rw [ey12]; exact rM_0_8 ok
      refine lv_icmp_ge (tgt := 145) hx hb dX12_routeOn_40 (by decide) (fun c_13 => ?_) (fun c_13 => ?_)
      · have hF := (if_pos c_13).symm.trans hF
        have c_13 : y12.toInt ≤ v7_34.toInt := il_le c_13
        exact W.vret hx hb hr (fun t ht hW => ⟨⟨nu34_, rfl, ⟨hF.trans hfz.symm, ok, (by first | assumption | (have hb14 := congrArg Int32.toInt ey9; have hb15 := congrArg Int32.toInt ey10; have hb16 := congrArg Int32.toInt ey11; omega)), kq34_0⟩, by first | (subst ht; exact hP) | (rw [ht]; exact hP) | (show va_P (dC, dI) vwCl (wR 21 ad (EM cs ad) nu34_) t.heap; rw [ht]; exact hP)⟩, hS.F ht⟩) hS.2.2 dX12_routeOn_145
      · have hF := (if_neg c_13).symm.trans hF
        have c_13 : v7_34.toInt < y12.toInt := il_nle c_13
        refine lv_iload hx hb dX12_routeOn_43 (lv_at hl 1 rfl) ?_
        refine lv_iload hx hb dX12_routeOn_45 (lv_at hl 0 rfl) ?_
        refine cr_i (va_runS (As := [.int t8, .int v7_34]) (rest := []) ⟨hx, hb, hml, hown, hts⟩ (sm_has l dC dI (tyM cs) H t8 v7_34) (va_cwS 2 hts (wU_S mw_6_59 mw_6_57 mw_6_58 mw_1_13) rfl rfl rfl (by decide +kernel) ⟨Nat.le_of_ble_eq_true rfl, Nat.le_of_ble_eq_true rfl⟩) ⟨sz_c, sz_m hK hz⟩ rfl rfl hl.1 rfl (lv_room (Nat.le_of_ble_eq_true rfl)) dX12_routeOn_47 ⟨Nat.zero_le _, Nat.zero_le _⟩) hS (fun r17 hw17 locs hS => ?_)
        obtain ⟨hfe17, hw17⟩ := hw17
        rcases hw17 with ⟨rfl, f17⟩ | ⟨rfl, f17⟩
        · have hF := (if_pos hfe17.symm).symm.trans hF
          have f17 : rb t8 v7_34 = 1 := f17
          refine lv_if_eq (tgt := 139) hx hb dX12_routeOn_50 (by decide) (fun c => absurd c (by decide)) (fun _ => ?_)
          refine lv_aload_n hx hb dX12_routeOn_53 rfl (lv_at hl 4 rfl) ?_
          refine va_get (D := (dC, dI)) (ci := 12) (v := .int (nu34_ 0 38)) (C := RX12) (T := TX12) (N := 46) hx hb hts inG12 hown hK hP 0 (gM_0 cs ad nu34_) rfl 38 (by decide) (hts _ (List.mem_cons_of_mem _ mw_5_79)) (fun _ h9 => h9) rfl dX12_routeOn_54 ?_
          refine lv_topi (fun y18 ey18 => ?_)
          have hF := mi_let hF ey18
          have by18 : y18.toInt = (nu34_ 0 38).toInt := congrArg Int32.toInt ey18
          have gy18 : 0 ≤ y18.toInt ∧ y18.toInt ≤ 1 := by rw [ey18]; exact rM_0_38 ok
          refine lv_if_eq (tgt := 72) hx hb dX12_routeOn_57 (by decide) (fun c_19 => ?_) (fun c_19 => ?_)
          · have hF := (if_pos c_19).symm.trans hF
            have c_19 : y18.toInt = 0 := il_eq c_19
            refine lv_aload_n hx hb dX12_routeOn_72 rfl (lv_at hl 4 rfl) ?_
            refine va_get (D := (dC, dI)) (ci := 12) (v := .ref (ad 16)) (C := RX12) (T := TX12) (N := 46) hx hb hts inG12 hown hK hP 0 (gM_0 cs ad nu34_) rfl 26 (by decide) (hts _ (List.mem_cons_of_mem _ mw_5_67)) (fun _ h9 => h9) rfl dX12_routeOn_73 ?_
            refine lv_iload_n hx hb dX12_routeOn_76 rfl (lv_at hl 5 rfl) ?_
            refine lv_iload hx hb dX12_routeOn_77 (lv_at hl 0 rfl) ?_
            refine va_iast hx hb hK hP (wR_D nu34_ hD) hS 16 0 (gM_16 cs ad nu34_) rfl (show vp_in 4 7 from (by unfold vp_in; decide)) dX12_routeOn_79 (fun H locs hP _ hS => ?_)
            refine wr_gen (upd (nu34_ 16) (4 : Int32).toNatClampNeg v7_34) hP (rfl) (fun nu20 hn20 hP => ?_)
            have hF := mi_let hF hn20.symm
            have ok := tM_16_s ok (4 : Int32).toNatClampNeg hn20 (by omega)
            have ez21 : y9 = nu20 0 39 := ey9.trans (congrFun (up_k hn20 (by decide)) 39).symm
            have ez22 : y10 = nu20 0 33 := ey10.trans (congrFun (up_k hn20 (by decide)) 33).symm
            have ez23 : y11 = nu20 0 35 := ey11.trans (congrFun (up_k hn20 (by decide)) 35).symm
            have ez24 : y12 = nu20 0 8 := ey12.trans (congrFun (up_k hn20 (by decide)) 8).symm
            have ez25 : y18 = nu20 0 38 := ey18.trans (congrFun (up_k hn20 (by decide)) 38).symm
            have kp26 : (∀ k f : Nat, Nat.testBit 510 (gpM k f) = true → nu20 k f = mu k f) := kp_c 0 hn20 (fun _ => rfl) (by decide) kq34_0
            refine lv_iload hx hb dX12_routeOn_80 (lv_at hl 0 rfl) ?_
            refine lv_aload_n hx hb dX12_routeOn_82 rfl (lv_at hl 4 rfl) ?_
            refine va_get (D := (dC, dI)) (ci := 12) (v := .int (nu20 0 29)) (C := RX12) (T := TX12) (N := 46) hx hb hts inG12 hown hK hP 0 (gM_0 cs ad nu20) rfl 29 (by decide) (hts _ (List.mem_cons_of_mem _ mw_5_70)) (fun _ h9 => h9) rfl dX12_routeOn_83 ?_
            refine lv_topi (fun y27 ey27 => ?_)
            have hF := mi_let hF ey27
            have by27 : y27.toInt = (nu20 0 29).toInt := congrArg Int32.toInt ey27
            refine lv_icmp_ne (tgt := 113) hx hb dX12_routeOn_86 (by decide) (fun c_28 => ?_) (fun c_28 => ?_)
            · have hF := (if_neg c_28).symm.trans hF
              have c_28 : ¬ v7_34.toInt = y27.toInt := il_ne c_28
              refine lv_aload_n hx hb dX12_routeOn_113 rfl (lv_at hl 4 rfl) ?_
              refine va_get (D := (dC, dI)) (ci := 12) (v := .ref (ad 7)) (C := RX12) (T := TX12) (N := 46) hx hb hts inG12 hown hK hP 0 (gM_0 cs ad nu20) rfl 9 (by decide) (hts _ (List.mem_cons_of_mem _ mw_5_50)) (fun _ h9 => h9) rfl dX12_routeOn_114 ?_
              refine lv_iload hx hb dX12_routeOn_117 (lv_at hl 0 rfl) ?_
              refine va_iald hx hb hK hP 7 0 (gM_7 cs ad nu20) rfl (show vp_in v7_34 7 from vi_of (by omega) (by omega)) dX12_routeOn_119 ?_
              refine lv_topi (fun y29 ey29 => ?_)
              have hF := mi_let hF ey29
              have by29 : y29.toInt = (nu20 7 v7_34.toNatClampNeg).toInt := congrArg Int32.toInt ey29
              refine lv_iconst (v := 3) hx hb dX12_routeOn_120 (by decide) ?_
              refine lv_icmp_eq (tgt := 139) hx hb dX12_routeOn_121 (by decide) (fun c_30 => ?_) (fun c_30 => ?_)
              · have hF := (if_pos c_30).symm.trans hF
                have c_30 : y29.toInt = 3 := il_eq c_30
                refine lv_iinc (v := (v7_34 + 1)) (lv' := [(7, .int (v7_34 + 1)), (6, .int t8), (5, .int r5), (4, .int y4), (0, .ref (ad 0)), (1, .int 4), (2, .int vh), (3, .int vp)]) hx hb dX12_routeOn_139 hl (k := 0) rfl rfl (by decide) rfl (fun ls hl => ?_)
                refine loc_gen (P := fun w9 => lv_has ls 8 [(7, .int w9), (6, .int t8), (5, .int r5), (4, .int y4), (0, .ref (ad 0)), (1, .int 4), (2, .int vh), (3, .int vp)]) (v7_34 + 1) hl (fun w31 hw31 hl => ?_)
                have hl : lv_has ls 8 [(7, .int w31), (6, .int t8), (5, .int r5), (4, .int y4), (0, .ref (ad 0)), (1, .int 4), (2, .int vh), (3, .int vp)] := hl
                have hF := mi_let hF hw31.symm
                have aw31 : w31.toInt = v7_34.toInt + 1 := by rw [← hw31]; first | exact va1 (Int.lt_of_le_of_lt h_v7_34.2 (by decide)) | exact va1 (by omega)
                refine lv_goto (tgt := 34) hx hb dX12_routeOn_142 (by decide) ?_
                exact ih34 (w31) nu20 _ _ _ (by first | exact ms_up hm_34 aw31 h_v7_34.2 | exact ms_lt hm_34 (by omega) (by omega) | omega) (by first | exact rg_up aw31 h_v7_34 (by omega) | omega) (by first | assumption | (rw [← ez21, ← ez22, ← ez23, ey9, ey10, ey11]; assumption) | (have hb32 := congrArg Int32.toInt ez21; have hb33 := congrArg Int32.toInt ez22; have hb34 := congrArg Int32.toInt ez23; omega)) ok hP  kp26 hF hS (lv_sub hl [0, 1, 2, 3, 4, 5, 6, 7] rfl)
              · have hF := (if_neg c_30).symm.trans hF
                have c_30 : ¬ y29.toInt = 3 := il_ne c_30
                refine lv_aload_n hx hb dX12_routeOn_124 rfl (lv_at hl 4 rfl) ?_
                refine lv_iload_n hx hb dX12_routeOn_125 rfl (lv_at hl 5 rfl) ?_
                refine lv_iconst (v := 1) hx hb dX12_routeOn_126 (by decide) ?_
                refine lv_iadd hx hb dX12_routeOn_127 ?_
                refine lq_i 5 (by decide) ?_
                refine lv_iload_n hx hb dX12_routeOn_128 rfl (lv_at hl 6 rfl) ?_
                refine lv_iconst (v := 1) hx hb dX12_routeOn_129 (by decide) ?_
                refine lv_iload hx hb dX12_routeOn_130 (lv_at hl 0 rfl) ?_
                refine lv_ishl hx hb dX12_routeOn_132 ?_
                refine lv_topi (fun t35 et35 => ?_)
                have hF := mi_let hF et35
                refine lv_ior hx hb dX12_routeOn_133 ?_
                refine lv_topi (fun t36 et36 => ?_)
                have hF := mi_let hF et36
                refine lv_iload hx hb dX12_routeOn_134 (lv_at hl 2 rfl) ?_
                have hFc := fr_all (wR_D nu20 hD) hS hA
                refine va_callv (va_runV (As := [.int 5, .int t36, .int r5]) (rest := []) ⟨hx, hb, hml, hown, hts⟩ (sm_routeOn5 l dC dI cs ad nu20 ok H hP ((wR_D nu20 hD).weaken (fun _ _ _ _ => trivial)) t36 r5 (by have h50 : (5 : Int32).toInt = 5 := rfl; rw [et36, et35]; exact h7_next hin0 (by rw [et8, et7]) (by omega) (by omega) f17) (by have h50 : (5 : Int32).toInt = 5 := rfl; have hb37 := congrArg Int32.toInt ez21; have hb38 := congrArg Int32.toInt ez22; have hb39 := congrArg Int32.toInt ez23; omega)) (cwV 3 hts (wU_V mw_6_183 mw_6_180 mw_6_182 mw_0_55 mw_1_13) rfl rfl rfl (by decide +kernel) ⟨Nat.le_of_ble_eq_true rfl, Nat.le_of_ble_eq_true rfl⟩) ⟨sz_c, va_recv hK hP (ci := 12) (q0 := 0) rfl (gM_0 cs ad nu20), sz_m hK hz⟩ rfl rfl hl.1 rfl (lv_room (Nat.le_of_ble_eq_true rfl)) dX12_routeOn_136 ⟨Nat.zero_le _, Nat.zero_le _⟩) hS (fun q _ h => hFc q h) hFc (fun xi40 t H40 locs ht hvm hw40 hB hz1 hk1 hS => ?_)
                have hP : va_P (dC, dI) vwCl (wR 21 ad (EM cs ad) xi40) H40 := by rw [← ht]; exact hB
                obtain ⟨hfe40, ok, hw40, hkp40_0⟩ := hw40
                have hF := mi_let hF hfe40
                have kp41 : (∀ k f : Nat, Nat.testBit 510 (gpM k f) = true → xi40 k f = mu k f) := kp_t hkp40_0 (by decide) kp26
                obtain ⟨y42, ey42⟩ : ∃ z : Int32, z = xi40 0 39 := ⟨_, rfl⟩
                have hF := mi_let hF ey42
                have by42 : y42.toInt = (xi40 0 39).toInt := congrArg Int32.toInt ey42
                have gy42 : -9 ≤ y42.toInt ∧ y42.toInt ≤ 3 := by rw [ey42]; exact rM_0_39 ok
                obtain ⟨y43, ey43⟩ : ∃ z : Int32, z = xi40 0 33 := ⟨_, rfl⟩
                have hF := mi_let hF ey43
                have by43 : y43.toInt = (xi40 0 33).toInt := congrArg Int32.toInt ey43
                obtain ⟨y44, ey44⟩ : ∃ z : Int32, z = xi40 0 35 := ⟨_, rfl⟩
                have hF := mi_let hF ey44
                have by44 : y44.toInt = (xi40 0 35).toInt := congrArg Int32.toInt ey44
                have gr40 : ((xi40 0 39).toInt = -9 ∨ (0 ≤ (xi40 0 39).toInt ∧ (xi40 0 39).toInt ≤ 3)) ∧ ((xi40 0 33).toInt = 0 ∨ (xi40 0 35).toInt ≤ 7) := hw40
                refine lv_iinc (v := (v7_34 + 1)) (lv' := [(7, .int (v7_34 + 1)), (6, .int t8), (5, .int r5), (4, .int y4), (0, .ref (ad 0)), (1, .int 4), (2, .int vh), (3, .int vp)]) hx hb dX12_routeOn_139 hl (k := 0) rfl rfl (by decide) rfl (fun ls hl => ?_)
                refine loc_gen (P := fun w9 => lv_has ls 8 [(7, .int w9), (6, .int t8), (5, .int r5), (4, .int y4), (0, .ref (ad 0)), (1, .int 4), (2, .int vh), (3, .int vp)]) (v7_34 + 1) hl (fun w45 hw45 hl => ?_)
                have hl : lv_has ls 8 [(7, .int w45), (6, .int t8), (5, .int r5), (4, .int y4), (0, .ref (ad 0)), (1, .int 4), (2, .int vh), (3, .int vp)] := hl
                have hF := mi_let hF hw45.symm
                have aw45 : w45.toInt = v7_34.toInt + 1 := by rw [← hw45]; first | exact va1 (Int.lt_of_le_of_lt h_v7_34.2 (by decide)) | exact va1 (by omega)
                refine lv_goto (tgt := 34) hx hb dX12_routeOn_142 (by decide) ?_
                exact ih34 (w45) xi40 _ _ _ (by first | exact ms_up hm_34 aw45 h_v7_34.2 | exact ms_lt hm_34 (by omega) (by omega) | omega) (by first | exact rg_up aw45 h_v7_34 (by omega) | omega) (by first | assumption | (have hb46 := congrArg Int32.toInt ey42; have hb47 := congrArg Int32.toInt ey43; have hb48 := congrArg Int32.toInt ey44; omega)) ok hP  kp41 hF hS (lv_sub hl [0, 1, 2, 3, 4, 5, 6, 7] rfl)
            · have hF := (if_pos c_28).symm.trans hF
              have c_28 : v7_34.toInt = y27.toInt := il_eq c_28
              refine lv_aload_n hx hb dX12_routeOn_89 rfl (lv_at hl 4 rfl) ?_
              refine lv_iload_n hx hb dX12_routeOn_90 rfl (lv_at hl 5 rfl) ?_
              refine lv_iconst (v := 1) hx hb dX12_routeOn_91 (by decide) ?_
              refine lv_iadd hx hb dX12_routeOn_92 ?_
              refine lq_i 5 (by decide) ?_
              refine lv_iload_n hx hb dX12_routeOn_93 rfl (lv_at hl 6 rfl) ?_
              refine lv_iconst (v := 1) hx hb dX12_routeOn_94 (by decide) ?_
              refine lv_aload_n hx hb dX12_routeOn_95 rfl (lv_at hl 4 rfl) ?_
              refine va_get (D := (dC, dI)) (ci := 12) (v := .ref (ad 16)) (C := RX12) (T := TX12) (N := 46) hx hb hts inG12 hown hK hP 0 (gM_0 cs ad nu20) rfl 26 (by decide) (hts _ (List.mem_cons_of_mem _ mw_5_67)) (fun _ h9 => h9) rfl dX12_routeOn_96 ?_
              refine lv_iconst (v := 0) hx hb dX12_routeOn_99 (by decide) ?_
              refine va_iald hx hb hK hP 16 0 (gM_16 cs ad nu20) rfl (show vp_in 0 7 from (by unfold vp_in; decide)) dX12_routeOn_100 ?_
              refine lv_topi (fun y49 ey49 => ?_)
              have hF := mi_let hF ey49
              have by49 : y49.toInt = (nu20 16 (0 : Int32).toNatClampNeg).toInt := congrArg Int32.toInt ey49
              have gy49 : 0 ≤ y49.toInt ∧ y49.toInt ≤ 6 := by rw [ey49]; exact rM_16_s ok (0 : Int32).toNatClampNeg
              refine lv_ishl hx hb dX12_routeOn_101 ?_
              refine lv_topi (fun t50 et50 => ?_)
              have hF := mi_let hF et50
              refine lv_iconst (v := (-1)) hx hb dX12_routeOn_102 (by decide) ?_
              refine lv_ixor hx hb dX12_routeOn_103 ?_
              refine lv_topi (fun t51 et51 => ?_)
              have hF := mi_let hF et51
              refine lv_iand hx hb dX12_routeOn_104 ?_
              refine lv_topi (fun t52 et52 => ?_)
              have hF := mi_let hF et52
              refine lv_iload hx hb dX12_routeOn_105 (lv_at hl 2 rfl) ?_
              have hFc := fr_all (wR_D nu20 hD) hS hA
              refine va_callv (va_runV (As := [.int 5, .int t52, .int r5]) (rest := []) ⟨hx, hb, hml, hown, hts⟩ (sm_meetRoute l dC dI cs ad nu20 ok H hP ((wR_D nu20 hD).weaken (fun _ _ _ _ => trivial)) 5 t52 r5 (by have h50 : (5 : Int32).toInt = 5 := rfl; omega) (by have h50 : (5 : Int32).toInt = 5 := rfl; have hb53 := congrArg Int32.toInt ez21; have hb54 := congrArg Int32.toInt ez22; have hb55 := congrArg Int32.toInt ez23; omega)) (cwV 3 hts (wU_V mw_6_187 mw_6_184 mw_6_186 mw_0_56 mw_1_13) rfl rfl rfl (by decide +kernel) ⟨Nat.le_of_ble_eq_true rfl, Nat.le_of_ble_eq_true rfl⟩) ⟨sz_c, va_recv hK hP (ci := 12) (q0 := 0) rfl (gM_0 cs ad nu20), sz_m hK hz⟩ rfl rfl hl.1 rfl (lv_room (Nat.le_of_ble_eq_true rfl)) dX12_routeOn_107 ⟨Nat.zero_le _, Nat.zero_le _⟩) hS (fun q _ h => hFc q h) hFc (fun xi56 t H56 locs ht hvm hw56 hB hz1 hk1 hS => ?_)
              have hP : va_P (dC, dI) vwCl (wR 21 ad (EM cs ad) xi56) H56 := by rw [← ht]; exact hB
              obtain ⟨hfe56, ok, hw56, hkp56_0⟩ := hw56
              have hF := mi_let hF hfe56
              have kp57 : (∀ k f : Nat, Nat.testBit 510 (gpM k f) = true → xi56 k f = mu k f) := kp_t hkp56_0 (by decide) kp26
              obtain ⟨y58, ey58⟩ : ∃ z : Int32, z = xi56 0 39 := ⟨_, rfl⟩
              have hF := mi_let hF ey58
              have by58 : y58.toInt = (xi56 0 39).toInt := congrArg Int32.toInt ey58
              have gy58 : -9 ≤ y58.toInt ∧ y58.toInt ≤ 3 := by rw [ey58]; exact rM_0_39 ok
              obtain ⟨y59, ey59⟩ : ∃ z : Int32, z = xi56 0 33 := ⟨_, rfl⟩
              have hF := mi_let hF ey59
              have by59 : y59.toInt = (xi56 0 33).toInt := congrArg Int32.toInt ey59
              obtain ⟨y60, ey60⟩ : ∃ z : Int32, z = xi56 0 35 := ⟨_, rfl⟩
              have hF := mi_let hF ey60
              have by60 : y60.toInt = (xi56 0 35).toInt := congrArg Int32.toInt ey60
              have gr56 : ((xi56 0 39).toInt = -9 ∨ (0 ≤ (xi56 0 39).toInt ∧ (xi56 0 39).toInt ≤ 3)) ∧ ((xi56 0 33).toInt = 0 ∨ (xi56 0 35).toInt ≤ 7) := hw56
              refine lv_goto (tgt := 139) hx hb dX12_routeOn_110 (by decide) ?_
              refine lv_iinc (v := (v7_34 + 1)) (lv' := [(7, .int (v7_34 + 1)), (6, .int t8), (5, .int r5), (4, .int y4), (0, .ref (ad 0)), (1, .int 4), (2, .int vh), (3, .int vp)]) hx hb dX12_routeOn_139 hl (k := 0) rfl rfl (by decide) rfl (fun ls hl => ?_)
              refine loc_gen (P := fun w9 => lv_has ls 8 [(7, .int w9), (6, .int t8), (5, .int r5), (4, .int y4), (0, .ref (ad 0)), (1, .int 4), (2, .int vh), (3, .int vp)]) (v7_34 + 1) hl (fun w61 hw61 hl => ?_)
              have hl : lv_has ls 8 [(7, .int w61), (6, .int t8), (5, .int r5), (4, .int y4), (0, .ref (ad 0)), (1, .int 4), (2, .int vh), (3, .int vp)] := hl
              have hF := mi_let hF hw61.symm
              have aw61 : w61.toInt = v7_34.toInt + 1 := by rw [← hw61]; first | exact va1 (Int.lt_of_le_of_lt h_v7_34.2 (by decide)) | exact va1 (by omega)
              refine lv_goto (tgt := 34) hx hb dX12_routeOn_142 (by decide) ?_
              exact ih34 (w61) xi56 _ _ _ (by first | exact ms_up hm_34 aw61 h_v7_34.2 | exact ms_lt hm_34 (by omega) (by omega) | omega) (by first | exact rg_up aw61 h_v7_34 (by omega) | omega) (by first | assumption | (have hb62 := congrArg Int32.toInt ey58; have hb63 := congrArg Int32.toInt ey59; have hb64 := congrArg Int32.toInt ey60; omega)) ok hP  kp57 hF hS (lv_sub hl [0, 1, 2, 3, 4, 5, 6, 7] rfl)
          · have hF := (if_neg c_19).symm.trans hF
            have c_19 : ¬ y18.toInt = 0 := il_ne c_19
            refine lv_aload_n hx hb dX12_routeOn_60 rfl (lv_at hl 4 rfl) ?_
            refine va_get (D := (dC, dI)) (ci := 12) (v := .ref (ad 8)) (C := RX12) (T := TX12) (N := 46) hx hb hts inG12 hown hK hP 0 (gM_0 cs ad nu34_) rfl 10 (by decide) (hts _ (List.mem_cons_of_mem _ mw_5_51)) (fun _ h9 => h9) rfl dX12_routeOn_61 ?_
            refine lv_iload hx hb dX12_routeOn_64 (lv_at hl 0 rfl) ?_
            refine va_iald hx hb hK hP 8 0 (gM_8 cs ad nu34_) rfl (show vp_in v7_34 7 from vi_of (by omega) (by omega)) dX12_routeOn_66 ?_
            refine lv_topi (fun y65 ey65 => ?_)
            have hF := mi_let hF ey65
            have by65 : y65.toInt = (nu34_ 8 v7_34.toNatClampNeg).toInt := congrArg Int32.toInt ey65
            refine lv_iload hx hb dX12_routeOn_67 (lv_at hl 2 rfl) ?_
            refine lv_icmp_lt (tgt := 139) hx hb dX12_routeOn_69 (by decide) (fun c_66 => ?_) (fun c_66 => ?_)
            · have hF := (if_pos c_66).symm.trans hF
              have c_66 : y65.toInt < r5.toInt := il_lt c_66
              refine lv_iinc (v := (v7_34 + 1)) (lv' := [(7, .int (v7_34 + 1)), (6, .int t8), (5, .int r5), (4, .int y4), (0, .ref (ad 0)), (1, .int 4), (2, .int vh), (3, .int vp)]) hx hb dX12_routeOn_139 hl (k := 0) rfl rfl (by decide) rfl (fun ls hl => ?_)
              refine loc_gen (P := fun w9 => lv_has ls 8 [(7, .int w9), (6, .int t8), (5, .int r5), (4, .int y4), (0, .ref (ad 0)), (1, .int 4), (2, .int vh), (3, .int vp)]) (v7_34 + 1) hl (fun w67 hw67 hl => ?_)
              have hl : lv_has ls 8 [(7, .int w67), (6, .int t8), (5, .int r5), (4, .int y4), (0, .ref (ad 0)), (1, .int 4), (2, .int vh), (3, .int vp)] := hl
              have hF := mi_let hF hw67.symm
              have aw67 : w67.toInt = v7_34.toInt + 1 := by rw [← hw67]; first | exact va1 (Int.lt_of_le_of_lt h_v7_34.2 (by decide)) | exact va1 (by omega)
              refine lv_goto (tgt := 34) hx hb dX12_routeOn_142 (by decide) ?_
              exact ih34 (w67) nu34_ _ _ _ (by first | exact ms_up hm_34 aw67 h_v7_34.2 | exact ms_lt hm_34 (by omega) (by omega) | omega) (by first | exact rg_up aw67 h_v7_34 (by omega) | omega) (by first | assumption | (have hb68 := congrArg Int32.toInt ey9; have hb69 := congrArg Int32.toInt ey10; have hb70 := congrArg Int32.toInt ey11; omega)) ok hP  kq34_0 hF hS (lv_sub hl [0, 1, 2, 3, 4, 5, 6, 7] rfl)
            · have hF := (if_neg c_66).symm.trans hF
              have c_66 : r5.toInt ≤ y65.toInt := il_nlt c_66
              refine lv_aload_n hx hb dX12_routeOn_72 rfl (lv_at hl 4 rfl) ?_
              refine va_get (D := (dC, dI)) (ci := 12) (v := .ref (ad 16)) (C := RX12) (T := TX12) (N := 46) hx hb hts inG12 hown hK hP 0 (gM_0 cs ad nu34_) rfl 26 (by decide) (hts _ (List.mem_cons_of_mem _ mw_5_67)) (fun _ h9 => h9) rfl dX12_routeOn_73 ?_
              refine lv_iload_n hx hb dX12_routeOn_76 rfl (lv_at hl 5 rfl) ?_
              refine lv_iload hx hb dX12_routeOn_77 (lv_at hl 0 rfl) ?_
              refine va_iast hx hb hK hP (wR_D nu34_ hD) hS 16 0 (gM_16 cs ad nu34_) rfl (show vp_in 4 7 from (by unfold vp_in; decide)) dX12_routeOn_79 (fun H locs hP _ hS => ?_)
              refine wr_gen (upd (nu34_ 16) (4 : Int32).toNatClampNeg v7_34) hP (rfl) (fun nu71 hn71 hP => ?_)
              have hF := mi_let hF hn71.symm
              have ok := tM_16_s ok (4 : Int32).toNatClampNeg hn71 (by omega)
              have ez72 : y9 = nu71 0 39 := ey9.trans (congrFun (up_k hn71 (by decide)) 39).symm
              have ez73 : y10 = nu71 0 33 := ey10.trans (congrFun (up_k hn71 (by decide)) 33).symm
              have ez74 : y11 = nu71 0 35 := ey11.trans (congrFun (up_k hn71 (by decide)) 35).symm
              have ez75 : y12 = nu71 0 8 := ey12.trans (congrFun (up_k hn71 (by decide)) 8).symm
              have ez76 : y18 = nu71 0 38 := ey18.trans (congrFun (up_k hn71 (by decide)) 38).symm
              have ez77 : y65 = nu71 8 v7_34.toNatClampNeg := ey65.trans (congrFun (up_k hn71 (by decide)) v7_34.toNatClampNeg).symm
              have kp78 : (∀ k f : Nat, Nat.testBit 510 (gpM k f) = true → nu71 k f = mu k f) := kp_c 0 hn71 (fun _ => rfl) (by decide) kq34_0
              refine lv_iload hx hb dX12_routeOn_80 (lv_at hl 0 rfl) ?_
              refine lv_aload_n hx hb dX12_routeOn_82 rfl (lv_at hl 4 rfl) ?_
              refine va_get (D := (dC, dI)) (ci := 12) (v := .int (nu71 0 29)) (C := RX12) (T := TX12) (N := 46) hx hb hts inG12 hown hK hP 0 (gM_0 cs ad nu71) rfl 29 (by decide) (hts _ (List.mem_cons_of_mem _ mw_5_70)) (fun _ h9 => h9) rfl dX12_routeOn_83 ?_
              refine lv_topi (fun y79 ey79 => ?_)
              have hF := mi_let hF ey79
              have by79 : y79.toInt = (nu71 0 29).toInt := congrArg Int32.toInt ey79
              refine lv_icmp_ne (tgt := 113) hx hb dX12_routeOn_86 (by decide) (fun c_80 => ?_) (fun c_80 => ?_)
              · have hF := (if_neg c_80).symm.trans hF
                have c_80 : ¬ v7_34.toInt = y79.toInt := il_ne c_80
                refine lv_aload_n hx hb dX12_routeOn_113 rfl (lv_at hl 4 rfl) ?_
                refine va_get (D := (dC, dI)) (ci := 12) (v := .ref (ad 7)) (C := RX12) (T := TX12) (N := 46) hx hb hts inG12 hown hK hP 0 (gM_0 cs ad nu71) rfl 9 (by decide) (hts _ (List.mem_cons_of_mem _ mw_5_50)) (fun _ h9 => h9) rfl dX12_routeOn_114 ?_
                refine lv_iload hx hb dX12_routeOn_117 (lv_at hl 0 rfl) ?_
                refine va_iald hx hb hK hP 7 0 (gM_7 cs ad nu71) rfl (show vp_in v7_34 7 from vi_of (by omega) (by omega)) dX12_routeOn_119 ?_
                refine lv_topi (fun y81 ey81 => ?_)
                have hF := mi_let hF ey81
                have by81 : y81.toInt = (nu71 7 v7_34.toNatClampNeg).toInt := congrArg Int32.toInt ey81
                refine lv_iconst (v := 3) hx hb dX12_routeOn_120 (by decide) ?_
                refine lv_icmp_eq (tgt := 139) hx hb dX12_routeOn_121 (by decide) (fun c_82 => ?_) (fun c_82 => ?_)
                · have hF := (if_pos c_82).symm.trans hF
                  have c_82 : y81.toInt = 3 := il_eq c_82
                  refine lv_iinc (v := (v7_34 + 1)) (lv' := [(7, .int (v7_34 + 1)), (6, .int t8), (5, .int r5), (4, .int y4), (0, .ref (ad 0)), (1, .int 4), (2, .int vh), (3, .int vp)]) hx hb dX12_routeOn_139 hl (k := 0) rfl rfl (by decide) rfl (fun ls hl => ?_)
                  refine loc_gen (P := fun w9 => lv_has ls 8 [(7, .int w9), (6, .int t8), (5, .int r5), (4, .int y4), (0, .ref (ad 0)), (1, .int 4), (2, .int vh), (3, .int vp)]) (v7_34 + 1) hl (fun w83 hw83 hl => ?_)
                  have hl : lv_has ls 8 [(7, .int w83), (6, .int t8), (5, .int r5), (4, .int y4), (0, .ref (ad 0)), (1, .int 4), (2, .int vh), (3, .int vp)] := hl
                  have hF := mi_let hF hw83.symm
                  have aw83 : w83.toInt = v7_34.toInt + 1 := by rw [← hw83]; first | exact va1 (Int.lt_of_le_of_lt h_v7_34.2 (by decide)) | exact va1 (by omega)
                  refine lv_goto (tgt := 34) hx hb dX12_routeOn_142 (by decide) ?_
                  exact ih34 (w83) nu71 _ _ _ (by first | exact ms_up hm_34 aw83 h_v7_34.2 | exact ms_lt hm_34 (by omega) (by omega) | omega) (by first | exact rg_up aw83 h_v7_34 (by omega) | omega) (by first | assumption | (rw [← ez72, ← ez73, ← ez74, ey9, ey10, ey11]; assumption) | (have hb84 := congrArg Int32.toInt ez72; have hb85 := congrArg Int32.toInt ez73; have hb86 := congrArg Int32.toInt ez74; omega)) ok hP  kp78 hF hS (lv_sub hl [0, 1, 2, 3, 4, 5, 6, 7] rfl)
                · have hF := (if_neg c_82).symm.trans hF
                  have c_82 : ¬ y81.toInt = 3 := il_ne c_82
                  refine lv_aload_n hx hb dX12_routeOn_124 rfl (lv_at hl 4 rfl) ?_
                  refine lv_iload_n hx hb dX12_routeOn_125 rfl (lv_at hl 5 rfl) ?_
                  refine lv_iconst (v := 1) hx hb dX12_routeOn_126 (by decide) ?_
                  refine lv_iadd hx hb dX12_routeOn_127 ?_
                  refine lq_i 5 (by decide) ?_
                  refine lv_iload_n hx hb dX12_routeOn_128 rfl (lv_at hl 6 rfl) ?_
                  refine lv_iconst (v := 1) hx hb dX12_routeOn_129 (by decide) ?_
                  refine lv_iload hx hb dX12_routeOn_130 (lv_at hl 0 rfl) ?_
                  refine lv_ishl hx hb dX12_routeOn_132 ?_
                  refine lv_topi (fun t87 et87 => ?_)
                  have hF := mi_let hF et87
                  refine lv_ior hx hb dX12_routeOn_133 ?_
                  refine lv_topi (fun t88 et88 => ?_)
                  have hF := mi_let hF et88
                  refine lv_iload hx hb dX12_routeOn_134 (lv_at hl 2 rfl) ?_
                  have hFc := fr_all (wR_D nu71 hD) hS hA
                  refine va_callv (va_runV (As := [.int 5, .int t88, .int r5]) (rest := []) ⟨hx, hb, hml, hown, hts⟩ (sm_routeOn5 l dC dI cs ad nu71 ok H hP ((wR_D nu71 hD).weaken (fun _ _ _ _ => trivial)) t88 r5 (by have h50 : (5 : Int32).toInt = 5 := rfl; rw [et88, et87]; exact h7_next hin0 (by rw [et8, et7]) (by omega) (by omega) f17) (by have h50 : (5 : Int32).toInt = 5 := rfl; have hb89 := congrArg Int32.toInt ez72; have hb90 := congrArg Int32.toInt ez73; have hb91 := congrArg Int32.toInt ez74; omega)) (cwV 3 hts (wU_V mw_6_183 mw_6_180 mw_6_182 mw_0_55 mw_1_13) rfl rfl rfl (by decide +kernel) ⟨Nat.le_of_ble_eq_true rfl, Nat.le_of_ble_eq_true rfl⟩) ⟨sz_c, va_recv hK hP (ci := 12) (q0 := 0) rfl (gM_0 cs ad nu71), sz_m hK hz⟩ rfl rfl hl.1 rfl (lv_room (Nat.le_of_ble_eq_true rfl)) dX12_routeOn_136 ⟨Nat.zero_le _, Nat.zero_le _⟩) hS (fun q _ h => hFc q h) hFc (fun xi92 t H92 locs ht hvm hw92 hB hz1 hk1 hS => ?_)
                  have hP : va_P (dC, dI) vwCl (wR 21 ad (EM cs ad) xi92) H92 := by rw [← ht]; exact hB
                  obtain ⟨hfe92, ok, hw92, hkp92_0⟩ := hw92
                  have hF := mi_let hF hfe92
                  have kp93 : (∀ k f : Nat, Nat.testBit 510 (gpM k f) = true → xi92 k f = mu k f) := kp_t hkp92_0 (by decide) kp78
                  obtain ⟨y94, ey94⟩ : ∃ z : Int32, z = xi92 0 39 := ⟨_, rfl⟩
                  have hF := mi_let hF ey94
                  have by94 : y94.toInt = (xi92 0 39).toInt := congrArg Int32.toInt ey94
                  have gy94 : -9 ≤ y94.toInt ∧ y94.toInt ≤ 3 := by rw [ey94]; exact rM_0_39 ok
                  obtain ⟨y95, ey95⟩ : ∃ z : Int32, z = xi92 0 33 := ⟨_, rfl⟩
                  have hF := mi_let hF ey95
                  have by95 : y95.toInt = (xi92 0 33).toInt := congrArg Int32.toInt ey95
                  obtain ⟨y96, ey96⟩ : ∃ z : Int32, z = xi92 0 35 := ⟨_, rfl⟩
                  have hF := mi_let hF ey96
                  have by96 : y96.toInt = (xi92 0 35).toInt := congrArg Int32.toInt ey96
                  have gr92 : ((xi92 0 39).toInt = -9 ∨ (0 ≤ (xi92 0 39).toInt ∧ (xi92 0 39).toInt ≤ 3)) ∧ ((xi92 0 33).toInt = 0 ∨ (xi92 0 35).toInt ≤ 7) := hw92
                  refine lv_iinc (v := (v7_34 + 1)) (lv' := [(7, .int (v7_34 + 1)), (6, .int t8), (5, .int r5), (4, .int y4), (0, .ref (ad 0)), (1, .int 4), (2, .int vh), (3, .int vp)]) hx hb dX12_routeOn_139 hl (k := 0) rfl rfl (by decide) rfl (fun ls hl => ?_)
                  refine loc_gen (P := fun w9 => lv_has ls 8 [(7, .int w9), (6, .int t8), (5, .int r5), (4, .int y4), (0, .ref (ad 0)), (1, .int 4), (2, .int vh), (3, .int vp)]) (v7_34 + 1) hl (fun w97 hw97 hl => ?_)
                  have hl : lv_has ls 8 [(7, .int w97), (6, .int t8), (5, .int r5), (4, .int y4), (0, .ref (ad 0)), (1, .int 4), (2, .int vh), (3, .int vp)] := hl
                  have hF := mi_let hF hw97.symm
                  have aw97 : w97.toInt = v7_34.toInt + 1 := by rw [← hw97]; first | exact va1 (Int.lt_of_le_of_lt h_v7_34.2 (by decide)) | exact va1 (by omega)
                  refine lv_goto (tgt := 34) hx hb dX12_routeOn_142 (by decide) ?_
                  exact ih34 (w97) xi92 _ _ _ (by first | exact ms_up hm_34 aw97 h_v7_34.2 | exact ms_lt hm_34 (by omega) (by omega) | omega) (by first | exact rg_up aw97 h_v7_34 (by omega) | omega) (by first | assumption | (have hb98 := congrArg Int32.toInt ey94; have hb99 := congrArg Int32.toInt ey95; have hb100 := congrArg Int32.toInt ey96; omega)) ok hP  kp93 hF hS (lv_sub hl [0, 1, 2, 3, 4, 5, 6, 7] rfl)
              · have hF := (if_pos c_80).symm.trans hF
                have c_80 : v7_34.toInt = y79.toInt := il_eq c_80
                refine lv_aload_n hx hb dX12_routeOn_89 rfl (lv_at hl 4 rfl) ?_
                refine lv_iload_n hx hb dX12_routeOn_90 rfl (lv_at hl 5 rfl) ?_
                refine lv_iconst (v := 1) hx hb dX12_routeOn_91 (by decide) ?_
                refine lv_iadd hx hb dX12_routeOn_92 ?_
                refine lq_i 5 (by decide) ?_
                refine lv_iload_n hx hb dX12_routeOn_93 rfl (lv_at hl 6 rfl) ?_
                refine lv_iconst (v := 1) hx hb dX12_routeOn_94 (by decide) ?_
                refine lv_aload_n hx hb dX12_routeOn_95 rfl (lv_at hl 4 rfl) ?_
                refine va_get (D := (dC, dI)) (ci := 12) (v := .ref (ad 16)) (C := RX12) (T := TX12) (N := 46) hx hb hts inG12 hown hK hP 0 (gM_0 cs ad nu71) rfl 26 (by decide) (hts _ (List.mem_cons_of_mem _ mw_5_67)) (fun _ h9 => h9) rfl dX12_routeOn_96 ?_
                refine lv_iconst (v := 0) hx hb dX12_routeOn_99 (by decide) ?_
                refine va_iald hx hb hK hP 16 0 (gM_16 cs ad nu71) rfl (show vp_in 0 7 from (by unfold vp_in; decide)) dX12_routeOn_100 ?_
                refine lv_topi (fun y101 ey101 => ?_)
                have hF := mi_let hF ey101
                have by101 : y101.toInt = (nu71 16 (0 : Int32).toNatClampNeg).toInt := congrArg Int32.toInt ey101
                have gy101 : 0 ≤ y101.toInt ∧ y101.toInt ≤ 6 := by rw [ey101]; exact rM_16_s ok (0 : Int32).toNatClampNeg
                refine lv_ishl hx hb dX12_routeOn_101 ?_
                refine lv_topi (fun t102 et102 => ?_)
                have hF := mi_let hF et102
                refine lv_iconst (v := (-1)) hx hb dX12_routeOn_102 (by decide) ?_
                refine lv_ixor hx hb dX12_routeOn_103 ?_
                refine lv_topi (fun t103 et103 => ?_)
                have hF := mi_let hF et103
                refine lv_iand hx hb dX12_routeOn_104 ?_
                refine lv_topi (fun t104 et104 => ?_)
                have hF := mi_let hF et104
                refine lv_iload hx hb dX12_routeOn_105 (lv_at hl 2 rfl) ?_
                have hFc := fr_all (wR_D nu71 hD) hS hA
                refine va_callv (va_runV (As := [.int 5, .int t104, .int r5]) (rest := []) ⟨hx, hb, hml, hown, hts⟩ (sm_meetRoute l dC dI cs ad nu71 ok H hP ((wR_D nu71 hD).weaken (fun _ _ _ _ => trivial)) 5 t104 r5 (by have h50 : (5 : Int32).toInt = 5 := rfl; omega) (by have h50 : (5 : Int32).toInt = 5 := rfl; have hb105 := congrArg Int32.toInt ez72; have hb106 := congrArg Int32.toInt ez73; have hb107 := congrArg Int32.toInt ez74; omega)) (cwV 3 hts (wU_V mw_6_187 mw_6_184 mw_6_186 mw_0_56 mw_1_13) rfl rfl rfl (by decide +kernel) ⟨Nat.le_of_ble_eq_true rfl, Nat.le_of_ble_eq_true rfl⟩) ⟨sz_c, va_recv hK hP (ci := 12) (q0 := 0) rfl (gM_0 cs ad nu71), sz_m hK hz⟩ rfl rfl hl.1 rfl (lv_room (Nat.le_of_ble_eq_true rfl)) dX12_routeOn_107 ⟨Nat.zero_le _, Nat.zero_le _⟩) hS (fun q _ h => hFc q h) hFc (fun xi108 t H108 locs ht hvm hw108 hB hz1 hk1 hS => ?_)
                have hP : va_P (dC, dI) vwCl (wR 21 ad (EM cs ad) xi108) H108 := by rw [← ht]; exact hB
                obtain ⟨hfe108, ok, hw108, hkp108_0⟩ := hw108
                have hF := mi_let hF hfe108
                have kp109 : (∀ k f : Nat, Nat.testBit 510 (gpM k f) = true → xi108 k f = mu k f) := kp_t hkp108_0 (by decide) kp78
                obtain ⟨y110, ey110⟩ : ∃ z : Int32, z = xi108 0 39 := ⟨_, rfl⟩
                have hF := mi_let hF ey110
                have by110 : y110.toInt = (xi108 0 39).toInt := congrArg Int32.toInt ey110
                have gy110 : -9 ≤ y110.toInt ∧ y110.toInt ≤ 3 := by rw [ey110]; exact rM_0_39 ok
                obtain ⟨y111, ey111⟩ : ∃ z : Int32, z = xi108 0 33 := ⟨_, rfl⟩
                have hF := mi_let hF ey111
                have by111 : y111.toInt = (xi108 0 33).toInt := congrArg Int32.toInt ey111
                obtain ⟨y112, ey112⟩ : ∃ z : Int32, z = xi108 0 35 := ⟨_, rfl⟩
                have hF := mi_let hF ey112
                have by112 : y112.toInt = (xi108 0 35).toInt := congrArg Int32.toInt ey112
                have gr108 : ((xi108 0 39).toInt = -9 ∨ (0 ≤ (xi108 0 39).toInt ∧ (xi108 0 39).toInt ≤ 3)) ∧ ((xi108 0 33).toInt = 0 ∨ (xi108 0 35).toInt ≤ 7) := hw108
                refine lv_goto (tgt := 139) hx hb dX12_routeOn_110 (by decide) ?_
                refine lv_iinc (v := (v7_34 + 1)) (lv' := [(7, .int (v7_34 + 1)), (6, .int t8), (5, .int r5), (4, .int y4), (0, .ref (ad 0)), (1, .int 4), (2, .int vh), (3, .int vp)]) hx hb dX12_routeOn_139 hl (k := 0) rfl rfl (by decide) rfl (fun ls hl => ?_)
                refine loc_gen (P := fun w9 => lv_has ls 8 [(7, .int w9), (6, .int t8), (5, .int r5), (4, .int y4), (0, .ref (ad 0)), (1, .int 4), (2, .int vh), (3, .int vp)]) (v7_34 + 1) hl (fun w113 hw113 hl => ?_)
                have hl : lv_has ls 8 [(7, .int w113), (6, .int t8), (5, .int r5), (4, .int y4), (0, .ref (ad 0)), (1, .int 4), (2, .int vh), (3, .int vp)] := hl
                have hF := mi_let hF hw113.symm
                have aw113 : w113.toInt = v7_34.toInt + 1 := by rw [← hw113]; first | exact va1 (Int.lt_of_le_of_lt h_v7_34.2 (by decide)) | exact va1 (by omega)
                refine lv_goto (tgt := 34) hx hb dX12_routeOn_142 (by decide) ?_
                exact ih34 (w113) xi108 _ _ _ (by first | exact ms_up hm_34 aw113 h_v7_34.2 | exact ms_lt hm_34 (by omega) (by omega) | omega) (by first | exact rg_up aw113 h_v7_34 (by omega) | omega) (by first | assumption | (have hb114 := congrArg Int32.toInt ey110; have hb115 := congrArg Int32.toInt ey111; have hb116 := congrArg Int32.toInt ey112; omega)) ok hP  kp109 hF hS (lv_sub hl [0, 1, 2, 3, 4, 5, 6, 7] rfl)
        · have hF := (if_neg (fun h => absurd (hfe17.trans h) (by decide))).symm.trans hF
          have f17 : ¬ rb t8 v7_34 = 1 := f17
          refine lv_if_eq (tgt := 139) hx hb dX12_routeOn_50 (by decide) (fun _ => ?_) (fun c => absurd (by decide) c)
          refine lv_iinc (v := (v7_34 + 1)) (lv' := [(7, .int (v7_34 + 1)), (6, .int t8), (5, .int r5), (4, .int y4), (0, .ref (ad 0)), (1, .int 4), (2, .int vh), (3, .int vp)]) hx hb dX12_routeOn_139 hl (k := 0) rfl rfl (by decide) rfl (fun ls hl => ?_)
          refine loc_gen (P := fun w9 => lv_has ls 8 [(7, .int w9), (6, .int t8), (5, .int r5), (4, .int y4), (0, .ref (ad 0)), (1, .int 4), (2, .int vh), (3, .int vp)]) (v7_34 + 1) hl (fun w117 hw117 hl => ?_)
          have hl : lv_has ls 8 [(7, .int w117), (6, .int t8), (5, .int r5), (4, .int y4), (0, .ref (ad 0)), (1, .int 4), (2, .int vh), (3, .int vp)] := hl
          have hF := mi_let hF hw117.symm
          have aw117 : w117.toInt = v7_34.toInt + 1 := by rw [← hw117]; first | exact va1 (Int.lt_of_le_of_lt h_v7_34.2 (by decide)) | exact va1 (by omega)
          refine lv_goto (tgt := 34) hx hb dX12_routeOn_142 (by decide) ?_
          exact ih34 (w117) nu34_ _ _ _ (by first | exact ms_up hm_34 aw117 h_v7_34.2 | exact ms_lt hm_34 (by omega) (by omega) | omega) (by first | exact rg_up aw117 h_v7_34 (by omega) | omega) (by first | assumption | (have hb118 := congrArg Int32.toInt ey9; have hb119 := congrArg Int32.toInt ey10; have hb120 := congrArg Int32.toInt ey11; omega)) ok hP  kq34_0 hF hS (lv_sub hl [0, 1, 2, 3, 4, 5, 6, 7] rfl)
  exact loop34 10 (0) mu _ _ _ (by have h80 : (0 : Int32).toInt = 0 := rfl; omega) (by have h80 : (0 : Int32).toInt = 0 := rfl; exact ⟨by omega, by omega⟩) (by have h80 : (0 : Int32).toInt = 0 := rfl; have hb121 := congrArg Int32.toInt ey1; have hb122 := congrArg Int32.toInt ey2; have hb123 := congrArg Int32.toInt ey3; omega) ok hP  (fun _ _ _ => rfl) hF hS hl
set_option maxHeartbeats 4000000 in
set_option maxRecDepth 100000 in
/-- sm_routeOn3 -/
theorem sm_routeOn3 (l : Launch) (dC : Nat → ClassId) (dI : Nat → Nat → Nat) (cs : Nat → ClassId) (ad : Nat → Nat) (mu : Nat → Nat → Int32) (ok : okR loM hiM mu) (H : Heap) (hP : va_P (dC, dI) vwCl (wR 21 ad (EM cs ad) mu) H) (hD0 : va_D (fun _ => True) (wR 21 ad (EM cs ad) mu)) (vh : Int32) (vp : Int32) (hin0 : h7 3 vh) (hin1 : ((mu 0 39).toInt = -9 ∨ (0 ≤ (mu 0 39).toInt ∧ (mu 0 39).toInt ≤ 3)) ∧ ((mu 0 33).toInt = 0 ∨ (mu 0 35).toInt ≤ 7)) : Met l yX12_routeOn (wU yX12_routeOn cX12_routeOn 8 none) ({ frames := 6, cells := 0, slots := 0, locals := 154 }) (va_Pc [.ref (ad 0), .int 3, .int vh, .int vp] (sz_P (dC, dI) vwCl (tyM cs) H)) (va_Qv (fun (xi : Nat → Nat → Int32) => xi = F_sm_routeOn3 mu vh vp ∧ okR loM hiM xi ∧ (((xi 0 39).toInt = -9 ∨ (0 ≤ (xi 0 39).toInt ∧ (xi 0 39).toInt ≤ 3)) ∧ ((xi 0 33).toInt = 0 ∨ (xi 0 35).toInt ≤ 7)) ∧ (∀ k f : Nat, Nat.testBit 510 (gpM k f) = true → xi k f = mu k f)) (fun xi t => va_P (dC, dI) vwCl (wR 21 ad (EM cs ad) xi) t.heap) (va_A (wR 21 ad (EM cs ad) mu) H.size)) 0 0 (va_A (wR 21 ad (EM cs ad) mu) H.size) := by
  refine Met.ofW (cc := cX12_routeOn) (maxL := 8) (ret := none) (by decide) rfl ?_
  intro p e s m args below meth c s₁ B hml hv
  obtain ⟨rfl, hh, hK, hz⟩ := hv
  have hx := B.exec
  have hb := B.bytes
  have hr := B.returns
  have hts := atoms_spec (ws := (wU yX12_routeOn cX12_routeOn 8 none)) B.pre
  have hown : s.vm.findClass RX12 = some m.cls := findClass_of_methodNamed B.named
  have hlocks := B.notSynchronized
  subst hh
  have hD := hD0.self (sz := s.heap.size)
  have hA : ∀ q : Nat, s.heap.size ≤ q → (va_A (wR 21 ad (EM cs ad) mu) s.heap.size) q := fun q h => Or.inr h
  have hS : va_S (va_A (wR 21 ad (EM cs ad) mu) s.heap.size) s.heap s.heap [] := va_S.rf
  have hl := lv_entry ([.ref (ad 0), .int 3, .int vh, .int vp]) (n := 8) (Nat.le_of_ble_eq_true rfl)
  rw [lg_entry_eq]
  generalize (lg_sl ([.ref (ad 0), .int 3, .int vh, .int vp]) ++ List.replicate (8 - (lg_sl ([.ref (ad 0), .int 3, .int vh, .int vp])).length) Slot.unset).toArray = ls at hl ⊢
  have hl : lv_has ls 8 [(0, .ref (ad 0)), (1, .int 3), (2, .int vh), (3, .int vp)] := hl
  obtain ⟨fz, hfz⟩ : ∃ z, F_sm_routeOn3 mu vh vp = z := ⟨_, rfl⟩
  have hF := hfz
  unfold F_sm_routeOn3 at hF
  obtain ⟨y1, ey1⟩ : ∃ z : Int32, z = mu 0 39 := ⟨_, rfl⟩
  have hF := mi_let hF ey1
  have by1 : y1.toInt = (mu 0 39).toInt := congrArg Int32.toInt ey1
  have gy1 : -9 ≤ y1.toInt ∧ y1.toInt ≤ 3 := by rw [ey1]; exact rM_0_39 ok
  obtain ⟨y2, ey2⟩ : ∃ z : Int32, z = mu 0 33 := ⟨_, rfl⟩
  have hF := mi_let hF ey2
  have by2 : y2.toInt = (mu 0 33).toInt := congrArg Int32.toInt ey2
  obtain ⟨y3, ey3⟩ : ∃ z : Int32, z = mu 0 35 := ⟨_, rfl⟩
  have hF := mi_let hF ey3
  have by3 : y3.toInt = (mu 0 35).toInt := congrArg Int32.toInt ey3
  refine lv_aload_n hx hb dX12_routeOn_0 rfl (lv_at hl 0 rfl) ?_
  refine va_get (D := (dC, dI)) (ci := 12) (v := .ref (ad 16)) (C := RX12) (T := TX12) (N := 46) hx hb hts inG12 hown hK hP 0 (gM_0 cs ad mu) rfl 26 (by decide) (hts _ (List.mem_cons_of_mem _ mw_5_67)) (fun _ h9 => h9) rfl dX12_routeOn_1 ?_
  refine lv_iload_n hx hb dX12_routeOn_4 rfl (lv_at hl 1 rfl) ?_
  refine lv_iconst (v := 1) hx hb dX12_routeOn_5 (by decide) ?_
  refine lv_isub hx hb dX12_routeOn_6 ?_
  refine lq_i 2 (by decide) ?_
  refine va_iald hx hb hK hP 16 0 (gM_16 cs ad mu) rfl (show vp_in 2 7 from (by unfold vp_in; decide)) dX12_routeOn_7 ?_
  refine lv_topi (fun y4 ey4 => ?_)
  have hF := mi_let hF ey4
  have by4 : y4.toInt = (mu 16 (2 : Int32).toNatClampNeg).toInt := congrArg Int32.toInt ey4
  have gy4 : 0 ≤ y4.toInt ∧ y4.toInt ≤ 6 := by rw [ey4]; exact rM_16_s ok (2 : Int32).toNatClampNeg
  refine lv_istore (lv' := [(4, .int y4), (0, .ref (ad 0)), (1, .int 3), (2, .int vh), (3, .int vp)]) hx hb dX12_routeOn_8 hl (by decide) rfl (fun ls hl => ?_)
  refine lv_aload_n hx hb dX12_routeOn_10 rfl (lv_at hl 1 rfl) ?_
  refine lv_iload hx hb dX12_routeOn_11 (lv_at hl 0 rfl) ?_
  refine lv_iload_n hx hb dX12_routeOn_13 rfl (lv_at hl 4 rfl) ?_
  refine cr_i (va_runV (As := [.int y4, .int vp]) (rest := []) ⟨hx, hb, hml, hown, hts⟩ (sm_asksOf l dC dI cs ad mu ok s.heap hP y4 vp (by omega)) (cwV 2 hts (wU_V mw_6_74 mw_6_71 mw_6_73 mw_0_42 mw_1_13) rfl rfl rfl (by decide +kernel) ⟨Nat.le_of_ble_eq_true rfl, Nat.le_of_ble_eq_true rfl⟩) ⟨sz_c, va_recv hK hP (ci := 12) (q0 := 0) rfl (gM_0 cs ad mu), sz_m hK hz⟩ rfl rfl hl.1 rfl (lv_room (Nat.le_of_ble_eq_true rfl)) dX12_routeOn_14 ⟨Nat.zero_le _, Nat.zero_le _⟩) hS (fun r5 hw5 locs hS => ?_)
  obtain ⟨hfe5, hw5⟩ := hw5
  have hF := mi_let hF hfe5
  refine lv_istore (lv' := [(5, .int r5), (4, .int y4), (0, .ref (ad 0)), (1, .int 3), (2, .int vh), (3, .int vp)]) hx hb dX12_routeOn_17 hl (by decide) rfl (fun ls hl => ?_)
  refine lv_aload_n hx hb dX12_routeOn_19 rfl (lv_at hl 2 rfl) ?_
  refine lv_iload hx hb dX12_routeOn_20 (lv_at hl 1 rfl) ?_
  refine cr_i (va_runV (As := [.int y4]) (rest := []) ⟨hx, hb, hml, hown, hts⟩ (sm_besideOf l dC dI cs ad mu ok s.heap hP y4) (cwV 1 hts (wU_V mw_6_56 mw_6_53 mw_6_55 mw_0_40 mw_1_13) rfl rfl rfl (by decide +kernel) ⟨Nat.le_of_ble_eq_true rfl, Nat.le_of_ble_eq_true rfl⟩) ⟨sz_c, va_recv hK hP (ci := 12) (q0 := 0) rfl (gM_0 cs ad mu), sz_m hK hz⟩ rfl rfl hl.1 rfl (lv_room (Nat.le_of_ble_eq_true rfl)) dX12_routeOn_22 ⟨Nat.zero_le _, Nat.zero_le _⟩) hS (fun r6 hw6 locs hS => ?_)
  obtain ⟨hfe6, hw6⟩ := hw6
  have hF := mi_let hF hfe6
  refine lv_iload_n hx hb dX12_routeOn_25 rfl (lv_at hl 4 rfl) ?_
  refine lv_iconst (v := (-1)) hx hb dX12_routeOn_26 (by decide) ?_
  refine lv_ixor hx hb dX12_routeOn_27 ?_
  refine lv_topi (fun t7 et7 => ?_)
  have hF := mi_let hF et7
  refine lv_iand hx hb dX12_routeOn_28 ?_
  refine lv_topi (fun t8 et8 => ?_)
  have hF := mi_let hF et8
  refine lv_istore (lv' := [(6, .int t8), (5, .int r5), (4, .int y4), (0, .ref (ad 0)), (1, .int 3), (2, .int vh), (3, .int vp)]) hx hb dX12_routeOn_29 hl (by decide) rfl (fun ls hl => ?_)
  refine lv_iconst (v := 0) hx hb dX12_routeOn_31 (by decide) ?_
  refine lv_istore (lv' := [(7, .int 0), (6, .int t8), (5, .int r5), (4, .int y4), (0, .ref (ad 0)), (1, .int 3), (2, .int vh), (3, .int vp)]) hx hb dX12_routeOn_32 hl (by decide) rfl (fun ls hl => ?_)
  have loop34 : ∀ (n34 : Nat) (v7_34 : Int32) (nu34_ : Nat → Nat → Int32) (H : Heap) (locs : List Loc) (ls : Array Slot), (7 + 1 - v7_34.toInt).toNat < n34 → (0 ≤ v7_34.toInt ∧ v7_34.toInt ≤ 7) → (((nu34_ 0 39).toInt = -9 ∨ (0 ≤ (nu34_ 0 39).toInt ∧ (nu34_ 0 39).toInt ≤ 3)) ∧ ((nu34_ 0 33).toInt = 0 ∨ (nu34_ 0 35).toInt ≤ 7)) → okR loM hiM nu34_ → va_P (dC, dI) vwCl (wR 21 ad (EM cs ad) nu34_) H → (∀ k f : Nat, Nat.testBit 510 (gpM k f) = true → nu34_ k f = mu k f) → L_sm_routeOn3_34_0 r5 t8 vh n34 v7_34 nu34_ = fz → va_S (va_A (wR 21 ad (EM cs ad) mu) s.heap.size) s.heap H locs → lv_has ls 8 [(7, .int v7_34), (6, .int t8), (5, .int r5), (4, .int y4), (0, .ref (ad 0)), (1, .int 3), (2, .int vh), (3, .int vp)] → W p l e (headSpec (wU yX12_routeOn cX12_routeOn 8 none) ({ frames := 6, cells := 0, slots := 0, locals := 154 })).room s m ([.ref (ad 0), .int 3, .int vh, .int vp] : List Value).toArray below meth c H locs 0 0 (MQ below (va_Qv (fun (xi : Nat → Nat → Int32) => xi = F_sm_routeOn3 mu vh vp ∧ okR loM hiM xi ∧ (((xi 0 39).toInt = -9 ∨ (0 ≤ (xi 0 39).toInt ∧ (xi 0 39).toInt ≤ 3)) ∧ ((xi 0 33).toInt = 0 ∨ (xi 0 35).toInt ≤ 7)) ∧ (∀ k f : Nat, Nat.testBit 510 (gpM k f) = true → xi k f = mu k f)) (fun xi t => va_P (dC, dI) vwCl (wR 21 ad (EM cs ad) xi) t.heap) (va_A (wR 21 ad (EM cs ad) mu) s.heap.size)) ([.ref (ad 0), .int 3, .int vh, .int vp] : List Value).toArray s 0 0 (va_A (wR 21 ad (EM cs ad) mu) s.heap.size)) (F0 m 34 ls []) := by
    intro n34
    induction n34 with
    | zero => intro v7_34 nu34_ H locs ls hm; exact absurd hm (Nat.not_lt_zero _)
    | succ n34 ih34 =>
      intro v7_34 nu34_ H locs ls hm_34 h_v7_34 hi34_0 ok hP kq34_0 hF hS hl
      rw [L_sm_routeOn3_34_0] at hF
      obtain ⟨y9, ey9⟩ : ∃ z : Int32, z = nu34_ 0 39 := ⟨_, rfl⟩
      have hF := mi_let hF ey9
      have by9 : y9.toInt = (nu34_ 0 39).toInt := congrArg Int32.toInt ey9
      have gy9 : -9 ≤ y9.toInt ∧ y9.toInt ≤ 3 := by rw [ey9]; exact rM_0_39 ok
      obtain ⟨y10, ey10⟩ : ∃ z : Int32, z = nu34_ 0 33 := ⟨_, rfl⟩
      have hF := mi_let hF ey10
      have by10 : y10.toInt = (nu34_ 0 33).toInt := congrArg Int32.toInt ey10
      obtain ⟨y11, ey11⟩ : ∃ z : Int32, z = nu34_ 0 35 := ⟨_, rfl⟩
      have hF := mi_let hF ey11
      have by11 : y11.toInt = (nu34_ 0 35).toInt := congrArg Int32.toInt ey11
      refine lv_iload hx hb dX12_routeOn_34 (lv_at hl 0 rfl) ?_
      refine lv_aload_n hx hb dX12_routeOn_36 rfl (lv_at hl 4 rfl) ?_
      refine va_get (D := (dC, dI)) (ci := 12) (v := .int (nu34_ 0 8)) (C := RX12) (T := TX12) (N := 46) hx hb hts inG12 hown hK hP 0 (gM_0 cs ad nu34_) rfl 8 (by decide) (hts _ (List.mem_cons_of_mem _ mw_5_49)) (fun _ h9 => h9) rfl dX12_routeOn_37 ?_
      refine lv_topi (fun y12 ey12 => ?_)
      have hF := mi_let hF ey12
      have by12 : y12.toInt = (nu34_ 0 8).toInt := congrArg Int32.toInt ey12
      have gy12 : 0 ≤ y12.toInt ∧ y12.toInt ≤ 7 := by rw [ey12]; exact rM_0_8 ok
      refine lv_icmp_ge (tgt := 145) hx hb dX12_routeOn_40 (by decide) (fun c_13 => ?_) (fun c_13 => ?_)
      · have hF := (if_pos c_13).symm.trans hF
        have c_13 : y12.toInt ≤ v7_34.toInt := il_le c_13
        exact W.vret hx hb hr (fun t ht hW => ⟨⟨nu34_, rfl, ⟨hF.trans hfz.symm, ok, (by first | assumption | (have hb14 := congrArg Int32.toInt ey9; have hb15 := congrArg Int32.toInt ey10; have hb16 := congrArg Int32.toInt ey11; omega)), kq34_0⟩, by first | (subst ht; exact hP) | (rw [ht]; exact hP) | (show va_P (dC, dI) vwCl (wR 21 ad (EM cs ad) nu34_) t.heap; rw [ht]; exact hP)⟩, hS.F ht⟩) hS.2.2 dX12_routeOn_145
      · have hF := (if_neg c_13).symm.trans hF
        have c_13 : v7_34.toInt < y12.toInt := il_nle c_13
        refine lv_iload hx hb dX12_routeOn_43 (lv_at hl 1 rfl) ?_
        refine lv_iload hx hb dX12_routeOn_45 (lv_at hl 0 rfl) ?_
        refine cr_i (va_runS (As := [.int t8, .int v7_34]) (rest := []) ⟨hx, hb, hml, hown, hts⟩ (sm_has l dC dI (tyM cs) H t8 v7_34) (va_cwS 2 hts (wU_S mw_6_59 mw_6_57 mw_6_58 mw_1_13) rfl rfl rfl (by decide +kernel) ⟨Nat.le_of_ble_eq_true rfl, Nat.le_of_ble_eq_true rfl⟩) ⟨sz_c, sz_m hK hz⟩ rfl rfl hl.1 rfl (lv_room (Nat.le_of_ble_eq_true rfl)) dX12_routeOn_47 ⟨Nat.zero_le _, Nat.zero_le _⟩) hS (fun r17 hw17 locs hS => ?_)
        obtain ⟨hfe17, hw17⟩ := hw17
        rcases hw17 with ⟨rfl, f17⟩ | ⟨rfl, f17⟩
        · have hF := (if_pos hfe17.symm).symm.trans hF
          have f17 : rb t8 v7_34 = 1 := f17
          refine lv_if_eq (tgt := 139) hx hb dX12_routeOn_50 (by decide) (fun c => absurd c (by decide)) (fun _ => ?_)
          refine lv_aload_n hx hb dX12_routeOn_53 rfl (lv_at hl 4 rfl) ?_
          refine va_get (D := (dC, dI)) (ci := 12) (v := .int (nu34_ 0 38)) (C := RX12) (T := TX12) (N := 46) hx hb hts inG12 hown hK hP 0 (gM_0 cs ad nu34_) rfl 38 (by decide) (hts _ (List.mem_cons_of_mem _ mw_5_79)) (fun _ h9 => h9) rfl dX12_routeOn_54 ?_
          refine lv_topi (fun y18 ey18 => ?_)
          have hF := mi_let hF ey18
          have by18 : y18.toInt = (nu34_ 0 38).toInt := congrArg Int32.toInt ey18
          have gy18 : 0 ≤ y18.toInt ∧ y18.toInt ≤ 1 := by rw [ey18]; exact rM_0_38 ok
          refine lv_if_eq (tgt := 72) hx hb dX12_routeOn_57 (by decide) (fun c_19 => ?_) (fun c_19 => ?_)
          · have hF := (if_pos c_19).symm.trans hF
            have c_19 : y18.toInt = 0 := il_eq c_19
            refine lv_aload_n hx hb dX12_routeOn_72 rfl (lv_at hl 4 rfl) ?_
            refine va_get (D := (dC, dI)) (ci := 12) (v := .ref (ad 16)) (C := RX12) (T := TX12) (N := 46) hx hb hts inG12 hown hK hP 0 (gM_0 cs ad nu34_) rfl 26 (by decide) (hts _ (List.mem_cons_of_mem _ mw_5_67)) (fun _ h9 => h9) rfl dX12_routeOn_73 ?_
            refine lv_iload_n hx hb dX12_routeOn_76 rfl (lv_at hl 5 rfl) ?_
            refine lv_iload hx hb dX12_routeOn_77 (lv_at hl 0 rfl) ?_
            refine va_iast hx hb hK hP (wR_D nu34_ hD) hS 16 0 (gM_16 cs ad nu34_) rfl (show vp_in 3 7 from (by unfold vp_in; decide)) dX12_routeOn_79 (fun H locs hP _ hS => ?_)
            refine wr_gen (upd (nu34_ 16) (3 : Int32).toNatClampNeg v7_34) hP (rfl) (fun nu20 hn20 hP => ?_)
            have hF := mi_let hF hn20.symm
            have ok := tM_16_s ok (3 : Int32).toNatClampNeg hn20 (by omega)
            have ez21 : y9 = nu20 0 39 := ey9.trans (congrFun (up_k hn20 (by decide)) 39).symm
            have ez22 : y10 = nu20 0 33 := ey10.trans (congrFun (up_k hn20 (by decide)) 33).symm
            have ez23 : y11 = nu20 0 35 := ey11.trans (congrFun (up_k hn20 (by decide)) 35).symm
            have ez24 : y12 = nu20 0 8 := ey12.trans (congrFun (up_k hn20 (by decide)) 8).symm
            have ez25 : y18 = nu20 0 38 := ey18.trans (congrFun (up_k hn20 (by decide)) 38).symm
            have kp26 : (∀ k f : Nat, Nat.testBit 510 (gpM k f) = true → nu20 k f = mu k f) := kp_c 0 hn20 (fun _ => rfl) (by decide) kq34_0
            refine lv_iload hx hb dX12_routeOn_80 (lv_at hl 0 rfl) ?_
            refine lv_aload_n hx hb dX12_routeOn_82 rfl (lv_at hl 4 rfl) ?_
            refine va_get (D := (dC, dI)) (ci := 12) (v := .int (nu20 0 29)) (C := RX12) (T := TX12) (N := 46) hx hb hts inG12 hown hK hP 0 (gM_0 cs ad nu20) rfl 29 (by decide) (hts _ (List.mem_cons_of_mem _ mw_5_70)) (fun _ h9 => h9) rfl dX12_routeOn_83 ?_
            refine lv_topi (fun y27 ey27 => ?_)
            have hF := mi_let hF ey27
            have by27 : y27.toInt = (nu20 0 29).toInt := congrArg Int32.toInt ey27
            refine lv_icmp_ne (tgt := 113) hx hb dX12_routeOn_86 (by decide) (fun c_28 => ?_) (fun c_28 => ?_)
            · have hF := (if_neg c_28).symm.trans hF
              have c_28 : ¬ v7_34.toInt = y27.toInt := il_ne c_28
              refine lv_aload_n hx hb dX12_routeOn_113 rfl (lv_at hl 4 rfl) ?_
              refine va_get (D := (dC, dI)) (ci := 12) (v := .ref (ad 7)) (C := RX12) (T := TX12) (N := 46) hx hb hts inG12 hown hK hP 0 (gM_0 cs ad nu20) rfl 9 (by decide) (hts _ (List.mem_cons_of_mem _ mw_5_50)) (fun _ h9 => h9) rfl dX12_routeOn_114 ?_
              refine lv_iload hx hb dX12_routeOn_117 (lv_at hl 0 rfl) ?_
              refine va_iald hx hb hK hP 7 0 (gM_7 cs ad nu20) rfl (show vp_in v7_34 7 from vi_of (by omega) (by omega)) dX12_routeOn_119 ?_
              refine lv_topi (fun y29 ey29 => ?_)
              have hF := mi_let hF ey29
              have by29 : y29.toInt = (nu20 7 v7_34.toNatClampNeg).toInt := congrArg Int32.toInt ey29
              refine lv_iconst (v := 3) hx hb dX12_routeOn_120 (by decide) ?_
              refine lv_icmp_eq (tgt := 139) hx hb dX12_routeOn_121 (by decide) (fun c_30 => ?_) (fun c_30 => ?_)
              · have hF := (if_pos c_30).symm.trans hF
                have c_30 : y29.toInt = 3 := il_eq c_30
                refine lv_iinc (v := (v7_34 + 1)) (lv' := [(7, .int (v7_34 + 1)), (6, .int t8), (5, .int r5), (4, .int y4), (0, .ref (ad 0)), (1, .int 3), (2, .int vh), (3, .int vp)]) hx hb dX12_routeOn_139 hl (k := 0) rfl rfl (by decide) rfl (fun ls hl => ?_)
                refine loc_gen (P := fun w9 => lv_has ls 8 [(7, .int w9), (6, .int t8), (5, .int r5), (4, .int y4), (0, .ref (ad 0)), (1, .int 3), (2, .int vh), (3, .int vp)]) (v7_34 + 1) hl (fun w31 hw31 hl => ?_)
                have hl : lv_has ls 8 [(7, .int w31), (6, .int t8), (5, .int r5), (4, .int y4), (0, .ref (ad 0)), (1, .int 3), (2, .int vh), (3, .int vp)] := hl
                have hF := mi_let hF hw31.symm
                have aw31 : w31.toInt = v7_34.toInt + 1 := by rw [← hw31]; first | exact va1 (Int.lt_of_le_of_lt h_v7_34.2 (by decide)) | exact va1 (by omega)
                refine lv_goto (tgt := 34) hx hb dX12_routeOn_142 (by decide) ?_
                exact ih34 (w31) nu20 _ _ _ (by first | exact ms_up hm_34 aw31 h_v7_34.2 | exact ms_lt hm_34 (by omega) (by omega) | omega) (by first | exact rg_up aw31 h_v7_34 (by omega) | omega) (by first | assumption | (rw [← ez21, ← ez22, ← ez23, ey9, ey10, ey11]; assumption) | (have hb32 := congrArg Int32.toInt ez21; have hb33 := congrArg Int32.toInt ez22; have hb34 := congrArg Int32.toInt ez23; omega)) ok hP  kp26 hF hS (lv_sub hl [0, 1, 2, 3, 4, 5, 6, 7] rfl)
              · have hF := (if_neg c_30).symm.trans hF
                have c_30 : ¬ y29.toInt = 3 := il_ne c_30
                refine lv_aload_n hx hb dX12_routeOn_124 rfl (lv_at hl 4 rfl) ?_
                refine lv_iload_n hx hb dX12_routeOn_125 rfl (lv_at hl 5 rfl) ?_
                refine lv_iconst (v := 1) hx hb dX12_routeOn_126 (by decide) ?_
                refine lv_iadd hx hb dX12_routeOn_127 ?_
                refine lq_i 4 (by decide) ?_
                refine lv_iload_n hx hb dX12_routeOn_128 rfl (lv_at hl 6 rfl) ?_
                refine lv_iconst (v := 1) hx hb dX12_routeOn_129 (by decide) ?_
                refine lv_iload hx hb dX12_routeOn_130 (lv_at hl 0 rfl) ?_
                refine lv_ishl hx hb dX12_routeOn_132 ?_
                refine lv_topi (fun t35 et35 => ?_)
                have hF := mi_let hF et35
                refine lv_ior hx hb dX12_routeOn_133 ?_
                refine lv_topi (fun t36 et36 => ?_)
                have hF := mi_let hF et36
                refine lv_iload hx hb dX12_routeOn_134 (lv_at hl 2 rfl) ?_
                have hFc := fr_all (wR_D nu20 hD) hS hA
                refine va_callv (va_runV (As := [.int 4, .int t36, .int r5]) (rest := []) ⟨hx, hb, hml, hown, hts⟩ (sm_routeOn4 l dC dI cs ad nu20 ok H hP ((wR_D nu20 hD).weaken (fun _ _ _ _ => trivial)) t36 r5 (by have h50 : (4 : Int32).toInt = 4 := rfl; rw [et36, et35]; exact h7_next hin0 (by rw [et8, et7]) (by omega) (by omega) f17) (by have h50 : (4 : Int32).toInt = 4 := rfl; have hb37 := congrArg Int32.toInt ez21; have hb38 := congrArg Int32.toInt ez22; have hb39 := congrArg Int32.toInt ez23; omega)) (cwV 3 hts (wU_V mw_6_183 mw_6_180 mw_6_182 mw_0_55 mw_1_13) rfl rfl rfl (by decide +kernel) ⟨Nat.le_of_ble_eq_true rfl, Nat.le_of_ble_eq_true rfl⟩) ⟨sz_c, va_recv hK hP (ci := 12) (q0 := 0) rfl (gM_0 cs ad nu20), sz_m hK hz⟩ rfl rfl hl.1 rfl (lv_room (Nat.le_of_ble_eq_true rfl)) dX12_routeOn_136 ⟨Nat.zero_le _, Nat.zero_le _⟩) hS (fun q _ h => hFc q h) hFc (fun xi40 t H40 locs ht hvm hw40 hB hz1 hk1 hS => ?_)
                have hP : va_P (dC, dI) vwCl (wR 21 ad (EM cs ad) xi40) H40 := by rw [← ht]; exact hB
                obtain ⟨hfe40, ok, hw40, hkp40_0⟩ := hw40
                have hF := mi_let hF hfe40
                have kp41 : (∀ k f : Nat, Nat.testBit 510 (gpM k f) = true → xi40 k f = mu k f) := kp_t hkp40_0 (by decide) kp26
                obtain ⟨y42, ey42⟩ : ∃ z : Int32, z = xi40 0 39 := ⟨_, rfl⟩
                have hF := mi_let hF ey42
                have by42 : y42.toInt = (xi40 0 39).toInt := congrArg Int32.toInt ey42
                have gy42 : -9 ≤ y42.toInt ∧ y42.toInt ≤ 3 := by rw [ey42]; exact rM_0_39 ok
                obtain ⟨y43, ey43⟩ : ∃ z : Int32, z = xi40 0 33 := ⟨_, rfl⟩
                have hF := mi_let hF ey43
                have by43 : y43.toInt = (xi40 0 33).toInt := congrArg Int32.toInt ey43
                obtain ⟨y44, ey44⟩ : ∃ z : Int32, z = xi40 0 35 := ⟨_, rfl⟩
                have hF := mi_let hF ey44
                have by44 : y44.toInt = (xi40 0 35).toInt := congrArg Int32.toInt ey44
                have gr40 : ((xi40 0 39).toInt = -9 ∨ (0 ≤ (xi40 0 39).toInt ∧ (xi40 0 39).toInt ≤ 3)) ∧ ((xi40 0 33).toInt = 0 ∨ (xi40 0 35).toInt ≤ 7) := hw40
                refine lv_iinc (v := (v7_34 + 1)) (lv' := [(7, .int (v7_34 + 1)), (6, .int t8), (5, .int r5), (4, .int y4), (0, .ref (ad 0)), (1, .int 3), (2, .int vh), (3, .int vp)]) hx hb dX12_routeOn_139 hl (k := 0) rfl rfl (by decide) rfl (fun ls hl => ?_)
                refine loc_gen (P := fun w9 => lv_has ls 8 [(7, .int w9), (6, .int t8), (5, .int r5), (4, .int y4), (0, .ref (ad 0)), (1, .int 3), (2, .int vh), (3, .int vp)]) (v7_34 + 1) hl (fun w45 hw45 hl => ?_)
                have hl : lv_has ls 8 [(7, .int w45), (6, .int t8), (5, .int r5), (4, .int y4), (0, .ref (ad 0)), (1, .int 3), (2, .int vh), (3, .int vp)] := hl
                have hF := mi_let hF hw45.symm
                have aw45 : w45.toInt = v7_34.toInt + 1 := by rw [← hw45]; first | exact va1 (Int.lt_of_le_of_lt h_v7_34.2 (by decide)) | exact va1 (by omega)
                refine lv_goto (tgt := 34) hx hb dX12_routeOn_142 (by decide) ?_
                exact ih34 (w45) xi40 _ _ _ (by first | exact ms_up hm_34 aw45 h_v7_34.2 | exact ms_lt hm_34 (by omega) (by omega) | omega) (by first | exact rg_up aw45 h_v7_34 (by omega) | omega) (by first | assumption | (have hb46 := congrArg Int32.toInt ey42; have hb47 := congrArg Int32.toInt ey43; have hb48 := congrArg Int32.toInt ey44; omega)) ok hP  kp41 hF hS (lv_sub hl [0, 1, 2, 3, 4, 5, 6, 7] rfl)
            · have hF := (if_pos c_28).symm.trans hF
              have c_28 : v7_34.toInt = y27.toInt := il_eq c_28
              refine lv_aload_n hx hb dX12_routeOn_89 rfl (lv_at hl 4 rfl) ?_
              refine lv_iload_n hx hb dX12_routeOn_90 rfl (lv_at hl 5 rfl) ?_
              refine lv_iconst (v := 1) hx hb dX12_routeOn_91 (by decide) ?_
              refine lv_iadd hx hb dX12_routeOn_92 ?_
              refine lq_i 4 (by decide) ?_
              refine lv_iload_n hx hb dX12_routeOn_93 rfl (lv_at hl 6 rfl) ?_
              refine lv_iconst (v := 1) hx hb dX12_routeOn_94 (by decide) ?_
              refine lv_aload_n hx hb dX12_routeOn_95 rfl (lv_at hl 4 rfl) ?_
              refine va_get (D := (dC, dI)) (ci := 12) (v := .ref (ad 16)) (C := RX12) (T := TX12) (N := 46) hx hb hts inG12 hown hK hP 0 (gM_0 cs ad nu20) rfl 26 (by decide) (hts _ (List.mem_cons_of_mem _ mw_5_67)) (fun _ h9 => h9) rfl dX12_routeOn_96 ?_
              refine lv_iconst (v := 0) hx hb dX12_routeOn_99 (by decide) ?_
              refine va_iald hx hb hK hP 16 0 (gM_16 cs ad nu20) rfl (show vp_in 0 7 from (by unfold vp_in; decide)) dX12_routeOn_100 ?_
              refine lv_topi (fun y49 ey49 => ?_)
              have hF := mi_let hF ey49
              have by49 : y49.toInt = (nu20 16 (0 : Int32).toNatClampNeg).toInt := congrArg Int32.toInt ey49
              have gy49 : 0 ≤ y49.toInt ∧ y49.toInt ≤ 6 := by rw [ey49]; exact rM_16_s ok (0 : Int32).toNatClampNeg
              refine lv_ishl hx hb dX12_routeOn_101 ?_
              refine lv_topi (fun t50 et50 => ?_)
              have hF := mi_let hF et50
              refine lv_iconst (v := (-1)) hx hb dX12_routeOn_102 (by decide) ?_
              refine lv_ixor hx hb dX12_routeOn_103 ?_
              refine lv_topi (fun t51 et51 => ?_)
              have hF := mi_let hF et51
              refine lv_iand hx hb dX12_routeOn_104 ?_
              refine lv_topi (fun t52 et52 => ?_)
              have hF := mi_let hF et52
              refine lv_iload hx hb dX12_routeOn_105 (lv_at hl 2 rfl) ?_
              have hFc := fr_all (wR_D nu20 hD) hS hA
              refine va_callv (va_runV (As := [.int 4, .int t52, .int r5]) (rest := []) ⟨hx, hb, hml, hown, hts⟩ (sm_meetRoute l dC dI cs ad nu20 ok H hP ((wR_D nu20 hD).weaken (fun _ _ _ _ => trivial)) 4 t52 r5 (by have h50 : (4 : Int32).toInt = 4 := rfl; omega) (by have h50 : (4 : Int32).toInt = 4 := rfl; have hb53 := congrArg Int32.toInt ez21; have hb54 := congrArg Int32.toInt ez22; have hb55 := congrArg Int32.toInt ez23; omega)) (cwV 3 hts (wU_V mw_6_187 mw_6_184 mw_6_186 mw_0_56 mw_1_13) rfl rfl rfl (by decide +kernel) ⟨Nat.le_of_ble_eq_true rfl, Nat.le_of_ble_eq_true rfl⟩) ⟨sz_c, va_recv hK hP (ci := 12) (q0 := 0) rfl (gM_0 cs ad nu20), sz_m hK hz⟩ rfl rfl hl.1 rfl (lv_room (Nat.le_of_ble_eq_true rfl)) dX12_routeOn_107 ⟨Nat.zero_le _, Nat.zero_le _⟩) hS (fun q _ h => hFc q h) hFc (fun xi56 t H56 locs ht hvm hw56 hB hz1 hk1 hS => ?_)
              have hP : va_P (dC, dI) vwCl (wR 21 ad (EM cs ad) xi56) H56 := by rw [← ht]; exact hB
              obtain ⟨hfe56, ok, hw56, hkp56_0⟩ := hw56
              have hF := mi_let hF hfe56
              have kp57 : (∀ k f : Nat, Nat.testBit 510 (gpM k f) = true → xi56 k f = mu k f) := kp_t hkp56_0 (by decide) kp26
              obtain ⟨y58, ey58⟩ : ∃ z : Int32, z = xi56 0 39 := ⟨_, rfl⟩
              have hF := mi_let hF ey58
              have by58 : y58.toInt = (xi56 0 39).toInt := congrArg Int32.toInt ey58
              have gy58 : -9 ≤ y58.toInt ∧ y58.toInt ≤ 3 := by rw [ey58]; exact rM_0_39 ok
              obtain ⟨y59, ey59⟩ : ∃ z : Int32, z = xi56 0 33 := ⟨_, rfl⟩
              have hF := mi_let hF ey59
              have by59 : y59.toInt = (xi56 0 33).toInt := congrArg Int32.toInt ey59
              obtain ⟨y60, ey60⟩ : ∃ z : Int32, z = xi56 0 35 := ⟨_, rfl⟩
              have hF := mi_let hF ey60
              have by60 : y60.toInt = (xi56 0 35).toInt := congrArg Int32.toInt ey60
              have gr56 : ((xi56 0 39).toInt = -9 ∨ (0 ≤ (xi56 0 39).toInt ∧ (xi56 0 39).toInt ≤ 3)) ∧ ((xi56 0 33).toInt = 0 ∨ (xi56 0 35).toInt ≤ 7) := hw56
              refine lv_goto (tgt := 139) hx hb dX12_routeOn_110 (by decide) ?_
              refine lv_iinc (v := (v7_34 + 1)) (lv' := [(7, .int (v7_34 + 1)), (6, .int t8), (5, .int r5), (4, .int y4), (0, .ref (ad 0)), (1, .int 3), (2, .int vh), (3, .int vp)]) hx hb dX12_routeOn_139 hl (k := 0) rfl rfl (by decide) rfl (fun ls hl => ?_)
              refine loc_gen (P := fun w9 => lv_has ls 8 [(7, .int w9), (6, .int t8), (5, .int r5), (4, .int y4), (0, .ref (ad 0)), (1, .int 3), (2, .int vh), (3, .int vp)]) (v7_34 + 1) hl (fun w61 hw61 hl => ?_)
              have hl : lv_has ls 8 [(7, .int w61), (6, .int t8), (5, .int r5), (4, .int y4), (0, .ref (ad 0)), (1, .int 3), (2, .int vh), (3, .int vp)] := hl
              have hF := mi_let hF hw61.symm
              have aw61 : w61.toInt = v7_34.toInt + 1 := by rw [← hw61]; first | exact va1 (Int.lt_of_le_of_lt h_v7_34.2 (by decide)) | exact va1 (by omega)
              refine lv_goto (tgt := 34) hx hb dX12_routeOn_142 (by decide) ?_
              exact ih34 (w61) xi56 _ _ _ (by first | exact ms_up hm_34 aw61 h_v7_34.2 | exact ms_lt hm_34 (by omega) (by omega) | omega) (by first | exact rg_up aw61 h_v7_34 (by omega) | omega) (by first | assumption | (have hb62 := congrArg Int32.toInt ey58; have hb63 := congrArg Int32.toInt ey59; have hb64 := congrArg Int32.toInt ey60; omega)) ok hP  kp57 hF hS (lv_sub hl [0, 1, 2, 3, 4, 5, 6, 7] rfl)
          · have hF := (if_neg c_19).symm.trans hF
            have c_19 : ¬ y18.toInt = 0 := il_ne c_19
            refine lv_aload_n hx hb dX12_routeOn_60 rfl (lv_at hl 4 rfl) ?_
            refine va_get (D := (dC, dI)) (ci := 12) (v := .ref (ad 8)) (C := RX12) (T := TX12) (N := 46) hx hb hts inG12 hown hK hP 0 (gM_0 cs ad nu34_) rfl 10 (by decide) (hts _ (List.mem_cons_of_mem _ mw_5_51)) (fun _ h9 => h9) rfl dX12_routeOn_61 ?_
            refine lv_iload hx hb dX12_routeOn_64 (lv_at hl 0 rfl) ?_
            refine va_iald hx hb hK hP 8 0 (gM_8 cs ad nu34_) rfl (show vp_in v7_34 7 from vi_of (by omega) (by omega)) dX12_routeOn_66 ?_
            refine lv_topi (fun y65 ey65 => ?_)
            have hF := mi_let hF ey65
            have by65 : y65.toInt = (nu34_ 8 v7_34.toNatClampNeg).toInt := congrArg Int32.toInt ey65
            refine lv_iload hx hb dX12_routeOn_67 (lv_at hl 2 rfl) ?_
            refine lv_icmp_lt (tgt := 139) hx hb dX12_routeOn_69 (by decide) (fun c_66 => ?_) (fun c_66 => ?_)
            · have hF := (if_pos c_66).symm.trans hF
              have c_66 : y65.toInt < r5.toInt := il_lt c_66
              refine lv_iinc (v := (v7_34 + 1)) (lv' := [(7, .int (v7_34 + 1)), (6, .int t8), (5, .int r5), (4, .int y4), (0, .ref (ad 0)), (1, .int 3), (2, .int vh), (3, .int vp)]) hx hb dX12_routeOn_139 hl (k := 0) rfl rfl (by decide) rfl (fun ls hl => ?_)
              refine loc_gen (P := fun w9 => lv_has ls 8 [(7, .int w9), (6, .int t8), (5, .int r5), (4, .int y4), (0, .ref (ad 0)), (1, .int 3), (2, .int vh), (3, .int vp)]) (v7_34 + 1) hl (fun w67 hw67 hl => ?_)
              have hl : lv_has ls 8 [(7, .int w67), (6, .int t8), (5, .int r5), (4, .int y4), (0, .ref (ad 0)), (1, .int 3), (2, .int vh), (3, .int vp)] := hl
              have hF := mi_let hF hw67.symm
              have aw67 : w67.toInt = v7_34.toInt + 1 := by rw [← hw67]; first | exact va1 (Int.lt_of_le_of_lt h_v7_34.2 (by decide)) | exact va1 (by omega)
              refine lv_goto (tgt := 34) hx hb dX12_routeOn_142 (by decide) ?_
              exact ih34 (w67) nu34_ _ _ _ (by first | exact ms_up hm_34 aw67 h_v7_34.2 | exact ms_lt hm_34 (by omega) (by omega) | omega) (by first | exact rg_up aw67 h_v7_34 (by omega) | omega) (by first | assumption | (have hb68 := congrArg Int32.toInt ey9; have hb69 := congrArg Int32.toInt ey10; have hb70 := congrArg Int32.toInt ey11; omega)) ok hP  kq34_0 hF hS (lv_sub hl [0, 1, 2, 3, 4, 5, 6, 7] rfl)
            · have hF := (if_neg c_66).symm.trans hF
              have c_66 : r5.toInt ≤ y65.toInt := il_nlt c_66
              refine lv_aload_n hx hb dX12_routeOn_72 rfl (lv_at hl 4 rfl) ?_
              refine va_get (D := (dC, dI)) (ci := 12) (v := .ref (ad 16)) (C := RX12) (T := TX12) (N := 46) hx hb hts inG12 hown hK hP 0 (gM_0 cs ad nu34_) rfl 26 (by decide) (hts _ (List.mem_cons_of_mem _ mw_5_67)) (fun _ h9 => h9) rfl dX12_routeOn_73 ?_
              refine lv_iload_n hx hb dX12_routeOn_76 rfl (lv_at hl 5 rfl) ?_
              refine lv_iload hx hb dX12_routeOn_77 (lv_at hl 0 rfl) ?_
              refine va_iast hx hb hK hP (wR_D nu34_ hD) hS 16 0 (gM_16 cs ad nu34_) rfl (show vp_in 3 7 from (by unfold vp_in; decide)) dX12_routeOn_79 (fun H locs hP _ hS => ?_)
              refine wr_gen (upd (nu34_ 16) (3 : Int32).toNatClampNeg v7_34) hP (rfl) (fun nu71 hn71 hP => ?_)
              have hF := mi_let hF hn71.symm
              have ok := tM_16_s ok (3 : Int32).toNatClampNeg hn71 (by omega)
              have ez72 : y9 = nu71 0 39 := ey9.trans (congrFun (up_k hn71 (by decide)) 39).symm
              have ez73 : y10 = nu71 0 33 := ey10.trans (congrFun (up_k hn71 (by decide)) 33).symm
              have ez74 : y11 = nu71 0 35 := ey11.trans (congrFun (up_k hn71 (by decide)) 35).symm
              have ez75 : y12 = nu71 0 8 := ey12.trans (congrFun (up_k hn71 (by decide)) 8).symm
              have ez76 : y18 = nu71 0 38 := ey18.trans (congrFun (up_k hn71 (by decide)) 38).symm
              have ez77 : y65 = nu71 8 v7_34.toNatClampNeg := ey65.trans (congrFun (up_k hn71 (by decide)) v7_34.toNatClampNeg).symm
              have kp78 : (∀ k f : Nat, Nat.testBit 510 (gpM k f) = true → nu71 k f = mu k f) := kp_c 0 hn71 (fun _ => rfl) (by decide) kq34_0
              refine lv_iload hx hb dX12_routeOn_80 (lv_at hl 0 rfl) ?_
              refine lv_aload_n hx hb dX12_routeOn_82 rfl (lv_at hl 4 rfl) ?_
              refine va_get (D := (dC, dI)) (ci := 12) (v := .int (nu71 0 29)) (C := RX12) (T := TX12) (N := 46) hx hb hts inG12 hown hK hP 0 (gM_0 cs ad nu71) rfl 29 (by decide) (hts _ (List.mem_cons_of_mem _ mw_5_70)) (fun _ h9 => h9) rfl dX12_routeOn_83 ?_
              refine lv_topi (fun y79 ey79 => ?_)
              have hF := mi_let hF ey79
              have by79 : y79.toInt = (nu71 0 29).toInt := congrArg Int32.toInt ey79
              refine lv_icmp_ne (tgt := 113) hx hb dX12_routeOn_86 (by decide) (fun c_80 => ?_) (fun c_80 => ?_)
              · have hF := (if_neg c_80).symm.trans hF
                have c_80 : ¬ v7_34.toInt = y79.toInt := il_ne c_80
                refine lv_aload_n hx hb dX12_routeOn_113 rfl (lv_at hl 4 rfl) ?_
                refine va_get (D := (dC, dI)) (ci := 12) (v := .ref (ad 7)) (C := RX12) (T := TX12) (N := 46) hx hb hts inG12 hown hK hP 0 (gM_0 cs ad nu71) rfl 9 (by decide) (hts _ (List.mem_cons_of_mem _ mw_5_50)) (fun _ h9 => h9) rfl dX12_routeOn_114 ?_
                refine lv_iload hx hb dX12_routeOn_117 (lv_at hl 0 rfl) ?_
                refine va_iald hx hb hK hP 7 0 (gM_7 cs ad nu71) rfl (show vp_in v7_34 7 from vi_of (by omega) (by omega)) dX12_routeOn_119 ?_
                refine lv_topi (fun y81 ey81 => ?_)
                have hF := mi_let hF ey81
                have by81 : y81.toInt = (nu71 7 v7_34.toNatClampNeg).toInt := congrArg Int32.toInt ey81
                refine lv_iconst (v := 3) hx hb dX12_routeOn_120 (by decide) ?_
                refine lv_icmp_eq (tgt := 139) hx hb dX12_routeOn_121 (by decide) (fun c_82 => ?_) (fun c_82 => ?_)
                · have hF := (if_pos c_82).symm.trans hF
                  have c_82 : y81.toInt = 3 := il_eq c_82
                  refine lv_iinc (v := (v7_34 + 1)) (lv' := [(7, .int (v7_34 + 1)), (6, .int t8), (5, .int r5), (4, .int y4), (0, .ref (ad 0)), (1, .int 3), (2, .int vh), (3, .int vp)]) hx hb dX12_routeOn_139 hl (k := 0) rfl rfl (by decide) rfl (fun ls hl => ?_)
                  refine loc_gen (P := fun w9 => lv_has ls 8 [(7, .int w9), (6, .int t8), (5, .int r5), (4, .int y4), (0, .ref (ad 0)), (1, .int 3), (2, .int vh), (3, .int vp)]) (v7_34 + 1) hl (fun w83 hw83 hl => ?_)
                  have hl : lv_has ls 8 [(7, .int w83), (6, .int t8), (5, .int r5), (4, .int y4), (0, .ref (ad 0)), (1, .int 3), (2, .int vh), (3, .int vp)] := hl
                  have hF := mi_let hF hw83.symm
                  have aw83 : w83.toInt = v7_34.toInt + 1 := by rw [← hw83]; first | exact va1 (Int.lt_of_le_of_lt h_v7_34.2 (by decide)) | exact va1 (by omega)
                  refine lv_goto (tgt := 34) hx hb dX12_routeOn_142 (by decide) ?_
                  exact ih34 (w83) nu71 _ _ _ (by first | exact ms_up hm_34 aw83 h_v7_34.2 | exact ms_lt hm_34 (by omega) (by omega) | omega) (by first | exact rg_up aw83 h_v7_34 (by omega) | omega) (by first | assumption | (rw [← ez72, ← ez73, ← ez74, ey9, ey10, ey11]; assumption) | (have hb84 := congrArg Int32.toInt ez72; have hb85 := congrArg Int32.toInt ez73; have hb86 := congrArg Int32.toInt ez74; omega)) ok hP  kp78 hF hS (lv_sub hl [0, 1, 2, 3, 4, 5, 6, 7] rfl)
                · have hF := (if_neg c_82).symm.trans hF
                  have c_82 : ¬ y81.toInt = 3 := il_ne c_82
                  refine lv_aload_n hx hb dX12_routeOn_124 rfl (lv_at hl 4 rfl) ?_
                  refine lv_iload_n hx hb dX12_routeOn_125 rfl (lv_at hl 5 rfl) ?_
                  refine lv_iconst (v := 1) hx hb dX12_routeOn_126 (by decide) ?_
                  refine lv_iadd hx hb dX12_routeOn_127 ?_
                  refine lq_i 4 (by decide) ?_
                  refine lv_iload_n hx hb dX12_routeOn_128 rfl (lv_at hl 6 rfl) ?_
                  refine lv_iconst (v := 1) hx hb dX12_routeOn_129 (by decide) ?_
                  refine lv_iload hx hb dX12_routeOn_130 (lv_at hl 0 rfl) ?_
                  refine lv_ishl hx hb dX12_routeOn_132 ?_
                  refine lv_topi (fun t87 et87 => ?_)
                  have hF := mi_let hF et87
                  refine lv_ior hx hb dX12_routeOn_133 ?_
                  refine lv_topi (fun t88 et88 => ?_)
                  have hF := mi_let hF et88
                  refine lv_iload hx hb dX12_routeOn_134 (lv_at hl 2 rfl) ?_
                  have hFc := fr_all (wR_D nu71 hD) hS hA
                  refine va_callv (va_runV (As := [.int 4, .int t88, .int r5]) (rest := []) ⟨hx, hb, hml, hown, hts⟩ (sm_routeOn4 l dC dI cs ad nu71 ok H hP ((wR_D nu71 hD).weaken (fun _ _ _ _ => trivial)) t88 r5 (by have h50 : (4 : Int32).toInt = 4 := rfl; rw [et88, et87]; exact h7_next hin0 (by rw [et8, et7]) (by omega) (by omega) f17) (by have h50 : (4 : Int32).toInt = 4 := rfl; have hb89 := congrArg Int32.toInt ez72; have hb90 := congrArg Int32.toInt ez73; have hb91 := congrArg Int32.toInt ez74; omega)) (cwV 3 hts (wU_V mw_6_183 mw_6_180 mw_6_182 mw_0_55 mw_1_13) rfl rfl rfl (by decide +kernel) ⟨Nat.le_of_ble_eq_true rfl, Nat.le_of_ble_eq_true rfl⟩) ⟨sz_c, va_recv hK hP (ci := 12) (q0 := 0) rfl (gM_0 cs ad nu71), sz_m hK hz⟩ rfl rfl hl.1 rfl (lv_room (Nat.le_of_ble_eq_true rfl)) dX12_routeOn_136 ⟨Nat.zero_le _, Nat.zero_le _⟩) hS (fun q _ h => hFc q h) hFc (fun xi92 t H92 locs ht hvm hw92 hB hz1 hk1 hS => ?_)
                  have hP : va_P (dC, dI) vwCl (wR 21 ad (EM cs ad) xi92) H92 := by rw [← ht]; exact hB
                  obtain ⟨hfe92, ok, hw92, hkp92_0⟩ := hw92
                  have hF := mi_let hF hfe92
                  have kp93 : (∀ k f : Nat, Nat.testBit 510 (gpM k f) = true → xi92 k f = mu k f) := kp_t hkp92_0 (by decide) kp78
                  obtain ⟨y94, ey94⟩ : ∃ z : Int32, z = xi92 0 39 := ⟨_, rfl⟩
                  have hF := mi_let hF ey94
                  have by94 : y94.toInt = (xi92 0 39).toInt := congrArg Int32.toInt ey94
                  have gy94 : -9 ≤ y94.toInt ∧ y94.toInt ≤ 3 := by rw [ey94]; exact rM_0_39 ok
                  obtain ⟨y95, ey95⟩ : ∃ z : Int32, z = xi92 0 33 := ⟨_, rfl⟩
                  have hF := mi_let hF ey95
                  have by95 : y95.toInt = (xi92 0 33).toInt := congrArg Int32.toInt ey95
                  obtain ⟨y96, ey96⟩ : ∃ z : Int32, z = xi92 0 35 := ⟨_, rfl⟩
                  have hF := mi_let hF ey96
                  have by96 : y96.toInt = (xi92 0 35).toInt := congrArg Int32.toInt ey96
                  have gr92 : ((xi92 0 39).toInt = -9 ∨ (0 ≤ (xi92 0 39).toInt ∧ (xi92 0 39).toInt ≤ 3)) ∧ ((xi92 0 33).toInt = 0 ∨ (xi92 0 35).toInt ≤ 7) := hw92
                  refine lv_iinc (v := (v7_34 + 1)) (lv' := [(7, .int (v7_34 + 1)), (6, .int t8), (5, .int r5), (4, .int y4), (0, .ref (ad 0)), (1, .int 3), (2, .int vh), (3, .int vp)]) hx hb dX12_routeOn_139 hl (k := 0) rfl rfl (by decide) rfl (fun ls hl => ?_)
                  refine loc_gen (P := fun w9 => lv_has ls 8 [(7, .int w9), (6, .int t8), (5, .int r5), (4, .int y4), (0, .ref (ad 0)), (1, .int 3), (2, .int vh), (3, .int vp)]) (v7_34 + 1) hl (fun w97 hw97 hl => ?_)
                  have hl : lv_has ls 8 [(7, .int w97), (6, .int t8), (5, .int r5), (4, .int y4), (0, .ref (ad 0)), (1, .int 3), (2, .int vh), (3, .int vp)] := hl
                  have hF := mi_let hF hw97.symm
                  have aw97 : w97.toInt = v7_34.toInt + 1 := by rw [← hw97]; first | exact va1 (Int.lt_of_le_of_lt h_v7_34.2 (by decide)) | exact va1 (by omega)
                  refine lv_goto (tgt := 34) hx hb dX12_routeOn_142 (by decide) ?_
                  exact ih34 (w97) xi92 _ _ _ (by first | exact ms_up hm_34 aw97 h_v7_34.2 | exact ms_lt hm_34 (by omega) (by omega) | omega) (by first | exact rg_up aw97 h_v7_34 (by omega) | omega) (by first | assumption | (have hb98 := congrArg Int32.toInt ey94; have hb99 := congrArg Int32.toInt ey95; have hb100 := congrArg Int32.toInt ey96; omega)) ok hP  kp93 hF hS (lv_sub hl [0, 1, 2, 3, 4, 5, 6, 7] rfl)
              · have hF := (if_pos c_80).symm.trans hF
                have c_80 : v7_34.toInt = y79.toInt := il_eq c_80
                refine lv_aload_n hx hb dX12_routeOn_89 rfl (lv_at hl 4 rfl) ?_
                refine lv_iload_n hx hb dX12_routeOn_90 rfl (lv_at hl 5 rfl) ?_
                refine lv_iconst (v := 1) hx hb dX12_routeOn_91 (by decide) ?_
                refine lv_iadd hx hb dX12_routeOn_92 ?_
                refine lq_i 4 (by decide) ?_
                refine lv_iload_n hx hb dX12_routeOn_93 rfl (lv_at hl 6 rfl) ?_
                refine lv_iconst (v := 1) hx hb dX12_routeOn_94 (by decide) ?_
                refine lv_aload_n hx hb dX12_routeOn_95 rfl (lv_at hl 4 rfl) ?_
                refine va_get (D := (dC, dI)) (ci := 12) (v := .ref (ad 16)) (C := RX12) (T := TX12) (N := 46) hx hb hts inG12 hown hK hP 0 (gM_0 cs ad nu71) rfl 26 (by decide) (hts _ (List.mem_cons_of_mem _ mw_5_67)) (fun _ h9 => h9) rfl dX12_routeOn_96 ?_
                refine lv_iconst (v := 0) hx hb dX12_routeOn_99 (by decide) ?_
                refine va_iald hx hb hK hP 16 0 (gM_16 cs ad nu71) rfl (show vp_in 0 7 from (by unfold vp_in; decide)) dX12_routeOn_100 ?_
                refine lv_topi (fun y101 ey101 => ?_)
                have hF := mi_let hF ey101
                have by101 : y101.toInt = (nu71 16 (0 : Int32).toNatClampNeg).toInt := congrArg Int32.toInt ey101
                have gy101 : 0 ≤ y101.toInt ∧ y101.toInt ≤ 6 := by rw [ey101]; exact rM_16_s ok (0 : Int32).toNatClampNeg
                refine lv_ishl hx hb dX12_routeOn_101 ?_
                refine lv_topi (fun t102 et102 => ?_)
                have hF := mi_let hF et102
                refine lv_iconst (v := (-1)) hx hb dX12_routeOn_102 (by decide) ?_
                refine lv_ixor hx hb dX12_routeOn_103 ?_
                refine lv_topi (fun t103 et103 => ?_)
                have hF := mi_let hF et103
                refine lv_iand hx hb dX12_routeOn_104 ?_
                refine lv_topi (fun t104 et104 => ?_)
                have hF := mi_let hF et104
                refine lv_iload hx hb dX12_routeOn_105 (lv_at hl 2 rfl) ?_
                have hFc := fr_all (wR_D nu71 hD) hS hA
                refine va_callv (va_runV (As := [.int 4, .int t104, .int r5]) (rest := []) ⟨hx, hb, hml, hown, hts⟩ (sm_meetRoute l dC dI cs ad nu71 ok H hP ((wR_D nu71 hD).weaken (fun _ _ _ _ => trivial)) 4 t104 r5 (by have h50 : (4 : Int32).toInt = 4 := rfl; omega) (by have h50 : (4 : Int32).toInt = 4 := rfl; have hb105 := congrArg Int32.toInt ez72; have hb106 := congrArg Int32.toInt ez73; have hb107 := congrArg Int32.toInt ez74; omega)) (cwV 3 hts (wU_V mw_6_187 mw_6_184 mw_6_186 mw_0_56 mw_1_13) rfl rfl rfl (by decide +kernel) ⟨Nat.le_of_ble_eq_true rfl, Nat.le_of_ble_eq_true rfl⟩) ⟨sz_c, va_recv hK hP (ci := 12) (q0 := 0) rfl (gM_0 cs ad nu71), sz_m hK hz⟩ rfl rfl hl.1 rfl (lv_room (Nat.le_of_ble_eq_true rfl)) dX12_routeOn_107 ⟨Nat.zero_le _, Nat.zero_le _⟩) hS (fun q _ h => hFc q h) hFc (fun xi108 t H108 locs ht hvm hw108 hB hz1 hk1 hS => ?_)
                have hP : va_P (dC, dI) vwCl (wR 21 ad (EM cs ad) xi108) H108 := by rw [← ht]; exact hB
                obtain ⟨hfe108, ok, hw108, hkp108_0⟩ := hw108
                have hF := mi_let hF hfe108
                have kp109 : (∀ k f : Nat, Nat.testBit 510 (gpM k f) = true → xi108 k f = mu k f) := kp_t hkp108_0 (by decide) kp78
                obtain ⟨y110, ey110⟩ : ∃ z : Int32, z = xi108 0 39 := ⟨_, rfl⟩
                have hF := mi_let hF ey110
                have by110 : y110.toInt = (xi108 0 39).toInt := congrArg Int32.toInt ey110
                have gy110 : -9 ≤ y110.toInt ∧ y110.toInt ≤ 3 := by rw [ey110]; exact rM_0_39 ok
                obtain ⟨y111, ey111⟩ : ∃ z : Int32, z = xi108 0 33 := ⟨_, rfl⟩
                have hF := mi_let hF ey111
                have by111 : y111.toInt = (xi108 0 33).toInt := congrArg Int32.toInt ey111
                obtain ⟨y112, ey112⟩ : ∃ z : Int32, z = xi108 0 35 := ⟨_, rfl⟩
                have hF := mi_let hF ey112
                have by112 : y112.toInt = (xi108 0 35).toInt := congrArg Int32.toInt ey112
                have gr108 : ((xi108 0 39).toInt = -9 ∨ (0 ≤ (xi108 0 39).toInt ∧ (xi108 0 39).toInt ≤ 3)) ∧ ((xi108 0 33).toInt = 0 ∨ (xi108 0 35).toInt ≤ 7) := hw108
                refine lv_goto (tgt := 139) hx hb dX12_routeOn_110 (by decide) ?_
                refine lv_iinc (v := (v7_34 + 1)) (lv' := [(7, .int (v7_34 + 1)), (6, .int t8), (5, .int r5), (4, .int y4), (0, .ref (ad 0)), (1, .int 3), (2, .int vh), (3, .int vp)]) hx hb dX12_routeOn_139 hl (k := 0) rfl rfl (by decide) rfl (fun ls hl => ?_)
                refine loc_gen (P := fun w9 => lv_has ls 8 [(7, .int w9), (6, .int t8), (5, .int r5), (4, .int y4), (0, .ref (ad 0)), (1, .int 3), (2, .int vh), (3, .int vp)]) (v7_34 + 1) hl (fun w113 hw113 hl => ?_)
                have hl : lv_has ls 8 [(7, .int w113), (6, .int t8), (5, .int r5), (4, .int y4), (0, .ref (ad 0)), (1, .int 3), (2, .int vh), (3, .int vp)] := hl
                have hF := mi_let hF hw113.symm
                have aw113 : w113.toInt = v7_34.toInt + 1 := by rw [← hw113]; first | exact va1 (Int.lt_of_le_of_lt h_v7_34.2 (by decide)) | exact va1 (by omega)
                refine lv_goto (tgt := 34) hx hb dX12_routeOn_142 (by decide) ?_
                exact ih34 (w113) xi108 _ _ _ (by first | exact ms_up hm_34 aw113 h_v7_34.2 | exact ms_lt hm_34 (by omega) (by omega) | omega) (by first | exact rg_up aw113 h_v7_34 (by omega) | omega) (by first | assumption | (have hb114 := congrArg Int32.toInt ey110; have hb115 := congrArg Int32.toInt ey111; have hb116 := congrArg Int32.toInt ey112; omega)) ok hP  kp109 hF hS (lv_sub hl [0, 1, 2, 3, 4, 5, 6, 7] rfl)
        · have hF := (if_neg (fun h => absurd (hfe17.trans h) (by decide))).symm.trans hF
          have f17 : ¬ rb t8 v7_34 = 1 := f17
          refine lv_if_eq (tgt := 139) hx hb dX12_routeOn_50 (by decide) (fun _ => ?_) (fun c => absurd (by decide) c)
          refine lv_iinc (v := (v7_34 + 1)) (lv' := [(7, .int (v7_34 + 1)), (6, .int t8), (5, .int r5), (4, .int y4), (0, .ref (ad 0)), (1, .int 3), (2, .int vh), (3, .int vp)]) hx hb dX12_routeOn_139 hl (k := 0) rfl rfl (by decide) rfl (fun ls hl => ?_)
          refine loc_gen (P := fun w9 => lv_has ls 8 [(7, .int w9), (6, .int t8), (5, .int r5), (4, .int y4), (0, .ref (ad 0)), (1, .int 3), (2, .int vh), (3, .int vp)]) (v7_34 + 1) hl (fun w117 hw117 hl => ?_)
          have hl : lv_has ls 8 [(7, .int w117), (6, .int t8), (5, .int r5), (4, .int y4), (0, .ref (ad 0)), (1, .int 3), (2, .int vh), (3, .int vp)] := hl
          have hF := mi_let hF hw117.symm
          have aw117 : w117.toInt = v7_34.toInt + 1 := by rw [← hw117]; first | exact va1 (Int.lt_of_le_of_lt h_v7_34.2 (by decide)) | exact va1 (by omega)
          refine lv_goto (tgt := 34) hx hb dX12_routeOn_142 (by decide) ?_
          exact ih34 (w117) nu34_ _ _ _ (by first | exact ms_up hm_34 aw117 h_v7_34.2 | exact ms_lt hm_34 (by omega) (by omega) | omega) (by first | exact rg_up aw117 h_v7_34 (by omega) | omega) (by first | assumption | (have hb118 := congrArg Int32.toInt ey9; have hb119 := congrArg Int32.toInt ey10; have hb120 := congrArg Int32.toInt ey11; omega)) ok hP  kq34_0 hF hS (lv_sub hl [0, 1, 2, 3, 4, 5, 6, 7] rfl)
  exact loop34 10 (0) mu _ _ _ (by have h80 : (0 : Int32).toInt = 0 := rfl; omega) (by have h80 : (0 : Int32).toInt = 0 := rfl; exact ⟨by omega, by omega⟩) (by have h80 : (0 : Int32).toInt = 0 := rfl; have hb121 := congrArg Int32.toInt ey1; have hb122 := congrArg Int32.toInt ey2; have hb123 := congrArg Int32.toInt ey3; omega) ok hP  (fun _ _ _ => rfl) hF hS hl
set_option maxHeartbeats 4000000 in
set_option maxRecDepth 100000 in
/-- sm_routeOn2 -/
theorem sm_routeOn2 (l : Launch) (dC : Nat → ClassId) (dI : Nat → Nat → Nat) (cs : Nat → ClassId) (ad : Nat → Nat) (mu : Nat → Nat → Int32) (ok : okR loM hiM mu) (H : Heap) (hP : va_P (dC, dI) vwCl (wR 21 ad (EM cs ad) mu) H) (hD0 : va_D (fun _ => True) (wR 21 ad (EM cs ad) mu)) (vh : Int32) (vp : Int32) (hin0 : h7 2 vh) (hin1 : ((mu 0 39).toInt = -9 ∨ (0 ≤ (mu 0 39).toInt ∧ (mu 0 39).toInt ≤ 3)) ∧ ((mu 0 33).toInt = 0 ∨ (mu 0 35).toInt ≤ 7)) : Met l yX12_routeOn (wU yX12_routeOn cX12_routeOn 8 none) ({ frames := 7, cells := 0, slots := 0, locals := 181 }) (va_Pc [.ref (ad 0), .int 2, .int vh, .int vp] (sz_P (dC, dI) vwCl (tyM cs) H)) (va_Qv (fun (xi : Nat → Nat → Int32) => xi = F_sm_routeOn2 mu vh vp ∧ okR loM hiM xi ∧ (((xi 0 39).toInt = -9 ∨ (0 ≤ (xi 0 39).toInt ∧ (xi 0 39).toInt ≤ 3)) ∧ ((xi 0 33).toInt = 0 ∨ (xi 0 35).toInt ≤ 7)) ∧ (∀ k f : Nat, Nat.testBit 510 (gpM k f) = true → xi k f = mu k f)) (fun xi t => va_P (dC, dI) vwCl (wR 21 ad (EM cs ad) xi) t.heap) (va_A (wR 21 ad (EM cs ad) mu) H.size)) 0 0 (va_A (wR 21 ad (EM cs ad) mu) H.size) := by
  refine Met.ofW (cc := cX12_routeOn) (maxL := 8) (ret := none) (by decide) rfl ?_
  intro p e s m args below meth c s₁ B hml hv
  obtain ⟨rfl, hh, hK, hz⟩ := hv
  have hx := B.exec
  have hb := B.bytes
  have hr := B.returns
  have hts := atoms_spec (ws := (wU yX12_routeOn cX12_routeOn 8 none)) B.pre
  have hown : s.vm.findClass RX12 = some m.cls := findClass_of_methodNamed B.named
  have hlocks := B.notSynchronized
  subst hh
  have hD := hD0.self (sz := s.heap.size)
  have hA : ∀ q : Nat, s.heap.size ≤ q → (va_A (wR 21 ad (EM cs ad) mu) s.heap.size) q := fun q h => Or.inr h
  have hS : va_S (va_A (wR 21 ad (EM cs ad) mu) s.heap.size) s.heap s.heap [] := va_S.rf
  have hl := lv_entry ([.ref (ad 0), .int 2, .int vh, .int vp]) (n := 8) (Nat.le_of_ble_eq_true rfl)
  rw [lg_entry_eq]
  generalize (lg_sl ([.ref (ad 0), .int 2, .int vh, .int vp]) ++ List.replicate (8 - (lg_sl ([.ref (ad 0), .int 2, .int vh, .int vp])).length) Slot.unset).toArray = ls at hl ⊢
  have hl : lv_has ls 8 [(0, .ref (ad 0)), (1, .int 2), (2, .int vh), (3, .int vp)] := hl
  obtain ⟨fz, hfz⟩ : ∃ z, F_sm_routeOn2 mu vh vp = z := ⟨_, rfl⟩
  have hF := hfz
  unfold F_sm_routeOn2 at hF
  obtain ⟨y1, ey1⟩ : ∃ z : Int32, z = mu 0 39 := ⟨_, rfl⟩
  have hF := mi_let hF ey1
  have by1 : y1.toInt = (mu 0 39).toInt := congrArg Int32.toInt ey1
  have gy1 : -9 ≤ y1.toInt ∧ y1.toInt ≤ 3 := by rw [ey1]; exact rM_0_39 ok
  obtain ⟨y2, ey2⟩ : ∃ z : Int32, z = mu 0 33 := ⟨_, rfl⟩
  have hF := mi_let hF ey2
  have by2 : y2.toInt = (mu 0 33).toInt := congrArg Int32.toInt ey2
  obtain ⟨y3, ey3⟩ : ∃ z : Int32, z = mu 0 35 := ⟨_, rfl⟩
  have hF := mi_let hF ey3
  have by3 : y3.toInt = (mu 0 35).toInt := congrArg Int32.toInt ey3
  refine lv_aload_n hx hb dX12_routeOn_0 rfl (lv_at hl 0 rfl) ?_
  refine va_get (D := (dC, dI)) (ci := 12) (v := .ref (ad 16)) (C := RX12) (T := TX12) (N := 46) hx hb hts inG12 hown hK hP 0 (gM_0 cs ad mu) rfl 26 (by decide) (hts _ (List.mem_cons_of_mem _ mw_5_67)) (fun _ h9 => h9) rfl dX12_routeOn_1 ?_
  refine lv_iload_n hx hb dX12_routeOn_4 rfl (lv_at hl 1 rfl) ?_
  refine lv_iconst (v := 1) hx hb dX12_routeOn_5 (by decide) ?_
  refine lv_isub hx hb dX12_routeOn_6 ?_
  refine lq_i 1 (by decide) ?_
  refine va_iald hx hb hK hP 16 0 (gM_16 cs ad mu) rfl (show vp_in 1 7 from (by unfold vp_in; decide)) dX12_routeOn_7 ?_
  refine lv_topi (fun y4 ey4 => ?_)
  have hF := mi_let hF ey4
  have by4 : y4.toInt = (mu 16 (1 : Int32).toNatClampNeg).toInt := congrArg Int32.toInt ey4
  have gy4 : 0 ≤ y4.toInt ∧ y4.toInt ≤ 6 := by rw [ey4]; exact rM_16_s ok (1 : Int32).toNatClampNeg
  refine lv_istore (lv' := [(4, .int y4), (0, .ref (ad 0)), (1, .int 2), (2, .int vh), (3, .int vp)]) hx hb dX12_routeOn_8 hl (by decide) rfl (fun ls hl => ?_)
  refine lv_aload_n hx hb dX12_routeOn_10 rfl (lv_at hl 1 rfl) ?_
  refine lv_iload hx hb dX12_routeOn_11 (lv_at hl 0 rfl) ?_
  refine lv_iload_n hx hb dX12_routeOn_13 rfl (lv_at hl 4 rfl) ?_
  refine cr_i (va_runV (As := [.int y4, .int vp]) (rest := []) ⟨hx, hb, hml, hown, hts⟩ (sm_asksOf l dC dI cs ad mu ok s.heap hP y4 vp (by omega)) (cwV 2 hts (wU_V mw_6_74 mw_6_71 mw_6_73 mw_0_42 mw_1_13) rfl rfl rfl (by decide +kernel) ⟨Nat.le_of_ble_eq_true rfl, Nat.le_of_ble_eq_true rfl⟩) ⟨sz_c, va_recv hK hP (ci := 12) (q0 := 0) rfl (gM_0 cs ad mu), sz_m hK hz⟩ rfl rfl hl.1 rfl (lv_room (Nat.le_of_ble_eq_true rfl)) dX12_routeOn_14 ⟨Nat.zero_le _, Nat.zero_le _⟩) hS (fun r5 hw5 locs hS => ?_)
  obtain ⟨hfe5, hw5⟩ := hw5
  have hF := mi_let hF hfe5
  refine lv_istore (lv' := [(5, .int r5), (4, .int y4), (0, .ref (ad 0)), (1, .int 2), (2, .int vh), (3, .int vp)]) hx hb dX12_routeOn_17 hl (by decide) rfl (fun ls hl => ?_)
  refine lv_aload_n hx hb dX12_routeOn_19 rfl (lv_at hl 2 rfl) ?_
  refine lv_iload hx hb dX12_routeOn_20 (lv_at hl 1 rfl) ?_
  refine cr_i (va_runV (As := [.int y4]) (rest := []) ⟨hx, hb, hml, hown, hts⟩ (sm_besideOf l dC dI cs ad mu ok s.heap hP y4) (cwV 1 hts (wU_V mw_6_56 mw_6_53 mw_6_55 mw_0_40 mw_1_13) rfl rfl rfl (by decide +kernel) ⟨Nat.le_of_ble_eq_true rfl, Nat.le_of_ble_eq_true rfl⟩) ⟨sz_c, va_recv hK hP (ci := 12) (q0 := 0) rfl (gM_0 cs ad mu), sz_m hK hz⟩ rfl rfl hl.1 rfl (lv_room (Nat.le_of_ble_eq_true rfl)) dX12_routeOn_22 ⟨Nat.zero_le _, Nat.zero_le _⟩) hS (fun r6 hw6 locs hS => ?_)
  obtain ⟨hfe6, hw6⟩ := hw6
  have hF := mi_let hF hfe6
  refine lv_iload_n hx hb dX12_routeOn_25 rfl (lv_at hl 4 rfl) ?_
  refine lv_iconst (v := (-1)) hx hb dX12_routeOn_26 (by decide) ?_
  refine lv_ixor hx hb dX12_routeOn_27 ?_
  refine lv_topi (fun t7 et7 => ?_)
  have hF := mi_let hF et7
  refine lv_iand hx hb dX12_routeOn_28 ?_
  refine lv_topi (fun t8 et8 => ?_)
  have hF := mi_let hF et8
  refine lv_istore (lv' := [(6, .int t8), (5, .int r5), (4, .int y4), (0, .ref (ad 0)), (1, .int 2), (2, .int vh), (3, .int vp)]) hx hb dX12_routeOn_29 hl (by decide) rfl (fun ls hl => ?_)
  refine lv_iconst (v := 0) hx hb dX12_routeOn_31 (by decide) ?_
  refine lv_istore (lv' := [(7, .int 0), (6, .int t8), (5, .int r5), (4, .int y4), (0, .ref (ad 0)), (1, .int 2), (2, .int vh), (3, .int vp)]) hx hb dX12_routeOn_32 hl (by decide) rfl (fun ls hl => ?_)
  have loop34 : ∀ (n34 : Nat) (v7_34 : Int32) (nu34_ : Nat → Nat → Int32) (H : Heap) (locs : List Loc) (ls : Array Slot), (7 + 1 - v7_34.toInt).toNat < n34 → (0 ≤ v7_34.toInt ∧ v7_34.toInt ≤ 7) → (((nu34_ 0 39).toInt = -9 ∨ (0 ≤ (nu34_ 0 39).toInt ∧ (nu34_ 0 39).toInt ≤ 3)) ∧ ((nu34_ 0 33).toInt = 0 ∨ (nu34_ 0 35).toInt ≤ 7)) → okR loM hiM nu34_ → va_P (dC, dI) vwCl (wR 21 ad (EM cs ad) nu34_) H → (∀ k f : Nat, Nat.testBit 510 (gpM k f) = true → nu34_ k f = mu k f) → L_sm_routeOn2_34_0 r5 t8 vh n34 v7_34 nu34_ = fz → va_S (va_A (wR 21 ad (EM cs ad) mu) s.heap.size) s.heap H locs → lv_has ls 8 [(7, .int v7_34), (6, .int t8), (5, .int r5), (4, .int y4), (0, .ref (ad 0)), (1, .int 2), (2, .int vh), (3, .int vp)] → W p l e (headSpec (wU yX12_routeOn cX12_routeOn 8 none) ({ frames := 7, cells := 0, slots := 0, locals := 181 })).room s m ([.ref (ad 0), .int 2, .int vh, .int vp] : List Value).toArray below meth c H locs 0 0 (MQ below (va_Qv (fun (xi : Nat → Nat → Int32) => xi = F_sm_routeOn2 mu vh vp ∧ okR loM hiM xi ∧ (((xi 0 39).toInt = -9 ∨ (0 ≤ (xi 0 39).toInt ∧ (xi 0 39).toInt ≤ 3)) ∧ ((xi 0 33).toInt = 0 ∨ (xi 0 35).toInt ≤ 7)) ∧ (∀ k f : Nat, Nat.testBit 510 (gpM k f) = true → xi k f = mu k f)) (fun xi t => va_P (dC, dI) vwCl (wR 21 ad (EM cs ad) xi) t.heap) (va_A (wR 21 ad (EM cs ad) mu) s.heap.size)) ([.ref (ad 0), .int 2, .int vh, .int vp] : List Value).toArray s 0 0 (va_A (wR 21 ad (EM cs ad) mu) s.heap.size)) (F0 m 34 ls []) := by
    intro n34
    induction n34 with
    | zero => intro v7_34 nu34_ H locs ls hm; exact absurd hm (Nat.not_lt_zero _)
    | succ n34 ih34 =>
      intro v7_34 nu34_ H locs ls hm_34 h_v7_34 hi34_0 ok hP kq34_0 hF hS hl
      rw [L_sm_routeOn2_34_0] at hF
      obtain ⟨y9, ey9⟩ : ∃ z : Int32, z = nu34_ 0 39 := ⟨_, rfl⟩
      have hF := mi_let hF ey9
      have by9 : y9.toInt = (nu34_ 0 39).toInt := congrArg Int32.toInt ey9
      have gy9 : -9 ≤ y9.toInt ∧ y9.toInt ≤ 3 := by rw [ey9]; exact rM_0_39 ok
      obtain ⟨y10, ey10⟩ : ∃ z : Int32, z = nu34_ 0 33 := ⟨_, rfl⟩
      have hF := mi_let hF ey10
      have by10 : y10.toInt = (nu34_ 0 33).toInt := congrArg Int32.toInt ey10
      obtain ⟨y11, ey11⟩ : ∃ z : Int32, z = nu34_ 0 35 := ⟨_, rfl⟩
      have hF := mi_let hF ey11
      have by11 : y11.toInt = (nu34_ 0 35).toInt := congrArg Int32.toInt ey11
      refine lv_iload hx hb dX12_routeOn_34 (lv_at hl 0 rfl) ?_
      refine lv_aload_n hx hb dX12_routeOn_36 rfl (lv_at hl 4 rfl) ?_
      refine va_get (D := (dC, dI)) (ci := 12) (v := .int (nu34_ 0 8)) (C := RX12) (T := TX12) (N := 46) hx hb hts inG12 hown hK hP 0 (gM_0 cs ad nu34_) rfl 8 (by decide) (hts _ (List.mem_cons_of_mem _ mw_5_49)) (fun _ h9 => h9) rfl dX12_routeOn_37 ?_
      refine lv_topi (fun y12 ey12 => ?_)
      have hF := mi_let hF ey12
      have by12 : y12.toInt = (nu34_ 0 8).toInt := congrArg Int32.toInt ey12
      have gy12 : 0 ≤ y12.toInt ∧ y12.toInt ≤ 7 := by rw [ey12]; exact rM_0_8 ok
      refine lv_icmp_ge (tgt := 145) hx hb dX12_routeOn_40 (by decide) (fun c_13 => ?_) (fun c_13 => ?_)
      · have hF := (if_pos c_13).symm.trans hF
        have c_13 : y12.toInt ≤ v7_34.toInt := il_le c_13
        exact W.vret hx hb hr (fun t ht hW => ⟨⟨nu34_, rfl, ⟨hF.trans hfz.symm, ok, (by first | assumption | (have hb14 := congrArg Int32.toInt ey9; have hb15 := congrArg Int32.toInt ey10; have hb16 := congrArg Int32.toInt ey11; omega)), kq34_0⟩, by first | (subst ht; exact hP) | (rw [ht]; exact hP) | (show va_P (dC, dI) vwCl (wR 21 ad (EM cs ad) nu34_) t.heap; rw [ht]; exact hP)⟩, hS.F ht⟩) hS.2.2 dX12_routeOn_145
      · have hF := (if_neg c_13).symm.trans hF
        have c_13 : v7_34.toInt < y12.toInt := il_nle c_13
        refine lv_iload hx hb dX12_routeOn_43 (lv_at hl 1 rfl) ?_
        refine lv_iload hx hb dX12_routeOn_45 (lv_at hl 0 rfl) ?_
        refine cr_i (va_runS (As := [.int t8, .int v7_34]) (rest := []) ⟨hx, hb, hml, hown, hts⟩ (sm_has l dC dI (tyM cs) H t8 v7_34) (va_cwS 2 hts (wU_S mw_6_59 mw_6_57 mw_6_58 mw_1_13) rfl rfl rfl (by decide +kernel) ⟨Nat.le_of_ble_eq_true rfl, Nat.le_of_ble_eq_true rfl⟩) ⟨sz_c, sz_m hK hz⟩ rfl rfl hl.1 rfl (lv_room (Nat.le_of_ble_eq_true rfl)) dX12_routeOn_47 ⟨Nat.zero_le _, Nat.zero_le _⟩) hS (fun r17 hw17 locs hS => ?_)
        obtain ⟨hfe17, hw17⟩ := hw17
        rcases hw17 with ⟨rfl, f17⟩ | ⟨rfl, f17⟩
        · have hF := (if_pos hfe17.symm).symm.trans hF
          have f17 : rb t8 v7_34 = 1 := f17
          refine lv_if_eq (tgt := 139) hx hb dX12_routeOn_50 (by decide) (fun c => absurd c (by decide)) (fun _ => ?_)
          refine lv_aload_n hx hb dX12_routeOn_53 rfl (lv_at hl 4 rfl) ?_
          refine va_get (D := (dC, dI)) (ci := 12) (v := .int (nu34_ 0 38)) (C := RX12) (T := TX12) (N := 46) hx hb hts inG12 hown hK hP 0 (gM_0 cs ad nu34_) rfl 38 (by decide) (hts _ (List.mem_cons_of_mem _ mw_5_79)) (fun _ h9 => h9) rfl dX12_routeOn_54 ?_
          refine lv_topi (fun y18 ey18 => ?_)
          have hF := mi_let hF ey18
          have by18 : y18.toInt = (nu34_ 0 38).toInt := congrArg Int32.toInt ey18
          have gy18 : 0 ≤ y18.toInt ∧ y18.toInt ≤ 1 := by rw [ey18]; exact rM_0_38 ok
          refine lv_if_eq (tgt := 72) hx hb dX12_routeOn_57 (by decide) (fun c_19 => ?_) (fun c_19 => ?_)
          · have hF := (if_pos c_19).symm.trans hF
            have c_19 : y18.toInt = 0 := il_eq c_19
            refine lv_aload_n hx hb dX12_routeOn_72 rfl (lv_at hl 4 rfl) ?_
            refine va_get (D := (dC, dI)) (ci := 12) (v := .ref (ad 16)) (C := RX12) (T := TX12) (N := 46) hx hb hts inG12 hown hK hP 0 (gM_0 cs ad nu34_) rfl 26 (by decide) (hts _ (List.mem_cons_of_mem _ mw_5_67)) (fun _ h9 => h9) rfl dX12_routeOn_73 ?_
            refine lv_iload_n hx hb dX12_routeOn_76 rfl (lv_at hl 5 rfl) ?_
            refine lv_iload hx hb dX12_routeOn_77 (lv_at hl 0 rfl) ?_
            refine va_iast hx hb hK hP (wR_D nu34_ hD) hS 16 0 (gM_16 cs ad nu34_) rfl (show vp_in 2 7 from (by unfold vp_in; decide)) dX12_routeOn_79 (fun H locs hP _ hS => ?_)
            refine wr_gen (upd (nu34_ 16) (2 : Int32).toNatClampNeg v7_34) hP (rfl) (fun nu20 hn20 hP => ?_)
            have hF := mi_let hF hn20.symm
            have ok := tM_16_s ok (2 : Int32).toNatClampNeg hn20 (by omega)
            have ez21 : y9 = nu20 0 39 := ey9.trans (congrFun (up_k hn20 (by decide)) 39).symm
            have ez22 : y10 = nu20 0 33 := ey10.trans (congrFun (up_k hn20 (by decide)) 33).symm
            have ez23 : y11 = nu20 0 35 := ey11.trans (congrFun (up_k hn20 (by decide)) 35).symm
            have ez24 : y12 = nu20 0 8 := ey12.trans (congrFun (up_k hn20 (by decide)) 8).symm
            have ez25 : y18 = nu20 0 38 := ey18.trans (congrFun (up_k hn20 (by decide)) 38).symm
            have kp26 : (∀ k f : Nat, Nat.testBit 510 (gpM k f) = true → nu20 k f = mu k f) := kp_c 0 hn20 (fun _ => rfl) (by decide) kq34_0
            refine lv_iload hx hb dX12_routeOn_80 (lv_at hl 0 rfl) ?_
            refine lv_aload_n hx hb dX12_routeOn_82 rfl (lv_at hl 4 rfl) ?_
            refine va_get (D := (dC, dI)) (ci := 12) (v := .int (nu20 0 29)) (C := RX12) (T := TX12) (N := 46) hx hb hts inG12 hown hK hP 0 (gM_0 cs ad nu20) rfl 29 (by decide) (hts _ (List.mem_cons_of_mem _ mw_5_70)) (fun _ h9 => h9) rfl dX12_routeOn_83 ?_
            refine lv_topi (fun y27 ey27 => ?_)
            have hF := mi_let hF ey27
            have by27 : y27.toInt = (nu20 0 29).toInt := congrArg Int32.toInt ey27
            refine lv_icmp_ne (tgt := 113) hx hb dX12_routeOn_86 (by decide) (fun c_28 => ?_) (fun c_28 => ?_)
            · have hF := (if_neg c_28).symm.trans hF
              have c_28 : ¬ v7_34.toInt = y27.toInt := il_ne c_28
              refine lv_aload_n hx hb dX12_routeOn_113 rfl (lv_at hl 4 rfl) ?_
              refine va_get (D := (dC, dI)) (ci := 12) (v := .ref (ad 7)) (C := RX12) (T := TX12) (N := 46) hx hb hts inG12 hown hK hP 0 (gM_0 cs ad nu20) rfl 9 (by decide) (hts _ (List.mem_cons_of_mem _ mw_5_50)) (fun _ h9 => h9) rfl dX12_routeOn_114 ?_
              refine lv_iload hx hb dX12_routeOn_117 (lv_at hl 0 rfl) ?_
              refine va_iald hx hb hK hP 7 0 (gM_7 cs ad nu20) rfl (show vp_in v7_34 7 from vi_of (by omega) (by omega)) dX12_routeOn_119 ?_
              refine lv_topi (fun y29 ey29 => ?_)
              have hF := mi_let hF ey29
              have by29 : y29.toInt = (nu20 7 v7_34.toNatClampNeg).toInt := congrArg Int32.toInt ey29
              refine lv_iconst (v := 3) hx hb dX12_routeOn_120 (by decide) ?_
              refine lv_icmp_eq (tgt := 139) hx hb dX12_routeOn_121 (by decide) (fun c_30 => ?_) (fun c_30 => ?_)
              · have hF := (if_pos c_30).symm.trans hF
                have c_30 : y29.toInt = 3 := il_eq c_30
                refine lv_iinc (v := (v7_34 + 1)) (lv' := [(7, .int (v7_34 + 1)), (6, .int t8), (5, .int r5), (4, .int y4), (0, .ref (ad 0)), (1, .int 2), (2, .int vh), (3, .int vp)]) hx hb dX12_routeOn_139 hl (k := 0) rfl rfl (by decide) rfl (fun ls hl => ?_)
                refine loc_gen (P := fun w9 => lv_has ls 8 [(7, .int w9), (6, .int t8), (5, .int r5), (4, .int y4), (0, .ref (ad 0)), (1, .int 2), (2, .int vh), (3, .int vp)]) (v7_34 + 1) hl (fun w31 hw31 hl => ?_)
                have hl : lv_has ls 8 [(7, .int w31), (6, .int t8), (5, .int r5), (4, .int y4), (0, .ref (ad 0)), (1, .int 2), (2, .int vh), (3, .int vp)] := hl
                have hF := mi_let hF hw31.symm
                have aw31 : w31.toInt = v7_34.toInt + 1 := by rw [← hw31]; first | exact va1 (Int.lt_of_le_of_lt h_v7_34.2 (by decide)) | exact va1 (by omega)
                refine lv_goto (tgt := 34) hx hb dX12_routeOn_142 (by decide) ?_
                exact ih34 (w31) nu20 _ _ _ (by first | exact ms_up hm_34 aw31 h_v7_34.2 | exact ms_lt hm_34 (by omega) (by omega) | omega) (by first | exact rg_up aw31 h_v7_34 (by omega) | omega) (by first | assumption | (rw [← ez21, ← ez22, ← ez23, ey9, ey10, ey11]; assumption) | (have hb32 := congrArg Int32.toInt ez21; have hb33 := congrArg Int32.toInt ez22; have hb34 := congrArg Int32.toInt ez23; omega)) ok hP  kp26 hF hS (lv_sub hl [0, 1, 2, 3, 4, 5, 6, 7] rfl)
              · have hF := (if_neg c_30).symm.trans hF
                have c_30 : ¬ y29.toInt = 3 := il_ne c_30
                refine lv_aload_n hx hb dX12_routeOn_124 rfl (lv_at hl 4 rfl) ?_
                refine lv_iload_n hx hb dX12_routeOn_125 rfl (lv_at hl 5 rfl) ?_
                refine lv_iconst (v := 1) hx hb dX12_routeOn_126 (by decide) ?_
                refine lv_iadd hx hb dX12_routeOn_127 ?_
                refine lq_i 3 (by decide) ?_
                refine lv_iload_n hx hb dX12_routeOn_128 rfl (lv_at hl 6 rfl) ?_
                refine lv_iconst (v := 1) hx hb dX12_routeOn_129 (by decide) ?_
                refine lv_iload hx hb dX12_routeOn_130 (lv_at hl 0 rfl) ?_
                refine lv_ishl hx hb dX12_routeOn_132 ?_
                refine lv_topi (fun t35 et35 => ?_)
                have hF := mi_let hF et35
                refine lv_ior hx hb dX12_routeOn_133 ?_
                refine lv_topi (fun t36 et36 => ?_)
                have hF := mi_let hF et36
                refine lv_iload hx hb dX12_routeOn_134 (lv_at hl 2 rfl) ?_
                have hFc := fr_all (wR_D nu20 hD) hS hA
                refine va_callv (va_runV (As := [.int 3, .int t36, .int r5]) (rest := []) ⟨hx, hb, hml, hown, hts⟩ (sm_routeOn3 l dC dI cs ad nu20 ok H hP ((wR_D nu20 hD).weaken (fun _ _ _ _ => trivial)) t36 r5 (by have h50 : (3 : Int32).toInt = 3 := rfl; rw [et36, et35]; exact h7_next hin0 (by rw [et8, et7]) (by omega) (by omega) f17) (by have h50 : (3 : Int32).toInt = 3 := rfl; have hb37 := congrArg Int32.toInt ez21; have hb38 := congrArg Int32.toInt ez22; have hb39 := congrArg Int32.toInt ez23; omega)) (cwV 3 hts (wU_V mw_6_183 mw_6_180 mw_6_182 mw_0_55 mw_1_13) rfl rfl rfl (by decide +kernel) ⟨Nat.le_of_ble_eq_true rfl, Nat.le_of_ble_eq_true rfl⟩) ⟨sz_c, va_recv hK hP (ci := 12) (q0 := 0) rfl (gM_0 cs ad nu20), sz_m hK hz⟩ rfl rfl hl.1 rfl (lv_room (Nat.le_of_ble_eq_true rfl)) dX12_routeOn_136 ⟨Nat.zero_le _, Nat.zero_le _⟩) hS (fun q _ h => hFc q h) hFc (fun xi40 t H40 locs ht hvm hw40 hB hz1 hk1 hS => ?_)
                have hP : va_P (dC, dI) vwCl (wR 21 ad (EM cs ad) xi40) H40 := by rw [← ht]; exact hB
                obtain ⟨hfe40, ok, hw40, hkp40_0⟩ := hw40
                have hF := mi_let hF hfe40
                have kp41 : (∀ k f : Nat, Nat.testBit 510 (gpM k f) = true → xi40 k f = mu k f) := kp_t hkp40_0 (by decide) kp26
                obtain ⟨y42, ey42⟩ : ∃ z : Int32, z = xi40 0 39 := ⟨_, rfl⟩
                have hF := mi_let hF ey42
                have by42 : y42.toInt = (xi40 0 39).toInt := congrArg Int32.toInt ey42
                have gy42 : -9 ≤ y42.toInt ∧ y42.toInt ≤ 3 := by rw [ey42]; exact rM_0_39 ok
                obtain ⟨y43, ey43⟩ : ∃ z : Int32, z = xi40 0 33 := ⟨_, rfl⟩
                have hF := mi_let hF ey43
                have by43 : y43.toInt = (xi40 0 33).toInt := congrArg Int32.toInt ey43
                obtain ⟨y44, ey44⟩ : ∃ z : Int32, z = xi40 0 35 := ⟨_, rfl⟩
                have hF := mi_let hF ey44
                have by44 : y44.toInt = (xi40 0 35).toInt := congrArg Int32.toInt ey44
                have gr40 : ((xi40 0 39).toInt = -9 ∨ (0 ≤ (xi40 0 39).toInt ∧ (xi40 0 39).toInt ≤ 3)) ∧ ((xi40 0 33).toInt = 0 ∨ (xi40 0 35).toInt ≤ 7) := hw40
                refine lv_iinc (v := (v7_34 + 1)) (lv' := [(7, .int (v7_34 + 1)), (6, .int t8), (5, .int r5), (4, .int y4), (0, .ref (ad 0)), (1, .int 2), (2, .int vh), (3, .int vp)]) hx hb dX12_routeOn_139 hl (k := 0) rfl rfl (by decide) rfl (fun ls hl => ?_)
                refine loc_gen (P := fun w9 => lv_has ls 8 [(7, .int w9), (6, .int t8), (5, .int r5), (4, .int y4), (0, .ref (ad 0)), (1, .int 2), (2, .int vh), (3, .int vp)]) (v7_34 + 1) hl (fun w45 hw45 hl => ?_)
                have hl : lv_has ls 8 [(7, .int w45), (6, .int t8), (5, .int r5), (4, .int y4), (0, .ref (ad 0)), (1, .int 2), (2, .int vh), (3, .int vp)] := hl
                have hF := mi_let hF hw45.symm
                have aw45 : w45.toInt = v7_34.toInt + 1 := by rw [← hw45]; first | exact va1 (Int.lt_of_le_of_lt h_v7_34.2 (by decide)) | exact va1 (by omega)
                refine lv_goto (tgt := 34) hx hb dX12_routeOn_142 (by decide) ?_
                exact ih34 (w45) xi40 _ _ _ (by first | exact ms_up hm_34 aw45 h_v7_34.2 | exact ms_lt hm_34 (by omega) (by omega) | omega) (by first | exact rg_up aw45 h_v7_34 (by omega) | omega) (by first | assumption | (have hb46 := congrArg Int32.toInt ey42; have hb47 := congrArg Int32.toInt ey43; have hb48 := congrArg Int32.toInt ey44; omega)) ok hP  kp41 hF hS (lv_sub hl [0, 1, 2, 3, 4, 5, 6, 7] rfl)
            · have hF := (if_pos c_28).symm.trans hF
              have c_28 : v7_34.toInt = y27.toInt := il_eq c_28
              refine lv_aload_n hx hb dX12_routeOn_89 rfl (lv_at hl 4 rfl) ?_
              refine lv_iload_n hx hb dX12_routeOn_90 rfl (lv_at hl 5 rfl) ?_
              refine lv_iconst (v := 1) hx hb dX12_routeOn_91 (by decide) ?_
              refine lv_iadd hx hb dX12_routeOn_92 ?_
              refine lq_i 3 (by decide) ?_
              refine lv_iload_n hx hb dX12_routeOn_93 rfl (lv_at hl 6 rfl) ?_
              refine lv_iconst (v := 1) hx hb dX12_routeOn_94 (by decide) ?_
              refine lv_aload_n hx hb dX12_routeOn_95 rfl (lv_at hl 4 rfl) ?_
              refine va_get (D := (dC, dI)) (ci := 12) (v := .ref (ad 16)) (C := RX12) (T := TX12) (N := 46) hx hb hts inG12 hown hK hP 0 (gM_0 cs ad nu20) rfl 26 (by decide) (hts _ (List.mem_cons_of_mem _ mw_5_67)) (fun _ h9 => h9) rfl dX12_routeOn_96 ?_
              refine lv_iconst (v := 0) hx hb dX12_routeOn_99 (by decide) ?_
              refine va_iald hx hb hK hP 16 0 (gM_16 cs ad nu20) rfl (show vp_in 0 7 from (by unfold vp_in; decide)) dX12_routeOn_100 ?_
              refine lv_topi (fun y49 ey49 => ?_)
              have hF := mi_let hF ey49
              have by49 : y49.toInt = (nu20 16 (0 : Int32).toNatClampNeg).toInt := congrArg Int32.toInt ey49
              have gy49 : 0 ≤ y49.toInt ∧ y49.toInt ≤ 6 := by rw [ey49]; exact rM_16_s ok (0 : Int32).toNatClampNeg
              refine lv_ishl hx hb dX12_routeOn_101 ?_
              refine lv_topi (fun t50 et50 => ?_)
              have hF := mi_let hF et50
              refine lv_iconst (v := (-1)) hx hb dX12_routeOn_102 (by decide) ?_
              refine lv_ixor hx hb dX12_routeOn_103 ?_
              refine lv_topi (fun t51 et51 => ?_)
              have hF := mi_let hF et51
              refine lv_iand hx hb dX12_routeOn_104 ?_
              refine lv_topi (fun t52 et52 => ?_)
              have hF := mi_let hF et52
              refine lv_iload hx hb dX12_routeOn_105 (lv_at hl 2 rfl) ?_
              have hFc := fr_all (wR_D nu20 hD) hS hA
              refine va_callv (va_runV (As := [.int 3, .int t52, .int r5]) (rest := []) ⟨hx, hb, hml, hown, hts⟩ (sm_meetRoute l dC dI cs ad nu20 ok H hP ((wR_D nu20 hD).weaken (fun _ _ _ _ => trivial)) 3 t52 r5 (by have h50 : (3 : Int32).toInt = 3 := rfl; omega) (by have h50 : (3 : Int32).toInt = 3 := rfl; have hb53 := congrArg Int32.toInt ez21; have hb54 := congrArg Int32.toInt ez22; have hb55 := congrArg Int32.toInt ez23; omega)) (cwV 3 hts (wU_V mw_6_187 mw_6_184 mw_6_186 mw_0_56 mw_1_13) rfl rfl rfl (by decide +kernel) ⟨Nat.le_of_ble_eq_true rfl, Nat.le_of_ble_eq_true rfl⟩) ⟨sz_c, va_recv hK hP (ci := 12) (q0 := 0) rfl (gM_0 cs ad nu20), sz_m hK hz⟩ rfl rfl hl.1 rfl (lv_room (Nat.le_of_ble_eq_true rfl)) dX12_routeOn_107 ⟨Nat.zero_le _, Nat.zero_le _⟩) hS (fun q _ h => hFc q h) hFc (fun xi56 t H56 locs ht hvm hw56 hB hz1 hk1 hS => ?_)
              have hP : va_P (dC, dI) vwCl (wR 21 ad (EM cs ad) xi56) H56 := by rw [← ht]; exact hB
              obtain ⟨hfe56, ok, hw56, hkp56_0⟩ := hw56
              have hF := mi_let hF hfe56
              have kp57 : (∀ k f : Nat, Nat.testBit 510 (gpM k f) = true → xi56 k f = mu k f) := kp_t hkp56_0 (by decide) kp26
              obtain ⟨y58, ey58⟩ : ∃ z : Int32, z = xi56 0 39 := ⟨_, rfl⟩
              have hF := mi_let hF ey58
              have by58 : y58.toInt = (xi56 0 39).toInt := congrArg Int32.toInt ey58
              have gy58 : -9 ≤ y58.toInt ∧ y58.toInt ≤ 3 := by rw [ey58]; exact rM_0_39 ok
              obtain ⟨y59, ey59⟩ : ∃ z : Int32, z = xi56 0 33 := ⟨_, rfl⟩
              have hF := mi_let hF ey59
              have by59 : y59.toInt = (xi56 0 33).toInt := congrArg Int32.toInt ey59
              obtain ⟨y60, ey60⟩ : ∃ z : Int32, z = xi56 0 35 := ⟨_, rfl⟩
              have hF := mi_let hF ey60
              have by60 : y60.toInt = (xi56 0 35).toInt := congrArg Int32.toInt ey60
              have gr56 : ((xi56 0 39).toInt = -9 ∨ (0 ≤ (xi56 0 39).toInt ∧ (xi56 0 39).toInt ≤ 3)) ∧ ((xi56 0 33).toInt = 0 ∨ (xi56 0 35).toInt ≤ 7) := hw56
              refine lv_goto (tgt := 139) hx hb dX12_routeOn_110 (by decide) ?_
              refine lv_iinc (v := (v7_34 + 1)) (lv' := [(7, .int (v7_34 + 1)), (6, .int t8), (5, .int r5), (4, .int y4), (0, .ref (ad 0)), (1, .int 2), (2, .int vh), (3, .int vp)]) hx hb dX12_routeOn_139 hl (k := 0) rfl rfl (by decide) rfl (fun ls hl => ?_)
              refine loc_gen (P := fun w9 => lv_has ls 8 [(7, .int w9), (6, .int t8), (5, .int r5), (4, .int y4), (0, .ref (ad 0)), (1, .int 2), (2, .int vh), (3, .int vp)]) (v7_34 + 1) hl (fun w61 hw61 hl => ?_)
              have hl : lv_has ls 8 [(7, .int w61), (6, .int t8), (5, .int r5), (4, .int y4), (0, .ref (ad 0)), (1, .int 2), (2, .int vh), (3, .int vp)] := hl
              have hF := mi_let hF hw61.symm
              have aw61 : w61.toInt = v7_34.toInt + 1 := by rw [← hw61]; first | exact va1 (Int.lt_of_le_of_lt h_v7_34.2 (by decide)) | exact va1 (by omega)
              refine lv_goto (tgt := 34) hx hb dX12_routeOn_142 (by decide) ?_
              exact ih34 (w61) xi56 _ _ _ (by first | exact ms_up hm_34 aw61 h_v7_34.2 | exact ms_lt hm_34 (by omega) (by omega) | omega) (by first | exact rg_up aw61 h_v7_34 (by omega) | omega) (by first | assumption | (have hb62 := congrArg Int32.toInt ey58; have hb63 := congrArg Int32.toInt ey59; have hb64 := congrArg Int32.toInt ey60; omega)) ok hP  kp57 hF hS (lv_sub hl [0, 1, 2, 3, 4, 5, 6, 7] rfl)
          · have hF := (if_neg c_19).symm.trans hF
            have c_19 : ¬ y18.toInt = 0 := il_ne c_19
            refine lv_aload_n hx hb dX12_routeOn_60 rfl (lv_at hl 4 rfl) ?_
            refine va_get (D := (dC, dI)) (ci := 12) (v := .ref (ad 8)) (C := RX12) (T := TX12) (N := 46) hx hb hts inG12 hown hK hP 0 (gM_0 cs ad nu34_) rfl 10 (by decide) (hts _ (List.mem_cons_of_mem _ mw_5_51)) (fun _ h9 => h9) rfl dX12_routeOn_61 ?_
            refine lv_iload hx hb dX12_routeOn_64 (lv_at hl 0 rfl) ?_
            refine va_iald hx hb hK hP 8 0 (gM_8 cs ad nu34_) rfl (show vp_in v7_34 7 from vi_of (by omega) (by omega)) dX12_routeOn_66 ?_
            refine lv_topi (fun y65 ey65 => ?_)
            have hF := mi_let hF ey65
            have by65 : y65.toInt = (nu34_ 8 v7_34.toNatClampNeg).toInt := congrArg Int32.toInt ey65
            refine lv_iload hx hb dX12_routeOn_67 (lv_at hl 2 rfl) ?_
            refine lv_icmp_lt (tgt := 139) hx hb dX12_routeOn_69 (by decide) (fun c_66 => ?_) (fun c_66 => ?_)
            · have hF := (if_pos c_66).symm.trans hF
              have c_66 : y65.toInt < r5.toInt := il_lt c_66
              refine lv_iinc (v := (v7_34 + 1)) (lv' := [(7, .int (v7_34 + 1)), (6, .int t8), (5, .int r5), (4, .int y4), (0, .ref (ad 0)), (1, .int 2), (2, .int vh), (3, .int vp)]) hx hb dX12_routeOn_139 hl (k := 0) rfl rfl (by decide) rfl (fun ls hl => ?_)
              refine loc_gen (P := fun w9 => lv_has ls 8 [(7, .int w9), (6, .int t8), (5, .int r5), (4, .int y4), (0, .ref (ad 0)), (1, .int 2), (2, .int vh), (3, .int vp)]) (v7_34 + 1) hl (fun w67 hw67 hl => ?_)
              have hl : lv_has ls 8 [(7, .int w67), (6, .int t8), (5, .int r5), (4, .int y4), (0, .ref (ad 0)), (1, .int 2), (2, .int vh), (3, .int vp)] := hl
              have hF := mi_let hF hw67.symm
              have aw67 : w67.toInt = v7_34.toInt + 1 := by rw [← hw67]; first | exact va1 (Int.lt_of_le_of_lt h_v7_34.2 (by decide)) | exact va1 (by omega)
              refine lv_goto (tgt := 34) hx hb dX12_routeOn_142 (by decide) ?_
              exact ih34 (w67) nu34_ _ _ _ (by first | exact ms_up hm_34 aw67 h_v7_34.2 | exact ms_lt hm_34 (by omega) (by omega) | omega) (by first | exact rg_up aw67 h_v7_34 (by omega) | omega) (by first | assumption | (have hb68 := congrArg Int32.toInt ey9; have hb69 := congrArg Int32.toInt ey10; have hb70 := congrArg Int32.toInt ey11; omega)) ok hP  kq34_0 hF hS (lv_sub hl [0, 1, 2, 3, 4, 5, 6, 7] rfl)
            · have hF := (if_neg c_66).symm.trans hF
              have c_66 : r5.toInt ≤ y65.toInt := il_nlt c_66
              refine lv_aload_n hx hb dX12_routeOn_72 rfl (lv_at hl 4 rfl) ?_
              refine va_get (D := (dC, dI)) (ci := 12) (v := .ref (ad 16)) (C := RX12) (T := TX12) (N := 46) hx hb hts inG12 hown hK hP 0 (gM_0 cs ad nu34_) rfl 26 (by decide) (hts _ (List.mem_cons_of_mem _ mw_5_67)) (fun _ h9 => h9) rfl dX12_routeOn_73 ?_
              refine lv_iload_n hx hb dX12_routeOn_76 rfl (lv_at hl 5 rfl) ?_
              refine lv_iload hx hb dX12_routeOn_77 (lv_at hl 0 rfl) ?_
              refine va_iast hx hb hK hP (wR_D nu34_ hD) hS 16 0 (gM_16 cs ad nu34_) rfl (show vp_in 2 7 from (by unfold vp_in; decide)) dX12_routeOn_79 (fun H locs hP _ hS => ?_)
              refine wr_gen (upd (nu34_ 16) (2 : Int32).toNatClampNeg v7_34) hP (rfl) (fun nu71 hn71 hP => ?_)
              have hF := mi_let hF hn71.symm
              have ok := tM_16_s ok (2 : Int32).toNatClampNeg hn71 (by omega)
              have ez72 : y9 = nu71 0 39 := ey9.trans (congrFun (up_k hn71 (by decide)) 39).symm
              have ez73 : y10 = nu71 0 33 := ey10.trans (congrFun (up_k hn71 (by decide)) 33).symm
              have ez74 : y11 = nu71 0 35 := ey11.trans (congrFun (up_k hn71 (by decide)) 35).symm
              have ez75 : y12 = nu71 0 8 := ey12.trans (congrFun (up_k hn71 (by decide)) 8).symm
              have ez76 : y18 = nu71 0 38 := ey18.trans (congrFun (up_k hn71 (by decide)) 38).symm
              have ez77 : y65 = nu71 8 v7_34.toNatClampNeg := ey65.trans (congrFun (up_k hn71 (by decide)) v7_34.toNatClampNeg).symm
              have kp78 : (∀ k f : Nat, Nat.testBit 510 (gpM k f) = true → nu71 k f = mu k f) := kp_c 0 hn71 (fun _ => rfl) (by decide) kq34_0
              refine lv_iload hx hb dX12_routeOn_80 (lv_at hl 0 rfl) ?_
              refine lv_aload_n hx hb dX12_routeOn_82 rfl (lv_at hl 4 rfl) ?_
              refine va_get (D := (dC, dI)) (ci := 12) (v := .int (nu71 0 29)) (C := RX12) (T := TX12) (N := 46) hx hb hts inG12 hown hK hP 0 (gM_0 cs ad nu71) rfl 29 (by decide) (hts _ (List.mem_cons_of_mem _ mw_5_70)) (fun _ h9 => h9) rfl dX12_routeOn_83 ?_
              refine lv_topi (fun y79 ey79 => ?_)
              have hF := mi_let hF ey79
              have by79 : y79.toInt = (nu71 0 29).toInt := congrArg Int32.toInt ey79
              refine lv_icmp_ne (tgt := 113) hx hb dX12_routeOn_86 (by decide) (fun c_80 => ?_) (fun c_80 => ?_)
              · have hF := (if_neg c_80).symm.trans hF
                have c_80 : ¬ v7_34.toInt = y79.toInt := il_ne c_80
                refine lv_aload_n hx hb dX12_routeOn_113 rfl (lv_at hl 4 rfl) ?_
                refine va_get (D := (dC, dI)) (ci := 12) (v := .ref (ad 7)) (C := RX12) (T := TX12) (N := 46) hx hb hts inG12 hown hK hP 0 (gM_0 cs ad nu71) rfl 9 (by decide) (hts _ (List.mem_cons_of_mem _ mw_5_50)) (fun _ h9 => h9) rfl dX12_routeOn_114 ?_
                refine lv_iload hx hb dX12_routeOn_117 (lv_at hl 0 rfl) ?_
                refine va_iald hx hb hK hP 7 0 (gM_7 cs ad nu71) rfl (show vp_in v7_34 7 from vi_of (by omega) (by omega)) dX12_routeOn_119 ?_
                refine lv_topi (fun y81 ey81 => ?_)
                have hF := mi_let hF ey81
                have by81 : y81.toInt = (nu71 7 v7_34.toNatClampNeg).toInt := congrArg Int32.toInt ey81
                refine lv_iconst (v := 3) hx hb dX12_routeOn_120 (by decide) ?_
                refine lv_icmp_eq (tgt := 139) hx hb dX12_routeOn_121 (by decide) (fun c_82 => ?_) (fun c_82 => ?_)
                · have hF := (if_pos c_82).symm.trans hF
                  have c_82 : y81.toInt = 3 := il_eq c_82
                  refine lv_iinc (v := (v7_34 + 1)) (lv' := [(7, .int (v7_34 + 1)), (6, .int t8), (5, .int r5), (4, .int y4), (0, .ref (ad 0)), (1, .int 2), (2, .int vh), (3, .int vp)]) hx hb dX12_routeOn_139 hl (k := 0) rfl rfl (by decide) rfl (fun ls hl => ?_)
                  refine loc_gen (P := fun w9 => lv_has ls 8 [(7, .int w9), (6, .int t8), (5, .int r5), (4, .int y4), (0, .ref (ad 0)), (1, .int 2), (2, .int vh), (3, .int vp)]) (v7_34 + 1) hl (fun w83 hw83 hl => ?_)
                  have hl : lv_has ls 8 [(7, .int w83), (6, .int t8), (5, .int r5), (4, .int y4), (0, .ref (ad 0)), (1, .int 2), (2, .int vh), (3, .int vp)] := hl
                  have hF := mi_let hF hw83.symm
                  have aw83 : w83.toInt = v7_34.toInt + 1 := by rw [← hw83]; first | exact va1 (Int.lt_of_le_of_lt h_v7_34.2 (by decide)) | exact va1 (by omega)
                  refine lv_goto (tgt := 34) hx hb dX12_routeOn_142 (by decide) ?_
                  exact ih34 (w83) nu71 _ _ _ (by first | exact ms_up hm_34 aw83 h_v7_34.2 | exact ms_lt hm_34 (by omega) (by omega) | omega) (by first | exact rg_up aw83 h_v7_34 (by omega) | omega) (by first | assumption | (rw [← ez72, ← ez73, ← ez74, ey9, ey10, ey11]; assumption) | (have hb84 := congrArg Int32.toInt ez72; have hb85 := congrArg Int32.toInt ez73; have hb86 := congrArg Int32.toInt ez74; omega)) ok hP  kp78 hF hS (lv_sub hl [0, 1, 2, 3, 4, 5, 6, 7] rfl)
                · have hF := (if_neg c_82).symm.trans hF
                  have c_82 : ¬ y81.toInt = 3 := il_ne c_82
                  refine lv_aload_n hx hb dX12_routeOn_124 rfl (lv_at hl 4 rfl) ?_
                  refine lv_iload_n hx hb dX12_routeOn_125 rfl (lv_at hl 5 rfl) ?_
                  refine lv_iconst (v := 1) hx hb dX12_routeOn_126 (by decide) ?_
                  refine lv_iadd hx hb dX12_routeOn_127 ?_
                  refine lq_i 3 (by decide) ?_
                  refine lv_iload_n hx hb dX12_routeOn_128 rfl (lv_at hl 6 rfl) ?_
                  refine lv_iconst (v := 1) hx hb dX12_routeOn_129 (by decide) ?_
                  refine lv_iload hx hb dX12_routeOn_130 (lv_at hl 0 rfl) ?_
                  refine lv_ishl hx hb dX12_routeOn_132 ?_
                  refine lv_topi (fun t87 et87 => ?_)
                  have hF := mi_let hF et87
                  refine lv_ior hx hb dX12_routeOn_133 ?_
                  refine lv_topi (fun t88 et88 => ?_)
                  have hF := mi_let hF et88
                  refine lv_iload hx hb dX12_routeOn_134 (lv_at hl 2 rfl) ?_
                  have hFc := fr_all (wR_D nu71 hD) hS hA
                  refine va_callv (va_runV (As := [.int 3, .int t88, .int r5]) (rest := []) ⟨hx, hb, hml, hown, hts⟩ (sm_routeOn3 l dC dI cs ad nu71 ok H hP ((wR_D nu71 hD).weaken (fun _ _ _ _ => trivial)) t88 r5 (by have h50 : (3 : Int32).toInt = 3 := rfl; rw [et88, et87]; exact h7_next hin0 (by rw [et8, et7]) (by omega) (by omega) f17) (by have h50 : (3 : Int32).toInt = 3 := rfl; have hb89 := congrArg Int32.toInt ez72; have hb90 := congrArg Int32.toInt ez73; have hb91 := congrArg Int32.toInt ez74; omega)) (cwV 3 hts (wU_V mw_6_183 mw_6_180 mw_6_182 mw_0_55 mw_1_13) rfl rfl rfl (by decide +kernel) ⟨Nat.le_of_ble_eq_true rfl, Nat.le_of_ble_eq_true rfl⟩) ⟨sz_c, va_recv hK hP (ci := 12) (q0 := 0) rfl (gM_0 cs ad nu71), sz_m hK hz⟩ rfl rfl hl.1 rfl (lv_room (Nat.le_of_ble_eq_true rfl)) dX12_routeOn_136 ⟨Nat.zero_le _, Nat.zero_le _⟩) hS (fun q _ h => hFc q h) hFc (fun xi92 t H92 locs ht hvm hw92 hB hz1 hk1 hS => ?_)
                  have hP : va_P (dC, dI) vwCl (wR 21 ad (EM cs ad) xi92) H92 := by rw [← ht]; exact hB
                  obtain ⟨hfe92, ok, hw92, hkp92_0⟩ := hw92
                  have hF := mi_let hF hfe92
                  have kp93 : (∀ k f : Nat, Nat.testBit 510 (gpM k f) = true → xi92 k f = mu k f) := kp_t hkp92_0 (by decide) kp78
                  obtain ⟨y94, ey94⟩ : ∃ z : Int32, z = xi92 0 39 := ⟨_, rfl⟩
                  have hF := mi_let hF ey94
                  have by94 : y94.toInt = (xi92 0 39).toInt := congrArg Int32.toInt ey94
                  have gy94 : -9 ≤ y94.toInt ∧ y94.toInt ≤ 3 := by rw [ey94]; exact rM_0_39 ok
                  obtain ⟨y95, ey95⟩ : ∃ z : Int32, z = xi92 0 33 := ⟨_, rfl⟩
                  have hF := mi_let hF ey95
                  have by95 : y95.toInt = (xi92 0 33).toInt := congrArg Int32.toInt ey95
                  obtain ⟨y96, ey96⟩ : ∃ z : Int32, z = xi92 0 35 := ⟨_, rfl⟩
                  have hF := mi_let hF ey96
                  have by96 : y96.toInt = (xi92 0 35).toInt := congrArg Int32.toInt ey96
                  have gr92 : ((xi92 0 39).toInt = -9 ∨ (0 ≤ (xi92 0 39).toInt ∧ (xi92 0 39).toInt ≤ 3)) ∧ ((xi92 0 33).toInt = 0 ∨ (xi92 0 35).toInt ≤ 7) := hw92
                  refine lv_iinc (v := (v7_34 + 1)) (lv' := [(7, .int (v7_34 + 1)), (6, .int t8), (5, .int r5), (4, .int y4), (0, .ref (ad 0)), (1, .int 2), (2, .int vh), (3, .int vp)]) hx hb dX12_routeOn_139 hl (k := 0) rfl rfl (by decide) rfl (fun ls hl => ?_)
                  refine loc_gen (P := fun w9 => lv_has ls 8 [(7, .int w9), (6, .int t8), (5, .int r5), (4, .int y4), (0, .ref (ad 0)), (1, .int 2), (2, .int vh), (3, .int vp)]) (v7_34 + 1) hl (fun w97 hw97 hl => ?_)
                  have hl : lv_has ls 8 [(7, .int w97), (6, .int t8), (5, .int r5), (4, .int y4), (0, .ref (ad 0)), (1, .int 2), (2, .int vh), (3, .int vp)] := hl
                  have hF := mi_let hF hw97.symm
                  have aw97 : w97.toInt = v7_34.toInt + 1 := by rw [← hw97]; first | exact va1 (Int.lt_of_le_of_lt h_v7_34.2 (by decide)) | exact va1 (by omega)
                  refine lv_goto (tgt := 34) hx hb dX12_routeOn_142 (by decide) ?_
                  exact ih34 (w97) xi92 _ _ _ (by first | exact ms_up hm_34 aw97 h_v7_34.2 | exact ms_lt hm_34 (by omega) (by omega) | omega) (by first | exact rg_up aw97 h_v7_34 (by omega) | omega) (by first | assumption | (have hb98 := congrArg Int32.toInt ey94; have hb99 := congrArg Int32.toInt ey95; have hb100 := congrArg Int32.toInt ey96; omega)) ok hP  kp93 hF hS (lv_sub hl [0, 1, 2, 3, 4, 5, 6, 7] rfl)
              · have hF := (if_pos c_80).symm.trans hF
                have c_80 : v7_34.toInt = y79.toInt := il_eq c_80
                refine lv_aload_n hx hb dX12_routeOn_89 rfl (lv_at hl 4 rfl) ?_
                refine lv_iload_n hx hb dX12_routeOn_90 rfl (lv_at hl 5 rfl) ?_
                refine lv_iconst (v := 1) hx hb dX12_routeOn_91 (by decide) ?_
                refine lv_iadd hx hb dX12_routeOn_92 ?_
                refine lq_i 3 (by decide) ?_
                refine lv_iload_n hx hb dX12_routeOn_93 rfl (lv_at hl 6 rfl) ?_
                refine lv_iconst (v := 1) hx hb dX12_routeOn_94 (by decide) ?_
                refine lv_aload_n hx hb dX12_routeOn_95 rfl (lv_at hl 4 rfl) ?_
                refine va_get (D := (dC, dI)) (ci := 12) (v := .ref (ad 16)) (C := RX12) (T := TX12) (N := 46) hx hb hts inG12 hown hK hP 0 (gM_0 cs ad nu71) rfl 26 (by decide) (hts _ (List.mem_cons_of_mem _ mw_5_67)) (fun _ h9 => h9) rfl dX12_routeOn_96 ?_
                refine lv_iconst (v := 0) hx hb dX12_routeOn_99 (by decide) ?_
                refine va_iald hx hb hK hP 16 0 (gM_16 cs ad nu71) rfl (show vp_in 0 7 from (by unfold vp_in; decide)) dX12_routeOn_100 ?_
                refine lv_topi (fun y101 ey101 => ?_)
                have hF := mi_let hF ey101
                have by101 : y101.toInt = (nu71 16 (0 : Int32).toNatClampNeg).toInt := congrArg Int32.toInt ey101
                have gy101 : 0 ≤ y101.toInt ∧ y101.toInt ≤ 6 := by rw [ey101]; exact rM_16_s ok (0 : Int32).toNatClampNeg
                refine lv_ishl hx hb dX12_routeOn_101 ?_
                refine lv_topi (fun t102 et102 => ?_)
                have hF := mi_let hF et102
                refine lv_iconst (v := (-1)) hx hb dX12_routeOn_102 (by decide) ?_
                refine lv_ixor hx hb dX12_routeOn_103 ?_
                refine lv_topi (fun t103 et103 => ?_)
                have hF := mi_let hF et103
                refine lv_iand hx hb dX12_routeOn_104 ?_
                refine lv_topi (fun t104 et104 => ?_)
                have hF := mi_let hF et104
                refine lv_iload hx hb dX12_routeOn_105 (lv_at hl 2 rfl) ?_
                have hFc := fr_all (wR_D nu71 hD) hS hA
                refine va_callv (va_runV (As := [.int 3, .int t104, .int r5]) (rest := []) ⟨hx, hb, hml, hown, hts⟩ (sm_meetRoute l dC dI cs ad nu71 ok H hP ((wR_D nu71 hD).weaken (fun _ _ _ _ => trivial)) 3 t104 r5 (by have h50 : (3 : Int32).toInt = 3 := rfl; omega) (by have h50 : (3 : Int32).toInt = 3 := rfl; have hb105 := congrArg Int32.toInt ez72; have hb106 := congrArg Int32.toInt ez73; have hb107 := congrArg Int32.toInt ez74; omega)) (cwV 3 hts (wU_V mw_6_187 mw_6_184 mw_6_186 mw_0_56 mw_1_13) rfl rfl rfl (by decide +kernel) ⟨Nat.le_of_ble_eq_true rfl, Nat.le_of_ble_eq_true rfl⟩) ⟨sz_c, va_recv hK hP (ci := 12) (q0 := 0) rfl (gM_0 cs ad nu71), sz_m hK hz⟩ rfl rfl hl.1 rfl (lv_room (Nat.le_of_ble_eq_true rfl)) dX12_routeOn_107 ⟨Nat.zero_le _, Nat.zero_le _⟩) hS (fun q _ h => hFc q h) hFc (fun xi108 t H108 locs ht hvm hw108 hB hz1 hk1 hS => ?_)
                have hP : va_P (dC, dI) vwCl (wR 21 ad (EM cs ad) xi108) H108 := by rw [← ht]; exact hB
                obtain ⟨hfe108, ok, hw108, hkp108_0⟩ := hw108
                have hF := mi_let hF hfe108
                have kp109 : (∀ k f : Nat, Nat.testBit 510 (gpM k f) = true → xi108 k f = mu k f) := kp_t hkp108_0 (by decide) kp78
                obtain ⟨y110, ey110⟩ : ∃ z : Int32, z = xi108 0 39 := ⟨_, rfl⟩
                have hF := mi_let hF ey110
                have by110 : y110.toInt = (xi108 0 39).toInt := congrArg Int32.toInt ey110
                have gy110 : -9 ≤ y110.toInt ∧ y110.toInt ≤ 3 := by rw [ey110]; exact rM_0_39 ok
                obtain ⟨y111, ey111⟩ : ∃ z : Int32, z = xi108 0 33 := ⟨_, rfl⟩
                have hF := mi_let hF ey111
                have by111 : y111.toInt = (xi108 0 33).toInt := congrArg Int32.toInt ey111
                obtain ⟨y112, ey112⟩ : ∃ z : Int32, z = xi108 0 35 := ⟨_, rfl⟩
                have hF := mi_let hF ey112
                have by112 : y112.toInt = (xi108 0 35).toInt := congrArg Int32.toInt ey112
                have gr108 : ((xi108 0 39).toInt = -9 ∨ (0 ≤ (xi108 0 39).toInt ∧ (xi108 0 39).toInt ≤ 3)) ∧ ((xi108 0 33).toInt = 0 ∨ (xi108 0 35).toInt ≤ 7) := hw108
                refine lv_goto (tgt := 139) hx hb dX12_routeOn_110 (by decide) ?_
                refine lv_iinc (v := (v7_34 + 1)) (lv' := [(7, .int (v7_34 + 1)), (6, .int t8), (5, .int r5), (4, .int y4), (0, .ref (ad 0)), (1, .int 2), (2, .int vh), (3, .int vp)]) hx hb dX12_routeOn_139 hl (k := 0) rfl rfl (by decide) rfl (fun ls hl => ?_)
                refine loc_gen (P := fun w9 => lv_has ls 8 [(7, .int w9), (6, .int t8), (5, .int r5), (4, .int y4), (0, .ref (ad 0)), (1, .int 2), (2, .int vh), (3, .int vp)]) (v7_34 + 1) hl (fun w113 hw113 hl => ?_)
                have hl : lv_has ls 8 [(7, .int w113), (6, .int t8), (5, .int r5), (4, .int y4), (0, .ref (ad 0)), (1, .int 2), (2, .int vh), (3, .int vp)] := hl
                have hF := mi_let hF hw113.symm
                have aw113 : w113.toInt = v7_34.toInt + 1 := by rw [← hw113]; first | exact va1 (Int.lt_of_le_of_lt h_v7_34.2 (by decide)) | exact va1 (by omega)
                refine lv_goto (tgt := 34) hx hb dX12_routeOn_142 (by decide) ?_
                exact ih34 (w113) xi108 _ _ _ (by first | exact ms_up hm_34 aw113 h_v7_34.2 | exact ms_lt hm_34 (by omega) (by omega) | omega) (by first | exact rg_up aw113 h_v7_34 (by omega) | omega) (by first | assumption | (have hb114 := congrArg Int32.toInt ey110; have hb115 := congrArg Int32.toInt ey111; have hb116 := congrArg Int32.toInt ey112; omega)) ok hP  kp109 hF hS (lv_sub hl [0, 1, 2, 3, 4, 5, 6, 7] rfl)
        · have hF := (if_neg (fun h => absurd (hfe17.trans h) (by decide))).symm.trans hF
          have f17 : ¬ rb t8 v7_34 = 1 := f17
          refine lv_if_eq (tgt := 139) hx hb dX12_routeOn_50 (by decide) (fun _ => ?_) (fun c => absurd (by decide) c)
          refine lv_iinc (v := (v7_34 + 1)) (lv' := [(7, .int (v7_34 + 1)), (6, .int t8), (5, .int r5), (4, .int y4), (0, .ref (ad 0)), (1, .int 2), (2, .int vh), (3, .int vp)]) hx hb dX12_routeOn_139 hl (k := 0) rfl rfl (by decide) rfl (fun ls hl => ?_)
          refine loc_gen (P := fun w9 => lv_has ls 8 [(7, .int w9), (6, .int t8), (5, .int r5), (4, .int y4), (0, .ref (ad 0)), (1, .int 2), (2, .int vh), (3, .int vp)]) (v7_34 + 1) hl (fun w117 hw117 hl => ?_)
          have hl : lv_has ls 8 [(7, .int w117), (6, .int t8), (5, .int r5), (4, .int y4), (0, .ref (ad 0)), (1, .int 2), (2, .int vh), (3, .int vp)] := hl
          have hF := mi_let hF hw117.symm
          have aw117 : w117.toInt = v7_34.toInt + 1 := by rw [← hw117]; first | exact va1 (Int.lt_of_le_of_lt h_v7_34.2 (by decide)) | exact va1 (by omega)
          refine lv_goto (tgt := 34) hx hb dX12_routeOn_142 (by decide) ?_
          exact ih34 (w117) nu34_ _ _ _ (by first | exact ms_up hm_34 aw117 h_v7_34.2 | exact ms_lt hm_34 (by omega) (by omega) | omega) (by first | exact rg_up aw117 h_v7_34 (by omega) | omega) (by first | assumption | (have hb118 := congrArg Int32.toInt ey9; have hb119 := congrArg Int32.toInt ey10; have hb120 := congrArg Int32.toInt ey11; omega)) ok hP  kq34_0 hF hS (lv_sub hl [0, 1, 2, 3, 4, 5, 6, 7] rfl)
  exact loop34 10 (0) mu _ _ _ (by have h80 : (0 : Int32).toInt = 0 := rfl; omega) (by have h80 : (0 : Int32).toInt = 0 := rfl; exact ⟨by omega, by omega⟩) (by have h80 : (0 : Int32).toInt = 0 := rfl; have hb121 := congrArg Int32.toInt ey1; have hb122 := congrArg Int32.toInt ey2; have hb123 := congrArg Int32.toInt ey3; omega) ok hP  (fun _ _ _ => rfl) hF hS hl
set_option maxHeartbeats 4000000 in
set_option maxRecDepth 100000 in
/-- sm_routeOn1 -/
theorem sm_routeOn1 (l : Launch) (dC : Nat → ClassId) (dI : Nat → Nat → Nat) (cs : Nat → ClassId) (ad : Nat → Nat) (mu : Nat → Nat → Int32) (ok : okR loM hiM mu) (H : Heap) (hP : va_P (dC, dI) vwCl (wR 21 ad (EM cs ad) mu) H) (hD0 : va_D (fun _ => True) (wR 21 ad (EM cs ad) mu)) (vh : Int32) (vp : Int32) (hin0 : h7 1 vh) (hin1 : ((mu 0 39).toInt = -9 ∨ (0 ≤ (mu 0 39).toInt ∧ (mu 0 39).toInt ≤ 3)) ∧ ((mu 0 33).toInt = 0 ∨ (mu 0 35).toInt ≤ 7)) : Met l yX12_routeOn (wU yX12_routeOn cX12_routeOn 8 none) ({ frames := 8, cells := 0, slots := 0, locals := 208 }) (va_Pc [.ref (ad 0), .int 1, .int vh, .int vp] (sz_P (dC, dI) vwCl (tyM cs) H)) (va_Qv (fun (xi : Nat → Nat → Int32) => xi = F_sm_routeOn1 mu vh vp ∧ okR loM hiM xi ∧ (((xi 0 39).toInt = -9 ∨ (0 ≤ (xi 0 39).toInt ∧ (xi 0 39).toInt ≤ 3)) ∧ ((xi 0 33).toInt = 0 ∨ (xi 0 35).toInt ≤ 7)) ∧ (∀ k f : Nat, Nat.testBit 510 (gpM k f) = true → xi k f = mu k f)) (fun xi t => va_P (dC, dI) vwCl (wR 21 ad (EM cs ad) xi) t.heap) (va_A (wR 21 ad (EM cs ad) mu) H.size)) 0 0 (va_A (wR 21 ad (EM cs ad) mu) H.size) := by
  refine Met.ofW (cc := cX12_routeOn) (maxL := 8) (ret := none) (by decide) rfl ?_
  intro p e s m args below meth c s₁ B hml hv
  obtain ⟨rfl, hh, hK, hz⟩ := hv
  have hx := B.exec
  have hb := B.bytes
  have hr := B.returns
  have hts := atoms_spec (ws := (wU yX12_routeOn cX12_routeOn 8 none)) B.pre
  have hown : s.vm.findClass RX12 = some m.cls := findClass_of_methodNamed B.named
  have hlocks := B.notSynchronized
  subst hh
  have hD := hD0.self (sz := s.heap.size)
  have hA : ∀ q : Nat, s.heap.size ≤ q → (va_A (wR 21 ad (EM cs ad) mu) s.heap.size) q := fun q h => Or.inr h
  have hS : va_S (va_A (wR 21 ad (EM cs ad) mu) s.heap.size) s.heap s.heap [] := va_S.rf
  have hl := lv_entry ([.ref (ad 0), .int 1, .int vh, .int vp]) (n := 8) (Nat.le_of_ble_eq_true rfl)
  rw [lg_entry_eq]
  generalize (lg_sl ([.ref (ad 0), .int 1, .int vh, .int vp]) ++ List.replicate (8 - (lg_sl ([.ref (ad 0), .int 1, .int vh, .int vp])).length) Slot.unset).toArray = ls at hl ⊢
  have hl : lv_has ls 8 [(0, .ref (ad 0)), (1, .int 1), (2, .int vh), (3, .int vp)] := hl
  obtain ⟨fz, hfz⟩ : ∃ z, F_sm_routeOn1 mu vh vp = z := ⟨_, rfl⟩
  have hF := hfz
  unfold F_sm_routeOn1 at hF
  obtain ⟨y1, ey1⟩ : ∃ z : Int32, z = mu 0 39 := ⟨_, rfl⟩
  have hF := mi_let hF ey1
  have by1 : y1.toInt = (mu 0 39).toInt := congrArg Int32.toInt ey1
  have gy1 : -9 ≤ y1.toInt ∧ y1.toInt ≤ 3 := by rw [ey1]; exact rM_0_39 ok
  obtain ⟨y2, ey2⟩ : ∃ z : Int32, z = mu 0 33 := ⟨_, rfl⟩
  have hF := mi_let hF ey2
  have by2 : y2.toInt = (mu 0 33).toInt := congrArg Int32.toInt ey2
  obtain ⟨y3, ey3⟩ : ∃ z : Int32, z = mu 0 35 := ⟨_, rfl⟩
  have hF := mi_let hF ey3
  have by3 : y3.toInt = (mu 0 35).toInt := congrArg Int32.toInt ey3
  refine lv_aload_n hx hb dX12_routeOn_0 rfl (lv_at hl 0 rfl) ?_
  refine va_get (D := (dC, dI)) (ci := 12) (v := .ref (ad 16)) (C := RX12) (T := TX12) (N := 46) hx hb hts inG12 hown hK hP 0 (gM_0 cs ad mu) rfl 26 (by decide) (hts _ (List.mem_cons_of_mem _ mw_5_67)) (fun _ h9 => h9) rfl dX12_routeOn_1 ?_
  refine lv_iload_n hx hb dX12_routeOn_4 rfl (lv_at hl 1 rfl) ?_
  refine lv_iconst (v := 1) hx hb dX12_routeOn_5 (by decide) ?_
  refine lv_isub hx hb dX12_routeOn_6 ?_
  refine lq_i 0 (by decide) ?_
  refine va_iald hx hb hK hP 16 0 (gM_16 cs ad mu) rfl (show vp_in 0 7 from (by unfold vp_in; decide)) dX12_routeOn_7 ?_
  refine lv_topi (fun y4 ey4 => ?_)
  have hF := mi_let hF ey4
  have by4 : y4.toInt = (mu 16 (0 : Int32).toNatClampNeg).toInt := congrArg Int32.toInt ey4
  have gy4 : 0 ≤ y4.toInt ∧ y4.toInt ≤ 6 := by rw [ey4]; exact rM_16_s ok (0 : Int32).toNatClampNeg
  refine lv_istore (lv' := [(4, .int y4), (0, .ref (ad 0)), (1, .int 1), (2, .int vh), (3, .int vp)]) hx hb dX12_routeOn_8 hl (by decide) rfl (fun ls hl => ?_)
  refine lv_aload_n hx hb dX12_routeOn_10 rfl (lv_at hl 1 rfl) ?_
  refine lv_iload hx hb dX12_routeOn_11 (lv_at hl 0 rfl) ?_
  refine lv_iload_n hx hb dX12_routeOn_13 rfl (lv_at hl 4 rfl) ?_
  refine cr_i (va_runV (As := [.int y4, .int vp]) (rest := []) ⟨hx, hb, hml, hown, hts⟩ (sm_asksOf l dC dI cs ad mu ok s.heap hP y4 vp (by omega)) (cwV 2 hts (wU_V mw_6_74 mw_6_71 mw_6_73 mw_0_42 mw_1_13) rfl rfl rfl (by decide +kernel) ⟨Nat.le_of_ble_eq_true rfl, Nat.le_of_ble_eq_true rfl⟩) ⟨sz_c, va_recv hK hP (ci := 12) (q0 := 0) rfl (gM_0 cs ad mu), sz_m hK hz⟩ rfl rfl hl.1 rfl (lv_room (Nat.le_of_ble_eq_true rfl)) dX12_routeOn_14 ⟨Nat.zero_le _, Nat.zero_le _⟩) hS (fun r5 hw5 locs hS => ?_)
  obtain ⟨hfe5, hw5⟩ := hw5
  have hF := mi_let hF hfe5
  refine lv_istore (lv' := [(5, .int r5), (4, .int y4), (0, .ref (ad 0)), (1, .int 1), (2, .int vh), (3, .int vp)]) hx hb dX12_routeOn_17 hl (by decide) rfl (fun ls hl => ?_)
  refine lv_aload_n hx hb dX12_routeOn_19 rfl (lv_at hl 2 rfl) ?_
  refine lv_iload hx hb dX12_routeOn_20 (lv_at hl 1 rfl) ?_
  refine cr_i (va_runV (As := [.int y4]) (rest := []) ⟨hx, hb, hml, hown, hts⟩ (sm_besideOf l dC dI cs ad mu ok s.heap hP y4) (cwV 1 hts (wU_V mw_6_56 mw_6_53 mw_6_55 mw_0_40 mw_1_13) rfl rfl rfl (by decide +kernel) ⟨Nat.le_of_ble_eq_true rfl, Nat.le_of_ble_eq_true rfl⟩) ⟨sz_c, va_recv hK hP (ci := 12) (q0 := 0) rfl (gM_0 cs ad mu), sz_m hK hz⟩ rfl rfl hl.1 rfl (lv_room (Nat.le_of_ble_eq_true rfl)) dX12_routeOn_22 ⟨Nat.zero_le _, Nat.zero_le _⟩) hS (fun r6 hw6 locs hS => ?_)
  obtain ⟨hfe6, hw6⟩ := hw6
  have hF := mi_let hF hfe6
  refine lv_iload_n hx hb dX12_routeOn_25 rfl (lv_at hl 4 rfl) ?_
  refine lv_iconst (v := (-1)) hx hb dX12_routeOn_26 (by decide) ?_
  refine lv_ixor hx hb dX12_routeOn_27 ?_
  refine lv_topi (fun t7 et7 => ?_)
  have hF := mi_let hF et7
  refine lv_iand hx hb dX12_routeOn_28 ?_
  refine lv_topi (fun t8 et8 => ?_)
  have hF := mi_let hF et8
  refine lv_istore (lv' := [(6, .int t8), (5, .int r5), (4, .int y4), (0, .ref (ad 0)), (1, .int 1), (2, .int vh), (3, .int vp)]) hx hb dX12_routeOn_29 hl (by decide) rfl (fun ls hl => ?_)
  refine lv_iconst (v := 0) hx hb dX12_routeOn_31 (by decide) ?_
  refine lv_istore (lv' := [(7, .int 0), (6, .int t8), (5, .int r5), (4, .int y4), (0, .ref (ad 0)), (1, .int 1), (2, .int vh), (3, .int vp)]) hx hb dX12_routeOn_32 hl (by decide) rfl (fun ls hl => ?_)
  have loop34 : ∀ (n34 : Nat) (v7_34 : Int32) (nu34_ : Nat → Nat → Int32) (H : Heap) (locs : List Loc) (ls : Array Slot), (7 + 1 - v7_34.toInt).toNat < n34 → (0 ≤ v7_34.toInt ∧ v7_34.toInt ≤ 7) → (((nu34_ 0 39).toInt = -9 ∨ (0 ≤ (nu34_ 0 39).toInt ∧ (nu34_ 0 39).toInt ≤ 3)) ∧ ((nu34_ 0 33).toInt = 0 ∨ (nu34_ 0 35).toInt ≤ 7)) → okR loM hiM nu34_ → va_P (dC, dI) vwCl (wR 21 ad (EM cs ad) nu34_) H → (∀ k f : Nat, Nat.testBit 510 (gpM k f) = true → nu34_ k f = mu k f) → L_sm_routeOn1_34_0 r5 t8 vh n34 v7_34 nu34_ = fz → va_S (va_A (wR 21 ad (EM cs ad) mu) s.heap.size) s.heap H locs → lv_has ls 8 [(7, .int v7_34), (6, .int t8), (5, .int r5), (4, .int y4), (0, .ref (ad 0)), (1, .int 1), (2, .int vh), (3, .int vp)] → W p l e (headSpec (wU yX12_routeOn cX12_routeOn 8 none) ({ frames := 8, cells := 0, slots := 0, locals := 208 })).room s m ([.ref (ad 0), .int 1, .int vh, .int vp] : List Value).toArray below meth c H locs 0 0 (MQ below (va_Qv (fun (xi : Nat → Nat → Int32) => xi = F_sm_routeOn1 mu vh vp ∧ okR loM hiM xi ∧ (((xi 0 39).toInt = -9 ∨ (0 ≤ (xi 0 39).toInt ∧ (xi 0 39).toInt ≤ 3)) ∧ ((xi 0 33).toInt = 0 ∨ (xi 0 35).toInt ≤ 7)) ∧ (∀ k f : Nat, Nat.testBit 510 (gpM k f) = true → xi k f = mu k f)) (fun xi t => va_P (dC, dI) vwCl (wR 21 ad (EM cs ad) xi) t.heap) (va_A (wR 21 ad (EM cs ad) mu) s.heap.size)) ([.ref (ad 0), .int 1, .int vh, .int vp] : List Value).toArray s 0 0 (va_A (wR 21 ad (EM cs ad) mu) s.heap.size)) (F0 m 34 ls []) := by
    intro n34
    induction n34 with
    | zero => intro v7_34 nu34_ H locs ls hm; exact absurd hm (Nat.not_lt_zero _)
    | succ n34 ih34 =>
      intro v7_34 nu34_ H locs ls hm_34 h_v7_34 hi34_0 ok hP kq34_0 hF hS hl
      rw [L_sm_routeOn1_34_0] at hF
      obtain ⟨y9, ey9⟩ : ∃ z : Int32, z = nu34_ 0 39 := ⟨_, rfl⟩
      have hF := mi_let hF ey9
      have by9 : y9.toInt = (nu34_ 0 39).toInt := congrArg Int32.toInt ey9
      have gy9 : -9 ≤ y9.toInt ∧ y9.toInt ≤ 3 := by rw [ey9]; exact rM_0_39 ok
      obtain ⟨y10, ey10⟩ : ∃ z : Int32, z = nu34_ 0 33 := ⟨_, rfl⟩
      have hF := mi_let hF ey10
      have by10 : y10.toInt = (nu34_ 0 33).toInt := congrArg Int32.toInt ey10
      obtain ⟨y11, ey11⟩ : ∃ z : Int32, z = nu34_ 0 35 := ⟨_, rfl⟩
      have hF := mi_let hF ey11
      have by11 : y11.toInt = (nu34_ 0 35).toInt := congrArg Int32.toInt ey11
      refine lv_iload hx hb dX12_routeOn_34 (lv_at hl 0 rfl) ?_
      refine lv_aload_n hx hb dX12_routeOn_36 rfl (lv_at hl 4 rfl) ?_
      refine va_get (D := (dC, dI)) (ci := 12) (v := .int (nu34_ 0 8)) (C := RX12) (T := TX12) (N := 46) hx hb hts inG12 hown hK hP 0 (gM_0 cs ad nu34_) rfl 8 (by decide) (hts _ (List.mem_cons_of_mem _ mw_5_49)) (fun _ h9 => h9) rfl dX12_routeOn_37 ?_
      refine lv_topi (fun y12 ey12 => ?_)
      have hF := mi_let hF ey12
      have by12 : y12.toInt = (nu34_ 0 8).toInt := congrArg Int32.toInt ey12
      have gy12 : 0 ≤ y12.toInt ∧ y12.toInt ≤ 7 := by rw [ey12]; exact rM_0_8 ok
      refine lv_icmp_ge (tgt := 145) hx hb dX12_routeOn_40 (by decide) (fun c_13 => ?_) (fun c_13 => ?_)
      · have hF := (if_pos c_13).symm.trans hF
        have c_13 : y12.toInt ≤ v7_34.toInt := il_le c_13
        exact W.vret hx hb hr (fun t ht hW => ⟨⟨nu34_, rfl, ⟨hF.trans hfz.symm, ok, (by first | assumption | (have hb14 := congrArg Int32.toInt ey9; have hb15 := congrArg Int32.toInt ey10; have hb16 := congrArg Int32.toInt ey11; omega)), kq34_0⟩, by first | (subst ht; exact hP) | (rw [ht]; exact hP) | (show va_P (dC, dI) vwCl (wR 21 ad (EM cs ad) nu34_) t.heap; rw [ht]; exact hP)⟩, hS.F ht⟩) hS.2.2 dX12_routeOn_145
      · have hF := (if_neg c_13).symm.trans hF
        have c_13 : v7_34.toInt < y12.toInt := il_nle c_13
        refine lv_iload hx hb dX12_routeOn_43 (lv_at hl 1 rfl) ?_
        refine lv_iload hx hb dX12_routeOn_45 (lv_at hl 0 rfl) ?_
        refine cr_i (va_runS (As := [.int t8, .int v7_34]) (rest := []) ⟨hx, hb, hml, hown, hts⟩ (sm_has l dC dI (tyM cs) H t8 v7_34) (va_cwS 2 hts (wU_S mw_6_59 mw_6_57 mw_6_58 mw_1_13) rfl rfl rfl (by decide +kernel) ⟨Nat.le_of_ble_eq_true rfl, Nat.le_of_ble_eq_true rfl⟩) ⟨sz_c, sz_m hK hz⟩ rfl rfl hl.1 rfl (lv_room (Nat.le_of_ble_eq_true rfl)) dX12_routeOn_47 ⟨Nat.zero_le _, Nat.zero_le _⟩) hS (fun r17 hw17 locs hS => ?_)
        obtain ⟨hfe17, hw17⟩ := hw17
        rcases hw17 with ⟨rfl, f17⟩ | ⟨rfl, f17⟩
        · have hF := (if_pos hfe17.symm).symm.trans hF
          have f17 : rb t8 v7_34 = 1 := f17
          refine lv_if_eq (tgt := 139) hx hb dX12_routeOn_50 (by decide) (fun c => absurd c (by decide)) (fun _ => ?_)
          refine lv_aload_n hx hb dX12_routeOn_53 rfl (lv_at hl 4 rfl) ?_
          refine va_get (D := (dC, dI)) (ci := 12) (v := .int (nu34_ 0 38)) (C := RX12) (T := TX12) (N := 46) hx hb hts inG12 hown hK hP 0 (gM_0 cs ad nu34_) rfl 38 (by decide) (hts _ (List.mem_cons_of_mem _ mw_5_79)) (fun _ h9 => h9) rfl dX12_routeOn_54 ?_
          refine lv_topi (fun y18 ey18 => ?_)
          have hF := mi_let hF ey18
          have by18 : y18.toInt = (nu34_ 0 38).toInt := congrArg Int32.toInt ey18
          have gy18 : 0 ≤ y18.toInt ∧ y18.toInt ≤ 1 := by rw [ey18]; exact rM_0_38 ok
          refine lv_if_eq (tgt := 72) hx hb dX12_routeOn_57 (by decide) (fun c_19 => ?_) (fun c_19 => ?_)
          · have hF := (if_pos c_19).symm.trans hF
            have c_19 : y18.toInt = 0 := il_eq c_19
            refine lv_aload_n hx hb dX12_routeOn_72 rfl (lv_at hl 4 rfl) ?_
            refine va_get (D := (dC, dI)) (ci := 12) (v := .ref (ad 16)) (C := RX12) (T := TX12) (N := 46) hx hb hts inG12 hown hK hP 0 (gM_0 cs ad nu34_) rfl 26 (by decide) (hts _ (List.mem_cons_of_mem _ mw_5_67)) (fun _ h9 => h9) rfl dX12_routeOn_73 ?_
            refine lv_iload_n hx hb dX12_routeOn_76 rfl (lv_at hl 5 rfl) ?_
            refine lv_iload hx hb dX12_routeOn_77 (lv_at hl 0 rfl) ?_
            refine va_iast hx hb hK hP (wR_D nu34_ hD) hS 16 0 (gM_16 cs ad nu34_) rfl (show vp_in 1 7 from (by unfold vp_in; decide)) dX12_routeOn_79 (fun H locs hP _ hS => ?_)
            refine wr_gen (upd (nu34_ 16) (1 : Int32).toNatClampNeg v7_34) hP (rfl) (fun nu20 hn20 hP => ?_)
            have hF := mi_let hF hn20.symm
            have ok := tM_16_s ok (1 : Int32).toNatClampNeg hn20 (by omega)
            have ez21 : y9 = nu20 0 39 := ey9.trans (congrFun (up_k hn20 (by decide)) 39).symm
            have ez22 : y10 = nu20 0 33 := ey10.trans (congrFun (up_k hn20 (by decide)) 33).symm
            have ez23 : y11 = nu20 0 35 := ey11.trans (congrFun (up_k hn20 (by decide)) 35).symm
            have ez24 : y12 = nu20 0 8 := ey12.trans (congrFun (up_k hn20 (by decide)) 8).symm
            have ez25 : y18 = nu20 0 38 := ey18.trans (congrFun (up_k hn20 (by decide)) 38).symm
            have kp26 : (∀ k f : Nat, Nat.testBit 510 (gpM k f) = true → nu20 k f = mu k f) := kp_c 0 hn20 (fun _ => rfl) (by decide) kq34_0
            refine lv_iload hx hb dX12_routeOn_80 (lv_at hl 0 rfl) ?_
            refine lv_aload_n hx hb dX12_routeOn_82 rfl (lv_at hl 4 rfl) ?_
            refine va_get (D := (dC, dI)) (ci := 12) (v := .int (nu20 0 29)) (C := RX12) (T := TX12) (N := 46) hx hb hts inG12 hown hK hP 0 (gM_0 cs ad nu20) rfl 29 (by decide) (hts _ (List.mem_cons_of_mem _ mw_5_70)) (fun _ h9 => h9) rfl dX12_routeOn_83 ?_
            refine lv_topi (fun y27 ey27 => ?_)
            have hF := mi_let hF ey27
            have by27 : y27.toInt = (nu20 0 29).toInt := congrArg Int32.toInt ey27
            refine lv_icmp_ne (tgt := 113) hx hb dX12_routeOn_86 (by decide) (fun c_28 => ?_) (fun c_28 => ?_)
            · have hF := (if_neg c_28).symm.trans hF
              have c_28 : ¬ v7_34.toInt = y27.toInt := il_ne c_28
              refine lv_aload_n hx hb dX12_routeOn_113 rfl (lv_at hl 4 rfl) ?_
              refine va_get (D := (dC, dI)) (ci := 12) (v := .ref (ad 7)) (C := RX12) (T := TX12) (N := 46) hx hb hts inG12 hown hK hP 0 (gM_0 cs ad nu20) rfl 9 (by decide) (hts _ (List.mem_cons_of_mem _ mw_5_50)) (fun _ h9 => h9) rfl dX12_routeOn_114 ?_
              refine lv_iload hx hb dX12_routeOn_117 (lv_at hl 0 rfl) ?_
              refine va_iald hx hb hK hP 7 0 (gM_7 cs ad nu20) rfl (show vp_in v7_34 7 from vi_of (by omega) (by omega)) dX12_routeOn_119 ?_
              refine lv_topi (fun y29 ey29 => ?_)
              have hF := mi_let hF ey29
              have by29 : y29.toInt = (nu20 7 v7_34.toNatClampNeg).toInt := congrArg Int32.toInt ey29
              refine lv_iconst (v := 3) hx hb dX12_routeOn_120 (by decide) ?_
              refine lv_icmp_eq (tgt := 139) hx hb dX12_routeOn_121 (by decide) (fun c_30 => ?_) (fun c_30 => ?_)
              · have hF := (if_pos c_30).symm.trans hF
                have c_30 : y29.toInt = 3 := il_eq c_30
                refine lv_iinc (v := (v7_34 + 1)) (lv' := [(7, .int (v7_34 + 1)), (6, .int t8), (5, .int r5), (4, .int y4), (0, .ref (ad 0)), (1, .int 1), (2, .int vh), (3, .int vp)]) hx hb dX12_routeOn_139 hl (k := 0) rfl rfl (by decide) rfl (fun ls hl => ?_)
                refine loc_gen (P := fun w9 => lv_has ls 8 [(7, .int w9), (6, .int t8), (5, .int r5), (4, .int y4), (0, .ref (ad 0)), (1, .int 1), (2, .int vh), (3, .int vp)]) (v7_34 + 1) hl (fun w31 hw31 hl => ?_)
                have hl : lv_has ls 8 [(7, .int w31), (6, .int t8), (5, .int r5), (4, .int y4), (0, .ref (ad 0)), (1, .int 1), (2, .int vh), (3, .int vp)] := hl
                have hF := mi_let hF hw31.symm
                have aw31 : w31.toInt = v7_34.toInt + 1 := by rw [← hw31]; first | exact va1 (Int.lt_of_le_of_lt h_v7_34.2 (by decide)) | exact va1 (by omega)
                refine lv_goto (tgt := 34) hx hb dX12_routeOn_142 (by decide) ?_
                exact ih34 (w31) nu20 _ _ _ (by first | exact ms_up hm_34 aw31 h_v7_34.2 | exact ms_lt hm_34 (by omega) (by omega) | omega) (by first | exact rg_up aw31 h_v7_34 (by omega) | omega) (by first | assumption | (rw [← ez21, ← ez22, ← ez23, ey9, ey10, ey11]; assumption) | (have hb32 := congrArg Int32.toInt ez21; have hb33 := congrArg Int32.toInt ez22; have hb34 := congrArg Int32.toInt ez23; omega)) ok hP  kp26 hF hS (lv_sub hl [0, 1, 2, 3, 4, 5, 6, 7] rfl)
              · have hF := (if_neg c_30).symm.trans hF
                have c_30 : ¬ y29.toInt = 3 := il_ne c_30
                refine lv_aload_n hx hb dX12_routeOn_124 rfl (lv_at hl 4 rfl) ?_
                refine lv_iload_n hx hb dX12_routeOn_125 rfl (lv_at hl 5 rfl) ?_
                refine lv_iconst (v := 1) hx hb dX12_routeOn_126 (by decide) ?_
                refine lv_iadd hx hb dX12_routeOn_127 ?_
                refine lq_i 2 (by decide) ?_
                refine lv_iload_n hx hb dX12_routeOn_128 rfl (lv_at hl 6 rfl) ?_
                refine lv_iconst (v := 1) hx hb dX12_routeOn_129 (by decide) ?_
                refine lv_iload hx hb dX12_routeOn_130 (lv_at hl 0 rfl) ?_
                refine lv_ishl hx hb dX12_routeOn_132 ?_
                refine lv_topi (fun t35 et35 => ?_)
                have hF := mi_let hF et35
                refine lv_ior hx hb dX12_routeOn_133 ?_
                refine lv_topi (fun t36 et36 => ?_)
                have hF := mi_let hF et36
                refine lv_iload hx hb dX12_routeOn_134 (lv_at hl 2 rfl) ?_
                have hFc := fr_all (wR_D nu20 hD) hS hA
                refine va_callv (va_runV (As := [.int 2, .int t36, .int r5]) (rest := []) ⟨hx, hb, hml, hown, hts⟩ (sm_routeOn2 l dC dI cs ad nu20 ok H hP ((wR_D nu20 hD).weaken (fun _ _ _ _ => trivial)) t36 r5 (by have h50 : (2 : Int32).toInt = 2 := rfl; rw [et36, et35]; exact h7_next hin0 (by rw [et8, et7]) (by omega) (by omega) f17) (by have h50 : (2 : Int32).toInt = 2 := rfl; have hb37 := congrArg Int32.toInt ez21; have hb38 := congrArg Int32.toInt ez22; have hb39 := congrArg Int32.toInt ez23; omega)) (cwV 3 hts (wU_V mw_6_183 mw_6_180 mw_6_182 mw_0_55 mw_1_13) rfl rfl rfl (by decide +kernel) ⟨Nat.le_of_ble_eq_true rfl, Nat.le_of_ble_eq_true rfl⟩) ⟨sz_c, va_recv hK hP (ci := 12) (q0 := 0) rfl (gM_0 cs ad nu20), sz_m hK hz⟩ rfl rfl hl.1 rfl (lv_room (Nat.le_of_ble_eq_true rfl)) dX12_routeOn_136 ⟨Nat.zero_le _, Nat.zero_le _⟩) hS (fun q _ h => hFc q h) hFc (fun xi40 t H40 locs ht hvm hw40 hB hz1 hk1 hS => ?_)
                have hP : va_P (dC, dI) vwCl (wR 21 ad (EM cs ad) xi40) H40 := by rw [← ht]; exact hB
                obtain ⟨hfe40, ok, hw40, hkp40_0⟩ := hw40
                have hF := mi_let hF hfe40
                have kp41 : (∀ k f : Nat, Nat.testBit 510 (gpM k f) = true → xi40 k f = mu k f) := kp_t hkp40_0 (by decide) kp26
                obtain ⟨y42, ey42⟩ : ∃ z : Int32, z = xi40 0 39 := ⟨_, rfl⟩
                have hF := mi_let hF ey42
                have by42 : y42.toInt = (xi40 0 39).toInt := congrArg Int32.toInt ey42
                have gy42 : -9 ≤ y42.toInt ∧ y42.toInt ≤ 3 := by rw [ey42]; exact rM_0_39 ok
                obtain ⟨y43, ey43⟩ : ∃ z : Int32, z = xi40 0 33 := ⟨_, rfl⟩
                have hF := mi_let hF ey43
                have by43 : y43.toInt = (xi40 0 33).toInt := congrArg Int32.toInt ey43
                obtain ⟨y44, ey44⟩ : ∃ z : Int32, z = xi40 0 35 := ⟨_, rfl⟩
                have hF := mi_let hF ey44
                have by44 : y44.toInt = (xi40 0 35).toInt := congrArg Int32.toInt ey44
                have gr40 : ((xi40 0 39).toInt = -9 ∨ (0 ≤ (xi40 0 39).toInt ∧ (xi40 0 39).toInt ≤ 3)) ∧ ((xi40 0 33).toInt = 0 ∨ (xi40 0 35).toInt ≤ 7) := hw40
                refine lv_iinc (v := (v7_34 + 1)) (lv' := [(7, .int (v7_34 + 1)), (6, .int t8), (5, .int r5), (4, .int y4), (0, .ref (ad 0)), (1, .int 1), (2, .int vh), (3, .int vp)]) hx hb dX12_routeOn_139 hl (k := 0) rfl rfl (by decide) rfl (fun ls hl => ?_)
                refine loc_gen (P := fun w9 => lv_has ls 8 [(7, .int w9), (6, .int t8), (5, .int r5), (4, .int y4), (0, .ref (ad 0)), (1, .int 1), (2, .int vh), (3, .int vp)]) (v7_34 + 1) hl (fun w45 hw45 hl => ?_)
                have hl : lv_has ls 8 [(7, .int w45), (6, .int t8), (5, .int r5), (4, .int y4), (0, .ref (ad 0)), (1, .int 1), (2, .int vh), (3, .int vp)] := hl
                have hF := mi_let hF hw45.symm
                have aw45 : w45.toInt = v7_34.toInt + 1 := by rw [← hw45]; first | exact va1 (Int.lt_of_le_of_lt h_v7_34.2 (by decide)) | exact va1 (by omega)
                refine lv_goto (tgt := 34) hx hb dX12_routeOn_142 (by decide) ?_
                exact ih34 (w45) xi40 _ _ _ (by first | exact ms_up hm_34 aw45 h_v7_34.2 | exact ms_lt hm_34 (by omega) (by omega) | omega) (by first | exact rg_up aw45 h_v7_34 (by omega) | omega) (by first | assumption | (have hb46 := congrArg Int32.toInt ey42; have hb47 := congrArg Int32.toInt ey43; have hb48 := congrArg Int32.toInt ey44; omega)) ok hP  kp41 hF hS (lv_sub hl [0, 1, 2, 3, 4, 5, 6, 7] rfl)
            · have hF := (if_pos c_28).symm.trans hF
              have c_28 : v7_34.toInt = y27.toInt := il_eq c_28
              refine lv_aload_n hx hb dX12_routeOn_89 rfl (lv_at hl 4 rfl) ?_
              refine lv_iload_n hx hb dX12_routeOn_90 rfl (lv_at hl 5 rfl) ?_
              refine lv_iconst (v := 1) hx hb dX12_routeOn_91 (by decide) ?_
              refine lv_iadd hx hb dX12_routeOn_92 ?_
              refine lq_i 2 (by decide) ?_
              refine lv_iload_n hx hb dX12_routeOn_93 rfl (lv_at hl 6 rfl) ?_
              refine lv_iconst (v := 1) hx hb dX12_routeOn_94 (by decide) ?_
              refine lv_aload_n hx hb dX12_routeOn_95 rfl (lv_at hl 4 rfl) ?_
              refine va_get (D := (dC, dI)) (ci := 12) (v := .ref (ad 16)) (C := RX12) (T := TX12) (N := 46) hx hb hts inG12 hown hK hP 0 (gM_0 cs ad nu20) rfl 26 (by decide) (hts _ (List.mem_cons_of_mem _ mw_5_67)) (fun _ h9 => h9) rfl dX12_routeOn_96 ?_
              refine lv_iconst (v := 0) hx hb dX12_routeOn_99 (by decide) ?_
              refine va_iald hx hb hK hP 16 0 (gM_16 cs ad nu20) rfl (show vp_in 0 7 from (by unfold vp_in; decide)) dX12_routeOn_100 ?_
              refine lv_topi (fun y49 ey49 => ?_)
              have hF := mi_let hF ey49
              have by49 : y49.toInt = (nu20 16 (0 : Int32).toNatClampNeg).toInt := congrArg Int32.toInt ey49
              have gy49 : 0 ≤ y49.toInt ∧ y49.toInt ≤ 6 := by rw [ey49]; exact rM_16_s ok (0 : Int32).toNatClampNeg
              refine lv_ishl hx hb dX12_routeOn_101 ?_
              refine lv_topi (fun t50 et50 => ?_)
              have hF := mi_let hF et50
              refine lv_iconst (v := (-1)) hx hb dX12_routeOn_102 (by decide) ?_
              refine lv_ixor hx hb dX12_routeOn_103 ?_
              refine lv_topi (fun t51 et51 => ?_)
              have hF := mi_let hF et51
              refine lv_iand hx hb dX12_routeOn_104 ?_
              refine lv_topi (fun t52 et52 => ?_)
              have hF := mi_let hF et52
              refine lv_iload hx hb dX12_routeOn_105 (lv_at hl 2 rfl) ?_
              have hFc := fr_all (wR_D nu20 hD) hS hA
              refine va_callv (va_runV (As := [.int 2, .int t52, .int r5]) (rest := []) ⟨hx, hb, hml, hown, hts⟩ (sm_meetRoute l dC dI cs ad nu20 ok H hP ((wR_D nu20 hD).weaken (fun _ _ _ _ => trivial)) 2 t52 r5 (by have h50 : (2 : Int32).toInt = 2 := rfl; omega) (by have h50 : (2 : Int32).toInt = 2 := rfl; have hb53 := congrArg Int32.toInt ez21; have hb54 := congrArg Int32.toInt ez22; have hb55 := congrArg Int32.toInt ez23; omega)) (cwV 3 hts (wU_V mw_6_187 mw_6_184 mw_6_186 mw_0_56 mw_1_13) rfl rfl rfl (by decide +kernel) ⟨Nat.le_of_ble_eq_true rfl, Nat.le_of_ble_eq_true rfl⟩) ⟨sz_c, va_recv hK hP (ci := 12) (q0 := 0) rfl (gM_0 cs ad nu20), sz_m hK hz⟩ rfl rfl hl.1 rfl (lv_room (Nat.le_of_ble_eq_true rfl)) dX12_routeOn_107 ⟨Nat.zero_le _, Nat.zero_le _⟩) hS (fun q _ h => hFc q h) hFc (fun xi56 t H56 locs ht hvm hw56 hB hz1 hk1 hS => ?_)
              have hP : va_P (dC, dI) vwCl (wR 21 ad (EM cs ad) xi56) H56 := by rw [← ht]; exact hB
              obtain ⟨hfe56, ok, hw56, hkp56_0⟩ := hw56
              have hF := mi_let hF hfe56
              have kp57 : (∀ k f : Nat, Nat.testBit 510 (gpM k f) = true → xi56 k f = mu k f) := kp_t hkp56_0 (by decide) kp26
              obtain ⟨y58, ey58⟩ : ∃ z : Int32, z = xi56 0 39 := ⟨_, rfl⟩
              have hF := mi_let hF ey58
              have by58 : y58.toInt = (xi56 0 39).toInt := congrArg Int32.toInt ey58
              have gy58 : -9 ≤ y58.toInt ∧ y58.toInt ≤ 3 := by rw [ey58]; exact rM_0_39 ok
              obtain ⟨y59, ey59⟩ : ∃ z : Int32, z = xi56 0 33 := ⟨_, rfl⟩
              have hF := mi_let hF ey59
              have by59 : y59.toInt = (xi56 0 33).toInt := congrArg Int32.toInt ey59
              obtain ⟨y60, ey60⟩ : ∃ z : Int32, z = xi56 0 35 := ⟨_, rfl⟩
              have hF := mi_let hF ey60
              have by60 : y60.toInt = (xi56 0 35).toInt := congrArg Int32.toInt ey60
              have gr56 : ((xi56 0 39).toInt = -9 ∨ (0 ≤ (xi56 0 39).toInt ∧ (xi56 0 39).toInt ≤ 3)) ∧ ((xi56 0 33).toInt = 0 ∨ (xi56 0 35).toInt ≤ 7) := hw56
              refine lv_goto (tgt := 139) hx hb dX12_routeOn_110 (by decide) ?_
              refine lv_iinc (v := (v7_34 + 1)) (lv' := [(7, .int (v7_34 + 1)), (6, .int t8), (5, .int r5), (4, .int y4), (0, .ref (ad 0)), (1, .int 1), (2, .int vh), (3, .int vp)]) hx hb dX12_routeOn_139 hl (k := 0) rfl rfl (by decide) rfl (fun ls hl => ?_)
              refine loc_gen (P := fun w9 => lv_has ls 8 [(7, .int w9), (6, .int t8), (5, .int r5), (4, .int y4), (0, .ref (ad 0)), (1, .int 1), (2, .int vh), (3, .int vp)]) (v7_34 + 1) hl (fun w61 hw61 hl => ?_)
              have hl : lv_has ls 8 [(7, .int w61), (6, .int t8), (5, .int r5), (4, .int y4), (0, .ref (ad 0)), (1, .int 1), (2, .int vh), (3, .int vp)] := hl
              have hF := mi_let hF hw61.symm
              have aw61 : w61.toInt = v7_34.toInt + 1 := by rw [← hw61]; first | exact va1 (Int.lt_of_le_of_lt h_v7_34.2 (by decide)) | exact va1 (by omega)
              refine lv_goto (tgt := 34) hx hb dX12_routeOn_142 (by decide) ?_
              exact ih34 (w61) xi56 _ _ _ (by first | exact ms_up hm_34 aw61 h_v7_34.2 | exact ms_lt hm_34 (by omega) (by omega) | omega) (by first | exact rg_up aw61 h_v7_34 (by omega) | omega) (by first | assumption | (have hb62 := congrArg Int32.toInt ey58; have hb63 := congrArg Int32.toInt ey59; have hb64 := congrArg Int32.toInt ey60; omega)) ok hP  kp57 hF hS (lv_sub hl [0, 1, 2, 3, 4, 5, 6, 7] rfl)
          · have hF := (if_neg c_19).symm.trans hF
            have c_19 : ¬ y18.toInt = 0 := il_ne c_19
            refine lv_aload_n hx hb dX12_routeOn_60 rfl (lv_at hl 4 rfl) ?_
            refine va_get (D := (dC, dI)) (ci := 12) (v := .ref (ad 8)) (C := RX12) (T := TX12) (N := 46) hx hb hts inG12 hown hK hP 0 (gM_0 cs ad nu34_) rfl 10 (by decide) (hts _ (List.mem_cons_of_mem _ mw_5_51)) (fun _ h9 => h9) rfl dX12_routeOn_61 ?_
            refine lv_iload hx hb dX12_routeOn_64 (lv_at hl 0 rfl) ?_
            refine va_iald hx hb hK hP 8 0 (gM_8 cs ad nu34_) rfl (show vp_in v7_34 7 from vi_of (by omega) (by omega)) dX12_routeOn_66 ?_
            refine lv_topi (fun y65 ey65 => ?_)
            have hF := mi_let hF ey65
            have by65 : y65.toInt = (nu34_ 8 v7_34.toNatClampNeg).toInt := congrArg Int32.toInt ey65
            refine lv_iload hx hb dX12_routeOn_67 (lv_at hl 2 rfl) ?_
            refine lv_icmp_lt (tgt := 139) hx hb dX12_routeOn_69 (by decide) (fun c_66 => ?_) (fun c_66 => ?_)
            · have hF := (if_pos c_66).symm.trans hF
              have c_66 : y65.toInt < r5.toInt := il_lt c_66
              refine lv_iinc (v := (v7_34 + 1)) (lv' := [(7, .int (v7_34 + 1)), (6, .int t8), (5, .int r5), (4, .int y4), (0, .ref (ad 0)), (1, .int 1), (2, .int vh), (3, .int vp)]) hx hb dX12_routeOn_139 hl (k := 0) rfl rfl (by decide) rfl (fun ls hl => ?_)
              refine loc_gen (P := fun w9 => lv_has ls 8 [(7, .int w9), (6, .int t8), (5, .int r5), (4, .int y4), (0, .ref (ad 0)), (1, .int 1), (2, .int vh), (3, .int vp)]) (v7_34 + 1) hl (fun w67 hw67 hl => ?_)
              have hl : lv_has ls 8 [(7, .int w67), (6, .int t8), (5, .int r5), (4, .int y4), (0, .ref (ad 0)), (1, .int 1), (2, .int vh), (3, .int vp)] := hl
              have hF := mi_let hF hw67.symm
              have aw67 : w67.toInt = v7_34.toInt + 1 := by rw [← hw67]; first | exact va1 (Int.lt_of_le_of_lt h_v7_34.2 (by decide)) | exact va1 (by omega)
              refine lv_goto (tgt := 34) hx hb dX12_routeOn_142 (by decide) ?_
              exact ih34 (w67) nu34_ _ _ _ (by first | exact ms_up hm_34 aw67 h_v7_34.2 | exact ms_lt hm_34 (by omega) (by omega) | omega) (by first | exact rg_up aw67 h_v7_34 (by omega) | omega) (by first | assumption | (have hb68 := congrArg Int32.toInt ey9; have hb69 := congrArg Int32.toInt ey10; have hb70 := congrArg Int32.toInt ey11; omega)) ok hP  kq34_0 hF hS (lv_sub hl [0, 1, 2, 3, 4, 5, 6, 7] rfl)
            · have hF := (if_neg c_66).symm.trans hF
              have c_66 : r5.toInt ≤ y65.toInt := il_nlt c_66
              refine lv_aload_n hx hb dX12_routeOn_72 rfl (lv_at hl 4 rfl) ?_
              refine va_get (D := (dC, dI)) (ci := 12) (v := .ref (ad 16)) (C := RX12) (T := TX12) (N := 46) hx hb hts inG12 hown hK hP 0 (gM_0 cs ad nu34_) rfl 26 (by decide) (hts _ (List.mem_cons_of_mem _ mw_5_67)) (fun _ h9 => h9) rfl dX12_routeOn_73 ?_
              refine lv_iload_n hx hb dX12_routeOn_76 rfl (lv_at hl 5 rfl) ?_
              refine lv_iload hx hb dX12_routeOn_77 (lv_at hl 0 rfl) ?_
              refine va_iast hx hb hK hP (wR_D nu34_ hD) hS 16 0 (gM_16 cs ad nu34_) rfl (show vp_in 1 7 from (by unfold vp_in; decide)) dX12_routeOn_79 (fun H locs hP _ hS => ?_)
              refine wr_gen (upd (nu34_ 16) (1 : Int32).toNatClampNeg v7_34) hP (rfl) (fun nu71 hn71 hP => ?_)
              have hF := mi_let hF hn71.symm
              have ok := tM_16_s ok (1 : Int32).toNatClampNeg hn71 (by omega)
              have ez72 : y9 = nu71 0 39 := ey9.trans (congrFun (up_k hn71 (by decide)) 39).symm
              have ez73 : y10 = nu71 0 33 := ey10.trans (congrFun (up_k hn71 (by decide)) 33).symm
              have ez74 : y11 = nu71 0 35 := ey11.trans (congrFun (up_k hn71 (by decide)) 35).symm
              have ez75 : y12 = nu71 0 8 := ey12.trans (congrFun (up_k hn71 (by decide)) 8).symm
              have ez76 : y18 = nu71 0 38 := ey18.trans (congrFun (up_k hn71 (by decide)) 38).symm
              have ez77 : y65 = nu71 8 v7_34.toNatClampNeg := ey65.trans (congrFun (up_k hn71 (by decide)) v7_34.toNatClampNeg).symm
              have kp78 : (∀ k f : Nat, Nat.testBit 510 (gpM k f) = true → nu71 k f = mu k f) := kp_c 0 hn71 (fun _ => rfl) (by decide) kq34_0
              refine lv_iload hx hb dX12_routeOn_80 (lv_at hl 0 rfl) ?_
              refine lv_aload_n hx hb dX12_routeOn_82 rfl (lv_at hl 4 rfl) ?_
              refine va_get (D := (dC, dI)) (ci := 12) (v := .int (nu71 0 29)) (C := RX12) (T := TX12) (N := 46) hx hb hts inG12 hown hK hP 0 (gM_0 cs ad nu71) rfl 29 (by decide) (hts _ (List.mem_cons_of_mem _ mw_5_70)) (fun _ h9 => h9) rfl dX12_routeOn_83 ?_
              refine lv_topi (fun y79 ey79 => ?_)
              have hF := mi_let hF ey79
              have by79 : y79.toInt = (nu71 0 29).toInt := congrArg Int32.toInt ey79
              refine lv_icmp_ne (tgt := 113) hx hb dX12_routeOn_86 (by decide) (fun c_80 => ?_) (fun c_80 => ?_)
              · have hF := (if_neg c_80).symm.trans hF
                have c_80 : ¬ v7_34.toInt = y79.toInt := il_ne c_80
                refine lv_aload_n hx hb dX12_routeOn_113 rfl (lv_at hl 4 rfl) ?_
                refine va_get (D := (dC, dI)) (ci := 12) (v := .ref (ad 7)) (C := RX12) (T := TX12) (N := 46) hx hb hts inG12 hown hK hP 0 (gM_0 cs ad nu71) rfl 9 (by decide) (hts _ (List.mem_cons_of_mem _ mw_5_50)) (fun _ h9 => h9) rfl dX12_routeOn_114 ?_
                refine lv_iload hx hb dX12_routeOn_117 (lv_at hl 0 rfl) ?_
                refine va_iald hx hb hK hP 7 0 (gM_7 cs ad nu71) rfl (show vp_in v7_34 7 from vi_of (by omega) (by omega)) dX12_routeOn_119 ?_
                refine lv_topi (fun y81 ey81 => ?_)
                have hF := mi_let hF ey81
                have by81 : y81.toInt = (nu71 7 v7_34.toNatClampNeg).toInt := congrArg Int32.toInt ey81
                refine lv_iconst (v := 3) hx hb dX12_routeOn_120 (by decide) ?_
                refine lv_icmp_eq (tgt := 139) hx hb dX12_routeOn_121 (by decide) (fun c_82 => ?_) (fun c_82 => ?_)
                · have hF := (if_pos c_82).symm.trans hF
                  have c_82 : y81.toInt = 3 := il_eq c_82
                  refine lv_iinc (v := (v7_34 + 1)) (lv' := [(7, .int (v7_34 + 1)), (6, .int t8), (5, .int r5), (4, .int y4), (0, .ref (ad 0)), (1, .int 1), (2, .int vh), (3, .int vp)]) hx hb dX12_routeOn_139 hl (k := 0) rfl rfl (by decide) rfl (fun ls hl => ?_)
                  refine loc_gen (P := fun w9 => lv_has ls 8 [(7, .int w9), (6, .int t8), (5, .int r5), (4, .int y4), (0, .ref (ad 0)), (1, .int 1), (2, .int vh), (3, .int vp)]) (v7_34 + 1) hl (fun w83 hw83 hl => ?_)
                  have hl : lv_has ls 8 [(7, .int w83), (6, .int t8), (5, .int r5), (4, .int y4), (0, .ref (ad 0)), (1, .int 1), (2, .int vh), (3, .int vp)] := hl
                  have hF := mi_let hF hw83.symm
                  have aw83 : w83.toInt = v7_34.toInt + 1 := by rw [← hw83]; first | exact va1 (Int.lt_of_le_of_lt h_v7_34.2 (by decide)) | exact va1 (by omega)
                  refine lv_goto (tgt := 34) hx hb dX12_routeOn_142 (by decide) ?_
                  exact ih34 (w83) nu71 _ _ _ (by first | exact ms_up hm_34 aw83 h_v7_34.2 | exact ms_lt hm_34 (by omega) (by omega) | omega) (by first | exact rg_up aw83 h_v7_34 (by omega) | omega) (by first | assumption | (rw [← ez72, ← ez73, ← ez74, ey9, ey10, ey11]; assumption) | (have hb84 := congrArg Int32.toInt ez72; have hb85 := congrArg Int32.toInt ez73; have hb86 := congrArg Int32.toInt ez74; omega)) ok hP  kp78 hF hS (lv_sub hl [0, 1, 2, 3, 4, 5, 6, 7] rfl)
                · have hF := (if_neg c_82).symm.trans hF
                  have c_82 : ¬ y81.toInt = 3 := il_ne c_82
                  refine lv_aload_n hx hb dX12_routeOn_124 rfl (lv_at hl 4 rfl) ?_
                  refine lv_iload_n hx hb dX12_routeOn_125 rfl (lv_at hl 5 rfl) ?_
                  refine lv_iconst (v := 1) hx hb dX12_routeOn_126 (by decide) ?_
                  refine lv_iadd hx hb dX12_routeOn_127 ?_
                  refine lq_i 2 (by decide) ?_
                  refine lv_iload_n hx hb dX12_routeOn_128 rfl (lv_at hl 6 rfl) ?_
                  refine lv_iconst (v := 1) hx hb dX12_routeOn_129 (by decide) ?_
                  refine lv_iload hx hb dX12_routeOn_130 (lv_at hl 0 rfl) ?_
                  refine lv_ishl hx hb dX12_routeOn_132 ?_
                  refine lv_topi (fun t87 et87 => ?_)
                  have hF := mi_let hF et87
                  refine lv_ior hx hb dX12_routeOn_133 ?_
                  refine lv_topi (fun t88 et88 => ?_)
                  have hF := mi_let hF et88
                  refine lv_iload hx hb dX12_routeOn_134 (lv_at hl 2 rfl) ?_
                  have hFc := fr_all (wR_D nu71 hD) hS hA
                  refine va_callv (va_runV (As := [.int 2, .int t88, .int r5]) (rest := []) ⟨hx, hb, hml, hown, hts⟩ (sm_routeOn2 l dC dI cs ad nu71 ok H hP ((wR_D nu71 hD).weaken (fun _ _ _ _ => trivial)) t88 r5 (by have h50 : (2 : Int32).toInt = 2 := rfl; rw [et88, et87]; exact h7_next hin0 (by rw [et8, et7]) (by omega) (by omega) f17) (by have h50 : (2 : Int32).toInt = 2 := rfl; have hb89 := congrArg Int32.toInt ez72; have hb90 := congrArg Int32.toInt ez73; have hb91 := congrArg Int32.toInt ez74; omega)) (cwV 3 hts (wU_V mw_6_183 mw_6_180 mw_6_182 mw_0_55 mw_1_13) rfl rfl rfl (by decide +kernel) ⟨Nat.le_of_ble_eq_true rfl, Nat.le_of_ble_eq_true rfl⟩) ⟨sz_c, va_recv hK hP (ci := 12) (q0 := 0) rfl (gM_0 cs ad nu71), sz_m hK hz⟩ rfl rfl hl.1 rfl (lv_room (Nat.le_of_ble_eq_true rfl)) dX12_routeOn_136 ⟨Nat.zero_le _, Nat.zero_le _⟩) hS (fun q _ h => hFc q h) hFc (fun xi92 t H92 locs ht hvm hw92 hB hz1 hk1 hS => ?_)
                  have hP : va_P (dC, dI) vwCl (wR 21 ad (EM cs ad) xi92) H92 := by rw [← ht]; exact hB
                  obtain ⟨hfe92, ok, hw92, hkp92_0⟩ := hw92
                  have hF := mi_let hF hfe92
                  have kp93 : (∀ k f : Nat, Nat.testBit 510 (gpM k f) = true → xi92 k f = mu k f) := kp_t hkp92_0 (by decide) kp78
                  obtain ⟨y94, ey94⟩ : ∃ z : Int32, z = xi92 0 39 := ⟨_, rfl⟩
                  have hF := mi_let hF ey94
                  have by94 : y94.toInt = (xi92 0 39).toInt := congrArg Int32.toInt ey94
                  have gy94 : -9 ≤ y94.toInt ∧ y94.toInt ≤ 3 := by rw [ey94]; exact rM_0_39 ok
                  obtain ⟨y95, ey95⟩ : ∃ z : Int32, z = xi92 0 33 := ⟨_, rfl⟩
                  have hF := mi_let hF ey95
                  have by95 : y95.toInt = (xi92 0 33).toInt := congrArg Int32.toInt ey95
                  obtain ⟨y96, ey96⟩ : ∃ z : Int32, z = xi92 0 35 := ⟨_, rfl⟩
                  have hF := mi_let hF ey96
                  have by96 : y96.toInt = (xi92 0 35).toInt := congrArg Int32.toInt ey96
                  have gr92 : ((xi92 0 39).toInt = -9 ∨ (0 ≤ (xi92 0 39).toInt ∧ (xi92 0 39).toInt ≤ 3)) ∧ ((xi92 0 33).toInt = 0 ∨ (xi92 0 35).toInt ≤ 7) := hw92
                  refine lv_iinc (v := (v7_34 + 1)) (lv' := [(7, .int (v7_34 + 1)), (6, .int t8), (5, .int r5), (4, .int y4), (0, .ref (ad 0)), (1, .int 1), (2, .int vh), (3, .int vp)]) hx hb dX12_routeOn_139 hl (k := 0) rfl rfl (by decide) rfl (fun ls hl => ?_)
                  refine loc_gen (P := fun w9 => lv_has ls 8 [(7, .int w9), (6, .int t8), (5, .int r5), (4, .int y4), (0, .ref (ad 0)), (1, .int 1), (2, .int vh), (3, .int vp)]) (v7_34 + 1) hl (fun w97 hw97 hl => ?_)
                  have hl : lv_has ls 8 [(7, .int w97), (6, .int t8), (5, .int r5), (4, .int y4), (0, .ref (ad 0)), (1, .int 1), (2, .int vh), (3, .int vp)] := hl
                  have hF := mi_let hF hw97.symm
                  have aw97 : w97.toInt = v7_34.toInt + 1 := by rw [← hw97]; first | exact va1 (Int.lt_of_le_of_lt h_v7_34.2 (by decide)) | exact va1 (by omega)
                  refine lv_goto (tgt := 34) hx hb dX12_routeOn_142 (by decide) ?_
                  exact ih34 (w97) xi92 _ _ _ (by first | exact ms_up hm_34 aw97 h_v7_34.2 | exact ms_lt hm_34 (by omega) (by omega) | omega) (by first | exact rg_up aw97 h_v7_34 (by omega) | omega) (by first | assumption | (have hb98 := congrArg Int32.toInt ey94; have hb99 := congrArg Int32.toInt ey95; have hb100 := congrArg Int32.toInt ey96; omega)) ok hP  kp93 hF hS (lv_sub hl [0, 1, 2, 3, 4, 5, 6, 7] rfl)
              · have hF := (if_pos c_80).symm.trans hF
                have c_80 : v7_34.toInt = y79.toInt := il_eq c_80
                refine lv_aload_n hx hb dX12_routeOn_89 rfl (lv_at hl 4 rfl) ?_
                refine lv_iload_n hx hb dX12_routeOn_90 rfl (lv_at hl 5 rfl) ?_
                refine lv_iconst (v := 1) hx hb dX12_routeOn_91 (by decide) ?_
                refine lv_iadd hx hb dX12_routeOn_92 ?_
                refine lq_i 2 (by decide) ?_
                refine lv_iload_n hx hb dX12_routeOn_93 rfl (lv_at hl 6 rfl) ?_
                refine lv_iconst (v := 1) hx hb dX12_routeOn_94 (by decide) ?_
                refine lv_aload_n hx hb dX12_routeOn_95 rfl (lv_at hl 4 rfl) ?_
                refine va_get (D := (dC, dI)) (ci := 12) (v := .ref (ad 16)) (C := RX12) (T := TX12) (N := 46) hx hb hts inG12 hown hK hP 0 (gM_0 cs ad nu71) rfl 26 (by decide) (hts _ (List.mem_cons_of_mem _ mw_5_67)) (fun _ h9 => h9) rfl dX12_routeOn_96 ?_
                refine lv_iconst (v := 0) hx hb dX12_routeOn_99 (by decide) ?_
                refine va_iald hx hb hK hP 16 0 (gM_16 cs ad nu71) rfl (show vp_in 0 7 from (by unfold vp_in; decide)) dX12_routeOn_100 ?_
                refine lv_topi (fun y101 ey101 => ?_)
                have hF := mi_let hF ey101
                have by101 : y101.toInt = (nu71 16 (0 : Int32).toNatClampNeg).toInt := congrArg Int32.toInt ey101
                have gy101 : 0 ≤ y101.toInt ∧ y101.toInt ≤ 6 := by rw [ey101]; exact rM_16_s ok (0 : Int32).toNatClampNeg
                refine lv_ishl hx hb dX12_routeOn_101 ?_
                refine lv_topi (fun t102 et102 => ?_)
                have hF := mi_let hF et102
                refine lv_iconst (v := (-1)) hx hb dX12_routeOn_102 (by decide) ?_
                refine lv_ixor hx hb dX12_routeOn_103 ?_
                refine lv_topi (fun t103 et103 => ?_)
                have hF := mi_let hF et103
                refine lv_iand hx hb dX12_routeOn_104 ?_
                refine lv_topi (fun t104 et104 => ?_)
                have hF := mi_let hF et104
                refine lv_iload hx hb dX12_routeOn_105 (lv_at hl 2 rfl) ?_
                have hFc := fr_all (wR_D nu71 hD) hS hA
                refine va_callv (va_runV (As := [.int 2, .int t104, .int r5]) (rest := []) ⟨hx, hb, hml, hown, hts⟩ (sm_meetRoute l dC dI cs ad nu71 ok H hP ((wR_D nu71 hD).weaken (fun _ _ _ _ => trivial)) 2 t104 r5 (by have h50 : (2 : Int32).toInt = 2 := rfl; omega) (by have h50 : (2 : Int32).toInt = 2 := rfl; have hb105 := congrArg Int32.toInt ez72; have hb106 := congrArg Int32.toInt ez73; have hb107 := congrArg Int32.toInt ez74; omega)) (cwV 3 hts (wU_V mw_6_187 mw_6_184 mw_6_186 mw_0_56 mw_1_13) rfl rfl rfl (by decide +kernel) ⟨Nat.le_of_ble_eq_true rfl, Nat.le_of_ble_eq_true rfl⟩) ⟨sz_c, va_recv hK hP (ci := 12) (q0 := 0) rfl (gM_0 cs ad nu71), sz_m hK hz⟩ rfl rfl hl.1 rfl (lv_room (Nat.le_of_ble_eq_true rfl)) dX12_routeOn_107 ⟨Nat.zero_le _, Nat.zero_le _⟩) hS (fun q _ h => hFc q h) hFc (fun xi108 t H108 locs ht hvm hw108 hB hz1 hk1 hS => ?_)
                have hP : va_P (dC, dI) vwCl (wR 21 ad (EM cs ad) xi108) H108 := by rw [← ht]; exact hB
                obtain ⟨hfe108, ok, hw108, hkp108_0⟩ := hw108
                have hF := mi_let hF hfe108
                have kp109 : (∀ k f : Nat, Nat.testBit 510 (gpM k f) = true → xi108 k f = mu k f) := kp_t hkp108_0 (by decide) kp78
                obtain ⟨y110, ey110⟩ : ∃ z : Int32, z = xi108 0 39 := ⟨_, rfl⟩
                have hF := mi_let hF ey110
                have by110 : y110.toInt = (xi108 0 39).toInt := congrArg Int32.toInt ey110
                have gy110 : -9 ≤ y110.toInt ∧ y110.toInt ≤ 3 := by rw [ey110]; exact rM_0_39 ok
                obtain ⟨y111, ey111⟩ : ∃ z : Int32, z = xi108 0 33 := ⟨_, rfl⟩
                have hF := mi_let hF ey111
                have by111 : y111.toInt = (xi108 0 33).toInt := congrArg Int32.toInt ey111
                obtain ⟨y112, ey112⟩ : ∃ z : Int32, z = xi108 0 35 := ⟨_, rfl⟩
                have hF := mi_let hF ey112
                have by112 : y112.toInt = (xi108 0 35).toInt := congrArg Int32.toInt ey112
                have gr108 : ((xi108 0 39).toInt = -9 ∨ (0 ≤ (xi108 0 39).toInt ∧ (xi108 0 39).toInt ≤ 3)) ∧ ((xi108 0 33).toInt = 0 ∨ (xi108 0 35).toInt ≤ 7) := hw108
                refine lv_goto (tgt := 139) hx hb dX12_routeOn_110 (by decide) ?_
                refine lv_iinc (v := (v7_34 + 1)) (lv' := [(7, .int (v7_34 + 1)), (6, .int t8), (5, .int r5), (4, .int y4), (0, .ref (ad 0)), (1, .int 1), (2, .int vh), (3, .int vp)]) hx hb dX12_routeOn_139 hl (k := 0) rfl rfl (by decide) rfl (fun ls hl => ?_)
                refine loc_gen (P := fun w9 => lv_has ls 8 [(7, .int w9), (6, .int t8), (5, .int r5), (4, .int y4), (0, .ref (ad 0)), (1, .int 1), (2, .int vh), (3, .int vp)]) (v7_34 + 1) hl (fun w113 hw113 hl => ?_)
                have hl : lv_has ls 8 [(7, .int w113), (6, .int t8), (5, .int r5), (4, .int y4), (0, .ref (ad 0)), (1, .int 1), (2, .int vh), (3, .int vp)] := hl
                have hF := mi_let hF hw113.symm
                have aw113 : w113.toInt = v7_34.toInt + 1 := by rw [← hw113]; first | exact va1 (Int.lt_of_le_of_lt h_v7_34.2 (by decide)) | exact va1 (by omega)
                refine lv_goto (tgt := 34) hx hb dX12_routeOn_142 (by decide) ?_
                exact ih34 (w113) xi108 _ _ _ (by first | exact ms_up hm_34 aw113 h_v7_34.2 | exact ms_lt hm_34 (by omega) (by omega) | omega) (by first | exact rg_up aw113 h_v7_34 (by omega) | omega) (by first | assumption | (have hb114 := congrArg Int32.toInt ey110; have hb115 := congrArg Int32.toInt ey111; have hb116 := congrArg Int32.toInt ey112; omega)) ok hP  kp109 hF hS (lv_sub hl [0, 1, 2, 3, 4, 5, 6, 7] rfl)
        · have hF := (if_neg (fun h => absurd (hfe17.trans h) (by decide))).symm.trans hF
          have f17 : ¬ rb t8 v7_34 = 1 := f17
          refine lv_if_eq (tgt := 139) hx hb dX12_routeOn_50 (by decide) (fun _ => ?_) (fun c => absurd (by decide) c)
          refine lv_iinc (v := (v7_34 + 1)) (lv' := [(7, .int (v7_34 + 1)), (6, .int t8), (5, .int r5), (4, .int y4), (0, .ref (ad 0)), (1, .int 1), (2, .int vh), (3, .int vp)]) hx hb dX12_routeOn_139 hl (k := 0) rfl rfl (by decide) rfl (fun ls hl => ?_)
          refine loc_gen (P := fun w9 => lv_has ls 8 [(7, .int w9), (6, .int t8), (5, .int r5), (4, .int y4), (0, .ref (ad 0)), (1, .int 1), (2, .int vh), (3, .int vp)]) (v7_34 + 1) hl (fun w117 hw117 hl => ?_)
          have hl : lv_has ls 8 [(7, .int w117), (6, .int t8), (5, .int r5), (4, .int y4), (0, .ref (ad 0)), (1, .int 1), (2, .int vh), (3, .int vp)] := hl
          have hF := mi_let hF hw117.symm
          have aw117 : w117.toInt = v7_34.toInt + 1 := by rw [← hw117]; first | exact va1 (Int.lt_of_le_of_lt h_v7_34.2 (by decide)) | exact va1 (by omega)
          refine lv_goto (tgt := 34) hx hb dX12_routeOn_142 (by decide) ?_
          exact ih34 (w117) nu34_ _ _ _ (by first | exact ms_up hm_34 aw117 h_v7_34.2 | exact ms_lt hm_34 (by omega) (by omega) | omega) (by first | exact rg_up aw117 h_v7_34 (by omega) | omega) (by first | assumption | (have hb118 := congrArg Int32.toInt ey9; have hb119 := congrArg Int32.toInt ey10; have hb120 := congrArg Int32.toInt ey11; omega)) ok hP  kq34_0 hF hS (lv_sub hl [0, 1, 2, 3, 4, 5, 6, 7] rfl)
  exact loop34 10 (0) mu _ _ _ (by have h80 : (0 : Int32).toInt = 0 := rfl; omega) (by have h80 : (0 : Int32).toInt = 0 := rfl; exact ⟨by omega, by omega⟩) (by have h80 : (0 : Int32).toInt = 0 := rfl; have hb121 := congrArg Int32.toInt ey1; have hb122 := congrArg Int32.toInt ey2; have hb123 := congrArg Int32.toInt ey3; omega) ok hP  (fun _ _ _ => rfl) hF hS hl
