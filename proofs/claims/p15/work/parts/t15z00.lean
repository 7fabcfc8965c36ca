set_option maxHeartbeats 4000000 in
set_option maxRecDepth 100000 in
/-- sm_sellTo -/
theorem sm_sellTo (l : Launch) (dC : Nat → ClassId) (dI : Nat → Nat → Nat) (cs : Nat → ClassId) (ad : Nat → Nat) (mu : Nat → Nat → Int32) (ok : okR loM hiM mu) (H : Heap) (hP : va_P (dC, dI) vwCl (wR 21 ad (EM cs ad) mu) H) (hD0 : va_D (fun _ => True) (wR 21 ad (EM cs ad) mu)) (vk : Int32) (vx : Int32) (hin0 : 0 ≤ vk.toInt ∧ vk.toInt ≤ 3 ∧ 0 ≤ vx.toInt ∧ vx.toInt ≤ 6) (hin1 : (mu 0 17).toInt ≤ 39) : Met l yX12_sellTo (wU yX12_sellTo cX12_sellTo 7 none) ({ frames := 2, cells := 0, slots := 0, locals := 43 }) (va_Pc [.ref (ad 0), .int vk, .int vx] (sz_P (dC, dI) vwCl (tyM cs) H)) (va_Qv (fun (xi : Nat → Nat → Int32) => xi = F_sm_sellTo mu vk vx ∧ okR loM hiM xi ∧ (True) ∧ (∀ k f : Nat, Nat.testBit 486 (gpM k f) = true → xi k f = mu k f)) (fun xi t => va_P (dC, dI) vwCl (wR 21 ad (EM cs ad) xi) t.heap) (va_A (wR 21 ad (EM cs ad) mu) H.size)) 0 0 (va_A (wR 21 ad (EM cs ad) mu) H.size) := by
  refine Met.ofW (cc := cX12_sellTo) (maxL := 7) (ret := none) (by decide) rfl ?_
  intro p e s m args below meth c s₁ B hml hv
  obtain ⟨rfl, hh, hK, hz⟩ := hv
  have hx := B.exec
  have hb := B.bytes
  have hr := B.returns
  have hts := atoms_spec (ws := (wU yX12_sellTo cX12_sellTo 7 none)) B.pre
  have hown : s.vm.findClass RX12 = some m.cls := findClass_of_methodNamed B.named
  have hlocks := B.notSynchronized
  subst hh
  have hD := hD0.self (sz := s.heap.size)
  have hA : ∀ q : Nat, s.heap.size ≤ q → (va_A (wR 21 ad (EM cs ad) mu) s.heap.size) q := fun q h => Or.inr h
  have hS : va_S (va_A (wR 21 ad (EM cs ad) mu) s.heap.size) s.heap s.heap [] := va_S.rf
  have hl := lv_entry ([.ref (ad 0), .int vk, .int vx]) (n := 7) (Nat.le_of_ble_eq_true rfl)
  rw [lg_entry_eq]
  generalize (lg_sl ([.ref (ad 0), .int vk, .int vx]) ++ List.replicate (7 - (lg_sl ([.ref (ad 0), .int vk, .int vx])).length) Slot.unset).toArray = ls at hl ⊢
  have hl : lv_has ls 7 [(0, .ref (ad 0)), (1, .int vk), (2, .int vx)] := hl
  obtain ⟨fz, hfz⟩ : ∃ z, F_sm_sellTo mu vk vx = z := ⟨_, rfl⟩
  have hF := hfz
  unfold F_sm_sellTo at hF
  refine lv_bipush (v := 12) hx hb dX12_sellTo_0 (by decide) ?_
  refine lv_aload_n hx hb dX12_sellTo_2 rfl (lv_at hl 0 rfl) ?_
  refine va_get (D := (dC, dI)) (ci := 12) (v := .int (mu 0 17)) (C := RX12) (T := TX12) (N := 46) hx hb hts inG12 hown hK hP 0 (gM_0 cs ad mu) rfl 17 (by decide) (hts _ (List.mem_cons_of_mem _ mw_5_58)) (fun _ h9 => h9) rfl dX12_sellTo_3 ?_
  refine lv_topi (fun y1 ey1 => ?_)
  have hF := mi_let hF ey1
  have by1 : y1.toInt = (mu 0 17).toInt := congrArg Int32.toInt ey1
  have gy1 : 0 ≤ y1.toInt ∧ y1.toInt ≤ 40 := by rw [ey1]; exact rM_0_17 ok
  refine lv_imul hx hb dX12_sellTo_6 ?_
  refine lv_topi (fun t2 et2 => ?_)
  have hF := mi_let hF et2
  have at2 : t2.toInt = 12 * y1.toInt := by rw [et2]; exact tI_mul (rfl : (12 : Int32).toInt = 12) (rfl : y1.toInt = _) (by omega) (by omega)
  refine lv_istore_n (lv' := [(3, .int t2), (0, .ref (ad 0)), (1, .int vk), (2, .int vx)]) hx hb dX12_sellTo_7 rfl hl (by decide) rfl (fun ls hl => ?_)
  refine lv_aload_n hx hb dX12_sellTo_8 rfl (lv_at hl 1 rfl) ?_
  refine lv_iload_n hx hb dX12_sellTo_9 rfl (lv_at hl 2 rfl) ?_
  refine lv_iconst (v := 5) hx hb dX12_sellTo_10 (by decide) ?_
  refine cr_i (va_runV (As := [.int vk, .int 5]) (rest := []) ⟨hx, hb, hml, hown, hts⟩ (sm_letterOf5 l dC dI cs ad mu ok s.heap hP vk (by have h51 : (5 : Int32).toInt = 5 := rfl; omega)) (cwV 2 hts (wU_V mw_6_48 mw_6_45 mw_6_47 mw_0_38 mw_1_13) rfl rfl rfl (by decide +kernel) ⟨Nat.le_of_ble_eq_true rfl, Nat.le_of_ble_eq_true rfl⟩) ⟨sz_c, va_recv hK hP (ci := 12) (q0 := 0) rfl (gM_0 cs ad mu), sz_m hK hz⟩ rfl rfl hl.1 rfl (lv_room (Nat.le_of_ble_eq_true rfl)) dX12_sellTo_11 ⟨Nat.zero_le _, Nat.zero_le _⟩) hS (fun r3 hw3 locs hS => ?_)
  obtain ⟨hfe3, hw3⟩ := hw3
  have hF := mi_let hF hfe3
  have gr3 : 0 ≤ r3.toInt ∧ r3.toInt ≤ 6 := hw3
  refine lv_istore (lv' := [(4, .int r3), (3, .int t2), (0, .ref (ad 0)), (1, .int vk), (2, .int vx)]) hx hb dX12_sellTo_14 hl (by decide) rfl (fun ls hl => ?_)
  refine lv_aload_n hx hb dX12_sellTo_16 rfl (lv_at hl 2 rfl) ?_
  refine lv_iload_n hx hb dX12_sellTo_17 rfl (lv_at hl 3 rfl) ?_
  refine cr_i (va_runV (As := [.int vk]) (rest := []) ⟨hx, hb, hml, hown, hts⟩ (sm_priceOf l dC dI cs ad mu ok s.heap hP vk (by omega)) (cwV 1 hts (wU_V mw_6_122 mw_6_119 mw_6_121 mw_0_48 mw_1_13) rfl rfl rfl (by decide +kernel) ⟨Nat.le_of_ble_eq_true rfl, Nat.le_of_ble_eq_true rfl⟩) ⟨sz_c, va_recv hK hP (ci := 12) (q0 := 0) rfl (gM_0 cs ad mu), sz_m hK hz⟩ rfl rfl hl.1 rfl (lv_room (Nat.le_of_ble_eq_true rfl)) dX12_sellTo_18 ⟨Nat.zero_le _, Nat.zero_le _⟩) hS (fun r4 hw4 locs hS => ?_)
  obtain ⟨hfe4, hw4⟩ := hw4
  have hF := mi_let hF hfe4
  refine lv_istore (lv' := [(5, .int r4), (4, .int r3), (3, .int t2), (0, .ref (ad 0)), (1, .int vk), (2, .int vx)]) hx hb dX12_sellTo_21 hl (by decide) rfl (fun ls hl => ?_)
  refine lv_aload_n hx hb dX12_sellTo_23 rfl (lv_at hl 3 rfl) ?_
  refine va_get (D := (dC, dI)) (ci := 12) (v := .ref (ad 14)) (C := RX12) (T := TX12) (N := 46) hx hb hts inG12 hown hK hP 0 (gM_0 cs ad mu) rfl 24 (by decide) (hts _ (List.mem_cons_of_mem _ mw_5_65)) (fun _ h9 => h9) rfl dX12_sellTo_24 ?_
  refine lv_iload_n hx hb dX12_sellTo_27 rfl (lv_at hl 2 rfl) ?_
  refine lv_iload_n hx hb dX12_sellTo_28 rfl (lv_at hl 4 rfl) ?_
  refine va_iast hx hb hK hP (wR_D mu hD) hS 14 0 (gM_14 cs ad mu) rfl (show vp_in t2 480 from vi_of (by omega) (by omega)) dX12_sellTo_29 (fun H locs hP _ hS => ?_)
  have hc5 : ((t2 : Int32).toNatClampNeg : Int) = t2.toInt := tC_of (by omega)
  refine wr_gen (upd (mu 14) t2.toNatClampNeg vk) hP (rfl) (fun nu6 hn6 hP => ?_)
  have hF := mi_let hF hn6.symm
  have ok := tM_14_s ok t2.toNatClampNeg hn6 (by refine ⟨fun c9 => ?_, fun c9 => ?_⟩ <;> omega)
  have ez7 : y1 = nu6 0 17 := ey1.trans (congrFun (up_k hn6 (by decide)) 17).symm
  have kp8 : (∀ k f : Nat, Nat.testBit 486 (gpM k f) = true → nu6 k f = mu k f) := kp_c 4 hn6 (fun _ => rfl) (by decide) (fun _ _ _ => rfl)
  refine lv_aload_n hx hb dX12_sellTo_30 rfl (lv_at hl 3 rfl) ?_
  refine va_get (D := (dC, dI)) (ci := 12) (v := .ref (ad 14)) (C := RX12) (T := TX12) (N := 46) hx hb hts inG12 hown hK hP 0 (gM_0 cs ad nu6) rfl 24 (by decide) (hts _ (List.mem_cons_of_mem _ mw_5_65)) (fun _ h9 => h9) rfl dX12_sellTo_31 ?_
  refine lv_iload_n hx hb dX12_sellTo_34 rfl (lv_at hl 2 rfl) ?_
  refine lv_iconst (v := 1) hx hb dX12_sellTo_35 (by decide) ?_
  refine lv_iadd hx hb dX12_sellTo_36 ?_
  refine lv_topi (fun t9 et9 => ?_)
  have hF := mi_let hF et9
  have at9 : t9.toInt = t2.toInt + 1 := by rw [et9]; exact tI_add (rfl : t2.toInt = _) (rfl : (1 : Int32).toInt = 1) (by omega) (by omega)
  refine lv_iload hx hb dX12_sellTo_37 (lv_at hl 1 rfl) ?_
  refine va_iast hx hb hK hP (wR_D nu6 hD) hS 14 0 (gM_14 cs ad nu6) rfl (show vp_in t9 480 from vi_of (by omega) (by omega)) dX12_sellTo_39 (fun H locs hP _ hS => ?_)
  have hc10 : ((t9 : Int32).toNatClampNeg : Int) = t9.toInt := tC_of (by omega)
  refine wr_gen (upd (nu6 14) t9.toNatClampNeg r3) hP (rfl) (fun nu11 hn11 hP => ?_)
  have hF := mi_let hF hn11.symm
  have ok := tM_14_s ok t9.toNatClampNeg hn11 (by refine ⟨fun c9 => ?_, fun c9 => ?_⟩ <;> omega)
  have ez12 : y1 = nu11 0 17 := ez7.trans (congrFun (up_k hn11 (by decide)) 17).symm
  have kp13 : (∀ k f : Nat, Nat.testBit 486 (gpM k f) = true → nu11 k f = mu k f) := kp_c 4 hn11 (fun _ => rfl) (by decide) kp8
  refine lv_aload_n hx hb dX12_sellTo_40 rfl (lv_at hl 3 rfl) ?_
  refine va_get (D := (dC, dI)) (ci := 12) (v := .ref (ad 14)) (C := RX12) (T := TX12) (N := 46) hx hb hts inG12 hown hK hP 0 (gM_0 cs ad nu11) rfl 24 (by decide) (hts _ (List.mem_cons_of_mem _ mw_5_65)) (fun _ h9 => h9) rfl dX12_sellTo_41 ?_
  refine lv_iload_n hx hb dX12_sellTo_44 rfl (lv_at hl 2 rfl) ?_
  refine lv_iconst (v := 2) hx hb dX12_sellTo_45 (by decide) ?_
  refine lv_iadd hx hb dX12_sellTo_46 ?_
  refine lv_topi (fun t14 et14 => ?_)
  have hF := mi_let hF et14
  have at14 : t14.toInt = t2.toInt + 2 := by rw [et14]; exact tI_add (rfl : t2.toInt = _) (rfl : (2 : Int32).toInt = 2) (by omega) (by omega)
  refine lv_aload_n hx hb dX12_sellTo_47 rfl (lv_at hl 3 rfl) ?_
  refine lv_iload_n hx hb dX12_sellTo_48 rfl (lv_at hl 4 rfl) ?_
  refine lv_bipush (v := 6) hx hb dX12_sellTo_49 (by decide) ?_
  refine cr_i (va_runV (As := [.int vk, .int 6]) (rest := [.int t14, .ref (ad 14)]) ⟨hx, hb, hml, hown, hts⟩ (sm_letterOf l dC dI cs ad nu11 ok H hP vk 6 (by have h51 : (6 : Int32).toInt = 6 := rfl; omega)) (cwV 2 hts (wU_V mw_6_48 mw_6_45 mw_6_47 mw_0_38 mw_1_13) rfl rfl rfl (by decide +kernel) ⟨Nat.le_of_ble_eq_true rfl, Nat.le_of_ble_eq_true rfl⟩) ⟨sz_c, va_recv hK hP (ci := 12) (q0 := 0) rfl (gM_0 cs ad nu11), sz_m hK hz⟩ rfl rfl hl.1 rfl (lv_room (Nat.le_of_ble_eq_true rfl)) dX12_sellTo_51 ⟨Nat.zero_le _, Nat.zero_le _⟩) hS (fun r15 hw15 locs hS => ?_)
  obtain ⟨hfe15, hw15⟩ := hw15
  have hF := mi_let hF hfe15
  refine va_iast hx hb hK hP (wR_D nu11 hD) hS 14 0 (gM_14 cs ad nu11) rfl (show vp_in t14 480 from vi_of (by omega) (by omega)) dX12_sellTo_54 (fun H locs hP _ hS => ?_)
  have hc16 : ((t14 : Int32).toNatClampNeg : Int) = t14.toInt := tC_of (by omega)
  refine wr_gen (upd (nu11 14) t14.toNatClampNeg r15) hP (rfl) (fun nu17 hn17 hP => ?_)
  have hF := mi_let hF hn17.symm
  have ok := tM_14_s ok t14.toNatClampNeg hn17 (by refine ⟨fun c9 => ?_, fun c9 => ?_⟩ <;> omega)
  have ez18 : y1 = nu17 0 17 := ez12.trans (congrFun (up_k hn17 (by decide)) 17).symm
  have kp19 : (∀ k f : Nat, Nat.testBit 486 (gpM k f) = true → nu17 k f = mu k f) := kp_c 4 hn17 (fun _ => rfl) (by decide) kp13
  refine lv_aload_n hx hb dX12_sellTo_55 rfl (lv_at hl 3 rfl) ?_
  refine va_get (D := (dC, dI)) (ci := 12) (v := .ref (ad 14)) (C := RX12) (T := TX12) (N := 46) hx hb hts inG12 hown hK hP 0 (gM_0 cs ad nu17) rfl 24 (by decide) (hts _ (List.mem_cons_of_mem _ mw_5_65)) (fun _ h9 => h9) rfl dX12_sellTo_56 ?_
  refine lv_iload_n hx hb dX12_sellTo_59 rfl (lv_at hl 2 rfl) ?_
  refine lv_iconst (v := 3) hx hb dX12_sellTo_60 (by decide) ?_
  refine lv_iadd hx hb dX12_sellTo_61 ?_
  refine lv_topi (fun t20 et20 => ?_)
  have hF := mi_let hF et20
  have at20 : t20.toInt = t2.toInt + 3 := by rw [et20]; exact tI_add (rfl : t2.toInt = _) (rfl : (3 : Int32).toInt = 3) (by omega) (by omega)
  refine lv_aload_n hx hb dX12_sellTo_62 rfl (lv_at hl 3 rfl) ?_
  refine lv_iload_n hx hb dX12_sellTo_63 rfl (lv_at hl 4 rfl) ?_
  refine lv_bipush (v := 8) hx hb dX12_sellTo_64 (by decide) ?_
  refine cr_i (va_runV (As := [.int vk, .int 8]) (rest := [.int t20, .ref (ad 14)]) ⟨hx, hb, hml, hown, hts⟩ (sm_letterOf l dC dI cs ad nu17 ok H hP vk 8 (by have h51 : (8 : Int32).toInt = 8 := rfl; omega)) (cwV 2 hts (wU_V mw_6_48 mw_6_45 mw_6_47 mw_0_38 mw_1_13) rfl rfl rfl (by decide +kernel) ⟨Nat.le_of_ble_eq_true rfl, Nat.le_of_ble_eq_true rfl⟩) ⟨sz_c, va_recv hK hP (ci := 12) (q0 := 0) rfl (gM_0 cs ad nu17), sz_m hK hz⟩ rfl rfl hl.1 rfl (lv_room (Nat.le_of_ble_eq_true rfl)) dX12_sellTo_66 ⟨Nat.zero_le _, Nat.zero_le _⟩) hS (fun r21 hw21 locs hS => ?_)
  obtain ⟨hfe21, hw21⟩ := hw21
  have hF := mi_let hF hfe21
  refine va_iast hx hb hK hP (wR_D nu17 hD) hS 14 0 (gM_14 cs ad nu17) rfl (show vp_in t20 480 from vi_of (by omega) (by omega)) dX12_sellTo_69 (fun H locs hP _ hS => ?_)
  have hc22 : ((t20 : Int32).toNatClampNeg : Int) = t20.toInt := tC_of (by omega)
  refine wr_gen (upd (nu17 14) t20.toNatClampNeg r21) hP (rfl) (fun nu23 hn23 hP => ?_)
  have hF := mi_let hF hn23.symm
  have ok := tM_14_s ok t20.toNatClampNeg hn23 (by refine ⟨fun c9 => ?_, fun c9 => ?_⟩ <;> omega)
  have ez24 : y1 = nu23 0 17 := ez18.trans (congrFun (up_k hn23 (by decide)) 17).symm
  have kp25 : (∀ k f : Nat, Nat.testBit 486 (gpM k f) = true → nu23 k f = mu k f) := kp_c 4 hn23 (fun _ => rfl) (by decide) kp19
  refine lv_aload_n hx hb dX12_sellTo_70 rfl (lv_at hl 3 rfl) ?_
  refine va_get (D := (dC, dI)) (ci := 12) (v := .ref (ad 14)) (C := RX12) (T := TX12) (N := 46) hx hb hts inG12 hown hK hP 0 (gM_0 cs ad nu23) rfl 24 (by decide) (hts _ (List.mem_cons_of_mem _ mw_5_65)) (fun _ h9 => h9) rfl dX12_sellTo_71 ?_
  refine lv_iload_n hx hb dX12_sellTo_74 rfl (lv_at hl 2 rfl) ?_
  refine lv_iconst (v := 4) hx hb dX12_sellTo_75 (by decide) ?_
  refine lv_iadd hx hb dX12_sellTo_76 ?_
  refine lv_topi (fun t26 et26 => ?_)
  have hF := mi_let hF et26
  have at26 : t26.toInt = t2.toInt + 4 := by rw [et26]; exact tI_add (rfl : t2.toInt = _) (rfl : (4 : Int32).toInt = 4) (by omega) (by omega)
  refine lv_iload hx hb dX12_sellTo_77 (lv_at hl 0 rfl) ?_
  refine va_iast hx hb hK hP (wR_D nu23 hD) hS 14 0 (gM_14 cs ad nu23) rfl (show vp_in t26 480 from vi_of (by omega) (by omega)) dX12_sellTo_79 (fun H locs hP _ hS => ?_)
  have hc27 : ((t26 : Int32).toNatClampNeg : Int) = t26.toInt := tC_of (by omega)
  refine wr_gen (upd (nu23 14) t26.toNatClampNeg r4) hP (rfl) (fun nu28 hn28 hP => ?_)
  have hF := mi_let hF hn28.symm
  have ok := tM_14_s ok t26.toNatClampNeg hn28 (by refine ⟨fun c9 => ?_, fun c9 => ?_⟩ <;> omega)
  have ez29 : y1 = nu28 0 17 := ez24.trans (congrFun (up_k hn28 (by decide)) 17).symm
  have kp30 : (∀ k f : Nat, Nat.testBit 486 (gpM k f) = true → nu28 k f = mu k f) := kp_c 4 hn28 (fun _ => rfl) (by decide) kp25
  refine lv_iconst (v := 0) hx hb dX12_sellTo_80 (by decide) ?_
  refine lv_istore (lv' := [(6, .int 0), (5, .int r4), (4, .int r3), (3, .int t2), (0, .ref (ad 0)), (1, .int vk), (2, .int vx)]) hx hb dX12_sellTo_81 hl (by decide) rfl (fun ls hl => ?_)
  have loop83 : ∀ (n83 : Nat) (v6_83 : Int32) (nu83_ : Nat → Nat → Int32) (H : Heap) (locs : List Loc) (ls : Array Slot), (7 + 1 - v6_83.toInt).toNat < n83 → (0 ≤ v6_83.toInt ∧ v6_83.toInt ≤ 7) → okR loM hiM nu83_ → va_P (dC, dI) vwCl (wR 21 ad (EM cs ad) nu83_) H → y1 = nu83_ 0 17 → (∀ k f : Nat, Nat.testBit 486 (gpM k f) = true → nu83_ k f = mu k f) → L_sm_sellTo_83_0 r3 r4 t2 vk vx y1 n83 v6_83 nu83_ = fz → va_S (va_A (wR 21 ad (EM cs ad) mu) s.heap.size) s.heap H locs → lv_has ls 7 [(6, .int v6_83), (5, .int r4), (4, .int r3), (3, .int t2), (0, .ref (ad 0)), (1, .int vk), (2, .int vx)] → W p l e (headSpec (wU yX12_sellTo cX12_sellTo 7 none) ({ frames := 2, cells := 0, slots := 0, locals := 43 })).room s m ([.ref (ad 0), .int vk, .int vx] : List Value).toArray below meth c H locs 0 0 (MQ below (va_Qv (fun (xi : Nat → Nat → Int32) => xi = F_sm_sellTo mu vk vx ∧ okR loM hiM xi ∧ (True) ∧ (∀ k f : Nat, Nat.testBit 486 (gpM k f) = true → xi k f = mu k f)) (fun xi t => va_P (dC, dI) vwCl (wR 21 ad (EM cs ad) xi) t.heap) (va_A (wR 21 ad (EM cs ad) mu) s.heap.size)) ([.ref (ad 0), .int vk, .int vx] : List Value).toArray s 0 0 (va_A (wR 21 ad (EM cs ad) mu) s.heap.size)) (F0 m 83 ls []) := by
    intro n83
    induction n83 with
    | zero => intro v6_83 nu83_ H locs ls hm; exact absurd hm (Nat.not_lt_zero _)
    | succ n83 ih83 =>
      intro v6_83 nu83_ H locs ls hm h_v6_83 ok hP ek83_0 kq83_0 hF hS hl
      rw [L_sm_sellTo_83_0] at hF
      refine lv_iload hx hb dX12_sellTo_83 (lv_at hl 0 rfl) ?_
      refine lv_bipush (v := 7) hx hb dX12_sellTo_85 (by decide) ?_
      refine lv_icmp_ge (tgt := 114) hx hb dX12_sellTo_87 (by decide) (fun c_31 => ?_) (fun c_31 => ?_)
      · have hF := (if_pos c_31).symm.trans hF
        have c_31 : 7 ≤ v6_83.toInt := il_le c_31
        refine lv_aload_n hx hb dX12_sellTo_114 rfl (lv_at hl 4 rfl) ?_
        refine lv_dup hx hb dX12_sellTo_115 rfl ?_
        refine va_get (D := (dC, dI)) (ci := 12) (v := .int (nu83_ 0 17)) (C := RX12) (T := TX12) (N := 46) hx hb hts inG12 hown hK hP 0 (gM_0 cs ad nu83_) rfl 17 (by decide) (hts _ (List.mem_cons_of_mem _ mw_5_58)) (fun _ h9 => h9) rfl dX12_sellTo_116 ?_
        refine lq_i y1 ek83_0.symm ?_
        refine lv_iconst (v := 1) hx hb dX12_sellTo_119 (by decide) ?_
        refine lv_iadd hx hb dX12_sellTo_120 ?_
        refine lv_topi (fun t32 et32 => ?_)
        have hF := mi_let hF et32
        have at32 : t32.toInt = y1.toInt + 1 := by rw [et32]; exact tI_add (rfl : y1.toInt = _) (rfl : (1 : Int32).toInt = 1) (by omega) (by omega)
        refine va_put (D := (dC, dI)) (ci := 12) (v := .int t32) (ty := .int) (C := RX12) (T := TX12) (N := 46) hx hb hts inG12 tyX12 tyX12_ok nmX12 hown hK hP (wR_D nu83_ hD) hS 0 (gM_0 cs ad nu83_) rfl 17 (by decide) (hts _ (List.mem_cons_of_mem _ mw_5_58)) (fun _ h9 => h9) rfl (by decide +kernel) rfl rfl (Nat.le_of_ble_eq_true rfl) dX12_sellTo_121 (fun H locs hP _ hS => ?_)
        simp only [List.set_cons_succ, List.set_cons_zero] at hP
        refine wr_gen (upd (nu83_ 0) 17 t32) hP ((hM_0_17 cs ad _ _)) (fun nu33 hn33 hP => ?_)
        have hF := mi_let hF hn33.symm
        have ok := tM_0_17 ok hn33 (by exact ⟨by omega, by omega⟩)
        have kp34 : (∀ k f : Nat, Nat.testBit 486 (gpM k f) = true → nu33 k f = mu k f) := kp_f hn33 (by decide) kq83_0
        have ez35 : t32 = nu33 0 17 := up_v hn33
        refine lv_aload_n hx hb dX12_sellTo_124 rfl (lv_at hl 4 rfl) ?_
        refine va_get (D := (dC, dI)) (ci := 12) (v := .ref (ad 8)) (C := RX12) (T := TX12) (N := 46) hx hb hts inG12 hown hK hP 0 (gM_0 cs ad nu33) rfl 10 (by decide) (hts _ (List.mem_cons_of_mem _ mw_5_51)) (fun _ h9 => h9) rfl dX12_sellTo_125 ?_
        refine lv_iload_n hx hb dX12_sellTo_128 rfl (lv_at hl 6 rfl) ?_
        refine lv_dup2_11 hx hb dX12_sellTo_129 rfl rfl ?_
        refine va_iald hx hb hK hP 8 0 (gM_8 cs ad nu33) rfl (show vp_in vx 7 from vi_of (by omega) (by omega)) dX12_sellTo_130 ?_
        refine lv_topi (fun y36 ey36 => ?_)
        have hF := mi_let hF ey36
        have by36 : y36.toInt = (nu33 8 vx.toNatClampNeg).toInt := congrArg Int32.toInt ey36
        refine lv_iload hx hb dX12_sellTo_131 (lv_at hl 1 rfl) ?_
        refine lv_isub hx hb dX12_sellTo_133 ?_
        refine lv_topi (fun t37 et37 => ?_)
        have hF := mi_let hF et37
        refine va_iast hx hb hK hP (wR_D nu33 hD) hS 8 0 (gM_8 cs ad nu33) rfl (show vp_in vx 7 from vi_of (by omega) (by omega)) dX12_sellTo_134 (fun H locs hP _ hS => ?_)
        refine wr_gen (upd (nu33 8) vx.toNatClampNeg t37) hP (rfl) (fun nu38 hn38 hP => ?_)
        have hF := mi_let hF hn38.symm
        have ok := tM_8_s ok vx.toNatClampNeg hn38
        have ez39 : t32 = nu38 0 17 := ez35.trans (congrFun (up_k hn38 (by decide)) 17).symm
        have kp40 : (∀ k f : Nat, Nat.testBit 486 (gpM k f) = true → nu38 k f = mu k f) := kp_c 3 hn38 (fun _ => rfl) (by decide) kp34
        refine lv_aload_n hx hb dX12_sellTo_135 rfl (lv_at hl 4 rfl) ?_
        refine va_get (D := (dC, dI)) (ci := 12) (v := .ref (ad 8)) (C := RX12) (T := TX12) (N := 46) hx hb hts inG12 hown hK hP 0 (gM_0 cs ad nu38) rfl 10 (by decide) (hts _ (List.mem_cons_of_mem _ mw_5_51)) (fun _ h9 => h9) rfl dX12_sellTo_136 ?_
        refine lv_iload hx hb dX12_sellTo_139 (lv_at hl 2 rfl) ?_
        refine lv_dup2_11 hx hb dX12_sellTo_141 rfl rfl ?_
        refine va_iald hx hb hK hP 8 0 (gM_8 cs ad nu38) rfl (show vp_in r3 7 from vi_of (by omega) (by omega)) dX12_sellTo_142 ?_
        refine lv_topi (fun y41 ey41 => ?_)
        have hF := mi_let hF ey41
        have by41 : y41.toInt = (nu38 8 r3.toNatClampNeg).toInt := congrArg Int32.toInt ey41
        refine lv_iload hx hb dX12_sellTo_143 (lv_at hl 1 rfl) ?_
        refine lv_iadd hx hb dX12_sellTo_145 ?_
        refine lv_topi (fun t42 et42 => ?_)
        have hF := mi_let hF et42
        refine va_iast hx hb hK hP (wR_D nu38 hD) hS 8 0 (gM_8 cs ad nu38) rfl (show vp_in r3 7 from vi_of (by omega) (by omega)) dX12_sellTo_146 (fun H locs hP _ hS => ?_)
        refine wr_gen (upd (nu38 8) r3.toNatClampNeg t42) hP (rfl) (fun nu43 hn43 hP => ?_)
        have hF := mi_let hF hn43.symm
        have ok := tM_8_s ok r3.toNatClampNeg hn43
        have ez44 : t32 = nu43 0 17 := ez39.trans (congrFun (up_k hn43 (by decide)) 17).symm
        have kp45 : (∀ k f : Nat, Nat.testBit 486 (gpM k f) = true → nu43 k f = mu k f) := kp_c 3 hn43 (fun _ => rfl) (by decide) kp40
        refine lv_aload_n hx hb dX12_sellTo_147 rfl (lv_at hl 4 rfl) ?_
        refine lv_iload_n hx hb dX12_sellTo_148 rfl (lv_at hl 5 rfl) ?_
        refine lv_iconst (v := 5) hx hb dX12_sellTo_149 (by decide) ?_
        refine lv_iload_n hx hb dX12_sellTo_150 rfl (lv_at hl 6 rfl) ?_
        have hFc := fr_all (wR_D nu43 hD) hS hA
        refine va_callv (va_runV (As := [.int vk, .int 5, .int vx]) (rest := []) ⟨hx, hb, hml, hown, hts⟩ (sm_setLetter5 l dC dI cs ad nu43 ok H hP ((wR_D nu43 hD).weaken (fun _ _ _ _ => trivial)) vk vx (by have h51 : (5 : Int32).toInt = 5 := rfl; omega) (by have h51 : (5 : Int32).toInt = 5 := rfl; omega)) (cwV 3 hts (wU_V mw_6_106 mw_6_103 mw_6_105 mw_0_45 mw_1_13) rfl rfl rfl (by decide +kernel) ⟨Nat.le_of_ble_eq_true rfl, Nat.le_of_ble_eq_true rfl⟩) ⟨sz_c, va_recv hK hP (ci := 12) (q0 := 0) rfl (gM_0 cs ad nu43), sz_m hK hz⟩ rfl rfl hl.1 rfl (lv_room (Nat.le_of_ble_eq_true rfl)) dX12_sellTo_151 ⟨Nat.zero_le _, Nat.zero_le _⟩) hS (fun q _ h => hFc q h) hFc (fun xi46 t H46 locs ht hvm hw46 hB hz1 hk1 hS => ?_)
        have hP : va_P (dC, dI) vwCl (wR 21 ad (EM cs ad) xi46) H46 := by rw [← ht]; exact hB
        obtain ⟨hfe46, ok, hw46, hkp46_0⟩ := hw46
        have hF := mi_let hF hfe46
        have kp47 : (∀ k f : Nat, Nat.testBit 486 (gpM k f) = true → xi46 k f = mu k f) := kp_t hkp46_0 (by decide) kp45
        refine lv_aload_n hx hb dX12_sellTo_154 rfl (lv_at hl 4 rfl) ?_
        refine lv_iload_n hx hb dX12_sellTo_155 rfl (lv_at hl 5 rfl) ?_
        refine lv_bipush (v := 6) hx hb dX12_sellTo_156 (by decide) ?_
        refine lv_iload hx hb dX12_sellTo_158 (lv_at hl 1 rfl) ?_
        have hFc := fr_all (wR_D xi46 hD) hS hA
        refine va_callv (va_runV (As := [.int vk, .int 6, .int r4]) (rest := []) ⟨hx, hb, hml, hown, hts⟩ (sm_setLetter6 l dC dI cs ad xi46 ok H46 hP ((wR_D xi46 hD).weaken (fun _ _ _ _ => trivial)) vk r4 (by have h51 : (6 : Int32).toInt = 6 := rfl; omega)) (cwV 3 hts (wU_V mw_6_106 mw_6_103 mw_6_105 mw_0_45 mw_1_13) rfl rfl rfl (by decide +kernel) ⟨Nat.le_of_ble_eq_true rfl, Nat.le_of_ble_eq_true rfl⟩) ⟨sz_c, va_recv hK hP (ci := 12) (q0 := 0) rfl (gM_0 cs ad xi46), sz_m hK hz⟩ rfl rfl hl.1 rfl (lv_room (Nat.le_of_ble_eq_true rfl)) dX12_sellTo_160 ⟨Nat.zero_le _, Nat.zero_le _⟩) hS (fun q _ h => hFc q h) hFc (fun xi48 t H48 locs ht hvm hw48 hB hz1 hk1 hS => ?_)
        have hP : va_P (dC, dI) vwCl (wR 21 ad (EM cs ad) xi48) H48 := by rw [← ht]; exact hB
        obtain ⟨hfe48, ok, hw48, hkp48_0⟩ := hw48
        have hF := mi_let hF hfe48
        have kp49 : (∀ k f : Nat, Nat.testBit 486 (gpM k f) = true → xi48 k f = mu k f) := kp_t hkp48_0 (by decide) kp47
        refine lv_aload_n hx hb dX12_sellTo_163 rfl (lv_at hl 4 rfl) ?_
        refine lv_iload_n hx hb dX12_sellTo_164 rfl (lv_at hl 5 rfl) ?_
        refine lv_bipush (v := 7) hx hb dX12_sellTo_165 (by decide) ?_
        refine lv_aload_n hx hb dX12_sellTo_167 rfl (lv_at hl 4 rfl) ?_
        refine lv_iload_n hx hb dX12_sellTo_168 rfl (lv_at hl 5 rfl) ?_
        refine lv_bipush (v := 7) hx hb dX12_sellTo_169 (by decide) ?_
        refine cr_i (va_runV (As := [.int vk, .int 7]) (rest := [.int 7, .int vk, .ref (ad 0)]) ⟨hx, hb, hml, hown, hts⟩ (sm_letterOf l dC dI cs ad xi48 ok H48 hP vk 7 (by have h51 : (7 : Int32).toInt = 7 := rfl; omega)) (cwV 2 hts (wU_V mw_6_48 mw_6_45 mw_6_47 mw_0_38 mw_1_13) rfl rfl rfl (by decide +kernel) ⟨Nat.le_of_ble_eq_true rfl, Nat.le_of_ble_eq_true rfl⟩) ⟨sz_c, va_recv hK hP (ci := 12) (q0 := 0) rfl (gM_0 cs ad xi48), sz_m hK hz⟩ rfl rfl hl.1 rfl (lv_room (Nat.le_of_ble_eq_true rfl)) dX12_sellTo_171 ⟨Nat.zero_le _, Nat.zero_le _⟩) hS (fun r50 hw50 locs hS => ?_)
        obtain ⟨hfe50, hw50⟩ := hw50
        have hF := mi_let hF hfe50
        refine lv_iconst (v := 1) hx hb dX12_sellTo_174 (by decide) ?_
        refine lv_iadd hx hb dX12_sellTo_175 ?_
        refine lv_topi (fun t51 et51 => ?_)
        have hF := mi_let hF et51
        have hFc := fr_all (wR_D xi48 hD) hS hA
        refine va_callv (va_runV (As := [.int vk, .int 7, .int t51]) (rest := []) ⟨hx, hb, hml, hown, hts⟩ (sm_setLetter7 l dC dI cs ad xi48 ok H48 hP ((wR_D xi48 hD).weaken (fun _ _ _ _ => trivial)) vk t51 (by have h51 : (7 : Int32).toInt = 7 := rfl; omega)) (cwV 3 hts (wU_V mw_6_106 mw_6_103 mw_6_105 mw_0_45 mw_1_13) rfl rfl rfl (by decide +kernel) ⟨Nat.le_of_ble_eq_true rfl, Nat.le_of_ble_eq_true rfl⟩) ⟨sz_c, va_recv hK hP (ci := 12) (q0 := 0) rfl (gM_0 cs ad xi48), sz_m hK hz⟩ rfl rfl hl.1 rfl (lv_room (Nat.le_of_ble_eq_true rfl)) dX12_sellTo_176 ⟨Nat.zero_le _, Nat.zero_le _⟩) hS (fun q _ h => hFc q h) hFc (fun xi52 t H52 locs ht hvm hw52 hB hz1 hk1 hS => ?_)
        have hP : va_P (dC, dI) vwCl (wR 21 ad (EM cs ad) xi52) H52 := by rw [← ht]; exact hB
        obtain ⟨hfe52, ok, hw52, hkp52_0⟩ := hw52
        have hF := mi_let hF hfe52
        have kp53 : (∀ k f : Nat, Nat.testBit 486 (gpM k f) = true → xi52 k f = mu k f) := kp_t hkp52_0 (by decide) kp49
        refine lv_aload_n hx hb dX12_sellTo_179 rfl (lv_at hl 4 rfl) ?_
        refine lv_iload_n hx hb dX12_sellTo_180 rfl (lv_at hl 5 rfl) ?_
        refine lv_bipush (v := 8) hx hb dX12_sellTo_181 (by decide) ?_
        refine lv_aload_n hx hb dX12_sellTo_183 rfl (lv_at hl 4 rfl) ?_
        refine va_get (D := (dC, dI)) (ci := 12) (v := .int (xi52 0 14)) (C := RX12) (T := TX12) (N := 46) hx hb hts inG12 hown hK hP 0 (gM_0 cs ad xi52) rfl 14 (by decide) (hts _ (List.mem_cons_of_mem _ mw_5_55)) (fun _ h9 => h9) rfl dX12_sellTo_184 ?_
        refine lv_topi (fun y54 ey54 => ?_)
        have hF := mi_let hF ey54
        have by54 : y54.toInt = (xi52 0 14).toInt := congrArg Int32.toInt ey54
        have hFc := fr_all (wR_D xi52 hD) hS hA
        refine va_callv (va_runV (As := [.int vk, .int 8, .int y54]) (rest := []) ⟨hx, hb, hml, hown, hts⟩ (sm_setLetter8 l dC dI cs ad xi52 ok H52 hP ((wR_D xi52 hD).weaken (fun _ _ _ _ => trivial)) vk y54 (by have h51 : (8 : Int32).toInt = 8 := rfl; omega)) (cwV 3 hts (wU_V mw_6_106 mw_6_103 mw_6_105 mw_0_45 mw_1_13) rfl rfl rfl (by decide +kernel) ⟨Nat.le_of_ble_eq_true rfl, Nat.le_of_ble_eq_true rfl⟩) ⟨sz_c, va_recv hK hP (ci := 12) (q0 := 0) rfl (gM_0 cs ad xi52), sz_m hK hz⟩ rfl rfl hl.1 rfl (lv_room (Nat.le_of_ble_eq_true rfl)) dX12_sellTo_187 ⟨Nat.zero_le _, Nat.zero_le _⟩) hS (fun q _ h => hFc q h) hFc (fun xi55 t H55 locs ht hvm hw55 hB hz1 hk1 hS => ?_)
        have hP : va_P (dC, dI) vwCl (wR 21 ad (EM cs ad) xi55) H55 := by rw [← ht]; exact hB
        obtain ⟨hfe55, ok, hw55, hkp55_0⟩ := hw55
        have hF := mi_let hF hfe55
        have kp56 : (∀ k f : Nat, Nat.testBit 486 (gpM k f) = true → xi55 k f = mu k f) := kp_t hkp55_0 (by decide) kp53
        refine lv_aload_n hx hb dX12_sellTo_190 rfl (lv_at hl 4 rfl) ?_
        refine lv_iload_n hx hb dX12_sellTo_191 rfl (lv_at hl 5 rfl) ?_
        refine lv_bipush (v := 9) hx hb dX12_sellTo_192 (by decide) ?_
        refine lv_iload_n hx hb dX12_sellTo_194 rfl (lv_at hl 6 rfl) ?_
        refine lv_aload_n hx hb dX12_sellTo_195 rfl (lv_at hl 4 rfl) ?_
        refine lv_iload_n hx hb dX12_sellTo_196 rfl (lv_at hl 5 rfl) ?_
        refine lv_iconst (v := 1) hx hb dX12_sellTo_197 (by decide) ?_
        refine cr_i (va_runV (As := [.int vk, .int 1]) (rest := [.int vx, .int 9, .int vk, .ref (ad 0)]) ⟨hx, hb, hml, hown, hts⟩ (sm_letterOf l dC dI cs ad xi55 ok H55 hP vk 1 (by have h51 : (1 : Int32).toInt = 1 := rfl; omega)) (cwV 2 hts (wU_V mw_6_48 mw_6_45 mw_6_47 mw_0_38 mw_1_13) rfl rfl rfl (by decide +kernel) ⟨Nat.le_of_ble_eq_true rfl, Nat.le_of_ble_eq_true rfl⟩) ⟨sz_c, va_recv hK hP (ci := 12) (q0 := 0) rfl (gM_0 cs ad xi55), sz_m hK hz⟩ rfl rfl hl.1 rfl (lv_room (Nat.le_of_ble_eq_true rfl)) dX12_sellTo_198 ⟨Nat.zero_le _, Nat.zero_le _⟩) hS (fun r57 hw57 locs hS => ?_)
        obtain ⟨hfe57, hw57⟩ := hw57
        have hF := mi_let hF hfe57
        refine lv_icmp_ne (tgt := 208) hx hb dX12_sellTo_201 (by decide) (fun c_58 => ?_) (fun c_58 => ?_)
        · have hF := (if_neg c_58).symm.trans hF
          have c_58 : ¬ vx.toInt = r57.toInt := il_ne c_58
          refine lv_iconst (v := 0) hx hb dX12_sellTo_208 (by decide) ?_
          have hFc := fr_all (wR_D xi55 hD) hS hA
          refine va_callv (va_runV (As := [.int vk, .int 9, .int 0]) (rest := []) ⟨hx, hb, hml, hown, hts⟩ (sm_setLetter9 l dC dI cs ad xi55 ok H55 hP ((wR_D xi55 hD).weaken (fun _ _ _ _ => trivial)) vk 0 (by have h51 : (9 : Int32).toInt = 9 := rfl; have h52 : (0 : Int32).toInt = 0 := rfl; omega)) (cwV 3 hts (wU_V mw_6_106 mw_6_103 mw_6_105 mw_0_45 mw_1_13) rfl rfl rfl (by decide +kernel) ⟨Nat.le_of_ble_eq_true rfl, Nat.le_of_ble_eq_true rfl⟩) ⟨sz_c, va_recv hK hP (ci := 12) (q0 := 0) rfl (gM_0 cs ad xi55), sz_m hK hz⟩ rfl rfl hl.1 rfl (lv_room (Nat.le_of_ble_eq_true rfl)) dX12_sellTo_209 ⟨Nat.zero_le _, Nat.zero_le _⟩) hS (fun q _ h => hFc q h) hFc (fun xi59 t H59 locs ht hvm hw59 hB hz1 hk1 hS => ?_)
          have hP : va_P (dC, dI) vwCl (wR 21 ad (EM cs ad) xi59) H59 := by rw [← ht]; exact hB
          obtain ⟨hfe59, ok, hw59, hkp59_0⟩ := hw59
          have hF := mi_let hF hfe59
          have kp60 : (∀ k f : Nat, Nat.testBit 486 (gpM k f) = true → xi59 k f = mu k f) := kp_t hkp59_0 (by decide) kp56
          exact W.vret hx hb hr (fun t ht hW => ⟨⟨xi59, rfl, ⟨hF.trans hfz.symm, ok, trivial, kp60⟩, by first | (subst ht; exact hP) | (rw [ht]; exact hP) | (show va_P (dC, dI) vwCl (wR 21 ad (EM cs ad) xi59) t.heap; rw [ht]; exact hP)⟩, hS.F ht⟩) hS.2.2 dX12_sellTo_212
        · have hF := (if_pos c_58).symm.trans hF
          have c_58 : vx.toInt = r57.toInt := il_eq c_58
          refine lv_iconst (v := 1) hx hb dX12_sellTo_204 (by decide) ?_
          refine lv_goto (tgt := 209) hx hb dX12_sellTo_205 (by decide) ?_
          have hFc := fr_all (wR_D xi55 hD) hS hA
          refine va_callv (va_runV (As := [.int vk, .int 9, .int 1]) (rest := []) ⟨hx, hb, hml, hown, hts⟩ (sm_setLetter9 l dC dI cs ad xi55 ok H55 hP ((wR_D xi55 hD).weaken (fun _ _ _ _ => trivial)) vk 1 (by have h51 : (9 : Int32).toInt = 9 := rfl; have h52 : (1 : Int32).toInt = 1 := rfl; omega)) (cwV 3 hts (wU_V mw_6_106 mw_6_103 mw_6_105 mw_0_45 mw_1_13) rfl rfl rfl (by decide +kernel) ⟨Nat.le_of_ble_eq_true rfl, Nat.le_of_ble_eq_true rfl⟩) ⟨sz_c, va_recv hK hP (ci := 12) (q0 := 0) rfl (gM_0 cs ad xi55), sz_m hK hz⟩ rfl rfl hl.1 rfl (lv_room (Nat.le_of_ble_eq_true rfl)) dX12_sellTo_209 ⟨Nat.zero_le _, Nat.zero_le _⟩) hS (fun q _ h => hFc q h) hFc (fun xi61 t H61 locs ht hvm hw61 hB hz1 hk1 hS => ?_)
          have hP : va_P (dC, dI) vwCl (wR 21 ad (EM cs ad) xi61) H61 := by rw [← ht]; exact hB
          obtain ⟨hfe61, ok, hw61, hkp61_0⟩ := hw61
          have hF := mi_let hF hfe61
          have kp62 : (∀ k f : Nat, Nat.testBit 486 (gpM k f) = true → xi61 k f = mu k f) := kp_t hkp61_0 (by decide) kp56
          exact W.vret hx hb hr (fun t ht hW => ⟨⟨xi61, rfl, ⟨hF.trans hfz.symm, ok, trivial, kp62⟩, by first | (subst ht; exact hP) | (rw [ht]; exact hP) | (show va_P (dC, dI) vwCl (wR 21 ad (EM cs ad) xi61) t.heap; rw [ht]; exact hP)⟩, hS.F ht⟩) hS.2.2 dX12_sellTo_212
      · have hF := (if_neg c_31).symm.trans hF
        have c_31 : v6_83.toInt < 7 := il_nle c_31
        refine lv_aload_n hx hb dX12_sellTo_90 rfl (lv_at hl 4 rfl) ?_
        refine va_get (D := (dC, dI)) (ci := 12) (v := .ref (ad 14)) (C := RX12) (T := TX12) (N := 46) hx hb hts inG12 hown hK hP 0 (gM_0 cs ad nu83_) rfl 24 (by decide) (hts _ (List.mem_cons_of_mem _ mw_5_65)) (fun _ h9 => h9) rfl dX12_sellTo_91 ?_
        refine lv_iload_n hx hb dX12_sellTo_94 rfl (lv_at hl 3 rfl) ?_
        refine lv_iconst (v := 5) hx hb dX12_sellTo_95 (by decide) ?_
        refine lv_iadd hx hb dX12_sellTo_96 ?_
        refine lv_topi (fun t63 et63 => ?_)
        have hF := mi_let hF et63
        have at63 : t63.toInt = t2.toInt + 5 := by rw [et63]; exact tI_add (rfl : t2.toInt = _) (rfl : (5 : Int32).toInt = 5) (by omega) (by omega)
        refine lv_iload hx hb dX12_sellTo_97 (lv_at hl 0 rfl) ?_
        refine lv_iadd hx hb dX12_sellTo_99 ?_
        refine lv_topi (fun t64 et64 => ?_)
        have hF := mi_let hF et64
        have at64 : t64.toInt = t63.toInt + v6_83.toInt := by rw [et64]; exact tI_add (rfl : t63.toInt = _) (rfl : v6_83.toInt = _) (by omega) (by omega)
        refine lv_aload_n hx hb dX12_sellTo_100 rfl (lv_at hl 4 rfl) ?_
        refine va_get (D := (dC, dI)) (ci := 12) (v := .ref (ad 8)) (C := RX12) (T := TX12) (N := 46) hx hb hts inG12 hown hK hP 0 (gM_0 cs ad nu83_) rfl 10 (by decide) (hts _ (List.mem_cons_of_mem _ mw_5_51)) (fun _ h9 => h9) rfl dX12_sellTo_101 ?_
        refine lv_iload hx hb dX12_sellTo_104 (lv_at hl 0 rfl) ?_
        refine va_iald hx hb hK hP 8 0 (gM_8 cs ad nu83_) rfl (show vp_in v6_83 7 from vi_of (by omega) (by omega)) dX12_sellTo_106 ?_
        refine lv_topi (fun y65 ey65 => ?_)
        have hF := mi_let hF ey65
        have by65 : y65.toInt = (nu83_ 8 v6_83.toNatClampNeg).toInt := congrArg Int32.toInt ey65
        refine va_iast hx hb hK hP (wR_D nu83_ hD) hS 14 0 (gM_14 cs ad nu83_) rfl (show vp_in t64 480 from vi_of (by omega) (by omega)) dX12_sellTo_107 (fun H locs hP _ hS => ?_)
        have hc66 : ((t64 : Int32).toNatClampNeg : Int) = t64.toInt := tC_of (by omega)
        refine wr_gen (upd (nu83_ 14) t64.toNatClampNeg y65) hP (rfl) (fun nu67 hn67 hP => ?_)
        have hF := mi_let hF hn67.symm
        have ok := tM_14_s ok t64.toNatClampNeg hn67 (by refine ⟨fun c9 => ?_, fun c9 => ?_⟩ <;> omega)
        have ez68 : y1 = nu67 0 17 := ek83_0.trans (congrFun (up_k hn67 (by decide)) 17).symm
        have ez69 : y65 = nu67 8 v6_83.toNatClampNeg := ey65.trans (congrFun (up_k hn67 (by decide)) v6_83.toNatClampNeg).symm
        have kp70 : (∀ k f : Nat, Nat.testBit 486 (gpM k f) = true → nu67 k f = mu k f) := kp_c 4 hn67 (fun _ => rfl) (by decide) kq83_0
        refine lv_iinc (v := (v6_83 + 1)) (lv' := [(6, .int (v6_83 + 1)), (5, .int r4), (4, .int r3), (3, .int t2), (0, .ref (ad 0)), (1, .int vk), (2, .int vx)]) hx hb dX12_sellTo_108 hl (k := 0) rfl rfl (by decide) rfl (fun ls hl => ?_)
        refine loc_gen (P := fun w9 => lv_has ls 7 [(6, .int w9), (5, .int r4), (4, .int r3), (3, .int t2), (0, .ref (ad 0)), (1, .int vk), (2, .int vx)]) (v6_83 + 1) hl (fun w71 hw71 hl => ?_)
        have hl : lv_has ls 7 [(6, .int w71), (5, .int r4), (4, .int r3), (3, .int t2), (0, .ref (ad 0)), (1, .int vk), (2, .int vx)] := hl
        have hF := mi_let hF hw71.symm
        have aw71 : w71.toInt = v6_83.toInt + 1 := by rw [← hw71]; exact tI_add (rfl : v6_83.toInt = _) (rfl : (1 : Int32).toInt = 1) (by omega) (by omega)
        refine lv_goto (tgt := 83) hx hb dX12_sellTo_111 (by decide) ?_
        exact ih83 (w71) nu67 _ _ _ (by omega) (by exact ⟨by omega, by omega⟩)  ok hP ez68 kp70 hF hS (lv_sub hl [0, 1, 2, 3, 4, 5, 6] rfl)
  exact loop83 10 (0) nu28 _ _ _ (by have h80 : (0 : Int32).toInt = 0 := rfl; omega) (by have h80 : (0 : Int32).toInt = 0 := rfl; exact ⟨by omega, by omega⟩)  ok hP ez29 kp30 hF hS hl
