set_option maxHeartbeats 4000000 in
set_option maxRecDepth 100000 in
/-- sm_sellTo -/
theorem sm_sellTo (l : Launch) (dC : Nat → ClassId) (dI : Nat → Nat → Nat) (cs : Nat → ClassId) (ad : Nat → Nat) (mu : Nat → Nat → Int32) (ok : okR loM hiM mu) (H : Heap) (hP : va_P (dC, dI) vwCl (wR 21 ad (EM cs ad) mu) H) (hD0 : va_D (fun _ => True) (wR 21 ad (EM cs ad) mu)) (vk : Int32) (vx : Int32) (hin0 : 0 ≤ vk.toInt ∧ vk.toInt ≤ 3 ∧ 0 ≤ vx.toInt ∧ vx.toInt ≤ 6) (hin1 : (mu 0 17).toInt ≤ 39) : Met l yX12_sellTo (wU yX12_sellTo cX12_sellTo 7 none) ({ frames := 2, cells := 0, slots := 0, locals := 43 }) (va_Pc [.ref (ad 0), .int vk, .int vx] (sz_P (dC, dI) vwCl (tyM cs) H)) (va_Qv (fun (xi : Nat → Nat → Int32) => xi = F_sm_sellTo mu vk vx ∧ okR loM hiM xi ∧ (True) ∧ (∀ k f : Nat, Nat.testBit 486 (gpM k f) = true → xi k f = mu k f)) (fun xi t => va_P (dC, dI) vwCl (wR 21 ad (EM cs ad) xi) t.heap) (va_A (wR 21 ad (EM cs ad) mu) H.size)) 0 0 (va_A (wR 21 ad (EM cs ad) mu) H.size) := by
  refine Met.ofW (cc := cX12_sellTo) (maxL := 7) (ret := none) (by decide) rfl ?_
  intro p e s m args below meth c s₁ B hml hv
  obtain ⟨rfl, hh, hK, hz⟩ := hv
  have hx := B.exec
  have hb := B.bytes
  have hr := B.returns
  have hts := atoms_spec (ws := (wU yX12_sellTo cX12_sellTo 7 none)) B.pre
  have hown : s.vm.findClass RX12 = some m.cls := findClass_of_methodNamed B.named
  have hlocks := B.notSynchronized
  subst hh
  have hD := hD0.self (sz := s.heap.size)
  have hA : ∀ q : Nat, s.heap.size ≤ q → (va_A (wR 21 ad (EM cs ad) mu) s.heap.size) q := fun q h => Or.inr h
  have hS : va_S (va_A (wR 21 ad (EM cs ad) mu) s.heap.size) s.heap s.heap [] := va_S.rf
  have hl := lv_entry ([.ref (ad 0), .int vk, .int vx]) (n := 7) (Nat.le_of_ble_eq_true rfl)
  rw [lg_entry_eq]
  generalize (lg_sl ([.ref (ad 0), .int vk, .int vx]) ++ List.replicate (7 - (lg_sl ([.ref (ad 0), .int vk, .int vx])).length) Slot.unset).toArray = ls at hl ⊢
  have hl : lv_has ls 7 [(0, .ref (ad 0)), (1, .int vk), (2, .int vx)] := hl
  obtain ⟨fz, hfz⟩ : ∃ z, F_sm_sellTo mu vk vx = z := ⟨_, rfl⟩
  have hF := hfz
  unfold F_sm_sellTo at hF
  refine lv_bipush (v := 12) hx hb dX12_sellTo_0 (by decide) ?_
  refine lv_aload_n hx hb dX12_sellTo_2 rfl (lv_at hl 0 rfl) ?_
  refine va_get (D := (dC, dI)) (ci := 12) (v := .int (mu 0 17)) (C := RX12) (T := TX12) (N := 46) hx hb hts inG12 hown hK hP 0 (gM_0 cs ad mu) rfl 17 (by decide) (hts _ (List.mem_cons_of_mem _ mw_5_58)) (fun _ h9 => h9) rfl dX12_sellTo_3 ?_
  refine lv_topi (fun y1 ey1 => ?_)
  have hF := mi_let hF ey1
  have by1 : y1.toInt = (mu 0 17).toInt := congrArg Int32.toInt ey1
  have gy1 : 0 ≤ y1.toInt ∧ y1.toInt ≤ 40 := by rw [ey1]; exact rM_0_17 ok
  refine lv_imul hx hb dX12_sellTo_6 ?_
  refine lv_topi (fun t2 et2 => ?_)
  have hF := mi_let hF et2
  have at2 : t2.toInt = 12 * y1.toInt := by rw [et2]; exact tI_mul (rfl : (12 : Int32).toInt = 12) (rfl : y1.toInt = _) (by omega) (by omega)
  refine lv_istore_n (lv' := [(3, .int t2), (0, .ref (ad 0)), (1, .int vk), (2, .int vx)]) hx hb dX12_sellTo_7 rfl hl (by decide) rfl (fun ls hl => ?_)
  refine lv_aload_n hx hb dX12_sellTo_8 rfl (lv_at hl 1 rfl) ?_
  refine lv_iload_n hx hb dX12_sellTo_9 rfl (lv_at hl 2 rfl) ?_
  refine lv_iconst (v := 5) hx hb dX12_sellTo_10 (by decide) ?_
  refine cr_i (va_runV (As := [.int vk, .int 5]) (rest := []) ⟨hx, hb, hml, hown, hts⟩ (sm_letterOf5 l dC dI cs ad mu ok s.heap hP vk (by have h51 : (5 : Int32).toInt = 5 := rfl; omega)) (cwV 2 hts (wU_V mw_6_48 mw_6_45 mw_6_47 mw_0_38 mw_1_13) rfl rfl rfl (by decide +kernel) ⟨Nat.le_of_ble_eq_true rfl, Nat.le_of_ble_eq_true rfl⟩) ⟨sz_c, va_recv hK hP (ci := 12) (q0 := 0) rfl (gM_0 cs ad mu), sz_m hK hz⟩ rfl rfl hl.1 rfl (lv_room (Nat.le_of_ble_eq_true rfl)) dX12_sellTo_11 ⟨Nat.zero_le _, Nat.zero_le _⟩) hS (fun r3 hw3 locs hS => ?_)
  obtain ⟨hfe3, hw3⟩ := hw3
  have hF := mi_let hF hfe3
  have gr3 : 0 ≤ r3.toInt ∧ r3.toInt ≤ 6 := hw3
  refine lv_istore (lv' := [(4, .int r3), (3, .int t2), (0, .ref (ad 0)), (1, .int vk), (2, .int vx)]) hx hb dX12_sellTo_14 hl (by decide) rfl (fun ls hl => ?_)
  refine lv_aload_n hx hb dX12_sellTo_16 rfl (lv_at hl 2 rfl) ?_
  refine lv_iload_n hx hb dX12_sellTo_17 rfl (lv_at hl 3 rfl) ?_
  refine cr_i (va_runV (As := [.int vk]) (rest := []) ⟨hx, hb, hml, hown, hts⟩ (sm_priceOf l dC dI cs ad mu ok s.heap hP vk (by omega)) (cwV 1 hts (wU_V mw_6_122 mw_6_119 mw_6_121 mw_0_48 mw_1_13) rfl rfl rfl (by decide +kernel) ⟨Nat.le_of_ble_eq_true rfl, Nat.le_of_ble_eq_true rfl⟩) ⟨sz_c, va_recv hK hP (ci := 12) (q0 := 0) rfl (gM_0 cs ad mu), sz_m hK hz⟩ rfl rfl hl.1 rfl (lv_room (Nat.le_of_ble_eq_true rfl)) dX12_sellTo_18 ⟨Nat.zero_le _, Nat.zero_le _⟩) hS (fun r4 hw4 locs hS => ?_)
  obtain ⟨hfe4, hw4⟩ := hw4
  have hF := mi_let hF hfe4
  refine lv_istore (lv' := [(5, .int r4), (4, .int r3), (3, .int t2), (0, .ref (ad 0)), (1, .int vk), (2, .int vx)]) hx hb dX12_sellTo_21 hl (by decide) rfl (fun ls hl => ?_)
  refine lv_aload_n hx hb dX12_sellTo_23 rfl (lv_at hl 3 rfl) ?_
  refine va_get (D := (dC, dI)) (ci := 12) (v := .ref (ad 14)) (C := RX12) (T := TX12) (N := 46) hx hb hts inG12 hown hK hP 0 (gM_0 cs ad mu) rfl 24 (by decide) (hts _ (List.mem_cons_of_mem _ mw_5_65)) (fun _ h9 => h9) rfl dX12_sellTo_24 ?_
  refine lv_iload_n hx hb dX12_sellTo_27 rfl (lv_at hl 2 rfl) ?_
  refine lv_iload_n hx hb dX12_sellTo_28 rfl (lv_at hl 4 rfl) ?_
  refine va_iast hx hb hK hP (wR_D mu hD) hS 14 0 (gM_14 cs ad mu) rfl (show vp_in t2 480 from vi_of (by omega) (by omega)) dX12_sellTo_29 (fun H locs hP _ hS => ?_)
  have hc5 : ((t2 : Int32).toNatClampNeg : Int) = t2.toInt := tC_of (by omega)
  refine wr_gen (upd (mu 14) t2.toNatClampNeg vk) hP (rfl) (fun nu6 hn6 hP => ?_)
  have hF := mi_let hF hn6.symm
  have ok := tM_14_s ok t2.toNatClampNeg hn6 (by refine ⟨fun c9 => ?_, fun c9 => ?_⟩ <;> omega)
  have ez7 : y1 = nu6 0 17 := ey1.trans (congrFun (up_k hn6 (by decide)) 17).symm
  have kp8 : (∀ k f : Nat, Nat.testBit 486 (gpM k f) = true → nu6 k f = mu k f) := kp_c 4 hn6 (fun _ => rfl) (by decide) (fun _ _ _ => rfl)
  refine lv_aload_n hx hb dX12_sellTo_30 rfl (lv_at hl 3 rfl) ?_
  refine va_get (D := (dC, dI)) (ci := 12) (v := .ref (ad 14)) (C := RX12) (T := TX12) (N := 46) hx hb hts inG12 hown hK hP 0 (gM_0 cs ad nu6) rfl 24 (by decide) (hts _ (List.mem_cons_of_mem _ mw_5_65)) (fun _ h9 => h9) rfl dX12_sellTo_31 ?_
  refine lv_iload_n hx hb dX12_sellTo_34 rfl (lv_at hl 2 rfl) ?_
  refine lv_iconst (v := 1) hx hb dX12_sellTo_35 (by decide) ?_
  refine lv_iadd hx hb dX12_sellTo_36 ?_
  refine lv_topi (fun t9 et9 => ?_)
  have hF := mi_let hF et9
  have at9 : t9.toInt = t2.toInt + 1 := by rw [et9]; exact va1 (by omega)
  refine lv_iload hx hb dX12_sellTo_37 (lv_at hl 1 rfl) ?_
  refine va_iast hx hb hK hP (wR_D nu6 hD) hS 14 0 (gM_14 cs ad nu6) rfl (show vp_in t9 480 from vi_of (by omega) (by omega)) dX12_sellTo_39 (fun H locs hP _ hS => ?_)
  have hc10 : ((t9 : Int32).toNatClampNeg : Int) = t9.toInt := tC_of (by omega)
  refine wr_gen (upd (nu6 14) t9.toNatClampNeg r3) hP (rfl) (fun nu11 hn11 hP => ?_)
  have hF := mi_let hF hn11.symm
  have ok := tM_14_s ok t9.toNatClampNeg hn11 (by refine ⟨fun c9 => ?_, fun c9 => ?_⟩ <;> omega)
  have ez12 : y1 = nu11 0 17 := ez7.trans (congrFun (up_k hn11 (by decide)) 17).symm
  have kp13 : (∀ k f : Nat, Nat.testBit 486 (gpM k f) = true → nu11 k f = mu k f) := kp_c 4 hn11 (fun _ => rfl) (by decide) kp8
  refine lv_aload_n hx hb dX12_sellTo_40 rfl (lv_at hl 3 rfl) ?_
  refine va_get (D := (dC, dI)) (ci := 12) (v := .ref (ad 14)) (C := RX12) (T := TX12) (N := 46) hx hb hts inG12 hown hK hP 0 (gM_0 cs ad nu11) rfl 24 (by decide) (hts _ (List.mem_cons_of_mem _ mw_5_65)) (fun _ h9 => h9) rfl dX12_sellTo_41 ?_
  refine lv_iload_n hx hb dX12_sellTo_44 rfl (lv_at hl 2 rfl) ?_
  refine lv_iconst (v := 2) hx hb dX12_sellTo_45 (by decide) ?_
  refine lv_iadd hx hb dX12_sellTo_46 ?_
  refine lv_topi (fun t14 et14 => ?_)
  have hF := mi_let hF et14
  have at14 : t14.toInt = t2.toInt + 2 := by rw [et14]; exact tI_add (rfl : t2.toInt = _) (rfl : (2 : Int32).toInt = 2) (by omega) (by omega)
  refine lv_aload_n hx hb dX12_sellTo_47 rfl (lv_at hl 3 rfl) ?_
  refine lv_iload_n hx hb dX12_sellTo_48 rfl (lv_at hl 4 rfl) ?_
  refine lv_bipush (v := 6) hx hb dX12_sellTo_49 (by decide) ?_
  refine cr_i (va_runV (As := [.int vk, .int 6]) (rest := [.int t14, .ref (ad 14)]) ⟨hx, hb, hml, hown, hts⟩ (sm_letterOf l dC dI cs ad nu11 ok H hP vk 6 (by have h51 : (6 : Int32).toInt = 6 := rfl; omega)) (cwV 2 hts (wU_V mw_6_48 mw_6_45 mw_6_47 mw_0_38 mw_1_13) rfl rfl rfl (by decide +kernel) ⟨Nat.le_of_ble_eq_true rfl, Nat.le_of_ble_eq_true rfl⟩) ⟨sz_c, va_recv hK hP (ci := 12) (q0 := 0) rfl (gM_0 cs ad nu11), sz_m hK hz⟩ rfl rfl hl.1 rfl (lv_room (Nat.le_of_ble_eq_true rfl)) dX12_sellTo_51 ⟨Nat.zero_le _, Nat.zero_le _⟩) hS (fun r15 hw15 locs hS => ?_)
  obtain ⟨hfe15, hw15⟩ := hw15
  have hF := mi_let hF hfe15
  refine va_iast hx hb hK hP (wR_D nu11 hD) hS 14 0 (gM_14 cs ad nu11) rfl (show vp_in t14 480 from vi_of (by omega) (by omega)) dX12_sellTo_54 (fun H locs hP _ hS => ?_)
  have hc16 : ((t14 : Int32).toNatClampNeg : Int) = t14.toInt := tC_of (by omega)
  refine wr_gen (upd (nu11 14) t14.toNatClampNeg r15) hP (rfl) (fun nu17 hn17 hP => ?_)
  have hF := mi_let hF hn17.symm
  have ok := tM_14_s ok t14.toNatClampNeg hn17 (by refine ⟨fun c9 => ?_, fun c9 => ?_⟩ <;> omega)
  have ez18 : y1 = nu17 0 17 := ez12.trans (congrFun (up_k hn17 (by decide)) 17).symm
  have kp19 : (∀ k f : Nat, Nat.testBit 486 (gpM k f) = true → nu17 k f = mu k f) := kp_c 4 hn17 (fun _ => rfl) (by decide) kp13
  refine lv_aload_n hx hb dX12_sellTo_55 rfl (lv_at hl 3 rfl) ?_
  refine va_get (D := (dC, dI)) (ci := 12) (v := .ref (ad 14)) (C := RX12) (T := TX12) (N := 46) hx hb hts inG12 hown hK hP 0 (gM_0 cs ad nu17) rfl 24 (by decide) (hts _ (List.mem_cons_of_mem _ mw_5_65)) (fun _ h9 => h9) rfl dX12_sellTo_56 ?_
  refine lv_iload_n hx hb dX12_sellTo_59 rfl (lv_at hl 2 rfl) ?_
  refine lv_iconst (v := 3) hx hb dX12_sellTo_60 (by decide) ?_
  refine lv_iadd hx hb dX12_sellTo_61 ?_
  refine lv_topi (fun t20 et20 => ?_)
  have hF := mi_let hF et20
  have at20 : t20.toInt = t2.toInt + 3 := by rw [et20]; exact tI_add (rfl : t2.toInt = _) (rfl : (3 : Int32).toInt = 3) (by omega) (by omega)
  refine lv_aload_n hx hb dX12_sellTo_62 rfl (lv_at hl 3 rfl) ?_
  refine lv_iload_n hx hb dX12_sellTo_63 rfl (lv_at hl 4 rfl) ?_
  refine lv_bipush (v := 8) hx hb dX12_sellTo_64 (by decide) ?_
  refine cr_i (va_runV (As := [.int vk, .int 8]) (rest := [.int t20, .ref (ad 14)]) ⟨hx, hb, hml, hown, hts⟩ (sm_letterOf l dC dI cs ad nu17 ok H hP vk 8 (by have h51 : (8 : Int32).toInt = 8 := rfl; omega)) (cwV 2 hts (wU_V mw_6_48 mw_6_45 mw_6_47 mw_0_38 mw_1_13) rfl rfl rfl (by decide +kernel) ⟨Nat.le_of_ble_eq_true rfl, Nat.le_of_ble_eq_true rfl⟩) ⟨sz_c, va_recv hK hP (ci := 12) (q0 := 0) rfl (gM_0 cs ad nu17), sz_m hK hz⟩ rfl rfl hl.1 rfl (lv_room (Nat.le_of_ble_eq_true rfl)) dX12_sellTo_66 ⟨Nat.zero_le _, Nat.zero_le _⟩) hS (fun r21 hw21 locs hS => ?_)
  obtain ⟨hfe21, hw21⟩ := hw21
  have hF := mi_let hF hfe21
  refine va_iast hx hb hK hP (wR_D nu17 hD) hS 14 0 (gM_14 cs ad nu17) rfl (show vp_in t20 480 from vi_of (by omega) (by omega)) dX12_sellTo_69 (fun H locs hP _ hS => ?_)
  have hc22 : ((t20 : Int32).toNatClampNeg : Int) = t20.toInt := tC_of (by omega)
  refine wr_gen (upd (nu17 14) t20.toNatClampNeg r21) hP (rfl) (fun nu23 hn23 hP => ?_)
  have hF := mi_let hF hn23.symm
  have ok := tM_14_s ok t20.toNatClampNeg hn23 (by refine ⟨fun c9 => ?_, fun c9 => ?_⟩ <;> omega)
  have ez24 : y1 = nu23 0 17 := ez18.trans (congrFun (up_k hn23 (by decide)) 17).symm
  have kp25 : (∀ k f : Nat, Nat.testBit 486 (gpM k f) = true → nu23 k f = mu k f) := kp_c 4 hn23 (fun _ => rfl) (by decide) kp19
  refine lv_aload_n hx hb dX12_sellTo_70 rfl (lv_at hl 3 rfl) ?_
  refine va_get (D := (dC, dI)) (ci := 12) (v := .ref (ad 14)) (C := RX12) (T := TX12) (N := 46) hx hb hts inG12 hown hK hP 0 (gM_0 cs ad nu23) rfl 24 (by decide) (hts _ (List.mem_cons_of_mem _ mw_5_65)) (fun _ h9 => h9) rfl dX12_sellTo_71 ?_
  refine lv_iload_n hx hb dX12_sellTo_74 rfl (lv_at hl 2 rfl) ?_
  refine lv_iconst (v := 4) hx hb dX12_sellTo_75 (by decide) ?_
  refine lv_iadd hx hb dX12_sellTo_76 ?_
  refine lv_topi (fun t26 et26 => ?_)
  have hF := mi_let hF et26
  have at26 : t26.toInt = t2.toInt + 4 := by rw [et26]; exact tI_add (rfl : t2.toInt = _) (rfl : (4 : Int32).toInt = 4) (by omega) (by omega)
  refine lv_iload hx hb dX12_sellTo_77 (lv_at hl 0 rfl) ?_
  refine va_iast hx hb hK hP (wR_D nu23 hD) hS 14 0 (gM_14 cs ad nu23) rfl (show vp_in t26 480 from vi_of (by omega) (by omega)) dX12_sellTo_79 (fun H locs hP _ hS => ?_)
  have hc27 : ((t26 : Int32).toNatClampNeg : Int) = t26.toInt := tC_of (by omega)
  refine wr_gen (upd (nu23 14) t26.toNatClampNeg r4) hP (rfl) (fun nu28 hn28 hP => ?_)
  have hF := mi_let hF hn28.symm
  have ok := tM_14_s ok t26.toNatClampNeg hn28 (by refine ⟨fun c9 => ?_, fun c9 => ?_⟩ <;> omega)
  have ez29 : y1 = nu28 0 17 := ez24.trans (congrFun (up_k hn28 (by decide)) 17).symm
  have kp30 : (∀ k f : Nat, Nat.testBit 486 (gpM k f) = true → nu28 k f = mu k f) := kp_c 4 hn28 (fun _ => rfl) (by decide) kp25
  refine lv_iconst (v := 0) hx hb dX12_sellTo_80 (by decide) ?_
  refine lv_istore (lv' := [(6, .int 0), (5, .int r4), (4, .int r3), (3, .int t2), (0, .ref (ad 0)), (1, .int vk), (2, .int vx)]) hx hb dX12_sellTo_81 hl (by decide) rfl (fun ls hl => ?_)
  have loop83 : ∀ (n83 : Nat) (v6_83 : Int32) (nu83_ : Nat → Nat → Int32) (H : Heap) (locs : List Loc) (ls : Array Slot), (7 + 1 - v6_83.toInt).toNat < n83 → (0 ≤ v6_83.toInt ∧ v6_83.toInt ≤ 7) → okR loM hiM nu83_ → va_P (dC, dI) vwCl (wR 21 ad (EM cs ad) nu83_) H → y1 = nu83_ 0 17 → (∀ k f : Nat, Nat.testBit 486 (gpM k f) = true → nu83_ k f = mu k f) → L_sm_sellTo_83_0 r3 r4 t2 vk vx y1 n83 v6_83 nu83_ = fz → va_S (va_A (wR 21 ad (EM cs ad) mu) s.heap.size) s.heap H locs → lv_has ls 7 [(6, .int v6_83), (5, .int r4), (4, .int r3), (3, .int t2), (0, .ref (ad 0)), (1, .int vk), (2, .int vx)] → W p l e (headSpec (wU yX12_sellTo cX12_sellTo 7 none) ({ frames := 2, cells := 0, slots := 0, locals := 43 })).room s m ([.ref (ad 0), .int vk, .int vx] : List Value).toArray below meth c H locs 0 0 (MQ below (va_Qv (fun (xi : Nat → Nat → Int32) => xi = F_sm_sellTo mu vk vx ∧ okR loM hiM xi ∧ (True) ∧ (∀ k f : Nat, Nat.testBit 486 (gpM k f) = true → xi k f = mu k f)) (fun xi t => va_P (dC, dI) vwCl (wR 21 ad (EM cs ad) xi) t.heap) (va_A (wR 21 ad (EM cs ad) mu) s.heap.size)) ([.ref (ad 0), .int vk, .int vx] : List Value).toArray s 0 0 (va_A (wR 21 ad (EM cs ad) mu) s.heap.size)) (F0 m 83 ls []) := by
    intro n83
    induction n83 with
    | zero => intro v6_83 nu83_ H locs ls hm; exact absurd hm (Nat.not_lt_zero _)
    | succ n83 ih83 =>
      intro v6_83 nu83_ H locs ls hm_83 h_v6_83 ok hP ek83_0 kq83_0 hF hS hl
      rw [L_sm_sellTo_83_0] at hF
      refine lv_iload hx hb dX12_sellTo_83 (lv_at hl 0 rfl) ?_
      refine lv_bipush (v := 7) hx hb dX12_sellTo_85 (by decide) ?_
      refine lv_icmp_ge (tgt := 114) hx hb dX12_sellTo_87 (by decide) (fun c_31 => ?_) (fun c_31 => ?_)
      · have hF := (if_pos c_31).symm.trans hF
        have c_31 : 7 ≤ v6_83.toInt := il_le c_31
        refine lv_aload_n hx hb dX12_sellTo_114 rfl (lv_at hl 4 rfl) ?_
        refine lv_dup hx hb dX12_sellTo_115 rfl ?_
        refine va_get (D := (dC, dI)) (ci := 12) (v := .int (nu83_ 0 17)) (C := RX12) (T := TX12) (N := 46) hx hb hts inG12 hown hK hP 0 (gM_0 cs ad nu83_) rfl 17 (by decide) (hts _ (List.mem_cons_of_mem _ mw_5_58)) (fun _ h9 => h9) rfl dX12_sellTo_116 ?_
        refine lq_i y1 ek83_0.symm ?_
        refine lv_iconst (v := 1) hx hb dX12_sellTo_119 (by decide) ?_
        refine lv_iadd hx hb dX12_sellTo_120 ?_
        refine lv_topi (fun t32 et32 => ?_)
        have hF := mi_let hF et32
        have at32 : t32.toInt = y1.toInt + 1 := by rw [et32]; exact va1 (by omega)
        refine va_put (D := (dC, dI)) (ci := 12) (v := .int t32) (ty := .int) (C := RX12) (T := TX12) (N := 46) hx hb hts inG12 tyX12 tyX12_ok nmX12 hown hK hP (wR_D nu83_ hD) hS 0 (gM_0 cs ad nu83_) rfl 17 (by decide) (hts _ (List.mem_cons_of_mem _ mw_5_58)) (fun _ h9 => h9) rfl (by decide +kernel) rfl rfl (Nat.le_of_ble_eq_true rfl) dX12_sellTo_121 (fun H locs hP _ hS => ?_)
        simp only [List.set_cons_succ, List.set_cons_zero] at hP
        refine wr_gen (upd (nu83_ 0) 17 t32) hP ((hM_0_17 cs ad _ _)) (fun nu33 hn33 hP => ?_)
        have hF := mi_let hF hn33.symm
        have ok := tM_0_17 ok hn33 (by omega)
        have kp34 : (∀ k f : Nat, Nat.testBit 486 (gpM k f) = true → nu33 k f = mu k f) := kp_f hn33 (by decide) kq83_0
        have ez35 : t32 = nu33 0 17 := up_v hn33
        refine lv_aload_n hx hb dX12_sellTo_124 rfl (lv_at hl 4 rfl) ?_
        refine va_get (D := (dC, dI)) (ci := 12) (v := .ref (ad 8)) (C := RX12) (T := TX12) (N := 46) hx hb hts inG12 hown hK hP 0 (gM_0 cs ad nu33) rfl 10 (by decide) (hts _ (List.mem_cons_of_mem _ mw_5_51)) (fun _ h9 => h9) rfl dX12_sellTo_125 ?_
        refine lv_iload_n hx hb dX12_sellTo_128 rfl (lv_at hl 6 rfl) ?_
        refine lv_dup2_11 hx hb dX12_sellTo_129 rfl rfl ?_
        refine va_iald hx hb hK hP 8 0 (gM_8 cs ad nu33) rfl (show vp_in vx 7 from vi_of (by omega) (by omega)) dX12_sellTo_130 ?_
        refine lv_topi (fun y36 ey36 => ?_)
        have hF := mi_let hF ey36
        have by36 : y36.toInt = (nu33 8 vx.toNatClampNeg).toInt := congrArg Int32.toInt ey36
        refine lv_iload hx hb dX12_sellTo_131 (lv_at hl 1 rfl) ?_
        refine lv_isub hx hb dX12_sellTo_133 ?_
        refine lv_topi (fun t37 et37 => ?_)
        have hF := mi_let hF et37
        refine va_iast hx hb hK hP (wR_D nu33 hD) hS 8 0 (gM_8 cs ad nu33) rfl (show vp_in vx 7 from vi_of (by omega) (by omega)) dX12_sellTo_134 (fun H locs hP _ hS => ?_)
        refine wr_gen (upd (nu33 8) vx.toNatClampNeg t37) hP (rfl) (fun nu38 hn38 hP => ?_)
        have hF := mi_let hF hn38.symm
        have ok := tM_8_s ok vx.toNatClampNeg hn38
        have ez39 : t32 = nu38 0 17 := ez35.trans (congrFun (up_k hn38 (by decide)) 17).symm
        have kp40 : (∀ k f : Nat, Nat.testBit 486 (gpM k f) = true → nu38 k f = mu k f) := kp_c 3 hn38 (fun _ => rfl) (by decide) kp34
        refine lv_aload_n hx hb dX12_sellTo_135 rfl (lv_at hl 4 rfl) ?_
        refine va_get (D := (dC, dI)) (ci := 12) (v := .ref (ad 8)) (C := RX12) (T := TX12) (N := 46) hx hb hts inG12 hown hK hP 0 (gM_0 cs ad nu38) rfl 10 (by decide) (hts _ (List.mem_cons_of_mem _ mw_5_51)) (fun _ h9 => h9) rfl dX12_sellTo_136 ?_
        refine lv_iload hx hb dX12_sellTo_139 (lv_at hl 2 rfl) ?_
        refine lv_dup2_11 hx hb dX12_sellTo_141 rfl rfl ?_
        refine va_iald hx hb hK hP 8 0 (gM_8 cs ad nu38) rfl (show vp_in r3 7 from vi_of (by omega) (by omega)) dX12_sellTo_142 ?_
        refine lv_topi (fun y41 ey41 => ?_)
        have hF := mi_let hF ey41
        have by41 : y41.toInt = (nu38 8 r3.toNatClampNeg).toInt := congrArg Int32.toInt ey41
        refine lv_iload hx hb dX12_sellTo_143 (lv_at hl 1 rfl) ?_
        refine lv_iadd hx hb dX12_sellTo_145 ?_
        refine lv_topi (fun t42 et42 => ?_)
        have hF := mi_let hF et42
        refine va_iast hx hb hK hP (wR_D nu38 hD) hS 8 0 (gM_8 cs ad nu38) rfl (show vp_in r3 7 from vi_of (by omega) (by omega)) dX12_sellTo_146 (fun H locs hP _ hS => ?_)
        refine wr_gen (upd (nu38 8) r3.toNatClampNeg t42) hP (rfl) (fun nu43 hn43 hP => ?_)
        have hF := mi_let hF hn43.symm
        have ok := tM_8_s ok r3.toNatClampNeg hn43
        have ez44 : t32 = nu43 0 17 := ez39.trans (congrFun (up_k hn43 (by decide)) 17).symm
        have kp45 : (∀ k f : Nat, Nat.testBit 486 (gpM k f) = true → nu43 k f = mu k f) := kp_c 3 hn43 (fun _ => rfl) (by decide) kp40
        refine lv_aload_n hx hb dX12_sellTo_147 rfl (lv_at hl 4 rfl) ?_
        refine lv_iload_n hx hb dX12_sellTo_148 rfl (lv_at hl 5 rfl) ?_
        refine lv_iconst (v := 5) hx hb dX12_sellTo_149 (by decide) ?_
        refine lv_iload_n hx hb dX12_sellTo_150 rfl (lv_at hl 6 rfl) ?_
        have hFc := fr_all (wR_D nu43 hD) hS hA
        refine va_callv (va_runV (As := [.int vk, .int 5, .int vx]) (rest := []) ⟨hx, hb, hml, hown, hts⟩ (sm_setLetter5 l dC dI cs ad nu43 ok H hP ((wR_D nu43 hD).weaken (fun _ _ _ _ => trivial)) vk vx (by have h51 : (5 : Int32).toInt = 5 := rfl; omega) (by have h51 : (5 : Int32).toInt = 5 := rfl; omega)) (cwV 3 hts (wU_V mw_6_106 mw_6_103 mw_6_105 mw_0_45 mw_1_13) rfl rfl rfl (by decide +kernel) ⟨Nat.le_of_ble_eq_true rfl, Nat.le_of_ble_eq_true rfl⟩) ⟨sz_c, va_recv hK hP (ci := 12) (q0 := 0) rfl (gM_0 cs ad nu43), sz_m hK hz⟩ rfl rfl hl.1 rfl (lv_room (Nat.le_of_ble_eq_true rfl)) dX12_sellTo_151 ⟨Nat.zero_le _, Nat.zero_le _⟩) hS (fun q _ h => hFc q h) hFc (fun xi46 t H46 locs ht hvm hw46 hB hz1 hk1 hS => ?_)
        have hP : va_P (dC, dI) vwCl (wR 21 ad (EM cs ad) xi46) H46 := by rw [← ht]; exact hB
        obtain ⟨hfe46, ok, hw46, hkp46_0⟩ := hw46
        have hF := mi_let hF hfe46
        have kp47 : (∀ k f : Nat, Nat.testBit 486 (gpM k f) = true → xi46 k f = mu k f) := kp_t hkp46_0 (by decide) kp45
        refine lv_aload_n hx hb dX12_sellTo_154 rfl (lv_at hl 4 rfl) ?_
        refine lv_iload_n hx hb dX12_sellTo_155 rfl (lv_at hl 5 rfl) ?_
        refine lv_bipush (v := 6) hx hb dX12_sellTo_156 (by decide) ?_
        refine lv_iload hx hb dX12_sellTo_158 (lv_at hl 1 rfl) ?_
        have hFc := fr_all (wR_D xi46 hD) hS hA
        refine va_callv (va_runV (As := [.int vk, .int 6, .int r4]) (rest := []) ⟨hx, hb, hml, hown, hts⟩ (sm_setLetter6 l dC dI cs ad xi46 ok H46 hP ((wR_D xi46 hD).weaken (fun _ _ _ _ => trivial)) vk r4 (by have h51 : (6 : Int32).toInt = 6 := rfl; omega)) (cwV 3 hts (wU_V mw_6_106 mw_6_103 mw_6_105 mw_0_45 mw_1_13) rfl rfl rfl (by decide +kernel) ⟨Nat.le_of_ble_eq_true rfl, Nat.le_of_ble_eq_true rfl⟩) ⟨sz_c, va_recv hK hP (ci := 12) (q0 := 0) rfl (gM_0 cs ad xi46), sz_m hK hz⟩ rfl rfl hl.1 rfl (lv_room (Nat.le_of_ble_eq_true rfl)) dX12_sellTo_160 ⟨Nat.zero_le _, Nat.zero_le _⟩) hS (fun q _ h => hFc q h) hFc (fun xi48 t H48 locs ht hvm hw48 hB hz1 hk1 hS => ?_)
        have hP : va_P (dC, dI) vwCl (wR 21 ad (EM cs ad) xi48) H48 := by rw [← ht]; exact hB
        obtain ⟨hfe48, ok, hw48, hkp48_0⟩ := hw48
        have hF := mi_let hF hfe48
        have kp49 : (∀ k f : Nat, Nat.testBit 486 (gpM k f) = true → xi48 k f = mu k f) := kp_t hkp48_0 (by decide) kp47
        refine lv_aload_n hx hb dX12_sellTo_163 rfl (lv_at hl 4 rfl) ?_
        refine lv_iload_n hx hb dX12_sellTo_164 rfl (lv_at hl 5 rfl) ?_
        refine lv_bipush (v := 7) hx hb dX12_sellTo_165 (by decide) ?_
        refine lv_aload_n hx hb dX12_sellTo_167 rfl (lv_at hl 4 rfl) ?_
        refine lv_iload_n hx hb dX12_sellTo_168 rfl (lv_at hl 5 rfl) ?_
        refine lv_bipush (v := 7) hx hb dX12_sellTo_169 (by decide) ?_
        refine cr_i (va_runV (As := [.int vk, .int 7]) (rest := [.int 7, .int vk, .ref (ad 0)]) ⟨hx, hb, hml, hown, hts⟩ (sm_letterOf l dC dI cs ad xi48 ok H48 hP vk 7 (by have h51 : (7 : Int32).toInt = 7 := rfl; omega)) (cwV 2 hts (wU_V mw_6_48 mw_6_45 mw_6_47 mw_0_38 mw_1_13) rfl rfl rfl (by decide +kernel) ⟨Nat.le_of_ble_eq_true rfl, Nat.le_of_ble_eq_true rfl⟩) ⟨sz_c, va_recv hK hP (ci := 12) (q0 := 0) rfl (gM_0 cs ad xi48), sz_m hK hz⟩ rfl rfl hl.1 rfl (lv_room (Nat.le_of_ble_eq_true rfl)) dX12_sellTo_171 ⟨Nat.zero_le _, Nat.zero_le _⟩) hS (fun r50 hw50 locs hS => ?_)
        obtain ⟨hfe50, hw50⟩ := hw50
        have hF := mi_let hF hfe50
        refine lv_iconst (v := 1) hx hb dX12_sellTo_174 (by decide) ?_
        refine lv_iadd hx hb dX12_sellTo_175 ?_
        refine lv_topi (fun t51 et51 => ?_)
        have hF := mi_let hF et51
        have hFc := fr_all (wR_D xi48 hD) hS hA
        refine va_callv (va_runV (As := [.int vk, .int 7, .int t51]) (rest := []) ⟨hx, hb, hml, hown, hts⟩ (sm_setLetter7 l dC dI cs ad xi48 ok H48 hP ((wR_D xi48 hD).weaken (fun _ _ _ _ => trivial)) vk t51 (by have h51 : (7 : Int32).toInt = 7 := rfl; omega)) (cwV 3 hts (wU_V mw_6_106 mw_6_103 mw_6_105 mw_0_45 mw_1_13) rfl rfl rfl (by decide +kernel) ⟨Nat.le_of_ble_eq_true rfl, Nat.le_of_ble_eq_true rfl⟩) ⟨sz_c, va_recv hK hP (ci := 12) (q0 := 0) rfl (gM_0 cs ad xi48), sz_m hK hz⟩ rfl rfl hl.1 rfl (lv_room (Nat.le_of_ble_eq_true rfl)) dX12_sellTo_176 ⟨Nat.zero_le _, Nat.zero_le _⟩) hS (fun q _ h => hFc q h) hFc (fun xi52 t H52 locs ht hvm hw52 hB hz1 hk1 hS => ?_)
        have hP : va_P (dC, dI) vwCl (wR 21 ad (EM cs ad) xi52) H52 := by rw [← ht]; exact hB
        obtain ⟨hfe52, ok, hw52, hkp52_0⟩ := hw52
        have hF := mi_let hF hfe52
        have kp53 : (∀ k f : Nat, Nat.testBit 486 (gpM k f) = true → xi52 k f = mu k f) := kp_t hkp52_0 (by decide) kp49
        refine lv_aload_n hx hb dX12_sellTo_179 rfl (lv_at hl 4 rfl) ?_
        refine lv_iload_n hx hb dX12_sellTo_180 rfl (lv_at hl 5 rfl) ?_
        refine lv_bipush (v := 8) hx hb dX12_sellTo_181 (by decide) ?_
        refine lv_aload_n hx hb dX12_sellTo_183 rfl (lv_at hl 4 rfl) ?_
        refine va_get (D := (dC, dI)) (ci := 12) (v := .int (xi52 0 14)) (C := RX12) (T := TX12) (N := 46) hx hb hts inG12 hown hK hP 0 (gM_0 cs ad xi52) rfl 14 (by decide) (hts _ (List.mem_cons_of_mem _ mw_5_55)) (fun _ h9 => h9) rfl dX12_sellTo_184 ?_
        refine lv_topi (fun y54 ey54 => ?_)
        have hF := mi_let hF ey54
        have by54 : y54.toInt = (xi52 0 14).toInt := congrArg Int32.toInt ey54
        have hFc := fr_all (wR_D xi52 hD) hS hA
        refine va_callv (va_runV (As := [.int vk, .int 8, .int y54]) (rest := []) ⟨hx, hb, hml, hown, hts⟩ (sm_setLetter8 l dC dI cs ad xi52 ok H52 hP ((wR_D xi52 hD).weaken (fun _ _ _ _ => trivial)) vk y54 (by have h51 : (8 : Int32).toInt = 8 := rfl; omega)) (cwV 3 hts (wU_V mw_6_106 mw_6_103 mw_6_105 mw_0_45 mw_1_13) rfl rfl rfl (by decide +kernel) ⟨Nat.le_of_ble_eq_true rfl, Nat.le_of_ble_eq_true rfl⟩) ⟨sz_c, va_recv hK hP (ci := 12) (q0 := 0) rfl (gM_0 cs ad xi52), sz_m hK hz⟩ rfl rfl hl.1 rfl (lv_room (Nat.le_of_ble_eq_true rfl)) dX12_sellTo_187 ⟨Nat.zero_le _, Nat.zero_le _⟩) hS (fun q _ h => hFc q h) hFc (fun xi55 t H55 locs ht hvm hw55 hB hz1 hk1 hS => ?_)
        have hP : va_P (dC, dI) vwCl (wR 21 ad (EM cs ad) xi55) H55 := by rw [← ht]; exact hB
        obtain ⟨hfe55, ok, hw55, hkp55_0⟩ := hw55
        have hF := mi_let hF hfe55
        have kp56 : (∀ k f : Nat, Nat.testBit 486 (gpM k f) = true → xi55 k f = mu k f) := kp_t hkp55_0 (by decide) kp53
        refine lv_aload_n hx hb dX12_sellTo_190 rfl (lv_at hl 4 rfl) ?_
        refine lv_iload_n hx hb dX12_sellTo_191 rfl (lv_at hl 5 rfl) ?_
        refine lv_bipush (v := 9) hx hb dX12_sellTo_192 (by decide) ?_
        refine lv_iload_n hx hb dX12_sellTo_194 rfl (lv_at hl 6 rfl) ?_
        refine lv_aload_n hx hb dX12_sellTo_195 rfl (lv_at hl 4 rfl) ?_
        refine lv_iload_n hx hb dX12_sellTo_196 rfl (lv_at hl 5 rfl) ?_
        refine lv_iconst (v := 1) hx hb dX12_sellTo_197 (by decide) ?_
        refine cr_i (va_runV (As := [.int vk, .int 1]) (rest := [.int vx, .int 9, .int vk, .ref (ad 0)]) ⟨hx, hb, hml, hown, hts⟩ (sm_letterOf l dC dI cs ad xi55 ok H55 hP vk 1 (by have h51 : (1 : Int32).toInt = 1 := rfl; omega)) (cwV 2 hts (wU_V mw_6_48 mw_6_45 mw_6_47 mw_0_38 mw_1_13) rfl rfl rfl (by decide +kernel) ⟨Nat.le_of_ble_eq_true rfl, Nat.le_of_ble_eq_true rfl⟩) ⟨sz_c, va_recv hK hP (ci := 12) (q0 := 0) rfl (gM_0 cs ad xi55), sz_m hK hz⟩ rfl rfl hl.1 rfl (lv_room (Nat.le_of_ble_eq_true rfl)) dX12_sellTo_198 ⟨Nat.zero_le _, Nat.zero_le _⟩) hS (fun r57 hw57 locs hS => ?_)
        obtain ⟨hfe57, hw57⟩ := hw57
        have hF := mi_let hF hfe57
        refine lv_icmp_ne (tgt := 208) hx hb dX12_sellTo_201 (by decide) (fun c_58 => ?_) (fun c_58 => ?_)
        · have hF := (if_neg c_58).symm.trans hF
          have c_58 : ¬ vx.toInt = r57.toInt := il_ne c_58
          refine lv_iconst (v := 0) hx hb dX12_sellTo_208 (by decide) ?_
          have hFc := fr_all (wR_D xi55 hD) hS hA
          refine va_callv (va_runV (As := [.int vk, .int 9, .int 0]) (rest := []) ⟨hx, hb, hml, hown, hts⟩ (sm_setLetter9 l dC dI cs ad xi55 ok H55 hP ((wR_D xi55 hD).weaken (fun _ _ _ _ => trivial)) vk 0 (by have h51 : (9 : Int32).toInt = 9 := rfl; have h52 : (0 : Int32).toInt = 0 := rfl; omega)) (cwV 3 hts (wU_V mw_6_106 mw_6_103 mw_6_105 mw_0_45 mw_1_13) rfl rfl rfl (by decide +kernel) ⟨Nat.le_of_ble_eq_true rfl, Nat.le_of_ble_eq_true rfl⟩) ⟨sz_c, va_recv hK hP (ci := 12) (q0 := 0) rfl (gM_0 cs ad xi55), sz_m hK hz⟩ rfl rfl hl.1 rfl (lv_room (Nat.le_of_ble_eq_true rfl)) dX12_sellTo_209 ⟨Nat.zero_le _, Nat.zero_le _⟩) hS (fun q _ h => hFc q h) hFc (fun xi59 t H59 locs ht hvm hw59 hB hz1 hk1 hS => ?_)
          have hP : va_P (dC, dI) vwCl (wR 21 ad (EM cs ad) xi59) H59 := by rw [← ht]; exact hB
          obtain ⟨hfe59, ok, hw59, hkp59_0⟩ := hw59
          have hF := mi_let hF hfe59
          have kp60 : (∀ k f : Nat, Nat.testBit 486 (gpM k f) = true → xi59 k f = mu k f) := kp_t hkp59_0 (by decide) kp56
          exact W.vret hx hb hr (fun t ht hW => ⟨⟨xi59, rfl, ⟨hF.trans hfz.symm, ok, trivial, kp60⟩, by first | (subst ht; exact hP) | (rw [ht]; exact hP) | (show va_P (dC, dI) vwCl (wR 21 ad (EM cs ad) xi59) t.heap; rw [ht]; exact hP)⟩, hS.F ht⟩) hS.2.2 dX12_sellTo_212
        · have hF := (if_pos c_58).symm.trans hF
          have c_58 : vx.toInt = r57.toInt := il_eq c_58
          refine lv_iconst (v := 1) hx hb dX12_sellTo_204 (by decide) ?_
          refine lv_goto (tgt := 209) hx hb dX12_sellTo_205 (by decide) ?_
          have hFc := fr_all (wR_D xi55 hD) hS hA
          refine va_callv (va_runV (As := [.int vk, .int 9, .int 1]) (rest := []) ⟨hx, hb, hml, hown, hts⟩ (sm_setLetter9 l dC dI cs ad xi55 ok H55 hP ((wR_D xi55 hD).weaken (fun _ _ _ _ => trivial)) vk 1 (by have h51 : (9 : Int32).toInt = 9 := rfl; have h52 : (1 : Int32).toInt = 1 := rfl; omega)) (cwV 3 hts (wU_V mw_6_106 mw_6_103 mw_6_105 mw_0_45 mw_1_13) rfl rfl rfl (by decide +kernel) ⟨Nat.le_of_ble_eq_true rfl, Nat.le_of_ble_eq_true rfl⟩) ⟨sz_c, va_recv hK hP (ci := 12) (q0 := 0) rfl (gM_0 cs ad xi55), sz_m hK hz⟩ rfl rfl hl.1 rfl (lv_room (Nat.le_of_ble_eq_true rfl)) dX12_sellTo_209 ⟨Nat.zero_le _, Nat.zero_le _⟩) hS (fun q _ h => hFc q h) hFc (fun xi61 t H61 locs ht hvm hw61 hB hz1 hk1 hS => ?_)
          have hP : va_P (dC, dI) vwCl (wR 21 ad (EM cs ad) xi61) H61 := by rw [← ht]; exact hB
          obtain ⟨hfe61, ok, hw61, hkp61_0⟩ := hw61
          have hF := mi_let hF hfe61
          have kp62 : (∀ k f : Nat, Nat.testBit 486 (gpM k f) = true → xi61 k f = mu k f) := kp_t hkp61_0 (by decide) kp56
          exact W.vret hx hb hr (fun t ht hW => ⟨⟨xi61, rfl, ⟨hF.trans hfz.symm, ok, trivial, kp62⟩, by first | (subst ht; exact hP) | (rw [ht]; exact hP) | (show va_P (dC, dI) vwCl (wR 21 ad (EM cs ad) xi61) t.heap; rw [ht]; exact hP)⟩, hS.F ht⟩) hS.2.2 dX12_sellTo_212
      · have hF := (if_neg c_31).symm.trans hF
        have c_31 : v6_83.toInt < 7 := il_nle c_31
        refine lv_aload_n hx hb dX12_sellTo_90 rfl (lv_at hl 4 rfl) ?_
        refine va_get (D := (dC, dI)) (ci := 12) (v := .ref (ad 14)) (C := RX12) (T := TX12) (N := 46) hx hb hts inG12 hown hK hP 0 (gM_0 cs ad nu83_) rfl 24 (by decide) (hts _ (List.mem_cons_of_mem _ mw_5_65)) (fun _ h9 => h9) rfl dX12_sellTo_91 ?_
        refine lv_iload_n hx hb dX12_sellTo_94 rfl (lv_at hl 3 rfl) ?_
        refine lv_iconst (v := 5) hx hb dX12_sellTo_95 (by decide) ?_
        refine lv_iadd hx hb dX12_sellTo_96 ?_
        refine lv_topi (fun t63 et63 => ?_)
        have hF := mi_let hF et63
        have at63 : t63.toInt = t2.toInt + 5 := by rw [et63]; exact tI_add (rfl : t2.toInt = _) (rfl : (5 : Int32).toInt = 5) (by omega) (by omega)
        refine lv_iload hx hb dX12_sellTo_97 (lv_at hl 0 rfl) ?_
        refine lv_iadd hx hb dX12_sellTo_99 ?_
        refine lv_topi (fun t64 et64 => ?_)
        have hF := mi_let hF et64
        have at64 : t64.toInt = t63.toInt + v6_83.toInt := by rw [et64]; exact tI_add (rfl : t63.toInt = _) (rfl : v6_83.toInt = _) (by omega) (by omega)
        refine lv_aload_n hx hb dX12_sellTo_100 rfl (lv_at hl 4 rfl) ?_
        refine va_get (D := (dC, dI)) (ci := 12) (v := .ref (ad 8)) (C := RX12) (T := TX12) (N := 46) hx hb hts inG12 hown hK hP 0 (gM_0 cs ad nu83_) rfl 10 (by decide) (hts _ (List.mem_cons_of_mem _ mw_5_51)) (fun _ h9 => h9) rfl dX12_sellTo_101 ?_
        refine lv_iload hx hb dX12_sellTo_104 (lv_at hl 0 rfl) ?_
        refine va_iald hx hb hK hP 8 0 (gM_8 cs ad nu83_) rfl (show vp_in v6_83 7 from vi_of (by omega) (by omega)) dX12_sellTo_106 ?_
        refine lv_topi (fun y65 ey65 => ?_)
        have hF := mi_let hF ey65
        have by65 : y65.toInt = (nu83_ 8 v6_83.toNatClampNeg).toInt := congrArg Int32.toInt ey65
        refine va_iast hx hb hK hP (wR_D nu83_ hD) hS 14 0 (gM_14 cs ad nu83_) rfl (show vp_in t64 480 from vi_of (by omega) (by omega)) dX12_sellTo_107 (fun H locs hP _ hS => ?_)
        have hc66 : ((t64 : Int32).toNatClampNeg : Int) = t64.toInt := tC_of (by omega)
        refine wr_gen (upd (nu83_ 14) t64.toNatClampNeg y65) hP (rfl) (fun nu67 hn67 hP => ?_)
        have hF := mi_let hF hn67.symm
        have ok := tM_14_s ok t64.toNatClampNeg hn67 (by refine ⟨fun c9 => ?_, fun c9 => ?_⟩ <;> omega)
        have ez68 : y1 = nu67 0 17 := ek83_0.trans (congrFun (up_k hn67 (by decide)) 17).symm
        have ez69 : y65 = nu67 8 v6_83.toNatClampNeg := ey65.trans (congrFun (up_k hn67 (by decide)) v6_83.toNatClampNeg).symm
        have kp70 : (∀ k f : Nat, Nat.testBit 486 (gpM k f) = true → nu67 k f = mu k f) := kp_c 4 hn67 (fun _ => rfl) (by decide) kq83_0
        refine lv_iinc (v := (v6_83 + 1)) (lv' := [(6, .int (v6_83 + 1)), (5, .int r4), (4, .int r3), (3, .int t2), (0, .ref (ad 0)), (1, .int vk), (2, .int vx)]) hx hb dX12_sellTo_108 hl (k := 0) rfl rfl (by decide) rfl (fun ls hl => ?_)
        refine loc_gen (P := fun w9 => lv_has ls 7 [(6, .int w9), (5, .int r4), (4, .int r3), (3, .int t2), (0, .ref (ad 0)), (1, .int vk), (2, .int vx)]) (v6_83 + 1) hl (fun w71 hw71 hl => ?_)
        have hl : lv_has ls 7 [(6, .int w71), (5, .int r4), (4, .int r3), (3, .int t2), (0, .ref (ad 0)), (1, .int vk), (2, .int vx)] := hl
        have hF := mi_let hF hw71.symm
        have aw71 : w71.toInt = v6_83.toInt + 1 := by rw [← hw71]; first | exact va1 (Int.lt_of_le_of_lt h_v6_83.2 (by decide)) | exact va1 (by omega)
        refine lv_goto (tgt := 83) hx hb dX12_sellTo_111 (by decide) ?_
        exact ih83 (w71) nu67 _ _ _ (by first | exact ms_up hm_83 aw71 h_v6_83.2 | exact ms_lt hm_83 (by omega) (by omega) | omega) (by first | exact rg_up aw71 h_v6_83 (by omega) | omega)  ok hP ez68 kp70 hF hS (lv_sub hl [0, 1, 2, 3, 4, 5, 6] rfl)
  exact loop83 10 (0) nu28 _ _ _ (by have h80 : (0 : Int32).toInt = 0 := rfl; omega) (by have h80 : (0 : Int32).toInt = 0 := rfl; exact ⟨by omega, by omega⟩)  ok hP ez29 kp30 hF hS hl
set_option maxHeartbeats 4000000 in
set_option maxRecDepth 100000 in
/-- sm_askedLetter -/
theorem sm_askedLetter (l : Launch) (dC : Nat → ClassId) (dI : Nat → Nat → Nat) (cs : Nat → ClassId) (ad : Nat → Nat) (mu : Nat → Nat → Int32) (ok : okR loM hiM mu) (H : Heap) (hP : va_P (dC, dI) vwCl (wR 21 ad (EM cs ad) mu) H) (hD0 : va_D (fun _ => True) (wR 21 ad (EM cs ad) mu)) (vk : Int32) : Met l yX12_askedLetter (wU yX12_askedLetter cX12_askedLetter 2 (some .int)) ({ frames := 1, cells := 0, slots := 0, locals := 21 }) (va_Pc [.ref (ad 0), .int vk] (sz_P (dC, dI) vwCl (tyM cs) H)) (va_Qi (fun (z : Int32) (xi : Nat → Nat → Int32) => (z, xi) = F_sm_askedLetter mu vk ∧ ((z = 0 ∧ xi = mu ∧ (0 ≤ vk.toInt ∧ vk.toInt < (mu 0 15).toInt ∧ (mu 0 15).toInt ≤ 4)) ∨ (z.toInt < 0 ∧ okR loM hiM xi ∧ (∀ k f : Nat, Nat.testBit 510 (gpM k f) = true → xi k f = mu k f)))) (fun xi t => va_P (dC, dI) vwCl (wR 21 ad (EM cs ad) xi) t.heap) (va_A (wR 21 ad (EM cs ad) mu) H.size)) 0 0 (va_A (wR 21 ad (EM cs ad) mu) H.size) := by
  refine Met.ofW (cc := cX12_askedLetter) (maxL := 2) (ret := (some .int)) (by decide) rfl ?_
  intro p e s m args below meth c s₁ B hml hv
  obtain ⟨rfl, hh, hK, hz⟩ := hv
  have hx := B.exec
  have hb := B.bytes
  have hr := B.returns
  have hts := atoms_spec (ws := (wU yX12_askedLetter cX12_askedLetter 2 (some .int))) B.pre
  have hown : s.vm.findClass RX12 = some m.cls := findClass_of_methodNamed B.named
  have hlocks := B.notSynchronized
  subst hh
  have hD := hD0.self (sz := s.heap.size)
  have hA : ∀ q : Nat, s.heap.size ≤ q → (va_A (wR 21 ad (EM cs ad) mu) s.heap.size) q := fun q h => Or.inr h
  have hS : va_S (va_A (wR 21 ad (EM cs ad) mu) s.heap.size) s.heap s.heap [] := va_S.rf
  have hl := lv_entry ([.ref (ad 0), .int vk]) (n := 2) (Nat.le_of_ble_eq_true rfl)
  rw [lg_entry_eq]
  generalize (lg_sl ([.ref (ad 0), .int vk]) ++ List.replicate (2 - (lg_sl ([.ref (ad 0), .int vk])).length) Slot.unset).toArray = ls at hl ⊢
  have hl : lv_has ls 2 [(0, .ref (ad 0)), (1, .int vk)] := hl
  obtain ⟨fz, hfz⟩ : ∃ z, F_sm_askedLetter mu vk = z := ⟨_, rfl⟩
  have hF := hfz
  unfold F_sm_askedLetter at hF
  refine lv_iload_n hx hb dX12_askedLetter_0 rfl (lv_at hl 1 rfl) ?_
  refine lv_if_ge (tgt := 8) hx hb dX12_askedLetter_1 (by decide) (fun c_1 => ?_) (fun c_1 => ?_)
  · have hF := (if_pos c_1).symm.trans hF
    have c_1 : 0 ≤ vk.toInt := il_le c_1
    refine lv_iload_n hx hb dX12_askedLetter_8 rfl (lv_at hl 1 rfl) ?_
    refine lv_aload_n hx hb dX12_askedLetter_9 rfl (lv_at hl 0 rfl) ?_
    refine va_get (D := (dC, dI)) (ci := 12) (v := .int (mu 0 15)) (C := RX12) (T := TX12) (N := 46) hx hb hts inG12 hown hK hP 0 (gM_0 cs ad mu) rfl 15 (by decide) (hts _ (List.mem_cons_of_mem _ mw_5_56)) (fun _ h9 => h9) rfl dX12_askedLetter_10 ?_
    refine lv_topi (fun y2 ey2 => ?_)
    have hF := mi_let hF ey2
    have by2 : y2.toInt = (mu 0 15).toInt := congrArg Int32.toInt ey2
    have gy2 : 0 ≤ y2.toInt ∧ y2.toInt ≤ 4 := by rw [ey2]; exact rM_0_15 ok
    refine lv_icmp_lt (tgt := 24) hx hb dX12_askedLetter_13 (by decide) (fun c_3 => ?_) (fun c_3 => ?_)
    · have hF := (if_pos c_3).symm.trans hF
      have c_3 : vk.toInt < y2.toInt := il_lt c_3
      refine lv_iconst (v := 0) hx hb dX12_askedLetter_24 (by decide) ?_
      exact W.iret (v := 0) hx hb hr (fun t ht hW => ⟨⟨0, mu, rfl, ⟨hF.trans hfz.symm, Or.inl ⟨rfl, rfl, (by first | assumption | (have hb4 := congrArg Int32.toInt ey2; omega))⟩⟩, by first | (subst ht; exact hP) | (rw [ht]; exact hP) | (show va_P (dC, dI) vwCl (wR 21 ad (EM cs ad) mu) t.heap; rw [ht]; exact hP)⟩, hS.F ht⟩) hS.2.2 dX12_askedLetter_25
    · have hF := (if_neg c_3).symm.trans hF
      have c_3 : y2.toInt ≤ vk.toInt := il_nlt c_3
      refine lv_aload_n hx hb dX12_askedLetter_16 rfl (lv_at hl 0 rfl) ?_
      refine lv_iconst (v := 2) hx hb dX12_askedLetter_17 (by decide) ?_
      have hFc := fr_all (wR_D mu hD) hS hA
      refine va_calli (va_runV (As := [.int 2]) (rest := []) ⟨hx, hb, hml, hown, hts⟩ (sm_meet l dC dI cs ad mu ok s.heap hP ((wR_D mu hD).weaken (fun _ _ _ _ => trivial)) 2 (by have h50 : (2 : Int32).toInt = 2 := rfl; omega)) (cwV 1 hts (wU_V mw_5_193 mw_5_190 mw_5_192 mw_0_26 mw_1_13) rfl rfl rfl (by decide +kernel) ⟨Nat.le_of_ble_eq_true rfl, Nat.le_of_ble_eq_true rfl⟩) ⟨sz_c, va_recv hK hP (ci := 12) (q0 := 0) rfl (gM_0 cs ad mu), sz_m hK hz⟩ rfl rfl hl.1 rfl (lv_room (Nat.le_of_ble_eq_true rfl)) dX12_askedLetter_18 ⟨Nat.zero_le _, Nat.zero_le _⟩) hS (fun q _ h => hFc q h) hFc (fun r5 xi5 t H5 locs ht hvm hw5 hB hz1 hk1 hS => ?_)
      have hP : va_P (dC, dI) vwCl (wR 21 ad (EM cs ad) xi5) H5 := by rw [← ht]; exact hB
      obtain ⟨hfe5, ok, hw5, hkp5_0⟩ := hw5
      have hF := mi_letp hF hfe5
      have kp6 : (∀ k f : Nat, Nat.testBit 510 (gpM k f) = true → xi5 k f = mu k f) := kp_t hkp5_0 (by decide) (fun _ _ _ => rfl)
      have gr5 : -3 ≤ r5.toInt ∧ r5.toInt ≤ -3 := hw5
      refine lv_goto (tgt := 25) hx hb dX12_askedLetter_21 (by decide) ?_
      exact W.iret (v := r5) hx hb hr (fun t ht hW => ⟨⟨r5, xi5, rfl, ⟨hF.trans hfz.symm, Or.inr ⟨by omega, ok, kp6⟩⟩, by first | (subst ht; exact hP) | (rw [ht]; exact hP) | (show va_P (dC, dI) vwCl (wR 21 ad (EM cs ad) xi5) t.heap; rw [ht]; exact hP)⟩, hS.F ht⟩) hS.2.2 dX12_askedLetter_25
  · have hF := (if_neg c_1).symm.trans hF
    have c_1 : vk.toInt < 0 := il_nle c_1
    refine lv_iconst (v := (-1)) hx hb dX12_askedLetter_4 (by decide) ?_
    refine lv_goto (tgt := 25) hx hb dX12_askedLetter_5 (by decide) ?_
    exact W.iret (v := (-1)) hx hb hr (fun t ht hW => ⟨⟨(-1), mu, rfl, ⟨hF.trans hfz.symm, Or.inr ⟨by decide, ok, (fun _ _ _ => rfl)⟩⟩, by first | (subst ht; exact hP) | (rw [ht]; exact hP) | (show va_P (dC, dI) vwCl (wR 21 ad (EM cs ad) mu) t.heap; rw [ht]; exact hP)⟩, hS.F ht⟩) hS.2.2 dX12_askedLetter_25
set_option maxHeartbeats 4000000 in
set_option maxRecDepth 100000 in
/-- qm_sell -/
theorem qm_sell (l : Launch) (dC : Nat → ClassId) (dI : Nat → Nat → Nat) (cs : Nat → ClassId) (ad : Nat → Nat) (mu : Nat → Nat → Int32) (ok : okR loM hiM mu) (H : Heap) (hP : va_P (dC, dI) vwCl (wR 21 ad (EM cs ad) mu) H) (hD0 : va_D (fun _ => True) (wR 21 ad (EM cs ad) mu)) (vk : Int32) (vx : Int32) : Met l yX12_sell (wU yX12_sell cX12_sell 5 (some .int)) ({ frames := 3, cells := 0, slots := 0, locals := 73 }) (va_Pc [.ref (ad 0), .int vk, .int vx] (sz_P (dC, dI) vwCl (tyM cs) H)) (va_Qi (fun (z : Int32) (xi : Nat → Nat → Int32) => (z, xi) = F_qm_sell mu vk vx ∧ okR loM hiM xi ∧ (True) ∧ (∀ k f : Nat, Nat.testBit 486 (gpM k f) = true → xi k f = mu k f)) (fun xi t => va_P (dC, dI) vwCl (wR 21 ad (EM cs ad) xi) t.heap) (va_A (wR 21 ad (EM cs ad) mu) H.size)) 0 0 (va_A (wR 21 ad (EM cs ad) mu) H.size) := by
  refine Met.ofW (cc := cX12_sell) (maxL := 5) (ret := (some .int)) (by decide) rfl ?_
  intro p e s m args below meth c s₁ B hml hv
  obtain ⟨rfl, hh, hK, hz⟩ := hv
  have hx := B.exec
  have hb := B.bytes
  have hr := B.returns
  have hts := atoms_spec (ws := (wU yX12_sell cX12_sell 5 (some .int))) B.pre
  have hown : s.vm.findClass RX12 = some m.cls := findClass_of_methodNamed B.named
  have hlocks := B.notSynchronized
  subst hh
  have hD := hD0.self (sz := s.heap.size)
  have hA : ∀ q : Nat, s.heap.size ≤ q → (va_A (wR 21 ad (EM cs ad) mu) s.heap.size) q := fun q h => Or.inr h
  have hS : va_S (va_A (wR 21 ad (EM cs ad) mu) s.heap.size) s.heap s.heap [] := va_S.rf
  have hl := lv_entry ([.ref (ad 0), .int vk, .int vx]) (n := 5) (Nat.le_of_ble_eq_true rfl)
  rw [lg_entry_eq]
  generalize (lg_sl ([.ref (ad 0), .int vk, .int vx]) ++ List.replicate (5 - (lg_sl ([.ref (ad 0), .int vk, .int vx])).length) Slot.unset).toArray = ls at hl ⊢
  have hl : lv_has ls 5 [(0, .ref (ad 0)), (1, .int vk), (2, .int vx)] := hl
  obtain ⟨fz, hfz⟩ : ∃ z, F_qm_sell mu vk vx = z := ⟨_, rfl⟩
  have hF := hfz
  unfold F_qm_sell at hF
  refine lv_iload_n hx hb dX12_sell_0 rfl (lv_at hl 1 rfl) ?_
  refine lv_if_lt (tgt := 12) hx hb dX12_sell_1 (by decide) (fun c_1 => ?_) (fun c_1 => ?_)
  · have hF := (if_pos c_1).symm.trans hF
    have c_1 : vk.toInt < 0 := il_lt c_1
    refine lv_iconst (v := (-1)) hx hb dX12_sell_12 (by decide) ?_
    refine lv_goto (tgt := 21) hx hb dX12_sell_13 (by decide) ?_
    refine lv_istore_n (lv' := [(3, .int (-1)), (0, .ref (ad 0)), (1, .int vk), (2, .int vx)]) hx hb dX12_sell_21 rfl hl (by decide) rfl (fun ls hl => ?_)
    refine lv_iload_n hx hb dX12_sell_22 rfl (lv_at hl 0 rfl) ?_
    refine lv_if_ge (tgt := 28) hx hb dX12_sell_23 (by decide) (fun c => absurd c (by decide)) (fun _ => ?_)
    refine lv_iload_n hx hb dX12_sell_26 rfl (lv_at hl 0 rfl) ?_
    exact W.iret (v := (-1)) hx hb hr (fun t ht hW => ⟨⟨(-1), mu, rfl, ⟨hF.trans hfz.symm, ok, trivial, (fun _ _ _ => rfl)⟩, by first | (subst ht; exact hP) | (rw [ht]; exact hP) | (show va_P (dC, dI) vwCl (wR 21 ad (EM cs ad) mu) t.heap; rw [ht]; exact hP)⟩, hS.F ht⟩) hS.2.2 dX12_sell_27
  · have hF := (if_neg c_1).symm.trans hF
    have c_1 : 0 ≤ vk.toInt := il_nlt c_1
    refine lv_aload_n hx hb dX12_sell_4 rfl (lv_at hl 0 rfl) ?_
    refine lv_iload_n hx hb dX12_sell_5 rfl (lv_at hl 2 rfl) ?_
    refine cr_i (va_runV (As := [.int vx]) (rest := []) ⟨hx, hb, hml, hown, hts⟩ (sm_isOne l dC dI cs ad mu ok s.heap hP vx) (cwV 1 hts (wU_V mw_6_40 mw_6_37 mw_6_39 mw_0_36 mw_1_13) rfl rfl rfl (by decide +kernel) ⟨Nat.le_of_ble_eq_true rfl, Nat.le_of_ble_eq_true rfl⟩) ⟨sz_c, va_recv hK hP (ci := 12) (q0 := 0) rfl (gM_0 cs ad mu), sz_m hK hz⟩ rfl rfl hl.1 rfl (lv_room (Nat.le_of_ble_eq_true rfl)) dX12_sell_6 ⟨Nat.zero_le _, Nat.zero_le _⟩) hS (fun r2 hw2 locs hS => ?_)
    obtain ⟨hfe2, hw2⟩ := hw2
    rcases hw2 with ⟨rfl, f2⟩ | ⟨rfl, f2⟩
    · have hF := (if_pos hfe2.symm).symm.trans hF
      have f2 : 0 ≤ vx.toInt ∧ vx.toInt < (mu 0 8).toInt ∧ (mu 0 8).toInt ≤ 7 := f2
      refine lv_if_ne (tgt := 16) hx hb dX12_sell_9 (by decide) (fun _ => ?_) (fun c => absurd c (by decide))
      refine lv_aload_n hx hb dX12_sell_16 rfl (lv_at hl 0 rfl) ?_
      refine lv_iload_n hx hb dX12_sell_17 rfl (lv_at hl 1 rfl) ?_
      have hFc := fr_all (wR_D mu hD) hS hA
      refine va_calli (va_runV (As := [.int vk]) (rest := []) ⟨hx, hb, hml, hown, hts⟩ (sm_askedLetter l dC dI cs ad mu ok s.heap hP ((wR_D mu hD).weaken (fun _ _ _ _ => trivial)) vk) (cwV 1 hts (wU_V mw_6_114 mw_6_111 mw_6_113 mw_0_46 mw_1_13) rfl rfl rfl (by decide +kernel) ⟨Nat.le_of_ble_eq_true rfl, Nat.le_of_ble_eq_true rfl⟩) ⟨sz_c, va_recv hK hP (ci := 12) (q0 := 0) rfl (gM_0 cs ad mu), sz_m hK hz⟩ rfl rfl hl.1 rfl (lv_room (Nat.le_of_ble_eq_true rfl)) dX12_sell_18 ⟨Nat.zero_le _, Nat.zero_le _⟩) hS (fun q _ h => hFc q h) hFc (fun r3 xi3 t H3 locs ht hvm hw3 hB hz1 hk1 hS => ?_)
      have hP : va_P (dC, dI) vwCl (wR 21 ad (EM cs ad) xi3) H3 := by rw [← ht]; exact hB
      obtain ⟨hfe3, hw3⟩ := hw3
      have hF := mi_letp hF hfe3
      rcases hw3 with ⟨rfl, hxi3, f3⟩ | ⟨z3, ok, hkp3_0⟩
      · have hF := (if_pos rfl).symm.trans hF
        have hP : va_P (dC, dI) vwCl (wR 21 ad (EM cs ad) mu) H3 := by rw [← hxi3]; exact hP
        have f3 : 0 ≤ vk.toInt ∧ vk.toInt < (mu 0 15).toInt ∧ (mu 0 15).toInt ≤ 4 := f3
        refine lv_istore_n (lv' := [(3, .int 0), (0, .ref (ad 0)), (1, .int vk), (2, .int vx)]) hx hb dX12_sell_21 rfl hl (by decide) rfl (fun ls hl => ?_)
        refine lv_iload_n hx hb dX12_sell_22 rfl (lv_at hl 0 rfl) ?_
        refine lv_if_ge (tgt := 28) hx hb dX12_sell_23 (by decide) (fun _ => ?_) (fun c => absurd (by decide) c)
        refine lv_aload_n hx hb dX12_sell_28 rfl (lv_at hl 1 rfl) ?_
        refine lv_iload_n hx hb dX12_sell_29 rfl (lv_at hl 2 rfl) ?_
        refine cr_i (va_runV (As := [.int vk]) (rest := []) ⟨hx, hb, hml, hown, hts⟩ (sm_canSell l dC dI cs ad mu ok H3 hP vk (by omega)) (cwV 1 hts (wU_V mw_6_118 mw_6_115 mw_6_117 mw_0_47 mw_1_13) rfl rfl rfl (by decide +kernel) ⟨Nat.le_of_ble_eq_true rfl, Nat.le_of_ble_eq_true rfl⟩) ⟨sz_c, va_recv hK hP (ci := 12) (q0 := 0) rfl (gM_0 cs ad mu), sz_m hK hz⟩ rfl rfl hl.1 rfl (lv_room (Nat.le_of_ble_eq_true rfl)) dX12_sell_30 ⟨Nat.zero_le _, Nat.zero_le _⟩) hS (fun r5 hw5 locs hS => ?_)
        obtain ⟨hfe5, hw5⟩ := hw5
        have hF := mi_let hF hfe5
        have gr5 : 0 ≤ r5.toInt ∧ r5.toInt ≤ 127 := hw5
        refine lv_iload_n hx hb dX12_sell_33 rfl (lv_at hl 3 rfl) ?_
        refine cr_i (va_runS (As := [.int r5, .int vx]) (rest := []) ⟨hx, hb, hml, hown, hts⟩ (sm_has l dC dI (tyM cs) H3 r5 vx) (va_cwS 2 hts (wU_S mw_6_59 mw_6_57 mw_6_58 mw_1_13) rfl rfl rfl (by decide +kernel) ⟨Nat.le_of_ble_eq_true rfl, Nat.le_of_ble_eq_true rfl⟩) ⟨sz_c, sz_m hK hz⟩ rfl rfl hl.1 rfl (lv_room (Nat.le_of_ble_eq_true rfl)) dX12_sell_34 ⟨Nat.zero_le _, Nat.zero_le _⟩) hS (fun r6 hw6 locs hS => ?_)
        obtain ⟨hfe6, hw6⟩ := hw6
        rcases hw6 with ⟨rfl, f6⟩ | ⟨rfl, f6⟩
        · have hF := (if_pos hfe6.symm).symm.trans hF
          have f6 : rb r5 vx = 1 := f6
          refine lv_if_ne (tgt := 43) hx hb dX12_sell_37 (by decide) (fun _ => ?_) (fun c => absurd c (by decide))
          refine lv_aload_n hx hb dX12_sell_43 rfl (lv_at hl 1 rfl) ?_
          refine va_get (D := (dC, dI)) (ci := 12) (v := .int (mu 0 17)) (C := RX12) (T := TX12) (N := 46) hx hb hts inG12 hown hK hP 0 (gM_0 cs ad mu) rfl 17 (by decide) (hts _ (List.mem_cons_of_mem _ mw_5_58)) (fun _ h9 => h9) rfl dX12_sell_44 ?_
          refine lv_topi (fun y7 ey7 => ?_)
          have hF := mi_let hF ey7
          have by7 : y7.toInt = (mu 0 17).toInt := congrArg Int32.toInt ey7
          have gy7 : 0 ≤ y7.toInt ∧ y7.toInt ≤ 40 := by rw [ey7]; exact rM_0_17 ok
          refine lv_bipush (v := 40) hx hb dX12_sell_47 (by decide) ?_
          refine lv_icmp_ne (tgt := 55) hx hb dX12_sell_49 (by decide) (fun c_8 => ?_) (fun c_8 => ?_)
          · have hF := (if_neg c_8).symm.trans hF
            have c_8 : ¬ y7.toInt = 40 := il_ne c_8
            refine lv_aload_n hx hb dX12_sell_55 rfl (lv_at hl 1 rfl) ?_
            refine lv_iload_n hx hb dX12_sell_56 rfl (lv_at hl 2 rfl) ?_
            refine cr_i (va_runV (As := [.int vk]) (rest := []) ⟨hx, hb, hml, hown, hts⟩ (sm_priceOf l dC dI cs ad mu ok H3 hP vk (by omega)) (cwV 1 hts (wU_V mw_6_122 mw_6_119 mw_6_121 mw_0_48 mw_1_13) rfl rfl rfl (by decide +kernel) ⟨Nat.le_of_ble_eq_true rfl, Nat.le_of_ble_eq_true rfl⟩) ⟨sz_c, va_recv hK hP (ci := 12) (q0 := 0) rfl (gM_0 cs ad mu), sz_m hK hz⟩ rfl rfl hl.1 rfl (lv_room (Nat.le_of_ble_eq_true rfl)) dX12_sell_57 ⟨Nat.zero_le _, Nat.zero_le _⟩) hS (fun r9 hw9 locs hS => ?_)
            obtain ⟨hfe9, hw9⟩ := hw9
            have hF := mi_let hF hfe9
            refine lv_istore (lv' := [(4, .int r9), (3, .int 0), (0, .ref (ad 0)), (1, .int vk), (2, .int vx)]) hx hb dX12_sell_60 hl (by decide) rfl (fun ls hl => ?_)
            refine lv_aload_n hx hb dX12_sell_62 rfl (lv_at hl 2 rfl) ?_
            refine lv_iload_n hx hb dX12_sell_63 rfl (lv_at hl 3 rfl) ?_
            refine lv_iload_n hx hb dX12_sell_64 rfl (lv_at hl 4 rfl) ?_
            have hFc := fr_all (wR_D mu hD) hS hA
            refine va_callv (va_runV (As := [.int vk, .int vx]) (rest := []) ⟨hx, hb, hml, hown, hts⟩ (sm_sellTo l dC dI cs ad mu ok H3 hP ((wR_D mu hD).weaken (fun _ _ _ _ => trivial)) vk vx (by omega) (by first | assumption | (have hb10 := congrArg Int32.toInt ey7; omega))) (cwV 2 hts (wU_V mw_6_130 mw_6_127 mw_6_129 mw_0_50 mw_1_13) rfl rfl rfl (by decide +kernel) ⟨Nat.le_of_ble_eq_true rfl, Nat.le_of_ble_eq_true rfl⟩) ⟨sz_c, va_recv hK hP (ci := 12) (q0 := 0) rfl (gM_0 cs ad mu), sz_m hK hz⟩ rfl rfl hl.1 rfl (lv_room (Nat.le_of_ble_eq_true rfl)) dX12_sell_65 ⟨Nat.zero_le _, Nat.zero_le _⟩) hS (fun q _ h => hFc q h) hFc (fun xi11 t H11 locs ht hvm hw11 hB hz1 hk1 hS => ?_)
            have hP : va_P (dC, dI) vwCl (wR 21 ad (EM cs ad) xi11) H11 := by rw [← ht]; exact hB
            obtain ⟨hfe11, ok, hw11, hkp11_0⟩ := hw11
            have hF := mi_let hF hfe11
            have kp12 : (∀ k f : Nat, Nat.testBit 486 (gpM k f) = true → xi11 k f = mu k f) := kp_t hkp11_0 (by decide) (fun _ _ _ => rfl)
            refine lv_iload hx hb dX12_sell_68 (lv_at hl 0 rfl) ?_
            refine lv_aload_n hx hb dX12_sell_70 rfl (lv_at hl 2 rfl) ?_
            refine lv_iload_n hx hb dX12_sell_71 rfl (lv_at hl 3 rfl) ?_
            refine cr_i (va_runV (As := [.int vk]) (rest := [.int r9]) ⟨hx, hb, hml, hown, hts⟩ (sm_isRead l dC dI cs ad xi11 ok H11 hP vk (by omega)) (cwV 1 hts (wU_V mw_6_52 mw_6_49 mw_6_51 mw_0_39 mw_1_13) rfl rfl rfl (by decide +kernel) ⟨Nat.le_of_ble_eq_true rfl, Nat.le_of_ble_eq_true rfl⟩) ⟨sz_c, va_recv hK hP (ci := 12) (q0 := 0) rfl (gM_0 cs ad xi11), sz_m hK hz⟩ rfl rfl hl.1 rfl (lv_room (Nat.le_of_ble_eq_true rfl)) dX12_sell_72 ⟨Nat.zero_le _, Nat.zero_le _⟩) hS (fun r13 hw13 locs hS => ?_)
            obtain ⟨hfe13, hw13⟩ := hw13
            have hF := mi_let hF hfe13
            have gr13 : 0 ≤ r13.toInt ∧ r13.toInt ≤ 1 := hw13
            refine lv_if_eq (tgt := 84) hx hb dX12_sell_75 (by decide) (fun c_14 => ?_) (fun c_14 => ?_)
            · have hF := (if_pos c_14).symm.trans hF
              have c_14 : r13.toInt = 0 := il_eq c_14
              refine lv_iconst (v := 0) hx hb dX12_sell_84 (by decide) ?_
              refine lv_iadd hx hb dX12_sell_85 ?_
              refine lv_topi (fun t15 et15 => ?_)
              have hF := mi_let hF et15
              exact W.iret (v := t15) hx hb hr (fun t ht hW => ⟨⟨t15, xi11, rfl, ⟨hF.trans hfz.symm, ok, trivial, kp12⟩, by first | (subst ht; exact hP) | (rw [ht]; exact hP) | (show va_P (dC, dI) vwCl (wR 21 ad (EM cs ad) xi11) t.heap; rw [ht]; exact hP)⟩, hS.F ht⟩) hS.2.2 dX12_sell_86
            · have hF := (if_neg c_14).symm.trans hF
              have c_14 : ¬ r13.toInt = 0 := il_ne c_14
              refine lv_sipush (v := 1000) hx hb dX12_sell_78 (by decide) ?_
              refine lv_goto (tgt := 85) hx hb dX12_sell_81 (by decide) ?_
              refine lv_iadd hx hb dX12_sell_85 ?_
              refine lv_topi (fun t16 et16 => ?_)
              have hF := mi_let hF et16
              exact W.iret (v := t16) hx hb hr (fun t ht hW => ⟨⟨t16, xi11, rfl, ⟨hF.trans hfz.symm, ok, trivial, kp12⟩, by first | (subst ht; exact hP) | (rw [ht]; exact hP) | (show va_P (dC, dI) vwCl (wR 21 ad (EM cs ad) xi11) t.heap; rw [ht]; exact hP)⟩, hS.F ht⟩) hS.2.2 dX12_sell_86
          · have hF := (if_pos c_8).symm.trans hF
            have c_8 : y7.toInt = 40 := il_eq c_8
            refine lv_bipush (v := (-2)) hx hb dX12_sell_52 (by decide) ?_
            exact W.iret (v := (-2)) hx hb hr (fun t ht hW => ⟨⟨(-2), mu, rfl, ⟨hF.trans hfz.symm, ok, trivial, (fun _ _ _ => rfl)⟩, by first | (subst ht; exact hP) | (rw [ht]; exact hP) | (show va_P (dC, dI) vwCl (wR 21 ad (EM cs ad) mu) t.heap; rw [ht]; exact hP)⟩, hS.F ht⟩) hS.2.2 dX12_sell_54
        · have hF := (if_neg (fun h => absurd (hfe6.trans h) (by decide))).symm.trans hF
          have f6 : ¬ rb r5 vx = 1 := f6
          refine lv_if_ne (tgt := 43) hx hb dX12_sell_37 (by decide) (fun c => absurd (by decide) c) (fun _ => ?_)
          refine lv_bipush (v := (-4)) hx hb dX12_sell_40 (by decide) ?_
          exact W.iret (v := (-4)) hx hb hr (fun t ht hW => ⟨⟨(-4), mu, rfl, ⟨hF.trans hfz.symm, ok, trivial, (fun _ _ _ => rfl)⟩, by first | (subst ht; exact hP) | (rw [ht]; exact hP) | (show va_P (dC, dI) vwCl (wR 21 ad (EM cs ad) mu) t.heap; rw [ht]; exact hP)⟩, hS.F ht⟩) hS.2.2 dX12_sell_42
      · have hF := (if_neg (show ¬ r3 = 0 from fun h => by have h9 := congrArg Int32.toInt h; have h8 : (0 : Int32).toInt = 0 := rfl; omega)).symm.trans hF
        have kp4 : (∀ k f : Nat, Nat.testBit 486 (gpM k f) = true → xi3 k f = mu k f) := kp_t hkp3_0 (by decide) (fun _ _ _ => rfl)
        skip
        refine lv_istore_n (lv' := [(3, .int r3), (0, .ref (ad 0)), (1, .int vk), (2, .int vx)]) hx hb dX12_sell_21 rfl hl (by decide) rfl (fun ls hl => ?_)
        refine lv_iload_n hx hb dX12_sell_22 rfl (lv_at hl 0 rfl) ?_
        refine lv_if_ge (tgt := 28) hx hb dX12_sell_23 (by decide) (fun c_17 => by have c_17 : 0 ≤ r3.toInt := il_le c_17; exfalso; omega) (fun c_17 => ?_)
        have c_17 : r3.toInt < 0 := il_nle c_17
        refine lv_iload_n hx hb dX12_sell_26 rfl (lv_at hl 0 rfl) ?_
        exact W.iret (v := r3) hx hb hr (fun t ht hW => ⟨⟨r3, xi3, rfl, ⟨hF.trans hfz.symm, ok, trivial, kp4⟩, by first | (subst ht; exact hP) | (rw [ht]; exact hP) | (show va_P (dC, dI) vwCl (wR 21 ad (EM cs ad) xi3) t.heap; rw [ht]; exact hP)⟩, hS.F ht⟩) hS.2.2 dX12_sell_27
    · have hF := (if_neg (fun h => absurd (hfe2.trans h) (by decide))).symm.trans hF
      have f2 : vx.toInt < 0 ∨ (mu 0 8).toInt ≤ vx.toInt := f2
      refine lv_if_ne (tgt := 16) hx hb dX12_sell_9 (by decide) (fun c => absurd (by decide) c) (fun _ => ?_)
      refine lv_iconst (v := (-1)) hx hb dX12_sell_12 (by decide) ?_
      refine lv_goto (tgt := 21) hx hb dX12_sell_13 (by decide) ?_
      refine lv_istore_n (lv' := [(3, .int (-1)), (0, .ref (ad 0)), (1, .int vk), (2, .int vx)]) hx hb dX12_sell_21 rfl hl (by decide) rfl (fun ls hl => ?_)
      refine lv_iload_n hx hb dX12_sell_22 rfl (lv_at hl 0 rfl) ?_
      refine lv_if_ge (tgt := 28) hx hb dX12_sell_23 (by decide) (fun c => absurd c (by decide)) (fun _ => ?_)
      refine lv_iload_n hx hb dX12_sell_26 rfl (lv_at hl 0 rfl) ?_
      exact W.iret (v := (-1)) hx hb hr (fun t ht hW => ⟨⟨(-1), mu, rfl, ⟨hF.trans hfz.symm, ok, trivial, (fun _ _ _ => rfl)⟩, by first | (subst ht; exact hP) | (rw [ht]; exact hP) | (show va_P (dC, dI) vwCl (wR 21 ad (EM cs ad) mu) t.heap; rw [ht]; exact hP)⟩, hS.F ht⟩) hS.2.2 dX12_sell_27
set_option maxHeartbeats 4000000 in
set_option maxRecDepth 100000 in
/-- qm_days -/
theorem qm_days (l : Launch) (dC : Nat → ClassId) (dI : Nat → Nat → Nat) (cs : Nat → ClassId) (ad : Nat → Nat) (mu : Nat → Nat → Int32) (ok : okR loM hiM mu) (H : Heap) (hP : va_P (dC, dI) vwCl (wR 21 ad (EM cs ad) mu) H) (hD0 : va_D (fun _ => True) (wR 21 ad (EM cs ad) mu)) (vn : Int32) : Met l yX12_days (wU yX12_days cX12_days 2 (some .int)) ({ frames := 1, cells := 0, slots := 0, locals := 22 }) (va_Pc [.ref (ad 0), .int vn] (sz_P (dC, dI) vwCl (tyM cs) H)) (va_Qi (fun (z : Int32) (xi : Nat → Nat → Int32) => (z, xi) = F_qm_days mu vn ∧ okR loM hiM xi ∧ (True) ∧ (∀ k f : Nat, Nat.testBit 382 (gpM k f) = true → xi k f = mu k f)) (fun xi t => va_P (dC, dI) vwCl (wR 21 ad (EM cs ad) xi) t.heap) (va_A (wR 21 ad (EM cs ad) mu) H.size)) 0 0 (va_A (wR 21 ad (EM cs ad) mu) H.size) := by
  refine Met.ofW (cc := cX12_days) (maxL := 2) (ret := (some .int)) (by decide) rfl ?_
  intro p e s m args below meth c s₁ B hml hv
  obtain ⟨rfl, hh, hK, hz⟩ := hv
  have hx := B.exec
  have hb := B.bytes
  have hr := B.returns
  have hts := atoms_spec (ws := (wU yX12_days cX12_days 2 (some .int))) B.pre
  have hown : s.vm.findClass RX12 = some m.cls := findClass_of_methodNamed B.named
  have hlocks := B.notSynchronized
  subst hh
  have hD := hD0.self (sz := s.heap.size)
  have hA : ∀ q : Nat, s.heap.size ≤ q → (va_A (wR 21 ad (EM cs ad) mu) s.heap.size) q := fun q h => Or.inr h
  have hS : va_S (va_A (wR 21 ad (EM cs ad) mu) s.heap.size) s.heap s.heap [] := va_S.rf
  have hl := lv_entry ([.ref (ad 0), .int vn]) (n := 2) (Nat.le_of_ble_eq_true rfl)
  rw [lg_entry_eq]
  generalize (lg_sl ([.ref (ad 0), .int vn]) ++ List.replicate (2 - (lg_sl ([.ref (ad 0), .int vn])).length) Slot.unset).toArray = ls at hl ⊢
  have hl : lv_has ls 2 [(0, .ref (ad 0)), (1, .int vn)] := hl
  obtain ⟨fz, hfz⟩ : ∃ z, F_qm_days mu vn = z := ⟨_, rfl⟩
  have hF := hfz
  unfold F_qm_days at hF
  refine lv_iload_n hx hb dX12_days_0 rfl (lv_at hl 1 rfl) ?_
  refine lv_iconst (v := 0) hx hb dX12_days_1 (by decide) ?_
  refine lv_bipush (v := 20) hx hb dX12_days_2 (by decide) ?_
  refine cr_i (va_runS (As := [.int vn, .int 0, .int 20]) (rest := []) ⟨hx, hb, hml, hown, hts⟩ (sm_in l dC dI (tyM cs) s.heap vn 0 20) (va_cwS 3 hts (wU_S mw_5_189 mw_5_187 mw_5_188 mw_1_13) rfl rfl rfl (by decide +kernel) ⟨Nat.le_of_ble_eq_true rfl, Nat.le_of_ble_eq_true rfl⟩) ⟨sz_c, sz_m hK hz⟩ rfl rfl hl.1 rfl (lv_room (Nat.le_of_ble_eq_true rfl)) dX12_days_4 ⟨Nat.zero_le _, Nat.zero_le _⟩) hS (fun r1 hw1 locs hS => ?_)
  obtain ⟨hfe1, hw1⟩ := hw1
  rcases hw1 with ⟨rfl, f1⟩ | ⟨rfl, f1⟩
  · have hF := (if_pos hfe1.symm).symm.trans hF
    have f1 : (0 : Int) ≤ vn.toInt ∧ vn.toInt ≤ (20 : Int) := f1
    refine lv_if_ne (tgt := 12) hx hb dX12_days_7 (by decide) (fun _ => ?_) (fun c => absurd c (by decide))
    refine lv_aload_n hx hb dX12_days_12 rfl (lv_at hl 0 rfl) ?_
    refine va_get (D := (dC, dI)) (ci := 12) (v := .int (mu 0 14)) (C := RX12) (T := TX12) (N := 46) hx hb hts inG12 hown hK hP 0 (gM_0 cs ad mu) rfl 14 (by decide) (hts _ (List.mem_cons_of_mem _ mw_5_55)) (fun _ h9 => h9) rfl dX12_days_13 ?_
    refine lv_topi (fun y2 ey2 => ?_)
    have hF := mi_let hF ey2
    have by2 : y2.toInt = (mu 0 14).toInt := congrArg Int32.toInt ey2
    refine lv_iload_n hx hb dX12_days_16 rfl (lv_at hl 1 rfl) ?_
    refine lv_iadd hx hb dX12_days_17 ?_
    refine lv_topi (fun t3 et3 => ?_)
    have hF := mi_let hF et3
    refine lv_bipush (v := 99) hx hb dX12_days_18 (by decide) ?_
    refine lv_icmp_le (tgt := 26) hx hb dX12_days_20 (by decide) (fun c_4 => ?_) (fun c_4 => ?_)
    · have hF := (if_pos c_4).symm.trans hF
      have c_4 : t3.toInt ≤ 99 := il_le c_4
      refine lv_aload_n hx hb dX12_days_26 rfl (lv_at hl 0 rfl) ?_
      refine lv_dup hx hb dX12_days_27 rfl ?_
      refine va_get (D := (dC, dI)) (ci := 12) (v := .int (mu 0 14)) (C := RX12) (T := TX12) (N := 46) hx hb hts inG12 hown hK hP 0 (gM_0 cs ad mu) rfl 14 (by decide) (hts _ (List.mem_cons_of_mem _ mw_5_55)) (fun _ h9 => h9) rfl dX12_days_28 ?_
      refine lq_i y2 ey2.symm ?_
      refine lv_iload_n hx hb dX12_days_31 rfl (lv_at hl 1 rfl) ?_
      refine lv_iadd hx hb dX12_days_32 ?_
      refine lv_topi (fun t5 et5 => ?_)
      have hF := mi_let hF et5
      refine va_put (D := (dC, dI)) (ci := 12) (v := .int t5) (ty := .int) (C := RX12) (T := TX12) (N := 46) hx hb hts inG12 tyX12 tyX12_ok nmX12 hown hK hP (wR_D mu hD) hS 0 (gM_0 cs ad mu) rfl 14 (by decide) (hts _ (List.mem_cons_of_mem _ mw_5_55)) (fun _ h9 => h9) rfl (by decide +kernel) rfl rfl (Nat.le_of_ble_eq_true rfl) dX12_days_33 (fun H locs hP _ hS => ?_)
      simp only [List.set_cons_succ, List.set_cons_zero] at hP
      refine wr_gen (upd (mu 0) 14 t5) hP ((hM_0_14 cs ad _ _)) (fun nu6 hn6 hP => ?_)
      have hF := mi_let hF hn6.symm
      have ok := tM_0_14 ok hn6
      have kp7 : (∀ k f : Nat, Nat.testBit 382 (gpM k f) = true → nu6 k f = mu k f) := kp_f hn6 (by decide) (fun _ _ _ => rfl)
      have ez8 : t5 = nu6 0 14 := up_v hn6
      refine lv_aload_n hx hb dX12_days_36 rfl (lv_at hl 0 rfl) ?_
      refine va_get (D := (dC, dI)) (ci := 12) (v := .int (nu6 0 14)) (C := RX12) (T := TX12) (N := 46) hx hb hts inG12 hown hK hP 0 (gM_0 cs ad nu6) rfl 14 (by decide) (hts _ (List.mem_cons_of_mem _ mw_5_55)) (fun _ h9 => h9) rfl dX12_days_37 ?_
      refine lq_i t5 ez8.symm ?_
      exact W.iret (v := t5) hx hb hr (fun t ht hW => ⟨⟨t5, nu6, rfl, ⟨hF.trans hfz.symm, ok, trivial, kp7⟩, by first | (subst ht; exact hP) | (rw [ht]; exact hP) | (show va_P (dC, dI) vwCl (wR 21 ad (EM cs ad) nu6) t.heap; rw [ht]; exact hP)⟩, hS.F ht⟩) hS.2.2 dX12_days_40
    · have hF := (if_neg c_4).symm.trans hF
      have c_4 : 99 < t3.toInt := il_nle c_4
      refine lv_bipush (v := (-2)) hx hb dX12_days_23 (by decide) ?_
      exact W.iret (v := (-2)) hx hb hr (fun t ht hW => ⟨⟨(-2), mu, rfl, ⟨hF.trans hfz.symm, ok, trivial, (fun _ _ _ => rfl)⟩, by first | (subst ht; exact hP) | (rw [ht]; exact hP) | (show va_P (dC, dI) vwCl (wR 21 ad (EM cs ad) mu) t.heap; rw [ht]; exact hP)⟩, hS.F ht⟩) hS.2.2 dX12_days_25
  · have hF := (if_neg (fun h => absurd (hfe1.trans h) (by decide))).symm.trans hF
    have f1 : vn.toInt < (0 : Int) ∨ (20 : Int) < vn.toInt := f1
    refine lv_if_ne (tgt := 12) hx hb dX12_days_7 (by decide) (fun c => absurd (by decide) c) (fun _ => ?_)
    refine lv_iconst (v := (-1)) hx hb dX12_days_10 (by decide) ?_
    exact W.iret (v := (-1)) hx hb hr (fun t ht hW => ⟨⟨(-1), mu, rfl, ⟨hF.trans hfz.symm, ok, trivial, (fun _ _ _ => rfl)⟩, by first | (subst ht; exact hP) | (rw [ht]; exact hP) | (show va_P (dC, dI) vwCl (wR 21 ad (EM cs ad) mu) t.heap; rw [ht]; exact hP)⟩, hS.F ht⟩) hS.2.2 dX12_days_11
set_option maxHeartbeats 4000000 in
set_option maxRecDepth 100000 in
/-- qm_where -/
theorem qm_where (l : Launch) (dC : Nat → ClassId) (dI : Nat → Nat → Nat) (cs : Nat → ClassId) (ad : Nat → Nat) (mu : Nat → Nat → Int32) (ok : okR loM hiM mu) (H : Heap) (hP : va_P (dC, dI) vwCl (wR 21 ad (EM cs ad) mu) H) (hD0 : va_D (fun _ => True) (wR 21 ad (EM cs ad) mu)) (vk : Int32) : Met l yX12_where (wU yX12_where cX12_where 3 (some .int)) ({ frames := 2, cells := 0, slots := 0, locals := 42 }) (va_Pc [.ref (ad 0), .int vk] (sz_P (dC, dI) vwCl (tyM cs) H)) (va_Qi (fun (z : Int32) (xi : Nat → Nat → Int32) => (z, xi) = F_qm_where mu vk ∧ okR loM hiM xi ∧ (True) ∧ (∀ k f : Nat, Nat.testBit 510 (gpM k f) = true → xi k f = mu k f)) (fun xi t => va_P (dC, dI) vwCl (wR 21 ad (EM cs ad) xi) t.heap) (va_A (wR 21 ad (EM cs ad) mu) H.size)) 0 0 (va_A (wR 21 ad (EM cs ad) mu) H.size) := by
  refine Met.ofW (cc := cX12_where) (maxL := 3) (ret := (some .int)) (by decide) rfl ?_
  intro p e s m args below meth c s₁ B hml hv
  obtain ⟨rfl, hh, hK, hz⟩ := hv
  have hx := B.exec
  have hb := B.bytes
  have hr := B.returns
  have hts := atoms_spec (ws := (wU yX12_where cX12_where 3 (some .int))) B.pre
  have hown : s.vm.findClass RX12 = some m.cls := findClass_of_methodNamed B.named
  have hlocks := B.notSynchronized
  subst hh
  have hD := hD0.self (sz := s.heap.size)
  have hA : ∀ q : Nat, s.heap.size ≤ q → (va_A (wR 21 ad (EM cs ad) mu) s.heap.size) q := fun q h => Or.inr h
  have hS : va_S (va_A (wR 21 ad (EM cs ad) mu) s.heap.size) s.heap s.heap [] := va_S.rf
  have hl := lv_entry ([.ref (ad 0), .int vk]) (n := 3) (Nat.le_of_ble_eq_true rfl)
  rw [lg_entry_eq]
  generalize (lg_sl ([.ref (ad 0), .int vk]) ++ List.replicate (3 - (lg_sl ([.ref (ad 0), .int vk])).length) Slot.unset).toArray = ls at hl ⊢
  have hl : lv_has ls 3 [(0, .ref (ad 0)), (1, .int vk)] := hl
  obtain ⟨fz, hfz⟩ : ∃ z, F_qm_where mu vk = z := ⟨_, rfl⟩
  have hF := hfz
  unfold F_qm_where at hF
  refine lv_aload_n hx hb dX12_where_0 rfl (lv_at hl 0 rfl) ?_
  refine lv_iload_n hx hb dX12_where_1 rfl (lv_at hl 1 rfl) ?_
  have hFc := fr_all (wR_D mu hD) hS hA
  refine va_calli (va_runV (As := [.int vk]) (rest := []) ⟨hx, hb, hml, hown, hts⟩ (sm_askedLetter l dC dI cs ad mu ok s.heap hP ((wR_D mu hD).weaken (fun _ _ _ _ => trivial)) vk) (cwV 1 hts (wU_V mw_6_114 mw_6_111 mw_6_113 mw_0_46 mw_1_13) rfl rfl rfl (by decide +kernel) ⟨Nat.le_of_ble_eq_true rfl, Nat.le_of_ble_eq_true rfl⟩) ⟨sz_c, va_recv hK hP (ci := 12) (q0 := 0) rfl (gM_0 cs ad mu), sz_m hK hz⟩ rfl rfl hl.1 rfl (lv_room (Nat.le_of_ble_eq_true rfl)) dX12_where_2 ⟨Nat.zero_le _, Nat.zero_le _⟩) hS (fun q _ h => hFc q h) hFc (fun r1 xi1 t H1 locs ht hvm hw1 hB hz1 hk1 hS => ?_)
  have hP : va_P (dC, dI) vwCl (wR 21 ad (EM cs ad) xi1) H1 := by rw [← ht]; exact hB
  obtain ⟨hfe1, hw1⟩ := hw1
  have hF := mi_letp hF hfe1
  rcases hw1 with ⟨rfl, hxi1, f1⟩ | ⟨z1, ok, hkp1_0⟩
  · have hF := (if_pos rfl).symm.trans hF
    have hP : va_P (dC, dI) vwCl (wR 21 ad (EM cs ad) mu) H1 := by rw [← hxi1]; exact hP
    have f1 : 0 ≤ vk.toInt ∧ vk.toInt < (mu 0 15).toInt ∧ (mu 0 15).toInt ≤ 4 := f1
    refine lv_istore_n (lv' := [(2, .int 0), (0, .ref (ad 0)), (1, .int vk)]) hx hb dX12_where_5 rfl hl (by decide) rfl (fun ls hl => ?_)
    refine lv_iload_n hx hb dX12_where_6 rfl (lv_at hl 0 rfl) ?_
    refine lv_if_ge (tgt := 14) hx hb dX12_where_7 (by decide) (fun _ => ?_) (fun c => absurd (by decide) c)
    refine lv_aload_n hx hb dX12_where_14 rfl (lv_at hl 1 rfl) ?_
    refine lv_aload_n hx hb dX12_where_15 rfl (lv_at hl 1 rfl) ?_
    refine lv_iload_n hx hb dX12_where_16 rfl (lv_at hl 2 rfl) ?_
    refine lv_bipush (v := 6) hx hb dX12_where_17 (by decide) ?_
    refine cr_i (va_runV (As := [.int vk, .int 6]) (rest := [.ref (ad 0)]) ⟨hx, hb, hml, hown, hts⟩ (sm_letterOf l dC dI cs ad mu ok H1 hP vk 6 (by have h51 : (6 : Int32).toInt = 6 := rfl; omega)) (cwV 2 hts (wU_V mw_6_48 mw_6_45 mw_6_47 mw_0_38 mw_1_13) rfl rfl rfl (by decide +kernel) ⟨Nat.le_of_ble_eq_true rfl, Nat.le_of_ble_eq_true rfl⟩) ⟨sz_c, va_recv hK hP (ci := 12) (q0 := 0) rfl (gM_0 cs ad mu), sz_m hK hz⟩ rfl rfl hl.1 rfl (lv_room (Nat.le_of_ble_eq_true rfl)) dX12_where_19 ⟨Nat.zero_le _, Nat.zero_le _⟩) hS (fun r3 hw3 locs hS => ?_)
    obtain ⟨hfe3, hw3⟩ := hw3
    have hF := mi_let hF hfe3
    refine lv_aload_n hx hb dX12_where_22 rfl (lv_at hl 1 rfl) ?_
    refine lv_iload_n hx hb dX12_where_23 rfl (lv_at hl 2 rfl) ?_
    refine lv_iconst (v := 5) hx hb dX12_where_24 (by decide) ?_
    refine cr_i (va_runV (As := [.int vk, .int 5]) (rest := [.int r3, .ref (ad 0)]) ⟨hx, hb, hml, hown, hts⟩ (sm_letterOf5 l dC dI cs ad mu ok H1 hP vk (by have h51 : (5 : Int32).toInt = 5 := rfl; omega)) (cwV 2 hts (wU_V mw_6_48 mw_6_45 mw_6_47 mw_0_38 mw_1_13) rfl rfl rfl (by decide +kernel) ⟨Nat.le_of_ble_eq_true rfl, Nat.le_of_ble_eq_true rfl⟩) ⟨sz_c, va_recv hK hP (ci := 12) (q0 := 0) rfl (gM_0 cs ad mu), sz_m hK hz⟩ rfl rfl hl.1 rfl (lv_room (Nat.le_of_ble_eq_true rfl)) dX12_where_25 ⟨Nat.zero_le _, Nat.zero_le _⟩) hS (fun r4 hw4 locs hS => ?_)
    obtain ⟨hfe4, hw4⟩ := hw4
    have hF := mi_let hF hfe4
    have gr4 : 0 ≤ r4.toInt ∧ r4.toInt ≤ 6 := hw4
    have hFc := fr_all (wR_D mu hD) hS hA
    refine va_calli (va_runV (As := [.int r3, .int r4]) (rest := []) ⟨hx, hb, hml, hown, hts⟩ (sm_ask l dC dI cs ad mu ok H1 hP ((wR_D mu hD).weaken (fun _ _ _ _ => trivial)) r3 r4) (cwV 2 hts (wU_V mw_5_213 mw_5_210 mw_5_212 mw_0_30 mw_1_13) rfl rfl rfl (by decide +kernel) ⟨Nat.le_of_ble_eq_true rfl, Nat.le_of_ble_eq_true rfl⟩) ⟨sz_c, va_recv hK hP (ci := 12) (q0 := 0) rfl (gM_0 cs ad mu), sz_m hK hz⟩ rfl rfl hl.1 rfl (lv_room (Nat.le_of_ble_eq_true rfl)) dX12_where_28 ⟨Nat.zero_le _, Nat.zero_le _⟩) hS (fun q _ h => hFc q h) hFc (fun r5 xi5 t H5 locs ht hvm hw5 hB hz1 hk1 hS => ?_)
    have hP : va_P (dC, dI) vwCl (wR 21 ad (EM cs ad) xi5) H5 := by rw [← ht]; exact hB
    obtain ⟨hfe5, ok, hw5, hkp5_0⟩ := hw5
    have hF := mi_letp hF hfe5
    have kp6 : (∀ k f : Nat, Nat.testBit 510 (gpM k f) = true → xi5 k f = mu k f) := kp_t hkp5_0 (by decide) (fun _ _ _ => rfl)
    have gr5 : r5.toInt = r4.toInt := hw5
    exact W.iret (v := r5) hx hb hr (fun t ht hW => ⟨⟨r5, xi5, rfl, ⟨hF.trans hfz.symm, ok, trivial, kp6⟩, by first | (subst ht; exact hP) | (rw [ht]; exact hP) | (show va_P (dC, dI) vwCl (wR 21 ad (EM cs ad) xi5) t.heap; rw [ht]; exact hP)⟩, hS.F ht⟩) hS.2.2 dX12_where_31
  · have hF := (if_neg (show ¬ r1 = 0 from fun h => by have h9 := congrArg Int32.toInt h; have h8 : (0 : Int32).toInt = 0 := rfl; omega)).symm.trans hF
    have kp2 : (∀ k f : Nat, Nat.testBit 510 (gpM k f) = true → xi1 k f = mu k f) := kp_t hkp1_0 (by decide) (fun _ _ _ => rfl)
    skip
    refine lv_istore_n (lv' := [(2, .int r1), (0, .ref (ad 0)), (1, .int vk)]) hx hb dX12_where_5 rfl hl (by decide) rfl (fun ls hl => ?_)
    refine lv_iload_n hx hb dX12_where_6 rfl (lv_at hl 0 rfl) ?_
    refine lv_if_ge (tgt := 14) hx hb dX12_where_7 (by decide) (fun c_7 => by have c_7 : 0 ≤ r1.toInt := il_le c_7; exfalso; omega) (fun c_7 => ?_)
    have c_7 : r1.toInt < 0 := il_nle c_7
    refine lv_iload_n hx hb dX12_where_10 rfl (lv_at hl 0 rfl) ?_
    refine lv_goto (tgt := 31) hx hb dX12_where_11 (by decide) ?_
    exact W.iret (v := r1) hx hb hr (fun t ht hW => ⟨⟨r1, xi1, rfl, ⟨hF.trans hfz.symm, ok, trivial, kp2⟩, by first | (subst ht; exact hP) | (rw [ht]; exact hP) | (show va_P (dC, dI) vwCl (wR 21 ad (EM cs ad) xi1) t.heap; rw [ht]; exact hP)⟩, hS.F ht⟩) hS.2.2 dX12_where_31
set_option maxHeartbeats 4000000 in
set_option maxRecDepth 100000 in
/-- sm_letterTells -/
theorem sm_letterTells (l : Launch) (dC : Nat → ClassId) (dI : Nat → Nat → Nat) (cs : Nat → ClassId) (ad : Nat → Nat) (mu : Nat → Nat → Int32) (ok : okR loM hiM mu) (H : Heap) (hP : va_P (dC, dI) vwCl (wR 21 ad (EM cs ad) mu) H) (vk : Int32) (vw : Int32) (hin0 : 0 ≤ vk.toInt ∧ vk.toInt ≤ 3) : Met l yX12_letterTells (wU yX12_letterTells cX12_letterTells 3 (some .int)) ({ frames := 2, cells := 0, slots := 0, locals := 45 }) (va_Pc [.ref (ad 0), .int vk, .int vw] (sz_P (dC, dI) vwCl (tyM cs) H)) (va_Qi (fun (z : Int32) (_ : Unit) => z = F_sm_letterTells mu vk vw ∧ (True)) (fun _ t => t.heap = H) (fun _ => False)) 0 0 (fun _ => False) := by
  refine Met.ofW (cc := cX12_letterTells) (maxL := 3) (ret := (some .int)) (by decide) rfl ?_
  intro p e s m args below meth c s₁ B hml hv
  obtain ⟨rfl, hh, hK, hz⟩ := hv
  have hx := B.exec
  have hb := B.bytes
  have hr := B.returns
  have hts := atoms_spec (ws := (wU yX12_letterTells cX12_letterTells 3 (some .int))) B.pre
  have hown : s.vm.findClass RX12 = some m.cls := findClass_of_methodNamed B.named
  have hlocks := B.notSynchronized
  subst hh
  have hS : va_S (fun _ => False) s.heap s.heap [] := va_S.rf
  have hl := lv_entry ([.ref (ad 0), .int vk, .int vw]) (n := 3) (Nat.le_of_ble_eq_true rfl)
  rw [lg_entry_eq]
  generalize (lg_sl ([.ref (ad 0), .int vk, .int vw]) ++ List.replicate (3 - (lg_sl ([.ref (ad 0), .int vk, .int vw])).length) Slot.unset).toArray = ls at hl ⊢
  have hl : lv_has ls 3 [(0, .ref (ad 0)), (1, .int vk), (2, .int vw)] := hl
  obtain ⟨fz, hfz⟩ : ∃ z, F_sm_letterTells mu vk vw = z := ⟨_, rfl⟩
  have hF := hfz
  unfold F_sm_letterTells at hF
  refine lv_iload_n hx hb dX12_letterTells_0 rfl (lv_at hl 2 rfl) ?_
  refine lv_if_ne (tgt := 13) hx hb dX12_letterTells_1 (by decide) (fun c_1 => ?_) (fun c_1 => ?_)
  · have hF := (if_neg c_1).symm.trans hF
    have c_1 : ¬ vw.toInt = 0 := il_ne c_1
    refine lv_iload_n hx hb dX12_letterTells_13 rfl (lv_at hl 2 rfl) ?_
    refine lv_iconst (v := 1) hx hb dX12_letterTells_14 (by decide) ?_
    refine lv_icmp_ne (tgt := 27) hx hb dX12_letterTells_15 (by decide) (fun c_2 => ?_) (fun c_2 => ?_)
    · have hF := (if_neg c_2).symm.trans hF
      have c_2 : ¬ vw.toInt = 1 := il_ne c_2
      refine lv_iload_n hx hb dX12_letterTells_27 rfl (lv_at hl 2 rfl) ?_
      refine lv_iconst (v := 2) hx hb dX12_letterTells_28 (by decide) ?_
      refine lv_icmp_ne (tgt := 41) hx hb dX12_letterTells_29 (by decide) (fun c_3 => ?_) (fun c_3 => ?_)
      · have hF := (if_neg c_3).symm.trans hF
        have c_3 : ¬ vw.toInt = 2 := il_ne c_3
        refine lv_iload_n hx hb dX12_letterTells_41 rfl (lv_at hl 2 rfl) ?_
        refine lv_iconst (v := 3) hx hb dX12_letterTells_42 (by decide) ?_
        refine lv_icmp_ne (tgt := 56) hx hb dX12_letterTells_43 (by decide) (fun c_4 => ?_) (fun c_4 => ?_)
        · have hF := (if_neg c_4).symm.trans hF
          have c_4 : ¬ vw.toInt = 3 := il_ne c_4
          refine lv_aload_n hx hb dX12_letterTells_56 rfl (lv_at hl 0 rfl) ?_
          refine lv_iload_n hx hb dX12_letterTells_57 rfl (lv_at hl 1 rfl) ?_
          refine lv_bipush (v := 7) hx hb dX12_letterTells_58 (by decide) ?_
          refine cr_i (va_runV (As := [.int vk, .int 7]) (rest := []) ⟨hx, hb, hml, hown, hts⟩ (sm_letterOf l dC dI cs ad mu ok s.heap hP vk 7 (by have h51 : (7 : Int32).toInt = 7 := rfl; omega)) (cwV 2 hts (wU_V mw_6_48 mw_6_45 mw_6_47 mw_0_38 mw_1_13) rfl rfl rfl (by decide +kernel) ⟨Nat.le_of_ble_eq_true rfl, Nat.le_of_ble_eq_true rfl⟩) ⟨sz_c, va_recv hK hP (ci := 12) (q0 := 0) rfl (gM_0 cs ad mu), sz_m hK hz⟩ rfl rfl hl.1 rfl (lv_room (Nat.le_of_ble_eq_true rfl)) dX12_letterTells_60 ⟨Nat.zero_le _, Nat.zero_le _⟩) hS (fun r5 hw5 locs hS => ?_)
          obtain ⟨hfe5, hw5⟩ := hw5
          have hF := mi_let hF hfe5
          exact W.iret (v := r5) hx hb hr (fun t ht hW => ⟨⟨r5, (), rfl, ⟨hF.trans hfz.symm, trivial⟩, ht⟩, hS.F ht⟩) hS.2.2 dX12_letterTells_63
        · have hF := (if_pos c_4).symm.trans hF
          have c_4 : vw.toInt = 3 := il_eq c_4
          refine lv_aload_n hx hb dX12_letterTells_46 rfl (lv_at hl 0 rfl) ?_
          refine lv_iload_n hx hb dX12_letterTells_47 rfl (lv_at hl 1 rfl) ?_
          refine lv_bipush (v := 9) hx hb dX12_letterTells_48 (by decide) ?_
          refine cr_i (va_runV (As := [.int vk, .int 9]) (rest := []) ⟨hx, hb, hml, hown, hts⟩ (sm_letterOf l dC dI cs ad mu ok s.heap hP vk 9 (by have h51 : (9 : Int32).toInt = 9 := rfl; omega)) (cwV 2 hts (wU_V mw_6_48 mw_6_45 mw_6_47 mw_0_38 mw_1_13) rfl rfl rfl (by decide +kernel) ⟨Nat.le_of_ble_eq_true rfl, Nat.le_of_ble_eq_true rfl⟩) ⟨sz_c, va_recv hK hP (ci := 12) (q0 := 0) rfl (gM_0 cs ad mu), sz_m hK hz⟩ rfl rfl hl.1 rfl (lv_room (Nat.le_of_ble_eq_true rfl)) dX12_letterTells_50 ⟨Nat.zero_le _, Nat.zero_le _⟩) hS (fun r6 hw6 locs hS => ?_)
          obtain ⟨hfe6, hw6⟩ := hw6
          have hF := mi_let hF hfe6
          refine lv_goto (tgt := 63) hx hb dX12_letterTells_53 (by decide) ?_
          exact W.iret (v := r6) hx hb hr (fun t ht hW => ⟨⟨r6, (), rfl, ⟨hF.trans hfz.symm, trivial⟩, ht⟩, hS.F ht⟩) hS.2.2 dX12_letterTells_63
      · have hF := (if_pos c_3).symm.trans hF
        have c_3 : vw.toInt = 2 := il_eq c_3
        refine lv_aload_n hx hb dX12_letterTells_32 rfl (lv_at hl 0 rfl) ?_
        refine lv_iload_n hx hb dX12_letterTells_33 rfl (lv_at hl 1 rfl) ?_
        refine lv_iconst (v := 0) hx hb dX12_letterTells_34 (by decide) ?_
        refine cr_i (va_runV (As := [.int vk, .int 0]) (rest := []) ⟨hx, hb, hml, hown, hts⟩ (sm_worthIn l dC dI cs ad mu ok s.heap hP vk 0 (by have h51 : (0 : Int32).toInt = 0 := rfl; omega)) (cwV 2 hts (wU_V mw_6_126 mw_6_123 mw_6_125 mw_0_49 mw_1_13) rfl rfl rfl (by decide +kernel) ⟨Nat.le_of_ble_eq_true rfl, Nat.le_of_ble_eq_true rfl⟩) ⟨sz_c, va_recv hK hP (ci := 12) (q0 := 0) rfl (gM_0 cs ad mu), sz_m hK hz⟩ rfl rfl hl.1 rfl (lv_room (Nat.le_of_ble_eq_true rfl)) dX12_letterTells_35 ⟨Nat.zero_le _, Nat.zero_le _⟩) hS (fun r7 hw7 locs hS => ?_)
        obtain ⟨hfe7, hw7⟩ := hw7
        have hF := mi_let hF hfe7
        refine lv_goto (tgt := 63) hx hb dX12_letterTells_38 (by decide) ?_
        exact W.iret (v := r7) hx hb hr (fun t ht hW => ⟨⟨r7, (), rfl, ⟨hF.trans hfz.symm, trivial⟩, ht⟩, hS.F ht⟩) hS.2.2 dX12_letterTells_63
    · have hF := (if_pos c_2).symm.trans hF
      have c_2 : vw.toInt = 1 := il_eq c_2
      refine lv_aload_n hx hb dX12_letterTells_18 rfl (lv_at hl 0 rfl) ?_
      refine lv_iload_n hx hb dX12_letterTells_19 rfl (lv_at hl 1 rfl) ?_
      refine lv_iconst (v := 1) hx hb dX12_letterTells_20 (by decide) ?_
      refine cr_i (va_runV (As := [.int vk, .int 1]) (rest := []) ⟨hx, hb, hml, hown, hts⟩ (sm_letterOf l dC dI cs ad mu ok s.heap hP vk 1 (by have h51 : (1 : Int32).toInt = 1 := rfl; omega)) (cwV 2 hts (wU_V mw_6_48 mw_6_45 mw_6_47 mw_0_38 mw_1_13) rfl rfl rfl (by decide +kernel) ⟨Nat.le_of_ble_eq_true rfl, Nat.le_of_ble_eq_true rfl⟩) ⟨sz_c, va_recv hK hP (ci := 12) (q0 := 0) rfl (gM_0 cs ad mu), sz_m hK hz⟩ rfl rfl hl.1 rfl (lv_room (Nat.le_of_ble_eq_true rfl)) dX12_letterTells_21 ⟨Nat.zero_le _, Nat.zero_le _⟩) hS (fun r8 hw8 locs hS => ?_)
      obtain ⟨hfe8, hw8⟩ := hw8
      have hF := mi_let hF hfe8
      refine lv_goto (tgt := 63) hx hb dX12_letterTells_24 (by decide) ?_
      exact W.iret (v := r8) hx hb hr (fun t ht hW => ⟨⟨r8, (), rfl, ⟨hF.trans hfz.symm, trivial⟩, ht⟩, hS.F ht⟩) hS.2.2 dX12_letterTells_63
  · have hF := (if_pos c_1).symm.trans hF
    have c_1 : vw.toInt = 0 := il_eq c_1
    refine lv_aload_n hx hb dX12_letterTells_4 rfl (lv_at hl 0 rfl) ?_
    refine lv_iload_n hx hb dX12_letterTells_5 rfl (lv_at hl 1 rfl) ?_
    refine lv_iconst (v := 0) hx hb dX12_letterTells_6 (by decide) ?_
    refine cr_i (va_runV (As := [.int vk, .int 0]) (rest := []) ⟨hx, hb, hml, hown, hts⟩ (sm_letterOf l dC dI cs ad mu ok s.heap hP vk 0 (by have h51 : (0 : Int32).toInt = 0 := rfl; omega)) (cwV 2 hts (wU_V mw_6_48 mw_6_45 mw_6_47 mw_0_38 mw_1_13) rfl rfl rfl (by decide +kernel) ⟨Nat.le_of_ble_eq_true rfl, Nat.le_of_ble_eq_true rfl⟩) ⟨sz_c, va_recv hK hP (ci := 12) (q0 := 0) rfl (gM_0 cs ad mu), sz_m hK hz⟩ rfl rfl hl.1 rfl (lv_room (Nat.le_of_ble_eq_true rfl)) dX12_letterTells_7 ⟨Nat.zero_le _, Nat.zero_le _⟩) hS (fun r9 hw9 locs hS => ?_)
    obtain ⟨hfe9, hw9⟩ := hw9
    have hF := mi_let hF hfe9
    refine lv_goto (tgt := 63) hx hb dX12_letterTells_10 (by decide) ?_
    exact W.iret (v := r9) hx hb hr (fun t ht hW => ⟨⟨r9, (), rfl, ⟨hF.trans hfz.symm, trivial⟩, ht⟩, hS.F ht⟩) hS.2.2 dX12_letterTells_63
set_option maxHeartbeats 4000000 in
set_option maxRecDepth 100000 in
/-- qm_letter -/
theorem qm_letter (l : Launch) (dC : Nat → ClassId) (dI : Nat → Nat → Nat) (cs : Nat → ClassId) (ad : Nat → Nat) (mu : Nat → Nat → Int32) (ok : okR loM hiM mu) (H : Heap) (hP : va_P (dC, dI) vwCl (wR 21 ad (EM cs ad) mu) H) (hD0 : va_D (fun _ => True) (wR 21 ad (EM cs ad) mu)) (vk : Int32) (vw : Int32) : Met l yX12_letter (wU yX12_letter cX12_letter 4 (some .int)) ({ frames := 3, cells := 0, slots := 0, locals := 67 }) (va_Pc [.ref (ad 0), .int vk, .int vw] (sz_P (dC, dI) vwCl (tyM cs) H)) (va_Qi (fun (z : Int32) (xi : Nat → Nat → Int32) => (z, xi) = F_qm_letter mu vk vw ∧ okR loM hiM xi ∧ (True) ∧ (∀ k f : Nat, Nat.testBit 510 (gpM k f) = true → xi k f = mu k f)) (fun xi t => va_P (dC, dI) vwCl (wR 21 ad (EM cs ad) xi) t.heap) (va_A (wR 21 ad (EM cs ad) mu) H.size)) 0 0 (va_A (wR 21 ad (EM cs ad) mu) H.size) := by
  refine Met.ofW (cc := cX12_letter) (maxL := 4) (ret := (some .int)) (by decide) rfl ?_
  intro p e s m args below meth c s₁ B hml hv
  obtain ⟨rfl, hh, hK, hz⟩ := hv
  have hx := B.exec
  have hb := B.bytes
  have hr := B.returns
  have hts := atoms_spec (ws := (wU yX12_letter cX12_letter 4 (some .int))) B.pre
  have hown : s.vm.findClass RX12 = some m.cls := findClass_of_methodNamed B.named
  have hlocks := B.notSynchronized
  subst hh
  have hD := hD0.self (sz := s.heap.size)
  have hA : ∀ q : Nat, s.heap.size ≤ q → (va_A (wR 21 ad (EM cs ad) mu) s.heap.size) q := fun q h => Or.inr h
  have hS : va_S (va_A (wR 21 ad (EM cs ad) mu) s.heap.size) s.heap s.heap [] := va_S.rf
  have hl := lv_entry ([.ref (ad 0), .int vk, .int vw]) (n := 4) (Nat.le_of_ble_eq_true rfl)
  rw [lg_entry_eq]
  generalize (lg_sl ([.ref (ad 0), .int vk, .int vw]) ++ List.replicate (4 - (lg_sl ([.ref (ad 0), .int vk, .int vw])).length) Slot.unset).toArray = ls at hl ⊢
  have hl : lv_has ls 4 [(0, .ref (ad 0)), (1, .int vk), (2, .int vw)] := hl
  obtain ⟨fz, hfz⟩ : ∃ z, F_qm_letter mu vk vw = z := ⟨_, rfl⟩
  have hF := hfz
  unfold F_qm_letter at hF
  refine lv_iload_n hx hb dX12_letter_0 rfl (lv_at hl 2 rfl) ?_
  refine lv_iconst (v := 0) hx hb dX12_letter_1 (by decide) ?_
  refine lv_iconst (v := 4) hx hb dX12_letter_2 (by decide) ?_
  refine cr_i (va_runS (As := [.int vw, .int 0, .int 4]) (rest := []) ⟨hx, hb, hml, hown, hts⟩ (sm_in l dC dI (tyM cs) s.heap vw 0 4) (va_cwS 3 hts (wU_S mw_5_189 mw_5_187 mw_5_188 mw_1_13) rfl rfl rfl (by decide +kernel) ⟨Nat.le_of_ble_eq_true rfl, Nat.le_of_ble_eq_true rfl⟩) ⟨sz_c, sz_m hK hz⟩ rfl rfl hl.1 rfl (lv_room (Nat.le_of_ble_eq_true rfl)) dX12_letter_3 ⟨Nat.zero_le _, Nat.zero_le _⟩) hS (fun r1 hw1 locs hS => ?_)
  obtain ⟨hfe1, hw1⟩ := hw1
  rcases hw1 with ⟨rfl, f1⟩ | ⟨rfl, f1⟩
  · have hF := (if_pos hfe1.symm).symm.trans hF
    have f1 : (0 : Int) ≤ vw.toInt ∧ vw.toInt ≤ (4 : Int) := f1
    refine lv_if_ne (tgt := 13) hx hb dX12_letter_6 (by decide) (fun _ => ?_) (fun c => absurd c (by decide))
    refine lv_aload_n hx hb dX12_letter_13 rfl (lv_at hl 0 rfl) ?_
    refine lv_iload_n hx hb dX12_letter_14 rfl (lv_at hl 1 rfl) ?_
    have hFc := fr_all (wR_D mu hD) hS hA
    refine va_calli (va_runV (As := [.int vk]) (rest := []) ⟨hx, hb, hml, hown, hts⟩ (sm_askedLetter l dC dI cs ad mu ok s.heap hP ((wR_D mu hD).weaken (fun _ _ _ _ => trivial)) vk) (cwV 1 hts (wU_V mw_6_114 mw_6_111 mw_6_113 mw_0_46 mw_1_13) rfl rfl rfl (by decide +kernel) ⟨Nat.le_of_ble_eq_true rfl, Nat.le_of_ble_eq_true rfl⟩) ⟨sz_c, va_recv hK hP (ci := 12) (q0 := 0) rfl (gM_0 cs ad mu), sz_m hK hz⟩ rfl rfl hl.1 rfl (lv_room (Nat.le_of_ble_eq_true rfl)) dX12_letter_15 ⟨Nat.zero_le _, Nat.zero_le _⟩) hS (fun q _ h => hFc q h) hFc (fun r2 xi2 t H2 locs ht hvm hw2 hB hz1 hk1 hS => ?_)
    have hP : va_P (dC, dI) vwCl (wR 21 ad (EM cs ad) xi2) H2 := by rw [← ht]; exact hB
    obtain ⟨hfe2, hw2⟩ := hw2
    have hF := mi_letp hF hfe2
    rcases hw2 with ⟨rfl, hxi2, f2⟩ | ⟨z2, ok, hkp2_0⟩
    · have hF := (if_pos rfl).symm.trans hF
      have hP : va_P (dC, dI) vwCl (wR 21 ad (EM cs ad) mu) H2 := by rw [← hxi2]; exact hP
      have f2 : 0 ≤ vk.toInt ∧ vk.toInt < (mu 0 15).toInt ∧ (mu 0 15).toInt ≤ 4 := f2
      refine lv_istore_n (lv' := [(3, .int 0), (0, .ref (ad 0)), (1, .int vk), (2, .int vw)]) hx hb dX12_letter_18 rfl hl (by decide) rfl (fun ls hl => ?_)
      refine lv_iload_n hx hb dX12_letter_19 rfl (lv_at hl 0 rfl) ?_
      refine lv_if_ge (tgt := 27) hx hb dX12_letter_20 (by decide) (fun _ => ?_) (fun c => absurd (by decide) c)
      refine lv_aload_n hx hb dX12_letter_27 rfl (lv_at hl 1 rfl) ?_
      refine lv_aload_n hx hb dX12_letter_28 rfl (lv_at hl 1 rfl) ?_
      refine lv_iload_n hx hb dX12_letter_29 rfl (lv_at hl 2 rfl) ?_
      refine lv_iload_n hx hb dX12_letter_30 rfl (lv_at hl 3 rfl) ?_
      refine cr_i (va_runV (As := [.int vk, .int vw]) (rest := [.ref (ad 0)]) ⟨hx, hb, hml, hown, hts⟩ (sm_letterTells l dC dI cs ad mu ok H2 hP vk vw (by omega)) (cwV 2 hts (wU_V mw_6_146 mw_6_143 mw_6_145 mw_0_51 mw_1_13) rfl rfl rfl (by decide +kernel) ⟨Nat.le_of_ble_eq_true rfl, Nat.le_of_ble_eq_true rfl⟩) ⟨sz_c, va_recv hK hP (ci := 12) (q0 := 0) rfl (gM_0 cs ad mu), sz_m hK hz⟩ rfl rfl hl.1 rfl (lv_room (Nat.le_of_ble_eq_true rfl)) dX12_letter_31 ⟨Nat.zero_le _, Nat.zero_le _⟩) hS (fun r4 hw4 locs hS => ?_)
      obtain ⟨hfe4, hw4⟩ := hw4
      have hF := mi_let hF hfe4
      refine lv_iconst (v := 1) hx hb dX12_letter_34 (by decide) ?_
      have hFc := fr_all (wR_D mu hD) hS hA
      refine va_calli (va_runV (As := [.int r4, .int 1]) (rest := []) ⟨hx, hb, hml, hown, hts⟩ (sm_ask l dC dI cs ad mu ok H2 hP ((wR_D mu hD).weaken (fun _ _ _ _ => trivial)) r4 1) (cwV 2 hts (wU_V mw_5_213 mw_5_210 mw_5_212 mw_0_30 mw_1_13) rfl rfl rfl (by decide +kernel) ⟨Nat.le_of_ble_eq_true rfl, Nat.le_of_ble_eq_true rfl⟩) ⟨sz_c, va_recv hK hP (ci := 12) (q0 := 0) rfl (gM_0 cs ad mu), sz_m hK hz⟩ rfl rfl hl.1 rfl (lv_room (Nat.le_of_ble_eq_true rfl)) dX12_letter_35 ⟨Nat.zero_le _, Nat.zero_le _⟩) hS (fun q _ h => hFc q h) hFc (fun r5 xi5 t H5 locs ht hvm hw5 hB hz1 hk1 hS => ?_)
      have hP : va_P (dC, dI) vwCl (wR 21 ad (EM cs ad) xi5) H5 := by rw [← ht]; exact hB
      obtain ⟨hfe5, ok, hw5, hkp5_0⟩ := hw5
      have hF := mi_letp hF hfe5
      have kp6 : (∀ k f : Nat, Nat.testBit 510 (gpM k f) = true → xi5 k f = mu k f) := kp_t hkp5_0 (by decide) (fun _ _ _ => rfl)
      have gr5 : r5.toInt = (1 : Int) := hw5
      exact W.iret (v := r5) hx hb hr (fun t ht hW => ⟨⟨r5, xi5, rfl, ⟨hF.trans hfz.symm, ok, trivial, kp6⟩, by first | (subst ht; exact hP) | (rw [ht]; exact hP) | (show va_P (dC, dI) vwCl (wR 21 ad (EM cs ad) xi5) t.heap; rw [ht]; exact hP)⟩, hS.F ht⟩) hS.2.2 dX12_letter_38
    · have hF := (if_neg (show ¬ r2 = 0 from fun h => by have h9 := congrArg Int32.toInt h; have h8 : (0 : Int32).toInt = 0 := rfl; omega)).symm.trans hF
      have kp3 : (∀ k f : Nat, Nat.testBit 510 (gpM k f) = true → xi2 k f = mu k f) := kp_t hkp2_0 (by decide) (fun _ _ _ => rfl)
      skip
      refine lv_istore_n (lv' := [(3, .int r2), (0, .ref (ad 0)), (1, .int vk), (2, .int vw)]) hx hb dX12_letter_18 rfl hl (by decide) rfl (fun ls hl => ?_)
      refine lv_iload_n hx hb dX12_letter_19 rfl (lv_at hl 0 rfl) ?_
      refine lv_if_ge (tgt := 27) hx hb dX12_letter_20 (by decide) (fun c_7 => by have c_7 : 0 ≤ r2.toInt := il_le c_7; exfalso; omega) (fun c_7 => ?_)
      have c_7 : r2.toInt < 0 := il_nle c_7
      refine lv_iload_n hx hb dX12_letter_23 rfl (lv_at hl 0 rfl) ?_
      refine lv_goto (tgt := 38) hx hb dX12_letter_24 (by decide) ?_
      exact W.iret (v := r2) hx hb hr (fun t ht hW => ⟨⟨r2, xi2, rfl, ⟨hF.trans hfz.symm, ok, trivial, kp3⟩, by first | (subst ht; exact hP) | (rw [ht]; exact hP) | (show va_P (dC, dI) vwCl (wR 21 ad (EM cs ad) xi2) t.heap; rw [ht]; exact hP)⟩, hS.F ht⟩) hS.2.2 dX12_letter_38
  · have hF := (if_neg (fun h => absurd (hfe1.trans h) (by decide))).symm.trans hF
    have f1 : vw.toInt < (0 : Int) ∨ (4 : Int) < vw.toInt := f1
    refine lv_if_ne (tgt := 13) hx hb dX12_letter_6 (by decide) (fun c => absurd (by decide) c) (fun _ => ?_)
    refine lv_iconst (v := (-1)) hx hb dX12_letter_9 (by decide) ?_
    refine lv_goto (tgt := 18) hx hb dX12_letter_10 (by decide) ?_
    refine lv_istore_n (lv' := [(3, .int (-1)), (0, .ref (ad 0)), (1, .int vk), (2, .int vw)]) hx hb dX12_letter_18 rfl hl (by decide) rfl (fun ls hl => ?_)
    refine lv_iload_n hx hb dX12_letter_19 rfl (lv_at hl 0 rfl) ?_
    refine lv_if_ge (tgt := 27) hx hb dX12_letter_20 (by decide) (fun c => absurd c (by decide)) (fun _ => ?_)
    refine lv_iload_n hx hb dX12_letter_23 rfl (lv_at hl 0 rfl) ?_
    refine lv_goto (tgt := 38) hx hb dX12_letter_24 (by decide) ?_
    exact W.iret (v := (-1)) hx hb hr (fun t ht hW => ⟨⟨(-1), mu, rfl, ⟨hF.trans hfz.symm, ok, trivial, (fun _ _ _ => rfl)⟩, by first | (subst ht; exact hP) | (rw [ht]; exact hP) | (show va_P (dC, dI) vwCl (wR 21 ad (EM cs ad) mu) t.heap; rw [ht]; exact hP)⟩, hS.F ht⟩) hS.2.2 dX12_letter_38
set_option maxHeartbeats 4000000 in
set_option maxRecDepth 100000 in
/-- qm_can -/
theorem qm_can (l : Launch) (dC : Nat → ClassId) (dI : Nat → Nat → Nat) (cs : Nat → ClassId) (ad : Nat → Nat) (mu : Nat → Nat → Int32) (ok : okR loM hiM mu) (H : Heap) (hP : va_P (dC, dI) vwCl (wR 21 ad (EM cs ad) mu) H) (hD0 : va_D (fun _ => True) (wR 21 ad (EM cs ad) mu)) (vk : Int32) : Met l yX12_can (wU yX12_can cX12_can 3 (some .int)) ({ frames := 3, cells := 0, slots := 0, locals := 73 }) (va_Pc [.ref (ad 0), .int vk] (sz_P (dC, dI) vwCl (tyM cs) H)) (va_Qi (fun (z : Int32) (xi : Nat → Nat → Int32) => (z, xi) = F_qm_can mu vk ∧ okR loM hiM xi ∧ (True) ∧ (∀ k f : Nat, Nat.testBit 510 (gpM k f) = true → xi k f = mu k f)) (fun xi t => va_P (dC, dI) vwCl (wR 21 ad (EM cs ad) xi) t.heap) (va_A (wR 21 ad (EM cs ad) mu) H.size)) 0 0 (va_A (wR 21 ad (EM cs ad) mu) H.size) := by
  refine Met.ofW (cc := cX12_can) (maxL := 3) (ret := (some .int)) (by decide) rfl ?_
  intro p e s m args below meth c s₁ B hml hv
  obtain ⟨rfl, hh, hK, hz⟩ := hv
  have hx := B.exec
  have hb := B.bytes
  have hr := B.returns
  have hts := atoms_spec (ws := (wU yX12_can cX12_can 3 (some .int))) B.pre
  have hown : s.vm.findClass RX12 = some m.cls := findClass_of_methodNamed B.named
  have hlocks := B.notSynchronized
  subst hh
  have hD := hD0.self (sz := s.heap.size)
  have hA : ∀ q : Nat, s.heap.size ≤ q → (va_A (wR 21 ad (EM cs ad) mu) s.heap.size) q := fun q h => Or.inr h
  have hS : va_S (va_A (wR 21 ad (EM cs ad) mu) s.heap.size) s.heap s.heap [] := va_S.rf
  have hl := lv_entry ([.ref (ad 0), .int vk]) (n := 3) (Nat.le_of_ble_eq_true rfl)
  rw [lg_entry_eq]
  generalize (lg_sl ([.ref (ad 0), .int vk]) ++ List.replicate (3 - (lg_sl ([.ref (ad 0), .int vk])).length) Slot.unset).toArray = ls at hl ⊢
  have hl : lv_has ls 3 [(0, .ref (ad 0)), (1, .int vk)] := hl
  obtain ⟨fz, hfz⟩ : ∃ z, F_qm_can mu vk = z := ⟨_, rfl⟩
  have hF := hfz
  unfold F_qm_can at hF
  refine lv_aload_n hx hb dX12_can_0 rfl (lv_at hl 0 rfl) ?_
  refine lv_iload_n hx hb dX12_can_1 rfl (lv_at hl 1 rfl) ?_
  have hFc := fr_all (wR_D mu hD) hS hA
  refine va_calli (va_runV (As := [.int vk]) (rest := []) ⟨hx, hb, hml, hown, hts⟩ (sm_askedLetter l dC dI cs ad mu ok s.heap hP ((wR_D mu hD).weaken (fun _ _ _ _ => trivial)) vk) (cwV 1 hts (wU_V mw_6_114 mw_6_111 mw_6_113 mw_0_46 mw_1_13) rfl rfl rfl (by decide +kernel) ⟨Nat.le_of_ble_eq_true rfl, Nat.le_of_ble_eq_true rfl⟩) ⟨sz_c, va_recv hK hP (ci := 12) (q0 := 0) rfl (gM_0 cs ad mu), sz_m hK hz⟩ rfl rfl hl.1 rfl (lv_room (Nat.le_of_ble_eq_true rfl)) dX12_can_2 ⟨Nat.zero_le _, Nat.zero_le _⟩) hS (fun q _ h => hFc q h) hFc (fun r1 xi1 t H1 locs ht hvm hw1 hB hz1 hk1 hS => ?_)
  have hP : va_P (dC, dI) vwCl (wR 21 ad (EM cs ad) xi1) H1 := by rw [← ht]; exact hB
  obtain ⟨hfe1, hw1⟩ := hw1
  have hF := mi_letp hF hfe1
  rcases hw1 with ⟨rfl, hxi1, f1⟩ | ⟨z1, ok, hkp1_0⟩
  · have hF := (if_pos rfl).symm.trans hF
    have hP : va_P (dC, dI) vwCl (wR 21 ad (EM cs ad) mu) H1 := by rw [← hxi1]; exact hP
    have f1 : 0 ≤ vk.toInt ∧ vk.toInt < (mu 0 15).toInt ∧ (mu 0 15).toInt ≤ 4 := f1
    refine lv_istore_n (lv' := [(2, .int 0), (0, .ref (ad 0)), (1, .int vk)]) hx hb dX12_can_5 rfl hl (by decide) rfl (fun ls hl => ?_)
    refine lv_iload_n hx hb dX12_can_6 rfl (lv_at hl 0 rfl) ?_
    refine lv_if_ge (tgt := 14) hx hb dX12_can_7 (by decide) (fun _ => ?_) (fun c => absurd (by decide) c)
    refine lv_aload_n hx hb dX12_can_14 rfl (lv_at hl 1 rfl) ?_
    refine lv_iload_n hx hb dX12_can_15 rfl (lv_at hl 2 rfl) ?_
    refine cr_i (va_runV (As := [.int vk]) (rest := []) ⟨hx, hb, hml, hown, hts⟩ (sm_canSell l dC dI cs ad mu ok H1 hP vk (by omega)) (cwV 1 hts (wU_V mw_6_118 mw_6_115 mw_6_117 mw_0_47 mw_1_13) rfl rfl rfl (by decide +kernel) ⟨Nat.le_of_ble_eq_true rfl, Nat.le_of_ble_eq_true rfl⟩) ⟨sz_c, va_recv hK hP (ci := 12) (q0 := 0) rfl (gM_0 cs ad mu), sz_m hK hz⟩ rfl rfl hl.1 rfl (lv_room (Nat.le_of_ble_eq_true rfl)) dX12_can_16 ⟨Nat.zero_le _, Nat.zero_le _⟩) hS (fun r3 hw3 locs hS => ?_)
    obtain ⟨hfe3, hw3⟩ := hw3
    have hF := mi_let hF hfe3
    have gr3 : 0 ≤ r3.toInt ∧ r3.toInt ≤ 127 := hw3
    exact W.iret (v := r3) hx hb hr (fun t ht hW => ⟨⟨r3, mu, rfl, ⟨hF.trans hfz.symm, ok, trivial, (fun _ _ _ => rfl)⟩, by first | (subst ht; exact hP) | (rw [ht]; exact hP) | (show va_P (dC, dI) vwCl (wR 21 ad (EM cs ad) mu) t.heap; rw [ht]; exact hP)⟩, hS.F ht⟩) hS.2.2 dX12_can_19
  · have hF := (if_neg (show ¬ r1 = 0 from fun h => by have h9 := congrArg Int32.toInt h; have h8 : (0 : Int32).toInt = 0 := rfl; omega)).symm.trans hF
    have kp2 : (∀ k f : Nat, Nat.testBit 510 (gpM k f) = true → xi1 k f = mu k f) := kp_t hkp1_0 (by decide) (fun _ _ _ => rfl)
    skip
    refine lv_istore_n (lv' := [(2, .int r1), (0, .ref (ad 0)), (1, .int vk)]) hx hb dX12_can_5 rfl hl (by decide) rfl (fun ls hl => ?_)
    refine lv_iload_n hx hb dX12_can_6 rfl (lv_at hl 0 rfl) ?_
    refine lv_if_ge (tgt := 14) hx hb dX12_can_7 (by decide) (fun c_4 => by have c_4 : 0 ≤ r1.toInt := il_le c_4; exfalso; omega) (fun c_4 => ?_)
    have c_4 : r1.toInt < 0 := il_nle c_4
    refine lv_iload_n hx hb dX12_can_10 rfl (lv_at hl 0 rfl) ?_
    refine lv_goto (tgt := 19) hx hb dX12_can_11 (by decide) ?_
    exact W.iret (v := r1) hx hb hr (fun t ht hW => ⟨⟨r1, xi1, rfl, ⟨hF.trans hfz.symm, ok, trivial, kp2⟩, by first | (subst ht; exact hP) | (rw [ht]; exact hP) | (show va_P (dC, dI) vwCl (wR 21 ad (EM cs ad) xi1) t.heap; rw [ht]; exact hP)⟩, hS.F ht⟩) hS.2.2 dX12_can_19
theorem rM_14_s {mu : Nat → Nat → Int32} (ok : okR loM hiM mu) (f : Nat) : (f % 12 = 0 → 0 ≤ (mu 14 f).toInt ∧ (mu 14 f).toInt ≤ 3) ∧ (f % 12 = 1 → 0 ≤ (mu 14 f).toInt ∧ (mu 14 f).toInt ≤ 6) := by
  have h : (if f % 12 = 0 then 0 else if f % 12 = 1 then 0 else -2147483648) ≤ (mu 14 f).toInt ∧ (mu 14 f).toInt ≤ (if f % 12 = 0 then 3 else if f % 12 = 1 then 6 else 2147483647) := ok 14 f
  refine ⟨fun c => ?_, fun c => ?_⟩ <;> (simp (discharger := omega) only [if_pos, if_neg] at h; exact h)
theorem rM_15_s {mu : Nat → Nat → Int32} (ok : okR loM hiM mu) (f : Nat) : (f % 64 = 2 → 0 ≤ (mu 15 f).toInt ∧ (mu 15 f).toInt ≤ 4) ∧ (f % 64 = 15 → 0 ≤ (mu 15 f).toInt ∧ (mu 15 f).toInt ≤ 6) ∧ (f % 64 = 25 → 0 ≤ (mu 15 f).toInt ∧ (mu 15 f).toInt ≤ 6) ∧ (f % 64 = 35 → 0 ≤ (mu 15 f).toInt ∧ (mu 15 f).toInt ≤ 6) ∧ (f % 64 = 45 → 0 ≤ (mu 15 f).toInt ∧ (mu 15 f).toInt ≤ 6) := by
  have h : (if f % 64 = 2 then 0 else if f % 64 = 15 then 0 else if f % 64 = 25 then 0 else if f % 64 = 35 then 0 else if f % 64 = 45 then 0 else -2147483648) ≤ (mu 15 f).toInt ∧ (mu 15 f).toInt ≤ (if f % 64 = 2 then 4 else if f % 64 = 15 then 6 else if f % 64 = 25 then 6 else if f % 64 = 35 then 6 else if f % 64 = 45 then 6 else 2147483647) := ok 15 f
  refine ⟨fun c => ?_, fun c => ?_, fun c => ?_, fun c => ?_, fun c => ?_⟩ <;> (simp (discharger := omega) only [if_pos, if_neg] at h; exact h)
theorem lb_X12_undo_0 : dl_ck (cX12_undo.data.toList.drop 0) [27, 3, 42, 180, 0, 151, 184, 0, 77, 154, 0, 5, 2, 172, 42, 180, 0, 151, 27, 100, 61, 42, 180, 0, 151, 4, 100, 62, 29, 27, 161, 0] = true := by decide +kernel
theorem lb_X12_undo_1 : dl_ck (cX12_undo.data.toList.drop 32) [136, 16, 12, 29, 104, 54, 4, 42, 180, 0, 49, 21, 4, 46, 54, 5, 42, 21, 5, 8, 42, 180, 0, 49, 21, 4, 4, 96, 46, 182, 0, 188] = true := by decide +kernel
theorem lb_X12_undo_2 : dl_ck (cX12_undo.data.toList.drop 64) [42, 21, 5, 16, 6, 42, 180, 0, 49, 21, 4, 5, 96, 46, 182, 0, 188, 42, 21, 5, 16, 8, 42, 180, 0, 49, 21, 4, 6, 96, 46, 182] = true := by decide +kernel
theorem lb_X12_undo_3 : dl_ck (cX12_undo.data.toList.drop 96) [0, 188, 42, 21, 5, 16, 7, 42, 21, 5, 16, 7, 182, 0, 161, 4, 100, 182, 0, 188, 42, 21, 5, 16, 9, 3, 182, 0, 188, 3, 54, 6] = true := by decide +kernel
theorem lb_X12_undo_4 : dl_ck (cX12_undo.data.toList.drop 128) [21, 6, 16, 7, 162, 0, 28, 42, 180, 0, 31, 21, 6, 42, 180, 0, 49, 21, 4, 8, 96, 21, 6, 96, 46, 79, 132, 6, 1, 167, 255, 227] = true := by decide +kernel
theorem lb_X12_undo_5 : dl_ck (cX12_undo.data.toList.drop 160) [132, 3, 255, 167, 255, 121, 42, 27, 181, 0, 151, 28, 172] = true := by decide +kernel
theorem dX12_undo_0 : decode cX12_undo 0 = .ok (.iload_n 1, 1) := dx_27 (dl_at 0 0 lb_X12_undo_0 rfl)
theorem dX12_undo_1 : decode cX12_undo 1 = .ok (.iconst 0, 1) := dx_3 (dl_at 0 1 lb_X12_undo_0 rfl)
theorem dX12_undo_2 : decode cX12_undo 2 = .ok (.aload_n 0, 1) := dx_42 (dl_at 0 2 lb_X12_undo_0 rfl)
theorem dX12_undo_3 : decode cX12_undo 3 = .ok (.getfield 151, 3) := dx_180 (a := 0) (b := 151) (dl_at 0 3 lb_X12_undo_0 rfl) (dl_at 0 4 lb_X12_undo_0 rfl) (dl_at 0 5 lb_X12_undo_0 rfl) rfl
theorem dX12_undo_6 : decode cX12_undo 6 = .ok (.invokestatic 77, 3) := dx_184 (a := 0) (b := 77) (dl_at 0 6 lb_X12_undo_0 rfl) (dl_at 0 7 lb_X12_undo_0 rfl) (dl_at 0 8 lb_X12_undo_0 rfl) rfl
theorem dX12_undo_9 : decode cX12_undo 9 = .ok (.ifCond .ne 5, 3) := dx_154 (a := 0) (b := 5) (dl_at 0 9 lb_X12_undo_0 rfl) (dl_at 0 10 lb_X12_undo_0 rfl) (dl_at 0 11 lb_X12_undo_0 rfl) sg16_5
theorem dX12_undo_14 : decode cX12_undo 14 = .ok (.aload_n 0, 1) := dx_42 (dl_at 0 14 lb_X12_undo_0 rfl)
theorem dX12_undo_15 : decode cX12_undo 15 = .ok (.getfield 151, 3) := dx_180 (a := 0) (b := 151) (dl_at 0 15 lb_X12_undo_0 rfl) (dl_at 0 16 lb_X12_undo_0 rfl) (dl_at 0 17 lb_X12_undo_0 rfl) rfl
theorem dX12_undo_18 : decode cX12_undo 18 = .ok (.iload_n 1, 1) := dx_27 (dl_at 0 18 lb_X12_undo_0 rfl)
theorem dX12_undo_19 : decode cX12_undo 19 = .ok (.isub, 1) := dx_100 (dl_at 0 19 lb_X12_undo_0 rfl)
theorem dX12_undo_20 : decode cX12_undo 20 = .ok (.istore_n 2, 1) := dx_61 (dl_at 0 20 lb_X12_undo_0 rfl)
theorem dX12_undo_21 : decode cX12_undo 21 = .ok (.aload_n 0, 1) := dx_42 (dl_at 0 21 lb_X12_undo_0 rfl)
theorem dX12_undo_22 : decode cX12_undo 22 = .ok (.getfield 151, 3) := dx_180 (a := 0) (b := 151) (dl_at 0 22 lb_X12_undo_0 rfl) (dl_at 0 23 lb_X12_undo_0 rfl) (dl_at 0 24 lb_X12_undo_0 rfl) rfl
theorem dX12_undo_25 : decode cX12_undo 25 = .ok (.iconst 1, 1) := dx_4 (dl_at 0 25 lb_X12_undo_0 rfl)
theorem dX12_undo_26 : decode cX12_undo 26 = .ok (.isub, 1) := dx_100 (dl_at 0 26 lb_X12_undo_0 rfl)
theorem dX12_undo_27 : decode cX12_undo 27 = .ok (.istore_n 3, 1) := dx_62 (dl_at 0 27 lb_X12_undo_0 rfl)
theorem dX12_undo_28 : decode cX12_undo 28 = .ok (.iload_n 3, 1) := dx_29 (dl_at 0 28 lb_X12_undo_0 rfl)
theorem dX12_undo_29 : decode cX12_undo 29 = .ok (.iload_n 1, 1) := dx_27 (dl_at 0 29 lb_X12_undo_0 rfl)
theorem dX12_undo_30 : decode cX12_undo 30 = .ok (.if_icmp .lt 136, 3) := dx_161 (a := 0) (b := 136) (dl_at 0 30 lb_X12_undo_0 rfl) (dl_at 0 31 lb_X12_undo_0 rfl) (dl_at 32 0 lb_X12_undo_1 rfl) sg16_136
theorem dX12_undo_166 : decode cX12_undo 166 = .ok (.aload_n 0, 1) := dx_42 (dl_at 160 6 lb_X12_undo_5 rfl)
theorem dX12_undo_167 : decode cX12_undo 167 = .ok (.iload_n 1, 1) := dx_27 (dl_at 160 7 lb_X12_undo_5 rfl)
theorem dX12_undo_168 : decode cX12_undo 168 = .ok (.putfield 151, 3) := dx_181 (a := 0) (b := 151) (dl_at 160 8 lb_X12_undo_5 rfl) (dl_at 160 9 lb_X12_undo_5 rfl) (dl_at 160 10 lb_X12_undo_5 rfl) rfl
theorem dX12_undo_171 : decode cX12_undo 171 = .ok (.iload_n 2, 1) := dx_28 (dl_at 160 11 lb_X12_undo_5 rfl)
theorem dX12_undo_172 : decode cX12_undo 172 = .ok (.ireturn, 1) := dx_172 (dl_at 160 12 lb_X12_undo_5 rfl)
theorem dX12_undo_33 : decode cX12_undo 33 = .ok (.bipush 12, 2) := dx_16 (dl_at 32 1 lb_X12_undo_1 rfl) (dl_at 32 2 lb_X12_undo_1 rfl) sg8_12
theorem dX12_undo_35 : decode cX12_undo 35 = .ok (.iload_n 3, 1) := dx_29 (dl_at 32 3 lb_X12_undo_1 rfl)
theorem dX12_undo_36 : decode cX12_undo 36 = .ok (.imul, 1) := dx_104 (dl_at 32 4 lb_X12_undo_1 rfl)
theorem dX12_undo_37 : decode cX12_undo 37 = .ok (.istore 4, 2) := dx_54 (dl_at 32 5 lb_X12_undo_1 rfl) (dl_at 32 6 lb_X12_undo_1 rfl)
theorem dX12_undo_39 : decode cX12_undo 39 = .ok (.aload_n 0, 1) := dx_42 (dl_at 32 7 lb_X12_undo_1 rfl)
theorem dX12_undo_40 : decode cX12_undo 40 = .ok (.getfield 49, 3) := dx_180 (a := 0) (b := 49) (dl_at 32 8 lb_X12_undo_1 rfl) (dl_at 32 9 lb_X12_undo_1 rfl) (dl_at 32 10 lb_X12_undo_1 rfl) rfl
theorem dX12_undo_43 : decode cX12_undo 43 = .ok (.iload 4, 2) := dx_21 (dl_at 32 11 lb_X12_undo_1 rfl) (dl_at 32 12 lb_X12_undo_1 rfl)
theorem dX12_undo_45 : decode cX12_undo 45 = .ok (.iaload, 1) := dx_46 (dl_at 32 13 lb_X12_undo_1 rfl)
theorem dX12_undo_46 : decode cX12_undo 46 = .ok (.istore 5, 2) := dx_54 (dl_at 32 14 lb_X12_undo_1 rfl) (dl_at 32 15 lb_X12_undo_1 rfl)
theorem dX12_undo_48 : decode cX12_undo 48 = .ok (.aload_n 0, 1) := dx_42 (dl_at 32 16 lb_X12_undo_1 rfl)
theorem dX12_undo_49 : decode cX12_undo 49 = .ok (.iload 5, 2) := dx_21 (dl_at 32 17 lb_X12_undo_1 rfl) (dl_at 32 18 lb_X12_undo_1 rfl)
theorem dX12_undo_51 : decode cX12_undo 51 = .ok (.iconst 5, 1) := dx_8 (dl_at 32 19 lb_X12_undo_1 rfl)
theorem dX12_undo_52 : decode cX12_undo 52 = .ok (.aload_n 0, 1) := dx_42 (dl_at 32 20 lb_X12_undo_1 rfl)
theorem dX12_undo_53 : decode cX12_undo 53 = .ok (.getfield 49, 3) := dx_180 (a := 0) (b := 49) (dl_at 32 21 lb_X12_undo_1 rfl) (dl_at 32 22 lb_X12_undo_1 rfl) (dl_at 32 23 lb_X12_undo_1 rfl) rfl
theorem dX12_undo_56 : decode cX12_undo 56 = .ok (.iload 4, 2) := dx_21 (dl_at 32 24 lb_X12_undo_1 rfl) (dl_at 32 25 lb_X12_undo_1 rfl)
theorem dX12_undo_58 : decode cX12_undo 58 = .ok (.iconst 1, 1) := dx_4 (dl_at 32 26 lb_X12_undo_1 rfl)
theorem dX12_undo_59 : decode cX12_undo 59 = .ok (.iadd, 1) := dx_96 (dl_at 32 27 lb_X12_undo_1 rfl)
theorem dX12_undo_60 : decode cX12_undo 60 = .ok (.iaload, 1) := dx_46 (dl_at 32 28 lb_X12_undo_1 rfl)
theorem dX12_undo_61 : decode cX12_undo 61 = .ok (.invokevirtual 188, 3) := dx_182 (a := 0) (b := 188) (dl_at 32 29 lb_X12_undo_1 rfl) (dl_at 32 30 lb_X12_undo_1 rfl) (dl_at 32 31 lb_X12_undo_1 rfl) rfl
theorem dX12_undo_64 : decode cX12_undo 64 = .ok (.aload_n 0, 1) := dx_42 (dl_at 64 0 lb_X12_undo_2 rfl)
theorem dX12_undo_65 : decode cX12_undo 65 = .ok (.iload 5, 2) := dx_21 (dl_at 64 1 lb_X12_undo_2 rfl) (dl_at 64 2 lb_X12_undo_2 rfl)
theorem dX12_undo_67 : decode cX12_undo 67 = .ok (.bipush 6, 2) := dx_16 (dl_at 64 3 lb_X12_undo_2 rfl) (dl_at 64 4 lb_X12_undo_2 rfl) sg8_6
theorem dX12_undo_69 : decode cX12_undo 69 = .ok (.aload_n 0, 1) := dx_42 (dl_at 64 5 lb_X12_undo_2 rfl)
theorem dX12_undo_70 : decode cX12_undo 70 = .ok (.getfield 49, 3) := dx_180 (a := 0) (b := 49) (dl_at 64 6 lb_X12_undo_2 rfl) (dl_at 64 7 lb_X12_undo_2 rfl) (dl_at 64 8 lb_X12_undo_2 rfl) rfl
theorem dX12_undo_73 : decode cX12_undo 73 = .ok (.iload 4, 2) := dx_21 (dl_at 64 9 lb_X12_undo_2 rfl) (dl_at 64 10 lb_X12_undo_2 rfl)
theorem dX12_undo_75 : decode cX12_undo 75 = .ok (.iconst 2, 1) := dx_5 (dl_at 64 11 lb_X12_undo_2 rfl)
theorem dX12_undo_76 : decode cX12_undo 76 = .ok (.iadd, 1) := dx_96 (dl_at 64 12 lb_X12_undo_2 rfl)
theorem dX12_undo_77 : decode cX12_undo 77 = .ok (.iaload, 1) := dx_46 (dl_at 64 13 lb_X12_undo_2 rfl)
theorem dX12_undo_78 : decode cX12_undo 78 = .ok (.invokevirtual 188, 3) := dx_182 (a := 0) (b := 188) (dl_at 64 14 lb_X12_undo_2 rfl) (dl_at 64 15 lb_X12_undo_2 rfl) (dl_at 64 16 lb_X12_undo_2 rfl) rfl
theorem dX12_undo_81 : decode cX12_undo 81 = .ok (.aload_n 0, 1) := dx_42 (dl_at 64 17 lb_X12_undo_2 rfl)
theorem dX12_undo_82 : decode cX12_undo 82 = .ok (.iload 5, 2) := dx_21 (dl_at 64 18 lb_X12_undo_2 rfl) (dl_at 64 19 lb_X12_undo_2 rfl)
theorem dX12_undo_84 : decode cX12_undo 84 = .ok (.bipush 8, 2) := dx_16 (dl_at 64 20 lb_X12_undo_2 rfl) (dl_at 64 21 lb_X12_undo_2 rfl) sg8_8
theorem dX12_undo_86 : decode cX12_undo 86 = .ok (.aload_n 0, 1) := dx_42 (dl_at 64 22 lb_X12_undo_2 rfl)
theorem dX12_undo_87 : decode cX12_undo 87 = .ok (.getfield 49, 3) := dx_180 (a := 0) (b := 49) (dl_at 64 23 lb_X12_undo_2 rfl) (dl_at 64 24 lb_X12_undo_2 rfl) (dl_at 64 25 lb_X12_undo_2 rfl) rfl
theorem dX12_undo_90 : decode cX12_undo 90 = .ok (.iload 4, 2) := dx_21 (dl_at 64 26 lb_X12_undo_2 rfl) (dl_at 64 27 lb_X12_undo_2 rfl)
theorem dX12_undo_92 : decode cX12_undo 92 = .ok (.iconst 3, 1) := dx_6 (dl_at 64 28 lb_X12_undo_2 rfl)
theorem dX12_undo_93 : decode cX12_undo 93 = .ok (.iadd, 1) := dx_96 (dl_at 64 29 lb_X12_undo_2 rfl)
theorem dX12_undo_94 : decode cX12_undo 94 = .ok (.iaload, 1) := dx_46 (dl_at 64 30 lb_X12_undo_2 rfl)
theorem dX12_undo_95 : decode cX12_undo 95 = .ok (.invokevirtual 188, 3) := dx_182 (a := 0) (b := 188) (dl_at 64 31 lb_X12_undo_2 rfl) (dl_at 96 0 lb_X12_undo_3 rfl) (dl_at 96 1 lb_X12_undo_3 rfl) rfl
theorem dX12_undo_98 : decode cX12_undo 98 = .ok (.aload_n 0, 1) := dx_42 (dl_at 96 2 lb_X12_undo_3 rfl)
theorem dX12_undo_99 : decode cX12_undo 99 = .ok (.iload 5, 2) := dx_21 (dl_at 96 3 lb_X12_undo_3 rfl) (dl_at 96 4 lb_X12_undo_3 rfl)
theorem dX12_undo_101 : decode cX12_undo 101 = .ok (.bipush 7, 2) := dx_16 (dl_at 96 5 lb_X12_undo_3 rfl) (dl_at 96 6 lb_X12_undo_3 rfl) sg8_7
theorem dX12_undo_103 : decode cX12_undo 103 = .ok (.aload_n 0, 1) := dx_42 (dl_at 96 7 lb_X12_undo_3 rfl)
theorem dX12_undo_104 : decode cX12_undo 104 = .ok (.iload 5, 2) := dx_21 (dl_at 96 8 lb_X12_undo_3 rfl) (dl_at 96 9 lb_X12_undo_3 rfl)
theorem dX12_undo_106 : decode cX12_undo 106 = .ok (.bipush 7, 2) := dx_16 (dl_at 96 10 lb_X12_undo_3 rfl) (dl_at 96 11 lb_X12_undo_3 rfl) sg8_7
theorem dX12_undo_108 : decode cX12_undo 108 = .ok (.invokevirtual 161, 3) := dx_182 (a := 0) (b := 161) (dl_at 96 12 lb_X12_undo_3 rfl) (dl_at 96 13 lb_X12_undo_3 rfl) (dl_at 96 14 lb_X12_undo_3 rfl) rfl
theorem dX12_undo_111 : decode cX12_undo 111 = .ok (.iconst 1, 1) := dx_4 (dl_at 96 15 lb_X12_undo_3 rfl)
theorem dX12_undo_112 : decode cX12_undo 112 = .ok (.isub, 1) := dx_100 (dl_at 96 16 lb_X12_undo_3 rfl)
theorem dX12_undo_113 : decode cX12_undo 113 = .ok (.invokevirtual 188, 3) := dx_182 (a := 0) (b := 188) (dl_at 96 17 lb_X12_undo_3 rfl) (dl_at 96 18 lb_X12_undo_3 rfl) (dl_at 96 19 lb_X12_undo_3 rfl) rfl
theorem dX12_undo_116 : decode cX12_undo 116 = .ok (.aload_n 0, 1) := dx_42 (dl_at 96 20 lb_X12_undo_3 rfl)
theorem dX12_undo_117 : decode cX12_undo 117 = .ok (.iload 5, 2) := dx_21 (dl_at 96 21 lb_X12_undo_3 rfl) (dl_at 96 22 lb_X12_undo_3 rfl)
theorem dX12_undo_119 : decode cX12_undo 119 = .ok (.bipush 9, 2) := dx_16 (dl_at 96 23 lb_X12_undo_3 rfl) (dl_at 96 24 lb_X12_undo_3 rfl) sg8_9
theorem dX12_undo_121 : decode cX12_undo 121 = .ok (.iconst 0, 1) := dx_3 (dl_at 96 25 lb_X12_undo_3 rfl)
theorem dX12_undo_122 : decode cX12_undo 122 = .ok (.invokevirtual 188, 3) := dx_182 (a := 0) (b := 188) (dl_at 96 26 lb_X12_undo_3 rfl) (dl_at 96 27 lb_X12_undo_3 rfl) (dl_at 96 28 lb_X12_undo_3 rfl) rfl
theorem dX12_undo_125 : decode cX12_undo 125 = .ok (.iconst 0, 1) := dx_3 (dl_at 96 29 lb_X12_undo_3 rfl)
theorem dX12_undo_126 : decode cX12_undo 126 = .ok (.istore 6, 2) := dx_54 (dl_at 96 30 lb_X12_undo_3 rfl) (dl_at 96 31 lb_X12_undo_3 rfl)
theorem dX12_undo_128 : decode cX12_undo 128 = .ok (.iload 6, 2) := dx_21 (dl_at 128 0 lb_X12_undo_4 rfl) (dl_at 128 1 lb_X12_undo_4 rfl)
theorem dX12_undo_130 : decode cX12_undo 130 = .ok (.bipush 7, 2) := dx_16 (dl_at 128 2 lb_X12_undo_4 rfl) (dl_at 128 3 lb_X12_undo_4 rfl) sg8_7
theorem dX12_undo_132 : decode cX12_undo 132 = .ok (.if_icmp .ge 28, 3) := dx_162 (a := 0) (b := 28) (dl_at 128 4 lb_X12_undo_4 rfl) (dl_at 128 5 lb_X12_undo_4 rfl) (dl_at 128 6 lb_X12_undo_4 rfl) sg16_28
theorem dX12_undo_160 : decode cX12_undo 160 = .ok (.iinc 3 (-1), 3) := dx_132 (dl_at 160 0 lb_X12_undo_5 rfl) (dl_at 160 1 lb_X12_undo_5 rfl) (dl_at 160 2 lb_X12_undo_5 rfl) sg8_255
theorem dX12_undo_163 : decode cX12_undo 163 = .ok (.goto (-135), 3) := dx_167 (a := 255) (b := 121) (dl_at 160 3 lb_X12_undo_5 rfl) (dl_at 160 4 lb_X12_undo_5 rfl) (dl_at 160 5 lb_X12_undo_5 rfl) sg16_65401
theorem dX12_undo_135 : decode cX12_undo 135 = .ok (.aload_n 0, 1) := dx_42 (dl_at 128 7 lb_X12_undo_4 rfl)
theorem dX12_undo_136 : decode cX12_undo 136 = .ok (.getfield 31, 3) := dx_180 (a := 0) (b := 31) (dl_at 128 8 lb_X12_undo_4 rfl) (dl_at 128 9 lb_X12_undo_4 rfl) (dl_at 128 10 lb_X12_undo_4 rfl) rfl
theorem dX12_undo_139 : decode cX12_undo 139 = .ok (.iload 6, 2) := dx_21 (dl_at 128 11 lb_X12_undo_4 rfl) (dl_at 128 12 lb_X12_undo_4 rfl)
theorem dX12_undo_141 : decode cX12_undo 141 = .ok (.aload_n 0, 1) := dx_42 (dl_at 128 13 lb_X12_undo_4 rfl)
theorem dX12_undo_142 : decode cX12_undo 142 = .ok (.getfield 49, 3) := dx_180 (a := 0) (b := 49) (dl_at 128 14 lb_X12_undo_4 rfl) (dl_at 128 15 lb_X12_undo_4 rfl) (dl_at 128 16 lb_X12_undo_4 rfl) rfl
theorem dX12_undo_145 : decode cX12_undo 145 = .ok (.iload 4, 2) := dx_21 (dl_at 128 17 lb_X12_undo_4 rfl) (dl_at 128 18 lb_X12_undo_4 rfl)
theorem dX12_undo_147 : decode cX12_undo 147 = .ok (.iconst 5, 1) := dx_8 (dl_at 128 19 lb_X12_undo_4 rfl)
theorem dX12_undo_148 : decode cX12_undo 148 = .ok (.iadd, 1) := dx_96 (dl_at 128 20 lb_X12_undo_4 rfl)
theorem dX12_undo_149 : decode cX12_undo 149 = .ok (.iload 6, 2) := dx_21 (dl_at 128 21 lb_X12_undo_4 rfl) (dl_at 128 22 lb_X12_undo_4 rfl)
theorem dX12_undo_151 : decode cX12_undo 151 = .ok (.iadd, 1) := dx_96 (dl_at 128 23 lb_X12_undo_4 rfl)
theorem dX12_undo_152 : decode cX12_undo 152 = .ok (.iaload, 1) := dx_46 (dl_at 128 24 lb_X12_undo_4 rfl)
theorem dX12_undo_153 : decode cX12_undo 153 = .ok (.iastore, 1) := dx_79 (dl_at 128 25 lb_X12_undo_4 rfl)
theorem dX12_undo_154 : decode cX12_undo 154 = .ok (.iinc 6 1, 3) := dx_132 (dl_at 128 26 lb_X12_undo_4 rfl) (dl_at 128 27 lb_X12_undo_4 rfl) (dl_at 128 28 lb_X12_undo_4 rfl) sg8_1
theorem dX12_undo_157 : decode cX12_undo 157 = .ok (.goto (-29), 3) := dx_167 (a := 255) (b := 227) (dl_at 128 29 lb_X12_undo_4 rfl) (dl_at 128 30 lb_X12_undo_4 rfl) (dl_at 128 31 lb_X12_undo_4 rfl) sg16_65507
theorem dX12_undo_12 : decode cX12_undo 12 = .ok (.iconst (-1), 1) := dx_2 (dl_at 0 12 lb_X12_undo_0 rfl)
theorem dX12_undo_13 : decode cX12_undo 13 = .ok (.ireturn, 1) := dx_172 (dl_at 0 13 lb_X12_undo_0 rfl)
theorem lb_X12_keep_0 : dl_ck (cX12_keep.data.toList.drop 0) [27, 3, 5, 184, 0, 77, 154, 0, 5, 2, 172, 42, 180, 0, 136, 154, 0, 6, 16, 252, 172, 16, 64, 27, 104, 61, 42, 180, 0, 52, 28, 42] = true := by decide +kernel
theorem lb_X12_keep_1 : dl_ck (cX12_keep.data.toList.drop 32) [180, 0, 145, 79, 42, 180, 0, 52, 28, 4, 96, 42, 180, 0, 142, 79, 42, 180, 0, 52, 28, 5, 96, 42, 180, 0, 148, 79, 3, 62, 29, 16] = true := by decide +kernel
theorem lb_X12_keep_2 : dl_ck (cX12_keep.data.toList.drop 64) [7, 162, 0, 25, 42, 180, 0, 52, 28, 6, 96, 29, 96, 42, 180, 0, 31, 29, 46, 79, 132, 3, 1, 167, 255, 231, 3, 62, 29, 16, 40, 162] = true := by decide +kernel
theorem lb_X12_keep_3 : dl_ck (cX12_keep.data.toList.drop 96) [0, 26, 42, 180, 0, 52, 28, 16, 10, 96, 29, 96, 42, 180, 0, 37, 29, 46, 79, 132, 3, 1, 167, 255, 230, 42, 180, 0, 145, 172] = true := by decide +kernel
theorem dX12_keep_0 : decode cX12_keep 0 = .ok (.iload_n 1, 1) := dx_27 (dl_at 0 0 lb_X12_keep_0 rfl)
theorem dX12_keep_1 : decode cX12_keep 1 = .ok (.iconst 0, 1) := dx_3 (dl_at 0 1 lb_X12_keep_0 rfl)
theorem dX12_keep_2 : decode cX12_keep 2 = .ok (.iconst 2, 1) := dx_5 (dl_at 0 2 lb_X12_keep_0 rfl)
theorem dX12_keep_3 : decode cX12_keep 3 = .ok (.invokestatic 77, 3) := dx_184 (a := 0) (b := 77) (dl_at 0 3 lb_X12_keep_0 rfl) (dl_at 0 4 lb_X12_keep_0 rfl) (dl_at 0 5 lb_X12_keep_0 rfl) rfl
theorem dX12_keep_6 : decode cX12_keep 6 = .ok (.ifCond .ne 5, 3) := dx_154 (a := 0) (b := 5) (dl_at 0 6 lb_X12_keep_0 rfl) (dl_at 0 7 lb_X12_keep_0 rfl) (dl_at 0 8 lb_X12_keep_0 rfl) sg16_5
theorem dX12_keep_11 : decode cX12_keep 11 = .ok (.aload_n 0, 1) := dx_42 (dl_at 0 11 lb_X12_keep_0 rfl)
theorem dX12_keep_12 : decode cX12_keep 12 = .ok (.getfield 136, 3) := dx_180 (a := 0) (b := 136) (dl_at 0 12 lb_X12_keep_0 rfl) (dl_at 0 13 lb_X12_keep_0 rfl) (dl_at 0 14 lb_X12_keep_0 rfl) rfl
theorem dX12_keep_15 : decode cX12_keep 15 = .ok (.ifCond .ne 6, 3) := dx_154 (a := 0) (b := 6) (dl_at 0 15 lb_X12_keep_0 rfl) (dl_at 0 16 lb_X12_keep_0 rfl) (dl_at 0 17 lb_X12_keep_0 rfl) sg16_6
theorem dX12_keep_21 : decode cX12_keep 21 = .ok (.bipush 64, 2) := dx_16 (dl_at 0 21 lb_X12_keep_0 rfl) (dl_at 0 22 lb_X12_keep_0 rfl) sg8_64
theorem dX12_keep_23 : decode cX12_keep 23 = .ok (.iload_n 1, 1) := dx_27 (dl_at 0 23 lb_X12_keep_0 rfl)
theorem dX12_keep_24 : decode cX12_keep 24 = .ok (.imul, 1) := dx_104 (dl_at 0 24 lb_X12_keep_0 rfl)
theorem dX12_keep_25 : decode cX12_keep 25 = .ok (.istore_n 2, 1) := dx_61 (dl_at 0 25 lb_X12_keep_0 rfl)
theorem dX12_keep_26 : decode cX12_keep 26 = .ok (.aload_n 0, 1) := dx_42 (dl_at 0 26 lb_X12_keep_0 rfl)
theorem dX12_keep_27 : decode cX12_keep 27 = .ok (.getfield 52, 3) := dx_180 (a := 0) (b := 52) (dl_at 0 27 lb_X12_keep_0 rfl) (dl_at 0 28 lb_X12_keep_0 rfl) (dl_at 0 29 lb_X12_keep_0 rfl) rfl
theorem dX12_keep_30 : decode cX12_keep 30 = .ok (.iload_n 2, 1) := dx_28 (dl_at 0 30 lb_X12_keep_0 rfl)
theorem dX12_keep_31 : decode cX12_keep 31 = .ok (.aload_n 0, 1) := dx_42 (dl_at 0 31 lb_X12_keep_0 rfl)
theorem dX12_keep_32 : decode cX12_keep 32 = .ok (.getfield 145, 3) := dx_180 (a := 0) (b := 145) (dl_at 32 0 lb_X12_keep_1 rfl) (dl_at 32 1 lb_X12_keep_1 rfl) (dl_at 32 2 lb_X12_keep_1 rfl) rfl
theorem dX12_keep_35 : decode cX12_keep 35 = .ok (.iastore, 1) := dx_79 (dl_at 32 3 lb_X12_keep_1 rfl)
theorem dX12_keep_36 : decode cX12_keep 36 = .ok (.aload_n 0, 1) := dx_42 (dl_at 32 4 lb_X12_keep_1 rfl)
theorem dX12_keep_37 : decode cX12_keep 37 = .ok (.getfield 52, 3) := dx_180 (a := 0) (b := 52) (dl_at 32 5 lb_X12_keep_1 rfl) (dl_at 32 6 lb_X12_keep_1 rfl) (dl_at 32 7 lb_X12_keep_1 rfl) rfl
theorem dX12_keep_40 : decode cX12_keep 40 = .ok (.iload_n 2, 1) := dx_28 (dl_at 32 8 lb_X12_keep_1 rfl)
theorem dX12_keep_41 : decode cX12_keep 41 = .ok (.iconst 1, 1) := dx_4 (dl_at 32 9 lb_X12_keep_1 rfl)
theorem dX12_keep_42 : decode cX12_keep 42 = .ok (.iadd, 1) := dx_96 (dl_at 32 10 lb_X12_keep_1 rfl)
theorem dX12_keep_43 : decode cX12_keep 43 = .ok (.aload_n 0, 1) := dx_42 (dl_at 32 11 lb_X12_keep_1 rfl)
theorem dX12_keep_44 : decode cX12_keep 44 = .ok (.getfield 142, 3) := dx_180 (a := 0) (b := 142) (dl_at 32 12 lb_X12_keep_1 rfl) (dl_at 32 13 lb_X12_keep_1 rfl) (dl_at 32 14 lb_X12_keep_1 rfl) rfl
theorem dX12_keep_47 : decode cX12_keep 47 = .ok (.iastore, 1) := dx_79 (dl_at 32 15 lb_X12_keep_1 rfl)
theorem dX12_keep_48 : decode cX12_keep 48 = .ok (.aload_n 0, 1) := dx_42 (dl_at 32 16 lb_X12_keep_1 rfl)
theorem dX12_keep_49 : decode cX12_keep 49 = .ok (.getfield 52, 3) := dx_180 (a := 0) (b := 52) (dl_at 32 17 lb_X12_keep_1 rfl) (dl_at 32 18 lb_X12_keep_1 rfl) (dl_at 32 19 lb_X12_keep_1 rfl) rfl
theorem dX12_keep_52 : decode cX12_keep 52 = .ok (.iload_n 2, 1) := dx_28 (dl_at 32 20 lb_X12_keep_1 rfl)
theorem dX12_keep_53 : decode cX12_keep 53 = .ok (.iconst 2, 1) := dx_5 (dl_at 32 21 lb_X12_keep_1 rfl)
theorem dX12_keep_54 : decode cX12_keep 54 = .ok (.iadd, 1) := dx_96 (dl_at 32 22 lb_X12_keep_1 rfl)
theorem dX12_keep_55 : decode cX12_keep 55 = .ok (.aload_n 0, 1) := dx_42 (dl_at 32 23 lb_X12_keep_1 rfl)
theorem dX12_keep_56 : decode cX12_keep 56 = .ok (.getfield 148, 3) := dx_180 (a := 0) (b := 148) (dl_at 32 24 lb_X12_keep_1 rfl) (dl_at 32 25 lb_X12_keep_1 rfl) (dl_at 32 26 lb_X12_keep_1 rfl) rfl
theorem dX12_keep_59 : decode cX12_keep 59 = .ok (.iastore, 1) := dx_79 (dl_at 32 27 lb_X12_keep_1 rfl)
theorem dX12_keep_60 : decode cX12_keep 60 = .ok (.iconst 0, 1) := dx_3 (dl_at 32 28 lb_X12_keep_1 rfl)
theorem dX12_keep_61 : decode cX12_keep 61 = .ok (.istore_n 3, 1) := dx_62 (dl_at 32 29 lb_X12_keep_1 rfl)
theorem dX12_keep_62 : decode cX12_keep 62 = .ok (.iload_n 3, 1) := dx_29 (dl_at 32 30 lb_X12_keep_1 rfl)
theorem dX12_keep_63 : decode cX12_keep 63 = .ok (.bipush 7, 2) := dx_16 (dl_at 32 31 lb_X12_keep_1 rfl) (dl_at 64 0 lb_X12_keep_2 rfl) sg8_7
theorem dX12_keep_65 : decode cX12_keep 65 = .ok (.if_icmp .ge 25, 3) := dx_162 (a := 0) (b := 25) (dl_at 64 1 lb_X12_keep_2 rfl) (dl_at 64 2 lb_X12_keep_2 rfl) (dl_at 64 3 lb_X12_keep_2 rfl) sg16_25
theorem dX12_keep_90 : decode cX12_keep 90 = .ok (.iconst 0, 1) := dx_3 (dl_at 64 26 lb_X12_keep_2 rfl)
theorem dX12_keep_91 : decode cX12_keep 91 = .ok (.istore_n 3, 1) := dx_62 (dl_at 64 27 lb_X12_keep_2 rfl)
theorem dX12_keep_92 : decode cX12_keep 92 = .ok (.iload_n 3, 1) := dx_29 (dl_at 64 28 lb_X12_keep_2 rfl)
theorem dX12_keep_93 : decode cX12_keep 93 = .ok (.bipush 40, 2) := dx_16 (dl_at 64 29 lb_X12_keep_2 rfl) (dl_at 64 30 lb_X12_keep_2 rfl) sg8_40
theorem dX12_keep_95 : decode cX12_keep 95 = .ok (.if_icmp .ge 26, 3) := dx_162 (a := 0) (b := 26) (dl_at 64 31 lb_X12_keep_2 rfl) (dl_at 96 0 lb_X12_keep_3 rfl) (dl_at 96 1 lb_X12_keep_3 rfl) sg16_26
theorem dX12_keep_121 : decode cX12_keep 121 = .ok (.aload_n 0, 1) := dx_42 (dl_at 96 25 lb_X12_keep_3 rfl)
theorem dX12_keep_122 : decode cX12_keep 122 = .ok (.getfield 145, 3) := dx_180 (a := 0) (b := 145) (dl_at 96 26 lb_X12_keep_3 rfl) (dl_at 96 27 lb_X12_keep_3 rfl) (dl_at 96 28 lb_X12_keep_3 rfl) rfl
theorem dX12_keep_125 : decode cX12_keep 125 = .ok (.ireturn, 1) := dx_172 (dl_at 96 29 lb_X12_keep_3 rfl)
theorem dX12_keep_98 : decode cX12_keep 98 = .ok (.aload_n 0, 1) := dx_42 (dl_at 96 2 lb_X12_keep_3 rfl)
theorem dX12_keep_99 : decode cX12_keep 99 = .ok (.getfield 52, 3) := dx_180 (a := 0) (b := 52) (dl_at 96 3 lb_X12_keep_3 rfl) (dl_at 96 4 lb_X12_keep_3 rfl) (dl_at 96 5 lb_X12_keep_3 rfl) rfl
theorem dX12_keep_102 : decode cX12_keep 102 = .ok (.iload_n 2, 1) := dx_28 (dl_at 96 6 lb_X12_keep_3 rfl)
theorem dX12_keep_103 : decode cX12_keep 103 = .ok (.bipush 10, 2) := dx_16 (dl_at 96 7 lb_X12_keep_3 rfl) (dl_at 96 8 lb_X12_keep_3 rfl) sg8_10
theorem dX12_keep_105 : decode cX12_keep 105 = .ok (.iadd, 1) := dx_96 (dl_at 96 9 lb_X12_keep_3 rfl)
theorem dX12_keep_106 : decode cX12_keep 106 = .ok (.iload_n 3, 1) := dx_29 (dl_at 96 10 lb_X12_keep_3 rfl)
theorem dX12_keep_107 : decode cX12_keep 107 = .ok (.iadd, 1) := dx_96 (dl_at 96 11 lb_X12_keep_3 rfl)
theorem dX12_keep_108 : decode cX12_keep 108 = .ok (.aload_n 0, 1) := dx_42 (dl_at 96 12 lb_X12_keep_3 rfl)
theorem dX12_keep_109 : decode cX12_keep 109 = .ok (.getfield 37, 3) := dx_180 (a := 0) (b := 37) (dl_at 96 13 lb_X12_keep_3 rfl) (dl_at 96 14 lb_X12_keep_3 rfl) (dl_at 96 15 lb_X12_keep_3 rfl) rfl
theorem dX12_keep_112 : decode cX12_keep 112 = .ok (.iload_n 3, 1) := dx_29 (dl_at 96 16 lb_X12_keep_3 rfl)
theorem dX12_keep_113 : decode cX12_keep 113 = .ok (.iaload, 1) := dx_46 (dl_at 96 17 lb_X12_keep_3 rfl)
theorem dX12_keep_114 : decode cX12_keep 114 = .ok (.iastore, 1) := dx_79 (dl_at 96 18 lb_X12_keep_3 rfl)
theorem dX12_keep_115 : decode cX12_keep 115 = .ok (.iinc 3 1, 3) := dx_132 (dl_at 96 19 lb_X12_keep_3 rfl) (dl_at 96 20 lb_X12_keep_3 rfl) (dl_at 96 21 lb_X12_keep_3 rfl) sg8_1
theorem dX12_keep_118 : decode cX12_keep 118 = .ok (.goto (-26), 3) := dx_167 (a := 255) (b := 230) (dl_at 96 22 lb_X12_keep_3 rfl) (dl_at 96 23 lb_X12_keep_3 rfl) (dl_at 96 24 lb_X12_keep_3 rfl) sg16_65510
theorem dX12_keep_68 : decode cX12_keep 68 = .ok (.aload_n 0, 1) := dx_42 (dl_at 64 4 lb_X12_keep_2 rfl)
theorem dX12_keep_69 : decode cX12_keep 69 = .ok (.getfield 52, 3) := dx_180 (a := 0) (b := 52) (dl_at 64 5 lb_X12_keep_2 rfl) (dl_at 64 6 lb_X12_keep_2 rfl) (dl_at 64 7 lb_X12_keep_2 rfl) rfl
theorem dX12_keep_72 : decode cX12_keep 72 = .ok (.iload_n 2, 1) := dx_28 (dl_at 64 8 lb_X12_keep_2 rfl)
theorem dX12_keep_73 : decode cX12_keep 73 = .ok (.iconst 3, 1) := dx_6 (dl_at 64 9 lb_X12_keep_2 rfl)
theorem dX12_keep_74 : decode cX12_keep 74 = .ok (.iadd, 1) := dx_96 (dl_at 64 10 lb_X12_keep_2 rfl)
theorem dX12_keep_75 : decode cX12_keep 75 = .ok (.iload_n 3, 1) := dx_29 (dl_at 64 11 lb_X12_keep_2 rfl)
theorem dX12_keep_76 : decode cX12_keep 76 = .ok (.iadd, 1) := dx_96 (dl_at 64 12 lb_X12_keep_2 rfl)
theorem dX12_keep_77 : decode cX12_keep 77 = .ok (.aload_n 0, 1) := dx_42 (dl_at 64 13 lb_X12_keep_2 rfl)
theorem dX12_keep_78 : decode cX12_keep 78 = .ok (.getfield 31, 3) := dx_180 (a := 0) (b := 31) (dl_at 64 14 lb_X12_keep_2 rfl) (dl_at 64 15 lb_X12_keep_2 rfl) (dl_at 64 16 lb_X12_keep_2 rfl) rfl
theorem dX12_keep_81 : decode cX12_keep 81 = .ok (.iload_n 3, 1) := dx_29 (dl_at 64 17 lb_X12_keep_2 rfl)
theorem dX12_keep_82 : decode cX12_keep 82 = .ok (.iaload, 1) := dx_46 (dl_at 64 18 lb_X12_keep_2 rfl)
theorem dX12_keep_83 : decode cX12_keep 83 = .ok (.iastore, 1) := dx_79 (dl_at 64 19 lb_X12_keep_2 rfl)
theorem dX12_keep_84 : decode cX12_keep 84 = .ok (.iinc 3 1, 3) := dx_132 (dl_at 64 20 lb_X12_keep_2 rfl) (dl_at 64 21 lb_X12_keep_2 rfl) (dl_at 64 22 lb_X12_keep_2 rfl) sg8_1
theorem dX12_keep_87 : decode cX12_keep 87 = .ok (.goto (-25), 3) := dx_167 (a := 255) (b := 231) (dl_at 64 23 lb_X12_keep_2 rfl) (dl_at 64 24 lb_X12_keep_2 rfl) (dl_at 64 25 lb_X12_keep_2 rfl) sg16_65511
theorem dX12_keep_18 : decode cX12_keep 18 = .ok (.bipush (-4), 2) := dx_16 (dl_at 0 18 lb_X12_keep_0 rfl) (dl_at 0 19 lb_X12_keep_0 rfl) sg8_252
theorem dX12_keep_20 : decode cX12_keep 20 = .ok (.ireturn, 1) := dx_172 (dl_at 0 20 lb_X12_keep_0 rfl)
theorem dX12_keep_9 : decode cX12_keep 9 = .ok (.iconst (-1), 1) := dx_2 (dl_at 0 9 lb_X12_keep_0 rfl)
theorem dX12_keep_10 : decode cX12_keep 10 = .ok (.ireturn, 1) := dx_172 (dl_at 0 10 lb_X12_keep_0 rfl)
theorem lb_X12_on_0 : dl_ck (cX12_on.data.toList.drop 0) [27, 3, 5, 184, 0, 77, 154, 0, 5, 2, 172, 16, 64, 27, 104, 61, 42, 180, 0, 52, 28, 46, 16, 247, 160, 0, 9, 42, 4, 182, 0, 85] = true := by decide +kernel
theorem lb_X12_on_1 : dl_ck (cX12_on.data.toList.drop 32) [172, 42, 42, 180, 0, 52, 28, 46, 181, 0, 145, 42, 42, 180, 0, 52, 28, 4, 96, 46, 181, 0, 142, 42, 42, 180, 0, 52, 28, 5, 96, 46] = true := by decide +kernel
theorem lb_X12_on_2 : dl_ck (cX12_on.data.toList.drop 64) [181, 0, 148, 3, 62, 29, 16, 7, 162, 0, 25, 42, 180, 0, 31, 29, 42, 180, 0, 52, 28, 6, 96, 29, 96, 46, 79, 132, 3, 1, 167, 255] = true := by decide +kernel
theorem lb_X12_on_3 : dl_ck (cX12_on.data.toList.drop 96) [231, 3, 62, 29, 16, 40, 162, 0, 26, 42, 180, 0, 37, 29, 42, 180, 0, 52, 28, 16, 10, 96, 29, 96, 46, 79, 132, 3, 1, 167, 255, 230] = true := by decide +kernel
theorem lb_X12_on_4 : dl_ck (cX12_on.data.toList.drop 128) [42, 3, 181, 0, 151, 42, 180, 0, 145, 172] = true := by decide +kernel
theorem dX12_on_0 : decode cX12_on 0 = .ok (.iload_n 1, 1) := dx_27 (dl_at 0 0 lb_X12_on_0 rfl)
theorem dX12_on_1 : decode cX12_on 1 = .ok (.iconst 0, 1) := dx_3 (dl_at 0 1 lb_X12_on_0 rfl)
theorem dX12_on_2 : decode cX12_on 2 = .ok (.iconst 2, 1) := dx_5 (dl_at 0 2 lb_X12_on_0 rfl)
theorem dX12_on_3 : decode cX12_on 3 = .ok (.invokestatic 77, 3) := dx_184 (a := 0) (b := 77) (dl_at 0 3 lb_X12_on_0 rfl) (dl_at 0 4 lb_X12_on_0 rfl) (dl_at 0 5 lb_X12_on_0 rfl) rfl
theorem dX12_on_6 : decode cX12_on 6 = .ok (.ifCond .ne 5, 3) := dx_154 (a := 0) (b := 5) (dl_at 0 6 lb_X12_on_0 rfl) (dl_at 0 7 lb_X12_on_0 rfl) (dl_at 0 8 lb_X12_on_0 rfl) sg16_5
theorem dX12_on_11 : decode cX12_on 11 = .ok (.bipush 64, 2) := dx_16 (dl_at 0 11 lb_X12_on_0 rfl) (dl_at 0 12 lb_X12_on_0 rfl) sg8_64
theorem dX12_on_13 : decode cX12_on 13 = .ok (.iload_n 1, 1) := dx_27 (dl_at 0 13 lb_X12_on_0 rfl)
theorem dX12_on_14 : decode cX12_on 14 = .ok (.imul, 1) := dx_104 (dl_at 0 14 lb_X12_on_0 rfl)
theorem dX12_on_15 : decode cX12_on 15 = .ok (.istore_n 2, 1) := dx_61 (dl_at 0 15 lb_X12_on_0 rfl)
theorem dX12_on_16 : decode cX12_on 16 = .ok (.aload_n 0, 1) := dx_42 (dl_at 0 16 lb_X12_on_0 rfl)
theorem dX12_on_17 : decode cX12_on 17 = .ok (.getfield 52, 3) := dx_180 (a := 0) (b := 52) (dl_at 0 17 lb_X12_on_0 rfl) (dl_at 0 18 lb_X12_on_0 rfl) (dl_at 0 19 lb_X12_on_0 rfl) rfl
theorem dX12_on_20 : decode cX12_on 20 = .ok (.iload_n 2, 1) := dx_28 (dl_at 0 20 lb_X12_on_0 rfl)
theorem dX12_on_21 : decode cX12_on 21 = .ok (.iaload, 1) := dx_46 (dl_at 0 21 lb_X12_on_0 rfl)
theorem dX12_on_22 : decode cX12_on 22 = .ok (.bipush (-9), 2) := dx_16 (dl_at 0 22 lb_X12_on_0 rfl) (dl_at 0 23 lb_X12_on_0 rfl) sg8_247
theorem dX12_on_24 : decode cX12_on 24 = .ok (.if_icmp .ne 9, 3) := dx_160 (a := 0) (b := 9) (dl_at 0 24 lb_X12_on_0 rfl) (dl_at 0 25 lb_X12_on_0 rfl) (dl_at 0 26 lb_X12_on_0 rfl) sg16_9
theorem dX12_on_33 : decode cX12_on 33 = .ok (.aload_n 0, 1) := dx_42 (dl_at 32 1 lb_X12_on_1 rfl)
theorem dX12_on_34 : decode cX12_on 34 = .ok (.aload_n 0, 1) := dx_42 (dl_at 32 2 lb_X12_on_1 rfl)
theorem dX12_on_35 : decode cX12_on 35 = .ok (.getfield 52, 3) := dx_180 (a := 0) (b := 52) (dl_at 32 3 lb_X12_on_1 rfl) (dl_at 32 4 lb_X12_on_1 rfl) (dl_at 32 5 lb_X12_on_1 rfl) rfl
theorem dX12_on_38 : decode cX12_on 38 = .ok (.iload_n 2, 1) := dx_28 (dl_at 32 6 lb_X12_on_1 rfl)
theorem dX12_on_39 : decode cX12_on 39 = .ok (.iaload, 1) := dx_46 (dl_at 32 7 lb_X12_on_1 rfl)
theorem dX12_on_40 : decode cX12_on 40 = .ok (.putfield 145, 3) := dx_181 (a := 0) (b := 145) (dl_at 32 8 lb_X12_on_1 rfl) (dl_at 32 9 lb_X12_on_1 rfl) (dl_at 32 10 lb_X12_on_1 rfl) rfl
theorem dX12_on_43 : decode cX12_on 43 = .ok (.aload_n 0, 1) := dx_42 (dl_at 32 11 lb_X12_on_1 rfl)
theorem dX12_on_44 : decode cX12_on 44 = .ok (.aload_n 0, 1) := dx_42 (dl_at 32 12 lb_X12_on_1 rfl)
theorem dX12_on_45 : decode cX12_on 45 = .ok (.getfield 52, 3) := dx_180 (a := 0) (b := 52) (dl_at 32 13 lb_X12_on_1 rfl) (dl_at 32 14 lb_X12_on_1 rfl) (dl_at 32 15 lb_X12_on_1 rfl) rfl
theorem dX12_on_48 : decode cX12_on 48 = .ok (.iload_n 2, 1) := dx_28 (dl_at 32 16 lb_X12_on_1 rfl)
theorem dX12_on_49 : decode cX12_on 49 = .ok (.iconst 1, 1) := dx_4 (dl_at 32 17 lb_X12_on_1 rfl)
theorem dX12_on_50 : decode cX12_on 50 = .ok (.iadd, 1) := dx_96 (dl_at 32 18 lb_X12_on_1 rfl)
theorem dX12_on_51 : decode cX12_on 51 = .ok (.iaload, 1) := dx_46 (dl_at 32 19 lb_X12_on_1 rfl)
theorem dX12_on_52 : decode cX12_on 52 = .ok (.putfield 142, 3) := dx_181 (a := 0) (b := 142) (dl_at 32 20 lb_X12_on_1 rfl) (dl_at 32 21 lb_X12_on_1 rfl) (dl_at 32 22 lb_X12_on_1 rfl) rfl
theorem dX12_on_55 : decode cX12_on 55 = .ok (.aload_n 0, 1) := dx_42 (dl_at 32 23 lb_X12_on_1 rfl)
theorem dX12_on_56 : decode cX12_on 56 = .ok (.aload_n 0, 1) := dx_42 (dl_at 32 24 lb_X12_on_1 rfl)
theorem dX12_on_57 : decode cX12_on 57 = .ok (.getfield 52, 3) := dx_180 (a := 0) (b := 52) (dl_at 32 25 lb_X12_on_1 rfl) (dl_at 32 26 lb_X12_on_1 rfl) (dl_at 32 27 lb_X12_on_1 rfl) rfl
theorem dX12_on_60 : decode cX12_on 60 = .ok (.iload_n 2, 1) := dx_28 (dl_at 32 28 lb_X12_on_1 rfl)
theorem dX12_on_61 : decode cX12_on 61 = .ok (.iconst 2, 1) := dx_5 (dl_at 32 29 lb_X12_on_1 rfl)
theorem dX12_on_62 : decode cX12_on 62 = .ok (.iadd, 1) := dx_96 (dl_at 32 30 lb_X12_on_1 rfl)
theorem dX12_on_63 : decode cX12_on 63 = .ok (.iaload, 1) := dx_46 (dl_at 32 31 lb_X12_on_1 rfl)
theorem dX12_on_64 : decode cX12_on 64 = .ok (.putfield 148, 3) := dx_181 (a := 0) (b := 148) (dl_at 64 0 lb_X12_on_2 rfl) (dl_at 64 1 lb_X12_on_2 rfl) (dl_at 64 2 lb_X12_on_2 rfl) rfl
theorem dX12_on_67 : decode cX12_on 67 = .ok (.iconst 0, 1) := dx_3 (dl_at 64 3 lb_X12_on_2 rfl)
theorem dX12_on_68 : decode cX12_on 68 = .ok (.istore_n 3, 1) := dx_62 (dl_at 64 4 lb_X12_on_2 rfl)
theorem dX12_on_69 : decode cX12_on 69 = .ok (.iload_n 3, 1) := dx_29 (dl_at 64 5 lb_X12_on_2 rfl)
theorem dX12_on_70 : decode cX12_on 70 = .ok (.bipush 7, 2) := dx_16 (dl_at 64 6 lb_X12_on_2 rfl) (dl_at 64 7 lb_X12_on_2 rfl) sg8_7
theorem dX12_on_72 : decode cX12_on 72 = .ok (.if_icmp .ge 25, 3) := dx_162 (a := 0) (b := 25) (dl_at 64 8 lb_X12_on_2 rfl) (dl_at 64 9 lb_X12_on_2 rfl) (dl_at 64 10 lb_X12_on_2 rfl) sg16_25
theorem dX12_on_97 : decode cX12_on 97 = .ok (.iconst 0, 1) := dx_3 (dl_at 96 1 lb_X12_on_3 rfl)
theorem dX12_on_98 : decode cX12_on 98 = .ok (.istore_n 3, 1) := dx_62 (dl_at 96 2 lb_X12_on_3 rfl)
theorem dX12_on_99 : decode cX12_on 99 = .ok (.iload_n 3, 1) := dx_29 (dl_at 96 3 lb_X12_on_3 rfl)
theorem dX12_on_100 : decode cX12_on 100 = .ok (.bipush 40, 2) := dx_16 (dl_at 96 4 lb_X12_on_3 rfl) (dl_at 96 5 lb_X12_on_3 rfl) sg8_40
theorem dX12_on_102 : decode cX12_on 102 = .ok (.if_icmp .ge 26, 3) := dx_162 (a := 0) (b := 26) (dl_at 96 6 lb_X12_on_3 rfl) (dl_at 96 7 lb_X12_on_3 rfl) (dl_at 96 8 lb_X12_on_3 rfl) sg16_26
theorem dX12_on_128 : decode cX12_on 128 = .ok (.aload_n 0, 1) := dx_42 (dl_at 128 0 lb_X12_on_4 rfl)
theorem dX12_on_129 : decode cX12_on 129 = .ok (.iconst 0, 1) := dx_3 (dl_at 128 1 lb_X12_on_4 rfl)
theorem dX12_on_130 : decode cX12_on 130 = .ok (.putfield 151, 3) := dx_181 (a := 0) (b := 151) (dl_at 128 2 lb_X12_on_4 rfl) (dl_at 128 3 lb_X12_on_4 rfl) (dl_at 128 4 lb_X12_on_4 rfl) rfl
theorem dX12_on_133 : decode cX12_on 133 = .ok (.aload_n 0, 1) := dx_42 (dl_at 128 5 lb_X12_on_4 rfl)
theorem dX12_on_134 : decode cX12_on 134 = .ok (.getfield 145, 3) := dx_180 (a := 0) (b := 145) (dl_at 128 6 lb_X12_on_4 rfl) (dl_at 128 7 lb_X12_on_4 rfl) (dl_at 128 8 lb_X12_on_4 rfl) rfl
theorem dX12_on_137 : decode cX12_on 137 = .ok (.ireturn, 1) := dx_172 (dl_at 128 9 lb_X12_on_4 rfl)
theorem dX12_on_105 : decode cX12_on 105 = .ok (.aload_n 0, 1) := dx_42 (dl_at 96 9 lb_X12_on_3 rfl)
theorem dX12_on_106 : decode cX12_on 106 = .ok (.getfield 37, 3) := dx_180 (a := 0) (b := 37) (dl_at 96 10 lb_X12_on_3 rfl) (dl_at 96 11 lb_X12_on_3 rfl) (dl_at 96 12 lb_X12_on_3 rfl) rfl
theorem dX12_on_109 : decode cX12_on 109 = .ok (.iload_n 3, 1) := dx_29 (dl_at 96 13 lb_X12_on_3 rfl)
theorem dX12_on_110 : decode cX12_on 110 = .ok (.aload_n 0, 1) := dx_42 (dl_at 96 14 lb_X12_on_3 rfl)
theorem dX12_on_111 : decode cX12_on 111 = .ok (.getfield 52, 3) := dx_180 (a := 0) (b := 52) (dl_at 96 15 lb_X12_on_3 rfl) (dl_at 96 16 lb_X12_on_3 rfl) (dl_at 96 17 lb_X12_on_3 rfl) rfl
theorem dX12_on_114 : decode cX12_on 114 = .ok (.iload_n 2, 1) := dx_28 (dl_at 96 18 lb_X12_on_3 rfl)
theorem dX12_on_115 : decode cX12_on 115 = .ok (.bipush 10, 2) := dx_16 (dl_at 96 19 lb_X12_on_3 rfl) (dl_at 96 20 lb_X12_on_3 rfl) sg8_10
theorem dX12_on_117 : decode cX12_on 117 = .ok (.iadd, 1) := dx_96 (dl_at 96 21 lb_X12_on_3 rfl)
theorem dX12_on_118 : decode cX12_on 118 = .ok (.iload_n 3, 1) := dx_29 (dl_at 96 22 lb_X12_on_3 rfl)
theorem dX12_on_119 : decode cX12_on 119 = .ok (.iadd, 1) := dx_96 (dl_at 96 23 lb_X12_on_3 rfl)
theorem dX12_on_120 : decode cX12_on 120 = .ok (.iaload, 1) := dx_46 (dl_at 96 24 lb_X12_on_3 rfl)
theorem dX12_on_121 : decode cX12_on 121 = .ok (.iastore, 1) := dx_79 (dl_at 96 25 lb_X12_on_3 rfl)
theorem dX12_on_122 : decode cX12_on 122 = .ok (.iinc 3 1, 3) := dx_132 (dl_at 96 26 lb_X12_on_3 rfl) (dl_at 96 27 lb_X12_on_3 rfl) (dl_at 96 28 lb_X12_on_3 rfl) sg8_1
theorem dX12_on_125 : decode cX12_on 125 = .ok (.goto (-26), 3) := dx_167 (a := 255) (b := 230) (dl_at 96 29 lb_X12_on_3 rfl) (dl_at 96 30 lb_X12_on_3 rfl) (dl_at 96 31 lb_X12_on_3 rfl) sg16_65510
theorem dX12_on_75 : decode cX12_on 75 = .ok (.aload_n 0, 1) := dx_42 (dl_at 64 11 lb_X12_on_2 rfl)
theorem dX12_on_76 : decode cX12_on 76 = .ok (.getfield 31, 3) := dx_180 (a := 0) (b := 31) (dl_at 64 12 lb_X12_on_2 rfl) (dl_at 64 13 lb_X12_on_2 rfl) (dl_at 64 14 lb_X12_on_2 rfl) rfl
theorem dX12_on_79 : decode cX12_on 79 = .ok (.iload_n 3, 1) := dx_29 (dl_at 64 15 lb_X12_on_2 rfl)
theorem dX12_on_80 : decode cX12_on 80 = .ok (.aload_n 0, 1) := dx_42 (dl_at 64 16 lb_X12_on_2 rfl)
theorem dX12_on_81 : decode cX12_on 81 = .ok (.getfield 52, 3) := dx_180 (a := 0) (b := 52) (dl_at 64 17 lb_X12_on_2 rfl) (dl_at 64 18 lb_X12_on_2 rfl) (dl_at 64 19 lb_X12_on_2 rfl) rfl
theorem dX12_on_84 : decode cX12_on 84 = .ok (.iload_n 2, 1) := dx_28 (dl_at 64 20 lb_X12_on_2 rfl)
theorem dX12_on_85 : decode cX12_on 85 = .ok (.iconst 3, 1) := dx_6 (dl_at 64 21 lb_X12_on_2 rfl)
theorem dX12_on_86 : decode cX12_on 86 = .ok (.iadd, 1) := dx_96 (dl_at 64 22 lb_X12_on_2 rfl)
theorem dX12_on_87 : decode cX12_on 87 = .ok (.iload_n 3, 1) := dx_29 (dl_at 64 23 lb_X12_on_2 rfl)
theorem dX12_on_88 : decode cX12_on 88 = .ok (.iadd, 1) := dx_96 (dl_at 64 24 lb_X12_on_2 rfl)
theorem dX12_on_89 : decode cX12_on 89 = .ok (.iaload, 1) := dx_46 (dl_at 64 25 lb_X12_on_2 rfl)
theorem dX12_on_90 : decode cX12_on 90 = .ok (.iastore, 1) := dx_79 (dl_at 64 26 lb_X12_on_2 rfl)
theorem dX12_on_91 : decode cX12_on 91 = .ok (.iinc 3 1, 3) := dx_132 (dl_at 64 27 lb_X12_on_2 rfl) (dl_at 64 28 lb_X12_on_2 rfl) (dl_at 64 29 lb_X12_on_2 rfl) sg8_1
theorem dX12_on_94 : decode cX12_on 94 = .ok (.goto (-25), 3) := dx_167 (a := 255) (b := 231) (dl_at 64 30 lb_X12_on_2 rfl) (dl_at 64 31 lb_X12_on_2 rfl) (dl_at 96 0 lb_X12_on_3 rfl) sg16_65511
theorem dX12_on_27 : decode cX12_on 27 = .ok (.aload_n 0, 1) := dx_42 (dl_at 0 27 lb_X12_on_0 rfl)
theorem dX12_on_28 : decode cX12_on 28 = .ok (.iconst 1, 1) := dx_4 (dl_at 0 28 lb_X12_on_0 rfl)
theorem dX12_on_29 : decode cX12_on 29 = .ok (.invokevirtual 85, 3) := dx_182 (a := 0) (b := 85) (dl_at 0 29 lb_X12_on_0 rfl) (dl_at 0 30 lb_X12_on_0 rfl) (dl_at 0 31 lb_X12_on_0 rfl) rfl
theorem dX12_on_32 : decode cX12_on 32 = .ok (.ireturn, 1) := dx_172 (dl_at 32 0 lb_X12_on_1 rfl)
theorem dX12_on_9 : decode cX12_on 9 = .ok (.iconst (-1), 1) := dx_2 (dl_at 0 9 lb_X12_on_0 rfl)
theorem dX12_on_10 : decode cX12_on 10 = .ok (.ireturn, 1) := dx_172 (dl_at 0 10 lb_X12_on_0 rfl)
