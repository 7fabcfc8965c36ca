set_option maxHeartbeats 4000000 in
set_option maxRecDepth 100000 in
/-- qm_undo -/
theorem qm_undo (l : Launch) (dC : Nat → ClassId) (dI : Nat → Nat → Nat) (cs : Nat → ClassId) (ad : Nat → Nat) (mu : Nat → Nat → Int32) (ok : okR loM hiM mu) (H : Heap) (hP : va_P (dC, dI) vwCl (wR 21 ad (EM cs ad) mu) H) (hD0 : va_D (fun _ => True) (wR 21 ad (EM cs ad) mu)) (vn : Int32) : Met l yX12_undo (wU yX12_undo cX12_undo 7 (some .int)) ({ frames := 1, cells := 0, slots := 0, locals := 23 }) (va_Pc [.ref (ad 0), .int vn] (sz_P (dC, dI) vwCl (tyM cs) H)) (va_Qi (fun (z : Int32) (xi : Nat → Nat → Int32) => okR loM hiM xi ∧ (True) ∧ True) (fun xi t => va_P (dC, dI) vwCl (wR 21 ad (EM cs ad) xi) t.heap) (va_A (wR 21 ad (EM cs ad) mu) H.size)) 0 0 (va_A (wR 21 ad (EM cs ad) mu) H.size) := by
  refine Met.ofW (cc := cX12_undo) (maxL := 7) (ret := (some .int)) (by decide) rfl ?_
  intro p e s m args below meth c s₁ B hml hv
  obtain ⟨rfl, hh, hK, hz⟩ := hv
  have hx := B.exec
  have hb := B.bytes
  have hr := B.returns
  have hts := atoms_spec (ws := (wU yX12_undo cX12_undo 7 (some .int))) B.pre
  have hown : s.vm.findClass RX12 = some m.cls := findClass_of_methodNamed B.named
  have hlocks := B.notSynchronized
  subst hh
  have hD := hD0.self (sz := s.heap.size)
  have hA : ∀ q : Nat, s.heap.size ≤ q → (va_A (wR 21 ad (EM cs ad) mu) s.heap.size) q := fun q h => Or.inr h
  have hS : va_S (va_A (wR 21 ad (EM cs ad) mu) s.heap.size) s.heap s.heap [] := va_S.rf
  have hl := lv_entry ([.ref (ad 0), .int vn]) (n := 7) (Nat.le_of_ble_eq_true rfl)
  rw [lg_entry_eq]
  generalize (lg_sl ([.ref (ad 0), .int vn]) ++ List.replicate (7 - (lg_sl ([.ref (ad 0), .int vn])).length) Slot.unset).toArray = ls at hl ⊢
  have hl : lv_has ls 7 [(0, .ref (ad 0)), (1, .int vn)] := hl
  refine lv_iload_n hx hb dX12_undo_0 rfl (lv_at hl 1 rfl) ?_
  refine lv_iconst (v := 0) hx hb dX12_undo_1 (by decide) ?_
  refine lv_aload_n hx hb dX12_undo_2 rfl (lv_at hl 0 rfl) ?_
  refine va_get (D := (dC, dI)) (ci := 12) (v := .int (mu 0 17)) (C := RX12) (T := TX12) (N := 46) hx hb hts inG12 hown hK hP 0 (gM_0 cs ad mu) rfl 17 (by decide) (hts _ (List.mem_cons_of_mem _ mw_5_58)) (fun _ h9 => h9) rfl dX12_undo_3 ?_
  refine lv_topi (fun y1 ey1 => ?_)
  have by1 : y1.toInt = (mu 0 17).toInt := congrArg Int32.toInt ey1
  have gy1 : 0 ≤ y1.toInt ∧ y1.toInt ≤ 40 := by rw [ey1]; exact rM_0_17 ok
  refine cr_i (va_runS (As := [.int vn, .int 0, .int y1]) (rest := []) ⟨hx, hb, hml, hown, hts⟩ (sm_in l dC dI (tyM cs) s.heap vn 0 y1) (va_cwS 3 hts (wU_S mw_5_189 mw_5_187 mw_5_188 mw_1_13) rfl rfl rfl (by decide +kernel) ⟨Nat.le_of_ble_eq_true rfl, Nat.le_of_ble_eq_true rfl⟩) ⟨sz_c, sz_m hK hz⟩ rfl rfl hl.1 rfl (lv_room (Nat.le_of_ble_eq_true rfl)) dX12_undo_6 ⟨Nat.zero_le _, Nat.zero_le _⟩) hS (fun r2 hw2 locs hS => ?_)
  rcases hw2 with ⟨rfl, f2⟩ | ⟨rfl, f2⟩
  · have f2 : (0 : Int) ≤ vn.toInt ∧ vn.toInt ≤ y1.toInt := f2
    refine lv_if_ne (tgt := 14) hx hb dX12_undo_9 (by decide) (fun _ => ?_) (fun c => absurd c (by decide))
    refine lv_aload_n hx hb dX12_undo_14 rfl (lv_at hl 0 rfl) ?_
    refine va_get (D := (dC, dI)) (ci := 12) (v := .int (mu 0 17)) (C := RX12) (T := TX12) (N := 46) hx hb hts inG12 hown hK hP 0 (gM_0 cs ad mu) rfl 17 (by decide) (hts _ (List.mem_cons_of_mem _ mw_5_58)) (fun _ h9 => h9) rfl dX12_undo_15 ?_
    refine lq_i y1 ey1.symm ?_
    refine lv_iload_n hx hb dX12_undo_18 rfl (lv_at hl 1 rfl) ?_
    refine lv_isub hx hb dX12_undo_19 ?_
    refine lv_topi (fun t3 et3 => ?_)
    have at3 : t3.toInt = y1.toInt - vn.toInt := by rw [et3]; exact tI_sub (rfl : y1.toInt = _) (rfl : vn.toInt = _) (by omega) (by omega)
    refine lv_istore_n (lv' := [(2, .int t3), (0, .ref (ad 0)), (1, .int vn)]) hx hb dX12_undo_20 rfl hl (by decide) rfl (fun ls hl => ?_)
    refine lv_aload_n hx hb dX12_undo_21 rfl (lv_at hl 1 rfl) ?_
    refine va_get (D := (dC, dI)) (ci := 12) (v := .int (mu 0 17)) (C := RX12) (T := TX12) (N := 46) hx hb hts inG12 hown hK hP 0 (gM_0 cs ad mu) rfl 17 (by decide) (hts _ (List.mem_cons_of_mem _ mw_5_58)) (fun _ h9 => h9) rfl dX12_undo_22 ?_
    refine lq_i y1 ey1.symm ?_
    refine lv_iconst (v := 1) hx hb dX12_undo_25 (by decide) ?_
    refine lv_isub hx hb dX12_undo_26 ?_
    refine lv_topi (fun t4 et4 => ?_)
    have at4 : t4.toInt = y1.toInt - 1 := by rw [et4]; exact tI_sub (rfl : y1.toInt = _) (rfl : (1 : Int32).toInt = 1) (by omega) (by omega)
    refine lv_istore_n (lv' := [(3, .int t4), (2, .int t3), (0, .ref (ad 0)), (1, .int vn)]) hx hb dX12_undo_27 rfl hl (by decide) rfl (fun ls hl => ?_)
    have loop28 : ∀ (n28 : Nat) (v3_28 : Int32) (nu28_ : Nat → Nat → Int32) (H : Heap) (locs : List Loc) (ls : Array Slot), (v3_28.toInt + 1 - -1).toNat < n28 → (-1 ≤ v3_28.toInt ∧ v3_28.toInt ≤ 39) → okR loM hiM nu28_ → va_P (dC, dI) vwCl (wR 21 ad (EM cs ad) nu28_) H → va_S (va_A (wR 21 ad (EM cs ad) mu) s.heap.size) s.heap H locs → lv_has ls 7 [(3, .int v3_28), (2, .int t3), (0, .ref (ad 0)), (1, .int vn)] → W p l e (headSpec (wU yX12_undo cX12_undo 7 (some .int)) ({ frames := 1, cells := 0, slots := 0, locals := 23 })).room s m ([.ref (ad 0), .int vn] : List Value).toArray below meth c H locs 0 0 (MQ below (va_Qi (fun (z : Int32) (xi : Nat → Nat → Int32) => okR loM hiM xi ∧ (True) ∧ True) (fun xi t => va_P (dC, dI) vwCl (wR 21 ad (EM cs ad) xi) t.heap) (va_A (wR 21 ad (EM cs ad) mu) s.heap.size)) ([.ref (ad 0), .int vn] : List Value).toArray s 0 0 (va_A (wR 21 ad (EM cs ad) mu) s.heap.size)) (F0 m 28 ls []) := by
      intro n28
      induction n28 with
      | zero => intro v3_28 nu28_ H locs ls hm; exact absurd hm (Nat.not_lt_zero _)
      | succ n28 ih28 =>
        intro v3_28 nu28_ H locs ls hm h_v3_28 ok hP hS hl
        refine lv_iload_n hx hb dX12_undo_28 rfl (lv_at hl 0 rfl) ?_
        refine lv_iload_n hx hb dX12_undo_29 rfl (lv_at hl 3 rfl) ?_
        refine lv_icmp_lt (tgt := 166) hx hb dX12_undo_30 (by decide) (fun c_5 => ?_) (fun c_5 => ?_)
        · have c_5 : v3_28.toInt < vn.toInt := il_lt c_5
          refine lv_aload_n hx hb dX12_undo_166 rfl (lv_at hl 2 rfl) ?_
          refine lv_iload_n hx hb dX12_undo_167 rfl (lv_at hl 3 rfl) ?_
          refine va_put (D := (dC, dI)) (ci := 12) (v := .int vn) (ty := .int) (C := RX12) (T := TX12) (N := 46) hx hb hts inG12 tyX12 tyX12_ok nmX12 hown hK hP (wR_D nu28_ hD) hS 0 (gM_0 cs ad nu28_) rfl 17 (by decide) (hts _ (List.mem_cons_of_mem _ mw_5_58)) (fun _ h9 => h9) rfl (by decide +kernel) rfl rfl (Nat.le_of_ble_eq_true rfl) dX12_undo_168 (fun H locs hP _ hS => ?_)
          simp only [List.set_cons_succ, List.set_cons_zero] at hP
          refine wr_gen (upd (nu28_ 0) 17 vn) hP ((hM_0_17 cs ad _ _)) (fun nu6 hn6 hP => ?_)
          have ok := tM_0_17 ok hn6 (by exact ⟨by omega, by omega⟩)
          have ez7 : vn = nu6 0 17 := up_v hn6
          refine lv_iload_n hx hb dX12_undo_171 rfl (lv_at hl 1 rfl) ?_
          exact W.iret (v := t3) hx hb hr (fun t ht hW => ⟨⟨t3, nu6, rfl, ⟨ok, trivial, trivial⟩, by first | (subst ht; exact hP) | (rw [ht]; exact hP) | (show va_P (dC, dI) vwCl (wR 21 ad (EM cs ad) nu6) t.heap; rw [ht]; exact hP)⟩, hS.F ht⟩) hS.2.2 dX12_undo_172
        · have c_5 : vn.toInt ≤ v3_28.toInt := il_nlt c_5
          refine lv_bipush (v := 12) hx hb dX12_undo_33 (by decide) ?_
          refine lv_iload_n hx hb dX12_undo_35 rfl (lv_at hl 0 rfl) ?_
          refine lv_imul hx hb dX12_undo_36 ?_
          refine lv_topi (fun t8 et8 => ?_)
          have at8 : t8.toInt = 12 * v3_28.toInt := by rw [et8]; exact tI_mul (rfl : (12 : Int32).toInt = 12) (rfl : v3_28.toInt = _) (by omega) (by omega)
          refine lv_istore (lv' := [(4, .int t8), (3, .int v3_28), (2, .int t3), (0, .ref (ad 0)), (1, .int vn)]) hx hb dX12_undo_37 hl (by decide) rfl (fun ls hl => ?_)
          refine lv_aload_n hx hb dX12_undo_39 rfl (lv_at hl 3 rfl) ?_
          refine va_get (D := (dC, dI)) (ci := 12) (v := .ref (ad 14)) (C := RX12) (T := TX12) (N := 46) hx hb hts inG12 hown hK hP 0 (gM_0 cs ad nu28_) rfl 24 (by decide) (hts _ (List.mem_cons_of_mem _ mw_5_65)) (fun _ h9 => h9) rfl dX12_undo_40 ?_
          refine lv_iload hx hb dX12_undo_43 (lv_at hl 0 rfl) ?_
          refine va_iald hx hb hK hP 14 0 (gM_14 cs ad nu28_) rfl (show vp_in t8 480 from vi_of (by omega) (by omega)) dX12_undo_45 ?_
          have hc9 : ((t8 : Int32).toNatClampNeg : Int) = t8.toInt := tC_of (by omega)
          refine lv_topi (fun y10 ey10 => ?_)
          have by10 : y10.toInt = (nu28_ 14 t8.toNatClampNeg).toInt := congrArg Int32.toInt ey10
          have gy10 : 0 ≤ y10.toInt ∧ y10.toInt ≤ 3 := by rw [ey10]; exact (rM_14_s ok t8.toNatClampNeg).1 (by omega)
          refine lv_istore (lv' := [(5, .int y10), (4, .int t8), (3, .int v3_28), (2, .int t3), (0, .ref (ad 0)), (1, .int vn)]) hx hb dX12_undo_46 hl (by decide) rfl (fun ls hl => ?_)
          refine lv_aload_n hx hb dX12_undo_48 rfl (lv_at hl 4 rfl) ?_
          refine lv_iload hx hb dX12_undo_49 (lv_at hl 0 rfl) ?_
          refine lv_iconst (v := 5) hx hb dX12_undo_51 (by decide) ?_
          refine lv_aload_n hx hb dX12_undo_52 rfl (lv_at hl 4 rfl) ?_
          refine va_get (D := (dC, dI)) (ci := 12) (v := .ref (ad 14)) (C := RX12) (T := TX12) (N := 46) hx hb hts inG12 hown hK hP 0 (gM_0 cs ad nu28_) rfl 24 (by decide) (hts _ (List.mem_cons_of_mem _ mw_5_65)) (fun _ h9 => h9) rfl dX12_undo_53 ?_
          refine lv_iload hx hb dX12_undo_56 (lv_at hl 1 rfl) ?_
          refine lv_iconst (v := 1) hx hb dX12_undo_58 (by decide) ?_
          refine lv_iadd hx hb dX12_undo_59 ?_
          refine lv_topi (fun t11 et11 => ?_)
          have at11 : t11.toInt = t8.toInt + 1 := by rw [et11]; exact tI_add (rfl : t8.toInt = _) (rfl : (1 : Int32).toInt = 1) (by omega) (by omega)
          refine va_iald hx hb hK hP 14 0 (gM_14 cs ad nu28_) rfl (show vp_in t11 480 from vi_of (by omega) (by omega)) dX12_undo_60 ?_
          have hc12 : ((t11 : Int32).toNatClampNeg : Int) = t11.toInt := tC_of (by omega)
          refine lv_topi (fun y13 ey13 => ?_)
          have by13 : y13.toInt = (nu28_ 14 t11.toNatClampNeg).toInt := congrArg Int32.toInt ey13
          have gy13 : 0 ≤ y13.toInt ∧ y13.toInt ≤ 6 := by rw [ey13]; exact (rM_14_s ok t11.toNatClampNeg).2 (by omega)
          have hFc := fr_all (wR_D nu28_ hD) hS hA
          refine va_callv (va_runV (As := [.int y10, .int 5, .int y13]) (rest := []) ⟨hx, hb, hml, hown, hts⟩ (sm_setLetter5 l dC dI cs ad nu28_ ok H hP ((wR_D nu28_ hD).weaken (fun _ _ _ _ => trivial)) y10 y13 (by have h51 : (5 : Int32).toInt = 5 := rfl; omega) (by have h51 : (5 : Int32).toInt = 5 := rfl; omega)) (cwV 3 hts (wU_V mw_6_106 mw_6_103 mw_6_105 mw_0_45 mw_1_13) rfl rfl rfl (by decide +kernel) ⟨Nat.le_of_ble_eq_true rfl, Nat.le_of_ble_eq_true rfl⟩) ⟨sz_c, va_recv hK hP (ci := 12) (q0 := 0) rfl (gM_0 cs ad nu28_), sz_m hK hz⟩ rfl rfl hl.1 rfl (lv_room (Nat.le_of_ble_eq_true rfl)) dX12_undo_61 ⟨Nat.zero_le _, Nat.zero_le _⟩) hS (fun q _ h => hFc q h) hFc (fun xi14 t H14 locs ht hvm hw14 hB hz1 hk1 hS => ?_)
          have hP : va_P (dC, dI) vwCl (wR 21 ad (EM cs ad) xi14) H14 := by rw [← ht]; exact hB
          obtain ⟨ok, hw14, _⟩ := hw14
          refine lv_aload_n hx hb dX12_undo_64 rfl (lv_at hl 4 rfl) ?_
          refine lv_iload hx hb dX12_undo_65 (lv_at hl 0 rfl) ?_
          refine lv_bipush (v := 6) hx hb dX12_undo_67 (by decide) ?_
          refine lv_aload_n hx hb dX12_undo_69 rfl (lv_at hl 4 rfl) ?_
          refine va_get (D := (dC, dI)) (ci := 12) (v := .ref (ad 14)) (C := RX12) (T := TX12) (N := 46) hx hb hts inG12 hown hK hP 0 (gM_0 cs ad xi14) rfl 24 (by decide) (hts _ (List.mem_cons_of_mem _ mw_5_65)) (fun _ h9 => h9) rfl dX12_undo_70 ?_
          refine lv_iload hx hb dX12_undo_73 (lv_at hl 1 rfl) ?_
          refine lv_iconst (v := 2) hx hb dX12_undo_75 (by decide) ?_
          refine lv_iadd hx hb dX12_undo_76 ?_
          refine lv_topi (fun t15 et15 => ?_)
          have at15 : t15.toInt = t8.toInt + 2 := by rw [et15]; exact tI_add (rfl : t8.toInt = _) (rfl : (2 : Int32).toInt = 2) (by omega) (by omega)
          refine va_iald hx hb hK hP 14 0 (gM_14 cs ad xi14) rfl (show vp_in t15 480 from vi_of (by omega) (by omega)) dX12_undo_77 ?_
          have hc16 : ((t15 : Int32).toNatClampNeg : Int) = t15.toInt := tC_of (by omega)
          refine lv_topi (fun y17 ey17 => ?_)
          have by17 : y17.toInt = (xi14 14 t15.toNatClampNeg).toInt := congrArg Int32.toInt ey17
          have hFc := fr_all (wR_D xi14 hD) hS hA
          refine va_callv (va_runV (As := [.int y10, .int 6, .int y17]) (rest := []) ⟨hx, hb, hml, hown, hts⟩ (sm_setLetter6 l dC dI cs ad xi14 ok H14 hP ((wR_D xi14 hD).weaken (fun _ _ _ _ => trivial)) y10 y17 (by have h51 : (6 : Int32).toInt = 6 := rfl; omega)) (cwV 3 hts (wU_V mw_6_106 mw_6_103 mw_6_105 mw_0_45 mw_1_13) rfl rfl rfl (by decide +kernel) ⟨Nat.le_of_ble_eq_true rfl, Nat.le_of_ble_eq_true rfl⟩) ⟨sz_c, va_recv hK hP (ci := 12) (q0 := 0) rfl (gM_0 cs ad xi14), sz_m hK hz⟩ rfl rfl hl.1 rfl (lv_room (Nat.le_of_ble_eq_true rfl)) dX12_undo_78 ⟨Nat.zero_le _, Nat.zero_le _⟩) hS (fun q _ h => hFc q h) hFc (fun xi18 t H18 locs ht hvm hw18 hB hz1 hk1 hS => ?_)
          have hP : va_P (dC, dI) vwCl (wR 21 ad (EM cs ad) xi18) H18 := by rw [← ht]; exact hB
          obtain ⟨ok, hw18, _⟩ := hw18
          refine lv_aload_n hx hb dX12_undo_81 rfl (lv_at hl 4 rfl) ?_
          refine lv_iload hx hb dX12_undo_82 (lv_at hl 0 rfl) ?_
          refine lv_bipush (v := 8) hx hb dX12_undo_84 (by decide) ?_
          refine lv_aload_n hx hb dX12_undo_86 rfl (lv_at hl 4 rfl) ?_
          refine va_get (D := (dC, dI)) (ci := 12) (v := .ref (ad 14)) (C := RX12) (T := TX12) (N := 46) hx hb hts inG12 hown hK hP 0 (gM_0 cs ad xi18) rfl 24 (by decide) (hts _ (List.mem_cons_of_mem _ mw_5_65)) (fun _ h9 => h9) rfl dX12_undo_87 ?_
          refine lv_iload hx hb dX12_undo_90 (lv_at hl 1 rfl) ?_
          refine lv_iconst (v := 3) hx hb dX12_undo_92 (by decide) ?_
          refine lv_iadd hx hb dX12_undo_93 ?_
          refine lv_topi (fun t19 et19 => ?_)
          have at19 : t19.toInt = t8.toInt + 3 := by rw [et19]; exact tI_add (rfl : t8.toInt = _) (rfl : (3 : Int32).toInt = 3) (by omega) (by omega)
          refine va_iald hx hb hK hP 14 0 (gM_14 cs ad xi18) rfl (show vp_in t19 480 from vi_of (by omega) (by omega)) dX12_undo_94 ?_
          have hc20 : ((t19 : Int32).toNatClampNeg : Int) = t19.toInt := tC_of (by omega)
          refine lv_topi (fun y21 ey21 => ?_)
          have by21 : y21.toInt = (xi18 14 t19.toNatClampNeg).toInt := congrArg Int32.toInt ey21
          have hFc := fr_all (wR_D xi18 hD) hS hA
          refine va_callv (va_runV (As := [.int y10, .int 8, .int y21]) (rest := []) ⟨hx, hb, hml, hown, hts⟩ (sm_setLetter8 l dC dI cs ad xi18 ok H18 hP ((wR_D xi18 hD).weaken (fun _ _ _ _ => trivial)) y10 y21 (by have h51 : (8 : Int32).toInt = 8 := rfl; omega)) (cwV 3 hts (wU_V mw_6_106 mw_6_103 mw_6_105 mw_0_45 mw_1_13) rfl rfl rfl (by decide +kernel) ⟨Nat.le_of_ble_eq_true rfl, Nat.le_of_ble_eq_true rfl⟩) ⟨sz_c, va_recv hK hP (ci := 12) (q0 := 0) rfl (gM_0 cs ad xi18), sz_m hK hz⟩ rfl rfl hl.1 rfl (lv_room (Nat.le_of_ble_eq_true rfl)) dX12_undo_95 ⟨Nat.zero_le _, Nat.zero_le _⟩) hS (fun q _ h => hFc q h) hFc (fun xi22 t H22 locs ht hvm hw22 hB hz1 hk1 hS => ?_)
          have hP : va_P (dC, dI) vwCl (wR 21 ad (EM cs ad) xi22) H22 := by rw [← ht]; exact hB
          obtain ⟨ok, hw22, _⟩ := hw22
          refine lv_aload_n hx hb dX12_undo_98 rfl (lv_at hl 4 rfl) ?_
          refine lv_iload hx hb dX12_undo_99 (lv_at hl 0 rfl) ?_
          refine lv_bipush (v := 7) hx hb dX12_undo_101 (by decide) ?_
          refine lv_aload_n hx hb dX12_undo_103 rfl (lv_at hl 4 rfl) ?_
          refine lv_iload hx hb dX12_undo_104 (lv_at hl 0 rfl) ?_
          refine lv_bipush (v := 7) hx hb dX12_undo_106 (by decide) ?_
          refine cr_i (va_runV (As := [.int y10, .int 7]) (rest := [.int 7, .int y10, .ref (ad 0)]) ⟨hx, hb, hml, hown, hts⟩ (sm_letterOf l dC dI cs ad xi22 ok H22 hP y10 7 (by have h51 : (7 : Int32).toInt = 7 := rfl; omega)) (cwV 2 hts (wU_V mw_6_48 mw_6_45 mw_6_47 mw_0_38 mw_1_13) rfl rfl rfl (by decide +kernel) ⟨Nat.le_of_ble_eq_true rfl, Nat.le_of_ble_eq_true rfl⟩) ⟨sz_c, va_recv hK hP (ci := 12) (q0 := 0) rfl (gM_0 cs ad xi22), sz_m hK hz⟩ rfl rfl hl.1 rfl (lv_room (Nat.le_of_ble_eq_true rfl)) dX12_undo_108 ⟨Nat.zero_le _, Nat.zero_le _⟩) hS (fun r23 hw23 locs hS => ?_)
          refine lv_iconst (v := 1) hx hb dX12_undo_111 (by decide) ?_
          refine lv_isub hx hb dX12_undo_112 ?_
          refine lv_topi (fun t24 et24 => ?_)
          have hFc := fr_all (wR_D xi22 hD) hS hA
          refine va_callv (va_runV (As := [.int y10, .int 7, .int t24]) (rest := []) ⟨hx, hb, hml, hown, hts⟩ (sm_setLetter7 l dC dI cs ad xi22 ok H22 hP ((wR_D xi22 hD).weaken (fun _ _ _ _ => trivial)) y10 t24 (by have h51 : (7 : Int32).toInt = 7 := rfl; omega)) (cwV 3 hts (wU_V mw_6_106 mw_6_103 mw_6_105 mw_0_45 mw_1_13) rfl rfl rfl (by decide +kernel) ⟨Nat.le_of_ble_eq_true rfl, Nat.le_of_ble_eq_true rfl⟩) ⟨sz_c, va_recv hK hP (ci := 12) (q0 := 0) rfl (gM_0 cs ad xi22), sz_m hK hz⟩ rfl rfl hl.1 rfl (lv_room (Nat.le_of_ble_eq_true rfl)) dX12_undo_113 ⟨Nat.zero_le _, Nat.zero_le _⟩) hS (fun q _ h => hFc q h) hFc (fun xi25 t H25 locs ht hvm hw25 hB hz1 hk1 hS => ?_)
          have hP : va_P (dC, dI) vwCl (wR 21 ad (EM cs ad) xi25) H25 := by rw [← ht]; exact hB
          obtain ⟨ok, hw25, _⟩ := hw25
          refine lv_aload_n hx hb dX12_undo_116 rfl (lv_at hl 4 rfl) ?_
          refine lv_iload hx hb dX12_undo_117 (lv_at hl 0 rfl) ?_
          refine lv_bipush (v := 9) hx hb dX12_undo_119 (by decide) ?_
          refine lv_iconst (v := 0) hx hb dX12_undo_121 (by decide) ?_
          have hFc := fr_all (wR_D xi25 hD) hS hA
          refine va_callv (va_runV (As := [.int y10, .int 9, .int 0]) (rest := []) ⟨hx, hb, hml, hown, hts⟩ (sm_setLetter9 l dC dI cs ad xi25 ok H25 hP ((wR_D xi25 hD).weaken (fun _ _ _ _ => trivial)) y10 0 (by have h51 : (9 : Int32).toInt = 9 := rfl; have h52 : (0 : Int32).toInt = 0 := rfl; omega)) (cwV 3 hts (wU_V mw_6_106 mw_6_103 mw_6_105 mw_0_45 mw_1_13) rfl rfl rfl (by decide +kernel) ⟨Nat.le_of_ble_eq_true rfl, Nat.le_of_ble_eq_true rfl⟩) ⟨sz_c, va_recv hK hP (ci := 12) (q0 := 0) rfl (gM_0 cs ad xi25), sz_m hK hz⟩ rfl rfl hl.1 rfl (lv_room (Nat.le_of_ble_eq_true rfl)) dX12_undo_122 ⟨Nat.zero_le _, Nat.zero_le _⟩) hS (fun q _ h => hFc q h) hFc (fun xi26 t H26 locs ht hvm hw26 hB hz1 hk1 hS => ?_)
          have hP : va_P (dC, dI) vwCl (wR 21 ad (EM cs ad) xi26) H26 := by rw [← ht]; exact hB
          obtain ⟨ok, hw26, _⟩ := hw26
          refine lv_iconst (v := 0) hx hb dX12_undo_125 (by decide) ?_
          refine lv_istore (lv' := [(6, .int 0), (5, .int y10), (4, .int t8), (3, .int v3_28), (2, .int t3), (0, .ref (ad 0)), (1, .int vn)]) hx hb dX12_undo_126 hl (by decide) rfl (fun ls hl => ?_)
          have loop128 : ∀ (n128 : Nat) (v6_128 : Int32) (nu128_ : Nat → Nat → Int32) (H : Heap) (locs : List Loc) (ls : Array Slot), (7 + 1 - v6_128.toInt).toNat < n128 → (0 ≤ v6_128.toInt ∧ v6_128.toInt ≤ 7) → okR loM hiM nu128_ → va_P (dC, dI) vwCl (wR 21 ad (EM cs ad) nu128_) H → va_S (va_A (wR 21 ad (EM cs ad) mu) s.heap.size) s.heap H locs → lv_has ls 7 [(6, .int v6_128), (5, .int y10), (4, .int t8), (3, .int v3_28), (2, .int t3), (0, .ref (ad 0)), (1, .int vn)] → W p l e (headSpec (wU yX12_undo cX12_undo 7 (some .int)) ({ frames := 1, cells := 0, slots := 0, locals := 23 })).room s m ([.ref (ad 0), .int vn] : List Value).toArray below meth c H locs 0 0 (MQ below (va_Qi (fun (z : Int32) (xi : Nat → Nat → Int32) => okR loM hiM xi ∧ (True) ∧ True) (fun xi t => va_P (dC, dI) vwCl (wR 21 ad (EM cs ad) xi) t.heap) (va_A (wR 21 ad (EM cs ad) mu) s.heap.size)) ([.ref (ad 0), .int vn] : List Value).toArray s 0 0 (va_A (wR 21 ad (EM cs ad) mu) s.heap.size)) (F0 m 128 ls []) := by
            intro n128
            induction n128 with
            | zero => intro v6_128 nu128_ H locs ls hm; exact absurd hm (Nat.not_lt_zero _)
            | succ n128 ih128 =>
              intro v6_128 nu128_ H locs ls hm h_v6_128 ok hP hS hl
              refine lv_iload hx hb dX12_undo_128 (lv_at hl 0 rfl) ?_
              refine lv_bipush (v := 7) hx hb dX12_undo_130 (by decide) ?_
              refine lv_icmp_ge (tgt := 160) hx hb dX12_undo_132 (by decide) (fun c_27 => ?_) (fun c_27 => ?_)
              · have c_27 : 7 ≤ v6_128.toInt := il_le c_27
                refine lv_iinc (v := (v3_28 + (-1))) (lv' := [(3, .int (v3_28 + (-1))), (6, .int v6_128), (5, .int y10), (4, .int t8), (2, .int t3), (0, .ref (ad 0)), (1, .int vn)]) hx hb dX12_undo_160 hl (k := 3) rfl rfl (by decide) rfl (fun ls hl => ?_)
                refine loc_gen (P := fun w9 => lv_has ls 7 [(3, .int w9), (6, .int v6_128), (5, .int y10), (4, .int t8), (2, .int t3), (0, .ref (ad 0)), (1, .int vn)]) (v3_28 + (-1)) hl (fun w28 hw28 hl => ?_)
                have hl : lv_has ls 7 [(3, .int w28), (6, .int v6_128), (5, .int y10), (4, .int t8), (2, .int t3), (0, .ref (ad 0)), (1, .int vn)] := hl
                have aw28 : w28.toInt = v3_28.toInt + (-1) := by rw [← hw28]; exact tI_add (rfl : v3_28.toInt = _) (rfl : ((-1) : Int32).toInt = -1) (by omega) (by omega)
                refine lv_goto (tgt := 28) hx hb dX12_undo_163 (by decide) ?_
                exact ih28 (w28) nu128_ _ _ _ (by omega) (by exact ⟨by omega, by omega⟩)  ok hP   hS (lv_sub hl [0, 4, 5, 6] rfl)
              · have c_27 : v6_128.toInt < 7 := il_nle c_27
                refine lv_aload_n hx hb dX12_undo_135 rfl (lv_at hl 5 rfl) ?_
                refine va_get (D := (dC, dI)) (ci := 12) (v := .ref (ad 8)) (C := RX12) (T := TX12) (N := 46) hx hb hts inG12 hown hK hP 0 (gM_0 cs ad nu128_) rfl 10 (by decide) (hts _ (List.mem_cons_of_mem _ mw_5_51)) (fun _ h9 => h9) rfl dX12_undo_136 ?_
                refine lv_iload hx hb dX12_undo_139 (lv_at hl 0 rfl) ?_
                refine lv_aload_n hx hb dX12_undo_141 rfl (lv_at hl 5 rfl) ?_
                refine va_get (D := (dC, dI)) (ci := 12) (v := .ref (ad 14)) (C := RX12) (T := TX12) (N := 46) hx hb hts inG12 hown hK hP 0 (gM_0 cs ad nu128_) rfl 24 (by decide) (hts _ (List.mem_cons_of_mem _ mw_5_65)) (fun _ h9 => h9) rfl dX12_undo_142 ?_
                refine lv_iload hx hb dX12_undo_145 (lv_at hl 2 rfl) ?_
                refine lv_iconst (v := 5) hx hb dX12_undo_147 (by decide) ?_
                refine lv_iadd hx hb dX12_undo_148 ?_
                refine lv_topi (fun t29 et29 => ?_)
                have at29 : t29.toInt = t8.toInt + 5 := by rw [et29]; exact tI_add (rfl : t8.toInt = _) (rfl : (5 : Int32).toInt = 5) (by omega) (by omega)
                refine lv_iload hx hb dX12_undo_149 (lv_at hl 0 rfl) ?_
                refine lv_iadd hx hb dX12_undo_151 ?_
                refine lv_topi (fun t30 et30 => ?_)
                have at30 : t30.toInt = t29.toInt + v6_128.toInt := by rw [et30]; exact tI_add (rfl : t29.toInt = _) (rfl : v6_128.toInt = _) (by omega) (by omega)
                refine va_iald hx hb hK hP 14 0 (gM_14 cs ad nu128_) rfl (show vp_in t30 480 from vi_of (by omega) (by omega)) dX12_undo_152 ?_
                have hc31 : ((t30 : Int32).toNatClampNeg : Int) = t30.toInt := tC_of (by omega)
                refine lv_topi (fun y32 ey32 => ?_)
                have by32 : y32.toInt = (nu128_ 14 t30.toNatClampNeg).toInt := congrArg Int32.toInt ey32
                refine va_iast hx hb hK hP (wR_D nu128_ hD) hS 8 0 (gM_8 cs ad nu128_) rfl (show vp_in v6_128 7 from vi_of (by omega) (by omega)) dX12_undo_153 (fun H locs hP _ hS => ?_)
                refine wr_gen (upd (nu128_ 8) v6_128.toNatClampNeg y32) hP (rfl) (fun nu33 hn33 hP => ?_)
                have ok := tM_8_s ok v6_128.toNatClampNeg hn33
                have ez34 : y32 = nu33 14 t30.toNatClampNeg := ey32.trans (congrFun (up_k hn33 (by decide)) t30.toNatClampNeg).symm
                refine lv_iinc (v := (v6_128 + 1)) (lv' := [(6, .int (v6_128 + 1)), (5, .int y10), (4, .int t8), (3, .int v3_28), (2, .int t3), (0, .ref (ad 0)), (1, .int vn)]) hx hb dX12_undo_154 hl (k := 0) rfl rfl (by decide) rfl (fun ls hl => ?_)
                refine loc_gen (P := fun w9 => lv_has ls 7 [(6, .int w9), (5, .int y10), (4, .int t8), (3, .int v3_28), (2, .int t3), (0, .ref (ad 0)), (1, .int vn)]) (v6_128 + 1) hl (fun w35 hw35 hl => ?_)
                have hl : lv_has ls 7 [(6, .int w35), (5, .int y10), (4, .int t8), (3, .int v3_28), (2, .int t3), (0, .ref (ad 0)), (1, .int vn)] := hl
                have aw35 : w35.toInt = v6_128.toInt + 1 := by rw [← hw35]; exact tI_add (rfl : v6_128.toInt = _) (rfl : (1 : Int32).toInt = 1) (by omega) (by omega)
                refine lv_goto (tgt := 128) hx hb dX12_undo_157 (by decide) ?_
                exact ih128 (w35) nu33 _ _ _ (by omega) (by exact ⟨by omega, by omega⟩)  ok hP   hS (lv_sub hl [0, 1, 2, 3, 4, 5, 6] rfl)
          exact loop128 ((7 + 1 - (0 : Int32).toInt).toNat + 1) (0) xi26 _ _ _ (Nat.lt_succ_self _) (by have h80 : (0 : Int32).toInt = 0 := rfl; exact ⟨by omega, by omega⟩)  ok hP   hS hl
    exact loop28 (((t4 : Int32).toInt + 1 - -1).toNat + 1) (t4) mu _ _ _ (Nat.lt_succ_self _) (by exact ⟨by omega, by omega⟩)  ok hP   hS hl
  · have f2 : vn.toInt < (0 : Int) ∨ y1.toInt < vn.toInt := f2
    refine lv_if_ne (tgt := 14) hx hb dX12_undo_9 (by decide) (fun c => absurd (by decide) c) (fun _ => ?_)
    refine lv_iconst (v := (-1)) hx hb dX12_undo_12 (by decide) ?_
    exact W.iret (v := (-1)) hx hb hr (fun t ht hW => ⟨⟨(-1), mu, rfl, ⟨ok, trivial, trivial⟩, by first | (subst ht; exact hP) | (rw [ht]; exact hP) | (show va_P (dC, dI) vwCl (wR 21 ad (EM cs ad) mu) t.heap; rw [ht]; exact hP)⟩, hS.F ht⟩) hS.2.2 dX12_undo_13
set_option maxHeartbeats 4000000 in
set_option maxRecDepth 100000 in
/-- qm_keep -/
theorem qm_keep (l : Launch) (dC : Nat → ClassId) (dI : Nat → Nat → Nat) (cs : Nat → ClassId) (ad : Nat → Nat) (mu : Nat → Nat → Int32) (ok : okR loM hiM mu) (H : Heap) (hP : va_P (dC, dI) vwCl (wR 21 ad (EM cs ad) mu) H) (hD0 : va_D (fun _ => True) (wR 21 ad (EM cs ad) mu)) (vk : Int32) : Met l yX12_keep (wU yX12_keep cX12_keep 4 (some .int)) ({ frames := 1, cells := 0, slots := 0, locals := 22 }) (va_Pc [.ref (ad 0), .int vk] (sz_P (dC, dI) vwCl (tyM cs) H)) (va_Qi (fun (z : Int32) (xi : Nat → Nat → Int32) => okR loM hiM xi ∧ (True) ∧ True) (fun xi t => va_P (dC, dI) vwCl (wR 21 ad (EM cs ad) xi) t.heap) (va_A (wR 21 ad (EM cs ad) mu) H.size)) 0 0 (va_A (wR 21 ad (EM cs ad) mu) H.size) := by
  refine Met.ofW (cc := cX12_keep) (maxL := 4) (ret := (some .int)) (by decide) rfl ?_
  intro p e s m args below meth c s₁ B hml hv
  obtain ⟨rfl, hh, hK, hz⟩ := hv
  have hx := B.exec
  have hb := B.bytes
  have hr := B.returns
  have hts := atoms_spec (ws := (wU yX12_keep cX12_keep 4 (some .int))) B.pre
  have hown : s.vm.findClass RX12 = some m.cls := findClass_of_methodNamed B.named
  have hlocks := B.notSynchronized
  subst hh
  have hD := hD0.self (sz := s.heap.size)
  have hA : ∀ q : Nat, s.heap.size ≤ q → (va_A (wR 21 ad (EM cs ad) mu) s.heap.size) q := fun q h => Or.inr h
  have hS : va_S (va_A (wR 21 ad (EM cs ad) mu) s.heap.size) s.heap s.heap [] := va_S.rf
  have hl := lv_entry ([.ref (ad 0), .int vk]) (n := 4) (Nat.le_of_ble_eq_true rfl)
  rw [lg_entry_eq]
  generalize (lg_sl ([.ref (ad 0), .int vk]) ++ List.replicate (4 - (lg_sl ([.ref (ad 0), .int vk])).length) Slot.unset).toArray = ls at hl ⊢
  have hl : lv_has ls 4 [(0, .ref (ad 0)), (1, .int vk)] := hl
  refine lv_iload_n hx hb dX12_keep_0 rfl (lv_at hl 1 rfl) ?_
  refine lv_iconst (v := 0) hx hb dX12_keep_1 (by decide) ?_
  refine lv_iconst (v := 2) hx hb dX12_keep_2 (by decide) ?_
  refine cr_i (va_runS (As := [.int vk, .int 0, .int 2]) (rest := []) ⟨hx, hb, hml, hown, hts⟩ (sm_in l dC dI (tyM cs) s.heap vk 0 2) (va_cwS 3 hts (wU_S mw_5_189 mw_5_187 mw_5_188 mw_1_13) rfl rfl rfl (by decide +kernel) ⟨Nat.le_of_ble_eq_true rfl, Nat.le_of_ble_eq_true rfl⟩) ⟨sz_c, sz_m hK hz⟩ rfl rfl hl.1 rfl (lv_room (Nat.le_of_ble_eq_true rfl)) dX12_keep_3 ⟨Nat.zero_le _, Nat.zero_le _⟩) hS (fun r1 hw1 locs hS => ?_)
  rcases hw1 with ⟨rfl, f1⟩ | ⟨rfl, f1⟩
  · have f1 : (0 : Int) ≤ vk.toInt ∧ vk.toInt ≤ (2 : Int) := f1
    refine lv_if_ne (tgt := 11) hx hb dX12_keep_6 (by decide) (fun _ => ?_) (fun c => absurd c (by decide))
    refine lv_aload_n hx hb dX12_keep_11 rfl (lv_at hl 0 rfl) ?_
    refine va_get (D := (dC, dI)) (ci := 12) (v := .int (mu 0 8)) (C := RX12) (T := TX12) (N := 46) hx hb hts inG12 hown hK hP 0 (gM_0 cs ad mu) rfl 8 (by decide) (hts _ (List.mem_cons_of_mem _ mw_5_49)) (fun _ h9 => h9) rfl dX12_keep_12 ?_
    refine lv_topi (fun y2 ey2 => ?_)
    have by2 : y2.toInt = (mu 0 8).toInt := congrArg Int32.toInt ey2
    have gy2 : 0 ≤ y2.toInt ∧ y2.toInt ≤ 7 := by rw [ey2]; exact rM_0_8 ok
    refine lv_if_ne (tgt := 21) hx hb dX12_keep_15 (by decide) (fun c_3 => ?_) (fun c_3 => ?_)
    · have c_3 : ¬ y2.toInt = 0 := il_ne c_3
      refine lv_bipush (v := 64) hx hb dX12_keep_21 (by decide) ?_
      refine lv_iload_n hx hb dX12_keep_23 rfl (lv_at hl 1 rfl) ?_
      refine lv_imul hx hb dX12_keep_24 ?_
      refine lv_topi (fun t4 et4 => ?_)
      have at4 : t4.toInt = 64 * vk.toInt := by rw [et4]; exact tI_mul (rfl : (64 : Int32).toInt = 64) (rfl : vk.toInt = _) (by omega) (by omega)
      refine lv_istore_n (lv' := [(2, .int t4), (0, .ref (ad 0)), (1, .int vk)]) hx hb dX12_keep_25 rfl hl (by decide) rfl (fun ls hl => ?_)
      refine lv_aload_n hx hb dX12_keep_26 rfl (lv_at hl 1 rfl) ?_
      refine va_get (D := (dC, dI)) (ci := 12) (v := .ref (ad 15)) (C := RX12) (T := TX12) (N := 46) hx hb hts inG12 hown hK hP 0 (gM_0 cs ad mu) rfl 25 (by decide) (hts _ (List.mem_cons_of_mem _ mw_5_66)) (fun _ h9 => h9) rfl dX12_keep_27 ?_
      refine lv_iload_n hx hb dX12_keep_30 rfl (lv_at hl 0 rfl) ?_
      refine lv_aload_n hx hb dX12_keep_31 rfl (lv_at hl 1 rfl) ?_
      refine va_get (D := (dC, dI)) (ci := 12) (v := .int (mu 0 14)) (C := RX12) (T := TX12) (N := 46) hx hb hts inG12 hown hK hP 0 (gM_0 cs ad mu) rfl 14 (by decide) (hts _ (List.mem_cons_of_mem _ mw_5_55)) (fun _ h9 => h9) rfl dX12_keep_32 ?_
      refine lv_topi (fun y5 ey5 => ?_)
      have by5 : y5.toInt = (mu 0 14).toInt := congrArg Int32.toInt ey5
      refine va_iast hx hb hK hP (wR_D mu hD) hS 15 0 (gM_15 cs ad mu) rfl (show vp_in t4 192 from vi_of (by omega) (by omega)) dX12_keep_35 (fun H locs hP _ hS => ?_)
      have hc6 : ((t4 : Int32).toNatClampNeg : Int) = t4.toInt := tC_of (by omega)
      refine wr_gen (upd (mu 15) t4.toNatClampNeg y5) hP (rfl) (fun nu7 hn7 hP => ?_)
      have ok := tM_15_s ok t4.toNatClampNeg hn7 (by refine ⟨fun c9 => ?_, fun c9 => ?_, fun c9 => ?_, fun c9 => ?_, fun c9 => ?_⟩ <;> omega)
      have ez8 : y2 = nu7 0 8 := ey2.trans (congrFun (up_k hn7 (by decide)) 8).symm
      have ez9 : y5 = nu7 0 14 := ey5.trans (congrFun (up_k hn7 (by decide)) 14).symm
      refine lv_aload_n hx hb dX12_keep_36 rfl (lv_at hl 1 rfl) ?_
      refine va_get (D := (dC, dI)) (ci := 12) (v := .ref (ad 15)) (C := RX12) (T := TX12) (N := 46) hx hb hts inG12 hown hK hP 0 (gM_0 cs ad nu7) rfl 25 (by decide) (hts _ (List.mem_cons_of_mem _ mw_5_66)) (fun _ h9 => h9) rfl dX12_keep_37 ?_
      refine lv_iload_n hx hb dX12_keep_40 rfl (lv_at hl 0 rfl) ?_
      refine lv_iconst (v := 1) hx hb dX12_keep_41 (by decide) ?_
      refine lv_iadd hx hb dX12_keep_42 ?_
      refine lv_topi (fun t10 et10 => ?_)
      have at10 : t10.toInt = t4.toInt + 1 := by rw [et10]; exact tI_add (rfl : t4.toInt = _) (rfl : (1 : Int32).toInt = 1) (by omega) (by omega)
      refine lv_aload_n hx hb dX12_keep_43 rfl (lv_at hl 1 rfl) ?_
      refine va_get (D := (dC, dI)) (ci := 12) (v := .int (nu7 0 13)) (C := RX12) (T := TX12) (N := 46) hx hb hts inG12 hown hK hP 0 (gM_0 cs ad nu7) rfl 13 (by decide) (hts _ (List.mem_cons_of_mem _ mw_5_54)) (fun _ h9 => h9) rfl dX12_keep_44 ?_
      refine lv_topi (fun y11 ey11 => ?_)
      have by11 : y11.toInt = (nu7 0 13).toInt := congrArg Int32.toInt ey11
      refine va_iast hx hb hK hP (wR_D nu7 hD) hS 15 0 (gM_15 cs ad nu7) rfl (show vp_in t10 192 from vi_of (by omega) (by omega)) dX12_keep_47 (fun H locs hP _ hS => ?_)
      have hc12 : ((t10 : Int32).toNatClampNeg : Int) = t10.toInt := tC_of (by omega)
      refine wr_gen (upd (nu7 15) t10.toNatClampNeg y11) hP (rfl) (fun nu13 hn13 hP => ?_)
      have ok := tM_15_s ok t10.toNatClampNeg hn13 (by refine ⟨fun c9 => ?_, fun c9 => ?_, fun c9 => ?_, fun c9 => ?_, fun c9 => ?_⟩ <;> omega)
      have ez14 : y2 = nu13 0 8 := ez8.trans (congrFun (up_k hn13 (by decide)) 8).symm
      have ez15 : y5 = nu13 0 14 := ez9.trans (congrFun (up_k hn13 (by decide)) 14).symm
      have ez16 : y11 = nu13 0 13 := ey11.trans (congrFun (up_k hn13 (by decide)) 13).symm
      refine lv_aload_n hx hb dX12_keep_48 rfl (lv_at hl 1 rfl) ?_
      refine va_get (D := (dC, dI)) (ci := 12) (v := .ref (ad 15)) (C := RX12) (T := TX12) (N := 46) hx hb hts inG12 hown hK hP 0 (gM_0 cs ad nu13) rfl 25 (by decide) (hts _ (List.mem_cons_of_mem _ mw_5_66)) (fun _ h9 => h9) rfl dX12_keep_49 ?_
      refine lv_iload_n hx hb dX12_keep_52 rfl (lv_at hl 0 rfl) ?_
      refine lv_iconst (v := 2) hx hb dX12_keep_53 (by decide) ?_
      refine lv_iadd hx hb dX12_keep_54 ?_
      refine lv_topi (fun t17 et17 => ?_)
      have at17 : t17.toInt = t4.toInt + 2 := by rw [et17]; exact tI_add (rfl : t4.toInt = _) (rfl : (2 : Int32).toInt = 2) (by omega) (by omega)
      refine lv_aload_n hx hb dX12_keep_55 rfl (lv_at hl 1 rfl) ?_
      refine va_get (D := (dC, dI)) (ci := 12) (v := .int (nu13 0 15)) (C := RX12) (T := TX12) (N := 46) hx hb hts inG12 hown hK hP 0 (gM_0 cs ad nu13) rfl 15 (by decide) (hts _ (List.mem_cons_of_mem _ mw_5_56)) (fun _ h9 => h9) rfl dX12_keep_56 ?_
      refine lv_topi (fun y18 ey18 => ?_)
      have by18 : y18.toInt = (nu13 0 15).toInt := congrArg Int32.toInt ey18
      have gy18 : 0 ≤ y18.toInt ∧ y18.toInt ≤ 4 := by rw [ey18]; exact rM_0_15 ok
      refine va_iast hx hb hK hP (wR_D nu13 hD) hS 15 0 (gM_15 cs ad nu13) rfl (show vp_in t17 192 from vi_of (by omega) (by omega)) dX12_keep_59 (fun H locs hP _ hS => ?_)
      have hc19 : ((t17 : Int32).toNatClampNeg : Int) = t17.toInt := tC_of (by omega)
      refine wr_gen (upd (nu13 15) t17.toNatClampNeg y18) hP (rfl) (fun nu20 hn20 hP => ?_)
      have ok := tM_15_s ok t17.toNatClampNeg hn20 (by refine ⟨fun c9 => ?_, fun c9 => ?_, fun c9 => ?_, fun c9 => ?_, fun c9 => ?_⟩ <;> omega)
      have ez21 : y2 = nu20 0 8 := ez14.trans (congrFun (up_k hn20 (by decide)) 8).symm
      have ez22 : y5 = nu20 0 14 := ez15.trans (congrFun (up_k hn20 (by decide)) 14).symm
      have ez23 : y11 = nu20 0 13 := ez16.trans (congrFun (up_k hn20 (by decide)) 13).symm
      have ez24 : y18 = nu20 0 15 := ey18.trans (congrFun (up_k hn20 (by decide)) 15).symm
      refine lv_iconst (v := 0) hx hb dX12_keep_60 (by decide) ?_
      refine lv_istore_n (lv' := [(3, .int 0), (2, .int t4), (0, .ref (ad 0)), (1, .int vk)]) hx hb dX12_keep_61 rfl hl (by decide) rfl (fun ls hl => ?_)
      have loop62 : ∀ (n62 : Nat) (v3_62 : Int32) (nu62_ : Nat → Nat → Int32) (H : Heap) (locs : List Loc) (ls : Array Slot), (7 + 1 - v3_62.toInt).toNat < n62 → (0 ≤ v3_62.toInt ∧ v3_62.toInt ≤ 7) → okR loM hiM nu62_ → va_P (dC, dI) vwCl (wR 21 ad (EM cs ad) nu62_) H → va_S (va_A (wR 21 ad (EM cs ad) mu) s.heap.size) s.heap H locs → lv_has ls 4 [(3, .int v3_62), (2, .int t4), (0, .ref (ad 0)), (1, .int vk)] → W p l e (headSpec (wU yX12_keep cX12_keep 4 (some .int)) ({ frames := 1, cells := 0, slots := 0, locals := 22 })).room s m ([.ref (ad 0), .int vk] : List Value).toArray below meth c H locs 0 0 (MQ below (va_Qi (fun (z : Int32) (xi : Nat → Nat → Int32) => okR loM hiM xi ∧ (True) ∧ True) (fun xi t => va_P (dC, dI) vwCl (wR 21 ad (EM cs ad) xi) t.heap) (va_A (wR 21 ad (EM cs ad) mu) s.heap.size)) ([.ref (ad 0), .int vk] : List Value).toArray s 0 0 (va_A (wR 21 ad (EM cs ad) mu) s.heap.size)) (F0 m 62 ls []) := by
        intro n62
        induction n62 with
        | zero => intro v3_62 nu62_ H locs ls hm; exact absurd hm (Nat.not_lt_zero _)
        | succ n62 ih62 =>
          intro v3_62 nu62_ H locs ls hm h_v3_62 ok hP hS hl
          refine lv_iload_n hx hb dX12_keep_62 rfl (lv_at hl 0 rfl) ?_
          refine lv_bipush (v := 7) hx hb dX12_keep_63 (by decide) ?_
          refine lv_icmp_ge (tgt := 90) hx hb dX12_keep_65 (by decide) (fun c_25 => ?_) (fun c_25 => ?_)
          · have c_25 : 7 ≤ v3_62.toInt := il_le c_25
            refine lv_iconst (v := 0) hx hb dX12_keep_90 (by decide) ?_
            refine lv_istore_n (lv' := [(3, .int 0), (2, .int t4), (0, .ref (ad 0)), (1, .int vk)]) hx hb dX12_keep_91 rfl hl (by decide) rfl (fun ls hl => ?_)
            have loop92 : ∀ (n92 : Nat) (v3_92 : Int32) (nu92_ : Nat → Nat → Int32) (H : Heap) (locs : List Loc) (ls : Array Slot), (40 + 1 - v3_92.toInt).toNat < n92 → (0 ≤ v3_92.toInt ∧ v3_92.toInt ≤ 40) → okR loM hiM nu92_ → va_P (dC, dI) vwCl (wR 21 ad (EM cs ad) nu92_) H → va_S (va_A (wR 21 ad (EM cs ad) mu) s.heap.size) s.heap H locs → lv_has ls 4 [(3, .int v3_92), (2, .int t4), (0, .ref (ad 0)), (1, .int vk)] → W p l e (headSpec (wU yX12_keep cX12_keep 4 (some .int)) ({ frames := 1, cells := 0, slots := 0, locals := 22 })).room s m ([.ref (ad 0), .int vk] : List Value).toArray below meth c H locs 0 0 (MQ below (va_Qi (fun (z : Int32) (xi : Nat → Nat → Int32) => okR loM hiM xi ∧ (True) ∧ True) (fun xi t => va_P (dC, dI) vwCl (wR 21 ad (EM cs ad) xi) t.heap) (va_A (wR 21 ad (EM cs ad) mu) s.heap.size)) ([.ref (ad 0), .int vk] : List Value).toArray s 0 0 (va_A (wR 21 ad (EM cs ad) mu) s.heap.size)) (F0 m 92 ls []) := by
              intro n92
              induction n92 with
              | zero => intro v3_92 nu92_ H locs ls hm; exact absurd hm (Nat.not_lt_zero _)
              | succ n92 ih92 =>
                intro v3_92 nu92_ H locs ls hm h_v3_92 ok hP hS hl
                refine lv_iload_n hx hb dX12_keep_92 rfl (lv_at hl 0 rfl) ?_
                refine lv_bipush (v := 40) hx hb dX12_keep_93 (by decide) ?_
                refine lv_icmp_ge (tgt := 121) hx hb dX12_keep_95 (by decide) (fun c_26 => ?_) (fun c_26 => ?_)
                · have c_26 : 40 ≤ v3_92.toInt := il_le c_26
                  refine lv_aload_n hx hb dX12_keep_121 rfl (lv_at hl 2 rfl) ?_
                  refine va_get (D := (dC, dI)) (ci := 12) (v := .int (nu92_ 0 14)) (C := RX12) (T := TX12) (N := 46) hx hb hts inG12 hown hK hP 0 (gM_0 cs ad nu92_) rfl 14 (by decide) (hts _ (List.mem_cons_of_mem _ mw_5_55)) (fun _ h9 => h9) rfl dX12_keep_122 ?_
                  refine lv_topi (fun y27 ey27 => ?_)
                  have by27 : y27.toInt = (nu92_ 0 14).toInt := congrArg Int32.toInt ey27
                  exact W.iret (v := y27) hx hb hr (fun t ht hW => ⟨⟨y27, nu92_, rfl, ⟨ok, trivial, trivial⟩, by first | (subst ht; exact hP) | (rw [ht]; exact hP) | (show va_P (dC, dI) vwCl (wR 21 ad (EM cs ad) nu92_) t.heap; rw [ht]; exact hP)⟩, hS.F ht⟩) hS.2.2 dX12_keep_125
                · have c_26 : v3_92.toInt < 40 := il_nle c_26
                  refine lv_aload_n hx hb dX12_keep_98 rfl (lv_at hl 2 rfl) ?_
                  refine va_get (D := (dC, dI)) (ci := 12) (v := .ref (ad 15)) (C := RX12) (T := TX12) (N := 46) hx hb hts inG12 hown hK hP 0 (gM_0 cs ad nu92_) rfl 25 (by decide) (hts _ (List.mem_cons_of_mem _ mw_5_66)) (fun _ h9 => h9) rfl dX12_keep_99 ?_
                  refine lv_iload_n hx hb dX12_keep_102 rfl (lv_at hl 1 rfl) ?_
                  refine lv_bipush (v := 10) hx hb dX12_keep_103 (by decide) ?_
                  refine lv_iadd hx hb dX12_keep_105 ?_
                  refine lv_topi (fun t28 et28 => ?_)
                  have at28 : t28.toInt = t4.toInt + 10 := by rw [et28]; exact tI_add (rfl : t4.toInt = _) (rfl : (10 : Int32).toInt = 10) (by omega) (by omega)
                  refine lv_iload_n hx hb dX12_keep_106 rfl (lv_at hl 0 rfl) ?_
                  refine lv_iadd hx hb dX12_keep_107 ?_
                  refine lv_topi (fun t29 et29 => ?_)
                  have at29 : t29.toInt = t28.toInt + v3_92.toInt := by rw [et29]; exact tI_add (rfl : t28.toInt = _) (rfl : v3_92.toInt = _) (by omega) (by omega)
                  refine lv_aload_n hx hb dX12_keep_108 rfl (lv_at hl 2 rfl) ?_
                  refine va_get (D := (dC, dI)) (ci := 12) (v := .ref (ad 10)) (C := RX12) (T := TX12) (N := 46) hx hb hts inG12 hown hK hP 0 (gM_0 cs ad nu92_) rfl 16 (by decide) (hts _ (List.mem_cons_of_mem _ mw_5_57)) (fun _ h9 => h9) rfl dX12_keep_109 ?_
                  refine lv_iload_n hx hb dX12_keep_112 rfl (lv_at hl 0 rfl) ?_
                  refine va_iald hx hb hK hP 10 0 (gM_10 cs ad nu92_) rfl (show vp_in v3_92 40 from vi_of (by omega) (by omega)) dX12_keep_113 ?_
                  have hc30 : ((v3_92 : Int32).toNatClampNeg : Int) = v3_92.toInt := tC_of (by omega)
                  refine lv_topi (fun y31 ey31 => ?_)
                  have by31 : y31.toInt = (nu92_ 10 v3_92.toNatClampNeg).toInt := congrArg Int32.toInt ey31
                  refine va_iast hx hb hK hP (wR_D nu92_ hD) hS 15 0 (gM_15 cs ad nu92_) rfl (show vp_in t29 192 from vi_of (by omega) (by omega)) dX12_keep_114 (fun H locs hP _ hS => ?_)
                  have hc32 : ((t29 : Int32).toNatClampNeg : Int) = t29.toInt := tC_of (by omega)
                  refine wr_gen (upd (nu92_ 15) t29.toNatClampNeg y31) hP (rfl) (fun nu33 hn33 hP => ?_)
                  have ok := okR_one ok ey31 (by have u1 := tC_of (v := t29) (by omega); have u2 := tC_of (v := vk) (by omega); have u3 := tC_of (v := v3_92) (by omega); rw [show t29.toNatClampNeg = 64 * vk.toNatClampNeg + 10 + v3_92.toNatClampNeg by omega]; exact kp_in _ (by omega) _ (by omega)) hn33
                  have ez34 : y31 = nu33 10 v3_92.toNatClampNeg := ey31.trans (congrFun (up_k hn33 (by decide)) v3_92.toNatClampNeg).symm
                  refine lv_iinc (v := (v3_92 + 1)) (lv' := [(3, .int (v3_92 + 1)), (2, .int t4), (0, .ref (ad 0)), (1, .int vk)]) hx hb dX12_keep_115 hl (k := 0) rfl rfl (by decide) rfl (fun ls hl => ?_)
                  refine loc_gen (P := fun w9 => lv_has ls 4 [(3, .int w9), (2, .int t4), (0, .ref (ad 0)), (1, .int vk)]) (v3_92 + 1) hl (fun w35 hw35 hl => ?_)
                  have hl : lv_has ls 4 [(3, .int w35), (2, .int t4), (0, .ref (ad 0)), (1, .int vk)] := hl
                  have aw35 : w35.toInt = v3_92.toInt + 1 := by rw [← hw35]; exact tI_add (rfl : v3_92.toInt = _) (rfl : (1 : Int32).toInt = 1) (by omega) (by omega)
                  refine lv_goto (tgt := 92) hx hb dX12_keep_118 (by decide) ?_
                  exact ih92 (w35) nu33 _ _ _ (by omega) (by exact ⟨by omega, by omega⟩)  ok hP   hS (lv_sub hl [0, 1, 2, 3] rfl)
            exact loop92 ((40 + 1 - (0 : Int32).toInt).toNat + 1) (0) nu62_ _ _ _ (Nat.lt_succ_self _) (by have h80 : (0 : Int32).toInt = 0 := rfl; exact ⟨by omega, by omega⟩)  ok hP   hS hl
          · have c_25 : v3_62.toInt < 7 := il_nle c_25
            refine lv_aload_n hx hb dX12_keep_68 rfl (lv_at hl 2 rfl) ?_
            refine va_get (D := (dC, dI)) (ci := 12) (v := .ref (ad 15)) (C := RX12) (T := TX12) (N := 46) hx hb hts inG12 hown hK hP 0 (gM_0 cs ad nu62_) rfl 25 (by decide) (hts _ (List.mem_cons_of_mem _ mw_5_66)) (fun _ h9 => h9) rfl dX12_keep_69 ?_
            refine lv_iload_n hx hb dX12_keep_72 rfl (lv_at hl 1 rfl) ?_
            refine lv_iconst (v := 3) hx hb dX12_keep_73 (by decide) ?_
            refine lv_iadd hx hb dX12_keep_74 ?_
            refine lv_topi (fun t36 et36 => ?_)
            have at36 : t36.toInt = t4.toInt + 3 := by rw [et36]; exact tI_add (rfl : t4.toInt = _) (rfl : (3 : Int32).toInt = 3) (by omega) (by omega)
            refine lv_iload_n hx hb dX12_keep_75 rfl (lv_at hl 0 rfl) ?_
            refine lv_iadd hx hb dX12_keep_76 ?_
            refine lv_topi (fun t37 et37 => ?_)
            have at37 : t37.toInt = t36.toInt + v3_62.toInt := by rw [et37]; exact tI_add (rfl : t36.toInt = _) (rfl : v3_62.toInt = _) (by omega) (by omega)
            refine lv_aload_n hx hb dX12_keep_77 rfl (lv_at hl 2 rfl) ?_
            refine va_get (D := (dC, dI)) (ci := 12) (v := .ref (ad 8)) (C := RX12) (T := TX12) (N := 46) hx hb hts inG12 hown hK hP 0 (gM_0 cs ad nu62_) rfl 10 (by decide) (hts _ (List.mem_cons_of_mem _ mw_5_51)) (fun _ h9 => h9) rfl dX12_keep_78 ?_
            refine lv_iload_n hx hb dX12_keep_81 rfl (lv_at hl 0 rfl) ?_
            refine va_iald hx hb hK hP 8 0 (gM_8 cs ad nu62_) rfl (show vp_in v3_62 7 from vi_of (by omega) (by omega)) dX12_keep_82 ?_
            refine lv_topi (fun y38 ey38 => ?_)
            have by38 : y38.toInt = (nu62_ 8 v3_62.toNatClampNeg).toInt := congrArg Int32.toInt ey38
            refine va_iast hx hb hK hP (wR_D nu62_ hD) hS 15 0 (gM_15 cs ad nu62_) rfl (show vp_in t37 192 from vi_of (by omega) (by omega)) dX12_keep_83 (fun H locs hP _ hS => ?_)
            have hc39 : ((t37 : Int32).toNatClampNeg : Int) = t37.toInt := tC_of (by omega)
            refine wr_gen (upd (nu62_ 15) t37.toNatClampNeg y38) hP (rfl) (fun nu40 hn40 hP => ?_)
            have ok := tM_15_s ok t37.toNatClampNeg hn40 (by refine ⟨fun c9 => ?_, fun c9 => ?_, fun c9 => ?_, fun c9 => ?_, fun c9 => ?_⟩ <;> omega)
            have ez41 : y38 = nu40 8 v3_62.toNatClampNeg := ey38.trans (congrFun (up_k hn40 (by decide)) v3_62.toNatClampNeg).symm
            refine lv_iinc (v := (v3_62 + 1)) (lv' := [(3, .int (v3_62 + 1)), (2, .int t4), (0, .ref (ad 0)), (1, .int vk)]) hx hb dX12_keep_84 hl (k := 0) rfl rfl (by decide) rfl (fun ls hl => ?_)
            refine loc_gen (P := fun w9 => lv_has ls 4 [(3, .int w9), (2, .int t4), (0, .ref (ad 0)), (1, .int vk)]) (v3_62 + 1) hl (fun w42 hw42 hl => ?_)
            have hl : lv_has ls 4 [(3, .int w42), (2, .int t4), (0, .ref (ad 0)), (1, .int vk)] := hl
            have aw42 : w42.toInt = v3_62.toInt + 1 := by rw [← hw42]; exact tI_add (rfl : v3_62.toInt = _) (rfl : (1 : Int32).toInt = 1) (by omega) (by omega)
            refine lv_goto (tgt := 62) hx hb dX12_keep_87 (by decide) ?_
            exact ih62 (w42) nu40 _ _ _ (by omega) (by exact ⟨by omega, by omega⟩)  ok hP   hS (lv_sub hl [0, 1, 2, 3] rfl)
      exact loop62 ((7 + 1 - (0 : Int32).toInt).toNat + 1) (0) nu20 _ _ _ (Nat.lt_succ_self _) (by have h80 : (0 : Int32).toInt = 0 := rfl; exact ⟨by omega, by omega⟩)  ok hP   hS hl
    · have c_3 : y2.toInt = 0 := il_eq c_3
      refine lv_bipush (v := (-4)) hx hb dX12_keep_18 (by decide) ?_
      exact W.iret (v := (-4)) hx hb hr (fun t ht hW => ⟨⟨(-4), mu, rfl, ⟨ok, trivial, trivial⟩, by first | (subst ht; exact hP) | (rw [ht]; exact hP) | (show va_P (dC, dI) vwCl (wR 21 ad (EM cs ad) mu) t.heap; rw [ht]; exact hP)⟩, hS.F ht⟩) hS.2.2 dX12_keep_20
  · have f1 : vk.toInt < (0 : Int) ∨ (2 : Int) < vk.toInt := f1
    refine lv_if_ne (tgt := 11) hx hb dX12_keep_6 (by decide) (fun c => absurd (by decide) c) (fun _ => ?_)
    refine lv_iconst (v := (-1)) hx hb dX12_keep_9 (by decide) ?_
    exact W.iret (v := (-1)) hx hb hr (fun t ht hW => ⟨⟨(-1), mu, rfl, ⟨ok, trivial, trivial⟩, by first | (subst ht; exact hP) | (rw [ht]; exact hP) | (show va_P (dC, dI) vwCl (wR 21 ad (EM cs ad) mu) t.heap; rw [ht]; exact hP)⟩, hS.F ht⟩) hS.2.2 dX12_keep_10
set_option maxHeartbeats 4000000 in
set_option maxRecDepth 100000 in
/-- qm_on -/
theorem qm_on (l : Launch) (dC : Nat → ClassId) (dI : Nat → Nat → Nat) (cs : Nat → ClassId) (ad : Nat → Nat) (mu : Nat → Nat → Int32) (ok : okR loM hiM mu) (H : Heap) (hP : va_P (dC, dI) vwCl (wR 21 ad (EM cs ad) mu) H) (hD0 : va_D (fun _ => True) (wR 21 ad (EM cs ad) mu)) (vk : Int32) : Met l yX12_on (wU yX12_on cX12_on 4 (some .int)) ({ frames := 1, cells := 0, slots := 0, locals := 22 }) (va_Pc [.ref (ad 0), .int vk] (sz_P (dC, dI) vwCl (tyM cs) H)) (va_Qi (fun (z : Int32) (xi : Nat → Nat → Int32) => okR loM hiM xi ∧ (True) ∧ True) (fun xi t => va_P (dC, dI) vwCl (wR 21 ad (EM cs ad) xi) t.heap) (va_A (wR 21 ad (EM cs ad) mu) H.size)) 0 0 (va_A (wR 21 ad (EM cs ad) mu) H.size) := by
  refine Met.ofW (cc := cX12_on) (maxL := 4) (ret := (some .int)) (by decide) rfl ?_
  intro p e s m args below meth c s₁ B hml hv
  obtain ⟨rfl, hh, hK, hz⟩ := hv
  have hx := B.exec
  have hb := B.bytes
  have hr := B.returns
  have hts := atoms_spec (ws := (wU yX12_on cX12_on 4 (some .int))) B.pre
  have hown : s.vm.findClass RX12 = some m.cls := findClass_of_methodNamed B.named
  have hlocks := B.notSynchronized
  subst hh
  have hD := hD0.self (sz := s.heap.size)
  have hA : ∀ q : Nat, s.heap.size ≤ q → (va_A (wR 21 ad (EM cs ad) mu) s.heap.size) q := fun q h => Or.inr h
  have hS : va_S (va_A (wR 21 ad (EM cs ad) mu) s.heap.size) s.heap s.heap [] := va_S.rf
  have hl := lv_entry ([.ref (ad 0), .int vk]) (n := 4) (Nat.le_of_ble_eq_true rfl)
  rw [lg_entry_eq]
  generalize (lg_sl ([.ref (ad 0), .int vk]) ++ List.replicate (4 - (lg_sl ([.ref (ad 0), .int vk])).length) Slot.unset).toArray = ls at hl ⊢
  have hl : lv_has ls 4 [(0, .ref (ad 0)), (1, .int vk)] := hl
  refine lv_iload_n hx hb dX12_on_0 rfl (lv_at hl 1 rfl) ?_
  refine lv_iconst (v := 0) hx hb dX12_on_1 (by decide) ?_
  refine lv_iconst (v := 2) hx hb dX12_on_2 (by decide) ?_
  refine cr_i (va_runS (As := [.int vk, .int 0, .int 2]) (rest := []) ⟨hx, hb, hml, hown, hts⟩ (sm_in l dC dI (tyM cs) s.heap vk 0 2) (va_cwS 3 hts (wU_S mw_5_189 mw_5_187 mw_5_188 mw_1_13) rfl rfl rfl (by decide +kernel) ⟨Nat.le_of_ble_eq_true rfl, Nat.le_of_ble_eq_true rfl⟩) ⟨sz_c, sz_m hK hz⟩ rfl rfl hl.1 rfl (lv_room (Nat.le_of_ble_eq_true rfl)) dX12_on_3 ⟨Nat.zero_le _, Nat.zero_le _⟩) hS (fun r1 hw1 locs hS => ?_)
  rcases hw1 with ⟨rfl, f1⟩ | ⟨rfl, f1⟩
  · have f1 : (0 : Int) ≤ vk.toInt ∧ vk.toInt ≤ (2 : Int) := f1
    refine lv_if_ne (tgt := 11) hx hb dX12_on_6 (by decide) (fun _ => ?_) (fun c => absurd c (by decide))
    refine lv_bipush (v := 64) hx hb dX12_on_11 (by decide) ?_
    refine lv_iload_n hx hb dX12_on_13 rfl (lv_at hl 1 rfl) ?_
    refine lv_imul hx hb dX12_on_14 ?_
    refine lv_topi (fun t2 et2 => ?_)
    have at2 : t2.toInt = 64 * vk.toInt := by rw [et2]; exact tI_mul (rfl : (64 : Int32).toInt = 64) (rfl : vk.toInt = _) (by omega) (by omega)
    refine lv_istore_n (lv' := [(2, .int t2), (0, .ref (ad 0)), (1, .int vk)]) hx hb dX12_on_15 rfl hl (by decide) rfl (fun ls hl => ?_)
    refine lv_aload_n hx hb dX12_on_16 rfl (lv_at hl 1 rfl) ?_
    refine va_get (D := (dC, dI)) (ci := 12) (v := .ref (ad 15)) (C := RX12) (T := TX12) (N := 46) hx hb hts inG12 hown hK hP 0 (gM_0 cs ad mu) rfl 25 (by decide) (hts _ (List.mem_cons_of_mem _ mw_5_66)) (fun _ h9 => h9) rfl dX12_on_17 ?_
    refine lv_iload_n hx hb dX12_on_20 rfl (lv_at hl 0 rfl) ?_
    refine va_iald hx hb hK hP 15 0 (gM_15 cs ad mu) rfl (show vp_in t2 192 from vi_of (by omega) (by omega)) dX12_on_21 ?_
    have hc3 : ((t2 : Int32).toNatClampNeg : Int) = t2.toInt := tC_of (by omega)
    refine lv_topi (fun y4 ey4 => ?_)
    have by4 : y4.toInt = (mu 15 t2.toNatClampNeg).toInt := congrArg Int32.toInt ey4
    refine lv_bipush (v := (-9)) hx hb dX12_on_22 (by decide) ?_
    refine lv_icmp_ne (tgt := 33) hx hb dX12_on_24 (by decide) (fun c_5 => ?_) (fun c_5 => ?_)
    · have c_5 : ¬ y4.toInt = -9 := il_ne c_5
      refine lv_aload_n hx hb dX12_on_33 rfl (lv_at hl 1 rfl) ?_
      refine lv_aload_n hx hb dX12_on_34 rfl (lv_at hl 1 rfl) ?_
      refine va_get (D := (dC, dI)) (ci := 12) (v := .ref (ad 15)) (C := RX12) (T := TX12) (N := 46) hx hb hts inG12 hown hK hP 0 (gM_0 cs ad mu) rfl 25 (by decide) (hts _ (List.mem_cons_of_mem _ mw_5_66)) (fun _ h9 => h9) rfl dX12_on_35 ?_
      refine lv_iload_n hx hb dX12_on_38 rfl (lv_at hl 0 rfl) ?_
      refine va_iald hx hb hK hP 15 0 (gM_15 cs ad mu) rfl (show vp_in t2 192 from vi_of (by omega) (by omega)) dX12_on_39 ?_
      have hc6 : ((t2 : Int32).toNatClampNeg : Int) = t2.toInt := tC_of (by omega)
      refine lq_i y4 ey4.symm ?_
      refine va_put (D := (dC, dI)) (ci := 12) (v := .int y4) (ty := .int) (C := RX12) (T := TX12) (N := 46) hx hb hts inG12 tyX12 tyX12_ok nmX12 hown hK hP (wR_D mu hD) hS 0 (gM_0 cs ad mu) rfl 14 (by decide) (hts _ (List.mem_cons_of_mem _ mw_5_55)) (fun _ h9 => h9) rfl (by decide +kernel) rfl rfl (Nat.le_of_ble_eq_true rfl) dX12_on_40 (fun H locs hP _ hS => ?_)
      simp only [List.set_cons_succ, List.set_cons_zero] at hP
      refine wr_gen (upd (mu 0) 14 y4) hP ((hM_0_14 cs ad _ _)) (fun nu7 hn7 hP => ?_)
      have ok := tM_0_14 ok hn7
      have ez8 : y4 = nu7 15 t2.toNatClampNeg := ey4.trans (congrFun (up_k hn7 (by decide)) t2.toNatClampNeg).symm
      have ez9 : y4 = nu7 0 14 := up_v hn7
      refine lv_aload_n hx hb dX12_on_43 rfl (lv_at hl 1 rfl) ?_
      refine lv_aload_n hx hb dX12_on_44 rfl (lv_at hl 1 rfl) ?_
      refine va_get (D := (dC, dI)) (ci := 12) (v := .ref (ad 15)) (C := RX12) (T := TX12) (N := 46) hx hb hts inG12 hown hK hP 0 (gM_0 cs ad nu7) rfl 25 (by decide) (hts _ (List.mem_cons_of_mem _ mw_5_66)) (fun _ h9 => h9) rfl dX12_on_45 ?_
      refine lv_iload_n hx hb dX12_on_48 rfl (lv_at hl 0 rfl) ?_
      refine lv_iconst (v := 1) hx hb dX12_on_49 (by decide) ?_
      refine lv_iadd hx hb dX12_on_50 ?_
      refine lv_topi (fun t10 et10 => ?_)
      have at10 : t10.toInt = t2.toInt + 1 := by rw [et10]; exact tI_add (rfl : t2.toInt = _) (rfl : (1 : Int32).toInt = 1) (by omega) (by omega)
      refine va_iald hx hb hK hP 15 0 (gM_15 cs ad nu7) rfl (show vp_in t10 192 from vi_of (by omega) (by omega)) dX12_on_51 ?_
      have hc11 : ((t10 : Int32).toNatClampNeg : Int) = t10.toInt := tC_of (by omega)
      refine lv_topi (fun y12 ey12 => ?_)
      have by12 : y12.toInt = (nu7 15 t10.toNatClampNeg).toInt := congrArg Int32.toInt ey12
      refine va_put (D := (dC, dI)) (ci := 12) (v := .int y12) (ty := .int) (C := RX12) (T := TX12) (N := 46) hx hb hts inG12 tyX12 tyX12_ok nmX12 hown hK hP (wR_D nu7 hD) hS 0 (gM_0 cs ad nu7) rfl 13 (by decide) (hts _ (List.mem_cons_of_mem _ mw_5_54)) (fun _ h9 => h9) rfl (by decide +kernel) rfl rfl (Nat.le_of_ble_eq_true rfl) dX12_on_52 (fun H locs hP _ hS => ?_)
      simp only [List.set_cons_succ, List.set_cons_zero] at hP
      refine wr_gen (upd (nu7 0) 13 y12) hP ((hM_0_13 cs ad _ _)) (fun nu13 hn13 hP => ?_)
      have ok := tM_0_13 ok hn13
      have ez14 : y4 = nu13 15 t2.toNatClampNeg := ez8.trans (congrFun (up_k hn13 (by decide)) t2.toNatClampNeg).symm
      have ez15 : y4 = nu13 0 14 := ez9.trans (up_f hn13 (by decide)).symm
      have ez16 : y12 = nu13 15 t10.toNatClampNeg := ey12.trans (congrFun (up_k hn13 (by decide)) t10.toNatClampNeg).symm
      have ez17 : y12 = nu13 0 13 := up_v hn13
      refine lv_aload_n hx hb dX12_on_55 rfl (lv_at hl 1 rfl) ?_
      refine lv_aload_n hx hb dX12_on_56 rfl (lv_at hl 1 rfl) ?_
      refine va_get (D := (dC, dI)) (ci := 12) (v := .ref (ad 15)) (C := RX12) (T := TX12) (N := 46) hx hb hts inG12 hown hK hP 0 (gM_0 cs ad nu13) rfl 25 (by decide) (hts _ (List.mem_cons_of_mem _ mw_5_66)) (fun _ h9 => h9) rfl dX12_on_57 ?_
      refine lv_iload_n hx hb dX12_on_60 rfl (lv_at hl 0 rfl) ?_
      refine lv_iconst (v := 2) hx hb dX12_on_61 (by decide) ?_
      refine lv_iadd hx hb dX12_on_62 ?_
      refine lv_topi (fun t18 et18 => ?_)
      have at18 : t18.toInt = t2.toInt + 2 := by rw [et18]; exact tI_add (rfl : t2.toInt = _) (rfl : (2 : Int32).toInt = 2) (by omega) (by omega)
      refine va_iald hx hb hK hP 15 0 (gM_15 cs ad nu13) rfl (show vp_in t18 192 from vi_of (by omega) (by omega)) dX12_on_63 ?_
      have hc19 : ((t18 : Int32).toNatClampNeg : Int) = t18.toInt := tC_of (by omega)
      refine lv_topi (fun y20 ey20 => ?_)
      have by20 : y20.toInt = (nu13 15 t18.toNatClampNeg).toInt := congrArg Int32.toInt ey20
      have gy20 : 0 ≤ y20.toInt ∧ y20.toInt ≤ 4 := by rw [ey20]; exact (rM_15_s ok t18.toNatClampNeg).1 (by omega)
      refine va_put (D := (dC, dI)) (ci := 12) (v := .int y20) (ty := .int) (C := RX12) (T := TX12) (N := 46) hx hb hts inG12 tyX12 tyX12_ok nmX12 hown hK hP (wR_D nu13 hD) hS 0 (gM_0 cs ad nu13) rfl 15 (by decide) (hts _ (List.mem_cons_of_mem _ mw_5_56)) (fun _ h9 => h9) rfl (by decide +kernel) rfl rfl (Nat.le_of_ble_eq_true rfl) dX12_on_64 (fun H locs hP _ hS => ?_)
      simp only [List.set_cons_succ, List.set_cons_zero] at hP
      refine wr_gen (upd (nu13 0) 15 y20) hP ((hM_0_15 cs ad _ _)) (fun nu21 hn21 hP => ?_)
      have ok := tM_0_15 ok hn21 (by exact ⟨by omega, by omega⟩)
      have ez22 : y4 = nu21 15 t2.toNatClampNeg := ez14.trans (congrFun (up_k hn21 (by decide)) t2.toNatClampNeg).symm
      have ez23 : y4 = nu21 0 14 := ez15.trans (up_f hn21 (by decide)).symm
      have ez24 : y12 = nu21 15 t10.toNatClampNeg := ez16.trans (congrFun (up_k hn21 (by decide)) t10.toNatClampNeg).symm
      have ez25 : y12 = nu21 0 13 := ez17.trans (up_f hn21 (by decide)).symm
      have ez26 : y20 = nu21 15 t18.toNatClampNeg := ey20.trans (congrFun (up_k hn21 (by decide)) t18.toNatClampNeg).symm
      have ez27 : y20 = nu21 0 15 := up_v hn21
      refine lv_iconst (v := 0) hx hb dX12_on_67 (by decide) ?_
      refine lv_istore_n (lv' := [(3, .int 0), (2, .int t2), (0, .ref (ad 0)), (1, .int vk)]) hx hb dX12_on_68 rfl hl (by decide) rfl (fun ls hl => ?_)
      have loop69 : ∀ (n69 : Nat) (v3_69 : Int32) (nu69_ : Nat → Nat → Int32) (H : Heap) (locs : List Loc) (ls : Array Slot), (7 + 1 - v3_69.toInt).toNat < n69 → (0 ≤ v3_69.toInt ∧ v3_69.toInt ≤ 7) → okR loM hiM nu69_ → va_P (dC, dI) vwCl (wR 21 ad (EM cs ad) nu69_) H → va_S (va_A (wR 21 ad (EM cs ad) mu) s.heap.size) s.heap H locs → lv_has ls 4 [(3, .int v3_69), (2, .int t2), (0, .ref (ad 0)), (1, .int vk)] → W p l e (headSpec (wU yX12_on cX12_on 4 (some .int)) ({ frames := 1, cells := 0, slots := 0, locals := 22 })).room s m ([.ref (ad 0), .int vk] : List Value).toArray below meth c H locs 0 0 (MQ below (va_Qi (fun (z : Int32) (xi : Nat → Nat → Int32) => okR loM hiM xi ∧ (True) ∧ True) (fun xi t => va_P (dC, dI) vwCl (wR 21 ad (EM cs ad) xi) t.heap) (va_A (wR 21 ad (EM cs ad) mu) s.heap.size)) ([.ref (ad 0), .int vk] : List Value).toArray s 0 0 (va_A (wR 21 ad (EM cs ad) mu) s.heap.size)) (F0 m 69 ls []) := by
        intro n69
        induction n69 with
        | zero => intro v3_69 nu69_ H locs ls hm; exact absurd hm (Nat.not_lt_zero _)
        | succ n69 ih69 =>
          intro v3_69 nu69_ H locs ls hm h_v3_69 ok hP hS hl
          refine lv_iload_n hx hb dX12_on_69 rfl (lv_at hl 0 rfl) ?_
          refine lv_bipush (v := 7) hx hb dX12_on_70 (by decide) ?_
          refine lv_icmp_ge (tgt := 97) hx hb dX12_on_72 (by decide) (fun c_28 => ?_) (fun c_28 => ?_)
          · have c_28 : 7 ≤ v3_69.toInt := il_le c_28
            refine lv_iconst (v := 0) hx hb dX12_on_97 (by decide) ?_
            refine lv_istore_n (lv' := [(3, .int 0), (2, .int t2), (0, .ref (ad 0)), (1, .int vk)]) hx hb dX12_on_98 rfl hl (by decide) rfl (fun ls hl => ?_)
            have loop99 : ∀ (n99 : Nat) (v3_99 : Int32) (nu99_ : Nat → Nat → Int32) (H : Heap) (locs : List Loc) (ls : Array Slot), (40 + 1 - v3_99.toInt).toNat < n99 → (0 ≤ v3_99.toInt ∧ v3_99.toInt ≤ 40) → okR loM hiM nu99_ → va_P (dC, dI) vwCl (wR 21 ad (EM cs ad) nu99_) H → va_S (va_A (wR 21 ad (EM cs ad) mu) s.heap.size) s.heap H locs → lv_has ls 4 [(3, .int v3_99), (2, .int t2), (0, .ref (ad 0)), (1, .int vk)] → W p l e (headSpec (wU yX12_on cX12_on 4 (some .int)) ({ frames := 1, cells := 0, slots := 0, locals := 22 })).room s m ([.ref (ad 0), .int vk] : List Value).toArray below meth c H locs 0 0 (MQ below (va_Qi (fun (z : Int32) (xi : Nat → Nat → Int32) => okR loM hiM xi ∧ (True) ∧ True) (fun xi t => va_P (dC, dI) vwCl (wR 21 ad (EM cs ad) xi) t.heap) (va_A (wR 21 ad (EM cs ad) mu) s.heap.size)) ([.ref (ad 0), .int vk] : List Value).toArray s 0 0 (va_A (wR 21 ad (EM cs ad) mu) s.heap.size)) (F0 m 99 ls []) := by
              intro n99
              induction n99 with
              | zero => intro v3_99 nu99_ H locs ls hm; exact absurd hm (Nat.not_lt_zero _)
              | succ n99 ih99 =>
                intro v3_99 nu99_ H locs ls hm h_v3_99 ok hP hS hl
                refine lv_iload_n hx hb dX12_on_99 rfl (lv_at hl 0 rfl) ?_
                refine lv_bipush (v := 40) hx hb dX12_on_100 (by decide) ?_
                refine lv_icmp_ge (tgt := 128) hx hb dX12_on_102 (by decide) (fun c_29 => ?_) (fun c_29 => ?_)
                · have c_29 : 40 ≤ v3_99.toInt := il_le c_29
                  refine lv_aload_n hx hb dX12_on_128 rfl (lv_at hl 2 rfl) ?_
                  refine lv_iconst (v := 0) hx hb dX12_on_129 (by decide) ?_
                  refine va_put (D := (dC, dI)) (ci := 12) (v := .int 0) (ty := .int) (C := RX12) (T := TX12) (N := 46) hx hb hts inG12 tyX12 tyX12_ok nmX12 hown hK hP (wR_D nu99_ hD) hS 0 (gM_0 cs ad nu99_) rfl 17 (by decide) (hts _ (List.mem_cons_of_mem _ mw_5_58)) (fun _ h9 => h9) rfl (by decide +kernel) rfl rfl (Nat.le_of_ble_eq_true rfl) dX12_on_130 (fun H locs hP _ hS => ?_)
                  simp only [List.set_cons_succ, List.set_cons_zero] at hP
                  refine wr_gen (upd (nu99_ 0) 17 0) hP ((hM_0_17 cs ad _ _)) (fun nu30 hn30 hP => ?_)
                  have ok := tM_0_17 ok hn30 (by have h9 : (0 : Int32).toInt = 0 := rfl; exact ⟨by omega, by omega⟩)
                  have ez31 : 0 = nu30 0 17 := up_v hn30
                  refine lv_aload_n hx hb dX12_on_133 rfl (lv_at hl 2 rfl) ?_
                  refine va_get (D := (dC, dI)) (ci := 12) (v := .int (nu30 0 14)) (C := RX12) (T := TX12) (N := 46) hx hb hts inG12 hown hK hP 0 (gM_0 cs ad nu30) rfl 14 (by decide) (hts _ (List.mem_cons_of_mem _ mw_5_55)) (fun _ h9 => h9) rfl dX12_on_134 ?_
                  refine lv_topi (fun y32 ey32 => ?_)
                  have by32 : y32.toInt = (nu30 0 14).toInt := congrArg Int32.toInt ey32
                  exact W.iret (v := y32) hx hb hr (fun t ht hW => ⟨⟨y32, nu30, rfl, ⟨ok, trivial, trivial⟩, by first | (subst ht; exact hP) | (rw [ht]; exact hP) | (show va_P (dC, dI) vwCl (wR 21 ad (EM cs ad) nu30) t.heap; rw [ht]; exact hP)⟩, hS.F ht⟩) hS.2.2 dX12_on_137
                · have c_29 : v3_99.toInt < 40 := il_nle c_29
                  refine lv_aload_n hx hb dX12_on_105 rfl (lv_at hl 2 rfl) ?_
                  refine va_get (D := (dC, dI)) (ci := 12) (v := .ref (ad 10)) (C := RX12) (T := TX12) (N := 46) hx hb hts inG12 hown hK hP 0 (gM_0 cs ad nu99_) rfl 16 (by decide) (hts _ (List.mem_cons_of_mem _ mw_5_57)) (fun _ h9 => h9) rfl dX12_on_106 ?_
                  refine lv_iload_n hx hb dX12_on_109 rfl (lv_at hl 0 rfl) ?_
                  refine lv_aload_n hx hb dX12_on_110 rfl (lv_at hl 2 rfl) ?_
                  refine va_get (D := (dC, dI)) (ci := 12) (v := .ref (ad 15)) (C := RX12) (T := TX12) (N := 46) hx hb hts inG12 hown hK hP 0 (gM_0 cs ad nu99_) rfl 25 (by decide) (hts _ (List.mem_cons_of_mem _ mw_5_66)) (fun _ h9 => h9) rfl dX12_on_111 ?_
                  refine lv_iload_n hx hb dX12_on_114 rfl (lv_at hl 1 rfl) ?_
                  refine lv_bipush (v := 10) hx hb dX12_on_115 (by decide) ?_
                  refine lv_iadd hx hb dX12_on_117 ?_
                  refine lv_topi (fun t33 et33 => ?_)
                  have at33 : t33.toInt = t2.toInt + 10 := by rw [et33]; exact tI_add (rfl : t2.toInt = _) (rfl : (10 : Int32).toInt = 10) (by omega) (by omega)
                  refine lv_iload_n hx hb dX12_on_118 rfl (lv_at hl 0 rfl) ?_
                  refine lv_iadd hx hb dX12_on_119 ?_
                  refine lv_topi (fun t34 et34 => ?_)
                  have at34 : t34.toInt = t33.toInt + v3_99.toInt := by rw [et34]; exact tI_add (rfl : t33.toInt = _) (rfl : v3_99.toInt = _) (by omega) (by omega)
                  refine va_iald hx hb hK hP 15 0 (gM_15 cs ad nu99_) rfl (show vp_in t34 192 from vi_of (by omega) (by omega)) dX12_on_120 ?_
                  have hc35 : ((t34 : Int32).toNatClampNeg : Int) = t34.toInt := tC_of (by omega)
                  refine lv_topi (fun y36 ey36 => ?_)
                  have by36 : y36.toInt = (nu99_ 15 t34.toNatClampNeg).toInt := congrArg Int32.toInt ey36
                  refine va_iast hx hb hK hP (wR_D nu99_ hD) hS 10 0 (gM_10 cs ad nu99_) rfl (show vp_in v3_99 40 from vi_of (by omega) (by omega)) dX12_on_121 (fun H locs hP _ hS => ?_)
                  have hc37 : ((v3_99 : Int32).toNatClampNeg : Int) = v3_99.toInt := tC_of (by omega)
                  refine wr_gen (upd (nu99_ 10) v3_99.toNatClampNeg y36) hP (rfl) (fun nu38 hn38 hP => ?_)
                  have ok := okR_one ok ey36 (by have u1 := tC_of (v := t34) (by omega); have u2 := tC_of (v := vk) (by omega); have u3 := tC_of (v := v3_99) (by omega); rw [show t34.toNatClampNeg = 64 * vk.toNatClampNeg + 10 + v3_99.toNatClampNeg by omega]; exact kp_out _ (by omega) _ (by omega)) hn38
                  have ez39 : y36 = nu38 15 t34.toNatClampNeg := ey36.trans (congrFun (up_k hn38 (by decide)) t34.toNatClampNeg).symm
                  refine lv_iinc (v := (v3_99 + 1)) (lv' := [(3, .int (v3_99 + 1)), (2, .int t2), (0, .ref (ad 0)), (1, .int vk)]) hx hb dX12_on_122 hl (k := 0) rfl rfl (by decide) rfl (fun ls hl => ?_)
                  refine loc_gen (P := fun w9 => lv_has ls 4 [(3, .int w9), (2, .int t2), (0, .ref (ad 0)), (1, .int vk)]) (v3_99 + 1) hl (fun w40 hw40 hl => ?_)
                  have hl : lv_has ls 4 [(3, .int w40), (2, .int t2), (0, .ref (ad 0)), (1, .int vk)] := hl
                  have aw40 : w40.toInt = v3_99.toInt + 1 := by rw [← hw40]; exact tI_add (rfl : v3_99.toInt = _) (rfl : (1 : Int32).toInt = 1) (by omega) (by omega)
                  refine lv_goto (tgt := 99) hx hb dX12_on_125 (by decide) ?_
                  exact ih99 (w40) nu38 _ _ _ (by omega) (by exact ⟨by omega, by omega⟩)  ok hP   hS (lv_sub hl [0, 1, 2, 3] rfl)
            exact loop99 ((40 + 1 - (0 : Int32).toInt).toNat + 1) (0) nu69_ _ _ _ (Nat.lt_succ_self _) (by have h80 : (0 : Int32).toInt = 0 := rfl; exact ⟨by omega, by omega⟩)  ok hP   hS hl
          · have c_28 : v3_69.toInt < 7 := il_nle c_28
            refine lv_aload_n hx hb dX12_on_75 rfl (lv_at hl 2 rfl) ?_
            refine va_get (D := (dC, dI)) (ci := 12) (v := .ref (ad 8)) (C := RX12) (T := TX12) (N := 46) hx hb hts inG12 hown hK hP 0 (gM_0 cs ad nu69_) rfl 10 (by decide) (hts _ (List.mem_cons_of_mem _ mw_5_51)) (fun _ h9 => h9) rfl dX12_on_76 ?_
            refine lv_iload_n hx hb dX12_on_79 rfl (lv_at hl 0 rfl) ?_
            refine lv_aload_n hx hb dX12_on_80 rfl (lv_at hl 2 rfl) ?_
            refine va_get (D := (dC, dI)) (ci := 12) (v := .ref (ad 15)) (C := RX12) (T := TX12) (N := 46) hx hb hts inG12 hown hK hP 0 (gM_0 cs ad nu69_) rfl 25 (by decide) (hts _ (List.mem_cons_of_mem _ mw_5_66)) (fun _ h9 => h9) rfl dX12_on_81 ?_
            refine lv_iload_n hx hb dX12_on_84 rfl (lv_at hl 1 rfl) ?_
            refine lv_iconst (v := 3) hx hb dX12_on_85 (by decide) ?_
            refine lv_iadd hx hb dX12_on_86 ?_
            refine lv_topi (fun t41 et41 => ?_)
            have at41 : t41.toInt = t2.toInt + 3 := by rw [et41]; exact tI_add (rfl : t2.toInt = _) (rfl : (3 : Int32).toInt = 3) (by omega) (by omega)
            refine lv_iload_n hx hb dX12_on_87 rfl (lv_at hl 0 rfl) ?_
            refine lv_iadd hx hb dX12_on_88 ?_
            refine lv_topi (fun t42 et42 => ?_)
            have at42 : t42.toInt = t41.toInt + v3_69.toInt := by rw [et42]; exact tI_add (rfl : t41.toInt = _) (rfl : v3_69.toInt = _) (by omega) (by omega)
            refine va_iald hx hb hK hP 15 0 (gM_15 cs ad nu69_) rfl (show vp_in t42 192 from vi_of (by omega) (by omega)) dX12_on_89 ?_
            have hc43 : ((t42 : Int32).toNatClampNeg : Int) = t42.toInt := tC_of (by omega)
            refine lv_topi (fun y44 ey44 => ?_)
            have by44 : y44.toInt = (nu69_ 15 t42.toNatClampNeg).toInt := congrArg Int32.toInt ey44
            refine va_iast hx hb hK hP (wR_D nu69_ hD) hS 8 0 (gM_8 cs ad nu69_) rfl (show vp_in v3_69 7 from vi_of (by omega) (by omega)) dX12_on_90 (fun H locs hP _ hS => ?_)
            refine wr_gen (upd (nu69_ 8) v3_69.toNatClampNeg y44) hP (rfl) (fun nu45 hn45 hP => ?_)
            have ok := tM_8_s ok v3_69.toNatClampNeg hn45
            have ez46 : y44 = nu45 15 t42.toNatClampNeg := ey44.trans (congrFun (up_k hn45 (by decide)) t42.toNatClampNeg).symm
            refine lv_iinc (v := (v3_69 + 1)) (lv' := [(3, .int (v3_69 + 1)), (2, .int t2), (0, .ref (ad 0)), (1, .int vk)]) hx hb dX12_on_91 hl (k := 0) rfl rfl (by decide) rfl (fun ls hl => ?_)
            refine loc_gen (P := fun w9 => lv_has ls 4 [(3, .int w9), (2, .int t2), (0, .ref (ad 0)), (1, .int vk)]) (v3_69 + 1) hl (fun w47 hw47 hl => ?_)
            have hl : lv_has ls 4 [(3, .int w47), (2, .int t2), (0, .ref (ad 0)), (1, .int vk)] := hl
            have aw47 : w47.toInt = v3_69.toInt + 1 := by rw [← hw47]; exact tI_add (rfl : v3_69.toInt = _) (rfl : (1 : Int32).toInt = 1) (by omega) (by omega)
            refine lv_goto (tgt := 69) hx hb dX12_on_94 (by decide) ?_
            exact ih69 (w47) nu45 _ _ _ (by omega) (by exact ⟨by omega, by omega⟩)  ok hP   hS (lv_sub hl [0, 1, 2, 3] rfl)
      exact loop69 ((7 + 1 - (0 : Int32).toInt).toNat + 1) (0) nu21 _ _ _ (Nat.lt_succ_self _) (by have h80 : (0 : Int32).toInt = 0 := rfl; exact ⟨by omega, by omega⟩)  ok hP   hS hl
    · have c_5 : y4.toInt = -9 := il_eq c_5
      refine lv_aload_n hx hb dX12_on_27 rfl (lv_at hl 1 rfl) ?_
      refine lv_iconst (v := 1) hx hb dX12_on_28 (by decide) ?_
      have hFc := fr_all (wR_D mu hD) hS hA
      refine va_calli (va_runV (As := [.int 1]) (rest := []) ⟨hx, hb, hml, hown, hts⟩ (sm_meet l dC dI cs ad mu ok s.heap hP ((wR_D mu hD).weaken (fun _ _ _ _ => trivial)) 1 (by have h50 : (1 : Int32).toInt = 1 := rfl; omega)) (cwV 1 hts (wU_V mw_5_193 mw_5_190 mw_5_192 mw_0_26 mw_1_13) rfl rfl rfl (by decide +kernel) ⟨Nat.le_of_ble_eq_true rfl, Nat.le_of_ble_eq_true rfl⟩) ⟨sz_c, va_recv hK hP (ci := 12) (q0 := 0) rfl (gM_0 cs ad mu), sz_m hK hz⟩ rfl rfl hl.1 rfl (lv_room (Nat.le_of_ble_eq_true rfl)) dX12_on_29 ⟨Nat.zero_le _, Nat.zero_le _⟩) hS (fun q _ h => hFc q h) hFc (fun r48 xi48 t H48 locs ht hvm hw48 hB hz1 hk1 hS => ?_)
      have hP : va_P (dC, dI) vwCl (wR 21 ad (EM cs ad) xi48) H48 := by rw [← ht]; exact hB
      obtain ⟨ok, hw48, _⟩ := hw48
      have gr48 : -3 ≤ r48.toInt ∧ r48.toInt ≤ -3 := hw48
      exact W.iret (v := r48) hx hb hr (fun t ht hW => ⟨⟨r48, xi48, rfl, ⟨ok, trivial, trivial⟩, by first | (subst ht; exact hP) | (rw [ht]; exact hP) | (show va_P (dC, dI) vwCl (wR 21 ad (EM cs ad) xi48) t.heap; rw [ht]; exact hP)⟩, hS.F ht⟩) hS.2.2 dX12_on_32
  · have f1 : vk.toInt < (0 : Int) ∨ (2 : Int) < vk.toInt := f1
    refine lv_if_ne (tgt := 11) hx hb dX12_on_6 (by decide) (fun c => absurd (by decide) c) (fun _ => ?_)
    refine lv_iconst (v := (-1)) hx hb dX12_on_9 (by decide) ?_
    exact W.iret (v := (-1)) hx hb hr (fun t ht hW => ⟨⟨(-1), mu, rfl, ⟨ok, trivial, trivial⟩, by first | (subst ht; exact hP) | (rw [ht]; exact hP) | (show va_P (dC, dI) vwCl (wR 21 ad (EM cs ad) mu) t.heap; rw [ht]; exact hP)⟩, hS.F ht⟩) hS.2.2 dX12_on_10
