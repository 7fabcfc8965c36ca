set_option maxHeartbeats 4000000 in
set_option maxRecDepth 100000 in
/-- sm_divisor -/
theorem sm_divisor (l : Launch) (dC : Nat → ClassId) (dI : Nat → Nat → Nat) (tys : List (ClassId × FieldType)) (H : Heap) (va : Int32) (vb : Int32) (hin0 : ¬ vb.toInt = 0) : Met l yX12_divisor (wU yX12_divisor cX12_divisor 5 (some .int)) ({ frames := 0, cells := 0, slots := 0, locals := 0 }) (va_Pc [.int va, .int vb] (sz_P (dC, dI) vwCl tys H)) (va_Qi (fun (z : Int32) (_ : Unit) => z = F_sm_divisor va vb ∧ (¬ z.toInt = 0)) (fun _ t => t.heap = H) (fun _ => False)) 0 0 (fun _ => False) := by
  refine Met.ofW (cc := cX12_divisor) (maxL := 5) (ret := (some .int)) (by decide) rfl ?_
  intro p e s m args below meth c s₁ B hml hv
  obtain ⟨rfl, hh, hK, hz⟩ := hv
  have hx := B.exec
  have hb := B.bytes
  have hr := B.returns
  have hts := atoms_spec (ws := (wU yX12_divisor cX12_divisor 5 (some .int))) B.pre
  have hown : s.vm.findClass RX12 = some m.cls := findClass_of_methodNamed B.named
  have hlocks := B.notSynchronized
  subst hh
  have hS : va_S (fun _ => False) s.heap s.heap [] := va_S.rf
  have hl := lv_entry ([.int va, .int vb]) (n := 5) (Nat.le_of_ble_eq_true rfl)
  rw [lg_entry_eq]
  generalize (lg_sl ([.int va, .int vb]) ++ List.replicate (5 - (lg_sl ([.int va, .int vb])).length) Slot.unset).toArray = ls at hl ⊢
  have hl : lv_has ls 5 [(0, .int va), (1, .int vb)] := hl
  obtain ⟨fz, hfz⟩ : ∃ z, F_sm_divisor va vb = z := ⟨_, rfl⟩
  have hF := hfz
  unfold F_sm_divisor at hF
  refine lv_iload_n hx hb dX12_divisor_0 rfl (lv_at hl 0 rfl) ?_
  refine lv_istore_n (lv' := [(2, .int va), (0, .int va), (1, .int vb)]) hx hb dX12_divisor_1 rfl hl (by decide) rfl (fun ls hl => ?_)
  refine lv_iload_n hx hb dX12_divisor_2 rfl (lv_at hl 2 rfl) ?_
  refine lv_istore_n (lv' := [(3, .int vb), (2, .int va), (0, .int va), (1, .int vb)]) hx hb dX12_divisor_3 rfl hl (by decide) rfl (fun ls hl => ?_)
  have loop4 : ∀ (n4 : Nat) (v2_4 : Int32) (v3_4 : Int32) (locs : List Loc) (ls : Array Slot), v3_4.toInt.natAbs < n4 → (¬ v2_4.toInt = 0 ∨ ¬ v3_4.toInt = 0) → L_sm_divisor_4_0 n4 v2_4 v3_4 = fz → va_S (fun _ => False) s.heap s.heap locs → lv_has ls 5 [(3, .int v3_4), (2, .int v2_4), (0, .int va), (1, .int vb)] → W p l e (headSpec (wU yX12_divisor cX12_divisor 5 (some .int)) ({ frames := 0, cells := 0, slots := 0, locals := 0 })).room s m ([.int va, .int vb] : List Value).toArray below meth c s.heap locs 0 0 (MQ below (va_Qi (fun (z : Int32) (_ : Unit) => z = F_sm_divisor va vb ∧ (¬ z.toInt = 0)) (fun _ t => t.heap = s.heap) (fun _ => False)) ([.int va, .int vb] : List Value).toArray s 0 0 (fun _ => False)) (F0 m 4 ls []) := by
    intro n4
    induction n4 with
    | zero => intro v2_4 v3_4 locs ls hm; exact absurd hm (Nat.not_lt_zero _)
    | succ n4 ih4 =>
      intro v2_4 v3_4 locs ls hm_4 hi4_0 hF hS hl
      rw [L_sm_divisor_4_0] at hF
      refine lv_iload_n hx hb dX12_divisor_4 rfl (lv_at hl 0 rfl) ?_
      refine lv_if_eq (tgt := 21) hx hb dX12_divisor_5 (by decide) (fun c_1 => ?_) (fun c_1 => ?_)
      · have hF := (if_pos c_1).symm.trans hF
        have c_1 : v3_4.toInt = 0 := il_eq c_1
        refine lv_iload_n hx hb dX12_divisor_21 rfl (lv_at hl 1 rfl) ?_
        exact W.iret (v := v2_4) hx hb hr (fun t ht hW => ⟨⟨v2_4, (), rfl, ⟨hF.trans hfz.symm, (by omega)⟩, ht⟩, hS.F ht⟩) hS.2.2 dX12_divisor_22
      · have hF := (if_neg c_1).symm.trans hF
        have c_1 : ¬ v3_4.toInt = 0 := il_ne c_1
        refine lv_iload_n hx hb dX12_divisor_8 rfl (lv_at hl 1 rfl) ?_
        refine lv_iload_n hx hb dX12_divisor_9 rfl (lv_at hl 0 rfl) ?_
        refine lv_irem hx hb dX12_divisor_10 (fun h9 => by have h8 := congrArg Int32.toInt h9; have h7 : (0 : Int32).toInt = 0 := rfl; omega) ?_
        refine lv_topi (fun t2 et2 => ?_)
        have hF := mi_let hF et2
        refine lv_istore (lv' := [(4, .int t2), (3, .int v3_4), (2, .int v2_4), (0, .int va), (1, .int vb)]) hx hb dX12_divisor_11 hl (by decide) rfl (fun ls hl => ?_)
        refine lv_iload_n hx hb dX12_divisor_13 rfl (lv_at hl 1 rfl) ?_
        refine lv_istore_n (lv' := [(2, .int v3_4), (4, .int t2), (3, .int v3_4), (0, .int va), (1, .int vb)]) hx hb dX12_divisor_14 rfl hl (by decide) rfl (fun ls hl => ?_)
        refine lv_iload hx hb dX12_divisor_15 (lv_at hl 1 rfl) ?_
        refine lv_istore_n (lv' := [(3, .int t2), (2, .int v3_4), (4, .int t2), (0, .int va), (1, .int vb)]) hx hb dX12_divisor_17 rfl hl (by decide) rfl (fun ls hl => ?_)
        refine lv_goto (tgt := 4) hx hb dX12_divisor_18 (by decide) ?_
        exact ih4 (v3_4) (t2)  _ _ (by have h8 := rem_lt (x := v2_4) (y := v3_4) (by omega); rw [← irem_eq, ← et2] at h8; omega)  (by omega)  hF hS (lv_sub hl [0, 1, 3, 4] rfl)
  exact loop4 2147483650 (va) (vb)  _ _ (by have h1 := tI_lo vb; have h2 := tI_hi vb; omega)  (by omega)  hF hS hl
set_option maxHeartbeats 4000000 in
set_option maxRecDepth 100000 in
/-- sm_allPurses -/
theorem sm_allPurses (l : Launch) (dC : Nat → ClassId) (dI : Nat → Nat → Nat) (cs : Nat → ClassId) (ad : Nat → Nat) (mu : Nat → Nat → Int32) (ok : okR loM hiM mu) (H : Heap) (hP : va_P (dC, dI) vwCl (wR 21 ad (EM cs ad) mu) H) : Met l yX12_allPurses (wU yX12_allPurses cX12_allPurses 3 (some .int)) ({ frames := 0, cells := 0, slots := 0, locals := 0 }) (va_Pc [.ref (ad 0)] (sz_P (dC, dI) vwCl (tyM cs) H)) (va_Qi (fun (z : Int32) (_ : Unit) => z = F_sm_allPurses mu ∧ (True)) (fun _ t => t.heap = H) (fun _ => False)) 0 0 (fun _ => False) := by
  refine Met.ofW (cc := cX12_allPurses) (maxL := 3) (ret := (some .int)) (by decide) rfl ?_
  intro p e s m args below meth c s₁ B hml hv
  obtain ⟨rfl, hh, hK, hz⟩ := hv
  have hx := B.exec
  have hb := B.bytes
  have hr := B.returns
  have hts := atoms_spec (ws := (wU yX12_allPurses cX12_allPurses 3 (some .int))) B.pre
  have hown : s.vm.findClass RX12 = some m.cls := findClass_of_methodNamed B.named
  have hlocks := B.notSynchronized
  subst hh
  have hS : va_S (fun _ => False) s.heap s.heap [] := va_S.rf
  have hl := lv_entry ([.ref (ad 0)]) (n := 3) (Nat.le_of_ble_eq_true rfl)
  rw [lg_entry_eq]
  generalize (lg_sl ([.ref (ad 0)]) ++ List.replicate (3 - (lg_sl ([.ref (ad 0)])).length) Slot.unset).toArray = ls at hl ⊢
  have hl : lv_has ls 3 [(0, .ref (ad 0))] := hl
  obtain ⟨fz, hfz⟩ : ∃ z, F_sm_allPurses mu = z := ⟨_, rfl⟩
  have hF := hfz
  unfold F_sm_allPurses at hF
  refine lv_iconst (v := 0) hx hb dX12_allPurses_0 (by decide) ?_
  refine lv_istore_n (lv' := [(1, .int 0), (0, .ref (ad 0))]) hx hb dX12_allPurses_1 rfl hl (by decide) rfl (fun ls hl => ?_)
  refine lv_iconst (v := 0) hx hb dX12_allPurses_2 (by decide) ?_
  refine lv_istore_n (lv' := [(2, .int 0), (1, .int 0), (0, .ref (ad 0))]) hx hb dX12_allPurses_3 rfl hl (by decide) rfl (fun ls hl => ?_)
  have loop4 : ∀ (n4 : Nat) (v1_4 : Int32) (v2_4 : Int32) (locs : List Loc) (ls : Array Slot), (7 + 1 - v2_4.toInt).toNat < n4 → (0 ≤ v2_4.toInt ∧ v2_4.toInt ≤ 7) → L_sm_allPurses_4_0 mu n4 v1_4 v2_4 = fz → va_S (fun _ => False) s.heap s.heap locs → lv_has ls 3 [(2, .int v2_4), (1, .int v1_4), (0, .ref (ad 0))] → W p l e (headSpec (wU yX12_allPurses cX12_allPurses 3 (some .int)) ({ frames := 0, cells := 0, slots := 0, locals := 0 })).room s m ([.ref (ad 0)] : List Value).toArray below meth c s.heap locs 0 0 (MQ below (va_Qi (fun (z : Int32) (_ : Unit) => z = F_sm_allPurses mu ∧ (True)) (fun _ t => t.heap = s.heap) (fun _ => False)) ([.ref (ad 0)] : List Value).toArray s 0 0 (fun _ => False)) (F0 m 4 ls []) := by
    intro n4
    induction n4 with
    | zero => intro v1_4 v2_4 locs ls hm; exact absurd hm (Nat.not_lt_zero _)
    | succ n4 ih4 =>
      intro v1_4 v2_4 locs ls hm_4 h_v2_4 hF hS hl
      rw [L_sm_allPurses_4_0] at hF
      refine lv_iload_n hx hb dX12_allPurses_4 rfl (lv_at hl 0 rfl) ?_
      refine lv_aload_n hx hb dX12_allPurses_5 rfl (lv_at hl 2 rfl) ?_
      refine va_get (D := (dC, dI)) (ci := 12) (v := .int (mu 0 8)) (C := RX12) (T := TX12) (N := 46) hx hb hts inG12 hown hK hP 0 (gM_0 cs ad mu) rfl 8 (by decide) (hts _ (List.mem_cons_of_mem _ mw_5_49)) (fun _ h9 => h9) rfl dX12_allPurses_6 ?_
      refine lv_topi (fun y1 ey1 => ?_)
      have hF := mi_let hF ey1
      have by1 : y1.toInt = (mu 0 8).toInt := congrArg Int32.toInt ey1
      have gy1 : 0 ≤ y1.toInt ∧ y1.toInt ≤ 7 := by rw [ey1]; exact rM_0_8 ok
      refine lv_icmp_ge (tgt := 27) hx hb dX12_allPurses_9 (by decide) (fun c_2 => ?_) (fun c_2 => ?_)
      · have hF := (if_pos c_2).symm.trans hF
        have c_2 : y1.toInt ≤ v2_4.toInt := il_le c_2
        refine lv_iload_n hx hb dX12_allPurses_27 rfl (lv_at hl 1 rfl) ?_
        exact W.iret (v := v1_4) hx hb hr (fun t ht hW => ⟨⟨v1_4, (), rfl, ⟨hF.trans hfz.symm, trivial⟩, ht⟩, hS.F ht⟩) hS.2.2 dX12_allPurses_28
      · have hF := (if_neg c_2).symm.trans hF
        have c_2 : v2_4.toInt < y1.toInt := il_nle c_2
        refine lv_iload_n hx hb dX12_allPurses_12 rfl (lv_at hl 1 rfl) ?_
        refine lv_aload_n hx hb dX12_allPurses_13 rfl (lv_at hl 2 rfl) ?_
        refine va_get (D := (dC, dI)) (ci := 12) (v := .ref (ad 8)) (C := RX12) (T := TX12) (N := 46) hx hb hts inG12 hown hK hP 0 (gM_0 cs ad mu) rfl 10 (by decide) (hts _ (List.mem_cons_of_mem _ mw_5_51)) (fun _ h9 => h9) rfl dX12_allPurses_14 ?_
        refine lv_iload_n hx hb dX12_allPurses_17 rfl (lv_at hl 0 rfl) ?_
        refine va_iald hx hb hK hP 8 0 (gM_8 cs ad mu) rfl (show vp_in v2_4 7 from vi_of (by omega) (by omega)) dX12_allPurses_18 ?_
        refine lv_topi (fun y3 ey3 => ?_)
        have hF := mi_let hF ey3
        have by3 : y3.toInt = (mu 8 v2_4.toNatClampNeg).toInt := congrArg Int32.toInt ey3
        refine lv_iadd hx hb dX12_allPurses_19 ?_
        refine lv_topi (fun t4 et4 => ?_)
        have hF := mi_let hF et4
        refine lv_istore_n (lv' := [(1, .int t4), (2, .int v2_4), (0, .ref (ad 0))]) hx hb dX12_allPurses_20 rfl hl (by decide) rfl (fun ls hl => ?_)
        refine lv_iinc (v := (v2_4 + 1)) (lv' := [(2, .int (v2_4 + 1)), (1, .int t4), (0, .ref (ad 0))]) hx hb dX12_allPurses_21 hl (k := 1) rfl rfl (by decide) rfl (fun ls hl => ?_)
        refine loc_gen (P := fun w9 => lv_has ls 3 [(2, .int w9), (1, .int t4), (0, .ref (ad 0))]) (v2_4 + 1) hl (fun w5 hw5 hl => ?_)
        have hl : lv_has ls 3 [(2, .int w5), (1, .int t4), (0, .ref (ad 0))] := hl
        have hF := mi_let hF hw5.symm
        have aw5 : w5.toInt = v2_4.toInt + 1 := by rw [← hw5]; first | exact va1 (Int.lt_of_le_of_lt h_v2_4.2 (by decide)) | exact va1 (by omega)
        refine lv_goto (tgt := 4) hx hb dX12_allPurses_24 (by decide) ?_
        exact ih4 (t4) (w5)  _ _ (by first | exact ms_up hm_4 aw5 h_v2_4.2 | exact ms_lt hm_4 (by omega) (by omega) | omega) (by first | exact rg_up aw5 h_v2_4 (by omega) | omega)   hF hS (lv_sub hl [0, 1, 2] rfl)
  exact loop4 10 (0) (0)  _ _ (by have h80 : (0 : Int32).toInt = 0 := rfl; have h81 : (0 : Int32).toInt = 0 := rfl; omega) (by have h80 : (0 : Int32).toInt = 0 := rfl; exact ⟨by omega, by omega⟩)   hF hS hl
set_option maxHeartbeats 4000000 in
set_option maxRecDepth 100000 in
/-- sm_richest -/
theorem sm_richest (l : Launch) (dC : Nat → ClassId) (dI : Nat → Nat → Nat) (cs : Nat → ClassId) (ad : Nat → Nat) (mu : Nat → Nat → Int32) (ok : okR loM hiM mu) (H : Heap) (hP : va_P (dC, dI) vwCl (wR 21 ad (EM cs ad) mu) H) : Met l yX12_richest (wU yX12_richest cX12_richest 3 (some .int)) ({ frames := 0, cells := 0, slots := 0, locals := 0 }) (va_Pc [.ref (ad 0)] (sz_P (dC, dI) vwCl (tyM cs) H)) (va_Qi (fun (z : Int32) (_ : Unit) => z = F_sm_richest mu ∧ (True)) (fun _ t => t.heap = H) (fun _ => False)) 0 0 (fun _ => False) := by
  refine Met.ofW (cc := cX12_richest) (maxL := 3) (ret := (some .int)) (by decide) rfl ?_
  intro p e s m args below meth c s₁ B hml hv
  obtain ⟨rfl, hh, hK, hz⟩ := hv
  have hx := B.exec
  have hb := B.bytes
  have hr := B.returns
  have hts := atoms_spec (ws := (wU yX12_richest cX12_richest 3 (some .int))) B.pre
  have hown : s.vm.findClass RX12 = some m.cls := findClass_of_methodNamed B.named
  have hlocks := B.notSynchronized
  subst hh
  have hS : va_S (fun _ => False) s.heap s.heap [] := va_S.rf
  have hl := lv_entry ([.ref (ad 0)]) (n := 3) (Nat.le_of_ble_eq_true rfl)
  rw [lg_entry_eq]
  generalize (lg_sl ([.ref (ad 0)]) ++ List.replicate (3 - (lg_sl ([.ref (ad 0)])).length) Slot.unset).toArray = ls at hl ⊢
  have hl : lv_has ls 3 [(0, .ref (ad 0))] := hl
  obtain ⟨fz, hfz⟩ : ∃ z, F_sm_richest mu = z := ⟨_, rfl⟩
  have hF := hfz
  unfold F_sm_richest at hF
  refine lv_iconst (v := 0) hx hb dX12_richest_0 (by decide) ?_
  refine lv_istore_n (lv' := [(1, .int 0), (0, .ref (ad 0))]) hx hb dX12_richest_1 rfl hl (by decide) rfl (fun ls hl => ?_)
  refine lv_iconst (v := 0) hx hb dX12_richest_2 (by decide) ?_
  refine lv_istore_n (lv' := [(2, .int 0), (1, .int 0), (0, .ref (ad 0))]) hx hb dX12_richest_3 rfl hl (by decide) rfl (fun ls hl => ?_)
  have loop4 : ∀ (n4 : Nat) (v1_4 : Int32) (v2_4 : Int32) (locs : List Loc) (ls : Array Slot), (7 + 1 - v2_4.toInt).toNat < n4 → (0 ≤ v2_4.toInt ∧ v2_4.toInt ≤ 7) → L_sm_richest_4_0 mu n4 v1_4 v2_4 = fz → va_S (fun _ => False) s.heap s.heap locs → lv_has ls 3 [(2, .int v2_4), (1, .int v1_4), (0, .ref (ad 0))] → W p l e (headSpec (wU yX12_richest cX12_richest 3 (some .int)) ({ frames := 0, cells := 0, slots := 0, locals := 0 })).room s m ([.ref (ad 0)] : List Value).toArray below meth c s.heap locs 0 0 (MQ below (va_Qi (fun (z : Int32) (_ : Unit) => z = F_sm_richest mu ∧ (True)) (fun _ t => t.heap = s.heap) (fun _ => False)) ([.ref (ad 0)] : List Value).toArray s 0 0 (fun _ => False)) (F0 m 4 ls []) := by
    intro n4
    induction n4 with
    | zero => intro v1_4 v2_4 locs ls hm; exact absurd hm (Nat.not_lt_zero _)
    | succ n4 ih4 =>
      intro v1_4 v2_4 locs ls hm_4 h_v2_4 hF hS hl
      rw [L_sm_richest_4_0] at hF
      refine lv_iload_n hx hb dX12_richest_4 rfl (lv_at hl 0 rfl) ?_
      refine lv_aload_n hx hb dX12_richest_5 rfl (lv_at hl 2 rfl) ?_
      refine va_get (D := (dC, dI)) (ci := 12) (v := .int (mu 0 8)) (C := RX12) (T := TX12) (N := 46) hx hb hts inG12 hown hK hP 0 (gM_0 cs ad mu) rfl 8 (by decide) (hts _ (List.mem_cons_of_mem _ mw_5_49)) (fun _ h9 => h9) rfl dX12_richest_6 ?_
      refine lv_topi (fun y1 ey1 => ?_)
      have hF := mi_let hF ey1
      have by1 : y1.toInt = (mu 0 8).toInt := congrArg Int32.toInt ey1
      have gy1 : 0 ≤ y1.toInt ∧ y1.toInt ≤ 7 := by rw [ey1]; exact rM_0_8 ok
      refine lv_icmp_ge (tgt := 39) hx hb dX12_richest_9 (by decide) (fun c_2 => ?_) (fun c_2 => ?_)
      · have hF := (if_pos c_2).symm.trans hF
        have c_2 : y1.toInt ≤ v2_4.toInt := il_le c_2
        refine lv_iload_n hx hb dX12_richest_39 rfl (lv_at hl 1 rfl) ?_
        exact W.iret (v := v1_4) hx hb hr (fun t ht hW => ⟨⟨v1_4, (), rfl, ⟨hF.trans hfz.symm, trivial⟩, ht⟩, hS.F ht⟩) hS.2.2 dX12_richest_40
      · have hF := (if_neg c_2).symm.trans hF
        have c_2 : v2_4.toInt < y1.toInt := il_nle c_2
        refine lv_aload_n hx hb dX12_richest_12 rfl (lv_at hl 2 rfl) ?_
        refine va_get (D := (dC, dI)) (ci := 12) (v := .ref (ad 8)) (C := RX12) (T := TX12) (N := 46) hx hb hts inG12 hown hK hP 0 (gM_0 cs ad mu) rfl 10 (by decide) (hts _ (List.mem_cons_of_mem _ mw_5_51)) (fun _ h9 => h9) rfl dX12_richest_13 ?_
        refine lv_iload_n hx hb dX12_richest_16 rfl (lv_at hl 0 rfl) ?_
        refine va_iald hx hb hK hP 8 0 (gM_8 cs ad mu) rfl (show vp_in v2_4 7 from vi_of (by omega) (by omega)) dX12_richest_17 ?_
        refine lv_topi (fun y3 ey3 => ?_)
        have hF := mi_let hF ey3
        have by3 : y3.toInt = (mu 8 v2_4.toNatClampNeg).toInt := congrArg Int32.toInt ey3
        refine lv_iload_n hx hb dX12_richest_18 rfl (lv_at hl 1 rfl) ?_
        refine lv_icmp_le (tgt := 31) hx hb dX12_richest_19 (by decide) (fun c_4 => ?_) (fun c_4 => ?_)
        · have hF := (if_pos c_4).symm.trans hF
          have c_4 : y3.toInt ≤ v1_4.toInt := il_le c_4
          refine lv_iload_n hx hb dX12_richest_31 rfl (lv_at hl 1 rfl) ?_
          refine lv_istore_n (lv' := [(1, .int v1_4), (2, .int v2_4), (0, .ref (ad 0))]) hx hb dX12_richest_32 rfl hl (by decide) rfl (fun ls hl => ?_)
          refine lv_iinc (v := (v2_4 + 1)) (lv' := [(2, .int (v2_4 + 1)), (1, .int v1_4), (0, .ref (ad 0))]) hx hb dX12_richest_33 hl (k := 1) rfl rfl (by decide) rfl (fun ls hl => ?_)
          refine loc_gen (P := fun w9 => lv_has ls 3 [(2, .int w9), (1, .int v1_4), (0, .ref (ad 0))]) (v2_4 + 1) hl (fun w5 hw5 hl => ?_)
          have hl : lv_has ls 3 [(2, .int w5), (1, .int v1_4), (0, .ref (ad 0))] := hl
          have hF := mi_let hF hw5.symm
          have aw5 : w5.toInt = v2_4.toInt + 1 := by rw [← hw5]; first | exact va1 (Int.lt_of_le_of_lt h_v2_4.2 (by decide)) | exact va1 (by omega)
          refine lv_goto (tgt := 4) hx hb dX12_richest_36 (by decide) ?_
          exact ih4 (v1_4) (w5)  _ _ (by first | exact ms_up hm_4 aw5 h_v2_4.2 | exact ms_lt hm_4 (by omega) (by omega) | omega) (by first | exact rg_up aw5 h_v2_4 (by omega) | omega)   hF hS (lv_sub hl [0, 1, 2] rfl)
        · have hF := (if_neg c_4).symm.trans hF
          have c_4 : v1_4.toInt < y3.toInt := il_nle c_4
          refine lv_aload_n hx hb dX12_richest_22 rfl (lv_at hl 2 rfl) ?_
          refine va_get (D := (dC, dI)) (ci := 12) (v := .ref (ad 8)) (C := RX12) (T := TX12) (N := 46) hx hb hts inG12 hown hK hP 0 (gM_0 cs ad mu) rfl 10 (by decide) (hts _ (List.mem_cons_of_mem _ mw_5_51)) (fun _ h9 => h9) rfl dX12_richest_23 ?_
          refine lv_iload_n hx hb dX12_richest_26 rfl (lv_at hl 0 rfl) ?_
          refine va_iald hx hb hK hP 8 0 (gM_8 cs ad mu) rfl (show vp_in v2_4 7 from vi_of (by omega) (by omega)) dX12_richest_27 ?_
          refine lq_i y3 ey3.symm ?_
          refine lv_goto (tgt := 32) hx hb dX12_richest_28 (by decide) ?_
          refine lv_istore_n (lv' := [(1, .int y3), (2, .int v2_4), (0, .ref (ad 0))]) hx hb dX12_richest_32 rfl hl (by decide) rfl (fun ls hl => ?_)
          refine lv_iinc (v := (v2_4 + 1)) (lv' := [(2, .int (v2_4 + 1)), (1, .int y3), (0, .ref (ad 0))]) hx hb dX12_richest_33 hl (k := 1) rfl rfl (by decide) rfl (fun ls hl => ?_)
          refine loc_gen (P := fun w9 => lv_has ls 3 [(2, .int w9), (1, .int y3), (0, .ref (ad 0))]) (v2_4 + 1) hl (fun w6 hw6 hl => ?_)
          have hl : lv_has ls 3 [(2, .int w6), (1, .int y3), (0, .ref (ad 0))] := hl
          have hF := mi_let hF hw6.symm
          have aw6 : w6.toInt = v2_4.toInt + 1 := by rw [← hw6]; first | exact va1 (Int.lt_of_le_of_lt h_v2_4.2 (by decide)) | exact va1 (by omega)
          refine lv_goto (tgt := 4) hx hb dX12_richest_36 (by decide) ?_
          exact ih4 (y3) (w6)  _ _ (by first | exact ms_up hm_4 aw6 h_v2_4.2 | exact ms_lt hm_4 (by omega) (by omega) | omega) (by first | exact rg_up aw6 h_v2_4 (by omega) | omega)   hF hS (lv_sub hl [0, 1, 2] rfl)
  exact loop4 10 (0) (0)  _ _ (by have h80 : (0 : Int32).toInt = 0 := rfl; have h81 : (0 : Int32).toInt = 0 := rfl; omega) (by have h80 : (0 : Int32).toInt = 0 := rfl; exact ⟨by omega, by omega⟩)   hF hS hl
set_option maxHeartbeats 4000000 in
set_option maxRecDepth 100000 in
/-- qm_asked -/
theorem qm_asked (l : Launch) (dC : Nat → ClassId) (dI : Nat → Nat → Nat) (cs : Nat → ClassId) (ad : Nat → Nat) (mu : Nat → Nat → Int32) (ok : okR loM hiM mu) (H : Heap) (hP : va_P (dC, dI) vwCl (wR 21 ad (EM cs ad) mu) H) (hD0 : va_D (fun _ => True) (wR 21 ad (EM cs ad) mu)) : Met l yX12_asked (wU yX12_asked cX12_asked 1 (some .int)) ({ frames := 0, cells := 0, slots := 0, locals := 0 }) (va_Pc [.ref (ad 0)] (sz_P (dC, dI) vwCl (tyM cs) H)) (va_Qi (fun (z : Int32) (xi : Nat → Nat → Int32) => okR loM hiM xi ∧ (True) ∧ (∀ k f : Nat, Nat.testBit 510 (gpM k f) = true → xi k f = mu k f)) (fun xi t => va_P (dC, dI) vwCl (wR 21 ad (EM cs ad) xi) t.heap) (va_A (wR 21 ad (EM cs ad) mu) H.size)) 0 0 (va_A (wR 21 ad (EM cs ad) mu) H.size) := by
  refine Met.ofW (cc := cX12_asked) (maxL := 1) (ret := (some .int)) (by decide) rfl ?_
  intro p e s m args below meth c s₁ B hml hv
  obtain ⟨rfl, hh, hK, hz⟩ := hv
  have hx := B.exec
  have hb := B.bytes
  have hr := B.returns
  have hts := atoms_spec (ws := (wU yX12_asked cX12_asked 1 (some .int))) B.pre
  have hown : s.vm.findClass RX12 = some m.cls := findClass_of_methodNamed B.named
  have hlocks := B.notSynchronized
  subst hh
  have hD := hD0.self (sz := s.heap.size)
  have hA : ∀ q : Nat, s.heap.size ≤ q → (va_A (wR 21 ad (EM cs ad) mu) s.heap.size) q := fun q h => Or.inr h
  have hS : va_S (va_A (wR 21 ad (EM cs ad) mu) s.heap.size) s.heap s.heap [] := va_S.rf
  have hl := lv_entry ([.ref (ad 0)]) (n := 1) (Nat.le_of_ble_eq_true rfl)
  rw [lg_entry_eq]
  generalize (lg_sl ([.ref (ad 0)]) ++ List.replicate (1 - (lg_sl ([.ref (ad 0)])).length) Slot.unset).toArray = ls at hl ⊢
  have hl : lv_has ls 1 [(0, .ref (ad 0))] := hl
  refine lv_aload_n hx hb dX12_asked_0 rfl (lv_at hl 0 rfl) ?_
  refine va_get (D := (dC, dI)) (ci := 12) (v := .int (mu 0 2)) (C := RX12) (T := TX12) (N := 46) hx hb hts inG12 hown hK hP 0 (gM_0 cs ad mu) rfl 2 (by decide) (hts _ (List.mem_cons_of_mem _ mw_5_43)) (fun _ h9 => h9) rfl dX12_asked_1 ?_
  refine lv_topi (fun y1 ey1 => ?_)
  have by1 : y1.toInt = (mu 0 2).toInt := congrArg Int32.toInt ey1
  exact W.iret (v := y1) hx hb hr (fun t ht hW => ⟨⟨y1, mu, rfl, ⟨ok, trivial, (fun _ _ _ => rfl)⟩, by first | (subst ht; exact hP) | (rw [ht]; exact hP) | (show va_P (dC, dI) vwCl (wR 21 ad (EM cs ad) mu) t.heap; rw [ht]; exact hP)⟩, hS.F ht⟩) hS.2.2 dX12_asked_4
set_option maxHeartbeats 4000000 in
set_option maxRecDepth 100000 in
/-- qm_upper -/
theorem qm_upper (l : Launch) (dC : Nat → ClassId) (dI : Nat → Nat → Nat) (cs : Nat → ClassId) (ad : Nat → Nat) (mu : Nat → Nat → Int32) (ok : okR loM hiM mu) (H : Heap) (hP : va_P (dC, dI) vwCl (wR 21 ad (EM cs ad) mu) H) (hD0 : va_D (fun _ => True) (wR 21 ad (EM cs ad) mu)) : Met l yX12_upper (wU yX12_upper cX12_upper 2 (some .long)) ({ frames := 1, cells := 0, slots := 0, locals := 24 }) (va_Pc [.ref (ad 0)] (sz_P (dC, dI) vwCl (tyM cs) H)) (va_Ql (fun (z : Int64) (xi : Nat → Nat → Int32) => (z, xi) = F_qm_upper mu ∧ okR loM hiM xi ∧ (True) ∧ (∀ k f : Nat, Nat.testBit 510 (gpM k f) = true → xi k f = mu k f)) (fun xi t => va_P (dC, dI) vwCl (wR 21 ad (EM cs ad) xi) t.heap) (va_A (wR 21 ad (EM cs ad) mu) H.size)) 0 0 (va_A (wR 21 ad (EM cs ad) mu) H.size) := by
  refine Met.ofW (cc := cX12_upper) (maxL := 2) (ret := (some .long)) (by decide) rfl ?_
  intro p e s m args below meth c s₁ B hml hv
  obtain ⟨rfl, hh, hK, hz⟩ := hv
  have hx := B.exec
  have hb := B.bytes
  have hr := B.returns
  have hts := atoms_spec (ws := (wU yX12_upper cX12_upper 2 (some .long))) B.pre
  have hown : s.vm.findClass RX12 = some m.cls := findClass_of_methodNamed B.named
  have hlocks := B.notSynchronized
  subst hh
  have hD := hD0.self (sz := s.heap.size)
  have hA : ∀ q : Nat, s.heap.size ≤ q → (va_A (wR 21 ad (EM cs ad) mu) s.heap.size) q := fun q h => Or.inr h
  have hS : va_S (va_A (wR 21 ad (EM cs ad) mu) s.heap.size) s.heap s.heap [] := va_S.rf
  have hl := lv_entry ([.ref (ad 0)]) (n := 2) (Nat.le_of_ble_eq_true rfl)
  rw [lg_entry_eq]
  generalize (lg_sl ([.ref (ad 0)]) ++ List.replicate (2 - (lg_sl ([.ref (ad 0)])).length) Slot.unset).toArray = ls at hl ⊢
  have hl : lv_has ls 2 [(0, .ref (ad 0))] := hl
  obtain ⟨fz, hfz⟩ : ∃ z, F_qm_upper mu = z := ⟨_, rfl⟩
  have hF := hfz
  unfold F_qm_upper at hF
  refine lv_aload_n hx hb dX12_upper_0 rfl (lv_at hl 0 rfl) ?_
  refine cr_i (va_runV (As := []) (rest := []) ⟨hx, hb, hml, hown, hts⟩ (sm_allPurses l dC dI cs ad mu ok s.heap hP) (cwV 0 hts (wU_V mw_7_51 mw_7_48 mw_7_50 mw_0_63 mw_1_13) rfl rfl rfl (by decide +kernel) ⟨Nat.le_of_ble_eq_true rfl, Nat.le_of_ble_eq_true rfl⟩) ⟨sz_c, va_recv hK hP (ci := 12) (q0 := 0) rfl (gM_0 cs ad mu), sz_m hK hz⟩ rfl rfl hl.1 rfl (lv_room (Nat.le_of_ble_eq_true rfl)) dX12_upper_1 ⟨Nat.zero_le _, Nat.zero_le _⟩) hS (fun r1 hw1 locs hS => ?_)
  obtain ⟨hfe1, hw1⟩ := hw1
  have hF := mi_let hF hfe1
  refine lv_istore_n (lv' := [(1, .int r1), (0, .ref (ad 0))]) hx hb dX12_upper_4 rfl hl (by decide) rfl (fun ls hl => ?_)
  refine lv_iload_n hx hb dX12_upper_5 rfl (lv_at hl 0 rfl) ?_
  refine lv_if_ne (tgt := 13) hx hb dX12_upper_6 (by decide) (fun c_2 => ?_) (fun c_2 => ?_)
  · have hF := (if_neg c_2).symm.trans hF
    have c_2 : ¬ r1.toInt = 0 := il_ne c_2
    refine lv_aload_n hx hb dX12_upper_13 rfl (lv_at hl 1 rfl) ?_
    refine cr_i (va_runV (As := []) (rest := []) ⟨hx, hb, hml, hown, hts⟩ (sm_richest l dC dI cs ad mu ok s.heap hP) (cwV 0 hts (wU_V mw_7_55 mw_7_52 mw_7_54 mw_0_64 mw_1_13) rfl rfl rfl (by decide +kernel) ⟨Nat.le_of_ble_eq_true rfl, Nat.le_of_ble_eq_true rfl⟩) ⟨sz_c, va_recv hK hP (ci := 12) (q0 := 0) rfl (gM_0 cs ad mu), sz_m hK hz⟩ rfl rfl hl.1 rfl (lv_room (Nat.le_of_ble_eq_true rfl)) dX12_upper_14 ⟨Nat.zero_le _, Nat.zero_le _⟩) hS (fun r3 hw3 locs hS => ?_)
    obtain ⟨hfe3, hw3⟩ := hw3
    have hF := mi_let hF hfe3
    refine lv_aload_n hx hb dX12_upper_17 rfl (lv_at hl 1 rfl) ?_
    refine cr_i (va_runV (As := []) (rest := [.int r3]) ⟨hx, hb, hml, hown, hts⟩ (sm_richest l dC dI cs ad mu ok s.heap hP) (cwV 0 hts (wU_V mw_7_55 mw_7_52 mw_7_54 mw_0_64 mw_1_13) rfl rfl rfl (by decide +kernel) ⟨Nat.le_of_ble_eq_true rfl, Nat.le_of_ble_eq_true rfl⟩) ⟨sz_c, va_recv hK hP (ci := 12) (q0 := 0) rfl (gM_0 cs ad mu), sz_m hK hz⟩ rfl rfl hl.1 rfl (lv_room (Nat.le_of_ble_eq_true rfl)) dX12_upper_18 ⟨Nat.zero_le _, Nat.zero_le _⟩) hS (fun r4 hw4 locs hS => ?_)
    obtain ⟨hfe4, hw4⟩ := hw4
    have hF := mi_let hF hfe4
    refine lv_iload_n hx hb dX12_upper_21 rfl (lv_at hl 0 rfl) ?_
    refine cr_i (va_runS (As := [.int r4, .int r1]) (rest := [.int r3]) ⟨hx, hb, hml, hown, hts⟩ (sm_divisor l dC dI (tyM cs) s.heap r4 r1 (by omega)) (va_cwS 2 hts (wU_S mw_7_58 mw_7_56 mw_7_57 mw_1_13) rfl rfl rfl (by decide +kernel) ⟨Nat.le_of_ble_eq_true rfl, Nat.le_of_ble_eq_true rfl⟩) ⟨sz_c, sz_m hK hz⟩ rfl rfl hl.1 rfl (lv_room (Nat.le_of_ble_eq_true rfl)) dX12_upper_22 ⟨Nat.zero_le _, Nat.zero_le _⟩) hS (fun r5 hw5 locs hS => ?_)
    obtain ⟨hfe5, hw5⟩ := hw5
    have hF := mi_let hF hfe5
    have gr5 : ¬ r5.toInt = 0 := hw5
    refine lv_idiv hx hb dX12_upper_25 (fun h9 => by have h8 := congrArg Int32.toInt h9; have h7 : (0 : Int32).toInt = 0 := rfl; omega) ?_
    refine lv_topi (fun t6 et6 => ?_)
    have hF := mi_let hF et6
    refine lv_i2l hx hb dX12_upper_26 rfl ?_
    refine lv_topl (fun l7 el7 => ?_)
    have hF := mi_let hF el7
    exact W.lret (v := l7) hx hb hr (fun t ht hW => ⟨⟨l7, mu, rfl, ⟨hF.trans hfz.symm, ok, trivial, (fun _ _ _ => rfl)⟩, by first | (subst ht; exact hP) | (rw [ht]; exact hP) | (show va_P (dC, dI) vwCl (wR 21 ad (EM cs ad) mu) t.heap; rw [ht]; exact hP)⟩, hS.F ht⟩) hS.2.2 dX12_upper_27
  · have hF := (if_pos c_2).symm.trans hF
    have c_2 : r1.toInt = 0 := il_eq c_2
    refine lv_lconst (v := 0) hx hb dX12_upper_9 (by decide) ?_
    refine lv_goto (tgt := 27) hx hb dX12_upper_10 (by decide) ?_
    exact W.lret (v := 0) hx hb hr (fun t ht hW => ⟨⟨0, mu, rfl, ⟨hF.trans hfz.symm, ok, trivial, (fun _ _ _ => rfl)⟩, by first | (subst ht; exact hP) | (rw [ht]; exact hP) | (show va_P (dC, dI) vwCl (wR 21 ad (EM cs ad) mu) t.heap; rw [ht]; exact hP)⟩, hS.F ht⟩) hS.2.2 dX12_upper_27
set_option maxHeartbeats 4000000 in
set_option maxRecDepth 100000 in
/-- qm_lower -/
theorem qm_lower (l : Launch) (dC : Nat → ClassId) (dI : Nat → Nat → Nat) (cs : Nat → ClassId) (ad : Nat → Nat) (mu : Nat → Nat → Int32) (ok : okR loM hiM mu) (H : Heap) (hP : va_P (dC, dI) vwCl (wR 21 ad (EM cs ad) mu) H) (hD0 : va_D (fun _ => True) (wR 21 ad (EM cs ad) mu)) : Met l yX12_lower (wU yX12_lower cX12_lower 2 (some .long)) ({ frames := 1, cells := 0, slots := 0, locals := 24 }) (va_Pc [.ref (ad 0)] (sz_P (dC, dI) vwCl (tyM cs) H)) (va_Ql (fun (z : Int64) (xi : Nat → Nat → Int32) => (z, xi) = F_qm_lower mu ∧ okR loM hiM xi ∧ (True) ∧ (∀ k f : Nat, Nat.testBit 510 (gpM k f) = true → xi k f = mu k f)) (fun xi t => va_P (dC, dI) vwCl (wR 21 ad (EM cs ad) xi) t.heap) (va_A (wR 21 ad (EM cs ad) mu) H.size)) 0 0 (va_A (wR 21 ad (EM cs ad) mu) H.size) := by
  refine Met.ofW (cc := cX12_lower) (maxL := 2) (ret := (some .long)) (by decide) rfl ?_
  intro p e s m args below meth c s₁ B hml hv
  obtain ⟨rfl, hh, hK, hz⟩ := hv
  have hx := B.exec
  have hb := B.bytes
  have hr := B.returns
  have hts := atoms_spec (ws := (wU yX12_lower cX12_lower 2 (some .long))) B.pre
  have hown : s.vm.findClass RX12 = some m.cls := findClass_of_methodNamed B.named
  have hlocks := B.notSynchronized
  subst hh
  have hD := hD0.self (sz := s.heap.size)
  have hA : ∀ q : Nat, s.heap.size ≤ q → (va_A (wR 21 ad (EM cs ad) mu) s.heap.size) q := fun q h => Or.inr h
  have hS : va_S (va_A (wR 21 ad (EM cs ad) mu) s.heap.size) s.heap s.heap [] := va_S.rf
  have hl := lv_entry ([.ref (ad 0)]) (n := 2) (Nat.le_of_ble_eq_true rfl)
  rw [lg_entry_eq]
  generalize (lg_sl ([.ref (ad 0)]) ++ List.replicate (2 - (lg_sl ([.ref (ad 0)])).length) Slot.unset).toArray = ls at hl ⊢
  have hl : lv_has ls 2 [(0, .ref (ad 0))] := hl
  obtain ⟨fz, hfz⟩ : ∃ z, F_qm_lower mu = z := ⟨_, rfl⟩
  have hF := hfz
  unfold F_qm_lower at hF
  refine lv_aload_n hx hb dX12_lower_0 rfl (lv_at hl 0 rfl) ?_
  refine cr_i (va_runV (As := []) (rest := []) ⟨hx, hb, hml, hown, hts⟩ (sm_allPurses l dC dI cs ad mu ok s.heap hP) (cwV 0 hts (wU_V mw_7_51 mw_7_48 mw_7_50 mw_0_63 mw_1_13) rfl rfl rfl (by decide +kernel) ⟨Nat.le_of_ble_eq_true rfl, Nat.le_of_ble_eq_true rfl⟩) ⟨sz_c, va_recv hK hP (ci := 12) (q0 := 0) rfl (gM_0 cs ad mu), sz_m hK hz⟩ rfl rfl hl.1 rfl (lv_room (Nat.le_of_ble_eq_true rfl)) dX12_lower_1 ⟨Nat.zero_le _, Nat.zero_le _⟩) hS (fun r1 hw1 locs hS => ?_)
  obtain ⟨hfe1, hw1⟩ := hw1
  have hF := mi_let hF hfe1
  refine lv_istore_n (lv' := [(1, .int r1), (0, .ref (ad 0))]) hx hb dX12_lower_4 rfl hl (by decide) rfl (fun ls hl => ?_)
  refine lv_iload_n hx hb dX12_lower_5 rfl (lv_at hl 0 rfl) ?_
  refine lv_if_ne (tgt := 13) hx hb dX12_lower_6 (by decide) (fun c_2 => ?_) (fun c_2 => ?_)
  · have hF := (if_neg c_2).symm.trans hF
    have c_2 : ¬ r1.toInt = 0 := il_ne c_2
    refine lv_iload_n hx hb dX12_lower_13 rfl (lv_at hl 0 rfl) ?_
    refine lv_aload_n hx hb dX12_lower_14 rfl (lv_at hl 1 rfl) ?_
    refine cr_i (va_runV (As := []) (rest := [.int r1]) ⟨hx, hb, hml, hown, hts⟩ (sm_richest l dC dI cs ad mu ok s.heap hP) (cwV 0 hts (wU_V mw_7_55 mw_7_52 mw_7_54 mw_0_64 mw_1_13) rfl rfl rfl (by decide +kernel) ⟨Nat.le_of_ble_eq_true rfl, Nat.le_of_ble_eq_true rfl⟩) ⟨sz_c, va_recv hK hP (ci := 12) (q0 := 0) rfl (gM_0 cs ad mu), sz_m hK hz⟩ rfl rfl hl.1 rfl (lv_room (Nat.le_of_ble_eq_true rfl)) dX12_lower_15 ⟨Nat.zero_le _, Nat.zero_le _⟩) hS (fun r3 hw3 locs hS => ?_)
    obtain ⟨hfe3, hw3⟩ := hw3
    have hF := mi_let hF hfe3
    refine lv_iload_n hx hb dX12_lower_18 rfl (lv_at hl 0 rfl) ?_
    refine cr_i (va_runS (As := [.int r3, .int r1]) (rest := [.int r1]) ⟨hx, hb, hml, hown, hts⟩ (sm_divisor l dC dI (tyM cs) s.heap r3 r1 (by omega)) (va_cwS 2 hts (wU_S mw_7_58 mw_7_56 mw_7_57 mw_1_13) rfl rfl rfl (by decide +kernel) ⟨Nat.le_of_ble_eq_true rfl, Nat.le_of_ble_eq_true rfl⟩) ⟨sz_c, sz_m hK hz⟩ rfl rfl hl.1 rfl (lv_room (Nat.le_of_ble_eq_true rfl)) dX12_lower_19 ⟨Nat.zero_le _, Nat.zero_le _⟩) hS (fun r4 hw4 locs hS => ?_)
    obtain ⟨hfe4, hw4⟩ := hw4
    have hF := mi_let hF hfe4
    have gr4 : ¬ r4.toInt = 0 := hw4
    refine lv_idiv hx hb dX12_lower_22 (fun h9 => by have h8 := congrArg Int32.toInt h9; have h7 : (0 : Int32).toInt = 0 := rfl; omega) ?_
    refine lv_topi (fun t5 et5 => ?_)
    have hF := mi_let hF et5
    refine lv_i2l hx hb dX12_lower_23 rfl ?_
    refine lv_topl (fun l6 el6 => ?_)
    have hF := mi_let hF el6
    exact W.lret (v := l6) hx hb hr (fun t ht hW => ⟨⟨l6, mu, rfl, ⟨hF.trans hfz.symm, ok, trivial, (fun _ _ _ => rfl)⟩, by first | (subst ht; exact hP) | (rw [ht]; exact hP) | (show va_P (dC, dI) vwCl (wR 21 ad (EM cs ad) mu) t.heap; rw [ht]; exact hP)⟩, hS.F ht⟩) hS.2.2 dX12_lower_24
  · have hF := (if_pos c_2).symm.trans hF
    have c_2 : r1.toInt = 0 := il_eq c_2
    refine lv_lconst (v := 1) hx hb dX12_lower_9 (by decide) ?_
    refine lv_goto (tgt := 24) hx hb dX12_lower_10 (by decide) ?_
    exact W.lret (v := 1) hx hb hr (fun t ht hW => ⟨⟨1, mu, rfl, ⟨hF.trans hfz.symm, ok, trivial, (fun _ _ _ => rfl)⟩, by first | (subst ht; exact hP) | (rw [ht]; exact hP) | (show va_P (dC, dI) vwCl (wR 21 ad (EM cs ad) mu) t.heap; rw [ht]; exact hP)⟩, hS.F ht⟩) hS.2.2 dX12_lower_24
set_option maxHeartbeats 4000000 in
set_option maxRecDepth 100000 in
/-- sm_tells -/
theorem sm_tells (l : Launch) (dC : Nat → ClassId) (dI : Nat → Nat → Nat) (cs : Nat → ClassId) (ad : Nat → Nat) (mu : Nat → Nat → Int32) (ok : okR loM hiM mu) (H : Heap) (hP : va_P (dC, dI) vwCl (wR 21 ad (EM cs ad) mu) H) (vw : Int32) : Met l yX12_tells (wU yX12_tells cX12_tells 4 (some .int)) ({ frames := 1, cells := 0, slots := 0, locals := 22 }) (va_Pc [.ref (ad 0), .int vw] (sz_P (dC, dI) vwCl (tyM cs) H)) (va_Qi (fun (z : Int32) (_ : Unit) => z = F_sm_tells mu vw ∧ (True)) (fun _ t => t.heap = H) (fun _ => False)) 0 0 (fun _ => False) := by
  refine Met.ofW (cc := cX12_tells) (maxL := 4) (ret := (some .int)) (by decide) rfl ?_
  intro p e s m args below meth c s₁ B hml hv
  obtain ⟨rfl, hh, hK, hz⟩ := hv
  have hx := B.exec
  have hb := B.bytes
  have hr := B.returns
  have hts := atoms_spec (ws := (wU yX12_tells cX12_tells 4 (some .int))) B.pre
  have hown : s.vm.findClass RX12 = some m.cls := findClass_of_methodNamed B.named
  have hlocks := B.notSynchronized
  subst hh
  have hS : va_S (fun _ => False) s.heap s.heap [] := va_S.rf
  have hl := lv_entry ([.ref (ad 0), .int vw]) (n := 4) (Nat.le_of_ble_eq_true rfl)
  rw [lg_entry_eq]
  generalize (lg_sl ([.ref (ad 0), .int vw]) ++ List.replicate (4 - (lg_sl ([.ref (ad 0), .int vw])).length) Slot.unset).toArray = ls at hl ⊢
  have hl : lv_has ls 4 [(0, .ref (ad 0)), (1, .int vw)] := hl
  obtain ⟨fz, hfz⟩ : ∃ z, F_sm_tells mu vw = z := ⟨_, rfl⟩
  have hF := hfz
  unfold F_sm_tells at hF
  refine lv_iconst (v := 0) hx hb dX12_tells_0 (by decide) ?_
  refine lv_istore_n (lv' := [(2, .int 0), (0, .ref (ad 0)), (1, .int vw)]) hx hb dX12_tells_1 rfl hl (by decide) rfl (fun ls hl => ?_)
  refine lv_iconst (v := 0) hx hb dX12_tells_2 (by decide) ?_
  refine lv_istore_n (lv' := [(3, .int 0), (2, .int 0), (0, .ref (ad 0)), (1, .int vw)]) hx hb dX12_tells_3 rfl hl (by decide) rfl (fun ls hl => ?_)
  have loop4 : ∀ (n4 : Nat) (v2_4 : Int32) (v3_4 : Int32) (locs : List Loc) (ls : Array Slot), (6 + 1 - v3_4.toInt).toNat < n4 → (0 ≤ v3_4.toInt ∧ v3_4.toInt ≤ 6) → L_sm_tells_4_0 mu vw n4 v2_4 v3_4 = fz → va_S (fun _ => False) s.heap s.heap locs → lv_has ls 4 [(3, .int v3_4), (2, .int v2_4), (0, .ref (ad 0)), (1, .int vw)] → W p l e (headSpec (wU yX12_tells cX12_tells 4 (some .int)) ({ frames := 1, cells := 0, slots := 0, locals := 22 })).room s m ([.ref (ad 0), .int vw] : List Value).toArray below meth c s.heap locs 0 0 (MQ below (va_Qi (fun (z : Int32) (_ : Unit) => z = F_sm_tells mu vw ∧ (True)) (fun _ t => t.heap = s.heap) (fun _ => False)) ([.ref (ad 0), .int vw] : List Value).toArray s 0 0 (fun _ => False)) (F0 m 4 ls []) := by
    intro n4
    induction n4 with
    | zero => intro v2_4 v3_4 locs ls hm; exact absurd hm (Nat.not_lt_zero _)
    | succ n4 ih4 =>
      intro v2_4 v3_4 locs ls hm_4 h_v3_4 hF hS hl
      rw [L_sm_tells_4_0] at hF
      refine lv_iload_n hx hb dX12_tells_4 rfl (lv_at hl 0 rfl) ?_
      refine lv_bipush (v := 6) hx hb dX12_tells_5 (by decide) ?_
      refine lv_icmp_ge (tgt := 84) hx hb dX12_tells_7 (by decide) (fun c_1 => ?_) (fun c_1 => ?_)
      · have hF := (if_pos c_1).symm.trans hF
        have c_1 : 6 ≤ v3_4.toInt := il_le c_1
        refine lv_iload_n hx hb dX12_tells_84 rfl (lv_at hl 3 rfl) ?_
        by_cases w2 : vw.toInt < 0 ∨ 5 < vw.toInt
        · refine lv_tableOut (tgt := 157) hx hb dX12_tells_85 w2 (by decide) ?_
          have hF := (if_pos w2).symm.trans hF
          refine lv_iload_n hx hb dX12_tells_157 rfl (lv_at hl 1 rfl) ?_
          exact W.iret (v := v2_4) hx hb hr (fun t ht hW => ⟨⟨v2_4, (), rfl, ⟨hF.trans hfz.symm, trivial⟩, ht⟩, hS.F ht⟩) hS.2.2 dX12_tells_158
        have hF := (if_neg w2).symm.trans hF
        by_cases w2_0 : vw.toInt = 0
        · refine lv_tableIn (off := 39) (tgt := 124) hx hb dX12_tells_85 (by omega) (by omega) (by rw [w2_0]; rfl) (by decide) ?_
          have hF := (if_pos w2_0).symm.trans hF
          refine lv_aload_n hx hb dX12_tells_124 rfl (lv_at hl 2 rfl) ?_
          refine va_get (D := (dC, dI)) (ci := 12) (v := .int (mu 0 8)) (C := RX12) (T := TX12) (N := 46) hx hb hts inG12 hown hK hP 0 (gM_0 cs ad mu) rfl 8 (by decide) (hts _ (List.mem_cons_of_mem _ mw_5_49)) (fun _ h9 => h9) rfl dX12_tells_125 ?_
          refine lv_topi (fun y3 ey3 => ?_)
          have hF := mi_let hF ey3
          have by3 : y3.toInt = (mu 0 8).toInt := congrArg Int32.toInt ey3
          have gy3 : 0 ≤ y3.toInt ∧ y3.toInt ≤ 7 := by rw [ey3]; exact rM_0_8 ok
          exact W.iret (v := y3) hx hb hr (fun t ht hW => ⟨⟨y3, (), rfl, ⟨hF.trans hfz.symm, trivial⟩, ht⟩, hS.F ht⟩) hS.2.2 dX12_tells_128
        have hF := (if_neg w2_0).symm.trans hF
        by_cases w2_1 : vw.toInt = 1
        · refine lv_tableIn (off := 44) (tgt := 129) hx hb dX12_tells_85 (by omega) (by omega) (by rw [w2_1]; rfl) (by decide) ?_
          have hF := (if_pos w2_1).symm.trans hF
          refine lv_aload_n hx hb dX12_tells_129 rfl (lv_at hl 2 rfl) ?_
          refine va_get (D := (dC, dI)) (ci := 12) (v := .int (mu 0 11)) (C := RX12) (T := TX12) (N := 46) hx hb hts inG12 hown hK hP 0 (gM_0 cs ad mu) rfl 11 (by decide) (hts _ (List.mem_cons_of_mem _ mw_5_52)) (fun _ h9 => h9) rfl dX12_tells_130 ?_
          refine lv_topi (fun y4 ey4 => ?_)
          have hF := mi_let hF ey4
          have by4 : y4.toInt = (mu 0 11).toInt := congrArg Int32.toInt ey4
          have gy4 : 0 ≤ y4.toInt ∧ y4.toInt ≤ 12 := by rw [ey4]; exact rM_0_11 ok
          exact W.iret (v := y4) hx hb hr (fun t ht hW => ⟨⟨y4, (), rfl, ⟨hF.trans hfz.symm, trivial⟩, ht⟩, hS.F ht⟩) hS.2.2 dX12_tells_133
        have hF := (if_neg w2_1).symm.trans hF
        by_cases w2_2 : vw.toInt = 2
        · refine lv_tableIn (off := 49) (tgt := 134) hx hb dX12_tells_85 (by omega) (by omega) (by rw [w2_2]; rfl) (by decide) ?_
          have hF := (if_pos w2_2).symm.trans hF
          refine lv_aload_n hx hb dX12_tells_134 rfl (lv_at hl 2 rfl) ?_
          refine va_get (D := (dC, dI)) (ci := 12) (v := .int (mu 0 14)) (C := RX12) (T := TX12) (N := 46) hx hb hts inG12 hown hK hP 0 (gM_0 cs ad mu) rfl 14 (by decide) (hts _ (List.mem_cons_of_mem _ mw_5_55)) (fun _ h9 => h9) rfl dX12_tells_135 ?_
          refine lv_topi (fun y5 ey5 => ?_)
          have hF := mi_let hF ey5
          have by5 : y5.toInt = (mu 0 14).toInt := congrArg Int32.toInt ey5
          exact W.iret (v := y5) hx hb hr (fun t ht hW => ⟨⟨y5, (), rfl, ⟨hF.trans hfz.symm, trivial⟩, ht⟩, hS.F ht⟩) hS.2.2 dX12_tells_138
        have hF := (if_neg w2_2).symm.trans hF
        by_cases w2_3 : vw.toInt = 3
        · refine lv_tableIn (off := 54) (tgt := 139) hx hb dX12_tells_85 (by omega) (by omega) (by rw [w2_3]; rfl) (by decide) ?_
          have hF := (if_pos w2_3).symm.trans hF
          refine lv_aload_n hx hb dX12_tells_139 rfl (lv_at hl 2 rfl) ?_
          refine va_get (D := (dC, dI)) (ci := 12) (v := .int (mu 0 15)) (C := RX12) (T := TX12) (N := 46) hx hb hts inG12 hown hK hP 0 (gM_0 cs ad mu) rfl 15 (by decide) (hts _ (List.mem_cons_of_mem _ mw_5_56)) (fun _ h9 => h9) rfl dX12_tells_140 ?_
          refine lv_topi (fun y6 ey6 => ?_)
          have hF := mi_let hF ey6
          have by6 : y6.toInt = (mu 0 15).toInt := congrArg Int32.toInt ey6
          have gy6 : 0 ≤ y6.toInt ∧ y6.toInt ≤ 4 := by rw [ey6]; exact rM_0_15 ok
          exact W.iret (v := y6) hx hb hr (fun t ht hW => ⟨⟨y6, (), rfl, ⟨hF.trans hfz.symm, trivial⟩, ht⟩, hS.F ht⟩) hS.2.2 dX12_tells_143
        have hF := (if_neg w2_3).symm.trans hF
        by_cases w2_4 : vw.toInt = 4
        · refine lv_tableIn (off := 59) (tgt := 144) hx hb dX12_tells_85 (by omega) (by omega) (by rw [w2_4]; rfl) (by decide) ?_
          have hF := (if_pos w2_4).symm.trans hF
          refine lv_aload_n hx hb dX12_tells_144 rfl (lv_at hl 2 rfl) ?_
          refine va_get (D := (dC, dI)) (ci := 12) (v := .int (mu 0 17)) (C := RX12) (T := TX12) (N := 46) hx hb hts inG12 hown hK hP 0 (gM_0 cs ad mu) rfl 17 (by decide) (hts _ (List.mem_cons_of_mem _ mw_5_58)) (fun _ h9 => h9) rfl dX12_tells_145 ?_
          refine lv_topi (fun y7 ey7 => ?_)
          have hF := mi_let hF ey7
          have by7 : y7.toInt = (mu 0 17).toInt := congrArg Int32.toInt ey7
          have gy7 : 0 ≤ y7.toInt ∧ y7.toInt ≤ 40 := by rw [ey7]; exact rM_0_17 ok
          exact W.iret (v := y7) hx hb hr (fun t ht hW => ⟨⟨y7, (), rfl, ⟨hF.trans hfz.symm, trivial⟩, ht⟩, hS.F ht⟩) hS.2.2 dX12_tells_148
        have hF := (if_neg w2_4).symm.trans hF
        have w2_5 : vw.toInt = 5 := by omega
        refine lv_tableIn (off := 64) (tgt := 149) hx hb dX12_tells_85 (by omega) (by omega) (by rw [w2_5]; rfl) (by decide) ?_
        refine lv_aload_n hx hb dX12_tells_149 rfl (lv_at hl 2 rfl) ?_
        refine va_get (D := (dC, dI)) (ci := 12) (v := .int (mu 0 13)) (C := RX12) (T := TX12) (N := 46) hx hb hts inG12 hown hK hP 0 (gM_0 cs ad mu) rfl 13 (by decide) (hts _ (List.mem_cons_of_mem _ mw_5_54)) (fun _ h9 => h9) rfl dX12_tells_150 ?_
        refine lv_topi (fun y8 ey8 => ?_)
        have hF := mi_let hF ey8
        have by8 : y8.toInt = (mu 0 13).toInt := congrArg Int32.toInt ey8
        refine cr_i (va_runS (As := [.int y8]) (rest := []) ⟨hx, hb, hml, hown, hts⟩ (sm_sizeOf l dC dI (tyM cs) s.heap y8) (va_cwS 1 hts (wU_S mw_6_62 mw_6_60 mw_6_61 mw_1_13) rfl rfl rfl (by decide +kernel) ⟨Nat.le_of_ble_eq_true rfl, Nat.le_of_ble_eq_true rfl⟩) ⟨sz_c, sz_m hK hz⟩ rfl rfl hl.1 rfl (lv_room (Nat.le_of_ble_eq_true rfl)) dX12_tells_153 ⟨Nat.zero_le _, Nat.zero_le _⟩) hS (fun r9 hw9 locs hS => ?_)
        obtain ⟨hfe9, hw9⟩ := hw9
        have hF := mi_let hF hfe9
        have gr9 : r9 = so y8 ∧ (0 ≤ y8.toInt → y8.toInt ≤ 127 → r9.toInt = (pp y8.toNatClampNeg : Int) ∧ pp y8.toNatClampNeg ≤ 7 ∧ (y8.toInt = 0 ∨ 1 ≤ pp y8.toNatClampNeg)) := hw9
        exact W.iret (v := r9) hx hb hr (fun t ht hW => ⟨⟨r9, (), rfl, ⟨hF.trans hfz.symm, trivial⟩, ht⟩, hS.F ht⟩) hS.2.2 dX12_tells_156
      · have hF := (if_neg c_1).symm.trans hF
        have c_1 : v3_4.toInt < 6 := il_nle c_1
        refine lv_iload_n hx hb dX12_tells_10 rfl (lv_at hl 1 rfl) ?_
        refine lv_iload_n hx hb dX12_tells_11 rfl (lv_at hl 3 rfl) ?_
        refine lv_bipush (v := 6) hx hb dX12_tells_12 (by decide) ?_
        refine lv_icmp_ne (tgt := 26) hx hb dX12_tells_14 (by decide) (fun c_10 => ?_) (fun c_10 => ?_)
        · have hF := (if_neg c_10).symm.trans hF
          have c_10 : ¬ vw.toInt = 6 := il_ne c_10
          refine lv_iload_n hx hb dX12_tells_26 rfl (lv_at hl 3 rfl) ?_
          refine lv_bipush (v := 7) hx hb dX12_tells_27 (by decide) ?_
          refine lv_icmp_ne (tgt := 46) hx hb dX12_tells_29 (by decide) (fun c_11 => ?_) (fun c_11 => ?_)
          · have hF := (if_neg c_11).symm.trans hF
            have c_11 : ¬ vw.toInt = 7 := il_ne c_11
            refine lv_iload_n hx hb dX12_tells_46 rfl (lv_at hl 3 rfl) ?_
            refine lv_bipush (v := 8) hx hb dX12_tells_47 (by decide) ?_
            refine lv_icmp_ne (tgt := 75) hx hb dX12_tells_49 (by decide) (fun c_12 => ?_) (fun c_12 => ?_)
            · have hF := (if_neg c_12).symm.trans hF
              have c_12 : ¬ vw.toInt = 8 := il_ne c_12
              refine lv_iconst (v := 0) hx hb dX12_tells_75 (by decide) ?_
              refine lv_iadd hx hb dX12_tells_76 ?_
              refine lv_topi (fun t13 et13 => ?_)
              have hF := mi_let hF et13
              refine lv_istore_n (lv' := [(2, .int t13), (3, .int v3_4), (0, .ref (ad 0)), (1, .int vw)]) hx hb dX12_tells_77 rfl hl (by decide) rfl (fun ls hl => ?_)
              refine lv_iinc (v := (v3_4 + 1)) (lv' := [(3, .int (v3_4 + 1)), (2, .int t13), (0, .ref (ad 0)), (1, .int vw)]) hx hb dX12_tells_78 hl (k := 1) rfl rfl (by decide) rfl (fun ls hl => ?_)
              refine loc_gen (P := fun w9 => lv_has ls 4 [(3, .int w9), (2, .int t13), (0, .ref (ad 0)), (1, .int vw)]) (v3_4 + 1) hl (fun w14 hw14 hl => ?_)
              have hl : lv_has ls 4 [(3, .int w14), (2, .int t13), (0, .ref (ad 0)), (1, .int vw)] := hl
              have hF := mi_let hF hw14.symm
              have aw14 : w14.toInt = v3_4.toInt + 1 := by rw [← hw14]; first | exact va1 (Int.lt_of_le_of_lt h_v3_4.2 (by decide)) | exact va1 (by omega)
              refine lv_goto (tgt := 4) hx hb dX12_tells_81 (by decide) ?_
              exact ih4 (t13) (w14)  _ _ (by first | exact ms_up hm_4 aw14 h_v3_4.2 | exact ms_lt hm_4 (by omega) (by omega) | omega) (by first | exact rg_up aw14 h_v3_4 (by omega) | omega)   hF hS (lv_sub hl [0, 1, 2, 3] rfl)
            · have hF := (if_pos c_12).symm.trans hF
              have c_12 : vw.toInt = 8 := il_eq c_12
              refine lv_iload_n hx hb dX12_tells_52 rfl (lv_at hl 0 rfl) ?_
              refine lv_iconst (v := 3) hx hb dX12_tells_53 (by decide) ?_
              refine lv_icmp_ge (tgt := 75) hx hb dX12_tells_54 (by decide) (fun c_15 => ?_) (fun c_15 => ?_)
              · have hF := (if_pos c_15).symm.trans hF
                have c_15 : 3 ≤ v3_4.toInt := il_le c_15
                refine lv_iconst (v := 0) hx hb dX12_tells_75 (by decide) ?_
                refine lv_iadd hx hb dX12_tells_76 ?_
                refine lv_topi (fun t16 et16 => ?_)
                have hF := mi_let hF et16
                refine lv_istore_n (lv' := [(2, .int t16), (3, .int v3_4), (0, .ref (ad 0)), (1, .int vw)]) hx hb dX12_tells_77 rfl hl (by decide) rfl (fun ls hl => ?_)
                refine lv_iinc (v := (v3_4 + 1)) (lv' := [(3, .int (v3_4 + 1)), (2, .int t16), (0, .ref (ad 0)), (1, .int vw)]) hx hb dX12_tells_78 hl (k := 1) rfl rfl (by decide) rfl (fun ls hl => ?_)
                refine loc_gen (P := fun w9 => lv_has ls 4 [(3, .int w9), (2, .int t16), (0, .ref (ad 0)), (1, .int vw)]) (v3_4 + 1) hl (fun w17 hw17 hl => ?_)
                have hl : lv_has ls 4 [(3, .int w17), (2, .int t16), (0, .ref (ad 0)), (1, .int vw)] := hl
                have hF := mi_let hF hw17.symm
                have aw17 : w17.toInt = v3_4.toInt + 1 := by rw [← hw17]; first | exact va1 (Int.lt_of_le_of_lt h_v3_4.2 (by decide)) | exact va1 (by omega)
                refine lv_goto (tgt := 4) hx hb dX12_tells_81 (by decide) ?_
                exact ih4 (t16) (w17)  _ _ (by first | exact ms_up hm_4 aw17 h_v3_4.2 | exact ms_lt hm_4 (by omega) (by omega) | omega) (by first | exact rg_up aw17 h_v3_4 (by omega) | omega)   hF hS (lv_sub hl [0, 1, 2, 3] rfl)
              · have hF := (if_neg c_15).symm.trans hF
                have c_15 : v3_4.toInt < 3 := il_nle c_15
                refine lv_aload_n hx hb dX12_tells_57 rfl (lv_at hl 2 rfl) ?_
                refine va_get (D := (dC, dI)) (ci := 12) (v := .ref (ad 15)) (C := RX12) (T := TX12) (N := 46) hx hb hts inG12 hown hK hP 0 (gM_0 cs ad mu) rfl 25 (by decide) (hts _ (List.mem_cons_of_mem _ mw_5_66)) (fun _ h9 => h9) rfl dX12_tells_58 ?_
                refine lv_bipush (v := 64) hx hb dX12_tells_61 (by decide) ?_
                refine lv_iload_n hx hb dX12_tells_63 rfl (lv_at hl 0 rfl) ?_
                refine lv_imul hx hb dX12_tells_64 ?_
                refine lv_topi (fun t18 et18 => ?_)
                have hF := mi_let hF et18
                have at18 : t18.toInt = 64 * v3_4.toInt := by rw [et18]; exact tI_mul (rfl : (64 : Int32).toInt = 64) (rfl : v3_4.toInt = _) (by omega) (by omega)
                refine va_iald hx hb hK hP 15 0 (gM_15 cs ad mu) rfl (show vp_in t18 192 from vi_of (by omega) (by omega)) dX12_tells_65 ?_
                have hc19 : ((t18 : Int32).toNatClampNeg : Int) = t18.toInt := tC_of (by omega)
                refine lv_topi (fun y20 ey20 => ?_)
                have hF := mi_let hF ey20
                have by20 : y20.toInt = (mu 15 t18.toNatClampNeg).toInt := congrArg Int32.toInt ey20
                refine lv_bipush (v := (-9)) hx hb dX12_tells_66 (by decide) ?_
                refine lv_icmp_eq (tgt := 75) hx hb dX12_tells_68 (by decide) (fun c_21 => ?_) (fun c_21 => ?_)
                · have hF := (if_pos c_21).symm.trans hF
                  have c_21 : y20.toInt = -9 := il_eq c_21
                  refine lv_iconst (v := 0) hx hb dX12_tells_75 (by decide) ?_
                  refine lv_iadd hx hb dX12_tells_76 ?_
                  refine lv_topi (fun t22 et22 => ?_)
                  have hF := mi_let hF et22
                  refine lv_istore_n (lv' := [(2, .int t22), (3, .int v3_4), (0, .ref (ad 0)), (1, .int vw)]) hx hb dX12_tells_77 rfl hl (by decide) rfl (fun ls hl => ?_)
                  refine lv_iinc (v := (v3_4 + 1)) (lv' := [(3, .int (v3_4 + 1)), (2, .int t22), (0, .ref (ad 0)), (1, .int vw)]) hx hb dX12_tells_78 hl (k := 1) rfl rfl (by decide) rfl (fun ls hl => ?_)
                  refine loc_gen (P := fun w9 => lv_has ls 4 [(3, .int w9), (2, .int t22), (0, .ref (ad 0)), (1, .int vw)]) (v3_4 + 1) hl (fun w23 hw23 hl => ?_)
                  have hl : lv_has ls 4 [(3, .int w23), (2, .int t22), (0, .ref (ad 0)), (1, .int vw)] := hl
                  have hF := mi_let hF hw23.symm
                  have aw23 : w23.toInt = v3_4.toInt + 1 := by rw [← hw23]; first | exact va1 (Int.lt_of_le_of_lt h_v3_4.2 (by decide)) | exact va1 (by omega)
                  refine lv_goto (tgt := 4) hx hb dX12_tells_81 (by decide) ?_
                  exact ih4 (t22) (w23)  _ _ (by first | exact ms_up hm_4 aw23 h_v3_4.2 | exact ms_lt hm_4 (by omega) (by omega) | omega) (by first | exact rg_up aw23 h_v3_4 (by omega) | omega)   hF hS (lv_sub hl [0, 1, 2, 3] rfl)
                · have hF := (if_neg c_21).symm.trans hF
                  have c_21 : ¬ y20.toInt = -9 := il_ne c_21
                  refine lv_iconst (v := 1) hx hb dX12_tells_71 (by decide) ?_
                  refine lv_goto (tgt := 76) hx hb dX12_tells_72 (by decide) ?_
                  refine lv_iadd hx hb dX12_tells_76 ?_
                  refine lv_topi (fun t24 et24 => ?_)
                  have hF := mi_let hF et24
                  refine lv_istore_n (lv' := [(2, .int t24), (3, .int v3_4), (0, .ref (ad 0)), (1, .int vw)]) hx hb dX12_tells_77 rfl hl (by decide) rfl (fun ls hl => ?_)
                  refine lv_iinc (v := (v3_4 + 1)) (lv' := [(3, .int (v3_4 + 1)), (2, .int t24), (0, .ref (ad 0)), (1, .int vw)]) hx hb dX12_tells_78 hl (k := 1) rfl rfl (by decide) rfl (fun ls hl => ?_)
                  refine loc_gen (P := fun w9 => lv_has ls 4 [(3, .int w9), (2, .int t24), (0, .ref (ad 0)), (1, .int vw)]) (v3_4 + 1) hl (fun w25 hw25 hl => ?_)
                  have hl : lv_has ls 4 [(3, .int w25), (2, .int t24), (0, .ref (ad 0)), (1, .int vw)] := hl
                  have hF := mi_let hF hw25.symm
                  have aw25 : w25.toInt = v3_4.toInt + 1 := by rw [← hw25]; first | exact va1 (Int.lt_of_le_of_lt h_v3_4.2 (by decide)) | exact va1 (by omega)
                  refine lv_goto (tgt := 4) hx hb dX12_tells_81 (by decide) ?_
                  exact ih4 (t24) (w25)  _ _ (by first | exact ms_up hm_4 aw25 h_v3_4.2 | exact ms_lt hm_4 (by omega) (by omega) | omega) (by first | exact rg_up aw25 h_v3_4 (by omega) | omega)   hF hS (lv_sub hl [0, 1, 2, 3] rfl)
          · have hF := (if_pos c_11).symm.trans hF
            have c_11 : vw.toInt = 7 := il_eq c_11
            refine lv_iload_n hx hb dX12_tells_32 rfl (lv_at hl 0 rfl) ?_
            refine lv_iconst (v := 4) hx hb dX12_tells_33 (by decide) ?_
            refine lv_icmp_ge (tgt := 46) hx hb dX12_tells_34 (by decide) (fun c_26 => ?_) (fun c_26 => ?_)
            · have hF := (if_pos c_26).symm.trans hF
              have c_26 : 4 ≤ v3_4.toInt := il_le c_26
              refine lv_iload_n hx hb dX12_tells_46 rfl (lv_at hl 3 rfl) ?_
              refine lv_bipush (v := 8) hx hb dX12_tells_47 (by decide) ?_
              refine lv_icmp_ne (tgt := 75) hx hb dX12_tells_49 (by decide) (fun c_27 => ?_) (fun c_27 => by have c_27 : vw.toInt = 8 := il_eq c_27; exfalso; omega)
              have c_27 : ¬ vw.toInt = 8 := il_ne c_27
              refine lv_iconst (v := 0) hx hb dX12_tells_75 (by decide) ?_
              refine lv_iadd hx hb dX12_tells_76 ?_
              refine lv_topi (fun t28 et28 => ?_)
              have hF := mi_let hF et28
              refine lv_istore_n (lv' := [(2, .int t28), (3, .int v3_4), (0, .ref (ad 0)), (1, .int vw)]) hx hb dX12_tells_77 rfl hl (by decide) rfl (fun ls hl => ?_)
              refine lv_iinc (v := (v3_4 + 1)) (lv' := [(3, .int (v3_4 + 1)), (2, .int t28), (0, .ref (ad 0)), (1, .int vw)]) hx hb dX12_tells_78 hl (k := 1) rfl rfl (by decide) rfl (fun ls hl => ?_)
              refine loc_gen (P := fun w9 => lv_has ls 4 [(3, .int w9), (2, .int t28), (0, .ref (ad 0)), (1, .int vw)]) (v3_4 + 1) hl (fun w29 hw29 hl => ?_)
              have hl : lv_has ls 4 [(3, .int w29), (2, .int t28), (0, .ref (ad 0)), (1, .int vw)] := hl
              have hF := mi_let hF hw29.symm
              have aw29 : w29.toInt = v3_4.toInt + 1 := by rw [← hw29]; first | exact va1 (Int.lt_of_le_of_lt h_v3_4.2 (by decide)) | exact va1 (by omega)
              refine lv_goto (tgt := 4) hx hb dX12_tells_81 (by decide) ?_
              exact ih4 (t28) (w29)  _ _ (by first | exact ms_up hm_4 aw29 h_v3_4.2 | exact ms_lt hm_4 (by omega) (by omega) | omega) (by first | exact rg_up aw29 h_v3_4 (by omega) | omega)   hF hS (lv_sub hl [0, 1, 2, 3] rfl)
            · have hF := (if_neg c_26).symm.trans hF
              have c_26 : v3_4.toInt < 4 := il_nle c_26
              refine lv_aload_n hx hb dX12_tells_37 rfl (lv_at hl 2 rfl) ?_
              refine va_get (D := (dC, dI)) (ci := 12) (v := .ref (ad 5)) (C := RX12) (T := TX12) (N := 46) hx hb hts inG12 hown hK hP 0 (gM_0 cs ad mu) rfl 6 (by decide) (hts _ (List.mem_cons_of_mem _ mw_5_47)) (fun _ h9 => h9) rfl dX12_tells_38 ?_
              refine lv_iload_n hx hb dX12_tells_41 rfl (lv_at hl 0 rfl) ?_
              refine va_iald hx hb hK hP 5 0 (gM_5 cs ad mu) rfl (show vp_in v3_4 4 from vi_of (by omega) (by omega)) dX12_tells_42 ?_
              refine lv_topi (fun y30 ey30 => ?_)
              have hF := mi_let hF ey30
              have by30 : y30.toInt = (mu 5 v3_4.toNatClampNeg).toInt := congrArg Int32.toInt ey30
              have gy30 : -9 ≤ y30.toInt ∧ y30.toInt ≤ 80 := by rw [ey30]; exact rM_5_s ok v3_4.toNatClampNeg
              refine lv_if_ge (tgt := 71) hx hb dX12_tells_43 (by decide) (fun c_31 => ?_) (fun c_31 => ?_)
              · have hF := (if_pos c_31).symm.trans hF
                have c_31 : 0 ≤ y30.toInt := il_le c_31
                refine lv_iconst (v := 1) hx hb dX12_tells_71 (by decide) ?_
                refine lv_goto (tgt := 76) hx hb dX12_tells_72 (by decide) ?_
                refine lv_iadd hx hb dX12_tells_76 ?_
                refine lv_topi (fun t32 et32 => ?_)
                have hF := mi_let hF et32
                refine lv_istore_n (lv' := [(2, .int t32), (3, .int v3_4), (0, .ref (ad 0)), (1, .int vw)]) hx hb dX12_tells_77 rfl hl (by decide) rfl (fun ls hl => ?_)
                refine lv_iinc (v := (v3_4 + 1)) (lv' := [(3, .int (v3_4 + 1)), (2, .int t32), (0, .ref (ad 0)), (1, .int vw)]) hx hb dX12_tells_78 hl (k := 1) rfl rfl (by decide) rfl (fun ls hl => ?_)
                refine loc_gen (P := fun w9 => lv_has ls 4 [(3, .int w9), (2, .int t32), (0, .ref (ad 0)), (1, .int vw)]) (v3_4 + 1) hl (fun w33 hw33 hl => ?_)
                have hl : lv_has ls 4 [(3, .int w33), (2, .int t32), (0, .ref (ad 0)), (1, .int vw)] := hl
                have hF := mi_let hF hw33.symm
                have aw33 : w33.toInt = v3_4.toInt + 1 := by rw [← hw33]; first | exact va1 (Int.lt_of_le_of_lt h_v3_4.2 (by decide)) | exact va1 (by omega)
                refine lv_goto (tgt := 4) hx hb dX12_tells_81 (by decide) ?_
                exact ih4 (t32) (w33)  _ _ (by first | exact ms_up hm_4 aw33 h_v3_4.2 | exact ms_lt hm_4 (by omega) (by omega) | omega) (by first | exact rg_up aw33 h_v3_4 (by omega) | omega)   hF hS (lv_sub hl [0, 1, 2, 3] rfl)
              · have hF := (if_neg c_31).symm.trans hF
                have c_31 : y30.toInt < 0 := il_nle c_31
                refine lv_iload_n hx hb dX12_tells_46 rfl (lv_at hl 3 rfl) ?_
                refine lv_bipush (v := 8) hx hb dX12_tells_47 (by decide) ?_
                refine lv_icmp_ne (tgt := 75) hx hb dX12_tells_49 (by decide) (fun c_34 => ?_) (fun c_34 => by have c_34 : vw.toInt = 8 := il_eq c_34; exfalso; omega)
                have c_34 : ¬ vw.toInt = 8 := il_ne c_34
                refine lv_iconst (v := 0) hx hb dX12_tells_75 (by decide) ?_
                refine lv_iadd hx hb dX12_tells_76 ?_
                refine lv_topi (fun t35 et35 => ?_)
                have hF := mi_let hF et35
                refine lv_istore_n (lv' := [(2, .int t35), (3, .int v3_4), (0, .ref (ad 0)), (1, .int vw)]) hx hb dX12_tells_77 rfl hl (by decide) rfl (fun ls hl => ?_)
                refine lv_iinc (v := (v3_4 + 1)) (lv' := [(3, .int (v3_4 + 1)), (2, .int t35), (0, .ref (ad 0)), (1, .int vw)]) hx hb dX12_tells_78 hl (k := 1) rfl rfl (by decide) rfl (fun ls hl => ?_)
                refine loc_gen (P := fun w9 => lv_has ls 4 [(3, .int w9), (2, .int t35), (0, .ref (ad 0)), (1, .int vw)]) (v3_4 + 1) hl (fun w36 hw36 hl => ?_)
                have hl : lv_has ls 4 [(3, .int w36), (2, .int t35), (0, .ref (ad 0)), (1, .int vw)] := hl
                have hF := mi_let hF hw36.symm
                have aw36 : w36.toInt = v3_4.toInt + 1 := by rw [← hw36]; first | exact va1 (Int.lt_of_le_of_lt h_v3_4.2 (by decide)) | exact va1 (by omega)
                refine lv_goto (tgt := 4) hx hb dX12_tells_81 (by decide) ?_
                exact ih4 (t35) (w36)  _ _ (by first | exact ms_up hm_4 aw36 h_v3_4.2 | exact ms_lt hm_4 (by omega) (by omega) | omega) (by first | exact rg_up aw36 h_v3_4 (by omega) | omega)   hF hS (lv_sub hl [0, 1, 2, 3] rfl)
        · have hF := (if_pos c_10).symm.trans hF
          have c_10 : vw.toInt = 6 := il_eq c_10
          refine lv_aload_n hx hb dX12_tells_17 rfl (lv_at hl 2 rfl) ?_
          refine va_get (D := (dC, dI)) (ci := 12) (v := .ref (ad 2)) (C := RX12) (T := TX12) (N := 46) hx hb hts inG12 hown hK hP 0 (gM_0 cs ad mu) rfl 3 (by decide) (hts _ (List.mem_cons_of_mem _ mw_5_44)) (fun _ h9 => h9) rfl dX12_tells_18 ?_
          refine lv_iload_n hx hb dX12_tells_21 rfl (lv_at hl 0 rfl) ?_
          refine va_iald hx hb hK hP 2 0 (gM_2 cs ad mu) rfl (show vp_in v3_4 6 from vi_of (by omega) (by omega)) dX12_tells_22 ?_
          refine lv_topi (fun y37 ey37 => ?_)
          have hF := mi_let hF ey37
          have by37 : y37.toInt = (mu 2 v3_4.toNatClampNeg).toInt := congrArg Int32.toInt ey37
          have gy37 : -9 ≤ y37.toInt ∧ y37.toInt ≤ 40 := by rw [ey37]; exact rM_2_s ok v3_4.toNatClampNeg
          refine lv_if_ge (tgt := 71) hx hb dX12_tells_23 (by decide) (fun c_38 => ?_) (fun c_38 => ?_)
          · have hF := (if_pos c_38).symm.trans hF
            have c_38 : 0 ≤ y37.toInt := il_le c_38
            refine lv_iconst (v := 1) hx hb dX12_tells_71 (by decide) ?_
            refine lv_goto (tgt := 76) hx hb dX12_tells_72 (by decide) ?_
            refine lv_iadd hx hb dX12_tells_76 ?_
            refine lv_topi (fun t39 et39 => ?_)
            have hF := mi_let hF et39
            refine lv_istore_n (lv' := [(2, .int t39), (3, .int v3_4), (0, .ref (ad 0)), (1, .int vw)]) hx hb dX12_tells_77 rfl hl (by decide) rfl (fun ls hl => ?_)
            refine lv_iinc (v := (v3_4 + 1)) (lv' := [(3, .int (v3_4 + 1)), (2, .int t39), (0, .ref (ad 0)), (1, .int vw)]) hx hb dX12_tells_78 hl (k := 1) rfl rfl (by decide) rfl (fun ls hl => ?_)
            refine loc_gen (P := fun w9 => lv_has ls 4 [(3, .int w9), (2, .int t39), (0, .ref (ad 0)), (1, .int vw)]) (v3_4 + 1) hl (fun w40 hw40 hl => ?_)
            have hl : lv_has ls 4 [(3, .int w40), (2, .int t39), (0, .ref (ad 0)), (1, .int vw)] := hl
            have hF := mi_let hF hw40.symm
            have aw40 : w40.toInt = v3_4.toInt + 1 := by rw [← hw40]; first | exact va1 (Int.lt_of_le_of_lt h_v3_4.2 (by decide)) | exact va1 (by omega)
            refine lv_goto (tgt := 4) hx hb dX12_tells_81 (by decide) ?_
            exact ih4 (t39) (w40)  _ _ (by first | exact ms_up hm_4 aw40 h_v3_4.2 | exact ms_lt hm_4 (by omega) (by omega) | omega) (by first | exact rg_up aw40 h_v3_4 (by omega) | omega)   hF hS (lv_sub hl [0, 1, 2, 3] rfl)
          · have hF := (if_neg c_38).symm.trans hF
            have c_38 : y37.toInt < 0 := il_nle c_38
            refine lv_iload_n hx hb dX12_tells_26 rfl (lv_at hl 3 rfl) ?_
            refine lv_bipush (v := 7) hx hb dX12_tells_27 (by decide) ?_
            refine lv_icmp_ne (tgt := 46) hx hb dX12_tells_29 (by decide) (fun c_41 => ?_) (fun c_41 => by have c_41 : vw.toInt = 7 := il_eq c_41; exfalso; omega)
            have c_41 : ¬ vw.toInt = 7 := il_ne c_41
            refine lv_iload_n hx hb dX12_tells_46 rfl (lv_at hl 3 rfl) ?_
            refine lv_bipush (v := 8) hx hb dX12_tells_47 (by decide) ?_
            refine lv_icmp_ne (tgt := 75) hx hb dX12_tells_49 (by decide) (fun c_42 => ?_) (fun c_42 => by have c_42 : vw.toInt = 8 := il_eq c_42; exfalso; omega)
            have c_42 : ¬ vw.toInt = 8 := il_ne c_42
            refine lv_iconst (v := 0) hx hb dX12_tells_75 (by decide) ?_
            refine lv_iadd hx hb dX12_tells_76 ?_
            refine lv_topi (fun t43 et43 => ?_)
            have hF := mi_let hF et43
            refine lv_istore_n (lv' := [(2, .int t43), (3, .int v3_4), (0, .ref (ad 0)), (1, .int vw)]) hx hb dX12_tells_77 rfl hl (by decide) rfl (fun ls hl => ?_)
            refine lv_iinc (v := (v3_4 + 1)) (lv' := [(3, .int (v3_4 + 1)), (2, .int t43), (0, .ref (ad 0)), (1, .int vw)]) hx hb dX12_tells_78 hl (k := 1) rfl rfl (by decide) rfl (fun ls hl => ?_)
            refine loc_gen (P := fun w9 => lv_has ls 4 [(3, .int w9), (2, .int t43), (0, .ref (ad 0)), (1, .int vw)]) (v3_4 + 1) hl (fun w44 hw44 hl => ?_)
            have hl : lv_has ls 4 [(3, .int w44), (2, .int t43), (0, .ref (ad 0)), (1, .int vw)] := hl
            have hF := mi_let hF hw44.symm
            have aw44 : w44.toInt = v3_4.toInt + 1 := by rw [← hw44]; first | exact va1 (Int.lt_of_le_of_lt h_v3_4.2 (by decide)) | exact va1 (by omega)
            refine lv_goto (tgt := 4) hx hb dX12_tells_81 (by decide) ?_
            exact ih4 (t43) (w44)  _ _ (by first | exact ms_up hm_4 aw44 h_v3_4.2 | exact ms_lt hm_4 (by omega) (by omega) | omega) (by first | exact rg_up aw44 h_v3_4 (by omega) | omega)   hF hS (lv_sub hl [0, 1, 2, 3] rfl)
  exact loop4 9 (0) (0)  _ _ (by have h80 : (0 : Int32).toInt = 0 := rfl; have h81 : (0 : Int32).toInt = 0 := rfl; omega) (by have h80 : (0 : Int32).toInt = 0 := rfl; exact ⟨by omega, by omega⟩)   hF hS hl
set_option maxHeartbeats 4000000 in
set_option maxRecDepth 100000 in
/-- qm_count -/
theorem qm_count (l : Launch) (dC : Nat → ClassId) (dI : Nat → Nat → Nat) (cs : Nat → ClassId) (ad : Nat → Nat) (mu : Nat → Nat → Int32) (ok : okR loM hiM mu) (H : Heap) (hP : va_P (dC, dI) vwCl (wR 21 ad (EM cs ad) mu) H) (hD0 : va_D (fun _ => True) (wR 21 ad (EM cs ad) mu)) (vw : Int32) : Met l yX12_count (wU yX12_count cX12_count 2 (some .int)) ({ frames := 2, cells := 0, slots := 0, locals := 45 }) (va_Pc [.ref (ad 0), .int vw] (sz_P (dC, dI) vwCl (tyM cs) H)) (va_Qi (fun (z : Int32) (xi : Nat → Nat → Int32) => okR loM hiM xi ∧ (True) ∧ (∀ k f : Nat, Nat.testBit 510 (gpM k f) = true → xi k f = mu k f)) (fun xi t => va_P (dC, dI) vwCl (wR 21 ad (EM cs ad) xi) t.heap) (va_A (wR 21 ad (EM cs ad) mu) H.size)) 0 0 (va_A (wR 21 ad (EM cs ad) mu) H.size) := by
  refine Met.ofW (cc := cX12_count) (maxL := 2) (ret := (some .int)) (by decide) rfl ?_
  intro p e s m args below meth c s₁ B hml hv
  obtain ⟨rfl, hh, hK, hz⟩ := hv
  have hx := B.exec
  have hb := B.bytes
  have hr := B.returns
  have hts := atoms_spec (ws := (wU yX12_count cX12_count 2 (some .int))) B.pre
  have hown : s.vm.findClass RX12 = some m.cls := findClass_of_methodNamed B.named
  have hlocks := B.notSynchronized
  subst hh
  have hD := hD0.self (sz := s.heap.size)
  have hA : ∀ q : Nat, s.heap.size ≤ q → (va_A (wR 21 ad (EM cs ad) mu) s.heap.size) q := fun q h => Or.inr h
  have hS : va_S (va_A (wR 21 ad (EM cs ad) mu) s.heap.size) s.heap s.heap [] := va_S.rf
  have hl := lv_entry ([.ref (ad 0), .int vw]) (n := 2) (Nat.le_of_ble_eq_true rfl)
  rw [lg_entry_eq]
  generalize (lg_sl ([.ref (ad 0), .int vw]) ++ List.replicate (2 - (lg_sl ([.ref (ad 0), .int vw])).length) Slot.unset).toArray = ls at hl ⊢
  have hl : lv_has ls 2 [(0, .ref (ad 0)), (1, .int vw)] := hl
  refine lv_iload_n hx hb dX12_count_0 rfl (lv_at hl 1 rfl) ?_
  refine lv_iconst (v := 0) hx hb dX12_count_1 (by decide) ?_
  refine lv_bipush (v := 8) hx hb dX12_count_2 (by decide) ?_
  refine cr_i (va_runS (As := [.int vw, .int 0, .int 8]) (rest := []) ⟨hx, hb, hml, hown, hts⟩ (sm_in l dC dI (tyM cs) s.heap vw 0 8) (va_cwS 3 hts (wU_S mw_5_189 mw_5_187 mw_5_188 mw_1_13) rfl rfl rfl (by decide +kernel) ⟨Nat.le_of_ble_eq_true rfl, Nat.le_of_ble_eq_true rfl⟩) ⟨sz_c, sz_m hK hz⟩ rfl rfl hl.1 rfl (lv_room (Nat.le_of_ble_eq_true rfl)) dX12_count_4 ⟨Nat.zero_le _, Nat.zero_le _⟩) hS (fun r1 hw1 locs hS => ?_)
  obtain ⟨hfe1, hw1⟩ := hw1
  rcases hw1 with ⟨rfl, f1⟩ | ⟨rfl, f1⟩
  · have f1 : (0 : Int) ≤ vw.toInt ∧ vw.toInt ≤ (8 : Int) := f1
    refine lv_if_eq (tgt := 18) hx hb dX12_count_7 (by decide) (fun c => absurd c (by decide)) (fun _ => ?_)
    refine lv_aload_n hx hb dX12_count_10 rfl (lv_at hl 0 rfl) ?_
    refine lv_iload_n hx hb dX12_count_11 rfl (lv_at hl 1 rfl) ?_
    refine cr_i (va_runV (As := [.int vw]) (rest := []) ⟨hx, hb, hml, hown, hts⟩ (sm_tells l dC dI cs ad mu ok s.heap hP vw) (cwV 1 hts (wU_V mw_7_70 mw_7_67 mw_7_69 mw_0_65 mw_1_13) rfl rfl rfl (by decide +kernel) ⟨Nat.le_of_ble_eq_true rfl, Nat.le_of_ble_eq_true rfl⟩) ⟨sz_c, va_recv hK hP (ci := 12) (q0 := 0) rfl (gM_0 cs ad mu), sz_m hK hz⟩ rfl rfl hl.1 rfl (lv_room (Nat.le_of_ble_eq_true rfl)) dX12_count_12 ⟨Nat.zero_le _, Nat.zero_le _⟩) hS (fun r2 hw2 locs hS => ?_)
    obtain ⟨hfe2, hw2⟩ := hw2
    refine lv_goto (tgt := 19) hx hb dX12_count_15 (by decide) ?_
    exact W.iret (v := r2) hx hb hr (fun t ht hW => ⟨⟨r2, mu, rfl, ⟨ok, trivial, (fun _ _ _ => rfl)⟩, by first | (subst ht; exact hP) | (rw [ht]; exact hP) | (show va_P (dC, dI) vwCl (wR 21 ad (EM cs ad) mu) t.heap; rw [ht]; exact hP)⟩, hS.F ht⟩) hS.2.2 dX12_count_19
  · have f1 : vw.toInt < (0 : Int) ∨ (8 : Int) < vw.toInt := f1
    refine lv_if_eq (tgt := 18) hx hb dX12_count_7 (by decide) (fun _ => ?_) (fun c => absurd (by decide) c)
    refine lv_iconst (v := (-1)) hx hb dX12_count_18 (by decide) ?_
    exact W.iret (v := (-1)) hx hb hr (fun t ht hW => ⟨⟨(-1), mu, rfl, ⟨ok, trivial, (fun _ _ _ => rfl)⟩, by first | (subst ht; exact hP) | (rw [ht]; exact hP) | (show va_P (dC, dI) vwCl (wR 21 ad (EM cs ad) mu) t.heap; rw [ht]; exact hP)⟩, hS.F ht⟩) hS.2.2 dX12_count_19
set_option maxHeartbeats 4000000 in
set_option maxRecDepth 100000 in
/-- qm_finding -/
theorem qm_finding (l : Launch) (dC : Nat → ClassId) (dI : Nat → Nat → Nat) (cs : Nat → ClassId) (ad : Nat → Nat) (mu : Nat → Nat → Int32) (ok : okR loM hiM mu) (H : Heap) (hP : va_P (dC, dI) vwCl (wR 21 ad (EM cs ad) mu) H) (hD0 : va_D (fun _ => True) (wR 21 ad (EM cs ad) mu)) : Met l yX12_finding (wU yX12_finding cX12_finding 1 (some .int)) ({ frames := 0, cells := 0, slots := 0, locals := 0 }) (va_Pc [.ref (ad 0)] (sz_P (dC, dI) vwCl (tyM cs) H)) (va_Qi (fun (z : Int32) (xi : Nat → Nat → Int32) => okR loM hiM xi ∧ (True) ∧ (∀ k f : Nat, Nat.testBit 510 (gpM k f) = true → xi k f = mu k f)) (fun xi t => va_P (dC, dI) vwCl (wR 21 ad (EM cs ad) xi) t.heap) (va_A (wR 21 ad (EM cs ad) mu) H.size)) 0 0 (va_A (wR 21 ad (EM cs ad) mu) H.size) := by
  refine Met.ofW (cc := cX12_finding) (maxL := 1) (ret := (some .int)) (by decide) rfl ?_
  intro p e s m args below meth c s₁ B hml hv
  obtain ⟨rfl, hh, hK, hz⟩ := hv
  have hx := B.exec
  have hb := B.bytes
  have hr := B.returns
  have hts := atoms_spec (ws := (wU yX12_finding cX12_finding 1 (some .int))) B.pre
  have hown : s.vm.findClass RX12 = some m.cls := findClass_of_methodNamed B.named
  have hlocks := B.notSynchronized
  subst hh
  have hD := hD0.self (sz := s.heap.size)
  have hA : ∀ q : Nat, s.heap.size ≤ q → (va_A (wR 21 ad (EM cs ad) mu) s.heap.size) q := fun q h => Or.inr h
  have hS : va_S (va_A (wR 21 ad (EM cs ad) mu) s.heap.size) s.heap s.heap [] := va_S.rf
  have hl := lv_entry ([.ref (ad 0)]) (n := 1) (Nat.le_of_ble_eq_true rfl)
  rw [lg_entry_eq]
  generalize (lg_sl ([.ref (ad 0)]) ++ List.replicate (1 - (lg_sl ([.ref (ad 0)])).length) Slot.unset).toArray = ls at hl ⊢
  have hl : lv_has ls 1 [(0, .ref (ad 0))] := hl
  refine lv_aload_n hx hb dX12_finding_0 rfl (lv_at hl 0 rfl) ?_
  refine va_get (D := (dC, dI)) (ci := 12) (v := .int (mu 0 0)) (C := RX12) (T := TX12) (N := 46) hx hb hts inG12 hown hK hP 0 (gM_0 cs ad mu) rfl 0 (by decide) (hts _ (List.mem_cons_of_mem _ mw_5_41)) (fun _ h9 => h9) rfl dX12_finding_1 ?_
  refine lv_topi (fun y1 ey1 => ?_)
  have by1 : y1.toInt = (mu 0 0).toInt := congrArg Int32.toInt ey1
  exact W.iret (v := y1) hx hb hr (fun t ht hW => ⟨⟨y1, mu, rfl, ⟨ok, trivial, (fun _ _ _ => rfl)⟩, by first | (subst ht; exact hP) | (rw [ht]; exact hP) | (show va_P (dC, dI) vwCl (wR 21 ad (EM cs ad) mu) t.heap; rw [ht]; exact hP)⟩, hS.F ht⟩) hS.2.2 dX12_finding_4
set_option maxHeartbeats 4000000 in
set_option maxRecDepth 100000 in
/-- qm_findings -/
theorem qm_findings (l : Launch) (dC : Nat → ClassId) (dI : Nat → Nat → Nat) (cs : Nat → ClassId) (ad : Nat → Nat) (mu : Nat → Nat → Int32) (ok : okR loM hiM mu) (H : Heap) (hP : va_P (dC, dI) vwCl (wR 21 ad (EM cs ad) mu) H) (hD0 : va_D (fun _ => True) (wR 21 ad (EM cs ad) mu)) (vf : Int32) : Met l yX12_findings (wU yX12_findings cX12_findings 2 (some .int)) ({ frames := 1, cells := 0, slots := 0, locals := 22 }) (va_Pc [.ref (ad 0), .int vf] (sz_P (dC, dI) vwCl (tyM cs) H)) (va_Qi (fun (z : Int32) (xi : Nat → Nat → Int32) => okR loM hiM xi ∧ (True) ∧ (∀ k f : Nat, Nat.testBit 510 (gpM k f) = true → xi k f = mu k f)) (fun xi t => va_P (dC, dI) vwCl (wR 21 ad (EM cs ad) xi) t.heap) (va_A (wR 21 ad (EM cs ad) mu) H.size)) 0 0 (va_A (wR 21 ad (EM cs ad) mu) H.size) := by
  refine Met.ofW (cc := cX12_findings) (maxL := 2) (ret := (some .int)) (by decide) rfl ?_
  intro p e s m args below meth c s₁ B hml hv
  obtain ⟨rfl, hh, hK, hz⟩ := hv
  have hx := B.exec
  have hb := B.bytes
  have hr := B.returns
  have hts := atoms_spec (ws := (wU yX12_findings cX12_findings 2 (some .int))) B.pre
  have hown : s.vm.findClass RX12 = some m.cls := findClass_of_methodNamed B.named
  have hlocks := B.notSynchronized
  subst hh
  have hD := hD0.self (sz := s.heap.size)
  have hA : ∀ q : Nat, s.heap.size ≤ q → (va_A (wR 21 ad (EM cs ad) mu) s.heap.size) q := fun q h => Or.inr h
  have hS : va_S (va_A (wR 21 ad (EM cs ad) mu) s.heap.size) s.heap s.heap [] := va_S.rf
  have hl := lv_entry ([.ref (ad 0), .int vf]) (n := 2) (Nat.le_of_ble_eq_true rfl)
  rw [lg_entry_eq]
  generalize (lg_sl ([.ref (ad 0), .int vf]) ++ List.replicate (2 - (lg_sl ([.ref (ad 0), .int vf])).length) Slot.unset).toArray = ls at hl ⊢
  have hl : lv_has ls 2 [(0, .ref (ad 0)), (1, .int vf)] := hl
  refine lv_iload_n hx hb dX12_findings_0 rfl (lv_at hl 1 rfl) ?_
  refine lv_iconst (v := 1) hx hb dX12_findings_1 (by decide) ?_
  refine lv_iconst (v := 5) hx hb dX12_findings_2 (by decide) ?_
  refine cr_i (va_runS (As := [.int vf, .int 1, .int 5]) (rest := []) ⟨hx, hb, hml, hown, hts⟩ (sm_in l dC dI (tyM cs) s.heap vf 1 5) (va_cwS 3 hts (wU_S mw_5_189 mw_5_187 mw_5_188 mw_1_13) rfl rfl rfl (by decide +kernel) ⟨Nat.le_of_ble_eq_true rfl, Nat.le_of_ble_eq_true rfl⟩) ⟨sz_c, sz_m hK hz⟩ rfl rfl hl.1 rfl (lv_room (Nat.le_of_ble_eq_true rfl)) dX12_findings_3 ⟨Nat.zero_le _, Nat.zero_le _⟩) hS (fun r1 hw1 locs hS => ?_)
  obtain ⟨hfe1, hw1⟩ := hw1
  rcases hw1 with ⟨rfl, f1⟩ | ⟨rfl, f1⟩
  · have f1 : (1 : Int) ≤ vf.toInt ∧ vf.toInt ≤ (5 : Int) := f1
    refine lv_if_eq (tgt := 18) hx hb dX12_findings_6 (by decide) (fun c => absurd c (by decide)) (fun _ => ?_)
    refine lv_aload_n hx hb dX12_findings_9 rfl (lv_at hl 0 rfl) ?_
    refine va_get (D := (dC, dI)) (ci := 12) (v := .ref (ad 1)) (C := RX12) (T := TX12) (N := 46) hx hb hts inG12 hown hK hP 0 (gM_0 cs ad mu) rfl 1 (by decide) (hts _ (List.mem_cons_of_mem _ mw_5_42)) (fun _ h9 => h9) rfl dX12_findings_10 ?_
    refine lv_iload_n hx hb dX12_findings_13 rfl (lv_at hl 1 rfl) ?_
    refine va_iald hx hb hK hP 1 0 (gM_1 cs ad mu) rfl (show vp_in vf 6 from vi_of (by omega) (by omega)) dX12_findings_14 ?_
    refine lv_topi (fun y2 ey2 => ?_)
    have by2 : y2.toInt = (mu 1 vf.toNatClampNeg).toInt := congrArg Int32.toInt ey2
    refine lv_goto (tgt := 19) hx hb dX12_findings_15 (by decide) ?_
    exact W.iret (v := y2) hx hb hr (fun t ht hW => ⟨⟨y2, mu, rfl, ⟨ok, trivial, (fun _ _ _ => rfl)⟩, by first | (subst ht; exact hP) | (rw [ht]; exact hP) | (show va_P (dC, dI) vwCl (wR 21 ad (EM cs ad) mu) t.heap; rw [ht]; exact hP)⟩, hS.F ht⟩) hS.2.2 dX12_findings_19
  · have f1 : vf.toInt < (1 : Int) ∨ (5 : Int) < vf.toInt := f1
    refine lv_if_eq (tgt := 18) hx hb dX12_findings_6 (by decide) (fun _ => ?_) (fun c => absurd (by decide) c)
    refine lv_iconst (v := (-1)) hx hb dX12_findings_18 (by decide) ?_
    exact W.iret (v := (-1)) hx hb hr (fun t ht hW => ⟨⟨(-1), mu, rfl, ⟨ok, trivial, (fun _ _ _ => rfl)⟩, by first | (subst ht; exact hP) | (rw [ht]; exact hP) | (show va_P (dC, dI) vwCl (wR 21 ad (EM cs ad) mu) t.heap; rw [ht]; exact hP)⟩, hS.F ht⟩) hS.2.2 dX12_findings_19
set_option maxHeartbeats 4000000 in
set_option maxRecDepth 100000 in
/-- sm_mix -/
theorem sm_mix (l : Launch) (dC : Nat → ClassId) (dI : Nat → Nat → Nat) (cs : Nat → ClassId) (ad : Nat → Nat) (mu : Nat → Nat → Int32) (ok : okR loM hiM mu) (H : Heap) (hP : va_P (dC, dI) vwCl (wR 21 ad (EM cs ad) mu) H) (hD0 : va_D (fun _ => True) (wR 21 ad (EM cs ad) mu)) (vv : Int32) : Met l yX12_mix (wU yX12_mix cX12_mix 2 none) ({ frames := 0, cells := 0, slots := 0, locals := 0 }) (va_Pc [.ref (ad 0), .int vv] (sz_P (dC, dI) vwCl (tyM cs) H)) (va_Qv (fun (xi : Nat → Nat → Int32) => okR loM hiM xi ∧ (True) ∧ (∀ k f : Nat, Nat.testBit 510 (gpM k f) = true → xi k f = mu k f)) (fun xi t => va_P (dC, dI) vwCl (wR 21 ad (EM cs ad) xi) t.heap) (va_A (wR 21 ad (EM cs ad) mu) H.size)) 0 0 (va_A (wR 21 ad (EM cs ad) mu) H.size) := by
  refine Met.ofW (cc := cX12_mix) (maxL := 2) (ret := none) (by decide) rfl ?_
  intro p e s m args below meth c s₁ B hml hv
  obtain ⟨rfl, hh, hK, hz⟩ := hv
  have hx := B.exec
  have hb := B.bytes
  have hr := B.returns
  have hts := atoms_spec (ws := (wU yX12_mix cX12_mix 2 none)) B.pre
  have hown : s.vm.findClass RX12 = some m.cls := findClass_of_methodNamed B.named
  have hlocks := B.notSynchronized
  subst hh
  have hD := hD0.self (sz := s.heap.size)
  have hA : ∀ q : Nat, s.heap.size ≤ q → (va_A (wR 21 ad (EM cs ad) mu) s.heap.size) q := fun q h => Or.inr h
  have hS : va_S (va_A (wR 21 ad (EM cs ad) mu) s.heap.size) s.heap s.heap [] := va_S.rf
  have hl := lv_entry ([.ref (ad 0), .int vv]) (n := 2) (Nat.le_of_ble_eq_true rfl)
  rw [lg_entry_eq]
  generalize (lg_sl ([.ref (ad 0), .int vv]) ++ List.replicate (2 - (lg_sl ([.ref (ad 0), .int vv])).length) Slot.unset).toArray = ls at hl ⊢
  have hl : lv_has ls 2 [(0, .ref (ad 0)), (1, .int vv)] := hl
  refine lv_aload_n hx hb dX12_mix_0 rfl (lv_at hl 0 rfl) ?_
  refine lv_ldc2 (v := 31) hx hb hown (hts _ (List.mem_cons_of_mem _ mw_7_88)) dX12_mix_1 ?_
  refine lv_aload_n hx hb dX12_mix_4 rfl (lv_at hl 0 rfl) ?_
  refine va_get (D := (dC, dI)) (ci := 12) (v := .long (jn (mu 0 45) (mu 0 46))) (C := RX12) (T := TX12) (N := 46) hx hb hts inG12 hown hK hP 0 (gM_0 cs ad mu) rfl 45 (by decide) (hts _ (List.mem_cons_of_mem _ mw_5_86)) (fun _ h9 => h9) rfl dX12_mix_5 ?_
  refine lv_topl (fun l1 el1 => ?_)
  refine lv_lmul hx hb dX12_mix_8 ?_
  refine lv_topl (fun l2 el2 => ?_)
  refine lv_iload_n hx hb dX12_mix_9 rfl (lv_at hl 1 rfl) ?_
  refine lv_i2l hx hb dX12_mix_10 rfl ?_
  refine lv_topl (fun l3 el3 => ?_)
  refine lv_ladd hx hb dX12_mix_11 ?_
  refine lv_topl (fun l4 el4 => ?_)
  refine va_put (D := (dC, dI)) (ci := 12) (v := .long l4) (ty := .long) (C := RX12) (T := TX12) (N := 46) hx hb hts inG12 tyX12 tyX12_ok nmX12 hown hK hP (wR_D mu hD) hS 0 (gM_0 cs ad mu) rfl 45 (by decide) (hts _ (List.mem_cons_of_mem _ mw_5_86)) (fun _ h9 => h9) rfl (by decide +kernel) rfl rfl (Nat.le_of_ble_eq_true rfl) dX12_mix_12 (fun H locs hP _ hS => ?_)
  simp only [List.set_cons_succ, List.set_cons_zero] at hP
  obtain ⟨ja5, jb5, hj5⟩ := jn_of (l4)
  rw [← hj5] at hP
  refine wr_gen (upd (upd (mu 0) 45 ja5) 46 jb5) hP rfl (fun nu6 hn6 hP => ?_)
  have ok := okR_2 (k := 0) (f := 45) (g := 46) (a := ja5) (b := jb5) ok (tI_lo _) (tI_hi _) (tI_lo _) (tI_hi _) hn6
  have kp7 : (∀ k f : Nat, Nat.testBit 510 (gpM k f) = true → nu6 k f = mu k f) := kp_2 hn6 (by decide) (by decide) (fun _ _ _ => rfl)
  exact W.vret hx hb hr (fun t ht hW => ⟨⟨nu6, rfl, ⟨ok, trivial, kp7⟩, by first | (subst ht; exact hP) | (rw [ht]; exact hP) | (show va_P (dC, dI) vwCl (wR 21 ad (EM cs ad) nu6) t.heap; rw [ht]; exact hP)⟩, hS.F ht⟩) hS.2.2 dX12_mix_15
set_option maxHeartbeats 4000000 in
set_option maxRecDepth 100000 in
/-- sm_mixTown -/
theorem sm_mixTown (l : Launch) (dC : Nat → ClassId) (dI : Nat → Nat → Nat) (cs : Nat → ClassId) (ad : Nat → Nat) (mu : Nat → Nat → Int32) (ok : okR loM hiM mu) (H : Heap) (hP : va_P (dC, dI) vwCl (wR 21 ad (EM cs ad) mu) H) (hD0 : va_D (fun _ => True) (wR 21 ad (EM cs ad) mu)) : Met l yX12_mixTown (wU yX12_mixTown cX12_mixTown 3 none) ({ frames := 3, cells := 0, slots := 0, locals := 70 }) (va_Pc [.ref (ad 0)] (sz_P (dC, dI) vwCl (tyM cs) H)) (va_Qv (fun (xi : Nat → Nat → Int32) => okR loM hiM xi ∧ (True) ∧ (∀ k f : Nat, Nat.testBit 510 (gpM k f) = true → xi k f = mu k f)) (fun xi t => va_P (dC, dI) vwCl (wR 21 ad (EM cs ad) xi) t.heap) (va_A (wR 21 ad (EM cs ad) mu) H.size)) 0 0 (va_A (wR 21 ad (EM cs ad) mu) H.size) := by
  refine Met.ofW (cc := cX12_mixTown) (maxL := 3) (ret := none) (by decide) rfl ?_
  intro p e s m args below meth c s₁ B hml hv
  obtain ⟨rfl, hh, hK, hz⟩ := hv
  have hx := B.exec
  have hb := B.bytes
  have hr := B.returns
  have hts := atoms_spec (ws := (wU yX12_mixTown cX12_mixTown 3 none)) B.pre
  have hown : s.vm.findClass RX12 = some m.cls := findClass_of_methodNamed B.named
  have hlocks := B.notSynchronized
  subst hh
  have hD := hD0.self (sz := s.heap.size)
  have hA : ∀ q : Nat, s.heap.size ≤ q → (va_A (wR 21 ad (EM cs ad) mu) s.heap.size) q := fun q h => Or.inr h
  have hS : va_S (va_A (wR 21 ad (EM cs ad) mu) s.heap.size) s.heap s.heap [] := va_S.rf
  have hl := lv_entry ([.ref (ad 0)]) (n := 3) (Nat.le_of_ble_eq_true rfl)
  rw [lg_entry_eq]
  generalize (lg_sl ([.ref (ad 0)]) ++ List.replicate (3 - (lg_sl ([.ref (ad 0)])).length) Slot.unset).toArray = ls at hl ⊢
  have hl : lv_has ls 3 [(0, .ref (ad 0))] := hl
  refine lv_iconst (v := 0) hx hb dX12_mixTown_0 (by decide) ?_
  refine lv_istore_n (lv' := [(1, .int 0), (0, .ref (ad 0))]) hx hb dX12_mixTown_1 rfl hl (by decide) rfl (fun ls hl => ?_)
  have loop2 : ∀ (n2 : Nat) (v1_2 : Int32) (nu2_ : Nat → Nat → Int32) (H : Heap) (locs : List Loc) (ls : Array Slot), (7 + 1 - v1_2.toInt).toNat < n2 → (0 ≤ v1_2.toInt ∧ v1_2.toInt ≤ 7) → okR loM hiM nu2_ → va_P (dC, dI) vwCl (wR 21 ad (EM cs ad) nu2_) H → (∀ k f : Nat, Nat.testBit 510 (gpM k f) = true → nu2_ k f = mu k f) → va_S (va_A (wR 21 ad (EM cs ad) mu) s.heap.size) s.heap H locs → lv_has ls 3 [(1, .int v1_2), (0, .ref (ad 0))] → W p l e (headSpec (wU yX12_mixTown cX12_mixTown 3 none) ({ frames := 3, cells := 0, slots := 0, locals := 70 })).room s m ([.ref (ad 0)] : List Value).toArray below meth c H locs 0 0 (MQ below (va_Qv (fun (xi : Nat → Nat → Int32) => okR loM hiM xi ∧ (True) ∧ (∀ k f : Nat, Nat.testBit 510 (gpM k f) = true → xi k f = mu k f)) (fun xi t => va_P (dC, dI) vwCl (wR 21 ad (EM cs ad) xi) t.heap) (va_A (wR 21 ad (EM cs ad) mu) s.heap.size)) ([.ref (ad 0)] : List Value).toArray s 0 0 (va_A (wR 21 ad (EM cs ad) mu) s.heap.size)) (F0 m 2 ls []) := by
    intro n2
    induction n2 with
    | zero => intro v1_2 nu2_ H locs ls hm; exact absurd hm (Nat.not_lt_zero _)
    | succ n2 ih2 =>
      intro v1_2 nu2_ H locs ls hm_2 h_v1_2 ok hP kq2_0 hS hl
      refine lv_iload_n hx hb dX12_mixTown_2 rfl (lv_at hl 0 rfl) ?_
      refine lv_aload_n hx hb dX12_mixTown_3 rfl (lv_at hl 1 rfl) ?_
      refine va_get (D := (dC, dI)) (ci := 12) (v := .int (nu2_ 0 8)) (C := RX12) (T := TX12) (N := 46) hx hb hts inG12 hown hK hP 0 (gM_0 cs ad nu2_) rfl 8 (by decide) (hts _ (List.mem_cons_of_mem _ mw_5_49)) (fun _ h9 => h9) rfl dX12_mixTown_4 ?_
      refine lv_topi (fun y1 ey1 => ?_)
      have by1 : y1.toInt = (nu2_ 0 8).toInt := congrArg Int32.toInt ey1
      have gy1 : 0 ≤ y1.toInt ∧ y1.toInt ≤ 7 := by rw [ey1]; exact rM_0_8 ok
      refine lv_icmp_ge (tgt := 39) hx hb dX12_mixTown_7 (by decide) (fun c_2 => ?_) (fun c_2 => ?_)
      · have c_2 : y1.toInt ≤ v1_2.toInt := il_le c_2
        refine lv_iconst (v := 0) hx hb dX12_mixTown_39 (by decide) ?_
        refine lv_istore_n (lv' := [(1, .int 0), (0, .ref (ad 0))]) hx hb dX12_mixTown_40 rfl hl (by decide) rfl (fun ls hl => ?_)
        have loop41 : ∀ (n41 : Nat) (v1_41 : Int32) (nu41_ : Nat → Nat → Int32) (H : Heap) (locs : List Loc) (ls : Array Slot), (12 + 1 - v1_41.toInt).toNat < n41 → (0 ≤ v1_41.toInt ∧ v1_41.toInt ≤ 12) → okR loM hiM nu41_ → va_P (dC, dI) vwCl (wR 21 ad (EM cs ad) nu41_) H → (∀ k f : Nat, Nat.testBit 510 (gpM k f) = true → nu41_ k f = mu k f) → va_S (va_A (wR 21 ad (EM cs ad) mu) s.heap.size) s.heap H locs → lv_has ls 3 [(1, .int v1_41), (0, .ref (ad 0))] → W p l e (headSpec (wU yX12_mixTown cX12_mixTown 3 none) ({ frames := 3, cells := 0, slots := 0, locals := 70 })).room s m ([.ref (ad 0)] : List Value).toArray below meth c H locs 0 0 (MQ below (va_Qv (fun (xi : Nat → Nat → Int32) => okR loM hiM xi ∧ (True) ∧ (∀ k f : Nat, Nat.testBit 510 (gpM k f) = true → xi k f = mu k f)) (fun xi t => va_P (dC, dI) vwCl (wR 21 ad (EM cs ad) xi) t.heap) (va_A (wR 21 ad (EM cs ad) mu) s.heap.size)) ([.ref (ad 0)] : List Value).toArray s 0 0 (va_A (wR 21 ad (EM cs ad) mu) s.heap.size)) (F0 m 41 ls []) := by
          intro n41
          induction n41 with
          | zero => intro v1_41 nu41_ H locs ls hm; exact absurd hm (Nat.not_lt_zero _)
          | succ n41 ih41 =>
            intro v1_41 nu41_ H locs ls hm_41 h_v1_41 ok hP kq41_0 hS hl
            refine lv_iload_n hx hb dX12_mixTown_41 rfl (lv_at hl 0 rfl) ?_
            refine lv_aload_n hx hb dX12_mixTown_42 rfl (lv_at hl 1 rfl) ?_
            refine va_get (D := (dC, dI)) (ci := 12) (v := .int (nu41_ 0 11)) (C := RX12) (T := TX12) (N := 46) hx hb hts inG12 hown hK hP 0 (gM_0 cs ad nu41_) rfl 11 (by decide) (hts _ (List.mem_cons_of_mem _ mw_5_52)) (fun _ h9 => h9) rfl dX12_mixTown_43 ?_
            refine lv_topi (fun y3 ey3 => ?_)
            have by3 : y3.toInt = (nu41_ 0 11).toInt := congrArg Int32.toInt ey3
            have gy3 : 0 ≤ y3.toInt ∧ y3.toInt ≤ 12 := by rw [ey3]; exact rM_0_11 ok
            refine lv_icmp_ge (tgt := 93) hx hb dX12_mixTown_46 (by decide) (fun c_4 => ?_) (fun c_4 => ?_)
            · have c_4 : y3.toInt ≤ v1_41.toInt := il_le c_4
              refine lv_iconst (v := 0) hx hb dX12_mixTown_93 (by decide) ?_
              refine lv_istore_n (lv' := [(1, .int 0), (0, .ref (ad 0))]) hx hb dX12_mixTown_94 rfl hl (by decide) rfl (fun ls hl => ?_)
              have loop95 : ∀ (n95 : Nat) (v1_95 : Int32) (nu95_ : Nat → Nat → Int32) (H : Heap) (locs : List Loc) (ls : Array Slot), (4 + 1 - v1_95.toInt).toNat < n95 → (0 ≤ v1_95.toInt ∧ v1_95.toInt ≤ 4) → okR loM hiM nu95_ → va_P (dC, dI) vwCl (wR 21 ad (EM cs ad) nu95_) H → (∀ k f : Nat, Nat.testBit 510 (gpM k f) = true → nu95_ k f = mu k f) → va_S (va_A (wR 21 ad (EM cs ad) mu) s.heap.size) s.heap H locs → lv_has ls 3 [(1, .int v1_95), (0, .ref (ad 0))] → W p l e (headSpec (wU yX12_mixTown cX12_mixTown 3 none) ({ frames := 3, cells := 0, slots := 0, locals := 70 })).room s m ([.ref (ad 0)] : List Value).toArray below meth c H locs 0 0 (MQ below (va_Qv (fun (xi : Nat → Nat → Int32) => okR loM hiM xi ∧ (True) ∧ (∀ k f : Nat, Nat.testBit 510 (gpM k f) = true → xi k f = mu k f)) (fun xi t => va_P (dC, dI) vwCl (wR 21 ad (EM cs ad) xi) t.heap) (va_A (wR 21 ad (EM cs ad) mu) s.heap.size)) ([.ref (ad 0)] : List Value).toArray s 0 0 (va_A (wR 21 ad (EM cs ad) mu) s.heap.size)) (F0 m 95 ls []) := by
                intro n95
                induction n95 with
                | zero => intro v1_95 nu95_ H locs ls hm; exact absurd hm (Nat.not_lt_zero _)
                | succ n95 ih95 =>
                  intro v1_95 nu95_ H locs ls hm_95 h_v1_95 ok hP kq95_0 hS hl
                  refine lv_iload_n hx hb dX12_mixTown_95 rfl (lv_at hl 0 rfl) ?_
                  refine lv_aload_n hx hb dX12_mixTown_96 rfl (lv_at hl 1 rfl) ?_
                  refine va_get (D := (dC, dI)) (ci := 12) (v := .int (nu95_ 0 15)) (C := RX12) (T := TX12) (N := 46) hx hb hts inG12 hown hK hP 0 (gM_0 cs ad nu95_) rfl 15 (by decide) (hts _ (List.mem_cons_of_mem _ mw_5_56)) (fun _ h9 => h9) rfl dX12_mixTown_97 ?_
                  refine lv_topi (fun y5 ey5 => ?_)
                  have by5 : y5.toInt = (nu95_ 0 15).toInt := congrArg Int32.toInt ey5
                  have gy5 : 0 ≤ y5.toInt ∧ y5.toInt ≤ 4 := by rw [ey5]; exact rM_0_15 ok
                  refine lv_icmp_ge (tgt := 153) hx hb dX12_mixTown_100 (by decide) (fun c_6 => ?_) (fun c_6 => ?_)
                  · have c_6 : y5.toInt ≤ v1_95.toInt := il_le c_6
                    refine lv_iconst (v := 0) hx hb dX12_mixTown_153 (by decide) ?_
                    refine lv_istore_n (lv' := [(1, .int 0), (0, .ref (ad 0))]) hx hb dX12_mixTown_154 rfl hl (by decide) rfl (fun ls hl => ?_)
                    have loop155 : ∀ (n155 : Nat) (v1_155 : Int32) (nu155_ : Nat → Nat → Int32) (H : Heap) (locs : List Loc) (ls : Array Slot), (3 + 1 - v1_155.toInt).toNat < n155 → (0 ≤ v1_155.toInt ∧ v1_155.toInt ≤ 3) → okR loM hiM nu155_ → va_P (dC, dI) vwCl (wR 21 ad (EM cs ad) nu155_) H → (∀ k f : Nat, Nat.testBit 510 (gpM k f) = true → nu155_ k f = mu k f) → va_S (va_A (wR 21 ad (EM cs ad) mu) s.heap.size) s.heap H locs → lv_has ls 3 [(1, .int v1_155), (0, .ref (ad 0))] → W p l e (headSpec (wU yX12_mixTown cX12_mixTown 3 none) ({ frames := 3, cells := 0, slots := 0, locals := 70 })).room s m ([.ref (ad 0)] : List Value).toArray below meth c H locs 0 0 (MQ below (va_Qv (fun (xi : Nat → Nat → Int32) => okR loM hiM xi ∧ (True) ∧ (∀ k f : Nat, Nat.testBit 510 (gpM k f) = true → xi k f = mu k f)) (fun xi t => va_P (dC, dI) vwCl (wR 21 ad (EM cs ad) xi) t.heap) (va_A (wR 21 ad (EM cs ad) mu) s.heap.size)) ([.ref (ad 0)] : List Value).toArray s 0 0 (va_A (wR 21 ad (EM cs ad) mu) s.heap.size)) (F0 m 155 ls []) := by
                      intro n155
                      induction n155 with
                      | zero => intro v1_155 nu155_ H locs ls hm; exact absurd hm (Nat.not_lt_zero _)
                      | succ n155 ih155 =>
                        intro v1_155 nu155_ H locs ls hm_155 h_v1_155 ok hP kq155_0 hS hl
                        refine lv_iload_n hx hb dX12_mixTown_155 rfl (lv_at hl 0 rfl) ?_
                        refine lv_iconst (v := 3) hx hb dX12_mixTown_156 (by decide) ?_
                        refine lv_icmp_ge (tgt := 197) hx hb dX12_mixTown_157 (by decide) (fun c_7 => ?_) (fun c_7 => ?_)
                        · have c_7 : 3 ≤ v1_155.toInt := il_le c_7
                          exact W.vret hx hb hr (fun t ht hW => ⟨⟨nu155_, rfl, ⟨ok, trivial, kq155_0⟩, by first | (subst ht; exact hP) | (rw [ht]; exact hP) | (show va_P (dC, dI) vwCl (wR 21 ad (EM cs ad) nu155_) t.heap; rw [ht]; exact hP)⟩, hS.F ht⟩) hS.2.2 dX12_mixTown_197
                        · have c_7 : v1_155.toInt < 3 := il_nle c_7
                          refine lv_aload_n hx hb dX12_mixTown_160 rfl (lv_at hl 1 rfl) ?_
                          refine lv_aload_n hx hb dX12_mixTown_161 rfl (lv_at hl 1 rfl) ?_
                          refine va_get (D := (dC, dI)) (ci := 12) (v := .ref (ad 15)) (C := RX12) (T := TX12) (N := 46) hx hb hts inG12 hown hK hP 0 (gM_0 cs ad nu155_) rfl 25 (by decide) (hts _ (List.mem_cons_of_mem _ mw_5_66)) (fun _ h9 => h9) rfl dX12_mixTown_162 ?_
                          refine lv_bipush (v := 64) hx hb dX12_mixTown_165 (by decide) ?_
                          refine lv_iload_n hx hb dX12_mixTown_167 rfl (lv_at hl 0 rfl) ?_
                          refine lv_imul hx hb dX12_mixTown_168 ?_
                          refine lv_topi (fun t8 et8 => ?_)
                          have at8 : t8.toInt = 64 * v1_155.toInt := by rw [et8]; exact tI_mul (rfl : (64 : Int32).toInt = 64) (rfl : v1_155.toInt = _) (by omega) (by omega)
                          refine va_iald hx hb hK hP 15 0 (gM_15 cs ad nu155_) rfl (show vp_in t8 192 from vi_of (by omega) (by omega)) dX12_mixTown_169 ?_
                          have hc9 : ((t8 : Int32).toNatClampNeg : Int) = t8.toInt := tC_of (by omega)
                          refine lv_topi (fun y10 ey10 => ?_)
                          have by10 : y10.toInt = (nu155_ 15 t8.toNatClampNeg).toInt := congrArg Int32.toInt ey10
                          refine lv_bipush (v := (-9)) hx hb dX12_mixTown_170 (by decide) ?_
                          refine lv_icmp_ne (tgt := 179) hx hb dX12_mixTown_172 (by decide) (fun c_11 => ?_) (fun c_11 => ?_)
                          · have c_11 : ¬ y10.toInt = -9 := il_ne c_11
                            refine lv_aload_n hx hb dX12_mixTown_179 rfl (lv_at hl 1 rfl) ?_
                            refine va_get (D := (dC, dI)) (ci := 12) (v := .ref (ad 15)) (C := RX12) (T := TX12) (N := 46) hx hb hts inG12 hown hK hP 0 (gM_0 cs ad nu155_) rfl 25 (by decide) (hts _ (List.mem_cons_of_mem _ mw_5_66)) (fun _ h9 => h9) rfl dX12_mixTown_180 ?_
                            refine lv_bipush (v := 64) hx hb dX12_mixTown_183 (by decide) ?_
                            refine lv_iload_n hx hb dX12_mixTown_185 rfl (lv_at hl 0 rfl) ?_
                            refine lv_imul hx hb dX12_mixTown_186 ?_
                            refine lv_topi (fun t12 et12 => ?_)
                            have at12 : t12.toInt = 64 * v1_155.toInt := by rw [et12]; exact tI_mul (rfl : (64 : Int32).toInt = 64) (rfl : v1_155.toInt = _) (by omega) (by omega)
                            refine va_iald hx hb hK hP 15 0 (gM_15 cs ad nu155_) rfl (show vp_in t12 192 from vi_of (by omega) (by omega)) dX12_mixTown_187 ?_
                            have hc13 : ((t12 : Int32).toNatClampNeg : Int) = t12.toInt := tC_of (by omega)
                            refine lv_topi (fun y14 ey14 => ?_)
                            have by14 : y14.toInt = (nu155_ 15 t12.toNatClampNeg).toInt := congrArg Int32.toInt ey14
                            have hFc := fr_all (wR_D nu155_ hD) hS hA
                            refine va_callv (va_runV (As := [.int y14]) (rest := []) ⟨hx, hb, hml, hown, hts⟩ (sm_mix l dC dI cs ad nu155_ ok H hP ((wR_D nu155_ hD).weaken (fun _ _ _ _ => trivial)) y14) (cwV 1 hts (wU_V mw_7_87 mw_7_84 mw_7_86 mw_0_66 mw_1_13) rfl rfl rfl (by decide +kernel) ⟨Nat.le_of_ble_eq_true rfl, Nat.le_of_ble_eq_true rfl⟩) ⟨sz_c, va_recv hK hP (ci := 12) (q0 := 0) rfl (gM_0 cs ad nu155_), sz_m hK hz⟩ rfl rfl hl.1 rfl (lv_room (Nat.le_of_ble_eq_true rfl)) dX12_mixTown_188 ⟨Nat.zero_le _, Nat.zero_le _⟩) hS (fun q _ h => hFc q h) hFc (fun xi15 t H15 locs ht hvm hw15 hB hz1 hk1 hS => ?_)
                            have hP : va_P (dC, dI) vwCl (wR 21 ad (EM cs ad) xi15) H15 := by rw [← ht]; exact hB
                            obtain ⟨ok, hw15, hkp15_0⟩ := hw15
                            have kp16 : (∀ k f : Nat, Nat.testBit 510 (gpM k f) = true → xi15 k f = mu k f) := kp_t hkp15_0 (by decide) kq155_0
                            refine lv_iinc (v := (v1_155 + 1)) (lv' := [(1, .int (v1_155 + 1)), (0, .ref (ad 0))]) hx hb dX12_mixTown_191 hl (k := 0) rfl rfl (by decide) rfl (fun ls hl => ?_)
                            refine loc_gen (P := fun w9 => lv_has ls 3 [(1, .int w9), (0, .ref (ad 0))]) (v1_155 + 1) hl (fun w17 hw17 hl => ?_)
                            have hl : lv_has ls 3 [(1, .int w17), (0, .ref (ad 0))] := hl
                            have aw17 : w17.toInt = v1_155.toInt + 1 := by rw [← hw17]; first | exact va1 (Int.lt_of_le_of_lt h_v1_155.2 (by decide)) | exact va1 (by omega)
                            refine lv_goto (tgt := 155) hx hb dX12_mixTown_194 (by decide) ?_
                            exact ih155 (w17) xi15 _ _ _ (by first | exact ms_up hm_155 aw17 h_v1_155.2 | exact ms_lt hm_155 (by omega) (by omega) | omega) (by first | exact rg_up aw17 h_v1_155 (by omega) | omega)  ok hP  kp16 hS (lv_sub hl [0, 1] rfl)
                          · have c_11 : y10.toInt = -9 := il_eq c_11
                            refine lv_iconst (v := (-1)) hx hb dX12_mixTown_175 (by decide) ?_
                            refine lv_goto (tgt := 188) hx hb dX12_mixTown_176 (by decide) ?_
                            have hFc := fr_all (wR_D nu155_ hD) hS hA
                            refine va_callv (va_runV (As := [.int (-1)]) (rest := []) ⟨hx, hb, hml, hown, hts⟩ (sm_mix l dC dI cs ad nu155_ ok H hP ((wR_D nu155_ hD).weaken (fun _ _ _ _ => trivial)) (-1)) (cwV 1 hts (wU_V mw_7_87 mw_7_84 mw_7_86 mw_0_66 mw_1_13) rfl rfl rfl (by decide +kernel) ⟨Nat.le_of_ble_eq_true rfl, Nat.le_of_ble_eq_true rfl⟩) ⟨sz_c, va_recv hK hP (ci := 12) (q0 := 0) rfl (gM_0 cs ad nu155_), sz_m hK hz⟩ rfl rfl hl.1 rfl (lv_room (Nat.le_of_ble_eq_true rfl)) dX12_mixTown_188 ⟨Nat.zero_le _, Nat.zero_le _⟩) hS (fun q _ h => hFc q h) hFc (fun xi18 t H18 locs ht hvm hw18 hB hz1 hk1 hS => ?_)
                            have hP : va_P (dC, dI) vwCl (wR 21 ad (EM cs ad) xi18) H18 := by rw [← ht]; exact hB
                            obtain ⟨ok, hw18, hkp18_0⟩ := hw18
                            have kp19 : (∀ k f : Nat, Nat.testBit 510 (gpM k f) = true → xi18 k f = mu k f) := kp_t hkp18_0 (by decide) kq155_0
                            refine lv_iinc (v := (v1_155 + 1)) (lv' := [(1, .int (v1_155 + 1)), (0, .ref (ad 0))]) hx hb dX12_mixTown_191 hl (k := 0) rfl rfl (by decide) rfl (fun ls hl => ?_)
                            refine loc_gen (P := fun w9 => lv_has ls 3 [(1, .int w9), (0, .ref (ad 0))]) (v1_155 + 1) hl (fun w20 hw20 hl => ?_)
                            have hl : lv_has ls 3 [(1, .int w20), (0, .ref (ad 0))] := hl
                            have aw20 : w20.toInt = v1_155.toInt + 1 := by rw [← hw20]; first | exact va1 (Int.lt_of_le_of_lt h_v1_155.2 (by decide)) | exact va1 (by omega)
                            refine lv_goto (tgt := 155) hx hb dX12_mixTown_194 (by decide) ?_
                            exact ih155 (w20) xi18 _ _ _ (by first | exact ms_up hm_155 aw20 h_v1_155.2 | exact ms_lt hm_155 (by omega) (by omega) | omega) (by first | exact rg_up aw20 h_v1_155 (by omega) | omega)  ok hP  kp19 hS (lv_sub hl [0, 1] rfl)
                    exact loop155 ((3 + 1 - (0 : Int32).toInt).toNat + 1) (0) nu95_ _ _ _ (Nat.lt_succ_self _) (by have h80 : (0 : Int32).toInt = 0 := rfl; exact ⟨by omega, by omega⟩)  ok hP  kq95_0 hS hl
                  · have c_6 : v1_95.toInt < y5.toInt := il_nle c_6
                    refine lv_iconst (v := 0) hx hb dX12_mixTown_103 (by decide) ?_
                    refine lv_istore_n (lv' := [(2, .int 0), (1, .int v1_95), (0, .ref (ad 0))]) hx hb dX12_mixTown_104 rfl hl (by decide) rfl (fun ls hl => ?_)
                    have loop105 : ∀ (n105 : Nat) (v2_105 : Int32) (nu105_ : Nat → Nat → Int32) (H : Heap) (locs : List Loc) (ls : Array Slot), (5 + 1 - v2_105.toInt).toNat < n105 → (0 ≤ v2_105.toInt ∧ v2_105.toInt ≤ 5) → okR loM hiM nu105_ → va_P (dC, dI) vwCl (wR 21 ad (EM cs ad) nu105_) H → (∀ k f : Nat, Nat.testBit 510 (gpM k f) = true → nu105_ k f = mu k f) → va_S (va_A (wR 21 ad (EM cs ad) mu) s.heap.size) s.heap H locs → lv_has ls 3 [(2, .int v2_105), (1, .int v1_95), (0, .ref (ad 0))] → W p l e (headSpec (wU yX12_mixTown cX12_mixTown 3 none) ({ frames := 3, cells := 0, slots := 0, locals := 70 })).room s m ([.ref (ad 0)] : List Value).toArray below meth c H locs 0 0 (MQ below (va_Qv (fun (xi : Nat → Nat → Int32) => okR loM hiM xi ∧ (True) ∧ (∀ k f : Nat, Nat.testBit 510 (gpM k f) = true → xi k f = mu k f)) (fun xi t => va_P (dC, dI) vwCl (wR 21 ad (EM cs ad) xi) t.heap) (va_A (wR 21 ad (EM cs ad) mu) s.heap.size)) ([.ref (ad 0)] : List Value).toArray s 0 0 (va_A (wR 21 ad (EM cs ad) mu) s.heap.size)) (F0 m 105 ls []) := by
                      intro n105
                      induction n105 with
                      | zero => intro v2_105 nu105_ H locs ls hm; exact absurd hm (Nat.not_lt_zero _)
                      | succ n105 ih105 =>
                        intro v2_105 nu105_ H locs ls hm_105 h_v2_105 ok hP kq105_0 hS hl
                        refine lv_iload_n hx hb dX12_mixTown_105 rfl (lv_at hl 0 rfl) ?_
                        refine lv_iconst (v := 4) hx hb dX12_mixTown_106 (by decide) ?_
                        refine lv_icmp_gt (tgt := 126) hx hb dX12_mixTown_107 (by decide) (fun c_21 => ?_) (fun c_21 => ?_)
                        · have c_21 : 4 < v2_105.toInt := il_lt c_21
                          refine lv_aload_n hx hb dX12_mixTown_126 rfl (lv_at hl 2 rfl) ?_
                          refine lv_aload_n hx hb dX12_mixTown_127 rfl (lv_at hl 2 rfl) ?_
                          refine lv_iload_n hx hb dX12_mixTown_128 rfl (lv_at hl 1 rfl) ?_
                          refine lv_iconst (v := 5) hx hb dX12_mixTown_129 (by decide) ?_
                          refine cr_i (va_runV (As := [.int v1_95, .int 5]) (rest := [.ref (ad 0)]) ⟨hx, hb, hml, hown, hts⟩ (sm_letterOf5 l dC dI cs ad nu105_ ok H hP v1_95 (by have h51 : (5 : Int32).toInt = 5 := rfl; omega)) (cwV 2 hts (wU_V mw_6_48 mw_6_45 mw_6_47 mw_0_38 mw_1_13) rfl rfl rfl (by decide +kernel) ⟨Nat.le_of_ble_eq_true rfl, Nat.le_of_ble_eq_true rfl⟩) ⟨sz_c, va_recv hK hP (ci := 12) (q0 := 0) rfl (gM_0 cs ad nu105_), sz_m hK hz⟩ rfl rfl hl.1 rfl (lv_room (Nat.le_of_ble_eq_true rfl)) dX12_mixTown_130 ⟨Nat.zero_le _, Nat.zero_le _⟩) hS (fun r22 hw22 locs hS => ?_)
                          obtain ⟨hfe22, hw22⟩ := hw22
                          have gr22 : 0 ≤ r22.toInt ∧ r22.toInt ≤ 6 := hw22
                          have hFc := fr_all (wR_D nu105_ hD) hS hA
                          refine va_callv (va_runV (As := [.int r22]) (rest := []) ⟨hx, hb, hml, hown, hts⟩ (sm_mix l dC dI cs ad nu105_ ok H hP ((wR_D nu105_ hD).weaken (fun _ _ _ _ => trivial)) r22) (cwV 1 hts (wU_V mw_7_87 mw_7_84 mw_7_86 mw_0_66 mw_1_13) rfl rfl rfl (by decide +kernel) ⟨Nat.le_of_ble_eq_true rfl, Nat.le_of_ble_eq_true rfl⟩) ⟨sz_c, va_recv hK hP (ci := 12) (q0 := 0) rfl (gM_0 cs ad nu105_), sz_m hK hz⟩ rfl rfl hl.1 rfl (lv_room (Nat.le_of_ble_eq_true rfl)) dX12_mixTown_133 ⟨Nat.zero_le _, Nat.zero_le _⟩) hS (fun q _ h => hFc q h) hFc (fun xi23 t H23 locs ht hvm hw23 hB hz1 hk1 hS => ?_)
                          have hP : va_P (dC, dI) vwCl (wR 21 ad (EM cs ad) xi23) H23 := by rw [← ht]; exact hB
                          obtain ⟨ok, hw23, hkp23_0⟩ := hw23
                          have kp24 : (∀ k f : Nat, Nat.testBit 510 (gpM k f) = true → xi23 k f = mu k f) := kp_t hkp23_0 (by decide) kq105_0
                          refine lv_aload_n hx hb dX12_mixTown_136 rfl (lv_at hl 2 rfl) ?_
                          refine lv_aload_n hx hb dX12_mixTown_137 rfl (lv_at hl 2 rfl) ?_
                          refine lv_iload_n hx hb dX12_mixTown_138 rfl (lv_at hl 1 rfl) ?_
                          refine lv_bipush (v := 6) hx hb dX12_mixTown_139 (by decide) ?_
                          refine cr_i (va_runV (As := [.int v1_95, .int 6]) (rest := [.ref (ad 0)]) ⟨hx, hb, hml, hown, hts⟩ (sm_letterOf l dC dI cs ad xi23 ok H23 hP v1_95 6 (by have h51 : (6 : Int32).toInt = 6 := rfl; omega)) (cwV 2 hts (wU_V mw_6_48 mw_6_45 mw_6_47 mw_0_38 mw_1_13) rfl rfl rfl (by decide +kernel) ⟨Nat.le_of_ble_eq_true rfl, Nat.le_of_ble_eq_true rfl⟩) ⟨sz_c, va_recv hK hP (ci := 12) (q0 := 0) rfl (gM_0 cs ad xi23), sz_m hK hz⟩ rfl rfl hl.1 rfl (lv_room (Nat.le_of_ble_eq_true rfl)) dX12_mixTown_141 ⟨Nat.zero_le _, Nat.zero_le _⟩) hS (fun r25 hw25 locs hS => ?_)
                          obtain ⟨hfe25, hw25⟩ := hw25
                          have hFc := fr_all (wR_D xi23 hD) hS hA
                          refine va_callv (va_runV (As := [.int r25]) (rest := []) ⟨hx, hb, hml, hown, hts⟩ (sm_mix l dC dI cs ad xi23 ok H23 hP ((wR_D xi23 hD).weaken (fun _ _ _ _ => trivial)) r25) (cwV 1 hts (wU_V mw_7_87 mw_7_84 mw_7_86 mw_0_66 mw_1_13) rfl rfl rfl (by decide +kernel) ⟨Nat.le_of_ble_eq_true rfl, Nat.le_of_ble_eq_true rfl⟩) ⟨sz_c, va_recv hK hP (ci := 12) (q0 := 0) rfl (gM_0 cs ad xi23), sz_m hK hz⟩ rfl rfl hl.1 rfl (lv_room (Nat.le_of_ble_eq_true rfl)) dX12_mixTown_144 ⟨Nat.zero_le _, Nat.zero_le _⟩) hS (fun q _ h => hFc q h) hFc (fun xi26 t H26 locs ht hvm hw26 hB hz1 hk1 hS => ?_)
                          have hP : va_P (dC, dI) vwCl (wR 21 ad (EM cs ad) xi26) H26 := by rw [← ht]; exact hB
                          obtain ⟨ok, hw26, hkp26_0⟩ := hw26
                          have kp27 : (∀ k f : Nat, Nat.testBit 510 (gpM k f) = true → xi26 k f = mu k f) := kp_t hkp26_0 (by decide) kp24
                          refine lv_iinc (v := (v1_95 + 1)) (lv' := [(1, .int (v1_95 + 1)), (2, .int v2_105), (0, .ref (ad 0))]) hx hb dX12_mixTown_147 hl (k := 1) rfl rfl (by decide) rfl (fun ls hl => ?_)
                          refine loc_gen (P := fun w9 => lv_has ls 3 [(1, .int w9), (2, .int v2_105), (0, .ref (ad 0))]) (v1_95 + 1) hl (fun w28 hw28 hl => ?_)
                          have hl : lv_has ls 3 [(1, .int w28), (2, .int v2_105), (0, .ref (ad 0))] := hl
                          have aw28 : w28.toInt = v1_95.toInt + 1 := by rw [← hw28]; first | exact va1 (Int.lt_of_le_of_lt h_v1_95.2 (by decide)) | exact va1 (by omega)
                          refine lv_goto (tgt := 95) hx hb dX12_mixTown_150 (by decide) ?_
                          exact ih95 (w28) xi26 _ _ _ (by first | exact ms_up hm_95 aw28 h_v1_95.2 | exact ms_lt hm_95 (by omega) (by omega) | omega) (by first | exact rg_up aw28 h_v1_95 (by omega) | omega)  ok hP  kp27 hS (lv_sub hl [0, 2] rfl)
                        · have c_21 : v2_105.toInt ≤ 4 := il_nlt c_21
                          refine lv_aload_n hx hb dX12_mixTown_110 rfl (lv_at hl 2 rfl) ?_
                          refine lv_aload_n hx hb dX12_mixTown_111 rfl (lv_at hl 2 rfl) ?_
                          refine lv_iload_n hx hb dX12_mixTown_112 rfl (lv_at hl 1 rfl) ?_
                          refine lv_iload_n hx hb dX12_mixTown_113 rfl (lv_at hl 0 rfl) ?_
                          refine cr_i (va_runV (As := [.int v1_95, .int v2_105]) (rest := [.ref (ad 0)]) ⟨hx, hb, hml, hown, hts⟩ (sm_letterTells l dC dI cs ad nu105_ ok H hP v1_95 v2_105 (by omega)) (cwV 2 hts (wU_V mw_6_146 mw_6_143 mw_6_145 mw_0_51 mw_1_13) rfl rfl rfl (by decide +kernel) ⟨Nat.le_of_ble_eq_true rfl, Nat.le_of_ble_eq_true rfl⟩) ⟨sz_c, va_recv hK hP (ci := 12) (q0 := 0) rfl (gM_0 cs ad nu105_), sz_m hK hz⟩ rfl rfl hl.1 rfl (lv_room (Nat.le_of_ble_eq_true rfl)) dX12_mixTown_114 ⟨Nat.zero_le _, Nat.zero_le _⟩) hS (fun r29 hw29 locs hS => ?_)
                          obtain ⟨hfe29, hw29⟩ := hw29
                          have hFc := fr_all (wR_D nu105_ hD) hS hA
                          refine va_callv (va_runV (As := [.int r29]) (rest := []) ⟨hx, hb, hml, hown, hts⟩ (sm_mix l dC dI cs ad nu105_ ok H hP ((wR_D nu105_ hD).weaken (fun _ _ _ _ => trivial)) r29) (cwV 1 hts (wU_V mw_7_87 mw_7_84 mw_7_86 mw_0_66 mw_1_13) rfl rfl rfl (by decide +kernel) ⟨Nat.le_of_ble_eq_true rfl, Nat.le_of_ble_eq_true rfl⟩) ⟨sz_c, va_recv hK hP (ci := 12) (q0 := 0) rfl (gM_0 cs ad nu105_), sz_m hK hz⟩ rfl rfl hl.1 rfl (lv_room (Nat.le_of_ble_eq_true rfl)) dX12_mixTown_117 ⟨Nat.zero_le _, Nat.zero_le _⟩) hS (fun q _ h => hFc q h) hFc (fun xi30 t H30 locs ht hvm hw30 hB hz1 hk1 hS => ?_)
                          have hP : va_P (dC, dI) vwCl (wR 21 ad (EM cs ad) xi30) H30 := by rw [← ht]; exact hB
                          obtain ⟨ok, hw30, hkp30_0⟩ := hw30
                          have kp31 : (∀ k f : Nat, Nat.testBit 510 (gpM k f) = true → xi30 k f = mu k f) := kp_t hkp30_0 (by decide) kq105_0
                          refine lv_iinc (v := (v2_105 + 1)) (lv' := [(2, .int (v2_105 + 1)), (1, .int v1_95), (0, .ref (ad 0))]) hx hb dX12_mixTown_120 hl (k := 0) rfl rfl (by decide) rfl (fun ls hl => ?_)
                          refine loc_gen (P := fun w9 => lv_has ls 3 [(2, .int w9), (1, .int v1_95), (0, .ref (ad 0))]) (v2_105 + 1) hl (fun w32 hw32 hl => ?_)
                          have hl : lv_has ls 3 [(2, .int w32), (1, .int v1_95), (0, .ref (ad 0))] := hl
                          have aw32 : w32.toInt = v2_105.toInt + 1 := by rw [← hw32]; first | exact va1 (Int.lt_of_le_of_lt h_v2_105.2 (by decide)) | exact va1 (by omega)
                          refine lv_goto (tgt := 105) hx hb dX12_mixTown_123 (by decide) ?_
                          exact ih105 (w32) xi30 _ _ _ (by first | exact ms_up hm_105 aw32 h_v2_105.2 | exact ms_lt hm_105 (by omega) (by omega) | omega) (by first | exact rg_up aw32 h_v2_105 (by omega) | omega)  ok hP  kp31 hS (lv_sub hl [0, 1, 2] rfl)
                    exact loop105 ((5 + 1 - (0 : Int32).toInt).toNat + 1) (0) nu95_ _ _ _ (Nat.lt_succ_self _) (by have h80 : (0 : Int32).toInt = 0 := rfl; exact ⟨by omega, by omega⟩)  ok hP  kq95_0 hS hl
              exact loop95 ((4 + 1 - (0 : Int32).toInt).toNat + 1) (0) nu41_ _ _ _ (Nat.lt_succ_self _) (by have h80 : (0 : Int32).toInt = 0 := rfl; exact ⟨by omega, by omega⟩)  ok hP  kq41_0 hS hl
            · have c_4 : v1_41.toInt < y3.toInt := il_nle c_4
              refine lv_aload_n hx hb dX12_mixTown_49 rfl (lv_at hl 1 rfl) ?_
              refine lv_aload_n hx hb dX12_mixTown_50 rfl (lv_at hl 1 rfl) ?_
              refine va_get (D := (dC, dI)) (ci := 12) (v := .ref (ad 9)) (C := RX12) (T := TX12) (N := 46) hx hb hts inG12 hown hK hP 0 (gM_0 cs ad nu41_) rfl 12 (by decide) (hts _ (List.mem_cons_of_mem _ mw_5_53)) (fun _ h9 => h9) rfl dX12_mixTown_51 ?_
              refine lv_iconst (v := 2) hx hb dX12_mixTown_54 (by decide) ?_
              refine lv_iload_n hx hb dX12_mixTown_55 rfl (lv_at hl 0 rfl) ?_
              refine lv_imul hx hb dX12_mixTown_56 ?_
              refine lv_topi (fun t33 et33 => ?_)
              have at33 : t33.toInt = 2 * v1_41.toInt := by rw [et33]; exact tI_mul (rfl : (2 : Int32).toInt = 2) (rfl : v1_41.toInt = _) (by omega) (by omega)
              refine va_iald hx hb hK hP 9 0 (gM_9 cs ad nu41_) rfl (show vp_in t33 24 from vi_of (by omega) (by omega)) dX12_mixTown_57 ?_
              refine lv_topi (fun y34 ey34 => ?_)
              have by34 : y34.toInt = (nu41_ 9 t33.toNatClampNeg).toInt := congrArg Int32.toInt ey34
              have hFc := fr_all (wR_D nu41_ hD) hS hA
              refine va_callv (va_runV (As := [.int y34]) (rest := []) ⟨hx, hb, hml, hown, hts⟩ (sm_mix l dC dI cs ad nu41_ ok H hP ((wR_D nu41_ hD).weaken (fun _ _ _ _ => trivial)) y34) (cwV 1 hts (wU_V mw_7_87 mw_7_84 mw_7_86 mw_0_66 mw_1_13) rfl rfl rfl (by decide +kernel) ⟨Nat.le_of_ble_eq_true rfl, Nat.le_of_ble_eq_true rfl⟩) ⟨sz_c, va_recv hK hP (ci := 12) (q0 := 0) rfl (gM_0 cs ad nu41_), sz_m hK hz⟩ rfl rfl hl.1 rfl (lv_room (Nat.le_of_ble_eq_true rfl)) dX12_mixTown_58 ⟨Nat.zero_le _, Nat.zero_le _⟩) hS (fun q _ h => hFc q h) hFc (fun xi35 t H35 locs ht hvm hw35 hB hz1 hk1 hS => ?_)
              have hP : va_P (dC, dI) vwCl (wR 21 ad (EM cs ad) xi35) H35 := by rw [← ht]; exact hB
              obtain ⟨ok, hw35, hkp35_0⟩ := hw35
              have kp36 : (∀ k f : Nat, Nat.testBit 510 (gpM k f) = true → xi35 k f = mu k f) := kp_t hkp35_0 (by decide) kq41_0
              refine lv_aload_n hx hb dX12_mixTown_61 rfl (lv_at hl 1 rfl) ?_
              refine lv_aload_n hx hb dX12_mixTown_62 rfl (lv_at hl 1 rfl) ?_
              refine va_get (D := (dC, dI)) (ci := 12) (v := .ref (ad 9)) (C := RX12) (T := TX12) (N := 46) hx hb hts inG12 hown hK hP 0 (gM_0 cs ad xi35) rfl 12 (by decide) (hts _ (List.mem_cons_of_mem _ mw_5_53)) (fun _ h9 => h9) rfl dX12_mixTown_63 ?_
              refine lv_iconst (v := 2) hx hb dX12_mixTown_66 (by decide) ?_
              refine lv_iload_n hx hb dX12_mixTown_67 rfl (lv_at hl 0 rfl) ?_
              refine lv_imul hx hb dX12_mixTown_68 ?_
              refine lv_topi (fun t37 et37 => ?_)
              have at37 : t37.toInt = 2 * v1_41.toInt := by rw [et37]; exact tI_mul (rfl : (2 : Int32).toInt = 2) (rfl : v1_41.toInt = _) (by omega) (by omega)
              refine lv_iconst (v := 1) hx hb dX12_mixTown_69 (by decide) ?_
              refine lv_iadd hx hb dX12_mixTown_70 ?_
              refine lv_topi (fun t38 et38 => ?_)
              have at38 : t38.toInt = t37.toInt + 1 := by rw [et38]; exact va1 (by omega)
              refine va_iald hx hb hK hP 9 0 (gM_9 cs ad xi35) rfl (show vp_in t38 24 from vi_of (by omega) (by omega)) dX12_mixTown_71 ?_
              refine lv_topi (fun y39 ey39 => ?_)
              have by39 : y39.toInt = (xi35 9 t38.toNatClampNeg).toInt := congrArg Int32.toInt ey39
              have hFc := fr_all (wR_D xi35 hD) hS hA
              refine va_callv (va_runV (As := [.int y39]) (rest := []) ⟨hx, hb, hml, hown, hts⟩ (sm_mix l dC dI cs ad xi35 ok H35 hP ((wR_D xi35 hD).weaken (fun _ _ _ _ => trivial)) y39) (cwV 1 hts (wU_V mw_7_87 mw_7_84 mw_7_86 mw_0_66 mw_1_13) rfl rfl rfl (by decide +kernel) ⟨Nat.le_of_ble_eq_true rfl, Nat.le_of_ble_eq_true rfl⟩) ⟨sz_c, va_recv hK hP (ci := 12) (q0 := 0) rfl (gM_0 cs ad xi35), sz_m hK hz⟩ rfl rfl hl.1 rfl (lv_room (Nat.le_of_ble_eq_true rfl)) dX12_mixTown_72 ⟨Nat.zero_le _, Nat.zero_le _⟩) hS (fun q _ h => hFc q h) hFc (fun xi40 t H40 locs ht hvm hw40 hB hz1 hk1 hS => ?_)
              have hP : va_P (dC, dI) vwCl (wR 21 ad (EM cs ad) xi40) H40 := by rw [← ht]; exact hB
              obtain ⟨ok, hw40, hkp40_0⟩ := hw40
              have kp41 : (∀ k f : Nat, Nat.testBit 510 (gpM k f) = true → xi40 k f = mu k f) := kp_t hkp40_0 (by decide) kp36
              refine lv_aload_n hx hb dX12_mixTown_75 rfl (lv_at hl 1 rfl) ?_
              refine lv_aload_n hx hb dX12_mixTown_76 rfl (lv_at hl 1 rfl) ?_
              refine va_get (D := (dC, dI)) (ci := 12) (v := .int (xi40 0 13)) (C := RX12) (T := TX12) (N := 46) hx hb hts inG12 hown hK hP 0 (gM_0 cs ad xi40) rfl 13 (by decide) (hts _ (List.mem_cons_of_mem _ mw_5_54)) (fun _ h9 => h9) rfl dX12_mixTown_77 ?_
              refine lv_topi (fun y42 ey42 => ?_)
              have by42 : y42.toInt = (xi40 0 13).toInt := congrArg Int32.toInt ey42
              refine lv_iload_n hx hb dX12_mixTown_80 rfl (lv_at hl 0 rfl) ?_
              refine lv_ishr hx hb dX12_mixTown_81 ?_
              refine lv_topi (fun t43 et43 => ?_)
              refine lv_iconst (v := 1) hx hb dX12_mixTown_82 (by decide) ?_
              refine lv_iand hx hb dX12_mixTown_83 ?_
              refine lv_topi (fun t44 et44 => ?_)
              have hFc := fr_all (wR_D xi40 hD) hS hA
              refine va_callv (va_runV (As := [.int t44]) (rest := []) ⟨hx, hb, hml, hown, hts⟩ (sm_mix l dC dI cs ad xi40 ok H40 hP ((wR_D xi40 hD).weaken (fun _ _ _ _ => trivial)) t44) (cwV 1 hts (wU_V mw_7_87 mw_7_84 mw_7_86 mw_0_66 mw_1_13) rfl rfl rfl (by decide +kernel) ⟨Nat.le_of_ble_eq_true rfl, Nat.le_of_ble_eq_true rfl⟩) ⟨sz_c, va_recv hK hP (ci := 12) (q0 := 0) rfl (gM_0 cs ad xi40), sz_m hK hz⟩ rfl rfl hl.1 rfl (lv_room (Nat.le_of_ble_eq_true rfl)) dX12_mixTown_84 ⟨Nat.zero_le _, Nat.zero_le _⟩) hS (fun q _ h => hFc q h) hFc (fun xi45 t H45 locs ht hvm hw45 hB hz1 hk1 hS => ?_)
              have hP : va_P (dC, dI) vwCl (wR 21 ad (EM cs ad) xi45) H45 := by rw [← ht]; exact hB
              obtain ⟨ok, hw45, hkp45_0⟩ := hw45
              have kp46 : (∀ k f : Nat, Nat.testBit 510 (gpM k f) = true → xi45 k f = mu k f) := kp_t hkp45_0 (by decide) kp41
              refine lv_iinc (v := (v1_41 + 1)) (lv' := [(1, .int (v1_41 + 1)), (0, .ref (ad 0))]) hx hb dX12_mixTown_87 hl (k := 0) rfl rfl (by decide) rfl (fun ls hl => ?_)
              refine loc_gen (P := fun w9 => lv_has ls 3 [(1, .int w9), (0, .ref (ad 0))]) (v1_41 + 1) hl (fun w47 hw47 hl => ?_)
              have hl : lv_has ls 3 [(1, .int w47), (0, .ref (ad 0))] := hl
              have aw47 : w47.toInt = v1_41.toInt + 1 := by rw [← hw47]; first | exact va1 (Int.lt_of_le_of_lt h_v1_41.2 (by decide)) | exact va1 (by omega)
              refine lv_goto (tgt := 41) hx hb dX12_mixTown_90 (by decide) ?_
              exact ih41 (w47) xi45 _ _ _ (by first | exact ms_up hm_41 aw47 h_v1_41.2 | exact ms_lt hm_41 (by omega) (by omega) | omega) (by first | exact rg_up aw47 h_v1_41 (by omega) | omega)  ok hP  kp46 hS (lv_sub hl [0, 1] rfl)
        exact loop41 ((12 + 1 - (0 : Int32).toInt).toNat + 1) (0) nu2_ _ _ _ (Nat.lt_succ_self _) (by have h80 : (0 : Int32).toInt = 0 := rfl; exact ⟨by omega, by omega⟩)  ok hP  kq2_0 hS hl
      · have c_2 : v1_2.toInt < y1.toInt := il_nle c_2
        refine lv_iconst (v := 0) hx hb dX12_mixTown_10 (by decide) ?_
        refine lv_istore_n (lv' := [(2, .int 0), (1, .int v1_2), (0, .ref (ad 0))]) hx hb dX12_mixTown_11 rfl hl (by decide) rfl (fun ls hl => ?_)
        have loop12 : ∀ (n12 : Nat) (v2_12 : Int32) (nu12_ : Nat → Nat → Int32) (H : Heap) (locs : List Loc) (ls : Array Slot), (4 + 1 - v2_12.toInt).toNat < n12 → (0 ≤ v2_12.toInt ∧ v2_12.toInt ≤ 4) → okR loM hiM nu12_ → va_P (dC, dI) vwCl (wR 21 ad (EM cs ad) nu12_) H → (∀ k f : Nat, Nat.testBit 510 (gpM k f) = true → nu12_ k f = mu k f) → va_S (va_A (wR 21 ad (EM cs ad) mu) s.heap.size) s.heap H locs → lv_has ls 3 [(2, .int v2_12), (1, .int v1_2), (0, .ref (ad 0))] → W p l e (headSpec (wU yX12_mixTown cX12_mixTown 3 none) ({ frames := 3, cells := 0, slots := 0, locals := 70 })).room s m ([.ref (ad 0)] : List Value).toArray below meth c H locs 0 0 (MQ below (va_Qv (fun (xi : Nat → Nat → Int32) => okR loM hiM xi ∧ (True) ∧ (∀ k f : Nat, Nat.testBit 510 (gpM k f) = true → xi k f = mu k f)) (fun xi t => va_P (dC, dI) vwCl (wR 21 ad (EM cs ad) xi) t.heap) (va_A (wR 21 ad (EM cs ad) mu) s.heap.size)) ([.ref (ad 0)] : List Value).toArray s 0 0 (va_A (wR 21 ad (EM cs ad) mu) s.heap.size)) (F0 m 12 ls []) := by
          intro n12
          induction n12 with
          | zero => intro v2_12 nu12_ H locs ls hm; exact absurd hm (Nat.not_lt_zero _)
          | succ n12 ih12 =>
            intro v2_12 nu12_ H locs ls hm_12 h_v2_12 ok hP kq12_0 hS hl
            refine lv_iload_n hx hb dX12_mixTown_12 rfl (lv_at hl 0 rfl) ?_
            refine lv_iconst (v := 3) hx hb dX12_mixTown_13 (by decide) ?_
            refine lv_icmp_gt (tgt := 33) hx hb dX12_mixTown_14 (by decide) (fun c_48 => ?_) (fun c_48 => ?_)
            · have c_48 : 3 < v2_12.toInt := il_lt c_48
              refine lv_iinc (v := (v1_2 + 1)) (lv' := [(1, .int (v1_2 + 1)), (2, .int v2_12), (0, .ref (ad 0))]) hx hb dX12_mixTown_33 hl (k := 1) rfl rfl (by decide) rfl (fun ls hl => ?_)
              refine loc_gen (P := fun w9 => lv_has ls 3 [(1, .int w9), (2, .int v2_12), (0, .ref (ad 0))]) (v1_2 + 1) hl (fun w49 hw49 hl => ?_)
              have hl : lv_has ls 3 [(1, .int w49), (2, .int v2_12), (0, .ref (ad 0))] := hl
              have aw49 : w49.toInt = v1_2.toInt + 1 := by rw [← hw49]; first | exact va1 (Int.lt_of_le_of_lt h_v1_2.2 (by decide)) | exact va1 (by omega)
              refine lv_goto (tgt := 2) hx hb dX12_mixTown_36 (by decide) ?_
              exact ih2 (w49) nu12_ _ _ _ (by first | exact ms_up hm_2 aw49 h_v1_2.2 | exact ms_lt hm_2 (by omega) (by omega) | omega) (by first | exact rg_up aw49 h_v1_2 (by omega) | omega)  ok hP  kq12_0 hS (lv_sub hl [0, 2] rfl)
            · have c_48 : v2_12.toInt ≤ 3 := il_nlt c_48
              refine lv_aload_n hx hb dX12_mixTown_17 rfl (lv_at hl 2 rfl) ?_
              refine lv_aload_n hx hb dX12_mixTown_18 rfl (lv_at hl 2 rfl) ?_
              refine lv_iload_n hx hb dX12_mixTown_19 rfl (lv_at hl 1 rfl) ?_
              refine lv_iload_n hx hb dX12_mixTown_20 rfl (lv_at hl 0 rfl) ?_
              refine cr_i (va_runV (As := [.int v1_2, .int v2_12]) (rest := [.ref (ad 0)]) ⟨hx, hb, hml, hown, hts⟩ (sm_bearerOf l dC dI cs ad nu12_ ok H hP v1_2 v2_12 (by omega)) (cwV 2 hts (wU_V mw_6_44 mw_6_41 mw_6_43 mw_0_37 mw_1_13) rfl rfl rfl (by decide +kernel) ⟨Nat.le_of_ble_eq_true rfl, Nat.le_of_ble_eq_true rfl⟩) ⟨sz_c, va_recv hK hP (ci := 12) (q0 := 0) rfl (gM_0 cs ad nu12_), sz_m hK hz⟩ rfl rfl hl.1 rfl (lv_room (Nat.le_of_ble_eq_true rfl)) dX12_mixTown_21 ⟨Nat.zero_le _, Nat.zero_le _⟩) hS (fun r50 hw50 locs hS => ?_)
              obtain ⟨hfe50, hw50⟩ := hw50
              have hFc := fr_all (wR_D nu12_ hD) hS hA
              refine va_callv (va_runV (As := [.int r50]) (rest := []) ⟨hx, hb, hml, hown, hts⟩ (sm_mix l dC dI cs ad nu12_ ok H hP ((wR_D nu12_ hD).weaken (fun _ _ _ _ => trivial)) r50) (cwV 1 hts (wU_V mw_7_87 mw_7_84 mw_7_86 mw_0_66 mw_1_13) rfl rfl rfl (by decide +kernel) ⟨Nat.le_of_ble_eq_true rfl, Nat.le_of_ble_eq_true rfl⟩) ⟨sz_c, va_recv hK hP (ci := 12) (q0 := 0) rfl (gM_0 cs ad nu12_), sz_m hK hz⟩ rfl rfl hl.1 rfl (lv_room (Nat.le_of_ble_eq_true rfl)) dX12_mixTown_24 ⟨Nat.zero_le _, Nat.zero_le _⟩) hS (fun q _ h => hFc q h) hFc (fun xi51 t H51 locs ht hvm hw51 hB hz1 hk1 hS => ?_)
              have hP : va_P (dC, dI) vwCl (wR 21 ad (EM cs ad) xi51) H51 := by rw [← ht]; exact hB
              obtain ⟨ok, hw51, hkp51_0⟩ := hw51
              have kp52 : (∀ k f : Nat, Nat.testBit 510 (gpM k f) = true → xi51 k f = mu k f) := kp_t hkp51_0 (by decide) kq12_0
              refine lv_iinc (v := (v2_12 + 1)) (lv' := [(2, .int (v2_12 + 1)), (1, .int v1_2), (0, .ref (ad 0))]) hx hb dX12_mixTown_27 hl (k := 0) rfl rfl (by decide) rfl (fun ls hl => ?_)
              refine loc_gen (P := fun w9 => lv_has ls 3 [(2, .int w9), (1, .int v1_2), (0, .ref (ad 0))]) (v2_12 + 1) hl (fun w53 hw53 hl => ?_)
              have hl : lv_has ls 3 [(2, .int w53), (1, .int v1_2), (0, .ref (ad 0))] := hl
              have aw53 : w53.toInt = v2_12.toInt + 1 := by rw [← hw53]; first | exact va1 (Int.lt_of_le_of_lt h_v2_12.2 (by decide)) | exact va1 (by omega)
              refine lv_goto (tgt := 12) hx hb dX12_mixTown_30 (by decide) ?_
              exact ih12 (w53) xi51 _ _ _ (by first | exact ms_up hm_12 aw53 h_v2_12.2 | exact ms_lt hm_12 (by omega) (by omega) | omega) (by first | exact rg_up aw53 h_v2_12 (by omega) | omega)  ok hP  kp52 hS (lv_sub hl [0, 1, 2] rfl)
        exact loop12 ((4 + 1 - (0 : Int32).toInt).toNat + 1) (0) nu2_ _ _ _ (Nat.lt_succ_self _) (by have h80 : (0 : Int32).toInt = 0 := rfl; exact ⟨by omega, by omega⟩)  ok hP  kq2_0 hS hl
  exact loop2 ((7 + 1 - (0 : Int32).toInt).toNat + 1) (0) mu _ _ _ (Nat.lt_succ_self _) (by have h80 : (0 : Int32).toInt = 0 := rfl; exact ⟨by omega, by omega⟩)  ok hP  (fun _ _ _ => rfl) hS hl
set_option maxHeartbeats 4000000 in
set_option maxRecDepth 100000 in
/-- qm_digest -/
theorem qm_digest (l : Launch) (dC : Nat → ClassId) (dI : Nat → Nat → Nat) (cs : Nat → ClassId) (ad : Nat → Nat) (mu : Nat → Nat → Int32) (ok : okR loM hiM mu) (H : Heap) (hP : va_P (dC, dI) vwCl (wR 21 ad (EM cs ad) mu) H) (hD0 : va_D (fun _ => True) (wR 21 ad (EM cs ad) mu)) : Met l yX12_digest (wU yX12_digest cX12_digest 3 (some .long)) ({ frames := 4, cells := 0, slots := 0, locals := 92 }) (va_Pc [.ref (ad 0)] (sz_P (dC, dI) vwCl (tyM cs) H)) (va_Ql (fun (z : Int64) (xi : Nat → Nat → Int32) => okR loM hiM xi ∧ (True) ∧ (∀ k f : Nat, Nat.testBit 510 (gpM k f) = true → xi k f = mu k f)) (fun xi t => va_P (dC, dI) vwCl (wR 21 ad (EM cs ad) xi) t.heap) (va_A (wR 21 ad (EM cs ad) mu) H.size)) 0 0 (va_A (wR 21 ad (EM cs ad) mu) H.size) := by
  refine Met.ofW (cc := cX12_digest) (maxL := 3) (ret := (some .long)) (by decide) rfl ?_
  intro p e s m args below meth c s₁ B hml hv
  obtain ⟨rfl, hh, hK, hz⟩ := hv
  have hx := B.exec
  have hb := B.bytes
  have hr := B.returns
  have hts := atoms_spec (ws := (wU yX12_digest cX12_digest 3 (some .long))) B.pre
  have hown : s.vm.findClass RX12 = some m.cls := findClass_of_methodNamed B.named
  have hlocks := B.notSynchronized
  subst hh
  have hD := hD0.self (sz := s.heap.size)
  have hA : ∀ q : Nat, s.heap.size ≤ q → (va_A (wR 21 ad (EM cs ad) mu) s.heap.size) q := fun q h => Or.inr h
  have hS : va_S (va_A (wR 21 ad (EM cs ad) mu) s.heap.size) s.heap s.heap [] := va_S.rf
  have hl := lv_entry ([.ref (ad 0)]) (n := 3) (Nat.le_of_ble_eq_true rfl)
  rw [lg_entry_eq]
  generalize (lg_sl ([.ref (ad 0)]) ++ List.replicate (3 - (lg_sl ([.ref (ad 0)])).length) Slot.unset).toArray = ls at hl ⊢
  have hl : lv_has ls 3 [(0, .ref (ad 0))] := hl
  refine lv_aload_n hx hb dX12_digest_0 rfl (lv_at hl 0 rfl) ?_
  refine lv_ldc2 (v := 17) hx hb hown (hts _ (List.mem_cons_of_mem _ mw_7_83)) dX12_digest_1 ?_
  refine va_put (D := (dC, dI)) (ci := 12) (v := .long 17) (ty := .long) (C := RX12) (T := TX12) (N := 46) hx hb hts inG12 tyX12 tyX12_ok nmX12 hown hK hP (wR_D mu hD) hS 0 (gM_0 cs ad mu) rfl 45 (by decide) (hts _ (List.mem_cons_of_mem _ mw_5_86)) (fun _ h9 => h9) rfl (by decide +kernel) rfl rfl (Nat.le_of_ble_eq_true rfl) dX12_digest_4 (fun H locs hP _ hS => ?_)
  simp only [List.set_cons_succ, List.set_cons_zero] at hP
  obtain ⟨ja1, jb1, hj1⟩ := jn_of (17)
  rw [← hj1] at hP
  refine wr_gen (upd (upd (mu 0) 45 ja1) 46 jb1) hP rfl (fun nu2 hn2 hP => ?_)
  have ok := okR_2 (k := 0) (f := 45) (g := 46) (a := ja1) (b := jb1) ok (tI_lo _) (tI_hi _) (tI_lo _) (tI_hi _) hn2
  have kp3 : (∀ k f : Nat, Nat.testBit 510 (gpM k f) = true → nu2 k f = mu k f) := kp_2 hn2 (by decide) (by decide) (fun _ _ _ => rfl)
  refine lv_iconst (v := 0) hx hb dX12_digest_7 (by decide) ?_
  refine lv_istore_n (lv' := [(1, .int 0), (0, .ref (ad 0))]) hx hb dX12_digest_8 rfl hl (by decide) rfl (fun ls hl => ?_)
  have loop9 : ∀ (n9 : Nat) (v1_9 : Int32) (nu9_ : Nat → Nat → Int32) (H : Heap) (locs : List Loc) (ls : Array Slot), (9 + 1 - v1_9.toInt).toNat < n9 → (0 ≤ v1_9.toInt ∧ v1_9.toInt ≤ 9) → okR loM hiM nu9_ → va_P (dC, dI) vwCl (wR 21 ad (EM cs ad) nu9_) H → (∀ k f : Nat, Nat.testBit 510 (gpM k f) = true → nu9_ k f = mu k f) → va_S (va_A (wR 21 ad (EM cs ad) mu) s.heap.size) s.heap H locs → lv_has ls 3 [(1, .int v1_9), (0, .ref (ad 0))] → W p l e (headSpec (wU yX12_digest cX12_digest 3 (some .long)) ({ frames := 4, cells := 0, slots := 0, locals := 92 })).room s m ([.ref (ad 0)] : List Value).toArray below meth c H locs 0 0 (MQ below (va_Ql (fun (z : Int64) (xi : Nat → Nat → Int32) => okR loM hiM xi ∧ (True) ∧ (∀ k f : Nat, Nat.testBit 510 (gpM k f) = true → xi k f = mu k f)) (fun xi t => va_P (dC, dI) vwCl (wR 21 ad (EM cs ad) xi) t.heap) (va_A (wR 21 ad (EM cs ad) mu) s.heap.size)) ([.ref (ad 0)] : List Value).toArray s 0 0 (va_A (wR 21 ad (EM cs ad) mu) s.heap.size)) (F0 m 9 ls []) := by
    intro n9
    induction n9 with
    | zero => intro v1_9 nu9_ H locs ls hm; exact absurd hm (Nat.not_lt_zero _)
    | succ n9 ih9 =>
      intro v1_9 nu9_ H locs ls hm_9 h_v1_9 ok hP kq9_0 hS hl
      refine lv_iload_n hx hb dX12_digest_9 rfl (lv_at hl 0 rfl) ?_
      refine lv_bipush (v := 8) hx hb dX12_digest_10 (by decide) ?_
      refine lv_icmp_gt (tgt := 30) hx hb dX12_digest_12 (by decide) (fun c_4 => ?_) (fun c_4 => ?_)
      · have c_4 : 8 < v1_9.toInt := il_lt c_4
        refine lv_aload_n hx hb dX12_digest_30 rfl (lv_at hl 1 rfl) ?_
        have hFc := fr_all (wR_D nu9_ hD) hS hA
        refine va_callv (va_runV (As := []) (rest := []) ⟨hx, hb, hml, hown, hts⟩ (sm_mixTown l dC dI cs ad nu9_ ok H hP ((wR_D nu9_ hD).weaken (fun _ _ _ _ => trivial))) (cwV 0 hts (wU_V mw_7_92 mw_7_89 mw_7_91 mw_0_67 mw_1_13) rfl rfl rfl (by decide +kernel) ⟨Nat.le_of_ble_eq_true rfl, Nat.le_of_ble_eq_true rfl⟩) ⟨sz_c, va_recv hK hP (ci := 12) (q0 := 0) rfl (gM_0 cs ad nu9_), sz_m hK hz⟩ rfl rfl hl.1 rfl (lv_room (Nat.le_of_ble_eq_true rfl)) dX12_digest_31 ⟨Nat.zero_le _, Nat.zero_le _⟩) hS (fun q _ h => hFc q h) hFc (fun xi5 t H5 locs ht hvm hw5 hB hz1 hk1 hS => ?_)
        have hP : va_P (dC, dI) vwCl (wR 21 ad (EM cs ad) xi5) H5 := by rw [← ht]; exact hB
        obtain ⟨ok, hw5, hkp5_0⟩ := hw5
        have kp6 : (∀ k f : Nat, Nat.testBit 510 (gpM k f) = true → xi5 k f = mu k f) := kp_t hkp5_0 (by decide) kq9_0
        refine lv_iconst (v := 0) hx hb dX12_digest_34 (by decide) ?_
        refine lv_istore_n (lv' := [(1, .int 0), (0, .ref (ad 0))]) hx hb dX12_digest_35 rfl hl (by decide) rfl (fun ls hl => ?_)
        have loop36 : ∀ (n36 : Nat) (v1_36 : Int32) (nu36_ : Nat → Nat → Int32) (H : Heap) (locs : List Loc) (ls : Array Slot), (6 + 1 - v1_36.toInt).toNat < n36 → (0 ≤ v1_36.toInt ∧ v1_36.toInt ≤ 6) → okR loM hiM nu36_ → va_P (dC, dI) vwCl (wR 21 ad (EM cs ad) nu36_) H → (∀ k f : Nat, Nat.testBit 510 (gpM k f) = true → nu36_ k f = mu k f) → va_S (va_A (wR 21 ad (EM cs ad) mu) s.heap.size) s.heap H locs → lv_has ls 3 [(1, .int v1_36), (0, .ref (ad 0))] → W p l e (headSpec (wU yX12_digest cX12_digest 3 (some .long)) ({ frames := 4, cells := 0, slots := 0, locals := 92 })).room s m ([.ref (ad 0)] : List Value).toArray below meth c H locs 0 0 (MQ below (va_Ql (fun (z : Int64) (xi : Nat → Nat → Int32) => okR loM hiM xi ∧ (True) ∧ (∀ k f : Nat, Nat.testBit 510 (gpM k f) = true → xi k f = mu k f)) (fun xi t => va_P (dC, dI) vwCl (wR 21 ad (EM cs ad) xi) t.heap) (va_A (wR 21 ad (EM cs ad) mu) s.heap.size)) ([.ref (ad 0)] : List Value).toArray s 0 0 (va_A (wR 21 ad (EM cs ad) mu) s.heap.size)) (F0 m 36 ls []) := by
          intro n36
          induction n36 with
          | zero => intro v1_36 nu36_ H locs ls hm; exact absurd hm (Nat.not_lt_zero _)
          | succ n36 ih36 =>
            intro v1_36 nu36_ H locs ls hm_36 h_v1_36 ok hP kq36_0 hS hl
            refine lv_iload_n hx hb dX12_digest_36 rfl (lv_at hl 0 rfl) ?_
            refine lv_bipush (v := 6) hx hb dX12_digest_37 (by decide) ?_
            refine lv_icmp_ge (tgt := 99) hx hb dX12_digest_39 (by decide) (fun c_7 => ?_) (fun c_7 => ?_)
            · have c_7 : 6 ≤ v1_36.toInt := il_le c_7
              refine lv_iconst (v := 0) hx hb dX12_digest_99 (by decide) ?_
              refine lv_istore_n (lv' := [(1, .int 0), (0, .ref (ad 0))]) hx hb dX12_digest_100 rfl hl (by decide) rfl (fun ls hl => ?_)
              have loop101 : ∀ (n101 : Nat) (v1_101 : Int32) (nu101_ : Nat → Nat → Int32) (H : Heap) (locs : List Loc) (ls : Array Slot), (4 + 1 - v1_101.toInt).toNat < n101 → (0 ≤ v1_101.toInt ∧ v1_101.toInt ≤ 4) → okR loM hiM nu101_ → va_P (dC, dI) vwCl (wR 21 ad (EM cs ad) nu101_) H → (∀ k f : Nat, Nat.testBit 510 (gpM k f) = true → nu101_ k f = mu k f) → va_S (va_A (wR 21 ad (EM cs ad) mu) s.heap.size) s.heap H locs → lv_has ls 3 [(1, .int v1_101), (0, .ref (ad 0))] → W p l e (headSpec (wU yX12_digest cX12_digest 3 (some .long)) ({ frames := 4, cells := 0, slots := 0, locals := 92 })).room s m ([.ref (ad 0)] : List Value).toArray below meth c H locs 0 0 (MQ below (va_Ql (fun (z : Int64) (xi : Nat → Nat → Int32) => okR loM hiM xi ∧ (True) ∧ (∀ k f : Nat, Nat.testBit 510 (gpM k f) = true → xi k f = mu k f)) (fun xi t => va_P (dC, dI) vwCl (wR 21 ad (EM cs ad) xi) t.heap) (va_A (wR 21 ad (EM cs ad) mu) s.heap.size)) ([.ref (ad 0)] : List Value).toArray s 0 0 (va_A (wR 21 ad (EM cs ad) mu) s.heap.size)) (F0 m 101 ls []) := by
                intro n101
                induction n101 with
                | zero => intro v1_101 nu101_ H locs ls hm; exact absurd hm (Nat.not_lt_zero _)
                | succ n101 ih101 =>
                  intro v1_101 nu101_ H locs ls hm_101 h_v1_101 ok hP kq101_0 hS hl
                  refine lv_iload_n hx hb dX12_digest_101 rfl (lv_at hl 0 rfl) ?_
                  refine lv_iconst (v := 4) hx hb dX12_digest_102 (by decide) ?_
                  refine lv_icmp_ge (tgt := 168) hx hb dX12_digest_103 (by decide) (fun c_8 => ?_) (fun c_8 => ?_)
                  · have c_8 : 4 ≤ v1_101.toInt := il_le c_8
                    refine lv_aload_n hx hb dX12_digest_168 rfl (lv_at hl 1 rfl) ?_
                    refine va_get (D := (dC, dI)) (ci := 12) (v := .long (jn (nu101_ 0 45) (nu101_ 0 46))) (C := RX12) (T := TX12) (N := 46) hx hb hts inG12 hown hK hP 0 (gM_0 cs ad nu101_) rfl 45 (by decide) (hts _ (List.mem_cons_of_mem _ mw_5_86)) (fun _ h9 => h9) rfl dX12_digest_169 ?_
                    refine lv_topl (fun l9 el9 => ?_)
                    exact W.lret (v := l9) hx hb hr (fun t ht hW => ⟨⟨l9, nu101_, rfl, ⟨ok, trivial, kq101_0⟩, by first | (subst ht; exact hP) | (rw [ht]; exact hP) | (show va_P (dC, dI) vwCl (wR 21 ad (EM cs ad) nu101_) t.heap; rw [ht]; exact hP)⟩, hS.F ht⟩) hS.2.2 dX12_digest_172
                  · have c_8 : v1_101.toInt < 4 := il_nle c_8
                    refine lv_aload_n hx hb dX12_digest_106 rfl (lv_at hl 1 rfl) ?_
                    refine lv_aload_n hx hb dX12_digest_107 rfl (lv_at hl 1 rfl) ?_
                    refine va_get (D := (dC, dI)) (ci := 12) (v := .ref (ad 5)) (C := RX12) (T := TX12) (N := 46) hx hb hts inG12 hown hK hP 0 (gM_0 cs ad nu101_) rfl 6 (by decide) (hts _ (List.mem_cons_of_mem _ mw_5_47)) (fun _ h9 => h9) rfl dX12_digest_108 ?_
                    refine lv_iload_n hx hb dX12_digest_111 rfl (lv_at hl 0 rfl) ?_
                    refine va_iald hx hb hK hP 5 0 (gM_5 cs ad nu101_) rfl (show vp_in v1_101 4 from vi_of (by omega) (by omega)) dX12_digest_112 ?_
                    refine lv_topi (fun y10 ey10 => ?_)
                    have by10 : y10.toInt = (nu101_ 5 v1_101.toNatClampNeg).toInt := congrArg Int32.toInt ey10
                    have gy10 : -9 ≤ y10.toInt ∧ y10.toInt ≤ 80 := by rw [ey10]; exact rM_5_s ok v1_101.toNatClampNeg
                    refine lv_if_ge (tgt := 120) hx hb dX12_digest_113 (by decide) (fun c_11 => ?_) (fun c_11 => ?_)
                    · have c_11 : 0 ≤ y10.toInt := il_le c_11
                      refine lv_aload_n hx hb dX12_digest_120 rfl (lv_at hl 1 rfl) ?_
                      refine va_get (D := (dC, dI)) (ci := 12) (v := .ref (ad 5)) (C := RX12) (T := TX12) (N := 46) hx hb hts inG12 hown hK hP 0 (gM_0 cs ad nu101_) rfl 6 (by decide) (hts _ (List.mem_cons_of_mem _ mw_5_47)) (fun _ h9 => h9) rfl dX12_digest_121 ?_
                      refine lv_iload_n hx hb dX12_digest_124 rfl (lv_at hl 0 rfl) ?_
                      refine va_iald hx hb hK hP 5 0 (gM_5 cs ad nu101_) rfl (show vp_in v1_101 4 from vi_of (by omega) (by omega)) dX12_digest_125 ?_
                      refine lq_i y10 ey10.symm ?_
                      have hFc := fr_all (wR_D nu101_ hD) hS hA
                      refine va_callv (va_runV (As := [.int y10]) (rest := []) ⟨hx, hb, hml, hown, hts⟩ (sm_mix l dC dI cs ad nu101_ ok H hP ((wR_D nu101_ hD).weaken (fun _ _ _ _ => trivial)) y10) (cwV 1 hts (wU_V mw_7_87 mw_7_84 mw_7_86 mw_0_66 mw_1_13) rfl rfl rfl (by decide +kernel) ⟨Nat.le_of_ble_eq_true rfl, Nat.le_of_ble_eq_true rfl⟩) ⟨sz_c, va_recv hK hP (ci := 12) (q0 := 0) rfl (gM_0 cs ad nu101_), sz_m hK hz⟩ rfl rfl hl.1 rfl (lv_room (Nat.le_of_ble_eq_true rfl)) dX12_digest_126 ⟨Nat.zero_le _, Nat.zero_le _⟩) hS (fun q _ h => hFc q h) hFc (fun xi12 t H12 locs ht hvm hw12 hB hz1 hk1 hS => ?_)
                      have hP : va_P (dC, dI) vwCl (wR 21 ad (EM cs ad) xi12) H12 := by rw [← ht]; exact hB
                      obtain ⟨ok, hw12, hkp12_0⟩ := hw12
                      have kp13 : (∀ k f : Nat, Nat.testBit 510 (gpM k f) = true → xi12 k f = mu k f) := kp_t hkp12_0 (by decide) kq101_0
                      refine lv_iconst (v := 0) hx hb dX12_digest_129 (by decide) ?_
                      refine lv_istore_n (lv' := [(2, .int 0), (1, .int v1_101), (0, .ref (ad 0))]) hx hb dX12_digest_130 rfl hl (by decide) rfl (fun ls hl => ?_)
                      have loop131 : ∀ (n131 : Nat) (v2_131 : Int32) (nu131_ : Nat → Nat → Int32) (H : Heap) (locs : List Loc) (ls : Array Slot), (80 + 1 - v2_131.toInt).toNat < n131 → (0 ≤ v2_131.toInt ∧ v2_131.toInt ≤ 80) → okR loM hiM nu131_ → va_P (dC, dI) vwCl (wR 21 ad (EM cs ad) nu131_) H → (∀ k f : Nat, Nat.testBit 510 (gpM k f) = true → nu131_ k f = mu k f) → va_S (va_A (wR 21 ad (EM cs ad) mu) s.heap.size) s.heap H locs → lv_has ls 3 [(2, .int v2_131), (1, .int v1_101), (0, .ref (ad 0))] → W p l e (headSpec (wU yX12_digest cX12_digest 3 (some .long)) ({ frames := 4, cells := 0, slots := 0, locals := 92 })).room s m ([.ref (ad 0)] : List Value).toArray below meth c H locs 0 0 (MQ below (va_Ql (fun (z : Int64) (xi : Nat → Nat → Int32) => okR loM hiM xi ∧ (True) ∧ (∀ k f : Nat, Nat.testBit 510 (gpM k f) = true → xi k f = mu k f)) (fun xi t => va_P (dC, dI) vwCl (wR 21 ad (EM cs ad) xi) t.heap) (va_A (wR 21 ad (EM cs ad) mu) s.heap.size)) ([.ref (ad 0)] : List Value).toArray s 0 0 (va_A (wR 21 ad (EM cs ad) mu) s.heap.size)) (F0 m 131 ls []) := by
                        intro n131
                        induction n131 with
                        | zero => intro v2_131 nu131_ H locs ls hm; exact absurd hm (Nat.not_lt_zero _)
                        | succ n131 ih131 =>
                          intro v2_131 nu131_ H locs ls hm_131 h_v2_131 ok hP kq131_0 hS hl
                          refine lv_iload_n hx hb dX12_digest_131 rfl (lv_at hl 0 rfl) ?_
                          refine lv_aload_n hx hb dX12_digest_132 rfl (lv_at hl 2 rfl) ?_
                          refine va_get (D := (dC, dI)) (ci := 12) (v := .ref (ad 5)) (C := RX12) (T := TX12) (N := 46) hx hb hts inG12 hown hK hP 0 (gM_0 cs ad nu131_) rfl 6 (by decide) (hts _ (List.mem_cons_of_mem _ mw_5_47)) (fun _ h9 => h9) rfl dX12_digest_133 ?_
                          refine lv_iload_n hx hb dX12_digest_136 rfl (lv_at hl 1 rfl) ?_
                          refine va_iald hx hb hK hP 5 0 (gM_5 cs ad nu131_) rfl (show vp_in v1_101 4 from vi_of (by omega) (by omega)) dX12_digest_137 ?_
                          refine lv_topi (fun y14 ey14 => ?_)
                          have by14 : y14.toInt = (nu131_ 5 v1_101.toNatClampNeg).toInt := congrArg Int32.toInt ey14
                          have gy14 : -9 ≤ y14.toInt ∧ y14.toInt ≤ 80 := by rw [ey14]; exact rM_5_s ok v1_101.toNatClampNeg
                          refine lv_icmp_ge (tgt := 162) hx hb dX12_digest_138 (by decide) (fun c_15 => ?_) (fun c_15 => ?_)
                          · have c_15 : y14.toInt ≤ v2_131.toInt := il_le c_15
                            refine lv_iinc (v := (v1_101 + 1)) (lv' := [(1, .int (v1_101 + 1)), (2, .int v2_131), (0, .ref (ad 0))]) hx hb dX12_digest_162 hl (k := 1) rfl rfl (by decide) rfl (fun ls hl => ?_)
                            refine loc_gen (P := fun w9 => lv_has ls 3 [(1, .int w9), (2, .int v2_131), (0, .ref (ad 0))]) (v1_101 + 1) hl (fun w16 hw16 hl => ?_)
                            have hl : lv_has ls 3 [(1, .int w16), (2, .int v2_131), (0, .ref (ad 0))] := hl
                            have aw16 : w16.toInt = v1_101.toInt + 1 := by rw [← hw16]; first | exact va1 (Int.lt_of_le_of_lt h_v1_101.2 (by decide)) | exact va1 (by omega)
                            refine lv_goto (tgt := 101) hx hb dX12_digest_165 (by decide) ?_
                            exact ih101 (w16) nu131_ _ _ _ (by first | exact ms_up hm_101 aw16 h_v1_101.2 | exact ms_lt hm_101 (by omega) (by omega) | omega) (by first | exact rg_up aw16 h_v1_101 (by omega) | omega)  ok hP  kq131_0 hS (lv_sub hl [0, 2] rfl)
                          · have c_15 : v2_131.toInt < y14.toInt := il_nle c_15
                            refine lv_aload_n hx hb dX12_digest_141 rfl (lv_at hl 2 rfl) ?_
                            refine lv_aload_n hx hb dX12_digest_142 rfl (lv_at hl 2 rfl) ?_
                            refine va_get (D := (dC, dI)) (ci := 12) (v := .ref (ad 6)) (C := RX12) (T := TX12) (N := 46) hx hb hts inG12 hown hK hP 0 (gM_0 cs ad nu131_) rfl 7 (by decide) (hts _ (List.mem_cons_of_mem _ mw_5_48)) (fun _ h9 => h9) rfl dX12_digest_143 ?_
                            refine lv_bipush (v := 80) hx hb dX12_digest_146 (by decide) ?_
                            refine lv_iload_n hx hb dX12_digest_148 rfl (lv_at hl 1 rfl) ?_
                            refine lv_imul hx hb dX12_digest_149 ?_
                            refine lv_topi (fun t17 et17 => ?_)
                            have at17 : t17.toInt = 80 * v1_101.toInt := by rw [et17]; exact tI_mul (rfl : (80 : Int32).toInt = 80) (rfl : v1_101.toInt = _) (by omega) (by omega)
                            refine lv_iload_n hx hb dX12_digest_150 rfl (lv_at hl 0 rfl) ?_
                            refine lv_iadd hx hb dX12_digest_151 ?_
                            refine lv_topi (fun t18 et18 => ?_)
                            have at18 : t18.toInt = t17.toInt + v2_131.toInt := by rw [et18]; exact tI_add (rfl : t17.toInt = _) (rfl : v2_131.toInt = _) (by omega) (by omega)
                            refine va_iald hx hb hK hP 6 0 (gM_6 cs ad nu131_) rfl (show vp_in t18 320 from vi_of (by omega) (by omega)) dX12_digest_152 ?_
                            refine lv_topi (fun y19 ey19 => ?_)
                            have by19 : y19.toInt = (nu131_ 6 t18.toNatClampNeg).toInt := congrArg Int32.toInt ey19
                            have hFc := fr_all (wR_D nu131_ hD) hS hA
                            refine va_callv (va_runV (As := [.int y19]) (rest := []) ⟨hx, hb, hml, hown, hts⟩ (sm_mix l dC dI cs ad nu131_ ok H hP ((wR_D nu131_ hD).weaken (fun _ _ _ _ => trivial)) y19) (cwV 1 hts (wU_V mw_7_87 mw_7_84 mw_7_86 mw_0_66 mw_1_13) rfl rfl rfl (by decide +kernel) ⟨Nat.le_of_ble_eq_true rfl, Nat.le_of_ble_eq_true rfl⟩) ⟨sz_c, va_recv hK hP (ci := 12) (q0 := 0) rfl (gM_0 cs ad nu131_), sz_m hK hz⟩ rfl rfl hl.1 rfl (lv_room (Nat.le_of_ble_eq_true rfl)) dX12_digest_153 ⟨Nat.zero_le _, Nat.zero_le _⟩) hS (fun q _ h => hFc q h) hFc (fun xi20 t H20 locs ht hvm hw20 hB hz1 hk1 hS => ?_)
                            have hP : va_P (dC, dI) vwCl (wR 21 ad (EM cs ad) xi20) H20 := by rw [← ht]; exact hB
                            obtain ⟨ok, hw20, hkp20_0⟩ := hw20
                            have kp21 : (∀ k f : Nat, Nat.testBit 510 (gpM k f) = true → xi20 k f = mu k f) := kp_t hkp20_0 (by decide) kq131_0
                            refine lv_iinc (v := (v2_131 + 1)) (lv' := [(2, .int (v2_131 + 1)), (1, .int v1_101), (0, .ref (ad 0))]) hx hb dX12_digest_156 hl (k := 0) rfl rfl (by decide) rfl (fun ls hl => ?_)
                            refine loc_gen (P := fun w9 => lv_has ls 3 [(2, .int w9), (1, .int v1_101), (0, .ref (ad 0))]) (v2_131 + 1) hl (fun w22 hw22 hl => ?_)
                            have hl : lv_has ls 3 [(2, .int w22), (1, .int v1_101), (0, .ref (ad 0))] := hl
                            have aw22 : w22.toInt = v2_131.toInt + 1 := by rw [← hw22]; first | exact va1 (Int.lt_of_le_of_lt h_v2_131.2 (by decide)) | exact va1 (by omega)
                            refine lv_goto (tgt := 131) hx hb dX12_digest_159 (by decide) ?_
                            exact ih131 (w22) xi20 _ _ _ (by first | exact ms_up hm_131 aw22 h_v2_131.2 | exact ms_lt hm_131 (by omega) (by omega) | omega) (by first | exact rg_up aw22 h_v2_131 (by omega) | omega)  ok hP  kp21 hS (lv_sub hl [0, 1, 2] rfl)
                      exact loop131 ((80 + 1 - (0 : Int32).toInt).toNat + 1) (0) xi12 _ _ _ (Nat.lt_succ_self _) (by have h80 : (0 : Int32).toInt = 0 := rfl; exact ⟨by omega, by omega⟩)  ok hP  kp13 hS hl
                    · have c_11 : y10.toInt < 0 := il_nle c_11
                      refine lv_iconst (v := (-1)) hx hb dX12_digest_116 (by decide) ?_
                      refine lv_goto (tgt := 126) hx hb dX12_digest_117 (by decide) ?_
                      have hFc := fr_all (wR_D nu101_ hD) hS hA
                      refine va_callv (va_runV (As := [.int (-1)]) (rest := []) ⟨hx, hb, hml, hown, hts⟩ (sm_mix l dC dI cs ad nu101_ ok H hP ((wR_D nu101_ hD).weaken (fun _ _ _ _ => trivial)) (-1)) (cwV 1 hts (wU_V mw_7_87 mw_7_84 mw_7_86 mw_0_66 mw_1_13) rfl rfl rfl (by decide +kernel) ⟨Nat.le_of_ble_eq_true rfl, Nat.le_of_ble_eq_true rfl⟩) ⟨sz_c, va_recv hK hP (ci := 12) (q0 := 0) rfl (gM_0 cs ad nu101_), sz_m hK hz⟩ rfl rfl hl.1 rfl (lv_room (Nat.le_of_ble_eq_true rfl)) dX12_digest_126 ⟨Nat.zero_le _, Nat.zero_le _⟩) hS (fun q _ h => hFc q h) hFc (fun xi23 t H23 locs ht hvm hw23 hB hz1 hk1 hS => ?_)
                      have hP : va_P (dC, dI) vwCl (wR 21 ad (EM cs ad) xi23) H23 := by rw [← ht]; exact hB
                      obtain ⟨ok, hw23, hkp23_0⟩ := hw23
                      have kp24 : (∀ k f : Nat, Nat.testBit 510 (gpM k f) = true → xi23 k f = mu k f) := kp_t hkp23_0 (by decide) kq101_0
                      refine lv_iconst (v := 0) hx hb dX12_digest_129 (by decide) ?_
                      refine lv_istore_n (lv' := [(2, .int 0), (1, .int v1_101), (0, .ref (ad 0))]) hx hb dX12_digest_130 rfl hl (by decide) rfl (fun ls hl => ?_)
                      have loop131 : ∀ (n131 : Nat) (v2_131 : Int32) (nu131_ : Nat → Nat → Int32) (H : Heap) (locs : List Loc) (ls : Array Slot), (80 + 1 - v2_131.toInt).toNat < n131 → (0 ≤ v2_131.toInt ∧ v2_131.toInt ≤ 80) → okR loM hiM nu131_ → va_P (dC, dI) vwCl (wR 21 ad (EM cs ad) nu131_) H → (∀ k f : Nat, Nat.testBit 510 (gpM k f) = true → nu131_ k f = mu k f) → va_S (va_A (wR 21 ad (EM cs ad) mu) s.heap.size) s.heap H locs → lv_has ls 3 [(2, .int v2_131), (1, .int v1_101), (0, .ref (ad 0))] → W p l e (headSpec (wU yX12_digest cX12_digest 3 (some .long)) ({ frames := 4, cells := 0, slots := 0, locals := 92 })).room s m ([.ref (ad 0)] : List Value).toArray below meth c H locs 0 0 (MQ below (va_Ql (fun (z : Int64) (xi : Nat → Nat → Int32) => okR loM hiM xi ∧ (True) ∧ (∀ k f : Nat, Nat.testBit 510 (gpM k f) = true → xi k f = mu k f)) (fun xi t => va_P (dC, dI) vwCl (wR 21 ad (EM cs ad) xi) t.heap) (va_A (wR 21 ad (EM cs ad) mu) s.heap.size)) ([.ref (ad 0)] : List Value).toArray s 0 0 (va_A (wR 21 ad (EM cs ad) mu) s.heap.size)) (F0 m 131 ls []) := by
                        intro n131
                        induction n131 with
                        | zero => intro v2_131 nu131_ H locs ls hm; exact absurd hm (Nat.not_lt_zero _)
                        | succ n131 ih131 =>
                          intro v2_131 nu131_ H locs ls hm_131 h_v2_131 ok hP kq131_0 hS hl
                          refine lv_iload_n hx hb dX12_digest_131 rfl (lv_at hl 0 rfl) ?_
                          refine lv_aload_n hx hb dX12_digest_132 rfl (lv_at hl 2 rfl) ?_
                          refine va_get (D := (dC, dI)) (ci := 12) (v := .ref (ad 5)) (C := RX12) (T := TX12) (N := 46) hx hb hts inG12 hown hK hP 0 (gM_0 cs ad nu131_) rfl 6 (by decide) (hts _ (List.mem_cons_of_mem _ mw_5_47)) (fun _ h9 => h9) rfl dX12_digest_133 ?_
                          refine lv_iload_n hx hb dX12_digest_136 rfl (lv_at hl 1 rfl) ?_
                          refine va_iald hx hb hK hP 5 0 (gM_5 cs ad nu131_) rfl (show vp_in v1_101 4 from vi_of (by omega) (by omega)) dX12_digest_137 ?_
                          refine lv_topi (fun y25 ey25 => ?_)
                          have by25 : y25.toInt = (nu131_ 5 v1_101.toNatClampNeg).toInt := congrArg Int32.toInt ey25
                          have gy25 : -9 ≤ y25.toInt ∧ y25.toInt ≤ 80 := by rw [ey25]; exact rM_5_s ok v1_101.toNatClampNeg
                          refine lv_icmp_ge (tgt := 162) hx hb dX12_digest_138 (by decide) (fun c_26 => ?_) (fun c_26 => ?_)
                          · have c_26 : y25.toInt ≤ v2_131.toInt := il_le c_26
                            refine lv_iinc (v := (v1_101 + 1)) (lv' := [(1, .int (v1_101 + 1)), (2, .int v2_131), (0, .ref (ad 0))]) hx hb dX12_digest_162 hl (k := 1) rfl rfl (by decide) rfl (fun ls hl => ?_)
                            refine loc_gen (P := fun w9 => lv_has ls 3 [(1, .int w9), (2, .int v2_131), (0, .ref (ad 0))]) (v1_101 + 1) hl (fun w27 hw27 hl => ?_)
                            have hl : lv_has ls 3 [(1, .int w27), (2, .int v2_131), (0, .ref (ad 0))] := hl
                            have aw27 : w27.toInt = v1_101.toInt + 1 := by rw [← hw27]; first | exact va1 (Int.lt_of_le_of_lt h_v1_101.2 (by decide)) | exact va1 (by omega)
                            refine lv_goto (tgt := 101) hx hb dX12_digest_165 (by decide) ?_
                            exact ih101 (w27) nu131_ _ _ _ (by first | exact ms_up hm_101 aw27 h_v1_101.2 | exact ms_lt hm_101 (by omega) (by omega) | omega) (by first | exact rg_up aw27 h_v1_101 (by omega) | omega)  ok hP  kq131_0 hS (lv_sub hl [0, 2] rfl)
                          · have c_26 : v2_131.toInt < y25.toInt := il_nle c_26
                            refine lv_aload_n hx hb dX12_digest_141 rfl (lv_at hl 2 rfl) ?_
                            refine lv_aload_n hx hb dX12_digest_142 rfl (lv_at hl 2 rfl) ?_
                            refine va_get (D := (dC, dI)) (ci := 12) (v := .ref (ad 6)) (C := RX12) (T := TX12) (N := 46) hx hb hts inG12 hown hK hP 0 (gM_0 cs ad nu131_) rfl 7 (by decide) (hts _ (List.mem_cons_of_mem _ mw_5_48)) (fun _ h9 => h9) rfl dX12_digest_143 ?_
                            refine lv_bipush (v := 80) hx hb dX12_digest_146 (by decide) ?_
                            refine lv_iload_n hx hb dX12_digest_148 rfl (lv_at hl 1 rfl) ?_
                            refine lv_imul hx hb dX12_digest_149 ?_
                            refine lv_topi (fun t28 et28 => ?_)
                            have at28 : t28.toInt = 80 * v1_101.toInt := by rw [et28]; exact tI_mul (rfl : (80 : Int32).toInt = 80) (rfl : v1_101.toInt = _) (by omega) (by omega)
                            refine lv_iload_n hx hb dX12_digest_150 rfl (lv_at hl 0 rfl) ?_
                            refine lv_iadd hx hb dX12_digest_151 ?_
                            refine lv_topi (fun t29 et29 => ?_)
                            have at29 : t29.toInt = t28.toInt + v2_131.toInt := by rw [et29]; exact tI_add (rfl : t28.toInt = _) (rfl : v2_131.toInt = _) (by omega) (by omega)
                            refine va_iald hx hb hK hP 6 0 (gM_6 cs ad nu131_) rfl (show vp_in t29 320 from vi_of (by omega) (by omega)) dX12_digest_152 ?_
                            refine lv_topi (fun y30 ey30 => ?_)
                            have by30 : y30.toInt = (nu131_ 6 t29.toNatClampNeg).toInt := congrArg Int32.toInt ey30
                            have hFc := fr_all (wR_D nu131_ hD) hS hA
                            refine va_callv (va_runV (As := [.int y30]) (rest := []) ⟨hx, hb, hml, hown, hts⟩ (sm_mix l dC dI cs ad nu131_ ok H hP ((wR_D nu131_ hD).weaken (fun _ _ _ _ => trivial)) y30) (cwV 1 hts (wU_V mw_7_87 mw_7_84 mw_7_86 mw_0_66 mw_1_13) rfl rfl rfl (by decide +kernel) ⟨Nat.le_of_ble_eq_true rfl, Nat.le_of_ble_eq_true rfl⟩) ⟨sz_c, va_recv hK hP (ci := 12) (q0 := 0) rfl (gM_0 cs ad nu131_), sz_m hK hz⟩ rfl rfl hl.1 rfl (lv_room (Nat.le_of_ble_eq_true rfl)) dX12_digest_153 ⟨Nat.zero_le _, Nat.zero_le _⟩) hS (fun q _ h => hFc q h) hFc (fun xi31 t H31 locs ht hvm hw31 hB hz1 hk1 hS => ?_)
                            have hP : va_P (dC, dI) vwCl (wR 21 ad (EM cs ad) xi31) H31 := by rw [← ht]; exact hB
                            obtain ⟨ok, hw31, hkp31_0⟩ := hw31
                            have kp32 : (∀ k f : Nat, Nat.testBit 510 (gpM k f) = true → xi31 k f = mu k f) := kp_t hkp31_0 (by decide) kq131_0
                            refine lv_iinc (v := (v2_131 + 1)) (lv' := [(2, .int (v2_131 + 1)), (1, .int v1_101), (0, .ref (ad 0))]) hx hb dX12_digest_156 hl (k := 0) rfl rfl (by decide) rfl (fun ls hl => ?_)
                            refine loc_gen (P := fun w9 => lv_has ls 3 [(2, .int w9), (1, .int v1_101), (0, .ref (ad 0))]) (v2_131 + 1) hl (fun w33 hw33 hl => ?_)
                            have hl : lv_has ls 3 [(2, .int w33), (1, .int v1_101), (0, .ref (ad 0))] := hl
                            have aw33 : w33.toInt = v2_131.toInt + 1 := by rw [← hw33]; first | exact va1 (Int.lt_of_le_of_lt h_v2_131.2 (by decide)) | exact va1 (by omega)
                            refine lv_goto (tgt := 131) hx hb dX12_digest_159 (by decide) ?_
                            exact ih131 (w33) xi31 _ _ _ (by first | exact ms_up hm_131 aw33 h_v2_131.2 | exact ms_lt hm_131 (by omega) (by omega) | omega) (by first | exact rg_up aw33 h_v2_131 (by omega) | omega)  ok hP  kp32 hS (lv_sub hl [0, 1, 2] rfl)
                      exact loop131 ((80 + 1 - (0 : Int32).toInt).toNat + 1) (0) xi23 _ _ _ (Nat.lt_succ_self _) (by have h80 : (0 : Int32).toInt = 0 := rfl; exact ⟨by omega, by omega⟩)  ok hP  kp24 hS hl
              exact loop101 ((4 + 1 - (0 : Int32).toInt).toNat + 1) (0) nu36_ _ _ _ (Nat.lt_succ_self _) (by have h80 : (0 : Int32).toInt = 0 := rfl; exact ⟨by omega, by omega⟩)  ok hP  kq36_0 hS hl
            · have c_7 : v1_36.toInt < 6 := il_nle c_7
              refine lv_aload_n hx hb dX12_digest_42 rfl (lv_at hl 1 rfl) ?_
              refine lv_aload_n hx hb dX12_digest_43 rfl (lv_at hl 1 rfl) ?_
              refine va_get (D := (dC, dI)) (ci := 12) (v := .ref (ad 2)) (C := RX12) (T := TX12) (N := 46) hx hb hts inG12 hown hK hP 0 (gM_0 cs ad nu36_) rfl 3 (by decide) (hts _ (List.mem_cons_of_mem _ mw_5_44)) (fun _ h9 => h9) rfl dX12_digest_44 ?_
              refine lv_iload_n hx hb dX12_digest_47 rfl (lv_at hl 0 rfl) ?_
              refine va_iald hx hb hK hP 2 0 (gM_2 cs ad nu36_) rfl (show vp_in v1_36 6 from vi_of (by omega) (by omega)) dX12_digest_48 ?_
              refine lv_topi (fun y34 ey34 => ?_)
              have by34 : y34.toInt = (nu36_ 2 v1_36.toNatClampNeg).toInt := congrArg Int32.toInt ey34
              have gy34 : -9 ≤ y34.toInt ∧ y34.toInt ≤ 40 := by rw [ey34]; exact rM_2_s ok v1_36.toNatClampNeg
              refine lv_if_ge (tgt := 56) hx hb dX12_digest_49 (by decide) (fun c_35 => ?_) (fun c_35 => ?_)
              · have c_35 : 0 ≤ y34.toInt := il_le c_35
                refine lv_aload_n hx hb dX12_digest_56 rfl (lv_at hl 1 rfl) ?_
                refine va_get (D := (dC, dI)) (ci := 12) (v := .ref (ad 2)) (C := RX12) (T := TX12) (N := 46) hx hb hts inG12 hown hK hP 0 (gM_0 cs ad nu36_) rfl 3 (by decide) (hts _ (List.mem_cons_of_mem _ mw_5_44)) (fun _ h9 => h9) rfl dX12_digest_57 ?_
                refine lv_iload_n hx hb dX12_digest_60 rfl (lv_at hl 0 rfl) ?_
                refine va_iald hx hb hK hP 2 0 (gM_2 cs ad nu36_) rfl (show vp_in v1_36 6 from vi_of (by omega) (by omega)) dX12_digest_61 ?_
                refine lq_i y34 ey34.symm ?_
                have hFc := fr_all (wR_D nu36_ hD) hS hA
                refine va_callv (va_runV (As := [.int y34]) (rest := []) ⟨hx, hb, hml, hown, hts⟩ (sm_mix l dC dI cs ad nu36_ ok H hP ((wR_D nu36_ hD).weaken (fun _ _ _ _ => trivial)) y34) (cwV 1 hts (wU_V mw_7_87 mw_7_84 mw_7_86 mw_0_66 mw_1_13) rfl rfl rfl (by decide +kernel) ⟨Nat.le_of_ble_eq_true rfl, Nat.le_of_ble_eq_true rfl⟩) ⟨sz_c, va_recv hK hP (ci := 12) (q0 := 0) rfl (gM_0 cs ad nu36_), sz_m hK hz⟩ rfl rfl hl.1 rfl (lv_room (Nat.le_of_ble_eq_true rfl)) dX12_digest_62 ⟨Nat.zero_le _, Nat.zero_le _⟩) hS (fun q _ h => hFc q h) hFc (fun xi36 t H36 locs ht hvm hw36 hB hz1 hk1 hS => ?_)
                have hP : va_P (dC, dI) vwCl (wR 21 ad (EM cs ad) xi36) H36 := by rw [← ht]; exact hB
                obtain ⟨ok, hw36, hkp36_0⟩ := hw36
                have kp37 : (∀ k f : Nat, Nat.testBit 510 (gpM k f) = true → xi36 k f = mu k f) := kp_t hkp36_0 (by decide) kq36_0
                refine lv_iconst (v := 0) hx hb dX12_digest_65 (by decide) ?_
                refine lv_istore_n (lv' := [(2, .int 0), (1, .int v1_36), (0, .ref (ad 0))]) hx hb dX12_digest_66 rfl hl (by decide) rfl (fun ls hl => ?_)
                have loop67 : ∀ (n67 : Nat) (v2_67 : Int32) (nu67_ : Nat → Nat → Int32) (H : Heap) (locs : List Loc) (ls : Array Slot), (40 + 1 - v2_67.toInt).toNat < n67 → (0 ≤ v2_67.toInt ∧ v2_67.toInt ≤ 40) → okR loM hiM nu67_ → va_P (dC, dI) vwCl (wR 21 ad (EM cs ad) nu67_) H → (∀ k f : Nat, Nat.testBit 510 (gpM k f) = true → nu67_ k f = mu k f) → va_S (va_A (wR 21 ad (EM cs ad) mu) s.heap.size) s.heap H locs → lv_has ls 3 [(2, .int v2_67), (1, .int v1_36), (0, .ref (ad 0))] → W p l e (headSpec (wU yX12_digest cX12_digest 3 (some .long)) ({ frames := 4, cells := 0, slots := 0, locals := 92 })).room s m ([.ref (ad 0)] : List Value).toArray below meth c H locs 0 0 (MQ below (va_Ql (fun (z : Int64) (xi : Nat → Nat → Int32) => okR loM hiM xi ∧ (True) ∧ (∀ k f : Nat, Nat.testBit 510 (gpM k f) = true → xi k f = mu k f)) (fun xi t => va_P (dC, dI) vwCl (wR 21 ad (EM cs ad) xi) t.heap) (va_A (wR 21 ad (EM cs ad) mu) s.heap.size)) ([.ref (ad 0)] : List Value).toArray s 0 0 (va_A (wR 21 ad (EM cs ad) mu) s.heap.size)) (F0 m 67 ls []) := by
                  intro n67
                  induction n67 with
                  | zero => intro v2_67 nu67_ H locs ls hm; exact absurd hm (Nat.not_lt_zero _)
                  | succ n67 ih67 =>
                    intro v2_67 nu67_ H locs ls hm_67 h_v2_67 ok hP kq67_0 hS hl
                    refine lv_iload_n hx hb dX12_digest_67 rfl (lv_at hl 0 rfl) ?_
                    refine lv_aload_n hx hb dX12_digest_68 rfl (lv_at hl 2 rfl) ?_
                    refine va_get (D := (dC, dI)) (ci := 12) (v := .ref (ad 2)) (C := RX12) (T := TX12) (N := 46) hx hb hts inG12 hown hK hP 0 (gM_0 cs ad nu67_) rfl 3 (by decide) (hts _ (List.mem_cons_of_mem _ mw_5_44)) (fun _ h9 => h9) rfl dX12_digest_69 ?_
                    refine lv_iload_n hx hb dX12_digest_72 rfl (lv_at hl 1 rfl) ?_
                    refine va_iald hx hb hK hP 2 0 (gM_2 cs ad nu67_) rfl (show vp_in v1_36 6 from vi_of (by omega) (by omega)) dX12_digest_73 ?_
                    refine lv_topi (fun y38 ey38 => ?_)
                    have by38 : y38.toInt = (nu67_ 2 v1_36.toNatClampNeg).toInt := congrArg Int32.toInt ey38
                    have gy38 : -9 ≤ y38.toInt ∧ y38.toInt ≤ 40 := by rw [ey38]; exact rM_2_s ok v1_36.toNatClampNeg
                    refine lv_icmp_ge (tgt := 93) hx hb dX12_digest_74 (by decide) (fun c_39 => ?_) (fun c_39 => ?_)
                    · have c_39 : y38.toInt ≤ v2_67.toInt := il_le c_39
                      refine lv_iinc (v := (v1_36 + 1)) (lv' := [(1, .int (v1_36 + 1)), (2, .int v2_67), (0, .ref (ad 0))]) hx hb dX12_digest_93 hl (k := 1) rfl rfl (by decide) rfl (fun ls hl => ?_)
                      refine loc_gen (P := fun w9 => lv_has ls 3 [(1, .int w9), (2, .int v2_67), (0, .ref (ad 0))]) (v1_36 + 1) hl (fun w40 hw40 hl => ?_)
                      have hl : lv_has ls 3 [(1, .int w40), (2, .int v2_67), (0, .ref (ad 0))] := hl
                      have aw40 : w40.toInt = v1_36.toInt + 1 := by rw [← hw40]; first | exact va1 (Int.lt_of_le_of_lt h_v1_36.2 (by decide)) | exact va1 (by omega)
                      refine lv_goto (tgt := 36) hx hb dX12_digest_96 (by decide) ?_
                      exact ih36 (w40) nu67_ _ _ _ (by first | exact ms_up hm_36 aw40 h_v1_36.2 | exact ms_lt hm_36 (by omega) (by omega) | omega) (by first | exact rg_up aw40 h_v1_36 (by omega) | omega)  ok hP  kq67_0 hS (lv_sub hl [0, 2] rfl)
                    · have c_39 : v2_67.toInt < y38.toInt := il_nle c_39
                      refine lv_aload_n hx hb dX12_digest_77 rfl (lv_at hl 2 rfl) ?_
                      refine lv_aload_n hx hb dX12_digest_78 rfl (lv_at hl 2 rfl) ?_
                      refine lv_iload_n hx hb dX12_digest_79 rfl (lv_at hl 1 rfl) ?_
                      refine lv_iload_n hx hb dX12_digest_80 rfl (lv_at hl 0 rfl) ?_
                      refine cr_i (va_runV (As := [.int v1_36, .int v2_67]) (rest := [.ref (ad 0)]) ⟨hx, hb, hml, hown, hts⟩ (sm_rowAt l dC dI cs ad nu67_ ok H hP v1_36 v2_67 (by omega)) (cwV 2 hts (wU_V mw_5_209 mw_5_206 mw_5_208 mw_0_29 mw_1_13) rfl rfl rfl (by decide +kernel) ⟨Nat.le_of_ble_eq_true rfl, Nat.le_of_ble_eq_true rfl⟩) ⟨sz_c, va_recv hK hP (ci := 12) (q0 := 0) rfl (gM_0 cs ad nu67_), sz_m hK hz⟩ rfl rfl hl.1 rfl (lv_room (Nat.le_of_ble_eq_true rfl)) dX12_digest_81 ⟨Nat.zero_le _, Nat.zero_le _⟩) hS (fun r41 hw41 locs hS => ?_)
                      obtain ⟨hfe41, hw41⟩ := hw41
                      have hFc := fr_all (wR_D nu67_ hD) hS hA
                      refine va_callv (va_runV (As := [.int r41]) (rest := []) ⟨hx, hb, hml, hown, hts⟩ (sm_mix l dC dI cs ad nu67_ ok H hP ((wR_D nu67_ hD).weaken (fun _ _ _ _ => trivial)) r41) (cwV 1 hts (wU_V mw_7_87 mw_7_84 mw_7_86 mw_0_66 mw_1_13) rfl rfl rfl (by decide +kernel) ⟨Nat.le_of_ble_eq_true rfl, Nat.le_of_ble_eq_true rfl⟩) ⟨sz_c, va_recv hK hP (ci := 12) (q0 := 0) rfl (gM_0 cs ad nu67_), sz_m hK hz⟩ rfl rfl hl.1 rfl (lv_room (Nat.le_of_ble_eq_true rfl)) dX12_digest_84 ⟨Nat.zero_le _, Nat.zero_le _⟩) hS (fun q _ h => hFc q h) hFc (fun xi42 t H42 locs ht hvm hw42 hB hz1 hk1 hS => ?_)
                      have hP : va_P (dC, dI) vwCl (wR 21 ad (EM cs ad) xi42) H42 := by rw [← ht]; exact hB
                      obtain ⟨ok, hw42, hkp42_0⟩ := hw42
                      have kp43 : (∀ k f : Nat, Nat.testBit 510 (gpM k f) = true → xi42 k f = mu k f) := kp_t hkp42_0 (by decide) kq67_0
                      refine lv_iinc (v := (v2_67 + 1)) (lv' := [(2, .int (v2_67 + 1)), (1, .int v1_36), (0, .ref (ad 0))]) hx hb dX12_digest_87 hl (k := 0) rfl rfl (by decide) rfl (fun ls hl => ?_)
                      refine loc_gen (P := fun w9 => lv_has ls 3 [(2, .int w9), (1, .int v1_36), (0, .ref (ad 0))]) (v2_67 + 1) hl (fun w44 hw44 hl => ?_)
                      have hl : lv_has ls 3 [(2, .int w44), (1, .int v1_36), (0, .ref (ad 0))] := hl
                      have aw44 : w44.toInt = v2_67.toInt + 1 := by rw [← hw44]; first | exact va1 (Int.lt_of_le_of_lt h_v2_67.2 (by decide)) | exact va1 (by omega)
                      refine lv_goto (tgt := 67) hx hb dX12_digest_90 (by decide) ?_
                      exact ih67 (w44) xi42 _ _ _ (by first | exact ms_up hm_67 aw44 h_v2_67.2 | exact ms_lt hm_67 (by omega) (by omega) | omega) (by first | exact rg_up aw44 h_v2_67 (by omega) | omega)  ok hP  kp43 hS (lv_sub hl [0, 1, 2] rfl)
                exact loop67 ((40 + 1 - (0 : Int32).toInt).toNat + 1) (0) xi36 _ _ _ (Nat.lt_succ_self _) (by have h80 : (0 : Int32).toInt = 0 := rfl; exact ⟨by omega, by omega⟩)  ok hP  kp37 hS hl
              · have c_35 : y34.toInt < 0 := il_nle c_35
                refine lv_iconst (v := (-1)) hx hb dX12_digest_52 (by decide) ?_
                refine lv_goto (tgt := 62) hx hb dX12_digest_53 (by decide) ?_
                have hFc := fr_all (wR_D nu36_ hD) hS hA
                refine va_callv (va_runV (As := [.int (-1)]) (rest := []) ⟨hx, hb, hml, hown, hts⟩ (sm_mix l dC dI cs ad nu36_ ok H hP ((wR_D nu36_ hD).weaken (fun _ _ _ _ => trivial)) (-1)) (cwV 1 hts (wU_V mw_7_87 mw_7_84 mw_7_86 mw_0_66 mw_1_13) rfl rfl rfl (by decide +kernel) ⟨Nat.le_of_ble_eq_true rfl, Nat.le_of_ble_eq_true rfl⟩) ⟨sz_c, va_recv hK hP (ci := 12) (q0 := 0) rfl (gM_0 cs ad nu36_), sz_m hK hz⟩ rfl rfl hl.1 rfl (lv_room (Nat.le_of_ble_eq_true rfl)) dX12_digest_62 ⟨Nat.zero_le _, Nat.zero_le _⟩) hS (fun q _ h => hFc q h) hFc (fun xi45 t H45 locs ht hvm hw45 hB hz1 hk1 hS => ?_)
                have hP : va_P (dC, dI) vwCl (wR 21 ad (EM cs ad) xi45) H45 := by rw [← ht]; exact hB
                obtain ⟨ok, hw45, hkp45_0⟩ := hw45
                have kp46 : (∀ k f : Nat, Nat.testBit 510 (gpM k f) = true → xi45 k f = mu k f) := kp_t hkp45_0 (by decide) kq36_0
                refine lv_iconst (v := 0) hx hb dX12_digest_65 (by decide) ?_
                refine lv_istore_n (lv' := [(2, .int 0), (1, .int v1_36), (0, .ref (ad 0))]) hx hb dX12_digest_66 rfl hl (by decide) rfl (fun ls hl => ?_)
                have loop67 : ∀ (n67 : Nat) (v2_67 : Int32) (nu67_ : Nat → Nat → Int32) (H : Heap) (locs : List Loc) (ls : Array Slot), (40 + 1 - v2_67.toInt).toNat < n67 → (0 ≤ v2_67.toInt ∧ v2_67.toInt ≤ 40) → okR loM hiM nu67_ → va_P (dC, dI) vwCl (wR 21 ad (EM cs ad) nu67_) H → (∀ k f : Nat, Nat.testBit 510 (gpM k f) = true → nu67_ k f = mu k f) → va_S (va_A (wR 21 ad (EM cs ad) mu) s.heap.size) s.heap H locs → lv_has ls 3 [(2, .int v2_67), (1, .int v1_36), (0, .ref (ad 0))] → W p l e (headSpec (wU yX12_digest cX12_digest 3 (some .long)) ({ frames := 4, cells := 0, slots := 0, locals := 92 })).room s m ([.ref (ad 0)] : List Value).toArray below meth c H locs 0 0 (MQ below (va_Ql (fun (z : Int64) (xi : Nat → Nat → Int32) => okR loM hiM xi ∧ (True) ∧ (∀ k f : Nat, Nat.testBit 510 (gpM k f) = true → xi k f = mu k f)) (fun xi t => va_P (dC, dI) vwCl (wR 21 ad (EM cs ad) xi) t.heap) (va_A (wR 21 ad (EM cs ad) mu) s.heap.size)) ([.ref (ad 0)] : List Value).toArray s 0 0 (va_A (wR 21 ad (EM cs ad) mu) s.heap.size)) (F0 m 67 ls []) := by
                  intro n67
                  induction n67 with
                  | zero => intro v2_67 nu67_ H locs ls hm; exact absurd hm (Nat.not_lt_zero _)
                  | succ n67 ih67 =>
                    intro v2_67 nu67_ H locs ls hm_67 h_v2_67 ok hP kq67_0 hS hl
                    refine lv_iload_n hx hb dX12_digest_67 rfl (lv_at hl 0 rfl) ?_
                    refine lv_aload_n hx hb dX12_digest_68 rfl (lv_at hl 2 rfl) ?_
                    refine va_get (D := (dC, dI)) (ci := 12) (v := .ref (ad 2)) (C := RX12) (T := TX12) (N := 46) hx hb hts inG12 hown hK hP 0 (gM_0 cs ad nu67_) rfl 3 (by decide) (hts _ (List.mem_cons_of_mem _ mw_5_44)) (fun _ h9 => h9) rfl dX12_digest_69 ?_
                    refine lv_iload_n hx hb dX12_digest_72 rfl (lv_at hl 1 rfl) ?_
                    refine va_iald hx hb hK hP 2 0 (gM_2 cs ad nu67_) rfl (show vp_in v1_36 6 from vi_of (by omega) (by omega)) dX12_digest_73 ?_
                    refine lv_topi (fun y47 ey47 => ?_)
                    have by47 : y47.toInt = (nu67_ 2 v1_36.toNatClampNeg).toInt := congrArg Int32.toInt ey47
                    have gy47 : -9 ≤ y47.toInt ∧ y47.toInt ≤ 40 := by rw [ey47]; exact rM_2_s ok v1_36.toNatClampNeg
                    refine lv_icmp_ge (tgt := 93) hx hb dX12_digest_74 (by decide) (fun c_48 => ?_) (fun c_48 => ?_)
                    · have c_48 : y47.toInt ≤ v2_67.toInt := il_le c_48
                      refine lv_iinc (v := (v1_36 + 1)) (lv' := [(1, .int (v1_36 + 1)), (2, .int v2_67), (0, .ref (ad 0))]) hx hb dX12_digest_93 hl (k := 1) rfl rfl (by decide) rfl (fun ls hl => ?_)
                      refine loc_gen (P := fun w9 => lv_has ls 3 [(1, .int w9), (2, .int v2_67), (0, .ref (ad 0))]) (v1_36 + 1) hl (fun w49 hw49 hl => ?_)
                      have hl : lv_has ls 3 [(1, .int w49), (2, .int v2_67), (0, .ref (ad 0))] := hl
                      have aw49 : w49.toInt = v1_36.toInt + 1 := by rw [← hw49]; first | exact va1 (Int.lt_of_le_of_lt h_v1_36.2 (by decide)) | exact va1 (by omega)
                      refine lv_goto (tgt := 36) hx hb dX12_digest_96 (by decide) ?_
                      exact ih36 (w49) nu67_ _ _ _ (by first | exact ms_up hm_36 aw49 h_v1_36.2 | exact ms_lt hm_36 (by omega) (by omega) | omega) (by first | exact rg_up aw49 h_v1_36 (by omega) | omega)  ok hP  kq67_0 hS (lv_sub hl [0, 2] rfl)
                    · have c_48 : v2_67.toInt < y47.toInt := il_nle c_48
                      refine lv_aload_n hx hb dX12_digest_77 rfl (lv_at hl 2 rfl) ?_
                      refine lv_aload_n hx hb dX12_digest_78 rfl (lv_at hl 2 rfl) ?_
                      refine lv_iload_n hx hb dX12_digest_79 rfl (lv_at hl 1 rfl) ?_
                      refine lv_iload_n hx hb dX12_digest_80 rfl (lv_at hl 0 rfl) ?_
                      refine cr_i (va_runV (As := [.int v1_36, .int v2_67]) (rest := [.ref (ad 0)]) ⟨hx, hb, hml, hown, hts⟩ (sm_rowAt l dC dI cs ad nu67_ ok H hP v1_36 v2_67 (by omega)) (cwV 2 hts (wU_V mw_5_209 mw_5_206 mw_5_208 mw_0_29 mw_1_13) rfl rfl rfl (by decide +kernel) ⟨Nat.le_of_ble_eq_true rfl, Nat.le_of_ble_eq_true rfl⟩) ⟨sz_c, va_recv hK hP (ci := 12) (q0 := 0) rfl (gM_0 cs ad nu67_), sz_m hK hz⟩ rfl rfl hl.1 rfl (lv_room (Nat.le_of_ble_eq_true rfl)) dX12_digest_81 ⟨Nat.zero_le _, Nat.zero_le _⟩) hS (fun r50 hw50 locs hS => ?_)
                      obtain ⟨hfe50, hw50⟩ := hw50
                      have hFc := fr_all (wR_D nu67_ hD) hS hA
                      refine va_callv (va_runV (As := [.int r50]) (rest := []) ⟨hx, hb, hml, hown, hts⟩ (sm_mix l dC dI cs ad nu67_ ok H hP ((wR_D nu67_ hD).weaken (fun _ _ _ _ => trivial)) r50) (cwV 1 hts (wU_V mw_7_87 mw_7_84 mw_7_86 mw_0_66 mw_1_13) rfl rfl rfl (by decide +kernel) ⟨Nat.le_of_ble_eq_true rfl, Nat.le_of_ble_eq_true rfl⟩) ⟨sz_c, va_recv hK hP (ci := 12) (q0 := 0) rfl (gM_0 cs ad nu67_), sz_m hK hz⟩ rfl rfl hl.1 rfl (lv_room (Nat.le_of_ble_eq_true rfl)) dX12_digest_84 ⟨Nat.zero_le _, Nat.zero_le _⟩) hS (fun q _ h => hFc q h) hFc (fun xi51 t H51 locs ht hvm hw51 hB hz1 hk1 hS => ?_)
                      have hP : va_P (dC, dI) vwCl (wR 21 ad (EM cs ad) xi51) H51 := by rw [← ht]; exact hB
                      obtain ⟨ok, hw51, hkp51_0⟩ := hw51
                      have kp52 : (∀ k f : Nat, Nat.testBit 510 (gpM k f) = true → xi51 k f = mu k f) := kp_t hkp51_0 (by decide) kq67_0
                      refine lv_iinc (v := (v2_67 + 1)) (lv' := [(2, .int (v2_67 + 1)), (1, .int v1_36), (0, .ref (ad 0))]) hx hb dX12_digest_87 hl (k := 0) rfl rfl (by decide) rfl (fun ls hl => ?_)
                      refine loc_gen (P := fun w9 => lv_has ls 3 [(2, .int w9), (1, .int v1_36), (0, .ref (ad 0))]) (v2_67 + 1) hl (fun w53 hw53 hl => ?_)
                      have hl : lv_has ls 3 [(2, .int w53), (1, .int v1_36), (0, .ref (ad 0))] := hl
                      have aw53 : w53.toInt = v2_67.toInt + 1 := by rw [← hw53]; first | exact va1 (Int.lt_of_le_of_lt h_v2_67.2 (by decide)) | exact va1 (by omega)
                      refine lv_goto (tgt := 67) hx hb dX12_digest_90 (by decide) ?_
                      exact ih67 (w53) xi51 _ _ _ (by first | exact ms_up hm_67 aw53 h_v2_67.2 | exact ms_lt hm_67 (by omega) (by omega) | omega) (by first | exact rg_up aw53 h_v2_67 (by omega) | omega)  ok hP  kp52 hS (lv_sub hl [0, 1, 2] rfl)
                exact loop67 ((40 + 1 - (0 : Int32).toInt).toNat + 1) (0) xi45 _ _ _ (Nat.lt_succ_self _) (by have h80 : (0 : Int32).toInt = 0 := rfl; exact ⟨by omega, by omega⟩)  ok hP  kp46 hS hl
        exact loop36 ((6 + 1 - (0 : Int32).toInt).toNat + 1) (0) xi5 _ _ _ (Nat.lt_succ_self _) (by have h80 : (0 : Int32).toInt = 0 := rfl; exact ⟨by omega, by omega⟩)  ok hP  kp6 hS hl
      · have c_4 : v1_9.toInt ≤ 8 := il_nlt c_4
        refine lv_aload_n hx hb dX12_digest_15 rfl (lv_at hl 1 rfl) ?_
        refine lv_aload_n hx hb dX12_digest_16 rfl (lv_at hl 1 rfl) ?_
        refine lv_iload_n hx hb dX12_digest_17 rfl (lv_at hl 0 rfl) ?_
        refine cr_i (va_runV (As := [.int v1_9]) (rest := [.ref (ad 0)]) ⟨hx, hb, hml, hown, hts⟩ (sm_tells l dC dI cs ad nu9_ ok H hP v1_9) (cwV 1 hts (wU_V mw_7_70 mw_7_67 mw_7_69 mw_0_65 mw_1_13) rfl rfl rfl (by decide +kernel) ⟨Nat.le_of_ble_eq_true rfl, Nat.le_of_ble_eq_true rfl⟩) ⟨sz_c, va_recv hK hP (ci := 12) (q0 := 0) rfl (gM_0 cs ad nu9_), sz_m hK hz⟩ rfl rfl hl.1 rfl (lv_room (Nat.le_of_ble_eq_true rfl)) dX12_digest_18 ⟨Nat.zero_le _, Nat.zero_le _⟩) hS (fun r54 hw54 locs hS => ?_)
        obtain ⟨hfe54, hw54⟩ := hw54
        have hFc := fr_all (wR_D nu9_ hD) hS hA
        refine va_callv (va_runV (As := [.int r54]) (rest := []) ⟨hx, hb, hml, hown, hts⟩ (sm_mix l dC dI cs ad nu9_ ok H hP ((wR_D nu9_ hD).weaken (fun _ _ _ _ => trivial)) r54) (cwV 1 hts (wU_V mw_7_87 mw_7_84 mw_7_86 mw_0_66 mw_1_13) rfl rfl rfl (by decide +kernel) ⟨Nat.le_of_ble_eq_true rfl, Nat.le_of_ble_eq_true rfl⟩) ⟨sz_c, va_recv hK hP (ci := 12) (q0 := 0) rfl (gM_0 cs ad nu9_), sz_m hK hz⟩ rfl rfl hl.1 rfl (lv_room (Nat.le_of_ble_eq_true rfl)) dX12_digest_21 ⟨Nat.zero_le _, Nat.zero_le _⟩) hS (fun q _ h => hFc q h) hFc (fun xi55 t H55 locs ht hvm hw55 hB hz1 hk1 hS => ?_)
        have hP : va_P (dC, dI) vwCl (wR 21 ad (EM cs ad) xi55) H55 := by rw [← ht]; exact hB
        obtain ⟨ok, hw55, hkp55_0⟩ := hw55
        have kp56 : (∀ k f : Nat, Nat.testBit 510 (gpM k f) = true → xi55 k f = mu k f) := kp_t hkp55_0 (by decide) kq9_0
        refine lv_iinc (v := (v1_9 + 1)) (lv' := [(1, .int (v1_9 + 1)), (0, .ref (ad 0))]) hx hb dX12_digest_24 hl (k := 0) rfl rfl (by decide) rfl (fun ls hl => ?_)
        refine loc_gen (P := fun w9 => lv_has ls 3 [(1, .int w9), (0, .ref (ad 0))]) (v1_9 + 1) hl (fun w57 hw57 hl => ?_)
        have hl : lv_has ls 3 [(1, .int w57), (0, .ref (ad 0))] := hl
        have aw57 : w57.toInt = v1_9.toInt + 1 := by rw [← hw57]; first | exact va1 (Int.lt_of_le_of_lt h_v1_9.2 (by decide)) | exact va1 (by omega)
        refine lv_goto (tgt := 9) hx hb dX12_digest_27 (by decide) ?_
        exact ih9 (w57) xi55 _ _ _ (by first | exact ms_up hm_9 aw57 h_v1_9.2 | exact ms_lt hm_9 (by omega) (by omega) | omega) (by first | exact rg_up aw57 h_v1_9 (by omega) | omega)  ok hP  kp56 hS (lv_sub hl [0, 1] rfl)
  exact loop9 ((9 + 1 - (0 : Int32).toInt).toNat + 1) (0) nu2 _ _ _ (Nat.lt_succ_self _) (by have h80 : (0 : Int32).toInt = 0 := rfl; exact ⟨by omega, by omega⟩)  ok hP  kp3 hS hl
