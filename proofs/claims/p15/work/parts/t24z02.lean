set_option maxHeartbeats 4000000 in
set_option maxRecDepth 100000 in
/-- sm_richest -/
theorem sm_richest (l : Launch) (dC : Nat → ClassId) (dI : Nat → Nat → Nat) (cs : Nat → ClassId) (ad : Nat → Nat) (mu : Nat → Nat → Int32) (ok : okR loM hiM mu) (H : Heap) (hP : va_P (dC, dI) vwCl (wR 21 ad (EM cs ad) mu) H) : Met l yX12_richest (wU yX12_richest cX12_richest 3 (some .int)) ({ frames := 0, cells := 0, slots := 0, locals := 0 }) (va_Pc [.ref (ad 0)] (sz_P (dC, dI) vwCl (tyM cs) H)) (va_Qi (fun (z : Int32) (_ : Unit) => z = F_sm_richest mu ∧ (True)) (fun _ t => t.heap = H) (fun _ => False)) 0 0 (fun _ => False) := by
  refine Met.ofW (cc := cX12_richest) (maxL := 3) (ret := (some .int)) (by decide) rfl ?_
  intro p e s m args below meth c s₁ B hml hv
  obtain ⟨rfl, hh, hK, hz⟩ := hv
  have hx := B.exec
  have hb := B.bytes
  have hr := B.returns
  have hts := atoms_spec (ws := (wU yX12_richest cX12_richest 3 (some .int))) B.pre
  have hown : s.vm.findClass RX12 = some m.cls := findClass_of_methodNamed B.named
  have hlocks := B.notSynchronized
  subst hh
  have hS : va_S (fun _ => False) s.heap s.heap [] := va_S.rf
  have hl := lv_entry ([.ref (ad 0)]) (n := 3) (Nat.le_of_ble_eq_true rfl)
  rw [lg_entry_eq]
  generalize (lg_sl ([.ref (ad 0)]) ++ List.replicate (3 - (lg_sl ([.ref (ad 0)])).length) Slot.unset).toArray = ls at hl ⊢
  have hl : lv_has ls 3 [(0, .ref (ad 0))] := hl
  obtain ⟨fz, hfz⟩ : ∃ z, F_sm_richest mu = z := ⟨_, rfl⟩
  have hF := hfz
  unfold F_sm_richest at hF
  refine lv_iconst (v := 0) hx hb dX12_richest_0 (by decide) ?_
  refine lv_istore_n (lv' := [(1, .int 0), (0, .ref (ad 0))]) hx hb dX12_richest_1 rfl hl (by decide) rfl (fun ls hl => ?_)
  refine lv_iconst (v := 0) hx hb dX12_richest_2 (by decide) ?_
  refine lv_istore_n (lv' := [(2, .int 0), (1, .int 0), (0, .ref (ad 0))]) hx hb dX12_richest_3 rfl hl (by decide) rfl (fun ls hl => ?_)
  have loop4 : ∀ (n4 : Nat) (v1_4 : Int32) (v2_4 : Int32) (locs : List Loc) (ls : Array Slot), (7 + 1 - v2_4.toInt).toNat < n4 → (0 ≤ v2_4.toInt ∧ v2_4.toInt ≤ 7) → L_sm_richest_4_0 mu n4 v1_4 v2_4 = fz → va_S (fun _ => False) s.heap s.heap locs → lv_has ls 3 [(2, .int v2_4), (1, .int v1_4), (0, .ref (ad 0))] → W p l e (headSpec (wU yX12_richest cX12_richest 3 (some .int)) ({ frames := 0, cells := 0, slots := 0, locals := 0 })).room s m ([.ref (ad 0)] : List Value).toArray below meth c s.heap locs 0 0 (MQ below (va_Qi (fun (z : Int32) (_ : Unit) => z = F_sm_richest mu ∧ (True)) (fun _ t => t.heap = s.heap) (fun _ => False)) ([.ref (ad 0)] : List Value).toArray s 0 0 (fun _ => False)) (F0 m 4 ls []) := by
    intro n4
    induction n4 with
    | zero => intro v1_4 v2_4 locs ls hm; exact absurd hm (Nat.not_lt_zero _)
    | succ n4 ih4 =>
      intro v1_4 v2_4 locs ls hm h_v2_4 hF hS hl
      rw [L_sm_richest_4_0] at hF
      refine lv_iload_n hx hb dX12_richest_4 rfl (lv_at hl 0 rfl) ?_
      refine lv_aload_n hx hb dX12_richest_5 rfl (lv_at hl 2 rfl) ?_
      refine va_get (D := (dC, dI)) (ci := 12) (v := .int (mu 0 8)) (C := RX12) (T := TX12) (N := 46) hx hb hts inG12 hown hK hP 0 (gM_0 cs ad mu) rfl 8 (by decide) (hts _ (List.mem_cons_of_mem _ mw_5_49)) (fun _ h9 => h9) rfl dX12_richest_6 ?_
      refine lv_topi (fun y1 ey1 => ?_)
      have hF := mi_let hF ey1
      have by1 : y1.toInt = (mu 0 8).toInt := congrArg Int32.toInt ey1
      have gy1 : 0 ≤ y1.toInt ∧ y1.toInt ≤ 7 := by rw [ey1]; exact rM_0_8 ok
      refine lv_icmp_ge (tgt := 39) hx hb dX12_richest_9 (by decide) (fun c_2 => ?_) (fun c_2 => ?_)
      · have hF := (if_pos c_2).symm.trans hF
        have c_2 : y1.toInt ≤ v2_4.toInt := il_le c_2
        refine lv_iload_n hx hb dX12_richest_39 rfl (lv_at hl 1 rfl) ?_
        exact W.iret (v := v1_4) hx hb hr (fun t ht hW => ⟨⟨v1_4, (), rfl, ⟨hF.trans hfz.symm, trivial⟩, ht⟩, hS.F ht⟩) hS.2.2 dX12_richest_40
      · have hF := (if_neg c_2).symm.trans hF
        have c_2 : v2_4.toInt < y1.toInt := il_nle c_2
        refine lv_aload_n hx hb dX12_richest_12 rfl (lv_at hl 2 rfl) ?_
        refine va_get (D := (dC, dI)) (ci := 12) (v := .ref (ad 8)) (C := RX12) (T := TX12) (N := 46) hx hb hts inG12 hown hK hP 0 (gM_0 cs ad mu) rfl 10 (by decide) (hts _ (List.mem_cons_of_mem _ mw_5_51)) (fun _ h9 => h9) rfl dX12_richest_13 ?_
        refine lv_iload_n hx hb dX12_richest_16 rfl (lv_at hl 0 rfl) ?_
        refine va_iald hx hb hK hP 8 0 (gM_8 cs ad mu) rfl (show vp_in v2_4 7 from vi_of (by omega) (by omega)) dX12_richest_17 ?_
        refine lv_topi (fun y3 ey3 => ?_)
        have hF := mi_let hF ey3
        have by3 : y3.toInt = (mu 8 v2_4.toNatClampNeg).toInt := congrArg Int32.toInt ey3
        refine lv_iload_n hx hb dX12_richest_18 rfl (lv_at hl 1 rfl) ?_
        refine lv_icmp_le (tgt := 31) hx hb dX12_richest_19 (by decide) (fun c_4 => ?_) (fun c_4 => ?_)
        · have hF := (if_pos c_4).symm.trans hF
          have c_4 : y3.toInt ≤ v1_4.toInt := il_le c_4
          refine lv_iload_n hx hb dX12_richest_31 rfl (lv_at hl 1 rfl) ?_
          refine lv_istore_n (lv' := [(1, .int v1_4), (2, .int v2_4), (0, .ref (ad 0))]) hx hb dX12_richest_32 rfl hl (by decide) rfl (fun ls hl => ?_)
          refine lv_iinc (v := (v2_4 + 1)) (lv' := [(2, .int (v2_4 + 1)), (1, .int v1_4), (0, .ref (ad 0))]) hx hb dX12_richest_33 hl (k := 1) rfl rfl (by decide) rfl (fun ls hl => ?_)
          refine loc_gen (P := fun w9 => lv_has ls 3 [(2, .int w9), (1, .int v1_4), (0, .ref (ad 0))]) (v2_4 + 1) hl (fun w5 hw5 hl => ?_)
          have hl : lv_has ls 3 [(2, .int w5), (1, .int v1_4), (0, .ref (ad 0))] := hl
          have hF := mi_let hF hw5.symm
          have aw5 : w5.toInt = v2_4.toInt + 1 := by rw [← hw5]; exact tI_add (rfl : v2_4.toInt = _) (rfl : (1 : Int32).toInt = 1) (by omega) (by omega)
          refine lv_goto (tgt := 4) hx hb dX12_richest_36 (by decide) ?_
          exact ih4 (v1_4) (w5)  _ _ (by omega) (by exact ⟨by omega, by omega⟩)   hF hS (lv_sub hl [0, 1, 2] rfl)
        · have hF := (if_neg c_4).symm.trans hF
          have c_4 : v1_4.toInt < y3.toInt := il_nle c_4
          refine lv_aload_n hx hb dX12_richest_22 rfl (lv_at hl 2 rfl) ?_
          refine va_get (D := (dC, dI)) (ci := 12) (v := .ref (ad 8)) (C := RX12) (T := TX12) (N := 46) hx hb hts inG12 hown hK hP 0 (gM_0 cs ad mu) rfl 10 (by decide) (hts _ (List.mem_cons_of_mem _ mw_5_51)) (fun _ h9 => h9) rfl dX12_richest_23 ?_
          refine lv_iload_n hx hb dX12_richest_26 rfl (lv_at hl 0 rfl) ?_
          refine va_iald hx hb hK hP 8 0 (gM_8 cs ad mu) rfl (show vp_in v2_4 7 from vi_of (by omega) (by omega)) dX12_richest_27 ?_
          refine lq_i y3 ey3.symm ?_
          refine lv_goto (tgt := 32) hx hb dX12_richest_28 (by decide) ?_
          refine lv_istore_n (lv' := [(1, .int y3), (2, .int v2_4), (0, .ref (ad 0))]) hx hb dX12_richest_32 rfl hl (by decide) rfl (fun ls hl => ?_)
          refine lv_iinc (v := (v2_4 + 1)) (lv' := [(2, .int (v2_4 + 1)), (1, .int y3), (0, .ref (ad 0))]) hx hb dX12_richest_33 hl (k := 1) rfl rfl (by decide) rfl (fun ls hl => ?_)
          refine loc_gen (P := fun w9 => lv_has ls 3 [(2, .int w9), (1, .int y3), (0, .ref (ad 0))]) (v2_4 + 1) hl (fun w6 hw6 hl => ?_)
          have hl : lv_has ls 3 [(2, .int w6), (1, .int y3), (0, .ref (ad 0))] := hl
          have hF := mi_let hF hw6.symm
          have aw6 : w6.toInt = v2_4.toInt + 1 := by rw [← hw6]; exact tI_add (rfl : v2_4.toInt = _) (rfl : (1 : Int32).toInt = 1) (by omega) (by omega)
          refine lv_goto (tgt := 4) hx hb dX12_richest_36 (by decide) ?_
          exact ih4 (y3) (w6)  _ _ (by omega) (by exact ⟨by omega, by omega⟩)   hF hS (lv_sub hl [0, 1, 2] rfl)
  exact loop4 10 (0) (0)  _ _ (by have h80 : (0 : Int32).toInt = 0 := rfl; have h81 : (0 : Int32).toInt = 0 := rfl; omega) (by have h80 : (0 : Int32).toInt = 0 := rfl; exact ⟨by omega, by omega⟩)   hF hS hl
