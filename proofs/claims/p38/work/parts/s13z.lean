set_option maxHeartbeats 4000000 in
set_option maxRecDepth 100000 in
/-- sx_bitCount -/
theorem sx_bitCount (l : Launch) (dC : Nat → ClassId) (dI : Nat → Nat → Nat) (tys : List (ClassId × FieldType)) (H : Heap) (va : Int32) : Met l yJ6_bitCount_0f7a4 (wU yJ6_bitCount_0f7a4 cJ6_bitCount_0f7a4 1 (some .int)) ({ frames := 0, cells := 0, slots := 0, locals := 0 }) (va_Pc [.int va] (sz_P (dC, dI) vwCl tys H)) (va_Qi (fun (z : Int32) (_ : Unit) => z = F_sx_bitCount va ∧ (True)) (fun _ t => t.heap = H) (fun _ => False)) 0 0 (fun _ => False) := by
  refine Met.ofW (cc := cJ6_bitCount_0f7a4) (maxL := 1) (ret := (some .int)) (by decide) rfl ?_
  intro p e s m args below meth c s₁ B hml hv
  obtain ⟨rfl, hh, hK, hz⟩ := hv
  have hx := B.exec
  have hb := B.bytes
  have hr := B.returns
  have hts := atoms_spec (ws := (wU yJ6_bitCount_0f7a4 cJ6_bitCount_0f7a4 1 (some .int))) B.pre
  have hown : s.vm.findClass RJ6 = some m.cls := findClass_of_methodNamed B.named
  have hlocks := B.notSynchronized
  subst hh
  have hS : va_S (fun _ => False) s.heap s.heap [] := va_S.rf
  have hl := lv_entry ([.int va]) (n := 1) (Nat.le_of_ble_eq_true rfl)
  rw [lg_entry_eq]
  generalize (lg_sl ([.int va]) ++ List.replicate (1 - (lg_sl ([.int va])).length) Slot.unset).toArray = ls at hl ⊢
  have hl : lv_has ls 1 [(0, .int va)] := hl
  obtain ⟨fz, hfz⟩ : ∃ z, F_sx_bitCount va = z := ⟨_, rfl⟩
  have hF := hfz
  unfold F_sx_bitCount at hF
  refine lv_iload_n hx hb dJ6_bitCount_0f7a4_0 rfl (lv_at hl 0 rfl) ?_
  refine lv_iload_n hx hb dJ6_bitCount_0f7a4_1 rfl (lv_at hl 0 rfl) ?_
  refine lv_iconst (v := 1) hx hb dJ6_bitCount_0f7a4_2 (by decide) ?_
  refine lv_iushr hx hb dJ6_bitCount_0f7a4_3 rfl ?_
  refine lv_topi (fun t1 et1 => ?_)
  have hF := mi_let hF et1
  refine lv_ldcw (v := 1431655765) hx hb hown (hts _ (List.mem_cons_of_mem _ mw_3_91)) dJ6_bitCount_0f7a4_4 ?_
  refine lv_iand hx hb dJ6_bitCount_0f7a4_7 ?_
  refine lv_topi (fun t2 et2 => ?_)
  have hF := mi_let hF et2
  refine lv_isub hx hb dJ6_bitCount_0f7a4_8 ?_
  refine lv_topi (fun t3 et3 => ?_)
  have hF := mi_let hF et3
  refine lv_istore_n (lv' := [(0, .int t3)]) hx hb dJ6_bitCount_0f7a4_9 rfl hl (by decide) rfl (fun ls hl => ?_)
  refine lv_iload_n hx hb dJ6_bitCount_0f7a4_10 rfl (lv_at hl 0 rfl) ?_
  refine lv_ldcw (v := 858993459) hx hb hown (hts _ (List.mem_cons_of_mem _ mw_3_92)) dJ6_bitCount_0f7a4_11 ?_
  refine lv_iand hx hb dJ6_bitCount_0f7a4_14 ?_
  refine lv_topi (fun t4 et4 => ?_)
  have hF := mi_let hF et4
  refine lv_iload_n hx hb dJ6_bitCount_0f7a4_15 rfl (lv_at hl 0 rfl) ?_
  refine lv_iconst (v := 2) hx hb dJ6_bitCount_0f7a4_16 (by decide) ?_
  refine lv_iushr hx hb dJ6_bitCount_0f7a4_17 rfl ?_
  refine lv_topi (fun t5 et5 => ?_)
  have hF := mi_let hF et5
  refine lv_ldcw (v := 858993459) hx hb hown (hts _ (List.mem_cons_of_mem _ mw_3_92)) dJ6_bitCount_0f7a4_18 ?_
  refine lv_iand hx hb dJ6_bitCount_0f7a4_21 ?_
  refine lv_topi (fun t6 et6 => ?_)
  have hF := mi_let hF et6
  refine lv_iadd hx hb dJ6_bitCount_0f7a4_22 ?_
  refine lv_topi (fun t7 et7 => ?_)
  have hF := mi_let hF et7
  refine lv_istore_n (lv' := [(0, .int t7)]) hx hb dJ6_bitCount_0f7a4_23 rfl hl (by decide) rfl (fun ls hl => ?_)
  refine lv_iload_n hx hb dJ6_bitCount_0f7a4_24 rfl (lv_at hl 0 rfl) ?_
  refine lv_iload_n hx hb dJ6_bitCount_0f7a4_25 rfl (lv_at hl 0 rfl) ?_
  refine lv_iconst (v := 4) hx hb dJ6_bitCount_0f7a4_26 (by decide) ?_
  refine lv_iushr hx hb dJ6_bitCount_0f7a4_27 rfl ?_
  refine lv_topi (fun t8 et8 => ?_)
  have hF := mi_let hF et8
  refine lv_iadd hx hb dJ6_bitCount_0f7a4_28 ?_
  refine lv_topi (fun t9 et9 => ?_)
  have hF := mi_let hF et9
  refine lv_ldcw (v := 252645135) hx hb hown (hts _ (List.mem_cons_of_mem _ mw_3_93)) dJ6_bitCount_0f7a4_29 ?_
  refine lv_iand hx hb dJ6_bitCount_0f7a4_32 ?_
  refine lv_topi (fun t10 et10 => ?_)
  have hF := mi_let hF et10
  refine lv_istore_n (lv' := [(0, .int t10)]) hx hb dJ6_bitCount_0f7a4_33 rfl hl (by decide) rfl (fun ls hl => ?_)
  refine lv_iload_n hx hb dJ6_bitCount_0f7a4_34 rfl (lv_at hl 0 rfl) ?_
  refine lv_iload_n hx hb dJ6_bitCount_0f7a4_35 rfl (lv_at hl 0 rfl) ?_
  refine lv_bipush (v := 8) hx hb dJ6_bitCount_0f7a4_36 (by decide) ?_
  refine lv_iushr hx hb dJ6_bitCount_0f7a4_38 rfl ?_
  refine lv_topi (fun t11 et11 => ?_)
  have hF := mi_let hF et11
  refine lv_iadd hx hb dJ6_bitCount_0f7a4_39 ?_
  refine lv_topi (fun t12 et12 => ?_)
  have hF := mi_let hF et12
  refine lv_istore_n (lv' := [(0, .int t12)]) hx hb dJ6_bitCount_0f7a4_40 rfl hl (by decide) rfl (fun ls hl => ?_)
  refine lv_iload_n hx hb dJ6_bitCount_0f7a4_41 rfl (lv_at hl 0 rfl) ?_
  refine lv_iload_n hx hb dJ6_bitCount_0f7a4_42 rfl (lv_at hl 0 rfl) ?_
  refine lv_bipush (v := 16) hx hb dJ6_bitCount_0f7a4_43 (by decide) ?_
  refine lv_iushr hx hb dJ6_bitCount_0f7a4_45 rfl ?_
  refine lv_topi (fun t13 et13 => ?_)
  have hF := mi_let hF et13
  refine lv_iadd hx hb dJ6_bitCount_0f7a4_46 ?_
  refine lv_topi (fun t14 et14 => ?_)
  have hF := mi_let hF et14
  refine lv_istore_n (lv' := [(0, .int t14)]) hx hb dJ6_bitCount_0f7a4_47 rfl hl (by decide) rfl (fun ls hl => ?_)
  refine lv_iload_n hx hb dJ6_bitCount_0f7a4_48 rfl (lv_at hl 0 rfl) ?_
  refine lv_bipush (v := 63) hx hb dJ6_bitCount_0f7a4_49 (by decide) ?_
  refine lv_iand hx hb dJ6_bitCount_0f7a4_51 ?_
  refine lv_topi (fun t15 et15 => ?_)
  have hF := mi_let hF et15
  exact W.iret (v := t15) hx hb hr (fun t ht hW => ⟨⟨t15, (), rfl, ⟨hF.trans hfz.symm, trivial⟩, ht⟩, hS.F ht⟩) hS.2.2 dJ6_bitCount_0f7a4_52
set_option maxHeartbeats 4000000 in
set_option maxRecDepth 100000 in
/-- sx_commonDivisor -/
theorem sx_commonDivisor (l : Launch) (dC : Nat → ClassId) (dI : Nat → Nat → Nat) (tys : List (ClassId × FieldType)) (H : Heap) (la : Int64) (lb : Int64) : Met l yX11_commonDivisor (wU yX11_commonDivisor cX11_commonDivisor 11 (some .long)) ({ frames := 0, cells := 0, slots := 0, locals := 0 }) (va_Pc [.long la, .long lb] (sz_P (dC, dI) vwCl tys H)) (va_Ql (fun (z : Int64) (_ : Unit) => z = F_sx_commonDivisor la lb ∧ (True)) (fun _ t => t.heap = H) (fun _ => False)) 0 0 (fun _ => False) := by
  refine Met.ofW (cc := cX11_commonDivisor) (maxL := 11) (ret := (some .long)) (by decide) rfl ?_
  intro p e s m args below meth c s₁ B hml hv
  obtain ⟨rfl, hh, hK, hz⟩ := hv
  have hx := B.exec
  have hb := B.bytes
  have hr := B.returns
  have hts := atoms_spec (ws := (wU yX11_commonDivisor cX11_commonDivisor 11 (some .long))) B.pre
  have hown : s.vm.findClass RX11 = some m.cls := findClass_of_methodNamed B.named
  have hlocks := B.notSynchronized
  subst hh
  have hS : va_S (fun _ => False) s.heap s.heap [] := va_S.rf
  have hl := lv_entry ([.long la, .long lb]) (n := 11) (Nat.le_of_ble_eq_true rfl)
  rw [lg_entry_eq]
  generalize (lg_sl ([.long la, .long lb]) ++ List.replicate (11 - (lg_sl ([.long la, .long lb])).length) Slot.unset).toArray = ls at hl ⊢
  have hl : lv_has ls 11 [(0, .long la), (2, .long lb)] := hl
  obtain ⟨fz, hfz⟩ : ∃ z, F_sx_commonDivisor la lb = z := ⟨_, rfl⟩
  have hF := hfz
  unfold F_sx_commonDivisor at hF
  refine lv_lload_n hx hb dX11_commonDivisor_0 rfl (lv_at hl 0 rfl) ?_
  refine lv_lstore (lv' := [(4, .long la), (0, .long la), (2, .long lb)]) hx hb dX11_commonDivisor_1 hl (by decide) rfl (fun ls hl => ?_)
  refine lv_lload_n hx hb dX11_commonDivisor_3 rfl (lv_at hl 2 rfl) ?_
  refine lv_lstore (lv' := [(6, .long lb), (4, .long la), (0, .long la), (2, .long lb)]) hx hb dX11_commonDivisor_4 hl (by decide) rfl (fun ls hl => ?_)
  refine lv_iconst (v := 0) hx hb dX11_commonDivisor_6 (by decide) ?_
  refine lv_istore (lv' := [(8, .int 0), (6, .long lb), (4, .long la), (0, .long la), (2, .long lb)]) hx hb dX11_commonDivisor_7 hl (by decide) rfl (fun ls hl => ?_)
  have loop9 : ∀ (n9 : Nat) (v4_9 : Int64) (v6_9 : Int64) (v8_9 : Int32) (locs : List Loc) (ls : Array Slot), (128 + 1 - v8_9.toInt).toNat < n9 → (0 ≤ v8_9.toInt ∧ v8_9.toInt ≤ 128) → L_sx_commonDivisor_9_0 n9 v4_9 v6_9 v8_9 = fz → va_S (fun _ => False) s.heap s.heap locs → lv_has ls 11 [(8, .int v8_9), (6, .long v6_9), (4, .long v4_9), (0, .long la), (2, .long lb)] → W p l e (headSpec (wU yX11_commonDivisor cX11_commonDivisor 11 (some .long)) ({ frames := 0, cells := 0, slots := 0, locals := 0 })).room s m ([.long la, .long lb] : List Value).toArray below meth c s.heap locs 0 0 (MQ below (va_Ql (fun (z : Int64) (_ : Unit) => z = F_sx_commonDivisor la lb ∧ (True)) (fun _ t => t.heap = s.heap) (fun _ => False)) ([.long la, .long lb] : List Value).toArray s 0 0 (fun _ => False)) (F0 m 9 ls []) := by
    intro n9
    induction n9 with
    | zero => intro v4_9 v6_9 v8_9 locs ls hm; exact absurd hm (Nat.not_lt_zero _)
    | succ n9 ih9 =>
      intro v4_9 v6_9 v8_9 locs ls hm_9 h_v8_9 hF hS hl
      rw [L_sx_commonDivisor_9_0] at hF
      refine lv_iload hx hb dX11_commonDivisor_9 (lv_at hl 0 rfl) ?_
      refine lv_sipush (v := 128) hx hb dX11_commonDivisor_11 (by decide) ?_
      refine lv_icmp_ge (tgt := 45) hx hb dX11_commonDivisor_14 (by decide) (fun c_1 => ?_) (fun c_1 => ?_)
      · have hF := (if_pos c_1).symm.trans hF
        have c_1 : 128 ≤ v8_9.toInt := il_le c_1
        refine lv_lload hx hb dX11_commonDivisor_45 (lv_at hl 2 rfl) ?_
        exact W.lret (v := v4_9) hx hb hr (fun t ht hW => ⟨⟨v4_9, (), rfl, ⟨hF.trans hfz.symm, trivial⟩, ht⟩, hS.F ht⟩) hS.2.2 dX11_commonDivisor_47
      · have hF := (if_neg c_1).symm.trans hF
        have c_1 : v8_9.toInt < 128 := il_nle c_1
        refine lv_lload hx hb dX11_commonDivisor_17 (lv_at hl 1 rfl) ?_
        refine lv_lconst (v := 0) hx hb dX11_commonDivisor_19 (by decide) ?_
        refine W.lcmp hx hb dX11_commonDivisor_20 ?_
        refine lv_topi (fun t2 et2 => ?_)
        have hF := mi_let hF et2
        refine lv_if_eq (tgt := 45) hx hb dX11_commonDivisor_21 (by decide) (fun c_3 => ?_) (fun c_3 => ?_)
        · have hF := (if_pos c_3).symm.trans hF
          have c_3 : t2.toInt = 0 := il_eq c_3
          refine lv_lload hx hb dX11_commonDivisor_45 (lv_at hl 2 rfl) ?_
          exact W.lret (v := v4_9) hx hb hr (fun t ht hW => ⟨⟨v4_9, (), rfl, ⟨hF.trans hfz.symm, trivial⟩, ht⟩, hS.F ht⟩) hS.2.2 dX11_commonDivisor_47
        · have hF := (if_neg c_3).symm.trans hF
          have c_3 : ¬ t2.toInt = 0 := il_ne c_3
          refine lv_lload hx hb dX11_commonDivisor_24 (lv_at hl 2 rfl) ?_
          refine lv_lload hx hb dX11_commonDivisor_26 (lv_at hl 1 rfl) ?_
          refine lv_lrem hx hb dX11_commonDivisor_28 (fun h9 => absurd (show t2.toInt = 0 by rw [et2, h9]; decide) c_3) ?_
          refine lv_topl (fun l4 el4 => ?_)
          have hF := mi_let hF el4
          refine lv_lstore (lv' := [(9, .long l4), (8, .int v8_9), (6, .long v6_9), (4, .long v4_9), (0, .long la), (2, .long lb)]) hx hb dX11_commonDivisor_29 hl (by decide) rfl (fun ls hl => ?_)
          refine lv_lload hx hb dX11_commonDivisor_31 (lv_at hl 2 rfl) ?_
          refine lv_lstore (lv' := [(4, .long v6_9), (9, .long l4), (8, .int v8_9), (6, .long v6_9), (0, .long la), (2, .long lb)]) hx hb dX11_commonDivisor_33 hl (by decide) rfl (fun ls hl => ?_)
          refine lv_lload hx hb dX11_commonDivisor_35 (lv_at hl 1 rfl) ?_
          refine lv_lstore (lv' := [(6, .long l4), (4, .long v6_9), (9, .long l4), (8, .int v8_9), (0, .long la), (2, .long lb)]) hx hb dX11_commonDivisor_37 hl (by decide) rfl (fun ls hl => ?_)
          refine lv_iinc (v := (v8_9 + 1)) (lv' := [(8, .int (v8_9 + 1)), (6, .long l4), (4, .long v6_9), (9, .long l4), (0, .long la), (2, .long lb)]) hx hb dX11_commonDivisor_39 hl (k := 3) rfl rfl (by decide) rfl (fun ls hl => ?_)
          refine loc_gen (P := fun w9 => lv_has ls 11 [(8, .int w9), (6, .long l4), (4, .long v6_9), (9, .long l4), (0, .long la), (2, .long lb)]) (v8_9 + 1) hl (fun w5 hw5 hl => ?_)
          have hl : lv_has ls 11 [(8, .int w5), (6, .long l4), (4, .long v6_9), (9, .long l4), (0, .long la), (2, .long lb)] := hl
          have hF := mi_let hF hw5.symm
          have aw5 : w5.toInt = v8_9.toInt + 1 := by rw [← hw5]; exact va1 (by omega)
          refine lv_goto (tgt := 9) hx hb dX11_commonDivisor_42 (by decide) ?_
          exact ih9 (v6_9) (l4) (w5)  _ _ (by first | exact ms_lt hm_9 (by omega) (by omega) | omega) (by omega)   hF hS (lv_sub hl [0, 1, 2, 4, 5] rfl)
  exact loop9 131 (la) (lb) (0)  _ _ (by have h82 : (0 : Int32).toInt = 0 := rfl; omega) (by have h80 : (0 : Int32).toInt = 0 := rfl; exact ⟨by omega, by omega⟩)   hF hS hl
set_option maxHeartbeats 4000000 in
set_option maxRecDepth 100000 in
/-- sx_richestPurse -/
theorem sx_richestPurse (l : Launch) (dC : Nat → ClassId) (dI : Nat → Nat → Nat) (cs : Nat → ClassId) (ad : Nat → Nat) (mu : Nat → Nat → Int32) (ok : okR loX hiX mu) (H : Heap) (hP : va_P (dC, dI) vwCl (wR 157 ad (EX cs ad) mu) H) : Met l yX10_richestPurse (wU yX10_richestPurse cX10_richestPurse 4 (some .long)) ({ frames := 1, cells := 0, slots := 0, locals := 30 }) (va_Pc [.ref (ad 4)] (sz_P (dC, dI) vwCl (tyW cs) H)) (va_Ql (fun (z : Int64) (_ : Unit) => z = F_sx_richestPurse mu ∧ (True)) (fun _ t => t.heap = H) (fun _ => False)) 0 0 (fun _ => False) := by
  refine Met.ofW (cc := cX10_richestPurse) (maxL := 4) (ret := (some .long)) (by decide) rfl ?_
  intro p e s m args below meth c s₁ B hml hv
  obtain ⟨rfl, hh, hK, hz⟩ := hv
  have hx := B.exec
  have hb := B.bytes
  have hr := B.returns
  have hts := atoms_spec (ws := (wU yX10_richestPurse cX10_richestPurse 4 (some .long))) B.pre
  have hown : s.vm.findClass RX10 = some m.cls := findClass_of_methodNamed B.named
  have hlocks := B.notSynchronized
  subst hh
  have hS : va_S (fun _ => False) s.heap s.heap [] := va_S.rf
  have hl := lv_entry ([.ref (ad 4)]) (n := 4) (Nat.le_of_ble_eq_true rfl)
  rw [lg_entry_eq]
  generalize (lg_sl ([.ref (ad 4)]) ++ List.replicate (4 - (lg_sl ([.ref (ad 4)])).length) Slot.unset).toArray = ls at hl ⊢
  have hl : lv_has ls 4 [(0, .ref (ad 4))] := hl
  obtain ⟨fz, hfz⟩ : ∃ z, F_sx_richestPurse mu = z := ⟨_, rfl⟩
  have hF := hfz
  unfold F_sx_richestPurse at hF
  refine lv_lconst (v := 0) hx hb dX10_richestPurse_0 (by decide) ?_
  refine lv_lstore_n (lv' := [(1, .long 0), (0, .ref (ad 4))]) hx hb dX10_richestPurse_1 rfl hl (by decide) rfl (fun ls hl => ?_)
  refine lv_iconst (v := 0) hx hb dX10_richestPurse_2 (by decide) ?_
  refine lv_istore_n (lv' := [(3, .int 0), (1, .long 0), (0, .ref (ad 4))]) hx hb dX10_richestPurse_3 rfl hl (by decide) rfl (fun ls hl => ?_)
  have loop4 : ∀ (n4 : Nat) (v1_4 : Int64) (v3_4 : Int32) (locs : List Loc) (ls : Array Slot), (7 + 1 - v3_4.toInt).toNat < n4 → (0 ≤ v3_4.toInt ∧ v3_4.toInt ≤ 7) → L_sx_richestPurse_4_0 mu n4 v1_4 v3_4 = fz → va_S (fun _ => False) s.heap s.heap locs → lv_has ls 4 [(3, .int v3_4), (1, .long v1_4), (0, .ref (ad 4))] → W p l e (headSpec (wU yX10_richestPurse cX10_richestPurse 4 (some .long)) ({ frames := 1, cells := 0, slots := 0, locals := 30 })).room s m ([.ref (ad 4)] : List Value).toArray below meth c s.heap locs 0 0 (MQ below (va_Ql (fun (z : Int64) (_ : Unit) => z = F_sx_richestPurse mu ∧ (True)) (fun _ t => t.heap = s.heap) (fun _ => False)) ([.ref (ad 4)] : List Value).toArray s 0 0 (fun _ => False)) (F0 m 4 ls []) := by
    intro n4
    induction n4 with
    | zero => intro v1_4 v3_4 locs ls hm; exact absurd hm (Nat.not_lt_zero _)
    | succ n4 ih4 =>
      intro v1_4 v3_4 locs ls hm_4 h_v3_4 hF hS hl
      rw [L_sx_richestPurse_4_0] at hF
      refine lv_iload_n hx hb dX10_richestPurse_4 rfl (lv_at hl 0 rfl) ?_
      refine lv_aload_n hx hb dX10_richestPurse_5 rfl (lv_at hl 2 rfl) ?_
      refine va_get (D := (dC, dI)) (ci := 10) (v := .int (mu 4 6)) (C := RX10) (T := TX10) (N := 8) hx hb hts inG10 hown hK hP 4 (gX_4 cs ad mu) rfl 6 (by decide) (hts _ (List.mem_cons_of_mem _ mw_1_160)) (fun _ h9 => h9) rfl dX10_richestPurse_6 ?_
      refine lv_topi (fun y1 ey1 => ?_)
      have hF := mi_let hF ey1
      have by1 : y1.toInt = (mu 4 6).toInt := congrArg Int32.toInt ey1
      have gy1 : 0 ≤ y1.toInt ∧ y1.toInt ≤ 7 := by rw [ey1]; exact rX_4_6 ok
      refine lv_icmp_ge (tgt := 33) hx hb dX10_richestPurse_9 (by decide) (fun c_2 => ?_) (fun c_2 => ?_)
      · have hF := (if_pos c_2).symm.trans hF
        have c_2 : y1.toInt ≤ v3_4.toInt := il_le c_2
        refine lv_lload_n hx hb dX10_richestPurse_33 rfl (lv_at hl 1 rfl) ?_
        exact W.lret (v := v1_4) hx hb hr (fun t ht hW => ⟨⟨v1_4, (), rfl, ⟨hF.trans hfz.symm, trivial⟩, ht⟩, hS.F ht⟩) hS.2.2 dX10_richestPurse_34
      · have hF := (if_neg c_2).symm.trans hF
        have c_2 : v3_4.toInt < y1.toInt := il_nle c_2
        refine lv_lload_n hx hb dX10_richestPurse_12 rfl (lv_at hl 1 rfl) ?_
        refine lv_aload_n hx hb dX10_richestPurse_13 rfl (lv_at hl 2 rfl) ?_
        refine va_get (D := (dC, dI)) (ci := 10) (v := .ref (ad 5)) (C := RX10) (T := TX10) (N := 8) hx hb hts inG10 hown hK hP 4 (gX_4 cs ad mu) rfl 3 (by decide) (hts _ (List.mem_cons_of_mem _ mw_1_152)) (fun _ h9 => h9) rfl dX10_richestPurse_14 ?_
        refine va_get (D := (dC, dI)) (ci := 8) (v := .ref (ad 46)) (C := RX8) (T := TX8) (N := 6) hx hb hts inG8 hown hK hP 5 (gX_5 cs ad mu) rfl 0 (by decide) (hts _ (List.mem_cons_of_mem _ mw_1_106)) (fun _ h9 => h9) rfl dX10_richestPurse_17 ?_
        refine lv_iload_n hx hb dX10_richestPurse_20 rfl (lv_at hl 0 rfl) ?_
        refine va_iald hx hb hK hP 46 0 (gX_46 cs ad mu) rfl (show vp_in v3_4 7 from vi_of (by omega) (by omega)) dX10_richestPurse_21 ?_
        refine lv_topi (fun y3 ey3 => ?_)
        have hF := mi_let hF ey3
        have by3 : y3.toInt = (mu 46 v3_4.toNatClampNeg).toInt := congrArg Int32.toInt ey3
        refine lv_i2l hx hb dX10_richestPurse_22 rfl ?_
        refine lv_topl (fun l4 el4 => ?_)
        have hF := mi_let hF el4
        refine va_mmax_long hx hb (hml.trans hl.1.symm) hown (hts _ (List.mem_cons_of_mem _ mw_4_208)) (hts _ (List.mem_cons_of_mem _ mw_4_209)) (hts _ (List.mem_cons_of_mem _ mw_1_17)) (hts _ (List.mem_cons_of_mem _ mw_4_210)) (Nat.le_of_ble_eq_true rfl) (Nat.le_of_ble_eq_true rfl) (Nat.zero_le _) (Nat.zero_le _) dX10_richestPurse_23 ?_
        refine lv_topl (fun t5 et5 => ?_)
        have hF := mi_let hF et5
        refine lv_lstore_n (lv' := [(1, .long t5), (3, .int v3_4), (0, .ref (ad 4))]) hx hb dX10_richestPurse_26 rfl hl (by decide) rfl (fun ls hl => ?_)
        refine lv_iinc (v := (v3_4 + 1)) (lv' := [(3, .int (v3_4 + 1)), (1, .long t5), (0, .ref (ad 4))]) hx hb dX10_richestPurse_27 hl (k := 1) rfl rfl (by decide) rfl (fun ls hl => ?_)
        refine loc_gen (P := fun w9 => lv_has ls 4 [(3, .int w9), (1, .long t5), (0, .ref (ad 4))]) (v3_4 + 1) hl (fun w6 hw6 hl => ?_)
        have hl : lv_has ls 4 [(3, .int w6), (1, .long t5), (0, .ref (ad 4))] := hl
        have hF := mi_let hF hw6.symm
        have aw6 : w6.toInt = v3_4.toInt + 1 := by rw [← hw6]; exact va1 (by omega)
        refine lv_goto (tgt := 4) hx hb dX10_richestPurse_30 (by decide) ?_
        exact ih4 (t5) (w6)  _ _ (by first | exact ms_lt hm_4 (by omega) (by omega) | omega) (by omega)   hF hS (lv_sub hl [0, 1, 2] rfl)
  exact loop4 10 (0) (0)  _ _ (by have h81 : (0 : Int32).toInt = 0 := rfl; omega) (by have h80 : (0 : Int32).toInt = 0 := rfl; exact ⟨by omega, by omega⟩)   hF hS hl
set_option maxHeartbeats 4000000 in
set_option maxRecDepth 100000 in
/-- sx_allPurses -/
theorem sx_allPurses (l : Launch) (dC : Nat → ClassId) (dI : Nat → Nat → Nat) (cs : Nat → ClassId) (ad : Nat → Nat) (mu : Nat → Nat → Int32) (ok : okR loX hiX mu) (H : Heap) (hP : va_P (dC, dI) vwCl (wR 157 ad (EX cs ad) mu) H) : Met l yX10_allPurses (wU yX10_allPurses cX10_allPurses 4 (some .long)) ({ frames := 0, cells := 0, slots := 0, locals := 0 }) (va_Pc [.ref (ad 4)] (sz_P (dC, dI) vwCl (tyW cs) H)) (va_Ql (fun (z : Int64) (_ : Unit) => z = F_sx_allPurses mu ∧ (True)) (fun _ t => t.heap = H) (fun _ => False)) 0 0 (fun _ => False) := by
  refine Met.ofW (cc := cX10_allPurses) (maxL := 4) (ret := (some .long)) (by decide) rfl ?_
  intro p e s m args below meth c s₁ B hml hv
  obtain ⟨rfl, hh, hK, hz⟩ := hv
  have hx := B.exec
  have hb := B.bytes
  have hr := B.returns
  have hts := atoms_spec (ws := (wU yX10_allPurses cX10_allPurses 4 (some .long))) B.pre
  have hown : s.vm.findClass RX10 = some m.cls := findClass_of_methodNamed B.named
  have hlocks := B.notSynchronized
  subst hh
  have hS : va_S (fun _ => False) s.heap s.heap [] := va_S.rf
  have hl := lv_entry ([.ref (ad 4)]) (n := 4) (Nat.le_of_ble_eq_true rfl)
  rw [lg_entry_eq]
  generalize (lg_sl ([.ref (ad 4)]) ++ List.replicate (4 - (lg_sl ([.ref (ad 4)])).length) Slot.unset).toArray = ls at hl ⊢
  have hl : lv_has ls 4 [(0, .ref (ad 4))] := hl
  obtain ⟨fz, hfz⟩ : ∃ z, F_sx_allPurses mu = z := ⟨_, rfl⟩
  have hF := hfz
  unfold F_sx_allPurses at hF
  refine lv_lconst (v := 0) hx hb dX10_allPurses_0 (by decide) ?_
  refine lv_lstore_n (lv' := [(1, .long 0), (0, .ref (ad 4))]) hx hb dX10_allPurses_1 rfl hl (by decide) rfl (fun ls hl => ?_)
  refine lv_iconst (v := 0) hx hb dX10_allPurses_2 (by decide) ?_
  refine lv_istore_n (lv' := [(3, .int 0), (1, .long 0), (0, .ref (ad 4))]) hx hb dX10_allPurses_3 rfl hl (by decide) rfl (fun ls hl => ?_)
  have loop4 : ∀ (n4 : Nat) (v1_4 : Int64) (v3_4 : Int32) (locs : List Loc) (ls : Array Slot), (7 + 1 - v3_4.toInt).toNat < n4 → (0 ≤ v3_4.toInt ∧ v3_4.toInt ≤ 7) → L_sx_allPurses_4_0 mu n4 v1_4 v3_4 = fz → va_S (fun _ => False) s.heap s.heap locs → lv_has ls 4 [(3, .int v3_4), (1, .long v1_4), (0, .ref (ad 4))] → W p l e (headSpec (wU yX10_allPurses cX10_allPurses 4 (some .long)) ({ frames := 0, cells := 0, slots := 0, locals := 0 })).room s m ([.ref (ad 4)] : List Value).toArray below meth c s.heap locs 0 0 (MQ below (va_Ql (fun (z : Int64) (_ : Unit) => z = F_sx_allPurses mu ∧ (True)) (fun _ t => t.heap = s.heap) (fun _ => False)) ([.ref (ad 4)] : List Value).toArray s 0 0 (fun _ => False)) (F0 m 4 ls []) := by
    intro n4
    induction n4 with
    | zero => intro v1_4 v3_4 locs ls hm; exact absurd hm (Nat.not_lt_zero _)
    | succ n4 ih4 =>
      intro v1_4 v3_4 locs ls hm_4 h_v3_4 hF hS hl
      rw [L_sx_allPurses_4_0] at hF
      refine lv_iload_n hx hb dX10_allPurses_4 rfl (lv_at hl 0 rfl) ?_
      refine lv_aload_n hx hb dX10_allPurses_5 rfl (lv_at hl 2 rfl) ?_
      refine va_get (D := (dC, dI)) (ci := 10) (v := .int (mu 4 6)) (C := RX10) (T := TX10) (N := 8) hx hb hts inG10 hown hK hP 4 (gX_4 cs ad mu) rfl 6 (by decide) (hts _ (List.mem_cons_of_mem _ mw_1_160)) (fun _ h9 => h9) rfl dX10_allPurses_6 ?_
      refine lv_topi (fun y1 ey1 => ?_)
      have hF := mi_let hF ey1
      have by1 : y1.toInt = (mu 4 6).toInt := congrArg Int32.toInt ey1
      have gy1 : 0 ≤ y1.toInt ∧ y1.toInt ≤ 7 := by rw [ey1]; exact rX_4_6 ok
      refine lv_icmp_ge (tgt := 31) hx hb dX10_allPurses_9 (by decide) (fun c_2 => ?_) (fun c_2 => ?_)
      · have hF := (if_pos c_2).symm.trans hF
        have c_2 : y1.toInt ≤ v3_4.toInt := il_le c_2
        refine lv_lload_n hx hb dX10_allPurses_31 rfl (lv_at hl 1 rfl) ?_
        exact W.lret (v := v1_4) hx hb hr (fun t ht hW => ⟨⟨v1_4, (), rfl, ⟨hF.trans hfz.symm, trivial⟩, ht⟩, hS.F ht⟩) hS.2.2 dX10_allPurses_32
      · have hF := (if_neg c_2).symm.trans hF
        have c_2 : v3_4.toInt < y1.toInt := il_nle c_2
        refine lv_lload_n hx hb dX10_allPurses_12 rfl (lv_at hl 1 rfl) ?_
        refine lv_aload_n hx hb dX10_allPurses_13 rfl (lv_at hl 2 rfl) ?_
        refine va_get (D := (dC, dI)) (ci := 10) (v := .ref (ad 5)) (C := RX10) (T := TX10) (N := 8) hx hb hts inG10 hown hK hP 4 (gX_4 cs ad mu) rfl 3 (by decide) (hts _ (List.mem_cons_of_mem _ mw_1_152)) (fun _ h9 => h9) rfl dX10_allPurses_14 ?_
        refine va_get (D := (dC, dI)) (ci := 8) (v := .ref (ad 46)) (C := RX8) (T := TX8) (N := 6) hx hb hts inG8 hown hK hP 5 (gX_5 cs ad mu) rfl 0 (by decide) (hts _ (List.mem_cons_of_mem _ mw_1_106)) (fun _ h9 => h9) rfl dX10_allPurses_17 ?_
        refine lv_iload_n hx hb dX10_allPurses_20 rfl (lv_at hl 0 rfl) ?_
        refine va_iald hx hb hK hP 46 0 (gX_46 cs ad mu) rfl (show vp_in v3_4 7 from vi_of (by omega) (by omega)) dX10_allPurses_21 ?_
        refine lv_topi (fun y3 ey3 => ?_)
        have hF := mi_let hF ey3
        have by3 : y3.toInt = (mu 46 v3_4.toNatClampNeg).toInt := congrArg Int32.toInt ey3
        refine lv_i2l hx hb dX10_allPurses_22 rfl ?_
        refine lv_topl (fun l4 el4 => ?_)
        have hF := mi_let hF el4
        refine lv_ladd hx hb dX10_allPurses_23 ?_
        refine lv_topl (fun l5 el5 => ?_)
        have hF := mi_let hF el5
        refine lv_lstore_n (lv' := [(1, .long l5), (3, .int v3_4), (0, .ref (ad 4))]) hx hb dX10_allPurses_24 rfl hl (by decide) rfl (fun ls hl => ?_)
        refine lv_iinc (v := (v3_4 + 1)) (lv' := [(3, .int (v3_4 + 1)), (1, .long l5), (0, .ref (ad 4))]) hx hb dX10_allPurses_25 hl (k := 1) rfl rfl (by decide) rfl (fun ls hl => ?_)
        refine loc_gen (P := fun w9 => lv_has ls 4 [(3, .int w9), (1, .long l5), (0, .ref (ad 4))]) (v3_4 + 1) hl (fun w6 hw6 hl => ?_)
        have hl : lv_has ls 4 [(3, .int w6), (1, .long l5), (0, .ref (ad 4))] := hl
        have hF := mi_let hF hw6.symm
        have aw6 : w6.toInt = v3_4.toInt + 1 := by rw [← hw6]; exact va1 (by omega)
        refine lv_goto (tgt := 4) hx hb dX10_allPurses_28 (by decide) ?_
        exact ih4 (l5) (w6)  _ _ (by first | exact ms_lt hm_4 (by omega) (by omega) | omega) (by omega)   hF hS (lv_sub hl [0, 1, 2] rfl)
  exact loop4 10 (0) (0)  _ _ (by have h81 : (0 : Int32).toInt = 0 := rfl; omega) (by have h80 : (0 : Int32).toInt = 0 := rfl; exact ⟨by omega, by omega⟩)   hF hS hl
set_option maxHeartbeats 4000000 in
set_option maxRecDepth 100000 in
/-- sx_unreadWith -/
theorem sx_unreadWith (l : Launch) (dC : Nat → ClassId) (dI : Nat → Nat → Nat) (cs : Nat → ClassId) (ad : Nat → Nat) (mu : Nat → Nat → Int32) (ok : okR loX hiX mu) (H : Heap) (hP : va_P (dC, dI) vwCl (wR 157 ad (EX cs ad) mu) H) (vx : Int32) : Met l yX10_unreadWith (wU yX10_unreadWith cX10_unreadWith 4 (some .int)) ({ frames := 0, cells := 0, slots := 0, locals := 0 }) (va_Pc [.ref (ad 4), .int vx] (sz_P (dC, dI) vwCl (tyW cs) H)) (va_Qi (fun (z : Int32) (_ : Unit) => z = F_sx_unreadWith mu vx ∧ (True)) (fun _ t => t.heap = H) (fun _ => False)) 0 0 (fun _ => False) := by
  refine Met.ofW (cc := cX10_unreadWith) (maxL := 4) (ret := (some .int)) (by decide) rfl ?_
  intro p e s m args below meth c s₁ B hml hv
  obtain ⟨rfl, hh, hK, hz⟩ := hv
  have hx := B.exec
  have hb := B.bytes
  have hr := B.returns
  have hts := atoms_spec (ws := (wU yX10_unreadWith cX10_unreadWith 4 (some .int))) B.pre
  have hown : s.vm.findClass RX10 = some m.cls := findClass_of_methodNamed B.named
  have hlocks := B.notSynchronized
  subst hh
  have hS : va_S (fun _ => False) s.heap s.heap [] := va_S.rf
  have hl := lv_entry ([.ref (ad 4), .int vx]) (n := 4) (Nat.le_of_ble_eq_true rfl)
  rw [lg_entry_eq]
  generalize (lg_sl ([.ref (ad 4), .int vx]) ++ List.replicate (4 - (lg_sl ([.ref (ad 4), .int vx])).length) Slot.unset).toArray = ls at hl ⊢
  have hl : lv_has ls 4 [(0, .ref (ad 4)), (1, .int vx)] := hl
  obtain ⟨fz, hfz⟩ : ∃ z, F_sx_unreadWith mu vx = z := ⟨_, rfl⟩
  have hF := hfz
  unfold F_sx_unreadWith at hF
  refine lv_iconst (v := 0) hx hb dX10_unreadWith_0 (by decide) ?_
  refine lv_istore_n (lv' := [(2, .int 0), (0, .ref (ad 4)), (1, .int vx)]) hx hb dX10_unreadWith_1 rfl hl (by decide) rfl (fun ls hl => ?_)
  refine lv_iconst (v := 0) hx hb dX10_unreadWith_2 (by decide) ?_
  refine lv_istore_n (lv' := [(3, .int 0), (2, .int 0), (0, .ref (ad 4)), (1, .int vx)]) hx hb dX10_unreadWith_3 rfl hl (by decide) rfl (fun ls hl => ?_)
  have loop4 : ∀ (n4 : Nat) (v2_4 : Int32) (v3_4 : Int32) (locs : List Loc) (ls : Array Slot), (4 + 1 - v3_4.toInt).toNat < n4 → (0 ≤ v3_4.toInt ∧ v3_4.toInt ≤ 4) → L_sx_unreadWith_4_0 mu vx n4 v2_4 v3_4 = fz → va_S (fun _ => False) s.heap s.heap locs → lv_has ls 4 [(3, .int v3_4), (2, .int v2_4), (0, .ref (ad 4)), (1, .int vx)] → W p l e (headSpec (wU yX10_unreadWith cX10_unreadWith 4 (some .int)) ({ frames := 0, cells := 0, slots := 0, locals := 0 })).room s m ([.ref (ad 4), .int vx] : List Value).toArray below meth c s.heap locs 0 0 (MQ below (va_Qi (fun (z : Int32) (_ : Unit) => z = F_sx_unreadWith mu vx ∧ (True)) (fun _ t => t.heap = s.heap) (fun _ => False)) ([.ref (ad 4), .int vx] : List Value).toArray s 0 0 (fun _ => False)) (F0 m 4 ls []) := by
    intro n4
    induction n4 with
    | zero => intro v2_4 v3_4 locs ls hm; exact absurd hm (Nat.not_lt_zero _)
    | succ n4 ih4 =>
      intro v2_4 v3_4 locs ls hm_4 h_v3_4 hF hS hl
      rw [L_sx_unreadWith_4_0] at hF
      refine lv_iload_n hx hb dX10_unreadWith_4 rfl (lv_at hl 0 rfl) ?_
      refine lv_aload_n hx hb dX10_unreadWith_5 rfl (lv_at hl 2 rfl) ?_
      refine va_get (D := (dC, dI)) (ci := 10) (v := .ref (ad 5)) (C := RX10) (T := TX10) (N := 8) hx hb hts inG10 hown hK hP 4 (gX_4 cs ad mu) rfl 3 (by decide) (hts _ (List.mem_cons_of_mem _ mw_1_152)) (fun _ h9 => h9) rfl dX10_unreadWith_6 ?_
      refine va_get (D := (dC, dI)) (ci := 8) (v := .int (mu 5 4)) (C := RX8) (T := TX8) (N := 6) hx hb hts inG8 hown hK hP 5 (gX_5 cs ad mu) rfl 4 (by decide) (hts _ (List.mem_cons_of_mem _ mw_1_126)) (fun _ h9 => h9) rfl dX10_unreadWith_9 ?_
      refine lv_topi (fun y1 ey1 => ?_)
      have hF := mi_let hF ey1
      have by1 : y1.toInt = (mu 5 4).toInt := congrArg Int32.toInt ey1
      have gy1 : 0 ≤ y1.toInt ∧ y1.toInt ≤ 4 := by rw [ey1]; exact rX_5_4 ok
      refine lv_icmp_ge (tgt := 60) hx hb dX10_unreadWith_12 (by decide) (fun c_2 => ?_) (fun c_2 => ?_)
      · have hF := (if_pos c_2).symm.trans hF
        have c_2 : y1.toInt ≤ v3_4.toInt := il_le c_2
        refine lv_iload_n hx hb dX10_unreadWith_60 rfl (lv_at hl 1 rfl) ?_
        exact W.iret (v := v2_4) hx hb hr (fun t ht hW => ⟨⟨v2_4, (), rfl, ⟨hF.trans hfz.symm, trivial⟩, ht⟩, hS.F ht⟩) hS.2.2 dX10_unreadWith_61
      · have hF := (if_neg c_2).symm.trans hF
        have c_2 : v3_4.toInt < y1.toInt := il_nle c_2
        refine lv_iload_n hx hb dX10_unreadWith_15 rfl (lv_at hl 1 rfl) ?_
        refine lv_aload_n hx hb dX10_unreadWith_16 rfl (lv_at hl 2 rfl) ?_
        refine va_get (D := (dC, dI)) (ci := 10) (v := .ref (ad 5)) (C := RX10) (T := TX10) (N := 8) hx hb hts inG10 hown hK hP 4 (gX_4 cs ad mu) rfl 3 (by decide) (hts _ (List.mem_cons_of_mem _ mw_1_152)) (fun _ h9 => h9) rfl dX10_unreadWith_17 ?_
        refine va_get (D := (dC, dI)) (ci := 8) (v := .ref (ad 47)) (C := RX8) (T := TX8) (N := 6) hx hb hts inG8 hown hK hP 5 (gX_5 cs ad mu) rfl 1 (by decide) (hts _ (List.mem_cons_of_mem _ mw_1_111)) (fun _ h9 => h9) rfl dX10_unreadWith_20 ?_
        refine lv_iload_n hx hb dX10_unreadWith_23 rfl (lv_at hl 0 rfl) ?_
        have hx3 : 0 ≤ v3_4.toInt ∧ v3_4.toInt < ((4 : Nat) : Int) := ⟨by omega, by omega⟩
        refine va_aldq hx hb hK hP 47 5 (gX_47 cs ad mu) rfl (show vp_in v3_4 4 from vi_of hx3.1 hx3.2) dX10_unreadWith_24 ?_
        have hk3 : 61 ≤ (61 + v3_4.toNatClampNeg) ∧ (61 + v3_4.toNatClampNeg) < 65 := ix_of hx3
        have hk3 : 61 ≤ (61 + v3_4.toNatClampNeg) ∧ (61 + v3_4.toNatClampNeg) < 77 := ⟨Nat.le_trans (by decide) hk3.1, Nat.lt_of_lt_of_le hk3.2 (by decide)⟩
        refine lq_v (.ref (ad (61 + v3_4.toNatClampNeg))) rfl ?_
        refine va_get (D := (dC, dI)) (ci := 3) (v := .int (mu (61 + v3_4.toNatClampNeg) 5)) (C := RX3) (T := TX3) (N := 10) hx hb hts inG3 hown hK hP (61 + v3_4.toNatClampNeg) (gX_letter cs ad mu (61 + v3_4.toNatClampNeg) hk3.1 hk3.2) rfl 5 (by decide) (hts _ (List.mem_cons_of_mem _ mw_1_64)) (fun _ h9 => h9) rfl dX10_unreadWith_25 ?_
        refine lv_topi (fun y4 ey4 => ?_)
        have hF := mi_let hF ey4
        have by4 : y4.toInt = (mu (61 + v3_4.toNatClampNeg) 5).toInt := congrArg Int32.toInt ey4
        have gy4 : 0 ≤ y4.toInt ∧ y4.toInt ≤ 6 := by rw [ey4]; exact rX_letter_5 ok (61 + v3_4.toNatClampNeg) hk3.1 hk3.2
        refine lv_iload_n hx hb dX10_unreadWith_28 rfl (lv_at hl 3 rfl) ?_
        refine lv_icmp_ne (tgt := 51) hx hb dX10_unreadWith_29 (by decide) (fun c_5 => ?_) (fun c_5 => ?_)
        · have hF := (if_neg c_5).symm.trans hF
          have c_5 : ¬ y4.toInt = vx.toInt := il_ne c_5
          refine lv_iconst (v := 0) hx hb dX10_unreadWith_51 (by decide) ?_
          refine lv_iadd hx hb dX10_unreadWith_52 ?_
          refine lv_topi (fun t6 et6 => ?_)
          have hF := mi_let hF et6
          refine lv_istore_n (lv' := [(2, .int t6), (3, .int v3_4), (0, .ref (ad 4)), (1, .int vx)]) hx hb dX10_unreadWith_53 rfl hl (by decide) rfl (fun ls hl => ?_)
          refine lv_iinc (v := (v3_4 + 1)) (lv' := [(3, .int (v3_4 + 1)), (2, .int t6), (0, .ref (ad 4)), (1, .int vx)]) hx hb dX10_unreadWith_54 hl (k := 1) rfl rfl (by decide) rfl (fun ls hl => ?_)
          refine loc_gen (P := fun w9 => lv_has ls 4 [(3, .int w9), (2, .int t6), (0, .ref (ad 4)), (1, .int vx)]) (v3_4 + 1) hl (fun w7 hw7 hl => ?_)
          have hl : lv_has ls 4 [(3, .int w7), (2, .int t6), (0, .ref (ad 4)), (1, .int vx)] := hl
          have hF := mi_let hF hw7.symm
          have aw7 : w7.toInt = v3_4.toInt + 1 := by rw [← hw7]; first | exact va1 (Int.lt_of_le_of_lt h_v3_4.2 (by decide)) | exact va1 (by omega)
          refine lv_goto (tgt := 4) hx hb dX10_unreadWith_57 (by decide) ?_
          exact ih4 (t6) (w7)  _ _ (by first | exact ms_up hm_4 aw7 h_v3_4.2 | exact ms_lt hm_4 (by omega) (by omega) | omega) (by first | exact rg_up aw7 h_v3_4 (by omega) | omega)   hF hS (lv_sub hl [0, 1, 2, 3] rfl)
        · have hF := (if_pos c_5).symm.trans hF
          have c_5 : y4.toInt = vx.toInt := il_eq c_5
          refine lv_aload_n hx hb dX10_unreadWith_32 rfl (lv_at hl 2 rfl) ?_
          refine va_get (D := (dC, dI)) (ci := 10) (v := .ref (ad 5)) (C := RX10) (T := TX10) (N := 8) hx hb hts inG10 hown hK hP 4 (gX_4 cs ad mu) rfl 3 (by decide) (hts _ (List.mem_cons_of_mem _ mw_1_152)) (fun _ h9 => h9) rfl dX10_unreadWith_33 ?_
          refine va_get (D := (dC, dI)) (ci := 8) (v := .ref (ad 47)) (C := RX8) (T := TX8) (N := 6) hx hb hts inG8 hown hK hP 5 (gX_5 cs ad mu) rfl 1 (by decide) (hts _ (List.mem_cons_of_mem _ mw_1_111)) (fun _ h9 => h9) rfl dX10_unreadWith_36 ?_
          refine lv_iload_n hx hb dX10_unreadWith_39 rfl (lv_at hl 0 rfl) ?_
          have hx8 : 0 ≤ v3_4.toInt ∧ v3_4.toInt < ((4 : Nat) : Int) := ⟨by omega, by omega⟩
          refine va_aldq hx hb hK hP 47 5 (gX_47 cs ad mu) rfl (show vp_in v3_4 4 from vi_of hx8.1 hx8.2) dX10_unreadWith_40 ?_
          have hk8 : 61 ≤ (61 + v3_4.toNatClampNeg) ∧ (61 + v3_4.toNatClampNeg) < 65 := ix_of hx8
          have hk8 : 61 ≤ (61 + v3_4.toNatClampNeg) ∧ (61 + v3_4.toNatClampNeg) < 77 := ⟨Nat.le_trans (by decide) hk8.1, Nat.lt_of_lt_of_le hk8.2 (by decide)⟩
          refine lq_v (.ref (ad (61 + v3_4.toNatClampNeg))) rfl ?_
          refine va_get (D := (dC, dI)) (ci := 3) (v := .int (mu (61 + v3_4.toNatClampNeg) 9)) (C := RX3) (T := TX3) (N := 10) hx hb hts inG3 hown hK hP (61 + v3_4.toNatClampNeg) (gX_letter cs ad mu (61 + v3_4.toNatClampNeg) hk8.1 hk8.2) rfl 9 (by decide) (hts _ (List.mem_cons_of_mem _ mw_1_79)) (fun _ h9 => h9) rfl dX10_unreadWith_41 ?_
          refine lv_topi (fun y9 ey9 => ?_)
          have hF := mi_let hF ey9
          have by9 : y9.toInt = (mu (61 + v3_4.toNatClampNeg) 9).toInt := congrArg Int32.toInt ey9
          have gy9 : 0 ≤ y9.toInt ∧ y9.toInt ≤ 1 := by rw [ey9]; exact rX_letter_9 ok (61 + v3_4.toNatClampNeg) hk8.1 hk8.2
          refine lv_if_ne (tgt := 51) hx hb dX10_unreadWith_44 (by decide) (fun c_10 => ?_) (fun c_10 => ?_)
          · have hF := (if_neg c_10).symm.trans hF
            have c_10 : ¬ y9.toInt = 0 := il_ne c_10
            refine lv_iconst (v := 0) hx hb dX10_unreadWith_51 (by decide) ?_
            refine lv_iadd hx hb dX10_unreadWith_52 ?_
            refine lv_topi (fun t11 et11 => ?_)
            have hF := mi_let hF et11
            refine lv_istore_n (lv' := [(2, .int t11), (3, .int v3_4), (0, .ref (ad 4)), (1, .int vx)]) hx hb dX10_unreadWith_53 rfl hl (by decide) rfl (fun ls hl => ?_)
            refine lv_iinc (v := (v3_4 + 1)) (lv' := [(3, .int (v3_4 + 1)), (2, .int t11), (0, .ref (ad 4)), (1, .int vx)]) hx hb dX10_unreadWith_54 hl (k := 1) rfl rfl (by decide) rfl (fun ls hl => ?_)
            refine loc_gen (P := fun w9 => lv_has ls 4 [(3, .int w9), (2, .int t11), (0, .ref (ad 4)), (1, .int vx)]) (v3_4 + 1) hl (fun w12 hw12 hl => ?_)
            have hl : lv_has ls 4 [(3, .int w12), (2, .int t11), (0, .ref (ad 4)), (1, .int vx)] := hl
            have hF := mi_let hF hw12.symm
            have aw12 : w12.toInt = v3_4.toInt + 1 := by rw [← hw12]; first | exact va1 (Int.lt_of_le_of_lt h_v3_4.2 (by decide)) | exact va1 (by omega)
            refine lv_goto (tgt := 4) hx hb dX10_unreadWith_57 (by decide) ?_
            exact ih4 (t11) (w12)  _ _ (by first | exact ms_up hm_4 aw12 h_v3_4.2 | exact ms_lt hm_4 (by omega) (by omega) | omega) (by first | exact rg_up aw12 h_v3_4 (by omega) | omega)   hF hS (lv_sub hl [0, 1, 2, 3] rfl)
          · have hF := (if_pos c_10).symm.trans hF
            have c_10 : y9.toInt = 0 := il_eq c_10
            refine lv_iconst (v := 1) hx hb dX10_unreadWith_47 (by decide) ?_
            refine lv_goto (tgt := 52) hx hb dX10_unreadWith_48 (by decide) ?_
            refine lv_iadd hx hb dX10_unreadWith_52 ?_
            refine lv_topi (fun t13 et13 => ?_)
            have hF := mi_let hF et13
            refine lv_istore_n (lv' := [(2, .int t13), (3, .int v3_4), (0, .ref (ad 4)), (1, .int vx)]) hx hb dX10_unreadWith_53 rfl hl (by decide) rfl (fun ls hl => ?_)
            refine lv_iinc (v := (v3_4 + 1)) (lv' := [(3, .int (v3_4 + 1)), (2, .int t13), (0, .ref (ad 4)), (1, .int vx)]) hx hb dX10_unreadWith_54 hl (k := 1) rfl rfl (by decide) rfl (fun ls hl => ?_)
            refine loc_gen (P := fun w9 => lv_has ls 4 [(3, .int w9), (2, .int t13), (0, .ref (ad 4)), (1, .int vx)]) (v3_4 + 1) hl (fun w14 hw14 hl => ?_)
            have hl : lv_has ls 4 [(3, .int w14), (2, .int t13), (0, .ref (ad 4)), (1, .int vx)] := hl
            have hF := mi_let hF hw14.symm
            have aw14 : w14.toInt = v3_4.toInt + 1 := by rw [← hw14]; first | exact va1 (Int.lt_of_le_of_lt h_v3_4.2 (by decide)) | exact va1 (by omega)
            refine lv_goto (tgt := 4) hx hb dX10_unreadWith_57 (by decide) ?_
            exact ih4 (t13) (w14)  _ _ (by first | exact ms_up hm_4 aw14 h_v3_4.2 | exact ms_lt hm_4 (by omega) (by omega) | omega) (by first | exact rg_up aw14 h_v3_4 (by omega) | omega)   hF hS (lv_sub hl [0, 1, 2, 3] rfl)
  exact loop4 7 (0) (0)  _ _ (by have h80 : (0 : Int32).toInt = 0 := rfl; have h81 : (0 : Int32).toInt = 0 := rfl; omega) (by have h80 : (0 : Int32).toInt = 0 := rfl; exact ⟨by omega, by omega⟩)   hF hS hl
set_option maxHeartbeats 4000000 in
set_option maxRecDepth 100000 in
/-- sx_unreadTo -/
theorem sx_unreadTo (l : Launch) (dC : Nat → ClassId) (dI : Nat → Nat → Nat) (cs : Nat → ClassId) (ad : Nat → Nat) (mu : Nat → Nat → Int32) (ok : okR loX hiX mu) (H : Heap) (hP : va_P (dC, dI) vwCl (wR 157 ad (EX cs ad) mu) H) (vx : Int32) : Met l yX10_unreadTo (wU yX10_unreadTo cX10_unreadTo 4 (some .int)) ({ frames := 0, cells := 0, slots := 0, locals := 0 }) (va_Pc [.ref (ad 4), .int vx] (sz_P (dC, dI) vwCl (tyW cs) H)) (va_Qi (fun (z : Int32) (_ : Unit) => z = F_sx_unreadTo mu vx ∧ (True)) (fun _ t => t.heap = H) (fun _ => False)) 0 0 (fun _ => False) := by
  refine Met.ofW (cc := cX10_unreadTo) (maxL := 4) (ret := (some .int)) (by decide) rfl ?_
  intro p e s m args below meth c s₁ B hml hv
  obtain ⟨rfl, hh, hK, hz⟩ := hv
  have hx := B.exec
  have hb := B.bytes
  have hr := B.returns
  have hts := atoms_spec (ws := (wU yX10_unreadTo cX10_unreadTo 4 (some .int))) B.pre
  have hown : s.vm.findClass RX10 = some m.cls := findClass_of_methodNamed B.named
  have hlocks := B.notSynchronized
  subst hh
  have hS : va_S (fun _ => False) s.heap s.heap [] := va_S.rf
  have hl := lv_entry ([.ref (ad 4), .int vx]) (n := 4) (Nat.le_of_ble_eq_true rfl)
  rw [lg_entry_eq]
  generalize (lg_sl ([.ref (ad 4), .int vx]) ++ List.replicate (4 - (lg_sl ([.ref (ad 4), .int vx])).length) Slot.unset).toArray = ls at hl ⊢
  have hl : lv_has ls 4 [(0, .ref (ad 4)), (1, .int vx)] := hl
  obtain ⟨fz, hfz⟩ : ∃ z, F_sx_unreadTo mu vx = z := ⟨_, rfl⟩
  have hF := hfz
  unfold F_sx_unreadTo at hF
  refine lv_iconst (v := 0) hx hb dX10_unreadTo_0 (by decide) ?_
  refine lv_istore_n (lv' := [(2, .int 0), (0, .ref (ad 4)), (1, .int vx)]) hx hb dX10_unreadTo_1 rfl hl (by decide) rfl (fun ls hl => ?_)
  refine lv_iconst (v := 0) hx hb dX10_unreadTo_2 (by decide) ?_
  refine lv_istore_n (lv' := [(3, .int 0), (2, .int 0), (0, .ref (ad 4)), (1, .int vx)]) hx hb dX10_unreadTo_3 rfl hl (by decide) rfl (fun ls hl => ?_)
  have loop4 : ∀ (n4 : Nat) (v2_4 : Int32) (v3_4 : Int32) (locs : List Loc) (ls : Array Slot), (4 + 1 - v3_4.toInt).toNat < n4 → (0 ≤ v3_4.toInt ∧ v3_4.toInt ≤ 4) → L_sx_unreadTo_4_0 mu vx n4 v2_4 v3_4 = fz → va_S (fun _ => False) s.heap s.heap locs → lv_has ls 4 [(3, .int v3_4), (2, .int v2_4), (0, .ref (ad 4)), (1, .int vx)] → W p l e (headSpec (wU yX10_unreadTo cX10_unreadTo 4 (some .int)) ({ frames := 0, cells := 0, slots := 0, locals := 0 })).room s m ([.ref (ad 4), .int vx] : List Value).toArray below meth c s.heap locs 0 0 (MQ below (va_Qi (fun (z : Int32) (_ : Unit) => z = F_sx_unreadTo mu vx ∧ (True)) (fun _ t => t.heap = s.heap) (fun _ => False)) ([.ref (ad 4), .int vx] : List Value).toArray s 0 0 (fun _ => False)) (F0 m 4 ls []) := by
    intro n4
    induction n4 with
    | zero => intro v2_4 v3_4 locs ls hm; exact absurd hm (Nat.not_lt_zero _)
    | succ n4 ih4 =>
      intro v2_4 v3_4 locs ls hm_4 h_v3_4 hF hS hl
      rw [L_sx_unreadTo_4_0] at hF
      refine lv_iload_n hx hb dX10_unreadTo_4 rfl (lv_at hl 0 rfl) ?_
      refine lv_aload_n hx hb dX10_unreadTo_5 rfl (lv_at hl 2 rfl) ?_
      refine va_get (D := (dC, dI)) (ci := 10) (v := .ref (ad 5)) (C := RX10) (T := TX10) (N := 8) hx hb hts inG10 hown hK hP 4 (gX_4 cs ad mu) rfl 3 (by decide) (hts _ (List.mem_cons_of_mem _ mw_1_152)) (fun _ h9 => h9) rfl dX10_unreadTo_6 ?_
      refine va_get (D := (dC, dI)) (ci := 8) (v := .int (mu 5 4)) (C := RX8) (T := TX8) (N := 6) hx hb hts inG8 hown hK hP 5 (gX_5 cs ad mu) rfl 4 (by decide) (hts _ (List.mem_cons_of_mem _ mw_1_126)) (fun _ h9 => h9) rfl dX10_unreadTo_9 ?_
      refine lv_topi (fun y1 ey1 => ?_)
      have hF := mi_let hF ey1
      have by1 : y1.toInt = (mu 5 4).toInt := congrArg Int32.toInt ey1
      have gy1 : 0 ≤ y1.toInt ∧ y1.toInt ≤ 4 := by rw [ey1]; exact rX_5_4 ok
      refine lv_icmp_ge (tgt := 60) hx hb dX10_unreadTo_12 (by decide) (fun c_2 => ?_) (fun c_2 => ?_)
      · have hF := (if_pos c_2).symm.trans hF
        have c_2 : y1.toInt ≤ v3_4.toInt := il_le c_2
        refine lv_iload_n hx hb dX10_unreadTo_60 rfl (lv_at hl 1 rfl) ?_
        exact W.iret (v := v2_4) hx hb hr (fun t ht hW => ⟨⟨v2_4, (), rfl, ⟨hF.trans hfz.symm, trivial⟩, ht⟩, hS.F ht⟩) hS.2.2 dX10_unreadTo_61
      · have hF := (if_neg c_2).symm.trans hF
        have c_2 : v3_4.toInt < y1.toInt := il_nle c_2
        refine lv_iload_n hx hb dX10_unreadTo_15 rfl (lv_at hl 1 rfl) ?_
        refine lv_aload_n hx hb dX10_unreadTo_16 rfl (lv_at hl 2 rfl) ?_
        refine va_get (D := (dC, dI)) (ci := 10) (v := .ref (ad 5)) (C := RX10) (T := TX10) (N := 8) hx hb hts inG10 hown hK hP 4 (gX_4 cs ad mu) rfl 3 (by decide) (hts _ (List.mem_cons_of_mem _ mw_1_152)) (fun _ h9 => h9) rfl dX10_unreadTo_17 ?_
        refine va_get (D := (dC, dI)) (ci := 8) (v := .ref (ad 47)) (C := RX8) (T := TX8) (N := 6) hx hb hts inG8 hown hK hP 5 (gX_5 cs ad mu) rfl 1 (by decide) (hts _ (List.mem_cons_of_mem _ mw_1_111)) (fun _ h9 => h9) rfl dX10_unreadTo_20 ?_
        refine lv_iload_n hx hb dX10_unreadTo_23 rfl (lv_at hl 0 rfl) ?_
        have hx3 : 0 ≤ v3_4.toInt ∧ v3_4.toInt < ((4 : Nat) : Int) := ⟨by omega, by omega⟩
        refine va_aldq hx hb hK hP 47 5 (gX_47 cs ad mu) rfl (show vp_in v3_4 4 from vi_of hx3.1 hx3.2) dX10_unreadTo_24 ?_
        have hk3 : 61 ≤ (61 + v3_4.toNatClampNeg) ∧ (61 + v3_4.toNatClampNeg) < 65 := ix_of hx3
        have hk3 : 61 ≤ (61 + v3_4.toNatClampNeg) ∧ (61 + v3_4.toNatClampNeg) < 77 := ⟨Nat.le_trans (by decide) hk3.1, Nat.lt_of_lt_of_le hk3.2 (by decide)⟩
        refine lq_v (.ref (ad (61 + v3_4.toNatClampNeg))) rfl ?_
        refine va_get (D := (dC, dI)) (ci := 3) (v := .int (mu (61 + v3_4.toNatClampNeg) 1)) (C := RX3) (T := TX3) (N := 10) hx hb hts inG3 hown hK hP (61 + v3_4.toNatClampNeg) (gX_letter cs ad mu (61 + v3_4.toNatClampNeg) hk3.1 hk3.2) rfl 1 (by decide) (hts _ (List.mem_cons_of_mem _ mw_1_55)) (fun _ h9 => h9) rfl dX10_unreadTo_25 ?_
        refine lv_topi (fun y4 ey4 => ?_)
        have hF := mi_let hF ey4
        have by4 : y4.toInt = (mu (61 + v3_4.toNatClampNeg) 1).toInt := congrArg Int32.toInt ey4
        have gy4 : 0 ≤ y4.toInt ∧ y4.toInt ≤ 6 := by rw [ey4]; exact rX_letter_1 ok (61 + v3_4.toNatClampNeg) hk3.1 hk3.2
        refine lv_iload_n hx hb dX10_unreadTo_28 rfl (lv_at hl 3 rfl) ?_
        refine lv_icmp_ne (tgt := 51) hx hb dX10_unreadTo_29 (by decide) (fun c_5 => ?_) (fun c_5 => ?_)
        · have hF := (if_neg c_5).symm.trans hF
          have c_5 : ¬ y4.toInt = vx.toInt := il_ne c_5
          refine lv_iconst (v := 0) hx hb dX10_unreadTo_51 (by decide) ?_
          refine lv_iadd hx hb dX10_unreadTo_52 ?_
          refine lv_topi (fun t6 et6 => ?_)
          have hF := mi_let hF et6
          refine lv_istore_n (lv' := [(2, .int t6), (3, .int v3_4), (0, .ref (ad 4)), (1, .int vx)]) hx hb dX10_unreadTo_53 rfl hl (by decide) rfl (fun ls hl => ?_)
          refine lv_iinc (v := (v3_4 + 1)) (lv' := [(3, .int (v3_4 + 1)), (2, .int t6), (0, .ref (ad 4)), (1, .int vx)]) hx hb dX10_unreadTo_54 hl (k := 1) rfl rfl (by decide) rfl (fun ls hl => ?_)
          refine loc_gen (P := fun w9 => lv_has ls 4 [(3, .int w9), (2, .int t6), (0, .ref (ad 4)), (1, .int vx)]) (v3_4 + 1) hl (fun w7 hw7 hl => ?_)
          have hl : lv_has ls 4 [(3, .int w7), (2, .int t6), (0, .ref (ad 4)), (1, .int vx)] := hl
          have hF := mi_let hF hw7.symm
          have aw7 : w7.toInt = v3_4.toInt + 1 := by rw [← hw7]; first | exact va1 (Int.lt_of_le_of_lt h_v3_4.2 (by decide)) | exact va1 (by omega)
          refine lv_goto (tgt := 4) hx hb dX10_unreadTo_57 (by decide) ?_
          exact ih4 (t6) (w7)  _ _ (by first | exact ms_up hm_4 aw7 h_v3_4.2 | exact ms_lt hm_4 (by omega) (by omega) | omega) (by first | exact rg_up aw7 h_v3_4 (by omega) | omega)   hF hS (lv_sub hl [0, 1, 2, 3] rfl)
        · have hF := (if_pos c_5).symm.trans hF
          have c_5 : y4.toInt = vx.toInt := il_eq c_5
          refine lv_aload_n hx hb dX10_unreadTo_32 rfl (lv_at hl 2 rfl) ?_
          refine va_get (D := (dC, dI)) (ci := 10) (v := .ref (ad 5)) (C := RX10) (T := TX10) (N := 8) hx hb hts inG10 hown hK hP 4 (gX_4 cs ad mu) rfl 3 (by decide) (hts _ (List.mem_cons_of_mem _ mw_1_152)) (fun _ h9 => h9) rfl dX10_unreadTo_33 ?_
          refine va_get (D := (dC, dI)) (ci := 8) (v := .ref (ad 47)) (C := RX8) (T := TX8) (N := 6) hx hb hts inG8 hown hK hP 5 (gX_5 cs ad mu) rfl 1 (by decide) (hts _ (List.mem_cons_of_mem _ mw_1_111)) (fun _ h9 => h9) rfl dX10_unreadTo_36 ?_
          refine lv_iload_n hx hb dX10_unreadTo_39 rfl (lv_at hl 0 rfl) ?_
          have hx8 : 0 ≤ v3_4.toInt ∧ v3_4.toInt < ((4 : Nat) : Int) := ⟨by omega, by omega⟩
          refine va_aldq hx hb hK hP 47 5 (gX_47 cs ad mu) rfl (show vp_in v3_4 4 from vi_of hx8.1 hx8.2) dX10_unreadTo_40 ?_
          have hk8 : 61 ≤ (61 + v3_4.toNatClampNeg) ∧ (61 + v3_4.toNatClampNeg) < 65 := ix_of hx8
          have hk8 : 61 ≤ (61 + v3_4.toNatClampNeg) ∧ (61 + v3_4.toNatClampNeg) < 77 := ⟨Nat.le_trans (by decide) hk8.1, Nat.lt_of_lt_of_le hk8.2 (by decide)⟩
          refine lq_v (.ref (ad (61 + v3_4.toNatClampNeg))) rfl ?_
          refine va_get (D := (dC, dI)) (ci := 3) (v := .int (mu (61 + v3_4.toNatClampNeg) 9)) (C := RX3) (T := TX3) (N := 10) hx hb hts inG3 hown hK hP (61 + v3_4.toNatClampNeg) (gX_letter cs ad mu (61 + v3_4.toNatClampNeg) hk8.1 hk8.2) rfl 9 (by decide) (hts _ (List.mem_cons_of_mem _ mw_1_79)) (fun _ h9 => h9) rfl dX10_unreadTo_41 ?_
          refine lv_topi (fun y9 ey9 => ?_)
          have hF := mi_let hF ey9
          have by9 : y9.toInt = (mu (61 + v3_4.toNatClampNeg) 9).toInt := congrArg Int32.toInt ey9
          have gy9 : 0 ≤ y9.toInt ∧ y9.toInt ≤ 1 := by rw [ey9]; exact rX_letter_9 ok (61 + v3_4.toNatClampNeg) hk8.1 hk8.2
          refine lv_if_ne (tgt := 51) hx hb dX10_unreadTo_44 (by decide) (fun c_10 => ?_) (fun c_10 => ?_)
          · have hF := (if_neg c_10).symm.trans hF
            have c_10 : ¬ y9.toInt = 0 := il_ne c_10
            refine lv_iconst (v := 0) hx hb dX10_unreadTo_51 (by decide) ?_
            refine lv_iadd hx hb dX10_unreadTo_52 ?_
            refine lv_topi (fun t11 et11 => ?_)
            have hF := mi_let hF et11
            refine lv_istore_n (lv' := [(2, .int t11), (3, .int v3_4), (0, .ref (ad 4)), (1, .int vx)]) hx hb dX10_unreadTo_53 rfl hl (by decide) rfl (fun ls hl => ?_)
            refine lv_iinc (v := (v3_4 + 1)) (lv' := [(3, .int (v3_4 + 1)), (2, .int t11), (0, .ref (ad 4)), (1, .int vx)]) hx hb dX10_unreadTo_54 hl (k := 1) rfl rfl (by decide) rfl (fun ls hl => ?_)
            refine loc_gen (P := fun w9 => lv_has ls 4 [(3, .int w9), (2, .int t11), (0, .ref (ad 4)), (1, .int vx)]) (v3_4 + 1) hl (fun w12 hw12 hl => ?_)
            have hl : lv_has ls 4 [(3, .int w12), (2, .int t11), (0, .ref (ad 4)), (1, .int vx)] := hl
            have hF := mi_let hF hw12.symm
            have aw12 : w12.toInt = v3_4.toInt + 1 := by rw [← hw12]; first | exact va1 (Int.lt_of_le_of_lt h_v3_4.2 (by decide)) | exact va1 (by omega)
            refine lv_goto (tgt := 4) hx hb dX10_unreadTo_57 (by decide) ?_
            exact ih4 (t11) (w12)  _ _ (by first | exact ms_up hm_4 aw12 h_v3_4.2 | exact ms_lt hm_4 (by omega) (by omega) | omega) (by first | exact rg_up aw12 h_v3_4 (by omega) | omega)   hF hS (lv_sub hl [0, 1, 2, 3] rfl)
          · have hF := (if_pos c_10).symm.trans hF
            have c_10 : y9.toInt = 0 := il_eq c_10
            refine lv_iconst (v := 1) hx hb dX10_unreadTo_47 (by decide) ?_
            refine lv_goto (tgt := 52) hx hb dX10_unreadTo_48 (by decide) ?_
            refine lv_iadd hx hb dX10_unreadTo_52 ?_
            refine lv_topi (fun t13 et13 => ?_)
            have hF := mi_let hF et13
            refine lv_istore_n (lv' := [(2, .int t13), (3, .int v3_4), (0, .ref (ad 4)), (1, .int vx)]) hx hb dX10_unreadTo_53 rfl hl (by decide) rfl (fun ls hl => ?_)
            refine lv_iinc (v := (v3_4 + 1)) (lv' := [(3, .int (v3_4 + 1)), (2, .int t13), (0, .ref (ad 4)), (1, .int vx)]) hx hb dX10_unreadTo_54 hl (k := 1) rfl rfl (by decide) rfl (fun ls hl => ?_)
            refine loc_gen (P := fun w9 => lv_has ls 4 [(3, .int w9), (2, .int t13), (0, .ref (ad 4)), (1, .int vx)]) (v3_4 + 1) hl (fun w14 hw14 hl => ?_)
            have hl : lv_has ls 4 [(3, .int w14), (2, .int t13), (0, .ref (ad 4)), (1, .int vx)] := hl
            have hF := mi_let hF hw14.symm
            have aw14 : w14.toInt = v3_4.toInt + 1 := by rw [← hw14]; first | exact va1 (Int.lt_of_le_of_lt h_v3_4.2 (by decide)) | exact va1 (by omega)
            refine lv_goto (tgt := 4) hx hb dX10_unreadTo_57 (by decide) ?_
            exact ih4 (t13) (w14)  _ _ (by first | exact ms_up hm_4 aw14 h_v3_4.2 | exact ms_lt hm_4 (by omega) (by omega) | omega) (by first | exact rg_up aw14 h_v3_4 (by omega) | omega)   hF hS (lv_sub hl [0, 1, 2, 3] rfl)
  exact loop4 7 (0) (0)  _ _ (by have h80 : (0 : Int32).toInt = 0 := rfl; have h81 : (0 : Int32).toInt = 0 := rfl; omega) (by have h80 : (0 : Int32).toInt = 0 := rfl; exact ⟨by omega, by omega⟩)   hF hS hl
set_option maxHeartbeats 4000000 in
set_option maxRecDepth 100000 in
/-- sx_paidForUnread -/
theorem sx_paidForUnread (l : Launch) (dC : Nat → ClassId) (dI : Nat → Nat → Nat) (cs : Nat → ClassId) (ad : Nat → Nat) (mu : Nat → Nat → Int32) (ok : okR loX hiX mu) (H : Heap) (hP : va_P (dC, dI) vwCl (wR 157 ad (EX cs ad) mu) H) (vx : Int32) : Met l yX10_paidForUnread (wU yX10_paidForUnread cX10_paidForUnread 4 (some .int)) ({ frames := 0, cells := 0, slots := 0, locals := 0 }) (va_Pc [.ref (ad 4), .int vx] (sz_P (dC, dI) vwCl (tyW cs) H)) (va_Qi (fun (z : Int32) (_ : Unit) => z = F_sx_paidForUnread mu vx ∧ (True)) (fun _ t => t.heap = H) (fun _ => False)) 0 0 (fun _ => False) := by
  refine Met.ofW (cc := cX10_paidForUnread) (maxL := 4) (ret := (some .int)) (by decide) rfl ?_
  intro p e s m args below meth c s₁ B hml hv
  obtain ⟨rfl, hh, hK, hz⟩ := hv
  have hx := B.exec
  have hb := B.bytes
  have hr := B.returns
  have hts := atoms_spec (ws := (wU yX10_paidForUnread cX10_paidForUnread 4 (some .int))) B.pre
  have hown : s.vm.findClass RX10 = some m.cls := findClass_of_methodNamed B.named
  have hlocks := B.notSynchronized
  subst hh
  have hS : va_S (fun _ => False) s.heap s.heap [] := va_S.rf
  have hl := lv_entry ([.ref (ad 4), .int vx]) (n := 4) (Nat.le_of_ble_eq_true rfl)
  rw [lg_entry_eq]
  generalize (lg_sl ([.ref (ad 4), .int vx]) ++ List.replicate (4 - (lg_sl ([.ref (ad 4), .int vx])).length) Slot.unset).toArray = ls at hl ⊢
  have hl : lv_has ls 4 [(0, .ref (ad 4)), (1, .int vx)] := hl
  obtain ⟨fz, hfz⟩ : ∃ z, F_sx_paidForUnread mu vx = z := ⟨_, rfl⟩
  have hF := hfz
  unfold F_sx_paidForUnread at hF
  refine lv_iconst (v := 0) hx hb dX10_paidForUnread_0 (by decide) ?_
  refine lv_istore_n (lv' := [(2, .int 0), (0, .ref (ad 4)), (1, .int vx)]) hx hb dX10_paidForUnread_1 rfl hl (by decide) rfl (fun ls hl => ?_)
  refine lv_iconst (v := 0) hx hb dX10_paidForUnread_2 (by decide) ?_
  refine lv_istore_n (lv' := [(3, .int 0), (2, .int 0), (0, .ref (ad 4)), (1, .int vx)]) hx hb dX10_paidForUnread_3 rfl hl (by decide) rfl (fun ls hl => ?_)
  have loop4 : ∀ (n4 : Nat) (v2_4 : Int32) (v3_4 : Int32) (locs : List Loc) (ls : Array Slot), (4 + 1 - v3_4.toInt).toNat < n4 → (0 ≤ v3_4.toInt ∧ v3_4.toInt ≤ 4) → L_sx_paidForUnread_4_0 mu vx n4 v2_4 v3_4 = fz → va_S (fun _ => False) s.heap s.heap locs → lv_has ls 4 [(3, .int v3_4), (2, .int v2_4), (0, .ref (ad 4)), (1, .int vx)] → W p l e (headSpec (wU yX10_paidForUnread cX10_paidForUnread 4 (some .int)) ({ frames := 0, cells := 0, slots := 0, locals := 0 })).room s m ([.ref (ad 4), .int vx] : List Value).toArray below meth c s.heap locs 0 0 (MQ below (va_Qi (fun (z : Int32) (_ : Unit) => z = F_sx_paidForUnread mu vx ∧ (True)) (fun _ t => t.heap = s.heap) (fun _ => False)) ([.ref (ad 4), .int vx] : List Value).toArray s 0 0 (fun _ => False)) (F0 m 4 ls []) := by
    intro n4
    induction n4 with
    | zero => intro v2_4 v3_4 locs ls hm; exact absurd hm (Nat.not_lt_zero _)
    | succ n4 ih4 =>
      intro v2_4 v3_4 locs ls hm_4 h_v3_4 hF hS hl
      rw [L_sx_paidForUnread_4_0] at hF
      refine lv_iload_n hx hb dX10_paidForUnread_4 rfl (lv_at hl 0 rfl) ?_
      refine lv_aload_n hx hb dX10_paidForUnread_5 rfl (lv_at hl 2 rfl) ?_
      refine va_get (D := (dC, dI)) (ci := 10) (v := .ref (ad 5)) (C := RX10) (T := TX10) (N := 8) hx hb hts inG10 hown hK hP 4 (gX_4 cs ad mu) rfl 3 (by decide) (hts _ (List.mem_cons_of_mem _ mw_1_152)) (fun _ h9 => h9) rfl dX10_paidForUnread_6 ?_
      refine va_get (D := (dC, dI)) (ci := 8) (v := .int (mu 5 4)) (C := RX8) (T := TX8) (N := 6) hx hb hts inG8 hown hK hP 5 (gX_5 cs ad mu) rfl 4 (by decide) (hts _ (List.mem_cons_of_mem _ mw_1_126)) (fun _ h9 => h9) rfl dX10_paidForUnread_9 ?_
      refine lv_topi (fun y1 ey1 => ?_)
      have hF := mi_let hF ey1
      have by1 : y1.toInt = (mu 5 4).toInt := congrArg Int32.toInt ey1
      have gy1 : 0 ≤ y1.toInt ∧ y1.toInt ≤ 4 := by rw [ey1]; exact rX_5_4 ok
      refine lv_icmp_ge (tgt := 71) hx hb dX10_paidForUnread_12 (by decide) (fun c_2 => ?_) (fun c_2 => ?_)
      · have hF := (if_pos c_2).symm.trans hF
        have c_2 : y1.toInt ≤ v3_4.toInt := il_le c_2
        refine lv_iload_n hx hb dX10_paidForUnread_71 rfl (lv_at hl 1 rfl) ?_
        exact W.iret (v := v2_4) hx hb hr (fun t ht hW => ⟨⟨v2_4, (), rfl, ⟨hF.trans hfz.symm, trivial⟩, ht⟩, hS.F ht⟩) hS.2.2 dX10_paidForUnread_72
      · have hF := (if_neg c_2).symm.trans hF
        have c_2 : v3_4.toInt < y1.toInt := il_nle c_2
        refine lv_iload_n hx hb dX10_paidForUnread_15 rfl (lv_at hl 1 rfl) ?_
        refine lv_aload_n hx hb dX10_paidForUnread_16 rfl (lv_at hl 2 rfl) ?_
        refine va_get (D := (dC, dI)) (ci := 10) (v := .ref (ad 5)) (C := RX10) (T := TX10) (N := 8) hx hb hts inG10 hown hK hP 4 (gX_4 cs ad mu) rfl 3 (by decide) (hts _ (List.mem_cons_of_mem _ mw_1_152)) (fun _ h9 => h9) rfl dX10_paidForUnread_17 ?_
        refine va_get (D := (dC, dI)) (ci := 8) (v := .ref (ad 47)) (C := RX8) (T := TX8) (N := 6) hx hb hts inG8 hown hK hP 5 (gX_5 cs ad mu) rfl 1 (by decide) (hts _ (List.mem_cons_of_mem _ mw_1_111)) (fun _ h9 => h9) rfl dX10_paidForUnread_20 ?_
        refine lv_iload_n hx hb dX10_paidForUnread_23 rfl (lv_at hl 0 rfl) ?_
        have hx3 : 0 ≤ v3_4.toInt ∧ v3_4.toInt < ((4 : Nat) : Int) := ⟨by omega, by omega⟩
        refine va_aldq hx hb hK hP 47 5 (gX_47 cs ad mu) rfl (show vp_in v3_4 4 from vi_of hx3.1 hx3.2) dX10_paidForUnread_24 ?_
        have hk3 : 61 ≤ (61 + v3_4.toNatClampNeg) ∧ (61 + v3_4.toNatClampNeg) < 65 := ix_of hx3
        have hk3 : 61 ≤ (61 + v3_4.toNatClampNeg) ∧ (61 + v3_4.toNatClampNeg) < 77 := ⟨Nat.le_trans (by decide) hk3.1, Nat.lt_of_lt_of_le hk3.2 (by decide)⟩
        refine lq_v (.ref (ad (61 + v3_4.toNatClampNeg))) rfl ?_
        refine va_get (D := (dC, dI)) (ci := 3) (v := .int (mu (61 + v3_4.toNatClampNeg) 5)) (C := RX3) (T := TX3) (N := 10) hx hb hts inG3 hown hK hP (61 + v3_4.toNatClampNeg) (gX_letter cs ad mu (61 + v3_4.toNatClampNeg) hk3.1 hk3.2) rfl 5 (by decide) (hts _ (List.mem_cons_of_mem _ mw_1_64)) (fun _ h9 => h9) rfl dX10_paidForUnread_25 ?_
        refine lv_topi (fun y4 ey4 => ?_)
        have hF := mi_let hF ey4
        have by4 : y4.toInt = (mu (61 + v3_4.toNatClampNeg) 5).toInt := congrArg Int32.toInt ey4
        have gy4 : 0 ≤ y4.toInt ∧ y4.toInt ≤ 6 := by rw [ey4]; exact rX_letter_5 ok (61 + v3_4.toNatClampNeg) hk3.1 hk3.2
        refine lv_iload_n hx hb dX10_paidForUnread_28 rfl (lv_at hl 3 rfl) ?_
        refine lv_icmp_ne (tgt := 62) hx hb dX10_paidForUnread_29 (by decide) (fun c_5 => ?_) (fun c_5 => ?_)
        · have hF := (if_neg c_5).symm.trans hF
          have c_5 : ¬ y4.toInt = vx.toInt := il_ne c_5
          refine lv_iconst (v := 0) hx hb dX10_paidForUnread_62 (by decide) ?_
          refine lv_iadd hx hb dX10_paidForUnread_63 ?_
          refine lv_topi (fun t6 et6 => ?_)
          have hF := mi_let hF et6
          refine lv_istore_n (lv' := [(2, .int t6), (3, .int v3_4), (0, .ref (ad 4)), (1, .int vx)]) hx hb dX10_paidForUnread_64 rfl hl (by decide) rfl (fun ls hl => ?_)
          refine lv_iinc (v := (v3_4 + 1)) (lv' := [(3, .int (v3_4 + 1)), (2, .int t6), (0, .ref (ad 4)), (1, .int vx)]) hx hb dX10_paidForUnread_65 hl (k := 1) rfl rfl (by decide) rfl (fun ls hl => ?_)
          refine loc_gen (P := fun w9 => lv_has ls 4 [(3, .int w9), (2, .int t6), (0, .ref (ad 4)), (1, .int vx)]) (v3_4 + 1) hl (fun w7 hw7 hl => ?_)
          have hl : lv_has ls 4 [(3, .int w7), (2, .int t6), (0, .ref (ad 4)), (1, .int vx)] := hl
          have hF := mi_let hF hw7.symm
          have aw7 : w7.toInt = v3_4.toInt + 1 := by rw [← hw7]; first | exact va1 (Int.lt_of_le_of_lt h_v3_4.2 (by decide)) | exact va1 (by omega)
          refine lv_goto (tgt := 4) hx hb dX10_paidForUnread_68 (by decide) ?_
          exact ih4 (t6) (w7)  _ _ (by first | exact ms_up hm_4 aw7 h_v3_4.2 | exact ms_lt hm_4 (by omega) (by omega) | omega) (by first | exact rg_up aw7 h_v3_4 (by omega) | omega)   hF hS (lv_sub hl [0, 1, 2, 3] rfl)
        · have hF := (if_pos c_5).symm.trans hF
          have c_5 : y4.toInt = vx.toInt := il_eq c_5
          refine lv_aload_n hx hb dX10_paidForUnread_32 rfl (lv_at hl 2 rfl) ?_
          refine va_get (D := (dC, dI)) (ci := 10) (v := .ref (ad 5)) (C := RX10) (T := TX10) (N := 8) hx hb hts inG10 hown hK hP 4 (gX_4 cs ad mu) rfl 3 (by decide) (hts _ (List.mem_cons_of_mem _ mw_1_152)) (fun _ h9 => h9) rfl dX10_paidForUnread_33 ?_
          refine va_get (D := (dC, dI)) (ci := 8) (v := .ref (ad 47)) (C := RX8) (T := TX8) (N := 6) hx hb hts inG8 hown hK hP 5 (gX_5 cs ad mu) rfl 1 (by decide) (hts _ (List.mem_cons_of_mem _ mw_1_111)) (fun _ h9 => h9) rfl dX10_paidForUnread_36 ?_
          refine lv_iload_n hx hb dX10_paidForUnread_39 rfl (lv_at hl 0 rfl) ?_
          have hx8 : 0 ≤ v3_4.toInt ∧ v3_4.toInt < ((4 : Nat) : Int) := ⟨by omega, by omega⟩
          refine va_aldq hx hb hK hP 47 5 (gX_47 cs ad mu) rfl (show vp_in v3_4 4 from vi_of hx8.1 hx8.2) dX10_paidForUnread_40 ?_
          have hk8 : 61 ≤ (61 + v3_4.toNatClampNeg) ∧ (61 + v3_4.toNatClampNeg) < 65 := ix_of hx8
          have hk8 : 61 ≤ (61 + v3_4.toNatClampNeg) ∧ (61 + v3_4.toNatClampNeg) < 77 := ⟨Nat.le_trans (by decide) hk8.1, Nat.lt_of_lt_of_le hk8.2 (by decide)⟩
          refine lq_v (.ref (ad (61 + v3_4.toNatClampNeg))) rfl ?_
          refine va_get (D := (dC, dI)) (ci := 3) (v := .int (mu (61 + v3_4.toNatClampNeg) 9)) (C := RX3) (T := TX3) (N := 10) hx hb hts inG3 hown hK hP (61 + v3_4.toNatClampNeg) (gX_letter cs ad mu (61 + v3_4.toNatClampNeg) hk8.1 hk8.2) rfl 9 (by decide) (hts _ (List.mem_cons_of_mem _ mw_1_79)) (fun _ h9 => h9) rfl dX10_paidForUnread_41 ?_
          refine lv_topi (fun y9 ey9 => ?_)
          have hF := mi_let hF ey9
          have by9 : y9.toInt = (mu (61 + v3_4.toNatClampNeg) 9).toInt := congrArg Int32.toInt ey9
          have gy9 : 0 ≤ y9.toInt ∧ y9.toInt ≤ 1 := by rw [ey9]; exact rX_letter_9 ok (61 + v3_4.toNatClampNeg) hk8.1 hk8.2
          refine lv_if_ne (tgt := 62) hx hb dX10_paidForUnread_44 (by decide) (fun c_10 => ?_) (fun c_10 => ?_)
          · have hF := (if_neg c_10).symm.trans hF
            have c_10 : ¬ y9.toInt = 0 := il_ne c_10
            refine lv_iconst (v := 0) hx hb dX10_paidForUnread_62 (by decide) ?_
            refine lv_iadd hx hb dX10_paidForUnread_63 ?_
            refine lv_topi (fun t11 et11 => ?_)
            have hF := mi_let hF et11
            refine lv_istore_n (lv' := [(2, .int t11), (3, .int v3_4), (0, .ref (ad 4)), (1, .int vx)]) hx hb dX10_paidForUnread_64 rfl hl (by decide) rfl (fun ls hl => ?_)
            refine lv_iinc (v := (v3_4 + 1)) (lv' := [(3, .int (v3_4 + 1)), (2, .int t11), (0, .ref (ad 4)), (1, .int vx)]) hx hb dX10_paidForUnread_65 hl (k := 1) rfl rfl (by decide) rfl (fun ls hl => ?_)
            refine loc_gen (P := fun w9 => lv_has ls 4 [(3, .int w9), (2, .int t11), (0, .ref (ad 4)), (1, .int vx)]) (v3_4 + 1) hl (fun w12 hw12 hl => ?_)
            have hl : lv_has ls 4 [(3, .int w12), (2, .int t11), (0, .ref (ad 4)), (1, .int vx)] := hl
            have hF := mi_let hF hw12.symm
            have aw12 : w12.toInt = v3_4.toInt + 1 := by rw [← hw12]; first | exact va1 (Int.lt_of_le_of_lt h_v3_4.2 (by decide)) | exact va1 (by omega)
            refine lv_goto (tgt := 4) hx hb dX10_paidForUnread_68 (by decide) ?_
            exact ih4 (t11) (w12)  _ _ (by first | exact ms_up hm_4 aw12 h_v3_4.2 | exact ms_lt hm_4 (by omega) (by omega) | omega) (by first | exact rg_up aw12 h_v3_4 (by omega) | omega)   hF hS (lv_sub hl [0, 1, 2, 3] rfl)
          · have hF := (if_pos c_10).symm.trans hF
            have c_10 : y9.toInt = 0 := il_eq c_10
            refine lv_aload_n hx hb dX10_paidForUnread_47 rfl (lv_at hl 2 rfl) ?_
            refine va_get (D := (dC, dI)) (ci := 10) (v := .ref (ad 5)) (C := RX10) (T := TX10) (N := 8) hx hb hts inG10 hown hK hP 4 (gX_4 cs ad mu) rfl 3 (by decide) (hts _ (List.mem_cons_of_mem _ mw_1_152)) (fun _ h9 => h9) rfl dX10_paidForUnread_48 ?_
            refine va_get (D := (dC, dI)) (ci := 8) (v := .ref (ad 47)) (C := RX8) (T := TX8) (N := 6) hx hb hts inG8 hown hK hP 5 (gX_5 cs ad mu) rfl 1 (by decide) (hts _ (List.mem_cons_of_mem _ mw_1_111)) (fun _ h9 => h9) rfl dX10_paidForUnread_51 ?_
            refine lv_iload_n hx hb dX10_paidForUnread_54 rfl (lv_at hl 0 rfl) ?_
            have hx13 : 0 ≤ v3_4.toInt ∧ v3_4.toInt < ((4 : Nat) : Int) := ⟨by omega, by omega⟩
            refine va_aldq hx hb hK hP 47 5 (gX_47 cs ad mu) rfl (show vp_in v3_4 4 from vi_of hx13.1 hx13.2) dX10_paidForUnread_55 ?_
            have hk13 : 61 ≤ (61 + v3_4.toNatClampNeg) ∧ (61 + v3_4.toNatClampNeg) < 65 := ix_of hx13
            have hk13 : 61 ≤ (61 + v3_4.toNatClampNeg) ∧ (61 + v3_4.toNatClampNeg) < 77 := ⟨Nat.le_trans (by decide) hk13.1, Nat.lt_of_lt_of_le hk13.2 (by decide)⟩
            refine lq_v (.ref (ad (61 + v3_4.toNatClampNeg))) rfl ?_
            refine va_get (D := (dC, dI)) (ci := 3) (v := .int (mu (61 + v3_4.toNatClampNeg) 6)) (C := RX3) (T := TX3) (N := 10) hx hb hts inG3 hown hK hP (61 + v3_4.toNatClampNeg) (gX_letter cs ad mu (61 + v3_4.toNatClampNeg) hk13.1 hk13.2) rfl 6 (by decide) (hts _ (List.mem_cons_of_mem _ mw_1_69)) (fun _ h9 => h9) rfl dX10_paidForUnread_56 ?_
            refine lv_topi (fun y14 ey14 => ?_)
            have hF := mi_let hF ey14
            have by14 : y14.toInt = (mu (61 + v3_4.toNatClampNeg) 6).toInt := congrArg Int32.toInt ey14
            refine lv_goto (tgt := 63) hx hb dX10_paidForUnread_59 (by decide) ?_
            refine lv_iadd hx hb dX10_paidForUnread_63 ?_
            refine lv_topi (fun t15 et15 => ?_)
            have hF := mi_let hF et15
            refine lv_istore_n (lv' := [(2, .int t15), (3, .int v3_4), (0, .ref (ad 4)), (1, .int vx)]) hx hb dX10_paidForUnread_64 rfl hl (by decide) rfl (fun ls hl => ?_)
            refine lv_iinc (v := (v3_4 + 1)) (lv' := [(3, .int (v3_4 + 1)), (2, .int t15), (0, .ref (ad 4)), (1, .int vx)]) hx hb dX10_paidForUnread_65 hl (k := 1) rfl rfl (by decide) rfl (fun ls hl => ?_)
            refine loc_gen (P := fun w9 => lv_has ls 4 [(3, .int w9), (2, .int t15), (0, .ref (ad 4)), (1, .int vx)]) (v3_4 + 1) hl (fun w16 hw16 hl => ?_)
            have hl : lv_has ls 4 [(3, .int w16), (2, .int t15), (0, .ref (ad 4)), (1, .int vx)] := hl
            have hF := mi_let hF hw16.symm
            have aw16 : w16.toInt = v3_4.toInt + 1 := by rw [← hw16]; first | exact va1 (Int.lt_of_le_of_lt h_v3_4.2 (by decide)) | exact va1 (by omega)
            refine lv_goto (tgt := 4) hx hb dX10_paidForUnread_68 (by decide) ?_
            exact ih4 (t15) (w16)  _ _ (by first | exact ms_up hm_4 aw16 h_v3_4.2 | exact ms_lt hm_4 (by omega) (by omega) | omega) (by first | exact rg_up aw16 h_v3_4 (by omega) | omega)   hF hS (lv_sub hl [0, 1, 2, 3] rfl)
  exact loop4 7 (0) (0)  _ _ (by have h80 : (0 : Int32).toInt = 0 := rfl; have h81 : (0 : Int32).toInt = 0 := rfl; omega) (by have h80 : (0 : Int32).toInt = 0 := rfl; exact ⟨by omega, by omega⟩)   hF hS hl
set_option maxHeartbeats 4000000 in
set_option maxRecDepth 100000 in
/-- sx_friendsNear -/
theorem sx_friendsNear (l : Launch) (dC : Nat → ClassId) (dI : Nat → Nat → Nat) (cs : Nat → ClassId) (ad : Nat → Nat) (mu : Nat → Nat → Int32) (ok : okR loX hiX mu) (H : Heap) (hP : va_P (dC, dI) vwCl (wR 157 ad (EX cs ad) mu) H) (vx : Int32) : Met l yX10_friendsNear (wU yX10_friendsNear cX10_friendsNear 5 (some .int)) ({ frames := 2, cells := 0, slots := 0, locals := 45 }) (va_Pc [.ref (ad 4), .int vx] (sz_P (dC, dI) vwCl (tyW cs) H)) (va_Qi (fun (z : Int32) (_ : Unit) => z = F_sx_friendsNear mu vx ∧ (True)) (fun _ t => t.heap = H) (fun _ => False)) 0 0 (fun _ => False) := by
  refine Met.ofW (cc := cX10_friendsNear) (maxL := 5) (ret := (some .int)) (by decide) rfl ?_
  intro p e s m args below meth c s₁ B hml hv
  obtain ⟨rfl, hh, hK, hz⟩ := hv
  have hx := B.exec
  have hb := B.bytes
  have hr := B.returns
  have hts := atoms_spec (ws := (wU yX10_friendsNear cX10_friendsNear 5 (some .int))) B.pre
  have hown : s.vm.findClass RX10 = some m.cls := findClass_of_methodNamed B.named
  have hlocks := B.notSynchronized
  subst hh
  have hS : va_S (fun _ => False) s.heap s.heap [] := va_S.rf
  have hl := lv_entry ([.ref (ad 4), .int vx]) (n := 5) (Nat.le_of_ble_eq_true rfl)
  rw [lg_entry_eq]
  generalize (lg_sl ([.ref (ad 4), .int vx]) ++ List.replicate (5 - (lg_sl ([.ref (ad 4), .int vx])).length) Slot.unset).toArray = ls at hl ⊢
  have hl : lv_has ls 5 [(0, .ref (ad 4)), (1, .int vx)] := hl
  obtain ⟨fz, hfz⟩ : ∃ z, F_sx_friendsNear mu vx = z := ⟨_, rfl⟩
  have hF := hfz
  unfold F_sx_friendsNear at hF
  refine lv_aload_n hx hb dX10_friendsNear_0 rfl (lv_at hl 0 rfl) ?_
  refine lv_iload_n hx hb dX10_friendsNear_1 rfl (lv_at hl 1 rfl) ?_
  refine lv_aload_n hx hb dX10_friendsNear_2 rfl (lv_at hl 0 rfl) ?_
  refine va_get (D := (dC, dI)) (ci := 10) (v := .ref (ad 5)) (C := RX10) (T := TX10) (N := 8) hx hb hts inG10 hown hK hP 4 (gX_4 cs ad mu) rfl 3 (by decide) (hts _ (List.mem_cons_of_mem _ mw_1_152)) (fun _ h9 => h9) rfl dX10_friendsNear_3 ?_
  refine va_get (D := (dC, dI)) (ci := 8) (v := .int (mu 5 2)) (C := RX8) (T := TX8) (N := 6) hx hb hts inG8 hown hK hP 5 (gX_5 cs ad mu) rfl 2 (by decide) (hts _ (List.mem_cons_of_mem _ mw_1_116)) (fun _ h9 => h9) rfl dX10_friendsNear_6 ?_
  refine lv_topi (fun y1 ey1 => ?_)
  have hF := mi_let hF ey1
  have by1 : y1.toInt = (mu 5 2).toInt := congrArg Int32.toInt ey1
  refine cr_i (va_runV (As := [.int vx, .int y1]) (rest := []) ⟨hx, hb, hml, hown, hts⟩ (sx_near l dC dI cs ad mu ok s.heap hP vx y1) (cwV 2 hts (wU_V mw_3_84 mw_3_81 mw_3_82 mw_3_83 mw_1_2) rfl rfl rfl (by decide +kernel) ⟨Nat.le_of_ble_eq_true rfl, Nat.le_of_ble_eq_true rfl⟩) ⟨sz_c, va_recv hK hP (ci := 10) (q0 := 4) rfl (gX_4 cs ad mu), sz_m hK hz⟩ rfl rfl hl.1 rfl (lv_room (Nat.le_of_ble_eq_true rfl)) dX10_friendsNear_9 ⟨Nat.zero_le _, Nat.zero_le _⟩) hS (fun r2 hw2 locs hS => ?_)
  obtain ⟨hfe2, hw2⟩ := hw2
  have hF := mi_let hF hfe2
  refine lv_istore_n (lv' := [(2, .int r2), (0, .ref (ad 4)), (1, .int vx)]) hx hb dX10_friendsNear_12 rfl hl (by decide) rfl (fun ls hl => ?_)
  refine lv_iconst (v := 0) hx hb dX10_friendsNear_13 (by decide) ?_
  refine lv_istore_n (lv' := [(3, .int 0), (2, .int r2), (0, .ref (ad 4)), (1, .int vx)]) hx hb dX10_friendsNear_14 rfl hl (by decide) rfl (fun ls hl => ?_)
  refine lv_iconst (v := 0) hx hb dX10_friendsNear_15 (by decide) ?_
  refine lv_istore (lv' := [(4, .int 0), (3, .int 0), (2, .int r2), (0, .ref (ad 4)), (1, .int vx)]) hx hb dX10_friendsNear_16 hl (by decide) rfl (fun ls hl => ?_)
  have loop18 : ∀ (n18 : Nat) (v3_18 : Int32) (v4_18 : Int32) (locs : List Loc) (ls : Array Slot), (7 + 1 - v4_18.toInt).toNat < n18 → (0 ≤ v4_18.toInt ∧ v4_18.toInt ≤ 7) → L_sx_friendsNear_18_0 mu r2 n18 v3_18 v4_18 = fz → va_S (fun _ => False) s.heap s.heap locs → lv_has ls 5 [(4, .int v4_18), (3, .int v3_18), (2, .int r2), (0, .ref (ad 4)), (1, .int vx)] → W p l e (headSpec (wU yX10_friendsNear cX10_friendsNear 5 (some .int)) ({ frames := 2, cells := 0, slots := 0, locals := 45 })).room s m ([.ref (ad 4), .int vx] : List Value).toArray below meth c s.heap locs 0 0 (MQ below (va_Qi (fun (z : Int32) (_ : Unit) => z = F_sx_friendsNear mu vx ∧ (True)) (fun _ t => t.heap = s.heap) (fun _ => False)) ([.ref (ad 4), .int vx] : List Value).toArray s 0 0 (fun _ => False)) (F0 m 18 ls []) := by
    intro n18
    induction n18 with
    | zero => intro v3_18 v4_18 locs ls hm; exact absurd hm (Nat.not_lt_zero _)
    | succ n18 ih18 =>
      intro v3_18 v4_18 locs ls hm_18 h_v4_18 hF hS hl
      rw [L_sx_friendsNear_18_0] at hF
      refine lv_iload hx hb dX10_friendsNear_18 (lv_at hl 0 rfl) ?_
      refine lv_aload_n hx hb dX10_friendsNear_20 rfl (lv_at hl 3 rfl) ?_
      refine va_get (D := (dC, dI)) (ci := 10) (v := .int (mu 4 6)) (C := RX10) (T := TX10) (N := 8) hx hb hts inG10 hown hK hP 4 (gX_4 cs ad mu) rfl 6 (by decide) (hts _ (List.mem_cons_of_mem _ mw_1_160)) (fun _ h9 => h9) rfl dX10_friendsNear_21 ?_
      refine lv_topi (fun y3 ey3 => ?_)
      have hF := mi_let hF ey3
      have by3 : y3.toInt = (mu 4 6).toInt := congrArg Int32.toInt ey3
      have gy3 : 0 ≤ y3.toInt ∧ y3.toInt ≤ 7 := by rw [ey3]; exact rX_4_6 ok
      refine lv_icmp_ge (tgt := 64) hx hb dX10_friendsNear_24 (by decide) (fun c_4 => ?_) (fun c_4 => ?_)
      · have hF := (if_pos c_4).symm.trans hF
        have c_4 : y3.toInt ≤ v4_18.toInt := il_le c_4
        refine lv_iload_n hx hb dX10_friendsNear_64 rfl (lv_at hl 1 rfl) ?_
        exact W.iret (v := v3_18) hx hb hr (fun t ht hW => ⟨⟨v3_18, (), rfl, ⟨hF.trans hfz.symm, trivial⟩, ht⟩, hS.F ht⟩) hS.2.2 dX10_friendsNear_65
      · have hF := (if_neg c_4).symm.trans hF
        have c_4 : v4_18.toInt < y3.toInt := il_nle c_4
        refine lv_iload_n hx hb dX10_friendsNear_27 rfl (lv_at hl 1 rfl) ?_
        refine lv_iload_n hx hb dX10_friendsNear_28 rfl (lv_at hl 2 rfl) ?_
        refine lv_iload hx hb dX10_friendsNear_29 (lv_at hl 0 rfl) ?_
        refine cr_i (va_runSN (As := [.int r2, .int v4_18]) (rest := [.int v3_18]) ⟨hx, hb, hml, hown, hts⟩ (sx_hasBit l dC dI (tyW cs) s.heap r2 v4_18) ⟨va_cnB 2 hts (wU_in mw_3_87) rfl rfl rfl (hz.2.2.1) (hts _ (List.mem_cons_of_mem _ mw_1_1)) (by decide +kernel) ⟨Nat.le_of_ble_eq_true rfl, Nat.le_of_ble_eq_true rfl⟩, (hts _ (List.mem_cons_of_mem _ mw_3_86)), trivial⟩ ⟨sz_c, sz_m hK hz⟩ rfl rfl hl.1 rfl (lv_room (Nat.le_of_ble_eq_true rfl)) dX10_friendsNear_31 ⟨Nat.zero_le _, Nat.zero_le _⟩) hS (fun r5 hw5 locs hS => ?_)
        obtain ⟨hfe5, hw5⟩ := hw5
        have hF := mi_let hF hfe5
        have gr5 : 0 ≤ r5.toInt ∧ r5.toInt ≤ 1 := hw5
        refine lv_if_eq (tgt := 55) hx hb dX10_friendsNear_34 (by decide) (fun c_6 => ?_) (fun c_6 => ?_)
        · have hF := (if_pos c_6).symm.trans hF
          have c_6 : r5.toInt = 0 := il_eq c_6
          refine lv_iconst (v := 0) hx hb dX10_friendsNear_55 (by decide) ?_
          refine lv_iadd hx hb dX10_friendsNear_56 ?_
          refine lv_topi (fun t7 et7 => ?_)
          have hF := mi_let hF et7
          refine lv_istore_n (lv' := [(3, .int t7), (4, .int v4_18), (2, .int r2), (0, .ref (ad 4)), (1, .int vx)]) hx hb dX10_friendsNear_57 rfl hl (by decide) rfl (fun ls hl => ?_)
          refine lv_iinc (v := (v4_18 + 1)) (lv' := [(4, .int (v4_18 + 1)), (3, .int t7), (2, .int r2), (0, .ref (ad 4)), (1, .int vx)]) hx hb dX10_friendsNear_58 hl (k := 1) rfl rfl (by decide) rfl (fun ls hl => ?_)
          refine loc_gen (P := fun w9 => lv_has ls 5 [(4, .int w9), (3, .int t7), (2, .int r2), (0, .ref (ad 4)), (1, .int vx)]) (v4_18 + 1) hl (fun w8 hw8 hl => ?_)
          have hl : lv_has ls 5 [(4, .int w8), (3, .int t7), (2, .int r2), (0, .ref (ad 4)), (1, .int vx)] := hl
          have hF := mi_let hF hw8.symm
          have aw8 : w8.toInt = v4_18.toInt + 1 := by rw [← hw8]; first | exact va1 (Int.lt_of_le_of_lt h_v4_18.2 (by decide)) | exact va1 (by omega)
          refine lv_goto (tgt := 18) hx hb dX10_friendsNear_61 (by decide) ?_
          exact ih18 (t7) (w8)  _ _ (by first | exact ms_up hm_18 aw8 h_v4_18.2 | exact ms_lt hm_18 (by omega) (by omega) | omega) (by first | exact rg_up aw8 h_v4_18 (by omega) | omega)   hF hS (lv_sub hl [0, 1, 2, 3, 4] rfl)
        · have hF := (if_neg c_6).symm.trans hF
          have c_6 : ¬ r5.toInt = 0 := il_ne c_6
          refine lv_aload_n hx hb dX10_friendsNear_37 rfl (lv_at hl 3 rfl) ?_
          refine va_get (D := (dC, dI)) (ci := 10) (v := .ref (ad 34)) (C := RX10) (T := TX10) (N := 8) hx hb hts inG10 hown hK hP 4 (gX_4 cs ad mu) rfl 0 (by decide) (hts _ (List.mem_cons_of_mem _ mw_1_143)) (fun _ h9 => h9) rfl dX10_friendsNear_38 ?_
          refine lv_iload hx hb dX10_friendsNear_41 (lv_at hl 0 rfl) ?_
          refine va_iald hx hb hK hP 34 0 (gX_34 cs ad mu) rfl (show vp_in v4_18 7 from vi_of (by omega) (by omega)) dX10_friendsNear_43 ?_
          refine lv_topi (fun y9 ey9 => ?_)
          have hF := mi_let hF ey9
          have by9 : y9.toInt = (mu 34 v4_18.toNatClampNeg).toInt := congrArg Int32.toInt ey9
          refine lv_iconst (v := 2) hx hb dX10_friendsNear_44 (by decide) ?_
          refine cr_i (va_runSN (As := [.int y9, .int 2]) (rest := [.int v3_18]) ⟨hx, hb, hml, hown, hts⟩ (sx_isOfKind l dC dI (tyW cs) s.heap y9 2) ⟨va_cnB 2 hts (wU_in mw_3_104) rfl rfl rfl (hz.2.2.2.1) (hts _ (List.mem_cons_of_mem _ mw_1_1)) (by decide +kernel) ⟨Nat.le_of_ble_eq_true rfl, Nat.le_of_ble_eq_true rfl⟩, (hts _ (List.mem_cons_of_mem _ mw_3_103)), trivial⟩ ⟨sz_c, sz_m hK hz⟩ rfl rfl hl.1 rfl (lv_room (Nat.le_of_ble_eq_true rfl)) dX10_friendsNear_45 ⟨Nat.zero_le _, Nat.zero_le _⟩) hS (fun r10 hw10 locs hS => ?_)
          obtain ⟨hfe10, hw10⟩ := hw10
          have hF := mi_let hF hfe10
          have gr10 : 0 ≤ r10.toInt ∧ r10.toInt ≤ 1 := hw10
          refine lv_if_eq (tgt := 55) hx hb dX10_friendsNear_48 (by decide) (fun c_11 => ?_) (fun c_11 => ?_)
          · have hF := (if_pos c_11).symm.trans hF
            have c_11 : r10.toInt = 0 := il_eq c_11
            refine lv_iconst (v := 0) hx hb dX10_friendsNear_55 (by decide) ?_
            refine lv_iadd hx hb dX10_friendsNear_56 ?_
            refine lv_topi (fun t12 et12 => ?_)
            have hF := mi_let hF et12
            refine lv_istore_n (lv' := [(3, .int t12), (4, .int v4_18), (2, .int r2), (0, .ref (ad 4)), (1, .int vx)]) hx hb dX10_friendsNear_57 rfl hl (by decide) rfl (fun ls hl => ?_)
            refine lv_iinc (v := (v4_18 + 1)) (lv' := [(4, .int (v4_18 + 1)), (3, .int t12), (2, .int r2), (0, .ref (ad 4)), (1, .int vx)]) hx hb dX10_friendsNear_58 hl (k := 1) rfl rfl (by decide) rfl (fun ls hl => ?_)
            refine loc_gen (P := fun w9 => lv_has ls 5 [(4, .int w9), (3, .int t12), (2, .int r2), (0, .ref (ad 4)), (1, .int vx)]) (v4_18 + 1) hl (fun w13 hw13 hl => ?_)
            have hl : lv_has ls 5 [(4, .int w13), (3, .int t12), (2, .int r2), (0, .ref (ad 4)), (1, .int vx)] := hl
            have hF := mi_let hF hw13.symm
            have aw13 : w13.toInt = v4_18.toInt + 1 := by rw [← hw13]; first | exact va1 (Int.lt_of_le_of_lt h_v4_18.2 (by decide)) | exact va1 (by omega)
            refine lv_goto (tgt := 18) hx hb dX10_friendsNear_61 (by decide) ?_
            exact ih18 (t12) (w13)  _ _ (by first | exact ms_up hm_18 aw13 h_v4_18.2 | exact ms_lt hm_18 (by omega) (by omega) | omega) (by first | exact rg_up aw13 h_v4_18 (by omega) | omega)   hF hS (lv_sub hl [0, 1, 2, 3, 4] rfl)
          · have hF := (if_neg c_11).symm.trans hF
            have c_11 : ¬ r10.toInt = 0 := il_ne c_11
            refine lv_iconst (v := 1) hx hb dX10_friendsNear_51 (by decide) ?_
            refine lv_goto (tgt := 56) hx hb dX10_friendsNear_52 (by decide) ?_
            refine lv_iadd hx hb dX10_friendsNear_56 ?_
            refine lv_topi (fun t14 et14 => ?_)
            have hF := mi_let hF et14
            refine lv_istore_n (lv' := [(3, .int t14), (4, .int v4_18), (2, .int r2), (0, .ref (ad 4)), (1, .int vx)]) hx hb dX10_friendsNear_57 rfl hl (by decide) rfl (fun ls hl => ?_)
            refine lv_iinc (v := (v4_18 + 1)) (lv' := [(4, .int (v4_18 + 1)), (3, .int t14), (2, .int r2), (0, .ref (ad 4)), (1, .int vx)]) hx hb dX10_friendsNear_58 hl (k := 1) rfl rfl (by decide) rfl (fun ls hl => ?_)
            refine loc_gen (P := fun w9 => lv_has ls 5 [(4, .int w9), (3, .int t14), (2, .int r2), (0, .ref (ad 4)), (1, .int vx)]) (v4_18 + 1) hl (fun w15 hw15 hl => ?_)
            have hl : lv_has ls 5 [(4, .int w15), (3, .int t14), (2, .int r2), (0, .ref (ad 4)), (1, .int vx)] := hl
            have hF := mi_let hF hw15.symm
            have aw15 : w15.toInt = v4_18.toInt + 1 := by rw [← hw15]; first | exact va1 (Int.lt_of_le_of_lt h_v4_18.2 (by decide)) | exact va1 (by omega)
            refine lv_goto (tgt := 18) hx hb dX10_friendsNear_61 (by decide) ?_
            exact ih18 (t14) (w15)  _ _ (by first | exact ms_up hm_18 aw15 h_v4_18.2 | exact ms_lt hm_18 (by omega) (by omega) | omega) (by first | exact rg_up aw15 h_v4_18 (by omega) | omega)   hF hS (lv_sub hl [0, 1, 2, 3, 4] rfl)
  exact loop18 10 (0) (0)  _ _ (by have h80 : (0 : Int32).toInt = 0 := rfl; have h81 : (0 : Int32).toInt = 0 := rfl; omega) (by have h80 : (0 : Int32).toInt = 0 := rfl; exact ⟨by omega, by omega⟩)   hF hS hl
set_option maxHeartbeats 4000000 in
set_option maxRecDepth 100000 in
/-- sx_rowsThere -/
theorem sx_rowsThere (l : Launch) (dC : Nat → ClassId) (dI : Nat → Nat → Nat) (cs : Nat → ClassId) (ad : Nat → Nat) (mu : Nat → Nat → Int32) (ok : okR loX hiX mu) (H : Heap) (hP : va_P (dC, dI) vwCl (wR 157 ad (EX cs ad) mu) H) : Met l yX11_rowsThere (wU yX11_rowsThere cX11_rowsThere 3 (some .int)) ({ frames := 1, cells := 0, slots := 0, locals := 20 }) (va_Pc [.ref (ad 0)] (sz_P (dC, dI) vwCl (tyW cs) H)) (va_Qi (fun (z : Int32) (_ : Unit) => True) (fun _ t => t.heap = H) (fun _ => False)) 0 0 (fun _ => False) := by
  refine Met.ofW (cc := cX11_rowsThere) (maxL := 3) (ret := (some .int)) (by decide) rfl ?_
  intro p e s m args below meth c s₁ B hml hv
  obtain ⟨rfl, hh, hK, hz⟩ := hv
  have hx := B.exec
  have hb := B.bytes
  have hr := B.returns
  have hts := atoms_spec (ws := (wU yX11_rowsThere cX11_rowsThere 3 (some .int))) B.pre
  have hown : s.vm.findClass RX11 = some m.cls := findClass_of_methodNamed B.named
  have hlocks := B.notSynchronized
  subst hh
  have hS : va_S (fun _ => False) s.heap s.heap [] := va_S.rf
  have hl := lv_entry ([.ref (ad 0)]) (n := 3) (Nat.le_of_ble_eq_true rfl)
  rw [lg_entry_eq]
  generalize (lg_sl ([.ref (ad 0)]) ++ List.replicate (3 - (lg_sl ([.ref (ad 0)])).length) Slot.unset).toArray = ls at hl ⊢
  have hl : lv_has ls 3 [(0, .ref (ad 0))] := hl
  refine lv_iconst (v := 0) hx hb dX11_rowsThere_0 (by decide) ?_
  refine lv_istore_n (lv' := [(1, .int 0), (0, .ref (ad 0))]) hx hb dX11_rowsThere_1 rfl hl (by decide) rfl (fun ls hl => ?_)
  refine lv_iconst (v := 0) hx hb dX11_rowsThere_2 (by decide) ?_
  refine lv_istore_n (lv' := [(2, .int 0), (1, .int 0), (0, .ref (ad 0))]) hx hb dX11_rowsThere_3 rfl hl (by decide) rfl (fun ls hl => ?_)
  have loop4 : ∀ (n4 : Nat) (v1_4 : Int32) (v2_4 : Int32) (locs : List Loc) (ls : Array Slot), (6 + 1 - v2_4.toInt).toNat < n4 → (0 ≤ v2_4.toInt ∧ v2_4.toInt ≤ 6) → va_S (fun _ => False) s.heap s.heap locs → lv_has ls 3 [(2, .int v2_4), (1, .int v1_4), (0, .ref (ad 0))] → W p l e (headSpec (wU yX11_rowsThere cX11_rowsThere 3 (some .int)) ({ frames := 1, cells := 0, slots := 0, locals := 20 })).room s m ([.ref (ad 0)] : List Value).toArray below meth c s.heap locs 0 0 (MQ below (va_Qi (fun (z : Int32) (_ : Unit) => True) (fun _ t => t.heap = s.heap) (fun _ => False)) ([.ref (ad 0)] : List Value).toArray s 0 0 (fun _ => False)) (F0 m 4 ls []) := by
    intro n4
    induction n4 with
    | zero => intro v1_4 v2_4 locs ls hm; exact absurd hm (Nat.not_lt_zero _)
    | succ n4 ih4 =>
      intro v1_4 v2_4 locs ls hm_4 h_v2_4 hS hl
      refine lv_iload_n hx hb dX11_rowsThere_4 rfl (lv_at hl 0 rfl) ?_
      refine lv_bipush (v := 6) hx hb dX11_rowsThere_5 (by decide) ?_
      refine lv_icmp_ge (tgt := 36) hx hb dX11_rowsThere_7 (by decide) (fun c_1 => ?_) (fun c_1 => ?_)
      · have c_1 : 6 ≤ v2_4.toInt := il_le c_1
        refine lv_iload_n hx hb dX11_rowsThere_36 rfl (lv_at hl 1 rfl) ?_
        exact W.iret (v := v1_4) hx hb hr (fun t ht hW => ⟨⟨v1_4, (), rfl, trivial, ht⟩, hS.F ht⟩) hS.2.2 dX11_rowsThere_37
      · have c_1 : v2_4.toInt < 6 := il_nle c_1
        refine lv_iload_n hx hb dX11_rowsThere_10 rfl (lv_at hl 1 rfl) ?_
        refine lv_aload_n hx hb dX11_rowsThere_11 rfl (lv_at hl 2 rfl) ?_
        refine va_get (D := (dC, dI)) (ci := 11) (v := .ref (ad 1)) (C := RX11) (T := TX11) (N := 11) hx hb hts inG11 hown hK hP 0 (gX_0 cs ad mu) rfl 0 (by decide) (hts _ (List.mem_cons_of_mem _ mw_2_158)) (fun _ h9 => h9) rfl dX11_rowsThere_12 ?_
        refine lv_iload_n hx hb dX11_rowsThere_15 rfl (lv_at hl 0 rfl) ?_
        have hx2 : 0 ≤ v2_4.toInt ∧ v2_4.toInt < ((6 : Nat) : Int) := ⟨by omega, by omega⟩
        refine va_aldq hx hb hK hP 1 2 (gX_1 cs ad mu) rfl (show vp_in v2_4 6 from vi_of hx2.1 hx2.2) dX11_rowsThere_16 ?_
        have hk2 : 8 ≤ (8 + v2_4.toNatClampNeg) ∧ (8 + v2_4.toNatClampNeg) < 14 := ix_of hx2
        refine lq_v (.ref (ad (8 + v2_4.toNatClampNeg))) rfl ?_
        refine cr_i (va_runV (As := []) (rest := [.int v1_4]) ⟨hx, hb, hml, hown, hts⟩ (sx_Row_isMissing l dC dI cs ad mu ok s.heap hP (8 + v2_4.toNatClampNeg) hk2.1 hk2.2) (cwV 0 hts (wU_V mw_2_225 mw_2_222 mw_2_223 mw_2_224 mw_1_11) rfl rfl rfl (by decide +kernel) ⟨Nat.le_of_ble_eq_true rfl, Nat.le_of_ble_eq_true rfl⟩) ⟨sz_c, va_recv hK hP (ci := 6) (q0 := (8 + v2_4.toNatClampNeg)) rfl (gX_row cs ad mu (8 + v2_4.toNatClampNeg) hk2.1 hk2.2), sz_m hK hz⟩ rfl rfl hl.1 rfl (lv_room (Nat.le_of_ble_eq_true rfl)) dX11_rowsThere_17 ⟨Nat.zero_le _, Nat.zero_le _⟩) hS (fun r3 hw3 locs hS => ?_)
        obtain ⟨hfe3, hw3⟩ := hw3
        rcases hw3 with ⟨rfl, f3⟩ | ⟨rfl, f3⟩
        · have f3 : (mu (8 + v2_4.toNatClampNeg) 1).toInt < 0 := f3
          refine lv_if_eq (tgt := 27) hx hb dX11_rowsThere_20 (by decide) (fun c => absurd c (by decide)) (fun _ => ?_)
          refine lv_iconst (v := 0) hx hb dX11_rowsThere_23 (by decide) ?_
          refine lv_goto (tgt := 28) hx hb dX11_rowsThere_24 (by decide) ?_
          refine lv_iadd hx hb dX11_rowsThere_28 ?_
          refine lv_topi (fun t4 et4 => ?_)
          refine lv_istore_n (lv' := [(1, .int t4), (2, .int v2_4), (0, .ref (ad 0))]) hx hb dX11_rowsThere_29 rfl hl (by decide) rfl (fun ls hl => ?_)
          refine lv_iinc (v := (v2_4 + 1)) (lv' := [(2, .int (v2_4 + 1)), (1, .int t4), (0, .ref (ad 0))]) hx hb dX11_rowsThere_30 hl (k := 1) rfl rfl (by decide) rfl (fun ls hl => ?_)
          refine loc_gen (P := fun w9 => lv_has ls 3 [(2, .int w9), (1, .int t4), (0, .ref (ad 0))]) (v2_4 + 1) hl (fun w5 hw5 hl => ?_)
          have hl : lv_has ls 3 [(2, .int w5), (1, .int t4), (0, .ref (ad 0))] := hl
          have aw5 : w5.toInt = v2_4.toInt + 1 := by rw [← hw5]; first | exact va1 (Int.lt_of_le_of_lt h_v2_4.2 (by decide)) | exact va1 (by omega)
          refine lv_goto (tgt := 4) hx hb dX11_rowsThere_33 (by decide) ?_
          exact ih4 (t4) (w5)  _ _ (by first | exact ms_up hm_4 aw5 h_v2_4.2 | exact ms_lt hm_4 (by omega) (by omega) | omega) (by first | exact rg_up aw5 h_v2_4 (by omega) | omega)   hS (lv_sub hl [0, 1, 2] rfl)
        · have f3 : 0 ≤ (mu (8 + v2_4.toNatClampNeg) 1).toInt := f3
          refine lv_if_eq (tgt := 27) hx hb dX11_rowsThere_20 (by decide) (fun _ => ?_) (fun c => absurd (by decide) c)
          refine lv_iconst (v := 1) hx hb dX11_rowsThere_27 (by decide) ?_
          refine lv_iadd hx hb dX11_rowsThere_28 ?_
          refine lv_topi (fun t6 et6 => ?_)
          refine lv_istore_n (lv' := [(1, .int t6), (2, .int v2_4), (0, .ref (ad 0))]) hx hb dX11_rowsThere_29 rfl hl (by decide) rfl (fun ls hl => ?_)
          refine lv_iinc (v := (v2_4 + 1)) (lv' := [(2, .int (v2_4 + 1)), (1, .int t6), (0, .ref (ad 0))]) hx hb dX11_rowsThere_30 hl (k := 1) rfl rfl (by decide) rfl (fun ls hl => ?_)
          refine loc_gen (P := fun w9 => lv_has ls 3 [(2, .int w9), (1, .int t6), (0, .ref (ad 0))]) (v2_4 + 1) hl (fun w7 hw7 hl => ?_)
          have hl : lv_has ls 3 [(2, .int w7), (1, .int t6), (0, .ref (ad 0))] := hl
          have aw7 : w7.toInt = v2_4.toInt + 1 := by rw [← hw7]; first | exact va1 (Int.lt_of_le_of_lt h_v2_4.2 (by decide)) | exact va1 (by omega)
          refine lv_goto (tgt := 4) hx hb dX11_rowsThere_33 (by decide) ?_
          exact ih4 (t6) (w7)  _ _ (by first | exact ms_up hm_4 aw7 h_v2_4.2 | exact ms_lt hm_4 (by omega) (by omega) | omega) (by first | exact rg_up aw7 h_v2_4 (by omega) | omega)   hS (lv_sub hl [0, 1, 2] rfl)
  exact loop4 ((6 + 1 - (0 : Int32).toInt).toNat + 1) (0) (0)  _ _ (Nat.lt_succ_self _) (by have h80 : (0 : Int32).toInt = 0 := rfl; exact ⟨by omega, by omega⟩)   hS hl
set_option maxHeartbeats 4000000 in
set_option maxRecDepth 100000 in
/-- sx_textsThere -/
theorem sx_textsThere (l : Launch) (dC : Nat → ClassId) (dI : Nat → Nat → Nat) (cs : Nat → ClassId) (ad : Nat → Nat) (mu : Nat → Nat → Int32) (ok : okR loX hiX mu) (H : Heap) (hP : va_P (dC, dI) vwCl (wR 157 ad (EX cs ad) mu) H) : Met l yX11_textsThere (wU yX11_textsThere cX11_textsThere 3 (some .int)) ({ frames := 1, cells := 0, slots := 0, locals := 20 }) (va_Pc [.ref (ad 0)] (sz_P (dC, dI) vwCl (tyW cs) H)) (va_Qi (fun (z : Int32) (_ : Unit) => True) (fun _ t => t.heap = H) (fun _ => False)) 0 0 (fun _ => False) := by
  refine Met.ofW (cc := cX11_textsThere) (maxL := 3) (ret := (some .int)) (by decide) rfl ?_
  intro p e s m args below meth c s₁ B hml hv
  obtain ⟨rfl, hh, hK, hz⟩ := hv
  have hx := B.exec
  have hb := B.bytes
  have hr := B.returns
  have hts := atoms_spec (ws := (wU yX11_textsThere cX11_textsThere 3 (some .int))) B.pre
  have hown : s.vm.findClass RX11 = some m.cls := findClass_of_methodNamed B.named
  have hlocks := B.notSynchronized
  subst hh
  have hS : va_S (fun _ => False) s.heap s.heap [] := va_S.rf
  have hl := lv_entry ([.ref (ad 0)]) (n := 3) (Nat.le_of_ble_eq_true rfl)
  rw [lg_entry_eq]
  generalize (lg_sl ([.ref (ad 0)]) ++ List.replicate (3 - (lg_sl ([.ref (ad 0)])).length) Slot.unset).toArray = ls at hl ⊢
  have hl : lv_has ls 3 [(0, .ref (ad 0))] := hl
  refine lv_iconst (v := 0) hx hb dX11_textsThere_0 (by decide) ?_
  refine lv_istore_n (lv' := [(1, .int 0), (0, .ref (ad 0))]) hx hb dX11_textsThere_1 rfl hl (by decide) rfl (fun ls hl => ?_)
  refine lv_iconst (v := 0) hx hb dX11_textsThere_2 (by decide) ?_
  refine lv_istore_n (lv' := [(2, .int 0), (1, .int 0), (0, .ref (ad 0))]) hx hb dX11_textsThere_3 rfl hl (by decide) rfl (fun ls hl => ?_)
  have loop4 : ∀ (n4 : Nat) (v1_4 : Int32) (v2_4 : Int32) (locs : List Loc) (ls : Array Slot), (4 + 1 - v2_4.toInt).toNat < n4 → (0 ≤ v2_4.toInt ∧ v2_4.toInt ≤ 4) → va_S (fun _ => False) s.heap s.heap locs → lv_has ls 3 [(2, .int v2_4), (1, .int v1_4), (0, .ref (ad 0))] → W p l e (headSpec (wU yX11_textsThere cX11_textsThere 3 (some .int)) ({ frames := 1, cells := 0, slots := 0, locals := 20 })).room s m ([.ref (ad 0)] : List Value).toArray below meth c s.heap locs 0 0 (MQ below (va_Qi (fun (z : Int32) (_ : Unit) => True) (fun _ t => t.heap = s.heap) (fun _ => False)) ([.ref (ad 0)] : List Value).toArray s 0 0 (fun _ => False)) (F0 m 4 ls []) := by
    intro n4
    induction n4 with
    | zero => intro v1_4 v2_4 locs ls hm; exact absurd hm (Nat.not_lt_zero _)
    | succ n4 ih4 =>
      intro v1_4 v2_4 locs ls hm_4 h_v2_4 hS hl
      refine lv_iload_n hx hb dX11_textsThere_4 rfl (lv_at hl 0 rfl) ?_
      refine lv_iconst (v := 4) hx hb dX11_textsThere_5 (by decide) ?_
      refine lv_icmp_ge (tgt := 35) hx hb dX11_textsThere_6 (by decide) (fun c_1 => ?_) (fun c_1 => ?_)
      · have c_1 : 4 ≤ v2_4.toInt := il_le c_1
        refine lv_iload_n hx hb dX11_textsThere_35 rfl (lv_at hl 1 rfl) ?_
        exact W.iret (v := v1_4) hx hb hr (fun t ht hW => ⟨⟨v1_4, (), rfl, trivial, ht⟩, hS.F ht⟩) hS.2.2 dX11_textsThere_36
      · have c_1 : v2_4.toInt < 4 := il_nle c_1
        refine lv_iload_n hx hb dX11_textsThere_9 rfl (lv_at hl 1 rfl) ?_
        refine lv_aload_n hx hb dX11_textsThere_10 rfl (lv_at hl 2 rfl) ?_
        refine va_get (D := (dC, dI)) (ci := 11) (v := .ref (ad 2)) (C := RX11) (T := TX11) (N := 11) hx hb hts inG11 hown hK hP 0 (gX_0 cs ad mu) rfl 1 (by decide) (hts _ (List.mem_cons_of_mem _ mw_2_159)) (fun _ h9 => h9) rfl dX11_textsThere_11 ?_
        refine lv_iload_n hx hb dX11_textsThere_14 rfl (lv_at hl 0 rfl) ?_
        have hx2 : 0 ≤ v2_4.toInt ∧ v2_4.toInt < ((4 : Nat) : Int) := ⟨by omega, by omega⟩
        refine va_aldq hx hb hK hP 2 3 (gX_2 cs ad mu) rfl (show vp_in v2_4 4 from vi_of hx2.1 hx2.2) dX11_textsThere_15 ?_
        have hk2 : 14 ≤ (14 + v2_4.toNatClampNeg) ∧ (14 + v2_4.toNatClampNeg) < 18 := ix_of hx2
        refine lq_v (.ref (ad (14 + v2_4.toNatClampNeg))) rfl ?_
        refine cr_i (va_runV (As := []) (rest := [.int v1_4]) ⟨hx, hb, hml, hown, hts⟩ (sx_Text_isMissing l dC dI cs ad mu ok s.heap hP (14 + v2_4.toNatClampNeg) hk2.1 hk2.2) (cwV 0 hts (wU_V mw_3_34 mw_3_31 mw_3_32 mw_3_33 mw_1_12) rfl rfl rfl (by decide +kernel) ⟨Nat.le_of_ble_eq_true rfl, Nat.le_of_ble_eq_true rfl⟩) ⟨sz_c, va_recv hK hP (ci := 9) (q0 := (14 + v2_4.toNatClampNeg)) rfl (gX_text cs ad mu (14 + v2_4.toNatClampNeg) hk2.1 hk2.2), sz_m hK hz⟩ rfl rfl hl.1 rfl (lv_room (Nat.le_of_ble_eq_true rfl)) dX11_textsThere_16 ⟨Nat.zero_le _, Nat.zero_le _⟩) hS (fun r3 hw3 locs hS => ?_)
        obtain ⟨hfe3, hw3⟩ := hw3
        rcases hw3 with ⟨rfl, f3⟩ | ⟨rfl, f3⟩
        · have f3 : (mu (14 + v2_4.toNatClampNeg) 1).toInt < 0 := f3
          refine lv_if_eq (tgt := 26) hx hb dX11_textsThere_19 (by decide) (fun c => absurd c (by decide)) (fun _ => ?_)
          refine lv_iconst (v := 0) hx hb dX11_textsThere_22 (by decide) ?_
          refine lv_goto (tgt := 27) hx hb dX11_textsThere_23 (by decide) ?_
          refine lv_iadd hx hb dX11_textsThere_27 ?_
          refine lv_topi (fun t4 et4 => ?_)
          refine lv_istore_n (lv' := [(1, .int t4), (2, .int v2_4), (0, .ref (ad 0))]) hx hb dX11_textsThere_28 rfl hl (by decide) rfl (fun ls hl => ?_)
          refine lv_iinc (v := (v2_4 + 1)) (lv' := [(2, .int (v2_4 + 1)), (1, .int t4), (0, .ref (ad 0))]) hx hb dX11_textsThere_29 hl (k := 1) rfl rfl (by decide) rfl (fun ls hl => ?_)
          refine loc_gen (P := fun w9 => lv_has ls 3 [(2, .int w9), (1, .int t4), (0, .ref (ad 0))]) (v2_4 + 1) hl (fun w5 hw5 hl => ?_)
          have hl : lv_has ls 3 [(2, .int w5), (1, .int t4), (0, .ref (ad 0))] := hl
          have aw5 : w5.toInt = v2_4.toInt + 1 := by rw [← hw5]; first | exact va1 (Int.lt_of_le_of_lt h_v2_4.2 (by decide)) | exact va1 (by omega)
          refine lv_goto (tgt := 4) hx hb dX11_textsThere_32 (by decide) ?_
          exact ih4 (t4) (w5)  _ _ (by first | exact ms_up hm_4 aw5 h_v2_4.2 | exact ms_lt hm_4 (by omega) (by omega) | omega) (by first | exact rg_up aw5 h_v2_4 (by omega) | omega)   hS (lv_sub hl [0, 1, 2] rfl)
        · have f3 : 0 ≤ (mu (14 + v2_4.toNatClampNeg) 1).toInt := f3
          refine lv_if_eq (tgt := 26) hx hb dX11_textsThere_19 (by decide) (fun _ => ?_) (fun c => absurd (by decide) c)
          refine lv_iconst (v := 1) hx hb dX11_textsThere_26 (by decide) ?_
          refine lv_iadd hx hb dX11_textsThere_27 ?_
          refine lv_topi (fun t6 et6 => ?_)
          refine lv_istore_n (lv' := [(1, .int t6), (2, .int v2_4), (0, .ref (ad 0))]) hx hb dX11_textsThere_28 rfl hl (by decide) rfl (fun ls hl => ?_)
          refine lv_iinc (v := (v2_4 + 1)) (lv' := [(2, .int (v2_4 + 1)), (1, .int t6), (0, .ref (ad 0))]) hx hb dX11_textsThere_29 hl (k := 1) rfl rfl (by decide) rfl (fun ls hl => ?_)
          refine loc_gen (P := fun w9 => lv_has ls 3 [(2, .int w9), (1, .int t6), (0, .ref (ad 0))]) (v2_4 + 1) hl (fun w7 hw7 hl => ?_)
          have hl : lv_has ls 3 [(2, .int w7), (1, .int t6), (0, .ref (ad 0))] := hl
          have aw7 : w7.toInt = v2_4.toInt + 1 := by rw [← hw7]; first | exact va1 (Int.lt_of_le_of_lt h_v2_4.2 (by decide)) | exact va1 (by omega)
          refine lv_goto (tgt := 4) hx hb dX11_textsThere_32 (by decide) ?_
          exact ih4 (t6) (w7)  _ _ (by first | exact ms_up hm_4 aw7 h_v2_4.2 | exact ms_lt hm_4 (by omega) (by omega) | omega) (by first | exact rg_up aw7 h_v2_4 (by omega) | omega)   hS (lv_sub hl [0, 1, 2] rfl)
  exact loop4 ((4 + 1 - (0 : Int32).toInt).toNat + 1) (0) (0)  _ _ (Nat.lt_succ_self _) (by have h80 : (0 : Int32).toInt = 0 := rfl; exact ⟨by omega, by omega⟩)   hS hl
set_option maxHeartbeats 4000000 in
set_option maxRecDepth 100000 in
/-- sx_townsKept -/
theorem sx_townsKept (l : Launch) (dC : Nat → ClassId) (dI : Nat → Nat → Nat) (cs : Nat → ClassId) (ad : Nat → Nat) (mu : Nat → Nat → Int32) (ok : okR loX hiX mu) (H : Heap) (hP : va_P (dC, dI) vwCl (wR 157 ad (EX cs ad) mu) H) : Met l yX11_townsKept (wU yX11_townsKept cX11_townsKept 3 (some .int)) ({ frames := 0, cells := 0, slots := 0, locals := 0 }) (va_Pc [.ref (ad 0)] (sz_P (dC, dI) vwCl (tyW cs) H)) (va_Qi (fun (z : Int32) (_ : Unit) => True) (fun _ t => t.heap = H) (fun _ => False)) 0 0 (fun _ => False) := by
  refine Met.ofW (cc := cX11_townsKept) (maxL := 3) (ret := (some .int)) (by decide) rfl ?_
  intro p e s m args below meth c s₁ B hml hv
  obtain ⟨rfl, hh, hK, hz⟩ := hv
  have hx := B.exec
  have hb := B.bytes
  have hr := B.returns
  have hts := atoms_spec (ws := (wU yX11_townsKept cX11_townsKept 3 (some .int))) B.pre
  have hown : s.vm.findClass RX11 = some m.cls := findClass_of_methodNamed B.named
  have hlocks := B.notSynchronized
  subst hh
  have hS : va_S (fun _ => False) s.heap s.heap [] := va_S.rf
  have hl := lv_entry ([.ref (ad 0)]) (n := 3) (Nat.le_of_ble_eq_true rfl)
  rw [lg_entry_eq]
  generalize (lg_sl ([.ref (ad 0)]) ++ List.replicate (3 - (lg_sl ([.ref (ad 0)])).length) Slot.unset).toArray = ls at hl ⊢
  have hl : lv_has ls 3 [(0, .ref (ad 0))] := hl
  refine lv_iconst (v := 0) hx hb dX11_townsKept_0 (by decide) ?_
  refine lv_istore_n (lv' := [(1, .int 0), (0, .ref (ad 0))]) hx hb dX11_townsKept_1 rfl hl (by decide) rfl (fun ls hl => ?_)
  refine lv_iconst (v := 0) hx hb dX11_townsKept_2 (by decide) ?_
  refine lv_istore_n (lv' := [(2, .int 0), (1, .int 0), (0, .ref (ad 0))]) hx hb dX11_townsKept_3 rfl hl (by decide) rfl (fun ls hl => ?_)
  have loop4 : ∀ (n4 : Nat) (v1_4 : Int32) (v2_4 : Int32) (locs : List Loc) (ls : Array Slot), (3 + 1 - v2_4.toInt).toNat < n4 → (0 ≤ v2_4.toInt ∧ v2_4.toInt ≤ 3) → va_S (fun _ => False) s.heap s.heap locs → lv_has ls 3 [(2, .int v2_4), (1, .int v1_4), (0, .ref (ad 0))] → W p l e (headSpec (wU yX11_townsKept cX11_townsKept 3 (some .int)) ({ frames := 0, cells := 0, slots := 0, locals := 0 })).room s m ([.ref (ad 0)] : List Value).toArray below meth c s.heap locs 0 0 (MQ below (va_Qi (fun (z : Int32) (_ : Unit) => True) (fun _ t => t.heap = s.heap) (fun _ => False)) ([.ref (ad 0)] : List Value).toArray s 0 0 (fun _ => False)) (F0 m 4 ls []) := by
    intro n4
    induction n4 with
    | zero => intro v1_4 v2_4 locs ls hm; exact absurd hm (Nat.not_lt_zero _)
    | succ n4 ih4 =>
      intro v1_4 v2_4 locs ls hm_4 h_v2_4 hS hl
      refine lv_iload_n hx hb dX11_townsKept_4 rfl (lv_at hl 0 rfl) ?_
      refine lv_iconst (v := 3) hx hb dX11_townsKept_5 (by decide) ?_
      refine lv_icmp_ge (tgt := 35) hx hb dX11_townsKept_6 (by decide) (fun c_1 => ?_) (fun c_1 => ?_)
      · have c_1 : 3 ≤ v2_4.toInt := il_le c_1
        refine lv_iload_n hx hb dX11_townsKept_35 rfl (lv_at hl 1 rfl) ?_
        exact W.iret (v := v1_4) hx hb hr (fun t ht hW => ⟨⟨v1_4, (), rfl, trivial, ht⟩, hS.F ht⟩) hS.2.2 dX11_townsKept_36
      · have c_1 : v2_4.toInt < 3 := il_nle c_1
        refine lv_iload_n hx hb dX11_townsKept_9 rfl (lv_at hl 1 rfl) ?_
        refine lv_aload_n hx hb dX11_townsKept_10 rfl (lv_at hl 2 rfl) ?_
        refine va_get (D := (dC, dI)) (ci := 11) (v := .ref (ad 3)) (C := RX11) (T := TX11) (N := 11) hx hb hts inG11 hown hK hP 0 (gX_0 cs ad mu) rfl 2 (by decide) (hts _ (List.mem_cons_of_mem _ mw_2_160)) (fun _ h9 => h9) rfl dX11_townsKept_11 ?_
        refine lv_iload_n hx hb dX11_townsKept_14 rfl (lv_at hl 0 rfl) ?_
        have hx2 : 0 ≤ v2_4.toInt ∧ v2_4.toInt < ((3 : Nat) : Int) := ⟨by omega, by omega⟩
        refine va_aldq hx hb hK hP 3 4 (gX_3 cs ad mu) rfl (show vp_in v2_4 3 from vi_of hx2.1 hx2.2) dX11_townsKept_15 ?_
        have hk2 : 18 ≤ (18 + v2_4.toNatClampNeg) ∧ (18 + v2_4.toNatClampNeg) < 21 := ix_of hx2
        refine lq_v (.ref (ad (18 + v2_4.toNatClampNeg))) rfl ?_
        refine va_get (D := (dC, dI)) (ci := 8) (v := .int (mu (18 + v2_4.toNatClampNeg) 5)) (C := RX8) (T := TX8) (N := 6) hx hb hts inG8 hown hK hP (18 + v2_4.toNatClampNeg) (gX_kept cs ad mu (18 + v2_4.toNatClampNeg) hk2.1 hk2.2) rfl 5 (by decide) (hts _ (List.mem_cons_of_mem _ mw_1_129)) (fun _ h9 => h9) rfl dX11_townsKept_16 ?_
        refine lv_topi (fun y3 ey3 => ?_)
        have by3 : y3.toInt = (mu (18 + v2_4.toNatClampNeg) 5).toInt := congrArg Int32.toInt ey3
        have gy3 : 0 ≤ y3.toInt ∧ y3.toInt ≤ 1 := by rw [ey3]; exact rX_kept_5 ok (18 + v2_4.toNatClampNeg) hk2.1 hk2.2
        refine lv_if_eq (tgt := 26) hx hb dX11_townsKept_19 (by decide) (fun c_4 => ?_) (fun c_4 => ?_)
        · have c_4 : y3.toInt = 0 := il_eq c_4
          refine lv_iconst (v := 0) hx hb dX11_townsKept_26 (by decide) ?_
          refine lv_iadd hx hb dX11_townsKept_27 ?_
          refine lv_topi (fun t5 et5 => ?_)
          refine lv_istore_n (lv' := [(1, .int t5), (2, .int v2_4), (0, .ref (ad 0))]) hx hb dX11_townsKept_28 rfl hl (by decide) rfl (fun ls hl => ?_)
          refine lv_iinc (v := (v2_4 + 1)) (lv' := [(2, .int (v2_4 + 1)), (1, .int t5), (0, .ref (ad 0))]) hx hb dX11_townsKept_29 hl (k := 1) rfl rfl (by decide) rfl (fun ls hl => ?_)
          refine loc_gen (P := fun w9 => lv_has ls 3 [(2, .int w9), (1, .int t5), (0, .ref (ad 0))]) (v2_4 + 1) hl (fun w6 hw6 hl => ?_)
          have hl : lv_has ls 3 [(2, .int w6), (1, .int t5), (0, .ref (ad 0))] := hl
          have aw6 : w6.toInt = v2_4.toInt + 1 := by rw [← hw6]; first | exact va1 (Int.lt_of_le_of_lt h_v2_4.2 (by decide)) | exact va1 (by omega)
          refine lv_goto (tgt := 4) hx hb dX11_townsKept_32 (by decide) ?_
          exact ih4 (t5) (w6)  _ _ (by first | exact ms_up hm_4 aw6 h_v2_4.2 | exact ms_lt hm_4 (by omega) (by omega) | omega) (by first | exact rg_up aw6 h_v2_4 (by omega) | omega)   hS (lv_sub hl [0, 1, 2] rfl)
        · have c_4 : ¬ y3.toInt = 0 := il_ne c_4
          refine lv_iconst (v := 1) hx hb dX11_townsKept_22 (by decide) ?_
          refine lv_goto (tgt := 27) hx hb dX11_townsKept_23 (by decide) ?_
          refine lv_iadd hx hb dX11_townsKept_27 ?_
          refine lv_topi (fun t7 et7 => ?_)
          refine lv_istore_n (lv' := [(1, .int t7), (2, .int v2_4), (0, .ref (ad 0))]) hx hb dX11_townsKept_28 rfl hl (by decide) rfl (fun ls hl => ?_)
          refine lv_iinc (v := (v2_4 + 1)) (lv' := [(2, .int (v2_4 + 1)), (1, .int t7), (0, .ref (ad 0))]) hx hb dX11_townsKept_29 hl (k := 1) rfl rfl (by decide) rfl (fun ls hl => ?_)
          refine loc_gen (P := fun w9 => lv_has ls 3 [(2, .int w9), (1, .int t7), (0, .ref (ad 0))]) (v2_4 + 1) hl (fun w8 hw8 hl => ?_)
          have hl : lv_has ls 3 [(2, .int w8), (1, .int t7), (0, .ref (ad 0))] := hl
          have aw8 : w8.toInt = v2_4.toInt + 1 := by rw [← hw8]; first | exact va1 (Int.lt_of_le_of_lt h_v2_4.2 (by decide)) | exact va1 (by omega)
          refine lv_goto (tgt := 4) hx hb dX11_townsKept_32 (by decide) ?_
          exact ih4 (t7) (w8)  _ _ (by first | exact ms_up hm_4 aw8 h_v2_4.2 | exact ms_lt hm_4 (by omega) (by omega) | omega) (by first | exact rg_up aw8 h_v2_4 (by omega) | omega)   hS (lv_sub hl [0, 1, 2] rfl)
  exact loop4 ((3 + 1 - (0 : Int32).toInt).toNat + 1) (0) (0)  _ _ (Nat.lt_succ_self _) (by have h80 : (0 : Int32).toInt = 0 := rfl; exact ⟨by omega, by omega⟩)   hS hl
set_option maxHeartbeats 4000000 in
set_option maxRecDepth 100000 in
/-- sx_gainOf -/
theorem sx_gainOf (l : Launch) (dC : Nat → ClassId) (dI : Nat → Nat → Nat) (cs : Nat → ClassId) (ad : Nat → Nat) (mu : Nat → Nat → Int32) (ok : okR loX hiX mu) (H : Heap) (hP : va_P (dC, dI) vwCl (wR 157 ad (EX cs ad) mu) H) (vx : Int32) : Met l yX2_gainOf (wU yX2_gainOf cX2_gainOf 4 (some .int)) ({ frames := 0, cells := 0, slots := 0, locals := 0 }) (va_Pc [.ref (ad 6), .int vx] (sz_P (dC, dI) vwCl (tyW cs) H)) (va_Qi (fun (z : Int32) (_ : Unit) => z = F_sx_gainOf mu vx ∧ (True)) (fun _ t => t.heap = H) (fun _ => False)) 0 0 (fun _ => False) := by
  refine Met.ofW (cc := cX2_gainOf) (maxL := 4) (ret := (some .int)) (by decide) rfl ?_
  intro p e s m args below meth c s₁ B hml hv
  obtain ⟨rfl, hh, hK, hz⟩ := hv
  have hx := B.exec
  have hb := B.bytes
  have hr := B.returns
  have hts := atoms_spec (ws := (wU yX2_gainOf cX2_gainOf 4 (some .int))) B.pre
  have hown : s.vm.findClass RX2 = some m.cls := findClass_of_methodNamed B.named
  have hlocks := B.notSynchronized
  subst hh
  have hS : va_S (fun _ => False) s.heap s.heap [] := va_S.rf
  have hl := lv_entry ([.ref (ad 6), .int vx]) (n := 4) (Nat.le_of_ble_eq_true rfl)
  rw [lg_entry_eq]
  generalize (lg_sl ([.ref (ad 6), .int vx]) ++ List.replicate (4 - (lg_sl ([.ref (ad 6), .int vx])).length) Slot.unset).toArray = ls at hl ⊢
  have hl : lv_has ls 4 [(0, .ref (ad 6)), (1, .int vx)] := hl
  obtain ⟨fz, hfz⟩ : ∃ z, F_sx_gainOf mu vx = z := ⟨_, rfl⟩
  have hF := hfz
  unfold F_sx_gainOf at hF
  refine lv_iconst (v := 0) hx hb dX2_gainOf_0 (by decide) ?_
  refine lv_istore_n (lv' := [(2, .int 0), (0, .ref (ad 6)), (1, .int vx)]) hx hb dX2_gainOf_1 rfl hl (by decide) rfl (fun ls hl => ?_)
  refine lv_iconst (v := 0) hx hb dX2_gainOf_2 (by decide) ?_
  refine lv_istore_n (lv' := [(3, .int 0), (2, .int 0), (0, .ref (ad 6)), (1, .int vx)]) hx hb dX2_gainOf_3 rfl hl (by decide) rfl (fun ls hl => ?_)
  have loop4 : ∀ (n4 : Nat) (v2_4 : Int32) (v3_4 : Int32) (locs : List Loc) (ls : Array Slot), (40 + 1 - v3_4.toInt).toNat < n4 → (0 ≤ v3_4.toInt ∧ v3_4.toInt ≤ 40) → L_sx_gainOf_4_0 mu vx n4 v2_4 v3_4 = fz → va_S (fun _ => False) s.heap s.heap locs → lv_has ls 4 [(3, .int v3_4), (2, .int v2_4), (0, .ref (ad 6)), (1, .int vx)] → W p l e (headSpec (wU yX2_gainOf cX2_gainOf 4 (some .int)) ({ frames := 0, cells := 0, slots := 0, locals := 0 })).room s m ([.ref (ad 6), .int vx] : List Value).toArray below meth c s.heap locs 0 0 (MQ below (va_Qi (fun (z : Int32) (_ : Unit) => z = F_sx_gainOf mu vx ∧ (True)) (fun _ t => t.heap = s.heap) (fun _ => False)) ([.ref (ad 6), .int vx] : List Value).toArray s 0 0 (fun _ => False)) (F0 m 4 ls []) := by
    intro n4
    induction n4 with
    | zero => intro v2_4 v3_4 locs ls hm; exact absurd hm (Nat.not_lt_zero _)
    | succ n4 ih4 =>
      intro v2_4 v3_4 locs ls hm_4 h_v3_4 hF hS hl
      rw [L_sx_gainOf_4_0] at hF
      refine lv_iload_n hx hb dX2_gainOf_4 rfl (lv_at hl 0 rfl) ?_
      refine lv_aload_n hx hb dX2_gainOf_5 rfl (lv_at hl 2 rfl) ?_
      refine va_get (D := (dC, dI)) (ci := 2) (v := .int (mu 6 1)) (C := RX2) (T := TX2) (N := 2) hx hb hts inG2 hown hK hP 6 (gX_6 cs ad mu) rfl 1 (by decide) (hts _ (List.mem_cons_of_mem _ mw_2_7)) (fun _ h9 => h9) rfl dX2_gainOf_6 ?_
      refine lv_topi (fun y1 ey1 => ?_)
      have hF := mi_let hF ey1
      have by1 : y1.toInt = (mu 6 1).toInt := congrArg Int32.toInt ey1
      have gy1 : 0 ≤ y1.toInt ∧ y1.toInt ≤ 40 := by rw [ey1]; exact rX_6_1 ok
      refine lv_icmp_ge (tgt := 76) hx hb dX2_gainOf_9 (by decide) (fun c_2 => ?_) (fun c_2 => ?_)
      · have hF := (if_pos c_2).symm.trans hF
        have c_2 : y1.toInt ≤ v3_4.toInt := il_le c_2
        refine lv_iload_n hx hb dX2_gainOf_76 rfl (lv_at hl 1 rfl) ?_
        exact W.iret (v := v2_4) hx hb hr (fun t ht hW => ⟨⟨v2_4, (), rfl, ⟨hF.trans hfz.symm, trivial⟩, ht⟩, hS.F ht⟩) hS.2.2 dX2_gainOf_77
      · have hF := (if_neg c_2).symm.trans hF
        have c_2 : v3_4.toInt < y1.toInt := il_nle c_2
        refine lv_iload_n hx hb dX2_gainOf_12 rfl (lv_at hl 1 rfl) ?_
        refine lv_aload_n hx hb dX2_gainOf_13 rfl (lv_at hl 2 rfl) ?_
        refine va_get (D := (dC, dI)) (ci := 2) (v := .ref (ad 39)) (C := RX2) (T := TX2) (N := 2) hx hb hts inG2 hown hK hP 6 (gX_6 cs ad mu) rfl 0 (by decide) (hts _ (List.mem_cons_of_mem _ mw_2_6)) (fun _ h9 => h9) rfl dX2_gainOf_14 ?_
        refine lv_iload_n hx hb dX2_gainOf_17 rfl (lv_at hl 0 rfl) ?_
        have hx3 : 0 ≤ v3_4.toInt ∧ v3_4.toInt < ((40 : Nat) : Int) := ⟨by omega, by omega⟩
        refine va_aldq hx hb hK hP 39 6 (gX_39 cs ad mu) rfl (show vp_in v3_4 40 from vi_of hx3.1 hx3.2) dX2_gainOf_18 ?_
        have hk3 : 77 ≤ (77 + v3_4.toNatClampNeg) ∧ (77 + v3_4.toNatClampNeg) < 117 := ix_of hx3
        refine lq_v (.ref (ad (77 + v3_4.toNatClampNeg))) rfl ?_
        refine va_get (D := (dC, dI)) (ci := 7) (v := .int (mu (77 + v3_4.toNatClampNeg) 2)) (C := RX7) (T := TX7) (N := 7) hx hb hts inG7 hown hK hP (77 + v3_4.toNatClampNeg) (gX_sale cs ad mu (77 + v3_4.toNatClampNeg) hk3.1 hk3.2) rfl 2 (by decide) (hts _ (List.mem_cons_of_mem _ mw_1_226)) (fun _ h9 => h9) rfl dX2_gainOf_19 ?_
        refine lv_topi (fun y4 ey4 => ?_)
        have hF := mi_let hF ey4
        have by4 : y4.toInt = (mu (77 + v3_4.toNatClampNeg) 2).toInt := congrArg Int32.toInt ey4
        have gy4 : 0 ≤ y4.toInt ∧ y4.toInt ≤ 6 := by rw [ey4]; exact rX_sale_2 ok (77 + v3_4.toNatClampNeg) hk3.1 hk3.2
        refine lv_iload_n hx hb dX2_gainOf_22 rfl (lv_at hl 3 rfl) ?_
        refine lv_icmp_ne (tgt := 38) hx hb dX2_gainOf_23 (by decide) (fun c_5 => ?_) (fun c_5 => ?_)
        · have hF := (if_neg c_5).symm.trans hF
          have c_5 : ¬ y4.toInt = vx.toInt := il_ne c_5
          refine lv_iconst (v := 0) hx hb dX2_gainOf_38 (by decide) ?_
          refine lv_iadd hx hb dX2_gainOf_39 ?_
          refine lv_topi (fun t6 et6 => ?_)
          have hF := mi_let hF et6
          refine lv_istore_n (lv' := [(2, .int t6), (3, .int v3_4), (0, .ref (ad 6)), (1, .int vx)]) hx hb dX2_gainOf_40 rfl hl (by decide) rfl (fun ls hl => ?_)
          refine lv_iload_n hx hb dX2_gainOf_41 rfl (lv_at hl 0 rfl) ?_
          refine lv_aload_n hx hb dX2_gainOf_42 rfl (lv_at hl 2 rfl) ?_
          refine va_get (D := (dC, dI)) (ci := 2) (v := .ref (ad 39)) (C := RX2) (T := TX2) (N := 2) hx hb hts inG2 hown hK hP 6 (gX_6 cs ad mu) rfl 0 (by decide) (hts _ (List.mem_cons_of_mem _ mw_2_6)) (fun _ h9 => h9) rfl dX2_gainOf_43 ?_
          refine lv_iload_n hx hb dX2_gainOf_46 rfl (lv_at hl 1 rfl) ?_
          have hx7 : 0 ≤ v3_4.toInt ∧ v3_4.toInt < ((40 : Nat) : Int) := ⟨by omega, by omega⟩
          refine va_aldq hx hb hK hP 39 6 (gX_39 cs ad mu) rfl (show vp_in v3_4 40 from vi_of hx7.1 hx7.2) dX2_gainOf_47 ?_
          have hk7 : 77 ≤ (77 + v3_4.toNatClampNeg) ∧ (77 + v3_4.toNatClampNeg) < 117 := ix_of hx7
          refine lq_v (.ref (ad (77 + v3_4.toNatClampNeg))) rfl ?_
          refine va_get (D := (dC, dI)) (ci := 7) (v := .int (mu (77 + v3_4.toNatClampNeg) 3)) (C := RX7) (T := TX7) (N := 7) hx hb hts inG7 hown hK hP (77 + v3_4.toNatClampNeg) (gX_sale cs ad mu (77 + v3_4.toNatClampNeg) hk7.1 hk7.2) rfl 3 (by decide) (hts _ (List.mem_cons_of_mem _ mw_1_227)) (fun _ h9 => h9) rfl dX2_gainOf_48 ?_
          refine lv_topi (fun y8 ey8 => ?_)
          have hF := mi_let hF ey8
          have by8 : y8.toInt = (mu (77 + v3_4.toNatClampNeg) 3).toInt := congrArg Int32.toInt ey8
          refine lv_iload_n hx hb dX2_gainOf_51 rfl (lv_at hl 3 rfl) ?_
          refine lv_icmp_ne (tgt := 67) hx hb dX2_gainOf_52 (by decide) (fun c_9 => ?_) (fun c_9 => ?_)
          · have hF := (if_neg c_9).symm.trans hF
            have c_9 : ¬ y8.toInt = vx.toInt := il_ne c_9
            refine lv_iconst (v := 0) hx hb dX2_gainOf_67 (by decide) ?_
            refine lv_isub hx hb dX2_gainOf_68 ?_
            refine lv_topi (fun t10 et10 => ?_)
            have hF := mi_let hF et10
            refine lv_istore_n (lv' := [(2, .int t10), (3, .int v3_4), (0, .ref (ad 6)), (1, .int vx)]) hx hb dX2_gainOf_69 rfl hl (by decide) rfl (fun ls hl => ?_)
            refine lv_iinc (v := (v3_4 + 1)) (lv' := [(3, .int (v3_4 + 1)), (2, .int t10), (0, .ref (ad 6)), (1, .int vx)]) hx hb dX2_gainOf_70 hl (k := 1) rfl rfl (by decide) rfl (fun ls hl => ?_)
            refine loc_gen (P := fun w9 => lv_has ls 4 [(3, .int w9), (2, .int t10), (0, .ref (ad 6)), (1, .int vx)]) (v3_4 + 1) hl (fun w11 hw11 hl => ?_)
            have hl : lv_has ls 4 [(3, .int w11), (2, .int t10), (0, .ref (ad 6)), (1, .int vx)] := hl
            have hF := mi_let hF hw11.symm
            have aw11 : w11.toInt = v3_4.toInt + 1 := by rw [← hw11]; first | exact va1 (Int.lt_of_le_of_lt h_v3_4.2 (by decide)) | exact va1 (by omega)
            refine lv_goto (tgt := 4) hx hb dX2_gainOf_73 (by decide) ?_
            exact ih4 (t10) (w11)  _ _ (by first | exact ms_up hm_4 aw11 h_v3_4.2 | exact ms_lt hm_4 (by omega) (by omega) | omega) (by first | exact rg_up aw11 h_v3_4 (by omega) | omega)   hF hS (lv_sub hl [0, 1, 2, 3] rfl)
          · have hF := (if_pos c_9).symm.trans hF
            have c_9 : y8.toInt = vx.toInt := il_eq c_9
            refine lv_aload_n hx hb dX2_gainOf_55 rfl (lv_at hl 2 rfl) ?_
            refine va_get (D := (dC, dI)) (ci := 2) (v := .ref (ad 39)) (C := RX2) (T := TX2) (N := 2) hx hb hts inG2 hown hK hP 6 (gX_6 cs ad mu) rfl 0 (by decide) (hts _ (List.mem_cons_of_mem _ mw_2_6)) (fun _ h9 => h9) rfl dX2_gainOf_56 ?_
            refine lv_iload_n hx hb dX2_gainOf_59 rfl (lv_at hl 1 rfl) ?_
            have hx12 : 0 ≤ v3_4.toInt ∧ v3_4.toInt < ((40 : Nat) : Int) := ⟨by omega, by omega⟩
            refine va_aldq hx hb hK hP 39 6 (gX_39 cs ad mu) rfl (show vp_in v3_4 40 from vi_of hx12.1 hx12.2) dX2_gainOf_60 ?_
            have hk12 : 77 ≤ (77 + v3_4.toNatClampNeg) ∧ (77 + v3_4.toNatClampNeg) < 117 := ix_of hx12
            refine lq_v (.ref (ad (77 + v3_4.toNatClampNeg))) rfl ?_
            refine va_get (D := (dC, dI)) (ci := 7) (v := .int (mu (77 + v3_4.toNatClampNeg) 4)) (C := RX7) (T := TX7) (N := 7) hx hb hts inG7 hown hK hP (77 + v3_4.toNatClampNeg) (gX_sale cs ad mu (77 + v3_4.toNatClampNeg) hk12.1 hk12.2) rfl 4 (by decide) (hts _ (List.mem_cons_of_mem _ mw_1_228)) (fun _ h9 => h9) rfl dX2_gainOf_61 ?_
            refine lv_topi (fun y13 ey13 => ?_)
            have hF := mi_let hF ey13
            have by13 : y13.toInt = (mu (77 + v3_4.toNatClampNeg) 4).toInt := congrArg Int32.toInt ey13
            refine lv_goto (tgt := 68) hx hb dX2_gainOf_64 (by decide) ?_
            refine lv_isub hx hb dX2_gainOf_68 ?_
            refine lv_topi (fun t14 et14 => ?_)
            have hF := mi_let hF et14
            refine lv_istore_n (lv' := [(2, .int t14), (3, .int v3_4), (0, .ref (ad 6)), (1, .int vx)]) hx hb dX2_gainOf_69 rfl hl (by decide) rfl (fun ls hl => ?_)
            refine lv_iinc (v := (v3_4 + 1)) (lv' := [(3, .int (v3_4 + 1)), (2, .int t14), (0, .ref (ad 6)), (1, .int vx)]) hx hb dX2_gainOf_70 hl (k := 1) rfl rfl (by decide) rfl (fun ls hl => ?_)
            refine loc_gen (P := fun w9 => lv_has ls 4 [(3, .int w9), (2, .int t14), (0, .ref (ad 6)), (1, .int vx)]) (v3_4 + 1) hl (fun w15 hw15 hl => ?_)
            have hl : lv_has ls 4 [(3, .int w15), (2, .int t14), (0, .ref (ad 6)), (1, .int vx)] := hl
            have hF := mi_let hF hw15.symm
            have aw15 : w15.toInt = v3_4.toInt + 1 := by rw [← hw15]; first | exact va1 (Int.lt_of_le_of_lt h_v3_4.2 (by decide)) | exact va1 (by omega)
            refine lv_goto (tgt := 4) hx hb dX2_gainOf_73 (by decide) ?_
            exact ih4 (t14) (w15)  _ _ (by first | exact ms_up hm_4 aw15 h_v3_4.2 | exact ms_lt hm_4 (by omega) (by omega) | omega) (by first | exact rg_up aw15 h_v3_4 (by omega) | omega)   hF hS (lv_sub hl [0, 1, 2, 3] rfl)
        · have hF := (if_pos c_5).symm.trans hF
          have c_5 : y4.toInt = vx.toInt := il_eq c_5
          refine lv_aload_n hx hb dX2_gainOf_26 rfl (lv_at hl 2 rfl) ?_
          refine va_get (D := (dC, dI)) (ci := 2) (v := .ref (ad 39)) (C := RX2) (T := TX2) (N := 2) hx hb hts inG2 hown hK hP 6 (gX_6 cs ad mu) rfl 0 (by decide) (hts _ (List.mem_cons_of_mem _ mw_2_6)) (fun _ h9 => h9) rfl dX2_gainOf_27 ?_
          refine lv_iload_n hx hb dX2_gainOf_30 rfl (lv_at hl 0 rfl) ?_
          have hx16 : 0 ≤ v3_4.toInt ∧ v3_4.toInt < ((40 : Nat) : Int) := ⟨by omega, by omega⟩
          refine va_aldq hx hb hK hP 39 6 (gX_39 cs ad mu) rfl (show vp_in v3_4 40 from vi_of hx16.1 hx16.2) dX2_gainOf_31 ?_
          have hk16 : 77 ≤ (77 + v3_4.toNatClampNeg) ∧ (77 + v3_4.toNatClampNeg) < 117 := ix_of hx16
          refine lq_v (.ref (ad (77 + v3_4.toNatClampNeg))) rfl ?_
          refine va_get (D := (dC, dI)) (ci := 7) (v := .int (mu (77 + v3_4.toNatClampNeg) 4)) (C := RX7) (T := TX7) (N := 7) hx hb hts inG7 hown hK hP (77 + v3_4.toNatClampNeg) (gX_sale cs ad mu (77 + v3_4.toNatClampNeg) hk16.1 hk16.2) rfl 4 (by decide) (hts _ (List.mem_cons_of_mem _ mw_1_228)) (fun _ h9 => h9) rfl dX2_gainOf_32 ?_
          refine lv_topi (fun y17 ey17 => ?_)
          have hF := mi_let hF ey17
          have by17 : y17.toInt = (mu (77 + v3_4.toNatClampNeg) 4).toInt := congrArg Int32.toInt ey17
          refine lv_goto (tgt := 39) hx hb dX2_gainOf_35 (by decide) ?_
          refine lv_iadd hx hb dX2_gainOf_39 ?_
          refine lv_topi (fun t18 et18 => ?_)
          have hF := mi_let hF et18
          refine lv_istore_n (lv' := [(2, .int t18), (3, .int v3_4), (0, .ref (ad 6)), (1, .int vx)]) hx hb dX2_gainOf_40 rfl hl (by decide) rfl (fun ls hl => ?_)
          refine lv_iload_n hx hb dX2_gainOf_41 rfl (lv_at hl 0 rfl) ?_
          refine lv_aload_n hx hb dX2_gainOf_42 rfl (lv_at hl 2 rfl) ?_
          refine va_get (D := (dC, dI)) (ci := 2) (v := .ref (ad 39)) (C := RX2) (T := TX2) (N := 2) hx hb hts inG2 hown hK hP 6 (gX_6 cs ad mu) rfl 0 (by decide) (hts _ (List.mem_cons_of_mem _ mw_2_6)) (fun _ h9 => h9) rfl dX2_gainOf_43 ?_
          refine lv_iload_n hx hb dX2_gainOf_46 rfl (lv_at hl 1 rfl) ?_
          have hx19 : 0 ≤ v3_4.toInt ∧ v3_4.toInt < ((40 : Nat) : Int) := ⟨by omega, by omega⟩
          refine va_aldq hx hb hK hP 39 6 (gX_39 cs ad mu) rfl (show vp_in v3_4 40 from vi_of hx19.1 hx19.2) dX2_gainOf_47 ?_
          have hk19 : 77 ≤ (77 + v3_4.toNatClampNeg) ∧ (77 + v3_4.toNatClampNeg) < 117 := ix_of hx19
          refine lq_v (.ref (ad (77 + v3_4.toNatClampNeg))) rfl ?_
          refine va_get (D := (dC, dI)) (ci := 7) (v := .int (mu (77 + v3_4.toNatClampNeg) 3)) (C := RX7) (T := TX7) (N := 7) hx hb hts inG7 hown hK hP (77 + v3_4.toNatClampNeg) (gX_sale cs ad mu (77 + v3_4.toNatClampNeg) hk19.1 hk19.2) rfl 3 (by decide) (hts _ (List.mem_cons_of_mem _ mw_1_227)) (fun _ h9 => h9) rfl dX2_gainOf_48 ?_
          refine lv_topi (fun y20 ey20 => ?_)
          have hF := mi_let hF ey20
          have by20 : y20.toInt = (mu (77 + v3_4.toNatClampNeg) 3).toInt := congrArg Int32.toInt ey20
          refine lv_iload_n hx hb dX2_gainOf_51 rfl (lv_at hl 3 rfl) ?_
          refine lv_icmp_ne (tgt := 67) hx hb dX2_gainOf_52 (by decide) (fun c_21 => ?_) (fun c_21 => ?_)
          · have hF := (if_neg c_21).symm.trans hF
            have c_21 : ¬ y20.toInt = vx.toInt := il_ne c_21
            refine lv_iconst (v := 0) hx hb dX2_gainOf_67 (by decide) ?_
            refine lv_isub hx hb dX2_gainOf_68 ?_
            refine lv_topi (fun t22 et22 => ?_)
            have hF := mi_let hF et22
            refine lv_istore_n (lv' := [(2, .int t22), (3, .int v3_4), (0, .ref (ad 6)), (1, .int vx)]) hx hb dX2_gainOf_69 rfl hl (by decide) rfl (fun ls hl => ?_)
            refine lv_iinc (v := (v3_4 + 1)) (lv' := [(3, .int (v3_4 + 1)), (2, .int t22), (0, .ref (ad 6)), (1, .int vx)]) hx hb dX2_gainOf_70 hl (k := 1) rfl rfl (by decide) rfl (fun ls hl => ?_)
            refine loc_gen (P := fun w9 => lv_has ls 4 [(3, .int w9), (2, .int t22), (0, .ref (ad 6)), (1, .int vx)]) (v3_4 + 1) hl (fun w23 hw23 hl => ?_)
            have hl : lv_has ls 4 [(3, .int w23), (2, .int t22), (0, .ref (ad 6)), (1, .int vx)] := hl
            have hF := mi_let hF hw23.symm
            have aw23 : w23.toInt = v3_4.toInt + 1 := by rw [← hw23]; first | exact va1 (Int.lt_of_le_of_lt h_v3_4.2 (by decide)) | exact va1 (by omega)
            refine lv_goto (tgt := 4) hx hb dX2_gainOf_73 (by decide) ?_
            exact ih4 (t22) (w23)  _ _ (by first | exact ms_up hm_4 aw23 h_v3_4.2 | exact ms_lt hm_4 (by omega) (by omega) | omega) (by first | exact rg_up aw23 h_v3_4 (by omega) | omega)   hF hS (lv_sub hl [0, 1, 2, 3] rfl)
          · have hF := (if_pos c_21).symm.trans hF
            have c_21 : y20.toInt = vx.toInt := il_eq c_21
            refine lv_aload_n hx hb dX2_gainOf_55 rfl (lv_at hl 2 rfl) ?_
            refine va_get (D := (dC, dI)) (ci := 2) (v := .ref (ad 39)) (C := RX2) (T := TX2) (N := 2) hx hb hts inG2 hown hK hP 6 (gX_6 cs ad mu) rfl 0 (by decide) (hts _ (List.mem_cons_of_mem _ mw_2_6)) (fun _ h9 => h9) rfl dX2_gainOf_56 ?_
            refine lv_iload_n hx hb dX2_gainOf_59 rfl (lv_at hl 1 rfl) ?_
            have hx24 : 0 ≤ v3_4.toInt ∧ v3_4.toInt < ((40 : Nat) : Int) := ⟨by omega, by omega⟩
            refine va_aldq hx hb hK hP 39 6 (gX_39 cs ad mu) rfl (show vp_in v3_4 40 from vi_of hx24.1 hx24.2) dX2_gainOf_60 ?_
            have hk24 : 77 ≤ (77 + v3_4.toNatClampNeg) ∧ (77 + v3_4.toNatClampNeg) < 117 := ix_of hx24
            refine lq_v (.ref (ad (77 + v3_4.toNatClampNeg))) rfl ?_
            refine va_get (D := (dC, dI)) (ci := 7) (v := .int (mu (77 + v3_4.toNatClampNeg) 4)) (C := RX7) (T := TX7) (N := 7) hx hb hts inG7 hown hK hP (77 + v3_4.toNatClampNeg) (gX_sale cs ad mu (77 + v3_4.toNatClampNeg) hk24.1 hk24.2) rfl 4 (by decide) (hts _ (List.mem_cons_of_mem _ mw_1_228)) (fun _ h9 => h9) rfl dX2_gainOf_61 ?_
            refine lq_i y17 ey17.symm ?_
            refine lv_goto (tgt := 68) hx hb dX2_gainOf_64 (by decide) ?_
            refine lv_isub hx hb dX2_gainOf_68 ?_
            refine lv_topi (fun t25 et25 => ?_)
            have hF := mi_let hF et25
            refine lv_istore_n (lv' := [(2, .int t25), (3, .int v3_4), (0, .ref (ad 6)), (1, .int vx)]) hx hb dX2_gainOf_69 rfl hl (by decide) rfl (fun ls hl => ?_)
            refine lv_iinc (v := (v3_4 + 1)) (lv' := [(3, .int (v3_4 + 1)), (2, .int t25), (0, .ref (ad 6)), (1, .int vx)]) hx hb dX2_gainOf_70 hl (k := 1) rfl rfl (by decide) rfl (fun ls hl => ?_)
            refine loc_gen (P := fun w9 => lv_has ls 4 [(3, .int w9), (2, .int t25), (0, .ref (ad 6)), (1, .int vx)]) (v3_4 + 1) hl (fun w26 hw26 hl => ?_)
            have hl : lv_has ls 4 [(3, .int w26), (2, .int t25), (0, .ref (ad 6)), (1, .int vx)] := hl
            have hF := mi_let hF hw26.symm
            have aw26 : w26.toInt = v3_4.toInt + 1 := by rw [← hw26]; first | exact va1 (Int.lt_of_le_of_lt h_v3_4.2 (by decide)) | exact va1 (by omega)
            refine lv_goto (tgt := 4) hx hb dX2_gainOf_73 (by decide) ?_
            exact ih4 (t25) (w26)  _ _ (by first | exact ms_up hm_4 aw26 h_v3_4.2 | exact ms_lt hm_4 (by omega) (by omega) | omega) (by first | exact rg_up aw26 h_v3_4 (by omega) | omega)   hF hS (lv_sub hl [0, 1, 2, 3] rfl)
  exact loop4 43 (0) (0)  _ _ (by have h80 : (0 : Int32).toInt = 0 := rfl; have h81 : (0 : Int32).toInt = 0 := rfl; omega) (by have h80 : (0 : Int32).toInt = 0 := rfl; exact ⟨by omega, by omega⟩)   hF hS hl
set_option maxHeartbeats 4000000 in
set_option maxRecDepth 100000 in
/-- sx_bitAt -/
theorem sx_bitAt (l : Launch) (dC : Nat → ClassId) (dI : Nat → Nat → Nat) (tys : List (ClassId × FieldType)) (H : Heap) (va : Int32) (vb : Int32) : Met l yX11_bitAt (wU yX11_bitAt cX11_bitAt 4 (some .int)) ({ frames := 1, cells := 0, slots := 0, locals := 21 }) (va_Pc [.int va, .int vb] (sz_P (dC, dI) vwCl tys H)) (va_Qi (fun (z : Int32) (_ : Unit) => z = F_sx_bitAt va vb ∧ (0 ≤ z.toInt ∧ z.toInt ≤ 6)) (fun _ t => t.heap = H) (fun _ => False)) 0 0 (fun _ => False) := by
  refine Met.ofW (cc := cX11_bitAt) (maxL := 4) (ret := (some .int)) (by decide) rfl ?_
  intro p e s m args below meth c s₁ B hml hv
  obtain ⟨rfl, hh, hK, hz⟩ := hv
  have hx := B.exec
  have hb := B.bytes
  have hr := B.returns
  have hts := atoms_spec (ws := (wU yX11_bitAt cX11_bitAt 4 (some .int))) B.pre
  have hown : s.vm.findClass RX11 = some m.cls := findClass_of_methodNamed B.named
  have hlocks := B.notSynchronized
  subst hh
  have hS : va_S (fun _ => False) s.heap s.heap [] := va_S.rf
  have hl := lv_entry ([.int va, .int vb]) (n := 4) (Nat.le_of_ble_eq_true rfl)
  rw [lg_entry_eq]
  generalize (lg_sl ([.int va, .int vb]) ++ List.replicate (4 - (lg_sl ([.int va, .int vb])).length) Slot.unset).toArray = ls at hl ⊢
  have hl : lv_has ls 4 [(0, .int va), (1, .int vb)] := hl
  obtain ⟨fz, hfz⟩ : ∃ z, F_sx_bitAt va vb = z := ⟨_, rfl⟩
  have hF := hfz
  unfold F_sx_bitAt at hF
  refine lv_iload_n hx hb dX11_bitAt_0 rfl (lv_at hl 1 rfl) ?_
  refine lv_istore_n (lv' := [(2, .int vb), (0, .int va), (1, .int vb)]) hx hb dX11_bitAt_1 rfl hl (by decide) rfl (fun ls hl => ?_)
  refine lv_iconst (v := 0) hx hb dX11_bitAt_2 (by decide) ?_
  refine lv_istore_n (lv' := [(3, .int 0), (2, .int vb), (0, .int va), (1, .int vb)]) hx hb dX11_bitAt_3 rfl hl (by decide) rfl (fun ls hl => ?_)
  have loop4 : ∀ (n4 : Nat) (v2_4 : Int32) (v3_4 : Int32) (locs : List Loc) (ls : Array Slot), (7 + 1 - v3_4.toInt).toNat < n4 → (0 ≤ v3_4.toInt ∧ v3_4.toInt ≤ 7) → L_sx_bitAt_4_0 va n4 v2_4 v3_4 = fz → va_S (fun _ => False) s.heap s.heap locs → lv_has ls 4 [(3, .int v3_4), (2, .int v2_4), (0, .int va), (1, .int vb)] → W p l e (headSpec (wU yX11_bitAt cX11_bitAt 4 (some .int)) ({ frames := 1, cells := 0, slots := 0, locals := 21 })).room s m ([.int va, .int vb] : List Value).toArray below meth c s.heap locs 0 0 (MQ below (va_Qi (fun (z : Int32) (_ : Unit) => z = F_sx_bitAt va vb ∧ (0 ≤ z.toInt ∧ z.toInt ≤ 6)) (fun _ t => t.heap = s.heap) (fun _ => False)) ([.int va, .int vb] : List Value).toArray s 0 0 (fun _ => False)) (F0 m 4 ls []) := by
    intro n4
    induction n4 with
    | zero => intro v2_4 v3_4 locs ls hm; exact absurd hm (Nat.not_lt_zero _)
    | succ n4 ih4 =>
      intro v2_4 v3_4 locs ls hm_4 h_v3_4 hF hS hl
      rw [L_sx_bitAt_4_0] at hF
      refine lv_iload_n hx hb dX11_bitAt_4 rfl (lv_at hl 0 rfl) ?_
      refine lv_bipush (v := 7) hx hb dX11_bitAt_5 (by decide) ?_
      refine lv_icmp_ge (tgt := 36) hx hb dX11_bitAt_7 (by decide) (fun c_1 => ?_) (fun c_1 => ?_)
      · have hF := (if_pos c_1).symm.trans hF
        have c_1 : 7 ≤ v3_4.toInt := il_le c_1
        refine lv_iconst (v := 0) hx hb dX11_bitAt_36 (by decide) ?_
        exact W.iret (v := 0) hx hb hr (fun t ht hW => ⟨⟨0, (), rfl, ⟨hF.trans hfz.symm, (by have h6 : (0 : Int32).toInt = 0 := rfl; omega)⟩, ht⟩, hS.F ht⟩) hS.2.2 dX11_bitAt_37
      · have hF := (if_neg c_1).symm.trans hF
        have c_1 : v3_4.toInt < 7 := il_nle c_1
        refine lv_iload_n hx hb dX11_bitAt_10 rfl (lv_at hl 2 rfl) ?_
        refine lv_iload_n hx hb dX11_bitAt_11 rfl (lv_at hl 0 rfl) ?_
        refine cr_i (va_runS (As := [.int va, .int v3_4]) (rest := []) ⟨hx, hb, hml, hown, hts⟩ (sx_hasBit l dC dI tys s.heap va v3_4) (va_cwS 2 hts (wU_S mw_3_87 mw_3_174 mw_3_86 mw_1_1) rfl rfl rfl (by decide +kernel) ⟨Nat.le_of_ble_eq_true rfl, Nat.le_of_ble_eq_true rfl⟩) ⟨sz_c, sz_m hK hz⟩ rfl rfl hl.1 rfl (lv_room (Nat.le_of_ble_eq_true rfl)) dX11_bitAt_12 ⟨Nat.zero_le _, Nat.zero_le _⟩) hS (fun r2 hw2 locs hS => ?_)
        obtain ⟨hfe2, hw2⟩ := hw2
        have hF := mi_let hF hfe2
        have gr2 : 0 ≤ r2.toInt ∧ r2.toInt ≤ 1 := hw2
        refine lv_if_ne (tgt := 21) hx hb dX11_bitAt_15 (by decide) (fun c_3 => ?_) (fun c_3 => ?_)
        · have hF := (if_neg c_3).symm.trans hF
          have c_3 : ¬ r2.toInt = 0 := il_ne c_3
          refine lv_iload_n hx hb dX11_bitAt_21 rfl (lv_at hl 1 rfl) ?_
          refine lv_if_ne (tgt := 27) hx hb dX11_bitAt_22 (by decide) (fun c_4 => ?_) (fun c_4 => ?_)
          · have hF := (if_neg c_4).symm.trans hF
            have c_4 : ¬ v2_4.toInt = 0 := il_ne c_4
            refine lv_iinc (v := (v2_4 + (-1))) (lv' := [(2, .int (v2_4 + (-1))), (3, .int v3_4), (0, .int va), (1, .int vb)]) hx hb dX11_bitAt_27 hl (k := 1) rfl rfl (by decide) rfl (fun ls hl => ?_)
            refine loc_gen (P := fun w9 => lv_has ls 4 [(2, .int w9), (3, .int v3_4), (0, .int va), (1, .int vb)]) (v2_4 + (-1)) hl (fun w5 hw5 hl => ?_)
            have hl : lv_has ls 4 [(2, .int w5), (3, .int v3_4), (0, .int va), (1, .int vb)] := hl
            have hF := mi_let hF hw5.symm
            refine lv_iinc (v := (v3_4 + 1)) (lv' := [(3, .int (v3_4 + 1)), (2, .int w5), (0, .int va), (1, .int vb)]) hx hb dX11_bitAt_30 hl (k := 1) rfl rfl (by decide) rfl (fun ls hl => ?_)
            refine loc_gen (P := fun w9 => lv_has ls 4 [(3, .int w9), (2, .int w5), (0, .int va), (1, .int vb)]) (v3_4 + 1) hl (fun w6 hw6 hl => ?_)
            have hl : lv_has ls 4 [(3, .int w6), (2, .int w5), (0, .int va), (1, .int vb)] := hl
            have hF := mi_let hF hw6.symm
            have aw6 : w6.toInt = v3_4.toInt + 1 := by rw [← hw6]; first | exact va1 (Int.lt_of_le_of_lt h_v3_4.2 (by decide)) | exact va1 (by omega)
            refine lv_goto (tgt := 4) hx hb dX11_bitAt_33 (by decide) ?_
            exact ih4 (w5) (w6)  _ _ (by first | exact ms_up hm_4 aw6 h_v3_4.2 | exact ms_lt hm_4 (by omega) (by omega) | omega) (by first | exact rg_up aw6 h_v3_4 (by omega) | omega)   hF hS (lv_sub hl [0, 1, 2, 3] rfl)
          · have hF := (if_pos c_4).symm.trans hF
            have c_4 : v2_4.toInt = 0 := il_eq c_4
            refine lv_iload_n hx hb dX11_bitAt_25 rfl (lv_at hl 0 rfl) ?_
            exact W.iret (v := v3_4) hx hb hr (fun t ht hW => ⟨⟨v3_4, (), rfl, ⟨hF.trans hfz.symm, (by omega)⟩, ht⟩, hS.F ht⟩) hS.2.2 dX11_bitAt_26
        · have hF := (if_pos c_3).symm.trans hF
          have c_3 : r2.toInt = 0 := il_eq c_3
          refine lv_goto (tgt := 30) hx hb dX11_bitAt_18 (by decide) ?_
          refine lv_iinc (v := (v3_4 + 1)) (lv' := [(3, .int (v3_4 + 1)), (2, .int v2_4), (0, .int va), (1, .int vb)]) hx hb dX11_bitAt_30 hl (k := 0) rfl rfl (by decide) rfl (fun ls hl => ?_)
          refine loc_gen (P := fun w9 => lv_has ls 4 [(3, .int w9), (2, .int v2_4), (0, .int va), (1, .int vb)]) (v3_4 + 1) hl (fun w7 hw7 hl => ?_)
          have hl : lv_has ls 4 [(3, .int w7), (2, .int v2_4), (0, .int va), (1, .int vb)] := hl
          have hF := mi_let hF hw7.symm
          have aw7 : w7.toInt = v3_4.toInt + 1 := by rw [← hw7]; first | exact va1 (Int.lt_of_le_of_lt h_v3_4.2 (by decide)) | exact va1 (by omega)
          refine lv_goto (tgt := 4) hx hb dX11_bitAt_33 (by decide) ?_
          exact ih4 (v2_4) (w7)  _ _ (by first | exact ms_up hm_4 aw7 h_v3_4.2 | exact ms_lt hm_4 (by omega) (by omega) | omega) (by first | exact rg_up aw7 h_v3_4 (by omega) | omega)   hF hS (lv_sub hl [0, 1, 2, 3] rfl)
  exact loop4 10 (vb) (0)  _ _ (by have h81 : (0 : Int32).toInt = 0 := rfl; omega) (by have h80 : (0 : Int32).toInt = 0 := rfl; exact ⟨by omega, by omega⟩)   hF hS hl
