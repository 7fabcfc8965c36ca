set_option maxHeartbeats 4000000 in
set_option maxRecDepth 100000 in
/-- qm_luck -/
theorem qm_luck (l : Launch) (dC : Nat → ClassId) (dI : Nat → Nat → Nat) (cs : Nat → ClassId) (ad : Nat → Nat) (mu : Nat → Nat → Int32) (ok : okR loM hiM mu) (H : Heap) (hP : va_P (dC, dI) vwCl (wR 21 ad (EM cs ad) mu) H) (hD0 : va_D (fun _ => True) (wR 21 ad (EM cs ad) mu)) (vn : Int32) (vs : Int32) : Met l yX12_luck (wU yX12_luck cX12_luck 11 (some .int)) ({ frames := 3, cells := 0, slots := 0, locals := 73 }) (va_Pc [.ref (ad 0), .int vn, .int vs] (sz_P (dC, dI) vwCl (tyM cs) H)) (va_Qi (fun (z : Int32) (xi : Nat → Nat → Int32) => okR loM hiM xi ∧ (True) ∧ True) (fun xi t => va_P (dC, dI) vwCl (wR 21 ad (EM cs ad) xi) t.heap) (va_A (wR 21 ad (EM cs ad) mu) H.size)) 0 0 (va_A (wR 21 ad (EM cs ad) mu) H.size) := by
  refine Met.ofW (cc := cX12_luck) (maxL := 11) (ret := (some .int)) (by decide) rfl ?_
  intro p e s m args below meth c s₁ B hml hv
  obtain ⟨rfl, hh, hK, hz⟩ := hv
  have hx := B.exec
  have hb := B.bytes
  have hr := B.returns
  have hts := atoms_spec (ws := (wU yX12_luck cX12_luck 11 (some .int))) B.pre
  have hown : s.vm.findClass RX12 = some m.cls := findClass_of_methodNamed B.named
  have hlocks := B.notSynchronized
  subst hh
  have hD := hD0.self (sz := s.heap.size)
  have hA : ∀ q : Nat, s.heap.size ≤ q → (va_A (wR 21 ad (EM cs ad) mu) s.heap.size) q := fun q h => Or.inr h
  have hS : va_S (va_A (wR 21 ad (EM cs ad) mu) s.heap.size) s.heap s.heap [] := va_S.rf
  have hl := lv_entry ([.ref (ad 0), .int vn, .int vs]) (n := 11) (Nat.le_of_ble_eq_true rfl)
  rw [lg_entry_eq]
  generalize (lg_sl ([.ref (ad 0), .int vn, .int vs]) ++ List.replicate (11 - (lg_sl ([.ref (ad 0), .int vn, .int vs])).length) Slot.unset).toArray = ls at hl ⊢
  have hl : lv_has ls 11 [(0, .ref (ad 0)), (1, .int vn), (2, .int vs)] := hl
  refine lv_iload_n hx hb dX12_luck_0 rfl (lv_at hl 1 rfl) ?_
  refine lv_iconst (v := 1) hx hb dX12_luck_1 (by decide) ?_
  refine lv_bipush (v := 40) hx hb dX12_luck_2 (by decide) ?_
  refine cr_i (va_runS (As := [.int vn, .int 1, .int 40]) (rest := []) ⟨hx, hb, hml, hown, hts⟩ (sm_in l dC dI (tyM cs) s.heap vn 1 40) (va_cwS 3 hts (wU_S mw_5_189 mw_5_187 mw_5_188 mw_1_13) rfl rfl rfl (by decide +kernel) ⟨Nat.le_of_ble_eq_true rfl, Nat.le_of_ble_eq_true rfl⟩) ⟨sz_c, sz_m hK hz⟩ rfl rfl hl.1 rfl (lv_room (Nat.le_of_ble_eq_true rfl)) dX12_luck_4 ⟨Nat.zero_le _, Nat.zero_le _⟩) hS (fun r1 hw1 locs hS => ?_)
  rcases hw1 with ⟨rfl, f1⟩ | ⟨rfl, f1⟩
  · have f1 : (1 : Int) ≤ vn.toInt ∧ vn.toInt ≤ (40 : Int) := f1
    refine lv_if_eq (tgt := 21) hx hb dX12_luck_7 (by decide) (fun c => absurd c (by decide)) (fun _ => ?_)
    refine lv_iload_n hx hb dX12_luck_10 rfl (lv_at hl 2 rfl) ?_
    refine lv_iconst (v := 1) hx hb dX12_luck_11 (by decide) ?_
    refine lv_ldcw (v := 2147483646) hx hb hown (hts _ (List.mem_cons_of_mem _ mw_7_37)) dX12_luck_12 ?_
    refine cr_i (va_runS (As := [.int vs, .int 1, .int 2147483646]) (rest := []) ⟨hx, hb, hml, hown, hts⟩ (sm_in l dC dI (tyM cs) s.heap vs 1 2147483646) (va_cwS 3 hts (wU_S mw_5_189 mw_5_187 mw_5_188 mw_1_13) rfl rfl rfl (by decide +kernel) ⟨Nat.le_of_ble_eq_true rfl, Nat.le_of_ble_eq_true rfl⟩) ⟨sz_c, sz_m hK hz⟩ rfl rfl hl.1 rfl (lv_room (Nat.le_of_ble_eq_true rfl)) dX12_luck_15 ⟨Nat.zero_le _, Nat.zero_le _⟩) hS (fun r2 hw2 locs hS => ?_)
    rcases hw2 with ⟨rfl, f2⟩ | ⟨rfl, f2⟩
    · have f2 : (1 : Int) ≤ vs.toInt ∧ vs.toInt ≤ (2147483646 : Int) := f2
      refine lv_if_ne (tgt := 23) hx hb dX12_luck_18 (by decide) (fun _ => ?_) (fun c => absurd c (by decide))
      refine lv_aload_n hx hb dX12_luck_23 rfl (lv_at hl 0 rfl) ?_
      refine va_get (D := (dC, dI)) (ci := 12) (v := .int (mu 0 8)) (C := RX12) (T := TX12) (N := 46) hx hb hts inG12 hown hK hP 0 (gM_0 cs ad mu) rfl 8 (by decide) (hts _ (List.mem_cons_of_mem _ mw_5_49)) (fun _ h9 => h9) rfl dX12_luck_24 ?_
      refine lv_topi (fun y3 ey3 => ?_)
      have by3 : y3.toInt = (mu 0 8).toInt := congrArg Int32.toInt ey3
      have gy3 : 0 ≤ y3.toInt ∧ y3.toInt ≤ 7 := by rw [ey3]; exact rM_0_8 ok
      refine lv_if_ne (tgt := 33) hx hb dX12_luck_27 (by decide) (fun c_4 => ?_) (fun c_4 => ?_)
      · have c_4 : ¬ y3.toInt = 0 := il_ne c_4
        refine lv_aload_n hx hb dX12_luck_33 rfl (lv_at hl 0 rfl) ?_
        refine va_get (D := (dC, dI)) (ci := 12) (v := .int (mu 0 14)) (C := RX12) (T := TX12) (N := 46) hx hb hts inG12 hown hK hP 0 (gM_0 cs ad mu) rfl 14 (by decide) (hts _ (List.mem_cons_of_mem _ mw_5_55)) (fun _ h9 => h9) rfl dX12_luck_34 ?_
        refine lv_topi (fun y5 ey5 => ?_)
        have by5 : y5.toInt = (mu 0 14).toInt := congrArg Int32.toInt ey5
        refine lv_iload_n hx hb dX12_luck_37 rfl (lv_at hl 1 rfl) ?_
        refine lv_iadd hx hb dX12_luck_38 ?_
        refine lv_topi (fun t6 et6 => ?_)
        refine lv_bipush (v := 99) hx hb dX12_luck_39 (by decide) ?_
        refine lv_icmp_le (tgt := 47) hx hb dX12_luck_41 (by decide) (fun c_7 => ?_) (fun c_7 => ?_)
        · have c_7 : t6.toInt ≤ 99 := il_le c_7
          refine lv_iload_n hx hb dX12_luck_47 rfl (lv_at hl 2 rfl) ?_
          refine lv_i2l hx hb dX12_luck_48 rfl ?_
          refine lv_topl (fun l8 el8 => ?_)
          have al8 : l8.toInt = vs.toInt := by rw [el8]; exact Int32.toInt_toInt64 _
          refine lv_lstore_n (lv' := [(3, .long l8), (0, .ref (ad 0)), (1, .int vn), (2, .int vs)]) hx hb dX12_luck_49 rfl hl (by decide) rfl (fun ls hl => ?_)
          refine lv_iconst (v := 0) hx hb dX12_luck_50 (by decide) ?_
          refine lv_istore (lv' := [(5, .int 0), (3, .long l8), (0, .ref (ad 0)), (1, .int vn), (2, .int vs)]) hx hb dX12_luck_51 hl (by decide) rfl (fun ls hl => ?_)
          refine lv_iconst (v := 0) hx hb dX12_luck_53 (by decide) ?_
          refine lv_istore (lv' := [(6, .int 0), (5, .int 0), (3, .long l8), (0, .ref (ad 0)), (1, .int vn), (2, .int vs)]) hx hb dX12_luck_54 hl (by decide) rfl (fun ls hl => ?_)
          have loop56 : ∀ (n56 : Nat) (v3_56 : Int64) (v5_56 : Int32) (v6_56 : Int32) (nu56_ : Nat → Nat → Int32) (H : Heap) (locs : List Loc) (ls : Array Slot), (40 + 1 - v6_56.toInt).toNat < n56 → (0 ≤ v3_56.toInt ∧ v3_56.toInt ≤ 2147483646) → (0 ≤ v6_56.toInt ∧ v6_56.toInt ≤ 40) → okR loM hiM nu56_ → va_P (dC, dI) vwCl (wR 21 ad (EM cs ad) nu56_) H → va_S (va_A (wR 21 ad (EM cs ad) mu) s.heap.size) s.heap H locs → lv_has ls 11 [(6, .int v6_56), (5, .int v5_56), (3, .long v3_56), (0, .ref (ad 0)), (1, .int vn), (2, .int vs)] → W p l e (headSpec (wU yX12_luck cX12_luck 11 (some .int)) ({ frames := 3, cells := 0, slots := 0, locals := 73 })).room s m ([.ref (ad 0), .int vn, .int vs] : List Value).toArray below meth c H locs 0 0 (MQ below (va_Qi (fun (z : Int32) (xi : Nat → Nat → Int32) => okR loM hiM xi ∧ (True) ∧ True) (fun xi t => va_P (dC, dI) vwCl (wR 21 ad (EM cs ad) xi) t.heap) (va_A (wR 21 ad (EM cs ad) mu) s.heap.size)) ([.ref (ad 0), .int vn, .int vs] : List Value).toArray s 0 0 (va_A (wR 21 ad (EM cs ad) mu) s.heap.size)) (F0 m 56 ls []) := by
            intro n56
            induction n56 with
            | zero => intro v3_56 v5_56 v6_56 nu56_ H locs ls hm; exact absurd hm (Nat.not_lt_zero _)
            | succ n56 ih56 =>
              intro v3_56 v5_56 v6_56 nu56_ H locs ls hm h_v3_56 h_v6_56 ok hP hS hl
              refine lv_iload hx hb dX12_luck_56 (lv_at hl 0 rfl) ?_
              refine lv_iload_n hx hb dX12_luck_58 rfl (lv_at hl 4 rfl) ?_
              refine lv_icmp_ge (tgt := 212) hx hb dX12_luck_59 (by decide) (fun c_9 => ?_) (fun c_9 => ?_)
              · have c_9 : vn.toInt ≤ v6_56.toInt := il_le c_9
                refine lv_iload hx hb dX12_luck_212 (lv_at hl 1 rfl) ?_
                exact W.iret (v := v5_56) hx hb hr (fun t ht hW => ⟨⟨v5_56, nu56_, rfl, ⟨ok, trivial, trivial⟩, by first | (subst ht; exact hP) | (rw [ht]; exact hP) | (show va_P (dC, dI) vwCl (wR 21 ad (EM cs ad) nu56_) t.heap; rw [ht]; exact hP)⟩, hS.F ht⟩) hS.2.2 dX12_luck_214
              · have c_9 : v6_56.toInt < vn.toInt := il_nle c_9
                refine lv_iconst (v := 0) hx hb dX12_luck_62 (by decide) ?_
                refine lv_istore (lv' := [(7, .int 0), (6, .int v6_56), (5, .int v5_56), (3, .long v3_56), (0, .ref (ad 0)), (1, .int vn), (2, .int vs)]) hx hb dX12_luck_63 hl (by decide) rfl (fun ls hl => ?_)
                have loop65 : ∀ (n65 : Nat) (v3_65 : Int64) (v5_65 : Int32) (v7_65 : Int32) (nu65_ : Nat → Nat → Int32) (H : Heap) (locs : List Loc) (ls : Array Slot), (4 + 1 - v7_65.toInt).toNat < n65 → (0 ≤ v3_65.toInt ∧ v3_65.toInt ≤ 2147483646) → (0 ≤ v7_65.toInt ∧ v7_65.toInt ≤ 4) → okR loM hiM nu65_ → va_P (dC, dI) vwCl (wR 21 ad (EM cs ad) nu65_) H → va_S (va_A (wR 21 ad (EM cs ad) mu) s.heap.size) s.heap H locs → lv_has ls 11 [(7, .int v7_65), (6, .int v6_56), (5, .int v5_65), (3, .long v3_65), (0, .ref (ad 0)), (1, .int vn), (2, .int vs)] → W p l e (headSpec (wU yX12_luck cX12_luck 11 (some .int)) ({ frames := 3, cells := 0, slots := 0, locals := 73 })).room s m ([.ref (ad 0), .int vn, .int vs] : List Value).toArray below meth c H locs 0 0 (MQ below (va_Qi (fun (z : Int32) (xi : Nat → Nat → Int32) => okR loM hiM xi ∧ (True) ∧ True) (fun xi t => va_P (dC, dI) vwCl (wR 21 ad (EM cs ad) xi) t.heap) (va_A (wR 21 ad (EM cs ad) mu) s.heap.size)) ([.ref (ad 0), .int vn, .int vs] : List Value).toArray s 0 0 (va_A (wR 21 ad (EM cs ad) mu) s.heap.size)) (F0 m 65 ls []) := by
                  intro n65
                  induction n65 with
                  | zero => intro v3_65 v5_65 v7_65 nu65_ H locs ls hm; exact absurd hm (Nat.not_lt_zero _)
                  | succ n65 ih65 =>
                    intro v3_65 v5_65 v7_65 nu65_ H locs ls hm h_v3_65 h_v7_65 ok hP hS hl
                    refine lv_iload hx hb dX12_luck_65 (lv_at hl 0 rfl) ?_
                    refine lv_aload_n hx hb dX12_luck_67 rfl (lv_at hl 4 rfl) ?_
                    refine va_get (D := (dC, dI)) (ci := 12) (v := .int (nu65_ 0 15)) (C := RX12) (T := TX12) (N := 46) hx hb hts inG12 hown hK hP 0 (gM_0 cs ad nu65_) rfl 15 (by decide) (hts _ (List.mem_cons_of_mem _ mw_5_56)) (fun _ h9 => h9) rfl dX12_luck_68 ?_
                    refine lv_topi (fun y10 ey10 => ?_)
                    have by10 : y10.toInt = (nu65_ 0 15).toInt := congrArg Int32.toInt ey10
                    have gy10 : 0 ≤ y10.toInt ∧ y10.toInt ≤ 4 := by rw [ey10]; exact rM_0_15 ok
                    refine lv_icmp_ge (tgt := 196) hx hb dX12_luck_71 (by decide) (fun c_11 => ?_) (fun c_11 => ?_)
                    · have c_11 : y10.toInt ≤ v7_65.toInt := il_le c_11
                      refine lv_aload_n hx hb dX12_luck_196 rfl (lv_at hl 4 rfl) ?_
                      refine lv_dup hx hb dX12_luck_197 rfl ?_
                      refine va_get (D := (dC, dI)) (ci := 12) (v := .int (nu65_ 0 14)) (C := RX12) (T := TX12) (N := 46) hx hb hts inG12 hown hK hP 0 (gM_0 cs ad nu65_) rfl 14 (by decide) (hts _ (List.mem_cons_of_mem _ mw_5_55)) (fun _ h9 => h9) rfl dX12_luck_198 ?_
                      refine lv_topi (fun y12 ey12 => ?_)
                      have by12 : y12.toInt = (nu65_ 0 14).toInt := congrArg Int32.toInt ey12
                      refine lv_iconst (v := 1) hx hb dX12_luck_201 (by decide) ?_
                      refine lv_iadd hx hb dX12_luck_202 ?_
                      refine lv_topi (fun t13 et13 => ?_)
                      refine va_put (D := (dC, dI)) (ci := 12) (v := .int t13) (ty := .int) (C := RX12) (T := TX12) (N := 46) hx hb hts inG12 tyX12 tyX12_ok nmX12 hown hK hP (wR_D nu65_ hD) hS 0 (gM_0 cs ad nu65_) rfl 14 (by decide) (hts _ (List.mem_cons_of_mem _ mw_5_55)) (fun _ h9 => h9) rfl (by decide +kernel) rfl rfl (Nat.le_of_ble_eq_true rfl) dX12_luck_203 (fun H locs hP _ hS => ?_)
                      simp only [List.set_cons_succ, List.set_cons_zero] at hP
                      refine wr_gen (upd (nu65_ 0) 14 t13) hP ((hM_0_14 cs ad _ _)) (fun nu14 hn14 hP => ?_)
                      have ok := tM_0_14 ok hn14
                      have ez15 : y10 = nu14 0 15 := ey10.trans (up_f hn14 (by decide)).symm
                      have ez16 : t13 = nu14 0 14 := up_v hn14
                      refine lv_iinc (v := (v6_56 + 1)) (lv' := [(6, .int (v6_56 + 1)), (7, .int v7_65), (5, .int v5_65), (3, .long v3_65), (0, .ref (ad 0)), (1, .int vn), (2, .int vs)]) hx hb dX12_luck_206 hl (k := 1) rfl rfl (by decide) rfl (fun ls hl => ?_)
                      refine loc_gen (P := fun w9 => lv_has ls 11 [(6, .int w9), (7, .int v7_65), (5, .int v5_65), (3, .long v3_65), (0, .ref (ad 0)), (1, .int vn), (2, .int vs)]) (v6_56 + 1) hl (fun w17 hw17 hl => ?_)
                      have hl : lv_has ls 11 [(6, .int w17), (7, .int v7_65), (5, .int v5_65), (3, .long v3_65), (0, .ref (ad 0)), (1, .int vn), (2, .int vs)] := hl
                      have aw17 : w17.toInt = v6_56.toInt + 1 := by rw [← hw17]; exact tI_add (rfl : v6_56.toInt = _) (rfl : (1 : Int32).toInt = 1) (by omega) (by omega)
                      refine lv_goto (tgt := 56) hx hb dX12_luck_209 (by decide) ?_
                      exact ih56 (v3_65) (v5_65) (w17) nu14 _ _ _ (by omega) (by exact ⟨by omega, by omega⟩) (by exact ⟨by omega, by omega⟩)  ok hP   hS (lv_sub hl [0, 2, 3, 4, 5, 6] rfl)
                    · have c_11 : v7_65.toInt < y10.toInt := il_nle c_11
                      refine lv_aload_n hx hb dX12_luck_74 rfl (lv_at hl 4 rfl) ?_
                      refine lv_iload hx hb dX12_luck_75 (lv_at hl 0 rfl) ?_
                      refine cr_i (va_runV (As := [.int v7_65]) (rest := []) ⟨hx, hb, hml, hown, hts⟩ (sm_canSell l dC dI cs ad nu65_ ok H hP v7_65 (by omega)) (cwV 1 hts (wU_V mw_6_118 mw_6_115 mw_6_117 mw_0_47 mw_1_13) rfl rfl rfl (by decide +kernel) ⟨Nat.le_of_ble_eq_true rfl, Nat.le_of_ble_eq_true rfl⟩) ⟨sz_c, va_recv hK hP (ci := 12) (q0 := 0) rfl (gM_0 cs ad nu65_), sz_m hK hz⟩ rfl rfl hl.1 rfl (lv_room (Nat.le_of_ble_eq_true rfl)) dX12_luck_77 ⟨Nat.zero_le _, Nat.zero_le _⟩) hS (fun r18 hw18 locs hS => ?_)
                      have gr18 : 0 ≤ r18.toInt ∧ r18.toInt ≤ 127 := hw18
                      refine lv_istore (lv' := [(8, .int r18), (7, .int v7_65), (6, .int v6_56), (5, .int v5_65), (3, .long v3_65), (0, .ref (ad 0)), (1, .int vn), (2, .int vs)]) hx hb dX12_luck_80 hl (by decide) rfl (fun ls hl => ?_)
                      refine lv_iload hx hb dX12_luck_82 (lv_at hl 0 rfl) ?_
                      refine lv_if_eq (tgt := 99) hx hb dX12_luck_84 (by decide) (fun c_19 => ?_) (fun c_19 => ?_)
                      · have c_19 : r18.toInt = 0 := il_eq c_19
                        refine lv_iload hx hb dX12_luck_99 (lv_at hl 0 rfl) ?_
                        refine lv_if_eq (tgt := 190) hx hb dX12_luck_101 (by decide) (fun c_20 => ?_) (fun c_20 => by have c_20 : ¬ r18.toInt = 0 := il_ne c_20; exfalso; omega)
                        have c_20 : r18.toInt = 0 := il_eq c_20
                        refine lv_iinc (v := (v7_65 + 1)) (lv' := [(7, .int (v7_65 + 1)), (8, .int r18), (6, .int v6_56), (5, .int v5_65), (3, .long v3_65), (0, .ref (ad 0)), (1, .int vn), (2, .int vs)]) hx hb dX12_luck_190 hl (k := 1) rfl rfl (by decide) rfl (fun ls hl => ?_)
                        refine loc_gen (P := fun w9 => lv_has ls 11 [(7, .int w9), (8, .int r18), (6, .int v6_56), (5, .int v5_65), (3, .long v3_65), (0, .ref (ad 0)), (1, .int vn), (2, .int vs)]) (v7_65 + 1) hl (fun w21 hw21 hl => ?_)
                        have hl : lv_has ls 11 [(7, .int w21), (8, .int r18), (6, .int v6_56), (5, .int v5_65), (3, .long v3_65), (0, .ref (ad 0)), (1, .int vn), (2, .int vs)] := hl
                        have aw21 : w21.toInt = v7_65.toInt + 1 := by rw [← hw21]; exact tI_add (rfl : v7_65.toInt = _) (rfl : (1 : Int32).toInt = 1) (by omega) (by omega)
                        refine lv_goto (tgt := 65) hx hb dX12_luck_193 (by decide) ?_
                        exact ih65 (v3_65) (v5_65) (w21) nu65_ _ _ _ (by omega) (by exact ⟨by omega, by omega⟩) (by exact ⟨by omega, by omega⟩)  ok hP   hS (lv_sub hl [0, 2, 3, 4, 5, 6, 7] rfl)
                      · have c_19 : ¬ r18.toInt = 0 := il_ne c_19
                        refine lv_aload_n hx hb dX12_luck_87 rfl (lv_at hl 5 rfl) ?_
                        refine va_get (D := (dC, dI)) (ci := 12) (v := .int (nu65_ 0 17)) (C := RX12) (T := TX12) (N := 46) hx hb hts inG12 hown hK hP 0 (gM_0 cs ad nu65_) rfl 17 (by decide) (hts _ (List.mem_cons_of_mem _ mw_5_58)) (fun _ h9 => h9) rfl dX12_luck_88 ?_
                        refine lv_topi (fun y22 ey22 => ?_)
                        have by22 : y22.toInt = (nu65_ 0 17).toInt := congrArg Int32.toInt ey22
                        have gy22 : 0 ≤ y22.toInt ∧ y22.toInt ≤ 40 := by rw [ey22]; exact rM_0_17 ok
                        refine lv_bipush (v := 40) hx hb dX12_luck_91 (by decide) ?_
                        refine lv_icmp_ne (tgt := 99) hx hb dX12_luck_93 (by decide) (fun c_23 => ?_) (fun c_23 => ?_)
                        · have c_23 : ¬ y22.toInt = 40 := il_ne c_23
                          refine lv_iload hx hb dX12_luck_99 (lv_at hl 0 rfl) ?_
                          refine lv_if_eq (tgt := 190) hx hb dX12_luck_101 (by decide) (fun c_24 => by have c_24 : r18.toInt = 0 := il_eq c_24; exfalso; omega) (fun c_24 => ?_)
                          have c_24 : ¬ r18.toInt = 0 := il_ne c_24
                          refine lv_ldc2 (v := 48271) hx hb hown (hts _ (List.mem_cons_of_mem _ mw_7_38)) dX12_luck_104 ?_
                          refine lv_lload_n hx hb dX12_luck_107 rfl (lv_at hl 4 rfl) ?_
                          refine lv_lmul hx hb dX12_luck_108 ?_
                          refine lv_topl (fun l25 el25 => ?_)
                          refine lv_ldc2 (v := 2147483647) hx hb hown (hts _ (List.mem_cons_of_mem _ mw_7_39)) dX12_luck_109 ?_
                          refine lv_lrem hx hb dX12_luck_112 (by decide) ?_
                          refine lv_topl (fun l26 el26 => ?_)
                          have gl26 : 0 ≤ l26.toInt ∧ l26.toInt ≤ 2147483646 := lot_rng (n := v3_65) ⟨by omega, by omega⟩ el25 (el26.trans (lrem_eq _ _))
                          refine lv_lstore_n (lv' := [(3, .long l26), (8, .int r18), (7, .int v7_65), (6, .int v6_56), (5, .int v5_65), (0, .ref (ad 0)), (1, .int vn), (2, .int vs)]) hx hb dX12_luck_113 rfl hl (by decide) rfl (fun ls hl => ?_)
                          refine lv_lload_n hx hb dX12_luck_114 rfl (lv_at hl 0 rfl) ?_
                          refine lv_iload hx hb dX12_luck_115 (lv_at hl 1 rfl) ?_
                          refine cr_i (va_runS (As := [.int r18]) (rest := [.long l26]) ⟨hx, hb, hml, hown, hts⟩ (sm_sizeOf l dC dI (tyM cs) H r18) (va_cwS 1 hts (wU_S mw_6_62 mw_6_60 mw_6_61 mw_1_13) rfl rfl rfl (by decide +kernel) ⟨Nat.le_of_ble_eq_true rfl, Nat.le_of_ble_eq_true rfl⟩) ⟨sz_c, sz_m hK hz⟩ rfl rfl hl.1 rfl (lv_room (Nat.le_of_ble_eq_true rfl)) dX12_luck_117 ⟨Nat.zero_le _, Nat.zero_le _⟩) hS (fun r27 hw27 locs hS => ?_)
                          have gr27 : r27 = so r18 ∧ (0 ≤ r18.toInt → r18.toInt ≤ 127 → r27.toInt = (pp r18.toNatClampNeg : Int) ∧ pp r18.toNatClampNeg ≤ 7 ∧ (r18.toInt = 0 ∨ 1 ≤ pp r18.toNatClampNeg)) := hw27
                          refine lv_i2l hx hb dX12_luck_120 rfl ?_
                          refine lv_topl (fun l28 el28 => ?_)
                          have al28 : l28.toInt = r27.toInt := by rw [el28]; exact Int32.toInt_toInt64 _
                          refine lv_lrem hx hb dX12_luck_121 (by rw [el28]; exact l_ne (by omega)) ?_
                          refine lv_topl (fun l29 el29 => ?_)
                          have gl29 : 0 ≤ l29.toInt ∧ l29.toInt < r27.toInt := by rw [el29, lrem_eq]; exact lrem_rng (by omega) al28 (by omega)
                          refine lv_l2i hx hb dX12_luck_122 rfl ?_
                          refine lv_topi (fun t30 et30 => ?_)
                          have at30 : t30.toInt = l29.toInt := l2i_of et30 (by omega) (by omega)
                          refine lv_istore (lv' := [(9, .int t30), (3, .long l26), (8, .int r18), (7, .int v7_65), (6, .int v6_56), (5, .int v5_65), (0, .ref (ad 0)), (1, .int vn), (2, .int vs)]) hx hb dX12_luck_123 hl (by decide) rfl (fun ls hl => ?_)
                          refine lv_iconst (v := 0) hx hb dX12_luck_125 (by decide) ?_
                          refine lv_istore (lv' := [(10, .int 0), (9, .int t30), (3, .long l26), (8, .int r18), (7, .int v7_65), (6, .int v6_56), (5, .int v5_65), (0, .ref (ad 0)), (1, .int vn), (2, .int vs)]) hx hb dX12_luck_126 hl (by decide) rfl (fun ls hl => ?_)
                          have loop128 : ∀ (n128 : Nat) (v9_128 : Int32) (v10_128 : Int32) (nu128_ : Nat → Nat → Int32) (H : Heap) (locs : List Loc) (ls : Array Slot), (7 + 1 - v10_128.toInt).toNat < n128 → (0 ≤ v9_128.toInt ∧ v9_128.toInt ≤ 6) → (0 ≤ v10_128.toInt ∧ v10_128.toInt ≤ 7) → (v9_128.toInt < (ab (r18 : Int32).toNatClampNeg v10_128.toNatClampNeg : Int)) → okR loM hiM nu128_ → va_P (dC, dI) vwCl (wR 21 ad (EM cs ad) nu128_) H → y22 = nu128_ 0 17 → va_S (va_A (wR 21 ad (EM cs ad) mu) s.heap.size) s.heap H locs → lv_has ls 11 [(10, .int v10_128), (9, .int v9_128), (3, .long l26), (8, .int r18), (7, .int v7_65), (6, .int v6_56), (5, .int v5_65), (0, .ref (ad 0)), (1, .int vn), (2, .int vs)] → W p l e (headSpec (wU yX12_luck cX12_luck 11 (some .int)) ({ frames := 3, cells := 0, slots := 0, locals := 73 })).room s m ([.ref (ad 0), .int vn, .int vs] : List Value).toArray below meth c H locs 0 0 (MQ below (va_Qi (fun (z : Int32) (xi : Nat → Nat → Int32) => okR loM hiM xi ∧ (True) ∧ True) (fun xi t => va_P (dC, dI) vwCl (wR 21 ad (EM cs ad) xi) t.heap) (va_A (wR 21 ad (EM cs ad) mu) s.heap.size)) ([.ref (ad 0), .int vn, .int vs] : List Value).toArray s 0 0 (va_A (wR 21 ad (EM cs ad) mu) s.heap.size)) (F0 m 128 ls []) := by
                            intro n128
                            induction n128 with
                            | zero => intro v9_128 v10_128 nu128_ H locs ls hm; exact absurd hm (Nat.not_lt_zero _)
                            | succ n128 ih128 =>
                              intro v9_128 v10_128 nu128_ H locs ls hm h_v9_128 h_v10_128 hi128_0 ok hP ek128_0 hS hl
                              have h10_6 : v10_128.toInt ≤ 6 := by
                                rcases Int.lt_or_le v10_128.toInt 7 with h7 | h7
                                · omega
                                · exfalso
                                  have u1 := tC_of (v := v10_128) (by omega)
                                  have u2 := tC_of (v := (r18 : Int32)) (by omega)
                                  rw [show v10_128.toNatClampNeg = 7 by omega, ab_7 _ (by omega)] at hi128_0
                                  omega
                              refine lv_iload hx hb dX12_luck_128 (lv_at hl 3 rfl) ?_
                              refine lv_iload hx hb dX12_luck_130 (lv_at hl 0 rfl) ?_
                              refine cr_i (va_runS (As := [.int r18, .int v10_128]) (rest := []) ⟨hx, hb, hml, hown, hts⟩ (sm_has l dC dI (tyM cs) H r18 v10_128) (va_cwS 2 hts (wU_S mw_6_59 mw_6_57 mw_6_58 mw_1_13) rfl rfl rfl (by decide +kernel) ⟨Nat.le_of_ble_eq_true rfl, Nat.le_of_ble_eq_true rfl⟩) ⟨sz_c, sz_m hK hz⟩ rfl rfl hl.1 rfl (lv_room (Nat.le_of_ble_eq_true rfl)) dX12_luck_132 ⟨Nat.zero_le _, Nat.zero_le _⟩) hS (fun r31 hw31 locs hS => ?_)
                              rcases hw31 with ⟨rfl, f31⟩ | ⟨rfl, f31⟩
                              · have f31 : rb r18 v10_128 = 1 := f31
                                refine lv_if_eq (tgt := 143) hx hb dX12_luck_135 (by decide) (fun c => absurd c (by decide)) (fun _ => ?_)
                                refine lv_iload hx hb dX12_luck_138 (lv_at hl 1 rfl) ?_
                                refine lv_if_le (tgt := 169) hx hb dX12_luck_140 (by decide) (fun c_32 => ?_) (fun c_32 => ?_)
                                · have c_32 : v9_128.toInt ≤ 0 := il_le c_32
                                  refine lv_aload_n hx hb dX12_luck_169 rfl (lv_at hl 7 rfl) ?_
                                  refine lv_iload hx hb dX12_luck_170 (lv_at hl 4 rfl) ?_
                                  refine lv_iload hx hb dX12_luck_172 (lv_at hl 0 rfl) ?_
                                  have hFc := fr_all (wR_D nu128_ hD) hS hA
                                  refine va_callv (va_runV (As := [.int v7_65, .int v10_128]) (rest := []) ⟨hx, hb, hml, hown, hts⟩ (sm_sellTo l dC dI cs ad nu128_ ok H hP ((wR_D nu128_ hD).weaken (fun _ _ _ _ => trivial)) v7_65 v10_128 (by omega) (by have hb33 := congrArg Int32.toInt ek128_0; omega)) (cwV 2 hts (wU_V mw_6_130 mw_6_127 mw_6_129 mw_0_50 mw_1_13) rfl rfl rfl (by decide +kernel) ⟨Nat.le_of_ble_eq_true rfl, Nat.le_of_ble_eq_true rfl⟩) ⟨sz_c, va_recv hK hP (ci := 12) (q0 := 0) rfl (gM_0 cs ad nu128_), sz_m hK hz⟩ rfl rfl hl.1 rfl (lv_room (Nat.le_of_ble_eq_true rfl)) dX12_luck_174 ⟨Nat.zero_le _, Nat.zero_le _⟩) hS (fun q _ h => hFc q h) hFc (fun xi34 t H34 locs ht hvm hw34 hB hz1 hk1 hS => ?_)
                                  have hP : va_P (dC, dI) vwCl (wR 21 ad (EM cs ad) xi34) H34 := by rw [← ht]; exact hB
                                  obtain ⟨ok, hw34, _⟩ := hw34
                                  refine lv_iload hx hb dX12_luck_177 (lv_at hl 6 rfl) ?_
                                  refine lv_aload_n hx hb dX12_luck_179 rfl (lv_at hl 7 rfl) ?_
                                  refine lv_iload hx hb dX12_luck_180 (lv_at hl 4 rfl) ?_
                                  refine lv_bipush (v := 9) hx hb dX12_luck_182 (by decide) ?_
                                  refine cr_i (va_runV (As := [.int v7_65, .int 9]) (rest := [.int v5_65]) ⟨hx, hb, hml, hown, hts⟩ (sm_letterOf l dC dI cs ad xi34 ok H34 hP v7_65 9 (by have h51 : (9 : Int32).toInt = 9 := rfl; omega)) (cwV 2 hts (wU_V mw_6_48 mw_6_45 mw_6_47 mw_0_38 mw_1_13) rfl rfl rfl (by decide +kernel) ⟨Nat.le_of_ble_eq_true rfl, Nat.le_of_ble_eq_true rfl⟩) ⟨sz_c, va_recv hK hP (ci := 12) (q0 := 0) rfl (gM_0 cs ad xi34), sz_m hK hz⟩ rfl rfl hl.1 rfl (lv_room (Nat.le_of_ble_eq_true rfl)) dX12_luck_184 ⟨Nat.zero_le _, Nat.zero_le _⟩) hS (fun r35 hw35 locs hS => ?_)
                                  refine lv_iadd hx hb dX12_luck_187 ?_
                                  refine lv_topi (fun t36 et36 => ?_)
                                  refine lv_istore (lv' := [(5, .int t36), (10, .int v10_128), (9, .int v9_128), (3, .long l26), (8, .int r18), (7, .int v7_65), (6, .int v6_56), (0, .ref (ad 0)), (1, .int vn), (2, .int vs)]) hx hb dX12_luck_188 hl (by decide) rfl (fun ls hl => ?_)
                                  refine lv_iinc (v := (v7_65 + 1)) (lv' := [(7, .int (v7_65 + 1)), (5, .int t36), (10, .int v10_128), (9, .int v9_128), (3, .long l26), (8, .int r18), (6, .int v6_56), (0, .ref (ad 0)), (1, .int vn), (2, .int vs)]) hx hb dX12_luck_190 hl (k := 5) rfl rfl (by decide) rfl (fun ls hl => ?_)
                                  refine loc_gen (P := fun w9 => lv_has ls 11 [(7, .int w9), (5, .int t36), (10, .int v10_128), (9, .int v9_128), (3, .long l26), (8, .int r18), (6, .int v6_56), (0, .ref (ad 0)), (1, .int vn), (2, .int vs)]) (v7_65 + 1) hl (fun w37 hw37 hl => ?_)
                                  have hl : lv_has ls 11 [(7, .int w37), (5, .int t36), (10, .int v10_128), (9, .int v9_128), (3, .long l26), (8, .int r18), (6, .int v6_56), (0, .ref (ad 0)), (1, .int vn), (2, .int vs)] := hl
                                  have aw37 : w37.toInt = v7_65.toInt + 1 := by rw [← hw37]; exact tI_add (rfl : v7_65.toInt = _) (rfl : (1 : Int32).toInt = 1) (by omega) (by omega)
                                  refine lv_goto (tgt := 65) hx hb dX12_luck_193 (by decide) ?_
                                  exact ih65 (l26) (t36) (w37) xi34 _ _ _ (by omega) (by exact ⟨by omega, by omega⟩) (by exact ⟨by omega, by omega⟩)  ok hP   hS (lv_sub hl [0, 6, 1, 4, 7, 8, 9] rfl)
                                · have c_32 : 0 < v9_128.toInt := il_nle c_32
                                  refine lv_iload hx hb dX12_luck_143 (lv_at hl 1 rfl) ?_
                                  refine lv_iload hx hb dX12_luck_145 (lv_at hl 3 rfl) ?_
                                  refine lv_iload hx hb dX12_luck_147 (lv_at hl 0 rfl) ?_
                                  refine cr_i (va_runS (As := [.int r18, .int v10_128]) (rest := [.int v9_128]) ⟨hx, hb, hml, hown, hts⟩ (sm_has l dC dI (tyM cs) H r18 v10_128) (va_cwS 2 hts (wU_S mw_6_59 mw_6_57 mw_6_58 mw_1_13) rfl rfl rfl (by decide +kernel) ⟨Nat.le_of_ble_eq_true rfl, Nat.le_of_ble_eq_true rfl⟩) ⟨sz_c, sz_m hK hz⟩ rfl rfl hl.1 rfl (lv_room (Nat.le_of_ble_eq_true rfl)) dX12_luck_149 ⟨Nat.zero_le _, Nat.zero_le _⟩) hS (fun r38 hw38 locs hS => ?_)
                                  rcases hw38 with ⟨rfl, f38⟩ | ⟨rfl, f38⟩
                                  · have f38 : rb r18 v10_128 = 1 := f38
                                    refine lv_if_eq (tgt := 159) hx hb dX12_luck_152 (by decide) (fun c => absurd c (by decide)) (fun _ => ?_)
                                    refine lv_iconst (v := 1) hx hb dX12_luck_155 (by decide) ?_
                                    refine lv_goto (tgt := 160) hx hb dX12_luck_156 (by decide) ?_
                                    refine lv_isub hx hb dX12_luck_160 ?_
                                    refine lv_topi (fun t39 et39 => ?_)
                                    have at39 : t39.toInt = v9_128.toInt - 1 := by rw [et39]; exact tI_sub (rfl : v9_128.toInt = _) (rfl : (1 : Int32).toInt = 1) (by omega) (by omega)
                                    refine lv_istore (lv' := [(9, .int t39), (10, .int v10_128), (3, .long l26), (8, .int r18), (7, .int v7_65), (6, .int v6_56), (5, .int v5_65), (0, .ref (ad 0)), (1, .int vn), (2, .int vs)]) hx hb dX12_luck_161 hl (by decide) rfl (fun ls hl => ?_)
                                    refine lv_iinc (v := (v10_128 + 1)) (lv' := [(10, .int (v10_128 + 1)), (9, .int t39), (3, .long l26), (8, .int r18), (7, .int v7_65), (6, .int v6_56), (5, .int v5_65), (0, .ref (ad 0)), (1, .int vn), (2, .int vs)]) hx hb dX12_luck_163 hl (k := 1) rfl rfl (by decide) rfl (fun ls hl => ?_)
                                    refine loc_gen (P := fun w9 => lv_has ls 11 [(10, .int w9), (9, .int t39), (3, .long l26), (8, .int r18), (7, .int v7_65), (6, .int v6_56), (5, .int v5_65), (0, .ref (ad 0)), (1, .int vn), (2, .int vs)]) (v10_128 + 1) hl (fun w40 hw40 hl => ?_)
                                    have hl : lv_has ls 11 [(10, .int w40), (9, .int t39), (3, .long l26), (8, .int r18), (7, .int v7_65), (6, .int v6_56), (5, .int v5_65), (0, .ref (ad 0)), (1, .int vn), (2, .int vs)] := hl
                                    have aw40 : w40.toInt = v10_128.toInt + 1 := by rw [← hw40]; exact tI_add (rfl : v10_128.toInt = _) (rfl : (1 : Int32).toInt = 1) (by omega) (by omega)
                                    refine lv_goto (tgt := 128) hx hb dX12_luck_166 (by decide) ?_
                                    exact ih128 (t39) (w40) nu128_ _ _ _ (by omega) (by exact ⟨by omega, by omega⟩) (by exact ⟨by omega, by omega⟩) (by have h7 := ab_step (v := r18) (x := v10_128) (by omega) (by omega) (by omega) (by omega); have h6 : w40.toNatClampNeg = v10_128.toNatClampNeg + 1 := (by have u1 := tC_of (v := w40) (by omega); have u2 := tC_of (v := v10_128) (by omega); omega); rw [h6]; by_cases h5 : rb r18 v10_128 = 1; (have h4 := h7.1 h5; first | contradiction | omega); (have h4 := h7.2 h5; first | contradiction | omega)) ok hP ek128_0  hS (lv_sub hl [0, 1, 2, 3, 4, 5, 6, 7, 8, 9] rfl)
                                  · exact absurd f31 f38
                              · have f31 : ¬ rb r18 v10_128 = 1 := f31
                                refine lv_if_eq (tgt := 143) hx hb dX12_luck_135 (by decide) (fun _ => ?_) (fun c => absurd (by decide) c)
                                refine lv_iload hx hb dX12_luck_143 (lv_at hl 1 rfl) ?_
                                refine lv_iload hx hb dX12_luck_145 (lv_at hl 3 rfl) ?_
                                refine lv_iload hx hb dX12_luck_147 (lv_at hl 0 rfl) ?_
                                refine cr_i (va_runS (As := [.int r18, .int v10_128]) (rest := [.int v9_128]) ⟨hx, hb, hml, hown, hts⟩ (sm_has l dC dI (tyM cs) H r18 v10_128) (va_cwS 2 hts (wU_S mw_6_59 mw_6_57 mw_6_58 mw_1_13) rfl rfl rfl (by decide +kernel) ⟨Nat.le_of_ble_eq_true rfl, Nat.le_of_ble_eq_true rfl⟩) ⟨sz_c, sz_m hK hz⟩ rfl rfl hl.1 rfl (lv_room (Nat.le_of_ble_eq_true rfl)) dX12_luck_149 ⟨Nat.zero_le _, Nat.zero_le _⟩) hS (fun r41 hw41 locs hS => ?_)
                                rcases hw41 with ⟨rfl, f41⟩ | ⟨rfl, f41⟩
                                · exact absurd f41 f31
                                · have f41 : ¬ rb r18 v10_128 = 1 := f41
                                  refine lv_if_eq (tgt := 159) hx hb dX12_luck_152 (by decide) (fun _ => ?_) (fun c => absurd (by decide) c)
                                  refine lv_iconst (v := 0) hx hb dX12_luck_159 (by decide) ?_
                                  refine lv_isub hx hb dX12_luck_160 ?_
                                  refine lv_topi (fun t42 et42 => ?_)
                                  have at42 : t42.toInt = v9_128.toInt - 0 := by rw [et42]; exact tI_sub (rfl : v9_128.toInt = _) (rfl : (0 : Int32).toInt = 0) (by omega) (by omega)
                                  refine lv_istore (lv' := [(9, .int t42), (10, .int v10_128), (3, .long l26), (8, .int r18), (7, .int v7_65), (6, .int v6_56), (5, .int v5_65), (0, .ref (ad 0)), (1, .int vn), (2, .int vs)]) hx hb dX12_luck_161 hl (by decide) rfl (fun ls hl => ?_)
                                  refine lv_iinc (v := (v10_128 + 1)) (lv' := [(10, .int (v10_128 + 1)), (9, .int t42), (3, .long l26), (8, .int r18), (7, .int v7_65), (6, .int v6_56), (5, .int v5_65), (0, .ref (ad 0)), (1, .int vn), (2, .int vs)]) hx hb dX12_luck_163 hl (k := 1) rfl rfl (by decide) rfl (fun ls hl => ?_)
                                  refine loc_gen (P := fun w9 => lv_has ls 11 [(10, .int w9), (9, .int t42), (3, .long l26), (8, .int r18), (7, .int v7_65), (6, .int v6_56), (5, .int v5_65), (0, .ref (ad 0)), (1, .int vn), (2, .int vs)]) (v10_128 + 1) hl (fun w43 hw43 hl => ?_)
                                  have hl : lv_has ls 11 [(10, .int w43), (9, .int t42), (3, .long l26), (8, .int r18), (7, .int v7_65), (6, .int v6_56), (5, .int v5_65), (0, .ref (ad 0)), (1, .int vn), (2, .int vs)] := hl
                                  have aw43 : w43.toInt = v10_128.toInt + 1 := by rw [← hw43]; exact tI_add (rfl : v10_128.toInt = _) (rfl : (1 : Int32).toInt = 1) (by omega) (by omega)
                                  refine lv_goto (tgt := 128) hx hb dX12_luck_166 (by decide) ?_
                                  exact ih128 (t42) (w43) nu128_ _ _ _ (by omega) (by exact ⟨by omega, by omega⟩) (by exact ⟨by omega, by omega⟩) (by have h7 := ab_step (v := r18) (x := v10_128) (by omega) (by omega) (by omega) (by omega); have h6 : w43.toNatClampNeg = v10_128.toNatClampNeg + 1 := (by have u1 := tC_of (v := w43) (by omega); have u2 := tC_of (v := v10_128) (by omega); omega); rw [h6]; by_cases h5 : rb r18 v10_128 = 1; (have h4 := h7.1 h5; first | contradiction | omega); (have h4 := h7.2 h5; first | contradiction | omega)) ok hP ek128_0  hS (lv_sub hl [0, 1, 2, 3, 4, 5, 6, 7, 8, 9] rfl)
                          exact loop128 ((7 + 1 - (0 : Int32).toInt).toNat + 1) (t30) (0) nu65_ _ _ _ (Nat.lt_succ_self _) (by exact ⟨by omega, by omega⟩) (by have h80 : (0 : Int32).toInt = 0 := rfl; exact ⟨by omega, by omega⟩) (by have h81 : (0 : Int32).toInt = 0 := rfl; have h8 := ab_0 r18.toNatClampNeg; have h9 : (0 : Int32).toNatClampNeg = 0 := rfl; rw [h9, h8]; omega) ok hP ey22  hS hl
                        · have c_23 : y22.toInt = 40 := il_eq c_23
                          refine lv_iload hx hb dX12_luck_96 (lv_at hl 3 rfl) ?_
                          exact W.iret (v := v5_65) hx hb hr (fun t ht hW => ⟨⟨v5_65, nu65_, rfl, ⟨ok, trivial, trivial⟩, by first | (subst ht; exact hP) | (rw [ht]; exact hP) | (show va_P (dC, dI) vwCl (wR 21 ad (EM cs ad) nu65_) t.heap; rw [ht]; exact hP)⟩, hS.F ht⟩) hS.2.2 dX12_luck_98
                exact loop65 ((4 + 1 - (0 : Int32).toInt).toNat + 1) (v3_56) (v5_56) (0) nu56_ _ _ _ (Nat.lt_succ_self _) (by exact ⟨by omega, by omega⟩) (by have h80 : (0 : Int32).toInt = 0 := rfl; exact ⟨by omega, by omega⟩)  ok hP   hS hl
          exact loop56 ((40 + 1 - (0 : Int32).toInt).toNat + 1) (l8) (0) (0) mu _ _ _ (Nat.lt_succ_self _) (by exact ⟨by omega, by omega⟩) (by have h80 : (0 : Int32).toInt = 0 := rfl; exact ⟨by omega, by omega⟩)  ok hP   hS hl
        · have c_7 : 99 < t6.toInt := il_nle c_7
          refine lv_bipush (v := (-2)) hx hb dX12_luck_44 (by decide) ?_
          exact W.iret (v := (-2)) hx hb hr (fun t ht hW => ⟨⟨(-2), mu, rfl, ⟨ok, trivial, trivial⟩, by first | (subst ht; exact hP) | (rw [ht]; exact hP) | (show va_P (dC, dI) vwCl (wR 21 ad (EM cs ad) mu) t.heap; rw [ht]; exact hP)⟩, hS.F ht⟩) hS.2.2 dX12_luck_46
      · have c_4 : y3.toInt = 0 := il_eq c_4
        refine lv_bipush (v := (-4)) hx hb dX12_luck_30 (by decide) ?_
        exact W.iret (v := (-4)) hx hb hr (fun t ht hW => ⟨⟨(-4), mu, rfl, ⟨ok, trivial, trivial⟩, by first | (subst ht; exact hP) | (rw [ht]; exact hP) | (show va_P (dC, dI) vwCl (wR 21 ad (EM cs ad) mu) t.heap; rw [ht]; exact hP)⟩, hS.F ht⟩) hS.2.2 dX12_luck_32
    · have f2 : vs.toInt < (1 : Int) ∨ (2147483646 : Int) < vs.toInt := f2
      refine lv_if_ne (tgt := 23) hx hb dX12_luck_18 (by decide) (fun c => absurd (by decide) c) (fun _ => ?_)
      refine lv_iconst (v := (-1)) hx hb dX12_luck_21 (by decide) ?_
      exact W.iret (v := (-1)) hx hb hr (fun t ht hW => ⟨⟨(-1), mu, rfl, ⟨ok, trivial, trivial⟩, by first | (subst ht; exact hP) | (rw [ht]; exact hP) | (show va_P (dC, dI) vwCl (wR 21 ad (EM cs ad) mu) t.heap; rw [ht]; exact hP)⟩, hS.F ht⟩) hS.2.2 dX12_luck_22
  · have f1 : vn.toInt < (1 : Int) ∨ (40 : Int) < vn.toInt := f1
    refine lv_if_eq (tgt := 21) hx hb dX12_luck_7 (by decide) (fun _ => ?_) (fun c => absurd (by decide) c)
    refine lv_iconst (v := (-1)) hx hb dX12_luck_21 (by decide) ?_
    exact W.iret (v := (-1)) hx hb hr (fun t ht hW => ⟨⟨(-1), mu, rfl, ⟨ok, trivial, trivial⟩, by first | (subst ht; exact hP) | (rw [ht]; exact hP) | (show va_P (dC, dI) vwCl (wR 21 ad (EM cs ad) mu) t.heap; rw [ht]; exact hP)⟩, hS.F ht⟩) hS.2.2 dX12_luck_22
