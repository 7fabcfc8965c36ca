theorem dX10_allPurses_0 : decode cX10_allPurses 0 = .ok (.lconst 0, 1) := by decide +kernel
theorem dX10_allPurses_1 : decode cX10_allPurses 1 = .ok (.lstore_n 1, 1) := by decide +kernel
theorem dX10_allPurses_2 : decode cX10_allPurses 2 = .ok (.iconst 0, 1) := by decide +kernel
theorem dX10_allPurses_3 : decode cX10_allPurses 3 = .ok (.istore_n 3, 1) := by decide +kernel
theorem dX10_allPurses_4 : decode cX10_allPurses 4 = .ok (.iload_n 3, 1) := by decide +kernel
theorem dX10_allPurses_5 : decode cX10_allPurses 5 = .ok (.aload_n 0, 1) := by decide +kernel
theorem dX10_allPurses_6 : decode cX10_allPurses 6 = .ok (.getfield 34, 3) := by decide +kernel
theorem dX10_allPurses_9 : decode cX10_allPurses 9 = .ok (.if_icmp .ge 22, 3) := by decide +kernel
theorem dX10_allPurses_31 : decode cX10_allPurses 31 = .ok (.lload_n 1, 1) := by decide +kernel
theorem dX10_allPurses_32 : decode cX10_allPurses 32 = .ok (.lreturn, 1) := by decide +kernel
theorem dX10_allPurses_12 : decode cX10_allPurses 12 = .ok (.lload_n 1, 1) := by decide +kernel
theorem dX10_allPurses_13 : decode cX10_allPurses 13 = .ok (.aload_n 0, 1) := by decide +kernel
theorem dX10_allPurses_14 : decode cX10_allPurses 14 = .ok (.getfield 24, 3) := by decide +kernel
theorem dX10_allPurses_17 : decode cX10_allPurses 17 = .ok (.getfield 45, 3) := by decide +kernel
theorem dX10_allPurses_20 : decode cX10_allPurses 20 = .ok (.iload_n 3, 1) := by decide +kernel
theorem dX10_allPurses_21 : decode cX10_allPurses 21 = .ok (.iaload, 1) := by decide +kernel
theorem dX10_allPurses_22 : decode cX10_allPurses 22 = .ok (.i2l, 1) := by decide +kernel
theorem dX10_allPurses_23 : decode cX10_allPurses 23 = .ok (.ladd, 1) := by decide +kernel
theorem dX10_allPurses_24 : decode cX10_allPurses 24 = .ok (.lstore_n 1, 1) := by decide +kernel
theorem dX10_allPurses_25 : decode cX10_allPurses 25 = .ok (.iinc 3 1, 3) := by decide +kernel
theorem dX10_allPurses_28 : decode cX10_allPurses 28 = .ok (.goto (-24), 3) := by decide +kernel
set_option maxHeartbeats 4000000 in
set_option maxRecDepth 100000 in
/-- sx_allPurses -/
theorem sx_allPurses (l : Launch) (dC : Nat → ClassId) (dI : Nat → Nat → Nat) (cs : Nat → ClassId) (ad : Nat → Nat) (mu : Nat → Nat → Int32) (ok : okR loX hiX mu) (H : Heap) (hP : va_P (dC, dI) vwCl (wR 157 ad (EX cs ad) mu) H) : Met l yX10_allPurses (wU yX10_allPurses cX10_allPurses 4 (some .long)) ({ frames := 0, cells := 0, slots := 0, locals := 0 }) (va_Pc [.ref (ad 4)] (sz_P (dC, dI) vwCl (tyW cs) H)) (va_Ql (fun (z : Int64) (_ : Unit) => True) (fun _ t => t.heap = H) (fun _ => False)) 0 0 (fun _ => False) := by
  refine Met.ofW (cc := cX10_allPurses) (maxL := 4) (ret := (some .long)) (by decide) rfl ?_
  intro p e s m args below meth c s₁ B hml hv
  obtain ⟨rfl, hh, hK, hz⟩ := hv
  have hx := B.exec
  have hb := B.bytes
  have hr := B.returns
  have hts := atoms_spec (ws := (wU yX10_allPurses cX10_allPurses 4 (some .long))) B.pre
  have hown : s.vm.findClass RX10 = some m.cls := findClass_of_methodNamed B.named
  have hlocks := B.notSynchronized
  subst hh
  have hS : va_S (fun _ => False) s.heap s.heap [] := va_S.rf
  have hl := lv_entry ([.ref (ad 4)]) (n := 4) (Nat.le_of_ble_eq_true rfl)
  rw [lg_entry_eq]
  generalize (lg_sl ([.ref (ad 4)]) ++ List.replicate (4 - (lg_sl ([.ref (ad 4)])).length) Slot.unset).toArray = ls at hl ⊢
  have hl : lv_has ls 4 [(0, .ref (ad 4))] := hl
  refine lv_lconst (v := 0) hx hb dX10_allPurses_0 (by decide) ?_
  refine lv_lstore_n (lv' := [(1, .long 0), (0, .ref (ad 4))]) hx hb dX10_allPurses_1 rfl hl (by decide) rfl (fun ls hl => ?_)
  refine lv_iconst (v := 0) hx hb dX10_allPurses_2 (by decide) ?_
  refine lv_istore_n (lv' := [(3, .int 0), (1, .long 0), (0, .ref (ad 4))]) hx hb dX10_allPurses_3 rfl hl (by decide) rfl (fun ls hl => ?_)
  have loop4 : ∀ (n4 : Nat) (v1_4 : Int64) (v3_4 : Int32) (locs : List Loc) (ls : Array Slot), (7 + 1 - v3_4.toInt).toNat < n4 → (0 ≤ v3_4.toInt ∧ v3_4.toInt ≤ 7) → va_S (fun _ => False) s.heap s.heap locs → lv_has ls 4 [(3, .int v3_4), (1, .long v1_4), (0, .ref (ad 4))] → W p l e (headSpec (wU yX10_allPurses cX10_allPurses 4 (some .long)) ({ frames := 0, cells := 0, slots := 0, locals := 0 })).room s m ([.ref (ad 4)] : List Value).toArray below meth c s.heap locs 0 0 (MQ below (va_Ql (fun (z : Int64) (_ : Unit) => True) (fun _ t => t.heap = s.heap) (fun _ => False)) ([.ref (ad 4)] : List Value).toArray s 0 0 (fun _ => False)) (F0 m 4 ls []) := by
    intro n4
    induction n4 with
    | zero => intro v1_4 v3_4 locs ls hm; exact absurd hm (Nat.not_lt_zero _)
    | succ n4 ih4 =>
      intro v1_4 v3_4 locs ls hm h_v3_4 hS hl
      refine lv_iload_n hx hb dX10_allPurses_4 rfl (lv_at hl 0 rfl) ?_
      refine lv_aload_n hx hb dX10_allPurses_5 rfl (lv_at hl 2 rfl) ?_
      refine va_get (D := (dC, dI)) (ci := 10) (v := .int (mu 4 6)) (C := RX10) (T := TX10) (N := 8) hx hb hts (fun w h => List.mem_cons_of_mem _ (inG10 w h)) hown hK hP 4 (gX_4 cs ad mu) rfl 6 (by decide) (hts (.fieldLink RX10 34 "DearLetters$Town" "bearers" "I") (List.mem_cons_of_mem _ (lg_at 1 160 (by decide +kernel) rfl))) (fun _ h9 => h9) rfl dX10_allPurses_6 ?_
      refine lv_topi (fun y1 ey1 => ?_)
      have by1 : y1.toInt = (mu 4 6).toInt := congrArg Int32.toInt ey1
      have gy1 : 0 ≤ y1.toInt ∧ y1.toInt ≤ 7 := by rw [ey1]; exact ok 4 6
      refine lv_icmp_ge (tgt := 31) hx hb dX10_allPurses_9 (by decide) (fun c_2 => ?_) (fun c_2 => ?_)
      · have c_2 : y1.toInt ≤ v3_4.toInt := il_le c_2
        refine lv_lload_n hx hb dX10_allPurses_31 rfl (lv_at hl 1 rfl) ?_
        exact W.lret (v := v1_4) hx hb hr (fun t ht hW => ⟨⟨v1_4, (), rfl, trivial, ht⟩, hS.F ht⟩) hS.2.2 dX10_allPurses_32
      · have c_2 : v3_4.toInt < y1.toInt := il_nle c_2
        refine lv_lload_n hx hb dX10_allPurses_12 rfl (lv_at hl 1 rfl) ?_
        refine lv_aload_n hx hb dX10_allPurses_13 rfl (lv_at hl 2 rfl) ?_
        refine va_get (D := (dC, dI)) (ci := 10) (v := .ref (ad 5)) (C := RX10) (T := TX10) (N := 8) hx hb hts (fun w h => List.mem_cons_of_mem _ (inG10 w h)) hown hK hP 4 (gX_4 cs ad mu) rfl 3 (by decide) (hts (.fieldLink RX10 24 "DearLetters$Town" "now" "LDearLetters$Standing;") (List.mem_cons_of_mem _ (lg_at 1 152 (by decide +kernel) rfl))) (fun _ h9 => h9) rfl dX10_allPurses_14 ?_
        refine va_get (D := (dC, dI)) (ci := 8) (v := .ref (ad 46)) (C := RX8) (T := TX8) (N := 6) hx hb hts (fun w h => List.mem_cons_of_mem _ (inG8 w h)) hown hK hP 5 (gX_5 cs ad mu) rfl 0 (by decide) (hts (.fieldLink RX10 45 "DearLetters$Standing" "purses" "[I") (List.mem_cons_of_mem _ (lg_at 1 106 (by decide +kernel) rfl))) (fun _ h9 => h9) rfl dX10_allPurses_17 ?_
        refine lv_iload_n hx hb dX10_allPurses_20 rfl (lv_at hl 0 rfl) ?_
        refine va_iald hx hb hK hP 46 0 (gX_46 cs ad mu) rfl (show vp_in v3_4 7 from vi_of (by omega) (by omega)) dX10_allPurses_21 ?_
        refine lv_topi (fun y3 ey3 => ?_)
        have by3 : y3.toInt = (mu 46 v3_4.toNatClampNeg).toInt := congrArg Int32.toInt ey3
        refine lv_i2l hx hb dX10_allPurses_22 rfl ?_
        refine lv_topl (fun l4 el4 => ?_)
        refine lv_ladd hx hb dX10_allPurses_23 ?_
        refine lv_topl (fun l5 el5 => ?_)
        refine lv_lstore_n (lv' := [(1, .long l5), (3, .int v3_4), (0, .ref (ad 4))]) hx hb dX10_allPurses_24 rfl hl (by decide) rfl (fun ls hl => ?_)
        refine lv_iinc (v := (v3_4 + 1)) (lv' := [(3, .int (v3_4 + 1)), (1, .long l5), (0, .ref (ad 4))]) hx hb dX10_allPurses_25 hl (k := 1) rfl rfl (by decide) rfl (fun ls hl => ?_)
        have a6 : (v3_4 + 1).toInt = v3_4.toInt + 1 := tI_add (rfl : v3_4.toInt = _) (rfl : (1 : Int32).toInt = 1) (by omega) (by omega)
        refine lv_goto (tgt := 4) hx hb dX10_allPurses_28 (by decide) ?_
        exact ih4 (l5) ((v3_4 + 1))  _ _ (by omega) (by exact ⟨by omega, by omega⟩)  hS (lv_sub hl [0, 1, 2] rfl)
  exact loop4 ((7 + 1 - (0 : Int32).toInt).toNat + 1) (0) (0)  _ _ (Nat.lt_succ_self _) (by have h8 : (0 : Int32).toInt = 0 := rfl; exact ⟨by omega, by omega⟩)  hS hl
theorem dX10_unreadWith_0 : decode cX10_unreadWith 0 = .ok (.iconst 0, 1) := by decide +kernel
theorem dX10_unreadWith_1 : decode cX10_unreadWith 1 = .ok (.istore_n 2, 1) := by decide +kernel
theorem dX10_unreadWith_2 : decode cX10_unreadWith 2 = .ok (.iconst 0, 1) := by decide +kernel
theorem dX10_unreadWith_3 : decode cX10_unreadWith 3 = .ok (.istore_n 3, 1) := by decide +kernel
theorem dX10_unreadWith_4 : decode cX10_unreadWith 4 = .ok (.iload_n 3, 1) := by decide +kernel
theorem dX10_unreadWith_5 : decode cX10_unreadWith 5 = .ok (.aload_n 0, 1) := by decide +kernel
theorem dX10_unreadWith_6 : decode cX10_unreadWith 6 = .ok (.getfield 24, 3) := by decide +kernel
theorem dX10_unreadWith_9 : decode cX10_unreadWith 9 = .ok (.getfield 64, 3) := by decide +kernel
theorem dX10_unreadWith_12 : decode cX10_unreadWith 12 = .ok (.if_icmp .ge 48, 3) := by decide +kernel
theorem dX10_unreadWith_60 : decode cX10_unreadWith 60 = .ok (.iload_n 2, 1) := by decide +kernel
theorem dX10_unreadWith_61 : decode cX10_unreadWith 61 = .ok (.ireturn, 1) := by decide +kernel
theorem dX10_unreadWith_15 : decode cX10_unreadWith 15 = .ok (.iload_n 2, 1) := by decide +kernel
theorem dX10_unreadWith_16 : decode cX10_unreadWith 16 = .ok (.aload_n 0, 1) := by decide +kernel
theorem dX10_unreadWith_17 : decode cX10_unreadWith 17 = .ok (.getfield 24, 3) := by decide +kernel
theorem dX10_unreadWith_20 : decode cX10_unreadWith 20 = .ok (.getfield 67, 3) := by decide +kernel
theorem dX10_unreadWith_23 : decode cX10_unreadWith 23 = .ok (.iload_n 3, 1) := by decide +kernel
theorem dX10_unreadWith_24 : decode cX10_unreadWith 24 = .ok (.aaload, 1) := by decide +kernel
theorem dX10_unreadWith_25 : decode cX10_unreadWith 25 = .ok (.getfield 71, 3) := by decide +kernel
theorem dX10_unreadWith_28 : decode cX10_unreadWith 28 = .ok (.iload_n 1, 1) := by decide +kernel
theorem dX10_unreadWith_29 : decode cX10_unreadWith 29 = .ok (.if_icmp .ne 22, 3) := by decide +kernel
theorem dX10_unreadWith_51 : decode cX10_unreadWith 51 = .ok (.iconst 0, 1) := by decide +kernel
theorem dX10_unreadWith_52 : decode cX10_unreadWith 52 = .ok (.iadd, 1) := by decide +kernel
theorem dX10_unreadWith_53 : decode cX10_unreadWith 53 = .ok (.istore_n 2, 1) := by decide +kernel
theorem dX10_unreadWith_54 : decode cX10_unreadWith 54 = .ok (.iinc 3 1, 3) := by decide +kernel
theorem dX10_unreadWith_57 : decode cX10_unreadWith 57 = .ok (.goto (-53), 3) := by decide +kernel
theorem dX10_unreadWith_32 : decode cX10_unreadWith 32 = .ok (.aload_n 0, 1) := by decide +kernel
theorem dX10_unreadWith_33 : decode cX10_unreadWith 33 = .ok (.getfield 24, 3) := by decide +kernel
theorem dX10_unreadWith_36 : decode cX10_unreadWith 36 = .ok (.getfield 67, 3) := by decide +kernel
theorem dX10_unreadWith_39 : decode cX10_unreadWith 39 = .ok (.iload_n 3, 1) := by decide +kernel
theorem dX10_unreadWith_40 : decode cX10_unreadWith 40 = .ok (.aaload, 1) := by decide +kernel
theorem dX10_unreadWith_41 : decode cX10_unreadWith 41 = .ok (.getfield 76, 3) := by decide +kernel
theorem dX10_unreadWith_44 : decode cX10_unreadWith 44 = .ok (.ifCond .ne 7, 3) := by decide +kernel
theorem dX10_unreadWith_47 : decode cX10_unreadWith 47 = .ok (.iconst 1, 1) := by decide +kernel
theorem dX10_unreadWith_48 : decode cX10_unreadWith 48 = .ok (.goto 4, 3) := by decide +kernel
set_option maxHeartbeats 4000000 in
set_option maxRecDepth 100000 in
/-- sx_unreadWith -/
theorem sx_unreadWith (l : Launch) (dC : Nat → ClassId) (dI : Nat → Nat → Nat) (cs : Nat → ClassId) (ad : Nat → Nat) (mu : Nat → Nat → Int32) (ok : okR loX hiX mu) (H : Heap) (hP : va_P (dC, dI) vwCl (wR 157 ad (EX cs ad) mu) H) (vx : Int32) : Met l yX10_unreadWith (wU yX10_unreadWith cX10_unreadWith 4 (some .int)) ({ frames := 0, cells := 0, slots := 0, locals := 0 }) (va_Pc [.ref (ad 4), .int vx] (sz_P (dC, dI) vwCl (tyW cs) H)) (va_Qi (fun (z : Int32) (_ : Unit) => True) (fun _ t => t.heap = H) (fun _ => False)) 0 0 (fun _ => False) := by
  refine Met.ofW (cc := cX10_unreadWith) (maxL := 4) (ret := (some .int)) (by decide) rfl ?_
  intro p e s m args below meth c s₁ B hml hv
  obtain ⟨rfl, hh, hK, hz⟩ := hv
  have hx := B.exec
  have hb := B.bytes
  have hr := B.returns
  have hts := atoms_spec (ws := (wU yX10_unreadWith cX10_unreadWith 4 (some .int))) B.pre
  have hown : s.vm.findClass RX10 = some m.cls := findClass_of_methodNamed B.named
  have hlocks := B.notSynchronized
  subst hh
  have hS : va_S (fun _ => False) s.heap s.heap [] := va_S.rf
  have hl := lv_entry ([.ref (ad 4), .int vx]) (n := 4) (Nat.le_of_ble_eq_true rfl)
  rw [lg_entry_eq]
  generalize (lg_sl ([.ref (ad 4), .int vx]) ++ List.replicate (4 - (lg_sl ([.ref (ad 4), .int vx])).length) Slot.unset).toArray = ls at hl ⊢
  have hl : lv_has ls 4 [(0, .ref (ad 4)), (1, .int vx)] := hl
  refine lv_iconst (v := 0) hx hb dX10_unreadWith_0 (by decide) ?_
  refine lv_istore_n (lv' := [(2, .int 0), (0, .ref (ad 4)), (1, .int vx)]) hx hb dX10_unreadWith_1 rfl hl (by decide) rfl (fun ls hl => ?_)
  refine lv_iconst (v := 0) hx hb dX10_unreadWith_2 (by decide) ?_
  refine lv_istore_n (lv' := [(3, .int 0), (2, .int 0), (0, .ref (ad 4)), (1, .int vx)]) hx hb dX10_unreadWith_3 rfl hl (by decide) rfl (fun ls hl => ?_)
  have loop4 : ∀ (n4 : Nat) (v2_4 : Int32) (v3_4 : Int32) (locs : List Loc) (ls : Array Slot), (4 + 1 - v3_4.toInt).toNat < n4 → (0 ≤ v3_4.toInt ∧ v3_4.toInt ≤ 4) → va_S (fun _ => False) s.heap s.heap locs → lv_has ls 4 [(3, .int v3_4), (2, .int v2_4), (0, .ref (ad 4)), (1, .int vx)] → W p l e (headSpec (wU yX10_unreadWith cX10_unreadWith 4 (some .int)) ({ frames := 0, cells := 0, slots := 0, locals := 0 })).room s m ([.ref (ad 4), .int vx] : List Value).toArray below meth c s.heap locs 0 0 (MQ below (va_Qi (fun (z : Int32) (_ : Unit) => True) (fun _ t => t.heap = s.heap) (fun _ => False)) ([.ref (ad 4), .int vx] : List Value).toArray s 0 0 (fun _ => False)) (F0 m 4 ls []) := by
    intro n4
    induction n4 with
    | zero => intro v2_4 v3_4 locs ls hm; exact absurd hm (Nat.not_lt_zero _)
    | succ n4 ih4 =>
      intro v2_4 v3_4 locs ls hm h_v3_4 hS hl
      refine lv_iload_n hx hb dX10_unreadWith_4 rfl (lv_at hl 0 rfl) ?_
      refine lv_aload_n hx hb dX10_unreadWith_5 rfl (lv_at hl 2 rfl) ?_
      refine va_get (D := (dC, dI)) (ci := 10) (v := .ref (ad 5)) (C := RX10) (T := TX10) (N := 8) hx hb hts (fun w h => List.mem_cons_of_mem _ (inG10 w h)) hown hK hP 4 (gX_4 cs ad mu) rfl 3 (by decide) (hts (.fieldLink RX10 24 "DearLetters$Town" "now" "LDearLetters$Standing;") (List.mem_cons_of_mem _ (lg_at 1 152 (by decide +kernel) rfl))) (fun _ h9 => h9) rfl dX10_unreadWith_6 ?_
      refine va_get (D := (dC, dI)) (ci := 8) (v := .int (mu 5 4)) (C := RX8) (T := TX8) (N := 6) hx hb hts (fun w h => List.mem_cons_of_mem _ (inG8 w h)) hown hK hP 5 (gX_5 cs ad mu) rfl 4 (by decide) (hts (.fieldLink RX10 64 "DearLetters$Standing" "sent" "I") (List.mem_cons_of_mem _ (lg_at 1 126 (by decide +kernel) rfl))) (fun _ h9 => h9) rfl dX10_unreadWith_9 ?_
      refine lv_topi (fun y1 ey1 => ?_)
      have by1 : y1.toInt = (mu 5 4).toInt := congrArg Int32.toInt ey1
      have gy1 : 0 ≤ y1.toInt ∧ y1.toInt ≤ 4 := by rw [ey1]; exact ok 5 4
      refine lv_icmp_ge (tgt := 60) hx hb dX10_unreadWith_12 (by decide) (fun c_2 => ?_) (fun c_2 => ?_)
      · have c_2 : y1.toInt ≤ v3_4.toInt := il_le c_2
        refine lv_iload_n hx hb dX10_unreadWith_60 rfl (lv_at hl 1 rfl) ?_
        exact W.iret (v := v2_4) hx hb hr (fun t ht hW => ⟨⟨v2_4, (), rfl, trivial, ht⟩, hS.F ht⟩) hS.2.2 dX10_unreadWith_61
      · have c_2 : v3_4.toInt < y1.toInt := il_nle c_2
        refine lv_iload_n hx hb dX10_unreadWith_15 rfl (lv_at hl 1 rfl) ?_
        refine lv_aload_n hx hb dX10_unreadWith_16 rfl (lv_at hl 2 rfl) ?_
        refine va_get (D := (dC, dI)) (ci := 10) (v := .ref (ad 5)) (C := RX10) (T := TX10) (N := 8) hx hb hts (fun w h => List.mem_cons_of_mem _ (inG10 w h)) hown hK hP 4 (gX_4 cs ad mu) rfl 3 (by decide) (hts (.fieldLink RX10 24 "DearLetters$Town" "now" "LDearLetters$Standing;") (List.mem_cons_of_mem _ (lg_at 1 152 (by decide +kernel) rfl))) (fun _ h9 => h9) rfl dX10_unreadWith_17 ?_
        refine va_get (D := (dC, dI)) (ci := 8) (v := .ref (ad 47)) (C := RX8) (T := TX8) (N := 6) hx hb hts (fun w h => List.mem_cons_of_mem _ (inG8 w h)) hown hK hP 5 (gX_5 cs ad mu) rfl 1 (by decide) (hts (.fieldLink RX10 67 "DearLetters$Standing" "letters" "[LDearLetters$Letter;") (List.mem_cons_of_mem _ (lg_at 1 111 (by decide +kernel) rfl))) (fun _ h9 => h9) rfl dX10_unreadWith_20 ?_
        refine lv_iload_n hx hb dX10_unreadWith_23 rfl (lv_at hl 0 rfl) ?_
        refine va_aldq hx hb hK hP 47 5 (gX_47 cs ad mu) rfl (show vp_in v3_4 4 from vi_of (by omega) (by omega)) dX10_unreadWith_24 ?_
        have hv3_4_c := tC_of (v := v3_4) (by omega)
        refine lq_v (.ref (ad (61 + v3_4.toNatClampNeg))) rfl ?_
        refine va_get (D := (dC, dI)) (ci := 3) (v := .int (mu (61 + v3_4.toNatClampNeg) 5)) (C := RX3) (T := TX3) (N := 10) hx hb hts (fun w h => List.mem_cons_of_mem _ (inG3 w h)) hown hK hP (61 + v3_4.toNatClampNeg) (gX_letter cs ad mu (61 + v3_4.toNatClampNeg) (by omega) (by omega)) rfl 5 (by decide) (hts (.fieldLink RX10 71 "DearLetters$Letter" "holder" "I") (List.mem_cons_of_mem _ (lg_at 1 64 (by decide +kernel) rfl))) (fun _ h9 => h9) rfl dX10_unreadWith_25 ?_
        refine lv_topi (fun y3 ey3 => ?_)
        have by3 : y3.toInt = (mu (61 + v3_4.toNatClampNeg) 5).toInt := congrArg Int32.toInt ey3
        have gy3 : 0 ≤ y3.toInt ∧ y3.toInt ≤ 6 := by rw [ey3]; have h9 := ok (61 + v3_4.toNatClampNeg) 5; unfold loX hiX at h9; simp (discharger := omega) only [if_pos, if_neg, and_true, true_and] at h9; exact h9
        refine lv_iload_n hx hb dX10_unreadWith_28 rfl (lv_at hl 3 rfl) ?_
        refine lv_icmp_ne (tgt := 51) hx hb dX10_unreadWith_29 (by decide) (fun c_4 => ?_) (fun c_4 => ?_)
        · have c_4 : ¬ y3.toInt = vx.toInt := il_ne c_4
          refine lv_iconst (v := 0) hx hb dX10_unreadWith_51 (by decide) ?_
          refine lv_iadd hx hb dX10_unreadWith_52 ?_
          refine lv_topi (fun t5 et5 => ?_)
          have at5 : t5.toInt = v2_4.toInt + 0 := by rw [et5]; exact tI_add (rfl : v2_4.toInt = _) (rfl : (0 : Int32).toInt = 0) (by omega) (by omega)
          refine lv_istore_n (lv' := [(2, .int t5), (3, .int v3_4), (0, .ref (ad 4)), (1, .int vx)]) hx hb dX10_unreadWith_53 rfl hl (by decide) rfl (fun ls hl => ?_)
          refine lv_iinc (v := (v3_4 + 1)) (lv' := [(3, .int (v3_4 + 1)), (2, .int t5), (0, .ref (ad 4)), (1, .int vx)]) hx hb dX10_unreadWith_54 hl (k := 1) rfl rfl (by decide) rfl (fun ls hl => ?_)
          have a6 : (v3_4 + 1).toInt = v3_4.toInt + 1 := tI_add (rfl : v3_4.toInt = _) (rfl : (1 : Int32).toInt = 1) (by omega) (by omega)
          refine lv_goto (tgt := 4) hx hb dX10_unreadWith_57 (by decide) ?_
          exact ih4 (t5) ((v3_4 + 1))  _ _ (by omega) (by exact ⟨by omega, by omega⟩)  hS (lv_sub hl [0, 1, 2, 3] rfl)
        · have c_4 : y3.toInt = vx.toInt := il_eq c_4
          refine lv_aload_n hx hb dX10_unreadWith_32 rfl (lv_at hl 2 rfl) ?_
          refine va_get (D := (dC, dI)) (ci := 10) (v := .ref (ad 5)) (C := RX10) (T := TX10) (N := 8) hx hb hts (fun w h => List.mem_cons_of_mem _ (inG10 w h)) hown hK hP 4 (gX_4 cs ad mu) rfl 3 (by decide) (hts (.fieldLink RX10 24 "DearLetters$Town" "now" "LDearLetters$Standing;") (List.mem_cons_of_mem _ (lg_at 1 152 (by decide +kernel) rfl))) (fun _ h9 => h9) rfl dX10_unreadWith_33 ?_
          refine va_get (D := (dC, dI)) (ci := 8) (v := .ref (ad 47)) (C := RX8) (T := TX8) (N := 6) hx hb hts (fun w h => List.mem_cons_of_mem _ (inG8 w h)) hown hK hP 5 (gX_5 cs ad mu) rfl 1 (by decide) (hts (.fieldLink RX10 67 "DearLetters$Standing" "letters" "[LDearLetters$Letter;") (List.mem_cons_of_mem _ (lg_at 1 111 (by decide +kernel) rfl))) (fun _ h9 => h9) rfl dX10_unreadWith_36 ?_
          refine lv_iload_n hx hb dX10_unreadWith_39 rfl (lv_at hl 0 rfl) ?_
          refine va_aldq hx hb hK hP 47 5 (gX_47 cs ad mu) rfl (show vp_in v3_4 4 from vi_of (by omega) (by omega)) dX10_unreadWith_40 ?_
          have hv3_4_c := tC_of (v := v3_4) (by omega)
          refine lq_v (.ref (ad (61 + v3_4.toNatClampNeg))) rfl ?_
          refine va_get (D := (dC, dI)) (ci := 3) (v := .int (mu (61 + v3_4.toNatClampNeg) 9)) (C := RX3) (T := TX3) (N := 10) hx hb hts (fun w h => List.mem_cons_of_mem _ (inG3 w h)) hown hK hP (61 + v3_4.toNatClampNeg) (gX_letter cs ad mu (61 + v3_4.toNatClampNeg) (by omega) (by omega)) rfl 9 (by decide) (hts (.fieldLink RX10 76 "DearLetters$Letter" "isRead" "Z") (List.mem_cons_of_mem _ (lg_at 1 79 (by decide +kernel) rfl))) (fun _ h9 => h9) rfl dX10_unreadWith_41 ?_
          refine lv_topi (fun y7 ey7 => ?_)
          have by7 : y7.toInt = (mu (61 + v3_4.toNatClampNeg) 9).toInt := congrArg Int32.toInt ey7
          have gy7 : 0 ≤ y7.toInt ∧ y7.toInt ≤ 1 := by rw [ey7]; have h9 := ok (61 + v3_4.toNatClampNeg) 9; unfold loX hiX at h9; simp (discharger := omega) only [if_pos, if_neg, and_true, true_and] at h9; exact h9
          refine lv_if_ne (tgt := 51) hx hb dX10_unreadWith_44 (by decide) (fun c_8 => ?_) (fun c_8 => ?_)
          · have c_8 : ¬ y7.toInt = 0 := il_ne c_8
            refine lv_iconst (v := 0) hx hb dX10_unreadWith_51 (by decide) ?_
            refine lv_iadd hx hb dX10_unreadWith_52 ?_
            refine lv_topi (fun t9 et9 => ?_)
            have at9 : t9.toInt = v2_4.toInt + 0 := by rw [et9]; exact tI_add (rfl : v2_4.toInt = _) (rfl : (0 : Int32).toInt = 0) (by omega) (by omega)
            refine lv_istore_n (lv' := [(2, .int t9), (3, .int v3_4), (0, .ref (ad 4)), (1, .int vx)]) hx hb dX10_unreadWith_53 rfl hl (by decide) rfl (fun ls hl => ?_)
            refine lv_iinc (v := (v3_4 + 1)) (lv' := [(3, .int (v3_4 + 1)), (2, .int t9), (0, .ref (ad 4)), (1, .int vx)]) hx hb dX10_unreadWith_54 hl (k := 1) rfl rfl (by decide) rfl (fun ls hl => ?_)
            have a10 : (v3_4 + 1).toInt = v3_4.toInt + 1 := tI_add (rfl : v3_4.toInt = _) (rfl : (1 : Int32).toInt = 1) (by omega) (by omega)
            refine lv_goto (tgt := 4) hx hb dX10_unreadWith_57 (by decide) ?_
            exact ih4 (t9) ((v3_4 + 1))  _ _ (by omega) (by exact ⟨by omega, by omega⟩)  hS (lv_sub hl [0, 1, 2, 3] rfl)
          · have c_8 : y7.toInt = 0 := il_eq c_8
            refine lv_iconst (v := 1) hx hb dX10_unreadWith_47 (by decide) ?_
            refine lv_goto (tgt := 52) hx hb dX10_unreadWith_48 (by decide) ?_
            refine lv_iadd hx hb dX10_unreadWith_52 ?_
            refine lv_topi (fun t11 et11 => ?_)
            refine lv_istore_n (lv' := [(2, .int t11), (3, .int v3_4), (0, .ref (ad 4)), (1, .int vx)]) hx hb dX10_unreadWith_53 rfl hl (by decide) rfl (fun ls hl => ?_)
            refine lv_iinc (v := (v3_4 + 1)) (lv' := [(3, .int (v3_4 + 1)), (2, .int t11), (0, .ref (ad 4)), (1, .int vx)]) hx hb dX10_unreadWith_54 hl (k := 1) rfl rfl (by decide) rfl (fun ls hl => ?_)
            have a12 : (v3_4 + 1).toInt = v3_4.toInt + 1 := tI_add (rfl : v3_4.toInt = _) (rfl : (1 : Int32).toInt = 1) (by omega) (by omega)
            refine lv_goto (tgt := 4) hx hb dX10_unreadWith_57 (by decide) ?_
            exact ih4 (t11) ((v3_4 + 1))  _ _ (by omega) (by exact ⟨by omega, by omega⟩)  hS (lv_sub hl [0, 1, 2, 3] rfl)
  exact loop4 ((4 + 1 - (0 : Int32).toInt).toNat + 1) (0) (0)  _ _ (Nat.lt_succ_self _) (by have h8 : (0 : Int32).toInt = 0 := rfl; exact ⟨by omega, by omega⟩)  hS hl
theorem dX10_unreadTo_0 : decode cX10_unreadTo 0 = .ok (.iconst 0, 1) := by decide +kernel
theorem dX10_unreadTo_1 : decode cX10_unreadTo 1 = .ok (.istore_n 2, 1) := by decide +kernel
theorem dX10_unreadTo_2 : decode cX10_unreadTo 2 = .ok (.iconst 0, 1) := by decide +kernel
theorem dX10_unreadTo_3 : decode cX10_unreadTo 3 = .ok (.istore_n 3, 1) := by decide +kernel
theorem dX10_unreadTo_4 : decode cX10_unreadTo 4 = .ok (.iload_n 3, 1) := by decide +kernel
theorem dX10_unreadTo_5 : decode cX10_unreadTo 5 = .ok (.aload_n 0, 1) := by decide +kernel
theorem dX10_unreadTo_6 : decode cX10_unreadTo 6 = .ok (.getfield 24, 3) := by decide +kernel
theorem dX10_unreadTo_9 : decode cX10_unreadTo 9 = .ok (.getfield 64, 3) := by decide +kernel
theorem dX10_unreadTo_12 : decode cX10_unreadTo 12 = .ok (.if_icmp .ge 48, 3) := by decide +kernel
theorem dX10_unreadTo_60 : decode cX10_unreadTo 60 = .ok (.iload_n 2, 1) := by decide +kernel
theorem dX10_unreadTo_61 : decode cX10_unreadTo 61 = .ok (.ireturn, 1) := by decide +kernel
theorem dX10_unreadTo_15 : decode cX10_unreadTo 15 = .ok (.iload_n 2, 1) := by decide +kernel
theorem dX10_unreadTo_16 : decode cX10_unreadTo 16 = .ok (.aload_n 0, 1) := by decide +kernel
theorem dX10_unreadTo_17 : decode cX10_unreadTo 17 = .ok (.getfield 24, 3) := by decide +kernel
theorem dX10_unreadTo_20 : decode cX10_unreadTo 20 = .ok (.getfield 67, 3) := by decide +kernel
theorem dX10_unreadTo_23 : decode cX10_unreadTo 23 = .ok (.iload_n 3, 1) := by decide +kernel
theorem dX10_unreadTo_24 : decode cX10_unreadTo 24 = .ok (.aaload, 1) := by decide +kernel
theorem dX10_unreadTo_25 : decode cX10_unreadTo 25 = .ok (.getfield 80, 3) := by decide +kernel
theorem dX10_unreadTo_28 : decode cX10_unreadTo 28 = .ok (.iload_n 1, 1) := by decide +kernel
theorem dX10_unreadTo_29 : decode cX10_unreadTo 29 = .ok (.if_icmp .ne 22, 3) := by decide +kernel
theorem dX10_unreadTo_51 : decode cX10_unreadTo 51 = .ok (.iconst 0, 1) := by decide +kernel
theorem dX10_unreadTo_52 : decode cX10_unreadTo 52 = .ok (.iadd, 1) := by decide +kernel
theorem dX10_unreadTo_53 : decode cX10_unreadTo 53 = .ok (.istore_n 2, 1) := by decide +kernel
theorem dX10_unreadTo_54 : decode cX10_unreadTo 54 = .ok (.iinc 3 1, 3) := by decide +kernel
theorem dX10_unreadTo_57 : decode cX10_unreadTo 57 = .ok (.goto (-53), 3) := by decide +kernel
theorem dX10_unreadTo_32 : decode cX10_unreadTo 32 = .ok (.aload_n 0, 1) := by decide +kernel
theorem dX10_unreadTo_33 : decode cX10_unreadTo 33 = .ok (.getfield 24, 3) := by decide +kernel
theorem dX10_unreadTo_36 : decode cX10_unreadTo 36 = .ok (.getfield 67, 3) := by decide +kernel
theorem dX10_unreadTo_39 : decode cX10_unreadTo 39 = .ok (.iload_n 3, 1) := by decide +kernel
theorem dX10_unreadTo_40 : decode cX10_unreadTo 40 = .ok (.aaload, 1) := by decide +kernel
theorem dX10_unreadTo_41 : decode cX10_unreadTo 41 = .ok (.getfield 76, 3) := by decide +kernel
theorem dX10_unreadTo_44 : decode cX10_unreadTo 44 = .ok (.ifCond .ne 7, 3) := by decide +kernel
theorem dX10_unreadTo_47 : decode cX10_unreadTo 47 = .ok (.iconst 1, 1) := by decide +kernel
theorem dX10_unreadTo_48 : decode cX10_unreadTo 48 = .ok (.goto 4, 3) := by decide +kernel
set_option maxHeartbeats 4000000 in
set_option maxRecDepth 100000 in
/-- sx_unreadTo -/
theorem sx_unreadTo (l : Launch) (dC : Nat → ClassId) (dI : Nat → Nat → Nat) (cs : Nat → ClassId) (ad : Nat → Nat) (mu : Nat → Nat → Int32) (ok : okR loX hiX mu) (H : Heap) (hP : va_P (dC, dI) vwCl (wR 157 ad (EX cs ad) mu) H) (vx : Int32) : Met l yX10_unreadTo (wU yX10_unreadTo cX10_unreadTo 4 (some .int)) ({ frames := 0, cells := 0, slots := 0, locals := 0 }) (va_Pc [.ref (ad 4), .int vx] (sz_P (dC, dI) vwCl (tyW cs) H)) (va_Qi (fun (z : Int32) (_ : Unit) => True) (fun _ t => t.heap = H) (fun _ => False)) 0 0 (fun _ => False) := by
  refine Met.ofW (cc := cX10_unreadTo) (maxL := 4) (ret := (some .int)) (by decide) rfl ?_
  intro p e s m args below meth c s₁ B hml hv
  obtain ⟨rfl, hh, hK, hz⟩ := hv
  have hx := B.exec
  have hb := B.bytes
  have hr := B.returns
  have hts := atoms_spec (ws := (wU yX10_unreadTo cX10_unreadTo 4 (some .int))) B.pre
  have hown : s.vm.findClass RX10 = some m.cls := findClass_of_methodNamed B.named
  have hlocks := B.notSynchronized
  subst hh
  have hS : va_S (fun _ => False) s.heap s.heap [] := va_S.rf
  have hl := lv_entry ([.ref (ad 4), .int vx]) (n := 4) (Nat.le_of_ble_eq_true rfl)
  rw [lg_entry_eq]
  generalize (lg_sl ([.ref (ad 4), .int vx]) ++ List.replicate (4 - (lg_sl ([.ref (ad 4), .int vx])).length) Slot.unset).toArray = ls at hl ⊢
  have hl : lv_has ls 4 [(0, .ref (ad 4)), (1, .int vx)] := hl
  refine lv_iconst (v := 0) hx hb dX10_unreadTo_0 (by decide) ?_
  refine lv_istore_n (lv' := [(2, .int 0), (0, .ref (ad 4)), (1, .int vx)]) hx hb dX10_unreadTo_1 rfl hl (by decide) rfl (fun ls hl => ?_)
  refine lv_iconst (v := 0) hx hb dX10_unreadTo_2 (by decide) ?_
  refine lv_istore_n (lv' := [(3, .int 0), (2, .int 0), (0, .ref (ad 4)), (1, .int vx)]) hx hb dX10_unreadTo_3 rfl hl (by decide) rfl (fun ls hl => ?_)
  have loop4 : ∀ (n4 : Nat) (v2_4 : Int32) (v3_4 : Int32) (locs : List Loc) (ls : Array Slot), (4 + 1 - v3_4.toInt).toNat < n4 → (0 ≤ v3_4.toInt ∧ v3_4.toInt ≤ 4) → va_S (fun _ => False) s.heap s.heap locs → lv_has ls 4 [(3, .int v3_4), (2, .int v2_4), (0, .ref (ad 4)), (1, .int vx)] → W p l e (headSpec (wU yX10_unreadTo cX10_unreadTo 4 (some .int)) ({ frames := 0, cells := 0, slots := 0, locals := 0 })).room s m ([.ref (ad 4), .int vx] : List Value).toArray below meth c s.heap locs 0 0 (MQ below (va_Qi (fun (z : Int32) (_ : Unit) => True) (fun _ t => t.heap = s.heap) (fun _ => False)) ([.ref (ad 4), .int vx] : List Value).toArray s 0 0 (fun _ => False)) (F0 m 4 ls []) := by
    intro n4
    induction n4 with
    | zero => intro v2_4 v3_4 locs ls hm; exact absurd hm (Nat.not_lt_zero _)
    | succ n4 ih4 =>
      intro v2_4 v3_4 locs ls hm h_v3_4 hS hl
      refine lv_iload_n hx hb dX10_unreadTo_4 rfl (lv_at hl 0 rfl) ?_
      refine lv_aload_n hx hb dX10_unreadTo_5 rfl (lv_at hl 2 rfl) ?_
      refine va_get (D := (dC, dI)) (ci := 10) (v := .ref (ad 5)) (C := RX10) (T := TX10) (N := 8) hx hb hts (fun w h => List.mem_cons_of_mem _ (inG10 w h)) hown hK hP 4 (gX_4 cs ad mu) rfl 3 (by decide) (hts (.fieldLink RX10 24 "DearLetters$Town" "now" "LDearLetters$Standing;") (List.mem_cons_of_mem _ (lg_at 1 152 (by decide +kernel) rfl))) (fun _ h9 => h9) rfl dX10_unreadTo_6 ?_
      refine va_get (D := (dC, dI)) (ci := 8) (v := .int (mu 5 4)) (C := RX8) (T := TX8) (N := 6) hx hb hts (fun w h => List.mem_cons_of_mem _ (inG8 w h)) hown hK hP 5 (gX_5 cs ad mu) rfl 4 (by decide) (hts (.fieldLink RX10 64 "DearLetters$Standing" "sent" "I") (List.mem_cons_of_mem _ (lg_at 1 126 (by decide +kernel) rfl))) (fun _ h9 => h9) rfl dX10_unreadTo_9 ?_
      refine lv_topi (fun y1 ey1 => ?_)
      have by1 : y1.toInt = (mu 5 4).toInt := congrArg Int32.toInt ey1
      have gy1 : 0 ≤ y1.toInt ∧ y1.toInt ≤ 4 := by rw [ey1]; exact ok 5 4
      refine lv_icmp_ge (tgt := 60) hx hb dX10_unreadTo_12 (by decide) (fun c_2 => ?_) (fun c_2 => ?_)
      · have c_2 : y1.toInt ≤ v3_4.toInt := il_le c_2
        refine lv_iload_n hx hb dX10_unreadTo_60 rfl (lv_at hl 1 rfl) ?_
        exact W.iret (v := v2_4) hx hb hr (fun t ht hW => ⟨⟨v2_4, (), rfl, trivial, ht⟩, hS.F ht⟩) hS.2.2 dX10_unreadTo_61
      · have c_2 : v3_4.toInt < y1.toInt := il_nle c_2
        refine lv_iload_n hx hb dX10_unreadTo_15 rfl (lv_at hl 1 rfl) ?_
        refine lv_aload_n hx hb dX10_unreadTo_16 rfl (lv_at hl 2 rfl) ?_
        refine va_get (D := (dC, dI)) (ci := 10) (v := .ref (ad 5)) (C := RX10) (T := TX10) (N := 8) hx hb hts (fun w h => List.mem_cons_of_mem _ (inG10 w h)) hown hK hP 4 (gX_4 cs ad mu) rfl 3 (by decide) (hts (.fieldLink RX10 24 "DearLetters$Town" "now" "LDearLetters$Standing;") (List.mem_cons_of_mem _ (lg_at 1 152 (by decide +kernel) rfl))) (fun _ h9 => h9) rfl dX10_unreadTo_17 ?_
        refine va_get (D := (dC, dI)) (ci := 8) (v := .ref (ad 47)) (C := RX8) (T := TX8) (N := 6) hx hb hts (fun w h => List.mem_cons_of_mem _ (inG8 w h)) hown hK hP 5 (gX_5 cs ad mu) rfl 1 (by decide) (hts (.fieldLink RX10 67 "DearLetters$Standing" "letters" "[LDearLetters$Letter;") (List.mem_cons_of_mem _ (lg_at 1 111 (by decide +kernel) rfl))) (fun _ h9 => h9) rfl dX10_unreadTo_20 ?_
        refine lv_iload_n hx hb dX10_unreadTo_23 rfl (lv_at hl 0 rfl) ?_
        refine va_aldq hx hb hK hP 47 5 (gX_47 cs ad mu) rfl (show vp_in v3_4 4 from vi_of (by omega) (by omega)) dX10_unreadTo_24 ?_
        have hv3_4_c := tC_of (v := v3_4) (by omega)
        refine lq_v (.ref (ad (61 + v3_4.toNatClampNeg))) rfl ?_
        refine va_get (D := (dC, dI)) (ci := 3) (v := .int (mu (61 + v3_4.toNatClampNeg) 1)) (C := RX3) (T := TX3) (N := 10) hx hb hts (fun w h => List.mem_cons_of_mem _ (inG3 w h)) hown hK hP (61 + v3_4.toNatClampNeg) (gX_letter cs ad mu (61 + v3_4.toNatClampNeg) (by omega) (by omega)) rfl 1 (by decide) (hts (.fieldLink RX10 80 "DearLetters$Letter" "reader" "I") (List.mem_cons_of_mem _ (lg_at 1 55 (by decide +kernel) rfl))) (fun _ h9 => h9) rfl dX10_unreadTo_25 ?_
        refine lv_topi (fun y3 ey3 => ?_)
        have by3 : y3.toInt = (mu (61 + v3_4.toNatClampNeg) 1).toInt := congrArg Int32.toInt ey3
        have gy3 : 0 ≤ y3.toInt ∧ y3.toInt ≤ 6 := by rw [ey3]; have h9 := ok (61 + v3_4.toNatClampNeg) 1; unfold loX hiX at h9; simp (discharger := omega) only [if_pos, if_neg, and_true, true_and] at h9; exact h9
        refine lv_iload_n hx hb dX10_unreadTo_28 rfl (lv_at hl 3 rfl) ?_
        refine lv_icmp_ne (tgt := 51) hx hb dX10_unreadTo_29 (by decide) (fun c_4 => ?_) (fun c_4 => ?_)
        · have c_4 : ¬ y3.toInt = vx.toInt := il_ne c_4
          refine lv_iconst (v := 0) hx hb dX10_unreadTo_51 (by decide) ?_
          refine lv_iadd hx hb dX10_unreadTo_52 ?_
          refine lv_topi (fun t5 et5 => ?_)
          have at5 : t5.toInt = v2_4.toInt + 0 := by rw [et5]; exact tI_add (rfl : v2_4.toInt = _) (rfl : (0 : Int32).toInt = 0) (by omega) (by omega)
          refine lv_istore_n (lv' := [(2, .int t5), (3, .int v3_4), (0, .ref (ad 4)), (1, .int vx)]) hx hb dX10_unreadTo_53 rfl hl (by decide) rfl (fun ls hl => ?_)
          refine lv_iinc (v := (v3_4 + 1)) (lv' := [(3, .int (v3_4 + 1)), (2, .int t5), (0, .ref (ad 4)), (1, .int vx)]) hx hb dX10_unreadTo_54 hl (k := 1) rfl rfl (by decide) rfl (fun ls hl => ?_)
          have a6 : (v3_4 + 1).toInt = v3_4.toInt + 1 := tI_add (rfl : v3_4.toInt = _) (rfl : (1 : Int32).toInt = 1) (by omega) (by omega)
          refine lv_goto (tgt := 4) hx hb dX10_unreadTo_57 (by decide) ?_
          exact ih4 (t5) ((v3_4 + 1))  _ _ (by omega) (by exact ⟨by omega, by omega⟩)  hS (lv_sub hl [0, 1, 2, 3] rfl)
        · have c_4 : y3.toInt = vx.toInt := il_eq c_4
          refine lv_aload_n hx hb dX10_unreadTo_32 rfl (lv_at hl 2 rfl) ?_
          refine va_get (D := (dC, dI)) (ci := 10) (v := .ref (ad 5)) (C := RX10) (T := TX10) (N := 8) hx hb hts (fun w h => List.mem_cons_of_mem _ (inG10 w h)) hown hK hP 4 (gX_4 cs ad mu) rfl 3 (by decide) (hts (.fieldLink RX10 24 "DearLetters$Town" "now" "LDearLetters$Standing;") (List.mem_cons_of_mem _ (lg_at 1 152 (by decide +kernel) rfl))) (fun _ h9 => h9) rfl dX10_unreadTo_33 ?_
          refine va_get (D := (dC, dI)) (ci := 8) (v := .ref (ad 47)) (C := RX8) (T := TX8) (N := 6) hx hb hts (fun w h => List.mem_cons_of_mem _ (inG8 w h)) hown hK hP 5 (gX_5 cs ad mu) rfl 1 (by decide) (hts (.fieldLink RX10 67 "DearLetters$Standing" "letters" "[LDearLetters$Letter;") (List.mem_cons_of_mem _ (lg_at 1 111 (by decide +kernel) rfl))) (fun _ h9 => h9) rfl dX10_unreadTo_36 ?_
          refine lv_iload_n hx hb dX10_unreadTo_39 rfl (lv_at hl 0 rfl) ?_
          refine va_aldq hx hb hK hP 47 5 (gX_47 cs ad mu) rfl (show vp_in v3_4 4 from vi_of (by omega) (by omega)) dX10_unreadTo_40 ?_
          have hv3_4_c := tC_of (v := v3_4) (by omega)
          refine lq_v (.ref (ad (61 + v3_4.toNatClampNeg))) rfl ?_
          refine va_get (D := (dC, dI)) (ci := 3) (v := .int (mu (61 + v3_4.toNatClampNeg) 9)) (C := RX3) (T := TX3) (N := 10) hx hb hts (fun w h => List.mem_cons_of_mem _ (inG3 w h)) hown hK hP (61 + v3_4.toNatClampNeg) (gX_letter cs ad mu (61 + v3_4.toNatClampNeg) (by omega) (by omega)) rfl 9 (by decide) (hts (.fieldLink RX10 76 "DearLetters$Letter" "isRead" "Z") (List.mem_cons_of_mem _ (lg_at 1 79 (by decide +kernel) rfl))) (fun _ h9 => h9) rfl dX10_unreadTo_41 ?_
          refine lv_topi (fun y7 ey7 => ?_)
          have by7 : y7.toInt = (mu (61 + v3_4.toNatClampNeg) 9).toInt := congrArg Int32.toInt ey7
          have gy7 : 0 ≤ y7.toInt ∧ y7.toInt ≤ 1 := by rw [ey7]; have h9 := ok (61 + v3_4.toNatClampNeg) 9; unfold loX hiX at h9; simp (discharger := omega) only [if_pos, if_neg, and_true, true_and] at h9; exact h9
          refine lv_if_ne (tgt := 51) hx hb dX10_unreadTo_44 (by decide) (fun c_8 => ?_) (fun c_8 => ?_)
          · have c_8 : ¬ y7.toInt = 0 := il_ne c_8
            refine lv_iconst (v := 0) hx hb dX10_unreadTo_51 (by decide) ?_
            refine lv_iadd hx hb dX10_unreadTo_52 ?_
            refine lv_topi (fun t9 et9 => ?_)
            have at9 : t9.toInt = v2_4.toInt + 0 := by rw [et9]; exact tI_add (rfl : v2_4.toInt = _) (rfl : (0 : Int32).toInt = 0) (by omega) (by omega)
            refine lv_istore_n (lv' := [(2, .int t9), (3, .int v3_4), (0, .ref (ad 4)), (1, .int vx)]) hx hb dX10_unreadTo_53 rfl hl (by decide) rfl (fun ls hl => ?_)
            refine lv_iinc (v := (v3_4 + 1)) (lv' := [(3, .int (v3_4 + 1)), (2, .int t9), (0, .ref (ad 4)), (1, .int vx)]) hx hb dX10_unreadTo_54 hl (k := 1) rfl rfl (by decide) rfl (fun ls hl => ?_)
            have a10 : (v3_4 + 1).toInt = v3_4.toInt + 1 := tI_add (rfl : v3_4.toInt = _) (rfl : (1 : Int32).toInt = 1) (by omega) (by omega)
            refine lv_goto (tgt := 4) hx hb dX10_unreadTo_57 (by decide) ?_
            exact ih4 (t9) ((v3_4 + 1))  _ _ (by omega) (by exact ⟨by omega, by omega⟩)  hS (lv_sub hl [0, 1, 2, 3] rfl)
          · have c_8 : y7.toInt = 0 := il_eq c_8
            refine lv_iconst (v := 1) hx hb dX10_unreadTo_47 (by decide) ?_
            refine lv_goto (tgt := 52) hx hb dX10_unreadTo_48 (by decide) ?_
            refine lv_iadd hx hb dX10_unreadTo_52 ?_
            refine lv_topi (fun t11 et11 => ?_)
            refine lv_istore_n (lv' := [(2, .int t11), (3, .int v3_4), (0, .ref (ad 4)), (1, .int vx)]) hx hb dX10_unreadTo_53 rfl hl (by decide) rfl (fun ls hl => ?_)
            refine lv_iinc (v := (v3_4 + 1)) (lv' := [(3, .int (v3_4 + 1)), (2, .int t11), (0, .ref (ad 4)), (1, .int vx)]) hx hb dX10_unreadTo_54 hl (k := 1) rfl rfl (by decide) rfl (fun ls hl => ?_)
            have a12 : (v3_4 + 1).toInt = v3_4.toInt + 1 := tI_add (rfl : v3_4.toInt = _) (rfl : (1 : Int32).toInt = 1) (by omega) (by omega)
            refine lv_goto (tgt := 4) hx hb dX10_unreadTo_57 (by decide) ?_
            exact ih4 (t11) ((v3_4 + 1))  _ _ (by omega) (by exact ⟨by omega, by omega⟩)  hS (lv_sub hl [0, 1, 2, 3] rfl)
  exact loop4 ((4 + 1 - (0 : Int32).toInt).toNat + 1) (0) (0)  _ _ (Nat.lt_succ_self _) (by have h8 : (0 : Int32).toInt = 0 := rfl; exact ⟨by omega, by omega⟩)  hS hl
theorem dX10_paidForUnread_0 : decode cX10_paidForUnread 0 = .ok (.iconst 0, 1) := by decide +kernel
theorem dX10_paidForUnread_1 : decode cX10_paidForUnread 1 = .ok (.istore_n 2, 1) := by decide +kernel
theorem dX10_paidForUnread_2 : decode cX10_paidForUnread 2 = .ok (.iconst 0, 1) := by decide +kernel
theorem dX10_paidForUnread_3 : decode cX10_paidForUnread 3 = .ok (.istore_n 3, 1) := by decide +kernel
theorem dX10_paidForUnread_4 : decode cX10_paidForUnread 4 = .ok (.iload_n 3, 1) := by decide +kernel
theorem dX10_paidForUnread_5 : decode cX10_paidForUnread 5 = .ok (.aload_n 0, 1) := by decide +kernel
theorem dX10_paidForUnread_6 : decode cX10_paidForUnread 6 = .ok (.getfield 24, 3) := by decide +kernel
theorem dX10_paidForUnread_9 : decode cX10_paidForUnread 9 = .ok (.getfield 64, 3) := by decide +kernel
theorem dX10_paidForUnread_12 : decode cX10_paidForUnread 12 = .ok (.if_icmp .ge 59, 3) := by decide +kernel
theorem dX10_paidForUnread_71 : decode cX10_paidForUnread 71 = .ok (.iload_n 2, 1) := by decide +kernel
theorem dX10_paidForUnread_72 : decode cX10_paidForUnread 72 = .ok (.ireturn, 1) := by decide +kernel
theorem dX10_paidForUnread_15 : decode cX10_paidForUnread 15 = .ok (.iload_n 2, 1) := by decide +kernel
theorem dX10_paidForUnread_16 : decode cX10_paidForUnread 16 = .ok (.aload_n 0, 1) := by decide +kernel
theorem dX10_paidForUnread_17 : decode cX10_paidForUnread 17 = .ok (.getfield 24, 3) := by decide +kernel
theorem dX10_paidForUnread_20 : decode cX10_paidForUnread 20 = .ok (.getfield 67, 3) := by decide +kernel
theorem dX10_paidForUnread_23 : decode cX10_paidForUnread 23 = .ok (.iload_n 3, 1) := by decide +kernel
theorem dX10_paidForUnread_24 : decode cX10_paidForUnread 24 = .ok (.aaload, 1) := by decide +kernel
theorem dX10_paidForUnread_25 : decode cX10_paidForUnread 25 = .ok (.getfield 71, 3) := by decide +kernel
theorem dX10_paidForUnread_28 : decode cX10_paidForUnread 28 = .ok (.iload_n 1, 1) := by decide +kernel
theorem dX10_paidForUnread_29 : decode cX10_paidForUnread 29 = .ok (.if_icmp .ne 33, 3) := by decide +kernel
theorem dX10_paidForUnread_62 : decode cX10_paidForUnread 62 = .ok (.iconst 0, 1) := by decide +kernel
theorem dX10_paidForUnread_63 : decode cX10_paidForUnread 63 = .ok (.iadd, 1) := by decide +kernel
theorem dX10_paidForUnread_64 : decode cX10_paidForUnread 64 = .ok (.istore_n 2, 1) := by decide +kernel
theorem dX10_paidForUnread_65 : decode cX10_paidForUnread 65 = .ok (.iinc 3 1, 3) := by decide +kernel
theorem dX10_paidForUnread_68 : decode cX10_paidForUnread 68 = .ok (.goto (-64), 3) := by decide +kernel
theorem dX10_paidForUnread_32 : decode cX10_paidForUnread 32 = .ok (.aload_n 0, 1) := by decide +kernel
theorem dX10_paidForUnread_33 : decode cX10_paidForUnread 33 = .ok (.getfield 24, 3) := by decide +kernel
theorem dX10_paidForUnread_36 : decode cX10_paidForUnread 36 = .ok (.getfield 67, 3) := by decide +kernel
theorem dX10_paidForUnread_39 : decode cX10_paidForUnread 39 = .ok (.iload_n 3, 1) := by decide +kernel
theorem dX10_paidForUnread_40 : decode cX10_paidForUnread 40 = .ok (.aaload, 1) := by decide +kernel
theorem dX10_paidForUnread_41 : decode cX10_paidForUnread 41 = .ok (.getfield 76, 3) := by decide +kernel
theorem dX10_paidForUnread_44 : decode cX10_paidForUnread 44 = .ok (.ifCond .ne 18, 3) := by decide +kernel
theorem dX10_paidForUnread_47 : decode cX10_paidForUnread 47 = .ok (.aload_n 0, 1) := by decide +kernel
theorem dX10_paidForUnread_48 : decode cX10_paidForUnread 48 = .ok (.getfield 24, 3) := by decide +kernel
theorem dX10_paidForUnread_51 : decode cX10_paidForUnread 51 = .ok (.getfield 67, 3) := by decide +kernel
theorem dX10_paidForUnread_54 : decode cX10_paidForUnread 54 = .ok (.iload_n 3, 1) := by decide +kernel
theorem dX10_paidForUnread_55 : decode cX10_paidForUnread 55 = .ok (.aaload, 1) := by decide +kernel
theorem dX10_paidForUnread_56 : decode cX10_paidForUnread 56 = .ok (.getfield 83, 3) := by decide +kernel
theorem dX10_paidForUnread_59 : decode cX10_paidForUnread 59 = .ok (.goto 4, 3) := by decide +kernel
set_option maxHeartbeats 4000000 in
set_option maxRecDepth 100000 in
/-- sx_paidForUnread -/
theorem sx_paidForUnread (l : Launch) (dC : Nat → ClassId) (dI : Nat → Nat → Nat) (cs : Nat → ClassId) (ad : Nat → Nat) (mu : Nat → Nat → Int32) (ok : okR loX hiX mu) (H : Heap) (hP : va_P (dC, dI) vwCl (wR 157 ad (EX cs ad) mu) H) (vx : Int32) : Met l yX10_paidForUnread (wU yX10_paidForUnread cX10_paidForUnread 4 (some .int)) ({ frames := 0, cells := 0, slots := 0, locals := 0 }) (va_Pc [.ref (ad 4), .int vx] (sz_P (dC, dI) vwCl (tyW cs) H)) (va_Qi (fun (z : Int32) (_ : Unit) => True) (fun _ t => t.heap = H) (fun _ => False)) 0 0 (fun _ => False) := by
  refine Met.ofW (cc := cX10_paidForUnread) (maxL := 4) (ret := (some .int)) (by decide) rfl ?_
  intro p e s m args below meth c s₁ B hml hv
  obtain ⟨rfl, hh, hK, hz⟩ := hv
  have hx := B.exec
  have hb := B.bytes
  have hr := B.returns
  have hts := atoms_spec (ws := (wU yX10_paidForUnread cX10_paidForUnread 4 (some .int))) B.pre
  have hown : s.vm.findClass RX10 = some m.cls := findClass_of_methodNamed B.named
  have hlocks := B.notSynchronized
  subst hh
  have hS : va_S (fun _ => False) s.heap s.heap [] := va_S.rf
  have hl := lv_entry ([.ref (ad 4), .int vx]) (n := 4) (Nat.le_of_ble_eq_true rfl)
  rw [lg_entry_eq]
  generalize (lg_sl ([.ref (ad 4), .int vx]) ++ List.replicate (4 - (lg_sl ([.ref (ad 4), .int vx])).length) Slot.unset).toArray = ls at hl ⊢
  have hl : lv_has ls 4 [(0, .ref (ad 4)), (1, .int vx)] := hl
  refine lv_iconst (v := 0) hx hb dX10_paidForUnread_0 (by decide) ?_
  refine lv_istore_n (lv' := [(2, .int 0), (0, .ref (ad 4)), (1, .int vx)]) hx hb dX10_paidForUnread_1 rfl hl (by decide) rfl (fun ls hl => ?_)
  refine lv_iconst (v := 0) hx hb dX10_paidForUnread_2 (by decide) ?_
  refine lv_istore_n (lv' := [(3, .int 0), (2, .int 0), (0, .ref (ad 4)), (1, .int vx)]) hx hb dX10_paidForUnread_3 rfl hl (by decide) rfl (fun ls hl => ?_)
  have loop4 : ∀ (n4 : Nat) (v2_4 : Int32) (v3_4 : Int32) (locs : List Loc) (ls : Array Slot), (4 + 1 - v3_4.toInt).toNat < n4 → (0 ≤ v3_4.toInt ∧ v3_4.toInt ≤ 4) → va_S (fun _ => False) s.heap s.heap locs → lv_has ls 4 [(3, .int v3_4), (2, .int v2_4), (0, .ref (ad 4)), (1, .int vx)] → W p l e (headSpec (wU yX10_paidForUnread cX10_paidForUnread 4 (some .int)) ({ frames := 0, cells := 0, slots := 0, locals := 0 })).room s m ([.ref (ad 4), .int vx] : List Value).toArray below meth c s.heap locs 0 0 (MQ below (va_Qi (fun (z : Int32) (_ : Unit) => True) (fun _ t => t.heap = s.heap) (fun _ => False)) ([.ref (ad 4), .int vx] : List Value).toArray s 0 0 (fun _ => False)) (F0 m 4 ls []) := by
    intro n4
    induction n4 with
    | zero => intro v2_4 v3_4 locs ls hm; exact absurd hm (Nat.not_lt_zero _)
    | succ n4 ih4 =>
      intro v2_4 v3_4 locs ls hm h_v3_4 hS hl
      refine lv_iload_n hx hb dX10_paidForUnread_4 rfl (lv_at hl 0 rfl) ?_
      refine lv_aload_n hx hb dX10_paidForUnread_5 rfl (lv_at hl 2 rfl) ?_
      refine va_get (D := (dC, dI)) (ci := 10) (v := .ref (ad 5)) (C := RX10) (T := TX10) (N := 8) hx hb hts (fun w h => List.mem_cons_of_mem _ (inG10 w h)) hown hK hP 4 (gX_4 cs ad mu) rfl 3 (by decide) (hts (.fieldLink RX10 24 "DearLetters$Town" "now" "LDearLetters$Standing;") (List.mem_cons_of_mem _ (lg_at 1 152 (by decide +kernel) rfl))) (fun _ h9 => h9) rfl dX10_paidForUnread_6 ?_
      refine va_get (D := (dC, dI)) (ci := 8) (v := .int (mu 5 4)) (C := RX8) (T := TX8) (N := 6) hx hb hts (fun w h => List.mem_cons_of_mem _ (inG8 w h)) hown hK hP 5 (gX_5 cs ad mu) rfl 4 (by decide) (hts (.fieldLink RX10 64 "DearLetters$Standing" "sent" "I") (List.mem_cons_of_mem _ (lg_at 1 126 (by decide +kernel) rfl))) (fun _ h9 => h9) rfl dX10_paidForUnread_9 ?_
      refine lv_topi (fun y1 ey1 => ?_)
      have by1 : y1.toInt = (mu 5 4).toInt := congrArg Int32.toInt ey1
      have gy1 : 0 ≤ y1.toInt ∧ y1.toInt ≤ 4 := by rw [ey1]; exact ok 5 4
      refine lv_icmp_ge (tgt := 71) hx hb dX10_paidForUnread_12 (by decide) (fun c_2 => ?_) (fun c_2 => ?_)
      · have c_2 : y1.toInt ≤ v3_4.toInt := il_le c_2
        refine lv_iload_n hx hb dX10_paidForUnread_71 rfl (lv_at hl 1 rfl) ?_
        exact W.iret (v := v2_4) hx hb hr (fun t ht hW => ⟨⟨v2_4, (), rfl, trivial, ht⟩, hS.F ht⟩) hS.2.2 dX10_paidForUnread_72
      · have c_2 : v3_4.toInt < y1.toInt := il_nle c_2
        refine lv_iload_n hx hb dX10_paidForUnread_15 rfl (lv_at hl 1 rfl) ?_
        refine lv_aload_n hx hb dX10_paidForUnread_16 rfl (lv_at hl 2 rfl) ?_
        refine va_get (D := (dC, dI)) (ci := 10) (v := .ref (ad 5)) (C := RX10) (T := TX10) (N := 8) hx hb hts (fun w h => List.mem_cons_of_mem _ (inG10 w h)) hown hK hP 4 (gX_4 cs ad mu) rfl 3 (by decide) (hts (.fieldLink RX10 24 "DearLetters$Town" "now" "LDearLetters$Standing;") (List.mem_cons_of_mem _ (lg_at 1 152 (by decide +kernel) rfl))) (fun _ h9 => h9) rfl dX10_paidForUnread_17 ?_
        refine va_get (D := (dC, dI)) (ci := 8) (v := .ref (ad 47)) (C := RX8) (T := TX8) (N := 6) hx hb hts (fun w h => List.mem_cons_of_mem _ (inG8 w h)) hown hK hP 5 (gX_5 cs ad mu) rfl 1 (by decide) (hts (.fieldLink RX10 67 "DearLetters$Standing" "letters" "[LDearLetters$Letter;") (List.mem_cons_of_mem _ (lg_at 1 111 (by decide +kernel) rfl))) (fun _ h9 => h9) rfl dX10_paidForUnread_20 ?_
        refine lv_iload_n hx hb dX10_paidForUnread_23 rfl (lv_at hl 0 rfl) ?_
        refine va_aldq hx hb hK hP 47 5 (gX_47 cs ad mu) rfl (show vp_in v3_4 4 from vi_of (by omega) (by omega)) dX10_paidForUnread_24 ?_
        have hv3_4_c := tC_of (v := v3_4) (by omega)
        refine lq_v (.ref (ad (61 + v3_4.toNatClampNeg))) rfl ?_
        refine va_get (D := (dC, dI)) (ci := 3) (v := .int (mu (61 + v3_4.toNatClampNeg) 5)) (C := RX3) (T := TX3) (N := 10) hx hb hts (fun w h => List.mem_cons_of_mem _ (inG3 w h)) hown hK hP (61 + v3_4.toNatClampNeg) (gX_letter cs ad mu (61 + v3_4.toNatClampNeg) (by omega) (by omega)) rfl 5 (by decide) (hts (.fieldLink RX10 71 "DearLetters$Letter" "holder" "I") (List.mem_cons_of_mem _ (lg_at 1 64 (by decide +kernel) rfl))) (fun _ h9 => h9) rfl dX10_paidForUnread_25 ?_
        refine lv_topi (fun y3 ey3 => ?_)
        have by3 : y3.toInt = (mu (61 + v3_4.toNatClampNeg) 5).toInt := congrArg Int32.toInt ey3
        have gy3 : 0 ≤ y3.toInt ∧ y3.toInt ≤ 6 := by rw [ey3]; have h9 := ok (61 + v3_4.toNatClampNeg) 5; unfold loX hiX at h9; simp (discharger := omega) only [if_pos, if_neg, and_true, true_and] at h9; exact h9
        refine lv_iload_n hx hb dX10_paidForUnread_28 rfl (lv_at hl 3 rfl) ?_
        refine lv_icmp_ne (tgt := 62) hx hb dX10_paidForUnread_29 (by decide) (fun c_4 => ?_) (fun c_4 => ?_)
        · have c_4 : ¬ y3.toInt = vx.toInt := il_ne c_4
          refine lv_iconst (v := 0) hx hb dX10_paidForUnread_62 (by decide) ?_
          refine lv_iadd hx hb dX10_paidForUnread_63 ?_
          refine lv_topi (fun t5 et5 => ?_)
          have at5 : t5.toInt = v2_4.toInt + 0 := by rw [et5]; exact tI_add (rfl : v2_4.toInt = _) (rfl : (0 : Int32).toInt = 0) (by omega) (by omega)
          refine lv_istore_n (lv' := [(2, .int t5), (3, .int v3_4), (0, .ref (ad 4)), (1, .int vx)]) hx hb dX10_paidForUnread_64 rfl hl (by decide) rfl (fun ls hl => ?_)
          refine lv_iinc (v := (v3_4 + 1)) (lv' := [(3, .int (v3_4 + 1)), (2, .int t5), (0, .ref (ad 4)), (1, .int vx)]) hx hb dX10_paidForUnread_65 hl (k := 1) rfl rfl (by decide) rfl (fun ls hl => ?_)
          have a6 : (v3_4 + 1).toInt = v3_4.toInt + 1 := tI_add (rfl : v3_4.toInt = _) (rfl : (1 : Int32).toInt = 1) (by omega) (by omega)
          refine lv_goto (tgt := 4) hx hb dX10_paidForUnread_68 (by decide) ?_
          exact ih4 (t5) ((v3_4 + 1))  _ _ (by omega) (by exact ⟨by omega, by omega⟩)  hS (lv_sub hl [0, 1, 2, 3] rfl)
        · have c_4 : y3.toInt = vx.toInt := il_eq c_4
          refine lv_aload_n hx hb dX10_paidForUnread_32 rfl (lv_at hl 2 rfl) ?_
          refine va_get (D := (dC, dI)) (ci := 10) (v := .ref (ad 5)) (C := RX10) (T := TX10) (N := 8) hx hb hts (fun w h => List.mem_cons_of_mem _ (inG10 w h)) hown hK hP 4 (gX_4 cs ad mu) rfl 3 (by decide) (hts (.fieldLink RX10 24 "DearLetters$Town" "now" "LDearLetters$Standing;") (List.mem_cons_of_mem _ (lg_at 1 152 (by decide +kernel) rfl))) (fun _ h9 => h9) rfl dX10_paidForUnread_33 ?_
          refine va_get (D := (dC, dI)) (ci := 8) (v := .ref (ad 47)) (C := RX8) (T := TX8) (N := 6) hx hb hts (fun w h => List.mem_cons_of_mem _ (inG8 w h)) hown hK hP 5 (gX_5 cs ad mu) rfl 1 (by decide) (hts (.fieldLink RX10 67 "DearLetters$Standing" "letters" "[LDearLetters$Letter;") (List.mem_cons_of_mem _ (lg_at 1 111 (by decide +kernel) rfl))) (fun _ h9 => h9) rfl dX10_paidForUnread_36 ?_
          refine lv_iload_n hx hb dX10_paidForUnread_39 rfl (lv_at hl 0 rfl) ?_
          refine va_aldq hx hb hK hP 47 5 (gX_47 cs ad mu) rfl (show vp_in v3_4 4 from vi_of (by omega) (by omega)) dX10_paidForUnread_40 ?_
          have hv3_4_c := tC_of (v := v3_4) (by omega)
          refine lq_v (.ref (ad (61 + v3_4.toNatClampNeg))) rfl ?_
          refine va_get (D := (dC, dI)) (ci := 3) (v := .int (mu (61 + v3_4.toNatClampNeg) 9)) (C := RX3) (T := TX3) (N := 10) hx hb hts (fun w h => List.mem_cons_of_mem _ (inG3 w h)) hown hK hP (61 + v3_4.toNatClampNeg) (gX_letter cs ad mu (61 + v3_4.toNatClampNeg) (by omega) (by omega)) rfl 9 (by decide) (hts (.fieldLink RX10 76 "DearLetters$Letter" "isRead" "Z") (List.mem_cons_of_mem _ (lg_at 1 79 (by decide +kernel) rfl))) (fun _ h9 => h9) rfl dX10_paidForUnread_41 ?_
          refine lv_topi (fun y7 ey7 => ?_)
          have by7 : y7.toInt = (mu (61 + v3_4.toNatClampNeg) 9).toInt := congrArg Int32.toInt ey7
          have gy7 : 0 ≤ y7.toInt ∧ y7.toInt ≤ 1 := by rw [ey7]; have h9 := ok (61 + v3_4.toNatClampNeg) 9; unfold loX hiX at h9; simp (discharger := omega) only [if_pos, if_neg, and_true, true_and] at h9; exact h9
          refine lv_if_ne (tgt := 62) hx hb dX10_paidForUnread_44 (by decide) (fun c_8 => ?_) (fun c_8 => ?_)
          · have c_8 : ¬ y7.toInt = 0 := il_ne c_8
            refine lv_iconst (v := 0) hx hb dX10_paidForUnread_62 (by decide) ?_
            refine lv_iadd hx hb dX10_paidForUnread_63 ?_
            refine lv_topi (fun t9 et9 => ?_)
            have at9 : t9.toInt = v2_4.toInt + 0 := by rw [et9]; exact tI_add (rfl : v2_4.toInt = _) (rfl : (0 : Int32).toInt = 0) (by omega) (by omega)
            refine lv_istore_n (lv' := [(2, .int t9), (3, .int v3_4), (0, .ref (ad 4)), (1, .int vx)]) hx hb dX10_paidForUnread_64 rfl hl (by decide) rfl (fun ls hl => ?_)
            refine lv_iinc (v := (v3_4 + 1)) (lv' := [(3, .int (v3_4 + 1)), (2, .int t9), (0, .ref (ad 4)), (1, .int vx)]) hx hb dX10_paidForUnread_65 hl (k := 1) rfl rfl (by decide) rfl (fun ls hl => ?_)
            have a10 : (v3_4 + 1).toInt = v3_4.toInt + 1 := tI_add (rfl : v3_4.toInt = _) (rfl : (1 : Int32).toInt = 1) (by omega) (by omega)
            refine lv_goto (tgt := 4) hx hb dX10_paidForUnread_68 (by decide) ?_
            exact ih4 (t9) ((v3_4 + 1))  _ _ (by omega) (by exact ⟨by omega, by omega⟩)  hS (lv_sub hl [0, 1, 2, 3] rfl)
          · have c_8 : y7.toInt = 0 := il_eq c_8
            refine lv_aload_n hx hb dX10_paidForUnread_47 rfl (lv_at hl 2 rfl) ?_
            refine va_get (D := (dC, dI)) (ci := 10) (v := .ref (ad 5)) (C := RX10) (T := TX10) (N := 8) hx hb hts (fun w h => List.mem_cons_of_mem _ (inG10 w h)) hown hK hP 4 (gX_4 cs ad mu) rfl 3 (by decide) (hts (.fieldLink RX10 24 "DearLetters$Town" "now" "LDearLetters$Standing;") (List.mem_cons_of_mem _ (lg_at 1 152 (by decide +kernel) rfl))) (fun _ h9 => h9) rfl dX10_paidForUnread_48 ?_
            refine va_get (D := (dC, dI)) (ci := 8) (v := .ref (ad 47)) (C := RX8) (T := TX8) (N := 6) hx hb hts (fun w h => List.mem_cons_of_mem _ (inG8 w h)) hown hK hP 5 (gX_5 cs ad mu) rfl 1 (by decide) (hts (.fieldLink RX10 67 "DearLetters$Standing" "letters" "[LDearLetters$Letter;") (List.mem_cons_of_mem _ (lg_at 1 111 (by decide +kernel) rfl))) (fun _ h9 => h9) rfl dX10_paidForUnread_51 ?_
            refine lv_iload_n hx hb dX10_paidForUnread_54 rfl (lv_at hl 0 rfl) ?_
            refine va_aldq hx hb hK hP 47 5 (gX_47 cs ad mu) rfl (show vp_in v3_4 4 from vi_of (by omega) (by omega)) dX10_paidForUnread_55 ?_
            have hv3_4_c := tC_of (v := v3_4) (by omega)
            refine lq_v (.ref (ad (61 + v3_4.toNatClampNeg))) rfl ?_
            refine va_get (D := (dC, dI)) (ci := 3) (v := .int (mu (61 + v3_4.toNatClampNeg) 6)) (C := RX3) (T := TX3) (N := 10) hx hb hts (fun w h => List.mem_cons_of_mem _ (inG3 w h)) hown hK hP (61 + v3_4.toNatClampNeg) (gX_letter cs ad mu (61 + v3_4.toNatClampNeg) (by omega) (by omega)) rfl 6 (by decide) (hts (.fieldLink RX10 83 "DearLetters$Letter" "paid" "I") (List.mem_cons_of_mem _ (lg_at 1 69 (by decide +kernel) rfl))) (fun _ h9 => h9) rfl dX10_paidForUnread_56 ?_
            refine lv_topi (fun y11 ey11 => ?_)
            have by11 : y11.toInt = (mu (61 + v3_4.toNatClampNeg) 6).toInt := congrArg Int32.toInt ey11
            refine lv_goto (tgt := 63) hx hb dX10_paidForUnread_59 (by decide) ?_
            refine lv_iadd hx hb dX10_paidForUnread_63 ?_
            refine lv_topi (fun t12 et12 => ?_)
            refine lv_istore_n (lv' := [(2, .int t12), (3, .int v3_4), (0, .ref (ad 4)), (1, .int vx)]) hx hb dX10_paidForUnread_64 rfl hl (by decide) rfl (fun ls hl => ?_)
            refine lv_iinc (v := (v3_4 + 1)) (lv' := [(3, .int (v3_4 + 1)), (2, .int t12), (0, .ref (ad 4)), (1, .int vx)]) hx hb dX10_paidForUnread_65 hl (k := 1) rfl rfl (by decide) rfl (fun ls hl => ?_)
            have a13 : (v3_4 + 1).toInt = v3_4.toInt + 1 := tI_add (rfl : v3_4.toInt = _) (rfl : (1 : Int32).toInt = 1) (by omega) (by omega)
            refine lv_goto (tgt := 4) hx hb dX10_paidForUnread_68 (by decide) ?_
            exact ih4 (t12) ((v3_4 + 1))  _ _ (by omega) (by exact ⟨by omega, by omega⟩)  hS (lv_sub hl [0, 1, 2, 3] rfl)
  exact loop4 ((4 + 1 - (0 : Int32).toInt).toNat + 1) (0) (0)  _ _ (Nat.lt_succ_self _) (by have h8 : (0 : Int32).toInt = 0 := rfl; exact ⟨by omega, by omega⟩)  hS hl
theorem dX10_friendsNear_0 : decode cX10_friendsNear 0 = .ok (.aload_n 0, 1) := by decide +kernel
theorem dX10_friendsNear_1 : decode cX10_friendsNear 1 = .ok (.iload_n 1, 1) := by decide +kernel
theorem dX10_friendsNear_2 : decode cX10_friendsNear 2 = .ok (.aload_n 0, 1) := by decide +kernel
theorem dX10_friendsNear_3 : decode cX10_friendsNear 3 = .ok (.getfield 24, 3) := by decide +kernel
theorem dX10_friendsNear_6 : decode cX10_friendsNear 6 = .ok (.getfield 48, 3) := by decide +kernel
theorem dX10_friendsNear_9 : decode cX10_friendsNear 9 = .ok (.invokevirtual 51, 3) := by decide +kernel
theorem dX10_friendsNear_12 : decode cX10_friendsNear 12 = .ok (.istore_n 2, 1) := by decide +kernel
theorem dX10_friendsNear_13 : decode cX10_friendsNear 13 = .ok (.iconst 0, 1) := by decide +kernel
theorem dX10_friendsNear_14 : decode cX10_friendsNear 14 = .ok (.istore_n 3, 1) := by decide +kernel
theorem dX10_friendsNear_15 : decode cX10_friendsNear 15 = .ok (.iconst 0, 1) := by decide +kernel
theorem dX10_friendsNear_16 : decode cX10_friendsNear 16 = .ok (.istore 4, 2) := by decide +kernel
theorem dX10_friendsNear_18 : decode cX10_friendsNear 18 = .ok (.iload 4, 2) := by decide +kernel
theorem dX10_friendsNear_20 : decode cX10_friendsNear 20 = .ok (.aload_n 0, 1) := by decide +kernel
theorem dX10_friendsNear_21 : decode cX10_friendsNear 21 = .ok (.getfield 34, 3) := by decide +kernel
theorem dX10_friendsNear_24 : decode cX10_friendsNear 24 = .ok (.if_icmp .ge 40, 3) := by decide +kernel
theorem dX10_friendsNear_64 : decode cX10_friendsNear 64 = .ok (.iload_n 3, 1) := by decide +kernel
theorem dX10_friendsNear_65 : decode cX10_friendsNear 65 = .ok (.ireturn, 1) := by decide +kernel
theorem dX10_friendsNear_27 : decode cX10_friendsNear 27 = .ok (.iload_n 3, 1) := by decide +kernel
theorem dX10_friendsNear_28 : decode cX10_friendsNear 28 = .ok (.iload_n 2, 1) := by decide +kernel
theorem dX10_friendsNear_29 : decode cX10_friendsNear 29 = .ok (.iload 4, 2) := by decide +kernel
theorem dX10_friendsNear_31 : decode cX10_friendsNear 31 = .ok (.invokestatic 41, 3) := by decide +kernel
theorem dX10_friendsNear_34 : decode cX10_friendsNear 34 = .ok (.ifCond .eq 21, 3) := by decide +kernel
theorem dX10_friendsNear_55 : decode cX10_friendsNear 55 = .ok (.iconst 0, 1) := by decide +kernel
theorem dX10_friendsNear_56 : decode cX10_friendsNear 56 = .ok (.iadd, 1) := by decide +kernel
theorem dX10_friendsNear_57 : decode cX10_friendsNear 57 = .ok (.istore_n 3, 1) := by decide +kernel
theorem dX10_friendsNear_58 : decode cX10_friendsNear 58 = .ok (.iinc 4 1, 3) := by decide +kernel
theorem dX10_friendsNear_61 : decode cX10_friendsNear 61 = .ok (.goto (-43), 3) := by decide +kernel
theorem dX10_friendsNear_37 : decode cX10_friendsNear 37 = .ok (.aload_n 0, 1) := by decide +kernel
theorem dX10_friendsNear_38 : decode cX10_friendsNear 38 = .ok (.getfield 9, 3) := by decide +kernel
theorem dX10_friendsNear_41 : decode cX10_friendsNear 41 = .ok (.iload 4, 2) := by decide +kernel
theorem dX10_friendsNear_43 : decode cX10_friendsNear 43 = .ok (.iaload, 1) := by decide +kernel
theorem dX10_friendsNear_44 : decode cX10_friendsNear 44 = .ok (.iconst 2, 1) := by decide +kernel
theorem dX10_friendsNear_45 : decode cX10_friendsNear 45 = .ok (.invokestatic 86, 3) := by decide +kernel
theorem dX10_friendsNear_48 : decode cX10_friendsNear 48 = .ok (.ifCond .eq 7, 3) := by decide +kernel
theorem dX10_friendsNear_51 : decode cX10_friendsNear 51 = .ok (.iconst 1, 1) := by decide +kernel
theorem dX10_friendsNear_52 : decode cX10_friendsNear 52 = .ok (.goto 4, 3) := by decide +kernel
set_option maxHeartbeats 4000000 in
set_option maxRecDepth 100000 in
/-- sx_friendsNear -/
theorem sx_friendsNear (l : Launch) (dC : Nat → ClassId) (dI : Nat → Nat → Nat) (cs : Nat → ClassId) (ad : Nat → Nat) (mu : Nat → Nat → Int32) (ok : okR loX hiX mu) (H : Heap) (hP : va_P (dC, dI) vwCl (wR 157 ad (EX cs ad) mu) H) (vx : Int32) : Met l yX10_friendsNear (wU yX10_friendsNear cX10_friendsNear 5 (some .int)) ({ frames := 2, cells := 0, slots := 0, locals := 45 }) (va_Pc [.ref (ad 4), .int vx] (sz_P (dC, dI) vwCl (tyW cs) H)) (va_Qi (fun (z : Int32) (_ : Unit) => True) (fun _ t => t.heap = H) (fun _ => False)) 0 0 (fun _ => False) := by
  refine Met.ofW (cc := cX10_friendsNear) (maxL := 5) (ret := (some .int)) (by decide) rfl ?_
  intro p e s m args below meth c s₁ B hml hv
  obtain ⟨rfl, hh, hK, hz⟩ := hv
  have hx := B.exec
  have hb := B.bytes
  have hr := B.returns
  have hts := atoms_spec (ws := (wU yX10_friendsNear cX10_friendsNear 5 (some .int))) B.pre
  have hown : s.vm.findClass RX10 = some m.cls := findClass_of_methodNamed B.named
  have hlocks := B.notSynchronized
  subst hh
  have hS : va_S (fun _ => False) s.heap s.heap [] := va_S.rf
  have hl := lv_entry ([.ref (ad 4), .int vx]) (n := 5) (Nat.le_of_ble_eq_true rfl)
  rw [lg_entry_eq]
  generalize (lg_sl ([.ref (ad 4), .int vx]) ++ List.replicate (5 - (lg_sl ([.ref (ad 4), .int vx])).length) Slot.unset).toArray = ls at hl ⊢
  have hl : lv_has ls 5 [(0, .ref (ad 4)), (1, .int vx)] := hl
  refine lv_aload_n hx hb dX10_friendsNear_0 rfl (lv_at hl 0 rfl) ?_
  refine lv_iload_n hx hb dX10_friendsNear_1 rfl (lv_at hl 1 rfl) ?_
  refine lv_aload_n hx hb dX10_friendsNear_2 rfl (lv_at hl 0 rfl) ?_
  refine va_get (D := (dC, dI)) (ci := 10) (v := .ref (ad 5)) (C := RX10) (T := TX10) (N := 8) hx hb hts (fun w h => List.mem_cons_of_mem _ (inG10 w h)) hown hK hP 4 (gX_4 cs ad mu) rfl 3 (by decide) (hts (.fieldLink RX10 24 "DearLetters$Town" "now" "LDearLetters$Standing;") (List.mem_cons_of_mem _ (lg_at 1 152 (by decide +kernel) rfl))) (fun _ h9 => h9) rfl dX10_friendsNear_3 ?_
  refine va_get (D := (dC, dI)) (ci := 8) (v := .int (mu 5 2)) (C := RX8) (T := TX8) (N := 6) hx hb hts (fun w h => List.mem_cons_of_mem _ (inG8 w h)) hown hK hP 5 (gX_5 cs ad mu) rfl 2 (by decide) (hts (.fieldLink RX10 48 "DearLetters$Standing" "snow" "I") (List.mem_cons_of_mem _ (lg_at 1 116 (by decide +kernel) rfl))) (fun _ h9 => h9) rfl dX10_friendsNear_6 ?_
  refine lv_topi (fun y1 ey1 => ?_)
  have by1 : y1.toInt = (mu 5 2).toInt := congrArg Int32.toInt ey1
  refine cr_i (va_runV (As := [.int vx, .int y1]) (rest := []) ⟨hx, hb, hml, hown, hts⟩ (sx_near l dC dI cs ad mu ok s.heap hP vx y1) (cwV 2 hts (wU_V (lg_at 3 84 (by decide +kernel) rfl) (lg_at 3 81 (by decide +kernel) rfl) (lg_at 3 82 (by decide +kernel) rfl) (lg_at 3 83 (by decide +kernel) rfl) (lg_at 1 2 (by decide +kernel) rfl)) rfl rfl rfl (by decide +kernel) ⟨Nat.le_of_ble_eq_true rfl, Nat.le_of_ble_eq_true rfl⟩) ⟨sz_c, va_recv hK hP (ci := 10) (q0 := 4) rfl (gX_4 cs ad mu), sz_m hK hz⟩ rfl rfl hl.1 rfl (lv_room (Nat.le_of_ble_eq_true rfl)) dX10_friendsNear_9 ⟨Nat.zero_le _, Nat.zero_le _⟩) hS (fun r2 hw2 locs hS => ?_)
  refine lv_istore_n (lv' := [(2, .int r2), (0, .ref (ad 4)), (1, .int vx)]) hx hb dX10_friendsNear_12 rfl hl (by decide) rfl (fun ls hl => ?_)
  refine lv_iconst (v := 0) hx hb dX10_friendsNear_13 (by decide) ?_
  refine lv_istore_n (lv' := [(3, .int 0), (2, .int r2), (0, .ref (ad 4)), (1, .int vx)]) hx hb dX10_friendsNear_14 rfl hl (by decide) rfl (fun ls hl => ?_)
  refine lv_iconst (v := 0) hx hb dX10_friendsNear_15 (by decide) ?_
  refine lv_istore (lv' := [(4, .int 0), (3, .int 0), (2, .int r2), (0, .ref (ad 4)), (1, .int vx)]) hx hb dX10_friendsNear_16 hl (by decide) rfl (fun ls hl => ?_)
  have loop18 : ∀ (n18 : Nat) (v3_18 : Int32) (v4_18 : Int32) (locs : List Loc) (ls : Array Slot), (7 + 1 - v4_18.toInt).toNat < n18 → (0 ≤ v4_18.toInt ∧ v4_18.toInt ≤ 7) → va_S (fun _ => False) s.heap s.heap locs → lv_has ls 5 [(4, .int v4_18), (3, .int v3_18), (2, .int r2), (0, .ref (ad 4)), (1, .int vx)] → W p l e (headSpec (wU yX10_friendsNear cX10_friendsNear 5 (some .int)) ({ frames := 2, cells := 0, slots := 0, locals := 45 })).room s m ([.ref (ad 4), .int vx] : List Value).toArray below meth c s.heap locs 0 0 (MQ below (va_Qi (fun (z : Int32) (_ : Unit) => True) (fun _ t => t.heap = s.heap) (fun _ => False)) ([.ref (ad 4), .int vx] : List Value).toArray s 0 0 (fun _ => False)) (F0 m 18 ls []) := by
    intro n18
    induction n18 with
    | zero => intro v3_18 v4_18 locs ls hm; exact absurd hm (Nat.not_lt_zero _)
    | succ n18 ih18 =>
      intro v3_18 v4_18 locs ls hm h_v4_18 hS hl
      refine lv_iload hx hb dX10_friendsNear_18 (lv_at hl 0 rfl) ?_
      refine lv_aload_n hx hb dX10_friendsNear_20 rfl (lv_at hl 3 rfl) ?_
      refine va_get (D := (dC, dI)) (ci := 10) (v := .int (mu 4 6)) (C := RX10) (T := TX10) (N := 8) hx hb hts (fun w h => List.mem_cons_of_mem _ (inG10 w h)) hown hK hP 4 (gX_4 cs ad mu) rfl 6 (by decide) (hts (.fieldLink RX10 34 "DearLetters$Town" "bearers" "I") (List.mem_cons_of_mem _ (lg_at 1 160 (by decide +kernel) rfl))) (fun _ h9 => h9) rfl dX10_friendsNear_21 ?_
      refine lv_topi (fun y3 ey3 => ?_)
      have by3 : y3.toInt = (mu 4 6).toInt := congrArg Int32.toInt ey3
      have gy3 : 0 ≤ y3.toInt ∧ y3.toInt ≤ 7 := by rw [ey3]; exact ok 4 6
      refine lv_icmp_ge (tgt := 64) hx hb dX10_friendsNear_24 (by decide) (fun c_4 => ?_) (fun c_4 => ?_)
      · have c_4 : y3.toInt ≤ v4_18.toInt := il_le c_4
        refine lv_iload_n hx hb dX10_friendsNear_64 rfl (lv_at hl 1 rfl) ?_
        exact W.iret (v := v3_18) hx hb hr (fun t ht hW => ⟨⟨v3_18, (), rfl, trivial, ht⟩, hS.F ht⟩) hS.2.2 dX10_friendsNear_65
      · have c_4 : v4_18.toInt < y3.toInt := il_nle c_4
        refine lv_iload_n hx hb dX10_friendsNear_27 rfl (lv_at hl 1 rfl) ?_
        refine lv_iload_n hx hb dX10_friendsNear_28 rfl (lv_at hl 2 rfl) ?_
        refine lv_iload hx hb dX10_friendsNear_29 (lv_at hl 0 rfl) ?_
        refine cr_i (va_runSN (As := [.int r2, .int v4_18]) (rest := [.int v3_18]) ⟨hx, hb, hml, hown, hts⟩ (sx_hasBit l dC dI (tyW cs) s.heap r2 v4_18) ⟨va_cnB 2 hts (wU_in (lg_at 3 87 (by decide +kernel) rfl)) rfl rfl rfl (hz.2.2.1) (hts (.initialized RX11) (List.mem_cons_of_mem _ (lg_at 1 1 (by decide +kernel) rfl))) (by decide +kernel) ⟨Nat.le_of_ble_eq_true rfl, Nat.le_of_ble_eq_true rfl⟩, hts (.static yX11_hasBit) (List.mem_cons_of_mem _ (lg_at 3 86 (by decide +kernel) rfl)), trivial⟩ ⟨sz_c, sz_m hK hz⟩ rfl rfl hl.1 rfl (lv_room (Nat.le_of_ble_eq_true rfl)) dX10_friendsNear_31 ⟨Nat.zero_le _, Nat.zero_le _⟩) hS (fun r5 hw5 locs hS => ?_)
        have gr5 : 0 ≤ r5.toInt ∧ r5.toInt ≤ 1 := hw5
        refine lv_if_eq (tgt := 55) hx hb dX10_friendsNear_34 (by decide) (fun c_6 => ?_) (fun c_6 => ?_)
        · have c_6 : r5.toInt = 0 := il_eq c_6
          refine lv_iconst (v := 0) hx hb dX10_friendsNear_55 (by decide) ?_
          refine lv_iadd hx hb dX10_friendsNear_56 ?_
          refine lv_topi (fun t7 et7 => ?_)
          have at7 : t7.toInt = v3_18.toInt + 0 := by rw [et7]; exact tI_add (rfl : v3_18.toInt = _) (rfl : (0 : Int32).toInt = 0) (by omega) (by omega)
          refine lv_istore_n (lv' := [(3, .int t7), (4, .int v4_18), (2, .int r2), (0, .ref (ad 4)), (1, .int vx)]) hx hb dX10_friendsNear_57 rfl hl (by decide) rfl (fun ls hl => ?_)
          refine lv_iinc (v := (v4_18 + 1)) (lv' := [(4, .int (v4_18 + 1)), (3, .int t7), (2, .int r2), (0, .ref (ad 4)), (1, .int vx)]) hx hb dX10_friendsNear_58 hl (k := 1) rfl rfl (by decide) rfl (fun ls hl => ?_)
          have a8 : (v4_18 + 1).toInt = v4_18.toInt + 1 := tI_add (rfl : v4_18.toInt = _) (rfl : (1 : Int32).toInt = 1) (by omega) (by omega)
          refine lv_goto (tgt := 18) hx hb dX10_friendsNear_61 (by decide) ?_
          exact ih18 (t7) ((v4_18 + 1))  _ _ (by omega) (by exact ⟨by omega, by omega⟩)  hS (lv_sub hl [0, 1, 2, 3, 4] rfl)
        · have c_6 : ¬ r5.toInt = 0 := il_ne c_6
          refine lv_aload_n hx hb dX10_friendsNear_37 rfl (lv_at hl 3 rfl) ?_
          refine va_get (D := (dC, dI)) (ci := 10) (v := .ref (ad 34)) (C := RX10) (T := TX10) (N := 8) hx hb hts (fun w h => List.mem_cons_of_mem _ (inG10 w h)) hown hK hP 4 (gX_4 cs ad mu) rfl 0 (by decide) (hts (.fieldLink RX10 9 "DearLetters$Town" "kinds" "[I") (List.mem_cons_of_mem _ (lg_at 1 143 (by decide +kernel) rfl))) (fun _ h9 => h9) rfl dX10_friendsNear_38 ?_
          refine lv_iload hx hb dX10_friendsNear_41 (lv_at hl 0 rfl) ?_
          refine va_iald hx hb hK hP 34 0 (gX_34 cs ad mu) rfl (show vp_in v4_18 7 from vi_of (by omega) (by omega)) dX10_friendsNear_43 ?_
          refine lv_topi (fun y9 ey9 => ?_)
          have by9 : y9.toInt = (mu 34 v4_18.toNatClampNeg).toInt := congrArg Int32.toInt ey9
          refine lv_iconst (v := 2) hx hb dX10_friendsNear_44 (by decide) ?_
          refine cr_i (va_runSN (As := [.int y9, .int 2]) (rest := [.int v3_18]) ⟨hx, hb, hml, hown, hts⟩ (sx_isOfKind l dC dI (tyW cs) s.heap y9 2) ⟨va_cnB 2 hts (wU_in (lg_at 3 104 (by decide +kernel) rfl)) rfl rfl rfl (hz.2.2.2.1) (hts (.initialized RX11) (List.mem_cons_of_mem _ (lg_at 1 1 (by decide +kernel) rfl))) (by decide +kernel) ⟨Nat.le_of_ble_eq_true rfl, Nat.le_of_ble_eq_true rfl⟩, hts (.static yX11_isOfKind) (List.mem_cons_of_mem _ (lg_at 3 103 (by decide +kernel) rfl)), trivial⟩ ⟨sz_c, sz_m hK hz⟩ rfl rfl hl.1 rfl (lv_room (Nat.le_of_ble_eq_true rfl)) dX10_friendsNear_45 ⟨Nat.zero_le _, Nat.zero_le _⟩) hS (fun r10 hw10 locs hS => ?_)
          have gr10 : 0 ≤ r10.toInt ∧ r10.toInt ≤ 1 := hw10
          refine lv_if_eq (tgt := 55) hx hb dX10_friendsNear_48 (by decide) (fun c_11 => ?_) (fun c_11 => ?_)
          · have c_11 : r10.toInt = 0 := il_eq c_11
            refine lv_iconst (v := 0) hx hb dX10_friendsNear_55 (by decide) ?_
            refine lv_iadd hx hb dX10_friendsNear_56 ?_
            refine lv_topi (fun t12 et12 => ?_)
            have at12 : t12.toInt = v3_18.toInt + 0 := by rw [et12]; exact tI_add (rfl : v3_18.toInt = _) (rfl : (0 : Int32).toInt = 0) (by omega) (by omega)
            refine lv_istore_n (lv' := [(3, .int t12), (4, .int v4_18), (2, .int r2), (0, .ref (ad 4)), (1, .int vx)]) hx hb dX10_friendsNear_57 rfl hl (by decide) rfl (fun ls hl => ?_)
            refine lv_iinc (v := (v4_18 + 1)) (lv' := [(4, .int (v4_18 + 1)), (3, .int t12), (2, .int r2), (0, .ref (ad 4)), (1, .int vx)]) hx hb dX10_friendsNear_58 hl (k := 1) rfl rfl (by decide) rfl (fun ls hl => ?_)
            have a13 : (v4_18 + 1).toInt = v4_18.toInt + 1 := tI_add (rfl : v4_18.toInt = _) (rfl : (1 : Int32).toInt = 1) (by omega) (by omega)
            refine lv_goto (tgt := 18) hx hb dX10_friendsNear_61 (by decide) ?_
            exact ih18 (t12) ((v4_18 + 1))  _ _ (by omega) (by exact ⟨by omega, by omega⟩)  hS (lv_sub hl [0, 1, 2, 3, 4] rfl)
          · have c_11 : ¬ r10.toInt = 0 := il_ne c_11
            refine lv_iconst (v := 1) hx hb dX10_friendsNear_51 (by decide) ?_
            refine lv_goto (tgt := 56) hx hb dX10_friendsNear_52 (by decide) ?_
            refine lv_iadd hx hb dX10_friendsNear_56 ?_
            refine lv_topi (fun t14 et14 => ?_)
            refine lv_istore_n (lv' := [(3, .int t14), (4, .int v4_18), (2, .int r2), (0, .ref (ad 4)), (1, .int vx)]) hx hb dX10_friendsNear_57 rfl hl (by decide) rfl (fun ls hl => ?_)
            refine lv_iinc (v := (v4_18 + 1)) (lv' := [(4, .int (v4_18 + 1)), (3, .int t14), (2, .int r2), (0, .ref (ad 4)), (1, .int vx)]) hx hb dX10_friendsNear_58 hl (k := 1) rfl rfl (by decide) rfl (fun ls hl => ?_)
            have a15 : (v4_18 + 1).toInt = v4_18.toInt + 1 := tI_add (rfl : v4_18.toInt = _) (rfl : (1 : Int32).toInt = 1) (by omega) (by omega)
            refine lv_goto (tgt := 18) hx hb dX10_friendsNear_61 (by decide) ?_
            exact ih18 (t14) ((v4_18 + 1))  _ _ (by omega) (by exact ⟨by omega, by omega⟩)  hS (lv_sub hl [0, 1, 2, 3, 4] rfl)
  exact loop18 ((7 + 1 - (0 : Int32).toInt).toNat + 1) (0) (0)  _ _ (Nat.lt_succ_self _) (by have h8 : (0 : Int32).toInt = 0 := rfl; exact ⟨by omega, by omega⟩)  hS hl
theorem dX11_rowsThere_0 : decode cX11_rowsThere 0 = .ok (.iconst 0, 1) := by decide +kernel
theorem dX11_rowsThere_1 : decode cX11_rowsThere 1 = .ok (.istore_n 1, 1) := by decide +kernel
theorem dX11_rowsThere_2 : decode cX11_rowsThere 2 = .ok (.iconst 0, 1) := by decide +kernel
theorem dX11_rowsThere_3 : decode cX11_rowsThere 3 = .ok (.istore_n 2, 1) := by decide +kernel
theorem dX11_rowsThere_4 : decode cX11_rowsThere 4 = .ok (.iload_n 2, 1) := by decide +kernel
theorem dX11_rowsThere_5 : decode cX11_rowsThere 5 = .ok (.bipush 6, 2) := by decide +kernel
theorem dX11_rowsThere_7 : decode cX11_rowsThere 7 = .ok (.if_icmp .ge 29, 3) := by decide +kernel
theorem dX11_rowsThere_36 : decode cX11_rowsThere 36 = .ok (.iload_n 1, 1) := by decide +kernel
theorem dX11_rowsThere_37 : decode cX11_rowsThere 37 = .ok (.ireturn, 1) := by decide +kernel
theorem dX11_rowsThere_10 : decode cX11_rowsThere 10 = .ok (.iload_n 1, 1) := by decide +kernel
theorem dX11_rowsThere_11 : decode cX11_rowsThere 11 = .ok (.aload_n 0, 1) := by decide +kernel
theorem dX11_rowsThere_12 : decode cX11_rowsThere 12 = .ok (.getfield 11, 3) := by decide +kernel
theorem dX11_rowsThere_15 : decode cX11_rowsThere 15 = .ok (.iload_n 2, 1) := by decide +kernel
theorem dX11_rowsThere_16 : decode cX11_rowsThere 16 = .ok (.aaload, 1) := by decide +kernel
theorem dX11_rowsThere_17 : decode cX11_rowsThere 17 = .ok (.invokevirtual 98, 3) := by decide +kernel
theorem dX11_rowsThere_20 : decode cX11_rowsThere 20 = .ok (.ifCond .eq 7, 3) := by decide +kernel
theorem dX11_rowsThere_23 : decode cX11_rowsThere 23 = .ok (.iconst 0, 1) := by decide +kernel
theorem dX11_rowsThere_24 : decode cX11_rowsThere 24 = .ok (.goto 4, 3) := by decide +kernel
theorem dX11_rowsThere_28 : decode cX11_rowsThere 28 = .ok (.iadd, 1) := by decide +kernel
theorem dX11_rowsThere_29 : decode cX11_rowsThere 29 = .ok (.istore_n 1, 1) := by decide +kernel
theorem dX11_rowsThere_30 : decode cX11_rowsThere 30 = .ok (.iinc 2 1, 3) := by decide +kernel
theorem dX11_rowsThere_33 : decode cX11_rowsThere 33 = .ok (.goto (-29), 3) := by decide +kernel
theorem dX11_rowsThere_27 : decode cX11_rowsThere 27 = .ok (.iconst 1, 1) := by decide +kernel
set_option maxHeartbeats 4000000 in
set_option maxRecDepth 100000 in
/-- sx_rowsThere -/
theorem sx_rowsThere (l : Launch) (dC : Nat → ClassId) (dI : Nat → Nat → Nat) (cs : Nat → ClassId) (ad : Nat → Nat) (mu : Nat → Nat → Int32) (ok : okR loX hiX mu) (H : Heap) (hP : va_P (dC, dI) vwCl (wR 157 ad (EX cs ad) mu) H) : Met l yX11_rowsThere (wU yX11_rowsThere cX11_rowsThere 3 (some .int)) ({ frames := 1, cells := 0, slots := 0, locals := 20 }) (va_Pc [.ref (ad 0)] (sz_P (dC, dI) vwCl (tyW cs) H)) (va_Qi (fun (z : Int32) (_ : Unit) => True) (fun _ t => t.heap = H) (fun _ => False)) 0 0 (fun _ => False) := by
  refine Met.ofW (cc := cX11_rowsThere) (maxL := 3) (ret := (some .int)) (by decide) rfl ?_
  intro p e s m args below meth c s₁ B hml hv
  obtain ⟨rfl, hh, hK, hz⟩ := hv
  have hx := B.exec
  have hb := B.bytes
  have hr := B.returns
  have hts := atoms_spec (ws := (wU yX11_rowsThere cX11_rowsThere 3 (some .int))) B.pre
  have hown : s.vm.findClass RX11 = some m.cls := findClass_of_methodNamed B.named
  have hlocks := B.notSynchronized
  subst hh
  have hS : va_S (fun _ => False) s.heap s.heap [] := va_S.rf
  have hl := lv_entry ([.ref (ad 0)]) (n := 3) (Nat.le_of_ble_eq_true rfl)
  rw [lg_entry_eq]
  generalize (lg_sl ([.ref (ad 0)]) ++ List.replicate (3 - (lg_sl ([.ref (ad 0)])).length) Slot.unset).toArray = ls at hl ⊢
  have hl : lv_has ls 3 [(0, .ref (ad 0))] := hl
  refine lv_iconst (v := 0) hx hb dX11_rowsThere_0 (by decide) ?_
  refine lv_istore_n (lv' := [(1, .int 0), (0, .ref (ad 0))]) hx hb dX11_rowsThere_1 rfl hl (by decide) rfl (fun ls hl => ?_)
  refine lv_iconst (v := 0) hx hb dX11_rowsThere_2 (by decide) ?_
  refine lv_istore_n (lv' := [(2, .int 0), (1, .int 0), (0, .ref (ad 0))]) hx hb dX11_rowsThere_3 rfl hl (by decide) rfl (fun ls hl => ?_)
  have loop4 : ∀ (n4 : Nat) (v1_4 : Int32) (v2_4 : Int32) (locs : List Loc) (ls : Array Slot), (6 + 1 - v2_4.toInt).toNat < n4 → (0 ≤ v2_4.toInt ∧ v2_4.toInt ≤ 6) → va_S (fun _ => False) s.heap s.heap locs → lv_has ls 3 [(2, .int v2_4), (1, .int v1_4), (0, .ref (ad 0))] → W p l e (headSpec (wU yX11_rowsThere cX11_rowsThere 3 (some .int)) ({ frames := 1, cells := 0, slots := 0, locals := 20 })).room s m ([.ref (ad 0)] : List Value).toArray below meth c s.heap locs 0 0 (MQ below (va_Qi (fun (z : Int32) (_ : Unit) => True) (fun _ t => t.heap = s.heap) (fun _ => False)) ([.ref (ad 0)] : List Value).toArray s 0 0 (fun _ => False)) (F0 m 4 ls []) := by
    intro n4
    induction n4 with
    | zero => intro v1_4 v2_4 locs ls hm; exact absurd hm (Nat.not_lt_zero _)
    | succ n4 ih4 =>
      intro v1_4 v2_4 locs ls hm h_v2_4 hS hl
      refine lv_iload_n hx hb dX11_rowsThere_4 rfl (lv_at hl 0 rfl) ?_
      refine lv_bipush (v := 6) hx hb dX11_rowsThere_5 (by decide) ?_
      refine lv_icmp_ge (tgt := 36) hx hb dX11_rowsThere_7 (by decide) (fun c_1 => ?_) (fun c_1 => ?_)
      · have c_1 : 6 ≤ v2_4.toInt := il_le c_1
        refine lv_iload_n hx hb dX11_rowsThere_36 rfl (lv_at hl 1 rfl) ?_
        exact W.iret (v := v1_4) hx hb hr (fun t ht hW => ⟨⟨v1_4, (), rfl, trivial, ht⟩, hS.F ht⟩) hS.2.2 dX11_rowsThere_37
      · have c_1 : v2_4.toInt < 6 := il_nle c_1
        refine lv_iload_n hx hb dX11_rowsThere_10 rfl (lv_at hl 1 rfl) ?_
        refine lv_aload_n hx hb dX11_rowsThere_11 rfl (lv_at hl 2 rfl) ?_
        refine va_get (D := (dC, dI)) (ci := 11) (v := .ref (ad 1)) (C := RX11) (T := TX11) (N := 11) hx hb hts (fun w h => List.mem_cons_of_mem _ (inG11 w h)) hown hK hP 0 (gX_0 cs ad mu) rfl 0 (by decide) (hts (.fieldLink RX11 11 "DearLetters" "rows" "[LDearLetters$Row;") (List.mem_cons_of_mem _ (lg_at 2 158 (by decide +kernel) rfl))) (fun _ h9 => h9) rfl dX11_rowsThere_12 ?_
        refine lv_iload_n hx hb dX11_rowsThere_15 rfl (lv_at hl 0 rfl) ?_
        refine va_aldq hx hb hK hP 1 2 (gX_1 cs ad mu) rfl (show vp_in v2_4 6 from vi_of (by omega) (by omega)) dX11_rowsThere_16 ?_
        have hv2_4_c := tC_of (v := v2_4) (by omega)
        refine lq_v (.ref (ad (8 + v2_4.toNatClampNeg))) rfl ?_
        refine cr_i (va_runV (As := []) (rest := [.int v1_4]) ⟨hx, hb, hml, hown, hts⟩ (sx_Row_isMissing l dC dI cs ad mu ok s.heap hP (8 + v2_4.toNatClampNeg) (by omega) (by omega)) (cwV 0 hts (wU_V (lg_at 2 225 (by decide +kernel) rfl) (lg_at 2 222 (by decide +kernel) rfl) (lg_at 2 223 (by decide +kernel) rfl) (lg_at 2 224 (by decide +kernel) rfl) (lg_at 1 11 (by decide +kernel) rfl)) rfl rfl rfl (by decide +kernel) ⟨Nat.le_of_ble_eq_true rfl, Nat.le_of_ble_eq_true rfl⟩) ⟨sz_c, va_recv hK hP (ci := 6) (q0 := (8 + v2_4.toNatClampNeg)) rfl (gX_row cs ad mu (8 + v2_4.toNatClampNeg) (by omega) (by omega)), sz_m hK hz⟩ rfl rfl hl.1 rfl (lv_room (Nat.le_of_ble_eq_true rfl)) dX11_rowsThere_17 ⟨Nat.zero_le _, Nat.zero_le _⟩) hS (fun r2 hw2 locs hS => ?_)
        rcases hw2 with ⟨rfl, f2⟩ | ⟨rfl, f2⟩
        · have f2 : (mu (8 + v2_4.toNatClampNeg) 1).toInt < 0 := f2
          refine lv_if_eq (tgt := 27) hx hb dX11_rowsThere_20 (by decide) (fun c => absurd c (by decide)) (fun _ => ?_)
          refine lv_iconst (v := 0) hx hb dX11_rowsThere_23 (by decide) ?_
          refine lv_goto (tgt := 28) hx hb dX11_rowsThere_24 (by decide) ?_
          refine lv_iadd hx hb dX11_rowsThere_28 ?_
          refine lv_topi (fun t3 et3 => ?_)
          have at3 : t3.toInt = v1_4.toInt + 0 := by rw [et3]; exact tI_add (rfl : v1_4.toInt = _) (rfl : (0 : Int32).toInt = 0) (by omega) (by omega)
          refine lv_istore_n (lv' := [(1, .int t3), (2, .int v2_4), (0, .ref (ad 0))]) hx hb dX11_rowsThere_29 rfl hl (by decide) rfl (fun ls hl => ?_)
          refine lv_iinc (v := (v2_4 + 1)) (lv' := [(2, .int (v2_4 + 1)), (1, .int t3), (0, .ref (ad 0))]) hx hb dX11_rowsThere_30 hl (k := 1) rfl rfl (by decide) rfl (fun ls hl => ?_)
          have a4 : (v2_4 + 1).toInt = v2_4.toInt + 1 := tI_add (rfl : v2_4.toInt = _) (rfl : (1 : Int32).toInt = 1) (by omega) (by omega)
          refine lv_goto (tgt := 4) hx hb dX11_rowsThere_33 (by decide) ?_
          exact ih4 (t3) ((v2_4 + 1))  _ _ (by omega) (by exact ⟨by omega, by omega⟩)  hS (lv_sub hl [0, 1, 2] rfl)
        · have f2 : 0 ≤ (mu (8 + v2_4.toNatClampNeg) 1).toInt := f2
          refine lv_if_eq (tgt := 27) hx hb dX11_rowsThere_20 (by decide) (fun _ => ?_) (fun c => absurd (by decide) c)
          refine lv_iconst (v := 1) hx hb dX11_rowsThere_27 (by decide) ?_
          refine lv_iadd hx hb dX11_rowsThere_28 ?_
          refine lv_topi (fun t5 et5 => ?_)
          refine lv_istore_n (lv' := [(1, .int t5), (2, .int v2_4), (0, .ref (ad 0))]) hx hb dX11_rowsThere_29 rfl hl (by decide) rfl (fun ls hl => ?_)
          refine lv_iinc (v := (v2_4 + 1)) (lv' := [(2, .int (v2_4 + 1)), (1, .int t5), (0, .ref (ad 0))]) hx hb dX11_rowsThere_30 hl (k := 1) rfl rfl (by decide) rfl (fun ls hl => ?_)
          have a6 : (v2_4 + 1).toInt = v2_4.toInt + 1 := tI_add (rfl : v2_4.toInt = _) (rfl : (1 : Int32).toInt = 1) (by omega) (by omega)
          refine lv_goto (tgt := 4) hx hb dX11_rowsThere_33 (by decide) ?_
          exact ih4 (t5) ((v2_4 + 1))  _ _ (by omega) (by exact ⟨by omega, by omega⟩)  hS (lv_sub hl [0, 1, 2] rfl)
  exact loop4 ((6 + 1 - (0 : Int32).toInt).toNat + 1) (0) (0)  _ _ (Nat.lt_succ_self _) (by have h8 : (0 : Int32).toInt = 0 := rfl; exact ⟨by omega, by omega⟩)  hS hl
theorem dX11_textsThere_0 : decode cX11_textsThere 0 = .ok (.iconst 0, 1) := by decide +kernel
theorem dX11_textsThere_1 : decode cX11_textsThere 1 = .ok (.istore_n 1, 1) := by decide +kernel
theorem dX11_textsThere_2 : decode cX11_textsThere 2 = .ok (.iconst 0, 1) := by decide +kernel
theorem dX11_textsThere_3 : decode cX11_textsThere 3 = .ok (.istore_n 2, 1) := by decide +kernel
theorem dX11_textsThere_4 : decode cX11_textsThere 4 = .ok (.iload_n 2, 1) := by decide +kernel
theorem dX11_textsThere_5 : decode cX11_textsThere 5 = .ok (.iconst 4, 1) := by decide +kernel
theorem dX11_textsThere_6 : decode cX11_textsThere 6 = .ok (.if_icmp .ge 29, 3) := by decide +kernel
theorem dX11_textsThere_35 : decode cX11_textsThere 35 = .ok (.iload_n 1, 1) := by decide +kernel
theorem dX11_textsThere_36 : decode cX11_textsThere 36 = .ok (.ireturn, 1) := by decide +kernel
theorem dX11_textsThere_9 : decode cX11_textsThere 9 = .ok (.iload_n 1, 1) := by decide +kernel
theorem dX11_textsThere_10 : decode cX11_textsThere 10 = .ok (.aload_n 0, 1) := by decide +kernel
theorem dX11_textsThere_11 : decode cX11_textsThere 11 = .ok (.getfield 17, 3) := by decide +kernel
theorem dX11_textsThere_14 : decode cX11_textsThere 14 = .ok (.iload_n 2, 1) := by decide +kernel
theorem dX11_textsThere_15 : decode cX11_textsThere 15 = .ok (.aaload, 1) := by decide +kernel
theorem dX11_textsThere_16 : decode cX11_textsThere 16 = .ok (.invokevirtual 382, 3) := by decide +kernel
theorem dX11_textsThere_19 : decode cX11_textsThere 19 = .ok (.ifCond .eq 7, 3) := by decide +kernel
theorem dX11_textsThere_22 : decode cX11_textsThere 22 = .ok (.iconst 0, 1) := by decide +kernel
theorem dX11_textsThere_23 : decode cX11_textsThere 23 = .ok (.goto 4, 3) := by decide +kernel
theorem dX11_textsThere_27 : decode cX11_textsThere 27 = .ok (.iadd, 1) := by decide +kernel
theorem dX11_textsThere_28 : decode cX11_textsThere 28 = .ok (.istore_n 1, 1) := by decide +kernel
theorem dX11_textsThere_29 : decode cX11_textsThere 29 = .ok (.iinc 2 1, 3) := by decide +kernel
theorem dX11_textsThere_32 : decode cX11_textsThere 32 = .ok (.goto (-28), 3) := by decide +kernel
theorem dX11_textsThere_26 : decode cX11_textsThere 26 = .ok (.iconst 1, 1) := by decide +kernel
set_option maxHeartbeats 4000000 in
set_option maxRecDepth 100000 in
/-- sx_textsThere -/
theorem sx_textsThere (l : Launch) (dC : Nat → ClassId) (dI : Nat → Nat → Nat) (cs : Nat → ClassId) (ad : Nat → Nat) (mu : Nat → Nat → Int32) (ok : okR loX hiX mu) (H : Heap) (hP : va_P (dC, dI) vwCl (wR 157 ad (EX cs ad) mu) H) : Met l yX11_textsThere (wU yX11_textsThere cX11_textsThere 3 (some .int)) ({ frames := 1, cells := 0, slots := 0, locals := 20 }) (va_Pc [.ref (ad 0)] (sz_P (dC, dI) vwCl (tyW cs) H)) (va_Qi (fun (z : Int32) (_ : Unit) => True) (fun _ t => t.heap = H) (fun _ => False)) 0 0 (fun _ => False) := by
  refine Met.ofW (cc := cX11_textsThere) (maxL := 3) (ret := (some .int)) (by decide) rfl ?_
  intro p e s m args below meth c s₁ B hml hv
  obtain ⟨rfl, hh, hK, hz⟩ := hv
  have hx := B.exec
  have hb := B.bytes
  have hr := B.returns
  have hts := atoms_spec (ws := (wU yX11_textsThere cX11_textsThere 3 (some .int))) B.pre
  have hown : s.vm.findClass RX11 = some m.cls := findClass_of_methodNamed B.named
  have hlocks := B.notSynchronized
  subst hh
  have hS : va_S (fun _ => False) s.heap s.heap [] := va_S.rf
  have hl := lv_entry ([.ref (ad 0)]) (n := 3) (Nat.le_of_ble_eq_true rfl)
  rw [lg_entry_eq]
  generalize (lg_sl ([.ref (ad 0)]) ++ List.replicate (3 - (lg_sl ([.ref (ad 0)])).length) Slot.unset).toArray = ls at hl ⊢
  have hl : lv_has ls 3 [(0, .ref (ad 0))] := hl
  refine lv_iconst (v := 0) hx hb dX11_textsThere_0 (by decide) ?_
  refine lv_istore_n (lv' := [(1, .int 0), (0, .ref (ad 0))]) hx hb dX11_textsThere_1 rfl hl (by decide) rfl (fun ls hl => ?_)
  refine lv_iconst (v := 0) hx hb dX11_textsThere_2 (by decide) ?_
  refine lv_istore_n (lv' := [(2, .int 0), (1, .int 0), (0, .ref (ad 0))]) hx hb dX11_textsThere_3 rfl hl (by decide) rfl (fun ls hl => ?_)
  have loop4 : ∀ (n4 : Nat) (v1_4 : Int32) (v2_4 : Int32) (locs : List Loc) (ls : Array Slot), (4 + 1 - v2_4.toInt).toNat < n4 → (0 ≤ v2_4.toInt ∧ v2_4.toInt ≤ 4) → va_S (fun _ => False) s.heap s.heap locs → lv_has ls 3 [(2, .int v2_4), (1, .int v1_4), (0, .ref (ad 0))] → W p l e (headSpec (wU yX11_textsThere cX11_textsThere 3 (some .int)) ({ frames := 1, cells := 0, slots := 0, locals := 20 })).room s m ([.ref (ad 0)] : List Value).toArray below meth c s.heap locs 0 0 (MQ below (va_Qi (fun (z : Int32) (_ : Unit) => True) (fun _ t => t.heap = s.heap) (fun _ => False)) ([.ref (ad 0)] : List Value).toArray s 0 0 (fun _ => False)) (F0 m 4 ls []) := by
    intro n4
    induction n4 with
    | zero => intro v1_4 v2_4 locs ls hm; exact absurd hm (Nat.not_lt_zero _)
    | succ n4 ih4 =>
      intro v1_4 v2_4 locs ls hm h_v2_4 hS hl
      refine lv_iload_n hx hb dX11_textsThere_4 rfl (lv_at hl 0 rfl) ?_
      refine lv_iconst (v := 4) hx hb dX11_textsThere_5 (by decide) ?_
      refine lv_icmp_ge (tgt := 35) hx hb dX11_textsThere_6 (by decide) (fun c_1 => ?_) (fun c_1 => ?_)
      · have c_1 : 4 ≤ v2_4.toInt := il_le c_1
        refine lv_iload_n hx hb dX11_textsThere_35 rfl (lv_at hl 1 rfl) ?_
        exact W.iret (v := v1_4) hx hb hr (fun t ht hW => ⟨⟨v1_4, (), rfl, trivial, ht⟩, hS.F ht⟩) hS.2.2 dX11_textsThere_36
      · have c_1 : v2_4.toInt < 4 := il_nle c_1
        refine lv_iload_n hx hb dX11_textsThere_9 rfl (lv_at hl 1 rfl) ?_
        refine lv_aload_n hx hb dX11_textsThere_10 rfl (lv_at hl 2 rfl) ?_
        refine va_get (D := (dC, dI)) (ci := 11) (v := .ref (ad 2)) (C := RX11) (T := TX11) (N := 11) hx hb hts (fun w h => List.mem_cons_of_mem _ (inG11 w h)) hown hK hP 0 (gX_0 cs ad mu) rfl 1 (by decide) (hts (.fieldLink RX11 17 "DearLetters" "texts" "[LDearLetters$Text;") (List.mem_cons_of_mem _ (lg_at 2 159 (by decide +kernel) rfl))) (fun _ h9 => h9) rfl dX11_textsThere_11 ?_
        refine lv_iload_n hx hb dX11_textsThere_14 rfl (lv_at hl 0 rfl) ?_
        refine va_aldq hx hb hK hP 2 3 (gX_2 cs ad mu) rfl (show vp_in v2_4 4 from vi_of (by omega) (by omega)) dX11_textsThere_15 ?_
        have hv2_4_c := tC_of (v := v2_4) (by omega)
        refine lq_v (.ref (ad (14 + v2_4.toNatClampNeg))) rfl ?_
        refine cr_i (va_runV (As := []) (rest := [.int v1_4]) ⟨hx, hb, hml, hown, hts⟩ (sx_Text_isMissing l dC dI cs ad mu ok s.heap hP (14 + v2_4.toNatClampNeg) (by omega) (by omega)) (cwV 0 hts (wU_V (lg_at 3 34 (by decide +kernel) rfl) (lg_at 3 31 (by decide +kernel) rfl) (lg_at 3 32 (by decide +kernel) rfl) (lg_at 3 33 (by decide +kernel) rfl) (lg_at 1 12 (by decide +kernel) rfl)) rfl rfl rfl (by decide +kernel) ⟨Nat.le_of_ble_eq_true rfl, Nat.le_of_ble_eq_true rfl⟩) ⟨sz_c, va_recv hK hP (ci := 9) (q0 := (14 + v2_4.toNatClampNeg)) rfl (gX_text cs ad mu (14 + v2_4.toNatClampNeg) (by omega) (by omega)), sz_m hK hz⟩ rfl rfl hl.1 rfl (lv_room (Nat.le_of_ble_eq_true rfl)) dX11_textsThere_16 ⟨Nat.zero_le _, Nat.zero_le _⟩) hS (fun r2 hw2 locs hS => ?_)
        rcases hw2 with ⟨rfl, f2⟩ | ⟨rfl, f2⟩
        · have f2 : (mu (14 + v2_4.toNatClampNeg) 1).toInt < 0 := f2
          refine lv_if_eq (tgt := 26) hx hb dX11_textsThere_19 (by decide) (fun c => absurd c (by decide)) (fun _ => ?_)
          refine lv_iconst (v := 0) hx hb dX11_textsThere_22 (by decide) ?_
          refine lv_goto (tgt := 27) hx hb dX11_textsThere_23 (by decide) ?_
          refine lv_iadd hx hb dX11_textsThere_27 ?_
          refine lv_topi (fun t3 et3 => ?_)
          have at3 : t3.toInt = v1_4.toInt + 0 := by rw [et3]; exact tI_add (rfl : v1_4.toInt = _) (rfl : (0 : Int32).toInt = 0) (by omega) (by omega)
          refine lv_istore_n (lv' := [(1, .int t3), (2, .int v2_4), (0, .ref (ad 0))]) hx hb dX11_textsThere_28 rfl hl (by decide) rfl (fun ls hl => ?_)
          refine lv_iinc (v := (v2_4 + 1)) (lv' := [(2, .int (v2_4 + 1)), (1, .int t3), (0, .ref (ad 0))]) hx hb dX11_textsThere_29 hl (k := 1) rfl rfl (by decide) rfl (fun ls hl => ?_)
          have a4 : (v2_4 + 1).toInt = v2_4.toInt + 1 := tI_add (rfl : v2_4.toInt = _) (rfl : (1 : Int32).toInt = 1) (by omega) (by omega)
          refine lv_goto (tgt := 4) hx hb dX11_textsThere_32 (by decide) ?_
          exact ih4 (t3) ((v2_4 + 1))  _ _ (by omega) (by exact ⟨by omega, by omega⟩)  hS (lv_sub hl [0, 1, 2] rfl)
        · have f2 : 0 ≤ (mu (14 + v2_4.toNatClampNeg) 1).toInt := f2
          refine lv_if_eq (tgt := 26) hx hb dX11_textsThere_19 (by decide) (fun _ => ?_) (fun c => absurd (by decide) c)
          refine lv_iconst (v := 1) hx hb dX11_textsThere_26 (by decide) ?_
          refine lv_iadd hx hb dX11_textsThere_27 ?_
          refine lv_topi (fun t5 et5 => ?_)
          refine lv_istore_n (lv' := [(1, .int t5), (2, .int v2_4), (0, .ref (ad 0))]) hx hb dX11_textsThere_28 rfl hl (by decide) rfl (fun ls hl => ?_)
          refine lv_iinc (v := (v2_4 + 1)) (lv' := [(2, .int (v2_4 + 1)), (1, .int t5), (0, .ref (ad 0))]) hx hb dX11_textsThere_29 hl (k := 1) rfl rfl (by decide) rfl (fun ls hl => ?_)
          have a6 : (v2_4 + 1).toInt = v2_4.toInt + 1 := tI_add (rfl : v2_4.toInt = _) (rfl : (1 : Int32).toInt = 1) (by omega) (by omega)
          refine lv_goto (tgt := 4) hx hb dX11_textsThere_32 (by decide) ?_
          exact ih4 (t5) ((v2_4 + 1))  _ _ (by omega) (by exact ⟨by omega, by omega⟩)  hS (lv_sub hl [0, 1, 2] rfl)
  exact loop4 ((4 + 1 - (0 : Int32).toInt).toNat + 1) (0) (0)  _ _ (Nat.lt_succ_self _) (by have h8 : (0 : Int32).toInt = 0 := rfl; exact ⟨by omega, by omega⟩)  hS hl
theorem dX11_townsKept_0 : decode cX11_townsKept 0 = .ok (.iconst 0, 1) := by decide +kernel
theorem dX11_townsKept_1 : decode cX11_townsKept 1 = .ok (.istore_n 1, 1) := by decide +kernel
theorem dX11_townsKept_2 : decode cX11_townsKept 2 = .ok (.iconst 0, 1) := by decide +kernel
theorem dX11_townsKept_3 : decode cX11_townsKept 3 = .ok (.istore_n 2, 1) := by decide +kernel
theorem dX11_townsKept_4 : decode cX11_townsKept 4 = .ok (.iload_n 2, 1) := by decide +kernel
theorem dX11_townsKept_5 : decode cX11_townsKept 5 = .ok (.iconst 3, 1) := by decide +kernel
theorem dX11_townsKept_6 : decode cX11_townsKept 6 = .ok (.if_icmp .ge 29, 3) := by decide +kernel
theorem dX11_townsKept_35 : decode cX11_townsKept 35 = .ok (.iload_n 1, 1) := by decide +kernel
theorem dX11_townsKept_36 : decode cX11_townsKept 36 = .ok (.ireturn, 1) := by decide +kernel
theorem dX11_townsKept_9 : decode cX11_townsKept 9 = .ok (.iload_n 1, 1) := by decide +kernel
theorem dX11_townsKept_10 : decode cX11_townsKept 10 = .ok (.aload_n 0, 1) := by decide +kernel
theorem dX11_townsKept_11 : decode cX11_townsKept 11 = .ok (.getfield 23, 3) := by decide +kernel
theorem dX11_townsKept_14 : decode cX11_townsKept 14 = .ok (.iload_n 2, 1) := by decide +kernel
theorem dX11_townsKept_15 : decode cX11_townsKept 15 = .ok (.aaload, 1) := by decide +kernel
theorem dX11_townsKept_16 : decode cX11_townsKept 16 = .ok (.getfield 135, 3) := by decide +kernel
theorem dX11_townsKept_19 : decode cX11_townsKept 19 = .ok (.ifCond .eq 7, 3) := by decide +kernel
theorem dX11_townsKept_26 : decode cX11_townsKept 26 = .ok (.iconst 0, 1) := by decide +kernel
theorem dX11_townsKept_27 : decode cX11_townsKept 27 = .ok (.iadd, 1) := by decide +kernel
theorem dX11_townsKept_28 : decode cX11_townsKept 28 = .ok (.istore_n 1, 1) := by decide +kernel
theorem dX11_townsKept_29 : decode cX11_townsKept 29 = .ok (.iinc 2 1, 3) := by decide +kernel
theorem dX11_townsKept_32 : decode cX11_townsKept 32 = .ok (.goto (-28), 3) := by decide +kernel
theorem dX11_townsKept_22 : decode cX11_townsKept 22 = .ok (.iconst 1, 1) := by decide +kernel
theorem dX11_townsKept_23 : decode cX11_townsKept 23 = .ok (.goto 4, 3) := by decide +kernel
set_option maxHeartbeats 4000000 in
set_option maxRecDepth 100000 in
/-- sx_townsKept -/
theorem sx_townsKept (l : Launch) (dC : Nat → ClassId) (dI : Nat → Nat → Nat) (cs : Nat → ClassId) (ad : Nat → Nat) (mu : Nat → Nat → Int32) (ok : okR loX hiX mu) (H : Heap) (hP : va_P (dC, dI) vwCl (wR 157 ad (EX cs ad) mu) H) : Met l yX11_townsKept (wU yX11_townsKept cX11_townsKept 3 (some .int)) ({ frames := 0, cells := 0, slots := 0, locals := 0 }) (va_Pc [.ref (ad 0)] (sz_P (dC, dI) vwCl (tyW cs) H)) (va_Qi (fun (z : Int32) (_ : Unit) => True) (fun _ t => t.heap = H) (fun _ => False)) 0 0 (fun _ => False) := by
  refine Met.ofW (cc := cX11_townsKept) (maxL := 3) (ret := (some .int)) (by decide) rfl ?_
  intro p e s m args below meth c s₁ B hml hv
  obtain ⟨rfl, hh, hK, hz⟩ := hv
  have hx := B.exec
  have hb := B.bytes
  have hr := B.returns
  have hts := atoms_spec (ws := (wU yX11_townsKept cX11_townsKept 3 (some .int))) B.pre
  have hown : s.vm.findClass RX11 = some m.cls := findClass_of_methodNamed B.named
  have hlocks := B.notSynchronized
  subst hh
  have hS : va_S (fun _ => False) s.heap s.heap [] := va_S.rf
  have hl := lv_entry ([.ref (ad 0)]) (n := 3) (Nat.le_of_ble_eq_true rfl)
  rw [lg_entry_eq]
  generalize (lg_sl ([.ref (ad 0)]) ++ List.replicate (3 - (lg_sl ([.ref (ad 0)])).length) Slot.unset).toArray = ls at hl ⊢
  have hl : lv_has ls 3 [(0, .ref (ad 0))] := hl
  refine lv_iconst (v := 0) hx hb dX11_townsKept_0 (by decide) ?_
  refine lv_istore_n (lv' := [(1, .int 0), (0, .ref (ad 0))]) hx hb dX11_townsKept_1 rfl hl (by decide) rfl (fun ls hl => ?_)
  refine lv_iconst (v := 0) hx hb dX11_townsKept_2 (by decide) ?_
  refine lv_istore_n (lv' := [(2, .int 0), (1, .int 0), (0, .ref (ad 0))]) hx hb dX11_townsKept_3 rfl hl (by decide) rfl (fun ls hl => ?_)
  have loop4 : ∀ (n4 : Nat) (v1_4 : Int32) (v2_4 : Int32) (locs : List Loc) (ls : Array Slot), (3 + 1 - v2_4.toInt).toNat < n4 → (0 ≤ v2_4.toInt ∧ v2_4.toInt ≤ 3) → va_S (fun _ => False) s.heap s.heap locs → lv_has ls 3 [(2, .int v2_4), (1, .int v1_4), (0, .ref (ad 0))] → W p l e (headSpec (wU yX11_townsKept cX11_townsKept 3 (some .int)) ({ frames := 0, cells := 0, slots := 0, locals := 0 })).room s m ([.ref (ad 0)] : List Value).toArray below meth c s.heap locs 0 0 (MQ below (va_Qi (fun (z : Int32) (_ : Unit) => True) (fun _ t => t.heap = s.heap) (fun _ => False)) ([.ref (ad 0)] : List Value).toArray s 0 0 (fun _ => False)) (F0 m 4 ls []) := by
    intro n4
    induction n4 with
    | zero => intro v1_4 v2_4 locs ls hm; exact absurd hm (Nat.not_lt_zero _)
    | succ n4 ih4 =>
      intro v1_4 v2_4 locs ls hm h_v2_4 hS hl
      refine lv_iload_n hx hb dX11_townsKept_4 rfl (lv_at hl 0 rfl) ?_
      refine lv_iconst (v := 3) hx hb dX11_townsKept_5 (by decide) ?_
      refine lv_icmp_ge (tgt := 35) hx hb dX11_townsKept_6 (by decide) (fun c_1 => ?_) (fun c_1 => ?_)
      · have c_1 : 3 ≤ v2_4.toInt := il_le c_1
        refine lv_iload_n hx hb dX11_townsKept_35 rfl (lv_at hl 1 rfl) ?_
        exact W.iret (v := v1_4) hx hb hr (fun t ht hW => ⟨⟨v1_4, (), rfl, trivial, ht⟩, hS.F ht⟩) hS.2.2 dX11_townsKept_36
      · have c_1 : v2_4.toInt < 3 := il_nle c_1
        refine lv_iload_n hx hb dX11_townsKept_9 rfl (lv_at hl 1 rfl) ?_
        refine lv_aload_n hx hb dX11_townsKept_10 rfl (lv_at hl 2 rfl) ?_
        refine va_get (D := (dC, dI)) (ci := 11) (v := .ref (ad 3)) (C := RX11) (T := TX11) (N := 11) hx hb hts (fun w h => List.mem_cons_of_mem _ (inG11 w h)) hown hK hP 0 (gX_0 cs ad mu) rfl 2 (by decide) (hts (.fieldLink RX11 23 "DearLetters" "kept" "[LDearLetters$Standing;") (List.mem_cons_of_mem _ (lg_at 2 160 (by decide +kernel) rfl))) (fun _ h9 => h9) rfl dX11_townsKept_11 ?_
        refine lv_iload_n hx hb dX11_townsKept_14 rfl (lv_at hl 0 rfl) ?_
        refine va_aldq hx hb hK hP 3 4 (gX_3 cs ad mu) rfl (show vp_in v2_4 3 from vi_of (by omega) (by omega)) dX11_townsKept_15 ?_
        have hv2_4_c := tC_of (v := v2_4) (by omega)
        refine lq_v (.ref (ad (18 + v2_4.toNatClampNeg))) rfl ?_
        refine va_get (D := (dC, dI)) (ci := 8) (v := .int (mu (18 + v2_4.toNatClampNeg) 5)) (C := RX8) (T := TX8) (N := 6) hx hb hts (fun w h => List.mem_cons_of_mem _ (inG8 w h)) hown hK hP (18 + v2_4.toNatClampNeg) (gX_kept cs ad mu (18 + v2_4.toNatClampNeg) (by omega) (by omega)) rfl 5 (by decide) (hts (.fieldLink RX11 135 "DearLetters$Standing" "there" "Z") (List.mem_cons_of_mem _ (lg_at 1 129 (by decide +kernel) rfl))) (fun _ h9 => h9) rfl dX11_townsKept_16 ?_
        refine lv_topi (fun y2 ey2 => ?_)
        have by2 : y2.toInt = (mu (18 + v2_4.toNatClampNeg) 5).toInt := congrArg Int32.toInt ey2
        have gy2 : 0 ≤ y2.toInt ∧ y2.toInt ≤ 1 := by rw [ey2]; have h9 := ok (18 + v2_4.toNatClampNeg) 5; unfold loX hiX at h9; simp (discharger := omega) only [if_pos, if_neg, and_true, true_and] at h9; exact h9
        refine lv_if_eq (tgt := 26) hx hb dX11_townsKept_19 (by decide) (fun c_3 => ?_) (fun c_3 => ?_)
        · have c_3 : y2.toInt = 0 := il_eq c_3
          refine lv_iconst (v := 0) hx hb dX11_townsKept_26 (by decide) ?_
          refine lv_iadd hx hb dX11_townsKept_27 ?_
          refine lv_topi (fun t4 et4 => ?_)
          have at4 : t4.toInt = v1_4.toInt + 0 := by rw [et4]; exact tI_add (rfl : v1_4.toInt = _) (rfl : (0 : Int32).toInt = 0) (by omega) (by omega)
          refine lv_istore_n (lv' := [(1, .int t4), (2, .int v2_4), (0, .ref (ad 0))]) hx hb dX11_townsKept_28 rfl hl (by decide) rfl (fun ls hl => ?_)
          refine lv_iinc (v := (v2_4 + 1)) (lv' := [(2, .int (v2_4 + 1)), (1, .int t4), (0, .ref (ad 0))]) hx hb dX11_townsKept_29 hl (k := 1) rfl rfl (by decide) rfl (fun ls hl => ?_)
          have a5 : (v2_4 + 1).toInt = v2_4.toInt + 1 := tI_add (rfl : v2_4.toInt = _) (rfl : (1 : Int32).toInt = 1) (by omega) (by omega)
          refine lv_goto (tgt := 4) hx hb dX11_townsKept_32 (by decide) ?_
          exact ih4 (t4) ((v2_4 + 1))  _ _ (by omega) (by exact ⟨by omega, by omega⟩)  hS (lv_sub hl [0, 1, 2] rfl)
        · have c_3 : ¬ y2.toInt = 0 := il_ne c_3
          refine lv_iconst (v := 1) hx hb dX11_townsKept_22 (by decide) ?_
          refine lv_goto (tgt := 27) hx hb dX11_townsKept_23 (by decide) ?_
          refine lv_iadd hx hb dX11_townsKept_27 ?_
          refine lv_topi (fun t6 et6 => ?_)
          refine lv_istore_n (lv' := [(1, .int t6), (2, .int v2_4), (0, .ref (ad 0))]) hx hb dX11_townsKept_28 rfl hl (by decide) rfl (fun ls hl => ?_)
          refine lv_iinc (v := (v2_4 + 1)) (lv' := [(2, .int (v2_4 + 1)), (1, .int t6), (0, .ref (ad 0))]) hx hb dX11_townsKept_29 hl (k := 1) rfl rfl (by decide) rfl (fun ls hl => ?_)
          have a7 : (v2_4 + 1).toInt = v2_4.toInt + 1 := tI_add (rfl : v2_4.toInt = _) (rfl : (1 : Int32).toInt = 1) (by omega) (by omega)
          refine lv_goto (tgt := 4) hx hb dX11_townsKept_32 (by decide) ?_
          exact ih4 (t6) ((v2_4 + 1))  _ _ (by omega) (by exact ⟨by omega, by omega⟩)  hS (lv_sub hl [0, 1, 2] rfl)
  exact loop4 ((3 + 1 - (0 : Int32).toInt).toNat + 1) (0) (0)  _ _ (Nat.lt_succ_self _) (by have h8 : (0 : Int32).toInt = 0 := rfl; exact ⟨by omega, by omega⟩)  hS hl
theorem dX2_gainOf_0 : decode cX2_gainOf 0 = .ok (.iconst 0, 1) := by decide +kernel
theorem dX2_gainOf_1 : decode cX2_gainOf 1 = .ok (.istore_n 2, 1) := by decide +kernel
theorem dX2_gainOf_2 : decode cX2_gainOf 2 = .ok (.iconst 0, 1) := by decide +kernel
theorem dX2_gainOf_3 : decode cX2_gainOf 3 = .ok (.istore_n 3, 1) := by decide +kernel
theorem dX2_gainOf_4 : decode cX2_gainOf 4 = .ok (.iload_n 3, 1) := by decide +kernel
theorem dX2_gainOf_5 : decode cX2_gainOf 5 = .ok (.aload_n 0, 1) := by decide +kernel
theorem dX2_gainOf_6 : decode cX2_gainOf 6 = .ok (.getfield 18, 3) := by decide +kernel
theorem dX2_gainOf_9 : decode cX2_gainOf 9 = .ok (.if_icmp .ge 67, 3) := by decide +kernel
theorem dX2_gainOf_76 : decode cX2_gainOf 76 = .ok (.iload_n 2, 1) := by decide +kernel
theorem dX2_gainOf_77 : decode cX2_gainOf 77 = .ok (.ireturn, 1) := by decide +kernel
theorem dX2_gainOf_12 : decode cX2_gainOf 12 = .ok (.iload_n 2, 1) := by decide +kernel
theorem dX2_gainOf_13 : decode cX2_gainOf 13 = .ok (.aload_n 0, 1) := by decide +kernel
theorem dX2_gainOf_14 : decode cX2_gainOf 14 = .ok (.getfield 11, 3) := by decide +kernel
theorem dX2_gainOf_17 : decode cX2_gainOf 17 = .ok (.iload_n 3, 1) := by decide +kernel
theorem dX2_gainOf_18 : decode cX2_gainOf 18 = .ok (.aaload, 1) := by decide +kernel
theorem dX2_gainOf_19 : decode cX2_gainOf 19 = .ok (.getfield 59, 3) := by decide +kernel
theorem dX2_gainOf_22 : decode cX2_gainOf 22 = .ok (.iload_n 1, 1) := by decide +kernel
theorem dX2_gainOf_23 : decode cX2_gainOf 23 = .ok (.if_icmp .ne 15, 3) := by decide +kernel
theorem dX2_gainOf_38 : decode cX2_gainOf 38 = .ok (.iconst 0, 1) := by decide +kernel
theorem dX2_gainOf_39 : decode cX2_gainOf 39 = .ok (.iadd, 1) := by decide +kernel
theorem dX2_gainOf_40 : decode cX2_gainOf 40 = .ok (.istore_n 2, 1) := by decide +kernel
theorem dX2_gainOf_41 : decode cX2_gainOf 41 = .ok (.iload_n 2, 1) := by decide +kernel
theorem dX2_gainOf_42 : decode cX2_gainOf 42 = .ok (.aload_n 0, 1) := by decide +kernel
theorem dX2_gainOf_43 : decode cX2_gainOf 43 = .ok (.getfield 11, 3) := by decide +kernel
theorem dX2_gainOf_46 : decode cX2_gainOf 46 = .ok (.iload_n 3, 1) := by decide +kernel
theorem dX2_gainOf_47 : decode cX2_gainOf 47 = .ok (.aaload, 1) := by decide +kernel
theorem dX2_gainOf_48 : decode cX2_gainOf 48 = .ok (.getfield 62, 3) := by decide +kernel
theorem dX2_gainOf_51 : decode cX2_gainOf 51 = .ok (.iload_n 1, 1) := by decide +kernel
theorem dX2_gainOf_52 : decode cX2_gainOf 52 = .ok (.if_icmp .ne 15, 3) := by decide +kernel
theorem dX2_gainOf_67 : decode cX2_gainOf 67 = .ok (.iconst 0, 1) := by decide +kernel
theorem dX2_gainOf_68 : decode cX2_gainOf 68 = .ok (.isub, 1) := by decide +kernel
theorem dX2_gainOf_69 : decode cX2_gainOf 69 = .ok (.istore_n 2, 1) := by decide +kernel
theorem dX2_gainOf_70 : decode cX2_gainOf 70 = .ok (.iinc 3 1, 3) := by decide +kernel
theorem dX2_gainOf_73 : decode cX2_gainOf 73 = .ok (.goto (-69), 3) := by decide +kernel
theorem dX2_gainOf_55 : decode cX2_gainOf 55 = .ok (.aload_n 0, 1) := by decide +kernel
theorem dX2_gainOf_56 : decode cX2_gainOf 56 = .ok (.getfield 11, 3) := by decide +kernel
theorem dX2_gainOf_59 : decode cX2_gainOf 59 = .ok (.iload_n 3, 1) := by decide +kernel
theorem dX2_gainOf_60 : decode cX2_gainOf 60 = .ok (.aaload, 1) := by decide +kernel
theorem dX2_gainOf_61 : decode cX2_gainOf 61 = .ok (.getfield 65, 3) := by decide +kernel
theorem dX2_gainOf_64 : decode cX2_gainOf 64 = .ok (.goto 4, 3) := by decide +kernel
theorem dX2_gainOf_26 : decode cX2_gainOf 26 = .ok (.aload_n 0, 1) := by decide +kernel
theorem dX2_gainOf_27 : decode cX2_gainOf 27 = .ok (.getfield 11, 3) := by decide +kernel
theorem dX2_gainOf_30 : decode cX2_gainOf 30 = .ok (.iload_n 3, 1) := by decide +kernel
theorem dX2_gainOf_31 : decode cX2_gainOf 31 = .ok (.aaload, 1) := by decide +kernel
theorem dX2_gainOf_32 : decode cX2_gainOf 32 = .ok (.getfield 65, 3) := by decide +kernel
theorem dX2_gainOf_35 : decode cX2_gainOf 35 = .ok (.goto 4, 3) := by decide +kernel
set_option maxHeartbeats 4000000 in
set_option maxRecDepth 100000 in
/-- sx_gainOf -/
theorem sx_gainOf (l : Launch) (dC : Nat → ClassId) (dI : Nat → Nat → Nat) (cs : Nat → ClassId) (ad : Nat → Nat) (mu : Nat → Nat → Int32) (ok : okR loX hiX mu) (H : Heap) (hP : va_P (dC, dI) vwCl (wR 157 ad (EX cs ad) mu) H) (vx : Int32) : Met l yX2_gainOf (wU yX2_gainOf cX2_gainOf 4 (some .int)) ({ frames := 0, cells := 0, slots := 0, locals := 0 }) (va_Pc [.ref (ad 6), .int vx] (sz_P (dC, dI) vwCl (tyW cs) H)) (va_Qi (fun (z : Int32) (_ : Unit) => True) (fun _ t => t.heap = H) (fun _ => False)) 0 0 (fun _ => False) := by
  refine Met.ofW (cc := cX2_gainOf) (maxL := 4) (ret := (some .int)) (by decide) rfl ?_
  intro p e s m args below meth c s₁ B hml hv
  obtain ⟨rfl, hh, hK, hz⟩ := hv
  have hx := B.exec
  have hb := B.bytes
  have hr := B.returns
  have hts := atoms_spec (ws := (wU yX2_gainOf cX2_gainOf 4 (some .int))) B.pre
  have hown : s.vm.findClass RX2 = some m.cls := findClass_of_methodNamed B.named
  have hlocks := B.notSynchronized
  subst hh
  have hS : va_S (fun _ => False) s.heap s.heap [] := va_S.rf
  have hl := lv_entry ([.ref (ad 6), .int vx]) (n := 4) (Nat.le_of_ble_eq_true rfl)
  rw [lg_entry_eq]
  generalize (lg_sl ([.ref (ad 6), .int vx]) ++ List.replicate (4 - (lg_sl ([.ref (ad 6), .int vx])).length) Slot.unset).toArray = ls at hl ⊢
  have hl : lv_has ls 4 [(0, .ref (ad 6)), (1, .int vx)] := hl
  refine lv_iconst (v := 0) hx hb dX2_gainOf_0 (by decide) ?_
  refine lv_istore_n (lv' := [(2, .int 0), (0, .ref (ad 6)), (1, .int vx)]) hx hb dX2_gainOf_1 rfl hl (by decide) rfl (fun ls hl => ?_)
  refine lv_iconst (v := 0) hx hb dX2_gainOf_2 (by decide) ?_
  refine lv_istore_n (lv' := [(3, .int 0), (2, .int 0), (0, .ref (ad 6)), (1, .int vx)]) hx hb dX2_gainOf_3 rfl hl (by decide) rfl (fun ls hl => ?_)
  have loop4 : ∀ (n4 : Nat) (v2_4 : Int32) (v3_4 : Int32) (locs : List Loc) (ls : Array Slot), (40 + 1 - v3_4.toInt).toNat < n4 → (0 ≤ v3_4.toInt ∧ v3_4.toInt ≤ 40) → va_S (fun _ => False) s.heap s.heap locs → lv_has ls 4 [(3, .int v3_4), (2, .int v2_4), (0, .ref (ad 6)), (1, .int vx)] → W p l e (headSpec (wU yX2_gainOf cX2_gainOf 4 (some .int)) ({ frames := 0, cells := 0, slots := 0, locals := 0 })).room s m ([.ref (ad 6), .int vx] : List Value).toArray below meth c s.heap locs 0 0 (MQ below (va_Qi (fun (z : Int32) (_ : Unit) => True) (fun _ t => t.heap = s.heap) (fun _ => False)) ([.ref (ad 6), .int vx] : List Value).toArray s 0 0 (fun _ => False)) (F0 m 4 ls []) := by
    intro n4
    induction n4 with
    | zero => intro v2_4 v3_4 locs ls hm; exact absurd hm (Nat.not_lt_zero _)
    | succ n4 ih4 =>
      intro v2_4 v3_4 locs ls hm h_v3_4 hS hl
      refine lv_iload_n hx hb dX2_gainOf_4 rfl (lv_at hl 0 rfl) ?_
      refine lv_aload_n hx hb dX2_gainOf_5 rfl (lv_at hl 2 rfl) ?_
      refine va_get (D := (dC, dI)) (ci := 2) (v := .int (mu 6 1)) (C := RX2) (T := TX2) (N := 2) hx hb hts (fun w h => List.mem_cons_of_mem _ (inG2 w h)) hown hK hP 6 (gX_6 cs ad mu) rfl 1 (by decide) (hts (.fieldLink RX2 18 "DearLetters$Ledger" "size" "I") (List.mem_cons_of_mem _ (lg_at 2 7 (by decide +kernel) rfl))) (fun _ h9 => h9) rfl dX2_gainOf_6 ?_
      refine lv_topi (fun y1 ey1 => ?_)
      have by1 : y1.toInt = (mu 6 1).toInt := congrArg Int32.toInt ey1
      have gy1 : 0 ≤ y1.toInt ∧ y1.toInt ≤ 40 := by rw [ey1]; exact ok 6 1
      refine lv_icmp_ge (tgt := 76) hx hb dX2_gainOf_9 (by decide) (fun c_2 => ?_) (fun c_2 => ?_)
      · have c_2 : y1.toInt ≤ v3_4.toInt := il_le c_2
        refine lv_iload_n hx hb dX2_gainOf_76 rfl (lv_at hl 1 rfl) ?_
        exact W.iret (v := v2_4) hx hb hr (fun t ht hW => ⟨⟨v2_4, (), rfl, trivial, ht⟩, hS.F ht⟩) hS.2.2 dX2_gainOf_77
      · have c_2 : v3_4.toInt < y1.toInt := il_nle c_2
        refine lv_iload_n hx hb dX2_gainOf_12 rfl (lv_at hl 1 rfl) ?_
        refine lv_aload_n hx hb dX2_gainOf_13 rfl (lv_at hl 2 rfl) ?_
        refine va_get (D := (dC, dI)) (ci := 2) (v := .ref (ad 39)) (C := RX2) (T := TX2) (N := 2) hx hb hts (fun w h => List.mem_cons_of_mem _ (inG2 w h)) hown hK hP 6 (gX_6 cs ad mu) rfl 0 (by decide) (hts (.fieldLink RX2 11 "DearLetters$Ledger" "sales" "[LDearLetters$Sale;") (List.mem_cons_of_mem _ (lg_at 2 6 (by decide +kernel) rfl))) (fun _ h9 => h9) rfl dX2_gainOf_14 ?_
        refine lv_iload_n hx hb dX2_gainOf_17 rfl (lv_at hl 0 rfl) ?_
        refine va_aldq hx hb hK hP 39 6 (gX_39 cs ad mu) rfl (show vp_in v3_4 40 from vi_of (by omega) (by omega)) dX2_gainOf_18 ?_
        have hv3_4_c := tC_of (v := v3_4) (by omega)
        refine lq_v (.ref (ad (77 + v3_4.toNatClampNeg))) rfl ?_
        refine va_get (D := (dC, dI)) (ci := 7) (v := .int (mu (77 + v3_4.toNatClampNeg) 2)) (C := RX7) (T := TX7) (N := 7) hx hb hts (fun w h => List.mem_cons_of_mem _ (inG7 w h)) hown hK hP (77 + v3_4.toNatClampNeg) (gX_sale cs ad mu (77 + v3_4.toNatClampNeg) (by omega) (by omega)) rfl 2 (by decide) (hts (.fieldLink RX2 59 "DearLetters$Sale" "seller" "I") (List.mem_cons_of_mem _ (lg_at 1 226 (by decide +kernel) rfl))) (fun _ h9 => h9) rfl dX2_gainOf_19 ?_
        refine lv_topi (fun y3 ey3 => ?_)
        have by3 : y3.toInt = (mu (77 + v3_4.toNatClampNeg) 2).toInt := congrArg Int32.toInt ey3
        have gy3 : 0 ≤ y3.toInt ∧ y3.toInt ≤ 6 := by rw [ey3]; have h9 := ok (77 + v3_4.toNatClampNeg) 2; unfold loX hiX at h9; simp (discharger := omega) only [if_pos, if_neg, and_true, true_and] at h9; exact h9
        refine lv_iload_n hx hb dX2_gainOf_22 rfl (lv_at hl 3 rfl) ?_
        refine lv_icmp_ne (tgt := 38) hx hb dX2_gainOf_23 (by decide) (fun c_4 => ?_) (fun c_4 => ?_)
        · have c_4 : ¬ y3.toInt = vx.toInt := il_ne c_4
          refine lv_iconst (v := 0) hx hb dX2_gainOf_38 (by decide) ?_
          refine lv_iadd hx hb dX2_gainOf_39 ?_
          refine lv_topi (fun t5 et5 => ?_)
          have at5 : t5.toInt = v2_4.toInt + 0 := by rw [et5]; exact tI_add (rfl : v2_4.toInt = _) (rfl : (0 : Int32).toInt = 0) (by omega) (by omega)
          refine lv_istore_n (lv' := [(2, .int t5), (3, .int v3_4), (0, .ref (ad 6)), (1, .int vx)]) hx hb dX2_gainOf_40 rfl hl (by decide) rfl (fun ls hl => ?_)
          refine lv_iload_n hx hb dX2_gainOf_41 rfl (lv_at hl 0 rfl) ?_
          refine lv_aload_n hx hb dX2_gainOf_42 rfl (lv_at hl 2 rfl) ?_
          refine va_get (D := (dC, dI)) (ci := 2) (v := .ref (ad 39)) (C := RX2) (T := TX2) (N := 2) hx hb hts (fun w h => List.mem_cons_of_mem _ (inG2 w h)) hown hK hP 6 (gX_6 cs ad mu) rfl 0 (by decide) (hts (.fieldLink RX2 11 "DearLetters$Ledger" "sales" "[LDearLetters$Sale;") (List.mem_cons_of_mem _ (lg_at 2 6 (by decide +kernel) rfl))) (fun _ h9 => h9) rfl dX2_gainOf_43 ?_
          refine lv_iload_n hx hb dX2_gainOf_46 rfl (lv_at hl 1 rfl) ?_
          refine va_aldq hx hb hK hP 39 6 (gX_39 cs ad mu) rfl (show vp_in v3_4 40 from vi_of (by omega) (by omega)) dX2_gainOf_47 ?_
          have hv3_4_c := tC_of (v := v3_4) (by omega)
          refine lq_v (.ref (ad (77 + v3_4.toNatClampNeg))) rfl ?_
          refine va_get (D := (dC, dI)) (ci := 7) (v := .int (mu (77 + v3_4.toNatClampNeg) 3)) (C := RX7) (T := TX7) (N := 7) hx hb hts (fun w h => List.mem_cons_of_mem _ (inG7 w h)) hown hK hP (77 + v3_4.toNatClampNeg) (gX_sale cs ad mu (77 + v3_4.toNatClampNeg) (by omega) (by omega)) rfl 3 (by decide) (hts (.fieldLink RX2 62 "DearLetters$Sale" "buyer" "I") (List.mem_cons_of_mem _ (lg_at 1 227 (by decide +kernel) rfl))) (fun _ h9 => h9) rfl dX2_gainOf_48 ?_
          refine lv_topi (fun y6 ey6 => ?_)
          have by6 : y6.toInt = (mu (77 + v3_4.toNatClampNeg) 3).toInt := congrArg Int32.toInt ey6
          refine lv_iload_n hx hb dX2_gainOf_51 rfl (lv_at hl 3 rfl) ?_
          refine lv_icmp_ne (tgt := 67) hx hb dX2_gainOf_52 (by decide) (fun c_7 => ?_) (fun c_7 => ?_)
          · have c_7 : ¬ y6.toInt = vx.toInt := il_ne c_7
            refine lv_iconst (v := 0) hx hb dX2_gainOf_67 (by decide) ?_
            refine lv_isub hx hb dX2_gainOf_68 ?_
            refine lv_topi (fun t8 et8 => ?_)
            have at8 : t8.toInt = t5.toInt - 0 := by rw [et8]; exact tI_sub (rfl : t5.toInt = _) (rfl : (0 : Int32).toInt = 0) (by omega) (by omega)
            refine lv_istore_n (lv' := [(2, .int t8), (3, .int v3_4), (0, .ref (ad 6)), (1, .int vx)]) hx hb dX2_gainOf_69 rfl hl (by decide) rfl (fun ls hl => ?_)
            refine lv_iinc (v := (v3_4 + 1)) (lv' := [(3, .int (v3_4 + 1)), (2, .int t8), (0, .ref (ad 6)), (1, .int vx)]) hx hb dX2_gainOf_70 hl (k := 1) rfl rfl (by decide) rfl (fun ls hl => ?_)
            have a9 : (v3_4 + 1).toInt = v3_4.toInt + 1 := tI_add (rfl : v3_4.toInt = _) (rfl : (1 : Int32).toInt = 1) (by omega) (by omega)
            refine lv_goto (tgt := 4) hx hb dX2_gainOf_73 (by decide) ?_
            exact ih4 (t8) ((v3_4 + 1))  _ _ (by omega) (by exact ⟨by omega, by omega⟩)  hS (lv_sub hl [0, 1, 2, 3] rfl)
          · have c_7 : y6.toInt = vx.toInt := il_eq c_7
            refine lv_aload_n hx hb dX2_gainOf_55 rfl (lv_at hl 2 rfl) ?_
            refine va_get (D := (dC, dI)) (ci := 2) (v := .ref (ad 39)) (C := RX2) (T := TX2) (N := 2) hx hb hts (fun w h => List.mem_cons_of_mem _ (inG2 w h)) hown hK hP 6 (gX_6 cs ad mu) rfl 0 (by decide) (hts (.fieldLink RX2 11 "DearLetters$Ledger" "sales" "[LDearLetters$Sale;") (List.mem_cons_of_mem _ (lg_at 2 6 (by decide +kernel) rfl))) (fun _ h9 => h9) rfl dX2_gainOf_56 ?_
            refine lv_iload_n hx hb dX2_gainOf_59 rfl (lv_at hl 1 rfl) ?_
            refine va_aldq hx hb hK hP 39 6 (gX_39 cs ad mu) rfl (show vp_in v3_4 40 from vi_of (by omega) (by omega)) dX2_gainOf_60 ?_
            have hv3_4_c := tC_of (v := v3_4) (by omega)
            refine lq_v (.ref (ad (77 + v3_4.toNatClampNeg))) rfl ?_
            refine va_get (D := (dC, dI)) (ci := 7) (v := .int (mu (77 + v3_4.toNatClampNeg) 4)) (C := RX7) (T := TX7) (N := 7) hx hb hts (fun w h => List.mem_cons_of_mem _ (inG7 w h)) hown hK hP (77 + v3_4.toNatClampNeg) (gX_sale cs ad mu (77 + v3_4.toNatClampNeg) (by omega) (by omega)) rfl 4 (by decide) (hts (.fieldLink RX2 65 "DearLetters$Sale" "price" "I") (List.mem_cons_of_mem _ (lg_at 1 228 (by decide +kernel) rfl))) (fun _ h9 => h9) rfl dX2_gainOf_61 ?_
            refine lv_topi (fun y10 ey10 => ?_)
            have by10 : y10.toInt = (mu (77 + v3_4.toNatClampNeg) 4).toInt := congrArg Int32.toInt ey10
            refine lv_goto (tgt := 68) hx hb dX2_gainOf_64 (by decide) ?_
            refine lv_isub hx hb dX2_gainOf_68 ?_
            refine lv_topi (fun t11 et11 => ?_)
            refine lv_istore_n (lv' := [(2, .int t11), (3, .int v3_4), (0, .ref (ad 6)), (1, .int vx)]) hx hb dX2_gainOf_69 rfl hl (by decide) rfl (fun ls hl => ?_)
            refine lv_iinc (v := (v3_4 + 1)) (lv' := [(3, .int (v3_4 + 1)), (2, .int t11), (0, .ref (ad 6)), (1, .int vx)]) hx hb dX2_gainOf_70 hl (k := 1) rfl rfl (by decide) rfl (fun ls hl => ?_)
            have a12 : (v3_4 + 1).toInt = v3_4.toInt + 1 := tI_add (rfl : v3_4.toInt = _) (rfl : (1 : Int32).toInt = 1) (by omega) (by omega)
            refine lv_goto (tgt := 4) hx hb dX2_gainOf_73 (by decide) ?_
            exact ih4 (t11) ((v3_4 + 1))  _ _ (by omega) (by exact ⟨by omega, by omega⟩)  hS (lv_sub hl [0, 1, 2, 3] rfl)
        · have c_4 : y3.toInt = vx.toInt := il_eq c_4
          refine lv_aload_n hx hb dX2_gainOf_26 rfl (lv_at hl 2 rfl) ?_
          refine va_get (D := (dC, dI)) (ci := 2) (v := .ref (ad 39)) (C := RX2) (T := TX2) (N := 2) hx hb hts (fun w h => List.mem_cons_of_mem _ (inG2 w h)) hown hK hP 6 (gX_6 cs ad mu) rfl 0 (by decide) (hts (.fieldLink RX2 11 "DearLetters$Ledger" "sales" "[LDearLetters$Sale;") (List.mem_cons_of_mem _ (lg_at 2 6 (by decide +kernel) rfl))) (fun _ h9 => h9) rfl dX2_gainOf_27 ?_
          refine lv_iload_n hx hb dX2_gainOf_30 rfl (lv_at hl 0 rfl) ?_
          refine va_aldq hx hb hK hP 39 6 (gX_39 cs ad mu) rfl (show vp_in v3_4 40 from vi_of (by omega) (by omega)) dX2_gainOf_31 ?_
          have hv3_4_c := tC_of (v := v3_4) (by omega)
          refine lq_v (.ref (ad (77 + v3_4.toNatClampNeg))) rfl ?_
          refine va_get (D := (dC, dI)) (ci := 7) (v := .int (mu (77 + v3_4.toNatClampNeg) 4)) (C := RX7) (T := TX7) (N := 7) hx hb hts (fun w h => List.mem_cons_of_mem _ (inG7 w h)) hown hK hP (77 + v3_4.toNatClampNeg) (gX_sale cs ad mu (77 + v3_4.toNatClampNeg) (by omega) (by omega)) rfl 4 (by decide) (hts (.fieldLink RX2 65 "DearLetters$Sale" "price" "I") (List.mem_cons_of_mem _ (lg_at 1 228 (by decide +kernel) rfl))) (fun _ h9 => h9) rfl dX2_gainOf_32 ?_
          refine lv_topi (fun y13 ey13 => ?_)
          have by13 : y13.toInt = (mu (77 + v3_4.toNatClampNeg) 4).toInt := congrArg Int32.toInt ey13
          refine lv_goto (tgt := 39) hx hb dX2_gainOf_35 (by decide) ?_
          refine lv_iadd hx hb dX2_gainOf_39 ?_
          refine lv_topi (fun t14 et14 => ?_)
          refine lv_istore_n (lv' := [(2, .int t14), (3, .int v3_4), (0, .ref (ad 6)), (1, .int vx)]) hx hb dX2_gainOf_40 rfl hl (by decide) rfl (fun ls hl => ?_)
          refine lv_iload_n hx hb dX2_gainOf_41 rfl (lv_at hl 0 rfl) ?_
          refine lv_aload_n hx hb dX2_gainOf_42 rfl (lv_at hl 2 rfl) ?_
          refine va_get (D := (dC, dI)) (ci := 2) (v := .ref (ad 39)) (C := RX2) (T := TX2) (N := 2) hx hb hts (fun w h => List.mem_cons_of_mem _ (inG2 w h)) hown hK hP 6 (gX_6 cs ad mu) rfl 0 (by decide) (hts (.fieldLink RX2 11 "DearLetters$Ledger" "sales" "[LDearLetters$Sale;") (List.mem_cons_of_mem _ (lg_at 2 6 (by decide +kernel) rfl))) (fun _ h9 => h9) rfl dX2_gainOf_43 ?_
          refine lv_iload_n hx hb dX2_gainOf_46 rfl (lv_at hl 1 rfl) ?_
          refine va_aldq hx hb hK hP 39 6 (gX_39 cs ad mu) rfl (show vp_in v3_4 40 from vi_of (by omega) (by omega)) dX2_gainOf_47 ?_
          have hv3_4_c := tC_of (v := v3_4) (by omega)
          refine lq_v (.ref (ad (77 + v3_4.toNatClampNeg))) rfl ?_
          refine va_get (D := (dC, dI)) (ci := 7) (v := .int (mu (77 + v3_4.toNatClampNeg) 3)) (C := RX7) (T := TX7) (N := 7) hx hb hts (fun w h => List.mem_cons_of_mem _ (inG7 w h)) hown hK hP (77 + v3_4.toNatClampNeg) (gX_sale cs ad mu (77 + v3_4.toNatClampNeg) (by omega) (by omega)) rfl 3 (by decide) (hts (.fieldLink RX2 62 "DearLetters$Sale" "buyer" "I") (List.mem_cons_of_mem _ (lg_at 1 227 (by decide +kernel) rfl))) (fun _ h9 => h9) rfl dX2_gainOf_48 ?_
          refine lv_topi (fun y15 ey15 => ?_)
          have by15 : y15.toInt = (mu (77 + v3_4.toNatClampNeg) 3).toInt := congrArg Int32.toInt ey15
          refine lv_iload_n hx hb dX2_gainOf_51 rfl (lv_at hl 3 rfl) ?_
          refine lv_icmp_ne (tgt := 67) hx hb dX2_gainOf_52 (by decide) (fun c_16 => ?_) (fun c_16 => ?_)
          · have c_16 : ¬ y15.toInt = vx.toInt := il_ne c_16
            refine lv_iconst (v := 0) hx hb dX2_gainOf_67 (by decide) ?_
            refine lv_isub hx hb dX2_gainOf_68 ?_
            refine lv_topi (fun t17 et17 => ?_)
            have at17 : t17.toInt = t14.toInt - 0 := by rw [et17]; exact tI_sub (rfl : t14.toInt = _) (rfl : (0 : Int32).toInt = 0) (by omega) (by omega)
            refine lv_istore_n (lv' := [(2, .int t17), (3, .int v3_4), (0, .ref (ad 6)), (1, .int vx)]) hx hb dX2_gainOf_69 rfl hl (by decide) rfl (fun ls hl => ?_)
            refine lv_iinc (v := (v3_4 + 1)) (lv' := [(3, .int (v3_4 + 1)), (2, .int t17), (0, .ref (ad 6)), (1, .int vx)]) hx hb dX2_gainOf_70 hl (k := 1) rfl rfl (by decide) rfl (fun ls hl => ?_)
            have a18 : (v3_4 + 1).toInt = v3_4.toInt + 1 := tI_add (rfl : v3_4.toInt = _) (rfl : (1 : Int32).toInt = 1) (by omega) (by omega)
            refine lv_goto (tgt := 4) hx hb dX2_gainOf_73 (by decide) ?_
            exact ih4 (t17) ((v3_4 + 1))  _ _ (by omega) (by exact ⟨by omega, by omega⟩)  hS (lv_sub hl [0, 1, 2, 3] rfl)
          · have c_16 : y15.toInt = vx.toInt := il_eq c_16
            refine lv_aload_n hx hb dX2_gainOf_55 rfl (lv_at hl 2 rfl) ?_
            refine va_get (D := (dC, dI)) (ci := 2) (v := .ref (ad 39)) (C := RX2) (T := TX2) (N := 2) hx hb hts (fun w h => List.mem_cons_of_mem _ (inG2 w h)) hown hK hP 6 (gX_6 cs ad mu) rfl 0 (by decide) (hts (.fieldLink RX2 11 "DearLetters$Ledger" "sales" "[LDearLetters$Sale;") (List.mem_cons_of_mem _ (lg_at 2 6 (by decide +kernel) rfl))) (fun _ h9 => h9) rfl dX2_gainOf_56 ?_
            refine lv_iload_n hx hb dX2_gainOf_59 rfl (lv_at hl 1 rfl) ?_
            refine va_aldq hx hb hK hP 39 6 (gX_39 cs ad mu) rfl (show vp_in v3_4 40 from vi_of (by omega) (by omega)) dX2_gainOf_60 ?_
            have hv3_4_c := tC_of (v := v3_4) (by omega)
            refine lq_v (.ref (ad (77 + v3_4.toNatClampNeg))) rfl ?_
            refine va_get (D := (dC, dI)) (ci := 7) (v := .int (mu (77 + v3_4.toNatClampNeg) 4)) (C := RX7) (T := TX7) (N := 7) hx hb hts (fun w h => List.mem_cons_of_mem _ (inG7 w h)) hown hK hP (77 + v3_4.toNatClampNeg) (gX_sale cs ad mu (77 + v3_4.toNatClampNeg) (by omega) (by omega)) rfl 4 (by decide) (hts (.fieldLink RX2 65 "DearLetters$Sale" "price" "I") (List.mem_cons_of_mem _ (lg_at 1 228 (by decide +kernel) rfl))) (fun _ h9 => h9) rfl dX2_gainOf_61 ?_
            refine lq_i y13 (by first | (rw [ey13]; done) | (rw [ey13]; rfl) | (rw [ey13]; simp (discharger := omega) only [va_up, if_neg])) ?_
            refine lv_goto (tgt := 68) hx hb dX2_gainOf_64 (by decide) ?_
            refine lv_isub hx hb dX2_gainOf_68 ?_
            refine lv_topi (fun t19 et19 => ?_)
            refine lv_istore_n (lv' := [(2, .int t19), (3, .int v3_4), (0, .ref (ad 6)), (1, .int vx)]) hx hb dX2_gainOf_69 rfl hl (by decide) rfl (fun ls hl => ?_)
            refine lv_iinc (v := (v3_4 + 1)) (lv' := [(3, .int (v3_4 + 1)), (2, .int t19), (0, .ref (ad 6)), (1, .int vx)]) hx hb dX2_gainOf_70 hl (k := 1) rfl rfl (by decide) rfl (fun ls hl => ?_)
            have a20 : (v3_4 + 1).toInt = v3_4.toInt + 1 := tI_add (rfl : v3_4.toInt = _) (rfl : (1 : Int32).toInt = 1) (by omega) (by omega)
            refine lv_goto (tgt := 4) hx hb dX2_gainOf_73 (by decide) ?_
            exact ih4 (t19) ((v3_4 + 1))  _ _ (by omega) (by exact ⟨by omega, by omega⟩)  hS (lv_sub hl [0, 1, 2, 3] rfl)
  exact loop4 ((40 + 1 - (0 : Int32).toInt).toNat + 1) (0) (0)  _ _ (Nat.lt_succ_self _) (by have h8 : (0 : Int32).toInt = 0 := rfl; exact ⟨by omega, by omega⟩)  hS hl
theorem dX11_bitAt_0 : decode cX11_bitAt 0 = .ok (.iload_n 1, 1) := by decide +kernel
theorem dX11_bitAt_1 : decode cX11_bitAt 1 = .ok (.istore_n 2, 1) := by decide +kernel
theorem dX11_bitAt_2 : decode cX11_bitAt 2 = .ok (.iconst 0, 1) := by decide +kernel
theorem dX11_bitAt_3 : decode cX11_bitAt 3 = .ok (.istore_n 3, 1) := by decide +kernel
theorem dX11_bitAt_4 : decode cX11_bitAt 4 = .ok (.iload_n 3, 1) := by decide +kernel
theorem dX11_bitAt_5 : decode cX11_bitAt 5 = .ok (.bipush 7, 2) := by decide +kernel
theorem dX11_bitAt_7 : decode cX11_bitAt 7 = .ok (.if_icmp .ge 29, 3) := by decide +kernel
theorem dX11_bitAt_36 : decode cX11_bitAt 36 = .ok (.iconst 0, 1) := by decide +kernel
theorem dX11_bitAt_37 : decode cX11_bitAt 37 = .ok (.ireturn, 1) := by decide +kernel
theorem dX11_bitAt_10 : decode cX11_bitAt 10 = .ok (.iload_n 0, 1) := by decide +kernel
theorem dX11_bitAt_11 : decode cX11_bitAt 11 = .ok (.iload_n 3, 1) := by decide +kernel
theorem dX11_bitAt_12 : decode cX11_bitAt 12 = .ok (.invokestatic 209, 3) := by decide +kernel
theorem dX11_bitAt_15 : decode cX11_bitAt 15 = .ok (.ifCond .ne 6, 3) := by decide +kernel
theorem dX11_bitAt_21 : decode cX11_bitAt 21 = .ok (.iload_n 2, 1) := by decide +kernel
theorem dX11_bitAt_22 : decode cX11_bitAt 22 = .ok (.ifCond .ne 5, 3) := by decide +kernel
theorem dX11_bitAt_27 : decode cX11_bitAt 27 = .ok (.iinc 2 (-1), 3) := by decide +kernel
theorem dX11_bitAt_30 : decode cX11_bitAt 30 = .ok (.iinc 3 1, 3) := by decide +kernel
theorem dX11_bitAt_33 : decode cX11_bitAt 33 = .ok (.goto (-29), 3) := by decide +kernel
theorem dX11_bitAt_25 : decode cX11_bitAt 25 = .ok (.iload_n 3, 1) := by decide +kernel
theorem dX11_bitAt_26 : decode cX11_bitAt 26 = .ok (.ireturn, 1) := by decide +kernel
theorem dX11_bitAt_18 : decode cX11_bitAt 18 = .ok (.goto 12, 3) := by decide +kernel
set_option maxHeartbeats 4000000 in
set_option maxRecDepth 100000 in
/-- sx_bitAt -/
theorem sx_bitAt (l : Launch) (dC : Nat → ClassId) (dI : Nat → Nat → Nat) (tys : List (ClassId × FieldType)) (H : Heap) (va : Int32) (vb : Int32) : Met l yX11_bitAt (wU yX11_bitAt cX11_bitAt 4 (some .int)) ({ frames := 1, cells := 0, slots := 0, locals := 21 }) (va_Pc [.int va, .int vb] (sz_P (dC, dI) vwCl tys H)) (va_Qi (fun (z : Int32) (_ : Unit) => 0 ≤ z.toInt ∧ z.toInt ≤ 6) (fun _ t => t.heap = H) (fun _ => False)) 0 0 (fun _ => False) := by
  refine Met.ofW (cc := cX11_bitAt) (maxL := 4) (ret := (some .int)) (by decide) rfl ?_
  intro p e s m args below meth c s₁ B hml hv
  obtain ⟨rfl, hh, hK, hz⟩ := hv
  have hx := B.exec
  have hb := B.bytes
  have hr := B.returns
  have hts := atoms_spec (ws := (wU yX11_bitAt cX11_bitAt 4 (some .int))) B.pre
  have hown : s.vm.findClass RX11 = some m.cls := findClass_of_methodNamed B.named
  have hlocks := B.notSynchronized
  subst hh
  have hS : va_S (fun _ => False) s.heap s.heap [] := va_S.rf
  have hl := lv_entry ([.int va, .int vb]) (n := 4) (Nat.le_of_ble_eq_true rfl)
  rw [lg_entry_eq]
  generalize (lg_sl ([.int va, .int vb]) ++ List.replicate (4 - (lg_sl ([.int va, .int vb])).length) Slot.unset).toArray = ls at hl ⊢
  have hl : lv_has ls 4 [(0, .int va), (1, .int vb)] := hl
  refine lv_iload_n hx hb dX11_bitAt_0 rfl (lv_at hl 1 rfl) ?_
  refine lv_istore_n (lv' := [(2, .int vb), (0, .int va), (1, .int vb)]) hx hb dX11_bitAt_1 rfl hl (by decide) rfl (fun ls hl => ?_)
  refine lv_iconst (v := 0) hx hb dX11_bitAt_2 (by decide) ?_
  refine lv_istore_n (lv' := [(3, .int 0), (2, .int vb), (0, .int va), (1, .int vb)]) hx hb dX11_bitAt_3 rfl hl (by decide) rfl (fun ls hl => ?_)
  have loop4 : ∀ (n4 : Nat) (v2_4 : Int32) (v3_4 : Int32) (locs : List Loc) (ls : Array Slot), (7 + 1 - v3_4.toInt).toNat < n4 → (0 ≤ v3_4.toInt ∧ v3_4.toInt ≤ 7) → va_S (fun _ => False) s.heap s.heap locs → lv_has ls 4 [(3, .int v3_4), (2, .int v2_4), (0, .int va), (1, .int vb)] → W p l e (headSpec (wU yX11_bitAt cX11_bitAt 4 (some .int)) ({ frames := 1, cells := 0, slots := 0, locals := 21 })).room s m ([.int va, .int vb] : List Value).toArray below meth c s.heap locs 0 0 (MQ below (va_Qi (fun (z : Int32) (_ : Unit) => 0 ≤ z.toInt ∧ z.toInt ≤ 6) (fun _ t => t.heap = s.heap) (fun _ => False)) ([.int va, .int vb] : List Value).toArray s 0 0 (fun _ => False)) (F0 m 4 ls []) := by
    intro n4
    induction n4 with
    | zero => intro v2_4 v3_4 locs ls hm; exact absurd hm (Nat.not_lt_zero _)
    | succ n4 ih4 =>
      intro v2_4 v3_4 locs ls hm h_v3_4 hS hl
      refine lv_iload_n hx hb dX11_bitAt_4 rfl (lv_at hl 0 rfl) ?_
      refine lv_bipush (v := 7) hx hb dX11_bitAt_5 (by decide) ?_
      refine lv_icmp_ge (tgt := 36) hx hb dX11_bitAt_7 (by decide) (fun c_1 => ?_) (fun c_1 => ?_)
      · have c_1 : 7 ≤ v3_4.toInt := il_le c_1
        refine lv_iconst (v := 0) hx hb dX11_bitAt_36 (by decide) ?_
        exact W.iret (v := 0) hx hb hr (fun t ht hW => ⟨⟨0, (), rfl, (by have h6 : (0 : Int32).toInt = 0 := rfl; omega), ht⟩, hS.F ht⟩) hS.2.2 dX11_bitAt_37
      · have c_1 : v3_4.toInt < 7 := il_nle c_1
        refine lv_iload_n hx hb dX11_bitAt_10 rfl (lv_at hl 2 rfl) ?_
        refine lv_iload_n hx hb dX11_bitAt_11 rfl (lv_at hl 0 rfl) ?_
        refine cr_i (va_runS (As := [.int va, .int v3_4]) (rest := []) ⟨hx, hb, hml, hown, hts⟩ (sx_hasBit l dC dI (tyW cs) s.heap va v3_4) (va_cwS 2 hts (wU_S (lg_at 3 87 (by decide +kernel) rfl) (lg_at 3 174 (by decide +kernel) rfl) (lg_at 3 86 (by decide +kernel) rfl) (lg_at 1 1 (by decide +kernel) rfl)) rfl rfl rfl (by decide +kernel) ⟨Nat.le_of_ble_eq_true rfl, Nat.le_of_ble_eq_true rfl⟩) ⟨sz_c, sz_m hK hz⟩ rfl rfl hl.1 rfl (lv_room (Nat.le_of_ble_eq_true rfl)) dX11_bitAt_12 ⟨Nat.zero_le _, Nat.zero_le _⟩) hS (fun r2 hw2 locs hS => ?_)
        have gr2 : 0 ≤ r2.toInt ∧ r2.toInt ≤ 1 := hw2
        refine lv_if_ne (tgt := 21) hx hb dX11_bitAt_15 (by decide) (fun c_3 => ?_) (fun c_3 => ?_)
        · have c_3 : ¬ r2.toInt = 0 := il_ne c_3
          refine lv_iload_n hx hb dX11_bitAt_21 rfl (lv_at hl 1 rfl) ?_
          refine lv_if_ne (tgt := 27) hx hb dX11_bitAt_22 (by decide) (fun c_4 => ?_) (fun c_4 => ?_)
          · have c_4 : ¬ v2_4.toInt = 0 := il_ne c_4
            refine lv_iinc (v := (v2_4 + (-1))) (lv' := [(2, .int (v2_4 + (-1))), (3, .int v3_4), (0, .int va), (1, .int vb)]) hx hb dX11_bitAt_27 hl (k := 1) rfl rfl (by decide) rfl (fun ls hl => ?_)
            refine lv_iinc (v := (v3_4 + 1)) (lv' := [(3, .int (v3_4 + 1)), (2, .int (v2_4 + (-1))), (0, .int va), (1, .int vb)]) hx hb dX11_bitAt_30 hl (k := 1) rfl rfl (by decide) rfl (fun ls hl => ?_)
            have a5 : (v3_4 + 1).toInt = v3_4.toInt + 1 := tI_add (rfl : v3_4.toInt = _) (rfl : (1 : Int32).toInt = 1) (by omega) (by omega)
            refine lv_goto (tgt := 4) hx hb dX11_bitAt_33 (by decide) ?_
            exact ih4 ((v2_4 + (-1))) ((v3_4 + 1))  _ _ (by omega) (by exact ⟨by omega, by omega⟩)  hS (lv_sub hl [0, 1, 2, 3] rfl)
          · have c_4 : v2_4.toInt = 0 := il_eq c_4
            refine lv_iload_n hx hb dX11_bitAt_25 rfl (lv_at hl 0 rfl) ?_
            exact W.iret (v := v3_4) hx hb hr (fun t ht hW => ⟨⟨v3_4, (), rfl, (by omega), ht⟩, hS.F ht⟩) hS.2.2 dX11_bitAt_26
        · have c_3 : r2.toInt = 0 := il_eq c_3
          refine lv_goto (tgt := 30) hx hb dX11_bitAt_18 (by decide) ?_
          refine lv_iinc (v := (v3_4 + 1)) (lv' := [(3, .int (v3_4 + 1)), (2, .int v2_4), (0, .int va), (1, .int vb)]) hx hb dX11_bitAt_30 hl (k := 0) rfl rfl (by decide) rfl (fun ls hl => ?_)
          have a6 : (v3_4 + 1).toInt = v3_4.toInt + 1 := tI_add (rfl : v3_4.toInt = _) (rfl : (1 : Int32).toInt = 1) (by omega) (by omega)
          refine lv_goto (tgt := 4) hx hb dX11_bitAt_33 (by decide) ?_
          exact ih4 (v2_4) ((v3_4 + 1))  _ _ (by omega) (by exact ⟨by omega, by omega⟩)  hS (lv_sub hl [0, 1, 2, 3] rfl)
  exact loop4 ((7 + 1 - (0 : Int32).toInt).toNat + 1) (vb) (0)  _ _ (Nat.lt_succ_self _) (by have h8 : (0 : Int32).toInt = 0 := rfl; exact ⟨by omega, by omega⟩)  hS hl
