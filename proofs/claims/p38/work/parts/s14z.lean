set_option maxHeartbeats 4000000 in
set_option maxRecDepth 100000 in
/-- sx_worthOn -/
theorem sx_worthOn (l : Launch) (dC : Nat → ClassId) (dI : Nat → Nat → Nat) (cs : Nat → ClassId) (ad : Nat → Nat) (mu : Nat → Nat → Int32) (ok : okR loX hiX mu) (H : Heap) (hP : va_P (dC, dI) vwCl (wR 157 ad (EX cs ad) mu) H) (kk : Nat) (h1kk : 61 ≤ kk) (h2kk : kk < 77) (vd : Int32) : Met l yX3_worthOn (wU yX3_worthOn cX3_worthOn 2 (some .int)) ({ frames := 1, cells := 0, slots := 0, locals := 30 }) (va_Pc [.ref (ad kk), .int vd] (sz_P (dC, dI) vwCl (tyW cs) H)) (va_Qi (fun (z : Int32) (_ : Unit) => z = F_sx_worthOn mu kk vd ∧ (True)) (fun _ t => t.heap = H) (fun _ => False)) 0 0 (fun _ => False) := by
  refine Met.ofW (cc := cX3_worthOn) (maxL := 2) (ret := (some .int)) (by decide) rfl ?_
  intro p e s m args below meth c s₁ B hml hv
  obtain ⟨rfl, hh, hK, hz⟩ := hv
  have hx := B.exec
  have hb := B.bytes
  have hr := B.returns
  have hts := atoms_spec (ws := (wU yX3_worthOn cX3_worthOn 2 (some .int))) B.pre
  have hown : s.vm.findClass RX3 = some m.cls := findClass_of_methodNamed B.named
  have hlocks := B.notSynchronized
  subst hh
  have hS : va_S (fun _ => False) s.heap s.heap [] := va_S.rf
  have hl := lv_entry ([.ref (ad kk), .int vd]) (n := 2) (Nat.le_of_ble_eq_true rfl)
  rw [lg_entry_eq]
  generalize (lg_sl ([.ref (ad kk), .int vd]) ++ List.replicate (2 - (lg_sl ([.ref (ad kk), .int vd])).length) Slot.unset).toArray = ls at hl ⊢
  have hl : lv_has ls 2 [(0, .ref (ad kk)), (1, .int vd)] := hl
  obtain ⟨fz, hfz⟩ : ∃ z, F_sx_worthOn mu kk vd = z := ⟨_, rfl⟩
  have hF := hfz
  unfold F_sx_worthOn at hF
  refine lv_iconst (v := 0) hx hb dX3_worthOn_0 (by decide) ?_
  refine lv_aload_n hx hb dX3_worthOn_1 rfl (lv_at hl 0 rfl) ?_
  refine va_get (D := (dC, dI)) (ci := 3) (v := .int (mu kk 2)) (C := RX3) (T := TX3) (N := 10) hx hb hts inG3 hown hK hP kk (gX_letter cs ad mu kk h1kk h2kk) rfl 2 (by decide) (hts _ (List.mem_cons_of_mem _ mw_1_57)) (fun _ h9 => h9) rfl dX3_worthOn_2 ?_
  refine lv_topi (fun y1 ey1 => ?_)
  have hF := mi_let hF ey1
  have by1 : y1.toInt = (mu kk 2).toInt := congrArg Int32.toInt ey1
  refine lv_aload_n hx hb dX3_worthOn_5 rfl (lv_at hl 0 rfl) ?_
  refine va_get (D := (dC, dI)) (ci := 3) (v := .int (mu kk 3)) (C := RX3) (T := TX3) (N := 10) hx hb hts inG3 hown hK hP kk (gX_letter cs ad mu kk h1kk h2kk) rfl 3 (by decide) (hts _ (List.mem_cons_of_mem _ mw_1_58)) (fun _ h9 => h9) rfl dX3_worthOn_6 ?_
  refine lv_topi (fun y2 ey2 => ?_)
  have hF := mi_let hF ey2
  have by2 : y2.toInt = (mu kk 3).toInt := congrArg Int32.toInt ey2
  refine lv_iload_n hx hb dX3_worthOn_9 rfl (lv_at hl 1 rfl) ?_
  refine lv_aload_n hx hb dX3_worthOn_10 rfl (lv_at hl 0 rfl) ?_
  refine va_get (D := (dC, dI)) (ci := 3) (v := .int (mu kk 4)) (C := RX3) (T := TX3) (N := 10) hx hb hts inG3 hown hK hP kk (gX_letter cs ad mu kk h1kk h2kk) rfl 4 (by decide) (hts _ (List.mem_cons_of_mem _ mw_1_60)) (fun _ h9 => h9) rfl dX3_worthOn_11 ?_
  refine lv_topi (fun y3 ey3 => ?_)
  have hF := mi_let hF ey3
  have by3 : y3.toInt = (mu kk 4).toInt := congrArg Int32.toInt ey3
  refine lv_isub hx hb dX3_worthOn_14 ?_
  refine lv_topi (fun t4 et4 => ?_)
  have hF := mi_let hF et4
  refine lv_imul hx hb dX3_worthOn_15 ?_
  refine lv_topi (fun t5 et5 => ?_)
  have hF := mi_let hF et5
  refine lv_isub hx hb dX3_worthOn_16 ?_
  refine lv_topi (fun t6 et6 => ?_)
  have hF := mi_let hF et6
  refine va_mmax hx hb (hml.trans hl.1.symm) hown (hts _ (List.mem_cons_of_mem _ mw_3_171)) (hts _ (List.mem_cons_of_mem _ mw_3_172)) (hts _ (List.mem_cons_of_mem _ mw_1_17)) (hts _ (List.mem_cons_of_mem _ mw_3_173)) (Nat.le_of_ble_eq_true rfl) (Nat.le_of_ble_eq_true rfl) (Nat.zero_le _) (Nat.zero_le _) dX3_worthOn_17 ?_
  refine lv_topi (fun t7 et7 => ?_)
  have hF := mi_let hF et7
  exact W.iret (v := t7) hx hb hr (fun t ht hW => ⟨⟨t7, (), rfl, ⟨hF.trans hfz.symm, trivial⟩, ht⟩, hS.F ht⟩) hS.2.2 dX3_worthOn_20
set_option maxHeartbeats 4000000 in
set_option maxRecDepth 100000 in
/-- sx_fact -/
theorem sx_fact (l : Launch) (dC : Nat → ClassId) (dI : Nat → Nat → Nat) (cs : Nat → ClassId) (ad : Nat → Nat) (mu : Nat → Nat → Int32) (ok : okR loX hiX mu) (H : Heap) (hP : va_P (dC, dI) vwCl (wR 157 ad (EX cs ad) mu) H) (kk : Nat) (h1kk : 61 ≤ kk) (h2kk : kk < 77) (vw : Int32) (vd : Int32) : Met l yX3_fact (wU yX3_fact cX3_fact 3 (some .int)) ({ frames := 2, cells := 0, slots := 0, locals := 51 }) (va_Pc [.ref (ad kk), .int vw, .int vd] (sz_P (dC, dI) vwCl (tyW cs) H)) (va_Qi (fun (z : Int32) (_ : Unit) => z = F_sx_fact mu kk vw vd ∧ (True)) (fun _ t => t.heap = H) (fun _ => False)) 0 0 (fun _ => False) := by
  refine Met.ofW (cc := cX3_fact) (maxL := 3) (ret := (some .int)) (by decide) rfl ?_
  intro p e s m args below meth c s₁ B hml hv
  obtain ⟨rfl, hh, hK, hz⟩ := hv
  have hx := B.exec
  have hb := B.bytes
  have hr := B.returns
  have hts := atoms_spec (ws := (wU yX3_fact cX3_fact 3 (some .int))) B.pre
  have hown : s.vm.findClass RX3 = some m.cls := findClass_of_methodNamed B.named
  have hlocks := B.notSynchronized
  subst hh
  have hS : va_S (fun _ => False) s.heap s.heap [] := va_S.rf
  have hl := lv_entry ([.ref (ad kk), .int vw, .int vd]) (n := 3) (Nat.le_of_ble_eq_true rfl)
  rw [lg_entry_eq]
  generalize (lg_sl ([.ref (ad kk), .int vw, .int vd]) ++ List.replicate (3 - (lg_sl ([.ref (ad kk), .int vw, .int vd])).length) Slot.unset).toArray = ls at hl ⊢
  have hl : lv_has ls 3 [(0, .ref (ad kk)), (1, .int vw), (2, .int vd)] := hl
  obtain ⟨fz, hfz⟩ : ∃ z, F_sx_fact mu kk vw vd = z := ⟨_, rfl⟩
  have hF := hfz
  unfold F_sx_fact at hF
  refine lv_iload_n hx hb dX3_fact_0 rfl (lv_at hl 1 rfl) ?_
  by_cases w1 : vw.toInt < 0 ∨ 3 < vw.toInt
  · refine lv_tableOut (tgt := 61) hx hb dX3_fact_1 w1 (by decide) ?_
    have hF := (if_pos w1).symm.trans hF
    refine lv_aload_n hx hb dX3_fact_61 rfl (lv_at hl 0 rfl) ?_
    refine va_get (D := (dC, dI)) (ci := 3) (v := .int (mu kk 8)) (C := RX3) (T := TX3) (N := 10) hx hb hts inG3 hown hK hP kk (gX_letter cs ad mu kk h1kk h2kk) rfl 8 (by decide) (hts _ (List.mem_cons_of_mem _ mw_1_75)) (fun _ h9 => h9) rfl dX3_fact_62 ?_
    refine lv_topi (fun y2 ey2 => ?_)
    have hF := mi_let hF ey2
    have by2 : y2.toInt = (mu kk 8).toInt := congrArg Int32.toInt ey2
    exact W.iret (v := y2) hx hb hr (fun t ht hW => ⟨⟨y2, (), rfl, ⟨hF.trans hfz.symm, trivial⟩, ht⟩, hS.F ht⟩) hS.2.2 dX3_fact_65
  have hF := (if_neg w1).symm.trans hF
  by_cases w1_0 : vw.toInt = 0
  · refine lv_tableIn (off := 31) (tgt := 32) hx hb dX3_fact_1 (by omega) (by omega) (by rw [w1_0]; rfl) (by decide) ?_
    have hF := (if_pos w1_0).symm.trans hF
    refine lv_aload_n hx hb dX3_fact_32 rfl (lv_at hl 0 rfl) ?_
    refine va_get (D := (dC, dI)) (ci := 3) (v := .int (mu kk 0)) (C := RX3) (T := TX3) (N := 10) hx hb hts inG3 hown hK hP kk (gX_letter cs ad mu kk h1kk h2kk) rfl 0 (by decide) (hts _ (List.mem_cons_of_mem _ mw_1_51)) (fun _ h9 => h9) rfl dX3_fact_33 ?_
    refine lv_topi (fun y3 ey3 => ?_)
    have hF := mi_let hF ey3
    have by3 : y3.toInt = (mu kk 0).toInt := congrArg Int32.toInt ey3
    exact W.iret (v := y3) hx hb hr (fun t ht hW => ⟨⟨y3, (), rfl, ⟨hF.trans hfz.symm, trivial⟩, ht⟩, hS.F ht⟩) hS.2.2 dX3_fact_36
  have hF := (if_neg w1_0).symm.trans hF
  by_cases w1_1 : vw.toInt = 1
  · refine lv_tableIn (off := 36) (tgt := 37) hx hb dX3_fact_1 (by omega) (by omega) (by rw [w1_1]; rfl) (by decide) ?_
    have hF := (if_pos w1_1).symm.trans hF
    refine lv_aload_n hx hb dX3_fact_37 rfl (lv_at hl 0 rfl) ?_
    refine va_get (D := (dC, dI)) (ci := 3) (v := .int (mu kk 1)) (C := RX3) (T := TX3) (N := 10) hx hb hts inG3 hown hK hP kk (gX_letter cs ad mu kk h1kk h2kk) rfl 1 (by decide) (hts _ (List.mem_cons_of_mem _ mw_1_52)) (fun _ h9 => h9) rfl dX3_fact_38 ?_
    refine lv_topi (fun y4 ey4 => ?_)
    have hF := mi_let hF ey4
    have by4 : y4.toInt = (mu kk 1).toInt := congrArg Int32.toInt ey4
    have gy4 : 0 ≤ y4.toInt ∧ y4.toInt ≤ 6 := by rw [ey4]; exact rX_letter_1 ok kk h1kk h2kk
    exact W.iret (v := y4) hx hb hr (fun t ht hW => ⟨⟨y4, (), rfl, ⟨hF.trans hfz.symm, trivial⟩, ht⟩, hS.F ht⟩) hS.2.2 dX3_fact_41
  have hF := (if_neg w1_1).symm.trans hF
  by_cases w1_2 : vw.toInt = 2
  · refine lv_tableIn (off := 41) (tgt := 42) hx hb dX3_fact_1 (by omega) (by omega) (by rw [w1_2]; rfl) (by decide) ?_
    have hF := (if_pos w1_2).symm.trans hF
    refine lv_aload_n hx hb dX3_fact_42 rfl (lv_at hl 0 rfl) ?_
    refine lv_iload_n hx hb dX3_fact_43 rfl (lv_at hl 2 rfl) ?_
    refine cr_i (va_runV (As := [.int vd]) (rest := []) ⟨hx, hb, hml, hown, hts⟩ (sx_worthOn l dC dI cs ad mu ok s.heap hP kk h1kk h2kk vd) (cwV 1 hts (wU_V mw_3_170 mw_3_201 mw_3_168 mw_3_169 mw_1_4) rfl rfl rfl (by decide +kernel) ⟨Nat.le_of_ble_eq_true rfl, Nat.le_of_ble_eq_true rfl⟩) ⟨sz_c, va_recv hK hP (ci := 3) (q0 := kk) rfl (gX_letter cs ad mu kk h1kk h2kk), sz_m hK hz⟩ rfl rfl hl.1 rfl (lv_room (Nat.le_of_ble_eq_true rfl)) dX3_fact_44 ⟨Nat.zero_le _, Nat.zero_le _⟩) hS (fun r5 hw5 locs hS => ?_)
    obtain ⟨hfe5, hw5⟩ := hw5
    have hF := mi_let hF hfe5
    exact W.iret (v := r5) hx hb hr (fun t ht hW => ⟨⟨r5, (), rfl, ⟨hF.trans hfz.symm, trivial⟩, ht⟩, hS.F ht⟩) hS.2.2 dX3_fact_47
  have hF := (if_neg w1_2).symm.trans hF
  have w1_3 : vw.toInt = 3 := by omega
  refine lv_tableIn (off := 47) (tgt := 48) hx hb dX3_fact_1 (by omega) (by omega) (by rw [w1_3]; rfl) (by decide) ?_
  refine lv_aload_n hx hb dX3_fact_48 rfl (lv_at hl 0 rfl) ?_
  refine va_get (D := (dC, dI)) (ci := 3) (v := .int (mu kk 9)) (C := RX3) (T := TX3) (N := 10) hx hb hts inG3 hown hK hP kk (gX_letter cs ad mu kk h1kk h2kk) rfl 9 (by decide) (hts _ (List.mem_cons_of_mem _ mw_1_77)) (fun _ h9 => h9) rfl dX3_fact_49 ?_
  refine lv_topi (fun y6 ey6 => ?_)
  have hF := mi_let hF ey6
  have by6 : y6.toInt = (mu kk 9).toInt := congrArg Int32.toInt ey6
  have gy6 : 0 ≤ y6.toInt ∧ y6.toInt ≤ 1 := by rw [ey6]; exact rX_letter_9 ok kk h1kk h2kk
  refine lv_if_eq (tgt := 59) hx hb dX3_fact_52 (by decide) (fun c_7 => ?_) (fun c_7 => ?_)
  · have hF := (if_pos c_7).symm.trans hF
    have c_7 : y6.toInt = 0 := il_eq c_7
    refine lv_iconst (v := 0) hx hb dX3_fact_59 (by decide) ?_
    exact W.iret (v := 0) hx hb hr (fun t ht hW => ⟨⟨0, (), rfl, ⟨hF.trans hfz.symm, trivial⟩, ht⟩, hS.F ht⟩) hS.2.2 dX3_fact_60
  · have hF := (if_neg c_7).symm.trans hF
    have c_7 : ¬ y6.toInt = 0 := il_ne c_7
    refine lv_iconst (v := 1) hx hb dX3_fact_55 (by decide) ?_
    refine lv_goto (tgt := 60) hx hb dX3_fact_56 (by decide) ?_
    exact W.iret (v := 1) hx hb hr (fun t ht hW => ⟨⟨1, (), rfl, ⟨hF.trans hfz.symm, trivial⟩, ht⟩, hS.F ht⟩) hS.2.2 dX3_fact_60
set_option maxHeartbeats 4000000 in
set_option maxRecDepth 100000 in
/-- sx_begin -/
theorem sx_begin (l : Launch) (dC : Nat → ClassId) (dI : Nat → Nat → Nat) (cs : Nat → ClassId) (ad : Nat → Nat) (mu : Nat → Nat → Int32) (ok : okR loX hiX mu) (H : Heap) (hP : va_P (dC, dI) vwCl (wR 157 ad (EX cs ad) mu) H) (hD0 : va_D (fun _ => True) (wR 157 ad (EX cs ad) mu)) (kk : Nat) (h1kk : 61 ≤ kk) (h2kk : kk < 77) (vx : Int32) (vy : Int32) (vw : Int32) (vl : Int32) (vd : Int32) (hin0 : 0 ≤ vx.toInt ∧ vx.toInt ≤ 6 ∧ 0 ≤ vy.toInt ∧ vy.toInt ≤ 6) : Met l yX3_begin (wU yX3_begin cX3_begin 6 none) ({ frames := 0, cells := 0, slots := 0, locals := 0 }) (va_Pc [.ref (ad kk), .int vx, .int vy, .int vw, .int vl, .int vd] (sz_P (dC, dI) vwCl (tyW cs) H)) (va_Qv (fun (xi : Nat → Nat → Int32) => xi = F_sx_begin mu kk vx vy vw vl vd ∧ okR loX hiX xi ∧ (True) ∧ (∀ k f : Nat, Nat.testBit 502 (gpX k f) = true → xi k f = mu k f)) (fun xi t => va_P (dC, dI) vwCl (wR 157 ad (EX cs ad) xi) t.heap) (va_A (wR 157 ad (EX cs ad) mu) H.size)) 0 0 (va_A (wR 157 ad (EX cs ad) mu) H.size) := by
  refine Met.ofW (cc := cX3_begin) (maxL := 6) (ret := none) (by decide) rfl ?_
  intro p e s m args below meth c s₁ B hml hv
  obtain ⟨rfl, hh, hK, hz⟩ := hv
  have hx := B.exec
  have hb := B.bytes
  have hr := B.returns
  have hts := atoms_spec (ws := (wU yX3_begin cX3_begin 6 none)) B.pre
  have hown : s.vm.findClass RX3 = some m.cls := findClass_of_methodNamed B.named
  have hlocks := B.notSynchronized
  subst hh
  have hD := hD0.self (sz := s.heap.size)
  have hA : ∀ q : Nat, s.heap.size ≤ q → (va_A (wR 157 ad (EX cs ad) mu) s.heap.size) q := fun q h => Or.inr h
  have hS : va_S (va_A (wR 157 ad (EX cs ad) mu) s.heap.size) s.heap s.heap [] := va_S.rf
  have hl := lv_entry ([.ref (ad kk), .int vx, .int vy, .int vw, .int vl, .int vd]) (n := 6) (Nat.le_of_ble_eq_true rfl)
  rw [lg_entry_eq]
  generalize (lg_sl ([.ref (ad kk), .int vx, .int vy, .int vw, .int vl, .int vd]) ++ List.replicate (6 - (lg_sl ([.ref (ad kk), .int vx, .int vy, .int vw, .int vl, .int vd])).length) Slot.unset).toArray = ls at hl ⊢
  have hl : lv_has ls 6 [(0, .ref (ad kk)), (1, .int vx), (2, .int vy), (3, .int vw), (4, .int vl), (5, .int vd)] := hl
  obtain ⟨fz, hfz⟩ : ∃ z, F_sx_begin mu kk vx vy vw vl vd = z := ⟨_, rfl⟩
  have hF := hfz
  unfold F_sx_begin at hF
  refine lv_aload_n hx hb dX3_begin_0 rfl (lv_at hl 0 rfl) ?_
  refine lv_iload_n hx hb dX3_begin_1 rfl (lv_at hl 1 rfl) ?_
  refine va_put (D := (dC, dI)) (ci := 3) (v := .int vx) (ty := .int) (C := RX3) (T := TX3) (N := 10) hx hb hts inG3 tyX3 tyX3_ok nmX3 hown hK hP (wR_D mu hD) hS kk (gX_letter cs ad mu kk h1kk h2kk) rfl 0 (by decide) (hts _ (List.mem_cons_of_mem _ mw_1_51)) (fun _ h9 => h9) rfl (by decide +kernel) rfl rfl (Nat.le_of_ble_eq_true rfl) dX3_begin_2 (fun H locs hP _ hS => ?_)
  simp only [List.set_cons_succ, List.set_cons_zero] at hP
  refine wr_gen (upd (mu kk) 0 vx) hP ((hX_letter_0 cs ad _ _ kk h1kk h2kk)) (fun nu1 hn1 hP => ?_)
  have hF := mi_let hF hn1.symm
  have ok := tX_letter_0 ok kk h1kk h2kk hn1
  have kp2 : (∀ k f : Nat, Nat.testBit 502 (gpX k f) = true → nu1 k f = mu k f) := kp_c 3 hn1 (fun _ => gpX_letter h1kk h2kk) (by decide) (fun _ _ _ => rfl)
  have ez3 : vx = nu1 kk 0 := up_v hn1
  refine lv_aload_n hx hb dX3_begin_5 rfl (lv_at hl 0 rfl) ?_
  refine lv_iload_n hx hb dX3_begin_6 rfl (lv_at hl 2 rfl) ?_
  refine va_put (D := (dC, dI)) (ci := 3) (v := .int vy) (ty := .int) (C := RX3) (T := TX3) (N := 10) hx hb hts inG3 tyX3 tyX3_ok nmX3 hown hK hP (wR_D nu1 hD) hS kk (gX_letter cs ad nu1 kk h1kk h2kk) rfl 1 (by decide) (hts _ (List.mem_cons_of_mem _ mw_1_52)) (fun _ h9 => h9) rfl (by decide +kernel) rfl rfl (Nat.le_of_ble_eq_true rfl) dX3_begin_7 (fun H locs hP _ hS => ?_)
  simp only [List.set_cons_succ, List.set_cons_zero] at hP
  refine wr_gen (upd (nu1 kk) 1 vy) hP ((hX_letter_1 cs ad _ _ kk h1kk h2kk)) (fun nu4 hn4 hP => ?_)
  have hF := mi_let hF hn4.symm
  have ok := tX_letter_1 ok kk h1kk h2kk hn4 (by omega)
  have ez5 : vx = nu4 kk 0 := ez3.trans (up_f hn4 (by decide)).symm
  have kp6 : (∀ k f : Nat, Nat.testBit 502 (gpX k f) = true → nu4 k f = mu k f) := kp_c 3 hn4 (fun _ => gpX_letter h1kk h2kk) (by decide) kp2
  have ez7 : vy = nu4 kk 1 := up_v hn4
  refine lv_aload_n hx hb dX3_begin_10 rfl (lv_at hl 0 rfl) ?_
  refine lv_iload_n hx hb dX3_begin_11 rfl (lv_at hl 3 rfl) ?_
  refine va_put (D := (dC, dI)) (ci := 3) (v := .int vw) (ty := .int) (C := RX3) (T := TX3) (N := 10) hx hb hts inG3 tyX3 tyX3_ok nmX3 hown hK hP (wR_D nu4 hD) hS kk (gX_letter cs ad nu4 kk h1kk h2kk) rfl 2 (by decide) (hts _ (List.mem_cons_of_mem _ mw_1_57)) (fun _ h9 => h9) rfl (by decide +kernel) rfl rfl (Nat.le_of_ble_eq_true rfl) dX3_begin_12 (fun H locs hP _ hS => ?_)
  simp only [List.set_cons_succ, List.set_cons_zero] at hP
  refine wr_gen (upd (nu4 kk) 2 vw) hP ((hX_letter_2 cs ad _ _ kk h1kk h2kk)) (fun nu8 hn8 hP => ?_)
  have hF := mi_let hF hn8.symm
  have ok := tX_letter_2 ok kk h1kk h2kk hn8
  have ez9 : vx = nu8 kk 0 := ez5.trans (up_f hn8 (by decide)).symm
  have ez10 : vy = nu8 kk 1 := ez7.trans (up_f hn8 (by decide)).symm
  have kp11 : (∀ k f : Nat, Nat.testBit 502 (gpX k f) = true → nu8 k f = mu k f) := kp_c 3 hn8 (fun _ => gpX_letter h1kk h2kk) (by decide) kp6
  have ez12 : vw = nu8 kk 2 := up_v hn8
  refine lv_aload_n hx hb dX3_begin_15 rfl (lv_at hl 0 rfl) ?_
  refine lv_iload hx hb dX3_begin_16 (lv_at hl 4 rfl) ?_
  refine va_put (D := (dC, dI)) (ci := 3) (v := .int vl) (ty := .int) (C := RX3) (T := TX3) (N := 10) hx hb hts inG3 tyX3 tyX3_ok nmX3 hown hK hP (wR_D nu8 hD) hS kk (gX_letter cs ad nu8 kk h1kk h2kk) rfl 3 (by decide) (hts _ (List.mem_cons_of_mem _ mw_1_58)) (fun _ h9 => h9) rfl (by decide +kernel) rfl rfl (Nat.le_of_ble_eq_true rfl) dX3_begin_18 (fun H locs hP _ hS => ?_)
  simp only [List.set_cons_succ, List.set_cons_zero] at hP
  refine wr_gen (upd (nu8 kk) 3 vl) hP ((hX_letter_3 cs ad _ _ kk h1kk h2kk)) (fun nu13 hn13 hP => ?_)
  have hF := mi_let hF hn13.symm
  have ok := tX_letter_3 ok kk h1kk h2kk hn13
  have ez14 : vx = nu13 kk 0 := ez9.trans (up_f hn13 (by decide)).symm
  have ez15 : vy = nu13 kk 1 := ez10.trans (up_f hn13 (by decide)).symm
  have ez16 : vw = nu13 kk 2 := ez12.trans (up_f hn13 (by decide)).symm
  have kp17 : (∀ k f : Nat, Nat.testBit 502 (gpX k f) = true → nu13 k f = mu k f) := kp_c 3 hn13 (fun _ => gpX_letter h1kk h2kk) (by decide) kp11
  have ez18 : vl = nu13 kk 3 := up_v hn13
  refine lv_aload_n hx hb dX3_begin_21 rfl (lv_at hl 0 rfl) ?_
  refine lv_iload hx hb dX3_begin_22 (lv_at hl 5 rfl) ?_
  refine va_put (D := (dC, dI)) (ci := 3) (v := .int vd) (ty := .int) (C := RX3) (T := TX3) (N := 10) hx hb hts inG3 tyX3 tyX3_ok nmX3 hown hK hP (wR_D nu13 hD) hS kk (gX_letter cs ad nu13 kk h1kk h2kk) rfl 4 (by decide) (hts _ (List.mem_cons_of_mem _ mw_1_60)) (fun _ h9 => h9) rfl (by decide +kernel) rfl rfl (Nat.le_of_ble_eq_true rfl) dX3_begin_24 (fun H locs hP _ hS => ?_)
  simp only [List.set_cons_succ, List.set_cons_zero] at hP
  refine wr_gen (upd (nu13 kk) 4 vd) hP ((hX_letter_4 cs ad _ _ kk h1kk h2kk)) (fun nu19 hn19 hP => ?_)
  have hF := mi_let hF hn19.symm
  have ok := tX_letter_4 ok kk h1kk h2kk hn19
  have ez20 : vx = nu19 kk 0 := ez14.trans (up_f hn19 (by decide)).symm
  have ez21 : vy = nu19 kk 1 := ez15.trans (up_f hn19 (by decide)).symm
  have ez22 : vw = nu19 kk 2 := ez16.trans (up_f hn19 (by decide)).symm
  have ez23 : vl = nu19 kk 3 := ez18.trans (up_f hn19 (by decide)).symm
  have kp24 : (∀ k f : Nat, Nat.testBit 502 (gpX k f) = true → nu19 k f = mu k f) := kp_c 3 hn19 (fun _ => gpX_letter h1kk h2kk) (by decide) kp17
  have ez25 : vd = nu19 kk 4 := up_v hn19
  refine lv_aload_n hx hb dX3_begin_27 rfl (lv_at hl 0 rfl) ?_
  refine lv_iload_n hx hb dX3_begin_28 rfl (lv_at hl 1 rfl) ?_
  refine va_put (D := (dC, dI)) (ci := 3) (v := .int vx) (ty := .int) (C := RX3) (T := TX3) (N := 10) hx hb hts inG3 tyX3 tyX3_ok nmX3 hown hK hP (wR_D nu19 hD) hS kk (gX_letter cs ad nu19 kk h1kk h2kk) rfl 5 (by decide) (hts _ (List.mem_cons_of_mem _ mw_1_62)) (fun _ h9 => h9) rfl (by decide +kernel) rfl rfl (Nat.le_of_ble_eq_true rfl) dX3_begin_29 (fun H locs hP _ hS => ?_)
  simp only [List.set_cons_succ, List.set_cons_zero] at hP
  refine wr_gen (upd (nu19 kk) 5 vx) hP ((hX_letter_5 cs ad _ _ kk h1kk h2kk)) (fun nu26 hn26 hP => ?_)
  have hF := mi_let hF hn26.symm
  have ok := tX_letter_5 ok kk h1kk h2kk hn26 (by omega)
  have ez27 : vx = nu26 kk 0 := ez20.trans (up_f hn26 (by decide)).symm
  have ez28 : vy = nu26 kk 1 := ez21.trans (up_f hn26 (by decide)).symm
  have ez29 : vw = nu26 kk 2 := ez22.trans (up_f hn26 (by decide)).symm
  have ez30 : vl = nu26 kk 3 := ez23.trans (up_f hn26 (by decide)).symm
  have ez31 : vd = nu26 kk 4 := ez25.trans (up_f hn26 (by decide)).symm
  have kp32 : (∀ k f : Nat, Nat.testBit 502 (gpX k f) = true → nu26 k f = mu k f) := kp_c 3 hn26 (fun _ => gpX_letter h1kk h2kk) (by decide) kp24
  have ez33 : vx = nu26 kk 5 := up_v hn26
  refine lv_aload_n hx hb dX3_begin_32 rfl (lv_at hl 0 rfl) ?_
  refine lv_iconst (v := 0) hx hb dX3_begin_33 (by decide) ?_
  refine va_put (D := (dC, dI)) (ci := 3) (v := .int 0) (ty := .int) (C := RX3) (T := TX3) (N := 10) hx hb hts inG3 tyX3 tyX3_ok nmX3 hown hK hP (wR_D nu26 hD) hS kk (gX_letter cs ad nu26 kk h1kk h2kk) rfl 6 (by decide) (hts _ (List.mem_cons_of_mem _ mw_1_67)) (fun _ h9 => h9) rfl (by decide +kernel) rfl rfl (Nat.le_of_ble_eq_true rfl) dX3_begin_34 (fun H locs hP _ hS => ?_)
  simp only [List.set_cons_succ, List.set_cons_zero] at hP
  refine wr_gen (upd (nu26 kk) 6 0) hP ((hX_letter_6 cs ad _ _ kk h1kk h2kk)) (fun nu34 hn34 hP => ?_)
  have hF := mi_let hF hn34.symm
  have ok := tX_letter_6 ok kk h1kk h2kk hn34
  have ez35 : vx = nu34 kk 0 := ez27.trans (up_f hn34 (by decide)).symm
  have ez36 : vy = nu34 kk 1 := ez28.trans (up_f hn34 (by decide)).symm
  have ez37 : vw = nu34 kk 2 := ez29.trans (up_f hn34 (by decide)).symm
  have ez38 : vl = nu34 kk 3 := ez30.trans (up_f hn34 (by decide)).symm
  have ez39 : vd = nu34 kk 4 := ez31.trans (up_f hn34 (by decide)).symm
  have ez40 : vx = nu34 kk 5 := ez33.trans (up_f hn34 (by decide)).symm
  have kp41 : (∀ k f : Nat, Nat.testBit 502 (gpX k f) = true → nu34 k f = mu k f) := kp_c 3 hn34 (fun _ => gpX_letter h1kk h2kk) (by decide) kp32
  have ez42 : 0 = nu34 kk 6 := up_v hn34
  refine lv_aload_n hx hb dX3_begin_37 rfl (lv_at hl 0 rfl) ?_
  refine lv_bipush (v := (-9)) hx hb dX3_begin_38 (by decide) ?_
  refine va_put (D := (dC, dI)) (ci := 3) (v := .int (-9)) (ty := .int) (C := RX3) (T := TX3) (N := 10) hx hb hts inG3 tyX3 tyX3_ok nmX3 hown hK hP (wR_D nu34 hD) hS kk (gX_letter cs ad nu34 kk h1kk h2kk) rfl 7 (by decide) (hts _ (List.mem_cons_of_mem _ mw_1_71)) (fun _ h9 => h9) rfl (by decide +kernel) rfl rfl (Nat.le_of_ble_eq_true rfl) dX3_begin_40 (fun H locs hP _ hS => ?_)
  simp only [List.set_cons_succ, List.set_cons_zero] at hP
  refine wr_gen (upd (nu34 kk) 7 (-9)) hP ((hX_letter_7 cs ad _ _ kk h1kk h2kk)) (fun nu43 hn43 hP => ?_)
  have hF := mi_let hF hn43.symm
  have ok := tX_letter_7 ok kk h1kk h2kk hn43
  have ez44 : vx = nu43 kk 0 := ez35.trans (up_f hn43 (by decide)).symm
  have ez45 : vy = nu43 kk 1 := ez36.trans (up_f hn43 (by decide)).symm
  have ez46 : vw = nu43 kk 2 := ez37.trans (up_f hn43 (by decide)).symm
  have ez47 : vl = nu43 kk 3 := ez38.trans (up_f hn43 (by decide)).symm
  have ez48 : vd = nu43 kk 4 := ez39.trans (up_f hn43 (by decide)).symm
  have ez49 : vx = nu43 kk 5 := ez40.trans (up_f hn43 (by decide)).symm
  have ez50 : 0 = nu43 kk 6 := ez42.trans (up_f hn43 (by decide)).symm
  have kp51 : (∀ k f : Nat, Nat.testBit 502 (gpX k f) = true → nu43 k f = mu k f) := kp_c 3 hn43 (fun _ => gpX_letter h1kk h2kk) (by decide) kp41
  have ez52 : (-9) = nu43 kk 7 := up_v hn43
  refine lv_aload_n hx hb dX3_begin_43 rfl (lv_at hl 0 rfl) ?_
  refine lv_iconst (v := 0) hx hb dX3_begin_44 (by decide) ?_
  refine va_put (D := (dC, dI)) (ci := 3) (v := .int 0) (ty := .int) (C := RX3) (T := TX3) (N := 10) hx hb hts inG3 tyX3 tyX3_ok nmX3 hown hK hP (wR_D nu43 hD) hS kk (gX_letter cs ad nu43 kk h1kk h2kk) rfl 8 (by decide) (hts _ (List.mem_cons_of_mem _ mw_1_75)) (fun _ h9 => h9) rfl (by decide +kernel) rfl rfl (Nat.le_of_ble_eq_true rfl) dX3_begin_45 (fun H locs hP _ hS => ?_)
  simp only [List.set_cons_succ, List.set_cons_zero] at hP
  refine wr_gen (upd (nu43 kk) 8 0) hP ((hX_letter_8 cs ad _ _ kk h1kk h2kk)) (fun nu53 hn53 hP => ?_)
  have hF := mi_let hF hn53.symm
  have ok := tX_letter_8 ok kk h1kk h2kk hn53
  have ez54 : vx = nu53 kk 0 := ez44.trans (up_f hn53 (by decide)).symm
  have ez55 : vy = nu53 kk 1 := ez45.trans (up_f hn53 (by decide)).symm
  have ez56 : vw = nu53 kk 2 := ez46.trans (up_f hn53 (by decide)).symm
  have ez57 : vl = nu53 kk 3 := ez47.trans (up_f hn53 (by decide)).symm
  have ez58 : vd = nu53 kk 4 := ez48.trans (up_f hn53 (by decide)).symm
  have ez59 : vx = nu53 kk 5 := ez49.trans (up_f hn53 (by decide)).symm
  have ez60 : 0 = nu53 kk 6 := ez50.trans (up_f hn53 (by decide)).symm
  have ez61 : (-9) = nu53 kk 7 := ez52.trans (up_f hn53 (by decide)).symm
  have kp62 : (∀ k f : Nat, Nat.testBit 502 (gpX k f) = true → nu53 k f = mu k f) := kp_c 3 hn53 (fun _ => gpX_letter h1kk h2kk) (by decide) kp51
  have ez63 : 0 = nu53 kk 8 := up_v hn53
  refine lv_aload_n hx hb dX3_begin_48 rfl (lv_at hl 0 rfl) ?_
  refine lv_iconst (v := 0) hx hb dX3_begin_49 (by decide) ?_
  refine va_put (D := (dC, dI)) (ci := 3) (v := .int 0) (ty := .boolean) (C := RX3) (T := TX3) (N := 10) hx hb hts inG3 tyX3 tyX3_ok nmX3 hown hK hP (wR_D nu53 hD) hS kk (gX_letter cs ad nu53 kk h1kk h2kk) rfl 9 (by decide) (hts _ (List.mem_cons_of_mem _ mw_1_77)) (fun _ h9 => h9) rfl (by decide +kernel) (by first | rfl | decide) (by first | rfl | decide) (Nat.le_of_ble_eq_true rfl) dX3_begin_50 (fun H locs hP _ hS => ?_)
  simp only [List.set_cons_succ, List.set_cons_zero] at hP
  refine wr_gen (upd (nu53 kk) 9 0) hP ((hX_letter_9 cs ad _ _ kk h1kk h2kk)) (fun nu64 hn64 hP => ?_)
  have hF := mi_let hF hn64.symm
  have ok := tX_letter_9 ok kk h1kk h2kk hn64 (by have h9 : (0 : Int32).toInt = 0 := rfl; exact ⟨by omega, by omega⟩)
  have ez65 : vx = nu64 kk 0 := ez54.trans (up_f hn64 (by decide)).symm
  have ez66 : vy = nu64 kk 1 := ez55.trans (up_f hn64 (by decide)).symm
  have ez67 : vw = nu64 kk 2 := ez56.trans (up_f hn64 (by decide)).symm
  have ez68 : vl = nu64 kk 3 := ez57.trans (up_f hn64 (by decide)).symm
  have ez69 : vd = nu64 kk 4 := ez58.trans (up_f hn64 (by decide)).symm
  have ez70 : vx = nu64 kk 5 := ez59.trans (up_f hn64 (by decide)).symm
  have ez71 : 0 = nu64 kk 6 := ez60.trans (up_f hn64 (by decide)).symm
  have ez72 : (-9) = nu64 kk 7 := ez61.trans (up_f hn64 (by decide)).symm
  have ez73 : 0 = nu64 kk 8 := ez63.trans (up_f hn64 (by decide)).symm
  have kp74 : (∀ k f : Nat, Nat.testBit 502 (gpX k f) = true → nu64 k f = mu k f) := kp_c 3 hn64 (fun _ => gpX_letter h1kk h2kk) (by decide) kp62
  have ez75 : 0 = nu64 kk 9 := up_v hn64
  exact W.vret hx hb hr (fun t ht hW => ⟨⟨nu64, rfl, ⟨hF.trans hfz.symm, ok, trivial, kp74⟩, by first | (subst ht; exact hP) | (rw [ht]; exact hP) | (show va_P (dC, dI) vwCl (wR 157 ad (EX cs ad) nu64) t.heap; rw [ht]; exact hP)⟩, hS.F ht⟩) hS.2.2 dX3_begin_53
set_option maxHeartbeats 4000000 in
set_option maxRecDepth 100000 in
/-- sx_Letter_beLike -/
theorem sx_Letter_beLike (l : Launch) (dC : Nat → ClassId) (dI : Nat → Nat → Nat) (cs : Nat → ClassId) (ad : Nat → Nat) (mu : Nat → Nat → Int32) (ok : okR loX hiX mu) (H : Heap) (hP : va_P (dC, dI) vwCl (wR 157 ad (EX cs ad) mu) H) (hD0 : va_D (fun _ => True) (wR 157 ad (EX cs ad) mu)) (kk : Nat) (h1kk : 61 ≤ kk) (h2kk : kk < 77) (kl : Nat) (h1kl : 61 ≤ kl) (h2kl : kl < 77) : Met l yX3_beLike (wU yX3_beLike cX3_beLike 2 none) ({ frames := 0, cells := 0, slots := 0, locals := 0 }) (va_Pc [.ref (ad kk), .ref (ad kl)] (sz_P (dC, dI) vwCl (tyW cs) H)) (va_Qv (fun (xi : Nat → Nat → Int32) => xi = F_sx_Letter_beLike mu kk kl ∧ okR loX hiX xi ∧ (True) ∧ (∀ k f : Nat, Nat.testBit 502 (gpX k f) = true → xi k f = mu k f)) (fun xi t => va_P (dC, dI) vwCl (wR 157 ad (EX cs ad) xi) t.heap) (va_A (wR 157 ad (EX cs ad) mu) H.size)) 0 0 (va_A (wR 157 ad (EX cs ad) mu) H.size) := by
  refine Met.ofW (cc := cX3_beLike) (maxL := 2) (ret := none) (by decide) rfl ?_
  intro p e s m args below meth c s₁ B hml hv
  obtain ⟨rfl, hh, hK, hz⟩ := hv
  have hx := B.exec
  have hb := B.bytes
  have hr := B.returns
  have hts := atoms_spec (ws := (wU yX3_beLike cX3_beLike 2 none)) B.pre
  have hown : s.vm.findClass RX3 = some m.cls := findClass_of_methodNamed B.named
  have hlocks := B.notSynchronized
  subst hh
  have hD := hD0.self (sz := s.heap.size)
  have hA : ∀ q : Nat, s.heap.size ≤ q → (va_A (wR 157 ad (EX cs ad) mu) s.heap.size) q := fun q h => Or.inr h
  have hS : va_S (va_A (wR 157 ad (EX cs ad) mu) s.heap.size) s.heap s.heap [] := va_S.rf
  have hl := lv_entry ([.ref (ad kk), .ref (ad kl)]) (n := 2) (Nat.le_of_ble_eq_true rfl)
  rw [lg_entry_eq]
  generalize (lg_sl ([.ref (ad kk), .ref (ad kl)]) ++ List.replicate (2 - (lg_sl ([.ref (ad kk), .ref (ad kl)])).length) Slot.unset).toArray = ls at hl ⊢
  have hl : lv_has ls 2 [(0, .ref (ad kk)), (1, .ref (ad kl))] := hl
  obtain ⟨fz, hfz⟩ : ∃ z, F_sx_Letter_beLike mu kk kl = z := ⟨_, rfl⟩
  have hF := hfz
  unfold F_sx_Letter_beLike at hF
  refine lv_aload_n hx hb dX3_beLike_0 rfl (lv_at hl 0 rfl) ?_
  refine lv_aload_n hx hb dX3_beLike_1 rfl (lv_at hl 1 rfl) ?_
  refine va_get (D := (dC, dI)) (ci := 3) (v := .int (mu kl 0)) (C := RX3) (T := TX3) (N := 10) hx hb hts inG3 hown hK hP kl (gX_letter cs ad mu kl h1kl h2kl) rfl 0 (by decide) (hts _ (List.mem_cons_of_mem _ mw_1_51)) (fun _ h9 => h9) rfl dX3_beLike_2 ?_
  refine lv_topi (fun y1 ey1 => ?_)
  have hF := mi_let hF ey1
  have by1 : y1.toInt = (mu kl 0).toInt := congrArg Int32.toInt ey1
  refine va_put (D := (dC, dI)) (ci := 3) (v := .int y1) (ty := .int) (C := RX3) (T := TX3) (N := 10) hx hb hts inG3 tyX3 tyX3_ok nmX3 hown hK hP (wR_D mu hD) hS kk (gX_letter cs ad mu kk h1kk h2kk) rfl 0 (by decide) (hts _ (List.mem_cons_of_mem _ mw_1_51)) (fun _ h9 => h9) rfl (by decide +kernel) rfl rfl (Nat.le_of_ble_eq_true rfl) dX3_beLike_5 (fun H locs hP _ hS => ?_)
  simp only [List.set_cons_succ, List.set_cons_zero] at hP
  refine wr_gen (upd (mu kk) 0 y1) hP ((hX_letter_0 cs ad _ _ kk h1kk h2kk)) (fun nu2 hn2 hP => ?_)
  have hF := mi_let hF hn2.symm
  have ok := tX_letter_0 ok kk h1kk h2kk hn2
  have kp3 : (∀ k f : Nat, Nat.testBit 502 (gpX k f) = true → nu2 k f = mu k f) := kp_c 3 hn2 (fun _ => gpX_letter h1kk h2kk) (by decide) (fun _ _ _ => rfl)
  have ez4 : y1 = nu2 kk 0 := up_v hn2
  refine lv_aload_n hx hb dX3_beLike_8 rfl (lv_at hl 0 rfl) ?_
  refine lv_aload_n hx hb dX3_beLike_9 rfl (lv_at hl 1 rfl) ?_
  refine va_get (D := (dC, dI)) (ci := 3) (v := .int (nu2 kl 1)) (C := RX3) (T := TX3) (N := 10) hx hb hts inG3 hown hK hP kl (gX_letter cs ad nu2 kl h1kl h2kl) rfl 1 (by decide) (hts _ (List.mem_cons_of_mem _ mw_1_52)) (fun _ h9 => h9) rfl dX3_beLike_10 ?_
  refine lv_topi (fun y5 ey5 => ?_)
  have hF := mi_let hF ey5
  have by5 : y5.toInt = (nu2 kl 1).toInt := congrArg Int32.toInt ey5
  have gy5 : 0 ≤ y5.toInt ∧ y5.toInt ≤ 6 := by rw [ey5]; exact rX_letter_1 ok kl h1kl h2kl
  refine va_put (D := (dC, dI)) (ci := 3) (v := .int y5) (ty := .int) (C := RX3) (T := TX3) (N := 10) hx hb hts inG3 tyX3 tyX3_ok nmX3 hown hK hP (wR_D nu2 hD) hS kk (gX_letter cs ad nu2 kk h1kk h2kk) rfl 1 (by decide) (hts _ (List.mem_cons_of_mem _ mw_1_52)) (fun _ h9 => h9) rfl (by decide +kernel) rfl rfl (Nat.le_of_ble_eq_true rfl) dX3_beLike_13 (fun H locs hP _ hS => ?_)
  simp only [List.set_cons_succ, List.set_cons_zero] at hP
  refine wr_gen (upd (nu2 kk) 1 y5) hP ((hX_letter_1 cs ad _ _ kk h1kk h2kk)) (fun nu6 hn6 hP => ?_)
  have hF := mi_let hF hn6.symm
  have ok := tX_letter_1 ok kk h1kk h2kk hn6 (by omega)
  have ez7 : y1 = nu6 kk 0 := ez4.trans (up_f hn6 (by decide)).symm
  have kp8 : (∀ k f : Nat, Nat.testBit 502 (gpX k f) = true → nu6 k f = mu k f) := kp_c 3 hn6 (fun _ => gpX_letter h1kk h2kk) (by decide) kp3
  have ez9 : y5 = nu6 kk 1 := up_v hn6
  refine lv_aload_n hx hb dX3_beLike_16 rfl (lv_at hl 0 rfl) ?_
  refine lv_aload_n hx hb dX3_beLike_17 rfl (lv_at hl 1 rfl) ?_
  refine va_get (D := (dC, dI)) (ci := 3) (v := .int (nu6 kl 2)) (C := RX3) (T := TX3) (N := 10) hx hb hts inG3 hown hK hP kl (gX_letter cs ad nu6 kl h1kl h2kl) rfl 2 (by decide) (hts _ (List.mem_cons_of_mem _ mw_1_57)) (fun _ h9 => h9) rfl dX3_beLike_18 ?_
  refine lv_topi (fun y10 ey10 => ?_)
  have hF := mi_let hF ey10
  have by10 : y10.toInt = (nu6 kl 2).toInt := congrArg Int32.toInt ey10
  refine va_put (D := (dC, dI)) (ci := 3) (v := .int y10) (ty := .int) (C := RX3) (T := TX3) (N := 10) hx hb hts inG3 tyX3 tyX3_ok nmX3 hown hK hP (wR_D nu6 hD) hS kk (gX_letter cs ad nu6 kk h1kk h2kk) rfl 2 (by decide) (hts _ (List.mem_cons_of_mem _ mw_1_57)) (fun _ h9 => h9) rfl (by decide +kernel) rfl rfl (Nat.le_of_ble_eq_true rfl) dX3_beLike_21 (fun H locs hP _ hS => ?_)
  simp only [List.set_cons_succ, List.set_cons_zero] at hP
  refine wr_gen (upd (nu6 kk) 2 y10) hP ((hX_letter_2 cs ad _ _ kk h1kk h2kk)) (fun nu11 hn11 hP => ?_)
  have hF := mi_let hF hn11.symm
  have ok := tX_letter_2 ok kk h1kk h2kk hn11
  have ez12 : y1 = nu11 kk 0 := ez7.trans (up_f hn11 (by decide)).symm
  have ez13 : y5 = nu11 kk 1 := ez9.trans (up_f hn11 (by decide)).symm
  have kp14 : (∀ k f : Nat, Nat.testBit 502 (gpX k f) = true → nu11 k f = mu k f) := kp_c 3 hn11 (fun _ => gpX_letter h1kk h2kk) (by decide) kp8
  have ez15 : y10 = nu11 kk 2 := up_v hn11
  refine lv_aload_n hx hb dX3_beLike_24 rfl (lv_at hl 0 rfl) ?_
  refine lv_aload_n hx hb dX3_beLike_25 rfl (lv_at hl 1 rfl) ?_
  refine va_get (D := (dC, dI)) (ci := 3) (v := .int (nu11 kl 3)) (C := RX3) (T := TX3) (N := 10) hx hb hts inG3 hown hK hP kl (gX_letter cs ad nu11 kl h1kl h2kl) rfl 3 (by decide) (hts _ (List.mem_cons_of_mem _ mw_1_58)) (fun _ h9 => h9) rfl dX3_beLike_26 ?_
  refine lv_topi (fun y16 ey16 => ?_)
  have hF := mi_let hF ey16
  have by16 : y16.toInt = (nu11 kl 3).toInt := congrArg Int32.toInt ey16
  refine va_put (D := (dC, dI)) (ci := 3) (v := .int y16) (ty := .int) (C := RX3) (T := TX3) (N := 10) hx hb hts inG3 tyX3 tyX3_ok nmX3 hown hK hP (wR_D nu11 hD) hS kk (gX_letter cs ad nu11 kk h1kk h2kk) rfl 3 (by decide) (hts _ (List.mem_cons_of_mem _ mw_1_58)) (fun _ h9 => h9) rfl (by decide +kernel) rfl rfl (Nat.le_of_ble_eq_true rfl) dX3_beLike_29 (fun H locs hP _ hS => ?_)
  simp only [List.set_cons_succ, List.set_cons_zero] at hP
  refine wr_gen (upd (nu11 kk) 3 y16) hP ((hX_letter_3 cs ad _ _ kk h1kk h2kk)) (fun nu17 hn17 hP => ?_)
  have hF := mi_let hF hn17.symm
  have ok := tX_letter_3 ok kk h1kk h2kk hn17
  have ez18 : y1 = nu17 kk 0 := ez12.trans (up_f hn17 (by decide)).symm
  have ez19 : y5 = nu17 kk 1 := ez13.trans (up_f hn17 (by decide)).symm
  have ez20 : y10 = nu17 kk 2 := ez15.trans (up_f hn17 (by decide)).symm
  have kp21 : (∀ k f : Nat, Nat.testBit 502 (gpX k f) = true → nu17 k f = mu k f) := kp_c 3 hn17 (fun _ => gpX_letter h1kk h2kk) (by decide) kp14
  have ez22 : y16 = nu17 kk 3 := up_v hn17
  refine lv_aload_n hx hb dX3_beLike_32 rfl (lv_at hl 0 rfl) ?_
  refine lv_aload_n hx hb dX3_beLike_33 rfl (lv_at hl 1 rfl) ?_
  refine va_get (D := (dC, dI)) (ci := 3) (v := .int (nu17 kl 4)) (C := RX3) (T := TX3) (N := 10) hx hb hts inG3 hown hK hP kl (gX_letter cs ad nu17 kl h1kl h2kl) rfl 4 (by decide) (hts _ (List.mem_cons_of_mem _ mw_1_60)) (fun _ h9 => h9) rfl dX3_beLike_34 ?_
  refine lv_topi (fun y23 ey23 => ?_)
  have hF := mi_let hF ey23
  have by23 : y23.toInt = (nu17 kl 4).toInt := congrArg Int32.toInt ey23
  refine va_put (D := (dC, dI)) (ci := 3) (v := .int y23) (ty := .int) (C := RX3) (T := TX3) (N := 10) hx hb hts inG3 tyX3 tyX3_ok nmX3 hown hK hP (wR_D nu17 hD) hS kk (gX_letter cs ad nu17 kk h1kk h2kk) rfl 4 (by decide) (hts _ (List.mem_cons_of_mem _ mw_1_60)) (fun _ h9 => h9) rfl (by decide +kernel) rfl rfl (Nat.le_of_ble_eq_true rfl) dX3_beLike_37 (fun H locs hP _ hS => ?_)
  simp only [List.set_cons_succ, List.set_cons_zero] at hP
  refine wr_gen (upd (nu17 kk) 4 y23) hP ((hX_letter_4 cs ad _ _ kk h1kk h2kk)) (fun nu24 hn24 hP => ?_)
  have hF := mi_let hF hn24.symm
  have ok := tX_letter_4 ok kk h1kk h2kk hn24
  have ez25 : y1 = nu24 kk 0 := ez18.trans (up_f hn24 (by decide)).symm
  have ez26 : y5 = nu24 kk 1 := ez19.trans (up_f hn24 (by decide)).symm
  have ez27 : y10 = nu24 kk 2 := ez20.trans (up_f hn24 (by decide)).symm
  have ez28 : y16 = nu24 kk 3 := ez22.trans (up_f hn24 (by decide)).symm
  have kp29 : (∀ k f : Nat, Nat.testBit 502 (gpX k f) = true → nu24 k f = mu k f) := kp_c 3 hn24 (fun _ => gpX_letter h1kk h2kk) (by decide) kp21
  have ez30 : y23 = nu24 kk 4 := up_v hn24
  refine lv_aload_n hx hb dX3_beLike_40 rfl (lv_at hl 0 rfl) ?_
  refine lv_aload_n hx hb dX3_beLike_41 rfl (lv_at hl 1 rfl) ?_
  refine va_get (D := (dC, dI)) (ci := 3) (v := .int (nu24 kl 5)) (C := RX3) (T := TX3) (N := 10) hx hb hts inG3 hown hK hP kl (gX_letter cs ad nu24 kl h1kl h2kl) rfl 5 (by decide) (hts _ (List.mem_cons_of_mem _ mw_1_62)) (fun _ h9 => h9) rfl dX3_beLike_42 ?_
  refine lv_topi (fun y31 ey31 => ?_)
  have hF := mi_let hF ey31
  have by31 : y31.toInt = (nu24 kl 5).toInt := congrArg Int32.toInt ey31
  have gy31 : 0 ≤ y31.toInt ∧ y31.toInt ≤ 6 := by rw [ey31]; exact rX_letter_5 ok kl h1kl h2kl
  refine va_put (D := (dC, dI)) (ci := 3) (v := .int y31) (ty := .int) (C := RX3) (T := TX3) (N := 10) hx hb hts inG3 tyX3 tyX3_ok nmX3 hown hK hP (wR_D nu24 hD) hS kk (gX_letter cs ad nu24 kk h1kk h2kk) rfl 5 (by decide) (hts _ (List.mem_cons_of_mem _ mw_1_62)) (fun _ h9 => h9) rfl (by decide +kernel) rfl rfl (Nat.le_of_ble_eq_true rfl) dX3_beLike_45 (fun H locs hP _ hS => ?_)
  simp only [List.set_cons_succ, List.set_cons_zero] at hP
  refine wr_gen (upd (nu24 kk) 5 y31) hP ((hX_letter_5 cs ad _ _ kk h1kk h2kk)) (fun nu32 hn32 hP => ?_)
  have hF := mi_let hF hn32.symm
  have ok := tX_letter_5 ok kk h1kk h2kk hn32 (by omega)
  have ez33 : y1 = nu32 kk 0 := ez25.trans (up_f hn32 (by decide)).symm
  have ez34 : y5 = nu32 kk 1 := ez26.trans (up_f hn32 (by decide)).symm
  have ez35 : y10 = nu32 kk 2 := ez27.trans (up_f hn32 (by decide)).symm
  have ez36 : y16 = nu32 kk 3 := ez28.trans (up_f hn32 (by decide)).symm
  have ez37 : y23 = nu32 kk 4 := ez30.trans (up_f hn32 (by decide)).symm
  have kp38 : (∀ k f : Nat, Nat.testBit 502 (gpX k f) = true → nu32 k f = mu k f) := kp_c 3 hn32 (fun _ => gpX_letter h1kk h2kk) (by decide) kp29
  have ez39 : y31 = nu32 kk 5 := up_v hn32
  refine lv_aload_n hx hb dX3_beLike_48 rfl (lv_at hl 0 rfl) ?_
  refine lv_aload_n hx hb dX3_beLike_49 rfl (lv_at hl 1 rfl) ?_
  refine va_get (D := (dC, dI)) (ci := 3) (v := .int (nu32 kl 6)) (C := RX3) (T := TX3) (N := 10) hx hb hts inG3 hown hK hP kl (gX_letter cs ad nu32 kl h1kl h2kl) rfl 6 (by decide) (hts _ (List.mem_cons_of_mem _ mw_1_67)) (fun _ h9 => h9) rfl dX3_beLike_50 ?_
  refine lv_topi (fun y40 ey40 => ?_)
  have hF := mi_let hF ey40
  have by40 : y40.toInt = (nu32 kl 6).toInt := congrArg Int32.toInt ey40
  refine va_put (D := (dC, dI)) (ci := 3) (v := .int y40) (ty := .int) (C := RX3) (T := TX3) (N := 10) hx hb hts inG3 tyX3 tyX3_ok nmX3 hown hK hP (wR_D nu32 hD) hS kk (gX_letter cs ad nu32 kk h1kk h2kk) rfl 6 (by decide) (hts _ (List.mem_cons_of_mem _ mw_1_67)) (fun _ h9 => h9) rfl (by decide +kernel) rfl rfl (Nat.le_of_ble_eq_true rfl) dX3_beLike_53 (fun H locs hP _ hS => ?_)
  simp only [List.set_cons_succ, List.set_cons_zero] at hP
  refine wr_gen (upd (nu32 kk) 6 y40) hP ((hX_letter_6 cs ad _ _ kk h1kk h2kk)) (fun nu41 hn41 hP => ?_)
  have hF := mi_let hF hn41.symm
  have ok := tX_letter_6 ok kk h1kk h2kk hn41
  have ez42 : y1 = nu41 kk 0 := ez33.trans (up_f hn41 (by decide)).symm
  have ez43 : y5 = nu41 kk 1 := ez34.trans (up_f hn41 (by decide)).symm
  have ez44 : y10 = nu41 kk 2 := ez35.trans (up_f hn41 (by decide)).symm
  have ez45 : y16 = nu41 kk 3 := ez36.trans (up_f hn41 (by decide)).symm
  have ez46 : y23 = nu41 kk 4 := ez37.trans (up_f hn41 (by decide)).symm
  have ez47 : y31 = nu41 kk 5 := ez39.trans (up_f hn41 (by decide)).symm
  have kp48 : (∀ k f : Nat, Nat.testBit 502 (gpX k f) = true → nu41 k f = mu k f) := kp_c 3 hn41 (fun _ => gpX_letter h1kk h2kk) (by decide) kp38
  have ez49 : y40 = nu41 kk 6 := up_v hn41
  refine lv_aload_n hx hb dX3_beLike_56 rfl (lv_at hl 0 rfl) ?_
  refine lv_aload_n hx hb dX3_beLike_57 rfl (lv_at hl 1 rfl) ?_
  refine va_get (D := (dC, dI)) (ci := 3) (v := .int (nu41 kl 7)) (C := RX3) (T := TX3) (N := 10) hx hb hts inG3 hown hK hP kl (gX_letter cs ad nu41 kl h1kl h2kl) rfl 7 (by decide) (hts _ (List.mem_cons_of_mem _ mw_1_71)) (fun _ h9 => h9) rfl dX3_beLike_58 ?_
  refine lv_topi (fun y50 ey50 => ?_)
  have hF := mi_let hF ey50
  have by50 : y50.toInt = (nu41 kl 7).toInt := congrArg Int32.toInt ey50
  refine va_put (D := (dC, dI)) (ci := 3) (v := .int y50) (ty := .int) (C := RX3) (T := TX3) (N := 10) hx hb hts inG3 tyX3 tyX3_ok nmX3 hown hK hP (wR_D nu41 hD) hS kk (gX_letter cs ad nu41 kk h1kk h2kk) rfl 7 (by decide) (hts _ (List.mem_cons_of_mem _ mw_1_71)) (fun _ h9 => h9) rfl (by decide +kernel) rfl rfl (Nat.le_of_ble_eq_true rfl) dX3_beLike_61 (fun H locs hP _ hS => ?_)
  simp only [List.set_cons_succ, List.set_cons_zero] at hP
  refine wr_gen (upd (nu41 kk) 7 y50) hP ((hX_letter_7 cs ad _ _ kk h1kk h2kk)) (fun nu51 hn51 hP => ?_)
  have hF := mi_let hF hn51.symm
  have ok := tX_letter_7 ok kk h1kk h2kk hn51
  have ez52 : y1 = nu51 kk 0 := ez42.trans (up_f hn51 (by decide)).symm
  have ez53 : y5 = nu51 kk 1 := ez43.trans (up_f hn51 (by decide)).symm
  have ez54 : y10 = nu51 kk 2 := ez44.trans (up_f hn51 (by decide)).symm
  have ez55 : y16 = nu51 kk 3 := ez45.trans (up_f hn51 (by decide)).symm
  have ez56 : y23 = nu51 kk 4 := ez46.trans (up_f hn51 (by decide)).symm
  have ez57 : y31 = nu51 kk 5 := ez47.trans (up_f hn51 (by decide)).symm
  have ez58 : y40 = nu51 kk 6 := ez49.trans (up_f hn51 (by decide)).symm
  have kp59 : (∀ k f : Nat, Nat.testBit 502 (gpX k f) = true → nu51 k f = mu k f) := kp_c 3 hn51 (fun _ => gpX_letter h1kk h2kk) (by decide) kp48
  have ez60 : y50 = nu51 kk 7 := up_v hn51
  refine lv_aload_n hx hb dX3_beLike_64 rfl (lv_at hl 0 rfl) ?_
  refine lv_aload_n hx hb dX3_beLike_65 rfl (lv_at hl 1 rfl) ?_
  refine va_get (D := (dC, dI)) (ci := 3) (v := .int (nu51 kl 8)) (C := RX3) (T := TX3) (N := 10) hx hb hts inG3 hown hK hP kl (gX_letter cs ad nu51 kl h1kl h2kl) rfl 8 (by decide) (hts _ (List.mem_cons_of_mem _ mw_1_75)) (fun _ h9 => h9) rfl dX3_beLike_66 ?_
  refine lv_topi (fun y61 ey61 => ?_)
  have hF := mi_let hF ey61
  have by61 : y61.toInt = (nu51 kl 8).toInt := congrArg Int32.toInt ey61
  refine va_put (D := (dC, dI)) (ci := 3) (v := .int y61) (ty := .int) (C := RX3) (T := TX3) (N := 10) hx hb hts inG3 tyX3 tyX3_ok nmX3 hown hK hP (wR_D nu51 hD) hS kk (gX_letter cs ad nu51 kk h1kk h2kk) rfl 8 (by decide) (hts _ (List.mem_cons_of_mem _ mw_1_75)) (fun _ h9 => h9) rfl (by decide +kernel) rfl rfl (Nat.le_of_ble_eq_true rfl) dX3_beLike_69 (fun H locs hP _ hS => ?_)
  simp only [List.set_cons_succ, List.set_cons_zero] at hP
  refine wr_gen (upd (nu51 kk) 8 y61) hP ((hX_letter_8 cs ad _ _ kk h1kk h2kk)) (fun nu62 hn62 hP => ?_)
  have hF := mi_let hF hn62.symm
  have ok := tX_letter_8 ok kk h1kk h2kk hn62
  have ez63 : y1 = nu62 kk 0 := ez52.trans (up_f hn62 (by decide)).symm
  have ez64 : y5 = nu62 kk 1 := ez53.trans (up_f hn62 (by decide)).symm
  have ez65 : y10 = nu62 kk 2 := ez54.trans (up_f hn62 (by decide)).symm
  have ez66 : y16 = nu62 kk 3 := ez55.trans (up_f hn62 (by decide)).symm
  have ez67 : y23 = nu62 kk 4 := ez56.trans (up_f hn62 (by decide)).symm
  have ez68 : y31 = nu62 kk 5 := ez57.trans (up_f hn62 (by decide)).symm
  have ez69 : y40 = nu62 kk 6 := ez58.trans (up_f hn62 (by decide)).symm
  have ez70 : y50 = nu62 kk 7 := ez60.trans (up_f hn62 (by decide)).symm
  have kp71 : (∀ k f : Nat, Nat.testBit 502 (gpX k f) = true → nu62 k f = mu k f) := kp_c 3 hn62 (fun _ => gpX_letter h1kk h2kk) (by decide) kp59
  have ez72 : y61 = nu62 kk 8 := up_v hn62
  refine lv_aload_n hx hb dX3_beLike_72 rfl (lv_at hl 0 rfl) ?_
  refine lv_aload_n hx hb dX3_beLike_73 rfl (lv_at hl 1 rfl) ?_
  refine va_get (D := (dC, dI)) (ci := 3) (v := .int (nu62 kl 9)) (C := RX3) (T := TX3) (N := 10) hx hb hts inG3 hown hK hP kl (gX_letter cs ad nu62 kl h1kl h2kl) rfl 9 (by decide) (hts _ (List.mem_cons_of_mem _ mw_1_77)) (fun _ h9 => h9) rfl dX3_beLike_74 ?_
  refine lv_topi (fun y73 ey73 => ?_)
  have hF := mi_let hF ey73
  have by73 : y73.toInt = (nu62 kl 9).toInt := congrArg Int32.toInt ey73
  have gy73 : 0 ≤ y73.toInt ∧ y73.toInt ≤ 1 := by rw [ey73]; exact rX_letter_9 ok kl h1kl h2kl
  refine va_put (D := (dC, dI)) (ci := 3) (v := .int y73) (ty := .boolean) (C := RX3) (T := TX3) (N := 10) hx hb hts inG3 tyX3 tyX3_ok nmX3 hown hK hP (wR_D nu62 hD) hS kk (gX_letter cs ad nu62 kk h1kk h2kk) rfl 9 (by decide) (hts _ (List.mem_cons_of_mem _ mw_1_77)) (fun _ h9 => h9) rfl (by decide +kernel) (by rcases nb_of (v := y73) ⟨by omega, by omega⟩ with h7 | h7 <;> rw [h7] <;> first | rfl | decide) (by rcases nb_of (v := y73) ⟨by omega, by omega⟩ with h7 | h7 <;> rw [h7] <;> first | rfl | decide) (Nat.le_of_ble_eq_true rfl) dX3_beLike_77 (fun H locs hP _ hS => ?_)
  simp only [List.set_cons_succ, List.set_cons_zero] at hP
  refine wr_gen (upd (nu62 kk) 9 y73) hP ((hX_letter_9 cs ad _ _ kk h1kk h2kk)) (fun nu74 hn74 hP => ?_)
  have hF := mi_let hF hn74.symm
  have ok := tX_letter_9 ok kk h1kk h2kk hn74 (by omega)
  have ez75 : y1 = nu74 kk 0 := ez63.trans (up_f hn74 (by decide)).symm
  have ez76 : y5 = nu74 kk 1 := ez64.trans (up_f hn74 (by decide)).symm
  have ez77 : y10 = nu74 kk 2 := ez65.trans (up_f hn74 (by decide)).symm
  have ez78 : y16 = nu74 kk 3 := ez66.trans (up_f hn74 (by decide)).symm
  have ez79 : y23 = nu74 kk 4 := ez67.trans (up_f hn74 (by decide)).symm
  have ez80 : y31 = nu74 kk 5 := ez68.trans (up_f hn74 (by decide)).symm
  have ez81 : y40 = nu74 kk 6 := ez69.trans (up_f hn74 (by decide)).symm
  have ez82 : y50 = nu74 kk 7 := ez70.trans (up_f hn74 (by decide)).symm
  have ez83 : y61 = nu74 kk 8 := ez72.trans (up_f hn74 (by decide)).symm
  have kp84 : (∀ k f : Nat, Nat.testBit 502 (gpX k f) = true → nu74 k f = mu k f) := kp_c 3 hn74 (fun _ => gpX_letter h1kk h2kk) (by decide) kp71
  have ez85 : y73 = nu74 kk 9 := up_v hn74
  exact W.vret hx hb hr (fun t ht hW => ⟨⟨nu74, rfl, ⟨hF.trans hfz.symm, ok, trivial, kp84⟩, by first | (subst ht; exact hP) | (rw [ht]; exact hP) | (show va_P (dC, dI) vwCl (wR 157 ad (EX cs ad) nu74) t.heap; rw [ht]; exact hP)⟩, hS.F ht⟩) hS.2.2 dX3_beLike_80
set_option maxHeartbeats 4000000 in
set_option maxRecDepth 100000 in
/-- sx_Letter_digestOn -/
theorem sx_Letter_digestOn (l : Launch) (dC : Nat → ClassId) (dI : Nat → Nat → Nat) (cs : Nat → ClassId) (ad : Nat → Nat) (mu : Nat → Nat → Int32) (ok : okR loX hiX mu) (H : Heap) (hP : va_P (dC, dI) vwCl (wR 157 ad (EX cs ad) mu) H) (kk : Nat) (h1kk : 61 ≤ kk) (h2kk : kk < 77) (lb : Int64) (vd : Int32) : Met l yX3_digestOn (wU yX3_digestOn cX3_digestOn 7 (some .long)) ({ frames := 3, cells := 0, slots := 0, locals := 73 }) (va_Pc [.ref (ad kk), .long lb, .int vd] (sz_P (dC, dI) vwCl (tyW cs) H)) (va_Ql (fun (z : Int64) (_ : Unit) => True) (fun _ t => t.heap = H) (fun _ => False)) 0 0 (fun _ => False) := by
  refine Met.ofW (cc := cX3_digestOn) (maxL := 7) (ret := (some .long)) (by decide) rfl ?_
  intro p e s m args below meth c s₁ B hml hv
  obtain ⟨rfl, hh, hK, hz⟩ := hv
  have hx := B.exec
  have hb := B.bytes
  have hr := B.returns
  have hts := atoms_spec (ws := (wU yX3_digestOn cX3_digestOn 7 (some .long))) B.pre
  have hown : s.vm.findClass RX3 = some m.cls := findClass_of_methodNamed B.named
  have hlocks := B.notSynchronized
  subst hh
  have hS : va_S (fun _ => False) s.heap s.heap [] := va_S.rf
  have hl := lv_entry ([.ref (ad kk), .long lb, .int vd]) (n := 7) (Nat.le_of_ble_eq_true rfl)
  rw [lg_entry_eq]
  generalize (lg_sl ([.ref (ad kk), .long lb, .int vd]) ++ List.replicate (7 - (lg_sl ([.ref (ad kk), .long lb, .int vd])).length) Slot.unset).toArray = ls at hl ⊢
  have hl : lv_has ls 7 [(0, .ref (ad kk)), (1, .long lb), (3, .int vd)] := hl
  refine lv_lload_n hx hb dX3_digestOn_0 rfl (lv_at hl 1 rfl) ?_
  refine lv_lstore (lv' := [(4, .long lb), (0, .ref (ad kk)), (1, .long lb), (3, .int vd)]) hx hb dX3_digestOn_1 hl (by decide) rfl (fun ls hl => ?_)
  refine lv_iconst (v := 0) hx hb dX3_digestOn_3 (by decide) ?_
  refine lv_istore (lv' := [(6, .int 0), (4, .long lb), (0, .ref (ad kk)), (1, .long lb), (3, .int vd)]) hx hb dX3_digestOn_4 hl (by decide) rfl (fun ls hl => ?_)
  have loop6 : ∀ (n6 : Nat) (v4_6 : Int64) (v6_6 : Int32) (locs : List Loc) (ls : Array Slot), (5 + 1 - v6_6.toInt).toNat < n6 → (0 ≤ v6_6.toInt ∧ v6_6.toInt ≤ 5) → va_S (fun _ => False) s.heap s.heap locs → lv_has ls 7 [(6, .int v6_6), (4, .long v4_6), (0, .ref (ad kk)), (1, .long lb), (3, .int vd)] → W p l e (headSpec (wU yX3_digestOn cX3_digestOn 7 (some .long)) ({ frames := 3, cells := 0, slots := 0, locals := 73 })).room s m ([.ref (ad kk), .long lb, .int vd] : List Value).toArray below meth c s.heap locs 0 0 (MQ below (va_Ql (fun (z : Int64) (_ : Unit) => True) (fun _ t => t.heap = s.heap) (fun _ => False)) ([.ref (ad kk), .long lb, .int vd] : List Value).toArray s 0 0 (fun _ => False)) (F0 m 6 ls []) := by
    intro n6
    induction n6 with
    | zero => intro v4_6 v6_6 locs ls hm; exact absurd hm (Nat.not_lt_zero _)
    | succ n6 ih6 =>
      intro v4_6 v6_6 locs ls hm_6 h_v6_6 hS hl
      refine lv_iload hx hb dX3_digestOn_6 (lv_at hl 0 rfl) ?_
      refine lv_iconst (v := 5) hx hb dX3_digestOn_8 (by decide) ?_
      refine lv_icmp_ge (tgt := 35) hx hb dX3_digestOn_9 (by decide) (fun c_1 => ?_) (fun c_1 => ?_)
      · have c_1 : 5 ≤ v6_6.toInt := il_le c_1
        refine lv_ldc2 (v := 31) hx hb hown (hts _ (List.mem_cons_of_mem _ mw_5_23)) dX3_digestOn_35 ?_
        refine lv_lload hx hb dX3_digestOn_38 (lv_at hl 1 rfl) ?_
        refine lv_lmul hx hb dX3_digestOn_40 ?_
        refine lv_topl (fun l2 el2 => ?_)
        refine lv_aload_n hx hb dX3_digestOn_41 rfl (lv_at hl 2 rfl) ?_
        refine va_get (D := (dC, dI)) (ci := 3) (v := .int (mu kk 5)) (C := RX3) (T := TX3) (N := 10) hx hb hts inG3 hown hK hP kk (gX_letter cs ad mu kk h1kk h2kk) rfl 5 (by decide) (hts _ (List.mem_cons_of_mem _ mw_1_62)) (fun _ h9 => h9) rfl dX3_digestOn_42 ?_
        refine lv_topi (fun y3 ey3 => ?_)
        have by3 : y3.toInt = (mu kk 5).toInt := congrArg Int32.toInt ey3
        have gy3 : 0 ≤ y3.toInt ∧ y3.toInt ≤ 6 := by rw [ey3]; exact rX_letter_5 ok kk h1kk h2kk
        refine lv_i2l hx hb dX3_digestOn_45 rfl ?_
        refine lv_topl (fun l4 el4 => ?_)
        refine lv_ladd hx hb dX3_digestOn_46 ?_
        refine lv_topl (fun l5 el5 => ?_)
        refine lv_lstore (lv' := [(4, .long l5), (6, .int v6_6), (0, .ref (ad kk)), (1, .long lb), (3, .int vd)]) hx hb dX3_digestOn_47 hl (by decide) rfl (fun ls hl => ?_)
        refine lv_ldc2 (v := 31) hx hb hown (hts _ (List.mem_cons_of_mem _ mw_5_23)) dX3_digestOn_49 ?_
        refine lv_lload hx hb dX3_digestOn_52 (lv_at hl 0 rfl) ?_
        refine lv_lmul hx hb dX3_digestOn_54 ?_
        refine lv_topl (fun l6 el6 => ?_)
        refine lv_aload_n hx hb dX3_digestOn_55 rfl (lv_at hl 2 rfl) ?_
        refine va_get (D := (dC, dI)) (ci := 3) (v := .int (mu kk 6)) (C := RX3) (T := TX3) (N := 10) hx hb hts inG3 hown hK hP kk (gX_letter cs ad mu kk h1kk h2kk) rfl 6 (by decide) (hts _ (List.mem_cons_of_mem _ mw_1_67)) (fun _ h9 => h9) rfl dX3_digestOn_56 ?_
        refine lv_topi (fun y7 ey7 => ?_)
        have by7 : y7.toInt = (mu kk 6).toInt := congrArg Int32.toInt ey7
        refine lv_i2l hx hb dX3_digestOn_59 rfl ?_
        refine lv_topl (fun l8 el8 => ?_)
        refine lv_ladd hx hb dX3_digestOn_60 ?_
        refine lv_topl (fun l9 el9 => ?_)
        exact W.lret (v := l9) hx hb hr (fun t ht hW => ⟨⟨l9, (), rfl, trivial, ht⟩, hS.F ht⟩) hS.2.2 dX3_digestOn_61
      · have c_1 : v6_6.toInt < 5 := il_nle c_1
        refine lv_ldc2 (v := 31) hx hb hown (hts _ (List.mem_cons_of_mem _ mw_5_23)) dX3_digestOn_12 ?_
        refine lv_lload hx hb dX3_digestOn_15 (lv_at hl 1 rfl) ?_
        refine lv_lmul hx hb dX3_digestOn_17 ?_
        refine lv_topl (fun l10 el10 => ?_)
        refine lv_aload_n hx hb dX3_digestOn_18 rfl (lv_at hl 2 rfl) ?_
        refine lv_iload hx hb dX3_digestOn_19 (lv_at hl 0 rfl) ?_
        refine lv_iload_n hx hb dX3_digestOn_21 rfl (lv_at hl 4 rfl) ?_
        refine cr_i (va_runV (As := [.int v6_6, .int vd]) (rest := [.long l10]) ⟨hx, hb, hml, hown, hts⟩ (sx_fact l dC dI cs ad mu ok s.heap hP kk h1kk h2kk v6_6 vd) (cwV 2 hts (wU_V mw_3_200 mw_5_24 mw_3_198 mw_3_199 mw_1_4) rfl rfl rfl (by decide +kernel) ⟨Nat.le_of_ble_eq_true rfl, Nat.le_of_ble_eq_true rfl⟩) ⟨sz_c, va_recv hK hP (ci := 3) (q0 := kk) rfl (gX_letter cs ad mu kk h1kk h2kk), sz_m hK hz⟩ rfl rfl hl.1 rfl (lv_room (Nat.le_of_ble_eq_true rfl)) dX3_digestOn_22 ⟨Nat.zero_le _, Nat.zero_le _⟩) hS (fun r11 hw11 locs hS => ?_)
        obtain ⟨hfe11, hw11⟩ := hw11
        refine lv_i2l hx hb dX3_digestOn_25 rfl ?_
        refine lv_topl (fun l12 el12 => ?_)
        refine lv_ladd hx hb dX3_digestOn_26 ?_
        refine lv_topl (fun l13 el13 => ?_)
        refine lv_lstore (lv' := [(4, .long l13), (6, .int v6_6), (0, .ref (ad kk)), (1, .long lb), (3, .int vd)]) hx hb dX3_digestOn_27 hl (by decide) rfl (fun ls hl => ?_)
        refine lv_iinc (v := (v6_6 + 1)) (lv' := [(6, .int (v6_6 + 1)), (4, .long l13), (0, .ref (ad kk)), (1, .long lb), (3, .int vd)]) hx hb dX3_digestOn_29 hl (k := 1) rfl rfl (by decide) rfl (fun ls hl => ?_)
        refine loc_gen (P := fun w9 => lv_has ls 7 [(6, .int w9), (4, .long l13), (0, .ref (ad kk)), (1, .long lb), (3, .int vd)]) (v6_6 + 1) hl (fun w14 hw14 hl => ?_)
        have hl : lv_has ls 7 [(6, .int w14), (4, .long l13), (0, .ref (ad kk)), (1, .long lb), (3, .int vd)] := hl
        have aw14 : w14.toInt = v6_6.toInt + 1 := by rw [← hw14]; exact va1 (by omega)
        refine lv_goto (tgt := 6) hx hb dX3_digestOn_32 (by decide) ?_
        exact ih6 (l13) (w14)  _ _ (by first | exact ms_lt hm_6 (by omega) (by omega) | omega) (by omega)   hS (lv_sub hl [0, 1, 2, 3, 4] rfl)
  exact loop6 ((5 + 1 - (0 : Int32).toInt).toNat + 1) (lb) (0)  _ _ (Nat.lt_succ_self _) (by have h80 : (0 : Int32).toInt = 0 := rfl; exact ⟨by omega, by omega⟩)   hS hl
set_option maxHeartbeats 4000000 in
set_option maxRecDepth 100000 in
/-- sx_priceOf -/
theorem sx_priceOf (l : Launch) (dC : Nat → ClassId) (dI : Nat → Nat → Nat) (cs : Nat → ClassId) (ad : Nat → Nat) (mu : Nat → Nat → Int32) (ok : okR loX hiX mu) (H : Heap) (hP : va_P (dC, dI) vwCl (wR 157 ad (EX cs ad) mu) H) (kl : Nat) (h1kl : 61 ≤ kl) (h2kl : kl < 77) : Met l yX10_priceOf (wU yX10_priceOf cX10_priceOf 2 (some .int)) ({ frames := 1, cells := 0, slots := 0, locals := 21 }) (va_Pc [.ref (ad 4), .ref (ad kl)] (sz_P (dC, dI) vwCl (tyW cs) H)) (va_Qi (fun (z : Int32) (_ : Unit) => z = F_sx_priceOf mu kl ∧ (True)) (fun _ t => t.heap = H) (fun _ => False)) 0 0 (fun _ => False) := by
  refine Met.ofW (cc := cX10_priceOf) (maxL := 2) (ret := (some .int)) (by decide) rfl ?_
  intro p e s m args below meth c s₁ B hml hv
  obtain ⟨rfl, hh, hK, hz⟩ := hv
  have hx := B.exec
  have hb := B.bytes
  have hr := B.returns
  have hts := atoms_spec (ws := (wU yX10_priceOf cX10_priceOf 2 (some .int))) B.pre
  have hown : s.vm.findClass RX10 = some m.cls := findClass_of_methodNamed B.named
  have hlocks := B.notSynchronized
  subst hh
  have hS : va_S (fun _ => False) s.heap s.heap [] := va_S.rf
  have hl := lv_entry ([.ref (ad 4), .ref (ad kl)]) (n := 2) (Nat.le_of_ble_eq_true rfl)
  rw [lg_entry_eq]
  generalize (lg_sl ([.ref (ad 4), .ref (ad kl)]) ++ List.replicate (2 - (lg_sl ([.ref (ad 4), .ref (ad kl)])).length) Slot.unset).toArray = ls at hl ⊢
  have hl : lv_has ls 2 [(0, .ref (ad 4)), (1, .ref (ad kl))] := hl
  obtain ⟨fz, hfz⟩ : ∃ z, F_sx_priceOf mu kl = z := ⟨_, rfl⟩
  have hF := hfz
  unfold F_sx_priceOf at hF
  refine lv_aload_n hx hb dX10_priceOf_0 rfl (lv_at hl 0 rfl) ?_
  refine va_get (D := (dC, dI)) (ci := 10) (v := .ref (ad 34)) (C := RX10) (T := TX10) (N := 8) hx hb hts inG10 hown hK hP 4 (gX_4 cs ad mu) rfl 0 (by decide) (hts _ (List.mem_cons_of_mem _ mw_1_143)) (fun _ h9 => h9) rfl dX10_priceOf_1 ?_
  refine lv_aload_n hx hb dX10_priceOf_4 rfl (lv_at hl 1 rfl) ?_
  refine va_get (D := (dC, dI)) (ci := 3) (v := .int (mu kl 5)) (C := RX3) (T := TX3) (N := 10) hx hb hts inG3 hown hK hP kl (gX_letter cs ad mu kl h1kl h2kl) rfl 5 (by decide) (hts _ (List.mem_cons_of_mem _ mw_1_64)) (fun _ h9 => h9) rfl dX10_priceOf_5 ?_
  refine lv_topi (fun y1 ey1 => ?_)
  have hF := mi_let hF ey1
  have by1 : y1.toInt = (mu kl 5).toInt := congrArg Int32.toInt ey1
  have gy1 : 0 ≤ y1.toInt ∧ y1.toInt ≤ 6 := by rw [ey1]; exact rX_letter_5 ok kl h1kl h2kl
  refine va_iald hx hb hK hP 34 0 (gX_34 cs ad mu) rfl (show vp_in y1 7 from vi_of (by omega) (by omega)) dX10_priceOf_8 ?_
  refine lv_topi (fun y2 ey2 => ?_)
  have hF := mi_let hF ey2
  have by2 : y2.toInt = (mu 34 y1.toNatClampNeg).toInt := congrArg Int32.toInt ey2
  refine lv_aload_n hx hb dX10_priceOf_9 rfl (lv_at hl 1 rfl) ?_
  refine va_get (D := (dC, dI)) (ci := 3) (v := .int (mu kl 6)) (C := RX3) (T := TX3) (N := 10) hx hb hts inG3 hown hK hP kl (gX_letter cs ad mu kl h1kl h2kl) rfl 6 (by decide) (hts _ (List.mem_cons_of_mem _ mw_1_69)) (fun _ h9 => h9) rfl dX10_priceOf_10 ?_
  refine lv_topi (fun y3 ey3 => ?_)
  have hF := mi_let hF ey3
  have by3 : y3.toInt = (mu kl 6).toInt := congrArg Int32.toInt ey3
  refine cr_i (va_runSN (As := [.int y2, .int y3]) (rest := []) ⟨hx, hb, hml, hown, hts⟩ (sx_priceAsked l dC dI (tyW cs) s.heap y2 y3) ⟨va_cnB 2 hts (wU_in mw_3_107) rfl rfl rfl (hz.2.2.2.2.1) (hts _ (List.mem_cons_of_mem _ mw_1_1)) (by decide +kernel) ⟨Nat.le_of_ble_eq_true rfl, Nat.le_of_ble_eq_true rfl⟩, (hts _ (List.mem_cons_of_mem _ mw_3_106)), trivial⟩ ⟨sz_c, sz_m hK hz⟩ rfl rfl hl.1 rfl (lv_room (Nat.le_of_ble_eq_true rfl)) dX10_priceOf_13 ⟨Nat.zero_le _, Nat.zero_le _⟩) hS (fun r4 hw4 locs hS => ?_)
  obtain ⟨hfe4, hw4⟩ := hw4
  have hF := mi_let hF hfe4
  exact W.iret (v := r4) hx hb hr (fun t ht hW => ⟨⟨r4, (), rfl, ⟨hF.trans hfz.symm, trivial⟩, ht⟩, hS.F ht⟩) hS.2.2 dX10_priceOf_16
set_option maxHeartbeats 4000000 in
set_option maxRecDepth 100000 in
/-- sx_buyersOf -/
theorem sx_buyersOf (l : Launch) (dC : Nat → ClassId) (dI : Nat → Nat → Nat) (cs : Nat → ClassId) (ad : Nat → Nat) (mu : Nat → Nat → Int32) (ok : okR loX hiX mu) (H : Heap) (hP : va_P (dC, dI) vwCl (wR 157 ad (EX cs ad) mu) H) (kl : Nat) (h1kl : 61 ≤ kl) (h2kl : kl < 77) : Met l yX10_buyersOf (wU yX10_buyersOf cX10_buyersOf 6 (some .int)) ({ frames := 2, cells := 0, slots := 0, locals := 51 }) (va_Pc [.ref (ad 4), .ref (ad kl)] (sz_P (dC, dI) vwCl (tyW cs) H)) (va_Qi (fun (z : Int32) (_ : Unit) => z = F_sx_buyersOf mu kl ∧ (True)) (fun _ t => t.heap = H) (fun _ => False)) 0 0 (fun _ => False) := by
  refine Met.ofW (cc := cX10_buyersOf) (maxL := 6) (ret := (some .int)) (by decide) rfl ?_
  intro p e s m args below meth c s₁ B hml hv
  obtain ⟨rfl, hh, hK, hz⟩ := hv
  have hx := B.exec
  have hb := B.bytes
  have hr := B.returns
  have hts := atoms_spec (ws := (wU yX10_buyersOf cX10_buyersOf 6 (some .int))) B.pre
  have hown : s.vm.findClass RX10 = some m.cls := findClass_of_methodNamed B.named
  have hlocks := B.notSynchronized
  subst hh
  have hS : va_S (fun _ => False) s.heap s.heap [] := va_S.rf
  have hl := lv_entry ([.ref (ad 4), .ref (ad kl)]) (n := 6) (Nat.le_of_ble_eq_true rfl)
  rw [lg_entry_eq]
  generalize (lg_sl ([.ref (ad 4), .ref (ad kl)]) ++ List.replicate (6 - (lg_sl ([.ref (ad 4), .ref (ad kl)])).length) Slot.unset).toArray = ls at hl ⊢
  have hl : lv_has ls 6 [(0, .ref (ad 4)), (1, .ref (ad kl))] := hl
  obtain ⟨fz, hfz⟩ : ∃ z, F_sx_buyersOf mu kl = z := ⟨_, rfl⟩
  have hF := hfz
  unfold F_sx_buyersOf at hF
  refine lv_aload_n hx hb dX10_buyersOf_0 rfl (lv_at hl 1 rfl) ?_
  refine va_get (D := (dC, dI)) (ci := 3) (v := .int (mu kl 9)) (C := RX3) (T := TX3) (N := 10) hx hb hts inG3 hown hK hP kl (gX_letter cs ad mu kl h1kl h2kl) rfl 9 (by decide) (hts _ (List.mem_cons_of_mem _ mw_1_79)) (fun _ h9 => h9) rfl dX10_buyersOf_1 ?_
  refine lv_topi (fun y1 ey1 => ?_)
  have hF := mi_let hF ey1
  have by1 : y1.toInt = (mu kl 9).toInt := congrArg Int32.toInt ey1
  have gy1 : 0 ≤ y1.toInt ∧ y1.toInt ≤ 1 := by rw [ey1]; exact rX_letter_9 ok kl h1kl h2kl
  refine lv_if_ne (tgt := 21) hx hb dX10_buyersOf_4 (by decide) (fun c_2 => ?_) (fun c_2 => ?_)
  · have hF := (if_neg c_2).symm.trans hF
    have c_2 : ¬ y1.toInt = 0 := il_ne c_2
    refine lv_iconst (v := 0) hx hb dX10_buyersOf_21 (by decide) ?_
    exact W.iret (v := 0) hx hb hr (fun t ht hW => ⟨⟨0, (), rfl, ⟨hF.trans hfz.symm, trivial⟩, ht⟩, hS.F ht⟩) hS.2.2 dX10_buyersOf_22
  · have hF := (if_pos c_2).symm.trans hF
    have c_2 : y1.toInt = 0 := il_eq c_2
    refine lv_aload_n hx hb dX10_buyersOf_7 rfl (lv_at hl 1 rfl) ?_
    refine va_get (D := (dC, dI)) (ci := 3) (v := .int (mu kl 7)) (C := RX3) (T := TX3) (N := 10) hx hb hts inG3 hown hK hP kl (gX_letter cs ad mu kl h1kl h2kl) rfl 7 (by decide) (hts _ (List.mem_cons_of_mem _ mw_1_74)) (fun _ h9 => h9) rfl dX10_buyersOf_8 ?_
    refine lv_topi (fun y3 ey3 => ?_)
    have hF := mi_let hF ey3
    have by3 : y3.toInt = (mu kl 7).toInt := congrArg Int32.toInt ey3
    refine lv_aload_n hx hb dX10_buyersOf_11 rfl (lv_at hl 0 rfl) ?_
    refine va_get (D := (dC, dI)) (ci := 10) (v := .ref (ad 5)) (C := RX10) (T := TX10) (N := 8) hx hb hts inG10 hown hK hP 4 (gX_4 cs ad mu) rfl 3 (by decide) (hts _ (List.mem_cons_of_mem _ mw_1_152)) (fun _ h9 => h9) rfl dX10_buyersOf_12 ?_
    refine va_get (D := (dC, dI)) (ci := 8) (v := .int (mu 5 3)) (C := RX8) (T := TX8) (N := 6) hx hb hts inG8 hown hK hP 5 (gX_5 cs ad mu) rfl 3 (by decide) (hts _ (List.mem_cons_of_mem _ mw_1_123)) (fun _ h9 => h9) rfl dX10_buyersOf_15 ?_
    refine lv_topi (fun y4 ey4 => ?_)
    have hF := mi_let hF ey4
    have by4 : y4.toInt = (mu 5 3).toInt := congrArg Int32.toInt ey4
    refine lv_icmp_ne (tgt := 23) hx hb dX10_buyersOf_18 (by decide) (fun c_5 => ?_) (fun c_5 => ?_)
    · have hF := (if_neg c_5).symm.trans hF
      have c_5 : ¬ y3.toInt = y4.toInt := il_ne c_5
      refine lv_aload_n hx hb dX10_buyersOf_23 rfl (lv_at hl 0 rfl) ?_
      refine lv_aload_n hx hb dX10_buyersOf_24 rfl (lv_at hl 1 rfl) ?_
      refine cr_i (va_runV (As := [.ref (ad kl)]) (rest := []) ⟨hx, hb, hml, hown, hts⟩ (sx_priceOf l dC dI cs ad mu ok s.heap hP kl h1kl h2kl) (cwV 1 hts (wU_V mw_3_165 mw_3_162 mw_3_163 mw_3_164 mw_1_2) rfl rfl rfl (by decide +kernel) ⟨Nat.le_of_ble_eq_true rfl, Nat.le_of_ble_eq_true rfl⟩) ⟨sz_c, va_recv hK hP (ci := 10) (q0 := 4) rfl (gX_4 cs ad mu), sz_m hK hz⟩ rfl rfl hl.1 rfl (lv_room (Nat.le_of_ble_eq_true rfl)) dX10_buyersOf_25 ⟨Nat.zero_le _, Nat.zero_le _⟩) hS (fun r6 hw6 locs hS => ?_)
      obtain ⟨hfe6, hw6⟩ := hw6
      have hF := mi_let hF hfe6
      refine lv_istore_n (lv' := [(2, .int r6), (0, .ref (ad 4)), (1, .ref (ad kl))]) hx hb dX10_buyersOf_28 rfl hl (by decide) rfl (fun ls hl => ?_)
      refine lv_aload_n hx hb dX10_buyersOf_29 rfl (lv_at hl 1 rfl) ?_
      refine lv_aload_n hx hb dX10_buyersOf_30 rfl (lv_at hl 2 rfl) ?_
      refine va_get (D := (dC, dI)) (ci := 3) (v := .int (mu kl 5)) (C := RX3) (T := TX3) (N := 10) hx hb hts inG3 hown hK hP kl (gX_letter cs ad mu kl h1kl h2kl) rfl 5 (by decide) (hts _ (List.mem_cons_of_mem _ mw_1_64)) (fun _ h9 => h9) rfl dX10_buyersOf_31 ?_
      refine lv_topi (fun y7 ey7 => ?_)
      have hF := mi_let hF ey7
      have by7 : y7.toInt = (mu kl 5).toInt := congrArg Int32.toInt ey7
      have gy7 : 0 ≤ y7.toInt ∧ y7.toInt ≤ 6 := by rw [ey7]; exact rX_letter_5 ok kl h1kl h2kl
      refine lv_aload_n hx hb dX10_buyersOf_34 rfl (lv_at hl 1 rfl) ?_
      refine va_get (D := (dC, dI)) (ci := 10) (v := .ref (ad 5)) (C := RX10) (T := TX10) (N := 8) hx hb hts inG10 hown hK hP 4 (gX_4 cs ad mu) rfl 3 (by decide) (hts _ (List.mem_cons_of_mem _ mw_1_152)) (fun _ h9 => h9) rfl dX10_buyersOf_35 ?_
      refine va_get (D := (dC, dI)) (ci := 8) (v := .int (mu 5 2)) (C := RX8) (T := TX8) (N := 6) hx hb hts inG8 hown hK hP 5 (gX_5 cs ad mu) rfl 2 (by decide) (hts _ (List.mem_cons_of_mem _ mw_1_116)) (fun _ h9 => h9) rfl dX10_buyersOf_38 ?_
      refine lv_topi (fun y8 ey8 => ?_)
      have hF := mi_let hF ey8
      have by8 : y8.toInt = (mu 5 2).toInt := congrArg Int32.toInt ey8
      refine cr_i (va_runV (As := [.int y7, .int y8]) (rest := []) ⟨hx, hb, hml, hown, hts⟩ (sx_near l dC dI cs ad mu ok s.heap hP y7 y8) (cwV 2 hts (wU_V mw_3_84 mw_3_81 mw_3_82 mw_3_83 mw_1_2) rfl rfl rfl (by decide +kernel) ⟨Nat.le_of_ble_eq_true rfl, Nat.le_of_ble_eq_true rfl⟩) ⟨sz_c, va_recv hK hP (ci := 10) (q0 := 4) rfl (gX_4 cs ad mu), sz_m hK hz⟩ rfl rfl hl.1 rfl (lv_room (Nat.le_of_ble_eq_true rfl)) dX10_buyersOf_41 ⟨Nat.zero_le _, Nat.zero_le _⟩) hS (fun r9 hw9 locs hS => ?_)
      obtain ⟨hfe9, hw9⟩ := hw9
      have hF := mi_let hF hfe9
      refine lv_istore_n (lv' := [(3, .int r9), (2, .int r6), (0, .ref (ad 4)), (1, .ref (ad kl))]) hx hb dX10_buyersOf_44 rfl hl (by decide) rfl (fun ls hl => ?_)
      refine lv_iconst (v := 0) hx hb dX10_buyersOf_45 (by decide) ?_
      refine lv_istore (lv' := [(4, .int 0), (3, .int r9), (2, .int r6), (0, .ref (ad 4)), (1, .ref (ad kl))]) hx hb dX10_buyersOf_46 hl (by decide) rfl (fun ls hl => ?_)
      have loop48 : ∀ (n48 : Nat) (v3_48 : Int32) (v4_48 : Int32) (locs : List Loc) (ls : Array Slot), (7 + 1 - v4_48.toInt).toNat < n48 → (0 ≤ v4_48.toInt ∧ v4_48.toInt ≤ 7) → L_sx_buyersOf_48_0 kl mu r6 y4 n48 v3_48 v4_48 = fz → va_S (fun _ => False) s.heap s.heap locs → lv_has ls 6 [(4, .int v4_48), (3, .int v3_48), (2, .int r6), (0, .ref (ad 4)), (1, .ref (ad kl))] → W p l e (headSpec (wU yX10_buyersOf cX10_buyersOf 6 (some .int)) ({ frames := 2, cells := 0, slots := 0, locals := 51 })).room s m ([.ref (ad 4), .ref (ad kl)] : List Value).toArray below meth c s.heap locs 0 0 (MQ below (va_Qi (fun (z : Int32) (_ : Unit) => z = F_sx_buyersOf mu kl ∧ (True)) (fun _ t => t.heap = s.heap) (fun _ => False)) ([.ref (ad 4), .ref (ad kl)] : List Value).toArray s 0 0 (fun _ => False)) (F0 m 48 ls []) := by
        intro n48
        induction n48 with
        | zero => intro v3_48 v4_48 locs ls hm; exact absurd hm (Nat.not_lt_zero _)
        | succ n48 ih48 =>
          intro v3_48 v4_48 locs ls hm_48 h_v4_48 hF hS hl
          rw [L_sx_buyersOf_48_0] at hF
          refine lv_iload hx hb dX10_buyersOf_48 (lv_at hl 0 rfl) ?_
          refine lv_aload_n hx hb dX10_buyersOf_50 rfl (lv_at hl 3 rfl) ?_
          refine va_get (D := (dC, dI)) (ci := 10) (v := .int (mu 4 6)) (C := RX10) (T := TX10) (N := 8) hx hb hts inG10 hown hK hP 4 (gX_4 cs ad mu) rfl 6 (by decide) (hts _ (List.mem_cons_of_mem _ mw_1_160)) (fun _ h9 => h9) rfl dX10_buyersOf_51 ?_
          refine lv_topi (fun y10 ey10 => ?_)
          have hF := mi_let hF ey10
          have by10 : y10.toInt = (mu 4 6).toInt := congrArg Int32.toInt ey10
          have gy10 : 0 ≤ y10.toInt ∧ y10.toInt ≤ 7 := by rw [ey10]; exact rX_4_6 ok
          refine lv_icmp_ge (tgt := 141) hx hb dX10_buyersOf_54 (by decide) (fun c_11 => ?_) (fun c_11 => ?_)
          · have hF := (if_pos c_11).symm.trans hF
            have c_11 : y10.toInt ≤ v4_48.toInt := il_le c_11
            refine lv_iload_n hx hb dX10_buyersOf_141 rfl (lv_at hl 1 rfl) ?_
            exact W.iret (v := v3_48) hx hb hr (fun t ht hW => ⟨⟨v3_48, (), rfl, ⟨hF.trans hfz.symm, trivial⟩, ht⟩, hS.F ht⟩) hS.2.2 dX10_buyersOf_142
          · have hF := (if_neg c_11).symm.trans hF
            have c_11 : v4_48.toInt < y10.toInt := il_nle c_11
            refine lv_iload hx hb dX10_buyersOf_57 (lv_at hl 0 rfl) ?_
            refine lv_aload_n hx hb dX10_buyersOf_59 rfl (lv_at hl 4 rfl) ?_
            refine va_get (D := (dC, dI)) (ci := 3) (v := .int (mu kl 1)) (C := RX3) (T := TX3) (N := 10) hx hb hts inG3 hown hK hP kl (gX_letter cs ad mu kl h1kl h2kl) rfl 1 (by decide) (hts _ (List.mem_cons_of_mem _ mw_1_55)) (fun _ h9 => h9) rfl dX10_buyersOf_60 ?_
            refine lv_topi (fun y12 ey12 => ?_)
            have hF := mi_let hF ey12
            have by12 : y12.toInt = (mu kl 1).toInt := congrArg Int32.toInt ey12
            have gy12 : 0 ≤ y12.toInt ∧ y12.toInt ≤ 6 := by rw [ey12]; exact rX_letter_1 ok kl h1kl h2kl
            refine lv_icmp_ne (tgt := 89) hx hb dX10_buyersOf_63 (by decide) (fun c_13 => ?_) (fun c_13 => ?_)
            · have hF := (if_neg c_13).symm.trans hF
              have c_13 : ¬ v4_48.toInt = y12.toInt := il_ne c_13
              refine lv_aload_n hx hb dX10_buyersOf_89 rfl (lv_at hl 3 rfl) ?_
              refine va_get (D := (dC, dI)) (ci := 10) (v := .ref (ad 34)) (C := RX10) (T := TX10) (N := 8) hx hb hts inG10 hown hK hP 4 (gX_4 cs ad mu) rfl 0 (by decide) (hts _ (List.mem_cons_of_mem _ mw_1_143)) (fun _ h9 => h9) rfl dX10_buyersOf_90 ?_
              refine lv_iload hx hb dX10_buyersOf_93 (lv_at hl 0 rfl) ?_
              refine va_iald hx hb hK hP 34 0 (gX_34 cs ad mu) rfl (show vp_in v4_48 7 from vi_of (by omega) (by omega)) dX10_buyersOf_95 ?_
              refine lv_topi (fun y14 ey14 => ?_)
              have hF := mi_let hF ey14
              have by14 : y14.toInt = (mu 34 v4_48.toNatClampNeg).toInt := congrArg Int32.toInt ey14
              refine lv_iconst (v := 3) hx hb dX10_buyersOf_96 (by decide) ?_
              refine lv_icmp_eq (tgt := 104) hx hb dX10_buyersOf_97 (by decide) (fun c_15 => ?_) (fun c_15 => ?_)
              · have hF := (if_pos c_15).symm.trans hF
                have c_15 : y14.toInt = 3 := il_eq c_15
                refine lv_iconst (v := 0) hx hb dX10_buyersOf_104 (by decide) ?_
                refine lv_istore (lv' := [(5, .int 0), (4, .int v4_48), (3, .int v3_48), (2, .int r6), (0, .ref (ad 4)), (1, .ref (ad kl))]) hx hb dX10_buyersOf_105 hl (by decide) rfl (fun ls hl => ?_)
                refine lv_iload hx hb dX10_buyersOf_107 (lv_at hl 0 rfl) ?_
                refine lv_if_eq (tgt := 126) hx hb dX10_buyersOf_109 (by decide) (fun _ => ?_) (fun c => absurd (by decide) c)
                refine lv_iload_n hx hb dX10_buyersOf_126 rfl (lv_at hl 2 rfl) ?_
                refine lv_iconst (v := 1) hx hb dX10_buyersOf_127 (by decide) ?_
                refine lv_iload hx hb dX10_buyersOf_128 (lv_at hl 1 rfl) ?_
                refine lv_ishl hx hb dX10_buyersOf_130 ?_
                refine lv_topi (fun t16 et16 => ?_)
                have hF := mi_let hF et16
                refine lv_iconst (v := (-1)) hx hb dX10_buyersOf_131 (by decide) ?_
                refine lv_ixor hx hb dX10_buyersOf_132 ?_
                refine lv_topi (fun t17 et17 => ?_)
                have hF := mi_let hF et17
                refine lv_iand hx hb dX10_buyersOf_133 ?_
                refine lv_topi (fun t18 et18 => ?_)
                have hF := mi_let hF et18
                refine lv_istore_n (lv' := [(3, .int t18), (5, .int 0), (4, .int v4_48), (2, .int r6), (0, .ref (ad 4)), (1, .ref (ad kl))]) hx hb dX10_buyersOf_134 rfl hl (by decide) rfl (fun ls hl => ?_)
                refine lv_iinc (v := (v4_48 + 1)) (lv' := [(4, .int (v4_48 + 1)), (3, .int t18), (5, .int 0), (2, .int r6), (0, .ref (ad 4)), (1, .ref (ad kl))]) hx hb dX10_buyersOf_135 hl (k := 2) rfl rfl (by decide) rfl (fun ls hl => ?_)
                refine loc_gen (P := fun w9 => lv_has ls 6 [(4, .int w9), (3, .int t18), (5, .int 0), (2, .int r6), (0, .ref (ad 4)), (1, .ref (ad kl))]) (v4_48 + 1) hl (fun w19 hw19 hl => ?_)
                have hl : lv_has ls 6 [(4, .int w19), (3, .int t18), (5, .int 0), (2, .int r6), (0, .ref (ad 4)), (1, .ref (ad kl))] := hl
                have hF := mi_let hF hw19.symm
                have aw19 : w19.toInt = v4_48.toInt + 1 := by rw [← hw19]; first | exact va1 (Int.lt_of_le_of_lt h_v4_48.2 (by decide)) | exact va1 (by omega)
                refine lv_goto (tgt := 48) hx hb dX10_buyersOf_138 (by decide) ?_
                exact ih48 (t18) (w19)  _ _ (by first | exact ms_up hm_48 aw19 h_v4_48.2 | exact ms_lt hm_48 (by omega) (by omega) | omega) (by first | exact rg_up aw19 h_v4_48 (by omega) | omega)   hF hS (lv_sub hl [0, 1, 3, 4, 5] rfl)
              · have hF := (if_neg c_15).symm.trans hF
                have c_15 : ¬ y14.toInt = 3 := il_ne c_15
                refine lv_iconst (v := 1) hx hb dX10_buyersOf_100 (by decide) ?_
                refine lv_goto (tgt := 105) hx hb dX10_buyersOf_101 (by decide) ?_
                refine lv_istore (lv' := [(5, .int 1), (4, .int v4_48), (3, .int v3_48), (2, .int r6), (0, .ref (ad 4)), (1, .ref (ad kl))]) hx hb dX10_buyersOf_105 hl (by decide) rfl (fun ls hl => ?_)
                refine lv_iload hx hb dX10_buyersOf_107 (lv_at hl 0 rfl) ?_
                refine lv_if_eq (tgt := 126) hx hb dX10_buyersOf_109 (by decide) (fun c => absurd c (by decide)) (fun _ => ?_)
                refine lv_aload_n hx hb dX10_buyersOf_112 rfl (lv_at hl 4 rfl) ?_
                refine va_get (D := (dC, dI)) (ci := 10) (v := .ref (ad 5)) (C := RX10) (T := TX10) (N := 8) hx hb hts inG10 hown hK hP 4 (gX_4 cs ad mu) rfl 3 (by decide) (hts _ (List.mem_cons_of_mem _ mw_1_152)) (fun _ h9 => h9) rfl dX10_buyersOf_113 ?_
                refine va_get (D := (dC, dI)) (ci := 8) (v := .ref (ad 46)) (C := RX8) (T := TX8) (N := 6) hx hb hts inG8 hown hK hP 5 (gX_5 cs ad mu) rfl 0 (by decide) (hts _ (List.mem_cons_of_mem _ mw_1_106)) (fun _ h9 => h9) rfl dX10_buyersOf_116 ?_
                refine lv_iload hx hb dX10_buyersOf_119 (lv_at hl 1 rfl) ?_
                refine va_iald hx hb hK hP 46 0 (gX_46 cs ad mu) rfl (show vp_in v4_48 7 from vi_of (by omega) (by omega)) dX10_buyersOf_121 ?_
                refine lv_topi (fun y20 ey20 => ?_)
                have hF := mi_let hF ey20
                have by20 : y20.toInt = (mu 46 v4_48.toNatClampNeg).toInt := congrArg Int32.toInt ey20
                refine lv_iload_n hx hb dX10_buyersOf_122 rfl (lv_at hl 3 rfl) ?_
                refine lv_icmp_ge (tgt := 135) hx hb dX10_buyersOf_123 (by decide) (fun c_21 => ?_) (fun c_21 => ?_)
                · have hF := (if_pos c_21).symm.trans hF
                  have c_21 : r6.toInt ≤ y20.toInt := il_le c_21
                  refine lv_iinc (v := (v4_48 + 1)) (lv' := [(4, .int (v4_48 + 1)), (5, .int 1), (3, .int v3_48), (2, .int r6), (0, .ref (ad 4)), (1, .ref (ad kl))]) hx hb dX10_buyersOf_135 hl (k := 1) rfl rfl (by decide) rfl (fun ls hl => ?_)
                  refine loc_gen (P := fun w9 => lv_has ls 6 [(4, .int w9), (5, .int 1), (3, .int v3_48), (2, .int r6), (0, .ref (ad 4)), (1, .ref (ad kl))]) (v4_48 + 1) hl (fun w22 hw22 hl => ?_)
                  have hl : lv_has ls 6 [(4, .int w22), (5, .int 1), (3, .int v3_48), (2, .int r6), (0, .ref (ad 4)), (1, .ref (ad kl))] := hl
                  have hF := mi_let hF hw22.symm
                  have aw22 : w22.toInt = v4_48.toInt + 1 := by rw [← hw22]; first | exact va1 (Int.lt_of_le_of_lt h_v4_48.2 (by decide)) | exact va1 (by omega)
                  refine lv_goto (tgt := 48) hx hb dX10_buyersOf_138 (by decide) ?_
                  exact ih48 (v3_48) (w22)  _ _ (by first | exact ms_up hm_48 aw22 h_v4_48.2 | exact ms_lt hm_48 (by omega) (by omega) | omega) (by first | exact rg_up aw22 h_v4_48 (by omega) | omega)   hF hS (lv_sub hl [0, 2, 3, 4, 5] rfl)
                · have hF := (if_neg c_21).symm.trans hF
                  have c_21 : y20.toInt < r6.toInt := il_nle c_21
                  refine lv_iload_n hx hb dX10_buyersOf_126 rfl (lv_at hl 2 rfl) ?_
                  refine lv_iconst (v := 1) hx hb dX10_buyersOf_127 (by decide) ?_
                  refine lv_iload hx hb dX10_buyersOf_128 (lv_at hl 1 rfl) ?_
                  refine lv_ishl hx hb dX10_buyersOf_130 ?_
                  refine lv_topi (fun t23 et23 => ?_)
                  have hF := mi_let hF et23
                  refine lv_iconst (v := (-1)) hx hb dX10_buyersOf_131 (by decide) ?_
                  refine lv_ixor hx hb dX10_buyersOf_132 ?_
                  refine lv_topi (fun t24 et24 => ?_)
                  have hF := mi_let hF et24
                  refine lv_iand hx hb dX10_buyersOf_133 ?_
                  refine lv_topi (fun t25 et25 => ?_)
                  have hF := mi_let hF et25
                  refine lv_istore_n (lv' := [(3, .int t25), (5, .int 1), (4, .int v4_48), (2, .int r6), (0, .ref (ad 4)), (1, .ref (ad kl))]) hx hb dX10_buyersOf_134 rfl hl (by decide) rfl (fun ls hl => ?_)
                  refine lv_iinc (v := (v4_48 + 1)) (lv' := [(4, .int (v4_48 + 1)), (3, .int t25), (5, .int 1), (2, .int r6), (0, .ref (ad 4)), (1, .ref (ad kl))]) hx hb dX10_buyersOf_135 hl (k := 2) rfl rfl (by decide) rfl (fun ls hl => ?_)
                  refine loc_gen (P := fun w9 => lv_has ls 6 [(4, .int w9), (3, .int t25), (5, .int 1), (2, .int r6), (0, .ref (ad 4)), (1, .ref (ad kl))]) (v4_48 + 1) hl (fun w26 hw26 hl => ?_)
                  have hl : lv_has ls 6 [(4, .int w26), (3, .int t25), (5, .int 1), (2, .int r6), (0, .ref (ad 4)), (1, .ref (ad kl))] := hl
                  have hF := mi_let hF hw26.symm
                  have aw26 : w26.toInt = v4_48.toInt + 1 := by rw [← hw26]; first | exact va1 (Int.lt_of_le_of_lt h_v4_48.2 (by decide)) | exact va1 (by omega)
                  refine lv_goto (tgt := 48) hx hb dX10_buyersOf_138 (by decide) ?_
                  exact ih48 (t25) (w26)  _ _ (by first | exact ms_up hm_48 aw26 h_v4_48.2 | exact ms_lt hm_48 (by omega) (by omega) | omega) (by first | exact rg_up aw26 h_v4_48 (by omega) | omega)   hF hS (lv_sub hl [0, 1, 3, 4, 5] rfl)
            · have hF := (if_pos c_13).symm.trans hF
              have c_13 : v4_48.toInt = y12.toInt := il_eq c_13
              refine lv_aload_n hx hb dX10_buyersOf_66 rfl (lv_at hl 4 rfl) ?_
              refine lv_aload_n hx hb dX10_buyersOf_67 rfl (lv_at hl 3 rfl) ?_
              refine va_get (D := (dC, dI)) (ci := 10) (v := .ref (ad 5)) (C := RX10) (T := TX10) (N := 8) hx hb hts inG10 hown hK hP 4 (gX_4 cs ad mu) rfl 3 (by decide) (hts _ (List.mem_cons_of_mem _ mw_1_152)) (fun _ h9 => h9) rfl dX10_buyersOf_68 ?_
              refine va_get (D := (dC, dI)) (ci := 8) (v := .int (mu 5 3)) (C := RX8) (T := TX8) (N := 6) hx hb hts inG8 hown hK hP 5 (gX_5 cs ad mu) rfl 3 (by decide) (hts _ (List.mem_cons_of_mem _ mw_1_123)) (fun _ h9 => h9) rfl dX10_buyersOf_71 ?_
              refine lq_i y4 ey4.symm ?_
              refine cr_i (va_runV (As := [.int y4]) (rest := []) ⟨hx, hb, hml, hown, hts⟩ (sx_worthOn l dC dI cs ad mu ok s.heap hP kl h1kl h2kl y4) (cwV 1 hts (wU_V mw_3_170 mw_3_167 mw_3_168 mw_3_169 mw_1_4) rfl rfl rfl (by decide +kernel) ⟨Nat.le_of_ble_eq_true rfl, Nat.le_of_ble_eq_true rfl⟩) ⟨sz_c, va_recv hK hP (ci := 3) (q0 := kl) rfl (gX_letter cs ad mu kl h1kl h2kl), sz_m hK hz⟩ rfl rfl hl.1 rfl (lv_room (Nat.le_of_ble_eq_true rfl)) dX10_buyersOf_74 ⟨Nat.zero_le _, Nat.zero_le _⟩) hS (fun r27 hw27 locs hS => ?_)
              obtain ⟨hfe27, hw27⟩ := hw27
              have hF := mi_let hF hfe27
              refine lv_iload_n hx hb dX10_buyersOf_77 rfl (lv_at hl 2 rfl) ?_
              refine lv_icmp_lt (tgt := 85) hx hb dX10_buyersOf_78 (by decide) (fun c_28 => ?_) (fun c_28 => ?_)
              · have hF := (if_pos c_28).symm.trans hF
                have c_28 : r27.toInt < r6.toInt := il_lt c_28
                refine lv_iconst (v := 0) hx hb dX10_buyersOf_85 (by decide) ?_
                refine lv_goto (tgt := 105) hx hb dX10_buyersOf_86 (by decide) ?_
                refine lv_istore (lv' := [(5, .int 0), (4, .int v4_48), (3, .int v3_48), (2, .int r6), (0, .ref (ad 4)), (1, .ref (ad kl))]) hx hb dX10_buyersOf_105 hl (by decide) rfl (fun ls hl => ?_)
                refine lv_iload hx hb dX10_buyersOf_107 (lv_at hl 0 rfl) ?_
                refine lv_if_eq (tgt := 126) hx hb dX10_buyersOf_109 (by decide) (fun _ => ?_) (fun c => absurd (by decide) c)
                refine lv_iload_n hx hb dX10_buyersOf_126 rfl (lv_at hl 2 rfl) ?_
                refine lv_iconst (v := 1) hx hb dX10_buyersOf_127 (by decide) ?_
                refine lv_iload hx hb dX10_buyersOf_128 (lv_at hl 1 rfl) ?_
                refine lv_ishl hx hb dX10_buyersOf_130 ?_
                refine lv_topi (fun t29 et29 => ?_)
                have hF := mi_let hF et29
                refine lv_iconst (v := (-1)) hx hb dX10_buyersOf_131 (by decide) ?_
                refine lv_ixor hx hb dX10_buyersOf_132 ?_
                refine lv_topi (fun t30 et30 => ?_)
                have hF := mi_let hF et30
                refine lv_iand hx hb dX10_buyersOf_133 ?_
                refine lv_topi (fun t31 et31 => ?_)
                have hF := mi_let hF et31
                refine lv_istore_n (lv' := [(3, .int t31), (5, .int 0), (4, .int v4_48), (2, .int r6), (0, .ref (ad 4)), (1, .ref (ad kl))]) hx hb dX10_buyersOf_134 rfl hl (by decide) rfl (fun ls hl => ?_)
                refine lv_iinc (v := (v4_48 + 1)) (lv' := [(4, .int (v4_48 + 1)), (3, .int t31), (5, .int 0), (2, .int r6), (0, .ref (ad 4)), (1, .ref (ad kl))]) hx hb dX10_buyersOf_135 hl (k := 2) rfl rfl (by decide) rfl (fun ls hl => ?_)
                refine loc_gen (P := fun w9 => lv_has ls 6 [(4, .int w9), (3, .int t31), (5, .int 0), (2, .int r6), (0, .ref (ad 4)), (1, .ref (ad kl))]) (v4_48 + 1) hl (fun w32 hw32 hl => ?_)
                have hl : lv_has ls 6 [(4, .int w32), (3, .int t31), (5, .int 0), (2, .int r6), (0, .ref (ad 4)), (1, .ref (ad kl))] := hl
                have hF := mi_let hF hw32.symm
                have aw32 : w32.toInt = v4_48.toInt + 1 := by rw [← hw32]; first | exact va1 (Int.lt_of_le_of_lt h_v4_48.2 (by decide)) | exact va1 (by omega)
                refine lv_goto (tgt := 48) hx hb dX10_buyersOf_138 (by decide) ?_
                exact ih48 (t31) (w32)  _ _ (by first | exact ms_up hm_48 aw32 h_v4_48.2 | exact ms_lt hm_48 (by omega) (by omega) | omega) (by first | exact rg_up aw32 h_v4_48 (by omega) | omega)   hF hS (lv_sub hl [0, 1, 3, 4, 5] rfl)
              · have hF := (if_neg c_28).symm.trans hF
                have c_28 : r6.toInt ≤ r27.toInt := il_nlt c_28
                refine lv_iconst (v := 1) hx hb dX10_buyersOf_81 (by decide) ?_
                refine lv_goto (tgt := 105) hx hb dX10_buyersOf_82 (by decide) ?_
                refine lv_istore (lv' := [(5, .int 1), (4, .int v4_48), (3, .int v3_48), (2, .int r6), (0, .ref (ad 4)), (1, .ref (ad kl))]) hx hb dX10_buyersOf_105 hl (by decide) rfl (fun ls hl => ?_)
                refine lv_iload hx hb dX10_buyersOf_107 (lv_at hl 0 rfl) ?_
                refine lv_if_eq (tgt := 126) hx hb dX10_buyersOf_109 (by decide) (fun c => absurd c (by decide)) (fun _ => ?_)
                refine lv_aload_n hx hb dX10_buyersOf_112 rfl (lv_at hl 4 rfl) ?_
                refine va_get (D := (dC, dI)) (ci := 10) (v := .ref (ad 5)) (C := RX10) (T := TX10) (N := 8) hx hb hts inG10 hown hK hP 4 (gX_4 cs ad mu) rfl 3 (by decide) (hts _ (List.mem_cons_of_mem _ mw_1_152)) (fun _ h9 => h9) rfl dX10_buyersOf_113 ?_
                refine va_get (D := (dC, dI)) (ci := 8) (v := .ref (ad 46)) (C := RX8) (T := TX8) (N := 6) hx hb hts inG8 hown hK hP 5 (gX_5 cs ad mu) rfl 0 (by decide) (hts _ (List.mem_cons_of_mem _ mw_1_106)) (fun _ h9 => h9) rfl dX10_buyersOf_116 ?_
                refine lv_iload hx hb dX10_buyersOf_119 (lv_at hl 1 rfl) ?_
                refine va_iald hx hb hK hP 46 0 (gX_46 cs ad mu) rfl (show vp_in v4_48 7 from vi_of (by omega) (by omega)) dX10_buyersOf_121 ?_
                refine lv_topi (fun y33 ey33 => ?_)
                have hF := mi_let hF ey33
                have by33 : y33.toInt = (mu 46 v4_48.toNatClampNeg).toInt := congrArg Int32.toInt ey33
                refine lv_iload_n hx hb dX10_buyersOf_122 rfl (lv_at hl 3 rfl) ?_
                refine lv_icmp_ge (tgt := 135) hx hb dX10_buyersOf_123 (by decide) (fun c_34 => ?_) (fun c_34 => ?_)
                · have hF := (if_pos c_34).symm.trans hF
                  have c_34 : r6.toInt ≤ y33.toInt := il_le c_34
                  refine lv_iinc (v := (v4_48 + 1)) (lv' := [(4, .int (v4_48 + 1)), (5, .int 1), (3, .int v3_48), (2, .int r6), (0, .ref (ad 4)), (1, .ref (ad kl))]) hx hb dX10_buyersOf_135 hl (k := 1) rfl rfl (by decide) rfl (fun ls hl => ?_)
                  refine loc_gen (P := fun w9 => lv_has ls 6 [(4, .int w9), (5, .int 1), (3, .int v3_48), (2, .int r6), (0, .ref (ad 4)), (1, .ref (ad kl))]) (v4_48 + 1) hl (fun w35 hw35 hl => ?_)
                  have hl : lv_has ls 6 [(4, .int w35), (5, .int 1), (3, .int v3_48), (2, .int r6), (0, .ref (ad 4)), (1, .ref (ad kl))] := hl
                  have hF := mi_let hF hw35.symm
                  have aw35 : w35.toInt = v4_48.toInt + 1 := by rw [← hw35]; first | exact va1 (Int.lt_of_le_of_lt h_v4_48.2 (by decide)) | exact va1 (by omega)
                  refine lv_goto (tgt := 48) hx hb dX10_buyersOf_138 (by decide) ?_
                  exact ih48 (v3_48) (w35)  _ _ (by first | exact ms_up hm_48 aw35 h_v4_48.2 | exact ms_lt hm_48 (by omega) (by omega) | omega) (by first | exact rg_up aw35 h_v4_48 (by omega) | omega)   hF hS (lv_sub hl [0, 2, 3, 4, 5] rfl)
                · have hF := (if_neg c_34).symm.trans hF
                  have c_34 : y33.toInt < r6.toInt := il_nle c_34
                  refine lv_iload_n hx hb dX10_buyersOf_126 rfl (lv_at hl 2 rfl) ?_
                  refine lv_iconst (v := 1) hx hb dX10_buyersOf_127 (by decide) ?_
                  refine lv_iload hx hb dX10_buyersOf_128 (lv_at hl 1 rfl) ?_
                  refine lv_ishl hx hb dX10_buyersOf_130 ?_
                  refine lv_topi (fun t36 et36 => ?_)
                  have hF := mi_let hF et36
                  refine lv_iconst (v := (-1)) hx hb dX10_buyersOf_131 (by decide) ?_
                  refine lv_ixor hx hb dX10_buyersOf_132 ?_
                  refine lv_topi (fun t37 et37 => ?_)
                  have hF := mi_let hF et37
                  refine lv_iand hx hb dX10_buyersOf_133 ?_
                  refine lv_topi (fun t38 et38 => ?_)
                  have hF := mi_let hF et38
                  refine lv_istore_n (lv' := [(3, .int t38), (5, .int 1), (4, .int v4_48), (2, .int r6), (0, .ref (ad 4)), (1, .ref (ad kl))]) hx hb dX10_buyersOf_134 rfl hl (by decide) rfl (fun ls hl => ?_)
                  refine lv_iinc (v := (v4_48 + 1)) (lv' := [(4, .int (v4_48 + 1)), (3, .int t38), (5, .int 1), (2, .int r6), (0, .ref (ad 4)), (1, .ref (ad kl))]) hx hb dX10_buyersOf_135 hl (k := 2) rfl rfl (by decide) rfl (fun ls hl => ?_)
                  refine loc_gen (P := fun w9 => lv_has ls 6 [(4, .int w9), (3, .int t38), (5, .int 1), (2, .int r6), (0, .ref (ad 4)), (1, .ref (ad kl))]) (v4_48 + 1) hl (fun w39 hw39 hl => ?_)
                  have hl : lv_has ls 6 [(4, .int w39), (3, .int t38), (5, .int 1), (2, .int r6), (0, .ref (ad 4)), (1, .ref (ad kl))] := hl
                  have hF := mi_let hF hw39.symm
                  have aw39 : w39.toInt = v4_48.toInt + 1 := by rw [← hw39]; first | exact va1 (Int.lt_of_le_of_lt h_v4_48.2 (by decide)) | exact va1 (by omega)
                  refine lv_goto (tgt := 48) hx hb dX10_buyersOf_138 (by decide) ?_
                  exact ih48 (t38) (w39)  _ _ (by first | exact ms_up hm_48 aw39 h_v4_48.2 | exact ms_lt hm_48 (by omega) (by omega) | omega) (by first | exact rg_up aw39 h_v4_48 (by omega) | omega)   hF hS (lv_sub hl [0, 1, 3, 4, 5] rfl)
      exact loop48 10 (r9) (0)  _ _ (by have h81 : (0 : Int32).toInt = 0 := rfl; omega) (by have h80 : (0 : Int32).toInt = 0 := rfl; exact ⟨by omega, by omega⟩)   hF hS hl
    · have hF := (if_pos c_5).symm.trans hF
      have c_5 : y3.toInt = y4.toInt := il_eq c_5
      refine lv_iconst (v := 0) hx hb dX10_buyersOf_21 (by decide) ?_
      exact W.iret (v := 0) hx hb hr (fun t ht hW => ⟨⟨0, (), rfl, ⟨hF.trans hfz.symm, trivial⟩, ht⟩, hS.F ht⟩) hS.2.2 dX10_buyersOf_22
set_option maxHeartbeats 4000000 in
set_option maxRecDepth 100000 in
/-- sx_buyableBy -/
theorem sx_buyableBy (l : Launch) (dC : Nat → ClassId) (dI : Nat → Nat → Nat) (cs : Nat → ClassId) (ad : Nat → Nat) (mu : Nat → Nat → Int32) (ok : okR loX hiX mu) (H : Heap) (hP : va_P (dC, dI) vwCl (wR 157 ad (EX cs ad) mu) H) (vx : Int32) : Met l yX10_buyableBy (wU yX10_buyableBy cX10_buyableBy 4 (some .int)) ({ frames := 3, cells := 0, slots := 0, locals := 76 }) (va_Pc [.ref (ad 4), .int vx] (sz_P (dC, dI) vwCl (tyW cs) H)) (va_Qi (fun (z : Int32) (_ : Unit) => z = F_sx_buyableBy mu vx ∧ (True)) (fun _ t => t.heap = H) (fun _ => False)) 0 0 (fun _ => False) := by
  refine Met.ofW (cc := cX10_buyableBy) (maxL := 4) (ret := (some .int)) (by decide) rfl ?_
  intro p e s m args below meth c s₁ B hml hv
  obtain ⟨rfl, hh, hK, hz⟩ := hv
  have hx := B.exec
  have hb := B.bytes
  have hr := B.returns
  have hts := atoms_spec (ws := (wU yX10_buyableBy cX10_buyableBy 4 (some .int))) B.pre
  have hown : s.vm.findClass RX10 = some m.cls := findClass_of_methodNamed B.named
  have hlocks := B.notSynchronized
  subst hh
  have hS : va_S (fun _ => False) s.heap s.heap [] := va_S.rf
  have hl := lv_entry ([.ref (ad 4), .int vx]) (n := 4) (Nat.le_of_ble_eq_true rfl)
  rw [lg_entry_eq]
  generalize (lg_sl ([.ref (ad 4), .int vx]) ++ List.replicate (4 - (lg_sl ([.ref (ad 4), .int vx])).length) Slot.unset).toArray = ls at hl ⊢
  have hl : lv_has ls 4 [(0, .ref (ad 4)), (1, .int vx)] := hl
  obtain ⟨fz, hfz⟩ : ∃ z, F_sx_buyableBy mu vx = z := ⟨_, rfl⟩
  have hF := hfz
  unfold F_sx_buyableBy at hF
  refine lv_iconst (v := 0) hx hb dX10_buyableBy_0 (by decide) ?_
  refine lv_istore_n (lv' := [(2, .int 0), (0, .ref (ad 4)), (1, .int vx)]) hx hb dX10_buyableBy_1 rfl hl (by decide) rfl (fun ls hl => ?_)
  refine lv_iconst (v := 0) hx hb dX10_buyableBy_2 (by decide) ?_
  refine lv_istore_n (lv' := [(3, .int 0), (2, .int 0), (0, .ref (ad 4)), (1, .int vx)]) hx hb dX10_buyableBy_3 rfl hl (by decide) rfl (fun ls hl => ?_)
  have loop4 : ∀ (n4 : Nat) (v2_4 : Int32) (v3_4 : Int32) (locs : List Loc) (ls : Array Slot), (4 + 1 - v3_4.toInt).toNat < n4 → (0 ≤ v3_4.toInt ∧ v3_4.toInt ≤ 4) → L_sx_buyableBy_4_0 mu vx n4 v2_4 v3_4 = fz → va_S (fun _ => False) s.heap s.heap locs → lv_has ls 4 [(3, .int v3_4), (2, .int v2_4), (0, .ref (ad 4)), (1, .int vx)] → W p l e (headSpec (wU yX10_buyableBy cX10_buyableBy 4 (some .int)) ({ frames := 3, cells := 0, slots := 0, locals := 76 })).room s m ([.ref (ad 4), .int vx] : List Value).toArray below meth c s.heap locs 0 0 (MQ below (va_Qi (fun (z : Int32) (_ : Unit) => z = F_sx_buyableBy mu vx ∧ (True)) (fun _ t => t.heap = s.heap) (fun _ => False)) ([.ref (ad 4), .int vx] : List Value).toArray s 0 0 (fun _ => False)) (F0 m 4 ls []) := by
    intro n4
    induction n4 with
    | zero => intro v2_4 v3_4 locs ls hm; exact absurd hm (Nat.not_lt_zero _)
    | succ n4 ih4 =>
      intro v2_4 v3_4 locs ls hm_4 h_v3_4 hF hS hl
      rw [L_sx_buyableBy_4_0] at hF
      refine lv_iload_n hx hb dX10_buyableBy_4 rfl (lv_at hl 0 rfl) ?_
      refine lv_aload_n hx hb dX10_buyableBy_5 rfl (lv_at hl 2 rfl) ?_
      refine va_get (D := (dC, dI)) (ci := 10) (v := .ref (ad 5)) (C := RX10) (T := TX10) (N := 8) hx hb hts inG10 hown hK hP 4 (gX_4 cs ad mu) rfl 3 (by decide) (hts _ (List.mem_cons_of_mem _ mw_1_152)) (fun _ h9 => h9) rfl dX10_buyableBy_6 ?_
      refine va_get (D := (dC, dI)) (ci := 8) (v := .int (mu 5 4)) (C := RX8) (T := TX8) (N := 6) hx hb hts inG8 hown hK hP 5 (gX_5 cs ad mu) rfl 4 (by decide) (hts _ (List.mem_cons_of_mem _ mw_1_126)) (fun _ h9 => h9) rfl dX10_buyableBy_9 ?_
      refine lv_topi (fun y1 ey1 => ?_)
      have hF := mi_let hF ey1
      have by1 : y1.toInt = (mu 5 4).toInt := congrArg Int32.toInt ey1
      have gy1 : 0 ≤ y1.toInt ∧ y1.toInt ≤ 4 := by rw [ey1]; exact rX_5_4 ok
      refine lv_icmp_ge (tgt := 51) hx hb dX10_buyableBy_12 (by decide) (fun c_2 => ?_) (fun c_2 => ?_)
      · have hF := (if_pos c_2).symm.trans hF
        have c_2 : y1.toInt ≤ v3_4.toInt := il_le c_2
        refine lv_iload_n hx hb dX10_buyableBy_51 rfl (lv_at hl 1 rfl) ?_
        exact W.iret (v := v2_4) hx hb hr (fun t ht hW => ⟨⟨v2_4, (), rfl, ⟨hF.trans hfz.symm, trivial⟩, ht⟩, hS.F ht⟩) hS.2.2 dX10_buyableBy_52
      · have hF := (if_neg c_2).symm.trans hF
        have c_2 : v3_4.toInt < y1.toInt := il_nle c_2
        refine lv_iload_n hx hb dX10_buyableBy_15 rfl (lv_at hl 1 rfl) ?_
        refine lv_aload_n hx hb dX10_buyableBy_16 rfl (lv_at hl 2 rfl) ?_
        refine lv_aload_n hx hb dX10_buyableBy_17 rfl (lv_at hl 2 rfl) ?_
        refine va_get (D := (dC, dI)) (ci := 10) (v := .ref (ad 5)) (C := RX10) (T := TX10) (N := 8) hx hb hts inG10 hown hK hP 4 (gX_4 cs ad mu) rfl 3 (by decide) (hts _ (List.mem_cons_of_mem _ mw_1_152)) (fun _ h9 => h9) rfl dX10_buyableBy_18 ?_
        refine va_get (D := (dC, dI)) (ci := 8) (v := .ref (ad 47)) (C := RX8) (T := TX8) (N := 6) hx hb hts inG8 hown hK hP 5 (gX_5 cs ad mu) rfl 1 (by decide) (hts _ (List.mem_cons_of_mem _ mw_1_111)) (fun _ h9 => h9) rfl dX10_buyableBy_21 ?_
        refine lv_iload_n hx hb dX10_buyableBy_24 rfl (lv_at hl 0 rfl) ?_
        have hx3 : 0 ≤ v3_4.toInt ∧ v3_4.toInt < ((4 : Nat) : Int) := ⟨by omega, by omega⟩
        refine va_aldq hx hb hK hP 47 5 (gX_47 cs ad mu) rfl (show vp_in v3_4 4 from vi_of hx3.1 hx3.2) dX10_buyableBy_25 ?_
        have hk3 : 61 ≤ (61 + v3_4.toNatClampNeg) ∧ (61 + v3_4.toNatClampNeg) < 65 := ix_of hx3
        have hk3 : 61 ≤ (61 + v3_4.toNatClampNeg) ∧ (61 + v3_4.toNatClampNeg) < 77 := ⟨Nat.le_trans (by decide) hk3.1, Nat.lt_of_lt_of_le hk3.2 (by decide)⟩
        refine lq_v (.ref (ad (61 + v3_4.toNatClampNeg))) rfl ?_
        refine cr_i (va_runV (As := [.ref (ad (61 + v3_4.toNatClampNeg))]) (rest := [.int v2_4]) ⟨hx, hb, hml, hown, hts⟩ (sx_buyersOf l dC dI cs ad mu ok s.heap hP (61 + v3_4.toNatClampNeg) hk3.1 hk3.2) (cwV 1 hts (wU_V mw_3_161 mw_4_130 mw_3_159 mw_3_160 mw_1_2) rfl rfl rfl (by decide +kernel) ⟨Nat.le_of_ble_eq_true rfl, Nat.le_of_ble_eq_true rfl⟩) ⟨sz_c, va_recv hK hP (ci := 10) (q0 := 4) rfl (gX_4 cs ad mu), sz_m hK hz⟩ rfl rfl hl.1 rfl (lv_room (Nat.le_of_ble_eq_true rfl)) dX10_buyableBy_26 ⟨Nat.zero_le _, Nat.zero_le _⟩) hS (fun r4 hw4 locs hS => ?_)
        obtain ⟨hfe4, hw4⟩ := hw4
        have hF := mi_let hF hfe4
        refine lv_iload_n hx hb dX10_buyableBy_29 rfl (lv_at hl 3 rfl) ?_
        refine cr_i (va_runSN (As := [.int r4, .int vx]) (rest := [.int v2_4]) ⟨hx, hb, hml, hown, hts⟩ (sx_hasBit l dC dI (tyW cs) s.heap r4 vx) ⟨va_cnB 2 hts (wU_in mw_3_87) rfl rfl rfl (hz.2.2.1) (hts _ (List.mem_cons_of_mem _ mw_1_1)) (by decide +kernel) ⟨Nat.le_of_ble_eq_true rfl, Nat.le_of_ble_eq_true rfl⟩, (hts _ (List.mem_cons_of_mem _ mw_3_86)), trivial⟩ ⟨sz_c, sz_m hK hz⟩ rfl rfl hl.1 rfl (lv_room (Nat.le_of_ble_eq_true rfl)) dX10_buyableBy_30 ⟨Nat.zero_le _, Nat.zero_le _⟩) hS (fun r5 hw5 locs hS => ?_)
        obtain ⟨hfe5, hw5⟩ := hw5
        have hF := mi_let hF hfe5
        have gr5 : 0 ≤ r5.toInt ∧ r5.toInt ≤ 1 := hw5
        refine lv_if_eq (tgt := 42) hx hb dX10_buyableBy_33 (by decide) (fun c_6 => ?_) (fun c_6 => ?_)
        · have hF := (if_pos c_6).symm.trans hF
          have c_6 : r5.toInt = 0 := il_eq c_6
          refine lv_iconst (v := 0) hx hb dX10_buyableBy_42 (by decide) ?_
          refine lv_ior hx hb dX10_buyableBy_43 ?_
          refine lv_topi (fun t7 et7 => ?_)
          have hF := mi_let hF et7
          refine lv_istore_n (lv' := [(2, .int t7), (3, .int v3_4), (0, .ref (ad 4)), (1, .int vx)]) hx hb dX10_buyableBy_44 rfl hl (by decide) rfl (fun ls hl => ?_)
          refine lv_iinc (v := (v3_4 + 1)) (lv' := [(3, .int (v3_4 + 1)), (2, .int t7), (0, .ref (ad 4)), (1, .int vx)]) hx hb dX10_buyableBy_45 hl (k := 1) rfl rfl (by decide) rfl (fun ls hl => ?_)
          refine loc_gen (P := fun w9 => lv_has ls 4 [(3, .int w9), (2, .int t7), (0, .ref (ad 4)), (1, .int vx)]) (v3_4 + 1) hl (fun w8 hw8 hl => ?_)
          have hl : lv_has ls 4 [(3, .int w8), (2, .int t7), (0, .ref (ad 4)), (1, .int vx)] := hl
          have hF := mi_let hF hw8.symm
          have aw8 : w8.toInt = v3_4.toInt + 1 := by rw [← hw8]; first | exact va1 (Int.lt_of_le_of_lt h_v3_4.2 (by decide)) | exact va1 (by omega)
          refine lv_goto (tgt := 4) hx hb dX10_buyableBy_48 (by decide) ?_
          exact ih4 (t7) (w8)  _ _ (by first | exact ms_up hm_4 aw8 h_v3_4.2 | exact ms_lt hm_4 (by omega) (by omega) | omega) (by first | exact rg_up aw8 h_v3_4 (by omega) | omega)   hF hS (lv_sub hl [0, 1, 2, 3] rfl)
        · have hF := (if_neg c_6).symm.trans hF
          have c_6 : ¬ r5.toInt = 0 := il_ne c_6
          refine lv_iconst (v := 1) hx hb dX10_buyableBy_36 (by decide) ?_
          refine lv_iload_n hx hb dX10_buyableBy_37 rfl (lv_at hl 0 rfl) ?_
          refine lv_ishl hx hb dX10_buyableBy_38 ?_
          refine lv_topi (fun t9 et9 => ?_)
          have hF := mi_let hF et9
          refine lv_goto (tgt := 43) hx hb dX10_buyableBy_39 (by decide) ?_
          refine lv_ior hx hb dX10_buyableBy_43 ?_
          refine lv_topi (fun t10 et10 => ?_)
          have hF := mi_let hF et10
          refine lv_istore_n (lv' := [(2, .int t10), (3, .int v3_4), (0, .ref (ad 4)), (1, .int vx)]) hx hb dX10_buyableBy_44 rfl hl (by decide) rfl (fun ls hl => ?_)
          refine lv_iinc (v := (v3_4 + 1)) (lv' := [(3, .int (v3_4 + 1)), (2, .int t10), (0, .ref (ad 4)), (1, .int vx)]) hx hb dX10_buyableBy_45 hl (k := 1) rfl rfl (by decide) rfl (fun ls hl => ?_)
          refine loc_gen (P := fun w9 => lv_has ls 4 [(3, .int w9), (2, .int t10), (0, .ref (ad 4)), (1, .int vx)]) (v3_4 + 1) hl (fun w11 hw11 hl => ?_)
          have hl : lv_has ls 4 [(3, .int w11), (2, .int t10), (0, .ref (ad 4)), (1, .int vx)] := hl
          have hF := mi_let hF hw11.symm
          have aw11 : w11.toInt = v3_4.toInt + 1 := by rw [← hw11]; first | exact va1 (Int.lt_of_le_of_lt h_v3_4.2 (by decide)) | exact va1 (by omega)
          refine lv_goto (tgt := 4) hx hb dX10_buyableBy_48 (by decide) ?_
          exact ih4 (t10) (w11)  _ _ (by first | exact ms_up hm_4 aw11 h_v3_4.2 | exact ms_lt hm_4 (by omega) (by omega) | omega) (by first | exact rg_up aw11 h_v3_4 (by omega) | omega)   hF hS (lv_sub hl [0, 1, 2, 3] rfl)
  exact loop4 7 (0) (0)  _ _ (by have h80 : (0 : Int32).toInt = 0 := rfl; have h81 : (0 : Int32).toInt = 0 := rfl; omega) (by have h80 : (0 : Int32).toInt = 0 := rfl; exact ⟨by omega, by omega⟩)   hF hS hl
set_option maxHeartbeats 4000000 in
set_option maxRecDepth 100000 in
/-- sx_priceOfAll -/
theorem sx_priceOfAll (l : Launch) (dC : Nat → ClassId) (dI : Nat → Nat → Nat) (cs : Nat → ClassId) (ad : Nat → Nat) (mu : Nat → Nat → Int32) (ok : okR loX hiX mu) (H : Heap) (hP : va_P (dC, dI) vwCl (wR 157 ad (EX cs ad) mu) H) (vb : Int32) : Met l yX10_priceOfAll (wU yX10_priceOfAll cX10_priceOfAll 4 (some .int)) ({ frames := 2, cells := 0, slots := 0, locals := 42 }) (va_Pc [.ref (ad 4), .int vb] (sz_P (dC, dI) vwCl (tyW cs) H)) (va_Qi (fun (z : Int32) (_ : Unit) => z = F_sx_priceOfAll mu vb ∧ (True)) (fun _ t => t.heap = H) (fun _ => False)) 0 0 (fun _ => False) := by
  refine Met.ofW (cc := cX10_priceOfAll) (maxL := 4) (ret := (some .int)) (by decide) rfl ?_
  intro p e s m args below meth c s₁ B hml hv
  obtain ⟨rfl, hh, hK, hz⟩ := hv
  have hx := B.exec
  have hb := B.bytes
  have hr := B.returns
  have hts := atoms_spec (ws := (wU yX10_priceOfAll cX10_priceOfAll 4 (some .int))) B.pre
  have hown : s.vm.findClass RX10 = some m.cls := findClass_of_methodNamed B.named
  have hlocks := B.notSynchronized
  subst hh
  have hS : va_S (fun _ => False) s.heap s.heap [] := va_S.rf
  have hl := lv_entry ([.ref (ad 4), .int vb]) (n := 4) (Nat.le_of_ble_eq_true rfl)
  rw [lg_entry_eq]
  generalize (lg_sl ([.ref (ad 4), .int vb]) ++ List.replicate (4 - (lg_sl ([.ref (ad 4), .int vb])).length) Slot.unset).toArray = ls at hl ⊢
  have hl : lv_has ls 4 [(0, .ref (ad 4)), (1, .int vb)] := hl
  obtain ⟨fz, hfz⟩ : ∃ z, F_sx_priceOfAll mu vb = z := ⟨_, rfl⟩
  have hF := hfz
  unfold F_sx_priceOfAll at hF
  refine lv_iconst (v := 0) hx hb dX10_priceOfAll_0 (by decide) ?_
  refine lv_istore_n (lv' := [(2, .int 0), (0, .ref (ad 4)), (1, .int vb)]) hx hb dX10_priceOfAll_1 rfl hl (by decide) rfl (fun ls hl => ?_)
  refine lv_iconst (v := 0) hx hb dX10_priceOfAll_2 (by decide) ?_
  refine lv_istore_n (lv' := [(3, .int 0), (2, .int 0), (0, .ref (ad 4)), (1, .int vb)]) hx hb dX10_priceOfAll_3 rfl hl (by decide) rfl (fun ls hl => ?_)
  have loop4 : ∀ (n4 : Nat) (v2_4 : Int32) (v3_4 : Int32) (locs : List Loc) (ls : Array Slot), (4 + 1 - v3_4.toInt).toNat < n4 → (0 ≤ v3_4.toInt ∧ v3_4.toInt ≤ 4) → L_sx_priceOfAll_4_0 mu vb n4 v2_4 v3_4 = fz → va_S (fun _ => False) s.heap s.heap locs → lv_has ls 4 [(3, .int v3_4), (2, .int v2_4), (0, .ref (ad 4)), (1, .int vb)] → W p l e (headSpec (wU yX10_priceOfAll cX10_priceOfAll 4 (some .int)) ({ frames := 2, cells := 0, slots := 0, locals := 42 })).room s m ([.ref (ad 4), .int vb] : List Value).toArray below meth c s.heap locs 0 0 (MQ below (va_Qi (fun (z : Int32) (_ : Unit) => z = F_sx_priceOfAll mu vb ∧ (True)) (fun _ t => t.heap = s.heap) (fun _ => False)) ([.ref (ad 4), .int vb] : List Value).toArray s 0 0 (fun _ => False)) (F0 m 4 ls []) := by
    intro n4
    induction n4 with
    | zero => intro v2_4 v3_4 locs ls hm; exact absurd hm (Nat.not_lt_zero _)
    | succ n4 ih4 =>
      intro v2_4 v3_4 locs ls hm_4 h_v3_4 hF hS hl
      rw [L_sx_priceOfAll_4_0] at hF
      refine lv_iload_n hx hb dX10_priceOfAll_4 rfl (lv_at hl 0 rfl) ?_
      refine lv_aload_n hx hb dX10_priceOfAll_5 rfl (lv_at hl 2 rfl) ?_
      refine va_get (D := (dC, dI)) (ci := 10) (v := .ref (ad 5)) (C := RX10) (T := TX10) (N := 8) hx hb hts inG10 hown hK hP 4 (gX_4 cs ad mu) rfl 3 (by decide) (hts _ (List.mem_cons_of_mem _ mw_1_152)) (fun _ h9 => h9) rfl dX10_priceOfAll_6 ?_
      refine va_get (D := (dC, dI)) (ci := 8) (v := .int (mu 5 4)) (C := RX8) (T := TX8) (N := 6) hx hb hts inG8 hown hK hP 5 (gX_5 cs ad mu) rfl 4 (by decide) (hts _ (List.mem_cons_of_mem _ mw_1_126)) (fun _ h9 => h9) rfl dX10_priceOfAll_9 ?_
      refine lv_topi (fun y1 ey1 => ?_)
      have hF := mi_let hF ey1
      have by1 : y1.toInt = (mu 5 4).toInt := congrArg Int32.toInt ey1
      have gy1 : 0 ≤ y1.toInt ∧ y1.toInt ≤ 4 := by rw [ey1]; exact rX_5_4 ok
      refine lv_icmp_ge (tgt := 49) hx hb dX10_priceOfAll_12 (by decide) (fun c_2 => ?_) (fun c_2 => ?_)
      · have hF := (if_pos c_2).symm.trans hF
        have c_2 : y1.toInt ≤ v3_4.toInt := il_le c_2
        refine lv_iload_n hx hb dX10_priceOfAll_49 rfl (lv_at hl 1 rfl) ?_
        exact W.iret (v := v2_4) hx hb hr (fun t ht hW => ⟨⟨v2_4, (), rfl, ⟨hF.trans hfz.symm, trivial⟩, ht⟩, hS.F ht⟩) hS.2.2 dX10_priceOfAll_50
      · have hF := (if_neg c_2).symm.trans hF
        have c_2 : v3_4.toInt < y1.toInt := il_nle c_2
        refine lv_iload_n hx hb dX10_priceOfAll_15 rfl (lv_at hl 1 rfl) ?_
        refine lv_iload_n hx hb dX10_priceOfAll_16 rfl (lv_at hl 3 rfl) ?_
        refine lv_iload_n hx hb dX10_priceOfAll_17 rfl (lv_at hl 0 rfl) ?_
        refine cr_i (va_runSN (As := [.int vb, .int v3_4]) (rest := [.int v2_4]) ⟨hx, hb, hml, hown, hts⟩ (sx_hasBit l dC dI (tyW cs) s.heap vb v3_4) ⟨va_cnB 2 hts (wU_in mw_3_87) rfl rfl rfl (hz.2.2.1) (hts _ (List.mem_cons_of_mem _ mw_1_1)) (by decide +kernel) ⟨Nat.le_of_ble_eq_true rfl, Nat.le_of_ble_eq_true rfl⟩, (hts _ (List.mem_cons_of_mem _ mw_3_86)), trivial⟩ ⟨sz_c, sz_m hK hz⟩ rfl rfl hl.1 rfl (lv_room (Nat.le_of_ble_eq_true rfl)) dX10_priceOfAll_18 ⟨Nat.zero_le _, Nat.zero_le _⟩) hS (fun r3 hw3 locs hS => ?_)
        obtain ⟨hfe3, hw3⟩ := hw3
        have hF := mi_let hF hfe3
        have gr3 : 0 ≤ r3.toInt ∧ r3.toInt ≤ 1 := hw3
        refine lv_if_eq (tgt := 40) hx hb dX10_priceOfAll_21 (by decide) (fun c_4 => ?_) (fun c_4 => ?_)
        · have hF := (if_pos c_4).symm.trans hF
          have c_4 : r3.toInt = 0 := il_eq c_4
          refine lv_iconst (v := 0) hx hb dX10_priceOfAll_40 (by decide) ?_
          refine lv_iadd hx hb dX10_priceOfAll_41 ?_
          refine lv_topi (fun t5 et5 => ?_)
          have hF := mi_let hF et5
          refine lv_istore_n (lv' := [(2, .int t5), (3, .int v3_4), (0, .ref (ad 4)), (1, .int vb)]) hx hb dX10_priceOfAll_42 rfl hl (by decide) rfl (fun ls hl => ?_)
          refine lv_iinc (v := (v3_4 + 1)) (lv' := [(3, .int (v3_4 + 1)), (2, .int t5), (0, .ref (ad 4)), (1, .int vb)]) hx hb dX10_priceOfAll_43 hl (k := 1) rfl rfl (by decide) rfl (fun ls hl => ?_)
          refine loc_gen (P := fun w9 => lv_has ls 4 [(3, .int w9), (2, .int t5), (0, .ref (ad 4)), (1, .int vb)]) (v3_4 + 1) hl (fun w6 hw6 hl => ?_)
          have hl : lv_has ls 4 [(3, .int w6), (2, .int t5), (0, .ref (ad 4)), (1, .int vb)] := hl
          have hF := mi_let hF hw6.symm
          have aw6 : w6.toInt = v3_4.toInt + 1 := by rw [← hw6]; first | exact va1 (Int.lt_of_le_of_lt h_v3_4.2 (by decide)) | exact va1 (by omega)
          refine lv_goto (tgt := 4) hx hb dX10_priceOfAll_46 (by decide) ?_
          exact ih4 (t5) (w6)  _ _ (by first | exact ms_up hm_4 aw6 h_v3_4.2 | exact ms_lt hm_4 (by omega) (by omega) | omega) (by first | exact rg_up aw6 h_v3_4 (by omega) | omega)   hF hS (lv_sub hl [0, 1, 2, 3] rfl)
        · have hF := (if_neg c_4).symm.trans hF
          have c_4 : ¬ r3.toInt = 0 := il_ne c_4
          refine lv_aload_n hx hb dX10_priceOfAll_24 rfl (lv_at hl 2 rfl) ?_
          refine lv_aload_n hx hb dX10_priceOfAll_25 rfl (lv_at hl 2 rfl) ?_
          refine va_get (D := (dC, dI)) (ci := 10) (v := .ref (ad 5)) (C := RX10) (T := TX10) (N := 8) hx hb hts inG10 hown hK hP 4 (gX_4 cs ad mu) rfl 3 (by decide) (hts _ (List.mem_cons_of_mem _ mw_1_152)) (fun _ h9 => h9) rfl dX10_priceOfAll_26 ?_
          refine va_get (D := (dC, dI)) (ci := 8) (v := .ref (ad 47)) (C := RX8) (T := TX8) (N := 6) hx hb hts inG8 hown hK hP 5 (gX_5 cs ad mu) rfl 1 (by decide) (hts _ (List.mem_cons_of_mem _ mw_1_111)) (fun _ h9 => h9) rfl dX10_priceOfAll_29 ?_
          refine lv_iload_n hx hb dX10_priceOfAll_32 rfl (lv_at hl 0 rfl) ?_
          have hx7 : 0 ≤ v3_4.toInt ∧ v3_4.toInt < ((4 : Nat) : Int) := ⟨by omega, by omega⟩
          refine va_aldq hx hb hK hP 47 5 (gX_47 cs ad mu) rfl (show vp_in v3_4 4 from vi_of hx7.1 hx7.2) dX10_priceOfAll_33 ?_
          have hk7 : 61 ≤ (61 + v3_4.toNatClampNeg) ∧ (61 + v3_4.toNatClampNeg) < 65 := ix_of hx7
          have hk7 : 61 ≤ (61 + v3_4.toNatClampNeg) ∧ (61 + v3_4.toNatClampNeg) < 77 := ⟨Nat.le_trans (by decide) hk7.1, Nat.lt_of_lt_of_le hk7.2 (by decide)⟩
          refine lq_v (.ref (ad (61 + v3_4.toNatClampNeg))) rfl ?_
          refine cr_i (va_runV (As := [.ref (ad (61 + v3_4.toNatClampNeg))]) (rest := [.int v2_4]) ⟨hx, hb, hml, hown, hts⟩ (sx_priceOf l dC dI cs ad mu ok s.heap hP (61 + v3_4.toNatClampNeg) hk7.1 hk7.2) (cwV 1 hts (wU_V mw_3_165 mw_3_162 mw_3_163 mw_3_164 mw_1_2) rfl rfl rfl (by decide +kernel) ⟨Nat.le_of_ble_eq_true rfl, Nat.le_of_ble_eq_true rfl⟩) ⟨sz_c, va_recv hK hP (ci := 10) (q0 := 4) rfl (gX_4 cs ad mu), sz_m hK hz⟩ rfl rfl hl.1 rfl (lv_room (Nat.le_of_ble_eq_true rfl)) dX10_priceOfAll_34 ⟨Nat.zero_le _, Nat.zero_le _⟩) hS (fun r8 hw8 locs hS => ?_)
          obtain ⟨hfe8, hw8⟩ := hw8
          have hF := mi_let hF hfe8
          refine lv_goto (tgt := 41) hx hb dX10_priceOfAll_37 (by decide) ?_
          refine lv_iadd hx hb dX10_priceOfAll_41 ?_
          refine lv_topi (fun t9 et9 => ?_)
          have hF := mi_let hF et9
          refine lv_istore_n (lv' := [(2, .int t9), (3, .int v3_4), (0, .ref (ad 4)), (1, .int vb)]) hx hb dX10_priceOfAll_42 rfl hl (by decide) rfl (fun ls hl => ?_)
          refine lv_iinc (v := (v3_4 + 1)) (lv' := [(3, .int (v3_4 + 1)), (2, .int t9), (0, .ref (ad 4)), (1, .int vb)]) hx hb dX10_priceOfAll_43 hl (k := 1) rfl rfl (by decide) rfl (fun ls hl => ?_)
          refine loc_gen (P := fun w9 => lv_has ls 4 [(3, .int w9), (2, .int t9), (0, .ref (ad 4)), (1, .int vb)]) (v3_4 + 1) hl (fun w10 hw10 hl => ?_)
          have hl : lv_has ls 4 [(3, .int w10), (2, .int t9), (0, .ref (ad 4)), (1, .int vb)] := hl
          have hF := mi_let hF hw10.symm
          have aw10 : w10.toInt = v3_4.toInt + 1 := by rw [← hw10]; first | exact va1 (Int.lt_of_le_of_lt h_v3_4.2 (by decide)) | exact va1 (by omega)
          refine lv_goto (tgt := 4) hx hb dX10_priceOfAll_46 (by decide) ?_
          exact ih4 (t9) (w10)  _ _ (by first | exact ms_up hm_4 aw10 h_v3_4.2 | exact ms_lt hm_4 (by omega) (by omega) | omega) (by first | exact rg_up aw10 h_v3_4 (by omega) | omega)   hF hS (lv_sub hl [0, 1, 2, 3] rfl)
  exact loop4 7 (0) (0)  _ _ (by have h80 : (0 : Int32).toInt = 0 := rfl; have h81 : (0 : Int32).toInt = 0 := rfl; omega) (by have h80 : (0 : Int32).toInt = 0 := rfl; exact ⟨by omega, by omega⟩)   hF hS hl
set_option maxHeartbeats 4000000 in
set_option maxRecDepth 100000 in
/-- sx_bearerFact -/
theorem sx_bearerFact (l : Launch) (dC : Nat → ClassId) (dI : Nat → Nat → Nat) (cs : Nat → ClassId) (ad : Nat → Nat) (mu : Nat → Nat → Int32) (ok : okR loX hiX mu) (H : Heap) (hP : va_P (dC, dI) vwCl (wR 157 ad (EX cs ad) mu) H) (vx : Int32) (vw : Int32) (hin0 : 0 ≤ vx.toInt ∧ vx.toInt ≤ 6) : Met l yX10_bearerFact (wU yX10_bearerFact cX10_bearerFact 3 (some .int)) ({ frames := 2, cells := 0, slots := 0, locals := 45 }) (va_Pc [.ref (ad 4), .int vx, .int vw] (sz_P (dC, dI) vwCl (tyW cs) H)) (va_Qi (fun (z : Int32) (_ : Unit) => z = F_sx_bearerFact mu vx vw ∧ (True)) (fun _ t => t.heap = H) (fun _ => False)) 0 0 (fun _ => False) := by
  refine Met.ofW (cc := cX10_bearerFact) (maxL := 3) (ret := (some .int)) (by decide) rfl ?_
  intro p e s m args below meth c s₁ B hml hv
  obtain ⟨rfl, hh, hK, hz⟩ := hv
  have hx := B.exec
  have hb := B.bytes
  have hr := B.returns
  have hts := atoms_spec (ws := (wU yX10_bearerFact cX10_bearerFact 3 (some .int))) B.pre
  have hown : s.vm.findClass RX10 = some m.cls := findClass_of_methodNamed B.named
  have hlocks := B.notSynchronized
  subst hh
  have hS : va_S (fun _ => False) s.heap s.heap [] := va_S.rf
  have hl := lv_entry ([.ref (ad 4), .int vx, .int vw]) (n := 3) (Nat.le_of_ble_eq_true rfl)
  rw [lg_entry_eq]
  generalize (lg_sl ([.ref (ad 4), .int vx, .int vw]) ++ List.replicate (3 - (lg_sl ([.ref (ad 4), .int vx, .int vw])).length) Slot.unset).toArray = ls at hl ⊢
  have hl : lv_has ls 3 [(0, .ref (ad 4)), (1, .int vx), (2, .int vw)] := hl
  obtain ⟨fz, hfz⟩ : ∃ z, F_sx_bearerFact mu vx vw = z := ⟨_, rfl⟩
  have hF := hfz
  unfold F_sx_bearerFact at hF
  refine lv_iload_n hx hb dX10_bearerFact_0 rfl (lv_at hl 2 rfl) ?_
  by_cases w1 : vw.toInt < 0 ∨ 2 < vw.toInt
  · refine lv_tableOut (tgt := 61) hx hb dX10_bearerFact_1 w1 (by decide) ?_
    have hF := (if_pos w1).symm.trans hF
    refine lv_aload_n hx hb dX10_bearerFact_61 rfl (lv_at hl 0 rfl) ?_
    refine lv_iload_n hx hb dX10_bearerFact_62 rfl (lv_at hl 1 rfl) ?_
    refine cr_i (va_runV (As := [.int vx]) (rest := []) ⟨hx, hb, hml, hown, hts⟩ (sx_unreadWith l dC dI cs ad mu ok s.heap hP vx) (cwV 1 hts (wU_V mw_3_97 mw_3_94 mw_3_96 mw_0_6 mw_1_2) rfl rfl rfl (by decide +kernel) ⟨Nat.le_of_ble_eq_true rfl, Nat.le_of_ble_eq_true rfl⟩) ⟨sz_c, va_recv hK hP (ci := 10) (q0 := 4) rfl (gX_4 cs ad mu), sz_m hK hz⟩ rfl rfl hl.1 rfl (lv_room (Nat.le_of_ble_eq_true rfl)) dX10_bearerFact_63 ⟨Nat.zero_le _, Nat.zero_le _⟩) hS (fun r2 hw2 locs hS => ?_)
    obtain ⟨hfe2, hw2⟩ := hw2
    have hF := mi_let hF hfe2
    exact W.iret (v := r2) hx hb hr (fun t ht hW => ⟨⟨r2, (), rfl, ⟨hF.trans hfz.symm, trivial⟩, ht⟩, hS.F ht⟩) hS.2.2 dX10_bearerFact_66
  have hF := (if_neg w1).symm.trans hF
  by_cases w1_0 : vw.toInt = 0
  · refine lv_tableIn (off := 27) (tgt := 28) hx hb dX10_bearerFact_1 (by omega) (by omega) (by rw [w1_0]; rfl) (by decide) ?_
    have hF := (if_pos w1_0).symm.trans hF
    refine lv_aload_n hx hb dX10_bearerFact_28 rfl (lv_at hl 0 rfl) ?_
    refine va_get (D := (dC, dI)) (ci := 10) (v := .ref (ad 34)) (C := RX10) (T := TX10) (N := 8) hx hb hts inG10 hown hK hP 4 (gX_4 cs ad mu) rfl 0 (by decide) (hts _ (List.mem_cons_of_mem _ mw_1_143)) (fun _ h9 => h9) rfl dX10_bearerFact_29 ?_
    refine lv_iload_n hx hb dX10_bearerFact_32 rfl (lv_at hl 1 rfl) ?_
    refine va_iald hx hb hK hP 34 0 (gX_34 cs ad mu) rfl (show vp_in vx 7 from vi_of (by omega) (by omega)) dX10_bearerFact_33 ?_
    refine lv_topi (fun y3 ey3 => ?_)
    have hF := mi_let hF ey3
    have by3 : y3.toInt = (mu 34 vx.toNatClampNeg).toInt := congrArg Int32.toInt ey3
    exact W.iret (v := y3) hx hb hr (fun t ht hW => ⟨⟨y3, (), rfl, ⟨hF.trans hfz.symm, trivial⟩, ht⟩, hS.F ht⟩) hS.2.2 dX10_bearerFact_34
  have hF := (if_neg w1_0).symm.trans hF
  by_cases w1_1 : vw.toInt = 1
  · refine lv_tableIn (off := 34) (tgt := 35) hx hb dX10_bearerFact_1 (by omega) (by omega) (by rw [w1_1]; rfl) (by decide) ?_
    have hF := (if_pos w1_1).symm.trans hF
    refine lv_aload_n hx hb dX10_bearerFact_35 rfl (lv_at hl 0 rfl) ?_
    refine va_get (D := (dC, dI)) (ci := 10) (v := .ref (ad 5)) (C := RX10) (T := TX10) (N := 8) hx hb hts inG10 hown hK hP 4 (gX_4 cs ad mu) rfl 3 (by decide) (hts _ (List.mem_cons_of_mem _ mw_1_152)) (fun _ h9 => h9) rfl dX10_bearerFact_36 ?_
    refine va_get (D := (dC, dI)) (ci := 8) (v := .ref (ad 46)) (C := RX8) (T := TX8) (N := 6) hx hb hts inG8 hown hK hP 5 (gX_5 cs ad mu) rfl 0 (by decide) (hts _ (List.mem_cons_of_mem _ mw_1_106)) (fun _ h9 => h9) rfl dX10_bearerFact_39 ?_
    refine lv_iload_n hx hb dX10_bearerFact_42 rfl (lv_at hl 1 rfl) ?_
    refine va_iald hx hb hK hP 46 0 (gX_46 cs ad mu) rfl (show vp_in vx 7 from vi_of (by omega) (by omega)) dX10_bearerFact_43 ?_
    refine lv_topi (fun y4 ey4 => ?_)
    have hF := mi_let hF ey4
    have by4 : y4.toInt = (mu 46 vx.toNatClampNeg).toInt := congrArg Int32.toInt ey4
    exact W.iret (v := y4) hx hb hr (fun t ht hW => ⟨⟨y4, (), rfl, ⟨hF.trans hfz.symm, trivial⟩, ht⟩, hS.F ht⟩) hS.2.2 dX10_bearerFact_44
  have hF := (if_neg w1_1).symm.trans hF
  have w1_2 : vw.toInt = 2 := by omega
  refine lv_tableIn (off := 44) (tgt := 45) hx hb dX10_bearerFact_1 (by omega) (by omega) (by rw [w1_2]; rfl) (by decide) ?_
  refine lv_aload_n hx hb dX10_bearerFact_45 rfl (lv_at hl 0 rfl) ?_
  refine lv_iload_n hx hb dX10_bearerFact_46 rfl (lv_at hl 1 rfl) ?_
  refine lv_aload_n hx hb dX10_bearerFact_47 rfl (lv_at hl 0 rfl) ?_
  refine va_get (D := (dC, dI)) (ci := 10) (v := .ref (ad 5)) (C := RX10) (T := TX10) (N := 8) hx hb hts inG10 hown hK hP 4 (gX_4 cs ad mu) rfl 3 (by decide) (hts _ (List.mem_cons_of_mem _ mw_1_152)) (fun _ h9 => h9) rfl dX10_bearerFact_48 ?_
  refine va_get (D := (dC, dI)) (ci := 8) (v := .int (mu 5 2)) (C := RX8) (T := TX8) (N := 6) hx hb hts inG8 hown hK hP 5 (gX_5 cs ad mu) rfl 2 (by decide) (hts _ (List.mem_cons_of_mem _ mw_1_116)) (fun _ h9 => h9) rfl dX10_bearerFact_51 ?_
  refine lv_topi (fun y5 ey5 => ?_)
  have hF := mi_let hF ey5
  have by5 : y5.toInt = (mu 5 2).toInt := congrArg Int32.toInt ey5
  refine cr_i (va_runV (As := [.int vx, .int y5]) (rest := []) ⟨hx, hb, hml, hown, hts⟩ (sx_near l dC dI cs ad mu ok s.heap hP vx y5) (cwV 2 hts (wU_V mw_3_84 mw_3_81 mw_3_82 mw_3_83 mw_1_2) rfl rfl rfl (by decide +kernel) ⟨Nat.le_of_ble_eq_true rfl, Nat.le_of_ble_eq_true rfl⟩) ⟨sz_c, va_recv hK hP (ci := 10) (q0 := 4) rfl (gX_4 cs ad mu), sz_m hK hz⟩ rfl rfl hl.1 rfl (lv_room (Nat.le_of_ble_eq_true rfl)) dX10_bearerFact_54 ⟨Nat.zero_le _, Nat.zero_le _⟩) hS (fun r6 hw6 locs hS => ?_)
  obtain ⟨hfe6, hw6⟩ := hw6
  have hF := mi_let hF hfe6
  refine cr_i (va_runS (As := [.int r6]) (rest := []) ⟨hx, hb, hml, hown, hts⟩ (sx_bitCount l dC dI (tyW cs) s.heap r6) (va_cwS 1 hts (wU_S mw_3_90 mw_3_88 mw_3_89 mw_1_16) rfl rfl rfl (by decide +kernel) ⟨Nat.le_of_ble_eq_true rfl, Nat.le_of_ble_eq_true rfl⟩) ⟨sz_c, sz_m hK hz⟩ rfl rfl hl.1 rfl (lv_room (Nat.le_of_ble_eq_true rfl)) dX10_bearerFact_57 ⟨Nat.zero_le _, Nat.zero_le _⟩) hS (fun r7 hw7 locs hS => ?_)
  obtain ⟨hfe7, hw7⟩ := hw7
  have hF := mi_let hF hfe7
  exact W.iret (v := r7) hx hb hr (fun t ht hW => ⟨⟨r7, (), rfl, ⟨hF.trans hfz.symm, trivial⟩, ht⟩, hS.F ht⟩) hS.2.2 dX10_bearerFact_60
set_option maxHeartbeats 4000000 in
set_option maxRecDepth 100000 in
/-- sx_Town_digestOn -/
theorem sx_Town_digestOn (l : Launch) (dC : Nat → ClassId) (dI : Nat → Nat → Nat) (cs : Nat → ClassId) (ad : Nat → Nat) (mu : Nat → Nat → Int32) (ok : okR loX hiX mu) (H : Heap) (hP : va_P (dC, dI) vwCl (wR 157 ad (EX cs ad) mu) H) (lb : Int64) : Met l yX10_digestOn (wU yX10_digestOn cX10_digestOn 7 (some .long)) ({ frames := 4, cells := 0, slots := 0, locals := 99 }) (va_Pc [.ref (ad 4), .long lb] (sz_P (dC, dI) vwCl (tyW cs) H)) (va_Ql (fun (z : Int64) (_ : Unit) => True) (fun _ t => t.heap = H) (fun _ => False)) 0 0 (fun _ => False) := by
  refine Met.ofW (cc := cX10_digestOn) (maxL := 7) (ret := (some .long)) (by decide) rfl ?_
  intro p e s m args below meth c s₁ B hml hv
  obtain ⟨rfl, hh, hK, hz⟩ := hv
  have hx := B.exec
  have hb := B.bytes
  have hr := B.returns
  have hts := atoms_spec (ws := (wU yX10_digestOn cX10_digestOn 7 (some .long))) B.pre
  have hown : s.vm.findClass RX10 = some m.cls := findClass_of_methodNamed B.named
  have hlocks := B.notSynchronized
  subst hh
  have hS : va_S (fun _ => False) s.heap s.heap [] := va_S.rf
  have hl := lv_entry ([.ref (ad 4), .long lb]) (n := 7) (Nat.le_of_ble_eq_true rfl)
  rw [lg_entry_eq]
  generalize (lg_sl ([.ref (ad 4), .long lb]) ++ List.replicate (7 - (lg_sl ([.ref (ad 4), .long lb])).length) Slot.unset).toArray = ls at hl ⊢
  have hl : lv_has ls 7 [(0, .ref (ad 4)), (1, .long lb)] := hl
  refine lv_lload_n hx hb dX10_digestOn_0 rfl (lv_at hl 1 rfl) ?_
  refine lv_lstore_n (lv' := [(3, .long lb), (0, .ref (ad 4)), (1, .long lb)]) hx hb dX10_digestOn_1 rfl hl (by decide) rfl (fun ls hl => ?_)
  refine lv_iconst (v := 0) hx hb dX10_digestOn_2 (by decide) ?_
  refine lv_istore (lv' := [(5, .int 0), (3, .long lb), (0, .ref (ad 4)), (1, .long lb)]) hx hb dX10_digestOn_3 hl (by decide) rfl (fun ls hl => ?_)
  have loop5 : ∀ (n5 : Nat) (v3_5 : Int64) (v5_5 : Int32) (locs : List Loc) (ls : Array Slot), (7 + 1 - v5_5.toInt).toNat < n5 → (0 ≤ v5_5.toInt ∧ v5_5.toInt ≤ 7) → va_S (fun _ => False) s.heap s.heap locs → lv_has ls 7 [(5, .int v5_5), (3, .long v3_5), (0, .ref (ad 4)), (1, .long lb)] → W p l e (headSpec (wU yX10_digestOn cX10_digestOn 7 (some .long)) ({ frames := 4, cells := 0, slots := 0, locals := 99 })).room s m ([.ref (ad 4), .long lb] : List Value).toArray below meth c s.heap locs 0 0 (MQ below (va_Ql (fun (z : Int64) (_ : Unit) => True) (fun _ t => t.heap = s.heap) (fun _ => False)) ([.ref (ad 4), .long lb] : List Value).toArray s 0 0 (fun _ => False)) (F0 m 5 ls []) := by
    intro n5
    induction n5 with
    | zero => intro v3_5 v5_5 locs ls hm; exact absurd hm (Nat.not_lt_zero _)
    | succ n5 ih5 =>
      intro v3_5 v5_5 locs ls hm_5 h_v5_5 hS hl
      refine lv_iload hx hb dX10_digestOn_5 (lv_at hl 0 rfl) ?_
      refine lv_aload_n hx hb dX10_digestOn_7 rfl (lv_at hl 2 rfl) ?_
      refine va_get (D := (dC, dI)) (ci := 10) (v := .int (mu 4 6)) (C := RX10) (T := TX10) (N := 8) hx hb hts inG10 hown hK hP 4 (gX_4 cs ad mu) rfl 6 (by decide) (hts _ (List.mem_cons_of_mem _ mw_1_160)) (fun _ h9 => h9) rfl dX10_digestOn_8 ?_
      refine lv_topi (fun y1 ey1 => ?_)
      have by1 : y1.toInt = (mu 4 6).toInt := congrArg Int32.toInt ey1
      have gy1 : 0 ≤ y1.toInt ∧ y1.toInt ≤ 7 := by rw [ey1]; exact rX_4_6 ok
      refine lv_icmp_ge (tgt := 51) hx hb dX10_digestOn_11 (by decide) (fun c_2 => ?_) (fun c_2 => ?_)
      · have c_2 : y1.toInt ≤ v5_5.toInt := il_le c_2
        refine lv_iconst (v := 0) hx hb dX10_digestOn_51 (by decide) ?_
        refine lv_istore (lv' := [(5, .int 0), (3, .long v3_5), (0, .ref (ad 4)), (1, .long lb)]) hx hb dX10_digestOn_52 hl (by decide) rfl (fun ls hl => ?_)
        have loop54 : ∀ (n54 : Nat) (v3_54 : Int64) (v5_54 : Int32) (locs : List Loc) (ls : Array Slot), (12 + 1 - v5_54.toInt).toNat < n54 → (0 ≤ v5_54.toInt ∧ v5_54.toInt ≤ 12) → va_S (fun _ => False) s.heap s.heap locs → lv_has ls 7 [(5, .int v5_54), (3, .long v3_54), (0, .ref (ad 4)), (1, .long lb)] → W p l e (headSpec (wU yX10_digestOn cX10_digestOn 7 (some .long)) ({ frames := 4, cells := 0, slots := 0, locals := 99 })).room s m ([.ref (ad 4), .long lb] : List Value).toArray below meth c s.heap locs 0 0 (MQ below (va_Ql (fun (z : Int64) (_ : Unit) => True) (fun _ t => t.heap = s.heap) (fun _ => False)) ([.ref (ad 4), .long lb] : List Value).toArray s 0 0 (fun _ => False)) (F0 m 54 ls []) := by
          intro n54
          induction n54 with
          | zero => intro v3_54 v5_54 locs ls hm; exact absurd hm (Nat.not_lt_zero _)
          | succ n54 ih54 =>
            intro v3_54 v5_54 locs ls hm_54 h_v5_54 hS hl
            refine lv_iload hx hb dX10_digestOn_54 (lv_at hl 0 rfl) ?_
            refine lv_aload_n hx hb dX10_digestOn_56 rfl (lv_at hl 2 rfl) ?_
            refine va_get (D := (dC, dI)) (ci := 10) (v := .int (mu 4 7)) (C := RX10) (T := TX10) (N := 8) hx hb hts inG10 hown hK hP 4 (gX_4 cs ad mu) rfl 7 (by decide) (hts _ (List.mem_cons_of_mem _ mw_1_165)) (fun _ h9 => h9) rfl dX10_digestOn_57 ?_
            refine lv_topi (fun y3 ey3 => ?_)
            have by3 : y3.toInt = (mu 4 7).toInt := congrArg Int32.toInt ey3
            have gy3 : 0 ≤ y3.toInt ∧ y3.toInt ≤ 12 := by rw [ey3]; exact rX_4_7 ok
            refine lv_icmp_ge (tgt := 119) hx hb dX10_digestOn_60 (by decide) (fun c_4 => ?_) (fun c_4 => ?_)
            · have c_4 : y3.toInt ≤ v5_54.toInt := il_le c_4
              refine lv_iconst (v := 0) hx hb dX10_digestOn_119 (by decide) ?_
              refine lv_istore (lv' := [(5, .int 0), (3, .long v3_54), (0, .ref (ad 4)), (1, .long lb)]) hx hb dX10_digestOn_120 hl (by decide) rfl (fun ls hl => ?_)
              have loop122 : ∀ (n122 : Nat) (v3_122 : Int64) (v5_122 : Int32) (locs : List Loc) (ls : Array Slot), (4 + 1 - v5_122.toInt).toNat < n122 → (0 ≤ v5_122.toInt ∧ v5_122.toInt ≤ 4) → va_S (fun _ => False) s.heap s.heap locs → lv_has ls 7 [(5, .int v5_122), (3, .long v3_122), (0, .ref (ad 4)), (1, .long lb)] → W p l e (headSpec (wU yX10_digestOn cX10_digestOn 7 (some .long)) ({ frames := 4, cells := 0, slots := 0, locals := 99 })).room s m ([.ref (ad 4), .long lb] : List Value).toArray below meth c s.heap locs 0 0 (MQ below (va_Ql (fun (z : Int64) (_ : Unit) => True) (fun _ t => t.heap = s.heap) (fun _ => False)) ([.ref (ad 4), .long lb] : List Value).toArray s 0 0 (fun _ => False)) (F0 m 122 ls []) := by
                intro n122
                induction n122 with
                | zero => intro v3_122 v5_122 locs ls hm; exact absurd hm (Nat.not_lt_zero _)
                | succ n122 ih122 =>
                  intro v3_122 v5_122 locs ls hm_122 h_v5_122 hS hl
                  refine lv_iload hx hb dX10_digestOn_122 (lv_at hl 0 rfl) ?_
                  refine lv_aload_n hx hb dX10_digestOn_124 rfl (lv_at hl 2 rfl) ?_
                  refine va_get (D := (dC, dI)) (ci := 10) (v := .ref (ad 5)) (C := RX10) (T := TX10) (N := 8) hx hb hts inG10 hown hK hP 4 (gX_4 cs ad mu) rfl 3 (by decide) (hts _ (List.mem_cons_of_mem _ mw_1_152)) (fun _ h9 => h9) rfl dX10_digestOn_125 ?_
                  refine va_get (D := (dC, dI)) (ci := 8) (v := .int (mu 5 4)) (C := RX8) (T := TX8) (N := 6) hx hb hts inG8 hown hK hP 5 (gX_5 cs ad mu) rfl 4 (by decide) (hts _ (List.mem_cons_of_mem _ mw_1_126)) (fun _ h9 => h9) rfl dX10_digestOn_128 ?_
                  refine lv_topi (fun y5 ey5 => ?_)
                  have by5 : y5.toInt = (mu 5 4).toInt := congrArg Int32.toInt ey5
                  have gy5 : 0 ≤ y5.toInt ∧ y5.toInt ≤ 4 := by rw [ey5]; exact rX_5_4 ok
                  refine lv_icmp_ge (tgt := 162) hx hb dX10_digestOn_131 (by decide) (fun c_6 => ?_) (fun c_6 => ?_)
                  · have c_6 : y5.toInt ≤ v5_122.toInt := il_le c_6
                    refine lv_lload_n hx hb dX10_digestOn_162 rfl (lv_at hl 1 rfl) ?_
                    exact W.lret (v := v3_122) hx hb hr (fun t ht hW => ⟨⟨v3_122, (), rfl, trivial, ht⟩, hS.F ht⟩) hS.2.2 dX10_digestOn_163
                  · have c_6 : v5_122.toInt < y5.toInt := il_nle c_6
                    refine lv_aload_n hx hb dX10_digestOn_134 rfl (lv_at hl 2 rfl) ?_
                    refine va_get (D := (dC, dI)) (ci := 10) (v := .ref (ad 5)) (C := RX10) (T := TX10) (N := 8) hx hb hts inG10 hown hK hP 4 (gX_4 cs ad mu) rfl 3 (by decide) (hts _ (List.mem_cons_of_mem _ mw_1_152)) (fun _ h9 => h9) rfl dX10_digestOn_135 ?_
                    refine va_get (D := (dC, dI)) (ci := 8) (v := .ref (ad 47)) (C := RX8) (T := TX8) (N := 6) hx hb hts inG8 hown hK hP 5 (gX_5 cs ad mu) rfl 1 (by decide) (hts _ (List.mem_cons_of_mem _ mw_1_111)) (fun _ h9 => h9) rfl dX10_digestOn_138 ?_
                    refine lv_iload hx hb dX10_digestOn_141 (lv_at hl 0 rfl) ?_
                    have hx7 : 0 ≤ v5_122.toInt ∧ v5_122.toInt < ((4 : Nat) : Int) := ⟨by omega, by omega⟩
                    refine va_aldq hx hb hK hP 47 5 (gX_47 cs ad mu) rfl (show vp_in v5_122 4 from vi_of hx7.1 hx7.2) dX10_digestOn_143 ?_
                    have hk7 : 61 ≤ (61 + v5_122.toNatClampNeg) ∧ (61 + v5_122.toNatClampNeg) < 65 := ix_of hx7
                    have hk7 : 61 ≤ (61 + v5_122.toNatClampNeg) ∧ (61 + v5_122.toNatClampNeg) < 77 := ⟨Nat.le_trans (by decide) hk7.1, Nat.lt_of_lt_of_le hk7.2 (by decide)⟩
                    refine lq_v (.ref (ad (61 + v5_122.toNatClampNeg))) rfl ?_
                    refine lv_lload_n hx hb dX10_digestOn_144 rfl (lv_at hl 1 rfl) ?_
                    refine lv_aload_n hx hb dX10_digestOn_145 rfl (lv_at hl 2 rfl) ?_
                    refine va_get (D := (dC, dI)) (ci := 10) (v := .ref (ad 5)) (C := RX10) (T := TX10) (N := 8) hx hb hts inG10 hown hK hP 4 (gX_4 cs ad mu) rfl 3 (by decide) (hts _ (List.mem_cons_of_mem _ mw_1_152)) (fun _ h9 => h9) rfl dX10_digestOn_146 ?_
                    refine va_get (D := (dC, dI)) (ci := 8) (v := .int (mu 5 3)) (C := RX8) (T := TX8) (N := 6) hx hb hts inG8 hown hK hP 5 (gX_5 cs ad mu) rfl 3 (by decide) (hts _ (List.mem_cons_of_mem _ mw_1_123)) (fun _ h9 => h9) rfl dX10_digestOn_149 ?_
                    refine lv_topi (fun y8 ey8 => ?_)
                    have by8 : y8.toInt = (mu 5 3).toInt := congrArg Int32.toInt ey8
                    refine cr_l (va_runV (As := [.long v3_122, .int y8]) (rest := []) ⟨hx, hb, hml, hown, hts⟩ (sx_Letter_digestOn l dC dI cs ad mu ok s.heap hP (61 + v5_122.toNatClampNeg) hk7.1 hk7.2 v3_122 y8) (cwV 2 hts (wU_V mw_5_22 mw_5_19 mw_5_20 mw_5_21 mw_1_4) rfl rfl rfl (by decide +kernel) ⟨Nat.le_of_ble_eq_true rfl, Nat.le_of_ble_eq_true rfl⟩) ⟨sz_c, va_recv hK hP (ci := 3) (q0 := (61 + v5_122.toNatClampNeg)) rfl (gX_letter cs ad mu (61 + v5_122.toNatClampNeg) hk7.1 hk7.2), sz_m hK hz⟩ rfl rfl hl.1 rfl (lv_room (Nat.le_of_ble_eq_true rfl)) dX10_digestOn_152 ⟨Nat.zero_le _, Nat.zero_le _⟩) hS (fun r9 hw9 locs hS => ?_)
                    refine lv_lstore_n (lv' := [(3, .long r9), (5, .int v5_122), (0, .ref (ad 4)), (1, .long lb)]) hx hb dX10_digestOn_155 rfl hl (by decide) rfl (fun ls hl => ?_)
                    refine lv_iinc (v := (v5_122 + 1)) (lv' := [(5, .int (v5_122 + 1)), (3, .long r9), (0, .ref (ad 4)), (1, .long lb)]) hx hb dX10_digestOn_156 hl (k := 1) rfl rfl (by decide) rfl (fun ls hl => ?_)
                    refine loc_gen (P := fun w9 => lv_has ls 7 [(5, .int w9), (3, .long r9), (0, .ref (ad 4)), (1, .long lb)]) (v5_122 + 1) hl (fun w10 hw10 hl => ?_)
                    have hl : lv_has ls 7 [(5, .int w10), (3, .long r9), (0, .ref (ad 4)), (1, .long lb)] := hl
                    have aw10 : w10.toInt = v5_122.toInt + 1 := by rw [← hw10]; exact va1 (by omega)
                    refine lv_goto (tgt := 122) hx hb dX10_digestOn_159 (by decide) ?_
                    exact ih122 (r9) (w10)  _ _ (by first | exact ms_lt hm_122 (by omega) (by omega) | omega) (by omega)   hS (lv_sub hl [0, 1, 2, 3] rfl)
              exact loop122 ((4 + 1 - (0 : Int32).toInt).toNat + 1) (v3_54) (0)  _ _ (Nat.lt_succ_self _) (by have h80 : (0 : Int32).toInt = 0 := rfl; exact ⟨by omega, by omega⟩)   hS hl
            · have c_4 : v5_54.toInt < y3.toInt := il_nle c_4
              refine lv_ldc2 (v := 31) hx hb hown (hts _ (List.mem_cons_of_mem _ mw_5_17)) dX10_digestOn_63 ?_
              refine lv_lload_n hx hb dX10_digestOn_66 rfl (lv_at hl 1 rfl) ?_
              refine lv_lmul hx hb dX10_digestOn_67 ?_
              refine lv_topl (fun l11 el11 => ?_)
              refine lv_aload_n hx hb dX10_digestOn_68 rfl (lv_at hl 2 rfl) ?_
              refine va_get (D := (dC, dI)) (ci := 10) (v := .ref (ad 35)) (C := RX10) (T := TX10) (N := 8) hx hb hts inG10 hown hK hP 4 (gX_4 cs ad mu) rfl 1 (by decide) (hts _ (List.mem_cons_of_mem _ mw_1_148)) (fun _ h9 => h9) rfl dX10_digestOn_69 ?_
              refine lv_iload hx hb dX10_digestOn_72 (lv_at hl 0 rfl) ?_
              refine va_iald hx hb hK hP 35 0 (gX_35 cs ad mu) rfl (show vp_in v5_54 12 from vi_of (by omega) (by omega)) dX10_digestOn_74 ?_
              refine lv_topi (fun y12 ey12 => ?_)
              have by12 : y12.toInt = (mu 35 v5_54.toNatClampNeg).toInt := congrArg Int32.toInt ey12
              have gy12 : 0 ≤ y12.toInt ∧ y12.toInt ≤ 6 := by rw [ey12]; exact rX_35_s ok v5_54.toNatClampNeg
              refine lv_i2l hx hb dX10_digestOn_75 rfl ?_
              refine lv_topl (fun l13 el13 => ?_)
              refine lv_ladd hx hb dX10_digestOn_76 ?_
              refine lv_topl (fun l14 el14 => ?_)
              refine lv_lstore_n (lv' := [(3, .long l14), (5, .int v5_54), (0, .ref (ad 4)), (1, .long lb)]) hx hb dX10_digestOn_77 rfl hl (by decide) rfl (fun ls hl => ?_)
              refine lv_ldc2 (v := 31) hx hb hown (hts _ (List.mem_cons_of_mem _ mw_5_17)) dX10_digestOn_78 ?_
              refine lv_lload_n hx hb dX10_digestOn_81 rfl (lv_at hl 0 rfl) ?_
              refine lv_lmul hx hb dX10_digestOn_82 ?_
              refine lv_topl (fun l15 el15 => ?_)
              refine lv_aload_n hx hb dX10_digestOn_83 rfl (lv_at hl 2 rfl) ?_
              refine va_get (D := (dC, dI)) (ci := 10) (v := .ref (ad 36)) (C := RX10) (T := TX10) (N := 8) hx hb hts inG10 hown hK hP 4 (gX_4 cs ad mu) rfl 2 (by decide) (hts _ (List.mem_cons_of_mem _ mw_1_150)) (fun _ h9 => h9) rfl dX10_digestOn_84 ?_
              refine lv_iload hx hb dX10_digestOn_87 (lv_at hl 1 rfl) ?_
              refine va_iald hx hb hK hP 36 0 (gX_36 cs ad mu) rfl (show vp_in v5_54 12 from vi_of (by omega) (by omega)) dX10_digestOn_89 ?_
              refine lv_topi (fun y16 ey16 => ?_)
              have by16 : y16.toInt = (mu 36 v5_54.toNatClampNeg).toInt := congrArg Int32.toInt ey16
              have gy16 : 0 ≤ y16.toInt ∧ y16.toInt ≤ 6 := by rw [ey16]; exact rX_36_s ok v5_54.toNatClampNeg
              refine lv_i2l hx hb dX10_digestOn_90 rfl ?_
              refine lv_topl (fun l17 el17 => ?_)
              refine lv_ladd hx hb dX10_digestOn_91 ?_
              refine lv_topl (fun l18 el18 => ?_)
              refine lv_lstore_n (lv' := [(3, .long l18), (5, .int v5_54), (0, .ref (ad 4)), (1, .long lb)]) hx hb dX10_digestOn_92 rfl hl (by decide) rfl (fun ls hl => ?_)
              refine lv_ldc2 (v := 31) hx hb hown (hts _ (List.mem_cons_of_mem _ mw_5_17)) dX10_digestOn_93 ?_
              refine lv_lload_n hx hb dX10_digestOn_96 rfl (lv_at hl 0 rfl) ?_
              refine lv_lmul hx hb dX10_digestOn_97 ?_
              refine lv_topl (fun l19 el19 => ?_)
              refine lv_aload_n hx hb dX10_digestOn_98 rfl (lv_at hl 2 rfl) ?_
              refine va_get (D := (dC, dI)) (ci := 10) (v := .ref (ad 5)) (C := RX10) (T := TX10) (N := 8) hx hb hts inG10 hown hK hP 4 (gX_4 cs ad mu) rfl 3 (by decide) (hts _ (List.mem_cons_of_mem _ mw_1_152)) (fun _ h9 => h9) rfl dX10_digestOn_99 ?_
              refine va_get (D := (dC, dI)) (ci := 8) (v := .int (mu 5 2)) (C := RX8) (T := TX8) (N := 6) hx hb hts inG8 hown hK hP 5 (gX_5 cs ad mu) rfl 2 (by decide) (hts _ (List.mem_cons_of_mem _ mw_1_116)) (fun _ h9 => h9) rfl dX10_digestOn_102 ?_
              refine lv_topi (fun y20 ey20 => ?_)
              have by20 : y20.toInt = (mu 5 2).toInt := congrArg Int32.toInt ey20
              refine lv_iload hx hb dX10_digestOn_105 (lv_at hl 1 rfl) ?_
              refine lv_ishr hx hb dX10_digestOn_107 ?_
              refine lv_topi (fun t21 et21 => ?_)
              refine lv_iconst (v := 1) hx hb dX10_digestOn_108 (by decide) ?_
              refine lv_iand hx hb dX10_digestOn_109 ?_
              refine lv_topi (fun t22 et22 => ?_)
              refine lv_i2l hx hb dX10_digestOn_110 rfl ?_
              refine lv_topl (fun l23 el23 => ?_)
              refine lv_ladd hx hb dX10_digestOn_111 ?_
              refine lv_topl (fun l24 el24 => ?_)
              refine lv_lstore_n (lv' := [(3, .long l24), (5, .int v5_54), (0, .ref (ad 4)), (1, .long lb)]) hx hb dX10_digestOn_112 rfl hl (by decide) rfl (fun ls hl => ?_)
              refine lv_iinc (v := (v5_54 + 1)) (lv' := [(5, .int (v5_54 + 1)), (3, .long l24), (0, .ref (ad 4)), (1, .long lb)]) hx hb dX10_digestOn_113 hl (k := 1) rfl rfl (by decide) rfl (fun ls hl => ?_)
              refine loc_gen (P := fun w9 => lv_has ls 7 [(5, .int w9), (3, .long l24), (0, .ref (ad 4)), (1, .long lb)]) (v5_54 + 1) hl (fun w25 hw25 hl => ?_)
              have hl : lv_has ls 7 [(5, .int w25), (3, .long l24), (0, .ref (ad 4)), (1, .long lb)] := hl
              have aw25 : w25.toInt = v5_54.toInt + 1 := by rw [← hw25]; exact va1 (by omega)
              refine lv_goto (tgt := 54) hx hb dX10_digestOn_116 (by decide) ?_
              exact ih54 (l24) (w25)  _ _ (by first | exact ms_lt hm_54 (by omega) (by omega) | omega) (by omega)   hS (lv_sub hl [0, 1, 2, 3] rfl)
        exact loop54 ((12 + 1 - (0 : Int32).toInt).toNat + 1) (v3_5) (0)  _ _ (Nat.lt_succ_self _) (by have h80 : (0 : Int32).toInt = 0 := rfl; exact ⟨by omega, by omega⟩)   hS hl
      · have c_2 : v5_5.toInt < y1.toInt := il_nle c_2
        refine lv_iconst (v := 0) hx hb dX10_digestOn_14 (by decide) ?_
        refine lv_istore (lv' := [(6, .int 0), (5, .int v5_5), (3, .long v3_5), (0, .ref (ad 4)), (1, .long lb)]) hx hb dX10_digestOn_15 hl (by decide) rfl (fun ls hl => ?_)
        have loop17 : ∀ (n17 : Nat) (v3_17 : Int64) (v6_17 : Int32) (locs : List Loc) (ls : Array Slot), (4 + 1 - v6_17.toInt).toNat < n17 → (0 ≤ v6_17.toInt ∧ v6_17.toInt ≤ 4) → va_S (fun _ => False) s.heap s.heap locs → lv_has ls 7 [(6, .int v6_17), (5, .int v5_5), (3, .long v3_17), (0, .ref (ad 4)), (1, .long lb)] → W p l e (headSpec (wU yX10_digestOn cX10_digestOn 7 (some .long)) ({ frames := 4, cells := 0, slots := 0, locals := 99 })).room s m ([.ref (ad 4), .long lb] : List Value).toArray below meth c s.heap locs 0 0 (MQ below (va_Ql (fun (z : Int64) (_ : Unit) => True) (fun _ t => t.heap = s.heap) (fun _ => False)) ([.ref (ad 4), .long lb] : List Value).toArray s 0 0 (fun _ => False)) (F0 m 17 ls []) := by
          intro n17
          induction n17 with
          | zero => intro v3_17 v6_17 locs ls hm; exact absurd hm (Nat.not_lt_zero _)
          | succ n17 ih17 =>
            intro v3_17 v6_17 locs ls hm_17 h_v6_17 hS hl
            refine lv_iload hx hb dX10_digestOn_17 (lv_at hl 0 rfl) ?_
            refine lv_iconst (v := 4) hx hb dX10_digestOn_19 (by decide) ?_
            refine lv_icmp_ge (tgt := 45) hx hb dX10_digestOn_20 (by decide) (fun c_26 => ?_) (fun c_26 => ?_)
            · have c_26 : 4 ≤ v6_17.toInt := il_le c_26
              refine lv_iinc (v := (v5_5 + 1)) (lv' := [(5, .int (v5_5 + 1)), (6, .int v6_17), (3, .long v3_17), (0, .ref (ad 4)), (1, .long lb)]) hx hb dX10_digestOn_45 hl (k := 1) rfl rfl (by decide) rfl (fun ls hl => ?_)
              refine loc_gen (P := fun w9 => lv_has ls 7 [(5, .int w9), (6, .int v6_17), (3, .long v3_17), (0, .ref (ad 4)), (1, .long lb)]) (v5_5 + 1) hl (fun w27 hw27 hl => ?_)
              have hl : lv_has ls 7 [(5, .int w27), (6, .int v6_17), (3, .long v3_17), (0, .ref (ad 4)), (1, .long lb)] := hl
              have aw27 : w27.toInt = v5_5.toInt + 1 := by rw [← hw27]; exact va1 (by omega)
              refine lv_goto (tgt := 5) hx hb dX10_digestOn_48 (by decide) ?_
              exact ih5 (v3_17) (w27)  _ _ (by first | exact ms_lt hm_5 (by omega) (by omega) | omega) (by omega)   hS (lv_sub hl [0, 2, 3, 4] rfl)
            · have c_26 : v6_17.toInt < 4 := il_nle c_26
              refine lv_ldc2 (v := 31) hx hb hown (hts _ (List.mem_cons_of_mem _ mw_5_17)) dX10_digestOn_23 ?_
              refine lv_lload_n hx hb dX10_digestOn_26 rfl (lv_at hl 2 rfl) ?_
              refine lv_lmul hx hb dX10_digestOn_27 ?_
              refine lv_topl (fun l28 el28 => ?_)
              refine lv_aload_n hx hb dX10_digestOn_28 rfl (lv_at hl 3 rfl) ?_
              refine lv_iload hx hb dX10_digestOn_29 (lv_at hl 1 rfl) ?_
              refine lv_iload hx hb dX10_digestOn_31 (lv_at hl 0 rfl) ?_
              refine cr_i (va_runV (As := [.int v5_5, .int v6_17]) (rest := [.long l28]) ⟨hx, hb, hml, hown, hts⟩ (sx_bearerFact l dC dI cs ad mu ok s.heap hP v5_5 v6_17 (by omega)) (cwV 2 hts (wU_V mw_3_80 mw_5_18 mw_3_78 mw_3_79 mw_1_2) rfl rfl rfl (by decide +kernel) ⟨Nat.le_of_ble_eq_true rfl, Nat.le_of_ble_eq_true rfl⟩) ⟨sz_c, va_recv hK hP (ci := 10) (q0 := 4) rfl (gX_4 cs ad mu), sz_m hK hz⟩ rfl rfl hl.1 rfl (lv_room (Nat.le_of_ble_eq_true rfl)) dX10_digestOn_33 ⟨Nat.zero_le _, Nat.zero_le _⟩) hS (fun r29 hw29 locs hS => ?_)
              obtain ⟨hfe29, hw29⟩ := hw29
              refine lv_i2l hx hb dX10_digestOn_36 rfl ?_
              refine lv_topl (fun l30 el30 => ?_)
              refine lv_ladd hx hb dX10_digestOn_37 ?_
              refine lv_topl (fun l31 el31 => ?_)
              refine lv_lstore_n (lv' := [(3, .long l31), (6, .int v6_17), (5, .int v5_5), (0, .ref (ad 4)), (1, .long lb)]) hx hb dX10_digestOn_38 rfl hl (by decide) rfl (fun ls hl => ?_)
              refine lv_iinc (v := (v6_17 + 1)) (lv' := [(6, .int (v6_17 + 1)), (3, .long l31), (5, .int v5_5), (0, .ref (ad 4)), (1, .long lb)]) hx hb dX10_digestOn_39 hl (k := 1) rfl rfl (by decide) rfl (fun ls hl => ?_)
              refine loc_gen (P := fun w9 => lv_has ls 7 [(6, .int w9), (3, .long l31), (5, .int v5_5), (0, .ref (ad 4)), (1, .long lb)]) (v6_17 + 1) hl (fun w32 hw32 hl => ?_)
              have hl : lv_has ls 7 [(6, .int w32), (3, .long l31), (5, .int v5_5), (0, .ref (ad 4)), (1, .long lb)] := hl
              have aw32 : w32.toInt = v6_17.toInt + 1 := by rw [← hw32]; exact va1 (by omega)
              refine lv_goto (tgt := 17) hx hb dX10_digestOn_42 (by decide) ?_
              exact ih17 (l31) (w32)  _ _ (by first | exact ms_lt hm_17 (by omega) (by omega) | omega) (by omega)   hS (lv_sub hl [0, 2, 1, 3, 4] rfl)
        exact loop17 ((4 + 1 - (0 : Int32).toInt).toNat + 1) (v3_5) (0)  _ _ (Nat.lt_succ_self _) (by have h80 : (0 : Int32).toInt = 0 := rfl; exact ⟨by omega, by omega⟩)   hS hl
  exact loop5 ((7 + 1 - (0 : Int32).toInt).toNat + 1) (lb) (0)  _ _ (Nat.lt_succ_self _) (by have h80 : (0 : Int32).toInt = 0 := rfl; exact ⟨by omega, by omega⟩)   hS hl
