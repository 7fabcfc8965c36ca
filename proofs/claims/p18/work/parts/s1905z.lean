set_option maxHeartbeats 4000000 in
set_option maxRecDepth 100000 in
/-- sx_undoLast -/
theorem sx_undoLast (l : Launch) (dC : Nat → ClassId) (dI : Nat → Nat → Nat) (cs : Nat → ClassId) (ad : Nat → Nat) (mu : Nat → Nat → Int32) (ok : okR loX hiX mu) (H : Heap) (hP : va_P (dC, dI) vwCl (wR 157 ad (EX cs ad) mu) H) (hD0 : va_D (fun _ => True) (wR 157 ad (EX cs ad) mu)) : Met l yX2_undoLast (wU yX2_undoLast cX2_undoLast 4 none) ({ frames := 1, cells := 0, slots := 0, locals := 60 }) (va_Pc [.ref (ad 6), .ref (ad 4)] (sz_P (dC, dI) vwCl (tyW cs) H)) (va_Qv (fun (xi : Nat → Nat → Int32) => xi = F_sx_undoLast mu ∧ okR loX hiX xi ∧ (True) ∧ (∀ k f : Nat, Nat.testBit 486 (gpX k f) = true → xi k f = mu k f)) (fun xi t => va_P (dC, dI) vwCl (wR 157 ad (EX cs ad) xi) t.heap) (va_A (wR 157 ad (EX cs ad) mu) H.size)) 0 0 (va_A (wR 157 ad (EX cs ad) mu) H.size) := by
  refine Met.ofW (cc := cX2_undoLast) (maxL := 4) (ret := none) (by decide) rfl ?_
  intro p e s m args below meth c s₁ B hml hv
  obtain ⟨rfl, hh, hK, hz⟩ := hv
  have hx := B.exec
  have hb := B.bytes
  have hr := B.returns
  have hts := atoms_spec (ws := (wU yX2_undoLast cX2_undoLast 4 none)) B.pre
  have hown : s.vm.findClass RX2 = some m.cls := findClass_of_methodNamed B.named
  have hlocks := B.notSynchronized
  subst hh
  have hD := hD0.self (sz := s.heap.size)
  have hA : ∀ q : Nat, s.heap.size ≤ q → (va_A (wR 157 ad (EX cs ad) mu) s.heap.size) q := fun q h => Or.inr h
  have hS : va_S (va_A (wR 157 ad (EX cs ad) mu) s.heap.size) s.heap s.heap [] := va_S.rf
  have hl := lv_entry ([.ref (ad 6), .ref (ad 4)]) (n := 4) (Nat.le_of_ble_eq_true rfl)
  rw [lg_entry_eq]
  generalize (lg_sl ([.ref (ad 6), .ref (ad 4)]) ++ List.replicate (4 - (lg_sl ([.ref (ad 6), .ref (ad 4)])).length) Slot.unset).toArray = ls at hl ⊢
  have hl : lv_has ls 4 [(0, .ref (ad 6)), (1, .ref (ad 4))] := hl
  obtain ⟨fz, hfz⟩ : ∃ z, F_sx_undoLast mu = z := ⟨_, rfl⟩
  have hF := hfz
  unfold F_sx_undoLast at hF
  refine lv_aload_n hx hb dX2_undoLast_0 rfl (lv_at hl 0 rfl) ?_
  refine va_get (D := (dC, dI)) (ci := 2) (v := .int (mu 6 1)) (C := RX2) (T := TX2) (N := 2) hx hb hts inG2 hown hK hP 6 (gX_6 cs ad mu) rfl 1 (by decide) (hts _ (List.mem_cons_of_mem _ mw_2_7)) (fun _ h9 => h9) rfl dX2_undoLast_1 ?_
  refine lv_topi (fun y1 ey1 => ?_)
  have hF := mi_let hF ey1
  have by1 : y1.toInt = (mu 6 1).toInt := congrArg Int32.toInt ey1
  have gy1 : 0 ≤ y1.toInt ∧ y1.toInt ≤ 40 := by rw [ey1]; exact rX_6_1 ok
  refine lv_if_gt (tgt := 8) hx hb dX2_undoLast_4 (by decide) (fun c_2 => ?_) (fun c_2 => ?_)
  · have hF := (if_pos c_2).symm.trans hF
    have c_2 : 0 < y1.toInt := il_lt c_2
    refine lv_aload_n hx hb dX2_undoLast_8 rfl (lv_at hl 0 rfl) ?_
    refine lv_dup hx hb dX2_undoLast_9 rfl ?_
    refine va_get (D := (dC, dI)) (ci := 2) (v := .int (mu 6 1)) (C := RX2) (T := TX2) (N := 2) hx hb hts inG2 hown hK hP 6 (gX_6 cs ad mu) rfl 1 (by decide) (hts _ (List.mem_cons_of_mem _ mw_2_7)) (fun _ h9 => h9) rfl dX2_undoLast_10 ?_
    refine lq_i y1 ey1.symm ?_
    refine lv_iconst (v := 1) hx hb dX2_undoLast_13 (by decide) ?_
    refine lv_isub hx hb dX2_undoLast_14 ?_
    refine lv_topi (fun t3 et3 => ?_)
    have hF := mi_let hF et3
    have at3 : t3.toInt = y1.toInt - 1 := by rw [et3]; exact tI_sub (rfl : y1.toInt = _) (rfl : (1 : Int32).toInt = 1) (by omega) (by omega)
    refine va_put (D := (dC, dI)) (ci := 2) (v := .int t3) (ty := .int) (C := RX2) (T := TX2) (N := 2) hx hb hts inG2 tyX2 tyX2_ok nmX2 hown hK hP (wR_D mu hD) hS 6 (gX_6 cs ad mu) rfl 1 (by decide) (hts _ (List.mem_cons_of_mem _ mw_2_7)) (fun _ h9 => h9) rfl (by decide +kernel) rfl rfl (Nat.le_of_ble_eq_true rfl) dX2_undoLast_15 (fun H locs hP _ hS => ?_)
    simp only [List.set_cons_succ, List.set_cons_zero] at hP
    refine wr_gen (upd (mu 6) 1 t3) hP ((hX_6_1 cs ad _ _)) (fun nu4 hn4 hP => ?_)
    have hF := mi_let hF hn4.symm
    have ok := tX_6_1 ok hn4 (by omega)
    have kp5 : (∀ k f : Nat, Nat.testBit 486 (gpX k f) = true → nu4 k f = mu k f) := kp_c 4 hn4 (fun _ => rfl) (by decide) (fun _ _ _ => rfl)
    have ez6 : t3 = nu4 6 1 := up_v hn4
    refine lv_aload_n hx hb dX2_undoLast_18 rfl (lv_at hl 0 rfl) ?_
    refine va_get (D := (dC, dI)) (ci := 2) (v := .ref (ad 39)) (C := RX2) (T := TX2) (N := 2) hx hb hts inG2 hown hK hP 6 (gX_6 cs ad nu4) rfl 0 (by decide) (hts _ (List.mem_cons_of_mem _ mw_2_6)) (fun _ h9 => h9) rfl dX2_undoLast_19 ?_
    refine lv_aload_n hx hb dX2_undoLast_22 rfl (lv_at hl 0 rfl) ?_
    refine va_get (D := (dC, dI)) (ci := 2) (v := .int (nu4 6 1)) (C := RX2) (T := TX2) (N := 2) hx hb hts inG2 hown hK hP 6 (gX_6 cs ad nu4) rfl 1 (by decide) (hts _ (List.mem_cons_of_mem _ mw_2_7)) (fun _ h9 => h9) rfl dX2_undoLast_23 ?_
    refine lq_i t3 ez6.symm ?_
    have hx7 : 0 ≤ t3.toInt ∧ t3.toInt < ((40 : Nat) : Int) := ⟨by omega, by omega⟩
    refine va_aldq hx hb hK hP 39 6 (gX_39 cs ad nu4) rfl (show vp_in t3 40 from vi_of hx7.1 hx7.2) dX2_undoLast_26 ?_
    have hk7 : 77 ≤ (77 + t3.toNatClampNeg) ∧ (77 + t3.toNatClampNeg) < 117 := ix_of hx7
    refine lq_v (.ref (ad (77 + t3.toNatClampNeg))) rfl ?_
    refine lv_astore_n (lv' := [(2, .ref (ad (77 + t3.toNatClampNeg))), (0, .ref (ad 6)), (1, .ref (ad 4))]) hx hb dX2_undoLast_27 rfl hl (by decide) rfl (fun ls hl => ?_)
    refine lv_aload_n hx hb dX2_undoLast_28 rfl (lv_at hl 2 rfl) ?_
    refine va_get (D := (dC, dI)) (ci := 10) (v := .ref (ad 5)) (C := RX10) (T := TX10) (N := 8) hx hb hts inG10 hown hK hP 4 (gX_4 cs ad nu4) rfl 3 (by decide) (hts _ (List.mem_cons_of_mem _ mw_1_154)) (fun _ h9 => h9) rfl dX2_undoLast_29 ?_
    refine va_get (D := (dC, dI)) (ci := 8) (v := .ref (ad 47)) (C := RX8) (T := TX8) (N := 6) hx hb hts inG8 hown hK hP 5 (gX_5 cs ad nu4) rfl 1 (by decide) (hts _ (List.mem_cons_of_mem _ mw_1_110)) (fun _ h9 => h9) rfl dX2_undoLast_32 ?_
    refine lv_aload_n hx hb dX2_undoLast_35 rfl (lv_at hl 0 rfl) ?_
    refine va_get (D := (dC, dI)) (ci := 7) (v := .int (nu4 (77 + t3.toNatClampNeg) 1)) (C := RX7) (T := TX7) (N := 7) hx hb hts inG7 hown hK hP (77 + t3.toNatClampNeg) (gX_sale cs ad nu4 (77 + t3.toNatClampNeg) hk7.1 hk7.2) rfl 1 (by decide) (hts _ (List.mem_cons_of_mem _ mw_1_225)) (fun _ h9 => h9) rfl dX2_undoLast_36 ?_
    refine lv_topi (fun y8 ey8 => ?_)
    have hF := mi_let hF ey8
    have by8 : y8.toInt = (nu4 (77 + t3.toNatClampNeg) 1).toInt := congrArg Int32.toInt ey8
    have gy8 : 0 ≤ y8.toInt ∧ y8.toInt ≤ 3 := by rw [ey8]; exact rX_sale_1 ok (77 + t3.toNatClampNeg) hk7.1 hk7.2
    have hx9 : 0 ≤ y8.toInt ∧ y8.toInt < ((4 : Nat) : Int) := ⟨by omega, by omega⟩
    refine va_aldq hx hb hK hP 47 5 (gX_47 cs ad nu4) rfl (show vp_in y8 4 from vi_of hx9.1 hx9.2) dX2_undoLast_39 ?_
    have hk9 : 61 ≤ (61 + y8.toNatClampNeg) ∧ (61 + y8.toNatClampNeg) < 65 := ix_of hx9
    have hk9 : 61 ≤ (61 + y8.toNatClampNeg) ∧ (61 + y8.toNatClampNeg) < 77 := ⟨Nat.le_trans (by decide) hk9.1, Nat.lt_of_lt_of_le hk9.2 (by decide)⟩
    refine lq_v (.ref (ad (61 + y8.toNatClampNeg))) rfl ?_
    refine lv_astore_n (lv' := [(3, .ref (ad (61 + y8.toNatClampNeg))), (2, .ref (ad (77 + t3.toNatClampNeg))), (0, .ref (ad 6)), (1, .ref (ad 4))]) hx hb dX2_undoLast_40 rfl hl (by decide) rfl (fun ls hl => ?_)
    refine lv_aload_n hx hb dX2_undoLast_41 rfl (lv_at hl 0 rfl) ?_
    refine lv_aload_n hx hb dX2_undoLast_42 rfl (lv_at hl 1 rfl) ?_
    refine va_get (D := (dC, dI)) (ci := 7) (v := .int (nu4 (77 + t3.toNatClampNeg) 2)) (C := RX7) (T := TX7) (N := 7) hx hb hts inG7 hown hK hP (77 + t3.toNatClampNeg) (gX_sale cs ad nu4 (77 + t3.toNatClampNeg) hk7.1 hk7.2) rfl 2 (by decide) (hts _ (List.mem_cons_of_mem _ mw_1_226)) (fun _ h9 => h9) rfl dX2_undoLast_43 ?_
    refine lv_topi (fun y10 ey10 => ?_)
    have hF := mi_let hF ey10
    have by10 : y10.toInt = (nu4 (77 + t3.toNatClampNeg) 2).toInt := congrArg Int32.toInt ey10
    have gy10 : 0 ≤ y10.toInt ∧ y10.toInt ≤ 6 := by rw [ey10]; exact rX_sale_2 ok (77 + t3.toNatClampNeg) hk7.1 hk7.2
    refine va_put (D := (dC, dI)) (ci := 3) (v := .int y10) (ty := .int) (C := RX3) (T := TX3) (N := 10) hx hb hts inG3 tyX3 tyX3_ok nmX3 hown hK hP (wR_D nu4 hD) hS (61 + y8.toNatClampNeg) (gX_letter cs ad nu4 (61 + y8.toNatClampNeg) hk9.1 hk9.2) rfl 5 (by decide) (hts _ (List.mem_cons_of_mem _ mw_1_63)) (fun _ h9 => h9) rfl (by decide +kernel) rfl rfl (Nat.le_of_ble_eq_true rfl) dX2_undoLast_46 (fun H locs hP _ hS => ?_)
    simp only [List.set_cons_succ, List.set_cons_zero] at hP
    refine wr_gen (upd (nu4 (61 + y8.toNatClampNeg)) 5 y10) hP ((hX_letter_5 cs ad _ _ (61 + y8.toNatClampNeg) hk9.1 hk9.2)) (fun nu11 hn11 hP => ?_)
    have hF := mi_let hF hn11.symm
    have ok := tX_letter_5 ok (61 + y8.toNatClampNeg) hk9.1 hk9.2 hn11 (by omega)
    have ez12 : t3 = nu11 6 1 := ez6.trans (congrFun (up_k hn11 (ne_lo (by decide) hk9.1)) 1).symm
    have ez13 : y8 = nu11 (77 + t3.toNatClampNeg) 1 := ey8.trans (congrFun (up_k hn11 (ne_gg hk7.1 (by decide) hk9.2)) 1).symm
    have ez14 : y10 = nu11 (77 + t3.toNatClampNeg) 2 := ey10.trans (congrFun (up_k hn11 (ne_gg hk7.1 (by decide) hk9.2)) 2).symm
    have kp15 : (∀ k f : Nat, Nat.testBit 486 (gpX k f) = true → nu11 k f = mu k f) := kp_c 3 hn11 (fun _ => gpX_letter hk9.1 hk9.2) (by decide) kp5
    have ez16 : y10 = nu11 (61 + y8.toNatClampNeg) 5 := up_v hn11
    refine lv_aload_n hx hb dX2_undoLast_49 rfl (lv_at hl 0 rfl) ?_
    refine lv_aload_n hx hb dX2_undoLast_50 rfl (lv_at hl 1 rfl) ?_
    refine va_get (D := (dC, dI)) (ci := 7) (v := .int (nu11 (77 + t3.toNatClampNeg) 5)) (C := RX7) (T := TX7) (N := 7) hx hb hts inG7 hown hK hP (77 + t3.toNatClampNeg) (gX_sale cs ad nu11 (77 + t3.toNatClampNeg) hk7.1 hk7.2) rfl 5 (by decide) (hts _ (List.mem_cons_of_mem _ mw_1_229)) (fun _ h9 => h9) rfl dX2_undoLast_51 ?_
    refine lv_topi (fun y17 ey17 => ?_)
    have hF := mi_let hF ey17
    have by17 : y17.toInt = (nu11 (77 + t3.toNatClampNeg) 5).toInt := congrArg Int32.toInt ey17
    refine va_put (D := (dC, dI)) (ci := 3) (v := .int y17) (ty := .int) (C := RX3) (T := TX3) (N := 10) hx hb hts inG3 tyX3 tyX3_ok nmX3 hown hK hP (wR_D nu11 hD) hS (61 + y8.toNatClampNeg) (gX_letter cs ad nu11 (61 + y8.toNatClampNeg) hk9.1 hk9.2) rfl 6 (by decide) (hts _ (List.mem_cons_of_mem _ mw_1_68)) (fun _ h9 => h9) rfl (by decide +kernel) rfl rfl (Nat.le_of_ble_eq_true rfl) dX2_undoLast_54 (fun H locs hP _ hS => ?_)
    simp only [List.set_cons_succ, List.set_cons_zero] at hP
    refine wr_gen (upd (nu11 (61 + y8.toNatClampNeg)) 6 y17) hP ((hX_letter_6 cs ad _ _ (61 + y8.toNatClampNeg) hk9.1 hk9.2)) (fun nu18 hn18 hP => ?_)
    have hF := mi_let hF hn18.symm
    have ok := tX_letter_6 ok (61 + y8.toNatClampNeg) hk9.1 hk9.2 hn18
    have ez19 : t3 = nu18 6 1 := ez12.trans (congrFun (up_k hn18 (ne_lo (by decide) hk9.1)) 1).symm
    have ez20 : y8 = nu18 (77 + t3.toNatClampNeg) 1 := ez13.trans (congrFun (up_k hn18 (ne_gg hk7.1 (by decide) hk9.2)) 1).symm
    have ez21 : y10 = nu18 (77 + t3.toNatClampNeg) 2 := ez14.trans (congrFun (up_k hn18 (ne_gg hk7.1 (by decide) hk9.2)) 2).symm
    have ez22 : y10 = nu18 (61 + y8.toNatClampNeg) 5 := ez16.trans (up_f hn18 (by decide)).symm
    have ez23 : y17 = nu18 (77 + t3.toNatClampNeg) 5 := ey17.trans (congrFun (up_k hn18 (ne_gg hk7.1 (by decide) hk9.2)) 5).symm
    have kp24 : (∀ k f : Nat, Nat.testBit 486 (gpX k f) = true → nu18 k f = mu k f) := kp_c 3 hn18 (fun _ => gpX_letter hk9.1 hk9.2) (by decide) kp15
    have ez25 : y17 = nu18 (61 + y8.toNatClampNeg) 6 := up_v hn18
    refine lv_aload_n hx hb dX2_undoLast_57 rfl (lv_at hl 0 rfl) ?_
    refine lv_aload_n hx hb dX2_undoLast_58 rfl (lv_at hl 1 rfl) ?_
    refine va_get (D := (dC, dI)) (ci := 7) (v := .int (nu18 (77 + t3.toNatClampNeg) 6)) (C := RX7) (T := TX7) (N := 7) hx hb hts inG7 hown hK hP (77 + t3.toNatClampNeg) (gX_sale cs ad nu18 (77 + t3.toNatClampNeg) hk7.1 hk7.2) rfl 6 (by decide) (hts _ (List.mem_cons_of_mem _ mw_1_230)) (fun _ h9 => h9) rfl dX2_undoLast_59 ?_
    refine lv_topi (fun y26 ey26 => ?_)
    have hF := mi_let hF ey26
    have by26 : y26.toInt = (nu18 (77 + t3.toNatClampNeg) 6).toInt := congrArg Int32.toInt ey26
    refine va_put (D := (dC, dI)) (ci := 3) (v := .int y26) (ty := .int) (C := RX3) (T := TX3) (N := 10) hx hb hts inG3 tyX3 tyX3_ok nmX3 hown hK hP (wR_D nu18 hD) hS (61 + y8.toNatClampNeg) (gX_letter cs ad nu18 (61 + y8.toNatClampNeg) hk9.1 hk9.2) rfl 7 (by decide) (hts _ (List.mem_cons_of_mem _ mw_1_73)) (fun _ h9 => h9) rfl (by decide +kernel) rfl rfl (Nat.le_of_ble_eq_true rfl) dX2_undoLast_62 (fun H locs hP _ hS => ?_)
    simp only [List.set_cons_succ, List.set_cons_zero] at hP
    refine wr_gen (upd (nu18 (61 + y8.toNatClampNeg)) 7 y26) hP ((hX_letter_7 cs ad _ _ (61 + y8.toNatClampNeg) hk9.1 hk9.2)) (fun nu27 hn27 hP => ?_)
    have hF := mi_let hF hn27.symm
    have ok := tX_letter_7 ok (61 + y8.toNatClampNeg) hk9.1 hk9.2 hn27
    have ez28 : t3 = nu27 6 1 := ez19.trans (congrFun (up_k hn27 (ne_lo (by decide) hk9.1)) 1).symm
    have ez29 : y8 = nu27 (77 + t3.toNatClampNeg) 1 := ez20.trans (congrFun (up_k hn27 (ne_gg hk7.1 (by decide) hk9.2)) 1).symm
    have ez30 : y10 = nu27 (77 + t3.toNatClampNeg) 2 := ez21.trans (congrFun (up_k hn27 (ne_gg hk7.1 (by decide) hk9.2)) 2).symm
    have ez31 : y10 = nu27 (61 + y8.toNatClampNeg) 5 := ez22.trans (up_f hn27 (by decide)).symm
    have ez32 : y17 = nu27 (77 + t3.toNatClampNeg) 5 := ez23.trans (congrFun (up_k hn27 (ne_gg hk7.1 (by decide) hk9.2)) 5).symm
    have ez33 : y17 = nu27 (61 + y8.toNatClampNeg) 6 := ez25.trans (up_f hn27 (by decide)).symm
    have ez34 : y26 = nu27 (77 + t3.toNatClampNeg) 6 := ey26.trans (congrFun (up_k hn27 (ne_gg hk7.1 (by decide) hk9.2)) 6).symm
    have kp35 : (∀ k f : Nat, Nat.testBit 486 (gpX k f) = true → nu27 k f = mu k f) := kp_c 3 hn27 (fun _ => gpX_letter hk9.1 hk9.2) (by decide) kp24
    have ez36 : y26 = nu27 (61 + y8.toNatClampNeg) 7 := up_v hn27
    refine lv_aload_n hx hb dX2_undoLast_65 rfl (lv_at hl 0 rfl) ?_
    refine lv_dup hx hb dX2_undoLast_66 rfl ?_
    refine va_get (D := (dC, dI)) (ci := 3) (v := .int (nu27 (61 + y8.toNatClampNeg) 8)) (C := RX3) (T := TX3) (N := 10) hx hb hts inG3 hown hK hP (61 + y8.toNatClampNeg) (gX_letter cs ad nu27 (61 + y8.toNatClampNeg) hk9.1 hk9.2) rfl 8 (by decide) (hts _ (List.mem_cons_of_mem _ mw_1_76)) (fun _ h9 => h9) rfl dX2_undoLast_67 ?_
    refine lv_topi (fun y37 ey37 => ?_)
    have hF := mi_let hF ey37
    have by37 : y37.toInt = (nu27 (61 + y8.toNatClampNeg) 8).toInt := congrArg Int32.toInt ey37
    refine lv_iconst (v := 1) hx hb dX2_undoLast_70 (by decide) ?_
    refine lv_isub hx hb dX2_undoLast_71 ?_
    refine lv_topi (fun t38 et38 => ?_)
    have hF := mi_let hF et38
    refine va_put (D := (dC, dI)) (ci := 3) (v := .int t38) (ty := .int) (C := RX3) (T := TX3) (N := 10) hx hb hts inG3 tyX3 tyX3_ok nmX3 hown hK hP (wR_D nu27 hD) hS (61 + y8.toNatClampNeg) (gX_letter cs ad nu27 (61 + y8.toNatClampNeg) hk9.1 hk9.2) rfl 8 (by decide) (hts _ (List.mem_cons_of_mem _ mw_1_76)) (fun _ h9 => h9) rfl (by decide +kernel) rfl rfl (Nat.le_of_ble_eq_true rfl) dX2_undoLast_72 (fun H locs hP _ hS => ?_)
    simp only [List.set_cons_succ, List.set_cons_zero] at hP
    refine wr_gen (upd (nu27 (61 + y8.toNatClampNeg)) 8 t38) hP ((hX_letter_8 cs ad _ _ (61 + y8.toNatClampNeg) hk9.1 hk9.2)) (fun nu39 hn39 hP => ?_)
    have hF := mi_let hF hn39.symm
    have ok := tX_letter_8 ok (61 + y8.toNatClampNeg) hk9.1 hk9.2 hn39
    have ez40 : t3 = nu39 6 1 := ez28.trans (congrFun (up_k hn39 (ne_lo (by decide) hk9.1)) 1).symm
    have ez41 : y8 = nu39 (77 + t3.toNatClampNeg) 1 := ez29.trans (congrFun (up_k hn39 (ne_gg hk7.1 (by decide) hk9.2)) 1).symm
    have ez42 : y10 = nu39 (77 + t3.toNatClampNeg) 2 := ez30.trans (congrFun (up_k hn39 (ne_gg hk7.1 (by decide) hk9.2)) 2).symm
    have ez43 : y10 = nu39 (61 + y8.toNatClampNeg) 5 := ez31.trans (up_f hn39 (by decide)).symm
    have ez44 : y17 = nu39 (77 + t3.toNatClampNeg) 5 := ez32.trans (congrFun (up_k hn39 (ne_gg hk7.1 (by decide) hk9.2)) 5).symm
    have ez45 : y17 = nu39 (61 + y8.toNatClampNeg) 6 := ez33.trans (up_f hn39 (by decide)).symm
    have ez46 : y26 = nu39 (77 + t3.toNatClampNeg) 6 := ez34.trans (congrFun (up_k hn39 (ne_gg hk7.1 (by decide) hk9.2)) 6).symm
    have ez47 : y26 = nu39 (61 + y8.toNatClampNeg) 7 := ez36.trans (up_f hn39 (by decide)).symm
    have kp48 : (∀ k f : Nat, Nat.testBit 486 (gpX k f) = true → nu39 k f = mu k f) := kp_c 3 hn39 (fun _ => gpX_letter hk9.1 hk9.2) (by decide) kp35
    have ez49 : t38 = nu39 (61 + y8.toNatClampNeg) 8 := up_v hn39
    refine lv_aload_n hx hb dX2_undoLast_75 rfl (lv_at hl 0 rfl) ?_
    refine lv_iconst (v := 0) hx hb dX2_undoLast_76 (by decide) ?_
    refine va_put (D := (dC, dI)) (ci := 3) (v := .int 0) (ty := .boolean) (C := RX3) (T := TX3) (N := 10) hx hb hts inG3 tyX3 tyX3_ok nmX3 hown hK hP (wR_D nu39 hD) hS (61 + y8.toNatClampNeg) (gX_letter cs ad nu39 (61 + y8.toNatClampNeg) hk9.1 hk9.2) rfl 9 (by decide) (hts _ (List.mem_cons_of_mem _ mw_1_78)) (fun _ h9 => h9) rfl (by decide +kernel) (by first | rfl | decide) (by first | rfl | decide) (Nat.le_of_ble_eq_true rfl) dX2_undoLast_77 (fun H locs hP _ hS => ?_)
    simp only [List.set_cons_succ, List.set_cons_zero] at hP
    refine wr_gen (upd (nu39 (61 + y8.toNatClampNeg)) 9 0) hP ((hX_letter_9 cs ad _ _ (61 + y8.toNatClampNeg) hk9.1 hk9.2)) (fun nu50 hn50 hP => ?_)
    have hF := mi_let hF hn50.symm
    have ok := tX_letter_9 ok (61 + y8.toNatClampNeg) hk9.1 hk9.2 hn50 (by have h9 : (0 : Int32).toInt = 0 := rfl; exact ⟨by omega, by omega⟩)
    have ez51 : t3 = nu50 6 1 := ez40.trans (congrFun (up_k hn50 (ne_lo (by decide) hk9.1)) 1).symm
    have ez52 : y8 = nu50 (77 + t3.toNatClampNeg) 1 := ez41.trans (congrFun (up_k hn50 (ne_gg hk7.1 (by decide) hk9.2)) 1).symm
    have ez53 : y10 = nu50 (77 + t3.toNatClampNeg) 2 := ez42.trans (congrFun (up_k hn50 (ne_gg hk7.1 (by decide) hk9.2)) 2).symm
    have ez54 : y10 = nu50 (61 + y8.toNatClampNeg) 5 := ez43.trans (up_f hn50 (by decide)).symm
    have ez55 : y17 = nu50 (77 + t3.toNatClampNeg) 5 := ez44.trans (congrFun (up_k hn50 (ne_gg hk7.1 (by decide) hk9.2)) 5).symm
    have ez56 : y17 = nu50 (61 + y8.toNatClampNeg) 6 := ez45.trans (up_f hn50 (by decide)).symm
    have ez57 : y26 = nu50 (77 + t3.toNatClampNeg) 6 := ez46.trans (congrFun (up_k hn50 (ne_gg hk7.1 (by decide) hk9.2)) 6).symm
    have ez58 : y26 = nu50 (61 + y8.toNatClampNeg) 7 := ez47.trans (up_f hn50 (by decide)).symm
    have ez59 : t38 = nu50 (61 + y8.toNatClampNeg) 8 := ez49.trans (up_f hn50 (by decide)).symm
    have kp60 : (∀ k f : Nat, Nat.testBit 486 (gpX k f) = true → nu50 k f = mu k f) := kp_c 3 hn50 (fun _ => gpX_letter hk9.1 hk9.2) (by decide) kp48
    have ez61 : 0 = nu50 (61 + y8.toNatClampNeg) 9 := up_v hn50
    refine lv_aload_n hx hb dX2_undoLast_80 rfl (lv_at hl 1 rfl) ?_
    have hk62 : 117 ≤ (77 + t3.toNatClampNeg) + 40 ∧ (77 + t3.toNatClampNeg) + 40 < 157 := add_in 40 hk7.1 hk7.2
    refine va_get (D := (dC, dI)) (ci := 7) (v := .ref (ad ((77 + t3.toNatClampNeg) + 40))) (C := RX7) (T := TX7) (N := 7) hx hb hts inG7 hown hK hP (77 + t3.toNatClampNeg) (gX_sale cs ad nu50 (77 + t3.toNatClampNeg) hk7.1 hk7.2) rfl 0 (by decide) (hts _ (List.mem_cons_of_mem _ mw_1_224)) (fun _ h9 => h9) rfl dX2_undoLast_81 ?_
    refine lv_iconst (v := 0) hx hb dX2_undoLast_84 (by decide) ?_
    refine lv_aload_n hx hb dX2_undoLast_85 rfl (lv_at hl 3 rfl) ?_
    refine va_get (D := (dC, dI)) (ci := 10) (v := .ref (ad 5)) (C := RX10) (T := TX10) (N := 8) hx hb hts inG10 hown hK hP 4 (gX_4 cs ad nu50) rfl 3 (by decide) (hts _ (List.mem_cons_of_mem _ mw_1_154)) (fun _ h9 => h9) rfl dX2_undoLast_86 ?_
    refine va_get (D := (dC, dI)) (ci := 8) (v := .ref (ad 46)) (C := RX8) (T := TX8) (N := 6) hx hb hts inG8 hown hK hP 5 (gX_5 cs ad nu50) rfl 0 (by decide) (hts _ (List.mem_cons_of_mem _ mw_1_105)) (fun _ h9 => h9) rfl dX2_undoLast_89 ?_
    refine lv_iconst (v := 0) hx hb dX2_undoLast_92 (by decide) ?_
    refine lv_bipush (v := 7) hx hb dX2_undoLast_93 (by decide) ?_
    refine va_copyi hx hb (hml.trans hl.1.symm) hown (hts _ (List.mem_cons_of_mem _ mw_3_184)) (hts _ (List.mem_cons_of_mem _ mw_3_4)) (hts _ (List.mem_cons_of_mem _ mw_3_3)) (hts _ (List.mem_cons_of_mem _ mw_1_15)) hK hP (wR_D nu50 hD) hS ((77 + t3.toNatClampNeg) + 40) 46 0 0 (gX_spurses cs ad nu50 ((77 + t3.toNatClampNeg) + 40) hk62.1 hk62.2) (gX_46 cs ad nu50) rfl rfl rfl (by decide) (by decide) (by decide) (by have ua : ((0 : Int32).toNatClampNeg : Int) = 0 := rfl; have ub : ((0 : Int32).toNatClampNeg : Int) = 0 := rfl; have uc : ((7 : Int32).toNatClampNeg : Int) = 7 := rfl; omega) (by have ua : ((0 : Int32).toNatClampNeg : Int) = 0 := rfl; have ub : ((0 : Int32).toNatClampNeg : Int) = 0 := rfl; have uc : ((7 : Int32).toNatClampNeg : Int) = 7 := rfl; omega) (fun _ _ => rfl) (Nat.le_of_ble_eq_true rfl) (Nat.le_of_ble_eq_true rfl) dX2_undoLast_95 (fun H locs hP _ hS => ?_)
    refine wr_gen (va_cpy (nu50 ((77 + t3.toNatClampNeg) + 40)) (nu50 46) (0 : Int32).toNatClampNeg (0 : Int32).toNatClampNeg (7 : Int32).toNatClampNeg) hP (rfl) (fun nu63 hn63 hP => ?_)
    have hF := mi_let hF hn63.symm
    have ok := okR_cp ok hn63 (cX_spurses_46 ((77 + t3.toNatClampNeg) + 40) hk62.1 hk62.2 )
    have ez64 : t3 = nu63 6 1 := ez51.trans (congrFun (up_k hn63 (by decide)) 1).symm
    have ez65 : y8 = nu63 (77 + t3.toNatClampNeg) 1 := ez52.trans (congrFun (up_k hn63 (ne_lo (by decide) hk7.1).symm) 1).symm
    have ez66 : y10 = nu63 (77 + t3.toNatClampNeg) 2 := ez53.trans (congrFun (up_k hn63 (ne_lo (by decide) hk7.1).symm) 2).symm
    have ez67 : y10 = nu63 (61 + y8.toNatClampNeg) 5 := ez54.trans (congrFun (up_k hn63 (ne_lo (by decide) hk9.1).symm) 5).symm
    have ez68 : y17 = nu63 (77 + t3.toNatClampNeg) 5 := ez55.trans (congrFun (up_k hn63 (ne_lo (by decide) hk7.1).symm) 5).symm
    have ez69 : y17 = nu63 (61 + y8.toNatClampNeg) 6 := ez56.trans (congrFun (up_k hn63 (ne_lo (by decide) hk9.1).symm) 6).symm
    have ez70 : y26 = nu63 (77 + t3.toNatClampNeg) 6 := ez57.trans (congrFun (up_k hn63 (ne_lo (by decide) hk7.1).symm) 6).symm
    have ez71 : y26 = nu63 (61 + y8.toNatClampNeg) 7 := ez58.trans (congrFun (up_k hn63 (ne_lo (by decide) hk9.1).symm) 7).symm
    have ez72 : t38 = nu63 (61 + y8.toNatClampNeg) 8 := ez59.trans (congrFun (up_k hn63 (ne_lo (by decide) hk9.1).symm) 8).symm
    have ez73 : 0 = nu63 (61 + y8.toNatClampNeg) 9 := ez61.trans (congrFun (up_k hn63 (ne_lo (by decide) hk9.1).symm) 9).symm
    have kp74 : (∀ k f : Nat, Nat.testBit 486 (gpX k f) = true → nu63 k f = mu k f) := kp_c 3 hn63 (fun _ => rfl) (by decide) kp60
    exact W.vret hx hb hr (fun t ht hW => ⟨⟨nu63, rfl, ⟨hF.trans hfz.symm, ok, trivial, kp74⟩, by first | (subst ht; exact hP) | (rw [ht]; exact hP) | (show va_P (dC, dI) vwCl (wR 157 ad (EX cs ad) nu63) t.heap; rw [ht]; exact hP)⟩, hS.F ht⟩) hS.2.2 dX2_undoLast_98
  · have hF := (if_neg c_2).symm.trans hF
    have c_2 : y1.toInt ≤ 0 := il_nlt c_2
    exact W.vret hx hb hr (fun t ht hW => ⟨⟨mu, rfl, ⟨hF.trans hfz.symm, ok, trivial, (fun _ _ _ => rfl)⟩, by first | (subst ht; exact hP) | (rw [ht]; exact hP) | (show va_P (dC, dI) vwCl (wR 157 ad (EX cs ad) mu) t.heap; rw [ht]; exact hP)⟩, hS.F ht⟩) hS.2.2 dX2_undoLast_7
