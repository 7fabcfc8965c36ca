set_option maxHeartbeats 4000000 in
set_option maxRecDepth 100000 in
/-- sx_undoLast -/
theorem sx_undoLast (l : Launch) (dC : Nat → ClassId) (dI : Nat → Nat → Nat) (cs : Nat → ClassId) (ad : Nat → Nat) (mu : Nat → Nat → Int32) (ok : okR loX hiX mu) (H : Heap) (hP : va_P (dC, dI) vwCl (wR 157 ad (EX cs ad) mu) H) (hD0 : va_D (fun _ => True) (wR 157 ad (EX cs ad) mu)) : Met l yX2_undoLast (wU yX2_undoLast cX2_undoLast 4 none) ({ frames := 1, cells := 0, slots := 0, locals := 60 }) (va_Pc [.ref (ad 6), .ref (ad 4)] (sz_P (dC, dI) vwCl (tyW cs) H)) (va_Qv (fun (xi : Nat → Nat → Int32) => okR loX hiX xi ∧ (True) ∧ True) (fun xi t => va_P (dC, dI) vwCl (wR 157 ad (EX cs ad) xi) t.heap) (va_A (wR 157 ad (EX cs ad) mu) H.size)) 0 0 (va_A (wR 157 ad (EX cs ad) mu) H.size) := by
  refine Met.ofW (cc := cX2_undoLast) (maxL := 4) (ret := none) (by decide) rfl ?_
  intro p e s m args below meth c s₁ B hml hv
  obtain ⟨rfl, hh, hK, hz⟩ := hv
  have hx := B.exec
  have hb := B.bytes
  have hr := B.returns
  have hts := atoms_spec (ws := (wU yX2_undoLast cX2_undoLast 4 none)) B.pre
  have hown : s.vm.findClass RX2 = some m.cls := findClass_of_methodNamed B.named
  have hlocks := B.notSynchronized
  subst hh
  have hD := hD0.self (sz := s.heap.size)
  have hA : ∀ q : Nat, s.heap.size ≤ q → (va_A (wR 157 ad (EX cs ad) mu) s.heap.size) q := fun q h => Or.inr h
  have hS : va_S (va_A (wR 157 ad (EX cs ad) mu) s.heap.size) s.heap s.heap [] := va_S.rf
  have hl := lv_entry ([.ref (ad 6), .ref (ad 4)]) (n := 4) (Nat.le_of_ble_eq_true rfl)
  rw [lg_entry_eq]
  generalize (lg_sl ([.ref (ad 6), .ref (ad 4)]) ++ List.replicate (4 - (lg_sl ([.ref (ad 6), .ref (ad 4)])).length) Slot.unset).toArray = ls at hl ⊢
  have hl : lv_has ls 4 [(0, .ref (ad 6)), (1, .ref (ad 4))] := hl
  refine lv_aload_n hx hb dX2_undoLast_0 rfl (lv_at hl 0 rfl) ?_
  refine va_get (D := (dC, dI)) (ci := 2) (v := .int (mu 6 1)) (C := RX2) (T := TX2) (N := 2) hx hb hts inG2 hown hK hP 6 (gX_6 cs ad mu) rfl 1 (by decide) (hts _ (List.mem_cons_of_mem _ mw_2_7)) (fun _ h9 => h9) rfl dX2_undoLast_1 ?_
  refine lv_topi (fun y1 ey1 => ?_)
  have by1 : y1.toInt = (mu 6 1).toInt := congrArg Int32.toInt ey1
  have gy1 : 0 ≤ y1.toInt ∧ y1.toInt ≤ 40 := by rw [ey1]; exact rX_6_1 ok
  refine lv_if_gt (tgt := 8) hx hb dX2_undoLast_4 (by decide) (fun c_2 => ?_) (fun c_2 => ?_)
  · have c_2 : 0 < y1.toInt := il_lt c_2
    refine lv_aload_n hx hb dX2_undoLast_8 rfl (lv_at hl 0 rfl) ?_
    refine lv_dup hx hb dX2_undoLast_9 rfl ?_
    refine va_get (D := (dC, dI)) (ci := 2) (v := .int (mu 6 1)) (C := RX2) (T := TX2) (N := 2) hx hb hts inG2 hown hK hP 6 (gX_6 cs ad mu) rfl 1 (by decide) (hts _ (List.mem_cons_of_mem _ mw_2_7)) (fun _ h9 => h9) rfl dX2_undoLast_10 ?_
    refine lq_i y1 ey1.symm ?_
    refine lv_iconst (v := 1) hx hb dX2_undoLast_13 (by decide) ?_
    refine lv_isub hx hb dX2_undoLast_14 ?_
    refine lv_topi (fun t3 et3 => ?_)
    have at3 : t3.toInt = y1.toInt - 1 := by rw [et3]; exact tI_sub (rfl : y1.toInt = _) (rfl : (1 : Int32).toInt = 1) (by omega) (by omega)
    refine va_put (D := (dC, dI)) (ci := 2) (v := .int t3) (ty := .int) (C := RX2) (T := TX2) (N := 2) hx hb hts inG2 tyX2 tyX2_ok nmX2 hown hK hP (wR_D mu hD) hS 6 (gX_6 cs ad mu) rfl 1 (by decide) (hts _ (List.mem_cons_of_mem _ mw_2_7)) (fun _ h9 => h9) rfl (by decide +kernel) rfl rfl (Nat.le_of_ble_eq_true rfl) dX2_undoLast_15 (fun H locs hP _ hS => ?_)
    simp only [List.set_cons_succ, List.set_cons_zero] at hP
    refine wr_gen (upd (mu 6) 1 t3) hP ((hX_6_1 cs ad _ _)) (fun nu4 hn4 hP => ?_)
    have ok := tX_6_1 ok hn4 (by exact ⟨by omega, by omega⟩)
    have ez5 : t3 = nu4 6 1 := up_v hn4
    refine lv_aload_n hx hb dX2_undoLast_18 rfl (lv_at hl 0 rfl) ?_
    refine va_get (D := (dC, dI)) (ci := 2) (v := .ref (ad 39)) (C := RX2) (T := TX2) (N := 2) hx hb hts inG2 hown hK hP 6 (gX_6 cs ad nu4) rfl 0 (by decide) (hts _ (List.mem_cons_of_mem _ mw_2_6)) (fun _ h9 => h9) rfl dX2_undoLast_19 ?_
    refine lv_aload_n hx hb dX2_undoLast_22 rfl (lv_at hl 0 rfl) ?_
    refine va_get (D := (dC, dI)) (ci := 2) (v := .int (nu4 6 1)) (C := RX2) (T := TX2) (N := 2) hx hb hts inG2 hown hK hP 6 (gX_6 cs ad nu4) rfl 1 (by decide) (hts _ (List.mem_cons_of_mem _ mw_2_7)) (fun _ h9 => h9) rfl dX2_undoLast_23 ?_
    refine lq_i t3 ez5.symm ?_
    have hx6 : 0 ≤ t3.toInt ∧ t3.toInt < ((40 : Nat) : Int) := ⟨by omega, by omega⟩
    refine va_aldq hx hb hK hP 39 6 (gX_39 cs ad nu4) rfl (show vp_in t3 40 from vi_of hx6.1 hx6.2) dX2_undoLast_26 ?_
    have hk6 : 77 ≤ (77 + t3.toNatClampNeg) ∧ (77 + t3.toNatClampNeg) < 117 := ix_of hx6
    refine lq_v (.ref (ad (77 + t3.toNatClampNeg))) rfl ?_
    refine lv_astore_n (lv' := [(2, .ref (ad (77 + t3.toNatClampNeg))), (0, .ref (ad 6)), (1, .ref (ad 4))]) hx hb dX2_undoLast_27 rfl hl (by decide) rfl (fun ls hl => ?_)
    refine lv_aload_n hx hb dX2_undoLast_28 rfl (lv_at hl 2 rfl) ?_
    refine va_get (D := (dC, dI)) (ci := 10) (v := .ref (ad 5)) (C := RX10) (T := TX10) (N := 8) hx hb hts inG10 hown hK hP 4 (gX_4 cs ad nu4) rfl 3 (by decide) (hts _ (List.mem_cons_of_mem _ mw_1_154)) (fun _ h9 => h9) rfl dX2_undoLast_29 ?_
    refine va_get (D := (dC, dI)) (ci := 8) (v := .ref (ad 47)) (C := RX8) (T := TX8) (N := 6) hx hb hts inG8 hown hK hP 5 (gX_5 cs ad nu4) rfl 1 (by decide) (hts _ (List.mem_cons_of_mem _ mw_1_110)) (fun _ h9 => h9) rfl dX2_undoLast_32 ?_
    refine lv_aload_n hx hb dX2_undoLast_35 rfl (lv_at hl 0 rfl) ?_
    refine va_get (D := (dC, dI)) (ci := 7) (v := .int (nu4 (77 + t3.toNatClampNeg) 1)) (C := RX7) (T := TX7) (N := 7) hx hb hts inG7 hown hK hP (77 + t3.toNatClampNeg) (gX_sale cs ad nu4 (77 + t3.toNatClampNeg) hk6.1 hk6.2) rfl 1 (by decide) (hts _ (List.mem_cons_of_mem _ mw_1_225)) (fun _ h9 => h9) rfl dX2_undoLast_36 ?_
    refine lv_topi (fun y7 ey7 => ?_)
    have by7 : y7.toInt = (nu4 (77 + t3.toNatClampNeg) 1).toInt := congrArg Int32.toInt ey7
    have gy7 : 0 ≤ y7.toInt ∧ y7.toInt ≤ 3 := by rw [ey7]; exact rX_sale_1 ok (77 + t3.toNatClampNeg) hk6.1 hk6.2
    have hx8 : 0 ≤ y7.toInt ∧ y7.toInt < ((4 : Nat) : Int) := ⟨by omega, by omega⟩
    refine va_aldq hx hb hK hP 47 5 (gX_47 cs ad nu4) rfl (show vp_in y7 4 from vi_of hx8.1 hx8.2) dX2_undoLast_39 ?_
    have hk8 : 61 ≤ (61 + y7.toNatClampNeg) ∧ (61 + y7.toNatClampNeg) < 65 := ix_of hx8
    have hk8 : 61 ≤ (61 + y7.toNatClampNeg) ∧ (61 + y7.toNatClampNeg) < 77 := ⟨Nat.le_trans (by decide) hk8.1, Nat.lt_of_lt_of_le hk8.2 (by decide)⟩
    refine lq_v (.ref (ad (61 + y7.toNatClampNeg))) rfl ?_
    refine lv_astore_n (lv' := [(3, .ref (ad (61 + y7.toNatClampNeg))), (2, .ref (ad (77 + t3.toNatClampNeg))), (0, .ref (ad 6)), (1, .ref (ad 4))]) hx hb dX2_undoLast_40 rfl hl (by decide) rfl (fun ls hl => ?_)
    refine lv_aload_n hx hb dX2_undoLast_41 rfl (lv_at hl 0 rfl) ?_
    refine lv_aload_n hx hb dX2_undoLast_42 rfl (lv_at hl 1 rfl) ?_
    refine va_get (D := (dC, dI)) (ci := 7) (v := .int (nu4 (77 + t3.toNatClampNeg) 2)) (C := RX7) (T := TX7) (N := 7) hx hb hts inG7 hown hK hP (77 + t3.toNatClampNeg) (gX_sale cs ad nu4 (77 + t3.toNatClampNeg) hk6.1 hk6.2) rfl 2 (by decide) (hts _ (List.mem_cons_of_mem _ mw_1_226)) (fun _ h9 => h9) rfl dX2_undoLast_43 ?_
    refine lv_topi (fun y9 ey9 => ?_)
    have by9 : y9.toInt = (nu4 (77 + t3.toNatClampNeg) 2).toInt := congrArg Int32.toInt ey9
    have gy9 : 0 ≤ y9.toInt ∧ y9.toInt ≤ 6 := by rw [ey9]; exact rX_sale_2 ok (77 + t3.toNatClampNeg) hk6.1 hk6.2
    refine va_put (D := (dC, dI)) (ci := 3) (v := .int y9) (ty := .int) (C := RX3) (T := TX3) (N := 10) hx hb hts inG3 tyX3 tyX3_ok nmX3 hown hK hP (wR_D nu4 hD) hS (61 + y7.toNatClampNeg) (gX_letter cs ad nu4 (61 + y7.toNatClampNeg) hk8.1 hk8.2) rfl 5 (by decide) (hts _ (List.mem_cons_of_mem _ mw_1_63)) (fun _ h9 => h9) rfl (by decide +kernel) rfl rfl (Nat.le_of_ble_eq_true rfl) dX2_undoLast_46 (fun H locs hP _ hS => ?_)
    simp only [List.set_cons_succ, List.set_cons_zero] at hP
    refine wr_gen (upd (nu4 (61 + y7.toNatClampNeg)) 5 y9) hP ((hX_letter_5 cs ad _ _ (61 + y7.toNatClampNeg) hk8.1 hk8.2)) (fun nu10 hn10 hP => ?_)
    have ok := tX_letter_5 ok (61 + y7.toNatClampNeg) hk8.1 hk8.2 hn10 (by exact ⟨by omega, by omega⟩)
    have ez11 : t3 = nu10 6 1 := ez5.trans (congrFun (up_k hn10 (ne_lo (by decide) hk8.1)) 1).symm
    have ez12 : y7 = nu10 (77 + t3.toNatClampNeg) 1 := ey7.trans (congrFun (up_k hn10 (ne_gg hk6.1 (by decide) hk8.2)) 1).symm
    have ez13 : y9 = nu10 (77 + t3.toNatClampNeg) 2 := ey9.trans (congrFun (up_k hn10 (ne_gg hk6.1 (by decide) hk8.2)) 2).symm
    have ez14 : y9 = nu10 (61 + y7.toNatClampNeg) 5 := up_v hn10
    refine lv_aload_n hx hb dX2_undoLast_49 rfl (lv_at hl 0 rfl) ?_
    refine lv_aload_n hx hb dX2_undoLast_50 rfl (lv_at hl 1 rfl) ?_
    refine va_get (D := (dC, dI)) (ci := 7) (v := .int (nu10 (77 + t3.toNatClampNeg) 5)) (C := RX7) (T := TX7) (N := 7) hx hb hts inG7 hown hK hP (77 + t3.toNatClampNeg) (gX_sale cs ad nu10 (77 + t3.toNatClampNeg) hk6.1 hk6.2) rfl 5 (by decide) (hts _ (List.mem_cons_of_mem _ mw_1_229)) (fun _ h9 => h9) rfl dX2_undoLast_51 ?_
    refine lv_topi (fun y15 ey15 => ?_)
    have by15 : y15.toInt = (nu10 (77 + t3.toNatClampNeg) 5).toInt := congrArg Int32.toInt ey15
    refine va_put (D := (dC, dI)) (ci := 3) (v := .int y15) (ty := .int) (C := RX3) (T := TX3) (N := 10) hx hb hts inG3 tyX3 tyX3_ok nmX3 hown hK hP (wR_D nu10 hD) hS (61 + y7.toNatClampNeg) (gX_letter cs ad nu10 (61 + y7.toNatClampNeg) hk8.1 hk8.2) rfl 6 (by decide) (hts _ (List.mem_cons_of_mem _ mw_1_68)) (fun _ h9 => h9) rfl (by decide +kernel) rfl rfl (Nat.le_of_ble_eq_true rfl) dX2_undoLast_54 (fun H locs hP _ hS => ?_)
    simp only [List.set_cons_succ, List.set_cons_zero] at hP
    refine wr_gen (upd (nu10 (61 + y7.toNatClampNeg)) 6 y15) hP ((hX_letter_6 cs ad _ _ (61 + y7.toNatClampNeg) hk8.1 hk8.2)) (fun nu16 hn16 hP => ?_)
    have ok := tX_letter_6 ok (61 + y7.toNatClampNeg) hk8.1 hk8.2 hn16
    have ez17 : t3 = nu16 6 1 := ez11.trans (congrFun (up_k hn16 (ne_lo (by decide) hk8.1)) 1).symm
    have ez18 : y7 = nu16 (77 + t3.toNatClampNeg) 1 := ez12.trans (congrFun (up_k hn16 (ne_gg hk6.1 (by decide) hk8.2)) 1).symm
    have ez19 : y9 = nu16 (77 + t3.toNatClampNeg) 2 := ez13.trans (congrFun (up_k hn16 (ne_gg hk6.1 (by decide) hk8.2)) 2).symm
    have ez20 : y9 = nu16 (61 + y7.toNatClampNeg) 5 := ez14.trans (up_f hn16 (by decide)).symm
    have ez21 : y15 = nu16 (77 + t3.toNatClampNeg) 5 := ey15.trans (congrFun (up_k hn16 (ne_gg hk6.1 (by decide) hk8.2)) 5).symm
    have ez22 : y15 = nu16 (61 + y7.toNatClampNeg) 6 := up_v hn16
    refine lv_aload_n hx hb dX2_undoLast_57 rfl (lv_at hl 0 rfl) ?_
    refine lv_aload_n hx hb dX2_undoLast_58 rfl (lv_at hl 1 rfl) ?_
    refine va_get (D := (dC, dI)) (ci := 7) (v := .int (nu16 (77 + t3.toNatClampNeg) 6)) (C := RX7) (T := TX7) (N := 7) hx hb hts inG7 hown hK hP (77 + t3.toNatClampNeg) (gX_sale cs ad nu16 (77 + t3.toNatClampNeg) hk6.1 hk6.2) rfl 6 (by decide) (hts _ (List.mem_cons_of_mem _ mw_1_230)) (fun _ h9 => h9) rfl dX2_undoLast_59 ?_
    refine lv_topi (fun y23 ey23 => ?_)
    have by23 : y23.toInt = (nu16 (77 + t3.toNatClampNeg) 6).toInt := congrArg Int32.toInt ey23
    refine va_put (D := (dC, dI)) (ci := 3) (v := .int y23) (ty := .int) (C := RX3) (T := TX3) (N := 10) hx hb hts inG3 tyX3 tyX3_ok nmX3 hown hK hP (wR_D nu16 hD) hS (61 + y7.toNatClampNeg) (gX_letter cs ad nu16 (61 + y7.toNatClampNeg) hk8.1 hk8.2) rfl 7 (by decide) (hts _ (List.mem_cons_of_mem _ mw_1_73)) (fun _ h9 => h9) rfl (by decide +kernel) rfl rfl (Nat.le_of_ble_eq_true rfl) dX2_undoLast_62 (fun H locs hP _ hS => ?_)
    simp only [List.set_cons_succ, List.set_cons_zero] at hP
    refine wr_gen (upd (nu16 (61 + y7.toNatClampNeg)) 7 y23) hP ((hX_letter_7 cs ad _ _ (61 + y7.toNatClampNeg) hk8.1 hk8.2)) (fun nu24 hn24 hP => ?_)
    have ok := tX_letter_7 ok (61 + y7.toNatClampNeg) hk8.1 hk8.2 hn24
    have ez25 : t3 = nu24 6 1 := ez17.trans (congrFun (up_k hn24 (ne_lo (by decide) hk8.1)) 1).symm
    have ez26 : y7 = nu24 (77 + t3.toNatClampNeg) 1 := ez18.trans (congrFun (up_k hn24 (ne_gg hk6.1 (by decide) hk8.2)) 1).symm
    have ez27 : y9 = nu24 (77 + t3.toNatClampNeg) 2 := ez19.trans (congrFun (up_k hn24 (ne_gg hk6.1 (by decide) hk8.2)) 2).symm
    have ez28 : y9 = nu24 (61 + y7.toNatClampNeg) 5 := ez20.trans (up_f hn24 (by decide)).symm
    have ez29 : y15 = nu24 (77 + t3.toNatClampNeg) 5 := ez21.trans (congrFun (up_k hn24 (ne_gg hk6.1 (by decide) hk8.2)) 5).symm
    have ez30 : y15 = nu24 (61 + y7.toNatClampNeg) 6 := ez22.trans (up_f hn24 (by decide)).symm
    have ez31 : y23 = nu24 (77 + t3.toNatClampNeg) 6 := ey23.trans (congrFun (up_k hn24 (ne_gg hk6.1 (by decide) hk8.2)) 6).symm
    have ez32 : y23 = nu24 (61 + y7.toNatClampNeg) 7 := up_v hn24
    refine lv_aload_n hx hb dX2_undoLast_65 rfl (lv_at hl 0 rfl) ?_
    refine lv_dup hx hb dX2_undoLast_66 rfl ?_
    refine va_get (D := (dC, dI)) (ci := 3) (v := .int (nu24 (61 + y7.toNatClampNeg) 8)) (C := RX3) (T := TX3) (N := 10) hx hb hts inG3 hown hK hP (61 + y7.toNatClampNeg) (gX_letter cs ad nu24 (61 + y7.toNatClampNeg) hk8.1 hk8.2) rfl 8 (by decide) (hts _ (List.mem_cons_of_mem _ mw_1_76)) (fun _ h9 => h9) rfl dX2_undoLast_67 ?_
    refine lv_topi (fun y33 ey33 => ?_)
    have by33 : y33.toInt = (nu24 (61 + y7.toNatClampNeg) 8).toInt := congrArg Int32.toInt ey33
    refine lv_iconst (v := 1) hx hb dX2_undoLast_70 (by decide) ?_
    refine lv_isub hx hb dX2_undoLast_71 ?_
    refine lv_topi (fun t34 et34 => ?_)
    refine va_put (D := (dC, dI)) (ci := 3) (v := .int t34) (ty := .int) (C := RX3) (T := TX3) (N := 10) hx hb hts inG3 tyX3 tyX3_ok nmX3 hown hK hP (wR_D nu24 hD) hS (61 + y7.toNatClampNeg) (gX_letter cs ad nu24 (61 + y7.toNatClampNeg) hk8.1 hk8.2) rfl 8 (by decide) (hts _ (List.mem_cons_of_mem _ mw_1_76)) (fun _ h9 => h9) rfl (by decide +kernel) rfl rfl (Nat.le_of_ble_eq_true rfl) dX2_undoLast_72 (fun H locs hP _ hS => ?_)
    simp only [List.set_cons_succ, List.set_cons_zero] at hP
    refine wr_gen (upd (nu24 (61 + y7.toNatClampNeg)) 8 t34) hP ((hX_letter_8 cs ad _ _ (61 + y7.toNatClampNeg) hk8.1 hk8.2)) (fun nu35 hn35 hP => ?_)
    have ok := tX_letter_8 ok (61 + y7.toNatClampNeg) hk8.1 hk8.2 hn35
    have ez36 : t3 = nu35 6 1 := ez25.trans (congrFun (up_k hn35 (ne_lo (by decide) hk8.1)) 1).symm
    have ez37 : y7 = nu35 (77 + t3.toNatClampNeg) 1 := ez26.trans (congrFun (up_k hn35 (ne_gg hk6.1 (by decide) hk8.2)) 1).symm
    have ez38 : y9 = nu35 (77 + t3.toNatClampNeg) 2 := ez27.trans (congrFun (up_k hn35 (ne_gg hk6.1 (by decide) hk8.2)) 2).symm
    have ez39 : y9 = nu35 (61 + y7.toNatClampNeg) 5 := ez28.trans (up_f hn35 (by decide)).symm
    have ez40 : y15 = nu35 (77 + t3.toNatClampNeg) 5 := ez29.trans (congrFun (up_k hn35 (ne_gg hk6.1 (by decide) hk8.2)) 5).symm
    have ez41 : y15 = nu35 (61 + y7.toNatClampNeg) 6 := ez30.trans (up_f hn35 (by decide)).symm
    have ez42 : y23 = nu35 (77 + t3.toNatClampNeg) 6 := ez31.trans (congrFun (up_k hn35 (ne_gg hk6.1 (by decide) hk8.2)) 6).symm
    have ez43 : y23 = nu35 (61 + y7.toNatClampNeg) 7 := ez32.trans (up_f hn35 (by decide)).symm
    have ez44 : t34 = nu35 (61 + y7.toNatClampNeg) 8 := up_v hn35
    refine lv_aload_n hx hb dX2_undoLast_75 rfl (lv_at hl 0 rfl) ?_
    refine lv_iconst (v := 0) hx hb dX2_undoLast_76 (by decide) ?_
    refine va_put (D := (dC, dI)) (ci := 3) (v := .int 0) (ty := .boolean) (C := RX3) (T := TX3) (N := 10) hx hb hts inG3 tyX3 tyX3_ok nmX3 hown hK hP (wR_D nu35 hD) hS (61 + y7.toNatClampNeg) (gX_letter cs ad nu35 (61 + y7.toNatClampNeg) hk8.1 hk8.2) rfl 9 (by decide) (hts _ (List.mem_cons_of_mem _ mw_1_78)) (fun _ h9 => h9) rfl (by decide +kernel) (by first | rfl | decide) (by first | rfl | decide) (Nat.le_of_ble_eq_true rfl) dX2_undoLast_77 (fun H locs hP _ hS => ?_)
    simp only [List.set_cons_succ, List.set_cons_zero] at hP
    refine wr_gen (upd (nu35 (61 + y7.toNatClampNeg)) 9 0) hP ((hX_letter_9 cs ad _ _ (61 + y7.toNatClampNeg) hk8.1 hk8.2)) (fun nu45 hn45 hP => ?_)
    have ok := tX_letter_9 ok (61 + y7.toNatClampNeg) hk8.1 hk8.2 hn45 (by have h9 : (0 : Int32).toInt = 0 := rfl; exact ⟨by omega, by omega⟩)
    have ez46 : t3 = nu45 6 1 := ez36.trans (congrFun (up_k hn45 (ne_lo (by decide) hk8.1)) 1).symm
    have ez47 : y7 = nu45 (77 + t3.toNatClampNeg) 1 := ez37.trans (congrFun (up_k hn45 (ne_gg hk6.1 (by decide) hk8.2)) 1).symm
    have ez48 : y9 = nu45 (77 + t3.toNatClampNeg) 2 := ez38.trans (congrFun (up_k hn45 (ne_gg hk6.1 (by decide) hk8.2)) 2).symm
    have ez49 : y9 = nu45 (61 + y7.toNatClampNeg) 5 := ez39.trans (up_f hn45 (by decide)).symm
    have ez50 : y15 = nu45 (77 + t3.toNatClampNeg) 5 := ez40.trans (congrFun (up_k hn45 (ne_gg hk6.1 (by decide) hk8.2)) 5).symm
    have ez51 : y15 = nu45 (61 + y7.toNatClampNeg) 6 := ez41.trans (up_f hn45 (by decide)).symm
    have ez52 : y23 = nu45 (77 + t3.toNatClampNeg) 6 := ez42.trans (congrFun (up_k hn45 (ne_gg hk6.1 (by decide) hk8.2)) 6).symm
    have ez53 : y23 = nu45 (61 + y7.toNatClampNeg) 7 := ez43.trans (up_f hn45 (by decide)).symm
    have ez54 : t34 = nu45 (61 + y7.toNatClampNeg) 8 := ez44.trans (up_f hn45 (by decide)).symm
    have ez55 : 0 = nu45 (61 + y7.toNatClampNeg) 9 := up_v hn45
    refine lv_aload_n hx hb dX2_undoLast_80 rfl (lv_at hl 1 rfl) ?_
    have hk56 : 117 ≤ (77 + t3.toNatClampNeg) + 40 ∧ (77 + t3.toNatClampNeg) + 40 < 157 := add_in 40 hk6.1 hk6.2
    refine va_get (D := (dC, dI)) (ci := 7) (v := .ref (ad ((77 + t3.toNatClampNeg) + 40))) (C := RX7) (T := TX7) (N := 7) hx hb hts inG7 hown hK hP (77 + t3.toNatClampNeg) (gX_sale cs ad nu45 (77 + t3.toNatClampNeg) hk6.1 hk6.2) rfl 0 (by decide) (hts _ (List.mem_cons_of_mem _ mw_1_224)) (fun _ h9 => h9) rfl dX2_undoLast_81 ?_
    refine lv_iconst (v := 0) hx hb dX2_undoLast_84 (by decide) ?_
    refine lv_aload_n hx hb dX2_undoLast_85 rfl (lv_at hl 3 rfl) ?_
    refine va_get (D := (dC, dI)) (ci := 10) (v := .ref (ad 5)) (C := RX10) (T := TX10) (N := 8) hx hb hts inG10 hown hK hP 4 (gX_4 cs ad nu45) rfl 3 (by decide) (hts _ (List.mem_cons_of_mem _ mw_1_154)) (fun _ h9 => h9) rfl dX2_undoLast_86 ?_
    refine va_get (D := (dC, dI)) (ci := 8) (v := .ref (ad 46)) (C := RX8) (T := TX8) (N := 6) hx hb hts inG8 hown hK hP 5 (gX_5 cs ad nu45) rfl 0 (by decide) (hts _ (List.mem_cons_of_mem _ mw_1_105)) (fun _ h9 => h9) rfl dX2_undoLast_89 ?_
    refine lv_iconst (v := 0) hx hb dX2_undoLast_92 (by decide) ?_
    refine lv_bipush (v := 7) hx hb dX2_undoLast_93 (by decide) ?_
    refine va_copyi hx hb (hml.trans hl.1.symm) hown (hts _ (List.mem_cons_of_mem _ mw_3_184)) (hts _ (List.mem_cons_of_mem _ mw_3_4)) (hts _ (List.mem_cons_of_mem _ mw_3_3)) (hts _ (List.mem_cons_of_mem _ mw_1_15)) hK hP (wR_D nu45 hD) hS ((77 + t3.toNatClampNeg) + 40) 46 0 0 (gX_spurses cs ad nu45 ((77 + t3.toNatClampNeg) + 40) hk56.1 hk56.2) (gX_46 cs ad nu45) rfl rfl rfl (by decide) (by decide) (by decide) (by have ua : ((0 : Int32).toNatClampNeg : Int) = 0 := rfl; have ub : ((0 : Int32).toNatClampNeg : Int) = 0 := rfl; have uc : ((7 : Int32).toNatClampNeg : Int) = 7 := rfl; omega) (by have ua : ((0 : Int32).toNatClampNeg : Int) = 0 := rfl; have ub : ((0 : Int32).toNatClampNeg : Int) = 0 := rfl; have uc : ((7 : Int32).toNatClampNeg : Int) = 7 := rfl; omega) (fun _ _ => rfl) (Nat.le_of_ble_eq_true rfl) (Nat.le_of_ble_eq_true rfl) dX2_undoLast_95 (fun H locs hP _ hS => ?_)
    refine wr_gen (va_cpy (nu45 ((77 + t3.toNatClampNeg) + 40)) (nu45 46) (0 : Int32).toNatClampNeg (0 : Int32).toNatClampNeg (7 : Int32).toNatClampNeg) hP (rfl) (fun nu57 hn57 hP => ?_)
    have ok := okR_cp ok hn57 (cX_spurses_46 ((77 + t3.toNatClampNeg) + 40) hk56.1 hk56.2 )
    have ez58 : t3 = nu57 6 1 := ez46.trans (congrFun (up_k hn57 (by decide)) 1).symm
    have ez59 : y7 = nu57 (77 + t3.toNatClampNeg) 1 := ez47.trans (congrFun (up_k hn57 (ne_lo (by decide) hk6.1).symm) 1).symm
    have ez60 : y9 = nu57 (77 + t3.toNatClampNeg) 2 := ez48.trans (congrFun (up_k hn57 (ne_lo (by decide) hk6.1).symm) 2).symm
    have ez61 : y9 = nu57 (61 + y7.toNatClampNeg) 5 := ez49.trans (congrFun (up_k hn57 (ne_lo (by decide) hk8.1).symm) 5).symm
    have ez62 : y15 = nu57 (77 + t3.toNatClampNeg) 5 := ez50.trans (congrFun (up_k hn57 (ne_lo (by decide) hk6.1).symm) 5).symm
    have ez63 : y15 = nu57 (61 + y7.toNatClampNeg) 6 := ez51.trans (congrFun (up_k hn57 (ne_lo (by decide) hk8.1).symm) 6).symm
    have ez64 : y23 = nu57 (77 + t3.toNatClampNeg) 6 := ez52.trans (congrFun (up_k hn57 (ne_lo (by decide) hk6.1).symm) 6).symm
    have ez65 : y23 = nu57 (61 + y7.toNatClampNeg) 7 := ez53.trans (congrFun (up_k hn57 (ne_lo (by decide) hk8.1).symm) 7).symm
    have ez66 : t34 = nu57 (61 + y7.toNatClampNeg) 8 := ez54.trans (congrFun (up_k hn57 (ne_lo (by decide) hk8.1).symm) 8).symm
    have ez67 : 0 = nu57 (61 + y7.toNatClampNeg) 9 := ez55.trans (congrFun (up_k hn57 (ne_lo (by decide) hk8.1).symm) 9).symm
    exact W.vret hx hb hr (fun t ht hW => ⟨⟨nu57, rfl, ⟨ok, trivial, trivial⟩, by first | (subst ht; exact hP) | (rw [ht]; exact hP) | (show va_P (dC, dI) vwCl (wR 157 ad (EX cs ad) nu57) t.heap; rw [ht]; exact hP)⟩, hS.F ht⟩) hS.2.2 dX2_undoLast_98
  · have c_2 : y1.toInt ≤ 0 := il_nlt c_2
    exact W.vret hx hb hr (fun t ht hW => ⟨⟨mu, rfl, ⟨ok, trivial, trivial⟩, by first | (subst ht; exact hP) | (rw [ht]; exact hP) | (show va_P (dC, dI) vwCl (wR 157 ad (EX cs ad) mu) t.heap; rw [ht]; exact hP)⟩, hS.F ht⟩) hS.2.2 dX2_undoLast_7
