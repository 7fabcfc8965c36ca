set_option maxHeartbeats 4000000 in
set_option maxRecDepth 100000 in
/-- sx_enterSale -/
theorem sx_enterSale (l : Launch) (dC : Nat → ClassId) (dI : Nat → Nat → Nat) (cs : Nat → ClassId) (ad : Nat → Nat) (mu : Nat → Nat → Int32) (ok : okR loX hiX mu) (H : Heap) (hP : va_P (dC, dI) vwCl (wR 157 ad (EX cs ad) mu) H) (hD0 : va_D (fun _ => True) (wR 157 ad (EX cs ad) mu)) (vk : Int32) (vx : Int32) (hin0 : 0 ≤ vk.toInt ∧ vk.toInt ≤ 3 ∧ 0 ≤ vx.toInt ∧ vx.toInt ≤ 6) (hin1 : (mu 6 1).toInt ≤ 39) : Met l yX2_enterSale (wU yX2_enterSale cX2_enterSale 7 (some .int)) ({ frames := 2, cells := 0, slots := 0, locals := 60 }) (va_Pc [.ref (ad 6), .ref (ad 4), .int vk, .int vx] (sz_P (dC, dI) vwCl (tyW cs) H)) (va_Qi (fun (z : Int32) (xi : Nat → Nat → Int32) => okR loX hiX xi ∧ (True) ∧ True) (fun xi t => va_P (dC, dI) vwCl (wR 157 ad (EX cs ad) xi) t.heap) (va_A (wR 157 ad (EX cs ad) mu) H.size)) 0 0 (va_A (wR 157 ad (EX cs ad) mu) H.size) := by
  refine Met.ofW (cc := cX2_enterSale) (maxL := 7) (ret := (some .int)) (by decide) rfl ?_
  intro p e s m args below meth c s₁ B hml hv
  obtain ⟨rfl, hh, hK, hz⟩ := hv
  have hx := B.exec
  have hb := B.bytes
  have hr := B.returns
  have hts := atoms_spec (ws := (wU yX2_enterSale cX2_enterSale 7 (some .int))) B.pre
  have hown : s.vm.findClass RX2 = some m.cls := findClass_of_methodNamed B.named
  have hlocks := B.notSynchronized
  subst hh
  have hD := hD0.self (sz := s.heap.size)
  have hA : ∀ q : Nat, s.heap.size ≤ q → (va_A (wR 157 ad (EX cs ad) mu) s.heap.size) q := fun q h => Or.inr h
  have hS : va_S (va_A (wR 157 ad (EX cs ad) mu) s.heap.size) s.heap s.heap [] := va_S.rf
  have hl := lv_entry ([.ref (ad 6), .ref (ad 4), .int vk, .int vx]) (n := 7) (Nat.le_of_ble_eq_true rfl)
  rw [lg_entry_eq]
  generalize (lg_sl ([.ref (ad 6), .ref (ad 4), .int vk, .int vx]) ++ List.replicate (7 - (lg_sl ([.ref (ad 6), .ref (ad 4), .int vk, .int vx])).length) Slot.unset).toArray = ls at hl ⊢
  have hl : lv_has ls 7 [(0, .ref (ad 6)), (1, .ref (ad 4)), (2, .int vk), (3, .int vx)] := hl
  refine lv_aload_n hx hb dX2_enterSale_0 rfl (lv_at hl 1 rfl) ?_
  refine va_get (D := (dC, dI)) (ci := 10) (v := .ref (ad 5)) (C := RX10) (T := TX10) (N := 8) hx hb hts inG10 hown hK hP 4 (gX_4 cs ad mu) rfl 3 (by decide) (hts _ (List.mem_cons_of_mem _ mw_1_154)) (fun _ h9 => h9) rfl dX2_enterSale_1 ?_
  refine va_get (D := (dC, dI)) (ci := 8) (v := .ref (ad 47)) (C := RX8) (T := TX8) (N := 6) hx hb hts inG8 hown hK hP 5 (gX_5 cs ad mu) rfl 1 (by decide) (hts _ (List.mem_cons_of_mem _ mw_1_110)) (fun _ h9 => h9) rfl dX2_enterSale_4 ?_
  refine lv_iload_n hx hb dX2_enterSale_7 rfl (lv_at hl 2 rfl) ?_
  have hx1 : 0 ≤ vk.toInt ∧ vk.toInt < ((4 : Nat) : Int) := ⟨by omega, by omega⟩
  refine va_aldq hx hb hK hP 47 5 (gX_47 cs ad mu) rfl (show vp_in vk 4 from vi_of hx1.1 hx1.2) dX2_enterSale_8 ?_
  have hk1 : 61 ≤ (61 + vk.toNatClampNeg) ∧ (61 + vk.toNatClampNeg) < 65 := ix_of hx1
  have hk1 : 61 ≤ (61 + vk.toNatClampNeg) ∧ (61 + vk.toNatClampNeg) < 77 := ⟨Nat.le_trans (by decide) hk1.1, Nat.lt_of_lt_of_le hk1.2 (by decide)⟩
  refine lq_v (.ref (ad (61 + vk.toNatClampNeg))) rfl ?_
  refine lv_astore (lv' := [(4, .ref (ad (61 + vk.toNatClampNeg))), (0, .ref (ad 6)), (1, .ref (ad 4)), (2, .int vk), (3, .int vx)]) hx hb dX2_enterSale_9 hl (by decide) rfl (fun ls hl => ?_)
  refine lv_aload_n hx hb dX2_enterSale_11 rfl (lv_at hl 2 rfl) ?_
  refine lv_aload hx hb dX2_enterSale_12 (lv_at hl 0 rfl) ?_
  refine cr_i (va_runV (As := [.ref (ad (61 + vk.toNatClampNeg))]) (rest := []) ⟨hx, hb, hml, hown, hts⟩ (sx_priceOf l dC dI cs ad mu ok s.heap hP (61 + vk.toNatClampNeg) hk1.1 hk1.2) (cwV 1 hts (wU_V mw_3_165 mw_3_183 mw_3_163 mw_3_164 mw_1_2) rfl rfl rfl (by decide +kernel) ⟨Nat.le_of_ble_eq_true rfl, Nat.le_of_ble_eq_true rfl⟩) ⟨sz_c, va_recv hK hP (ci := 10) (q0 := 4) rfl (gX_4 cs ad mu), sz_m hK hz⟩ rfl rfl hl.1 rfl (lv_room (Nat.le_of_ble_eq_true rfl)) dX2_enterSale_14 ⟨Nat.zero_le _, Nat.zero_le _⟩) hS (fun r2 hw2 locs hS => ?_)
  refine lv_istore (lv' := [(5, .int r2), (4, .ref (ad (61 + vk.toNatClampNeg))), (0, .ref (ad 6)), (1, .ref (ad 4)), (2, .int vk), (3, .int vx)]) hx hb dX2_enterSale_17 hl (by decide) rfl (fun ls hl => ?_)
  refine lv_aload_n hx hb dX2_enterSale_19 rfl (lv_at hl 2 rfl) ?_
  refine va_get (D := (dC, dI)) (ci := 2) (v := .ref (ad 39)) (C := RX2) (T := TX2) (N := 2) hx hb hts inG2 hown hK hP 6 (gX_6 cs ad mu) rfl 0 (by decide) (hts _ (List.mem_cons_of_mem _ mw_2_6)) (fun _ h9 => h9) rfl dX2_enterSale_20 ?_
  refine lv_aload_n hx hb dX2_enterSale_23 rfl (lv_at hl 2 rfl) ?_
  refine va_get (D := (dC, dI)) (ci := 2) (v := .int (mu 6 1)) (C := RX2) (T := TX2) (N := 2) hx hb hts inG2 hown hK hP 6 (gX_6 cs ad mu) rfl 1 (by decide) (hts _ (List.mem_cons_of_mem _ mw_2_7)) (fun _ h9 => h9) rfl dX2_enterSale_24 ?_
  refine lv_topi (fun y3 ey3 => ?_)
  have by3 : y3.toInt = (mu 6 1).toInt := congrArg Int32.toInt ey3
  have gy3 : 0 ≤ y3.toInt ∧ y3.toInt ≤ 40 := by rw [ey3]; exact rX_6_1 ok
  have hx4 : 0 ≤ y3.toInt ∧ y3.toInt < ((40 : Nat) : Int) := ⟨by omega, by omega⟩
  refine va_aldq hx hb hK hP 39 6 (gX_39 cs ad mu) rfl (show vp_in y3 40 from vi_of hx4.1 hx4.2) dX2_enterSale_27 ?_
  have hk4 : 77 ≤ (77 + y3.toNatClampNeg) ∧ (77 + y3.toNatClampNeg) < 117 := ix_of hx4
  refine lq_v (.ref (ad (77 + y3.toNatClampNeg))) rfl ?_
  refine lv_astore (lv' := [(6, .ref (ad (77 + y3.toNatClampNeg))), (5, .int r2), (4, .ref (ad (61 + vk.toNatClampNeg))), (0, .ref (ad 6)), (1, .ref (ad 4)), (2, .int vk), (3, .int vx)]) hx hb dX2_enterSale_28 hl (by decide) rfl (fun ls hl => ?_)
  refine lv_aload_n hx hb dX2_enterSale_30 rfl (lv_at hl 4 rfl) ?_
  refine va_get (D := (dC, dI)) (ci := 10) (v := .ref (ad 5)) (C := RX10) (T := TX10) (N := 8) hx hb hts inG10 hown hK hP 4 (gX_4 cs ad mu) rfl 3 (by decide) (hts _ (List.mem_cons_of_mem _ mw_1_154)) (fun _ h9 => h9) rfl dX2_enterSale_31 ?_
  refine va_get (D := (dC, dI)) (ci := 8) (v := .ref (ad 46)) (C := RX8) (T := TX8) (N := 6) hx hb hts inG8 hown hK hP 5 (gX_5 cs ad mu) rfl 0 (by decide) (hts _ (List.mem_cons_of_mem _ mw_1_105)) (fun _ h9 => h9) rfl dX2_enterSale_34 ?_
  refine lv_iconst (v := 0) hx hb dX2_enterSale_37 (by decide) ?_
  refine lv_aload hx hb dX2_enterSale_38 (lv_at hl 0 rfl) ?_
  have hk5 : 117 ≤ (77 + y3.toNatClampNeg) + 40 ∧ (77 + y3.toNatClampNeg) + 40 < 157 := add_in 40 hk4.1 hk4.2
  refine va_get (D := (dC, dI)) (ci := 7) (v := .ref (ad ((77 + y3.toNatClampNeg) + 40))) (C := RX7) (T := TX7) (N := 7) hx hb hts inG7 hown hK hP (77 + y3.toNatClampNeg) (gX_sale cs ad mu (77 + y3.toNatClampNeg) hk4.1 hk4.2) rfl 0 (by decide) (hts _ (List.mem_cons_of_mem _ mw_1_224)) (fun _ h9 => h9) rfl dX2_enterSale_40 ?_
  refine lv_iconst (v := 0) hx hb dX2_enterSale_43 (by decide) ?_
  refine lv_bipush (v := 7) hx hb dX2_enterSale_44 (by decide) ?_
  refine va_copyi hx hb (hml.trans hl.1.symm) hown (hts _ (List.mem_cons_of_mem _ mw_3_184)) (hts _ (List.mem_cons_of_mem _ mw_3_4)) (hts _ (List.mem_cons_of_mem _ mw_3_3)) (hts _ (List.mem_cons_of_mem _ mw_1_15)) hK hP (wR_D mu hD) hS 46 ((77 + y3.toNatClampNeg) + 40) 0 0 (gX_46 cs ad mu) (gX_spurses cs ad mu ((77 + y3.toNatClampNeg) + 40) hk5.1 hk5.2) rfl rfl rfl (by decide) (by decide) (by decide) (by have ua : ((0 : Int32).toNatClampNeg : Int) = 0 := rfl; have ub : ((0 : Int32).toNatClampNeg : Int) = 0 := rfl; have uc : ((7 : Int32).toNatClampNeg : Int) = 7 := rfl; omega) (by have ua : ((0 : Int32).toNatClampNeg : Int) = 0 := rfl; have ub : ((0 : Int32).toNatClampNeg : Int) = 0 := rfl; have uc : ((7 : Int32).toNatClampNeg : Int) = 7 := rfl; omega) (fun _ _ => rfl) (Nat.le_of_ble_eq_true rfl) (Nat.le_of_ble_eq_true rfl) dX2_enterSale_46 (fun H locs hP _ hS => ?_)
  refine wr_gen (va_cpy (mu 46) (mu ((77 + y3.toNatClampNeg) + 40)) (0 : Int32).toNatClampNeg (0 : Int32).toNatClampNeg (7 : Int32).toNatClampNeg) hP ((by rw [EX_spurses cs ad _ _ hk5.1 hk5.2])) (fun nu6 hn6 hP => ?_)
  have ok := okR_cp ok hn6 (cX_46_spurses  ((77 + y3.toNatClampNeg) + 40) hk5.1 hk5.2)
  have ez7 : y3 = nu6 6 1 := ey3.trans (congrFun (up_k hn6 (ne_lo (by decide) hk5.1)) 1).symm
  refine lv_aload hx hb dX2_enterSale_49 (lv_at hl 0 rfl) ?_
  refine lv_iload_n hx hb dX2_enterSale_51 rfl (lv_at hl 5 rfl) ?_
  refine va_put (D := (dC, dI)) (ci := 7) (v := .int vk) (ty := .int) (C := RX7) (T := TX7) (N := 7) hx hb hts inG7 tyX7 tyX7_ok nmX7 hown hK hP (wR_D nu6 hD) hS (77 + y3.toNatClampNeg) (gX_sale cs ad nu6 (77 + y3.toNatClampNeg) hk4.1 hk4.2) rfl 1 (by decide) (hts _ (List.mem_cons_of_mem _ mw_1_225)) (fun _ h9 => h9) rfl (by decide +kernel) rfl rfl (Nat.le_of_ble_eq_true rfl) dX2_enterSale_52 (fun H locs hP _ hS => ?_)
  simp only [List.set_cons_succ, List.set_cons_zero] at hP
  refine wr_gen (upd (nu6 (77 + y3.toNatClampNeg)) 1 vk) hP ((hX_sale_1 cs ad _ _ (77 + y3.toNatClampNeg) hk4.1 hk4.2)) (fun nu8 hn8 hP => ?_)
  have ok := tX_sale_1 ok (77 + y3.toNatClampNeg) hk4.1 hk4.2 hn8 (by exact ⟨by omega, by omega⟩)
  have ez9 : y3 = nu8 6 1 := ez7.trans (congrFun (up_k hn8 (ne_lo (by decide) hk4.1)) 1).symm
  have ez10 : vk = nu8 (77 + y3.toNatClampNeg) 1 := up_v hn8
  refine lv_aload hx hb dX2_enterSale_55 (lv_at hl 0 rfl) ?_
  refine lv_aload hx hb dX2_enterSale_57 (lv_at hl 2 rfl) ?_
  refine va_get (D := (dC, dI)) (ci := 3) (v := .int (nu8 (61 + vk.toNatClampNeg) 5)) (C := RX3) (T := TX3) (N := 10) hx hb hts inG3 hown hK hP (61 + vk.toNatClampNeg) (gX_letter cs ad nu8 (61 + vk.toNatClampNeg) hk1.1 hk1.2) rfl 5 (by decide) (hts _ (List.mem_cons_of_mem _ mw_1_63)) (fun _ h9 => h9) rfl dX2_enterSale_59 ?_
  refine lv_topi (fun y11 ey11 => ?_)
  have by11 : y11.toInt = (nu8 (61 + vk.toNatClampNeg) 5).toInt := congrArg Int32.toInt ey11
  have gy11 : 0 ≤ y11.toInt ∧ y11.toInt ≤ 6 := by rw [ey11]; exact rX_letter_5 ok (61 + vk.toNatClampNeg) hk1.1 hk1.2
  refine va_put (D := (dC, dI)) (ci := 7) (v := .int y11) (ty := .int) (C := RX7) (T := TX7) (N := 7) hx hb hts inG7 tyX7 tyX7_ok nmX7 hown hK hP (wR_D nu8 hD) hS (77 + y3.toNatClampNeg) (gX_sale cs ad nu8 (77 + y3.toNatClampNeg) hk4.1 hk4.2) rfl 2 (by decide) (hts _ (List.mem_cons_of_mem _ mw_1_226)) (fun _ h9 => h9) rfl (by decide +kernel) rfl rfl (Nat.le_of_ble_eq_true rfl) dX2_enterSale_62 (fun H locs hP _ hS => ?_)
  simp only [List.set_cons_succ, List.set_cons_zero] at hP
  refine wr_gen (upd (nu8 (77 + y3.toNatClampNeg)) 2 y11) hP ((hX_sale_2 cs ad _ _ (77 + y3.toNatClampNeg) hk4.1 hk4.2)) (fun nu12 hn12 hP => ?_)
  have ok := tX_sale_2 ok (77 + y3.toNatClampNeg) hk4.1 hk4.2 hn12 (by exact ⟨by omega, by omega⟩)
  have ez13 : y3 = nu12 6 1 := ez9.trans (congrFun (up_k hn12 (ne_lo (by decide) hk4.1)) 1).symm
  have ez14 : vk = nu12 (77 + y3.toNatClampNeg) 1 := ez10.trans (up_f hn12 (by decide)).symm
  have ez15 : y11 = nu12 (61 + vk.toNatClampNeg) 5 := ey11.trans (congrFun (up_k hn12 (ne_ff hk1.2 (by decide) hk4.1)) 5).symm
  have ez16 : y11 = nu12 (77 + y3.toNatClampNeg) 2 := up_v hn12
  refine lv_aload hx hb dX2_enterSale_65 (lv_at hl 0 rfl) ?_
  refine lv_iload_n hx hb dX2_enterSale_67 rfl (lv_at hl 6 rfl) ?_
  refine va_put (D := (dC, dI)) (ci := 7) (v := .int vx) (ty := .int) (C := RX7) (T := TX7) (N := 7) hx hb hts inG7 tyX7 tyX7_ok nmX7 hown hK hP (wR_D nu12 hD) hS (77 + y3.toNatClampNeg) (gX_sale cs ad nu12 (77 + y3.toNatClampNeg) hk4.1 hk4.2) rfl 3 (by decide) (hts _ (List.mem_cons_of_mem _ mw_1_227)) (fun _ h9 => h9) rfl (by decide +kernel) rfl rfl (Nat.le_of_ble_eq_true rfl) dX2_enterSale_68 (fun H locs hP _ hS => ?_)
  simp only [List.set_cons_succ, List.set_cons_zero] at hP
  refine wr_gen (upd (nu12 (77 + y3.toNatClampNeg)) 3 vx) hP ((hX_sale_3 cs ad _ _ (77 + y3.toNatClampNeg) hk4.1 hk4.2)) (fun nu17 hn17 hP => ?_)
  have ok := tX_sale_3 ok (77 + y3.toNatClampNeg) hk4.1 hk4.2 hn17
  have ez18 : y3 = nu17 6 1 := ez13.trans (congrFun (up_k hn17 (ne_lo (by decide) hk4.1)) 1).symm
  have ez19 : vk = nu17 (77 + y3.toNatClampNeg) 1 := ez14.trans (up_f hn17 (by decide)).symm
  have ez20 : y11 = nu17 (61 + vk.toNatClampNeg) 5 := ez15.trans (congrFun (up_k hn17 (ne_ff hk1.2 (by decide) hk4.1)) 5).symm
  have ez21 : y11 = nu17 (77 + y3.toNatClampNeg) 2 := ez16.trans (up_f hn17 (by decide)).symm
  have ez22 : vx = nu17 (77 + y3.toNatClampNeg) 3 := up_v hn17
  refine lv_aload hx hb dX2_enterSale_71 (lv_at hl 0 rfl) ?_
  refine lv_iload hx hb dX2_enterSale_73 (lv_at hl 1 rfl) ?_
  refine va_put (D := (dC, dI)) (ci := 7) (v := .int r2) (ty := .int) (C := RX7) (T := TX7) (N := 7) hx hb hts inG7 tyX7 tyX7_ok nmX7 hown hK hP (wR_D nu17 hD) hS (77 + y3.toNatClampNeg) (gX_sale cs ad nu17 (77 + y3.toNatClampNeg) hk4.1 hk4.2) rfl 4 (by decide) (hts _ (List.mem_cons_of_mem _ mw_1_228)) (fun _ h9 => h9) rfl (by decide +kernel) rfl rfl (Nat.le_of_ble_eq_true rfl) dX2_enterSale_75 (fun H locs hP _ hS => ?_)
  simp only [List.set_cons_succ, List.set_cons_zero] at hP
  refine wr_gen (upd (nu17 (77 + y3.toNatClampNeg)) 4 r2) hP ((hX_sale_4 cs ad _ _ (77 + y3.toNatClampNeg) hk4.1 hk4.2)) (fun nu23 hn23 hP => ?_)
  have ok := tX_sale_4 ok (77 + y3.toNatClampNeg) hk4.1 hk4.2 hn23
  have ez24 : y3 = nu23 6 1 := ez18.trans (congrFun (up_k hn23 (ne_lo (by decide) hk4.1)) 1).symm
  have ez25 : vk = nu23 (77 + y3.toNatClampNeg) 1 := ez19.trans (up_f hn23 (by decide)).symm
  have ez26 : y11 = nu23 (61 + vk.toNatClampNeg) 5 := ez20.trans (congrFun (up_k hn23 (ne_ff hk1.2 (by decide) hk4.1)) 5).symm
  have ez27 : y11 = nu23 (77 + y3.toNatClampNeg) 2 := ez21.trans (up_f hn23 (by decide)).symm
  have ez28 : vx = nu23 (77 + y3.toNatClampNeg) 3 := ez22.trans (up_f hn23 (by decide)).symm
  have ez29 : r2 = nu23 (77 + y3.toNatClampNeg) 4 := up_v hn23
  refine lv_aload hx hb dX2_enterSale_78 (lv_at hl 0 rfl) ?_
  refine lv_aload hx hb dX2_enterSale_80 (lv_at hl 2 rfl) ?_
  refine va_get (D := (dC, dI)) (ci := 3) (v := .int (nu23 (61 + vk.toNatClampNeg) 6)) (C := RX3) (T := TX3) (N := 10) hx hb hts inG3 hown hK hP (61 + vk.toNatClampNeg) (gX_letter cs ad nu23 (61 + vk.toNatClampNeg) hk1.1 hk1.2) rfl 6 (by decide) (hts _ (List.mem_cons_of_mem _ mw_1_68)) (fun _ h9 => h9) rfl dX2_enterSale_82 ?_
  refine lv_topi (fun y30 ey30 => ?_)
  have by30 : y30.toInt = (nu23 (61 + vk.toNatClampNeg) 6).toInt := congrArg Int32.toInt ey30
  refine va_put (D := (dC, dI)) (ci := 7) (v := .int y30) (ty := .int) (C := RX7) (T := TX7) (N := 7) hx hb hts inG7 tyX7 tyX7_ok nmX7 hown hK hP (wR_D nu23 hD) hS (77 + y3.toNatClampNeg) (gX_sale cs ad nu23 (77 + y3.toNatClampNeg) hk4.1 hk4.2) rfl 5 (by decide) (hts _ (List.mem_cons_of_mem _ mw_1_229)) (fun _ h9 => h9) rfl (by decide +kernel) rfl rfl (Nat.le_of_ble_eq_true rfl) dX2_enterSale_85 (fun H locs hP _ hS => ?_)
  simp only [List.set_cons_succ, List.set_cons_zero] at hP
  refine wr_gen (upd (nu23 (77 + y3.toNatClampNeg)) 5 y30) hP ((hX_sale_5 cs ad _ _ (77 + y3.toNatClampNeg) hk4.1 hk4.2)) (fun nu31 hn31 hP => ?_)
  have ok := tX_sale_5 ok (77 + y3.toNatClampNeg) hk4.1 hk4.2 hn31
  have ez32 : y3 = nu31 6 1 := ez24.trans (congrFun (up_k hn31 (ne_lo (by decide) hk4.1)) 1).symm
  have ez33 : vk = nu31 (77 + y3.toNatClampNeg) 1 := ez25.trans (up_f hn31 (by decide)).symm
  have ez34 : y11 = nu31 (61 + vk.toNatClampNeg) 5 := ez26.trans (congrFun (up_k hn31 (ne_ff hk1.2 (by decide) hk4.1)) 5).symm
  have ez35 : y11 = nu31 (77 + y3.toNatClampNeg) 2 := ez27.trans (up_f hn31 (by decide)).symm
  have ez36 : vx = nu31 (77 + y3.toNatClampNeg) 3 := ez28.trans (up_f hn31 (by decide)).symm
  have ez37 : r2 = nu31 (77 + y3.toNatClampNeg) 4 := ez29.trans (up_f hn31 (by decide)).symm
  have ez38 : y30 = nu31 (61 + vk.toNatClampNeg) 6 := ey30.trans (congrFun (up_k hn31 (ne_ff hk1.2 (by decide) hk4.1)) 6).symm
  have ez39 : y30 = nu31 (77 + y3.toNatClampNeg) 5 := up_v hn31
  refine lv_aload hx hb dX2_enterSale_88 (lv_at hl 0 rfl) ?_
  refine lv_aload hx hb dX2_enterSale_90 (lv_at hl 2 rfl) ?_
  refine va_get (D := (dC, dI)) (ci := 3) (v := .int (nu31 (61 + vk.toNatClampNeg) 7)) (C := RX3) (T := TX3) (N := 10) hx hb hts inG3 hown hK hP (61 + vk.toNatClampNeg) (gX_letter cs ad nu31 (61 + vk.toNatClampNeg) hk1.1 hk1.2) rfl 7 (by decide) (hts _ (List.mem_cons_of_mem _ mw_1_73)) (fun _ h9 => h9) rfl dX2_enterSale_92 ?_
  refine lv_topi (fun y40 ey40 => ?_)
  have by40 : y40.toInt = (nu31 (61 + vk.toNatClampNeg) 7).toInt := congrArg Int32.toInt ey40
  refine va_put (D := (dC, dI)) (ci := 7) (v := .int y40) (ty := .int) (C := RX7) (T := TX7) (N := 7) hx hb hts inG7 tyX7 tyX7_ok nmX7 hown hK hP (wR_D nu31 hD) hS (77 + y3.toNatClampNeg) (gX_sale cs ad nu31 (77 + y3.toNatClampNeg) hk4.1 hk4.2) rfl 6 (by decide) (hts _ (List.mem_cons_of_mem _ mw_1_230)) (fun _ h9 => h9) rfl (by decide +kernel) rfl rfl (Nat.le_of_ble_eq_true rfl) dX2_enterSale_95 (fun H locs hP _ hS => ?_)
  simp only [List.set_cons_succ, List.set_cons_zero] at hP
  refine wr_gen (upd (nu31 (77 + y3.toNatClampNeg)) 6 y40) hP ((hX_sale_6 cs ad _ _ (77 + y3.toNatClampNeg) hk4.1 hk4.2)) (fun nu41 hn41 hP => ?_)
  have ok := tX_sale_6 ok (77 + y3.toNatClampNeg) hk4.1 hk4.2 hn41
  have ez42 : y3 = nu41 6 1 := ez32.trans (congrFun (up_k hn41 (ne_lo (by decide) hk4.1)) 1).symm
  have ez43 : vk = nu41 (77 + y3.toNatClampNeg) 1 := ez33.trans (up_f hn41 (by decide)).symm
  have ez44 : y11 = nu41 (61 + vk.toNatClampNeg) 5 := ez34.trans (congrFun (up_k hn41 (ne_ff hk1.2 (by decide) hk4.1)) 5).symm
  have ez45 : y11 = nu41 (77 + y3.toNatClampNeg) 2 := ez35.trans (up_f hn41 (by decide)).symm
  have ez46 : vx = nu41 (77 + y3.toNatClampNeg) 3 := ez36.trans (up_f hn41 (by decide)).symm
  have ez47 : r2 = nu41 (77 + y3.toNatClampNeg) 4 := ez37.trans (up_f hn41 (by decide)).symm
  have ez48 : y30 = nu41 (61 + vk.toNatClampNeg) 6 := ez38.trans (congrFun (up_k hn41 (ne_ff hk1.2 (by decide) hk4.1)) 6).symm
  have ez49 : y30 = nu41 (77 + y3.toNatClampNeg) 5 := ez39.trans (up_f hn41 (by decide)).symm
  have ez50 : y40 = nu41 (61 + vk.toNatClampNeg) 7 := ey40.trans (congrFun (up_k hn41 (ne_ff hk1.2 (by decide) hk4.1)) 7).symm
  have ez51 : y40 = nu41 (77 + y3.toNatClampNeg) 6 := up_v hn41
  refine lv_aload_n hx hb dX2_enterSale_98 rfl (lv_at hl 3 rfl) ?_
  refine lv_dup hx hb dX2_enterSale_99 rfl ?_
  refine va_get (D := (dC, dI)) (ci := 2) (v := .int (nu41 6 1)) (C := RX2) (T := TX2) (N := 2) hx hb hts inG2 hown hK hP 6 (gX_6 cs ad nu41) rfl 1 (by decide) (hts _ (List.mem_cons_of_mem _ mw_2_7)) (fun _ h9 => h9) rfl dX2_enterSale_100 ?_
  refine lq_i y3 ez42.symm ?_
  refine lv_iconst (v := 1) hx hb dX2_enterSale_103 (by decide) ?_
  refine lv_iadd hx hb dX2_enterSale_104 ?_
  refine lv_topi (fun t52 et52 => ?_)
  have at52 : t52.toInt = y3.toInt + 1 := by rw [et52]; exact tI_add (rfl : y3.toInt = _) (rfl : (1 : Int32).toInt = 1) (by omega) (by omega)
  refine va_put (D := (dC, dI)) (ci := 2) (v := .int t52) (ty := .int) (C := RX2) (T := TX2) (N := 2) hx hb hts inG2 tyX2 tyX2_ok nmX2 hown hK hP (wR_D nu41 hD) hS 6 (gX_6 cs ad nu41) rfl 1 (by decide) (hts _ (List.mem_cons_of_mem _ mw_2_7)) (fun _ h9 => h9) rfl (by decide +kernel) rfl rfl (Nat.le_of_ble_eq_true rfl) dX2_enterSale_105 (fun H locs hP _ hS => ?_)
  simp only [List.set_cons_succ, List.set_cons_zero] at hP
  refine wr_gen (upd (nu41 6) 1 t52) hP ((hX_6_1 cs ad _ _)) (fun nu53 hn53 hP => ?_)
  have ok := tX_6_1 ok hn53 (by exact ⟨by omega, by omega⟩)
  have ez54 : vk = nu53 (77 + y3.toNatClampNeg) 1 := ez43.trans (congrFun (up_k hn53 (ne_lo (by decide) hk4.1).symm) 1).symm
  have ez55 : y11 = nu53 (61 + vk.toNatClampNeg) 5 := ez44.trans (congrFun (up_k hn53 (ne_lo (by decide) hk1.1).symm) 5).symm
  have ez56 : y11 = nu53 (77 + y3.toNatClampNeg) 2 := ez45.trans (congrFun (up_k hn53 (ne_lo (by decide) hk4.1).symm) 2).symm
  have ez57 : vx = nu53 (77 + y3.toNatClampNeg) 3 := ez46.trans (congrFun (up_k hn53 (ne_lo (by decide) hk4.1).symm) 3).symm
  have ez58 : r2 = nu53 (77 + y3.toNatClampNeg) 4 := ez47.trans (congrFun (up_k hn53 (ne_lo (by decide) hk4.1).symm) 4).symm
  have ez59 : y30 = nu53 (61 + vk.toNatClampNeg) 6 := ez48.trans (congrFun (up_k hn53 (ne_lo (by decide) hk1.1).symm) 6).symm
  have ez60 : y30 = nu53 (77 + y3.toNatClampNeg) 5 := ez49.trans (congrFun (up_k hn53 (ne_lo (by decide) hk4.1).symm) 5).symm
  have ez61 : y40 = nu53 (61 + vk.toNatClampNeg) 7 := ez50.trans (congrFun (up_k hn53 (ne_lo (by decide) hk1.1).symm) 7).symm
  have ez62 : y40 = nu53 (77 + y3.toNatClampNeg) 6 := ez51.trans (congrFun (up_k hn53 (ne_lo (by decide) hk4.1).symm) 6).symm
  have ez63 : t52 = nu53 6 1 := up_v hn53
  refine lv_aload_n hx hb dX2_enterSale_108 rfl (lv_at hl 4 rfl) ?_
  refine va_get (D := (dC, dI)) (ci := 10) (v := .ref (ad 5)) (C := RX10) (T := TX10) (N := 8) hx hb hts inG10 hown hK hP 4 (gX_4 cs ad nu53) rfl 3 (by decide) (hts _ (List.mem_cons_of_mem _ mw_1_154)) (fun _ h9 => h9) rfl dX2_enterSale_109 ?_
  refine va_get (D := (dC, dI)) (ci := 8) (v := .ref (ad 46)) (C := RX8) (T := TX8) (N := 6) hx hb hts inG8 hown hK hP 5 (gX_5 cs ad nu53) rfl 0 (by decide) (hts _ (List.mem_cons_of_mem _ mw_1_105)) (fun _ h9 => h9) rfl dX2_enterSale_112 ?_
  refine lv_iload_n hx hb dX2_enterSale_115 rfl (lv_at hl 6 rfl) ?_
  refine lv_dup2_11 hx hb dX2_enterSale_116 rfl rfl ?_
  refine va_iald hx hb hK hP 46 0 (gX_46 cs ad nu53) rfl (show vp_in vx 7 from vi_of (by omega) (by omega)) dX2_enterSale_117 ?_
  refine lv_topi (fun y64 ey64 => ?_)
  have by64 : y64.toInt = (nu53 46 vx.toNatClampNeg).toInt := congrArg Int32.toInt ey64
  refine lv_iload hx hb dX2_enterSale_118 (lv_at hl 1 rfl) ?_
  refine lv_isub hx hb dX2_enterSale_120 ?_
  refine lv_topi (fun t65 et65 => ?_)
  refine va_iast hx hb hK hP (wR_D nu53 hD) hS 46 0 (gX_46 cs ad nu53) rfl (show vp_in vx 7 from vi_of (by omega) (by omega)) dX2_enterSale_121 (fun H locs hP _ hS => ?_)
  refine wr_gen (upd (nu53 46) vx.toNatClampNeg t65) hP (rfl) (fun nu66 hn66 hP => ?_)
  have ok := tX_46_s ok vx.toNatClampNeg hn66
  have ez67 : vk = nu66 (77 + y3.toNatClampNeg) 1 := ez54.trans (congrFun (up_k hn66 (ne_lo (by decide) hk4.1).symm) 1).symm
  have ez68 : y11 = nu66 (61 + vk.toNatClampNeg) 5 := ez55.trans (congrFun (up_k hn66 (ne_lo (by decide) hk1.1).symm) 5).symm
  have ez69 : y11 = nu66 (77 + y3.toNatClampNeg) 2 := ez56.trans (congrFun (up_k hn66 (ne_lo (by decide) hk4.1).symm) 2).symm
  have ez70 : vx = nu66 (77 + y3.toNatClampNeg) 3 := ez57.trans (congrFun (up_k hn66 (ne_lo (by decide) hk4.1).symm) 3).symm
  have ez71 : r2 = nu66 (77 + y3.toNatClampNeg) 4 := ez58.trans (congrFun (up_k hn66 (ne_lo (by decide) hk4.1).symm) 4).symm
  have ez72 : y30 = nu66 (61 + vk.toNatClampNeg) 6 := ez59.trans (congrFun (up_k hn66 (ne_lo (by decide) hk1.1).symm) 6).symm
  have ez73 : y30 = nu66 (77 + y3.toNatClampNeg) 5 := ez60.trans (congrFun (up_k hn66 (ne_lo (by decide) hk4.1).symm) 5).symm
  have ez74 : y40 = nu66 (61 + vk.toNatClampNeg) 7 := ez61.trans (congrFun (up_k hn66 (ne_lo (by decide) hk1.1).symm) 7).symm
  have ez75 : y40 = nu66 (77 + y3.toNatClampNeg) 6 := ez62.trans (congrFun (up_k hn66 (ne_lo (by decide) hk4.1).symm) 6).symm
  have ez76 : t52 = nu66 6 1 := ez63.trans (congrFun (up_k hn66 (by decide)) 1).symm
  refine lv_aload_n hx hb dX2_enterSale_122 rfl (lv_at hl 4 rfl) ?_
  refine va_get (D := (dC, dI)) (ci := 10) (v := .ref (ad 5)) (C := RX10) (T := TX10) (N := 8) hx hb hts inG10 hown hK hP 4 (gX_4 cs ad nu66) rfl 3 (by decide) (hts _ (List.mem_cons_of_mem _ mw_1_154)) (fun _ h9 => h9) rfl dX2_enterSale_123 ?_
  refine va_get (D := (dC, dI)) (ci := 8) (v := .ref (ad 46)) (C := RX8) (T := TX8) (N := 6) hx hb hts inG8 hown hK hP 5 (gX_5 cs ad nu66) rfl 0 (by decide) (hts _ (List.mem_cons_of_mem _ mw_1_105)) (fun _ h9 => h9) rfl dX2_enterSale_126 ?_
  refine lv_aload hx hb dX2_enterSale_129 (lv_at hl 2 rfl) ?_
  refine va_get (D := (dC, dI)) (ci := 3) (v := .int (nu66 (61 + vk.toNatClampNeg) 5)) (C := RX3) (T := TX3) (N := 10) hx hb hts inG3 hown hK hP (61 + vk.toNatClampNeg) (gX_letter cs ad nu66 (61 + vk.toNatClampNeg) hk1.1 hk1.2) rfl 5 (by decide) (hts _ (List.mem_cons_of_mem _ mw_1_63)) (fun _ h9 => h9) rfl dX2_enterSale_131 ?_
  refine lq_i y11 ez68.symm ?_
  refine lv_dup2_11 hx hb dX2_enterSale_134 rfl rfl ?_
  refine va_iald hx hb hK hP 46 0 (gX_46 cs ad nu66) rfl (show vp_in y11 7 from vi_of (by omega) (by omega)) dX2_enterSale_135 ?_
  refine lv_topi (fun y77 ey77 => ?_)
  have by77 : y77.toInt = (nu66 46 y11.toNatClampNeg).toInt := congrArg Int32.toInt ey77
  refine lv_iload hx hb dX2_enterSale_136 (lv_at hl 1 rfl) ?_
  refine lv_iadd hx hb dX2_enterSale_138 ?_
  refine lv_topi (fun t78 et78 => ?_)
  refine va_iast hx hb hK hP (wR_D nu66 hD) hS 46 0 (gX_46 cs ad nu66) rfl (show vp_in y11 7 from vi_of (by omega) (by omega)) dX2_enterSale_139 (fun H locs hP _ hS => ?_)
  refine wr_gen (upd (nu66 46) y11.toNatClampNeg t78) hP (rfl) (fun nu79 hn79 hP => ?_)
  have ok := tX_46_s ok y11.toNatClampNeg hn79
  have ez80 : vk = nu79 (77 + y3.toNatClampNeg) 1 := ez67.trans (congrFun (up_k hn79 (ne_lo (by decide) hk4.1).symm) 1).symm
  have ez81 : y11 = nu79 (61 + vk.toNatClampNeg) 5 := ez68.trans (congrFun (up_k hn79 (ne_lo (by decide) hk1.1).symm) 5).symm
  have ez82 : y11 = nu79 (77 + y3.toNatClampNeg) 2 := ez69.trans (congrFun (up_k hn79 (ne_lo (by decide) hk4.1).symm) 2).symm
  have ez83 : vx = nu79 (77 + y3.toNatClampNeg) 3 := ez70.trans (congrFun (up_k hn79 (ne_lo (by decide) hk4.1).symm) 3).symm
  have ez84 : r2 = nu79 (77 + y3.toNatClampNeg) 4 := ez71.trans (congrFun (up_k hn79 (ne_lo (by decide) hk4.1).symm) 4).symm
  have ez85 : y30 = nu79 (61 + vk.toNatClampNeg) 6 := ez72.trans (congrFun (up_k hn79 (ne_lo (by decide) hk1.1).symm) 6).symm
  have ez86 : y30 = nu79 (77 + y3.toNatClampNeg) 5 := ez73.trans (congrFun (up_k hn79 (ne_lo (by decide) hk4.1).symm) 5).symm
  have ez87 : y40 = nu79 (61 + vk.toNatClampNeg) 7 := ez74.trans (congrFun (up_k hn79 (ne_lo (by decide) hk1.1).symm) 7).symm
  have ez88 : y40 = nu79 (77 + y3.toNatClampNeg) 6 := ez75.trans (congrFun (up_k hn79 (ne_lo (by decide) hk4.1).symm) 6).symm
  have ez89 : t52 = nu79 6 1 := ez76.trans (congrFun (up_k hn79 (by decide)) 1).symm
  refine lv_aload hx hb dX2_enterSale_140 (lv_at hl 2 rfl) ?_
  refine lv_iload_n hx hb dX2_enterSale_142 rfl (lv_at hl 6 rfl) ?_
  refine va_put (D := (dC, dI)) (ci := 3) (v := .int vx) (ty := .int) (C := RX3) (T := TX3) (N := 10) hx hb hts inG3 tyX3 tyX3_ok nmX3 hown hK hP (wR_D nu79 hD) hS (61 + vk.toNatClampNeg) (gX_letter cs ad nu79 (61 + vk.toNatClampNeg) hk1.1 hk1.2) rfl 5 (by decide) (hts _ (List.mem_cons_of_mem _ mw_1_63)) (fun _ h9 => h9) rfl (by decide +kernel) rfl rfl (Nat.le_of_ble_eq_true rfl) dX2_enterSale_143 (fun H locs hP _ hS => ?_)
  simp only [List.set_cons_succ, List.set_cons_zero] at hP
  refine wr_gen (upd (nu79 (61 + vk.toNatClampNeg)) 5 vx) hP ((hX_letter_5 cs ad _ _ (61 + vk.toNatClampNeg) hk1.1 hk1.2)) (fun nu90 hn90 hP => ?_)
  have ok := tX_letter_5 ok (61 + vk.toNatClampNeg) hk1.1 hk1.2 hn90 (by exact ⟨by omega, by omega⟩)
  have ez91 : vk = nu90 (77 + y3.toNatClampNeg) 1 := ez80.trans (congrFun (up_k hn90 (ne_gg hk4.1 (by decide) hk1.2)) 1).symm
  have ez92 : y11 = nu90 (77 + y3.toNatClampNeg) 2 := ez82.trans (congrFun (up_k hn90 (ne_gg hk4.1 (by decide) hk1.2)) 2).symm
  have ez93 : vx = nu90 (77 + y3.toNatClampNeg) 3 := ez83.trans (congrFun (up_k hn90 (ne_gg hk4.1 (by decide) hk1.2)) 3).symm
  have ez94 : r2 = nu90 (77 + y3.toNatClampNeg) 4 := ez84.trans (congrFun (up_k hn90 (ne_gg hk4.1 (by decide) hk1.2)) 4).symm
  have ez95 : y30 = nu90 (61 + vk.toNatClampNeg) 6 := ez85.trans (up_f hn90 (by decide)).symm
  have ez96 : y30 = nu90 (77 + y3.toNatClampNeg) 5 := ez86.trans (congrFun (up_k hn90 (ne_gg hk4.1 (by decide) hk1.2)) 5).symm
  have ez97 : y40 = nu90 (61 + vk.toNatClampNeg) 7 := ez87.trans (up_f hn90 (by decide)).symm
  have ez98 : y40 = nu90 (77 + y3.toNatClampNeg) 6 := ez88.trans (congrFun (up_k hn90 (ne_gg hk4.1 (by decide) hk1.2)) 6).symm
  have ez99 : t52 = nu90 6 1 := ez89.trans (congrFun (up_k hn90 (ne_lo (by decide) hk1.1)) 1).symm
  have ez100 : vx = nu90 (61 + vk.toNatClampNeg) 5 := up_v hn90
  refine lv_aload hx hb dX2_enterSale_146 (lv_at hl 2 rfl) ?_
  refine lv_iload hx hb dX2_enterSale_148 (lv_at hl 1 rfl) ?_
  refine va_put (D := (dC, dI)) (ci := 3) (v := .int r2) (ty := .int) (C := RX3) (T := TX3) (N := 10) hx hb hts inG3 tyX3 tyX3_ok nmX3 hown hK hP (wR_D nu90 hD) hS (61 + vk.toNatClampNeg) (gX_letter cs ad nu90 (61 + vk.toNatClampNeg) hk1.1 hk1.2) rfl 6 (by decide) (hts _ (List.mem_cons_of_mem _ mw_1_68)) (fun _ h9 => h9) rfl (by decide +kernel) rfl rfl (Nat.le_of_ble_eq_true rfl) dX2_enterSale_150 (fun H locs hP _ hS => ?_)
  simp only [List.set_cons_succ, List.set_cons_zero] at hP
  refine wr_gen (upd (nu90 (61 + vk.toNatClampNeg)) 6 r2) hP ((hX_letter_6 cs ad _ _ (61 + vk.toNatClampNeg) hk1.1 hk1.2)) (fun nu101 hn101 hP => ?_)
  have ok := tX_letter_6 ok (61 + vk.toNatClampNeg) hk1.1 hk1.2 hn101
  have ez102 : vk = nu101 (77 + y3.toNatClampNeg) 1 := ez91.trans (congrFun (up_k hn101 (ne_gg hk4.1 (by decide) hk1.2)) 1).symm
  have ez103 : y11 = nu101 (77 + y3.toNatClampNeg) 2 := ez92.trans (congrFun (up_k hn101 (ne_gg hk4.1 (by decide) hk1.2)) 2).symm
  have ez104 : vx = nu101 (77 + y3.toNatClampNeg) 3 := ez93.trans (congrFun (up_k hn101 (ne_gg hk4.1 (by decide) hk1.2)) 3).symm
  have ez105 : r2 = nu101 (77 + y3.toNatClampNeg) 4 := ez94.trans (congrFun (up_k hn101 (ne_gg hk4.1 (by decide) hk1.2)) 4).symm
  have ez106 : y30 = nu101 (77 + y3.toNatClampNeg) 5 := ez96.trans (congrFun (up_k hn101 (ne_gg hk4.1 (by decide) hk1.2)) 5).symm
  have ez107 : y40 = nu101 (61 + vk.toNatClampNeg) 7 := ez97.trans (up_f hn101 (by decide)).symm
  have ez108 : y40 = nu101 (77 + y3.toNatClampNeg) 6 := ez98.trans (congrFun (up_k hn101 (ne_gg hk4.1 (by decide) hk1.2)) 6).symm
  have ez109 : t52 = nu101 6 1 := ez99.trans (congrFun (up_k hn101 (ne_lo (by decide) hk1.1)) 1).symm
  have ez110 : vx = nu101 (61 + vk.toNatClampNeg) 5 := ez100.trans (up_f hn101 (by decide)).symm
  have ez111 : r2 = nu101 (61 + vk.toNatClampNeg) 6 := up_v hn101
  refine lv_aload hx hb dX2_enterSale_153 (lv_at hl 2 rfl) ?_
  refine lv_aload_n hx hb dX2_enterSale_155 rfl (lv_at hl 4 rfl) ?_
  refine va_get (D := (dC, dI)) (ci := 10) (v := .ref (ad 5)) (C := RX10) (T := TX10) (N := 8) hx hb hts inG10 hown hK hP 4 (gX_4 cs ad nu101) rfl 3 (by decide) (hts _ (List.mem_cons_of_mem _ mw_1_154)) (fun _ h9 => h9) rfl dX2_enterSale_156 ?_
  refine va_get (D := (dC, dI)) (ci := 8) (v := .int (nu101 5 3)) (C := RX8) (T := TX8) (N := 6) hx hb hts inG8 hown hK hP 5 (gX_5 cs ad nu101) rfl 3 (by decide) (hts _ (List.mem_cons_of_mem _ mw_1_121)) (fun _ h9 => h9) rfl dX2_enterSale_159 ?_
  refine lv_topi (fun y112 ey112 => ?_)
  have by112 : y112.toInt = (nu101 5 3).toInt := congrArg Int32.toInt ey112
  refine va_put (D := (dC, dI)) (ci := 3) (v := .int y112) (ty := .int) (C := RX3) (T := TX3) (N := 10) hx hb hts inG3 tyX3 tyX3_ok nmX3 hown hK hP (wR_D nu101 hD) hS (61 + vk.toNatClampNeg) (gX_letter cs ad nu101 (61 + vk.toNatClampNeg) hk1.1 hk1.2) rfl 7 (by decide) (hts _ (List.mem_cons_of_mem _ mw_1_73)) (fun _ h9 => h9) rfl (by decide +kernel) rfl rfl (Nat.le_of_ble_eq_true rfl) dX2_enterSale_162 (fun H locs hP _ hS => ?_)
  simp only [List.set_cons_succ, List.set_cons_zero] at hP
  refine wr_gen (upd (nu101 (61 + vk.toNatClampNeg)) 7 y112) hP ((hX_letter_7 cs ad _ _ (61 + vk.toNatClampNeg) hk1.1 hk1.2)) (fun nu113 hn113 hP => ?_)
  have ok := tX_letter_7 ok (61 + vk.toNatClampNeg) hk1.1 hk1.2 hn113
  have ez114 : vk = nu113 (77 + y3.toNatClampNeg) 1 := ez102.trans (congrFun (up_k hn113 (ne_gg hk4.1 (by decide) hk1.2)) 1).symm
  have ez115 : y11 = nu113 (77 + y3.toNatClampNeg) 2 := ez103.trans (congrFun (up_k hn113 (ne_gg hk4.1 (by decide) hk1.2)) 2).symm
  have ez116 : vx = nu113 (77 + y3.toNatClampNeg) 3 := ez104.trans (congrFun (up_k hn113 (ne_gg hk4.1 (by decide) hk1.2)) 3).symm
  have ez117 : r2 = nu113 (77 + y3.toNatClampNeg) 4 := ez105.trans (congrFun (up_k hn113 (ne_gg hk4.1 (by decide) hk1.2)) 4).symm
  have ez118 : y30 = nu113 (77 + y3.toNatClampNeg) 5 := ez106.trans (congrFun (up_k hn113 (ne_gg hk4.1 (by decide) hk1.2)) 5).symm
  have ez119 : y40 = nu113 (77 + y3.toNatClampNeg) 6 := ez108.trans (congrFun (up_k hn113 (ne_gg hk4.1 (by decide) hk1.2)) 6).symm
  have ez120 : t52 = nu113 6 1 := ez109.trans (congrFun (up_k hn113 (ne_lo (by decide) hk1.1)) 1).symm
  have ez121 : vx = nu113 (61 + vk.toNatClampNeg) 5 := ez110.trans (up_f hn113 (by decide)).symm
  have ez122 : r2 = nu113 (61 + vk.toNatClampNeg) 6 := ez111.trans (up_f hn113 (by decide)).symm
  have ez123 : y112 = nu113 5 3 := ey112.trans (congrFun (up_k hn113 (ne_lo (by decide) hk1.1)) 3).symm
  have ez124 : y112 = nu113 (61 + vk.toNatClampNeg) 7 := up_v hn113
  refine lv_aload hx hb dX2_enterSale_165 (lv_at hl 2 rfl) ?_
  refine lv_dup hx hb dX2_enterSale_167 rfl ?_
  refine va_get (D := (dC, dI)) (ci := 3) (v := .int (nu113 (61 + vk.toNatClampNeg) 8)) (C := RX3) (T := TX3) (N := 10) hx hb hts inG3 hown hK hP (61 + vk.toNatClampNeg) (gX_letter cs ad nu113 (61 + vk.toNatClampNeg) hk1.1 hk1.2) rfl 8 (by decide) (hts _ (List.mem_cons_of_mem _ mw_1_76)) (fun _ h9 => h9) rfl dX2_enterSale_168 ?_
  refine lv_topi (fun y125 ey125 => ?_)
  have by125 : y125.toInt = (nu113 (61 + vk.toNatClampNeg) 8).toInt := congrArg Int32.toInt ey125
  refine lv_iconst (v := 1) hx hb dX2_enterSale_171 (by decide) ?_
  refine lv_iadd hx hb dX2_enterSale_172 ?_
  refine lv_topi (fun t126 et126 => ?_)
  refine va_put (D := (dC, dI)) (ci := 3) (v := .int t126) (ty := .int) (C := RX3) (T := TX3) (N := 10) hx hb hts inG3 tyX3 tyX3_ok nmX3 hown hK hP (wR_D nu113 hD) hS (61 + vk.toNatClampNeg) (gX_letter cs ad nu113 (61 + vk.toNatClampNeg) hk1.1 hk1.2) rfl 8 (by decide) (hts _ (List.mem_cons_of_mem _ mw_1_76)) (fun _ h9 => h9) rfl (by decide +kernel) rfl rfl (Nat.le_of_ble_eq_true rfl) dX2_enterSale_173 (fun H locs hP _ hS => ?_)
  simp only [List.set_cons_succ, List.set_cons_zero] at hP
  refine wr_gen (upd (nu113 (61 + vk.toNatClampNeg)) 8 t126) hP ((hX_letter_8 cs ad _ _ (61 + vk.toNatClampNeg) hk1.1 hk1.2)) (fun nu127 hn127 hP => ?_)
  have ok := tX_letter_8 ok (61 + vk.toNatClampNeg) hk1.1 hk1.2 hn127
  have ez128 : vk = nu127 (77 + y3.toNatClampNeg) 1 := ez114.trans (congrFun (up_k hn127 (ne_gg hk4.1 (by decide) hk1.2)) 1).symm
  have ez129 : y11 = nu127 (77 + y3.toNatClampNeg) 2 := ez115.trans (congrFun (up_k hn127 (ne_gg hk4.1 (by decide) hk1.2)) 2).symm
  have ez130 : vx = nu127 (77 + y3.toNatClampNeg) 3 := ez116.trans (congrFun (up_k hn127 (ne_gg hk4.1 (by decide) hk1.2)) 3).symm
  have ez131 : r2 = nu127 (77 + y3.toNatClampNeg) 4 := ez117.trans (congrFun (up_k hn127 (ne_gg hk4.1 (by decide) hk1.2)) 4).symm
  have ez132 : y30 = nu127 (77 + y3.toNatClampNeg) 5 := ez118.trans (congrFun (up_k hn127 (ne_gg hk4.1 (by decide) hk1.2)) 5).symm
  have ez133 : y40 = nu127 (77 + y3.toNatClampNeg) 6 := ez119.trans (congrFun (up_k hn127 (ne_gg hk4.1 (by decide) hk1.2)) 6).symm
  have ez134 : t52 = nu127 6 1 := ez120.trans (congrFun (up_k hn127 (ne_lo (by decide) hk1.1)) 1).symm
  have ez135 : vx = nu127 (61 + vk.toNatClampNeg) 5 := ez121.trans (up_f hn127 (by decide)).symm
  have ez136 : r2 = nu127 (61 + vk.toNatClampNeg) 6 := ez122.trans (up_f hn127 (by decide)).symm
  have ez137 : y112 = nu127 5 3 := ez123.trans (congrFun (up_k hn127 (ne_lo (by decide) hk1.1)) 3).symm
  have ez138 : y112 = nu127 (61 + vk.toNatClampNeg) 7 := ez124.trans (up_f hn127 (by decide)).symm
  have ez139 : t126 = nu127 (61 + vk.toNatClampNeg) 8 := up_v hn127
  refine lv_aload hx hb dX2_enterSale_176 (lv_at hl 2 rfl) ?_
  refine lv_iload_n hx hb dX2_enterSale_178 rfl (lv_at hl 6 rfl) ?_
  refine lv_aload hx hb dX2_enterSale_179 (lv_at hl 2 rfl) ?_
  refine va_get (D := (dC, dI)) (ci := 3) (v := .int (nu127 (61 + vk.toNatClampNeg) 1)) (C := RX3) (T := TX3) (N := 10) hx hb hts inG3 hown hK hP (61 + vk.toNatClampNeg) (gX_letter cs ad nu127 (61 + vk.toNatClampNeg) hk1.1 hk1.2) rfl 1 (by decide) (hts _ (List.mem_cons_of_mem _ mw_1_54)) (fun _ h9 => h9) rfl dX2_enterSale_181 ?_
  refine lv_topi (fun y140 ey140 => ?_)
  have by140 : y140.toInt = (nu127 (61 + vk.toNatClampNeg) 1).toInt := congrArg Int32.toInt ey140
  have gy140 : 0 ≤ y140.toInt ∧ y140.toInt ≤ 6 := by rw [ey140]; exact rX_letter_1 ok (61 + vk.toNatClampNeg) hk1.1 hk1.2
  refine lv_icmp_ne (tgt := 191) hx hb dX2_enterSale_184 (by decide) (fun c_141 => ?_) (fun c_141 => ?_)
  · have c_141 : ¬ vx.toInt = y140.toInt := il_ne c_141
    refine lv_iconst (v := 0) hx hb dX2_enterSale_191 (by decide) ?_
    refine va_put (D := (dC, dI)) (ci := 3) (v := .int 0) (ty := .boolean) (C := RX3) (T := TX3) (N := 10) hx hb hts inG3 tyX3 tyX3_ok nmX3 hown hK hP (wR_D nu127 hD) hS (61 + vk.toNatClampNeg) (gX_letter cs ad nu127 (61 + vk.toNatClampNeg) hk1.1 hk1.2) rfl 9 (by decide) (hts _ (List.mem_cons_of_mem _ mw_1_78)) (fun _ h9 => h9) rfl (by decide +kernel) (by first | rfl | decide) (by first | rfl | decide) (Nat.le_of_ble_eq_true rfl) dX2_enterSale_192 (fun H locs hP _ hS => ?_)
    simp only [List.set_cons_succ, List.set_cons_zero] at hP
    refine wr_gen (upd (nu127 (61 + vk.toNatClampNeg)) 9 0) hP ((hX_letter_9 cs ad _ _ (61 + vk.toNatClampNeg) hk1.1 hk1.2)) (fun nu142 hn142 hP => ?_)
    have ok := tX_letter_9 ok (61 + vk.toNatClampNeg) hk1.1 hk1.2 hn142 (by have h9 : (0 : Int32).toInt = 0 := rfl; exact ⟨by omega, by omega⟩)
    have ez143 : vk = nu142 (77 + y3.toNatClampNeg) 1 := ez128.trans (congrFun (up_k hn142 (ne_gg hk4.1 (by decide) hk1.2)) 1).symm
    have ez144 : y11 = nu142 (77 + y3.toNatClampNeg) 2 := ez129.trans (congrFun (up_k hn142 (ne_gg hk4.1 (by decide) hk1.2)) 2).symm
    have ez145 : vx = nu142 (77 + y3.toNatClampNeg) 3 := ez130.trans (congrFun (up_k hn142 (ne_gg hk4.1 (by decide) hk1.2)) 3).symm
    have ez146 : r2 = nu142 (77 + y3.toNatClampNeg) 4 := ez131.trans (congrFun (up_k hn142 (ne_gg hk4.1 (by decide) hk1.2)) 4).symm
    have ez147 : y30 = nu142 (77 + y3.toNatClampNeg) 5 := ez132.trans (congrFun (up_k hn142 (ne_gg hk4.1 (by decide) hk1.2)) 5).symm
    have ez148 : y40 = nu142 (77 + y3.toNatClampNeg) 6 := ez133.trans (congrFun (up_k hn142 (ne_gg hk4.1 (by decide) hk1.2)) 6).symm
    have ez149 : t52 = nu142 6 1 := ez134.trans (congrFun (up_k hn142 (ne_lo (by decide) hk1.1)) 1).symm
    have ez150 : vx = nu142 (61 + vk.toNatClampNeg) 5 := ez135.trans (up_f hn142 (by decide)).symm
    have ez151 : r2 = nu142 (61 + vk.toNatClampNeg) 6 := ez136.trans (up_f hn142 (by decide)).symm
    have ez152 : y112 = nu142 5 3 := ez137.trans (congrFun (up_k hn142 (ne_lo (by decide) hk1.1)) 3).symm
    have ez153 : y112 = nu142 (61 + vk.toNatClampNeg) 7 := ez138.trans (up_f hn142 (by decide)).symm
    have ez154 : t126 = nu142 (61 + vk.toNatClampNeg) 8 := ez139.trans (up_f hn142 (by decide)).symm
    have ez155 : y140 = nu142 (61 + vk.toNatClampNeg) 1 := ey140.trans (up_f hn142 (by decide)).symm
    have ez156 : 0 = nu142 (61 + vk.toNatClampNeg) 9 := up_v hn142
    refine lv_iload hx hb dX2_enterSale_195 (lv_at hl 1 rfl) ?_
    exact W.iret (v := r2) hx hb hr (fun t ht hW => ⟨⟨r2, nu142, rfl, ⟨ok, trivial, trivial⟩, by first | (subst ht; exact hP) | (rw [ht]; exact hP) | (show va_P (dC, dI) vwCl (wR 157 ad (EX cs ad) nu142) t.heap; rw [ht]; exact hP)⟩, hS.F ht⟩) hS.2.2 dX2_enterSale_197
  · have c_141 : vx.toInt = y140.toInt := il_eq c_141
    refine lv_iconst (v := 1) hx hb dX2_enterSale_187 (by decide) ?_
    refine lv_goto (tgt := 192) hx hb dX2_enterSale_188 (by decide) ?_
    refine va_put (D := (dC, dI)) (ci := 3) (v := .int 1) (ty := .boolean) (C := RX3) (T := TX3) (N := 10) hx hb hts inG3 tyX3 tyX3_ok nmX3 hown hK hP (wR_D nu127 hD) hS (61 + vk.toNatClampNeg) (gX_letter cs ad nu127 (61 + vk.toNatClampNeg) hk1.1 hk1.2) rfl 9 (by decide) (hts _ (List.mem_cons_of_mem _ mw_1_78)) (fun _ h9 => h9) rfl (by decide +kernel) (by first | rfl | decide) (by first | rfl | decide) (Nat.le_of_ble_eq_true rfl) dX2_enterSale_192 (fun H locs hP _ hS => ?_)
    simp only [List.set_cons_succ, List.set_cons_zero] at hP
    refine wr_gen (upd (nu127 (61 + vk.toNatClampNeg)) 9 1) hP ((hX_letter_9 cs ad _ _ (61 + vk.toNatClampNeg) hk1.1 hk1.2)) (fun nu157 hn157 hP => ?_)
    have ok := tX_letter_9 ok (61 + vk.toNatClampNeg) hk1.1 hk1.2 hn157 (by have h9 : (1 : Int32).toInt = 1 := rfl; exact ⟨by omega, by omega⟩)
    have ez158 : vk = nu157 (77 + y3.toNatClampNeg) 1 := ez128.trans (congrFun (up_k hn157 (ne_gg hk4.1 (by decide) hk1.2)) 1).symm
    have ez159 : y11 = nu157 (77 + y3.toNatClampNeg) 2 := ez129.trans (congrFun (up_k hn157 (ne_gg hk4.1 (by decide) hk1.2)) 2).symm
    have ez160 : vx = nu157 (77 + y3.toNatClampNeg) 3 := ez130.trans (congrFun (up_k hn157 (ne_gg hk4.1 (by decide) hk1.2)) 3).symm
    have ez161 : r2 = nu157 (77 + y3.toNatClampNeg) 4 := ez131.trans (congrFun (up_k hn157 (ne_gg hk4.1 (by decide) hk1.2)) 4).symm
    have ez162 : y30 = nu157 (77 + y3.toNatClampNeg) 5 := ez132.trans (congrFun (up_k hn157 (ne_gg hk4.1 (by decide) hk1.2)) 5).symm
    have ez163 : y40 = nu157 (77 + y3.toNatClampNeg) 6 := ez133.trans (congrFun (up_k hn157 (ne_gg hk4.1 (by decide) hk1.2)) 6).symm
    have ez164 : t52 = nu157 6 1 := ez134.trans (congrFun (up_k hn157 (ne_lo (by decide) hk1.1)) 1).symm
    have ez165 : vx = nu157 (61 + vk.toNatClampNeg) 5 := ez135.trans (up_f hn157 (by decide)).symm
    have ez166 : r2 = nu157 (61 + vk.toNatClampNeg) 6 := ez136.trans (up_f hn157 (by decide)).symm
    have ez167 : y112 = nu157 5 3 := ez137.trans (congrFun (up_k hn157 (ne_lo (by decide) hk1.1)) 3).symm
    have ez168 : y112 = nu157 (61 + vk.toNatClampNeg) 7 := ez138.trans (up_f hn157 (by decide)).symm
    have ez169 : t126 = nu157 (61 + vk.toNatClampNeg) 8 := ez139.trans (up_f hn157 (by decide)).symm
    have ez170 : y140 = nu157 (61 + vk.toNatClampNeg) 1 := ey140.trans (up_f hn157 (by decide)).symm
    have ez171 : 1 = nu157 (61 + vk.toNatClampNeg) 9 := up_v hn157
    refine lv_iload hx hb dX2_enterSale_195 (lv_at hl 1 rfl) ?_
    exact W.iret (v := r2) hx hb hr (fun t ht hW => ⟨⟨r2, nu157, rfl, ⟨ok, trivial, trivial⟩, by first | (subst ht; exact hP) | (rw [ht]; exact hP) | (show va_P (dC, dI) vwCl (wR 157 ad (EX cs ad) nu157) t.heap; rw [ht]; exact hP)⟩, hS.F ht⟩) hS.2.2 dX2_enterSale_197
